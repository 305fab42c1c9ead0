theorem xs_ne {h : xx_H} {i j : Nat} {e : xx_E} (hne : i ≠ j) : (h.set i e)[j]? = h[j]? := List.getElem?_set_ne hne
theorem xs_self {h : xx_H} {i : Nat} {e e1 : xx_E} (hi : h[i]? = some e1) : (h.set i e)[i]? = some e := List.getElem?_set_self (List.getElem?_eq_some_iff.mp hi).1
theorem xq_len {h l : xx_H} : (h ++ l).length = h.length + l.length := by simp
theorem xq_sz {h l : xx_H} : xx_sz (h ++ l) = xx_sz h + xx_sz l := by simp [xx_sz]
theorem xm_row_init (z : Value) (d r : Nat) (n : Int32) (h : xx_H) (hr : h[r]? = some (.inr (0, [.null, .int 0]))) (hn0 : 12 ≤ r) (hn : ¬ n < 1) (hn2 : n.toNatClampNeg * 8 ≤ 536870912) : xx_cl (xt_P z) (d + 1) 2 [.ref r, .int n] h (fun v h1 => v = none ∧ h1 = (h ++ [(Sum.inl (FieldType.int, List.replicate n.toNatClampNeg (Value.int 0)) : xx_E)]).set r (.inr (0, [.ref h.length, .int 0]))) := by
  refine cl_go rfl ?_
  show xx_go (xt_P z) d 2 0 [some (.ref r), some (.int n)] [] h _
  refine go_a (pc' := 1) (ls' := [some (.ref r), some (.int n)]) (st' := [.ref r]) rfl rfl ?_
  refine go_o (st' := []) rfl rfl rfl rfl ?_
  refine go_a (pc' := 5) (ls' := [some (.ref r), some (.int n)]) (st' := [.ref r]) rfl rfl ?_
  refine go_a (pc' := 6) (ls' := [some (.ref r), some (.int n)]) (st' := [.int n, .ref r]) rfl rfl ?_
  refine go_a (pc' := 7) (ls' := [some (.ref r), some (.int n)]) (st' := [.int 1, .int n, .ref r]) rfl rfl ?_
  refine go_o (st' := [.int n, .ref r]) rfl rfl rfl (by
    show some ([Value.int (if n < 1 then 1 else n), .ref r], h) = _
    rw [if_neg hn]) ?_
  have hlt : ¬ n < 0 := fun q => hn (by
    rw [Int32.lt_iff_toInt_lt] at *
    have h1 : (1 : Int32).toInt = 1 := rfl
    have h0 : (0 : Int32).toInt = 0 := rfl
    omega)
  refine go_b (pc' := 12) (st' := [.ref h.length, .ref r]) (h' := h ++ [(Sum.inl (FieldType.int, List.replicate n.toNatClampNeg (Value.int 0)) : xx_E)]) rfl rfl (by
    show xb_newa .int 10 [.int n, .ref r] h = _
    unfold xb_newa
    dsimp only
    rw [decide_eq_true hlt, show Nat.ble (n.toNatClampNeg * 8) 536870912 = true from Nat.ble_eq_true_of_le hn2]
    rfl) ?_
  have hlen : r < h.length := (List.getElem?_eq_some_iff.mp hr).1
  refine go_b (pc' := 15) (st' := []) (h' := (h ++ [(Sum.inl (FieldType.int, List.replicate n.toNatClampNeg (Value.int 0)) : xx_E)]).set r (.inr (0, [.ref h.length, .int 0]))) rfl rfl (by
    show xb_put (xt_P z) 2 2 13 12 [.ref h.length, .ref r] _ = _
    unfold xb_put
    dsimp only
    rw [List.getElem?_append_left hlen, hr]
    dsimp only
    rw [show xp_fld (xt_P z) 2 13 0 = some 0 from rfl]
    dsimp only
    rw [show xp_fty (xt_P z) 0 0 = some (.array .int, none) from rfl]
    dsimp only
    rw [show Nat.ble (xp_n0 (xt_P z)) r = true from Nat.ble_eq_true_of_le hn0]
    rfl) ?_
  exact go_r rfl rfl rfl rfl rfl rfl ⟨rfl, rfl⟩
theorem xm_acoll (z : Value) (d a : Nat) (h : xx_H) : xx_cl (xt_P z) (d + 1) 27 [.ref a] h (fun w h1 => w = none ∧ h1 = h) := by
  refine cl_go rfl ?_
  show xx_go (xt_P z) d 27 0 [some (.ref a)] [] h _
  refine go_a (pc' := 1) (ls' := [some (.ref a)]) (st' := [(.ref a)]) rfl rfl ?_
  refine go_o (st' := []) rfl rfl rfl rfl ?_
  exact go_r rfl rfl rfl rfl rfl rfl ⟨rfl, rfl⟩
theorem xm_absl (z : Value) (d a : Nat) (h : xx_H) (ha : h[a]? = some (.inr (4, [.null, .int 0, .int 0]))) (hc : 12 ≤ a) : xx_cl (xt_P z) (d + 2) 26 [.ref a] h (fun w h1 => w = none ∧ h1 = h.set a (.inr (4, [.null, .int 0, .int 0]))) := by
  refine cl_go rfl ?_
  show xx_go (xt_P z) (d + 1) 26 0 [some (.ref a)] [] h _
  refine go_a (pc' := 1) (ls' := [some (.ref a)]) (st' := [(.ref a)]) rfl rfl ?_
  refine go_i (m := 27) (as := [.ref a]) (r := []) rfl rfl rfl rfl rfl (xm_acoll z d a h) (fun w h1 hq => ?_)
  obtain ⟨rfl, rfl⟩ := hq
  refine go_a (pc' := 5) (ls' := [some (.ref a)]) (st' := [(.ref a)]) rfl rfl ?_
  refine go_a (pc' := 6) (ls' := [some (.ref a)]) (st' := [(.int 0), (.ref a)]) rfl rfl ?_
  refine go_put (j := 2) rfl ha rfl rfl hc (Nat.lt_of_sub_pos (by simp)) rfl rfl ?_
  exact go_r rfl rfl rfl rfl rfl rfl ⟨rfl, rfl⟩
theorem xm_alist (z : Value) (d a : Nat) (h : xx_H) (ha : h[a]? = some (.inr (4, [.null, .int 0, .int 0]))) (hc : 12 ≤ a) : xx_cl (xt_P z) (d + 3) 25 [.ref a] h (fun w h1 => w = none ∧ h1 = h.set a (.inr (4, [.ref 10, .int 0, .int 0]))) := by
  refine cl_go rfl ?_
  show xx_go (xt_P z) (d + 2) 25 0 [some (.ref a)] [] h _
  refine go_a (pc' := 1) (ls' := [some (.ref a)]) (st' := [(.ref a)]) rfl rfl ?_
  refine go_i (m := 26) (as := [.ref a]) (r := []) rfl rfl rfl rfl rfl (xm_absl z d a h ha hc) (fun w h1 hq => ?_)
  obtain ⟨rfl, rfl⟩ := hq
  refine go_a (pc' := 5) (ls' := [some (.ref a)]) (st' := [(.ref a)]) rfl rfl ?_
  refine go_b (pc' := 8) (st' := [.ref 10, .ref a]) (h' := h.set a (.inr (4, [.null, .int 0, .int 0]))) rfl rfl rfl ?_
  refine go_put (j := 0) rfl (xs_self ha) rfl rfl hc (Nat.lt_of_sub_pos (by simp)) rfl rfl ?_
  rw [List.set_set]
  exact go_r rfl rfl rfl rfl rfl rfl ⟨rfl, rfl⟩
theorem xm_book (z : Value) (d : Nat) (h : xx_H) (hc : 12 ≤ h.length) : xx_cl (xt_P z) (d + 4) 24 [.ref h.length] (h ++ [.inr (5, [.null, .null, .null])]) (fun w h1 => w = none ∧ h1 = h ++ [.inr (5, [.ref (h.length + 1), .ref (h.length + 2), .ref (h.length + 3)]), .inr (4, [.ref 10, .int 0, .int 0]), .inr (4, [.ref 10, .int 0, .int 0]), .inr (4, [.ref 10, .int 0, .int 0])]) := by
  refine cl_go rfl ?_
  show xx_go (xt_P z) (d + 3) 24 0 [some (.ref h.length)] [] (h ++ ([.inr (5, [.null, .null, .null])] : xx_H)) _
  refine go_a (pc' := 1) (ls' := [some (.ref h.length)]) (st' := [(.ref h.length)]) rfl rfl ?_
  refine go_o (st' := []) rfl rfl rfl rfl ?_
  refine go_a (pc' := 5) (ls' := [some (.ref h.length)]) (st' := [(.ref h.length)]) rfl rfl ?_
  refine go_new (ci := 4) (fs := [.null, .int 0, .int 0]) rfl rfl rfl ?_
  rw [show (h ++ ([.inr (5, [.null, .null, .null])] : xx_H)).length = h.length + 1 from xq_len, List.append_assoc]
  show xx_go (xt_P z) (d + 3) 24 8 [some (.ref h.length)] [.ref (h.length + 1), .ref h.length] (h ++ ([.inr (5, [.null, .null, .null]), .inr (4, [.null, .int 0, .int 0])] : xx_H)) _
  refine go_a (pc' := 9) (ls' := [some (.ref h.length)]) (st' := [(.ref (h.length + 1)), (.ref (h.length + 1)), (.ref h.length)]) rfl rfl ?_
  refine go_i (m := 25) (as := [.ref (h.length + 1)]) (r := [.ref (h.length + 1), .ref h.length]) rfl rfl rfl rfl rfl (xm_alist z d (h.length + 1) _ (xq_get 1) (by omega)) (fun w h5 hq => ?_)
  obtain ⟨rfl, hq⟩ := hq
  have hq : h5 = h ++ ([.inr (5, [.null, .null, .null]), .inr (4, [.ref 10, .int 0, .int 0])] : xx_H) := by
    rw [hq, List.set_append_right _ _ (by omega), show h.length + 1 - h.length = 1 by omega]
    rfl
  subst hq
  refine go_put (j := 0) rfl xq_get0 rfl rfl hc (Nat.lt_of_sub_pos (by simp)) rfl rfl ?_
  rw [xq_set0]
  show xx_go (xt_P z) (d + 3) 24 15 [some (.ref h.length)] [] (h ++ ([.inr (5, [.ref (h.length + 1), .null, .null]), .inr (4, [.ref 10, .int 0, .int 0])] : xx_H)) _
  refine go_a (pc' := 16) (ls' := [some (.ref h.length)]) (st' := [(.ref h.length)]) rfl rfl ?_
  refine go_new (ci := 4) (fs := [.null, .int 0, .int 0]) rfl rfl rfl ?_
  rw [show (h ++ ([.inr (5, [.ref (h.length + 1), .null, .null]), .inr (4, [.ref 10, .int 0, .int 0])] : xx_H)).length = h.length + 2 from xq_len, List.append_assoc]
  show xx_go (xt_P z) (d + 3) 24 19 [some (.ref h.length)] [.ref (h.length + 2), .ref h.length] (h ++ ([.inr (5, [.ref (h.length + 1), .null, .null]), .inr (4, [.ref 10, .int 0, .int 0]), .inr (4, [.null, .int 0, .int 0])] : xx_H)) _
  refine go_a (pc' := 20) (ls' := [some (.ref h.length)]) (st' := [(.ref (h.length + 2)), (.ref (h.length + 2)), (.ref h.length)]) rfl rfl ?_
  refine go_i (m := 25) (as := [.ref (h.length + 2)]) (r := [.ref (h.length + 2), .ref h.length]) rfl rfl rfl rfl rfl (xm_alist z d (h.length + 2) _ (xq_get 2) (by omega)) (fun w h5 hq => ?_)
  obtain ⟨rfl, hq⟩ := hq
  have hq : h5 = h ++ ([.inr (5, [.ref (h.length + 1), .null, .null]), .inr (4, [.ref 10, .int 0, .int 0]), .inr (4, [.ref 10, .int 0, .int 0])] : xx_H) := by
    rw [hq, List.set_append_right _ _ (by omega), show h.length + 2 - h.length = 2 by omega]
    rfl
  subst hq
  refine go_put (j := 1) rfl xq_get0 rfl rfl hc (Nat.lt_of_sub_pos (by simp)) rfl rfl ?_
  rw [xq_set0]
  show xx_go (xt_P z) (d + 3) 24 26 [some (.ref h.length)] [] (h ++ ([.inr (5, [.ref (h.length + 1), .ref (h.length + 2), .null]), .inr (4, [.ref 10, .int 0, .int 0]), .inr (4, [.ref 10, .int 0, .int 0])] : xx_H)) _
  refine go_a (pc' := 27) (ls' := [some (.ref h.length)]) (st' := [(.ref h.length)]) rfl rfl ?_
  refine go_new (ci := 4) (fs := [.null, .int 0, .int 0]) rfl rfl rfl ?_
  rw [show (h ++ ([.inr (5, [.ref (h.length + 1), .ref (h.length + 2), .null]), .inr (4, [.ref 10, .int 0, .int 0]), .inr (4, [.ref 10, .int 0, .int 0])] : xx_H)).length = h.length + 3 from xq_len, List.append_assoc]
  show xx_go (xt_P z) (d + 3) 24 30 [some (.ref h.length)] [.ref (h.length + 3), .ref h.length] (h ++ ([.inr (5, [.ref (h.length + 1), .ref (h.length + 2), .null]), .inr (4, [.ref 10, .int 0, .int 0]), .inr (4, [.ref 10, .int 0, .int 0]), .inr (4, [.null, .int 0, .int 0])] : xx_H)) _
  refine go_a (pc' := 31) (ls' := [some (.ref h.length)]) (st' := [(.ref (h.length + 3)), (.ref (h.length + 3)), (.ref h.length)]) rfl rfl ?_
  refine go_i (m := 25) (as := [.ref (h.length + 3)]) (r := [.ref (h.length + 3), .ref h.length]) rfl rfl rfl rfl rfl (xm_alist z d (h.length + 3) _ (xq_get 3) (by omega)) (fun w h5 hq => ?_)
  obtain ⟨rfl, hq⟩ := hq
  have hq : h5 = h ++ ([.inr (5, [.ref (h.length + 1), .ref (h.length + 2), .null]), .inr (4, [.ref 10, .int 0, .int 0]), .inr (4, [.ref 10, .int 0, .int 0]), .inr (4, [.ref 10, .int 0, .int 0])] : xx_H) := by
    rw [hq, List.set_append_right _ _ (by omega), show h.length + 3 - h.length = 3 by omega]
    rfl
  subst hq
  refine go_put (j := 2) rfl xq_get0 rfl rfl hc (Nat.lt_of_sub_pos (by simp)) rfl rfl ?_
  rw [xq_set0]
  show xx_go (xt_P z) (d + 3) 24 37 [some (.ref h.length)] [] (h ++ ([.inr (5, [.ref (h.length + 1), .ref (h.length + 2), .ref (h.length + 3)]), .inr (4, [.ref 10, .int 0, .int 0]), .inr (4, [.ref 10, .int 0, .int 0]), .inr (4, [.ref 10, .int 0, .int 0])] : xx_H)) _
  exact go_r rfl rfl rfl rfl rfl rfl ⟨rfl, rfl⟩
theorem xm_paths (z : Value) (d : Nat) (t : Nat) (h : xx_H) (hc : 12 ≤ h.length) : xx_cl (xt_P z) (d + 1) 30 [.ref h.length, .ref t] (h ++ [.inr (7, [.null])]) (fun w h1 => w = none ∧ h1 = h ++ [.inr (7, [.ref t])]) := by
  refine cl_go rfl ?_
  show xx_go (xt_P z) (d + 0) 30 0 [some (.ref h.length), some (.ref t)] [] (h ++ ([.inr (7, [.null])] : xx_H)) _
  refine go_a (pc' := 1) (ls' := [some (.ref h.length), some (.ref t)]) (st' := [(.ref h.length)]) rfl rfl ?_
  refine go_o (st' := []) rfl rfl rfl rfl ?_
  refine go_a (pc' := 5) (ls' := [some (.ref h.length), some (.ref t)]) (st' := [(.ref h.length)]) rfl rfl ?_
  refine go_a (pc' := 6) (ls' := [some (.ref h.length), some (.ref t)]) (st' := [(.ref t), (.ref h.length)]) rfl rfl ?_
  refine go_put (j := 0) rfl xq_get0 rfl rfl hc (Nat.lt_of_sub_pos (by simp)) rfl rfl ?_
  rw [xq_set0]
  show xx_go (xt_P z) (d + 0) 30 9 [some (.ref h.length), some (.ref t)] [] (h ++ ([.inr (7, [.ref t])] : xx_H)) _
  exact go_r rfl rfl rfl rfl rfl rfl ⟨rfl, rfl⟩
set_option maxHeartbeats 1000000 in
theorem xm_teller (z : Value) (d : Nat) (e : Nat) (h : xx_H) (hc : 12 ≤ h.length) : xx_cl (xt_P z) (d + 2) 23 [.ref h.length, .ref e] (h ++ [.inr (3, [.null, .null, .null])]) (fun w h1 => w = none ∧ h1 = h ++ [.inr (3, [.ref e, .ref (h.length + 1), .ref (h.length + 3)]), .inr (0, [.ref (h.length + 2), .int 0]), .inl (.int, List.replicate 256 (.int 0)), .inr (0, [.ref (h.length + 4), .int 0]), .inl (.int, List.replicate 64 (.int 0))]) := by
  refine cl_go rfl ?_
  show xx_go (xt_P z) (d + 1) 23 0 [some (.ref h.length), some (.ref e)] [] (h ++ ([.inr (3, [.null, .null, .null])] : xx_H)) _
  refine go_a (pc' := 1) (ls' := [some (.ref h.length), some (.ref e)]) (st' := [(.ref h.length)]) rfl rfl ?_
  refine go_o (st' := []) rfl rfl rfl rfl ?_
  refine go_a (pc' := 5) (ls' := [some (.ref h.length), some (.ref e)]) (st' := [(.ref h.length)]) rfl rfl ?_
  refine go_new (ci := 0) (fs := [.null, .int 0]) rfl rfl rfl ?_
  rw [show (h ++ ([.inr (3, [.null, .null, .null])] : xx_H)).length = h.length + 1 from xq_len, List.append_assoc]
  show xx_go (xt_P z) (d + 1) 23 8 [some (.ref h.length), some (.ref e)] [.ref (h.length + 1), .ref h.length] (h ++ ([.inr (3, [.null, .null, .null]), .inr (0, [.null, .int 0])] : xx_H)) _
  refine go_a (pc' := 9) (ls' := [some (.ref h.length), some (.ref e)]) (st' := [(.ref (h.length + 1)), (.ref (h.length + 1)), (.ref h.length)]) rfl rfl ?_
  refine go_a (pc' := 12) (ls' := [some (.ref h.length), some (.ref e)]) (st' := [(.int 256), (.ref (h.length + 1)), (.ref (h.length + 1)), (.ref h.length)]) rfl rfl ?_
  refine go_i (m := 2) (as := [.ref (h.length + 1), .int 256]) (r := [.ref (h.length + 1), .ref h.length]) rfl rfl rfl rfl rfl (xm_row_init z (d + 0) (h.length + 1) 256 _ (xq_get 1) (by omega) (by decide) (by decide)) (fun w h5 hq => ?_)
  obtain ⟨rfl, hq⟩ := hq
  have hq : h5 = h ++ ([.inr (3, [.null, .null, .null]), .inr (0, [.ref (h.length + 2), .int 0]), .inl (.int, List.replicate 256 (.int 0))] : xx_H) := by
    rw [hq, List.append_assoc, List.set_append_right _ _ (by omega), show h.length + 1 - h.length = 1 by omega, xq_len]
    rfl
  subst hq
  refine go_put (j := 1) rfl xq_get0 rfl rfl hc (Nat.lt_of_sub_pos (by simp)) rfl rfl ?_
  rw [xq_set0]
  show xx_go (xt_P z) (d + 1) 23 18 [some (.ref h.length), some (.ref e)] [] (h ++ ([.inr (3, [.null, .ref (h.length + 1), .null]), .inr (0, [.ref (h.length + 2), .int 0]), .inl (.int, List.replicate 256 (.int 0))] : xx_H)) _
  refine go_a (pc' := 19) (ls' := [some (.ref h.length), some (.ref e)]) (st' := [(.ref h.length)]) rfl rfl ?_
  refine go_new (ci := 0) (fs := [.null, .int 0]) rfl rfl rfl ?_
  rw [show (h ++ ([.inr (3, [.null, .ref (h.length + 1), .null]), .inr (0, [.ref (h.length + 2), .int 0]), .inl (.int, List.replicate 256 (.int 0))] : xx_H)).length = h.length + 3 from xq_len, List.append_assoc]
  show xx_go (xt_P z) (d + 1) 23 22 [some (.ref h.length), some (.ref e)] [.ref (h.length + 3), .ref h.length] (h ++ ([.inr (3, [.null, .ref (h.length + 1), .null]), .inr (0, [.ref (h.length + 2), .int 0]), .inl (.int, List.replicate 256 (.int 0)), .inr (0, [.null, .int 0])] : xx_H)) _
  refine go_a (pc' := 23) (ls' := [some (.ref h.length), some (.ref e)]) (st' := [(.ref (h.length + 3)), (.ref (h.length + 3)), (.ref h.length)]) rfl rfl ?_
  refine go_a (pc' := 25) (ls' := [some (.ref h.length), some (.ref e)]) (st' := [(.int 64), (.ref (h.length + 3)), (.ref (h.length + 3)), (.ref h.length)]) rfl rfl ?_
  refine go_i (m := 2) (as := [.ref (h.length + 3), .int 64]) (r := [.ref (h.length + 3), .ref h.length]) rfl rfl rfl rfl rfl (xm_row_init z (d + 0) (h.length + 3) 64 _ (xq_get 3) (by omega) (by decide) (by decide)) (fun w h5 hq => ?_)
  obtain ⟨rfl, hq⟩ := hq
  have hq : h5 = h ++ ([.inr (3, [.null, .ref (h.length + 1), .null]), .inr (0, [.ref (h.length + 2), .int 0]), .inl (.int, List.replicate 256 (.int 0)), .inr (0, [.ref (h.length + 4), .int 0]), .inl (.int, List.replicate 64 (.int 0))] : xx_H) := by
    rw [hq, List.append_assoc, List.set_append_right _ _ (by omega), show h.length + 3 - h.length = 3 by omega, xq_len]
    rfl
  subst hq
  refine go_put (j := 2) rfl xq_get0 rfl rfl hc (Nat.lt_of_sub_pos (by simp)) rfl rfl ?_
  rw [xq_set0]
  show xx_go (xt_P z) (d + 1) 23 31 [some (.ref h.length), some (.ref e)] [] (h ++ ([.inr (3, [.null, .ref (h.length + 1), .ref (h.length + 3)]), .inr (0, [.ref (h.length + 2), .int 0]), .inl (.int, List.replicate 256 (.int 0)), .inr (0, [.ref (h.length + 4), .int 0]), .inl (.int, List.replicate 64 (.int 0))] : xx_H)) _
  refine go_a (pc' := 32) (ls' := [some (.ref h.length), some (.ref e)]) (st' := [(.ref h.length)]) rfl rfl ?_
  refine go_a (pc' := 33) (ls' := [some (.ref h.length), some (.ref e)]) (st' := [(.ref e), (.ref h.length)]) rfl rfl ?_
  refine go_put (j := 0) rfl xq_get0 rfl rfl hc (Nat.lt_of_sub_pos (by simp)) rfl rfl ?_
  rw [xq_set0]
  show xx_go (xt_P z) (d + 1) 23 36 [some (.ref h.length), some (.ref e)] [] (h ++ ([.inr (3, [.ref e, .ref (h.length + 1), .ref (h.length + 3)]), .inr (0, [.ref (h.length + 2), .int 0]), .inl (.int, List.replicate 256 (.int 0)), .inr (0, [.ref (h.length + 4), .int 0]), .inl (.int, List.replicate 64 (.int 0))] : xx_H)) _
  exact go_r rfl rfl rfl rfl rfl rfl ⟨rfl, rfl⟩
set_option maxHeartbeats 1000000 in
theorem xm_terms (z : Value) (d : Nat) (e b : Nat) (h : xx_H) (hc : 12 ≤ h.length) : xx_cl (xt_P z) (d + 2) 28 [.ref h.length, .ref e, .ref b] (h ++ [.inr (6, [.null, .null, .null, .null, .int 0, .int 0])]) (fun w h1 => w = none ∧ h1 = h ++ [.inr (6, [.ref e, .ref b, .ref (h.length + 1), .ref (h.length + 3), .int (-1), .int (-1)]), .inr (0, [.ref (h.length + 2), .int 0]), .inl (.int, List.replicate 241 (.int 0)), .inr (0, [.ref (h.length + 4), .int 0]), .inl (.int, List.replicate 120 (.int 0))]) := by
  refine cl_go rfl ?_
  show xx_go (xt_P z) (d + 1) 28 0 [some (.ref h.length), some (.ref e), some (.ref b)] [] (h ++ ([.inr (6, [.null, .null, .null, .null, .int 0, .int 0])] : xx_H)) _
  refine go_a (pc' := 1) (ls' := [some (.ref h.length), some (.ref e), some (.ref b)]) (st' := [(.ref h.length)]) rfl rfl ?_
  refine go_o (st' := []) rfl rfl rfl rfl ?_
  refine go_a (pc' := 5) (ls' := [some (.ref h.length), some (.ref e), some (.ref b)]) (st' := [(.ref h.length)]) rfl rfl ?_
  refine go_new (ci := 0) (fs := [.null, .int 0]) rfl rfl rfl ?_
  rw [show (h ++ ([.inr (6, [.null, .null, .null, .null, .int 0, .int 0])] : xx_H)).length = h.length + 1 from xq_len, List.append_assoc]
  show xx_go (xt_P z) (d + 1) 28 8 [some (.ref h.length), some (.ref e), some (.ref b)] [.ref (h.length + 1), .ref h.length] (h ++ ([.inr (6, [.null, .null, .null, .null, .int 0, .int 0]), .inr (0, [.null, .int 0])] : xx_H)) _
  refine go_a (pc' := 9) (ls' := [some (.ref h.length), some (.ref e), some (.ref b)]) (st' := [(.ref (h.length + 1)), (.ref (h.length + 1)), (.ref h.length)]) rfl rfl ?_
  refine go_a (pc' := 12) (ls' := [some (.ref h.length), some (.ref e), some (.ref b)]) (st' := [(.int 241), (.ref (h.length + 1)), (.ref (h.length + 1)), (.ref h.length)]) rfl rfl ?_
  refine go_i (m := 2) (as := [.ref (h.length + 1), .int 241]) (r := [.ref (h.length + 1), .ref h.length]) rfl rfl rfl rfl rfl (xm_row_init z (d + 0) (h.length + 1) 241 _ (xq_get 1) (by omega) (by decide) (by decide)) (fun w h5 hq => ?_)
  obtain ⟨rfl, hq⟩ := hq
  have hq : h5 = h ++ ([.inr (6, [.null, .null, .null, .null, .int 0, .int 0]), .inr (0, [.ref (h.length + 2), .int 0]), .inl (.int, List.replicate 241 (.int 0))] : xx_H) := by
    rw [hq, List.append_assoc, List.set_append_right _ _ (by omega), show h.length + 1 - h.length = 1 by omega, xq_len]
    rfl
  subst hq
  refine go_put (j := 2) rfl xq_get0 rfl rfl hc (Nat.lt_of_sub_pos (by simp)) rfl rfl ?_
  rw [xq_set0]
  show xx_go (xt_P z) (d + 1) 28 18 [some (.ref h.length), some (.ref e), some (.ref b)] [] (h ++ ([.inr (6, [.null, .null, .ref (h.length + 1), .null, .int 0, .int 0]), .inr (0, [.ref (h.length + 2), .int 0]), .inl (.int, List.replicate 241 (.int 0))] : xx_H)) _
  refine go_a (pc' := 19) (ls' := [some (.ref h.length), some (.ref e), some (.ref b)]) (st' := [(.ref h.length)]) rfl rfl ?_
  refine go_new (ci := 0) (fs := [.null, .int 0]) rfl rfl rfl ?_
  rw [show (h ++ ([.inr (6, [.null, .null, .ref (h.length + 1), .null, .int 0, .int 0]), .inr (0, [.ref (h.length + 2), .int 0]), .inl (.int, List.replicate 241 (.int 0))] : xx_H)).length = h.length + 3 from xq_len, List.append_assoc]
  show xx_go (xt_P z) (d + 1) 28 22 [some (.ref h.length), some (.ref e), some (.ref b)] [.ref (h.length + 3), .ref h.length] (h ++ ([.inr (6, [.null, .null, .ref (h.length + 1), .null, .int 0, .int 0]), .inr (0, [.ref (h.length + 2), .int 0]), .inl (.int, List.replicate 241 (.int 0)), .inr (0, [.null, .int 0])] : xx_H)) _
  refine go_a (pc' := 23) (ls' := [some (.ref h.length), some (.ref e), some (.ref b)]) (st' := [(.ref (h.length + 3)), (.ref (h.length + 3)), (.ref h.length)]) rfl rfl ?_
  refine go_a (pc' := 25) (ls' := [some (.ref h.length), some (.ref e), some (.ref b)]) (st' := [(.int 120), (.ref (h.length + 3)), (.ref (h.length + 3)), (.ref h.length)]) rfl rfl ?_
  refine go_i (m := 2) (as := [.ref (h.length + 3), .int 120]) (r := [.ref (h.length + 3), .ref h.length]) rfl rfl rfl rfl rfl (xm_row_init z (d + 0) (h.length + 3) 120 _ (xq_get 3) (by omega) (by decide) (by decide)) (fun w h5 hq => ?_)
  obtain ⟨rfl, hq⟩ := hq
  have hq : h5 = h ++ ([.inr (6, [.null, .null, .ref (h.length + 1), .null, .int 0, .int 0]), .inr (0, [.ref (h.length + 2), .int 0]), .inl (.int, List.replicate 241 (.int 0)), .inr (0, [.ref (h.length + 4), .int 0]), .inl (.int, List.replicate 120 (.int 0))] : xx_H) := by
    rw [hq, List.append_assoc, List.set_append_right _ _ (by omega), show h.length + 3 - h.length = 3 by omega, xq_len]
    rfl
  subst hq
  refine go_put (j := 3) rfl xq_get0 rfl rfl hc (Nat.lt_of_sub_pos (by simp)) rfl rfl ?_
  rw [xq_set0]
  show xx_go (xt_P z) (d + 1) 28 31 [some (.ref h.length), some (.ref e), some (.ref b)] [] (h ++ ([.inr (6, [.null, .null, .ref (h.length + 1), .ref (h.length + 3), .int 0, .int 0]), .inr (0, [.ref (h.length + 2), .int 0]), .inl (.int, List.replicate 241 (.int 0)), .inr (0, [.ref (h.length + 4), .int 0]), .inl (.int, List.replicate 120 (.int 0))] : xx_H)) _
  refine go_a (pc' := 32) (ls' := [some (.ref h.length), some (.ref e), some (.ref b)]) (st' := [(.ref h.length)]) rfl rfl ?_
  refine go_a (pc' := 33) (ls' := [some (.ref h.length), some (.ref e), some (.ref b)]) (st' := [(.int (-1)), (.ref h.length)]) rfl rfl ?_
  refine go_put (j := 4) rfl xq_get0 rfl rfl hc (Nat.lt_of_sub_pos (by simp)) rfl rfl ?_
  rw [xq_set0]
  show xx_go (xt_P z) (d + 1) 28 36 [some (.ref h.length), some (.ref e), some (.ref b)] [] (h ++ ([.inr (6, [.null, .null, .ref (h.length + 1), .ref (h.length + 3), .int (-1), .int 0]), .inr (0, [.ref (h.length + 2), .int 0]), .inl (.int, List.replicate 241 (.int 0)), .inr (0, [.ref (h.length + 4), .int 0]), .inl (.int, List.replicate 120 (.int 0))] : xx_H)) _
  refine go_a (pc' := 37) (ls' := [some (.ref h.length), some (.ref e), some (.ref b)]) (st' := [(.ref h.length)]) rfl rfl ?_
  refine go_a (pc' := 38) (ls' := [some (.ref h.length), some (.ref e), some (.ref b)]) (st' := [(.int (-1)), (.ref h.length)]) rfl rfl ?_
  refine go_put (j := 5) rfl xq_get0 rfl rfl hc (Nat.lt_of_sub_pos (by simp)) rfl rfl ?_
  rw [xq_set0]
  show xx_go (xt_P z) (d + 1) 28 41 [some (.ref h.length), some (.ref e), some (.ref b)] [] (h ++ ([.inr (6, [.null, .null, .ref (h.length + 1), .ref (h.length + 3), .int (-1), .int (-1)]), .inr (0, [.ref (h.length + 2), .int 0]), .inl (.int, List.replicate 241 (.int 0)), .inr (0, [.ref (h.length + 4), .int 0]), .inl (.int, List.replicate 120 (.int 0))] : xx_H)) _
  refine go_a (pc' := 42) (ls' := [some (.ref h.length), some (.ref e), some (.ref b)]) (st' := [(.ref h.length)]) rfl rfl ?_
  refine go_a (pc' := 43) (ls' := [some (.ref h.length), some (.ref e), some (.ref b)]) (st' := [(.ref e), (.ref h.length)]) rfl rfl ?_
  refine go_put (j := 0) rfl xq_get0 rfl rfl hc (Nat.lt_of_sub_pos (by simp)) rfl rfl ?_
  rw [xq_set0]
  show xx_go (xt_P z) (d + 1) 28 46 [some (.ref h.length), some (.ref e), some (.ref b)] [] (h ++ ([.inr (6, [.ref e, .null, .ref (h.length + 1), .ref (h.length + 3), .int (-1), .int (-1)]), .inr (0, [.ref (h.length + 2), .int 0]), .inl (.int, List.replicate 241 (.int 0)), .inr (0, [.ref (h.length + 4), .int 0]), .inl (.int, List.replicate 120 (.int 0))] : xx_H)) _
  refine go_a (pc' := 47) (ls' := [some (.ref h.length), some (.ref e), some (.ref b)]) (st' := [(.ref h.length)]) rfl rfl ?_
  refine go_a (pc' := 48) (ls' := [some (.ref h.length), some (.ref e), some (.ref b)]) (st' := [(.ref b), (.ref h.length)]) rfl rfl ?_
  refine go_put (j := 1) rfl xq_get0 rfl rfl hc (Nat.lt_of_sub_pos (by simp)) rfl rfl ?_
  rw [xq_set0]
  show xx_go (xt_P z) (d + 1) 28 51 [some (.ref h.length), some (.ref e), some (.ref b)] [] (h ++ ([.inr (6, [.ref e, .ref b, .ref (h.length + 1), .ref (h.length + 3), .int (-1), .int (-1)]), .inr (0, [.ref (h.length + 2), .int 0]), .inl (.int, List.replicate 241 (.int 0)), .inr (0, [.ref (h.length + 4), .int 0]), .inl (.int, List.replicate 120 (.int 0))] : xx_H)) _
  exact go_r rfl rfl rfl rfl rfl rfl ⟨rfl, rfl⟩
set_option maxHeartbeats 1000000 in
theorem xm_reader (z : Value) (d : Nat) (e : Nat) (h : xx_H) (hc : 12 ≤ h.length) : xx_cl (xt_P z) (d + 2) 22 [.ref h.length, .ref e] (h ++ [.inr (2, [.null, .null, .null, .null, .int 0, .int 0, .int 0, .int 0, .int 0])]) (fun w h1 => w = none ∧ h1 = h ++ [.inr (2, [.ref e, .ref (h.length + 1), .ref (h.length + 3), .ref (h.length + 5), .int 0, .int 0, .int 0, .int 0, .int (-1)]), .inr (0, [.ref (h.length + 2), .int 0]), .inl (.int, List.replicate 41 (.int 0)), .inr (0, [.ref (h.length + 4), .int 0]), .inl (.int, List.replicate 41 (.int 0)), .inr (0, [.ref (h.length + 6), .int 0]), .inl (.int, List.replicate 64 (.int 0))]) := by
  refine cl_go rfl ?_
  show xx_go (xt_P z) (d + 1) 22 0 [some (.ref h.length), some (.ref e)] [] (h ++ ([.inr (2, [.null, .null, .null, .null, .int 0, .int 0, .int 0, .int 0, .int 0])] : xx_H)) _
  refine go_a (pc' := 1) (ls' := [some (.ref h.length), some (.ref e)]) (st' := [(.ref h.length)]) rfl rfl ?_
  refine go_o (st' := []) rfl rfl rfl rfl ?_
  refine go_a (pc' := 5) (ls' := [some (.ref h.length), some (.ref e)]) (st' := [(.ref h.length)]) rfl rfl ?_
  refine go_new (ci := 0) (fs := [.null, .int 0]) rfl rfl rfl ?_
  rw [show (h ++ ([.inr (2, [.null, .null, .null, .null, .int 0, .int 0, .int 0, .int 0, .int 0])] : xx_H)).length = h.length + 1 from xq_len, List.append_assoc]
  show xx_go (xt_P z) (d + 1) 22 8 [some (.ref h.length), some (.ref e)] [.ref (h.length + 1), .ref h.length] (h ++ ([.inr (2, [.null, .null, .null, .null, .int 0, .int 0, .int 0, .int 0, .int 0]), .inr (0, [.null, .int 0])] : xx_H)) _
  refine go_a (pc' := 9) (ls' := [some (.ref h.length), some (.ref e)]) (st' := [(.ref (h.length + 1)), (.ref (h.length + 1)), (.ref h.length)]) rfl rfl ?_
  refine go_a (pc' := 11) (ls' := [some (.ref h.length), some (.ref e)]) (st' := [(.int 41), (.ref (h.length + 1)), (.ref (h.length + 1)), (.ref h.length)]) rfl rfl ?_
  refine go_i (m := 2) (as := [.ref (h.length + 1), .int 41]) (r := [.ref (h.length + 1), .ref h.length]) rfl rfl rfl rfl rfl (xm_row_init z (d + 0) (h.length + 1) 41 _ (xq_get 1) (by omega) (by decide) (by decide)) (fun w h5 hq => ?_)
  obtain ⟨rfl, hq⟩ := hq
  have hq : h5 = h ++ ([.inr (2, [.null, .null, .null, .null, .int 0, .int 0, .int 0, .int 0, .int 0]), .inr (0, [.ref (h.length + 2), .int 0]), .inl (.int, List.replicate 41 (.int 0))] : xx_H) := by
    rw [hq, List.append_assoc, List.set_append_right _ _ (by omega), show h.length + 1 - h.length = 1 by omega, xq_len]
    rfl
  subst hq
  refine go_put (j := 1) rfl xq_get0 rfl rfl hc (Nat.lt_of_sub_pos (by simp)) rfl rfl ?_
  rw [xq_set0]
  show xx_go (xt_P z) (d + 1) 22 17 [some (.ref h.length), some (.ref e)] [] (h ++ ([.inr (2, [.null, .ref (h.length + 1), .null, .null, .int 0, .int 0, .int 0, .int 0, .int 0]), .inr (0, [.ref (h.length + 2), .int 0]), .inl (.int, List.replicate 41 (.int 0))] : xx_H)) _
  refine go_a (pc' := 18) (ls' := [some (.ref h.length), some (.ref e)]) (st' := [(.ref h.length)]) rfl rfl ?_
  refine go_new (ci := 0) (fs := [.null, .int 0]) rfl rfl rfl ?_
  rw [show (h ++ ([.inr (2, [.null, .ref (h.length + 1), .null, .null, .int 0, .int 0, .int 0, .int 0, .int 0]), .inr (0, [.ref (h.length + 2), .int 0]), .inl (.int, List.replicate 41 (.int 0))] : xx_H)).length = h.length + 3 from xq_len, List.append_assoc]
  show xx_go (xt_P z) (d + 1) 22 21 [some (.ref h.length), some (.ref e)] [.ref (h.length + 3), .ref h.length] (h ++ ([.inr (2, [.null, .ref (h.length + 1), .null, .null, .int 0, .int 0, .int 0, .int 0, .int 0]), .inr (0, [.ref (h.length + 2), .int 0]), .inl (.int, List.replicate 41 (.int 0)), .inr (0, [.null, .int 0])] : xx_H)) _
  refine go_a (pc' := 22) (ls' := [some (.ref h.length), some (.ref e)]) (st' := [(.ref (h.length + 3)), (.ref (h.length + 3)), (.ref h.length)]) rfl rfl ?_
  refine go_a (pc' := 24) (ls' := [some (.ref h.length), some (.ref e)]) (st' := [(.int 41), (.ref (h.length + 3)), (.ref (h.length + 3)), (.ref h.length)]) rfl rfl ?_
  refine go_i (m := 2) (as := [.ref (h.length + 3), .int 41]) (r := [.ref (h.length + 3), .ref h.length]) rfl rfl rfl rfl rfl (xm_row_init z (d + 0) (h.length + 3) 41 _ (xq_get 3) (by omega) (by decide) (by decide)) (fun w h5 hq => ?_)
  obtain ⟨rfl, hq⟩ := hq
  have hq : h5 = h ++ ([.inr (2, [.null, .ref (h.length + 1), .null, .null, .int 0, .int 0, .int 0, .int 0, .int 0]), .inr (0, [.ref (h.length + 2), .int 0]), .inl (.int, List.replicate 41 (.int 0)), .inr (0, [.ref (h.length + 4), .int 0]), .inl (.int, List.replicate 41 (.int 0))] : xx_H) := by
    rw [hq, List.append_assoc, List.set_append_right _ _ (by omega), show h.length + 3 - h.length = 3 by omega, xq_len]
    rfl
  subst hq
  refine go_put (j := 2) rfl xq_get0 rfl rfl hc (Nat.lt_of_sub_pos (by simp)) rfl rfl ?_
  rw [xq_set0]
  show xx_go (xt_P z) (d + 1) 22 30 [some (.ref h.length), some (.ref e)] [] (h ++ ([.inr (2, [.null, .ref (h.length + 1), .ref (h.length + 3), .null, .int 0, .int 0, .int 0, .int 0, .int 0]), .inr (0, [.ref (h.length + 2), .int 0]), .inl (.int, List.replicate 41 (.int 0)), .inr (0, [.ref (h.length + 4), .int 0]), .inl (.int, List.replicate 41 (.int 0))] : xx_H)) _
  refine go_a (pc' := 31) (ls' := [some (.ref h.length), some (.ref e)]) (st' := [(.ref h.length)]) rfl rfl ?_
  refine go_new (ci := 0) (fs := [.null, .int 0]) rfl rfl rfl ?_
  rw [show (h ++ ([.inr (2, [.null, .ref (h.length + 1), .ref (h.length + 3), .null, .int 0, .int 0, .int 0, .int 0, .int 0]), .inr (0, [.ref (h.length + 2), .int 0]), .inl (.int, List.replicate 41 (.int 0)), .inr (0, [.ref (h.length + 4), .int 0]), .inl (.int, List.replicate 41 (.int 0))] : xx_H)).length = h.length + 5 from xq_len, List.append_assoc]
  show xx_go (xt_P z) (d + 1) 22 34 [some (.ref h.length), some (.ref e)] [.ref (h.length + 5), .ref h.length] (h ++ ([.inr (2, [.null, .ref (h.length + 1), .ref (h.length + 3), .null, .int 0, .int 0, .int 0, .int 0, .int 0]), .inr (0, [.ref (h.length + 2), .int 0]), .inl (.int, List.replicate 41 (.int 0)), .inr (0, [.ref (h.length + 4), .int 0]), .inl (.int, List.replicate 41 (.int 0)), .inr (0, [.null, .int 0])] : xx_H)) _
  refine go_a (pc' := 35) (ls' := [some (.ref h.length), some (.ref e)]) (st' := [(.ref (h.length + 5)), (.ref (h.length + 5)), (.ref h.length)]) rfl rfl ?_
  refine go_a (pc' := 37) (ls' := [some (.ref h.length), some (.ref e)]) (st' := [(.int 64), (.ref (h.length + 5)), (.ref (h.length + 5)), (.ref h.length)]) rfl rfl ?_
  refine go_i (m := 2) (as := [.ref (h.length + 5), .int 64]) (r := [.ref (h.length + 5), .ref h.length]) rfl rfl rfl rfl rfl (xm_row_init z (d + 0) (h.length + 5) 64 _ (xq_get 5) (by omega) (by decide) (by decide)) (fun w h5 hq => ?_)
  obtain ⟨rfl, hq⟩ := hq
  have hq : h5 = h ++ ([.inr (2, [.null, .ref (h.length + 1), .ref (h.length + 3), .null, .int 0, .int 0, .int 0, .int 0, .int 0]), .inr (0, [.ref (h.length + 2), .int 0]), .inl (.int, List.replicate 41 (.int 0)), .inr (0, [.ref (h.length + 4), .int 0]), .inl (.int, List.replicate 41 (.int 0)), .inr (0, [.ref (h.length + 6), .int 0]), .inl (.int, List.replicate 64 (.int 0))] : xx_H) := by
    rw [hq, List.append_assoc, List.set_append_right _ _ (by omega), show h.length + 5 - h.length = 5 by omega, xq_len]
    rfl
  subst hq
  refine go_put (j := 3) rfl xq_get0 rfl rfl hc (Nat.lt_of_sub_pos (by simp)) rfl rfl ?_
  rw [xq_set0]
  show xx_go (xt_P z) (d + 1) 22 43 [some (.ref h.length), some (.ref e)] [] (h ++ ([.inr (2, [.null, .ref (h.length + 1), .ref (h.length + 3), .ref (h.length + 5), .int 0, .int 0, .int 0, .int 0, .int 0]), .inr (0, [.ref (h.length + 2), .int 0]), .inl (.int, List.replicate 41 (.int 0)), .inr (0, [.ref (h.length + 4), .int 0]), .inl (.int, List.replicate 41 (.int 0)), .inr (0, [.ref (h.length + 6), .int 0]), .inl (.int, List.replicate 64 (.int 0))] : xx_H)) _
  refine go_a (pc' := 44) (ls' := [some (.ref h.length), some (.ref e)]) (st' := [(.ref h.length)]) rfl rfl ?_
  refine go_a (pc' := 45) (ls' := [some (.ref h.length), some (.ref e)]) (st' := [(.int (-1)), (.ref h.length)]) rfl rfl ?_
  refine go_put (j := 8) rfl xq_get0 rfl rfl hc (Nat.lt_of_sub_pos (by simp)) rfl rfl ?_
  rw [xq_set0]
  show xx_go (xt_P z) (d + 1) 22 48 [some (.ref h.length), some (.ref e)] [] (h ++ ([.inr (2, [.null, .ref (h.length + 1), .ref (h.length + 3), .ref (h.length + 5), .int 0, .int 0, .int 0, .int 0, .int (-1)]), .inr (0, [.ref (h.length + 2), .int 0]), .inl (.int, List.replicate 41 (.int 0)), .inr (0, [.ref (h.length + 4), .int 0]), .inl (.int, List.replicate 41 (.int 0)), .inr (0, [.ref (h.length + 6), .int 0]), .inl (.int, List.replicate 64 (.int 0))] : xx_H)) _
  refine go_a (pc' := 49) (ls' := [some (.ref h.length), some (.ref e)]) (st' := [(.ref h.length)]) rfl rfl ?_
  refine go_a (pc' := 50) (ls' := [some (.ref h.length), some (.ref e)]) (st' := [(.ref e), (.ref h.length)]) rfl rfl ?_
  refine go_put (j := 0) rfl xq_get0 rfl rfl hc (Nat.lt_of_sub_pos (by simp)) rfl rfl ?_
  rw [xq_set0]
  show xx_go (xt_P z) (d + 1) 22 53 [some (.ref h.length), some (.ref e)] [] (h ++ ([.inr (2, [.ref e, .ref (h.length + 1), .ref (h.length + 3), .ref (h.length + 5), .int 0, .int 0, .int 0, .int 0, .int (-1)]), .inr (0, [.ref (h.length + 2), .int 0]), .inl (.int, List.replicate 41 (.int 0)), .inr (0, [.ref (h.length + 4), .int 0]), .inl (.int, List.replicate 41 (.int 0)), .inr (0, [.ref (h.length + 6), .int 0]), .inl (.int, List.replicate 64 (.int 0))] : xx_H)) _
  exact go_r rfl rfl rfl rfl rfl rfl ⟨rfl, rfl⟩
set_option maxHeartbeats 1000000 in
theorem xm_prover (z : Value) (d : Nat) (e b t : Nat) (h : xx_H) (hc : 12 ≤ h.length) : xx_cl (xt_P z) (d + 2) 29 [.ref h.length, .ref e, .ref b, .ref t] (h ++ [.inr (8, [.null, .null, .null, .null, .int 0, .int 0, .int 0, .int 0])]) (fun w h1 => w = none ∧ h1 = h ++ [.inr (8, [.ref e, .ref b, .ref t, .ref (h.length + 1), .int 0, .int 0, .int 0, .int 0]), .inr (7, [.ref t])]) := by
  refine cl_go rfl ?_
  show xx_go (xt_P z) (d + 1) 29 0 [some (.ref h.length), some (.ref e), some (.ref b), some (.ref t)] [] (h ++ ([.inr (8, [.null, .null, .null, .null, .int 0, .int 0, .int 0, .int 0])] : xx_H)) _
  refine go_a (pc' := 1) (ls' := [some (.ref h.length), some (.ref e), some (.ref b), some (.ref t)]) (st' := [(.ref h.length)]) rfl rfl ?_
  refine go_o (st' := []) rfl rfl rfl rfl ?_
  refine go_a (pc' := 5) (ls' := [some (.ref h.length), some (.ref e), some (.ref b), some (.ref t)]) (st' := [(.ref h.length)]) rfl rfl ?_
  refine go_a (pc' := 6) (ls' := [some (.ref h.length), some (.ref e), some (.ref b), some (.ref t)]) (st' := [(.ref e), (.ref h.length)]) rfl rfl ?_
  refine go_put (j := 0) rfl xq_get0 rfl rfl hc (Nat.lt_of_sub_pos (by simp)) rfl rfl ?_
  rw [xq_set0]
  show xx_go (xt_P z) (d + 1) 29 9 [some (.ref h.length), some (.ref e), some (.ref b), some (.ref t)] [] (h ++ ([.inr (8, [.ref e, .null, .null, .null, .int 0, .int 0, .int 0, .int 0])] : xx_H)) _
  refine go_a (pc' := 10) (ls' := [some (.ref h.length), some (.ref e), some (.ref b), some (.ref t)]) (st' := [(.ref h.length)]) rfl rfl ?_
  refine go_a (pc' := 11) (ls' := [some (.ref h.length), some (.ref e), some (.ref b), some (.ref t)]) (st' := [(.ref b), (.ref h.length)]) rfl rfl ?_
  refine go_put (j := 1) rfl xq_get0 rfl rfl hc (Nat.lt_of_sub_pos (by simp)) rfl rfl ?_
  rw [xq_set0]
  show xx_go (xt_P z) (d + 1) 29 14 [some (.ref h.length), some (.ref e), some (.ref b), some (.ref t)] [] (h ++ ([.inr (8, [.ref e, .ref b, .null, .null, .int 0, .int 0, .int 0, .int 0])] : xx_H)) _
  refine go_a (pc' := 15) (ls' := [some (.ref h.length), some (.ref e), some (.ref b), some (.ref t)]) (st' := [(.ref h.length)]) rfl rfl ?_
  refine go_a (pc' := 16) (ls' := [some (.ref h.length), some (.ref e), some (.ref b), some (.ref t)]) (st' := [(.ref t), (.ref h.length)]) rfl rfl ?_
  refine go_put (j := 2) rfl xq_get0 rfl rfl hc (Nat.lt_of_sub_pos (by simp)) rfl rfl ?_
  rw [xq_set0]
  show xx_go (xt_P z) (d + 1) 29 19 [some (.ref h.length), some (.ref e), some (.ref b), some (.ref t)] [] (h ++ ([.inr (8, [.ref e, .ref b, .ref t, .null, .int 0, .int 0, .int 0, .int 0])] : xx_H)) _
  refine go_a (pc' := 20) (ls' := [some (.ref h.length), some (.ref e), some (.ref b), some (.ref t)]) (st' := [(.ref h.length)]) rfl rfl ?_
  refine go_new (ci := 7) (fs := [.null]) rfl rfl rfl ?_
  rw [show (h ++ ([.inr (8, [.ref e, .ref b, .ref t, .null, .int 0, .int 0, .int 0, .int 0])] : xx_H)).length = h.length + 1 from xq_len, List.append_assoc]
  show xx_go (xt_P z) (d + 1) 29 23 [some (.ref h.length), some (.ref e), some (.ref b), some (.ref t)] [.ref (h.length + 1), .ref h.length] (h ++ ([.inr (8, [.ref e, .ref b, .ref t, .null, .int 0, .int 0, .int 0, .int 0]), .inr (7, [.null])] : xx_H)) _
  refine go_a (pc' := 24) (ls' := [some (.ref h.length), some (.ref e), some (.ref b), some (.ref t)]) (st' := [(.ref (h.length + 1)), (.ref (h.length + 1)), (.ref h.length)]) rfl rfl ?_
  refine go_a (pc' := 25) (ls' := [some (.ref h.length), some (.ref e), some (.ref b), some (.ref t)]) (st' := [(.ref t), (.ref (h.length + 1)), (.ref (h.length + 1)), (.ref h.length)]) rfl rfl ?_
  refine go_i (m := 30) (as := [.ref (h.length + 1), .ref t]) (r := [.ref (h.length + 1), .ref h.length]) rfl rfl rfl rfl rfl (by
    have key := xm_paths z d t (h ++ ([.inr (8, [.ref e, .ref b, .ref t, .null, .int 0, .int 0, .int 0, .int 0])] : xx_H)) (by rw [xq_len]; omega)
    rw [show (h ++ ([.inr (8, [.ref e, .ref b, .ref t, .null, .int 0, .int 0, .int 0, .int 0])] : xx_H)).length = h.length + 1 from xq_len, List.append_assoc] at key
    exact key) (fun w h5 hq => ?_)
  obtain ⟨rfl, hq⟩ := hq
  rw [List.append_assoc] at hq
  subst hq
  show xx_go (xt_P z) (d + 1) 29 28 [some (.ref h.length), some (.ref e), some (.ref b), some (.ref t)] [.ref (h.length + 1), .ref h.length] (h ++ ([.inr (8, [.ref e, .ref b, .ref t, .null, .int 0, .int 0, .int 0, .int 0]), .inr (7, [.ref t])] : xx_H)) _
  refine go_put (j := 3) rfl xq_get0 rfl rfl hc (Nat.lt_of_sub_pos (by simp)) rfl rfl ?_
  rw [xq_set0]
  show xx_go (xt_P z) (d + 1) 29 31 [some (.ref h.length), some (.ref e), some (.ref b), some (.ref t)] [] (h ++ ([.inr (8, [.ref e, .ref b, .ref t, .ref (h.length + 1), .int 0, .int 0, .int 0, .int 0]), .inr (7, [.ref t])] : xx_H)) _
  exact go_r rfl rfl rfl rfl rfl rfl ⟨rfl, rfl⟩

