/-! ArrayList(), Book() -/
theorem xm_acoll (z : Value) (d a : Nat) (h : xx_H) : xx_cl (xt_P z) (d + 1) 27 [.ref a] h (fun w h1 => w = none ∧ h1 = h) := by
  refine cl_go rfl ?_
  show xx_go (xt_P z) d 27 0 [some (.ref a)] [] h _
  refine go_a (pc' := 1) (ls' := [some (.ref a)]) (st' := [(.ref a)]) rfl rfl ?_
  refine go_o (st' := []) rfl rfl rfl rfl ?_
  exact go_r rfl rfl rfl rfl rfl rfl ⟨rfl, rfl⟩
theorem xm_absl (z : Value) (d a : Nat) (h : xx_H) (ha : h[a]? = some (.inr (4, [.null, .int 0, .int 0]))) (hc : 11 ≤ a) : xx_cl (xt_P z) (d + 2) 26 [.ref a] h (fun w h1 => w = none ∧ h1 = h.set a (.inr (4, [.null, .int 0, .int 0]))) := by
  refine cl_go rfl ?_
  show xx_go (xt_P z) (d + 1) 26 0 [some (.ref a)] [] h _
  refine go_a (pc' := 1) (ls' := [some (.ref a)]) (st' := [(.ref a)]) rfl rfl ?_
  refine go_i (m := 27) (as := [.ref a]) (r := []) rfl rfl rfl rfl rfl (xm_acoll z d a h) (fun w h1 hq => ?_)
  obtain ⟨rfl, rfl⟩ := hq
  refine go_a (pc' := 5) (ls' := [some (.ref a)]) (st' := [(.ref a)]) rfl rfl ?_
  refine go_a (pc' := 6) (ls' := [some (.ref a)]) (st' := [(.int 0), (.ref a)]) rfl rfl ?_
  refine go_put (j := 2) rfl ha rfl rfl hc (Nat.lt_of_sub_pos (by simp)) rfl rfl ?_
  exact go_r rfl rfl rfl rfl rfl rfl ⟨rfl, rfl⟩
theorem xm_alist (z : Value) (d a : Nat) (h : xx_H) (ha : h[a]? = some (.inr (4, [.null, .int 0, .int 0]))) (hc : 11 ≤ a) : xx_cl (xt_P z) (d + 3) 25 [.ref a] h (fun w h1 => w = none ∧ h1 = h.set a (.inr (4, [.ref 10, .int 0, .int 0]))) := by
  refine cl_go rfl ?_
  show xx_go (xt_P z) (d + 2) 25 0 [some (.ref a)] [] h _
  refine go_a (pc' := 1) (ls' := [some (.ref a)]) (st' := [(.ref a)]) rfl rfl ?_
  refine go_i (m := 26) (as := [.ref a]) (r := []) rfl rfl rfl rfl rfl (xm_absl z d a h ha hc) (fun w h1 hq => ?_)
  obtain ⟨rfl, rfl⟩ := hq
  refine go_a (pc' := 5) (ls' := [some (.ref a)]) (st' := [(.ref a)]) rfl rfl ?_
  refine go_b (pc' := 8) (st' := [.ref 10, .ref a]) (h' := h.set a (.inr (4, [.null, .int 0, .int 0]))) rfl rfl rfl ?_
  refine go_put (j := 0) rfl (xs_self ha) rfl rfl hc (Nat.lt_of_sub_pos (by simp)) rfl rfl ?_
  rw [List.set_set]
  exact go_r rfl rfl rfl rfl rfl rfl ⟨rfl, rfl⟩
/-- Book(): three empty lists behind it -/
theorem xm_book (z : Value) (d : Nat) (h : xx_H) (hc : 11 ≤ h.length) : xx_cl (xt_P z) (d + 4) 24 [.ref h.length] (h ++ [.inr (5, [.null, .null, .null])]) (fun w h1 => w = none ∧ h1 = h ++ [.inr (5, [.ref (h.length + 1), .ref (h.length + 2), .ref (h.length + 3)]), .inr (4, [.ref 10, .int 0, .int 0]), .inr (4, [.ref 10, .int 0, .int 0]), .inr (4, [.ref 10, .int 0, .int 0])]) := by
  refine cl_go rfl ?_
  show xx_go (xt_P z) (d + 3) 24 0 [some (.ref h.length)] [] (h ++ ([.inr (5, [.null, .null, .null])] : xx_H)) _
  refine go_a (pc' := 1) (ls' := [some (.ref h.length)]) (st' := [(.ref h.length)]) rfl rfl ?_
  refine go_o (st' := []) rfl rfl rfl rfl ?_
  refine go_a (pc' := 5) (ls' := [some (.ref h.length)]) (st' := [(.ref h.length)]) rfl rfl ?_
  refine go_new (ci := 4) (fs := [.null, .int 0, .int 0]) rfl rfl rfl ?_
  rw [show (h ++ ([.inr (5, [.null, .null, .null])] : xx_H)).length = h.length + 1 from xq_len, List.append_assoc]
  show xx_go (xt_P z) (d + 3) 24 8 [some (.ref h.length)] [.ref (h.length + 1), .ref h.length] (h ++ ([.inr (5, [.null, .null, .null]), .inr (4, [.null, .int 0, .int 0])] : xx_H)) _
  refine go_a (pc' := 9) (ls' := [some (.ref h.length)]) (st' := [(.ref (h.length + 1)), (.ref (h.length + 1)), (.ref h.length)]) rfl rfl ?_
  refine go_i (m := 25) (as := [.ref (h.length + 1)]) (r := [.ref (h.length + 1), .ref h.length]) rfl rfl rfl rfl rfl (xm_alist z d (h.length + 1) _ (xq_get 1) (by omega)) (fun w h5 hq => ?_)
  obtain ⟨rfl, hq⟩ := hq
  have hq : h5 = h ++ ([.inr (5, [.null, .null, .null]), .inr (4, [.ref 10, .int 0, .int 0])] : xx_H) := by
    rw [hq, List.set_append_right _ _ (by omega), show h.length + 1 - h.length = 1 by omega]
    rfl
  subst hq
  refine go_put (j := 0) rfl xq_get0 rfl rfl hc (Nat.lt_of_sub_pos (by simp)) rfl rfl ?_
  rw [xq_set0]
  show xx_go (xt_P z) (d + 3) 24 15 [some (.ref h.length)] [] (h ++ ([.inr (5, [.ref (h.length + 1), .null, .null]), .inr (4, [.ref 10, .int 0, .int 0])] : xx_H)) _
  refine go_a (pc' := 16) (ls' := [some (.ref h.length)]) (st' := [(.ref h.length)]) rfl rfl ?_
  refine go_new (ci := 4) (fs := [.null, .int 0, .int 0]) rfl rfl rfl ?_
  rw [show (h ++ ([.inr (5, [.ref (h.length + 1), .null, .null]), .inr (4, [.ref 10, .int 0, .int 0])] : xx_H)).length = h.length + 2 from xq_len, List.append_assoc]
  show xx_go (xt_P z) (d + 3) 24 19 [some (.ref h.length)] [.ref (h.length + 2), .ref h.length] (h ++ ([.inr (5, [.ref (h.length + 1), .null, .null]), .inr (4, [.ref 10, .int 0, .int 0]), .inr (4, [.null, .int 0, .int 0])] : xx_H)) _
  refine go_a (pc' := 20) (ls' := [some (.ref h.length)]) (st' := [(.ref (h.length + 2)), (.ref (h.length + 2)), (.ref h.length)]) rfl rfl ?_
  refine go_i (m := 25) (as := [.ref (h.length + 2)]) (r := [.ref (h.length + 2), .ref h.length]) rfl rfl rfl rfl rfl (xm_alist z d (h.length + 2) _ (xq_get 2) (by omega)) (fun w h5 hq => ?_)
  obtain ⟨rfl, hq⟩ := hq
  have hq : h5 = h ++ ([.inr (5, [.ref (h.length + 1), .null, .null]), .inr (4, [.ref 10, .int 0, .int 0]), .inr (4, [.ref 10, .int 0, .int 0])] : xx_H) := by
    rw [hq, List.set_append_right _ _ (by omega), show h.length + 2 - h.length = 2 by omega]
    rfl
  subst hq
  refine go_put (j := 1) rfl xq_get0 rfl rfl hc (Nat.lt_of_sub_pos (by simp)) rfl rfl ?_
  rw [xq_set0]
  show xx_go (xt_P z) (d + 3) 24 26 [some (.ref h.length)] [] (h ++ ([.inr (5, [.ref (h.length + 1), .ref (h.length + 2), .null]), .inr (4, [.ref 10, .int 0, .int 0]), .inr (4, [.ref 10, .int 0, .int 0])] : xx_H)) _
  refine go_a (pc' := 27) (ls' := [some (.ref h.length)]) (st' := [(.ref h.length)]) rfl rfl ?_
  refine go_new (ci := 4) (fs := [.null, .int 0, .int 0]) rfl rfl rfl ?_
  rw [show (h ++ ([.inr (5, [.ref (h.length + 1), .ref (h.length + 2), .null]), .inr (4, [.ref 10, .int 0, .int 0]), .inr (4, [.ref 10, .int 0, .int 0])] : xx_H)).length = h.length + 3 from xq_len, List.append_assoc]
  show xx_go (xt_P z) (d + 3) 24 30 [some (.ref h.length)] [.ref (h.length + 3), .ref h.length] (h ++ ([.inr (5, [.ref (h.length + 1), .ref (h.length + 2), .null]), .inr (4, [.ref 10, .int 0, .int 0]), .inr (4, [.ref 10, .int 0, .int 0]), .inr (4, [.null, .int 0, .int 0])] : xx_H)) _
  refine go_a (pc' := 31) (ls' := [some (.ref h.length)]) (st' := [(.ref (h.length + 3)), (.ref (h.length + 3)), (.ref h.length)]) rfl rfl ?_
  refine go_i (m := 25) (as := [.ref (h.length + 3)]) (r := [.ref (h.length + 3), .ref h.length]) rfl rfl rfl rfl rfl (xm_alist z d (h.length + 3) _ (xq_get 3) (by omega)) (fun w h5 hq => ?_)
  obtain ⟨rfl, hq⟩ := hq
  have hq : h5 = h ++ ([.inr (5, [.ref (h.length + 1), .ref (h.length + 2), .null]), .inr (4, [.ref 10, .int 0, .int 0]), .inr (4, [.ref 10, .int 0, .int 0]), .inr (4, [.ref 10, .int 0, .int 0])] : xx_H) := by
    rw [hq, List.set_append_right _ _ (by omega), show h.length + 3 - h.length = 3 by omega]
    rfl
  subst hq
  refine go_put (j := 2) rfl xq_get0 rfl rfl hc (Nat.lt_of_sub_pos (by simp)) rfl rfl ?_
  rw [xq_set0]
  show xx_go (xt_P z) (d + 3) 24 37 [some (.ref h.length)] [] (h ++ ([.inr (5, [.ref (h.length + 1), .ref (h.length + 2), .ref (h.length + 3)]), .inr (4, [.ref 10, .int 0, .int 0]), .inr (4, [.ref 10, .int 0, .int 0]), .inr (4, [.ref 10, .int 0, .int 0])] : xx_H)) _
  exact go_r rfl rfl rfl rfl rfl rfl ⟨rfl, rfl⟩
