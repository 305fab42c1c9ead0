/-! Teller, Terms, Reader, Prover: their constructors -/
set_option maxHeartbeats 1000000 in
/-- Teller(Cells) -/
theorem xm_teller (z : Value) (d : Nat) (e : Nat) (h : xx_H) (hc : 11 ≤ h.length) : xx_cl (xt_P z) (d + 2) 23 [.ref h.length, .ref e] (h ++ [.inr (3, [.null, .null, .null])]) (fun w h1 => w = none ∧ h1 = h ++ [.inr (3, [.ref e, .ref (h.length + 1), .ref (h.length + 3)]), .inr (0, [.ref (h.length + 2), .int 0]), .inl (.int, List.replicate 256 (.int 0)), .inr (0, [.ref (h.length + 4), .int 0]), .inl (.int, List.replicate 64 (.int 0))]) := by
  refine cl_go rfl ?_
  show xx_go (xt_P z) (d + 1) 23 0 [some (.ref h.length), some (.ref e)] [] (h ++ ([.inr (3, [.null, .null, .null])] : xx_H)) _
  refine go_a (pc' := 1) (ls' := [some (.ref h.length), some (.ref e)]) (st' := [(.ref h.length)]) rfl rfl ?_
  refine go_o (st' := []) rfl rfl rfl rfl ?_
  refine go_a (pc' := 5) (ls' := [some (.ref h.length), some (.ref e)]) (st' := [(.ref h.length)]) rfl rfl ?_
  refine go_new (ci := 0) (fs := [.null, .int 0]) rfl rfl rfl ?_
  rw [show (h ++ ([.inr (3, [.null, .null, .null])] : xx_H)).length = h.length + 1 from xq_len, List.append_assoc]
  show xx_go (xt_P z) (d + 1) 23 8 [some (.ref h.length), some (.ref e)] [.ref (h.length + 1), .ref h.length] (h ++ ([.inr (3, [.null, .null, .null]), .inr (0, [.null, .int 0])] : xx_H)) _
  refine go_a (pc' := 9) (ls' := [some (.ref h.length), some (.ref e)]) (st' := [(.ref (h.length + 1)), (.ref (h.length + 1)), (.ref h.length)]) rfl rfl ?_
  refine go_a (pc' := 12) (ls' := [some (.ref h.length), some (.ref e)]) (st' := [(.int 256), (.ref (h.length + 1)), (.ref (h.length + 1)), (.ref h.length)]) rfl rfl ?_
  refine go_i (m := 2) (as := [.ref (h.length + 1), .int 256]) (r := [.ref (h.length + 1), .ref h.length]) rfl rfl rfl rfl rfl (xm_row_init z (d + 0) (h.length + 1) 256 _ (xq_get 1) (by omega) (by decide) (by decide)) (fun w h5 hq => ?_)
  obtain ⟨rfl, hq⟩ := hq
  have hq : h5 = h ++ ([.inr (3, [.null, .null, .null]), .inr (0, [.ref (h.length + 2), .int 0]), .inl (.int, List.replicate 256 (.int 0))] : xx_H) := by
    rw [hq, List.append_assoc, List.set_append_right _ _ (by omega), show h.length + 1 - h.length = 1 by omega, xq_len]
    rfl
  subst hq
  refine go_put (j := 1) rfl xq_get0 rfl rfl hc (Nat.lt_of_sub_pos (by simp)) rfl rfl ?_
  rw [xq_set0]
  show xx_go (xt_P z) (d + 1) 23 18 [some (.ref h.length), some (.ref e)] [] (h ++ ([.inr (3, [.null, .ref (h.length + 1), .null]), .inr (0, [.ref (h.length + 2), .int 0]), .inl (.int, List.replicate 256 (.int 0))] : xx_H)) _
  refine go_a (pc' := 19) (ls' := [some (.ref h.length), some (.ref e)]) (st' := [(.ref h.length)]) rfl rfl ?_
  refine go_new (ci := 0) (fs := [.null, .int 0]) rfl rfl rfl ?_
  rw [show (h ++ ([.inr (3, [.null, .ref (h.length + 1), .null]), .inr (0, [.ref (h.length + 2), .int 0]), .inl (.int, List.replicate 256 (.int 0))] : xx_H)).length = h.length + 3 from xq_len, List.append_assoc]
  show xx_go (xt_P z) (d + 1) 23 22 [some (.ref h.length), some (.ref e)] [.ref (h.length + 3), .ref h.length] (h ++ ([.inr (3, [.null, .ref (h.length + 1), .null]), .inr (0, [.ref (h.length + 2), .int 0]), .inl (.int, List.replicate 256 (.int 0)), .inr (0, [.null, .int 0])] : xx_H)) _
  refine go_a (pc' := 23) (ls' := [some (.ref h.length), some (.ref e)]) (st' := [(.ref (h.length + 3)), (.ref (h.length + 3)), (.ref h.length)]) rfl rfl ?_
  refine go_a (pc' := 25) (ls' := [some (.ref h.length), some (.ref e)]) (st' := [(.int 64), (.ref (h.length + 3)), (.ref (h.length + 3)), (.ref h.length)]) rfl rfl ?_
  refine go_i (m := 2) (as := [.ref (h.length + 3), .int 64]) (r := [.ref (h.length + 3), .ref h.length]) rfl rfl rfl rfl rfl (xm_row_init z (d + 0) (h.length + 3) 64 _ (xq_get 3) (by omega) (by decide) (by decide)) (fun w h5 hq => ?_)
  obtain ⟨rfl, hq⟩ := hq
  have hq : h5 = h ++ ([.inr (3, [.null, .ref (h.length + 1), .null]), .inr (0, [.ref (h.length + 2), .int 0]), .inl (.int, List.replicate 256 (.int 0)), .inr (0, [.ref (h.length + 4), .int 0]), .inl (.int, List.replicate 64 (.int 0))] : xx_H) := by
    rw [hq, List.append_assoc, List.set_append_right _ _ (by omega), show h.length + 3 - h.length = 3 by omega, xq_len]
    rfl
  subst hq
  refine go_put (j := 2) rfl xq_get0 rfl rfl hc (Nat.lt_of_sub_pos (by simp)) rfl rfl ?_
  rw [xq_set0]
  show xx_go (xt_P z) (d + 1) 23 31 [some (.ref h.length), some (.ref e)] [] (h ++ ([.inr (3, [.null, .ref (h.length + 1), .ref (h.length + 3)]), .inr (0, [.ref (h.length + 2), .int 0]), .inl (.int, List.replicate 256 (.int 0)), .inr (0, [.ref (h.length + 4), .int 0]), .inl (.int, List.replicate 64 (.int 0))] : xx_H)) _
  refine go_a (pc' := 32) (ls' := [some (.ref h.length), some (.ref e)]) (st' := [(.ref h.length)]) rfl rfl ?_
  refine go_a (pc' := 33) (ls' := [some (.ref h.length), some (.ref e)]) (st' := [(.ref e), (.ref h.length)]) rfl rfl ?_
  refine go_put (j := 0) rfl xq_get0 rfl rfl hc (Nat.lt_of_sub_pos (by simp)) rfl rfl ?_
  rw [xq_set0]
  show xx_go (xt_P z) (d + 1) 23 36 [some (.ref h.length), some (.ref e)] [] (h ++ ([.inr (3, [.ref e, .ref (h.length + 1), .ref (h.length + 3)]), .inr (0, [.ref (h.length + 2), .int 0]), .inl (.int, List.replicate 256 (.int 0)), .inr (0, [.ref (h.length + 4), .int 0]), .inl (.int, List.replicate 64 (.int 0))] : xx_H)) _
  exact go_r rfl rfl rfl rfl rfl rfl ⟨rfl, rfl⟩
set_option maxHeartbeats 1000000 in
/-- Terms(Cells, Book) -/
theorem xm_terms (z : Value) (d : Nat) (e b : Nat) (h : xx_H) (hc : 11 ≤ h.length) : xx_cl (xt_P z) (d + 2) 28 [.ref h.length, .ref e, .ref b] (h ++ [.inr (6, [.null, .null, .null, .null, .int 0, .int 0])]) (fun w h1 => w = none ∧ h1 = h ++ [.inr (6, [.ref e, .ref b, .ref (h.length + 1), .ref (h.length + 3), .int (-1), .int (-1)]), .inr (0, [.ref (h.length + 2), .int 0]), .inl (.int, List.replicate 241 (.int 0)), .inr (0, [.ref (h.length + 4), .int 0]), .inl (.int, List.replicate 120 (.int 0))]) := by
  refine cl_go rfl ?_
  show xx_go (xt_P z) (d + 1) 28 0 [some (.ref h.length), some (.ref e), some (.ref b)] [] (h ++ ([.inr (6, [.null, .null, .null, .null, .int 0, .int 0])] : xx_H)) _
  refine go_a (pc' := 1) (ls' := [some (.ref h.length), some (.ref e), some (.ref b)]) (st' := [(.ref h.length)]) rfl rfl ?_
  refine go_o (st' := []) rfl rfl rfl rfl ?_
  refine go_a (pc' := 5) (ls' := [some (.ref h.length), some (.ref e), some (.ref b)]) (st' := [(.ref h.length)]) rfl rfl ?_
  refine go_new (ci := 0) (fs := [.null, .int 0]) rfl rfl rfl ?_
  rw [show (h ++ ([.inr (6, [.null, .null, .null, .null, .int 0, .int 0])] : xx_H)).length = h.length + 1 from xq_len, List.append_assoc]
  show xx_go (xt_P z) (d + 1) 28 8 [some (.ref h.length), some (.ref e), some (.ref b)] [.ref (h.length + 1), .ref h.length] (h ++ ([.inr (6, [.null, .null, .null, .null, .int 0, .int 0]), .inr (0, [.null, .int 0])] : xx_H)) _
  refine go_a (pc' := 9) (ls' := [some (.ref h.length), some (.ref e), some (.ref b)]) (st' := [(.ref (h.length + 1)), (.ref (h.length + 1)), (.ref h.length)]) rfl rfl ?_
  refine go_a (pc' := 12) (ls' := [some (.ref h.length), some (.ref e), some (.ref b)]) (st' := [(.int 241), (.ref (h.length + 1)), (.ref (h.length + 1)), (.ref h.length)]) rfl rfl ?_
  refine go_i (m := 2) (as := [.ref (h.length + 1), .int 241]) (r := [.ref (h.length + 1), .ref h.length]) rfl rfl rfl rfl rfl (xm_row_init z (d + 0) (h.length + 1) 241 _ (xq_get 1) (by omega) (by decide) (by decide)) (fun w h5 hq => ?_)
  obtain ⟨rfl, hq⟩ := hq
  have hq : h5 = h ++ ([.inr (6, [.null, .null, .null, .null, .int 0, .int 0]), .inr (0, [.ref (h.length + 2), .int 0]), .inl (.int, List.replicate 241 (.int 0))] : xx_H) := by
    rw [hq, List.append_assoc, List.set_append_right _ _ (by omega), show h.length + 1 - h.length = 1 by omega, xq_len]
    rfl
  subst hq
  refine go_put (j := 2) rfl xq_get0 rfl rfl hc (Nat.lt_of_sub_pos (by simp)) rfl rfl ?_
  rw [xq_set0]
  show xx_go (xt_P z) (d + 1) 28 18 [some (.ref h.length), some (.ref e), some (.ref b)] [] (h ++ ([.inr (6, [.null, .null, .ref (h.length + 1), .null, .int 0, .int 0]), .inr (0, [.ref (h.length + 2), .int 0]), .inl (.int, List.replicate 241 (.int 0))] : xx_H)) _
  refine go_a (pc' := 19) (ls' := [some (.ref h.length), some (.ref e), some (.ref b)]) (st' := [(.ref h.length)]) rfl rfl ?_
  refine go_new (ci := 0) (fs := [.null, .int 0]) rfl rfl rfl ?_
  rw [show (h ++ ([.inr (6, [.null, .null, .ref (h.length + 1), .null, .int 0, .int 0]), .inr (0, [.ref (h.length + 2), .int 0]), .inl (.int, List.replicate 241 (.int 0))] : xx_H)).length = h.length + 3 from xq_len, List.append_assoc]
  show xx_go (xt_P z) (d + 1) 28 22 [some (.ref h.length), some (.ref e), some (.ref b)] [.ref (h.length + 3), .ref h.length] (h ++ ([.inr (6, [.null, .null, .ref (h.length + 1), .null, .int 0, .int 0]), .inr (0, [.ref (h.length + 2), .int 0]), .inl (.int, List.replicate 241 (.int 0)), .inr (0, [.null, .int 0])] : xx_H)) _
  refine go_a (pc' := 23) (ls' := [some (.ref h.length), some (.ref e), some (.ref b)]) (st' := [(.ref (h.length + 3)), (.ref (h.length + 3)), (.ref h.length)]) rfl rfl ?_
  refine go_a (pc' := 25) (ls' := [some (.ref h.length), some (.ref e), some (.ref b)]) (st' := [(.int 120), (.ref (h.length + 3)), (.ref (h.length + 3)), (.ref h.length)]) rfl rfl ?_
  refine go_i (m := 2) (as := [.ref (h.length + 3), .int 120]) (r := [.ref (h.length + 3), .ref h.length]) rfl rfl rfl rfl rfl (xm_row_init z (d + 0) (h.length + 3) 120 _ (xq_get 3) (by omega) (by decide) (by decide)) (fun w h5 hq => ?_)
  obtain ⟨rfl, hq⟩ := hq
  have hq : h5 = h ++ ([.inr (6, [.null, .null, .ref (h.length + 1), .null, .int 0, .int 0]), .inr (0, [.ref (h.length + 2), .int 0]), .inl (.int, List.replicate 241 (.int 0)), .inr (0, [.ref (h.length + 4), .int 0]), .inl (.int, List.replicate 120 (.int 0))] : xx_H) := by
    rw [hq, List.append_assoc, List.set_append_right _ _ (by omega), show h.length + 3 - h.length = 3 by omega, xq_len]
    rfl
  subst hq
  refine go_put (j := 3) rfl xq_get0 rfl rfl hc (Nat.lt_of_sub_pos (by simp)) rfl rfl ?_
  rw [xq_set0]
  show xx_go (xt_P z) (d + 1) 28 31 [some (.ref h.length), some (.ref e), some (.ref b)] [] (h ++ ([.inr (6, [.null, .null, .ref (h.length + 1), .ref (h.length + 3), .int 0, .int 0]), .inr (0, [.ref (h.length + 2), .int 0]), .inl (.int, List.replicate 241 (.int 0)), .inr (0, [.ref (h.length + 4), .int 0]), .inl (.int, List.replicate 120 (.int 0))] : xx_H)) _
  refine go_a (pc' := 32) (ls' := [some (.ref h.length), some (.ref e), some (.ref b)]) (st' := [(.ref h.length)]) rfl rfl ?_
  refine go_a (pc' := 33) (ls' := [some (.ref h.length), some (.ref e), some (.ref b)]) (st' := [(.int (-1)), (.ref h.length)]) rfl rfl ?_
  refine go_put (j := 4) rfl xq_get0 rfl rfl hc (Nat.lt_of_sub_pos (by simp)) rfl rfl ?_
  rw [xq_set0]
  show xx_go (xt_P z) (d + 1) 28 36 [some (.ref h.length), some (.ref e), some (.ref b)] [] (h ++ ([.inr (6, [.null, .null, .ref (h.length + 1), .ref (h.length + 3), .int (-1), .int 0]), .inr (0, [.ref (h.length + 2), .int 0]), .inl (.int, List.replicate 241 (.int 0)), .inr (0, [.ref (h.length + 4), .int 0]), .inl (.int, List.replicate 120 (.int 0))] : xx_H)) _
  refine go_a (pc' := 37) (ls' := [some (.ref h.length), some (.ref e), some (.ref b)]) (st' := [(.ref h.length)]) rfl rfl ?_
  refine go_a (pc' := 38) (ls' := [some (.ref h.length), some (.ref e), some (.ref b)]) (st' := [(.int (-1)), (.ref h.length)]) rfl rfl ?_
  refine go_put (j := 5) rfl xq_get0 rfl rfl hc (Nat.lt_of_sub_pos (by simp)) rfl rfl ?_
  rw [xq_set0]
  show xx_go (xt_P z) (d + 1) 28 41 [some (.ref h.length), some (.ref e), some (.ref b)] [] (h ++ ([.inr (6, [.null, .null, .ref (h.length + 1), .ref (h.length + 3), .int (-1), .int (-1)]), .inr (0, [.ref (h.length + 2), .int 0]), .inl (.int, List.replicate 241 (.int 0)), .inr (0, [.ref (h.length + 4), .int 0]), .inl (.int, List.replicate 120 (.int 0))] : xx_H)) _
  refine go_a (pc' := 42) (ls' := [some (.ref h.length), some (.ref e), some (.ref b)]) (st' := [(.ref h.length)]) rfl rfl ?_
  refine go_a (pc' := 43) (ls' := [some (.ref h.length), some (.ref e), some (.ref b)]) (st' := [(.ref e), (.ref h.length)]) rfl rfl ?_
  refine go_put (j := 0) rfl xq_get0 rfl rfl hc (Nat.lt_of_sub_pos (by simp)) rfl rfl ?_
  rw [xq_set0]
  show xx_go (xt_P z) (d + 1) 28 46 [some (.ref h.length), some (.ref e), some (.ref b)] [] (h ++ ([.inr (6, [.ref e, .null, .ref (h.length + 1), .ref (h.length + 3), .int (-1), .int (-1)]), .inr (0, [.ref (h.length + 2), .int 0]), .inl (.int, List.replicate 241 (.int 0)), .inr (0, [.ref (h.length + 4), .int 0]), .inl (.int, List.replicate 120 (.int 0))] : xx_H)) _
  refine go_a (pc' := 47) (ls' := [some (.ref h.length), some (.ref e), some (.ref b)]) (st' := [(.ref h.length)]) rfl rfl ?_
  refine go_a (pc' := 48) (ls' := [some (.ref h.length), some (.ref e), some (.ref b)]) (st' := [(.ref b), (.ref h.length)]) rfl rfl ?_
  refine go_put (j := 1) rfl xq_get0 rfl rfl hc (Nat.lt_of_sub_pos (by simp)) rfl rfl ?_
  rw [xq_set0]
  show xx_go (xt_P z) (d + 1) 28 51 [some (.ref h.length), some (.ref e), some (.ref b)] [] (h ++ ([.inr (6, [.ref e, .ref b, .ref (h.length + 1), .ref (h.length + 3), .int (-1), .int (-1)]), .inr (0, [.ref (h.length + 2), .int 0]), .inl (.int, List.replicate 241 (.int 0)), .inr (0, [.ref (h.length + 4), .int 0]), .inl (.int, List.replicate 120 (.int 0))] : xx_H)) _
  exact go_r rfl rfl rfl rfl rfl rfl ⟨rfl, rfl⟩
set_option maxHeartbeats 1000000 in
/-- Reader(Cells) -/
theorem xm_reader (z : Value) (d : Nat) (e : Nat) (h : xx_H) (hc : 11 ≤ h.length) : xx_cl (xt_P z) (d + 2) 22 [.ref h.length, .ref e] (h ++ [.inr (2, [.null, .null, .null, .null, .int 0, .int 0, .int 0, .int 0, .int 0])]) (fun w h1 => w = none ∧ h1 = h ++ [.inr (2, [.ref e, .ref (h.length + 1), .ref (h.length + 3), .ref (h.length + 5), .int 0, .int 0, .int 0, .int 0, .int (-1)]), .inr (0, [.ref (h.length + 2), .int 0]), .inl (.int, List.replicate 41 (.int 0)), .inr (0, [.ref (h.length + 4), .int 0]), .inl (.int, List.replicate 41 (.int 0)), .inr (0, [.ref (h.length + 6), .int 0]), .inl (.int, List.replicate 64 (.int 0))]) := by
  refine cl_go rfl ?_
  show xx_go (xt_P z) (d + 1) 22 0 [some (.ref h.length), some (.ref e)] [] (h ++ ([.inr (2, [.null, .null, .null, .null, .int 0, .int 0, .int 0, .int 0, .int 0])] : xx_H)) _
  refine go_a (pc' := 1) (ls' := [some (.ref h.length), some (.ref e)]) (st' := [(.ref h.length)]) rfl rfl ?_
  refine go_o (st' := []) rfl rfl rfl rfl ?_
  refine go_a (pc' := 5) (ls' := [some (.ref h.length), some (.ref e)]) (st' := [(.ref h.length)]) rfl rfl ?_
  refine go_new (ci := 0) (fs := [.null, .int 0]) rfl rfl rfl ?_
  rw [show (h ++ ([.inr (2, [.null, .null, .null, .null, .int 0, .int 0, .int 0, .int 0, .int 0])] : xx_H)).length = h.length + 1 from xq_len, List.append_assoc]
  show xx_go (xt_P z) (d + 1) 22 8 [some (.ref h.length), some (.ref e)] [.ref (h.length + 1), .ref h.length] (h ++ ([.inr (2, [.null, .null, .null, .null, .int 0, .int 0, .int 0, .int 0, .int 0]), .inr (0, [.null, .int 0])] : xx_H)) _
  refine go_a (pc' := 9) (ls' := [some (.ref h.length), some (.ref e)]) (st' := [(.ref (h.length + 1)), (.ref (h.length + 1)), (.ref h.length)]) rfl rfl ?_
  refine go_a (pc' := 11) (ls' := [some (.ref h.length), some (.ref e)]) (st' := [(.int 41), (.ref (h.length + 1)), (.ref (h.length + 1)), (.ref h.length)]) rfl rfl ?_
  refine go_i (m := 2) (as := [.ref (h.length + 1), .int 41]) (r := [.ref (h.length + 1), .ref h.length]) rfl rfl rfl rfl rfl (xm_row_init z (d + 0) (h.length + 1) 41 _ (xq_get 1) (by omega) (by decide) (by decide)) (fun w h5 hq => ?_)
  obtain ⟨rfl, hq⟩ := hq
  have hq : h5 = h ++ ([.inr (2, [.null, .null, .null, .null, .int 0, .int 0, .int 0, .int 0, .int 0]), .inr (0, [.ref (h.length + 2), .int 0]), .inl (.int, List.replicate 41 (.int 0))] : xx_H) := by
    rw [hq, List.append_assoc, List.set_append_right _ _ (by omega), show h.length + 1 - h.length = 1 by omega, xq_len]
    rfl
  subst hq
  refine go_put (j := 1) rfl xq_get0 rfl rfl hc (Nat.lt_of_sub_pos (by simp)) rfl rfl ?_
  rw [xq_set0]
  show xx_go (xt_P z) (d + 1) 22 17 [some (.ref h.length), some (.ref e)] [] (h ++ ([.inr (2, [.null, .ref (h.length + 1), .null, .null, .int 0, .int 0, .int 0, .int 0, .int 0]), .inr (0, [.ref (h.length + 2), .int 0]), .inl (.int, List.replicate 41 (.int 0))] : xx_H)) _
  refine go_a (pc' := 18) (ls' := [some (.ref h.length), some (.ref e)]) (st' := [(.ref h.length)]) rfl rfl ?_
  refine go_new (ci := 0) (fs := [.null, .int 0]) rfl rfl rfl ?_
  rw [show (h ++ ([.inr (2, [.null, .ref (h.length + 1), .null, .null, .int 0, .int 0, .int 0, .int 0, .int 0]), .inr (0, [.ref (h.length + 2), .int 0]), .inl (.int, List.replicate 41 (.int 0))] : xx_H)).length = h.length + 3 from xq_len, List.append_assoc]
  show xx_go (xt_P z) (d + 1) 22 21 [some (.ref h.length), some (.ref e)] [.ref (h.length + 3), .ref h.length] (h ++ ([.inr (2, [.null, .ref (h.length + 1), .null, .null, .int 0, .int 0, .int 0, .int 0, .int 0]), .inr (0, [.ref (h.length + 2), .int 0]), .inl (.int, List.replicate 41 (.int 0)), .inr (0, [.null, .int 0])] : xx_H)) _
  refine go_a (pc' := 22) (ls' := [some (.ref h.length), some (.ref e)]) (st' := [(.ref (h.length + 3)), (.ref (h.length + 3)), (.ref h.length)]) rfl rfl ?_
  refine go_a (pc' := 24) (ls' := [some (.ref h.length), some (.ref e)]) (st' := [(.int 41), (.ref (h.length + 3)), (.ref (h.length + 3)), (.ref h.length)]) rfl rfl ?_
  refine go_i (m := 2) (as := [.ref (h.length + 3), .int 41]) (r := [.ref (h.length + 3), .ref h.length]) rfl rfl rfl rfl rfl (xm_row_init z (d + 0) (h.length + 3) 41 _ (xq_get 3) (by omega) (by decide) (by decide)) (fun w h5 hq => ?_)
  obtain ⟨rfl, hq⟩ := hq
  have hq : h5 = h ++ ([.inr (2, [.null, .ref (h.length + 1), .null, .null, .int 0, .int 0, .int 0, .int 0, .int 0]), .inr (0, [.ref (h.length + 2), .int 0]), .inl (.int, List.replicate 41 (.int 0)), .inr (0, [.ref (h.length + 4), .int 0]), .inl (.int, List.replicate 41 (.int 0))] : xx_H) := by
    rw [hq, List.append_assoc, List.set_append_right _ _ (by omega), show h.length + 3 - h.length = 3 by omega, xq_len]
    rfl
  subst hq
  refine go_put (j := 2) rfl xq_get0 rfl rfl hc (Nat.lt_of_sub_pos (by simp)) rfl rfl ?_
  rw [xq_set0]
  show xx_go (xt_P z) (d + 1) 22 30 [some (.ref h.length), some (.ref e)] [] (h ++ ([.inr (2, [.null, .ref (h.length + 1), .ref (h.length + 3), .null, .int 0, .int 0, .int 0, .int 0, .int 0]), .inr (0, [.ref (h.length + 2), .int 0]), .inl (.int, List.replicate 41 (.int 0)), .inr (0, [.ref (h.length + 4), .int 0]), .inl (.int, List.replicate 41 (.int 0))] : xx_H)) _
  refine go_a (pc' := 31) (ls' := [some (.ref h.length), some (.ref e)]) (st' := [(.ref h.length)]) rfl rfl ?_
  refine go_new (ci := 0) (fs := [.null, .int 0]) rfl rfl rfl ?_
  rw [show (h ++ ([.inr (2, [.null, .ref (h.length + 1), .ref (h.length + 3), .null, .int 0, .int 0, .int 0, .int 0, .int 0]), .inr (0, [.ref (h.length + 2), .int 0]), .inl (.int, List.replicate 41 (.int 0)), .inr (0, [.ref (h.length + 4), .int 0]), .inl (.int, List.replicate 41 (.int 0))] : xx_H)).length = h.length + 5 from xq_len, List.append_assoc]
  show xx_go (xt_P z) (d + 1) 22 34 [some (.ref h.length), some (.ref e)] [.ref (h.length + 5), .ref h.length] (h ++ ([.inr (2, [.null, .ref (h.length + 1), .ref (h.length + 3), .null, .int 0, .int 0, .int 0, .int 0, .int 0]), .inr (0, [.ref (h.length + 2), .int 0]), .inl (.int, List.replicate 41 (.int 0)), .inr (0, [.ref (h.length + 4), .int 0]), .inl (.int, List.replicate 41 (.int 0)), .inr (0, [.null, .int 0])] : xx_H)) _
  refine go_a (pc' := 35) (ls' := [some (.ref h.length), some (.ref e)]) (st' := [(.ref (h.length + 5)), (.ref (h.length + 5)), (.ref h.length)]) rfl rfl ?_
  refine go_a (pc' := 37) (ls' := [some (.ref h.length), some (.ref e)]) (st' := [(.int 64), (.ref (h.length + 5)), (.ref (h.length + 5)), (.ref h.length)]) rfl rfl ?_
  refine go_i (m := 2) (as := [.ref (h.length + 5), .int 64]) (r := [.ref (h.length + 5), .ref h.length]) rfl rfl rfl rfl rfl (xm_row_init z (d + 0) (h.length + 5) 64 _ (xq_get 5) (by omega) (by decide) (by decide)) (fun w h5 hq => ?_)
  obtain ⟨rfl, hq⟩ := hq
  have hq : h5 = h ++ ([.inr (2, [.null, .ref (h.length + 1), .ref (h.length + 3), .null, .int 0, .int 0, .int 0, .int 0, .int 0]), .inr (0, [.ref (h.length + 2), .int 0]), .inl (.int, List.replicate 41 (.int 0)), .inr (0, [.ref (h.length + 4), .int 0]), .inl (.int, List.replicate 41 (.int 0)), .inr (0, [.ref (h.length + 6), .int 0]), .inl (.int, List.replicate 64 (.int 0))] : xx_H) := by
    rw [hq, List.append_assoc, List.set_append_right _ _ (by omega), show h.length + 5 - h.length = 5 by omega, xq_len]
    rfl
  subst hq
  refine go_put (j := 3) rfl xq_get0 rfl rfl hc (Nat.lt_of_sub_pos (by simp)) rfl rfl ?_
  rw [xq_set0]
  show xx_go (xt_P z) (d + 1) 22 43 [some (.ref h.length), some (.ref e)] [] (h ++ ([.inr (2, [.null, .ref (h.length + 1), .ref (h.length + 3), .ref (h.length + 5), .int 0, .int 0, .int 0, .int 0, .int 0]), .inr (0, [.ref (h.length + 2), .int 0]), .inl (.int, List.replicate 41 (.int 0)), .inr (0, [.ref (h.length + 4), .int 0]), .inl (.int, List.replicate 41 (.int 0)), .inr (0, [.ref (h.length + 6), .int 0]), .inl (.int, List.replicate 64 (.int 0))] : xx_H)) _
  refine go_a (pc' := 44) (ls' := [some (.ref h.length), some (.ref e)]) (st' := [(.ref h.length)]) rfl rfl ?_
  refine go_a (pc' := 45) (ls' := [some (.ref h.length), some (.ref e)]) (st' := [(.int (-1)), (.ref h.length)]) rfl rfl ?_
  refine go_put (j := 8) rfl xq_get0 rfl rfl hc (Nat.lt_of_sub_pos (by simp)) rfl rfl ?_
  rw [xq_set0]
  show xx_go (xt_P z) (d + 1) 22 48 [some (.ref h.length), some (.ref e)] [] (h ++ ([.inr (2, [.null, .ref (h.length + 1), .ref (h.length + 3), .ref (h.length + 5), .int 0, .int 0, .int 0, .int 0, .int (-1)]), .inr (0, [.ref (h.length + 2), .int 0]), .inl (.int, List.replicate 41 (.int 0)), .inr (0, [.ref (h.length + 4), .int 0]), .inl (.int, List.replicate 41 (.int 0)), .inr (0, [.ref (h.length + 6), .int 0]), .inl (.int, List.replicate 64 (.int 0))] : xx_H)) _
  refine go_a (pc' := 49) (ls' := [some (.ref h.length), some (.ref e)]) (st' := [(.ref h.length)]) rfl rfl ?_
  refine go_a (pc' := 50) (ls' := [some (.ref h.length), some (.ref e)]) (st' := [(.ref e), (.ref h.length)]) rfl rfl ?_
  refine go_put (j := 0) rfl xq_get0 rfl rfl hc (Nat.lt_of_sub_pos (by simp)) rfl rfl ?_
  rw [xq_set0]
  show xx_go (xt_P z) (d + 1) 22 53 [some (.ref h.length), some (.ref e)] [] (h ++ ([.inr (2, [.ref e, .ref (h.length + 1), .ref (h.length + 3), .ref (h.length + 5), .int 0, .int 0, .int 0, .int 0, .int (-1)]), .inr (0, [.ref (h.length + 2), .int 0]), .inl (.int, List.replicate 41 (.int 0)), .inr (0, [.ref (h.length + 4), .int 0]), .inl (.int, List.replicate 41 (.int 0)), .inr (0, [.ref (h.length + 6), .int 0]), .inl (.int, List.replicate 64 (.int 0))] : xx_H)) _
  exact go_r rfl rfl rfl rfl rfl rfl ⟨rfl, rfl⟩
set_option maxHeartbeats 1000000 in
/-- Prover(Cells, Book, Terms) -/
theorem xm_prover (z : Value) (d : Nat) (e b t : Nat) (h : xx_H) (hc : 11 ≤ h.length) : xx_cl (xt_P z) (d + 2) 29 [.ref h.length, .ref e, .ref b, .ref t] (h ++ [.inr (8, [.null, .null, .null, .null, .int 0, .int 0, .int 0, .int 0])]) (fun w h1 => w = none ∧ h1 = h ++ [.inr (8, [.ref e, .ref b, .ref t, .ref (h.length + 1), .int 0, .int 0, .int 0, .int 0]), .inr (7, [.ref t])]) := by
  refine cl_go rfl ?_
  show xx_go (xt_P z) (d + 1) 29 0 [some (.ref h.length), some (.ref e), some (.ref b), some (.ref t)] [] (h ++ ([.inr (8, [.null, .null, .null, .null, .int 0, .int 0, .int 0, .int 0])] : xx_H)) _
  refine go_a (pc' := 1) (ls' := [some (.ref h.length), some (.ref e), some (.ref b), some (.ref t)]) (st' := [(.ref h.length)]) rfl rfl ?_
  refine go_o (st' := []) rfl rfl rfl rfl ?_
  refine go_a (pc' := 5) (ls' := [some (.ref h.length), some (.ref e), some (.ref b), some (.ref t)]) (st' := [(.ref h.length)]) rfl rfl ?_
  refine go_a (pc' := 6) (ls' := [some (.ref h.length), some (.ref e), some (.ref b), some (.ref t)]) (st' := [(.ref e), (.ref h.length)]) rfl rfl ?_
  refine go_put (j := 0) rfl xq_get0 rfl rfl hc (Nat.lt_of_sub_pos (by simp)) rfl rfl ?_
  rw [xq_set0]
  show xx_go (xt_P z) (d + 1) 29 9 [some (.ref h.length), some (.ref e), some (.ref b), some (.ref t)] [] (h ++ ([.inr (8, [.ref e, .null, .null, .null, .int 0, .int 0, .int 0, .int 0])] : xx_H)) _
  refine go_a (pc' := 10) (ls' := [some (.ref h.length), some (.ref e), some (.ref b), some (.ref t)]) (st' := [(.ref h.length)]) rfl rfl ?_
  refine go_a (pc' := 11) (ls' := [some (.ref h.length), some (.ref e), some (.ref b), some (.ref t)]) (st' := [(.ref b), (.ref h.length)]) rfl rfl ?_
  refine go_put (j := 1) rfl xq_get0 rfl rfl hc (Nat.lt_of_sub_pos (by simp)) rfl rfl ?_
  rw [xq_set0]
  show xx_go (xt_P z) (d + 1) 29 14 [some (.ref h.length), some (.ref e), some (.ref b), some (.ref t)] [] (h ++ ([.inr (8, [.ref e, .ref b, .null, .null, .int 0, .int 0, .int 0, .int 0])] : xx_H)) _
  refine go_a (pc' := 15) (ls' := [some (.ref h.length), some (.ref e), some (.ref b), some (.ref t)]) (st' := [(.ref h.length)]) rfl rfl ?_
  refine go_a (pc' := 16) (ls' := [some (.ref h.length), some (.ref e), some (.ref b), some (.ref t)]) (st' := [(.ref t), (.ref h.length)]) rfl rfl ?_
  refine go_put (j := 2) rfl xq_get0 rfl rfl hc (Nat.lt_of_sub_pos (by simp)) rfl rfl ?_
  rw [xq_set0]
  show xx_go (xt_P z) (d + 1) 29 19 [some (.ref h.length), some (.ref e), some (.ref b), some (.ref t)] [] (h ++ ([.inr (8, [.ref e, .ref b, .ref t, .null, .int 0, .int 0, .int 0, .int 0])] : xx_H)) _
  refine go_a (pc' := 20) (ls' := [some (.ref h.length), some (.ref e), some (.ref b), some (.ref t)]) (st' := [(.ref h.length)]) rfl rfl ?_
  refine go_new (ci := 7) (fs := [.null]) rfl rfl rfl ?_
  rw [show (h ++ ([.inr (8, [.ref e, .ref b, .ref t, .null, .int 0, .int 0, .int 0, .int 0])] : xx_H)).length = h.length + 1 from xq_len, List.append_assoc]
  show xx_go (xt_P z) (d + 1) 29 23 [some (.ref h.length), some (.ref e), some (.ref b), some (.ref t)] [.ref (h.length + 1), .ref h.length] (h ++ ([.inr (8, [.ref e, .ref b, .ref t, .null, .int 0, .int 0, .int 0, .int 0]), .inr (7, [.null])] : xx_H)) _
  refine go_a (pc' := 24) (ls' := [some (.ref h.length), some (.ref e), some (.ref b), some (.ref t)]) (st' := [(.ref (h.length + 1)), (.ref (h.length + 1)), (.ref h.length)]) rfl rfl ?_
  refine go_a (pc' := 25) (ls' := [some (.ref h.length), some (.ref e), some (.ref b), some (.ref t)]) (st' := [(.ref t), (.ref (h.length + 1)), (.ref (h.length + 1)), (.ref h.length)]) rfl rfl ?_
  refine go_i (m := 30) (as := [.ref (h.length + 1), .ref t]) (r := [.ref (h.length + 1), .ref h.length]) rfl rfl rfl rfl rfl (by
    have key := xm_paths z d t (h ++ ([.inr (8, [.ref e, .ref b, .ref t, .null, .int 0, .int 0, .int 0, .int 0])] : xx_H)) (by rw [xq_len]; omega)
    rw [show (h ++ ([.inr (8, [.ref e, .ref b, .ref t, .null, .int 0, .int 0, .int 0, .int 0])] : xx_H)).length = h.length + 1 from xq_len, List.append_assoc] at key
    exact key) (fun w h5 hq => ?_)
  obtain ⟨rfl, hq⟩ := hq
  rw [List.append_assoc] at hq
  subst hq
  show xx_go (xt_P z) (d + 1) 29 28 [some (.ref h.length), some (.ref e), some (.ref b), some (.ref t)] [.ref (h.length + 1), .ref h.length] (h ++ ([.inr (8, [.ref e, .ref b, .ref t, .null, .int 0, .int 0, .int 0, .int 0]), .inr (7, [.ref t])] : xx_H)) _
  refine go_put (j := 3) rfl xq_get0 rfl rfl hc (Nat.lt_of_sub_pos (by simp)) rfl rfl ?_
  rw [xq_set0]
  show xx_go (xt_P z) (d + 1) 29 31 [some (.ref h.length), some (.ref e), some (.ref b), some (.ref t)] [] (h ++ ([.inr (8, [.ref e, .ref b, .ref t, .ref (h.length + 1), .int 0, .int 0, .int 0, .int 0]), .inr (7, [.ref t])] : xx_H)) _
  exact go_r rfl rfl rfl rfl rfl rfl ⟨rfl, rfl⟩
