/-! Cells() -/
theorem xq_get0 {h l : xx_H} {e : xx_E} : (h ++ e :: l)[h.length]? = some e := by simp
theorem xq_set0 {h l : xx_H} {e e1 : xx_E} : (h ++ e :: l).set h.length e1 = h ++ e1 :: l := by simp
theorem xq_get {h l : xx_H} (i : Nat) : (h ++ l)[h.length + i]? = l[i]? := by
  rw [List.getElem?_append_right (by omega)]
  congr 1
  omega
theorem xq_len {h l : xx_H} : (h ++ l).length = h.length + l.length := by simp
theorem xq_sz {h l : xx_H} : xx_sz (h ++ l) = xx_sz h + xx_sz l := by simp [xx_sz]
theorem xs_rep_i (n : Nat) (x : Int32) : xs_i (List.replicate n (.int x)) := fun j hj => ⟨x, by rw [List.getElem?_replicate, if_pos (by simpa using hj)]⟩
theorem xs_rep_l (n : Nat) (x : Int64) : xs_l (List.replicate n (.long x)) := fun j hj => ⟨x, by rw [List.getElem?_replicate, if_pos (by simpa using hj)]⟩
set_option maxHeartbeats 2000000 in
theorem xm_cells (z : Value) (hz : z = .null ∨ ∃ k, z = .ref k) (d : Nat) (h : xx_H) (b1 b2 b3 ls : List Value) (hc : 11 ≤ h.length) (k1 : xs_B b1) (k2 : xs_B b2) (k3 : xs_B b3) (kl : xs_B ls) (hl0 : 0 < ls.length) (t1 : xs_T h 1 2 b1) (t2 : xs_T h 3 4 b2) (t3 : xs_T h 5 6 b3) (tl : xs_T h 7 8 ls) (hsp : xs_sp b1 + xs_sp b2 + xs_sp b3 ≤ 63) : xx_cl (xt_P z) (d + 7) 3 [.ref h.length] (h ++ [.inr (1, [.null, .null, .null, .null, .int 0])]) (fun w h1 => w = none ∧ (∃ u : Nat, u ≤ 63 ∧ xs_C h1 h.length u) ∧ h1.length = h.length + 5 ∧ xx_sz h1 = xx_sz h + 709 ∧ ∀ i, i < h.length → h1[i]? = h[i]?) := by
  refine cl_go rfl ?_
  show xx_go (xt_P z) (d + 6) 3 0 [some (.ref h.length)] [] (h ++ [.inr (1, [.null, .null, .null, .null, .int 0])]) _
  refine go_a (pc' := 1) (ls' := [some (.ref h.length)]) (st' := [(.ref h.length)]) rfl rfl ?_
  refine go_o (st' := []) rfl rfl rfl rfl ?_
  refine go_a (pc' := 5) (ls' := [some (.ref h.length)]) (st' := [(.ref h.length)]) rfl rfl ?_
  refine go_a (pc' := 7) (ls' := [some (.ref h.length)]) (st' := [(.int 64), (.ref h.length)]) rfl rfl ?_
  refine go_newa (m := 64) (ty := .long) rfl rfl (by decide) rfl (by decide) ?_
  rw [show (h ++ ([.inr (1, [.null, .null, .null, .null, .int 0])] : xx_H)).length = h.length + 1 from xq_len, List.append_assoc]
  show xx_go (xt_P z) (d + 6) 3 9 [some (.ref h.length)] [.ref (h.length + 1), .ref h.length] (h ++ ([.inr (1, [.null, .null, .null, .null, .int 0]), (.inl (.long, List.replicate 64 (.long 0)))] : xx_H)) _
  refine go_put (j := 0) rfl xq_get0 rfl rfl hc (Nat.lt_of_sub_pos (by simp)) rfl rfl ?_
  rw [xq_set0]
  show xx_go (xt_P z) (d + 6) 3 12 [some (.ref h.length)] [] (h ++ ([.inr (1, [.ref (h.length + 1), .null, .null, .null, .int 0]), (.inl (.long, List.replicate 64 (.long 0)))] : xx_H)) _
  refine go_a (pc' := 13) (ls' := [some (.ref h.length)]) (st' := [(.ref h.length)]) rfl rfl ?_
  refine go_a (pc' := 15) (ls' := [some (.ref h.length)]) (st' := [(.int 64), (.ref h.length)]) rfl rfl ?_
  refine go_newa (m := 64) (ty := .int) rfl rfl (by decide) rfl (by decide) ?_
  rw [show (h ++ ([.inr (1, [.ref (h.length + 1), .null, .null, .null, .int 0]), (.inl (.long, List.replicate 64 (.long 0)))] : xx_H)).length = h.length + 2 from xq_len, List.append_assoc]
  show xx_go (xt_P z) (d + 6) 3 17 [some (.ref h.length)] [.ref (h.length + 2), .ref h.length] (h ++ ([.inr (1, [.ref (h.length + 1), .null, .null, .null, .int 0]), (.inl (.long, List.replicate 64 (.long 0))), (.inl (.int, List.replicate 64 (.int 0)))] : xx_H)) _
  refine go_put (j := 1) rfl xq_get0 rfl rfl hc (Nat.lt_of_sub_pos (by simp)) rfl rfl ?_
  rw [xq_set0]
  show xx_go (xt_P z) (d + 6) 3 20 [some (.ref h.length)] [] (h ++ ([.inr (1, [.ref (h.length + 1), .ref (h.length + 2), .null, .null, .int 0]), (.inl (.long, List.replicate 64 (.long 0))), (.inl (.int, List.replicate 64 (.int 0)))] : xx_H)) _
  refine go_a (pc' := 21) (ls' := [some (.ref h.length)]) (st' := [(.ref h.length)]) rfl rfl ?_
  refine go_a (pc' := 23) (ls' := [some (.ref h.length)]) (st' := [(.int 64), (.ref h.length)]) rfl rfl ?_
  refine go_newa (m := 64) (ty := .int) rfl rfl (by decide) rfl (by decide) ?_
  rw [show (h ++ ([.inr (1, [.ref (h.length + 1), .ref (h.length + 2), .null, .null, .int 0]), (.inl (.long, List.replicate 64 (.long 0))), (.inl (.int, List.replicate 64 (.int 0)))] : xx_H)).length = h.length + 3 from xq_len, List.append_assoc]
  show xx_go (xt_P z) (d + 6) 3 25 [some (.ref h.length)] [.ref (h.length + 3), .ref h.length] (h ++ ([.inr (1, [.ref (h.length + 1), .ref (h.length + 2), .null, .null, .int 0]), (.inl (.long, List.replicate 64 (.long 0))), (.inl (.int, List.replicate 64 (.int 0))), (.inl (.int, List.replicate 64 (.int 0)))] : xx_H)) _
  refine go_put (j := 2) rfl xq_get0 rfl rfl hc (Nat.lt_of_sub_pos (by simp)) rfl rfl ?_
  rw [xq_set0]
  show xx_go (xt_P z) (d + 6) 3 28 [some (.ref h.length)] [] (h ++ ([.inr (1, [.ref (h.length + 1), .ref (h.length + 2), .ref (h.length + 3), .null, .int 0]), (.inl (.long, List.replicate 64 (.long 0))), (.inl (.int, List.replicate 64 (.int 0))), (.inl (.int, List.replicate 64 (.int 0)))] : xx_H)) _
  refine go_a (pc' := 29) (ls' := [some (.ref h.length)]) (st' := [(.ref h.length)]) rfl rfl ?_
  refine go_a (pc' := 32) (ls' := [some (.ref h.length)]) (st' := [(.int 512), (.ref h.length)]) rfl rfl ?_
  refine go_newa (m := 512) (ty := .int) rfl rfl (by decide) rfl (by decide) ?_
  rw [show (h ++ ([.inr (1, [.ref (h.length + 1), .ref (h.length + 2), .ref (h.length + 3), .null, .int 0]), (.inl (.long, List.replicate 64 (.long 0))), (.inl (.int, List.replicate 64 (.int 0))), (.inl (.int, List.replicate 64 (.int 0)))] : xx_H)).length = h.length + 4 from xq_len, List.append_assoc]
  show xx_go (xt_P z) (d + 6) 3 34 [some (.ref h.length)] [.ref (h.length + 4), .ref h.length] (h ++ ([.inr (1, [.ref (h.length + 1), .ref (h.length + 2), .ref (h.length + 3), .null, .int 0]), (.inl (.long, List.replicate 64 (.long 0))), (.inl (.int, List.replicate 64 (.int 0))), (.inl (.int, List.replicate 64 (.int 0))), (.inl (.int, List.replicate 512 (.int 0)))] : xx_H)) _
  refine go_put (j := 3) rfl xq_get0 rfl rfl hc (Nat.lt_of_sub_pos (by simp)) rfl rfl ?_
  rw [xq_set0]
  show xx_go (xt_P z) (d + 6) 3 37 [some (.ref h.length)] [] (h ++ ([.inr (1, [.ref (h.length + 1), .ref (h.length + 2), .ref (h.length + 3), .ref (h.length + 4), .int 0]), (.inl (.long, List.replicate 64 (.long 0))), (.inl (.int, List.replicate 64 (.int 0))), (.inl (.int, List.replicate 64 (.int 0))), (.inl (.int, List.replicate 512 (.int 0)))] : xx_H)) _
  refine go_a (pc' := 38) (ls' := [some (.ref h.length)]) (st' := [(.ref h.length)]) rfl rfl ?_
  refine go_get rfl xq_get0 rfl rfl ?_
  refine go_a (pc' := 42) (ls' := [some (.ref h.length)]) (st' := [(.int (-1)), (.ref (h.length + 4))]) rfl rfl ?_
  refine go_s (m := 4) (as := [.ref (h.length + 4), .int (-1)]) (r := []) rfl rfl rfl rfl (xm_fill z (d + 5) (h.length + 4) (-1) _ (List.replicate 512 (.int 0)) (xq_get 4) (by omega) (by rw [List.length_replicate]; decide)) (fun w h5 hq => ?_)
  obtain ⟨rfl, hq⟩ := hq
  have e5 : h5 = h ++ ([.inr (1, [.ref (h.length + 1), .ref (h.length + 2), .ref (h.length + 3), .ref (h.length + 4), .int 0]), (.inl (.long, List.replicate 64 (.long 0))), (.inl (.int, List.replicate 64 (.int 0))), (.inl (.int, List.replicate 64 (.int 0))), (.inl (.int, List.replicate 512 (.int (-1))))] : xx_H) := by
    rw [hq, List.set_append_right _ _ (by omega)]
    congr 1
    rw [show h.length + 4 - h.length = 4 by omega, List.length_replicate]
    rfl
  clear hq
  have hC5 : xs_C h5 h.length 0 := by
    rw [e5]
    exact ⟨_, _, _, _, xq_get0, xq_get 1, xq_get 2, xq_get 3, xq_get 4, List.length_replicate, List.length_replicate, List.length_replicate, List.length_replicate, xs_rep_l _ _, xs_rep_i _ _, xs_rep_i _ _⟩
  have hlen5 : h5.length = h.length + 5 := by rw [e5, xq_len]; rfl
  have hsz5 : xx_sz h5 = xx_sz h + 709 := by
    rw [e5, xq_sz]
    refine congrArg (fun q => xx_sz h + q) ?_
    simp only [xx_sz, List.map_cons, List.map_nil, xx_sz1, List.length_replicate, List.length_cons, List.length_nil, List.sum_cons, List.sum_nil]
    rfl
  have hlow5 : ∀ i, i < h.length → h5[i]? = h[i]? := fun i hi => by rw [e5, List.getElem?_append_left hi]
  have q1 : xs_T h5 1 2 b1 := ⟨(hlow5 1 (by omega)).trans t1.1, (hlow5 2 (by omega)).trans t1.2⟩
  have q2 : xs_T h5 3 4 b2 := ⟨(hlow5 3 (by omega)).trans t2.1, (hlow5 4 (by omega)).trans t2.2⟩
  have q3 : xs_T h5 5 6 b3 := ⟨(hlow5 5 (by omega)).trans t3.1, (hlow5 6 (by omega)).trans t3.2⟩
  have ql : xs_T h5 7 8 ls := ⟨(hlow5 7 (by omega)).trans tl.1, (hlow5 8 (by omega)).trans tl.2⟩
  clear e5
  refine go_a (pc' := 46) (ls' := [some (.ref h.length)]) (st' := [(.ref h.length)]) rfl rfl ?_
  refine go_b (pc' := 48) (st' := [.ref 1, .ref h.length]) (h' := h5) rfl rfl rfl ?_
  obtain ⟨_, _, _, _, g0, -⟩ := id hC5
  refine go_v (m := 5) (as := [.ref h.length, .ref 1]) (r := []) rfl rfl rfl g0 rfl rfl (xm_addNames z hz d h.length 1 2 0 (xs_sp b1) b1 ls h5 hc (by decide) (by omega) k1 kl hl0 hC5 q1 ql (by omega)) (fun w h6 hq => ?_)
  obtain ⟨rfl, u0, hu0, hCn0, hF0⟩ := hq
  have q2 := xs_T_F q2 hF0 (by omega) (by omega)
  have q3 := xs_T_F q3 hF0 (by omega) (by omega)
  have ql := xs_T_F ql hF0 (by omega) (by omega)
  refine go_a (pc' := 52) (ls' := [some (.ref h.length)]) (st' := [(.ref h.length)]) rfl rfl ?_
  refine go_b (pc' := 54) (st' := [.ref 3, .ref h.length]) (h' := h6) rfl rfl rfl ?_
  obtain ⟨_, _, _, _, g1, -⟩ := id hCn0
  refine go_v (m := 5) (as := [.ref h.length, .ref 3]) (r := []) rfl rfl rfl g1 rfl rfl (xm_addNames z hz d h.length 3 4 u0 (xs_sp b1 + xs_sp b2) b2 ls h6 hc (by decide) (by omega) k2 kl hl0 hCn0 q2 ql (by omega)) (fun w h7 hq => ?_)
  obtain ⟨rfl, u1, hu1, hCn1, hF1⟩ := hq
  have q2 := xs_T_F q2 hF1 (by omega) (by omega)
  have q3 := xs_T_F q3 hF1 (by omega) (by omega)
  have ql := xs_T_F ql hF1 (by omega) (by omega)
  refine go_a (pc' := 58) (ls' := [some (.ref h.length)]) (st' := [(.ref h.length)]) rfl rfl ?_
  refine go_b (pc' := 60) (st' := [.ref 5, .ref h.length]) (h' := h7) rfl rfl rfl ?_
  obtain ⟨_, _, _, _, g2, -⟩ := id hCn1
  refine go_v (m := 5) (as := [.ref h.length, .ref 5]) (r := []) rfl rfl rfl g2 rfl rfl (xm_addNames z hz d h.length 5 6 u1 (xs_sp b1 + xs_sp b2 + xs_sp b3) b3 ls h7 hc (by decide) (by omega) k3 kl hl0 hCn1 q3 ql (by omega)) (fun w h8 hq => ?_)
  obtain ⟨rfl, u2, hu2, hCn2, hF2⟩ := hq
  have q2 := xs_T_F q2 hF2 (by omega) (by omega)
  have q3 := xs_T_F q3 hF2 (by omega) (by omega)
  have ql := xs_T_F ql hF2 (by omega) (by omega)
  have hF := xs_F_tr (xs_F_tr hF0 hF1) hF2
  exact go_r rfl rfl rfl rfl rfl rfl ⟨rfl, ⟨u2, by omega, hCn2⟩, hF.1.trans hlen5, hF.2.1.trans hsz5, fun i hi => (hF.2.2 i (Or.inl hi)).trans (hlow5 i hi)⟩
