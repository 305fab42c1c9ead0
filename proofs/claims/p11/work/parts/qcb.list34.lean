theorem mm_list3 (z : Value) (d : Nat) (a b c : Int) (h R : xx_H) (I : Nat → Int) (A : Nat → Int → Int) (N : Int → Int) (hc : 12 ≤ h.length) (hS : MST I A N) (ho : I 7 + 3 ≤ 140000) (z0 : 0 < I 7) (a0 : 0 ≤ a) (a1 : a < I 7) (b0 : 0 ≤ b) (b1 : b < I 7) (c0 : 0 ≤ c) (c1 : c < I 7) : xx_cl (xt_P z) (d + 5) 181 [.ref h.length, .int (iI a), .int (iI b), .int (iI c)] (mh h R I A N) (fun v h1 => ∃ (k : Int) (I1 : Nat → Int) (A1 : Nat → Int → Int), v = some (.int (iI k)) ∧ h1 = mh h R I1 A1 N ∧ EX I A N I1 A1 N ∧ 0 ≤ k ∧ k < I1 7 ∧ 0 ≤ A1 1 k ∧ I1 7 ≤ I 7 + 3 ∧ I1 10 = I 10) := by
  refine cl_go rfl ?_
  show xx_go (xt_P z) (d + 4) 181 0 [some (.ref h.length), some (.int (iI a)), some (.int (iI b)), some (.int (iI c))] [] (mh h R I A N) _
  refine go_a (pc' := 1) (ls' := [some (.ref h.length), some (.int (iI a)), some (.int (iI b)), some (.int (iI c))]) (st' := [.ref h.length]) rfl rfl ?_
  refine go_a (pc' := 2) (ls' := [some (.ref h.length), some (.int (iI a)), some (.int (iI b)), some (.int (iI c))]) (st' := [.int (iI a), .ref h.length]) rfl rfl ?_
  refine go_a (pc' := 3) (ls' := [some (.ref h.length), some (.int (iI a)), some (.int (iI b)), some (.int (iI c))]) (st' := [.ref h.length, .int (iI a), .ref h.length]) rfl rfl ?_
  refine go_a (pc' := 4) (ls' := [some (.ref h.length), some (.int (iI a)), some (.int (iI b)), some (.int (iI c))]) (st' := [.int (iI b), .ref h.length, .int (iI a), .ref h.length]) rfl rfl ?_
  refine go_a (pc' := 5) (ls' := [some (.ref h.length), some (.int (iI a)), some (.int (iI b)), some (.int (iI c))]) (st' := [.int (iI c), .int (iI b), .ref h.length, .int (iI a), .ref h.length]) rfl rfl ?_
  refine go_v (m := 88) (as := [.ref h.length, .int (iI b), .int (iI c)]) (r := [.int (iI a), .ref h.length]) rfl rfl rfl mh_o rfl rfl (mm_list2 z d b c h R I A N hc hS (by omega) z0 b0 b1 c0 c1) (fun v h1 hq => ?_)
  obtain ⟨k, I1, A1, rfl, rfl, X, k0, k1, e1, e2, e3⟩ := hq
  have x2 := X.2.1
  show xx_go (xt_P z) (d + 4) 181 8 [some (.ref h.length), some (.int (iI a)), some (.int (iI b)), some (.int (iI c))] [.int (iI k), .int (iI a), .ref h.length] (mh h R I1 A1 N) _
  refine go_v (m := 85) (as := [.ref h.length, .int (iI a), .int (iI k)]) (r := []) rfl rfl rfl mh_o rfl rfl (mm_pairE z (d + 2) a k h R I1 A1 N hc X.1 (by omega) a0 (by omega) k0 k1) (fun v h1 hq => ?_)
  obtain ⟨k2, I2, A2, rfl, rfl, X2, k20, k21, f1, f2, f3, f4, -⟩ := hq
  exact go_r rfl rfl rfl rfl rfl rfl ⟨k2, I2, A2, rfl, rfl, EX_tr X X2, k20, k21, by omega, by omega, by omega⟩
theorem mm_list4 (z : Value) (d : Nat) (a b c e : Int) (h R : xx_H) (I : Nat → Int) (A : Nat → Int → Int) (N : Int → Int) (hc : 12 ≤ h.length) (hS : MST I A N) (ho : I 7 + 4 ≤ 140000) (z0 : 0 < I 7) (a0 : 0 ≤ a) (a1 : a < I 7) (b0 : 0 ≤ b) (b1 : b < I 7) (c0 : 0 ≤ c) (c1 : c < I 7) (e0 : 0 ≤ e) (e1 : e < I 7) : xx_cl (xt_P z) (d + 6) 180 [.ref h.length, .int (iI a), .int (iI b), .int (iI c), .int (iI e)] (mh h R I A N) (fun v h1 => ∃ (k : Int) (I1 : Nat → Int) (A1 : Nat → Int → Int), v = some (.int (iI k)) ∧ h1 = mh h R I1 A1 N ∧ EX I A N I1 A1 N ∧ 0 ≤ k ∧ k < I1 7 ∧ 0 ≤ A1 1 k ∧ I1 7 ≤ I 7 + 4 ∧ I1 10 = I 10) := by
  refine cl_go rfl ?_
  show xx_go (xt_P z) (d + 5) 180 0 [some (.ref h.length), some (.int (iI a)), some (.int (iI b)), some (.int (iI c)), some (.int (iI e))] [] (mh h R I A N) _
  refine go_a (pc' := 1) (ls' := [some (.ref h.length), some (.int (iI a)), some (.int (iI b)), some (.int (iI c)), some (.int (iI e))]) (st' := [.ref h.length]) rfl rfl ?_
  refine go_a (pc' := 2) (ls' := [some (.ref h.length), some (.int (iI a)), some (.int (iI b)), some (.int (iI c)), some (.int (iI e))]) (st' := [.int (iI a), .ref h.length]) rfl rfl ?_
  refine go_a (pc' := 3) (ls' := [some (.ref h.length), some (.int (iI a)), some (.int (iI b)), some (.int (iI c)), some (.int (iI e))]) (st' := [.ref h.length, .int (iI a), .ref h.length]) rfl rfl ?_
  refine go_a (pc' := 4) (ls' := [some (.ref h.length), some (.int (iI a)), some (.int (iI b)), some (.int (iI c)), some (.int (iI e))]) (st' := [.int (iI b), .ref h.length, .int (iI a), .ref h.length]) rfl rfl ?_
  refine go_a (pc' := 5) (ls' := [some (.ref h.length), some (.int (iI a)), some (.int (iI b)), some (.int (iI c)), some (.int (iI e))]) (st' := [.int (iI c), .int (iI b), .ref h.length, .int (iI a), .ref h.length]) rfl rfl ?_
  refine go_a (pc' := 7) (ls' := [some (.ref h.length), some (.int (iI a)), some (.int (iI b)), some (.int (iI c)), some (.int (iI e))]) (st' := [.int (iI e), .int (iI c), .int (iI b), .ref h.length, .int (iI a), .ref h.length]) rfl rfl ?_
  refine go_v (m := 181) (as := [.ref h.length, .int (iI b), .int (iI c), .int (iI e)]) (r := [.int (iI a), .ref h.length]) rfl rfl rfl mh_o rfl rfl (mm_list3 z d b c e h R I A N hc hS (by omega) z0 b0 b1 c0 c1 e0 e1) (fun v h1 hq => ?_)
  obtain ⟨k, I1, A1, rfl, rfl, X, k0, k1, g1, g2, g3⟩ := hq
  have x2 := X.2.1
  show xx_go (xt_P z) (d + 5) 180 10 [some (.ref h.length), some (.int (iI a)), some (.int (iI b)), some (.int (iI c)), some (.int (iI e))] [.int (iI k), .int (iI a), .ref h.length] (mh h R I1 A1 N) _
  refine go_v (m := 85) (as := [.ref h.length, .int (iI a), .int (iI k)]) (r := []) rfl rfl rfl mh_o rfl rfl (mm_pairE z (d + 3) a k h R I1 A1 N hc X.1 (by omega) a0 (by omega) k0 k1) (fun v h1 hq => ?_)
  obtain ⟨k2, I2, A2, rfl, rfl, X2, k20, k21, f1, f2, f3, f4, -⟩ := hq
  exact go_r rfl rfl rfl rfl rfl rfl ⟨k2, I2, A2, rfl, rfl, EX_tr X X2, k20, k21, by omega, by omega, by omega⟩

