theorem mm_tell_def (z : Value) (d : Nat) (x c : Int) (h R : xx_H) (I : Nat → Int) (A : Nat → Int → Int) (N : Int → Int) (hc : 12 ≤ h.length) (hS : MST I A N) (z0 : 17 < I 7) (ho : I 7 + 10 ≤ 140000) (c0 : 0 ≤ c) (c4 : c < 40) (q20 : 0 ≤ A 20 c ∧ A 20 c < I 7) (q21 : 0 ≤ A 21 c ∧ A 21 c ≤ 6) (q22 : ∀ j : Int, 0 ≤ j → j < A 21 c → 0 ≤ A 22 (6 * c + j) ∧ A 22 (6 * c + j) < I 7) (q23 : 0 ≤ A 23 c ∧ A 23 c < I 7) : ∀ (n : Nat) (I1 : Nat → Int) (A1 : Nat → Int → Int) (v k : Int), k + 1 = n → k < A 21 c → EX I A N I1 A1 N → I1 10 = I 10 → I1 7 + (k + 1) ≤ I 7 + A 21 c → 0 ≤ v → v < I1 7 → xx_go (xt_P z) (d + 6) 79 82 [some (.ref h.length), some (.int (iI x)), some (.int (iI (I 7))), some (.int (iI c)), some (.int (iI v)), some (.int (iI k))] [] (mh h R I1 A1 N) (fun v h1 => (v = some (.int (iI (-1))) ∧ h1 = mh h R I A N) ∨ ∃ (I1 : Nat → Int) (A1 : Nat → Int → Int), v = some (.int (iI (I1 15))) ∧ h1 = mh h R I1 A1 N ∧ BX FTL GTL I A N I1 A1 N ∧ I1 7 = I 7 ∧ I1 10 ≤ I 10 ∧ (0 ≤ I1 15 ∧ I1 15 ≤ 2000) ∧ ∀ k : Int, 0 ≤ k → k < I 7 → A1 4 k = A 4 k) := by
  intro n
  induction n with
  | zero =>
    intro I1 A1 v k ek kk X e10 c7 v0 v1
    have x2 := X.2.1
    have a20 : A1 20 = A 20 := X.2.2.2.2.1 20 (by decide) (by decide) (by decide) (by decide) (by decide) (by decide) (by decide) (by decide)
    have a23 : A1 23 = A 23 := X.2.2.2.2.1 23 (by decide) (by decide) (by decide) (by decide) (by decide) (by decide) (by decide) (by decide)
    have f20 : A1 20 c = A 20 c := by rw [a20]
    have f23 : A1 23 c = A 23 c := by rw [a23]
    refine go_a (pc' := 84) (ls' := [some (.ref h.length), some (.int (iI x)), some (.int (iI (I 7))), some (.int (iI c)), some (.int (iI v)), some (.int (iI k))]) (st' := [.int (iI k)]) rfl rfl ?_
    refine mi_lt0 (t := 113) rfl rfl (by omega) (by omega) (fun _ => ?_) (fun q => absurd (show k < 0 by omega) q)
    refine go_a (pc' := 114) (ls' := [some (.ref h.length), some (.int (iI x)), some (.int (iI (I 7))), some (.int (iI c)), some (.int (iI v)), some (.int (iI k))]) (st' := [.ref h.length]) rfl rfl ?_
    refine go_a (pc' := 115) (ls' := [some (.ref h.length), some (.int (iI x)), some (.int (iI (I 7))), some (.int (iI c)), some (.int (iI v)), some (.int (iI k))]) (st' := [.ref h.length, .ref h.length]) rfl rfl ?_
    refine go_a (pc' := 117) (ls' := [some (.ref h.length), some (.int (iI x)), some (.int (iI (I 7))), some (.int (iI c)), some (.int (iI v)), some (.int (iI k))]) (st' := [.int (iI 17), .ref h.length, .ref h.length]) rfl rfl ?_
    refine go_a (pc' := 118) (ls' := [some (.ref h.length), some (.int (iI x)), some (.int (iI (I 7))), some (.int (iI c)), some (.int (iI v)), some (.int (iI k))]) (st' := [.ref h.length, .int (iI 17), .ref h.length, .ref h.length]) rfl rfl ?_
    refine go_get rfl mh_o rfl rfl ?_
    refine go_a (pc' := 122) (ls' := [some (.ref h.length), some (.int (iI x)), some (.int (iI (I 7))), some (.int (iI c)), some (.int (iI v)), some (.int (iI k))]) (st' := [.int (iI c), .ref (h.length + 20), .int (iI 17), .ref h.length, .ref h.length]) rfl rfl ?_
    refine mi_ild rfl mh_a20 (by omega) (by omega) (by decide) ?_
    refine go_a (pc' := 125) (ls' := [some (.ref h.length), some (.int (iI x)), some (.int (iI (I 7))), some (.int (iI c)), some (.int (iI v)), some (.int (iI k))]) (st' := [.int (iI v), .int (iI (A1 20 c)), .int (iI 17), .ref h.length, .ref h.length]) rfl rfl ?_
    refine go_a (pc' := 126) (ls' := [some (.ref h.length), some (.int (iI x)), some (.int (iI (I 7))), some (.int (iI c)), some (.int (iI v)), some (.int (iI k))]) (st' := [.ref h.length, .int (iI v), .int (iI (A1 20 c)), .int (iI 17), .ref h.length, .ref h.length]) rfl rfl ?_
    refine go_get rfl mh_o rfl rfl ?_
    refine go_a (pc' := 130) (ls' := [some (.ref h.length), some (.int (iI x)), some (.int (iI (I 7))), some (.int (iI c)), some (.int (iI v)), some (.int (iI k))]) (st' := [.int (iI c), .ref (h.length + 23), .int (iI v), .int (iI (A1 20 c)), .int (iI 17), .ref h.length, .ref h.length]) rfl rfl ?_
    refine mi_ild rfl mh_a23 (by omega) (by omega) (by decide) ?_
    refine go_v (m := 180) (as := [.ref h.length, .int (iI 17), .int (iI (A1 20 c)), .int (iI v), .int (iI (A1 23 c))]) (r := [.ref h.length]) rfl rfl rfl mh_o rfl rfl (mm_list4 z d 17 (A1 20 c) v (A1 23 c) h R I1 A1 N hc X.1 (by omega) (by omega) (by decide) (by omega) (by omega) (by omega) v0 v1 (by omega) (by omega)) (fun v h1 hq => ?_)
    obtain ⟨k2, I2, A2, rfl, rfl, X2, g0, g1, g2, g3, g4⟩ := hq
    show xx_go (xt_P z) (d + 6) 79 134 [some (.ref h.length), some (.int (iI x)), some (.int (iI (I 7))), some (.int (iI c)), some (.int (iI v)), some (.int (iI k))] [.int (iI k2), .ref h.length] (mh h R I2 A2 N) _
    refine go_v (m := 171) (as := [.ref h.length, .int (iI k2)]) (r := []) rfl rfl rfl mh_o rfl rfl (mm_tellOut z (d + 1) k2 h R I2 A2 N hc X2.1 g0 g1) (fun v h1 hq => ?_)
    obtain ⟨rfl, I3, A3, rfl, Y, y0, y1⟩ := hq
    show xx_go (xt_P z) (d + 6) 79 137 [some (.ref h.length), some (.int (iI x)), some (.int (iI (I 7))), some (.int (iI c)), some (.int (iI v)), some (.int (iI k))] [] (mh h R I3 A3 N) _
    refine go_a (pc' := 162) (ls' := [some (.ref h.length), some (.int (iI x)), some (.int (iI (I 7))), some (.int (iI c)), some (.int (iI v)), some (.int (iI k))]) (st' := []) rfl rfl ?_
    exact mm_tell_end z (d + 3) x c _ _ h R I A N hc hS (by omega) I3 A3 (BX_tr (BX_EX2 (EX_tr X X2)) (BX_TX2 X2.1 Y)) ((Y.1 10 (by decide) (by decide)).trans (g4.trans e10)) ⟨y0, y1⟩ (fun k a b => by rw [Y.2 4 (by decide) (by decide)]; exact ((EX_tr X X2).2.2.1 k a b).2.2.2)
  | succ n ih =>
    intro I1 A1 v k ek kk X e10 c7 v0 v1
    have x2 := X.2.1
    have q := q22 k (by omega) kk
    have a22 : A1 22 = A 22 := X.2.2.2.2.1 22 (by decide) (by decide) (by decide) (by decide) (by decide) (by decide) (by decide) (by decide)
    have f22 : A1 22 (6 * c + k) = A 22 (6 * c + k) := by rw [a22]
    refine go_a (pc' := 84) (ls' := [some (.ref h.length), some (.int (iI x)), some (.int (iI (I 7))), some (.int (iI c)), some (.int (iI v)), some (.int (iI k))]) (st' := [.int (iI k)]) rfl rfl ?_
    refine mi_lt0 (t := 113) rfl rfl (by omega) (by omega) (fun q => absurd q (by omega)) (fun _ => ?_)
    refine go_a (pc' := 88) (ls' := [some (.ref h.length), some (.int (iI x)), some (.int (iI (I 7))), some (.int (iI c)), some (.int (iI v)), some (.int (iI k))]) (st' := [.ref h.length]) rfl rfl ?_
    refine go_a (pc' := 89) (ls' := [some (.ref h.length), some (.int (iI x)), some (.int (iI (I 7))), some (.int (iI c)), some (.int (iI v)), some (.int (iI k))]) (st' := [.ref h.length, .ref h.length]) rfl rfl ?_
    refine go_get rfl mh_o rfl rfl ?_
    refine go_a (pc' := 94) (ls' := [some (.ref h.length), some (.int (iI x)), some (.int (iI (I 7))), some (.int (iI c)), some (.int (iI v)), some (.int (iI k))]) (st' := [.int (iI 6), .ref (h.length + 22), .ref h.length]) rfl rfl ?_
    refine go_a (pc' := 95) (ls' := [some (.ref h.length), some (.int (iI x)), some (.int (iI (I 7))), some (.int (iI c)), some (.int (iI v)), some (.int (iI k))]) (st' := [.int (iI c), .int (iI 6), .ref (h.length + 22), .ref h.length]) rfl rfl ?_
    refine mi_mul rfl ?_
    refine go_a (pc' := 98) (ls' := [some (.ref h.length), some (.int (iI x)), some (.int (iI (I 7))), some (.int (iI c)), some (.int (iI v)), some (.int (iI k))]) (st' := [.int (iI k), .int (iI (6 * c)), .ref (h.length + 22), .ref h.length]) rfl rfl ?_
    refine mi_add rfl ?_
    refine mi_ild rfl mh_a22 (by omega) (by omega) (by decide) ?_
    refine go_a (pc' := 102) (ls' := [some (.ref h.length), some (.int (iI x)), some (.int (iI (I 7))), some (.int (iI c)), some (.int (iI v)), some (.int (iI k))]) (st' := [.int (iI v), .int (iI (A1 22 ((6 * c) + k))), .ref h.length]) rfl rfl ?_
    refine go_v (m := 85) (as := [.ref h.length, .int (iI (A1 22 ((6 * c) + k))), .int (iI v)]) (r := []) rfl rfl rfl mh_o rfl rfl (mm_pairE z (d + 4) (A1 22 (6 * c + k)) v h R I1 A1 N hc X.1 (by omega) (by omega) (by omega) v0 v1) (fun v h1 hq => ?_)
    obtain ⟨k2, I2, A2, rfl, rfl, X2, g0, g1, f1, f2, f3, f4, -⟩ := hq
    show xx_go (xt_P z) (d + 6) 79 105 [some (.ref h.length), some (.int (iI x)), some (.int (iI (I 7))), some (.int (iI c)), some (.int (iI v)), some (.int (iI k))] [.int (iI k2)] (mh h R I2 A2 N) _
    refine go_a (pc' := 107) (ls' := [some (.ref h.length), some (.int (iI x)), some (.int (iI (I 7))), some (.int (iI c)), some (.int (iI k2)), some (.int (iI k))]) (st' := []) rfl rfl ?_
    refine go_a (pc' := 110) (ls' := [some (.ref h.length), some (.int (iI x)), some (.int (iI (I 7))), some (.int (iI c)), some (.int (iI k2)), some (.int (iI (k + (-1))))]) (st' := []) rfl (by rw [← iI_add k (-1)]; rfl) ?_
    refine go_a (pc' := 82) (ls' := [some (.ref h.length), some (.int (iI x)), some (.int (iI (I 7))), some (.int (iI c)), some (.int (iI k2)), some (.int (iI (k + (-1))))]) (st' := []) rfl rfl ?_
    exact ih I2 A2 k2 (k + (-1)) (by omega) (by omega) (EX_tr X X2) (f4.trans e10) (by omega) g0 g1

