theorem mm_tell (z : Value) (d : Nat) (x : Int) (h R : xx_H) (I : Nat → Int) (A : Nat → Int → Int) (N : Int → Int) (hc : 12 ≤ h.length) (hS : MST I A N) (z0 : 18 < I 7) (ho : I 7 + 10 ≤ 140000) (hT : TLI I A) (x0 : -2147483648 ≤ x) (x1 : x < 2147483648) : xx_cl (xt_P z) (d + 7) 79 [.ref h.length, .int (iI x)] (mh h R I A N) (fun v h1 => (v = some (.int (iI (-1))) ∧ h1 = mh h R I A N) ∨ ∃ (I1 : Nat → Int) (A1 : Nat → Int → Int), v = some (.int (iI (I1 15))) ∧ h1 = mh h R I1 A1 N ∧ BX FTL GTL I A N I1 A1 N ∧ I1 7 = I 7 ∧ I1 10 ≤ I 10 ∧ (0 ≤ I1 15 ∧ I1 15 ≤ 2000) ∧ ∀ k : Int, 0 ≤ k → k < I 7 → A1 4 k = A 4 k) := by
  have t := hT.1
  have b0 := hT.2.1
  have no : xx_go (xt_P z) (d + 6) 79 12 [some (.ref h.length), some (.int (iI x)), none, none, none, none] [] (mh h R I A N) (fun v h1 => (v = some (.int (iI (-1))) ∧ h1 = mh h R I A N) ∨ ∃ (I1 : Nat → Int) (A1 : Nat → Int → Int), v = some (.int (iI (I1 15))) ∧ h1 = mh h R I1 A1 N ∧ BX FTL GTL I A N I1 A1 N ∧ I1 7 = I 7 ∧ I1 10 ≤ I 10 ∧ (0 ≤ I1 15 ∧ I1 15 ≤ 2000) ∧ ∀ k : Int, 0 ≤ k → k < I 7 → A1 4 k = A 4 k) := by
    refine go_a (pc' := 13) (ls' := [some (.ref h.length), some (.int (iI x)), none, none, none, none]) (st' := [.int (iI ((-1)))]) rfl rfl ?_
    exact go_r rfl rfl rfl rfl rfl rfl (Or.inl ⟨rfl, rfl⟩)
  refine cl_go rfl ?_
  show xx_go (xt_P z) (d + 6) 79 0 [some (.ref h.length), some (.int (iI x)), none, none, none, none] [] (mh h R I A N) _
  refine go_a (pc' := 1) (ls' := [some (.ref h.length), some (.int (iI x)), none, none, none, none]) (st' := [.int (iI x)]) rfl rfl ?_
  refine mi_lt0 (t := 12) rfl rfl (by omega) (by omega) (fun _ => no) (fun q1 => ?_)
  refine go_a (pc' := 5) (ls' := [some (.ref h.length), some (.int (iI x)), none, none, none, none]) (st' := [.int (iI x)]) rfl rfl ?_
  refine go_a (pc' := 6) (ls' := [some (.ref h.length), some (.int (iI x)), none, none, none, none]) (st' := [.ref h.length, .int (iI x)]) rfl rfl ?_
  refine go_get (v := .int (iI (I 41))) rfl mh_o rfl rfl ?_
  refine mi_lt (t := 14) rfl rfl (by omega) (by omega) (by omega) (by omega) (fun q2 => ?_) (fun _ => no)
  refine go_a (pc' := 15) (ls' := [some (.ref h.length), some (.int (iI x)), none, none, none, none]) (st' := [.ref h.length]) rfl rfl ?_
  refine go_get (v := .int (iI (I 7))) rfl mh_o rfl rfl ?_
  refine go_a (pc' := 19) (ls' := [some (.ref h.length), some (.int (iI x)), some (.int (iI (I 7))), none, none, none]) (st' := []) rfl rfl ?_
  refine go_a (pc' := 20) (ls' := [some (.ref h.length), some (.int (iI x)), some (.int (iI (I 7))), none, none, none]) (st' := [.int (iI 0)]) rfl rfl ?_
  refine go_a (pc' := 21) (ls' := [some (.ref h.length), some (.int (iI x)), some (.int (iI (I 7))), some (.int (iI 0)), none, none]) (st' := []) rfl rfl ?_
  refine go_a (pc' := 22) (ls' := [some (.ref h.length), some (.int (iI x)), some (.int (iI (I 7))), some (.int (iI 0)), none, none]) (st' := [.int (iI 0)]) rfl rfl ?_
  refine go_a (pc' := 24) (ls' := [some (.ref h.length), some (.int (iI x)), some (.int (iI (I 7))), some (.int (iI 0)), some (.int (iI 0)), none]) (st' := []) rfl rfl ?_
  have h3 := hT.2.2 x (by omega) q2
  have cn := CNT_le (f := A 27) (x := A 27 x) x.toNat
  have bx := b0 x
  refine mm_tell_loop z (d + 6) x (I 7) none h R I A N hc _ (by omega) (by omega) b0 ?_ x.toNat 0 (by omega) (Int.le_refl _) (by omega)
  refine go_a (pc' := 61) (ls' := [some (.ref h.length), some (.int (iI x)), some (.int (iI (I 7))), some (.int (iI (CNT (A 27) (A 27 x) x.toNat))), some (.int (iI x)), none]) (st' := [.ref h.length]) rfl rfl ?_
  refine go_get rfl mh_o rfl rfl ?_
  refine go_a (pc' := 65) (ls' := [some (.ref h.length), some (.int (iI x)), some (.int (iI (I 7))), some (.int (iI (CNT (A 27) (A 27 x) x.toNat))), some (.int (iI x)), none]) (st' := [.int (iI x), .ref (h.length + 27)]) rfl rfl ?_
  refine mi_zld rfl mh_a27 (show 0 ≤ x by omega) (show x < (100 : Nat) by omega) (by decide) ?_
  refine mi_eq0 (t := 140) rfl rfl (by omega) (by omega) (fun e => ?_) (fun e => ?_)
  · have r := h3.2 e
    refine go_a (pc' := 141) (ls' := [some (.ref h.length), some (.int (iI x)), some (.int (iI (I 7))), some (.int (iI (CNT (A 27) (A 27 x) x.toNat))), some (.int (iI x)), none]) (st' := [.ref h.length]) rfl rfl ?_
    refine go_a (pc' := 142) (ls' := [some (.ref h.length), some (.int (iI x)), some (.int (iI (I 7))), some (.int (iI (CNT (A 27) (A 27 x) x.toNat))), some (.int (iI x)), none]) (st' := [.ref h.length, .ref h.length]) rfl rfl ?_
    refine go_a (pc' := 144) (ls' := [some (.ref h.length), some (.int (iI x)), some (.int (iI (I 7))), some (.int (iI (CNT (A 27) (A 27 x) x.toNat))), some (.int (iI x)), none]) (st' := [.int (iI 18), .ref h.length, .ref h.length]) rfl rfl ?_
    refine go_a (pc' := 145) (ls' := [some (.ref h.length), some (.int (iI x)), some (.int (iI (I 7))), some (.int (iI (CNT (A 27) (A 27 x) x.toNat))), some (.int (iI x)), none]) (st' := [.ref h.length, .int (iI 18), .ref h.length, .ref h.length]) rfl rfl ?_
    refine go_get rfl mh_o rfl rfl ?_
    refine go_a (pc' := 149) (ls' := [some (.ref h.length), some (.int (iI x)), some (.int (iI (I 7))), some (.int (iI (CNT (A 27) (A 27 x) x.toNat))), some (.int (iI x)), none]) (st' := [.int (iI (CNT (A 27) (A 27 x) x.toNat)), .ref (h.length + 25), .int (iI 18), .ref h.length, .ref h.length]) rfl rfl ?_
    refine mi_ild rfl mh_a25 (by omega) (by omega) (by decide) ?_
    refine go_a (pc' := 151) (ls' := [some (.ref h.length), some (.int (iI x)), some (.int (iI (I 7))), some (.int (iI (CNT (A 27) (A 27 x) x.toNat))), some (.int (iI x)), none]) (st' := [.ref h.length, .int (iI (A 25 (CNT (A 27) (A 27 x) x.toNat))), .int (iI 18), .ref h.length, .ref h.length]) rfl rfl ?_
    refine go_get rfl mh_o rfl rfl ?_
    refine go_a (pc' := 155) (ls' := [some (.ref h.length), some (.int (iI x)), some (.int (iI (I 7))), some (.int (iI (CNT (A 27) (A 27 x) x.toNat))), some (.int (iI x)), none]) (st' := [.int (iI (CNT (A 27) (A 27 x) x.toNat)), .ref (h.length + 26), .int (iI (A 25 (CNT (A 27) (A 27 x) x.toNat))), .int (iI 18), .ref h.length, .ref h.length]) rfl rfl ?_
    refine mi_ild rfl mh_a26 (by omega) (by omega) (by decide) ?_
    refine go_v (m := 181) (as := [.ref h.length, .int (iI 18), .int (iI (A 25 (CNT (A 27) (A 27 x) x.toNat))), .int (iI (A 26 (CNT (A 27) (A 27 x) x.toNat)))]) (r := [.ref h.length]) rfl rfl rfl mh_o rfl rfl (mm_list3 z (d + 1) 18 (A 25 (CNT (A 27) (A 27 x) x.toNat)) (A 26 (CNT (A 27) (A 27 x) x.toNat)) h R I A N hc hS (by omega) (by omega) (by decide) (by omega) r.2.1.1 r.2.1.2 r.2.2.1 r.2.2.2) (fun v h1 hq => ?_)
    obtain ⟨k2, I2, A2, rfl, rfl, X2, g0, g1, g2, g3, g4⟩ := hq
    show xx_go (xt_P z) (d + 6) 79 159 [some (.ref h.length), some (.int (iI x)), some (.int (iI (I 7))), some (.int (iI (CNT (A 27) (A 27 x) x.toNat))), some (.int (iI x)), none] [.int (iI k2), .ref h.length] (mh h R I2 A2 N) _
    refine go_v (m := 171) (as := [.ref h.length, .int (iI k2)]) (r := []) rfl rfl rfl mh_o rfl rfl (mm_tellOut z (d + 1) k2 h R I2 A2 N hc X2.1 g0 g1) (fun v h1 hq => ?_)
    obtain ⟨rfl, I3, A3, rfl, Y, y0, y1⟩ := hq
    show xx_go (xt_P z) (d + 6) 79 162 [some (.ref h.length), some (.int (iI x)), some (.int (iI (I 7))), some (.int (iI (CNT (A 27) (A 27 x) x.toNat))), some (.int (iI x)), none] [] (mh h R I3 A3 N) _
    exact mm_tell_end z (d + 3) x (CNT (A 27) (A 27 x) x.toNat) _ _ h R I A N hc hS (by omega) I3 A3 (BX_tr (BX_EX2 X2) (BX_TX2 X2.1 Y)) ((Y.1 10 (by decide) (by decide)).trans g4) ⟨y0, y1⟩ (fun k a b => by rw [Y.2 4 (by decide) (by decide)]; exact (X2.2.2.1 k a b).2.2.2)
  · have r := h3.1 e
    refine go_a (pc' := 70) (ls' := [some (.ref h.length), some (.int (iI x)), some (.int (iI (I 7))), some (.int (iI (CNT (A 27) (A 27 x) x.toNat))), some (.int (iI x)), none]) (st' := [.int (iI 0)]) rfl rfl ?_
    refine go_a (pc' := 72) (ls' := [some (.ref h.length), some (.int (iI x)), some (.int (iI (I 7))), some (.int (iI (CNT (A 27) (A 27 x) x.toNat))), some (.int (iI 0)), none]) (st' := []) rfl rfl ?_
    refine go_a (pc' := 73) (ls' := [some (.ref h.length), some (.int (iI x)), some (.int (iI (I 7))), some (.int (iI (CNT (A 27) (A 27 x) x.toNat))), some (.int (iI 0)), none]) (st' := [.ref h.length]) rfl rfl ?_
    refine go_get rfl mh_o rfl rfl ?_
    refine go_a (pc' := 77) (ls' := [some (.ref h.length), some (.int (iI x)), some (.int (iI (I 7))), some (.int (iI (CNT (A 27) (A 27 x) x.toNat))), some (.int (iI 0)), none]) (st' := [.int (iI (CNT (A 27) (A 27 x) x.toNat)), .ref (h.length + 21)]) rfl rfl ?_
    refine mi_ild rfl mh_a21 (by omega) (by omega) (by decide) ?_
    refine go_a (pc' := 79) (ls' := [some (.ref h.length), some (.int (iI x)), some (.int (iI (I 7))), some (.int (iI (CNT (A 27) (A 27 x) x.toNat))), some (.int (iI 0)), none]) (st' := [.int (iI 1), .int (iI (A 21 (CNT (A 27) (A 27 x) x.toNat)))]) rfl rfl ?_
    refine mi_sub rfl ?_
    refine go_a (pc' := 82) (ls' := [some (.ref h.length), some (.int (iI x)), some (.int (iI (I 7))), some (.int (iI (CNT (A 27) (A 27 x) x.toNat))), some (.int (iI 0)), some (.int (iI ((A 21 (CNT (A 27) (A 27 x) x.toNat)) - 1)))]) (st' := []) rfl rfl ?_
    exact mm_tell_def z d x (CNT (A 27) (A 27 x) x.toNat) h R I A N hc hS (by omega) ho cn.1 r.1 r.2.1 r.2.2.1 r.2.2.2.1 r.2.2.2.2 (A 21 (CNT (A 27) (A 27 x) x.toNat)).toNat I A 0 _ (by omega) (by omega) (EX_rf hS) rfl (by omega) (Int.le_refl _) (by omega)

