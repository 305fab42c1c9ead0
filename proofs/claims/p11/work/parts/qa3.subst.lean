def PR (ar : Int → Int) (I : Nat → Int) (A : Nat → Int → Int) : Prop := (0 ≤ I 59 ∧ I 59 ≤ 400) ∧ ∀ q : Int, 0 ≤ q → q < I 59 → (0 ≤ A 33 q ∧ A 33 q < 140000) ∧ (0 ≤ A 34 q ∧ A 34 q < I 7) ∧ 1 ≤ TZ A ar (A 34 q)
theorem mm_subst_loop (z : Value) (d : Nat) (ar : Int → Int) (k : Int) (h R : xx_H) (I : Nat → Int) (A : Nat → Int → Int) (N : Int → Int) (hc : 12 ≤ h.length) (hP : PW I A) (k0 : 0 ≤ k) (k1 : k < I 7) (hR : PR ar I A) (hk : 1 ≤ TZ A ar k) : ∀ (f : Nat) (j : Int), (I 59 - j).toNat ≤ f → 0 ≤ j → j ≤ 400 → xx_go (xt_P z) d 164 2 [some (.ref h.length), some (.int (iI k)), some (.int (iI j))] [] (mh h R I A N) (fun v h1 => (∃ t : Int, v = some (.int (iI t)) ∧ (0 ≤ t ∧ t < I 7) ∧ 1 ≤ TZ A ar t) ∧ h1 = mh h R I A N) := by
  have p1 := hP.1
  have r0 := hR.1
  intro f
  induction f with
  | zero =>
    intro j hf j0 j9
    refine go_a (pc' := 3) (ls' := [some (.ref h.length), some (.int (iI k)), some (.int (iI j))]) (st' := [.int (iI j)]) rfl rfl ?_
    refine go_a (pc' := 4) (ls' := [some (.ref h.length), some (.int (iI k)), some (.int (iI j))]) (st' := [.ref h.length, .int (iI j)]) rfl rfl ?_
    refine go_get (v := .int (iI (I 59))) rfl mh_o rfl rfl ?_
    refine mi_ge (t := 33) rfl rfl (by omega) (by omega) (by omega) (by omega) (fun _ => ?_) (fun q => absurd (show I 59 ≤ j by omega) q)
    refine go_a (pc' := 34) (ls' := [some (.ref h.length), some (.int (iI k)), some (.int (iI j))]) (st' := [.int (iI k)]) rfl rfl ?_
    exact go_r rfl rfl rfl rfl rfl rfl ⟨⟨k, rfl, ⟨k0, k1⟩, hk⟩, rfl⟩
  | succ f ih =>
    intro j hf j0 j9
    refine go_a (pc' := 3) (ls' := [some (.ref h.length), some (.int (iI k)), some (.int (iI j))]) (st' := [.int (iI j)]) rfl rfl ?_
    refine go_a (pc' := 4) (ls' := [some (.ref h.length), some (.int (iI k)), some (.int (iI j))]) (st' := [.ref h.length, .int (iI j)]) rfl rfl ?_
    refine go_get (v := .int (iI (I 59))) rfl mh_o rfl rfl ?_
    refine mi_ge (t := 33) rfl rfl (by omega) (by omega) (by omega) (by omega) (fun q => ?_) (fun q => ?_)
    · refine go_a (pc' := 34) (ls' := [some (.ref h.length), some (.int (iI k)), some (.int (iI j))]) (st' := [.int (iI k)]) rfl rfl ?_
      exact go_r rfl rfl rfl rfl rfl rfl ⟨⟨k, rfl, ⟨k0, k1⟩, hk⟩, rfl⟩
    · have r := hR.2 j j0 (by omega)
      refine go_a (pc' := 11) (ls' := [some (.ref h.length), some (.int (iI k)), some (.int (iI j))]) (st' := [.ref h.length]) rfl rfl ?_
      refine go_get rfl mh_o rfl rfl ?_
      refine go_a (pc' := 15) (ls' := [some (.ref h.length), some (.int (iI k)), some (.int (iI j))]) (st' := [.int (iI j), .ref (h.length + 33)]) rfl rfl ?_
      refine mi_ild rfl mh_a33 (by omega) (by omega) (by decide) ?_
      refine go_a (pc' := 17) (ls' := [some (.ref h.length), some (.int (iI k)), some (.int (iI j))]) (st' := [.int (iI k), .int (iI (A 33 j))]) rfl rfl ?_
      refine mi_ne (t := 27) rfl rfl (by omega) (by omega) (by omega) (by omega) (fun e => ?_) (fun e => ?_)
      · refine go_a (pc' := 30) (ls' := [some (.ref h.length), some (.int (iI k)), some (.int (iI (j + 1)))]) (st' := []) rfl (by rw [← iI_add j 1]; rfl) ?_
        refine go_a (pc' := 2) (ls' := [some (.ref h.length), some (.int (iI k)), some (.int (iI (j + 1)))]) (st' := []) rfl rfl ?_
        exact ih (j + 1) (by omega) (by omega) (by omega)
      · refine go_a (pc' := 21) (ls' := [some (.ref h.length), some (.int (iI k)), some (.int (iI j))]) (st' := [.ref h.length]) rfl rfl ?_
        refine go_get rfl mh_o rfl rfl ?_
        refine go_a (pc' := 25) (ls' := [some (.ref h.length), some (.int (iI k)), some (.int (iI j))]) (st' := [.int (iI j), .ref (h.length + 34)]) rfl rfl ?_
        refine mi_ild rfl mh_a34 (by omega) (by omega) (by decide) ?_
        exact go_r rfl rfl rfl rfl rfl rfl ⟨⟨A 34 j, rfl, r.2.1, r.2.2⟩, rfl⟩
theorem mm_substituted (z : Value) (d : Nat) (ar : Int → Int) (k : Int) (h R : xx_H) (I : Nat → Int) (A : Nat → Int → Int) (N : Int → Int) (hc : 12 ≤ h.length) (hP : PW I A) (k0 : 0 ≤ k) (k1 : k < I 7) (hR : PR ar I A) (hk : 1 ≤ TZ A ar k) : xx_cl (xt_P z) (d + 1) 164 [.ref h.length, .int (iI k)] (mh h R I A N) (fun v h1 => (∃ t : Int, v = some (.int (iI t)) ∧ (0 ≤ t ∧ t < I 7) ∧ 1 ≤ TZ A ar t) ∧ h1 = mh h R I A N) := by
  refine cl_go rfl ?_
  show xx_go (xt_P z) d 164 0 [some (.ref h.length), some (.int (iI k)), none] [] (mh h R I A N) _
  refine go_a (pc' := 1) (ls' := [some (.ref h.length), some (.int (iI k)), none]) (st' := [.int (iI 0)]) rfl rfl ?_
  refine go_a (pc' := 2) (ls' := [some (.ref h.length), some (.int (iI k)), some (.int (iI 0))]) (st' := []) rfl rfl ?_
  exact mm_subst_loop z d ar k h R I A N hc hP k0 k1 hR hk _ 0 (Nat.le_refl _) (Int.le_refl _) (by decide)
theorem mm_beginInstance (z : Value) (d : Nat) (ar : Int → Int) (k w y : Int) (h R : xx_H) (I : Nat → Int) (A : Nat → Int → Int) (N : Int → Int) (hc : 12 ≤ h.length) (hP : PW I A) (k0 : 0 ≤ k) (k1 : k < I 7) (hR : PR ar I A) (hk : 1 ≤ TZ A ar k) (w0 : -1 ≤ w) (w1 : w < 140000) (y0 : -1 ≤ y) (hw : 0 ≤ w → (0 ≤ y ∧ y < I 7) ∧ 1 ≤ TZ A ar y) (b0 : 0 ≤ I 56) (b1 : I 56 < 2400) (c0 : 0 ≤ I 54) (c1 : I 54 < 1200) : xx_cl (xt_P z) (d + 3) 163 [.ref h.length, .int (iI k), .int (iI w), .int (iI y)] (mh h R I A N) (fun v h1 => v = none ∧ ((∃ t : Int, ((0 ≤ t ∧ t < I 7) ∧ 1 ≤ TZ A ar t) ∧ h1 = mh h R (su I 56 (I 56 + 1)) (sa A 32 (I 56) t) N) ∨ ((0 ≤ A 1 k ∧ A 1 k ≠ 2) ∧ h1 = mh h R (su I 54 (I 54 + 1)) (sa (sa (sa A 29 (I 54) k) 30 (I 54) (A 2 k)) 31 (I 54) (I 56)) N))) := by
  have p1 := hP.1
  refine cl_go rfl ?_
  show xx_go (xt_P z) (d + 2) 163 0 [some (.ref h.length), some (.int (iI k)), some (.int (iI w)), some (.int (iI y))] [] (mh h R I A N) _
  refine go_a (pc' := 1) (ls' := [some (.ref h.length), some (.int (iI k)), some (.int (iI w)), some (.int (iI y))]) (st' := [.int (iI k)]) rfl rfl ?_
  refine go_a (pc' := 2) (ls' := [some (.ref h.length), some (.int (iI k)), some (.int (iI w)), some (.int (iI y))]) (st' := [.int (iI w), .int (iI k)]) rfl rfl ?_
  refine mi_ne (t := 13) rfl rfl (by omega) (by omega) (by omega) (by omega) (fun e1 => ?_) (fun e1 => ?_)
  · refine go_a (pc' := 14) (ls' := [some (.ref h.length), some (.int (iI k)), some (.int (iI w)), some (.int (iI y))]) (st' := [.ref h.length]) rfl rfl ?_
    refine go_a (pc' := 15) (ls' := [some (.ref h.length), some (.int (iI k)), some (.int (iI w)), some (.int (iI y))]) (st' := [.int (iI k), .ref h.length]) rfl rfl ?_
    refine go_v (m := 116) (as := [.ref h.length, .int (iI k)]) (r := []) rfl rfl rfl mh_o rfl rfl (mb_isCall z d k h R I A N hc hP k0 k1) (fun v h1 hq => ?_)
    obtain ⟨⟨b, rfl, hb⟩, rfl⟩ := hq
    show xx_go (xt_P z) (d + 2) 163 18 [some (.ref h.length), some (.int (iI k)), some (.int (iI w)), some (.int (iI y))] [.int (iI b)] (mh h R I A N) _
    refine mi_eq0 (t := 29) rfl rfl (by omega) (by omega) (fun e2 => ?_) (fun e2 => ?_)
    · refine go_a (pc' := 30) (ls' := [some (.ref h.length), some (.int (iI k)), some (.int (iI w)), some (.int (iI y))]) (st' := [.ref h.length]) rfl rfl ?_
      refine go_a (pc' := 31) (ls' := [some (.ref h.length), some (.int (iI k)), some (.int (iI w)), some (.int (iI y))]) (st' := [.ref h.length, .ref h.length]) rfl rfl ?_
      refine go_a (pc' := 32) (ls' := [some (.ref h.length), some (.int (iI k)), some (.int (iI w)), some (.int (iI y))]) (st' := [.int (iI k), .ref h.length, .ref h.length]) rfl rfl ?_
      refine go_v (m := 104) (as := [.ref h.length, .int (iI k)]) (r := [.ref h.length]) rfl rfl rfl mh_o rfl rfl (mb_isVariable z d k h R I A N hc hP k0 k1) (fun v h1 hq => ?_)
      obtain ⟨⟨b2, rfl, hb2⟩, rfl⟩ := hq
      show xx_go (xt_P z) (d + 2) 163 35 [some (.ref h.length), some (.int (iI k)), some (.int (iI w)), some (.int (iI y))] [.int (iI b2), .ref h.length] (mh h R I A N) _
      refine mi_eq0 (t := 46) rfl rfl (by omega) (by omega) (fun e3 => ?_) (fun e3 => ?_)
      · refine go_a (pc' := 47) (ls' := [some (.ref h.length), some (.int (iI k)), some (.int (iI w)), some (.int (iI y))]) (st' := [.int (iI k), .ref h.length]) rfl rfl ?_
        refine go_v (m := 107) (as := [.ref h.length, .int (iI k)]) (r := []) rfl rfl rfl mh_o rfl rfl (mm_build z (d + 1) k h R I A N hc b0 b1) (fun v h1 hq => ?_)
        obtain ⟨rfl, rfl⟩ := hq
        exact go_r rfl rfl rfl rfl rfl rfl ⟨rfl, Or.inl ⟨k, ⟨⟨k0, k1⟩, hk⟩, rfl⟩⟩
      · refine go_a (pc' := 39) (ls' := [some (.ref h.length), some (.int (iI k)), some (.int (iI w)), some (.int (iI y))]) (st' := [.ref h.length, .ref h.length]) rfl rfl ?_
        refine go_a (pc' := 40) (ls' := [some (.ref h.length), some (.int (iI k)), some (.int (iI w)), some (.int (iI y))]) (st' := [.int (iI k), .ref h.length, .ref h.length]) rfl rfl ?_
        refine go_v (m := 164) (as := [.ref h.length, .int (iI k)]) (r := [.ref h.length]) rfl rfl rfl mh_o rfl rfl (mm_substituted z (d + 1) ar k h R I A N hc hP k0 k1 hR hk) (fun v h1 hq => ?_)
        obtain ⟨⟨t, rfl, t0, t1⟩, rfl⟩ := hq
        show xx_go (xt_P z) (d + 2) 163 43 [some (.ref h.length), some (.int (iI k)), some (.int (iI w)), some (.int (iI y))] [.int (iI t), .ref h.length] (mh h R I A N) _
        refine go_a (pc' := 47) (ls' := [some (.ref h.length), some (.int (iI k)), some (.int (iI w)), some (.int (iI y))]) (st' := [.int (iI t), .ref h.length]) rfl rfl ?_
        refine go_v (m := 107) (as := [.ref h.length, .int (iI t)]) (r := []) rfl rfl rfl mh_o rfl rfl (mm_build z (d + 1) t h R I A N hc b0 b1) (fun v h1 hq => ?_)
        obtain ⟨rfl, rfl⟩ := hq
        exact go_r rfl rfl rfl rfl rfl rfl ⟨rfl, Or.inl ⟨t, ⟨t0, t1⟩, rfl⟩⟩
    · refine go_a (pc' := 22) (ls' := [some (.ref h.length), some (.int (iI k)), some (.int (iI w)), some (.int (iI y))]) (st' := [.ref h.length]) rfl rfl ?_
      refine go_a (pc' := 23) (ls' := [some (.ref h.length), some (.int (iI k)), some (.int (iI w)), some (.int (iI y))]) (st' := [.int (iI k), .ref h.length]) rfl rfl ?_
      refine go_v (m := 113) (as := [.ref h.length, .int (iI k)]) (r := []) rfl rfl rfl mh_o rfl rfl (mm_openCall z (d + 1) k h R I A N hc hP k0 k1 c0 c1) (fun v h1 hq => ?_)
      obtain ⟨rfl, rfl⟩ := hq
      refine go_a (pc' := 50) (ls' := [some (.ref h.length), some (.int (iI k)), some (.int (iI w)), some (.int (iI y))]) (st' := []) rfl rfl ?_
      exact go_r rfl rfl rfl rfl rfl rfl ⟨rfl, Or.inr ⟨by omega, rfl⟩⟩
  · have e2 : k = w := by omega
    have hy := hw (by omega)
    refine go_a (pc' := 6) (ls' := [some (.ref h.length), some (.int (iI k)), some (.int (iI w)), some (.int (iI y))]) (st' := [.ref h.length]) rfl rfl ?_
    refine go_a (pc' := 7) (ls' := [some (.ref h.length), some (.int (iI k)), some (.int (iI w)), some (.int (iI y))]) (st' := [.int (iI y), .ref h.length]) rfl rfl ?_
    refine go_v (m := 107) (as := [.ref h.length, .int (iI y)]) (r := []) rfl rfl rfl mh_o rfl rfl (mm_build z (d + 1) y h R I A N hc b0 b1) (fun v h1 hq => ?_)
    obtain ⟨rfl, rfl⟩ := hq
    refine go_a (pc' := 50) (ls' := [some (.ref h.length), some (.int (iI k)), some (.int (iI w)), some (.int (iI y))]) (st' := []) rfl rfl ?_
    exact go_r rfl rfl rfl rfl rfl rfl ⟨rfl, Or.inl ⟨y, hy, rfl⟩⟩

