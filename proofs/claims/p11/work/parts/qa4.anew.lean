theorem tz_124 {A A1 : Nat → Int → Int} {ar : Int → Int} (h1 : A1 1 = A 1) (h2 : A1 2 = A 2) (h4 : A1 4 = A 4) : ∀ (f : Nat) (k : Int), tz A1 ar f k = tz A ar f k
  | 0, _ => rfl
  | f + 1, k => by
    rw [tz_succ, tz_succ, h1, h2, h4, tz_124 h1 h2 h4 f, tz_124 h1 h2 h4 f]
theorem TZ_124 {A A1 : Nat → Int → Int} {ar : Int → Int} (h1 : A1 1 = A 1) (h2 : A1 2 = A 2) (h4 : A1 4 = A 4) : TZ A1 ar = TZ A ar ∧ LZ A1 ar = LZ A ar ∧ CZ A1 ar = CZ A ar := by
  refine ⟨?_, ?_, ?_⟩ <;> funext k
  · unfold TZ
    rw [tz_124 h1 h2 h4]
  · unfold LZ
    rw [tz_124 h1 h2 h4]
  · unfold CZ
    rw [tz_124 h1 h2 h4]
theorem SZI_124 {I I1 : Nat → Int} {A A1 : Nat → Int → Int} {ar : Int → Int} (hZ : SZI ar I A) (h1 : A1 1 = A 1) (h2 : A1 2 = A 2) (h4 : A1 4 = A 4) (h7 : I1 7 = I 7) : SZI ar I1 A1 := by
  intro k k0 k1 c1 c2
  rw [h7] at k1
  rw [h1] at c1 c2
  rcases hZ k k0 k1 c1 c2 with q | ⟨a, q⟩
  · exact Or.inl (by rw [h4]; exact q)
  · refine Or.inr ⟨a, ?_⟩
    rw [h4, (TZ_124 (ar := a) h1 h2 h4).1]
    exact q
theorem UQ_of {I : Nat → Int} {A : Nat → Int → Int} {N : Int → Int} (hS : MST I A N) (a b : Int) (a0 : 0 ≤ a) (a1 : a < I 7) (b0 : 0 ≤ b) (b1 : b < I 7) (p : 0 ≤ A 1 a) (e1 : A 1 a = A 1 b) (e2 : A 2 a = A 2 b) : a = b := by
  by_cases c : a = b
  · exact c
  · by_cases c2 : a < b
    · exact absurd (hS.2.2.2.2.2.2.1 a b a0 c2 b1 (by omega) e1 e2) id
    · exact absurd (hS.2.2.2.2.2.2.1 b a b0 (by omega) a1 p e1.symm e2.symm) id
def FB (j : Nat) : Prop := j = 54 ∨ j = 56
def GB (a : Nat) : Prop := a = 29 ∨ a = 30 ∨ a = 31 ∨ a = 32
def AX (ar : Int → Int) (c b : Int) (I : Nat → Int) (A : Nat → Int → Int) (N : Int → Int) (I1 : Nat → Int) (A1 : Nat → Int → Int) : Prop := BX FB GB I A N I1 A1 N ∧ SZI ar I1 A1 ∧ (∀ q : Int, 0 ≤ q → q < c → A1 29 q = A 29 q ∧ A1 30 q = A 30 q ∧ A1 31 q = A 31 q) ∧ (∀ q : Int, 0 ≤ q → q < b → A1 32 q = A 32 q)
section AXS
variable {ar : Int → Int} {c b : Int} {I I1 I2 : Nat → Int} {A A1 A2 : Nat → Int → Int} {N : Int → Int}
theorem AX_tr (x : AX ar c b I A N I1 A1) (y : AX ar c b I1 A1 N I2 A2) : AX ar c b I A N I2 A2 := ⟨BX_tr x.1 y.1, y.2.1, fun q q0 q1 => ⟨((y.2.2.1 q q0 q1).1).trans (x.2.2.1 q q0 q1).1, ((y.2.2.1 q q0 q1).2.1).trans (x.2.2.1 q q0 q1).2.1, ((y.2.2.1 q q0 q1).2.2).trans (x.2.2.1 q q0 q1).2.2⟩, fun q q0 q1 => (y.2.2.2 q q0 q1).trans (x.2.2.2 q q0 q1)⟩
theorem AX_mono {c2 b2 : Int} (hc : c2 ≤ c) (hb : b2 ≤ b) (x : AX ar c b I A N I1 A1) : AX ar c2 b2 I A N I1 A1 := ⟨x.1, x.2.1, fun q q0 q1 => x.2.2.1 q q0 (by omega), fun q q0 q1 => x.2.2.2 q q0 (by omega)⟩
theorem PR_BX {F G : Nat → Prop} (hP : PW I A) (hR : PR ar I A) (x : BX F G I A N I1 A1 N) (f59 : ¬ F 59) (g33 : ¬ G 33) (g34 : ¬ G 34) : PR ar I1 A1 := by
  have e := x.2.2.2.1 59 (by decide) f59
  have a := x.2.2.2.2 33 (by decide) (by decide) (by decide) (by decide) (by decide) (by decide) g33
  have b := x.2.2.2.2 34 (by decide) (by decide) (by decide) (by decide) (by decide) (by decide) g34
  have x2 := x.2.1
  unfold PR
  rw [e, a, b]
  refine ⟨hR.1, fun q q0 q1 => ?_⟩
  have r := hR.2 q q0 q1
  refine ⟨r.1, by omega, ?_⟩
  rw [(TZ_BX hP x r.2.1.1 r.2.1.2).1 r.2.2]
  exact r.2.2
theorem NM_BX {F G : Nat → Prop} (hN : NM I A) (x : BX F G I A N I1 A1 N) : NM I1 A1 := by
  have x2 := x.2.1
  have n1 := hN.1
  refine ⟨by omega, fun k k0 k1 => ?_⟩
  rw [(x.2.2.1 k k0 (by omega)).1]
  exact hN.2 k k0 k1
theorem BX_w {F G F2 G2 : Nat → Prop} (hF : ∀ j, F j → F2 j) (hG : ∀ j, G j → G2 j) (x : BX F G I A N I1 A1 N) : BX F2 G2 I A N I1 A1 N := ⟨x.1, x.2.1, x.2.2.1, fun j p q => x.2.2.2.1 j p (fun w => q (hF j w)), fun a q1 q2 q3 q4 q5 q6 q7 => x.2.2.2.2 a q1 q2 q3 q4 q5 q6 (fun w => q7 (hG a w))⟩
end AXS
def FRM (ar : Int → Int) (I : Nat → Int) (A : Nat → Int → Int) : Prop := (0 ≤ A 29 (I 54 - 1) ∧ A 29 (I 54 - 1) < I 7) ∧ (0 ≤ A 1 (A 29 (I 54 - 1)) ∧ A 1 (A 29 (I 54 - 1)) ≠ 2) ∧ (0 ≤ A 30 (I 54 - 1) ∧ A 30 (I 54 - 1) < I 7) ∧ 0 ≤ LZ A ar (A 30 (I 54 - 1)) ∧ (0 ≤ A 31 (I 54 - 1) ∧ A 31 (I 54 - 1) ≤ I 56) ∧ (∀ q : Int, A 31 (I 54 - 1) ≤ q → q < I 56 → (0 ≤ A 32 q ∧ A 32 q < I 7) ∧ 1 ≤ TZ A ar (A 32 q)) ∧ (I 56 - A 31 (I 54 - 1)) + CZ A ar (A 30 (I 54 - 1)) = ar (A 1 (A 29 (I 54 - 1))) ∧ (ar (A 1 (A 29 (I 54 - 1))) = 0 → A 2 (A 29 (I 54 - 1)) = 0)
theorem mm_anew_loop (z : Value) (d : Nat) (ar : Int → Int) (o w y base first : Int) (h R : xx_H) (N : Int → Int) (hc : 12 ≤ h.length) (Q : Option Value → xx_H → Prop) (w0 : -1 ≤ w) (w1 : w < 140000) (y0 : -1 ≤ y) (s0 : 0 ≤ base) : ∀ (n : Nat) (I : Nat → Int) (A : Nat → Int → Int) (y6 y7 : Option Value), MST I A N → NM I A → SZI ar I A → PR ar I A → (0 ≤ w → (0 ≤ y ∧ y < I 7) ∧ 1 ≤ TZ A ar y) → FRM ar I A → base < I 54 → LZ A ar (A 30 (I 54 - 1)) ≤ n → I 54 + LZ A ar (A 30 (I 54 - 1)) ≤ 1199 → I 56 + LZ A ar (A 30 (I 54 - 1)) ≤ 2399 → I 7 + 2 * LZ A ar (A 30 (I 54 - 1)) + (I 56 - A 31 (I 54 - 1)) + 1 ≤ 140000 → (∀ (I1 : Nat → Int) (A1 : Nat → Int → Int) (z6 z7 : Option Value), AX ar (I 54 - 1) (A 31 (I 54 - 1)) I A N I1 A1 → I1 54 = I 54 - 1 → I1 56 = A 31 (I 54 - 1) + 1 → (0 ≤ A1 32 (A 31 (I 54 - 1)) ∧ A1 32 (A 31 (I 54 - 1)) < I1 7) → 1 ≤ TZ A1 ar (A1 32 (A 31 (I 54 - 1))) → (I1 7 ≤ I 7 + 2 * LZ A ar (A 30 (I 54 - 1)) - CZ A ar (A 30 (I 54 - 1)) + (I 56 - A 31 (I 54 - 1)) + 1 ∧ (ar (A 1 (A 29 (I 54 - 1))) = 0 → I1 7 ≤ I 7)) → xx_go (xt_P z) (d + 6) 162 19 [some (.ref h.length), some (.int (iI o)), some (.int (iI w)), some (.int (iI y)), some (.int (iI base)), some (.int (iI first)), z6, z7] [] (mh h R I1 A1 N) Q) → xx_go (xt_P z) (d + 6) 162 19 [some (.ref h.length), some (.int (iI o)), some (.int (iI w)), some (.int (iI y)), some (.int (iI base)), some (.int (iI first)), y6, y7] [] (mh h R I A N) Q := by
  have close : ∀ (I : Nat → Int) (A : Nat → Int → Int) (y6 y7 : Option Value), MST I A N → NM I A → SZI ar I A → FRM ar I A → base < I 54 → I 54 ≤ 1199 → I 56 ≤ 2399 → I 7 + (I 56 - A 31 (I 54 - 1)) + 1 ≤ 140000 → A 30 (I 54 - 1) = 0 → (∀ (I1 : Nat → Int) (A1 : Nat → Int → Int) (z6 z7 : Option Value), AX ar (I 54 - 1) (A 31 (I 54 - 1)) I A N I1 A1 → I1 54 = I 54 - 1 → I1 56 = A 31 (I 54 - 1) + 1 → (0 ≤ A1 32 (A 31 (I 54 - 1)) ∧ A1 32 (A 31 (I 54 - 1)) < I1 7) → 1 ≤ TZ A1 ar (A1 32 (A 31 (I 54 - 1))) → (I1 7 ≤ I 7 + 2 * LZ A ar (A 30 (I 54 - 1)) - CZ A ar (A 30 (I 54 - 1)) + (I 56 - A 31 (I 54 - 1)) + 1 ∧ (ar (A 1 (A 29 (I 54 - 1))) = 0 → I1 7 ≤ I 7)) → xx_go (xt_P z) (d + 6) 162 19 [some (.ref h.length), some (.int (iI o)), some (.int (iI w)), some (.int (iI y)), some (.int (iI base)), some (.int (iI first)), z6, z7] [] (mh h R I1 A1 N) Q) → xx_go (xt_P z) (d + 6) 162 19 [some (.ref h.length), some (.int (iI o)), some (.int (iI w)), some (.int (iI y)), some (.int (iI base)), some (.int (iI first)), y6, y7] [] (mh h R I A N) Q := by
    intro I A y6 y7 hS hN hZ hF hb0 b1 b2 b3 e0 K
    have hP := MST_PW hS
    have p1 := hP.1
    obtain ⟨f1, f2, f3, f4, f5, f6, f7, f8⟩ := id hF
    have qf := hP.2 (A 29 (I 54 - 1)) f1.1 f1.2
    have n0 : A 1 0 < 0 := by rw [hN.2 0 (by decide) (by decide)]; decide
    have i0 := hS.1.1
    have l0 := LZ_0 (ar := ar) n0
    rw [e0, l0.2] at f7
    refine go_a (pc' := 20) (ls' := [some (.ref h.length), some (.int (iI o)), some (.int (iI w)), some (.int (iI y)), some (.int (iI base)), some (.int (iI first)), y6, y7]) (st' := [.ref h.length]) rfl rfl ?_
    refine go_get (v := .int (iI (I 54))) rfl mh_o rfl rfl ?_
    refine go_a (pc' := 25) (ls' := [some (.ref h.length), some (.int (iI o)), some (.int (iI w)), some (.int (iI y)), some (.int (iI base)), some (.int (iI first)), y6, y7]) (st' := [.int (iI base), .int (iI (I 54))]) rfl rfl ?_
    refine mi_le (t := 145) rfl rfl (by omega) (by omega) (by omega) (by omega) (fun q => absurd q (by omega)) (fun _ => ?_)
    refine go_a (pc' := 29) (ls' := [some (.ref h.length), some (.int (iI o)), some (.int (iI w)), some (.int (iI y)), some (.int (iI base)), some (.int (iI first)), y6, y7]) (st' := [.ref h.length]) rfl rfl ?_
    refine go_get (v := .int (iI (I 54))) rfl mh_o rfl rfl ?_
    refine go_a (pc' := 33) (ls' := [some (.ref h.length), some (.int (iI o)), some (.int (iI w)), some (.int (iI y)), some (.int (iI base)), some (.int (iI first)), y6, y7]) (st' := [.int (iI 1), .int (iI (I 54))]) rfl rfl ?_
    refine mi_sub rfl ?_
    refine go_a (pc' := 36) (ls' := [some (.ref h.length), some (.int (iI o)), some (.int (iI w)), some (.int (iI y)), some (.int (iI base)), some (.int (iI first)), some (.int (iI ((I 54) - 1))), y7]) (st' := []) rfl rfl ?_
    refine go_a (pc' := 37) (ls' := [some (.ref h.length), some (.int (iI o)), some (.int (iI w)), some (.int (iI y)), some (.int (iI base)), some (.int (iI first)), some (.int (iI ((I 54) - 1))), y7]) (st' := [.ref h.length]) rfl rfl ?_
    refine go_get rfl mh_o rfl rfl ?_
    refine go_a (pc' := 42) (ls' := [some (.ref h.length), some (.int (iI o)), some (.int (iI w)), some (.int (iI y)), some (.int (iI base)), some (.int (iI first)), some (.int (iI ((I 54) - 1))), y7]) (st' := [.int (iI ((I 54) - 1)), .ref (h.length + 30)]) rfl rfl ?_
    refine mi_ild rfl mh_a30 (by omega) (by omega) (by decide) ?_
    refine mi_ne0 (t := 101) rfl rfl (by omega) (by omega) (fun q => absurd e0 q) (fun _ => ?_)
    refine go_a (pc' := 47) (ls' := [some (.ref h.length), some (.int (iI o)), some (.int (iI w)), some (.int (iI y)), some (.int (iI base)), some (.int (iI first)), some (.int (iI ((I 54) - 1))), y7]) (st' := [.ref h.length]) rfl rfl ?_
    refine go_a (pc' := 48) (ls' := [some (.ref h.length), some (.int (iI o)), some (.int (iI w)), some (.int (iI y)), some (.int (iI base)), some (.int (iI first)), some (.int (iI ((I 54) - 1))), y7]) (st' := [.ref h.length, .ref h.length]) rfl rfl ?_
    refine go_get (v := .int (iI (I 54))) rfl mh_o rfl rfl ?_
    refine go_a (pc' := 52) (ls' := [some (.ref h.length), some (.int (iI o)), some (.int (iI w)), some (.int (iI y)), some (.int (iI base)), some (.int (iI first)), some (.int (iI ((I 54) - 1))), y7]) (st' := [.int (iI 1), .int (iI (I 54)), .ref h.length]) rfl rfl ?_
    refine mi_sub rfl ?_
    refine go_put (j := 54) rfl mh_o rfl rfl (show 12 ≤ _ from hc) (show 54 < 86 by decide) rfl rfl ?_
    rw [mh_p54]
    refine go_a (pc' := 57) (ls' := [some (.ref h.length), some (.int (iI o)), some (.int (iI w)), some (.int (iI y)), some (.int (iI base)), some (.int (iI first)), some (.int (iI ((I 54) - 1))), y7]) (st' := [.ref h.length]) rfl rfl ?_
    refine go_a (pc' := 58) (ls' := [some (.ref h.length), some (.int (iI o)), some (.int (iI w)), some (.int (iI y)), some (.int (iI base)), some (.int (iI first)), some (.int (iI ((I 54) - 1))), y7]) (st' := [.ref h.length, .ref h.length]) rfl rfl ?_
    refine go_get rfl mh_o rfl rfl ?_
    refine go_a (pc' := 62) (ls' := [some (.ref h.length), some (.int (iI o)), some (.int (iI w)), some (.int (iI y)), some (.int (iI base)), some (.int (iI first)), some (.int (iI ((I 54) - 1))), y7]) (st' := [.ref h.length, .ref (h.length + 1), .ref h.length]) rfl rfl ?_
    refine go_get rfl mh_o rfl rfl ?_
    refine go_a (pc' := 67) (ls' := [some (.ref h.length), some (.int (iI o)), some (.int (iI w)), some (.int (iI y)), some (.int (iI base)), some (.int (iI first)), some (.int (iI ((I 54) - 1))), y7]) (st' := [.int (iI ((I 54) - 1)), .ref (h.length + 29), .ref (h.length + 1), .ref h.length]) rfl rfl ?_
    refine mi_ild rfl mh_a29 (by omega) (by omega) (by decide) ?_
    refine mi_ild rfl mh_a1 (by omega) (by omega) (by decide) ?_
    refine go_a (pc' := 70) (ls' := [some (.ref h.length), some (.int (iI o)), some (.int (iI w)), some (.int (iI y)), some (.int (iI base)), some (.int (iI first)), some (.int (iI ((I 54) - 1))), y7]) (st' := [.ref h.length, .int (iI (A 1 (A 29 ((I 54) - 1)))), .ref h.length]) rfl rfl ?_
    refine go_get rfl mh_o rfl rfl ?_
    refine go_a (pc' := 75) (ls' := [some (.ref h.length), some (.int (iI o)), some (.int (iI w)), some (.int (iI y)), some (.int (iI base)), some (.int (iI first)), some (.int (iI ((I 54) - 1))), y7]) (st' := [.int (iI ((I 54) - 1)), .ref (h.length + 31), .int (iI (A 1 (A 29 ((I 54) - 1)))), .ref h.length]) rfl rfl ?_
    refine mi_ild rfl mh_a31 (by omega) (by omega) (by decide) ?_
    refine go_v (m := 114) (as := [.ref h.length, .int (iI (A 1 (A 29 ((I 54) - 1)))), .int (iI (A 31 ((I 54) - 1)))]) (r := []) rfl rfl rfl mh_o rfl rfl (mm_callFromD z (d + 1) ar (A 1 (A 29 (I 54 - 1))) (A 31 (I 54 - 1)) h R (su I 54 (I 54 - 1)) A N hc hS hN hZ f2.1 (show A 1 (A 29 (I 54 - 1)) < I 7 by omega) f2.2 f5.1 f5.2 (show I 56 ≤ 2400 by omega) f6 (show I 56 - A 31 (I 54 - 1) = _ by omega) b3) (fun v h1 hq => ?_)
    obtain ⟨cc, I1, A1, rfl, rfl, X, Z1, c0, c1, g1, g2, g3, g9, g10, g11⟩ := hq
    have a31 : A1 31 = A 31 := X.2.2.2.2 31 (by decide) (by decide) (by decide) (by decide) (by decide) (by decide) id
    have a29 : A1 29 = A 29 := X.2.2.2.2 29 (by decide) (by decide) (by decide) (by decide) (by decide) (by decide) id
    have a30 : A1 30 = A 30 := X.2.2.2.2 30 (by decide) (by decide) (by decide) (by decide) (by decide) (by decide) id
    have a32 : A1 32 = A 32 := X.2.2.2.2 32 (by decide) (by decide) (by decide) (by decide) (by decide) (by decide) id
    have j54 : I1 54 = I 54 - 1 := X.2.2.2.1 54 (by decide) id
    have e31 : A1 31 (I 54 - 1) = A 31 (I 54 - 1) := by rw [a31]
    show xx_go (xt_P z) (d + 6) 162 79 [some (.ref h.length), some (.int (iI o)), some (.int (iI w)), some (.int (iI y)), some (.int (iI base)), some (.int (iI first)), some (.int (iI ((I 54) - 1))), y7] [.int (iI cc)] (mh h R I1 A1 N) _
    refine go_a (pc' := 81) (ls' := [some (.ref h.length), some (.int (iI o)), some (.int (iI w)), some (.int (iI y)), some (.int (iI base)), some (.int (iI first)), some (.int (iI ((I 54) - 1))), some (.int (iI cc))]) (st' := []) rfl rfl ?_
    refine go_a (pc' := 82) (ls' := [some (.ref h.length), some (.int (iI o)), some (.int (iI w)), some (.int (iI y)), some (.int (iI base)), some (.int (iI first)), some (.int (iI ((I 54) - 1))), some (.int (iI cc))]) (st' := [.ref h.length]) rfl rfl ?_
    refine go_a (pc' := 83) (ls' := [some (.ref h.length), some (.int (iI o)), some (.int (iI w)), some (.int (iI y)), some (.int (iI base)), some (.int (iI first)), some (.int (iI ((I 54) - 1))), some (.int (iI cc))]) (st' := [.ref h.length, .ref h.length]) rfl rfl ?_
    refine go_get rfl mh_o rfl rfl ?_
    refine go_a (pc' := 88) (ls' := [some (.ref h.length), some (.int (iI o)), some (.int (iI w)), some (.int (iI y)), some (.int (iI base)), some (.int (iI first)), some (.int (iI ((I 54) - 1))), some (.int (iI cc))]) (st' := [.int (iI ((I 54) - 1)), .ref (h.length + 31), .ref h.length]) rfl rfl ?_
    refine mi_ild rfl mh_a31 (by omega) (by omega) (by decide) ?_
    refine go_put (j := 56) rfl mh_o rfl rfl (show 12 ≤ _ from hc) (show 56 < 86 by decide) rfl rfl ?_
    rw [mh_p56]
    refine go_a (pc' := 93) (ls' := [some (.ref h.length), some (.int (iI o)), some (.int (iI w)), some (.int (iI y)), some (.int (iI base)), some (.int (iI first)), some (.int (iI ((I 54) - 1))), some (.int (iI cc))]) (st' := [.ref h.length]) rfl rfl ?_
    refine go_a (pc' := 95) (ls' := [some (.ref h.length), some (.int (iI o)), some (.int (iI w)), some (.int (iI y)), some (.int (iI base)), some (.int (iI first)), some (.int (iI ((I 54) - 1))), some (.int (iI cc))]) (st' := [.int (iI cc), .ref h.length]) rfl rfl ?_
    refine go_v (m := 107) (as := [.ref h.length, .int (iI cc)]) (r := []) rfl rfl rfl mh_o rfl rfl (mm_build z (d + 5) cc h R (su I1 56 (A1 31 (I 54 - 1))) A1 N hc (show 0 ≤ A1 31 (I 54 - 1) by omega) (show A1 31 (I 54 - 1) < 2400 by omega)) (fun v h1 hq => ?_)
    obtain ⟨rfl, hq⟩ := hq
    rw [show su I1 56 (A1 31 (I 54 - 1)) 56 = A1 31 (I 54 - 1) from rfl, su_su, e31] at hq
    subst hq
    show xx_go (xt_P z) (d + 6) 162 98 [some (.ref h.length), some (.int (iI o)), some (.int (iI w)), some (.int (iI y)), some (.int (iI base)), some (.int (iI first)), some (.int (iI ((I 54) - 1))), some (.int (iI cc))] [] (mh h R (su I1 56 (A 31 (I 54 - 1) + 1)) (sa A1 32 (A 31 (I 54 - 1)) cc) N) _
    refine go_a (pc' := 142) (ls' := [some (.ref h.length), some (.int (iI o)), some (.int (iI w)), some (.int (iI y)), some (.int (iI base)), some (.int (iI first)), some (.int (iI ((I 54) - 1))), some (.int (iI cc))]) (st' := []) rfl rfl ?_
    refine go_a (pc' := 19) (ls' := [some (.ref h.length), some (.int (iI o)), some (.int (iI w)), some (.int (iI y)), some (.int (iI base)), some (.int (iI first)), some (.int (iI ((I 54) - 1))), some (.int (iI cc))]) (st' := []) rfl rfl ?_
    have tz := TZ_124 (A := A1) (A1 := sa A1 32 (A 31 (I 54 - 1)) cc) (ar := ar) rfl rfl rfl
    have X4 : AX ar (I 54 - 1) (A 31 (I 54 - 1)) I A N (su I1 56 (A 31 (I 54 - 1) + 1)) (sa A1 32 (A 31 (I 54 - 1)) cc) := by
      refine ⟨⟨X.1, X.2.1, X.2.2.1, fun j p q => ?_, fun a q1 q2 q3 q4 q5 q6 q7 => ?_⟩, ?_, fun q q0 q1 => ⟨?_, ?_, ?_⟩, fun q q0 q1 => ?_⟩
      · rw [su_ne (fun e => q (Or.inr e))]
        exact (X.2.2.2.1 j p id).trans (su_ne (fun e => q (Or.inl e)))
      · rw [sa_ne (fun e => q7 (Or.inr (Or.inr (Or.inr e))))]
        exact X.2.2.2.2 a q1 q2 q3 q4 q5 q6 id
      · exact SZI_124 Z1 rfl rfl rfl rfl
      · show A1 29 q = A 29 q
        rw [a29]
      · show A1 30 q = A 30 q
        rw [a30]
      · show A1 31 q = A 31 q
        rw [a31]
      · show sf (A1 32) (A 31 (I 54 - 1)) cc q = A 32 q
        rw [sf_ne (by omega), a32]
    have v : sa A1 32 (A 31 (I 54 - 1)) cc 32 (A 31 (I 54 - 1)) = cc := sf_self
    have ZR : ar (A 1 (A 29 (I 54 - 1))) = 0 → I1 7 ≤ I 7 := fun az => by
      have g11 : I1 7 = I 7 ∨ I 7 ≤ cc := g11
      rcases g11 with g | g
      · omega
      · have x7 : I 7 ≤ I1 7 := X.2.1
        have fc := X.2.2.1 (A 29 (I 54 - 1)) f1.1 f1.2
        have ga : isL A1 (I 56 - A 31 (I 54 - 1)).toNat (A1 2 cc) := g10.1
        rw [show (I 56 - A 31 (I 54 - 1)).toNat = 0 by omega] at ga
        have := UQ_of X.1 (A 29 (I 54 - 1)) cc f1.1 (by omega) c0 c1 (by rw [fc.1]; exact f2.1) (by rw [fc.1, g1]) (by rw [fc.2.1, f8 az]; exact (show A1 2 cc = 0 from ga).symm)
        omega
    have g3 : I1 7 ≤ I 7 + (I 56 - A 31 (I 54 - 1)) + 1 := g3
    refine K _ _ _ _ X4 j54 rfl (by rw [v]; exact ⟨c0, c1⟩) (by rw [v, tz.1]; exact g2) ⟨(show I1 7 ≤ _ by rw [e0, l0.1, l0.2]; omega), fun az => (show I1 7 ≤ I 7 from ZR az)⟩
  intro n
  induction n with
  | zero =>
    intro I A y6 y7 hS hN hZ hR hw hF hb0 hn b1 b2 b3 K
    have hP := MST_PW hS
    have p1 := hP.1
    obtain ⟨f1, f2, f3, f4, f5, f6, f7, f8⟩ := id hF
    have qf := hP.2 (A 29 (I 54 - 1)) f1.1 f1.2
    have n0 : A 1 0 < 0 := by rw [hN.2 0 (by decide) (by decide)]; decide
    have i0 := hS.1.1
    have e0 : A 30 (I 54 - 1) = 0 := by
      by_cases e : A 30 (I 54 - 1) = 0
      · exact e
      · have qr := hP.2 (A 30 (I 54 - 1)) f3.1 f3.2
        by_cases e2 : A 1 (A 30 (I 54 - 1)) < 0
        · rw [LZ_atom e2 e] at f4
          omega
        · have lp := (LZ_pair (ar := ar) hP (by omega : 0 < A 30 (I 54 - 1)) f3.2 (by omega)).1
          by_cases c : 1 ≤ TZ A ar (A 1 (A 30 (I 54 - 1))) ∧ 0 ≤ LZ A ar (A 2 (A 30 (I 54 - 1)))
          · rw [if_pos c] at lp
            omega
          · rw [if_neg c] at lp
            omega
    exact close I A y6 y7 hS hN hZ hF hb0 (by omega) (by omega) (by omega) e0 K
  | succ n ih =>
    intro I A y6 y7 hS hN hZ hR hw hF hb0 hn b1 b2 b3 K
    have hP := MST_PW hS
    have p1 := hP.1
    obtain ⟨f1, f2, f3, f4, f5, f6, f7, f8⟩ := id hF
    have qf := hP.2 (A 29 (I 54 - 1)) f1.1 f1.2
    have n0 : A 1 0 < 0 := by rw [hN.2 0 (by decide) (by decide)]; decide
    have i0 := hS.1.1
    by_cases e0 : A 30 (I 54 - 1) = 0
    · exact close I A y6 y7 hS hN hZ hF hb0 (by omega) (by omega) (by omega) e0 K
    have qr := hP.2 (A 30 (I 54 - 1)) f3.1 f3.2
    have pr : 0 ≤ A 1 (A 30 (I 54 - 1)) := by
      by_cases e2 : A 1 (A 30 (I 54 - 1)) < 0
      · rw [LZ_atom e2 e0] at f4
        omega
      · omega
    have qs := qr.2.2.2.2 pr
    have lp := LZ_pair (ar := ar) hP (by omega : 0 < A 30 (I 54 - 1)) f3.2 pr
    have cd : 1 ≤ TZ A ar (A 1 (A 30 (I 54 - 1))) ∧ 0 ≤ LZ A ar (A 2 (A 30 (I 54 - 1))) := by
      by_cases c : 1 ≤ TZ A ar (A 1 (A 30 (I 54 - 1))) ∧ 0 ≤ LZ A ar (A 2 (A 30 (I 54 - 1)))
      · exact c
      · rw [if_neg c] at lp
        omega
    rw [if_pos cd] at lp
    have cz := CZ_nn (ar := ar) hP _ (A 2 (A 30 (I 54 - 1))) (Nat.lt_succ_self _) (by omega) (by omega)
    refine go_a (pc' := 20) (ls' := [some (.ref h.length), some (.int (iI o)), some (.int (iI w)), some (.int (iI y)), some (.int (iI base)), some (.int (iI first)), y6, y7]) (st' := [.ref h.length]) rfl rfl ?_
    refine go_get (v := .int (iI (I 54))) rfl mh_o rfl rfl ?_
    refine go_a (pc' := 25) (ls' := [some (.ref h.length), some (.int (iI o)), some (.int (iI w)), some (.int (iI y)), some (.int (iI base)), some (.int (iI first)), y6, y7]) (st' := [.int (iI base), .int (iI (I 54))]) rfl rfl ?_
    refine mi_le (t := 145) rfl rfl (by omega) (by omega) (by omega) (by omega) (fun q => absurd q (by omega)) (fun _ => ?_)
    refine go_a (pc' := 29) (ls' := [some (.ref h.length), some (.int (iI o)), some (.int (iI w)), some (.int (iI y)), some (.int (iI base)), some (.int (iI first)), y6, y7]) (st' := [.ref h.length]) rfl rfl ?_
    refine go_get (v := .int (iI (I 54))) rfl mh_o rfl rfl ?_
    refine go_a (pc' := 33) (ls' := [some (.ref h.length), some (.int (iI o)), some (.int (iI w)), some (.int (iI y)), some (.int (iI base)), some (.int (iI first)), y6, y7]) (st' := [.int (iI 1), .int (iI (I 54))]) rfl rfl ?_
    refine mi_sub rfl ?_
    refine go_a (pc' := 36) (ls' := [some (.ref h.length), some (.int (iI o)), some (.int (iI w)), some (.int (iI y)), some (.int (iI base)), some (.int (iI first)), some (.int (iI ((I 54) - 1))), y7]) (st' := []) rfl rfl ?_
    refine go_a (pc' := 37) (ls' := [some (.ref h.length), some (.int (iI o)), some (.int (iI w)), some (.int (iI y)), some (.int (iI base)), some (.int (iI first)), some (.int (iI ((I 54) - 1))), y7]) (st' := [.ref h.length]) rfl rfl ?_
    refine go_get rfl mh_o rfl rfl ?_
    refine go_a (pc' := 42) (ls' := [some (.ref h.length), some (.int (iI o)), some (.int (iI w)), some (.int (iI y)), some (.int (iI base)), some (.int (iI first)), some (.int (iI ((I 54) - 1))), y7]) (st' := [.int (iI ((I 54) - 1)), .ref (h.length + 30)]) rfl rfl ?_
    refine mi_ild rfl mh_a30 (by omega) (by omega) (by decide) ?_
    refine mi_ne0 (t := 101) rfl rfl (by omega) (by omega) (fun _ => ?_) (fun q => absurd (show ¬ A 30 (I 54 - 1) = 0 from e0) q)
    refine go_a (pc' := 102) (ls' := [some (.ref h.length), some (.int (iI o)), some (.int (iI w)), some (.int (iI y)), some (.int (iI base)), some (.int (iI first)), some (.int (iI ((I 54) - 1))), y7]) (st' := [.ref h.length]) rfl rfl ?_
    refine go_get rfl mh_o rfl rfl ?_
    refine go_a (pc' := 106) (ls' := [some (.ref h.length), some (.int (iI o)), some (.int (iI w)), some (.int (iI y)), some (.int (iI base)), some (.int (iI first)), some (.int (iI ((I 54) - 1))), y7]) (st' := [.ref h.length, .ref (h.length + 1)]) rfl rfl ?_
    refine go_get rfl mh_o rfl rfl ?_
    refine go_a (pc' := 111) (ls' := [some (.ref h.length), some (.int (iI o)), some (.int (iI w)), some (.int (iI y)), some (.int (iI base)), some (.int (iI first)), some (.int (iI ((I 54) - 1))), y7]) (st' := [.int (iI ((I 54) - 1)), .ref (h.length + 30), .ref (h.length + 1)]) rfl rfl ?_
    refine mi_ild rfl mh_a30 (by omega) (by omega) (by decide) ?_
    refine mi_ild rfl mh_a1 (by omega) (by omega) (by decide) ?_
    refine go_a (pc' := 115) (ls' := [some (.ref h.length), some (.int (iI o)), some (.int (iI w)), some (.int (iI y)), some (.int (iI base)), some (.int (iI first)), some (.int (iI ((I 54) - 1))), some (.int (iI (A 1 (A 30 ((I 54) - 1)))))]) (st' := []) rfl rfl ?_
    refine go_a (pc' := 116) (ls' := [some (.ref h.length), some (.int (iI o)), some (.int (iI w)), some (.int (iI y)), some (.int (iI base)), some (.int (iI first)), some (.int (iI ((I 54) - 1))), some (.int (iI (A 1 (A 30 ((I 54) - 1)))))]) (st' := [.ref h.length]) rfl rfl ?_
    refine go_get rfl mh_o rfl rfl ?_
    refine go_a (pc' := 121) (ls' := [some (.ref h.length), some (.int (iI o)), some (.int (iI w)), some (.int (iI y)), some (.int (iI base)), some (.int (iI first)), some (.int (iI ((I 54) - 1))), some (.int (iI (A 1 (A 30 ((I 54) - 1)))))]) (st' := [.int (iI ((I 54) - 1)), .ref (h.length + 30)]) rfl rfl ?_
    refine go_a (pc' := 122) (ls' := [some (.ref h.length), some (.int (iI o)), some (.int (iI w)), some (.int (iI y)), some (.int (iI base)), some (.int (iI first)), some (.int (iI ((I 54) - 1))), some (.int (iI (A 1 (A 30 ((I 54) - 1)))))]) (st' := [.ref h.length, .int (iI ((I 54) - 1)), .ref (h.length + 30)]) rfl rfl ?_
    refine go_get rfl mh_o rfl rfl ?_
    refine go_a (pc' := 126) (ls' := [some (.ref h.length), some (.int (iI o)), some (.int (iI w)), some (.int (iI y)), some (.int (iI base)), some (.int (iI first)), some (.int (iI ((I 54) - 1))), some (.int (iI (A 1 (A 30 ((I 54) - 1)))))]) (st' := [.ref h.length, .ref (h.length + 2), .int (iI ((I 54) - 1)), .ref (h.length + 30)]) rfl rfl ?_
    refine go_get rfl mh_o rfl rfl ?_
    refine go_a (pc' := 131) (ls' := [some (.ref h.length), some (.int (iI o)), some (.int (iI w)), some (.int (iI y)), some (.int (iI base)), some (.int (iI first)), some (.int (iI ((I 54) - 1))), some (.int (iI (A 1 (A 30 ((I 54) - 1)))))]) (st' := [.int (iI ((I 54) - 1)), .ref (h.length + 30), .ref (h.length + 2), .int (iI ((I 54) - 1)), .ref (h.length + 30)]) rfl rfl ?_
    refine mi_ild rfl mh_a30 (by omega) (by omega) (by decide) ?_
    refine mi_ild rfl mh_a2 (by omega) (by omega) (by decide) ?_
    refine mi_ist rfl mh_a30 (show 12 ≤ _ by omega) (by omega) (by omega) (by decide) ?_
    rw [mh_w30 (by omega)]
    refine go_a (pc' := 135) (ls' := [some (.ref h.length), some (.int (iI o)), some (.int (iI w)), some (.int (iI y)), some (.int (iI base)), some (.int (iI first)), some (.int (iI ((I 54) - 1))), some (.int (iI (A 1 (A 30 ((I 54) - 1)))))]) (st' := [.ref h.length]) rfl rfl ?_
    refine go_a (pc' := 137) (ls' := [some (.ref h.length), some (.int (iI o)), some (.int (iI w)), some (.int (iI y)), some (.int (iI base)), some (.int (iI first)), some (.int (iI ((I 54) - 1))), some (.int (iI (A 1 (A 30 ((I 54) - 1)))))]) (st' := [.int (iI (A 1 (A 30 ((I 54) - 1)))), .ref h.length]) rfl rfl ?_
    refine go_a (pc' := 138) (ls' := [some (.ref h.length), some (.int (iI o)), some (.int (iI w)), some (.int (iI y)), some (.int (iI base)), some (.int (iI first)), some (.int (iI ((I 54) - 1))), some (.int (iI (A 1 (A 30 ((I 54) - 1)))))]) (st' := [.int (iI w), .int (iI (A 1 (A 30 ((I 54) - 1)))), .ref h.length]) rfl rfl ?_
    refine go_a (pc' := 139) (ls' := [some (.ref h.length), some (.int (iI o)), some (.int (iI w)), some (.int (iI y)), some (.int (iI base)), some (.int (iI first)), some (.int (iI ((I 54) - 1))), some (.int (iI (A 1 (A 30 ((I 54) - 1)))))]) (st' := [.int (iI y), .int (iI w), .int (iI (A 1 (A 30 ((I 54) - 1)))), .ref h.length]) rfl rfl ?_
    have tz2 := TZ_124 (A := A) (A1 := (sa A 30 (I 54 - 1) (A 2 (A 30 (I 54 - 1))))) (ar := ar) rfl rfl rfl
    have S2 : MST I (sa A 30 (I 54 - 1) (A 2 (A 30 (I 54 - 1)))) N := hS
    have P2 : PW I (sa A 30 (I 54 - 1) (A 2 (A 30 (I 54 - 1)))) := hP
    have R2 : PR ar I (sa A 30 (I 54 - 1) (A 2 (A 30 (I 54 - 1)))) := by
      refine ⟨hR.1, fun q q0 q1 => ?_⟩
      rw [tz2.1]
      exact hR.2 q q0 q1
    have Z2 : SZI ar I (sa A 30 (I 54 - 1) (A 2 (A 30 (I 54 - 1)))) := by
      exact SZI_124 hZ rfl rfl rfl rfl
    refine go_v (m := 163) (as := [.ref h.length, .int (iI (A 1 (A 30 ((I 54) - 1)))), .int (iI w), .int (iI y)]) (r := []) rfl rfl rfl mh_o rfl rfl (mm_beginInstance z (d + 3) ar (A 1 (A 30 (I 54 - 1))) w y h R I (sa A 30 (I 54 - 1) (A 2 (A 30 (I 54 - 1)))) N hc P2 pr (by omega) R2 (by rw [tz2.1]; exact cd.1) w0 w1 y0 (by rw [tz2.1]; exact hw) (by omega) (by omega) (by omega) (by omega)) (fun v h1 hq => ?_)
    obtain ⟨rfl, hq⟩ := hq
    rcases hq with ⟨t, ⟨t0, t1⟩, rfl⟩ | ⟨cl, rfl⟩
    · show xx_go (xt_P z) (d + 6) 162 142 [some (.ref h.length), some (.int (iI o)), some (.int (iI w)), some (.int (iI y)), some (.int (iI base)), some (.int (iI first)), some (.int (iI ((I 54) - 1))), some (.int (iI (A 1 (A 30 ((I 54) - 1)))))] [] (mh h R ((su I 56 (I 56 + 1))) ((sa (sa A 30 (I 54 - 1) (A 2 (A 30 (I 54 - 1)))) 32 (I 56) t)) N) _
      refine go_a (pc' := 19) (ls' := [some (.ref h.length), some (.int (iI o)), some (.int (iI w)), some (.int (iI y)), some (.int (iI base)), some (.int (iI first)), some (.int (iI ((I 54) - 1))), some (.int (iI (A 1 (A 30 ((I 54) - 1)))))]) (st' := []) rfl rfl ?_
      have tz3 := TZ_124 (A := A) (A1 := (sa (sa A 30 (I 54 - 1) (A 2 (A 30 (I 54 - 1)))) 32 (I 56) t)) (ar := ar) rfl rfl rfl
      rw [tz2.1] at t1
      have e30 : (sa (sa A 30 (I 54 - 1) (A 2 (A 30 (I 54 - 1)))) 32 (I 56) t) 30 (I 54 - 1) = A 2 (A 30 (I 54 - 1)) := sf_self
      have S3 : MST (su I 56 (I 56 + 1)) (sa (sa A 30 (I 54 - 1) (A 2 (A 30 (I 54 - 1)))) 32 (I 56) t) N := hS
      have N3 : NM (su I 56 (I 56 + 1)) (sa (sa A 30 (I 54 - 1) (A 2 (A 30 (I 54 - 1)))) 32 (I 56) t) := hN
      have R3 : PR ar (su I 56 (I 56 + 1)) (sa (sa A 30 (I 54 - 1) (A 2 (A 30 (I 54 - 1)))) 32 (I 56) t) := by
        refine ⟨hR.1, fun q q0 q1 => ?_⟩
        rw [tz3.1]
        exact hR.2 q q0 q1
      have Z3 : SZI ar (su I 56 (I 56 + 1)) (sa (sa A 30 (I 54 - 1) (A 2 (A 30 (I 54 - 1)))) 32 (I 56) t) := by
        exact SZI_124 hZ rfl rfl rfl rfl
      have F3 : FRM ar (su I 56 (I 56 + 1)) (sa (sa A 30 (I 54 - 1) (A 2 (A 30 (I 54 - 1)))) 32 (I 56) t) := by
        refine ⟨f1, f2, ?_, ?_, ⟨f5.1, (show A 31 (I 54 - 1) ≤ I 56 + 1 by omega)⟩, fun q q0 q1 => ?_, ?_, f8⟩
        · show 0 ≤ (sa (sa A 30 (I 54 - 1) (A 2 (A 30 (I 54 - 1)))) 32 (I 56) t) 30 (I 54 - 1) ∧ (sa (sa A 30 (I 54 - 1) (A 2 (A 30 (I 54 - 1)))) 32 (I 56) t) 30 (I 54 - 1) < I 7
          rw [e30]
          omega
        · show 0 ≤ LZ (sa (sa A 30 (I 54 - 1) (A 2 (A 30 (I 54 - 1)))) 32 (I 56) t) ar ((sa (sa A 30 (I 54 - 1) (A 2 (A 30 (I 54 - 1)))) 32 (I 56) t) 30 (I 54 - 1))
          rw [e30, tz3.2.1]
          exact cd.2
        · have q1 : q < I 56 + 1 := q1
          have q0 : A 31 (I 54 - 1) ≤ q := q0
          rw [tz3.1]
          show (0 ≤ sf (A 32) (I 56) t q ∧ sf (A 32) (I 56) t q < I 7) ∧ 1 ≤ TZ A ar (sf (A 32) (I 56) t q)
          by_cases e : q = I 56
          · rw [e, sf_self]
            exact ⟨t0, t1⟩
          · rw [sf_ne e]
            exact f6 q q0 (by omega)
        · show (I 56 + 1 - A 31 (I 54 - 1)) + CZ (sa (sa A 30 (I 54 - 1) (A 2 (A 30 (I 54 - 1)))) 32 (I 56) t) ar ((sa (sa A 30 (I 54 - 1) (A 2 (A 30 (I 54 - 1)))) 32 (I 56) t) 30 (I 54 - 1)) = ar (A 1 (A 29 (I 54 - 1)))
          rw [e30, tz3.2.2]
          omega
      have X3 : AX ar (I 54 - 1) (A 31 (I 54 - 1)) I A N (su I 56 (I 56 + 1)) (sa (sa A 30 (I 54 - 1) (A 2 (A 30 (I 54 - 1)))) 32 (I 56) t) := by
        refine ⟨⟨hS, Int.le_refl _, fun k _ _ => ⟨rfl, rfl, rfl, id⟩, fun j p q => su_ne (fun e => q (Or.inr e)), fun a q1 q2 q3 q4 q5 q6 q7 => (sa_ne (fun e => q7 (Or.inr (Or.inr (Or.inr e))))).trans (sa_ne (fun e => q7 (Or.inr (Or.inl e))))⟩, Z3, fun q q0 q1 => ⟨rfl, ?_, rfl⟩, fun q q0 q1 => ?_⟩
        · show sf (A 30) (I 54 - 1) _ q = A 30 q
          rw [sf_ne (by omega)]
        · show sf (A 32) (I 56) t q = A 32 q
          rw [sf_ne (by omega)]
      have M3 : CZ (sa (sa A 30 (I 54 - 1) (A 2 (A 30 (I 54 - 1)))) 32 (I 56) t) ar ((sa (sa A 30 (I 54 - 1) (A 2 (A 30 (I 54 - 1)))) 32 (I 56) t) 30 ((su I 56 (I 56 + 1)) 54 - 1)) = CZ A ar (A 2 (A 30 (I 54 - 1))) := by
        show CZ (sa (sa A 30 (I 54 - 1) (A 2 (A 30 (I 54 - 1)))) 32 (I 56) t) ar ((sa (sa A 30 (I 54 - 1) (A 2 (A 30 (I 54 - 1)))) 32 (I 56) t) 30 (I 54 - 1)) = _
        rw [e30, tz3.2.2]
      have L3 : LZ (sa (sa A 30 (I 54 - 1) (A 2 (A 30 (I 54 - 1)))) 32 (I 56) t) ar ((sa (sa A 30 (I 54 - 1) (A 2 (A 30 (I 54 - 1)))) 32 (I 56) t) 30 ((su I 56 (I 56 + 1)) 54 - 1)) = LZ A ar (A 2 (A 30 (I 54 - 1))) := by
        show LZ (sa (sa A 30 (I 54 - 1) (A 2 (A 30 (I 54 - 1)))) 32 (I 56) t) ar ((sa (sa A 30 (I 54 - 1) (A 2 (A 30 (I 54 - 1)))) 32 (I 56) t) 30 (I 54 - 1)) = _
        rw [e30, tz3.2.1]
      refine ih (su I 56 (I 56 + 1)) (sa (sa A 30 (I 54 - 1) (A 2 (A 30 (I 54 - 1)))) 32 (I 56) t) _ _ S3 N3 Z3 R3 (by rw [tz3.1]; exact hw) F3 hb0 (by rw [L3]; omega) (show I 54 + _ ≤ 1199 by rw [L3]; omega) (show I 56 + 1 + _ ≤ 2399 by rw [L3]; omega) (show I 7 + _ + (I 56 + 1 - A 31 (I 54 - 1)) + 1 ≤ 140000 by rw [L3]; omega) (fun I1 A1 z6 z7 X c1 c2 c3 c4 c5 => ?_)
      have c5 : I1 7 ≤ I 7 + 2 * LZ (sa (sa A 30 (I 54 - 1) (A 2 (A 30 (I 54 - 1)))) 32 (I 56) t) ar ((sa (sa A 30 (I 54 - 1) (A 2 (A 30 (I 54 - 1)))) 32 (I 56) t) 30 ((su I 56 (I 56 + 1)) 54 - 1)) - CZ (sa (sa A 30 (I 54 - 1) (A 2 (A 30 (I 54 - 1)))) 32 (I 56) t) ar ((sa (sa A 30 (I 54 - 1) (A 2 (A 30 (I 54 - 1)))) 32 (I 56) t) 30 ((su I 56 (I 56 + 1)) 54 - 1)) + (I 56 + 1 - A 31 (I 54 - 1)) + 1 ∧ _ := c5
      rw [L3, M3] at c5
      have c5 := c5.1
      exact K I1 A1 z6 z7 (AX_tr X3 X) c1 c2 c3 c4 ⟨by omega, fun az => absurd az (by omega)⟩
    · show xx_go (xt_P z) (d + 6) 162 142 [some (.ref h.length), some (.int (iI o)), some (.int (iI w)), some (.int (iI y)), some (.int (iI base)), some (.int (iI first)), some (.int (iI ((I 54) - 1))), some (.int (iI (A 1 (A 30 ((I 54) - 1)))))] [] (mh h R ((su I 54 (I 54 + 1))) ((sa (sa (sa (sa A 30 (I 54 - 1) (A 2 (A 30 (I 54 - 1)))) 29 (I 54) (A 1 (A 30 (I 54 - 1)))) 30 (I 54) ((sa A 30 (I 54 - 1) (A 2 (A 30 (I 54 - 1)))) 2 (A 1 (A 30 (I 54 - 1))))) 31 (I 54) (I 56))) N) _
      refine go_a (pc' := 19) (ls' := [some (.ref h.length), some (.int (iI o)), some (.int (iI w)), some (.int (iI y)), some (.int (iI base)), some (.int (iI first)), some (.int (iI ((I 54) - 1))), some (.int (iI (A 1 (A 30 ((I 54) - 1)))))]) (st' := []) rfl rfl ?_
      have cl : 0 ≤ A 1 (A 1 (A 30 (I 54 - 1))) ∧ A 1 (A 1 (A 30 (I 54 - 1))) ≠ 2 := cl
      have ra : A 1 (A 30 (I 54 - 1)) < I 7 := by omega
      have qa := hP.2 (A 1 (A 30 (I 54 - 1))) pr ra
      have qb := qa.2.2.2.2 cl.1
      have tc := TZ_call (ar := ar) hP pr ra cl.1 cl.2
      have td : 0 ≤ LZ A ar (A 2 (A 1 (A 30 (I 54 - 1)))) ∧ CZ A ar (A 2 (A 1 (A 30 (I 54 - 1)))) = ar (A 1 (A 1 (A 30 (I 54 - 1)))) ∧ A 4 (A 1 (A 30 (I 54 - 1))) ≠ 0 := by
        by_cases c : 0 ≤ LZ A ar (A 2 (A 1 (A 30 (I 54 - 1)))) ∧ CZ A ar (A 2 (A 1 (A 30 (I 54 - 1)))) = ar (A 1 (A 1 (A 30 (I 54 - 1)))) ∧ A 4 (A 1 (A 30 (I 54 - 1))) ≠ 0
        · exact c
        · rw [if_neg c] at tc
          omega
      rw [if_pos td] at tc
      have tz4 := TZ_124 (A := A) (A1 := (sa (sa (sa (sa A 30 (I 54 - 1) (A 2 (A 30 (I 54 - 1)))) 29 (I 54) (A 1 (A 30 (I 54 - 1)))) 30 (I 54) ((sa A 30 (I 54 - 1) (A 2 (A 30 (I 54 - 1)))) 2 (A 1 (A 30 (I 54 - 1))))) 31 (I 54) (I 56))) (ar := ar) rfl rfl rfl
      have i54 : I 54 + 1 - 1 = I 54 := by omega
      have d29 : (sa (sa (sa (sa A 30 (I 54 - 1) (A 2 (A 30 (I 54 - 1)))) 29 (I 54) (A 1 (A 30 (I 54 - 1)))) 30 (I 54) ((sa A 30 (I 54 - 1) (A 2 (A 30 (I 54 - 1)))) 2 (A 1 (A 30 (I 54 - 1))))) 31 (I 54) (I 56)) 29 (I 54 + 1 - 1) = A 1 (A 30 (I 54 - 1)) := by rw [i54]; exact sf_self
      have d30 : (sa (sa (sa (sa A 30 (I 54 - 1) (A 2 (A 30 (I 54 - 1)))) 29 (I 54) (A 1 (A 30 (I 54 - 1)))) 30 (I 54) ((sa A 30 (I 54 - 1) (A 2 (A 30 (I 54 - 1)))) 2 (A 1 (A 30 (I 54 - 1))))) 31 (I 54) (I 56)) 30 (I 54 + 1 - 1) = A 2 (A 1 (A 30 (I 54 - 1))) := by rw [i54]; exact sf_self
      have d31 : (sa (sa (sa (sa A 30 (I 54 - 1) (A 2 (A 30 (I 54 - 1)))) 29 (I 54) (A 1 (A 30 (I 54 - 1)))) 30 (I 54) ((sa A 30 (I 54 - 1) (A 2 (A 30 (I 54 - 1)))) 2 (A 1 (A 30 (I 54 - 1))))) 31 (I 54) (I 56)) 31 (I 54 + 1 - 1) = I 56 := by rw [i54]; exact sf_self
      have S4 : MST (su I 54 (I 54 + 1)) (sa (sa (sa (sa A 30 (I 54 - 1) (A 2 (A 30 (I 54 - 1)))) 29 (I 54) (A 1 (A 30 (I 54 - 1)))) 30 (I 54) ((sa A 30 (I 54 - 1) (A 2 (A 30 (I 54 - 1)))) 2 (A 1 (A 30 (I 54 - 1))))) 31 (I 54) (I 56)) N := hS
      have N4 : NM (su I 54 (I 54 + 1)) (sa (sa (sa (sa A 30 (I 54 - 1) (A 2 (A 30 (I 54 - 1)))) 29 (I 54) (A 1 (A 30 (I 54 - 1)))) 30 (I 54) ((sa A 30 (I 54 - 1) (A 2 (A 30 (I 54 - 1)))) 2 (A 1 (A 30 (I 54 - 1))))) 31 (I 54) (I 56)) := hN
      have R4 : PR ar (su I 54 (I 54 + 1)) (sa (sa (sa (sa A 30 (I 54 - 1) (A 2 (A 30 (I 54 - 1)))) 29 (I 54) (A 1 (A 30 (I 54 - 1)))) 30 (I 54) ((sa A 30 (I 54 - 1) (A 2 (A 30 (I 54 - 1)))) 2 (A 1 (A 30 (I 54 - 1))))) 31 (I 54) (I 56)) := by
        refine ⟨hR.1, fun q q0 q1 => ?_⟩
        rw [tz4.1]
        exact hR.2 q q0 q1
      have Z4 : SZI ar (su I 54 (I 54 + 1)) (sa (sa (sa (sa A 30 (I 54 - 1) (A 2 (A 30 (I 54 - 1)))) 29 (I 54) (A 1 (A 30 (I 54 - 1)))) 30 (I 54) ((sa A 30 (I 54 - 1) (A 2 (A 30 (I 54 - 1)))) 2 (A 1 (A 30 (I 54 - 1))))) 31 (I 54) (I 56)) := by
        exact SZI_124 hZ rfl rfl rfl rfl
      have az0 : ar (A 1 (A 1 (A 30 (I 54 - 1)))) = 0 → A 2 (A 1 (A 30 (I 54 - 1))) = 0 := fun az => by
        have il := (LZ_isL (ar := ar) hP n0 _ (A 2 (A 1 (A 30 (I 54 - 1)))) (Nat.lt_succ_self _) (by omega) (by omega) td.1).1
        rw [show (CZ A ar (A 2 (A 1 (A 30 (I 54 - 1))))).toNat = 0 by omega] at il
        exact il
      have F4 : FRM ar (su I 54 (I 54 + 1)) (sa (sa (sa (sa A 30 (I 54 - 1) (A 2 (A 30 (I 54 - 1)))) 29 (I 54) (A 1 (A 30 (I 54 - 1)))) 30 (I 54) ((sa A 30 (I 54 - 1) (A 2 (A 30 (I 54 - 1)))) 2 (A 1 (A 30 (I 54 - 1))))) 31 (I 54) (I 56)) := by
        show (0 ≤ (sa (sa (sa (sa A 30 (I 54 - 1) (A 2 (A 30 (I 54 - 1)))) 29 (I 54) (A 1 (A 30 (I 54 - 1)))) 30 (I 54) ((sa A 30 (I 54 - 1) (A 2 (A 30 (I 54 - 1)))) 2 (A 1 (A 30 (I 54 - 1))))) 31 (I 54) (I 56)) 29 (I 54 + 1 - 1) ∧ (sa (sa (sa (sa A 30 (I 54 - 1) (A 2 (A 30 (I 54 - 1)))) 29 (I 54) (A 1 (A 30 (I 54 - 1)))) 30 (I 54) ((sa A 30 (I 54 - 1) (A 2 (A 30 (I 54 - 1)))) 2 (A 1 (A 30 (I 54 - 1))))) 31 (I 54) (I 56)) 29 (I 54 + 1 - 1) < I 7) ∧ (0 ≤ A 1 ((sa (sa (sa (sa A 30 (I 54 - 1) (A 2 (A 30 (I 54 - 1)))) 29 (I 54) (A 1 (A 30 (I 54 - 1)))) 30 (I 54) ((sa A 30 (I 54 - 1) (A 2 (A 30 (I 54 - 1)))) 2 (A 1 (A 30 (I 54 - 1))))) 31 (I 54) (I 56)) 29 (I 54 + 1 - 1)) ∧ A 1 ((sa (sa (sa (sa A 30 (I 54 - 1) (A 2 (A 30 (I 54 - 1)))) 29 (I 54) (A 1 (A 30 (I 54 - 1)))) 30 (I 54) ((sa A 30 (I 54 - 1) (A 2 (A 30 (I 54 - 1)))) 2 (A 1 (A 30 (I 54 - 1))))) 31 (I 54) (I 56)) 29 (I 54 + 1 - 1)) ≠ 2) ∧ (0 ≤ (sa (sa (sa (sa A 30 (I 54 - 1) (A 2 (A 30 (I 54 - 1)))) 29 (I 54) (A 1 (A 30 (I 54 - 1)))) 30 (I 54) ((sa A 30 (I 54 - 1) (A 2 (A 30 (I 54 - 1)))) 2 (A 1 (A 30 (I 54 - 1))))) 31 (I 54) (I 56)) 30 (I 54 + 1 - 1) ∧ (sa (sa (sa (sa A 30 (I 54 - 1) (A 2 (A 30 (I 54 - 1)))) 29 (I 54) (A 1 (A 30 (I 54 - 1)))) 30 (I 54) ((sa A 30 (I 54 - 1) (A 2 (A 30 (I 54 - 1)))) 2 (A 1 (A 30 (I 54 - 1))))) 31 (I 54) (I 56)) 30 (I 54 + 1 - 1) < I 7) ∧ 0 ≤ LZ (sa (sa (sa (sa A 30 (I 54 - 1) (A 2 (A 30 (I 54 - 1)))) 29 (I 54) (A 1 (A 30 (I 54 - 1)))) 30 (I 54) ((sa A 30 (I 54 - 1) (A 2 (A 30 (I 54 - 1)))) 2 (A 1 (A 30 (I 54 - 1))))) 31 (I 54) (I 56)) ar ((sa (sa (sa (sa A 30 (I 54 - 1) (A 2 (A 30 (I 54 - 1)))) 29 (I 54) (A 1 (A 30 (I 54 - 1)))) 30 (I 54) ((sa A 30 (I 54 - 1) (A 2 (A 30 (I 54 - 1)))) 2 (A 1 (A 30 (I 54 - 1))))) 31 (I 54) (I 56)) 30 (I 54 + 1 - 1)) ∧ (0 ≤ (sa (sa (sa (sa A 30 (I 54 - 1) (A 2 (A 30 (I 54 - 1)))) 29 (I 54) (A 1 (A 30 (I 54 - 1)))) 30 (I 54) ((sa A 30 (I 54 - 1) (A 2 (A 30 (I 54 - 1)))) 2 (A 1 (A 30 (I 54 - 1))))) 31 (I 54) (I 56)) 31 (I 54 + 1 - 1) ∧ (sa (sa (sa (sa A 30 (I 54 - 1) (A 2 (A 30 (I 54 - 1)))) 29 (I 54) (A 1 (A 30 (I 54 - 1)))) 30 (I 54) ((sa A 30 (I 54 - 1) (A 2 (A 30 (I 54 - 1)))) 2 (A 1 (A 30 (I 54 - 1))))) 31 (I 54) (I 56)) 31 (I 54 + 1 - 1) ≤ I 56) ∧ (∀ q : Int, (sa (sa (sa (sa A 30 (I 54 - 1) (A 2 (A 30 (I 54 - 1)))) 29 (I 54) (A 1 (A 30 (I 54 - 1)))) 30 (I 54) ((sa A 30 (I 54 - 1) (A 2 (A 30 (I 54 - 1)))) 2 (A 1 (A 30 (I 54 - 1))))) 31 (I 54) (I 56)) 31 (I 54 + 1 - 1) ≤ q → q < I 56 → (0 ≤ A 32 q ∧ A 32 q < I 7) ∧ 1 ≤ TZ (sa (sa (sa (sa A 30 (I 54 - 1) (A 2 (A 30 (I 54 - 1)))) 29 (I 54) (A 1 (A 30 (I 54 - 1)))) 30 (I 54) ((sa A 30 (I 54 - 1) (A 2 (A 30 (I 54 - 1)))) 2 (A 1 (A 30 (I 54 - 1))))) 31 (I 54) (I 56)) ar (A 32 q)) ∧ (I 56 - (sa (sa (sa (sa A 30 (I 54 - 1) (A 2 (A 30 (I 54 - 1)))) 29 (I 54) (A 1 (A 30 (I 54 - 1)))) 30 (I 54) ((sa A 30 (I 54 - 1) (A 2 (A 30 (I 54 - 1)))) 2 (A 1 (A 30 (I 54 - 1))))) 31 (I 54) (I 56)) 31 (I 54 + 1 - 1)) + CZ (sa (sa (sa (sa A 30 (I 54 - 1) (A 2 (A 30 (I 54 - 1)))) 29 (I 54) (A 1 (A 30 (I 54 - 1)))) 30 (I 54) ((sa A 30 (I 54 - 1) (A 2 (A 30 (I 54 - 1)))) 2 (A 1 (A 30 (I 54 - 1))))) 31 (I 54) (I 56)) ar ((sa (sa (sa (sa A 30 (I 54 - 1) (A 2 (A 30 (I 54 - 1)))) 29 (I 54) (A 1 (A 30 (I 54 - 1)))) 30 (I 54) ((sa A 30 (I 54 - 1) (A 2 (A 30 (I 54 - 1)))) 2 (A 1 (A 30 (I 54 - 1))))) 31 (I 54) (I 56)) 30 (I 54 + 1 - 1)) = ar (A 1 ((sa (sa (sa (sa A 30 (I 54 - 1) (A 2 (A 30 (I 54 - 1)))) 29 (I 54) (A 1 (A 30 (I 54 - 1)))) 30 (I 54) ((sa A 30 (I 54 - 1) (A 2 (A 30 (I 54 - 1)))) 2 (A 1 (A 30 (I 54 - 1))))) 31 (I 54) (I 56)) 29 (I 54 + 1 - 1))) ∧ (ar (A 1 ((sa (sa (sa (sa A 30 (I 54 - 1) (A 2 (A 30 (I 54 - 1)))) 29 (I 54) (A 1 (A 30 (I 54 - 1)))) 30 (I 54) ((sa A 30 (I 54 - 1) (A 2 (A 30 (I 54 - 1)))) 2 (A 1 (A 30 (I 54 - 1))))) 31 (I 54) (I 56)) 29 (I 54 + 1 - 1))) = 0 → A 2 ((sa (sa (sa (sa A 30 (I 54 - 1) (A 2 (A 30 (I 54 - 1)))) 29 (I 54) (A 1 (A 30 (I 54 - 1)))) 30 (I 54) ((sa A 30 (I 54 - 1) (A 2 (A 30 (I 54 - 1)))) 2 (A 1 (A 30 (I 54 - 1))))) 31 (I 54) (I 56)) 29 (I 54 + 1 - 1)) = 0)
        rw [d29, d30, d31, tz4.2.1, tz4.2.2]
        exact ⟨⟨pr, ra⟩, cl, ⟨by omega, by omega⟩, td.1, ⟨by omega, Int.le_refl _⟩, fun q q0 q1 => absurd q1 (by omega), by omega, az0⟩
      have M4 : CZ (sa (sa (sa (sa A 30 (I 54 - 1) (A 2 (A 30 (I 54 - 1)))) 29 (I 54) (A 1 (A 30 (I 54 - 1)))) 30 (I 54) ((sa A 30 (I 54 - 1) (A 2 (A 30 (I 54 - 1)))) 2 (A 1 (A 30 (I 54 - 1))))) 31 (I 54) (I 56)) ar ((sa (sa (sa (sa A 30 (I 54 - 1) (A 2 (A 30 (I 54 - 1)))) 29 (I 54) (A 1 (A 30 (I 54 - 1)))) 30 (I 54) ((sa A 30 (I 54 - 1) (A 2 (A 30 (I 54 - 1)))) 2 (A 1 (A 30 (I 54 - 1))))) 31 (I 54) (I 56)) 30 ((su I 54 (I 54 + 1)) 54 - 1)) = CZ A ar (A 2 (A 1 (A 30 (I 54 - 1)))) := by
        show CZ (sa (sa (sa (sa A 30 (I 54 - 1) (A 2 (A 30 (I 54 - 1)))) 29 (I 54) (A 1 (A 30 (I 54 - 1)))) 30 (I 54) ((sa A 30 (I 54 - 1) (A 2 (A 30 (I 54 - 1)))) 2 (A 1 (A 30 (I 54 - 1))))) 31 (I 54) (I 56)) ar ((sa (sa (sa (sa A 30 (I 54 - 1) (A 2 (A 30 (I 54 - 1)))) 29 (I 54) (A 1 (A 30 (I 54 - 1)))) 30 (I 54) ((sa A 30 (I 54 - 1) (A 2 (A 30 (I 54 - 1)))) 2 (A 1 (A 30 (I 54 - 1))))) 31 (I 54) (I 56)) 30 (I 54 + 1 - 1)) = _
        rw [d30, tz4.2.2]
      have L4 : LZ (sa (sa (sa (sa A 30 (I 54 - 1) (A 2 (A 30 (I 54 - 1)))) 29 (I 54) (A 1 (A 30 (I 54 - 1)))) 30 (I 54) ((sa A 30 (I 54 - 1) (A 2 (A 30 (I 54 - 1)))) 2 (A 1 (A 30 (I 54 - 1))))) 31 (I 54) (I 56)) ar ((sa (sa (sa (sa A 30 (I 54 - 1) (A 2 (A 30 (I 54 - 1)))) 29 (I 54) (A 1 (A 30 (I 54 - 1)))) 30 (I 54) ((sa A 30 (I 54 - 1) (A 2 (A 30 (I 54 - 1)))) 2 (A 1 (A 30 (I 54 - 1))))) 31 (I 54) (I 56)) 30 ((su I 54 (I 54 + 1)) 54 - 1)) = LZ A ar (A 2 (A 1 (A 30 (I 54 - 1)))) := by
        show LZ (sa (sa (sa (sa A 30 (I 54 - 1) (A 2 (A 30 (I 54 - 1)))) 29 (I 54) (A 1 (A 30 (I 54 - 1)))) 30 (I 54) ((sa A 30 (I 54 - 1) (A 2 (A 30 (I 54 - 1)))) 2 (A 1 (A 30 (I 54 - 1))))) 31 (I 54) (I 56)) ar ((sa (sa (sa (sa A 30 (I 54 - 1) (A 2 (A 30 (I 54 - 1)))) 29 (I 54) (A 1 (A 30 (I 54 - 1)))) 30 (I 54) ((sa A 30 (I 54 - 1) (A 2 (A 30 (I 54 - 1)))) 2 (A 1 (A 30 (I 54 - 1))))) 31 (I 54) (I 56)) 30 (I 54 + 1 - 1)) = _
        rw [d30, tz4.2.1]
      have X4 : AX ar (I 54 - 1) (A 31 (I 54 - 1)) I A N (su I 54 (I 54 + 1)) (sa (sa (sa (sa A 30 (I 54 - 1) (A 2 (A 30 (I 54 - 1)))) 29 (I 54) (A 1 (A 30 (I 54 - 1)))) 30 (I 54) ((sa A 30 (I 54 - 1) (A 2 (A 30 (I 54 - 1)))) 2 (A 1 (A 30 (I 54 - 1))))) 31 (I 54) (I 56)) := by
        refine ⟨⟨hS, Int.le_refl _, fun k _ _ => ⟨rfl, rfl, rfl, id⟩, fun j p q => su_ne (fun e => q (Or.inl e)), fun a q1 q2 q3 q4 q5 q6 q7 => (((sa_ne (fun e => q7 (Or.inr (Or.inr (Or.inl e))))).trans (sa_ne (fun e => q7 (Or.inr (Or.inl e))))).trans (sa_ne (fun e => q7 (Or.inl e)))).trans (sa_ne (fun e => q7 (Or.inr (Or.inl e))))⟩, Z4, fun q q0 q1 => ⟨?_, ?_, ?_⟩, fun q q0 q1 => rfl⟩
        · show sf (A 29) (I 54) _ q = A 29 q
          rw [sf_ne (by omega)]
        · show sf (sf (A 30) (I 54 - 1) _) (I 54) _ q = A 30 q
          rw [sf_ne (by omega), sf_ne (by omega)]
        · show sf (A 31) (I 54) _ q = A 31 q
          rw [sf_ne (by omega)]
      refine ih (su I 54 (I 54 + 1)) (sa (sa (sa (sa A 30 (I 54 - 1) (A 2 (A 30 (I 54 - 1)))) 29 (I 54) (A 1 (A 30 (I 54 - 1)))) 30 (I 54) ((sa A 30 (I 54 - 1) (A 2 (A 30 (I 54 - 1)))) 2 (A 1 (A 30 (I 54 - 1))))) 31 (I 54) (I 56)) _ _ S4 N4 Z4 R4 (by rw [tz4.1]; exact hw) F4 (show base < I 54 + 1 by omega) (by rw [L4]; omega) (show I 54 + 1 + _ ≤ 1199 by rw [L4]; omega) (show I 56 + _ ≤ 2399 by rw [L4]; omega) (show I 7 + _ + (I 56 - (sa (sa (sa (sa A 30 (I 54 - 1) (A 2 (A 30 (I 54 - 1)))) 29 (I 54) (A 1 (A 30 (I 54 - 1)))) 30 (I 54) ((sa A 30 (I 54 - 1) (A 2 (A 30 (I 54 - 1)))) 2 (A 1 (A 30 (I 54 - 1))))) 31 (I 54) (I 56)) 31 (I 54 + 1 - 1)) + 1 ≤ 140000 by rw [L4, d31]; omega) (fun I5 A5 z6 z7 X c1 c2 c3 c4 c5 => ?_)
      have X : AX ar (I 54 + 1 - 1) ((sa (sa (sa (sa A 30 (I 54 - 1) (A 2 (A 30 (I 54 - 1)))) 29 (I 54) (A 1 (A 30 (I 54 - 1)))) 30 (I 54) ((sa A 30 (I 54 - 1) (A 2 (A 30 (I 54 - 1)))) 2 (A 1 (A 30 (I 54 - 1))))) 31 (I 54) (I 56)) 31 (I 54 + 1 - 1)) (su I 54 (I 54 + 1)) (sa (sa (sa (sa A 30 (I 54 - 1) (A 2 (A 30 (I 54 - 1)))) 29 (I 54) (A 1 (A 30 (I 54 - 1)))) 30 (I 54) ((sa A 30 (I 54 - 1) (A 2 (A 30 (I 54 - 1)))) 2 (A 1 (A 30 (I 54 - 1))))) 31 (I 54) (I 56)) N I5 A5 := X
      rw [d31, i54] at X
      have c1 : I5 54 = I 54 := by have c1 : I5 54 = I 54 + 1 - 1 := c1; omega
      have c2 : I5 56 = (sa (sa (sa (sa A 30 (I 54 - 1) (A 2 (A 30 (I 54 - 1)))) 29 (I 54) (A 1 (A 30 (I 54 - 1)))) 30 (I 54) ((sa A 30 (I 54 - 1) (A 2 (A 30 (I 54 - 1)))) 2 (A 1 (A 30 (I 54 - 1))))) 31 (I 54) (I 56)) 31 (I 54 + 1 - 1) + 1 := c2
      have c3 : 0 ≤ A5 32 ((sa (sa (sa (sa A 30 (I 54 - 1) (A 2 (A 30 (I 54 - 1)))) 29 (I 54) (A 1 (A 30 (I 54 - 1)))) 30 (I 54) ((sa A 30 (I 54 - 1) (A 2 (A 30 (I 54 - 1)))) 2 (A 1 (A 30 (I 54 - 1))))) 31 (I 54) (I 56)) 31 (I 54 + 1 - 1)) ∧ A5 32 ((sa (sa (sa (sa A 30 (I 54 - 1) (A 2 (A 30 (I 54 - 1)))) 29 (I 54) (A 1 (A 30 (I 54 - 1)))) 30 (I 54) ((sa A 30 (I 54 - 1) (A 2 (A 30 (I 54 - 1)))) 2 (A 1 (A 30 (I 54 - 1))))) 31 (I 54) (I 56)) 31 (I 54 + 1 - 1)) < I5 7 := c3
      have c4 : 1 ≤ TZ A5 ar (A5 32 ((sa (sa (sa (sa A 30 (I 54 - 1) (A 2 (A 30 (I 54 - 1)))) 29 (I 54) (A 1 (A 30 (I 54 - 1)))) 30 (I 54) ((sa A 30 (I 54 - 1) (A 2 (A 30 (I 54 - 1)))) 2 (A 1 (A 30 (I 54 - 1))))) 31 (I 54) (I 56)) 31 (I 54 + 1 - 1))) := c4
      have c5 : I5 7 ≤ I 7 + 2 * LZ (sa (sa (sa (sa A 30 (I 54 - 1) (A 2 (A 30 (I 54 - 1)))) 29 (I 54) (A 1 (A 30 (I 54 - 1)))) 30 (I 54) ((sa A 30 (I 54 - 1) (A 2 (A 30 (I 54 - 1)))) 2 (A 1 (A 30 (I 54 - 1))))) 31 (I 54) (I 56)) ar ((sa (sa (sa (sa A 30 (I 54 - 1) (A 2 (A 30 (I 54 - 1)))) 29 (I 54) (A 1 (A 30 (I 54 - 1)))) 30 (I 54) ((sa A 30 (I 54 - 1) (A 2 (A 30 (I 54 - 1)))) 2 (A 1 (A 30 (I 54 - 1))))) 31 (I 54) (I 56)) 30 ((su I 54 (I 54 + 1)) 54 - 1)) - CZ (sa (sa (sa (sa A 30 (I 54 - 1) (A 2 (A 30 (I 54 - 1)))) 29 (I 54) (A 1 (A 30 (I 54 - 1)))) 30 (I 54) ((sa A 30 (I 54 - 1) (A 2 (A 30 (I 54 - 1)))) 2 (A 1 (A 30 (I 54 - 1))))) 31 (I 54) (I 56)) ar ((sa (sa (sa (sa A 30 (I 54 - 1) (A 2 (A 30 (I 54 - 1)))) 29 (I 54) (A 1 (A 30 (I 54 - 1)))) 30 (I 54) ((sa A 30 (I 54 - 1) (A 2 (A 30 (I 54 - 1)))) 2 (A 1 (A 30 (I 54 - 1))))) 31 (I 54) (I 56)) 30 ((su I 54 (I 54 + 1)) 54 - 1)) + (I 56 - (sa (sa (sa (sa A 30 (I 54 - 1) (A 2 (A 30 (I 54 - 1)))) 29 (I 54) (A 1 (A 30 (I 54 - 1)))) 30 (I 54) ((sa A 30 (I 54 - 1) (A 2 (A 30 (I 54 - 1)))) 2 (A 1 (A 30 (I 54 - 1))))) 31 (I 54) (I 56)) 31 (I 54 + 1 - 1)) + 1 ∧ (ar (A 1 ((sa (sa (sa (sa A 30 (I 54 - 1) (A 2 (A 30 (I 54 - 1)))) 29 (I 54) (A 1 (A 30 (I 54 - 1)))) 30 (I 54) ((sa A 30 (I 54 - 1) (A 2 (A 30 (I 54 - 1)))) 2 (A 1 (A 30 (I 54 - 1))))) 31 (I 54) (I 56)) 29 (I 54 + 1 - 1))) = 0 → I5 7 ≤ I 7) := c5
      rw [d31] at c2 c3 c4 c5
      rw [L4, M4, d29] at c5
      have cz2 := CZ_nn (ar := ar) hP _ (A 2 (A 1 (A 30 (I 54 - 1)))) (Nat.lt_succ_self _) (by omega) (by omega)
      have c5 : I5 7 ≤ I 7 + 2 * TZ A ar (A 1 (A 30 (I 54 - 1))) - 2 := by omega
      have P4 : PW (su I 54 (I 54 + 1)) (sa (sa (sa (sa A 30 (I 54 - 1) (A 2 (A 30 (I 54 - 1)))) 29 (I 54) (A 1 (A 30 (I 54 - 1)))) 30 (I 54) ((sa A 30 (I 54 - 1) (A 2 (A 30 (I 54 - 1)))) 2 (A 1 (A 30 (I 54 - 1))))) 31 (I 54) (I 56)) := hP
      have x7 : I 7 ≤ I5 7 := X.1.2.1
      have k1 := X.2.2.1 (I 54 - 1) (by omega) (by omega)
      have k29 : A5 29 (I 54 - 1) = A 29 (I 54 - 1) := k1.1.trans (by show sf (A 29) (I 54) _ (I 54 - 1) = _; rw [sf_ne (by omega)])
      have k30 : A5 30 (I 54 - 1) = A 2 (A 30 (I 54 - 1)) := k1.2.1.trans (by show sf (sf (A 30) (I 54 - 1) _) (I 54) _ (I 54 - 1) = _; rw [sf_ne (by omega), sf_self])
      have k31 : A5 31 (I 54 - 1) = A 31 (I 54 - 1) := k1.2.2.trans (by show sf (A 31) (I 54) _ (I 54 - 1) = _; rw [sf_ne (by omega)])
      have XA : AX ar (I 54 - 1) (A 31 (I 54 - 1)) I A N I5 A5 := AX_tr X4 (AX_mono (by omega) (by omega) X)
      have tr := TZ_BX (ar := ar) hP XA.1 (by omega : 0 ≤ A 2 (A 30 (I 54 - 1))) (by omega)
      have o1 := (XA.1.2.2.1 (A 29 (I 54 - 1)) f1.1 f1.2).1
      have o2 := (XA.1.2.2.1 (A 29 (I 54 - 1)) f1.1 f1.2).2.1
      have L5 : LZ A5 ar (A5 30 (I5 54 - 1)) = LZ A ar (A 2 (A 30 (I 54 - 1))) := by
        rw [c1, k30]
        exact tr.2.1 cd.2
      have M5 : CZ A5 ar (A5 30 (I5 54 - 1)) = CZ A ar (A 2 (A 30 (I 54 - 1))) := by
        rw [c1, k30]
        exact tr.2.2
      have F5 : FRM ar I5 A5 := by
        unfold FRM
        rw [c1, k29, k30, k31, o1, o2, tr.2.1 cd.2, tr.2.2, c2]
        refine ⟨⟨f1.1, by omega⟩, f2, ⟨by omega, by omega⟩, cd.2, ⟨f5.1, by omega⟩, fun q q0 q1 => ?_, by omega, f8⟩
        by_cases e : q = I 56
        · rw [e]
          exact ⟨c3, c4⟩
        · have b := f6 q q0 (by omega)
          have e32 : A5 32 q = A 32 q := X.2.2.2 q (by omega) (by omega)
          rw [e32, (TZ_BX hP XA.1 b.1.1 b.1.2).1 b.2]
          exact ⟨⟨b.1.1, by omega⟩, b.2⟩
      have N5 := NM_BX hN XA.1
      have R5 := PR_BX hP hR XA.1 (by unfold FB; omega) (by unfold GB; omega) (by unfold GB; omega)
      have hw5 : 0 ≤ w → (0 ≤ y ∧ y < I5 7) ∧ 1 ≤ TZ A5 ar y := fun q => by
        have b := hw q
        rw [(TZ_BX hP XA.1 b.1.1 b.1.2).1 b.2]
        exact ⟨⟨b.1.1, by omega⟩, b.2⟩
      refine ih I5 A5 z6 z7 XA.1.1 N5 XA.2.1 R5 hw5 F5 (by omega) (by rw [L5]; omega) (by rw [L5]; omega) (by rw [L5]; omega) (by rw [L5, c1, k31]; omega) (fun I6 A6 y8 y9 Y e1 e2 e3 e4 e5 => ?_)
      rw [c1, k31] at Y e2 e3 e4
      rw [L5, M5, c1, k31] at e5
      exact K I6 A6 y8 y9 (AX_tr XA Y) (by omega) e2 e3 e4 ⟨by have := e5.1; omega, fun az => absurd az (by omega)⟩

