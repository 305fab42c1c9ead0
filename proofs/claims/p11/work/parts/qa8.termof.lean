theorem EX_89 {I I1 : Nat → Int} {A A1 : Nat → Int → Int} {N N1 : Int → Int} (x : EX I A N I1 A1 N1) (e8 : A1 8 = A 8) (e9 : A1 9 = A 9) {a : Nat} (q1 : a ≠ 1) (q2 : a ≠ 2) (q3 : a ≠ 3) (q4 : a ≠ 4) (q5 : a ≠ 5) (q6 : a ≠ 7) : A1 a = A a := by
  by_cases c8 : a = 8
  · rw [c8]
    exact e8
  · by_cases c9 : a = 9
    · rw [c9]
      exact e9
    · exact x.2.2.2.2.1 a q1 q2 q3 q4 q5 q6 c8 c9
def GT (a : Nat) : Prop := a = 29 ∨ a = 30 ∨ a = 31 ∨ a = 32
def AT (ar : Int → Int) (c b : Int) (I : Nat → Int) (A : Nat → Int → Int) (N : Int → Int) (I1 : Nat → Int) (A1 : Nat → Int → Int) : Prop := BX FB GT I A N I1 A1 N ∧ SZI ar I1 A1 ∧ (∀ q : Int, 0 ≤ q → q < c → A1 29 q = A 29 q ∧ A1 30 q = A 30 q ∧ A1 31 q = A 31 q) ∧ (∀ q : Int, 0 ≤ q → q < b → A1 32 q = A 32 q)
section ATS
variable {ar : Int → Int} {c b : Int} {I I1 I2 : Nat → Int} {A A1 A2 : Nat → Int → Int} {N : Int → Int}
theorem AT_tr (x : AT ar c b I A N I1 A1) (y : AT ar c b I1 A1 N I2 A2) : AT ar c b I A N I2 A2 := ⟨BX_tr x.1 y.1, y.2.1, fun q q0 q1 => ⟨((y.2.2.1 q q0 q1).1).trans (x.2.2.1 q q0 q1).1, ((y.2.2.1 q q0 q1).2.1).trans (x.2.2.1 q q0 q1).2.1, ((y.2.2.1 q q0 q1).2.2).trans (x.2.2.1 q q0 q1).2.2⟩, fun q q0 q1 => (y.2.2.2 q q0 q1).trans (x.2.2.2 q q0 q1)⟩
theorem AT_mono {c2 b2 : Int} (hc : c2 ≤ c) (hb : b2 ≤ b) (x : AT ar c b I A N I1 A1) : AT ar c2 b2 I A N I1 A1 := ⟨x.1, x.2.1, fun q q0 q1 => x.2.2.1 q q0 (by omega), fun q q0 q1 => x.2.2.2 q q0 (by omega)⟩
theorem AR_BX {F G : Nat → Prop} (hA : AR ar I A) (x : BX F G I A N I1 A1 N) (f44 : ¬ F 44) (f45 : ¬ F 45) (f32 : ¬ F 32) (g20 : ¬ G 20) (g21 : ¬ G 21) : AR ar I1 A1 := by
  have e44 := x.2.2.2.1 44 (by decide) f44
  have e45 := x.2.2.2.1 45 (by decide) f45
  have e32 := x.2.2.2.1 32 (by decide) f32
  have a := x.2.2.2.2 20 (by decide) (by decide) (by decide) (by decide) (by decide) (by decide) g20
  have b := x.2.2.2.2 21 (by decide) (by decide) (by decide) (by decide) (by decide) (by decide) g21
  unfold AR
  rw [e44, e45, e32, a, b]
  exact hA
theorem ARF_BX {F G : Nat → Prop} (hQ : ARF ar I A) (x : BX F G I A N I1 A1 N) (f44 : ¬ F 44) (f32 : ¬ F 32) (g20 : ¬ G 20) : ARF ar I1 A1 := by
  intro f f0 f1
  obtain ⟨q1, q2, y, q3⟩ := hQ f f0 f1
  have x7 := x.2.1
  refine ⟨by omega, by rw [(x.2.2.1 f f0 q1).1]; exact q2, y, ?_⟩
  unfold FN
  rw [x.2.2.2.1 44 (by decide) f44, x.2.2.2.1 32 (by decide) f32, x.2.2.2.2 20 (by decide) (by decide) (by decide) (by decide) (by decide) (by decide) g20]
  exact q3
end ATS
theorem SL_congr {A A1 : Nat → Int → Int} {ar : Int → Int} {f g : Int → Int} {hi : Int} : ∀ m : Nat, (∀ q : Int, hi - m ≤ q → q < hi → TZ A1 ar (g q) = TZ A ar (f q)) → SL A1 ar g hi m = SL A ar f hi m
  | 0, _ => rfl
  | m + 1, h => by
    show TZ A1 ar (g (hi - ((m : Int) + 1))) + SL A1 ar g hi m = TZ A ar (f (hi - ((m : Int) + 1))) + SL A ar f hi m
    rw [h _ (by omega) (by omega), SL_congr m (fun q q0 q1 => h q (by omega) q1)]
theorem SL_push {A : Nat → Int → Int} {ar : Int → Int} {f : Int → Int} {hi : Int} : ∀ m : Nat, SL A ar f (hi + 1) (m + 1) = SL A ar f hi m + TZ A ar (f hi)
  | 0 => by
    show TZ A ar (f (hi + 1 - (((0 : Nat) : Int) + 1))) + 0 = 0 + TZ A ar (f hi)
    rw [show hi + 1 - (((0 : Nat) : Int) + 1) = hi by omega, Int.add_comm]
  | m + 1 => by
    show TZ A ar (f (hi + 1 - (((m + 1 : Nat) : Int) + 1))) + SL A ar f (hi + 1) (m + 1) = (TZ A ar (f (hi - ((m : Int) + 1))) + SL A ar f hi m) + TZ A ar (f hi)
    rw [SL_push m, show hi + 1 - (((m + 1 : Nat) : Int) + 1) = hi - ((m : Int) + 1) by omega]
    omega
theorem SL_up {A A1 : Nat → Int → Int} {ar : Int → Int} {f g : Int → Int} {hi : Int} {m : Nat} (h : ∀ q : Int, hi - m ≤ q → q < hi → TZ A1 ar (g q) = TZ A ar (f q)) : SL A1 ar g (hi + 1) (m + 1) = SL A ar f hi m + TZ A1 ar (g hi) := by
  rw [SL_push m, SL_congr m h]
def FRN (I : Nat → Int) (A : Nat → Int → Int) : Prop := ∃ m : Nat, isL A ((I 56 - A 31 (I 54 - 1)).toNat + m) (A 2 (A 29 (I 54 - 1))) ∧ rt A (I 56 - A 31 (I 54 - 1)).toNat (A 2 (A 29 (I 54 - 1))) = A 30 (I 54 - 1) ∧ ∀ j : Nat, j < (I 56 - A 31 (I 54 - 1)).toNat → NFT A (A 1 (rt A j (A 2 (A 29 (I 54 - 1))))) (A 32 (A 31 (I 54 - 1) + j))
theorem rt_suc {A : Nat → Int → Int} : ∀ {n : Nat} {k : Int}, rt A (n + 1) k = A 2 (rt A n k)
  | 0, _ => rfl
  | n + 1, k => rt_suc (n := n) (k := A 2 k)
theorem BX_w2a {F G : Nat → Prop} {I I1 : Nat → Int} {A A1 : Nat → Int → Int} {N N1 : Int → Int} {x : Int} (h : BX F G (su I 54 x) A N I1 A1 N1) : BX (fun _ => True) (fun _ => True) I A N I1 A1 N1 := ⟨h.1, h.2.1, h.2.2.1, fun _ _ q => absurd trivial q, fun _ _ _ _ _ _ _ q => absurd trivial q⟩
theorem VD_12 {A A1 : Nat → Int → Int} (h1 : A1 1 = A 1) (h2 : A1 2 = A 2) : VD A1 = VD A := by
  funext k
  unfold VD
  rw [wv_12 h1 h2]
def FRT (ar : Int → Int) (I : Nat → Int) (A : Nat → Int → Int) : Prop := (0 ≤ A 29 (I 54 - 1) ∧ A 29 (I 54 - 1) < I 7) ∧ (0 ≤ A 1 (A 29 (I 54 - 1)) ∧ A 1 (A 29 (I 54 - 1)) ≠ 2) ∧ (0 ≤ A 30 (I 54 - 1) ∧ A 30 (I 54 - 1) < I 7) ∧ (0 ≤ A 31 (I 54 - 1) ∧ A 31 (I 54 - 1) ≤ I 56) ∧ (∀ q : Int, A 31 (I 54 - 1) ≤ q → q < I 56 → (0 ≤ A 32 q ∧ A 32 q < I 7) ∧ 1 ≤ TZ A ar (A 32 q)) ∧ ∃ m : Nat, isL A m (A 30 (I 54 - 1)) ∧ (I 56 - A 31 (I 54 - 1)) + (m : Int) = ar (A 1 (A 29 (I 54 - 1)))
theorem mm_termOf_loop (z : Value) (d : Nat) (ar : Int → Int) (o base first : Int) (h R : xx_H) (N : Int → Int) (hc : 12 ≤ h.length) (Q : Option Value → xx_H → Prop) (s0 : 0 ≤ base) : ∀ (n : Nat) (I : Nat → Int) (A : Nat → Int → Int) (y6 y7 : Option Value), MST I A N → NM I A → SZI ar I A → AR ar I A → ARF ar I A → FRT ar I A → FRN I A → base < I 54 → VD A (A 30 (I 54 - 1)) ≤ n → I 54 + VD A (A 30 (I 54 - 1)) ≤ 1199 → I 56 + VD A (A 30 (I 54 - 1)) ≤ 2399 → I 7 + (2 * VD A (A 30 (I 54 - 1)) + (I 56 - A 31 (I 54 - 1)) + 1) ≤ 140000 → (∀ (I1 : Nat → Int) (A1 : Nat → Int → Int) (z6 z7 : Option Value), AT ar (I 54 - 1) (A 31 (I 54 - 1)) I A N I1 A1 → I1 54 = I 54 - 1 → I1 56 = A 31 (I 54 - 1) + 1 → (0 ≤ A1 32 (A 31 (I 54 - 1)) ∧ A1 32 (A 31 (I 54 - 1)) < I1 7) → (1 ≤ TZ A1 ar (A1 32 (A 31 (I 54 - 1))) ∧ TZ A1 ar (A1 32 (A 31 (I 54 - 1))) = 1 + SL A ar (A 32) (I 56) (I 56 - A 31 (I 54 - 1)).toNat + LSq A ar (A 30 (I 54 - 1)) ∧ 0 ≤ LSq A ar (A 30 (I 54 - 1)) ∧ NFT A1 (A 29 (I 54 - 1)) (A1 32 (A 31 (I 54 - 1)))) → I1 7 ≤ I 7 + (2 * VD A (A 30 (I 54 - 1)) - PT A (A 30 (I 54 - 1)) + (I 56 - A 31 (I 54 - 1)) + 1) → xx_go (xt_P z) (d + 7) 105 17 [some (.ref h.length), some (.int (iI o)), some (.int (iI base)), some (.int (iI first)), some (.int (iI 1)), z6, z7] [] (mh h R I1 A1 N) Q) → (∀ (I1 : Nat → Int) (A1 : Nat → Int → Int) (z6 z7 : Option Value), BX FB GT I A N I1 A1 N → SZI ar I1 A1 → (I 54 ≤ I1 54 ∧ I1 54 ≤ 1200) → I1 7 ≤ I 7 + (2 * VD A (A 30 (I 54 - 1)) - PT A (A 30 (I 54 - 1)) + (I 56 - A 31 (I 54 - 1)) + 1) → LSq A ar (A 30 (I 54 - 1)) < 0 → xx_go (xt_P z) (d + 7) 105 17 [some (.ref h.length), some (.int (iI o)), some (.int (iI base)), some (.int (iI first)), some (.int (iI 0)), z6, z7] [] (mh h R I1 A1 N) Q) → xx_go (xt_P z) (d + 7) 105 17 [some (.ref h.length), some (.int (iI o)), some (.int (iI base)), some (.int (iI first)), some (.int (iI 1)), y6, y7] [] (mh h R I A N) Q := by
  have close : ∀ (I : Nat → Int) (A : Nat → Int → Int) (y6 y7 : Option Value), MST I A N → NM I A → SZI ar I A → FRT ar I A → FRN I A → base < I 54 → I 54 ≤ 1199 → I 56 ≤ 2399 → I 7 + (I 56 - A 31 (I 54 - 1)) + 1 ≤ 140000 → A 30 (I 54 - 1) = 0 → (∀ (I1 : Nat → Int) (A1 : Nat → Int → Int) (z6 z7 : Option Value), AT ar (I 54 - 1) (A 31 (I 54 - 1)) I A N I1 A1 → I1 54 = I 54 - 1 → I1 56 = A 31 (I 54 - 1) + 1 → (0 ≤ A1 32 (A 31 (I 54 - 1)) ∧ A1 32 (A 31 (I 54 - 1)) < I1 7) → (1 ≤ TZ A1 ar (A1 32 (A 31 (I 54 - 1))) ∧ TZ A1 ar (A1 32 (A 31 (I 54 - 1))) = 1 + SL A ar (A 32) (I 56) (I 56 - A 31 (I 54 - 1)).toNat + LSq A ar (A 30 (I 54 - 1)) ∧ 0 ≤ LSq A ar (A 30 (I 54 - 1)) ∧ NFT A1 (A 29 (I 54 - 1)) (A1 32 (A 31 (I 54 - 1)))) → I1 7 ≤ I 7 + (2 * VD A (A 30 (I 54 - 1)) - PT A (A 30 (I 54 - 1)) + (I 56 - A 31 (I 54 - 1)) + 1) → xx_go (xt_P z) (d + 7) 105 17 [some (.ref h.length), some (.int (iI o)), some (.int (iI base)), some (.int (iI first)), some (.int (iI 1)), z6, z7] [] (mh h R I1 A1 N) Q) → xx_go (xt_P z) (d + 7) 105 17 [some (.ref h.length), some (.int (iI o)), some (.int (iI base)), some (.int (iI first)), some (.int (iI 1)), y6, y7] [] (mh h R I A N) Q := by
    intro I A y6 y7 hS hN hZ hF hW hb0 b1 b2 b3 e0 K
    have hP := MST_PW hS
    have p1 := hP.1
    obtain ⟨f1, f2, f3, f5, f6, m, fl, f7⟩ := id hF
    have qf := hP.2 (A 29 (I 54 - 1)) f1.1 f1.2
    have n0 : A 1 0 < 0 := by rw [hN.2 0 (by decide) (by decide)]; decide
    have n2 : A 1 2 < 0 := by rw [hN.2 2 (by decide) (by decide)]; decide
    have i0 := hS.1.1
    have vn := VD_0 hP f3.1 f3.2
    have pn := PT_b hP n0 n2 f3.1 f3.2
    have pt0 : PT A (A 30 (I 54 - 1)) = 0 := by rw [e0]; exact PT_atom n0
    have m0 : m = 0 := by
      match m, fl with
      | 0, _ => rfl
      | m + 1, fl =>
        have := fl.1
        rw [e0] at this
        omega
    subst m0
    refine go_a (pc' := 18) (ls' := [some (.ref h.length), some (.int (iI o)), some (.int (iI base)), some (.int (iI first)), some (.int (iI 1)), y6, y7]) (st' := [.ref h.length]) rfl rfl ?_
    refine go_get (v := .int (iI (I 54))) rfl mh_o rfl rfl ?_
    refine go_a (pc' := 22) (ls' := [some (.ref h.length), some (.int (iI o)), some (.int (iI base)), some (.int (iI first)), some (.int (iI 1)), y6, y7]) (st' := [.int (iI base), .int (iI (I 54))]) rfl rfl ?_
    refine mi_le (t := 147) rfl rfl (by omega) (by omega) (by omega) (by omega) (fun q => absurd q (by omega)) (fun _ => ?_)
    refine go_a (pc' := 27) (ls' := [some (.ref h.length), some (.int (iI o)), some (.int (iI base)), some (.int (iI first)), some (.int (iI 1)), y6, y7]) (st' := [.int (iI 1)]) rfl rfl ?_
    refine mi_eq0 (t := 147) rfl rfl (by omega) (by omega) (fun q => absurd q (by decide)) (fun _ => ?_)
    refine go_a (pc' := 31) (ls' := [some (.ref h.length), some (.int (iI o)), some (.int (iI base)), some (.int (iI first)), some (.int (iI 1)), y6, y7]) (st' := [.ref h.length]) rfl rfl ?_
    refine go_get (v := .int (iI (I 54))) rfl mh_o rfl rfl ?_
    refine go_a (pc' := 35) (ls' := [some (.ref h.length), some (.int (iI o)), some (.int (iI base)), some (.int (iI first)), some (.int (iI 1)), y6, y7]) (st' := [.int (iI 1), .int (iI (I 54))]) rfl rfl ?_
    refine mi_sub rfl ?_
    refine go_a (pc' := 38) (ls' := [some (.ref h.length), some (.int (iI o)), some (.int (iI base)), some (.int (iI first)), some (.int (iI 1)), some (.int (iI ((I 54) - 1))), y7]) (st' := []) rfl rfl ?_
    refine go_a (pc' := 39) (ls' := [some (.ref h.length), some (.int (iI o)), some (.int (iI base)), some (.int (iI first)), some (.int (iI 1)), some (.int (iI ((I 54) - 1))), y7]) (st' := [.ref h.length]) rfl rfl ?_
    refine go_get rfl mh_o rfl rfl ?_
    refine go_a (pc' := 44) (ls' := [some (.ref h.length), some (.int (iI o)), some (.int (iI base)), some (.int (iI first)), some (.int (iI 1)), some (.int (iI ((I 54) - 1))), y7]) (st' := [.int (iI ((I 54) - 1)), .ref (h.length + 30)]) rfl rfl ?_
    refine mi_ild rfl mh_a30 (by omega) (by omega) (by decide) ?_
    refine mi_ne0 (t := 103) rfl rfl (by omega) (by omega) (fun q => absurd e0 q) (fun _ => ?_)
    refine go_a (pc' := 49) (ls' := [some (.ref h.length), some (.int (iI o)), some (.int (iI base)), some (.int (iI first)), some (.int (iI 1)), some (.int (iI ((I 54) - 1))), y7]) (st' := [.ref h.length]) rfl rfl ?_
    refine go_a (pc' := 50) (ls' := [some (.ref h.length), some (.int (iI o)), some (.int (iI base)), some (.int (iI first)), some (.int (iI 1)), some (.int (iI ((I 54) - 1))), y7]) (st' := [.ref h.length, .ref h.length]) rfl rfl ?_
    refine go_get (v := .int (iI (I 54))) rfl mh_o rfl rfl ?_
    refine go_a (pc' := 54) (ls' := [some (.ref h.length), some (.int (iI o)), some (.int (iI base)), some (.int (iI first)), some (.int (iI 1)), some (.int (iI ((I 54) - 1))), y7]) (st' := [.int (iI 1), .int (iI (I 54)), .ref h.length]) rfl rfl ?_
    refine mi_sub rfl ?_
    refine go_put (j := 54) rfl mh_o rfl rfl (show 12 ≤ _ from hc) (show 54 < 86 by decide) rfl rfl ?_
    rw [mh_p54]
    refine go_a (pc' := 59) (ls' := [some (.ref h.length), some (.int (iI o)), some (.int (iI base)), some (.int (iI first)), some (.int (iI 1)), some (.int (iI ((I 54) - 1))), y7]) (st' := [.ref h.length]) rfl rfl ?_
    refine go_a (pc' := 60) (ls' := [some (.ref h.length), some (.int (iI o)), some (.int (iI base)), some (.int (iI first)), some (.int (iI 1)), some (.int (iI ((I 54) - 1))), y7]) (st' := [.ref h.length, .ref h.length]) rfl rfl ?_
    refine go_get rfl mh_o rfl rfl ?_
    refine go_a (pc' := 64) (ls' := [some (.ref h.length), some (.int (iI o)), some (.int (iI base)), some (.int (iI first)), some (.int (iI 1)), some (.int (iI ((I 54) - 1))), y7]) (st' := [.ref h.length, .ref (h.length + 1), .ref h.length]) rfl rfl ?_
    refine go_get rfl mh_o rfl rfl ?_
    refine go_a (pc' := 69) (ls' := [some (.ref h.length), some (.int (iI o)), some (.int (iI base)), some (.int (iI first)), some (.int (iI 1)), some (.int (iI ((I 54) - 1))), y7]) (st' := [.int (iI ((I 54) - 1)), .ref (h.length + 29), .ref (h.length + 1), .ref h.length]) rfl rfl ?_
    refine mi_ild rfl mh_a29 (by omega) (by omega) (by decide) ?_
    refine mi_ild rfl mh_a1 (by omega) (by omega) (by decide) ?_
    refine go_a (pc' := 72) (ls' := [some (.ref h.length), some (.int (iI o)), some (.int (iI base)), some (.int (iI first)), some (.int (iI 1)), some (.int (iI ((I 54) - 1))), y7]) (st' := [.ref h.length, .int (iI (A 1 (A 29 ((I 54) - 1)))), .ref h.length]) rfl rfl ?_
    refine go_get rfl mh_o rfl rfl ?_
    refine go_a (pc' := 77) (ls' := [some (.ref h.length), some (.int (iI o)), some (.int (iI base)), some (.int (iI first)), some (.int (iI 1)), some (.int (iI ((I 54) - 1))), y7]) (st' := [.int (iI ((I 54) - 1)), .ref (h.length + 31), .int (iI (A 1 (A 29 ((I 54) - 1)))), .ref h.length]) rfl rfl ?_
    refine mi_ild rfl mh_a31 (by omega) (by omega) (by decide) ?_
    refine go_v (m := 114) (as := [.ref h.length, .int (iI (A 1 (A 29 ((I 54) - 1)))), .int (iI (A 31 ((I 54) - 1)))]) (r := []) rfl rfl rfl mh_o rfl rfl (mm_callFrom z (d + 2) ar (A 1 (A 29 (I 54 - 1))) (A 31 (I 54 - 1)) h R (su I 54 (I 54 - 1)) A N hc hS hN hZ f2.1 (show A 1 (A 29 (I 54 - 1)) < I 7 by omega) f2.2 f5.1 f5.2 (show I 56 ≤ 2400 by omega) f6 (show I 56 - A 31 (I 54 - 1) = _ by omega) b3) (fun v h1 hq => ?_)
    obtain ⟨cc, I1, A1, rfl, rfl, X, Z1, c0, c1, g1, g2, g3, g9, g10⟩ := hq
    have a29 : A1 29 = A 29 := X.2.2.2.2 29 (by decide) (by decide) (by decide) (by decide) (by decide) (by decide) id
    have a30 : A1 30 = A 30 := X.2.2.2.2 30 (by decide) (by decide) (by decide) (by decide) (by decide) (by decide) id
    have a31 : A1 31 = A 31 := X.2.2.2.2 31 (by decide) (by decide) (by decide) (by decide) (by decide) (by decide) id
    have a32 : A1 32 = A 32 := X.2.2.2.2 32 (by decide) (by decide) (by decide) (by decide) (by decide) (by decide) id
    have j54 : I1 54 = I 54 - 1 := X.2.2.2.1 54 (by decide) id
    have e31 : A1 31 (I 54 - 1) = A 31 (I 54 - 1) := by rw [a31]
    show xx_go (xt_P z) (d + 7) 105 81 [some (.ref h.length), some (.int (iI o)), some (.int (iI base)), some (.int (iI first)), some (.int (iI 1)), some (.int (iI ((I 54) - 1))), y7] [.int (iI cc)] (mh h R I1 A1 N) _
    refine go_a (pc' := 83) (ls' := [some (.ref h.length), some (.int (iI o)), some (.int (iI base)), some (.int (iI first)), some (.int (iI 1)), some (.int (iI ((I 54) - 1))), some (.int (iI cc))]) (st' := []) rfl rfl ?_
    refine go_a (pc' := 84) (ls' := [some (.ref h.length), some (.int (iI o)), some (.int (iI base)), some (.int (iI first)), some (.int (iI 1)), some (.int (iI ((I 54) - 1))), some (.int (iI cc))]) (st' := [.ref h.length]) rfl rfl ?_
    refine go_a (pc' := 85) (ls' := [some (.ref h.length), some (.int (iI o)), some (.int (iI base)), some (.int (iI first)), some (.int (iI 1)), some (.int (iI ((I 54) - 1))), some (.int (iI cc))]) (st' := [.ref h.length, .ref h.length]) rfl rfl ?_
    refine go_get rfl mh_o rfl rfl ?_
    refine go_a (pc' := 90) (ls' := [some (.ref h.length), some (.int (iI o)), some (.int (iI base)), some (.int (iI first)), some (.int (iI 1)), some (.int (iI ((I 54) - 1))), some (.int (iI cc))]) (st' := [.int (iI ((I 54) - 1)), .ref (h.length + 31), .ref h.length]) rfl rfl ?_
    refine mi_ild rfl mh_a31 (by omega) (by omega) (by decide) ?_
    refine go_put (j := 56) rfl mh_o rfl rfl (show 12 ≤ _ from hc) (show 56 < 86 by decide) rfl rfl ?_
    rw [mh_p56]
    refine go_a (pc' := 95) (ls' := [some (.ref h.length), some (.int (iI o)), some (.int (iI base)), some (.int (iI first)), some (.int (iI 1)), some (.int (iI ((I 54) - 1))), some (.int (iI cc))]) (st' := [.ref h.length]) rfl rfl ?_
    refine go_a (pc' := 97) (ls' := [some (.ref h.length), some (.int (iI o)), some (.int (iI base)), some (.int (iI first)), some (.int (iI 1)), some (.int (iI ((I 54) - 1))), some (.int (iI cc))]) (st' := [.int (iI cc), .ref h.length]) rfl rfl ?_
    refine go_v (m := 107) (as := [.ref h.length, .int (iI cc)]) (r := []) rfl rfl rfl mh_o rfl rfl (mm_build z (d + 6) cc h R (su I1 56 (A1 31 (I 54 - 1))) A1 N hc (show 0 ≤ A1 31 (I 54 - 1) by omega) (show A1 31 (I 54 - 1) < 2400 by omega)) (fun v h1 hq => ?_)
    obtain ⟨rfl, hq⟩ := hq
    rw [show su I1 56 (A1 31 (I 54 - 1)) 56 = A1 31 (I 54 - 1) from rfl, su_su, e31] at hq
    subst hq
    show xx_go (xt_P z) (d + 7) 105 100 [some (.ref h.length), some (.int (iI o)), some (.int (iI base)), some (.int (iI first)), some (.int (iI 1)), some (.int (iI ((I 54) - 1))), some (.int (iI cc))] [] (mh h R (su I1 56 (A 31 (I 54 - 1) + 1)) (sa A1 32 (A 31 (I 54 - 1)) cc) N) _
    refine go_a (pc' := 144) (ls' := [some (.ref h.length), some (.int (iI o)), some (.int (iI base)), some (.int (iI first)), some (.int (iI 1)), some (.int (iI ((I 54) - 1))), some (.int (iI cc))]) (st' := []) rfl rfl ?_
    refine go_a (pc' := 17) (ls' := [some (.ref h.length), some (.int (iI o)), some (.int (iI base)), some (.int (iI first)), some (.int (iI 1)), some (.int (iI ((I 54) - 1))), some (.int (iI cc))]) (st' := []) rfl rfl ?_
    have tz := TZ_124 (A := A1) (A1 := sa A1 32 (A 31 (I 54 - 1)) cc) (ar := ar) rfl rfl rfl
    have X4 : AT ar (I 54 - 1) (A 31 (I 54 - 1)) I A N (su I1 56 (A 31 (I 54 - 1) + 1)) (sa A1 32 (A 31 (I 54 - 1)) cc) := by
      refine ⟨⟨X.1, X.2.1, X.2.2.1, fun j p q => ?_, fun a q1 q2 q3 q4 q5 q6 q7 => ?_⟩, ?_, fun q q0 q1 => ⟨?_, ?_, ?_⟩, fun q q0 q1 => ?_⟩
      · rw [su_ne (fun e => q (Or.inr e))]
        exact (X.2.2.2.1 j p id).trans (su_ne (fun e => q (Or.inl e)))
      · rw [sa_ne (fun e => q7 (by unfold GT; omega))]
        exact X.2.2.2.2 a q1 q2 q3 q4 q5 q6 id
      · exact SZI_124 Z1 rfl rfl rfl rfl
      · show A1 29 q = A 29 q
        rw [a29]
      · show A1 30 q = A 30 q
        rw [a30]
      · show A1 31 q = A 31 q
        rw [a31]
      · show sf (A1 32) (A 31 (I 54 - 1)) cc q = A 32 q
        rw [sf_ne (by omega), a32]
    have nfc : NFT A1 (A 29 (I 54 - 1)) cc := by
      obtain ⟨m9, wl, wr, wn⟩ := hW
      have Px := MST_PW X.1
      have hx : ∀ k : Int, 0 ≤ k → k < I 7 → A1 1 k = A 1 k ∧ A1 2 k = A 2 k := fun k a b => ⟨(X.2.2.1 k a b).1, (X.2.2.1 k a b).2.1⟩
      have x7 : I 7 ≤ I1 7 := X.2.1
      have wz := isL_split _ _ _ wl
      rw [wr, e0] at wz
      have m0 : m9 = 0 := isL_uq n0 m9 0 0 wz rfl
      rw [m0, Nat.add_zero] at wl
      have ec := hx (A 29 (I 54 - 1)) f1.1 f1.2
      have q2 := qf.2.2.2.2 f2.1
      refine (NFT_call Px f1.1 (by omega) (by rw [ec.1]; exact f2.1) (by rw [ec.1]; exact f2.2)).mpr ⟨by rw [g1, ec.1], ?_⟩
      have i1 := isL_extB hP (BX_w2a X) _ (A 2 (A 29 (I 54 - 1))) qf.2.2.1 (by omega) wl
      have n1 : A1 1 0 < 0 := by rw [(hx 0 (by decide) (by omega)).1]; exact n0
      rw [ec.2]
      refine NF_list Px n1 (I 56 - A 31 (I 54 - 1)).toNat _ _ qf.2.2.1 (by omega) i1 g10.1 (fun j hj => ?_)
      have rj := isL_rt hP _ j (A 2 (A 29 (I 54 - 1))) qf.2.2.1 (by omega) wl hj
      have qj := hP.2 _ rj.1 (by omega : rt A j (A 2 (A 29 (I 54 - 1))) < I 7)
      have bj := f6 (A 31 (I 54 - 1) + j) (by omega) (by omega)
      rw [g10.2 j hj, rt_extB hP (BX_w2a X) _ j (A 2 (A 29 (I 54 - 1))) qf.2.2.1 (by omega) wl (by omega), (hx _ rj.1 (by omega)).1]
      exact (NF_ext hP Px x7 hx _ _ _ (Nat.lt_succ_self _) rj.2.2 (by omega) bj.1.1 bj.1.2).1 (wn j hj)
    have v : sa A1 32 (A 31 (I 54 - 1)) cc 32 (A 31 (I 54 - 1)) = cc := sf_self
    have g3 : I1 7 ≤ I 7 + (I 56 - A 31 (I 54 - 1)) + 1 := g3
    refine K _ _ _ _ X4 j54 rfl (by rw [v]; exact ⟨c0, c1⟩) (by rw [v, tz.1]; have g9 : TZ A1 ar cc = 1 + SL A ar (A 32) (I 56) (I 56 - A 31 (I 54 - 1)).toNat := g9; rw [e0, LS_0, NFT_12 (A := A1) (A1 := sa A1 32 (A 31 (I 54 - 1)) cc) rfl rfl]; exact ⟨g2, by omega, Int.le_refl _, nfc⟩) (show I1 7 ≤ _ by omega)
  intro n
  induction n with
  | zero =>
    intro I A y6 y7 hS hN hZ hA hQ hF hW hb0 hn b1 b2 b3 K KB
    have hP := MST_PW hS
    have p1 := hP.1
    obtain ⟨f1, f2, f3, f5, f6, m, fl, f7⟩ := id hF
    have qf := hP.2 (A 29 (I 54 - 1)) f1.1 f1.2
    have n0 : A 1 0 < 0 := by rw [hN.2 0 (by decide) (by decide)]; decide
    have n2 : A 1 2 < 0 := by rw [hN.2 2 (by decide) (by decide)]; decide
    have i0 := hS.1.1
    have vn := VD_0 hP f3.1 f3.2
    have pn := PT_b hP n0 n2 f3.1 f3.2
    have e0 : A 30 (I 54 - 1) = 0 ∨ (A 30 (I 54 - 1) ≠ 0 ∧ 0 ≤ A 1 (A 30 (I 54 - 1)) ∧ ∃ m2 : Nat, m = m2 + 1 ∧ isL A m2 (A 2 (A 30 (I 54 - 1)))) := by
      match m, fl with
      | 0, fl => exact Or.inl fl
      | m2 + 1, fl =>
        refine Or.inr ⟨fun e => ?_, fl.1, m2, rfl, fl.2⟩
        have := fl.1
        rw [e] at this
        omega
    rcases e0 with e0 | ⟨e0, pr, m2, em, fl2⟩
    · exact close I A y6 y7 hS hN hZ hF hW hb0 (by omega) (by omega) (by omega) e0 K
    · have vp := VD_pair hP f3.1 f3.2 pr
      have qr := hP.2 (A 30 (I 54 - 1)) f3.1 f3.2
      have qs := qr.2.2.2.2 pr
      have w1 := WD_1 hP pr (by omega : A 1 (A 30 (I 54 - 1)) < I 7)
      have v1 := VD_0 hP qr.2.2.1 (by omega : A 2 (A 30 (I 54 - 1)) < I 7)
      omega
  | succ n ih =>
    intro I A y6 y7 hS hN hZ hA hQ hF hW hb0 hn b1 b2 b3 K KB
    have hP := MST_PW hS
    have p1 := hP.1
    obtain ⟨f1, f2, f3, f5, f6, m, fl, f7⟩ := id hF
    have qf := hP.2 (A 29 (I 54 - 1)) f1.1 f1.2
    have n0 : A 1 0 < 0 := by rw [hN.2 0 (by decide) (by decide)]; decide
    have n2 : A 1 2 < 0 := by rw [hN.2 2 (by decide) (by decide)]; decide
    have i0 := hS.1.1
    have vn := VD_0 hP f3.1 f3.2
    have pn := PT_b hP n0 n2 f3.1 f3.2
    have e0 : A 30 (I 54 - 1) = 0 ∨ (A 30 (I 54 - 1) ≠ 0 ∧ 0 ≤ A 1 (A 30 (I 54 - 1)) ∧ ∃ m2 : Nat, m = m2 + 1 ∧ isL A m2 (A 2 (A 30 (I 54 - 1)))) := by
      match m, fl with
      | 0, fl => exact Or.inl fl
      | m2 + 1, fl =>
        refine Or.inr ⟨fun e => ?_, fl.1, m2, rfl, fl.2⟩
        have := fl.1
        rw [e] at this
        omega
    rcases e0 with e0 | ⟨e0, pr, m2, em, fl2⟩
    · exact close I A y6 y7 hS hN hZ hF hW hb0 (by omega) (by omega) (by omega) e0 K
    have vp := VD_pair hP f3.1 f3.2 pr
    have qr := hP.2 (A 30 (I 54 - 1)) f3.1 f3.2
    have qs := qr.2.2.2.2 pr
    have ra : A 1 (A 30 (I 54 - 1)) < I 7 := by omega
    have w1 := WD_1 hP pr ra
    have v1 := VD_0 hP qr.2.2.1 (by omega : A 2 (A 30 (I 54 - 1)) < I 7)
    have pp := PT_pair hP f3.1 f3.2 pr
    have pl := PT_b hP n0 n2 pr ra
    have pm := PT_b hP n0 n2 qr.2.2.1 (by omega : A 2 (A 30 (I 54 - 1)) < I 7)
    refine go_a (pc' := 18) (ls' := [some (.ref h.length), some (.int (iI o)), some (.int (iI base)), some (.int (iI first)), some (.int (iI 1)), y6, y7]) (st' := [.ref h.length]) rfl rfl ?_
    refine go_get (v := .int (iI (I 54))) rfl mh_o rfl rfl ?_
    refine go_a (pc' := 22) (ls' := [some (.ref h.length), some (.int (iI o)), some (.int (iI base)), some (.int (iI first)), some (.int (iI 1)), y6, y7]) (st' := [.int (iI base), .int (iI (I 54))]) rfl rfl ?_
    refine mi_le (t := 147) rfl rfl (by omega) (by omega) (by omega) (by omega) (fun q => absurd q (by omega)) (fun _ => ?_)
    refine go_a (pc' := 27) (ls' := [some (.ref h.length), some (.int (iI o)), some (.int (iI base)), some (.int (iI first)), some (.int (iI 1)), y6, y7]) (st' := [.int (iI 1)]) rfl rfl ?_
    refine mi_eq0 (t := 147) rfl rfl (by omega) (by omega) (fun q => absurd q (by decide)) (fun _ => ?_)
    refine go_a (pc' := 31) (ls' := [some (.ref h.length), some (.int (iI o)), some (.int (iI base)), some (.int (iI first)), some (.int (iI 1)), y6, y7]) (st' := [.ref h.length]) rfl rfl ?_
    refine go_get (v := .int (iI (I 54))) rfl mh_o rfl rfl ?_
    refine go_a (pc' := 35) (ls' := [some (.ref h.length), some (.int (iI o)), some (.int (iI base)), some (.int (iI first)), some (.int (iI 1)), y6, y7]) (st' := [.int (iI 1), .int (iI (I 54))]) rfl rfl ?_
    refine mi_sub rfl ?_
    refine go_a (pc' := 38) (ls' := [some (.ref h.length), some (.int (iI o)), some (.int (iI base)), some (.int (iI first)), some (.int (iI 1)), some (.int (iI ((I 54) - 1))), y7]) (st' := []) rfl rfl ?_
    refine go_a (pc' := 39) (ls' := [some (.ref h.length), some (.int (iI o)), some (.int (iI base)), some (.int (iI first)), some (.int (iI 1)), some (.int (iI ((I 54) - 1))), y7]) (st' := [.ref h.length]) rfl rfl ?_
    refine go_get rfl mh_o rfl rfl ?_
    refine go_a (pc' := 44) (ls' := [some (.ref h.length), some (.int (iI o)), some (.int (iI base)), some (.int (iI first)), some (.int (iI 1)), some (.int (iI ((I 54) - 1))), y7]) (st' := [.int (iI ((I 54) - 1)), .ref (h.length + 30)]) rfl rfl ?_
    refine mi_ild rfl mh_a30 (by omega) (by omega) (by decide) ?_
    refine mi_ne0 (t := 103) rfl rfl (by omega) (by omega) (fun _ => ?_) (fun q => absurd (show ¬ A 30 (I 54 - 1) = 0 from e0) q)
    refine go_a (pc' := 104) (ls' := [some (.ref h.length), some (.int (iI o)), some (.int (iI base)), some (.int (iI first)), some (.int (iI 1)), some (.int (iI ((I 54) - 1))), y7]) (st' := [.ref h.length]) rfl rfl ?_
    refine go_get rfl mh_o rfl rfl ?_
    refine go_a (pc' := 108) (ls' := [some (.ref h.length), some (.int (iI o)), some (.int (iI base)), some (.int (iI first)), some (.int (iI 1)), some (.int (iI ((I 54) - 1))), y7]) (st' := [.ref h.length, .ref (h.length + 1)]) rfl rfl ?_
    refine go_get rfl mh_o rfl rfl ?_
    refine go_a (pc' := 113) (ls' := [some (.ref h.length), some (.int (iI o)), some (.int (iI base)), some (.int (iI first)), some (.int (iI 1)), some (.int (iI ((I 54) - 1))), y7]) (st' := [.int (iI ((I 54) - 1)), .ref (h.length + 30), .ref (h.length + 1)]) rfl rfl ?_
    refine mi_ild rfl mh_a30 (by omega) (by omega) (by decide) ?_
    refine mi_ild rfl mh_a1 (by omega) (by omega) (by decide) ?_
    refine go_a (pc' := 117) (ls' := [some (.ref h.length), some (.int (iI o)), some (.int (iI base)), some (.int (iI first)), some (.int (iI 1)), some (.int (iI ((I 54) - 1))), some (.int (iI (A 1 (A 30 ((I 54) - 1)))))]) (st' := []) rfl rfl ?_
    refine go_a (pc' := 118) (ls' := [some (.ref h.length), some (.int (iI o)), some (.int (iI base)), some (.int (iI first)), some (.int (iI 1)), some (.int (iI ((I 54) - 1))), some (.int (iI (A 1 (A 30 ((I 54) - 1)))))]) (st' := [.ref h.length]) rfl rfl ?_
    refine go_get rfl mh_o rfl rfl ?_
    refine go_a (pc' := 123) (ls' := [some (.ref h.length), some (.int (iI o)), some (.int (iI base)), some (.int (iI first)), some (.int (iI 1)), some (.int (iI ((I 54) - 1))), some (.int (iI (A 1 (A 30 ((I 54) - 1)))))]) (st' := [.int (iI ((I 54) - 1)), .ref (h.length + 30)]) rfl rfl ?_
    refine go_a (pc' := 124) (ls' := [some (.ref h.length), some (.int (iI o)), some (.int (iI base)), some (.int (iI first)), some (.int (iI 1)), some (.int (iI ((I 54) - 1))), some (.int (iI (A 1 (A 30 ((I 54) - 1)))))]) (st' := [.ref h.length, .int (iI ((I 54) - 1)), .ref (h.length + 30)]) rfl rfl ?_
    refine go_get rfl mh_o rfl rfl ?_
    refine go_a (pc' := 128) (ls' := [some (.ref h.length), some (.int (iI o)), some (.int (iI base)), some (.int (iI first)), some (.int (iI 1)), some (.int (iI ((I 54) - 1))), some (.int (iI (A 1 (A 30 ((I 54) - 1)))))]) (st' := [.ref h.length, .ref (h.length + 2), .int (iI ((I 54) - 1)), .ref (h.length + 30)]) rfl rfl ?_
    refine go_get rfl mh_o rfl rfl ?_
    refine go_a (pc' := 133) (ls' := [some (.ref h.length), some (.int (iI o)), some (.int (iI base)), some (.int (iI first)), some (.int (iI 1)), some (.int (iI ((I 54) - 1))), some (.int (iI (A 1 (A 30 ((I 54) - 1)))))]) (st' := [.int (iI ((I 54) - 1)), .ref (h.length + 30), .ref (h.length + 2), .int (iI ((I 54) - 1)), .ref (h.length + 30)]) rfl rfl ?_
    refine mi_ild rfl mh_a30 (by omega) (by omega) (by decide) ?_
    refine mi_ild rfl mh_a2 (by omega) (by omega) (by decide) ?_
    refine mi_ist rfl mh_a30 (show 12 ≤ _ by omega) (by omega) (by omega) (by decide) ?_
    rw [mh_w30 (by omega)]
    refine go_a (pc' := 137) (ls' := [some (.ref h.length), some (.int (iI o)), some (.int (iI base)), some (.int (iI first)), some (.int (iI 1)), some (.int (iI ((I 54) - 1))), some (.int (iI (A 1 (A 30 ((I 54) - 1)))))]) (st' := [.ref h.length]) rfl rfl ?_
    refine go_a (pc' := 139) (ls' := [some (.ref h.length), some (.int (iI o)), some (.int (iI base)), some (.int (iI first)), some (.int (iI 1)), some (.int (iI ((I 54) - 1))), some (.int (iI (A 1 (A 30 ((I 54) - 1)))))]) (st' := [.int (iI (A 1 (A 30 ((I 54) - 1)))), .ref h.length]) rfl rfl ?_
    have tz2 := TZ_124 (A := A) (A1 := (sa A 30 (I 54 - 1) (A 2 (A 30 (I 54 - 1))))) (ar := ar) rfl rfl rfl
    have wd2 : WD (sa A 30 (I 54 - 1) (A 2 (A 30 (I 54 - 1)))) = WD A := WD_12 rfl rfl
    have S2 : MST I (sa A 30 (I 54 - 1) (A 2 (A 30 (I 54 - 1)))) N := hS
    have Z2 : SZI ar I (sa A 30 (I 54 - 1) (A 2 (A 30 (I 54 - 1)))) := by
      exact SZI_124 hZ rfl rfl rfl rfl
    refine go_v (m := 106) (as := [.ref h.length, .int (iI (A 1 (A 30 ((I 54) - 1))))]) (r := []) rfl rfl rfl mh_o rfl rfl (mm_beginTerm z (d + 1) ar (A 1 (A 30 (I 54 - 1))) h R I (sa A 30 (I 54 - 1) (A 2 (A 30 (I 54 - 1)))) N hc S2 hN Z2 hA hQ (by omega) pr ra (by omega) (by omega) (by omega) (by omega)) (fun v h1 hq => ?_)
    rcases hq with ⟨rfl, rfl, ts0⟩ | ⟨rfl, t, I1, A1, rfl, X, Z1, t0, t1, x10, x7, ts1, nf1⟩ | ⟨rfl, rfl, cl, m3, fl3, em3⟩
    · show xx_go (xt_P z) (d + 7) 105 142 [some (.ref h.length), some (.int (iI o)), some (.int (iI base)), some (.int (iI first)), some (.int (iI 1)), some (.int (iI ((I 54) - 1))), some (.int (iI (A 1 (A 30 ((I 54) - 1)))))] [.int (iI 0)] (mh h R I ((sa A 30 (I 54 - 1) (A 2 (A 30 (I 54 - 1))))) N) _
      refine go_a (pc' := 144) (ls' := [some (.ref h.length), some (.int (iI o)), some (.int (iI base)), some (.int (iI first)), some (.int (iI 0)), some (.int (iI ((I 54) - 1))), some (.int (iI (A 1 (A 30 ((I 54) - 1)))))]) (st' := []) rfl rfl ?_
      refine go_a (pc' := 17) (ls' := [some (.ref h.length), some (.int (iI o)), some (.int (iI base)), some (.int (iI first)), some (.int (iI 0)), some (.int (iI ((I 54) - 1))), some (.int (iI (A 1 (A 30 ((I 54) - 1)))))]) (st' := []) rfl rfl ?_
      rw [(TS_12 (A := A) (A1 := (sa A 30 (I 54 - 1) (A 2 (A 30 (I 54 - 1))))) (ar := ar) rfl rfl).1] at ts0
      exact KB I (sa A 30 (I 54 - 1) (A 2 (A 30 (I 54 - 1)))) _ _ (⟨hS, Int.le_refl _, fun k _ _ => ⟨rfl, rfl, rfl, id⟩, fun _ _ _ => rfl, fun a q1 q2 q3 q4 q5 q6 q7 => sa_ne (fun e => q7 (by unfold GT; omega))⟩ : BX FB GT I A N I (sa A 30 (I 54 - 1) (A 2 (A 30 (I 54 - 1)))) N) Z2 ⟨Int.le_refl _, by omega⟩ (by omega) (by rw [LS_pair (ar := ar) hP (by omega : 0 < A 30 (I 54 - 1)) f3.2 pr, if_neg (fun q => by omega)]; decide)
    · show xx_go (xt_P z) (d + 7) 105 142 [some (.ref h.length), some (.int (iI o)), some (.int (iI base)), some (.int (iI first)), some (.int (iI 1)), some (.int (iI ((I 54) - 1))), some (.int (iI (A 1 (A 30 ((I 54) - 1)))))] [.int (iI 1)] (mh h R ((su I1 56 (I 56 + 1))) ((sa A1 32 (I 56) t)) N) _
      refine go_a (pc' := 144) (ls' := [some (.ref h.length), some (.int (iI o)), some (.int (iI base)), some (.int (iI first)), some (.int (iI 1)), some (.int (iI ((I 54) - 1))), some (.int (iI (A 1 (A 30 ((I 54) - 1)))))]) (st' := []) rfl rfl ?_
      refine go_a (pc' := 17) (ls' := [some (.ref h.length), some (.int (iI o)), some (.int (iI base)), some (.int (iI first)), some (.int (iI 1)), some (.int (iI ((I 54) - 1))), some (.int (iI (A 1 (A 30 ((I 54) - 1)))))]) (st' := []) rfl rfl ?_
      rw [(TS_12 (A := A) (A1 := (sa A 30 (I 54 - 1) (A 2 (A 30 (I 54 - 1))))) (ar := ar) rfl rfl).1] at ts1
      have lsp := LS_pair (ar := ar) hP (by omega : 0 < A 30 (I 54 - 1)) f3.2 pr
      have tz3 := TZ_124 (A := A1) (A1 := (sa A1 32 (I 56) t)) (ar := ar) rfl rfl rfl
      have P1 := MST_PW X.1
      have y2 : I 7 ≤ I1 7 := X.2.1
      have j54 : I1 54 = I 54 := X.2.2.2.1 54 (by decide) (by decide)
      have j56 : I1 56 = I 56 := X.2.2.2.1 56 (by decide) (by decide)
      have a29 : A1 29 = (sa A 30 (I 54 - 1) (A 2 (A 30 (I 54 - 1)))) 29 := X.2.2.2.2.1 29 (by decide) (by decide) (by decide) (by decide) (by decide) (by decide) (by decide) (by decide)
      have a30 : A1 30 = (sa A 30 (I 54 - 1) (A 2 (A 30 (I 54 - 1)))) 30 := X.2.2.2.2.1 30 (by decide) (by decide) (by decide) (by decide) (by decide) (by decide) (by decide) (by decide)
      have a31 : A1 31 = (sa A 30 (I 54 - 1) (A 2 (A 30 (I 54 - 1)))) 31 := X.2.2.2.2.1 31 (by decide) (by decide) (by decide) (by decide) (by decide) (by decide) (by decide) (by decide)
      have a32 : A1 32 = (sa A 30 (I 54 - 1) (A 2 (A 30 (I 54 - 1)))) 32 := X.2.2.2.2.1 32 (by decide) (by decide) (by decide) (by decide) (by decide) (by decide) (by decide) (by decide)
      have BX3 : BX FB GT I A N (su I1 56 (I 56 + 1)) (sa A1 32 (I 56) t) N := ⟨X.1, X.2.1, fun k q0 q1 => ⟨(X.2.2.1 k q0 q1).1, (X.2.2.1 k q0 q1).2.1, rfl, fun e => by
        have e4 : A1 4 k = A 4 k := (X.2.2.1 k q0 q1).2.2.2
        show A1 4 k ≠ 0
        rw [e4]
        exact e⟩, fun j p q => by
        rw [su_ne (fun e => q (Or.inr e))]
        by_cases e : j = 10
        · rw [e]
          exact x10.1
        · exact X.2.2.2.1 j p e, fun a q1 q2 q3 q4 q5 q6 q7 => by
        rw [sa_ne (fun e => q7 (by unfold GT; omega))]
        exact (EX_89 X x10.2.1 x10.2.2 q1 q2 q3 q4 q5 q6).trans (sa_ne (fun e => q7 (by unfold GT; omega)))⟩
      have Z3 : SZI ar (su I1 56 (I 56 + 1)) (sa A1 32 (I 56) t) := by
        exact SZI_124 Z1 rfl rfl rfl rfl
      have k29 : A1 29 (I 54 - 1) = A 29 (I 54 - 1) := by rw [a29]; rfl
      have k30 : A1 30 (I 54 - 1) = A 2 (A 30 (I 54 - 1)) := by rw [a30]; exact sf_self
      have k31 : A1 31 (I 54 - 1) = A 31 (I 54 - 1) := by rw [a31]; rfl
      have X3 : AT ar (I 54 - 1) (A 31 (I 54 - 1)) I A N (su I1 56 (I 56 + 1)) (sa A1 32 (I 56) t) := by
        refine ⟨BX3, Z3, fun q q0 q1 => ⟨?_, ?_, ?_⟩, fun q q0 q1 => ?_⟩
        · show A1 29 q = A 29 q
          rw [a29]
          rfl
        · show A1 30 q = A 30 q
          rw [a30]
          show sf (A 30) (I 54 - 1) _ q = A 30 q
          rw [sf_ne (by omega)]
        · show A1 31 q = A 31 q
          rw [a31]
          rfl
        · show sf (A1 32) (I 56) t q = A 32 q
          rw [sf_ne (by omega), a32]
          rfl
      have o1 := (BX3.2.2.1 (A 29 (I 54 - 1)) f1.1 f1.2).1
      have lx := isL_ext hP (fun k a b => ⟨(BX3.2.2.1 k a b).1, (BX3.2.2.1 k a b).2.1⟩) m2 _ qr.2.2.1 (by omega) fl2
      have vx := (WD_ext hP (fun k a b => ⟨(BX3.2.2.1 k a b).1, (BX3.2.2.1 k a b).2.1⟩) (A 2 (A 30 (I 54 - 1))) qr.2.2.1 (by omega)).2
      have px := PT_ext hP (fun k a b => ⟨(BX3.2.2.1 k a b).1, (BX3.2.2.1 k a b).2.1⟩) (A 2 (A 30 (I 54 - 1))) qr.2.2.1 (by omega)
      have F3 : FRT ar (su I1 56 (I 56 + 1)) (sa A1 32 (I 56) t) := by
        show (0 ≤ A1 29 (I1 54 - 1) ∧ A1 29 (I1 54 - 1) < I1 7) ∧ (0 ≤ A1 1 (A1 29 (I1 54 - 1)) ∧ A1 1 (A1 29 (I1 54 - 1)) ≠ 2) ∧ (0 ≤ A1 30 (I1 54 - 1) ∧ A1 30 (I1 54 - 1) < I1 7) ∧ (0 ≤ A1 31 (I1 54 - 1) ∧ A1 31 (I1 54 - 1) ≤ I 56 + 1) ∧ (∀ q : Int, A1 31 (I1 54 - 1) ≤ q → q < I 56 + 1 → (0 ≤ sf (A1 32) (I 56) t q ∧ sf (A1 32) (I 56) t q < I1 7) ∧ 1 ≤ TZ (sa A1 32 (I 56) t) ar (sf (A1 32) (I 56) t q)) ∧ ∃ m : Nat, isL (sa A1 32 (I 56) t) m (A1 30 (I1 54 - 1)) ∧ (I 56 + 1 - A1 31 (I1 54 - 1)) + (m : Int) = ar (A1 1 (A1 29 (I1 54 - 1)))
        have o1 : A1 1 (A 29 (I 54 - 1)) = A 1 (A 29 (I 54 - 1)) := o1
        rw [j54, k29, k30, k31, o1, tz3.1]
        refine ⟨⟨f1.1, by omega⟩, f2, ⟨by omega, by omega⟩, ⟨f5.1, by omega⟩, fun q q0 q1 => ?_, m2, lx, by omega⟩
        by_cases e : q = I 56
        · rw [e, sf_self]
          exact ⟨t0, by omega⟩
        · have b := f6 q q0 (by omega)
          have e32 : A1 32 q = A 32 q := by rw [a32]; rfl
          have tb := (TZ_BX (ar := ar) hP BX3 b.1.1 b.1.2).1 b.2
          rw [tz3.1] at tb
          rw [sf_ne e, e32, tb]
          exact ⟨⟨b.1.1, by omega⟩, b.2⟩
      have P3 : PT (sa A1 32 (I 56) t) ((sa A1 32 (I 56) t) 30 ((su I1 56 (I 56 + 1)) 54 - 1)) = PT A (A 2 (A 30 (I 54 - 1))) := by
        show PT (sa A1 32 (I 56) t) (A1 30 (I1 54 - 1)) = _
        rw [j54, k30]
        exact px
      have V3 : VD (sa A1 32 (I 56) t) ((sa A1 32 (I 56) t) 30 ((su I1 56 (I 56 + 1)) 54 - 1)) = VD A (A 2 (A 30 (I 54 - 1))) := by
        show VD (sa A1 32 (I 56) t) (A1 30 (I1 54 - 1)) = _
        rw [j54, k30]
        exact vx
      have D3 : (sa A1 32 (I 56) t) 31 ((su I1 56 (I 56 + 1)) 54 - 1) = A 31 (I 54 - 1) := by
        show A1 31 (I1 54 - 1) = _
        rw [j54, k31]
      have tsx := (TS_ext (ar := ar) hP (fun k a b => ⟨(BX3.2.2.1 k a b).1, (BX3.2.2.1 k a b).2.1⟩) (fun k a b => (TZ_BX (ar := ar) hP BX3 a b).2.2) qr.2.2.1 (by omega : A 2 (A 30 (I 54 - 1)) < I 7)).2
      have LS3 : LSq (sa A1 32 (I 56) t) ar ((sa A1 32 (I 56) t) 30 ((su I1 56 (I 56 + 1)) 54 - 1)) = LSq A ar (A 2 (A 30 (I 54 - 1))) := by
        show LSq (sa A1 32 (I 56) t) ar (A1 30 (I1 54 - 1)) = _
        rw [j54, k30]
        exact tsx
      have hQ3 : ARF ar (su I1 56 (I 56 + 1)) (sa A1 32 (I 56) t) := ARF_BX hQ BX3 (by unfold FB; omega) (by unfold FB; omega) (by unfold GT; omega)
      have hA3 : AR ar (su I1 56 (I 56 + 1)) (sa A1 32 (I 56) t) := AR_BX hA BX3 (by unfold FB; omega) (by unfold FB; omega) (by unfold FB; omega) (by unfold GT; omega) (by unfold GT; omega)
      have N3 := NM_BX hN BX3
      have W3 : FRN (su I1 56 (I 56 + 1)) (sa A1 32 (I 56) t) := by
        obtain ⟨m9, wl, wr, wn⟩ := id hW
        have wz := isL_split _ _ _ wl
        rw [wr] at wz
        obtain ⟨m8, em8⟩ : ∃ m8, m9 = m8 + 1 := by
          match m9, wz with
          | 0, wz => exact absurd wz e0
          | m8 + 1, _ => exact ⟨m8, rfl⟩
        have q2 := qf.2.2.2.2 f2.1
        have ec := BX3.2.2.1 (A 29 (I 54 - 1)) f1.1 f1.2
        have P3 := MST_PW BX3.1
        have hx : ∀ k : Int, 0 ≤ k → k < I 7 → (sa A1 32 (I 56) t) 1 k = A 1 k ∧ (sa A1 32 (I 56) t) 2 k = A 2 k := fun k a b => ⟨(BX3.2.2.1 k a b).1, (BX3.2.2.1 k a b).2.1⟩
        have b31 : (sa A1 32 (I 56) t) 31 ((su I1 56 (I 56 + 1)) 54 - 1) = A 31 (I 54 - 1) := by
          show A1 31 (I1 54 - 1) = _
          rw [j54, k31]
        have b29 : (sa A1 32 (I 56) t) 29 ((su I1 56 (I 56 + 1)) 54 - 1) = A 29 (I 54 - 1) := by
          show A1 29 (I1 54 - 1) = _
          rw [j54, k29]
        have b30 : (sa A1 32 (I 56) t) 30 ((su I1 56 (I 56 + 1)) 54 - 1) = A 2 (A 30 (I 54 - 1)) := by
          show A1 30 (I1 54 - 1) = _
          rw [j54, k30]
        unfold FRN
        rw [b31, b29, b30]
        show ∃ m : Nat, isL (sa A1 32 (I 56) t) ((I 56 + 1 - A 31 (I 54 - 1)).toNat + m) ((sa A1 32 (I 56) t) 2 (A 29 (I 54 - 1))) ∧ rt (sa A1 32 (I 56) t) (I 56 + 1 - A 31 (I 54 - 1)).toNat ((sa A1 32 (I 56) t) 2 (A 29 (I 54 - 1))) = _ ∧ ∀ j : Nat, j < (I 56 + 1 - A 31 (I 54 - 1)).toNat → NFT (sa A1 32 (I 56) t) ((sa A1 32 (I 56) t) 1 (rt (sa A1 32 (I 56) t) j ((sa A1 32 (I 56) t) 2 (A 29 (I 54 - 1))))) ((sa A1 32 (I 56) t) 32 (A 31 (I 54 - 1) + j))
        rw [show (I 56 + 1 - A 31 (I 54 - 1)).toNat = (I 56 - A 31 (I 54 - 1)).toNat + 1 by omega, ec.2.1]
        have wl2 : isL A ((I 56 - A 31 (I 54 - 1)).toNat + 1 + m8) (A 2 (A 29 (I 54 - 1))) := by
          rw [show (I 56 - A 31 (I 54 - 1)).toNat + 1 + m8 = (I 56 - A 31 (I 54 - 1)).toNat + m9 by omega]
          exact wl
        refine ⟨m8, isL_extB hP BX3 _ _ qf.2.2.1 (by omega) wl2, ?_, fun j hj => ?_⟩
        · rw [rt_extB hP BX3 _ _ _ qf.2.2.1 (by omega) wl2 (by omega), rt_suc, wr]
        · have rj := isL_rt hP _ j (A 2 (A 29 (I 54 - 1))) qf.2.2.1 (by omega) wl2 (by omega)
          have qj := hP.2 _ rj.1 (by omega : rt A j (A 2 (A 29 (I 54 - 1))) < I 7)
          rw [rt_extB hP BX3 _ j _ qf.2.2.1 (by omega) wl2 (by omega), (hx _ rj.1 (by omega)).1]
          show NFT (sa A1 32 (I 56) t) _ (sf (A1 32) (I 56) t (A 31 (I 54 - 1) + j))
          by_cases ej : j = (I 56 - A 31 (I 54 - 1)).toNat
          · rw [show A 31 (I 54 - 1) + (j : Int) = I 56 by omega, sf_self, ej, wr, NFT_12 (A := A1) (A1 := (sa A1 32 (I 56) t)) rfl rfl]
            exact nf1
          · have bj := f6 (A 31 (I 54 - 1) + j) (by omega) (by omega)
            have e32 : A1 32 (A 31 (I 54 - 1) + j) = A 32 (A 31 (I 54 - 1) + j) := by rw [a32]; rfl
            rw [sf_ne (by omega), e32]
            exact (NF_ext hP P3 BX3.2.1 hx _ _ _ (Nat.lt_succ_self _) rj.2.2 (by omega) bj.1.1 bj.1.2).1 (wn j (by omega))
      refine ih (su I1 56 (I 56 + 1)) (sa A1 32 (I 56) t) _ _ X.1 N3 Z3 hA3 hQ3 F3 W3 (show base < I1 54 by omega) (by rw [V3]; omega) (show I1 54 + _ ≤ 1199 by rw [V3]; omega) (show I 56 + 1 + _ ≤ 2399 by rw [V3]; omega) (show I1 7 + (2 * _ + (I 56 + 1 - _) + 1) ≤ 140000 by rw [V3, D3]; omega) (fun I5 A5 z6 z7 Y c1 c2 c3 c4 c5 => ?_) (fun I5 A5 z6 z7 Y c1 c2 c3 c9 => ?_)
      · have Y : AT ar (I1 54 - 1) ((sa A1 32 (I 56) t) 31 ((su I1 56 (I 56 + 1)) 54 - 1)) (su I1 56 (I 56 + 1)) (sa A1 32 (I 56) t) N I5 A5 := Y
        have c1 : I5 54 = I1 54 - 1 := c1
        have c5 : I5 7 ≤ I1 7 + (2 * VD (sa A1 32 (I 56) t) ((sa A1 32 (I 56) t) 30 ((su I1 56 (I 56 + 1)) 54 - 1)) - PT (sa A1 32 (I 56) t) ((sa A1 32 (I 56) t) 30 ((su I1 56 (I 56 + 1)) 54 - 1)) + (I 56 + 1 - (sa A1 32 (I 56) t) 31 ((su I1 56 (I 56 + 1)) 54 - 1)) + 1) := c5
        rw [V3, P3, D3] at c5
        have c4 : 1 ≤ TZ A5 ar (A5 32 ((sa A1 32 (I 56) t) 31 ((su I1 56 (I 56 + 1)) 54 - 1))) ∧ TZ A5 ar (A5 32 ((sa A1 32 (I 56) t) 31 ((su I1 56 (I 56 + 1)) 54 - 1))) = 1 + SL (sa A1 32 (I 56) t) ar ((sa A1 32 (I 56) t) 32) (I 56 + 1) (I 56 + 1 - (sa A1 32 (I 56) t) 31 ((su I1 56 (I 56 + 1)) 54 - 1)).toNat + LSq (sa A1 32 (I 56) t) ar ((sa A1 32 (I 56) t) 30 ((su I1 56 (I 56 + 1)) 54 - 1)) ∧ 0 ≤ LSq (sa A1 32 (I 56) t) ar ((sa A1 32 (I 56) t) 30 ((su I1 56 (I 56 + 1)) 54 - 1)) ∧ NFT A5 ((sa A1 32 (I 56) t) 29 ((su I1 56 (I 56 + 1)) 54 - 1)) (A5 32 ((sa A1 32 (I 56) t) 31 ((su I1 56 (I 56 + 1)) 54 - 1))) := c4
        rw [D3] at c2 c3 c4
        rw [LS3, show (I 56 + 1 - A 31 (I 54 - 1)).toNat = (I 56 - A 31 (I 54 - 1)).toNat + 1 by omega, SL_up (A := A) (f := A 32) (fun q q0 q1 => ?_)] at c4
        rotate_left
        · have b := f6 q (by omega) q1
          have e32 : A1 32 q = A 32 q := by rw [a32]; rfl
          have tb := (TZ_BX (ar := ar) hP BX3 b.1.1 b.1.2).1 b.2
          show TZ (sa A1 32 (I 56) t) ar (sf (A1 32) (I 56) t q) = _
          rw [sf_ne (by omega), e32, tb]
        have v9 : TZ (sa A1 32 (I 56) t) ar ((sa A1 32 (I 56) t) 32 (I 56)) = 1 := by
          show TZ (sa A1 32 (I 56) t) ar (sf (A1 32) (I 56) t (I 56)) = 1
          rw [sf_self, tz3.1]
          exact t1
        have NF29 : (sa A1 32 (I 56) t) 29 ((su I1 56 (I 56 + 1)) 54 - 1) = A 29 (I 54 - 1) := by
          show A1 29 (I1 54 - 1) = _
          rw [j54, k29]
        rw [v9] at c4
        rw [if_pos ⟨by omega, c4.2.2.1⟩] at lsp
        rw [D3, j54] at Y
        exact K I5 A5 z6 z7 (AT_tr X3 Y) (by omega) c2 c3 ⟨c4.1, by omega, by omega, by have n9 := c4.2.2.2; rw [show (sa A1 32 (I 56) t) 29 ((su I1 56 (I 56 + 1)) 54 - 1) = A 29 (I 54 - 1) from NF29] at n9; exact n9⟩ (by omega)
      · have c2 : I1 54 ≤ I5 54 ∧ I5 54 ≤ 1200 := c2
        have c3 : I5 7 ≤ I1 7 + (2 * VD (sa A1 32 (I 56) t) ((sa A1 32 (I 56) t) 30 ((su I1 56 (I 56 + 1)) 54 - 1)) - PT (sa A1 32 (I 56) t) ((sa A1 32 (I 56) t) 30 ((su I1 56 (I 56 + 1)) 54 - 1)) + (I 56 + 1 - (sa A1 32 (I 56) t) 31 ((su I1 56 (I 56 + 1)) 54 - 1)) + 1) := c3
        rw [V3, P3, D3] at c3
        rw [LS3] at c9
        rw [if_neg (fun q => absurd q.2 (by omega))] at lsp
        exact KB I5 A5 z6 z7 (BX_tr BX3 Y) c1 (by omega) (by omega) (by omega)
    · show xx_go (xt_P z) (d + 7) 105 142 [some (.ref h.length), some (.int (iI o)), some (.int (iI base)), some (.int (iI first)), some (.int (iI 1)), some (.int (iI ((I 54) - 1))), some (.int (iI (A 1 (A 30 ((I 54) - 1)))))] [.int (iI 1)] (mh h R ((su I 54 (I 54 + 1))) ((sa (sa (sa (sa A 30 (I 54 - 1) (A 2 (A 30 (I 54 - 1)))) 29 (I 54) (A 1 (A 30 (I 54 - 1)))) 30 (I 54) ((sa A 30 (I 54 - 1) (A 2 (A 30 (I 54 - 1)))) 2 (A 1 (A 30 (I 54 - 1))))) 31 (I 54) (I 56))) N) _
      refine go_a (pc' := 144) (ls' := [some (.ref h.length), some (.int (iI o)), some (.int (iI base)), some (.int (iI first)), some (.int (iI 1)), some (.int (iI ((I 54) - 1))), some (.int (iI (A 1 (A 30 ((I 54) - 1)))))]) (st' := []) rfl rfl ?_
      refine go_a (pc' := 17) (ls' := [some (.ref h.length), some (.int (iI o)), some (.int (iI base)), some (.int (iI first)), some (.int (iI 1)), some (.int (iI ((I 54) - 1))), some (.int (iI (A 1 (A 30 ((I 54) - 1)))))]) (st' := []) rfl rfl ?_
      have cl : 0 ≤ A 1 (A 1 (A 30 (I 54 - 1))) ∧ A 1 (A 1 (A 30 (I 54 - 1))) ≠ 2 := cl
      have qa := hP.2 (A 1 (A 30 (I 54 - 1))) pr ra
      have qb := qa.2.2.2.2 cl.1
      have wa : WD A (A 1 (A 30 (I 54 - 1))) = 2 + VD A (A 1 (A 30 (I 54 - 1))) := by
        rw [WD_pair hP pr ra cl.1, if_neg (fun e => cl.2 e.1)]
      have va := VD_pair hP pr ra cl.1
      have pa := PT_pair hP pr ra cl.1
      have ph := PT_b hP n0 n2 cl.1 (by omega : A 1 (A 1 (A 30 (I 54 - 1))) < I 7)
      have pz := PT_b hP n0 n2 qa.2.2.1 (by omega : A 2 (A 1 (A 30 (I 54 - 1))) < I 7)
      have wf := WD_1 hP cl.1 (by omega : A 1 (A 1 (A 30 (I 54 - 1))) < I 7)
      have lA2 : isL A m3 (A 2 (A 1 (A 30 (I 54 - 1)))) := isL_ext (A := (sa A 30 (I 54 - 1) (A 2 (A 30 (I 54 - 1))))) (A1 := A) (I := I) hP (fun k _ _ => ⟨rfl, rfl⟩) m3 _ qa.2.2.1 (by omega) fl3
      have em3 : (m3 : Int) = ar (A 1 (A 1 (A 30 (I 54 - 1)))) := em3
      have tz4 := TZ_124 (A := A) (A1 := (sa (sa (sa (sa A 30 (I 54 - 1) (A 2 (A 30 (I 54 - 1)))) 29 (I 54) (A 1 (A 30 (I 54 - 1)))) 30 (I 54) ((sa A 30 (I 54 - 1) (A 2 (A 30 (I 54 - 1)))) 2 (A 1 (A 30 (I 54 - 1))))) 31 (I 54) (I 56))) (ar := ar) rfl rfl rfl
      have vd4 : VD (sa (sa (sa (sa A 30 (I 54 - 1) (A 2 (A 30 (I 54 - 1)))) 29 (I 54) (A 1 (A 30 (I 54 - 1)))) 30 (I 54) ((sa A 30 (I 54 - 1) (A 2 (A 30 (I 54 - 1)))) 2 (A 1 (A 30 (I 54 - 1))))) 31 (I 54) (I 56)) = VD A := VD_12 rfl rfl
      have i54 : I 54 + 1 - 1 = I 54 := by omega
      have d29 : (sa (sa (sa (sa A 30 (I 54 - 1) (A 2 (A 30 (I 54 - 1)))) 29 (I 54) (A 1 (A 30 (I 54 - 1)))) 30 (I 54) ((sa A 30 (I 54 - 1) (A 2 (A 30 (I 54 - 1)))) 2 (A 1 (A 30 (I 54 - 1))))) 31 (I 54) (I 56)) 29 (I 54 + 1 - 1) = A 1 (A 30 (I 54 - 1)) := by rw [i54]; exact sf_self
      have d30 : (sa (sa (sa (sa A 30 (I 54 - 1) (A 2 (A 30 (I 54 - 1)))) 29 (I 54) (A 1 (A 30 (I 54 - 1)))) 30 (I 54) ((sa A 30 (I 54 - 1) (A 2 (A 30 (I 54 - 1)))) 2 (A 1 (A 30 (I 54 - 1))))) 31 (I 54) (I 56)) 30 (I 54 + 1 - 1) = A 2 (A 1 (A 30 (I 54 - 1))) := by rw [i54]; exact sf_self
      have d31 : (sa (sa (sa (sa A 30 (I 54 - 1) (A 2 (A 30 (I 54 - 1)))) 29 (I 54) (A 1 (A 30 (I 54 - 1)))) 30 (I 54) ((sa A 30 (I 54 - 1) (A 2 (A 30 (I 54 - 1)))) 2 (A 1 (A 30 (I 54 - 1))))) 31 (I 54) (I 56)) 31 (I 54 + 1 - 1) = I 56 := by rw [i54]; exact sf_self
      have lsp := LS_pair (ar := ar) hP (by omega : 0 < A 30 (I 54 - 1)) f3.2 pr
      have tsc := TS_call (ar := ar) hP pr ra cl.1 cl.2
      have czm := CZ_isL (ar := ar) hP n0 m3 _ qa.2.2.1 (by omega) lA2
      have ls4 : LSq (sa (sa (sa (sa A 30 (I 54 - 1) (A 2 (A 30 (I 54 - 1)))) 29 (I 54) (A 1 (A 30 (I 54 - 1)))) 30 (I 54) ((sa A 30 (I 54 - 1) (A 2 (A 30 (I 54 - 1)))) 2 (A 1 (A 30 (I 54 - 1))))) 31 (I 54) (I 56)) ar = LSq A ar := (TS_12 (A := A) (A1 := (sa (sa (sa (sa A 30 (I 54 - 1) (A 2 (A 30 (I 54 - 1)))) 29 (I 54) (A 1 (A 30 (I 54 - 1)))) 30 (I 54) ((sa A 30 (I 54 - 1) (A 2 (A 30 (I 54 - 1)))) 2 (A 1 (A 30 (I 54 - 1))))) 31 (I 54) (I 56))) (ar := ar) rfl rfl).2
      have Z4 : SZI ar (su I 54 (I 54 + 1)) (sa (sa (sa (sa A 30 (I 54 - 1) (A 2 (A 30 (I 54 - 1)))) 29 (I 54) (A 1 (A 30 (I 54 - 1)))) 30 (I 54) ((sa A 30 (I 54 - 1) (A 2 (A 30 (I 54 - 1)))) 2 (A 1 (A 30 (I 54 - 1))))) 31 (I 54) (I 56)) := by
        exact SZI_124 hZ rfl rfl rfl rfl
      have F4 : FRT ar (su I 54 (I 54 + 1)) (sa (sa (sa (sa A 30 (I 54 - 1) (A 2 (A 30 (I 54 - 1)))) 29 (I 54) (A 1 (A 30 (I 54 - 1)))) 30 (I 54) ((sa A 30 (I 54 - 1) (A 2 (A 30 (I 54 - 1)))) 2 (A 1 (A 30 (I 54 - 1))))) 31 (I 54) (I 56)) := by
        show (0 ≤ (sa (sa (sa (sa A 30 (I 54 - 1) (A 2 (A 30 (I 54 - 1)))) 29 (I 54) (A 1 (A 30 (I 54 - 1)))) 30 (I 54) ((sa A 30 (I 54 - 1) (A 2 (A 30 (I 54 - 1)))) 2 (A 1 (A 30 (I 54 - 1))))) 31 (I 54) (I 56)) 29 (I 54 + 1 - 1) ∧ (sa (sa (sa (sa A 30 (I 54 - 1) (A 2 (A 30 (I 54 - 1)))) 29 (I 54) (A 1 (A 30 (I 54 - 1)))) 30 (I 54) ((sa A 30 (I 54 - 1) (A 2 (A 30 (I 54 - 1)))) 2 (A 1 (A 30 (I 54 - 1))))) 31 (I 54) (I 56)) 29 (I 54 + 1 - 1) < I 7) ∧ (0 ≤ A 1 ((sa (sa (sa (sa A 30 (I 54 - 1) (A 2 (A 30 (I 54 - 1)))) 29 (I 54) (A 1 (A 30 (I 54 - 1)))) 30 (I 54) ((sa A 30 (I 54 - 1) (A 2 (A 30 (I 54 - 1)))) 2 (A 1 (A 30 (I 54 - 1))))) 31 (I 54) (I 56)) 29 (I 54 + 1 - 1)) ∧ A 1 ((sa (sa (sa (sa A 30 (I 54 - 1) (A 2 (A 30 (I 54 - 1)))) 29 (I 54) (A 1 (A 30 (I 54 - 1)))) 30 (I 54) ((sa A 30 (I 54 - 1) (A 2 (A 30 (I 54 - 1)))) 2 (A 1 (A 30 (I 54 - 1))))) 31 (I 54) (I 56)) 29 (I 54 + 1 - 1)) ≠ 2) ∧ (0 ≤ (sa (sa (sa (sa A 30 (I 54 - 1) (A 2 (A 30 (I 54 - 1)))) 29 (I 54) (A 1 (A 30 (I 54 - 1)))) 30 (I 54) ((sa A 30 (I 54 - 1) (A 2 (A 30 (I 54 - 1)))) 2 (A 1 (A 30 (I 54 - 1))))) 31 (I 54) (I 56)) 30 (I 54 + 1 - 1) ∧ (sa (sa (sa (sa A 30 (I 54 - 1) (A 2 (A 30 (I 54 - 1)))) 29 (I 54) (A 1 (A 30 (I 54 - 1)))) 30 (I 54) ((sa A 30 (I 54 - 1) (A 2 (A 30 (I 54 - 1)))) 2 (A 1 (A 30 (I 54 - 1))))) 31 (I 54) (I 56)) 30 (I 54 + 1 - 1) < I 7) ∧ (0 ≤ (sa (sa (sa (sa A 30 (I 54 - 1) (A 2 (A 30 (I 54 - 1)))) 29 (I 54) (A 1 (A 30 (I 54 - 1)))) 30 (I 54) ((sa A 30 (I 54 - 1) (A 2 (A 30 (I 54 - 1)))) 2 (A 1 (A 30 (I 54 - 1))))) 31 (I 54) (I 56)) 31 (I 54 + 1 - 1) ∧ (sa (sa (sa (sa A 30 (I 54 - 1) (A 2 (A 30 (I 54 - 1)))) 29 (I 54) (A 1 (A 30 (I 54 - 1)))) 30 (I 54) ((sa A 30 (I 54 - 1) (A 2 (A 30 (I 54 - 1)))) 2 (A 1 (A 30 (I 54 - 1))))) 31 (I 54) (I 56)) 31 (I 54 + 1 - 1) ≤ I 56) ∧ (∀ q : Int, (sa (sa (sa (sa A 30 (I 54 - 1) (A 2 (A 30 (I 54 - 1)))) 29 (I 54) (A 1 (A 30 (I 54 - 1)))) 30 (I 54) ((sa A 30 (I 54 - 1) (A 2 (A 30 (I 54 - 1)))) 2 (A 1 (A 30 (I 54 - 1))))) 31 (I 54) (I 56)) 31 (I 54 + 1 - 1) ≤ q → q < I 56 → (0 ≤ A 32 q ∧ A 32 q < I 7) ∧ 1 ≤ TZ (sa (sa (sa (sa A 30 (I 54 - 1) (A 2 (A 30 (I 54 - 1)))) 29 (I 54) (A 1 (A 30 (I 54 - 1)))) 30 (I 54) ((sa A 30 (I 54 - 1) (A 2 (A 30 (I 54 - 1)))) 2 (A 1 (A 30 (I 54 - 1))))) 31 (I 54) (I 56)) ar (A 32 q)) ∧ ∃ m : Nat, isL (sa (sa (sa (sa A 30 (I 54 - 1) (A 2 (A 30 (I 54 - 1)))) 29 (I 54) (A 1 (A 30 (I 54 - 1)))) 30 (I 54) ((sa A 30 (I 54 - 1) (A 2 (A 30 (I 54 - 1)))) 2 (A 1 (A 30 (I 54 - 1))))) 31 (I 54) (I 56)) m ((sa (sa (sa (sa A 30 (I 54 - 1) (A 2 (A 30 (I 54 - 1)))) 29 (I 54) (A 1 (A 30 (I 54 - 1)))) 30 (I 54) ((sa A 30 (I 54 - 1) (A 2 (A 30 (I 54 - 1)))) 2 (A 1 (A 30 (I 54 - 1))))) 31 (I 54) (I 56)) 30 (I 54 + 1 - 1)) ∧ (I 56 - (sa (sa (sa (sa A 30 (I 54 - 1) (A 2 (A 30 (I 54 - 1)))) 29 (I 54) (A 1 (A 30 (I 54 - 1)))) 30 (I 54) ((sa A 30 (I 54 - 1) (A 2 (A 30 (I 54 - 1)))) 2 (A 1 (A 30 (I 54 - 1))))) 31 (I 54) (I 56)) 31 (I 54 + 1 - 1)) + (m : Int) = ar (A 1 ((sa (sa (sa (sa A 30 (I 54 - 1) (A 2 (A 30 (I 54 - 1)))) 29 (I 54) (A 1 (A 30 (I 54 - 1)))) 30 (I 54) ((sa A 30 (I 54 - 1) (A 2 (A 30 (I 54 - 1)))) 2 (A 1 (A 30 (I 54 - 1))))) 31 (I 54) (I 56)) 29 (I 54 + 1 - 1)))
        rw [d29, d30, d31]
        exact ⟨⟨pr, ra⟩, cl, ⟨by omega, by omega⟩, ⟨by omega, Int.le_refl _⟩, fun q q0 q1 => absurd q1 (by omega), m3, isL_ext (A := A) (A1 := (sa (sa (sa (sa A 30 (I 54 - 1) (A 2 (A 30 (I 54 - 1)))) 29 (I 54) (A 1 (A 30 (I 54 - 1)))) 30 (I 54) ((sa A 30 (I 54 - 1) (A 2 (A 30 (I 54 - 1)))) 2 (A 1 (A 30 (I 54 - 1))))) 31 (I 54) (I 56))) (I := I) hP (fun k _ _ => ⟨rfl, rfl⟩) m3 _ qa.2.2.1 (by omega) lA2, by omega⟩
      have P4 : PT (sa (sa (sa (sa A 30 (I 54 - 1) (A 2 (A 30 (I 54 - 1)))) 29 (I 54) (A 1 (A 30 (I 54 - 1)))) 30 (I 54) ((sa A 30 (I 54 - 1) (A 2 (A 30 (I 54 - 1)))) 2 (A 1 (A 30 (I 54 - 1))))) 31 (I 54) (I 56)) ((sa (sa (sa (sa A 30 (I 54 - 1) (A 2 (A 30 (I 54 - 1)))) 29 (I 54) (A 1 (A 30 (I 54 - 1)))) 30 (I 54) ((sa A 30 (I 54 - 1) (A 2 (A 30 (I 54 - 1)))) 2 (A 1 (A 30 (I 54 - 1))))) 31 (I 54) (I 56)) 30 ((su I 54 (I 54 + 1)) 54 - 1)) = PT A (A 2 (A 1 (A 30 (I 54 - 1)))) := by
        show PT (sa (sa (sa (sa A 30 (I 54 - 1) (A 2 (A 30 (I 54 - 1)))) 29 (I 54) (A 1 (A 30 (I 54 - 1)))) 30 (I 54) ((sa A 30 (I 54 - 1) (A 2 (A 30 (I 54 - 1)))) 2 (A 1 (A 30 (I 54 - 1))))) 31 (I 54) (I 56)) ((sa (sa (sa (sa A 30 (I 54 - 1) (A 2 (A 30 (I 54 - 1)))) 29 (I 54) (A 1 (A 30 (I 54 - 1)))) 30 (I 54) ((sa A 30 (I 54 - 1) (A 2 (A 30 (I 54 - 1)))) 2 (A 1 (A 30 (I 54 - 1))))) 31 (I 54) (I 56)) 30 (I 54 + 1 - 1)) = _
        rw [d30]
        exact congrFun (PT_12 (A := A) (A1 := (sa (sa (sa (sa A 30 (I 54 - 1) (A 2 (A 30 (I 54 - 1)))) 29 (I 54) (A 1 (A 30 (I 54 - 1)))) 30 (I 54) ((sa A 30 (I 54 - 1) (A 2 (A 30 (I 54 - 1)))) 2 (A 1 (A 30 (I 54 - 1))))) 31 (I 54) (I 56))) rfl rfl) _
      have L4 : VD (sa (sa (sa (sa A 30 (I 54 - 1) (A 2 (A 30 (I 54 - 1)))) 29 (I 54) (A 1 (A 30 (I 54 - 1)))) 30 (I 54) ((sa A 30 (I 54 - 1) (A 2 (A 30 (I 54 - 1)))) 2 (A 1 (A 30 (I 54 - 1))))) 31 (I 54) (I 56)) ((sa (sa (sa (sa A 30 (I 54 - 1) (A 2 (A 30 (I 54 - 1)))) 29 (I 54) (A 1 (A 30 (I 54 - 1)))) 30 (I 54) ((sa A 30 (I 54 - 1) (A 2 (A 30 (I 54 - 1)))) 2 (A 1 (A 30 (I 54 - 1))))) 31 (I 54) (I 56)) 30 ((su I 54 (I 54 + 1)) 54 - 1)) = VD A (A 2 (A 1 (A 30 (I 54 - 1)))) := by
        show VD (sa (sa (sa (sa A 30 (I 54 - 1) (A 2 (A 30 (I 54 - 1)))) 29 (I 54) (A 1 (A 30 (I 54 - 1)))) 30 (I 54) ((sa A 30 (I 54 - 1) (A 2 (A 30 (I 54 - 1)))) 2 (A 1 (A 30 (I 54 - 1))))) 31 (I 54) (I 56)) ((sa (sa (sa (sa A 30 (I 54 - 1) (A 2 (A 30 (I 54 - 1)))) 29 (I 54) (A 1 (A 30 (I 54 - 1)))) 30 (I 54) ((sa A 30 (I 54 - 1) (A 2 (A 30 (I 54 - 1)))) 2 (A 1 (A 30 (I 54 - 1))))) 31 (I 54) (I 56)) 30 (I 54 + 1 - 1)) = _
        rw [d30, vd4]
      have X4 : AT ar (I 54 - 1) (A 31 (I 54 - 1)) I A N (su I 54 (I 54 + 1)) (sa (sa (sa (sa A 30 (I 54 - 1) (A 2 (A 30 (I 54 - 1)))) 29 (I 54) (A 1 (A 30 (I 54 - 1)))) 30 (I 54) ((sa A 30 (I 54 - 1) (A 2 (A 30 (I 54 - 1)))) 2 (A 1 (A 30 (I 54 - 1))))) 31 (I 54) (I 56)) := by
        refine ⟨⟨hS, Int.le_refl _, fun k _ _ => ⟨rfl, rfl, rfl, id⟩, fun j p q => su_ne (fun e => q (Or.inl e)), fun a q1 q2 q3 q4 q5 q6 q7 => (((sa_ne (fun e => q7 (by unfold GT; omega))).trans (sa_ne (fun e => q7 (by unfold GT; omega)))).trans (sa_ne (fun e => q7 (by unfold GT; omega)))).trans (sa_ne (fun e => q7 (by unfold GT; omega)))⟩, Z4, fun q q0 q1 => ⟨?_, ?_, ?_⟩, fun q q0 q1 => rfl⟩
        · show sf (A 29) (I 54) _ q = A 29 q
          rw [sf_ne (by omega)]
        · show sf (sf (A 30) (I 54 - 1) _) (I 54) _ q = A 30 q
          rw [sf_ne (by omega), sf_ne (by omega)]
        · show sf (A 31) (I 54) _ q = A 31 q
          rw [sf_ne (by omega)]
      have W4 : FRN (su I 54 (I 54 + 1)) (sa (sa (sa (sa A 30 (I 54 - 1) (A 2 (A 30 (I 54 - 1)))) 29 (I 54) (A 1 (A 30 (I 54 - 1)))) 30 (I 54) ((sa A 30 (I 54 - 1) (A 2 (A 30 (I 54 - 1)))) 2 (A 1 (A 30 (I 54 - 1))))) 31 (I 54) (I 56)) := by
        unfold FRN
        show ∃ m : Nat, isL (sa (sa (sa (sa A 30 (I 54 - 1) (A 2 (A 30 (I 54 - 1)))) 29 (I 54) (A 1 (A 30 (I 54 - 1)))) 30 (I 54) ((sa A 30 (I 54 - 1) (A 2 (A 30 (I 54 - 1)))) 2 (A 1 (A 30 (I 54 - 1))))) 31 (I 54) (I 56)) ((I 56 - (sa (sa (sa (sa A 30 (I 54 - 1) (A 2 (A 30 (I 54 - 1)))) 29 (I 54) (A 1 (A 30 (I 54 - 1)))) 30 (I 54) ((sa A 30 (I 54 - 1) (A 2 (A 30 (I 54 - 1)))) 2 (A 1 (A 30 (I 54 - 1))))) 31 (I 54) (I 56)) 31 (I 54 + 1 - 1)).toNat + m) (A 2 ((sa (sa (sa (sa A 30 (I 54 - 1) (A 2 (A 30 (I 54 - 1)))) 29 (I 54) (A 1 (A 30 (I 54 - 1)))) 30 (I 54) ((sa A 30 (I 54 - 1) (A 2 (A 30 (I 54 - 1)))) 2 (A 1 (A 30 (I 54 - 1))))) 31 (I 54) (I 56)) 29 (I 54 + 1 - 1))) ∧ rt (sa (sa (sa (sa A 30 (I 54 - 1) (A 2 (A 30 (I 54 - 1)))) 29 (I 54) (A 1 (A 30 (I 54 - 1)))) 30 (I 54) ((sa A 30 (I 54 - 1) (A 2 (A 30 (I 54 - 1)))) 2 (A 1 (A 30 (I 54 - 1))))) 31 (I 54) (I 56)) (I 56 - (sa (sa (sa (sa A 30 (I 54 - 1) (A 2 (A 30 (I 54 - 1)))) 29 (I 54) (A 1 (A 30 (I 54 - 1)))) 30 (I 54) ((sa A 30 (I 54 - 1) (A 2 (A 30 (I 54 - 1)))) 2 (A 1 (A 30 (I 54 - 1))))) 31 (I 54) (I 56)) 31 (I 54 + 1 - 1)).toNat (A 2 ((sa (sa (sa (sa A 30 (I 54 - 1) (A 2 (A 30 (I 54 - 1)))) 29 (I 54) (A 1 (A 30 (I 54 - 1)))) 30 (I 54) ((sa A 30 (I 54 - 1) (A 2 (A 30 (I 54 - 1)))) 2 (A 1 (A 30 (I 54 - 1))))) 31 (I 54) (I 56)) 29 (I 54 + 1 - 1))) = (sa (sa (sa (sa A 30 (I 54 - 1) (A 2 (A 30 (I 54 - 1)))) 29 (I 54) (A 1 (A 30 (I 54 - 1)))) 30 (I 54) ((sa A 30 (I 54 - 1) (A 2 (A 30 (I 54 - 1)))) 2 (A 1 (A 30 (I 54 - 1))))) 31 (I 54) (I 56)) 30 (I 54 + 1 - 1) ∧ ∀ j : Nat, j < (I 56 - (sa (sa (sa (sa A 30 (I 54 - 1) (A 2 (A 30 (I 54 - 1)))) 29 (I 54) (A 1 (A 30 (I 54 - 1)))) 30 (I 54) ((sa A 30 (I 54 - 1) (A 2 (A 30 (I 54 - 1)))) 2 (A 1 (A 30 (I 54 - 1))))) 31 (I 54) (I 56)) 31 (I 54 + 1 - 1)).toNat → NFT (sa (sa (sa (sa A 30 (I 54 - 1) (A 2 (A 30 (I 54 - 1)))) 29 (I 54) (A 1 (A 30 (I 54 - 1)))) 30 (I 54) ((sa A 30 (I 54 - 1) (A 2 (A 30 (I 54 - 1)))) 2 (A 1 (A 30 (I 54 - 1))))) 31 (I 54) (I 56)) (A 1 (rt (sa (sa (sa (sa A 30 (I 54 - 1) (A 2 (A 30 (I 54 - 1)))) 29 (I 54) (A 1 (A 30 (I 54 - 1)))) 30 (I 54) ((sa A 30 (I 54 - 1) (A 2 (A 30 (I 54 - 1)))) 2 (A 1 (A 30 (I 54 - 1))))) 31 (I 54) (I 56)) j (A 2 ((sa (sa (sa (sa A 30 (I 54 - 1) (A 2 (A 30 (I 54 - 1)))) 29 (I 54) (A 1 (A 30 (I 54 - 1)))) 30 (I 54) ((sa A 30 (I 54 - 1) (A 2 (A 30 (I 54 - 1)))) 2 (A 1 (A 30 (I 54 - 1))))) 31 (I 54) (I 56)) 29 (I 54 + 1 - 1))))) ((sa (sa (sa (sa A 30 (I 54 - 1) (A 2 (A 30 (I 54 - 1)))) 29 (I 54) (A 1 (A 30 (I 54 - 1)))) 30 (I 54) ((sa A 30 (I 54 - 1) (A 2 (A 30 (I 54 - 1)))) 2 (A 1 (A 30 (I 54 - 1))))) 31 (I 54) (I 56)) 32 ((sa (sa (sa (sa A 30 (I 54 - 1) (A 2 (A 30 (I 54 - 1)))) 29 (I 54) (A 1 (A 30 (I 54 - 1)))) 30 (I 54) ((sa A 30 (I 54 - 1) (A 2 (A 30 (I 54 - 1)))) 2 (A 1 (A 30 (I 54 - 1))))) 31 (I 54) (I 56)) 31 (I 54 + 1 - 1) + j))
        rw [d29, d30, d31, show (I 56 - I 56).toNat = 0 by omega]
        exact ⟨m3, by rw [Nat.zero_add]; exact isL_12a (A := A) (A1 := (sa (sa (sa (sa A 30 (I 54 - 1) (A 2 (A 30 (I 54 - 1)))) 29 (I 54) (A 1 (A 30 (I 54 - 1)))) 30 (I 54) ((sa A 30 (I 54 - 1) (A 2 (A 30 (I 54 - 1)))) 2 (A 1 (A 30 (I 54 - 1))))) 31 (I 54) (I 56))) rfl rfl _ _ lA2, rfl, fun j hj => absurd hj (by omega)⟩
      refine ih (su I 54 (I 54 + 1)) (sa (sa (sa (sa A 30 (I 54 - 1) (A 2 (A 30 (I 54 - 1)))) 29 (I 54) (A 1 (A 30 (I 54 - 1)))) 30 (I 54) ((sa A 30 (I 54 - 1) (A 2 (A 30 (I 54 - 1)))) 2 (A 1 (A 30 (I 54 - 1))))) 31 (I 54) (I 56)) _ _ hS hN Z4 hA hQ F4 W4 (show base < I 54 + 1 by omega) (by rw [L4]; omega) (show I 54 + 1 + _ ≤ 1199 by rw [L4]; omega) (show I 56 + _ ≤ 2399 by rw [L4]; omega) (show I 7 + (2 * _ + (I 56 - (sa (sa (sa (sa A 30 (I 54 - 1) (A 2 (A 30 (I 54 - 1)))) 29 (I 54) (A 1 (A 30 (I 54 - 1)))) 30 (I 54) ((sa A 30 (I 54 - 1) (A 2 (A 30 (I 54 - 1)))) 2 (A 1 (A 30 (I 54 - 1))))) 31 (I 54) (I 56)) 31 (I 54 + 1 - 1)) + 1) ≤ 140000 by rw [L4, d31]; omega) (fun I5 A5 z6 z7 X c1 c2 c3 c4 c5 => ?_) (fun I5 A5 z6 z7 Y c1 c2 c3 c9 => ?_)
      rotate_left
      · have c2 : I 54 + 1 ≤ I5 54 ∧ I5 54 ≤ 1200 := c2
        have c3 : I5 7 ≤ I 7 + (2 * VD (sa (sa (sa (sa A 30 (I 54 - 1) (A 2 (A 30 (I 54 - 1)))) 29 (I 54) (A 1 (A 30 (I 54 - 1)))) 30 (I 54) ((sa A 30 (I 54 - 1) (A 2 (A 30 (I 54 - 1)))) 2 (A 1 (A 30 (I 54 - 1))))) 31 (I 54) (I 56)) ((sa (sa (sa (sa A 30 (I 54 - 1) (A 2 (A 30 (I 54 - 1)))) 29 (I 54) (A 1 (A 30 (I 54 - 1)))) 30 (I 54) ((sa A 30 (I 54 - 1) (A 2 (A 30 (I 54 - 1)))) 2 (A 1 (A 30 (I 54 - 1))))) 31 (I 54) (I 56)) 30 ((su I 54 (I 54 + 1)) 54 - 1)) - PT (sa (sa (sa (sa A 30 (I 54 - 1) (A 2 (A 30 (I 54 - 1)))) 29 (I 54) (A 1 (A 30 (I 54 - 1)))) 30 (I 54) ((sa A 30 (I 54 - 1) (A 2 (A 30 (I 54 - 1)))) 2 (A 1 (A 30 (I 54 - 1))))) 31 (I 54) (I 56)) ((sa (sa (sa (sa A 30 (I 54 - 1) (A 2 (A 30 (I 54 - 1)))) 29 (I 54) (A 1 (A 30 (I 54 - 1)))) 30 (I 54) ((sa A 30 (I 54 - 1) (A 2 (A 30 (I 54 - 1)))) 2 (A 1 (A 30 (I 54 - 1))))) 31 (I 54) (I 56)) 30 ((su I 54 (I 54 + 1)) 54 - 1)) + (I 56 - (sa (sa (sa (sa A 30 (I 54 - 1) (A 2 (A 30 (I 54 - 1)))) 29 (I 54) (A 1 (A 30 (I 54 - 1)))) 30 (I 54) ((sa A 30 (I 54 - 1) (A 2 (A 30 (I 54 - 1)))) 2 (A 1 (A 30 (I 54 - 1))))) 31 (I 54) (I 56)) 31 (I 54 + 1 - 1)) + 1) := c3
        rw [L4, P4, d31] at c3
        have c9 : LSq (sa (sa (sa (sa A 30 (I 54 - 1) (A 2 (A 30 (I 54 - 1)))) 29 (I 54) (A 1 (A 30 (I 54 - 1)))) 30 (I 54) ((sa A 30 (I 54 - 1) (A 2 (A 30 (I 54 - 1)))) 2 (A 1 (A 30 (I 54 - 1))))) 31 (I 54) (I 56)) ar ((sa (sa (sa (sa A 30 (I 54 - 1) (A 2 (A 30 (I 54 - 1)))) 29 (I 54) (A 1 (A 30 (I 54 - 1)))) 30 (I 54) ((sa A 30 (I 54 - 1) (A 2 (A 30 (I 54 - 1)))) 2 (A 1 (A 30 (I 54 - 1))))) 31 (I 54) (I 56)) 30 (I 54 + 1 - 1)) < 0 := c9
        rw [ls4, d30] at c9
        rw [if_neg (fun q => absurd q.1 (by omega))] at tsc
        rw [if_neg (fun q => absurd q.1 (by omega))] at lsp
        exact KB I5 A5 z6 z7 (BX_tr X4.1 Y) c1 (by omega) (by omega) (by omega)
      have X : AT ar (I 54 + 1 - 1) ((sa (sa (sa (sa A 30 (I 54 - 1) (A 2 (A 30 (I 54 - 1)))) 29 (I 54) (A 1 (A 30 (I 54 - 1)))) 30 (I 54) ((sa A 30 (I 54 - 1) (A 2 (A 30 (I 54 - 1)))) 2 (A 1 (A 30 (I 54 - 1))))) 31 (I 54) (I 56)) 31 (I 54 + 1 - 1)) (su I 54 (I 54 + 1)) (sa (sa (sa (sa A 30 (I 54 - 1) (A 2 (A 30 (I 54 - 1)))) 29 (I 54) (A 1 (A 30 (I 54 - 1)))) 30 (I 54) ((sa A 30 (I 54 - 1) (A 2 (A 30 (I 54 - 1)))) 2 (A 1 (A 30 (I 54 - 1))))) 31 (I 54) (I 56)) N I5 A5 := X
      rw [d31, i54] at X
      have c1 : I5 54 = I 54 := by have c1 : I5 54 = I 54 + 1 - 1 := c1; omega
      have c2 : I5 56 = (sa (sa (sa (sa A 30 (I 54 - 1) (A 2 (A 30 (I 54 - 1)))) 29 (I 54) (A 1 (A 30 (I 54 - 1)))) 30 (I 54) ((sa A 30 (I 54 - 1) (A 2 (A 30 (I 54 - 1)))) 2 (A 1 (A 30 (I 54 - 1))))) 31 (I 54) (I 56)) 31 (I 54 + 1 - 1) + 1 := c2
      have c3 : 0 ≤ A5 32 ((sa (sa (sa (sa A 30 (I 54 - 1) (A 2 (A 30 (I 54 - 1)))) 29 (I 54) (A 1 (A 30 (I 54 - 1)))) 30 (I 54) ((sa A 30 (I 54 - 1) (A 2 (A 30 (I 54 - 1)))) 2 (A 1 (A 30 (I 54 - 1))))) 31 (I 54) (I 56)) 31 (I 54 + 1 - 1)) ∧ A5 32 ((sa (sa (sa (sa A 30 (I 54 - 1) (A 2 (A 30 (I 54 - 1)))) 29 (I 54) (A 1 (A 30 (I 54 - 1)))) 30 (I 54) ((sa A 30 (I 54 - 1) (A 2 (A 30 (I 54 - 1)))) 2 (A 1 (A 30 (I 54 - 1))))) 31 (I 54) (I 56)) 31 (I 54 + 1 - 1)) < I5 7 := c3
      have c4 : 1 ≤ TZ A5 ar (A5 32 ((sa (sa (sa (sa A 30 (I 54 - 1) (A 2 (A 30 (I 54 - 1)))) 29 (I 54) (A 1 (A 30 (I 54 - 1)))) 30 (I 54) ((sa A 30 (I 54 - 1) (A 2 (A 30 (I 54 - 1)))) 2 (A 1 (A 30 (I 54 - 1))))) 31 (I 54) (I 56)) 31 (I 54 + 1 - 1))) ∧ TZ A5 ar (A5 32 ((sa (sa (sa (sa A 30 (I 54 - 1) (A 2 (A 30 (I 54 - 1)))) 29 (I 54) (A 1 (A 30 (I 54 - 1)))) 30 (I 54) ((sa A 30 (I 54 - 1) (A 2 (A 30 (I 54 - 1)))) 2 (A 1 (A 30 (I 54 - 1))))) 31 (I 54) (I 56)) 31 (I 54 + 1 - 1))) = 1 + SL (sa (sa (sa (sa A 30 (I 54 - 1) (A 2 (A 30 (I 54 - 1)))) 29 (I 54) (A 1 (A 30 (I 54 - 1)))) 30 (I 54) ((sa A 30 (I 54 - 1) (A 2 (A 30 (I 54 - 1)))) 2 (A 1 (A 30 (I 54 - 1))))) 31 (I 54) (I 56)) ar ((sa (sa (sa (sa A 30 (I 54 - 1) (A 2 (A 30 (I 54 - 1)))) 29 (I 54) (A 1 (A 30 (I 54 - 1)))) 30 (I 54) ((sa A 30 (I 54 - 1) (A 2 (A 30 (I 54 - 1)))) 2 (A 1 (A 30 (I 54 - 1))))) 31 (I 54) (I 56)) 32) (I 56) (I 56 - (sa (sa (sa (sa A 30 (I 54 - 1) (A 2 (A 30 (I 54 - 1)))) 29 (I 54) (A 1 (A 30 (I 54 - 1)))) 30 (I 54) ((sa A 30 (I 54 - 1) (A 2 (A 30 (I 54 - 1)))) 2 (A 1 (A 30 (I 54 - 1))))) 31 (I 54) (I 56)) 31 (I 54 + 1 - 1)).toNat + LSq (sa (sa (sa (sa A 30 (I 54 - 1) (A 2 (A 30 (I 54 - 1)))) 29 (I 54) (A 1 (A 30 (I 54 - 1)))) 30 (I 54) ((sa A 30 (I 54 - 1) (A 2 (A 30 (I 54 - 1)))) 2 (A 1 (A 30 (I 54 - 1))))) 31 (I 54) (I 56)) ar ((sa (sa (sa (sa A 30 (I 54 - 1) (A 2 (A 30 (I 54 - 1)))) 29 (I 54) (A 1 (A 30 (I 54 - 1)))) 30 (I 54) ((sa A 30 (I 54 - 1) (A 2 (A 30 (I 54 - 1)))) 2 (A 1 (A 30 (I 54 - 1))))) 31 (I 54) (I 56)) 30 (I 54 + 1 - 1)) ∧ 0 ≤ LSq (sa (sa (sa (sa A 30 (I 54 - 1) (A 2 (A 30 (I 54 - 1)))) 29 (I 54) (A 1 (A 30 (I 54 - 1)))) 30 (I 54) ((sa A 30 (I 54 - 1) (A 2 (A 30 (I 54 - 1)))) 2 (A 1 (A 30 (I 54 - 1))))) 31 (I 54) (I 56)) ar ((sa (sa (sa (sa A 30 (I 54 - 1) (A 2 (A 30 (I 54 - 1)))) 29 (I 54) (A 1 (A 30 (I 54 - 1)))) 30 (I 54) ((sa A 30 (I 54 - 1) (A 2 (A 30 (I 54 - 1)))) 2 (A 1 (A 30 (I 54 - 1))))) 31 (I 54) (I 56)) 30 (I 54 + 1 - 1)) ∧ NFT A5 ((sa (sa (sa (sa A 30 (I 54 - 1) (A 2 (A 30 (I 54 - 1)))) 29 (I 54) (A 1 (A 30 (I 54 - 1)))) 30 (I 54) ((sa A 30 (I 54 - 1) (A 2 (A 30 (I 54 - 1)))) 2 (A 1 (A 30 (I 54 - 1))))) 31 (I 54) (I 56)) 29 (I 54 + 1 - 1)) (A5 32 ((sa (sa (sa (sa A 30 (I 54 - 1) (A 2 (A 30 (I 54 - 1)))) 29 (I 54) (A 1 (A 30 (I 54 - 1)))) 30 (I 54) ((sa A 30 (I 54 - 1) (A 2 (A 30 (I 54 - 1)))) 2 (A 1 (A 30 (I 54 - 1))))) 31 (I 54) (I 56)) 31 (I 54 + 1 - 1))) := c4
      have c5 : I5 7 ≤ I 7 + (2 * VD (sa (sa (sa (sa A 30 (I 54 - 1) (A 2 (A 30 (I 54 - 1)))) 29 (I 54) (A 1 (A 30 (I 54 - 1)))) 30 (I 54) ((sa A 30 (I 54 - 1) (A 2 (A 30 (I 54 - 1)))) 2 (A 1 (A 30 (I 54 - 1))))) 31 (I 54) (I 56)) ((sa (sa (sa (sa A 30 (I 54 - 1) (A 2 (A 30 (I 54 - 1)))) 29 (I 54) (A 1 (A 30 (I 54 - 1)))) 30 (I 54) ((sa A 30 (I 54 - 1) (A 2 (A 30 (I 54 - 1)))) 2 (A 1 (A 30 (I 54 - 1))))) 31 (I 54) (I 56)) 30 ((su I 54 (I 54 + 1)) 54 - 1)) - PT (sa (sa (sa (sa A 30 (I 54 - 1) (A 2 (A 30 (I 54 - 1)))) 29 (I 54) (A 1 (A 30 (I 54 - 1)))) 30 (I 54) ((sa A 30 (I 54 - 1) (A 2 (A 30 (I 54 - 1)))) 2 (A 1 (A 30 (I 54 - 1))))) 31 (I 54) (I 56)) ((sa (sa (sa (sa A 30 (I 54 - 1) (A 2 (A 30 (I 54 - 1)))) 29 (I 54) (A 1 (A 30 (I 54 - 1)))) 30 (I 54) ((sa A 30 (I 54 - 1) (A 2 (A 30 (I 54 - 1)))) 2 (A 1 (A 30 (I 54 - 1))))) 31 (I 54) (I 56)) 30 ((su I 54 (I 54 + 1)) 54 - 1)) + (I 56 - (sa (sa (sa (sa A 30 (I 54 - 1) (A 2 (A 30 (I 54 - 1)))) 29 (I 54) (A 1 (A 30 (I 54 - 1)))) 30 (I 54) ((sa A 30 (I 54 - 1) (A 2 (A 30 (I 54 - 1)))) 2 (A 1 (A 30 (I 54 - 1))))) 31 (I 54) (I 56)) 31 (I 54 + 1 - 1)) + 1) := c5
      rw [d31] at c2 c3 c4 c5
      rw [ls4, d29, d30, show (I 56 - I 56).toNat = 0 by omega] at c4
      have c4 : 1 ≤ TZ A5 ar (A5 32 (I 56)) ∧ TZ A5 ar (A5 32 (I 56)) = 1 + 0 + LSq A ar (A 2 (A 1 (A 30 (I 54 - 1)))) ∧ 0 ≤ LSq A ar (A 2 (A 1 (A 30 (I 54 - 1)))) ∧ NFT A5 (A 1 (A 30 (I 54 - 1))) (A5 32 (I 56)) := c4
      rw [if_pos ⟨c4.2.2.1, by omega⟩] at tsc
      rw [L4, P4] at c5
      have x7 : I 7 ≤ I5 7 := X.1.2.1
      have k1 := X.2.2.1 (I 54 - 1) (by omega) (by omega)
      have k29 : A5 29 (I 54 - 1) = A 29 (I 54 - 1) := k1.1.trans (by show sf (A 29) (I 54) _ (I 54 - 1) = _; rw [sf_ne (by omega)])
      have k30 : A5 30 (I 54 - 1) = A 2 (A 30 (I 54 - 1)) := k1.2.1.trans (by show sf (sf (A 30) (I 54 - 1) _) (I 54) _ (I 54 - 1) = _; rw [sf_ne (by omega), sf_self])
      have k31 : A5 31 (I 54 - 1) = A 31 (I 54 - 1) := k1.2.2.trans (by show sf (A 31) (I 54) _ (I 54 - 1) = _; rw [sf_ne (by omega)])
      have XA : AT ar (I 54 - 1) (A 31 (I 54 - 1)) I A N I5 A5 := AT_tr X4 (AT_mono (by omega) (by omega) X)
      have o1 := (XA.1.2.2.1 (A 29 (I 54 - 1)) f1.1 f1.2).1
      have lx := isL_ext hP (fun k a b => ⟨(XA.1.2.2.1 k a b).1, (XA.1.2.2.1 k a b).2.1⟩) m2 _ qr.2.2.1 (by omega) fl2
      have vx := (WD_ext hP (fun k a b => ⟨(XA.1.2.2.1 k a b).1, (XA.1.2.2.1 k a b).2.1⟩) (A 2 (A 30 (I 54 - 1))) qr.2.2.1 (by omega)).2
      have px := PT_ext hP (fun k a b => ⟨(XA.1.2.2.1 k a b).1, (XA.1.2.2.1 k a b).2.1⟩) (A 2 (A 30 (I 54 - 1))) qr.2.2.1 (by omega)
      have P5 : PT A5 (A5 30 (I5 54 - 1)) = PT A (A 2 (A 30 (I 54 - 1))) := by
        rw [c1, k30]
        exact px
      have L5 : VD A5 (A5 30 (I5 54 - 1)) = VD A (A 2 (A 30 (I 54 - 1))) := by
        rw [c1, k30]
        exact vx
      have F5 : FRT ar I5 A5 := by
        unfold FRT
        rw [c1, k29, k30, k31, o1, c2]
        refine ⟨⟨f1.1, by omega⟩, f2, ⟨by omega, by omega⟩, ⟨f5.1, by omega⟩, fun q q0 q1 => ?_, m2, lx, by omega⟩
        by_cases e : q = I 56
        · rw [e]
          exact ⟨c3, c4.1⟩
        · have b := f6 q q0 (by omega)
          have e32 : A5 32 q = A 32 q := X.2.2.2 q (by omega) (by omega)
          rw [e32, (TZ_BX hP XA.1 b.1.1 b.1.2).1 b.2]
          exact ⟨⟨b.1.1, by omega⟩, b.2⟩
      have tsx := (TS_ext (ar := ar) hP (fun k a b => ⟨(XA.1.2.2.1 k a b).1, (XA.1.2.2.1 k a b).2.1⟩) (fun k a b => (TZ_BX (ar := ar) hP XA.1 a b).2.2) qr.2.2.1 (by omega : A 2 (A 30 (I 54 - 1)) < I 7)).2
      have LS5 : LSq A5 ar (A5 30 (I5 54 - 1)) = LSq A ar (A 2 (A 30 (I 54 - 1))) := by
        rw [c1, k30]
        exact tsx
      have hQ5 := ARF_BX hQ XA.1 (by unfold FB; omega) (by unfold FB; omega) (by unfold GT; omega)
      have N5 := NM_BX hN XA.1
      have hA5 := AR_BX hA XA.1 (by unfold FB; omega) (by unfold FB; omega) (by unfold FB; omega) (by unfold GT; omega) (by unfold GT; omega)
      have W5 : FRN I5 A5 := by
        obtain ⟨m9, wl, wr, wn⟩ := id hW
        have wz := isL_split _ _ _ wl
        rw [wr] at wz
        obtain ⟨m8, em8⟩ : ∃ m8, m9 = m8 + 1 := by
          match m9, wz with
          | 0, wz => exact absurd wz e0
          | m8 + 1, _ => exact ⟨m8, rfl⟩
        have q2 := qf.2.2.2.2 f2.1
        have ec := XA.1.2.2.1 (A 29 (I 54 - 1)) f1.1 f1.2
        have P5 := MST_PW XA.1.1
        have hx : ∀ k : Int, 0 ≤ k → k < I 7 → A5 1 k = A 1 k ∧ A5 2 k = A 2 k := fun k a b => ⟨(XA.1.2.2.1 k a b).1, (XA.1.2.2.1 k a b).2.1⟩
        unfold FRN
        rw [c1, k29, k30, k31, c2, ec.2.1, show (I 56 + 1 - A 31 (I 54 - 1)).toNat = (I 56 - A 31 (I 54 - 1)).toNat + 1 by omega]
        have wl2 : isL A ((I 56 - A 31 (I 54 - 1)).toNat + 1 + m8) (A 2 (A 29 (I 54 - 1))) := by
          rw [show (I 56 - A 31 (I 54 - 1)).toNat + 1 + m8 = (I 56 - A 31 (I 54 - 1)).toNat + m9 by omega]
          exact wl
        refine ⟨m8, isL_extB hP XA.1 _ _ qf.2.2.1 (by omega) wl2, ?_, fun j hj => ?_⟩
        · rw [rt_extB hP XA.1 _ _ _ qf.2.2.1 (by omega) wl2 (by omega), rt_suc, wr]
        · have rj := isL_rt hP _ j (A 2 (A 29 (I 54 - 1))) qf.2.2.1 (by omega) wl2 (by omega)
          have qj := hP.2 _ rj.1 (by omega : rt A j (A 2 (A 29 (I 54 - 1))) < I 7)
          rw [rt_extB hP XA.1 _ j _ qf.2.2.1 (by omega) wl2 (by omega), (hx _ rj.1 (by omega)).1]
          by_cases ej : j = (I 56 - A 31 (I 54 - 1)).toNat
          · rw [show A 31 (I 54 - 1) + (j : Int) = I 56 by omega, ej, wr]
            exact c4.2.2.2
          · have bj := f6 (A 31 (I 54 - 1) + j) (by omega) (by omega)
            have e32 : A5 32 (A 31 (I 54 - 1) + j) = A 32 (A 31 (I 54 - 1) + j) := X.2.2.2 _ (by omega) (by omega)
            rw [e32]
            exact (NF_ext hP P5 XA.1.2.1 hx _ _ _ (Nat.lt_succ_self _) rj.2.2 (by omega) bj.1.1 bj.1.2).1 (wn j (by omega))
      refine ih I5 A5 z6 z7 XA.1.1 N5 XA.2.1 hA5 hQ5 F5 W5 (by omega) (by rw [L5]; omega) (by rw [L5]; omega) (by rw [L5]; omega) (by rw [L5, c1, k31]; omega) (fun I6 A6 y8 y9 Y e1 e2 e3 e4 e5 => ?_) (fun I6 A6 y8 y9 Y e1 e2 e3 e9 => ?_)
      · rw [LS5] at e4
        rw [c1, k31] at Y e2 e3
        rw [c1, k31, k29] at e4
        rw [c2, show (I 56 + 1 - A 31 (I 54 - 1)).toNat = (I 56 - A 31 (I 54 - 1)).toNat + 1 by omega, SL_up (A := A) (f := A 32) (fun q q0 q1 => ?_)] at e4
        rotate_left
        · have b := f6 q (by omega) q1
          have e32 : A5 32 q = A 32 q := X.2.2.2 q (by omega) (by omega)
          rw [e32, (TZ_BX hP XA.1 b.1.1 b.1.2).1 b.2]
        rw [L5, P5, c1, k31] at e5
        rw [if_pos ⟨by omega, e4.2.2.1⟩] at lsp
        exact K I6 A6 y8 y9 (AT_tr XA Y) (by omega) e2 e3 ⟨e4.1, by omega, by omega, e4.2.2.2⟩ (by omega)
      · rw [L5, P5, c1, k31] at e3
        rw [LS5] at e9
        rw [if_neg (fun q => absurd q.2 (by omega))] at lsp
        exact KB I6 A6 y8 y9 (BX_tr XA.1 Y) e1 (by omega) (by omega) (by omega)

