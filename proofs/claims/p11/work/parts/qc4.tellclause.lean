def FP2 (_ : Nat) : Prop := False
def GP2 (_ : Nat) : Prop := False
theorem BI_BX0 {ar : Int → Int} {I I1 : Nat → Int} {A A1 : Nat → Int → Int} {N N1 : Int → Int} (h : BI ar I A N) (x : BX NO NO I A N I1 A1 N1) (hZ : SZI ar I1 A1) : BI ar I1 A1 N1 := by
  refine BI_QX h (BX_w2 (fun j q => absurd q id) (fun a q => absurd q id) x) hZ ?_ ?_ ?_
  · rw [x.2.2.2.1 54 (by decide) id]
    exact h.2.2.2.1.1
  · rw [x.2.2.2.1 56 (by decide) id]
    exact h.2.2.2.1.2
  · rw [x.2.2.2.1 49 (by decide) id]
    exact h.2.2.2.2
theorem mm_tellClause_loop (z : Value) (d : Nat) (ar : Int → Int) (h R : xx_H) (I : Nat → Int) (A : Nat → Int → Int) (N : Int → Int) (hc : 12 ≤ h.length) (hB : BI ar I A N) (hC : CLA ar I A 0) (ho : I 7 + 30 ≤ 140000) : ∀ (n : Nat) (I1 : Nat → Int) (A1 : Nat → Int → Int) (v k : Int), k + 1 = n → k < A 51 0 → BX NO NO I A N I1 A1 N → BI ar I1 A1 N → I1 7 + (k + 1) ≤ I 7 + A 51 0 → 0 ≤ v → v < I1 7 → xx_go (xt_P z) (d + 5) 177 11 [some (.ref h.length), some (.int (iI v)), some (.int (iI k))] [] (mh h R I1 A1 N) (fun v h1 => v = none ∧ ∃ (I1 : Nat → Int) (A1 : Nat → Int → Int), h1 = mh h R I1 A1 N ∧ BX FT2 GT2 I A N I1 A1 N ∧ BI ar I1 A1 N ∧ (0 ≤ I1 15 ∧ I1 15 ≤ 2000) ∧ (I1 47 = I 47 ∧ I1 48 = I 48)) := by
  have hP := BI_P hB
  have hc1 := hC.1
  intro n
  induction n with
  | zero =>
    intro I1 A1 v k ek kk X B c7 v0 v1
    refine go_a (pc' := 12) (ls' := [some (.ref h.length), some (.int (iI v)), some (.int (iI k))]) (st' := [.int (iI k)]) rfl rfl ?_
    refine mi_lt0 (t := 33) rfl rfl (by omega) (by omega) (fun _ => ?_) (fun q => absurd (show k < 0 by omega) q)
    refine go_a (pc' := 34) (ls' := [some (.ref h.length), some (.int (iI v)), some (.int (iI k))]) (st' := [.ref h.length]) rfl rfl ?_
    refine go_a (pc' := 35) (ls' := [some (.ref h.length), some (.int (iI v)), some (.int (iI k))]) (st' := [.int (iI v), .ref h.length]) rfl rfl ?_
    refine go_v (m := 171) (as := [.ref h.length, .int (iI v)]) (r := []) rfl rfl rfl mh_o rfl rfl (mm_tellOut z d v h R I1 A1 N hc B.1.1 v0 v1) (fun v h1 hq => ?_)
    obtain ⟨rfl, I2, A2, rfl, Y, y0, y1⟩ := hq
    show xx_go (xt_P z) (d + 5) 177 38 [some (.ref h.length), some (.int (iI v)), some (.int (iI k))] [] (mh h R I2 A2 N) _
    exact go_r rfl rfl rfl rfl rfl rfl ⟨rfl, I2, A2, rfl, BX_tr (BX_w2 (fun j q => absurd q id) (fun a q => absurd q id) X) (BX_w2 (fun j q => Or.inr q) (fun a q => Or.inr q) (TX_BX B.1.1 Y)), BI_TX B Y, ⟨y0, y1⟩, ⟨(Y.1 47 (by decide) (by decide)).trans (X.2.2.2.1 47 (by decide) id), (Y.1 48 (by decide) (by decide)).trans (X.2.2.2.1 48 (by decide) id)⟩⟩
  | succ n ih =>
    intro I1 A1 v k ek kk X B c7 v0 v1
    have ck := hC.2.1 k (by omega) kk
    have x7 := X.2.1
    have e50 : A1 50 = A 50 := X.2.2.2.2 50 (by decide) (by decide) (by decide) (by decide) (by decide) (by decide) id
    have f50 : A1 50 k = A 50 (30 * 0 + k) := by rw [e50, show 30 * 0 + k = k by omega]
    refine go_a (pc' := 12) (ls' := [some (.ref h.length), some (.int (iI v)), some (.int (iI k))]) (st' := [.int (iI k)]) rfl rfl ?_
    refine mi_lt0 (t := 33) rfl rfl (by omega) (by omega) (fun q => absurd q (by omega)) (fun _ => ?_)
    refine go_a (pc' := 16) (ls' := [some (.ref h.length), some (.int (iI v)), some (.int (iI k))]) (st' := [.ref h.length]) rfl rfl ?_
    refine go_a (pc' := 17) (ls' := [some (.ref h.length), some (.int (iI v)), some (.int (iI k))]) (st' := [.ref h.length, .ref h.length]) rfl rfl ?_
    refine go_get rfl mh_o rfl rfl ?_
    refine go_a (pc' := 21) (ls' := [some (.ref h.length), some (.int (iI v)), some (.int (iI k))]) (st' := [.int (iI k), .ref (h.length + 50), .ref h.length]) rfl rfl ?_
    refine mi_ild rfl mh_a50 (by omega) (by omega) (by decide) ?_
    refine go_a (pc' := 23) (ls' := [some (.ref h.length), some (.int (iI v)), some (.int (iI k))]) (st' := [.int (iI v), .int (iI (A1 50 k)), .ref h.length]) rfl rfl ?_
    rw [f50]
    show xx_go (xt_P z) (d + 5) 177 23 [some (.ref h.length), some (.int (iI v)), some (.int (iI k))] [.int (iI v), .int (iI (A 50 (30 * 0 + k))), .ref h.length] (mh h R I1 A1 N) _
    refine go_v (m := 85) (as := [.ref h.length, .int (iI (A 50 (30 * 0 + k))), .int (iI v)]) (r := []) rfl rfl rfl mh_o rfl rfl (mm_pairB NO NO z (d + 3) (A 50 (30 * 0 + k)) v h R I1 A1 N hc B.1.1 (by omega) ck.1.1 (by omega) v0 v1) (fun v h1 hq => ?_)
    obtain ⟨c, I2, A2, rfl, rfl, X2, c0, c1, g1, g2, g3, g4, g5, g6, g7, hk2⟩ := hq
    have Z2 : SZI ar I2 A2 := SZI_grow (BI_P B) B.1.2.2 X2 g3 g6 g7 hk2
    show xx_go (xt_P z) (d + 5) 177 26 [some (.ref h.length), some (.int (iI v)), some (.int (iI k))] [.int (iI c)] (mh h R I2 A2 N) _
    refine go_a (pc' := 27) (ls' := [some (.ref h.length), some (.int (iI c)), some (.int (iI k))]) (st' := []) rfl rfl ?_
    refine go_a (pc' := 30) (ls' := [some (.ref h.length), some (.int (iI c)), some (.int (iI (k + (-1))))]) (st' := []) rfl (by rw [← iI_add k (-1)]; rfl) ?_
    refine go_a (pc' := 11) (ls' := [some (.ref h.length), some (.int (iI c)), some (.int (iI (k + (-1))))]) (st' := []) rfl rfl ?_
    exact ih I2 A2 c (k + (-1)) (by omega) (by omega) (BX_tr X X2) (BI_BX0 B X2 Z2) (by omega) c0 c1
theorem mm_tellClause (z : Value) (d : Nat) (ar : Int → Int) (h R : xx_H) (I : Nat → Int) (A : Nat → Int → Int) (N : Int → Int) (hc : 12 ≤ h.length) (hB : BI ar I A N) (hC : CLA ar I A 0) (ho : I 7 + 30 ≤ 140000) : xx_cl (xt_P z) (d + 6) 177 [.ref h.length] (mh h R I A N) (fun v h1 => v = none ∧ ∃ (I1 : Nat → Int) (A1 : Nat → Int → Int), h1 = mh h R I1 A1 N ∧ BX FT2 GT2 I A N I1 A1 N ∧ BI ar I1 A1 N ∧ (0 ≤ I1 15 ∧ I1 15 ≤ 2000) ∧ (I1 47 = I 47 ∧ I1 48 = I 48)) := by
  have hP := BI_P hB
  have hc1 := hC.1
  have nn := hB.1.2.1.1
  refine cl_go rfl ?_
  show xx_go (xt_P z) (d + 5) 177 0 [some (.ref h.length), none, none] [] (mh h R I A N) _
  refine go_a (pc' := 1) (ls' := [some (.ref h.length), none, none]) (st' := [.int (iI 0)]) rfl rfl ?_
  refine go_a (pc' := 2) (ls' := [some (.ref h.length), some (.int (iI 0)), none]) (st' := []) rfl rfl ?_
  refine go_a (pc' := 3) (ls' := [some (.ref h.length), some (.int (iI 0)), none]) (st' := [.ref h.length]) rfl rfl ?_
  refine go_get rfl mh_o rfl rfl ?_
  refine go_a (pc' := 7) (ls' := [some (.ref h.length), some (.int (iI 0)), none]) (st' := [.int (iI 0), .ref (h.length + 51)]) rfl rfl ?_
  refine mi_ild rfl mh_a51 (by omega) (by omega) (by decide) ?_
  refine go_a (pc' := 9) (ls' := [some (.ref h.length), some (.int (iI 0)), none]) (st' := [.int (iI 1), .int (iI (A 51 0))]) rfl rfl ?_
  refine mi_sub rfl ?_
  refine go_a (pc' := 11) (ls' := [some (.ref h.length), some (.int (iI 0)), some (.int (iI ((A 51 0) - 1)))]) (st' := []) rfl rfl ?_
  exact mm_tellClause_loop z d ar h R I A N hc hB hC ho (A 51 0).toNat I A 0 (A 51 0 - 1) (by omega) (by omega) (BX_rf hB.1.1) hB (by omega) (Int.le_refl _) (by omega)

