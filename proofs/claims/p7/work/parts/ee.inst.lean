def csl (Mx : Int) (nP : Int → Int) (k : Nat) : Int := if Mx = 1 then sq nP k + k else 121 * k
section EE
variable {c x y t : Nat} {hp h1 h2 : xx_H} {s s1 s2 : KS} {α β γ u u1 w b β0 Mx n m : Int} {NM : Int → Int} {v : Value} {o k : Int} {q B : Nat} {O : Int → Option Nat} {nO : Int → Int} {fO : Int → Int → Int} {f : Int → Int}
theorem csl_s (nP : Int → Int) (k : Nat) : csl Mx nP (k + 1) = csl Mx nP k + (if Mx = 1 then nP k + 1 else 121) := by
  unfold csl
  split
  · show sq nP k + nP (k : Int) + _ = _
    omega
  · omega
theorem csl_0 {nP : Int → Int} : csl Mx nP 0 = 0 := by
  unfold csl
  split
  · rfl
  · rfl
theorem csl_le {nP : Int → Int} {k : Nat} (hk : k ≤ 30) (hs : sq nP k ≤ 400) : csl Mx nP k ≤ (if Mx = 1 then 430 else 3630) := by
  unfold csl
  split <;> omega
theorem INS_M {v : Option Value} (h : INS c hp s u n f Mx m fO v h1) (n0 : 0 ≤ n) : ∃ (v1 : Value) (s2 : KS), v = some v1 ∧ STE c hp s h1 s2 2 (if Mx = 1 then n + 1 else 121) ∧ MTM c h1 s2 u v1 := by
  obtain ⟨s2, K, B, F, ⟨e, X, -⟩ | ⟨a1, N, g, e, l1, l2, -, X, T, hM⟩⟩ := h
  · exact ⟨.null, s2, e, ⟨K, B, F, kx_w X (by decide) (by split <;> omega)⟩, Or.inl rfl⟩
  · refine ⟨.ref a1, s2, e, ⟨K, B, F, kx_w X (by omega) ?_⟩, MTM_T T⟩
    split
    · rename_i w
      have := (hM w).1
      omega
    · omega
theorem KAL_F1 {g : Int → Int} {p : Nat} (F : KF1 t hp h1) (ne : p ≠ t) (h : KAL hp p n g) : KAL h1 p n g := ⟨(F.2.2 p ne).trans h.1, h.2⟩
theorem two_w (hC : CI s) (ho : OB s o) (hL : isL (SD s) 2 o) : 1 + WD (SD s) (pi s 1 o) ≤ WD (SD s) o ∧ OB s (pi s 1 o) ∧ 1 ≤ WD (SD s) (pi s 1 o) := by
  obtain ⟨a1, a2, a3, a4⟩ := PI_w hC ho hL (j := 0) (by decide)
  obtain ⟨b1, b2, b3, b4⟩ := PI_w hC ho hL (j := 1) (by decide)
  have h := WD_pair (I := UI s) hC.1 ho.1 ho.2 hL.1
  refine ⟨?_, b2, b3⟩
  have e : SD s 1 (SD s 2 o) = pi s 1 o := rfl
  have e2 : VD (SD s) o = WD (SD s) (pi s 0 o) + VD (SD s) (rt (SD s) 1 o) := a1
  have e3 : VD (SD s) (rt (SD s) 1 o) = WD (SD s) (pi s 1 o) + VD (SD s) (rt (SD s) 2 o) := b1
  have e4 : 0 ≤ VD (SD s) (rt (SD s) 2 o) := b4
  by_cases w : SD s 1 o = 2 ∧ 0 ≤ SD s 1 (SD s 2 o) ∧ SD s 2 (SD s 2 o) = 0
  · rw [if_pos w, e] at h
    omega
  · rw [if_neg w] at h
    omega
theorem ki_arrI (hK : KI c hp s) (m : Int) (g : Int → Int) (m0 : 0 ≤ m) (m1 : m ≤ 1000) (hg : ∀ k : Int, -2147483648 ≤ g k ∧ g k ≤ 2147483647) : KI c (hp ++ [(.inl (.int, xa_f m.toNat g) : xx_E)]) s ∧ kx c hp s (hp ++ [(.inl (.int, xa_f m.toNat g) : xx_E)]) s 1 m ∧ KAL (hp ++ [(.inl (.int, xa_f m.toNat g) : xx_E)]) hp.length m g ∧ kn c s hp.length := by
  obtain ⟨a1, a2, a3⟩ := ki_app (e := (.inl (.int, xa_f m.toNat g) : xx_E)) hK
  refine ⟨a1, kx_w a2 (by decide) ?_, ⟨app_self, ⟨m0, m1⟩, hg⟩, a3⟩
  show ((xa_f m.toNat g).length : Int) ≤ m
  rw [xa_f_len]
  omega
end EE
theorem kq_inst_l2 (z : Value) (d c : Nat) (o e ml r6 w u α β γ : Int) (hp : xx_H) (s : KS) (t4 t5 y7 x B : Nat) (x10 : Option Value) (mp wp bq : Int) (OP : Int → Option Nat) (nP : Int → Int) (fP : Int → Int → Int) (m2 : Int) (g : Int → Int) (O : Int → Option Nat) (nO : Int → Int) (fO : Int → Int → Int) (Mx : Int) (M1 : 1 ≤ Mx) (hM : ∀ j : Int, 0 ≤ j → j < ml → nO j ≤ Mx) (hx : hp.length ≤ x) (ne_y7_x : y7 ≠ x) (ne_t5_x : t5 ≠ x ∧ t5 ≠ x + 1) (lw : α + 60 ≤ 100 * w - 386) (lb : β + (if Mx = 1 then 430 else 3630) ≤ 700 * w - 2390) (lg : γ ≤ w) : ∀ (j k : Nat) (b0 : Int) (h0 : xx_H) (s1 : KS), mp - k ≤ j → (k : Int) ≤ mp → KST c hp s h0 s1 (α + 2 * k) (β + csl Mx nP k) γ → s1.I 8 = u → CLS c h0 s1 u y7 mp wp bq OP nP fP → CL c h0 s1 u x b0 → KAL h0 t4 m2 g → kn c s1 t4 → OTK c h0 s1 u t5 ml ml B O nO fO → xx_go (xt_P z) (d + 8) 279 221 [some (.ref (c + 30)), some (.int (iI o)), some (.int (iI ml)), some (.int (iI e)), some (.ref t4), some (.ref t5), some (.int (iI r6)), some (.ref y7), some (.ref x), some (.int (iI ((k : Int)))), x10] [] h0 (fun v h1 => PRP c hp s w v h1) := by
  intro j
  induction j with
  | zero =>
    intro k b0 h0 s1 hj k1 S1 e1 DQ Cx A4 K4 OT
    have mR := DQ.2.2.2.1
    obtain ⟨mCx, wCx, cCx⟩ := CL_cell Cx
    have ls : csl Mx nP k ≤ (if Mx = 1 then 430 else 3630) := by
      obtain ⟨-, -, -, q4, q5, -, q7⟩ := DQ
      have nn : ∀ i : Int, 0 ≤ i → i < (mp.toNat : Nat) → 0 ≤ nP i := by
        intro i i0 i1
        obtain ⟨a, -, T⟩ := q7 i i0 (by omega)
        have := TM_n T
        omega
      have := (sq_mono nn (k := k) (by omega)).2
      exact csl_le (by omega) (by omega)
    refine go_a (pc' := 223) (ls' := [some (.ref (c + 30)), some (.int (iI o)), some (.int (iI ml)), some (.int (iI e)), some (.ref t4), some (.ref t5), some (.int (iI r6)), some (.ref y7), some (.ref x), some (.int (iI ((k : Int)))), x10]) (st' := [.int (iI ((k : Int)))]) rfl rfl ?_
    refine go_a (pc' := 225) (ls' := [some (.ref (c + 30)), some (.int (iI o)), some (.int (iI ml)), some (.int (iI e)), some (.ref t4), some (.ref t5), some (.int (iI r6)), some (.ref y7), some (.ref x), some (.int (iI ((k : Int)))), x10]) (st' := [.ref y7, .int (iI ((k : Int)))]) rfl rfl ?_
    refine go_v (m := 280) (as := [.ref y7]) (r := [.int (iI ((k : Int)))]) rfl rfl rfl DQ.1 rfl rfl (kh_length z (d + 7) c h0 s1 u y7 mp wp bq OP nP fP DQ) (fun v1 h1 hq => ?_)
    obtain ⟨rfl, eq1⟩ := hq
    rw [eq1]
    clear eq1 h1
    show xx_go (xt_P z) (d + 8) 279 228 [some (.ref (c + 30)), some (.int (iI o)), some (.int (iI ml)), some (.int (iI e)), some (.ref t4), some (.ref t5), some (.int (iI r6)), some (.ref y7), some (.ref x), some (.int (iI ((k : Int)))), x10] [.int (iI mp), .int (iI ((k : Int)))] h0 _
    refine mi_ge (t := 260) rfl rfl (by omega) (by omega) (by omega) (by omega) (fun w1 => ?_) (fun w1 => absurd (show (k : Int) ≥ mp by omega) w1)
    refine go_a (pc' := 261) (ls' := [some (.ref (c + 30)), some (.int (iI o)), some (.int (iI ml)), some (.int (iI e)), some (.ref t4), some (.ref t5), some (.int (iI r6)), some (.ref y7), some (.ref x), some (.int (iI ((k : Int)))), x10]) (st' := [.ref (c + 30)]) rfl rfl ?_
    refine go_a (pc' := 263) (ls' := [some (.ref (c + 30)), some (.int (iI o)), some (.int (iI ml)), some (.int (iI e)), some (.ref t4), some (.ref t5), some (.int (iI r6)), some (.ref y7), some (.ref x), some (.int (iI ((k : Int)))), x10]) (st' := [.ref x, .ref (c + 30)]) rfl rfl ?_
    refine go_v (m := 265) (as := [.ref (c + 30), .ref x]) (r := []) rfl rfl rfl (S1.1.1 19 (by decide)) rfl rfl (kq_fin z (d + 6) (w := w) S1 Cx e1 hx (by omega) (by omega) (by omega)) (fun v2 h2 hq => ?_)
    rcases hq with ⟨rfl, R2⟩ | ⟨r2, rfl, R2⟩
    · exact go_r rfl rfl rfl rfl rfl rfl R2
    · exact go_r rfl rfl rfl rfl rfl rfl R2
  | succ j ih =>
    intro k b0 h0 s1 hj k1 S1 e1 DQ Cx A4 K4 OT
    have mR := DQ.2.2.2.1
    obtain ⟨mCx, wCx, cCx⟩ := CL_cell Cx
    have ls : csl Mx nP k ≤ (if Mx = 1 then 430 else 3630) := by
      obtain ⟨-, -, -, q4, q5, -, q7⟩ := DQ
      have nn : ∀ i : Int, 0 ≤ i → i < (mp.toNat : Nat) → 0 ≤ nP i := by
        intro i i0 i1
        obtain ⟨a, -, T⟩ := q7 i i0 (by omega)
        have := TM_n T
        omega
      have := (sq_mono nn (k := k) (by omega)).2
      exact csl_le (by omega) (by omega)
    refine go_a (pc' := 223) (ls' := [some (.ref (c + 30)), some (.int (iI o)), some (.int (iI ml)), some (.int (iI e)), some (.ref t4), some (.ref t5), some (.int (iI r6)), some (.ref y7), some (.ref x), some (.int (iI ((k : Int)))), x10]) (st' := [.int (iI ((k : Int)))]) rfl rfl ?_
    refine go_a (pc' := 225) (ls' := [some (.ref (c + 30)), some (.int (iI o)), some (.int (iI ml)), some (.int (iI e)), some (.ref t4), some (.ref t5), some (.int (iI r6)), some (.ref y7), some (.ref x), some (.int (iI ((k : Int)))), x10]) (st' := [.ref y7, .int (iI ((k : Int)))]) rfl rfl ?_
    refine go_v (m := 280) (as := [.ref y7]) (r := [.int (iI ((k : Int)))]) rfl rfl rfl DQ.1 rfl rfl (kh_length z (d + 7) c h0 s1 u y7 mp wp bq OP nP fP DQ) (fun v1 h1 hq => ?_)
    obtain ⟨rfl, eq1⟩ := hq
    rw [eq1]
    clear eq1 h1
    show xx_go (xt_P z) (d + 8) 279 228 [some (.ref (c + 30)), some (.int (iI o)), some (.int (iI ml)), some (.int (iI e)), some (.ref t4), some (.ref t5), some (.int (iI r6)), some (.ref y7), some (.ref x), some (.int (iI ((k : Int)))), x10] [.int (iI mp), .int (iI ((k : Int)))] h0 _
    refine mi_ge (t := 260) rfl rfl (by omega) (by omega) (by omega) (by omega) (fun w1 => ?_) (fun w1 => ?_)
    · refine go_a (pc' := 261) (ls' := [some (.ref (c + 30)), some (.int (iI o)), some (.int (iI ml)), some (.int (iI e)), some (.ref t4), some (.ref t5), some (.int (iI r6)), some (.ref y7), some (.ref x), some (.int (iI ((k : Int)))), x10]) (st' := [.ref (c + 30)]) rfl rfl ?_
      refine go_a (pc' := 263) (ls' := [some (.ref (c + 30)), some (.int (iI o)), some (.int (iI ml)), some (.int (iI e)), some (.ref t4), some (.ref t5), some (.int (iI r6)), some (.ref y7), some (.ref x), some (.int (iI ((k : Int)))), x10]) (st' := [.ref x, .ref (c + 30)]) rfl rfl ?_
      refine go_v (m := 265) (as := [.ref (c + 30), .ref x]) (r := []) rfl rfl rfl (S1.1.1 19 (by decide)) rfl rfl (kq_fin z (d + 6) (w := w) S1 Cx e1 hx (by omega) (by omega) (by omega)) (fun v2 h2 hq => ?_)
      rcases hq with ⟨rfl, R2⟩ | ⟨r2, rfl, R2⟩
      · exact go_r rfl rfl rfl rfl rfl rfl R2
      · exact go_r rfl rfl rfl rfl rfl rfl R2
    · refine go_a (pc' := 233) (ls' := [some (.ref (c + 30)), some (.int (iI o)), some (.int (iI ml)), some (.int (iI e)), some (.ref t4), some (.ref t5), some (.int (iI r6)), some (.ref y7), some (.ref x), some (.int (iI ((k : Int)))), x10]) (st' := [.ref x]) rfl rfl ?_
      refine go_a (pc' := 234) (ls' := [some (.ref (c + 30)), some (.int (iI o)), some (.int (iI ml)), some (.int (iI e)), some (.ref t4), some (.ref t5), some (.int (iI r6)), some (.ref y7), some (.ref x), some (.int (iI ((k : Int)))), x10]) (st' := [.ref (c + 30), .ref x]) rfl rfl ?_
      refine go_get (v := .ref (c + 25)) rfl (S1.1.1 19 (by decide)) rfl rfl ?_
      refine go_a (pc' := 239) (ls' := [some (.ref (c + 30)), some (.int (iI o)), some (.int (iI ml)), some (.int (iI e)), some (.ref t4), some (.ref t5), some (.int (iI r6)), some (.ref y7), some (.ref x), some (.int (iI ((k : Int)))), x10]) (st' := [.ref y7, .ref (c + 25), .ref x]) rfl rfl ?_
      refine go_a (pc' := 241) (ls' := [some (.ref (c + 30)), some (.int (iI o)), some (.int (iI ml)), some (.int (iI e)), some (.ref t4), some (.ref t5), some (.int (iI r6)), some (.ref y7), some (.ref x), some (.int (iI ((k : Int)))), x10]) (st' := [.int (iI ((k : Int))), .ref y7, .ref (c + 25), .ref x]) rfl rfl ?_
      refine go_v (m := 263) (as := [.ref y7, .int (iI ((k : Int)))]) (r := [.ref (c + 25), .ref x]) rfl rfl rfl DQ.1 rfl rfl (kh_at z (d + 7) c (k : Int) h0 s1 u y7 mp wp bq OP nP fP DQ (by omega) (by omega)) (fun v h3 hq => ?_)
      obtain ⟨hq, e9⟩ := hq
      rw [e9]
      clear e9 h3
      rcases hq with ⟨t, rfl, -, -, Tt⟩ | ⟨-, q⟩
      · have nt := TM_n Tt
        show xx_go (xt_P z) (d + 8) 279 244 [some (.ref (c + 30)), some (.int (iI o)), some (.int (iI ml)), some (.int (iI e)), some (.ref t4), some (.ref t5), some (.int (iI r6)), some (.ref y7), some (.ref x), some (.int (iI ((k : Int)))), x10] [.ref t, .ref (c + 25), .ref x] h0 _
        refine go_a (pc' := 246) (ls' := [some (.ref (c + 30)), some (.int (iI o)), some (.int (iI ml)), some (.int (iI e)), some (.ref t4), some (.ref t5), some (.int (iI r6)), some (.ref y7), some (.ref x), some (.int (iI ((k : Int)))), x10]) (st' := [.ref t4, .ref t, .ref (c + 25), .ref x]) rfl rfl ?_
        refine go_a (pc' := 248) (ls' := [some (.ref (c + 30)), some (.int (iI o)), some (.int (iI ml)), some (.int (iI e)), some (.ref t4), some (.ref t5), some (.int (iI r6)), some (.ref y7), some (.ref x), some (.int (iI ((k : Int)))), x10]) (st' := [.ref t5, .ref t4, .ref t, .ref (c + 25), .ref x]) rfl rfl ?_
        refine go_v (m := 281) (as := [.ref (c + 25), .ref t, .ref t4, .ref t5]) (r := [.ref x]) rfl rfl rfl (S1.1.1 16 (by decide)) rfl rfl (kg_instance z (d + 4) c u Mx t (nP k) (fP k) t4 m2 g t5 ml O nO fO h0 s1 S1.1 S1.2.1 M1 hM Tt A4 K4 (OTK_OTH OT)) (fun v2 h2 hq => ?_)
        obtain ⟨w2, s2, rfl, E2, M2⟩ := INS_M hq (by omega)
        have S2 := KST_STE S1 E2
        have e2 := (STE_8 E2).trans e1
        have Tt_2 := TM_kx Tt E2.2.2.2
        have Cx_2 := CL_kx Cx E2.2.2.2
        obtain ⟨mCx_2, wCx_2, cCx_2⟩ := CL_cell Cx_2
        have Dy7_2 := CLS_kx DQ E2.2.2.2
        have Ot5_2 := OTK_kx OT E2.2.2.2
        obtain ⟨At4_2, kAt4_2⟩ := KAL_kx A4 K4 E2.2.2.2
        show xx_go (xt_P z) (d + 8) 279 251 [some (.ref (c + 30)), some (.int (iI o)), some (.int (iI ml)), some (.int (iI e)), some (.ref t4), some (.ref t5), some (.int (iI r6)), some (.ref y7), some (.ref x), some (.int (iI ((k : Int)))), x10] [w2, .ref x] h2 _
        refine go_v (m := 261) (as := [.ref x, w2]) (r := []) rfl rfl rfl cCx_2 rfl rfl (kq_addC z (d + 5) Cx_2 M2) (fun v3 h3 hq => ?_)
        obtain ⟨rfl, F3, b3, C3⟩ := hq
        have S3 := KST_fe S2 Cx_2 hx F3
        have Tt_3 := TM_fe Cx_2 F3 Tt_2
        have Mw2_3 := MTM_fe Cx_2 F3 M2
        have Dy7_3 := CLS_fe Cx_2 F3 ne_y7_x Dy7_2
        have Ot5_3 := OTK_fe Cx_2 F3 ne_t5_x Ot5_2
        have At4_3 := KAL_fe Cx_2 F3 At4_2
        have kAt4_3 := kAt4_2
        obtain ⟨mC3, wC3, cC3⟩ := CL_cell C3
        show xx_go (xt_P z) (d + 8) 279 254 [some (.ref (c + 30)), some (.int (iI o)), some (.int (iI ml)), some (.int (iI e)), some (.ref t4), some (.ref t5), some (.int (iI r6)), some (.ref y7), some (.ref x), some (.int (iI ((k : Int)))), x10] [] h3 _
        refine go_a (pc' := 257) (ls' := [some (.ref (c + 30)), some (.int (iI o)), some (.int (iI ml)), some (.int (iI e)), some (.ref t4), some (.ref t5), some (.int (iI r6)), some (.ref y7), some (.ref x), some (.int (iI (((k : Int)) + 1))), x10]) (st' := []) rfl (by rw [← iI_add ((k : Int)) 1]; rfl) ?_
        refine go_a (pc' := 221) (ls' := [some (.ref (c + 30)), some (.int (iI o)), some (.int (iI ml)), some (.int (iI e)), some (.ref t4), some (.ref t5), some (.int (iI r6)), some (.ref y7), some (.ref x), some (.int (iI (((k : Int)) + 1))), x10]) (st' := []) rfl rfl ?_
        rw [show (k : Int) + 1 = ((k + 1 : Nat) : Int) by omega]
        exact ih (k + 1) _ _ _ (by omega) (by omega) (KST_w S3 (by omega) (by rw [csl_s]; omega) (by omega)) e2 Dy7_3 C3 At4_3 kAt4_3 Ot5_3
      · exact absurd (show 0 ≤ (k : Int) ∧ (k : Int) < mp by omega) q
theorem kq_inst_l1 (z : Value) (d c : Nat) (o : Int) (q : Nat) (hp : xx_H) (s : KS) (NM : Int → Int) (hP : KPS c hp s NM) (ho : OB s o) (hL : isL (SD s) q o) (r2 : pi s 0 o ≠ 2) (w9 : WD (SD s) o ≤ 1000) (l25 : s.I 8 + WD (SD s) o ≤ 25000) (e : Int) (R : PRC z (d + 8) c (e + 1)) (M t4 t5 : Nat) (hq : q = M + 2) (h12 : 12 ≤ t4) (ht : hp.length ≤ t4) (ht5 : t5 = t4 + 1) : ∀ (j k : Nat) (x8 x9 x10 : Option Value) (g : Int → Int) (O : Int → Option Nat) (nO : Int → Int) (fO : Int → Int → Int) (h0 : xx_H) (s1 : KS), M - k ≤ j → k ≤ M → KST c hp s h0 s1 (2 + 2 * k) (2 * M + (VD (SD s) (rt (SD s) 2 o) - VD (SD s) (rt (SD s) (k + 2) o))) 0 → s1.I 8 = s.I 8 → KAL h0 t4 M g → kn c s1 t4 → OTK c h0 s1 (s.I 8) t5 M k (t5 + 1) O nO fO → 2 * (k : Int) ≤ (VD (SD s) (rt (SD s) 2 o) - VD (SD s) (rt (SD s) (k + 2) o)) → ((∀ j : Int, 0 ≤ j → j < k → nO j ≤ 1) ∨ 3 ≤ (VD (SD s) (rt (SD s) 2 o) - VD (SD s) (rt (SD s) (k + 2) o))) → xx_go (xt_P z) (d + 8) 279 47 [some (.ref (c + 30)), some (.int (iI o)), some (.int (iI ((M : Int)))), some (.int (iI e)), some (.ref t4), some (.ref t5), some (.int (iI (rt (SD s) (k + 2) o))), some (.int (iI ((k : Int)))), x8, x9, x10] [] h0 (fun v h1 => PRP c hp s (WD (SD s) o) v h1) := by
  have lu : s.I 8 ≤ 25000 := hP.2.2.2.2.2.2.2
  have u38 := KB_38 hP.2.1
  have oR := OB_R hP.2.1 ho
  have W := PI_W hP.2.2.1 ho hL (by omega) r2
  have p0 : VD (SD s) (rt (SD s) 0 o) = WD (SD s) (pi s 0 o) + VD (SD s) (rt (SD s) 1 o) ∧ OB s (pi s 0 o) ∧ 1 ≤ WD (SD s) (pi s 0 o) ∧ 0 ≤ VD (SD s) (rt (SD s) 1 o) := PI_w hP.2.2.1 ho hL (j := 0) (by omega)
  have p1 : VD (SD s) (rt (SD s) 1 o) = WD (SD s) (pi s 1 o) + VD (SD s) (rt (SD s) 2 o) ∧ OB s (pi s 1 o) ∧ 1 ≤ WD (SD s) (pi s 1 o) ∧ 0 ≤ VD (SD s) (rt (SD s) 2 o) := PI_w hP.2.2.1 ho hL (j := 1) (by omega)
  obtain ⟨p0, o0, i0, j0⟩ := p0
  obtain ⟨p1, o1, i1, j1⟩ := p1
  intro j
  induction j with
  | zero =>
    intro k x8 x9 x10 g O nO fO h0 s1 hj k1 S1 e1 A4 K4 OT hco hz
    have mR := OT.2.2.1
    have mq := isL_VD (I := UI s) hP.2.2.1.1 (CI_n0 hP.2.2.1) q o ho.1 ho.2 hL
    have v0 : VD (SD s) (rt (SD s) 0 o) = VD (SD s) o := rfl
    have vk : 0 ≤ VD (SD s) (rt (SD s) (k + 2) o) := (PI_w hP.2.2.1 ho hL (j := k + 1) (by omega)).2.2.2
    have l5 := (List.getElem?_eq_some_iff.mp OT.1).1
    refine go_a (pc' := 49) (ls' := [some (.ref (c + 30)), some (.int (iI o)), some (.int (iI ((M : Int)))), some (.int (iI e)), some (.ref t4), some (.ref t5), some (.int (iI (rt (SD s) (k + 2) o))), some (.int (iI ((k : Int)))), x8, x9, x10]) (st' := [.int (iI ((k : Int)))]) rfl rfl ?_
    refine go_a (pc' := 50) (ls' := [some (.ref (c + 30)), some (.int (iI o)), some (.int (iI ((M : Int)))), some (.int (iI e)), some (.ref t4), some (.ref t5), some (.int (iI (rt (SD s) (k + 2) o))), some (.int (iI ((k : Int)))), x8, x9, x10]) (st' := [.int (iI ((M : Int))), .int (iI ((k : Int)))]) rfl rfl ?_
    refine mi_ge (t := 184) rfl rfl (by omega) (by omega) (by omega) (by omega) (fun w1 => ?_) (fun w1 => absurd (show (k : Int) ≥ M by omega) w1)
    refine go_a (pc' := 185) (ls' := [some (.ref (c + 30)), some (.int (iI o)), some (.int (iI ((M : Int)))), some (.int (iI e)), some (.ref t4), some (.ref t5), some (.int (iI (rt (SD s) (k + 2) o))), some (.int (iI ((k : Int)))), x8, x9, x10]) (st' := [.ref (c + 30)]) rfl rfl ?_
    refine go_a (pc' := 186) (ls' := [some (.ref (c + 30)), some (.int (iI o)), some (.int (iI ((M : Int)))), some (.int (iI e)), some (.ref t4), some (.ref t5), some (.int (iI (rt (SD s) (k + 2) o))), some (.int (iI ((k : Int)))), x8, x9, x10]) (st' := [.ref (c + 30), .ref (c + 30)]) rfl rfl ?_
    refine go_get (v := .ref (c + 4)) rfl (S1.1.1 19 (by decide)) rfl rfl ?_
    refine go_a (pc' := 190) (ls' := [some (.ref (c + 30)), some (.int (iI o)), some (.int (iI ((M : Int)))), some (.int (iI e)), some (.ref t4), some (.ref t5), some (.int (iI (rt (SD s) (k + 2) o))), some (.int (iI ((k : Int)))), x8, x9, x10]) (st' := [.int (iI o), .ref (c + 4), .ref (c + 30)]) rfl rfl ?_
    refine go_a (pc' := 191) (ls' := [some (.ref (c + 30)), some (.int (iI o)), some (.int (iI ((M : Int)))), some (.int (iI e)), some (.ref t4), some (.ref t5), some (.int (iI (rt (SD s) (k + 2) o))), some (.int (iI ((k : Int)))), x8, x9, x10]) (st' := [.int (iI 1), .int (iI o), .ref (c + 4), .ref (c + 30)]) rfl rfl ?_
    refine go_v (m := 202) (as := [.ref (c + 4), .int (iI o), .int (iI 1)]) (r := [.ref (c + 30)]) rfl rfl rfl (S1.1.1 3 (by decide)) rfl rfl (kq_part z (d + 6) S1 hP.2.2.1 ho hL (by omega) (by omega) (by omega)) (fun v1 h1 hq => ?_)
    obtain ⟨rfl, eq1⟩ := hq
    rw [eq1]
    clear eq1 h1
    show xx_go (xt_P z) (d + 8) 279 194 [some (.ref (c + 30)), some (.int (iI o)), some (.int (iI ((M : Int)))), some (.int (iI e)), some (.ref t4), some (.ref t5), some (.int (iI (rt (SD s) (k + 2) o))), some (.int (iI ((k : Int)))), x8, x9, x10] [.int (iI (pi s 1 o)), .ref (c + 30)] h0 _
    refine go_a (pc' := 195) (ls' := [some (.ref (c + 30)), some (.int (iI o)), some (.int (iI ((M : Int)))), some (.int (iI e)), some (.ref t4), some (.ref t5), some (.int (iI (rt (SD s) (k + 2) o))), some (.int (iI ((k : Int)))), x8, x9, x10]) (st' := [.int (iI e), .int (iI (pi s 1 o)), .ref (c + 30)]) rfl rfl ?_
    refine go_a (pc' := 196) (ls' := [some (.ref (c + 30)), some (.int (iI o)), some (.int (iI ((M : Int)))), some (.int (iI e)), some (.ref t4), some (.ref t5), some (.int (iI (rt (SD s) (k + 2) o))), some (.int (iI ((k : Int)))), x8, x9, x10]) (st' := [.int (iI 1), .int (iI e), .int (iI (pi s 1 o)), .ref (c + 30)]) rfl rfl ?_
    refine mi_add rfl ?_
    refine go_v (m := 245) (as := [.ref (c + 30), .int (iI (pi s 1 o)), .int (iI (e + 1))]) (r := []) rfl rfl rfl (S1.1.1 19 (by decide)) rfl rfl (kq_sub R hP S1 o1 (by omega) (by omega)) (fun v2 h2 hq => ?_)
    obtain ⟨s2, hv⟩ := hq
    rcases hv with ⟨rfl, S2, X2n⟩ | ⟨y2, rfl, l2, C2, S2, g2, X2⟩
    · show xx_go (xt_P z) (d + 8) 279 200 [some (.ref (c + 30)), some (.int (iI o)), some (.int (iI ((M : Int)))), some (.int (iI e)), some (.ref t4), some (.ref t5), some (.int (iI (rt (SD s) (k + 2) o))), some (.int (iI ((k : Int)))), x8, x9, x10] [.null] h2 _
      refine go_a (pc' := 202) (ls' := [some (.ref (c + 30)), some (.int (iI o)), some (.int (iI ((M : Int)))), some (.int (iI e)), some (.ref t4), some (.ref t5), some (.int (iI (rt (SD s) (k + 2) o))), some (.null), x8, x9, x10]) (st' := []) rfl rfl ?_
      refine go_a (pc' := 204) (ls' := [some (.ref (c + 30)), some (.int (iI o)), some (.int (iI ((M : Int)))), some (.int (iI e)), some (.ref t4), some (.ref t5), some (.int (iI (rt (SD s) (k + 2) o))), some (.null), x8, x9, x10]) (st' := [.null]) rfl rfl ?_
      refine go_a (pc' := 207) (ls' := [some (.ref (c + 30)), some (.int (iI o)), some (.int (iI ((M : Int)))), some (.int (iI e)), some (.ref t4), some (.ref t5), some (.int (iI (rt (SD s) (k + 2) o))), some (.null), x8, x9, x10]) (st' := []) rfl rfl ?_
      refine go_a (pc' := 208) (ls' := [some (.ref (c + 30)), some (.int (iI o)), some (.int (iI ((M : Int)))), some (.int (iI e)), some (.ref t4), some (.ref t5), some (.int (iI (rt (SD s) (k + 2) o))), some (.null), x8, x9, x10]) (st' := [.null]) rfl rfl ?_
      exact go_r rfl rfl rfl rfl rfl rfl ⟨_, Or.inl ⟨rfl, KST_w S2 (by omega) (by omega) (by omega)⟩⟩
    · have z2 := S2.2.2.2.2.2
      have lu2 : s2.I 8 ≤ 25000 := by omega
      have e2 : s2.I 8 = s2.I 8 := rfl
      have u38 := KB_38 S2.2.1
      have Ot5_2 := OTK_u (OTK_kx OT X2) (show _ ≤ s2.I 8 by omega)
      obtain ⟨At4_2, kAt4_2⟩ := KAL_kx A4 K4 X2
      obtain ⟨mC2, wC2, cC2⟩ := CL_cell C2
      show xx_go (xt_P z) (d + 8) 279 200 [some (.ref (c + 30)), some (.int (iI o)), some (.int (iI ((M : Int)))), some (.int (iI e)), some (.ref t4), some (.ref t5), some (.int (iI (rt (SD s) (k + 2) o))), some (.int (iI ((k : Int)))), x8, x9, x10] [.ref y2] h2 _
      refine go_a (pc' := 202) (ls' := [some (.ref (c + 30)), some (.int (iI o)), some (.int (iI ((M : Int)))), some (.int (iI e)), some (.ref t4), some (.ref t5), some (.int (iI (rt (SD s) (k + 2) o))), some (.ref y2), x8, x9, x10]) (st' := []) rfl rfl ?_
      refine go_a (pc' := 204) (ls' := [some (.ref (c + 30)), some (.int (iI o)), some (.int (iI ((M : Int)))), some (.int (iI e)), some (.ref t4), some (.ref t5), some (.int (iI (rt (SD s) (k + 2) o))), some (.ref y2), x8, x9, x10]) (st' := [.ref y2]) rfl rfl ?_
      refine go_a (pc' := 209) (ls' := [some (.ref (c + 30)), some (.int (iI o)), some (.int (iI ((M : Int)))), some (.int (iI e)), some (.ref t4), some (.ref t5), some (.int (iI (rt (SD s) (k + 2) o))), some (.ref y2), x8, x9, x10]) (st' := []) rfl rfl ?_
      have l12_3 : 12 ≤ h2.length := by have := ki_lt S2.1 (i := 0) (by decide); have := S2.1.2.1 0 (by decide); omega
      refine go_new (ci := 12) (fs := [.null, .int 0, .int 0, .int 0]) rfl rfl rfl ?_
      show xx_go (xt_P z) (d + 8) 279 212 [some (.ref (c + 30)), some (.int (iI o)), some (.int (iI ((M : Int)))), some (.int (iI e)), some (.ref t4), some (.ref t5), some (.int (iI (rt (SD s) (k + 2) o))), some (.ref y2), x8, x9, x10] [.ref h2.length] (h2 ++ [.inr (12, [.null, .int 0, .int 0, .int 0])]) _
      refine go_a (pc' := 213) (ls' := [some (.ref (c + 30)), some (.int (iI o)), some (.int (iI ((M : Int)))), some (.int (iI e)), some (.ref t4), some (.ref t5), some (.int (iI (rt (SD s) (k + 2) o))), some (.ref y2), x8, x9, x10]) (st' := [.ref h2.length, .ref h2.length]) rfl rfl ?_
      refine go_i (m := 257) (as := [.ref h2.length]) (r := [.ref h2.length]) rfl rfl rfl rfl rfl (kh_init z (d + 7) h2 l12_3) (fun v3 h3 hq => ?_)
      obtain ⟨rfl, rfl⟩ := hq
      obtain ⟨K3, X3, B3⟩ := mkC_CL (u := (s2.I 8)) S2.1
      have C3 : CL c (mkC h2) s2 (s2.I 8) h2.length 0 := ⟨_, _, _, _, _, B3⟩
      have S3 := KST_X S2 K3 X3
      obtain ⟨x3, ex3⟩ : ∃ q : Nat, q = h2.length := ⟨_, rfl⟩
      have ne_y2_x3 : y2 ≠ x3 := by have := (List.getElem?_eq_some_iff.mp cC2).1; omega
      have ne_t5_x3 : t5 ≠ x3 := by have := (List.getElem?_eq_some_iff.mp Ot5_2.1).1; omega
      have ne1_t5_x3 : t5 ≠ x3 + 1 := by have := (List.getElem?_eq_some_iff.mp Ot5_2.1).1; omega
      have Cy2_3 := CL_kx C2 X3
      obtain ⟨mCy2_3, wCy2_3, cCy2_3⟩ := CL_cell Cy2_3
      have Ot5_3 := OTK_kx Ot5_2 X3
      obtain ⟨At4_3, kAt4_3⟩ := KAL_kx At4_2 kAt4_2 X3
      obtain ⟨hM3, eM3⟩ : ∃ q : xx_H, q = mkC h2 := ⟨_, rfl⟩
      have hx3 : hp.length ≤ x3 := by rw [ex3]; exact KST_len S2
      rw [← ex3] at C3
      rw [← eM3, ← ex3]
      obtain ⟨mC3, wC3, cC3⟩ := CL_cell C3
      rw [← eM3] at S3 C3 cC3 Cy2_3 cCy2_3 At4_3 Ot5_3
      clear B3 K3 X3
      show xx_go (xt_P z) (d + 8) 279 216 [some (.ref (c + 30)), some (.int (iI o)), some (.int (iI ((M : Int)))), some (.int (iI e)), some (.ref t4), some (.ref t5), some (.int (iI (rt (SD s) (k + 2) o))), some (.ref y2), x8, x9, x10] [.ref x3] hM3 _
      have ne_t5_x3 : t5 ≠ x3 ∧ t5 ≠ x3 + 1 := ⟨ne_t5_x3, ne1_t5_x3⟩
      refine go_a (pc' := 218) (ls' := [some (.ref (c + 30)), some (.int (iI o)), some (.int (iI ((M : Int)))), some (.int (iI e)), some (.ref t4), some (.ref t5), some (.int (iI (rt (SD s) (k + 2) o))), some (.ref y2), some (.ref x3), x9, x10]) (st' := []) rfl rfl ?_
      refine go_a (pc' := 219) (ls' := [some (.ref (c + 30)), some (.int (iI o)), some (.int (iI ((M : Int)))), some (.int (iI e)), some (.ref t4), some (.ref t5), some (.int (iI (rt (SD s) (k + 2) o))), some (.ref y2), some (.ref x3), x9, x10]) (st' := [.int (iI 0)]) rfl rfl ?_
      refine go_a (pc' := 221) (ls' := [some (.ref (c + 30)), some (.int (iI o)), some (.int (iI ((M : Int)))), some (.int (iI e)), some (.ref t4), some (.ref t5), some (.int (iI (rt (SD s) (k + 2) o))), some (.ref y2), some (.ref x3), some (.int (iI 0)), x10]) (st' := []) rfl rfl ?_
      obtain ⟨mD4, wD4, OD4, nD4, fD4, D4⟩ := id Cy2_3
      have em : (M : Int) = k := by omega
      rw [em]
      rw [em] at Ot5_3
      have MX : ∃ Mx : Int, 1 ≤ Mx ∧ (∀ j : Int, 0 ≤ j → j < (k : Int) → nO j ≤ Mx) ∧ (Mx = 1 ∨ 3 ≤ (VD (SD s) (rt (SD s) 2 o) - VD (SD s) (rt (SD s) (k + 2) o))) := by
        rcases hz with hz | hz
        · exact ⟨1, by decide, hz, Or.inl rfl⟩
        · refine ⟨120, by decide, fun j j0 j1 => ?_, Or.inr hz⟩
          obtain ⟨a, -, -, T⟩ := Ot5_3.2.2.2 j j0 (by omega)
          exact (TM_n T).2
      obtain ⟨Mx, M1, hM, M2⟩ := MX
      exact kq_inst_l2 z d c o e k _ (WD (SD s) o) _ (100 * WD (SD s) o - 446) (700 * WD (SD s) o - 2390 - (if Mx = 1 then 430 else 3630)) (WD (SD s) o) hp s t4 t5 y2 x3 _ _ mD4 wD4 _ OD4 nD4 fD4 _ g O nO fO Mx M1 hM hx3 ne_y2_x3 ne_t5_x3 (by omega) (by omega) (by omega) mD4.toNat 0 _ _ _ (by omega) D4.2.2.2.1.1 (KST_w S3 (by omega) (by rw [csl_0]; rcases M2 with q | q <;> split <;> omega) (by omega)) e2 D4 C3 At4_3 kAt4_3 Ot5_3
  | succ j ih =>
    intro k x8 x9 x10 g O nO fO h0 s1 hj k1 S1 e1 A4 K4 OT hco hz
    have mR := OT.2.2.1
    have mq := isL_VD (I := UI s) hP.2.2.1.1 (CI_n0 hP.2.2.1) q o ho.1 ho.2 hL
    have v0 : VD (SD s) (rt (SD s) 0 o) = VD (SD s) o := rfl
    have vk : 0 ≤ VD (SD s) (rt (SD s) (k + 2) o) := (PI_w hP.2.2.1 ho hL (j := k + 1) (by omega)).2.2.2
    have l5 := (List.getElem?_eq_some_iff.mp OT.1).1
    refine go_a (pc' := 49) (ls' := [some (.ref (c + 30)), some (.int (iI o)), some (.int (iI ((M : Int)))), some (.int (iI e)), some (.ref t4), some (.ref t5), some (.int (iI (rt (SD s) (k + 2) o))), some (.int (iI ((k : Int)))), x8, x9, x10]) (st' := [.int (iI ((k : Int)))]) rfl rfl ?_
    refine go_a (pc' := 50) (ls' := [some (.ref (c + 30)), some (.int (iI o)), some (.int (iI ((M : Int)))), some (.int (iI e)), some (.ref t4), some (.ref t5), some (.int (iI (rt (SD s) (k + 2) o))), some (.int (iI ((k : Int)))), x8, x9, x10]) (st' := [.int (iI ((M : Int))), .int (iI ((k : Int)))]) rfl rfl ?_
    refine mi_ge (t := 184) rfl rfl (by omega) (by omega) (by omega) (by omega) (fun w1 => ?_) (fun w1 => ?_)
    · refine go_a (pc' := 185) (ls' := [some (.ref (c + 30)), some (.int (iI o)), some (.int (iI ((M : Int)))), some (.int (iI e)), some (.ref t4), some (.ref t5), some (.int (iI (rt (SD s) (k + 2) o))), some (.int (iI ((k : Int)))), x8, x9, x10]) (st' := [.ref (c + 30)]) rfl rfl ?_
      refine go_a (pc' := 186) (ls' := [some (.ref (c + 30)), some (.int (iI o)), some (.int (iI ((M : Int)))), some (.int (iI e)), some (.ref t4), some (.ref t5), some (.int (iI (rt (SD s) (k + 2) o))), some (.int (iI ((k : Int)))), x8, x9, x10]) (st' := [.ref (c + 30), .ref (c + 30)]) rfl rfl ?_
      refine go_get (v := .ref (c + 4)) rfl (S1.1.1 19 (by decide)) rfl rfl ?_
      refine go_a (pc' := 190) (ls' := [some (.ref (c + 30)), some (.int (iI o)), some (.int (iI ((M : Int)))), some (.int (iI e)), some (.ref t4), some (.ref t5), some (.int (iI (rt (SD s) (k + 2) o))), some (.int (iI ((k : Int)))), x8, x9, x10]) (st' := [.int (iI o), .ref (c + 4), .ref (c + 30)]) rfl rfl ?_
      refine go_a (pc' := 191) (ls' := [some (.ref (c + 30)), some (.int (iI o)), some (.int (iI ((M : Int)))), some (.int (iI e)), some (.ref t4), some (.ref t5), some (.int (iI (rt (SD s) (k + 2) o))), some (.int (iI ((k : Int)))), x8, x9, x10]) (st' := [.int (iI 1), .int (iI o), .ref (c + 4), .ref (c + 30)]) rfl rfl ?_
      refine go_v (m := 202) (as := [.ref (c + 4), .int (iI o), .int (iI 1)]) (r := [.ref (c + 30)]) rfl rfl rfl (S1.1.1 3 (by decide)) rfl rfl (kq_part z (d + 6) S1 hP.2.2.1 ho hL (by omega) (by omega) (by omega)) (fun v1 h1 hq => ?_)
      obtain ⟨rfl, eq1⟩ := hq
      rw [eq1]
      clear eq1 h1
      show xx_go (xt_P z) (d + 8) 279 194 [some (.ref (c + 30)), some (.int (iI o)), some (.int (iI ((M : Int)))), some (.int (iI e)), some (.ref t4), some (.ref t5), some (.int (iI (rt (SD s) (k + 2) o))), some (.int (iI ((k : Int)))), x8, x9, x10] [.int (iI (pi s 1 o)), .ref (c + 30)] h0 _
      refine go_a (pc' := 195) (ls' := [some (.ref (c + 30)), some (.int (iI o)), some (.int (iI ((M : Int)))), some (.int (iI e)), some (.ref t4), some (.ref t5), some (.int (iI (rt (SD s) (k + 2) o))), some (.int (iI ((k : Int)))), x8, x9, x10]) (st' := [.int (iI e), .int (iI (pi s 1 o)), .ref (c + 30)]) rfl rfl ?_
      refine go_a (pc' := 196) (ls' := [some (.ref (c + 30)), some (.int (iI o)), some (.int (iI ((M : Int)))), some (.int (iI e)), some (.ref t4), some (.ref t5), some (.int (iI (rt (SD s) (k + 2) o))), some (.int (iI ((k : Int)))), x8, x9, x10]) (st' := [.int (iI 1), .int (iI e), .int (iI (pi s 1 o)), .ref (c + 30)]) rfl rfl ?_
      refine mi_add rfl ?_
      refine go_v (m := 245) (as := [.ref (c + 30), .int (iI (pi s 1 o)), .int (iI (e + 1))]) (r := []) rfl rfl rfl (S1.1.1 19 (by decide)) rfl rfl (kq_sub R hP S1 o1 (by omega) (by omega)) (fun v2 h2 hq => ?_)
      obtain ⟨s2, hv⟩ := hq
      rcases hv with ⟨rfl, S2, X2n⟩ | ⟨y2, rfl, l2, C2, S2, g2, X2⟩
      · show xx_go (xt_P z) (d + 8) 279 200 [some (.ref (c + 30)), some (.int (iI o)), some (.int (iI ((M : Int)))), some (.int (iI e)), some (.ref t4), some (.ref t5), some (.int (iI (rt (SD s) (k + 2) o))), some (.int (iI ((k : Int)))), x8, x9, x10] [.null] h2 _
        refine go_a (pc' := 202) (ls' := [some (.ref (c + 30)), some (.int (iI o)), some (.int (iI ((M : Int)))), some (.int (iI e)), some (.ref t4), some (.ref t5), some (.int (iI (rt (SD s) (k + 2) o))), some (.null), x8, x9, x10]) (st' := []) rfl rfl ?_
        refine go_a (pc' := 204) (ls' := [some (.ref (c + 30)), some (.int (iI o)), some (.int (iI ((M : Int)))), some (.int (iI e)), some (.ref t4), some (.ref t5), some (.int (iI (rt (SD s) (k + 2) o))), some (.null), x8, x9, x10]) (st' := [.null]) rfl rfl ?_
        refine go_a (pc' := 207) (ls' := [some (.ref (c + 30)), some (.int (iI o)), some (.int (iI ((M : Int)))), some (.int (iI e)), some (.ref t4), some (.ref t5), some (.int (iI (rt (SD s) (k + 2) o))), some (.null), x8, x9, x10]) (st' := []) rfl rfl ?_
        refine go_a (pc' := 208) (ls' := [some (.ref (c + 30)), some (.int (iI o)), some (.int (iI ((M : Int)))), some (.int (iI e)), some (.ref t4), some (.ref t5), some (.int (iI (rt (SD s) (k + 2) o))), some (.null), x8, x9, x10]) (st' := [.null]) rfl rfl ?_
        exact go_r rfl rfl rfl rfl rfl rfl ⟨_, Or.inl ⟨rfl, KST_w S2 (by omega) (by omega) (by omega)⟩⟩
      · have z2 := S2.2.2.2.2.2
        have lu2 : s2.I 8 ≤ 25000 := by omega
        have e2 : s2.I 8 = s2.I 8 := rfl
        have u38 := KB_38 S2.2.1
        have Ot5_2 := OTK_u (OTK_kx OT X2) (show _ ≤ s2.I 8 by omega)
        obtain ⟨At4_2, kAt4_2⟩ := KAL_kx A4 K4 X2
        obtain ⟨mC2, wC2, cC2⟩ := CL_cell C2
        show xx_go (xt_P z) (d + 8) 279 200 [some (.ref (c + 30)), some (.int (iI o)), some (.int (iI ((M : Int)))), some (.int (iI e)), some (.ref t4), some (.ref t5), some (.int (iI (rt (SD s) (k + 2) o))), some (.int (iI ((k : Int)))), x8, x9, x10] [.ref y2] h2 _
        refine go_a (pc' := 202) (ls' := [some (.ref (c + 30)), some (.int (iI o)), some (.int (iI ((M : Int)))), some (.int (iI e)), some (.ref t4), some (.ref t5), some (.int (iI (rt (SD s) (k + 2) o))), some (.ref y2), x8, x9, x10]) (st' := []) rfl rfl ?_
        refine go_a (pc' := 204) (ls' := [some (.ref (c + 30)), some (.int (iI o)), some (.int (iI ((M : Int)))), some (.int (iI e)), some (.ref t4), some (.ref t5), some (.int (iI (rt (SD s) (k + 2) o))), some (.ref y2), x8, x9, x10]) (st' := [.ref y2]) rfl rfl ?_
        refine go_a (pc' := 209) (ls' := [some (.ref (c + 30)), some (.int (iI o)), some (.int (iI ((M : Int)))), some (.int (iI e)), some (.ref t4), some (.ref t5), some (.int (iI (rt (SD s) (k + 2) o))), some (.ref y2), x8, x9, x10]) (st' := []) rfl rfl ?_
        have l12_3 : 12 ≤ h2.length := by have := ki_lt S2.1 (i := 0) (by decide); have := S2.1.2.1 0 (by decide); omega
        refine go_new (ci := 12) (fs := [.null, .int 0, .int 0, .int 0]) rfl rfl rfl ?_
        show xx_go (xt_P z) (d + 8) 279 212 [some (.ref (c + 30)), some (.int (iI o)), some (.int (iI ((M : Int)))), some (.int (iI e)), some (.ref t4), some (.ref t5), some (.int (iI (rt (SD s) (k + 2) o))), some (.ref y2), x8, x9, x10] [.ref h2.length] (h2 ++ [.inr (12, [.null, .int 0, .int 0, .int 0])]) _
        refine go_a (pc' := 213) (ls' := [some (.ref (c + 30)), some (.int (iI o)), some (.int (iI ((M : Int)))), some (.int (iI e)), some (.ref t4), some (.ref t5), some (.int (iI (rt (SD s) (k + 2) o))), some (.ref y2), x8, x9, x10]) (st' := [.ref h2.length, .ref h2.length]) rfl rfl ?_
        refine go_i (m := 257) (as := [.ref h2.length]) (r := [.ref h2.length]) rfl rfl rfl rfl rfl (kh_init z (d + 7) h2 l12_3) (fun v3 h3 hq => ?_)
        obtain ⟨rfl, rfl⟩ := hq
        obtain ⟨K3, X3, B3⟩ := mkC_CL (u := (s2.I 8)) S2.1
        have C3 : CL c (mkC h2) s2 (s2.I 8) h2.length 0 := ⟨_, _, _, _, _, B3⟩
        have S3 := KST_X S2 K3 X3
        obtain ⟨x3, ex3⟩ : ∃ q : Nat, q = h2.length := ⟨_, rfl⟩
        have ne_y2_x3 : y2 ≠ x3 := by have := (List.getElem?_eq_some_iff.mp cC2).1; omega
        have ne_t5_x3 : t5 ≠ x3 := by have := (List.getElem?_eq_some_iff.mp Ot5_2.1).1; omega
        have ne1_t5_x3 : t5 ≠ x3 + 1 := by have := (List.getElem?_eq_some_iff.mp Ot5_2.1).1; omega
        have Cy2_3 := CL_kx C2 X3
        obtain ⟨mCy2_3, wCy2_3, cCy2_3⟩ := CL_cell Cy2_3
        have Ot5_3 := OTK_kx Ot5_2 X3
        obtain ⟨At4_3, kAt4_3⟩ := KAL_kx At4_2 kAt4_2 X3
        obtain ⟨hM3, eM3⟩ : ∃ q : xx_H, q = mkC h2 := ⟨_, rfl⟩
        have hx3 : hp.length ≤ x3 := by rw [ex3]; exact KST_len S2
        rw [← ex3] at C3
        rw [← eM3, ← ex3]
        obtain ⟨mC3, wC3, cC3⟩ := CL_cell C3
        rw [← eM3] at S3 C3 cC3 Cy2_3 cCy2_3 At4_3 Ot5_3
        clear B3 K3 X3
        show xx_go (xt_P z) (d + 8) 279 216 [some (.ref (c + 30)), some (.int (iI o)), some (.int (iI ((M : Int)))), some (.int (iI e)), some (.ref t4), some (.ref t5), some (.int (iI (rt (SD s) (k + 2) o))), some (.ref y2), x8, x9, x10] [.ref x3] hM3 _
        have ne_t5_x3 : t5 ≠ x3 ∧ t5 ≠ x3 + 1 := ⟨ne_t5_x3, ne1_t5_x3⟩
        refine go_a (pc' := 218) (ls' := [some (.ref (c + 30)), some (.int (iI o)), some (.int (iI ((M : Int)))), some (.int (iI e)), some (.ref t4), some (.ref t5), some (.int (iI (rt (SD s) (k + 2) o))), some (.ref y2), some (.ref x3), x9, x10]) (st' := []) rfl rfl ?_
        refine go_a (pc' := 219) (ls' := [some (.ref (c + 30)), some (.int (iI o)), some (.int (iI ((M : Int)))), some (.int (iI e)), some (.ref t4), some (.ref t5), some (.int (iI (rt (SD s) (k + 2) o))), some (.ref y2), some (.ref x3), x9, x10]) (st' := [.int (iI 0)]) rfl rfl ?_
        refine go_a (pc' := 221) (ls' := [some (.ref (c + 30)), some (.int (iI o)), some (.int (iI ((M : Int)))), some (.int (iI e)), some (.ref t4), some (.ref t5), some (.int (iI (rt (SD s) (k + 2) o))), some (.ref y2), some (.ref x3), some (.int (iI 0)), x10]) (st' := []) rfl rfl ?_
        obtain ⟨mD4, wD4, OD4, nD4, fD4, D4⟩ := id Cy2_3
        have em : (M : Int) = k := by omega
        rw [em]
        rw [em] at Ot5_3
        have MX : ∃ Mx : Int, 1 ≤ Mx ∧ (∀ j : Int, 0 ≤ j → j < (k : Int) → nO j ≤ Mx) ∧ (Mx = 1 ∨ 3 ≤ (VD (SD s) (rt (SD s) 2 o) - VD (SD s) (rt (SD s) (k + 2) o))) := by
          rcases hz with hz | hz
          · exact ⟨1, by decide, hz, Or.inl rfl⟩
          · refine ⟨120, by decide, fun j j0 j1 => ?_, Or.inr hz⟩
            obtain ⟨a, -, -, T⟩ := Ot5_3.2.2.2 j j0 (by omega)
            exact (TM_n T).2
        obtain ⟨Mx, M1, hM, M2⟩ := MX
        exact kq_inst_l2 z d c o e k _ (WD (SD s) o) _ (100 * WD (SD s) o - 446) (700 * WD (SD s) o - 2390 - (if Mx = 1 then 430 else 3630)) (WD (SD s) o) hp s t4 t5 y2 x3 _ _ mD4 wD4 _ OD4 nD4 fD4 _ g O nO fO Mx M1 hM hx3 ne_y2_x3 ne_t5_x3 (by omega) (by omega) (by omega) mD4.toNat 0 _ _ _ (by omega) D4.2.2.2.1.1 (KST_w S3 (by omega) (by rw [csl_0]; rcases M2 with q | q <;> split <;> omega) (by omega)) e2 D4 C3 At4_3 kAt4_3 Ot5_3
    · obtain ⟨q1, q2, q3, q4⟩ := PI_w hP.2.2.1 ho hL (j := k + 2) (by omega)
      have vq := VD_rtl (I := UI s) hP.2.2.1.1 ho.1 ho.2 hL (k + 2) (by omega)
      have qf := (fst_OB S1.2.2.1 S1.2.1 (pi s (k + 2) o)).1
      have qf1 := qf.1
      have qf2 := qf.2
      have qR := OB_R hP.2.1 q2
      refine go_a (pc' := 54) (ls' := [some (.ref (c + 30)), some (.int (iI o)), some (.int (iI ((M : Int)))), some (.int (iI e)), some (.ref t4), some (.ref t5), some (.int (iI (rt (SD s) (k + 2) o))), some (.int (iI ((k : Int)))), x8, x9, x10]) (st' := [.ref (c + 30)]) rfl rfl ?_
      refine go_get (v := .ref (c + 4)) rfl (S1.1.1 19 (by decide)) rfl rfl ?_
      refine go_a (pc' := 59) (ls' := [some (.ref (c + 30)), some (.int (iI o)), some (.int (iI ((M : Int)))), some (.int (iI e)), some (.ref t4), some (.ref t5), some (.int (iI (rt (SD s) (k + 2) o))), some (.int (iI ((k : Int)))), x8, x9, x10]) (st' := [.int (iI (rt (SD s) (k + 2) o)), .ref (c + 4)]) rfl rfl ?_
      refine go_v (m := 197) (as := [.ref (c + 4), .int (iI (rt (SD s) (k + 2) o))]) (r := []) rfl rfl rfl (S1.1.1 3 (by decide)) rfl rfl (kq_first z (d + 7) S1 hP.2.2.1 ho hL (by omega)) (fun v1 h1 hq => ?_)
      obtain ⟨rfl, eq1⟩ := hq
      rw [eq1]
      clear eq1 h1
      show xx_go (xt_P z) (d + 8) 279 62 [some (.ref (c + 30)), some (.int (iI o)), some (.int (iI ((M : Int)))), some (.int (iI e)), some (.ref t4), some (.ref t5), some (.int (iI (rt (SD s) (k + 2) o))), some (.int (iI ((k : Int)))), x8, x9, x10] [.int (iI (pi s (k + 2) o))] h0 _
      refine go_a (pc' := 64) (ls' := [some (.ref (c + 30)), some (.int (iI o)), some (.int (iI ((M : Int)))), some (.int (iI e)), some (.ref t4), some (.ref t5), some (.int (iI (rt (SD s) (k + 2) o))), some (.int (iI ((k : Int)))), some (.int (iI (pi s (k + 2) o))), x9, x10]) (st' := []) rfl rfl ?_
      refine go_a (pc' := 65) (ls' := [some (.ref (c + 30)), some (.int (iI o)), some (.int (iI ((M : Int)))), some (.int (iI e)), some (.ref t4), some (.ref t5), some (.int (iI (rt (SD s) (k + 2) o))), some (.int (iI ((k : Int)))), some (.int (iI (pi s (k + 2) o))), x9, x10]) (st' := [.ref (c + 30)]) rfl rfl ?_
      refine go_get (v := .ref (c + 4)) rfl (S1.1.1 19 (by decide)) rfl rfl ?_
      refine go_a (pc' := 70) (ls' := [some (.ref (c + 30)), some (.int (iI o)), some (.int (iI ((M : Int)))), some (.int (iI e)), some (.ref t4), some (.ref t5), some (.int (iI (rt (SD s) (k + 2) o))), some (.int (iI ((k : Int)))), some (.int (iI (pi s (k + 2) o))), x9, x10]) (st' := [.int (iI (pi s (k + 2) o)), .ref (c + 4)]) rfl rfl ?_
      refine go_v (m := 197) (as := [.ref (c + 4), .int (iI (pi s (k + 2) o))]) (r := []) rfl rfl rfl (S1.1.1 3 (by decide)) rfl rfl (kc_first z (d + 7) c (pi s (k + 2) o) h0 s1 S1.1 S1.2.1 (by omega) (by omega)) (fun v2 h2 hq => ?_)
      obtain ⟨rfl, eq2⟩ := hq
      rw [eq2]
      clear eq2 h2
      show xx_go (xt_P z) (d + 8) 279 73 [some (.ref (c + 30)), some (.int (iI o)), some (.int (iI ((M : Int)))), some (.int (iI e)), some (.ref t4), some (.ref t5), some (.int (iI (rt (SD s) (k + 2) o))), some (.int (iI ((k : Int)))), some (.int (iI (pi s (k + 2) o))), x9, x10] [.int (iI (fst s1 (pi s (k + 2) o)))] h0 _
      refine go_a (pc' := 75) (ls' := [some (.ref (c + 30)), some (.int (iI o)), some (.int (iI ((M : Int)))), some (.int (iI e)), some (.ref t4), some (.ref t5), some (.int (iI (rt (SD s) (k + 2) o))), some (.int (iI ((k : Int)))), some (.int (iI (pi s (k + 2) o))), some (.int (iI (fst s1 (pi s (k + 2) o)))), x10]) (st' := []) rfl rfl ?_
      refine go_a (pc' := 77) (ls' := [some (.ref (c + 30)), some (.int (iI o)), some (.int (iI ((M : Int)))), some (.int (iI e)), some (.ref t4), some (.ref t5), some (.int (iI (rt (SD s) (k + 2) o))), some (.int (iI ((k : Int)))), some (.int (iI (pi s (k + 2) o))), some (.int (iI (fst s1 (pi s (k + 2) o)))), x10]) (st' := [.int (iI (fst s1 (pi s (k + 2) o)))]) rfl rfl ?_
      refine go_s (m := 204) (as := [.int (iI (fst s1 (pi s (k + 2) o)))]) (r := []) rfl rfl rfl rfl (kg_variable z (d + 7) (fst s1 (pi s (k + 2) o)) h0 (by omega) (by omega)) (fun v3 h3 hq => ?_)
      obtain ⟨rfl, eq3⟩ := hq
      rw [eq3]
      clear eq3 h3
      show xx_go (xt_P z) (d + 8) 279 80 [some (.ref (c + 30)), some (.int (iI o)), some (.int (iI ((M : Int)))), some (.int (iI e)), some (.ref t4), some (.ref t5), some (.int (iI (rt (SD s) (k + 2) o))), some (.int (iI ((k : Int)))), some (.int (iI (pi s (k + 2) o))), some (.int (iI (fst s1 (pi s (k + 2) o)))), x10] [.int (iI (fst s1 (pi s (k + 2) o) * 32))] h0 _
      refine go_a (pc' := 82) (ls' := [some (.ref (c + 30)), some (.int (iI o)), some (.int (iI ((M : Int)))), some (.int (iI e)), some (.ref t4), some (.ref t5), some (.int (iI (rt (SD s) (k + 2) o))), some (.int (iI ((k : Int)))), some (.int (iI (pi s (k + 2) o))), some (.int (iI (fst s1 (pi s (k + 2) o)))), some (.int (iI (fst s1 (pi s (k + 2) o) * 32)))]) (st' := []) rfl rfl ?_
      refine go_a (pc' := 83) (ls' := [some (.ref (c + 30)), some (.int (iI o)), some (.int (iI ((M : Int)))), some (.int (iI e)), some (.ref t4), some (.ref t5), some (.int (iI (rt (SD s) (k + 2) o))), some (.int (iI ((k : Int)))), some (.int (iI (pi s (k + 2) o))), some (.int (iI (fst s1 (pi s (k + 2) o)))), some (.int (iI (fst s1 (pi s (k + 2) o) * 32)))]) (st' := [.ref (c + 30)]) rfl rfl ?_
      refine go_get (v := .ref (c + 4)) rfl (S1.1.1 19 (by decide)) rfl rfl ?_
      refine go_a (pc' := 88) (ls' := [some (.ref (c + 30)), some (.int (iI o)), some (.int (iI ((M : Int)))), some (.int (iI e)), some (.ref t4), some (.ref t5), some (.int (iI (rt (SD s) (k + 2) o))), some (.int (iI ((k : Int)))), some (.int (iI (pi s (k + 2) o))), some (.int (iI (fst s1 (pi s (k + 2) o)))), some (.int (iI (fst s1 (pi s (k + 2) o) * 32)))]) (st' := [.int (iI (pi s (k + 2) o)), .ref (c + 4)]) rfl rfl ?_
      have no : xx_go (xt_P z) (d + 8) 279 118 [some (.ref (c + 30)), some (.int (iI o)), some (.int (iI ((M : Int)))), some (.int (iI e)), some (.ref t4), some (.ref t5), some (.int (iI (rt (SD s) (k + 2) o))), some (.int (iI ((k : Int)))), some (.int (iI (pi s (k + 2) o))), some (.int (iI (fst s1 (pi s (k + 2) o)))), some (.int (iI (fst s1 (pi s (k + 2) o) * 32)))] [] h0 (fun v h1 => PRP c hp s (WD (SD s) o) v h1) := by
        refine go_a (pc' := 119) (ls' := [some (.ref (c + 30)), some (.int (iI o)), some (.int (iI ((M : Int)))), some (.int (iI e)), some (.ref t4), some (.ref t5), some (.int (iI (rt (SD s) (k + 2) o))), some (.int (iI ((k : Int)))), some (.int (iI (pi s (k + 2) o))), some (.int (iI (fst s1 (pi s (k + 2) o)))), some (.int (iI (fst s1 (pi s (k + 2) o) * 32)))]) (st' := [.ref (c + 30)]) rfl rfl ?_
        refine go_a (pc' := 120) (ls' := [some (.ref (c + 30)), some (.int (iI o)), some (.int (iI ((M : Int)))), some (.int (iI e)), some (.ref t4), some (.ref t5), some (.int (iI (rt (SD s) (k + 2) o))), some (.int (iI ((k : Int)))), some (.int (iI (pi s (k + 2) o))), some (.int (iI (fst s1 (pi s (k + 2) o)))), some (.int (iI (fst s1 (pi s (k + 2) o) * 32)))]) (st' := [.int (iI o), .ref (c + 30)]) rfl rfl ?_
        refine go_v (m := 248) (as := [.ref (c + 30), .int (iI o)]) (r := []) rfl rfl rfl (S1.1.1 19 (by decide)) rfl rfl (kq_failAtP z (d + 7) (w := WD (SD s) o) S1 (by omega) (by omega) (by omega) (by omega) (by omega)) (fun v4 h4 hq => ?_)
        obtain ⟨rfl, R4⟩ := hq
        show xx_go (xt_P z) (d + 8) 279 123 [some (.ref (c + 30)), some (.int (iI o)), some (.int (iI ((M : Int)))), some (.int (iI e)), some (.ref t4), some (.ref t5), some (.int (iI (rt (SD s) (k + 2) o))), some (.int (iI ((k : Int)))), some (.int (iI (pi s (k + 2) o))), some (.int (iI (fst s1 (pi s (k + 2) o)))), some (.int (iI (fst s1 (pi s (k + 2) o) * 32)))] [.null] h4 _
        exact go_r rfl rfl rfl rfl rfl rfl R4
      refine go_v (m := 198) (as := [.ref (c + 4), .int (iI (pi s (k + 2) o))]) (r := []) rfl rfl rfl (S1.1.1 3 (by decide)) rfl rfl (kq_len z (d + 6) S1 hP.2.2.1 q2) (fun v h3 hq => ?_)
      obtain ⟨⟨n, rfl, nR, hn⟩, e9⟩ := hq
      rw [e9]
      clear e9 h3
      show xx_go (xt_P z) (d + 8) 279 91 [some (.ref (c + 30)), some (.int (iI o)), some (.int (iI ((M : Int)))), some (.int (iI e)), some (.ref t4), some (.ref t5), some (.int (iI (rt (SD s) (k + 2) o))), some (.int (iI ((k : Int)))), some (.int (iI (pi s (k + 2) o))), some (.int (iI (fst s1 (pi s (k + 2) o)))), some (.int (iI (fst s1 (pi s (k + 2) o) * 32)))] [.int (iI n)] h0 _
      refine go_a (pc' := 92) (ls' := [some (.ref (c + 30)), some (.int (iI o)), some (.int (iI ((M : Int)))), some (.int (iI e)), some (.ref t4), some (.ref t5), some (.int (iI (rt (SD s) (k + 2) o))), some (.int (iI ((k : Int)))), some (.int (iI (pi s (k + 2) o))), some (.int (iI (fst s1 (pi s (k + 2) o)))), some (.int (iI (fst s1 (pi s (k + 2) o) * 32)))]) (st' := [.int (iI 2), .int (iI n)]) rfl rfl ?_
      refine mi_ne (t := 118) rfl rfl (by omega) (by omega) (by omega) (by omega) (fun _ => no) (fun w2 => ?_)
      obtain ⟨q9, en, hL2⟩ := hn.resolve_left (by omega)
      obtain rfl : q9 = 2 := by omega
      obtain ⟨t1, t2, t3⟩ := two_w hP.2.2.1 q2 hL2
      refine go_a (pc' := 96) (ls' := [some (.ref (c + 30)), some (.int (iI o)), some (.int (iI ((M : Int)))), some (.int (iI e)), some (.ref t4), some (.ref t5), some (.int (iI (rt (SD s) (k + 2) o))), some (.int (iI ((k : Int)))), some (.int (iI (pi s (k + 2) o))), some (.int (iI (fst s1 (pi s (k + 2) o)))), some (.int (iI (fst s1 (pi s (k + 2) o) * 32)))]) (st' := [.ref (c + 30)]) rfl rfl ?_
      refine go_get (v := .ref (c + 4)) rfl (S1.1.1 19 (by decide)) rfl rfl ?_
      refine go_a (pc' := 101) (ls' := [some (.ref (c + 30)), some (.int (iI o)), some (.int (iI ((M : Int)))), some (.int (iI e)), some (.ref t4), some (.ref t5), some (.int (iI (rt (SD s) (k + 2) o))), some (.int (iI ((k : Int)))), some (.int (iI (pi s (k + 2) o))), some (.int (iI (fst s1 (pi s (k + 2) o)))), some (.int (iI (fst s1 (pi s (k + 2) o) * 32)))]) (st' := [.int (iI (fst s1 (pi s (k + 2) o))), .ref (c + 4)]) rfl rfl ?_
      refine go_v (m := 205) (as := [.ref (c + 4), .int (iI (fst s1 (pi s (k + 2) o)))]) (r := []) rfl rfl rfl (S1.1.1 3 (by decide)) rfl rfl (kc_isVariable z (d + 6) c (fst s1 (pi s (k + 2) o)) h0 s1 S1.1 S1.2.1 (by omega) (by omega)) (fun v4 h4 hq => ?_)
      obtain ⟨hq, eq4⟩ := hq
      rw [eq4]
      clear eq4 h4
      rcases hq with ⟨-, rfl⟩ | ⟨-, rfl⟩
      · show xx_go (xt_P z) (d + 8) 279 104 [some (.ref (c + 30)), some (.int (iI o)), some (.int (iI ((M : Int)))), some (.int (iI e)), some (.ref t4), some (.ref t5), some (.int (iI (rt (SD s) (k + 2) o))), some (.int (iI ((k : Int)))), some (.int (iI (pi s (k + 2) o))), some (.int (iI (fst s1 (pi s (k + 2) o)))), some (.int (iI (fst s1 (pi s (k + 2) o) * 32)))] [.int (iI 1)] h0 _
        refine mi_eq0 (t := 118) rfl rfl (by omega) (by omega) (fun q => absurd q (by decide)) (fun _ => ?_)
        refine go_a (pc' := 109) (ls' := [some (.ref (c + 30)), some (.int (iI o)), some (.int (iI ((M : Int)))), some (.int (iI e)), some (.ref t4), some (.ref t5), some (.int (iI (rt (SD s) (k + 2) o))), some (.int (iI ((k : Int)))), some (.int (iI (pi s (k + 2) o))), some (.int (iI (fst s1 (pi s (k + 2) o)))), some (.int (iI (fst s1 (pi s (k + 2) o) * 32)))]) (st' := [.int (iI (fst s1 (pi s (k + 2) o) * 32))]) rfl rfl ?_
        refine go_a (pc' := 111) (ls' := [some (.ref (c + 30)), some (.int (iI o)), some (.int (iI ((M : Int)))), some (.int (iI e)), some (.ref t4), some (.ref t5), some (.int (iI (rt (SD s) (k + 2) o))), some (.int (iI ((k : Int)))), some (.int (iI (pi s (k + 2) o))), some (.int (iI (fst s1 (pi s (k + 2) o)))), some (.int (iI (fst s1 (pi s (k + 2) o) * 32)))]) (st' := [.ref t4, .int (iI (fst s1 (pi s (k + 2) o) * 32))]) rfl rfl ?_
        refine go_s (m := 207) (as := [.int (iI (fst s1 (pi s (k + 2) o) * 32)), .ref t4]) (r := []) rfl rfl rfl rfl (kg_placeOf z (d + 7) (fst s1 (pi s (k + 2) o) * 32) t4 (M : Int) g h0 A4 (by omega) (by omega)) (fun v h3 hq => ?_)
        obtain ⟨⟨j9, rfl, hj9⟩, e9⟩ := hq
        rw [e9]
        clear e9 h3
        have jR : -1 ≤ j9 ∧ j9 ≤ 1000 := by rcases hj9 with ⟨w, -⟩ | ⟨w, w2, -⟩ <;> omega
        show xx_go (xt_P z) (d + 8) 279 114 [some (.ref (c + 30)), some (.int (iI o)), some (.int (iI ((M : Int)))), some (.int (iI e)), some (.ref t4), some (.ref t5), some (.int (iI (rt (SD s) (k + 2) o))), some (.int (iI ((k : Int)))), some (.int (iI (pi s (k + 2) o))), some (.int (iI (fst s1 (pi s (k + 2) o)))), some (.int (iI (fst s1 (pi s (k + 2) o) * 32)))] [.int (iI j9)] h0 _
        refine go_a (pc' := 115) (ls' := [some (.ref (c + 30)), some (.int (iI o)), some (.int (iI ((M : Int)))), some (.int (iI e)), some (.ref t4), some (.ref t5), some (.int (iI (rt (SD s) (k + 2) o))), some (.int (iI ((k : Int)))), some (.int (iI (pi s (k + 2) o))), some (.int (iI (fst s1 (pi s (k + 2) o)))), some (.int (iI (fst s1 (pi s (k + 2) o) * 32)))]) (st' := [.int (iI ((-1))), .int (iI j9)]) rfl rfl ?_
        refine mi_eq (t := 124) rfl rfl (by omega) (by omega) (by omega) (by omega) (fun _ => ?_) (fun _ => no)
        refine go_a (pc' := 126) (ls' := [some (.ref (c + 30)), some (.int (iI o)), some (.int (iI ((M : Int)))), some (.int (iI e)), some (.ref t4), some (.ref t5), some (.int (iI (rt (SD s) (k + 2) o))), some (.int (iI ((k : Int)))), some (.int (iI (pi s (k + 2) o))), some (.int (iI (fst s1 (pi s (k + 2) o)))), some (.int (iI (fst s1 (pi s (k + 2) o) * 32)))]) (st' := [.ref t4]) rfl rfl ?_
        refine go_a (pc' := 128) (ls' := [some (.ref (c + 30)), some (.int (iI o)), some (.int (iI ((M : Int)))), some (.int (iI e)), some (.ref t4), some (.ref t5), some (.int (iI (rt (SD s) (k + 2) o))), some (.int (iI ((k : Int)))), some (.int (iI (pi s (k + 2) o))), some (.int (iI (fst s1 (pi s (k + 2) o)))), some (.int (iI (fst s1 (pi s (k + 2) o) * 32)))]) (st' := [.int (iI ((k : Int))), .ref t4]) rfl rfl ?_
        refine go_a (pc' := 130) (ls' := [some (.ref (c + 30)), some (.int (iI o)), some (.int (iI ((M : Int)))), some (.int (iI e)), some (.ref t4), some (.ref t5), some (.int (iI (rt (SD s) (k + 2) o))), some (.int (iI ((k : Int)))), some (.int (iI (pi s (k + 2) o))), some (.int (iI (fst s1 (pi s (k + 2) o)))), some (.int (iI (fst s1 (pi s (k + 2) o) * 32)))]) (st' := [.int (iI (fst s1 (pi s (k + 2) o) * 32)), .int (iI ((k : Int))), .ref t4]) rfl rfl ?_
        refine mi_ist rfl A4.1 h12 (by omega) (by omega) (by omega) ?_
        obtain ⟨F8, A8⟩ := KAL_set (e := (k : Int)) (x := fst s1 (pi s (k + 2) o) * 32) A4 (by omega) (by omega) (by omega)
        have S8 := KST_F1 S1 K4 h12 ht F8
        have O8 := OTK_F1 F8 (by omega) (by omega) OT
        obtain ⟨h8, e8⟩ : ∃ q : xx_H, q = h0.set t4 (.inl (.int, (xa_f (M : Int).toNat g).set (k : Int).toNat (.int (iI (fst s1 (pi s (k + 2) o) * 32))))) := ⟨_, rfl⟩
        rw [← e8] at F8 A8 S8 O8
        rw [← e8]
        show xx_go (xt_P z) (d + 8) 279 131 [some (.ref (c + 30)), some (.int (iI o)), some (.int (iI ((M : Int)))), some (.int (iI e)), some (.ref t4), some (.ref t5), some (.int (iI (rt (SD s) (k + 2) o))), some (.int (iI ((k : Int)))), some (.int (iI (pi s (k + 2) o))), some (.int (iI (fst s1 (pi s (k + 2) o)))), some (.int (iI (fst s1 (pi s (k + 2) o) * 32)))] [] h8 _
        refine go_a (pc' := 133) (ls' := [some (.ref (c + 30)), some (.int (iI o)), some (.int (iI ((M : Int)))), some (.int (iI e)), some (.ref t4), some (.ref t5), some (.int (iI (rt (SD s) (k + 2) o))), some (.int (iI ((k : Int)))), some (.int (iI (pi s (k + 2) o))), some (.int (iI (fst s1 (pi s (k + 2) o)))), some (.int (iI (fst s1 (pi s (k + 2) o) * 32)))]) (st' := [.ref t5]) rfl rfl ?_
        refine go_a (pc' := 135) (ls' := [some (.ref (c + 30)), some (.int (iI o)), some (.int (iI ((M : Int)))), some (.int (iI e)), some (.ref t4), some (.ref t5), some (.int (iI (rt (SD s) (k + 2) o))), some (.int (iI ((k : Int)))), some (.int (iI (pi s (k + 2) o))), some (.int (iI (fst s1 (pi s (k + 2) o)))), some (.int (iI (fst s1 (pi s (k + 2) o) * 32)))]) (st' := [.int (iI ((k : Int))), .ref t5]) rfl rfl ?_
        refine go_a (pc' := 136) (ls' := [some (.ref (c + 30)), some (.int (iI o)), some (.int (iI ((M : Int)))), some (.int (iI e)), some (.ref t4), some (.ref t5), some (.int (iI (rt (SD s) (k + 2) o))), some (.int (iI ((k : Int)))), some (.int (iI (pi s (k + 2) o))), some (.int (iI (fst s1 (pi s (k + 2) o)))), some (.int (iI (fst s1 (pi s (k + 2) o) * 32)))]) (st' := [.ref (c + 30), .int (iI ((k : Int))), .ref t5]) rfl rfl ?_
        refine go_get (v := .ref (c + 25)) rfl (S8.1.1 19 (by decide)) rfl rfl ?_
        refine go_a (pc' := 140) (ls' := [some (.ref (c + 30)), some (.int (iI o)), some (.int (iI ((M : Int)))), some (.int (iI e)), some (.ref t4), some (.ref t5), some (.int (iI (rt (SD s) (k + 2) o))), some (.int (iI ((k : Int)))), some (.int (iI (pi s (k + 2) o))), some (.int (iI (fst s1 (pi s (k + 2) o)))), some (.int (iI (fst s1 (pi s (k + 2) o) * 32)))]) (st' := [.ref (c + 30), .ref (c + 25), .int (iI ((k : Int))), .ref t5]) rfl rfl ?_
        refine go_get (v := .ref (c + 4)) rfl (S8.1.1 19 (by decide)) rfl rfl ?_
        refine go_a (pc' := 145) (ls' := [some (.ref (c + 30)), some (.int (iI o)), some (.int (iI ((M : Int)))), some (.int (iI e)), some (.ref t4), some (.ref t5), some (.int (iI (rt (SD s) (k + 2) o))), some (.int (iI ((k : Int)))), some (.int (iI (pi s (k + 2) o))), some (.int (iI (fst s1 (pi s (k + 2) o)))), some (.int (iI (fst s1 (pi s (k + 2) o) * 32)))]) (st' := [.int (iI (pi s (k + 2) o)), .ref (c + 4), .ref (c + 25), .int (iI ((k : Int))), .ref t5]) rfl rfl ?_
        refine go_a (pc' := 146) (ls' := [some (.ref (c + 30)), some (.int (iI o)), some (.int (iI ((M : Int)))), some (.int (iI e)), some (.ref t4), some (.ref t5), some (.int (iI (rt (SD s) (k + 2) o))), some (.int (iI ((k : Int)))), some (.int (iI (pi s (k + 2) o))), some (.int (iI (fst s1 (pi s (k + 2) o)))), some (.int (iI (fst s1 (pi s (k + 2) o) * 32)))]) (st' := [.int (iI 1), .int (iI (pi s (k + 2) o)), .ref (c + 4), .ref (c + 25), .int (iI ((k : Int))), .ref t5]) rfl rfl ?_
        refine go_v (m := 202) (as := [.ref (c + 4), .int (iI (pi s (k + 2) o)), .int (iI 1)]) (r := [.ref (c + 25), .int (iI ((k : Int))), .ref t5]) rfl rfl rfl (S8.1.1 3 (by decide)) rfl rfl (kq_part z (d + 6) S8 hP.2.2.1 q2 hL2 (by omega) (by omega) (by omega)) (fun v5 h5 hq => ?_)
        obtain ⟨rfl, eq5⟩ := hq
        rw [eq5]
        clear eq5 h5
        show xx_go (xt_P z) (d + 8) 279 149 [some (.ref (c + 30)), some (.int (iI o)), some (.int (iI ((M : Int)))), some (.int (iI e)), some (.ref t4), some (.ref t5), some (.int (iI (rt (SD s) (k + 2) o))), some (.int (iI ((k : Int)))), some (.int (iI (pi s (k + 2) o))), some (.int (iI (fst s1 (pi s (k + 2) o)))), some (.int (iI (fst s1 (pi s (k + 2) o) * 32)))] [.int (iI (pi s 1 (pi s (k + 2) o))), .ref (c + 25), .int (iI ((k : Int))), .ref t5] h8 _
        refine go_v (m := 211) (as := [.ref (c + 25), .int (iI (pi s 1 (pi s (k + 2) o)))]) (r := [.int (iI ((k : Int))), .ref t5]) rfl rfl rfl (S8.1.1 16 (by decide)) rfl rfl (kq_read z (d + 1) hP S8 e1 lu t2 (by omega)) (fun v6 h6 hq => ?_)
        obtain ⟨s6, E6, hv6⟩ := hq
        have S6 := KST_STE S8 E6
        have e6 := (STE_8 E6).trans e1
        have Ot5_6 := OTK_kx O8 E6.2.2.2
        obtain ⟨At4_6, kAt4_6⟩ := KAL_kx A8 K4 E6.2.2.2
        rcases hv6 with rfl | ⟨a6, n6, f6, rfl, l6, b6, T6⟩
        · show xx_go (xt_P z) (d + 8) 279 152 [some (.ref (c + 30)), some (.int (iI o)), some (.int (iI ((M : Int)))), some (.int (iI e)), some (.ref t4), some (.ref t5), some (.int (iI (rt (SD s) (k + 2) o))), some (.int (iI ((k : Int)))), some (.int (iI (pi s (k + 2) o))), some (.int (iI (fst s1 (pi s (k + 2) o)))), some (.int (iI (fst s1 (pi s (k + 2) o) * 32)))] [.null, .int (iI ((k : Int))), .ref t5] h6 _
          have F9 := OTK_nul Ot5_6 (k : Int)
          have S9 := KST_F1 S6 Ot5_6.2.1 (by omega) (by omega) F9
          have g9 : (h6.set t5 (.inl (.object "ClauseKernel$Term", xa_r (M : Int).toNat (so O k none))))[t5]? = _ := List.getElem?_set_self (List.getElem?_eq_some_iff.mp Ot5_6.1).1
          refine mk_astN rfl Ot5_6.1 (show 12 ≤ t5 by omega) (by omega) (by omega) (by omega) ?_
          obtain ⟨h9, e9⟩ : ∃ q : xx_H, q = h6.set t5 (.inl (.object "ClauseKernel$Term", xa_r (M : Int).toNat (so O k none))) := ⟨_, rfl⟩
          rw [← e9] at F9 S9 g9
          rw [← e9]
          show xx_go (xt_P z) (d + 8) 279 153 [some (.ref (c + 30)), some (.int (iI o)), some (.int (iI ((M : Int)))), some (.int (iI e)), some (.ref t4), some (.ref t5), some (.int (iI (rt (SD s) (k + 2) o))), some (.int (iI ((k : Int)))), some (.int (iI (pi s (k + 2) o))), some (.int (iI (fst s1 (pi s (k + 2) o)))), some (.int (iI (fst s1 (pi s (k + 2) o) * 32)))] [] h9 _
          refine go_a (pc' := 155) (ls' := [some (.ref (c + 30)), some (.int (iI o)), some (.int (iI ((M : Int)))), some (.int (iI e)), some (.ref t4), some (.ref t5), some (.int (iI (rt (SD s) (k + 2) o))), some (.int (iI ((k : Int)))), some (.int (iI (pi s (k + 2) o))), some (.int (iI (fst s1 (pi s (k + 2) o)))), some (.int (iI (fst s1 (pi s (k + 2) o) * 32)))]) (st' := [.ref t5]) rfl rfl ?_
          refine go_a (pc' := 157) (ls' := [some (.ref (c + 30)), some (.int (iI o)), some (.int (iI ((M : Int)))), some (.int (iI e)), some (.ref t4), some (.ref t5), some (.int (iI (rt (SD s) (k + 2) o))), some (.int (iI ((k : Int)))), some (.int (iI (pi s (k + 2) o))), some (.int (iI (fst s1 (pi s (k + 2) o)))), some (.int (iI (fst s1 (pi s (k + 2) o) * 32)))]) (st' := [.int (iI ((k : Int))), .ref t5]) rfl rfl ?_
          refine mk_ald rfl g9 rfl (by omega) (by omega) (by omega) ?_
          rw [so_self]
          show xx_go (xt_P z) (d + 8) 279 158 [some (.ref (c + 30)), some (.int (iI o)), some (.int (iI ((M : Int)))), some (.int (iI e)), some (.ref t4), some (.ref t5), some (.int (iI (rt (SD s) (k + 2) o))), some (.int (iI ((k : Int)))), some (.int (iI (pi s (k + 2) o))), some (.int (iI (fst s1 (pi s (k + 2) o)))), some (.int (iI (fst s1 (pi s (k + 2) o) * 32)))] [.null] h9 _
          refine go_a (pc' := 161) (ls' := [some (.ref (c + 30)), some (.int (iI o)), some (.int (iI ((M : Int)))), some (.int (iI e)), some (.ref t4), some (.ref t5), some (.int (iI (rt (SD s) (k + 2) o))), some (.int (iI ((k : Int)))), some (.int (iI (pi s (k + 2) o))), some (.int (iI (fst s1 (pi s (k + 2) o)))), some (.int (iI (fst s1 (pi s (k + 2) o) * 32)))]) (st' := []) rfl rfl ?_
          refine go_a (pc' := 162) (ls' := [some (.ref (c + 30)), some (.int (iI o)), some (.int (iI ((M : Int)))), some (.int (iI e)), some (.ref t4), some (.ref t5), some (.int (iI (rt (SD s) (k + 2) o))), some (.int (iI ((k : Int)))), some (.int (iI (pi s (k + 2) o))), some (.int (iI (fst s1 (pi s (k + 2) o)))), some (.int (iI (fst s1 (pi s (k + 2) o) * 32)))]) (st' := [.ref (c + 30)]) rfl rfl ?_
          refine go_a (pc' := 163) (ls' := [some (.ref (c + 30)), some (.int (iI o)), some (.int (iI ((M : Int)))), some (.int (iI e)), some (.ref t4), some (.ref t5), some (.int (iI (rt (SD s) (k + 2) o))), some (.int (iI ((k : Int)))), some (.int (iI (pi s (k + 2) o))), some (.int (iI (fst s1 (pi s (k + 2) o)))), some (.int (iI (fst s1 (pi s (k + 2) o) * 32)))]) (st' := [.int (iI o), .ref (c + 30)]) rfl rfl ?_
          refine go_v (m := 248) (as := [.ref (c + 30), .int (iI o)]) (r := []) rfl rfl rfl (S9.1.1 19 (by decide)) rfl rfl (kq_failAtP z (d + 7) (w := WD (SD s) o) S9 (by omega) (by omega) (by omega) (by omega) (by omega)) (fun v7 h7 hq => ?_)
          obtain ⟨rfl, R7⟩ := hq
          show xx_go (xt_P z) (d + 8) 279 166 [some (.ref (c + 30)), some (.int (iI o)), some (.int (iI ((M : Int)))), some (.int (iI e)), some (.ref t4), some (.ref t5), some (.int (iI (rt (SD s) (k + 2) o))), some (.int (iI ((k : Int)))), some (.int (iI (pi s (k + 2) o))), some (.int (iI (fst s1 (pi s (k + 2) o)))), some (.int (iI (fst s1 (pi s (k + 2) o) * 32)))] [.null] h7 _
          exact go_r rfl rfl rfl rfl rfl rfl R7
        · have nn6 := TM_n T6
          show xx_go (xt_P z) (d + 8) 279 152 [some (.ref (c + 30)), some (.int (iI o)), some (.int (iI ((M : Int)))), some (.int (iI e)), some (.ref t4), some (.ref t5), some (.int (iI (rt (SD s) (k + 2) o))), some (.int (iI ((k : Int)))), some (.int (iI (pi s (k + 2) o))), some (.int (iI (fst s1 (pi s (k + 2) o)))), some (.int (iI (fst s1 (pi s (k + 2) o) * 32)))] [.ref a6, .int (iI ((k : Int))), .ref t5] h6 _
          have l8 := F8.1
          obtain ⟨F9, O9⟩ := OTK_put Ot5_6 T6 (show t5 + 1 ≤ a6 by omega)
          have S9 := KST_F1 S6 Ot5_6.2.1 (by omega) (by omega) F9
          have A9 := KAL_F1 F9 (by omega) At4_6
          refine mk_ast rfl Ot5_6.1 (show 12 ≤ t5 by omega) (TMp T6).1.1 rfl (by omega) (by omega) (by omega) ?_
          obtain ⟨h9, e9⟩ : ∃ q : xx_H, q = h6.set t5 (.inl (.object "ClauseKernel$Term", xa_r (M : Int).toNat (so O k (some a6)))) := ⟨_, rfl⟩
          rw [← e9] at F9 S9 O9 A9
          rw [← e9]
          show xx_go (xt_P z) (d + 8) 279 153 [some (.ref (c + 30)), some (.int (iI o)), some (.int (iI ((M : Int)))), some (.int (iI e)), some (.ref t4), some (.ref t5), some (.int (iI (rt (SD s) (k + 2) o))), some (.int (iI ((k : Int)))), some (.int (iI (pi s (k + 2) o))), some (.int (iI (fst s1 (pi s (k + 2) o)))), some (.int (iI (fst s1 (pi s (k + 2) o) * 32)))] [] h9 _
          refine go_a (pc' := 155) (ls' := [some (.ref (c + 30)), some (.int (iI o)), some (.int (iI ((M : Int)))), some (.int (iI e)), some (.ref t4), some (.ref t5), some (.int (iI (rt (SD s) (k + 2) o))), some (.int (iI ((k : Int)))), some (.int (iI (pi s (k + 2) o))), some (.int (iI (fst s1 (pi s (k + 2) o)))), some (.int (iI (fst s1 (pi s (k + 2) o) * 32)))]) (st' := [.ref t5]) rfl rfl ?_
          refine go_a (pc' := 157) (ls' := [some (.ref (c + 30)), some (.int (iI o)), some (.int (iI ((M : Int)))), some (.int (iI e)), some (.ref t4), some (.ref t5), some (.int (iI (rt (SD s) (k + 2) o))), some (.int (iI ((k : Int)))), some (.int (iI (pi s (k + 2) o))), some (.int (iI (fst s1 (pi s (k + 2) o)))), some (.int (iI (fst s1 (pi s (k + 2) o) * 32)))]) (st' := [.int (iI ((k : Int))), .ref t5]) rfl rfl ?_
          refine mk_ald rfl O9.1 rfl (by omega) (by omega) (by omega) ?_
          rw [so_self]
          show xx_go (xt_P z) (d + 8) 279 158 [some (.ref (c + 30)), some (.int (iI o)), some (.int (iI ((M : Int)))), some (.int (iI e)), some (.ref t4), some (.ref t5), some (.int (iI (rt (SD s) (k + 2) o))), some (.int (iI ((k : Int)))), some (.int (iI (pi s (k + 2) o))), some (.int (iI (fst s1 (pi s (k + 2) o)))), some (.int (iI (fst s1 (pi s (k + 2) o) * 32)))] [.ref a6] h9 _
          refine go_a (pc' := 167) (ls' := [some (.ref (c + 30)), some (.int (iI o)), some (.int (iI ((M : Int)))), some (.int (iI e)), some (.ref t4), some (.ref t5), some (.int (iI (rt (SD s) (k + 2) o))), some (.int (iI ((k : Int)))), some (.int (iI (pi s (k + 2) o))), some (.int (iI (fst s1 (pi s (k + 2) o)))), some (.int (iI (fst s1 (pi s (k + 2) o) * 32)))]) (st' := []) rfl rfl ?_
          refine go_a (pc' := 168) (ls' := [some (.ref (c + 30)), some (.int (iI o)), some (.int (iI ((M : Int)))), some (.int (iI e)), some (.ref t4), some (.ref t5), some (.int (iI (rt (SD s) (k + 2) o))), some (.int (iI ((k : Int)))), some (.int (iI (pi s (k + 2) o))), some (.int (iI (fst s1 (pi s (k + 2) o)))), some (.int (iI (fst s1 (pi s (k + 2) o) * 32)))]) (st' := [.ref (c + 30)]) rfl rfl ?_
          refine go_get (v := .ref (c + 4)) rfl (S9.1.1 19 (by decide)) rfl rfl ?_
          refine go_a (pc' := 173) (ls' := [some (.ref (c + 30)), some (.int (iI o)), some (.int (iI ((M : Int)))), some (.int (iI e)), some (.ref t4), some (.ref t5), some (.int (iI (rt (SD s) (k + 2) o))), some (.int (iI ((k : Int)))), some (.int (iI (pi s (k + 2) o))), some (.int (iI (fst s1 (pi s (k + 2) o)))), some (.int (iI (fst s1 (pi s (k + 2) o) * 32)))]) (st' := [.int (iI (rt (SD s) (k + 2) o)), .ref (c + 4)]) rfl rfl ?_
          refine go_v (m := 200) (as := [.ref (c + 4), .int (iI (rt (SD s) (k + 2) o))]) (r := []) rfl rfl rfl (S9.1.1 3 (by decide)) rfl rfl (kq_rest z (d + 7) S9 hP.2.2.1 ho hL (by omega)) (fun v7 h7 hq => ?_)
          obtain ⟨rfl, eq7⟩ := hq
          rw [eq7]
          clear eq7 h7
          show xx_go (xt_P z) (d + 8) 279 176 [some (.ref (c + 30)), some (.int (iI o)), some (.int (iI ((M : Int)))), some (.int (iI e)), some (.ref t4), some (.ref t5), some (.int (iI (rt (SD s) (k + 2) o))), some (.int (iI ((k : Int)))), some (.int (iI (pi s (k + 2) o))), some (.int (iI (fst s1 (pi s (k + 2) o)))), some (.int (iI (fst s1 (pi s (k + 2) o) * 32)))] [.int (iI (rt (SD s) (k + 1 + 2) o))] h9 _
          refine go_a (pc' := 178) (ls' := [some (.ref (c + 30)), some (.int (iI o)), some (.int (iI ((M : Int)))), some (.int (iI e)), some (.ref t4), some (.ref t5), some (.int (iI (rt (SD s) (k + 1 + 2) o))), some (.int (iI ((k : Int)))), some (.int (iI (pi s (k + 2) o))), some (.int (iI (fst s1 (pi s (k + 2) o)))), some (.int (iI (fst s1 (pi s (k + 2) o) * 32)))]) (st' := []) rfl rfl ?_
          refine go_a (pc' := 181) (ls' := [some (.ref (c + 30)), some (.int (iI o)), some (.int (iI ((M : Int)))), some (.int (iI e)), some (.ref t4), some (.ref t5), some (.int (iI (rt (SD s) (k + 1 + 2) o))), some (.int (iI (((k : Int)) + 1))), some (.int (iI (pi s (k + 2) o))), some (.int (iI (fst s1 (pi s (k + 2) o)))), some (.int (iI (fst s1 (pi s (k + 2) o) * 32)))]) (st' := []) rfl (by rw [← iI_add ((k : Int)) 1]; rfl) ?_
          refine go_a (pc' := 47) (ls' := [some (.ref (c + 30)), some (.int (iI o)), some (.int (iI ((M : Int)))), some (.int (iI e)), some (.ref t4), some (.ref t5), some (.int (iI (rt (SD s) (k + 1 + 2) o))), some (.int (iI (((k : Int)) + 1))), some (.int (iI (pi s (k + 2) o))), some (.int (iI (fst s1 (pi s (k + 2) o)))), some (.int (iI (fst s1 (pi s (k + 2) o) * 32)))]) (st' := []) rfl rfl ?_
          rw [show (k : Int) + 1 = ((k + 1 : Nat) : Int) by omega]
          rw [show (k : Int) + 1 = ((k + 1 : Nat) : Int) by omega] at O9
          have q1 : VD (SD s) (rt (SD s) (k + 2) o) = WD (SD s) (pi s (k + 2) o) + VD (SD s) (rt (SD s) (k + 1 + 2) o) := q1
          have hz9 : (∀ j : Int, 0 ≤ j → j < ((k + 1 : Nat) : Int) → so nO k n6 j ≤ 1) ∨ 3 ≤ (VD (SD s) (rt (SD s) 2 o) - VD (SD s) (rt (SD s) (k + 1 + 2) o)) := by
            by_cases cn : n6 ≤ 1
            · rcases hz with hz | hz
              · refine Or.inl (fun j j0 j1 => ?_)
                by_cases cj : j = k
                · rw [cj, so_self]
                  exact cn
                · rw [so_ne cj]
                  exact hz j j0 (by omega)
              · exact Or.inr (by omega)
            · exact Or.inr (by omega)
          exact ih (k + 1) _ _ _ _ _ _ _ _ _ (by omega) (by omega) (KST_w S9 (by omega) (by omega) (by omega)) e6 A9 kAt4_6 O9 (by omega) hz9
      · show xx_go (xt_P z) (d + 8) 279 104 [some (.ref (c + 30)), some (.int (iI o)), some (.int (iI ((M : Int)))), some (.int (iI e)), some (.ref t4), some (.ref t5), some (.int (iI (rt (SD s) (k + 2) o))), some (.int (iI ((k : Int)))), some (.int (iI (pi s (k + 2) o))), some (.int (iI (fst s1 (pi s (k + 2) o)))), some (.int (iI (fst s1 (pi s (k + 2) o) * 32)))] [.int (iI 0)] h0 _
        refine mi_eq0 (t := 118) rfl rfl (by omega) (by omega) (fun _ => no) (fun q => absurd rfl q)
theorem kq_inst (z : Value) (d c : Nat) (o : Int) (q : Nat) (hp : xx_H) (s : KS) (NM : Int → Int) (hP : KPS c hp s NM) (ho : OB s o) (hL : isL (SD s) q o) (r2 : pi s 0 o ≠ 2) (w9 : WD (SD s) o ≤ 1000) (l25 : s.I 8 + WD (SD s) o ≤ 25000) (e : Int) (R : PRC z (d + 8) c (e + 1)) (M : Nat) (hq : q = M + 2) : xx_cl (xt_P z) (d + 9) 279 [.ref (c + 30), .int (iI o), .int (iI (M : Int)), .int (iI e)] hp (fun v h1 => PRP c hp s (WD (SD s) o) v h1) := by
  have S0 := KST_rf hP
  have e0 : s.I 8 = s.I 8 := rfl
  have lu : s.I 8 ≤ 25000 := hP.2.2.2.2.2.2.2
  have u38 := KB_38 hP.2.1
  have oR := OB_R hP.2.1 ho
  have W := PI_W hP.2.2.1 ho hL (by omega) r2
  have p0 : VD (SD s) (rt (SD s) 0 o) = WD (SD s) (pi s 0 o) + VD (SD s) (rt (SD s) 1 o) ∧ OB s (pi s 0 o) ∧ 1 ≤ WD (SD s) (pi s 0 o) ∧ 0 ≤ VD (SD s) (rt (SD s) 1 o) := PI_w hP.2.2.1 ho hL (j := 0) (by omega)
  have p1 : VD (SD s) (rt (SD s) 1 o) = WD (SD s) (pi s 1 o) + VD (SD s) (rt (SD s) 2 o) ∧ OB s (pi s 1 o) ∧ 1 ≤ WD (SD s) (pi s 1 o) ∧ 0 ≤ VD (SD s) (rt (SD s) 2 o) := PI_w hP.2.2.1 ho hL (j := 1) (by omega)
  obtain ⟨p0, o0, i0, j0⟩ := p0
  obtain ⟨p1, o1, i1, j1⟩ := p1
  have mq := isL_VD (I := UI s) hP.2.2.1.1 (CI_n0 hP.2.2.1) q o ho.1 ho.2 hL
  have v0 : VD (SD s) (rt (SD s) 0 o) = VD (SD s) o := rfl
  have h12 := KST_12 S0
  refine cl_go rfl ?_
  show xx_go (xt_P z) (d + 8) 279 0 [some (.ref (c + 30)), some (.int (iI o)), some (.int (iI ((M : Int)))), some (.int (iI e)), none, none, none, none, none, none, none] [] hp _
  refine go_a (pc' := 1) (ls' := [some (.ref (c + 30)), some (.int (iI o)), some (.int (iI ((M : Int)))), some (.int (iI e)), none, none, none, none, none, none, none]) (st' := [.int (iI ((M : Int)))]) rfl rfl ?_
  refine mi_ge0 (t := 10) rfl rfl (by omega) (by omega) (fun _ => ?_) (fun q => absurd (show (M : Int) ≥ 0 by omega) q)
  refine go_a (pc' := 11) (ls' := [some (.ref (c + 30)), some (.int (iI o)), some (.int (iI ((M : Int)))), some (.int (iI e)), none, none, none, none, none, none, none]) (st' := [.int (iI ((M : Int)))]) rfl rfl ?_
  refine go_newa (m := (M : Int).toNat) rfl rfl (iI_nn (by omega) (by omega)) (iI_clamp (by omega) (by omega)) (by omega) ?_
  rw [show List.replicate (M : Int).toNat (defaultValue .int) = xa_f (M : Int).toNat (fun _ => 0) from rep_f (M : Int).toNat]
  show xx_go (xt_P z) (d + 8) 279 13 [some (.ref (c + 30)), some (.int (iI o)), some (.int (iI ((M : Int)))), some (.int (iI e)), none, none, none, none, none, none, none] [.ref hp.length] (hp ++ [.inl (.int, xa_f (M : Int).toNat (fun _ => 0))]) _
  refine go_a (pc' := 15) (ls' := [some (.ref (c + 30)), some (.int (iI o)), some (.int (iI ((M : Int)))), some (.int (iI e)), some (.ref hp.length), none, none, none, none, none, none]) (st' := []) rfl rfl ?_
  refine go_a (pc' := 17) (ls' := [some (.ref (c + 30)), some (.int (iI o)), some (.int (iI ((M : Int)))), some (.int (iI e)), some (.ref hp.length), none, none, none, none, none, none]) (st' := [.ref hp.length]) rfl rfl ?_
  refine go_a (pc' := 18) (ls' := [some (.ref (c + 30)), some (.int (iI o)), some (.int (iI ((M : Int)))), some (.int (iI e)), some (.ref hp.length), none, none, none, none, none, none]) (st' := [.int (iI ((-1))), .ref hp.length]) rfl rfl ?_
  refine go_s (m := 4) (as := [.ref hp.length, .int (iI ((-1)))]) (r := []) rfl rfl rfl rfl (xm_fill z (d + 7) hp h12 (M : Int) (-1) (fun _ => 0) (by omega) (by omega)) (fun v h3 hq => ?_)
  obtain ⟨rfl, e⟩ := hq
  rw [e]
  clear e h3
  obtain ⟨K1, X1, A1, N1⟩ := ki_arrI hP.1 (M : Int) (fun _ => (-1)) (by omega) (by omega) (fun _ => by decide)
  have S1 := KST_X S0 K1 X1
  obtain ⟨t4, et⟩ : ∃ q : Nat, q = hp.length := ⟨_, rfl⟩
  have lt : (hp ++ [(.inl (.int, xa_f (M : Int).toNat (fun _ => (-1))) : xx_E)]).length = t4 + 1 := by rw [List.length_append, et]; rfl
  obtain ⟨h1, e1⟩ : ∃ q : xx_H, q = hp ++ [.inl (.int, xa_f (M : Int).toNat (fun _ => (-1)))] := ⟨_, rfl⟩
  rw [← e1] at S1 A1 lt X1 K1
  rw [← et] at A1 N1
  rw [← e1, ← et]
  show xx_go (xt_P z) (d + 8) 279 21 [some (.ref (c + 30)), some (.int (iI o)), some (.int (iI ((M : Int)))), some (.int (iI e)), some (.ref t4), none, none, none, none, none, none] [] h1 _
  refine go_a (pc' := 22) (ls' := [some (.ref (c + 30)), some (.int (iI o)), some (.int (iI ((M : Int)))), some (.int (iI e)), some (.ref t4), none, none, none, none, none, none]) (st' := [.int (iI ((M : Int)))]) rfl rfl ?_
  refine go_newr (m := (M : Int).toNat) rfl rfl (iI_nn (by omega) (by omega)) (iI_clamp (by omega) (by omega)) (by omega) ?_
  rw [rep_r]
  obtain ⟨K2, X2, O2⟩ := ki_arrT K1 (s.I 8) (M : Int) (t4 + 2) (fun _ => 0) (fun _ _ => 0) (by omega) (by omega)
  have S2 := KST_X S1 K2 X2
  obtain ⟨A2, N2⟩ := KAL_kx A1 N1 X2
  rw [lt] at O2
  rw [lt]
  obtain ⟨h2, e2⟩ : ∃ q : xx_H, q = h1 ++ [.inl (.object "ClauseKernel$Term", xa_r (M : Int).toNat (fun _ => none))] := ⟨_, rfl⟩
  rw [← e2] at S2 O2 A2
  rw [← e2]
  show xx_go (xt_P z) (d + 8) 279 25 [some (.ref (c + 30)), some (.int (iI o)), some (.int (iI ((M : Int)))), some (.int (iI e)), some (.ref t4), none, none, none, none, none, none] [.ref (t4 + 1)] h2 _
  refine go_a (pc' := 27) (ls' := [some (.ref (c + 30)), some (.int (iI o)), some (.int (iI ((M : Int)))), some (.int (iI e)), some (.ref t4), some (.ref (t4 + 1)), none, none, none, none, none]) (st' := []) rfl rfl ?_
  refine go_a (pc' := 28) (ls' := [some (.ref (c + 30)), some (.int (iI o)), some (.int (iI ((M : Int)))), some (.int (iI e)), some (.ref t4), some (.ref (t4 + 1)), none, none, none, none, none]) (st' := [.ref (c + 30)]) rfl rfl ?_
  refine go_get (v := .ref (c + 4)) rfl (S2.1.1 19 (by decide)) rfl rfl ?_
  refine go_a (pc' := 32) (ls' := [some (.ref (c + 30)), some (.int (iI o)), some (.int (iI ((M : Int)))), some (.int (iI e)), some (.ref t4), some (.ref (t4 + 1)), none, none, none, none, none]) (st' := [.ref (c + 30), .ref (c + 4)]) rfl rfl ?_
  refine go_get (v := .ref (c + 4)) rfl (S2.1.1 19 (by decide)) rfl rfl ?_
  refine go_a (pc' := 36) (ls' := [some (.ref (c + 30)), some (.int (iI o)), some (.int (iI ((M : Int)))), some (.int (iI e)), some (.ref t4), some (.ref (t4 + 1)), none, none, none, none, none]) (st' := [.int (iI o), .ref (c + 4), .ref (c + 4)]) rfl rfl ?_
  refine go_v (m := 200) (as := [.ref (c + 4), .int (iI o)]) (r := [.ref (c + 4)]) rfl rfl rfl (S2.1.1 3 (by decide)) rfl rfl (kq_rest z (d + 7) S2 hP.2.2.1 ho hL (j := 0) (by omega)) (fun v1 h1 hq => ?_)
  obtain ⟨rfl, eq1⟩ := hq
  rw [eq1]
  clear eq1 h1
  show xx_go (xt_P z) (d + 8) 279 39 [some (.ref (c + 30)), some (.int (iI o)), some (.int (iI ((M : Int)))), some (.int (iI e)), some (.ref t4), some (.ref (t4 + 1)), none, none, none, none, none] [.int (iI (rt (SD s) 1 o)), .ref (c + 4)] h2 _
  refine go_v (m := 200) (as := [.ref (c + 4), .int (iI (rt (SD s) 1 o))]) (r := []) rfl rfl rfl (S2.1.1 3 (by decide)) rfl rfl (kq_rest z (d + 7) S2 hP.2.2.1 ho hL (j := 1) (by omega)) (fun v2 h2 hq => ?_)
  obtain ⟨rfl, eq2⟩ := hq
  rw [eq2]
  clear eq2 h2
  show xx_go (xt_P z) (d + 8) 279 42 [some (.ref (c + 30)), some (.int (iI o)), some (.int (iI ((M : Int)))), some (.int (iI e)), some (.ref t4), some (.ref (t4 + 1)), none, none, none, none, none] [.int (iI (rt (SD s) (0 + 2) o))] h2 _
  refine go_a (pc' := 44) (ls' := [some (.ref (c + 30)), some (.int (iI o)), some (.int (iI ((M : Int)))), some (.int (iI e)), some (.ref t4), some (.ref (t4 + 1)), some (.int (iI (rt (SD s) (0 + 2) o))), none, none, none, none]) (st' := []) rfl rfl ?_
  refine go_a (pc' := 45) (ls' := [some (.ref (c + 30)), some (.int (iI o)), some (.int (iI ((M : Int)))), some (.int (iI e)), some (.ref t4), some (.ref (t4 + 1)), some (.int (iI (rt (SD s) (0 + 2) o))), none, none, none, none]) (st' := [.int (iI 0)]) rfl rfl ?_
  refine go_a (pc' := 47) (ls' := [some (.ref (c + 30)), some (.int (iI o)), some (.int (iI ((M : Int)))), some (.int (iI e)), some (.ref t4), some (.ref (t4 + 1)), some (.int (iI (rt (SD s) (0 + 2) o))), some (.int (iI 0)), none, none, none]) (st' := []) rfl rfl ?_
  exact kq_inst_l1 z d c o q hp s NM hP ho hL r2 w9 l25 e R M t4 (t4 + 1) hq (by omega) (by omega) rfl _ 0 _ _ _ _ _ _ _ _ _ (Nat.le_refl _) (Nat.zero_le _) (KST_w S2 (by omega) (by show _ ≤ _ + (VD (SD s) (rt (SD s) 2 o) - VD (SD s) (rt (SD s) 2 o)); omega) (by omega)) rfl A2 N2 O2 (by show _ ≤ VD (SD s) (rt (SD s) 2 o) - VD (SD s) (rt (SD s) 2 o); omega) (Or.inl (fun j j0 j1 => absurd j1 (by omega)))
