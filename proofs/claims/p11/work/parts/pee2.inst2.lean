theorem kq_inst_l2 (z : Value) (d c : Nat) (o e ml r6 w u α β γ : Int) (hp : xx_H) (s : KS) (NM : BKM) (hP : KPS c hp s NM) (t4 t5 y7 x B : Nat) (x10 : Option Value) (mp wp bq : Int) (OP : Int → Option Nat) (nP : Int → Int) (fP : Int → Int → Int) (m2 : Int) (g : Int → Int) (O : Int → Option Nat) (nO : Int → Int) (fO : Int → Int → Int) (Mx : Int) (M1 : 1 ≤ Mx) (hM : ∀ j : Int, 0 ≤ j → j < ml → nO j ≤ Mx) (hx : hp.length ≤ x) (ne_y7_x : y7 ≠ x) (ne_t5_x : t5 ≠ x ∧ t5 ≠ x + 1) (lw : α + 60 ≤ 100 * w - 386) (lb : β + (if Mx = 1 then 430 else 3630) ≤ 700 * w - 2390) (lg : γ ≤ w) (ρ : Option (List ob_T × Int)) (σ st : Int) (Vs : List Nat) (Os D1 : List ob_T) (hσ : σ = st) (hρ : ρ = sp_cs2 (sp_cz (D1.map (fun t => sp_opO (sp_in Vs Os t).1))) st) : ∀ (j k : Nat) (b0 : Int) (Z0 : List (List Int)) (h0 : xx_H) (s1 : KS), mp - k ≤ j → (k : Int) ≤ mp → KST c hp s h0 s1 (α + 2 * k) (β + csl Mx nP k) γ → s1.I 8 = u → CLS c h0 s1 u y7 mp wp bq OP nP fP → CL c h0 s1 u x b0 Z0 → KAL h0 t4 m2 g → kn c s1 t4 → OTK c h0 s1 u t5 ml ml B O nO fO → (b0, Z0) = (((ol mp nP fP).take k).map (insI (rl m2 g) (ol ml nO fO))).foldl clO (0, []) → TRO s1.N (s1.I 8) NM.2.2.1 (ol mp nP fP) D1 → TRO s1.N (s1.I 8) NM.2.2.1 (ol ml nO fO) Os → VRG s1.N (s1.I 8) (rl m2 g) Vs → s1.I 17 = st → xx_go (xt_P z) (d + 8) 279 221 [some (.ref (c + 30)), some (.int (iI o)), some (.int (iI ml)), some (.int (iI e)), some (.ref t4), some (.ref t5), some (.int (iI r6)), some (.ref y7), some (.ref x), some (.int (iI ((k : Int)))), x10] [] h0 (fun v h1 => PRP c hp s w NM.2.2.1 ρ σ v h1) := by
  intro j
  induction j with
  | zero =>
    intro k b0 Z0 h0 s1 hj k1 S1 e1 DQ Cx A4 K4 OT hz TP TOs VG J1
    have mR := DQ.2.2.2.1
    obtain ⟨mCx, wCx, cCx⟩ := CL_cell Cx
    have ls : csl Mx nP k ≤ (if Mx = 1 then 430 else 3630) := by
      obtain ⟨-, -, -, q4, q5, -, q7⟩ := DQ
      have nn : ∀ i : Int, 0 ≤ i → i < (mp.toNat : Nat) → 0 ≤ nP i := by
        intro i i0 i1
        obtain ⟨a, -, T⟩ := q7 i i0 (by omega)
        have := TM_n T
        omega
      have := (sq_mono nn (k := k) (by omega)).2
      exact csl_le (by omega) (by omega)
    refine go_a (pc' := 223) (ls' := [some (.ref (c + 30)), some (.int (iI o)), some (.int (iI ml)), some (.int (iI e)), some (.ref t4), some (.ref t5), some (.int (iI r6)), some (.ref y7), some (.ref x), some (.int (iI ((k : Int)))), x10]) (st' := [.int (iI ((k : Int)))]) rfl rfl ?_
    refine go_a (pc' := 225) (ls' := [some (.ref (c + 30)), some (.int (iI o)), some (.int (iI ml)), some (.int (iI e)), some (.ref t4), some (.ref t5), some (.int (iI r6)), some (.ref y7), some (.ref x), some (.int (iI ((k : Int)))), x10]) (st' := [.ref y7, .int (iI ((k : Int)))]) rfl rfl ?_
    refine go_v (m := 280) (as := [.ref y7]) (r := [.int (iI ((k : Int)))]) rfl rfl rfl DQ.1 rfl rfl (kh_length z (d + 7) c h0 s1 u y7 mp wp bq OP nP fP DQ) (fun v1 h1 hq => ?_)
    obtain ⟨rfl, eq1⟩ := hq
    rw [eq1]
    clear eq1 h1
    show xx_go (xt_P z) (d + 8) 279 228 [some (.ref (c + 30)), some (.int (iI o)), some (.int (iI ml)), some (.int (iI e)), some (.ref t4), some (.ref t5), some (.int (iI r6)), some (.ref y7), some (.ref x), some (.int (iI ((k : Int)))), x10] [.int (iI mp), .int (iI ((k : Int)))] h0 _
    refine mi_ge (t := 260) rfl rfl (by omega) (by omega) (by omega) (by omega) (fun w1 => ?_) (fun w1 => absurd (show (k : Int) ≥ mp by omega) w1)
    rw [List.take_of_length_le (by rw [ol_len]; omega)] at hz
    refine go_a (pc' := 261) (ls' := [some (.ref (c + 30)), some (.int (iI o)), some (.int (iI ml)), some (.int (iI e)), some (.ref t4), some (.ref t5), some (.int (iI r6)), some (.ref y7), some (.ref x), some (.int (iI ((k : Int)))), x10]) (st' := [.ref (c + 30)]) rfl rfl ?_
    refine go_a (pc' := 263) (ls' := [some (.ref (c + 30)), some (.int (iI o)), some (.int (iI ml)), some (.int (iI e)), some (.ref t4), some (.ref t5), some (.int (iI r6)), some (.ref y7), some (.ref x), some (.int (iI ((k : Int)))), x10]) (st' := [.ref x, .ref (c + 30)]) rfl rfl ?_
    refine go_v (m := 265) (as := [.ref (c + 30), .ref x]) (r := []) rfl rfl rfl (S1.1.1 19 (by decide)) rfl rfl (kq_fin z (d + 6) (w := w) (ρ := ρ) (σ := σ) hP S1 Cx (insI_tr (KNT_ST (KST_KNT hP S1) S1.2.2.1 S1.2.1).2 (KST_KNT hP S1).2.2.2.2 VG TOs TP) hz (by rw [hρ, J1]) (by rw [hσ]; exact J1) e1 hx (by omega) (by omega) (by omega)) (fun v2 h2 hq => ?_)
    rcases hq with ⟨rfl, R2⟩ | ⟨r2, rfl, R2⟩
    · exact go_r rfl rfl rfl rfl rfl rfl R2
    · exact go_r rfl rfl rfl rfl rfl rfl R2
  | succ j ih =>
    intro k b0 Z0 h0 s1 hj k1 S1 e1 DQ Cx A4 K4 OT hz TP TOs VG J1
    have mR := DQ.2.2.2.1
    obtain ⟨mCx, wCx, cCx⟩ := CL_cell Cx
    have ls : csl Mx nP k ≤ (if Mx = 1 then 430 else 3630) := by
      obtain ⟨-, -, -, q4, q5, -, q7⟩ := DQ
      have nn : ∀ i : Int, 0 ≤ i → i < (mp.toNat : Nat) → 0 ≤ nP i := by
        intro i i0 i1
        obtain ⟨a, -, T⟩ := q7 i i0 (by omega)
        have := TM_n T
        omega
      have := (sq_mono nn (k := k) (by omega)).2
      exact csl_le (by omega) (by omega)
    refine go_a (pc' := 223) (ls' := [some (.ref (c + 30)), some (.int (iI o)), some (.int (iI ml)), some (.int (iI e)), some (.ref t4), some (.ref t5), some (.int (iI r6)), some (.ref y7), some (.ref x), some (.int (iI ((k : Int)))), x10]) (st' := [.int (iI ((k : Int)))]) rfl rfl ?_
    refine go_a (pc' := 225) (ls' := [some (.ref (c + 30)), some (.int (iI o)), some (.int (iI ml)), some (.int (iI e)), some (.ref t4), some (.ref t5), some (.int (iI r6)), some (.ref y7), some (.ref x), some (.int (iI ((k : Int)))), x10]) (st' := [.ref y7, .int (iI ((k : Int)))]) rfl rfl ?_
    refine go_v (m := 280) (as := [.ref y7]) (r := [.int (iI ((k : Int)))]) rfl rfl rfl DQ.1 rfl rfl (kh_length z (d + 7) c h0 s1 u y7 mp wp bq OP nP fP DQ) (fun v1 h1 hq => ?_)
    obtain ⟨rfl, eq1⟩ := hq
    rw [eq1]
    clear eq1 h1
    show xx_go (xt_P z) (d + 8) 279 228 [some (.ref (c + 30)), some (.int (iI o)), some (.int (iI ml)), some (.int (iI e)), some (.ref t4), some (.ref t5), some (.int (iI r6)), some (.ref y7), some (.ref x), some (.int (iI ((k : Int)))), x10] [.int (iI mp), .int (iI ((k : Int)))] h0 _
    refine mi_ge (t := 260) rfl rfl (by omega) (by omega) (by omega) (by omega) (fun w1 => ?_) (fun w1 => ?_)
    · rw [List.take_of_length_le (by rw [ol_len]; omega)] at hz
      refine go_a (pc' := 261) (ls' := [some (.ref (c + 30)), some (.int (iI o)), some (.int (iI ml)), some (.int (iI e)), some (.ref t4), some (.ref t5), some (.int (iI r6)), some (.ref y7), some (.ref x), some (.int (iI ((k : Int)))), x10]) (st' := [.ref (c + 30)]) rfl rfl ?_
      refine go_a (pc' := 263) (ls' := [some (.ref (c + 30)), some (.int (iI o)), some (.int (iI ml)), some (.int (iI e)), some (.ref t4), some (.ref t5), some (.int (iI r6)), some (.ref y7), some (.ref x), some (.int (iI ((k : Int)))), x10]) (st' := [.ref x, .ref (c + 30)]) rfl rfl ?_
      refine go_v (m := 265) (as := [.ref (c + 30), .ref x]) (r := []) rfl rfl rfl (S1.1.1 19 (by decide)) rfl rfl (kq_fin z (d + 6) (w := w) (ρ := ρ) (σ := σ) hP S1 Cx (insI_tr (KNT_ST (KST_KNT hP S1) S1.2.2.1 S1.2.1).2 (KST_KNT hP S1).2.2.2.2 VG TOs TP) hz (by rw [hρ, J1]) (by rw [hσ]; exact J1) e1 hx (by omega) (by omega) (by omega)) (fun v2 h2 hq => ?_)
      rcases hq with ⟨rfl, R2⟩ | ⟨r2, rfl, R2⟩
      · exact go_r rfl rfl rfl rfl rfl rfl R2
      · exact go_r rfl rfl rfl rfl rfl rfl R2
    · refine go_a (pc' := 233) (ls' := [some (.ref (c + 30)), some (.int (iI o)), some (.int (iI ml)), some (.int (iI e)), some (.ref t4), some (.ref t5), some (.int (iI r6)), some (.ref y7), some (.ref x), some (.int (iI ((k : Int)))), x10]) (st' := [.ref x]) rfl rfl ?_
      refine go_a (pc' := 234) (ls' := [some (.ref (c + 30)), some (.int (iI o)), some (.int (iI ml)), some (.int (iI e)), some (.ref t4), some (.ref t5), some (.int (iI r6)), some (.ref y7), some (.ref x), some (.int (iI ((k : Int)))), x10]) (st' := [.ref (c + 30), .ref x]) rfl rfl ?_
      refine go_get (v := .ref (c + 25)) rfl (S1.1.1 19 (by decide)) rfl rfl ?_
      refine go_a (pc' := 239) (ls' := [some (.ref (c + 30)), some (.int (iI o)), some (.int (iI ml)), some (.int (iI e)), some (.ref t4), some (.ref t5), some (.int (iI r6)), some (.ref y7), some (.ref x), some (.int (iI ((k : Int)))), x10]) (st' := [.ref y7, .ref (c + 25), .ref x]) rfl rfl ?_
      refine go_a (pc' := 241) (ls' := [some (.ref (c + 30)), some (.int (iI o)), some (.int (iI ml)), some (.int (iI e)), some (.ref t4), some (.ref t5), some (.int (iI r6)), some (.ref y7), some (.ref x), some (.int (iI ((k : Int)))), x10]) (st' := [.int (iI ((k : Int))), .ref y7, .ref (c + 25), .ref x]) rfl rfl ?_
      refine go_v (m := 263) (as := [.ref y7, .int (iI ((k : Int)))]) (r := [.ref (c + 25), .ref x]) rfl rfl rfl DQ.1 rfl rfl (kh_at z (d + 7) c (k : Int) h0 s1 u y7 mp wp bq OP nP fP DQ (by omega) (by omega)) (fun v h3 hq => ?_)
      obtain ⟨hq, e9⟩ := hq
      rw [e9]
      clear e9 h3
      rcases hq with ⟨t, rfl, -, -, Tt⟩ | ⟨-, q⟩
      · have nt := TM_n Tt
        show xx_go (xt_P z) (d + 8) 279 244 [some (.ref (c + 30)), some (.int (iI o)), some (.int (iI ml)), some (.int (iI e)), some (.ref t4), some (.ref t5), some (.int (iI r6)), some (.ref y7), some (.ref x), some (.int (iI ((k : Int)))), x10] [.ref t, .ref (c + 25), .ref x] h0 _
        refine go_a (pc' := 246) (ls' := [some (.ref (c + 30)), some (.int (iI o)), some (.int (iI ml)), some (.int (iI e)), some (.ref t4), some (.ref t5), some (.int (iI r6)), some (.ref y7), some (.ref x), some (.int (iI ((k : Int)))), x10]) (st' := [.ref t4, .ref t, .ref (c + 25), .ref x]) rfl rfl ?_
        refine go_a (pc' := 248) (ls' := [some (.ref (c + 30)), some (.int (iI o)), some (.int (iI ml)), some (.int (iI e)), some (.ref t4), some (.ref t5), some (.int (iI r6)), some (.ref y7), some (.ref x), some (.int (iI ((k : Int)))), x10]) (st' := [.ref t5, .ref t4, .ref t, .ref (c + 25), .ref x]) rfl rfl ?_
        refine go_v (m := 281) (as := [.ref (c + 25), .ref t, .ref t4, .ref t5]) (r := [.ref x]) rfl rfl rfl (S1.1.1 16 (by decide)) rfl rfl (kg_instance z (d + 4) c u Mx t (nP k) (fP k) t4 m2 g t5 ml O nO fO h0 s1 S1.1 S1.2.1 M1 hM Tt A4 K4 (OTK_OTH OT)) (fun v2 h2 hq => ?_)
        obtain ⟨w2, s2, rfl, E2, M2⟩ := INS_M hq (by omega)
        have VG9 := STE_VRG E2 VG
        have S2 := KST_STE S1 E2
        have e2 := (STE_8 E2).trans e1
        have Tt_2 := TM_kx Tt E2.2.2.2
        have Cx_2 := CL_kx Cx E2.2.2.2
        obtain ⟨mCx_2, wCx_2, cCx_2⟩ := CL_cell Cx_2
        have Dy7_2 := CLS_kx DQ E2.2.2.2
        have Ot5_2 := OTK_kx OT E2.2.2.2
        obtain ⟨At4_2, kAt4_2⟩ := KAL_kx A4 K4 E2.2.2.2
        have J2 := STE_17 E2 J1
        have TOy7_2 := STE_TRO E2 TP
        have TOos_2 := STE_TRO E2 TOs
        show xx_go (xt_P z) (d + 8) 279 251 [some (.ref (c + 30)), some (.int (iI o)), some (.int (iI ml)), some (.int (iI e)), some (.ref t4), some (.ref t5), some (.int (iI r6)), some (.ref y7), some (.ref x), some (.int (iI ((k : Int)))), x10] [w2, .ref x] h2 _
        refine go_v (m := 261) (as := [.ref x, w2]) (r := []) rfl rfl rfl cCx_2 rfl rfl (kq_addC z (d + 5) Cx_2 M2) (fun v3 h3 hq => ?_)
        obtain ⟨rfl, F3, b3, Z3, q3, C3⟩ := hq
        have hz3 := q3
        have S3 := KST_fe S2 Cx_2 hx F3
        have Tt_3 := TM_fe Cx_2 F3 Tt_2
        have Mw2_3 := MTM_fe Cx_2 F3 M2
        have Dy7_3 := CLS_fe Cx_2 F3 ne_y7_x Dy7_2
        have Ot5_3 := OTK_fe Cx_2 F3 ne_t5_x Ot5_2
        have At4_3 := KAL_fe Cx_2 F3 At4_2
        have kAt4_3 := kAt4_2
        obtain ⟨mC3, wC3, cC3⟩ := CL_cell C3
        show xx_go (xt_P z) (d + 8) 279 254 [some (.ref (c + 30)), some (.int (iI o)), some (.int (iI ml)), some (.int (iI e)), some (.ref t4), some (.ref t5), some (.int (iI r6)), some (.ref y7), some (.ref x), some (.int (iI ((k : Int)))), x10] [] h3 _
        refine go_a (pc' := 257) (ls' := [some (.ref (c + 30)), some (.int (iI o)), some (.int (iI ml)), some (.int (iI e)), some (.ref t4), some (.ref t5), some (.int (iI r6)), some (.ref y7), some (.ref x), some (.int (iI (((k : Int)) + 1))), x10]) (st' := []) rfl (by rw [← iI_add ((k : Int)) 1]; rfl) ?_
        refine go_a (pc' := 221) (ls' := [some (.ref (c + 30)), some (.int (iI o)), some (.int (iI ml)), some (.int (iI e)), some (.ref t4), some (.ref t5), some (.int (iI r6)), some (.ref y7), some (.ref x), some (.int (iI (((k : Int)) + 1))), x10]) (st' := []) rfl rfl ?_
        rw [show (k : Int) + 1 = ((k + 1 : Nat) : Int) by omega]
        have hz9 := hz_one hz hz3
        have tk9 := ol_take (nO := nP) (fO := fP) (m := mp) (k := k) (by omega)
        have hz8 : (b3, Z3) = (((ol mp nP fP).take (k + 1)).map (insI (rl m2 g) (ol ml nO fO))).foldl clO (0, []) := by rw [tk9, List.map_append]; exact hz9
        exact ih (k + 1) _ _ _ _ (by omega) (by omega) (KST_w S3 (by omega) (by rw [csl_s]; omega) (by omega)) e2 Dy7_3 C3 At4_3 kAt4_3 Ot5_3 hz8 TOy7_2 TOos_2 VG9 J2
      · exact absurd (show 0 ≤ (k : Int) ∧ (k : Int) < mp by omega) q
