theorem ol_take {m : Int} {nO : Int → Int} {fO : Int → Int → Int} {k : Nat} (h : (k : Int) < m) : (ol m nO fO).take (k + 1) = (ol m nO fO).take k ++ [rl (nO k) (fO k)] := by
  have e := ol_drop (nO := nO) (fO := fO) (k := k) h
  have g : (ol m nO fO)[k]? = some (rl (nO k) (fO k)) := by
    have q := congrArg List.head? e
    rw [List.head?_drop] at q
    exact q
  rw [List.take_succ, g]
  rfl
def rpI (A B : List Int) (r : List Int) : Option (List Int) := opR (repR A B r.length r)
theorem rpI_tr {N : Int → Int} {U : Int} {ft : Nat → Int} (hD : HD N U) (hI : HI ft) {A B : List Int} {a b : ob_T} (ha : TRT N U ft A a) (hb : TRT N U ft B b) : ∀ {Z : List (List Int)} {D : List ob_T}, TRO N U ft Z D → ITR N U ft (Z.map (rpI A B)) (D.map (fun t => sp_opO (sp_re a b t).1))
  | [], [], _ => trivial
  | [], _ :: _, h => absurd h id
  | _ :: _, [], h => absurd h id
  | r :: Z, t :: D, h => ITR_one (OTR_op (TRT_rep hD hI ha hb h.1)) (rpI_tr hD hI ha hb (Z := Z) (D := D) h.2)
theorem kq_put_loop (z : Value) (d c : Nat) (o e w : Int) (hp : xx_H) (s : KS) (NM : BKM) (hP : KPS c hp s NM) (y1 y2 a b x : Nat) (u : Int) (x5 : Option Value) (m wq bq : Int) (O : Int → Option Nat) (nO : Int → Int) (fO : Int → Int → Int) (na : Int) (fa : Int → Int) (nb : Int) (fb : Int → Int) (α β γ : Int) (hx : hp.length ≤ x) (ne_y1_x : y1 ≠ x) (ne_y2_x : y2 ≠ x) (lw : α + 60 ≤ 100 * w - 386) (lb : β + 3630 ≤ 700 * w - 2390) (lg : γ ≤ w) (ta tb : ob_T) (D1 D2 : List ob_T) (Z1 : List (List Int)) (st : Int) (ρ : Option (List ob_T × Int)) (σ : Int) (hσ : σ = st) (hρ : ρ = sp_cs2 (sp_cz (D2.map (fun t => sp_opO (sp_re ta tb t).1) ++ (D1.drop 1).map some)) st) : ∀ (j : Nat) (k b0 b1 : Int) (Z0 : List (List Int)) (h0 : xx_H) (s1 : KS), (m - k).toNat ≤ j → 0 ≤ k → k ≤ m → KST c hp s h0 s1 (α + 2 * k) (β + 121 * k) γ → s1.I 8 = u → CL c h0 s1 u y1 b1 Z1 → CLS c h0 s1 u y2 m wq bq O nO fO → TM c h0 s1 u a na fa → TM c h0 s1 u b nb fb → CL c h0 s1 u x b0 Z0 → (b0, Z0) = (((ol m nO fO).take k.toNat).map (rpI (rl na fa) (rl nb fb))).foldl clO (0, []) → OTR s1.N (s1.I 8) NM.2.2.1 (some (rl na fa)) (some ta) → OTR s1.N (s1.I 8) NM.2.2.1 (some (rl nb fb)) (some tb) → TRO s1.N (s1.I 8) NM.2.2.1 (ol m nO fO) D2 → TRO s1.N (s1.I 8) NM.2.2.1 Z1 D1 → s1.I 17 = st → xx_go (xt_P z) (d + 8) 283 117 [some (.ref (c + 30)), some (.int (iI o)), some (.int (iI e)), some (.ref y1), some (.ref y2), x5, some (.ref a), some (.ref b), some (.ref x), some (.int (iI k))] [] h0 (fun v h1 => PRP c hp s w NM.2.2.1 ρ σ v h1) := by
  intro j
  induction j with
  | zero =>
    intro k b0 b1 Z0 h0 s1 hj k0 k1 S1 e1 C1 DQ Ta Tb Cx hz Oa Ob TQ TP J1
    have mR := DQ.2.2.2.1
    obtain ⟨mCx, wCx, cCx⟩ := CL_cell Cx
    obtain ⟨mC1, wC1, cC1⟩ := CL_cell C1
    refine go_a (pc' := 119) (ls' := [some (.ref (c + 30)), some (.int (iI o)), some (.int (iI e)), some (.ref y1), some (.ref y2), x5, some (.ref a), some (.ref b), some (.ref x), some (.int (iI k))]) (st' := [.int (iI k)]) rfl rfl ?_
    refine go_a (pc' := 121) (ls' := [some (.ref (c + 30)), some (.int (iI o)), some (.int (iI e)), some (.ref y1), some (.ref y2), x5, some (.ref a), some (.ref b), some (.ref x), some (.int (iI k))]) (st' := [.ref y2, .int (iI k)]) rfl rfl ?_
    refine go_v (m := 280) (as := [.ref y2]) (r := [.int (iI k)]) rfl rfl rfl DQ.1 rfl rfl (kh_length z (d + 7) c h0 s1 u y2 m wq bq O nO fO DQ) (fun v1 h1 hq => ?_)
    obtain ⟨rfl, eq1⟩ := hq
    rw [eq1]
    clear eq1 h1
    show xx_go (xt_P z) (d + 8) 283 124 [some (.ref (c + 30)), some (.int (iI o)), some (.int (iI e)), some (.ref y1), some (.ref y2), x5, some (.ref a), some (.ref b), some (.ref x), some (.int (iI k))] [.int (iI m), .int (iI k)] h0 _
    refine mi_ge (t := 156) rfl rfl (by omega) (by omega) (by omega) (by omega) (fun w1 => ?_) (fun w1 => absurd (show k ≥ m by omega) w1)
    refine go_a (pc' := 158) (ls' := [some (.ref (c + 30)), some (.int (iI o)), some (.int (iI e)), some (.ref y1), some (.ref y2), x5, some (.ref a), some (.ref b), some (.ref x), some (.int (iI k))]) (st' := [.ref x]) rfl rfl ?_
    refine go_a (pc' := 159) (ls' := [some (.ref (c + 30)), some (.int (iI o)), some (.int (iI e)), some (.ref y1), some (.ref y2), x5, some (.ref a), some (.ref b), some (.ref x), some (.int (iI k))]) (st' := [.ref y1, .ref x]) rfl rfl ?_
    refine go_a (pc' := 160) (ls' := [some (.ref (c + 30)), some (.int (iI o)), some (.int (iI e)), some (.ref y1), some (.ref y2), x5, some (.ref a), some (.ref b), some (.ref x), some (.int (iI k))]) (st' := [.int (iI 1), .ref y1, .ref x]) rfl rfl ?_
    rw [show k = m by omega, List.take_of_length_le (by simp [ol])] at hz
    obtain ⟨mD2, wD2, OD2, nD2, fD2, DD2, eZ2⟩ := id C1
    refine go_v (m := 271) (as := [.ref x, .ref y1, .int (iI 1)]) (r := []) rfl rfl rfl cCx rfl rfl (kh_addFrom z (d + 4) c 1 h0 s1 _ x _ _ y1 mD2 wD2 _ OD2 nD2 fD2 (by decide) (by decide) ne_y1_x DD2 Cx) (fun v3 h3 hq => ?_)
    obtain ⟨rfl, F3, b3, Z3, q3, C3⟩ := hq
    have hz3 := q3
    have S3 := KST_fe S1 Cx hx F3
    have Ta_3 := TM_fe Cx F3 Ta
    have Tb_3 := TM_fe Cx F3 Tb
    have Cy1_3 := CL_fe Cx F3 ne_y1_x C1
    obtain ⟨mCy1_3, wCy1_3, cCy1_3⟩ := CL_cell Cy1_3
    have Dy2_3 := CLS_fe Cx F3 ne_y2_x DQ
    obtain ⟨mC3, wC3, cC3⟩ := CL_cell C3
    show xx_go (xt_P z) (d + 8) 283 163 [some (.ref (c + 30)), some (.int (iI o)), some (.int (iI e)), some (.ref y1), some (.ref y2), x5, some (.ref a), some (.ref b), some (.ref x), some (.int (iI k))] [] h3 _
    have hzz := hz_app hz hz3
    refine go_a (pc' := 164) (ls' := [some (.ref (c + 30)), some (.int (iI o)), some (.int (iI e)), some (.ref y1), some (.ref y2), x5, some (.ref a), some (.ref b), some (.ref x), some (.int (iI k))]) (st' := [.ref (c + 30)]) rfl rfl ?_
    refine go_a (pc' := 166) (ls' := [some (.ref (c + 30)), some (.int (iI o)), some (.int (iI e)), some (.ref y1), some (.ref y2), x5, some (.ref a), some (.ref b), some (.ref x), some (.int (iI k))]) (st' := [.ref x, .ref (c + 30)]) rfl rfl ?_
    refine go_v (m := 265) (as := [.ref (c + 30), .ref x]) (r := []) rfl rfl rfl (S3.1.1 19 (by decide)) rfl rfl (kq_fin z (d + 6) (w := w) (ρ := ρ) (σ := σ) hP S3 C3 (ITR_app _ _ (rpI_tr (KNT_ST (KST_KNT hP S3) S3.2.2.1 S3.2.1).2 (KST_KNT hP S3).2.2.2.2 Oa Ob TQ) (ITR_of (TRO_drop 1 (show TRO s1.N (s1.I 8) NM.2.2.1 (ol _ _ _) D1 by rw [eZ2]; exact TP)))) hzz (by rw [hρ, J1]) (by rw [hσ]; exact J1) e1 hx (by omega) (by omega) (by omega)) (fun v4 h4 hq => ?_)
    rcases hq with ⟨rfl, R4⟩ | ⟨r4, rfl, R4⟩
    · exact go_r rfl rfl rfl rfl rfl rfl R4
    · exact go_r rfl rfl rfl rfl rfl rfl R4
  | succ j ih =>
    intro k b0 b1 Z0 h0 s1 hj k0 k1 S1 e1 C1 DQ Ta Tb Cx hz Oa Ob TQ TP J1
    have mR := DQ.2.2.2.1
    obtain ⟨mCx, wCx, cCx⟩ := CL_cell Cx
    obtain ⟨mC1, wC1, cC1⟩ := CL_cell C1
    refine go_a (pc' := 119) (ls' := [some (.ref (c + 30)), some (.int (iI o)), some (.int (iI e)), some (.ref y1), some (.ref y2), x5, some (.ref a), some (.ref b), some (.ref x), some (.int (iI k))]) (st' := [.int (iI k)]) rfl rfl ?_
    refine go_a (pc' := 121) (ls' := [some (.ref (c + 30)), some (.int (iI o)), some (.int (iI e)), some (.ref y1), some (.ref y2), x5, some (.ref a), some (.ref b), some (.ref x), some (.int (iI k))]) (st' := [.ref y2, .int (iI k)]) rfl rfl ?_
    refine go_v (m := 280) (as := [.ref y2]) (r := [.int (iI k)]) rfl rfl rfl DQ.1 rfl rfl (kh_length z (d + 7) c h0 s1 u y2 m wq bq O nO fO DQ) (fun v1 h1 hq => ?_)
    obtain ⟨rfl, eq1⟩ := hq
    rw [eq1]
    clear eq1 h1
    show xx_go (xt_P z) (d + 8) 283 124 [some (.ref (c + 30)), some (.int (iI o)), some (.int (iI e)), some (.ref y1), some (.ref y2), x5, some (.ref a), some (.ref b), some (.ref x), some (.int (iI k))] [.int (iI m), .int (iI k)] h0 _
    refine mi_ge (t := 156) rfl rfl (by omega) (by omega) (by omega) (by omega) (fun w1 => ?_) (fun w1 => ?_)
    · refine go_a (pc' := 158) (ls' := [some (.ref (c + 30)), some (.int (iI o)), some (.int (iI e)), some (.ref y1), some (.ref y2), x5, some (.ref a), some (.ref b), some (.ref x), some (.int (iI k))]) (st' := [.ref x]) rfl rfl ?_
      refine go_a (pc' := 159) (ls' := [some (.ref (c + 30)), some (.int (iI o)), some (.int (iI e)), some (.ref y1), some (.ref y2), x5, some (.ref a), some (.ref b), some (.ref x), some (.int (iI k))]) (st' := [.ref y1, .ref x]) rfl rfl ?_
      refine go_a (pc' := 160) (ls' := [some (.ref (c + 30)), some (.int (iI o)), some (.int (iI e)), some (.ref y1), some (.ref y2), x5, some (.ref a), some (.ref b), some (.ref x), some (.int (iI k))]) (st' := [.int (iI 1), .ref y1, .ref x]) rfl rfl ?_
      rw [show k = m by omega, List.take_of_length_le (by simp [ol])] at hz
      obtain ⟨mD2, wD2, OD2, nD2, fD2, DD2, eZ2⟩ := id C1
      refine go_v (m := 271) (as := [.ref x, .ref y1, .int (iI 1)]) (r := []) rfl rfl rfl cCx rfl rfl (kh_addFrom z (d + 4) c 1 h0 s1 _ x _ _ y1 mD2 wD2 _ OD2 nD2 fD2 (by decide) (by decide) ne_y1_x DD2 Cx) (fun v3 h3 hq => ?_)
      obtain ⟨rfl, F3, b3, Z3, q3, C3⟩ := hq
      have hz3 := q3
      have S3 := KST_fe S1 Cx hx F3
      have Ta_3 := TM_fe Cx F3 Ta
      have Tb_3 := TM_fe Cx F3 Tb
      have Cy1_3 := CL_fe Cx F3 ne_y1_x C1
      obtain ⟨mCy1_3, wCy1_3, cCy1_3⟩ := CL_cell Cy1_3
      have Dy2_3 := CLS_fe Cx F3 ne_y2_x DQ
      obtain ⟨mC3, wC3, cC3⟩ := CL_cell C3
      show xx_go (xt_P z) (d + 8) 283 163 [some (.ref (c + 30)), some (.int (iI o)), some (.int (iI e)), some (.ref y1), some (.ref y2), x5, some (.ref a), some (.ref b), some (.ref x), some (.int (iI k))] [] h3 _
      have hzz := hz_app hz hz3
      refine go_a (pc' := 164) (ls' := [some (.ref (c + 30)), some (.int (iI o)), some (.int (iI e)), some (.ref y1), some (.ref y2), x5, some (.ref a), some (.ref b), some (.ref x), some (.int (iI k))]) (st' := [.ref (c + 30)]) rfl rfl ?_
      refine go_a (pc' := 166) (ls' := [some (.ref (c + 30)), some (.int (iI o)), some (.int (iI e)), some (.ref y1), some (.ref y2), x5, some (.ref a), some (.ref b), some (.ref x), some (.int (iI k))]) (st' := [.ref x, .ref (c + 30)]) rfl rfl ?_
      refine go_v (m := 265) (as := [.ref (c + 30), .ref x]) (r := []) rfl rfl rfl (S3.1.1 19 (by decide)) rfl rfl (kq_fin z (d + 6) (w := w) (ρ := ρ) (σ := σ) hP S3 C3 (ITR_app _ _ (rpI_tr (KNT_ST (KST_KNT hP S3) S3.2.2.1 S3.2.1).2 (KST_KNT hP S3).2.2.2.2 Oa Ob TQ) (ITR_of (TRO_drop 1 (show TRO s1.N (s1.I 8) NM.2.2.1 (ol _ _ _) D1 by rw [eZ2]; exact TP)))) hzz (by rw [hρ, J1]) (by rw [hσ]; exact J1) e1 hx (by omega) (by omega) (by omega)) (fun v4 h4 hq => ?_)
      rcases hq with ⟨rfl, R4⟩ | ⟨r4, rfl, R4⟩
      · exact go_r rfl rfl rfl rfl rfl rfl R4
      · exact go_r rfl rfl rfl rfl rfl rfl R4
    · refine go_a (pc' := 129) (ls' := [some (.ref (c + 30)), some (.int (iI o)), some (.int (iI e)), some (.ref y1), some (.ref y2), x5, some (.ref a), some (.ref b), some (.ref x), some (.int (iI k))]) (st' := [.ref x]) rfl rfl ?_
      refine go_a (pc' := 130) (ls' := [some (.ref (c + 30)), some (.int (iI o)), some (.int (iI e)), some (.ref y1), some (.ref y2), x5, some (.ref a), some (.ref b), some (.ref x), some (.int (iI k))]) (st' := [.ref (c + 30), .ref x]) rfl rfl ?_
      refine go_get (v := .ref (c + 25)) rfl (S1.1.1 19 (by decide)) rfl rfl ?_
      refine go_a (pc' := 135) (ls' := [some (.ref (c + 30)), some (.int (iI o)), some (.int (iI e)), some (.ref y1), some (.ref y2), x5, some (.ref a), some (.ref b), some (.ref x), some (.int (iI k))]) (st' := [.ref y2, .ref (c + 25), .ref x]) rfl rfl ?_
      refine go_a (pc' := 137) (ls' := [some (.ref (c + 30)), some (.int (iI o)), some (.int (iI e)), some (.ref y1), some (.ref y2), x5, some (.ref a), some (.ref b), some (.ref x), some (.int (iI k))]) (st' := [.int (iI k), .ref y2, .ref (c + 25), .ref x]) rfl rfl ?_
      refine go_v (m := 263) (as := [.ref y2, .int (iI k)]) (r := [.ref (c + 25), .ref x]) rfl rfl rfl DQ.1 rfl rfl (kh_at z (d + 7) c k h0 s1 u y2 m wq bq O nO fO DQ (by omega) (by omega)) (fun v h3 hq => ?_)
      obtain ⟨hq, e9⟩ := hq
      rw [e9]
      clear e9 h3
      rcases hq with ⟨t, rfl, -, -, Tt⟩ | ⟨-, q⟩
      · show xx_go (xt_P z) (d + 8) 283 140 [some (.ref (c + 30)), some (.int (iI o)), some (.int (iI e)), some (.ref y1), some (.ref y2), x5, some (.ref a), some (.ref b), some (.ref x), some (.int (iI k))] [.ref t, .ref (c + 25), .ref x] h0 _
        refine go_a (pc' := 142) (ls' := [some (.ref (c + 30)), some (.int (iI o)), some (.int (iI e)), some (.ref y1), some (.ref y2), x5, some (.ref a), some (.ref b), some (.ref x), some (.int (iI k))]) (st' := [.ref a, .ref t, .ref (c + 25), .ref x]) rfl rfl ?_
        refine go_a (pc' := 144) (ls' := [some (.ref (c + 30)), some (.int (iI o)), some (.int (iI e)), some (.ref y1), some (.ref y2), x5, some (.ref a), some (.ref b), some (.ref x), some (.int (iI k))]) (st' := [.ref b, .ref a, .ref t, .ref (c + 25), .ref x]) rfl rfl ?_
        refine go_v (m := 284) (as := [.ref (c + 25), .ref t, .ref a, .ref b]) (r := [.ref x]) rfl rfl rfl (S1.1.1 16 (by decide)) rfl rfl (kg_replaced z (d + 4) c u t (nO k) (fO k) a na fa b nb fb h0 s1 S1.1 S1.2.1 Tt Ta Tb) (fun v3 h3 hq => ?_)
        obtain ⟨w3, s3, rfl, E3, M3⟩ := RPL_M hq
        have S3 := KST_STE S1 E3
        have e3 := (STE_8 E3).trans e1
        have Ta_3 := TM_kx Ta E3.2.2.2
        have Tb_3 := TM_kx Tb E3.2.2.2
        have Tt_3 := TM_kx Tt E3.2.2.2
        have Cx_3 := CL_kx Cx E3.2.2.2
        obtain ⟨mCx_3, wCx_3, cCx_3⟩ := CL_cell Cx_3
        have Cy1_3 := CL_kx C1 E3.2.2.2
        obtain ⟨mCy1_3, wCy1_3, cCy1_3⟩ := CL_cell Cy1_3
        have Dy2_3 := CLS_kx DQ E3.2.2.2
        have J3 := STE_17 E3 J1
        have Oa_3 := STE_OTR E3 Oa
        have Ob_3 := STE_OTR E3 Ob
        have TOy1_3 := STE_TRO E3 TP
        have TOy2_3 := STE_TRO E3 TQ
        show xx_go (xt_P z) (d + 8) 283 147 [some (.ref (c + 30)), some (.int (iI o)), some (.int (iI e)), some (.ref y1), some (.ref y2), x5, some (.ref a), some (.ref b), some (.ref x), some (.int (iI k))] [w3, .ref x] h3 _
        refine go_v (m := 261) (as := [.ref x, w3]) (r := []) rfl rfl rfl cCx_3 rfl rfl (kq_addC z (d + 5) Cx_3 M3) (fun v4 h4 hq => ?_)
        obtain ⟨rfl, F4, b4, Z4, q4, C4⟩ := hq
        have hz4 := q4
        have S4 := KST_fe S3 Cx_3 hx F4
        have Ta_4 := TM_fe Cx_3 F4 Ta_3
        have Tb_4 := TM_fe Cx_3 F4 Tb_3
        have Tt_4 := TM_fe Cx_3 F4 Tt_3
        have Mw3_4 := MTM_fe Cx_3 F4 M3
        have Cy1_4 := CL_fe Cx_3 F4 ne_y1_x Cy1_3
        obtain ⟨mCy1_4, wCy1_4, cCy1_4⟩ := CL_cell Cy1_4
        have Dy2_4 := CLS_fe Cx_3 F4 ne_y2_x Dy2_3
        obtain ⟨mC4, wC4, cC4⟩ := CL_cell C4
        show xx_go (xt_P z) (d + 8) 283 150 [some (.ref (c + 30)), some (.int (iI o)), some (.int (iI e)), some (.ref y1), some (.ref y2), x5, some (.ref a), some (.ref b), some (.ref x), some (.int (iI k))] [] h4 _
        refine go_a (pc' := 153) (ls' := [some (.ref (c + 30)), some (.int (iI o)), some (.int (iI e)), some (.ref y1), some (.ref y2), x5, some (.ref a), some (.ref b), some (.ref x), some (.int (iI (k + 1)))]) (st' := []) rfl (by rw [← iI_add k 1]; rfl) ?_
        refine go_a (pc' := 117) (ls' := [some (.ref (c + 30)), some (.int (iI o)), some (.int (iI e)), some (.ref y1), some (.ref y2), x5, some (.ref a), some (.ref b), some (.ref x), some (.int (iI (k + 1)))]) (st' := []) rfl rfl ?_
        have hz9 := hz_one hz hz4
        have tk9 := ol_take (nO := nO) (fO := fO) (m := m) (k := k.toNat) (by omega)
        rw [show ((k.toNat : Nat) : Int) = k by omega] at tk9
        have hz8 : (b4, Z4) = (((ol m nO fO).take (k + 1).toNat).map (rpI (rl na fa) (rl nb fb))).foldl clO (0, []) := by rw [show (k + 1).toNat = k.toNat + 1 by omega, tk9, List.map_append]; show _ = (_ ++ [opR (repR _ _ (rl (nO k) (fO k)).length _)]).foldl clO (0, []); rw [rl_len]; exact hz9
        exact ih (k + 1) _ _ _ _ _ (by omega) (by omega) (by omega) (KST_w S4 (by omega) (by omega) (by omega)) e3 Cy1_4 Dy2_4 Ta_4 Tb_4 C4 hz8 Oa_3 Ob_3 TOy2_3 TOy1_3 J3
      · exact absurd (show 0 ≤ k ∧ k < m by omega) q
