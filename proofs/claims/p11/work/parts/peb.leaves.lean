theorem ITR_nil {N : Int → Int} {U : Int} {ft : Nat → Int} : ITR N U ft [] [] := trivial
theorem kq_axiom_22 (z : Value) (d c : Nat) (o : Int) (q : Nat) (hp : xx_H) (s : KS) (NM : BKM) (hP : KPS c hp s NM) (ho : OB s o) (hL : isL (SD s) q o) (r2 : pi s 0 o ≠ 2) (w9 : WD (SD s) o ≤ 1000) (l25 : s.I 8 + WD (SD s) o ≤ 25000) (hq : q = 2) : xx_cl (xt_P z) (d + 9) 293 [.ref (c + 30), .int (iI o), .int (iI 22), .int (iI 1)] hp (fun v h1 => PRP c hp s (WD (SD s) o) NM.2.2.1 (sp_cs2 ((sp_tm NM.2.2.1 (sp_p 1 (DK s.N o))).bind (fun l => (sp_tm NM.2.2.1 (sp_p 1 (DK s.N o))).bind (fun m => (sp_tm NM.2.2.1 (sp_p 1 (DK s.N o))).bind (fun n => sp_cz (sp_ax 2079676 l m n))))) (s.I 17)) (s.I 17) v h1) := by
  have S0 := KST_rf hP
  have e0 : s.I 8 = s.I 8 := rfl
  have lu : s.I 8 ≤ 25000 := hP.2.2.2.2.2.2.2.1
  have u38 := KB_38 hP.2.1
  have J0 : s.I 17 = s.I 17 := rfl
  have fB := KNT_FTB hP.2.2.2.2.2.2.2.2
  have oR := OB_R hP.2.1 ho
  have W := PI_W hP.2.2.1 ho hL (by omega) r2
  have p0 : VD (SD s) (rt (SD s) 0 o) = WD (SD s) (pi s 0 o) + VD (SD s) (rt (SD s) 1 o) ∧ OB s (pi s 0 o) ∧ 1 ≤ WD (SD s) (pi s 0 o) ∧ 0 ≤ VD (SD s) (rt (SD s) 1 o) := PI_w hP.2.2.1 ho hL (j := 0) (by omega)
  have p1 : VD (SD s) (rt (SD s) 1 o) = WD (SD s) (pi s 1 o) + VD (SD s) (rt (SD s) 2 o) ∧ OB s (pi s 1 o) ∧ 1 ≤ WD (SD s) (pi s 1 o) ∧ 0 ≤ VD (SD s) (rt (SD s) 2 o) := PI_w hP.2.2.1 ho hL (j := 1) (by omega)
  obtain ⟨p0, o0, i0, j0⟩ := p0
  obtain ⟨p1, o1, i1, j1⟩ := p1
  refine cl_go rfl ?_
  show xx_go (xt_P z) (d + 8) 293 0 [some (.ref (c + 30)), some (.int (iI o)), some (.int (iI 22)), some (.int (iI 1)), none, none, none, none] [] hp _
  refine go_a (pc' := 1) (ls' := [some (.ref (c + 30)), some (.int (iI o)), some (.int (iI 22)), some (.int (iI 1)), none, none, none, none]) (st' := [.ref (c + 30)]) rfl rfl ?_
  refine go_get (v := .ref (c + 25)) rfl (S0.1.1 19 (by decide)) rfl rfl ?_
  refine go_a (pc' := 5) (ls' := [some (.ref (c + 30)), some (.int (iI o)), some (.int (iI 22)), some (.int (iI 1)), none, none, none, none]) (st' := [.ref (c + 30), .ref (c + 25)]) rfl rfl ?_
  refine go_get (v := .ref (c + 4)) rfl (S0.1.1 19 (by decide)) rfl rfl ?_
  refine go_a (pc' := 9) (ls' := [some (.ref (c + 30)), some (.int (iI o)), some (.int (iI 22)), some (.int (iI 1)), none, none, none, none]) (st' := [.int (iI o), .ref (c + 4), .ref (c + 25)]) rfl rfl ?_
  refine go_a (pc' := 10) (ls' := [some (.ref (c + 30)), some (.int (iI o)), some (.int (iI 22)), some (.int (iI 1)), none, none, none, none]) (st' := [.int (iI 1), .int (iI o), .ref (c + 4), .ref (c + 25)]) rfl rfl ?_
  refine go_v (m := 202) (as := [.ref (c + 4), .int (iI o), .int (iI 1)]) (r := [.ref (c + 25)]) rfl rfl rfl (S0.1.1 3 (by decide)) rfl rfl (kq_part z (d + 6) S0 hP.2.2.1 ho hL (by omega) (by omega) (by omega)) (fun v1 h1 hq => ?_)
  obtain ⟨rfl, eq1⟩ := hq
  rw [eq1]
  clear eq1 h1
  show xx_go (xt_P z) (d + 8) 293 13 [some (.ref (c + 30)), some (.int (iI o)), some (.int (iI 22)), some (.int (iI 1)), none, none, none, none] [.int (iI (pi s 1 o)), .ref (c + 25)] hp _
  refine go_v (m := 211) (as := [.ref (c + 25), .int (iI (pi s 1 o))]) (r := []) rfl rfl rfl (S0.1.1 16 (by decide)) rfl rfl (kq_readM z (d + 1) hP S0 e0 lu o1 (by omega)) (fun v2 h2 hq => ?_)
  obtain ⟨w2, s2, rfl, E2, R2, M2, Or2⟩ := hq
  rw [PI_D hP ho hL (j := 1) (by omega)] at Or2
  have S2 := KST_STE S0 E2
  have e2 := (STE_8 E2).trans e0
  have J2 := STE_17 E2 J0
  show xx_go (xt_P z) (d + 8) 293 16 [some (.ref (c + 30)), some (.int (iI o)), some (.int (iI 22)), some (.int (iI 1)), none, none, none, none] [w2] h2 _
  refine go_a (pc' := 18) (ls' := [some (.ref (c + 30)), some (.int (iI o)), some (.int (iI 22)), some (.int (iI 1)), some (w2), none, none, none]) (st' := []) rfl (by rcases MTM_r M2 with rfl | ⟨_, rfl⟩ <;> rfl) ?_
  refine go_a (pc' := 19) (ls' := [some (.ref (c + 30)), some (.int (iI o)), some (.int (iI 22)), some (.int (iI 1)), some (w2), none, none, none]) (st' := [.int (iI 1)]) rfl rfl ?_
  refine go_a (pc' := 20) (ls' := [some (.ref (c + 30)), some (.int (iI o)), some (.int (iI 22)), some (.int (iI 1)), some (w2), none, none, none]) (st' := [.int (iI 1), .int (iI 1)]) rfl rfl ?_
  refine mi_le (t := 42) rfl rfl (by omega) (by omega) (by omega) (by omega) (fun _ => ?_) (fun q => absurd (by decide) q)
  refine go_a (pc' := 44) (ls' := [some (.ref (c + 30)), some (.int (iI o)), some (.int (iI 22)), some (.int (iI 1)), some (w2), none, none, none]) (st' := [w2]) rfl (by rcases MTM_r M2 with rfl | ⟨_, rfl⟩ <;> rfl) ?_
  refine go_a (pc' := 46) (ls' := [some (.ref (c + 30)), some (.int (iI o)), some (.int (iI 22)), some (.int (iI 1)), some (w2), some (w2), none, none]) (st' := []) rfl (by rcases MTM_r M2 with rfl | ⟨_, rfl⟩ <;> rfl) ?_
  refine go_a (pc' := 47) (ls' := [some (.ref (c + 30)), some (.int (iI o)), some (.int (iI 22)), some (.int (iI 1)), some (w2), some (w2), none, none]) (st' := [.int (iI 1)]) rfl rfl ?_
  refine go_a (pc' := 48) (ls' := [some (.ref (c + 30)), some (.int (iI o)), some (.int (iI 22)), some (.int (iI 1)), some (w2), some (w2), none, none]) (st' := [.int (iI 2), .int (iI 1)]) rfl rfl ?_
  refine mi_le (t := 70) rfl rfl (by omega) (by omega) (by omega) (by omega) (fun _ => ?_) (fun q => absurd (by decide) q)
  refine go_a (pc' := 72) (ls' := [some (.ref (c + 30)), some (.int (iI o)), some (.int (iI 22)), some (.int (iI 1)), some (w2), some (w2), none, none]) (st' := [w2]) rfl (by rcases MTM_r M2 with rfl | ⟨_, rfl⟩ <;> rfl) ?_
  refine go_a (pc' := 74) (ls' := [some (.ref (c + 30)), some (.int (iI o)), some (.int (iI 22)), some (.int (iI 1)), some (w2), some (w2), some (w2), none]) (st' := []) rfl (by rcases MTM_r M2 with rfl | ⟨_, rfl⟩ <;> rfl) ?_
  refine go_a (pc' := 76) (ls' := [some (.ref (c + 30)), some (.int (iI o)), some (.int (iI 22)), some (.int (iI 1)), some (w2), some (w2), some (w2), none]) (st' := [w2]) rfl (by rcases MTM_r M2 with rfl | ⟨_, rfl⟩ <;> rfl) ?_
  rcases M2 with ⟨rfl, rfl⟩ | ⟨a3, n3, f3, rfl, T3, rfl⟩
  · have nu3 := OTR_nn Or2
    show xx_go (xt_P z) (d + 8) 293 76 [some (.ref (c + 30)), some (.int (iI o)), some (.int (iI 22)), some (.int (iI 1)), some (.null), some (.null), some (.null), none] [.null] h2 _
    refine go_a (pc' := 89) (ls' := [some (.ref (c + 30)), some (.int (iI o)), some (.int (iI 22)), some (.int (iI 1)), some (.null), some (.null), some (.null), none]) (st' := []) rfl rfl ?_
    refine go_a (pc' := 90) (ls' := [some (.ref (c + 30)), some (.int (iI o)), some (.int (iI 22)), some (.int (iI 1)), some (.null), some (.null), some (.null), none]) (st' := [.ref (c + 30)]) rfl rfl ?_
    refine go_a (pc' := 91) (ls' := [some (.ref (c + 30)), some (.int (iI o)), some (.int (iI 22)), some (.int (iI 1)), some (.null), some (.null), some (.null), none]) (st' := [.int (iI o), .ref (c + 30)]) rfl rfl ?_
    refine go_v (m := 248) (as := [.ref (c + 30), .int (iI o)]) (r := []) rfl rfl rfl (S2.1.1 19 (by decide)) rfl rfl (kq_failAtP z (d + 7) (w := WD (SD s) o) S2 (by omega) (by omega) (by omega) (by omega) (by omega) (ft := NM.2.2.1) (ρ := (sp_cs2 ((sp_tm NM.2.2.1 (sp_p 1 (DK s.N o))).bind (fun l => (sp_tm NM.2.2.1 (sp_p 1 (DK s.N o))).bind (fun m => (sp_tm NM.2.2.1 (sp_p 1 (DK s.N o))).bind (fun n => sp_cz (sp_ax 2079676 l m n))))) (s.I 17))) (σ := (s.I 17)) (by rw [nu3]; rfl) J2) (fun v4 h4 hq => ?_)
    obtain ⟨rfl, R4⟩ := hq
    show xx_go (xt_P z) (d + 8) 293 94 [some (.ref (c + 30)), some (.int (iI o)), some (.int (iI 22)), some (.int (iI 1)), some (.null), some (.null), some (.null), none] [.null] h4 _
    exact go_r rfl rfl rfl rfl rfl rfl R4
  · obtain ⟨t3, et3, Ot3⟩ := OTR_ss Or2
    have Oa3 : OTR s2.N (s2.I 8) NM.2.2.1 (some (rl n3 f3)) (some t3) := Ot3
    show xx_go (xt_P z) (d + 8) 293 76 [some (.ref (c + 30)), some (.int (iI o)), some (.int (iI 22)), some (.int (iI 1)), some (.ref a3), some (.ref a3), some (.ref a3), none] [.ref a3] h2 _
    refine go_a (pc' := 79) (ls' := [some (.ref (c + 30)), some (.int (iI o)), some (.int (iI 22)), some (.int (iI 1)), some (.ref a3), some (.ref a3), some (.ref a3), none]) (st' := []) rfl rfl ?_
    refine go_a (pc' := 81) (ls' := [some (.ref (c + 30)), some (.int (iI o)), some (.int (iI 22)), some (.int (iI 1)), some (.ref a3), some (.ref a3), some (.ref a3), none]) (st' := [.ref a3]) rfl rfl ?_
    refine go_a (pc' := 84) (ls' := [some (.ref (c + 30)), some (.int (iI o)), some (.int (iI 22)), some (.int (iI 1)), some (.ref a3), some (.ref a3), some (.ref a3), none]) (st' := []) rfl rfl ?_
    refine go_a (pc' := 86) (ls' := [some (.ref (c + 30)), some (.int (iI o)), some (.int (iI 22)), some (.int (iI 1)), some (.ref a3), some (.ref a3), some (.ref a3), none]) (st' := [.ref a3]) rfl rfl ?_
    refine go_a (pc' := 95) (ls' := [some (.ref (c + 30)), some (.int (iI o)), some (.int (iI 22)), some (.int (iI 1)), some (.ref a3), some (.ref a3), some (.ref a3), none]) (st' := []) rfl rfl ?_
    have l12_4 : 12 ≤ h2.length := by have := ki_lt S2.1 (i := 0) (by decide); have := S2.1.2.1 0 (by decide); omega
    refine go_new (ci := 12) (fs := [.null, .int 0, .int 0, .int 0]) rfl rfl rfl ?_
    show xx_go (xt_P z) (d + 8) 293 98 [some (.ref (c + 30)), some (.int (iI o)), some (.int (iI 22)), some (.int (iI 1)), some (.ref a3), some (.ref a3), some (.ref a3), none] [.ref h2.length] (h2 ++ [.inr (12, [.null, .int 0, .int 0, .int 0])]) _
    refine go_a (pc' := 99) (ls' := [some (.ref (c + 30)), some (.int (iI o)), some (.int (iI 22)), some (.int (iI 1)), some (.ref a3), some (.ref a3), some (.ref a3), none]) (st' := [.ref h2.length, .ref h2.length]) rfl rfl ?_
    refine go_i (m := 257) (as := [.ref h2.length]) (r := [.ref h2.length]) rfl rfl rfl rfl rfl (kh_init z (d + 7) h2 l12_4) (fun v4 h4 hq => ?_)
    obtain ⟨rfl, rfl⟩ := hq
    obtain ⟨K4, X4, B4⟩ := mkC_CL (u := (s.I 8)) S2.1
    have C4 : CL c (mkC h2) s2 (s.I 8) h2.length 0 [] := ⟨_, _, _, _, _, B4, rfl⟩
    have S4 := KST_X S2 K4 X4
    obtain ⟨x4, ex4⟩ : ∃ q : Nat, q = h2.length := ⟨_, rfl⟩
    have Ta3_4 := TM_kx T3 X4
    obtain ⟨hM4, eM4⟩ : ∃ q : xx_H, q = mkC h2 := ⟨_, rfl⟩
    have hx4 : hp.length ≤ x4 := by rw [ex4]; exact KST_len S2
    rw [← ex4] at C4
    rw [← eM4, ← ex4]
    obtain ⟨mC4, wC4, cC4⟩ := CL_cell C4
    rw [← eM4] at S4 C4 cC4 Ta3_4
    clear B4 K4 X4
    show xx_go (xt_P z) (d + 8) 293 102 [some (.ref (c + 30)), some (.int (iI o)), some (.int (iI 22)), some (.int (iI 1)), some (.ref a3), some (.ref a3), some (.ref a3), none] [.ref x4] hM4 _
    refine go_a (pc' := 104) (ls' := [some (.ref (c + 30)), some (.int (iI o)), some (.int (iI 22)), some (.int (iI 1)), some (.ref a3), some (.ref a3), some (.ref a3), some (.ref x4)]) (st' := []) rfl rfl ?_
    refine go_a (pc' := 105) (ls' := [some (.ref (c + 30)), some (.int (iI o)), some (.int (iI 22)), some (.int (iI 1)), some (.ref a3), some (.ref a3), some (.ref a3), some (.ref x4)]) (st' := [.int (iI 22)]) rfl rfl ?_
    refine go_a (pc' := 148) (ls' := [some (.ref (c + 30)), some (.int (iI o)), some (.int (iI 22)), some (.int (iI 1)), some (.ref a3), some (.ref a3), some (.ref a3), some (.ref x4)]) (st' := []) rfl rfl ?_
    refine go_a (pc' := 150) (ls' := [some (.ref (c + 30)), some (.int (iI o)), some (.int (iI 22)), some (.int (iI 1)), some (.ref a3), some (.ref a3), some (.ref a3), some (.ref x4)]) (st' := [.ref x4]) rfl rfl ?_
    refine go_a (pc' := 152) (ls' := [some (.ref (c + 30)), some (.int (iI o)), some (.int (iI 22)), some (.int (iI 1)), some (.ref a3), some (.ref a3), some (.ref a3), some (.ref x4)]) (st' := [.ref a3, .ref x4]) rfl rfl ?_
    refine go_v (m := 261) (as := [.ref x4, .ref a3]) (r := []) rfl rfl rfl cC4 rfl rfl (kq_addC z (d + 5) C4 (MTM_T Ta3_4)) (fun v5 h5 hq => ?_)
    obtain ⟨rfl, F5, b5, Z5, q5, C5⟩ := hq
    have hz5 := q5
    have S5 := KST_fe S4 C4 hx4 F5
    have Ta3_5 := TM_fe C4 F5 Ta3_4
    obtain ⟨mC5, wC5, cC5⟩ := CL_cell C5
    show xx_go (xt_P z) (d + 8) 293 155 [some (.ref (c + 30)), some (.int (iI o)), some (.int (iI 22)), some (.int (iI 1)), some (.ref a3), some (.ref a3), some (.ref a3), some (.ref x4)] [] h5 _
    refine go_a (pc' := 157) (ls' := [some (.ref (c + 30)), some (.int (iI o)), some (.int (iI 22)), some (.int (iI 1)), some (.ref a3), some (.ref a3), some (.ref a3), some (.ref x4)]) (st' := [.ref x4]) rfl rfl ?_
    refine go_a (pc' := 158) (ls' := [some (.ref (c + 30)), some (.int (iI o)), some (.int (iI 22)), some (.int (iI 1)), some (.ref a3), some (.ref a3), some (.ref a3), some (.ref x4)]) (st' := [.ref (c + 30), .ref x4]) rfl rfl ?_
    refine go_get (v := .ref (c + 25)) rfl (S5.1.1 19 (by decide)) rfl rfl ?_
    refine go_a (pc' := 163) (ls' := [some (.ref (c + 30)), some (.int (iI o)), some (.int (iI 22)), some (.int (iI 1)), some (.ref a3), some (.ref a3), some (.ref a3), some (.ref x4)]) (st' := [.ref a3, .ref (c + 25), .ref x4]) rfl rfl ?_
    have Om6 := OTR_nt (KNT_ST (KST_KNT hP S5) S5.2.2.1 S5.2.1).2 (KST_KNT hP S5).2.2.2.2 Oa3
    refine go_v (m := 273) (as := [.ref (c + 25), .ref a3]) (r := [.ref x4]) rfl rfl rfl (S5.1.1 16 (by decide)) rfl rfl (kq_mkn z (d + 3) S5.1 S5.2.1 (by omega) (MTM_T Ta3_5)) (fun v6 h6 hq => ?_)
    obtain ⟨w6, s6, rfl, E6, M6⟩ := hq
    have S6 := KST_STE S5 E6
    have e6 := (STE_8 E6).trans e2
    have Ta3_6 := TM_kx Ta3_5 E6.2.2.2
    have Cx4_6 := CL_kx C5 E6.2.2.2
    obtain ⟨mCx4_6, wCx4_6, cCx4_6⟩ := CL_cell Cx4_6
    have J6 := STE_17 E6 J2
    have Oa3_6 := STE_OTR E6 Oa3
    have Oi1_6 := STE_OTR E6 Oa3
    have Ow6_6 := STE_OTR E6 Om6
    show xx_go (xt_P z) (d + 8) 293 166 [some (.ref (c + 30)), some (.int (iI o)), some (.int (iI 22)), some (.int (iI 1)), some (.ref a3), some (.ref a3), some (.ref a3), some (.ref x4)] [w6, .ref x4] h6 _
    refine go_v (m := 261) (as := [.ref x4, w6]) (r := []) rfl rfl rfl cCx4_6 rfl rfl (kq_addC z (d + 5) Cx4_6 M6) (fun v7 h7 hq => ?_)
    obtain ⟨rfl, F7, b7, Z7, q7, C7⟩ := hq
    have hz7 := q7.trans (congrArg (fun X => clO X _) hz5)
    have S7 := KST_fe S6 Cx4_6 hx4 F7
    have Ta3_7 := TM_fe Cx4_6 F7 Ta3_6
    have Mw6_7 := MTM_fe Cx4_6 F7 M6
    obtain ⟨mC7, wC7, cC7⟩ := CL_cell C7
    show xx_go (xt_P z) (d + 8) 293 169 [some (.ref (c + 30)), some (.int (iI o)), some (.int (iI 22)), some (.int (iI 1)), some (.ref a3), some (.ref a3), some (.ref a3), some (.ref x4)] [] h7 _
    refine go_a (pc' := 381) (ls' := [some (.ref (c + 30)), some (.int (iI o)), some (.int (iI 22)), some (.int (iI 1)), some (.ref a3), some (.ref a3), some (.ref a3), some (.ref x4)]) (st' := []) rfl rfl ?_
    refine go_a (pc' := 382) (ls' := [some (.ref (c + 30)), some (.int (iI o)), some (.int (iI 22)), some (.int (iI 1)), some (.ref a3), some (.ref a3), some (.ref a3), some (.ref x4)]) (st' := [.ref (c + 30)]) rfl rfl ?_
    refine go_a (pc' := 384) (ls' := [some (.ref (c + 30)), some (.int (iI o)), some (.int (iI 22)), some (.int (iI 1)), some (.ref a3), some (.ref a3), some (.ref a3), some (.ref x4)]) (st' := [.ref x4, .ref (c + 30)]) rfl rfl ?_
    refine go_v (m := 265) (as := [.ref (c + 30), .ref x4]) (r := []) rfl rfl rfl (S7.1.1 19 (by decide)) rfl rfl (kq_fin z (d + 6) (w := WD (SD s) o) (ρ := (sp_cs2 ((sp_tm NM.2.2.1 (sp_p 1 (DK s.N o))).bind (fun l => (sp_tm NM.2.2.1 (sp_p 1 (DK s.N o))).bind (fun m => (sp_tm NM.2.2.1 (sp_p 1 (DK s.N o))).bind (fun n => sp_cz (sp_ax 2079676 l m n))))) (s.I 17))) (σ := (s.I 17)) hP S7 C7 (ITR_one Oi1_6 (ITR_one Ow6_6 ITR_nil)) hz7 (by rw [et3, J6]; rfl) J6 e6 hx4 (by omega) (by omega) (by omega)) (fun v8 h8 hq => ?_)
    rcases hq with ⟨rfl, R8⟩ | ⟨r8, rfl, R8⟩
    · exact go_r rfl rfl rfl rfl rfl rfl R8
    · exact go_r rfl rfl rfl rfl rfl rfl R8
theorem kq_axiom_23 (z : Value) (d c : Nat) (o : Int) (q : Nat) (hp : xx_H) (s : KS) (NM : BKM) (hP : KPS c hp s NM) (ho : OB s o) (hL : isL (SD s) q o) (r2 : pi s 0 o ≠ 2) (w9 : WD (SD s) o ≤ 1000) (l25 : s.I 8 + WD (SD s) o ≤ 25000) (hq : q = 2) : xx_cl (xt_P z) (d + 9) 293 [.ref (c + 30), .int (iI o), .int (iI 23), .int (iI 1)] hp (fun v h1 => PRP c hp s (WD (SD s) o) NM.2.2.1 (sp_cs2 ((sp_tm NM.2.2.1 (sp_p 1 (DK s.N o))).bind (fun l => (sp_tm NM.2.2.1 (sp_p 1 (DK s.N o))).bind (fun m => (sp_tm NM.2.2.1 (sp_p 1 (DK s.N o))).bind (fun n => sp_cz (sp_ax 1975462 l m n))))) (s.I 17)) (s.I 17) v h1) := by
  have S0 := KST_rf hP
  have e0 : s.I 8 = s.I 8 := rfl
  have lu : s.I 8 ≤ 25000 := hP.2.2.2.2.2.2.2.1
  have u38 := KB_38 hP.2.1
  have J0 : s.I 17 = s.I 17 := rfl
  have fB := KNT_FTB hP.2.2.2.2.2.2.2.2
  have oR := OB_R hP.2.1 ho
  have W := PI_W hP.2.2.1 ho hL (by omega) r2
  have p0 : VD (SD s) (rt (SD s) 0 o) = WD (SD s) (pi s 0 o) + VD (SD s) (rt (SD s) 1 o) ∧ OB s (pi s 0 o) ∧ 1 ≤ WD (SD s) (pi s 0 o) ∧ 0 ≤ VD (SD s) (rt (SD s) 1 o) := PI_w hP.2.2.1 ho hL (j := 0) (by omega)
  have p1 : VD (SD s) (rt (SD s) 1 o) = WD (SD s) (pi s 1 o) + VD (SD s) (rt (SD s) 2 o) ∧ OB s (pi s 1 o) ∧ 1 ≤ WD (SD s) (pi s 1 o) ∧ 0 ≤ VD (SD s) (rt (SD s) 2 o) := PI_w hP.2.2.1 ho hL (j := 1) (by omega)
  obtain ⟨p0, o0, i0, j0⟩ := p0
  obtain ⟨p1, o1, i1, j1⟩ := p1
  refine cl_go rfl ?_
  show xx_go (xt_P z) (d + 8) 293 0 [some (.ref (c + 30)), some (.int (iI o)), some (.int (iI 23)), some (.int (iI 1)), none, none, none, none] [] hp _
  refine go_a (pc' := 1) (ls' := [some (.ref (c + 30)), some (.int (iI o)), some (.int (iI 23)), some (.int (iI 1)), none, none, none, none]) (st' := [.ref (c + 30)]) rfl rfl ?_
  refine go_get (v := .ref (c + 25)) rfl (S0.1.1 19 (by decide)) rfl rfl ?_
  refine go_a (pc' := 5) (ls' := [some (.ref (c + 30)), some (.int (iI o)), some (.int (iI 23)), some (.int (iI 1)), none, none, none, none]) (st' := [.ref (c + 30), .ref (c + 25)]) rfl rfl ?_
  refine go_get (v := .ref (c + 4)) rfl (S0.1.1 19 (by decide)) rfl rfl ?_
  refine go_a (pc' := 9) (ls' := [some (.ref (c + 30)), some (.int (iI o)), some (.int (iI 23)), some (.int (iI 1)), none, none, none, none]) (st' := [.int (iI o), .ref (c + 4), .ref (c + 25)]) rfl rfl ?_
  refine go_a (pc' := 10) (ls' := [some (.ref (c + 30)), some (.int (iI o)), some (.int (iI 23)), some (.int (iI 1)), none, none, none, none]) (st' := [.int (iI 1), .int (iI o), .ref (c + 4), .ref (c + 25)]) rfl rfl ?_
  refine go_v (m := 202) (as := [.ref (c + 4), .int (iI o), .int (iI 1)]) (r := [.ref (c + 25)]) rfl rfl rfl (S0.1.1 3 (by decide)) rfl rfl (kq_part z (d + 6) S0 hP.2.2.1 ho hL (by omega) (by omega) (by omega)) (fun v1 h1 hq => ?_)
  obtain ⟨rfl, eq1⟩ := hq
  rw [eq1]
  clear eq1 h1
  show xx_go (xt_P z) (d + 8) 293 13 [some (.ref (c + 30)), some (.int (iI o)), some (.int (iI 23)), some (.int (iI 1)), none, none, none, none] [.int (iI (pi s 1 o)), .ref (c + 25)] hp _
  refine go_v (m := 211) (as := [.ref (c + 25), .int (iI (pi s 1 o))]) (r := []) rfl rfl rfl (S0.1.1 16 (by decide)) rfl rfl (kq_readM z (d + 1) hP S0 e0 lu o1 (by omega)) (fun v2 h2 hq => ?_)
  obtain ⟨w2, s2, rfl, E2, R2, M2, Or2⟩ := hq
  rw [PI_D hP ho hL (j := 1) (by omega)] at Or2
  have S2 := KST_STE S0 E2
  have e2 := (STE_8 E2).trans e0
  have J2 := STE_17 E2 J0
  show xx_go (xt_P z) (d + 8) 293 16 [some (.ref (c + 30)), some (.int (iI o)), some (.int (iI 23)), some (.int (iI 1)), none, none, none, none] [w2] h2 _
  refine go_a (pc' := 18) (ls' := [some (.ref (c + 30)), some (.int (iI o)), some (.int (iI 23)), some (.int (iI 1)), some (w2), none, none, none]) (st' := []) rfl (by rcases MTM_r M2 with rfl | ⟨_, rfl⟩ <;> rfl) ?_
  refine go_a (pc' := 19) (ls' := [some (.ref (c + 30)), some (.int (iI o)), some (.int (iI 23)), some (.int (iI 1)), some (w2), none, none, none]) (st' := [.int (iI 1)]) rfl rfl ?_
  refine go_a (pc' := 20) (ls' := [some (.ref (c + 30)), some (.int (iI o)), some (.int (iI 23)), some (.int (iI 1)), some (w2), none, none, none]) (st' := [.int (iI 1), .int (iI 1)]) rfl rfl ?_
  refine mi_le (t := 42) rfl rfl (by omega) (by omega) (by omega) (by omega) (fun _ => ?_) (fun q => absurd (by decide) q)
  refine go_a (pc' := 44) (ls' := [some (.ref (c + 30)), some (.int (iI o)), some (.int (iI 23)), some (.int (iI 1)), some (w2), none, none, none]) (st' := [w2]) rfl (by rcases MTM_r M2 with rfl | ⟨_, rfl⟩ <;> rfl) ?_
  refine go_a (pc' := 46) (ls' := [some (.ref (c + 30)), some (.int (iI o)), some (.int (iI 23)), some (.int (iI 1)), some (w2), some (w2), none, none]) (st' := []) rfl (by rcases MTM_r M2 with rfl | ⟨_, rfl⟩ <;> rfl) ?_
  refine go_a (pc' := 47) (ls' := [some (.ref (c + 30)), some (.int (iI o)), some (.int (iI 23)), some (.int (iI 1)), some (w2), some (w2), none, none]) (st' := [.int (iI 1)]) rfl rfl ?_
  refine go_a (pc' := 48) (ls' := [some (.ref (c + 30)), some (.int (iI o)), some (.int (iI 23)), some (.int (iI 1)), some (w2), some (w2), none, none]) (st' := [.int (iI 2), .int (iI 1)]) rfl rfl ?_
  refine mi_le (t := 70) rfl rfl (by omega) (by omega) (by omega) (by omega) (fun _ => ?_) (fun q => absurd (by decide) q)
  refine go_a (pc' := 72) (ls' := [some (.ref (c + 30)), some (.int (iI o)), some (.int (iI 23)), some (.int (iI 1)), some (w2), some (w2), none, none]) (st' := [w2]) rfl (by rcases MTM_r M2 with rfl | ⟨_, rfl⟩ <;> rfl) ?_
  refine go_a (pc' := 74) (ls' := [some (.ref (c + 30)), some (.int (iI o)), some (.int (iI 23)), some (.int (iI 1)), some (w2), some (w2), some (w2), none]) (st' := []) rfl (by rcases MTM_r M2 with rfl | ⟨_, rfl⟩ <;> rfl) ?_
  refine go_a (pc' := 76) (ls' := [some (.ref (c + 30)), some (.int (iI o)), some (.int (iI 23)), some (.int (iI 1)), some (w2), some (w2), some (w2), none]) (st' := [w2]) rfl (by rcases MTM_r M2 with rfl | ⟨_, rfl⟩ <;> rfl) ?_
  rcases M2 with ⟨rfl, rfl⟩ | ⟨a3, n3, f3, rfl, T3, rfl⟩
  · have nu3 := OTR_nn Or2
    show xx_go (xt_P z) (d + 8) 293 76 [some (.ref (c + 30)), some (.int (iI o)), some (.int (iI 23)), some (.int (iI 1)), some (.null), some (.null), some (.null), none] [.null] h2 _
    refine go_a (pc' := 89) (ls' := [some (.ref (c + 30)), some (.int (iI o)), some (.int (iI 23)), some (.int (iI 1)), some (.null), some (.null), some (.null), none]) (st' := []) rfl rfl ?_
    refine go_a (pc' := 90) (ls' := [some (.ref (c + 30)), some (.int (iI o)), some (.int (iI 23)), some (.int (iI 1)), some (.null), some (.null), some (.null), none]) (st' := [.ref (c + 30)]) rfl rfl ?_
    refine go_a (pc' := 91) (ls' := [some (.ref (c + 30)), some (.int (iI o)), some (.int (iI 23)), some (.int (iI 1)), some (.null), some (.null), some (.null), none]) (st' := [.int (iI o), .ref (c + 30)]) rfl rfl ?_
    refine go_v (m := 248) (as := [.ref (c + 30), .int (iI o)]) (r := []) rfl rfl rfl (S2.1.1 19 (by decide)) rfl rfl (kq_failAtP z (d + 7) (w := WD (SD s) o) S2 (by omega) (by omega) (by omega) (by omega) (by omega) (ft := NM.2.2.1) (ρ := (sp_cs2 ((sp_tm NM.2.2.1 (sp_p 1 (DK s.N o))).bind (fun l => (sp_tm NM.2.2.1 (sp_p 1 (DK s.N o))).bind (fun m => (sp_tm NM.2.2.1 (sp_p 1 (DK s.N o))).bind (fun n => sp_cz (sp_ax 1975462 l m n))))) (s.I 17))) (σ := (s.I 17)) (by rw [nu3]; rfl) J2) (fun v4 h4 hq => ?_)
    obtain ⟨rfl, R4⟩ := hq
    show xx_go (xt_P z) (d + 8) 293 94 [some (.ref (c + 30)), some (.int (iI o)), some (.int (iI 23)), some (.int (iI 1)), some (.null), some (.null), some (.null), none] [.null] h4 _
    exact go_r rfl rfl rfl rfl rfl rfl R4
  · obtain ⟨t3, et3, Ot3⟩ := OTR_ss Or2
    have Oa3 : OTR s2.N (s2.I 8) NM.2.2.1 (some (rl n3 f3)) (some t3) := Ot3
    show xx_go (xt_P z) (d + 8) 293 76 [some (.ref (c + 30)), some (.int (iI o)), some (.int (iI 23)), some (.int (iI 1)), some (.ref a3), some (.ref a3), some (.ref a3), none] [.ref a3] h2 _
    refine go_a (pc' := 79) (ls' := [some (.ref (c + 30)), some (.int (iI o)), some (.int (iI 23)), some (.int (iI 1)), some (.ref a3), some (.ref a3), some (.ref a3), none]) (st' := []) rfl rfl ?_
    refine go_a (pc' := 81) (ls' := [some (.ref (c + 30)), some (.int (iI o)), some (.int (iI 23)), some (.int (iI 1)), some (.ref a3), some (.ref a3), some (.ref a3), none]) (st' := [.ref a3]) rfl rfl ?_
    refine go_a (pc' := 84) (ls' := [some (.ref (c + 30)), some (.int (iI o)), some (.int (iI 23)), some (.int (iI 1)), some (.ref a3), some (.ref a3), some (.ref a3), none]) (st' := []) rfl rfl ?_
    refine go_a (pc' := 86) (ls' := [some (.ref (c + 30)), some (.int (iI o)), some (.int (iI 23)), some (.int (iI 1)), some (.ref a3), some (.ref a3), some (.ref a3), none]) (st' := [.ref a3]) rfl rfl ?_
    refine go_a (pc' := 95) (ls' := [some (.ref (c + 30)), some (.int (iI o)), some (.int (iI 23)), some (.int (iI 1)), some (.ref a3), some (.ref a3), some (.ref a3), none]) (st' := []) rfl rfl ?_
    have l12_4 : 12 ≤ h2.length := by have := ki_lt S2.1 (i := 0) (by decide); have := S2.1.2.1 0 (by decide); omega
    refine go_new (ci := 12) (fs := [.null, .int 0, .int 0, .int 0]) rfl rfl rfl ?_
    show xx_go (xt_P z) (d + 8) 293 98 [some (.ref (c + 30)), some (.int (iI o)), some (.int (iI 23)), some (.int (iI 1)), some (.ref a3), some (.ref a3), some (.ref a3), none] [.ref h2.length] (h2 ++ [.inr (12, [.null, .int 0, .int 0, .int 0])]) _
    refine go_a (pc' := 99) (ls' := [some (.ref (c + 30)), some (.int (iI o)), some (.int (iI 23)), some (.int (iI 1)), some (.ref a3), some (.ref a3), some (.ref a3), none]) (st' := [.ref h2.length, .ref h2.length]) rfl rfl ?_
    refine go_i (m := 257) (as := [.ref h2.length]) (r := [.ref h2.length]) rfl rfl rfl rfl rfl (kh_init z (d + 7) h2 l12_4) (fun v4 h4 hq => ?_)
    obtain ⟨rfl, rfl⟩ := hq
    obtain ⟨K4, X4, B4⟩ := mkC_CL (u := (s.I 8)) S2.1
    have C4 : CL c (mkC h2) s2 (s.I 8) h2.length 0 [] := ⟨_, _, _, _, _, B4, rfl⟩
    have S4 := KST_X S2 K4 X4
    obtain ⟨x4, ex4⟩ : ∃ q : Nat, q = h2.length := ⟨_, rfl⟩
    have Ta3_4 := TM_kx T3 X4
    obtain ⟨hM4, eM4⟩ : ∃ q : xx_H, q = mkC h2 := ⟨_, rfl⟩
    have hx4 : hp.length ≤ x4 := by rw [ex4]; exact KST_len S2
    rw [← ex4] at C4
    rw [← eM4, ← ex4]
    obtain ⟨mC4, wC4, cC4⟩ := CL_cell C4
    rw [← eM4] at S4 C4 cC4 Ta3_4
    clear B4 K4 X4
    show xx_go (xt_P z) (d + 8) 293 102 [some (.ref (c + 30)), some (.int (iI o)), some (.int (iI 23)), some (.int (iI 1)), some (.ref a3), some (.ref a3), some (.ref a3), none] [.ref x4] hM4 _
    refine go_a (pc' := 104) (ls' := [some (.ref (c + 30)), some (.int (iI o)), some (.int (iI 23)), some (.int (iI 1)), some (.ref a3), some (.ref a3), some (.ref a3), some (.ref x4)]) (st' := []) rfl rfl ?_
    refine go_a (pc' := 105) (ls' := [some (.ref (c + 30)), some (.int (iI o)), some (.int (iI 23)), some (.int (iI 1)), some (.ref a3), some (.ref a3), some (.ref a3), some (.ref x4)]) (st' := [.int (iI 23)]) rfl rfl ?_
    refine go_a (pc' := 172) (ls' := [some (.ref (c + 30)), some (.int (iI o)), some (.int (iI 23)), some (.int (iI 1)), some (.ref a3), some (.ref a3), some (.ref a3), some (.ref x4)]) (st' := []) rfl rfl ?_
    refine go_a (pc' := 174) (ls' := [some (.ref (c + 30)), some (.int (iI o)), some (.int (iI 23)), some (.int (iI 1)), some (.ref a3), some (.ref a3), some (.ref a3), some (.ref x4)]) (st' := [.ref x4]) rfl rfl ?_
    refine go_a (pc' := 175) (ls' := [some (.ref (c + 30)), some (.int (iI o)), some (.int (iI 23)), some (.int (iI 1)), some (.ref a3), some (.ref a3), some (.ref a3), some (.ref x4)]) (st' := [.ref (c + 30), .ref x4]) rfl rfl ?_
    refine go_get (v := .ref (c + 25)) rfl (S4.1.1 19 (by decide)) rfl rfl ?_
    refine go_a (pc' := 179) (ls' := [some (.ref (c + 30)), some (.int (iI o)), some (.int (iI 23)), some (.int (iI 1)), some (.ref a3), some (.ref a3), some (.ref a3), some (.ref x4)]) (st' := [.int (iI 4), .ref (c + 25), .ref x4]) rfl rfl ?_
    refine go_a (pc' := 181) (ls' := [some (.ref (c + 30)), some (.int (iI o)), some (.int (iI 23)), some (.int (iI 1)), some (.ref a3), some (.ref a3), some (.ref a3), some (.ref x4)]) (st' := [.ref a3, .int (iI 4), .ref (c + 25), .ref x4]) rfl rfl ?_
    refine go_a (pc' := 183) (ls' := [some (.ref (c + 30)), some (.int (iI o)), some (.int (iI 23)), some (.int (iI 1)), some (.ref a3), some (.ref a3), some (.ref a3), some (.ref x4)]) (st' := [.ref a3, .ref a3, .int (iI 4), .ref (c + 25), .ref x4]) rfl rfl ?_
    have Om5 := OTQ_2 (v := 26209844) (show sp_isq (.var 26209844) = false by decide) fB.2.1 (by decide) (by decide) (OTQ_t Oa3 (by rw [rl_len]; have := TM_n Ta3_4; omega)) (OTQ_t Oa3 (by rw [rl_len]; have := TM_n Ta3_4; omega))
    refine go_v (m := 259) (as := [.ref (c + 25), .int (iI 4), .ref a3, .ref a3]) (r := [.ref x4]) rfl rfl rfl (S4.1.1 16 (by decide)) rfl rfl (kq_mk2 z (d + 4) (t := 4) S4.1 S4.2.1 (by decide) (by decide) (MTM_T Ta3_4) (MTM_T Ta3_4) (TVx_k (n := 2) u38 lu (by decide) (by decide) (by decide) (by decide) (by decide) (by decide))) (fun v5 h5 hq => ?_)
    obtain ⟨w5, s5, rfl, E5, M5⟩ := hq
    have S5 := KST_STE S4 E5
    have e5 := (STE_8 E5).trans e2
    have Ta3_5 := TM_kx Ta3_4 E5.2.2.2
    have Cx4_5 := CL_kx C4 E5.2.2.2
    obtain ⟨mCx4_5, wCx4_5, cCx4_5⟩ := CL_cell Cx4_5
    have J5 := STE_17 E5 J2
    have Oa3_5 := STE_OTR E5 Oa3
    have Ow5_5 := STE_OTR E5 Om5
    show xx_go (xt_P z) (d + 8) 293 186 [some (.ref (c + 30)), some (.int (iI o)), some (.int (iI 23)), some (.int (iI 1)), some (.ref a3), some (.ref a3), some (.ref a3), some (.ref x4)] [w5, .ref x4] h5 _
    refine go_v (m := 261) (as := [.ref x4, w5]) (r := []) rfl rfl rfl cCx4_5 rfl rfl (kq_addC z (d + 5) Cx4_5 M5) (fun v6 h6 hq => ?_)
    obtain ⟨rfl, F6, b6, Z6, q6, C6⟩ := hq
    have hz6 := q6
    have S6 := KST_fe S5 Cx4_5 hx4 F6
    have Ta3_6 := TM_fe Cx4_5 F6 Ta3_5
    have Mw5_6 := MTM_fe Cx4_5 F6 M5
    obtain ⟨mC6, wC6, cC6⟩ := CL_cell C6
    show xx_go (xt_P z) (d + 8) 293 189 [some (.ref (c + 30)), some (.int (iI o)), some (.int (iI 23)), some (.int (iI 1)), some (.ref a3), some (.ref a3), some (.ref a3), some (.ref x4)] [] h6 _
    refine go_a (pc' := 381) (ls' := [some (.ref (c + 30)), some (.int (iI o)), some (.int (iI 23)), some (.int (iI 1)), some (.ref a3), some (.ref a3), some (.ref a3), some (.ref x4)]) (st' := []) rfl rfl ?_
    refine go_a (pc' := 382) (ls' := [some (.ref (c + 30)), some (.int (iI o)), some (.int (iI 23)), some (.int (iI 1)), some (.ref a3), some (.ref a3), some (.ref a3), some (.ref x4)]) (st' := [.ref (c + 30)]) rfl rfl ?_
    refine go_a (pc' := 384) (ls' := [some (.ref (c + 30)), some (.int (iI o)), some (.int (iI 23)), some (.int (iI 1)), some (.ref a3), some (.ref a3), some (.ref a3), some (.ref x4)]) (st' := [.ref x4, .ref (c + 30)]) rfl rfl ?_
    refine go_v (m := 265) (as := [.ref (c + 30), .ref x4]) (r := []) rfl rfl rfl (S6.1.1 19 (by decide)) rfl rfl (kq_fin z (d + 6) (w := WD (SD s) o) (ρ := (sp_cs2 ((sp_tm NM.2.2.1 (sp_p 1 (DK s.N o))).bind (fun l => (sp_tm NM.2.2.1 (sp_p 1 (DK s.N o))).bind (fun m => (sp_tm NM.2.2.1 (sp_p 1 (DK s.N o))).bind (fun n => sp_cz (sp_ax 1975462 l m n))))) (s.I 17))) (σ := (s.I 17)) hP S6 C6 (ITR_one Ow5_5 ITR_nil) hz6 (by rw [et3, J5]; rfl) J5 e5 hx4 (by omega) (by omega) (by omega)) (fun v7 h7 hq => ?_)
    rcases hq with ⟨rfl, R7⟩ | ⟨r7, rfl, R7⟩
    · exact go_r rfl rfl rfl rfl rfl rfl R7
    · exact go_r rfl rfl rfl rfl rfl rfl R7
theorem kq_axiom_25 (z : Value) (d c : Nat) (o : Int) (q : Nat) (hp : xx_H) (s : KS) (NM : BKM) (hP : KPS c hp s NM) (ho : OB s o) (hL : isL (SD s) q o) (r2 : pi s 0 o ≠ 2) (w9 : WD (SD s) o ≤ 1000) (l25 : s.I 8 + WD (SD s) o ≤ 25000) (hq : q = 3) : xx_cl (xt_P z) (d + 9) 293 [.ref (c + 30), .int (iI o), .int (iI 25), .int (iI 2)] hp (fun v h1 => PRP c hp s (WD (SD s) o) NM.2.2.1 (sp_cs2 ((sp_tm NM.2.2.1 (sp_p 1 (DK s.N o))).bind (fun l => (sp_tm NM.2.2.1 (sp_p 2 (DK s.N o))).bind (fun m => (sp_tm NM.2.2.1 (sp_p 1 (DK s.N o))).bind (fun n => sp_cz (sp_ax 30253168 l m n))))) (s.I 17)) (s.I 17) v h1) := by
  have S0 := KST_rf hP
  have e0 : s.I 8 = s.I 8 := rfl
  have lu : s.I 8 ≤ 25000 := hP.2.2.2.2.2.2.2.1
  have u38 := KB_38 hP.2.1
  have J0 : s.I 17 = s.I 17 := rfl
  have fB := KNT_FTB hP.2.2.2.2.2.2.2.2
  have oR := OB_R hP.2.1 ho
  have W := PI_W hP.2.2.1 ho hL (by omega) r2
  have p0 : VD (SD s) (rt (SD s) 0 o) = WD (SD s) (pi s 0 o) + VD (SD s) (rt (SD s) 1 o) ∧ OB s (pi s 0 o) ∧ 1 ≤ WD (SD s) (pi s 0 o) ∧ 0 ≤ VD (SD s) (rt (SD s) 1 o) := PI_w hP.2.2.1 ho hL (j := 0) (by omega)
  have p1 : VD (SD s) (rt (SD s) 1 o) = WD (SD s) (pi s 1 o) + VD (SD s) (rt (SD s) 2 o) ∧ OB s (pi s 1 o) ∧ 1 ≤ WD (SD s) (pi s 1 o) ∧ 0 ≤ VD (SD s) (rt (SD s) 2 o) := PI_w hP.2.2.1 ho hL (j := 1) (by omega)
  have p2 : VD (SD s) (rt (SD s) 2 o) = WD (SD s) (pi s 2 o) + VD (SD s) (rt (SD s) 3 o) ∧ OB s (pi s 2 o) ∧ 1 ≤ WD (SD s) (pi s 2 o) ∧ 0 ≤ VD (SD s) (rt (SD s) 3 o) := PI_w hP.2.2.1 ho hL (j := 2) (by omega)
  obtain ⟨p0, o0, i0, j0⟩ := p0
  obtain ⟨p1, o1, i1, j1⟩ := p1
  obtain ⟨p2, o2, i2, j2⟩ := p2
  refine cl_go rfl ?_
  show xx_go (xt_P z) (d + 8) 293 0 [some (.ref (c + 30)), some (.int (iI o)), some (.int (iI 25)), some (.int (iI 2)), none, none, none, none] [] hp _
  refine go_a (pc' := 1) (ls' := [some (.ref (c + 30)), some (.int (iI o)), some (.int (iI 25)), some (.int (iI 2)), none, none, none, none]) (st' := [.ref (c + 30)]) rfl rfl ?_
  refine go_get (v := .ref (c + 25)) rfl (S0.1.1 19 (by decide)) rfl rfl ?_
  refine go_a (pc' := 5) (ls' := [some (.ref (c + 30)), some (.int (iI o)), some (.int (iI 25)), some (.int (iI 2)), none, none, none, none]) (st' := [.ref (c + 30), .ref (c + 25)]) rfl rfl ?_
  refine go_get (v := .ref (c + 4)) rfl (S0.1.1 19 (by decide)) rfl rfl ?_
  refine go_a (pc' := 9) (ls' := [some (.ref (c + 30)), some (.int (iI o)), some (.int (iI 25)), some (.int (iI 2)), none, none, none, none]) (st' := [.int (iI o), .ref (c + 4), .ref (c + 25)]) rfl rfl ?_
  refine go_a (pc' := 10) (ls' := [some (.ref (c + 30)), some (.int (iI o)), some (.int (iI 25)), some (.int (iI 2)), none, none, none, none]) (st' := [.int (iI 1), .int (iI o), .ref (c + 4), .ref (c + 25)]) rfl rfl ?_
  refine go_v (m := 202) (as := [.ref (c + 4), .int (iI o), .int (iI 1)]) (r := [.ref (c + 25)]) rfl rfl rfl (S0.1.1 3 (by decide)) rfl rfl (kq_part z (d + 6) S0 hP.2.2.1 ho hL (by omega) (by omega) (by omega)) (fun v1 h1 hq => ?_)
  obtain ⟨rfl, eq1⟩ := hq
  rw [eq1]
  clear eq1 h1
  show xx_go (xt_P z) (d + 8) 293 13 [some (.ref (c + 30)), some (.int (iI o)), some (.int (iI 25)), some (.int (iI 2)), none, none, none, none] [.int (iI (pi s 1 o)), .ref (c + 25)] hp _
  refine go_v (m := 211) (as := [.ref (c + 25), .int (iI (pi s 1 o))]) (r := []) rfl rfl rfl (S0.1.1 16 (by decide)) rfl rfl (kq_readM z (d + 1) hP S0 e0 lu o1 (by omega)) (fun v2 h2 hq => ?_)
  obtain ⟨w2, s2, rfl, E2, R2, M2, Or2⟩ := hq
  rw [PI_D hP ho hL (j := 1) (by omega)] at Or2
  have S2 := KST_STE S0 E2
  have e2 := (STE_8 E2).trans e0
  have J2 := STE_17 E2 J0
  show xx_go (xt_P z) (d + 8) 293 16 [some (.ref (c + 30)), some (.int (iI o)), some (.int (iI 25)), some (.int (iI 2)), none, none, none, none] [w2] h2 _
  refine go_a (pc' := 18) (ls' := [some (.ref (c + 30)), some (.int (iI o)), some (.int (iI 25)), some (.int (iI 2)), some (w2), none, none, none]) (st' := []) rfl (by rcases MTM_r M2 with rfl | ⟨_, rfl⟩ <;> rfl) ?_
  refine go_a (pc' := 19) (ls' := [some (.ref (c + 30)), some (.int (iI o)), some (.int (iI 25)), some (.int (iI 2)), some (w2), none, none, none]) (st' := [.int (iI 2)]) rfl rfl ?_
  refine go_a (pc' := 20) (ls' := [some (.ref (c + 30)), some (.int (iI o)), some (.int (iI 25)), some (.int (iI 2)), some (w2), none, none, none]) (st' := [.int (iI 1), .int (iI 2)]) rfl rfl ?_
  refine mi_le (t := 42) rfl rfl (by omega) (by omega) (by omega) (by omega) (fun q => absurd q (by decide)) (fun _ => ?_)
  refine go_a (pc' := 24) (ls' := [some (.ref (c + 30)), some (.int (iI o)), some (.int (iI 25)), some (.int (iI 2)), some (w2), none, none, none]) (st' := [.ref (c + 30)]) rfl rfl ?_
  refine go_get (v := .ref (c + 25)) rfl (S2.1.1 19 (by decide)) rfl rfl ?_
  refine go_a (pc' := 28) (ls' := [some (.ref (c + 30)), some (.int (iI o)), some (.int (iI 25)), some (.int (iI 2)), some (w2), none, none, none]) (st' := [.ref (c + 30), .ref (c + 25)]) rfl rfl ?_
  refine go_get (v := .ref (c + 4)) rfl (S2.1.1 19 (by decide)) rfl rfl ?_
  refine go_a (pc' := 32) (ls' := [some (.ref (c + 30)), some (.int (iI o)), some (.int (iI 25)), some (.int (iI 2)), some (w2), none, none, none]) (st' := [.int (iI o), .ref (c + 4), .ref (c + 25)]) rfl rfl ?_
  refine go_a (pc' := 33) (ls' := [some (.ref (c + 30)), some (.int (iI o)), some (.int (iI 25)), some (.int (iI 2)), some (w2), none, none, none]) (st' := [.int (iI 2), .int (iI o), .ref (c + 4), .ref (c + 25)]) rfl rfl ?_
  refine go_v (m := 202) (as := [.ref (c + 4), .int (iI o), .int (iI 2)]) (r := [.ref (c + 25)]) rfl rfl rfl (S2.1.1 3 (by decide)) rfl rfl (kq_part z (d + 6) S2 hP.2.2.1 ho hL (by omega) (by omega) (by omega)) (fun v3 h3 hq => ?_)
  obtain ⟨rfl, eq3⟩ := hq
  rw [eq3]
  clear eq3 h3
  show xx_go (xt_P z) (d + 8) 293 36 [some (.ref (c + 30)), some (.int (iI o)), some (.int (iI 25)), some (.int (iI 2)), some (w2), none, none, none] [.int (iI (pi s 2 o)), .ref (c + 25)] h2 _
  refine go_v (m := 211) (as := [.ref (c + 25), .int (iI (pi s 2 o))]) (r := []) rfl rfl rfl (S2.1.1 16 (by decide)) rfl rfl (kq_readM z (d + 1) hP S2 e2 lu o2 (by omega)) (fun v4 h4 hq => ?_)
  obtain ⟨w4, s4, rfl, E4, R4, M4, Or4⟩ := hq
  rw [PI_D hP ho hL (j := 2) (by omega)] at Or4
  have S4 := KST_STE S2 E4
  have e4 := (STE_8 E4).trans e2
  have Mw2_4 := MTM_kx M2 E4.2.2.2
  have J4 := STE_17 E4 J2
  have Ow2_4 := STE_OTR E4 Or2
  show xx_go (xt_P z) (d + 8) 293 39 [some (.ref (c + 30)), some (.int (iI o)), some (.int (iI 25)), some (.int (iI 2)), some (w2), none, none, none] [w4] h4 _
  refine go_a (pc' := 44) (ls' := [some (.ref (c + 30)), some (.int (iI o)), some (.int (iI 25)), some (.int (iI 2)), some (w2), none, none, none]) (st' := [w4]) rfl rfl ?_
  refine go_a (pc' := 46) (ls' := [some (.ref (c + 30)), some (.int (iI o)), some (.int (iI 25)), some (.int (iI 2)), some (w2), some (w4), none, none]) (st' := []) rfl (by rcases MTM_r M4 with rfl | ⟨_, rfl⟩ <;> rcases MTM_r Mw2_4 with rfl | ⟨_, rfl⟩ <;> rfl) ?_
  refine go_a (pc' := 47) (ls' := [some (.ref (c + 30)), some (.int (iI o)), some (.int (iI 25)), some (.int (iI 2)), some (w2), some (w4), none, none]) (st' := [.int (iI 2)]) rfl rfl ?_
  refine go_a (pc' := 48) (ls' := [some (.ref (c + 30)), some (.int (iI o)), some (.int (iI 25)), some (.int (iI 2)), some (w2), some (w4), none, none]) (st' := [.int (iI 2), .int (iI 2)]) rfl rfl ?_
  refine mi_le (t := 70) rfl rfl (by omega) (by omega) (by omega) (by omega) (fun _ => ?_) (fun q => absurd (by decide) q)
  refine go_a (pc' := 72) (ls' := [some (.ref (c + 30)), some (.int (iI o)), some (.int (iI 25)), some (.int (iI 2)), some (w2), some (w4), none, none]) (st' := [w2]) rfl (by rcases MTM_r Mw2_4 with rfl | ⟨_, rfl⟩ <;> rfl) ?_
  refine go_a (pc' := 74) (ls' := [some (.ref (c + 30)), some (.int (iI o)), some (.int (iI 25)), some (.int (iI 2)), some (w2), some (w4), some (w2), none]) (st' := []) rfl (by rcases MTM_r Mw2_4 with rfl | ⟨_, rfl⟩ <;> rcases MTM_r M4 with rfl | ⟨_, rfl⟩ <;> rfl) ?_
  refine go_a (pc' := 76) (ls' := [some (.ref (c + 30)), some (.int (iI o)), some (.int (iI 25)), some (.int (iI 2)), some (w2), some (w4), some (w2), none]) (st' := [w2]) rfl (by rcases MTM_r Mw2_4 with rfl | ⟨_, rfl⟩ <;> rfl) ?_
  rcases Mw2_4 with ⟨rfl, rfl⟩ | ⟨a5, n5, f5, rfl, T5, rfl⟩
  · have nu5 := OTR_nn Ow2_4
    show xx_go (xt_P z) (d + 8) 293 76 [some (.ref (c + 30)), some (.int (iI o)), some (.int (iI 25)), some (.int (iI 2)), some (.null), some (w4), some (.null), none] [.null] h4 _
    refine go_a (pc' := 89) (ls' := [some (.ref (c + 30)), some (.int (iI o)), some (.int (iI 25)), some (.int (iI 2)), some (.null), some (w4), some (.null), none]) (st' := []) rfl rfl ?_
    refine go_a (pc' := 90) (ls' := [some (.ref (c + 30)), some (.int (iI o)), some (.int (iI 25)), some (.int (iI 2)), some (.null), some (w4), some (.null), none]) (st' := [.ref (c + 30)]) rfl rfl ?_
    refine go_a (pc' := 91) (ls' := [some (.ref (c + 30)), some (.int (iI o)), some (.int (iI 25)), some (.int (iI 2)), some (.null), some (w4), some (.null), none]) (st' := [.int (iI o), .ref (c + 30)]) rfl rfl ?_
    refine go_v (m := 248) (as := [.ref (c + 30), .int (iI o)]) (r := []) rfl rfl rfl (S4.1.1 19 (by decide)) rfl rfl (kq_failAtP z (d + 7) (w := WD (SD s) o) S4 (by omega) (by omega) (by omega) (by omega) (by omega) (ft := NM.2.2.1) (ρ := (sp_cs2 ((sp_tm NM.2.2.1 (sp_p 1 (DK s.N o))).bind (fun l => (sp_tm NM.2.2.1 (sp_p 2 (DK s.N o))).bind (fun m => (sp_tm NM.2.2.1 (sp_p 1 (DK s.N o))).bind (fun n => sp_cz (sp_ax 30253168 l m n))))) (s.I 17))) (σ := (s.I 17)) (by rw [nu5]; rfl) J4) (fun v6 h6 hq => ?_)
    obtain ⟨rfl, R6⟩ := hq
    show xx_go (xt_P z) (d + 8) 293 94 [some (.ref (c + 30)), some (.int (iI o)), some (.int (iI 25)), some (.int (iI 2)), some (.null), some (w4), some (.null), none] [.null] h6 _
    exact go_r rfl rfl rfl rfl rfl rfl R6
  · obtain ⟨t5, et5, Ot5⟩ := OTR_ss Ow2_4
    have Oa5 : OTR s4.N (s4.I 8) NM.2.2.1 (some (rl n5 f5)) (some t5) := Ot5
    show xx_go (xt_P z) (d + 8) 293 76 [some (.ref (c + 30)), some (.int (iI o)), some (.int (iI 25)), some (.int (iI 2)), some (.ref a5), some (w4), some (.ref a5), none] [.ref a5] h4 _
    refine go_a (pc' := 79) (ls' := [some (.ref (c + 30)), some (.int (iI o)), some (.int (iI 25)), some (.int (iI 2)), some (.ref a5), some (w4), some (.ref a5), none]) (st' := []) rfl rfl ?_
    refine go_a (pc' := 81) (ls' := [some (.ref (c + 30)), some (.int (iI o)), some (.int (iI 25)), some (.int (iI 2)), some (.ref a5), some (w4), some (.ref a5), none]) (st' := [w4]) rfl (by rcases MTM_r M4 with rfl | ⟨_, rfl⟩ <;> rfl) ?_
    rcases M4 with ⟨rfl, rfl⟩ | ⟨a6, n6, f6, rfl, T6, rfl⟩
    · have nu6 := OTR_nn Or4
      show xx_go (xt_P z) (d + 8) 293 81 [some (.ref (c + 30)), some (.int (iI o)), some (.int (iI 25)), some (.int (iI 2)), some (.ref a5), some (.null), some (.ref a5), none] [.null] h4 _
      refine go_a (pc' := 89) (ls' := [some (.ref (c + 30)), some (.int (iI o)), some (.int (iI 25)), some (.int (iI 2)), some (.ref a5), some (.null), some (.ref a5), none]) (st' := []) rfl rfl ?_
      refine go_a (pc' := 90) (ls' := [some (.ref (c + 30)), some (.int (iI o)), some (.int (iI 25)), some (.int (iI 2)), some (.ref a5), some (.null), some (.ref a5), none]) (st' := [.ref (c + 30)]) rfl rfl ?_
      refine go_a (pc' := 91) (ls' := [some (.ref (c + 30)), some (.int (iI o)), some (.int (iI 25)), some (.int (iI 2)), some (.ref a5), some (.null), some (.ref a5), none]) (st' := [.int (iI o), .ref (c + 30)]) rfl rfl ?_
      refine go_v (m := 248) (as := [.ref (c + 30), .int (iI o)]) (r := []) rfl rfl rfl (S4.1.1 19 (by decide)) rfl rfl (kq_failAtP z (d + 7) (w := WD (SD s) o) S4 (by omega) (by omega) (by omega) (by omega) (by omega) (ft := NM.2.2.1) (ρ := (sp_cs2 ((sp_tm NM.2.2.1 (sp_p 1 (DK s.N o))).bind (fun l => (sp_tm NM.2.2.1 (sp_p 2 (DK s.N o))).bind (fun m => (sp_tm NM.2.2.1 (sp_p 1 (DK s.N o))).bind (fun n => sp_cz (sp_ax 30253168 l m n))))) (s.I 17))) (σ := (s.I 17)) (by rw [et5, nu6]; rfl) J4) (fun v7 h7 hq => ?_)
      obtain ⟨rfl, R7⟩ := hq
      show xx_go (xt_P z) (d + 8) 293 94 [some (.ref (c + 30)), some (.int (iI o)), some (.int (iI 25)), some (.int (iI 2)), some (.ref a5), some (.null), some (.ref a5), none] [.null] h7 _
      exact go_r rfl rfl rfl rfl rfl rfl R7
    · obtain ⟨t6, et6, Ot6⟩ := OTR_ss Or4
      have Oa6 : OTR s4.N (s4.I 8) NM.2.2.1 (some (rl n6 f6)) (some t6) := Ot6
      show xx_go (xt_P z) (d + 8) 293 81 [some (.ref (c + 30)), some (.int (iI o)), some (.int (iI 25)), some (.int (iI 2)), some (.ref a5), some (.ref a6), some (.ref a5), none] [.ref a6] h4 _
      refine go_a (pc' := 84) (ls' := [some (.ref (c + 30)), some (.int (iI o)), some (.int (iI 25)), some (.int (iI 2)), some (.ref a5), some (.ref a6), some (.ref a5), none]) (st' := []) rfl rfl ?_
      refine go_a (pc' := 86) (ls' := [some (.ref (c + 30)), some (.int (iI o)), some (.int (iI 25)), some (.int (iI 2)), some (.ref a5), some (.ref a6), some (.ref a5), none]) (st' := [.ref a5]) rfl rfl ?_
      refine go_a (pc' := 95) (ls' := [some (.ref (c + 30)), some (.int (iI o)), some (.int (iI 25)), some (.int (iI 2)), some (.ref a5), some (.ref a6), some (.ref a5), none]) (st' := []) rfl rfl ?_
      have l12_7 : 12 ≤ h4.length := by have := ki_lt S4.1 (i := 0) (by decide); have := S4.1.2.1 0 (by decide); omega
      refine go_new (ci := 12) (fs := [.null, .int 0, .int 0, .int 0]) rfl rfl rfl ?_
      show xx_go (xt_P z) (d + 8) 293 98 [some (.ref (c + 30)), some (.int (iI o)), some (.int (iI 25)), some (.int (iI 2)), some (.ref a5), some (.ref a6), some (.ref a5), none] [.ref h4.length] (h4 ++ [.inr (12, [.null, .int 0, .int 0, .int 0])]) _
      refine go_a (pc' := 99) (ls' := [some (.ref (c + 30)), some (.int (iI o)), some (.int (iI 25)), some (.int (iI 2)), some (.ref a5), some (.ref a6), some (.ref a5), none]) (st' := [.ref h4.length, .ref h4.length]) rfl rfl ?_
      refine go_i (m := 257) (as := [.ref h4.length]) (r := [.ref h4.length]) rfl rfl rfl rfl rfl (kh_init z (d + 7) h4 l12_7) (fun v7 h7 hq => ?_)
      obtain ⟨rfl, rfl⟩ := hq
      obtain ⟨K7, X7, B7⟩ := mkC_CL (u := (s.I 8)) S4.1
      have C7 : CL c (mkC h4) s4 (s.I 8) h4.length 0 [] := ⟨_, _, _, _, _, B7, rfl⟩
      have S7 := KST_X S4 K7 X7
      obtain ⟨x7, ex7⟩ : ∃ q : Nat, q = h4.length := ⟨_, rfl⟩
      have Ta5_7 := TM_kx T5 X7
      have Ta6_7 := TM_kx T6 X7
      obtain ⟨hM7, eM7⟩ : ∃ q : xx_H, q = mkC h4 := ⟨_, rfl⟩
      have hx7 : hp.length ≤ x7 := by rw [ex7]; exact KST_len S4
      rw [← ex7] at C7
      rw [← eM7, ← ex7]
      obtain ⟨mC7, wC7, cC7⟩ := CL_cell C7
      rw [← eM7] at S7 C7 cC7 Ta5_7 Ta6_7
      clear B7 K7 X7
      show xx_go (xt_P z) (d + 8) 293 102 [some (.ref (c + 30)), some (.int (iI o)), some (.int (iI 25)), some (.int (iI 2)), some (.ref a5), some (.ref a6), some (.ref a5), none] [.ref x7] hM7 _
      refine go_a (pc' := 104) (ls' := [some (.ref (c + 30)), some (.int (iI o)), some (.int (iI 25)), some (.int (iI 2)), some (.ref a5), some (.ref a6), some (.ref a5), some (.ref x7)]) (st' := []) rfl rfl ?_
      refine go_a (pc' := 105) (ls' := [some (.ref (c + 30)), some (.int (iI o)), some (.int (iI 25)), some (.int (iI 2)), some (.ref a5), some (.ref a6), some (.ref a5), some (.ref x7)]) (st' := [.int (iI 25)]) rfl rfl ?_
      refine go_a (pc' := 192) (ls' := [some (.ref (c + 30)), some (.int (iI o)), some (.int (iI 25)), some (.int (iI 2)), some (.ref a5), some (.ref a6), some (.ref a5), some (.ref x7)]) (st' := []) rfl rfl ?_
      refine go_a (pc' := 194) (ls' := [some (.ref (c + 30)), some (.int (iI o)), some (.int (iI 25)), some (.int (iI 2)), some (.ref a5), some (.ref a6), some (.ref a5), some (.ref x7)]) (st' := [.ref x7]) rfl rfl ?_
      refine go_a (pc' := 195) (ls' := [some (.ref (c + 30)), some (.int (iI o)), some (.int (iI 25)), some (.int (iI 2)), some (.ref a5), some (.ref a6), some (.ref a5), some (.ref x7)]) (st' := [.ref (c + 30), .ref x7]) rfl rfl ?_
      refine go_get (v := .ref (c + 25)) rfl (S7.1.1 19 (by decide)) rfl rfl ?_
      refine go_a (pc' := 199) (ls' := [some (.ref (c + 30)), some (.int (iI o)), some (.int (iI 25)), some (.int (iI 2)), some (.ref a5), some (.ref a6), some (.ref a5), some (.ref x7)]) (st' := [.int (iI 4), .ref (c + 25), .ref x7]) rfl rfl ?_
      refine go_a (pc' := 200) (ls' := [some (.ref (c + 30)), some (.int (iI o)), some (.int (iI 25)), some (.int (iI 2)), some (.ref a5), some (.ref a6), some (.ref a5), some (.ref x7)]) (st' := [.ref (c + 30), .int (iI 4), .ref (c + 25), .ref x7]) rfl rfl ?_
      refine go_get (v := .ref (c + 25)) rfl (S7.1.1 19 (by decide)) rfl rfl ?_
      refine go_a (pc' := 205) (ls' := [some (.ref (c + 30)), some (.int (iI o)), some (.int (iI 25)), some (.int (iI 2)), some (.ref a5), some (.ref a6), some (.ref a5), some (.ref x7)]) (st' := [.int (iI 11), .ref (c + 25), .int (iI 4), .ref (c + 25), .ref x7]) rfl rfl ?_
      refine go_a (pc' := 206) (ls' := [some (.ref (c + 30)), some (.int (iI o)), some (.int (iI 25)), some (.int (iI 2)), some (.ref a5), some (.ref a6), some (.ref a5), some (.ref x7)]) (st' := [.ref (c + 30), .int (iI 11), .ref (c + 25), .int (iI 4), .ref (c + 25), .ref x7]) rfl rfl ?_
      refine go_get (v := .ref (c + 25)) rfl (S7.1.1 19 (by decide)) rfl rfl ?_
      refine go_a (pc' := 210) (ls' := [some (.ref (c + 30)), some (.int (iI o)), some (.int (iI 25)), some (.int (iI 2)), some (.ref a5), some (.ref a6), some (.ref a5), some (.ref x7)]) (st' := [.int (iI 5), .ref (c + 25), .int (iI 11), .ref (c + 25), .int (iI 4), .ref (c + 25), .ref x7]) rfl rfl ?_
      refine go_a (pc' := 212) (ls' := [some (.ref (c + 30)), some (.int (iI o)), some (.int (iI 25)), some (.int (iI 2)), some (.ref a5), some (.ref a6), some (.ref a5), some (.ref x7)]) (st' := [.ref a5, .int (iI 5), .ref (c + 25), .int (iI 11), .ref (c + 25), .int (iI 4), .ref (c + 25), .ref x7]) rfl rfl ?_
      refine go_a (pc' := 214) (ls' := [some (.ref (c + 30)), some (.int (iI o)), some (.int (iI 25)), some (.int (iI 2)), some (.ref a5), some (.ref a6), some (.ref a5), some (.ref x7)]) (st' := [.ref a6, .ref a5, .int (iI 5), .ref (c + 25), .int (iI 11), .ref (c + 25), .int (iI 4), .ref (c + 25), .ref x7]) rfl rfl ?_
      have Om8 := OTQ_2 (v := 345281) (show sp_isq (.var 345281) = false by decide) fB.2.2.1 (by decide) (by decide) (OTQ_t Oa5 (by rw [rl_len]; have := TM_n Ta5_7; omega)) (OTQ_t Oa6 (by rw [rl_len]; have := TM_n Ta6_7; omega))
      refine go_v (m := 259) (as := [.ref (c + 25), .int (iI 5), .ref a5, .ref a6]) (r := [.int (iI 11), .ref (c + 25), .int (iI 4), .ref (c + 25), .ref x7]) rfl rfl rfl (S7.1.1 16 (by decide)) rfl rfl (kq_mk2 z (d + 4) (t := 5) S7.1 S7.2.1 (by decide) (by decide) (MTM_T Ta5_7) (MTM_T Ta6_7) (TVx_k (n := 2) u38 lu (by decide) (by decide) (by decide) (by decide) (by decide) (by decide))) (fun v8 h8 hq => ?_)
      obtain ⟨w8, s8, rfl, E8, M8⟩ := hq
      have S8 := KST_STE S7 E8
      have e8 := (STE_8 E8).trans e4
      have Ta5_8 := TM_kx Ta5_7 E8.2.2.2
      have Ta6_8 := TM_kx Ta6_7 E8.2.2.2
      have Cx7_8 := CL_kx C7 E8.2.2.2
      obtain ⟨mCx7_8, wCx7_8, cCx7_8⟩ := CL_cell Cx7_8
      have J8 := STE_17 E8 J4
      have Oa5_8 := STE_OTR E8 Oa5
      have Oa6_8 := STE_OTR E8 Oa6
      have Ow8_8 := STE_OTR E8 Om8
      show xx_go (xt_P z) (d + 8) 293 217 [some (.ref (c + 30)), some (.int (iI o)), some (.int (iI 25)), some (.int (iI 2)), some (.ref a5), some (.ref a6), some (.ref a5), some (.ref x7)] [w8, .int (iI 11), .ref (c + 25), .int (iI 4), .ref (c + 25), .ref x7] h8 _
      have Om9 := OTQ_1 (v := 6692) (show sp_isq (.var 6692) = false by decide) fB.2.2.2.2.1 (by decide) (by decide) Ow8_8
      refine go_v (m := 294) (as := [.ref (c + 25), .int (iI 11), w8]) (r := [.int (iI 4), .ref (c + 25), .ref x7]) rfl rfl rfl (S8.1.1 16 (by decide)) rfl rfl (kq_mk1 z (d + 4) (t := 11) S8.1 S8.2.1 (by decide) (by decide) M8 (TVx_k (n := 1) u38 lu (by decide) (by decide) (by decide) (by decide) (by decide) (by decide))) (fun v9 h9 hq => ?_)
      obtain ⟨w9, s9, rfl, E9, M9⟩ := hq
      have S9 := KST_STE S8 E9
      have e9 := (STE_8 E9).trans e8
      have Ta5_9 := TM_kx Ta5_8 E9.2.2.2
      have Ta6_9 := TM_kx Ta6_8 E9.2.2.2
      have Mw8_9 := MTM_kx M8 E9.2.2.2
      have Cx7_9 := CL_kx Cx7_8 E9.2.2.2
      obtain ⟨mCx7_9, wCx7_9, cCx7_9⟩ := CL_cell Cx7_9
      have J9 := STE_17 E9 J8
      have Oa5_9 := STE_OTR E9 Oa5_8
      have Oa6_9 := STE_OTR E9 Oa6_8
      have Ow8_9 := STE_OTR E9 Ow8_8
      have Ow9_9 := STE_OTR E9 Om9
      show xx_go (xt_P z) (d + 8) 293 220 [some (.ref (c + 30)), some (.int (iI o)), some (.int (iI 25)), some (.int (iI 2)), some (.ref a5), some (.ref a6), some (.ref a5), some (.ref x7)] [w9, .int (iI 4), .ref (c + 25), .ref x7] h9 _
      refine go_a (pc' := 222) (ls' := [some (.ref (c + 30)), some (.int (iI o)), some (.int (iI 25)), some (.int (iI 2)), some (.ref a5), some (.ref a6), some (.ref a5), some (.ref x7)]) (st' := [.ref a5, w9, .int (iI 4), .ref (c + 25), .ref x7]) rfl rfl ?_
      have Om10 := OTQ_2 (v := 26209844) (show sp_isq (.var 26209844) = false by decide) fB.2.1 (by decide) (by decide) Ow9_9 (OTQ_t Oa5_9 (by rw [rl_len]; have := TM_n Ta5_9; omega))
      refine go_v (m := 259) (as := [.ref (c + 25), .int (iI 4), w9, .ref a5]) (r := [.ref x7]) rfl rfl rfl (S9.1.1 16 (by decide)) rfl rfl (kq_mk2 z (d + 4) (t := 4) S9.1 S9.2.1 (by decide) (by decide) M9 (MTM_T Ta5_9) (TVx_k (n := 2) u38 lu (by decide) (by decide) (by decide) (by decide) (by decide) (by decide))) (fun v10 h10 hq => ?_)
      obtain ⟨w10, s10, rfl, E10, M10⟩ := hq
      have S10 := KST_STE S9 E10
      have e10 := (STE_8 E10).trans e9
      have Ta5_10 := TM_kx Ta5_9 E10.2.2.2
      have Ta6_10 := TM_kx Ta6_9 E10.2.2.2
      have Mw8_10 := MTM_kx Mw8_9 E10.2.2.2
      have Mw9_10 := MTM_kx M9 E10.2.2.2
      have Cx7_10 := CL_kx Cx7_9 E10.2.2.2
      obtain ⟨mCx7_10, wCx7_10, cCx7_10⟩ := CL_cell Cx7_10
      have J10 := STE_17 E10 J9
      have Oa5_10 := STE_OTR E10 Oa5_9
      have Oa6_10 := STE_OTR E10 Oa6_9
      have Ow8_10 := STE_OTR E10 Ow8_9
      have Ow9_10 := STE_OTR E10 Ow9_9
      have Ow10_10 := STE_OTR E10 Om10
      show xx_go (xt_P z) (d + 8) 293 225 [some (.ref (c + 30)), some (.int (iI o)), some (.int (iI 25)), some (.int (iI 2)), some (.ref a5), some (.ref a6), some (.ref a5), some (.ref x7)] [w10, .ref x7] h10 _
      refine go_v (m := 261) (as := [.ref x7, w10]) (r := []) rfl rfl rfl cCx7_10 rfl rfl (kq_addC z (d + 5) Cx7_10 M10) (fun v11 h11 hq => ?_)
      obtain ⟨rfl, F11, b11, Z11, q11, C11⟩ := hq
      have hz11 := q11
      have S11 := KST_fe S10 Cx7_10 hx7 F11
      have Ta5_11 := TM_fe Cx7_10 F11 Ta5_10
      have Ta6_11 := TM_fe Cx7_10 F11 Ta6_10
      have Mw8_11 := MTM_fe Cx7_10 F11 Mw8_10
      have Mw9_11 := MTM_fe Cx7_10 F11 Mw9_10
      have Mw10_11 := MTM_fe Cx7_10 F11 M10
      obtain ⟨mC11, wC11, cC11⟩ := CL_cell C11
      show xx_go (xt_P z) (d + 8) 293 228 [some (.ref (c + 30)), some (.int (iI o)), some (.int (iI 25)), some (.int (iI 2)), some (.ref a5), some (.ref a6), some (.ref a5), some (.ref x7)] [] h11 _
      refine go_a (pc' := 381) (ls' := [some (.ref (c + 30)), some (.int (iI o)), some (.int (iI 25)), some (.int (iI 2)), some (.ref a5), some (.ref a6), some (.ref a5), some (.ref x7)]) (st' := []) rfl rfl ?_
      refine go_a (pc' := 382) (ls' := [some (.ref (c + 30)), some (.int (iI o)), some (.int (iI 25)), some (.int (iI 2)), some (.ref a5), some (.ref a6), some (.ref a5), some (.ref x7)]) (st' := [.ref (c + 30)]) rfl rfl ?_
      refine go_a (pc' := 384) (ls' := [some (.ref (c + 30)), some (.int (iI o)), some (.int (iI 25)), some (.int (iI 2)), some (.ref a5), some (.ref a6), some (.ref a5), some (.ref x7)]) (st' := [.ref x7, .ref (c + 30)]) rfl rfl ?_
      refine go_v (m := 265) (as := [.ref (c + 30), .ref x7]) (r := []) rfl rfl rfl (S11.1.1 19 (by decide)) rfl rfl (kq_fin z (d + 6) (w := WD (SD s) o) (ρ := (sp_cs2 ((sp_tm NM.2.2.1 (sp_p 1 (DK s.N o))).bind (fun l => (sp_tm NM.2.2.1 (sp_p 2 (DK s.N o))).bind (fun m => (sp_tm NM.2.2.1 (sp_p 1 (DK s.N o))).bind (fun n => sp_cz (sp_ax 30253168 l m n))))) (s.I 17))) (σ := (s.I 17)) hP S11 C11 (ITR_one Ow10_10 ITR_nil) hz11 (by rw [et5, et6, J10]; rfl) J10 e10 hx7 (by omega) (by omega) (by omega)) (fun v12 h12 hq => ?_)
      rcases hq with ⟨rfl, R12⟩ | ⟨r12, rfl, R12⟩
      · exact go_r rfl rfl rfl rfl rfl rfl R12
      · exact go_r rfl rfl rfl rfl rfl rfl R12
theorem kq_axiom_26 (z : Value) (d c : Nat) (o : Int) (q : Nat) (hp : xx_H) (s : KS) (NM : BKM) (hP : KPS c hp s NM) (ho : OB s o) (hL : isL (SD s) q o) (r2 : pi s 0 o ≠ 2) (w9 : WD (SD s) o ≤ 1000) (l25 : s.I 8 + WD (SD s) o ≤ 25000) (hq : q = 3) : xx_cl (xt_P z) (d + 9) 293 [.ref (c + 30), .int (iI o), .int (iI 26), .int (iI 2)] hp (fun v h1 => PRP c hp s (WD (SD s) o) NM.2.2.1 (sp_cs2 ((sp_tm NM.2.2.1 (sp_p 1 (DK s.N o))).bind (fun l => (sp_tm NM.2.2.1 (sp_p 2 (DK s.N o))).bind (fun m => (sp_tm NM.2.2.1 (sp_p 1 (DK s.N o))).bind (fun n => sp_cz (sp_ax 4382298804 l m n))))) (s.I 17)) (s.I 17) v h1) := by
  have S0 := KST_rf hP
  have e0 : s.I 8 = s.I 8 := rfl
  have lu : s.I 8 ≤ 25000 := hP.2.2.2.2.2.2.2.1
  have u38 := KB_38 hP.2.1
  have J0 : s.I 17 = s.I 17 := rfl
  have fB := KNT_FTB hP.2.2.2.2.2.2.2.2
  have oR := OB_R hP.2.1 ho
  have W := PI_W hP.2.2.1 ho hL (by omega) r2
  have p0 : VD (SD s) (rt (SD s) 0 o) = WD (SD s) (pi s 0 o) + VD (SD s) (rt (SD s) 1 o) ∧ OB s (pi s 0 o) ∧ 1 ≤ WD (SD s) (pi s 0 o) ∧ 0 ≤ VD (SD s) (rt (SD s) 1 o) := PI_w hP.2.2.1 ho hL (j := 0) (by omega)
  have p1 : VD (SD s) (rt (SD s) 1 o) = WD (SD s) (pi s 1 o) + VD (SD s) (rt (SD s) 2 o) ∧ OB s (pi s 1 o) ∧ 1 ≤ WD (SD s) (pi s 1 o) ∧ 0 ≤ VD (SD s) (rt (SD s) 2 o) := PI_w hP.2.2.1 ho hL (j := 1) (by omega)
  have p2 : VD (SD s) (rt (SD s) 2 o) = WD (SD s) (pi s 2 o) + VD (SD s) (rt (SD s) 3 o) ∧ OB s (pi s 2 o) ∧ 1 ≤ WD (SD s) (pi s 2 o) ∧ 0 ≤ VD (SD s) (rt (SD s) 3 o) := PI_w hP.2.2.1 ho hL (j := 2) (by omega)
  obtain ⟨p0, o0, i0, j0⟩ := p0
  obtain ⟨p1, o1, i1, j1⟩ := p1
  obtain ⟨p2, o2, i2, j2⟩ := p2
  refine cl_go rfl ?_
  show xx_go (xt_P z) (d + 8) 293 0 [some (.ref (c + 30)), some (.int (iI o)), some (.int (iI 26)), some (.int (iI 2)), none, none, none, none] [] hp _
  refine go_a (pc' := 1) (ls' := [some (.ref (c + 30)), some (.int (iI o)), some (.int (iI 26)), some (.int (iI 2)), none, none, none, none]) (st' := [.ref (c + 30)]) rfl rfl ?_
  refine go_get (v := .ref (c + 25)) rfl (S0.1.1 19 (by decide)) rfl rfl ?_
  refine go_a (pc' := 5) (ls' := [some (.ref (c + 30)), some (.int (iI o)), some (.int (iI 26)), some (.int (iI 2)), none, none, none, none]) (st' := [.ref (c + 30), .ref (c + 25)]) rfl rfl ?_
  refine go_get (v := .ref (c + 4)) rfl (S0.1.1 19 (by decide)) rfl rfl ?_
  refine go_a (pc' := 9) (ls' := [some (.ref (c + 30)), some (.int (iI o)), some (.int (iI 26)), some (.int (iI 2)), none, none, none, none]) (st' := [.int (iI o), .ref (c + 4), .ref (c + 25)]) rfl rfl ?_
  refine go_a (pc' := 10) (ls' := [some (.ref (c + 30)), some (.int (iI o)), some (.int (iI 26)), some (.int (iI 2)), none, none, none, none]) (st' := [.int (iI 1), .int (iI o), .ref (c + 4), .ref (c + 25)]) rfl rfl ?_
  refine go_v (m := 202) (as := [.ref (c + 4), .int (iI o), .int (iI 1)]) (r := [.ref (c + 25)]) rfl rfl rfl (S0.1.1 3 (by decide)) rfl rfl (kq_part z (d + 6) S0 hP.2.2.1 ho hL (by omega) (by omega) (by omega)) (fun v1 h1 hq => ?_)
  obtain ⟨rfl, eq1⟩ := hq
  rw [eq1]
  clear eq1 h1
  show xx_go (xt_P z) (d + 8) 293 13 [some (.ref (c + 30)), some (.int (iI o)), some (.int (iI 26)), some (.int (iI 2)), none, none, none, none] [.int (iI (pi s 1 o)), .ref (c + 25)] hp _
  refine go_v (m := 211) (as := [.ref (c + 25), .int (iI (pi s 1 o))]) (r := []) rfl rfl rfl (S0.1.1 16 (by decide)) rfl rfl (kq_readM z (d + 1) hP S0 e0 lu o1 (by omega)) (fun v2 h2 hq => ?_)
  obtain ⟨w2, s2, rfl, E2, R2, M2, Or2⟩ := hq
  rw [PI_D hP ho hL (j := 1) (by omega)] at Or2
  have S2 := KST_STE S0 E2
  have e2 := (STE_8 E2).trans e0
  have J2 := STE_17 E2 J0
  show xx_go (xt_P z) (d + 8) 293 16 [some (.ref (c + 30)), some (.int (iI o)), some (.int (iI 26)), some (.int (iI 2)), none, none, none, none] [w2] h2 _
  refine go_a (pc' := 18) (ls' := [some (.ref (c + 30)), some (.int (iI o)), some (.int (iI 26)), some (.int (iI 2)), some (w2), none, none, none]) (st' := []) rfl (by rcases MTM_r M2 with rfl | ⟨_, rfl⟩ <;> rfl) ?_
  refine go_a (pc' := 19) (ls' := [some (.ref (c + 30)), some (.int (iI o)), some (.int (iI 26)), some (.int (iI 2)), some (w2), none, none, none]) (st' := [.int (iI 2)]) rfl rfl ?_
  refine go_a (pc' := 20) (ls' := [some (.ref (c + 30)), some (.int (iI o)), some (.int (iI 26)), some (.int (iI 2)), some (w2), none, none, none]) (st' := [.int (iI 1), .int (iI 2)]) rfl rfl ?_
  refine mi_le (t := 42) rfl rfl (by omega) (by omega) (by omega) (by omega) (fun q => absurd q (by decide)) (fun _ => ?_)
  refine go_a (pc' := 24) (ls' := [some (.ref (c + 30)), some (.int (iI o)), some (.int (iI 26)), some (.int (iI 2)), some (w2), none, none, none]) (st' := [.ref (c + 30)]) rfl rfl ?_
  refine go_get (v := .ref (c + 25)) rfl (S2.1.1 19 (by decide)) rfl rfl ?_
  refine go_a (pc' := 28) (ls' := [some (.ref (c + 30)), some (.int (iI o)), some (.int (iI 26)), some (.int (iI 2)), some (w2), none, none, none]) (st' := [.ref (c + 30), .ref (c + 25)]) rfl rfl ?_
  refine go_get (v := .ref (c + 4)) rfl (S2.1.1 19 (by decide)) rfl rfl ?_
  refine go_a (pc' := 32) (ls' := [some (.ref (c + 30)), some (.int (iI o)), some (.int (iI 26)), some (.int (iI 2)), some (w2), none, none, none]) (st' := [.int (iI o), .ref (c + 4), .ref (c + 25)]) rfl rfl ?_
  refine go_a (pc' := 33) (ls' := [some (.ref (c + 30)), some (.int (iI o)), some (.int (iI 26)), some (.int (iI 2)), some (w2), none, none, none]) (st' := [.int (iI 2), .int (iI o), .ref (c + 4), .ref (c + 25)]) rfl rfl ?_
  refine go_v (m := 202) (as := [.ref (c + 4), .int (iI o), .int (iI 2)]) (r := [.ref (c + 25)]) rfl rfl rfl (S2.1.1 3 (by decide)) rfl rfl (kq_part z (d + 6) S2 hP.2.2.1 ho hL (by omega) (by omega) (by omega)) (fun v3 h3 hq => ?_)
  obtain ⟨rfl, eq3⟩ := hq
  rw [eq3]
  clear eq3 h3
  show xx_go (xt_P z) (d + 8) 293 36 [some (.ref (c + 30)), some (.int (iI o)), some (.int (iI 26)), some (.int (iI 2)), some (w2), none, none, none] [.int (iI (pi s 2 o)), .ref (c + 25)] h2 _
  refine go_v (m := 211) (as := [.ref (c + 25), .int (iI (pi s 2 o))]) (r := []) rfl rfl rfl (S2.1.1 16 (by decide)) rfl rfl (kq_readM z (d + 1) hP S2 e2 lu o2 (by omega)) (fun v4 h4 hq => ?_)
  obtain ⟨w4, s4, rfl, E4, R4, M4, Or4⟩ := hq
  rw [PI_D hP ho hL (j := 2) (by omega)] at Or4
  have S4 := KST_STE S2 E4
  have e4 := (STE_8 E4).trans e2
  have Mw2_4 := MTM_kx M2 E4.2.2.2
  have J4 := STE_17 E4 J2
  have Ow2_4 := STE_OTR E4 Or2
  show xx_go (xt_P z) (d + 8) 293 39 [some (.ref (c + 30)), some (.int (iI o)), some (.int (iI 26)), some (.int (iI 2)), some (w2), none, none, none] [w4] h4 _
  refine go_a (pc' := 44) (ls' := [some (.ref (c + 30)), some (.int (iI o)), some (.int (iI 26)), some (.int (iI 2)), some (w2), none, none, none]) (st' := [w4]) rfl rfl ?_
  refine go_a (pc' := 46) (ls' := [some (.ref (c + 30)), some (.int (iI o)), some (.int (iI 26)), some (.int (iI 2)), some (w2), some (w4), none, none]) (st' := []) rfl (by rcases MTM_r M4 with rfl | ⟨_, rfl⟩ <;> rcases MTM_r Mw2_4 with rfl | ⟨_, rfl⟩ <;> rfl) ?_
  refine go_a (pc' := 47) (ls' := [some (.ref (c + 30)), some (.int (iI o)), some (.int (iI 26)), some (.int (iI 2)), some (w2), some (w4), none, none]) (st' := [.int (iI 2)]) rfl rfl ?_
  refine go_a (pc' := 48) (ls' := [some (.ref (c + 30)), some (.int (iI o)), some (.int (iI 26)), some (.int (iI 2)), some (w2), some (w4), none, none]) (st' := [.int (iI 2), .int (iI 2)]) rfl rfl ?_
  refine mi_le (t := 70) rfl rfl (by omega) (by omega) (by omega) (by omega) (fun _ => ?_) (fun q => absurd (by decide) q)
  refine go_a (pc' := 72) (ls' := [some (.ref (c + 30)), some (.int (iI o)), some (.int (iI 26)), some (.int (iI 2)), some (w2), some (w4), none, none]) (st' := [w2]) rfl (by rcases MTM_r Mw2_4 with rfl | ⟨_, rfl⟩ <;> rfl) ?_
  refine go_a (pc' := 74) (ls' := [some (.ref (c + 30)), some (.int (iI o)), some (.int (iI 26)), some (.int (iI 2)), some (w2), some (w4), some (w2), none]) (st' := []) rfl (by rcases MTM_r Mw2_4 with rfl | ⟨_, rfl⟩ <;> rcases MTM_r M4 with rfl | ⟨_, rfl⟩ <;> rfl) ?_
  refine go_a (pc' := 76) (ls' := [some (.ref (c + 30)), some (.int (iI o)), some (.int (iI 26)), some (.int (iI 2)), some (w2), some (w4), some (w2), none]) (st' := [w2]) rfl (by rcases MTM_r Mw2_4 with rfl | ⟨_, rfl⟩ <;> rfl) ?_
  rcases Mw2_4 with ⟨rfl, rfl⟩ | ⟨a5, n5, f5, rfl, T5, rfl⟩
  · have nu5 := OTR_nn Ow2_4
    show xx_go (xt_P z) (d + 8) 293 76 [some (.ref (c + 30)), some (.int (iI o)), some (.int (iI 26)), some (.int (iI 2)), some (.null), some (w4), some (.null), none] [.null] h4 _
    refine go_a (pc' := 89) (ls' := [some (.ref (c + 30)), some (.int (iI o)), some (.int (iI 26)), some (.int (iI 2)), some (.null), some (w4), some (.null), none]) (st' := []) rfl rfl ?_
    refine go_a (pc' := 90) (ls' := [some (.ref (c + 30)), some (.int (iI o)), some (.int (iI 26)), some (.int (iI 2)), some (.null), some (w4), some (.null), none]) (st' := [.ref (c + 30)]) rfl rfl ?_
    refine go_a (pc' := 91) (ls' := [some (.ref (c + 30)), some (.int (iI o)), some (.int (iI 26)), some (.int (iI 2)), some (.null), some (w4), some (.null), none]) (st' := [.int (iI o), .ref (c + 30)]) rfl rfl ?_
    refine go_v (m := 248) (as := [.ref (c + 30), .int (iI o)]) (r := []) rfl rfl rfl (S4.1.1 19 (by decide)) rfl rfl (kq_failAtP z (d + 7) (w := WD (SD s) o) S4 (by omega) (by omega) (by omega) (by omega) (by omega) (ft := NM.2.2.1) (ρ := (sp_cs2 ((sp_tm NM.2.2.1 (sp_p 1 (DK s.N o))).bind (fun l => (sp_tm NM.2.2.1 (sp_p 2 (DK s.N o))).bind (fun m => (sp_tm NM.2.2.1 (sp_p 1 (DK s.N o))).bind (fun n => sp_cz (sp_ax 4382298804 l m n))))) (s.I 17))) (σ := (s.I 17)) (by rw [nu5]; rfl) J4) (fun v6 h6 hq => ?_)
    obtain ⟨rfl, R6⟩ := hq
    show xx_go (xt_P z) (d + 8) 293 94 [some (.ref (c + 30)), some (.int (iI o)), some (.int (iI 26)), some (.int (iI 2)), some (.null), some (w4), some (.null), none] [.null] h6 _
    exact go_r rfl rfl rfl rfl rfl rfl R6
  · obtain ⟨t5, et5, Ot5⟩ := OTR_ss Ow2_4
    have Oa5 : OTR s4.N (s4.I 8) NM.2.2.1 (some (rl n5 f5)) (some t5) := Ot5
    show xx_go (xt_P z) (d + 8) 293 76 [some (.ref (c + 30)), some (.int (iI o)), some (.int (iI 26)), some (.int (iI 2)), some (.ref a5), some (w4), some (.ref a5), none] [.ref a5] h4 _
    refine go_a (pc' := 79) (ls' := [some (.ref (c + 30)), some (.int (iI o)), some (.int (iI 26)), some (.int (iI 2)), some (.ref a5), some (w4), some (.ref a5), none]) (st' := []) rfl rfl ?_
    refine go_a (pc' := 81) (ls' := [some (.ref (c + 30)), some (.int (iI o)), some (.int (iI 26)), some (.int (iI 2)), some (.ref a5), some (w4), some (.ref a5), none]) (st' := [w4]) rfl (by rcases MTM_r M4 with rfl | ⟨_, rfl⟩ <;> rfl) ?_
    rcases M4 with ⟨rfl, rfl⟩ | ⟨a6, n6, f6, rfl, T6, rfl⟩
    · have nu6 := OTR_nn Or4
      show xx_go (xt_P z) (d + 8) 293 81 [some (.ref (c + 30)), some (.int (iI o)), some (.int (iI 26)), some (.int (iI 2)), some (.ref a5), some (.null), some (.ref a5), none] [.null] h4 _
      refine go_a (pc' := 89) (ls' := [some (.ref (c + 30)), some (.int (iI o)), some (.int (iI 26)), some (.int (iI 2)), some (.ref a5), some (.null), some (.ref a5), none]) (st' := []) rfl rfl ?_
      refine go_a (pc' := 90) (ls' := [some (.ref (c + 30)), some (.int (iI o)), some (.int (iI 26)), some (.int (iI 2)), some (.ref a5), some (.null), some (.ref a5), none]) (st' := [.ref (c + 30)]) rfl rfl ?_
      refine go_a (pc' := 91) (ls' := [some (.ref (c + 30)), some (.int (iI o)), some (.int (iI 26)), some (.int (iI 2)), some (.ref a5), some (.null), some (.ref a5), none]) (st' := [.int (iI o), .ref (c + 30)]) rfl rfl ?_
      refine go_v (m := 248) (as := [.ref (c + 30), .int (iI o)]) (r := []) rfl rfl rfl (S4.1.1 19 (by decide)) rfl rfl (kq_failAtP z (d + 7) (w := WD (SD s) o) S4 (by omega) (by omega) (by omega) (by omega) (by omega) (ft := NM.2.2.1) (ρ := (sp_cs2 ((sp_tm NM.2.2.1 (sp_p 1 (DK s.N o))).bind (fun l => (sp_tm NM.2.2.1 (sp_p 2 (DK s.N o))).bind (fun m => (sp_tm NM.2.2.1 (sp_p 1 (DK s.N o))).bind (fun n => sp_cz (sp_ax 4382298804 l m n))))) (s.I 17))) (σ := (s.I 17)) (by rw [et5, nu6]; rfl) J4) (fun v7 h7 hq => ?_)
      obtain ⟨rfl, R7⟩ := hq
      show xx_go (xt_P z) (d + 8) 293 94 [some (.ref (c + 30)), some (.int (iI o)), some (.int (iI 26)), some (.int (iI 2)), some (.ref a5), some (.null), some (.ref a5), none] [.null] h7 _
      exact go_r rfl rfl rfl rfl rfl rfl R7
    · obtain ⟨t6, et6, Ot6⟩ := OTR_ss Or4
      have Oa6 : OTR s4.N (s4.I 8) NM.2.2.1 (some (rl n6 f6)) (some t6) := Ot6
      show xx_go (xt_P z) (d + 8) 293 81 [some (.ref (c + 30)), some (.int (iI o)), some (.int (iI 26)), some (.int (iI 2)), some (.ref a5), some (.ref a6), some (.ref a5), none] [.ref a6] h4 _
      refine go_a (pc' := 84) (ls' := [some (.ref (c + 30)), some (.int (iI o)), some (.int (iI 26)), some (.int (iI 2)), some (.ref a5), some (.ref a6), some (.ref a5), none]) (st' := []) rfl rfl ?_
      refine go_a (pc' := 86) (ls' := [some (.ref (c + 30)), some (.int (iI o)), some (.int (iI 26)), some (.int (iI 2)), some (.ref a5), some (.ref a6), some (.ref a5), none]) (st' := [.ref a5]) rfl rfl ?_
      refine go_a (pc' := 95) (ls' := [some (.ref (c + 30)), some (.int (iI o)), some (.int (iI 26)), some (.int (iI 2)), some (.ref a5), some (.ref a6), some (.ref a5), none]) (st' := []) rfl rfl ?_
      have l12_7 : 12 ≤ h4.length := by have := ki_lt S4.1 (i := 0) (by decide); have := S4.1.2.1 0 (by decide); omega
      refine go_new (ci := 12) (fs := [.null, .int 0, .int 0, .int 0]) rfl rfl rfl ?_
      show xx_go (xt_P z) (d + 8) 293 98 [some (.ref (c + 30)), some (.int (iI o)), some (.int (iI 26)), some (.int (iI 2)), some (.ref a5), some (.ref a6), some (.ref a5), none] [.ref h4.length] (h4 ++ [.inr (12, [.null, .int 0, .int 0, .int 0])]) _
      refine go_a (pc' := 99) (ls' := [some (.ref (c + 30)), some (.int (iI o)), some (.int (iI 26)), some (.int (iI 2)), some (.ref a5), some (.ref a6), some (.ref a5), none]) (st' := [.ref h4.length, .ref h4.length]) rfl rfl ?_
      refine go_i (m := 257) (as := [.ref h4.length]) (r := [.ref h4.length]) rfl rfl rfl rfl rfl (kh_init z (d + 7) h4 l12_7) (fun v7 h7 hq => ?_)
      obtain ⟨rfl, rfl⟩ := hq
      obtain ⟨K7, X7, B7⟩ := mkC_CL (u := (s.I 8)) S4.1
      have C7 : CL c (mkC h4) s4 (s.I 8) h4.length 0 [] := ⟨_, _, _, _, _, B7, rfl⟩
      have S7 := KST_X S4 K7 X7
      obtain ⟨x7, ex7⟩ : ∃ q : Nat, q = h4.length := ⟨_, rfl⟩
      have Ta5_7 := TM_kx T5 X7
      have Ta6_7 := TM_kx T6 X7
      obtain ⟨hM7, eM7⟩ : ∃ q : xx_H, q = mkC h4 := ⟨_, rfl⟩
      have hx7 : hp.length ≤ x7 := by rw [ex7]; exact KST_len S4
      rw [← ex7] at C7
      rw [← eM7, ← ex7]
      obtain ⟨mC7, wC7, cC7⟩ := CL_cell C7
      rw [← eM7] at S7 C7 cC7 Ta5_7 Ta6_7
      clear B7 K7 X7
      show xx_go (xt_P z) (d + 8) 293 102 [some (.ref (c + 30)), some (.int (iI o)), some (.int (iI 26)), some (.int (iI 2)), some (.ref a5), some (.ref a6), some (.ref a5), none] [.ref x7] hM7 _
      refine go_a (pc' := 104) (ls' := [some (.ref (c + 30)), some (.int (iI o)), some (.int (iI 26)), some (.int (iI 2)), some (.ref a5), some (.ref a6), some (.ref a5), some (.ref x7)]) (st' := []) rfl rfl ?_
      refine go_a (pc' := 105) (ls' := [some (.ref (c + 30)), some (.int (iI o)), some (.int (iI 26)), some (.int (iI 2)), some (.ref a5), some (.ref a6), some (.ref a5), some (.ref x7)]) (st' := [.int (iI 26)]) rfl rfl ?_
      refine go_a (pc' := 231) (ls' := [some (.ref (c + 30)), some (.int (iI o)), some (.int (iI 26)), some (.int (iI 2)), some (.ref a5), some (.ref a6), some (.ref a5), some (.ref x7)]) (st' := []) rfl rfl ?_
      refine go_a (pc' := 233) (ls' := [some (.ref (c + 30)), some (.int (iI o)), some (.int (iI 26)), some (.int (iI 2)), some (.ref a5), some (.ref a6), some (.ref a5), some (.ref x7)]) (st' := [.ref x7]) rfl rfl ?_
      refine go_a (pc' := 234) (ls' := [some (.ref (c + 30)), some (.int (iI o)), some (.int (iI 26)), some (.int (iI 2)), some (.ref a5), some (.ref a6), some (.ref a5), some (.ref x7)]) (st' := [.ref (c + 30), .ref x7]) rfl rfl ?_
      refine go_get (v := .ref (c + 25)) rfl (S7.1.1 19 (by decide)) rfl rfl ?_
      refine go_a (pc' := 238) (ls' := [some (.ref (c + 30)), some (.int (iI o)), some (.int (iI 26)), some (.int (iI 2)), some (.ref a5), some (.ref a6), some (.ref a5), some (.ref x7)]) (st' := [.int (iI 4), .ref (c + 25), .ref x7]) rfl rfl ?_
      refine go_a (pc' := 239) (ls' := [some (.ref (c + 30)), some (.int (iI o)), some (.int (iI 26)), some (.int (iI 2)), some (.ref a5), some (.ref a6), some (.ref a5), some (.ref x7)]) (st' := [.ref (c + 30), .int (iI 4), .ref (c + 25), .ref x7]) rfl rfl ?_
      refine go_get (v := .ref (c + 25)) rfl (S7.1.1 19 (by decide)) rfl rfl ?_
      refine go_a (pc' := 244) (ls' := [some (.ref (c + 30)), some (.int (iI o)), some (.int (iI 26)), some (.int (iI 2)), some (.ref a5), some (.ref a6), some (.ref a5), some (.ref x7)]) (st' := [.int (iI 12), .ref (c + 25), .int (iI 4), .ref (c + 25), .ref x7]) rfl rfl ?_
      refine go_a (pc' := 245) (ls' := [some (.ref (c + 30)), some (.int (iI o)), some (.int (iI 26)), some (.int (iI 2)), some (.ref a5), some (.ref a6), some (.ref a5), some (.ref x7)]) (st' := [.ref (c + 30), .int (iI 12), .ref (c + 25), .int (iI 4), .ref (c + 25), .ref x7]) rfl rfl ?_
      refine go_get (v := .ref (c + 25)) rfl (S7.1.1 19 (by decide)) rfl rfl ?_
      refine go_a (pc' := 249) (ls' := [some (.ref (c + 30)), some (.int (iI o)), some (.int (iI 26)), some (.int (iI 2)), some (.ref a5), some (.ref a6), some (.ref a5), some (.ref x7)]) (st' := [.int (iI 5), .ref (c + 25), .int (iI 12), .ref (c + 25), .int (iI 4), .ref (c + 25), .ref x7]) rfl rfl ?_
      refine go_a (pc' := 251) (ls' := [some (.ref (c + 30)), some (.int (iI o)), some (.int (iI 26)), some (.int (iI 2)), some (.ref a5), some (.ref a6), some (.ref a5), some (.ref x7)]) (st' := [.ref a5, .int (iI 5), .ref (c + 25), .int (iI 12), .ref (c + 25), .int (iI 4), .ref (c + 25), .ref x7]) rfl rfl ?_
      refine go_a (pc' := 253) (ls' := [some (.ref (c + 30)), some (.int (iI o)), some (.int (iI 26)), some (.int (iI 2)), some (.ref a5), some (.ref a6), some (.ref a5), some (.ref x7)]) (st' := [.ref a6, .ref a5, .int (iI 5), .ref (c + 25), .int (iI 12), .ref (c + 25), .int (iI 4), .ref (c + 25), .ref x7]) rfl rfl ?_
      have Om8 := OTQ_2 (v := 345281) (show sp_isq (.var 345281) = false by decide) fB.2.2.1 (by decide) (by decide) (OTQ_t Oa5 (by rw [rl_len]; have := TM_n Ta5_7; omega)) (OTQ_t Oa6 (by rw [rl_len]; have := TM_n Ta6_7; omega))
      refine go_v (m := 259) (as := [.ref (c + 25), .int (iI 5), .ref a5, .ref a6]) (r := [.int (iI 12), .ref (c + 25), .int (iI 4), .ref (c + 25), .ref x7]) rfl rfl rfl (S7.1.1 16 (by decide)) rfl rfl (kq_mk2 z (d + 4) (t := 5) S7.1 S7.2.1 (by decide) (by decide) (MTM_T Ta5_7) (MTM_T Ta6_7) (TVx_k (n := 2) u38 lu (by decide) (by decide) (by decide) (by decide) (by decide) (by decide))) (fun v8 h8 hq => ?_)
      obtain ⟨w8, s8, rfl, E8, M8⟩ := hq
      have S8 := KST_STE S7 E8
      have e8 := (STE_8 E8).trans e4
      have Ta5_8 := TM_kx Ta5_7 E8.2.2.2
      have Ta6_8 := TM_kx Ta6_7 E8.2.2.2
      have Cx7_8 := CL_kx C7 E8.2.2.2
      obtain ⟨mCx7_8, wCx7_8, cCx7_8⟩ := CL_cell Cx7_8
      have J8 := STE_17 E8 J4
      have Oa5_8 := STE_OTR E8 Oa5
      have Oa6_8 := STE_OTR E8 Oa6
      have Ow8_8 := STE_OTR E8 Om8
      show xx_go (xt_P z) (d + 8) 293 256 [some (.ref (c + 30)), some (.int (iI o)), some (.int (iI 26)), some (.int (iI 2)), some (.ref a5), some (.ref a6), some (.ref a5), some (.ref x7)] [w8, .int (iI 12), .ref (c + 25), .int (iI 4), .ref (c + 25), .ref x7] h8 _
      have Om9 := OTQ_1 (v := 6833) (show sp_isq (.var 6833) = false by decide) fB.2.2.2.2.2 (by decide) (by decide) Ow8_8
      refine go_v (m := 294) (as := [.ref (c + 25), .int (iI 12), w8]) (r := [.int (iI 4), .ref (c + 25), .ref x7]) rfl rfl rfl (S8.1.1 16 (by decide)) rfl rfl (kq_mk1 z (d + 4) (t := 12) S8.1 S8.2.1 (by decide) (by decide) M8 (TVx_k (n := 1) u38 lu (by decide) (by decide) (by decide) (by decide) (by decide) (by decide))) (fun v9 h9 hq => ?_)
      obtain ⟨w9, s9, rfl, E9, M9⟩ := hq
      have S9 := KST_STE S8 E9
      have e9 := (STE_8 E9).trans e8
      have Ta5_9 := TM_kx Ta5_8 E9.2.2.2
      have Ta6_9 := TM_kx Ta6_8 E9.2.2.2
      have Mw8_9 := MTM_kx M8 E9.2.2.2
      have Cx7_9 := CL_kx Cx7_8 E9.2.2.2
      obtain ⟨mCx7_9, wCx7_9, cCx7_9⟩ := CL_cell Cx7_9
      have J9 := STE_17 E9 J8
      have Oa5_9 := STE_OTR E9 Oa5_8
      have Oa6_9 := STE_OTR E9 Oa6_8
      have Ow8_9 := STE_OTR E9 Ow8_8
      have Ow9_9 := STE_OTR E9 Om9
      show xx_go (xt_P z) (d + 8) 293 259 [some (.ref (c + 30)), some (.int (iI o)), some (.int (iI 26)), some (.int (iI 2)), some (.ref a5), some (.ref a6), some (.ref a5), some (.ref x7)] [w9, .int (iI 4), .ref (c + 25), .ref x7] h9 _
      refine go_a (pc' := 261) (ls' := [some (.ref (c + 30)), some (.int (iI o)), some (.int (iI 26)), some (.int (iI 2)), some (.ref a5), some (.ref a6), some (.ref a5), some (.ref x7)]) (st' := [.ref a6, w9, .int (iI 4), .ref (c + 25), .ref x7]) rfl rfl ?_
      have Om10 := OTQ_2 (v := 26209844) (show sp_isq (.var 26209844) = false by decide) fB.2.1 (by decide) (by decide) Ow9_9 (OTQ_t Oa6_9 (by rw [rl_len]; have := TM_n Ta6_9; omega))
      refine go_v (m := 259) (as := [.ref (c + 25), .int (iI 4), w9, .ref a6]) (r := [.ref x7]) rfl rfl rfl (S9.1.1 16 (by decide)) rfl rfl (kq_mk2 z (d + 4) (t := 4) S9.1 S9.2.1 (by decide) (by decide) M9 (MTM_T Ta6_9) (TVx_k (n := 2) u38 lu (by decide) (by decide) (by decide) (by decide) (by decide) (by decide))) (fun v10 h10 hq => ?_)
      obtain ⟨w10, s10, rfl, E10, M10⟩ := hq
      have S10 := KST_STE S9 E10
      have e10 := (STE_8 E10).trans e9
      have Ta5_10 := TM_kx Ta5_9 E10.2.2.2
      have Ta6_10 := TM_kx Ta6_9 E10.2.2.2
      have Mw8_10 := MTM_kx Mw8_9 E10.2.2.2
      have Mw9_10 := MTM_kx M9 E10.2.2.2
      have Cx7_10 := CL_kx Cx7_9 E10.2.2.2
      obtain ⟨mCx7_10, wCx7_10, cCx7_10⟩ := CL_cell Cx7_10
      have J10 := STE_17 E10 J9
      have Oa5_10 := STE_OTR E10 Oa5_9
      have Oa6_10 := STE_OTR E10 Oa6_9
      have Ow8_10 := STE_OTR E10 Ow8_9
      have Ow9_10 := STE_OTR E10 Ow9_9
      have Ow10_10 := STE_OTR E10 Om10
      show xx_go (xt_P z) (d + 8) 293 264 [some (.ref (c + 30)), some (.int (iI o)), some (.int (iI 26)), some (.int (iI 2)), some (.ref a5), some (.ref a6), some (.ref a5), some (.ref x7)] [w10, .ref x7] h10 _
      refine go_v (m := 261) (as := [.ref x7, w10]) (r := []) rfl rfl rfl cCx7_10 rfl rfl (kq_addC z (d + 5) Cx7_10 M10) (fun v11 h11 hq => ?_)
      obtain ⟨rfl, F11, b11, Z11, q11, C11⟩ := hq
      have hz11 := q11
      have S11 := KST_fe S10 Cx7_10 hx7 F11
      have Ta5_11 := TM_fe Cx7_10 F11 Ta5_10
      have Ta6_11 := TM_fe Cx7_10 F11 Ta6_10
      have Mw8_11 := MTM_fe Cx7_10 F11 Mw8_10
      have Mw9_11 := MTM_fe Cx7_10 F11 Mw9_10
      have Mw10_11 := MTM_fe Cx7_10 F11 M10
      obtain ⟨mC11, wC11, cC11⟩ := CL_cell C11
      show xx_go (xt_P z) (d + 8) 293 267 [some (.ref (c + 30)), some (.int (iI o)), some (.int (iI 26)), some (.int (iI 2)), some (.ref a5), some (.ref a6), some (.ref a5), some (.ref x7)] [] h11 _
      refine go_a (pc' := 381) (ls' := [some (.ref (c + 30)), some (.int (iI o)), some (.int (iI 26)), some (.int (iI 2)), some (.ref a5), some (.ref a6), some (.ref a5), some (.ref x7)]) (st' := []) rfl rfl ?_
      refine go_a (pc' := 382) (ls' := [some (.ref (c + 30)), some (.int (iI o)), some (.int (iI 26)), some (.int (iI 2)), some (.ref a5), some (.ref a6), some (.ref a5), some (.ref x7)]) (st' := [.ref (c + 30)]) rfl rfl ?_
      refine go_a (pc' := 384) (ls' := [some (.ref (c + 30)), some (.int (iI o)), some (.int (iI 26)), some (.int (iI 2)), some (.ref a5), some (.ref a6), some (.ref a5), some (.ref x7)]) (st' := [.ref x7, .ref (c + 30)]) rfl rfl ?_
      refine go_v (m := 265) (as := [.ref (c + 30), .ref x7]) (r := []) rfl rfl rfl (S11.1.1 19 (by decide)) rfl rfl (kq_fin z (d + 6) (w := WD (SD s) o) (ρ := (sp_cs2 ((sp_tm NM.2.2.1 (sp_p 1 (DK s.N o))).bind (fun l => (sp_tm NM.2.2.1 (sp_p 2 (DK s.N o))).bind (fun m => (sp_tm NM.2.2.1 (sp_p 1 (DK s.N o))).bind (fun n => sp_cz (sp_ax 4382298804 l m n))))) (s.I 17))) (σ := (s.I 17)) hP S11 C11 (ITR_one Ow10_10 ITR_nil) hz11 (by rw [et5, et6, J10]; rfl) J10 e10 hx7 (by omega) (by omega) (by omega)) (fun v12 h12 hq => ?_)
      rcases hq with ⟨rfl, R12⟩ | ⟨r12, rfl, R12⟩
      · exact go_r rfl rfl rfl rfl rfl rfl R12
      · exact go_r rfl rfl rfl rfl rfl rfl R12
theorem kq_axiom_27 (z : Value) (d c : Nat) (o : Int) (q : Nat) (hp : xx_H) (s : KS) (NM : BKM) (hP : KPS c hp s NM) (ho : OB s o) (hL : isL (SD s) q o) (r2 : pi s 0 o ≠ 2) (w9 : WD (SD s) o ≤ 1000) (l25 : s.I 8 + WD (SD s) o ≤ 25000) (hq : q = 3) : xx_cl (xt_P z) (d + 9) 293 [.ref (c + 30), .int (iI o), .int (iI 27), .int (iI 2)] hp (fun v h1 => PRP c hp s (WD (SD s) o) NM.2.2.1 (sp_cs2 ((sp_tm NM.2.2.1 (sp_p 1 (DK s.N o))).bind (fun l => (sp_tm NM.2.2.1 (sp_p 2 (DK s.N o))).bind (fun m => (sp_tm NM.2.2.1 (sp_p 1 (DK s.N o))).bind (fun n => sp_cz (sp_ax 1663818 l m n))))) (s.I 17)) (s.I 17) v h1) := by
  have S0 := KST_rf hP
  have e0 : s.I 8 = s.I 8 := rfl
  have lu : s.I 8 ≤ 25000 := hP.2.2.2.2.2.2.2.1
  have u38 := KB_38 hP.2.1
  have J0 : s.I 17 = s.I 17 := rfl
  have fB := KNT_FTB hP.2.2.2.2.2.2.2.2
  have oR := OB_R hP.2.1 ho
  have W := PI_W hP.2.2.1 ho hL (by omega) r2
  have p0 : VD (SD s) (rt (SD s) 0 o) = WD (SD s) (pi s 0 o) + VD (SD s) (rt (SD s) 1 o) ∧ OB s (pi s 0 o) ∧ 1 ≤ WD (SD s) (pi s 0 o) ∧ 0 ≤ VD (SD s) (rt (SD s) 1 o) := PI_w hP.2.2.1 ho hL (j := 0) (by omega)
  have p1 : VD (SD s) (rt (SD s) 1 o) = WD (SD s) (pi s 1 o) + VD (SD s) (rt (SD s) 2 o) ∧ OB s (pi s 1 o) ∧ 1 ≤ WD (SD s) (pi s 1 o) ∧ 0 ≤ VD (SD s) (rt (SD s) 2 o) := PI_w hP.2.2.1 ho hL (j := 1) (by omega)
  have p2 : VD (SD s) (rt (SD s) 2 o) = WD (SD s) (pi s 2 o) + VD (SD s) (rt (SD s) 3 o) ∧ OB s (pi s 2 o) ∧ 1 ≤ WD (SD s) (pi s 2 o) ∧ 0 ≤ VD (SD s) (rt (SD s) 3 o) := PI_w hP.2.2.1 ho hL (j := 2) (by omega)
  obtain ⟨p0, o0, i0, j0⟩ := p0
  obtain ⟨p1, o1, i1, j1⟩ := p1
  obtain ⟨p2, o2, i2, j2⟩ := p2
  refine cl_go rfl ?_
  show xx_go (xt_P z) (d + 8) 293 0 [some (.ref (c + 30)), some (.int (iI o)), some (.int (iI 27)), some (.int (iI 2)), none, none, none, none] [] hp _
  refine go_a (pc' := 1) (ls' := [some (.ref (c + 30)), some (.int (iI o)), some (.int (iI 27)), some (.int (iI 2)), none, none, none, none]) (st' := [.ref (c + 30)]) rfl rfl ?_
  refine go_get (v := .ref (c + 25)) rfl (S0.1.1 19 (by decide)) rfl rfl ?_
  refine go_a (pc' := 5) (ls' := [some (.ref (c + 30)), some (.int (iI o)), some (.int (iI 27)), some (.int (iI 2)), none, none, none, none]) (st' := [.ref (c + 30), .ref (c + 25)]) rfl rfl ?_
  refine go_get (v := .ref (c + 4)) rfl (S0.1.1 19 (by decide)) rfl rfl ?_
  refine go_a (pc' := 9) (ls' := [some (.ref (c + 30)), some (.int (iI o)), some (.int (iI 27)), some (.int (iI 2)), none, none, none, none]) (st' := [.int (iI o), .ref (c + 4), .ref (c + 25)]) rfl rfl ?_
  refine go_a (pc' := 10) (ls' := [some (.ref (c + 30)), some (.int (iI o)), some (.int (iI 27)), some (.int (iI 2)), none, none, none, none]) (st' := [.int (iI 1), .int (iI o), .ref (c + 4), .ref (c + 25)]) rfl rfl ?_
  refine go_v (m := 202) (as := [.ref (c + 4), .int (iI o), .int (iI 1)]) (r := [.ref (c + 25)]) rfl rfl rfl (S0.1.1 3 (by decide)) rfl rfl (kq_part z (d + 6) S0 hP.2.2.1 ho hL (by omega) (by omega) (by omega)) (fun v1 h1 hq => ?_)
  obtain ⟨rfl, eq1⟩ := hq
  rw [eq1]
  clear eq1 h1
  show xx_go (xt_P z) (d + 8) 293 13 [some (.ref (c + 30)), some (.int (iI o)), some (.int (iI 27)), some (.int (iI 2)), none, none, none, none] [.int (iI (pi s 1 o)), .ref (c + 25)] hp _
  refine go_v (m := 211) (as := [.ref (c + 25), .int (iI (pi s 1 o))]) (r := []) rfl rfl rfl (S0.1.1 16 (by decide)) rfl rfl (kq_readM z (d + 1) hP S0 e0 lu o1 (by omega)) (fun v2 h2 hq => ?_)
  obtain ⟨w2, s2, rfl, E2, R2, M2, Or2⟩ := hq
  rw [PI_D hP ho hL (j := 1) (by omega)] at Or2
  have S2 := KST_STE S0 E2
  have e2 := (STE_8 E2).trans e0
  have J2 := STE_17 E2 J0
  show xx_go (xt_P z) (d + 8) 293 16 [some (.ref (c + 30)), some (.int (iI o)), some (.int (iI 27)), some (.int (iI 2)), none, none, none, none] [w2] h2 _
  refine go_a (pc' := 18) (ls' := [some (.ref (c + 30)), some (.int (iI o)), some (.int (iI 27)), some (.int (iI 2)), some (w2), none, none, none]) (st' := []) rfl (by rcases MTM_r M2 with rfl | ⟨_, rfl⟩ <;> rfl) ?_
  refine go_a (pc' := 19) (ls' := [some (.ref (c + 30)), some (.int (iI o)), some (.int (iI 27)), some (.int (iI 2)), some (w2), none, none, none]) (st' := [.int (iI 2)]) rfl rfl ?_
  refine go_a (pc' := 20) (ls' := [some (.ref (c + 30)), some (.int (iI o)), some (.int (iI 27)), some (.int (iI 2)), some (w2), none, none, none]) (st' := [.int (iI 1), .int (iI 2)]) rfl rfl ?_
  refine mi_le (t := 42) rfl rfl (by omega) (by omega) (by omega) (by omega) (fun q => absurd q (by decide)) (fun _ => ?_)
  refine go_a (pc' := 24) (ls' := [some (.ref (c + 30)), some (.int (iI o)), some (.int (iI 27)), some (.int (iI 2)), some (w2), none, none, none]) (st' := [.ref (c + 30)]) rfl rfl ?_
  refine go_get (v := .ref (c + 25)) rfl (S2.1.1 19 (by decide)) rfl rfl ?_
  refine go_a (pc' := 28) (ls' := [some (.ref (c + 30)), some (.int (iI o)), some (.int (iI 27)), some (.int (iI 2)), some (w2), none, none, none]) (st' := [.ref (c + 30), .ref (c + 25)]) rfl rfl ?_
  refine go_get (v := .ref (c + 4)) rfl (S2.1.1 19 (by decide)) rfl rfl ?_
  refine go_a (pc' := 32) (ls' := [some (.ref (c + 30)), some (.int (iI o)), some (.int (iI 27)), some (.int (iI 2)), some (w2), none, none, none]) (st' := [.int (iI o), .ref (c + 4), .ref (c + 25)]) rfl rfl ?_
  refine go_a (pc' := 33) (ls' := [some (.ref (c + 30)), some (.int (iI o)), some (.int (iI 27)), some (.int (iI 2)), some (w2), none, none, none]) (st' := [.int (iI 2), .int (iI o), .ref (c + 4), .ref (c + 25)]) rfl rfl ?_
  refine go_v (m := 202) (as := [.ref (c + 4), .int (iI o), .int (iI 2)]) (r := [.ref (c + 25)]) rfl rfl rfl (S2.1.1 3 (by decide)) rfl rfl (kq_part z (d + 6) S2 hP.2.2.1 ho hL (by omega) (by omega) (by omega)) (fun v3 h3 hq => ?_)
  obtain ⟨rfl, eq3⟩ := hq
  rw [eq3]
  clear eq3 h3
  show xx_go (xt_P z) (d + 8) 293 36 [some (.ref (c + 30)), some (.int (iI o)), some (.int (iI 27)), some (.int (iI 2)), some (w2), none, none, none] [.int (iI (pi s 2 o)), .ref (c + 25)] h2 _
  refine go_v (m := 211) (as := [.ref (c + 25), .int (iI (pi s 2 o))]) (r := []) rfl rfl rfl (S2.1.1 16 (by decide)) rfl rfl (kq_readM z (d + 1) hP S2 e2 lu o2 (by omega)) (fun v4 h4 hq => ?_)
  obtain ⟨w4, s4, rfl, E4, R4, M4, Or4⟩ := hq
  rw [PI_D hP ho hL (j := 2) (by omega)] at Or4
  have S4 := KST_STE S2 E4
  have e4 := (STE_8 E4).trans e2
  have Mw2_4 := MTM_kx M2 E4.2.2.2
  have J4 := STE_17 E4 J2
  have Ow2_4 := STE_OTR E4 Or2
  show xx_go (xt_P z) (d + 8) 293 39 [some (.ref (c + 30)), some (.int (iI o)), some (.int (iI 27)), some (.int (iI 2)), some (w2), none, none, none] [w4] h4 _
  refine go_a (pc' := 44) (ls' := [some (.ref (c + 30)), some (.int (iI o)), some (.int (iI 27)), some (.int (iI 2)), some (w2), none, none, none]) (st' := [w4]) rfl rfl ?_
  refine go_a (pc' := 46) (ls' := [some (.ref (c + 30)), some (.int (iI o)), some (.int (iI 27)), some (.int (iI 2)), some (w2), some (w4), none, none]) (st' := []) rfl (by rcases MTM_r M4 with rfl | ⟨_, rfl⟩ <;> rcases MTM_r Mw2_4 with rfl | ⟨_, rfl⟩ <;> rfl) ?_
  refine go_a (pc' := 47) (ls' := [some (.ref (c + 30)), some (.int (iI o)), some (.int (iI 27)), some (.int (iI 2)), some (w2), some (w4), none, none]) (st' := [.int (iI 2)]) rfl rfl ?_
  refine go_a (pc' := 48) (ls' := [some (.ref (c + 30)), some (.int (iI o)), some (.int (iI 27)), some (.int (iI 2)), some (w2), some (w4), none, none]) (st' := [.int (iI 2), .int (iI 2)]) rfl rfl ?_
  refine mi_le (t := 70) rfl rfl (by omega) (by omega) (by omega) (by omega) (fun _ => ?_) (fun q => absurd (by decide) q)
  refine go_a (pc' := 72) (ls' := [some (.ref (c + 30)), some (.int (iI o)), some (.int (iI 27)), some (.int (iI 2)), some (w2), some (w4), none, none]) (st' := [w2]) rfl (by rcases MTM_r Mw2_4 with rfl | ⟨_, rfl⟩ <;> rfl) ?_
  refine go_a (pc' := 74) (ls' := [some (.ref (c + 30)), some (.int (iI o)), some (.int (iI 27)), some (.int (iI 2)), some (w2), some (w4), some (w2), none]) (st' := []) rfl (by rcases MTM_r Mw2_4 with rfl | ⟨_, rfl⟩ <;> rcases MTM_r M4 with rfl | ⟨_, rfl⟩ <;> rfl) ?_
  refine go_a (pc' := 76) (ls' := [some (.ref (c + 30)), some (.int (iI o)), some (.int (iI 27)), some (.int (iI 2)), some (w2), some (w4), some (w2), none]) (st' := [w2]) rfl (by rcases MTM_r Mw2_4 with rfl | ⟨_, rfl⟩ <;> rfl) ?_
  rcases Mw2_4 with ⟨rfl, rfl⟩ | ⟨a5, n5, f5, rfl, T5, rfl⟩
  · have nu5 := OTR_nn Ow2_4
    show xx_go (xt_P z) (d + 8) 293 76 [some (.ref (c + 30)), some (.int (iI o)), some (.int (iI 27)), some (.int (iI 2)), some (.null), some (w4), some (.null), none] [.null] h4 _
    refine go_a (pc' := 89) (ls' := [some (.ref (c + 30)), some (.int (iI o)), some (.int (iI 27)), some (.int (iI 2)), some (.null), some (w4), some (.null), none]) (st' := []) rfl rfl ?_
    refine go_a (pc' := 90) (ls' := [some (.ref (c + 30)), some (.int (iI o)), some (.int (iI 27)), some (.int (iI 2)), some (.null), some (w4), some (.null), none]) (st' := [.ref (c + 30)]) rfl rfl ?_
    refine go_a (pc' := 91) (ls' := [some (.ref (c + 30)), some (.int (iI o)), some (.int (iI 27)), some (.int (iI 2)), some (.null), some (w4), some (.null), none]) (st' := [.int (iI o), .ref (c + 30)]) rfl rfl ?_
    refine go_v (m := 248) (as := [.ref (c + 30), .int (iI o)]) (r := []) rfl rfl rfl (S4.1.1 19 (by decide)) rfl rfl (kq_failAtP z (d + 7) (w := WD (SD s) o) S4 (by omega) (by omega) (by omega) (by omega) (by omega) (ft := NM.2.2.1) (ρ := (sp_cs2 ((sp_tm NM.2.2.1 (sp_p 1 (DK s.N o))).bind (fun l => (sp_tm NM.2.2.1 (sp_p 2 (DK s.N o))).bind (fun m => (sp_tm NM.2.2.1 (sp_p 1 (DK s.N o))).bind (fun n => sp_cz (sp_ax 1663818 l m n))))) (s.I 17))) (σ := (s.I 17)) (by rw [nu5]; rfl) J4) (fun v6 h6 hq => ?_)
    obtain ⟨rfl, R6⟩ := hq
    show xx_go (xt_P z) (d + 8) 293 94 [some (.ref (c + 30)), some (.int (iI o)), some (.int (iI 27)), some (.int (iI 2)), some (.null), some (w4), some (.null), none] [.null] h6 _
    exact go_r rfl rfl rfl rfl rfl rfl R6
  · obtain ⟨t5, et5, Ot5⟩ := OTR_ss Ow2_4
    have Oa5 : OTR s4.N (s4.I 8) NM.2.2.1 (some (rl n5 f5)) (some t5) := Ot5
    show xx_go (xt_P z) (d + 8) 293 76 [some (.ref (c + 30)), some (.int (iI o)), some (.int (iI 27)), some (.int (iI 2)), some (.ref a5), some (w4), some (.ref a5), none] [.ref a5] h4 _
    refine go_a (pc' := 79) (ls' := [some (.ref (c + 30)), some (.int (iI o)), some (.int (iI 27)), some (.int (iI 2)), some (.ref a5), some (w4), some (.ref a5), none]) (st' := []) rfl rfl ?_
    refine go_a (pc' := 81) (ls' := [some (.ref (c + 30)), some (.int (iI o)), some (.int (iI 27)), some (.int (iI 2)), some (.ref a5), some (w4), some (.ref a5), none]) (st' := [w4]) rfl (by rcases MTM_r M4 with rfl | ⟨_, rfl⟩ <;> rfl) ?_
    rcases M4 with ⟨rfl, rfl⟩ | ⟨a6, n6, f6, rfl, T6, rfl⟩
    · have nu6 := OTR_nn Or4
      show xx_go (xt_P z) (d + 8) 293 81 [some (.ref (c + 30)), some (.int (iI o)), some (.int (iI 27)), some (.int (iI 2)), some (.ref a5), some (.null), some (.ref a5), none] [.null] h4 _
      refine go_a (pc' := 89) (ls' := [some (.ref (c + 30)), some (.int (iI o)), some (.int (iI 27)), some (.int (iI 2)), some (.ref a5), some (.null), some (.ref a5), none]) (st' := []) rfl rfl ?_
      refine go_a (pc' := 90) (ls' := [some (.ref (c + 30)), some (.int (iI o)), some (.int (iI 27)), some (.int (iI 2)), some (.ref a5), some (.null), some (.ref a5), none]) (st' := [.ref (c + 30)]) rfl rfl ?_
      refine go_a (pc' := 91) (ls' := [some (.ref (c + 30)), some (.int (iI o)), some (.int (iI 27)), some (.int (iI 2)), some (.ref a5), some (.null), some (.ref a5), none]) (st' := [.int (iI o), .ref (c + 30)]) rfl rfl ?_
      refine go_v (m := 248) (as := [.ref (c + 30), .int (iI o)]) (r := []) rfl rfl rfl (S4.1.1 19 (by decide)) rfl rfl (kq_failAtP z (d + 7) (w := WD (SD s) o) S4 (by omega) (by omega) (by omega) (by omega) (by omega) (ft := NM.2.2.1) (ρ := (sp_cs2 ((sp_tm NM.2.2.1 (sp_p 1 (DK s.N o))).bind (fun l => (sp_tm NM.2.2.1 (sp_p 2 (DK s.N o))).bind (fun m => (sp_tm NM.2.2.1 (sp_p 1 (DK s.N o))).bind (fun n => sp_cz (sp_ax 1663818 l m n))))) (s.I 17))) (σ := (s.I 17)) (by rw [et5, nu6]; rfl) J4) (fun v7 h7 hq => ?_)
      obtain ⟨rfl, R7⟩ := hq
      show xx_go (xt_P z) (d + 8) 293 94 [some (.ref (c + 30)), some (.int (iI o)), some (.int (iI 27)), some (.int (iI 2)), some (.ref a5), some (.null), some (.ref a5), none] [.null] h7 _
      exact go_r rfl rfl rfl rfl rfl rfl R7
    · obtain ⟨t6, et6, Ot6⟩ := OTR_ss Or4
      have Oa6 : OTR s4.N (s4.I 8) NM.2.2.1 (some (rl n6 f6)) (some t6) := Ot6
      show xx_go (xt_P z) (d + 8) 293 81 [some (.ref (c + 30)), some (.int (iI o)), some (.int (iI 27)), some (.int (iI 2)), some (.ref a5), some (.ref a6), some (.ref a5), none] [.ref a6] h4 _
      refine go_a (pc' := 84) (ls' := [some (.ref (c + 30)), some (.int (iI o)), some (.int (iI 27)), some (.int (iI 2)), some (.ref a5), some (.ref a6), some (.ref a5), none]) (st' := []) rfl rfl ?_
      refine go_a (pc' := 86) (ls' := [some (.ref (c + 30)), some (.int (iI o)), some (.int (iI 27)), some (.int (iI 2)), some (.ref a5), some (.ref a6), some (.ref a5), none]) (st' := [.ref a5]) rfl rfl ?_
      refine go_a (pc' := 95) (ls' := [some (.ref (c + 30)), some (.int (iI o)), some (.int (iI 27)), some (.int (iI 2)), some (.ref a5), some (.ref a6), some (.ref a5), none]) (st' := []) rfl rfl ?_
      have l12_7 : 12 ≤ h4.length := by have := ki_lt S4.1 (i := 0) (by decide); have := S4.1.2.1 0 (by decide); omega
      refine go_new (ci := 12) (fs := [.null, .int 0, .int 0, .int 0]) rfl rfl rfl ?_
      show xx_go (xt_P z) (d + 8) 293 98 [some (.ref (c + 30)), some (.int (iI o)), some (.int (iI 27)), some (.int (iI 2)), some (.ref a5), some (.ref a6), some (.ref a5), none] [.ref h4.length] (h4 ++ [.inr (12, [.null, .int 0, .int 0, .int 0])]) _
      refine go_a (pc' := 99) (ls' := [some (.ref (c + 30)), some (.int (iI o)), some (.int (iI 27)), some (.int (iI 2)), some (.ref a5), some (.ref a6), some (.ref a5), none]) (st' := [.ref h4.length, .ref h4.length]) rfl rfl ?_
      refine go_i (m := 257) (as := [.ref h4.length]) (r := [.ref h4.length]) rfl rfl rfl rfl rfl (kh_init z (d + 7) h4 l12_7) (fun v7 h7 hq => ?_)
      obtain ⟨rfl, rfl⟩ := hq
      obtain ⟨K7, X7, B7⟩ := mkC_CL (u := (s.I 8)) S4.1
      have C7 : CL c (mkC h4) s4 (s.I 8) h4.length 0 [] := ⟨_, _, _, _, _, B7, rfl⟩
      have S7 := KST_X S4 K7 X7
      obtain ⟨x7, ex7⟩ : ∃ q : Nat, q = h4.length := ⟨_, rfl⟩
      have Ta5_7 := TM_kx T5 X7
      have Ta6_7 := TM_kx T6 X7
      obtain ⟨hM7, eM7⟩ : ∃ q : xx_H, q = mkC h4 := ⟨_, rfl⟩
      have hx7 : hp.length ≤ x7 := by rw [ex7]; exact KST_len S4
      rw [← ex7] at C7
      rw [← eM7, ← ex7]
      obtain ⟨mC7, wC7, cC7⟩ := CL_cell C7
      rw [← eM7] at S7 C7 cC7 Ta5_7 Ta6_7
      clear B7 K7 X7
      show xx_go (xt_P z) (d + 8) 293 102 [some (.ref (c + 30)), some (.int (iI o)), some (.int (iI 27)), some (.int (iI 2)), some (.ref a5), some (.ref a6), some (.ref a5), none] [.ref x7] hM7 _
      refine go_a (pc' := 104) (ls' := [some (.ref (c + 30)), some (.int (iI o)), some (.int (iI 27)), some (.int (iI 2)), some (.ref a5), some (.ref a6), some (.ref a5), some (.ref x7)]) (st' := []) rfl rfl ?_
      refine go_a (pc' := 105) (ls' := [some (.ref (c + 30)), some (.int (iI o)), some (.int (iI 27)), some (.int (iI 2)), some (.ref a5), some (.ref a6), some (.ref a5), some (.ref x7)]) (st' := [.int (iI 27)]) rfl rfl ?_
      refine go_a (pc' := 270) (ls' := [some (.ref (c + 30)), some (.int (iI o)), some (.int (iI 27)), some (.int (iI 2)), some (.ref a5), some (.ref a6), some (.ref a5), some (.ref x7)]) (st' := []) rfl rfl ?_
      refine go_a (pc' := 272) (ls' := [some (.ref (c + 30)), some (.int (iI o)), some (.int (iI 27)), some (.int (iI 2)), some (.ref a5), some (.ref a6), some (.ref a5), some (.ref x7)]) (st' := [.ref x7]) rfl rfl ?_
      refine go_a (pc' := 273) (ls' := [some (.ref (c + 30)), some (.int (iI o)), some (.int (iI 27)), some (.int (iI 2)), some (.ref a5), some (.ref a6), some (.ref a5), some (.ref x7)]) (st' := [.ref (c + 30), .ref x7]) rfl rfl ?_
      refine go_get (v := .ref (c + 25)) rfl (S7.1.1 19 (by decide)) rfl rfl ?_
      refine go_a (pc' := 278) (ls' := [some (.ref (c + 30)), some (.int (iI o)), some (.int (iI 27)), some (.int (iI 2)), some (.ref a5), some (.ref a6), some (.ref a5), some (.ref x7)]) (st' := [.int (iI 10), .ref (c + 25), .ref x7]) rfl rfl ?_
      refine go_a (pc' := 279) (ls' := [some (.ref (c + 30)), some (.int (iI o)), some (.int (iI 27)), some (.int (iI 2)), some (.ref a5), some (.ref a6), some (.ref a5), some (.ref x7)]) (st' := [.ref (c + 30), .int (iI 10), .ref (c + 25), .ref x7]) rfl rfl ?_
      refine go_get (v := .ref (c + 25)) rfl (S7.1.1 19 (by decide)) rfl rfl ?_
      refine go_a (pc' := 283) (ls' := [some (.ref (c + 30)), some (.int (iI o)), some (.int (iI 27)), some (.int (iI 2)), some (.ref a5), some (.ref a6), some (.ref a5), some (.ref x7)]) (st' := [.int (iI 5), .ref (c + 25), .int (iI 10), .ref (c + 25), .ref x7]) rfl rfl ?_
      refine go_a (pc' := 285) (ls' := [some (.ref (c + 30)), some (.int (iI o)), some (.int (iI 27)), some (.int (iI 2)), some (.ref a5), some (.ref a6), some (.ref a5), some (.ref x7)]) (st' := [.ref a5, .int (iI 5), .ref (c + 25), .int (iI 10), .ref (c + 25), .ref x7]) rfl rfl ?_
      refine go_a (pc' := 287) (ls' := [some (.ref (c + 30)), some (.int (iI o)), some (.int (iI 27)), some (.int (iI 2)), some (.ref a5), some (.ref a6), some (.ref a5), some (.ref x7)]) (st' := [.ref a6, .ref a5, .int (iI 5), .ref (c + 25), .int (iI 10), .ref (c + 25), .ref x7]) rfl rfl ?_
      have Om8 := OTQ_2 (v := 345281) (show sp_isq (.var 345281) = false by decide) fB.2.2.1 (by decide) (by decide) (OTQ_t Oa5 (by rw [rl_len]; have := TM_n Ta5_7; omega)) (OTQ_t Oa6 (by rw [rl_len]; have := TM_n Ta6_7; omega))
      refine go_v (m := 259) (as := [.ref (c + 25), .int (iI 5), .ref a5, .ref a6]) (r := [.int (iI 10), .ref (c + 25), .ref x7]) rfl rfl rfl (S7.1.1 16 (by decide)) rfl rfl (kq_mk2 z (d + 4) (t := 5) S7.1 S7.2.1 (by decide) (by decide) (MTM_T Ta5_7) (MTM_T Ta6_7) (TVx_k (n := 2) u38 lu (by decide) (by decide) (by decide) (by decide) (by decide) (by decide))) (fun v8 h8 hq => ?_)
      obtain ⟨w8, s8, rfl, E8, M8⟩ := hq
      have S8 := KST_STE S7 E8
      have e8 := (STE_8 E8).trans e4
      have Ta5_8 := TM_kx Ta5_7 E8.2.2.2
      have Ta6_8 := TM_kx Ta6_7 E8.2.2.2
      have Cx7_8 := CL_kx C7 E8.2.2.2
      obtain ⟨mCx7_8, wCx7_8, cCx7_8⟩ := CL_cell Cx7_8
      have J8 := STE_17 E8 J4
      have Oa5_8 := STE_OTR E8 Oa5
      have Oa6_8 := STE_OTR E8 Oa6
      have Ow8_8 := STE_OTR E8 Om8
      show xx_go (xt_P z) (d + 8) 293 290 [some (.ref (c + 30)), some (.int (iI o)), some (.int (iI 27)), some (.int (iI 2)), some (.ref a5), some (.ref a6), some (.ref a5), some (.ref x7)] [w8, .int (iI 10), .ref (c + 25), .ref x7] h8 _
      have Om9 := OTQ_1 (v := 16228223) (show sp_isq (.var 16228223) = false by decide) fB.2.2.2.1 (by decide) (by decide) Ow8_8
      refine go_v (m := 294) (as := [.ref (c + 25), .int (iI 10), w8]) (r := [.ref x7]) rfl rfl rfl (S8.1.1 16 (by decide)) rfl rfl (kq_mk1 z (d + 4) (t := 10) S8.1 S8.2.1 (by decide) (by decide) M8 (TVx_k (n := 1) u38 lu (by decide) (by decide) (by decide) (by decide) (by decide) (by decide))) (fun v9 h9 hq => ?_)
      obtain ⟨w9, s9, rfl, E9, M9⟩ := hq
      have S9 := KST_STE S8 E9
      have e9 := (STE_8 E9).trans e8
      have Ta5_9 := TM_kx Ta5_8 E9.2.2.2
      have Ta6_9 := TM_kx Ta6_8 E9.2.2.2
      have Mw8_9 := MTM_kx M8 E9.2.2.2
      have Cx7_9 := CL_kx Cx7_8 E9.2.2.2
      obtain ⟨mCx7_9, wCx7_9, cCx7_9⟩ := CL_cell Cx7_9
      have J9 := STE_17 E9 J8
      have Oa5_9 := STE_OTR E9 Oa5_8
      have Oa6_9 := STE_OTR E9 Oa6_8
      have Ow8_9 := STE_OTR E9 Ow8_8
      have Ow9_9 := STE_OTR E9 Om9
      show xx_go (xt_P z) (d + 8) 293 293 [some (.ref (c + 30)), some (.int (iI o)), some (.int (iI 27)), some (.int (iI 2)), some (.ref a5), some (.ref a6), some (.ref a5), some (.ref x7)] [w9, .ref x7] h9 _
      refine go_v (m := 261) (as := [.ref x7, w9]) (r := []) rfl rfl rfl cCx7_9 rfl rfl (kq_addC z (d + 5) Cx7_9 M9) (fun v10 h10 hq => ?_)
      obtain ⟨rfl, F10, b10, Z10, q10, C10⟩ := hq
      have hz10 := q10
      have S10 := KST_fe S9 Cx7_9 hx7 F10
      have Ta5_10 := TM_fe Cx7_9 F10 Ta5_9
      have Ta6_10 := TM_fe Cx7_9 F10 Ta6_9
      have Mw8_10 := MTM_fe Cx7_9 F10 Mw8_9
      have Mw9_10 := MTM_fe Cx7_9 F10 M9
      obtain ⟨mC10, wC10, cC10⟩ := CL_cell C10
      show xx_go (xt_P z) (d + 8) 293 296 [some (.ref (c + 30)), some (.int (iI o)), some (.int (iI 27)), some (.int (iI 2)), some (.ref a5), some (.ref a6), some (.ref a5), some (.ref x7)] [] h10 _
      refine go_a (pc' := 381) (ls' := [some (.ref (c + 30)), some (.int (iI o)), some (.int (iI 27)), some (.int (iI 2)), some (.ref a5), some (.ref a6), some (.ref a5), some (.ref x7)]) (st' := []) rfl rfl ?_
      refine go_a (pc' := 382) (ls' := [some (.ref (c + 30)), some (.int (iI o)), some (.int (iI 27)), some (.int (iI 2)), some (.ref a5), some (.ref a6), some (.ref a5), some (.ref x7)]) (st' := [.ref (c + 30)]) rfl rfl ?_
      refine go_a (pc' := 384) (ls' := [some (.ref (c + 30)), some (.int (iI o)), some (.int (iI 27)), some (.int (iI 2)), some (.ref a5), some (.ref a6), some (.ref a5), some (.ref x7)]) (st' := [.ref x7, .ref (c + 30)]) rfl rfl ?_
      refine go_v (m := 265) (as := [.ref (c + 30), .ref x7]) (r := []) rfl rfl rfl (S10.1.1 19 (by decide)) rfl rfl (kq_fin z (d + 6) (w := WD (SD s) o) (ρ := (sp_cs2 ((sp_tm NM.2.2.1 (sp_p 1 (DK s.N o))).bind (fun l => (sp_tm NM.2.2.1 (sp_p 2 (DK s.N o))).bind (fun m => (sp_tm NM.2.2.1 (sp_p 1 (DK s.N o))).bind (fun n => sp_cz (sp_ax 1663818 l m n))))) (s.I 17))) (σ := (s.I 17)) hP S10 C10 (ITR_one Ow9_9 ITR_nil) hz10 (by rw [et5, et6, J9]; rfl) J9 e9 hx7 (by omega) (by omega) (by omega)) (fun v11 h11 hq => ?_)
      rcases hq with ⟨rfl, R11⟩ | ⟨r11, rfl, R11⟩
      · exact go_r rfl rfl rfl rfl rfl rfl R11
      · exact go_r rfl rfl rfl rfl rfl rfl R11
theorem kq_axiom_28 (z : Value) (d c : Nat) (o : Int) (q : Nat) (hp : xx_H) (s : KS) (NM : BKM) (hP : KPS c hp s NM) (ho : OB s o) (hL : isL (SD s) q o) (r2 : pi s 0 o ≠ 2) (w9 : WD (SD s) o ≤ 1000) (l25 : s.I 8 + WD (SD s) o ≤ 25000) (hq : q = 4) : xx_cl (xt_P z) (d + 9) 293 [.ref (c + 30), .int (iI o), .int (iI 28), .int (iI 3)] hp (fun v h1 => PRP c hp s (WD (SD s) o) NM.2.2.1 (sp_cs2 ((sp_tm NM.2.2.1 (sp_p 1 (DK s.N o))).bind (fun l => (sp_tm NM.2.2.1 (sp_p 2 (DK s.N o))).bind (fun m => (sp_tm NM.2.2.1 (sp_p 3 (DK s.N o))).bind (fun n => sp_cz (sp_ax 55479 l m n))))) (s.I 17)) (s.I 17) v h1) := by
  have S0 := KST_rf hP
  have e0 : s.I 8 = s.I 8 := rfl
  have lu : s.I 8 ≤ 25000 := hP.2.2.2.2.2.2.2.1
  have u38 := KB_38 hP.2.1
  have J0 : s.I 17 = s.I 17 := rfl
  have fB := KNT_FTB hP.2.2.2.2.2.2.2.2
  have oR := OB_R hP.2.1 ho
  have W := PI_W hP.2.2.1 ho hL (by omega) r2
  have p0 : VD (SD s) (rt (SD s) 0 o) = WD (SD s) (pi s 0 o) + VD (SD s) (rt (SD s) 1 o) ∧ OB s (pi s 0 o) ∧ 1 ≤ WD (SD s) (pi s 0 o) ∧ 0 ≤ VD (SD s) (rt (SD s) 1 o) := PI_w hP.2.2.1 ho hL (j := 0) (by omega)
  have p1 : VD (SD s) (rt (SD s) 1 o) = WD (SD s) (pi s 1 o) + VD (SD s) (rt (SD s) 2 o) ∧ OB s (pi s 1 o) ∧ 1 ≤ WD (SD s) (pi s 1 o) ∧ 0 ≤ VD (SD s) (rt (SD s) 2 o) := PI_w hP.2.2.1 ho hL (j := 1) (by omega)
  have p2 : VD (SD s) (rt (SD s) 2 o) = WD (SD s) (pi s 2 o) + VD (SD s) (rt (SD s) 3 o) ∧ OB s (pi s 2 o) ∧ 1 ≤ WD (SD s) (pi s 2 o) ∧ 0 ≤ VD (SD s) (rt (SD s) 3 o) := PI_w hP.2.2.1 ho hL (j := 2) (by omega)
  have p3 : VD (SD s) (rt (SD s) 3 o) = WD (SD s) (pi s 3 o) + VD (SD s) (rt (SD s) 4 o) ∧ OB s (pi s 3 o) ∧ 1 ≤ WD (SD s) (pi s 3 o) ∧ 0 ≤ VD (SD s) (rt (SD s) 4 o) := PI_w hP.2.2.1 ho hL (j := 3) (by omega)
  obtain ⟨p0, o0, i0, j0⟩ := p0
  obtain ⟨p1, o1, i1, j1⟩ := p1
  obtain ⟨p2, o2, i2, j2⟩ := p2
  obtain ⟨p3, o3, i3, j3⟩ := p3
  refine cl_go rfl ?_
  show xx_go (xt_P z) (d + 8) 293 0 [some (.ref (c + 30)), some (.int (iI o)), some (.int (iI 28)), some (.int (iI 3)), none, none, none, none] [] hp _
  refine go_a (pc' := 1) (ls' := [some (.ref (c + 30)), some (.int (iI o)), some (.int (iI 28)), some (.int (iI 3)), none, none, none, none]) (st' := [.ref (c + 30)]) rfl rfl ?_
  refine go_get (v := .ref (c + 25)) rfl (S0.1.1 19 (by decide)) rfl rfl ?_
  refine go_a (pc' := 5) (ls' := [some (.ref (c + 30)), some (.int (iI o)), some (.int (iI 28)), some (.int (iI 3)), none, none, none, none]) (st' := [.ref (c + 30), .ref (c + 25)]) rfl rfl ?_
  refine go_get (v := .ref (c + 4)) rfl (S0.1.1 19 (by decide)) rfl rfl ?_
  refine go_a (pc' := 9) (ls' := [some (.ref (c + 30)), some (.int (iI o)), some (.int (iI 28)), some (.int (iI 3)), none, none, none, none]) (st' := [.int (iI o), .ref (c + 4), .ref (c + 25)]) rfl rfl ?_
  refine go_a (pc' := 10) (ls' := [some (.ref (c + 30)), some (.int (iI o)), some (.int (iI 28)), some (.int (iI 3)), none, none, none, none]) (st' := [.int (iI 1), .int (iI o), .ref (c + 4), .ref (c + 25)]) rfl rfl ?_
  refine go_v (m := 202) (as := [.ref (c + 4), .int (iI o), .int (iI 1)]) (r := [.ref (c + 25)]) rfl rfl rfl (S0.1.1 3 (by decide)) rfl rfl (kq_part z (d + 6) S0 hP.2.2.1 ho hL (by omega) (by omega) (by omega)) (fun v1 h1 hq => ?_)
  obtain ⟨rfl, eq1⟩ := hq
  rw [eq1]
  clear eq1 h1
  show xx_go (xt_P z) (d + 8) 293 13 [some (.ref (c + 30)), some (.int (iI o)), some (.int (iI 28)), some (.int (iI 3)), none, none, none, none] [.int (iI (pi s 1 o)), .ref (c + 25)] hp _
  refine go_v (m := 211) (as := [.ref (c + 25), .int (iI (pi s 1 o))]) (r := []) rfl rfl rfl (S0.1.1 16 (by decide)) rfl rfl (kq_readM z (d + 1) hP S0 e0 lu o1 (by omega)) (fun v2 h2 hq => ?_)
  obtain ⟨w2, s2, rfl, E2, R2, M2, Or2⟩ := hq
  rw [PI_D hP ho hL (j := 1) (by omega)] at Or2
  have S2 := KST_STE S0 E2
  have e2 := (STE_8 E2).trans e0
  have J2 := STE_17 E2 J0
  show xx_go (xt_P z) (d + 8) 293 16 [some (.ref (c + 30)), some (.int (iI o)), some (.int (iI 28)), some (.int (iI 3)), none, none, none, none] [w2] h2 _
  refine go_a (pc' := 18) (ls' := [some (.ref (c + 30)), some (.int (iI o)), some (.int (iI 28)), some (.int (iI 3)), some (w2), none, none, none]) (st' := []) rfl (by rcases MTM_r M2 with rfl | ⟨_, rfl⟩ <;> rfl) ?_
  refine go_a (pc' := 19) (ls' := [some (.ref (c + 30)), some (.int (iI o)), some (.int (iI 28)), some (.int (iI 3)), some (w2), none, none, none]) (st' := [.int (iI 3)]) rfl rfl ?_
  refine go_a (pc' := 20) (ls' := [some (.ref (c + 30)), some (.int (iI o)), some (.int (iI 28)), some (.int (iI 3)), some (w2), none, none, none]) (st' := [.int (iI 1), .int (iI 3)]) rfl rfl ?_
  refine mi_le (t := 42) rfl rfl (by omega) (by omega) (by omega) (by omega) (fun q => absurd q (by decide)) (fun _ => ?_)
  refine go_a (pc' := 24) (ls' := [some (.ref (c + 30)), some (.int (iI o)), some (.int (iI 28)), some (.int (iI 3)), some (w2), none, none, none]) (st' := [.ref (c + 30)]) rfl rfl ?_
  refine go_get (v := .ref (c + 25)) rfl (S2.1.1 19 (by decide)) rfl rfl ?_
  refine go_a (pc' := 28) (ls' := [some (.ref (c + 30)), some (.int (iI o)), some (.int (iI 28)), some (.int (iI 3)), some (w2), none, none, none]) (st' := [.ref (c + 30), .ref (c + 25)]) rfl rfl ?_
  refine go_get (v := .ref (c + 4)) rfl (S2.1.1 19 (by decide)) rfl rfl ?_
  refine go_a (pc' := 32) (ls' := [some (.ref (c + 30)), some (.int (iI o)), some (.int (iI 28)), some (.int (iI 3)), some (w2), none, none, none]) (st' := [.int (iI o), .ref (c + 4), .ref (c + 25)]) rfl rfl ?_
  refine go_a (pc' := 33) (ls' := [some (.ref (c + 30)), some (.int (iI o)), some (.int (iI 28)), some (.int (iI 3)), some (w2), none, none, none]) (st' := [.int (iI 2), .int (iI o), .ref (c + 4), .ref (c + 25)]) rfl rfl ?_
  refine go_v (m := 202) (as := [.ref (c + 4), .int (iI o), .int (iI 2)]) (r := [.ref (c + 25)]) rfl rfl rfl (S2.1.1 3 (by decide)) rfl rfl (kq_part z (d + 6) S2 hP.2.2.1 ho hL (by omega) (by omega) (by omega)) (fun v3 h3 hq => ?_)
  obtain ⟨rfl, eq3⟩ := hq
  rw [eq3]
  clear eq3 h3
  show xx_go (xt_P z) (d + 8) 293 36 [some (.ref (c + 30)), some (.int (iI o)), some (.int (iI 28)), some (.int (iI 3)), some (w2), none, none, none] [.int (iI (pi s 2 o)), .ref (c + 25)] h2 _
  refine go_v (m := 211) (as := [.ref (c + 25), .int (iI (pi s 2 o))]) (r := []) rfl rfl rfl (S2.1.1 16 (by decide)) rfl rfl (kq_readM z (d + 1) hP S2 e2 lu o2 (by omega)) (fun v4 h4 hq => ?_)
  obtain ⟨w4, s4, rfl, E4, R4, M4, Or4⟩ := hq
  rw [PI_D hP ho hL (j := 2) (by omega)] at Or4
  have S4 := KST_STE S2 E4
  have e4 := (STE_8 E4).trans e2
  have Mw2_4 := MTM_kx M2 E4.2.2.2
  have J4 := STE_17 E4 J2
  have Ow2_4 := STE_OTR E4 Or2
  show xx_go (xt_P z) (d + 8) 293 39 [some (.ref (c + 30)), some (.int (iI o)), some (.int (iI 28)), some (.int (iI 3)), some (w2), none, none, none] [w4] h4 _
  refine go_a (pc' := 44) (ls' := [some (.ref (c + 30)), some (.int (iI o)), some (.int (iI 28)), some (.int (iI 3)), some (w2), none, none, none]) (st' := [w4]) rfl rfl ?_
  refine go_a (pc' := 46) (ls' := [some (.ref (c + 30)), some (.int (iI o)), some (.int (iI 28)), some (.int (iI 3)), some (w2), some (w4), none, none]) (st' := []) rfl (by rcases MTM_r M4 with rfl | ⟨_, rfl⟩ <;> rcases MTM_r Mw2_4 with rfl | ⟨_, rfl⟩ <;> rfl) ?_
  refine go_a (pc' := 47) (ls' := [some (.ref (c + 30)), some (.int (iI o)), some (.int (iI 28)), some (.int (iI 3)), some (w2), some (w4), none, none]) (st' := [.int (iI 3)]) rfl rfl ?_
  refine go_a (pc' := 48) (ls' := [some (.ref (c + 30)), some (.int (iI o)), some (.int (iI 28)), some (.int (iI 3)), some (w2), some (w4), none, none]) (st' := [.int (iI 2), .int (iI 3)]) rfl rfl ?_
  refine mi_le (t := 70) rfl rfl (by omega) (by omega) (by omega) (by omega) (fun q => absurd q (by decide)) (fun _ => ?_)
  refine go_a (pc' := 52) (ls' := [some (.ref (c + 30)), some (.int (iI o)), some (.int (iI 28)), some (.int (iI 3)), some (w2), some (w4), none, none]) (st' := [.ref (c + 30)]) rfl rfl ?_
  refine go_get (v := .ref (c + 25)) rfl (S4.1.1 19 (by decide)) rfl rfl ?_
  refine go_a (pc' := 56) (ls' := [some (.ref (c + 30)), some (.int (iI o)), some (.int (iI 28)), some (.int (iI 3)), some (w2), some (w4), none, none]) (st' := [.ref (c + 30), .ref (c + 25)]) rfl rfl ?_
  refine go_get (v := .ref (c + 4)) rfl (S4.1.1 19 (by decide)) rfl rfl ?_
  refine go_a (pc' := 60) (ls' := [some (.ref (c + 30)), some (.int (iI o)), some (.int (iI 28)), some (.int (iI 3)), some (w2), some (w4), none, none]) (st' := [.int (iI o), .ref (c + 4), .ref (c + 25)]) rfl rfl ?_
  refine go_a (pc' := 61) (ls' := [some (.ref (c + 30)), some (.int (iI o)), some (.int (iI 28)), some (.int (iI 3)), some (w2), some (w4), none, none]) (st' := [.int (iI 3), .int (iI o), .ref (c + 4), .ref (c + 25)]) rfl rfl ?_
  refine go_v (m := 202) (as := [.ref (c + 4), .int (iI o), .int (iI 3)]) (r := [.ref (c + 25)]) rfl rfl rfl (S4.1.1 3 (by decide)) rfl rfl (kq_part z (d + 6) S4 hP.2.2.1 ho hL (by omega) (by omega) (by omega)) (fun v5 h5 hq => ?_)
  obtain ⟨rfl, eq5⟩ := hq
  rw [eq5]
  clear eq5 h5
  show xx_go (xt_P z) (d + 8) 293 64 [some (.ref (c + 30)), some (.int (iI o)), some (.int (iI 28)), some (.int (iI 3)), some (w2), some (w4), none, none] [.int (iI (pi s 3 o)), .ref (c + 25)] h4 _
  refine go_v (m := 211) (as := [.ref (c + 25), .int (iI (pi s 3 o))]) (r := []) rfl rfl rfl (S4.1.1 16 (by decide)) rfl rfl (kq_readM z (d + 1) hP S4 e4 lu o3 (by omega)) (fun v6 h6 hq => ?_)
  obtain ⟨w6, s6, rfl, E6, R6, M6, Or6⟩ := hq
  rw [PI_D hP ho hL (j := 3) (by omega)] at Or6
  have S6 := KST_STE S4 E6
  have e6 := (STE_8 E6).trans e4
  have Mw2_6 := MTM_kx Mw2_4 E6.2.2.2
  have Mw4_6 := MTM_kx M4 E6.2.2.2
  have J6 := STE_17 E6 J4
  have Ow2_6 := STE_OTR E6 Ow2_4
  have Ow4_6 := STE_OTR E6 Or4
  show xx_go (xt_P z) (d + 8) 293 67 [some (.ref (c + 30)), some (.int (iI o)), some (.int (iI 28)), some (.int (iI 3)), some (w2), some (w4), none, none] [w6] h6 _
  refine go_a (pc' := 72) (ls' := [some (.ref (c + 30)), some (.int (iI o)), some (.int (iI 28)), some (.int (iI 3)), some (w2), some (w4), none, none]) (st' := [w6]) rfl rfl ?_
  refine go_a (pc' := 74) (ls' := [some (.ref (c + 30)), some (.int (iI o)), some (.int (iI 28)), some (.int (iI 3)), some (w2), some (w4), some (w6), none]) (st' := []) rfl (by rcases MTM_r M6 with rfl | ⟨_, rfl⟩ <;> rcases MTM_r Mw4_6 with rfl | ⟨_, rfl⟩ <;> rfl) ?_
  refine go_a (pc' := 76) (ls' := [some (.ref (c + 30)), some (.int (iI o)), some (.int (iI 28)), some (.int (iI 3)), some (w2), some (w4), some (w6), none]) (st' := [w2]) rfl (by rcases MTM_r Mw2_6 with rfl | ⟨_, rfl⟩ <;> rfl) ?_
  rcases Mw2_6 with ⟨rfl, rfl⟩ | ⟨a7, n7, f7, rfl, T7, rfl⟩
  · have nu7 := OTR_nn Ow2_6
    show xx_go (xt_P z) (d + 8) 293 76 [some (.ref (c + 30)), some (.int (iI o)), some (.int (iI 28)), some (.int (iI 3)), some (.null), some (w4), some (w6), none] [.null] h6 _
    refine go_a (pc' := 89) (ls' := [some (.ref (c + 30)), some (.int (iI o)), some (.int (iI 28)), some (.int (iI 3)), some (.null), some (w4), some (w6), none]) (st' := []) rfl rfl ?_
    refine go_a (pc' := 90) (ls' := [some (.ref (c + 30)), some (.int (iI o)), some (.int (iI 28)), some (.int (iI 3)), some (.null), some (w4), some (w6), none]) (st' := [.ref (c + 30)]) rfl rfl ?_
    refine go_a (pc' := 91) (ls' := [some (.ref (c + 30)), some (.int (iI o)), some (.int (iI 28)), some (.int (iI 3)), some (.null), some (w4), some (w6), none]) (st' := [.int (iI o), .ref (c + 30)]) rfl rfl ?_
    refine go_v (m := 248) (as := [.ref (c + 30), .int (iI o)]) (r := []) rfl rfl rfl (S6.1.1 19 (by decide)) rfl rfl (kq_failAtP z (d + 7) (w := WD (SD s) o) S6 (by omega) (by omega) (by omega) (by omega) (by omega) (ft := NM.2.2.1) (ρ := (sp_cs2 ((sp_tm NM.2.2.1 (sp_p 1 (DK s.N o))).bind (fun l => (sp_tm NM.2.2.1 (sp_p 2 (DK s.N o))).bind (fun m => (sp_tm NM.2.2.1 (sp_p 3 (DK s.N o))).bind (fun n => sp_cz (sp_ax 55479 l m n))))) (s.I 17))) (σ := (s.I 17)) (by rw [nu7]; rfl) J6) (fun v8 h8 hq => ?_)
    obtain ⟨rfl, R8⟩ := hq
    show xx_go (xt_P z) (d + 8) 293 94 [some (.ref (c + 30)), some (.int (iI o)), some (.int (iI 28)), some (.int (iI 3)), some (.null), some (w4), some (w6), none] [.null] h8 _
    exact go_r rfl rfl rfl rfl rfl rfl R8
  · obtain ⟨t7, et7, Ot7⟩ := OTR_ss Ow2_6
    have Oa7 : OTR s6.N (s6.I 8) NM.2.2.1 (some (rl n7 f7)) (some t7) := Ot7
    show xx_go (xt_P z) (d + 8) 293 76 [some (.ref (c + 30)), some (.int (iI o)), some (.int (iI 28)), some (.int (iI 3)), some (.ref a7), some (w4), some (w6), none] [.ref a7] h6 _
    refine go_a (pc' := 79) (ls' := [some (.ref (c + 30)), some (.int (iI o)), some (.int (iI 28)), some (.int (iI 3)), some (.ref a7), some (w4), some (w6), none]) (st' := []) rfl rfl ?_
    refine go_a (pc' := 81) (ls' := [some (.ref (c + 30)), some (.int (iI o)), some (.int (iI 28)), some (.int (iI 3)), some (.ref a7), some (w4), some (w6), none]) (st' := [w4]) rfl (by rcases MTM_r Mw4_6 with rfl | ⟨_, rfl⟩ <;> rfl) ?_
    rcases Mw4_6 with ⟨rfl, rfl⟩ | ⟨a8, n8, f8, rfl, T8, rfl⟩
    · have nu8 := OTR_nn Ow4_6
      show xx_go (xt_P z) (d + 8) 293 81 [some (.ref (c + 30)), some (.int (iI o)), some (.int (iI 28)), some (.int (iI 3)), some (.ref a7), some (.null), some (w6), none] [.null] h6 _
      refine go_a (pc' := 89) (ls' := [some (.ref (c + 30)), some (.int (iI o)), some (.int (iI 28)), some (.int (iI 3)), some (.ref a7), some (.null), some (w6), none]) (st' := []) rfl rfl ?_
      refine go_a (pc' := 90) (ls' := [some (.ref (c + 30)), some (.int (iI o)), some (.int (iI 28)), some (.int (iI 3)), some (.ref a7), some (.null), some (w6), none]) (st' := [.ref (c + 30)]) rfl rfl ?_
      refine go_a (pc' := 91) (ls' := [some (.ref (c + 30)), some (.int (iI o)), some (.int (iI 28)), some (.int (iI 3)), some (.ref a7), some (.null), some (w6), none]) (st' := [.int (iI o), .ref (c + 30)]) rfl rfl ?_
      refine go_v (m := 248) (as := [.ref (c + 30), .int (iI o)]) (r := []) rfl rfl rfl (S6.1.1 19 (by decide)) rfl rfl (kq_failAtP z (d + 7) (w := WD (SD s) o) S6 (by omega) (by omega) (by omega) (by omega) (by omega) (ft := NM.2.2.1) (ρ := (sp_cs2 ((sp_tm NM.2.2.1 (sp_p 1 (DK s.N o))).bind (fun l => (sp_tm NM.2.2.1 (sp_p 2 (DK s.N o))).bind (fun m => (sp_tm NM.2.2.1 (sp_p 3 (DK s.N o))).bind (fun n => sp_cz (sp_ax 55479 l m n))))) (s.I 17))) (σ := (s.I 17)) (by rw [et7, nu8]; rfl) J6) (fun v9 h9 hq => ?_)
      obtain ⟨rfl, R9⟩ := hq
      show xx_go (xt_P z) (d + 8) 293 94 [some (.ref (c + 30)), some (.int (iI o)), some (.int (iI 28)), some (.int (iI 3)), some (.ref a7), some (.null), some (w6), none] [.null] h9 _
      exact go_r rfl rfl rfl rfl rfl rfl R9
    · obtain ⟨t8, et8, Ot8⟩ := OTR_ss Ow4_6
      have Oa8 : OTR s6.N (s6.I 8) NM.2.2.1 (some (rl n8 f8)) (some t8) := Ot8
      show xx_go (xt_P z) (d + 8) 293 81 [some (.ref (c + 30)), some (.int (iI o)), some (.int (iI 28)), some (.int (iI 3)), some (.ref a7), some (.ref a8), some (w6), none] [.ref a8] h6 _
      refine go_a (pc' := 84) (ls' := [some (.ref (c + 30)), some (.int (iI o)), some (.int (iI 28)), some (.int (iI 3)), some (.ref a7), some (.ref a8), some (w6), none]) (st' := []) rfl rfl ?_
      refine go_a (pc' := 86) (ls' := [some (.ref (c + 30)), some (.int (iI o)), some (.int (iI 28)), some (.int (iI 3)), some (.ref a7), some (.ref a8), some (w6), none]) (st' := [w6]) rfl (by rcases MTM_r M6 with rfl | ⟨_, rfl⟩ <;> rfl) ?_
      rcases M6 with ⟨rfl, rfl⟩ | ⟨a9, n9, f9, rfl, T9, rfl⟩
      · have nu9 := OTR_nn Or6
        show xx_go (xt_P z) (d + 8) 293 86 [some (.ref (c + 30)), some (.int (iI o)), some (.int (iI 28)), some (.int (iI 3)), some (.ref a7), some (.ref a8), some (.null), none] [.null] h6 _
        refine go_a (pc' := 89) (ls' := [some (.ref (c + 30)), some (.int (iI o)), some (.int (iI 28)), some (.int (iI 3)), some (.ref a7), some (.ref a8), some (.null), none]) (st' := []) rfl rfl ?_
        refine go_a (pc' := 90) (ls' := [some (.ref (c + 30)), some (.int (iI o)), some (.int (iI 28)), some (.int (iI 3)), some (.ref a7), some (.ref a8), some (.null), none]) (st' := [.ref (c + 30)]) rfl rfl ?_
        refine go_a (pc' := 91) (ls' := [some (.ref (c + 30)), some (.int (iI o)), some (.int (iI 28)), some (.int (iI 3)), some (.ref a7), some (.ref a8), some (.null), none]) (st' := [.int (iI o), .ref (c + 30)]) rfl rfl ?_
        refine go_v (m := 248) (as := [.ref (c + 30), .int (iI o)]) (r := []) rfl rfl rfl (S6.1.1 19 (by decide)) rfl rfl (kq_failAtP z (d + 7) (w := WD (SD s) o) S6 (by omega) (by omega) (by omega) (by omega) (by omega) (ft := NM.2.2.1) (ρ := (sp_cs2 ((sp_tm NM.2.2.1 (sp_p 1 (DK s.N o))).bind (fun l => (sp_tm NM.2.2.1 (sp_p 2 (DK s.N o))).bind (fun m => (sp_tm NM.2.2.1 (sp_p 3 (DK s.N o))).bind (fun n => sp_cz (sp_ax 55479 l m n))))) (s.I 17))) (σ := (s.I 17)) (by rw [et7, et8, nu9]; rfl) J6) (fun v10 h10 hq => ?_)
        obtain ⟨rfl, R10⟩ := hq
        show xx_go (xt_P z) (d + 8) 293 94 [some (.ref (c + 30)), some (.int (iI o)), some (.int (iI 28)), some (.int (iI 3)), some (.ref a7), some (.ref a8), some (.null), none] [.null] h10 _
        exact go_r rfl rfl rfl rfl rfl rfl R10
      · obtain ⟨t9, et9, Ot9⟩ := OTR_ss Or6
        have Oa9 : OTR s6.N (s6.I 8) NM.2.2.1 (some (rl n9 f9)) (some t9) := Ot9
        show xx_go (xt_P z) (d + 8) 293 86 [some (.ref (c + 30)), some (.int (iI o)), some (.int (iI 28)), some (.int (iI 3)), some (.ref a7), some (.ref a8), some (.ref a9), none] [.ref a9] h6 _
        refine go_a (pc' := 95) (ls' := [some (.ref (c + 30)), some (.int (iI o)), some (.int (iI 28)), some (.int (iI 3)), some (.ref a7), some (.ref a8), some (.ref a9), none]) (st' := []) rfl rfl ?_
        have l12_10 : 12 ≤ h6.length := by have := ki_lt S6.1 (i := 0) (by decide); have := S6.1.2.1 0 (by decide); omega
        refine go_new (ci := 12) (fs := [.null, .int 0, .int 0, .int 0]) rfl rfl rfl ?_
        show xx_go (xt_P z) (d + 8) 293 98 [some (.ref (c + 30)), some (.int (iI o)), some (.int (iI 28)), some (.int (iI 3)), some (.ref a7), some (.ref a8), some (.ref a9), none] [.ref h6.length] (h6 ++ [.inr (12, [.null, .int 0, .int 0, .int 0])]) _
        refine go_a (pc' := 99) (ls' := [some (.ref (c + 30)), some (.int (iI o)), some (.int (iI 28)), some (.int (iI 3)), some (.ref a7), some (.ref a8), some (.ref a9), none]) (st' := [.ref h6.length, .ref h6.length]) rfl rfl ?_
        refine go_i (m := 257) (as := [.ref h6.length]) (r := [.ref h6.length]) rfl rfl rfl rfl rfl (kh_init z (d + 7) h6 l12_10) (fun v10 h10 hq => ?_)
        obtain ⟨rfl, rfl⟩ := hq
        obtain ⟨K10, X10, B10⟩ := mkC_CL (u := (s.I 8)) S6.1
        have C10 : CL c (mkC h6) s6 (s.I 8) h6.length 0 [] := ⟨_, _, _, _, _, B10, rfl⟩
        have S10 := KST_X S6 K10 X10
        obtain ⟨x10, ex10⟩ : ∃ q : Nat, q = h6.length := ⟨_, rfl⟩
        have Ta7_10 := TM_kx T7 X10
        have Ta8_10 := TM_kx T8 X10
        have Ta9_10 := TM_kx T9 X10
        obtain ⟨hM10, eM10⟩ : ∃ q : xx_H, q = mkC h6 := ⟨_, rfl⟩
        have hx10 : hp.length ≤ x10 := by rw [ex10]; exact KST_len S6
        rw [← ex10] at C10
        rw [← eM10, ← ex10]
        obtain ⟨mC10, wC10, cC10⟩ := CL_cell C10
        rw [← eM10] at S10 C10 cC10 Ta7_10 Ta8_10 Ta9_10
        clear B10 K10 X10
        show xx_go (xt_P z) (d + 8) 293 102 [some (.ref (c + 30)), some (.int (iI o)), some (.int (iI 28)), some (.int (iI 3)), some (.ref a7), some (.ref a8), some (.ref a9), none] [.ref x10] hM10 _
        refine go_a (pc' := 104) (ls' := [some (.ref (c + 30)), some (.int (iI o)), some (.int (iI 28)), some (.int (iI 3)), some (.ref a7), some (.ref a8), some (.ref a9), some (.ref x10)]) (st' := []) rfl rfl ?_
        refine go_a (pc' := 105) (ls' := [some (.ref (c + 30)), some (.int (iI o)), some (.int (iI 28)), some (.int (iI 3)), some (.ref a7), some (.ref a8), some (.ref a9), some (.ref x10)]) (st' := [.int (iI 28)]) rfl rfl ?_
        refine go_a (pc' := 299) (ls' := [some (.ref (c + 30)), some (.int (iI o)), some (.int (iI 28)), some (.int (iI 3)), some (.ref a7), some (.ref a8), some (.ref a9), some (.ref x10)]) (st' := []) rfl rfl ?_
        refine go_a (pc' := 301) (ls' := [some (.ref (c + 30)), some (.int (iI o)), some (.int (iI 28)), some (.int (iI 3)), some (.ref a7), some (.ref a8), some (.ref a9), some (.ref x10)]) (st' := [.ref x10]) rfl rfl ?_
        refine go_a (pc' := 302) (ls' := [some (.ref (c + 30)), some (.int (iI o)), some (.int (iI 28)), some (.int (iI 3)), some (.ref a7), some (.ref a8), some (.ref a9), some (.ref x10)]) (st' := [.ref (c + 30), .ref x10]) rfl rfl ?_
        refine go_get (v := .ref (c + 25)) rfl (S10.1.1 19 (by decide)) rfl rfl ?_
        refine go_a (pc' := 307) (ls' := [some (.ref (c + 30)), some (.int (iI o)), some (.int (iI 28)), some (.int (iI 3)), some (.ref a7), some (.ref a8), some (.ref a9), some (.ref x10)]) (st' := [.ref a7, .ref (c + 25), .ref x10]) rfl rfl ?_
        have Om11 := OTR_nt (KNT_ST (KST_KNT hP S10) S10.2.2.1 S10.2.1).2 (KST_KNT hP S10).2.2.2.2 Oa7
        refine go_v (m := 273) (as := [.ref (c + 25), .ref a7]) (r := [.ref x10]) rfl rfl rfl (S10.1.1 16 (by decide)) rfl rfl (kq_mkn z (d + 3) S10.1 S10.2.1 (by omega) (MTM_T Ta7_10)) (fun v11 h11 hq => ?_)
        obtain ⟨w11, s11, rfl, E11, M11⟩ := hq
        have S11 := KST_STE S10 E11
        have e11 := (STE_8 E11).trans e6
        have Ta7_11 := TM_kx Ta7_10 E11.2.2.2
        have Ta8_11 := TM_kx Ta8_10 E11.2.2.2
        have Ta9_11 := TM_kx Ta9_10 E11.2.2.2
        have Cx10_11 := CL_kx C10 E11.2.2.2
        obtain ⟨mCx10_11, wCx10_11, cCx10_11⟩ := CL_cell Cx10_11
        have J11 := STE_17 E11 J6
        have Oa7_11 := STE_OTR E11 Oa7
        have Oa8_11 := STE_OTR E11 Oa8
        have Oa9_11 := STE_OTR E11 Oa9
        have Ow11_11 := STE_OTR E11 Om11
        show xx_go (xt_P z) (d + 8) 293 310 [some (.ref (c + 30)), some (.int (iI o)), some (.int (iI 28)), some (.int (iI 3)), some (.ref a7), some (.ref a8), some (.ref a9), some (.ref x10)] [w11, .ref x10] h11 _
        refine go_v (m := 261) (as := [.ref x10, w11]) (r := []) rfl rfl rfl cCx10_11 rfl rfl (kq_addC z (d + 5) Cx10_11 M11) (fun v12 h12 hq => ?_)
        obtain ⟨rfl, F12, b12, Z12, q12, C12⟩ := hq
        have hz12 := q12
        have S12 := KST_fe S11 Cx10_11 hx10 F12
        have Ta7_12 := TM_fe Cx10_11 F12 Ta7_11
        have Ta8_12 := TM_fe Cx10_11 F12 Ta8_11
        have Ta9_12 := TM_fe Cx10_11 F12 Ta9_11
        have Mw11_12 := MTM_fe Cx10_11 F12 M11
        obtain ⟨mC12, wC12, cC12⟩ := CL_cell C12
        show xx_go (xt_P z) (d + 8) 293 313 [some (.ref (c + 30)), some (.int (iI o)), some (.int (iI 28)), some (.int (iI 3)), some (.ref a7), some (.ref a8), some (.ref a9), some (.ref x10)] [] h12 _
        refine go_a (pc' := 315) (ls' := [some (.ref (c + 30)), some (.int (iI o)), some (.int (iI 28)), some (.int (iI 3)), some (.ref a7), some (.ref a8), some (.ref a9), some (.ref x10)]) (st' := [.ref x10]) rfl rfl ?_
        refine go_a (pc' := 316) (ls' := [some (.ref (c + 30)), some (.int (iI o)), some (.int (iI 28)), some (.int (iI 3)), some (.ref a7), some (.ref a8), some (.ref a9), some (.ref x10)]) (st' := [.ref (c + 30), .ref x10]) rfl rfl ?_
        refine go_get (v := .ref (c + 25)) rfl (S12.1.1 19 (by decide)) rfl rfl ?_
        refine go_a (pc' := 320) (ls' := [some (.ref (c + 30)), some (.int (iI o)), some (.int (iI 28)), some (.int (iI 3)), some (.ref a7), some (.ref a8), some (.ref a9), some (.ref x10)]) (st' := [.int (iI 4), .ref (c + 25), .ref x10]) rfl rfl ?_
        refine go_a (pc' := 321) (ls' := [some (.ref (c + 30)), some (.int (iI o)), some (.int (iI 28)), some (.int (iI 3)), some (.ref a7), some (.ref a8), some (.ref a9), some (.ref x10)]) (st' := [.ref (c + 30), .int (iI 4), .ref (c + 25), .ref x10]) rfl rfl ?_
        refine go_get (v := .ref (c + 25)) rfl (S12.1.1 19 (by decide)) rfl rfl ?_
        refine go_a (pc' := 325) (ls' := [some (.ref (c + 30)), some (.int (iI o)), some (.int (iI 28)), some (.int (iI 3)), some (.ref a7), some (.ref a8), some (.ref a9), some (.ref x10)]) (st' := [.int (iI 3), .ref (c + 25), .int (iI 4), .ref (c + 25), .ref x10]) rfl rfl ?_
        refine go_a (pc' := 327) (ls' := [some (.ref (c + 30)), some (.int (iI o)), some (.int (iI 28)), some (.int (iI 3)), some (.ref a7), some (.ref a8), some (.ref a9), some (.ref x10)]) (st' := [.ref a7, .int (iI 3), .ref (c + 25), .int (iI 4), .ref (c + 25), .ref x10]) rfl rfl ?_
        refine go_a (pc' := 329) (ls' := [some (.ref (c + 30)), some (.int (iI o)), some (.int (iI 28)), some (.int (iI 3)), some (.ref a7), some (.ref a8), some (.ref a9), some (.ref x10)]) (st' := [.ref a8, .ref a7, .int (iI 3), .ref (c + 25), .int (iI 4), .ref (c + 25), .ref x10]) rfl rfl ?_
        refine go_a (pc' := 331) (ls' := [some (.ref (c + 30)), some (.int (iI o)), some (.int (iI 28)), some (.int (iI 3)), some (.ref a7), some (.ref a8), some (.ref a9), some (.ref x10)]) (st' := [.ref a9, .ref a8, .ref a7, .int (iI 3), .ref (c + 25), .int (iI 4), .ref (c + 25), .ref x10]) rfl rfl ?_
        have Om13 := OTQ_3 (v := 429) (show sp_isq (.var 429) = false by decide) fB.1 (by decide) (by decide) (OTQ_t Oa7_11 (by rw [rl_len]; have := TM_n Ta7_12; omega)) (OTQ_t Oa8_11 (by rw [rl_len]; have := TM_n Ta8_12; omega)) (OTQ_t Oa9_11 (by rw [rl_len]; have := TM_n Ta9_12; omega))
        refine go_v (m := 295) (as := [.ref (c + 25), .int (iI 3), .ref a7, .ref a8, .ref a9]) (r := [.int (iI 4), .ref (c + 25), .ref x10]) rfl rfl rfl (S12.1.1 16 (by decide)) rfl rfl (kq_mk3 z (d + 4) (t := 3) S12.1 S12.2.1 (by decide) (by decide) (MTM_T Ta7_12) (MTM_T Ta8_12) (MTM_T Ta9_12) (TVx_k (n := 3) u38 lu (by decide) (by decide) (by decide) (by decide) (by decide) (by decide))) (fun v13 h13 hq => ?_)
        obtain ⟨w13, s13, rfl, E13, M13⟩ := hq
        have S13 := KST_STE S12 E13
        have e13 := (STE_8 E13).trans e11
        have Ta7_13 := TM_kx Ta7_12 E13.2.2.2
        have Ta8_13 := TM_kx Ta8_12 E13.2.2.2
        have Ta9_13 := TM_kx Ta9_12 E13.2.2.2
        have Mw11_13 := MTM_kx Mw11_12 E13.2.2.2
        have Cx10_13 := CL_kx C12 E13.2.2.2
        obtain ⟨mCx10_13, wCx10_13, cCx10_13⟩ := CL_cell Cx10_13
        have J13 := STE_17 E13 J11
        have Oa7_13 := STE_OTR E13 Oa7_11
        have Oa8_13 := STE_OTR E13 Oa8_11
        have Oa9_13 := STE_OTR E13 Oa9_11
        have Ow11_13 := STE_OTR E13 Ow11_11
        have Oi1_13 := STE_OTR E13 Ow11_11
        have Ow13_13 := STE_OTR E13 Om13
        show xx_go (xt_P z) (d + 8) 293 334 [some (.ref (c + 30)), some (.int (iI o)), some (.int (iI 28)), some (.int (iI 3)), some (.ref a7), some (.ref a8), some (.ref a9), some (.ref x10)] [w13, .int (iI 4), .ref (c + 25), .ref x10] h13 _
        refine go_a (pc' := 336) (ls' := [some (.ref (c + 30)), some (.int (iI o)), some (.int (iI 28)), some (.int (iI 3)), some (.ref a7), some (.ref a8), some (.ref a9), some (.ref x10)]) (st' := [.ref a8, w13, .int (iI 4), .ref (c + 25), .ref x10]) rfl rfl ?_
        have Om14 := OTQ_2 (v := 26209844) (show sp_isq (.var 26209844) = false by decide) fB.2.1 (by decide) (by decide) Ow13_13 (OTQ_t Oa8_13 (by rw [rl_len]; have := TM_n Ta8_13; omega))
        refine go_v (m := 259) (as := [.ref (c + 25), .int (iI 4), w13, .ref a8]) (r := [.ref x10]) rfl rfl rfl (S13.1.1 16 (by decide)) rfl rfl (kq_mk2 z (d + 4) (t := 4) S13.1 S13.2.1 (by decide) (by decide) M13 (MTM_T Ta8_13) (TVx_k (n := 2) u38 lu (by decide) (by decide) (by decide) (by decide) (by decide) (by decide))) (fun v14 h14 hq => ?_)
        obtain ⟨w14, s14, rfl, E14, M14⟩ := hq
        have S14 := KST_STE S13 E14
        have e14 := (STE_8 E14).trans e13
        have Ta7_14 := TM_kx Ta7_13 E14.2.2.2
        have Ta8_14 := TM_kx Ta8_13 E14.2.2.2
        have Ta9_14 := TM_kx Ta9_13 E14.2.2.2
        have Mw11_14 := MTM_kx Mw11_13 E14.2.2.2
        have Mw13_14 := MTM_kx M13 E14.2.2.2
        have Cx10_14 := CL_kx Cx10_13 E14.2.2.2
        obtain ⟨mCx10_14, wCx10_14, cCx10_14⟩ := CL_cell Cx10_14
        have J14 := STE_17 E14 J13
        have Oa7_14 := STE_OTR E14 Oa7_13
        have Oa8_14 := STE_OTR E14 Oa8_13
        have Oa9_14 := STE_OTR E14 Oa9_13
        have Ow11_14 := STE_OTR E14 Ow11_13
        have Oi1_14 := STE_OTR E14 Oi1_13
        have Ow13_14 := STE_OTR E14 Ow13_13
        have Ow14_14 := STE_OTR E14 Om14
        show xx_go (xt_P z) (d + 8) 293 339 [some (.ref (c + 30)), some (.int (iI o)), some (.int (iI 28)), some (.int (iI 3)), some (.ref a7), some (.ref a8), some (.ref a9), some (.ref x10)] [w14, .ref x10] h14 _
        refine go_v (m := 261) (as := [.ref x10, w14]) (r := []) rfl rfl rfl cCx10_14 rfl rfl (kq_addC z (d + 5) Cx10_14 M14) (fun v15 h15 hq => ?_)
        obtain ⟨rfl, F15, b15, Z15, q15, C15⟩ := hq
        have hz15 := q15.trans (congrArg (fun X => clO X _) hz12)
        have S15 := KST_fe S14 Cx10_14 hx10 F15
        have Ta7_15 := TM_fe Cx10_14 F15 Ta7_14
        have Ta8_15 := TM_fe Cx10_14 F15 Ta8_14
        have Ta9_15 := TM_fe Cx10_14 F15 Ta9_14
        have Mw11_15 := MTM_fe Cx10_14 F15 Mw11_14
        have Mw13_15 := MTM_fe Cx10_14 F15 Mw13_14
        have Mw14_15 := MTM_fe Cx10_14 F15 M14
        obtain ⟨mC15, wC15, cC15⟩ := CL_cell C15
        show xx_go (xt_P z) (d + 8) 293 342 [some (.ref (c + 30)), some (.int (iI o)), some (.int (iI 28)), some (.int (iI 3)), some (.ref a7), some (.ref a8), some (.ref a9), some (.ref x10)] [] h15 _
        refine go_a (pc' := 381) (ls' := [some (.ref (c + 30)), some (.int (iI o)), some (.int (iI 28)), some (.int (iI 3)), some (.ref a7), some (.ref a8), some (.ref a9), some (.ref x10)]) (st' := []) rfl rfl ?_
        refine go_a (pc' := 382) (ls' := [some (.ref (c + 30)), some (.int (iI o)), some (.int (iI 28)), some (.int (iI 3)), some (.ref a7), some (.ref a8), some (.ref a9), some (.ref x10)]) (st' := [.ref (c + 30)]) rfl rfl ?_
        refine go_a (pc' := 384) (ls' := [some (.ref (c + 30)), some (.int (iI o)), some (.int (iI 28)), some (.int (iI 3)), some (.ref a7), some (.ref a8), some (.ref a9), some (.ref x10)]) (st' := [.ref x10, .ref (c + 30)]) rfl rfl ?_
        refine go_v (m := 265) (as := [.ref (c + 30), .ref x10]) (r := []) rfl rfl rfl (S15.1.1 19 (by decide)) rfl rfl (kq_fin z (d + 6) (w := WD (SD s) o) (ρ := (sp_cs2 ((sp_tm NM.2.2.1 (sp_p 1 (DK s.N o))).bind (fun l => (sp_tm NM.2.2.1 (sp_p 2 (DK s.N o))).bind (fun m => (sp_tm NM.2.2.1 (sp_p 3 (DK s.N o))).bind (fun n => sp_cz (sp_ax 55479 l m n))))) (s.I 17))) (σ := (s.I 17)) hP S15 C15 (ITR_one Oi1_14 (ITR_one Ow14_14 ITR_nil)) hz15 (by rw [et7, et8, et9, J14]; rfl) J14 e14 hx10 (by omega) (by omega) (by omega)) (fun v16 h16 hq => ?_)
        rcases hq with ⟨rfl, R16⟩ | ⟨r16, rfl, R16⟩
        · exact go_r rfl rfl rfl rfl rfl rfl R16
        · exact go_r rfl rfl rfl rfl rfl rfl R16
theorem kq_axiom_29 (z : Value) (d c : Nat) (o : Int) (q : Nat) (hp : xx_H) (s : KS) (NM : BKM) (hP : KPS c hp s NM) (ho : OB s o) (hL : isL (SD s) q o) (r2 : pi s 0 o ≠ 2) (w9 : WD (SD s) o ≤ 1000) (l25 : s.I 8 + WD (SD s) o ≤ 25000) (hq : q = 4) : xx_cl (xt_P z) (d + 9) 293 [.ref (c + 30), .int (iI o), .int (iI 29), .int (iI 3)] hp (fun v h1 => PRP c hp s (WD (SD s) o) NM.2.2.1 (sp_cs2 ((sp_tm NM.2.2.1 (sp_p 1 (DK s.N o))).bind (fun l => (sp_tm NM.2.2.1 (sp_p 2 (DK s.N o))).bind (fun m => (sp_tm NM.2.2.1 (sp_p 3 (DK s.N o))).bind (fun n => sp_cz (sp_ax 673 l m n))))) (s.I 17)) (s.I 17) v h1) := by
  have S0 := KST_rf hP
  have e0 : s.I 8 = s.I 8 := rfl
  have lu : s.I 8 ≤ 25000 := hP.2.2.2.2.2.2.2.1
  have u38 := KB_38 hP.2.1
  have J0 : s.I 17 = s.I 17 := rfl
  have fB := KNT_FTB hP.2.2.2.2.2.2.2.2
  have oR := OB_R hP.2.1 ho
  have W := PI_W hP.2.2.1 ho hL (by omega) r2
  have p0 : VD (SD s) (rt (SD s) 0 o) = WD (SD s) (pi s 0 o) + VD (SD s) (rt (SD s) 1 o) ∧ OB s (pi s 0 o) ∧ 1 ≤ WD (SD s) (pi s 0 o) ∧ 0 ≤ VD (SD s) (rt (SD s) 1 o) := PI_w hP.2.2.1 ho hL (j := 0) (by omega)
  have p1 : VD (SD s) (rt (SD s) 1 o) = WD (SD s) (pi s 1 o) + VD (SD s) (rt (SD s) 2 o) ∧ OB s (pi s 1 o) ∧ 1 ≤ WD (SD s) (pi s 1 o) ∧ 0 ≤ VD (SD s) (rt (SD s) 2 o) := PI_w hP.2.2.1 ho hL (j := 1) (by omega)
  have p2 : VD (SD s) (rt (SD s) 2 o) = WD (SD s) (pi s 2 o) + VD (SD s) (rt (SD s) 3 o) ∧ OB s (pi s 2 o) ∧ 1 ≤ WD (SD s) (pi s 2 o) ∧ 0 ≤ VD (SD s) (rt (SD s) 3 o) := PI_w hP.2.2.1 ho hL (j := 2) (by omega)
  have p3 : VD (SD s) (rt (SD s) 3 o) = WD (SD s) (pi s 3 o) + VD (SD s) (rt (SD s) 4 o) ∧ OB s (pi s 3 o) ∧ 1 ≤ WD (SD s) (pi s 3 o) ∧ 0 ≤ VD (SD s) (rt (SD s) 4 o) := PI_w hP.2.2.1 ho hL (j := 3) (by omega)
  obtain ⟨p0, o0, i0, j0⟩ := p0
  obtain ⟨p1, o1, i1, j1⟩ := p1
  obtain ⟨p2, o2, i2, j2⟩ := p2
  obtain ⟨p3, o3, i3, j3⟩ := p3
  refine cl_go rfl ?_
  show xx_go (xt_P z) (d + 8) 293 0 [some (.ref (c + 30)), some (.int (iI o)), some (.int (iI 29)), some (.int (iI 3)), none, none, none, none] [] hp _
  refine go_a (pc' := 1) (ls' := [some (.ref (c + 30)), some (.int (iI o)), some (.int (iI 29)), some (.int (iI 3)), none, none, none, none]) (st' := [.ref (c + 30)]) rfl rfl ?_
  refine go_get (v := .ref (c + 25)) rfl (S0.1.1 19 (by decide)) rfl rfl ?_
  refine go_a (pc' := 5) (ls' := [some (.ref (c + 30)), some (.int (iI o)), some (.int (iI 29)), some (.int (iI 3)), none, none, none, none]) (st' := [.ref (c + 30), .ref (c + 25)]) rfl rfl ?_
  refine go_get (v := .ref (c + 4)) rfl (S0.1.1 19 (by decide)) rfl rfl ?_
  refine go_a (pc' := 9) (ls' := [some (.ref (c + 30)), some (.int (iI o)), some (.int (iI 29)), some (.int (iI 3)), none, none, none, none]) (st' := [.int (iI o), .ref (c + 4), .ref (c + 25)]) rfl rfl ?_
  refine go_a (pc' := 10) (ls' := [some (.ref (c + 30)), some (.int (iI o)), some (.int (iI 29)), some (.int (iI 3)), none, none, none, none]) (st' := [.int (iI 1), .int (iI o), .ref (c + 4), .ref (c + 25)]) rfl rfl ?_
  refine go_v (m := 202) (as := [.ref (c + 4), .int (iI o), .int (iI 1)]) (r := [.ref (c + 25)]) rfl rfl rfl (S0.1.1 3 (by decide)) rfl rfl (kq_part z (d + 6) S0 hP.2.2.1 ho hL (by omega) (by omega) (by omega)) (fun v1 h1 hq => ?_)
  obtain ⟨rfl, eq1⟩ := hq
  rw [eq1]
  clear eq1 h1
  show xx_go (xt_P z) (d + 8) 293 13 [some (.ref (c + 30)), some (.int (iI o)), some (.int (iI 29)), some (.int (iI 3)), none, none, none, none] [.int (iI (pi s 1 o)), .ref (c + 25)] hp _
  refine go_v (m := 211) (as := [.ref (c + 25), .int (iI (pi s 1 o))]) (r := []) rfl rfl rfl (S0.1.1 16 (by decide)) rfl rfl (kq_readM z (d + 1) hP S0 e0 lu o1 (by omega)) (fun v2 h2 hq => ?_)
  obtain ⟨w2, s2, rfl, E2, R2, M2, Or2⟩ := hq
  rw [PI_D hP ho hL (j := 1) (by omega)] at Or2
  have S2 := KST_STE S0 E2
  have e2 := (STE_8 E2).trans e0
  have J2 := STE_17 E2 J0
  show xx_go (xt_P z) (d + 8) 293 16 [some (.ref (c + 30)), some (.int (iI o)), some (.int (iI 29)), some (.int (iI 3)), none, none, none, none] [w2] h2 _
  refine go_a (pc' := 18) (ls' := [some (.ref (c + 30)), some (.int (iI o)), some (.int (iI 29)), some (.int (iI 3)), some (w2), none, none, none]) (st' := []) rfl (by rcases MTM_r M2 with rfl | ⟨_, rfl⟩ <;> rfl) ?_
  refine go_a (pc' := 19) (ls' := [some (.ref (c + 30)), some (.int (iI o)), some (.int (iI 29)), some (.int (iI 3)), some (w2), none, none, none]) (st' := [.int (iI 3)]) rfl rfl ?_
  refine go_a (pc' := 20) (ls' := [some (.ref (c + 30)), some (.int (iI o)), some (.int (iI 29)), some (.int (iI 3)), some (w2), none, none, none]) (st' := [.int (iI 1), .int (iI 3)]) rfl rfl ?_
  refine mi_le (t := 42) rfl rfl (by omega) (by omega) (by omega) (by omega) (fun q => absurd q (by decide)) (fun _ => ?_)
  refine go_a (pc' := 24) (ls' := [some (.ref (c + 30)), some (.int (iI o)), some (.int (iI 29)), some (.int (iI 3)), some (w2), none, none, none]) (st' := [.ref (c + 30)]) rfl rfl ?_
  refine go_get (v := .ref (c + 25)) rfl (S2.1.1 19 (by decide)) rfl rfl ?_
  refine go_a (pc' := 28) (ls' := [some (.ref (c + 30)), some (.int (iI o)), some (.int (iI 29)), some (.int (iI 3)), some (w2), none, none, none]) (st' := [.ref (c + 30), .ref (c + 25)]) rfl rfl ?_
  refine go_get (v := .ref (c + 4)) rfl (S2.1.1 19 (by decide)) rfl rfl ?_
  refine go_a (pc' := 32) (ls' := [some (.ref (c + 30)), some (.int (iI o)), some (.int (iI 29)), some (.int (iI 3)), some (w2), none, none, none]) (st' := [.int (iI o), .ref (c + 4), .ref (c + 25)]) rfl rfl ?_
  refine go_a (pc' := 33) (ls' := [some (.ref (c + 30)), some (.int (iI o)), some (.int (iI 29)), some (.int (iI 3)), some (w2), none, none, none]) (st' := [.int (iI 2), .int (iI o), .ref (c + 4), .ref (c + 25)]) rfl rfl ?_
  refine go_v (m := 202) (as := [.ref (c + 4), .int (iI o), .int (iI 2)]) (r := [.ref (c + 25)]) rfl rfl rfl (S2.1.1 3 (by decide)) rfl rfl (kq_part z (d + 6) S2 hP.2.2.1 ho hL (by omega) (by omega) (by omega)) (fun v3 h3 hq => ?_)
  obtain ⟨rfl, eq3⟩ := hq
  rw [eq3]
  clear eq3 h3
  show xx_go (xt_P z) (d + 8) 293 36 [some (.ref (c + 30)), some (.int (iI o)), some (.int (iI 29)), some (.int (iI 3)), some (w2), none, none, none] [.int (iI (pi s 2 o)), .ref (c + 25)] h2 _
  refine go_v (m := 211) (as := [.ref (c + 25), .int (iI (pi s 2 o))]) (r := []) rfl rfl rfl (S2.1.1 16 (by decide)) rfl rfl (kq_readM z (d + 1) hP S2 e2 lu o2 (by omega)) (fun v4 h4 hq => ?_)
  obtain ⟨w4, s4, rfl, E4, R4, M4, Or4⟩ := hq
  rw [PI_D hP ho hL (j := 2) (by omega)] at Or4
  have S4 := KST_STE S2 E4
  have e4 := (STE_8 E4).trans e2
  have Mw2_4 := MTM_kx M2 E4.2.2.2
  have J4 := STE_17 E4 J2
  have Ow2_4 := STE_OTR E4 Or2
  show xx_go (xt_P z) (d + 8) 293 39 [some (.ref (c + 30)), some (.int (iI o)), some (.int (iI 29)), some (.int (iI 3)), some (w2), none, none, none] [w4] h4 _
  refine go_a (pc' := 44) (ls' := [some (.ref (c + 30)), some (.int (iI o)), some (.int (iI 29)), some (.int (iI 3)), some (w2), none, none, none]) (st' := [w4]) rfl rfl ?_
  refine go_a (pc' := 46) (ls' := [some (.ref (c + 30)), some (.int (iI o)), some (.int (iI 29)), some (.int (iI 3)), some (w2), some (w4), none, none]) (st' := []) rfl (by rcases MTM_r M4 with rfl | ⟨_, rfl⟩ <;> rcases MTM_r Mw2_4 with rfl | ⟨_, rfl⟩ <;> rfl) ?_
  refine go_a (pc' := 47) (ls' := [some (.ref (c + 30)), some (.int (iI o)), some (.int (iI 29)), some (.int (iI 3)), some (w2), some (w4), none, none]) (st' := [.int (iI 3)]) rfl rfl ?_
  refine go_a (pc' := 48) (ls' := [some (.ref (c + 30)), some (.int (iI o)), some (.int (iI 29)), some (.int (iI 3)), some (w2), some (w4), none, none]) (st' := [.int (iI 2), .int (iI 3)]) rfl rfl ?_
  refine mi_le (t := 70) rfl rfl (by omega) (by omega) (by omega) (by omega) (fun q => absurd q (by decide)) (fun _ => ?_)
  refine go_a (pc' := 52) (ls' := [some (.ref (c + 30)), some (.int (iI o)), some (.int (iI 29)), some (.int (iI 3)), some (w2), some (w4), none, none]) (st' := [.ref (c + 30)]) rfl rfl ?_
  refine go_get (v := .ref (c + 25)) rfl (S4.1.1 19 (by decide)) rfl rfl ?_
  refine go_a (pc' := 56) (ls' := [some (.ref (c + 30)), some (.int (iI o)), some (.int (iI 29)), some (.int (iI 3)), some (w2), some (w4), none, none]) (st' := [.ref (c + 30), .ref (c + 25)]) rfl rfl ?_
  refine go_get (v := .ref (c + 4)) rfl (S4.1.1 19 (by decide)) rfl rfl ?_
  refine go_a (pc' := 60) (ls' := [some (.ref (c + 30)), some (.int (iI o)), some (.int (iI 29)), some (.int (iI 3)), some (w2), some (w4), none, none]) (st' := [.int (iI o), .ref (c + 4), .ref (c + 25)]) rfl rfl ?_
  refine go_a (pc' := 61) (ls' := [some (.ref (c + 30)), some (.int (iI o)), some (.int (iI 29)), some (.int (iI 3)), some (w2), some (w4), none, none]) (st' := [.int (iI 3), .int (iI o), .ref (c + 4), .ref (c + 25)]) rfl rfl ?_
  refine go_v (m := 202) (as := [.ref (c + 4), .int (iI o), .int (iI 3)]) (r := [.ref (c + 25)]) rfl rfl rfl (S4.1.1 3 (by decide)) rfl rfl (kq_part z (d + 6) S4 hP.2.2.1 ho hL (by omega) (by omega) (by omega)) (fun v5 h5 hq => ?_)
  obtain ⟨rfl, eq5⟩ := hq
  rw [eq5]
  clear eq5 h5
  show xx_go (xt_P z) (d + 8) 293 64 [some (.ref (c + 30)), some (.int (iI o)), some (.int (iI 29)), some (.int (iI 3)), some (w2), some (w4), none, none] [.int (iI (pi s 3 o)), .ref (c + 25)] h4 _
  refine go_v (m := 211) (as := [.ref (c + 25), .int (iI (pi s 3 o))]) (r := []) rfl rfl rfl (S4.1.1 16 (by decide)) rfl rfl (kq_readM z (d + 1) hP S4 e4 lu o3 (by omega)) (fun v6 h6 hq => ?_)
  obtain ⟨w6, s6, rfl, E6, R6, M6, Or6⟩ := hq
  rw [PI_D hP ho hL (j := 3) (by omega)] at Or6
  have S6 := KST_STE S4 E6
  have e6 := (STE_8 E6).trans e4
  have Mw2_6 := MTM_kx Mw2_4 E6.2.2.2
  have Mw4_6 := MTM_kx M4 E6.2.2.2
  have J6 := STE_17 E6 J4
  have Ow2_6 := STE_OTR E6 Ow2_4
  have Ow4_6 := STE_OTR E6 Or4
  show xx_go (xt_P z) (d + 8) 293 67 [some (.ref (c + 30)), some (.int (iI o)), some (.int (iI 29)), some (.int (iI 3)), some (w2), some (w4), none, none] [w6] h6 _
  refine go_a (pc' := 72) (ls' := [some (.ref (c + 30)), some (.int (iI o)), some (.int (iI 29)), some (.int (iI 3)), some (w2), some (w4), none, none]) (st' := [w6]) rfl rfl ?_
  refine go_a (pc' := 74) (ls' := [some (.ref (c + 30)), some (.int (iI o)), some (.int (iI 29)), some (.int (iI 3)), some (w2), some (w4), some (w6), none]) (st' := []) rfl (by rcases MTM_r M6 with rfl | ⟨_, rfl⟩ <;> rcases MTM_r Mw4_6 with rfl | ⟨_, rfl⟩ <;> rfl) ?_
  refine go_a (pc' := 76) (ls' := [some (.ref (c + 30)), some (.int (iI o)), some (.int (iI 29)), some (.int (iI 3)), some (w2), some (w4), some (w6), none]) (st' := [w2]) rfl (by rcases MTM_r Mw2_6 with rfl | ⟨_, rfl⟩ <;> rfl) ?_
  rcases Mw2_6 with ⟨rfl, rfl⟩ | ⟨a7, n7, f7, rfl, T7, rfl⟩
  · have nu7 := OTR_nn Ow2_6
    show xx_go (xt_P z) (d + 8) 293 76 [some (.ref (c + 30)), some (.int (iI o)), some (.int (iI 29)), some (.int (iI 3)), some (.null), some (w4), some (w6), none] [.null] h6 _
    refine go_a (pc' := 89) (ls' := [some (.ref (c + 30)), some (.int (iI o)), some (.int (iI 29)), some (.int (iI 3)), some (.null), some (w4), some (w6), none]) (st' := []) rfl rfl ?_
    refine go_a (pc' := 90) (ls' := [some (.ref (c + 30)), some (.int (iI o)), some (.int (iI 29)), some (.int (iI 3)), some (.null), some (w4), some (w6), none]) (st' := [.ref (c + 30)]) rfl rfl ?_
    refine go_a (pc' := 91) (ls' := [some (.ref (c + 30)), some (.int (iI o)), some (.int (iI 29)), some (.int (iI 3)), some (.null), some (w4), some (w6), none]) (st' := [.int (iI o), .ref (c + 30)]) rfl rfl ?_
    refine go_v (m := 248) (as := [.ref (c + 30), .int (iI o)]) (r := []) rfl rfl rfl (S6.1.1 19 (by decide)) rfl rfl (kq_failAtP z (d + 7) (w := WD (SD s) o) S6 (by omega) (by omega) (by omega) (by omega) (by omega) (ft := NM.2.2.1) (ρ := (sp_cs2 ((sp_tm NM.2.2.1 (sp_p 1 (DK s.N o))).bind (fun l => (sp_tm NM.2.2.1 (sp_p 2 (DK s.N o))).bind (fun m => (sp_tm NM.2.2.1 (sp_p 3 (DK s.N o))).bind (fun n => sp_cz (sp_ax 673 l m n))))) (s.I 17))) (σ := (s.I 17)) (by rw [nu7]; rfl) J6) (fun v8 h8 hq => ?_)
    obtain ⟨rfl, R8⟩ := hq
    show xx_go (xt_P z) (d + 8) 293 94 [some (.ref (c + 30)), some (.int (iI o)), some (.int (iI 29)), some (.int (iI 3)), some (.null), some (w4), some (w6), none] [.null] h8 _
    exact go_r rfl rfl rfl rfl rfl rfl R8
  · obtain ⟨t7, et7, Ot7⟩ := OTR_ss Ow2_6
    have Oa7 : OTR s6.N (s6.I 8) NM.2.2.1 (some (rl n7 f7)) (some t7) := Ot7
    show xx_go (xt_P z) (d + 8) 293 76 [some (.ref (c + 30)), some (.int (iI o)), some (.int (iI 29)), some (.int (iI 3)), some (.ref a7), some (w4), some (w6), none] [.ref a7] h6 _
    refine go_a (pc' := 79) (ls' := [some (.ref (c + 30)), some (.int (iI o)), some (.int (iI 29)), some (.int (iI 3)), some (.ref a7), some (w4), some (w6), none]) (st' := []) rfl rfl ?_
    refine go_a (pc' := 81) (ls' := [some (.ref (c + 30)), some (.int (iI o)), some (.int (iI 29)), some (.int (iI 3)), some (.ref a7), some (w4), some (w6), none]) (st' := [w4]) rfl (by rcases MTM_r Mw4_6 with rfl | ⟨_, rfl⟩ <;> rfl) ?_
    rcases Mw4_6 with ⟨rfl, rfl⟩ | ⟨a8, n8, f8, rfl, T8, rfl⟩
    · have nu8 := OTR_nn Ow4_6
      show xx_go (xt_P z) (d + 8) 293 81 [some (.ref (c + 30)), some (.int (iI o)), some (.int (iI 29)), some (.int (iI 3)), some (.ref a7), some (.null), some (w6), none] [.null] h6 _
      refine go_a (pc' := 89) (ls' := [some (.ref (c + 30)), some (.int (iI o)), some (.int (iI 29)), some (.int (iI 3)), some (.ref a7), some (.null), some (w6), none]) (st' := []) rfl rfl ?_
      refine go_a (pc' := 90) (ls' := [some (.ref (c + 30)), some (.int (iI o)), some (.int (iI 29)), some (.int (iI 3)), some (.ref a7), some (.null), some (w6), none]) (st' := [.ref (c + 30)]) rfl rfl ?_
      refine go_a (pc' := 91) (ls' := [some (.ref (c + 30)), some (.int (iI o)), some (.int (iI 29)), some (.int (iI 3)), some (.ref a7), some (.null), some (w6), none]) (st' := [.int (iI o), .ref (c + 30)]) rfl rfl ?_
      refine go_v (m := 248) (as := [.ref (c + 30), .int (iI o)]) (r := []) rfl rfl rfl (S6.1.1 19 (by decide)) rfl rfl (kq_failAtP z (d + 7) (w := WD (SD s) o) S6 (by omega) (by omega) (by omega) (by omega) (by omega) (ft := NM.2.2.1) (ρ := (sp_cs2 ((sp_tm NM.2.2.1 (sp_p 1 (DK s.N o))).bind (fun l => (sp_tm NM.2.2.1 (sp_p 2 (DK s.N o))).bind (fun m => (sp_tm NM.2.2.1 (sp_p 3 (DK s.N o))).bind (fun n => sp_cz (sp_ax 673 l m n))))) (s.I 17))) (σ := (s.I 17)) (by rw [et7, nu8]; rfl) J6) (fun v9 h9 hq => ?_)
      obtain ⟨rfl, R9⟩ := hq
      show xx_go (xt_P z) (d + 8) 293 94 [some (.ref (c + 30)), some (.int (iI o)), some (.int (iI 29)), some (.int (iI 3)), some (.ref a7), some (.null), some (w6), none] [.null] h9 _
      exact go_r rfl rfl rfl rfl rfl rfl R9
    · obtain ⟨t8, et8, Ot8⟩ := OTR_ss Ow4_6
      have Oa8 : OTR s6.N (s6.I 8) NM.2.2.1 (some (rl n8 f8)) (some t8) := Ot8
      show xx_go (xt_P z) (d + 8) 293 81 [some (.ref (c + 30)), some (.int (iI o)), some (.int (iI 29)), some (.int (iI 3)), some (.ref a7), some (.ref a8), some (w6), none] [.ref a8] h6 _
      refine go_a (pc' := 84) (ls' := [some (.ref (c + 30)), some (.int (iI o)), some (.int (iI 29)), some (.int (iI 3)), some (.ref a7), some (.ref a8), some (w6), none]) (st' := []) rfl rfl ?_
      refine go_a (pc' := 86) (ls' := [some (.ref (c + 30)), some (.int (iI o)), some (.int (iI 29)), some (.int (iI 3)), some (.ref a7), some (.ref a8), some (w6), none]) (st' := [w6]) rfl (by rcases MTM_r M6 with rfl | ⟨_, rfl⟩ <;> rfl) ?_
      rcases M6 with ⟨rfl, rfl⟩ | ⟨a9, n9, f9, rfl, T9, rfl⟩
      · have nu9 := OTR_nn Or6
        show xx_go (xt_P z) (d + 8) 293 86 [some (.ref (c + 30)), some (.int (iI o)), some (.int (iI 29)), some (.int (iI 3)), some (.ref a7), some (.ref a8), some (.null), none] [.null] h6 _
        refine go_a (pc' := 89) (ls' := [some (.ref (c + 30)), some (.int (iI o)), some (.int (iI 29)), some (.int (iI 3)), some (.ref a7), some (.ref a8), some (.null), none]) (st' := []) rfl rfl ?_
        refine go_a (pc' := 90) (ls' := [some (.ref (c + 30)), some (.int (iI o)), some (.int (iI 29)), some (.int (iI 3)), some (.ref a7), some (.ref a8), some (.null), none]) (st' := [.ref (c + 30)]) rfl rfl ?_
        refine go_a (pc' := 91) (ls' := [some (.ref (c + 30)), some (.int (iI o)), some (.int (iI 29)), some (.int (iI 3)), some (.ref a7), some (.ref a8), some (.null), none]) (st' := [.int (iI o), .ref (c + 30)]) rfl rfl ?_
        refine go_v (m := 248) (as := [.ref (c + 30), .int (iI o)]) (r := []) rfl rfl rfl (S6.1.1 19 (by decide)) rfl rfl (kq_failAtP z (d + 7) (w := WD (SD s) o) S6 (by omega) (by omega) (by omega) (by omega) (by omega) (ft := NM.2.2.1) (ρ := (sp_cs2 ((sp_tm NM.2.2.1 (sp_p 1 (DK s.N o))).bind (fun l => (sp_tm NM.2.2.1 (sp_p 2 (DK s.N o))).bind (fun m => (sp_tm NM.2.2.1 (sp_p 3 (DK s.N o))).bind (fun n => sp_cz (sp_ax 673 l m n))))) (s.I 17))) (σ := (s.I 17)) (by rw [et7, et8, nu9]; rfl) J6) (fun v10 h10 hq => ?_)
        obtain ⟨rfl, R10⟩ := hq
        show xx_go (xt_P z) (d + 8) 293 94 [some (.ref (c + 30)), some (.int (iI o)), some (.int (iI 29)), some (.int (iI 3)), some (.ref a7), some (.ref a8), some (.null), none] [.null] h10 _
        exact go_r rfl rfl rfl rfl rfl rfl R10
      · obtain ⟨t9, et9, Ot9⟩ := OTR_ss Or6
        have Oa9 : OTR s6.N (s6.I 8) NM.2.2.1 (some (rl n9 f9)) (some t9) := Ot9
        show xx_go (xt_P z) (d + 8) 293 86 [some (.ref (c + 30)), some (.int (iI o)), some (.int (iI 29)), some (.int (iI 3)), some (.ref a7), some (.ref a8), some (.ref a9), none] [.ref a9] h6 _
        refine go_a (pc' := 95) (ls' := [some (.ref (c + 30)), some (.int (iI o)), some (.int (iI 29)), some (.int (iI 3)), some (.ref a7), some (.ref a8), some (.ref a9), none]) (st' := []) rfl rfl ?_
        have l12_10 : 12 ≤ h6.length := by have := ki_lt S6.1 (i := 0) (by decide); have := S6.1.2.1 0 (by decide); omega
        refine go_new (ci := 12) (fs := [.null, .int 0, .int 0, .int 0]) rfl rfl rfl ?_
        show xx_go (xt_P z) (d + 8) 293 98 [some (.ref (c + 30)), some (.int (iI o)), some (.int (iI 29)), some (.int (iI 3)), some (.ref a7), some (.ref a8), some (.ref a9), none] [.ref h6.length] (h6 ++ [.inr (12, [.null, .int 0, .int 0, .int 0])]) _
        refine go_a (pc' := 99) (ls' := [some (.ref (c + 30)), some (.int (iI o)), some (.int (iI 29)), some (.int (iI 3)), some (.ref a7), some (.ref a8), some (.ref a9), none]) (st' := [.ref h6.length, .ref h6.length]) rfl rfl ?_
        refine go_i (m := 257) (as := [.ref h6.length]) (r := [.ref h6.length]) rfl rfl rfl rfl rfl (kh_init z (d + 7) h6 l12_10) (fun v10 h10 hq => ?_)
        obtain ⟨rfl, rfl⟩ := hq
        obtain ⟨K10, X10, B10⟩ := mkC_CL (u := (s.I 8)) S6.1
        have C10 : CL c (mkC h6) s6 (s.I 8) h6.length 0 [] := ⟨_, _, _, _, _, B10, rfl⟩
        have S10 := KST_X S6 K10 X10
        obtain ⟨x10, ex10⟩ : ∃ q : Nat, q = h6.length := ⟨_, rfl⟩
        have Ta7_10 := TM_kx T7 X10
        have Ta8_10 := TM_kx T8 X10
        have Ta9_10 := TM_kx T9 X10
        obtain ⟨hM10, eM10⟩ : ∃ q : xx_H, q = mkC h6 := ⟨_, rfl⟩
        have hx10 : hp.length ≤ x10 := by rw [ex10]; exact KST_len S6
        rw [← ex10] at C10
        rw [← eM10, ← ex10]
        obtain ⟨mC10, wC10, cC10⟩ := CL_cell C10
        rw [← eM10] at S10 C10 cC10 Ta7_10 Ta8_10 Ta9_10
        clear B10 K10 X10
        show xx_go (xt_P z) (d + 8) 293 102 [some (.ref (c + 30)), some (.int (iI o)), some (.int (iI 29)), some (.int (iI 3)), some (.ref a7), some (.ref a8), some (.ref a9), none] [.ref x10] hM10 _
        refine go_a (pc' := 104) (ls' := [some (.ref (c + 30)), some (.int (iI o)), some (.int (iI 29)), some (.int (iI 3)), some (.ref a7), some (.ref a8), some (.ref a9), some (.ref x10)]) (st' := []) rfl rfl ?_
        refine go_a (pc' := 105) (ls' := [some (.ref (c + 30)), some (.int (iI o)), some (.int (iI 29)), some (.int (iI 3)), some (.ref a7), some (.ref a8), some (.ref a9), some (.ref x10)]) (st' := [.int (iI 29)]) rfl rfl ?_
        refine go_a (pc' := 345) (ls' := [some (.ref (c + 30)), some (.int (iI o)), some (.int (iI 29)), some (.int (iI 3)), some (.ref a7), some (.ref a8), some (.ref a9), some (.ref x10)]) (st' := []) rfl rfl ?_
        refine go_a (pc' := 347) (ls' := [some (.ref (c + 30)), some (.int (iI o)), some (.int (iI 29)), some (.int (iI 3)), some (.ref a7), some (.ref a8), some (.ref a9), some (.ref x10)]) (st' := [.ref x10]) rfl rfl ?_
        refine go_a (pc' := 349) (ls' := [some (.ref (c + 30)), some (.int (iI o)), some (.int (iI 29)), some (.int (iI 3)), some (.ref a7), some (.ref a8), some (.ref a9), some (.ref x10)]) (st' := [.ref a7, .ref x10]) rfl rfl ?_
        refine go_v (m := 261) (as := [.ref x10, .ref a7]) (r := []) rfl rfl rfl cC10 rfl rfl (kq_addC z (d + 5) C10 (MTM_T Ta7_10)) (fun v11 h11 hq => ?_)
        obtain ⟨rfl, F11, b11, Z11, q11, C11⟩ := hq
        have hz11 := q11
        have S11 := KST_fe S10 C10 hx10 F11
        have Ta7_11 := TM_fe C10 F11 Ta7_10
        have Ta8_11 := TM_fe C10 F11 Ta8_10
        have Ta9_11 := TM_fe C10 F11 Ta9_10
        obtain ⟨mC11, wC11, cC11⟩ := CL_cell C11
        show xx_go (xt_P z) (d + 8) 293 352 [some (.ref (c + 30)), some (.int (iI o)), some (.int (iI 29)), some (.int (iI 3)), some (.ref a7), some (.ref a8), some (.ref a9), some (.ref x10)] [] h11 _
        refine go_a (pc' := 354) (ls' := [some (.ref (c + 30)), some (.int (iI o)), some (.int (iI 29)), some (.int (iI 3)), some (.ref a7), some (.ref a8), some (.ref a9), some (.ref x10)]) (st' := [.ref x10]) rfl rfl ?_
        refine go_a (pc' := 355) (ls' := [some (.ref (c + 30)), some (.int (iI o)), some (.int (iI 29)), some (.int (iI 3)), some (.ref a7), some (.ref a8), some (.ref a9), some (.ref x10)]) (st' := [.ref (c + 30), .ref x10]) rfl rfl ?_
        refine go_get (v := .ref (c + 25)) rfl (S11.1.1 19 (by decide)) rfl rfl ?_
        refine go_a (pc' := 359) (ls' := [some (.ref (c + 30)), some (.int (iI o)), some (.int (iI 29)), some (.int (iI 3)), some (.ref a7), some (.ref a8), some (.ref a9), some (.ref x10)]) (st' := [.int (iI 4), .ref (c + 25), .ref x10]) rfl rfl ?_
        refine go_a (pc' := 360) (ls' := [some (.ref (c + 30)), some (.int (iI o)), some (.int (iI 29)), some (.int (iI 3)), some (.ref a7), some (.ref a8), some (.ref a9), some (.ref x10)]) (st' := [.ref (c + 30), .int (iI 4), .ref (c + 25), .ref x10]) rfl rfl ?_
        refine go_get (v := .ref (c + 25)) rfl (S11.1.1 19 (by decide)) rfl rfl ?_
        refine go_a (pc' := 364) (ls' := [some (.ref (c + 30)), some (.int (iI o)), some (.int (iI 29)), some (.int (iI 3)), some (.ref a7), some (.ref a8), some (.ref a9), some (.ref x10)]) (st' := [.int (iI 3), .ref (c + 25), .int (iI 4), .ref (c + 25), .ref x10]) rfl rfl ?_
        refine go_a (pc' := 366) (ls' := [some (.ref (c + 30)), some (.int (iI o)), some (.int (iI 29)), some (.int (iI 3)), some (.ref a7), some (.ref a8), some (.ref a9), some (.ref x10)]) (st' := [.ref a7, .int (iI 3), .ref (c + 25), .int (iI 4), .ref (c + 25), .ref x10]) rfl rfl ?_
        refine go_a (pc' := 368) (ls' := [some (.ref (c + 30)), some (.int (iI o)), some (.int (iI 29)), some (.int (iI 3)), some (.ref a7), some (.ref a8), some (.ref a9), some (.ref x10)]) (st' := [.ref a8, .ref a7, .int (iI 3), .ref (c + 25), .int (iI 4), .ref (c + 25), .ref x10]) rfl rfl ?_
        refine go_a (pc' := 370) (ls' := [some (.ref (c + 30)), some (.int (iI o)), some (.int (iI 29)), some (.int (iI 3)), some (.ref a7), some (.ref a8), some (.ref a9), some (.ref x10)]) (st' := [.ref a9, .ref a8, .ref a7, .int (iI 3), .ref (c + 25), .int (iI 4), .ref (c + 25), .ref x10]) rfl rfl ?_
        have Om12 := OTQ_3 (v := 429) (show sp_isq (.var 429) = false by decide) fB.1 (by decide) (by decide) (OTQ_t Oa7 (by rw [rl_len]; have := TM_n Ta7_11; omega)) (OTQ_t Oa8 (by rw [rl_len]; have := TM_n Ta8_11; omega)) (OTQ_t Oa9 (by rw [rl_len]; have := TM_n Ta9_11; omega))
        refine go_v (m := 295) (as := [.ref (c + 25), .int (iI 3), .ref a7, .ref a8, .ref a9]) (r := [.int (iI 4), .ref (c + 25), .ref x10]) rfl rfl rfl (S11.1.1 16 (by decide)) rfl rfl (kq_mk3 z (d + 4) (t := 3) S11.1 S11.2.1 (by decide) (by decide) (MTM_T Ta7_11) (MTM_T Ta8_11) (MTM_T Ta9_11) (TVx_k (n := 3) u38 lu (by decide) (by decide) (by decide) (by decide) (by decide) (by decide))) (fun v12 h12 hq => ?_)
        obtain ⟨w12, s12, rfl, E12, M12⟩ := hq
        have S12 := KST_STE S11 E12
        have e12 := (STE_8 E12).trans e6
        have Ta7_12 := TM_kx Ta7_11 E12.2.2.2
        have Ta8_12 := TM_kx Ta8_11 E12.2.2.2
        have Ta9_12 := TM_kx Ta9_11 E12.2.2.2
        have Cx10_12 := CL_kx C11 E12.2.2.2
        obtain ⟨mCx10_12, wCx10_12, cCx10_12⟩ := CL_cell Cx10_12
        have J12 := STE_17 E12 J6
        have Oa7_12 := STE_OTR E12 Oa7
        have Oa8_12 := STE_OTR E12 Oa8
        have Oa9_12 := STE_OTR E12 Oa9
        have Oi1_12 := STE_OTR E12 Oa7
        have Ow12_12 := STE_OTR E12 Om12
        show xx_go (xt_P z) (d + 8) 293 373 [some (.ref (c + 30)), some (.int (iI o)), some (.int (iI 29)), some (.int (iI 3)), some (.ref a7), some (.ref a8), some (.ref a9), some (.ref x10)] [w12, .int (iI 4), .ref (c + 25), .ref x10] h12 _
        refine go_a (pc' := 375) (ls' := [some (.ref (c + 30)), some (.int (iI o)), some (.int (iI 29)), some (.int (iI 3)), some (.ref a7), some (.ref a8), some (.ref a9), some (.ref x10)]) (st' := [.ref a9, w12, .int (iI 4), .ref (c + 25), .ref x10]) rfl rfl ?_
        have Om13 := OTQ_2 (v := 26209844) (show sp_isq (.var 26209844) = false by decide) fB.2.1 (by decide) (by decide) Ow12_12 (OTQ_t Oa9_12 (by rw [rl_len]; have := TM_n Ta9_12; omega))
        refine go_v (m := 259) (as := [.ref (c + 25), .int (iI 4), w12, .ref a9]) (r := [.ref x10]) rfl rfl rfl (S12.1.1 16 (by decide)) rfl rfl (kq_mk2 z (d + 4) (t := 4) S12.1 S12.2.1 (by decide) (by decide) M12 (MTM_T Ta9_12) (TVx_k (n := 2) u38 lu (by decide) (by decide) (by decide) (by decide) (by decide) (by decide))) (fun v13 h13 hq => ?_)
        obtain ⟨w13, s13, rfl, E13, M13⟩ := hq
        have S13 := KST_STE S12 E13
        have e13 := (STE_8 E13).trans e12
        have Ta7_13 := TM_kx Ta7_12 E13.2.2.2
        have Ta8_13 := TM_kx Ta8_12 E13.2.2.2
        have Ta9_13 := TM_kx Ta9_12 E13.2.2.2
        have Mw12_13 := MTM_kx M12 E13.2.2.2
        have Cx10_13 := CL_kx Cx10_12 E13.2.2.2
        obtain ⟨mCx10_13, wCx10_13, cCx10_13⟩ := CL_cell Cx10_13
        have J13 := STE_17 E13 J12
        have Oa7_13 := STE_OTR E13 Oa7_12
        have Oa8_13 := STE_OTR E13 Oa8_12
        have Oa9_13 := STE_OTR E13 Oa9_12
        have Oi1_13 := STE_OTR E13 Oi1_12
        have Ow12_13 := STE_OTR E13 Ow12_12
        have Ow13_13 := STE_OTR E13 Om13
        show xx_go (xt_P z) (d + 8) 293 378 [some (.ref (c + 30)), some (.int (iI o)), some (.int (iI 29)), some (.int (iI 3)), some (.ref a7), some (.ref a8), some (.ref a9), some (.ref x10)] [w13, .ref x10] h13 _
        refine go_v (m := 261) (as := [.ref x10, w13]) (r := []) rfl rfl rfl cCx10_13 rfl rfl (kq_addC z (d + 5) Cx10_13 M13) (fun v14 h14 hq => ?_)
        obtain ⟨rfl, F14, b14, Z14, q14, C14⟩ := hq
        have hz14 := q14.trans (congrArg (fun X => clO X _) hz11)
        have S14 := KST_fe S13 Cx10_13 hx10 F14
        have Ta7_14 := TM_fe Cx10_13 F14 Ta7_13
        have Ta8_14 := TM_fe Cx10_13 F14 Ta8_13
        have Ta9_14 := TM_fe Cx10_13 F14 Ta9_13
        have Mw12_14 := MTM_fe Cx10_13 F14 Mw12_13
        have Mw13_14 := MTM_fe Cx10_13 F14 M13
        obtain ⟨mC14, wC14, cC14⟩ := CL_cell C14
        show xx_go (xt_P z) (d + 8) 293 381 [some (.ref (c + 30)), some (.int (iI o)), some (.int (iI 29)), some (.int (iI 3)), some (.ref a7), some (.ref a8), some (.ref a9), some (.ref x10)] [] h14 _
        refine go_a (pc' := 382) (ls' := [some (.ref (c + 30)), some (.int (iI o)), some (.int (iI 29)), some (.int (iI 3)), some (.ref a7), some (.ref a8), some (.ref a9), some (.ref x10)]) (st' := [.ref (c + 30)]) rfl rfl ?_
        refine go_a (pc' := 384) (ls' := [some (.ref (c + 30)), some (.int (iI o)), some (.int (iI 29)), some (.int (iI 3)), some (.ref a7), some (.ref a8), some (.ref a9), some (.ref x10)]) (st' := [.ref x10, .ref (c + 30)]) rfl rfl ?_
        refine go_v (m := 265) (as := [.ref (c + 30), .ref x10]) (r := []) rfl rfl rfl (S14.1.1 19 (by decide)) rfl rfl (kq_fin z (d + 6) (w := WD (SD s) o) (ρ := (sp_cs2 ((sp_tm NM.2.2.1 (sp_p 1 (DK s.N o))).bind (fun l => (sp_tm NM.2.2.1 (sp_p 2 (DK s.N o))).bind (fun m => (sp_tm NM.2.2.1 (sp_p 3 (DK s.N o))).bind (fun n => sp_cz (sp_ax 673 l m n))))) (s.I 17))) (σ := (s.I 17)) hP S14 C14 (ITR_one Oi1_13 (ITR_one Ow13_13 ITR_nil)) hz14 (by rw [et7, et8, et9, J13]; rfl) J13 e13 hx10 (by omega) (by omega) (by omega)) (fun v15 h15 hq => ?_)
        rcases hq with ⟨rfl, R15⟩ | ⟨r15, rfl, R15⟩
        · exact go_r rfl rfl rfl rfl rfl rfl R15
        · exact go_r rfl rfl rfl rfl rfl rfl R15
