theorem KGR_17 {s s1 : KS} {g : Int} (h : KGR s s1 g) : s1.I 17 = s.I 17 := h.1.2.2.2 17 (by decide)
theorem TRT_k {N : Int → Int} {U : Int} {ft : Nat → Int} {k : Int} (k0 : 0 ≤ k ∧ k < U) : TRT N U ft [k * 32 + 1] (sp_cs (DK N k)) := by
  unfold sp_cs
  by_cases c : sp_ba (DK N k) = true
  · rw [if_pos c]
    match hd : DK N k with
    | .num n => exact ⟨k, k0, hd, rfl⟩
    | .var v =>
      refine ⟨k, k0, hd, ?_⟩
      rw [hd] at c
      have c1 : (v == 31361 || v == 20) = true := c
      simp at c1
      unfold sp_vt
      rw [if_pos c1]
    | .add _ _ => rw [hd] at c; exact absurd c Bool.false_ne_true
    | .sub _ _ => rw [hd] at c; exact absurd c Bool.false_ne_true
    | .neg _ => rw [hd] at c; exact absurd c Bool.false_ne_true
    | .mulL _ _ => rw [hd] at c; exact absurd c Bool.false_ne_true
    | .mulR _ _ => rw [hd] at c; exact absurd c Bool.false_ne_true
  · rw [if_neg c]
    exact Or.inl ⟨rfl, rfl, by show sp_ba (DK N k) = false; simpa using c, k, k0, rfl, rfl⟩
theorem kq_value (z : Value) (d c : Nat) (o : Int) (q : Nat) (hp : xx_H) (s : KS) (NM : BKM) (hP : KPS c hp s NM) (ho : OB s o) (hL : isL (SD s) q o) (r2 : pi s 0 o ≠ 2) (w9 : WD (SD s) o ≤ 1000) (l25 : s.I 8 + WD (SD s) o ≤ 25000) (hq : q = 2) : xx_cl (xt_P z) (d + 9) 249 [.ref (c + 30), .int (iI o)] hp (fun v h1 => PRP c hp s (WD (SD s) o) NM.2.2.1 (sp_cs2 ((sp_tm NM.2.2.1 (sp_p 1 (DK s.N o))).bind (fun t => (sp_va NM.2.2.1 t).bind (fun w => sp_cz [sp_opO (sp_eq t (sp_cs w))]))) (s.I 17)) (s.I 17) v h1) := by
  have S0 := KST_rf hP
  have e0 : s.I 8 = s.I 8 := rfl
  have lu : s.I 8 ≤ 25000 := hP.2.2.2.2.2.2.2.1
  have u38 := KB_38 hP.2.1
  have J0 : s.I 17 = s.I 17 := rfl
  have fB := KNT_FTB hP.2.2.2.2.2.2.2.2
  have oR := OB_R hP.2.1 ho
  have W := PI_W hP.2.2.1 ho hL (by omega) r2
  have p0 : VD (SD s) (rt (SD s) 0 o) = WD (SD s) (pi s 0 o) + VD (SD s) (rt (SD s) 1 o) ∧ OB s (pi s 0 o) ∧ 1 ≤ WD (SD s) (pi s 0 o) ∧ 0 ≤ VD (SD s) (rt (SD s) 1 o) := PI_w hP.2.2.1 ho hL (j := 0) (by omega)
  have p1 : VD (SD s) (rt (SD s) 1 o) = WD (SD s) (pi s 1 o) + VD (SD s) (rt (SD s) 2 o) ∧ OB s (pi s 1 o) ∧ 1 ≤ WD (SD s) (pi s 1 o) ∧ 0 ≤ VD (SD s) (rt (SD s) 2 o) := PI_w hP.2.2.1 ho hL (j := 1) (by omega)
  obtain ⟨p0, o0, i0, j0⟩ := p0
  obtain ⟨p1, o1, i1, j1⟩ := p1
  refine cl_go rfl ?_
  show xx_go (xt_P z) (d + 8) 249 0 [some (.ref (c + 30)), some (.int (iI o)), none, none, none] [] hp _
  refine go_a (pc' := 1) (ls' := [some (.ref (c + 30)), some (.int (iI o)), none, none, none]) (st' := [.ref (c + 30)]) rfl rfl ?_
  refine go_get (v := .ref (c + 25)) rfl (S0.1.1 19 (by decide)) rfl rfl ?_
  refine go_a (pc' := 5) (ls' := [some (.ref (c + 30)), some (.int (iI o)), none, none, none]) (st' := [.ref (c + 30), .ref (c + 25)]) rfl rfl ?_
  refine go_get (v := .ref (c + 4)) rfl (S0.1.1 19 (by decide)) rfl rfl ?_
  refine go_a (pc' := 9) (ls' := [some (.ref (c + 30)), some (.int (iI o)), none, none, none]) (st' := [.int (iI o), .ref (c + 4), .ref (c + 25)]) rfl rfl ?_
  refine go_a (pc' := 10) (ls' := [some (.ref (c + 30)), some (.int (iI o)), none, none, none]) (st' := [.int (iI 1), .int (iI o), .ref (c + 4), .ref (c + 25)]) rfl rfl ?_
  refine go_v (m := 202) (as := [.ref (c + 4), .int (iI o), .int (iI 1)]) (r := [.ref (c + 25)]) rfl rfl rfl (S0.1.1 3 (by decide)) rfl rfl (kq_part z (d + 6) S0 hP.2.2.1 ho hL (by omega) (by omega) (by omega)) (fun v1 h1 hq => ?_)
  obtain ⟨rfl, eq1⟩ := hq
  rw [eq1]
  clear eq1 h1
  show xx_go (xt_P z) (d + 8) 249 13 [some (.ref (c + 30)), some (.int (iI o)), none, none, none] [.int (iI (pi s 1 o)), .ref (c + 25)] hp _
  refine go_v (m := 211) (as := [.ref (c + 25), .int (iI (pi s 1 o))]) (r := []) rfl rfl rfl (S0.1.1 16 (by decide)) rfl rfl (kq_read z (d + 1) hP S0 e0 lu o1 (by omega)) (fun v2 h2 hq => ?_)
  obtain ⟨s2, E2, hv2⟩ := hq
  have S2 := KST_STE S0 E2
  have e2 := (STE_8 E2).trans e0
  have J2 := STE_17 E2 J0
  rcases hv2 with ⟨rfl, nu2⟩ | ⟨a2, n2, f2, rfl, l2, b2, T2, t2, et2, Ot2⟩
  · rw [PI_D hP ho hL (j := 1) (by omega)] at nu2
    show xx_go (xt_P z) (d + 8) 249 16 [some (.ref (c + 30)), some (.int (iI o)), none, none, none] [.null] h2 _
    refine go_a (pc' := 17) (ls' := [some (.ref (c + 30)), some (.int (iI o)), some (.null), none, none]) (st' := []) rfl rfl ?_
    refine go_a (pc' := 18) (ls' := [some (.ref (c + 30)), some (.int (iI o)), some (.null), none, none]) (st' := [.null]) rfl rfl ?_
    refine go_a (pc' := 36) (ls' := [some (.ref (c + 30)), some (.int (iI o)), some (.null), none, none]) (st' := []) rfl rfl ?_
    refine go_a (pc' := 37) (ls' := [some (.ref (c + 30)), some (.int (iI o)), some (.null), none, none]) (st' := [.int (iI ((-1)))]) rfl rfl ?_
    refine go_a (pc' := 38) (ls' := [some (.ref (c + 30)), some (.int (iI o)), some (.null), some (.int (iI ((-1)))), none]) (st' := []) rfl rfl ?_
    refine go_a (pc' := 39) (ls' := [some (.ref (c + 30)), some (.int (iI o)), some (.null), some (.int (iI ((-1)))), none]) (st' := [.int (iI ((-1)))]) rfl rfl ?_
    refine go_a (pc' := 40) (ls' := [some (.ref (c + 30)), some (.int (iI o)), some (.null), some (.int (iI ((-1)))), none]) (st' := [.int (iI ((-1))), .int (iI ((-1)))]) rfl rfl ?_
    refine mi_ne (t := 49) rfl rfl (by omega) (by omega) (by omega) (by omega) (fun q => absurd rfl q) (fun _ => ?_)
    refine go_a (pc' := 44) (ls' := [some (.ref (c + 30)), some (.int (iI o)), some (.null), some (.int (iI ((-1)))), none]) (st' := [.ref (c + 30)]) rfl rfl ?_
    refine go_a (pc' := 45) (ls' := [some (.ref (c + 30)), some (.int (iI o)), some (.null), some (.int (iI ((-1)))), none]) (st' := [.int (iI o), .ref (c + 30)]) rfl rfl ?_
    refine go_v (m := 248) (as := [.ref (c + 30), .int (iI o)]) (r := []) rfl rfl rfl (S2.1.1 19 (by decide)) rfl rfl (kq_failAtP z (d + 7) (w := WD (SD s) o) S2 (by omega) (by omega) (by omega) (by omega) (by omega) (ft := NM.2.2.1) (ρ := (sp_cs2 ((sp_tm NM.2.2.1 (sp_p 1 (DK s.N o))).bind (fun t => (sp_va NM.2.2.1 t).bind (fun w => sp_cz [sp_opO (sp_eq t (sp_cs w))]))) (s.I 17))) (σ := (s.I 17)) (by rw [nu2]; rfl) J2) (fun v3 h3 hq => ?_)
    obtain ⟨rfl, R3⟩ := hq
    show xx_go (xt_P z) (d + 8) 249 48 [some (.ref (c + 30)), some (.int (iI o)), some (.null), some (.int (iI ((-1)))), none] [.null] h3 _
    exact go_r rfl rfl rfl rfl rfl rfl R3
  · rw [PI_D hP ho hL (j := 1) (by omega)] at et2
    have Oa2 : OTR s2.N (s2.I 8) NM.2.2.1 (some (rl n2 f2)) (some t2) := Ot2
    have nn2 := TM_n T2
    show xx_go (xt_P z) (d + 8) 249 16 [some (.ref (c + 30)), some (.int (iI o)), none, none, none] [.ref a2] h2 _
    have KN := KST_KNT hP S2
    have hD := (KNT_ST KN S2.2.2.1 S2.2.1).2
    have VA := VA_t KN (TM_n T2).1 T2.2.1 Oa2
    refine go_a (pc' := 17) (ls' := [some (.ref (c + 30)), some (.int (iI o)), some (.ref a2), none, none]) (st' := []) rfl rfl ?_
    refine go_a (pc' := 18) (ls' := [some (.ref (c + 30)), some (.int (iI o)), some (.ref a2), none, none]) (st' := [.ref a2]) rfl rfl ?_
    refine go_a (pc' := 21) (ls' := [some (.ref (c + 30)), some (.int (iI o)), some (.ref a2), none, none]) (st' := []) rfl rfl ?_
    refine go_a (pc' := 22) (ls' := [some (.ref (c + 30)), some (.int (iI o)), some (.ref a2), none, none]) (st' := [.ref a2]) rfl rfl ?_
    refine go_s (m := 250) (as := [.ref a2]) (r := []) rfl rfl rfl rfl (kq_isCallOfConstants z (d + 6) a2 (a2 + 1) n2 f2 h2 (TMp T2).1 (by omega)) (fun v3 h3 hq => ?_)
    obtain ⟨hq, eq3⟩ := hq
    rw [eq3]
    clear eq3 h3
    rcases hq with ⟨rfl, c1, c2, c3⟩ | ⟨rfl, nc⟩
    · obtain ⟨⟨c5, c4⟩, va⟩ := VA.1 ⟨c1, c2, c3⟩
      show xx_go (xt_P z) (d + 8) 249 25 [some (.ref (c + 30)), some (.int (iI o)), some (.ref a2), none, none] [.int (iI 1)] h2 _
      refine mi_eq0 (t := 36) rfl rfl (by omega) (by omega) (fun q => absurd q (by decide)) (fun _ => ?_)
      refine go_a (pc' := 29) (ls' := [some (.ref (c + 30)), some (.int (iI o)), some (.ref a2), none, none]) (st' := [.ref (c + 30)]) rfl rfl ?_
      refine go_a (pc' := 30) (ls' := [some (.ref (c + 30)), some (.int (iI o)), some (.ref a2), none, none]) (st' := [.ref a2, .ref (c + 30)]) rfl rfl ?_
      refine go_v (m := 253) (as := [.ref (c + 30), .ref a2]) (r := []) rfl rfl rfl (S2.1.1 19 (by decide)) rfl rfl (kq_valueOf z (d + 3) c a2 n2 _ f2 h2 s2 S2.1 S2.2.1 ⟨S2.2.2.1, KN.1⟩ hD.2.2.1 hD.2.2.2 c5 c4 (by omega) T2 (by omega) c1 c2 c3) (fun v4 h4 hq => ?_)
      obtain ⟨y, s4, rfl, K4, B4, G4, X4, R4, hy, hyn, hys⟩ := hq
      have PV := KST_PS hP S2 (by omega)
      have SV := KST_GR (KST_rf PV) K4 B4 G4.1 X4 R4 (fun _ => G4.2)
      have S4 := KST_GR S2 K4 B4 G4.1 X4 R4 (fun _ => G4.2)
      have g4 := R4.2.1
      have g14 := R4.2.2.1
      have T4 := TM_u (TM_kx T2 X4) (show _ ≤ s4.I 8 by omega)
      have e4 : s4.I 8 = s4.I 8 := rfl
      have lu4 : s4.I 8 ≤ 25000 := by omega
      have u38_4 := KB_38 B4
      have On4 : OTR s4.N (s4.I 8) NM.2.2.1 (some (rl n2 f2)) (some t2) := KST_TRT PV SV Oa2
      have J4 : s4.I 17 = s.I 17 := (KGR_17 R4).trans J2
      show xx_go (xt_P z) (d + 8) 249 33 [some (.ref (c + 30)), some (.int (iI o)), some (.ref a2), none, none] [.int (iI y)] h4 _
      have yR : -2147483648 ≤ y ∧ y ≤ 2147483647 := Or.elim hy (fun w => by omega) (fun w => OB_R B4 w)
      refine go_a (pc' := 37) (ls' := [some (.ref (c + 30)), some (.int (iI o)), some (.ref a2), none, none]) (st' := [.int (iI y)]) rfl rfl ?_
      refine go_a (pc' := 38) (ls' := [some (.ref (c + 30)), some (.int (iI o)), some (.ref a2), some (.int (iI y)), none]) (st' := []) rfl rfl ?_
      refine go_a (pc' := 39) (ls' := [some (.ref (c + 30)), some (.int (iI o)), some (.ref a2), some (.int (iI y)), none]) (st' := [.int (iI y)]) rfl rfl ?_
      refine go_a (pc' := 40) (ls' := [some (.ref (c + 30)), some (.int (iI o)), some (.ref a2), some (.int (iI y)), none]) (st' := [.int (iI ((-1))), .int (iI y)]) rfl rfl ?_
      refine mi_ne (t := 49) rfl rfl (by omega) (by omega) (by omega) (by omega) (fun w1 => ?_) (fun w1 => ?_)
      · have oy := hy.resolve_left (by omega)
        have vs := va.trans (hys (by omega))
        have V := TVx_leaf (b := 1) oy.1 oy.2 (by omega) (Or.inr rfl)
        have Ok : OTR s4.N (s4.I 8) NM.2.2.1 (opR ([] ++ [y * 32 + 1])) (sp_opO (sp_cs (DK s4.N y))) := OTR_op (TRT_k oy)
        have l12_5 : 12 ≤ h4.length := by have := ki_lt S4.1 (i := 0) (by decide); have := S4.1.2.1 0 (by decide); omega
        refine go_new (ci := 12) (fs := [.null, .int 0, .int 0, .int 0]) rfl rfl rfl ?_
        show xx_go (xt_P z) (d + 8) 249 52 [some (.ref (c + 30)), some (.int (iI o)), some (.ref a2), some (.int (iI y)), none] [.ref h4.length] (h4 ++ [.inr (12, [.null, .int 0, .int 0, .int 0])]) _
        refine go_a (pc' := 53) (ls' := [some (.ref (c + 30)), some (.int (iI o)), some (.ref a2), some (.int (iI y)), none]) (st' := [.ref h4.length, .ref h4.length]) rfl rfl ?_
        refine go_i (m := 257) (as := [.ref h4.length]) (r := [.ref h4.length]) rfl rfl rfl rfl rfl (kh_init z (d + 7) h4 l12_5) (fun v5 h5 hq => ?_)
        obtain ⟨rfl, rfl⟩ := hq
        obtain ⟨K5, X5, B5⟩ := mkC_CL (u := (s4.I 8)) S4.1
        have C5 : CL c (mkC h4) s4 (s4.I 8) h4.length 0 [] := ⟨_, _, _, _, _, B5, rfl⟩
        have S5 := KST_X S4 K5 X5
        obtain ⟨x5, ex5⟩ : ∃ q : Nat, q = h4.length := ⟨_, rfl⟩
        have Ta2_5 := TM_kx T4 X5
        obtain ⟨hM5, eM5⟩ : ∃ q : xx_H, q = mkC h4 := ⟨_, rfl⟩
        have hx5 : hp.length ≤ x5 := by rw [ex5]; exact KST_len S4
        rw [← ex5] at C5
        rw [← eM5, ← ex5]
        obtain ⟨mC5, wC5, cC5⟩ := CL_cell C5
        rw [← eM5] at S5 C5 cC5 Ta2_5
        clear B5 K5 X5
        show xx_go (xt_P z) (d + 8) 249 56 [some (.ref (c + 30)), some (.int (iI o)), some (.ref a2), some (.int (iI y)), none] [.ref x5] hM5 _
        refine go_a (pc' := 58) (ls' := [some (.ref (c + 30)), some (.int (iI o)), some (.ref a2), some (.int (iI y)), some (.ref x5)]) (st' := []) rfl rfl ?_
        refine go_a (pc' := 60) (ls' := [some (.ref (c + 30)), some (.int (iI o)), some (.ref a2), some (.int (iI y)), some (.ref x5)]) (st' := [.ref x5]) rfl rfl ?_
        refine go_a (pc' := 61) (ls' := [some (.ref (c + 30)), some (.int (iI o)), some (.ref a2), some (.int (iI y)), some (.ref x5)]) (st' := [.ref (c + 30), .ref x5]) rfl rfl ?_
        refine go_get (v := .ref (c + 25)) rfl (S5.1.1 19 (by decide)) rfl rfl ?_
        refine go_a (pc' := 65) (ls' := [some (.ref (c + 30)), some (.int (iI o)), some (.ref a2), some (.int (iI y)), some (.ref x5)]) (st' := [.int (iI 4), .ref (c + 25), .ref x5]) rfl rfl ?_
        refine go_a (pc' := 66) (ls' := [some (.ref (c + 30)), some (.int (iI o)), some (.ref a2), some (.int (iI y)), some (.ref x5)]) (st' := [.ref a2, .int (iI 4), .ref (c + 25), .ref x5]) rfl rfl ?_
        refine go_a (pc' := 67) (ls' := [some (.ref (c + 30)), some (.int (iI o)), some (.ref a2), some (.int (iI y)), some (.ref x5)]) (st' := [.ref (c + 30), .ref a2, .int (iI 4), .ref (c + 25), .ref x5]) rfl rfl ?_
        refine go_get (v := .ref (c + 25)) rfl (S5.1.1 19 (by decide)) rfl rfl ?_
        refine go_a (pc' := 71) (ls' := [some (.ref (c + 30)), some (.int (iI o)), some (.ref a2), some (.int (iI y)), some (.ref x5)]) (st' := [.int (iI y), .ref (c + 25), .ref a2, .int (iI 4), .ref (c + 25), .ref x5]) rfl rfl ?_
        refine go_s (m := 213) (as := [.int (iI y)]) (r := [.ref (c + 25), .ref a2, .int (iI 4), .ref (c + 25), .ref x5]) rfl rfl rfl rfl (kg_constant z (d + 7) y hM5 oy.1 (by have := oy.2; omega)) (fun v6 h6 hq => ?_)
        obtain ⟨rfl, eq6⟩ := hq
        rw [eq6]
        clear eq6 h6
        show xx_go (xt_P z) (d + 8) 249 74 [some (.ref (c + 30)), some (.int (iI o)), some (.ref a2), some (.int (iI y)), some (.ref x5)] [.int (iI (y * 32 + 1)), .ref (c + 25), .ref a2, .int (iI 4), .ref (c + 25), .ref x5] hM5 _
        refine go_v (m := 258) (as := [.ref (c + 25), .int (iI (y * 32 + 1))]) (r := [.ref a2, .int (iI 4), .ref (c + 25), .ref x5]) rfl rfl rfl (S5.1.1 16 (by decide)) rfl rfl (kq_leafM z (d + 4) S5.1 S5.2.1 V.1 V.2.2) (fun v7 h7 hq => ?_)
        obtain ⟨w7, s7, rfl, E7, M7⟩ := hq
        have S7 := KST_STE S5 E7
        have e7 := (STE_8 E7).trans e4
        have Ta2_7 := TM_kx Ta2_5 E7.2.2.2
        have Cx5_7 := CL_kx C5 E7.2.2.2
        obtain ⟨mCx5_7, wCx5_7, cCx5_7⟩ := CL_cell Cx5_7
        have J7 := STE_17 E7 J4
        have Oa2_7 := STE_OTR E7 On4
        have Ow7_7 := STE_OTR E7 Ok
        show xx_go (xt_P z) (d + 8) 249 77 [some (.ref (c + 30)), some (.int (iI o)), some (.ref a2), some (.int (iI y)), some (.ref x5)] [w7, .ref a2, .int (iI 4), .ref (c + 25), .ref x5] h7 _
        have u38 : 38 ≤ (s4.I 8) := u38_4
        have Om8 := OTQ_2 (v := 26209844) (show sp_isq (.var 26209844) = false by decide) fB.2.1 (by decide) (by decide) (OTQ_t Oa2_7 (by rw [rl_len]; have := TM_n Ta2_7; omega)) Ow7_7
        refine go_v (m := 259) (as := [.ref (c + 25), .int (iI 4), .ref a2, w7]) (r := [.ref x5]) rfl rfl rfl (S7.1.1 16 (by decide)) rfl rfl (kq_mk2 z (d + 4) (t := 4) S7.1 S7.2.1 (by decide) (by decide) (MTM_T Ta2_7) M7 (TVx_k (n := 2) u38 lu4 (by decide) (by decide) (by decide) (by decide) (by decide) (by decide))) (fun v8 h8 hq => ?_)
        obtain ⟨w8, s8, rfl, E8, M8⟩ := hq
        have S8 := KST_STE S7 E8
        have e8 := (STE_8 E8).trans e7
        have Ta2_8 := TM_kx Ta2_7 E8.2.2.2
        have Mw7_8 := MTM_kx M7 E8.2.2.2
        have Cx5_8 := CL_kx Cx5_7 E8.2.2.2
        obtain ⟨mCx5_8, wCx5_8, cCx5_8⟩ := CL_cell Cx5_8
        have J8 := STE_17 E8 J7
        have Oa2_8 := STE_OTR E8 Oa2_7
        have Ow7_8 := STE_OTR E8 Ow7_7
        have Ow8_8 := STE_OTR E8 Om8
        show xx_go (xt_P z) (d + 8) 249 80 [some (.ref (c + 30)), some (.int (iI o)), some (.ref a2), some (.int (iI y)), some (.ref x5)] [w8, .ref x5] h8 _
        refine go_v (m := 261) (as := [.ref x5, w8]) (r := []) rfl rfl rfl cCx5_8 rfl rfl (kq_addC z (d + 5) Cx5_8 M8) (fun v9 h9 hq => ?_)
        obtain ⟨rfl, F9, b9, Z9, q9, C9⟩ := hq
        have hz9 := q9
        have S9 := KST_fe S8 Cx5_8 hx5 F9
        have Ta2_9 := TM_fe Cx5_8 F9 Ta2_8
        have Mw7_9 := MTM_fe Cx5_8 F9 Mw7_8
        have Mw8_9 := MTM_fe Cx5_8 F9 M8
        obtain ⟨mC9, wC9, cC9⟩ := CL_cell C9
        show xx_go (xt_P z) (d + 8) 249 83 [some (.ref (c + 30)), some (.int (iI o)), some (.ref a2), some (.int (iI y)), some (.ref x5)] [] h9 _
        refine go_a (pc' := 84) (ls' := [some (.ref (c + 30)), some (.int (iI o)), some (.ref a2), some (.int (iI y)), some (.ref x5)]) (st' := [.ref (c + 30)]) rfl rfl ?_
        refine go_a (pc' := 86) (ls' := [some (.ref (c + 30)), some (.int (iI o)), some (.ref a2), some (.int (iI y)), some (.ref x5)]) (st' := [.ref x5, .ref (c + 30)]) rfl rfl ?_
        refine go_v (m := 265) (as := [.ref (c + 30), .ref x5]) (r := []) rfl rfl rfl (S9.1.1 19 (by decide)) rfl rfl (kq_fin z (d + 6) (w := WD (SD s) o) (ρ := (sp_cs2 ((sp_tm NM.2.2.1 (sp_p 1 (DK s.N o))).bind (fun t => (sp_va NM.2.2.1 t).bind (fun w => sp_cz [sp_opO (sp_eq t (sp_cs w))]))) (s.I 17))) (σ := (s.I 17)) hP S9 C9 (ITR_one Ow8_8 ITR_nil) hz9 (by rw [et2, Option.bind_some, vs, Option.bind_some, J8]; rfl) J8 e8 hx5 (by omega) (by omega) (by omega)) (fun v10 h10 hq => ?_)
        rcases hq with ⟨rfl, R10⟩ | ⟨r10, rfl, R10⟩
        · exact go_r rfl rfl rfl rfl rfl rfl R10
        · exact go_r rfl rfl rfl rfl rfl rfl R10
      · have vz := va.trans (hyn (by omega))
        refine go_a (pc' := 44) (ls' := [some (.ref (c + 30)), some (.int (iI o)), some (.ref a2), some (.int (iI y)), none]) (st' := [.ref (c + 30)]) rfl rfl ?_
        refine go_a (pc' := 45) (ls' := [some (.ref (c + 30)), some (.int (iI o)), some (.ref a2), some (.int (iI y)), none]) (st' := [.int (iI o), .ref (c + 30)]) rfl rfl ?_
        refine go_v (m := 248) (as := [.ref (c + 30), .int (iI o)]) (r := []) rfl rfl rfl (S4.1.1 19 (by decide)) rfl rfl (kq_failAtP z (d + 7) (w := WD (SD s) o) S4 (by omega) (by omega) (by omega) (by omega) (by omega) (ft := NM.2.2.1) (ρ := (sp_cs2 ((sp_tm NM.2.2.1 (sp_p 1 (DK s.N o))).bind (fun t => (sp_va NM.2.2.1 t).bind (fun w => sp_cz [sp_opO (sp_eq t (sp_cs w))]))) (s.I 17))) (σ := (s.I 17)) (by rw [et2, Option.bind_some, vz]; rfl) J4) (fun v5 h5 hq => ?_)
        obtain ⟨rfl, R5⟩ := hq
        show xx_go (xt_P z) (d + 8) 249 48 [some (.ref (c + 30)), some (.int (iI o)), some (.ref a2), some (.int (iI y)), none] [.null] h5 _
        exact go_r rfl rfl rfl rfl rfl rfl R5
    · have vz := VA.2 nc
      show xx_go (xt_P z) (d + 8) 249 25 [some (.ref (c + 30)), some (.int (iI o)), some (.ref a2), none, none] [.int (iI 0)] h2 _
      refine mi_eq0 (t := 36) rfl rfl (by omega) (by omega) (fun _ => ?_) (fun q => absurd rfl q)
      refine go_a (pc' := 37) (ls' := [some (.ref (c + 30)), some (.int (iI o)), some (.ref a2), none, none]) (st' := [.int (iI ((-1)))]) rfl rfl ?_
      refine go_a (pc' := 38) (ls' := [some (.ref (c + 30)), some (.int (iI o)), some (.ref a2), some (.int (iI ((-1)))), none]) (st' := []) rfl rfl ?_
      refine go_a (pc' := 39) (ls' := [some (.ref (c + 30)), some (.int (iI o)), some (.ref a2), some (.int (iI ((-1)))), none]) (st' := [.int (iI ((-1)))]) rfl rfl ?_
      refine go_a (pc' := 40) (ls' := [some (.ref (c + 30)), some (.int (iI o)), some (.ref a2), some (.int (iI ((-1)))), none]) (st' := [.int (iI ((-1))), .int (iI ((-1)))]) rfl rfl ?_
      refine mi_ne (t := 49) rfl rfl (by omega) (by omega) (by omega) (by omega) (fun q => absurd rfl q) (fun _ => ?_)
      refine go_a (pc' := 44) (ls' := [some (.ref (c + 30)), some (.int (iI o)), some (.ref a2), some (.int (iI ((-1)))), none]) (st' := [.ref (c + 30)]) rfl rfl ?_
      refine go_a (pc' := 45) (ls' := [some (.ref (c + 30)), some (.int (iI o)), some (.ref a2), some (.int (iI ((-1)))), none]) (st' := [.int (iI o), .ref (c + 30)]) rfl rfl ?_
      refine go_v (m := 248) (as := [.ref (c + 30), .int (iI o)]) (r := []) rfl rfl rfl (S2.1.1 19 (by decide)) rfl rfl (kq_failAtP z (d + 7) (w := WD (SD s) o) S2 (by omega) (by omega) (by omega) (by omega) (by omega) (ft := NM.2.2.1) (ρ := (sp_cs2 ((sp_tm NM.2.2.1 (sp_p 1 (DK s.N o))).bind (fun t => (sp_va NM.2.2.1 t).bind (fun w => sp_cz [sp_opO (sp_eq t (sp_cs w))]))) (s.I 17))) (σ := (s.I 17)) (by rw [et2, Option.bind_some, vz]; rfl) J2) (fun v4 h4 hq => ?_)
      obtain ⟨rfl, R4⟩ := hq
      show xx_go (xt_P z) (d + 8) 249 48 [some (.ref (c + 30)), some (.int (iI o)), some (.ref a2), some (.int (iI ((-1)))), none] [.null] h4 _
      exact go_r rfl rfl rfl rfl rfl rfl R4
