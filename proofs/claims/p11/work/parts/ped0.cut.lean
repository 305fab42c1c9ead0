theorem kq_cut (z : Value) (d c : Nat) (o : Int) (q : Nat) (hp : xx_H) (s : KS) (NM : BKM) (hP : KPS c hp s NM) (ho : OB s o) (hL : isL (SD s) q o) (r2 : pi s 0 o ≠ 2) (w9 : WD (SD s) o ≤ 1000) (l25 : s.I 8 + WD (SD s) o ≤ 25000) (e fu : Int) (F : ob_T → Int → Option (List ob_T × Int)) (G : ob_T → Int → Int) (R : PRC z (d + 8) c (e + 1) NM fu F G) (hf : s.I 16 = fu) (hq : q = 4) : xx_cl (xt_P z) (d + 9) 272 [.ref (c + 30), .int (iI o), .int (iI e)] hp (fun v h1 => PRP c hp s (WD (SD s) o) NM.2.2.1 (sp_cut NM.2.2.1 F (DK s.N o) (s.I 17)) (sp_sg F G (ifc (sp_tm NM.2.2.1 (sp_p 1 (DK s.N o)) ≠ none) [sp_p 2 (DK s.N o), sp_p 3 (DK s.N o)] []) (s.I 17)) v h1) := by
  have S0 := KST_rf hP
  have e0 : s.I 8 = s.I 8 := rfl
  have lu : s.I 8 ≤ 25000 := hP.2.2.2.2.2.2.2.1
  have u38 := KB_38 hP.2.1
  have J0 : s.I 17 = s.I 17 := rfl
  have fB := KNT_FTB hP.2.2.2.2.2.2.2.2
  have oR := OB_R hP.2.1 ho
  have W := PI_W hP.2.2.1 ho hL (by omega) r2
  have p0 : VD (SD s) (rt (SD s) 0 o) = WD (SD s) (pi s 0 o) + VD (SD s) (rt (SD s) 1 o) ∧ OB s (pi s 0 o) ∧ 1 ≤ WD (SD s) (pi s 0 o) ∧ 0 ≤ VD (SD s) (rt (SD s) 1 o) := PI_w hP.2.2.1 ho hL (j := 0) (by omega)
  have p1 : VD (SD s) (rt (SD s) 1 o) = WD (SD s) (pi s 1 o) + VD (SD s) (rt (SD s) 2 o) ∧ OB s (pi s 1 o) ∧ 1 ≤ WD (SD s) (pi s 1 o) ∧ 0 ≤ VD (SD s) (rt (SD s) 2 o) := PI_w hP.2.2.1 ho hL (j := 1) (by omega)
  have p2 : VD (SD s) (rt (SD s) 2 o) = WD (SD s) (pi s 2 o) + VD (SD s) (rt (SD s) 3 o) ∧ OB s (pi s 2 o) ∧ 1 ≤ WD (SD s) (pi s 2 o) ∧ 0 ≤ VD (SD s) (rt (SD s) 3 o) := PI_w hP.2.2.1 ho hL (j := 2) (by omega)
  have p3 : VD (SD s) (rt (SD s) 3 o) = WD (SD s) (pi s 3 o) + VD (SD s) (rt (SD s) 4 o) ∧ OB s (pi s 3 o) ∧ 1 ≤ WD (SD s) (pi s 3 o) ∧ 0 ≤ VD (SD s) (rt (SD s) 4 o) := PI_w hP.2.2.1 ho hL (j := 3) (by omega)
  obtain ⟨p0, o0, i0, j0⟩ := p0
  obtain ⟨p1, o1, i1, j1⟩ := p1
  obtain ⟨p2, o2, i2, j2⟩ := p2
  obtain ⟨p3, o3, i3, j3⟩ := p3
  refine cl_go rfl ?_
  show xx_go (xt_P z) (d + 8) 272 0 [some (.ref (c + 30)), some (.int (iI o)), some (.int (iI e)), none, none, none, none, none] [] hp _
  refine go_a (pc' := 1) (ls' := [some (.ref (c + 30)), some (.int (iI o)), some (.int (iI e)), none, none, none, none, none]) (st' := [.ref (c + 30)]) rfl rfl ?_
  refine go_get (v := .ref (c + 25)) rfl (S0.1.1 19 (by decide)) rfl rfl ?_
  refine go_a (pc' := 5) (ls' := [some (.ref (c + 30)), some (.int (iI o)), some (.int (iI e)), none, none, none, none, none]) (st' := [.ref (c + 30), .ref (c + 25)]) rfl rfl ?_
  refine go_get (v := .ref (c + 4)) rfl (S0.1.1 19 (by decide)) rfl rfl ?_
  refine go_a (pc' := 9) (ls' := [some (.ref (c + 30)), some (.int (iI o)), some (.int (iI e)), none, none, none, none, none]) (st' := [.int (iI o), .ref (c + 4), .ref (c + 25)]) rfl rfl ?_
  refine go_a (pc' := 10) (ls' := [some (.ref (c + 30)), some (.int (iI o)), some (.int (iI e)), none, none, none, none, none]) (st' := [.int (iI 1), .int (iI o), .ref (c + 4), .ref (c + 25)]) rfl rfl ?_
  refine go_v (m := 202) (as := [.ref (c + 4), .int (iI o), .int (iI 1)]) (r := [.ref (c + 25)]) rfl rfl rfl (S0.1.1 3 (by decide)) rfl rfl (kq_part z (d + 6) S0 hP.2.2.1 ho hL (by omega) (by omega) (by omega)) (fun v1 h1 hq => ?_)
  obtain ⟨rfl, eq1⟩ := hq
  rw [eq1]
  clear eq1 h1
  show xx_go (xt_P z) (d + 8) 272 13 [some (.ref (c + 30)), some (.int (iI o)), some (.int (iI e)), none, none, none, none, none] [.int (iI (pi s 1 o)), .ref (c + 25)] hp _
  refine go_v (m := 211) (as := [.ref (c + 25), .int (iI (pi s 1 o))]) (r := []) rfl rfl rfl (S0.1.1 16 (by decide)) rfl rfl (kq_read z (d + 1) hP S0 e0 lu o1 (by omega)) (fun v2 h2 hq => ?_)
  obtain ⟨s2, E2, hv2⟩ := hq
  have S2 := KST_STE S0 E2
  have e2 := (STE_8 E2).trans e0
  have J2 := STE_17 E2 J0
  rcases hv2 with ⟨rfl, nu2⟩ | ⟨a2, n2, f2, rfl, l2, b2, T2, t2, et2, Ot2⟩
  · rw [PI_D hP ho hL (j := 1) (by omega)] at nu2
    show xx_go (xt_P z) (d + 8) 272 16 [some (.ref (c + 30)), some (.int (iI o)), some (.int (iI e)), none, none, none, none, none] [.null] h2 _
    refine go_a (pc' := 17) (ls' := [some (.ref (c + 30)), some (.int (iI o)), some (.int (iI e)), some (.null), none, none, none, none]) (st' := []) rfl rfl ?_
    refine go_a (pc' := 18) (ls' := [some (.ref (c + 30)), some (.int (iI o)), some (.int (iI e)), some (.null), none, none, none, none]) (st' := [.null]) rfl rfl ?_
    refine go_a (pc' := 21) (ls' := [some (.ref (c + 30)), some (.int (iI o)), some (.int (iI e)), some (.null), none, none, none, none]) (st' := []) rfl rfl ?_
    refine go_a (pc' := 22) (ls' := [some (.ref (c + 30)), some (.int (iI o)), some (.int (iI e)), some (.null), none, none, none, none]) (st' := [.ref (c + 30)]) rfl rfl ?_
    refine go_a (pc' := 23) (ls' := [some (.ref (c + 30)), some (.int (iI o)), some (.int (iI e)), some (.null), none, none, none, none]) (st' := [.int (iI o), .ref (c + 30)]) rfl rfl ?_
    refine go_v (m := 248) (as := [.ref (c + 30), .int (iI o)]) (r := []) rfl rfl rfl (S2.1.1 19 (by decide)) rfl rfl (kq_failAtP z (d + 7) (w := WD (SD s) o) S2 (by omega) (by omega) (by omega) (by omega) (by omega) (ft := NM.2.2.1) (ρ := (sp_cut NM.2.2.1 F (DK s.N o) (s.I 17))) (σ := (sp_sg F G (ifc (sp_tm NM.2.2.1 (sp_p 1 (DK s.N o)) ≠ none) [sp_p 2 (DK s.N o), sp_p 3 (DK s.N o)] []) (s.I 17))) (by unfold sp_cut; rw [nu2]; (try dsimp only); (try rfl)) (by rw [ifc_neg (fun w => w nu2)]; exact J2)) (fun v3 h3 hq => ?_)
    obtain ⟨rfl, R3⟩ := hq
    show xx_go (xt_P z) (d + 8) 272 26 [some (.ref (c + 30)), some (.int (iI o)), some (.int (iI e)), some (.null), none, none, none, none] [.null] h3 _
    exact go_r rfl rfl rfl rfl rfl rfl R3
  · rw [PI_D hP ho hL (j := 1) (by omega)] at et2
    have Oa2 : OTR s2.N (s2.I 8) NM.2.2.1 (some (rl n2 f2)) (some t2) := Ot2
    have nn2 := TM_n T2
    show xx_go (xt_P z) (d + 8) 272 16 [some (.ref (c + 30)), some (.int (iI o)), some (.int (iI e)), none, none, none, none, none] [.ref a2] h2 _
    refine go_a (pc' := 17) (ls' := [some (.ref (c + 30)), some (.int (iI o)), some (.int (iI e)), some (.ref a2), none, none, none, none]) (st' := []) rfl rfl ?_
    refine go_a (pc' := 18) (ls' := [some (.ref (c + 30)), some (.int (iI o)), some (.int (iI e)), some (.ref a2), none, none, none, none]) (st' := [.ref a2]) rfl rfl ?_
    refine go_a (pc' := 27) (ls' := [some (.ref (c + 30)), some (.int (iI o)), some (.int (iI e)), some (.ref a2), none, none, none, none]) (st' := []) rfl rfl ?_
    refine go_a (pc' := 28) (ls' := [some (.ref (c + 30)), some (.int (iI o)), some (.int (iI e)), some (.ref a2), none, none, none, none]) (st' := [.ref (c + 30)]) rfl rfl ?_
    refine go_a (pc' := 29) (ls' := [some (.ref (c + 30)), some (.int (iI o)), some (.int (iI e)), some (.ref a2), none, none, none, none]) (st' := [.ref (c + 30), .ref (c + 30)]) rfl rfl ?_
    refine go_get (v := .ref (c + 4)) rfl (S2.1.1 19 (by decide)) rfl rfl ?_
    refine go_a (pc' := 33) (ls' := [some (.ref (c + 30)), some (.int (iI o)), some (.int (iI e)), some (.ref a2), none, none, none, none]) (st' := [.int (iI o), .ref (c + 4), .ref (c + 30)]) rfl rfl ?_
    refine go_a (pc' := 34) (ls' := [some (.ref (c + 30)), some (.int (iI o)), some (.int (iI e)), some (.ref a2), none, none, none, none]) (st' := [.int (iI 2), .int (iI o), .ref (c + 4), .ref (c + 30)]) rfl rfl ?_
    refine go_v (m := 202) (as := [.ref (c + 4), .int (iI o), .int (iI 2)]) (r := [.ref (c + 30)]) rfl rfl rfl (S2.1.1 3 (by decide)) rfl rfl (kq_part z (d + 6) S2 hP.2.2.1 ho hL (by omega) (by omega) (by omega)) (fun v3 h3 hq => ?_)
    obtain ⟨rfl, eq3⟩ := hq
    rw [eq3]
    clear eq3 h3
    show xx_go (xt_P z) (d + 8) 272 37 [some (.ref (c + 30)), some (.int (iI o)), some (.int (iI e)), some (.ref a2), none, none, none, none] [.int (iI (pi s 2 o)), .ref (c + 30)] h2 _
    refine go_a (pc' := 38) (ls' := [some (.ref (c + 30)), some (.int (iI o)), some (.int (iI e)), some (.ref a2), none, none, none, none]) (st' := [.int (iI e), .int (iI (pi s 2 o)), .ref (c + 30)]) rfl rfl ?_
    refine go_a (pc' := 39) (ls' := [some (.ref (c + 30)), some (.int (iI o)), some (.int (iI e)), some (.ref a2), none, none, none, none]) (st' := [.int (iI 1), .int (iI e), .int (iI (pi s 2 o)), .ref (c + 30)]) rfl rfl ?_
    refine mi_add rfl ?_
    refine go_v (m := 245) (as := [.ref (c + 30), .int (iI (pi s 2 o)), .int (iI (e + 1))]) (r := []) rfl rfl rfl (S2.1.1 19 (by decide)) rfl rfl (kq_sub R hP S2 hf o2 (by omega) (by omega)) (fun v4 h4 hq => ?_)
    obtain ⟨s4, hv⟩ := hq
    rcases hv with ⟨rfl, en4, eg4, S4, Q4⟩ | ⟨y4, Z4, D4, rfl, l4, C4, ⟨TO4, es4⟩, S4, g4, PS4, Q4⟩
    · rw [PI_D hP ho hL (j := 2) (by omega), J2] at en4 eg4
      show xx_go (xt_P z) (d + 8) 272 43 [some (.ref (c + 30)), some (.int (iI o)), some (.int (iI e)), some (.ref a2), none, none, none, none] [.null] h4 _
      refine go_a (pc' := 45) (ls' := [some (.ref (c + 30)), some (.int (iI o)), some (.int (iI e)), some (.ref a2), some (.null), none, none, none]) (st' := []) rfl rfl ?_
      refine go_a (pc' := 47) (ls' := [some (.ref (c + 30)), some (.int (iI o)), some (.int (iI e)), some (.ref a2), some (.null), none, none, none]) (st' := [.null]) rfl rfl ?_
      refine go_a (pc' := 50) (ls' := [some (.ref (c + 30)), some (.int (iI o)), some (.int (iI e)), some (.ref a2), some (.null), none, none, none]) (st' := []) rfl rfl ?_
      refine go_a (pc' := 51) (ls' := [some (.ref (c + 30)), some (.int (iI o)), some (.int (iI e)), some (.ref a2), some (.null), none, none, none]) (st' := [.null]) rfl rfl ?_
      refine go_a (pc' := 70) (ls' := [some (.ref (c + 30)), some (.int (iI o)), some (.int (iI e)), some (.ref a2), some (.null), none, none, none]) (st' := [.null]) rfl rfl ?_
      refine go_a (pc' := 72) (ls' := [some (.ref (c + 30)), some (.int (iI o)), some (.int (iI e)), some (.ref a2), some (.null), some (.null), none, none]) (st' := []) rfl rfl ?_
      refine go_a (pc' := 74) (ls' := [some (.ref (c + 30)), some (.int (iI o)), some (.int (iI e)), some (.ref a2), some (.null), some (.null), none, none]) (st' := [.null]) rfl rfl ?_
      refine go_a (pc' := 82) (ls' := [some (.ref (c + 30)), some (.int (iI o)), some (.int (iI e)), some (.ref a2), some (.null), some (.null), none, none]) (st' := []) rfl rfl ?_
      refine go_a (pc' := 83) (ls' := [some (.ref (c + 30)), some (.int (iI o)), some (.int (iI e)), some (.ref a2), some (.null), some (.null), none, none]) (st' := [.null]) rfl rfl ?_
      exact go_r rfl rfl rfl rfl rfl rfl ⟨_, Or.inl ⟨rfl, (by unfold sp_cut; rw [et2]; (try dsimp only); rw [Option.bind_some]; (try dsimp only); rw [en4]; (try dsimp only); (try rfl)), (by rw [ifc_pos (fun w => by rw [et2] at w; cases w)]; rw [sp_sg_n en4]; exact eg4), KST_w S4 (by omega) (by omega) (by omega)⟩⟩
    · rw [PI_D hP ho hL (j := 2) (by omega), J2] at es4
      have J4 : s4.I 17 = s4.I 17 := rfl
      have Oa2_4 := KST_OTR PS4 Q4 Oa2
      have z4 := S4.2.2.2.2.2.1
      have lu4 : s4.I 8 ≤ 25000 := by omega
      have e4 : s4.I 8 = s4.I 8 := rfl
      have u38 := KB_38 S4.2.1
      have Ta2_4 := TM_u (TM_kx T2 Q4.2.2.2.2.1) (show _ ≤ s4.I 8 by omega)
      obtain ⟨mC4, wC4, cC4⟩ := CL_cell C4
      show xx_go (xt_P z) (d + 8) 272 43 [some (.ref (c + 30)), some (.int (iI o)), some (.int (iI e)), some (.ref a2), none, none, none, none] [.ref y4] h4 _
      refine go_a (pc' := 45) (ls' := [some (.ref (c + 30)), some (.int (iI o)), some (.int (iI e)), some (.ref a2), some (.ref y4), none, none, none]) (st' := []) rfl rfl ?_
      refine go_a (pc' := 47) (ls' := [some (.ref (c + 30)), some (.int (iI o)), some (.int (iI e)), some (.ref a2), some (.ref y4), none, none, none]) (st' := [.ref y4]) rfl rfl ?_
      refine go_a (pc' := 54) (ls' := [some (.ref (c + 30)), some (.int (iI o)), some (.int (iI e)), some (.ref a2), some (.ref y4), none, none, none]) (st' := []) rfl rfl ?_
      refine go_a (pc' := 55) (ls' := [some (.ref (c + 30)), some (.int (iI o)), some (.int (iI e)), some (.ref a2), some (.ref y4), none, none, none]) (st' := [.ref (c + 30)]) rfl rfl ?_
      refine go_a (pc' := 56) (ls' := [some (.ref (c + 30)), some (.int (iI o)), some (.int (iI e)), some (.ref a2), some (.ref y4), none, none, none]) (st' := [.ref (c + 30), .ref (c + 30)]) rfl rfl ?_
      refine go_get (v := .ref (c + 4)) rfl (S4.1.1 19 (by decide)) rfl rfl ?_
      refine go_a (pc' := 60) (ls' := [some (.ref (c + 30)), some (.int (iI o)), some (.int (iI e)), some (.ref a2), some (.ref y4), none, none, none]) (st' := [.int (iI o), .ref (c + 4), .ref (c + 30)]) rfl rfl ?_
      refine go_a (pc' := 61) (ls' := [some (.ref (c + 30)), some (.int (iI o)), some (.int (iI e)), some (.ref a2), some (.ref y4), none, none, none]) (st' := [.int (iI 3), .int (iI o), .ref (c + 4), .ref (c + 30)]) rfl rfl ?_
      refine go_v (m := 202) (as := [.ref (c + 4), .int (iI o), .int (iI 3)]) (r := [.ref (c + 30)]) rfl rfl rfl (S4.1.1 3 (by decide)) rfl rfl (kq_part z (d + 6) S4 hP.2.2.1 ho hL (by omega) (by omega) (by omega)) (fun v5 h5 hq => ?_)
      obtain ⟨rfl, eq5⟩ := hq
      rw [eq5]
      clear eq5 h5
      show xx_go (xt_P z) (d + 8) 272 64 [some (.ref (c + 30)), some (.int (iI o)), some (.int (iI e)), some (.ref a2), some (.ref y4), none, none, none] [.int (iI (pi s 3 o)), .ref (c + 30)] h4 _
      refine go_a (pc' := 65) (ls' := [some (.ref (c + 30)), some (.int (iI o)), some (.int (iI e)), some (.ref a2), some (.ref y4), none, none, none]) (st' := [.int (iI e), .int (iI (pi s 3 o)), .ref (c + 30)]) rfl rfl ?_
      refine go_a (pc' := 66) (ls' := [some (.ref (c + 30)), some (.int (iI o)), some (.int (iI e)), some (.ref a2), some (.ref y4), none, none, none]) (st' := [.int (iI 1), .int (iI e), .int (iI (pi s 3 o)), .ref (c + 30)]) rfl rfl ?_
      refine mi_add rfl ?_
      refine go_v (m := 245) (as := [.ref (c + 30), .int (iI (pi s 3 o)), .int (iI (e + 1))]) (r := []) rfl rfl rfl (S4.1.1 19 (by decide)) rfl rfl (kq_sub R hP S4 hf o3 (by omega) (by omega)) (fun v6 h6 hq => ?_)
      obtain ⟨s6, hv⟩ := hq
      rcases hv with ⟨rfl, en6, eg6, S6, Q6⟩ | ⟨y6, Z6, D6, rfl, l6, C6, ⟨TO6, es6⟩, S6, g6, PS6, Q6⟩
      · rw [PI_D hP ho hL (j := 3) (by omega), J4] at en6 eg6
        show xx_go (xt_P z) (d + 8) 272 70 [some (.ref (c + 30)), some (.int (iI o)), some (.int (iI e)), some (.ref a2), some (.ref y4), none, none, none] [.null] h6 _
        refine go_a (pc' := 72) (ls' := [some (.ref (c + 30)), some (.int (iI o)), some (.int (iI e)), some (.ref a2), some (.ref y4), some (.null), none, none]) (st' := []) rfl rfl ?_
        refine go_a (pc' := 74) (ls' := [some (.ref (c + 30)), some (.int (iI o)), some (.int (iI e)), some (.ref a2), some (.ref y4), some (.null), none, none]) (st' := [.ref y4]) rfl rfl ?_
        refine go_a (pc' := 77) (ls' := [some (.ref (c + 30)), some (.int (iI o)), some (.int (iI e)), some (.ref a2), some (.ref y4), some (.null), none, none]) (st' := []) rfl rfl ?_
        refine go_a (pc' := 79) (ls' := [some (.ref (c + 30)), some (.int (iI o)), some (.int (iI e)), some (.ref a2), some (.ref y4), some (.null), none, none]) (st' := [.null]) rfl rfl ?_
        refine go_a (pc' := 82) (ls' := [some (.ref (c + 30)), some (.int (iI o)), some (.int (iI e)), some (.ref a2), some (.ref y4), some (.null), none, none]) (st' := []) rfl rfl ?_
        refine go_a (pc' := 83) (ls' := [some (.ref (c + 30)), some (.int (iI o)), some (.int (iI e)), some (.ref a2), some (.ref y4), some (.null), none, none]) (st' := [.null]) rfl rfl ?_
        exact go_r rfl rfl rfl rfl rfl rfl ⟨_, Or.inl ⟨rfl, (by unfold sp_cut; rw [et2]; (try dsimp only); rw [Option.bind_some]; (try dsimp only); rw [es4]; (try dsimp only); rw [Option.bind_some]; (try dsimp only); rw [en6]; (try dsimp only); (try rfl)), (by rw [ifc_pos (fun w => by rw [et2] at w; cases w)]; rw [sp_sg_s es4, sp_sg_n en6]; exact eg6), KST_w S6 (by omega) (by omega) (by omega)⟩⟩
      · rw [PI_D hP ho hL (j := 3) (by omega), J4] at es6
        have J6 : s6.I 17 = s6.I 17 := rfl
        have Oa2_6 := KST_OTR PS6 Q6 Oa2_4
        have TOy4_6 := KST_TRO PS6 Q6 TO4
        have z6 := S6.2.2.2.2.2.1
        have lu6 : s6.I 8 ≤ 25000 := by omega
        have e6 : s6.I 8 = s6.I 8 := rfl
        have u38 := KB_38 S6.2.1
        have Ta2_6 := TM_u (TM_kx Ta2_4 Q6.2.2.2.2.1) (show _ ≤ s6.I 8 by omega)
        have Cy4_6 := CL_u (CL_kx C4 Q6.2.2.2.2.1) (show _ ≤ s6.I 8 by omega)
        obtain ⟨mCy4_6, wCy4_6, cCy4_6⟩ := CL_cell Cy4_6
        obtain ⟨mC6, wC6, cC6⟩ := CL_cell C6
        show xx_go (xt_P z) (d + 8) 272 70 [some (.ref (c + 30)), some (.int (iI o)), some (.int (iI e)), some (.ref a2), some (.ref y4), none, none, none] [.ref y6] h6 _
        refine go_a (pc' := 72) (ls' := [some (.ref (c + 30)), some (.int (iI o)), some (.int (iI e)), some (.ref a2), some (.ref y4), some (.ref y6), none, none]) (st' := []) rfl rfl ?_
        refine go_a (pc' := 74) (ls' := [some (.ref (c + 30)), some (.int (iI o)), some (.int (iI e)), some (.ref a2), some (.ref y4), some (.ref y6), none, none]) (st' := [.ref y4]) rfl rfl ?_
        refine go_a (pc' := 77) (ls' := [some (.ref (c + 30)), some (.int (iI o)), some (.int (iI e)), some (.ref a2), some (.ref y4), some (.ref y6), none, none]) (st' := []) rfl rfl ?_
        refine go_a (pc' := 79) (ls' := [some (.ref (c + 30)), some (.int (iI o)), some (.int (iI e)), some (.ref a2), some (.ref y4), some (.ref y6), none, none]) (st' := [.ref y6]) rfl rfl ?_
        refine go_a (pc' := 84) (ls' := [some (.ref (c + 30)), some (.int (iI o)), some (.int (iI e)), some (.ref a2), some (.ref y4), some (.ref y6), none, none]) (st' := []) rfl rfl ?_
        refine go_a (pc' := 86) (ls' := [some (.ref (c + 30)), some (.int (iI o)), some (.int (iI e)), some (.ref a2), some (.ref y4), some (.ref y6), none, none]) (st' := [.ref y4]) rfl rfl ?_
        refine go_a (pc' := 87) (ls' := [some (.ref (c + 30)), some (.int (iI o)), some (.int (iI e)), some (.ref a2), some (.ref y4), some (.ref y6), none, none]) (st' := [.ref a2, .ref y4]) rfl rfl ?_
        obtain ⟨mD7, wD7, OD7, nD7, fD7, DD7, eZ7⟩ := id Cy4_6
        refine go_v (m := 262) (as := [.ref y4, .ref a2]) (r := []) rfl rfl rfl cCy4_6 rfl rfl (kh_has z (d + 6) c h6 s6 _ y4 mD7 wD7 _ OD7 nD7 fD7 DD7 _ a2 n2 f2 Ta2_6) (fun v8 h8 hq => ?_)
        obtain ⟨hq, eq8⟩ := hq
        rw [eq8]
        clear eq8 h8
        rcases hq with ⟨rfl, hm8⟩ | ⟨rfl, hm8⟩
        · rw [eZ7] at hm8
          replace hm8 := (TRO_mem (KNT_ST (KST_KNT hP S6) S6.2.2.1 S6.2.1).2 (KST_KNT hP S6).2.2.2.2 Oa2_6 _ _ TOy4_6).mp hm8
          show xx_go (xt_P z) (d + 8) 272 90 [some (.ref (c + 30)), some (.int (iI o)), some (.int (iI e)), some (.ref a2), some (.ref y4), some (.ref y6), none, none] [.int (iI 1)] h6 _
          refine mi_ne0 (t := 99) rfl rfl (by omega) (by omega) (fun _ => ?_) (fun q => absurd (show (1 : Int) ≠ 0 by decide) q)
          refine go_a (pc' := 100) (ls' := [some (.ref (c + 30)), some (.int (iI o)), some (.int (iI e)), some (.ref a2), some (.ref y4), some (.ref y6), none, none]) (st' := [.ref (c + 30)]) rfl rfl ?_
          refine go_get (v := .ref (c + 25)) rfl (S6.1.1 19 (by decide)) rfl rfl ?_
          refine go_a (pc' := 104) (ls' := [some (.ref (c + 30)), some (.int (iI o)), some (.int (iI e)), some (.ref a2), some (.ref y4), some (.ref y6), none, none]) (st' := [.ref a2, .ref (c + 25)]) rfl rfl ?_
          have Om9 := OTR_nt (KNT_ST (KST_KNT hP S6) S6.2.2.1 S6.2.1).2 (KST_KNT hP S6).2.2.2.2 Oa2_6
          refine go_v (m := 273) (as := [.ref (c + 25), .ref a2]) (r := []) rfl rfl rfl (S6.1.1 16 (by decide)) rfl rfl (kq_mkn z (d + 3) S6.1 S6.2.1 (by omega) (MTM_T Ta2_6)) (fun v9 h9 hq => ?_)
          obtain ⟨w9, s9, rfl, E9, M9⟩ := hq
          have S9 := KST_STE S6 E9
          have e9 := (STE_8 E9).trans e6
          have Ta2_9 := TM_kx Ta2_6 E9.2.2.2
          have Cy4_9 := CL_kx Cy4_6 E9.2.2.2
          obtain ⟨mCy4_9, wCy4_9, cCy4_9⟩ := CL_cell Cy4_9
          have Cy6_9 := CL_kx C6 E9.2.2.2
          obtain ⟨mCy6_9, wCy6_9, cCy6_9⟩ := CL_cell Cy6_9
          have J9 := STE_17 E9 J6
          have Oa2_9 := STE_OTR E9 Oa2_6
          have Ow9_9 := STE_OTR E9 Om9
          have TOy4_9 := STE_TRO E9 TOy4_6
          have TOy6_9 := STE_TRO E9 TO6
          show xx_go (xt_P z) (d + 8) 272 107 [some (.ref (c + 30)), some (.int (iI o)), some (.int (iI e)), some (.ref a2), some (.ref y4), some (.ref y6), none, none] [w9] h9 _
          refine go_a (pc' := 109) (ls' := [some (.ref (c + 30)), some (.int (iI o)), some (.int (iI e)), some (.ref a2), some (.ref y4), some (.ref y6), some (w9), none]) (st' := []) rfl (by rcases MTM_r M9 with rfl | ⟨_, rfl⟩ <;> rfl) ?_
          refine go_a (pc' := 111) (ls' := [some (.ref (c + 30)), some (.int (iI o)), some (.int (iI e)), some (.ref a2), some (.ref y4), some (.ref y6), some (w9), none]) (st' := [w9]) rfl (by rcases MTM_r M9 with rfl | ⟨_, rfl⟩ <;> rfl) ?_
          generalize ntO (some (rl n2 f2)) = RN at M9 Ow9_9
          rcases M9 with ⟨rfl, rfl⟩ | ⟨a10, n10, f10, rfl, T10, rfl⟩
          · have nu10 := OTR_nn Ow9_9
            show xx_go (xt_P z) (d + 8) 272 111 [some (.ref (c + 30)), some (.int (iI o)), some (.int (iI e)), some (.ref a2), some (.ref y4), some (.ref y6), some (.null), none] [.null] h9 _
            refine go_a (pc' := 114) (ls' := [some (.ref (c + 30)), some (.int (iI o)), some (.int (iI e)), some (.ref a2), some (.ref y4), some (.ref y6), some (.null), none]) (st' := []) rfl rfl ?_
            refine go_a (pc' := 115) (ls' := [some (.ref (c + 30)), some (.int (iI o)), some (.int (iI e)), some (.ref a2), some (.ref y4), some (.ref y6), some (.null), none]) (st' := [.ref (c + 30)]) rfl rfl ?_
            refine go_a (pc' := 116) (ls' := [some (.ref (c + 30)), some (.int (iI o)), some (.int (iI e)), some (.ref a2), some (.ref y4), some (.ref y6), some (.null), none]) (st' := [.int (iI 4), .ref (c + 30)]) rfl rfl ?_
            refine go_v (m := 246) (as := [.ref (c + 30), .int (iI 4)]) (r := []) rfl rfl rfl (S9.1.1 19 (by decide)) rfl rfl (kq_failByP z (d + 7) (w := WD (SD s) o) S9 (by omega) (by omega) (by omega) (by omega) (by omega) (ft := NM.2.2.1) (ρ := (sp_cut NM.2.2.1 F (DK s.N o) (s.I 17))) (σ := (sp_sg F G (ifc (sp_tm NM.2.2.1 (sp_p 1 (DK s.N o)) ≠ none) [sp_p 2 (DK s.N o), sp_p 3 (DK s.N o)] []) (s.I 17))) (by unfold sp_cut; rw [et2]; (try dsimp only); rw [Option.bind_some]; (try dsimp only); rw [es4]; (try dsimp only); rw [Option.bind_some]; (try dsimp only); rw [es6]; (try dsimp only); rw [Option.bind_some]; (try dsimp only); rw [nu10]; (try dsimp only); (try rfl)) (by rw [ifc_pos (fun w => by rw [et2] at w; cases w)]; rw [sp_sg_s es4, sp_sg_s es6]; exact J9)) (fun v11 h11 hq => ?_)
            obtain ⟨rfl, R11⟩ := hq
            show xx_go (xt_P z) (d + 8) 272 119 [some (.ref (c + 30)), some (.int (iI o)), some (.int (iI e)), some (.ref a2), some (.ref y4), some (.ref y6), some (.null), none] [.null] h11 _
            exact go_r rfl rfl rfl rfl rfl rfl R11
          · obtain ⟨t10, et10, Ot10⟩ := OTR_ss Ow9_9
            have Oa10 : OTR s9.N (s9.I 8) NM.2.2.1 (some (rl n10 f10)) (some t10) := Ot10
            show xx_go (xt_P z) (d + 8) 272 111 [some (.ref (c + 30)), some (.int (iI o)), some (.int (iI e)), some (.ref a2), some (.ref y4), some (.ref y6), some (.ref a10), none] [.ref a10] h9 _
            refine go_a (pc' := 120) (ls' := [some (.ref (c + 30)), some (.int (iI o)), some (.int (iI e)), some (.ref a2), some (.ref y4), some (.ref y6), some (.ref a10), none]) (st' := []) rfl rfl ?_
            refine go_a (pc' := 122) (ls' := [some (.ref (c + 30)), some (.int (iI o)), some (.int (iI e)), some (.ref a2), some (.ref y4), some (.ref y6), some (.ref a10), none]) (st' := [.ref y6]) rfl rfl ?_
            refine go_a (pc' := 124) (ls' := [some (.ref (c + 30)), some (.int (iI o)), some (.int (iI e)), some (.ref a2), some (.ref y4), some (.ref y6), some (.ref a10), none]) (st' := [.ref a10, .ref y6]) rfl rfl ?_
            obtain ⟨mD11, wD11, OD11, nD11, fD11, DD11, eZ11⟩ := id Cy6_9
            refine go_v (m := 262) (as := [.ref y6, .ref a10]) (r := []) rfl rfl rfl cCy6_9 rfl rfl (kh_has z (d + 6) c h9 s9 _ y6 mD11 wD11 _ OD11 nD11 fD11 DD11 _ a10 n10 f10 T10) (fun v12 h12 hq => ?_)
            obtain ⟨hq, eq12⟩ := hq
            rw [eq12]
            clear eq12 h12
            rcases hq with ⟨rfl, hm12⟩ | ⟨rfl, hm12⟩
            · rw [eZ11] at hm12
              replace hm12 := (TRO_mem (KNT_ST (KST_KNT hP S9) S9.2.2.1 S9.2.1).2 (KST_KNT hP S9).2.2.2.2 Oa10 _ _ TOy6_9).mp hm12
              show xx_go (xt_P z) (d + 8) 272 127 [some (.ref (c + 30)), some (.int (iI o)), some (.int (iI e)), some (.ref a2), some (.ref y4), some (.ref y6), some (.ref a10), none] [.int (iI 1)] h9 _
              refine mi_ne0 (t := 136) rfl rfl (by omega) (by omega) (fun _ => ?_) (fun q => absurd (show (1 : Int) ≠ 0 by decide) q)
              have l12_13 : 12 ≤ h9.length := by have := ki_lt S9.1 (i := 0) (by decide); have := S9.1.2.1 0 (by decide); omega
              refine go_new (ci := 12) (fs := [.null, .int 0, .int 0, .int 0]) rfl rfl rfl ?_
              show xx_go (xt_P z) (d + 8) 272 139 [some (.ref (c + 30)), some (.int (iI o)), some (.int (iI e)), some (.ref a2), some (.ref y4), some (.ref y6), some (.ref a10), none] [.ref h9.length] (h9 ++ [.inr (12, [.null, .int 0, .int 0, .int 0])]) _
              refine go_a (pc' := 140) (ls' := [some (.ref (c + 30)), some (.int (iI o)), some (.int (iI e)), some (.ref a2), some (.ref y4), some (.ref y6), some (.ref a10), none]) (st' := [.ref h9.length, .ref h9.length]) rfl rfl ?_
              refine go_i (m := 257) (as := [.ref h9.length]) (r := [.ref h9.length]) rfl rfl rfl rfl rfl (kh_init z (d + 7) h9 l12_13) (fun v13 h13 hq => ?_)
              obtain ⟨rfl, rfl⟩ := hq
              obtain ⟨K13, X13, B13⟩ := mkC_CL (u := (s6.I 8)) S9.1
              have C13 : CL c (mkC h9) s9 (s6.I 8) h9.length 0 [] := ⟨_, _, _, _, _, B13, rfl⟩
              have S13 := KST_X S9 K13 X13
              obtain ⟨x13, ex13⟩ : ∃ q : Nat, q = h9.length := ⟨_, rfl⟩
              have ne_y4_x13 : y4 ≠ x13 := by have := (List.getElem?_eq_some_iff.mp cCy4_9).1; omega
              have ne_y6_x13 : y6 ≠ x13 := by have := (List.getElem?_eq_some_iff.mp cCy6_9).1; omega
              have Ta2_13 := TM_kx Ta2_9 X13
              have Ta10_13 := TM_kx T10 X13
              have Cy4_13 := CL_kx Cy4_9 X13
              obtain ⟨mCy4_13, wCy4_13, cCy4_13⟩ := CL_cell Cy4_13
              have Cy6_13 := CL_kx Cy6_9 X13
              obtain ⟨mCy6_13, wCy6_13, cCy6_13⟩ := CL_cell Cy6_13
              obtain ⟨hM13, eM13⟩ : ∃ q : xx_H, q = mkC h9 := ⟨_, rfl⟩
              have hx13 : hp.length ≤ x13 := by rw [ex13]; exact KST_len S9
              rw [← ex13] at C13
              rw [← eM13, ← ex13]
              obtain ⟨mC13, wC13, cC13⟩ := CL_cell C13
              rw [← eM13] at S13 C13 cC13 Ta2_13 Ta10_13 Cy4_13 cCy4_13 Cy6_13 cCy6_13
              clear B13 K13 X13
              show xx_go (xt_P z) (d + 8) 272 143 [some (.ref (c + 30)), some (.int (iI o)), some (.int (iI e)), some (.ref a2), some (.ref y4), some (.ref y6), some (.ref a10), none] [.ref x13] hM13 _
              refine go_a (pc' := 145) (ls' := [some (.ref (c + 30)), some (.int (iI o)), some (.int (iI e)), some (.ref a2), some (.ref y4), some (.ref y6), some (.ref a10), some (.ref x13)]) (st' := []) rfl rfl ?_
              refine go_a (pc' := 147) (ls' := [some (.ref (c + 30)), some (.int (iI o)), some (.int (iI e)), some (.ref a2), some (.ref y4), some (.ref y6), some (.ref a10), some (.ref x13)]) (st' := [.ref x13]) rfl rfl ?_
              refine go_a (pc' := 148) (ls' := [some (.ref (c + 30)), some (.int (iI o)), some (.int (iI e)), some (.ref a2), some (.ref y4), some (.ref y6), some (.ref a10), some (.ref x13)]) (st' := [.ref a2, .ref x13]) rfl rfl ?_
              refine go_a (pc' := 150) (ls' := [some (.ref (c + 30)), some (.int (iI o)), some (.int (iI e)), some (.ref a2), some (.ref y4), some (.ref y6), some (.ref a10), some (.ref x13)]) (st' := [.ref y4, .ref a2, .ref x13]) rfl rfl ?_
              obtain ⟨mD14, wD14, OD14, nD14, fD14, DD14, eZ14⟩ := id Cy4_13
              refine go_v (m := 278) (as := [.ref x13, .ref a2, .ref y4]) (r := []) rfl rfl rfl cC13 rfl rfl (kh_addAllBut z (d + 4) c hM13 s9 _ x13 _ _ y4 mD14 wD14 _ OD14 nD14 fD14 a2 n2 f2 ne_y4_x13 DD14 C13 Ta2_13) (fun v15 h15 hq => ?_)
              obtain ⟨rfl, F15, b15, Z15, q15, C15⟩ := hq
              have hz15 := q15
              have S15 := KST_fe S13 C13 hx13 F15
              have Ta2_15 := TM_fe C13 F15 Ta2_13
              have Ta10_15 := TM_fe C13 F15 Ta10_13
              have Cy4_15 := CL_fe C13 F15 ne_y4_x13 Cy4_13
              obtain ⟨mCy4_15, wCy4_15, cCy4_15⟩ := CL_cell Cy4_15
              have Cy6_15 := CL_fe C13 F15 ne_y6_x13 Cy6_13
              obtain ⟨mCy6_15, wCy6_15, cCy6_15⟩ := CL_cell Cy6_15
              obtain ⟨mC15, wC15, cC15⟩ := CL_cell C15
              show xx_go (xt_P z) (d + 8) 272 153 [some (.ref (c + 30)), some (.int (iI o)), some (.int (iI e)), some (.ref a2), some (.ref y4), some (.ref y6), some (.ref a10), some (.ref x13)] [] h15 _
              refine go_a (pc' := 155) (ls' := [some (.ref (c + 30)), some (.int (iI o)), some (.int (iI e)), some (.ref a2), some (.ref y4), some (.ref y6), some (.ref a10), some (.ref x13)]) (st' := [.ref x13]) rfl rfl ?_
              refine go_a (pc' := 157) (ls' := [some (.ref (c + 30)), some (.int (iI o)), some (.int (iI e)), some (.ref a2), some (.ref y4), some (.ref y6), some (.ref a10), some (.ref x13)]) (st' := [.ref a10, .ref x13]) rfl rfl ?_
              refine go_a (pc' := 159) (ls' := [some (.ref (c + 30)), some (.int (iI o)), some (.int (iI e)), some (.ref a2), some (.ref y4), some (.ref y6), some (.ref a10), some (.ref x13)]) (st' := [.ref y6, .ref a10, .ref x13]) rfl rfl ?_
              obtain ⟨mD16, wD16, OD16, nD16, fD16, DD16, eZ16⟩ := id Cy6_15
              refine go_v (m := 278) (as := [.ref x13, .ref a10, .ref y6]) (r := []) rfl rfl rfl cC15 rfl rfl (kh_addAllBut z (d + 4) c h15 s9 _ x13 _ _ y6 mD16 wD16 _ OD16 nD16 fD16 a10 n10 f10 ne_y6_x13 DD16 C15 Ta10_15) (fun v17 h17 hq => ?_)
              obtain ⟨rfl, F17, b17, Z17, q17, C17⟩ := hq
              have hz17 := q17
              have S17 := KST_fe S15 C15 hx13 F17
              have Ta2_17 := TM_fe C15 F17 Ta2_15
              have Ta10_17 := TM_fe C15 F17 Ta10_15
              have Cy4_17 := CL_fe C15 F17 ne_y4_x13 Cy4_15
              obtain ⟨mCy4_17, wCy4_17, cCy4_17⟩ := CL_cell Cy4_17
              have Cy6_17 := CL_fe C15 F17 ne_y6_x13 Cy6_15
              obtain ⟨mCy6_17, wCy6_17, cCy6_17⟩ := CL_cell Cy6_17
              obtain ⟨mC17, wC17, cC17⟩ := CL_cell C17
              show xx_go (xt_P z) (d + 8) 272 162 [some (.ref (c + 30)), some (.int (iI o)), some (.int (iI e)), some (.ref a2), some (.ref y4), some (.ref y6), some (.ref a10), some (.ref x13)] [] h17 _
              have hzz := hz_app (hz_app (R1 := []) rfl hz15) hz17
              refine go_a (pc' := 163) (ls' := [some (.ref (c + 30)), some (.int (iI o)), some (.int (iI e)), some (.ref a2), some (.ref y4), some (.ref y6), some (.ref a10), some (.ref x13)]) (st' := [.ref (c + 30)]) rfl rfl ?_
              refine go_a (pc' := 165) (ls' := [some (.ref (c + 30)), some (.int (iI o)), some (.int (iI e)), some (.ref a2), some (.ref y4), some (.ref y6), some (.ref a10), some (.ref x13)]) (st' := [.ref x13, .ref (c + 30)]) rfl rfl ?_
              refine go_v (m := 265) (as := [.ref (c + 30), .ref x13]) (r := []) rfl rfl rfl (S17.1.1 19 (by decide)) rfl rfl (kq_fin z (d + 6) (w := WD (SD s) o) (ρ := (sp_cut NM.2.2.1 F (DK s.N o) (s.I 17))) (σ := (sp_sg F G (ifc (sp_tm NM.2.2.1 (sp_p 1 (DK s.N o)) ≠ none) [sp_p 2 (DK s.N o), sp_p 3 (DK s.N o)] []) (s.I 17))) hP S17 C17 (ITR_app _ _ (ITR_of (TRO_rm (KNT_ST (KST_KNT hP S17) S17.2.2.1 S17.2.1).2 (KST_KNT hP S17).2.2.2.2 Oa2_9 (show TRO s9.N (s9.I 8) NM.2.2.1 (ol _ _ _) D4 by rw [eZ14]; exact TOy4_9))) (ITR_of (TRO_rm (KNT_ST (KST_KNT hP S17) S17.2.2.1 S17.2.1).2 (KST_KNT hP S17).2.2.2.2 Oa10 (show TRO s9.N (s9.I 8) NM.2.2.1 (ol _ _ _) D6 by rw [eZ16]; exact TOy6_9)))) hzz (by unfold sp_cut; rw [et2]; (try dsimp only); rw [Option.bind_some]; (try dsimp only); rw [es4]; (try dsimp only); rw [Option.bind_some]; (try dsimp only); rw [es6]; (try dsimp only); rw [Option.bind_some]; (try dsimp only); rw [et10]; (try dsimp only); rw [Option.bind_some]; (try dsimp only); rw [ifc_pos ⟨hm8, hm12⟩, J9]; (try rfl)) (by rw [ifc_pos (fun w => by rw [et2] at w; cases w)]; rw [sp_sg_s es4, sp_sg_s es6]; exact J9) e9 hx13 (by omega) (by omega) (by omega)) (fun v18 h18 hq => ?_)
              rcases hq with ⟨rfl, R18⟩ | ⟨r18, rfl, R18⟩
              · exact go_r rfl rfl rfl rfl rfl rfl R18
              · exact go_r rfl rfl rfl rfl rfl rfl R18
            · rw [eZ11] at hm12
              replace hm12 := fun w => hm12 ((TRO_mem (KNT_ST (KST_KNT hP S9) S9.2.2.1 S9.2.1).2 (KST_KNT hP S9).2.2.2.2 Oa10 _ _ TOy6_9).mpr w)
              show xx_go (xt_P z) (d + 8) 272 127 [some (.ref (c + 30)), some (.int (iI o)), some (.int (iI e)), some (.ref a2), some (.ref y4), some (.ref y6), some (.ref a10), none] [.int (iI 0)] h9 _
              refine mi_ne0 (t := 136) rfl rfl (by omega) (by omega) (fun q => absurd rfl q) (fun _ => ?_)
              refine go_a (pc' := 131) (ls' := [some (.ref (c + 30)), some (.int (iI o)), some (.int (iI e)), some (.ref a2), some (.ref y4), some (.ref y6), some (.ref a10), none]) (st' := [.ref (c + 30)]) rfl rfl ?_
              refine go_a (pc' := 132) (ls' := [some (.ref (c + 30)), some (.int (iI o)), some (.int (iI e)), some (.ref a2), some (.ref y4), some (.ref y6), some (.ref a10), none]) (st' := [.int (iI o), .ref (c + 30)]) rfl rfl ?_
              refine go_v (m := 248) (as := [.ref (c + 30), .int (iI o)]) (r := []) rfl rfl rfl (S9.1.1 19 (by decide)) rfl rfl (kq_failAtP z (d + 7) (w := WD (SD s) o) S9 (by omega) (by omega) (by omega) (by omega) (by omega) (ft := NM.2.2.1) (ρ := (sp_cut NM.2.2.1 F (DK s.N o) (s.I 17))) (σ := (sp_sg F G (ifc (sp_tm NM.2.2.1 (sp_p 1 (DK s.N o)) ≠ none) [sp_p 2 (DK s.N o), sp_p 3 (DK s.N o)] []) (s.I 17))) (by unfold sp_cut; rw [et2]; (try dsimp only); rw [Option.bind_some]; (try dsimp only); rw [es4]; (try dsimp only); rw [Option.bind_some]; (try dsimp only); rw [es6]; (try dsimp only); rw [Option.bind_some]; (try dsimp only); rw [et10]; (try dsimp only); rw [Option.bind_some]; (try dsimp only); exact ifc_neg (fun w => hm12 w.2)) (by rw [ifc_pos (fun w => by rw [et2] at w; cases w)]; rw [sp_sg_s es4, sp_sg_s es6]; exact J9)) (fun v13 h13 hq => ?_)
              obtain ⟨rfl, R13⟩ := hq
              show xx_go (xt_P z) (d + 8) 272 135 [some (.ref (c + 30)), some (.int (iI o)), some (.int (iI e)), some (.ref a2), some (.ref y4), some (.ref y6), some (.ref a10), none] [.null] h13 _
              exact go_r rfl rfl rfl rfl rfl rfl R13
        · rw [eZ7] at hm8
          replace hm8 := fun w => hm8 ((TRO_mem (KNT_ST (KST_KNT hP S6) S6.2.2.1 S6.2.1).2 (KST_KNT hP S6).2.2.2.2 Oa2_6 _ _ TOy4_6).mpr w)
          show xx_go (xt_P z) (d + 8) 272 90 [some (.ref (c + 30)), some (.int (iI o)), some (.int (iI e)), some (.ref a2), some (.ref y4), some (.ref y6), none, none] [.int (iI 0)] h6 _
          refine mi_ne0 (t := 99) rfl rfl (by omega) (by omega) (fun q => absurd rfl q) (fun _ => ?_)
          refine go_a (pc' := 94) (ls' := [some (.ref (c + 30)), some (.int (iI o)), some (.int (iI e)), some (.ref a2), some (.ref y4), some (.ref y6), none, none]) (st' := [.ref (c + 30)]) rfl rfl ?_
          refine go_a (pc' := 95) (ls' := [some (.ref (c + 30)), some (.int (iI o)), some (.int (iI e)), some (.ref a2), some (.ref y4), some (.ref y6), none, none]) (st' := [.int (iI o), .ref (c + 30)]) rfl rfl ?_
          refine go_v (m := 248) (as := [.ref (c + 30), .int (iI o)]) (r := []) rfl rfl rfl (S6.1.1 19 (by decide)) rfl rfl (kq_failAtP z (d + 7) (w := WD (SD s) o) S6 (by omega) (by omega) (by omega) (by omega) (by omega) (ft := NM.2.2.1) (ρ := (sp_cut NM.2.2.1 F (DK s.N o) (s.I 17))) (σ := (sp_sg F G (ifc (sp_tm NM.2.2.1 (sp_p 1 (DK s.N o)) ≠ none) [sp_p 2 (DK s.N o), sp_p 3 (DK s.N o)] []) (s.I 17))) (by unfold sp_cut; rw [et2]; (try dsimp only); rw [Option.bind_some]; (try dsimp only); rw [es4]; (try dsimp only); rw [Option.bind_some]; (try dsimp only); rw [es6]; (try dsimp only); rw [Option.bind_some]; (try dsimp only); (cases sp_ntO (some t2) with | none => rfl | some nl => exact ifc_neg (fun w => hm8 w.1))) (by rw [ifc_pos (fun w => by rw [et2] at w; cases w)]; rw [sp_sg_s es4, sp_sg_s es6]; exact J6)) (fun v9 h9 hq => ?_)
          obtain ⟨rfl, R9⟩ := hq
          show xx_go (xt_P z) (d + 8) 272 98 [some (.ref (c + 30)), some (.int (iI o)), some (.int (iI e)), some (.ref a2), some (.ref y4), some (.ref y6), none, none] [.null] h9 _
          exact go_r rfl rfl rfl rfl rfl rfl R9
