theorem kq_put (z : Value) (d c : Nat) (o : Int) (q : Nat) (hp : xx_H) (s : KS) (NM : BKM) (hP : KPS c hp s NM) (ho : OB s o) (hL : isL (SD s) q o) (r2 : pi s 0 o ≠ 2) (w9 : WD (SD s) o ≤ 1000) (l25 : s.I 8 + WD (SD s) o ≤ 25000) (e fu : Int) (F : ob_T → Int → Option (List ob_T × Int)) (G : ob_T → Int → Int) (R : PRC z (d + 8) c (e + 1) NM fu F G) (hf : s.I 16 = fu) (hq : q = 3) : xx_cl (xt_P z) (d + 9) 283 [.ref (c + 30), .int (iI o), .int (iI e)] hp (fun v h1 => PRP c hp s (WD (SD s) o) NM.2.2.1 (sp_put F (DK s.N o) (s.I 17)) (sp_sg F G [sp_p 1 (DK s.N o), sp_p 2 (DK s.N o)] (s.I 17)) v h1) := by
  have S0 := KST_rf hP
  have e0 : s.I 8 = s.I 8 := rfl
  have lu : s.I 8 ≤ 25000 := hP.2.2.2.2.2.2.2.1
  have u38 := KB_38 hP.2.1
  have J0 : s.I 17 = s.I 17 := rfl
  have fB := KNT_FTB hP.2.2.2.2.2.2.2.2
  have oR := OB_R hP.2.1 ho
  have W := PI_W hP.2.2.1 ho hL (by omega) r2
  have p0 : VD (SD s) (rt (SD s) 0 o) = WD (SD s) (pi s 0 o) + VD (SD s) (rt (SD s) 1 o) ∧ OB s (pi s 0 o) ∧ 1 ≤ WD (SD s) (pi s 0 o) ∧ 0 ≤ VD (SD s) (rt (SD s) 1 o) := PI_w hP.2.2.1 ho hL (j := 0) (by omega)
  have p1 : VD (SD s) (rt (SD s) 1 o) = WD (SD s) (pi s 1 o) + VD (SD s) (rt (SD s) 2 o) ∧ OB s (pi s 1 o) ∧ 1 ≤ WD (SD s) (pi s 1 o) ∧ 0 ≤ VD (SD s) (rt (SD s) 2 o) := PI_w hP.2.2.1 ho hL (j := 1) (by omega)
  have p2 : VD (SD s) (rt (SD s) 2 o) = WD (SD s) (pi s 2 o) + VD (SD s) (rt (SD s) 3 o) ∧ OB s (pi s 2 o) ∧ 1 ≤ WD (SD s) (pi s 2 o) ∧ 0 ≤ VD (SD s) (rt (SD s) 3 o) := PI_w hP.2.2.1 ho hL (j := 2) (by omega)
  obtain ⟨p0, o0, i0, j0⟩ := p0
  obtain ⟨p1, o1, i1, j1⟩ := p1
  obtain ⟨p2, o2, i2, j2⟩ := p2
  refine cl_go rfl ?_
  show xx_go (xt_P z) (d + 8) 283 0 [some (.ref (c + 30)), some (.int (iI o)), some (.int (iI e)), none, none, none, none, none, none, none] [] hp _
  refine go_a (pc' := 1) (ls' := [some (.ref (c + 30)), some (.int (iI o)), some (.int (iI e)), none, none, none, none, none, none, none]) (st' := [.ref (c + 30)]) rfl rfl ?_
  refine go_a (pc' := 2) (ls' := [some (.ref (c + 30)), some (.int (iI o)), some (.int (iI e)), none, none, none, none, none, none, none]) (st' := [.ref (c + 30), .ref (c + 30)]) rfl rfl ?_
  refine go_get (v := .ref (c + 4)) rfl (S0.1.1 19 (by decide)) rfl rfl ?_
  refine go_a (pc' := 6) (ls' := [some (.ref (c + 30)), some (.int (iI o)), some (.int (iI e)), none, none, none, none, none, none, none]) (st' := [.int (iI o), .ref (c + 4), .ref (c + 30)]) rfl rfl ?_
  refine go_a (pc' := 7) (ls' := [some (.ref (c + 30)), some (.int (iI o)), some (.int (iI e)), none, none, none, none, none, none, none]) (st' := [.int (iI 1), .int (iI o), .ref (c + 4), .ref (c + 30)]) rfl rfl ?_
  refine go_v (m := 202) (as := [.ref (c + 4), .int (iI o), .int (iI 1)]) (r := [.ref (c + 30)]) rfl rfl rfl (S0.1.1 3 (by decide)) rfl rfl (kq_part z (d + 6) S0 hP.2.2.1 ho hL (by omega) (by omega) (by omega)) (fun v1 h1 hq => ?_)
  obtain ⟨rfl, eq1⟩ := hq
  rw [eq1]
  clear eq1 h1
  show xx_go (xt_P z) (d + 8) 283 10 [some (.ref (c + 30)), some (.int (iI o)), some (.int (iI e)), none, none, none, none, none, none, none] [.int (iI (pi s 1 o)), .ref (c + 30)] hp _
  refine go_a (pc' := 11) (ls' := [some (.ref (c + 30)), some (.int (iI o)), some (.int (iI e)), none, none, none, none, none, none, none]) (st' := [.int (iI e), .int (iI (pi s 1 o)), .ref (c + 30)]) rfl rfl ?_
  refine go_a (pc' := 12) (ls' := [some (.ref (c + 30)), some (.int (iI o)), some (.int (iI e)), none, none, none, none, none, none, none]) (st' := [.int (iI 1), .int (iI e), .int (iI (pi s 1 o)), .ref (c + 30)]) rfl rfl ?_
  refine mi_add rfl ?_
  refine go_v (m := 245) (as := [.ref (c + 30), .int (iI (pi s 1 o)), .int (iI (e + 1))]) (r := []) rfl rfl rfl (S0.1.1 19 (by decide)) rfl rfl (kq_sub R hP S0 hf o1 (by omega) (by omega)) (fun v2 h2 hq => ?_)
  obtain ⟨s2, hv⟩ := hq
  rcases hv with ⟨rfl, en2, eg2, S2, Q2⟩ | ⟨y2, Z2, D2, rfl, l2, C2, ⟨TO2, es2⟩, S2, g2, PS2, Q2⟩
  · rw [PI_D hP ho hL (j := 1) (by omega), J0] at en2 eg2
    show xx_go (xt_P z) (d + 8) 283 16 [some (.ref (c + 30)), some (.int (iI o)), some (.int (iI e)), none, none, none, none, none, none, none] [.null] h2 _
    refine go_a (pc' := 17) (ls' := [some (.ref (c + 30)), some (.int (iI o)), some (.int (iI e)), some (.null), none, none, none, none, none, none]) (st' := []) rfl rfl ?_
    refine go_a (pc' := 18) (ls' := [some (.ref (c + 30)), some (.int (iI o)), some (.int (iI e)), some (.null), none, none, none, none, none, none]) (st' := [.null]) rfl rfl ?_
    refine go_a (pc' := 21) (ls' := [some (.ref (c + 30)), some (.int (iI o)), some (.int (iI e)), some (.null), none, none, none, none, none, none]) (st' := []) rfl rfl ?_
    refine go_a (pc' := 22) (ls' := [some (.ref (c + 30)), some (.int (iI o)), some (.int (iI e)), some (.null), none, none, none, none, none, none]) (st' := [.null]) rfl rfl ?_
    refine go_a (pc' := 41) (ls' := [some (.ref (c + 30)), some (.int (iI o)), some (.int (iI e)), some (.null), none, none, none, none, none, none]) (st' := [.null]) rfl rfl ?_
    refine go_a (pc' := 43) (ls' := [some (.ref (c + 30)), some (.int (iI o)), some (.int (iI e)), some (.null), some (.null), none, none, none, none, none]) (st' := []) rfl rfl ?_
    refine go_a (pc' := 44) (ls' := [some (.ref (c + 30)), some (.int (iI o)), some (.int (iI e)), some (.null), some (.null), none, none, none, none, none]) (st' := [.null]) rfl rfl ?_
    refine go_a (pc' := 52) (ls' := [some (.ref (c + 30)), some (.int (iI o)), some (.int (iI e)), some (.null), some (.null), none, none, none, none, none]) (st' := []) rfl rfl ?_
    refine go_a (pc' := 53) (ls' := [some (.ref (c + 30)), some (.int (iI o)), some (.int (iI e)), some (.null), some (.null), none, none, none, none, none]) (st' := [.null]) rfl rfl ?_
    exact go_r rfl rfl rfl rfl rfl rfl ⟨_, Or.inl ⟨rfl, (by unfold sp_put; rw [en2]; (try dsimp only); (try rfl)), (by rw [sp_sg_n en2]; exact eg2), KST_w S2 (by omega) (by omega) (by omega)⟩⟩
  · rw [PI_D hP ho hL (j := 1) (by omega), J0] at es2
    have J2 : s2.I 17 = s2.I 17 := rfl
    have z2 := S2.2.2.2.2.2.1
    have lu2 : s2.I 8 ≤ 25000 := by omega
    have e2 : s2.I 8 = s2.I 8 := rfl
    have u38 := KB_38 S2.2.1
    obtain ⟨mC2, wC2, cC2⟩ := CL_cell C2
    show xx_go (xt_P z) (d + 8) 283 16 [some (.ref (c + 30)), some (.int (iI o)), some (.int (iI e)), none, none, none, none, none, none, none] [.ref y2] h2 _
    refine go_a (pc' := 17) (ls' := [some (.ref (c + 30)), some (.int (iI o)), some (.int (iI e)), some (.ref y2), none, none, none, none, none, none]) (st' := []) rfl rfl ?_
    refine go_a (pc' := 18) (ls' := [some (.ref (c + 30)), some (.int (iI o)), some (.int (iI e)), some (.ref y2), none, none, none, none, none, none]) (st' := [.ref y2]) rfl rfl ?_
    refine go_a (pc' := 25) (ls' := [some (.ref (c + 30)), some (.int (iI o)), some (.int (iI e)), some (.ref y2), none, none, none, none, none, none]) (st' := []) rfl rfl ?_
    refine go_a (pc' := 26) (ls' := [some (.ref (c + 30)), some (.int (iI o)), some (.int (iI e)), some (.ref y2), none, none, none, none, none, none]) (st' := [.ref (c + 30)]) rfl rfl ?_
    refine go_a (pc' := 27) (ls' := [some (.ref (c + 30)), some (.int (iI o)), some (.int (iI e)), some (.ref y2), none, none, none, none, none, none]) (st' := [.ref (c + 30), .ref (c + 30)]) rfl rfl ?_
    refine go_get (v := .ref (c + 4)) rfl (S2.1.1 19 (by decide)) rfl rfl ?_
    refine go_a (pc' := 31) (ls' := [some (.ref (c + 30)), some (.int (iI o)), some (.int (iI e)), some (.ref y2), none, none, none, none, none, none]) (st' := [.int (iI o), .ref (c + 4), .ref (c + 30)]) rfl rfl ?_
    refine go_a (pc' := 32) (ls' := [some (.ref (c + 30)), some (.int (iI o)), some (.int (iI e)), some (.ref y2), none, none, none, none, none, none]) (st' := [.int (iI 2), .int (iI o), .ref (c + 4), .ref (c + 30)]) rfl rfl ?_
    refine go_v (m := 202) (as := [.ref (c + 4), .int (iI o), .int (iI 2)]) (r := [.ref (c + 30)]) rfl rfl rfl (S2.1.1 3 (by decide)) rfl rfl (kq_part z (d + 6) S2 hP.2.2.1 ho hL (by omega) (by omega) (by omega)) (fun v3 h3 hq => ?_)
    obtain ⟨rfl, eq3⟩ := hq
    rw [eq3]
    clear eq3 h3
    show xx_go (xt_P z) (d + 8) 283 35 [some (.ref (c + 30)), some (.int (iI o)), some (.int (iI e)), some (.ref y2), none, none, none, none, none, none] [.int (iI (pi s 2 o)), .ref (c + 30)] h2 _
    refine go_a (pc' := 36) (ls' := [some (.ref (c + 30)), some (.int (iI o)), some (.int (iI e)), some (.ref y2), none, none, none, none, none, none]) (st' := [.int (iI e), .int (iI (pi s 2 o)), .ref (c + 30)]) rfl rfl ?_
    refine go_a (pc' := 37) (ls' := [some (.ref (c + 30)), some (.int (iI o)), some (.int (iI e)), some (.ref y2), none, none, none, none, none, none]) (st' := [.int (iI 1), .int (iI e), .int (iI (pi s 2 o)), .ref (c + 30)]) rfl rfl ?_
    refine mi_add rfl ?_
    refine go_v (m := 245) (as := [.ref (c + 30), .int (iI (pi s 2 o)), .int (iI (e + 1))]) (r := []) rfl rfl rfl (S2.1.1 19 (by decide)) rfl rfl (kq_sub R hP S2 hf o2 (by omega) (by omega)) (fun v4 h4 hq => ?_)
    obtain ⟨s4, hv⟩ := hq
    rcases hv with ⟨rfl, en4, eg4, S4, Q4⟩ | ⟨y4, Z4, D4, rfl, l4, C4, ⟨TO4, es4⟩, S4, g4, PS4, Q4⟩
    · rw [PI_D hP ho hL (j := 2) (by omega), J2] at en4 eg4
      show xx_go (xt_P z) (d + 8) 283 41 [some (.ref (c + 30)), some (.int (iI o)), some (.int (iI e)), some (.ref y2), none, none, none, none, none, none] [.null] h4 _
      refine go_a (pc' := 43) (ls' := [some (.ref (c + 30)), some (.int (iI o)), some (.int (iI e)), some (.ref y2), some (.null), none, none, none, none, none]) (st' := []) rfl rfl ?_
      refine go_a (pc' := 44) (ls' := [some (.ref (c + 30)), some (.int (iI o)), some (.int (iI e)), some (.ref y2), some (.null), none, none, none, none, none]) (st' := [.ref y2]) rfl rfl ?_
      refine go_a (pc' := 47) (ls' := [some (.ref (c + 30)), some (.int (iI o)), some (.int (iI e)), some (.ref y2), some (.null), none, none, none, none, none]) (st' := []) rfl rfl ?_
      refine go_a (pc' := 49) (ls' := [some (.ref (c + 30)), some (.int (iI o)), some (.int (iI e)), some (.ref y2), some (.null), none, none, none, none, none]) (st' := [.null]) rfl rfl ?_
      refine go_a (pc' := 52) (ls' := [some (.ref (c + 30)), some (.int (iI o)), some (.int (iI e)), some (.ref y2), some (.null), none, none, none, none, none]) (st' := []) rfl rfl ?_
      refine go_a (pc' := 53) (ls' := [some (.ref (c + 30)), some (.int (iI o)), some (.int (iI e)), some (.ref y2), some (.null), none, none, none, none, none]) (st' := [.null]) rfl rfl ?_
      exact go_r rfl rfl rfl rfl rfl rfl ⟨_, Or.inl ⟨rfl, (by unfold sp_put; rw [es2]; (try dsimp only); rw [Option.bind_some]; (try dsimp only); rw [en4]; (try dsimp only); (try rfl)), (by rw [sp_sg_s es2, sp_sg_n en4]; exact eg4), KST_w S4 (by omega) (by omega) (by omega)⟩⟩
    · rw [PI_D hP ho hL (j := 2) (by omega), J2] at es4
      have J4 : s4.I 17 = s4.I 17 := rfl
      have TOy2_4 := KST_TRO PS4 Q4 TO2
      have z4 := S4.2.2.2.2.2.1
      have lu4 : s4.I 8 ≤ 25000 := by omega
      have e4 : s4.I 8 = s4.I 8 := rfl
      have u38 := KB_38 S4.2.1
      have Cy2_4 := CL_u (CL_kx C2 Q4.2.2.2.2.1) (show _ ≤ s4.I 8 by omega)
      obtain ⟨mCy2_4, wCy2_4, cCy2_4⟩ := CL_cell Cy2_4
      obtain ⟨mC4, wC4, cC4⟩ := CL_cell C4
      show xx_go (xt_P z) (d + 8) 283 41 [some (.ref (c + 30)), some (.int (iI o)), some (.int (iI e)), some (.ref y2), none, none, none, none, none, none] [.ref y4] h4 _
      refine go_a (pc' := 43) (ls' := [some (.ref (c + 30)), some (.int (iI o)), some (.int (iI e)), some (.ref y2), some (.ref y4), none, none, none, none, none]) (st' := []) rfl rfl ?_
      refine go_a (pc' := 44) (ls' := [some (.ref (c + 30)), some (.int (iI o)), some (.int (iI e)), some (.ref y2), some (.ref y4), none, none, none, none, none]) (st' := [.ref y2]) rfl rfl ?_
      refine go_a (pc' := 47) (ls' := [some (.ref (c + 30)), some (.int (iI o)), some (.int (iI e)), some (.ref y2), some (.ref y4), none, none, none, none, none]) (st' := []) rfl rfl ?_
      refine go_a (pc' := 49) (ls' := [some (.ref (c + 30)), some (.int (iI o)), some (.int (iI e)), some (.ref y2), some (.ref y4), none, none, none, none, none]) (st' := [.ref y4]) rfl rfl ?_
      refine go_a (pc' := 54) (ls' := [some (.ref (c + 30)), some (.int (iI o)), some (.int (iI e)), some (.ref y2), some (.ref y4), none, none, none, none, none]) (st' := []) rfl rfl ?_
      refine go_a (pc' := 55) (ls' := [some (.ref (c + 30)), some (.int (iI o)), some (.int (iI e)), some (.ref y2), some (.ref y4), none, none, none, none, none]) (st' := [.ref y2]) rfl rfl ?_
      refine go_a (pc' := 56) (ls' := [some (.ref (c + 30)), some (.int (iI o)), some (.int (iI e)), some (.ref y2), some (.ref y4), none, none, none, none, none]) (st' := [.int (iI 0), .ref y2]) rfl rfl ?_
      obtain ⟨mD5, wD5, OD5, nD5, fD5, DD5, eZ5⟩ := id Cy2_4
      refine go_v (m := 263) (as := [.ref y2, .int (iI 0)]) (r := []) rfl rfl rfl cCy2_4 rfl rfl (kh_at z (d + 7) c 0 h4 s4 _ y2 mD5 wD5 _ OD5 nD5 fD5 DD5 (by decide) (by decide)) (fun v6 h6 hq => ?_)
      obtain ⟨hq, eq6⟩ := hq
      rw [eq6]
      clear eq6 h6
      rcases hq with ⟨a6, rfl, am, -, T6⟩ | ⟨rfl, am⟩
      · show xx_go (xt_P z) (d + 8) 283 59 [some (.ref (c + 30)), some (.int (iI o)), some (.int (iI e)), some (.ref y2), some (.ref y4), none, none, none, none, none] [.ref a6] h4 _
        have TOo : TRO s4.N (s4.I 8) NM.2.2.1 (ol mD5 nD5 fD5) D2 := by rw [eZ5]; exact TOy2_4
        obtain ⟨tt, DT, dt, Ot⟩ := TRO_hd TOo (by omega)
        have KN := KST_KNT hP S4
        have nn := TM_n T6
        have t0 : tat (nD5 0) (fD5 0) 0 = (fD5 0) 0 := if_pos (by omega)
        have tR := (TMp T6).1.2.2.2 0
        refine go_a (pc' := 61) (ls' := [some (.ref (c + 30)), some (.int (iI o)), some (.int (iI e)), some (.ref y2), some (.ref y4), some (.ref a6), none, none, none, none]) (st' := []) rfl rfl ?_
        refine go_a (pc' := 63) (ls' := [some (.ref (c + 30)), some (.int (iI o)), some (.int (iI e)), some (.ref y2), some (.ref y4), some (.ref a6), none, none, none, none]) (st' := [.ref a6]) rfl rfl ?_
        refine go_a (pc' := 66) (ls' := [some (.ref (c + 30)), some (.int (iI o)), some (.int (iI e)), some (.ref y2), some (.ref y4), some (.ref a6), none, none, none, none]) (st' := []) rfl rfl ?_
        refine go_a (pc' := 68) (ls' := [some (.ref (c + 30)), some (.int (iI o)), some (.int (iI e)), some (.ref y2), some (.ref y4), some (.ref a6), none, none, none, none]) (st' := [.ref a6]) rfl rfl ?_
        refine go_a (pc' := 69) (ls' := [some (.ref (c + 30)), some (.int (iI o)), some (.int (iI e)), some (.ref y2), some (.ref y4), some (.ref a6), none, none, none, none]) (st' := [.int (iI 0), .ref a6]) rfl rfl ?_
        refine go_v (m := 230) (as := [.ref a6, .int (iI 0)]) (r := []) rfl rfl rfl (TMp T6).1.1 rfl rfl (kg_at z (d + 7) 0 a6 (a6 + 1) (nD5 0) (fD5 0) h4 (TMp T6).1 (by decide) (by decide)) (fun v7 h7 hq => ?_)
        obtain ⟨rfl, eq7⟩ := hq
        rw [eq7, t0]
        clear eq7 h7
        show xx_go (xt_P z) (d + 8) 283 72 [some (.ref (c + 30)), some (.int (iI o)), some (.int (iI e)), some (.ref y2), some (.ref y4), some (.ref a6), none, none, none, none] [.int (iI ((fD5 0) 0))] h4 _
        refine go_a (pc' := 75) (ls' := [some (.ref (c + 30)), some (.int (iI o)), some (.int (iI e)), some (.ref y2), some (.ref y4), some (.ref a6), none, none, none, none]) (st' := [.int (iI 138), .int (iI ((fD5 0) 0))]) rfl rfl ?_
        refine mi_eq (t := 84) rfl rfl (by omega) (by omega) (by omega) (by omega) (fun w1 => ?_) (fun w1 => ?_)
        · obtain ⟨ta, tb, et0, Oa, Ob, q1, q2, q3⟩ := eq_tr T6.2.1 nn.1 KN.2.2.2.2 fB.2.1 Ot w1
          refine go_a (pc' := 86) (ls' := [some (.ref (c + 30)), some (.int (iI o)), some (.int (iI e)), some (.ref y2), some (.ref y4), some (.ref a6), none, none, none, none]) (st' := [.ref a6]) rfl rfl ?_
          refine go_a (pc' := 87) (ls' := [some (.ref (c + 30)), some (.int (iI o)), some (.int (iI e)), some (.ref y2), some (.ref y4), some (.ref a6), none, none, none, none]) (st' := [.int (iI 1), .ref a6]) rfl rfl ?_
          refine go_v (m := 274) (as := [.ref a6, .int (iI 1)]) (r := []) rfl rfl rfl (TMp T6).1.1 rfl rfl (kq_partT z (d + 4) S4.1 S4.2.1 T6 (by omega) (by omega)) (fun v8 h8 hq => ?_)
          obtain ⟨a8, n8, f8, rfl, E8, T8, pn8, pf8⟩ := hq
          have S8 := KST_STE S4 E8
          have Ta6_8 := TM_kx T6 E8.2.2.2
          have Cy2_8 := CL_kx Cy2_4 E8.2.2.2
          obtain ⟨mCy2_8, wCy2_8, cCy2_8⟩ := CL_cell Cy2_8
          have Cy4_8 := CL_kx C4 E8.2.2.2
          obtain ⟨mCy4_8, wCy4_8, cCy4_8⟩ := CL_cell Cy4_8
          show xx_go (xt_P z) (d + 8) 283 90 [some (.ref (c + 30)), some (.int (iI o)), some (.int (iI e)), some (.ref y2), some (.ref y4), some (.ref a6), none, none, none, none] [.ref a8] h8 _
          have Op8 : OTR s4.N (s4.I 8) NM.2.2.1 (some (rl n8 f8)) (some ta) := by rw [pn8, pf8]; exact Oa
          refine go_a (pc' := 92) (ls' := [some (.ref (c + 30)), some (.int (iI o)), some (.int (iI e)), some (.ref y2), some (.ref y4), some (.ref a6), some (.ref a8), none, none, none]) (st' := []) rfl rfl ?_
          refine go_a (pc' := 94) (ls' := [some (.ref (c + 30)), some (.int (iI o)), some (.int (iI e)), some (.ref y2), some (.ref y4), some (.ref a6), some (.ref a8), none, none, none]) (st' := [.ref a6]) rfl rfl ?_
          refine go_a (pc' := 96) (ls' := [some (.ref (c + 30)), some (.int (iI o)), some (.int (iI e)), some (.ref y2), some (.ref y4), some (.ref a6), some (.ref a8), none, none, none]) (st' := [.ref a6, .ref a6]) rfl rfl ?_
          refine go_a (pc' := 97) (ls' := [some (.ref (c + 30)), some (.int (iI o)), some (.int (iI e)), some (.ref y2), some (.ref y4), some (.ref a6), some (.ref a8), none, none, none]) (st' := [.int (iI 1), .ref a6, .ref a6]) rfl rfl ?_
          refine go_v (m := 231) (as := [.ref a6, .int (iI 1)]) (r := [.ref a6]) rfl rfl rfl (TMp Ta6_8).1.1 rfl rfl (kg_behind z (d + 7) 1 a6 (a6 + 1) (nD5 0) (fD5 0) h8 (TMp Ta6_8).1 (by decide) (by decide)) (fun v9 h9 hq => ?_)
          obtain ⟨rfl, eq9⟩ := hq
          rw [eq9]
          clear eq9 h9
          show xx_go (xt_P z) (d + 8) 283 100 [some (.ref (c + 30)), some (.int (iI o)), some (.int (iI e)), some (.ref y2), some (.ref y4), some (.ref a6), some (.ref a8), none, none, none] [.int (iI (bh (nD5 0) (fD5 0) 1)), .ref a6] h8 _
          refine go_v (m := 274) (as := [.ref a6, .int (iI (bh (nD5 0) (fD5 0) 1))]) (r := []) rfl rfl rfl (TMp Ta6_8).1.1 rfl rfl (kq_partT z (d + 4) S8.1 S8.2.1 Ta6_8 (by omega) (by omega)) (fun v10 h10 hq => ?_)
          obtain ⟨a10, n10, f10, rfl, E10, T10, pn10, pf10⟩ := hq
          have S10 := KST_STE S8 E10
          have Ta6_10 := TM_kx Ta6_8 E10.2.2.2
          have Ta8_10 := TM_kx T8 E10.2.2.2
          have Cy2_10 := CL_kx Cy2_8 E10.2.2.2
          obtain ⟨mCy2_10, wCy2_10, cCy2_10⟩ := CL_cell Cy2_10
          have Cy4_10 := CL_kx Cy4_8 E10.2.2.2
          obtain ⟨mCy4_10, wCy4_10, cCy4_10⟩ := CL_cell Cy4_10
          show xx_go (xt_P z) (d + 8) 283 103 [some (.ref (c + 30)), some (.int (iI o)), some (.int (iI e)), some (.ref y2), some (.ref y4), some (.ref a6), some (.ref a8), none, none, none] [.ref a10] h10 _
          have Op10 : OTR s4.N (s4.I 8) NM.2.2.1 (some (rl n10 f10)) (some tb) := by rw [pn10, pf10]; exact Ob
          refine go_a (pc' := 105) (ls' := [some (.ref (c + 30)), some (.int (iI o)), some (.int (iI e)), some (.ref y2), some (.ref y4), some (.ref a6), some (.ref a8), some (.ref a10), none, none]) (st' := []) rfl rfl ?_
          have l12_11 : 12 ≤ h10.length := by have := ki_lt S10.1 (i := 0) (by decide); have := S10.1.2.1 0 (by decide); omega
          refine go_new (ci := 12) (fs := [.null, .int 0, .int 0, .int 0]) rfl rfl rfl ?_
          show xx_go (xt_P z) (d + 8) 283 108 [some (.ref (c + 30)), some (.int (iI o)), some (.int (iI e)), some (.ref y2), some (.ref y4), some (.ref a6), some (.ref a8), some (.ref a10), none, none] [.ref h10.length] (h10 ++ [.inr (12, [.null, .int 0, .int 0, .int 0])]) _
          refine go_a (pc' := 109) (ls' := [some (.ref (c + 30)), some (.int (iI o)), some (.int (iI e)), some (.ref y2), some (.ref y4), some (.ref a6), some (.ref a8), some (.ref a10), none, none]) (st' := [.ref h10.length, .ref h10.length]) rfl rfl ?_
          refine go_i (m := 257) (as := [.ref h10.length]) (r := [.ref h10.length]) rfl rfl rfl rfl rfl (kh_init z (d + 7) h10 l12_11) (fun v11 h11 hq => ?_)
          obtain ⟨rfl, rfl⟩ := hq
          obtain ⟨K11, X11, B11⟩ := mkC_CL (u := (s4.I 8)) S10.1
          have C11 : CL c (mkC h10) s4 (s4.I 8) h10.length 0 [] := ⟨_, _, _, _, _, B11, rfl⟩
          have S11 := KST_X S10 K11 X11
          obtain ⟨x11, ex11⟩ : ∃ q : Nat, q = h10.length := ⟨_, rfl⟩
          have ne_y2_x11 : y2 ≠ x11 := by have := (List.getElem?_eq_some_iff.mp cCy2_10).1; omega
          have ne_y4_x11 : y4 ≠ x11 := by have := (List.getElem?_eq_some_iff.mp cCy4_10).1; omega
          have Ta6_11 := TM_kx Ta6_10 X11
          have Ta8_11 := TM_kx Ta8_10 X11
          have Ta10_11 := TM_kx T10 X11
          have Cy2_11 := CL_kx Cy2_10 X11
          obtain ⟨mCy2_11, wCy2_11, cCy2_11⟩ := CL_cell Cy2_11
          have Cy4_11 := CL_kx Cy4_10 X11
          obtain ⟨mCy4_11, wCy4_11, cCy4_11⟩ := CL_cell Cy4_11
          obtain ⟨hM11, eM11⟩ : ∃ q : xx_H, q = mkC h10 := ⟨_, rfl⟩
          have hx11 : hp.length ≤ x11 := by rw [ex11]; exact KST_len S10
          rw [← ex11] at C11
          rw [← eM11, ← ex11]
          obtain ⟨mC11, wC11, cC11⟩ := CL_cell C11
          rw [← eM11] at S11 C11 cC11 Ta6_11 Ta8_11 Ta10_11 Cy2_11 cCy2_11 Cy4_11 cCy4_11
          clear B11 K11 X11
          show xx_go (xt_P z) (d + 8) 283 112 [some (.ref (c + 30)), some (.int (iI o)), some (.int (iI e)), some (.ref y2), some (.ref y4), some (.ref a6), some (.ref a8), some (.ref a10), none, none] [.ref x11] hM11 _
          refine go_a (pc' := 114) (ls' := [some (.ref (c + 30)), some (.int (iI o)), some (.int (iI e)), some (.ref y2), some (.ref y4), some (.ref a6), some (.ref a8), some (.ref a10), some (.ref x11), none]) (st' := []) rfl rfl ?_
          refine go_a (pc' := 115) (ls' := [some (.ref (c + 30)), some (.int (iI o)), some (.int (iI e)), some (.ref y2), some (.ref y4), some (.ref a6), some (.ref a8), some (.ref a10), some (.ref x11), none]) (st' := [.int (iI 0)]) rfl rfl ?_
          refine go_a (pc' := 117) (ls' := [some (.ref (c + 30)), some (.int (iI o)), some (.int (iI e)), some (.ref y2), some (.ref y4), some (.ref a6), some (.ref a8), some (.ref a10), some (.ref x11), some (.int (iI 0))]) (st' := []) rfl rfl ?_
          obtain ⟨mD12, wD12, OD12, nD12, fD12, DD12, eZ12⟩ := id Cy4_11
          have hr9 : (sp_put F (DK s.N o) (s.I 17)) = sp_cs2 (sp_cz (D4.map (fun t => sp_opO (sp_re ta tb t).1) ++ (D2.drop 1).map some)) (s4.I 17) := (by unfold sp_put; rw [es2]; (try dsimp only); rw [Option.bind_some]; (try dsimp only); rw [es4]; (try dsimp only); rw [Option.bind_some]; (try dsimp only); simp only [dt, List.head?_cons, Option.bind_some, et0]; rw [show sp_eqp (sp_eq ta tb) = some (ta, tb) from rfl, Option.bind_some]; (try rfl))
          have hs9 : (sp_sg F G [sp_p 1 (DK s.N o), sp_p 2 (DK s.N o)] (s.I 17)) = s4.I 17 := (by rw [sp_sg_s es2, sp_sg_s es4]; rfl)
          exact kq_put_loop z d c o e (WD (SD s) o) hp s NM hP y2 y4 a8 a10 x11 _ _ mD12 wD12 _ OD12 nD12 fD12 n8 f8 n10 f10 (100 * WD (SD s) o - 446) (700 * WD (SD s) o - 6020) (WD (SD s) o) hx11 ne_y2_x11 ne_y4_x11 (by omega) (by omega) (by omega) ta tb D2 D4 _ _ _ _ hs9 hr9 _ 0 _ _ _ _ _ (Nat.le_refl _) (by decide) DD12.2.2.2.1.1 (KST_w S11 (by omega) (by omega) (by omega)) e4 Cy2_11 DD12 Ta8_11 Ta10_11 C11 rfl Op8 Op10 (by rw [eZ12]; exact TO4) TOy2_4 rfl
        · have ne : sp_eqp tt = none := by rw [rl_cons nn.1] at Ot; exact TRT_neq KN.2.2.2.2 fB.2.1 Ot w1
          refine go_a (pc' := 79) (ls' := [some (.ref (c + 30)), some (.int (iI o)), some (.int (iI e)), some (.ref y2), some (.ref y4), some (.ref a6), none, none, none, none]) (st' := [.ref (c + 30)]) rfl rfl ?_
          refine go_a (pc' := 80) (ls' := [some (.ref (c + 30)), some (.int (iI o)), some (.int (iI e)), some (.ref y2), some (.ref y4), some (.ref a6), none, none, none, none]) (st' := [.int (iI o), .ref (c + 30)]) rfl rfl ?_
          refine go_v (m := 248) (as := [.ref (c + 30), .int (iI o)]) (r := []) rfl rfl rfl (S4.1.1 19 (by decide)) rfl rfl (kq_failAtP z (d + 7) (w := WD (SD s) o) S4 (by omega) (by omega) (by omega) (by omega) (by omega) (ft := NM.2.2.1) (ρ := (sp_put F (DK s.N o) (s.I 17))) (σ := (sp_sg F G [sp_p 1 (DK s.N o), sp_p 2 (DK s.N o)] (s.I 17))) (by unfold sp_put; rw [es2]; (try dsimp only); rw [Option.bind_some]; (try dsimp only); rw [es4]; (try dsimp only); rw [Option.bind_some]; (try dsimp only); simp only [dt, List.head?_cons, Option.bind_some, ne]; (try rfl)) (by rw [sp_sg_s es2, sp_sg_s es4]; exact J4)) (fun v8 h8 hq => ?_)
          obtain ⟨rfl, R8⟩ := hq
          show xx_go (xt_P z) (d + 8) 283 83 [some (.ref (c + 30)), some (.int (iI o)), some (.int (iI e)), some (.ref y2), some (.ref y4), some (.ref a6), none, none, none, none] [.null] h8 _
          exact go_r rfl rfl rfl rfl rfl rfl R8
      · show xx_go (xt_P z) (d + 8) 283 59 [some (.ref (c + 30)), some (.int (iI o)), some (.int (iI e)), some (.ref y2), some (.ref y4), none, none, none, none, none] [.null] h4 _
        have dn : D2 = [] := TRO_0 TOy2_4 (by rw [← eZ5]; unfold ol; rw [show (mD5).toNat = 0 by omega]; rfl)
        refine go_a (pc' := 61) (ls' := [some (.ref (c + 30)), some (.int (iI o)), some (.int (iI e)), some (.ref y2), some (.ref y4), some (.null), none, none, none, none]) (st' := []) rfl rfl ?_
        refine go_a (pc' := 63) (ls' := [some (.ref (c + 30)), some (.int (iI o)), some (.int (iI e)), some (.ref y2), some (.ref y4), some (.null), none, none, none, none]) (st' := [.null]) rfl rfl ?_
        refine go_a (pc' := 78) (ls' := [some (.ref (c + 30)), some (.int (iI o)), some (.int (iI e)), some (.ref y2), some (.ref y4), some (.null), none, none, none, none]) (st' := []) rfl rfl ?_
        refine go_a (pc' := 79) (ls' := [some (.ref (c + 30)), some (.int (iI o)), some (.int (iI e)), some (.ref y2), some (.ref y4), some (.null), none, none, none, none]) (st' := [.ref (c + 30)]) rfl rfl ?_
        refine go_a (pc' := 80) (ls' := [some (.ref (c + 30)), some (.int (iI o)), some (.int (iI e)), some (.ref y2), some (.ref y4), some (.null), none, none, none, none]) (st' := [.int (iI o), .ref (c + 30)]) rfl rfl ?_
        refine go_v (m := 248) (as := [.ref (c + 30), .int (iI o)]) (r := []) rfl rfl rfl (S4.1.1 19 (by decide)) rfl rfl (kq_failAtP z (d + 7) (w := WD (SD s) o) S4 (by omega) (by omega) (by omega) (by omega) (by omega) (ft := NM.2.2.1) (ρ := (sp_put F (DK s.N o) (s.I 17))) (σ := (sp_sg F G [sp_p 1 (DK s.N o), sp_p 2 (DK s.N o)] (s.I 17))) (by unfold sp_put; rw [es2]; (try dsimp only); rw [Option.bind_some]; (try dsimp only); rw [es4]; (try dsimp only); rw [Option.bind_some]; (try dsimp only); rw [dn]; rfl) (by rw [sp_sg_s es2, sp_sg_s es4]; exact J4)) (fun v7 h7 hq => ?_)
        obtain ⟨rfl, R7⟩ := hq
        show xx_go (xt_P z) (d + 8) 283 83 [some (.ref (c + 30)), some (.int (iI o)), some (.int (iI e)), some (.ref y2), some (.ref y4), some (.null), none, none, none, none] [.null] h7 _
        exact go_r rfl rfl rfl rfl rfl rfl R7
