theorem STE_TRO {c : Nat} {hp h1 : xx_H} {s s1 : KS} {a b : Int} {ft : Nat → Int} {Z : List (List Int)} {D : List ob_T} (E : STE c hp s h1 s1 a b) (h : TRO s.N (s.I 8) ft Z D) : TRO s1.N (s1.I 8) ft Z D := by
  rw [E.2.2.1.1, STE_8 E]
  exact h
theorem kq_swap (z : Value) (d c : Nat) (o : Int) (q : Nat) (hp : xx_H) (s : KS) (NM : BKM) (hP : KPS c hp s NM) (ho : OB s o) (hL : isL (SD s) q o) (r2 : pi s 0 o ≠ 2) (w9 : WD (SD s) o ≤ 1000) (l25 : s.I 8 + WD (SD s) o ≤ 25000) (e fu : Int) (F : ob_T → Int → Option (List ob_T × Int)) (G : ob_T → Int → Int) (R : PRC z (d + 8) c (e + 1) NM fu F G) (hf : s.I 16 = fu) (hq : q = 2) : xx_cl (xt_P z) (d + 9) 282 [.ref (c + 30), .int (iI o), .int (iI e)] hp (fun v h1 => PRP c hp s (WD (SD s) o) NM.2.2.1 (sp_swap F (DK s.N o) (s.I 17)) (sp_sg F G [sp_p 1 (DK s.N o)] (s.I 17)) v h1) := by
  have S0 := KST_rf hP
  have e0 : s.I 8 = s.I 8 := rfl
  have lu : s.I 8 ≤ 25000 := hP.2.2.2.2.2.2.2.1
  have u38 := KB_38 hP.2.1
  have J0 : s.I 17 = s.I 17 := rfl
  have fB := KNT_FTB hP.2.2.2.2.2.2.2.2
  have oR := OB_R hP.2.1 ho
  have W := PI_W hP.2.2.1 ho hL (by omega) r2
  have p0 : VD (SD s) (rt (SD s) 0 o) = WD (SD s) (pi s 0 o) + VD (SD s) (rt (SD s) 1 o) ∧ OB s (pi s 0 o) ∧ 1 ≤ WD (SD s) (pi s 0 o) ∧ 0 ≤ VD (SD s) (rt (SD s) 1 o) := PI_w hP.2.2.1 ho hL (j := 0) (by omega)
  have p1 : VD (SD s) (rt (SD s) 1 o) = WD (SD s) (pi s 1 o) + VD (SD s) (rt (SD s) 2 o) ∧ OB s (pi s 1 o) ∧ 1 ≤ WD (SD s) (pi s 1 o) ∧ 0 ≤ VD (SD s) (rt (SD s) 2 o) := PI_w hP.2.2.1 ho hL (j := 1) (by omega)
  obtain ⟨p0, o0, i0, j0⟩ := p0
  obtain ⟨p1, o1, i1, j1⟩ := p1
  refine cl_go rfl ?_
  show xx_go (xt_P z) (d + 8) 282 0 [some (.ref (c + 30)), some (.int (iI o)), some (.int (iI e)), none, none, none] [] hp _
  refine go_a (pc' := 1) (ls' := [some (.ref (c + 30)), some (.int (iI o)), some (.int (iI e)), none, none, none]) (st' := [.ref (c + 30)]) rfl rfl ?_
  refine go_a (pc' := 2) (ls' := [some (.ref (c + 30)), some (.int (iI o)), some (.int (iI e)), none, none, none]) (st' := [.ref (c + 30), .ref (c + 30)]) rfl rfl ?_
  refine go_get (v := .ref (c + 4)) rfl (S0.1.1 19 (by decide)) rfl rfl ?_
  refine go_a (pc' := 6) (ls' := [some (.ref (c + 30)), some (.int (iI o)), some (.int (iI e)), none, none, none]) (st' := [.int (iI o), .ref (c + 4), .ref (c + 30)]) rfl rfl ?_
  refine go_a (pc' := 7) (ls' := [some (.ref (c + 30)), some (.int (iI o)), some (.int (iI e)), none, none, none]) (st' := [.int (iI 1), .int (iI o), .ref (c + 4), .ref (c + 30)]) rfl rfl ?_
  refine go_v (m := 202) (as := [.ref (c + 4), .int (iI o), .int (iI 1)]) (r := [.ref (c + 30)]) rfl rfl rfl (S0.1.1 3 (by decide)) rfl rfl (kq_part z (d + 6) S0 hP.2.2.1 ho hL (by omega) (by omega) (by omega)) (fun v1 h1 hq => ?_)
  obtain ⟨rfl, eq1⟩ := hq
  rw [eq1]
  clear eq1 h1
  show xx_go (xt_P z) (d + 8) 282 10 [some (.ref (c + 30)), some (.int (iI o)), some (.int (iI e)), none, none, none] [.int (iI (pi s 1 o)), .ref (c + 30)] hp _
  refine go_a (pc' := 11) (ls' := [some (.ref (c + 30)), some (.int (iI o)), some (.int (iI e)), none, none, none]) (st' := [.int (iI e), .int (iI (pi s 1 o)), .ref (c + 30)]) rfl rfl ?_
  refine go_a (pc' := 12) (ls' := [some (.ref (c + 30)), some (.int (iI o)), some (.int (iI e)), none, none, none]) (st' := [.int (iI 1), .int (iI e), .int (iI (pi s 1 o)), .ref (c + 30)]) rfl rfl ?_
  refine mi_add rfl ?_
  refine go_v (m := 245) (as := [.ref (c + 30), .int (iI (pi s 1 o)), .int (iI (e + 1))]) (r := []) rfl rfl rfl (S0.1.1 19 (by decide)) rfl rfl (kq_sub R hP S0 hf o1 (by omega) (by omega)) (fun v2 h2 hq => ?_)
  obtain ⟨s2, hv⟩ := hq
  rcases hv with ⟨rfl, en2, eg2, S2, Q2⟩ | ⟨y2, Z2, D2, rfl, l2, C2, ⟨TO2, es2⟩, S2, g2, PS2, Q2⟩
  · rw [PI_D hP ho hL (j := 1) (by omega), J0] at en2 eg2
    show xx_go (xt_P z) (d + 8) 282 16 [some (.ref (c + 30)), some (.int (iI o)), some (.int (iI e)), none, none, none] [.null] h2 _
    refine go_a (pc' := 17) (ls' := [some (.ref (c + 30)), some (.int (iI o)), some (.int (iI e)), some (.null), none, none]) (st' := []) rfl rfl ?_
    refine go_a (pc' := 18) (ls' := [some (.ref (c + 30)), some (.int (iI o)), some (.int (iI e)), some (.null), none, none]) (st' := [.null]) rfl rfl ?_
    refine go_a (pc' := 21) (ls' := [some (.ref (c + 30)), some (.int (iI o)), some (.int (iI e)), some (.null), none, none]) (st' := []) rfl rfl ?_
    refine go_a (pc' := 22) (ls' := [some (.ref (c + 30)), some (.int (iI o)), some (.int (iI e)), some (.null), none, none]) (st' := [.null]) rfl rfl ?_
    exact go_r rfl rfl rfl rfl rfl rfl ⟨_, Or.inl ⟨rfl, (by unfold sp_swap; rw [en2]; (try dsimp only); (try rfl)), (by rw [sp_sg_n en2]; exact eg2), KST_w S2 (by omega) (by omega) (by omega)⟩⟩
  · rw [PI_D hP ho hL (j := 1) (by omega), J0] at es2
    have J2 : s2.I 17 = s2.I 17 := rfl
    have z2 := S2.2.2.2.2.2.1
    have lu2 : s2.I 8 ≤ 25000 := by omega
    have e2 : s2.I 8 = s2.I 8 := rfl
    have u38 := KB_38 S2.2.1
    obtain ⟨mC2, wC2, cC2⟩ := CL_cell C2
    show xx_go (xt_P z) (d + 8) 282 16 [some (.ref (c + 30)), some (.int (iI o)), some (.int (iI e)), none, none, none] [.ref y2] h2 _
    refine go_a (pc' := 17) (ls' := [some (.ref (c + 30)), some (.int (iI o)), some (.int (iI e)), some (.ref y2), none, none]) (st' := []) rfl rfl ?_
    refine go_a (pc' := 18) (ls' := [some (.ref (c + 30)), some (.int (iI o)), some (.int (iI e)), some (.ref y2), none, none]) (st' := [.ref y2]) rfl rfl ?_
    refine go_a (pc' := 23) (ls' := [some (.ref (c + 30)), some (.int (iI o)), some (.int (iI e)), some (.ref y2), none, none]) (st' := []) rfl rfl ?_
    refine go_a (pc' := 24) (ls' := [some (.ref (c + 30)), some (.int (iI o)), some (.int (iI e)), some (.ref y2), none, none]) (st' := [.ref y2]) rfl rfl ?_
    refine go_a (pc' := 25) (ls' := [some (.ref (c + 30)), some (.int (iI o)), some (.int (iI e)), some (.ref y2), none, none]) (st' := [.int (iI 0), .ref y2]) rfl rfl ?_
    obtain ⟨mD3, wD3, OD3, nD3, fD3, DD3, eZ3⟩ := id C2
    refine go_v (m := 263) (as := [.ref y2, .int (iI 0)]) (r := []) rfl rfl rfl cC2 rfl rfl (kh_at z (d + 7) c 0 h2 s2 _ y2 mD3 wD3 _ OD3 nD3 fD3 DD3 (by decide) (by decide)) (fun v4 h4 hq => ?_)
    obtain ⟨hq, eq4⟩ := hq
    rw [eq4]
    clear eq4 h4
    rcases hq with ⟨a4, rfl, am, -, T4⟩ | ⟨rfl, am⟩
    · show xx_go (xt_P z) (d + 8) 282 28 [some (.ref (c + 30)), some (.int (iI o)), some (.int (iI e)), some (.ref y2), none, none] [.ref a4] h2 _
      have TOo : TRO s2.N (s2.I 8) NM.2.2.1 (ol mD3 nD3 fD3) D2 := by rw [eZ3]; exact TO2
      obtain ⟨tt, DT, dt, Ot⟩ := TRO_hd TOo (by omega)
      have KN := KST_KNT hP S2
      have nn := TM_n T4
      have t0 : tat (nD3 0) (fD3 0) 0 = (fD3 0) 0 := if_pos (by omega)
      have tR := (TMp T4).1.2.2.2 0
      refine go_a (pc' := 30) (ls' := [some (.ref (c + 30)), some (.int (iI o)), some (.int (iI e)), some (.ref y2), some (.ref a4), none]) (st' := []) rfl rfl ?_
      refine go_a (pc' := 32) (ls' := [some (.ref (c + 30)), some (.int (iI o)), some (.int (iI e)), some (.ref y2), some (.ref a4), none]) (st' := [.ref a4]) rfl rfl ?_
      refine go_a (pc' := 35) (ls' := [some (.ref (c + 30)), some (.int (iI o)), some (.int (iI e)), some (.ref y2), some (.ref a4), none]) (st' := []) rfl rfl ?_
      refine go_a (pc' := 37) (ls' := [some (.ref (c + 30)), some (.int (iI o)), some (.int (iI e)), some (.ref y2), some (.ref a4), none]) (st' := [.ref a4]) rfl rfl ?_
      refine go_a (pc' := 38) (ls' := [some (.ref (c + 30)), some (.int (iI o)), some (.int (iI e)), some (.ref y2), some (.ref a4), none]) (st' := [.int (iI 0), .ref a4]) rfl rfl ?_
      refine go_v (m := 230) (as := [.ref a4, .int (iI 0)]) (r := []) rfl rfl rfl (TMp T4).1.1 rfl rfl (kg_at z (d + 7) 0 a4 (a4 + 1) (nD3 0) (fD3 0) h2 (TMp T4).1 (by decide) (by decide)) (fun v5 h5 hq => ?_)
      obtain ⟨rfl, eq5⟩ := hq
      rw [eq5, t0]
      clear eq5 h5
      show xx_go (xt_P z) (d + 8) 282 41 [some (.ref (c + 30)), some (.int (iI o)), some (.int (iI e)), some (.ref y2), some (.ref a4), none] [.int (iI ((fD3 0) 0))] h2 _
      refine go_a (pc' := 44) (ls' := [some (.ref (c + 30)), some (.int (iI o)), some (.int (iI e)), some (.ref y2), some (.ref a4), none]) (st' := [.int (iI 138), .int (iI ((fD3 0) 0))]) rfl rfl ?_
      refine mi_eq (t := 53) rfl rfl (by omega) (by omega) (by omega) (by omega) (fun w1 => ?_) (fun w1 => ?_)
      · obtain ⟨ta, tb, et0, Oa, Ob, q1, q2, q3⟩ := eq_tr T4.2.1 nn.1 KN.2.2.2.2 fB.2.1 Ot w1
        have l12_6 : 12 ≤ h2.length := by have := ki_lt S2.1 (i := 0) (by decide); have := S2.1.2.1 0 (by decide); omega
        refine go_new (ci := 12) (fs := [.null, .int 0, .int 0, .int 0]) rfl rfl rfl ?_
        show xx_go (xt_P z) (d + 8) 282 56 [some (.ref (c + 30)), some (.int (iI o)), some (.int (iI e)), some (.ref y2), some (.ref a4), none] [.ref h2.length] (h2 ++ [.inr (12, [.null, .int 0, .int 0, .int 0])]) _
        refine go_a (pc' := 57) (ls' := [some (.ref (c + 30)), some (.int (iI o)), some (.int (iI e)), some (.ref y2), some (.ref a4), none]) (st' := [.ref h2.length, .ref h2.length]) rfl rfl ?_
        refine go_i (m := 257) (as := [.ref h2.length]) (r := [.ref h2.length]) rfl rfl rfl rfl rfl (kh_init z (d + 7) h2 l12_6) (fun v6 h6 hq => ?_)
        obtain ⟨rfl, rfl⟩ := hq
        obtain ⟨K6, X6, B6⟩ := mkC_CL (u := (s2.I 8)) S2.1
        have C6 : CL c (mkC h2) s2 (s2.I 8) h2.length 0 [] := ⟨_, _, _, _, _, B6, rfl⟩
        have S6 := KST_X S2 K6 X6
        obtain ⟨x6, ex6⟩ : ∃ q : Nat, q = h2.length := ⟨_, rfl⟩
        have ne_y2_x6 : y2 ≠ x6 := by have := (List.getElem?_eq_some_iff.mp cC2).1; omega
        have Ta4_6 := TM_kx T4 X6
        have Cy2_6 := CL_kx C2 X6
        obtain ⟨mCy2_6, wCy2_6, cCy2_6⟩ := CL_cell Cy2_6
        obtain ⟨hM6, eM6⟩ : ∃ q : xx_H, q = mkC h2 := ⟨_, rfl⟩
        have hx6 : hp.length ≤ x6 := by rw [ex6]; exact KST_len S2
        rw [← ex6] at C6
        rw [← eM6, ← ex6]
        obtain ⟨mC6, wC6, cC6⟩ := CL_cell C6
        rw [← eM6] at S6 C6 cC6 Ta4_6 Cy2_6 cCy2_6
        clear B6 K6 X6
        show xx_go (xt_P z) (d + 8) 282 60 [some (.ref (c + 30)), some (.int (iI o)), some (.int (iI e)), some (.ref y2), some (.ref a4), none] [.ref x6] hM6 _
        refine go_a (pc' := 62) (ls' := [some (.ref (c + 30)), some (.int (iI o)), some (.int (iI e)), some (.ref y2), some (.ref a4), some (.ref x6)]) (st' := []) rfl rfl ?_
        refine go_a (pc' := 64) (ls' := [some (.ref (c + 30)), some (.int (iI o)), some (.int (iI e)), some (.ref y2), some (.ref a4), some (.ref x6)]) (st' := [.ref x6]) rfl rfl ?_
        refine go_a (pc' := 65) (ls' := [some (.ref (c + 30)), some (.int (iI o)), some (.int (iI e)), some (.ref y2), some (.ref a4), some (.ref x6)]) (st' := [.ref (c + 30), .ref x6]) rfl rfl ?_
        refine go_get (v := .ref (c + 25)) rfl (S6.1.1 19 (by decide)) rfl rfl ?_
        refine go_a (pc' := 69) (ls' := [some (.ref (c + 30)), some (.int (iI o)), some (.int (iI e)), some (.ref y2), some (.ref a4), some (.ref x6)]) (st' := [.int (iI 4), .ref (c + 25), .ref x6]) rfl rfl ?_
        refine go_a (pc' := 71) (ls' := [some (.ref (c + 30)), some (.int (iI o)), some (.int (iI e)), some (.ref y2), some (.ref a4), some (.ref x6)]) (st' := [.ref a4, .int (iI 4), .ref (c + 25), .ref x6]) rfl rfl ?_
        refine go_a (pc' := 73) (ls' := [some (.ref (c + 30)), some (.int (iI o)), some (.int (iI e)), some (.ref y2), some (.ref a4), some (.ref x6)]) (st' := [.ref a4, .ref a4, .int (iI 4), .ref (c + 25), .ref x6]) rfl rfl ?_
        refine go_a (pc' := 74) (ls' := [some (.ref (c + 30)), some (.int (iI o)), some (.int (iI e)), some (.ref y2), some (.ref a4), some (.ref x6)]) (st' := [.int (iI 1), .ref a4, .ref a4, .int (iI 4), .ref (c + 25), .ref x6]) rfl rfl ?_
        refine go_v (m := 231) (as := [.ref a4, .int (iI 1)]) (r := [.ref a4, .int (iI 4), .ref (c + 25), .ref x6]) rfl rfl rfl (TMp Ta4_6).1.1 rfl rfl (kg_behind z (d + 7) 1 a4 (a4 + 1) (nD3 0) (fD3 0) hM6 (TMp Ta4_6).1 (by decide) (by decide)) (fun v7 h7 hq => ?_)
        obtain ⟨rfl, eq7⟩ := hq
        rw [eq7]
        clear eq7 h7
        show xx_go (xt_P z) (d + 8) 282 77 [some (.ref (c + 30)), some (.int (iI o)), some (.int (iI e)), some (.ref y2), some (.ref a4), some (.ref x6)] [.int (iI (bh (nD3 0) (fD3 0) 1)), .ref a4, .int (iI 4), .ref (c + 25), .ref x6] hM6 _
        refine go_v (m := 274) (as := [.ref a4, .int (iI (bh (nD3 0) (fD3 0) 1))]) (r := [.int (iI 4), .ref (c + 25), .ref x6]) rfl rfl rfl (TMp Ta4_6).1.1 rfl rfl (kq_partT z (d + 4) S6.1 S6.2.1 Ta4_6 (by omega) (by omega)) (fun v8 h8 hq => ?_)
        obtain ⟨a8, n8, f8, rfl, E8, T8, pn8, pf8⟩ := hq
        have S8 := KST_STE S6 E8
        have Ta4_8 := TM_kx Ta4_6 E8.2.2.2
        have Cy2_8 := CL_kx Cy2_6 E8.2.2.2
        obtain ⟨mCy2_8, wCy2_8, cCy2_8⟩ := CL_cell Cy2_8
        have Cx6_8 := CL_kx C6 E8.2.2.2
        obtain ⟨mCx6_8, wCx6_8, cCx6_8⟩ := CL_cell Cx6_8
        show xx_go (xt_P z) (d + 8) 282 80 [some (.ref (c + 30)), some (.int (iI o)), some (.int (iI e)), some (.ref y2), some (.ref a4), some (.ref x6)] [.ref a8, .int (iI 4), .ref (c + 25), .ref x6] h8 _
        have Op8 : OTR s2.N (s2.I 8) NM.2.2.1 (some (rl n8 f8)) (some tb) := by rw [pn8, pf8]; exact Ob
        refine go_a (pc' := 82) (ls' := [some (.ref (c + 30)), some (.int (iI o)), some (.int (iI e)), some (.ref y2), some (.ref a4), some (.ref x6)]) (st' := [.ref a4, .ref a8, .int (iI 4), .ref (c + 25), .ref x6]) rfl rfl ?_
        refine go_a (pc' := 83) (ls' := [some (.ref (c + 30)), some (.int (iI o)), some (.int (iI e)), some (.ref y2), some (.ref a4), some (.ref x6)]) (st' := [.int (iI 1), .ref a4, .ref a8, .int (iI 4), .ref (c + 25), .ref x6]) rfl rfl ?_
        refine go_v (m := 274) (as := [.ref a4, .int (iI 1)]) (r := [.ref a8, .int (iI 4), .ref (c + 25), .ref x6]) rfl rfl rfl (TMp Ta4_8).1.1 rfl rfl (kq_partT z (d + 4) S8.1 S8.2.1 Ta4_8 (by omega) (by omega)) (fun v9 h9 hq => ?_)
        obtain ⟨a9, n9, f9, rfl, E9, T9, pn9, pf9⟩ := hq
        have S9 := KST_STE S8 E9
        have Ta4_9 := TM_kx Ta4_8 E9.2.2.2
        have Ta8_9 := TM_kx T8 E9.2.2.2
        have Cy2_9 := CL_kx Cy2_8 E9.2.2.2
        obtain ⟨mCy2_9, wCy2_9, cCy2_9⟩ := CL_cell Cy2_9
        have Cx6_9 := CL_kx Cx6_8 E9.2.2.2
        obtain ⟨mCx6_9, wCx6_9, cCx6_9⟩ := CL_cell Cx6_9
        show xx_go (xt_P z) (d + 8) 282 86 [some (.ref (c + 30)), some (.int (iI o)), some (.int (iI e)), some (.ref y2), some (.ref a4), some (.ref x6)] [.ref a9, .ref a8, .int (iI 4), .ref (c + 25), .ref x6] h9 _
        have Op9 : OTR s2.N (s2.I 8) NM.2.2.1 (some (rl n9 f9)) (some ta) := by rw [pn9, pf9]; exact Oa
        have Om10 := OTQ_2 (v := 26209844) (show sp_isq (.var 26209844) = false by decide) fB.2.1 (by decide) (by decide) (OTQ_t Op8 (by rw [rl_len]; have := TM_n Ta8_9; omega)) (OTQ_t Op9 (by rw [rl_len]; have := TM_n T9; omega))
        refine go_v (m := 259) (as := [.ref (c + 25), .int (iI 4), .ref a8, .ref a9]) (r := [.ref x6]) rfl rfl rfl (S9.1.1 16 (by decide)) rfl rfl (kq_mk2 z (d + 4) (t := 4) S9.1 S9.2.1 (by decide) (by decide) (MTM_T Ta8_9) (MTM_T T9) (TVx_k (n := 2) u38 lu2 (by decide) (by decide) (by decide) (by decide) (by decide) (by decide))) (fun v10 h10 hq => ?_)
        obtain ⟨w10, s10, rfl, E10, M10⟩ := hq
        have S10 := KST_STE S9 E10
        have e10 := (STE_8 E10).trans e2
        have Ta4_10 := TM_kx Ta4_9 E10.2.2.2
        have Ta8_10 := TM_kx Ta8_9 E10.2.2.2
        have Ta9_10 := TM_kx T9 E10.2.2.2
        have Cy2_10 := CL_kx Cy2_9 E10.2.2.2
        obtain ⟨mCy2_10, wCy2_10, cCy2_10⟩ := CL_cell Cy2_10
        have Cx6_10 := CL_kx Cx6_9 E10.2.2.2
        obtain ⟨mCx6_10, wCx6_10, cCx6_10⟩ := CL_cell Cx6_10
        have J10 := STE_17 E10 J2
        have Oa8_10 := STE_OTR E10 Op8
        have Oa9_10 := STE_OTR E10 Op9
        have Ow10_10 := STE_OTR E10 Om10
        have TOy2_10 := STE_TRO E10 TO2
        show xx_go (xt_P z) (d + 8) 282 89 [some (.ref (c + 30)), some (.int (iI o)), some (.int (iI e)), some (.ref y2), some (.ref a4), some (.ref x6)] [w10, .ref x6] h10 _
        refine go_v (m := 261) (as := [.ref x6, w10]) (r := []) rfl rfl rfl cCx6_10 rfl rfl (kq_addC z (d + 5) Cx6_10 M10) (fun v11 h11 hq => ?_)
        obtain ⟨rfl, F11, b11, Z11, q11, C11⟩ := hq
        have hz11 := q11
        have S11 := KST_fe S10 Cx6_10 hx6 F11
        have Ta4_11 := TM_fe Cx6_10 F11 Ta4_10
        have Ta8_11 := TM_fe Cx6_10 F11 Ta8_10
        have Ta9_11 := TM_fe Cx6_10 F11 Ta9_10
        have Mw10_11 := MTM_fe Cx6_10 F11 M10
        have Cy2_11 := CL_fe Cx6_10 F11 ne_y2_x6 Cy2_10
        obtain ⟨mCy2_11, wCy2_11, cCy2_11⟩ := CL_cell Cy2_11
        obtain ⟨mC11, wC11, cC11⟩ := CL_cell C11
        show xx_go (xt_P z) (d + 8) 282 92 [some (.ref (c + 30)), some (.int (iI o)), some (.int (iI e)), some (.ref y2), some (.ref a4), some (.ref x6)] [] h11 _
        refine go_a (pc' := 94) (ls' := [some (.ref (c + 30)), some (.int (iI o)), some (.int (iI e)), some (.ref y2), some (.ref a4), some (.ref x6)]) (st' := [.ref x6]) rfl rfl ?_
        refine go_a (pc' := 95) (ls' := [some (.ref (c + 30)), some (.int (iI o)), some (.int (iI e)), some (.ref y2), some (.ref a4), some (.ref x6)]) (st' := [.ref y2, .ref x6]) rfl rfl ?_
        refine go_a (pc' := 96) (ls' := [some (.ref (c + 30)), some (.int (iI o)), some (.int (iI e)), some (.ref y2), some (.ref a4), some (.ref x6)]) (st' := [.int (iI 1), .ref y2, .ref x6]) rfl rfl ?_
        obtain ⟨mD12, wD12, OD12, nD12, fD12, DD12, eZ12⟩ := id Cy2_11
        refine go_v (m := 271) (as := [.ref x6, .ref y2, .int (iI 1)]) (r := []) rfl rfl rfl cC11 rfl rfl (kh_addFrom z (d + 4) c 1 h11 s10 _ x6 _ _ y2 mD12 wD12 _ OD12 nD12 fD12 (by decide) (by decide) ne_y2_x6 DD12 C11) (fun v13 h13 hq => ?_)
        obtain ⟨rfl, F13, b13, Z13, q13, C13⟩ := hq
        have hz13 := q13
        have S13 := KST_fe S11 C11 hx6 F13
        have Ta4_13 := TM_fe C11 F13 Ta4_11
        have Ta8_13 := TM_fe C11 F13 Ta8_11
        have Ta9_13 := TM_fe C11 F13 Ta9_11
        have Mw10_13 := MTM_fe C11 F13 Mw10_11
        have Cy2_13 := CL_fe C11 F13 ne_y2_x6 Cy2_11
        obtain ⟨mCy2_13, wCy2_13, cCy2_13⟩ := CL_cell Cy2_13
        obtain ⟨mC13, wC13, cC13⟩ := CL_cell C13
        show xx_go (xt_P z) (d + 8) 282 99 [some (.ref (c + 30)), some (.int (iI o)), some (.int (iI e)), some (.ref y2), some (.ref a4), some (.ref x6)] [] h13 _
        have hzz := hz_app (R1 := [_]) hz11 hz13
        refine go_a (pc' := 100) (ls' := [some (.ref (c + 30)), some (.int (iI o)), some (.int (iI e)), some (.ref y2), some (.ref a4), some (.ref x6)]) (st' := [.ref (c + 30)]) rfl rfl ?_
        refine go_a (pc' := 102) (ls' := [some (.ref (c + 30)), some (.int (iI o)), some (.int (iI e)), some (.ref y2), some (.ref a4), some (.ref x6)]) (st' := [.ref x6, .ref (c + 30)]) rfl rfl ?_
        refine go_v (m := 265) (as := [.ref (c + 30), .ref x6]) (r := []) rfl rfl rfl (S13.1.1 19 (by decide)) rfl rfl (kq_fin z (d + 6) (w := WD (SD s) o) (ρ := (sp_swap F (DK s.N o) (s.I 17))) (σ := (sp_sg F G [sp_p 1 (DK s.N o)] (s.I 17))) hP S13 C13 (ITR_one Ow10_10 (ITR_of (TRO_drop 1 (show TRO s10.N (s10.I 8) NM.2.2.1 (ol _ _ _) D2 by rw [eZ12]; exact TOy2_10)))) hzz (by unfold sp_swap; rw [es2]; (try dsimp only); rw [Option.bind_some]; (try dsimp only); simp only [dt, List.head?_cons, Option.bind_some, et0]; rw [show sp_eqp (sp_eq ta tb) = some (ta, tb) from rfl, Option.bind_some, J10]; (try rfl)) (by rw [sp_sg_s es2]; exact J10) e10 hx6 (by omega) (by omega) (by omega)) (fun v14 h14 hq => ?_)
        rcases hq with ⟨rfl, R14⟩ | ⟨r14, rfl, R14⟩
        · exact go_r rfl rfl rfl rfl rfl rfl R14
        · exact go_r rfl rfl rfl rfl rfl rfl R14
      · have ne : sp_eqp tt = none := by rw [rl_cons nn.1] at Ot; exact TRT_neq KN.2.2.2.2 fB.2.1 Ot w1
        refine go_a (pc' := 48) (ls' := [some (.ref (c + 30)), some (.int (iI o)), some (.int (iI e)), some (.ref y2), some (.ref a4), none]) (st' := [.ref (c + 30)]) rfl rfl ?_
        refine go_a (pc' := 49) (ls' := [some (.ref (c + 30)), some (.int (iI o)), some (.int (iI e)), some (.ref y2), some (.ref a4), none]) (st' := [.int (iI o), .ref (c + 30)]) rfl rfl ?_
        refine go_v (m := 248) (as := [.ref (c + 30), .int (iI o)]) (r := []) rfl rfl rfl (S2.1.1 19 (by decide)) rfl rfl (kq_failAtP z (d + 7) (w := WD (SD s) o) S2 (by omega) (by omega) (by omega) (by omega) (by omega) (ft := NM.2.2.1) (ρ := (sp_swap F (DK s.N o) (s.I 17))) (σ := (sp_sg F G [sp_p 1 (DK s.N o)] (s.I 17))) (by unfold sp_swap; rw [es2]; (try dsimp only); rw [Option.bind_some]; (try dsimp only); simp only [dt, List.head?_cons, Option.bind_some, ne]; (try rfl)) (by rw [sp_sg_s es2]; exact J2)) (fun v6 h6 hq => ?_)
        obtain ⟨rfl, R6⟩ := hq
        show xx_go (xt_P z) (d + 8) 282 52 [some (.ref (c + 30)), some (.int (iI o)), some (.int (iI e)), some (.ref y2), some (.ref a4), none] [.null] h6 _
        exact go_r rfl rfl rfl rfl rfl rfl R6
    · show xx_go (xt_P z) (d + 8) 282 28 [some (.ref (c + 30)), some (.int (iI o)), some (.int (iI e)), some (.ref y2), none, none] [.null] h2 _
      have dn : D2 = [] := TRO_0 TO2 (by rw [← eZ3]; unfold ol; rw [show (mD3).toNat = 0 by omega]; rfl)
      refine go_a (pc' := 30) (ls' := [some (.ref (c + 30)), some (.int (iI o)), some (.int (iI e)), some (.ref y2), some (.null), none]) (st' := []) rfl rfl ?_
      refine go_a (pc' := 32) (ls' := [some (.ref (c + 30)), some (.int (iI o)), some (.int (iI e)), some (.ref y2), some (.null), none]) (st' := [.null]) rfl rfl ?_
      refine go_a (pc' := 47) (ls' := [some (.ref (c + 30)), some (.int (iI o)), some (.int (iI e)), some (.ref y2), some (.null), none]) (st' := []) rfl rfl ?_
      refine go_a (pc' := 48) (ls' := [some (.ref (c + 30)), some (.int (iI o)), some (.int (iI e)), some (.ref y2), some (.null), none]) (st' := [.ref (c + 30)]) rfl rfl ?_
      refine go_a (pc' := 49) (ls' := [some (.ref (c + 30)), some (.int (iI o)), some (.int (iI e)), some (.ref y2), some (.null), none]) (st' := [.int (iI o), .ref (c + 30)]) rfl rfl ?_
      refine go_v (m := 248) (as := [.ref (c + 30), .int (iI o)]) (r := []) rfl rfl rfl (S2.1.1 19 (by decide)) rfl rfl (kq_failAtP z (d + 7) (w := WD (SD s) o) S2 (by omega) (by omega) (by omega) (by omega) (by omega) (ft := NM.2.2.1) (ρ := (sp_swap F (DK s.N o) (s.I 17))) (σ := (sp_sg F G [sp_p 1 (DK s.N o)] (s.I 17))) (by unfold sp_swap; rw [es2]; (try dsimp only); rw [Option.bind_some]; (try dsimp only); rw [dn]; rfl) (by rw [sp_sg_s es2]; exact J2)) (fun v5 h5 hq => ?_)
      obtain ⟨rfl, R5⟩ := hq
      show xx_go (xt_P z) (d + 8) 282 52 [some (.ref (c + 30)), some (.int (iI o)), some (.int (iI e)), some (.ref y2), some (.null), none] [.null] h5 _
      exact go_r rfl rfl rfl rfl rfl rfl R5
