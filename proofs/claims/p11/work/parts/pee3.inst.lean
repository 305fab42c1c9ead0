theorem kq_inst_l1 (z : Value) (d c : Nat) (o : Int) (q : Nat) (hp : xx_H) (s : KS) (NM : BKM) (hP : KPS c hp s NM) (ho : OB s o) (hL : isL (SD s) q o) (r2 : pi s 0 o ≠ 2) (w9 : WD (SD s) o ≤ 1000) (l25 : s.I 8 + WD (SD s) o ≤ 25000) (e fu : Int) (F : ob_T → Int → Option (List ob_T × Int)) (G : ob_T → Int → Int) (R : PRC z (d + 8) c (e + 1) NM fu F G) (hf : s.I 16 = fu) (M t4 t5 : Nat) (hq : q = M + 2) (h12 : 12 ≤ t4) (ht : hp.length ≤ t4) (ht5 : t5 = t4 + 1) : ∀ (j k : Nat) (x8 x9 x10 : Option Value) (g : Int → Int) (O : Int → Option Nat) (nO : Int → Int) (fO : Int → Int → Int) (h0 : xx_H) (s1 : KS) (Ds : List ob_T), M - k ≤ j → k ≤ M → KST c hp s h0 s1 (2 + 2 * k) (2 * M + (VD (SD s) (rt (SD s) 2 o) - VD (SD s) (rt (SD s) (k + 2) o))) 0 → s1.I 8 = s.I 8 → KAL h0 t4 M g → kn c s1 t4 → OTK c h0 s1 (s.I 8) t5 M k (t5 + 1) O nO fO → 2 * (k : Int) ≤ (VD (SD s) (rt (SD s) 2 o) - VD (SD s) (rt (SD s) (k + 2) o)) → ((∀ j : Int, 0 ≤ j → j < k → nO j ≤ 1) ∨ 3 ≤ (VD (SD s) (rt (SD s) 2 o) - VD (SD s) (rt (SD s) (k + 2) o))) → sp_fk NM.2.2.1 ((sp_as (DK s.N o)).drop 2) k Ds → TRO s1.N (s1.I 8) NM.2.2.1 (ol k nO fO) Ds → VRG s.N (s.I 8) (rl k g) ((((sp_as (DK s.N o)).drop 2).take k).map (fun y => sp_hc (sp_p 0 y))) → (∀ j : Int, (k : Int) ≤ j → j < M → g j = -1) → s1.I 17 = s.I 17 → xx_go (xt_P z) (d + 8) 279 47 [some (.ref (c + 30)), some (.int (iI o)), some (.int (iI ((M : Int)))), some (.int (iI e)), some (.ref t4), some (.ref t5), some (.int (iI (rt (SD s) (k + 2) o))), some (.int (iI ((k : Int)))), x8, x9, x10] [] h0 (fun v h1 => PRP c hp s (WD (SD s) o) NM.2.2.1 (sp_inst NM.2.2.1 F (DK s.N o) (s.I 17)) (sp_sg F G (ifc (sp_fi NM.2.2.1 (DK s.N o)) [sp_p 1 (DK s.N o)] []) (s.I 17)) v h1) := by
  have lu : s.I 8 ≤ 25000 := hP.2.2.2.2.2.2.2.1
  have u38 := KB_38 hP.2.1
  have fB := KNT_FTB hP.2.2.2.2.2.2.2.2
  have oR := OB_R hP.2.1 ho
  have W := PI_W hP.2.2.1 ho hL (by omega) r2
  have p0 : VD (SD s) (rt (SD s) 0 o) = WD (SD s) (pi s 0 o) + VD (SD s) (rt (SD s) 1 o) ∧ OB s (pi s 0 o) ∧ 1 ≤ WD (SD s) (pi s 0 o) ∧ 0 ≤ VD (SD s) (rt (SD s) 1 o) := PI_w hP.2.2.1 ho hL (j := 0) (by omega)
  have p1 : VD (SD s) (rt (SD s) 1 o) = WD (SD s) (pi s 1 o) + VD (SD s) (rt (SD s) 2 o) ∧ OB s (pi s 1 o) ∧ 1 ≤ WD (SD s) (pi s 1 o) ∧ 0 ≤ VD (SD s) (rt (SD s) 2 o) := PI_w hP.2.2.1 ho hL (j := 1) (by omega)
  obtain ⟨p0, o0, i0, j0⟩ := p0
  obtain ⟨p1, o1, i1, j1⟩ := p1
  have STS := KNT_ST hP.2.2.2.2.2.2.2.2 hP.2.2.1 hP.2.1
  have lenY := (AS_len hP ho hL).2
  intro j
  induction j with
  | zero =>
    intro k x8 x9 x10 g O nO fO h0 s1 Ds hj k1 S1 e1 A4 K4 OT hco hz FK TOs VG gn J1
    have mR := OT.2.2.1
    have mq := isL_VD (I := UI s) hP.2.2.1.1 (CI_n0 hP.2.2.1) q o ho.1 ho.2 hL
    have v0 : VD (SD s) (rt (SD s) 0 o) = VD (SD s) o := rfl
    have vk : 0 ≤ VD (SD s) (rt (SD s) (k + 2) o) := (PI_w hP.2.2.1 ho hL (j := k + 1) (by omega)).2.2.2
    have l5 := (List.getElem?_eq_some_iff.mp OT.1).1
    refine go_a (pc' := 49) (ls' := [some (.ref (c + 30)), some (.int (iI o)), some (.int (iI ((M : Int)))), some (.int (iI e)), some (.ref t4), some (.ref t5), some (.int (iI (rt (SD s) (k + 2) o))), some (.int (iI ((k : Int)))), x8, x9, x10]) (st' := [.int (iI ((k : Int)))]) rfl rfl ?_
    refine go_a (pc' := 50) (ls' := [some (.ref (c + 30)), some (.int (iI o)), some (.int (iI ((M : Int)))), some (.int (iI e)), some (.ref t4), some (.ref t5), some (.int (iI (rt (SD s) (k + 2) o))), some (.int (iI ((k : Int)))), x8, x9, x10]) (st' := [.int (iI ((M : Int))), .int (iI ((k : Int)))]) rfl rfl ?_
    refine mi_ge (t := 184) rfl rfl (by omega) (by omega) (by omega) (by omega) (fun w1 => ?_) (fun w1 => absurd (show (k : Int) ≥ M by omega) w1)
    obtain ⟨fi, ei⟩ := sp_fk_e FK (by rw [List.length_drop, lenY]; omega) F (s.I 17)
    refine go_a (pc' := 185) (ls' := [some (.ref (c + 30)), some (.int (iI o)), some (.int (iI ((M : Int)))), some (.int (iI e)), some (.ref t4), some (.ref t5), some (.int (iI (rt (SD s) (k + 2) o))), some (.int (iI ((k : Int)))), x8, x9, x10]) (st' := [.ref (c + 30)]) rfl rfl ?_
    refine go_a (pc' := 186) (ls' := [some (.ref (c + 30)), some (.int (iI o)), some (.int (iI ((M : Int)))), some (.int (iI e)), some (.ref t4), some (.ref t5), some (.int (iI (rt (SD s) (k + 2) o))), some (.int (iI ((k : Int)))), x8, x9, x10]) (st' := [.ref (c + 30), .ref (c + 30)]) rfl rfl ?_
    refine go_get (v := .ref (c + 4)) rfl (S1.1.1 19 (by decide)) rfl rfl ?_
    refine go_a (pc' := 190) (ls' := [some (.ref (c + 30)), some (.int (iI o)), some (.int (iI ((M : Int)))), some (.int (iI e)), some (.ref t4), some (.ref t5), some (.int (iI (rt (SD s) (k + 2) o))), some (.int (iI ((k : Int)))), x8, x9, x10]) (st' := [.int (iI o), .ref (c + 4), .ref (c + 30)]) rfl rfl ?_
    refine go_a (pc' := 191) (ls' := [some (.ref (c + 30)), some (.int (iI o)), some (.int (iI ((M : Int)))), some (.int (iI e)), some (.ref t4), some (.ref t5), some (.int (iI (rt (SD s) (k + 2) o))), some (.int (iI ((k : Int)))), x8, x9, x10]) (st' := [.int (iI 1), .int (iI o), .ref (c + 4), .ref (c + 30)]) rfl rfl ?_
    refine go_v (m := 202) (as := [.ref (c + 4), .int (iI o), .int (iI 1)]) (r := [.ref (c + 30)]) rfl rfl rfl (S1.1.1 3 (by decide)) rfl rfl (kq_part z (d + 6) S1 hP.2.2.1 ho hL (by omega) (by omega) (by omega)) (fun v1 h1 hq => ?_)
    obtain ⟨rfl, eq1⟩ := hq
    rw [eq1]
    clear eq1 h1
    show xx_go (xt_P z) (d + 8) 279 194 [some (.ref (c + 30)), some (.int (iI o)), some (.int (iI ((M : Int)))), some (.int (iI e)), some (.ref t4), some (.ref t5), some (.int (iI (rt (SD s) (k + 2) o))), some (.int (iI ((k : Int)))), x8, x9, x10] [.int (iI (pi s 1 o)), .ref (c + 30)] h0 _
    refine go_a (pc' := 195) (ls' := [some (.ref (c + 30)), some (.int (iI o)), some (.int (iI ((M : Int)))), some (.int (iI e)), some (.ref t4), some (.ref t5), some (.int (iI (rt (SD s) (k + 2) o))), some (.int (iI ((k : Int)))), x8, x9, x10]) (st' := [.int (iI e), .int (iI (pi s 1 o)), .ref (c + 30)]) rfl rfl ?_
    refine go_a (pc' := 196) (ls' := [some (.ref (c + 30)), some (.int (iI o)), some (.int (iI ((M : Int)))), some (.int (iI e)), some (.ref t4), some (.ref t5), some (.int (iI (rt (SD s) (k + 2) o))), some (.int (iI ((k : Int)))), x8, x9, x10]) (st' := [.int (iI 1), .int (iI e), .int (iI (pi s 1 o)), .ref (c + 30)]) rfl rfl ?_
    refine mi_add rfl ?_
    refine go_v (m := 245) (as := [.ref (c + 30), .int (iI (pi s 1 o)), .int (iI (e + 1))]) (r := []) rfl rfl rfl (S1.1.1 19 (by decide)) rfl rfl (kq_sub R hP S1 hf o1 (by omega) (by omega)) (fun v2 h2 hq => ?_)
    obtain ⟨s2, hv⟩ := hq
    rcases hv with ⟨rfl, en2, eg2, S2, Q2⟩ | ⟨y2, Z2, D2, rfl, l2, C2, ⟨TO2, es2⟩, S2, g2, PS2, Q2⟩
    · rw [PI_D hP ho hL (j := 1) (by omega), J1] at en2 eg2
      show xx_go (xt_P z) (d + 8) 279 200 [some (.ref (c + 30)), some (.int (iI o)), some (.int (iI ((M : Int)))), some (.int (iI e)), some (.ref t4), some (.ref t5), some (.int (iI (rt (SD s) (k + 2) o))), some (.int (iI ((k : Int)))), x8, x9, x10] [.null] h2 _
      refine go_a (pc' := 202) (ls' := [some (.ref (c + 30)), some (.int (iI o)), some (.int (iI ((M : Int)))), some (.int (iI e)), some (.ref t4), some (.ref t5), some (.int (iI (rt (SD s) (k + 2) o))), some (.null), x8, x9, x10]) (st' := []) rfl rfl ?_
      refine go_a (pc' := 204) (ls' := [some (.ref (c + 30)), some (.int (iI o)), some (.int (iI ((M : Int)))), some (.int (iI e)), some (.ref t4), some (.ref t5), some (.int (iI (rt (SD s) (k + 2) o))), some (.null), x8, x9, x10]) (st' := [.null]) rfl rfl ?_
      refine go_a (pc' := 207) (ls' := [some (.ref (c + 30)), some (.int (iI o)), some (.int (iI ((M : Int)))), some (.int (iI e)), some (.ref t4), some (.ref t5), some (.int (iI (rt (SD s) (k + 2) o))), some (.null), x8, x9, x10]) (st' := []) rfl rfl ?_
      refine go_a (pc' := 208) (ls' := [some (.ref (c + 30)), some (.int (iI o)), some (.int (iI ((M : Int)))), some (.int (iI e)), some (.ref t4), some (.ref t5), some (.int (iI (rt (SD s) (k + 2) o))), some (.null), x8, x9, x10]) (st' := [.null]) rfl rfl ?_
      exact go_r rfl rfl rfl rfl rfl rfl ⟨_, Or.inl ⟨rfl, (by rw [ei, en2]; rfl), (by rw [ifc_pos fi]; rw [sp_sg_n en2]; exact eg2), KST_w S2 (by omega) (by omega) (by omega)⟩⟩
    · rw [PI_D hP ho hL (j := 1) (by omega), J1] at es2
      have J2 : s2.I 17 = s2.I 17 := rfl
      have TOos_2 := KST_TRO PS2 Q2 TOs
      have z2 := S2.2.2.2.2.2.1
      have lu2 : s2.I 8 ≤ 25000 := by omega
      have e2 : s2.I 8 = s2.I 8 := rfl
      have u38 := KB_38 S2.2.1
      have Ot5_2 := OTK_u (OTK_kx OT Q2.2.2.2.2.1) (show _ ≤ s2.I 8 by omega)
      obtain ⟨At4_2, kAt4_2⟩ := KAL_kx A4 K4 Q2.2.2.2.2.1
      obtain ⟨mC2, wC2, cC2⟩ := CL_cell C2
      show xx_go (xt_P z) (d + 8) 279 200 [some (.ref (c + 30)), some (.int (iI o)), some (.int (iI ((M : Int)))), some (.int (iI e)), some (.ref t4), some (.ref t5), some (.int (iI (rt (SD s) (k + 2) o))), some (.int (iI ((k : Int)))), x8, x9, x10] [.ref y2] h2 _
      refine go_a (pc' := 202) (ls' := [some (.ref (c + 30)), some (.int (iI o)), some (.int (iI ((M : Int)))), some (.int (iI e)), some (.ref t4), some (.ref t5), some (.int (iI (rt (SD s) (k + 2) o))), some (.ref y2), x8, x9, x10]) (st' := []) rfl rfl ?_
      refine go_a (pc' := 204) (ls' := [some (.ref (c + 30)), some (.int (iI o)), some (.int (iI ((M : Int)))), some (.int (iI e)), some (.ref t4), some (.ref t5), some (.int (iI (rt (SD s) (k + 2) o))), some (.ref y2), x8, x9, x10]) (st' := [.ref y2]) rfl rfl ?_
      refine go_a (pc' := 209) (ls' := [some (.ref (c + 30)), some (.int (iI o)), some (.int (iI ((M : Int)))), some (.int (iI e)), some (.ref t4), some (.ref t5), some (.int (iI (rt (SD s) (k + 2) o))), some (.ref y2), x8, x9, x10]) (st' := []) rfl rfl ?_
      have l12_3 : 12 ≤ h2.length := by have := ki_lt S2.1 (i := 0) (by decide); have := S2.1.2.1 0 (by decide); omega
      refine go_new (ci := 12) (fs := [.null, .int 0, .int 0, .int 0]) rfl rfl rfl ?_
      show xx_go (xt_P z) (d + 8) 279 212 [some (.ref (c + 30)), some (.int (iI o)), some (.int (iI ((M : Int)))), some (.int (iI e)), some (.ref t4), some (.ref t5), some (.int (iI (rt (SD s) (k + 2) o))), some (.ref y2), x8, x9, x10] [.ref h2.length] (h2 ++ [.inr (12, [.null, .int 0, .int 0, .int 0])]) _
      refine go_a (pc' := 213) (ls' := [some (.ref (c + 30)), some (.int (iI o)), some (.int (iI ((M : Int)))), some (.int (iI e)), some (.ref t4), some (.ref t5), some (.int (iI (rt (SD s) (k + 2) o))), some (.ref y2), x8, x9, x10]) (st' := [.ref h2.length, .ref h2.length]) rfl rfl ?_
      refine go_i (m := 257) (as := [.ref h2.length]) (r := [.ref h2.length]) rfl rfl rfl rfl rfl (kh_init z (d + 7) h2 l12_3) (fun v3 h3 hq => ?_)
      obtain ⟨rfl, rfl⟩ := hq
      obtain ⟨K3, X3, B3⟩ := mkC_CL (u := (s2.I 8)) S2.1
      have C3 : CL c (mkC h2) s2 (s2.I 8) h2.length 0 [] := ⟨_, _, _, _, _, B3, rfl⟩
      have S3 := KST_X S2 K3 X3
      obtain ⟨x3, ex3⟩ : ∃ q : Nat, q = h2.length := ⟨_, rfl⟩
      have ne_y2_x3 : y2 ≠ x3 := by have := (List.getElem?_eq_some_iff.mp cC2).1; omega
      have ne_t5_x3 : t5 ≠ x3 := by have := (List.getElem?_eq_some_iff.mp Ot5_2.1).1; omega
      have ne1_t5_x3 : t5 ≠ x3 + 1 := by have := (List.getElem?_eq_some_iff.mp Ot5_2.1).1; omega
      have Cy2_3 := CL_kx C2 X3
      obtain ⟨mCy2_3, wCy2_3, cCy2_3⟩ := CL_cell Cy2_3
      have Ot5_3 := OTK_kx Ot5_2 X3
      obtain ⟨At4_3, kAt4_3⟩ := KAL_kx At4_2 kAt4_2 X3
      obtain ⟨hM3, eM3⟩ : ∃ q : xx_H, q = mkC h2 := ⟨_, rfl⟩
      have hx3 : hp.length ≤ x3 := by rw [ex3]; exact KST_len S2
      rw [← ex3] at C3
      rw [← eM3, ← ex3]
      obtain ⟨mC3, wC3, cC3⟩ := CL_cell C3
      rw [← eM3] at S3 C3 cC3 Cy2_3 cCy2_3 At4_3 Ot5_3
      clear B3 K3 X3
      show xx_go (xt_P z) (d + 8) 279 216 [some (.ref (c + 30)), some (.int (iI o)), some (.int (iI ((M : Int)))), some (.int (iI e)), some (.ref t4), some (.ref t5), some (.int (iI (rt (SD s) (k + 2) o))), some (.ref y2), x8, x9, x10] [.ref x3] hM3 _
      have ne_t5_x3 : t5 ≠ x3 ∧ t5 ≠ x3 + 1 := ⟨ne_t5_x3, ne1_t5_x3⟩
      refine go_a (pc' := 218) (ls' := [some (.ref (c + 30)), some (.int (iI o)), some (.int (iI ((M : Int)))), some (.int (iI e)), some (.ref t4), some (.ref t5), some (.int (iI (rt (SD s) (k + 2) o))), some (.ref y2), some (.ref x3), x9, x10]) (st' := []) rfl rfl ?_
      refine go_a (pc' := 219) (ls' := [some (.ref (c + 30)), some (.int (iI o)), some (.int (iI ((M : Int)))), some (.int (iI e)), some (.ref t4), some (.ref t5), some (.int (iI (rt (SD s) (k + 2) o))), some (.ref y2), some (.ref x3), x9, x10]) (st' := [.int (iI 0)]) rfl rfl ?_
      refine go_a (pc' := 221) (ls' := [some (.ref (c + 30)), some (.int (iI o)), some (.int (iI ((M : Int)))), some (.int (iI e)), some (.ref t4), some (.ref t5), some (.int (iI (rt (SD s) (k + 2) o))), some (.ref y2), some (.ref x3), some (.int (iI 0)), x10]) (st' := []) rfl rfl ?_
      obtain ⟨mD4, wD4, OD4, nD4, fD4, DD4, eZ4⟩ := id Cy2_3
      have em : (M : Int) = k := by omega
      rw [em]
      rw [em] at Ot5_3 At4_3
      have MX : ∃ Mx : Int, 1 ≤ Mx ∧ (∀ j : Int, 0 ≤ j → j < (k : Int) → nO j ≤ Mx) ∧ (Mx = 1 ∨ 3 ≤ (VD (SD s) (rt (SD s) 2 o) - VD (SD s) (rt (SD s) (k + 2) o))) := by
        rcases hz with hz | hz
        · exact ⟨1, by decide, hz, Or.inl rfl⟩
        · refine ⟨120, by decide, fun j j0 j1 => ?_, Or.inr hz⟩
          obtain ⟨a, -, -, T⟩ := Ot5_3.2.2.2 j j0 (by omega)
          exact (TM_n T).2
      obtain ⟨Mx, M1, hM, M2⟩ := MX
      exact kq_inst_l2 z d c o e k _ (WD (SD s) o) _ (100 * WD (SD s) o - 446) (700 * WD (SD s) o - 2390 - (if Mx = 1 then 430 else 3630)) (WD (SD s) o) hp s NM hP t4 t5 y2 x3 _ _ mD4 wD4 _ OD4 nD4 fD4 _ g O nO fO Mx M1 hM hx3 ne_y2_x3 ne_t5_x3 (by omega) (by omega) (by omega) _ _ (s2.I 17) _ Ds D2 (by rw [ifc_pos fi, sp_sg_s es2]; rfl) (by rw [ei, es2]; rfl) mD4.toNat 0 _ _ _ _ (by omega) DD4.2.2.2.1.1 (KST_w S3 (by omega) (by rw [csl_0]; rcases M2 with q | q <;> split <;> omega) (by omega)) e2 DD4 C3 At4_3 kAt4_3 Ot5_3 (by rw [List.take_zero]; rfl) (by rw [eZ4]; exact TO2) TOos_2 (KST_VRG hP S3 VG) rfl
  | succ j ih =>
    intro k x8 x9 x10 g O nO fO h0 s1 Ds hj k1 S1 e1 A4 K4 OT hco hz FK TOs VG gn J1
    have mR := OT.2.2.1
    have mq := isL_VD (I := UI s) hP.2.2.1.1 (CI_n0 hP.2.2.1) q o ho.1 ho.2 hL
    have v0 : VD (SD s) (rt (SD s) 0 o) = VD (SD s) o := rfl
    have vk : 0 ≤ VD (SD s) (rt (SD s) (k + 2) o) := (PI_w hP.2.2.1 ho hL (j := k + 1) (by omega)).2.2.2
    have l5 := (List.getElem?_eq_some_iff.mp OT.1).1
    refine go_a (pc' := 49) (ls' := [some (.ref (c + 30)), some (.int (iI o)), some (.int (iI ((M : Int)))), some (.int (iI e)), some (.ref t4), some (.ref t5), some (.int (iI (rt (SD s) (k + 2) o))), some (.int (iI ((k : Int)))), x8, x9, x10]) (st' := [.int (iI ((k : Int)))]) rfl rfl ?_
    refine go_a (pc' := 50) (ls' := [some (.ref (c + 30)), some (.int (iI o)), some (.int (iI ((M : Int)))), some (.int (iI e)), some (.ref t4), some (.ref t5), some (.int (iI (rt (SD s) (k + 2) o))), some (.int (iI ((k : Int)))), x8, x9, x10]) (st' := [.int (iI ((M : Int))), .int (iI ((k : Int)))]) rfl rfl ?_
    refine mi_ge (t := 184) rfl rfl (by omega) (by omega) (by omega) (by omega) (fun w1 => ?_) (fun w1 => ?_)
    · obtain ⟨fi, ei⟩ := sp_fk_e FK (by rw [List.length_drop, lenY]; omega) F (s.I 17)
      refine go_a (pc' := 185) (ls' := [some (.ref (c + 30)), some (.int (iI o)), some (.int (iI ((M : Int)))), some (.int (iI e)), some (.ref t4), some (.ref t5), some (.int (iI (rt (SD s) (k + 2) o))), some (.int (iI ((k : Int)))), x8, x9, x10]) (st' := [.ref (c + 30)]) rfl rfl ?_
      refine go_a (pc' := 186) (ls' := [some (.ref (c + 30)), some (.int (iI o)), some (.int (iI ((M : Int)))), some (.int (iI e)), some (.ref t4), some (.ref t5), some (.int (iI (rt (SD s) (k + 2) o))), some (.int (iI ((k : Int)))), x8, x9, x10]) (st' := [.ref (c + 30), .ref (c + 30)]) rfl rfl ?_
      refine go_get (v := .ref (c + 4)) rfl (S1.1.1 19 (by decide)) rfl rfl ?_
      refine go_a (pc' := 190) (ls' := [some (.ref (c + 30)), some (.int (iI o)), some (.int (iI ((M : Int)))), some (.int (iI e)), some (.ref t4), some (.ref t5), some (.int (iI (rt (SD s) (k + 2) o))), some (.int (iI ((k : Int)))), x8, x9, x10]) (st' := [.int (iI o), .ref (c + 4), .ref (c + 30)]) rfl rfl ?_
      refine go_a (pc' := 191) (ls' := [some (.ref (c + 30)), some (.int (iI o)), some (.int (iI ((M : Int)))), some (.int (iI e)), some (.ref t4), some (.ref t5), some (.int (iI (rt (SD s) (k + 2) o))), some (.int (iI ((k : Int)))), x8, x9, x10]) (st' := [.int (iI 1), .int (iI o), .ref (c + 4), .ref (c + 30)]) rfl rfl ?_
      refine go_v (m := 202) (as := [.ref (c + 4), .int (iI o), .int (iI 1)]) (r := [.ref (c + 30)]) rfl rfl rfl (S1.1.1 3 (by decide)) rfl rfl (kq_part z (d + 6) S1 hP.2.2.1 ho hL (by omega) (by omega) (by omega)) (fun v1 h1 hq => ?_)
      obtain ⟨rfl, eq1⟩ := hq
      rw [eq1]
      clear eq1 h1
      show xx_go (xt_P z) (d + 8) 279 194 [some (.ref (c + 30)), some (.int (iI o)), some (.int (iI ((M : Int)))), some (.int (iI e)), some (.ref t4), some (.ref t5), some (.int (iI (rt (SD s) (k + 2) o))), some (.int (iI ((k : Int)))), x8, x9, x10] [.int (iI (pi s 1 o)), .ref (c + 30)] h0 _
      refine go_a (pc' := 195) (ls' := [some (.ref (c + 30)), some (.int (iI o)), some (.int (iI ((M : Int)))), some (.int (iI e)), some (.ref t4), some (.ref t5), some (.int (iI (rt (SD s) (k + 2) o))), some (.int (iI ((k : Int)))), x8, x9, x10]) (st' := [.int (iI e), .int (iI (pi s 1 o)), .ref (c + 30)]) rfl rfl ?_
      refine go_a (pc' := 196) (ls' := [some (.ref (c + 30)), some (.int (iI o)), some (.int (iI ((M : Int)))), some (.int (iI e)), some (.ref t4), some (.ref t5), some (.int (iI (rt (SD s) (k + 2) o))), some (.int (iI ((k : Int)))), x8, x9, x10]) (st' := [.int (iI 1), .int (iI e), .int (iI (pi s 1 o)), .ref (c + 30)]) rfl rfl ?_
      refine mi_add rfl ?_
      refine go_v (m := 245) (as := [.ref (c + 30), .int (iI (pi s 1 o)), .int (iI (e + 1))]) (r := []) rfl rfl rfl (S1.1.1 19 (by decide)) rfl rfl (kq_sub R hP S1 hf o1 (by omega) (by omega)) (fun v2 h2 hq => ?_)
      obtain ⟨s2, hv⟩ := hq
      rcases hv with ⟨rfl, en2, eg2, S2, Q2⟩ | ⟨y2, Z2, D2, rfl, l2, C2, ⟨TO2, es2⟩, S2, g2, PS2, Q2⟩
      · rw [PI_D hP ho hL (j := 1) (by omega), J1] at en2 eg2
        show xx_go (xt_P z) (d + 8) 279 200 [some (.ref (c + 30)), some (.int (iI o)), some (.int (iI ((M : Int)))), some (.int (iI e)), some (.ref t4), some (.ref t5), some (.int (iI (rt (SD s) (k + 2) o))), some (.int (iI ((k : Int)))), x8, x9, x10] [.null] h2 _
        refine go_a (pc' := 202) (ls' := [some (.ref (c + 30)), some (.int (iI o)), some (.int (iI ((M : Int)))), some (.int (iI e)), some (.ref t4), some (.ref t5), some (.int (iI (rt (SD s) (k + 2) o))), some (.null), x8, x9, x10]) (st' := []) rfl rfl ?_
        refine go_a (pc' := 204) (ls' := [some (.ref (c + 30)), some (.int (iI o)), some (.int (iI ((M : Int)))), some (.int (iI e)), some (.ref t4), some (.ref t5), some (.int (iI (rt (SD s) (k + 2) o))), some (.null), x8, x9, x10]) (st' := [.null]) rfl rfl ?_
        refine go_a (pc' := 207) (ls' := [some (.ref (c + 30)), some (.int (iI o)), some (.int (iI ((M : Int)))), some (.int (iI e)), some (.ref t4), some (.ref t5), some (.int (iI (rt (SD s) (k + 2) o))), some (.null), x8, x9, x10]) (st' := []) rfl rfl ?_
        refine go_a (pc' := 208) (ls' := [some (.ref (c + 30)), some (.int (iI o)), some (.int (iI ((M : Int)))), some (.int (iI e)), some (.ref t4), some (.ref t5), some (.int (iI (rt (SD s) (k + 2) o))), some (.null), x8, x9, x10]) (st' := [.null]) rfl rfl ?_
        exact go_r rfl rfl rfl rfl rfl rfl ⟨_, Or.inl ⟨rfl, (by rw [ei, en2]; rfl), (by rw [ifc_pos fi]; rw [sp_sg_n en2]; exact eg2), KST_w S2 (by omega) (by omega) (by omega)⟩⟩
      · rw [PI_D hP ho hL (j := 1) (by omega), J1] at es2
        have J2 : s2.I 17 = s2.I 17 := rfl
        have TOos_2 := KST_TRO PS2 Q2 TOs
        have z2 := S2.2.2.2.2.2.1
        have lu2 : s2.I 8 ≤ 25000 := by omega
        have e2 : s2.I 8 = s2.I 8 := rfl
        have u38 := KB_38 S2.2.1
        have Ot5_2 := OTK_u (OTK_kx OT Q2.2.2.2.2.1) (show _ ≤ s2.I 8 by omega)
        obtain ⟨At4_2, kAt4_2⟩ := KAL_kx A4 K4 Q2.2.2.2.2.1
        obtain ⟨mC2, wC2, cC2⟩ := CL_cell C2
        show xx_go (xt_P z) (d + 8) 279 200 [some (.ref (c + 30)), some (.int (iI o)), some (.int (iI ((M : Int)))), some (.int (iI e)), some (.ref t4), some (.ref t5), some (.int (iI (rt (SD s) (k + 2) o))), some (.int (iI ((k : Int)))), x8, x9, x10] [.ref y2] h2 _
        refine go_a (pc' := 202) (ls' := [some (.ref (c + 30)), some (.int (iI o)), some (.int (iI ((M : Int)))), some (.int (iI e)), some (.ref t4), some (.ref t5), some (.int (iI (rt (SD s) (k + 2) o))), some (.ref y2), x8, x9, x10]) (st' := []) rfl rfl ?_
        refine go_a (pc' := 204) (ls' := [some (.ref (c + 30)), some (.int (iI o)), some (.int (iI ((M : Int)))), some (.int (iI e)), some (.ref t4), some (.ref t5), some (.int (iI (rt (SD s) (k + 2) o))), some (.ref y2), x8, x9, x10]) (st' := [.ref y2]) rfl rfl ?_
        refine go_a (pc' := 209) (ls' := [some (.ref (c + 30)), some (.int (iI o)), some (.int (iI ((M : Int)))), some (.int (iI e)), some (.ref t4), some (.ref t5), some (.int (iI (rt (SD s) (k + 2) o))), some (.ref y2), x8, x9, x10]) (st' := []) rfl rfl ?_
        have l12_3 : 12 ≤ h2.length := by have := ki_lt S2.1 (i := 0) (by decide); have := S2.1.2.1 0 (by decide); omega
        refine go_new (ci := 12) (fs := [.null, .int 0, .int 0, .int 0]) rfl rfl rfl ?_
        show xx_go (xt_P z) (d + 8) 279 212 [some (.ref (c + 30)), some (.int (iI o)), some (.int (iI ((M : Int)))), some (.int (iI e)), some (.ref t4), some (.ref t5), some (.int (iI (rt (SD s) (k + 2) o))), some (.ref y2), x8, x9, x10] [.ref h2.length] (h2 ++ [.inr (12, [.null, .int 0, .int 0, .int 0])]) _
        refine go_a (pc' := 213) (ls' := [some (.ref (c + 30)), some (.int (iI o)), some (.int (iI ((M : Int)))), some (.int (iI e)), some (.ref t4), some (.ref t5), some (.int (iI (rt (SD s) (k + 2) o))), some (.ref y2), x8, x9, x10]) (st' := [.ref h2.length, .ref h2.length]) rfl rfl ?_
        refine go_i (m := 257) (as := [.ref h2.length]) (r := [.ref h2.length]) rfl rfl rfl rfl rfl (kh_init z (d + 7) h2 l12_3) (fun v3 h3 hq => ?_)
        obtain ⟨rfl, rfl⟩ := hq
        obtain ⟨K3, X3, B3⟩ := mkC_CL (u := (s2.I 8)) S2.1
        have C3 : CL c (mkC h2) s2 (s2.I 8) h2.length 0 [] := ⟨_, _, _, _, _, B3, rfl⟩
        have S3 := KST_X S2 K3 X3
        obtain ⟨x3, ex3⟩ : ∃ q : Nat, q = h2.length := ⟨_, rfl⟩
        have ne_y2_x3 : y2 ≠ x3 := by have := (List.getElem?_eq_some_iff.mp cC2).1; omega
        have ne_t5_x3 : t5 ≠ x3 := by have := (List.getElem?_eq_some_iff.mp Ot5_2.1).1; omega
        have ne1_t5_x3 : t5 ≠ x3 + 1 := by have := (List.getElem?_eq_some_iff.mp Ot5_2.1).1; omega
        have Cy2_3 := CL_kx C2 X3
        obtain ⟨mCy2_3, wCy2_3, cCy2_3⟩ := CL_cell Cy2_3
        have Ot5_3 := OTK_kx Ot5_2 X3
        obtain ⟨At4_3, kAt4_3⟩ := KAL_kx At4_2 kAt4_2 X3
        obtain ⟨hM3, eM3⟩ : ∃ q : xx_H, q = mkC h2 := ⟨_, rfl⟩
        have hx3 : hp.length ≤ x3 := by rw [ex3]; exact KST_len S2
        rw [← ex3] at C3
        rw [← eM3, ← ex3]
        obtain ⟨mC3, wC3, cC3⟩ := CL_cell C3
        rw [← eM3] at S3 C3 cC3 Cy2_3 cCy2_3 At4_3 Ot5_3
        clear B3 K3 X3
        show xx_go (xt_P z) (d + 8) 279 216 [some (.ref (c + 30)), some (.int (iI o)), some (.int (iI ((M : Int)))), some (.int (iI e)), some (.ref t4), some (.ref t5), some (.int (iI (rt (SD s) (k + 2) o))), some (.ref y2), x8, x9, x10] [.ref x3] hM3 _
        have ne_t5_x3 : t5 ≠ x3 ∧ t5 ≠ x3 + 1 := ⟨ne_t5_x3, ne1_t5_x3⟩
        refine go_a (pc' := 218) (ls' := [some (.ref (c + 30)), some (.int (iI o)), some (.int (iI ((M : Int)))), some (.int (iI e)), some (.ref t4), some (.ref t5), some (.int (iI (rt (SD s) (k + 2) o))), some (.ref y2), some (.ref x3), x9, x10]) (st' := []) rfl rfl ?_
        refine go_a (pc' := 219) (ls' := [some (.ref (c + 30)), some (.int (iI o)), some (.int (iI ((M : Int)))), some (.int (iI e)), some (.ref t4), some (.ref t5), some (.int (iI (rt (SD s) (k + 2) o))), some (.ref y2), some (.ref x3), x9, x10]) (st' := [.int (iI 0)]) rfl rfl ?_
        refine go_a (pc' := 221) (ls' := [some (.ref (c + 30)), some (.int (iI o)), some (.int (iI ((M : Int)))), some (.int (iI e)), some (.ref t4), some (.ref t5), some (.int (iI (rt (SD s) (k + 2) o))), some (.ref y2), some (.ref x3), some (.int (iI 0)), x10]) (st' := []) rfl rfl ?_
        obtain ⟨mD4, wD4, OD4, nD4, fD4, DD4, eZ4⟩ := id Cy2_3
        have em : (M : Int) = k := by omega
        rw [em]
        rw [em] at Ot5_3 At4_3
        have MX : ∃ Mx : Int, 1 ≤ Mx ∧ (∀ j : Int, 0 ≤ j → j < (k : Int) → nO j ≤ Mx) ∧ (Mx = 1 ∨ 3 ≤ (VD (SD s) (rt (SD s) 2 o) - VD (SD s) (rt (SD s) (k + 2) o))) := by
          rcases hz with hz | hz
          · exact ⟨1, by decide, hz, Or.inl rfl⟩
          · refine ⟨120, by decide, fun j j0 j1 => ?_, Or.inr hz⟩
            obtain ⟨a, -, -, T⟩ := Ot5_3.2.2.2 j j0 (by omega)
            exact (TM_n T).2
        obtain ⟨Mx, M1, hM, M2⟩ := MX
        exact kq_inst_l2 z d c o e k _ (WD (SD s) o) _ (100 * WD (SD s) o - 446) (700 * WD (SD s) o - 2390 - (if Mx = 1 then 430 else 3630)) (WD (SD s) o) hp s NM hP t4 t5 y2 x3 _ _ mD4 wD4 _ OD4 nD4 fD4 _ g O nO fO Mx M1 hM hx3 ne_y2_x3 ne_t5_x3 (by omega) (by omega) (by omega) _ _ (s2.I 17) _ Ds D2 (by rw [ifc_pos fi, sp_sg_s es2]; rfl) (by rw [ei, es2]; rfl) mD4.toNat 0 _ _ _ _ (by omega) DD4.2.2.2.1.1 (KST_w S3 (by omega) (by rw [csl_0]; rcases M2 with q | q <;> split <;> omega) (by omega)) e2 DD4 C3 At4_3 kAt4_3 Ot5_3 (by rw [List.take_zero]; rfl) (by rw [eZ4]; exact TO2) TOos_2 (KST_VRG hP S3 VG) rfl
    · obtain ⟨q1, q2, q3, q4⟩ := PI_w hP.2.2.1 ho hL (j := k + 2) (by omega)
      have vq := VD_rtl (I := UI s) hP.2.2.1.1 ho.1 ho.2 hL (k + 2) (by omega)
      have qf := (fst_OB S1.2.2.1 S1.2.1 (pi s (k + 2) o)).1
      have qf1 := qf.1
      have qf2 := qf.2
      have qR := OB_R hP.2.1 q2
      have yk : ((sp_as (DK s.N o)).drop 2)[k]? = some (DK s.N (pi s (k + 2) o)) := by rw [List.getElem?_drop, Nat.add_comm 2 k]; exact AS_get hP ho hL (by omega)
      refine go_a (pc' := 54) (ls' := [some (.ref (c + 30)), some (.int (iI o)), some (.int (iI ((M : Int)))), some (.int (iI e)), some (.ref t4), some (.ref t5), some (.int (iI (rt (SD s) (k + 2) o))), some (.int (iI ((k : Int)))), x8, x9, x10]) (st' := [.ref (c + 30)]) rfl rfl ?_
      refine go_get (v := .ref (c + 4)) rfl (S1.1.1 19 (by decide)) rfl rfl ?_
      refine go_a (pc' := 59) (ls' := [some (.ref (c + 30)), some (.int (iI o)), some (.int (iI ((M : Int)))), some (.int (iI e)), some (.ref t4), some (.ref t5), some (.int (iI (rt (SD s) (k + 2) o))), some (.int (iI ((k : Int)))), x8, x9, x10]) (st' := [.int (iI (rt (SD s) (k + 2) o)), .ref (c + 4)]) rfl rfl ?_
      refine go_v (m := 197) (as := [.ref (c + 4), .int (iI (rt (SD s) (k + 2) o))]) (r := []) rfl rfl rfl (S1.1.1 3 (by decide)) rfl rfl (kq_first z (d + 7) S1 hP.2.2.1 ho hL (by omega)) (fun v1 h1 hq => ?_)
      obtain ⟨rfl, eq1⟩ := hq
      rw [eq1]
      clear eq1 h1
      show xx_go (xt_P z) (d + 8) 279 62 [some (.ref (c + 30)), some (.int (iI o)), some (.int (iI ((M : Int)))), some (.int (iI e)), some (.ref t4), some (.ref t5), some (.int (iI (rt (SD s) (k + 2) o))), some (.int (iI ((k : Int)))), x8, x9, x10] [.int (iI (pi s (k + 2) o))] h0 _
      refine go_a (pc' := 64) (ls' := [some (.ref (c + 30)), some (.int (iI o)), some (.int (iI ((M : Int)))), some (.int (iI e)), some (.ref t4), some (.ref t5), some (.int (iI (rt (SD s) (k + 2) o))), some (.int (iI ((k : Int)))), some (.int (iI (pi s (k + 2) o))), x9, x10]) (st' := []) rfl rfl ?_
      refine go_a (pc' := 65) (ls' := [some (.ref (c + 30)), some (.int (iI o)), some (.int (iI ((M : Int)))), some (.int (iI e)), some (.ref t4), some (.ref t5), some (.int (iI (rt (SD s) (k + 2) o))), some (.int (iI ((k : Int)))), some (.int (iI (pi s (k + 2) o))), x9, x10]) (st' := [.ref (c + 30)]) rfl rfl ?_
      refine go_get (v := .ref (c + 4)) rfl (S1.1.1 19 (by decide)) rfl rfl ?_
      refine go_a (pc' := 70) (ls' := [some (.ref (c + 30)), some (.int (iI o)), some (.int (iI ((M : Int)))), some (.int (iI e)), some (.ref t4), some (.ref t5), some (.int (iI (rt (SD s) (k + 2) o))), some (.int (iI ((k : Int)))), some (.int (iI (pi s (k + 2) o))), x9, x10]) (st' := [.int (iI (pi s (k + 2) o)), .ref (c + 4)]) rfl rfl ?_
      refine go_v (m := 197) (as := [.ref (c + 4), .int (iI (pi s (k + 2) o))]) (r := []) rfl rfl rfl (S1.1.1 3 (by decide)) rfl rfl (kc_first z (d + 7) c (pi s (k + 2) o) h0 s1 S1.1 S1.2.1 (by omega) (by omega)) (fun v2 h2 hq => ?_)
      obtain ⟨rfl, eq2⟩ := hq
      rw [eq2]
      clear eq2 h2
      show xx_go (xt_P z) (d + 8) 279 73 [some (.ref (c + 30)), some (.int (iI o)), some (.int (iI ((M : Int)))), some (.int (iI e)), some (.ref t4), some (.ref t5), some (.int (iI (rt (SD s) (k + 2) o))), some (.int (iI ((k : Int)))), some (.int (iI (pi s (k + 2) o))), x9, x10] [.int (iI (fst s1 (pi s (k + 2) o)))] h0 _
      refine go_a (pc' := 75) (ls' := [some (.ref (c + 30)), some (.int (iI o)), some (.int (iI ((M : Int)))), some (.int (iI e)), some (.ref t4), some (.ref t5), some (.int (iI (rt (SD s) (k + 2) o))), some (.int (iI ((k : Int)))), some (.int (iI (pi s (k + 2) o))), some (.int (iI (fst s1 (pi s (k + 2) o)))), x10]) (st' := []) rfl rfl ?_
      refine go_a (pc' := 77) (ls' := [some (.ref (c + 30)), some (.int (iI o)), some (.int (iI ((M : Int)))), some (.int (iI e)), some (.ref t4), some (.ref t5), some (.int (iI (rt (SD s) (k + 2) o))), some (.int (iI ((k : Int)))), some (.int (iI (pi s (k + 2) o))), some (.int (iI (fst s1 (pi s (k + 2) o)))), x10]) (st' := [.int (iI (fst s1 (pi s (k + 2) o)))]) rfl rfl ?_
      refine go_s (m := 204) (as := [.int (iI (fst s1 (pi s (k + 2) o)))]) (r := []) rfl rfl rfl rfl (kg_variable z (d + 7) (fst s1 (pi s (k + 2) o)) h0 (by omega) (by omega)) (fun v3 h3 hq => ?_)
      obtain ⟨rfl, eq3⟩ := hq
      rw [eq3]
      clear eq3 h3
      show xx_go (xt_P z) (d + 8) 279 80 [some (.ref (c + 30)), some (.int (iI o)), some (.int (iI ((M : Int)))), some (.int (iI e)), some (.ref t4), some (.ref t5), some (.int (iI (rt (SD s) (k + 2) o))), some (.int (iI ((k : Int)))), some (.int (iI (pi s (k + 2) o))), some (.int (iI (fst s1 (pi s (k + 2) o)))), x10] [.int (iI (fst s1 (pi s (k + 2) o) * 32))] h0 _
      refine go_a (pc' := 82) (ls' := [some (.ref (c + 30)), some (.int (iI o)), some (.int (iI ((M : Int)))), some (.int (iI e)), some (.ref t4), some (.ref t5), some (.int (iI (rt (SD s) (k + 2) o))), some (.int (iI ((k : Int)))), some (.int (iI (pi s (k + 2) o))), some (.int (iI (fst s1 (pi s (k + 2) o)))), some (.int (iI (fst s1 (pi s (k + 2) o) * 32)))]) (st' := []) rfl rfl ?_
      refine go_a (pc' := 83) (ls' := [some (.ref (c + 30)), some (.int (iI o)), some (.int (iI ((M : Int)))), some (.int (iI e)), some (.ref t4), some (.ref t5), some (.int (iI (rt (SD s) (k + 2) o))), some (.int (iI ((k : Int)))), some (.int (iI (pi s (k + 2) o))), some (.int (iI (fst s1 (pi s (k + 2) o)))), some (.int (iI (fst s1 (pi s (k + 2) o) * 32)))]) (st' := [.ref (c + 30)]) rfl rfl ?_
      refine go_get (v := .ref (c + 4)) rfl (S1.1.1 19 (by decide)) rfl rfl ?_
      refine go_a (pc' := 88) (ls' := [some (.ref (c + 30)), some (.int (iI o)), some (.int (iI ((M : Int)))), some (.int (iI e)), some (.ref t4), some (.ref t5), some (.int (iI (rt (SD s) (k + 2) o))), some (.int (iI ((k : Int)))), some (.int (iI (pi s (k + 2) o))), some (.int (iI (fst s1 (pi s (k + 2) o)))), some (.int (iI (fst s1 (pi s (k + 2) o) * 32)))]) (st' := [.int (iI (pi s (k + 2) o)), .ref (c + 4)]) rfl rfl ?_
      have no : ¬ sp_fi NM.2.2.1 (DK s.N o) → xx_go (xt_P z) (d + 8) 279 118 [some (.ref (c + 30)), some (.int (iI o)), some (.int (iI ((M : Int)))), some (.int (iI e)), some (.ref t4), some (.ref t5), some (.int (iI (rt (SD s) (k + 2) o))), some (.int (iI ((k : Int)))), some (.int (iI (pi s (k + 2) o))), some (.int (iI (fst s1 (pi s (k + 2) o)))), some (.int (iI (fst s1 (pi s (k + 2) o) * 32)))] [] h0 (fun v h1 => PRP c hp s (WD (SD s) o) NM.2.2.1 (sp_inst NM.2.2.1 F (DK s.N o) (s.I 17)) (sp_sg F G (ifc (sp_fi NM.2.2.1 (DK s.N o)) [sp_p 1 (DK s.N o)] []) (s.I 17)) v h1) := by
        intro nf
        refine go_a (pc' := 119) (ls' := [some (.ref (c + 30)), some (.int (iI o)), some (.int (iI ((M : Int)))), some (.int (iI e)), some (.ref t4), some (.ref t5), some (.int (iI (rt (SD s) (k + 2) o))), some (.int (iI ((k : Int)))), some (.int (iI (pi s (k + 2) o))), some (.int (iI (fst s1 (pi s (k + 2) o)))), some (.int (iI (fst s1 (pi s (k + 2) o) * 32)))]) (st' := [.ref (c + 30)]) rfl rfl ?_
        refine go_a (pc' := 120) (ls' := [some (.ref (c + 30)), some (.int (iI o)), some (.int (iI ((M : Int)))), some (.int (iI e)), some (.ref t4), some (.ref t5), some (.int (iI (rt (SD s) (k + 2) o))), some (.int (iI ((k : Int)))), some (.int (iI (pi s (k + 2) o))), some (.int (iI (fst s1 (pi s (k + 2) o)))), some (.int (iI (fst s1 (pi s (k + 2) o) * 32)))]) (st' := [.int (iI o), .ref (c + 30)]) rfl rfl ?_
        refine go_v (m := 248) (as := [.ref (c + 30), .int (iI o)]) (r := []) rfl rfl rfl (S1.1.1 19 (by decide)) rfl rfl (kq_failAtP z (d + 7) (w := WD (SD s) o) S1 (by omega) (by omega) (by omega) (by omega) (by omega) (ft := NM.2.2.1) (ρ := (sp_inst NM.2.2.1 F (DK s.N o) (s.I 17))) (σ := (sp_sg F G (ifc (sp_fi NM.2.2.1 (DK s.N o)) [sp_p 1 (DK s.N o)] []) (s.I 17))) (sp_inst_n _ _ nf) (by rw [ifc_neg nf]; exact J1)) (fun v4 h4 hq => ?_)
        obtain ⟨rfl, R4⟩ := hq
        show xx_go (xt_P z) (d + 8) 279 123 [some (.ref (c + 30)), some (.int (iI o)), some (.int (iI ((M : Int)))), some (.int (iI e)), some (.ref t4), some (.ref t5), some (.int (iI (rt (SD s) (k + 2) o))), some (.int (iI ((k : Int)))), some (.int (iI (pi s (k + 2) o))), some (.int (iI (fst s1 (pi s (k + 2) o)))), some (.int (iI (fst s1 (pi s (k + 2) o) * 32)))] [.null] h4 _
        exact go_r rfl rfl rfl rfl rfl rfl R4
      refine go_v (m := 198) (as := [.ref (c + 4), .int (iI (pi s (k + 2) o))]) (r := []) rfl rfl rfl (S1.1.1 3 (by decide)) rfl rfl (kq_len z (d + 6) hP S1 q2) (fun v h3 hq => ?_)
      obtain ⟨⟨n, rfl, nR, hn⟩, e9⟩ := hq
      rw [e9]
      clear e9 h3
      show xx_go (xt_P z) (d + 8) 279 91 [some (.ref (c + 30)), some (.int (iI o)), some (.int (iI ((M : Int)))), some (.int (iI e)), some (.ref t4), some (.ref t5), some (.int (iI (rt (SD s) (k + 2) o))), some (.int (iI ((k : Int)))), some (.int (iI (pi s (k + 2) o))), some (.int (iI (fst s1 (pi s (k + 2) o)))), some (.int (iI (fst s1 (pi s (k + 2) o) * 32)))] [.int (iI n)] h0 _
      refine go_a (pc' := 92) (ls' := [some (.ref (c + 30)), some (.int (iI o)), some (.int (iI ((M : Int)))), some (.int (iI e)), some (.ref t4), some (.ref t5), some (.int (iI (rt (SD s) (k + 2) o))), some (.int (iI ((k : Int)))), some (.int (iI (pi s (k + 2) o))), some (.int (iI (fst s1 (pi s (k + 2) o)))), some (.int (iI (fst s1 (pi s (k + 2) o) * 32)))]) (st' := [.int (iI 2), .int (iI n)]) rfl rfl ?_
      refine mi_ne (t := 118) rfl rfl (by omega) (by omega) (by omega) (by omega) (fun w2 => no (fi_1 yk (fun w => LEN_two hP q2 hn (by omega) ⟨w.1, w.2.1⟩))) (fun w2 => ?_)
      obtain ⟨q9, en, hL2⟩ := hn.resolve_left (by omega)
      clear hn
      obtain rfl : q9 = 2 := by omega
      obtain ⟨t1, t2, t3⟩ := two_w hP.2.2.1 q2 hL2
      have al := AS_len hP q2 hL2
      have d0 := PI_D hP q2 hL2 (j := 0) (by decide)
      have ef : fst s1 (pi s (k + 2) o) = pi s 0 (pi s (k + 2) o) := by
        have g1 := S1.2.2.2.1
        have g3 := (PFR_SD g1 q2.2).1
        have g4 := hL2.1
        have g5 := g1.2.2.2.1
        have g6 := q2.2
        exact (fst_eq (s := s1) q2.1 (by omega) (by omega)).1.trans g3
      have o0 := (PI_w hP.2.2.1 q2 hL2 (j := 0) (by decide)).2.1
      have n0 : s1.N (fst s1 (pi s (k + 2) o)) = s.N (pi s 0 (pi s (k + 2) o)) := by rw [ef]; exact (S1.2.2.2.1.2.2.2.2 _ o0.2).1
      have iv := ST_iva STS.1 o0.1 o0.2
      rw [d0, SD_v] at iv
      refine go_a (pc' := 96) (ls' := [some (.ref (c + 30)), some (.int (iI o)), some (.int (iI ((M : Int)))), some (.int (iI e)), some (.ref t4), some (.ref t5), some (.int (iI (rt (SD s) (k + 2) o))), some (.int (iI ((k : Int)))), some (.int (iI (pi s (k + 2) o))), some (.int (iI (fst s1 (pi s (k + 2) o)))), some (.int (iI (fst s1 (pi s (k + 2) o) * 32)))]) (st' := [.ref (c + 30)]) rfl rfl ?_
      refine go_get (v := .ref (c + 4)) rfl (S1.1.1 19 (by decide)) rfl rfl ?_
      refine go_a (pc' := 101) (ls' := [some (.ref (c + 30)), some (.int (iI o)), some (.int (iI ((M : Int)))), some (.int (iI e)), some (.ref t4), some (.ref t5), some (.int (iI (rt (SD s) (k + 2) o))), some (.int (iI ((k : Int)))), some (.int (iI (pi s (k + 2) o))), some (.int (iI (fst s1 (pi s (k + 2) o)))), some (.int (iI (fst s1 (pi s (k + 2) o) * 32)))]) (st' := [.int (iI (fst s1 (pi s (k + 2) o))), .ref (c + 4)]) rfl rfl ?_
      refine go_v (m := 205) (as := [.ref (c + 4), .int (iI (fst s1 (pi s (k + 2) o)))]) (r := []) rfl rfl rfl (S1.1.1 3 (by decide)) rfl rfl (kc_isVariable z (d + 6) c (fst s1 (pi s (k + 2) o)) h0 s1 S1.1 S1.2.1 (by omega) (by omega)) (fun v4 h4 hq => ?_)
      obtain ⟨hq, eq4⟩ := hq
      rw [eq4]
      clear eq4 h4
      rcases hq with ⟨cv, rfl⟩ | ⟨cv, rfl⟩
      · have ivt : sp_iv (sp_p 0 (DK s.N (pi s (k + 2) o))) = true := iv.mp ⟨by rw [← n0]; exact cv.1.2.2, by rw [← ef]; exact cv.2.1, by rw [← ef]; exact cv.2.2⟩
        obtain ⟨v9, e9v, v91, v92⟩ := sp_iv_e ivt
        have d9 : DK s.N (pi s 0 (pi s (k + 2) o)) = .var v9 := d0.trans e9v
        have vm := VRG_mem STS.2 o0 d9 VG
        have hm := hc_mem (v := v9) (fun y hy => (FK.1 y hy).2.2)
        rw [hm, ← e9v] at vm
        show xx_go (xt_P z) (d + 8) 279 104 [some (.ref (c + 30)), some (.int (iI o)), some (.int (iI ((M : Int)))), some (.int (iI e)), some (.ref t4), some (.ref t5), some (.int (iI (rt (SD s) (k + 2) o))), some (.int (iI ((k : Int)))), some (.int (iI (pi s (k + 2) o))), some (.int (iI (fst s1 (pi s (k + 2) o)))), some (.int (iI (fst s1 (pi s (k + 2) o) * 32)))] [.int (iI 1)] h0 _
        refine mi_eq0 (t := 118) rfl rfl (by omega) (by omega) (fun q => absurd q (by decide)) (fun _ => ?_)
        refine go_a (pc' := 109) (ls' := [some (.ref (c + 30)), some (.int (iI o)), some (.int (iI ((M : Int)))), some (.int (iI e)), some (.ref t4), some (.ref t5), some (.int (iI (rt (SD s) (k + 2) o))), some (.int (iI ((k : Int)))), some (.int (iI (pi s (k + 2) o))), some (.int (iI (fst s1 (pi s (k + 2) o)))), some (.int (iI (fst s1 (pi s (k + 2) o) * 32)))]) (st' := [.int (iI (fst s1 (pi s (k + 2) o) * 32))]) rfl rfl ?_
        refine go_a (pc' := 111) (ls' := [some (.ref (c + 30)), some (.int (iI o)), some (.int (iI ((M : Int)))), some (.int (iI e)), some (.ref t4), some (.ref t5), some (.int (iI (rt (SD s) (k + 2) o))), some (.int (iI ((k : Int)))), some (.int (iI (pi s (k + 2) o))), some (.int (iI (fst s1 (pi s (k + 2) o)))), some (.int (iI (fst s1 (pi s (k + 2) o) * 32)))]) (st' := [.ref t4, .int (iI (fst s1 (pi s (k + 2) o) * 32))]) rfl rfl ?_
        refine go_s (m := 207) (as := [.int (iI (fst s1 (pi s (k + 2) o) * 32)), .ref t4]) (r := []) rfl rfl rfl rfl (kg_placeOf z (d + 7) (fst s1 (pi s (k + 2) o) * 32) t4 (M : Int) g h0 A4 (by omega) (by omega)) (fun v h3 hq => ?_)
        obtain ⟨⟨j9, rfl, hj9⟩, e9⟩ := hq
        rw [e9]
        clear e9 h3
        have jR : -1 ≤ j9 ∧ j9 ≤ 1000 := by rcases hj9 with ⟨w, -⟩ | ⟨w, w2, -⟩ <;> omega
        show xx_go (xt_P z) (d + 8) 279 114 [some (.ref (c + 30)), some (.int (iI o)), some (.int (iI ((M : Int)))), some (.int (iI e)), some (.ref t4), some (.ref t5), some (.int (iI (rt (SD s) (k + 2) o))), some (.int (iI ((k : Int)))), some (.int (iI (pi s (k + 2) o))), some (.int (iI (fst s1 (pi s (k + 2) o)))), some (.int (iI (fst s1 (pi s (k + 2) o) * 32)))] [.int (iI j9)] h0 _
        refine go_a (pc' := 115) (ls' := [some (.ref (c + 30)), some (.int (iI o)), some (.int (iI ((M : Int)))), some (.int (iI e)), some (.ref t4), some (.ref t5), some (.int (iI (rt (SD s) (k + 2) o))), some (.int (iI ((k : Int)))), some (.int (iI (pi s (k + 2) o))), some (.int (iI (fst s1 (pi s (k + 2) o)))), some (.int (iI (fst s1 (pi s (k + 2) o) * 32)))]) (st' := [.int (iI ((-1))), .int (iI j9)]) rfl rfl ?_
        have fnd : j9 ≠ -1 → ¬ sp_fi NM.2.2.1 (DK s.N o) := by
          intro w
          rcases hj9 with ⟨w2, -⟩ | ⟨w2, w3, w4, -⟩
          · exact absurd w2 w
          · have jk : j9 < k := by
              apply Int.not_le.mp
              intro kj
              have := gn j9 kj w3
              omega
            refine fi_2 yk (vm.mp ?_)
            rw [← ef, ← w4]
            exact rl_mem2 w2 jk
        refine mi_eq (t := 124) rfl rfl (by omega) (by omega) (by omega) (by omega) (fun w3 => ?_) (fun w3 => no (fnd (by omega)))
        have nm9 : sp_p 0 (DK s.N (pi s (k + 2) o)) ∉ (((sp_as (DK s.N o)).drop 2).take k).map (sp_p 0) := by
          intro w
          obtain ⟨i9, i0, i1, i2⟩ := rl_mem (vm.mpr w)
          rcases hj9 with ⟨-, w2⟩ | ⟨w2, -⟩
          · exact w2 i9 i0 (by omega) (by rw [i2, ef])
          · omega
        refine go_a (pc' := 126) (ls' := [some (.ref (c + 30)), some (.int (iI o)), some (.int (iI ((M : Int)))), some (.int (iI e)), some (.ref t4), some (.ref t5), some (.int (iI (rt (SD s) (k + 2) o))), some (.int (iI ((k : Int)))), some (.int (iI (pi s (k + 2) o))), some (.int (iI (fst s1 (pi s (k + 2) o)))), some (.int (iI (fst s1 (pi s (k + 2) o) * 32)))]) (st' := [.ref t4]) rfl rfl ?_
        refine go_a (pc' := 128) (ls' := [some (.ref (c + 30)), some (.int (iI o)), some (.int (iI ((M : Int)))), some (.int (iI e)), some (.ref t4), some (.ref t5), some (.int (iI (rt (SD s) (k + 2) o))), some (.int (iI ((k : Int)))), some (.int (iI (pi s (k + 2) o))), some (.int (iI (fst s1 (pi s (k + 2) o)))), some (.int (iI (fst s1 (pi s (k + 2) o) * 32)))]) (st' := [.int (iI ((k : Int))), .ref t4]) rfl rfl ?_
        refine go_a (pc' := 130) (ls' := [some (.ref (c + 30)), some (.int (iI o)), some (.int (iI ((M : Int)))), some (.int (iI e)), some (.ref t4), some (.ref t5), some (.int (iI (rt (SD s) (k + 2) o))), some (.int (iI ((k : Int)))), some (.int (iI (pi s (k + 2) o))), some (.int (iI (fst s1 (pi s (k + 2) o)))), some (.int (iI (fst s1 (pi s (k + 2) o) * 32)))]) (st' := [.int (iI (fst s1 (pi s (k + 2) o) * 32)), .int (iI ((k : Int))), .ref t4]) rfl rfl ?_
        refine mi_ist rfl A4.1 h12 (by omega) (by omega) (by omega) ?_
        obtain ⟨F8, A8⟩ := KAL_set (e := (k : Int)) (x := fst s1 (pi s (k + 2) o) * 32) A4 (by omega) (by omega) (by omega)
        have S8 := KST_F1 S1 K4 h12 ht F8
        have O8 := OTK_F1 F8 (by omega) (by omega) OT
        obtain ⟨h8, e8⟩ : ∃ q : xx_H, q = h0.set t4 (.inl (.int, (xa_f (M : Int).toNat g).set (k : Int).toNat (.int (iI (fst s1 (pi s (k + 2) o) * 32))))) := ⟨_, rfl⟩
        rw [← e8] at F8 A8 S8 O8
        rw [← e8]
        show xx_go (xt_P z) (d + 8) 279 131 [some (.ref (c + 30)), some (.int (iI o)), some (.int (iI ((M : Int)))), some (.int (iI e)), some (.ref t4), some (.ref t5), some (.int (iI (rt (SD s) (k + 2) o))), some (.int (iI ((k : Int)))), some (.int (iI (pi s (k + 2) o))), some (.int (iI (fst s1 (pi s (k + 2) o)))), some (.int (iI (fst s1 (pi s (k + 2) o) * 32)))] [] h8 _
        refine go_a (pc' := 133) (ls' := [some (.ref (c + 30)), some (.int (iI o)), some (.int (iI ((M : Int)))), some (.int (iI e)), some (.ref t4), some (.ref t5), some (.int (iI (rt (SD s) (k + 2) o))), some (.int (iI ((k : Int)))), some (.int (iI (pi s (k + 2) o))), some (.int (iI (fst s1 (pi s (k + 2) o)))), some (.int (iI (fst s1 (pi s (k + 2) o) * 32)))]) (st' := [.ref t5]) rfl rfl ?_
        refine go_a (pc' := 135) (ls' := [some (.ref (c + 30)), some (.int (iI o)), some (.int (iI ((M : Int)))), some (.int (iI e)), some (.ref t4), some (.ref t5), some (.int (iI (rt (SD s) (k + 2) o))), some (.int (iI ((k : Int)))), some (.int (iI (pi s (k + 2) o))), some (.int (iI (fst s1 (pi s (k + 2) o)))), some (.int (iI (fst s1 (pi s (k + 2) o) * 32)))]) (st' := [.int (iI ((k : Int))), .ref t5]) rfl rfl ?_
        refine go_a (pc' := 136) (ls' := [some (.ref (c + 30)), some (.int (iI o)), some (.int (iI ((M : Int)))), some (.int (iI e)), some (.ref t4), some (.ref t5), some (.int (iI (rt (SD s) (k + 2) o))), some (.int (iI ((k : Int)))), some (.int (iI (pi s (k + 2) o))), some (.int (iI (fst s1 (pi s (k + 2) o)))), some (.int (iI (fst s1 (pi s (k + 2) o) * 32)))]) (st' := [.ref (c + 30), .int (iI ((k : Int))), .ref t5]) rfl rfl ?_
        refine go_get (v := .ref (c + 25)) rfl (S8.1.1 19 (by decide)) rfl rfl ?_
        refine go_a (pc' := 140) (ls' := [some (.ref (c + 30)), some (.int (iI o)), some (.int (iI ((M : Int)))), some (.int (iI e)), some (.ref t4), some (.ref t5), some (.int (iI (rt (SD s) (k + 2) o))), some (.int (iI ((k : Int)))), some (.int (iI (pi s (k + 2) o))), some (.int (iI (fst s1 (pi s (k + 2) o)))), some (.int (iI (fst s1 (pi s (k + 2) o) * 32)))]) (st' := [.ref (c + 30), .ref (c + 25), .int (iI ((k : Int))), .ref t5]) rfl rfl ?_
        refine go_get (v := .ref (c + 4)) rfl (S8.1.1 19 (by decide)) rfl rfl ?_
        refine go_a (pc' := 145) (ls' := [some (.ref (c + 30)), some (.int (iI o)), some (.int (iI ((M : Int)))), some (.int (iI e)), some (.ref t4), some (.ref t5), some (.int (iI (rt (SD s) (k + 2) o))), some (.int (iI ((k : Int)))), some (.int (iI (pi s (k + 2) o))), some (.int (iI (fst s1 (pi s (k + 2) o)))), some (.int (iI (fst s1 (pi s (k + 2) o) * 32)))]) (st' := [.int (iI (pi s (k + 2) o)), .ref (c + 4), .ref (c + 25), .int (iI ((k : Int))), .ref t5]) rfl rfl ?_
        refine go_a (pc' := 146) (ls' := [some (.ref (c + 30)), some (.int (iI o)), some (.int (iI ((M : Int)))), some (.int (iI e)), some (.ref t4), some (.ref t5), some (.int (iI (rt (SD s) (k + 2) o))), some (.int (iI ((k : Int)))), some (.int (iI (pi s (k + 2) o))), some (.int (iI (fst s1 (pi s (k + 2) o)))), some (.int (iI (fst s1 (pi s (k + 2) o) * 32)))]) (st' := [.int (iI 1), .int (iI (pi s (k + 2) o)), .ref (c + 4), .ref (c + 25), .int (iI ((k : Int))), .ref t5]) rfl rfl ?_
        refine go_v (m := 202) (as := [.ref (c + 4), .int (iI (pi s (k + 2) o)), .int (iI 1)]) (r := [.ref (c + 25), .int (iI ((k : Int))), .ref t5]) rfl rfl rfl (S8.1.1 3 (by decide)) rfl rfl (kq_part z (d + 6) S8 hP.2.2.1 q2 hL2 (by omega) (by omega) (by omega)) (fun v5 h5 hq => ?_)
        obtain ⟨rfl, eq5⟩ := hq
        rw [eq5]
        clear eq5 h5
        show xx_go (xt_P z) (d + 8) 279 149 [some (.ref (c + 30)), some (.int (iI o)), some (.int (iI ((M : Int)))), some (.int (iI e)), some (.ref t4), some (.ref t5), some (.int (iI (rt (SD s) (k + 2) o))), some (.int (iI ((k : Int)))), some (.int (iI (pi s (k + 2) o))), some (.int (iI (fst s1 (pi s (k + 2) o)))), some (.int (iI (fst s1 (pi s (k + 2) o) * 32)))] [.int (iI (pi s 1 (pi s (k + 2) o))), .ref (c + 25), .int (iI ((k : Int))), .ref t5] h8 _
        refine go_v (m := 211) (as := [.ref (c + 25), .int (iI (pi s 1 (pi s (k + 2) o)))]) (r := [.int (iI ((k : Int))), .ref t5]) rfl rfl rfl (S8.1.1 16 (by decide)) rfl rfl (kq_read z (d + 1) hP S8 e1 lu t2 (by omega)) (fun v6 h6 hq => ?_)
        obtain ⟨s6, E6, hv6⟩ := hq
        have S6 := KST_STE S8 E6
        have e6 := (STE_8 E6).trans e1
        have Ot5_6 := OTK_kx O8 E6.2.2.2
        obtain ⟨At4_6, kAt4_6⟩ := KAL_kx A8 K4 E6.2.2.2
        have J6 := STE_17 E6 J1
        have TOos_6 := STE_TRO E6 TOs
        rcases hv6 with ⟨rfl, nu6⟩ | ⟨a6, n6, f6, rfl, l6, b6, T6, t6, et6, Ot6⟩
        · rw [PI_D hP q2 hL2 (j := 1) (by decide)] at nu6
          show xx_go (xt_P z) (d + 8) 279 152 [some (.ref (c + 30)), some (.int (iI o)), some (.int (iI ((M : Int)))), some (.int (iI e)), some (.ref t4), some (.ref t5), some (.int (iI (rt (SD s) (k + 2) o))), some (.int (iI ((k : Int)))), some (.int (iI (pi s (k + 2) o))), some (.int (iI (fst s1 (pi s (k + 2) o)))), some (.int (iI (fst s1 (pi s (k + 2) o) * 32)))] [.null, .int (iI ((k : Int))), .ref t5] h6 _
          have nf : ¬ sp_fi NM.2.2.1 (DK s.N o) := fi_3 yk nu6
          have F9 := OTK_nul Ot5_6 (k : Int)
          have S9 := KST_F1 S6 Ot5_6.2.1 (by omega) (by omega) F9
          have g9 : (h6.set t5 (.inl (.object "ClauseKernel$Term", xa_r (M : Int).toNat (so O k none))))[t5]? = _ := List.getElem?_set_self (List.getElem?_eq_some_iff.mp Ot5_6.1).1
          refine mk_astN rfl Ot5_6.1 (show 12 ≤ t5 by omega) (by omega) (by omega) (by omega) ?_
          obtain ⟨h9, e9⟩ : ∃ q : xx_H, q = h6.set t5 (.inl (.object "ClauseKernel$Term", xa_r (M : Int).toNat (so O k none))) := ⟨_, rfl⟩
          rw [← e9] at F9 S9 g9
          rw [← e9]
          show xx_go (xt_P z) (d + 8) 279 153 [some (.ref (c + 30)), some (.int (iI o)), some (.int (iI ((M : Int)))), some (.int (iI e)), some (.ref t4), some (.ref t5), some (.int (iI (rt (SD s) (k + 2) o))), some (.int (iI ((k : Int)))), some (.int (iI (pi s (k + 2) o))), some (.int (iI (fst s1 (pi s (k + 2) o)))), some (.int (iI (fst s1 (pi s (k + 2) o) * 32)))] [] h9 _
          refine go_a (pc' := 155) (ls' := [some (.ref (c + 30)), some (.int (iI o)), some (.int (iI ((M : Int)))), some (.int (iI e)), some (.ref t4), some (.ref t5), some (.int (iI (rt (SD s) (k + 2) o))), some (.int (iI ((k : Int)))), some (.int (iI (pi s (k + 2) o))), some (.int (iI (fst s1 (pi s (k + 2) o)))), some (.int (iI (fst s1 (pi s (k + 2) o) * 32)))]) (st' := [.ref t5]) rfl rfl ?_
          refine go_a (pc' := 157) (ls' := [some (.ref (c + 30)), some (.int (iI o)), some (.int (iI ((M : Int)))), some (.int (iI e)), some (.ref t4), some (.ref t5), some (.int (iI (rt (SD s) (k + 2) o))), some (.int (iI ((k : Int)))), some (.int (iI (pi s (k + 2) o))), some (.int (iI (fst s1 (pi s (k + 2) o)))), some (.int (iI (fst s1 (pi s (k + 2) o) * 32)))]) (st' := [.int (iI ((k : Int))), .ref t5]) rfl rfl ?_
          refine mk_ald rfl g9 rfl (by omega) (by omega) (by omega) ?_
          rw [so_self]
          show xx_go (xt_P z) (d + 8) 279 158 [some (.ref (c + 30)), some (.int (iI o)), some (.int (iI ((M : Int)))), some (.int (iI e)), some (.ref t4), some (.ref t5), some (.int (iI (rt (SD s) (k + 2) o))), some (.int (iI ((k : Int)))), some (.int (iI (pi s (k + 2) o))), some (.int (iI (fst s1 (pi s (k + 2) o)))), some (.int (iI (fst s1 (pi s (k + 2) o) * 32)))] [.null] h9 _
          refine go_a (pc' := 161) (ls' := [some (.ref (c + 30)), some (.int (iI o)), some (.int (iI ((M : Int)))), some (.int (iI e)), some (.ref t4), some (.ref t5), some (.int (iI (rt (SD s) (k + 2) o))), some (.int (iI ((k : Int)))), some (.int (iI (pi s (k + 2) o))), some (.int (iI (fst s1 (pi s (k + 2) o)))), some (.int (iI (fst s1 (pi s (k + 2) o) * 32)))]) (st' := []) rfl rfl ?_
          refine go_a (pc' := 162) (ls' := [some (.ref (c + 30)), some (.int (iI o)), some (.int (iI ((M : Int)))), some (.int (iI e)), some (.ref t4), some (.ref t5), some (.int (iI (rt (SD s) (k + 2) o))), some (.int (iI ((k : Int)))), some (.int (iI (pi s (k + 2) o))), some (.int (iI (fst s1 (pi s (k + 2) o)))), some (.int (iI (fst s1 (pi s (k + 2) o) * 32)))]) (st' := [.ref (c + 30)]) rfl rfl ?_
          refine go_a (pc' := 163) (ls' := [some (.ref (c + 30)), some (.int (iI o)), some (.int (iI ((M : Int)))), some (.int (iI e)), some (.ref t4), some (.ref t5), some (.int (iI (rt (SD s) (k + 2) o))), some (.int (iI ((k : Int)))), some (.int (iI (pi s (k + 2) o))), some (.int (iI (fst s1 (pi s (k + 2) o)))), some (.int (iI (fst s1 (pi s (k + 2) o) * 32)))]) (st' := [.int (iI o), .ref (c + 30)]) rfl rfl ?_
          refine go_v (m := 248) (as := [.ref (c + 30), .int (iI o)]) (r := []) rfl rfl rfl (S9.1.1 19 (by decide)) rfl rfl (kq_failAtP z (d + 7) (w := WD (SD s) o) S9 (by omega) (by omega) (by omega) (by omega) (by omega) (ft := NM.2.2.1) (ρ := (sp_inst NM.2.2.1 F (DK s.N o) (s.I 17))) (σ := (sp_sg F G (ifc (sp_fi NM.2.2.1 (DK s.N o)) [sp_p 1 (DK s.N o)] []) (s.I 17))) (sp_inst_n _ _ nf) (by rw [ifc_neg nf]; exact J6)) (fun v7 h7 hq => ?_)
          obtain ⟨rfl, R7⟩ := hq
          show xx_go (xt_P z) (d + 8) 279 166 [some (.ref (c + 30)), some (.int (iI o)), some (.int (iI ((M : Int)))), some (.int (iI e)), some (.ref t4), some (.ref t5), some (.int (iI (rt (SD s) (k + 2) o))), some (.int (iI ((k : Int)))), some (.int (iI (pi s (k + 2) o))), some (.int (iI (fst s1 (pi s (k + 2) o)))), some (.int (iI (fst s1 (pi s (k + 2) o) * 32)))] [.null] h7 _
          exact go_r rfl rfl rfl rfl rfl rfl R7
        · rw [PI_D hP q2 hL2 (j := 1) (by decide)] at et6
          have Oa6 : OTR s6.N (s6.I 8) NM.2.2.1 (some (rl n6 f6)) (some t6) := Ot6
          have nn6 := TM_n T6
          show xx_go (xt_P z) (d + 8) 279 152 [some (.ref (c + 30)), some (.int (iI o)), some (.int (iI ((M : Int)))), some (.int (iI e)), some (.ref t4), some (.ref t5), some (.int (iI (rt (SD s) (k + 2) o))), some (.int (iI ((k : Int)))), some (.int (iI (pi s (k + 2) o))), some (.int (iI (fst s1 (pi s (k + 2) o)))), some (.int (iI (fst s1 (pi s (k + 2) o) * 32)))] [.ref a6, .int (iI ((k : Int))), .ref t5] h6 _
          have l8 := F8.1
          obtain ⟨F9, O9⟩ := OTK_put Ot5_6 T6 (show t5 + 1 ≤ a6 by omega)
          have S9 := KST_F1 S6 Ot5_6.2.1 (by omega) (by omega) F9
          have A9 := KAL_F1 F9 (by omega) At4_6
          refine mk_ast rfl Ot5_6.1 (show 12 ≤ t5 by omega) (TMp T6).1.1 rfl (by omega) (by omega) (by omega) ?_
          obtain ⟨h9, e9⟩ : ∃ q : xx_H, q = h6.set t5 (.inl (.object "ClauseKernel$Term", xa_r (M : Int).toNat (so O k (some a6)))) := ⟨_, rfl⟩
          rw [← e9] at F9 S9 O9 A9
          rw [← e9]
          show xx_go (xt_P z) (d + 8) 279 153 [some (.ref (c + 30)), some (.int (iI o)), some (.int (iI ((M : Int)))), some (.int (iI e)), some (.ref t4), some (.ref t5), some (.int (iI (rt (SD s) (k + 2) o))), some (.int (iI ((k : Int)))), some (.int (iI (pi s (k + 2) o))), some (.int (iI (fst s1 (pi s (k + 2) o)))), some (.int (iI (fst s1 (pi s (k + 2) o) * 32)))] [] h9 _
          refine go_a (pc' := 155) (ls' := [some (.ref (c + 30)), some (.int (iI o)), some (.int (iI ((M : Int)))), some (.int (iI e)), some (.ref t4), some (.ref t5), some (.int (iI (rt (SD s) (k + 2) o))), some (.int (iI ((k : Int)))), some (.int (iI (pi s (k + 2) o))), some (.int (iI (fst s1 (pi s (k + 2) o)))), some (.int (iI (fst s1 (pi s (k + 2) o) * 32)))]) (st' := [.ref t5]) rfl rfl ?_
          refine go_a (pc' := 157) (ls' := [some (.ref (c + 30)), some (.int (iI o)), some (.int (iI ((M : Int)))), some (.int (iI e)), some (.ref t4), some (.ref t5), some (.int (iI (rt (SD s) (k + 2) o))), some (.int (iI ((k : Int)))), some (.int (iI (pi s (k + 2) o))), some (.int (iI (fst s1 (pi s (k + 2) o)))), some (.int (iI (fst s1 (pi s (k + 2) o) * 32)))]) (st' := [.int (iI ((k : Int))), .ref t5]) rfl rfl ?_
          refine mk_ald rfl O9.1 rfl (by omega) (by omega) (by omega) ?_
          rw [so_self]
          show xx_go (xt_P z) (d + 8) 279 158 [some (.ref (c + 30)), some (.int (iI o)), some (.int (iI ((M : Int)))), some (.int (iI e)), some (.ref t4), some (.ref t5), some (.int (iI (rt (SD s) (k + 2) o))), some (.int (iI ((k : Int)))), some (.int (iI (pi s (k + 2) o))), some (.int (iI (fst s1 (pi s (k + 2) o)))), some (.int (iI (fst s1 (pi s (k + 2) o) * 32)))] [.ref a6] h9 _
          refine go_a (pc' := 167) (ls' := [some (.ref (c + 30)), some (.int (iI o)), some (.int (iI ((M : Int)))), some (.int (iI e)), some (.ref t4), some (.ref t5), some (.int (iI (rt (SD s) (k + 2) o))), some (.int (iI ((k : Int)))), some (.int (iI (pi s (k + 2) o))), some (.int (iI (fst s1 (pi s (k + 2) o)))), some (.int (iI (fst s1 (pi s (k + 2) o) * 32)))]) (st' := []) rfl rfl ?_
          refine go_a (pc' := 168) (ls' := [some (.ref (c + 30)), some (.int (iI o)), some (.int (iI ((M : Int)))), some (.int (iI e)), some (.ref t4), some (.ref t5), some (.int (iI (rt (SD s) (k + 2) o))), some (.int (iI ((k : Int)))), some (.int (iI (pi s (k + 2) o))), some (.int (iI (fst s1 (pi s (k + 2) o)))), some (.int (iI (fst s1 (pi s (k + 2) o) * 32)))]) (st' := [.ref (c + 30)]) rfl rfl ?_
          refine go_get (v := .ref (c + 4)) rfl (S9.1.1 19 (by decide)) rfl rfl ?_
          refine go_a (pc' := 173) (ls' := [some (.ref (c + 30)), some (.int (iI o)), some (.int (iI ((M : Int)))), some (.int (iI e)), some (.ref t4), some (.ref t5), some (.int (iI (rt (SD s) (k + 2) o))), some (.int (iI ((k : Int)))), some (.int (iI (pi s (k + 2) o))), some (.int (iI (fst s1 (pi s (k + 2) o)))), some (.int (iI (fst s1 (pi s (k + 2) o) * 32)))]) (st' := [.int (iI (rt (SD s) (k + 2) o)), .ref (c + 4)]) rfl rfl ?_
          refine go_v (m := 200) (as := [.ref (c + 4), .int (iI (rt (SD s) (k + 2) o))]) (r := []) rfl rfl rfl (S9.1.1 3 (by decide)) rfl rfl (kq_rest z (d + 7) S9 hP.2.2.1 ho hL (by omega)) (fun v7 h7 hq => ?_)
          obtain ⟨rfl, eq7⟩ := hq
          rw [eq7]
          clear eq7 h7
          show xx_go (xt_P z) (d + 8) 279 176 [some (.ref (c + 30)), some (.int (iI o)), some (.int (iI ((M : Int)))), some (.int (iI e)), some (.ref t4), some (.ref t5), some (.int (iI (rt (SD s) (k + 2) o))), some (.int (iI ((k : Int)))), some (.int (iI (pi s (k + 2) o))), some (.int (iI (fst s1 (pi s (k + 2) o)))), some (.int (iI (fst s1 (pi s (k + 2) o) * 32)))] [.int (iI (rt (SD s) (k + 1 + 2) o))] h9 _
          refine go_a (pc' := 178) (ls' := [some (.ref (c + 30)), some (.int (iI o)), some (.int (iI ((M : Int)))), some (.int (iI e)), some (.ref t4), some (.ref t5), some (.int (iI (rt (SD s) (k + 1 + 2) o))), some (.int (iI ((k : Int)))), some (.int (iI (pi s (k + 2) o))), some (.int (iI (fst s1 (pi s (k + 2) o)))), some (.int (iI (fst s1 (pi s (k + 2) o) * 32)))]) (st' := []) rfl rfl ?_
          refine go_a (pc' := 181) (ls' := [some (.ref (c + 30)), some (.int (iI o)), some (.int (iI ((M : Int)))), some (.int (iI e)), some (.ref t4), some (.ref t5), some (.int (iI (rt (SD s) (k + 1 + 2) o))), some (.int (iI (((k : Int)) + 1))), some (.int (iI (pi s (k + 2) o))), some (.int (iI (fst s1 (pi s (k + 2) o)))), some (.int (iI (fst s1 (pi s (k + 2) o) * 32)))]) (st' := []) rfl (by rw [← iI_add ((k : Int)) 1]; rfl) ?_
          refine go_a (pc' := 47) (ls' := [some (.ref (c + 30)), some (.int (iI o)), some (.int (iI ((M : Int)))), some (.int (iI e)), some (.ref t4), some (.ref t5), some (.int (iI (rt (SD s) (k + 1 + 2) o))), some (.int (iI (((k : Int)) + 1))), some (.int (iI (pi s (k + 2) o))), some (.int (iI (fst s1 (pi s (k + 2) o)))), some (.int (iI (fst s1 (pi s (k + 2) o) * 32)))]) (st' := []) rfl rfl ?_
          rw [show (k : Int) + 1 = ((k + 1 : Nat) : Int) by omega]
          rw [show (k : Int) + 1 = ((k + 1 : Nat) : Int) by omega] at O9
          have q1 : VD (SD s) (rt (SD s) (k + 2) o) = WD (SD s) (pi s (k + 2) o) + VD (SD s) (rt (SD s) (k + 1 + 2) o) := q1
          have hz9 : (∀ j : Int, 0 ≤ j → j < ((k + 1 : Nat) : Int) → so nO k n6 j ≤ 1) ∨ 3 ≤ (VD (SD s) (rt (SD s) 2 o) - VD (SD s) (rt (SD s) (k + 1 + 2) o)) := by
            by_cases cn : n6 ≤ 1
            · rcases hz with hz | hz
              · refine Or.inl (fun j j0 j1 => ?_)
                by_cases cj : j = k
                · rw [cj, so_self]
                  exact cn
                · rw [so_ne cj]
                  exact hz j j0 (by omega)
              · exact Or.inr (by omega)
            · exact Or.inr (by omega)
          have FK9 := sp_fk_s FK yk ⟨al.1, al.2, ivt⟩ nm9 et6
          have VG9 : VRG s.N (s.I 8) (rl ((k + 1 : Nat) : Int) (sf g k (fst s1 (pi s (k + 2) o) * 32))) ((((sp_as (DK s.N o)).drop 2).take (k + 1)).map (fun y => sp_hc (sp_p 0 y))) := by
            rw [vs_s yk e9v, show ((k + 1 : Nat) : Int) = (k : Int) + 1 by omega, rl_s (by omega), sf_self, ef, rl_ext (g := g) (fun i i0 i1 => sf_ne (by omega))]
            exact VRG_app o0 d9 v91 v92 VG
          exact ih (k + 1) _ _ _ _ _ _ _ _ _ _ (by omega) (by omega) (KST_w S9 (by omega) (by omega) (by omega)) e6 A9 kAt4_6 O9 (by omega) hz9 FK9 (by rw [ol_so]; exact TRO_app Oa6 _ _ TOos_6) VG9 (fun j j0 j1 => by rw [sf_ne (by omega)]; exact gn j (by omega) j1) J6
      · have ivf : ¬ sp_iv (sp_p 0 (DK s.N (pi s (k + 2) o))) = true := fun w => cv (by have w2 := iv.mpr w; rw [← n0, ← ef] at w2; exact ⟨⟨qf1, qf2, w2.1⟩, w2.2⟩)
        show xx_go (xt_P z) (d + 8) 279 104 [some (.ref (c + 30)), some (.int (iI o)), some (.int (iI ((M : Int)))), some (.int (iI e)), some (.ref t4), some (.ref t5), some (.int (iI (rt (SD s) (k + 2) o))), some (.int (iI ((k : Int)))), some (.int (iI (pi s (k + 2) o))), some (.int (iI (fst s1 (pi s (k + 2) o)))), some (.int (iI (fst s1 (pi s (k + 2) o) * 32)))] [.int (iI 0)] h0 _
        refine mi_eq0 (t := 118) rfl rfl (by omega) (by omega) (fun _ => no (fi_1 yk (fun w => ivf w.2.2))) (fun q => absurd rfl q)
theorem kq_inst (z : Value) (d c : Nat) (o : Int) (q : Nat) (hp : xx_H) (s : KS) (NM : BKM) (hP : KPS c hp s NM) (ho : OB s o) (hL : isL (SD s) q o) (r2 : pi s 0 o ≠ 2) (w9 : WD (SD s) o ≤ 1000) (l25 : s.I 8 + WD (SD s) o ≤ 25000) (e fu : Int) (F : ob_T → Int → Option (List ob_T × Int)) (G : ob_T → Int → Int) (R : PRC z (d + 8) c (e + 1) NM fu F G) (hf : s.I 16 = fu) (M : Nat) (hq : q = M + 2) : xx_cl (xt_P z) (d + 9) 279 [.ref (c + 30), .int (iI o), .int (iI (M : Int)), .int (iI e)] hp (fun v h1 => PRP c hp s (WD (SD s) o) NM.2.2.1 (sp_inst NM.2.2.1 F (DK s.N o) (s.I 17)) (sp_sg F G (ifc (sp_fi NM.2.2.1 (DK s.N o)) [sp_p 1 (DK s.N o)] []) (s.I 17)) v h1) := by
  have S0 := KST_rf hP
  have e0 : s.I 8 = s.I 8 := rfl
  have lu : s.I 8 ≤ 25000 := hP.2.2.2.2.2.2.2.1
  have u38 := KB_38 hP.2.1
  have J0 : s.I 17 = s.I 17 := rfl
  have fB := KNT_FTB hP.2.2.2.2.2.2.2.2
  have oR := OB_R hP.2.1 ho
  have W := PI_W hP.2.2.1 ho hL (by omega) r2
  have p0 : VD (SD s) (rt (SD s) 0 o) = WD (SD s) (pi s 0 o) + VD (SD s) (rt (SD s) 1 o) ∧ OB s (pi s 0 o) ∧ 1 ≤ WD (SD s) (pi s 0 o) ∧ 0 ≤ VD (SD s) (rt (SD s) 1 o) := PI_w hP.2.2.1 ho hL (j := 0) (by omega)
  have p1 : VD (SD s) (rt (SD s) 1 o) = WD (SD s) (pi s 1 o) + VD (SD s) (rt (SD s) 2 o) ∧ OB s (pi s 1 o) ∧ 1 ≤ WD (SD s) (pi s 1 o) ∧ 0 ≤ VD (SD s) (rt (SD s) 2 o) := PI_w hP.2.2.1 ho hL (j := 1) (by omega)
  obtain ⟨p0, o0, i0, j0⟩ := p0
  obtain ⟨p1, o1, i1, j1⟩ := p1
  have mq := isL_VD (I := UI s) hP.2.2.1.1 (CI_n0 hP.2.2.1) q o ho.1 ho.2 hL
  have v0 : VD (SD s) (rt (SD s) 0 o) = VD (SD s) o := rfl
  have h12 := KST_12 S0
  refine cl_go rfl ?_
  show xx_go (xt_P z) (d + 8) 279 0 [some (.ref (c + 30)), some (.int (iI o)), some (.int (iI ((M : Int)))), some (.int (iI e)), none, none, none, none, none, none, none] [] hp _
  refine go_a (pc' := 1) (ls' := [some (.ref (c + 30)), some (.int (iI o)), some (.int (iI ((M : Int)))), some (.int (iI e)), none, none, none, none, none, none, none]) (st' := [.int (iI ((M : Int)))]) rfl rfl ?_
  refine mi_ge0 (t := 10) rfl rfl (by omega) (by omega) (fun _ => ?_) (fun q => absurd (show (M : Int) ≥ 0 by omega) q)
  refine go_a (pc' := 11) (ls' := [some (.ref (c + 30)), some (.int (iI o)), some (.int (iI ((M : Int)))), some (.int (iI e)), none, none, none, none, none, none, none]) (st' := [.int (iI ((M : Int)))]) rfl rfl ?_
  refine go_newa (m := (M : Int).toNat) rfl rfl (iI_nn (by omega) (by omega)) (iI_clamp (by omega) (by omega)) (by omega) ?_
  rw [show List.replicate (M : Int).toNat (defaultValue .int) = xa_f (M : Int).toNat (fun _ => 0) from rep_f (M : Int).toNat]
  show xx_go (xt_P z) (d + 8) 279 13 [some (.ref (c + 30)), some (.int (iI o)), some (.int (iI ((M : Int)))), some (.int (iI e)), none, none, none, none, none, none, none] [.ref hp.length] (hp ++ [.inl (.int, xa_f (M : Int).toNat (fun _ => 0))]) _
  refine go_a (pc' := 15) (ls' := [some (.ref (c + 30)), some (.int (iI o)), some (.int (iI ((M : Int)))), some (.int (iI e)), some (.ref hp.length), none, none, none, none, none, none]) (st' := []) rfl rfl ?_
  refine go_a (pc' := 17) (ls' := [some (.ref (c + 30)), some (.int (iI o)), some (.int (iI ((M : Int)))), some (.int (iI e)), some (.ref hp.length), none, none, none, none, none, none]) (st' := [.ref hp.length]) rfl rfl ?_
  refine go_a (pc' := 18) (ls' := [some (.ref (c + 30)), some (.int (iI o)), some (.int (iI ((M : Int)))), some (.int (iI e)), some (.ref hp.length), none, none, none, none, none, none]) (st' := [.int (iI ((-1))), .ref hp.length]) rfl rfl ?_
  refine go_s (m := 4) (as := [.ref hp.length, .int (iI ((-1)))]) (r := []) rfl rfl rfl rfl (xm_fill z (d + 7) hp h12 (M : Int) (-1) (fun _ => 0) (by omega) (by omega)) (fun v h3 hq => ?_)
  obtain ⟨rfl, e⟩ := hq
  rw [e]
  clear e h3
  obtain ⟨K1, X1, A1, N1⟩ := ki_arrI hP.1 (M : Int) (fun _ => (-1)) (by omega) (by omega) (fun _ => by decide)
  have S1 := KST_X S0 K1 X1
  obtain ⟨t4, et⟩ : ∃ q : Nat, q = hp.length := ⟨_, rfl⟩
  have lt : (hp ++ [(.inl (.int, xa_f (M : Int).toNat (fun _ => (-1))) : xx_E)]).length = t4 + 1 := by rw [List.length_append, et]; rfl
  obtain ⟨h1, e1⟩ : ∃ q : xx_H, q = hp ++ [.inl (.int, xa_f (M : Int).toNat (fun _ => (-1)))] := ⟨_, rfl⟩
  rw [← e1] at S1 A1 lt X1 K1
  rw [← et] at A1 N1
  rw [← e1, ← et]
  show xx_go (xt_P z) (d + 8) 279 21 [some (.ref (c + 30)), some (.int (iI o)), some (.int (iI ((M : Int)))), some (.int (iI e)), some (.ref t4), none, none, none, none, none, none] [] h1 _
  refine go_a (pc' := 22) (ls' := [some (.ref (c + 30)), some (.int (iI o)), some (.int (iI ((M : Int)))), some (.int (iI e)), some (.ref t4), none, none, none, none, none, none]) (st' := [.int (iI ((M : Int)))]) rfl rfl ?_
  refine go_newr (m := (M : Int).toNat) rfl rfl (iI_nn (by omega) (by omega)) (iI_clamp (by omega) (by omega)) (by omega) ?_
  rw [rep_r]
  obtain ⟨K2, X2, O2⟩ := ki_arrT K1 (s.I 8) (M : Int) (t4 + 2) (fun _ => 0) (fun _ _ => 0) (by omega) (by omega)
  have S2 := KST_X S1 K2 X2
  obtain ⟨A2, N2⟩ := KAL_kx A1 N1 X2
  rw [lt] at O2
  rw [lt]
  obtain ⟨h2, e2⟩ : ∃ q : xx_H, q = h1 ++ [.inl (.object "ClauseKernel$Term", xa_r (M : Int).toNat (fun _ => none))] := ⟨_, rfl⟩
  rw [← e2] at S2 O2 A2
  rw [← e2]
  show xx_go (xt_P z) (d + 8) 279 25 [some (.ref (c + 30)), some (.int (iI o)), some (.int (iI ((M : Int)))), some (.int (iI e)), some (.ref t4), none, none, none, none, none, none] [.ref (t4 + 1)] h2 _
  refine go_a (pc' := 27) (ls' := [some (.ref (c + 30)), some (.int (iI o)), some (.int (iI ((M : Int)))), some (.int (iI e)), some (.ref t4), some (.ref (t4 + 1)), none, none, none, none, none]) (st' := []) rfl rfl ?_
  refine go_a (pc' := 28) (ls' := [some (.ref (c + 30)), some (.int (iI o)), some (.int (iI ((M : Int)))), some (.int (iI e)), some (.ref t4), some (.ref (t4 + 1)), none, none, none, none, none]) (st' := [.ref (c + 30)]) rfl rfl ?_
  refine go_get (v := .ref (c + 4)) rfl (S2.1.1 19 (by decide)) rfl rfl ?_
  refine go_a (pc' := 32) (ls' := [some (.ref (c + 30)), some (.int (iI o)), some (.int (iI ((M : Int)))), some (.int (iI e)), some (.ref t4), some (.ref (t4 + 1)), none, none, none, none, none]) (st' := [.ref (c + 30), .ref (c + 4)]) rfl rfl ?_
  refine go_get (v := .ref (c + 4)) rfl (S2.1.1 19 (by decide)) rfl rfl ?_
  refine go_a (pc' := 36) (ls' := [some (.ref (c + 30)), some (.int (iI o)), some (.int (iI ((M : Int)))), some (.int (iI e)), some (.ref t4), some (.ref (t4 + 1)), none, none, none, none, none]) (st' := [.int (iI o), .ref (c + 4), .ref (c + 4)]) rfl rfl ?_
  refine go_v (m := 200) (as := [.ref (c + 4), .int (iI o)]) (r := [.ref (c + 4)]) rfl rfl rfl (S2.1.1 3 (by decide)) rfl rfl (kq_rest z (d + 7) S2 hP.2.2.1 ho hL (j := 0) (by omega)) (fun v1 h1 hq => ?_)
  obtain ⟨rfl, eq1⟩ := hq
  rw [eq1]
  clear eq1 h1
  show xx_go (xt_P z) (d + 8) 279 39 [some (.ref (c + 30)), some (.int (iI o)), some (.int (iI ((M : Int)))), some (.int (iI e)), some (.ref t4), some (.ref (t4 + 1)), none, none, none, none, none] [.int (iI (rt (SD s) 1 o)), .ref (c + 4)] h2 _
  refine go_v (m := 200) (as := [.ref (c + 4), .int (iI (rt (SD s) 1 o))]) (r := []) rfl rfl rfl (S2.1.1 3 (by decide)) rfl rfl (kq_rest z (d + 7) S2 hP.2.2.1 ho hL (j := 1) (by omega)) (fun v2 h2 hq => ?_)
  obtain ⟨rfl, eq2⟩ := hq
  rw [eq2]
  clear eq2 h2
  show xx_go (xt_P z) (d + 8) 279 42 [some (.ref (c + 30)), some (.int (iI o)), some (.int (iI ((M : Int)))), some (.int (iI e)), some (.ref t4), some (.ref (t4 + 1)), none, none, none, none, none] [.int (iI (rt (SD s) (0 + 2) o))] h2 _
  refine go_a (pc' := 44) (ls' := [some (.ref (c + 30)), some (.int (iI o)), some (.int (iI ((M : Int)))), some (.int (iI e)), some (.ref t4), some (.ref (t4 + 1)), some (.int (iI (rt (SD s) (0 + 2) o))), none, none, none, none]) (st' := []) rfl rfl ?_
  refine go_a (pc' := 45) (ls' := [some (.ref (c + 30)), some (.int (iI o)), some (.int (iI ((M : Int)))), some (.int (iI e)), some (.ref t4), some (.ref (t4 + 1)), some (.int (iI (rt (SD s) (0 + 2) o))), none, none, none, none]) (st' := [.int (iI 0)]) rfl rfl ?_
  refine go_a (pc' := 47) (ls' := [some (.ref (c + 30)), some (.int (iI o)), some (.int (iI ((M : Int)))), some (.int (iI e)), some (.ref t4), some (.ref (t4 + 1)), some (.int (iI (rt (SD s) (0 + 2) o))), some (.int (iI 0)), none, none, none]) (st' := []) rfl rfl ?_
  exact kq_inst_l1 z d c o q hp s NM hP ho hL r2 w9 l25 e fu F G R hf M t4 (t4 + 1) hq (by omega) (by omega) rfl _ 0 _ _ _ _ _ _ _ _ _ [] (Nat.le_refl _) (Nat.zero_le _) (KST_w S2 (by omega) (by show _ ≤ _ + (VD (SD s) (rt (SD s) 2 o) - VD (SD s) (rt (SD s) 2 o)); omega) (by omega)) rfl A2 N2 O2 (by show _ ≤ VD (SD s) (rt (SD s) 2 o) - VD (SD s) (rt (SD s) 2 o); omega) (Or.inl (fun j j0 j1 => absurd j1 (by omega))) sp_fk_0 trivial (by rw [List.take_zero]; exact trivial) (fun j j0 j1 => rfl) rfl
