theorem TF_Q {s s1 : KS} (h : TF s s1) (q : KQ s) : KQ s1 := KQ_e h.1 (h.2.2.1 9 (by decide) (by decide)).1 (h.2.2.1 10 (by decide) (by decide)).1 (h.2.2.1 11 (by decide) (by decide)).1 (h.2.2.2 8 (by decide) (by decide)) q
theorem TF_I {s s1 : KS} (h : TF s s1) : s1.I 22 = s.I 22 ∧ s1.I 23 = s.I 23 := ⟨h.2.2.2 22 (by decide) (by decide), h.2.2.2 23 (by decide) (by decide)⟩
section CHK
variable {t : List sp_Th} {fu : Int} {X F : ob_T} {v : Nat}
def sp_ck (t : List sp_Th) (X : ob_T) : Prop := ∃ (v : Nat) (F : ob_T), sp_p 1 X = .var v ∧ sp_tm (sp_ft (sp_FB t)) (sp_p 2 X) = some F ∧ sp_mn v ∧ (∀ p ∈ sp_TB t, p.1 ≠ v) ∧ (sp_TB t).length < 60
theorem sp_chk_0 (h : ¬ sp_ck t X) : sp_chk t fu X = (t, 0) := by
  unfold sp_chk
  cases h1 : sp_p 1 X with
  | var v =>
    cases h2 : sp_tm (sp_ft (sp_FB t)) (sp_p 2 X) with
    | none => rfl
    | some F => exact ifc_neg (fun w => h ⟨v, F, h1, h2, w⟩)
  | num _ => rfl
  | add _ _ => rfl
  | sub _ _ => rfl
  | neg _ => rfl
  | mulL _ _ => rfl
  | mulR _ _ => rfl
theorem sp_chk_1 (h1 : sp_p 1 X = .var v) (h2 : sp_tm (sp_ft (sp_FB t)) (sp_p 2 X) = some F) (h3 : sp_mn v ∧ (∀ p ∈ sp_TB t, p.1 ≠ v) ∧ (sp_TB t).length < 60) : sp_chk t fu X = (match (sp_pv t fu (sp_p 3 X)).1 with
      | none => (t, (sp_pv t fu (sp_p 3 X)).2)
      | some D => (ifc (∀ t ∈ D.1, t = F) ((v, none, F) :: t) t, D.2)) := by
  unfold sp_chk
  rw [h1]
  show (match sp_tm (sp_ft (sp_FB t)) (sp_p 2 X) with
    | some F => _
    | none => _) = _
  rw [h2]
  exact ifc_pos h3
theorem tb_no {TB : List (Nat × ob_T)} (h : sp_tb TB (.var v) = none) : ∀ p ∈ TB, p.1 ≠ v := by
  intro p hp e
  have := List.find?_eq_none.mp h p hp
  refine this ?_
  show (v == p.1) = true
  rw [e]
  exact beq_self_eq_true v
theorem tb_yes {TB : List (Nat × ob_T)} {q : Nat × ob_T} (h : sp_tb TB (.var v) = some q) : ¬ ∀ p ∈ TB, p.1 ≠ v := by
  intro w
  have m := List.mem_of_find?_eq_some h
  have e := List.find?_some h
  have e : (v == q.1) = true := e
  rw [beq_iff_eq] at e
  exact w q m e.symm
end CHK
theorem STE_GF {c : Nat} {hp h1 : xx_H} {s s1 : KS} {a b : Int} (h : STE c hp s h1 s1 a b) : GF s s1 := PFR_G (TF_P h.2.2.1)
theorem STE_CI {c : Nat} {hp h1 : xx_H} {s s1 : KS} {a b : Int} (h : STE c hp s h1 s1 a b) (hC : CI s) : CI s1 := TF_CI h.2.2.1 hC
theorem kk_check (z : Value) (d c : Nat) (x : Int) (hp : xx_H) (s : KS) (NM : BKM) (t : List sp_Th) (k : Int) (hW : KWS c hp s NM t k) (ho : OB s x) (w9 : WD (SD s) x ≤ 1001) (l25 : s.I 8 + WD (SD s) x ≤ 25000) (lb : c + 84 ≤ hp.length) (lk : k ≤ 1000000) (hL : isL (SD s) 4 x) (r2 : pi s 0 x ≠ 2) (e22 : s.I 22 = 0) : xx_cl (xt_P z) (d + 91) 242 [.ref (c + 0), .int (iI x)] hp (fun v h1 => KCM c hp s k (WD (SD s) x) (((sp_chk t (s.I 20) (DK s.N x)).1, s.I 23), (sp_chk t (s.I 20) (DK s.N x)).2) v h1) := by
  have hC := hW.2.2.1
  have hB := hW.2.1
  have u38 := KB_38 hB
  have oR := OB_R hB ho
  have f20 := hW.2.2.2.2.2.2.2.2.2.2.1
  have W := PI_W hC ho hL (by decide) r2
  have p0 : VD (SD s) (rt (SD s) 0 x) = WD (SD s) (pi s 0 x) + VD (SD s) (rt (SD s) 1 x) ∧ OB s (pi s 0 x) ∧ 1 ≤ WD (SD s) (pi s 0 x) ∧ 0 ≤ VD (SD s) (rt (SD s) 1 x) := PI_w hC ho hL (j := 0) (by decide)
  have p1 : VD (SD s) (rt (SD s) 1 x) = WD (SD s) (pi s 1 x) + VD (SD s) (rt (SD s) 2 x) ∧ OB s (pi s 1 x) ∧ 1 ≤ WD (SD s) (pi s 1 x) ∧ 0 ≤ VD (SD s) (rt (SD s) 2 x) := PI_w hC ho hL (j := 1) (by decide)
  have p2 : VD (SD s) (rt (SD s) 2 x) = WD (SD s) (pi s 2 x) + VD (SD s) (rt (SD s) 3 x) ∧ OB s (pi s 2 x) ∧ 1 ≤ WD (SD s) (pi s 2 x) ∧ 0 ≤ VD (SD s) (rt (SD s) 3 x) := PI_w hC ho hL (j := 2) (by decide)
  have p3 : VD (SD s) (rt (SD s) 3 x) = WD (SD s) (pi s 3 x) + VD (SD s) (rt (SD s) 4 x) ∧ OB s (pi s 3 x) ∧ 1 ≤ WD (SD s) (pi s 3 x) ∧ 0 ≤ VD (SD s) (rt (SD s) 4 x) := PI_w hC ho hL (j := 3) (by decide)
  obtain ⟨p0, o0, i0, j0⟩ := p0
  obtain ⟨p1, o1, i1, j1⟩ := p1
  obtain ⟨p2, o2, i2, j2⟩ := p2
  obtain ⟨p3, o3, i3, j3⟩ := p3
  have hP := KWS_PS hW (by omega)
  have S0 := KST_rf hP
  have e0 : s.I 8 = s.I 8 := rfl
  have nR := OB_R hB o1
  have d1 := PI_D hP ho hL (j := 1) (by decide)
  have d2 := PI_D hP ho hL (j := 2) (by decide)
  have d3 := PI_D hP ho hL (j := 3) (by decide)
  have nmE := hW.2.2.2.2.2.2.2.2.2.2.2.2.2
  have KN0 := hP.2.2.2.2.2.2.2.2
  have lnB := BKS_len hW.2.2.2.2.1
  refine cl_go rfl ?_
  show xx_go (xt_P z) (d + 90) 242 0 [some (.ref (c + 0)), some (.int (iI x)), none, none, none, none] [] hp _
  refine go_a (pc' := 1) (ls' := [some (.ref (c + 0)), some (.int (iI x)), none, none, none, none]) (st' := [.ref (c + 0)]) rfl rfl ?_
  refine go_get (v := .ref (c + 4)) rfl (hW.1.1 0 (by decide)) rfl rfl ?_
  refine go_a (pc' := 5) (ls' := [some (.ref (c + 0)), some (.int (iI x)), none, none, none, none]) (st' := [.int (iI x), .ref (c + 4)]) rfl rfl ?_
  refine go_a (pc' := 6) (ls' := [some (.ref (c + 0)), some (.int (iI x)), none, none, none, none]) (st' := [.int (iI 1), .int (iI x), .ref (c + 4)]) rfl rfl ?_
  refine go_v (m := 202) (as := [.ref (c + 4), .int (iI x), .int (iI 1)]) (r := []) rfl rfl rfl (hW.1.1 3 (by decide)) rfl rfl (kq_part z (d + 88) S0 hC ho hL (by decide) (by decide) (by decide)) (fun v h3 hq => ?_)
  obtain ⟨rfl, e9⟩ := hq
  rw [e9]
  clear e9 h3
  show xx_go (xt_P z) (d + 90) 242 9 [some (.ref (c + 0)), some (.int (iI x)), none, none, none, none] [.int (iI (pi s 1 x))] hp _
  refine go_a (pc' := 10) (ls' := [some (.ref (c + 0)), some (.int (iI x)), some (.int (iI (pi s 1 x))), none, none, none]) (st' := []) rfl rfl ?_
  refine go_a (pc' := 11) (ls' := [some (.ref (c + 0)), some (.int (iI x)), some (.int (iI (pi s 1 x))), none, none, none]) (st' := [.ref (c + 0)]) rfl rfl ?_
  refine go_get (v := .ref (c + 25)) rfl (hW.1.1 0 (by decide)) rfl rfl ?_
  refine go_a (pc' := 15) (ls' := [some (.ref (c + 0)), some (.int (iI x)), some (.int (iI (pi s 1 x))), none, none, none]) (st' := [.ref (c + 0), .ref (c + 25)]) rfl rfl ?_
  refine go_get (v := .ref (c + 4)) rfl (hW.1.1 0 (by decide)) rfl rfl ?_
  refine go_a (pc' := 19) (ls' := [some (.ref (c + 0)), some (.int (iI x)), some (.int (iI (pi s 1 x))), none, none, none]) (st' := [.int (iI x), .ref (c + 4), .ref (c + 25)]) rfl rfl ?_
  refine go_a (pc' := 20) (ls' := [some (.ref (c + 0)), some (.int (iI x)), some (.int (iI (pi s 1 x))), none, none, none]) (st' := [.int (iI 2), .int (iI x), .ref (c + 4), .ref (c + 25)]) rfl rfl ?_
  refine go_v (m := 202) (as := [.ref (c + 4), .int (iI x), .int (iI 2)]) (r := [.ref (c + 25)]) rfl rfl rfl (hW.1.1 3 (by decide)) rfl rfl (kq_part z (d + 88) S0 hC ho hL (by decide) (by decide) (by decide)) (fun v h3 hq => ?_)
  obtain ⟨rfl, e9⟩ := hq
  rw [e9]
  clear e9 h3
  show xx_go (xt_P z) (d + 90) 242 23 [some (.ref (c + 0)), some (.int (iI x)), some (.int (iI (pi s 1 x))), none, none, none] [.int (iI (pi s 2 x)), .ref (c + 25)] hp _
  refine go_v (m := 211) (as := [.ref (c + 25), .int (iI (pi s 2 x))]) (r := []) rfl rfl rfl (hW.1.1 16 (by decide)) rfl rfl (kq_read z (d + 83) hP S0 e0 (by omega) o2 (by omega)) (fun v h1 hq => ?_)
  obtain ⟨s1, E1, hv⟩ := hq
  have e1 := STE_8 E1
  have C1 := STE_CI E1 hC
  have W1 := KWS_GF hW E1.1 E1.2.1 C1 E1.2.2.2 (STE_GF E1) (TF_Q E1.2.2.1)
  have I1 := TF_I E1.2.2.1
  have eN1 : s1.N = s.N := E1.2.2.1.1
  have i20 : s1.I 20 = s.I 20 := E1.2.2.1.2.2.2 20 (by decide) (by decide)
  have S1 := KST_STE S0 E1
  rcases hv with ⟨rfl, nu⟩ | ⟨a3, n, f, rfl, ln, la, T1, FF, et, TR1⟩
  · have nk : ¬ sp_ck t (DK s.N x) := by
      rintro ⟨v, F, -, w, -⟩
      rw [nmE.1, d2, w] at nu
      cases nu
    show xx_go (xt_P z) (d + 90) 242 26 [some (.ref (c + 0)), some (.int (iI x)), some (.int (iI (pi s 1 x))), none, none, none] [.null] h1 _
    refine go_a (pc' := 27) (ls' := [some (.ref (c + 0)), some (.int (iI x)), some (.int (iI (pi s 1 x))), some (.null), none, none]) (st' := []) rfl rfl ?_
    refine go_a (pc' := 28) (ls' := [some (.ref (c + 0)), some (.int (iI x)), some (.int (iI (pi s 1 x))), some (.null), none, none]) (st' := [.ref (c + 0)]) rfl rfl ?_
    refine go_a (pc' := 29) (ls' := [some (.ref (c + 0)), some (.int (iI x)), some (.int (iI (pi s 1 x))), some (.null), none, none]) (st' := [.int (iI (pi s 1 x)), .ref (c + 0)]) rfl rfl ?_
    have no : xx_go (xt_P z) (d + 90) 242 39 [some (.ref (c + 0)), some (.int (iI x)), some (.int (iI (pi s 1 x))), some (.null), none, none] [] h1 (fun v h1 => KCM c hp s k (WD (SD s) x) (((sp_chk t (s.I 20) (DK s.N x)).1, s.I 23), (sp_chk t (s.I 20) (DK s.N x)).2) v h1) := by
      refine go_a (pc' := 40) (ls' := [some (.ref (c + 0)), some (.int (iI x)), some (.int (iI (pi s 1 x))), some (.null), none, none]) (st' := [.int (iI 2)]) rfl rfl ?_
      exact go_r rfl rfl rfl rfl rfl rfl (KCM_0 (x := 2) hW E1.1 E1.2.1 C1 E1.2.2.2 (STE_GF E1) (TF_Q E1.2.2.1) (by rw [sp_chk_0 nk, I1.1, I1.2, e22]) rfl (by omega) (by omega) (by omega))
    refine go_v (m := 208) (as := [.ref (c + 0), .int (iI (pi s 1 x))]) (r := []) rfl rfl rfl (E1.1.1 0 (by decide)) rfl rfl (kk_mayName z (d + 87) c (pi s 1 x) h1 s1 E1.1 E1.2.1 nR.1 nR.2) (fun v h3 hq => ?_)
    obtain ⟨hq, e9⟩ := hq
    rw [e9]
    clear e9 h3
    rcases hq with ⟨rfl, -⟩ | ⟨rfl, -⟩
    · show xx_go (xt_P z) (d + 90) 242 32 [some (.ref (c + 0)), some (.int (iI x)), some (.int (iI (pi s 1 x))), some (.null), none, none] [.int (iI 1)] h1 _
      refine mi_eq0 (t := 39) rfl rfl (by omega) (by omega) (fun q => absurd q (by decide)) (fun _ => ?_)
      refine go_a (pc' := 36) (ls' := [some (.ref (c + 0)), some (.int (iI x)), some (.int (iI (pi s 1 x))), some (.null), none, none]) (st' := [.null]) rfl rfl ?_
      refine go_a (pc' := 39) (ls' := [some (.ref (c + 0)), some (.int (iI x)), some (.int (iI (pi s 1 x))), some (.null), none, none]) (st' := []) rfl rfl ?_
      exact no
    · show xx_go (xt_P z) (d + 90) 242 32 [some (.ref (c + 0)), some (.int (iI x)), some (.int (iI (pi s 1 x))), some (.null), none, none] [.int (iI 0)] h1 _
      refine mi_eq0 (t := 39) rfl rfl (by omega) (by omega) (fun _ => no) (fun q => absurd rfl q)
  · show xx_go (xt_P z) (d + 90) 242 26 [some (.ref (c + 0)), some (.int (iI x)), some (.int (iI (pi s 1 x))), none, none, none] [.ref a3] h1 _
    refine go_a (pc' := 27) (ls' := [some (.ref (c + 0)), some (.int (iI x)), some (.int (iI (pi s 1 x))), some (.ref a3), none, none]) (st' := []) rfl rfl ?_
    refine go_a (pc' := 28) (ls' := [some (.ref (c + 0)), some (.int (iI x)), some (.int (iI (pi s 1 x))), some (.ref a3), none, none]) (st' := [.ref (c + 0)]) rfl rfl ?_
    refine go_a (pc' := 29) (ls' := [some (.ref (c + 0)), some (.int (iI x)), some (.int (iI (pi s 1 x))), some (.ref a3), none, none]) (st' := [.int (iI (pi s 1 x)), .ref (c + 0)]) rfl rfl ?_
    refine go_v (m := 208) (as := [.ref (c + 0), .int (iI (pi s 1 x))]) (r := []) rfl rfl rfl (E1.1.1 0 (by decide)) rfl rfl (kk_mayName z (d + 87) c (pi s 1 x) h1 s1 E1.1 E1.2.1 nR.1 nR.2) (fun v h3 hq => ?_)
    obtain ⟨hq, e9⟩ := hq
    rw [e9]
    clear e9 h3
    rw [nmE.1, d2] at et
    have mnt := MN_tr KN0 hC hB o1
    rw [d1] at mnt
    rcases hq with ⟨rfl, nO, n17, nN⟩ | ⟨rfl, nmn⟩
    · show xx_go (xt_P z) (d + 90) 242 32 [some (.ref (c + 0)), some (.int (iI x)), some (.int (iI (pi s 1 x))), some (.ref a3), none, none] [.int (iI 1)] h1 _
      refine mi_eq0 (t := 39) rfl rfl (by omega) (by omega) (fun q => absurd q (by decide)) (fun _ => ?_)
      refine go_a (pc' := 36) (ls' := [some (.ref (c + 0)), some (.int (iI x)), some (.int (iI (pi s 1 x))), some (.ref a3), none, none]) (st' := [.ref a3]) rfl rfl ?_
      refine go_a (pc' := 41) (ls' := [some (.ref (c + 0)), some (.int (iI x)), some (.int (iI (pi s 1 x))), some (.ref a3), none, none]) (st' := []) rfl rfl ?_
      refine go_a (pc' := 42) (ls' := [some (.ref (c + 0)), some (.int (iI x)), some (.int (iI (pi s 1 x))), some (.ref a3), none, none]) (st' := [.ref (c + 0)]) rfl rfl ?_
      refine go_get (v := .ref (c + 21)) rfl (E1.1.1 0 (by decide)) rfl rfl ?_
      refine go_a (pc' := 46) (ls' := [some (.ref (c + 0)), some (.int (iI x)), some (.int (iI (pi s 1 x))), some (.ref a3), none, none]) (st' := [.int (iI (pi s 1 x)), .ref (c + 21)]) rfl rfl ?_
      rw [eN1] at nN
      obtain ⟨vn, dvn, mn⟩ := mnt.mp ⟨n17, nN⟩
      obtain ⟨bF, bT, -, -⟩ := KST_BF hP S1 e1
      have i28 : s1.I 28 = s.I 28 := E1.2.2.1.2.2.2 28 (by decide) (by decide)
      refine go_v (m := 243) (as := [.ref (c + 21), .int (iI (pi s 1 x))]) (r := []) rfl rfl rfl (E1.1.1 12 (by decide)) rfl rfl (kf_theorem z (d + 86) c (pi s 1 x) h1 s1 E1.1 E1.2.1 (s.I 8) NM bT (by omega) nR.1 nR.2) (fun v h3 hq => ?_)
      obtain ⟨hq, e9⟩ := hq
      rw [e9]
      clear e9 h3
      rcases hq with ⟨rfl, nth⟩ | ⟨b, ib, nb, fb, cb, rfl, ⟨ib0, ib1, ib2, ib3⟩, -⟩
      · have tbn := TB_none hP o1 (fun i i0 i1 => nth i i0 (by omega))
        rw [d1, dvn, nmE.2.2] at tbn
        have tbn := tb_no tbn
        show xx_go (xt_P z) (d + 90) 242 49 [some (.ref (c + 0)), some (.int (iI x)), some (.int (iI (pi s 1 x))), some (.ref a3), none, none] [.null] h1 _
        refine go_a (pc' := 54) (ls' := [some (.ref (c + 0)), some (.int (iI x)), some (.int (iI (pi s 1 x))), some (.ref a3), none, none]) (st' := []) rfl rfl ?_
        refine go_a (pc' := 55) (ls' := [some (.ref (c + 0)), some (.int (iI x)), some (.int (iI (pi s 1 x))), some (.ref a3), none, none]) (st' := [.ref (c + 0)]) rfl rfl ?_
        refine go_get (v := .ref (c + 21)) rfl (E1.1.1 0 (by decide)) rfl rfl ?_
        refine go_v (m := 48) (as := [.ref (c + 21)]) (r := []) rfl rfl rfl (E1.1.1 12 (by decide)) rfl rfl (kf_theorems z (d + 88) c h1 s1 E1.1) (fun v h3 hq => ?_)
        obtain ⟨rfl, e9⟩ := hq
        rw [e9]
        clear e9 h3
        show xx_go (xt_P z) (d + 90) 242 61 [some (.ref (c + 0)), some (.int (iI x)), some (.int (iI (pi s 1 x))), some (.ref a3), none, none] [.int (iI (s1.I 28))] h1 _
        have b28 := E1.2.1.2.1 28
        refine go_a (pc' := 63) (ls' := [some (.ref (c + 0)), some (.int (iI x)), some (.int (iI (pi s 1 x))), some (.ref a3), none, none]) (st' := [.int (iI 60), .int (iI (s1.I 28))]) rfl rfl ?_
        refine mi_lt (t := 69) rfl rfl (by omega) (by omega) (by omega) (by omega) (fun w1 => ?_) (fun w1 => ?_)
        · have b20 := W1.2.2.2.2.2.2.2.2.2.2.1
          have ck := sp_chk_1 (fu := s.I 20) dvn et ⟨mn, tbn, by omega⟩
          refine go_a (pc' := 70) (ls' := [some (.ref (c + 0)), some (.int (iI x)), some (.int (iI (pi s 1 x))), some (.ref a3), none, none]) (st' := [.ref (c + 0)]) rfl rfl ?_
          refine go_get (v := .ref (c + 30)) rfl (E1.1.1 0 (by decide)) rfl rfl ?_
          refine go_a (pc' := 74) (ls' := [some (.ref (c + 0)), some (.int (iI x)), some (.int (iI (pi s 1 x))), some (.ref a3), none, none]) (st' := [.ref (c + 0), .ref (c + 30)]) rfl rfl ?_
          refine go_get (v := .int (iI (s1.I 20))) rfl (E1.1.1 0 (by decide)) rfl rfl ?_
          refine go_v (m := 244) (as := [.ref (c + 30), .int (iI (s1.I 20))]) (r := []) rfl rfl rfl (E1.1.1 19 (by decide)) rfl rfl (kq_begin z (d + 89) c (s1.I 20) h1 s1 E1.1) (fun v h2 hq => ?_)
          obtain ⟨rfl, K2, X2⟩ := hq
          have B2 : KB ((((s1.wI 16 (s1.I 20)).wI 17 0).wI 18 0).wI 19 0) := KB_wF (KB_wF (KB_wF (KB_wF W1.2.1 (by omega) (by omega) (by decide)) (by decide) (by decide) (by decide)) (by decide) (by decide) (by decide)) (by decide) (by decide) (by decide)
          have F2 : GF s1 ((((s1.wI 16 (s1.I 20)).wI 17 0).wI 18 0).wI 19 0) := GF_tr (GF_tr (GF_tr (GF_wI (by decide)) (GF_wI (by decide))) (GF_wI (by decide))) (GF_wI (by decide))
          have C2 : CI ((((s1.wI 16 (s1.I 20)).wI 17 0).wI 18 0).wI 19 0) := KSA_CI (s := s1) ⟨rfl, rfl, rfl⟩ W1.2.2.1
          have D2 : SD ((((s1.wI 16 (s1.I 20)).wI 17 0).wI 18 0).wI 19 0) = SD s1 := rfl
          have E2 : ((((s1.wI 16 (s1.I 20)).wI 17 0).wI 18 0).wI 19 0).I 8 = s1.I 8 := rfl
          have Q2 : KQ s1 → KQ ((((s1.wI 16 (s1.I 20)).wI 17 0).wI 18 0).wI 19 0) := fun q => KQ_e (s := s1) rfl rfl rfl rfl rfl q
          have eN2 : ((((s1.wI 16 (s1.I 20)).wI 17 0).wI 18 0).wI 19 0).N = s1.N := rfl
          have e17_2 : ((((s1.wI 16 (s1.I 20)).wI 17 0).wI 18 0).wI 19 0).I 17 = 0 := rfl
          have e16_2 : ((((s1.wI 16 (s1.I 20)).wI 17 0).wI 18 0).wI 19 0).I 16 = s1.I 20 := rfl
          have e23_2 : ((((s1.wI 16 (s1.I 20)).wI 17 0).wI 18 0).wI 19 0).I 23 = s1.I 23 := rfl
          obtain ⟨s2, es2⟩ : ∃ q : KS, q = ((((s1.wI 16 (s1.I 20)).wI 17 0).wI 18 0).wI 19 0) := ⟨_, rfl⟩
          rw [← es2] at K2 X2 B2 F2 C2 D2 E2 Q2 eN2 e17_2 e16_2 e23_2
          have W2 := KWS_GF W1 K2 B2 C2 X2 F2 Q2
          show xx_go (xt_P z) (d + 90) 242 80 [some (.ref (c + 0)), some (.int (iI x)), some (.int (iI (pi s 1 x))), some (.ref a3), none, none] [.ref (c + 30)] h2 _
          have D1 : PFR s s1 := TF_P E1.2.2.1
          have ho2 : OB s2 x := ⟨ho.1, by have := ho.2; omega⟩
          have T2 := KST_rf' K2 B2 C2
          have hL2 : isL (SD s2) 4 x := by rw [D2]; exact PFR_isL D1 hC ho hL
          have ep : pi s2 3 x = pi s 3 x := by
            have h := PI_p hC ho hL (j := 3) (by decide) D1
            unfold pi at h ⊢
            rw [D2]
            exact h
          have op : OB s2 (pi s 3 x) := ⟨o3.1, by have := o3.2; omega⟩
          have wp : WD (SD s2) (pi s 3 x) = WD (SD s) (pi s 3 x) := by rw [D2]; exact (PFR_WD D1 hC o3).1
          have hP2 := KWS_PS W2 (by omega)
          refine go_a (pc' := 81) (ls' := [some (.ref (c + 0)), some (.int (iI x)), some (.int (iI (pi s 1 x))), some (.ref a3), none, none]) (st' := [.ref (c + 0), .ref (c + 30)]) rfl rfl ?_
          refine go_get (v := .ref (c + 4)) rfl (K2.1 0 (by decide)) rfl rfl ?_
          refine go_a (pc' := 85) (ls' := [some (.ref (c + 0)), some (.int (iI x)), some (.int (iI (pi s 1 x))), some (.ref a3), none, none]) (st' := [.int (iI x), .ref (c + 4), .ref (c + 30)]) rfl rfl ?_
          refine go_a (pc' := 86) (ls' := [some (.ref (c + 0)), some (.int (iI x)), some (.int (iI (pi s 1 x))), some (.ref a3), none, none]) (st' := [.int (iI 3), .int (iI x), .ref (c + 4), .ref (c + 30)]) rfl rfl ?_
          refine go_v (m := 202) (as := [.ref (c + 4), .int (iI x), .int (iI 3)]) (r := [.ref (c + 30)]) rfl rfl rfl (K2.1 3 (by decide)) rfl rfl (kq_part z (d + 88) T2 C2 ho2 hL2 (by decide) (by decide) (by decide)) (fun v h3 hq => ?_)
          obtain ⟨rfl, e9⟩ := hq
          rw [e9]
          clear e9 h3
          rw [show pi s2 (3 : Int).toNat x = pi s 3 x from ep]
          show xx_go (xt_P z) (d + 90) 242 89 [some (.ref (c + 0)), some (.int (iI x)), some (.int (iI (pi s 1 x))), some (.ref a3), none, none] [.int (iI (pi s 3 x)), .ref (c + 30)] h2 _
          refine go_a (pc' := 90) (ls' := [some (.ref (c + 0)), some (.int (iI x)), some (.int (iI (pi s 1 x))), some (.ref a3), none, none]) (st' := [.int (iI 0), .int (iI (pi s 3 x)), .ref (c + 30)]) rfl rfl ?_
          refine go_v (m := 245) (as := [.ref (c + 30), .int (iI (pi s 3 x)), .int (iI 0)]) (r := []) rfl rfl rfl (K2.1 19 (by decide)) rfl rfl (kq_prove z d c NM (s1.I 20) h2 s2 (pi s 3 x) hP2 e16_2 op (by omega) (by omega)) (fun v h3 hq => ?_)
          rw [wp, eN2, eN1, e17_2, d3, nmE.1, nmE.2.1, nmE.2.2, i20] at hq
          obtain ⟨s3, ⟨rfl, en, eg, S3⟩ | ⟨y, Z3, DD, rfl, hy, C3, ⟨TO, es⟩, S3⟩⟩ := hq
          · show xx_go (xt_P z) (d + 90) 242 93 [some (.ref (c + 0)), some (.int (iI x)), some (.int (iI (pi s 1 x))), some (.ref a3), none, none] [.null] h3 _
            refine go_a (pc' := 95) (ls' := [some (.ref (c + 0)), some (.int (iI x)), some (.int (iI (pi s 1 x))), some (.ref a3), some (.null), none]) (st' := []) rfl rfl ?_
            refine go_a (pc' := 97) (ls' := [some (.ref (c + 0)), some (.int (iI x)), some (.int (iI (pi s 1 x))), some (.ref a3), some (.null), none]) (st' := [.null]) rfl rfl ?_
            refine go_a (pc' := 100) (ls' := [some (.ref (c + 0)), some (.int (iI x)), some (.int (iI (pi s 1 x))), some (.ref a3), some (.null), none]) (st' := []) rfl rfl ?_
            refine go_a (pc' := 101) (ls' := [some (.ref (c + 0)), some (.int (iI x)), some (.int (iI (pi s 1 x))), some (.ref a3), some (.null), none]) (st' := [.ref (c + 0)]) rfl rfl ?_
            refine go_v (m := 296) (as := [.ref (c + 0)]) (r := []) rfl rfl rfl (S3.1.1 0 (by decide)) rfl rfl (kk_failure z (d + 89) c h3 s3 S3.1 S3.2.1) (fun v h4 hq => ?_)
            obtain ⟨q, s4, rfl, K4, B4, X4, F4, j22, j23⟩ := hq
            have p3 := (PFR_I S3.2.2.2.1).2
            rw [show (sp_pv t (s.I 20) (sp_p 3 (DK s.N x))).1 = none from en] at ck
            have X9 := kx_tr (kx_tr (kx_tr E1.2.2.2 X2) S3.2.2.2.2.1) X4
            have F9 := GF_tr (GF_tr (GF_tr (STE_GF E1) F2) (PFR_G S3.2.2.2.1)) (SF_G F4)
            have C9 : CI s4 := KSA_CI ⟨F4.1.2.1, by rw [F4.1.1], F4.2 8 (by decide) (by decide) (by decide) (by decide)⟩ S3.2.2.1
            show xx_go (xt_P z) (d + 90) 242 104 [some (.ref (c + 0)), some (.int (iI x)), some (.int (iI (pi s 1 x))), some (.ref a3), some (.null), none] [.int (iI q)] h4 _
            exact go_r rfl rfl rfl rfl rfl rfl (KCM_0 hW K4 B4 C9 X9 F9 (fun q => SF_Q F4 (S3.2.2.2.2.2.2 (Q2 (TF_Q E1.2.2.1 q)))) (by rw [ck, j22, eg, j23, p3, e23_2, I1.2]; rfl) rfl (by omega) (by omega) (by omega))
          · have l3 := S3.2.2.2.2.2.1
            have g3 := S3.2.2.2.1.2.2.2.1
            have F9 := GF_tr (GF_tr (STE_GF E1) F2) (PFR_G S3.2.2.2.1)
            have X9 := kx_tr (kx_tr E1.2.2.2 X2) S3.2.2.2.2.1
            have W3 := KWS_GF hW S3.1 S3.2.1 S3.2.2.1 X9 F9 (fun q => S3.2.2.2.2.2.2 (Q2 (TF_Q E1.2.2.1 q)))
            rw [show (sp_pv t (s.I 20) (sp_p 3 (DK s.N x))).1 = some (DD, s3.I 17) from es] at ck
            have p3 := (PFR_I S3.2.2.2.1).2
            have TR3 := KST_TRT hP2 S3 (show TRT s2.N (s2.I 8) NM.2.2.1 (rl n f) FF by rw [eN2, E2]; exact TR1)
            have dv3 := KST_D hP2 S3 (k := pi s 1 x) ⟨o1.1, by have := o1.2; omega⟩
            rw [eN2, eN1, d1, dvn] at dv3
            rw [← nmE.1] at TO
            have T3 := TM_u (TM_kx T1 (kx_tr X2 S3.2.2.2.2.1)) (show s.I 8 ≤ s3.I 8 by omega)
            have i28 := F9.2.2.1 28 (by decide)
            have i281 := (STE_GF E1).2.2.1 28 (by decide)
            show xx_go (xt_P z) (d + 90) 242 93 [some (.ref (c + 0)), some (.int (iI x)), some (.int (iI (pi s 1 x))), some (.ref a3), none, none] [.ref y] h3 _
            refine go_a (pc' := 95) (ls' := [some (.ref (c + 0)), some (.int (iI x)), some (.int (iI (pi s 1 x))), some (.ref a3), some (.ref y), none]) (st' := []) rfl rfl ?_
            refine go_a (pc' := 97) (ls' := [some (.ref (c + 0)), some (.int (iI x)), some (.int (iI (pi s 1 x))), some (.ref a3), some (.ref y), none]) (st' := [.ref y]) rfl rfl ?_
            refine go_a (pc' := 105) (ls' := [some (.ref (c + 0)), some (.int (iI x)), some (.int (iI (pi s 1 x))), some (.ref a3), some (.ref y), none]) (st' := []) rfl rfl ?_
            have nO2 := nO.2
            refine go_w ?_ (kk_check2 z d c x (pi s 1 x) h3 s3 NM t k W3 (by have := X9.1; omega) lk (by omega) n17 (by omega) a3 n f T3 y Z3 C3 (by omega) vn FF DD dv3 TR3 TO (fun i i0 i1 => nth i i0 (by omega)))
            rintro v h9 ⟨r, s9, NM9, t9, e9, er9, W9, F8, X8, l9⟩
            exact ⟨r, s9, NM9, t9, e9, by rw [er9, ck, p3, e23_2, I1.2], W9, CFR_tr (GF_C F9) F8, kx_w (kx_tr X9 X8) (by omega) (by omega), by omega⟩
        · have nk : ¬ sp_ck t (DK s.N x) := by
            rintro ⟨v, F, -, -, -, -, w5⟩
            omega
          refine go_a (pc' := 68) (ls' := [some (.ref (c + 0)), some (.int (iI x)), some (.int (iI (pi s 1 x))), some (.ref a3), none, none]) (st' := [.int (iI 8)]) rfl rfl ?_
          exact go_r rfl rfl rfl rfl rfl rfl (KCM_0 (x := 8) hW E1.1 E1.2.1 C1 E1.2.2.2 (STE_GF E1) (TF_Q E1.2.2.1) (by rw [sp_chk_0 nk, I1.1, I1.2, e22]) rfl (by omega) (by omega) (by omega))
      · have nk : ¬ sp_ck t (DK s.N x) := by
          rintro ⟨v, F, w1, -, -, w4, -⟩
          obtain ⟨v9, B9, tb9, -⟩ := TB_some hP ib0 (by omega) ib2 ib3
          rw [d1, w1, nmE.2.2] at tb9
          exact tb_yes tb9 w4
        show xx_go (xt_P z) (d + 90) 242 49 [some (.ref (c + 0)), some (.int (iI x)), some (.int (iI (pi s 1 x))), some (.ref a3), none, none] [.ref b] h1 _
        refine go_a (pc' := 52) (ls' := [some (.ref (c + 0)), some (.int (iI x)), some (.int (iI (pi s 1 x))), some (.ref a3), none, none]) (st' := []) rfl rfl ?_
        refine go_a (pc' := 53) (ls' := [some (.ref (c + 0)), some (.int (iI x)), some (.int (iI (pi s 1 x))), some (.ref a3), none, none]) (st' := [.int (iI 3)]) rfl rfl ?_
        exact go_r rfl rfl rfl rfl rfl rfl (KCM_0 (x := 3) hW E1.1 E1.2.1 C1 E1.2.2.2 (STE_GF E1) (TF_Q E1.2.2.1) (by rw [sp_chk_0 nk, I1.1, I1.2, e22]) rfl (by omega) (by omega) (by omega))
    · have nk : ¬ sp_ck t (DK s.N x) := by
        rintro ⟨v, F, w1, -, w3, -⟩
        have q := mnt.mpr ⟨v, w1, w3⟩
        refine nmn ⟨⟨o1.1, by rw [e1]; exact o1.2⟩, q.1, ?_⟩
        rw [eN1]
        exact q.2
      show xx_go (xt_P z) (d + 90) 242 32 [some (.ref (c + 0)), some (.int (iI x)), some (.int (iI (pi s 1 x))), some (.ref a3), none, none] [.int (iI 0)] h1 _
      refine mi_eq0 (t := 39) rfl rfl (by omega) (by omega) (fun _ => ?_) (fun q => absurd rfl q)
      refine go_a (pc' := 40) (ls' := [some (.ref (c + 0)), some (.int (iI x)), some (.int (iI (pi s 1 x))), some (.ref a3), none, none]) (st' := [.int (iI 2)]) rfl rfl ?_
      exact go_r rfl rfl rfl rfl rfl rfl (KCM_0 (x := 2) hW E1.1 E1.2.1 C1 E1.2.2.2 (STE_GF E1) (TF_Q E1.2.2.1) (by rw [sp_chk_0 nk, I1.1, I1.2, e22]) rfl (by omega) (by omega) (by omega))
