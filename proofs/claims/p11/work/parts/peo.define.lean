def ftc (ft : Nat → Int) (v : Nat) (cl : Int) : Nat → Int := fun w => if w = v then cl else ft w
theorem ftc_ft {FB : List (Nat × List Nat × ob_T)} {v : Nat} {ps : List Nat} {B : ob_T} (hb : sp_bt v < 0) (hf : ∀ p ∈ FB, p.1 ≠ v) : ftc (sp_ft FB) v (fcl (FB.length : Int) (ps.length : Int)) = sp_ft (FB ++ [(v, ps, B)]) := by
  funext w
  unfold ftc
  by_cases c : w = v
  · rw [if_pos c, c]
    refine (sp_ft_at hb (j := FB.length) (p := (v, ps, B)) ?_ rfl (fun k q hk hq => ?_)).symm
    · rw [List.getElem?_append_right (Nat.le_refl _), Nat.sub_self]
      rfl
    · rw [List.getElem?_append_left hk] at hq
      exact hf q (List.mem_of_getElem? hq)
  · rw [if_neg c]
    rcases sp_ft_m (FB := FB) w with h | h
    · rw [h]
      unfold sp_ft at h ⊢
      by_cases cb : 0 ≤ sp_bt w
      · rw [if_pos cb] at h
        omega
      · rw [if_neg cb] at h ⊢
        have nm : ∀ p ∈ FB, p.1 ≠ w := by
          intro p hp e
          rcases sp_fx_s (v := w) (FB := FB) (i := 0) with q | ⟨j, q, -, -, q3⟩
          · obtain ⟨j, hj⟩ := List.getElem?_of_mem hp
            have key : ∀ (L : List (Nat × List Nat × ob_T)) (i : Nat), p ∈ L → sp_fx w L i ≠ -1 := by
              intro L
              induction L with
              | nil => exact fun i hm => absurd hm List.not_mem_nil
              | cons r L ih =>
                intro i hm
                by_cases cr : r.1 = w
                · rw [show sp_fx w (r :: L) i = fcl (i : Int) (r.2.1.length : Int) from if_pos cr]
                  unfold fcl
                  omega
                · rw [show sp_fx w (r :: L) i = sp_fx w L (i + 1) from if_neg cr]
                  rcases List.mem_cons.mp hm with q | q
                  · rw [q] at e
                    exact absurd e cr
                  · exact ih (i + 1) q
            exact key FB 0 hp q
          · rw [h] at q3
            unfold fcl at q3
            omega
        rw [sp_fx_app _ nm]
        show -1 = if v = w then _ else -1
        rw [if_neg (fun q => c q.symm)]
    · exact (sp_ft_up _ h).symm
section DFS
variable {t : List sp_Th} {X B : ob_T} {v : Nat}
def sp_dk (t : List sp_Th) (X : ob_T) : Prop := ∃ (v : Nat) (B : ob_T), sp_p 1 X = .var v ∧ sp_tm (sp_ft (sp_FB t ++ [(v, (sp_as (sp_p 2 X)).map sp_hc, .num 0)])) (sp_p 3 X) = some B ∧ sp_mn v ∧ sp_vs 6 (sp_p 2 X) ∧ (sp_ov ((sp_as (sp_p 2 X)).map sp_hc) B).1 ∧ sp_lw v B ∧ (∀ p ∈ sp_FB t, p.1 ≠ v) ∧ (sp_FB t).length < 40
theorem sp_def_0 (h : ¬ sp_dk t X) : sp_def t X = t := by
  unfold sp_def
  cases h1 : sp_p 1 X with
  | var v =>
    show (match sp_tm (sp_ft (sp_FB t ++ [(v, (sp_as (sp_p 2 X)).map sp_hc, .num 0)])) (sp_p 3 X) with
      | some B => _
      | none => _) = _
    cases h2 : sp_tm (sp_ft (sp_FB t ++ [(v, (sp_as (sp_p 2 X)).map sp_hc, .num 0)])) (sp_p 3 X) with
    | none => rfl
    | some B => exact ifc_neg (fun w => h ⟨v, B, h1, h2, w⟩)
  | num _ => rfl
  | add _ _ => rfl
  | sub _ _ => rfl
  | neg _ => rfl
  | mulL _ _ => rfl
  | mulR _ _ => rfl
theorem sp_def_1 (h1 : sp_p 1 X = .var v) (h2 : sp_tm (sp_ft (sp_FB t ++ [(v, (sp_as (sp_p 2 X)).map sp_hc, .num 0)])) (sp_p 3 X) = some B) (h3 : sp_mn v ∧ sp_vs 6 (sp_p 2 X) ∧ (sp_ov ((sp_as (sp_p 2 X)).map sp_hc) B).1 ∧ sp_lw v B ∧ (∀ p ∈ sp_FB t, p.1 ≠ v) ∧ (sp_FB t).length < 40) : sp_def t X = (v, some ((sp_as (sp_p 2 X)).map sp_hc), B) :: t := by
  unfold sp_def
  rw [h1]
  show (match sp_tm (sp_ft (sp_FB t ++ [(v, (sp_as (sp_p 2 X)).map sp_hc, .num 0)])) (sp_p 3 X) with
      | some B => _
      | none => _) = _
  rw [h2]
  exact ifc_pos h3
theorem fb_no {FB : List (Nat × List Nat × ob_T)} (h : sp_fb FB (.var v) = none) : ∀ p ∈ FB, p.1 ≠ v := by
  intro p hp e
  have := List.find?_eq_none.mp h p hp
  refine this ?_
  show (v == p.1) = true
  rw [e]
  exact beq_self_eq_true v
theorem fb_yes {FB : List (Nat × List Nat × ob_T)} {q : Nat × List Nat × ob_T} (h : sp_fb FB (.var v) = some q) : ¬ ∀ p ∈ FB, p.1 ≠ v := by
  intro w
  have m := List.mem_of_find?_eq_some h
  have e := List.find?_some h
  have e : (v == q.1) = true := e
  rw [beq_iff_eq] at e
  exact w q m e.symm
end DFS
theorem HFT_c {c : Nat} {hp : xx_H} {s : KS} {NM : BKM} {nm cl : Int} {v : Nat} (P : KPS c hp s NM) (on : OB s nm) (dv : DK s.N nm = .var v) (mn : sp_mn v) : HFT ((s.wI 14 nm).wI 15 cl) NM (ftc NM.2.2.1 v cl) ∧ ftc NM.2.2.1 v cl 85168940 = -1 := by
  have KN := P.2.2.2.2.2.2.2.2
  have hB := P.2.1
  have hX : KX s := ⟨P.2.2.1, KN.1.1⟩
  have u38 := KB_38 hB
  have hno : ∀ i : Int, 0 ≤ i → i < s.I 27 → 2 ≠ (NM.1 i).1 := by
    intro i i0 i1
    obtain ⟨a, m, g, n, f, cb, -, ⟨pq, ta, -, -, -, -, -, -, q, -⟩, -⟩ := P.2.2.2.2.1 i i0 i1
    omega
  obtain ⟨⟨h1, h2, h3, h4⟩, fq⟩ := KNT_HFT KN P.2.2.1 hB P.2.2.2.2.2.2.1 hno
  have e14 := P.2.2.2.2.2.2.1
  have ne : ∀ x : Int, OB s x → x ≠ nm → sp_fv (ftc NM.2.2.1 v cl) (DK s.N x) = sp_fv NM.2.2.1 (DK s.N x) := by
    intro x ox xn
    match hd : DK s.N x with
    | .var w =>
      show (if w = v then cl else NM.2.2.1 w) = NM.2.2.1 w
      refine if_neg (fun q => xn ?_)
      rw [q, ← dv] at hd
      exact DK_inj hB hX ox.1 ox.2 on.1 on.2 hd
    | .num _ => rfl
    | .add _ _ => rfl
    | .sub _ _ => rfl
    | .neg _ => rfl
    | .mulL _ _ => rfl
    | .mulR _ _ => rfl
  refine ⟨⟨fun x ox ex => ?_, fun x x0 x1 xn => ?_, fun i i0 i1 xn => ?_, fun x ox xn xb xf => ?_⟩, ?_⟩
  · have ex : x = nm := ex
    show sp_fv (ftc NM.2.2.1 v cl) (DK s.N x) = cl
    rw [ex, dv]
    exact if_pos rfl
  · have xn : x ≠ nm := xn
    show sp_fv (ftc NM.2.2.1 v cl) (DK s.N x) = _
    rw [ne x ⟨by omega, by omega⟩ xn]
    exact h2 x x0 x1 (by omega)
  · have xn : (NM.1 i).1 ≠ nm := xn
    have i1 : i < s.I 27 := i1
    have ob := (KN.2.2.1.2.1 i i0 i1).1
    have := ob.1
    show sp_fv (ftc NM.2.2.1 v cl) (DK s.N (NM.1 i).1) = _
    rw [ne _ ob xn]
    exact h3 i i0 i1 (by omega)
  · have xn : x ≠ nm := xn
    have ox : OB s x := ox
    have := ox.1
    show sp_fv (ftc NM.2.2.1 v cl) (DK s.N x) = -1
    rw [ne x ox xn]
    exact h4 x ox (by omega) xb xf
  · show (if 85168940 = v then cl else NM.2.2.1 85168940) = -1
    rw [if_neg (fun q => mn 2 (by decide) q.symm)]
    exact fq
theorem kk_define (z : Value) (d c : Nat) (x : Int) (hp : xx_H) (s : KS) (NM : BKM) (t : List sp_Th) (k : Int) (hW : KWS c hp s NM t k) (ho : OB s x) (w9 : WD (SD s) x ≤ 1001) (l25 : s.I 8 + WD (SD s) x ≤ 25000) (lb : c + 84 ≤ hp.length) (lk : k ≤ 1000000) (hL : isL (SD s) 4 x) (r2 : pi s 0 x ≠ 2) (e22 : s.I 22 = 0) : xx_cl (xt_P z) (d + 91) 201 [.ref (c + 0), .int (iI x)] hp (fun v h1 => KCM c hp s k (WD (SD s) x) ((sp_def t (DK s.N x), s.I 23), 0) v h1) := by
  have hC := hW.2.2.1
  have hB := hW.2.1
  have u38 := KB_38 hB
  have oR := OB_R hB ho
  have f20 := hW.2.2.2.2.2.2.2.2.2.2.1
  have W := PI_W hC ho hL (by decide) r2
  have p0 : VD (SD s) (rt (SD s) 0 x) = WD (SD s) (pi s 0 x) + VD (SD s) (rt (SD s) 1 x) ∧ OB s (pi s 0 x) ∧ 1 ≤ WD (SD s) (pi s 0 x) ∧ 0 ≤ VD (SD s) (rt (SD s) 1 x) := PI_w hC ho hL (j := 0) (by decide)
  have p1 : VD (SD s) (rt (SD s) 1 x) = WD (SD s) (pi s 1 x) + VD (SD s) (rt (SD s) 2 x) ∧ OB s (pi s 1 x) ∧ 1 ≤ WD (SD s) (pi s 1 x) ∧ 0 ≤ VD (SD s) (rt (SD s) 2 x) := PI_w hC ho hL (j := 1) (by decide)
  have p2 : VD (SD s) (rt (SD s) 2 x) = WD (SD s) (pi s 2 x) + VD (SD s) (rt (SD s) 3 x) ∧ OB s (pi s 2 x) ∧ 1 ≤ WD (SD s) (pi s 2 x) ∧ 0 ≤ VD (SD s) (rt (SD s) 3 x) := PI_w hC ho hL (j := 2) (by decide)
  have p3 : VD (SD s) (rt (SD s) 3 x) = WD (SD s) (pi s 3 x) + VD (SD s) (rt (SD s) 4 x) ∧ OB s (pi s 3 x) ∧ 1 ≤ WD (SD s) (pi s 3 x) ∧ 0 ≤ VD (SD s) (rt (SD s) 4 x) := PI_w hC ho hL (j := 3) (by decide)
  obtain ⟨p0, o0, i0, j0⟩ := p0
  obtain ⟨p1, o1, i1, j1⟩ := p1
  obtain ⟨p2, o2, i2, j2⟩ := p2
  obtain ⟨p3, o3, i3, j3⟩ := p3
  have hP := KWS_PS hW (by omega)
  have S0 := KST_rf hP
  have nR := OB_R hB o1
  have d1 := PI_D hP ho hL (j := 1) (by decide)
  have d2 := PI_D hP ho hL (j := 2) (by decide)
  have d3 := PI_D hP ho hL (j := 3) (by decide)
  have nmE := hW.2.2.2.2.2.2.2.2.2.2.2.2.2
  have KN0 := hP.2.2.2.2.2.2.2.2
  have STS := KNT_ST KN0 hC hB
  have lnB := BKS_len hW.2.2.2.2.1
  have mnt := MN_tr KN0 hC hB o1
  rw [d1] at mnt
  have nn := BKS_nn hW.2.2.2.2.1
  have l24 := hW.2.2.2.2.2.2.2.2.1
  have l40 := hW.2.2.2.2.2.2.2.2.2.1
  have U17 := BKS_17 hW.2.2.2.2.1
  obtain ⟨u, u1, u2, u3, u4⟩ : ∃ u : Int, s.I 8 ≤ u ∧ u ≤ s.I 8 + 1 ∧ 17 + s.I 27 < u ∧ (17 + s.I 27 < s.I 8 → u = s.I 8) := by
    by_cases cu : 17 + s.I 27 < s.I 8
    · exact ⟨s.I 8, by omega, by omega, cu, fun _ => rfl⟩
    · exact ⟨s.I 8 + 1, by omega, by omega, by omega, fun q => absurd q cu⟩
  refine cl_go rfl ?_
  show xx_go (xt_P z) (d + 90) 201 0 [some (.ref (c + 0)), some (.int (iI x)), none, none, none, none] [] hp _
  refine go_a (pc' := 1) (ls' := [some (.ref (c + 0)), some (.int (iI x)), none, none, none, none]) (st' := [.ref (c + 0)]) rfl rfl ?_
  refine go_get (v := .ref (c + 4)) rfl (hW.1.1 0 (by decide)) rfl rfl ?_
  refine go_a (pc' := 5) (ls' := [some (.ref (c + 0)), some (.int (iI x)), none, none, none, none]) (st' := [.int (iI x), .ref (c + 4)]) rfl rfl ?_
  refine go_a (pc' := 6) (ls' := [some (.ref (c + 0)), some (.int (iI x)), none, none, none, none]) (st' := [.int (iI 1), .int (iI x), .ref (c + 4)]) rfl rfl ?_
  refine go_v (m := 202) (as := [.ref (c + 4), .int (iI x), .int (iI 1)]) (r := []) rfl rfl rfl (hW.1.1 3 (by decide)) rfl rfl (kq_part z (d + 88) S0 hC ho hL (by decide) (by decide) (by decide)) (fun v h3 hq => ?_)
  obtain ⟨rfl, e9⟩ := hq
  rw [e9]
  clear e9 h3
  show xx_go (xt_P z) (d + 90) 201 9 [some (.ref (c + 0)), some (.int (iI x)), none, none, none, none] [.int (iI (pi s 1 x))] hp _
  refine go_a (pc' := 10) (ls' := [some (.ref (c + 0)), some (.int (iI x)), some (.int (iI (pi s 1 x))), none, none, none]) (st' := []) rfl rfl ?_
  refine go_a (pc' := 11) (ls' := [some (.ref (c + 0)), some (.int (iI x)), some (.int (iI (pi s 1 x))), none, none, none]) (st' := [.ref (c + 0)]) rfl rfl ?_
  refine go_get (v := .ref (c + 25)) rfl (hW.1.1 0 (by decide)) rfl rfl ?_
  refine go_a (pc' := 15) (ls' := [some (.ref (c + 0)), some (.int (iI x)), some (.int (iI (pi s 1 x))), none, none, none]) (st' := [.ref (c + 0), .ref (c + 25)]) rfl rfl ?_
  refine go_get (v := .ref (c + 4)) rfl (hW.1.1 0 (by decide)) rfl rfl ?_
  refine go_a (pc' := 19) (ls' := [some (.ref (c + 0)), some (.int (iI x)), some (.int (iI (pi s 1 x))), none, none, none]) (st' := [.int (iI x), .ref (c + 4), .ref (c + 25)]) rfl rfl ?_
  refine go_a (pc' := 20) (ls' := [some (.ref (c + 0)), some (.int (iI x)), some (.int (iI (pi s 1 x))), none, none, none]) (st' := [.int (iI 2), .int (iI x), .ref (c + 4), .ref (c + 25)]) rfl rfl ?_
  refine go_v (m := 202) (as := [.ref (c + 4), .int (iI x), .int (iI 2)]) (r := [.ref (c + 25)]) rfl rfl rfl (hW.1.1 3 (by decide)) rfl rfl (kq_part z (d + 88) S0 hC ho hL (by decide) (by decide) (by decide)) (fun v h3 hq => ?_)
  obtain ⟨rfl, e9⟩ := hq
  rw [e9]
  clear e9 h3
  show xx_go (xt_P z) (d + 90) 201 23 [some (.ref (c + 0)), some (.int (iI x)), some (.int (iI (pi s 1 x))), none, none, none] [.int (iI (pi s 2 x)), .ref (c + 25)] hp _
  refine go_v (m := 203) (as := [.ref (c + 25), .int (iI (pi s 2 x))]) (r := []) rfl rfl rfl (hW.1.1 16 (by decide)) rfl rfl (kg_variables z (d + 86) c (pi s 2 x) (s.I 8) hp s hW.1 hB hC o2 (Int.le_refl _) (by omega) STS.1) (fun v h1 hq => ?_)
  obtain ⟨K1, X1, hv⟩ := hq
  have W1 := KWS_GF hW K1 hB hC X1 GF_rf id
  rw [d2] at hv
  rcases hv with ⟨rfl, nvs⟩ | ⟨q3, m, g, rfl, lq, A1, kq, m6, hg, vs, trs⟩
  · have nk : ¬ sp_dk t (DK s.N x) := by
      rintro ⟨v, B, -, -, -, w, -⟩
      exact nvs w
    show xx_go (xt_P z) (d + 90) 201 26 [some (.ref (c + 0)), some (.int (iI x)), some (.int (iI (pi s 1 x))), none, none, none] [.null] h1 _
    refine go_a (pc' := 27) (ls' := [some (.ref (c + 0)), some (.int (iI x)), some (.int (iI (pi s 1 x))), some (.null), none, none]) (st' := []) rfl rfl ?_
    refine go_a (pc' := 28) (ls' := [some (.ref (c + 0)), some (.int (iI x)), some (.int (iI (pi s 1 x))), some (.null), none, none]) (st' := [.ref (c + 0)]) rfl rfl ?_
    refine go_a (pc' := 29) (ls' := [some (.ref (c + 0)), some (.int (iI x)), some (.int (iI (pi s 1 x))), some (.null), none, none]) (st' := [.int (iI (pi s 1 x)), .ref (c + 0)]) rfl rfl ?_
    have no : xx_go (xt_P z) (d + 90) 201 39 [some (.ref (c + 0)), some (.int (iI x)), some (.int (iI (pi s 1 x))), some (.null), none, none] [] h1 (fun v h1 => KCM c hp s k (WD (SD s) x) ((sp_def t (DK s.N x), s.I 23), 0) v h1) := by
      refine go_a (pc' := 40) (ls' := [some (.ref (c + 0)), some (.int (iI x)), some (.int (iI (pi s 1 x))), some (.null), none, none]) (st' := [.int (iI 2)]) rfl rfl ?_
      exact go_r rfl rfl rfl rfl rfl rfl (KCM_0 (x := 2) hW K1 hB hC X1 GF_rf id (by rw [sp_def_0 nk, e22]) rfl (by omega) (by omega) (by omega))
    refine go_v (m := 208) (as := [.ref (c + 0), .int (iI (pi s 1 x))]) (r := []) rfl rfl rfl (K1.1 0 (by decide)) rfl rfl (kk_mayName z (d + 87) c (pi s 1 x) h1 s K1 hB nR.1 nR.2) (fun v h3 hq => ?_)
    obtain ⟨hq, e9⟩ := hq
    rw [e9]
    clear e9 h3
    rcases hq with ⟨rfl, -⟩ | ⟨rfl, -⟩
    · show xx_go (xt_P z) (d + 90) 201 32 [some (.ref (c + 0)), some (.int (iI x)), some (.int (iI (pi s 1 x))), some (.null), none, none] [.int (iI 1)] h1 _
      refine mi_eq0 (t := 39) rfl rfl (by omega) (by omega) (fun q => absurd q (by decide)) (fun _ => ?_)
      refine go_a (pc' := 36) (ls' := [some (.ref (c + 0)), some (.int (iI x)), some (.int (iI (pi s 1 x))), some (.null), none, none]) (st' := [.null]) rfl rfl ?_
      refine go_a (pc' := 39) (ls' := [some (.ref (c + 0)), some (.int (iI x)), some (.int (iI (pi s 1 x))), some (.null), none, none]) (st' := []) rfl rfl ?_
      exact no
    · show xx_go (xt_P z) (d + 90) 201 32 [some (.ref (c + 0)), some (.int (iI x)), some (.int (iI (pi s 1 x))), some (.null), none, none] [.int (iI 0)] h1 _
      refine mi_eq0 (t := 39) rfl rfl (by omega) (by omega) (fun _ => no) (fun q => absurd rfl q)
  · have mR := A1.2.1
    show xx_go (xt_P z) (d + 90) 201 26 [some (.ref (c + 0)), some (.int (iI x)), some (.int (iI (pi s 1 x))), none, none, none] [.ref q3] h1 _
    refine go_a (pc' := 27) (ls' := [some (.ref (c + 0)), some (.int (iI x)), some (.int (iI (pi s 1 x))), some (.ref q3), none, none]) (st' := []) rfl rfl ?_
    refine go_a (pc' := 28) (ls' := [some (.ref (c + 0)), some (.int (iI x)), some (.int (iI (pi s 1 x))), some (.ref q3), none, none]) (st' := [.ref (c + 0)]) rfl rfl ?_
    refine go_a (pc' := 29) (ls' := [some (.ref (c + 0)), some (.int (iI x)), some (.int (iI (pi s 1 x))), some (.ref q3), none, none]) (st' := [.int (iI (pi s 1 x)), .ref (c + 0)]) rfl rfl ?_
    refine go_v (m := 208) (as := [.ref (c + 0), .int (iI (pi s 1 x))]) (r := []) rfl rfl rfl (K1.1 0 (by decide)) rfl rfl (kk_mayName z (d + 87) c (pi s 1 x) h1 s K1 hB nR.1 nR.2) (fun v h3 hq => ?_)
    obtain ⟨hq, e9⟩ := hq
    rw [e9]
    clear e9 h3
    rcases hq with ⟨rfl, nO, n17, nN⟩ | ⟨rfl, nmn⟩
    · show xx_go (xt_P z) (d + 90) 201 32 [some (.ref (c + 0)), some (.int (iI x)), some (.int (iI (pi s 1 x))), some (.ref q3), none, none] [.int (iI 1)] h1 _
      refine mi_eq0 (t := 39) rfl rfl (by omega) (by omega) (fun q => absurd q (by decide)) (fun _ => ?_)
      refine go_a (pc' := 36) (ls' := [some (.ref (c + 0)), some (.int (iI x)), some (.int (iI (pi s 1 x))), some (.ref q3), none, none]) (st' := [.ref q3]) rfl rfl ?_
      refine go_a (pc' := 41) (ls' := [some (.ref (c + 0)), some (.int (iI x)), some (.int (iI (pi s 1 x))), some (.ref q3), none, none]) (st' := []) rfl rfl ?_
      refine go_a (pc' := 43) (ls' := [some (.ref (c + 0)), some (.int (iI x)), some (.int (iI (pi s 1 x))), some (.ref q3), none, none]) (st' := [.int (iI 17)]) rfl rfl ?_
      refine go_a (pc' := 44) (ls' := [some (.ref (c + 0)), some (.int (iI x)), some (.int (iI (pi s 1 x))), some (.ref q3), none, none]) (st' := [.ref (c + 0), .int (iI 17)]) rfl rfl ?_
      refine go_get (v := .ref (c + 21)) rfl (K1.1 0 (by decide)) rfl rfl ?_
      refine go_v (m := 46) (as := [.ref (c + 21)]) (r := [.int (iI 17)]) rfl rfl rfl (K1.1 12 (by decide)) rfl rfl (kf_functions z (d + 88) c h1 s K1) (fun v h3 hq => ?_)
      obtain ⟨rfl, e9⟩ := hq
      rw [e9]
      clear e9 h3
      show xx_go (xt_P z) (d + 90) 201 50 [some (.ref (c + 0)), some (.int (iI x)), some (.int (iI (pi s 1 x))), some (.ref q3), none, none] [.int (iI (s.I 27)), .int (iI 17)] h1 _
      refine mi_add rfl ?_
      refine go_a (pc' := 52) (ls' := [some (.ref (c + 0)), some (.int (iI x)), some (.int (iI (pi s 1 x))), some (.ref q3), none, none]) (st' := [.ref q3, .int (iI (17 + (s.I 27)))]) rfl rfl ?_
      refine mk_len (n := m) rfl A1.1 (xa_f_len _ _) (by omega) (by omega) ?_
      refine go_s (m := 209) (as := [.int (iI (17 + (s.I 27))), .int (iI m)]) (r := []) rfl rfl rfl rfl (kg_call z (d + 89) (17 + s.I 27) m h1 (by omega) (by omega) (by omega) (by omega)) (fun v h3 hq => ?_)
      obtain ⟨rfl, e9⟩ := hq
      rw [e9]
      clear e9 h3
      show xx_go (xt_P z) (d + 90) 201 56 [some (.ref (c + 0)), some (.int (iI x)), some (.int (iI (pi s 1 x))), some (.ref q3), none, none] [.int (iI (fcl (s.I 27) m))] h1 _
      refine go_a (pc' := 58) (ls' := [some (.ref (c + 0)), some (.int (iI x)), some (.int (iI (pi s 1 x))), some (.ref q3), some (.int (iI (fcl (s.I 27) m))), none]) (st' := []) rfl rfl ?_
      refine go_a (pc' := 59) (ls' := [some (.ref (c + 0)), some (.int (iI x)), some (.int (iI (pi s 1 x))), some (.ref q3), some (.int (iI (fcl (s.I 27) m))), none]) (st' := [.ref (c + 0)]) rfl rfl ?_
      refine go_get (v := .ref (c + 25)) rfl (K1.1 0 (by decide)) rfl rfl ?_
      refine go_a (pc' := 63) (ls' := [some (.ref (c + 0)), some (.int (iI x)), some (.int (iI (pi s 1 x))), some (.ref q3), some (.int (iI (fcl (s.I 27) m))), none]) (st' := [.ref (c + 0), .ref (c + 25)]) rfl rfl ?_
      refine go_get (v := .ref (c + 4)) rfl (K1.1 0 (by decide)) rfl rfl ?_
      refine go_a (pc' := 67) (ls' := [some (.ref (c + 0)), some (.int (iI x)), some (.int (iI (pi s 1 x))), some (.ref q3), some (.int (iI (fcl (s.I 27) m))), none]) (st' := [.int (iI x), .ref (c + 4), .ref (c + 25)]) rfl rfl ?_
      refine go_a (pc' := 68) (ls' := [some (.ref (c + 0)), some (.int (iI x)), some (.int (iI (pi s 1 x))), some (.ref q3), some (.int (iI (fcl (s.I 27) m))), none]) (st' := [.int (iI 3), .int (iI x), .ref (c + 4), .ref (c + 25)]) rfl rfl ?_
      have fcE : ftc NM.2.2.1 = ftc NM.2.2.1 := rfl
      have vc : TVx u (fcl (s.I 27) m) ∧ fcl (s.I 27) m % 4 = 2 := TVx_call (w := 17 + s.I 27) (by omega) u3 (by omega) (by omega) (by omega) (by omega) (by omega)
      obtain ⟨vn, dvn, mn⟩ := mnt.mp ⟨n17, nN⟩
      have dv0 : DK s.N (pi s 1 x) = .var vn := d1.trans dvn
      have bt0 := (DK_mn KN0.2.1 hB ⟨hC, KN0.1.1⟩ o1 n17 dv0).2
      have HC := HFT_c (cl := fcl (s.I 27) m) hP o1 dv0 mn
      have TVs := TRS_VRG vs.2.2.1 (trs NM.2.2.1)
      rw [rl_len] at TVs
      have lps : ((sp_as (sp_p 2 (DK s.N x))).map sp_hc).length = m.toNat := by rw [List.length_map]; omega
      have ftE : ∀ B : ob_T, (∀ p ∈ sp_FB t, p.1 ≠ vn) → ftc NM.2.2.1 vn (fcl (s.I 27) m) = sp_ft (sp_FB t ++ [(vn, (sp_as (sp_p 2 (DK s.N x))).map sp_hc, B)]) := by
        intro B hf
        rw [nmE.1, ← ftc_ft (ps := (sp_as (sp_p 2 (DK s.N x))).map sp_hc) (B := B) bt0 hf, lps, lnB.1, show ((m.toNat : Nat) : Int) = m by omega]
      have S1 := KST_X S0 K1 X1
      refine go_v (m := 202) (as := [.ref (c + 4), .int (iI x), .int (iI 3)]) (r := [.ref (c + 25)]) rfl rfl rfl (K1.1 3 (by decide)) rfl rfl (kq_part z (d + 88) S1 hC ho hL (by decide) (by decide) (by decide)) (fun v h3 hq => ?_)
      obtain ⟨rfl, e9⟩ := hq
      rw [e9]
      clear e9 h3
      show xx_go (xt_P z) (d + 90) 201 71 [some (.ref (c + 0)), some (.int (iI x)), some (.int (iI (pi s 1 x))), some (.ref q3), some (.int (iI (fcl (s.I 27) m))), none] [.int (iI (pi s 3 x)), .ref (c + 25)] h1 _
      refine go_a (pc' := 72) (ls' := [some (.ref (c + 0)), some (.int (iI x)), some (.int (iI (pi s 1 x))), some (.ref q3), some (.int (iI (fcl (s.I 27) m))), none]) (st' := [.int (iI (pi s 1 x)), .int (iI (pi s 3 x)), .ref (c + 25)]) rfl rfl ?_
      refine go_a (pc' := 74) (ls' := [some (.ref (c + 0)), some (.int (iI x)), some (.int (iI (pi s 1 x))), some (.ref q3), some (.int (iI (fcl (s.I 27) m))), none]) (st' := [.int (iI (fcl (s.I 27) m)), .int (iI (pi s 1 x)), .int (iI (pi s 3 x)), .ref (c + 25)]) rfl rfl ?_
      refine go_v (m := 210) (as := [.ref (c + 25), .int (iI (pi s 3 x)), .int (iI (pi s 1 x)), .int (iI (fcl (s.I 27) m))]) (r := []) rfl rfl rfl (K1.1 16 (by decide)) rfl rfl (kg_readBody z (d + 82) c (pi s 3 x) (pi s 1 x) (fcl (s.I 27) m) u h1 s K1 hB hC NM (BKS_BF W1.2.2.2.2.1 (by omega) rfl) (by omega) (by omega) u1 W1.2.2.2.1 _ HC.1 HC.2 STS.1 hW.2.2.2.2.2.2.2.1.1 hW.2.2.2.2.2.2.2.1.2 o1.1 nR.2 vc.1 vc.2 o3 (by omega)) (fun v h2 hq => ?_)
      obtain ⟨s2, K2, B2, F2, hv⟩ := hq
      have C2 := TF_CI F2 hC
      have G2 := PFR_G (TF_P F2)
      have i8 := F2.2.2.2 8 (by decide) (by decide)
      have i27 := F2.2.2.2 27 (by decide) (by decide)
      have i24 := F2.2.2.2 24 (by decide) (by decide)
      rw [d3] at hv
      rcases hv with ⟨rfl, X2, nts⟩ | ⟨a5, n, f, rfl, ln, la, X2, T2, ets, TR2⟩
      · have nk : ¬ sp_dk t (DK s.N x) := by
          rintro ⟨v, B, w1, w2, -, -, -, -, w7, -⟩
          rw [dvn] at w1
          injection w1 with w1
          rw [← w1] at w2 w7
          rw [← ftE _ w7] at w2
          unfold sp_tm at w2
          rw [if_neg nts] at w2
          cases w2
        show xx_go (xt_P z) (d + 90) 201 77 [some (.ref (c + 0)), some (.int (iI x)), some (.int (iI (pi s 1 x))), some (.ref q3), some (.int (iI (fcl (s.I 27) m))), none] [.null] h2 _
        refine go_a (pc' := 79) (ls' := [some (.ref (c + 0)), some (.int (iI x)), some (.int (iI (pi s 1 x))), some (.ref q3), some (.int (iI (fcl (s.I 27) m))), some (.null)]) (st' := []) rfl rfl ?_
        refine go_a (pc' := 81) (ls' := [some (.ref (c + 0)), some (.int (iI x)), some (.int (iI (pi s 1 x))), some (.ref q3), some (.int (iI (fcl (s.I 27) m))), some (.null)]) (st' := [.null]) rfl rfl ?_
        refine go_a (pc' := 103) (ls' := [some (.ref (c + 0)), some (.int (iI x)), some (.int (iI (pi s 1 x))), some (.ref q3), some (.int (iI (fcl (s.I 27) m))), some (.null)]) (st' := []) rfl rfl ?_
        refine go_a (pc' := 104) (ls' := [some (.ref (c + 0)), some (.int (iI x)), some (.int (iI (pi s 1 x))), some (.ref q3), some (.int (iI (fcl (s.I 27) m))), some (.null)]) (st' := [.int (iI 2)]) rfl rfl ?_
        exact go_r rfl rfl rfl rfl rfl rfl (KCM_0 (x := 2) hW K2 B2 C2 (kx_tr X1 X2) G2 (TF_Q F2) (by rw [sp_def_0 nk, (TF_I F2).1, (TF_I F2).2, e22]) rfl (by omega) (by omega) (by omega))
      · have X9 := kx_tr X1 X2
        have W2 := KWS_GF hW K2 B2 C2 X9 G2 (TF_Q F2)
        have tmB : ∀ B : ob_T, (∀ p ∈ sp_FB t, p.1 ≠ vn) → sp_tm (sp_ft (sp_FB t ++ [(vn, (sp_as (sp_p 2 (DK s.N x))).map sp_hc, B)])) (sp_p 3 (DK s.N x)) = some (sp_nf (sp_p 3 (DK s.N x))).1 := by
          intro B hf
          rw [← ftE B hf]
          have := TM_n T2
          exact if_pos (by omega)
        have dk : sp_dk t (DK s.N x) → (∀ p ∈ sp_FB t, p.1 ≠ vn) ∧ (sp_ov ((sp_as (sp_p 2 (DK s.N x))).map sp_hc) (sp_nf (sp_p 3 (DK s.N x))).1).1 ∧ sp_lw vn (sp_nf (sp_p 3 (DK s.N x))).1 ∧ (sp_FB t).length < 40 := by
          rintro ⟨v, B, w1, w2, -, -, w5, w6, w7, w8⟩
          rw [dvn] at w1
          injection w1 with w1
          rw [← w1] at w2 w6 w7
          rw [tmB _ w7] at w2
          injection w2 with w2
          rw [← w2] at w5 w6
          exact ⟨w7, w5, w6, w8⟩
        have HI1 : (∀ p ∈ sp_FB t, p.1 ≠ vn) → HI (ftc NM.2.2.1 vn (fcl (s.I 27) m)) := by
          intro hf
          rw [ftE (.num 0) hf]
          refine sp_ft_HI (fun p hp => ?_)
          rcases List.mem_append.mp hp with q | q
          · obtain ⟨j, hj⟩ := List.getElem?_of_mem q
            have lj := (List.getElem?_eq_some_iff.mp hj).1
            obtain ⟨_, m9, _, _, _, _, _, ps9, _, _, ⟨_, _, _, _, _, _, _, z6, _⟩, _, z9, _, z11, _⟩ := BKS_F hW.2.2.2.2.1 (j : Int) (by omega) (by omega)
            rw [show ((j : Int)).toNat = j by omega, hj] at z9
            injection z9 with z9
            have l := (VRG_ne z11).1
            rw [rl_len] at l
            rw [z9]
            show ps9.length ≤ 6
            omega
          · rw [List.mem_singleton.mp q]
            show ((sp_as (sp_p 2 (DK s.N x))).map sp_hc).length ≤ 6
            rw [lps]
            omega
        obtain ⟨A2, kq2⟩ := KAL_kx A1 kq X2
        have Tp := (TMp T2).1
        have n120 := TM_n T2
        show xx_go (xt_P z) (d + 90) 201 77 [some (.ref (c + 0)), some (.int (iI x)), some (.int (iI (pi s 1 x))), some (.ref q3), some (.int (iI (fcl (s.I 27) m))), none] [.ref a5] h2 _
        refine go_a (pc' := 79) (ls' := [some (.ref (c + 0)), some (.int (iI x)), some (.int (iI (pi s 1 x))), some (.ref q3), some (.int (iI (fcl (s.I 27) m))), some (.ref a5)]) (st' := []) rfl rfl ?_
        refine go_a (pc' := 81) (ls' := [some (.ref (c + 0)), some (.int (iI x)), some (.int (iI (pi s 1 x))), some (.ref q3), some (.int (iI (fcl (s.I 27) m))), some (.ref a5)]) (st' := [.ref a5]) rfl rfl ?_
        refine go_a (pc' := 84) (ls' := [some (.ref (c + 0)), some (.int (iI x)), some (.int (iI (pi s 1 x))), some (.ref q3), some (.int (iI (fcl (s.I 27) m))), some (.ref a5)]) (st' := []) rfl rfl ?_
        refine go_a (pc' := 86) (ls' := [some (.ref (c + 0)), some (.int (iI x)), some (.int (iI (pi s 1 x))), some (.ref q3), some (.int (iI (fcl (s.I 27) m))), some (.ref a5)]) (st' := [.ref a5]) rfl rfl ?_
        refine go_a (pc' := 87) (ls' := [some (.ref (c + 0)), some (.int (iI x)), some (.int (iI (pi s 1 x))), some (.ref q3), some (.int (iI (fcl (s.I 27) m))), some (.ref a5)]) (st' := [.ref q3, .ref a5]) rfl rfl ?_
        have no : ¬ sp_dk t (DK s.N x) → xx_go (xt_P z) (d + 90) 201 103 [some (.ref (c + 0)), some (.int (iI x)), some (.int (iI (pi s 1 x))), some (.ref q3), some (.int (iI (fcl (s.I 27) m))), some (.ref a5)] [] h2 (fun v h1 => KCM c hp s k (WD (SD s) x) ((sp_def t (DK s.N x), s.I 23), 0) v h1) := by
          intro nk
          refine go_a (pc' := 104) (ls' := [some (.ref (c + 0)), some (.int (iI x)), some (.int (iI (pi s 1 x))), some (.ref q3), some (.int (iI (fcl (s.I 27) m))), some (.ref a5)]) (st' := [.int (iI 2)]) rfl rfl ?_
          exact go_r rfl rfl rfl rfl rfl rfl (KCM_0 (x := 2) hW K2 B2 C2 X9 G2 (TF_Q F2) (by rw [sp_def_0 nk, (TF_I F2).1, (TF_I F2).2, e22]) rfl (by omega) (by omega) (by omega))
        refine go_v (m := 226) (as := [.ref a5, .ref q3]) (r := []) rfl rfl rfl Tp.1 rfl rfl (kg_hasBut z (d + 88) a5 (a5 + 1) n f h2 Tp q3 m g A2) (fun v h3 hq => ?_)
        obtain ⟨hq, e9⟩ := hq
        rw [e9]
        clear e9 h3
        rcases hq with ⟨rfl, hb⟩ | ⟨rfl, hb⟩
        · show xx_go (xt_P z) (d + 90) 201 90 [some (.ref (c + 0)), some (.int (iI x)), some (.int (iI (pi s 1 x))), some (.ref q3), some (.int (iI (fcl (s.I 27) m))), some (.ref a5)] [.int (iI 1)] h2 _
          refine mi_eq0 (t := 103) rfl rfl (by omega) (by omega) (fun q => absurd q (by decide)) (fun _ => ?_)
          refine go_a (pc' := 95) (ls' := [some (.ref (c + 0)), some (.int (iI x)), some (.int (iI (pi s 1 x))), some (.ref q3), some (.int (iI (fcl (s.I 27) m))), some (.ref a5)]) (st' := [.ref a5]) rfl rfl ?_
          refine go_a (pc' := 97) (ls' := [some (.ref (c + 0)), some (.int (iI x)), some (.int (iI (pi s 1 x))), some (.ref q3), some (.int (iI (fcl (s.I 27) m))), some (.ref a5)]) (st' := [.int (iI (fcl (s.I 27) m)), .ref a5]) rfl rfl ?_
          have fx : 0 ≤ fcl (s.I 27) m ∧ fcl (s.I 27) m ≤ 2147483647 := ⟨vc.1.1, vc.1.2.1⟩
          refine go_s (m := 228) (as := [.ref a5, .int (iI (fcl (s.I 27) m))]) (r := []) rfl rfl rfl rfl (kp_areLawful z (d + 87) (fcl (s.I 27) m) fx.1 fx.2 a5 (a5 + 1) n f h2 Tp T2.2.1) (fun v h3 hq => ?_)
          obtain ⟨hq, e9⟩ := hq
          rw [e9]
          clear e9 h3
          have lwt : (∀ p ∈ sp_FB t, p.1 ≠ vn) → ((LAW n f (fcl (s.I 27) m) ∧ LAW1 n f (fcl (s.I 27) m) n.toNat) ↔ sp_lw vn (sp_nf (sp_p 3 (DK s.N x))).1) := fun hf => LAW_tr T2.2.1 (HI1 hf) (by rw [ftE (.num 0) hf]; exact sp_ft_b 3 (by decide) (by decide)) (if_pos rfl) fx.1 (fun q => mn 3 (by decide) q) TR2
          rcases hq with ⟨rfl, hLw⟩ | ⟨rfl, nLw⟩
          · show xx_go (xt_P z) (d + 90) 201 100 [some (.ref (c + 0)), some (.int (iI x)), some (.int (iI (pi s 1 x))), some (.ref q3), some (.int (iI (fcl (s.I 27) m))), some (.ref a5)] [.int (iI 1)] h2 _
            refine mi_ne0 (t := 105) rfl rfl (by omega) (by omega) (fun _ => ?_) (fun q => absurd (show (1 : Int) ≠ 0 by decide) q)
            refine go_a (pc' := 106) (ls' := [some (.ref (c + 0)), some (.int (iI x)), some (.int (iI (pi s 1 x))), some (.ref q3), some (.int (iI (fcl (s.I 27) m))), some (.ref a5)]) (st' := [.ref (c + 0)]) rfl rfl ?_
            refine go_get (v := .ref (c + 21)) rfl (K2.1 0 (by decide)) rfl rfl ?_
            refine go_a (pc' := 110) (ls' := [some (.ref (c + 0)), some (.int (iI x)), some (.int (iI (pi s 1 x))), some (.ref q3), some (.int (iI (fcl (s.I 27) m))), some (.ref a5)]) (st' := [.int (iI (pi s 1 x)), .ref (c + 21)]) rfl rfl ?_
            refine go_v (m := 216) (as := [.ref (c + 21), .int (iI (pi s 1 x))]) (r := []) rfl rfl rfl (K2.1 12 (by decide)) rfl rfl (kf_function z (d + 86) c (pi s 1 x) h2 s2 K2 B2 u NM (BKS_BF W2.2.2.2.2.1 (by omega) rfl) (by omega) nR.1 nR.2) (fun v h3 hq => ?_)
            obtain ⟨hq, e9⟩ := hq
            rw [e9]
            clear e9 h3
            rcases hq with ⟨rfl, fr⟩ | ⟨b, ib, mb, gb, nb, fb, cb, rfl, ⟨ib0, ib1, ib2, ib3⟩, FB9⟩
            · have fbn := FB_none hP o1 (fun i i0 i1 => fr i i0 (by omega))
              rw [dv0, nmE.2.1] at fbn
              have fbn := fb_no fbn
              show xx_go (xt_P z) (d + 90) 201 113 [some (.ref (c + 0)), some (.int (iI x)), some (.int (iI (pi s 1 x))), some (.ref q3), some (.int (iI (fcl (s.I 27) m))), some (.ref a5)] [.null] h2 _
              refine go_a (pc' := 118) (ls' := [some (.ref (c + 0)), some (.int (iI x)), some (.int (iI (pi s 1 x))), some (.ref q3), some (.int (iI (fcl (s.I 27) m))), some (.ref a5)]) (st' := []) rfl rfl ?_
              refine go_a (pc' := 119) (ls' := [some (.ref (c + 0)), some (.int (iI x)), some (.int (iI (pi s 1 x))), some (.ref q3), some (.int (iI (fcl (s.I 27) m))), some (.ref a5)]) (st' := [.ref (c + 0)]) rfl rfl ?_
              refine go_get (v := .ref (c + 21)) rfl (K2.1 0 (by decide)) rfl rfl ?_
              refine go_v (m := 46) (as := [.ref (c + 21)]) (r := []) rfl rfl rfl (K2.1 12 (by decide)) rfl rfl (kf_functions z (d + 88) c h2 s2 K2) (fun v h3 hq => ?_)
              obtain ⟨rfl, e9⟩ := hq
              rw [e9]
              clear e9 h3
              show xx_go (xt_P z) (d + 90) 201 125 [some (.ref (c + 0)), some (.int (iI x)), some (.int (iI (pi s 1 x))), some (.ref q3), some (.int (iI (fcl (s.I 27) m))), some (.ref a5)] [.int (iI (s2.I 27))] h2 _
              refine go_a (pc' := 127) (ls' := [some (.ref (c + 0)), some (.int (iI x)), some (.int (iI (pi s 1 x))), some (.ref q3), some (.int (iI (fcl (s.I 27) m))), some (.ref a5)]) (st' := [.int (iI 40), .int (iI (s2.I 27))]) rfl rfl ?_
              refine mi_lt (t := 133) rfl rfl (by omega) (by omega) (by omega) (by omega) (fun w1 => ?_) (fun w1 => ?_)
              · have nO2 := nO.2
                have l17 := BKS_18 hW.2.2.2.2.1 l24 n17 nO2 (fun i i0 i1 => fr i i0 (by omega))
                obtain rfl : u = s.I 8 := u4 l17
                refine go_a (pc' := 134) (ls' := [some (.ref (c + 0)), some (.int (iI x)), some (.int (iI (pi s 1 x))), some (.ref q3), some (.int (iI (fcl (s.I 27) m))), some (.ref a5)]) (st' := [.ref (c + 0)]) rfl rfl ?_
                have h12 := (ki_12 K2).2
                refine go_new (ci := 11) (fs := [.int 0, .int 0, .null, .null, .int 0]) rfl rfl rfl ?_
                show xx_go (xt_P z) (d + 90) 201 137 [some (.ref (c + 0)), some (.int (iI x)), some (.int (iI (pi s 1 x))), some (.ref q3), some (.int (iI (fcl (s.I 27) m))), some (.ref a5)] [.ref h2.length, .ref (c + 0)] (h2 ++ [.inr (11, [.int 0, .int 0, .null, .null, .int 0])]) _
                obtain ⟨Z1, -⟩ := ki_app (e := (.inr (11, [.int 0, .int 0, .null, .null, .int 0]) : xx_E)) K2
                refine go_a (pc' := 138) (ls' := [some (.ref (c + 0)), some (.int (iI x)), some (.int (iI (pi s 1 x))), some (.ref q3), some (.int (iI (fcl (s.I 27) m))), some (.ref a5)]) (st' := [.ref h2.length, .ref h2.length, .ref (c + 0)]) rfl rfl ?_
                refine go_a (pc' := 139) (ls' := [some (.ref (c + 0)), some (.int (iI x)), some (.int (iI (pi s 1 x))), some (.ref q3), some (.int (iI (fcl (s.I 27) m))), some (.ref a5)]) (st' := [.int (iI (pi s 1 x)), .ref h2.length, .ref h2.length, .ref (c + 0)]) rfl rfl ?_
                refine go_a (pc' := 141) (ls' := [some (.ref (c + 0)), some (.int (iI x)), some (.int (iI (pi s 1 x))), some (.ref q3), some (.int (iI (fcl (s.I 27) m))), some (.ref a5)]) (st' := [.int (iI (fcl (s.I 27) m)), .int (iI (pi s 1 x)), .ref h2.length, .ref h2.length, .ref (c + 0)]) rfl rfl ?_
                refine go_a (pc' := 142) (ls' := [some (.ref (c + 0)), some (.int (iI x)), some (.int (iI (pi s 1 x))), some (.ref q3), some (.int (iI (fcl (s.I 27) m))), some (.ref a5)]) (st' := [.ref q3, .int (iI (fcl (s.I 27) m)), .int (iI (pi s 1 x)), .ref h2.length, .ref h2.length, .ref (c + 0)]) rfl rfl ?_
                refine go_a (pc' := 144) (ls' := [some (.ref (c + 0)), some (.int (iI x)), some (.int (iI (pi s 1 x))), some (.ref q3), some (.int (iI (fcl (s.I 27) m))), some (.ref a5)]) (st' := [.ref a5, .ref q3, .int (iI (fcl (s.I 27) m)), .int (iI (pi s 1 x)), .ref h2.length, .ref h2.length, .ref (c + 0)]) rfl rfl ?_
                refine go_a (pc' := 145) (ls' := [some (.ref (c + 0)), some (.int (iI x)), some (.int (iI (pi s 1 x))), some (.ref q3), some (.int (iI (fcl (s.I 27) m))), some (.ref a5)]) (st' := [.ref (c + 0), .ref a5, .ref q3, .int (iI (fcl (s.I 27) m)), .int (iI (pi s 1 x)), .ref h2.length, .ref h2.length, .ref (c + 0)]) rfl rfl ?_
                refine go_get (v := .int (iI (s2.I 24))) rfl (Z1.1 0 (by decide)) rfl rfl ?_
                refine go_i (m := 233) (as := [.ref h2.length, .int (iI (pi s 1 x)), .int (iI (fcl (s.I 27) m)), .ref q3, .ref a5, .int (iI (s2.I 24))]) (r := [.ref h2.length, .ref (c + 0)]) rfl rfl rfl rfl rfl (kf_init z (d + 89) q3 a5 (pi s 1 x) (fcl (s.I 27) m) (s2.I 24) h2 h12) (fun v h3 hq => ?_)
                obtain ⟨rfl, e9⟩ := hq
                obtain ⟨K3, X3, N3⟩ := ki_app (e := (.inr (11, [.int (iI (pi s 1 x)), .int (iI (fcl (s.I 27) m)), .ref q3, .ref a5, .int (iI (s2.I 24))]) : xx_E)) K2
                have ca : (h2 ++ [(.inr (11, [.int (iI (pi s 1 x)), .int (iI (fcl (s.I 27) m)), .ref q3, .ref a5, .int (iI (s2.I 24))]) : xx_E)])[h2.length]? = some (.inr (11, [.int (iI (pi s 1 x)), .int (iI (fcl (s.I 27) m)), .ref q3, .ref a5, .int (iI (s2.I 24))])) := app_self
                rw [← e9] at K3 X3 ca
                have W3 := KWS_GF W2 K3 B2 C2 X3 GF_rf id
                obtain ⟨A3, kq3⟩ := KAL_kx A2 kq2 X3
                have T3 := TM_kx T2 X3
                have b24 := B2.2.1 24
                have TH : FTH c h3 s2 (s2.I 8) h2.length (s2.I 27) (pi s 1 x) m g n f (s2.I 24) := by
                  rw [i8, i27]
                  exact ⟨q3, a5, ca, N3, A3, kq3, T3, ⟨mR.1, m6⟩, ⟨n17, nO2⟩, ⟨by omega, by omega, by omega⟩, hg, hLw.1, b24, by omega⟩
                have ovt := (OV_tr STS.2 (HI1 fbn) TVs.1 (sp_nf (sp_p 3 (DK s.N x))).1).1 _ TR2
                have ov : (sp_ov ((sp_as (sp_p 2 (DK s.N x))).map sp_hc) (sp_nf (sp_p 3 (DK s.N x))).1).1 := by
                  refine ovt.mp (fun y hy h0 => ?_)
                  obtain ⟨i9, i90, i91, i92⟩ := rl_mem hy
                  rw [← i92] at h0 ⊢
                  obtain ⟨j9, j90, j91, j92⟩ := hb i9 i90 i91 h0
                  rw [← j92]
                  exact rl_mem2 j90 j91
                have edf := sp_def_1 dvn (tmB (.num 0) fbn) ⟨mn, vs, ov, (lwt fbn).mp hLw, fbn, by omega⟩
                have N2 : s2.N = s.N := F2.1
                show xx_go (xt_P z) (d + 90) 201 151 [some (.ref (c + 0)), some (.int (iI x)), some (.int (iI (pi s 1 x))), some (.ref q3), some (.int (iI (fcl (s.I 27) m))), some (.ref a5)] [.ref h2.length, .ref (c + 0)] h3 _
                refine go_v (m := 234) (as := [.ref (c + 0), .ref h2.length]) (r := []) rfl rfl rfl (K3.1 0 (by decide)) rfl rfl (kk_takeF z (d + 83) c h2.length h3 s2 NM t k W3 lk (pi s 1 x) m g n f TH (fun i i0 i1 => fr i i0 i1) (by omega) vn _ (sp_nf (sp_p 3 (DK s.N x))).1 (by rw [N2]; exact dv0) (by rw [N2, i8]; exact TVs.1) (by rw [N2, i8]; show TRT _ _ (sp_ft (sp_FB t ++ [_])) _ _; rw [← ftE _ fbn]; exact TR2)) (fun v h4 hq => ?_)
                obtain ⟨rfl, s5, NM5, W5, F5, X6, e24, e225, e235⟩ := hq
                show xx_go (xt_P z) (d + 90) 201 154 [some (.ref (c + 0)), some (.int (iI x)), some (.int (iI (pi s 1 x))), some (.ref q3), some (.int (iI (fcl (s.I 27) m))), some (.ref a5)] [] h4 _
                refine go_a (pc' := 155) (ls' := [some (.ref (c + 0)), some (.int (iI x)), some (.int (iI (pi s 1 x))), some (.ref q3), some (.int (iI (fcl (s.I 27) m))), some (.ref a5)]) (st' := [.int (iI 0)]) rfl rfl ?_
                exact go_r rfl rfl rfl rfl rfl rfl ⟨0, s5, NM5, _, rfl, by rw [edf, e225, e235, (TF_I F2).1, (TF_I F2).2, e22], W5, CFR_tr (GF_C G2) F5, kx_w (kx_tr (kx_tr X9 X3) X6) (by omega) (show (6 : Int) + (n + 1) + ((5 : Nat) : Int) + 2 ≤ _ by omega), by omega⟩
              · have nk : ¬ sp_dk t (DK s.N x) := by
                  intro w
                  have := (dk w).2.2.2
                  omega
                refine go_a (pc' := 132) (ls' := [some (.ref (c + 0)), some (.int (iI x)), some (.int (iI (pi s 1 x))), some (.ref q3), some (.int (iI (fcl (s.I 27) m))), some (.ref a5)]) (st' := [.int (iI 8)]) rfl rfl ?_
                exact go_r rfl rfl rfl rfl rfl rfl (KCM_0 (x := 8) hW K2 B2 C2 X9 G2 (TF_Q F2) (by rw [sp_def_0 nk, (TF_I F2).1, (TF_I F2).2, e22]) rfl (by omega) (by omega) (by omega))
            · have nk : ¬ sp_dk t (DK s.N x) := by
                intro w
                have w7 := (dk w).1
                obtain ⟨_, _, -, -, -, -, -, d6, d7, -⟩ := FB9
                obtain ⟨v9, ps9, B9, fb9, -⟩ := FB_some hP ib0 (by omega) ib2 ib3 d6 d7.1
                rw [dv0, nmE.2.1] at fb9
                exact fb_yes fb9 w7
              show xx_go (xt_P z) (d + 90) 201 113 [some (.ref (c + 0)), some (.int (iI x)), some (.int (iI (pi s 1 x))), some (.ref q3), some (.int (iI (fcl (s.I 27) m))), some (.ref a5)] [.ref b] h2 _
              refine go_a (pc' := 116) (ls' := [some (.ref (c + 0)), some (.int (iI x)), some (.int (iI (pi s 1 x))), some (.ref q3), some (.int (iI (fcl (s.I 27) m))), some (.ref a5)]) (st' := []) rfl rfl ?_
              refine go_a (pc' := 117) (ls' := [some (.ref (c + 0)), some (.int (iI x)), some (.int (iI (pi s 1 x))), some (.ref q3), some (.int (iI (fcl (s.I 27) m))), some (.ref a5)]) (st' := [.int (iI 3)]) rfl rfl ?_
              exact go_r rfl rfl rfl rfl rfl rfl (KCM_0 (x := 3) hW K2 B2 C2 X9 G2 (TF_Q F2) (by rw [sp_def_0 nk, (TF_I F2).1, (TF_I F2).2, e22]) rfl (by omega) (by omega) (by omega))
          · have nk : ¬ sp_dk t (DK s.N x) := fun w => nLw ((lwt (dk w).1).mpr (dk w).2.2.1)
            show xx_go (xt_P z) (d + 90) 201 100 [some (.ref (c + 0)), some (.int (iI x)), some (.int (iI (pi s 1 x))), some (.ref q3), some (.int (iI (fcl (s.I 27) m))), some (.ref a5)] [.int (iI 0)] h2 _
            refine mi_ne0 (t := 105) rfl rfl (by omega) (by omega) (fun q => absurd rfl q) (fun _ => no nk)
        · have nk : ¬ sp_dk t (DK s.N x) := by
            intro w
            have w5 := ((OV_tr STS.2 (HI1 (dk w).1) TVs.1 (sp_nf (sp_p 3 (DK s.N x))).1).1 _ TR2).mpr (dk w).2.1
            obtain ⟨i9, i90, i91, i92, i93⟩ := hb
            obtain ⟨j9, j90, j91, j92⟩ := rl_mem (w5 _ (rl_mem2 i90 i91) i92)
            exact i93 j9 j90 j91 j92
          show xx_go (xt_P z) (d + 90) 201 90 [some (.ref (c + 0)), some (.int (iI x)), some (.int (iI (pi s 1 x))), some (.ref q3), some (.int (iI (fcl (s.I 27) m))), some (.ref a5)] [.int (iI 0)] h2 _
          refine mi_eq0 (t := 103) rfl rfl (by omega) (by omega) (fun _ => no nk) (fun q => absurd rfl q)
    · have nk : ¬ sp_dk t (DK s.N x) := by
        rintro ⟨v, B, w1, -, w3, -⟩
        have q := mnt.mpr ⟨v, w1, w3⟩
        exact nmn ⟨o1, q.1, q.2⟩
      show xx_go (xt_P z) (d + 90) 201 32 [some (.ref (c + 0)), some (.int (iI x)), some (.int (iI (pi s 1 x))), some (.ref q3), none, none] [.int (iI 0)] h1 _
      refine mi_eq0 (t := 39) rfl rfl (by omega) (by omega) (fun _ => ?_) (fun q => absurd rfl q)
      refine go_a (pc' := 40) (ls' := [some (.ref (c + 0)), some (.int (iI x)), some (.int (iI (pi s 1 x))), some (.ref q3), none, none]) (st' := [.int (iI 2)]) rfl rfl ?_
      exact go_r rfl rfl rfl rfl rfl rfl (KCM_0 (x := 2) hW K1 hB hC X1 GF_rf id (by rw [sp_def_0 nk, e22]) rfl (by omega) (by omega) (by omega))
