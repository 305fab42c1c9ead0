section EI
variable {c : Nat} {hp h1 h2 : xx_H} {s s1 : KS} {w : Int} {v : Option Value} {ft : Nat → Int} {ρ ρ1 : Option (List ob_T × Int)} {σ σ1 : Int}
theorem PRP_tr (S : KST c hp s h1 s1 0 0 0) (eρ : ρ1 = ρ) (eσ : σ1 = σ) (h : PRP c h1 s1 w ft ρ σ v h2) : PRP c hp s w ft ρ1 σ1 v h2 := by
  rw [eρ, eσ]
  obtain ⟨s2, ⟨e, r, g, T⟩ | ⟨y, Z, D, e, hy, C, R, T⟩⟩ := h
  · exact ⟨s2, Or.inl ⟨e, r, g, KST_w (KST_tr S T) (by omega) (by omega) (by omega)⟩⟩
  · exact ⟨s2, Or.inr ⟨y, Z, D, e, Nat.le_trans (KST_len S) hy, C, R, KST_w (KST_tr S T) (by omega) (by omega) (by omega)⟩⟩
theorem PRP_v (h : PRP c hp s w ft ρ σ v h1) : v = some .null ∨ ∃ y : Nat, v = some (.ref y) := by
  obtain ⟨s2, ⟨e, -⟩ | ⟨y, Z, D, e, -⟩⟩ := h
  · exact Or.inl e
  · exact Or.inr ⟨y, e⟩
end EI
theorem ifc_and {α : Type} {A B : Prop} {X Y : α} (ha : A) : ifc (A ∧ B) X Y = ifc B X Y := by
  by_cases hb : B
  · rw [ifc_pos ⟨ha, hb⟩, ifc_pos hb]
  · rw [ifc_neg (fun w => hb w.2), ifc_neg hb]
theorem kq_step (z : Value) (d c : Nat) (e : Int) (NM : BKM) (fu : Int) (D : Nat) (e0 : e = 40 - (D : Int)) (e1 : D ≤ 40) (R : ∀ D1 : Nat, D = D1 + 1 → PRC z (d + 8) c (e + 1) NM fu (sp_pr NM.2.2.1 NM.2.2.2.1 NM.2.2.2.2 fu D1) (sp_sn NM.2.2.1 NM.2.2.2.1 NM.2.2.2.2 fu D1)) : PRC z (d + 10) c e NM fu (sp_pr NM.2.2.1 NM.2.2.2.1 NM.2.2.2.2 fu D) (sp_sn NM.2.2.1 NM.2.2.2.1 NM.2.2.2.2 fu D) := by
  intro hp s o hP hf ho w9 l25
  have S0 := KST_rf hP
  have w1 := WD_1 (I := UI s) hP.2.2.1.1 ho.1 ho.2
  have oR := OB_R hP.2.1 ho
  have b17 := hP.2.1.2.1 17
  have b16 := hP.2.1.2.1 16
  have hX := kx_rf (c := c) (hp := hp) (s := s)
  refine cl_go rfl ?_
  show xx_go (xt_P z) (d + 9) 245 0 [some (.ref (c + 30)), some (.int (iI o)), some (.int (iI e)), none, none] [] hp _
  refine go_a (pc' := 1) (ls' := [some (.ref (c + 30)), some (.int (iI o)), some (.int (iI e)), none, none]) (st' := [.int (iI e)]) rfl rfl ?_
  refine go_a (pc' := 3) (ls' := [some (.ref (c + 30)), some (.int (iI o)), some (.int (iI e)), none, none]) (st' := [.int (iI 40), .int (iI e)]) rfl rfl ?_
  refine mi_lt (t := 12) rfl rfl (by omega) (by omega) (by omega) (by omega) (fun c1 => ?_) (fun c1 => ?_)
  · refine go_a (pc' := 13) (ls' := [some (.ref (c + 30)), some (.int (iI o)), some (.int (iI e)), none, none]) (st' := [.ref (c + 30)]) rfl rfl ?_
    refine go_get (v := .int (iI (s.I 17))) rfl (hP.1.1 19 (by decide)) rfl rfl ?_
    refine go_a (pc' := 17) (ls' := [some (.ref (c + 30)), some (.int (iI o)), some (.int (iI e)), none, none]) (st' := [.ref (c + 30), .int (iI (s.I 17))]) rfl rfl ?_
    refine go_get (v := .int (iI (s.I 16))) rfl (hP.1.1 19 (by decide)) rfl rfl ?_
    refine mi_lt (t := 29) rfl rfl (by omega) (by omega) (by omega) (by omega) (fun c2 => ?_) (fun c2 => ?_)
    · refine go_a (pc' := 30) (ls' := [some (.ref (c + 30)), some (.int (iI o)), some (.int (iI e)), none, none]) (st' := [.ref (c + 30)]) rfl rfl ?_
      refine go_a (pc' := 31) (ls' := [some (.ref (c + 30)), some (.int (iI o)), some (.int (iI e)), none, none]) (st' := [.ref (c + 30), .ref (c + 30)]) rfl rfl ?_
      refine go_get (v := .int (iI (s.I 17))) rfl (hP.1.1 19 (by decide)) rfl rfl ?_
      refine go_a (pc' := 35) (ls' := [some (.ref (c + 30)), some (.int (iI o)), some (.int (iI e)), none, none]) (st' := [.int (iI 1), .int (iI (s.I 17)), .ref (c + 30)]) rfl rfl ?_
      refine mi_add rfl ?_
      refine kput_17 (x := (s.I 17) + 1) hP.1 hX rfl rfl (fun h1 hK hX => ?_)
      refine go_a (pc' := 40) (ls' := [some (.ref (c + 30)), some (.int (iI o)), some (.int (iI e)), none, none]) (st' := [.ref (c + 30)]) rfl rfl ?_
      refine go_get (v := .ref (c + 4)) rfl (hK.1 19 (by decide)) rfl rfl ?_
      refine go_a (pc' := 44) (ls' := [some (.ref (c + 30)), some (.int (iI o)), some (.int (iI e)), none, none]) (st' := [.int (iI o), .ref (c + 4)]) rfl rfl ?_
      have S1 : KST c hp s h1 (s.wI 17 (s.I 17 + 1)) 0 0 0 := KST_wI S0 (by decide) hK hX (by omega) (by omega)
      have hP1 := KST_PS hP S1 (by omega)
      obtain ⟨s1, es⟩ : ∃ q : KS, q = (s.wI 17 (s.I 17 + 1)) := ⟨_, rfl⟩
      have eD : SD s1 = SD s := by rw [es]; rfl
      have eI : s1.I 8 = s.I 8 := by rw [es]; rfl
      have eN : s1.N = s.N := by rw [es]; rfl
      have e17 : s1.I 17 = s.I 17 + 1 := by rw [es]; rfl
      have e16 : s1.I 16 = fu := by rw [es]; exact hf
      rw [← es] at S1 hP1 hK hX
      have ho1 : OB s1 o := ⟨ho.1, by rw [eI]; exact ho.2⟩
      have T0 := KST_rf hP1
      have L9 : s1.I 8 + WD (SD s1) o ≤ 25000 := by rw [eI, eD]; exact l25
      have W9 : WD (SD s1) o ≤ 1000 := by rw [eD]; exact w9
      have eW : WD (SD s1) o = WD (SD s) o := by rw [eD]
      obtain ⟨D1, rfl⟩ : ∃ D1 : Nat, D = D1 + 1 := ⟨D - 1, by omega⟩
      have R1 := R D1 rfl
      have nfu : ¬ fu ≤ s.I 17 := by omega
      show xx_go (xt_P z) (d + 9) 245 44 [some (.ref (c + 30)), some (.int (iI o)), some (.int (iI e)), none, none] [.int (iI o), .ref (c + 4)] h1 _
      refine go_v (m := 198) (as := [.ref (c + 4), .int (iI o)]) (r := []) rfl rfl rfl (hK.1 3 (by decide)) rfl rfl (kq_len z (d + 7) hP1 T0 ho1) (fun v h3 hq => ?_)
      obtain ⟨⟨l, rfl, lR, hl⟩, e9⟩ := hq
      rw [e9]
      clear e9 h3
      rw [eN] at hl
      show xx_go (xt_P z) (d + 9) 245 47 [some (.ref (c + 30)), some (.int (iI o)), some (.int (iI e)), none, none] [.int (iI l)] h1 _
      refine go_a (pc' := 48) (ls' := [some (.ref (c + 30)), some (.int (iI o)), some (.int (iI e)), some (.int (iI l)), none]) (st' := []) rfl rfl ?_
      refine go_a (pc' := 49) (ls' := [some (.ref (c + 30)), some (.int (iI o)), some (.int (iI e)), some (.int (iI l)), none]) (st' := [.int (iI l)]) rfl rfl ?_
      have no : ∀ r : Int, (sp_pr NM.2.2.1 NM.2.2.2.1 NM.2.2.2.2 fu (D1 + 1) (DK s.N o) (s.I 17) = none ∧ sp_sn NM.2.2.1 NM.2.2.2.1 NM.2.2.2.2 fu (D1 + 1) (DK s.N o) (s.I 17) = s.I 17 + 1) → xx_go (xt_P z) (d + 9) 245 89 [some (.ref (c + 30)), some (.int (iI o)), some (.int (iI e)), some (.int (iI l)), some (.int (iI r))] [] h1 (fun v h1 => PRP c hp s (WD (SD s) o) NM.2.2.1 (sp_pr NM.2.2.1 NM.2.2.2.1 NM.2.2.2.2 fu (D1 + 1) (DK s.N o) (s.I 17)) (sp_sn NM.2.2.1 NM.2.2.2.1 NM.2.2.2.2 fu (D1 + 1) (DK s.N o) (s.I 17)) v h1) := by
        intro r NO
        refine go_a (pc' := 90) (ls' := [some (.ref (c + 30)), some (.int (iI o)), some (.int (iI e)), some (.int (iI l)), some (.int (iI r))]) (st' := [.ref (c + 30)]) rfl rfl ?_
        refine go_a (pc' := 91) (ls' := [some (.ref (c + 30)), some (.int (iI o)), some (.int (iI e)), some (.int (iI l)), some (.int (iI r))]) (st' := [.int (iI o), .ref (c + 30)]) rfl rfl ?_
        refine go_v (m := 248) (as := [.ref (c + 30), .int (iI o)]) (r := []) rfl rfl rfl (hK.1 19 (by decide)) rfl rfl (kq_failAtP z (d + 8) (w := WD (SD s) o) T0 (by omega) (by omega) (by omega) (by omega) (by omega) (ft := NM.2.2.1) NO.1 (e17.trans NO.2.symm)) (fun v h3 hq => ?_)
        obtain ⟨rfl, RR⟩ := hq
        show xx_go (xt_P z) (d + 9) 245 94 [some (.ref (c + 30)), some (.int (iI o)), some (.int (iI e)), some (.int (iI l)), some (.int (iI r))] [.null] h3 _
        exact go_r rfl rfl rfl rfl rfl rfl (PRP_tr S1 rfl rfl RR)
      refine mi_le0 (t := 63) rfl rfl (by omega) (by omega) (fun c3 => ?_) (fun c3 => ?_)
      · have NO : sp_pr NM.2.2.1 NM.2.2.2.1 NM.2.2.2.2 fu (D1 + 1) (DK s.N o) (s.I 17) = none ∧ sp_sn NM.2.2.1 NM.2.2.2.1 NM.2.2.2.2 fu (D1 + 1) (DK s.N o) (s.I 17) = s.I 17 + 1 := by
          rcases hl with ⟨-, w⟩ | ⟨q, w, L⟩
          · exact pr_pl nfu w
          · have q0 : q = 0 := by omega
            subst q0
            have al := AS_len hP1 ho1 L
            rw [eN] at al
            refine pr_no nfu al.1 (r := 31361) ?_ (fun f => ru_nil)
            show sp_hc ((sp_as (DK s.N o)).getD 0 _) = _
            rw [List.length_eq_zero_iff.mp al.2]
            rfl
        refine go_a (pc' := 64) (ls' := [some (.ref (c + 30)), some (.int (iI o)), some (.int (iI e)), some (.int (iI l)), none]) (st' := [.int (iI 0)]) rfl rfl ?_
        refine go_a (pc' := 66) (ls' := [some (.ref (c + 30)), some (.int (iI o)), some (.int (iI e)), some (.int (iI l)), some (.int (iI 0))]) (st' := []) rfl rfl ?_
        refine go_a (pc' := 68) (ls' := [some (.ref (c + 30)), some (.int (iI o)), some (.int (iI e)), some (.int (iI l)), some (.int (iI 0))]) (st' := [.int (iI 0)]) rfl rfl ?_
        refine go_a (pc' := 70) (ls' := [some (.ref (c + 30)), some (.int (iI o)), some (.int (iI e)), some (.int (iI l)), some (.int (iI 0))]) (st' := [.int (iI 22), .int (iI 0)]) rfl rfl ?_
        refine mi_lt (t := 89) rfl rfl (by omega) (by omega) (by omega) (by omega) (fun _ => no 0 NO) (fun q => absurd (show (0 : Int) < 22 by decide) q)
      · obtain ⟨q, en, hL⟩ := hl.resolve_left (by omega)
        clear hl
        have al := AS_len hP1 ho1 hL
        rw [eN] at al
        have d0 := PI_D hP1 ho1 hL (j := 0) (by omega)
        rw [eN] at d0
        have p0 := PI_w hP1.2.2.1 ho1 hL (j := 0) (by omega)
        refine go_a (pc' := 53) (ls' := [some (.ref (c + 30)), some (.int (iI o)), some (.int (iI e)), some (.int (iI l)), none]) (st' := [.ref (c + 30)]) rfl rfl ?_
        refine go_get (v := .ref (c + 4)) rfl (hK.1 19 (by decide)) rfl rfl ?_
        refine go_a (pc' := 57) (ls' := [some (.ref (c + 30)), some (.int (iI o)), some (.int (iI e)), some (.int (iI l)), none]) (st' := [.int (iI o), .ref (c + 4)]) rfl rfl ?_
        refine go_v (m := 197) (as := [.ref (c + 4), .int (iI o)]) (r := []) rfl rfl rfl (hK.1 3 (by decide)) rfl rfl (kq_first z (d + 8) T0 hP1.2.2.1 ho1 hL (j := 0) (by omega)) (fun v h3 hq => ?_)
        obtain ⟨rfl, e9⟩ := hq
        rw [e9]
        clear e9 h3
        have rR := OB_R hP1.2.1 p0.2.1
        have op := p0.2.1
        obtain ⟨r, er⟩ : ∃ r : Int, r = pi s1 0 o := ⟨_, rfl⟩
        rw [← er] at rR d0 op
        rw [← er]
        have nor : ¬ (22 ≤ r ∧ r ≤ 37) → (sp_pr NM.2.2.1 NM.2.2.2.1 NM.2.2.2.2 fu (D1 + 1) (DK s.N o) (s.I 17) = none ∧ sp_sn NM.2.2.1 NM.2.2.2.1 NM.2.2.2.2 fu (D1 + 1) (DK s.N o) (s.I 17) = s.I 17 + 1) := by
          intro nr
          have hc := HC_no hP1.2.2.2.2.2.2.2.2 hP1.2.2.1 hP1.2.1 op (fun i i1 i0 w => nr (by omega))
          rw [eN, d0] at hc
          exact pr_no nfu al.1 rfl (fun f => ru_no hc)
        show xx_go (xt_P z) (d + 9) 245 60 [some (.ref (c + 30)), some (.int (iI o)), some (.int (iI e)), some (.int (iI l)), none] [.int (iI r)] h1 _
        refine go_a (pc' := 64) (ls' := [some (.ref (c + 30)), some (.int (iI o)), some (.int (iI e)), some (.int (iI l)), none]) (st' := [.int (iI r)]) rfl rfl ?_
        refine go_a (pc' := 66) (ls' := [some (.ref (c + 30)), some (.int (iI o)), some (.int (iI e)), some (.int (iI l)), some (.int (iI r))]) (st' := []) rfl rfl ?_
        refine go_a (pc' := 68) (ls' := [some (.ref (c + 30)), some (.int (iI o)), some (.int (iI e)), some (.int (iI l)), some (.int (iI r))]) (st' := [.int (iI r)]) rfl rfl ?_
        refine go_a (pc' := 70) (ls' := [some (.ref (c + 30)), some (.int (iI o)), some (.int (iI e)), some (.int (iI l)), some (.int (iI r))]) (st' := [.int (iI 22), .int (iI r)]) rfl rfl ?_
        refine mi_lt (t := 89) rfl rfl (by omega) (by omega) (by omega) (by omega) (fun w => no r (nor (by omega))) (fun c4 => ?_)
        refine go_a (pc' := 75) (ls' := [some (.ref (c + 30)), some (.int (iI o)), some (.int (iI e)), some (.int (iI l)), some (.int (iI r))]) (st' := [.int (iI r)]) rfl rfl ?_
        refine go_a (pc' := 77) (ls' := [some (.ref (c + 30)), some (.int (iI o)), some (.int (iI e)), some (.int (iI l)), some (.int (iI r))]) (st' := [.int (iI 37), .int (iI r)]) rfl rfl ?_
        refine mi_gt (t := 89) rfl rfl (by omega) (by omega) (by omega) (by omega) (fun w => no r (nor (by omega))) (fun c5 => ?_)
        refine go_a (pc' := 82) (ls' := [some (.ref (c + 30)), some (.int (iI o)), some (.int (iI e)), some (.int (iI l)), some (.int (iI r))]) (st' := [.int (iI r)]) rfl rfl ?_
        refine go_a (pc' := 83) (ls' := [some (.ref (c + 30)), some (.int (iI o)), some (.int (iI e)), some (.int (iI l)), some (.int (iI r))]) (st' := [.int (iI l), .int (iI r)]) rfl rfl ?_
        have hc9 : sp_hc (sp_p 0 (DK s.N o)) = cNm.getD r.toNat 0 := by
          have h := HC_yes hP1.2.2.2.2.2.2.2.2 (i := r.toNat) (by omega)
          rw [show ((r.toNat : Nat) : Int) = r by omega, eN, d0] at h
          exact h
        have hr : r = 22 ∨ r = 23 ∨ r = 24 ∨ r = 25 ∨ r = 26 ∨ r = 27 ∨ r = 28 ∨ r = 29 ∨ r = 30 ∨ r = 31 ∨ r = 32 ∨ r = 33 ∨ r = 34 ∨ r = 35 ∨ r = 36 ∨ r = 37 := by omega
        have nol : ¬ LOF r l → (sp_pr NM.2.2.1 NM.2.2.2.1 NM.2.2.2.2 fu (D1 + 1) (DK s.N o) (s.I 17) = none ∧ sp_sn NM.2.2.1 NM.2.2.2.1 NM.2.2.2.2 fu (D1 + 1) (DK s.N o) (s.I 17) = s.I 17 + 1) := by
          intro nl
          unfold LOF at nl
          refine pr_no nfu al.1 hc9 (fun f => ?_)
          rcases hr with rfl | rfl | rfl | rfl | rfl | rfl | rfl | rfl | rfl | rfl | rfl | rfl | rfl | rfl | rfl | rfl
          · show sp_ru _ _ _ _ 2079676 _ _ = none ∧ sp_ins _ _ 2079676 _ = []
            rw [ru_22, in_22, if_neg (by omega)]
            exact ⟨rfl, rfl⟩
          · show sp_ru _ _ _ _ 1975462 _ _ = none ∧ sp_ins _ _ 1975462 _ = []
            rw [ru_23, in_23, if_neg (by omega)]
            exact ⟨rfl, rfl⟩
          · show sp_ru _ _ _ _ 107484305 _ _ = none ∧ sp_ins _ _ 107484305 _ = []
            rw [ru_24, in_24, if_neg (by omega)]
            exact ⟨rfl, rfl⟩
          · show sp_ru _ _ _ _ 30253168 _ _ = none ∧ sp_ins _ _ 30253168 _ = []
            rw [ru_25, in_25, if_neg (by omega)]
            exact ⟨rfl, rfl⟩
          · show sp_ru _ _ _ _ 4382298804 _ _ = none ∧ sp_ins _ _ 4382298804 _ = []
            rw [ru_26, in_26, if_neg (by omega)]
            exact ⟨rfl, rfl⟩
          · show sp_ru _ _ _ _ 1663818 _ _ = none ∧ sp_ins _ _ 1663818 _ = []
            rw [ru_27, in_27, if_neg (by omega)]
            exact ⟨rfl, rfl⟩
          · show sp_ru _ _ _ _ 55479 _ _ = none ∧ sp_ins _ _ 55479 _ = []
            rw [ru_28, in_28, if_neg (by omega)]
            exact ⟨rfl, rfl⟩
          · show sp_ru _ _ _ _ 673 _ _ = none ∧ sp_ins _ _ 673 _ = []
            rw [ru_29, in_29, if_neg (by omega)]
            exact ⟨rfl, rfl⟩
          · show sp_ru _ _ _ _ 9077 _ _ = none ∧ sp_ins _ _ 9077 _ = []
            rw [ru_30, in_30, if_neg (by omega)]
            exact ⟨rfl, rfl⟩
          · show sp_ru _ _ _ _ 44569 _ _ = none ∧ sp_ins _ _ 44569 _ = []
            rw [ru_31, in_31, if_neg (by omega)]
            exact ⟨rfl, rfl⟩
          · show sp_ru _ _ _ _ 2399032 _ _ = none ∧ sp_ins _ _ 2399032 _ = []
            rw [ru_32, in_32, if_neg (by omega), ifc_neg (fun w => absurd w.1 (by omega))]
            exact ⟨rfl, rfl⟩
          · show sp_ru _ _ _ _ 7634 _ _ = none ∧ sp_ins _ _ 7634 _ = []
            rw [ru_33, in_33, if_neg (by omega), ifc_neg (fun w => absurd w.1 (by omega))]
            exact ⟨rfl, rfl⟩
          · show sp_ru _ _ _ _ 966246 _ _ = none ∧ sp_ins _ _ 966246 _ = []
            rw [ru_34, in_34, if_neg (by omega), ifc_neg (fun w => absurd w.1 (by omega))]
            exact ⟨rfl, rfl⟩
          · show sp_ru _ _ _ _ 2023507 _ _ = none ∧ sp_ins _ _ 2023507 _ = []
            rw [ru_35, in_35, if_neg (by omega), ifc_neg (fun w => absurd w (by omega))]
            exact ⟨rfl, rfl⟩
          · show sp_ru _ _ _ _ 36351 _ _ = none ∧ sp_ins _ _ 36351 _ = []
            rw [ru_36, in_36, if_neg (by omega), ifc_neg (fun w => absurd w (by omega))]
            exact ⟨rfl, rfl⟩
          · show sp_ru _ _ _ _ 2132882439 _ _ = none ∧ sp_ins _ _ 2132882439 _ = []
            rw [ru_37, in_37, if_neg (by omega), ifc_neg (fun w => absurd w.1 (by omega))]
            exact ⟨rfl, rfl⟩
        refine go_s (m := 247) (as := [.int (iI r), .int (iI l)]) (r := []) rfl rfl rfl rfl (kq_isLengthOf z (d + 8) r l h1 (by omega) (by omega) (by omega) (by omega)) (fun v h3 hq => ?_)
        obtain ⟨hq, e9⟩ := hq
        rw [e9]
        clear e9 h3
        rcases hq with ⟨rfl, lo⟩ | ⟨rfl, nlo⟩
        · show xx_go (xt_P z) (d + 9) 245 86 [some (.ref (c + 30)), some (.int (iI o)), some (.int (iI e)), some (.int (iI l)), some (.int (iI r))] [.int (iI 1)] h1 _
          refine mi_ne0 (t := 95) rfl rfl (by omega) (by omega) (fun _ => ?_) (fun q => absurd (show (1 : Int) ≠ 0 by decide) q)
          refine go_a (pc' := 97) (ls' := [some (.ref (c + 30)), some (.int (iI o)), some (.int (iI e)), some (.int (iI l)), some (.int (iI r))]) (st' := [.int (iI r)]) rfl rfl ?_
          have r2 : pi s1 0 o ≠ 2 := by omega
          unfold LOF at lo
          obtain ⟨lo1, lo2, lo3, lo4, lo5⟩ := lo
          clear nol nor no
          have ps := pr_s (ft := NM.2.2.1) (FB := NM.2.2.2.1) (TB := NM.2.2.2.2) (D := D1) nfu al.1 hc9
          rcases hr with hr | hr | hr | hr | hr | hr | hr | hr | hr | hr | hr | hr | hr | hr | hr | hr
          · rw [hr]
            refine go_a (pc' := 234) (ls' := [some (.ref (c + 30)), some (.int (iI o)), some (.int (iI e)), some (.int (iI l)), some (.int (iI 22))]) (st' := []) rfl rfl ?_
            rw [hr] at ps
            replace ps : sp_pr NM.2.2.1 NM.2.2.2.1 NM.2.2.2.2 fu (D1 + 1) (DK s.N o) (s.I 17) = sp_ru NM.2.2.1 NM.2.2.2.1 NM.2.2.2.2 (sp_pr NM.2.2.1 NM.2.2.2.1 NM.2.2.2.2 fu D1) 2079676 (DK s.N o) (s.I 17 + 1) ∧ sp_sn NM.2.2.1 NM.2.2.2.1 NM.2.2.2.2 fu (D1 + 1) (DK s.N o) (s.I 17) = sp_sg (sp_pr NM.2.2.1 NM.2.2.2.1 NM.2.2.2.2 fu D1) (sp_sn NM.2.2.1 NM.2.2.2.1 NM.2.2.2.2 fu D1) (sp_ins NM.2.2.1 NM.2.2.2.1 2079676 (DK s.N o)) (s.I 17 + 1) := ps
            have ll : (sp_as (DK s.N o)).length = 2 := by omega
            rw [ru_22, in_22, if_pos ll] at ps
            refine go_a (pc' := 235) (ls' := [some (.ref (c + 30)), some (.int (iI o)), some (.int (iI e)), some (.int (iI l)), some (.int (iI 22))]) (st' := [.ref (c + 30)]) rfl rfl ?_
            refine go_a (pc' := 236) (ls' := [some (.ref (c + 30)), some (.int (iI o)), some (.int (iI e)), some (.int (iI l)), some (.int (iI 22))]) (st' := [.int (iI o), .ref (c + 30)]) rfl rfl ?_
            refine go_a (pc' := 238) (ls' := [some (.ref (c + 30)), some (.int (iI o)), some (.int (iI e)), some (.int (iI l)), some (.int (iI 22))]) (st' := [.int (iI 22), .int (iI o), .ref (c + 30)]) rfl rfl ?_
            refine go_a (pc' := 239) (ls' := [some (.ref (c + 30)), some (.int (iI o)), some (.int (iI e)), some (.int (iI l)), some (.int (iI 22))]) (st' := [.int (iI l), .int (iI 22), .int (iI o), .ref (c + 30)]) rfl rfl ?_
            refine go_a (pc' := 240) (ls' := [some (.ref (c + 30)), some (.int (iI o)), some (.int (iI e)), some (.int (iI l)), some (.int (iI 22))]) (st' := [.int (iI 1), .int (iI l), .int (iI 22), .int (iI o), .ref (c + 30)]) rfl rfl ?_
            refine mi_sub rfl ?_
            rw [show l - 1 = 1 by omega]
            refine go_v (m := 293) (as := [.ref (c + 30), .int (iI o), .int (iI 22), .int (iI 1)]) (r := []) rfl rfl rfl (hK.1 19 (by decide)) rfl rfl (kq_axiom_22 z d c o q h1 s1 NM hP1 ho1 hL r2 W9 L9 (by omega)) (fun v h3 hq => ?_)
            rw [eW, eN, e17] at hq
            have hq := PRP_tr S1 (ps.1.trans rfl) (ps.2.trans rfl) hq
            rcases PRP_v hq with rfl | ⟨y, rfl⟩
            · exact go_r rfl rfl rfl rfl rfl rfl hq
            · exact go_r rfl rfl rfl rfl rfl rfl hq
          · rw [hr]
            refine go_a (pc' := 234) (ls' := [some (.ref (c + 30)), some (.int (iI o)), some (.int (iI e)), some (.int (iI l)), some (.int (iI 23))]) (st' := []) rfl rfl ?_
            rw [hr] at ps
            replace ps : sp_pr NM.2.2.1 NM.2.2.2.1 NM.2.2.2.2 fu (D1 + 1) (DK s.N o) (s.I 17) = sp_ru NM.2.2.1 NM.2.2.2.1 NM.2.2.2.2 (sp_pr NM.2.2.1 NM.2.2.2.1 NM.2.2.2.2 fu D1) 1975462 (DK s.N o) (s.I 17 + 1) ∧ sp_sn NM.2.2.1 NM.2.2.2.1 NM.2.2.2.2 fu (D1 + 1) (DK s.N o) (s.I 17) = sp_sg (sp_pr NM.2.2.1 NM.2.2.2.1 NM.2.2.2.2 fu D1) (sp_sn NM.2.2.1 NM.2.2.2.1 NM.2.2.2.2 fu D1) (sp_ins NM.2.2.1 NM.2.2.2.1 1975462 (DK s.N o)) (s.I 17 + 1) := ps
            have ll : (sp_as (DK s.N o)).length = 2 := by omega
            rw [ru_23, in_23, if_pos ll] at ps
            refine go_a (pc' := 235) (ls' := [some (.ref (c + 30)), some (.int (iI o)), some (.int (iI e)), some (.int (iI l)), some (.int (iI 23))]) (st' := [.ref (c + 30)]) rfl rfl ?_
            refine go_a (pc' := 236) (ls' := [some (.ref (c + 30)), some (.int (iI o)), some (.int (iI e)), some (.int (iI l)), some (.int (iI 23))]) (st' := [.int (iI o), .ref (c + 30)]) rfl rfl ?_
            refine go_a (pc' := 238) (ls' := [some (.ref (c + 30)), some (.int (iI o)), some (.int (iI e)), some (.int (iI l)), some (.int (iI 23))]) (st' := [.int (iI 23), .int (iI o), .ref (c + 30)]) rfl rfl ?_
            refine go_a (pc' := 239) (ls' := [some (.ref (c + 30)), some (.int (iI o)), some (.int (iI e)), some (.int (iI l)), some (.int (iI 23))]) (st' := [.int (iI l), .int (iI 23), .int (iI o), .ref (c + 30)]) rfl rfl ?_
            refine go_a (pc' := 240) (ls' := [some (.ref (c + 30)), some (.int (iI o)), some (.int (iI e)), some (.int (iI l)), some (.int (iI 23))]) (st' := [.int (iI 1), .int (iI l), .int (iI 23), .int (iI o), .ref (c + 30)]) rfl rfl ?_
            refine mi_sub rfl ?_
            rw [show l - 1 = 1 by omega]
            refine go_v (m := 293) (as := [.ref (c + 30), .int (iI o), .int (iI 23), .int (iI 1)]) (r := []) rfl rfl rfl (hK.1 19 (by decide)) rfl rfl (kq_axiom_23 z d c o q h1 s1 NM hP1 ho1 hL r2 W9 L9 (by omega)) (fun v h3 hq => ?_)
            rw [eW, eN, e17] at hq
            have hq := PRP_tr S1 (ps.1.trans rfl) (ps.2.trans rfl) hq
            rcases PRP_v hq with rfl | ⟨y, rfl⟩
            · exact go_r rfl rfl rfl rfl rfl rfl hq
            · exact go_r rfl rfl rfl rfl rfl rfl hq
          · rw [hr]
            refine go_a (pc' := 168) (ls' := [some (.ref (c + 30)), some (.int (iI o)), some (.int (iI e)), some (.int (iI l)), some (.int (iI 24))]) (st' := []) rfl rfl ?_
            rw [hr] at ps
            replace ps : sp_pr NM.2.2.1 NM.2.2.2.1 NM.2.2.2.2 fu (D1 + 1) (DK s.N o) (s.I 17) = sp_ru NM.2.2.1 NM.2.2.2.1 NM.2.2.2.2 (sp_pr NM.2.2.1 NM.2.2.2.1 NM.2.2.2.2 fu D1) 107484305 (DK s.N o) (s.I 17 + 1) ∧ sp_sn NM.2.2.1 NM.2.2.2.1 NM.2.2.2.2 fu (D1 + 1) (DK s.N o) (s.I 17) = sp_sg (sp_pr NM.2.2.1 NM.2.2.2.1 NM.2.2.2.2 fu D1) (sp_sn NM.2.2.1 NM.2.2.2.1 NM.2.2.2.2 fu D1) (sp_ins NM.2.2.1 NM.2.2.2.1 107484305 (DK s.N o)) (s.I 17 + 1) := ps
            have ll : (sp_as (DK s.N o)).length = 2 := by omega
            rw [ru_24, in_24, if_pos ll] at ps
            refine go_a (pc' := 169) (ls' := [some (.ref (c + 30)), some (.int (iI o)), some (.int (iI e)), some (.int (iI l)), some (.int (iI 24))]) (st' := [.ref (c + 30)]) rfl rfl ?_
            refine go_a (pc' := 170) (ls' := [some (.ref (c + 30)), some (.int (iI o)), some (.int (iI e)), some (.int (iI l)), some (.int (iI 24))]) (st' := [.int (iI o), .ref (c + 30)]) rfl rfl ?_
            refine go_v (m := 249) (as := [.ref (c + 30), .int (iI o)]) (r := []) rfl rfl rfl (hK.1 19 (by decide)) rfl rfl (kq_value z d c o q h1 s1 NM hP1 ho1 hL r2 W9 L9 (by omega)) (fun v h3 hq => ?_)
            rw [eW, eN, e17] at hq
            have hq := PRP_tr S1 (ps.1.trans rfl) (ps.2.trans rfl) hq
            rcases PRP_v hq with rfl | ⟨y, rfl⟩
            · exact go_r rfl rfl rfl rfl rfl rfl hq
            · exact go_r rfl rfl rfl rfl rfl rfl hq
          · rw [hr]
            refine go_a (pc' := 234) (ls' := [some (.ref (c + 30)), some (.int (iI o)), some (.int (iI e)), some (.int (iI l)), some (.int (iI 25))]) (st' := []) rfl rfl ?_
            rw [hr] at ps
            replace ps : sp_pr NM.2.2.1 NM.2.2.2.1 NM.2.2.2.2 fu (D1 + 1) (DK s.N o) (s.I 17) = sp_ru NM.2.2.1 NM.2.2.2.1 NM.2.2.2.2 (sp_pr NM.2.2.1 NM.2.2.2.1 NM.2.2.2.2 fu D1) 30253168 (DK s.N o) (s.I 17 + 1) ∧ sp_sn NM.2.2.1 NM.2.2.2.1 NM.2.2.2.2 fu (D1 + 1) (DK s.N o) (s.I 17) = sp_sg (sp_pr NM.2.2.1 NM.2.2.2.1 NM.2.2.2.2 fu D1) (sp_sn NM.2.2.1 NM.2.2.2.1 NM.2.2.2.2 fu D1) (sp_ins NM.2.2.1 NM.2.2.2.1 30253168 (DK s.N o)) (s.I 17 + 1) := ps
            have ll : (sp_as (DK s.N o)).length = 3 := by omega
            rw [ru_25, in_25, if_pos ll] at ps
            refine go_a (pc' := 235) (ls' := [some (.ref (c + 30)), some (.int (iI o)), some (.int (iI e)), some (.int (iI l)), some (.int (iI 25))]) (st' := [.ref (c + 30)]) rfl rfl ?_
            refine go_a (pc' := 236) (ls' := [some (.ref (c + 30)), some (.int (iI o)), some (.int (iI e)), some (.int (iI l)), some (.int (iI 25))]) (st' := [.int (iI o), .ref (c + 30)]) rfl rfl ?_
            refine go_a (pc' := 238) (ls' := [some (.ref (c + 30)), some (.int (iI o)), some (.int (iI e)), some (.int (iI l)), some (.int (iI 25))]) (st' := [.int (iI 25), .int (iI o), .ref (c + 30)]) rfl rfl ?_
            refine go_a (pc' := 239) (ls' := [some (.ref (c + 30)), some (.int (iI o)), some (.int (iI e)), some (.int (iI l)), some (.int (iI 25))]) (st' := [.int (iI l), .int (iI 25), .int (iI o), .ref (c + 30)]) rfl rfl ?_
            refine go_a (pc' := 240) (ls' := [some (.ref (c + 30)), some (.int (iI o)), some (.int (iI e)), some (.int (iI l)), some (.int (iI 25))]) (st' := [.int (iI 1), .int (iI l), .int (iI 25), .int (iI o), .ref (c + 30)]) rfl rfl ?_
            refine mi_sub rfl ?_
            rw [show l - 1 = 2 by omega]
            refine go_v (m := 293) (as := [.ref (c + 30), .int (iI o), .int (iI 25), .int (iI 2)]) (r := []) rfl rfl rfl (hK.1 19 (by decide)) rfl rfl (kq_axiom_25 z d c o q h1 s1 NM hP1 ho1 hL r2 W9 L9 (by omega)) (fun v h3 hq => ?_)
            rw [eW, eN, e17] at hq
            have hq := PRP_tr S1 (ps.1.trans rfl) (ps.2.trans rfl) hq
            rcases PRP_v hq with rfl | ⟨y, rfl⟩
            · exact go_r rfl rfl rfl rfl rfl rfl hq
            · exact go_r rfl rfl rfl rfl rfl rfl hq
          · rw [hr]
            refine go_a (pc' := 234) (ls' := [some (.ref (c + 30)), some (.int (iI o)), some (.int (iI e)), some (.int (iI l)), some (.int (iI 26))]) (st' := []) rfl rfl ?_
            rw [hr] at ps
            replace ps : sp_pr NM.2.2.1 NM.2.2.2.1 NM.2.2.2.2 fu (D1 + 1) (DK s.N o) (s.I 17) = sp_ru NM.2.2.1 NM.2.2.2.1 NM.2.2.2.2 (sp_pr NM.2.2.1 NM.2.2.2.1 NM.2.2.2.2 fu D1) 4382298804 (DK s.N o) (s.I 17 + 1) ∧ sp_sn NM.2.2.1 NM.2.2.2.1 NM.2.2.2.2 fu (D1 + 1) (DK s.N o) (s.I 17) = sp_sg (sp_pr NM.2.2.1 NM.2.2.2.1 NM.2.2.2.2 fu D1) (sp_sn NM.2.2.1 NM.2.2.2.1 NM.2.2.2.2 fu D1) (sp_ins NM.2.2.1 NM.2.2.2.1 4382298804 (DK s.N o)) (s.I 17 + 1) := ps
            have ll : (sp_as (DK s.N o)).length = 3 := by omega
            rw [ru_26, in_26, if_pos ll] at ps
            refine go_a (pc' := 235) (ls' := [some (.ref (c + 30)), some (.int (iI o)), some (.int (iI e)), some (.int (iI l)), some (.int (iI 26))]) (st' := [.ref (c + 30)]) rfl rfl ?_
            refine go_a (pc' := 236) (ls' := [some (.ref (c + 30)), some (.int (iI o)), some (.int (iI e)), some (.int (iI l)), some (.int (iI 26))]) (st' := [.int (iI o), .ref (c + 30)]) rfl rfl ?_
            refine go_a (pc' := 238) (ls' := [some (.ref (c + 30)), some (.int (iI o)), some (.int (iI e)), some (.int (iI l)), some (.int (iI 26))]) (st' := [.int (iI 26), .int (iI o), .ref (c + 30)]) rfl rfl ?_
            refine go_a (pc' := 239) (ls' := [some (.ref (c + 30)), some (.int (iI o)), some (.int (iI e)), some (.int (iI l)), some (.int (iI 26))]) (st' := [.int (iI l), .int (iI 26), .int (iI o), .ref (c + 30)]) rfl rfl ?_
            refine go_a (pc' := 240) (ls' := [some (.ref (c + 30)), some (.int (iI o)), some (.int (iI e)), some (.int (iI l)), some (.int (iI 26))]) (st' := [.int (iI 1), .int (iI l), .int (iI 26), .int (iI o), .ref (c + 30)]) rfl rfl ?_
            refine mi_sub rfl ?_
            rw [show l - 1 = 2 by omega]
            refine go_v (m := 293) (as := [.ref (c + 30), .int (iI o), .int (iI 26), .int (iI 2)]) (r := []) rfl rfl rfl (hK.1 19 (by decide)) rfl rfl (kq_axiom_26 z d c o q h1 s1 NM hP1 ho1 hL r2 W9 L9 (by omega)) (fun v h3 hq => ?_)
            rw [eW, eN, e17] at hq
            have hq := PRP_tr S1 (ps.1.trans rfl) (ps.2.trans rfl) hq
            rcases PRP_v hq with rfl | ⟨y, rfl⟩
            · exact go_r rfl rfl rfl rfl rfl rfl hq
            · exact go_r rfl rfl rfl rfl rfl rfl hq
          · rw [hr]
            refine go_a (pc' := 234) (ls' := [some (.ref (c + 30)), some (.int (iI o)), some (.int (iI e)), some (.int (iI l)), some (.int (iI 27))]) (st' := []) rfl rfl ?_
            rw [hr] at ps
            replace ps : sp_pr NM.2.2.1 NM.2.2.2.1 NM.2.2.2.2 fu (D1 + 1) (DK s.N o) (s.I 17) = sp_ru NM.2.2.1 NM.2.2.2.1 NM.2.2.2.2 (sp_pr NM.2.2.1 NM.2.2.2.1 NM.2.2.2.2 fu D1) 1663818 (DK s.N o) (s.I 17 + 1) ∧ sp_sn NM.2.2.1 NM.2.2.2.1 NM.2.2.2.2 fu (D1 + 1) (DK s.N o) (s.I 17) = sp_sg (sp_pr NM.2.2.1 NM.2.2.2.1 NM.2.2.2.2 fu D1) (sp_sn NM.2.2.1 NM.2.2.2.1 NM.2.2.2.2 fu D1) (sp_ins NM.2.2.1 NM.2.2.2.1 1663818 (DK s.N o)) (s.I 17 + 1) := ps
            have ll : (sp_as (DK s.N o)).length = 3 := by omega
            rw [ru_27, in_27, if_pos ll] at ps
            refine go_a (pc' := 235) (ls' := [some (.ref (c + 30)), some (.int (iI o)), some (.int (iI e)), some (.int (iI l)), some (.int (iI 27))]) (st' := [.ref (c + 30)]) rfl rfl ?_
            refine go_a (pc' := 236) (ls' := [some (.ref (c + 30)), some (.int (iI o)), some (.int (iI e)), some (.int (iI l)), some (.int (iI 27))]) (st' := [.int (iI o), .ref (c + 30)]) rfl rfl ?_
            refine go_a (pc' := 238) (ls' := [some (.ref (c + 30)), some (.int (iI o)), some (.int (iI e)), some (.int (iI l)), some (.int (iI 27))]) (st' := [.int (iI 27), .int (iI o), .ref (c + 30)]) rfl rfl ?_
            refine go_a (pc' := 239) (ls' := [some (.ref (c + 30)), some (.int (iI o)), some (.int (iI e)), some (.int (iI l)), some (.int (iI 27))]) (st' := [.int (iI l), .int (iI 27), .int (iI o), .ref (c + 30)]) rfl rfl ?_
            refine go_a (pc' := 240) (ls' := [some (.ref (c + 30)), some (.int (iI o)), some (.int (iI e)), some (.int (iI l)), some (.int (iI 27))]) (st' := [.int (iI 1), .int (iI l), .int (iI 27), .int (iI o), .ref (c + 30)]) rfl rfl ?_
            refine mi_sub rfl ?_
            rw [show l - 1 = 2 by omega]
            refine go_v (m := 293) (as := [.ref (c + 30), .int (iI o), .int (iI 27), .int (iI 2)]) (r := []) rfl rfl rfl (hK.1 19 (by decide)) rfl rfl (kq_axiom_27 z d c o q h1 s1 NM hP1 ho1 hL r2 W9 L9 (by omega)) (fun v h3 hq => ?_)
            rw [eW, eN, e17] at hq
            have hq := PRP_tr S1 (ps.1.trans rfl) (ps.2.trans rfl) hq
            rcases PRP_v hq with rfl | ⟨y, rfl⟩
            · exact go_r rfl rfl rfl rfl rfl rfl hq
            · exact go_r rfl rfl rfl rfl rfl rfl hq
          · rw [hr]
            refine go_a (pc' := 234) (ls' := [some (.ref (c + 30)), some (.int (iI o)), some (.int (iI e)), some (.int (iI l)), some (.int (iI 28))]) (st' := []) rfl rfl ?_
            rw [hr] at ps
            replace ps : sp_pr NM.2.2.1 NM.2.2.2.1 NM.2.2.2.2 fu (D1 + 1) (DK s.N o) (s.I 17) = sp_ru NM.2.2.1 NM.2.2.2.1 NM.2.2.2.2 (sp_pr NM.2.2.1 NM.2.2.2.1 NM.2.2.2.2 fu D1) 55479 (DK s.N o) (s.I 17 + 1) ∧ sp_sn NM.2.2.1 NM.2.2.2.1 NM.2.2.2.2 fu (D1 + 1) (DK s.N o) (s.I 17) = sp_sg (sp_pr NM.2.2.1 NM.2.2.2.1 NM.2.2.2.2 fu D1) (sp_sn NM.2.2.1 NM.2.2.2.1 NM.2.2.2.2 fu D1) (sp_ins NM.2.2.1 NM.2.2.2.1 55479 (DK s.N o)) (s.I 17 + 1) := ps
            have ll : (sp_as (DK s.N o)).length = 4 := by omega
            rw [ru_28, in_28, if_pos ll] at ps
            refine go_a (pc' := 235) (ls' := [some (.ref (c + 30)), some (.int (iI o)), some (.int (iI e)), some (.int (iI l)), some (.int (iI 28))]) (st' := [.ref (c + 30)]) rfl rfl ?_
            refine go_a (pc' := 236) (ls' := [some (.ref (c + 30)), some (.int (iI o)), some (.int (iI e)), some (.int (iI l)), some (.int (iI 28))]) (st' := [.int (iI o), .ref (c + 30)]) rfl rfl ?_
            refine go_a (pc' := 238) (ls' := [some (.ref (c + 30)), some (.int (iI o)), some (.int (iI e)), some (.int (iI l)), some (.int (iI 28))]) (st' := [.int (iI 28), .int (iI o), .ref (c + 30)]) rfl rfl ?_
            refine go_a (pc' := 239) (ls' := [some (.ref (c + 30)), some (.int (iI o)), some (.int (iI e)), some (.int (iI l)), some (.int (iI 28))]) (st' := [.int (iI l), .int (iI 28), .int (iI o), .ref (c + 30)]) rfl rfl ?_
            refine go_a (pc' := 240) (ls' := [some (.ref (c + 30)), some (.int (iI o)), some (.int (iI e)), some (.int (iI l)), some (.int (iI 28))]) (st' := [.int (iI 1), .int (iI l), .int (iI 28), .int (iI o), .ref (c + 30)]) rfl rfl ?_
            refine mi_sub rfl ?_
            rw [show l - 1 = 3 by omega]
            refine go_v (m := 293) (as := [.ref (c + 30), .int (iI o), .int (iI 28), .int (iI 3)]) (r := []) rfl rfl rfl (hK.1 19 (by decide)) rfl rfl (kq_axiom_28 z d c o q h1 s1 NM hP1 ho1 hL r2 W9 L9 (by omega)) (fun v h3 hq => ?_)
            rw [eW, eN, e17] at hq
            have hq := PRP_tr S1 (ps.1.trans rfl) (ps.2.trans rfl) hq
            rcases PRP_v hq with rfl | ⟨y, rfl⟩
            · exact go_r rfl rfl rfl rfl rfl rfl hq
            · exact go_r rfl rfl rfl rfl rfl rfl hq
          · rw [hr]
            refine go_a (pc' := 234) (ls' := [some (.ref (c + 30)), some (.int (iI o)), some (.int (iI e)), some (.int (iI l)), some (.int (iI 29))]) (st' := []) rfl rfl ?_
            rw [hr] at ps
            replace ps : sp_pr NM.2.2.1 NM.2.2.2.1 NM.2.2.2.2 fu (D1 + 1) (DK s.N o) (s.I 17) = sp_ru NM.2.2.1 NM.2.2.2.1 NM.2.2.2.2 (sp_pr NM.2.2.1 NM.2.2.2.1 NM.2.2.2.2 fu D1) 673 (DK s.N o) (s.I 17 + 1) ∧ sp_sn NM.2.2.1 NM.2.2.2.1 NM.2.2.2.2 fu (D1 + 1) (DK s.N o) (s.I 17) = sp_sg (sp_pr NM.2.2.1 NM.2.2.2.1 NM.2.2.2.2 fu D1) (sp_sn NM.2.2.1 NM.2.2.2.1 NM.2.2.2.2 fu D1) (sp_ins NM.2.2.1 NM.2.2.2.1 673 (DK s.N o)) (s.I 17 + 1) := ps
            have ll : (sp_as (DK s.N o)).length = 4 := by omega
            rw [ru_29, in_29, if_pos ll] at ps
            refine go_a (pc' := 235) (ls' := [some (.ref (c + 30)), some (.int (iI o)), some (.int (iI e)), some (.int (iI l)), some (.int (iI 29))]) (st' := [.ref (c + 30)]) rfl rfl ?_
            refine go_a (pc' := 236) (ls' := [some (.ref (c + 30)), some (.int (iI o)), some (.int (iI e)), some (.int (iI l)), some (.int (iI 29))]) (st' := [.int (iI o), .ref (c + 30)]) rfl rfl ?_
            refine go_a (pc' := 238) (ls' := [some (.ref (c + 30)), some (.int (iI o)), some (.int (iI e)), some (.int (iI l)), some (.int (iI 29))]) (st' := [.int (iI 29), .int (iI o), .ref (c + 30)]) rfl rfl ?_
            refine go_a (pc' := 239) (ls' := [some (.ref (c + 30)), some (.int (iI o)), some (.int (iI e)), some (.int (iI l)), some (.int (iI 29))]) (st' := [.int (iI l), .int (iI 29), .int (iI o), .ref (c + 30)]) rfl rfl ?_
            refine go_a (pc' := 240) (ls' := [some (.ref (c + 30)), some (.int (iI o)), some (.int (iI e)), some (.int (iI l)), some (.int (iI 29))]) (st' := [.int (iI 1), .int (iI l), .int (iI 29), .int (iI o), .ref (c + 30)]) rfl rfl ?_
            refine mi_sub rfl ?_
            rw [show l - 1 = 3 by omega]
            refine go_v (m := 293) (as := [.ref (c + 30), .int (iI o), .int (iI 29), .int (iI 3)]) (r := []) rfl rfl rfl (hK.1 19 (by decide)) rfl rfl (kq_axiom_29 z d c o q h1 s1 NM hP1 ho1 hL r2 W9 L9 (by omega)) (fun v h3 hq => ?_)
            rw [eW, eN, e17] at hq
            have hq := PRP_tr S1 (ps.1.trans rfl) (ps.2.trans rfl) hq
            rcases PRP_v hq with rfl | ⟨y, rfl⟩
            · exact go_r rfl rfl rfl rfl rfl rfl hq
            · exact go_r rfl rfl rfl rfl rfl rfl hq
          · rw [hr]
            refine go_a (pc' := 174) (ls' := [some (.ref (c + 30)), some (.int (iI o)), some (.int (iI e)), some (.int (iI l)), some (.int (iI 30))]) (st' := []) rfl rfl ?_
            rw [hr] at ps
            replace ps : sp_pr NM.2.2.1 NM.2.2.2.1 NM.2.2.2.2 fu (D1 + 1) (DK s.N o) (s.I 17) = sp_ru NM.2.2.1 NM.2.2.2.1 NM.2.2.2.2 (sp_pr NM.2.2.1 NM.2.2.2.1 NM.2.2.2.2 fu D1) 9077 (DK s.N o) (s.I 17 + 1) ∧ sp_sn NM.2.2.1 NM.2.2.2.1 NM.2.2.2.2 fu (D1 + 1) (DK s.N o) (s.I 17) = sp_sg (sp_pr NM.2.2.1 NM.2.2.2.1 NM.2.2.2.2 fu D1) (sp_sn NM.2.2.1 NM.2.2.2.1 NM.2.2.2.2 fu D1) (sp_ins NM.2.2.1 NM.2.2.2.1 9077 (DK s.N o)) (s.I 17 + 1) := ps
            have ll : (sp_as (DK s.N o)).length = 2 := by omega
            rw [ru_30, in_30, if_pos ll] at ps
            refine go_a (pc' := 175) (ls' := [some (.ref (c + 30)), some (.int (iI o)), some (.int (iI e)), some (.int (iI l)), some (.int (iI 30))]) (st' := [.ref (c + 30)]) rfl rfl ?_
            refine go_a (pc' := 176) (ls' := [some (.ref (c + 30)), some (.int (iI o)), some (.int (iI e)), some (.int (iI l)), some (.int (iI 30))]) (st' := [.int (iI o), .ref (c + 30)]) rfl rfl ?_
            refine go_v (m := 267) (as := [.ref (c + 30), .int (iI o)]) (r := []) rfl rfl rfl (hK.1 19 (by decide)) rfl rfl (kq_definition z d c o q h1 s1 NM hP1 ho1 hL r2 W9 L9 (by omega)) (fun v h3 hq => ?_)
            rw [eW, eN, e17] at hq
            have hq := PRP_tr S1 (ps.1.trans rfl) (ps.2.trans rfl) hq
            rcases PRP_v hq with rfl | ⟨y, rfl⟩
            · exact go_r rfl rfl rfl rfl rfl rfl hq
            · exact go_r rfl rfl rfl rfl rfl rfl hq
          · rw [hr]
            refine go_a (pc' := 180) (ls' := [some (.ref (c + 30)), some (.int (iI o)), some (.int (iI e)), some (.int (iI l)), some (.int (iI 31))]) (st' := []) rfl rfl ?_
            rw [hr] at ps
            replace ps : sp_pr NM.2.2.1 NM.2.2.2.1 NM.2.2.2.2 fu (D1 + 1) (DK s.N o) (s.I 17) = sp_ru NM.2.2.1 NM.2.2.2.1 NM.2.2.2.2 (sp_pr NM.2.2.1 NM.2.2.2.1 NM.2.2.2.2 fu D1) 44569 (DK s.N o) (s.I 17 + 1) ∧ sp_sn NM.2.2.1 NM.2.2.2.1 NM.2.2.2.2 fu (D1 + 1) (DK s.N o) (s.I 17) = sp_sg (sp_pr NM.2.2.1 NM.2.2.2.1 NM.2.2.2.2 fu D1) (sp_sn NM.2.2.1 NM.2.2.2.1 NM.2.2.2.2 fu D1) (sp_ins NM.2.2.1 NM.2.2.2.1 44569 (DK s.N o)) (s.I 17 + 1) := ps
            have ll : (sp_as (DK s.N o)).length = 2 := by omega
            rw [ru_31, in_31, if_pos ll] at ps
            refine go_a (pc' := 181) (ls' := [some (.ref (c + 30)), some (.int (iI o)), some (.int (iI e)), some (.int (iI l)), some (.int (iI 31))]) (st' := [.ref (c + 30)]) rfl rfl ?_
            refine go_a (pc' := 182) (ls' := [some (.ref (c + 30)), some (.int (iI o)), some (.int (iI e)), some (.int (iI l)), some (.int (iI 31))]) (st' := [.int (iI o), .ref (c + 30)]) rfl rfl ?_
            refine go_v (m := 269) (as := [.ref (c + 30), .int (iI o)]) (r := []) rfl rfl rfl (hK.1 19 (by decide)) rfl rfl (kq_theorem z d c o q h1 s1 NM hP1 ho1 hL r2 W9 L9 (by omega)) (fun v h3 hq => ?_)
            rw [eW, eN, e17] at hq
            have hq := PRP_tr S1 (ps.1.trans rfl) (ps.2.trans rfl) hq
            rcases PRP_v hq with rfl | ⟨y, rfl⟩
            · exact go_r rfl rfl rfl rfl rfl rfl hq
            · exact go_r rfl rfl rfl rfl rfl rfl hq
          · rw [hr]
            refine go_a (pc' := 186) (ls' := [some (.ref (c + 30)), some (.int (iI o)), some (.int (iI e)), some (.int (iI l)), some (.int (iI 32))]) (st' := []) rfl rfl ?_
            rw [hr] at ps
            replace ps : sp_pr NM.2.2.1 NM.2.2.2.1 NM.2.2.2.2 fu (D1 + 1) (DK s.N o) (s.I 17) = sp_ru NM.2.2.1 NM.2.2.2.1 NM.2.2.2.2 (sp_pr NM.2.2.1 NM.2.2.2.1 NM.2.2.2.2 fu D1) 2399032 (DK s.N o) (s.I 17 + 1) ∧ sp_sn NM.2.2.1 NM.2.2.2.1 NM.2.2.2.2 fu (D1 + 1) (DK s.N o) (s.I 17) = sp_sg (sp_pr NM.2.2.1 NM.2.2.2.1 NM.2.2.2.2 fu D1) (sp_sn NM.2.2.1 NM.2.2.2.1 NM.2.2.2.2 fu D1) (sp_ins NM.2.2.1 NM.2.2.2.1 2399032 (DK s.N o)) (s.I 17 + 1) := ps
            have ll : (sp_as (DK s.N o)).length = 3 := by omega
            rw [ru_32, in_32, if_pos ll] at ps
            refine go_a (pc' := 187) (ls' := [some (.ref (c + 30)), some (.int (iI o)), some (.int (iI e)), some (.int (iI l)), some (.int (iI 32))]) (st' := [.ref (c + 30)]) rfl rfl ?_
            refine go_a (pc' := 188) (ls' := [some (.ref (c + 30)), some (.int (iI o)), some (.int (iI e)), some (.int (iI l)), some (.int (iI 32))]) (st' := [.int (iI o), .ref (c + 30)]) rfl rfl ?_
            refine go_a (pc' := 189) (ls' := [some (.ref (c + 30)), some (.int (iI o)), some (.int (iI e)), some (.int (iI l)), some (.int (iI 32))]) (st' := [.int (iI e), .int (iI o), .ref (c + 30)]) rfl rfl ?_
            refine go_v (m := 270) (as := [.ref (c + 30), .int (iI o), .int (iI e)]) (r := []) rfl rfl rfl (hK.1 19 (by decide)) rfl rfl (kq_weak z d c o q h1 s1 NM hP1 ho1 hL r2 W9 L9 e fu _ _ R1 e16 (by omega)) (fun v h3 hq => ?_)
            rw [eW, eN, e17] at hq
            have hq := PRP_tr S1 (ps.1.trans rfl) (ps.2.trans (by rw [ifc_and ll])) hq
            rcases PRP_v hq with rfl | ⟨y, rfl⟩
            · exact go_r rfl rfl rfl rfl rfl rfl hq
            · exact go_r rfl rfl rfl rfl rfl rfl hq
          · rw [hr]
            refine go_a (pc' := 193) (ls' := [some (.ref (c + 30)), some (.int (iI o)), some (.int (iI e)), some (.int (iI l)), some (.int (iI 33))]) (st' := []) rfl rfl ?_
            rw [hr] at ps
            replace ps : sp_pr NM.2.2.1 NM.2.2.2.1 NM.2.2.2.2 fu (D1 + 1) (DK s.N o) (s.I 17) = sp_ru NM.2.2.1 NM.2.2.2.1 NM.2.2.2.2 (sp_pr NM.2.2.1 NM.2.2.2.1 NM.2.2.2.2 fu D1) 7634 (DK s.N o) (s.I 17 + 1) ∧ sp_sn NM.2.2.1 NM.2.2.2.1 NM.2.2.2.2 fu (D1 + 1) (DK s.N o) (s.I 17) = sp_sg (sp_pr NM.2.2.1 NM.2.2.2.1 NM.2.2.2.2 fu D1) (sp_sn NM.2.2.1 NM.2.2.2.1 NM.2.2.2.2 fu D1) (sp_ins NM.2.2.1 NM.2.2.2.1 7634 (DK s.N o)) (s.I 17 + 1) := ps
            have ll : (sp_as (DK s.N o)).length = 4 := by omega
            rw [ru_33, in_33, if_pos ll] at ps
            refine go_a (pc' := 194) (ls' := [some (.ref (c + 30)), some (.int (iI o)), some (.int (iI e)), some (.int (iI l)), some (.int (iI 33))]) (st' := [.ref (c + 30)]) rfl rfl ?_
            refine go_a (pc' := 195) (ls' := [some (.ref (c + 30)), some (.int (iI o)), some (.int (iI e)), some (.int (iI l)), some (.int (iI 33))]) (st' := [.int (iI o), .ref (c + 30)]) rfl rfl ?_
            refine go_a (pc' := 196) (ls' := [some (.ref (c + 30)), some (.int (iI o)), some (.int (iI e)), some (.int (iI l)), some (.int (iI 33))]) (st' := [.int (iI e), .int (iI o), .ref (c + 30)]) rfl rfl ?_
            refine go_v (m := 272) (as := [.ref (c + 30), .int (iI o), .int (iI e)]) (r := []) rfl rfl rfl (hK.1 19 (by decide)) rfl rfl (kq_cut z d c o q h1 s1 NM hP1 ho1 hL r2 W9 L9 e fu _ _ R1 e16 (by omega)) (fun v h3 hq => ?_)
            rw [eW, eN, e17] at hq
            have hq := PRP_tr S1 (ps.1.trans rfl) (ps.2.trans (by rw [ifc_and ll])) hq
            rcases PRP_v hq with rfl | ⟨y, rfl⟩
            · exact go_r rfl rfl rfl rfl rfl rfl hq
            · exact go_r rfl rfl rfl rfl rfl rfl hq
          · rw [hr]
            refine go_a (pc' := 200) (ls' := [some (.ref (c + 30)), some (.int (iI o)), some (.int (iI e)), some (.int (iI l)), some (.int (iI 34))]) (st' := []) rfl rfl ?_
            rw [hr] at ps
            replace ps : sp_pr NM.2.2.1 NM.2.2.2.1 NM.2.2.2.2 fu (D1 + 1) (DK s.N o) (s.I 17) = sp_ru NM.2.2.1 NM.2.2.2.1 NM.2.2.2.2 (sp_pr NM.2.2.1 NM.2.2.2.1 NM.2.2.2.2 fu D1) 966246 (DK s.N o) (s.I 17 + 1) ∧ sp_sn NM.2.2.1 NM.2.2.2.1 NM.2.2.2.2 fu (D1 + 1) (DK s.N o) (s.I 17) = sp_sg (sp_pr NM.2.2.1 NM.2.2.2.1 NM.2.2.2.2 fu D1) (sp_sn NM.2.2.1 NM.2.2.2.1 NM.2.2.2.2 fu D1) (sp_ins NM.2.2.1 NM.2.2.2.1 966246 (DK s.N o)) (s.I 17 + 1) := ps
            have ll : 2 ≤ (sp_as (DK s.N o)).length := by omega
            rw [ru_34, in_34, if_pos ll] at ps
            obtain ⟨M, eM⟩ : ∃ M : Nat, q = M + 2 := ⟨q - 2, by omega⟩
            refine go_a (pc' := 201) (ls' := [some (.ref (c + 30)), some (.int (iI o)), some (.int (iI e)), some (.int (iI l)), some (.int (iI 34))]) (st' := [.ref (c + 30)]) rfl rfl ?_
            refine go_a (pc' := 202) (ls' := [some (.ref (c + 30)), some (.int (iI o)), some (.int (iI e)), some (.int (iI l)), some (.int (iI 34))]) (st' := [.int (iI o), .ref (c + 30)]) rfl rfl ?_
            refine go_a (pc' := 203) (ls' := [some (.ref (c + 30)), some (.int (iI o)), some (.int (iI e)), some (.int (iI l)), some (.int (iI 34))]) (st' := [.int (iI l), .int (iI o), .ref (c + 30)]) rfl rfl ?_
            refine go_a (pc' := 204) (ls' := [some (.ref (c + 30)), some (.int (iI o)), some (.int (iI e)), some (.int (iI l)), some (.int (iI 34))]) (st' := [.int (iI 2), .int (iI l), .int (iI o), .ref (c + 30)]) rfl rfl ?_
            refine mi_sub rfl ?_
            refine go_a (pc' := 206) (ls' := [some (.ref (c + 30)), some (.int (iI o)), some (.int (iI e)), some (.int (iI l)), some (.int (iI 34))]) (st' := [.int (iI e), .int (iI (l - 2)), .int (iI o), .ref (c + 30)]) rfl rfl ?_
            rw [show l - 2 = (M : Int) by omega]
            refine go_v (m := 279) (as := [.ref (c + 30), .int (iI o), .int (iI ((M : Int))), .int (iI e)]) (r := []) rfl rfl rfl (hK.1 19 (by decide)) rfl rfl (kq_inst z d c o q h1 s1 NM hP1 ho1 hL r2 W9 L9 e fu _ _ R1 e16 M eM) (fun v h3 hq => ?_)
            rw [eW, eN, e17] at hq
            have hq := PRP_tr S1 (ps.1.trans rfl) (ps.2.trans (by rw [ifc_and ll])) hq
            rcases PRP_v hq with rfl | ⟨y, rfl⟩
            · exact go_r rfl rfl rfl rfl rfl rfl hq
            · exact go_r rfl rfl rfl rfl rfl rfl hq
          · rw [hr]
            refine go_a (pc' := 210) (ls' := [some (.ref (c + 30)), some (.int (iI o)), some (.int (iI e)), some (.int (iI l)), some (.int (iI 35))]) (st' := []) rfl rfl ?_
            rw [hr] at ps
            replace ps : sp_pr NM.2.2.1 NM.2.2.2.1 NM.2.2.2.2 fu (D1 + 1) (DK s.N o) (s.I 17) = sp_ru NM.2.2.1 NM.2.2.2.1 NM.2.2.2.2 (sp_pr NM.2.2.1 NM.2.2.2.1 NM.2.2.2.2 fu D1) 2023507 (DK s.N o) (s.I 17 + 1) ∧ sp_sn NM.2.2.1 NM.2.2.2.1 NM.2.2.2.2 fu (D1 + 1) (DK s.N o) (s.I 17) = sp_sg (sp_pr NM.2.2.1 NM.2.2.2.1 NM.2.2.2.2 fu D1) (sp_sn NM.2.2.1 NM.2.2.2.1 NM.2.2.2.2 fu D1) (sp_ins NM.2.2.1 NM.2.2.2.1 2023507 (DK s.N o)) (s.I 17 + 1) := ps
            have ll : (sp_as (DK s.N o)).length = 2 := by omega
            rw [ru_35, in_35, if_pos ll] at ps
            refine go_a (pc' := 211) (ls' := [some (.ref (c + 30)), some (.int (iI o)), some (.int (iI e)), some (.int (iI l)), some (.int (iI 35))]) (st' := [.ref (c + 30)]) rfl rfl ?_
            refine go_a (pc' := 212) (ls' := [some (.ref (c + 30)), some (.int (iI o)), some (.int (iI e)), some (.int (iI l)), some (.int (iI 35))]) (st' := [.int (iI o), .ref (c + 30)]) rfl rfl ?_
            refine go_a (pc' := 213) (ls' := [some (.ref (c + 30)), some (.int (iI o)), some (.int (iI e)), some (.int (iI l)), some (.int (iI 35))]) (st' := [.int (iI e), .int (iI o), .ref (c + 30)]) rfl rfl ?_
            refine go_v (m := 282) (as := [.ref (c + 30), .int (iI o), .int (iI e)]) (r := []) rfl rfl rfl (hK.1 19 (by decide)) rfl rfl (kq_swap z d c o q h1 s1 NM hP1 ho1 hL r2 W9 L9 e fu _ _ R1 e16 (by omega)) (fun v h3 hq => ?_)
            rw [eW, eN, e17] at hq
            have hq := PRP_tr S1 (ps.1.trans rfl) (ps.2.trans (by rw [ifc_pos ll])) hq
            rcases PRP_v hq with rfl | ⟨y, rfl⟩
            · exact go_r rfl rfl rfl rfl rfl rfl hq
            · exact go_r rfl rfl rfl rfl rfl rfl hq
          · rw [hr]
            refine go_a (pc' := 217) (ls' := [some (.ref (c + 30)), some (.int (iI o)), some (.int (iI e)), some (.int (iI l)), some (.int (iI 36))]) (st' := []) rfl rfl ?_
            rw [hr] at ps
            replace ps : sp_pr NM.2.2.1 NM.2.2.2.1 NM.2.2.2.2 fu (D1 + 1) (DK s.N o) (s.I 17) = sp_ru NM.2.2.1 NM.2.2.2.1 NM.2.2.2.2 (sp_pr NM.2.2.1 NM.2.2.2.1 NM.2.2.2.2 fu D1) 36351 (DK s.N o) (s.I 17 + 1) ∧ sp_sn NM.2.2.1 NM.2.2.2.1 NM.2.2.2.2 fu (D1 + 1) (DK s.N o) (s.I 17) = sp_sg (sp_pr NM.2.2.1 NM.2.2.2.1 NM.2.2.2.2 fu D1) (sp_sn NM.2.2.1 NM.2.2.2.1 NM.2.2.2.2 fu D1) (sp_ins NM.2.2.1 NM.2.2.2.1 36351 (DK s.N o)) (s.I 17 + 1) := ps
            have ll : (sp_as (DK s.N o)).length = 3 := by omega
            rw [ru_36, in_36, if_pos ll] at ps
            refine go_a (pc' := 218) (ls' := [some (.ref (c + 30)), some (.int (iI o)), some (.int (iI e)), some (.int (iI l)), some (.int (iI 36))]) (st' := [.ref (c + 30)]) rfl rfl ?_
            refine go_a (pc' := 219) (ls' := [some (.ref (c + 30)), some (.int (iI o)), some (.int (iI e)), some (.int (iI l)), some (.int (iI 36))]) (st' := [.int (iI o), .ref (c + 30)]) rfl rfl ?_
            refine go_a (pc' := 220) (ls' := [some (.ref (c + 30)), some (.int (iI o)), some (.int (iI e)), some (.int (iI l)), some (.int (iI 36))]) (st' := [.int (iI e), .int (iI o), .ref (c + 30)]) rfl rfl ?_
            refine go_v (m := 283) (as := [.ref (c + 30), .int (iI o), .int (iI e)]) (r := []) rfl rfl rfl (hK.1 19 (by decide)) rfl rfl (kq_put z d c o q h1 s1 NM hP1 ho1 hL r2 W9 L9 e fu _ _ R1 e16 (by omega)) (fun v h3 hq => ?_)
            rw [eW, eN, e17] at hq
            have hq := PRP_tr S1 (ps.1.trans rfl) (ps.2.trans (by rw [ifc_pos ll])) hq
            rcases PRP_v hq with rfl | ⟨y, rfl⟩
            · exact go_r rfl rfl rfl rfl rfl rfl hq
            · exact go_r rfl rfl rfl rfl rfl rfl hq
          · rw [hr]
            refine go_a (pc' := 224) (ls' := [some (.ref (c + 30)), some (.int (iI o)), some (.int (iI e)), some (.int (iI l)), some (.int (iI 37))]) (st' := []) rfl rfl ?_
            rw [hr] at ps
            replace ps : sp_pr NM.2.2.1 NM.2.2.2.1 NM.2.2.2.2 fu (D1 + 1) (DK s.N o) (s.I 17) = sp_ru NM.2.2.1 NM.2.2.2.1 NM.2.2.2.2 (sp_pr NM.2.2.1 NM.2.2.2.1 NM.2.2.2.2 fu D1) 2132882439 (DK s.N o) (s.I 17 + 1) ∧ sp_sn NM.2.2.1 NM.2.2.2.1 NM.2.2.2.2 fu (D1 + 1) (DK s.N o) (s.I 17) = sp_sg (sp_pr NM.2.2.1 NM.2.2.2.1 NM.2.2.2.2 fu D1) (sp_sn NM.2.2.1 NM.2.2.2.1 NM.2.2.2.2 fu D1) (sp_ins NM.2.2.1 NM.2.2.2.1 2132882439 (DK s.N o)) (s.I 17 + 1) := ps
            have ll : 3 ≤ (sp_as (DK s.N o)).length := by omega
            rw [ru_37, in_37, if_pos ll] at ps
            obtain ⟨M, eM⟩ : ∃ M : Nat, q = M + 3 := ⟨q - 3, by omega⟩
            refine go_a (pc' := 225) (ls' := [some (.ref (c + 30)), some (.int (iI o)), some (.int (iI e)), some (.int (iI l)), some (.int (iI 37))]) (st' := [.ref (c + 30)]) rfl rfl ?_
            refine go_a (pc' := 226) (ls' := [some (.ref (c + 30)), some (.int (iI o)), some (.int (iI e)), some (.int (iI l)), some (.int (iI 37))]) (st' := [.int (iI o), .ref (c + 30)]) rfl rfl ?_
            refine go_a (pc' := 227) (ls' := [some (.ref (c + 30)), some (.int (iI o)), some (.int (iI e)), some (.int (iI l)), some (.int (iI 37))]) (st' := [.int (iI l), .int (iI o), .ref (c + 30)]) rfl rfl ?_
            refine go_a (pc' := 228) (ls' := [some (.ref (c + 30)), some (.int (iI o)), some (.int (iI e)), some (.int (iI l)), some (.int (iI 37))]) (st' := [.int (iI 3), .int (iI l), .int (iI o), .ref (c + 30)]) rfl rfl ?_
            refine mi_sub rfl ?_
            refine go_a (pc' := 230) (ls' := [some (.ref (c + 30)), some (.int (iI o)), some (.int (iI e)), some (.int (iI l)), some (.int (iI 37))]) (st' := [.int (iI e), .int (iI (l - 3)), .int (iI o), .ref (c + 30)]) rfl rfl ?_
            rw [show l - 3 = (M : Int) by omega]
            refine go_v (m := 286) (as := [.ref (c + 30), .int (iI o), .int (iI ((M : Int))), .int (iI e)]) (r := []) rfl rfl rfl (hK.1 19 (by decide)) rfl rfl (kq_induct z d c o q h1 s1 NM hP1 ho1 hL r2 W9 L9 e fu _ _ R1 e16 M eM) (fun v h3 hq => ?_)
            rw [eW, eN, e17] at hq
            have hq := PRP_tr S1 (ps.1.trans rfl) (ps.2.trans (by rw [ifc_and ll])) hq
            rcases PRP_v hq with rfl | ⟨y, rfl⟩
            · exact go_r rfl rfl rfl rfl rfl rfl hq
            · exact go_r rfl rfl rfl rfl rfl rfl hq
        · show xx_go (xt_P z) (d + 9) 245 86 [some (.ref (c + 30)), some (.int (iI o)), some (.int (iI e)), some (.int (iI l)), some (.int (iI r))] [.int (iI 0)] h1 _
          refine mi_ne0 (t := 95) rfl rfl (by omega) (by omega) (fun q => absurd rfl q) (fun _ => no r (nol nlo))
    · have pf := pr_fu (ft := NM.2.2.1) (FB := NM.2.2.2.1) (TB := NM.2.2.2.2) (fu := fu) (D := D) (x := DK s.N o) (st := s.I 17) (by omega)
      refine go_a (pc' := 24) (ls' := [some (.ref (c + 30)), some (.int (iI o)), some (.int (iI e)), none, none]) (st' := [.ref (c + 30)]) rfl rfl ?_
      refine go_a (pc' := 25) (ls' := [some (.ref (c + 30)), some (.int (iI o)), some (.int (iI e)), none, none]) (st' := [.int (iI 1), .ref (c + 30)]) rfl rfl ?_
      refine go_v (m := 246) (as := [.ref (c + 30), .int (iI 1)]) (r := []) rfl rfl rfl (hP.1.1 19 (by decide)) rfl rfl (kq_failByP z (d + 8) (w := WD (SD s) o) S0 (by decide) (by decide) (by omega) (by omega) (by omega) (ft := NM.2.2.1) pf.1 pf.2.symm) (fun v h3 hq => ?_)
      obtain ⟨rfl, RR⟩ := hq
      show xx_go (xt_P z) (d + 9) 245 28 [some (.ref (c + 30)), some (.int (iI o)), some (.int (iI e)), none, none] [.null] h3 _
      exact go_r rfl rfl rfl rfl rfl rfl RR
  · obtain rfl : D = 0 := by omega
    refine go_a (pc' := 7) (ls' := [some (.ref (c + 30)), some (.int (iI o)), some (.int (iI e)), none, none]) (st' := [.ref (c + 30)]) rfl rfl ?_
    refine go_a (pc' := 8) (ls' := [some (.ref (c + 30)), some (.int (iI o)), some (.int (iI e)), none, none]) (st' := [.int (iI 2), .ref (c + 30)]) rfl rfl ?_
    refine go_v (m := 246) (as := [.ref (c + 30), .int (iI 2)]) (r := []) rfl rfl rfl (hP.1.1 19 (by decide)) rfl rfl (kq_failByP z (d + 8) (w := WD (SD s) o) S0 (by decide) (by decide) (by omega) (by omega) (by omega) (ft := NM.2.2.1) (ρ := sp_pr NM.2.2.1 NM.2.2.2.1 NM.2.2.2.2 fu 0 (DK s.N o) (s.I 17)) (σ := sp_sn NM.2.2.1 NM.2.2.2.1 NM.2.2.2.2 fu 0 (DK s.N o) (s.I 17)) rfl rfl) (fun v h3 hq => ?_)
    obtain ⟨rfl, RR⟩ := hq
    show xx_go (xt_P z) (d + 9) 245 11 [some (.ref (c + 30)), some (.int (iI o)), some (.int (iI e)), none, none] [.null] h3 _
    exact go_r rfl rfl rfl rfl rfl rfl RR
theorem kq_proves (z : Value) (d c : Nat) (NM : BKM) (fu : Int) : ∀ j : Nat, j ≤ 40 → PRC z (d + 10 + 2 * j) c (40 - j) NM fu (sp_pr NM.2.2.1 NM.2.2.2.1 NM.2.2.2.2 fu j) (sp_sn NM.2.2.1 NM.2.2.2.1 NM.2.2.2.2 fu j)
  | 0, _ => kq_step z d c (40 - (0 : Nat)) NM fu 0 rfl (by decide) (fun D1 q => absurd q (by omega))
  | j + 1, h => by
    have R := kq_proves z d c NM fu j (by omega)
    have := kq_step z (d + 2 + 2 * j) c (40 - ((j + 1 : Nat) : Int)) NM fu (j + 1) rfl (by omega) (fun D1 hD => by
      have hj : j = D1 := by omega
      rw [← hj, show d + 2 + 2 * j + 8 = d + 10 + 2 * j by omega, show 40 - ((j + 1 : Nat) : Int) + 1 = 40 - (j : Int) by omega]
      exact R)
    rw [show d + 10 + 2 * (j + 1) = d + 2 + 2 * j + 10 by omega]
    exact this
theorem kq_prove (z : Value) (d c : Nat) (NM : BKM) (fu : Int) : PRC z (d + 90) c 0 NM fu (sp_pr NM.2.2.1 NM.2.2.2.1 NM.2.2.2.2 fu 40) (sp_sn NM.2.2.1 NM.2.2.2.1 NM.2.2.2.2 fu 40) := kq_proves z d c NM fu 40 (by decide)
theorem kq_begin (z : Value) (d c : Nat) (x : Int) (hp : xx_H) (s : KS) (hK : KI c hp s) : xx_cl (xt_P z) (d + 1) 244 [.ref (c + 30), .int (iI x)] hp (fun v h1 => v = some (.ref (c + 30)) ∧ KI c h1 ((((s.wI 16 x).wI 17 0).wI 18 0).wI 19 0) ∧ kx c hp s h1 ((((s.wI 16 x).wI 17 0).wI 18 0).wI 19 0) 0 0) := by
  have hX := kx_rf (c := c) (hp := hp) (s := s)
  refine cl_go rfl ?_
  show xx_go (xt_P z) d 244 0 [some (.ref (c + 30)), some (.int (iI x))] [] hp _
  refine go_a (pc' := 1) (ls' := [some (.ref (c + 30)), some (.int (iI x))]) (st' := [.ref (c + 30)]) rfl rfl ?_
  refine go_a (pc' := 2) (ls' := [some (.ref (c + 30)), some (.int (iI x))]) (st' := [.int (iI x), .ref (c + 30)]) rfl rfl ?_
  refine kput_16 (x := x) hK hX rfl rfl (fun hp1 hK hX => ?_)
  refine go_a (pc' := 6) (ls' := [some (.ref (c + 30)), some (.int (iI x))]) (st' := [.ref (c + 30)]) rfl rfl ?_
  refine go_a (pc' := 7) (ls' := [some (.ref (c + 30)), some (.int (iI x))]) (st' := [.int (iI 0), .ref (c + 30)]) rfl rfl ?_
  refine kput_17 (x := 0) hK hX rfl rfl (fun hp1 hK hX => ?_)
  refine go_a (pc' := 11) (ls' := [some (.ref (c + 30)), some (.int (iI x))]) (st' := [.ref (c + 30)]) rfl rfl ?_
  refine go_a (pc' := 12) (ls' := [some (.ref (c + 30)), some (.int (iI x))]) (st' := [.int (iI 0), .ref (c + 30)]) rfl rfl ?_
  refine kput_18 (x := 0) hK hX rfl rfl (fun hp1 hK hX => ?_)
  refine go_a (pc' := 16) (ls' := [some (.ref (c + 30)), some (.int (iI x))]) (st' := [.ref (c + 30)]) rfl rfl ?_
  refine go_a (pc' := 17) (ls' := [some (.ref (c + 30)), some (.int (iI x))]) (st' := [.int (iI 0), .ref (c + 30)]) rfl rfl ?_
  refine kput_19 (x := 0) hK hX rfl rfl (fun hp1 hK hX => ?_)
  refine go_a (pc' := 21) (ls' := [some (.ref (c + 30)), some (.int (iI x))]) (st' := [.ref (c + 30)]) rfl rfl ?_
  exact go_r rfl rfl rfl rfl rfl rfl ⟨rfl, hK, hX⟩
