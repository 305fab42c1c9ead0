def GF (s s1 : KS) : Prop := s1.T = s.T ∧ (∀ j : Nat, j ≤ 5 ∨ 12 ≤ j → s1.A j = s.A j ∧ s1.C j = s.C j ∧ s1.P j = s.P j) ∧ (∀ j : Nat, j ≤ 5 ∨ (9 ≤ j ∧ j ≤ 15) ∨ j = 20 ∨ j = 24 ∨ 26 ≤ j → s1.I j = s.I j) ∧ s.I 8 ≤ s1.I 8 ∧ ∀ e : Int, e < s.I 8 → s1.N e = s.N e ∧ s1.A 9 e = s.A 9 e
def KWS (c : Nat) (hp : xx_H) (s : KS) (NM : BKM) (t : List sp_Th) (k : Int) : Prop := KI c hp s ∧ KB s ∧ CI s ∧ OC hp ∧ BKS c hp s NM t (s.I 24) (s.I 27) (s.I 28) ∧ s.I 26 = (t.length : Int) ∧ LI k s ∧ (s.I 14 = -1 ∧ s.I 15 = -1) ∧ s.I 24 ≤ s.I 8 ∧ (s.I 27 ≤ 40 ∧ s.I 28 ≤ 60) ∧ (1 ≤ s.I 20 ∧ s.I 20 ≤ 1000) ∧ (KQ s ∧ KNN s ∧ NM.2.2.1 = sp_ft (sp_FB t) ∧ NM.2.2.2.1 = sp_FB t ∧ NM.2.2.2.2 = sp_TB t)
def CFR (s s1 : KS) : Prop := (s1.I 0 = s.I 0 ∧ s1.I 4 = s.I 4 ∧ s1.I 20 = s.I 20) ∧ s1.A 12 = s.A 12 ∧ s1.A 0 = s.A 0
def KCM (c : Nat) (hp : xx_H) (s : KS) (k w : Int) (ρ : (List sp_Th × Int) × Int) (v : Option Value) (h1 : xx_H) : Prop := ∃ (x : Int) (s1 : KS) (NM1 : BKM) (t1 : List sp_Th), v = some (.int (iI x)) ∧ ((t1, s1.I 23), s1.I 22) = ρ ∧ KWS c h1 s1 NM1 t1 (k + 1) ∧ CFR s s1 ∧ kx c hp s h1 s1 (100 * w + 20) (700 * w + 300) ∧ s1.I 24 ≤ s.I 8 + w
section EL
variable {c : Nat} {t : List sp_Th} {ρ : (List sp_Th × Int) × Int} {hp h1 h2 : xx_H} {s s1 s2 : KS} {NM : BKM} {α β γ k a b x w : Int}
theorem GF_rf : GF s s := ⟨rfl, fun _ _ => ⟨rfl, rfl, rfl⟩, fun _ _ => rfl, Int.le_refl _, fun _ _ => ⟨rfl, rfl⟩⟩
theorem GF_tr (a : GF s s1) (b : GF s1 s2) : GF s s2 := ⟨b.1.trans a.1, fun j h => ⟨(b.2.1 j h).1.trans (a.2.1 j h).1, (b.2.1 j h).2.1.trans (a.2.1 j h).2.1, (b.2.1 j h).2.2.trans (a.2.1 j h).2.2⟩, fun j h => (b.2.2.1 j h).trans (a.2.2.1 j h), Int.le_trans a.2.2.2.1 b.2.2.2.1, fun e h => ⟨((b.2.2.2.2 e (by have := a.2.2.2.1; omega)).1).trans (a.2.2.2.2 e h).1, ((b.2.2.2.2 e (by have := a.2.2.2.1; omega)).2).trans (a.2.2.2.2 e h).2⟩⟩
theorem PFR_G (h : PFR s s1) : GF s s1 := ⟨h.1, fun j q => h.2.1 j q, fun j q => h.2.2.1 j (by omega) (by omega) (by omega) (by omega) (by omega) (by omega), h.2.2.2.1, h.2.2.2.2⟩
theorem SF_G (h : SF s s1) : GF s s1 := ⟨h.1.2.2.1, fun j _ => ⟨by rw [h.1.1], by rw [h.1.2.2.2.1], by rw [h.1.2.2.2.2]⟩, fun j q => h.2 j (by omega) (by omega) (by omega) (by omega), Int.le_of_eq (h.2 8 (by decide) (by decide) (by decide) (by decide)).symm, fun e _ => ⟨by rw [h.1.2.1], by rw [h.1.1]⟩⟩
theorem GF_wI {j : Nat} (hj : 16 ≤ j ∧ j ≤ 19) : GF s (s.wI j x) := ⟨rfl, fun _ _ => ⟨rfl, rfl, rfl⟩, fun i q => su_ne (by omega), Int.le_of_eq (su_ne (by omega)).symm, fun _ _ => ⟨rfl, rfl⟩⟩
theorem GF_C (h : GF s s1) : CFR s s1 := ⟨⟨h.2.2.1 0 (by decide), h.2.2.1 4 (by decide), h.2.2.1 20 (by decide)⟩, (h.2.1 12 (by decide)).1, (h.2.1 0 (by decide)).1⟩
theorem CFR_tr (a : CFR s s1) (b : CFR s1 s2) : CFR s s2 := ⟨⟨b.1.1.trans a.1.1, b.1.2.1.trans a.1.2.1, b.1.2.2.trans a.1.2.2⟩, b.2.1.trans a.2.1, b.2.2.trans a.2.2⟩
theorem KWS_GF (h : KWS c hp s NM t k) (K : KI c h1 s1) (B : KB s1) (C : CI s1) (X : kx c hp s h1 s1 a b) (F : GF s s1) (hQ : KQ s → KQ s1) : KWS c h1 s1 NM t k := by
  obtain ⟨q1, q2, q3, q4, q5, q6, q7, q8, q9, q10, q11, q12⟩ := h
  have u38 := KB_38 q2
  have i := F.2.2.1
  have i14 := i 14 (by decide)
  have i15 := i 15 (by decide)
  have i20 := i 20 (by decide)
  have i24 := i 24 (by decide)
  have i26 := i 26 (by decide)
  have i27 := i 27 (by decide)
  have i28 := i 28 (by decide)
  have i29 := i 29 (by decide)
  have i30 := i 30 (by decide)
  have i31 := i 31 (by decide)
  have l8 := F.2.2.2.1
  refine ⟨K, B, C, OC_kx q4 X, ?_, by omega, ?_, ⟨by omega, by omega⟩, by omega, by omega, by omega, hQ q12.1, fun i hi => ?_, q12.2.2⟩
  · rw [i24, i27, i28]
    exact BKS_kx q5 X (Int.le_refl _) (fun _ _ _ => by rw [F.1]) (fun _ _ _ => by rw [F.1]) (fun _ _ _ => by rw [F.1]) (fun _ _ _ => rfl) (fun _ _ _ => rfl) (fun k k0 k1 => DK_e q2 ⟨q3, q12.1.1⟩ (fun e he => (F.2.2.2.2 e he).1) k0 (by omega))
  · have c13 := F.2.1 13 (by decide)
    have c14 := F.2.1 14 (by decide)
    have c15 := F.2.1 15 (by decide)
    obtain ⟨m1, m2, m3, m4, m5, m6⟩ := q7
    exact ⟨by rw [c13.2.1, c13.2.2]; exact m1, by rw [c14.2.1, c14.2.2]; exact m2, by rw [c15.2.1, c15.2.2]; exact m3, by omega, by omega, by omega⟩
  · rw [(F.2.2.2.2 (i : Int) (by omega)).1]
    exact q12.2.1 i hi
theorem KWS_k {k1 : Int} (h : KWS c hp s NM t k) (hk : k ≤ k1) : KWS c hp s NM t k1 := by
  obtain ⟨q1, q2, q3, q4, q5, q6, ⟨m1, m2, m3, m4, m5, m6⟩, q8⟩ := h
  exact ⟨q1, q2, q3, q4, q5, q6, ⟨m1, m2, m3, by omega, by omega, by omega⟩, q8⟩
theorem KWS_PS (h : KWS c hp s NM t k) (l : s.I 8 ≤ 25000) : KPS c hp s NM := by
  obtain ⟨q1, q2, q3, q4, q5, q6, q7, q8, q9, q10, q11, q12⟩ := h
  exact ⟨q1, q2, q3, q4, BKS_BF q5 q9 rfl, BKS_BT q5 q9 rfl, q8.1, l, BKS_KNT q5 q9 q12.1 q12.2.1 q3 q2 q12.2.2.1 q12.2.2.2.1 q12.2.2.2.2⟩
theorem KCM_0 {v : Option Value} (h : KWS c hp s NM t k) (K : KI c h1 s1) (B : KB s1) (C : CI s1) (X : kx c hp s h1 s1 a b) (F : GF s s1) (hQ : KQ s → KQ s1) (eρ : ((t, s1.I 23), s1.I 22) = ρ) (ev : v = some (.int (iI x))) (l1 : a ≤ 100 * w + 20) (l2 : b ≤ 700 * w + 300) (w0 : 0 ≤ w) : KCM c hp s k w ρ v h1 := by
  refine ⟨x, s1, NM, t, ev, eρ, KWS_k (KWS_GF h K B C X F hQ) (by omega), GF_C F, kx_w X l1 l2, ?_⟩
  rw [F.2.2.1 24 (by decide)]
  have := h.2.2.2.2.2.2.2.2.1
  omega
end EL
noncomputable def sp_clz (t : List sp_Th) (lit fuel : Int) (y : ob_T) : (List sp_Th × Int) × Int := match (sp_pv t fuel y).1 with
  | none => ((t, lit), (sp_pv t fuel y).2)
  | some D => ((t, (D.1.length : Int)), D.2)
theorem sp_clz_n {t : List sp_Th} {lit fuel : Int} {y : ob_T} (h : (sp_pv t fuel y).1 = none) : sp_clz t lit fuel y = ((t, lit), (sp_pv t fuel y).2) := by
  unfold sp_clz
  rw [h]
theorem sp_clz_s {t : List sp_Th} {lit fuel st : Int} {y : ob_T} {D : List ob_T} (h : (sp_pv t fuel y).1 = some (D, st)) : sp_clz t lit fuel y = ((t, (D.length : Int)), st) := by
  unfold sp_clz
  rw [h]
theorem PFR_I {s s1 : KS} (h : PFR s s1) : s1.I 22 = s.I 22 ∧ s1.I 23 = s.I 23 := ⟨h.2.2.1 22 (by decide) (by decide) (by decide) (by decide) (by decide) (by decide), h.2.2.1 23 (by decide) (by decide) (by decide) (by decide) (by decide) (by decide)⟩
theorem SF_Q {s s1 : KS} (h : SF s s1) (q : KQ s) : KQ s1 := KQ_e h.1.2.1 (by rw [h.1.1]) (by rw [h.1.1]) (by rw [h.1.1]) (h.2 8 (by decide) (by decide) (by decide) (by decide)) q
theorem TRO_m {N : Int → Int} {U : Int} {ft : Nat → Int} {m : Int} {nO : Int → Int} {fO : Int → Int → Int} {Z : List (List Int)} {D : List ob_T} (h : TRO N U ft Z D) (e : ol m nO fO = Z) (m0 : 0 ≤ m) : (D.length : Int) = m := by
  have := (TRO_len Z D h).1
  rw [← e, ol_len] at this
  omega
theorem kk_clause (z : Value) (d c : Nat) (x : Int) (hp : xx_H) (s : KS) (NM : BKM) (t : List sp_Th) (k : Int) (hW : KWS c hp s NM t k) (ho : OB s x) (w9 : WD (SD s) x ≤ 1001) (l25 : s.I 8 + WD (SD s) x ≤ 25000) (hL : isL (SD s) 2 x) (r2 : pi s 0 x ≠ 2) : xx_cl (xt_P z) (d + 91) 302 [.ref (c + 0), .int (iI x)] hp (fun v h1 => KCM c hp s k (WD (SD s) x) (sp_clz t (s.I 23) (s.I 20) (sp_p 1 (DK s.N x))) v h1) := by
  have hC := hW.2.2.1
  have hB := hW.2.1
  have u38 := KB_38 hB
  have oR := OB_R hB ho
  have f20 := hW.2.2.2.2.2.2.2.2.2.2.1
  have W := PI_W hC ho hL (by decide) r2
  have p0 : VD (SD s) (rt (SD s) 0 x) = WD (SD s) (pi s 0 x) + VD (SD s) (rt (SD s) 1 x) ∧ OB s (pi s 0 x) ∧ 1 ≤ WD (SD s) (pi s 0 x) ∧ 0 ≤ VD (SD s) (rt (SD s) 1 x) := PI_w hC ho hL (j := 0) (by decide)
  have p1 : VD (SD s) (rt (SD s) 1 x) = WD (SD s) (pi s 1 x) + VD (SD s) (rt (SD s) 2 x) ∧ OB s (pi s 1 x) ∧ 1 ≤ WD (SD s) (pi s 1 x) ∧ 0 ≤ VD (SD s) (rt (SD s) 2 x) := PI_w hC ho hL (j := 1) (by decide)
  obtain ⟨p0, o0, i0, j0⟩ := p0
  obtain ⟨p1, o1, i1, j1⟩ := p1
  refine cl_go rfl ?_
  show xx_go (xt_P z) (d + 90) 302 0 [some (.ref (c + 0)), some (.int (iI x)), none] [] hp _
  refine go_a (pc' := 1) (ls' := [some (.ref (c + 0)), some (.int (iI x)), none]) (st' := [.ref (c + 0)]) rfl rfl ?_
  refine go_get (v := .ref (c + 30)) rfl (hW.1.1 0 (by decide)) rfl rfl ?_
  refine go_a (pc' := 5) (ls' := [some (.ref (c + 0)), some (.int (iI x)), none]) (st' := [.ref (c + 0), .ref (c + 30)]) rfl rfl ?_
  refine go_get (v := .int (iI (s.I 20))) rfl (hW.1.1 0 (by decide)) rfl rfl ?_
  refine go_v (m := 244) (as := [.ref (c + 30), .int (iI (s.I 20))]) (r := []) rfl rfl rfl (hW.1.1 19 (by decide)) rfl rfl (kq_begin z (d + 89) c (s.I 20) hp s hW.1) (fun v h1 hq => ?_)
  obtain ⟨rfl, K1, X1⟩ := hq
  have B1 : KB ((((s.wI 16 (s.I 20)).wI 17 0).wI 18 0).wI 19 0) := KB_wF (KB_wF (KB_wF (KB_wF hW.2.1 (by omega) (by omega) (by decide)) (by decide) (by decide) (by decide)) (by decide) (by decide) (by decide)) (by decide) (by decide) (by decide)
  have F1 : GF s ((((s.wI 16 (s.I 20)).wI 17 0).wI 18 0).wI 19 0) := GF_tr (GF_tr (GF_tr (GF_wI (by decide)) (GF_wI (by decide))) (GF_wI (by decide))) (GF_wI (by decide))
  have C1 : CI ((((s.wI 16 (s.I 20)).wI 17 0).wI 18 0).wI 19 0) := KSA_CI (s := s) ⟨rfl, rfl, rfl⟩ hW.2.2.1
  have D1 : SD ((((s.wI 16 (s.I 20)).wI 17 0).wI 18 0).wI 19 0) = SD s := rfl
  have E1 : ((((s.wI 16 (s.I 20)).wI 17 0).wI 18 0).wI 19 0).I 8 = s.I 8 := rfl
  have Q1 : KQ s → KQ ((((s.wI 16 (s.I 20)).wI 17 0).wI 18 0).wI 19 0) := fun q => KQ_e (s := s) rfl rfl rfl rfl rfl q
  have eN1 : ((((s.wI 16 (s.I 20)).wI 17 0).wI 18 0).wI 19 0).N = s.N := rfl
  have e17_1 : ((((s.wI 16 (s.I 20)).wI 17 0).wI 18 0).wI 19 0).I 17 = 0 := rfl
  have e16_1 : ((((s.wI 16 (s.I 20)).wI 17 0).wI 18 0).wI 19 0).I 16 = s.I 20 := rfl
  have e23_1 : ((((s.wI 16 (s.I 20)).wI 17 0).wI 18 0).wI 19 0).I 23 = s.I 23 := rfl
  obtain ⟨s1, es1⟩ : ∃ q : KS, q = ((((s.wI 16 (s.I 20)).wI 17 0).wI 18 0).wI 19 0) := ⟨_, rfl⟩
  rw [← es1] at K1 X1 B1 F1 C1 D1 E1 Q1 eN1 e17_1 e16_1 e23_1
  have W1 := KWS_GF hW K1 B1 C1 X1 F1 Q1
  show xx_go (xt_P z) (d + 90) 302 11 [some (.ref (c + 0)), some (.int (iI x)), none] [.ref (c + 30)] h1 _
  have ho1 : OB s1 x := ⟨ho.1, by rw [E1]; exact ho.2⟩
  have T1 := KST_rf' K1 B1 C1
  have op1 : OB s1 (pi s 1 x) := ⟨o1.1, by rw [E1]; exact o1.2⟩
  have hP1 := KWS_PS W1 (by omega)
  have wp : WD (SD s1) (pi s 1 x) = WD (SD s) (pi s 1 x) := by rw [D1]
  refine go_a (pc' := 12) (ls' := [some (.ref (c + 0)), some (.int (iI x)), none]) (st' := [.ref (c + 0), .ref (c + 30)]) rfl rfl ?_
  refine go_get (v := .ref (c + 4)) rfl (K1.1 0 (by decide)) rfl rfl ?_
  refine go_a (pc' := 16) (ls' := [some (.ref (c + 0)), some (.int (iI x)), none]) (st' := [.int (iI x), .ref (c + 4), .ref (c + 30)]) rfl rfl ?_
  refine go_a (pc' := 17) (ls' := [some (.ref (c + 0)), some (.int (iI x)), none]) (st' := [.int (iI 1), .int (iI x), .ref (c + 4), .ref (c + 30)]) rfl rfl ?_
  refine go_v (m := 202) (as := [.ref (c + 4), .int (iI x), .int (iI 1)]) (r := [.ref (c + 30)]) rfl rfl rfl (K1.1 3 (by decide)) rfl rfl (kq_part z (d + 88) T1 C1 ho1 (by rw [D1]; exact hL) (by decide) (by decide) (by decide)) (fun v h3 hq => ?_)
  obtain ⟨rfl, e9⟩ := hq
  rw [e9]
  clear e9 h3
  rw [show pi s1 (1 : Int).toNat x = pi s 1 x by unfold pi; rw [D1]; rfl]
  show xx_go (xt_P z) (d + 90) 302 20 [some (.ref (c + 0)), some (.int (iI x)), none] [.int (iI (pi s 1 x)), .ref (c + 30)] h1 _
  refine go_a (pc' := 21) (ls' := [some (.ref (c + 0)), some (.int (iI x)), none]) (st' := [.int (iI 0), .int (iI (pi s 1 x)), .ref (c + 30)]) rfl rfl ?_
  have pd := PI_D (KWS_PS hW (by omega)) ho hL (j := 1) (by decide)
  have nmE := hW.2.2.2.2.2.2.2.2.2.2.2.2.2
  refine go_v (m := 245) (as := [.ref (c + 30), .int (iI (pi s 1 x)), .int (iI 0)]) (r := []) rfl rfl rfl (K1.1 19 (by decide)) rfl rfl (kq_prove z d c NM (s.I 20) h1 s1 (pi s 1 x) hP1 e16_1 op1 (by omega) (by omega)) (fun v h2 hq => ?_)
  rw [wp, eN1, e17_1, pd, nmE.1, nmE.2.1, nmE.2.2] at hq
  obtain ⟨s2, ⟨rfl, en, eg, S2⟩ | ⟨y, Z, DD, rfl, hy, C2, ⟨TO, es⟩, S2⟩⟩ := hq
  · show xx_go (xt_P z) (d + 90) 302 24 [some (.ref (c + 0)), some (.int (iI x)), none] [.null] h2 _
    refine go_a (pc' := 25) (ls' := [some (.ref (c + 0)), some (.int (iI x)), some (.null)]) (st' := []) rfl rfl ?_
    refine go_a (pc' := 26) (ls' := [some (.ref (c + 0)), some (.int (iI x)), some (.null)]) (st' := [.null]) rfl rfl ?_
    refine go_a (pc' := 29) (ls' := [some (.ref (c + 0)), some (.int (iI x)), some (.null)]) (st' := []) rfl rfl ?_
    refine go_a (pc' := 30) (ls' := [some (.ref (c + 0)), some (.int (iI x)), some (.null)]) (st' := [.ref (c + 0)]) rfl rfl ?_
    refine go_v (m := 296) (as := [.ref (c + 0)]) (r := []) rfl rfl rfl (S2.1.1 0 (by decide)) rfl rfl (kk_failure z (d + 89) c h2 s2 S2.1 S2.2.1) (fun v h3 hq => ?_)
    obtain ⟨q, s3, rfl, K3, B3, X3, F3, i22, i23⟩ := hq
    have i232 := (PFR_I S2.2.2.2.1).2
    have X9 := kx_tr (kx_tr X1 S2.2.2.2.2.1) X3
    have F9 := GF_tr (GF_tr F1 (PFR_G S2.2.2.2.1)) (SF_G F3)
    have C9 : CI s3 := KSA_CI ⟨F3.1.2.1, by rw [F3.1.1], F3.2 8 (by decide) (by decide) (by decide) (by decide)⟩ S2.2.2.1
    show xx_go (xt_P z) (d + 90) 302 33 [some (.ref (c + 0)), some (.int (iI x)), some (.null)] [.int (iI q)] h3 _
    exact go_r rfl rfl rfl rfl rfl rfl (KCM_0 hW K3 B3 C9 X9 F9 (fun q => SF_Q F3 (S2.2.2.2.2.2.2 (Q1 q))) (by rw [sp_clz_n en, i22, eg, i23, i232, e23_1]; rfl) rfl (by omega) (by omega) (by omega))
  · have b17 := S2.2.1.2.1 17
    obtain ⟨m, w, O, nO, fO, D2, eZ⟩ := id C2
    have mR := D2.2.2.2.1
    have ml := TRO_m TO eZ mR.1
    have l8 := S2.2.2.2.2.2.1
    have hX := kx_rf (c := c) (hp := h2) (s := s2)
    show xx_go (xt_P z) (d + 90) 302 24 [some (.ref (c + 0)), some (.int (iI x)), none] [.ref y] h2 _
    refine go_a (pc' := 25) (ls' := [some (.ref (c + 0)), some (.int (iI x)), some (.ref y)]) (st' := []) rfl rfl ?_
    refine go_a (pc' := 26) (ls' := [some (.ref (c + 0)), some (.int (iI x)), some (.ref y)]) (st' := [.ref y]) rfl rfl ?_
    refine go_a (pc' := 34) (ls' := [some (.ref (c + 0)), some (.int (iI x)), some (.ref y)]) (st' := []) rfl rfl ?_
    refine go_a (pc' := 35) (ls' := [some (.ref (c + 0)), some (.int (iI x)), some (.ref y)]) (st' := [.ref (c + 0)]) rfl rfl ?_
    refine go_a (pc' := 36) (ls' := [some (.ref (c + 0)), some (.int (iI x)), some (.ref y)]) (st' := [.ref (c + 0), .ref (c + 0)]) rfl rfl ?_
    refine go_get (v := .ref (c + 30)) rfl (S2.1.1 0 (by decide)) rfl rfl ?_
    refine go_get (v := .int (iI (s2.I 17))) rfl (S2.1.1 19 (by decide)) rfl rfl ?_
    refine kput_22 (x := s2.I 17) S2.1 hX rfl rfl (fun h4 hK hX => ?_)
    refine go_a (pc' := 46) (ls' := [some (.ref (c + 0)), some (.int (iI x)), some (.ref y)]) (st' := [.ref (c + 0)]) rfl rfl ?_
    refine go_a (pc' := 47) (ls' := [some (.ref (c + 0)), some (.int (iI x)), some (.ref y)]) (st' := [.ref y, .ref (c + 0)]) rfl rfl ?_
    have D3 := CLS_kx D2 hX
    have B3 : KB (s2.wI 22 (s2.I 17)) := KB_wF S2.2.1 (by omega) (by omega) (by decide)
    refine go_v (m := 280) (as := [.ref y]) (r := [.ref (c + 0)]) rfl rfl rfl D3.1 rfl rfl (kh_length z (d + 89) c h4 (s2.wI 22 (s2.I 17)) _ y m w 0 O nO fO D3) (fun v h5 hq => ?_)
    obtain ⟨rfl, e9⟩ := hq
    rw [e9]
    clear e9 h5
    show xx_go (xt_P z) (d + 90) 302 50 [some (.ref (c + 0)), some (.int (iI x)), some (.ref y)] [.int (iI m), .ref (c + 0)] h4 _
    refine kput_23 (x := m) hK hX rfl rfl (fun h5 hK hX => ?_)
    refine go_a (pc' := 54) (ls' := [some (.ref (c + 0)), some (.int (iI x)), some (.ref y)]) (st' := [.ref (c + 0)]) rfl rfl ?_
    refine go_a (pc' := 55) (ls' := [some (.ref (c + 0)), some (.int (iI x)), some (.ref y)]) (st' := [.ref (c + 0), .ref (c + 0)]) rfl rfl ?_
    refine go_get (v := .ref (c + 25)) rfl (hK.1 0 (by decide)) rfl rfl ?_
    refine go_a (pc' := 59) (ls' := [some (.ref (c + 0)), some (.int (iI x)), some (.ref y)]) (st' := [.ref y, .ref (c + 25), .ref (c + 0)]) rfl rfl ?_
    have D4 := CLS_kx D2 hX
    have B4 : KB ((s2.wI 22 (s2.I 17)).wI 23 m) := KB_wF B3 (by omega) (by omega) (by decide)
    have F4 : SF s2 ((s2.wI 22 (s2.I 17)).wI 23 m) := SF_tr (SF_wI (by decide)) (SF_wI (by decide))
    have C4 : CI ((s2.wI 22 (s2.I 17)).wI 23 m) := KSA_CI (s := s2) ⟨rfl, rfl, rfl⟩ S2.2.2.1
    have W4 := KWS_GF (KWS_GF W1 S2.1 S2.2.1 S2.2.2.1 S2.2.2.2.2.1 (PFR_G S2.2.2.2.1) S2.2.2.2.2.2.2) hK B4 C4 hX (SF_G F4) (SF_Q F4)
    have i224 : ((s2.wI 22 (s2.I 17)).wI 23 m).I 22 = s2.I 17 := rfl
    have i234 : ((s2.wI 22 (s2.I 17)).wI 23 m).I 23 = m := rfl
    have X4 := kx_tr (kx_tr X1 S2.2.2.2.2.1) hX
    have F5 := GF_tr (GF_tr F1 (PFR_G S2.2.2.2.1)) (SF_G F4)
    refine go_v (m := 297) (as := [.ref (c + 25), .ref y]) (r := [.ref (c + 0)]) rfl rfl rfl (hK.1 16 (by decide)) rfl rfl (kg_clist z (d + 82) c (s2.I 8) y m w 0 O nO fO h5 ((s2.wI 22 (s2.I 17)).wI 23 m) hK B4 ⟨C4, W4.2.2.2.2.2.2.2.2.2.2.2.1⟩ NM (BKS_BF W4.2.2.2.2.1 W4.2.2.2.2.2.2.2.2.1 rfl) (by omega) (Int.le_refl _) (show s2.I 8 < 26000 by omega) D4) (fun v h6 hq => ?_)
    obtain ⟨r, s6, rfl, K6, B6, C6, X6, F6, l6, O6⟩ := hq
    have rR := OB_R B6 O6
    have hX := kx_rf (c := c) (hp := h6) (s := s6)
    show xx_go (xt_P z) (d + 90) 302 62 [some (.ref (c + 0)), some (.int (iI x)), some (.ref y)] [.int (iI r), .ref (c + 0)] h6 _
    refine kput_25 (x := r) K6 hX rfl rfl (fun h7 hK hX => ?_)
    refine go_a (pc' := 66) (ls' := [some (.ref (c + 0)), some (.int (iI x)), some (.ref y)]) (st' := [.int (iI 0)]) rfl rfl ?_
    have X9 := kx_tr (kx_tr X4 X6) hX
    have B9 : KB (s6.wI 25 r) := KB_wF B6 (by omega) (by omega) (by decide)
    have p6 := PFR_I F6
    have i226 : (s6.wI 25 r).I 22 = s6.I 22 := rfl
    have i236 : (s6.wI 25 r).I 23 = s6.I 23 := rfl
    exact go_r rfl rfl rfl rfl rfl rfl (KCM_0 hW hK B9 (KSA_CI (s := s6) ⟨rfl, rfl, rfl⟩ C6.1) X9 (GF_tr (GF_tr F5 (PFR_G F6)) (SF_G (SF_wI (by decide)))) (fun _ => KQ_e (s := s6) rfl rfl rfl rfl rfl C6.2) (by rw [sp_clz_s es, i226, i236, p6.1, p6.2, i224, i234, ml]) rfl (by omega) (by omega) (by omega))
