def GF (s s1 : KS) : Prop := s1.T = s.T ∧ (∀ j : Nat, j ≤ 5 ∨ 12 ≤ j → s1.A j = s.A j ∧ s1.C j = s.C j ∧ s1.P j = s.P j) ∧ (∀ j : Nat, j ≤ 5 ∨ (9 ≤ j ∧ j ≤ 15) ∨ j = 20 ∨ j = 24 ∨ 26 ≤ j → s1.I j = s.I j) ∧ s.I 8 ≤ s1.I 8 ∧ ∀ e : Int, e < s.I 8 → s1.N e = s.N e ∧ s1.A 9 e = s.A 9 e
def KWS (c : Nat) (hp : xx_H) (s : KS) (NM : Int → Int) (t : Nat) (k : Int) : Prop := KI c hp s ∧ KB s ∧ CI s ∧ OC hp ∧ BKS c hp s NM t (s.I 24) (s.I 27) (s.I 28) ∧ s.I 26 = t ∧ LI k s ∧ (s.I 14 = -1 ∧ s.I 15 = -1) ∧ s.I 24 ≤ s.I 8 ∧ (s.I 27 ≤ 40 ∧ s.I 28 ≤ 60) ∧ (1 ≤ s.I 20 ∧ s.I 20 ≤ 1000)
def CFR (s s1 : KS) : Prop := (s1.I 0 = s.I 0 ∧ s1.I 4 = s.I 4 ∧ s1.I 20 = s.I 20) ∧ s1.A 12 = s.A 12 ∧ s1.A 0 = s.A 0
def KCM (c : Nat) (hp : xx_H) (s : KS) (k w : Int) (v : Option Value) (h1 : xx_H) : Prop := ∃ (x : Int) (s1 : KS) (NM1 : Int → Int) (t1 : Nat), v = some (.int (iI x)) ∧ KWS c h1 s1 NM1 t1 (k + 1) ∧ CFR s s1 ∧ kx c hp s h1 s1 (100 * w + 20) (700 * w + 300) ∧ s1.I 24 ≤ s.I 8 + w
section EL
variable {c t : Nat} {hp h1 h2 : xx_H} {s s1 s2 : KS} {NM : Int → Int} {α β γ k a b x w : Int}
theorem GF_rf : GF s s := ⟨rfl, fun _ _ => ⟨rfl, rfl, rfl⟩, fun _ _ => rfl, Int.le_refl _, fun _ _ => ⟨rfl, rfl⟩⟩
theorem GF_tr (a : GF s s1) (b : GF s1 s2) : GF s s2 := ⟨b.1.trans a.1, fun j h => ⟨(b.2.1 j h).1.trans (a.2.1 j h).1, (b.2.1 j h).2.1.trans (a.2.1 j h).2.1, (b.2.1 j h).2.2.trans (a.2.1 j h).2.2⟩, fun j h => (b.2.2.1 j h).trans (a.2.2.1 j h), Int.le_trans a.2.2.2.1 b.2.2.2.1, fun e h => ⟨((b.2.2.2.2 e (by have := a.2.2.2.1; omega)).1).trans (a.2.2.2.2 e h).1, ((b.2.2.2.2 e (by have := a.2.2.2.1; omega)).2).trans (a.2.2.2.2 e h).2⟩⟩
theorem PFR_G (h : PFR s s1) : GF s s1 := ⟨h.1, fun j q => h.2.1 j q, fun j q => h.2.2.1 j (by omega) (by omega) (by omega) (by omega) (by omega) (by omega), h.2.2.2.1, h.2.2.2.2⟩
theorem SF_G (h : SF s s1) : GF s s1 := ⟨h.1.2.2.1, fun j _ => ⟨by rw [h.1.1], by rw [h.1.2.2.2.1], by rw [h.1.2.2.2.2]⟩, fun j q => h.2 j (by omega) (by omega) (by omega) (by omega), Int.le_of_eq (h.2 8 (by decide) (by decide) (by decide) (by decide)).symm, fun e _ => ⟨by rw [h.1.2.1], by rw [h.1.1]⟩⟩
theorem GF_wI {j : Nat} (hj : 16 ≤ j ∧ j ≤ 19) : GF s (s.wI j x) := ⟨rfl, fun _ _ => ⟨rfl, rfl, rfl⟩, fun i q => su_ne (by omega), Int.le_of_eq (su_ne (by omega)).symm, fun _ _ => ⟨rfl, rfl⟩⟩
theorem GF_C (h : GF s s1) : CFR s s1 := ⟨⟨h.2.2.1 0 (by decide), h.2.2.1 4 (by decide), h.2.2.1 20 (by decide)⟩, (h.2.1 12 (by decide)).1, (h.2.1 0 (by decide)).1⟩
theorem CFR_tr (a : CFR s s1) (b : CFR s1 s2) : CFR s s2 := ⟨⟨b.1.1.trans a.1.1, b.1.2.1.trans a.1.2.1, b.1.2.2.trans a.1.2.2⟩, b.2.1.trans a.2.1, b.2.2.trans a.2.2⟩
theorem KWS_GF (h : KWS c hp s NM t k) (K : KI c h1 s1) (B : KB s1) (C : CI s1) (X : kx c hp s h1 s1 a b) (F : GF s s1) : KWS c h1 s1 NM t k := by
  obtain ⟨q1, q2, q3, q4, q5, q6, q7, q8, q9, q10, q11⟩ := h
  have i := F.2.2.1
  have i14 := i 14 (by decide)
  have i15 := i 15 (by decide)
  have i20 := i 20 (by decide)
  have i24 := i 24 (by decide)
  have i26 := i 26 (by decide)
  have i27 := i 27 (by decide)
  have i28 := i 28 (by decide)
  have i29 := i 29 (by decide)
  have i30 := i 30 (by decide)
  have i31 := i 31 (by decide)
  have l8 := F.2.2.2.1
  refine ⟨K, B, C, OC_kx q4 X, ?_, by omega, ?_, ⟨by omega, by omega⟩, by omega, by omega, by omega⟩
  · rw [i24, i27, i28]
    exact BKS_kx q5 X (Int.le_refl _) (fun _ _ _ => by rw [F.1]) (fun _ _ _ => by rw [F.1]) (fun _ _ _ => by rw [F.1]) (fun _ _ _ => rfl)
  · have c13 := F.2.1 13 (by decide)
    have c14 := F.2.1 14 (by decide)
    have c15 := F.2.1 15 (by decide)
    obtain ⟨m1, m2, m3, m4, m5, m6⟩ := q7
    exact ⟨by rw [c13.2.1, c13.2.2]; exact m1, by rw [c14.2.1, c14.2.2]; exact m2, by rw [c15.2.1, c15.2.2]; exact m3, by omega, by omega, by omega⟩
theorem KWS_k {k1 : Int} (h : KWS c hp s NM t k) (hk : k ≤ k1) : KWS c hp s NM t k1 := by
  obtain ⟨q1, q2, q3, q4, q5, q6, ⟨m1, m2, m3, m4, m5, m6⟩, q8⟩ := h
  exact ⟨q1, q2, q3, q4, q5, q6, ⟨m1, m2, m3, by omega, by omega, by omega⟩, q8⟩
theorem KWS_PS (h : KWS c hp s NM t k) (l : s.I 8 ≤ 25000) : KPS c hp s NM := by
  obtain ⟨q1, q2, q3, q4, q5, q6, q7, q8, q9, q10, q11⟩ := h
  exact ⟨q1, q2, q3, q4, BKS_BF q5 q9 rfl, BKS_BT q5 q9 rfl, q8.1, l⟩
theorem KCM_0 {v : Option Value} (h : KWS c hp s NM t k) (K : KI c h1 s1) (B : KB s1) (C : CI s1) (X : kx c hp s h1 s1 a b) (F : GF s s1) (ev : v = some (.int (iI x))) (l1 : a ≤ 100 * w + 20) (l2 : b ≤ 700 * w + 300) (w0 : 0 ≤ w) : KCM c hp s k w v h1 := by
  refine ⟨x, s1, NM, t, ev, KWS_k (KWS_GF h K B C X F) (by omega), GF_C F, kx_w X l1 l2, ?_⟩
  rw [F.2.2.1 24 (by decide)]
  have := h.2.2.2.2.2.2.2.2.1
  omega
end EL
theorem kk_clause (z : Value) (d c : Nat) (x : Int) (hp : xx_H) (s : KS) (NM : Int → Int) (t : Nat) (k : Int) (hW : KWS c hp s NM t k) (ho : OB s x) (w9 : WD (SD s) x ≤ 1001) (l25 : s.I 8 + WD (SD s) x ≤ 25000) (hL : isL (SD s) 2 x) (r2 : pi s 0 x ≠ 2) : xx_cl (xt_P z) (d + 91) 302 [.ref (c + 0), .int (iI x)] hp (fun v h1 => KCM c hp s k (WD (SD s) x) v h1) := by
  have hC := hW.2.2.1
  have hB := hW.2.1
  have u38 := KB_38 hB
  have oR := OB_R hB ho
  have f20 := hW.2.2.2.2.2.2.2.2.2.2
  have W := PI_W hC ho hL (by decide) r2
  have p0 : VD (SD s) (rt (SD s) 0 x) = WD (SD s) (pi s 0 x) + VD (SD s) (rt (SD s) 1 x) ∧ OB s (pi s 0 x) ∧ 1 ≤ WD (SD s) (pi s 0 x) ∧ 0 ≤ VD (SD s) (rt (SD s) 1 x) := PI_w hC ho hL (j := 0) (by decide)
  have p1 : VD (SD s) (rt (SD s) 1 x) = WD (SD s) (pi s 1 x) + VD (SD s) (rt (SD s) 2 x) ∧ OB s (pi s 1 x) ∧ 1 ≤ WD (SD s) (pi s 1 x) ∧ 0 ≤ VD (SD s) (rt (SD s) 2 x) := PI_w hC ho hL (j := 1) (by decide)
  obtain ⟨p0, o0, i0, j0⟩ := p0
  obtain ⟨p1, o1, i1, j1⟩ := p1
  refine cl_go rfl ?_
  show xx_go (xt_P z) (d + 90) 302 0 [some (.ref (c + 0)), some (.int (iI x)), none] [] hp _
  refine go_a (pc' := 1) (ls' := [some (.ref (c + 0)), some (.int (iI x)), none]) (st' := [.ref (c + 0)]) rfl rfl ?_
  refine go_get (v := .ref (c + 30)) rfl (hW.1.1 0 (by decide)) rfl rfl ?_
  refine go_a (pc' := 5) (ls' := [some (.ref (c + 0)), some (.int (iI x)), none]) (st' := [.ref (c + 0), .ref (c + 30)]) rfl rfl ?_
  refine go_get (v := .int (iI (s.I 20))) rfl (hW.1.1 0 (by decide)) rfl rfl ?_
  refine go_v (m := 244) (as := [.ref (c + 30), .int (iI (s.I 20))]) (r := []) rfl rfl rfl (hW.1.1 19 (by decide)) rfl rfl (kq_begin z (d + 89) c (s.I 20) hp s hW.1) (fun v h1 hq => ?_)
  obtain ⟨rfl, K1, X1⟩ := hq
  have B1 : KB ((((s.wI 16 (s.I 20)).wI 17 0).wI 18 0).wI 19 0) := KB_wF (KB_wF (KB_wF (KB_wF hW.2.1 (by omega) (by omega) (by decide)) (by decide) (by decide) (by decide)) (by decide) (by decide) (by decide)) (by decide) (by decide) (by decide)
  have F1 : GF s ((((s.wI 16 (s.I 20)).wI 17 0).wI 18 0).wI 19 0) := GF_tr (GF_tr (GF_tr (GF_wI (by decide)) (GF_wI (by decide))) (GF_wI (by decide))) (GF_wI (by decide))
  have C1 : CI ((((s.wI 16 (s.I 20)).wI 17 0).wI 18 0).wI 19 0) := KSA_CI (s := s) ⟨rfl, rfl, rfl⟩ hW.2.2.1
  have D1 : SD ((((s.wI 16 (s.I 20)).wI 17 0).wI 18 0).wI 19 0) = SD s := rfl
  have E1 : ((((s.wI 16 (s.I 20)).wI 17 0).wI 18 0).wI 19 0).I 8 = s.I 8 := rfl
  obtain ⟨s1, es1⟩ : ∃ q : KS, q = ((((s.wI 16 (s.I 20)).wI 17 0).wI 18 0).wI 19 0) := ⟨_, rfl⟩
  rw [← es1] at K1 X1 B1 F1 C1 D1 E1
  have W1 := KWS_GF hW K1 B1 C1 X1 F1
  show xx_go (xt_P z) (d + 90) 302 11 [some (.ref (c + 0)), some (.int (iI x)), none] [.ref (c + 30)] h1 _
  have ho1 : OB s1 x := ⟨ho.1, by rw [E1]; exact ho.2⟩
  have T1 := KST_rf' K1 B1 C1
  have op1 : OB s1 (pi s 1 x) := ⟨o1.1, by rw [E1]; exact o1.2⟩
  have hP1 := KWS_PS W1 (by omega)
  have wp : WD (SD s1) (pi s 1 x) = WD (SD s) (pi s 1 x) := by rw [D1]
  refine go_a (pc' := 12) (ls' := [some (.ref (c + 0)), some (.int (iI x)), none]) (st' := [.ref (c + 0), .ref (c + 30)]) rfl rfl ?_
  refine go_get (v := .ref (c + 4)) rfl (K1.1 0 (by decide)) rfl rfl ?_
  refine go_a (pc' := 16) (ls' := [some (.ref (c + 0)), some (.int (iI x)), none]) (st' := [.int (iI x), .ref (c + 4), .ref (c + 30)]) rfl rfl ?_
  refine go_a (pc' := 17) (ls' := [some (.ref (c + 0)), some (.int (iI x)), none]) (st' := [.int (iI 1), .int (iI x), .ref (c + 4), .ref (c + 30)]) rfl rfl ?_
  refine go_v (m := 202) (as := [.ref (c + 4), .int (iI x), .int (iI 1)]) (r := [.ref (c + 30)]) rfl rfl rfl (K1.1 3 (by decide)) rfl rfl (kq_part z (d + 88) T1 C1 ho1 (by rw [D1]; exact hL) (by decide) (by decide) (by decide)) (fun v h3 hq => ?_)
  obtain ⟨rfl, e9⟩ := hq
  rw [e9]
  clear e9 h3
  rw [show pi s1 (1 : Int).toNat x = pi s 1 x by unfold pi; rw [D1]; rfl]
  show xx_go (xt_P z) (d + 90) 302 20 [some (.ref (c + 0)), some (.int (iI x)), none] [.int (iI (pi s 1 x)), .ref (c + 30)] h1 _
  refine go_a (pc' := 21) (ls' := [some (.ref (c + 0)), some (.int (iI x)), none]) (st' := [.int (iI 0), .int (iI (pi s 1 x)), .ref (c + 30)]) rfl rfl ?_
  refine go_v (m := 245) (as := [.ref (c + 30), .int (iI (pi s 1 x)), .int (iI 0)]) (r := []) rfl rfl rfl (K1.1 19 (by decide)) rfl rfl (kq_prove z d c h1 s1 NM (pi s 1 x) hP1 op1 (by omega) (by omega)) (fun v h2 hq => ?_)
  rw [wp] at hq
  obtain ⟨s2, ⟨rfl, S2⟩ | ⟨y, rfl, hy, C2, S2⟩⟩ := hq
  · show xx_go (xt_P z) (d + 90) 302 24 [some (.ref (c + 0)), some (.int (iI x)), none] [.null] h2 _
    refine go_a (pc' := 25) (ls' := [some (.ref (c + 0)), some (.int (iI x)), some (.null)]) (st' := []) rfl rfl ?_
    refine go_a (pc' := 26) (ls' := [some (.ref (c + 0)), some (.int (iI x)), some (.null)]) (st' := [.null]) rfl rfl ?_
    refine go_a (pc' := 29) (ls' := [some (.ref (c + 0)), some (.int (iI x)), some (.null)]) (st' := []) rfl rfl ?_
    refine go_a (pc' := 30) (ls' := [some (.ref (c + 0)), some (.int (iI x)), some (.null)]) (st' := [.ref (c + 0)]) rfl rfl ?_
    refine go_v (m := 296) (as := [.ref (c + 0)]) (r := []) rfl rfl rfl (S2.1.1 0 (by decide)) rfl rfl (kk_failure z (d + 89) c h2 s2 S2.1 S2.2.1) (fun v h3 hq => ?_)
    obtain ⟨q, s3, rfl, K3, B3, X3, F3⟩ := hq
    have X9 := kx_tr (kx_tr X1 S2.2.2.2.2.1) X3
    have F9 := GF_tr (GF_tr F1 (PFR_G S2.2.2.2.1)) (SF_G F3)
    have C9 : CI s3 := KSA_CI ⟨F3.1.2.1, by rw [F3.1.1], F3.2 8 (by decide) (by decide) (by decide) (by decide)⟩ S2.2.2.1
    show xx_go (xt_P z) (d + 90) 302 33 [some (.ref (c + 0)), some (.int (iI x)), some (.null)] [.int (iI q)] h3 _
    exact go_r rfl rfl rfl rfl rfl rfl (KCM_0 hW K3 B3 C9 X9 F9 rfl (by omega) (by omega) (by omega))
  · have b17 := S2.2.1.2.1 17
    obtain ⟨m, w, O, nO, fO, D2⟩ := id C2
    have mR := D2.2.2.2.1
    have l8 := S2.2.2.2.2.2
    have hX := kx_rf (c := c) (hp := h2) (s := s2)
    show xx_go (xt_P z) (d + 90) 302 24 [some (.ref (c + 0)), some (.int (iI x)), none] [.ref y] h2 _
    refine go_a (pc' := 25) (ls' := [some (.ref (c + 0)), some (.int (iI x)), some (.ref y)]) (st' := []) rfl rfl ?_
    refine go_a (pc' := 26) (ls' := [some (.ref (c + 0)), some (.int (iI x)), some (.ref y)]) (st' := [.ref y]) rfl rfl ?_
    refine go_a (pc' := 34) (ls' := [some (.ref (c + 0)), some (.int (iI x)), some (.ref y)]) (st' := []) rfl rfl ?_
    refine go_a (pc' := 35) (ls' := [some (.ref (c + 0)), some (.int (iI x)), some (.ref y)]) (st' := [.ref (c + 0)]) rfl rfl ?_
    refine go_a (pc' := 36) (ls' := [some (.ref (c + 0)), some (.int (iI x)), some (.ref y)]) (st' := [.ref (c + 0), .ref (c + 0)]) rfl rfl ?_
    refine go_get (v := .ref (c + 30)) rfl (S2.1.1 0 (by decide)) rfl rfl ?_
    refine go_get (v := .int (iI (s2.I 17))) rfl (S2.1.1 19 (by decide)) rfl rfl ?_
    refine kput_22 (x := s2.I 17) S2.1 hX rfl rfl (fun h4 hK hX => ?_)
    refine go_a (pc' := 46) (ls' := [some (.ref (c + 0)), some (.int (iI x)), some (.ref y)]) (st' := [.ref (c + 0)]) rfl rfl ?_
    refine go_a (pc' := 47) (ls' := [some (.ref (c + 0)), some (.int (iI x)), some (.ref y)]) (st' := [.ref y, .ref (c + 0)]) rfl rfl ?_
    have D3 := CLS_kx D2 hX
    have B3 : KB (s2.wI 22 (s2.I 17)) := KB_wF S2.2.1 (by omega) (by omega) (by decide)
    refine go_v (m := 280) (as := [.ref y]) (r := [.ref (c + 0)]) rfl rfl rfl D3.1 rfl rfl (kh_length z (d + 89) c h4 (s2.wI 22 (s2.I 17)) _ y m w 0 O nO fO D3) (fun v h5 hq => ?_)
    obtain ⟨rfl, e9⟩ := hq
    rw [e9]
    clear e9 h5
    show xx_go (xt_P z) (d + 90) 302 50 [some (.ref (c + 0)), some (.int (iI x)), some (.ref y)] [.int (iI m), .ref (c + 0)] h4 _
    refine kput_23 (x := m) hK hX rfl rfl (fun h5 hK hX => ?_)
    refine go_a (pc' := 54) (ls' := [some (.ref (c + 0)), some (.int (iI x)), some (.ref y)]) (st' := [.ref (c + 0)]) rfl rfl ?_
    refine go_a (pc' := 55) (ls' := [some (.ref (c + 0)), some (.int (iI x)), some (.ref y)]) (st' := [.ref (c + 0), .ref (c + 0)]) rfl rfl ?_
    refine go_get (v := .ref (c + 25)) rfl (hK.1 0 (by decide)) rfl rfl ?_
    refine go_a (pc' := 59) (ls' := [some (.ref (c + 0)), some (.int (iI x)), some (.ref y)]) (st' := [.ref y, .ref (c + 25), .ref (c + 0)]) rfl rfl ?_
    have D4 := CLS_kx D2 hX
    have B4 : KB ((s2.wI 22 (s2.I 17)).wI 23 m) := KB_wF B3 (by omega) (by omega) (by decide)
    have F4 : SF s2 ((s2.wI 22 (s2.I 17)).wI 23 m) := SF_tr (SF_wI (by decide)) (SF_wI (by decide))
    have C4 : CI ((s2.wI 22 (s2.I 17)).wI 23 m) := KSA_CI (s := s2) ⟨rfl, rfl, rfl⟩ S2.2.2.1
    have W4 := KWS_GF (KWS_GF W1 S2.1 S2.2.1 S2.2.2.1 S2.2.2.2.2.1 (PFR_G S2.2.2.2.1)) hK B4 C4 hX (SF_G F4)
    have X4 := kx_tr (kx_tr X1 S2.2.2.2.2.1) hX
    have F5 := GF_tr (GF_tr F1 (PFR_G S2.2.2.2.1)) (SF_G F4)
    refine go_v (m := 297) (as := [.ref (c + 25), .ref y]) (r := [.ref (c + 0)]) rfl rfl rfl (hK.1 16 (by decide)) rfl rfl (kg_clist z (d + 82) c (s2.I 8) y m w 0 O nO fO h5 ((s2.wI 22 (s2.I 17)).wI 23 m) hK B4 C4 NM (BKS_BF W4.2.2.2.2.1 W4.2.2.2.2.2.2.2.2.1 rfl) (by omega) (Int.le_refl _) (show s2.I 8 < 26000 by omega) D4) (fun v h6 hq => ?_)
    obtain ⟨r, s6, rfl, K6, B6, C6, X6, F6, l6, O6⟩ := hq
    have rR := OB_R B6 O6
    have hX := kx_rf (c := c) (hp := h6) (s := s6)
    show xx_go (xt_P z) (d + 90) 302 62 [some (.ref (c + 0)), some (.int (iI x)), some (.ref y)] [.int (iI r), .ref (c + 0)] h6 _
    refine kput_25 (x := r) K6 hX rfl rfl (fun h7 hK hX => ?_)
    refine go_a (pc' := 66) (ls' := [some (.ref (c + 0)), some (.int (iI x)), some (.ref y)]) (st' := [.int (iI 0)]) rfl rfl ?_
    have X9 := kx_tr (kx_tr X4 X6) hX
    have B9 : KB (s6.wI 25 r) := KB_wF B6 (by omega) (by omega) (by decide)
    exact go_r rfl rfl rfl rfl rfl rfl (KCM_0 hW hK B9 (KSA_CI (s := s6) ⟨rfl, rfl, rfl⟩ C6) X9 (GF_tr (GF_tr F5 (PFR_G F6)) (SF_G (SF_wI (by decide)))) rfl (by omega) (by omega) (by omega))
