theorem STE_GF {c : Nat} {hp h1 : xx_H} {s s1 : KS} {a b : Int} (h : STE c hp s h1 s1 a b) : GF s s1 := PFR_G (TF_P h.2.2.1)
theorem STE_CI {c : Nat} {hp h1 : xx_H} {s s1 : KS} {a b : Int} (h : STE c hp s h1 s1 a b) (hC : CI s) : CI s1 := TF_CI h.2.2.1 hC
theorem kk_check (z : Value) (d c : Nat) (x : Int) (hp : xx_H) (s : KS) (NM : Int → Int) (t : Nat) (k : Int) (hW : KWS c hp s NM t k) (ho : OB s x) (w9 : WD (SD s) x ≤ 1001) (l25 : s.I 8 + WD (SD s) x ≤ 25000) (lb : c + 84 ≤ hp.length) (lk : k ≤ 1000000) (hL : isL (SD s) 4 x) (r2 : pi s 0 x ≠ 2) : xx_cl (xt_P z) (d + 91) 242 [.ref (c + 0), .int (iI x)] hp (fun v h1 => KCM c hp s k (WD (SD s) x) v h1) := by
  have hC := hW.2.2.1
  have hB := hW.2.1
  have u38 := KB_38 hB
  have oR := OB_R hB ho
  have f20 := hW.2.2.2.2.2.2.2.2.2.2
  have W := PI_W hC ho hL (by decide) r2
  have p0 : VD (SD s) (rt (SD s) 0 x) = WD (SD s) (pi s 0 x) + VD (SD s) (rt (SD s) 1 x) ∧ OB s (pi s 0 x) ∧ 1 ≤ WD (SD s) (pi s 0 x) ∧ 0 ≤ VD (SD s) (rt (SD s) 1 x) := PI_w hC ho hL (j := 0) (by decide)
  have p1 : VD (SD s) (rt (SD s) 1 x) = WD (SD s) (pi s 1 x) + VD (SD s) (rt (SD s) 2 x) ∧ OB s (pi s 1 x) ∧ 1 ≤ WD (SD s) (pi s 1 x) ∧ 0 ≤ VD (SD s) (rt (SD s) 2 x) := PI_w hC ho hL (j := 1) (by decide)
  have p2 : VD (SD s) (rt (SD s) 2 x) = WD (SD s) (pi s 2 x) + VD (SD s) (rt (SD s) 3 x) ∧ OB s (pi s 2 x) ∧ 1 ≤ WD (SD s) (pi s 2 x) ∧ 0 ≤ VD (SD s) (rt (SD s) 3 x) := PI_w hC ho hL (j := 2) (by decide)
  have p3 : VD (SD s) (rt (SD s) 3 x) = WD (SD s) (pi s 3 x) + VD (SD s) (rt (SD s) 4 x) ∧ OB s (pi s 3 x) ∧ 1 ≤ WD (SD s) (pi s 3 x) ∧ 0 ≤ VD (SD s) (rt (SD s) 4 x) := PI_w hC ho hL (j := 3) (by decide)
  obtain ⟨p0, o0, i0, j0⟩ := p0
  obtain ⟨p1, o1, i1, j1⟩ := p1
  obtain ⟨p2, o2, i2, j2⟩ := p2
  obtain ⟨p3, o3, i3, j3⟩ := p3
  have hP := KWS_PS hW (by omega)
  have S0 := KST_rf hP
  have e0 : s.I 8 = s.I 8 := rfl
  have nR := OB_R hB o1
  refine cl_go rfl ?_
  show xx_go (xt_P z) (d + 90) 242 0 [some (.ref (c + 0)), some (.int (iI x)), none, none, none, none] [] hp _
  refine go_a (pc' := 1) (ls' := [some (.ref (c + 0)), some (.int (iI x)), none, none, none, none]) (st' := [.ref (c + 0)]) rfl rfl ?_
  refine go_get (v := .ref (c + 4)) rfl (hW.1.1 0 (by decide)) rfl rfl ?_
  refine go_a (pc' := 5) (ls' := [some (.ref (c + 0)), some (.int (iI x)), none, none, none, none]) (st' := [.int (iI x), .ref (c + 4)]) rfl rfl ?_
  refine go_a (pc' := 6) (ls' := [some (.ref (c + 0)), some (.int (iI x)), none, none, none, none]) (st' := [.int (iI 1), .int (iI x), .ref (c + 4)]) rfl rfl ?_
  refine go_v (m := 202) (as := [.ref (c + 4), .int (iI x), .int (iI 1)]) (r := []) rfl rfl rfl (hW.1.1 3 (by decide)) rfl rfl (kq_part z (d + 88) S0 hC ho hL (by decide) (by decide) (by decide)) (fun v h3 hq => ?_)
  obtain ⟨rfl, e9⟩ := hq
  rw [e9]
  clear e9 h3
  show xx_go (xt_P z) (d + 90) 242 9 [some (.ref (c + 0)), some (.int (iI x)), none, none, none, none] [.int (iI (pi s 1 x))] hp _
  refine go_a (pc' := 10) (ls' := [some (.ref (c + 0)), some (.int (iI x)), some (.int (iI (pi s 1 x))), none, none, none]) (st' := []) rfl rfl ?_
  refine go_a (pc' := 11) (ls' := [some (.ref (c + 0)), some (.int (iI x)), some (.int (iI (pi s 1 x))), none, none, none]) (st' := [.ref (c + 0)]) rfl rfl ?_
  refine go_get (v := .ref (c + 25)) rfl (hW.1.1 0 (by decide)) rfl rfl ?_
  refine go_a (pc' := 15) (ls' := [some (.ref (c + 0)), some (.int (iI x)), some (.int (iI (pi s 1 x))), none, none, none]) (st' := [.ref (c + 0), .ref (c + 25)]) rfl rfl ?_
  refine go_get (v := .ref (c + 4)) rfl (hW.1.1 0 (by decide)) rfl rfl ?_
  refine go_a (pc' := 19) (ls' := [some (.ref (c + 0)), some (.int (iI x)), some (.int (iI (pi s 1 x))), none, none, none]) (st' := [.int (iI x), .ref (c + 4), .ref (c + 25)]) rfl rfl ?_
  refine go_a (pc' := 20) (ls' := [some (.ref (c + 0)), some (.int (iI x)), some (.int (iI (pi s 1 x))), none, none, none]) (st' := [.int (iI 2), .int (iI x), .ref (c + 4), .ref (c + 25)]) rfl rfl ?_
  refine go_v (m := 202) (as := [.ref (c + 4), .int (iI x), .int (iI 2)]) (r := [.ref (c + 25)]) rfl rfl rfl (hW.1.1 3 (by decide)) rfl rfl (kq_part z (d + 88) S0 hC ho hL (by decide) (by decide) (by decide)) (fun v h3 hq => ?_)
  obtain ⟨rfl, e9⟩ := hq
  rw [e9]
  clear e9 h3
  show xx_go (xt_P z) (d + 90) 242 23 [some (.ref (c + 0)), some (.int (iI x)), some (.int (iI (pi s 1 x))), none, none, none] [.int (iI (pi s 2 x)), .ref (c + 25)] hp _
  refine go_v (m := 211) (as := [.ref (c + 25), .int (iI (pi s 2 x))]) (r := []) rfl rfl rfl (hW.1.1 16 (by decide)) rfl rfl (kq_read z (d + 83) hP S0 e0 (by omega) o2 (by omega)) (fun v h1 hq => ?_)
  obtain ⟨s1, E1, hv⟩ := hq
  have e1 := STE_8 E1
  have C1 := STE_CI E1 hC
  have W1 := KWS_GF hW E1.1 E1.2.1 C1 E1.2.2.2 (STE_GF E1)
  have S1 := KST_STE S0 E1
  rcases hv with rfl | ⟨a3, n, f, rfl, ln, la, T1⟩
  · show xx_go (xt_P z) (d + 90) 242 26 [some (.ref (c + 0)), some (.int (iI x)), some (.int (iI (pi s 1 x))), none, none, none] [.null] h1 _
    refine go_a (pc' := 27) (ls' := [some (.ref (c + 0)), some (.int (iI x)), some (.int (iI (pi s 1 x))), some (.null), none, none]) (st' := []) rfl rfl ?_
    refine go_a (pc' := 28) (ls' := [some (.ref (c + 0)), some (.int (iI x)), some (.int (iI (pi s 1 x))), some (.null), none, none]) (st' := [.ref (c + 0)]) rfl rfl ?_
    refine go_a (pc' := 29) (ls' := [some (.ref (c + 0)), some (.int (iI x)), some (.int (iI (pi s 1 x))), some (.null), none, none]) (st' := [.int (iI (pi s 1 x)), .ref (c + 0)]) rfl rfl ?_
    have no : xx_go (xt_P z) (d + 90) 242 39 [some (.ref (c + 0)), some (.int (iI x)), some (.int (iI (pi s 1 x))), some (.null), none, none] [] h1 (fun v h1 => KCM c hp s k (WD (SD s) x) v h1) := by
      refine go_a (pc' := 40) (ls' := [some (.ref (c + 0)), some (.int (iI x)), some (.int (iI (pi s 1 x))), some (.null), none, none]) (st' := [.int (iI 2)]) rfl rfl ?_
      exact go_r rfl rfl rfl rfl rfl rfl (KCM_0 (x := 2) hW E1.1 E1.2.1 C1 E1.2.2.2 (STE_GF E1) rfl (by omega) (by omega) (by omega))
    refine go_v (m := 208) (as := [.ref (c + 0), .int (iI (pi s 1 x))]) (r := []) rfl rfl rfl (E1.1.1 0 (by decide)) rfl rfl (kk_mayName z (d + 87) c (pi s 1 x) h1 s1 E1.1 E1.2.1 nR.1 nR.2) (fun v h3 hq => ?_)
    obtain ⟨hq, e9⟩ := hq
    rw [e9]
    clear e9 h3
    rcases hq with ⟨rfl, -⟩ | rfl
    · show xx_go (xt_P z) (d + 90) 242 32 [some (.ref (c + 0)), some (.int (iI x)), some (.int (iI (pi s 1 x))), some (.null), none, none] [.int (iI 1)] h1 _
      refine mi_eq0 (t := 39) rfl rfl (by omega) (by omega) (fun q => absurd q (by decide)) (fun _ => ?_)
      refine go_a (pc' := 36) (ls' := [some (.ref (c + 0)), some (.int (iI x)), some (.int (iI (pi s 1 x))), some (.null), none, none]) (st' := [.null]) rfl rfl ?_
      refine go_a (pc' := 39) (ls' := [some (.ref (c + 0)), some (.int (iI x)), some (.int (iI (pi s 1 x))), some (.null), none, none]) (st' := []) rfl rfl ?_
      exact no
    · show xx_go (xt_P z) (d + 90) 242 32 [some (.ref (c + 0)), some (.int (iI x)), some (.int (iI (pi s 1 x))), some (.null), none, none] [.int (iI 0)] h1 _
      refine mi_eq0 (t := 39) rfl rfl (by omega) (by omega) (fun _ => no) (fun q => absurd rfl q)
  · show xx_go (xt_P z) (d + 90) 242 26 [some (.ref (c + 0)), some (.int (iI x)), some (.int (iI (pi s 1 x))), none, none, none] [.ref a3] h1 _
    refine go_a (pc' := 27) (ls' := [some (.ref (c + 0)), some (.int (iI x)), some (.int (iI (pi s 1 x))), some (.ref a3), none, none]) (st' := []) rfl rfl ?_
    refine go_a (pc' := 28) (ls' := [some (.ref (c + 0)), some (.int (iI x)), some (.int (iI (pi s 1 x))), some (.ref a3), none, none]) (st' := [.ref (c + 0)]) rfl rfl ?_
    refine go_a (pc' := 29) (ls' := [some (.ref (c + 0)), some (.int (iI x)), some (.int (iI (pi s 1 x))), some (.ref a3), none, none]) (st' := [.int (iI (pi s 1 x)), .ref (c + 0)]) rfl rfl ?_
    refine go_v (m := 208) (as := [.ref (c + 0), .int (iI (pi s 1 x))]) (r := []) rfl rfl rfl (E1.1.1 0 (by decide)) rfl rfl (kk_mayName z (d + 87) c (pi s 1 x) h1 s1 E1.1 E1.2.1 nR.1 nR.2) (fun v h3 hq => ?_)
    obtain ⟨hq, e9⟩ := hq
    rw [e9]
    clear e9 h3
    rcases hq with ⟨rfl, nO, n17⟩ | rfl
    · show xx_go (xt_P z) (d + 90) 242 32 [some (.ref (c + 0)), some (.int (iI x)), some (.int (iI (pi s 1 x))), some (.ref a3), none, none] [.int (iI 1)] h1 _
      refine mi_eq0 (t := 39) rfl rfl (by omega) (by omega) (fun q => absurd q (by decide)) (fun _ => ?_)
      refine go_a (pc' := 36) (ls' := [some (.ref (c + 0)), some (.int (iI x)), some (.int (iI (pi s 1 x))), some (.ref a3), none, none]) (st' := [.ref a3]) rfl rfl ?_
      refine go_a (pc' := 41) (ls' := [some (.ref (c + 0)), some (.int (iI x)), some (.int (iI (pi s 1 x))), some (.ref a3), none, none]) (st' := []) rfl rfl ?_
      refine go_a (pc' := 42) (ls' := [some (.ref (c + 0)), some (.int (iI x)), some (.int (iI (pi s 1 x))), some (.ref a3), none, none]) (st' := [.ref (c + 0)]) rfl rfl ?_
      refine go_get (v := .ref (c + 21)) rfl (E1.1.1 0 (by decide)) rfl rfl ?_
      refine go_a (pc' := 46) (ls' := [some (.ref (c + 0)), some (.int (iI x)), some (.int (iI (pi s 1 x))), some (.ref a3), none, none]) (st' := [.int (iI (pi s 1 x)), .ref (c + 21)]) rfl rfl ?_
      obtain ⟨bF, bT, -, -⟩ := KST_BF hP S1 e1
      refine go_v (m := 243) (as := [.ref (c + 21), .int (iI (pi s 1 x))]) (r := []) rfl rfl rfl (E1.1.1 12 (by decide)) rfl rfl (kf_theorem z (d + 86) c (pi s 1 x) h1 s1 E1.1 E1.2.1 (s.I 8) bT (by omega) nR.1 nR.2) (fun v h3 hq => ?_)
      obtain ⟨hq, e9⟩ := hq
      rw [e9]
      clear e9 h3
      rcases hq with rfl | ⟨b, nm, nb, fb, cb, rfl, -⟩
      · show xx_go (xt_P z) (d + 90) 242 49 [some (.ref (c + 0)), some (.int (iI x)), some (.int (iI (pi s 1 x))), some (.ref a3), none, none] [.null] h1 _
        refine go_a (pc' := 54) (ls' := [some (.ref (c + 0)), some (.int (iI x)), some (.int (iI (pi s 1 x))), some (.ref a3), none, none]) (st' := []) rfl rfl ?_
        refine go_a (pc' := 55) (ls' := [some (.ref (c + 0)), some (.int (iI x)), some (.int (iI (pi s 1 x))), some (.ref a3), none, none]) (st' := [.ref (c + 0)]) rfl rfl ?_
        refine go_get (v := .ref (c + 21)) rfl (E1.1.1 0 (by decide)) rfl rfl ?_
        refine go_v (m := 48) (as := [.ref (c + 21)]) (r := []) rfl rfl rfl (E1.1.1 12 (by decide)) rfl rfl (kf_theorems z (d + 88) c h1 s1 E1.1) (fun v h3 hq => ?_)
        obtain ⟨rfl, e9⟩ := hq
        rw [e9]
        clear e9 h3
        show xx_go (xt_P z) (d + 90) 242 61 [some (.ref (c + 0)), some (.int (iI x)), some (.int (iI (pi s 1 x))), some (.ref a3), none, none] [.int (iI (s1.I 28))] h1 _
        have b28 := E1.2.1.2.1 28
        refine go_a (pc' := 63) (ls' := [some (.ref (c + 0)), some (.int (iI x)), some (.int (iI (pi s 1 x))), some (.ref a3), none, none]) (st' := [.int (iI 60), .int (iI (s1.I 28))]) rfl rfl ?_
        refine mi_lt (t := 69) rfl rfl (by omega) (by omega) (by omega) (by omega) (fun w1 => ?_) (fun w1 => ?_)
        · have b20 := W1.2.2.2.2.2.2.2.2.2.2
          refine go_a (pc' := 70) (ls' := [some (.ref (c + 0)), some (.int (iI x)), some (.int (iI (pi s 1 x))), some (.ref a3), none, none]) (st' := [.ref (c + 0)]) rfl rfl ?_
          refine go_get (v := .ref (c + 30)) rfl (E1.1.1 0 (by decide)) rfl rfl ?_
          refine go_a (pc' := 74) (ls' := [some (.ref (c + 0)), some (.int (iI x)), some (.int (iI (pi s 1 x))), some (.ref a3), none, none]) (st' := [.ref (c + 0), .ref (c + 30)]) rfl rfl ?_
          refine go_get (v := .int (iI (s1.I 20))) rfl (E1.1.1 0 (by decide)) rfl rfl ?_
          refine go_v (m := 244) (as := [.ref (c + 30), .int (iI (s1.I 20))]) (r := []) rfl rfl rfl (E1.1.1 19 (by decide)) rfl rfl (kq_begin z (d + 89) c (s1.I 20) h1 s1 E1.1) (fun v h2 hq => ?_)
          obtain ⟨rfl, K2, X2⟩ := hq
          have B2 : KB ((((s1.wI 16 (s1.I 20)).wI 17 0).wI 18 0).wI 19 0) := KB_wF (KB_wF (KB_wF (KB_wF W1.2.1 (by omega) (by omega) (by decide)) (by decide) (by decide) (by decide)) (by decide) (by decide) (by decide)) (by decide) (by decide) (by decide)
          have F2 : GF s1 ((((s1.wI 16 (s1.I 20)).wI 17 0).wI 18 0).wI 19 0) := GF_tr (GF_tr (GF_tr (GF_wI (by decide)) (GF_wI (by decide))) (GF_wI (by decide))) (GF_wI (by decide))
          have C2 : CI ((((s1.wI 16 (s1.I 20)).wI 17 0).wI 18 0).wI 19 0) := KSA_CI (s := s1) ⟨rfl, rfl, rfl⟩ W1.2.2.1
          have D2 : SD ((((s1.wI 16 (s1.I 20)).wI 17 0).wI 18 0).wI 19 0) = SD s1 := rfl
          have E2 : ((((s1.wI 16 (s1.I 20)).wI 17 0).wI 18 0).wI 19 0).I 8 = s1.I 8 := rfl
          obtain ⟨s2, es2⟩ : ∃ q : KS, q = ((((s1.wI 16 (s1.I 20)).wI 17 0).wI 18 0).wI 19 0) := ⟨_, rfl⟩
          rw [← es2] at K2 X2 B2 F2 C2 D2 E2
          have W2 := KWS_GF W1 K2 B2 C2 X2 F2
          show xx_go (xt_P z) (d + 90) 242 80 [some (.ref (c + 0)), some (.int (iI x)), some (.int (iI (pi s 1 x))), some (.ref a3), none, none] [.ref (c + 30)] h2 _
          have D1 : PFR s s1 := TF_P E1.2.2.1
          have ho2 : OB s2 x := ⟨ho.1, by have := ho.2; omega⟩
          have T2 := KST_rf' K2 B2 C2
          have hL2 : isL (SD s2) 4 x := by rw [D2]; exact PFR_isL D1 hC ho hL
          have ep : pi s2 3 x = pi s 3 x := by
            have h := PI_p hC ho hL (j := 3) (by decide) D1
            unfold pi at h ⊢
            rw [D2]
            exact h
          have op : OB s2 (pi s 3 x) := ⟨o3.1, by have := o3.2; omega⟩
          have wp : WD (SD s2) (pi s 3 x) = WD (SD s) (pi s 3 x) := by rw [D2]; exact (PFR_WD D1 hC o3).1
          have hP2 := KWS_PS W2 (by omega)
          refine go_a (pc' := 81) (ls' := [some (.ref (c + 0)), some (.int (iI x)), some (.int (iI (pi s 1 x))), some (.ref a3), none, none]) (st' := [.ref (c + 0), .ref (c + 30)]) rfl rfl ?_
          refine go_get (v := .ref (c + 4)) rfl (K2.1 0 (by decide)) rfl rfl ?_
          refine go_a (pc' := 85) (ls' := [some (.ref (c + 0)), some (.int (iI x)), some (.int (iI (pi s 1 x))), some (.ref a3), none, none]) (st' := [.int (iI x), .ref (c + 4), .ref (c + 30)]) rfl rfl ?_
          refine go_a (pc' := 86) (ls' := [some (.ref (c + 0)), some (.int (iI x)), some (.int (iI (pi s 1 x))), some (.ref a3), none, none]) (st' := [.int (iI 3), .int (iI x), .ref (c + 4), .ref (c + 30)]) rfl rfl ?_
          refine go_v (m := 202) (as := [.ref (c + 4), .int (iI x), .int (iI 3)]) (r := [.ref (c + 30)]) rfl rfl rfl (K2.1 3 (by decide)) rfl rfl (kq_part z (d + 88) T2 C2 ho2 hL2 (by decide) (by decide) (by decide)) (fun v h3 hq => ?_)
          obtain ⟨rfl, e9⟩ := hq
          rw [e9]
          clear e9 h3
          rw [show pi s2 (3 : Int).toNat x = pi s 3 x from ep]
          show xx_go (xt_P z) (d + 90) 242 89 [some (.ref (c + 0)), some (.int (iI x)), some (.int (iI (pi s 1 x))), some (.ref a3), none, none] [.int (iI (pi s 3 x)), .ref (c + 30)] h2 _
          refine go_a (pc' := 90) (ls' := [some (.ref (c + 0)), some (.int (iI x)), some (.int (iI (pi s 1 x))), some (.ref a3), none, none]) (st' := [.int (iI 0), .int (iI (pi s 3 x)), .ref (c + 30)]) rfl rfl ?_
          refine go_v (m := 245) (as := [.ref (c + 30), .int (iI (pi s 3 x)), .int (iI 0)]) (r := []) rfl rfl rfl (K2.1 19 (by decide)) rfl rfl (kq_prove z d c h2 s2 NM (pi s 3 x) hP2 op (by omega) (by omega)) (fun v h3 hq => ?_)
          rw [wp] at hq
          obtain ⟨s3, ⟨rfl, S3⟩ | ⟨y, rfl, hy, C3, S3⟩⟩ := hq
          · show xx_go (xt_P z) (d + 90) 242 93 [some (.ref (c + 0)), some (.int (iI x)), some (.int (iI (pi s 1 x))), some (.ref a3), none, none] [.null] h3 _
            refine go_a (pc' := 95) (ls' := [some (.ref (c + 0)), some (.int (iI x)), some (.int (iI (pi s 1 x))), some (.ref a3), some (.null), none]) (st' := []) rfl rfl ?_
            refine go_a (pc' := 97) (ls' := [some (.ref (c + 0)), some (.int (iI x)), some (.int (iI (pi s 1 x))), some (.ref a3), some (.null), none]) (st' := [.null]) rfl rfl ?_
            refine go_a (pc' := 100) (ls' := [some (.ref (c + 0)), some (.int (iI x)), some (.int (iI (pi s 1 x))), some (.ref a3), some (.null), none]) (st' := []) rfl rfl ?_
            refine go_a (pc' := 101) (ls' := [some (.ref (c + 0)), some (.int (iI x)), some (.int (iI (pi s 1 x))), some (.ref a3), some (.null), none]) (st' := [.ref (c + 0)]) rfl rfl ?_
            refine go_v (m := 296) (as := [.ref (c + 0)]) (r := []) rfl rfl rfl (S3.1.1 0 (by decide)) rfl rfl (kk_failure z (d + 89) c h3 s3 S3.1 S3.2.1) (fun v h4 hq => ?_)
            obtain ⟨q, s4, rfl, K4, B4, X4, F4⟩ := hq
            have X9 := kx_tr (kx_tr (kx_tr E1.2.2.2 X2) S3.2.2.2.2.1) X4
            have F9 := GF_tr (GF_tr (GF_tr (STE_GF E1) F2) (PFR_G S3.2.2.2.1)) (SF_G F4)
            have C9 : CI s4 := KSA_CI ⟨F4.1.2.1, by rw [F4.1.1], F4.2 8 (by decide) (by decide) (by decide) (by decide)⟩ S3.2.2.1
            show xx_go (xt_P z) (d + 90) 242 104 [some (.ref (c + 0)), some (.int (iI x)), some (.int (iI (pi s 1 x))), some (.ref a3), some (.null), none] [.int (iI q)] h4 _
            exact go_r rfl rfl rfl rfl rfl rfl (KCM_0 hW K4 B4 C9 X9 F9 rfl (by omega) (by omega) (by omega))
          · have l3 := S3.2.2.2.2.2
            have g3 := S3.2.2.2.1.2.2.2.1
            have F9 := GF_tr (GF_tr (STE_GF E1) F2) (PFR_G S3.2.2.2.1)
            have X9 := kx_tr (kx_tr E1.2.2.2 X2) S3.2.2.2.2.1
            have W3 := KWS_GF hW S3.1 S3.2.1 S3.2.2.1 X9 F9
            have T3 := TM_u (TM_kx T1 (kx_tr X2 S3.2.2.2.2.1)) (show s.I 8 ≤ s3.I 8 by omega)
            have i28 := F9.2.2.1 28 (by decide)
            have i281 := (STE_GF E1).2.2.1 28 (by decide)
            show xx_go (xt_P z) (d + 90) 242 93 [some (.ref (c + 0)), some (.int (iI x)), some (.int (iI (pi s 1 x))), some (.ref a3), none, none] [.ref y] h3 _
            refine go_a (pc' := 95) (ls' := [some (.ref (c + 0)), some (.int (iI x)), some (.int (iI (pi s 1 x))), some (.ref a3), some (.ref y), none]) (st' := []) rfl rfl ?_
            refine go_a (pc' := 97) (ls' := [some (.ref (c + 0)), some (.int (iI x)), some (.int (iI (pi s 1 x))), some (.ref a3), some (.ref y), none]) (st' := [.ref y]) rfl rfl ?_
            refine go_a (pc' := 105) (ls' := [some (.ref (c + 0)), some (.int (iI x)), some (.int (iI (pi s 1 x))), some (.ref a3), some (.ref y), none]) (st' := []) rfl rfl ?_
            have nO2 := nO.2
            refine go_w ?_ (kk_check2 z d c x (pi s 1 x) h3 s3 NM t k W3 (by have := X9.1; omega) lk (by omega) n17 (by omega) a3 n f T3 y C3 (by omega))
            rintro v h9 ⟨r, s9, NM9, t9, e9, W9, F8, X8, l9⟩
            exact ⟨r, s9, NM9, t9, e9, W9, CFR_tr (GF_C F9) F8, kx_w (kx_tr X9 X8) (by omega) (by omega), by omega⟩
        · refine go_a (pc' := 68) (ls' := [some (.ref (c + 0)), some (.int (iI x)), some (.int (iI (pi s 1 x))), some (.ref a3), none, none]) (st' := [.int (iI 8)]) rfl rfl ?_
          exact go_r rfl rfl rfl rfl rfl rfl (KCM_0 (x := 8) hW E1.1 E1.2.1 C1 E1.2.2.2 (STE_GF E1) rfl (by omega) (by omega) (by omega))
      · show xx_go (xt_P z) (d + 90) 242 49 [some (.ref (c + 0)), some (.int (iI x)), some (.int (iI (pi s 1 x))), some (.ref a3), none, none] [.ref b] h1 _
        refine go_a (pc' := 52) (ls' := [some (.ref (c + 0)), some (.int (iI x)), some (.int (iI (pi s 1 x))), some (.ref a3), none, none]) (st' := []) rfl rfl ?_
        refine go_a (pc' := 53) (ls' := [some (.ref (c + 0)), some (.int (iI x)), some (.int (iI (pi s 1 x))), some (.ref a3), none, none]) (st' := [.int (iI 3)]) rfl rfl ?_
        exact go_r rfl rfl rfl rfl rfl rfl (KCM_0 (x := 3) hW E1.1 E1.2.1 C1 E1.2.2.2 (STE_GF E1) rfl (by omega) (by omega) (by omega))
    · show xx_go (xt_P z) (d + 90) 242 32 [some (.ref (c + 0)), some (.int (iI x)), some (.int (iI (pi s 1 x))), some (.ref a3), none, none] [.int (iI 0)] h1 _
      refine mi_eq0 (t := 39) rfl rfl (by omega) (by omega) (fun _ => ?_) (fun q => absurd rfl q)
      refine go_a (pc' := 40) (ls' := [some (.ref (c + 0)), some (.int (iI x)), some (.int (iI (pi s 1 x))), some (.ref a3), none, none]) (st' := [.int (iI 2)]) rfl rfl ?_
      exact go_r rfl rfl rfl rfl rfl rfl (KCM_0 (x := 2) hW E1.1 E1.2.1 C1 E1.2.2.2 (STE_GF E1) rfl (by omega) (by omega) (by omega))
