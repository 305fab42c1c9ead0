theorem kk_define (z : Value) (d c : Nat) (x : Int) (hp : xx_H) (s : KS) (NM : Int → Int) (t : Nat) (k : Int) (hW : KWS c hp s NM t k) (ho : OB s x) (w9 : WD (SD s) x ≤ 1001) (l25 : s.I 8 + WD (SD s) x ≤ 25000) (lb : c + 84 ≤ hp.length) (lk : k ≤ 1000000) (hL : isL (SD s) 4 x) (r2 : pi s 0 x ≠ 2) : xx_cl (xt_P z) (d + 91) 201 [.ref (c + 0), .int (iI x)] hp (fun v h1 => KCM c hp s k (WD (SD s) x) v h1) := by
  have hC := hW.2.2.1
  have hB := hW.2.1
  have u38 := KB_38 hB
  have oR := OB_R hB ho
  have f20 := hW.2.2.2.2.2.2.2.2.2.2
  have W := PI_W hC ho hL (by decide) r2
  have p0 : VD (SD s) (rt (SD s) 0 x) = WD (SD s) (pi s 0 x) + VD (SD s) (rt (SD s) 1 x) ∧ OB s (pi s 0 x) ∧ 1 ≤ WD (SD s) (pi s 0 x) ∧ 0 ≤ VD (SD s) (rt (SD s) 1 x) := PI_w hC ho hL (j := 0) (by decide)
  have p1 : VD (SD s) (rt (SD s) 1 x) = WD (SD s) (pi s 1 x) + VD (SD s) (rt (SD s) 2 x) ∧ OB s (pi s 1 x) ∧ 1 ≤ WD (SD s) (pi s 1 x) ∧ 0 ≤ VD (SD s) (rt (SD s) 2 x) := PI_w hC ho hL (j := 1) (by decide)
  have p2 : VD (SD s) (rt (SD s) 2 x) = WD (SD s) (pi s 2 x) + VD (SD s) (rt (SD s) 3 x) ∧ OB s (pi s 2 x) ∧ 1 ≤ WD (SD s) (pi s 2 x) ∧ 0 ≤ VD (SD s) (rt (SD s) 3 x) := PI_w hC ho hL (j := 2) (by decide)
  have p3 : VD (SD s) (rt (SD s) 3 x) = WD (SD s) (pi s 3 x) + VD (SD s) (rt (SD s) 4 x) ∧ OB s (pi s 3 x) ∧ 1 ≤ WD (SD s) (pi s 3 x) ∧ 0 ≤ VD (SD s) (rt (SD s) 4 x) := PI_w hC ho hL (j := 3) (by decide)
  obtain ⟨p0, o0, i0, j0⟩ := p0
  obtain ⟨p1, o1, i1, j1⟩ := p1
  obtain ⟨p2, o2, i2, j2⟩ := p2
  obtain ⟨p3, o3, i3, j3⟩ := p3
  have hP := KWS_PS hW (by omega)
  have S0 := KST_rf hP
  have nR := OB_R hB o1
  have nn := BKS_nn hW.2.2.2.2.1
  have l24 := hW.2.2.2.2.2.2.2.2.1
  have l40 := hW.2.2.2.2.2.2.2.2.2.1
  have U17 := BKS_17 hW.2.2.2.2.1
  obtain ⟨u, u1, u2, u3, u4⟩ : ∃ u : Int, s.I 8 ≤ u ∧ u ≤ s.I 8 + 1 ∧ 17 + s.I 27 < u ∧ (17 + s.I 27 < s.I 8 → u = s.I 8) := by
    by_cases cu : 17 + s.I 27 < s.I 8
    · exact ⟨s.I 8, by omega, by omega, cu, fun _ => rfl⟩
    · exact ⟨s.I 8 + 1, by omega, by omega, by omega, fun q => absurd q cu⟩
  refine cl_go rfl ?_
  show xx_go (xt_P z) (d + 90) 201 0 [some (.ref (c + 0)), some (.int (iI x)), none, none, none, none] [] hp _
  refine go_a (pc' := 1) (ls' := [some (.ref (c + 0)), some (.int (iI x)), none, none, none, none]) (st' := [.ref (c + 0)]) rfl rfl ?_
  refine go_get (v := .ref (c + 4)) rfl (hW.1.1 0 (by decide)) rfl rfl ?_
  refine go_a (pc' := 5) (ls' := [some (.ref (c + 0)), some (.int (iI x)), none, none, none, none]) (st' := [.int (iI x), .ref (c + 4)]) rfl rfl ?_
  refine go_a (pc' := 6) (ls' := [some (.ref (c + 0)), some (.int (iI x)), none, none, none, none]) (st' := [.int (iI 1), .int (iI x), .ref (c + 4)]) rfl rfl ?_
  refine go_v (m := 202) (as := [.ref (c + 4), .int (iI x), .int (iI 1)]) (r := []) rfl rfl rfl (hW.1.1 3 (by decide)) rfl rfl (kq_part z (d + 88) S0 hC ho hL (by decide) (by decide) (by decide)) (fun v h3 hq => ?_)
  obtain ⟨rfl, e9⟩ := hq
  rw [e9]
  clear e9 h3
  show xx_go (xt_P z) (d + 90) 201 9 [some (.ref (c + 0)), some (.int (iI x)), none, none, none, none] [.int (iI (pi s 1 x))] hp _
  refine go_a (pc' := 10) (ls' := [some (.ref (c + 0)), some (.int (iI x)), some (.int (iI (pi s 1 x))), none, none, none]) (st' := []) rfl rfl ?_
  refine go_a (pc' := 11) (ls' := [some (.ref (c + 0)), some (.int (iI x)), some (.int (iI (pi s 1 x))), none, none, none]) (st' := [.ref (c + 0)]) rfl rfl ?_
  refine go_get (v := .ref (c + 25)) rfl (hW.1.1 0 (by decide)) rfl rfl ?_
  refine go_a (pc' := 15) (ls' := [some (.ref (c + 0)), some (.int (iI x)), some (.int (iI (pi s 1 x))), none, none, none]) (st' := [.ref (c + 0), .ref (c + 25)]) rfl rfl ?_
  refine go_get (v := .ref (c + 4)) rfl (hW.1.1 0 (by decide)) rfl rfl ?_
  refine go_a (pc' := 19) (ls' := [some (.ref (c + 0)), some (.int (iI x)), some (.int (iI (pi s 1 x))), none, none, none]) (st' := [.int (iI x), .ref (c + 4), .ref (c + 25)]) rfl rfl ?_
  refine go_a (pc' := 20) (ls' := [some (.ref (c + 0)), some (.int (iI x)), some (.int (iI (pi s 1 x))), none, none, none]) (st' := [.int (iI 2), .int (iI x), .ref (c + 4), .ref (c + 25)]) rfl rfl ?_
  refine go_v (m := 202) (as := [.ref (c + 4), .int (iI x), .int (iI 2)]) (r := [.ref (c + 25)]) rfl rfl rfl (hW.1.1 3 (by decide)) rfl rfl (kq_part z (d + 88) S0 hC ho hL (by decide) (by decide) (by decide)) (fun v h3 hq => ?_)
  obtain ⟨rfl, e9⟩ := hq
  rw [e9]
  clear e9 h3
  show xx_go (xt_P z) (d + 90) 201 23 [some (.ref (c + 0)), some (.int (iI x)), some (.int (iI (pi s 1 x))), none, none, none] [.int (iI (pi s 2 x)), .ref (c + 25)] hp _
  refine go_v (m := 203) (as := [.ref (c + 25), .int (iI (pi s 2 x))]) (r := []) rfl rfl rfl (hW.1.1 16 (by decide)) rfl rfl (kg_variables z (d + 86) c (pi s 2 x) (s.I 8) hp s hW.1 hB hC o2 (Int.le_refl _) (by omega)) (fun v h1 hq => ?_)
  obtain ⟨K1, X1, hv⟩ := hq
  have W1 := KWS_GF hW K1 hB hC X1 GF_rf
  rcases hv with rfl | ⟨q3, m, g, rfl, lq, A1, kq, m6, hg⟩
  · show xx_go (xt_P z) (d + 90) 201 26 [some (.ref (c + 0)), some (.int (iI x)), some (.int (iI (pi s 1 x))), none, none, none] [.null] h1 _
    refine go_a (pc' := 27) (ls' := [some (.ref (c + 0)), some (.int (iI x)), some (.int (iI (pi s 1 x))), some (.null), none, none]) (st' := []) rfl rfl ?_
    refine go_a (pc' := 28) (ls' := [some (.ref (c + 0)), some (.int (iI x)), some (.int (iI (pi s 1 x))), some (.null), none, none]) (st' := [.ref (c + 0)]) rfl rfl ?_
    refine go_a (pc' := 29) (ls' := [some (.ref (c + 0)), some (.int (iI x)), some (.int (iI (pi s 1 x))), some (.null), none, none]) (st' := [.int (iI (pi s 1 x)), .ref (c + 0)]) rfl rfl ?_
    have no : xx_go (xt_P z) (d + 90) 201 39 [some (.ref (c + 0)), some (.int (iI x)), some (.int (iI (pi s 1 x))), some (.null), none, none] [] h1 (fun v h1 => KCM c hp s k (WD (SD s) x) v h1) := by
      refine go_a (pc' := 40) (ls' := [some (.ref (c + 0)), some (.int (iI x)), some (.int (iI (pi s 1 x))), some (.null), none, none]) (st' := [.int (iI 2)]) rfl rfl ?_
      exact go_r rfl rfl rfl rfl rfl rfl (KCM_0 (x := 2) hW K1 hB hC X1 GF_rf rfl (by omega) (by omega) (by omega))
    refine go_v (m := 208) (as := [.ref (c + 0), .int (iI (pi s 1 x))]) (r := []) rfl rfl rfl (K1.1 0 (by decide)) rfl rfl (kk_mayName z (d + 87) c (pi s 1 x) h1 s K1 hB nR.1 nR.2) (fun v h3 hq => ?_)
    obtain ⟨hq, e9⟩ := hq
    rw [e9]
    clear e9 h3
    rcases hq with ⟨rfl, -⟩ | rfl
    · show xx_go (xt_P z) (d + 90) 201 32 [some (.ref (c + 0)), some (.int (iI x)), some (.int (iI (pi s 1 x))), some (.null), none, none] [.int (iI 1)] h1 _
      refine mi_eq0 (t := 39) rfl rfl (by omega) (by omega) (fun q => absurd q (by decide)) (fun _ => ?_)
      refine go_a (pc' := 36) (ls' := [some (.ref (c + 0)), some (.int (iI x)), some (.int (iI (pi s 1 x))), some (.null), none, none]) (st' := [.null]) rfl rfl ?_
      refine go_a (pc' := 39) (ls' := [some (.ref (c + 0)), some (.int (iI x)), some (.int (iI (pi s 1 x))), some (.null), none, none]) (st' := []) rfl rfl ?_
      exact no
    · show xx_go (xt_P z) (d + 90) 201 32 [some (.ref (c + 0)), some (.int (iI x)), some (.int (iI (pi s 1 x))), some (.null), none, none] [.int (iI 0)] h1 _
      refine mi_eq0 (t := 39) rfl rfl (by omega) (by omega) (fun _ => no) (fun q => absurd rfl q)
  · have mR := A1.2.1
    show xx_go (xt_P z) (d + 90) 201 26 [some (.ref (c + 0)), some (.int (iI x)), some (.int (iI (pi s 1 x))), none, none, none] [.ref q3] h1 _
    refine go_a (pc' := 27) (ls' := [some (.ref (c + 0)), some (.int (iI x)), some (.int (iI (pi s 1 x))), some (.ref q3), none, none]) (st' := []) rfl rfl ?_
    refine go_a (pc' := 28) (ls' := [some (.ref (c + 0)), some (.int (iI x)), some (.int (iI (pi s 1 x))), some (.ref q3), none, none]) (st' := [.ref (c + 0)]) rfl rfl ?_
    refine go_a (pc' := 29) (ls' := [some (.ref (c + 0)), some (.int (iI x)), some (.int (iI (pi s 1 x))), some (.ref q3), none, none]) (st' := [.int (iI (pi s 1 x)), .ref (c + 0)]) rfl rfl ?_
    refine go_v (m := 208) (as := [.ref (c + 0), .int (iI (pi s 1 x))]) (r := []) rfl rfl rfl (K1.1 0 (by decide)) rfl rfl (kk_mayName z (d + 87) c (pi s 1 x) h1 s K1 hB nR.1 nR.2) (fun v h3 hq => ?_)
    obtain ⟨hq, e9⟩ := hq
    rw [e9]
    clear e9 h3
    rcases hq with ⟨rfl, nO, n17⟩ | rfl
    · show xx_go (xt_P z) (d + 90) 201 32 [some (.ref (c + 0)), some (.int (iI x)), some (.int (iI (pi s 1 x))), some (.ref q3), none, none] [.int (iI 1)] h1 _
      refine mi_eq0 (t := 39) rfl rfl (by omega) (by omega) (fun q => absurd q (by decide)) (fun _ => ?_)
      refine go_a (pc' := 36) (ls' := [some (.ref (c + 0)), some (.int (iI x)), some (.int (iI (pi s 1 x))), some (.ref q3), none, none]) (st' := [.ref q3]) rfl rfl ?_
      refine go_a (pc' := 41) (ls' := [some (.ref (c + 0)), some (.int (iI x)), some (.int (iI (pi s 1 x))), some (.ref q3), none, none]) (st' := []) rfl rfl ?_
      refine go_a (pc' := 43) (ls' := [some (.ref (c + 0)), some (.int (iI x)), some (.int (iI (pi s 1 x))), some (.ref q3), none, none]) (st' := [.int (iI 17)]) rfl rfl ?_
      refine go_a (pc' := 44) (ls' := [some (.ref (c + 0)), some (.int (iI x)), some (.int (iI (pi s 1 x))), some (.ref q3), none, none]) (st' := [.ref (c + 0), .int (iI 17)]) rfl rfl ?_
      refine go_get (v := .ref (c + 21)) rfl (K1.1 0 (by decide)) rfl rfl ?_
      refine go_v (m := 46) (as := [.ref (c + 21)]) (r := [.int (iI 17)]) rfl rfl rfl (K1.1 12 (by decide)) rfl rfl (kf_functions z (d + 88) c h1 s K1) (fun v h3 hq => ?_)
      obtain ⟨rfl, e9⟩ := hq
      rw [e9]
      clear e9 h3
      show xx_go (xt_P z) (d + 90) 201 50 [some (.ref (c + 0)), some (.int (iI x)), some (.int (iI (pi s 1 x))), some (.ref q3), none, none] [.int (iI (s.I 27)), .int (iI 17)] h1 _
      refine mi_add rfl ?_
      refine go_a (pc' := 52) (ls' := [some (.ref (c + 0)), some (.int (iI x)), some (.int (iI (pi s 1 x))), some (.ref q3), none, none]) (st' := [.ref q3, .int (iI (17 + (s.I 27)))]) rfl rfl ?_
      refine mk_len (n := m) rfl A1.1 (xa_f_len _ _) (by omega) (by omega) ?_
      refine go_s (m := 209) (as := [.int (iI (17 + (s.I 27))), .int (iI m)]) (r := []) rfl rfl rfl rfl (kg_call z (d + 89) (17 + s.I 27) m h1 (by omega) (by omega) (by omega) (by omega)) (fun v h3 hq => ?_)
      obtain ⟨rfl, e9⟩ := hq
      rw [e9]
      clear e9 h3
      show xx_go (xt_P z) (d + 90) 201 56 [some (.ref (c + 0)), some (.int (iI x)), some (.int (iI (pi s 1 x))), some (.ref q3), none, none] [.int (iI (fcl (s.I 27) m))] h1 _
      refine go_a (pc' := 58) (ls' := [some (.ref (c + 0)), some (.int (iI x)), some (.int (iI (pi s 1 x))), some (.ref q3), some (.int (iI (fcl (s.I 27) m))), none]) (st' := []) rfl rfl ?_
      refine go_a (pc' := 59) (ls' := [some (.ref (c + 0)), some (.int (iI x)), some (.int (iI (pi s 1 x))), some (.ref q3), some (.int (iI (fcl (s.I 27) m))), none]) (st' := [.ref (c + 0)]) rfl rfl ?_
      refine go_get (v := .ref (c + 25)) rfl (K1.1 0 (by decide)) rfl rfl ?_
      refine go_a (pc' := 63) (ls' := [some (.ref (c + 0)), some (.int (iI x)), some (.int (iI (pi s 1 x))), some (.ref q3), some (.int (iI (fcl (s.I 27) m))), none]) (st' := [.ref (c + 0), .ref (c + 25)]) rfl rfl ?_
      refine go_get (v := .ref (c + 4)) rfl (K1.1 0 (by decide)) rfl rfl ?_
      refine go_a (pc' := 67) (ls' := [some (.ref (c + 0)), some (.int (iI x)), some (.int (iI (pi s 1 x))), some (.ref q3), some (.int (iI (fcl (s.I 27) m))), none]) (st' := [.int (iI x), .ref (c + 4), .ref (c + 25)]) rfl rfl ?_
      refine go_a (pc' := 68) (ls' := [some (.ref (c + 0)), some (.int (iI x)), some (.int (iI (pi s 1 x))), some (.ref q3), some (.int (iI (fcl (s.I 27) m))), none]) (st' := [.int (iI 3), .int (iI x), .ref (c + 4), .ref (c + 25)]) rfl rfl ?_
      have vc : TVx u (fcl (s.I 27) m) ∧ fcl (s.I 27) m % 4 = 2 := TVx_call (w := 17 + s.I 27) (by omega) u3 (by omega) (by omega) (by omega) (by omega) (by omega)
      have S1 := KST_X S0 K1 X1
      refine go_v (m := 202) (as := [.ref (c + 4), .int (iI x), .int (iI 3)]) (r := [.ref (c + 25)]) rfl rfl rfl (K1.1 3 (by decide)) rfl rfl (kq_part z (d + 88) S1 hC ho hL (by decide) (by decide) (by decide)) (fun v h3 hq => ?_)
      obtain ⟨rfl, e9⟩ := hq
      rw [e9]
      clear e9 h3
      show xx_go (xt_P z) (d + 90) 201 71 [some (.ref (c + 0)), some (.int (iI x)), some (.int (iI (pi s 1 x))), some (.ref q3), some (.int (iI (fcl (s.I 27) m))), none] [.int (iI (pi s 3 x)), .ref (c + 25)] h1 _
      refine go_a (pc' := 72) (ls' := [some (.ref (c + 0)), some (.int (iI x)), some (.int (iI (pi s 1 x))), some (.ref q3), some (.int (iI (fcl (s.I 27) m))), none]) (st' := [.int (iI (pi s 1 x)), .int (iI (pi s 3 x)), .ref (c + 25)]) rfl rfl ?_
      refine go_a (pc' := 74) (ls' := [some (.ref (c + 0)), some (.int (iI x)), some (.int (iI (pi s 1 x))), some (.ref q3), some (.int (iI (fcl (s.I 27) m))), none]) (st' := [.int (iI (fcl (s.I 27) m)), .int (iI (pi s 1 x)), .int (iI (pi s 3 x)), .ref (c + 25)]) rfl rfl ?_
      refine go_v (m := 210) (as := [.ref (c + 25), .int (iI (pi s 3 x)), .int (iI (pi s 1 x)), .int (iI (fcl (s.I 27) m))]) (r := []) rfl rfl rfl (K1.1 16 (by decide)) rfl rfl (kg_readBody z (d + 82) c (pi s 3 x) (pi s 1 x) (fcl (s.I 27) m) u h1 s K1 hB hC NM (BKS_BF W1.2.2.2.2.1 (by omega) rfl) (by omega) (by omega) u1 W1.2.2.2.1 hW.2.2.2.2.2.2.2.1.1 hW.2.2.2.2.2.2.2.1.2 o1.1 nR.2 vc.1 vc.2 o3 (by omega)) (fun v h2 hq => ?_)
      obtain ⟨s2, K2, B2, F2, hv⟩ := hq
      have C2 := TF_CI F2 hC
      have G2 := PFR_G (TF_P F2)
      have i8 := F2.2.2.2 8 (by decide) (by decide)
      have i27 := F2.2.2.2 27 (by decide) (by decide)
      have i24 := F2.2.2.2 24 (by decide) (by decide)
      rcases hv with ⟨rfl, X2⟩ | ⟨a5, n, f, rfl, ln, la, X2, T2⟩
      · show xx_go (xt_P z) (d + 90) 201 77 [some (.ref (c + 0)), some (.int (iI x)), some (.int (iI (pi s 1 x))), some (.ref q3), some (.int (iI (fcl (s.I 27) m))), none] [.null] h2 _
        refine go_a (pc' := 79) (ls' := [some (.ref (c + 0)), some (.int (iI x)), some (.int (iI (pi s 1 x))), some (.ref q3), some (.int (iI (fcl (s.I 27) m))), some (.null)]) (st' := []) rfl rfl ?_
        refine go_a (pc' := 81) (ls' := [some (.ref (c + 0)), some (.int (iI x)), some (.int (iI (pi s 1 x))), some (.ref q3), some (.int (iI (fcl (s.I 27) m))), some (.null)]) (st' := [.null]) rfl rfl ?_
        refine go_a (pc' := 103) (ls' := [some (.ref (c + 0)), some (.int (iI x)), some (.int (iI (pi s 1 x))), some (.ref q3), some (.int (iI (fcl (s.I 27) m))), some (.null)]) (st' := []) rfl rfl ?_
        refine go_a (pc' := 104) (ls' := [some (.ref (c + 0)), some (.int (iI x)), some (.int (iI (pi s 1 x))), some (.ref q3), some (.int (iI (fcl (s.I 27) m))), some (.null)]) (st' := [.int (iI 2)]) rfl rfl ?_
        exact go_r rfl rfl rfl rfl rfl rfl (KCM_0 (x := 2) hW K2 B2 C2 (kx_tr X1 X2) G2 rfl (by omega) (by omega) (by omega))
      · have X9 := kx_tr X1 X2
        have W2 := KWS_GF hW K2 B2 C2 X9 G2
        obtain ⟨A2, kq2⟩ := KAL_kx A1 kq X2
        have Tp := (TMp T2).1
        have n120 := TM_n T2
        show xx_go (xt_P z) (d + 90) 201 77 [some (.ref (c + 0)), some (.int (iI x)), some (.int (iI (pi s 1 x))), some (.ref q3), some (.int (iI (fcl (s.I 27) m))), none] [.ref a5] h2 _
        refine go_a (pc' := 79) (ls' := [some (.ref (c + 0)), some (.int (iI x)), some (.int (iI (pi s 1 x))), some (.ref q3), some (.int (iI (fcl (s.I 27) m))), some (.ref a5)]) (st' := []) rfl rfl ?_
        refine go_a (pc' := 81) (ls' := [some (.ref (c + 0)), some (.int (iI x)), some (.int (iI (pi s 1 x))), some (.ref q3), some (.int (iI (fcl (s.I 27) m))), some (.ref a5)]) (st' := [.ref a5]) rfl rfl ?_
        refine go_a (pc' := 84) (ls' := [some (.ref (c + 0)), some (.int (iI x)), some (.int (iI (pi s 1 x))), some (.ref q3), some (.int (iI (fcl (s.I 27) m))), some (.ref a5)]) (st' := []) rfl rfl ?_
        refine go_a (pc' := 86) (ls' := [some (.ref (c + 0)), some (.int (iI x)), some (.int (iI (pi s 1 x))), some (.ref q3), some (.int (iI (fcl (s.I 27) m))), some (.ref a5)]) (st' := [.ref a5]) rfl rfl ?_
        refine go_a (pc' := 87) (ls' := [some (.ref (c + 0)), some (.int (iI x)), some (.int (iI (pi s 1 x))), some (.ref q3), some (.int (iI (fcl (s.I 27) m))), some (.ref a5)]) (st' := [.ref q3, .ref a5]) rfl rfl ?_
        have no : xx_go (xt_P z) (d + 90) 201 103 [some (.ref (c + 0)), some (.int (iI x)), some (.int (iI (pi s 1 x))), some (.ref q3), some (.int (iI (fcl (s.I 27) m))), some (.ref a5)] [] h2 (fun v h1 => KCM c hp s k (WD (SD s) x) v h1) := by
          refine go_a (pc' := 104) (ls' := [some (.ref (c + 0)), some (.int (iI x)), some (.int (iI (pi s 1 x))), some (.ref q3), some (.int (iI (fcl (s.I 27) m))), some (.ref a5)]) (st' := [.int (iI 2)]) rfl rfl ?_
          exact go_r rfl rfl rfl rfl rfl rfl (KCM_0 (x := 2) hW K2 B2 C2 X9 G2 rfl (by omega) (by omega) (by omega))
        refine go_v (m := 226) (as := [.ref a5, .ref q3]) (r := []) rfl rfl rfl Tp.1 rfl rfl (kg_hasBut z (d + 88) a5 (a5 + 1) n f h2 Tp q3 m g A2) (fun v h3 hq => ?_)
        obtain ⟨hq, e9⟩ := hq
        rw [e9]
        clear e9 h3
        rcases hq with rfl | rfl
        · show xx_go (xt_P z) (d + 90) 201 90 [some (.ref (c + 0)), some (.int (iI x)), some (.int (iI (pi s 1 x))), some (.ref q3), some (.int (iI (fcl (s.I 27) m))), some (.ref a5)] [.int (iI 1)] h2 _
          refine mi_eq0 (t := 103) rfl rfl (by omega) (by omega) (fun q => absurd q (by decide)) (fun _ => ?_)
          refine go_a (pc' := 95) (ls' := [some (.ref (c + 0)), some (.int (iI x)), some (.int (iI (pi s 1 x))), some (.ref q3), some (.int (iI (fcl (s.I 27) m))), some (.ref a5)]) (st' := [.ref a5]) rfl rfl ?_
          refine go_a (pc' := 97) (ls' := [some (.ref (c + 0)), some (.int (iI x)), some (.int (iI (pi s 1 x))), some (.ref q3), some (.int (iI (fcl (s.I 27) m))), some (.ref a5)]) (st' := [.int (iI (fcl (s.I 27) m)), .ref a5]) rfl rfl ?_
          have fx : 0 ≤ fcl (s.I 27) m ∧ fcl (s.I 27) m ≤ 2147483647 := ⟨vc.1.1, vc.1.2.1⟩
          refine go_s (m := 228) (as := [.ref a5, .int (iI (fcl (s.I 27) m))]) (r := []) rfl rfl rfl rfl (kp_areLawful z (d + 87) (fcl (s.I 27) m) fx.1 fx.2 a5 (a5 + 1) n f h2 Tp T2.2.1) (fun v h3 hq => ?_)
          obtain ⟨hq, e9⟩ := hq
          rw [e9]
          clear e9 h3
          rcases hq with ⟨rfl, hLw⟩ | rfl
          · show xx_go (xt_P z) (d + 90) 201 100 [some (.ref (c + 0)), some (.int (iI x)), some (.int (iI (pi s 1 x))), some (.ref q3), some (.int (iI (fcl (s.I 27) m))), some (.ref a5)] [.int (iI 1)] h2 _
            refine mi_ne0 (t := 105) rfl rfl (by omega) (by omega) (fun _ => ?_) (fun q => absurd (show (1 : Int) ≠ 0 by decide) q)
            refine go_a (pc' := 106) (ls' := [some (.ref (c + 0)), some (.int (iI x)), some (.int (iI (pi s 1 x))), some (.ref q3), some (.int (iI (fcl (s.I 27) m))), some (.ref a5)]) (st' := [.ref (c + 0)]) rfl rfl ?_
            refine go_get (v := .ref (c + 21)) rfl (K2.1 0 (by decide)) rfl rfl ?_
            refine go_a (pc' := 110) (ls' := [some (.ref (c + 0)), some (.int (iI x)), some (.int (iI (pi s 1 x))), some (.ref q3), some (.int (iI (fcl (s.I 27) m))), some (.ref a5)]) (st' := [.int (iI (pi s 1 x)), .ref (c + 21)]) rfl rfl ?_
            refine go_v (m := 216) (as := [.ref (c + 21), .int (iI (pi s 1 x))]) (r := []) rfl rfl rfl (K2.1 12 (by decide)) rfl rfl (kf_function z (d + 86) c (pi s 1 x) h2 s2 K2 B2 u NM (BKS_BF W2.2.2.2.2.1 (by omega) rfl) (by omega) nR.1 nR.2) (fun v h3 hq => ?_)
            obtain ⟨hq, e9⟩ := hq
            rw [e9]
            clear e9 h3
            rcases hq with ⟨rfl, fr⟩ | ⟨b, ib, mb, gb, nb, fb, cb, rfl, -⟩
            · show xx_go (xt_P z) (d + 90) 201 113 [some (.ref (c + 0)), some (.int (iI x)), some (.int (iI (pi s 1 x))), some (.ref q3), some (.int (iI (fcl (s.I 27) m))), some (.ref a5)] [.null] h2 _
              refine go_a (pc' := 118) (ls' := [some (.ref (c + 0)), some (.int (iI x)), some (.int (iI (pi s 1 x))), some (.ref q3), some (.int (iI (fcl (s.I 27) m))), some (.ref a5)]) (st' := []) rfl rfl ?_
              refine go_a (pc' := 119) (ls' := [some (.ref (c + 0)), some (.int (iI x)), some (.int (iI (pi s 1 x))), some (.ref q3), some (.int (iI (fcl (s.I 27) m))), some (.ref a5)]) (st' := [.ref (c + 0)]) rfl rfl ?_
              refine go_get (v := .ref (c + 21)) rfl (K2.1 0 (by decide)) rfl rfl ?_
              refine go_v (m := 46) (as := [.ref (c + 21)]) (r := []) rfl rfl rfl (K2.1 12 (by decide)) rfl rfl (kf_functions z (d + 88) c h2 s2 K2) (fun v h3 hq => ?_)
              obtain ⟨rfl, e9⟩ := hq
              rw [e9]
              clear e9 h3
              show xx_go (xt_P z) (d + 90) 201 125 [some (.ref (c + 0)), some (.int (iI x)), some (.int (iI (pi s 1 x))), some (.ref q3), some (.int (iI (fcl (s.I 27) m))), some (.ref a5)] [.int (iI (s2.I 27))] h2 _
              refine go_a (pc' := 127) (ls' := [some (.ref (c + 0)), some (.int (iI x)), some (.int (iI (pi s 1 x))), some (.ref q3), some (.int (iI (fcl (s.I 27) m))), some (.ref a5)]) (st' := [.int (iI 40), .int (iI (s2.I 27))]) rfl rfl ?_
              refine mi_lt (t := 133) rfl rfl (by omega) (by omega) (by omega) (by omega) (fun w1 => ?_) (fun w1 => ?_)
              · have nO2 := nO.2
                have l17 := BKS_18 hW.2.2.2.2.1 l24 n17 nO2 (fun i i0 i1 => fr i i0 (by omega))
                obtain rfl : u = s.I 8 := u4 l17
                refine go_a (pc' := 134) (ls' := [some (.ref (c + 0)), some (.int (iI x)), some (.int (iI (pi s 1 x))), some (.ref q3), some (.int (iI (fcl (s.I 27) m))), some (.ref a5)]) (st' := [.ref (c + 0)]) rfl rfl ?_
                have h12 := (ki_12 K2).2
                refine go_new (ci := 11) (fs := [.int 0, .int 0, .null, .null, .int 0]) rfl rfl rfl ?_
                show xx_go (xt_P z) (d + 90) 201 137 [some (.ref (c + 0)), some (.int (iI x)), some (.int (iI (pi s 1 x))), some (.ref q3), some (.int (iI (fcl (s.I 27) m))), some (.ref a5)] [.ref h2.length, .ref (c + 0)] (h2 ++ [.inr (11, [.int 0, .int 0, .null, .null, .int 0])]) _
                obtain ⟨Z1, -⟩ := ki_app (e := (.inr (11, [.int 0, .int 0, .null, .null, .int 0]) : xx_E)) K2
                refine go_a (pc' := 138) (ls' := [some (.ref (c + 0)), some (.int (iI x)), some (.int (iI (pi s 1 x))), some (.ref q3), some (.int (iI (fcl (s.I 27) m))), some (.ref a5)]) (st' := [.ref h2.length, .ref h2.length, .ref (c + 0)]) rfl rfl ?_
                refine go_a (pc' := 139) (ls' := [some (.ref (c + 0)), some (.int (iI x)), some (.int (iI (pi s 1 x))), some (.ref q3), some (.int (iI (fcl (s.I 27) m))), some (.ref a5)]) (st' := [.int (iI (pi s 1 x)), .ref h2.length, .ref h2.length, .ref (c + 0)]) rfl rfl ?_
                refine go_a (pc' := 141) (ls' := [some (.ref (c + 0)), some (.int (iI x)), some (.int (iI (pi s 1 x))), some (.ref q3), some (.int (iI (fcl (s.I 27) m))), some (.ref a5)]) (st' := [.int (iI (fcl (s.I 27) m)), .int (iI (pi s 1 x)), .ref h2.length, .ref h2.length, .ref (c + 0)]) rfl rfl ?_
                refine go_a (pc' := 142) (ls' := [some (.ref (c + 0)), some (.int (iI x)), some (.int (iI (pi s 1 x))), some (.ref q3), some (.int (iI (fcl (s.I 27) m))), some (.ref a5)]) (st' := [.ref q3, .int (iI (fcl (s.I 27) m)), .int (iI (pi s 1 x)), .ref h2.length, .ref h2.length, .ref (c + 0)]) rfl rfl ?_
                refine go_a (pc' := 144) (ls' := [some (.ref (c + 0)), some (.int (iI x)), some (.int (iI (pi s 1 x))), some (.ref q3), some (.int (iI (fcl (s.I 27) m))), some (.ref a5)]) (st' := [.ref a5, .ref q3, .int (iI (fcl (s.I 27) m)), .int (iI (pi s 1 x)), .ref h2.length, .ref h2.length, .ref (c + 0)]) rfl rfl ?_
                refine go_a (pc' := 145) (ls' := [some (.ref (c + 0)), some (.int (iI x)), some (.int (iI (pi s 1 x))), some (.ref q3), some (.int (iI (fcl (s.I 27) m))), some (.ref a5)]) (st' := [.ref (c + 0), .ref a5, .ref q3, .int (iI (fcl (s.I 27) m)), .int (iI (pi s 1 x)), .ref h2.length, .ref h2.length, .ref (c + 0)]) rfl rfl ?_
                refine go_get (v := .int (iI (s2.I 24))) rfl (Z1.1 0 (by decide)) rfl rfl ?_
                refine go_i (m := 233) (as := [.ref h2.length, .int (iI (pi s 1 x)), .int (iI (fcl (s.I 27) m)), .ref q3, .ref a5, .int (iI (s2.I 24))]) (r := [.ref h2.length, .ref (c + 0)]) rfl rfl rfl rfl rfl (kf_init z (d + 89) q3 a5 (pi s 1 x) (fcl (s.I 27) m) (s2.I 24) h2 h12) (fun v h3 hq => ?_)
                obtain ⟨rfl, e9⟩ := hq
                obtain ⟨K3, X3, N3⟩ := ki_app (e := (.inr (11, [.int (iI (pi s 1 x)), .int (iI (fcl (s.I 27) m)), .ref q3, .ref a5, .int (iI (s2.I 24))]) : xx_E)) K2
                have ca : (h2 ++ [(.inr (11, [.int (iI (pi s 1 x)), .int (iI (fcl (s.I 27) m)), .ref q3, .ref a5, .int (iI (s2.I 24))]) : xx_E)])[h2.length]? = some (.inr (11, [.int (iI (pi s 1 x)), .int (iI (fcl (s.I 27) m)), .ref q3, .ref a5, .int (iI (s2.I 24))])) := app_self
                rw [← e9] at K3 X3 ca
                have W3 := KWS_GF W2 K3 B2 C2 X3 GF_rf
                obtain ⟨A3, kq3⟩ := KAL_kx A2 kq2 X3
                have T3 := TM_kx T2 X3
                have b24 := B2.2.1 24
                have TH : FTH c h3 s2 (s2.I 8) h2.length (s2.I 27) (pi s 1 x) m g n f (s2.I 24) := by
                  rw [i8, i27]
                  exact ⟨q3, a5, ca, N3, A3, kq3, T3, ⟨mR.1, m6⟩, ⟨n17, nO2⟩, ⟨by omega, by omega, by omega⟩, hg, hLw, b24, by omega⟩
                show xx_go (xt_P z) (d + 90) 201 151 [some (.ref (c + 0)), some (.int (iI x)), some (.int (iI (pi s 1 x))), some (.ref q3), some (.int (iI (fcl (s.I 27) m))), some (.ref a5)] [.ref h2.length, .ref (c + 0)] h3 _
                refine go_v (m := 234) (as := [.ref (c + 0), .ref h2.length]) (r := []) rfl rfl rfl (K3.1 0 (by decide)) rfl rfl (kk_takeF z (d + 83) c h2.length h3 s2 NM t k W3 lk (pi s 1 x) m g n f TH (fun i i0 i1 => fr i i0 i1) (by omega)) (fun v h4 hq => ?_)
                obtain ⟨rfl, s5, NM5, t5, W5, F5, X6, e24⟩ := hq
                show xx_go (xt_P z) (d + 90) 201 154 [some (.ref (c + 0)), some (.int (iI x)), some (.int (iI (pi s 1 x))), some (.ref q3), some (.int (iI (fcl (s.I 27) m))), some (.ref a5)] [] h4 _
                refine go_a (pc' := 155) (ls' := [some (.ref (c + 0)), some (.int (iI x)), some (.int (iI (pi s 1 x))), some (.ref q3), some (.int (iI (fcl (s.I 27) m))), some (.ref a5)]) (st' := [.int (iI 0)]) rfl rfl ?_
                exact go_r rfl rfl rfl rfl rfl rfl ⟨0, s5, NM5, t5, rfl, W5, CFR_tr (GF_C G2) F5, kx_w (kx_tr (kx_tr X9 X3) X6) (by omega) (show (6 : Int) + (n + 1) + ((5 : Nat) : Int) + 2 ≤ _ by omega), by omega⟩
              · refine go_a (pc' := 132) (ls' := [some (.ref (c + 0)), some (.int (iI x)), some (.int (iI (pi s 1 x))), some (.ref q3), some (.int (iI (fcl (s.I 27) m))), some (.ref a5)]) (st' := [.int (iI 8)]) rfl rfl ?_
                exact go_r rfl rfl rfl rfl rfl rfl (KCM_0 (x := 8) hW K2 B2 C2 X9 G2 rfl (by omega) (by omega) (by omega))
            · show xx_go (xt_P z) (d + 90) 201 113 [some (.ref (c + 0)), some (.int (iI x)), some (.int (iI (pi s 1 x))), some (.ref q3), some (.int (iI (fcl (s.I 27) m))), some (.ref a5)] [.ref b] h2 _
              refine go_a (pc' := 116) (ls' := [some (.ref (c + 0)), some (.int (iI x)), some (.int (iI (pi s 1 x))), some (.ref q3), some (.int (iI (fcl (s.I 27) m))), some (.ref a5)]) (st' := []) rfl rfl ?_
              refine go_a (pc' := 117) (ls' := [some (.ref (c + 0)), some (.int (iI x)), some (.int (iI (pi s 1 x))), some (.ref q3), some (.int (iI (fcl (s.I 27) m))), some (.ref a5)]) (st' := [.int (iI 3)]) rfl rfl ?_
              exact go_r rfl rfl rfl rfl rfl rfl (KCM_0 (x := 3) hW K2 B2 C2 X9 G2 rfl (by omega) (by omega) (by omega))
          · show xx_go (xt_P z) (d + 90) 201 100 [some (.ref (c + 0)), some (.int (iI x)), some (.int (iI (pi s 1 x))), some (.ref q3), some (.int (iI (fcl (s.I 27) m))), some (.ref a5)] [.int (iI 0)] h2 _
            refine mi_ne0 (t := 105) rfl rfl (by omega) (by omega) (fun q => absurd rfl q) (fun _ => no)
        · show xx_go (xt_P z) (d + 90) 201 90 [some (.ref (c + 0)), some (.int (iI x)), some (.int (iI (pi s 1 x))), some (.ref q3), some (.int (iI (fcl (s.I 27) m))), some (.ref a5)] [.int (iI 0)] h2 _
          refine mi_eq0 (t := 103) rfl rfl (by omega) (by omega) (fun _ => no) (fun q => absurd rfl q)
    · show xx_go (xt_P z) (d + 90) 201 32 [some (.ref (c + 0)), some (.int (iI x)), some (.int (iI (pi s 1 x))), some (.ref q3), none, none] [.int (iI 0)] h1 _
      refine mi_eq0 (t := 39) rfl rfl (by omega) (by omega) (fun _ => ?_) (fun q => absurd rfl q)
      refine go_a (pc' := 40) (ls' := [some (.ref (c + 0)), some (.int (iI x)), some (.int (iI (pi s 1 x))), some (.ref q3), none, none]) (st' := [.int (iI 2)]) rfl rfl ?_
      exact go_r rfl rfl rfl rfl rfl rfl (KCM_0 (x := 2) hW K1 hB hC X1 GF_rf rfl (by omega) (by omega) (by omega))
