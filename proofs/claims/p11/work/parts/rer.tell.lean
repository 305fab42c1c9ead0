theorem kk_tell2 (z : Value) (hz : z = .null ∨ ∃ k, z = .ref k) (d c : Nat) (cc x l : Int) (a : Nat) (hp0 : xx_H) (s0 : Int × Int) (hp : xx_H) (s : KS) (t : List sp_Th) (hI : KIC c hp0 s0 cc hp s t) (h1 : xx_H) (s1 : KS) (K1 : KI c h1 s1) (B1 : KB s1) (C1 : CX s1) (X1 : kx c hp s h1 s1 0 0) (F1 : PFR s s1) (l0 : -2147483648 ≤ l) (l1 : l ≤ 2147483647) : xx_go (xt_P z) (d + 12) 57 98 [some (.ref (c + 0)), some (.int (iI x)), some (.ref a), some (.int (iI l))] [] h1 (fun v h1 => ∃ (b : Int) (s1 : KS), v = some (.int (iI b)) ∧ KIC c hp0 s0 (cc + 1) h1 s1 t ∧ s1.I 20 = s.I 20 ∧ KSM s s1 ∧ s1.A 12 = s.A 12) := by
  obtain ⟨⟨NM, W⟩, q1, q2, q3, w, α, β, hw, X, p1, p2, p3⟩ := hI
  have w01 : 0 ≤ w ∧ w ≤ 1 := by rcases hw with ⟨e, -⟩ | e <;> omega
  have W1 := KWS_GF W K1 B1 C1.1 X1 (PFR_G F1) (fun _ => C1.2)
  have P1 := PFR_I F1
  have G1 := (PFR_G F1).2.2.1
  refine go_a (pc' := 99) (ls' := [some (.ref (c + 0)), some (.int (iI x)), some (.ref a), some (.int (iI l))]) (st' := [.ref (c + 0)]) rfl rfl ?_
  refine go_get (v := .ref (c + 16)) rfl (K1.1 0 (by decide)) rfl rfl ?_
  refine go_v (m := 38) (as := [.ref (c + 16)]) (r := []) rfl rfl rfl (K1.1 9 (by decide)) rfl rfl (ke_clear z (d + 10) c h1 s1 K1 B1) (fun v h2 hq => ?_)
  obtain ⟨rfl, K2, B2, X2⟩ := hq
  have W2 : KWS c h2 (s1.wI 4 0) NM t cc := KWS_fr W1 K2 B2 (KSA_CI (s := s1) ⟨rfl, rfl, rfl⟩ C1.1) X2 rfl (fun _ _ => ⟨rfl, rfl⟩) (fun j hj => su_ne (by omega)) W1.2.2.2.2.2.2.2.2.1 W1.2.2.2.2.2.2.2.2.2.2.1 (fun q => KQ_e (s := s1) rfl rfl rfl rfl rfl q) (fun _ _ => rfl)
  show xx_go (xt_P z) (d + 12) 57 105 [some (.ref (c + 0)), some (.int (iI x)), some (.ref a), some (.int (iI l))] [] h2 _
  refine go_a (pc' := 106) (ls' := [some (.ref (c + 0)), some (.int (iI x)), some (.ref a), some (.int (iI l))]) (st' := [.ref (c + 0)]) rfl rfl ?_
  refine go_get (v := .ref (c + 16)) rfl (K2.1 0 (by decide)) rfl rfl ?_
  refine go_a (pc' := 110) (ls' := [some (.ref (c + 0)), some (.int (iI x)), some (.ref a), some (.int (iI l))]) (st' := [.int (iI l), .ref (c + 16)]) rfl rfl ?_
  refine go_v (m := 308) (as := [.ref (c + 16), .int (iI l)]) (r := []) rfl rfl rfl (K2.1 9 (by decide)) rfl rfl (ke_tellObject z hz (d + 1) c l h2 (s1.wI 4 0) K2 B2 W2.2.2.1 W2.2.2.2.1 (by show (0 : Int) ≤ 2000; decide) l0 l1) (fun v h3 hq => ?_)
  obtain ⟨rfl, s3, K3, B3, X3, F3, l3⟩ := hq
  have W3 := KWS_tl W2 K3 B3 X3 F3
  show xx_go (xt_P z) (d + 12) 57 113 [some (.ref (c + 0)), some (.int (iI x)), some (.ref a), some (.int (iI l))] [] h3 _
  refine go_a (pc' := 114) (ls' := [some (.ref (c + 0)), some (.int (iI x)), some (.ref a), some (.int (iI l))]) (st' := [.ref (c + 0)]) rfl rfl ?_
  refine go_get (v := .ref (c + 4)) rfl (K3.1 0 (by decide)) rfl rfl ?_
  refine go_a (pc' := 118) (ls' := [some (.ref (c + 0)), some (.int (iI x)), some (.ref a), some (.int (iI l))]) (st' := [.ref (c + 0), .ref (c + 4)]) rfl rfl ?_
  refine go_get (v := .int (iI (s3.I 24))) rfl (K3.1 0 (by decide)) rfl rfl ?_
  have n24 := BKS_nn W3.2.2.2.2.1
  have m24 := W3.2.2.2.2.2.2.2.2.1
  have b24 := B3.2.1 24
  refine go_v (m := 49) (as := [.ref (c + 4), .int (iI (s3.I 24))]) (r := []) rfl rfl rfl (K3.1 3 (by decide)) rfl rfl (kz_release z (d + 10) c (s3.I 24) h3 s3 K3 B3 W3.2.2.2.2.2.2.2.2.2.2.2.1.1 (by omega) (by omega)) (fun v h8 hq => ?_)
  obtain ⟨rfl, u8, s8, K8, B8, X8, F8, u1, u2, u3, ch8⟩ := hq
  obtain ⟨W8, e8, i8⟩ := KWS_rl W3 K8 B8 X8 F8 (u3 m24 (by omega)) ch8
  show xx_go (xt_P z) (d + 12) 57 124 [some (.ref (c + 0)), some (.int (iI x)), some (.ref a), some (.int (iI l))] [] h8 _
  refine go_a (pc' := 125) (ls' := [some (.ref (c + 0)), some (.int (iI x)), some (.ref a), some (.int (iI l))]) (st' := [.ref (c + 0)]) rfl rfl ?_
  refine go_get (v := .ref (c + 16)) rfl (K8.1 0 (by decide)) rfl rfl ?_
  refine go_v (m := 54) (as := [.ref (c + 16)]) (r := []) rfl rfl rfl (K8.1 9 (by decide)) rfl rfl (ke_length z (d + 10) c h8 s8 K8) (fun v h3 hq => ?_)
  obtain ⟨rfl, e9⟩ := hq
  rw [e9]
  clear e9 h3
  show xx_go (xt_P z) (d + 12) 57 131 [some (.ref (c + 0)), some (.int (iI x)), some (.ref a), some (.int (iI l))] [.int (iI (s8.I 4))] h8 _
  have FR : ∀ j : Nat, (j ≤ 3 ∨ j = 20 ∨ j = 24) → s8.I j = s.I j := fun j hj => by
    rw [i8 j (by omega), F3.2.2.2 j (by omega) (by omega)]
    show su s1.I 4 0 j = _
    rw [su_ne (by omega)]
    exact G1 j (by omega)
  have FA : ∀ j : Nat, (j = 0 ∨ j = 12) → s8.A j = s.A j := fun j hj => by
    rw [F8.2.2.2.2.2 j (by omega), (F3.2.2.1 j (by omega) (by omega)).1]
    exact (F1.2.1 j (by omega)).1
  have FR2 : ∀ j : Nat, (j = 22 ∨ j = 23) → s8.I j = s1.I j := fun j hj => by
    rw [i8 j (by omega), F3.2.2.2 j (by omega) (by omega)]
    show su s1.I 4 0 j = _
    rw [su_ne (by omega)]
  have e0 := FR 0 (by decide)
  have e24 := FR 24 (by decide)
  have nz : NZ (s8.A 0) (s8.I 0).toNat = NZ (s.A 0) (s.I 0).toNat := by rw [FA 0 (by decide), e0]
  have l4 : s8.I 4 ≤ 2000 := by rw [i8 4 (by decide)]; exact l3
  have KK : KIC c hp0 s0 (cc + 1) h8 s8 t := by
    refine ⟨⟨NM, KWS_k W8 (by omega)⟩, e8, ⟨fun e e1 e2 => ?_, by omega⟩, l4, w, α + (0 + 0 + 0 + 0), β + (0 + 0 + 0 + 0), ?_, KXN_tr X (kx_tr (kx_tr (kx_tr X1 X2) X3) X8), by omega, by omega, by omega⟩
    · rw [FA 0 (by decide)]
      exact q2.1 e e1 (by omega)
    · rcases hw with ⟨w0, hz⟩ | w0
      · refine Or.inl ⟨w0, ?_⟩
        unfold W5
        rw [FA 12 (by decide)]
        exact hz
      · exact Or.inr w0
  exact go_r rfl rfl rfl rfl rfl rfl ⟨_, s8, rfl, KK, FR 20 (by decide), ⟨e0, fun e _ => by rw [FA 0 (by decide)], (FR2 22 (by decide)).trans P1.1, (FR2 23 (by decide)).trans P1.2⟩, FA 12 (by decide)⟩
theorem kk_tell (z : Value) (hz : z = .null ∨ ∃ k, z = .ref k) (d c : Nat) (cc x : Int) (hp0 : xx_H) (s0 : Int × Int) (hp : xx_H) (s : KS) (t : List sp_Th) (hI : KIC c hp0 s0 cc hp s t) (hc : cc ≤ 512) (x0 : -2147483648 ≤ x) (x1 : x ≤ 2147483647) : xx_cl (xt_P z) (d + 13) 57 [.ref (c + 0), .int (iI x)] hp (fun v h1 => ∃ (b : Int) (s1 : KS), v = some (.int (iI b)) ∧ KIC c hp0 s0 (cc + 1) h1 s1 t ∧ s1.I 20 = s.I 20 ∧ KSM s s1 ∧ s1.A 12 = s.A 12) := by
  have hb := KIC_b hI hc
  obtain ⟨⟨NM, W⟩, q1, -⟩ := id hI
  have CX0 : CX s := ⟨W.2.2.1, W.2.2.2.2.2.2.2.2.2.2.2.1⟩
  have hB := W.2.1
  have u38 := KB_38 hB
  have bF := BKS_BF W.2.2.2.2.1 W.2.2.2.2.2.2.2.2.1 rfl
  refine cl_go rfl ?_
  show xx_go (xt_P z) (d + 12) 57 0 [some (.ref (c + 0)), some (.int (iI x)), none, none] [] hp _
  refine go_a (pc' := 1) (ls' := [some (.ref (c + 0)), some (.int (iI x)), none, none]) (st' := [.ref (c + 0)]) rfl rfl ?_
  refine go_get (v := .ref (c + 21)) rfl (W.1.1 0 (by decide)) rfl rfl ?_
  refine go_a (pc' := 5) (ls' := [some (.ref (c + 0)), some (.int (iI x)), none, none]) (st' := [.int (iI x), .ref (c + 21)]) rfl rfl ?_
  refine go_v (m := 58) (as := [.ref (c + 21), .int (iI x)]) (r := []) rfl rfl rfl (W.1.1 12 (by decide)) rfl rfl (kf_thing z (d + 8) c x hp s W.1 hB (s.I 24) NM t (s.I 27) (s.I 28) W.2.2.2.2.1 W.2.2.2.2.2.1 x0 x1) (fun v h1 hq => ?_)
  obtain ⟨hq, e9⟩ := hq
  rw [e9]
  clear e9 h1
  rcases hq with rfl | ⟨a, rfl, ⟨i, m, gg, n, f, cb, TH⟩ | ⟨nm, n, f, cb, TH⟩⟩
  · show xx_go (xt_P z) (d + 12) 57 8 [some (.ref (c + 0)), some (.int (iI x)), none, none] [.null] hp _
    refine go_a (pc' := 9) (ls' := [some (.ref (c + 0)), some (.int (iI x)), some (.null), none]) (st' := []) rfl rfl ?_
    refine go_a (pc' := 10) (ls' := [some (.ref (c + 0)), some (.int (iI x)), some (.null), none]) (st' := [.null]) rfl rfl ?_
    refine go_a (pc' := 13) (ls' := [some (.ref (c + 0)), some (.int (iI x)), some (.null), none]) (st' := []) rfl rfl ?_
    refine go_a (pc' := 14) (ls' := [some (.ref (c + 0)), some (.int (iI x)), some (.null), none]) (st' := [.int (iI ((-1)))]) rfl rfl ?_
    exact go_r rfl rfl rfl rfl rfl rfl ⟨-1, s, rfl, KIC_1 hI, rfl, KSM_rf, rfl⟩
  · show xx_go (xt_P z) (d + 12) 57 8 [some (.ref (c + 0)), some (.int (iI x)), none, none] [.ref a] hp _
    rw [← q1] at TH
    have TH0 := TH
    obtain ⟨pq0, ta0, ca0, ka0, cA0, kA0, cT0, cm0, cn0, ck0, cg0, cl0, cc0⟩ := id TH0
    have nb := TM_n cT0
    have nR := cn0
    have fr : 0 ≤ fcl i m ∧ fcl i m ≤ 2147483647 := ⟨by unfold fcl; omega, by unfold fcl; omega⟩
    refine go_a (pc' := 9) (ls' := [some (.ref (c + 0)), some (.int (iI x)), some (.ref a), none]) (st' := []) rfl rfl ?_
    refine go_a (pc' := 10) (ls' := [some (.ref (c + 0)), some (.int (iI x)), some (.ref a), none]) (st' := [.ref a]) rfl rfl ?_
    refine go_a (pc' := 15) (ls' := [some (.ref (c + 0)), some (.int (iI x)), some (.ref a), none]) (st' := []) rfl rfl ?_
    refine go_a (pc' := 16) (ls' := [some (.ref (c + 0)), some (.int (iI x)), some (.ref a), none]) (st' := [.ref (c + 0)]) rfl rfl ?_
    refine go_get (v := .ref (c + 4)) rfl (W.1.1 0 (by decide)) rfl rfl ?_
    refine go_a (pc' := 20) (ls' := [some (.ref (c + 0)), some (.int (iI x)), some (.ref a), none]) (st' := [.ref (c + 0), .ref (c + 4)]) rfl rfl ?_
    refine go_get (v := .ref (c + 25)) rfl (W.1.1 0 (by decide)) rfl rfl ?_
    refine go_a (pc' := 24) (ls' := [some (.ref (c + 0)), some (.int (iI x)), some (.ref a), none]) (st' := [.ref a, .ref (c + 25), .ref (c + 4)]) rfl rfl ?_
    refine go_get (v := .ref ta0) rfl ca0 rfl rfl ?_
    refine go_v (m := 298) (as := [.ref (c + 25), .ref ta0]) (r := [.ref (c + 4)]) rfl rfl rfl (W.1.1 16 (by decide)) rfl rfl (kg_object z (d + 5) c ta0 n (s.I 8) f hp s W.1 hB CX0 NM bF (by omega) (Int.le_refl _) (by omega) cT0) (fun v h1 hq => ?_)
    obtain ⟨y1, s1, rfl, K1, B1, C1, X1, F1, l1, O1⟩ := hq
    have TH1 := FTH_kx TH X1 (Int.le_refl _)
    obtain ⟨pq1, ta1, ca1, ka1, cA1, kA1, cT1, cm1, cn1, ck1, cg1, cl1, cc1⟩ := id TH1
    show xx_go (xt_P z) (d + 12) 57 30 [some (.ref (c + 0)), some (.int (iI x)), some (.ref a), none] [.int (iI y1), .ref (c + 4)] h1 _
    refine go_a (pc' := 31) (ls' := [some (.ref (c + 0)), some (.int (iI x)), some (.ref a), none]) (st' := [.int (iI 0), .int (iI y1), .ref (c + 4)]) rfl rfl ?_
    have z1 : OB s1 0 := ⟨by decide, by have := KB_38 B1; omega⟩
    refine go_v (m := 194) (as := [.ref (c + 4), .int (iI y1), .int (iI 0)]) (r := []) rfl rfl rfl (K1.1 3 (by decide)) rfl rfl (kc_pairX z (d + 9) c (y1) (0) h1 s1 K1 B1 C1 (by omega) O1.1 O1.2 z1.1 z1.2) (fun v h2 hq => ?_)
    obtain ⟨y2, s2, rfl, K2, B2, C2, Xn2, G2, O2, -⟩ := hq
    have X2 := kx_w (kx_tr X1 Xn2) (show (0 : Int) + 0 ≤ 0 by decide) (show (0 : Int) + 0 ≤ 0 by decide)
    have F2 := PFR_tr F1 (KGR_P G2)
    have m2 := G2.2.2.1
    have g2 := G2.2.1
    have TH2 := FTH_kx TH X2 (Int.le_refl _)
    obtain ⟨pq2, ta2, ca2, ka2, cA2, kA2, cT2, cm2, cn2, ck2, cg2, cl2, cc2⟩ := id TH2
    show xx_go (xt_P z) (d + 12) 57 34 [some (.ref (c + 0)), some (.int (iI x)), some (.ref a), none] [.int (iI y2)] h2 _
    refine go_a (pc' := 35) (ls' := [some (.ref (c + 0)), some (.int (iI x)), some (.ref a), some (.int (iI y2))]) (st' := []) rfl rfl ?_
    refine go_a (pc' := 36) (ls' := [some (.ref (c + 0)), some (.int (iI x)), some (.ref a), some (.int (iI y2))]) (st' := [.ref a]) rfl rfl ?_
    refine go_v (m := 241) (as := [.ref a]) (r := []) rfl rfl rfl ca2 rfl rfl (kf_isFunction z (d + 11) a (fcl i m) _ _ _ _ h2 ca2 (by omega) (by omega)) (fun v h9 hq => ?_)
    obtain ⟨hq, e9⟩ := hq
    rw [e9]
    clear e9 h9
    obtain rfl : v = some (.int (iI 1)) := by
      rcases hq with ⟨w, r⟩ | ⟨w, r⟩
      · exact r
      · exact absurd w (by omega)
    clear hq
    show xx_go (xt_P z) (d + 12) 57 39 [some (.ref (c + 0)), some (.int (iI x)), some (.ref a), some (.int (iI y2))] [.int (iI 1)] h2 _
    refine mi_eq0 (t := 62) rfl rfl (by omega) (by omega) (fun q => absurd q (by decide)) (fun _ => ?_)
    refine go_a (pc' := 43) (ls' := [some (.ref (c + 0)), some (.int (iI x)), some (.ref a), some (.int (iI y2))]) (st' := [.ref (c + 0)]) rfl rfl ?_
    refine go_get (v := .ref (c + 4)) rfl (K2.1 0 (by decide)) rfl rfl ?_
    refine go_a (pc' := 47) (ls' := [some (.ref (c + 0)), some (.int (iI x)), some (.ref a), some (.int (iI y2))]) (st' := [.ref (c + 0), .ref (c + 4)]) rfl rfl ?_
    refine go_get (v := .ref (c + 25)) rfl (K2.1 0 (by decide)) rfl rfl ?_
    refine go_a (pc' := 51) (ls' := [some (.ref (c + 0)), some (.int (iI x)), some (.ref a), some (.int (iI y2))]) (st' := [.ref a, .ref (c + 25), .ref (c + 4)]) rfl rfl ?_
    refine go_get (v := .ref pq2) rfl ca2 rfl rfl ?_
    refine go_v (m := 316) (as := [.ref (c + 25), .ref pq2]) (r := [.ref (c + 4)]) rfl rfl rfl (K2.1 16 (by decide)) rfl rfl (kg_vlist z (d + 7) c pq2 (s.I 8) m gg h2 s2 K2 B2 C2 (by omega) (by have := F2.2.2.2.1; omega) (by omega) cA2 kA2 (fun i i0 i1 => (cg2 i i0 i1).1)) (fun v h3 hq => ?_)
    obtain ⟨y3, s3, rfl, K3, B3, C3, Xn3, Fn3, l3, O3⟩ := hq
    have X3 := kx_w (kx_tr X2 Xn3) (show (0 : Int) + 0 ≤ 0 by decide) (show (0 : Int) + 0 ≤ 0 by decide)
    have F3 := PFR_tr F2 Fn3
    have O23 := PFR_OB Fn3 O2
    have TH3 := FTH_kx TH X3 (Int.le_refl _)
    obtain ⟨pq3, ta3, ca3, ka3, cA3, kA3, cT3, cm3, cn3, ck3, cg3, cl3, cc3⟩ := id TH3
    show xx_go (xt_P z) (d + 12) 57 57 [some (.ref (c + 0)), some (.int (iI x)), some (.ref a), some (.int (iI y2))] [.int (iI y3), .ref (c + 4)] h3 _
    refine go_a (pc' := 58) (ls' := [some (.ref (c + 0)), some (.int (iI x)), some (.ref a), some (.int (iI y2))]) (st' := [.int (iI y2), .int (iI y3), .ref (c + 4)]) rfl rfl ?_
    refine go_v (m := 194) (as := [.ref (c + 4), .int (iI y3), .int (iI y2)]) (r := []) rfl rfl rfl (K3.1 3 (by decide)) rfl rfl (kc_pairX z (d + 9) c (y3) (y2) h3 s3 K3 B3 C3 (by omega) O3.1 O3.2 O23.1 O23.2) (fun v h4 hq => ?_)
    obtain ⟨y4, s4, rfl, K4, B4, C4, Xn4, G4, O4, -⟩ := hq
    have X4 := kx_w (kx_tr X3 Xn4) (show (0 : Int) + 0 ≤ 0 by decide) (show (0 : Int) + 0 ≤ 0 by decide)
    have F4 := PFR_tr F3 (KGR_P G4)
    have m4 := G4.2.2.1
    have g4 := G4.2.1
    have TH4 := FTH_kx TH X4 (Int.le_refl _)
    obtain ⟨pq4, ta4, ca4, ka4, cA4, kA4, cT4, cm4, cn4, ck4, cg4, cl4, cc4⟩ := id TH4
    show xx_go (xt_P z) (d + 12) 57 61 [some (.ref (c + 0)), some (.int (iI x)), some (.ref a), some (.int (iI y2))] [.int (iI y4)] h4 _
    refine go_a (pc' := 62) (ls' := [some (.ref (c + 0)), some (.int (iI x)), some (.ref a), some (.int (iI y4))]) (st' := []) rfl rfl ?_
    refine go_a (pc' := 63) (ls' := [some (.ref (c + 0)), some (.int (iI x)), some (.ref a), some (.int (iI y4))]) (st' := [.ref (c + 0)]) rfl rfl ?_
    refine go_get (v := .ref (c + 4)) rfl (K4.1 0 (by decide)) rfl rfl ?_
    refine go_a (pc' := 67) (ls' := [some (.ref (c + 0)), some (.int (iI x)), some (.ref a), some (.int (iI y4))]) (st' := [.ref a, .ref (c + 4)]) rfl rfl ?_
    refine go_get (v := .int (iI ((NM.1 i).1))) rfl ca4 rfl rfl ?_
    refine go_a (pc' := 71) (ls' := [some (.ref (c + 0)), some (.int (iI x)), some (.ref a), some (.int (iI y4))]) (st' := [.int (iI y4), .int (iI ((NM.1 i).1)), .ref (c + 4)]) rfl rfl ?_
    have on : OB s4 ((NM.1 i).1) := ⟨by omega, by have := F4.2.2.2.1; omega⟩
    refine go_v (m := 194) (as := [.ref (c + 4), .int (iI ((NM.1 i).1)), .int (iI y4)]) (r := []) rfl rfl rfl (K4.1 3 (by decide)) rfl rfl (kc_pairX z (d + 9) c ((NM.1 i).1) (y4) h4 s4 K4 B4 C4 (by omega) on.1 on.2 O4.1 O4.2) (fun v h5 hq => ?_)
    obtain ⟨y5, s5, rfl, K5, B5, C5, Xn5, G5, O5, -⟩ := hq
    have X5 := kx_w (kx_tr X4 Xn5) (show (0 : Int) + 0 ≤ 0 by decide) (show (0 : Int) + 0 ≤ 0 by decide)
    have F5 := PFR_tr F4 (KGR_P G5)
    have m5 := G5.2.2.1
    have g5 := G5.2.1
    have TH5 := FTH_kx TH X5 (Int.le_refl _)
    obtain ⟨pq5, ta5, ca5, ka5, cA5, kA5, cT5, cm5, cn5, ck5, cg5, cl5, cc5⟩ := id TH5
    show xx_go (xt_P z) (d + 12) 57 74 [some (.ref (c + 0)), some (.int (iI x)), some (.ref a), some (.int (iI y4))] [.int (iI y5)] h5 _
    refine go_a (pc' := 75) (ls' := [some (.ref (c + 0)), some (.int (iI x)), some (.ref a), some (.int (iI y5))]) (st' := []) rfl rfl ?_
    refine go_a (pc' := 76) (ls' := [some (.ref (c + 0)), some (.int (iI x)), some (.ref a), some (.int (iI y5))]) (st' := [.ref (c + 0)]) rfl rfl ?_
    refine go_get (v := .ref (c + 4)) rfl (K5.1 0 (by decide)) rfl rfl ?_
    refine go_a (pc' := 80) (ls' := [some (.ref (c + 0)), some (.int (iI x)), some (.ref a), some (.int (iI y5))]) (st' := [.ref a, .ref (c + 4)]) rfl rfl ?_
    refine go_v (m := 241) (as := [.ref a]) (r := [.ref (c + 4)]) rfl rfl rfl ca5 rfl rfl (kf_isFunction z (d + 11) a (fcl i m) _ _ _ _ h5 ca5 (by omega) (by omega)) (fun v h9 hq => ?_)
    obtain ⟨hq, e9⟩ := hq
    rw [e9]
    clear e9 h9
    obtain rfl : v = some (.int (iI 1)) := by
      rcases hq with ⟨w, r⟩ | ⟨w, r⟩
      · exact r
      · exact absurd w (by omega)
    clear hq
    show xx_go (xt_P z) (d + 12) 57 83 [some (.ref (c + 0)), some (.int (iI x)), some (.ref a), some (.int (iI y5))] [.int (iI 1), .ref (c + 4)] h5 _
    refine mi_eq0 (t := 91) rfl rfl (by omega) (by omega) (fun q => absurd q (by decide)) (fun _ => ?_)
    refine go_a (pc' := 88) (ls' := [some (.ref (c + 0)), some (.int (iI x)), some (.ref a), some (.int (iI y5))]) (st' := [.int (iI 17), .ref (c + 4)]) rfl rfl ?_
    refine go_a (pc' := 93) (ls' := [some (.ref (c + 0)), some (.int (iI x)), some (.ref a), some (.int (iI y5))]) (st' := [.int (iI 17), .ref (c + 4)]) rfl rfl ?_
    refine go_a (pc' := 94) (ls' := [some (.ref (c + 0)), some (.int (iI x)), some (.ref a), some (.int (iI y5))]) (st' := [.int (iI y5), .int (iI 17), .ref (c + 4)]) rfl rfl ?_
    have ok : OB s5 17 := ⟨by decide, by have := KB_38 B5; omega⟩
    refine go_v (m := 194) (as := [.ref (c + 4), .int (iI 17), .int (iI y5)]) (r := []) rfl rfl rfl (K5.1 3 (by decide)) rfl rfl (kc_pairX z (d + 9) c 17 y5 h5 s5 K5 B5 C5 (by omega) ok.1 ok.2 O5.1 O5.2) (fun v h9 hq => ?_)
    obtain ⟨y9, s9, rfl, K9, B9, C9, Xn9, G9, O9, -⟩ := hq
    have X9 := kx_w (kx_tr X5 Xn9) (show (0 : Int) + 0 ≤ 0 by decide) (show (0 : Int) + 0 ≤ 0 by decide)
    have F9 := PFR_tr F5 (KGR_P G9)
    show xx_go (xt_P z) (d + 12) 57 97 [some (.ref (c + 0)), some (.int (iI x)), some (.ref a), some (.int (iI y5))] [.int (iI y9)] h9 _
    refine go_a (pc' := 98) (ls' := [some (.ref (c + 0)), some (.int (iI x)), some (.ref a), some (.int (iI y9))]) (st' := []) rfl rfl ?_
    have oR := OB_R B9 O9
    exact kk_tell2 z hz d c cc x y9 a hp0 s0 hp s t hI h9 s9 K9 B9 C9 X9 F9 oR.1 oR.2
  · show xx_go (xt_P z) (d + 12) 57 8 [some (.ref (c + 0)), some (.int (iI x)), none, none] [.ref a] hp _
    rw [← q1] at TH
    have TH0 := TH
    obtain ⟨pq0, ta0, gz0, ca0, ka0, cA0, kA0, cT0, cn0, cc0⟩ := id TH0
    have nb := TM_n cT0
    have nR := cn0
    have fr : (-2147483648 : Int) ≤ -1 := by decide
    refine go_a (pc' := 9) (ls' := [some (.ref (c + 0)), some (.int (iI x)), some (.ref a), none]) (st' := []) rfl rfl ?_
    refine go_a (pc' := 10) (ls' := [some (.ref (c + 0)), some (.int (iI x)), some (.ref a), none]) (st' := [.ref a]) rfl rfl ?_
    refine go_a (pc' := 15) (ls' := [some (.ref (c + 0)), some (.int (iI x)), some (.ref a), none]) (st' := []) rfl rfl ?_
    refine go_a (pc' := 16) (ls' := [some (.ref (c + 0)), some (.int (iI x)), some (.ref a), none]) (st' := [.ref (c + 0)]) rfl rfl ?_
    refine go_get (v := .ref (c + 4)) rfl (W.1.1 0 (by decide)) rfl rfl ?_
    refine go_a (pc' := 20) (ls' := [some (.ref (c + 0)), some (.int (iI x)), some (.ref a), none]) (st' := [.ref (c + 0), .ref (c + 4)]) rfl rfl ?_
    refine go_get (v := .ref (c + 25)) rfl (W.1.1 0 (by decide)) rfl rfl ?_
    refine go_a (pc' := 24) (ls' := [some (.ref (c + 0)), some (.int (iI x)), some (.ref a), none]) (st' := [.ref a, .ref (c + 25), .ref (c + 4)]) rfl rfl ?_
    refine go_get (v := .ref ta0) rfl ca0 rfl rfl ?_
    refine go_v (m := 298) (as := [.ref (c + 25), .ref ta0]) (r := [.ref (c + 4)]) rfl rfl rfl (W.1.1 16 (by decide)) rfl rfl (kg_object z (d + 5) c ta0 n (s.I 8) f hp s W.1 hB CX0 NM bF (by omega) (Int.le_refl _) (by omega) cT0) (fun v h1 hq => ?_)
    obtain ⟨y1, s1, rfl, K1, B1, C1, X1, F1, l1, O1⟩ := hq
    have TH1 := TTH_kx TH X1 (Int.le_refl _)
    obtain ⟨pq1, ta1, gz1, ca1, ka1, cA1, kA1, cT1, cn1, cc1⟩ := id TH1
    show xx_go (xt_P z) (d + 12) 57 30 [some (.ref (c + 0)), some (.int (iI x)), some (.ref a), none] [.int (iI y1), .ref (c + 4)] h1 _
    refine go_a (pc' := 31) (ls' := [some (.ref (c + 0)), some (.int (iI x)), some (.ref a), none]) (st' := [.int (iI 0), .int (iI y1), .ref (c + 4)]) rfl rfl ?_
    have z1 : OB s1 0 := ⟨by decide, by have := KB_38 B1; omega⟩
    refine go_v (m := 194) (as := [.ref (c + 4), .int (iI y1), .int (iI 0)]) (r := []) rfl rfl rfl (K1.1 3 (by decide)) rfl rfl (kc_pairX z (d + 9) c (y1) (0) h1 s1 K1 B1 C1 (by omega) O1.1 O1.2 z1.1 z1.2) (fun v h2 hq => ?_)
    obtain ⟨y2, s2, rfl, K2, B2, C2, Xn2, G2, O2, -⟩ := hq
    have X2 := kx_w (kx_tr X1 Xn2) (show (0 : Int) + 0 ≤ 0 by decide) (show (0 : Int) + 0 ≤ 0 by decide)
    have F2 := PFR_tr F1 (KGR_P G2)
    have m2 := G2.2.2.1
    have g2 := G2.2.1
    have TH2 := TTH_kx TH X2 (Int.le_refl _)
    obtain ⟨pq2, ta2, gz2, ca2, ka2, cA2, kA2, cT2, cn2, cc2⟩ := id TH2
    show xx_go (xt_P z) (d + 12) 57 34 [some (.ref (c + 0)), some (.int (iI x)), some (.ref a), none] [.int (iI y2)] h2 _
    refine go_a (pc' := 35) (ls' := [some (.ref (c + 0)), some (.int (iI x)), some (.ref a), some (.int (iI y2))]) (st' := []) rfl rfl ?_
    refine go_a (pc' := 36) (ls' := [some (.ref (c + 0)), some (.int (iI x)), some (.ref a), some (.int (iI y2))]) (st' := [.ref a]) rfl rfl ?_
    refine go_v (m := 241) (as := [.ref a]) (r := []) rfl rfl rfl ca2 rfl rfl (kf_isFunction z (d + 11) a ((-1)) _ _ _ _ h2 ca2 (by omega) (by omega)) (fun v h9 hq => ?_)
    obtain ⟨hq, e9⟩ := hq
    rw [e9]
    clear e9 h9
    obtain rfl : v = some (.int (iI 0)) := by
      rcases hq with ⟨w, r⟩ | ⟨w, r⟩
      · exact absurd rfl w
      · exact r
    clear hq
    show xx_go (xt_P z) (d + 12) 57 39 [some (.ref (c + 0)), some (.int (iI x)), some (.ref a), some (.int (iI y2))] [.int (iI 0)] h2 _
    refine mi_eq0 (t := 62) rfl rfl (by omega) (by omega) (fun _ => ?_) (fun q => absurd rfl q)
    refine go_a (pc' := 63) (ls' := [some (.ref (c + 0)), some (.int (iI x)), some (.ref a), some (.int (iI y2))]) (st' := [.ref (c + 0)]) rfl rfl ?_
    refine go_get (v := .ref (c + 4)) rfl (K2.1 0 (by decide)) rfl rfl ?_
    refine go_a (pc' := 67) (ls' := [some (.ref (c + 0)), some (.int (iI x)), some (.ref a), some (.int (iI y2))]) (st' := [.ref a, .ref (c + 4)]) rfl rfl ?_
    refine go_get (v := .int (iI nm)) rfl ca2 rfl rfl ?_
    refine go_a (pc' := 71) (ls' := [some (.ref (c + 0)), some (.int (iI x)), some (.ref a), some (.int (iI y2))]) (st' := [.int (iI y2), .int (iI nm), .ref (c + 4)]) rfl rfl ?_
    have on : OB s2 (nm) := ⟨by omega, by have := F2.2.2.2.1; omega⟩
    refine go_v (m := 194) (as := [.ref (c + 4), .int (iI nm), .int (iI y2)]) (r := []) rfl rfl rfl (K2.1 3 (by decide)) rfl rfl (kc_pairX z (d + 9) c (nm) (y2) h2 s2 K2 B2 C2 (by omega) on.1 on.2 O2.1 O2.2) (fun v h3 hq => ?_)
    obtain ⟨y3, s3, rfl, K3, B3, C3, Xn3, G3, O3, -⟩ := hq
    have X3 := kx_w (kx_tr X2 Xn3) (show (0 : Int) + 0 ≤ 0 by decide) (show (0 : Int) + 0 ≤ 0 by decide)
    have F3 := PFR_tr F2 (KGR_P G3)
    have m3 := G3.2.2.1
    have g3 := G3.2.1
    have TH3 := TTH_kx TH X3 (Int.le_refl _)
    obtain ⟨pq3, ta3, gz3, ca3, ka3, cA3, kA3, cT3, cn3, cc3⟩ := id TH3
    show xx_go (xt_P z) (d + 12) 57 74 [some (.ref (c + 0)), some (.int (iI x)), some (.ref a), some (.int (iI y2))] [.int (iI y3)] h3 _
    refine go_a (pc' := 75) (ls' := [some (.ref (c + 0)), some (.int (iI x)), some (.ref a), some (.int (iI y3))]) (st' := []) rfl rfl ?_
    refine go_a (pc' := 76) (ls' := [some (.ref (c + 0)), some (.int (iI x)), some (.ref a), some (.int (iI y3))]) (st' := [.ref (c + 0)]) rfl rfl ?_
    refine go_get (v := .ref (c + 4)) rfl (K3.1 0 (by decide)) rfl rfl ?_
    refine go_a (pc' := 80) (ls' := [some (.ref (c + 0)), some (.int (iI x)), some (.ref a), some (.int (iI y3))]) (st' := [.ref a, .ref (c + 4)]) rfl rfl ?_
    refine go_v (m := 241) (as := [.ref a]) (r := [.ref (c + 4)]) rfl rfl rfl ca3 rfl rfl (kf_isFunction z (d + 11) a ((-1)) _ _ _ _ h3 ca3 (by omega) (by omega)) (fun v h9 hq => ?_)
    obtain ⟨hq, e9⟩ := hq
    rw [e9]
    clear e9 h9
    obtain rfl : v = some (.int (iI 0)) := by
      rcases hq with ⟨w, r⟩ | ⟨w, r⟩
      · exact absurd rfl w
      · exact r
    clear hq
    show xx_go (xt_P z) (d + 12) 57 83 [some (.ref (c + 0)), some (.int (iI x)), some (.ref a), some (.int (iI y3))] [.int (iI 0), .ref (c + 4)] h3 _
    refine mi_eq0 (t := 91) rfl rfl (by omega) (by omega) (fun _ => ?_) (fun q => absurd rfl q)
    refine go_a (pc' := 93) (ls' := [some (.ref (c + 0)), some (.int (iI x)), some (.ref a), some (.int (iI y3))]) (st' := [.int (iI 21), .ref (c + 4)]) rfl rfl ?_
    refine go_a (pc' := 94) (ls' := [some (.ref (c + 0)), some (.int (iI x)), some (.ref a), some (.int (iI y3))]) (st' := [.int (iI y3), .int (iI 21), .ref (c + 4)]) rfl rfl ?_
    have ok : OB s3 21 := ⟨by decide, by have := KB_38 B3; omega⟩
    refine go_v (m := 194) (as := [.ref (c + 4), .int (iI 21), .int (iI y3)]) (r := []) rfl rfl rfl (K3.1 3 (by decide)) rfl rfl (kc_pairX z (d + 9) c 21 y3 h3 s3 K3 B3 C3 (by omega) ok.1 ok.2 O3.1 O3.2) (fun v h9 hq => ?_)
    obtain ⟨y9, s9, rfl, K9, B9, C9, Xn9, G9, O9, -⟩ := hq
    have X9 := kx_w (kx_tr X3 Xn9) (show (0 : Int) + 0 ≤ 0 by decide) (show (0 : Int) + 0 ≤ 0 by decide)
    have F9 := PFR_tr F3 (KGR_P G9)
    show xx_go (xt_P z) (d + 12) 57 97 [some (.ref (c + 0)), some (.int (iI x)), some (.ref a), some (.int (iI y3))] [.int (iI y9)] h9 _
    refine go_a (pc' := 98) (ls' := [some (.ref (c + 0)), some (.int (iI x)), some (.ref a), some (.int (iI y9))]) (st' := []) rfl rfl ?_
    have oR := OB_R B9 O9
    exact kk_tell2 z hz d c cc x y9 a hp0 s0 hp s t hI h9 s9 K9 B9 C9 X9 F9 oR.1 oR.2
theorem kk_steps (z : Value) (d c : Nat) (cc : Int) (hp0 : xx_H) (s0 : Int × Int) (hp : xx_H) (s : KS) (t : List sp_Th) (hI : KIC c hp0 s0 cc hp s t) : xx_cl (xt_P z) (d + 1) 51 [.ref (c + 0)] hp (fun v h1 => v = some (.int (iI (s.I 22))) ∧ h1 = hp ∧ KIC c hp0 s0 (cc + 1) hp s t) := by
  obtain ⟨⟨NM, W⟩, q1, q2, q3, -⟩ := id hI
  refine cl_go rfl ?_
  show xx_go (xt_P z) d 51 0 [some (.ref (c + 0))] [] hp _
  refine go_a (pc' := 1) (ls' := [some (.ref (c + 0))]) (st' := [.ref (c + 0)]) rfl rfl ?_
  refine go_get (v := .int (iI (s.I 22))) rfl (W.1.1 0 (by decide)) rfl rfl ?_
  exact go_r rfl rfl rfl rfl rfl rfl ⟨rfl, rfl, KIC_1 hI⟩
theorem kk_size (z : Value) (d c : Nat) (cc : Int) (hp0 : xx_H) (s0 : Int × Int) (hp : xx_H) (s : KS) (t : List sp_Th) (hI : KIC c hp0 s0 cc hp s t) : xx_cl (xt_P z) (d + 3) 53 [.ref (c + 0)] hp (fun v h1 => (∃ b : Int, v = some (.int (iI b))) ∧ h1 = hp ∧ KIC c hp0 s0 (cc + 1) hp s t) := by
  obtain ⟨⟨NM, W⟩, q1, q2, q3, -⟩ := id hI
  refine cl_go rfl ?_
  show xx_go (xt_P z) (d + 2) 53 0 [some (.ref (c + 0))] [] hp _
  refine go_a (pc' := 1) (ls' := [some (.ref (c + 0))]) (st' := [.ref (c + 0)]) rfl rfl ?_
  refine go_get (v := .ref (c + 16)) rfl (W.1.1 0 (by decide)) rfl rfl ?_
  refine go_v (m := 54) (as := [.ref (c + 16)]) (r := []) rfl rfl rfl (W.1.1 9 (by decide)) rfl rfl (ke_length z d c hp s W.1) (fun v h3 hq => ?_)
  obtain ⟨rfl, e9⟩ := hq
  rw [e9]
  clear e9 h3
  show xx_go (xt_P z) (d + 2) 53 7 [some (.ref (c + 0))] [.int (iI (s.I 4))] hp _
  exact go_r rfl rfl rfl rfl rfl rfl ⟨⟨_, rfl⟩, rfl, KIC_1 hI⟩
theorem kk_fault (z : Value) (d c : Nat) (cc : Int) (x : Int) (hp0 : xx_H) (s0 : Int × Int) (hp : xx_H) (s : KS) (t : List sp_Th) (hI : KIC c hp0 s0 cc hp s t) (x0 : -2147483648 ≤ x) (x1 : x ≤ 2147483647) : xx_cl (xt_P z) (d + 1) 50 [.ref (c + 0), .int (iI x)] hp (fun v h1 => (∃ b : Int, v = some (.int (iI b))) ∧ h1 = hp ∧ KIC c hp0 s0 (cc + 1) hp s t) := by
  obtain ⟨⟨NM, W⟩, q1, q2, q3, -⟩ := id hI
  refine cl_go rfl ?_
  show xx_go (xt_P z) d 50 0 [some (.ref (c + 0)), some (.int (iI x))] [] hp _
  refine go_a (pc' := 1) (ls' := [some (.ref (c + 0)), some (.int (iI x))]) (st' := [.int (iI x)]) rfl rfl ?_
  by_cases hx : x = 0 ∨ x = 1 ∨ x = 2
  · rcases hx with rfl | rfl | rfl
    · refine go_a (pc' := 28) (ls' := [some (.ref (c + 0)), some (.int (iI 0))]) (st' := []) rfl rfl ?_
      refine go_a (pc' := 29) (ls' := [some (.ref (c + 0)), some (.int (iI 0))]) (st' := [.ref (c + 0)]) rfl rfl ?_
      refine go_get (v := .ref (c + 9)) rfl (W.1.1 0 (by decide)) rfl rfl ?_
      refine go_get (v := .int (iI (s.I 12))) rfl (W.1.1 5 (by decide)) rfl rfl ?_
      exact go_r rfl rfl rfl rfl rfl rfl ⟨⟨_, rfl⟩, rfl, KIC_1 hI⟩
    · refine go_a (pc' := 36) (ls' := [some (.ref (c + 0)), some (.int (iI 1))]) (st' := []) rfl rfl ?_
      refine go_a (pc' := 37) (ls' := [some (.ref (c + 0)), some (.int (iI 1))]) (st' := [.ref (c + 0)]) rfl rfl ?_
      refine go_get (v := .ref (c + 9)) rfl (W.1.1 0 (by decide)) rfl rfl ?_
      refine go_get (v := .int (iI (s.I 13))) rfl (W.1.1 5 (by decide)) rfl rfl ?_
      exact go_r rfl rfl rfl rfl rfl rfl ⟨⟨_, rfl⟩, rfl, KIC_1 hI⟩
    · refine go_a (pc' := 44) (ls' := [some (.ref (c + 0)), some (.int (iI 2))]) (st' := []) rfl rfl ?_
      refine go_a (pc' := 45) (ls' := [some (.ref (c + 0)), some (.int (iI 2))]) (st' := [.ref (c + 0)]) rfl rfl ?_
      refine go_get (v := .int (iI (s.I 21))) rfl (W.1.1 0 (by decide)) rfl rfl ?_
      exact go_r rfl rfl rfl rfl rfl rfl ⟨⟨_, rfl⟩, rfl, KIC_1 hI⟩
  · refine mi_tsd (t := 49) rfl (by omega) (by omega) (by omega) rfl ?_
    show xx_go (xt_P z) d 50 49 [some (.ref (c + 0)), some (.int (iI x))] [] hp _
    refine go_a (pc' := 50) (ls' := [some (.ref (c + 0)), some (.int (iI x))]) (st' := [.int (iI ((-1)))]) rfl rfl ?_
    exact go_r rfl rfl rfl rfl rfl rfl ⟨⟨_, rfl⟩, rfl, KIC_1 hI⟩
theorem kk_count (z : Value) (d c : Nat) (cc : Int) (x : Int) (hp0 : xx_H) (s0 : Int × Int) (hp : xx_H) (s : KS) (t : List sp_Th) (hI : KIC c hp0 s0 cc hp s t) (x0 : -2147483648 ≤ x) (x1 : x ≤ 2147483647) : xx_cl (xt_P z) (d + 3) 52 [.ref (c + 0), .int (iI x)] hp (fun v h1 => (x = 0 ∧ v = some (.int (iI (s.I 27))) ∨ x = 1 ∧ v = some (.int (iI (s.I 28))) ∨ x = 2 ∧ v = some (.int (iI (s.I 23))) ∨ (x ≠ 0 ∧ x ≠ 1 ∧ x ≠ 2) ∧ v = some (.int (iI (-1)))) ∧ h1 = hp ∧ KIC c hp0 s0 (cc + 1) hp s t) := by
  obtain ⟨⟨NM, W⟩, q1, q2, q3, -⟩ := id hI
  refine cl_go rfl ?_
  show xx_go (xt_P z) (d + 2) 52 0 [some (.ref (c + 0)), some (.int (iI x))] [] hp _
  refine go_a (pc' := 1) (ls' := [some (.ref (c + 0)), some (.int (iI x))]) (st' := [.int (iI x)]) rfl rfl ?_
  by_cases hx : x = 0 ∨ x = 1 ∨ x = 2
  · rcases hx with rfl | rfl | rfl
    · refine go_a (pc' := 28) (ls' := [some (.ref (c + 0)), some (.int (iI 0))]) (st' := []) rfl rfl ?_
      refine go_a (pc' := 29) (ls' := [some (.ref (c + 0)), some (.int (iI 0))]) (st' := [.ref (c + 0)]) rfl rfl ?_
      refine go_get (v := .ref (c + 21)) rfl (W.1.1 0 (by decide)) rfl rfl ?_
      refine go_v (m := 46) (as := [.ref (c + 21)]) (r := []) rfl rfl rfl (W.1.1 12 (by decide)) rfl rfl (kf_functions z d c hp s W.1) (fun v h3 hq => ?_)
      obtain ⟨rfl, e9⟩ := hq
      rw [e9]
      clear e9 h3
      show xx_go (xt_P z) (d + 2) 52 35 [some (.ref (c + 0)), some (.int (iI 0))] [.int (iI (s.I 27))] hp _
      exact go_r rfl rfl rfl rfl rfl rfl ⟨Or.inl ⟨rfl, rfl⟩, rfl, KIC_1 hI⟩
    · refine go_a (pc' := 36) (ls' := [some (.ref (c + 0)), some (.int (iI 1))]) (st' := []) rfl rfl ?_
      refine go_a (pc' := 37) (ls' := [some (.ref (c + 0)), some (.int (iI 1))]) (st' := [.ref (c + 0)]) rfl rfl ?_
      refine go_get (v := .ref (c + 21)) rfl (W.1.1 0 (by decide)) rfl rfl ?_
      refine go_v (m := 48) (as := [.ref (c + 21)]) (r := []) rfl rfl rfl (W.1.1 12 (by decide)) rfl rfl (kf_theorems z d c hp s W.1) (fun v h3 hq => ?_)
      obtain ⟨rfl, e9⟩ := hq
      rw [e9]
      clear e9 h3
      show xx_go (xt_P z) (d + 2) 52 43 [some (.ref (c + 0)), some (.int (iI 1))] [.int (iI (s.I 28))] hp _
      exact go_r rfl rfl rfl rfl rfl rfl ⟨Or.inr (Or.inl ⟨rfl, rfl⟩), rfl, KIC_1 hI⟩
    · refine go_a (pc' := 44) (ls' := [some (.ref (c + 0)), some (.int (iI 2))]) (st' := []) rfl rfl ?_
      refine go_a (pc' := 45) (ls' := [some (.ref (c + 0)), some (.int (iI 2))]) (st' := [.ref (c + 0)]) rfl rfl ?_
      refine go_get (v := .int (iI (s.I 23))) rfl (W.1.1 0 (by decide)) rfl rfl ?_
      exact go_r rfl rfl rfl rfl rfl rfl ⟨Or.inr (Or.inr (Or.inl ⟨rfl, rfl⟩)), rfl, KIC_1 hI⟩
  · refine mi_tsd (t := 49) rfl (by omega) (by omega) (by omega) rfl ?_
    show xx_go (xt_P z) (d + 2) 52 49 [some (.ref (c + 0)), some (.int (iI x))] [] hp _
    refine go_a (pc' := 50) (ls' := [some (.ref (c + 0)), some (.int (iI x))]) (st' := [.int (iI ((-1)))]) rfl rfl ?_
    exact go_r rfl rfl rfl rfl rfl rfl ⟨Or.inr (Or.inr (Or.inr ⟨⟨fun q => hx (Or.inl q), fun q => hx (Or.inr (Or.inl q)), fun q => hx (Or.inr (Or.inr q))⟩, rfl⟩)), rfl, KIC_1 hI⟩
theorem kk_letter (z : Value) (d c : Nat) (cc : Int) (x : Int) (hp0 : xx_H) (s0 : Int × Int) (hp : xx_H) (s : KS) (t : List sp_Th) (hI : KIC c hp0 s0 cc hp s t) (x0 : -2147483648 ≤ x) (x1 : x ≤ 2147483647) : xx_cl (xt_P z) (d + 3) 55 [.ref (c + 0), .int (iI x)] hp (fun v h1 => (∃ b : Int, v = some (.int (iI b))) ∧ h1 = hp ∧ KIC c hp0 s0 (cc + 1) hp s t) := by
  obtain ⟨⟨NM, W⟩, q1, q2, q3, -⟩ := id hI
  refine cl_go rfl ?_
  show xx_go (xt_P z) (d + 2) 55 0 [some (.ref (c + 0)), some (.int (iI x))] [] hp _
  refine go_a (pc' := 1) (ls' := [some (.ref (c + 0)), some (.int (iI x))]) (st' := [.int (iI x)]) rfl rfl ?_
  have no : xx_go (xt_P z) (d + 2) 55 26 [some (.ref (c + 0)), some (.int (iI x))] [] hp (fun v h1 => (∃ b : Int, v = some (.int (iI b))) ∧ h1 = hp ∧ KIC c hp0 s0 (cc + 1) hp s t) := by
    refine go_a (pc' := 27) (ls' := [some (.ref (c + 0)), some (.int (iI x))]) (st' := [.int (iI ((-1)))]) rfl rfl ?_
    exact go_r rfl rfl rfl rfl rfl rfl ⟨⟨_, rfl⟩, rfl, KIC_1 hI⟩
  have c4 := W.2.1.2.2.2.1 4 (by decide)
  refine mi_lt0 (t := 26) rfl rfl (by omega) (by omega) (fun _ => no) (fun w1 => ?_)
  refine go_a (pc' := 5) (ls' := [some (.ref (c + 0)), some (.int (iI x))]) (st' := [.int (iI x)]) rfl rfl ?_
  refine go_a (pc' := 6) (ls' := [some (.ref (c + 0)), some (.int (iI x))]) (st' := [.ref (c + 0), .int (iI x)]) rfl rfl ?_
  refine go_get (v := .ref (c + 16)) rfl (W.1.1 0 (by decide)) rfl rfl ?_
  refine go_v (m := 54) (as := [.ref (c + 16)]) (r := [.int (iI x)]) rfl rfl rfl (W.1.1 9 (by decide)) rfl rfl (ke_length z d c hp s W.1) (fun v h3 hq => ?_)
  obtain ⟨rfl, e9⟩ := hq
  rw [e9]
  clear e9 h3
  show xx_go (xt_P z) (d + 2) 55 12 [some (.ref (c + 0)), some (.int (iI x))] [.int (iI (s.I 4)), .int (iI x)] hp _
  refine mi_ge (t := 26) rfl rfl (by omega) (by omega) (by omega) (by omega) (fun _ => no) (fun w2 => ?_)
  refine go_a (pc' := 16) (ls' := [some (.ref (c + 0)), some (.int (iI x))]) (st' := [.ref (c + 0)]) rfl rfl ?_
  refine go_get (v := .ref (c + 16)) rfl (W.1.1 0 (by decide)) rfl rfl ?_
  refine go_a (pc' := 20) (ls' := [some (.ref (c + 0)), some (.int (iI x))]) (st' := [.int (iI x), .ref (c + 16)]) rfl rfl ?_
  refine go_v (m := 56) (as := [.ref (c + 16), .int (iI x)]) (r := []) rfl rfl rfl (W.1.1 9 (by decide)) rfl rfl (ke_at z d c x hp s W.1 W.2.1 (by omega) (by omega)) (fun v h3 hq => ?_)
  obtain ⟨⟨y, rfl⟩, e9⟩ := hq
  rw [e9]
  clear e9 h3
  show xx_go (xt_P z) (d + 2) 55 23 [some (.ref (c + 0)), some (.int (iI x))] [.int (iI y)] hp _
  refine go_a (pc' := 27) (ls' := [some (.ref (c + 0)), some (.int (iI x))]) (st' := [.int (iI y)]) rfl rfl ?_
  exact go_r rfl rfl rfl rfl rfl rfl ⟨⟨_, rfl⟩, rfl, KIC_1 hI⟩

