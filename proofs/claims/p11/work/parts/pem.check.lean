theorem kf_initG (z : Value) (d a pq ta : Nat) (nm cl cb : Int) (v0 v1 v2 v3 v4 : Value) (hp : xx_H) (h12 : 12 ≤ a) (ha : hp[a]? = some (.inr (11, [v0, v1, v2, v3, v4]))) : xx_cl (xt_P z) (d + 1) 233 [.ref a, .int (iI nm), .int (iI cl), .ref pq, .ref ta, .int (iI cb)] hp (fun v h1 => v = none ∧ h1 = hp.set a (.inr (11, [.int (iI nm), .int (iI cl), .ref pq, .ref ta, .int (iI cb)]))) := by
  have la := (List.getElem?_eq_some_iff.mp ha).1
  refine cl_go rfl ?_
  show xx_go (xt_P z) d 233 0 [some (.ref a), some (.int (iI nm)), some (.int (iI cl)), some (.ref pq), some (.ref ta), some (.int (iI cb))] [] hp _
  refine go_a (pc' := 1) (ls' := [some (.ref a), some (.int (iI nm)), some (.int (iI cl)), some (.ref pq), some (.ref ta), some (.int (iI cb))]) (st' := [.ref a]) rfl rfl ?_
  refine go_o (st' := []) (h' := hp) rfl rfl rfl rfl ?_
  refine go_a (pc' := 5) (ls' := [some (.ref a), some (.int (iI nm)), some (.int (iI cl)), some (.ref pq), some (.ref ta), some (.int (iI cb))]) (st' := [.ref a]) rfl rfl ?_
  refine go_a (pc' := 6) (ls' := [some (.ref a), some (.int (iI nm)), some (.int (iI cl)), some (.ref pq), some (.ref ta), some (.int (iI cb))]) (st' := [.int (iI nm), .ref a]) rfl rfl ?_
  refine go_put rfl ha rfl rfl h12 (show 0 < 5 by decide) rfl rfl ?_
  show xx_go (xt_P z) d 233 9 [some (.ref a), some (.int (iI nm)), some (.int (iI cl)), some (.ref pq), some (.ref ta), some (.int (iI cb))] [] (hp.set a (.inr (11, [.int (iI nm), v1, v2, v3, v4]))) _
  refine go_a (pc' := 10) (ls' := [some (.ref a), some (.int (iI nm)), some (.int (iI cl)), some (.ref pq), some (.ref ta), some (.int (iI cb))]) (st' := [.ref a]) rfl rfl ?_
  refine go_a (pc' := 11) (ls' := [some (.ref a), some (.int (iI nm)), some (.int (iI cl)), some (.ref pq), some (.ref ta), some (.int (iI cb))]) (st' := [.int (iI cl), .ref a]) rfl rfl ?_
  refine go_put rfl (List.getElem?_set_self la) rfl rfl h12 (show 1 < 5 by decide) rfl rfl ?_
  rw [List.set_set]
  show xx_go (xt_P z) d 233 14 [some (.ref a), some (.int (iI nm)), some (.int (iI cl)), some (.ref pq), some (.ref ta), some (.int (iI cb))] [] (hp.set a (.inr (11, [.int (iI nm), .int (iI cl), v2, v3, v4]))) _
  refine go_a (pc' := 15) (ls' := [some (.ref a), some (.int (iI nm)), some (.int (iI cl)), some (.ref pq), some (.ref ta), some (.int (iI cb))]) (st' := [.ref a]) rfl rfl ?_
  refine go_a (pc' := 16) (ls' := [some (.ref a), some (.int (iI nm)), some (.int (iI cl)), some (.ref pq), some (.ref ta), some (.int (iI cb))]) (st' := [.ref pq, .ref a]) rfl rfl ?_
  refine go_put rfl (List.getElem?_set_self la) rfl rfl h12 (show 2 < 5 by decide) rfl rfl ?_
  rw [List.set_set]
  show xx_go (xt_P z) d 233 19 [some (.ref a), some (.int (iI nm)), some (.int (iI cl)), some (.ref pq), some (.ref ta), some (.int (iI cb))] [] (hp.set a (.inr (11, [.int (iI nm), .int (iI cl), .ref pq, v3, v4]))) _
  refine go_a (pc' := 20) (ls' := [some (.ref a), some (.int (iI nm)), some (.int (iI cl)), some (.ref pq), some (.ref ta), some (.int (iI cb))]) (st' := [.ref a]) rfl rfl ?_
  refine go_a (pc' := 22) (ls' := [some (.ref a), some (.int (iI nm)), some (.int (iI cl)), some (.ref pq), some (.ref ta), some (.int (iI cb))]) (st' := [.ref ta, .ref a]) rfl rfl ?_
  refine go_put rfl (List.getElem?_set_self la) rfl rfl h12 (show 3 < 5 by decide) rfl rfl ?_
  rw [List.set_set]
  show xx_go (xt_P z) d 233 25 [some (.ref a), some (.int (iI nm)), some (.int (iI cl)), some (.ref pq), some (.ref ta), some (.int (iI cb))] [] (hp.set a (.inr (11, [.int (iI nm), .int (iI cl), .ref pq, .ref ta, v4]))) _
  refine go_a (pc' := 26) (ls' := [some (.ref a), some (.int (iI nm)), some (.int (iI cl)), some (.ref pq), some (.ref ta), some (.int (iI cb))]) (st' := [.ref a]) rfl rfl ?_
  refine go_a (pc' := 28) (ls' := [some (.ref a), some (.int (iI nm)), some (.int (iI cl)), some (.ref pq), some (.ref ta), some (.int (iI cb))]) (st' := [.int (iI cb), .ref a]) rfl rfl ?_
  refine go_put rfl (List.getElem?_set_self la) rfl rfl h12 (show 4 < 5 by decide) rfl rfl ?_
  rw [List.set_set]
  show xx_go (xt_P z) d 233 31 [some (.ref a), some (.int (iI nm)), some (.int (iI cl)), some (.ref pq), some (.ref ta), some (.int (iI cb))] [] (hp.set a (.inr (11, [.int (iI nm), .int (iI cl), .ref pq, .ref ta, .int (iI cb)]))) _
  exact go_r rfl rfl rfl rfl rfl rfl ⟨rfl, rfl⟩
theorem kk_takeF (z : Value) (d c a : Nat) (hp : xx_H) (s : KS) (NM : BKM) (t : List sp_Th) (k : Int) (hW : KWS c hp s NM t k) (lk : k ≤ 1000000) (nm m : Int) (g : Int → Int) (n : Int) (f : Int → Int) (TH : FTH c hp s (s.I 8) a (s.I 27) nm m g n f (s.I 24)) (fr : ∀ i : Int, 0 ≤ i → i < s.I 27 → (NM.1 i).1 ≠ nm) (l40 : s.I 27 < 40) (nv : Nat) (ps : List Nat) (B : ob_T) (dv : DK s.N nm = .var nv) (VG : VRG s.N (s.I 8) (rl m g) ps) (TB : TRT s.N (s.I 8) (sp_ft (sp_FB ((nv, some ps, B) :: t))) (rl n f) B) : xx_cl (xt_P z) (d + 7) 234 [.ref (c + 0), .ref a] hp (fun v h1 => v = none ∧ ∃ (s1 : KS) (NM1 : BKM), KWS c h1 s1 NM1 ((nv, some ps, B) :: t) (k + 1) ∧ CFR s s1 ∧ kx c hp s h1 s1 2 2 ∧ s1.I 24 = s.I 8 ∧ s1.I 22 = s.I 22 ∧ s1.I 23 = s.I 23) := by
  obtain ⟨q1, q2, q3, q4, q5, q6, q7, q8, q9, q10, q11, q12⟩ := hW
  have nn := BKS_nn q5
  have b8 := q2.2.1 8
  obtain ⟨pq, ta, c1, c2, c3, c4, c5, c6, c7, c8, c9, c10, c11⟩ := id TH
  have fx : 0 ≤ fcl (s.I 27) m ∧ fcl (s.I 27) m ≤ 2147483647 := ⟨by unfold fcl; omega, by unfold fcl; omega⟩
  refine cl_go rfl ?_
  show xx_go (xt_P z) (d + 6) 234 0 [some (.ref (c + 0)), some (.ref a)] [] hp _
  refine go_a (pc' := 1) (ls' := [some (.ref (c + 0)), some (.ref a)]) (st' := [.ref (c + 0)]) rfl rfl ?_
  refine go_get (v := .ref (c + 21)) rfl (q1.1 0 (by decide)) rfl rfl ?_
  refine go_a (pc' := 5) (ls' := [some (.ref (c + 0)), some (.ref a)]) (st' := [.ref a, .ref (c + 21)]) rfl rfl ?_
  refine go_v (m := 235) (as := [.ref (c + 21), .ref a]) (r := []) rfl rfl rfl (q1.1 12 (by decide)) rfl rfl (kf_takeF z d c a (fcl (s.I 27) m) _ _ _ _ k hp s q1 q2 q4 (BKS_T13 q5 q6) (BKS_T14 q5) q7 lk (by omega) (by omega) c1 c2 (by omega) (by omega) (by omega)) (fun v h1 hq => ?_)
  obtain ⟨rfl, s1, K1, B1, X1, F1, L1, ⟨i26, isz, ioz, iT⟩, T13, T13a, Tl, Tla⟩ := hq
  have e8 := F1.2.2.2 8 (by decide)
  have e14 := F1.2.2.2 14 (by decide)
  have e15 := F1.2.2.2 15 (by decide)
  have e20 := F1.2.2.2 20 (by decide)
  show xx_go (xt_P z) (d + 6) 234 8 [some (.ref (c + 0)), some (.ref a)] [] h1 _
  refine go_a (pc' := 9) (ls' := [some (.ref (c + 0)), some (.ref a)]) (st' := [.ref (c + 0)]) rfl rfl ?_
  refine go_a (pc' := 10) (ls' := [some (.ref (c + 0)), some (.ref a)]) (st' := [.ref (c + 0), .ref (c + 0)]) rfl rfl ?_
  refine go_get (v := .ref (c + 4)) rfl (K1.1 0 (by decide)) rfl rfl ?_
  refine go_v (m := 31) (as := [.ref (c + 4)]) (r := [.ref (c + 0)]) rfl rfl rfl (K1.1 3 (by decide)) rfl rfl (kc_length z (d + 5) c h1 s1 K1) (fun v h3 hq => ?_)
  obtain ⟨rfl, e9⟩ := hq
  rw [e9]
  clear e9 h3
  show xx_go (xt_P z) (d + 6) 234 16 [some (.ref (c + 0)), some (.ref a)] [.int (iI (s1.I 8)), .ref (c + 0)] h1 _
  have hX := kx_rf (c := c) (hp := h1) (s := s1)
  refine kput_24 (x := s1.I 8) K1 hX rfl rfl (fun h2 hK hX => ?_)
  have BS : BKS c h1 s1 (so NM.1 (s.I 27) (nm, rl m g, rl n f), NM.2.1, sp_ft (sp_FB ((nv, some ps, B) :: t)), sp_FB ((nv, some ps, B) :: t), sp_TB ((nv, some ps, B) :: t)) ((nv, some ps, B) :: t) (s.I 8) (s.I 27 + 1) (s.I 28) := by
    have hD : ∀ k : Int, 0 ≤ k → k < s.I 8 → DK s1.N k = DK s.N k := fun k _ _ => by rw [F1.2.1]
    have sS : so NM.1 (s.I 27) (nm, rl m g, rl n f) (s.I 27) = (nm, rl m g, rl n f) := so_self
    refine ⟨a, s.I 24, by rw [← q6]; exact T13a, ⟨nn.2.2.2, q9⟩, Or.inl ⟨m, g, n, f, ?_, ?_, by omega, fun i i0 i1 => ?_, ?_, ?_⟩⟩
    · rw [show s.I 27 + 1 - 1 = s.I 27 by omega]
      show FTH c h1 s1 _ a _ (so NM.1 (s.I 27) (nm, rl m g, rl n f) (s.I 27)).1 _ _ _ _ _
      rw [sS]
      exact FTH_kx TH X1 (Int.le_refl _)
    · rw [show s.I 27 + 1 - 1 = s.I 27 by omega]
      exact Tla
    · rw [show s.I 27 + 1 - 1 = s.I 27 by omega]
      show (so NM.1 (s.I 27) (nm, rl m g, rl n f) i).1 ≠ (so NM.1 (s.I 27) (nm, rl m g, rl n f) (s.I 27)).1
      rw [sS, so_ne (by omega)]
      exact fr i i0 (by omega)
    · rw [show s.I 27 + 1 - 1 = s.I 27 by omega]
      refine ⟨⟨?_, ?_⟩, nv, ps, B, rfl, ?_, VRG_mono (Int.le_refl _) hD _ _ VG, (TRT_mono (Int.le_refl _) hD (fun _ _ => rfl) B).1 _ TB⟩
      · show _ = (so NM.1 (s.I 27) (nm, rl m g, rl n f) (s.I 27)).2.1
        rw [sS]
      · show _ = (so NM.1 (s.I 27) (nm, rl m g, rl n f) (s.I 27)).2.2
        rw [sS]
      · show DK s1.N (so NM.1 (s.I 27) (nm, rl m g, rl n f) (s.I 27)).1 = _
        rw [sS, F1.2.1]
        exact dv
    · rw [show s.I 27 + 1 - 1 = s.I 27 by omega]
      exact BKS_kx q5 X1 (Int.le_refl _) (fun e e0 e1 => T13 e e0 (by omega)) Tl (fun e _ _ => by rw [iT]) (fun e e0 e1 => so_ne (by omega)) (fun _ _ _ => rfl) (fun k k0 k1 => hD k k0 (by omega))
  have S2 : BKS c h2 (s1.wI 24 (s1.I 8)) (so NM.1 (s.I 27) (nm, rl m g, rl n f), NM.2.1, sp_ft (sp_FB ((nv, some ps, B) :: t)), sp_FB ((nv, some ps, B) :: t), sp_TB ((nv, some ps, B) :: t)) ((nv, some ps, B) :: t) (s1.I 8) (s1.I 27) (s1.I 28) := by
    rw [e8, isz, ioz]
    exact BKS_kx BS hX (Int.le_refl _) (fun _ _ _ => rfl) (fun _ _ _ => rfl) (fun _ _ _ => rfl) (fun _ _ _ => rfl) (fun _ _ _ => rfl) (fun _ _ _ => rfl)
  have B2 : KB (s1.wI 24 (s1.I 8)) := KB_wF B1 (by omega) (by omega) (by decide)
  have Q2 : KQ (s1.wI 24 (s1.I 8)) := KQ_e (s := s) F1.2.1 (by show s1.A 9 = _; rw [F1.1]) (by show s1.A 10 = _; rw [F1.1]) (by show s1.A 11 = _; rw [F1.1]) e8 q12.1
  have N2 : KNN (s1.wI 24 (s1.I 8)) := fun i hi => by show s1.N i = _; rw [F1.2.1]; exact q12.2.1 i hi
  exact go_r rfl rfl rfl rfl rfl rfl ⟨rfl, (s1.wI 24 (s1.I 8)), (so NM.1 (s.I 27) (nm, rl m g, rl n f), NM.2.1, sp_ft (sp_FB ((nv, some ps, B) :: t)), sp_FB ((nv, some ps, B) :: t), sp_TB ((nv, some ps, B) :: t)), ⟨hK, B2, KSA_CI (s := s1) ⟨rfl, rfl, rfl⟩ (BKF_CI F1 q3), OC_kx (OC_kx q4 X1) hX, S2, by show s1.I 26 = _; rw [List.length_cons]; omega, L1, ⟨by show s1.I 14 = _; omega, by show s1.I 15 = _; omega⟩, Int.le_refl _, ⟨by show s1.I 27 ≤ _; omega, by show s1.I 28 ≤ _; omega⟩, ⟨by show _ ≤ s1.I 20; omega, by show s1.I 20 ≤ _; omega⟩, Q2, N2, rfl, rfl, rfl⟩, ⟨⟨F1.2.2.2 0 (by decide), F1.2.2.2 4 (by decide), e20⟩, by show s1.A 12 = _; rw [F1.1], by show s1.A 0 = _; rw [F1.1]⟩, kx_w (kx_tr X1 hX) (by decide) (by decide), e8, F1.2.2.2 22 (by decide), F1.2.2.2 23 (by decide)⟩
theorem kk_takeT (z : Value) (d c a : Nat) (hp : xx_H) (s : KS) (NM : BKM) (t : List sp_Th) (k : Int) (hW : KWS c hp s NM t k) (lk : k ≤ 1000000) (nm n : Int) (f : Int → Int) (TH : TTH c hp s (s.I 8) a nm n f (s.I 24)) (fr : ∀ i : Int, 0 ≤ i → i < s.I 28 → (NM.2.1 i).1 ≠ nm) (l60 : s.I 28 < 60) (nv : Nat) (B : ob_T) (dv : DK s.N nm = .var nv) (TB : TRT s.N (s.I 8) (sp_ft (sp_FB t)) (rl n f) B) : xx_cl (xt_P z) (d + 7) 234 [.ref (c + 0), .ref a] hp (fun v h1 => v = none ∧ ∃ (s1 : KS) (NM1 : BKM), KWS c h1 s1 NM1 ((nv, none, B) :: t) (k + 1) ∧ CFR s s1 ∧ kx c hp s h1 s1 2 2 ∧ s1.I 24 = s.I 8 ∧ s1.I 22 = s.I 22 ∧ s1.I 23 = s.I 23) := by
  obtain ⟨q1, q2, q3, q4, q5, q6, q7, q8, q9, q10, q11, q12⟩ := hW
  have nn := BKS_nn q5
  have b8 := q2.2.1 8
  obtain ⟨pq, ta, gg, c1, c2, c3, c4, c5, c6, c7⟩ := id TH
  refine cl_go rfl ?_
  show xx_go (xt_P z) (d + 6) 234 0 [some (.ref (c + 0)), some (.ref a)] [] hp _
  refine go_a (pc' := 1) (ls' := [some (.ref (c + 0)), some (.ref a)]) (st' := [.ref (c + 0)]) rfl rfl ?_
  refine go_get (v := .ref (c + 21)) rfl (q1.1 0 (by decide)) rfl rfl ?_
  refine go_a (pc' := 5) (ls' := [some (.ref (c + 0)), some (.ref a)]) (st' := [.ref a, .ref (c + 21)]) rfl rfl ?_
  refine go_v (m := 235) (as := [.ref (c + 21), .ref a]) (r := []) rfl rfl rfl (q1.1 12 (by decide)) rfl rfl (kf_takeT z d c a (-1) _ _ _ _ k hp s q1 q2 q4 (BKS_T13 q5 q6) (BKS_T15 q5) q7 lk (by omega) (by omega) c1 c2 (by omega) (by omega) rfl) (fun v h1 hq => ?_)
  obtain ⟨rfl, s1, K1, B1, X1, F1, L1, ⟨i26, isz, ioz, iT⟩, T13, T13a, Tl, Tla⟩ := hq
  have e8 := F1.2.2.2 8 (by decide)
  have e14 := F1.2.2.2 14 (by decide)
  have e15 := F1.2.2.2 15 (by decide)
  have e20 := F1.2.2.2 20 (by decide)
  show xx_go (xt_P z) (d + 6) 234 8 [some (.ref (c + 0)), some (.ref a)] [] h1 _
  refine go_a (pc' := 9) (ls' := [some (.ref (c + 0)), some (.ref a)]) (st' := [.ref (c + 0)]) rfl rfl ?_
  refine go_a (pc' := 10) (ls' := [some (.ref (c + 0)), some (.ref a)]) (st' := [.ref (c + 0), .ref (c + 0)]) rfl rfl ?_
  refine go_get (v := .ref (c + 4)) rfl (K1.1 0 (by decide)) rfl rfl ?_
  refine go_v (m := 31) (as := [.ref (c + 4)]) (r := [.ref (c + 0)]) rfl rfl rfl (K1.1 3 (by decide)) rfl rfl (kc_length z (d + 5) c h1 s1 K1) (fun v h3 hq => ?_)
  obtain ⟨rfl, e9⟩ := hq
  rw [e9]
  clear e9 h3
  show xx_go (xt_P z) (d + 6) 234 16 [some (.ref (c + 0)), some (.ref a)] [.int (iI (s1.I 8)), .ref (c + 0)] h1 _
  have hX := kx_rf (c := c) (hp := h1) (s := s1)
  refine kput_24 (x := s1.I 8) K1 hX rfl rfl (fun h2 hK hX => ?_)
  have BS : BKS c h1 s1 (NM.1, so NM.2.1 (s.I 28) (nm, [], rl n f), sp_ft (sp_FB ((nv, none, B) :: t)), sp_FB ((nv, none, B) :: t), sp_TB ((nv, none, B) :: t)) ((nv, none, B) :: t) (s.I 8) (s.I 27) (s.I 28 + 1) := by
    have hD : ∀ k : Int, 0 ≤ k → k < s.I 8 → DK s1.N k = DK s.N k := fun k _ _ => by rw [F1.2.1]
    have sS : so NM.2.1 (s.I 28) (nm, [], rl n f) (s.I 28) = (nm, [], rl n f) := so_self
    refine ⟨a, s.I 24, by rw [← q6]; exact T13a, ⟨nn.2.2.2, q9⟩, Or.inr ⟨n, f, ?_, ?_, by omega, fun i i0 i1 => ?_, ?_, ?_⟩⟩
    · rw [show s.I 28 + 1 - 1 = s.I 28 by omega]
      show TTH c h1 s1 _ a (so NM.2.1 (s.I 28) (nm, [], rl n f) (s.I 28)).1 _ _ _
      rw [sS]
      exact TTH_kx TH X1 (Int.le_refl _)
    · rw [show s.I 28 + 1 - 1 = s.I 28 by omega]
      exact Tla
    · rw [show s.I 28 + 1 - 1 = s.I 28 by omega]
      show (so NM.2.1 (s.I 28) (nm, [], rl n f) i).1 ≠ (so NM.2.1 (s.I 28) (nm, [], rl n f) (s.I 28)).1
      rw [sS, so_ne (by omega)]
      exact fr i i0 (by omega)
    · rw [show s.I 28 + 1 - 1 = s.I 28 by omega]
      refine ⟨?_, nv, B, rfl, ?_, (TRT_mono (Int.le_refl _) hD (fun _ _ => rfl) B).1 _ TB⟩
      · show _ = (so NM.2.1 (s.I 28) (nm, [], rl n f) (s.I 28)).2.2
        rw [sS]
      · show DK s1.N (so NM.2.1 (s.I 28) (nm, [], rl n f) (s.I 28)).1 = _
        rw [sS, F1.2.1]
        exact dv
    · rw [show s.I 28 + 1 - 1 = s.I 28 by omega]
      exact BKS_kx q5 X1 (Int.le_refl _) (fun e e0 e1 => T13 e e0 (by omega)) (fun e _ _ => by rw [iT]) Tl (fun _ _ _ => rfl) (fun e e0 e1 => so_ne (by omega)) (fun k k0 k1 => hD k k0 (by omega))
  have S2 : BKS c h2 (s1.wI 24 (s1.I 8)) (NM.1, so NM.2.1 (s.I 28) (nm, [], rl n f), sp_ft (sp_FB ((nv, none, B) :: t)), sp_FB ((nv, none, B) :: t), sp_TB ((nv, none, B) :: t)) ((nv, none, B) :: t) (s1.I 8) (s1.I 27) (s1.I 28) := by
    rw [e8, ioz, isz]
    exact BKS_kx BS hX (Int.le_refl _) (fun _ _ _ => rfl) (fun _ _ _ => rfl) (fun _ _ _ => rfl) (fun _ _ _ => rfl) (fun _ _ _ => rfl) (fun _ _ _ => rfl)
  have B2 : KB (s1.wI 24 (s1.I 8)) := KB_wF B1 (by omega) (by omega) (by decide)
  have Q2 : KQ (s1.wI 24 (s1.I 8)) := KQ_e (s := s) F1.2.1 (by show s1.A 9 = _; rw [F1.1]) (by show s1.A 10 = _; rw [F1.1]) (by show s1.A 11 = _; rw [F1.1]) e8 q12.1
  have N2 : KNN (s1.wI 24 (s1.I 8)) := fun i hi => by show s1.N i = _; rw [F1.2.1]; exact q12.2.1 i hi
  exact go_r rfl rfl rfl rfl rfl rfl ⟨rfl, (s1.wI 24 (s1.I 8)), (NM.1, so NM.2.1 (s.I 28) (nm, [], rl n f), sp_ft (sp_FB ((nv, none, B) :: t)), sp_FB ((nv, none, B) :: t), sp_TB ((nv, none, B) :: t)), ⟨hK, B2, KSA_CI (s := s1) ⟨rfl, rfl, rfl⟩ (BKF_CI F1 q3), OC_kx (OC_kx q4 X1) hX, S2, by show s1.I 26 = _; rw [List.length_cons]; omega, L1, ⟨by show s1.I 14 = _; omega, by show s1.I 15 = _; omega⟩, Int.le_refl _, ⟨by show s1.I 27 ≤ _; omega, by show s1.I 28 ≤ _; omega⟩, ⟨by show _ ≤ s1.I 20; omega, by show s1.I 20 ≤ _; omega⟩, Q2, N2, rfl, rfl, rfl⟩, ⟨⟨F1.2.2.2 0 (by decide), F1.2.2.2 4 (by decide), e20⟩, by show s1.A 12 = _; rw [F1.1], by show s1.A 0 = _; rw [F1.1]⟩, kx_w (kx_tr X1 hX) (by decide) (by decide), e8, F1.2.2.2 22 (by decide), F1.2.2.2 23 (by decide)⟩
theorem sp_cz_1 {F : ob_T} (h : (sp_sz F).1 ≤ 120) : sp_cz [some F] = some [F] := by
  have e : sp_cf [] [some F] = some [F] := by
    show some (sp_pu [] F) = _
    unfold sp_pu
    rw [ifc_neg List.not_mem_nil]
    rfl
  unfold sp_cz
  rw [e]
  show ifc (sp_bn [F]) (some [F]) none = _
  refine ifc_pos ⟨by show 1 ≤ 30; decide, ?_⟩
  show (sp_sz F).1 + 0 ≤ 400
  omega
theorem kk_check2 (z : Value) (d c : Nat) (x nm : Int) (hp : xx_H) (s : KS) (NM : BKM) (t : List sp_Th) (k : Int) (hW : KWS c hp s NM t k) (lb : c + 84 ≤ hp.length) (lk : k ≤ 1000000) (l25 : s.I 8 ≤ 25000) (n0 : 17 ≤ nm) (n1 : nm < s.I 8) (a3 : Nat) (n : Int) (f : Int → Int) (Ta : TM c hp s (s.I 8) a3 n f) (y : Nat) (Zy : List (List Int)) (Cy : CL c hp s (s.I 8) y 0 Zy) (l60 : s.I 28 < 60) (vn : Nat) (FF : ob_T) (DD : List ob_T) (dv : DK s.N nm = .var vn) (TF0 : TRT s.N (s.I 8) NM.2.2.1 (rl n f) FF) (TO0 : TRO s.N (s.I 8) NM.2.2.1 Zy DD) (fr : ∀ i : Int, 0 ≤ i → i < s.I 28 → (NM.2.1 i).1 ≠ nm) : xx_go (xt_P z) (d + 90) 242 105 [some (.ref (c + 0)), some (.int (iI x)), some (.int (iI nm)), some (.ref a3), some (.ref y), none] [] hp (fun v h1 => ∃ (q : Int) (s1 : KS) (NM1 : BKM) (t1 : List sp_Th), v = some (.int (iI q)) ∧ ((t1, s1.I 23), s1.I 22) = ((ifc (∀ t ∈ DD, t = FF) ((vn, none, FF) :: t) t, s.I 23), s.I 17) ∧ KWS c h1 s1 NM1 t1 (k + 1) ∧ CFR s s1 ∧ kx c hp s h1 s1 8 50 ∧ s1.I 24 ≤ s.I 8) := by
  have b17 := hW.2.1.2.1 17
  have hX := kx_rf (c := c) (hp := hp) (s := s)
  refine go_a (pc' := 106) (ls' := [some (.ref (c + 0)), some (.int (iI x)), some (.int (iI nm)), some (.ref a3), some (.ref y), none]) (st' := [.ref (c + 0)]) rfl rfl ?_
  refine go_a (pc' := 107) (ls' := [some (.ref (c + 0)), some (.int (iI x)), some (.int (iI nm)), some (.ref a3), some (.ref y), none]) (st' := [.ref (c + 0), .ref (c + 0)]) rfl rfl ?_
  refine go_get (v := .ref (c + 30)) rfl (hW.1.1 0 (by decide)) rfl rfl ?_
  refine go_get (v := .int (iI (s.I 17))) rfl (hW.1.1 19 (by decide)) rfl rfl ?_
  refine kput_22 (x := s.I 17) hW.1 hX rfl rfl (fun h1 hK hX => ?_)
  have B1 : KB (s.wI 22 (s.I 17)) := KB_wF hW.2.1 (by omega) (by omega) (by decide)
  have F1 : GF s (s.wI 22 (s.I 17)) := SF_G (SF_wI (by decide))
  have C1 : CI (s.wI 22 (s.I 17)) := KSA_CI (s := s) ⟨rfl, rfl, rfl⟩ hW.2.2.1
  have E1 : (s.wI 22 (s.I 17)).I 8 = s.I 8 := rfl
  have i24 : (s.wI 22 (s.I 17)).I 24 = s.I 24 := rfl
  have i28 : (s.wI 22 (s.I 17)).I 28 = s.I 28 := rfl
  have i22 : (s.wI 22 (s.I 17)).I 22 = s.I 17 := rfl
  have i23 : (s.wI 22 (s.I 17)).I 23 = s.I 23 := rfl
  have eN : (s.wI 22 (s.I 17)).N = s.N := rfl
  have Q1 : KQ s → KQ (s.wI 22 (s.I 17)) := fun q => KQ_e (s := s) rfl rfl rfl rfl rfl q
  obtain ⟨s1, es⟩ : ∃ q : KS, q = (s.wI 22 (s.I 17)) := ⟨_, rfl⟩
  rw [← es] at hK hX B1 F1 C1 E1 i24 i28 i22 i23 eN Q1
  have W1 := KWS_GF hW hK B1 C1 hX F1 Q1
  have T1 := TM_kx Ta hX
  have Y1 := CL_kx Cy hX
  have h12 := (ki_12 hK).2
  refine go_new (ci := 12) (fs := [.null, .int 0, .int 0, .int 0]) rfl rfl rfl ?_
  show xx_go (xt_P z) (d + 90) 242 119 [some (.ref (c + 0)), some (.int (iI x)), some (.int (iI nm)), some (.ref a3), some (.ref y), none] [.ref h1.length] (h1 ++ [.inr (12, [.null, .int 0, .int 0, .int 0])]) _
  refine go_a (pc' := 120) (ls' := [some (.ref (c + 0)), some (.int (iI x)), some (.int (iI nm)), some (.ref a3), some (.ref y), none]) (st' := [.ref h1.length, .ref h1.length]) rfl rfl ?_
  refine go_i (m := 257) (as := [.ref h1.length]) (r := [.ref h1.length]) rfl rfl rfl rfl rfl (kh_init z (d + 89) h1 h12) (fun v h2 hq => ?_)
  obtain ⟨rfl, rfl⟩ := hq
  obtain ⟨K2, X2, C2⟩ := mkC_CL (u := s.I 8) hK
  have D2 : CL c (mkC h1) s1 (s.I 8) h1.length 0 [] := ⟨_, _, _, _, _, C2, rfl⟩
  have T2 := TM_kx T1 X2
  have Y2 := CL_kx Y1 X2
  obtain ⟨my, wy, cy⟩ := CL_cell Y1
  have ly := (List.getElem?_eq_some_iff.mp cy).1
  have X3 := kx_tr hX X2
  obtain ⟨x5, ex⟩ : ∃ q : Nat, q = h1.length := ⟨_, rfl⟩
  obtain ⟨h2, e2⟩ : ∃ q : xx_H, q = mkC h1 := ⟨_, rfl⟩
  have hx : hp.length ≤ x5 := by rw [ex]; exact hX.1
  rw [← ex] at D2 ly
  rw [← e2] at K2 X2 D2 T2 Y2 X3
  rw [← e2, ← ex]
  have ne : y ≠ x5 := by omega
  obtain ⟨m2, w2, c2⟩ := CL_cell D2
  show xx_go (xt_P z) (d + 90) 242 123 [some (.ref (c + 0)), some (.int (iI x)), some (.int (iI nm)), some (.ref a3), some (.ref y), none] [.ref x5] h2 _
  refine go_a (pc' := 125) (ls' := [some (.ref (c + 0)), some (.int (iI x)), some (.int (iI nm)), some (.ref a3), some (.ref y), some (.ref x5)]) (st' := []) rfl rfl ?_
  refine go_a (pc' := 127) (ls' := [some (.ref (c + 0)), some (.int (iI x)), some (.int (iI nm)), some (.ref a3), some (.ref y), some (.ref x5)]) (st' := [.ref x5]) rfl rfl ?_
  refine go_a (pc' := 128) (ls' := [some (.ref (c + 0)), some (.int (iI x)), some (.int (iI nm)), some (.ref a3), some (.ref y), some (.ref x5)]) (st' := [.ref a3, .ref x5]) rfl rfl ?_
  refine go_v (m := 261) (as := [.ref x5, .ref a3]) (r := []) rfl rfl rfl c2 rfl rfl (kq_addC z (d + 87) D2 (MTM_T T2)) (fun v h3 hq => ?_)
  obtain ⟨rfl, F3, b3, Z3, ez3, D3⟩ := hq
  have K3 := CL_KI D2 F3 K2
  have T3 := TM_fe D2 F3 T2
  have Y3 := CL_fe D2 F3 ne Y2
  have X4 := KFE_kx X3 hx F3
  have W3 := KWS_GF hW K3 B1 C1 X4 F1 Q1
  obtain ⟨m5, w5, O5, n5, f5, E5, eZ5⟩ := id D3
  obtain ⟨m4, w4, O4, n4, f4, E4, eZ4⟩ := id Y3
  have KN := (KWS_PS hW l25).2.2.2.2.2.2.2.2
  have hD := (KNT_ST KN hW.2.2.1 hW.2.1).2
  have n120 := TM_n Ta
  have sF := ((TRT_len FF).1 _ TF0).1
  rw [rl_len] at sF
  have TZ3 : TRO s.N (s.I 8) NM.2.2.1 Z3 [FF] := by
    have cf := CLF_cl hD KN.2.2.2.2 (ITR_s (show OTR s.N (s.I 8) NM.2.2.1 (some (rl n f)) (some FF) from TF0))
    have e0 : [some (rl n f)].foldl clO (0, []) = clO (0, []) (some (rl n f)) := rfl
    rw [e0, ← ez3, sp_cz_1 (by omega)] at cf
    rcases cf with ⟨-, D1, d1, d2⟩ | ⟨-, d1⟩
    · injection d1 with d1
      rw [d1]
      exact d2
    · cases d1
  have sb := TRO_sub hD KN.2.2.2.2 TO0 TZ3
  rw [← eZ4, ← eZ5] at sb
  show xx_go (xt_P z) (d + 90) 242 131 [some (.ref (c + 0)), some (.int (iI x)), some (.int (iI nm)), some (.ref a3), some (.ref y), some (.ref x5)] [] h3 _
  refine go_a (pc' := 133) (ls' := [some (.ref (c + 0)), some (.int (iI x)), some (.int (iI nm)), some (.ref a3), some (.ref y), some (.ref x5)]) (st' := [.ref y]) rfl rfl ?_
  refine go_a (pc' := 135) (ls' := [some (.ref (c + 0)), some (.int (iI x)), some (.int (iI nm)), some (.ref a3), some (.ref y), some (.ref x5)]) (st' := [.ref x5, .ref y]) rfl rfl ?_
  refine go_v (m := 292) (as := [.ref y, .ref x5]) (r := []) rfl rfl rfl E4.1 rfl rfl (kh_isWithin z (d + 87) c h3 s1 (s.I 8) (s.I 8) y m4 w4 0 O4 n4 f4 x5 m5 w5 b3 O5 n5 f5 E4 E5) (fun v h4 hq => ?_)
  obtain ⟨hq, e9⟩ := hq
  rw [e9]
  clear e9 h4
  rcases hq with ⟨rfl, hw⟩ | ⟨rfl, hw⟩
  · show xx_go (xt_P z) (d + 90) 242 138 [some (.ref (c + 0)), some (.int (iI x)), some (.int (iI nm)), some (.ref a3), some (.ref y), some (.ref x5)] [.int (iI 1)] h3 _
    have al : ∀ t ∈ DD, t = FF := fun t ht => List.mem_singleton.mp (sb.mp hw t ht)
    refine mi_ne0 (t := 157) rfl rfl (by omega) (by omega) (fun _ => ?_) (fun q => absurd (show (1 : Int) ≠ 0 by decide) q)
    refine go_a (pc' := 158) (ls' := [some (.ref (c + 0)), some (.int (iI x)), some (.int (iI nm)), some (.ref a3), some (.ref y), some (.ref x5)]) (st' := [.ref (c + 0)]) rfl rfl ?_
    have h123 := (ki_12 K3).2
    refine go_new (ci := 11) (fs := [.int 0, .int 0, .null, .null, .int 0]) rfl rfl rfl ?_
    show xx_go (xt_P z) (d + 90) 242 161 [some (.ref (c + 0)), some (.int (iI x)), some (.int (iI nm)), some (.ref a3), some (.ref y), some (.ref x5)] [.ref h3.length, .ref (c + 0)] (h3 ++ [.inr (11, [.int 0, .int 0, .null, .null, .int 0])]) _
    refine go_a (pc' := 162) (ls' := [some (.ref (c + 0)), some (.int (iI x)), some (.int (iI nm)), some (.ref a3), some (.ref y), some (.ref x5)]) (st' := [.ref h3.length, .ref h3.length, .ref (c + 0)]) rfl rfl ?_
    refine go_a (pc' := 163) (ls' := [some (.ref (c + 0)), some (.int (iI x)), some (.int (iI nm)), some (.ref a3), some (.ref y), some (.ref x5)]) (st' := [.int (iI nm), .ref h3.length, .ref h3.length, .ref (c + 0)]) rfl rfl ?_
    refine go_a (pc' := 164) (ls' := [some (.ref (c + 0)), some (.int (iI x)), some (.int (iI nm)), some (.ref a3), some (.ref y), some (.ref x5)]) (st' := [.int (iI ((-1))), .int (iI nm), .ref h3.length, .ref h3.length, .ref (c + 0)]) rfl rfl ?_
    refine go_a (pc' := 165) (ls' := [some (.ref (c + 0)), some (.int (iI x)), some (.int (iI nm)), some (.ref a3), some (.ref y), some (.ref x5)]) (st' := [.int (iI 0), .int (iI ((-1))), .int (iI nm), .ref h3.length, .ref h3.length, .ref (c + 0)]) rfl rfl ?_
    refine go_newa (m := (0 : Int).toNat) rfl rfl (iI_nn (by decide) (by decide)) (iI_clamp (by decide) (by decide)) (by decide) ?_
    rw [show List.replicate (0 : Int).toNat (defaultValue .int) = xa_f (0 : Int).toNat (fun _ => 0) from rep_f (0 : Int).toNat]
    obtain ⟨a, ea⟩ : ∃ q : Nat, q = h3.length := ⟨_, rfl⟩
    have la : (h3 ++ [(.inr (11, [.int 0, .int 0, .null, .null, .int 0]) : xx_E)]).length = a + 1 := by rw [List.length_append, ea]; rfl
    rw [la, ← ea]
    show xx_go (xt_P z) (d + 90) 242 167 [some (.ref (c + 0)), some (.int (iI x)), some (.int (iI nm)), some (.ref a3), some (.ref y), some (.ref x5)] [.ref (a + 1), .int (iI ((-1))), .int (iI nm), .ref a, .ref a, .ref (c + 0)] ((h3 ++ [.inr (11, [.int 0, .int 0, .null, .null, .int 0])]) ++ [.inl (.int, xa_f (0 : Int).toNat (fun _ => 0))]) _
    have ca : ((h3 ++ [.inr (11, [.int 0, .int 0, .null, .null, .int 0])]) ++ [.inl (.int, xa_f (0 : Int).toNat (fun _ => 0))])[a]? = some (.inr (11, [.int 0, .int 0, .null, .null, .int 0])) := by rw [ea]; simp
    obtain ⟨A1, A2, A3⟩ := ki_app (e := (.inr (11, [.int (iI nm), .int (iI (-1)), .ref (a + 1), .ref a3, .int (iI (s1.I 24))]) : xx_E)) K3
    obtain ⟨A4, A5, A6, A7⟩ := ki_arrI A1 0 (fun _ => 0) (by decide) (by decide) (fun _ => by decide)
    obtain ⟨Z1, Z2, Z3⟩ := ki_app (e := (.inr (11, [.int 0, .int 0, .null, .null, .int 0]) : xx_E)) K3
    obtain ⟨Z4, -⟩ := ki_arrI Z1 0 (fun _ => 0) (by decide) (by decide) (fun _ => by decide)
    refine go_a (pc' := 168) (ls' := [some (.ref (c + 0)), some (.int (iI x)), some (.int (iI nm)), some (.ref a3), some (.ref y), some (.ref x5)]) (st' := [.ref a3, .ref (a + 1), .int (iI ((-1))), .int (iI nm), .ref a, .ref a, .ref (c + 0)]) rfl rfl ?_
    refine go_a (pc' := 169) (ls' := [some (.ref (c + 0)), some (.int (iI x)), some (.int (iI nm)), some (.ref a3), some (.ref y), some (.ref x5)]) (st' := [.ref (c + 0), .ref a3, .ref (a + 1), .int (iI ((-1))), .int (iI nm), .ref a, .ref a, .ref (c + 0)]) rfl rfl ?_
    refine go_get (v := .int (iI (s1.I 24))) rfl (Z4.1 0 (by decide)) rfl rfl ?_
    refine go_i (m := 233) (as := [.ref a, .int (iI nm), .int (iI ((-1))), .ref (a + 1), .ref a3, .int (iI (s1.I 24))]) (r := [.ref a, .ref (c + 0)]) rfl rfl rfl rfl rfl (kf_initG z (d + 89) a (a + 1) a3 nm (-1) (s1.I 24) _ _ _ _ _ _ (by omega) ca) (fun v h4 hq => ?_)
    obtain ⟨rfl, e9⟩ := hq
    have eh : h4 = (h3 ++ [.inr (11, [.int (iI nm), .int (iI (-1)), .ref (a + 1), .ref a3, .int (iI (s1.I 24))])]) ++ [.inl (.int, xa_f (0 : Int).toNat (fun _ => 0))] := by rw [e9, ea]; simp
    clear e9
    have lb : (h3 ++ [(.inr (11, [.int (iI nm), .int (iI (-1)), .ref (a + 1), .ref a3, .int (iI (s1.I 24))]) : xx_E)]).length = a + 1 := by rw [List.length_append, ea]; rfl
    rw [lb] at A6 A7
    rw [← eh] at A4 A5 A6
    have X5 := kx_tr A2 A5
    have W4 := KWS_GF W3 A4 B1 C1 X5 GF_rf id
    have T4 := TM_kx T3 X5
    rw [← E1] at T4
    obtain ⟨ka, ga⟩ := A5.2.1 a (by rw [lb]; omega) (by rw [ea]; exact A3)
    have ca4 : h4[a]? = some (.inr (11, [.int (iI nm), .int (iI (-1)), .ref (a + 1), .ref a3, .int (iI (s1.I 24))])) := by rw [ga, ea]; simp
    have TH : TTH c h4 s1 (s1.I 8) a nm n f (s1.I 24) := ⟨a + 1, a3, fun _ => 0, ca4, ka, A6, A7, T4, ⟨n0, by omega⟩, by have := W3.2.1.2.1 24; have := X4.1; omega⟩
    show xx_go (xt_P z) (d + 90) 242 175 [some (.ref (c + 0)), some (.int (iI x)), some (.int (iI nm)), some (.ref a3), some (.ref y), some (.ref x5)] [.ref a, .ref (c + 0)] h4 _
    refine go_v (m := 234) (as := [.ref (c + 0), .ref a]) (r := []) rfl rfl rfl (A4.1 0 (by decide)) rfl rfl (kk_takeT z (d + 83) c a h4 s1 NM t k W4 lk nm n f TH (fun i i0 i1 => fr i i0 (by omega)) (by omega) vn FF (by rw [eN]; exact dv) (by rw [eN, E1, ← hW.2.2.2.2.2.2.2.2.2.2.2.2.2.1]; exact TF0)) (fun v h5 hq => ?_)
    obtain ⟨rfl, s5, NM5, W5, F5, X6, e24, e22, e23⟩ := hq
    show xx_go (xt_P z) (d + 90) 242 178 [some (.ref (c + 0)), some (.int (iI x)), some (.int (iI nm)), some (.ref a3), some (.ref y), some (.ref x5)] [] h5 _
    refine go_a (pc' := 179) (ls' := [some (.ref (c + 0)), some (.int (iI x)), some (.int (iI nm)), some (.ref a3), some (.ref y), some (.ref x5)]) (st' := [.int (iI 0)]) rfl rfl ?_
    exact go_r rfl rfl rfl rfl rfl rfl ⟨0, s5, NM5, _, rfl, by rw [ifc_pos al, e22, e23, i22, i23], W5, CFR_tr (GF_C F1) F5, kx_w (kx_tr (kx_tr X4 X5) X6) (by decide) (show (0 : Int) + 34 + (((5 : Nat) : Int) + 0) + 2 ≤ 50 by decide), by omega⟩
  · show xx_go (xt_P z) (d + 90) 242 138 [some (.ref (c + 0)), some (.int (iI x)), some (.int (iI nm)), some (.ref a3), some (.ref y), some (.ref x5)] [.int (iI 0)] h3 _
    refine mi_ne0 (t := 157) rfl rfl (by omega) (by omega) (fun q => absurd rfl q) (fun _ => ?_)
    refine go_a (pc' := 142) (ls' := [some (.ref (c + 0)), some (.int (iI x)), some (.int (iI nm)), some (.ref a3), some (.ref y), some (.ref x5)]) (st' := [.ref (c + 0)]) rfl rfl ?_
    refine go_a (pc' := 143) (ls' := [some (.ref (c + 0)), some (.int (iI x)), some (.int (iI nm)), some (.ref a3), some (.ref y), some (.ref x5)]) (st' := [.ref (c + 0), .ref (c + 0)]) rfl rfl ?_
    refine go_get (v := .ref (c + 25)) rfl (K3.1 0 (by decide)) rfl rfl ?_
    refine go_a (pc' := 148) (ls' := [some (.ref (c + 0)), some (.int (iI x)), some (.int (iI nm)), some (.ref a3), some (.ref y), some (.ref x5)]) (st' := [.ref y, .ref (c + 25), .ref (c + 0)]) rfl rfl ?_
    refine go_v (m := 297) (as := [.ref (c + 25), .ref y]) (r := [.ref (c + 0)]) rfl rfl rfl (K3.1 16 (by decide)) rfl rfl (kg_clist z (d + 82) c (s.I 8) y m4 w4 0 O4 n4 f4 h3 s1 K3 B1 ⟨C1, W3.2.2.2.2.2.2.2.2.2.2.2.1⟩ NM (BKS_BF W3.2.2.2.2.1 (by have := W3.2.2.2.2.2.2.2.2.1; omega) rfl) (by omega) (by omega) (by omega) E4) (fun v h6 hq => ?_)
    obtain ⟨r, s6, rfl, K6, B6, C6, X6, F6, l6, O6⟩ := hq
    have rR := OB_R B6 O6
    have hX := kx_rf (c := c) (hp := h6) (s := s6)
    show xx_go (xt_P z) (d + 90) 242 151 [some (.ref (c + 0)), some (.int (iI x)), some (.int (iI nm)), some (.ref a3), some (.ref y), some (.ref x5)] [.int (iI r), .ref (c + 0)] h6 _
    refine kput_25 (x := r) K6 hX rfl rfl (fun h7 hK hX => ?_)
    refine go_a (pc' := 156) (ls' := [some (.ref (c + 0)), some (.int (iI x)), some (.int (iI nm)), some (.ref a3), some (.ref y), some (.ref x5)]) (st' := [.int (iI 7)]) rfl rfl ?_
    have X9 := kx_tr (kx_tr X4 X6) hX
    have B9 : KB (s6.wI 25 r) := KB_wF B6 (by omega) (by omega) (by decide)
    have F9 := GF_tr (GF_tr F1 (PFR_G F6)) (SF_G (SF_wI (s := s6) (x := r) (j := 25) (by decide)))
    have W9 := KWS_k (KWS_GF hW hK B9 (KSA_CI (s := s6) ⟨rfl, rfl, rfl⟩ C6.1) X9 F9 (fun _ => KQ_e (s := s6) rfl rfl rfl rfl rfl C6.2)) (show k ≤ k + 1 by omega)
    have p6 := PFR_I F6
    have nal : ¬ ∀ t ∈ DD, t = FF := fun w => hw (sb.mpr (fun t ht => List.mem_singleton.mpr (w t ht)))
    have j22 : (s6.wI 25 r).I 22 = s6.I 22 := rfl
    have j23 : (s6.wI 25 r).I 23 = s6.I 23 := rfl
    have q24 := F9.2.2.1 24 (by decide)
    have q248 := hW.2.2.2.2.2.2.2.2.1
    exact go_r rfl rfl rfl rfl rfl rfl ⟨7, _, NM, t, rfl, by rw [ifc_neg nal, j22, j23, p6.1, p6.2, i22, i23], W9, GF_C F9, kx_w X9 (by decide) (by decide), by omega⟩
