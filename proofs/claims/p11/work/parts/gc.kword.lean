theorem kz_takeWord (z : Value) (d c : Nat) (hp : xx_H) (s : KS) (hK : KI c hp s) (hB : KB s) (hC : KX s) (lt : s.I 8 < 32768) (hO : OC hp) (hT : TXI s) (p0 : 0 ≤ s.I 9) (p1 : s.I 9 < s.I 0) : xx_cl (xt_P z) (d + 8) 184 [.ref (c + 9), .ref (c + 1)] hp (fun v h1 => ∃ (w a x : Int) (s1 : KS), v = some (.int (iI w)) ∧ KI c h1 (s1.wI 11 x) ∧ KB (s1.wI 11 x) ∧ KX s1 ∧ kx c hp s h1 (s1.wI 11 x) 0 0 ∧ KGR (s.wI 9 a) s1 1 ∧ (s.I 9 < a ∧ a ≤ s.I 0) ∧ (KHT s → KHT s1) ∧ a = sp_wd (s.A 0) (s.I 0) (s.I 9) ∧ ((w = 1 ∧ sp_wt (s.A 0) (s.I 0) (s.I 9) = none) ∨ (s.A 0 (s.I 9) ≠ 0 ∧ ((w = 2 ∧ sp_wt (s.A 0) (s.I 0) (s.I 9) = none) ∨ (w = 3 ∧ OB s1 x ∧ ¬ s1.N x < 0 ∧ sp_wt (s.A 0) (s.I 0) (s.I 9) = some (3, DK s1.N x)) ∨ ((w = 40 ∨ w = 41 ∨ w = 39 ∨ w = 46) ∧ s1 = s.wI 9 a ∧ sp_wt (s.A 0) (s.I 0) (s.I 9) = some (w, .num 0)))))) := by
  have b := hB.2.2.2.1 0 (by decide)
  have tb := hT (s.I 9) p0 p1
  have lr := LIX_R (s.A 0 (s.I 9))
  have hX : kx c hp s hp s 0 0 := kx_rf
  refine cl_go rfl ?_
  show xx_go (xt_P z) (d + 7) 184 0 [some (.ref (c + 9)), some (.ref (c + 1)), none] [] hp _
  refine go_a (pc' := 1) (ls' := [some (.ref (c + 9)), some (.ref (c + 1)), none]) (st' := [.ref (c + 1)]) rfl rfl ?_
  refine go_a (pc' := 2) (ls' := [some (.ref (c + 9)), some (.ref (c + 1)), none]) (st' := [.ref (c + 9), .ref (c + 1)]) rfl rfl ?_
  refine go_get (v := .int (iI (s.I 9))) rfl (hK.1 5 (by decide)) rfl rfl ?_
  refine go_v (m := 43) (as := [.ref (c + 1), .int (iI (s.I 9))]) (r := []) rfl rfl rfl (hK.1 1 (by decide)) rfl rfl (kr_at_0 z (d + 6) c (s.I 9) hp s hK hB (by omega) (by omega)) (fun v h1 hq => ?_)
  obtain ⟨hq, e⟩ := hq
  rw [e]
  clear e h1
  have hq : v = some (.int (iI (s.A 0 (s.I 9)))) := hq.elim (fun q => q.2.2) (fun q => absurd ⟨p0, p1⟩ q.1)
  subst hq
  show xx_go (xt_P z) (d + 7) 184 8 [some (.ref (c + 9)), some (.ref (c + 1)), none] [.int (iI (s.A 0 (s.I 9)))] hp _
  refine go_a (pc' := 9) (ls' := [some (.ref (c + 9)), some (.ref (c + 1)), some (.int (iI (s.A 0 (s.I 9))))]) (st' := []) rfl rfl ?_
  refine go_b (pc' := 11) (st' := [.ref 7]) (h' := hp) rfl rfl rfl ?_
  refine go_a (pc' := 12) (ls' := [some (.ref (c + 9)), some (.ref (c + 1)), some (.int (iI (s.A 0 (s.I 9))))]) (st' := [.int (iI (s.A 0 (s.I 9))), .ref 7]) rfl rfl ?_
  refine go_a (pc' := 13) (ls' := [some (.ref (c + 9)), some (.ref (c + 1)), some (.int (iI (s.A 0 (s.I 9))))]) (st' := [.int (iI (s.A 0 (s.I 9))), .ref 7]) rfl (by show some (_, _, Value.int ((iI (s.A 0 (s.I 9))).toUInt32 % 65536).toInt32 :: _) = _; rw [i2c_id tb.1 (by omega)]) ?_
  refine go_v (m := 17) (as := [.ref 7, .int (iI (s.A 0 (s.I 9)))]) (r := []) rfl rfl rfl hO.1 rfl rfl (kt_indexOf z (d + 3) (s.A 0 (s.I 9)) hp hO tb.1 tb.2) (fun v h1 hq => ?_)
  obtain ⟨rfl, e⟩ := hq
  rw [e]
  clear e h1
  show xx_go (xt_P z) (d + 7) 184 16 [some (.ref (c + 9)), some (.ref (c + 1)), some (.int (iI (s.A 0 (s.I 9))))] [.int (iI (LIX (s.A 0 (s.I 9))))] hp _
  refine mi_lt0 (t := 25) rfl rfl (by omega) (by omega) (fun q => ?_) (fun q => ?_)
  · have ea : s.I 9 + 1 = sp_wd (s.A 0) (s.I 0) (s.I 9) := by
      unfold sp_wd
      rw [if_neg (by omega)]
    refine go_a (pc' := 26) (ls' := [some (.ref (c + 9)), some (.ref (c + 1)), some (.int (iI (s.A 0 (s.I 9))))]) (st' := [.ref (c + 9)]) rfl rfl ?_
    refine go_a (pc' := 27) (ls' := [some (.ref (c + 9)), some (.ref (c + 1)), some (.int (iI (s.A 0 (s.I 9))))]) (st' := [.ref (c + 9), .ref (c + 9)]) rfl rfl ?_
    refine go_get (v := .int (iI (s.I 9))) rfl (hK.1 5 (by decide)) rfl rfl ?_
    refine go_a (pc' := 31) (ls' := [some (.ref (c + 9)), some (.ref (c + 1)), some (.int (iI (s.A 0 (s.I 9))))]) (st' := [.int (iI 1), .int (iI (s.I 9)), .ref (c + 9)]) rfl rfl ?_
    refine mi_add rfl ?_
    refine kput_9 (x := (s.I 9) + 1) hK hX rfl rfl (fun hp1 hK hX => ?_)
    have C1 : KX (s.wI 9 (s.I 9 + 1)) := KX_e hC rfl rfl rfl rfl rfl
    have B1 : KB (s.wI 9 (s.I 9 + 1)) := KB_wF hB (by omega) (by omega) (by decide)
    have yes : (s.A 0 (s.I 9) = 40 ∨ s.A 0 (s.I 9) = 41 ∨ s.A 0 (s.I 9) = 39 ∨ s.A 0 (s.I 9) = 46) → xx_go (xt_P z) (d + 7) 184 59 [some (.ref (c + 9)), some (.ref (c + 1)), some (.int (iI (s.A 0 (s.I 9))))] [] hp1 (fun v h1 => ∃ (w a x : Int) (s1 : KS), v = some (.int (iI w)) ∧ KI c h1 (s1.wI 11 x) ∧ KB (s1.wI 11 x) ∧ KX s1 ∧ kx c hp s h1 (s1.wI 11 x) 0 0 ∧ KGR (s.wI 9 a) s1 1 ∧ (s.I 9 < a ∧ a ≤ s.I 0) ∧ (KHT s → KHT s1) ∧ a = sp_wd (s.A 0) (s.I 0) (s.I 9) ∧ ((w = 1 ∧ sp_wt (s.A 0) (s.I 0) (s.I 9) = none) ∨ (s.A 0 (s.I 9) ≠ 0 ∧ ((w = 2 ∧ sp_wt (s.A 0) (s.I 0) (s.I 9) = none) ∨ (w = 3 ∧ OB s1 x ∧ ¬ s1.N x < 0 ∧ sp_wt (s.A 0) (s.I 0) (s.I 9) = some (3, DK s1.N x)) ∨ ((w = 40 ∨ w = 41 ∨ w = 39 ∨ w = 46) ∧ s1 = s.wI 9 a ∧ sp_wt (s.A 0) (s.I 0) (s.I 9) = some (w, .num 0)))))) := by
      intro ht2
      have ew : sp_wt (s.A 0) (s.I 0) (s.I 9) = some (s.A 0 (s.I 9), .num 0) := by
        unfold sp_wt
        rw [if_neg (by omega), if_pos (by omega)]
      refine go_a (pc' := 60) (ls' := [some (.ref (c + 9)), some (.ref (c + 1)), some (.int (iI (s.A 0 (s.I 9))))]) (st' := [.int (iI (s.A 0 (s.I 9)))]) rfl rfl ?_
      refine go_a (pc' := 64) (ls' := [some (.ref (c + 9)), some (.ref (c + 1)), some (.int (iI (s.A 0 (s.I 9))))]) (st' := [.int (iI (s.A 0 (s.I 9)))]) rfl rfl ?_
      exact go_r rfl rfl rfl rfl rfl rfl ⟨s.A 0 (s.I 9), s.I 9 + 1, (s.wI 9 (s.I 9 + 1)).I 11, s.wI 9 (s.I 9 + 1), rfl, by rw [wI_eta rfl]; exact hK, by rw [wI_eta rfl]; exact B1, C1, by rw [wI_eta rfl]; exact hX, KGR_w KGR_rf (by decide), ⟨by omega, by omega⟩, id, ea, Or.inr ⟨by omega, Or.inr (Or.inr ⟨ht2, rfl, ew⟩)⟩⟩
    refine go_a (pc' := 36) (ls' := [some (.ref (c + 9)), some (.ref (c + 1)), some (.int (iI (s.A 0 (s.I 9))))]) (st' := [.int (iI (s.A 0 (s.I 9)))]) rfl rfl ?_
    refine go_a (pc' := 38) (ls' := [some (.ref (c + 9)), some (.ref (c + 1)), some (.int (iI (s.A 0 (s.I 9))))]) (st' := [.int (iI 40), .int (iI (s.A 0 (s.I 9)))]) rfl rfl ?_
    refine mi_eq (t := 59) rfl rfl (by omega) (by omega) (by omega) (by omega) (fun q => yes (by omega)) (fun n1 => ?_)
    refine go_a (pc' := 42) (ls' := [some (.ref (c + 9)), some (.ref (c + 1)), some (.int (iI (s.A 0 (s.I 9))))]) (st' := [.int (iI (s.A 0 (s.I 9)))]) rfl rfl ?_
    refine go_a (pc' := 44) (ls' := [some (.ref (c + 9)), some (.ref (c + 1)), some (.int (iI (s.A 0 (s.I 9))))]) (st' := [.int (iI 41), .int (iI (s.A 0 (s.I 9)))]) rfl rfl ?_
    refine mi_eq (t := 59) rfl rfl (by omega) (by omega) (by omega) (by omega) (fun q => yes (by omega)) (fun n2 => ?_)
    refine go_a (pc' := 48) (ls' := [some (.ref (c + 9)), some (.ref (c + 1)), some (.int (iI (s.A 0 (s.I 9))))]) (st' := [.int (iI (s.A 0 (s.I 9)))]) rfl rfl ?_
    refine go_a (pc' := 50) (ls' := [some (.ref (c + 9)), some (.ref (c + 1)), some (.int (iI (s.A 0 (s.I 9))))]) (st' := [.int (iI 39), .int (iI (s.A 0 (s.I 9)))]) rfl rfl ?_
    refine mi_eq (t := 59) rfl rfl (by omega) (by omega) (by omega) (by omega) (fun q => yes (by omega)) (fun n3 => ?_)
    refine go_a (pc' := 54) (ls' := [some (.ref (c + 9)), some (.ref (c + 1)), some (.int (iI (s.A 0 (s.I 9))))]) (st' := [.int (iI (s.A 0 (s.I 9)))]) rfl rfl ?_
    refine go_a (pc' := 56) (ls' := [some (.ref (c + 9)), some (.ref (c + 1)), some (.int (iI (s.A 0 (s.I 9))))]) (st' := [.int (iI 46), .int (iI (s.A 0 (s.I 9)))]) rfl rfl ?_
    refine mi_ne (t := 63) rfl rfl (by omega) (by omega) (by omega) (by omega) (fun n4 => ?_) (fun q => yes (by omega))
    have ew : sp_wt (s.A 0) (s.I 0) (s.I 9) = none := by
      unfold sp_wt
      rw [if_neg (by omega), if_neg (by omega)]
    refine go_a (pc' := 64) (ls' := [some (.ref (c + 9)), some (.ref (c + 1)), some (.int (iI (s.A 0 (s.I 9))))]) (st' := [.int (iI 1)]) rfl rfl ?_
    exact go_r rfl rfl rfl rfl rfl rfl ⟨1, s.I 9 + 1, (s.wI 9 (s.I 9 + 1)).I 11, s.wI 9 (s.I 9 + 1), rfl, by rw [wI_eta rfl]; exact hK, by rw [wI_eta rfl]; exact B1, C1, by rw [wI_eta rfl]; exact hX, KGR_w KGR_rf (by decide), ⟨by omega, by omega⟩, id, ea, Or.inl ⟨rfl, ew⟩⟩
  · have nz : s.A 0 (s.I 9) ≠ 0 := fun w => by rw [w, LIX_0] at q; exact q (by decide)
    refine go_a (pc' := 20) (ls' := [some (.ref (c + 9)), some (.ref (c + 1)), some (.int (iI (s.A 0 (s.I 9))))]) (st' := [.ref (c + 9)]) rfl rfl ?_
    refine go_a (pc' := 21) (ls' := [some (.ref (c + 9)), some (.ref (c + 1)), some (.int (iI (s.A 0 (s.I 9))))]) (st' := [.ref (c + 1), .ref (c + 9)]) rfl rfl ?_
    refine go_v (m := 185) (as := [.ref (c + 9), .ref (c + 1)]) (r := []) rfl rfl rfl (hK.1 5 (by decide)) rfl rfl (kz_takeAtom z d c hp s hK hB hC lt hO hT p0 p1 (by omega)) (fun v h1 hq => ?_)
    obtain ⟨w, a, x, s1, rfl, K1, B1, D1, X1, G1, O1, H1, A1, N1⟩ := hq
    show xx_go (xt_P z) (d + 7) 184 24 [some (.ref (c + 9)), some (.ref (c + 1)), some (.int (iI (s.A 0 (s.I 9))))] [.int (iI w)] h1 _
    have ea : a = sp_wd (s.A 0) (s.I 0) (s.I 9) := by
      unfold sp_wd
      rw [if_pos (by omega)]
      exact A1
    have ew : sp_wt (s.A 0) (s.I 0) (s.I 9) = (sp_at (s.A 0) (s.I 9) (a - s.I 9).toNat).map (fun t => (3, t)) := by
      unfold sp_wt
      rw [if_pos (by omega), ← A1]
    refine go_r rfl rfl rfl rfl rfl rfl ⟨w, a, x, s1, rfl, K1, B1, D1, X1, G1, O1, H1, ea, Or.inr ⟨nz, ?_⟩⟩
    rcases N1 with ⟨n1, n2⟩ | ⟨n1, n2, n3, n4⟩
    · exact Or.inl ⟨n1, by rw [ew, n2]; rfl⟩
    · exact Or.inr (Or.inl ⟨n1, n2, n3, by rw [ew, n4]; rfl⟩)
theorem kz_open (z : Value) (d c : Nat) (x u : Int) (hp : xx_H) (s : KS) (hK : KI c hp s) (hB : KB s) (hu : u ≤ 30000) (hJ : RJ u (ow x) (oq x) s) (x0 : 2 ≤ x) (x1 : x ≤ 3) (lt : s.I 1 ≤ 40) (ht : tps s ≠ 1 ∧ tps s ≠ 6) (F : sp_F) (eX : KX s) (eM : KNM s) (e21 : s.I 2 = s.I 1) (rr : RRc s F (s.I 1) (s.I 3)) (wf : WFr F) (fn : F ≠ []) : xx_cl (xt_P z) (d + 3) 190 [.ref (c + 9), .int (iI x)] hp (fun v h1 => v = none ∧ ∃ s1 : KS, KI c h1 s1 ∧ KB s1 ∧ kx c hp s h1 s1 0 0 ∧ RFF s s1 ∧ RI u s1 ∧ KX s1 ∧ KNM s1 ∧ (KHT s → KHT s1) ∧ s1.I 2 = s1.I 1 ∧ RRc s1 ((x, []) :: F) (s1.I 1) (s1.I 3) ∧ WFr ((x, []) :: F)) := by
  have rb := RJ_b hJ (oq_R x).1 (ow_R x).1 hu
  have j1 := hJ.2.1.1
  have j3 := hJ.2.1.2.1
  refine cl_go rfl ?_
  show xx_go (xt_P z) (d + 2) 190 0 [some (.ref (c + 9)), some (.int (iI x))] [] hp _
  refine go_a (pc' := 1) (ls' := [some (.ref (c + 9)), some (.int (iI x))]) (st' := [.ref (c + 9)]) rfl rfl ?_
  refine go_get (v := .ref (c + 10)) rfl (hK.1 5 (by decide)) rfl rfl ?_
  refine go_a (pc' := 5) (ls' := [some (.ref (c + 9)), some (.int (iI x))]) (st' := [.int (iI x), .ref (c + 10)]) rfl rfl ?_
  refine go_v (m := 35) (as := [.ref (c + 10), .int (iI x)]) (r := []) rfl rfl rfl (hK.1 6 (by decide)) rfl rfl (kr_add_1 z d c x hp s hK hB (by omega) (by omega) (by omega)) (fun v h1 hq => ?_)
  obtain ⟨rfl, t1, K1, B1, X1, W1, I1, C1, E1, O1⟩ := hq
  show xx_go (xt_P z) (d + 2) 190 8 [some (.ref (c + 9)), some (.int (iI x))] [] h1 _
  have i3 : t1.I 3 = s.I 3 := by rw [I1]; rfl
  have i2 : t1.I 2 = s.I 2 := by rw [I1]; rfl
  have i31 := hJ.2.1.2.1
  refine go_a (pc' := 9) (ls' := [some (.ref (c + 9)), some (.int (iI x))]) (st' := [.ref (c + 9)]) rfl rfl ?_
  refine go_get (v := .ref (c + 12)) rfl (K1.1 5 (by decide)) rfl rfl ?_
  refine go_a (pc' := 13) (ls' := [some (.ref (c + 9)), some (.int (iI x))]) (st' := [.ref (c + 9), .ref (c + 12)]) rfl rfl ?_
  refine go_get (v := .ref (c + 14)) rfl (K1.1 5 (by decide)) rfl rfl ?_
  refine go_v (m := 34) (as := [.ref (c + 14)]) (r := [.ref (c + 12)]) rfl rfl rfl (K1.1 8 (by decide)) rfl rfl (kr_length_3 z (d + 1) c h1 t1 K1) (fun v h2 hq => ?_)
  obtain ⟨rfl, e⟩ := hq
  rw [e]
  clear e h2
  show xx_go (xt_P z) (d + 2) 190 19 [some (.ref (c + 9)), some (.int (iI x))] [.int (iI (t1.I 3)), .ref (c + 12)] h1 _
  refine go_v (m := 35) (as := [.ref (c + 12), .int (iI (t1.I 3))]) (r := []) rfl rfl rfl (K1.1 7 (by decide)) rfl rfl (kr_add_2 z d c (t1.I 3) h1 t1 K1 B1 (by omega) (by omega) (by omega)) (fun v h2 hq => ?_)
  obtain ⟨rfl, t2, K2, B2, X2, W2, I2, C2, E2, O2⟩ := hq
  show xx_go (xt_P z) (d + 2) 190 22 [some (.ref (c + 9)), some (.int (iI x))] [] h2 _
  have SA : KSA s t2 := KSA_tr (KRW_SA W1 (by decide) (by rw [I1]; rfl)) (KRW_SA W2 (by decide) (by rw [I2]; rfl))
  have ii : ∀ j : Nat, j ≠ 1 → j ≠ 2 → t2.I j = s.I j := fun j p q => by rw [I2, su_ne q, I1, su_ne p]
  have e1 : t2.I 1 = s.I 1 + 1 := by rw [I2]; show t1.I 1 = _; rw [I1]; rfl
  have e2 : t2.I 2 = s.I 2 + 1 := by rw [I2]; show t1.I 2 + 1 = _; rw [i2]
  have a1 : t2.A 1 = t1.A 1 := (W2.2.2.1 1 (by decide)).1
  have a3 : t2.A 3 = s.A 3 := ((W2.2.2.1 3 (by decide)).1).trans (W1.2.2.1 3 (by decide)).1
  have a2 : ∀ k : Int, k < s.I 2 → t2.A 2 k = s.A 2 k := fun k q => by rw [O2 k (by omega), (W1.2.2.1 2 (by decide)).1]
  have nn : t2.N = s.N := SA.1
  have R2 : RRc t2 ((x, []) :: F) (t2.I 1) (t2.I 3) := by
    rw [e1, ii 3 (by decide) (by decide)]
    refine ⟨by omega, by rw [show s.I 1 + 1 - 1 = s.I 1 by omega, a1]; exact E1, ?_, ⟨?_, trivial⟩, ?_⟩
    · rw [show s.I 1 + 1 - 1 = t1.I 2 by omega, E2, i3]
      show s.I 3 = s.I 3 - ((0 : Nat) : Int)
      omega
    · show 0 ≤ s.I 3 - ((0 : Nat) : Int)
      omega
    · rw [show s.I 3 - ((([] : List ob_T).length : Nat) : Int) = s.I 3 by show s.I 3 - ((0 : Nat) : Int) = s.I 3; omega, show s.I 1 + 1 - 1 = s.I 1 by omega]
      exact RRc_ext F _ _ (fun k k0 k1 => ⟨by rw [a1]; exact O1 k k1, a2 k (by omega)⟩) (fun k _ _ => ⟨by rw [a3], by rw [nn]⟩) rr
  have H2 : KHT s → KHT t2 := fun q => by
    unfold KHT at q ⊢
    rw [nn, SA.2.1, SA.2.2]
    exact q
  have sg : ∀ f : Int → Int, SG f (t1.A 1) (s.I 1 + 1).toNat = SG f (s.A 1) (s.I 1).toNat + f x := fun f => by
    rw [SG_pop (by omega), show s.I 1 + 1 - 1 = s.I 1 by omega, E1, SG_congr (g1 := f) (f1 := s.A 1) (s.I 1).toNat (fun q hq => by rw [O1 q (by omega)])]
  have s1 := sg ow
  have s2 := sg oq
  refine go_r rfl rfl rfl rfl rfl rfl ⟨rfl, t2, K2, B2, kx_tr X1 X2, RFF_tr (RFF_row W1 (by decide) I1) (RFF_row W2 (by decide) I2), ?_, KX_row (KX_row eX W1 (by decide) I1) W2 (by decide) I2, by unfold KNM; rw [nn]; exact eM, H2, by omega, R2, ⟨⟨fun _ => rfl, fun _ => rfl, fun q => absurd q (by omega), fun q => absurd q (by omega), fun q => absurd q (by omega), fun q => absurd q fn, fun q => absurd q (by omega), fun q => absurd q (by omega)⟩, wf⟩⟩
  obtain ⟨h1, h2, h3, h4, h5, h6, h7, h8⟩ := hJ
  unfold RI RJ
  rw [e1, e2, ii 3 (by decide) (by decide), ii 8 (by decide) (by decide), ii 10 (by decide) (by decide), a1, a3, SD_N SA.1]
  refine ⟨KSA_CI SA h1, ⟨by omega, h2.2⟩, fun k k0 k1 => KSA_OB SA (h3 k k0 k1), fun k k0 k1 => ?_, fun k k0 k1 => ?_, fun k k0 k1 => ?_, by omega, by omega⟩
  · by_cases q : k = s.I 1
    · rw [q, E1]
      omega
    · rw [O1 k (by omega)]
      exact h4 k k0 (by omega)
  · rw [O1 k (by omega)]
    by_cases q : k = s.I 1 - 1
    · have tp := tps_pos (s := s) (by omega)
      rw [q, ← tp]
      exact ht
    · exact h5 k k0 (by omega)
  · by_cases q : k = s.I 2
    · rw [q, ← i2, E2]
      omega
    · rw [a2 k (by omega)]
      exact h6 k k0 (by omega)
