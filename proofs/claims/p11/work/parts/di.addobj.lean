section RJT
variable {s t t1 : KS} {u e g w x : Int}
theorem RJ_item (h : RJ u e g t) (hw : OB t w) (W : KRW 3 t t1) (Ie : t1.I = su t.I 3 (t.I 3 + 1)) (Xe : t1.A 3 (t.I 3) = w) (Oe : ∀ k : Int, k < t.I 3 → t1.A 3 k = t.A 3 k) : RJ u (e - WD (SD t) w) (g - 1) t1 := by
  obtain ⟨h1, h2, h3, h4, h5, h6, h7, h8⟩ := h
  have SA : KSA t t1 := KRW_SA W (by decide) (by rw [Ie]; rfl)
  have i3 : t1.I 3 = t.I 3 + 1 := by rw [Ie]; rfl
  have ij : ∀ j : Nat, j ≠ 3 → t1.I j = t.I j := fun j q => by rw [Ie]; exact su_ne q
  have sd : SD t1 = SD t := SD_N SA.1
  have sg : SG (WD (SD t)) (t1.A 3) (t.I 3 + 1).toNat = SG (WD (SD t)) (t.A 3) (t.I 3).toNat + WD (SD t) w := by
    rw [SG_pop (by omega), show t.I 3 + 1 - 1 = t.I 3 by omega, Xe, SG_congr (g1 := WD (SD t)) (f1 := t.A 3) (t.I 3).toNat (fun q hq => by rw [Oe q (by omega)])]
  unfold RJ
  rw [ij 1 (by decide), ij 2 (by decide), ij 10 (by decide), ij 8 (by decide), (W.2.2.1 1 (by decide)).1, (W.2.2.1 2 (by decide)).1, sd, i3]
  refine ⟨KSA_CI SA h1, ⟨h2.1, by omega, h2.2.2⟩, fun k k0 k1 => ?_, h4, h5, h6, by rw [sg]; omega, by omega⟩
  by_cases q : k = t.I 3
  · rw [q, Xe]
    exact KSA_OB SA hw
  · rw [Oe k (by omega)]
    exact KSA_OB SA (h3 k k0 (by omega))
theorem RJ_top (h : RJ u e g t) (x0 : 0 ≤ x) (x1 : x ≤ 6) (W : KRW 1 t t1) (Ie : t1.I = su t.I 1 (if 0 < t.I 1 then t.I 1 else 1)) (Xe : t1.A 1 ((if 0 < t.I 1 then t.I 1 else 1) - 1) = x) (Oe : ∀ k : Int, k < (if 0 < t.I 1 then t.I 1 else 1) - 1 → t1.A 1 k = t.A 1 k) : RJ u (e + ow (tps t) - ow x) (g + oq (tps t) - oq x) t1 := by
  obtain ⟨h1, h2, h3, h4, h5, h6, h7, h8⟩ := h
  have SA : KSA t t1 := KRW_SA W (by decide) (by rw [Ie]; rfl)
  have ij : ∀ j : Nat, j ≠ 1 → t1.I j = t.I j := fun j q => by rw [Ie]; exact su_ne q
  have sd : SD t1 = SD t := SD_N SA.1
  have i1 : t1.I 1 = if 0 < t.I 1 then t.I 1 else 1 := by rw [Ie]; rfl
  have mx : (0 < t.I 1 ∧ (if 0 < t.I 1 then t.I 1 else 1) = t.I 1 ∧ tps t = t.A 1 (t.I 1 - 1)) ∨ (t.I 1 = 0 ∧ (if 0 < t.I 1 then t.I 1 else 1) = 1 ∧ tps t = 0) := by
    by_cases p : 0 < t.I 1
    · exact Or.inl ⟨p, if_pos p, tps_pos p⟩
    · exact Or.inr ⟨by omega, if_neg p, if_neg p⟩
  generalize (if 0 < t.I 1 then t.I 1 else 1) = m at Ie Xe Oe i1 mx
  have m1 : 1 ≤ m := by omega
  have sg : ∀ f : Int → Int, f 0 = 0 → SG f (t1.A 1) m.toNat + f (tps t) = SG f (t.A 1) (t.I 1).toNat + f x := fun f f0 => by
    rw [SG_pop (by omega), Xe, SG_congr (g1 := f) (f1 := t.A 1) (m - 1).toNat (fun q hq => by rw [Oe q (by omega)])]
    rcases mx with ⟨p, p2, p3⟩ | ⟨p, p2, p3⟩
    · rw [p2, p3, SG_pop (g := f) (f := t.A 1) p]
      omega
    · rw [p2, p3, p, f0]
      show (0 : Int) + f x + 0 = 0 + f x
      omega
  have s1 := sg ow rfl
  have s2 := sg oq rfl
  unfold RJ
  rw [ij 2 (by decide), ij 3 (by decide), ij 10 (by decide), ij 8 (by decide), (W.2.2.1 2 (by decide)).1, (W.2.2.1 3 (by decide)).1, sd, i1]
  refine ⟨KSA_CI SA h1, ⟨by omega, h2.2⟩, fun k k0 k1 => KSA_OB SA (h3 k k0 k1), fun k k0 k1 => ?_, fun k k0 k1 => ?_, h6, by omega, by omega⟩
  · by_cases q : k = m - 1
    · rw [q, Xe]
      exact ⟨x0, x1⟩
    · rw [Oe k (by omega)]
      exact h4 k k0 (by omega)
  · rw [Oe k (by omega)]
    exact h5 k k0 (by omega)
theorem ow4 {x : Int} (h : x = 2 ∨ x = 3 ∨ x = 4) : 0 ≤ 0 + ow x - ow 4 ∧ 0 ≤ 0 + oq x - oq 4 := by
  rcases h with h | h | h <;> rw [h] <;> decide
theorem tps_R (h : RJ u e g t) : 0 ≤ tps t ∧ tps t ≤ 6 := by
  unfold tps
  by_cases p : 0 < t.I 1
  · rw [if_pos p]
    exact h.2.2.2.1 _ (by omega) (by omega)
  · rw [if_neg p]
    decide
end RJT
theorem kd_addObject (z : Value) (d c : Nat) (o u : Int) (hp : xx_H) (s : KS) (hK : KI c hp s) (hB : KB s) (hu : u ≤ 30000) (hJ : RJ u (WD (SD s) o) 1 s) (ho : OB s o) (ht : tps s ≠ 1 ∧ tps s ≠ 6) : xx_cl (xt_P z) (d + 4) 196 [.ref (c + 9), .int (iI o)] hp (fun v h1 => v = none ∧ ∃ s1 : KS, KI c h1 s1 ∧ KB s1 ∧ kx c hp s h1 s1 0 0 ∧ RFF s s1 ∧ RI u s1) := by
  refine cl_go rfl ?_
  show xx_go (xt_P z) (d + 3) 196 0 [some (.ref (c + 9)), some (.int (iI o)), none, none] [] hp _
  refine go_a (pc' := 1) (ls' := [some (.ref (c + 9)), some (.int (iI o)), none, none]) (st' := [.int (iI o)]) rfl rfl ?_
  refine go_a (pc' := 2) (ls' := [some (.ref (c + 9)), some (.int (iI o)), some (.int (iI o)), none]) (st' := []) rfl rfl ?_
  refine go_a (pc' := 3) (ls' := [some (.ref (c + 9)), some (.int (iI o)), some (.int (iI o)), none]) (st' := [.int (iI 0)]) rfl rfl ?_
  refine go_a (pc' := 4) (ls' := [some (.ref (c + 9)), some (.int (iI o)), some (.int (iI o)), some (.int (iI 0))]) (st' := []) rfl rfl ?_
  refine kd_addq z d c o u hp s hu _ (fun w n t hp1 hK hB hX hF hJ hw ht => ?_) _ o 0 s hp (Nat.le_refl _) (by decide) (by decide) hK hB kx_rf RFF_rf hJ ho ht
  have rb := RJ_b hJ (by decide) (by have := WD_1c hJ.1 hw; omega) hu
  have ww := OB_R hB hw
  refine go_a (pc' := 62) (ls' := [some (.ref (c + 9)), some (.int (iI o)), some (.int (iI w)), some (.int (iI n))]) (st' := [.ref (c + 9)]) rfl rfl ?_
  refine go_get (v := .ref (c + 14)) rfl (hK.1 5 (by decide)) rfl rfl ?_
  refine go_a (pc' := 66) (ls' := [some (.ref (c + 9)), some (.int (iI o)), some (.int (iI w)), some (.int (iI n))]) (st' := [.int (iI w), .ref (c + 14)]) rfl rfl ?_
  refine go_v (m := 35) (as := [.ref (c + 14), .int (iI w)]) (r := []) rfl rfl rfl (hK.1 8 (by decide)) rfl rfl (kr_add_3 z (d + 1) c w hp1 t hK hB (by omega) ww.1 ww.2) (fun v h1 hq => ?_)
  obtain ⟨rfl, t1, K1, B1, X1, W1, I1, C1, E1, O1⟩ := hq
  have J1 := RJ_item hJ hw W1 I1 E1 O1
  have J1 : RJ u 0 0 t1 := RJ_w J1 (by omega) (by decide)
  have F1 := RFF_tr hF (RFF_row W1 (by decide) I1)
  have hX1 := kx_tr hX X1
  have tp : tps t1 = tps t := by
    unfold tps
    rw [I1, (W1.2.2.1 1 (by decide)).1]
    rfl
  have tr := tps_R J1
  rw [← tp] at ht
  show xx_go (xt_P z) (d + 3) 196 69 [some (.ref (c + 9)), some (.int (iI o)), some (.int (iI w)), some (.int (iI n))] [] h1 _
  have b := B1.2.2.2.1 1 (by decide)
  refine go_a (pc' := 70) (ls' := [some (.ref (c + 9)), some (.int (iI o)), some (.int (iI w)), some (.int (iI n))]) (st' := [.ref (c + 9)]) rfl rfl ?_
  refine go_get (v := .ref (c + 10)) rfl (K1.1 5 (by decide)) rfl rfl ?_
  refine go_v (m := 44) (as := [.ref (c + 10)]) (r := []) rfl rfl rfl (K1.1 6 (by decide)) rfl rfl (kr_last_1 z (d + 2) c h1 t1 K1 B1) (fun v h2 hq => ?_)
  obtain ⟨hq, e⟩ := hq
  rw [e]
  clear e h2
  have hq : v = some (.int (iI (tps t1))) := by
    unfold tps
    rcases hq with ⟨q1, q2⟩ | ⟨q1, q2⟩
    · rw [if_pos q1]
      exact q2
    · rw [if_neg (by omega)]
      exact q2
  subst hq
  show xx_go (xt_P z) (d + 3) 196 76 [some (.ref (c + 9)), some (.int (iI o)), some (.int (iI w)), some (.int (iI n))] [.int (iI (tps t1))] h1 _
  have j1 := J1.2.1.1
  by_cases ca : tps t1 = 0
  · refine mi_lk (q := 28) (t := 104) rfl (by omega) (by omega) (by rw [ca]; rfl) rfl ?_
    refine go_a (pc' := 105) (ls' := [some (.ref (c + 9)), some (.int (iI o)), some (.int (iI w)), some (.int (iI n))]) (st' := [.ref (c + 9)]) rfl rfl ?_
    refine go_a (pc' := 106) (ls' := [some (.ref (c + 9)), some (.int (iI o)), some (.int (iI w)), some (.int (iI n))]) (st' := [.int (iI 1), .ref (c + 9)]) rfl rfl ?_
    refine go_v (m := 191) (as := [.ref (c + 9), .int (iI 1)]) (r := []) rfl rfl rfl (K1.1 5 (by decide)) rfl rfl (kd_become z d c 1 h1 t1 K1 B1 (by omega) (by decide) (by decide)) (fun v h2 hq => ?_)
    obtain ⟨rfl, t2, K2, B2, X2, W2, I2, E2, O2⟩ := hq
    have J2 := RJ_top J1 (by decide) (by decide) W2 I2 E2 O2
    show xx_go (xt_P z) (d + 3) 196 109 [some (.ref (c + 9)), some (.int (iI o)), some (.int (iI w)), some (.int (iI n))] [] h2 _
    refine go_a (pc' := 126) (ls' := [some (.ref (c + 9)), some (.int (iI o)), some (.int (iI w)), some (.int (iI n))]) (st' := []) rfl rfl ?_
    have J3 : RJ u 0 0 t2 := RJ_w J2 (by rw [ca]; decide) (by rw [ca]; decide)
    exact go_r rfl rfl rfl rfl rfl rfl ⟨rfl, t2, K2, B2, kx_tr hX1 X2, RFF_tr F1 (RFF_row W2 (by decide) I2), J3⟩
  by_cases cb : tps t1 = 5
  · refine mi_lk (q := 36) (t := 112) rfl (by omega) (by omega) (by rw [cb]; rfl) rfl ?_
    refine go_a (pc' := 113) (ls' := [some (.ref (c + 9)), some (.int (iI o)), some (.int (iI w)), some (.int (iI n))]) (st' := [.ref (c + 9)]) rfl rfl ?_
    refine go_a (pc' := 115) (ls' := [some (.ref (c + 9)), some (.int (iI o)), some (.int (iI w)), some (.int (iI n))]) (st' := [.int (iI 6), .ref (c + 9)]) rfl rfl ?_
    refine go_v (m := 191) (as := [.ref (c + 9), .int (iI 6)]) (r := []) rfl rfl rfl (K1.1 5 (by decide)) rfl rfl (kd_become z d c 6 h1 t1 K1 B1 (by omega) (by decide) (by decide)) (fun v h2 hq => ?_)
    obtain ⟨rfl, t2, K2, B2, X2, W2, I2, E2, O2⟩ := hq
    have J2 := RJ_top J1 (by decide) (by decide) W2 I2 E2 O2
    show xx_go (xt_P z) (d + 3) 196 118 [some (.ref (c + 9)), some (.int (iI o)), some (.int (iI w)), some (.int (iI n))] [] h2 _
    refine go_a (pc' := 126) (ls' := [some (.ref (c + 9)), some (.int (iI o)), some (.int (iI w)), some (.int (iI n))]) (st' := []) rfl rfl ?_
    have J3 : RJ u 0 0 t2 := RJ_w J2 (by rw [cb]; decide) (by rw [cb]; decide)
    exact go_r rfl rfl rfl rfl rfl rfl ⟨rfl, t2, K2, B2, kx_tr hX1 X2, RFF_tr F1 (RFF_row W2 (by decide) I2), J3⟩
  refine mi_lk (q := 45) (t := 121) rfl (by omega) (by omega) (by show (if (0 : Int) = tps t1 then (28 : Int) else if (5 : Int) = tps t1 then 36 else 45) = 45; rw [if_neg (fun q => ca q.symm), if_neg (fun q => cb q.symm)]) rfl ?_
  refine go_a (pc' := 122) (ls' := [some (.ref (c + 9)), some (.int (iI o)), some (.int (iI w)), some (.int (iI n))]) (st' := [.ref (c + 9)]) rfl rfl ?_
  refine go_a (pc' := 123) (ls' := [some (.ref (c + 9)), some (.int (iI o)), some (.int (iI w)), some (.int (iI n))]) (st' := [.int (iI 4), .ref (c + 9)]) rfl rfl ?_
  refine go_v (m := 191) (as := [.ref (c + 9), .int (iI 4)]) (r := []) rfl rfl rfl (K1.1 5 (by decide)) rfl rfl (kd_become z d c 4 h1 t1 K1 B1 (by omega) (by decide) (by decide)) (fun v h2 hq => ?_)
  obtain ⟨rfl, t2, K2, B2, X2, W2, I2, E2, O2⟩ := hq
  have J2 := RJ_top J1 (by decide) (by decide) W2 I2 E2 O2
  show xx_go (xt_P z) (d + 3) 196 126 [some (.ref (c + 9)), some (.int (iI o)), some (.int (iI w)), some (.int (iI n))] [] h2 _
  have J3 : RJ u 0 0 t2 := RJ_w J2 (ow4 (by omega)).1 (ow4 (by omega)).2
  exact go_r rfl rfl rfl rfl rfl rfl ⟨rfl, t2, K2, B2, kx_tr hX1 X2, RFF_tr F1 (RFF_row W2 (by decide) I2), J3⟩
theorem kd_open (z : Value) (d c : Nat) (x u : Int) (hp : xx_H) (s : KS) (hK : KI c hp s) (hB : KB s) (hu : u ≤ 30000) (hJ : RJ u (ow x) (oq x) s) (x0 : 2 ≤ x) (x1 : x ≤ 3) (lt : s.I 1 ≤ 40) (ht : tps s ≠ 1 ∧ tps s ≠ 6) : xx_cl (xt_P z) (d + 3) 190 [.ref (c + 9), .int (iI x)] hp (fun v h1 => v = none ∧ ∃ s1 : KS, KI c h1 s1 ∧ KB s1 ∧ kx c hp s h1 s1 0 0 ∧ RFF s s1 ∧ RI u s1) := by
  have rb := RJ_b hJ (oq_R x).1 (ow_R x).1 hu
  have j1 := hJ.2.1.1
  refine cl_go rfl ?_
  show xx_go (xt_P z) (d + 2) 190 0 [some (.ref (c + 9)), some (.int (iI x))] [] hp _
  refine go_a (pc' := 1) (ls' := [some (.ref (c + 9)), some (.int (iI x))]) (st' := [.ref (c + 9)]) rfl rfl ?_
  refine go_get (v := .ref (c + 10)) rfl (hK.1 5 (by decide)) rfl rfl ?_
  refine go_a (pc' := 5) (ls' := [some (.ref (c + 9)), some (.int (iI x))]) (st' := [.int (iI x), .ref (c + 10)]) rfl rfl ?_
  refine go_v (m := 35) (as := [.ref (c + 10), .int (iI x)]) (r := []) rfl rfl rfl (hK.1 6 (by decide)) rfl rfl (kr_add_1 z d c x hp s hK hB (by omega) (by omega) (by omega)) (fun v h1 hq => ?_)
  obtain ⟨rfl, t1, K1, B1, X1, W1, I1, C1, E1, O1⟩ := hq
  show xx_go (xt_P z) (d + 2) 190 8 [some (.ref (c + 9)), some (.int (iI x))] [] h1 _
  have i3 : t1.I 3 = s.I 3 := by rw [I1]; rfl
  have i2 : t1.I 2 = s.I 2 := by rw [I1]; rfl
  have i31 := hJ.2.1.2.1
  refine go_a (pc' := 9) (ls' := [some (.ref (c + 9)), some (.int (iI x))]) (st' := [.ref (c + 9)]) rfl rfl ?_
  refine go_get (v := .ref (c + 12)) rfl (K1.1 5 (by decide)) rfl rfl ?_
  refine go_a (pc' := 13) (ls' := [some (.ref (c + 9)), some (.int (iI x))]) (st' := [.ref (c + 9), .ref (c + 12)]) rfl rfl ?_
  refine go_get (v := .ref (c + 14)) rfl (K1.1 5 (by decide)) rfl rfl ?_
  refine go_v (m := 34) (as := [.ref (c + 14)]) (r := [.ref (c + 12)]) rfl rfl rfl (K1.1 8 (by decide)) rfl rfl (kr_length_3 z (d + 1) c h1 t1 K1) (fun v h2 hq => ?_)
  obtain ⟨rfl, e⟩ := hq
  rw [e]
  clear e h2
  show xx_go (xt_P z) (d + 2) 190 19 [some (.ref (c + 9)), some (.int (iI x))] [.int (iI (t1.I 3)), .ref (c + 12)] h1 _
  refine go_v (m := 35) (as := [.ref (c + 12), .int (iI (t1.I 3))]) (r := []) rfl rfl rfl (K1.1 7 (by decide)) rfl rfl (kr_add_2 z d c (t1.I 3) h1 t1 K1 B1 (by omega) (by omega) (by omega)) (fun v h2 hq => ?_)
  obtain ⟨rfl, t2, K2, B2, X2, W2, I2, C2, E2, O2⟩ := hq
  show xx_go (xt_P z) (d + 2) 190 22 [some (.ref (c + 9)), some (.int (iI x))] [] h2 _
  refine go_r rfl rfl rfl rfl rfl rfl ⟨rfl, t2, K2, B2, kx_tr X1 X2, RFF_tr (RFF_row W1 (by decide) I1) (RFF_row W2 (by decide) I2), ?_⟩
  obtain ⟨h1, h2, h3, h4, h5, h6, h7, h8⟩ := hJ
  have SA : KSA s t2 := KSA_tr (KRW_SA W1 (by decide) (by rw [I1]; rfl)) (KRW_SA W2 (by decide) (by rw [I2]; rfl))
  have ii : ∀ j : Nat, j ≠ 1 → j ≠ 2 → t2.I j = s.I j := fun j p q => by rw [I2, su_ne q, I1, su_ne p]
  have e1 : t2.I 1 = s.I 1 + 1 := by rw [I2]; show t1.I 1 = _; rw [I1]; rfl
  have e2 : t2.I 2 = s.I 2 + 1 := by rw [I2]; show t1.I 2 + 1 = _; rw [i2]
  have a1 : t2.A 1 = t1.A 1 := (W2.2.2.1 1 (by decide)).1
  have a3 : t2.A 3 = s.A 3 := ((W2.2.2.1 3 (by decide)).1).trans (W1.2.2.1 3 (by decide)).1
  have a2 : ∀ k : Int, k < s.I 2 → t2.A 2 k = s.A 2 k := fun k q => by rw [O2 k (by omega), (W1.2.2.1 2 (by decide)).1]
  have sg : ∀ f : Int → Int, SG f (t1.A 1) (s.I 1 + 1).toNat = SG f (s.A 1) (s.I 1).toNat + f x := fun f => by
    rw [SG_pop (by omega), show s.I 1 + 1 - 1 = s.I 1 by omega, E1, SG_congr (g1 := f) (f1 := s.A 1) (s.I 1).toNat (fun q hq => by rw [O1 q (by omega)])]
  have s1 := sg ow
  have s2 := sg oq
  unfold RI RJ
  rw [e1, e2, ii 3 (by decide) (by decide), ii 8 (by decide) (by decide), ii 10 (by decide) (by decide), a1, a3, SD_N SA.1]
  refine ⟨KSA_CI SA h1, ⟨by omega, h2.2⟩, fun k k0 k1 => KSA_OB SA (h3 k k0 k1), fun k k0 k1 => ?_, fun k k0 k1 => ?_, fun k k0 k1 => ?_, by omega, by omega⟩
  · by_cases q : k = s.I 1
    · rw [q, E1]
      omega
    · rw [O1 k (by omega)]
      exact h4 k k0 (by omega)
  · rw [O1 k (by omega)]
    by_cases q : k = s.I 1 - 1
    · have tp := tps_pos (s := s) (by omega)
      rw [q, ← tp]
      exact ht
    · exact h5 k k0 (by omega)
  · by_cases q : k = s.I 2
    · rw [q, ← i2, E2]
      omega
    · rw [a2 k (by omega)]
      exact h6 k k0 (by omega)
