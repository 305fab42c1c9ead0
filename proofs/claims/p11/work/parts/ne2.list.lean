theorem kg_vlist_loop (z : Value) (d c q : Nat) (u m : Int) (g : Int → Int) (hp0 : xx_H) (s0 : KS) (lt : s0.I 8 < 30000) (hu : u ≤ s0.I 8) (m6 : m ≤ 6) (hA0 : KAL hp0 q m g) (kq0 : kn c s0 q) (hg : ∀ i : Int, 0 ≤ i → i < m → TVx u (g i)) : ∀ (j : Nat) (k l : Int) (hp : xx_H) (s : KS), (k + 1).toNat ≤ j → -1 ≤ k → k < m → KI c hp s → KB s → CX s → kx c hp0 s0 hp s 0 0 → PFR s0 s → s.I 8 ≤ s0.I 8 + (m - 1 - k) → OB s l → xx_go (xt_P z) (d + 4) 316 7 [some (.ref (c + 25)), some (.ref q), some (.int (iI l)), some (.int (iI k))] [] hp (fun v h1 => ∃ (y : Int) (s1 : KS), v = some (.int (iI y)) ∧ KI c h1 s1 ∧ KB s1 ∧ CX s1 ∧ kx c hp0 s0 h1 s1 0 0 ∧ PFR s0 s1 ∧ s1.I 8 ≤ s0.I 8 + m ∧ OB s1 y) := by
  intro j
  induction j with
  | zero =>
    intro k l hp s hj k0 k1 hK hB hC hX hP h8 hl
    refine go_a (pc' := 8) (ls' := [some (.ref (c + 25)), some (.ref q), some (.int (iI l)), some (.int (iI k))]) (st' := [.int (iI k)]) rfl rfl ?_
    refine mi_lt0 (t := 32) rfl rfl (by omega) (by omega) (fun _ => ?_) (fun w => absurd (show k < 0 by omega) w)
    refine go_a (pc' := 33) (ls' := [some (.ref (c + 25)), some (.ref q), some (.int (iI l)), some (.int (iI k))]) (st' := [.int (iI l)]) rfl rfl ?_
    exact go_r rfl rfl rfl rfl rfl rfl ⟨l, s, rfl, hK, hB, hC, hX, hP, by omega, hl⟩
  | succ j ih =>
    intro k l hp s hj k0 k1 hK hB hC hX hP h8 hl
    refine go_a (pc' := 8) (ls' := [some (.ref (c + 25)), some (.ref q), some (.int (iI l)), some (.int (iI k))]) (st' := [.int (iI k)]) rfl rfl ?_
    refine mi_lt0 (t := 32) rfl rfl (by omega) (by omega) (fun w1 => ?_) (fun w1 => ?_)
    · refine go_a (pc' := 33) (ls' := [some (.ref (c + 25)), some (.ref q), some (.int (iI l)), some (.int (iI k))]) (st' := [.int (iI l)]) rfl rfl ?_
      exact go_r rfl rfl rfl rfl rfl rfl ⟨l, s, rfl, hK, hB, hC, hX, hP, by omega, hl⟩
    · obtain ⟨hA, -⟩ := KAL_kx hA0 kq0 hX
      have V0 := hg k (by omega) (by omega)
      have V1 := V0.1
      have V2 := V0.2.1
      have V3 := V0.2.2.2
      have p8 := hP.2.2.2.1
      refine go_a (pc' := 12) (ls' := [some (.ref (c + 25)), some (.ref q), some (.int (iI l)), some (.int (iI k))]) (st' := [.ref (c + 25)]) rfl rfl ?_
      refine go_get (v := .ref (c + 4)) rfl (hK.1 16 (by decide)) rfl rfl ?_
      refine go_a (pc' := 16) (ls' := [some (.ref (c + 25)), some (.ref q), some (.int (iI l)), some (.int (iI k))]) (st' := [.ref q, .ref (c + 4)]) rfl rfl ?_
      refine go_a (pc' := 17) (ls' := [some (.ref (c + 25)), some (.ref q), some (.int (iI l)), some (.int (iI k))]) (st' := [.int (iI k), .ref q, .ref (c + 4)]) rfl rfl ?_
      refine mi_ild (n := (m).toNat) (f := g) rfl hA.1 (by omega) (by omega) (by omega) ?_
      refine go_s (m := 251) (as := [.int (iI (g k))]) (r := [.ref (c + 4)]) rfl rfl rfl rfl (kg_what z (d + 3) (g k) hp (by omega) V2) (fun v h3 hq => ?_)
      obtain ⟨rfl, e⟩ := hq
      rw [e]
      clear e h3
      show xx_go (xt_P z) (d + 4) 316 21 [some (.ref (c + 25)), some (.ref q), some (.int (iI l)), some (.int (iI k))] [.int (iI (g k / 32)), .ref (c + 4)] hp _
      refine go_a (pc' := 22) (ls' := [some (.ref (c + 25)), some (.ref q), some (.int (iI l)), some (.int (iI k))]) (st' := [.int (iI l), .int (iI (g k / 32)), .ref (c + 4)]) rfl rfl ?_
      have ow : OB s (g k / 32) := ⟨by omega, by omega⟩
      refine go_v (m := 194) (as := [.ref (c + 4), .int (iI (g k / 32)), .int (iI l)]) (r := []) rfl rfl rfl (hK.1 3 (by decide)) rfl rfl (kc_pairX z (d + 1) c (g k / 32) l hp s hK hB hC (by omega) ow.1 ow.2 hl.1 hl.2) (fun v h5 hq => ?_)
      obtain ⟨k5, s5, rfl, K5, B5, C5, X5, G5, O5, -⟩ := hq
      show xx_go (xt_P z) (d + 4) 316 25 [some (.ref (c + 25)), some (.ref q), some (.int (iI l)), some (.int (iI k))] [.int (iI k5)] h5 _
      have g5 := G5.2.2.1
      refine go_a (pc' := 26) (ls' := [some (.ref (c + 25)), some (.ref q), some (.int (iI k5)), some (.int (iI k))]) (st' := []) rfl rfl ?_
      refine go_a (pc' := 29) (ls' := [some (.ref (c + 25)), some (.ref q), some (.int (iI k5)), some (.int (iI (k + (-1))))]) (st' := []) rfl (by rw [← iI_add k (-1)]; rfl) ?_
      refine go_a (pc' := 7) (ls' := [some (.ref (c + 25)), some (.ref q), some (.int (iI k5)), some (.int (iI (k + (-1))))]) (st' := []) rfl rfl ?_
      exact ih (k + (-1)) k5 h5 s5 (by omega) (by omega) (by omega) K5 B5 C5 (kx_w (kx_tr hX X5) (by decide) (by decide)) (PFR_tr hP (KGR_P G5)) (by omega) O5
theorem kg_vlist (z : Value) (d c q : Nat) (u m : Int) (g : Int → Int) (hp : xx_H) (s : KS) (hK : KI c hp s) (hB : KB s) (hC : CX s) (lt : s.I 8 < 30000) (hu : u ≤ s.I 8) (m6 : m ≤ 6) (hA : KAL hp q m g) (kq : kn c s q) (hg : ∀ i : Int, 0 ≤ i → i < m → TVx u (g i)) : xx_cl (xt_P z) (d + 5) 316 [.ref (c + 25), .ref q] hp (fun v h1 => ∃ (y : Int) (s1 : KS), v = some (.int (iI y)) ∧ KI c h1 s1 ∧ KB s1 ∧ CX s1 ∧ kx c hp s h1 s1 0 0 ∧ PFR s s1 ∧ s1.I 8 ≤ s.I 8 + m ∧ OB s1 y) := by
  have b8 := hB.2.2.2.2.2.1
  have mb := hA.2.1
  refine cl_go rfl ?_
  show xx_go (xt_P z) (d + 4) 316 0 [some (.ref (c + 25)), some (.ref q), none, none] [] hp _
  refine go_a (pc' := 1) (ls' := [some (.ref (c + 25)), some (.ref q), none, none]) (st' := [.int (iI 0)]) rfl rfl ?_
  refine go_a (pc' := 2) (ls' := [some (.ref (c + 25)), some (.ref q), some (.int (iI 0)), none]) (st' := []) rfl rfl ?_
  refine go_a (pc' := 3) (ls' := [some (.ref (c + 25)), some (.ref q), some (.int (iI 0)), none]) (st' := [.ref q]) rfl rfl ?_
  refine mk_len (n := m) rfl hA.1 (xa_f_len _ _) (by omega) (by omega) ?_
  refine go_a (pc' := 5) (ls' := [some (.ref (c + 25)), some (.ref q), some (.int (iI 0)), none]) (st' := [.int (iI 1), .int (iI m)]) rfl rfl ?_
  refine mi_sub rfl ?_
  refine go_a (pc' := 7) (ls' := [some (.ref (c + 25)), some (.ref q), some (.int (iI 0)), some (.int (iI (m - 1)))]) (st' := []) rfl rfl ?_
  exact kg_vlist_loop z d c q u m g hp s lt hu m6 hA kq hg _ (m - 1) 0 hp s (Nat.le_refl _) (by omega) (by omega) hK hB hC kx_rf PFR_rf (by omega) ⟨by decide, by omega⟩
theorem sq_mono {g : Int → Int} : ∀ {m : Nat}, (∀ i : Int, 0 ≤ i → i < m → 0 ≤ g i) → ∀ {k : Nat}, k ≤ m → 0 ≤ sq g k ∧ sq g k ≤ sq g m
  | 0, _, k, hk => by
    rw [show k = 0 by omega]
    exact ⟨Int.le_refl _, Int.le_refl _⟩
  | m + 1, h, k, hk => by
    have ih2 := @sq_mono g m (fun i a b => h i a (by omega))
    have e : sq g (m + 1) = sq g m + g (m : Int) := rfl
    have gm := h (m : Int) (by omega) (by omega)
    by_cases c : k = m + 1
    · have := @ih2 m (Nat.le_refl _)
      rw [c]
      omega
    · have := @ih2 k (by omega)
      omega
theorem kg_clist_loop (z : Value) (d c : Nat) (u : Int) (NM : BKM) (x : Nat) (m w b : Int) (O : Int → Option Nat) (nO : Int → Int) (fO : Int → Int → Int) (hp0 : xx_H) (s0 : KS) (lt : s0.I 8 < 26000) (hu : u ≤ s0.I 8) (um : u ≤ 67108864) (hF0 : BF c hp0 s0 u NM) (hC0 : CLS c hp0 s0 u x m w b O nO fO) : ∀ (j : Nat) (k l : Int) (y4 : Option Value) (hp : xx_H) (s : KS), (k + 1).toNat ≤ j → -1 ≤ k → k < m → KI c hp s → KB s → CX s → kx c hp0 s0 hp s 0 0 → PFR s0 s → s.I 8 ≤ s0.I 8 + 8 * (w - sq nO (k + 1).toNat) + (m - 1 - k) → OB s l → xx_go (xt_P z) (d + 7) 297 9 [some (.ref (c + 25)), some (.ref x), some (.int (iI l)), some (.int (iI k)), y4] [] hp (fun v h1 => ∃ (y : Int) (s1 : KS), v = some (.int (iI y)) ∧ KI c h1 s1 ∧ KB s1 ∧ CX s1 ∧ kx c hp0 s0 h1 s1 0 0 ∧ PFR s0 s1 ∧ s1.I 8 ≤ s0.I 8 + 3230 ∧ OB s1 y) := by
  have mb := hC0.2.2.2.1
  have wb := hC0.2.2.2.2.1
  have sqm : ∀ k : Nat, k ≤ m.toNat → 0 ≤ sq nO k ∧ sq nO k ≤ sq nO m.toNat := fun k hk => sq_mono (fun i i0 i1 => by
    obtain ⟨a, -, T⟩ := hC0.2.2.2.2.2.2 i i0 (by omega)
    have := TM_n T
    omega) hk
  intro j
  induction j with
  | zero =>
    intro k l y4 hp s hj k0 k1 hK hB hC hX hP h8 hl
    refine go_a (pc' := 10) (ls' := [some (.ref (c + 25)), some (.ref x), some (.int (iI l)), some (.int (iI k)), y4]) (st' := [.int (iI k)]) rfl rfl ?_
    refine mi_lt0 (t := 46) rfl rfl (by omega) (by omega) (fun _ => ?_) (fun w => absurd (show k < 0 by omega) w)
    have q9 := sqm (k + 1).toNat (by omega)
    refine go_a (pc' := 47) (ls' := [some (.ref (c + 25)), some (.ref x), some (.int (iI l)), some (.int (iI k)), y4]) (st' := [.int (iI l)]) rfl rfl ?_
    exact go_r rfl rfl rfl rfl rfl rfl ⟨l, s, rfl, hK, hB, hC, hX, hP, by omega, hl⟩
  | succ j ih =>
    intro k l y4 hp s hj k0 k1 hK hB hC hX hP h8 hl
    refine go_a (pc' := 10) (ls' := [some (.ref (c + 25)), some (.ref x), some (.int (iI l)), some (.int (iI k)), y4]) (st' := [.int (iI k)]) rfl rfl ?_
    refine mi_lt0 (t := 46) rfl rfl (by omega) (by omega) (fun w1 => ?_) (fun w1 => ?_)
    · have q9 := sqm (k + 1).toNat (by omega)
      refine go_a (pc' := 47) (ls' := [some (.ref (c + 25)), some (.ref x), some (.int (iI l)), some (.int (iI k)), y4]) (st' := [.int (iI l)]) rfl rfl ?_
      exact go_r rfl rfl rfl rfl rfl rfl ⟨l, s, rfl, hK, hB, hC, hX, hP, by omega, hl⟩
    · have hS := CLS_kx hC0 hX
      have p8 := hP.2.2.2.1
      have q9 := sqm (k + 1).toNat (by omega)
      have q8 := sqm k.toNat (by omega)
      have eq9 : sq nO (k + 1).toNat = sq nO k.toNat + nO k := by
        rw [show (k + 1).toNat = k.toNat + 1 by omega]
        show sq nO k.toNat + nO (k.toNat : Int) = _
        rw [show ((k.toNat : Nat) : Int) = k by omega]
      refine go_a (pc' := 14) (ls' := [some (.ref (c + 25)), some (.ref x), some (.int (iI l)), some (.int (iI k)), y4]) (st' := [.ref x]) rfl rfl ?_
      refine go_a (pc' := 15) (ls' := [some (.ref (c + 25)), some (.ref x), some (.int (iI l)), some (.int (iI k)), y4]) (st' := [.int (iI k), .ref x]) rfl rfl ?_
      refine go_v (m := 263) (as := [.ref x, .int (iI k)]) (r := []) rfl rfl rfl hS.1 rfl rfl (kh_at z (d + 6) c k hp s u x m w b O nO fO hS (by omega) (by omega)) (fun v h3 hq => ?_)
      obtain ⟨hq, e⟩ := hq
      rw [e]
      clear e h3
      rcases hq with ⟨a, rfl, hk, ea, Ta⟩ | ⟨-, q⟩
      · show xx_go (xt_P z) (d + 7) 297 18 [some (.ref (c + 25)), some (.ref x), some (.int (iI l)), some (.int (iI k)), y4] [.ref a] hp _
        have na := TM_n Ta
        have hF := BF_kx hF0 hX (Int.le_refl _) (hP.2.2.1 27 (by decide) (by decide) (by decide) (by decide) (by decide) (by decide)) (by rw [hP.1])
        refine go_a (pc' := 20) (ls' := [some (.ref (c + 25)), some (.ref x), some (.int (iI l)), some (.int (iI k)), some (.ref a)]) (st' := []) rfl rfl ?_
        refine go_a (pc' := 22) (ls' := [some (.ref (c + 25)), some (.ref x), some (.int (iI l)), some (.int (iI k)), some (.ref a)]) (st' := [.ref a]) rfl rfl ?_
        refine go_a (pc' := 25) (ls' := [some (.ref (c + 25)), some (.ref x), some (.int (iI l)), some (.int (iI k)), some (.ref a)]) (st' := []) rfl rfl ?_
        refine go_a (pc' := 26) (ls' := [some (.ref (c + 25)), some (.ref x), some (.int (iI l)), some (.int (iI k)), some (.ref a)]) (st' := [.ref (c + 25)]) rfl rfl ?_
        refine go_get (v := .ref (c + 4)) rfl (hK.1 16 (by decide)) rfl rfl ?_
        refine go_a (pc' := 30) (ls' := [some (.ref (c + 25)), some (.ref x), some (.int (iI l)), some (.int (iI k)), some (.ref a)]) (st' := [.ref (c + 25), .ref (c + 4)]) rfl rfl ?_
        refine go_a (pc' := 32) (ls' := [some (.ref (c + 25)), some (.ref x), some (.int (iI l)), some (.int (iI k)), some (.ref a)]) (st' := [.ref a, .ref (c + 25), .ref (c + 4)]) rfl rfl ?_
        refine go_v (m := 298) (as := [.ref (c + 25), .ref a]) (r := [.ref (c + 4)]) rfl rfl rfl (hK.1 16 (by decide)) rfl rfl (kg_object z d c a (nO k) u (fO k) hp s hK hB hC NM hF um (by omega) (by omega) Ta) (fun v h3 hq => ?_)
        obtain ⟨y, s1, rfl, K1, B1, C1, X1, P1, g8, oy⟩ := hq
        show xx_go (xt_P z) (d + 7) 297 35 [some (.ref (c + 25)), some (.ref x), some (.int (iI l)), some (.int (iI k)), some (.ref a)] [.int (iI y), .ref (c + 4)] h3 _
        refine go_a (pc' := 36) (ls' := [some (.ref (c + 25)), some (.ref x), some (.int (iI l)), some (.int (iI k)), some (.ref a)]) (st' := [.int (iI l), .int (iI y), .ref (c + 4)]) rfl rfl ?_
        have ol := PFR_OB P1 hl
        refine go_v (m := 194) (as := [.ref (c + 4), .int (iI y), .int (iI l)]) (r := []) rfl rfl rfl (K1.1 3 (by decide)) rfl rfl (kc_pairX z (d + 4) c y l h3 s1 K1 B1 C1 (by omega) oy.1 oy.2 ol.1 ol.2) (fun v h5 hq => ?_)
        obtain ⟨k5, s5, rfl, K5, B5, C5, X5, G5, O5, -⟩ := hq
        show xx_go (xt_P z) (d + 7) 297 39 [some (.ref (c + 25)), some (.ref x), some (.int (iI l)), some (.int (iI k)), some (.ref a)] [.int (iI k5)] h5 _
        have g5 := G5.2.2.1
        refine go_a (pc' := 40) (ls' := [some (.ref (c + 25)), some (.ref x), some (.int (iI k5)), some (.int (iI k)), some (.ref a)]) (st' := []) rfl rfl ?_
        refine go_a (pc' := 43) (ls' := [some (.ref (c + 25)), some (.ref x), some (.int (iI k5)), some (.int (iI (k + (-1)))), some (.ref a)]) (st' := []) rfl (by rw [← iI_add k (-1)]; rfl) ?_
        refine go_a (pc' := 9) (ls' := [some (.ref (c + 25)), some (.ref x), some (.int (iI k5)), some (.int (iI (k + (-1)))), some (.ref a)]) (st' := []) rfl rfl ?_
        exact ih (k + (-1)) k5 _ h5 s5 (by omega) (by omega) (by omega) K5 B5 C5 (kx_w (kx_tr hX (kx_tr X1 X5)) (by decide) (by decide)) (PFR_tr hP (PFR_tr P1 (KGR_P G5))) (by rw [show (k + (-1) + 1).toNat = k.toNat by omega]; omega) O5
      · exact absurd (show 0 ≤ k ∧ k < m by omega) q
theorem kg_clist (z : Value) (d c : Nat) (u : Int) (x : Nat) (m w b : Int) (O : Int → Option Nat) (nO : Int → Int) (fO : Int → Int → Int) (hp : xx_H) (s : KS) (hK : KI c hp s) (hB : KB s) (hC : CX s) (NM : BKM) (hF : BF c hp s u NM) (um : u ≤ 67108864) (hu : u ≤ s.I 8) (lt : s.I 8 < 26000) (hS : CLS c hp s u x m w b O nO fO) : xx_cl (xt_P z) (d + 8) 297 [.ref (c + 25), .ref x] hp (fun v h1 => ∃ (y : Int) (s1 : KS), v = some (.int (iI y)) ∧ KI c h1 s1 ∧ KB s1 ∧ CX s1 ∧ kx c hp s h1 s1 0 0 ∧ PFR s s1 ∧ s1.I 8 ≤ s.I 8 + 3230 ∧ OB s1 y) := by
  have b8 := hB.2.2.2.2.2.1
  have mb := hS.2.2.2.1
  have wb := hS.2.2.2.2.1
  refine cl_go rfl ?_
  show xx_go (xt_P z) (d + 7) 297 0 [some (.ref (c + 25)), some (.ref x), none, none, none] [] hp _
  refine go_a (pc' := 1) (ls' := [some (.ref (c + 25)), some (.ref x), none, none, none]) (st' := [.int (iI 0)]) rfl rfl ?_
  refine go_a (pc' := 2) (ls' := [some (.ref (c + 25)), some (.ref x), some (.int (iI 0)), none, none]) (st' := []) rfl rfl ?_
  refine go_a (pc' := 3) (ls' := [some (.ref (c + 25)), some (.ref x), some (.int (iI 0)), none, none]) (st' := [.ref x]) rfl rfl ?_
  refine go_v (m := 280) (as := [.ref x]) (r := []) rfl rfl rfl hS.1 rfl rfl (kh_length z (d + 6) c hp s u x m w b O nO fO hS) (fun v h3 hq => ?_)
  obtain ⟨rfl, e⟩ := hq
  rw [e]
  clear e h3
  show xx_go (xt_P z) (d + 7) 297 6 [some (.ref (c + 25)), some (.ref x), some (.int (iI 0)), none, none] [.int (iI m)] hp _
  refine go_a (pc' := 7) (ls' := [some (.ref (c + 25)), some (.ref x), some (.int (iI 0)), none, none]) (st' := [.int (iI 1), .int (iI m)]) rfl rfl ?_
  refine mi_sub rfl ?_
  refine go_a (pc' := 9) (ls' := [some (.ref (c + 25)), some (.ref x), some (.int (iI 0)), some (.int (iI (m - 1))), none]) (st' := []) rfl rfl ?_
  exact kg_clist_loop z d c u NM x m w b O nO fO hp s lt hu um hF hS _ (m - 1) 0 _ hp s (Nat.le_refl _) (by omega) (by omega) hK hB hC kx_rf PFR_rf (by rw [show (m - 1 + 1).toNat = m.toNat by omega]; omega) ⟨by decide, by omega⟩
