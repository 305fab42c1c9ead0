def W5 (s : KS) : Prop := ∀ e : Int, 0 ≤ e → e < 5 → s.A 12 e = 0
def KXN (c : Nat) (hp0 : xx_H) (s0 : Int × Int) (hp : xx_H) (s : KS) (a b : Int) : Prop := c + 84 ≤ hp.length ∧ 20 * (hp.length : Int) - kt s ≤ s0.1 + 20 * a ∧ (xx_sz hp : Int) - 3 * kt s ≤ s0.2 + b ∧ ∀ p : Nat, p < 12 ∨ (c + 32 ≤ p ∧ p < c + 84) → kn c s p ∧ hp[p]? = hp0[p]?
theorem KXN_tr {c : Nat} {hp0 hp h1 : xx_H} {s0 : Int × Int} {s s1 : KS} {a b a1 b1 : Int} (N : KXN c hp0 s0 hp s a b) (X : kx c hp s h1 s1 a1 b1) : KXN c hp0 s0 h1 s1 (a + a1) (b + b1) := by
  obtain ⟨n1, n2, n3, n4⟩ := N
  obtain ⟨x1, x2, x3, x4⟩ := X
  refine ⟨by omega, by omega, by omega, fun p p0 => ?_⟩
  obtain ⟨k1, e1⟩ := n4 p p0
  obtain ⟨k2, e2⟩ := x2 p (by omega) k1
  exact ⟨k2, e2.trans e1⟩
theorem KXN_w {c : Nat} {hp0 hp : xx_H} {s0 : Int × Int} {s : KS} {a b a1 b1 : Int} (N : KXN c hp0 s0 hp s a b) (ha : a ≤ a1) (hb : b ≤ b1) : KXN c hp0 s0 hp s a1 b1 := ⟨N.1, by have := N.2.1; omega, by have := N.2.2.1; omega, N.2.2.2⟩
def KIC (c : Nat) (hp0 : xx_H) (s0 : Int × Int) (cc : Int) (hp : xx_H) (s : KS) (t : List sp_Th) : Prop := (∃ NM : BKM, KWS c hp s NM t cc) ∧ s.I 8 = s.I 24 ∧ (TXI s ∧ s.I 0 ≤ 3000) ∧ s.I 4 ≤ 2000 ∧ ∃ w α β : Int, (w = 0 ∧ W5 s ∨ w = 1) ∧ KXN c hp0 s0 hp s α β ∧ α + 100 * NZ (s.A 0) (s.I 0).toNat + 1000 * w ≤ 1000 * cc ∧ β + 700 * NZ (s.A 0) (s.I 0).toNat + 7000 * w ≤ 7000 * cc ∧ s.I 8 + 3 * NZ (s.A 0) (s.I 0).toNat + 30 * w ≤ 38 + 30 * cc
theorem DK_le {s : KS} {N1 : Int → Int} {u : Int} (hB : KB s) (hX : KX s) (hu : u ≤ s.I 8) (e : ∀ e : Int, e < u → N1 e = s.N e) : ∀ k : Int, 0 ≤ k → k < u → DK N1 k = DK s.N k := fun k k0 k1 => ob_D_ext (ob_W_le (KX_W hB hX) hu) (fun j _ j1 => ck_e (e j j1)) k0 k1
section EP
variable {c : Nat} {t : List sp_Th} {hp h1 hp0 : xx_H} {s s1 : KS} {s0 : Int × Int} {NM : BKM} {k a b cc : Int}
theorem KWS_fr (h : KWS c hp s NM t k) (K : KI c h1 s1) (B : KB s1) (C : CI s1) (X : kx c hp s h1 s1 a b) (eT : s1.T = s.T) (eC : ∀ j : Nat, 13 ≤ j → s1.C j = s.C j ∧ s1.P j = s.P j) (eI : ∀ j : Nat, j = 14 ∨ j = 15 ∨ j = 24 ∨ 26 ≤ j → s1.I j = s.I j) (l8 : s1.I 24 ≤ s1.I 8) (f20 : 1 ≤ s1.I 20 ∧ s1.I 20 ≤ 1000) (hQ : KQ s → KQ s1) (eN : ∀ e : Int, e < s.I 24 → s1.N e = s.N e) : KWS c h1 s1 NM t k := by
  obtain ⟨q1, q2, q3, q4, q5, q6, q7, q8, q9, q10, q11, q12⟩ := h
  have n24 := (BKS_nn q5).2.2.2
  have DD : ∀ k : Int, 0 ≤ k → k < s.I 24 → DK s1.N k = DK s.N k := DK_le q2 ⟨q3, q12.1.1⟩ q9 eN
  have i14 := eI 14 (by decide)
  have i15 := eI 15 (by decide)
  have i24 := eI 24 (by decide)
  have i26 := eI 26 (by decide)
  have i27 := eI 27 (by decide)
  have i28 := eI 28 (by decide)
  have i29 := eI 29 (by decide)
  have i30 := eI 30 (by decide)
  have i31 := eI 31 (by decide)
  refine ⟨K, B, C, OC_kx q4 X, ?_, by omega, ?_, ⟨by omega, by omega⟩, l8, by omega, f20, hQ q12.1, fun i hi => ?_, q12.2.2⟩
  · rw [i24, i27, i28]
    exact BKS_kx q5 X (Int.le_refl _) (fun _ _ _ => by rw [eT]) (fun _ _ _ => by rw [eT]) (fun _ _ _ => by rw [eT]) (fun _ _ _ => rfl) (fun _ _ _ => rfl) DD
  · have c13 := eC 13 (by decide)
    have c14 := eC 14 (by decide)
    have c15 := eC 15 (by decide)
    obtain ⟨m1, m2, m3, m4, m5, m6⟩ := q7
    exact ⟨by rw [c13.1, c13.2]; exact m1, by rw [c14.1, c14.2]; exact m2, by rw [c15.1, c15.2]; exact m3, by omega, by omega, by omega⟩
  · rw [eN (i : Int) (by omega)]
    exact q12.2.1 i hi
theorem KIC_b (h : KIC c hp0 s0 cc hp s t) (hc : cc ≤ 512) : s.I 8 ≤ 15400 ∧ 0 ≤ NZ (s.A 0) (s.I 0).toNat := by
  obtain ⟨-, -, -, -, w, α, β, hw, -, -, -, q⟩ := h
  have := NZ_nn (f := s.A 0) (s.I 0).toNat
  rcases hw with ⟨w0, -⟩ | w0 <;> omega
theorem KIC_1 (h : KIC c hp0 s0 cc hp s t) : KIC c hp0 s0 (cc + 1) hp s t := by
  obtain ⟨⟨NM, W⟩, q1, q2, q3, w, α, β, hw, X, p1, p2, p3⟩ := h
  exact ⟨⟨NM, KWS_k W (by omega)⟩, q1, q2, q3, w, α, β, hw, X, by omega, by omega, by omega⟩
end EP
def KSM (s s1 : KS) : Prop := s1.I 0 = s.I 0 ∧ (∀ e : Int, e < s.I 0 → s1.A 0 e = s.A 0 e) ∧ s1.I 22 = s.I 22 ∧ s1.I 23 = s.I 23
theorem KSM_rf {s : KS} : KSM s s := ⟨rfl, fun _ _ => rfl, rfl, rfl⟩
theorem kk_feed0 (z : Value) (d c : Nat) (x1 x2 x3 x4 x5 : Int) (hp : xx_H) (s : KS) (hK : KI c hp s) : xx_cl (xt_P z) (d + 1) 32 [.ref (c + 0), .int (iI x1), .int (iI x2), .int (iI x3), .int (iI x4), .int (iI x5)] hp (fun v h1 => v = none ∧ KI c h1 (((((s.wA 12 0 x1).wA 12 1 x2).wA 12 2 x3).wA 12 3 x4).wA 12 4 x5) ∧ kx c hp s h1 (((((s.wA 12 0 x1).wA 12 1 x2).wA 12 2 x3).wA 12 3 x4).wA 12 4 x5) 0 0) := by
  have hX := kx_rf (c := c) (hp := hp) (s := s)
  refine cl_go rfl ?_
  show xx_go (xt_P z) d 32 0 [some (.ref (c + 0)), some (.int (iI x1)), some (.int (iI x2)), some (.int (iI x3)), some (.int (iI x4)), some (.int (iI x5))] [] hp _
  refine go_a (pc' := 1) (ls' := [some (.ref (c + 0)), some (.int (iI x1)), some (.int (iI x2)), some (.int (iI x3)), some (.int (iI x4)), some (.int (iI x5))]) (st' := [.ref (c + 0)]) rfl rfl ?_
  refine go_get (v := .ref (c + 3)) rfl (hK.1 0 (by decide)) rfl rfl ?_
  refine go_a (pc' := 5) (ls' := [some (.ref (c + 0)), some (.int (iI x1)), some (.int (iI x2)), some (.int (iI x3)), some (.int (iI x4)), some (.int (iI x5))]) (st' := [.int (iI 0), .ref (c + 3)]) rfl rfl ?_
  refine go_a (pc' := 6) (ls' := [some (.ref (c + 0)), some (.int (iI x1)), some (.int (iI x2)), some (.int (iI x3)), some (.int (iI x4)), some (.int (iI x5))]) (st' := [.int (iI x1), .int (iI 0), .ref (c + 3)]) rfl rfl ?_
  refine kist_12 (s := s) (x := x1) (e := 0) hK hX rfl (by decide) (by decide) (fun hp1 hK hX => ?_)
  refine go_a (pc' := 8) (ls' := [some (.ref (c + 0)), some (.int (iI x1)), some (.int (iI x2)), some (.int (iI x3)), some (.int (iI x4)), some (.int (iI x5))]) (st' := [.ref (c + 0)]) rfl rfl ?_
  refine go_get (v := .ref (c + 3)) rfl (hK.1 0 (by decide)) rfl rfl ?_
  refine go_a (pc' := 12) (ls' := [some (.ref (c + 0)), some (.int (iI x1)), some (.int (iI x2)), some (.int (iI x3)), some (.int (iI x4)), some (.int (iI x5))]) (st' := [.int (iI 1), .ref (c + 3)]) rfl rfl ?_
  refine go_a (pc' := 13) (ls' := [some (.ref (c + 0)), some (.int (iI x1)), some (.int (iI x2)), some (.int (iI x3)), some (.int (iI x4)), some (.int (iI x5))]) (st' := [.int (iI x2), .int (iI 1), .ref (c + 3)]) rfl rfl ?_
  refine kist_12 (s := s.wA 12 0 x1) (x := x2) (e := 1) hK hX rfl (by decide) (by decide) (fun hp1 hK hX => ?_)
  refine go_a (pc' := 15) (ls' := [some (.ref (c + 0)), some (.int (iI x1)), some (.int (iI x2)), some (.int (iI x3)), some (.int (iI x4)), some (.int (iI x5))]) (st' := [.ref (c + 0)]) rfl rfl ?_
  refine go_get (v := .ref (c + 3)) rfl (hK.1 0 (by decide)) rfl rfl ?_
  refine go_a (pc' := 19) (ls' := [some (.ref (c + 0)), some (.int (iI x1)), some (.int (iI x2)), some (.int (iI x3)), some (.int (iI x4)), some (.int (iI x5))]) (st' := [.int (iI 2), .ref (c + 3)]) rfl rfl ?_
  refine go_a (pc' := 20) (ls' := [some (.ref (c + 0)), some (.int (iI x1)), some (.int (iI x2)), some (.int (iI x3)), some (.int (iI x4)), some (.int (iI x5))]) (st' := [.int (iI x3), .int (iI 2), .ref (c + 3)]) rfl rfl ?_
  refine kist_12 (s := (s.wA 12 0 x1).wA 12 1 x2) (x := x3) (e := 2) hK hX rfl (by decide) (by decide) (fun hp1 hK hX => ?_)
  refine go_a (pc' := 22) (ls' := [some (.ref (c + 0)), some (.int (iI x1)), some (.int (iI x2)), some (.int (iI x3)), some (.int (iI x4)), some (.int (iI x5))]) (st' := [.ref (c + 0)]) rfl rfl ?_
  refine go_get (v := .ref (c + 3)) rfl (hK.1 0 (by decide)) rfl rfl ?_
  refine go_a (pc' := 26) (ls' := [some (.ref (c + 0)), some (.int (iI x1)), some (.int (iI x2)), some (.int (iI x3)), some (.int (iI x4)), some (.int (iI x5))]) (st' := [.int (iI 3), .ref (c + 3)]) rfl rfl ?_
  refine go_a (pc' := 28) (ls' := [some (.ref (c + 0)), some (.int (iI x1)), some (.int (iI x2)), some (.int (iI x3)), some (.int (iI x4)), some (.int (iI x5))]) (st' := [.int (iI x4), .int (iI 3), .ref (c + 3)]) rfl rfl ?_
  refine kist_12 (s := ((s.wA 12 0 x1).wA 12 1 x2).wA 12 2 x3) (x := x4) (e := 3) hK hX rfl (by decide) (by decide) (fun hp1 hK hX => ?_)
  refine go_a (pc' := 30) (ls' := [some (.ref (c + 0)), some (.int (iI x1)), some (.int (iI x2)), some (.int (iI x3)), some (.int (iI x4)), some (.int (iI x5))]) (st' := [.ref (c + 0)]) rfl rfl ?_
  refine go_get (v := .ref (c + 3)) rfl (hK.1 0 (by decide)) rfl rfl ?_
  refine go_a (pc' := 34) (ls' := [some (.ref (c + 0)), some (.int (iI x1)), some (.int (iI x2)), some (.int (iI x3)), some (.int (iI x4)), some (.int (iI x5))]) (st' := [.int (iI 4), .ref (c + 3)]) rfl rfl ?_
  refine go_a (pc' := 36) (ls' := [some (.ref (c + 0)), some (.int (iI x1)), some (.int (iI x2)), some (.int (iI x3)), some (.int (iI x4)), some (.int (iI x5))]) (st' := [.int (iI x5), .int (iI 4), .ref (c + 3)]) rfl rfl ?_
  refine kist_12 (s := (((s.wA 12 0 x1).wA 12 1 x2).wA 12 2 x3).wA 12 3 x4) (x := x5) (e := 4) hK hX rfl (by decide) (by decide) (fun hp1 hK hX => ?_)
  exact go_r rfl rfl rfl rfl rfl rfl ⟨rfl, hK, hX⟩
theorem KB_5 {s : KS} {x1 x2 x3 x4 x5 : Int} (hB : KB s) (r1 : -2147483648 ≤ x1 ∧ x1 ≤ 2147483647) (r2 : -2147483648 ≤ x2 ∧ x2 ≤ 2147483647) (r3 : -2147483648 ≤ x3 ∧ x3 ≤ 2147483647) (r4 : -2147483648 ≤ x4 ∧ x4 ≤ 2147483647) (r5 : -2147483648 ≤ x5 ∧ x5 ≤ 2147483647) : KB (((((s.wA 12 0 x1).wA 12 1 x2).wA 12 2 x3).wA 12 3 x4).wA 12 4 x5) := KB_wA (KB_wA (KB_wA (KB_wA (KB_wA hB r1.1 r1.2) r2.1 r2.2) r3.1 r3.2) r4.1 r4.2) r5.1 r5.2
theorem kk_feed (z : Value) (d c : Nat) (cc x1 x2 x3 x4 x5 : Int) (hp0 : xx_H) (s0 : Int × Int) (hp : xx_H) (s : KS) (t : List sp_Th) (hI : KIC c hp0 s0 cc hp s t) (r1 : -2147483648 ≤ x1 ∧ x1 ≤ 2147483647) (r2 : -2147483648 ≤ x2 ∧ x2 ≤ 2147483647) (r3 : -2147483648 ≤ x3 ∧ x3 ≤ 2147483647) (r4 : -2147483648 ≤ x4 ∧ x4 ≤ 2147483647) (r5 : -2147483648 ≤ x5 ∧ x5 ≤ 2147483647) : xx_cl (xt_P z) (d + 1) 32 [.ref (c + 0), .int (iI x1), .int (iI x2), .int (iI x3), .int (iI x4), .int (iI x5)] hp (fun v h1 => v = none ∧ ∃ s1 : KS, KIC c hp0 s0 (cc + 1) h1 s1 t ∧ s1.I 20 = s.I 20 ∧ KSM s s1 ∧ (s1.A 12 0 = x1 ∧ s1.A 12 1 = x2 ∧ s1.A 12 2 = x3 ∧ s1.A 12 3 = x4 ∧ s1.A 12 4 = x5)) := by
  obtain ⟨⟨NM, W⟩, q1, q2, q3, w, α, β, hw, X, p1, p2, p3⟩ := hI
  have w01 : 0 ≤ w ∧ w ≤ 1 := by rcases hw with ⟨e, -⟩ | e <;> omega
  refine cl_w ?_ (kk_feed0 z d c x1 x2 x3 x4 x5 hp s W.1)
  rintro v h1 ⟨e, K1, X1⟩
  have A0 : (((((s.wA 12 0 x1).wA 12 1 x2).wA 12 2 x3).wA 12 3 x4).wA 12 4 x5).A 0 = s.A 0 := rfl
  refine ⟨e, (((((s.wA 12 0 x1).wA 12 1 x2).wA 12 2 x3).wA 12 3 x4).wA 12 4 x5), ⟨⟨NM, KWS_k (KWS_fr W K1 (KB_5 W.2.1 r1 r2 r3 r4 r5) (KSA_CI (s := s) ⟨rfl, rfl, rfl⟩ W.2.2.1) X1 rfl (fun _ _ => ⟨rfl, rfl⟩) (fun _ _ => rfl) W.2.2.2.2.2.2.2.2.1 W.2.2.2.2.2.2.2.2.2.2.1 (fun q => KQ_e (s := s) rfl rfl rfl rfl rfl q) (fun _ _ => rfl)) (by omega)⟩, q1, q2, q3, 1, α, β, Or.inr rfl, KXN_w (KXN_tr X X1) (by omega) (by omega), ?_, ?_, ?_⟩, rfl, ⟨rfl, fun _ _ => rfl, rfl, rfl⟩, ⟨rfl, rfl, rfl, rfl, rfl⟩⟩
  · show α + 100 * NZ (s.A 0) (s.I 0).toNat + 1000 * 1 ≤ _
    omega
  · show β + 700 * NZ (s.A 0) (s.I 0).toNat + 7000 * 1 ≤ _
    omega
  · show s.I 8 + 3 * NZ (s.A 0) (s.I 0).toNat + 30 * 1 ≤ _
    omega
def ENF (s s1 : KS) (k : Int) : Prop := (s1.N = s.N ∧ s1.T = s.T ∧ (∀ i : Nat, i ≠ 0 → s1.A i = s.A i ∧ s1.C i = s.C i ∧ s1.P i = s.P i) ∧ ∀ i : Nat, i ≠ 0 → s1.I i = s.I i) ∧ s1.I 0 = s.I 0 + k ∧ (∀ e : Int, e < s.I 0 → s1.A 0 e = s.A 0 e) ∧ ∀ e : Int, s.I 0 ≤ e → e < s.I 0 + k → (0 ≤ s1.A 0 e ∧ s1.A 0 e ≤ 255) ∧ (W5 s → s1.A 0 e = 0) ∧ s1.A 0 e = sp_by (s.A 12 ((e - s.I 0) / 4)) (e - s.I 0)
theorem ENF_add {s s1 s2 : KS} {k b : Int} (h : ENF s s1 k) (k0 : 0 ≤ k) (r : KRW 0 s1 s2) (e : s2.I = su s1.I 0 (s1.I 0 + 1)) (eb : s2.A 0 (s1.I 0) = b) (eo : ∀ e : Int, e < s1.I 0 → s2.A 0 e = s1.A 0 e) (hb : 0 ≤ b ∧ b ≤ 255) (hz : W5 s → b = 0) (hy : b = sp_by (s.A 12 (k / 4)) k) : ENF s s2 (k + 1) := by
  obtain ⟨⟨a1, a2, a3, a4⟩, a5, a6, a7⟩ := h
  refine ⟨⟨r.1.trans a1, r.2.1.trans a2, fun i hi => ⟨(r.2.2.1 i hi).1.trans (a3 i hi).1, (r.2.2.1 i hi).2.1.trans (a3 i hi).2.1, (r.2.2.1 i hi).2.2.trans (a3 i hi).2.2⟩, fun i hi => ?_⟩, ?_, fun e he => ?_, fun e e0 e1 => ?_⟩
  · rw [e, su_ne hi]
    exact a4 i hi
  · rw [e]
    show s1.I 0 + 1 = _
    omega
  · rw [eo e (by omega)]
    exact a6 e he
  · by_cases ce : e = s1.I 0
    · rw [ce, eb]
      exact ⟨hb, hz, by rw [a5, show s.I 0 + k - s.I 0 = k by omega]; exact hy⟩
    · rw [eo e (by omega)]
      exact a7 e e0 (by omega)
theorem kk_end_loop (z : Value) (d c : Nat) (n : Int) (hp : xx_H) (s : KS) (n1 : n ≤ 20) (l : s.I 0 + n ≤ 3000) : ∀ (j : Nat) (k : Int) (h0 : xx_H) (s1 : KS), (n - k).toNat ≤ j → 0 ≤ k → k ≤ n → KI c h0 s1 → KB s1 → kx c hp s h0 s1 0 0 → ENF s s1 k → xx_go (xt_P z) (d + 2) 33 29 [some (.ref (c + 0)), some (.int (iI n)), some (.int (iI k))] [] h0 (fun v h1 => v = some (.int (iI (s.I 0 + n))) ∧ ∃ s1 : KS, ENF s s1 n ∧ KB s1 ∧ KI c h1 (((((s1.wA 12 0 0).wA 12 1 0).wA 12 2 0).wA 12 3 0).wA 12 4 0) ∧ kx c hp s h1 (((((s1.wA 12 0 0).wA 12 1 0).wA 12 2 0).wA 12 3 0).wA 12 4 0) 0 0) := by
  intro j
  induction j with
  | zero =>
    intro k h0 s1 hj k0 k1 hK hB hX hE
    refine go_a (pc' := 30) (ls' := [some (.ref (c + 0)), some (.int (iI n)), some (.int (iI k))]) (st' := [.int (iI k)]) rfl rfl ?_
    refine go_a (pc' := 31) (ls' := [some (.ref (c + 0)), some (.int (iI n)), some (.int (iI k))]) (st' := [.int (iI n), .int (iI k)]) rfl rfl ?_
    refine mi_ge (t := 69) rfl rfl (by omega) (by omega) (by omega) (by omega) (fun w1 => ?_) (fun w1 => absurd (show k ≥ n by omega) w1)
    refine go_a (pc' := 70) (ls' := [some (.ref (c + 0)), some (.int (iI n)), some (.int (iI k))]) (st' := [.ref (c + 0)]) rfl rfl ?_
    refine go_a (pc' := 71) (ls' := [some (.ref (c + 0)), some (.int (iI n)), some (.int (iI k))]) (st' := [.int (iI 0), .ref (c + 0)]) rfl rfl ?_
    refine go_a (pc' := 72) (ls' := [some (.ref (c + 0)), some (.int (iI n)), some (.int (iI k))]) (st' := [.int (iI 0), .int (iI 0), .ref (c + 0)]) rfl rfl ?_
    refine go_a (pc' := 73) (ls' := [some (.ref (c + 0)), some (.int (iI n)), some (.int (iI k))]) (st' := [.int (iI 0), .int (iI 0), .int (iI 0), .ref (c + 0)]) rfl rfl ?_
    refine go_a (pc' := 74) (ls' := [some (.ref (c + 0)), some (.int (iI n)), some (.int (iI k))]) (st' := [.int (iI 0), .int (iI 0), .int (iI 0), .int (iI 0), .ref (c + 0)]) rfl rfl ?_
    refine go_a (pc' := 75) (ls' := [some (.ref (c + 0)), some (.int (iI n)), some (.int (iI k))]) (st' := [.int (iI 0), .int (iI 0), .int (iI 0), .int (iI 0), .int (iI 0), .ref (c + 0)]) rfl rfl ?_
    refine go_v (m := 32) (as := [.ref (c + 0), .int (iI 0), .int (iI 0), .int (iI 0), .int (iI 0), .int (iI 0)]) (r := []) rfl rfl rfl (hK.1 0 (by decide)) rfl rfl (kk_feed0 z (d + 1) c 0 0 0 0 0 h0 s1 hK) (fun v h5 hq => ?_)
    obtain ⟨rfl, K5, X5⟩ := hq
    show xx_go (xt_P z) (d + 2) 33 78 [some (.ref (c + 0)), some (.int (iI n)), some (.int (iI k))] [] h5 _
    refine go_a (pc' := 79) (ls' := [some (.ref (c + 0)), some (.int (iI n)), some (.int (iI k))]) (st' := [.ref (c + 0)]) rfl rfl ?_
    refine go_get (v := .ref (c + 1)) rfl (K5.1 0 (by decide)) rfl rfl ?_
    refine go_v (m := 34) (as := [.ref (c + 1)]) (r := []) rfl rfl rfl (K5.1 1 (by decide)) rfl rfl (kr_length_0 z (d + 1) c h5 (((((s1.wA 12 0 0).wA 12 1 0).wA 12 2 0).wA 12 3 0).wA 12 4 0) K5) (fun v h6 hq => ?_)
    obtain ⟨rfl, e9⟩ := hq
    rw [e9]
    clear e9 h6
    rw [show (((((s1.wA 12 0 0).wA 12 1 0).wA 12 2 0).wA 12 3 0).wA 12 4 0).I 0 = s.I 0 + n by show s1.I 0 = _; have := hE.2.1; omega]
    show xx_go (xt_P z) (d + 2) 33 85 [some (.ref (c + 0)), some (.int (iI n)), some (.int (iI k))] [.int (iI (s.I 0 + n))] h5 _
    have hE : ENF s s1 n := by rw [show n = k by omega]; exact hE
    exact go_r rfl rfl rfl rfl rfl rfl ⟨rfl, s1, hE, hB, K5, kx_w (kx_tr hX X5) (by decide) (by decide)⟩
  | succ j ih =>
    intro k h0 s1 hj k0 k1 hK hB hX hE
    refine go_a (pc' := 30) (ls' := [some (.ref (c + 0)), some (.int (iI n)), some (.int (iI k))]) (st' := [.int (iI k)]) rfl rfl ?_
    refine go_a (pc' := 31) (ls' := [some (.ref (c + 0)), some (.int (iI n)), some (.int (iI k))]) (st' := [.int (iI n), .int (iI k)]) rfl rfl ?_
    refine mi_ge (t := 69) rfl rfl (by omega) (by omega) (by omega) (by omega) (fun w1 => ?_) (fun w1 => ?_)
    · refine go_a (pc' := 70) (ls' := [some (.ref (c + 0)), some (.int (iI n)), some (.int (iI k))]) (st' := [.ref (c + 0)]) rfl rfl ?_
      refine go_a (pc' := 71) (ls' := [some (.ref (c + 0)), some (.int (iI n)), some (.int (iI k))]) (st' := [.int (iI 0), .ref (c + 0)]) rfl rfl ?_
      refine go_a (pc' := 72) (ls' := [some (.ref (c + 0)), some (.int (iI n)), some (.int (iI k))]) (st' := [.int (iI 0), .int (iI 0), .ref (c + 0)]) rfl rfl ?_
      refine go_a (pc' := 73) (ls' := [some (.ref (c + 0)), some (.int (iI n)), some (.int (iI k))]) (st' := [.int (iI 0), .int (iI 0), .int (iI 0), .ref (c + 0)]) rfl rfl ?_
      refine go_a (pc' := 74) (ls' := [some (.ref (c + 0)), some (.int (iI n)), some (.int (iI k))]) (st' := [.int (iI 0), .int (iI 0), .int (iI 0), .int (iI 0), .ref (c + 0)]) rfl rfl ?_
      refine go_a (pc' := 75) (ls' := [some (.ref (c + 0)), some (.int (iI n)), some (.int (iI k))]) (st' := [.int (iI 0), .int (iI 0), .int (iI 0), .int (iI 0), .int (iI 0), .ref (c + 0)]) rfl rfl ?_
      refine go_v (m := 32) (as := [.ref (c + 0), .int (iI 0), .int (iI 0), .int (iI 0), .int (iI 0), .int (iI 0)]) (r := []) rfl rfl rfl (hK.1 0 (by decide)) rfl rfl (kk_feed0 z (d + 1) c 0 0 0 0 0 h0 s1 hK) (fun v h5 hq => ?_)
      obtain ⟨rfl, K5, X5⟩ := hq
      show xx_go (xt_P z) (d + 2) 33 78 [some (.ref (c + 0)), some (.int (iI n)), some (.int (iI k))] [] h5 _
      refine go_a (pc' := 79) (ls' := [some (.ref (c + 0)), some (.int (iI n)), some (.int (iI k))]) (st' := [.ref (c + 0)]) rfl rfl ?_
      refine go_get (v := .ref (c + 1)) rfl (K5.1 0 (by decide)) rfl rfl ?_
      refine go_v (m := 34) (as := [.ref (c + 1)]) (r := []) rfl rfl rfl (K5.1 1 (by decide)) rfl rfl (kr_length_0 z (d + 1) c h5 (((((s1.wA 12 0 0).wA 12 1 0).wA 12 2 0).wA 12 3 0).wA 12 4 0) K5) (fun v h6 hq => ?_)
      obtain ⟨rfl, e9⟩ := hq
      rw [e9]
      clear e9 h6
      rw [show (((((s1.wA 12 0 0).wA 12 1 0).wA 12 2 0).wA 12 3 0).wA 12 4 0).I 0 = s.I 0 + n by show s1.I 0 = _; have := hE.2.1; omega]
      show xx_go (xt_P z) (d + 2) 33 85 [some (.ref (c + 0)), some (.int (iI n)), some (.int (iI k))] [.int (iI (s.I 0 + n))] h5 _
      have hE : ENF s s1 n := by rw [show n = k by omega]; exact hE
      exact go_r rfl rfl rfl rfl rfl rfl ⟨rfl, s1, hE, hB, K5, kx_w (kx_tr hX X5) (by decide) (by decide)⟩
    · have e0 := hE.2.1
      have c0 := hB.2.2.2.1 0 (by decide)
      refine go_a (pc' := 35) (ls' := [some (.ref (c + 0)), some (.int (iI n)), some (.int (iI k))]) (st' := [.ref (c + 0)]) rfl rfl ?_
      refine go_get (v := .ref (c + 1)) rfl (hK.1 0 (by decide)) rfl rfl ?_
      refine go_a (pc' := 39) (ls' := [some (.ref (c + 0)), some (.int (iI n)), some (.int (iI k))]) (st' := [.ref (c + 0), .ref (c + 1)]) rfl rfl ?_
      refine go_get (v := .ref (c + 3)) rfl (hK.1 0 (by decide)) rfl rfl ?_
      refine go_a (pc' := 43) (ls' := [some (.ref (c + 0)), some (.int (iI n)), some (.int (iI k))]) (st' := [.int (iI k), .ref (c + 3), .ref (c + 1)]) rfl rfl ?_
      refine go_a (pc' := 44) (ls' := [some (.ref (c + 0)), some (.int (iI n)), some (.int (iI k))]) (st' := [.int (iI 2), .int (iI k), .ref (c + 3), .ref (c + 1)]) rfl rfl ?_
      refine go_a (pc' := 45) (ls' := [some (.ref (c + 0)), some (.int (iI n)), some (.int (iI k))]) (st' := [.int (iI (k / 4)), .ref (c + 3), .ref (c + 1)]) rfl (by rw [← shr2 (x := k) (by omega) (by omega)]; rfl) ?_
      refine mi_ild (n := 5) (f := s1.A 12) rfl (hK.1 2 (by decide)) (by omega) (by omega) (by omega) ?_
      refine go_a (pc' := 48) (ls' := [some (.ref (c + 0)), some (.int (iI n)), some (.int (iI k))]) (st' := [.int (iI 24), .int (iI (s1.A 12 (k / 4))), .ref (c + 1)]) rfl rfl ?_
      refine go_a (pc' := 50) (ls' := [some (.ref (c + 0)), some (.int (iI n)), some (.int (iI k))]) (st' := [.int (iI 8), .int (iI 24), .int (iI (s1.A 12 (k / 4))), .ref (c + 1)]) rfl rfl ?_
      refine go_a (pc' := 51) (ls' := [some (.ref (c + 0)), some (.int (iI n)), some (.int (iI k))]) (st' := [.int (iI k), .int (iI 8), .int (iI 24), .int (iI (s1.A 12 (k / 4))), .ref (c + 1)]) rfl rfl ?_
      refine go_a (pc' := 52) (ls' := [some (.ref (c + 0)), some (.int (iI n)), some (.int (iI k))]) (st' := [.int (iI 3), .int (iI k), .int (iI 8), .int (iI 24), .int (iI (s1.A 12 (k / 4))), .ref (c + 1)]) rfl rfl ?_
      refine go_a (pc' := 53) (ls' := [some (.ref (c + 0)), some (.int (iI n)), some (.int (iI k))]) (st' := [.int (iI k &&& iI 3), .int (iI 8), .int (iI 24), .int (iI (s1.A 12 (k / 4))), .ref (c + 1)]) rfl rfl ?_
      refine go_a (pc' := 54) (ls' := [some (.ref (c + 0)), some (.int (iI n)), some (.int (iI k))]) (st' := [.int (iI 8 * (iI k &&& iI 3)), .int (iI 24), .int (iI (s1.A 12 (k / 4))), .ref (c + 1)]) rfl rfl ?_
      refine go_a (pc' := 55) (ls' := [some (.ref (c + 0)), some (.int (iI n)), some (.int (iI k))]) (st' := [.int (iI 24 - iI 8 * (iI k &&& iI 3)), .int (iI (s1.A 12 (k / 4))), .ref (c + 1)]) rfl rfl ?_
      refine go_a (pc' := 56) (ls' := [some (.ref (c + 0)), some (.int (iI n)), some (.int (iI k))]) (st' := [.int (((iI (s1.A 12 (k / 4))).toUInt32 >>> ((iI 24 - iI 8 * (iI k &&& iI 3)).toUInt32 &&& Int32.toUInt32 31)).toInt32), .ref (c + 1)]) rfl rfl ?_
      refine go_a (pc' := 59) (ls' := [some (.ref (c + 0)), some (.int (iI n)), some (.int (iI k))]) (st' := [.int (iI 255), .int (((iI (s1.A 12 (k / 4))).toUInt32 >>> ((iI 24 - iI 8 * (iI k &&& iI 3)).toUInt32 &&& Int32.toUInt32 31)).toInt32), .ref (c + 1)]) rfl rfl ?_
      refine go_a (pc' := 60) (ls' := [some (.ref (c + 0)), some (.int (iI n)), some (.int (iI k))]) (st' := [.int (((iI (s1.A 12 (k / 4))).toUInt32 >>> ((iI 24 - iI 8 * (iI k &&& iI 3)).toUInt32 &&& Int32.toUInt32 31)).toInt32 &&& iI 255), .ref (c + 1)]) rfl rfl ?_
      obtain ⟨b, eqb⟩ : ∃ b : Int, b = sp_by (s1.A 12 (k / 4)) k := ⟨_, rfl⟩
      have eb := byt (s1.A 12 (k / 4)) k k0 (by omega)
      rw [← eqb] at eb
      have b0 : 0 ≤ b ∧ b ≤ 255 := by rw [eqb]; exact sp_by_r _ _
      rw [eb]
      show xx_go (xt_P z) (d + 2) 33 60 [some (.ref (c + 0)), some (.int (iI n)), some (.int (iI k))] [.int (iI b), .ref (c + 1)] h0 _
      refine go_v (m := 35) (as := [.ref (c + 1), .int (iI b)]) (r := []) rfl rfl rfl (hK.1 1 (by decide)) rfl rfl (kr_add_0 z d c b h0 s1 hK hB (by omega) (by omega) (by omega)) (fun v h2 hq => ?_)
      obtain ⟨rfl, s2, K2, B2, X2, R2, e2, e3, e4, e5⟩ := hq
      show xx_go (xt_P z) (d + 2) 33 63 [some (.ref (c + 0)), some (.int (iI n)), some (.int (iI k))] [] h2 _
      refine go_a (pc' := 66) (ls' := [some (.ref (c + 0)), some (.int (iI n)), some (.int (iI (k + 1)))]) (st' := []) rfl (by rw [← iI_add k 1]; rfl) ?_
      refine go_a (pc' := 29) (ls' := [some (.ref (c + 0)), some (.int (iI n)), some (.int (iI (k + 1)))]) (st' := []) rfl rfl ?_
      have a12 : s1.A 12 = s.A 12 := (hE.1.2.2.1 12 (by decide)).1
      exact ih (k + 1) h2 s2 (by omega) (by omega) (by omega) K2 B2 (kx_w (kx_tr hX X2) (by decide) (by decide)) (ENF_add hE k0 R2 e2 e4 e5 b0 (fun q => by rw [eqb, a12, q _ (by omega) (by omega)]; exact sp_by_0 _) (by rw [eqb, a12]))
theorem kk_end0 (z : Value) (d c : Nat) (n : Int) (hp : xx_H) (s : KS) (hK : KI c hp s) (hB : KB s) (l : s.I 0 ≤ 3000) (n0 : -2147483648 ≤ n) (n1 : n ≤ 2147483647) : xx_cl (xt_P z) (d + 3) 33 [.ref (c + 0), .int (iI n)] hp (fun v h1 => (v = some (.int (iI (-1))) ∧ h1 = hp ∧ ¬ (0 ≤ n ∧ n ≤ 20 ∧ s.I 0 + n ≤ 3000)) ∨ ((0 ≤ n ∧ n ≤ 20 ∧ s.I 0 + n ≤ 3000) ∧ v = some (.int (iI (s.I 0 + n))) ∧ ∃ s1 : KS, ENF s s1 n ∧ KB s1 ∧ KI c h1 (((((s1.wA 12 0 0).wA 12 1 0).wA 12 2 0).wA 12 3 0).wA 12 4 0) ∧ kx c hp s h1 (((((s1.wA 12 0 0).wA 12 1 0).wA 12 2 0).wA 12 3 0).wA 12 4 0) 0 0)) := by
  have c0 := hB.2.2.2.1 0 (by decide)
  refine cl_go rfl ?_
  show xx_go (xt_P z) (d + 2) 33 0 [some (.ref (c + 0)), some (.int (iI n)), none] [] hp _
  refine go_a (pc' := 1) (ls' := [some (.ref (c + 0)), some (.int (iI n)), none]) (st' := [.int (iI n)]) rfl rfl ?_
  have no : ¬ (0 ≤ n ∧ n ≤ 20 ∧ s.I 0 + n ≤ 3000) → xx_go (xt_P z) (d + 2) 33 25 [some (.ref (c + 0)), some (.int (iI n)), none] [] hp (fun v h1 => (v = some (.int (iI (-1))) ∧ h1 = hp ∧ ¬ (0 ≤ n ∧ n ≤ 20 ∧ s.I 0 + n ≤ 3000)) ∨ ((0 ≤ n ∧ n ≤ 20 ∧ s.I 0 + n ≤ 3000) ∧ v = some (.int (iI (s.I 0 + n))) ∧ ∃ s1 : KS, ENF s s1 n ∧ KB s1 ∧ KI c h1 (((((s1.wA 12 0 0).wA 12 1 0).wA 12 2 0).wA 12 3 0).wA 12 4 0) ∧ kx c hp s h1 (((((s1.wA 12 0 0).wA 12 1 0).wA 12 2 0).wA 12 3 0).wA 12 4 0) 0 0)) := by
    intro hn
    refine go_a (pc' := 26) (ls' := [some (.ref (c + 0)), some (.int (iI n)), none]) (st' := [.int (iI ((-1)))]) rfl rfl ?_
    exact go_r rfl rfl rfl rfl rfl rfl (Or.inl ⟨rfl, rfl, hn⟩)
  refine mi_lt0 (t := 25) rfl rfl (by omega) (by omega) (fun w1 => no (by omega)) (fun w1 => ?_)
  refine go_a (pc' := 5) (ls' := [some (.ref (c + 0)), some (.int (iI n)), none]) (st' := [.int (iI n)]) rfl rfl ?_
  refine go_a (pc' := 7) (ls' := [some (.ref (c + 0)), some (.int (iI n)), none]) (st' := [.int (iI 20), .int (iI n)]) rfl rfl ?_
  refine mi_gt (t := 25) rfl rfl (by omega) (by omega) (by omega) (by omega) (fun w2 => no (by omega)) (fun w2 => ?_)
  refine go_a (pc' := 11) (ls' := [some (.ref (c + 0)), some (.int (iI n)), none]) (st' := [.ref (c + 0)]) rfl rfl ?_
  refine go_get (v := .ref (c + 1)) rfl (hK.1 0 (by decide)) rfl rfl ?_
  refine go_v (m := 34) (as := [.ref (c + 1)]) (r := []) rfl rfl rfl (hK.1 1 (by decide)) rfl rfl (kr_length_0 z (d + 1) c hp s hK) (fun v h3 hq => ?_)
  obtain ⟨rfl, e9⟩ := hq
  rw [e9]
  clear e9 h3
  show xx_go (xt_P z) (d + 2) 33 17 [some (.ref (c + 0)), some (.int (iI n)), none] [.int (iI (s.I 0))] hp _
  refine go_a (pc' := 18) (ls' := [some (.ref (c + 0)), some (.int (iI n)), none]) (st' := [.int (iI n), .int (iI (s.I 0))]) rfl rfl ?_
  refine mi_add rfl ?_
  refine go_a (pc' := 22) (ls' := [some (.ref (c + 0)), some (.int (iI n)), none]) (st' := [.int (iI 3000), .int (iI ((s.I 0) + n))]) rfl rfl ?_
  refine mi_le (t := 27) rfl rfl (by omega) (by omega) (by omega) (by omega) (fun w3 => ?_) (fun w3 => no (by omega))
  refine go_a (pc' := 28) (ls' := [some (.ref (c + 0)), some (.int (iI n)), none]) (st' := [.int (iI 0)]) rfl rfl ?_
  refine go_a (pc' := 29) (ls' := [some (.ref (c + 0)), some (.int (iI n)), some (.int (iI 0))]) (st' := []) rfl rfl ?_
  refine go_w ?_ (kk_end_loop z d c n hp s (by omega) (by omega) n.toNat 0 hp s (by omega) (by decide) (by omega) hK hB kx_rf ⟨⟨rfl, rfl, fun _ _ => ⟨rfl, rfl, rfl⟩, fun _ _ => rfl⟩, by omega, fun _ _ => rfl, fun e e0 e1 => absurd e1 (by omega)⟩)
  intro v h1 hq
  exact Or.inr ⟨⟨by omega, by omega, w3⟩, hq.1, hq.2⟩
theorem kk_end (z : Value) (d c : Nat) (cc n : Int) (hp0 : xx_H) (s0 : Int × Int) (hp : xx_H) (s : KS) (t : List sp_Th) (hI : KIC c hp0 s0 cc hp s t) (n0 : -2147483648 ≤ n) (n1 : n ≤ 2147483647) : xx_cl (xt_P z) (d + 3) 33 [.ref (c + 0), .int (iI n)] hp (fun v h1 => ∃ s1 : KS, KIC c hp0 s0 (cc + 1) h1 s1 t ∧ s1.I 20 = s.I 20 ∧ (s1.I 22 = s.I 22 ∧ s1.I 23 = s.I 23 ∧ ∀ e : Int, e < s.I 0 → s1.A 0 e = s.A 0 e) ∧ ((v = some (.int (iI (-1))) ∧ s1.I 0 = s.I 0 ∧ ¬ (0 ≤ n ∧ n ≤ 20 ∧ s.I 0 + n ≤ 3000) ∧ s1.A 12 = s.A 12) ∨ (v = some (.int (iI (s.I 0 + n))) ∧ s1.I 0 = s.I 0 + n ∧ (0 ≤ n ∧ n ≤ 20 ∧ s.I 0 + n ≤ 3000) ∧ W5 s1 ∧ ∀ e : Int, 0 ≤ e → e < n → s1.A 0 (s.I 0 + e) = sp_by (s.A 12 (e / 4)) e))) := by
  obtain ⟨⟨NM, W⟩, q1, q2, q3, w, α, β, hw, X, p1, p2, p3⟩ := id hI
  have w01 : 0 ≤ w ∧ w ≤ 1 := by rcases hw with ⟨e, -⟩ | e <;> omega
  have c0 := W.2.1.2.2.2.1 0 (by decide)
  refine cl_w ?_ (kk_end0 z d c n hp s W.1 W.2.1 q2.2 n0 n1)
  rintro v h1 (⟨e, e1, hn⟩ | ⟨hn, e, s1, E, B1, K2, X2⟩)
  · rw [e1]
    exact ⟨s, KIC_1 hI, rfl, ⟨rfl, rfl, fun _ _ => rfl⟩, Or.inl ⟨e, rfl, hn, rfl⟩⟩
  · obtain ⟨⟨a1, a2, a3, a4⟩, a5, a6, a7⟩ := E
    have B2 : KB (((((s1.wA 12 0 0).wA 12 1 0).wA 12 2 0).wA 12 3 0).wA 12 4 0) := KB_5 B1 (by decide) (by decide) (by decide) (by decide) (by decide)
    have z5 : W5 (((((s1.wA 12 0 0).wA 12 1 0).wA 12 2 0).wA 12 3 0).wA 12 4 0) := by
      intro e e0 e1
      have he : e = 0 ∨ e = 1 ∨ e = 2 ∨ e = 3 ∨ e = 4 := by omega
      rcases he with rfl | rfl | rfl | rfl | rfl <;> rfl
    have nz : NZ (s1.A 0) (s1.I 0).toNat ≤ NZ (s.A 0) (s.I 0).toNat + 20 * w := by
      have e1 : NZ (s1.A 0) (s.I 0).toNat = NZ (s.A 0) (s.I 0).toNat := NZ_ext _ (fun k k0 k1 => a6 k (by omega))
      rw [a5, show (s.I 0 + n).toNat = (s.I 0).toNat + n.toNat by omega, ← e1]
      rcases hw with ⟨w0, hz⟩ | w0
      · rw [NZ_zero n.toNat _ (fun k k0 k1 => (a7 k (by omega) (by omega)).2.1 hz)]
        omega
      · have := NZ_more (f := s1.A 0) n.toNat (s.I 0).toNat
        omega
    refine ⟨(((((s1.wA 12 0 0).wA 12 1 0).wA 12 2 0).wA 12 3 0).wA 12 4 0), ⟨⟨NM, KWS_k (KWS_fr W K2 B2 (KSA_CI (s := s) ⟨a1, (a3 9 (by decide)).1, a4 8 (by decide)⟩ W.2.2.1) X2 a2 (fun j hj => (a3 j (by omega)).2) (fun j hj => a4 j (by omega)) ?_ ?_ (fun q => KQ_e (s := s) a1 (a3 9 (by decide)).1 (a3 10 (by decide)).1 (a3 11 (by decide)).1 (a4 8 (by decide)) q) (fun e _ => by show s1.N e = s.N e; rw [a1])) (by omega)⟩, ?_, ⟨fun e e0 e1 => ?_, ?_⟩, ?_, 0, α, β, Or.inl ⟨rfl, z5⟩, KXN_w (KXN_tr X X2) (by omega) (by omega), ?_, ?_, ?_⟩, a4 20 (by decide), ⟨a4 22 (by decide), a4 23 (by decide), a6⟩, Or.inr ⟨e, a5, hn, z5, fun e e0 e1 => ?_⟩⟩
    · show s1.I 24 ≤ s1.I 8
      rw [a4 24 (by decide), a4 8 (by decide)]
      exact W.2.2.2.2.2.2.2.2.1
    · show 1 ≤ s1.I 20 ∧ s1.I 20 ≤ 1000
      rw [a4 20 (by decide)]
      exact W.2.2.2.2.2.2.2.2.2.2.1
    · show s1.I 8 = s1.I 24
      rw [a4 24 (by decide), a4 8 (by decide)]
      exact q1
    · have e1 : e < s1.I 0 := e1
      show 0 ≤ s1.A 0 e ∧ s1.A 0 e ≤ 255
      by_cases ce : e < s.I 0
      · rw [a6 e ce]
        exact q2.1 e e0 ce
      · exact (a7 e (by omega) (by omega)).1
    · show s1.I 0 ≤ 3000
      omega
    · show s1.I 4 ≤ 2000
      rw [a4 4 (by decide)]
      exact q3
    · show α + 100 * NZ (s1.A 0) (s1.I 0).toNat + 1000 * 0 ≤ _
      rcases hw with ⟨w0, -⟩ | w0 <;> omega
    · show β + 700 * NZ (s1.A 0) (s1.I 0).toNat + 7000 * 0 ≤ _
      rcases hw with ⟨w0, -⟩ | w0 <;> omega
    · show s1.I 8 + 3 * NZ (s1.A 0) (s1.I 0).toNat + 30 * 0 ≤ _
      have := a4 8 (by decide)
      rcases hw with ⟨w0, -⟩ | w0 <;> omega
    · have q := (a7 (s.I 0 + e) (by omega) (by omega)).2.2
      rw [show s.I 0 + e - s.I 0 = e by omega] at q
      exact q
theorem kk_fuel (z : Value) (d c : Nat) (cc n : Int) (hp0 : xx_H) (s0 : Int × Int) (hp : xx_H) (s : KS) (t : List sp_Th) (hI : KIC c hp0 s0 cc hp s t) (n0 : -2147483648 ≤ n) (n1 : n ≤ 2147483647) : xx_cl (xt_P z) (d + 1) 36 [.ref (c + 0), .int (iI n)] hp (fun v h1 => ∃ s1 : KS, KIC c hp0 s0 (cc + 1) h1 s1 t ∧ (KSM s s1 ∧ s1.A 12 = s.A 12) ∧ ((v = some (.int (iI (-1))) ∧ s1.I 20 = s.I 20 ∧ ¬ (1 ≤ n ∧ n ≤ 1000)) ∨ (v = some (.int (iI (s.I 20))) ∧ s1.I 20 = n ∧ (1 ≤ n ∧ n ≤ 1000)))) := by
  have hX := kx_rf (c := c) (hp := hp) (s := s)
  obtain ⟨⟨NM, W⟩, q1, q2, q3, w, α, β, hw, X, p1, p2, p3⟩ := id hI
  refine cl_go rfl ?_
  show xx_go (xt_P z) d 36 0 [some (.ref (c + 0)), some (.int (iI n)), none] [] hp _
  refine go_a (pc' := 1) (ls' := [some (.ref (c + 0)), some (.int (iI n)), none]) (st' := [.int (iI n)]) rfl rfl ?_
  refine go_a (pc' := 2) (ls' := [some (.ref (c + 0)), some (.int (iI n)), none]) (st' := [.int (iI 1), .int (iI n)]) rfl rfl ?_
  have no : ¬ (1 ≤ n ∧ n ≤ 1000) → xx_go (xt_P z) d 36 12 [some (.ref (c + 0)), some (.int (iI n)), none] [] hp (fun v h1 => ∃ s1 : KS, KIC c hp0 s0 (cc + 1) h1 s1 t ∧ (KSM s s1 ∧ s1.A 12 = s.A 12) ∧ ((v = some (.int (iI (-1))) ∧ s1.I 20 = s.I 20 ∧ ¬ (1 ≤ n ∧ n ≤ 1000)) ∨ (v = some (.int (iI (s.I 20))) ∧ s1.I 20 = n ∧ (1 ≤ n ∧ n ≤ 1000)))) := by
    intro hn
    refine go_a (pc' := 13) (ls' := [some (.ref (c + 0)), some (.int (iI n)), none]) (st' := [.int (iI ((-1)))]) rfl rfl ?_
    exact go_r rfl rfl rfl rfl rfl rfl ⟨s, KIC_1 hI, ⟨KSM_rf, rfl⟩, Or.inl ⟨rfl, rfl, hn⟩⟩
  refine mi_lt (t := 12) rfl rfl (by omega) (by omega) (by omega) (by omega) (fun w1 => no (by omega)) (fun w1 => ?_)
  refine go_a (pc' := 6) (ls' := [some (.ref (c + 0)), some (.int (iI n)), none]) (st' := [.int (iI n)]) rfl rfl ?_
  refine go_a (pc' := 9) (ls' := [some (.ref (c + 0)), some (.int (iI n)), none]) (st' := [.int (iI 1000), .int (iI n)]) rfl rfl ?_
  refine mi_le (t := 14) rfl rfl (by omega) (by omega) (by omega) (by omega) (fun w2 => ?_) (fun w2 => no (by omega))
  refine go_a (pc' := 15) (ls' := [some (.ref (c + 0)), some (.int (iI n)), none]) (st' := [.ref (c + 0)]) rfl rfl ?_
  refine go_get (v := .int (iI (s.I 20))) rfl (W.1.1 0 (by decide)) rfl rfl ?_
  refine go_a (pc' := 19) (ls' := [some (.ref (c + 0)), some (.int (iI n)), some (.int (iI (s.I 20)))]) (st' := []) rfl rfl ?_
  refine go_a (pc' := 20) (ls' := [some (.ref (c + 0)), some (.int (iI n)), some (.int (iI (s.I 20)))]) (st' := [.ref (c + 0)]) rfl rfl ?_
  refine go_a (pc' := 21) (ls' := [some (.ref (c + 0)), some (.int (iI n)), some (.int (iI (s.I 20)))]) (st' := [.int (iI n), .ref (c + 0)]) rfl rfl ?_
  refine kput_20 (x := n) W.1 hX rfl rfl (fun hp1 hK hX => ?_)
  refine go_a (pc' := 25) (ls' := [some (.ref (c + 0)), some (.int (iI n)), some (.int (iI (s.I 20)))]) (st' := [.int (iI (s.I 20))]) rfl rfl ?_
  have w01 : 0 ≤ w ∧ w ≤ 1 := by rcases hw with ⟨e, -⟩ | e <;> omega
  have K9 : KIC c hp0 s0 (cc + 1) hp1 (s.wI 20 n) t := ⟨⟨NM, KWS_k (KWS_fr W hK (KB_wF W.2.1 n0 n1 (by decide)) (KSA_CI (s := s) ⟨rfl, rfl, rfl⟩ W.2.2.1) hX rfl (fun _ _ => ⟨rfl, rfl⟩) (fun j hj => su_ne (by omega)) W.2.2.2.2.2.2.2.2.1 ⟨by show 1 ≤ n; omega, by show n ≤ 1000; omega⟩ (fun q => KQ_e (s := s) rfl rfl rfl rfl rfl q) (fun _ _ => rfl)) (by omega)⟩, q1, q2, q3, w, α, β, hw, KXN_w (KXN_tr X hX) (by omega) (by omega), by show α + 100 * NZ (s.A 0) (s.I 0).toNat + 1000 * w ≤ _; omega, by show β + 700 * NZ (s.A 0) (s.I 0).toNat + 7000 * w ≤ _; omega, by show s.I 8 + 3 * NZ (s.A 0) (s.I 0).toNat + 30 * w ≤ _; omega⟩
  exact go_r rfl rfl rfl rfl rfl rfl ⟨s.wI 20 n, K9, ⟨⟨rfl, fun _ _ => rfl, rfl, rfl⟩, rfl⟩, Or.inr ⟨rfl, rfl, by omega⟩⟩
