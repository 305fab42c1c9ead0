def KRL (s s1 : KS) (u : Int) : Prop := s1.N = s.N ∧ s1.T = s.T ∧ s1.C = s.C ∧ s1.P = s.P ∧ s1.I = su s.I 8 u ∧ ∀ j : Nat, j ≠ 11 → s1.A j = s.A j
theorem KRL_CI {s s1 : KS} {u : Int} (h : KRL s s1 u) (hC : CI s) (h1 : 38 ≤ u) (h2 : u ≤ s.I 8) : CI s1 := by
  obtain ⟨a1, a2, a3, a4, a5, a6⟩ := h
  have e : s1.I 8 = u := by rw [a5]; rfl
  have sd : SD s1 = SD s := by
    unfold SD
    rw [a1]
  refine ⟨⟨show s1.I 8 ≤ 140000 by have := hC.1.1; have : s.I 8 ≤ 140000 := this; omega, fun k k0 k1 => ?_⟩, fun k k0 k1 => ?_, fun k k0 k1 => ?_⟩
  · rw [sd]
    have k1 : k < s1.I 8 := k1
    exact hC.1.2 k k0 (show k < s.I 8 by omega)
  · rw [a6 9 (by decide)]
    exact hC.2.1 k k0 (by omega)
  · rw [a1]
    exact hC.2.2 k k0 k1
theorem kc_release_loop (z : Value) (d c : Nat) (n : Int) (hp : xx_H) (s : KS) (hB0 : KB s) (n0 : 0 ≤ n) (n1 : n ≤ 2147483647) : ∀ (f : Nat) (k : Int) (hp1 : xx_H) (s1 : KS), k.toNat ≤ f → 37 ≤ k → k + 1 ≤ s.I 8 → KI c hp1 s1 → KB s1 → kx c hp s hp1 s1 0 0 → KRL s s1 (k + 1) → (n ≤ s.I 8 → 38 ≤ n → n ≤ k + 1) → xx_go (xt_P z) (d + 1) 49 7 [some (.ref (c + 4)), some (.int (iI n)), some (.int (iI k))] [] hp1 (fun v h1 => v = none ∧ ∃ (u : Int) (s1 : KS), KI c h1 s1 ∧ KB s1 ∧ kx c hp s h1 s1 0 0 ∧ KRL s s1 u ∧ 38 ≤ u ∧ u ≤ s.I 8 ∧ (n ≤ s.I 8 → 38 ≤ n → u = n)) := by
  have b0 := hB0.2.2.2.2.2.1
  have fin : ∀ (k : Int) (hp1 : xx_H) (s1 : KS), 37 ≤ k → k + 1 ≤ s.I 8 → KI c hp1 s1 → KB s1 → kx c hp s hp1 s1 0 0 → KRL s s1 (k + 1) → (n ≤ s.I 8 → 38 ≤ n → n ≤ k + 1) → (k < n ∨ k ≤ 37) → xx_go (xt_P z) (d + 1) 49 49 [some (.ref (c + 4)), some (.int (iI n)), some (.int (iI k))] [] hp1 (fun v h1 => v = none ∧ ∃ (u : Int) (s1 : KS), KI c h1 s1 ∧ KB s1 ∧ kx c hp s h1 s1 0 0 ∧ KRL s s1 u ∧ 38 ≤ u ∧ u ≤ s.I 8 ∧ (n ≤ s.I 8 → 38 ≤ n → u = n)) := by
    intro k hp1 s1 k0 k1 hK hB hX hR hn hk
    exact go_r rfl rfl rfl rfl rfl rfl ⟨rfl, k + 1, s1, hK, hB, hX, hR, by omega, by omega, fun p q => by have := hn p q; omega⟩
  intro f
  induction f with
  | zero =>
    intro k hp1 s1 hf k0 k1 hK hB hX hR hn
    omega
  | succ f ih =>
    intro k hp1 s1 hf k0 k1 hK hB hX hR hn
    have e8 : s1.I 8 = k + 1 := by rw [hR.2.2.2.2.1]; rfl
    have b := hB.2.2.2.2.2.1
    have r10 := hB.1 10 k
    refine go_a (pc' := 8) (ls' := [some (.ref (c + 4)), some (.int (iI n)), some (.int (iI k))]) (st' := [.int (iI k)]) rfl rfl ?_
    refine go_a (pc' := 9) (ls' := [some (.ref (c + 4)), some (.int (iI n)), some (.int (iI k))]) (st' := [.int (iI n), .int (iI k)]) rfl rfl ?_
    refine mi_lt (t := 49) rfl rfl (by omega) (by omega) (by omega) (by omega) (fun q => fin k hp1 s1 k0 k1 hK hB hX hR hn (Or.inl (by omega))) (fun q1 => ?_)
    refine go_a (pc' := 13) (ls' := [some (.ref (c + 4)), some (.int (iI n)), some (.int (iI k))]) (st' := [.int (iI k)]) rfl rfl ?_
    refine go_a (pc' := 15) (ls' := [some (.ref (c + 4)), some (.int (iI n)), some (.int (iI k))]) (st' := [.int (iI 37), .int (iI k)]) rfl rfl ?_
    refine mi_le (t := 49) rfl rfl (by omega) (by omega) (by omega) (by omega) (fun q => fin k hp1 s1 k0 k1 hK hB hX hR hn (Or.inr (by omega))) (fun q2 => ?_)
    refine go_a (pc' := 19) (ls' := [some (.ref (c + 4)), some (.int (iI n)), some (.int (iI k))]) (st' := [.ref (c + 4)]) rfl rfl ?_
    refine go_get (v := .ref (c + 8)) rfl (hK.1 3 (by decide)) rfl rfl ?_
    refine go_a (pc' := 23) (ls' := [some (.ref (c + 4)), some (.int (iI n)), some (.int (iI k))]) (st' := [.ref (c + 4), .ref (c + 8)]) rfl rfl ?_
    refine go_get (v := .ref (s1.P 8)) rfl (hK.1 3 (by decide)) rfl rfl ?_
    refine go_a (pc' := 27) (ls' := [some (.ref (c + 4)), some (.int (iI n)), some (.int (iI k))]) (st' := [.int (iI k), .ref (s1.P 8), .ref (c + 8)]) rfl rfl ?_
    refine mi_lld (n := (s1.C 8).toNat) (f := s1.N) rfl (hK.1 29 (by decide)) (by omega) (by omega) (by omega) ?_
    refine go_s (m := 15) (as := [.long (Int64.ofInt (s1.N k))]) (r := [.ref (c + 8)]) rfl rfl rfl rfl (kc_slot z d (Int64.ofInt (s1.N k)) hp1) (fun v h1 hq => ?_)
    obtain ⟨⟨t, ⟨t0, t1⟩, rfl⟩, e⟩ := hq
    rw [e]
    clear e h1
    show xx_go (xt_P z) (d + 1) 49 31 [some (.ref (c + 4)), some (.int (iI n)), some (.int (iI k))] [.int (iI t), .ref (c + 8)] hp1 _
    refine go_a (pc' := 32) (ls' := [some (.ref (c + 4)), some (.int (iI n)), some (.int (iI k))]) (st' := [.ref (c + 4), .int (iI t), .ref (c + 8)]) rfl rfl ?_
    refine go_get (v := .ref (s1.P 10)) rfl (hK.1 3 (by decide)) rfl rfl ?_
    refine go_a (pc' := 36) (ls' := [some (.ref (c + 4)), some (.int (iI n)), some (.int (iI k))]) (st' := [.int (iI k), .ref (s1.P 10), .int (iI t), .ref (c + 8)]) rfl rfl ?_
    refine mi_ild (n := (s1.C 10).toNat) (f := s1.A 10) rfl (hK.1 31 (by decide)) (by omega) (by omega) (by omega) ?_
    refine kist_11 (s := s1) (x := s1.A 10 k) (e := t) hK hX rfl (by omega) (by omega) (fun hp hK hX => ?_)
    refine go_a (pc' := 39) (ls' := [some (.ref (c + 4)), some (.int (iI n)), some (.int (iI k))]) (st' := [.ref (c + 4)]) rfl rfl ?_
    refine go_a (pc' := 40) (ls' := [some (.ref (c + 4)), some (.int (iI n)), some (.int (iI k))]) (st' := [.int (iI k), .ref (c + 4)]) rfl rfl ?_
    refine kput_8 (x := k) hK hX rfl rfl (fun hp hK hX => ?_)
    refine go_a (pc' := 46) (ls' := [some (.ref (c + 4)), some (.int (iI n)), some (.int (iI (k + (-1))))]) (st' := []) rfl (by rw [← iI_add k (-1)]; rfl) ?_
    refine go_a (pc' := 7) (ls' := [some (.ref (c + 4)), some (.int (iI n)), some (.int (iI (k + (-1))))]) (st' := []) rfl rfl ?_
    refine ih (k + (-1)) hp _ (by omega) (by omega) (by omega) hK (KB_wI (KB_wA hB r10.1 r10.2) (by omega) (by omega) (fun q => absurd q (by decide)) (fun _ => (show 38 ≤ k ∧ k ≤ s1.C 8 by omega)) (by decide)) hX ?_ (fun p q => by have := hn p q; omega)
    obtain ⟨a1, a2, a3, a4, a5, a6⟩ := hR
    refine ⟨a1, a2, a3, a4, ?_, fun j ne => ?_⟩
    · show su s1.I 8 k = su s.I 8 (k + (-1) + 1)
      rw [a5, su_su, show k + (-1) + 1 = k by omega]
    · show sa s1.A 11 t (s1.A 10 k) j = s.A j
      rw [sa_ne ne]
      exact a6 j ne
theorem kc_release (z : Value) (d c : Nat) (n : Int) (hp : xx_H) (s : KS) (hK : KI c hp s) (hB : KB s) (n0 : 0 ≤ n) (n1 : n ≤ 2147483647) : xx_cl (xt_P z) (d + 2) 49 [.ref (c + 4), .int (iI n)] hp (fun v h1 => v = none ∧ ∃ (u : Int) (s1 : KS), KI c h1 s1 ∧ KB s1 ∧ kx c hp s h1 s1 0 0 ∧ KRL s s1 u ∧ 38 ≤ u ∧ u ≤ s.I 8 ∧ (n ≤ s.I 8 → 38 ≤ n → u = n)) := by
  have b := hB.2.2.2.2.2.1
  refine cl_go rfl ?_
  show xx_go (xt_P z) (d + 1) 49 0 [some (.ref (c + 4)), some (.int (iI n)), none] [] hp _
  refine go_a (pc' := 1) (ls' := [some (.ref (c + 4)), some (.int (iI n)), none]) (st' := [.ref (c + 4)]) rfl rfl ?_
  refine go_get (v := .int (iI (s.I 8))) rfl (hK.1 3 (by decide)) rfl rfl ?_
  refine go_a (pc' := 5) (ls' := [some (.ref (c + 4)), some (.int (iI n)), none]) (st' := [.int (iI 1), .int (iI (s.I 8))]) rfl rfl ?_
  refine mi_sub rfl ?_
  refine go_a (pc' := 7) (ls' := [some (.ref (c + 4)), some (.int (iI n)), some (.int (iI ((s.I 8) - 1)))]) (st' := []) rfl rfl ?_
  exact kc_release_loop z d c n hp s hB n0 n1 _ (s.I 8 - 1) hp s (Nat.le_refl _) (by omega) (by omega) hK hB kx_rf ⟨rfl, rfl, rfl, rfl, (su_eta (by omega)).symm, fun _ _ => rfl⟩ (fun p _ => by omega)
