def ieq (a b : Int) : Prop := a = b
theorem KCH_rel {s s1 : KS} {k : Int} (h : KCH s) (k0 : 0 ≤ k) (e8 : s.I 8 = k + 1) (f8 : s1.I 8 = k) (eN : s1.N = s.N) (e10 : s1.A 10 = s.A 10) (e11 : s1.A 11 = sf (s.A 11) (ksl (s.N k)) (s.A 10 k)) : KCH s1 := by
  obtain ⟨c1, c2, c3, c4, c5, c6⟩ := h
  have w := c1 k k0 (by omega)
  unfold KCH
  rw [f8, eN, e10, e11]
  refine ⟨fun j j0 j1 => c1 j j0 (by omega), fun t t0 t1 => ?_, fun i j i0 ij j1 e => c3 i j i0 ij (by omega) e, fun j j0 j1 => ?_, fun i j i0 ij j1 => c5 i j i0 ij (by omega), fun j j0 j1 q => c6 j j0 (by omega) q⟩
  · by_cases et : t = ksl (s.N k)
    · rw [et, sf_self]
      exact ⟨w.1, w.2.1, w.2.2⟩
    · rw [sf_ne et]
      have v := c2 t t0 t1
      refine ⟨v.1, ?_, v.2.2⟩
      by_cases ek : s.A 11 t = k
      · have q := v.2.2 (by omega)
        rw [ek] at q
        exact absurd q.symm et
      · omega
  · by_cases et : ksl (s.N j) = ksl (s.N k)
    · rw [et, sf_self]
      exact c3 j k j0 j1 (by omega) et
    · rw [sf_ne et]
      exact c4 j j0 (by omega)
theorem kz_release_loop (z : Value) (d c : Nat) (n : Int) (hp : xx_H) (s : KS) (hB0 : KB s) (n0 : 0 ≤ n) (n1 : n ≤ 2147483647) : ∀ (f : Nat) (k : Int) (hp1 : xx_H) (s1 : KS), k.toNat ≤ f → 37 ≤ k → k + 1 ≤ s.I 8 → KI c hp1 s1 → KB s1 → kx c hp s hp1 s1 0 0 → KRL s s1 (k + 1) → (n ≤ s.I 8 → 38 ≤ n → n ≤ k + 1) → KCH s1 → xx_go (xt_P z) (d + 1) 49 7 [some (.ref (c + 4)), some (.int (iI n)), some (.int (iI k))] [] hp1 (fun v h1 => v = none ∧ ∃ (u : Int) (s1 : KS), KI c h1 s1 ∧ KB s1 ∧ kx c hp s h1 s1 0 0 ∧ KRL s s1 u ∧ 38 ≤ u ∧ u ≤ s.I 8 ∧ (n ≤ s.I 8 → 38 ≤ n → u = n) ∧ KCH s1) := by
  have b0 := hB0.2.2.2.2.2.1
  have fin : ∀ (k : Int) (hp1 : xx_H) (s1 : KS), 37 ≤ k → k + 1 ≤ s.I 8 → KI c hp1 s1 → KB s1 → kx c hp s hp1 s1 0 0 → KRL s s1 (k + 1) → (n ≤ s.I 8 → 38 ≤ n → n ≤ k + 1) → KCH s1 → (k < n ∨ k ≤ 37) → xx_go (xt_P z) (d + 1) 49 49 [some (.ref (c + 4)), some (.int (iI n)), some (.int (iI k))] [] hp1 (fun v h1 => v = none ∧ ∃ (u : Int) (s1 : KS), KI c h1 s1 ∧ KB s1 ∧ kx c hp s h1 s1 0 0 ∧ KRL s s1 u ∧ 38 ≤ u ∧ u ≤ s.I 8 ∧ (n ≤ s.I 8 → 38 ≤ n → u = n) ∧ KCH s1) := by
    intro k hp1 s1 k0 k1 hK hB hX hR hn hH hk
    exact go_r rfl rfl rfl rfl rfl rfl ⟨rfl, k + 1, s1, hK, hB, hX, hR, by omega, by omega, fun p q => by have := hn p q; omega, hH⟩
  intro f
  induction f with
  | zero =>
    intro k hp1 s1 hf k0 k1 hK hB hX hR hn hH
    omega
  | succ f ih =>
    intro k hp1 s1 hf k0 k1 hK hB hX hR hn hH
    have e8 : s1.I 8 = k + 1 := by rw [hR.2.2.2.2.1]; rfl
    have b := hB.2.2.2.2.2.1
    have r10 := hB.1 10 k
    obtain ⟨t, et⟩ : ∃ t : Int, ieq t (ksl (s1.N k)) := ⟨_, rfl⟩
    have rs : 0 ≤ t ∧ t < 512 := by rw [show t = ksl (s1.N k) from et]; exact ksl_R _
    refine go_a (pc' := 8) (ls' := [some (.ref (c + 4)), some (.int (iI n)), some (.int (iI k))]) (st' := [.int (iI k)]) rfl rfl ?_
    refine go_a (pc' := 9) (ls' := [some (.ref (c + 4)), some (.int (iI n)), some (.int (iI k))]) (st' := [.int (iI n), .int (iI k)]) rfl rfl ?_
    refine mi_lt (t := 49) rfl rfl (by omega) (by omega) (by omega) (by omega) (fun q => fin k hp1 s1 k0 k1 hK hB hX hR hn hH (Or.inl (by omega))) (fun q1 => ?_)
    refine go_a (pc' := 13) (ls' := [some (.ref (c + 4)), some (.int (iI n)), some (.int (iI k))]) (st' := [.int (iI k)]) rfl rfl ?_
    refine go_a (pc' := 15) (ls' := [some (.ref (c + 4)), some (.int (iI n)), some (.int (iI k))]) (st' := [.int (iI 37), .int (iI k)]) rfl rfl ?_
    refine mi_le (t := 49) rfl rfl (by omega) (by omega) (by omega) (by omega) (fun q => fin k hp1 s1 k0 k1 hK hB hX hR hn hH (Or.inr (by omega))) (fun q2 => ?_)
    refine go_a (pc' := 19) (ls' := [some (.ref (c + 4)), some (.int (iI n)), some (.int (iI k))]) (st' := [.ref (c + 4)]) rfl rfl ?_
    refine go_get (v := .ref (c + 8)) rfl (hK.1 3 (by decide)) rfl rfl ?_
    refine go_a (pc' := 23) (ls' := [some (.ref (c + 4)), some (.int (iI n)), some (.int (iI k))]) (st' := [.ref (c + 4), .ref (c + 8)]) rfl rfl ?_
    refine go_get (v := .ref (s1.P 8)) rfl (hK.1 3 (by decide)) rfl rfl ?_
    refine go_a (pc' := 27) (ls' := [some (.ref (c + 4)), some (.int (iI n)), some (.int (iI k))]) (st' := [.int (iI k), .ref (s1.P 8), .ref (c + 8)]) rfl rfl ?_
    refine mi_lld (n := (s1.C 8).toNat) (f := s1.N) rfl (hK.1 29 (by decide)) (by omega) (by omega) (by omega) ?_
    refine go_s (m := 15) (as := [.long (Int64.ofInt (s1.N k))]) (r := [.ref (c + 8)]) rfl rfl rfl rfl (kz_slot z d (s1.N k) hp1) (fun v h1 hq => ?_)
    obtain ⟨rfl, e⟩ := hq
    rw [e, ← (show t = ksl (s1.N k) from et)]
    clear e h1
    show xx_go (xt_P z) (d + 1) 49 31 [some (.ref (c + 4)), some (.int (iI n)), some (.int (iI k))] [.int (iI t), .ref (c + 8)] hp1 _
    refine go_a (pc' := 32) (ls' := [some (.ref (c + 4)), some (.int (iI n)), some (.int (iI k))]) (st' := [.ref (c + 4), .int (iI t), .ref (c + 8)]) rfl rfl ?_
    refine go_get (v := .ref (s1.P 10)) rfl (hK.1 3 (by decide)) rfl rfl ?_
    refine go_a (pc' := 36) (ls' := [some (.ref (c + 4)), some (.int (iI n)), some (.int (iI k))]) (st' := [.int (iI k), .ref (s1.P 10), .int (iI t), .ref (c + 8)]) rfl rfl ?_
    refine mi_ild (n := (s1.C 10).toNat) (f := s1.A 10) rfl (hK.1 31 (by decide)) (by omega) (by omega) (by omega) ?_
    refine kist_11 (s := s1) (x := s1.A 10 k) (e := t) hK hX rfl (by omega) (by omega) (fun hp hK hX => ?_)
    refine go_a (pc' := 39) (ls' := [some (.ref (c + 4)), some (.int (iI n)), some (.int (iI k))]) (st' := [.ref (c + 4)]) rfl rfl ?_
    refine go_a (pc' := 40) (ls' := [some (.ref (c + 4)), some (.int (iI n)), some (.int (iI k))]) (st' := [.int (iI k), .ref (c + 4)]) rfl rfl ?_
    refine kput_8 (x := k) hK hX rfl rfl (fun hp hK hX => ?_)
    refine go_a (pc' := 46) (ls' := [some (.ref (c + 4)), some (.int (iI n)), some (.int (iI (k + (-1))))]) (st' := []) rfl (by rw [← iI_add k (-1)]; rfl) ?_
    refine go_a (pc' := 7) (ls' := [some (.ref (c + 4)), some (.int (iI n)), some (.int (iI (k + (-1))))]) (st' := []) rfl rfl ?_
    refine ih (k + (-1)) hp _ (by omega) (by omega) (by omega) hK (KB_wI (KB_wA hB r10.1 r10.2) (by omega) (by omega) (fun q => absurd q (by decide)) (fun _ => (show 38 ≤ k ∧ k ≤ s1.C 8 by omega)) (by decide)) hX ?_ (fun p q => by have := hn p q; omega) (KCH_rel hH (by omega) e8 rfl rfl rfl (by rw [← (show t = ksl (s1.N k) from et)]; rfl))
    obtain ⟨a1, a2, a3, a4, a5, a6⟩ := hR
    refine ⟨a1, a2, a3, a4, ?_, fun j ne => ?_⟩
    · show su s1.I 8 k = su s.I 8 (k + (-1) + 1)
      rw [a5, su_su, show k + (-1) + 1 = k by omega]
    · show sa s1.A 11 t (s1.A 10 k) j = s.A j
      rw [sa_ne ne]
      exact a6 j ne
theorem kz_release (z : Value) (d c : Nat) (n : Int) (hp : xx_H) (s : KS) (hK : KI c hp s) (hB : KB s) (hH : KCH s) (n0 : 0 ≤ n) (n1 : n ≤ 2147483647) : xx_cl (xt_P z) (d + 2) 49 [.ref (c + 4), .int (iI n)] hp (fun v h1 => v = none ∧ ∃ (u : Int) (s1 : KS), KI c h1 s1 ∧ KB s1 ∧ kx c hp s h1 s1 0 0 ∧ KRL s s1 u ∧ 38 ≤ u ∧ u ≤ s.I 8 ∧ (n ≤ s.I 8 → 38 ≤ n → u = n) ∧ KCH s1) := by
  have b := hB.2.2.2.2.2.1
  refine cl_go rfl ?_
  show xx_go (xt_P z) (d + 1) 49 0 [some (.ref (c + 4)), some (.int (iI n)), none] [] hp _
  refine go_a (pc' := 1) (ls' := [some (.ref (c + 4)), some (.int (iI n)), none]) (st' := [.ref (c + 4)]) rfl rfl ?_
  refine go_get (v := .int (iI (s.I 8))) rfl (hK.1 3 (by decide)) rfl rfl ?_
  refine go_a (pc' := 5) (ls' := [some (.ref (c + 4)), some (.int (iI n)), none]) (st' := [.int (iI 1), .int (iI (s.I 8))]) rfl rfl ?_
  refine mi_sub rfl ?_
  refine go_a (pc' := 7) (ls' := [some (.ref (c + 4)), some (.int (iI n)), some (.int (iI ((s.I 8) - 1)))]) (st' := []) rfl rfl ?_
  exact kz_release_loop z d c n hp s hB n0 n1 _ (s.I 8 - 1) hp s (Nat.le_refl _) (by omega) (by omega) hK hB kx_rf ⟨rfl, rfl, rfl, rfl, (su_eta (by omega)).symm, fun _ _ => rfl⟩ (fun p _ => by omega) hH
theorem MU_le {I I1 : Nat → Int} {A A1 : Nat → Int → Int} {N : Int → Int} (h : MU I A N) (i7 : I1 7 ≤ I 7) (ha : ∀ a : Nat, a ≠ 7 → A1 a = A a) : MU I1 A1 N := by
  have e1 := ha 1 (by decide)
  have e2 := ha 2 (by decide)
  have e8 := ha 8 (by decide)
  have e9 := ha 9 (by decide)
  have em : mka A1 N = mka A N := by
    funext k
    unfold mka
    rw [e1, e2, e8, e9]
  unfold MU
  rw [em, e1, e2, e8, e9]
  exact ⟨fun j k j0 jk k1 => h.1 j k j0 jk (by omega), fun j k j0 jk k1 => h.2.1 j k j0 jk (by omega), fun k k0 k1 => h.2.2 k k0 (by omega)⟩
theorem DM_le {A A1 : Nat → Int → Int} {N : Int → Int} (ha : ∀ a : Nat, a ≠ 7 → A1 a = A a) : DM A1 N = DM A N := by
  have e1 := ha 1 (by decide)
  have e2 := ha 2 (by decide)
  have e8 := ha 8 (by decide)
  have e9 := ha 9 (by decide)
  have em : mka A1 N = mka A N := by
    funext k
    unfold mka
    rw [e1, e2, e8, e9]
  have ed : mkd A1 = mkd A := by
    funext k
    unfold mkd
    rw [e1]
  have eb : mkb A1 = mkb A := by
    funext k
    unfold mkb
    rw [e1, e2]
  funext k
  unfold DM
  rw [em, ed, eb]
theorem MHT_le {I I1 : Nat → Int} {A A1 : Nat → Int → Int} {N : Int → Int} (h : MHT I A N) (i7 : I1 7 ≤ I 7) (ha : ∀ a : Nat, a ≠ 7 → A1 a = A a) : MHT I1 A1 N := by
  unfold MHT
  rw [DM_le ha, ha 5 (by decide)]
  exact fun k k0 k1 => h k k0 (by omega)
