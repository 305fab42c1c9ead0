def KB (s : KS) : Prop := (∀ (j : Nat) (e : Int), -2147483648 ≤ s.A j e ∧ s.A j e ≤ 2147483647) ∧ (∀ j : Nat, -2147483648 ≤ s.I j ∧ s.I j ≤ 2147483647) ∧ (∀ e : Int, -9223372036854775808 ≤ s.N e ∧ s.N e ≤ 9223372036854775807) ∧ (∀ j : Nat, j < 8 → 20 ≤ s.C j ∧ s.C j ≤ 8192 ∧ 0 ≤ s.I j ∧ s.I j ≤ s.C j) ∧ 241 ≤ s.C 6 ∧ (64 ≤ s.C 8 ∧ s.C 8 ≤ 65536 ∧ s.C 9 = s.C 8 ∧ s.C 10 = s.C 8 ∧ 38 ≤ s.I 8 ∧ s.I 8 ≤ s.C 8) ∧ (0 ≤ s.I 26 ∧ s.I 26 ≤ s.C 13 ∧ s.C 13 ≤ 1000) ∧ (0 ≤ s.I 27 ∧ s.I 27 ≤ s.C 14 ∧ s.C 14 ≤ 1000) ∧ (0 ≤ s.I 28 ∧ s.I 28 ≤ s.C 15 ∧ s.C 15 ≤ 1000)
theorem su_or (I : Nat → Int) (j i : Nat) (x : Int) : su I j x i = I i ∨ (i = j ∧ su I j x i = x) := by
  unfold su
  cases hb : Nat.beq i j with
  | true => exact Or.inr ⟨Nat.eq_of_beq_eq_true hb, rfl⟩
  | false => exact Or.inl rfl
theorem KB_wI {s : KS} {j : Nat} {x : Int} (h : KB s) (x0 : -2147483648 ≤ x) (x1 : x ≤ 2147483647) (hr : j < 8 → 0 ≤ x ∧ x ≤ s.C j) (h8 : j = 8 → 38 ≤ x ∧ x ≤ s.C 8) (h26 : j ≠ 26 ∧ j ≠ 27 ∧ j ≠ 28) : KB (s.wI j x) := by
  obtain ⟨a1, a2, a3, a4, a5, a6, a7, a8, a9⟩ := h
  refine ⟨a1, fun i => ?_, a3, fun i hi => ?_, a5, ⟨a6.1, a6.2.1, a6.2.2.1, a6.2.2.2.1, ?_⟩, ?_, ?_, ?_⟩
  · show -2147483648 ≤ su s.I j x i ∧ su s.I j x i ≤ 2147483647
    rcases su_or s.I j i x with e | ⟨-, e⟩
    · rw [e]
      exact a2 i
    · rw [e]
      exact ⟨x0, x1⟩
  · have q := a4 i hi
    refine ⟨q.1, q.2.1, ?_⟩
    show 0 ≤ su s.I j x i ∧ su s.I j x i ≤ s.C i
    rcases su_or s.I j i x with e | ⟨e1, e⟩
    · rw [e]
      exact q.2.2
    · rw [e, e1]
      exact hr (by omega)
  · show 38 ≤ su s.I j x 8 ∧ su s.I j x 8 ≤ s.C 8
    rcases su_or s.I j 8 x with e | ⟨e1, e⟩
    · rw [e]
      exact a6.2.2.2.2
    · rw [e]
      exact h8 e1.symm
  · show 0 ≤ su s.I j x 26 ∧ su s.I j x 26 ≤ s.C 13 ∧ s.C 13 ≤ 1000
    rw [su_ne (fun e => h26.1 e.symm)]
    exact a7
  · show 0 ≤ su s.I j x 27 ∧ su s.I j x 27 ≤ s.C 14 ∧ s.C 14 ≤ 1000
    rw [su_ne (fun e => h26.2.1 e.symm)]
    exact a8
  · show 0 ≤ su s.I j x 28 ∧ su s.I j x 28 ≤ s.C 15 ∧ s.C 15 ≤ 1000
    rw [su_ne (fun e => h26.2.2 e.symm)]
    exact a9
theorem KB_wF {s : KS} {j : Nat} {x : Int} (h : KB s) (x0 : -2147483648 ≤ x) (x1 : x ≤ 2147483647) (hj : 9 ≤ j ∧ j ≠ 26 ∧ j ≠ 27 ∧ j ≠ 28) : KB (s.wI j x) := KB_wI h x0 x1 (fun q => absurd q (by omega)) (fun q => absurd q (by omega)) hj.2
theorem sa_or (A : Nat → Int → Int) (a b : Nat) (e k x : Int) : sa A a e x b k = A b k ∨ sa A a e x b k = x := by
  unfold sa
  cases hb : Nat.beq b a with
  | true =>
    show sf (A a) e x k = A b k ∨ sf (A a) e x k = x
    rw [Nat.eq_of_beq_eq_true hb]
    by_cases q : k = e
    · rw [q, sf_self]
      exact Or.inr rfl
    · rw [sf_ne q]
      exact Or.inl rfl
  | false => exact Or.inl rfl
theorem KB_wA {s : KS} {a : Nat} {e x : Int} (h : KB s) (x0 : -2147483648 ≤ x) (x1 : x ≤ 2147483647) : KB (s.wA a e x) := by
  refine ⟨fun b k => ?_, h.2⟩
  show -2147483648 ≤ sa s.A a e x b k ∧ sa s.A a e x b k ≤ 2147483647
  rcases sa_or s.A a b e k x with q | q
  · rw [q]
    exact h.1 b k
  · rw [q]
    exact ⟨x0, x1⟩
theorem KB_wG {s : KS} {j q : Nat} {m : Int} {g : Int → Int} (h : KB s) (hj : j < 8) (hm : s.C j ≤ m) (m1 : m ≤ 8192) (hg : ∀ k : Int, -2147483648 ≤ g k ∧ g k ≤ 2147483647) : KB (s.wG j m g q) := by
  obtain ⟨a1, a2, a3, a4, a5, a6, a7, a8, a9⟩ := h
  have C : ∀ i : Nat, i ≠ j → su s.C j m i = s.C i := fun i e => su_ne e
  refine ⟨fun b k => ?_, a2, a3, fun i hi => ?_, ?_, ?_, ?_, ?_, ?_⟩
  · show -2147483648 ≤ sw s.A j g b k ∧ sw s.A j g b k ≤ 2147483647
    unfold sw
    cases hb : Nat.beq b j with
    | true => exact hg k
    | false => exact a1 b k
  · have q := a4 i hi
    show 20 ≤ su s.C j m i ∧ su s.C j m i ≤ 8192 ∧ 0 ≤ s.I i ∧ s.I i ≤ su s.C j m i
    rcases su_or s.C j i m with e | ⟨e1, e⟩
    · rw [e]
      exact q
    · rw [e]
      rw [e1] at q ⊢
      omega
  · show 241 ≤ su s.C j m 6
    rcases su_or s.C j 6 m with e | ⟨e1, e⟩
    · rw [e]
      exact a5
    · rw [e]
      rw [e1] at a5
      omega
  · show 64 ≤ su s.C j m 8 ∧ su s.C j m 8 ≤ 65536 ∧ su s.C j m 9 = su s.C j m 8 ∧ su s.C j m 10 = su s.C j m 8 ∧ 38 ≤ s.I 8 ∧ s.I 8 ≤ su s.C j m 8
    rw [C 8 (by omega), C 9 (by omega), C 10 (by omega)]
    exact a6
  · show 0 ≤ s.I 26 ∧ s.I 26 ≤ su s.C j m 13 ∧ su s.C j m 13 ≤ 1000
    rw [C 13 (by omega)]
    exact a7
  · show 0 ≤ s.I 27 ∧ s.I 27 ≤ su s.C j m 14 ∧ su s.C j m 14 ≤ 1000
    rw [C 14 (by omega)]
    exact a8
  · show 0 ≤ s.I 28 ∧ s.I 28 ≤ su s.C j m 15 ∧ su s.C j m 15 ≤ 1000
    rw [C 15 (by omega)]
    exact a9
theorem cf_R {n : Int} {f : Int → Int} (h : ∀ k : Int, -2147483648 ≤ f k ∧ f k ≤ 2147483647) : ∀ k : Int, -2147483648 ≤ cf n f k ∧ cf n f k ≤ 2147483647 := fun k => by
  unfold cf
  split
  · exact h k
  · decide
def KRW (j : Nat) (s s1 : KS) : Prop := s1.N = s.N ∧ s1.T = s.T ∧ (∀ i : Nat, i ≠ j → s1.A i = s.A i ∧ s1.C i = s.C i ∧ s1.P i = s.P i) ∧ (s.C j ≤ s1.C j ∧ s1.C j ≤ 8192)
theorem sw_ne {A : Nat → Int → Int} {a b : Nat} {g : Int → Int} (h : b ≠ a) : sw A a g b = A b := by
  unfold sw
  cases hb : Nat.beq b a with
  | true => exact absurd (Nat.eq_of_beq_eq_true hb) h
  | false => rfl
theorem un_ne {P : Nat → Nat} {j i q : Nat} (h : i ≠ j) : un P j q i = P i := by
  unfold un
  cases hb : Nat.beq i j with
  | true => exact absurd (Nat.eq_of_beq_eq_true hb) h
  | false => rfl
theorem KRW_rf {j : Nat} {s : KS} (h : s.C j ≤ 8192) : KRW j s s := ⟨rfl, rfl, fun _ _ => ⟨rfl, rfl, rfl⟩, Int.le_refl _, h⟩
theorem kr_length_0 (z : Value) (d c : Nat) (hp : xx_H) (s : KS) (hK : KI c hp s) : xx_cl (xt_P z) (d + 1) 34 [.ref (c + 1)] hp (fun v h1 => v = some (.int (iI (s.I 0))) ∧ h1 = hp) := by
  refine cl_go rfl ?_
  show xx_go (xt_P z) d 34 0 [some (.ref (c + 1))] [] hp _
  refine go_a (pc' := 1) (ls' := [some (.ref (c + 1))]) (st' := [.ref (c + 1)]) rfl rfl ?_
  refine go_get (v := .int (iI (s.I 0))) rfl (hK.1 1 (by decide)) rfl rfl ?_
  exact go_r rfl rfl rfl rfl rfl rfl ⟨rfl, rfl⟩
theorem kr_at_0 (z : Value) (d c : Nat) (k : Int) (hp : xx_H) (s : KS) (hK : KI c hp s) (hB : KB s) (k0 : -2147483648 ≤ k) (k1 : k < 2147483648) : xx_cl (xt_P z) (d + 1) 43 [.ref (c + 1), .int (iI k)] hp (fun v h1 => ((0 ≤ k ∧ k < s.I 0 ∧ v = some (.int (iI (s.A 0 k)))) ∨ (¬ (0 ≤ k ∧ k < s.I 0) ∧ v = some (.int (iI 0)))) ∧ h1 = hp) := by
  obtain ⟨b3, b2, b0, b1⟩ := hB.2.2.2.1 0 (by decide)
  have no : ¬ (0 ≤ k ∧ k < s.I 0) → xx_go (xt_P z) d 43 21 [some (.ref (c + 1)), some (.int (iI k))] [] hp (fun v h1 => ((0 ≤ k ∧ k < s.I 0 ∧ v = some (.int (iI (s.A 0 k)))) ∨ (¬ (0 ≤ k ∧ k < s.I 0) ∧ v = some (.int (iI 0)))) ∧ h1 = hp) := by
    intro q
    refine go_a (pc' := 22) (ls' := [some (.ref (c + 1)), some (.int (iI k))]) (st' := [.int (iI 0)]) rfl rfl ?_
    exact go_r rfl rfl rfl rfl rfl rfl ⟨Or.inr ⟨q, rfl⟩, rfl⟩
  refine cl_go rfl ?_
  show xx_go (xt_P z) d 43 0 [some (.ref (c + 1)), some (.int (iI k))] [] hp _
  refine go_a (pc' := 1) (ls' := [some (.ref (c + 1)), some (.int (iI k))]) (st' := [.int (iI k)]) rfl rfl ?_
  refine mi_lt0 (t := 21) rfl rfl (by omega) (by omega) (fun q => no (by omega)) (fun q1 => ?_)
  refine go_a (pc' := 5) (ls' := [some (.ref (c + 1)), some (.int (iI k))]) (st' := [.int (iI k)]) rfl rfl ?_
  refine go_a (pc' := 6) (ls' := [some (.ref (c + 1)), some (.int (iI k))]) (st' := [.ref (c + 1), .int (iI k)]) rfl rfl ?_
  refine go_get (v := .int (iI (s.I 0))) rfl (hK.1 1 (by decide)) rfl rfl ?_
  refine mi_ge (t := 21) rfl rfl (by omega) (by omega) (by omega) (by omega) (fun q => no (by omega)) (fun q2 => ?_)
  refine go_a (pc' := 13) (ls' := [some (.ref (c + 1)), some (.int (iI k))]) (st' := [.ref (c + 1)]) rfl rfl ?_
  refine go_get (v := .ref (s.P 0)) rfl (hK.1 1 (by decide)) rfl rfl ?_
  refine go_a (pc' := 17) (ls' := [some (.ref (c + 1)), some (.int (iI k))]) (st' := [.int (iI k), .ref (s.P 0)]) rfl rfl ?_
  refine mi_ild (n := (s.C 0).toNat) (f := s.A 0) rfl (hK.1 21 (by decide)) (by omega) (by omega) (by omega) ?_
  refine go_a (pc' := 22) (ls' := [some (.ref (c + 1)), some (.int (iI k))]) (st' := [.int (iI (s.A 0 k))]) rfl rfl ?_
  exact go_r rfl rfl rfl rfl rfl rfl ⟨Or.inl ⟨by omega, by omega, rfl⟩, rfl⟩
theorem kr_cut_0 (z : Value) (d c : Nat) (n : Int) (hp : xx_H) (s : KS) (hK : KI c hp s) (hB : KB s) (n0 : -2147483648 ≤ n) (n1 : n < 2147483648) : xx_cl (xt_P z) (d + 1) 39 [.ref (c + 1), .int (iI n)] hp (fun v h1 => v = none ∧ ((0 ≤ n ∧ n < s.I 0 ∧ KI c h1 (s.wI 0 n) ∧ KB (s.wI 0 n) ∧ kx c hp s h1 (s.wI 0 n) 0 0) ∨ (¬ (0 ≤ n ∧ n < s.I 0) ∧ h1 = hp))) := by
  obtain ⟨b3, b2, b0, b1⟩ := hB.2.2.2.1 0 (by decide)
  have hX : kx c hp s hp s 0 0 := kx_rf
  have no : ¬ (0 ≤ n ∧ n < s.I 0) → xx_go (xt_P z) d 39 17 [some (.ref (c + 1)), some (.int (iI n))] [] hp (fun v h1 => v = none ∧ ((0 ≤ n ∧ n < s.I 0 ∧ KI c h1 (s.wI 0 n) ∧ KB (s.wI 0 n) ∧ kx c hp s h1 (s.wI 0 n) 0 0) ∨ (¬ (0 ≤ n ∧ n < s.I 0) ∧ h1 = hp))) := by
    intro q
    exact go_r rfl rfl rfl rfl rfl rfl ⟨rfl, Or.inr ⟨q, rfl⟩⟩
  refine cl_go rfl ?_
  show xx_go (xt_P z) d 39 0 [some (.ref (c + 1)), some (.int (iI n))] [] hp _
  refine go_a (pc' := 1) (ls' := [some (.ref (c + 1)), some (.int (iI n))]) (st' := [.int (iI n)]) rfl rfl ?_
  refine mi_lt0 (t := 17) rfl rfl (by omega) (by omega) (fun q => no (by omega)) (fun q1 => ?_)
  refine go_a (pc' := 5) (ls' := [some (.ref (c + 1)), some (.int (iI n))]) (st' := [.int (iI n)]) rfl rfl ?_
  refine go_a (pc' := 6) (ls' := [some (.ref (c + 1)), some (.int (iI n))]) (st' := [.ref (c + 1), .int (iI n)]) rfl rfl ?_
  refine go_get (v := .int (iI (s.I 0))) rfl (hK.1 1 (by decide)) rfl rfl ?_
  refine mi_ge (t := 17) rfl rfl (by omega) (by omega) (by omega) (by omega) (fun q => no (by omega)) (fun q2 => ?_)
  refine go_a (pc' := 13) (ls' := [some (.ref (c + 1)), some (.int (iI n))]) (st' := [.ref (c + 1)]) rfl rfl ?_
  refine go_a (pc' := 14) (ls' := [some (.ref (c + 1)), some (.int (iI n))]) (st' := [.int (iI n), .ref (c + 1)]) rfl rfl ?_
  refine kput_0 (x := n) hK hX rfl rfl (fun hp hK hX => ?_)
  exact go_r rfl rfl rfl rfl rfl rfl ⟨rfl, Or.inl ⟨by omega, by omega, hK, KB_wI hB (by omega) (by omega) (fun _ => by omega) (fun q => absurd q (by decide)) (by decide), hX⟩⟩
theorem kr_add_0 (z : Value) (d c : Nat) (x : Int) (hp : xx_H) (s : KS) (hK : KI c hp s) (hB : KB s) (b4 : s.I 0 < 4096) (x0 : -2147483648 ≤ x) (x1 : x ≤ 2147483647) : xx_cl (xt_P z) (d + 2) 35 [.ref (c + 1), .int (iI x)] hp (fun v h1 => v = none ∧ ∃ s1 : KS, KI c h1 s1 ∧ KB s1 ∧ kx c hp s h1 s1 0 0 ∧ KRW 0 s s1 ∧ s1.I = su s.I 0 (s.I 0 + 1) ∧ s.I 0 + 1 ≤ s1.C 0 ∧ s1.A 0 (s.I 0) = x ∧ ∀ e : Int, e < s.I 0 → s1.A 0 e = s.A 0 e) := by
  obtain ⟨b3, b2, b0, b1⟩ := hB.2.2.2.1 0 (by decide)
  have hX : kx c hp s hp s 0 0 := kx_rf
  refine cl_go rfl ?_
  show xx_go (xt_P z) (d + 1) 35 0 [some (.ref (c + 1)), some (.int (iI x))] [] hp _
  refine go_a (pc' := 1) (ls' := [some (.ref (c + 1)), some (.int (iI x))]) (st' := [.ref (c + 1)]) rfl rfl ?_
  refine go_get (v := .int (iI (s.I 0))) rfl (hK.1 1 (by decide)) rfl rfl ?_
  refine go_b (pc' := 6) (st' := [.int (iI 1048576), .int (iI (s.I 0))]) (h' := hp) rfl rfl rfl ?_
  refine mi_lt (t := 10) rfl rfl (by omega) (by omega) (by omega) (by omega) (fun _ => ?_) (fun q => absurd (show s.I 0 < 1048576 by omega) q)
  refine go_a (pc' := 11) (ls' := [some (.ref (c + 1)), some (.int (iI x))]) (st' := [.ref (c + 1)]) rfl rfl ?_
  refine go_get (v := .int (iI (s.I 0))) rfl (hK.1 1 (by decide)) rfl rfl ?_
  refine go_a (pc' := 15) (ls' := [some (.ref (c + 1)), some (.int (iI x))]) (st' := [.ref (c + 1), .int (iI (s.I 0))]) rfl rfl ?_
  refine go_get (v := .ref (s.P 0)) rfl (hK.1 1 (by decide)) rfl rfl ?_
  refine mk_len (n := s.C 0) rfl (hK.1 21 (by decide)) (xa_f_len _ _) (by omega) (by omega) ?_
  refine mi_lt (t := 40) rfl rfl (by omega) (by omega) (by omega) (by omega) (fun q => ?_) (fun q => ?_)
  · refine go_a (pc' := 41) (ls' := [some (.ref (c + 1)), some (.int (iI x))]) (st' := [.ref (c + 1)]) rfl rfl ?_
    refine go_get (v := .ref (s.P 0)) rfl (hK.1 1 (by decide)) rfl rfl ?_
    refine go_a (pc' := 45) (ls' := [some (.ref (c + 1)), some (.int (iI x))]) (st' := [.ref (c + 1), .ref (s.P 0)]) rfl rfl ?_
    refine go_get (v := .int (iI (s.I 0))) rfl (hK.1 1 (by decide)) rfl rfl ?_
    refine go_a (pc' := 49) (ls' := [some (.ref (c + 1)), some (.int (iI x))]) (st' := [.int (iI x), .int (iI (s.I 0)), .ref (s.P 0)]) rfl rfl ?_
    refine kist_0 (s := s) (x := x) (e := s.I 0) hK hX rfl (by omega) (show _ < s.C 0 by omega) (show s.C 0 ≤ 1000000 by omega) (fun hp hK hX => ?_)
    refine go_a (pc' := 51) (ls' := [some (.ref (c + 1)), some (.int (iI x))]) (st' := [.ref (c + 1)]) rfl rfl ?_
    refine go_a (pc' := 52) (ls' := [some (.ref (c + 1)), some (.int (iI x))]) (st' := [.ref (c + 1), .ref (c + 1)]) rfl rfl ?_
    refine go_get (v := .int (iI (s.I 0))) rfl (hK.1 1 (by decide)) rfl rfl ?_
    refine go_a (pc' := 56) (ls' := [some (.ref (c + 1)), some (.int (iI x))]) (st' := [.int (iI 1), .int (iI (s.I 0)), .ref (c + 1)]) rfl rfl ?_
    refine mi_add rfl ?_
    refine kput_0 (x := (s.I 0) + 1) hK hX rfl rfl (fun hp hK hX => ?_)
    exact go_r rfl rfl rfl rfl rfl rfl ⟨rfl, _, hK, KB_wI (KB_wA hB x0 x1) (by omega) (by omega) (fun _ => (show 0 ≤ s.I 0 + 1 ∧ s.I 0 + 1 ≤ s.C 0 by omega)) (fun q => absurd q (by decide)) (by decide), hX, ⟨rfl, rfl, fun i ne => ⟨sa_ne ne, rfl, rfl⟩, Int.le_refl _, b2⟩, rfl, (show s.I 0 + 1 ≤ s.C 0 by omega), sf_self, fun e q => sf_ne (by omega)⟩
  · refine go_a (pc' := 23) (ls' := [some (.ref (c + 1)), some (.int (iI x))]) (st' := [.ref (c + 1)]) rfl rfl ?_
    refine go_a (pc' := 24) (ls' := [some (.ref (c + 1)), some (.int (iI x))]) (st' := [.ref (c + 1), .ref (c + 1)]) rfl rfl ?_
    refine go_get (v := .ref (s.P 0)) rfl (hK.1 1 (by decide)) rfl rfl ?_
    refine go_a (pc' := 28) (ls' := [some (.ref (c + 1)), some (.int (iI x))]) (st' := [.ref (c + 1), .ref (s.P 0), .ref (c + 1)]) rfl rfl ?_
    refine go_get (v := .ref (s.P 0)) rfl (hK.1 1 (by decide)) rfl rfl ?_
    refine mk_len (n := s.C 0) rfl (hK.1 21 (by decide)) (xa_f_len _ _) (by omega) (by omega) ?_
    refine go_a (pc' := 33) (ls' := [some (.ref (c + 1)), some (.int (iI x))]) (st' := [.int (iI 2), .int (iI (s.C 0)), .ref (s.P 0), .ref (c + 1)]) rfl rfl ?_
    refine mi_mul rfl ?_
    refine go_s (m := 183) (as := [.ref (s.P 0), .int (iI ((s.C 0) * 2))]) (r := [.ref (c + 1)]) rfl rfl rfl rfl (xm_copyOf_int z d (s.P 0) (s.C 0) (s.C 0 * 2) (s.A 0) hp (ki_12 hK).2 (hK.1 21 (by decide)) (by omega) (by omega) (by omega) (by omega) (by omega)) (fun v h1 hq => ?_)
    obtain ⟨rfl, rfl⟩ := hq
    show xx_go (xt_P z) (d + 1) 35 37 [some (.ref (c + 1)), some (.int (iI x))] [.ref hp.length, .ref (c + 1)] ((hp ++ [.inl (.int, xa_f (s.C 0 * 2).toNat (cf (s.C 0) (s.A 0)))])) _
    refine kgrow_0 (m := s.C 0 * 2) (g := cf (s.C 0) (s.A 0)) hK hX rfl rfl (by omega) (by omega) (by omega) (fun hp1 hK hX => ?_)
    obtain ⟨s1, hs1⟩ : ∃ s1 : KS, s1 = s.wG 0 (s.C 0 * 2) (cf (s.C 0) (s.A 0)) hp.length := ⟨_, rfl⟩
    rw [← hs1] at hK hX
    have c1 : s1.C 0 = s.C 0 * 2 := by rw [hs1]; rfl
    have i1 : s1.I = s.I := by rw [hs1]; rfl
    have i1j : s1.I 0 = s.I 0 := by rw [i1]
    have a1 : s1.A 0 = cf (s.C 0) (s.A 0) := by rw [hs1]; rfl
    have fr : s1.N = s.N ∧ s1.T = s.T ∧ ∀ i : Nat, i ≠ 0 → s1.A i = s.A i ∧ s1.C i = s.C i ∧ s1.P i = s.P i := by
      rw [hs1]
      exact ⟨rfl, rfl, fun i ne => ⟨sw_ne ne, su_ne ne, un_ne ne⟩⟩
    have B1 : KB s1 := by
      rw [hs1]
      exact KB_wG hB (by decide) (by omega) (by omega) (cf_R (hB.1 0))
    refine go_a (pc' := 41) (ls' := [some (.ref (c + 1)), some (.int (iI x))]) (st' := [.ref (c + 1)]) rfl rfl ?_
    refine go_get (v := .ref (s1.P 0)) rfl (hK.1 1 (by decide)) rfl rfl ?_
    refine go_a (pc' := 45) (ls' := [some (.ref (c + 1)), some (.int (iI x))]) (st' := [.ref (c + 1), .ref (s1.P 0)]) rfl rfl ?_
    refine go_get (v := .int (iI (s1.I 0))) rfl (hK.1 1 (by decide)) rfl rfl ?_
    refine go_a (pc' := 49) (ls' := [some (.ref (c + 1)), some (.int (iI x))]) (st' := [.int (iI x), .int (iI (s1.I 0)), .ref (s1.P 0)]) rfl rfl ?_
    refine kist_0 (s := s1) (x := x) (e := s1.I 0) hK hX rfl (by omega) (show _ < s1.C 0 by omega) (show s1.C 0 ≤ 1000000 by omega) (fun hp hK hX => ?_)
    refine go_a (pc' := 51) (ls' := [some (.ref (c + 1)), some (.int (iI x))]) (st' := [.ref (c + 1)]) rfl rfl ?_
    refine go_a (pc' := 52) (ls' := [some (.ref (c + 1)), some (.int (iI x))]) (st' := [.ref (c + 1), .ref (c + 1)]) rfl rfl ?_
    refine go_get (v := .int (iI (s1.I 0))) rfl (hK.1 1 (by decide)) rfl rfl ?_
    refine go_a (pc' := 56) (ls' := [some (.ref (c + 1)), some (.int (iI x))]) (st' := [.int (iI 1), .int (iI (s1.I 0)), .ref (c + 1)]) rfl rfl ?_
    refine mi_add rfl ?_
    refine kput_0 (x := (s1.I 0) + 1) hK hX rfl rfl (fun hp hK hX => ?_)
    exact go_r rfl rfl rfl rfl rfl rfl ⟨rfl, _, hK, KB_wI (KB_wA B1 x0 x1) (by omega) (by omega) (fun _ => (show 0 ≤ s1.I 0 + 1 ∧ s1.I 0 + 1 ≤ s1.C 0 by omega)) (fun q => absurd q (by decide)) (by decide), hX, ⟨fr.1, fr.2.1, fun i ne => ⟨(sa_ne ne).trans (fr.2.2 i ne).1, (fr.2.2 i ne).2⟩, (show s.C 0 ≤ s1.C 0 by omega), (show s1.C 0 ≤ 8192 by omega)⟩, (show su s1.I 0 (s1.I 0 + 1) = _ by rw [i1]), (show s.I 0 + 1 ≤ s1.C 0 by omega), (show sf (s1.A 0) (s1.I 0) x (s.I 0) = x by rw [i1j]; exact sf_self), fun e q => (show sf (s1.A 0) (s1.I 0) x e = s.A 0 e by rw [i1j, sf_ne (by omega), a1]; exact if_pos (by omega))⟩
theorem kr_length_1 (z : Value) (d c : Nat) (hp : xx_H) (s : KS) (hK : KI c hp s) : xx_cl (xt_P z) (d + 1) 34 [.ref (c + 10)] hp (fun v h1 => v = some (.int (iI (s.I 1))) ∧ h1 = hp) := by
  refine cl_go rfl ?_
  show xx_go (xt_P z) d 34 0 [some (.ref (c + 10))] [] hp _
  refine go_a (pc' := 1) (ls' := [some (.ref (c + 10))]) (st' := [.ref (c + 10)]) rfl rfl ?_
  refine go_get (v := .int (iI (s.I 1))) rfl (hK.1 6 (by decide)) rfl rfl ?_
  exact go_r rfl rfl rfl rfl rfl rfl ⟨rfl, rfl⟩
theorem kr_last_1 (z : Value) (d c : Nat) (hp : xx_H) (s : KS) (hK : KI c hp s) (hB : KB s) : xx_cl (xt_P z) (d + 1) 44 [.ref (c + 10)] hp (fun v h1 => ((0 < s.I 1 ∧ v = some (.int (iI (s.A 1 (s.I 1 - 1))))) ∨ (s.I 1 = 0 ∧ v = some (.int (iI 0)))) ∧ h1 = hp) := by
  obtain ⟨b3, b2, b0, b1⟩ := hB.2.2.2.1 1 (by decide)
  refine cl_go rfl ?_
  show xx_go (xt_P z) d 44 0 [some (.ref (c + 10))] [] hp _
  refine go_a (pc' := 1) (ls' := [some (.ref (c + 10))]) (st' := [.ref (c + 10)]) rfl rfl ?_
  refine go_get (v := .int (iI (s.I 1))) rfl (hK.1 6 (by decide)) rfl rfl ?_
  refine mi_le0 (t := 21) rfl rfl (by omega) (by omega) (fun q => ?_) (fun q => ?_)
  · refine go_a (pc' := 22) (ls' := [some (.ref (c + 10))]) (st' := [.int (iI 0)]) rfl rfl ?_
    exact go_r rfl rfl rfl rfl rfl rfl ⟨Or.inr ⟨by omega, rfl⟩, rfl⟩
  · refine go_a (pc' := 8) (ls' := [some (.ref (c + 10))]) (st' := [.ref (c + 10)]) rfl rfl ?_
    refine go_get (v := .ref (s.P 1)) rfl (hK.1 6 (by decide)) rfl rfl ?_
    refine go_a (pc' := 12) (ls' := [some (.ref (c + 10))]) (st' := [.ref (c + 10), .ref (s.P 1)]) rfl rfl ?_
    refine go_get (v := .int (iI (s.I 1))) rfl (hK.1 6 (by decide)) rfl rfl ?_
    refine go_a (pc' := 16) (ls' := [some (.ref (c + 10))]) (st' := [.int (iI 1), .int (iI (s.I 1)), .ref (s.P 1)]) rfl rfl ?_
    refine mi_sub rfl ?_
    refine mi_ild (n := (s.C 1).toNat) (f := s.A 1) rfl (hK.1 22 (by decide)) (by omega) (by omega) (by omega) ?_
    refine go_a (pc' := 22) (ls' := [some (.ref (c + 10))]) (st' := [.int (iI (s.A 1 ((s.I 1) - 1)))]) rfl rfl ?_
    exact go_r rfl rfl rfl rfl rfl rfl ⟨Or.inl ⟨by omega, rfl⟩, rfl⟩
theorem kr_takeLast_1 (z : Value) (d c : Nat) (hp : xx_H) (s : KS) (hK : KI c hp s) (hB : KB s) : xx_cl (xt_P z) (d + 1) 192 [.ref (c + 10)] hp (fun v h1 => (s.I 1 = 0 ∧ v = some (.int (iI 0)) ∧ h1 = hp) ∨ (0 < s.I 1 ∧ v = some (.int (iI (s.A 1 (s.I 1 - 1)))) ∧ KI c h1 (s.wI 1 (s.I 1 - 1)) ∧ KB (s.wI 1 (s.I 1 - 1)) ∧ kx c hp s h1 (s.wI 1 (s.I 1 - 1)) 0 0)) := by
  obtain ⟨b3, b2, b0, b1⟩ := hB.2.2.2.1 1 (by decide)
  have hX : kx c hp s hp s 0 0 := kx_rf
  refine cl_go rfl ?_
  show xx_go (xt_P z) d 192 0 [some (.ref (c + 10))] [] hp _
  refine go_a (pc' := 1) (ls' := [some (.ref (c + 10))]) (st' := [.ref (c + 10)]) rfl rfl ?_
  refine go_get (v := .int (iI (s.I 1))) rfl (hK.1 6 (by decide)) rfl rfl ?_
  refine mi_gt0 (t := 9) rfl rfl (by omega) (by omega) (fun q => ?_) (fun q => ?_)
  · refine go_a (pc' := 10) (ls' := [some (.ref (c + 10))]) (st' := [.ref (c + 10)]) rfl rfl ?_
    refine go_a (pc' := 11) (ls' := [some (.ref (c + 10))]) (st' := [.ref (c + 10), .ref (c + 10)]) rfl rfl ?_
    refine go_get (v := .int (iI (s.I 1))) rfl (hK.1 6 (by decide)) rfl rfl ?_
    refine go_a (pc' := 15) (ls' := [some (.ref (c + 10))]) (st' := [.int (iI 1), .int (iI (s.I 1)), .ref (c + 10)]) rfl rfl ?_
    refine mi_sub rfl ?_
    refine kput_1 (x := (s.I 1) - 1) hK hX rfl rfl (fun hp hK hX => ?_)
    refine go_a (pc' := 20) (ls' := [some (.ref (c + 10))]) (st' := [.ref (c + 10)]) rfl rfl ?_
    refine go_get (v := .ref (s.P 1)) rfl (hK.1 6 (by decide)) rfl rfl ?_
    refine go_a (pc' := 24) (ls' := [some (.ref (c + 10))]) (st' := [.ref (c + 10), .ref (s.P 1)]) rfl rfl ?_
    refine go_get (v := .int (iI ((s.I 1) - 1))) rfl (hK.1 6 (by decide)) rfl rfl ?_
    refine mi_ild (n := (s.C 1).toNat) (f := (s.wI 1 ((s.I 1) - 1)).A 1) rfl (hK.1 22 (by decide)) (by omega) (by omega) (by omega) ?_
    exact go_r rfl rfl rfl rfl rfl rfl (Or.inr ⟨by omega, rfl, hK, KB_wI hB (by omega) (by omega) (fun _ => by omega) (fun q => absurd q (by decide)) (by decide), hX⟩)
  · refine go_a (pc' := 8) (ls' := [some (.ref (c + 10))]) (st' := [.int (iI 0)]) rfl rfl ?_
    exact go_r rfl rfl rfl rfl rfl rfl (Or.inl ⟨by omega, rfl, rfl⟩)
theorem kr_cut_1 (z : Value) (d c : Nat) (n : Int) (hp : xx_H) (s : KS) (hK : KI c hp s) (hB : KB s) (n0 : -2147483648 ≤ n) (n1 : n < 2147483648) : xx_cl (xt_P z) (d + 1) 39 [.ref (c + 10), .int (iI n)] hp (fun v h1 => v = none ∧ ((0 ≤ n ∧ n < s.I 1 ∧ KI c h1 (s.wI 1 n) ∧ KB (s.wI 1 n) ∧ kx c hp s h1 (s.wI 1 n) 0 0) ∨ (¬ (0 ≤ n ∧ n < s.I 1) ∧ h1 = hp))) := by
  obtain ⟨b3, b2, b0, b1⟩ := hB.2.2.2.1 1 (by decide)
  have hX : kx c hp s hp s 0 0 := kx_rf
  have no : ¬ (0 ≤ n ∧ n < s.I 1) → xx_go (xt_P z) d 39 17 [some (.ref (c + 10)), some (.int (iI n))] [] hp (fun v h1 => v = none ∧ ((0 ≤ n ∧ n < s.I 1 ∧ KI c h1 (s.wI 1 n) ∧ KB (s.wI 1 n) ∧ kx c hp s h1 (s.wI 1 n) 0 0) ∨ (¬ (0 ≤ n ∧ n < s.I 1) ∧ h1 = hp))) := by
    intro q
    exact go_r rfl rfl rfl rfl rfl rfl ⟨rfl, Or.inr ⟨q, rfl⟩⟩
  refine cl_go rfl ?_
  show xx_go (xt_P z) d 39 0 [some (.ref (c + 10)), some (.int (iI n))] [] hp _
  refine go_a (pc' := 1) (ls' := [some (.ref (c + 10)), some (.int (iI n))]) (st' := [.int (iI n)]) rfl rfl ?_
  refine mi_lt0 (t := 17) rfl rfl (by omega) (by omega) (fun q => no (by omega)) (fun q1 => ?_)
  refine go_a (pc' := 5) (ls' := [some (.ref (c + 10)), some (.int (iI n))]) (st' := [.int (iI n)]) rfl rfl ?_
  refine go_a (pc' := 6) (ls' := [some (.ref (c + 10)), some (.int (iI n))]) (st' := [.ref (c + 10), .int (iI n)]) rfl rfl ?_
  refine go_get (v := .int (iI (s.I 1))) rfl (hK.1 6 (by decide)) rfl rfl ?_
  refine mi_ge (t := 17) rfl rfl (by omega) (by omega) (by omega) (by omega) (fun q => no (by omega)) (fun q2 => ?_)
  refine go_a (pc' := 13) (ls' := [some (.ref (c + 10)), some (.int (iI n))]) (st' := [.ref (c + 10)]) rfl rfl ?_
  refine go_a (pc' := 14) (ls' := [some (.ref (c + 10)), some (.int (iI n))]) (st' := [.int (iI n), .ref (c + 10)]) rfl rfl ?_
  refine kput_1 (x := n) hK hX rfl rfl (fun hp hK hX => ?_)
  exact go_r rfl rfl rfl rfl rfl rfl ⟨rfl, Or.inl ⟨by omega, by omega, hK, KB_wI hB (by omega) (by omega) (fun _ => by omega) (fun q => absurd q (by decide)) (by decide), hX⟩⟩
theorem kr_add_1 (z : Value) (d c : Nat) (x : Int) (hp : xx_H) (s : KS) (hK : KI c hp s) (hB : KB s) (b4 : s.I 1 < 4096) (x0 : -2147483648 ≤ x) (x1 : x ≤ 2147483647) : xx_cl (xt_P z) (d + 2) 35 [.ref (c + 10), .int (iI x)] hp (fun v h1 => v = none ∧ ∃ s1 : KS, KI c h1 s1 ∧ KB s1 ∧ kx c hp s h1 s1 0 0 ∧ KRW 1 s s1 ∧ s1.I = su s.I 1 (s.I 1 + 1) ∧ s.I 1 + 1 ≤ s1.C 1 ∧ s1.A 1 (s.I 1) = x ∧ ∀ e : Int, e < s.I 1 → s1.A 1 e = s.A 1 e) := by
  obtain ⟨b3, b2, b0, b1⟩ := hB.2.2.2.1 1 (by decide)
  have hX : kx c hp s hp s 0 0 := kx_rf
  refine cl_go rfl ?_
  show xx_go (xt_P z) (d + 1) 35 0 [some (.ref (c + 10)), some (.int (iI x))] [] hp _
  refine go_a (pc' := 1) (ls' := [some (.ref (c + 10)), some (.int (iI x))]) (st' := [.ref (c + 10)]) rfl rfl ?_
  refine go_get (v := .int (iI (s.I 1))) rfl (hK.1 6 (by decide)) rfl rfl ?_
  refine go_b (pc' := 6) (st' := [.int (iI 1048576), .int (iI (s.I 1))]) (h' := hp) rfl rfl rfl ?_
  refine mi_lt (t := 10) rfl rfl (by omega) (by omega) (by omega) (by omega) (fun _ => ?_) (fun q => absurd (show s.I 1 < 1048576 by omega) q)
  refine go_a (pc' := 11) (ls' := [some (.ref (c + 10)), some (.int (iI x))]) (st' := [.ref (c + 10)]) rfl rfl ?_
  refine go_get (v := .int (iI (s.I 1))) rfl (hK.1 6 (by decide)) rfl rfl ?_
  refine go_a (pc' := 15) (ls' := [some (.ref (c + 10)), some (.int (iI x))]) (st' := [.ref (c + 10), .int (iI (s.I 1))]) rfl rfl ?_
  refine go_get (v := .ref (s.P 1)) rfl (hK.1 6 (by decide)) rfl rfl ?_
  refine mk_len (n := s.C 1) rfl (hK.1 22 (by decide)) (xa_f_len _ _) (by omega) (by omega) ?_
  refine mi_lt (t := 40) rfl rfl (by omega) (by omega) (by omega) (by omega) (fun q => ?_) (fun q => ?_)
  · refine go_a (pc' := 41) (ls' := [some (.ref (c + 10)), some (.int (iI x))]) (st' := [.ref (c + 10)]) rfl rfl ?_
    refine go_get (v := .ref (s.P 1)) rfl (hK.1 6 (by decide)) rfl rfl ?_
    refine go_a (pc' := 45) (ls' := [some (.ref (c + 10)), some (.int (iI x))]) (st' := [.ref (c + 10), .ref (s.P 1)]) rfl rfl ?_
    refine go_get (v := .int (iI (s.I 1))) rfl (hK.1 6 (by decide)) rfl rfl ?_
    refine go_a (pc' := 49) (ls' := [some (.ref (c + 10)), some (.int (iI x))]) (st' := [.int (iI x), .int (iI (s.I 1)), .ref (s.P 1)]) rfl rfl ?_
    refine kist_1 (s := s) (x := x) (e := s.I 1) hK hX rfl (by omega) (show _ < s.C 1 by omega) (show s.C 1 ≤ 1000000 by omega) (fun hp hK hX => ?_)
    refine go_a (pc' := 51) (ls' := [some (.ref (c + 10)), some (.int (iI x))]) (st' := [.ref (c + 10)]) rfl rfl ?_
    refine go_a (pc' := 52) (ls' := [some (.ref (c + 10)), some (.int (iI x))]) (st' := [.ref (c + 10), .ref (c + 10)]) rfl rfl ?_
    refine go_get (v := .int (iI (s.I 1))) rfl (hK.1 6 (by decide)) rfl rfl ?_
    refine go_a (pc' := 56) (ls' := [some (.ref (c + 10)), some (.int (iI x))]) (st' := [.int (iI 1), .int (iI (s.I 1)), .ref (c + 10)]) rfl rfl ?_
    refine mi_add rfl ?_
    refine kput_1 (x := (s.I 1) + 1) hK hX rfl rfl (fun hp hK hX => ?_)
    exact go_r rfl rfl rfl rfl rfl rfl ⟨rfl, _, hK, KB_wI (KB_wA hB x0 x1) (by omega) (by omega) (fun _ => (show 0 ≤ s.I 1 + 1 ∧ s.I 1 + 1 ≤ s.C 1 by omega)) (fun q => absurd q (by decide)) (by decide), hX, ⟨rfl, rfl, fun i ne => ⟨sa_ne ne, rfl, rfl⟩, Int.le_refl _, b2⟩, rfl, (show s.I 1 + 1 ≤ s.C 1 by omega), sf_self, fun e q => sf_ne (by omega)⟩
  · refine go_a (pc' := 23) (ls' := [some (.ref (c + 10)), some (.int (iI x))]) (st' := [.ref (c + 10)]) rfl rfl ?_
    refine go_a (pc' := 24) (ls' := [some (.ref (c + 10)), some (.int (iI x))]) (st' := [.ref (c + 10), .ref (c + 10)]) rfl rfl ?_
    refine go_get (v := .ref (s.P 1)) rfl (hK.1 6 (by decide)) rfl rfl ?_
    refine go_a (pc' := 28) (ls' := [some (.ref (c + 10)), some (.int (iI x))]) (st' := [.ref (c + 10), .ref (s.P 1), .ref (c + 10)]) rfl rfl ?_
    refine go_get (v := .ref (s.P 1)) rfl (hK.1 6 (by decide)) rfl rfl ?_
    refine mk_len (n := s.C 1) rfl (hK.1 22 (by decide)) (xa_f_len _ _) (by omega) (by omega) ?_
    refine go_a (pc' := 33) (ls' := [some (.ref (c + 10)), some (.int (iI x))]) (st' := [.int (iI 2), .int (iI (s.C 1)), .ref (s.P 1), .ref (c + 10)]) rfl rfl ?_
    refine mi_mul rfl ?_
    refine go_s (m := 183) (as := [.ref (s.P 1), .int (iI ((s.C 1) * 2))]) (r := [.ref (c + 10)]) rfl rfl rfl rfl (xm_copyOf_int z d (s.P 1) (s.C 1) (s.C 1 * 2) (s.A 1) hp (ki_12 hK).2 (hK.1 22 (by decide)) (by omega) (by omega) (by omega) (by omega) (by omega)) (fun v h1 hq => ?_)
    obtain ⟨rfl, rfl⟩ := hq
    show xx_go (xt_P z) (d + 1) 35 37 [some (.ref (c + 10)), some (.int (iI x))] [.ref hp.length, .ref (c + 10)] ((hp ++ [.inl (.int, xa_f (s.C 1 * 2).toNat (cf (s.C 1) (s.A 1)))])) _
    refine kgrow_1 (m := s.C 1 * 2) (g := cf (s.C 1) (s.A 1)) hK hX rfl rfl (by omega) (by omega) (by omega) (fun hp1 hK hX => ?_)
    obtain ⟨s1, hs1⟩ : ∃ s1 : KS, s1 = s.wG 1 (s.C 1 * 2) (cf (s.C 1) (s.A 1)) hp.length := ⟨_, rfl⟩
    rw [← hs1] at hK hX
    have c1 : s1.C 1 = s.C 1 * 2 := by rw [hs1]; rfl
    have i1 : s1.I = s.I := by rw [hs1]; rfl
    have i1j : s1.I 1 = s.I 1 := by rw [i1]
    have a1 : s1.A 1 = cf (s.C 1) (s.A 1) := by rw [hs1]; rfl
    have fr : s1.N = s.N ∧ s1.T = s.T ∧ ∀ i : Nat, i ≠ 1 → s1.A i = s.A i ∧ s1.C i = s.C i ∧ s1.P i = s.P i := by
      rw [hs1]
      exact ⟨rfl, rfl, fun i ne => ⟨sw_ne ne, su_ne ne, un_ne ne⟩⟩
    have B1 : KB s1 := by
      rw [hs1]
      exact KB_wG hB (by decide) (by omega) (by omega) (cf_R (hB.1 1))
    refine go_a (pc' := 41) (ls' := [some (.ref (c + 10)), some (.int (iI x))]) (st' := [.ref (c + 10)]) rfl rfl ?_
    refine go_get (v := .ref (s1.P 1)) rfl (hK.1 6 (by decide)) rfl rfl ?_
    refine go_a (pc' := 45) (ls' := [some (.ref (c + 10)), some (.int (iI x))]) (st' := [.ref (c + 10), .ref (s1.P 1)]) rfl rfl ?_
    refine go_get (v := .int (iI (s1.I 1))) rfl (hK.1 6 (by decide)) rfl rfl ?_
    refine go_a (pc' := 49) (ls' := [some (.ref (c + 10)), some (.int (iI x))]) (st' := [.int (iI x), .int (iI (s1.I 1)), .ref (s1.P 1)]) rfl rfl ?_
    refine kist_1 (s := s1) (x := x) (e := s1.I 1) hK hX rfl (by omega) (show _ < s1.C 1 by omega) (show s1.C 1 ≤ 1000000 by omega) (fun hp hK hX => ?_)
    refine go_a (pc' := 51) (ls' := [some (.ref (c + 10)), some (.int (iI x))]) (st' := [.ref (c + 10)]) rfl rfl ?_
    refine go_a (pc' := 52) (ls' := [some (.ref (c + 10)), some (.int (iI x))]) (st' := [.ref (c + 10), .ref (c + 10)]) rfl rfl ?_
    refine go_get (v := .int (iI (s1.I 1))) rfl (hK.1 6 (by decide)) rfl rfl ?_
    refine go_a (pc' := 56) (ls' := [some (.ref (c + 10)), some (.int (iI x))]) (st' := [.int (iI 1), .int (iI (s1.I 1)), .ref (c + 10)]) rfl rfl ?_
    refine mi_add rfl ?_
    refine kput_1 (x := (s1.I 1) + 1) hK hX rfl rfl (fun hp hK hX => ?_)
    exact go_r rfl rfl rfl rfl rfl rfl ⟨rfl, _, hK, KB_wI (KB_wA B1 x0 x1) (by omega) (by omega) (fun _ => (show 0 ≤ s1.I 1 + 1 ∧ s1.I 1 + 1 ≤ s1.C 1 by omega)) (fun q => absurd q (by decide)) (by decide), hX, ⟨fr.1, fr.2.1, fun i ne => ⟨(sa_ne ne).trans (fr.2.2 i ne).1, (fr.2.2 i ne).2⟩, (show s.C 1 ≤ s1.C 1 by omega), (show s1.C 1 ≤ 8192 by omega)⟩, (show su s1.I 1 (s1.I 1 + 1) = _ by rw [i1]), (show s.I 1 + 1 ≤ s1.C 1 by omega), (show sf (s1.A 1) (s1.I 1) x (s.I 1) = x by rw [i1j]; exact sf_self), fun e q => (show sf (s1.A 1) (s1.I 1) x e = s.A 1 e by rw [i1j, sf_ne (by omega), a1]; exact if_pos (by omega))⟩
theorem kr_takeLast_2 (z : Value) (d c : Nat) (hp : xx_H) (s : KS) (hK : KI c hp s) (hB : KB s) : xx_cl (xt_P z) (d + 1) 192 [.ref (c + 12)] hp (fun v h1 => (s.I 2 = 0 ∧ v = some (.int (iI 0)) ∧ h1 = hp) ∨ (0 < s.I 2 ∧ v = some (.int (iI (s.A 2 (s.I 2 - 1)))) ∧ KI c h1 (s.wI 2 (s.I 2 - 1)) ∧ KB (s.wI 2 (s.I 2 - 1)) ∧ kx c hp s h1 (s.wI 2 (s.I 2 - 1)) 0 0)) := by
  obtain ⟨b3, b2, b0, b1⟩ := hB.2.2.2.1 2 (by decide)
  have hX : kx c hp s hp s 0 0 := kx_rf
  refine cl_go rfl ?_
  show xx_go (xt_P z) d 192 0 [some (.ref (c + 12))] [] hp _
  refine go_a (pc' := 1) (ls' := [some (.ref (c + 12))]) (st' := [.ref (c + 12)]) rfl rfl ?_
  refine go_get (v := .int (iI (s.I 2))) rfl (hK.1 7 (by decide)) rfl rfl ?_
  refine mi_gt0 (t := 9) rfl rfl (by omega) (by omega) (fun q => ?_) (fun q => ?_)
  · refine go_a (pc' := 10) (ls' := [some (.ref (c + 12))]) (st' := [.ref (c + 12)]) rfl rfl ?_
    refine go_a (pc' := 11) (ls' := [some (.ref (c + 12))]) (st' := [.ref (c + 12), .ref (c + 12)]) rfl rfl ?_
    refine go_get (v := .int (iI (s.I 2))) rfl (hK.1 7 (by decide)) rfl rfl ?_
    refine go_a (pc' := 15) (ls' := [some (.ref (c + 12))]) (st' := [.int (iI 1), .int (iI (s.I 2)), .ref (c + 12)]) rfl rfl ?_
    refine mi_sub rfl ?_
    refine kput_2 (x := (s.I 2) - 1) hK hX rfl rfl (fun hp hK hX => ?_)
    refine go_a (pc' := 20) (ls' := [some (.ref (c + 12))]) (st' := [.ref (c + 12)]) rfl rfl ?_
    refine go_get (v := .ref (s.P 2)) rfl (hK.1 7 (by decide)) rfl rfl ?_
    refine go_a (pc' := 24) (ls' := [some (.ref (c + 12))]) (st' := [.ref (c + 12), .ref (s.P 2)]) rfl rfl ?_
    refine go_get (v := .int (iI ((s.I 2) - 1))) rfl (hK.1 7 (by decide)) rfl rfl ?_
    refine mi_ild (n := (s.C 2).toNat) (f := (s.wI 2 ((s.I 2) - 1)).A 2) rfl (hK.1 23 (by decide)) (by omega) (by omega) (by omega) ?_
    exact go_r rfl rfl rfl rfl rfl rfl (Or.inr ⟨by omega, rfl, hK, KB_wI hB (by omega) (by omega) (fun _ => by omega) (fun q => absurd q (by decide)) (by decide), hX⟩)
  · refine go_a (pc' := 8) (ls' := [some (.ref (c + 12))]) (st' := [.int (iI 0)]) rfl rfl ?_
    exact go_r rfl rfl rfl rfl rfl rfl (Or.inl ⟨by omega, rfl, rfl⟩)
theorem kr_cut_2 (z : Value) (d c : Nat) (n : Int) (hp : xx_H) (s : KS) (hK : KI c hp s) (hB : KB s) (n0 : -2147483648 ≤ n) (n1 : n < 2147483648) : xx_cl (xt_P z) (d + 1) 39 [.ref (c + 12), .int (iI n)] hp (fun v h1 => v = none ∧ ((0 ≤ n ∧ n < s.I 2 ∧ KI c h1 (s.wI 2 n) ∧ KB (s.wI 2 n) ∧ kx c hp s h1 (s.wI 2 n) 0 0) ∨ (¬ (0 ≤ n ∧ n < s.I 2) ∧ h1 = hp))) := by
  obtain ⟨b3, b2, b0, b1⟩ := hB.2.2.2.1 2 (by decide)
  have hX : kx c hp s hp s 0 0 := kx_rf
  have no : ¬ (0 ≤ n ∧ n < s.I 2) → xx_go (xt_P z) d 39 17 [some (.ref (c + 12)), some (.int (iI n))] [] hp (fun v h1 => v = none ∧ ((0 ≤ n ∧ n < s.I 2 ∧ KI c h1 (s.wI 2 n) ∧ KB (s.wI 2 n) ∧ kx c hp s h1 (s.wI 2 n) 0 0) ∨ (¬ (0 ≤ n ∧ n < s.I 2) ∧ h1 = hp))) := by
    intro q
    exact go_r rfl rfl rfl rfl rfl rfl ⟨rfl, Or.inr ⟨q, rfl⟩⟩
  refine cl_go rfl ?_
  show xx_go (xt_P z) d 39 0 [some (.ref (c + 12)), some (.int (iI n))] [] hp _
  refine go_a (pc' := 1) (ls' := [some (.ref (c + 12)), some (.int (iI n))]) (st' := [.int (iI n)]) rfl rfl ?_
  refine mi_lt0 (t := 17) rfl rfl (by omega) (by omega) (fun q => no (by omega)) (fun q1 => ?_)
  refine go_a (pc' := 5) (ls' := [some (.ref (c + 12)), some (.int (iI n))]) (st' := [.int (iI n)]) rfl rfl ?_
  refine go_a (pc' := 6) (ls' := [some (.ref (c + 12)), some (.int (iI n))]) (st' := [.ref (c + 12), .int (iI n)]) rfl rfl ?_
  refine go_get (v := .int (iI (s.I 2))) rfl (hK.1 7 (by decide)) rfl rfl ?_
  refine mi_ge (t := 17) rfl rfl (by omega) (by omega) (by omega) (by omega) (fun q => no (by omega)) (fun q2 => ?_)
  refine go_a (pc' := 13) (ls' := [some (.ref (c + 12)), some (.int (iI n))]) (st' := [.ref (c + 12)]) rfl rfl ?_
  refine go_a (pc' := 14) (ls' := [some (.ref (c + 12)), some (.int (iI n))]) (st' := [.int (iI n), .ref (c + 12)]) rfl rfl ?_
  refine kput_2 (x := n) hK hX rfl rfl (fun hp hK hX => ?_)
  exact go_r rfl rfl rfl rfl rfl rfl ⟨rfl, Or.inl ⟨by omega, by omega, hK, KB_wI hB (by omega) (by omega) (fun _ => by omega) (fun q => absurd q (by decide)) (by decide), hX⟩⟩
theorem kr_add_2 (z : Value) (d c : Nat) (x : Int) (hp : xx_H) (s : KS) (hK : KI c hp s) (hB : KB s) (b4 : s.I 2 < 4096) (x0 : -2147483648 ≤ x) (x1 : x ≤ 2147483647) : xx_cl (xt_P z) (d + 2) 35 [.ref (c + 12), .int (iI x)] hp (fun v h1 => v = none ∧ ∃ s1 : KS, KI c h1 s1 ∧ KB s1 ∧ kx c hp s h1 s1 0 0 ∧ KRW 2 s s1 ∧ s1.I = su s.I 2 (s.I 2 + 1) ∧ s.I 2 + 1 ≤ s1.C 2 ∧ s1.A 2 (s.I 2) = x ∧ ∀ e : Int, e < s.I 2 → s1.A 2 e = s.A 2 e) := by
  obtain ⟨b3, b2, b0, b1⟩ := hB.2.2.2.1 2 (by decide)
  have hX : kx c hp s hp s 0 0 := kx_rf
  refine cl_go rfl ?_
  show xx_go (xt_P z) (d + 1) 35 0 [some (.ref (c + 12)), some (.int (iI x))] [] hp _
  refine go_a (pc' := 1) (ls' := [some (.ref (c + 12)), some (.int (iI x))]) (st' := [.ref (c + 12)]) rfl rfl ?_
  refine go_get (v := .int (iI (s.I 2))) rfl (hK.1 7 (by decide)) rfl rfl ?_
  refine go_b (pc' := 6) (st' := [.int (iI 1048576), .int (iI (s.I 2))]) (h' := hp) rfl rfl rfl ?_
  refine mi_lt (t := 10) rfl rfl (by omega) (by omega) (by omega) (by omega) (fun _ => ?_) (fun q => absurd (show s.I 2 < 1048576 by omega) q)
  refine go_a (pc' := 11) (ls' := [some (.ref (c + 12)), some (.int (iI x))]) (st' := [.ref (c + 12)]) rfl rfl ?_
  refine go_get (v := .int (iI (s.I 2))) rfl (hK.1 7 (by decide)) rfl rfl ?_
  refine go_a (pc' := 15) (ls' := [some (.ref (c + 12)), some (.int (iI x))]) (st' := [.ref (c + 12), .int (iI (s.I 2))]) rfl rfl ?_
  refine go_get (v := .ref (s.P 2)) rfl (hK.1 7 (by decide)) rfl rfl ?_
  refine mk_len (n := s.C 2) rfl (hK.1 23 (by decide)) (xa_f_len _ _) (by omega) (by omega) ?_
  refine mi_lt (t := 40) rfl rfl (by omega) (by omega) (by omega) (by omega) (fun q => ?_) (fun q => ?_)
  · refine go_a (pc' := 41) (ls' := [some (.ref (c + 12)), some (.int (iI x))]) (st' := [.ref (c + 12)]) rfl rfl ?_
    refine go_get (v := .ref (s.P 2)) rfl (hK.1 7 (by decide)) rfl rfl ?_
    refine go_a (pc' := 45) (ls' := [some (.ref (c + 12)), some (.int (iI x))]) (st' := [.ref (c + 12), .ref (s.P 2)]) rfl rfl ?_
    refine go_get (v := .int (iI (s.I 2))) rfl (hK.1 7 (by decide)) rfl rfl ?_
    refine go_a (pc' := 49) (ls' := [some (.ref (c + 12)), some (.int (iI x))]) (st' := [.int (iI x), .int (iI (s.I 2)), .ref (s.P 2)]) rfl rfl ?_
    refine kist_2 (s := s) (x := x) (e := s.I 2) hK hX rfl (by omega) (show _ < s.C 2 by omega) (show s.C 2 ≤ 1000000 by omega) (fun hp hK hX => ?_)
    refine go_a (pc' := 51) (ls' := [some (.ref (c + 12)), some (.int (iI x))]) (st' := [.ref (c + 12)]) rfl rfl ?_
    refine go_a (pc' := 52) (ls' := [some (.ref (c + 12)), some (.int (iI x))]) (st' := [.ref (c + 12), .ref (c + 12)]) rfl rfl ?_
    refine go_get (v := .int (iI (s.I 2))) rfl (hK.1 7 (by decide)) rfl rfl ?_
    refine go_a (pc' := 56) (ls' := [some (.ref (c + 12)), some (.int (iI x))]) (st' := [.int (iI 1), .int (iI (s.I 2)), .ref (c + 12)]) rfl rfl ?_
    refine mi_add rfl ?_
    refine kput_2 (x := (s.I 2) + 1) hK hX rfl rfl (fun hp hK hX => ?_)
    exact go_r rfl rfl rfl rfl rfl rfl ⟨rfl, _, hK, KB_wI (KB_wA hB x0 x1) (by omega) (by omega) (fun _ => (show 0 ≤ s.I 2 + 1 ∧ s.I 2 + 1 ≤ s.C 2 by omega)) (fun q => absurd q (by decide)) (by decide), hX, ⟨rfl, rfl, fun i ne => ⟨sa_ne ne, rfl, rfl⟩, Int.le_refl _, b2⟩, rfl, (show s.I 2 + 1 ≤ s.C 2 by omega), sf_self, fun e q => sf_ne (by omega)⟩
  · refine go_a (pc' := 23) (ls' := [some (.ref (c + 12)), some (.int (iI x))]) (st' := [.ref (c + 12)]) rfl rfl ?_
    refine go_a (pc' := 24) (ls' := [some (.ref (c + 12)), some (.int (iI x))]) (st' := [.ref (c + 12), .ref (c + 12)]) rfl rfl ?_
    refine go_get (v := .ref (s.P 2)) rfl (hK.1 7 (by decide)) rfl rfl ?_
    refine go_a (pc' := 28) (ls' := [some (.ref (c + 12)), some (.int (iI x))]) (st' := [.ref (c + 12), .ref (s.P 2), .ref (c + 12)]) rfl rfl ?_
    refine go_get (v := .ref (s.P 2)) rfl (hK.1 7 (by decide)) rfl rfl ?_
    refine mk_len (n := s.C 2) rfl (hK.1 23 (by decide)) (xa_f_len _ _) (by omega) (by omega) ?_
    refine go_a (pc' := 33) (ls' := [some (.ref (c + 12)), some (.int (iI x))]) (st' := [.int (iI 2), .int (iI (s.C 2)), .ref (s.P 2), .ref (c + 12)]) rfl rfl ?_
    refine mi_mul rfl ?_
    refine go_s (m := 183) (as := [.ref (s.P 2), .int (iI ((s.C 2) * 2))]) (r := [.ref (c + 12)]) rfl rfl rfl rfl (xm_copyOf_int z d (s.P 2) (s.C 2) (s.C 2 * 2) (s.A 2) hp (ki_12 hK).2 (hK.1 23 (by decide)) (by omega) (by omega) (by omega) (by omega) (by omega)) (fun v h1 hq => ?_)
    obtain ⟨rfl, rfl⟩ := hq
    show xx_go (xt_P z) (d + 1) 35 37 [some (.ref (c + 12)), some (.int (iI x))] [.ref hp.length, .ref (c + 12)] ((hp ++ [.inl (.int, xa_f (s.C 2 * 2).toNat (cf (s.C 2) (s.A 2)))])) _
    refine kgrow_2 (m := s.C 2 * 2) (g := cf (s.C 2) (s.A 2)) hK hX rfl rfl (by omega) (by omega) (by omega) (fun hp1 hK hX => ?_)
    obtain ⟨s1, hs1⟩ : ∃ s1 : KS, s1 = s.wG 2 (s.C 2 * 2) (cf (s.C 2) (s.A 2)) hp.length := ⟨_, rfl⟩
    rw [← hs1] at hK hX
    have c1 : s1.C 2 = s.C 2 * 2 := by rw [hs1]; rfl
    have i1 : s1.I = s.I := by rw [hs1]; rfl
    have i1j : s1.I 2 = s.I 2 := by rw [i1]
    have a1 : s1.A 2 = cf (s.C 2) (s.A 2) := by rw [hs1]; rfl
    have fr : s1.N = s.N ∧ s1.T = s.T ∧ ∀ i : Nat, i ≠ 2 → s1.A i = s.A i ∧ s1.C i = s.C i ∧ s1.P i = s.P i := by
      rw [hs1]
      exact ⟨rfl, rfl, fun i ne => ⟨sw_ne ne, su_ne ne, un_ne ne⟩⟩
    have B1 : KB s1 := by
      rw [hs1]
      exact KB_wG hB (by decide) (by omega) (by omega) (cf_R (hB.1 2))
    refine go_a (pc' := 41) (ls' := [some (.ref (c + 12)), some (.int (iI x))]) (st' := [.ref (c + 12)]) rfl rfl ?_
    refine go_get (v := .ref (s1.P 2)) rfl (hK.1 7 (by decide)) rfl rfl ?_
    refine go_a (pc' := 45) (ls' := [some (.ref (c + 12)), some (.int (iI x))]) (st' := [.ref (c + 12), .ref (s1.P 2)]) rfl rfl ?_
    refine go_get (v := .int (iI (s1.I 2))) rfl (hK.1 7 (by decide)) rfl rfl ?_
    refine go_a (pc' := 49) (ls' := [some (.ref (c + 12)), some (.int (iI x))]) (st' := [.int (iI x), .int (iI (s1.I 2)), .ref (s1.P 2)]) rfl rfl ?_
    refine kist_2 (s := s1) (x := x) (e := s1.I 2) hK hX rfl (by omega) (show _ < s1.C 2 by omega) (show s1.C 2 ≤ 1000000 by omega) (fun hp hK hX => ?_)
    refine go_a (pc' := 51) (ls' := [some (.ref (c + 12)), some (.int (iI x))]) (st' := [.ref (c + 12)]) rfl rfl ?_
    refine go_a (pc' := 52) (ls' := [some (.ref (c + 12)), some (.int (iI x))]) (st' := [.ref (c + 12), .ref (c + 12)]) rfl rfl ?_
    refine go_get (v := .int (iI (s1.I 2))) rfl (hK.1 7 (by decide)) rfl rfl ?_
    refine go_a (pc' := 56) (ls' := [some (.ref (c + 12)), some (.int (iI x))]) (st' := [.int (iI 1), .int (iI (s1.I 2)), .ref (c + 12)]) rfl rfl ?_
    refine mi_add rfl ?_
    refine kput_2 (x := (s1.I 2) + 1) hK hX rfl rfl (fun hp hK hX => ?_)
    exact go_r rfl rfl rfl rfl rfl rfl ⟨rfl, _, hK, KB_wI (KB_wA B1 x0 x1) (by omega) (by omega) (fun _ => (show 0 ≤ s1.I 2 + 1 ∧ s1.I 2 + 1 ≤ s1.C 2 by omega)) (fun q => absurd q (by decide)) (by decide), hX, ⟨fr.1, fr.2.1, fun i ne => ⟨(sa_ne ne).trans (fr.2.2 i ne).1, (fr.2.2 i ne).2⟩, (show s.C 2 ≤ s1.C 2 by omega), (show s1.C 2 ≤ 8192 by omega)⟩, (show su s1.I 2 (s1.I 2 + 1) = _ by rw [i1]), (show s.I 2 + 1 ≤ s1.C 2 by omega), (show sf (s1.A 2) (s1.I 2) x (s.I 2) = x by rw [i1j]; exact sf_self), fun e q => (show sf (s1.A 2) (s1.I 2) x e = s.A 2 e by rw [i1j, sf_ne (by omega), a1]; exact if_pos (by omega))⟩
theorem kr_length_3 (z : Value) (d c : Nat) (hp : xx_H) (s : KS) (hK : KI c hp s) : xx_cl (xt_P z) (d + 1) 34 [.ref (c + 14)] hp (fun v h1 => v = some (.int (iI (s.I 3))) ∧ h1 = hp) := by
  refine cl_go rfl ?_
  show xx_go (xt_P z) d 34 0 [some (.ref (c + 14))] [] hp _
  refine go_a (pc' := 1) (ls' := [some (.ref (c + 14))]) (st' := [.ref (c + 14)]) rfl rfl ?_
  refine go_get (v := .int (iI (s.I 3))) rfl (hK.1 8 (by decide)) rfl rfl ?_
  exact go_r rfl rfl rfl rfl rfl rfl ⟨rfl, rfl⟩
theorem kr_at_3 (z : Value) (d c : Nat) (k : Int) (hp : xx_H) (s : KS) (hK : KI c hp s) (hB : KB s) (k0 : -2147483648 ≤ k) (k1 : k < 2147483648) : xx_cl (xt_P z) (d + 1) 43 [.ref (c + 14), .int (iI k)] hp (fun v h1 => ((0 ≤ k ∧ k < s.I 3 ∧ v = some (.int (iI (s.A 3 k)))) ∨ (¬ (0 ≤ k ∧ k < s.I 3) ∧ v = some (.int (iI 0)))) ∧ h1 = hp) := by
  obtain ⟨b3, b2, b0, b1⟩ := hB.2.2.2.1 3 (by decide)
  have no : ¬ (0 ≤ k ∧ k < s.I 3) → xx_go (xt_P z) d 43 21 [some (.ref (c + 14)), some (.int (iI k))] [] hp (fun v h1 => ((0 ≤ k ∧ k < s.I 3 ∧ v = some (.int (iI (s.A 3 k)))) ∨ (¬ (0 ≤ k ∧ k < s.I 3) ∧ v = some (.int (iI 0)))) ∧ h1 = hp) := by
    intro q
    refine go_a (pc' := 22) (ls' := [some (.ref (c + 14)), some (.int (iI k))]) (st' := [.int (iI 0)]) rfl rfl ?_
    exact go_r rfl rfl rfl rfl rfl rfl ⟨Or.inr ⟨q, rfl⟩, rfl⟩
  refine cl_go rfl ?_
  show xx_go (xt_P z) d 43 0 [some (.ref (c + 14)), some (.int (iI k))] [] hp _
  refine go_a (pc' := 1) (ls' := [some (.ref (c + 14)), some (.int (iI k))]) (st' := [.int (iI k)]) rfl rfl ?_
  refine mi_lt0 (t := 21) rfl rfl (by omega) (by omega) (fun q => no (by omega)) (fun q1 => ?_)
  refine go_a (pc' := 5) (ls' := [some (.ref (c + 14)), some (.int (iI k))]) (st' := [.int (iI k)]) rfl rfl ?_
  refine go_a (pc' := 6) (ls' := [some (.ref (c + 14)), some (.int (iI k))]) (st' := [.ref (c + 14), .int (iI k)]) rfl rfl ?_
  refine go_get (v := .int (iI (s.I 3))) rfl (hK.1 8 (by decide)) rfl rfl ?_
  refine mi_ge (t := 21) rfl rfl (by omega) (by omega) (by omega) (by omega) (fun q => no (by omega)) (fun q2 => ?_)
  refine go_a (pc' := 13) (ls' := [some (.ref (c + 14)), some (.int (iI k))]) (st' := [.ref (c + 14)]) rfl rfl ?_
  refine go_get (v := .ref (s.P 3)) rfl (hK.1 8 (by decide)) rfl rfl ?_
  refine go_a (pc' := 17) (ls' := [some (.ref (c + 14)), some (.int (iI k))]) (st' := [.int (iI k), .ref (s.P 3)]) rfl rfl ?_
  refine mi_ild (n := (s.C 3).toNat) (f := s.A 3) rfl (hK.1 24 (by decide)) (by omega) (by omega) (by omega) ?_
  refine go_a (pc' := 22) (ls' := [some (.ref (c + 14)), some (.int (iI k))]) (st' := [.int (iI (s.A 3 k))]) rfl rfl ?_
  exact go_r rfl rfl rfl rfl rfl rfl ⟨Or.inl ⟨by omega, by omega, rfl⟩, rfl⟩
theorem kr_takeLast_3 (z : Value) (d c : Nat) (hp : xx_H) (s : KS) (hK : KI c hp s) (hB : KB s) : xx_cl (xt_P z) (d + 1) 192 [.ref (c + 14)] hp (fun v h1 => (s.I 3 = 0 ∧ v = some (.int (iI 0)) ∧ h1 = hp) ∨ (0 < s.I 3 ∧ v = some (.int (iI (s.A 3 (s.I 3 - 1)))) ∧ KI c h1 (s.wI 3 (s.I 3 - 1)) ∧ KB (s.wI 3 (s.I 3 - 1)) ∧ kx c hp s h1 (s.wI 3 (s.I 3 - 1)) 0 0)) := by
  obtain ⟨b3, b2, b0, b1⟩ := hB.2.2.2.1 3 (by decide)
  have hX : kx c hp s hp s 0 0 := kx_rf
  refine cl_go rfl ?_
  show xx_go (xt_P z) d 192 0 [some (.ref (c + 14))] [] hp _
  refine go_a (pc' := 1) (ls' := [some (.ref (c + 14))]) (st' := [.ref (c + 14)]) rfl rfl ?_
  refine go_get (v := .int (iI (s.I 3))) rfl (hK.1 8 (by decide)) rfl rfl ?_
  refine mi_gt0 (t := 9) rfl rfl (by omega) (by omega) (fun q => ?_) (fun q => ?_)
  · refine go_a (pc' := 10) (ls' := [some (.ref (c + 14))]) (st' := [.ref (c + 14)]) rfl rfl ?_
    refine go_a (pc' := 11) (ls' := [some (.ref (c + 14))]) (st' := [.ref (c + 14), .ref (c + 14)]) rfl rfl ?_
    refine go_get (v := .int (iI (s.I 3))) rfl (hK.1 8 (by decide)) rfl rfl ?_
    refine go_a (pc' := 15) (ls' := [some (.ref (c + 14))]) (st' := [.int (iI 1), .int (iI (s.I 3)), .ref (c + 14)]) rfl rfl ?_
    refine mi_sub rfl ?_
    refine kput_3 (x := (s.I 3) - 1) hK hX rfl rfl (fun hp hK hX => ?_)
    refine go_a (pc' := 20) (ls' := [some (.ref (c + 14))]) (st' := [.ref (c + 14)]) rfl rfl ?_
    refine go_get (v := .ref (s.P 3)) rfl (hK.1 8 (by decide)) rfl rfl ?_
    refine go_a (pc' := 24) (ls' := [some (.ref (c + 14))]) (st' := [.ref (c + 14), .ref (s.P 3)]) rfl rfl ?_
    refine go_get (v := .int (iI ((s.I 3) - 1))) rfl (hK.1 8 (by decide)) rfl rfl ?_
    refine mi_ild (n := (s.C 3).toNat) (f := (s.wI 3 ((s.I 3) - 1)).A 3) rfl (hK.1 24 (by decide)) (by omega) (by omega) (by omega) ?_
    exact go_r rfl rfl rfl rfl rfl rfl (Or.inr ⟨by omega, rfl, hK, KB_wI hB (by omega) (by omega) (fun _ => by omega) (fun q => absurd q (by decide)) (by decide), hX⟩)
  · refine go_a (pc' := 8) (ls' := [some (.ref (c + 14))]) (st' := [.int (iI 0)]) rfl rfl ?_
    exact go_r rfl rfl rfl rfl rfl rfl (Or.inl ⟨by omega, rfl, rfl⟩)
theorem kr_cut_3 (z : Value) (d c : Nat) (n : Int) (hp : xx_H) (s : KS) (hK : KI c hp s) (hB : KB s) (n0 : -2147483648 ≤ n) (n1 : n < 2147483648) : xx_cl (xt_P z) (d + 1) 39 [.ref (c + 14), .int (iI n)] hp (fun v h1 => v = none ∧ ((0 ≤ n ∧ n < s.I 3 ∧ KI c h1 (s.wI 3 n) ∧ KB (s.wI 3 n) ∧ kx c hp s h1 (s.wI 3 n) 0 0) ∨ (¬ (0 ≤ n ∧ n < s.I 3) ∧ h1 = hp))) := by
  obtain ⟨b3, b2, b0, b1⟩ := hB.2.2.2.1 3 (by decide)
  have hX : kx c hp s hp s 0 0 := kx_rf
  have no : ¬ (0 ≤ n ∧ n < s.I 3) → xx_go (xt_P z) d 39 17 [some (.ref (c + 14)), some (.int (iI n))] [] hp (fun v h1 => v = none ∧ ((0 ≤ n ∧ n < s.I 3 ∧ KI c h1 (s.wI 3 n) ∧ KB (s.wI 3 n) ∧ kx c hp s h1 (s.wI 3 n) 0 0) ∨ (¬ (0 ≤ n ∧ n < s.I 3) ∧ h1 = hp))) := by
    intro q
    exact go_r rfl rfl rfl rfl rfl rfl ⟨rfl, Or.inr ⟨q, rfl⟩⟩
  refine cl_go rfl ?_
  show xx_go (xt_P z) d 39 0 [some (.ref (c + 14)), some (.int (iI n))] [] hp _
  refine go_a (pc' := 1) (ls' := [some (.ref (c + 14)), some (.int (iI n))]) (st' := [.int (iI n)]) rfl rfl ?_
  refine mi_lt0 (t := 17) rfl rfl (by omega) (by omega) (fun q => no (by omega)) (fun q1 => ?_)
  refine go_a (pc' := 5) (ls' := [some (.ref (c + 14)), some (.int (iI n))]) (st' := [.int (iI n)]) rfl rfl ?_
  refine go_a (pc' := 6) (ls' := [some (.ref (c + 14)), some (.int (iI n))]) (st' := [.ref (c + 14), .int (iI n)]) rfl rfl ?_
  refine go_get (v := .int (iI (s.I 3))) rfl (hK.1 8 (by decide)) rfl rfl ?_
  refine mi_ge (t := 17) rfl rfl (by omega) (by omega) (by omega) (by omega) (fun q => no (by omega)) (fun q2 => ?_)
  refine go_a (pc' := 13) (ls' := [some (.ref (c + 14)), some (.int (iI n))]) (st' := [.ref (c + 14)]) rfl rfl ?_
  refine go_a (pc' := 14) (ls' := [some (.ref (c + 14)), some (.int (iI n))]) (st' := [.int (iI n), .ref (c + 14)]) rfl rfl ?_
  refine kput_3 (x := n) hK hX rfl rfl (fun hp hK hX => ?_)
  exact go_r rfl rfl rfl rfl rfl rfl ⟨rfl, Or.inl ⟨by omega, by omega, hK, KB_wI hB (by omega) (by omega) (fun _ => by omega) (fun q => absurd q (by decide)) (by decide), hX⟩⟩
theorem kr_add_3 (z : Value) (d c : Nat) (x : Int) (hp : xx_H) (s : KS) (hK : KI c hp s) (hB : KB s) (b4 : s.I 3 < 4096) (x0 : -2147483648 ≤ x) (x1 : x ≤ 2147483647) : xx_cl (xt_P z) (d + 2) 35 [.ref (c + 14), .int (iI x)] hp (fun v h1 => v = none ∧ ∃ s1 : KS, KI c h1 s1 ∧ KB s1 ∧ kx c hp s h1 s1 0 0 ∧ KRW 3 s s1 ∧ s1.I = su s.I 3 (s.I 3 + 1) ∧ s.I 3 + 1 ≤ s1.C 3 ∧ s1.A 3 (s.I 3) = x ∧ ∀ e : Int, e < s.I 3 → s1.A 3 e = s.A 3 e) := by
  obtain ⟨b3, b2, b0, b1⟩ := hB.2.2.2.1 3 (by decide)
  have hX : kx c hp s hp s 0 0 := kx_rf
  refine cl_go rfl ?_
  show xx_go (xt_P z) (d + 1) 35 0 [some (.ref (c + 14)), some (.int (iI x))] [] hp _
  refine go_a (pc' := 1) (ls' := [some (.ref (c + 14)), some (.int (iI x))]) (st' := [.ref (c + 14)]) rfl rfl ?_
  refine go_get (v := .int (iI (s.I 3))) rfl (hK.1 8 (by decide)) rfl rfl ?_
  refine go_b (pc' := 6) (st' := [.int (iI 1048576), .int (iI (s.I 3))]) (h' := hp) rfl rfl rfl ?_
  refine mi_lt (t := 10) rfl rfl (by omega) (by omega) (by omega) (by omega) (fun _ => ?_) (fun q => absurd (show s.I 3 < 1048576 by omega) q)
  refine go_a (pc' := 11) (ls' := [some (.ref (c + 14)), some (.int (iI x))]) (st' := [.ref (c + 14)]) rfl rfl ?_
  refine go_get (v := .int (iI (s.I 3))) rfl (hK.1 8 (by decide)) rfl rfl ?_
  refine go_a (pc' := 15) (ls' := [some (.ref (c + 14)), some (.int (iI x))]) (st' := [.ref (c + 14), .int (iI (s.I 3))]) rfl rfl ?_
  refine go_get (v := .ref (s.P 3)) rfl (hK.1 8 (by decide)) rfl rfl ?_
  refine mk_len (n := s.C 3) rfl (hK.1 24 (by decide)) (xa_f_len _ _) (by omega) (by omega) ?_
  refine mi_lt (t := 40) rfl rfl (by omega) (by omega) (by omega) (by omega) (fun q => ?_) (fun q => ?_)
  · refine go_a (pc' := 41) (ls' := [some (.ref (c + 14)), some (.int (iI x))]) (st' := [.ref (c + 14)]) rfl rfl ?_
    refine go_get (v := .ref (s.P 3)) rfl (hK.1 8 (by decide)) rfl rfl ?_
    refine go_a (pc' := 45) (ls' := [some (.ref (c + 14)), some (.int (iI x))]) (st' := [.ref (c + 14), .ref (s.P 3)]) rfl rfl ?_
    refine go_get (v := .int (iI (s.I 3))) rfl (hK.1 8 (by decide)) rfl rfl ?_
    refine go_a (pc' := 49) (ls' := [some (.ref (c + 14)), some (.int (iI x))]) (st' := [.int (iI x), .int (iI (s.I 3)), .ref (s.P 3)]) rfl rfl ?_
    refine kist_3 (s := s) (x := x) (e := s.I 3) hK hX rfl (by omega) (show _ < s.C 3 by omega) (show s.C 3 ≤ 1000000 by omega) (fun hp hK hX => ?_)
    refine go_a (pc' := 51) (ls' := [some (.ref (c + 14)), some (.int (iI x))]) (st' := [.ref (c + 14)]) rfl rfl ?_
    refine go_a (pc' := 52) (ls' := [some (.ref (c + 14)), some (.int (iI x))]) (st' := [.ref (c + 14), .ref (c + 14)]) rfl rfl ?_
    refine go_get (v := .int (iI (s.I 3))) rfl (hK.1 8 (by decide)) rfl rfl ?_
    refine go_a (pc' := 56) (ls' := [some (.ref (c + 14)), some (.int (iI x))]) (st' := [.int (iI 1), .int (iI (s.I 3)), .ref (c + 14)]) rfl rfl ?_
    refine mi_add rfl ?_
    refine kput_3 (x := (s.I 3) + 1) hK hX rfl rfl (fun hp hK hX => ?_)
    exact go_r rfl rfl rfl rfl rfl rfl ⟨rfl, _, hK, KB_wI (KB_wA hB x0 x1) (by omega) (by omega) (fun _ => (show 0 ≤ s.I 3 + 1 ∧ s.I 3 + 1 ≤ s.C 3 by omega)) (fun q => absurd q (by decide)) (by decide), hX, ⟨rfl, rfl, fun i ne => ⟨sa_ne ne, rfl, rfl⟩, Int.le_refl _, b2⟩, rfl, (show s.I 3 + 1 ≤ s.C 3 by omega), sf_self, fun e q => sf_ne (by omega)⟩
  · refine go_a (pc' := 23) (ls' := [some (.ref (c + 14)), some (.int (iI x))]) (st' := [.ref (c + 14)]) rfl rfl ?_
    refine go_a (pc' := 24) (ls' := [some (.ref (c + 14)), some (.int (iI x))]) (st' := [.ref (c + 14), .ref (c + 14)]) rfl rfl ?_
    refine go_get (v := .ref (s.P 3)) rfl (hK.1 8 (by decide)) rfl rfl ?_
    refine go_a (pc' := 28) (ls' := [some (.ref (c + 14)), some (.int (iI x))]) (st' := [.ref (c + 14), .ref (s.P 3), .ref (c + 14)]) rfl rfl ?_
    refine go_get (v := .ref (s.P 3)) rfl (hK.1 8 (by decide)) rfl rfl ?_
    refine mk_len (n := s.C 3) rfl (hK.1 24 (by decide)) (xa_f_len _ _) (by omega) (by omega) ?_
    refine go_a (pc' := 33) (ls' := [some (.ref (c + 14)), some (.int (iI x))]) (st' := [.int (iI 2), .int (iI (s.C 3)), .ref (s.P 3), .ref (c + 14)]) rfl rfl ?_
    refine mi_mul rfl ?_
    refine go_s (m := 183) (as := [.ref (s.P 3), .int (iI ((s.C 3) * 2))]) (r := [.ref (c + 14)]) rfl rfl rfl rfl (xm_copyOf_int z d (s.P 3) (s.C 3) (s.C 3 * 2) (s.A 3) hp (ki_12 hK).2 (hK.1 24 (by decide)) (by omega) (by omega) (by omega) (by omega) (by omega)) (fun v h1 hq => ?_)
    obtain ⟨rfl, rfl⟩ := hq
    show xx_go (xt_P z) (d + 1) 35 37 [some (.ref (c + 14)), some (.int (iI x))] [.ref hp.length, .ref (c + 14)] ((hp ++ [.inl (.int, xa_f (s.C 3 * 2).toNat (cf (s.C 3) (s.A 3)))])) _
    refine kgrow_3 (m := s.C 3 * 2) (g := cf (s.C 3) (s.A 3)) hK hX rfl rfl (by omega) (by omega) (by omega) (fun hp1 hK hX => ?_)
    obtain ⟨s1, hs1⟩ : ∃ s1 : KS, s1 = s.wG 3 (s.C 3 * 2) (cf (s.C 3) (s.A 3)) hp.length := ⟨_, rfl⟩
    rw [← hs1] at hK hX
    have c1 : s1.C 3 = s.C 3 * 2 := by rw [hs1]; rfl
    have i1 : s1.I = s.I := by rw [hs1]; rfl
    have i1j : s1.I 3 = s.I 3 := by rw [i1]
    have a1 : s1.A 3 = cf (s.C 3) (s.A 3) := by rw [hs1]; rfl
    have fr : s1.N = s.N ∧ s1.T = s.T ∧ ∀ i : Nat, i ≠ 3 → s1.A i = s.A i ∧ s1.C i = s.C i ∧ s1.P i = s.P i := by
      rw [hs1]
      exact ⟨rfl, rfl, fun i ne => ⟨sw_ne ne, su_ne ne, un_ne ne⟩⟩
    have B1 : KB s1 := by
      rw [hs1]
      exact KB_wG hB (by decide) (by omega) (by omega) (cf_R (hB.1 3))
    refine go_a (pc' := 41) (ls' := [some (.ref (c + 14)), some (.int (iI x))]) (st' := [.ref (c + 14)]) rfl rfl ?_
    refine go_get (v := .ref (s1.P 3)) rfl (hK.1 8 (by decide)) rfl rfl ?_
    refine go_a (pc' := 45) (ls' := [some (.ref (c + 14)), some (.int (iI x))]) (st' := [.ref (c + 14), .ref (s1.P 3)]) rfl rfl ?_
    refine go_get (v := .int (iI (s1.I 3))) rfl (hK.1 8 (by decide)) rfl rfl ?_
    refine go_a (pc' := 49) (ls' := [some (.ref (c + 14)), some (.int (iI x))]) (st' := [.int (iI x), .int (iI (s1.I 3)), .ref (s1.P 3)]) rfl rfl ?_
    refine kist_3 (s := s1) (x := x) (e := s1.I 3) hK hX rfl (by omega) (show _ < s1.C 3 by omega) (show s1.C 3 ≤ 1000000 by omega) (fun hp hK hX => ?_)
    refine go_a (pc' := 51) (ls' := [some (.ref (c + 14)), some (.int (iI x))]) (st' := [.ref (c + 14)]) rfl rfl ?_
    refine go_a (pc' := 52) (ls' := [some (.ref (c + 14)), some (.int (iI x))]) (st' := [.ref (c + 14), .ref (c + 14)]) rfl rfl ?_
    refine go_get (v := .int (iI (s1.I 3))) rfl (hK.1 8 (by decide)) rfl rfl ?_
    refine go_a (pc' := 56) (ls' := [some (.ref (c + 14)), some (.int (iI x))]) (st' := [.int (iI 1), .int (iI (s1.I 3)), .ref (c + 14)]) rfl rfl ?_
    refine mi_add rfl ?_
    refine kput_3 (x := (s1.I 3) + 1) hK hX rfl rfl (fun hp hK hX => ?_)
    exact go_r rfl rfl rfl rfl rfl rfl ⟨rfl, _, hK, KB_wI (KB_wA B1 x0 x1) (by omega) (by omega) (fun _ => (show 0 ≤ s1.I 3 + 1 ∧ s1.I 3 + 1 ≤ s1.C 3 by omega)) (fun q => absurd q (by decide)) (by decide), hX, ⟨fr.1, fr.2.1, fun i ne => ⟨(sa_ne ne).trans (fr.2.2 i ne).1, (fr.2.2 i ne).2⟩, (show s.C 3 ≤ s1.C 3 by omega), (show s1.C 3 ≤ 8192 by omega)⟩, (show su s1.I 3 (s1.I 3 + 1) = _ by rw [i1]), (show s.I 3 + 1 ≤ s1.C 3 by omega), (show sf (s1.A 3) (s1.I 3) x (s.I 3) = x by rw [i1j]; exact sf_self), fun e q => (show sf (s1.A 3) (s1.I 3) x e = s.A 3 e by rw [i1j, sf_ne (by omega), a1]; exact if_pos (by omega))⟩
theorem kr_length_4 (z : Value) (d c : Nat) (hp : xx_H) (s : KS) (hK : KI c hp s) : xx_cl (xt_P z) (d + 1) 34 [.ref (c + 17)] hp (fun v h1 => v = some (.int (iI (s.I 4))) ∧ h1 = hp) := by
  refine cl_go rfl ?_
  show xx_go (xt_P z) d 34 0 [some (.ref (c + 17))] [] hp _
  refine go_a (pc' := 1) (ls' := [some (.ref (c + 17))]) (st' := [.ref (c + 17)]) rfl rfl ?_
  refine go_get (v := .int (iI (s.I 4))) rfl (hK.1 10 (by decide)) rfl rfl ?_
  exact go_r rfl rfl rfl rfl rfl rfl ⟨rfl, rfl⟩
theorem kr_at_4 (z : Value) (d c : Nat) (k : Int) (hp : xx_H) (s : KS) (hK : KI c hp s) (hB : KB s) (k0 : -2147483648 ≤ k) (k1 : k < 2147483648) : xx_cl (xt_P z) (d + 1) 43 [.ref (c + 17), .int (iI k)] hp (fun v h1 => ((0 ≤ k ∧ k < s.I 4 ∧ v = some (.int (iI (s.A 4 k)))) ∨ (¬ (0 ≤ k ∧ k < s.I 4) ∧ v = some (.int (iI 0)))) ∧ h1 = hp) := by
  obtain ⟨b3, b2, b0, b1⟩ := hB.2.2.2.1 4 (by decide)
  have no : ¬ (0 ≤ k ∧ k < s.I 4) → xx_go (xt_P z) d 43 21 [some (.ref (c + 17)), some (.int (iI k))] [] hp (fun v h1 => ((0 ≤ k ∧ k < s.I 4 ∧ v = some (.int (iI (s.A 4 k)))) ∨ (¬ (0 ≤ k ∧ k < s.I 4) ∧ v = some (.int (iI 0)))) ∧ h1 = hp) := by
    intro q
    refine go_a (pc' := 22) (ls' := [some (.ref (c + 17)), some (.int (iI k))]) (st' := [.int (iI 0)]) rfl rfl ?_
    exact go_r rfl rfl rfl rfl rfl rfl ⟨Or.inr ⟨q, rfl⟩, rfl⟩
  refine cl_go rfl ?_
  show xx_go (xt_P z) d 43 0 [some (.ref (c + 17)), some (.int (iI k))] [] hp _
  refine go_a (pc' := 1) (ls' := [some (.ref (c + 17)), some (.int (iI k))]) (st' := [.int (iI k)]) rfl rfl ?_
  refine mi_lt0 (t := 21) rfl rfl (by omega) (by omega) (fun q => no (by omega)) (fun q1 => ?_)
  refine go_a (pc' := 5) (ls' := [some (.ref (c + 17)), some (.int (iI k))]) (st' := [.int (iI k)]) rfl rfl ?_
  refine go_a (pc' := 6) (ls' := [some (.ref (c + 17)), some (.int (iI k))]) (st' := [.ref (c + 17), .int (iI k)]) rfl rfl ?_
  refine go_get (v := .int (iI (s.I 4))) rfl (hK.1 10 (by decide)) rfl rfl ?_
  refine mi_ge (t := 21) rfl rfl (by omega) (by omega) (by omega) (by omega) (fun q => no (by omega)) (fun q2 => ?_)
  refine go_a (pc' := 13) (ls' := [some (.ref (c + 17)), some (.int (iI k))]) (st' := [.ref (c + 17)]) rfl rfl ?_
  refine go_get (v := .ref (s.P 4)) rfl (hK.1 10 (by decide)) rfl rfl ?_
  refine go_a (pc' := 17) (ls' := [some (.ref (c + 17)), some (.int (iI k))]) (st' := [.int (iI k), .ref (s.P 4)]) rfl rfl ?_
  refine mi_ild (n := (s.C 4).toNat) (f := s.A 4) rfl (hK.1 25 (by decide)) (by omega) (by omega) (by omega) ?_
  refine go_a (pc' := 22) (ls' := [some (.ref (c + 17)), some (.int (iI k))]) (st' := [.int (iI (s.A 4 k))]) rfl rfl ?_
  exact go_r rfl rfl rfl rfl rfl rfl ⟨Or.inl ⟨by omega, by omega, rfl⟩, rfl⟩
theorem kr_cut_4 (z : Value) (d c : Nat) (n : Int) (hp : xx_H) (s : KS) (hK : KI c hp s) (hB : KB s) (n0 : -2147483648 ≤ n) (n1 : n < 2147483648) : xx_cl (xt_P z) (d + 1) 39 [.ref (c + 17), .int (iI n)] hp (fun v h1 => v = none ∧ ((0 ≤ n ∧ n < s.I 4 ∧ KI c h1 (s.wI 4 n) ∧ KB (s.wI 4 n) ∧ kx c hp s h1 (s.wI 4 n) 0 0) ∨ (¬ (0 ≤ n ∧ n < s.I 4) ∧ h1 = hp))) := by
  obtain ⟨b3, b2, b0, b1⟩ := hB.2.2.2.1 4 (by decide)
  have hX : kx c hp s hp s 0 0 := kx_rf
  have no : ¬ (0 ≤ n ∧ n < s.I 4) → xx_go (xt_P z) d 39 17 [some (.ref (c + 17)), some (.int (iI n))] [] hp (fun v h1 => v = none ∧ ((0 ≤ n ∧ n < s.I 4 ∧ KI c h1 (s.wI 4 n) ∧ KB (s.wI 4 n) ∧ kx c hp s h1 (s.wI 4 n) 0 0) ∨ (¬ (0 ≤ n ∧ n < s.I 4) ∧ h1 = hp))) := by
    intro q
    exact go_r rfl rfl rfl rfl rfl rfl ⟨rfl, Or.inr ⟨q, rfl⟩⟩
  refine cl_go rfl ?_
  show xx_go (xt_P z) d 39 0 [some (.ref (c + 17)), some (.int (iI n))] [] hp _
  refine go_a (pc' := 1) (ls' := [some (.ref (c + 17)), some (.int (iI n))]) (st' := [.int (iI n)]) rfl rfl ?_
  refine mi_lt0 (t := 17) rfl rfl (by omega) (by omega) (fun q => no (by omega)) (fun q1 => ?_)
  refine go_a (pc' := 5) (ls' := [some (.ref (c + 17)), some (.int (iI n))]) (st' := [.int (iI n)]) rfl rfl ?_
  refine go_a (pc' := 6) (ls' := [some (.ref (c + 17)), some (.int (iI n))]) (st' := [.ref (c + 17), .int (iI n)]) rfl rfl ?_
  refine go_get (v := .int (iI (s.I 4))) rfl (hK.1 10 (by decide)) rfl rfl ?_
  refine mi_ge (t := 17) rfl rfl (by omega) (by omega) (by omega) (by omega) (fun q => no (by omega)) (fun q2 => ?_)
  refine go_a (pc' := 13) (ls' := [some (.ref (c + 17)), some (.int (iI n))]) (st' := [.ref (c + 17)]) rfl rfl ?_
  refine go_a (pc' := 14) (ls' := [some (.ref (c + 17)), some (.int (iI n))]) (st' := [.int (iI n), .ref (c + 17)]) rfl rfl ?_
  refine kput_4 (x := n) hK hX rfl rfl (fun hp hK hX => ?_)
  exact go_r rfl rfl rfl rfl rfl rfl ⟨rfl, Or.inl ⟨by omega, by omega, hK, KB_wI hB (by omega) (by omega) (fun _ => by omega) (fun q => absurd q (by decide)) (by decide), hX⟩⟩
theorem kr_add_4 (z : Value) (d c : Nat) (x : Int) (hp : xx_H) (s : KS) (hK : KI c hp s) (hB : KB s) (b4 : s.I 4 < 4096) (x0 : -2147483648 ≤ x) (x1 : x ≤ 2147483647) : xx_cl (xt_P z) (d + 2) 35 [.ref (c + 17), .int (iI x)] hp (fun v h1 => v = none ∧ ∃ s1 : KS, KI c h1 s1 ∧ KB s1 ∧ kx c hp s h1 s1 0 0 ∧ KRW 4 s s1 ∧ s1.I = su s.I 4 (s.I 4 + 1) ∧ s.I 4 + 1 ≤ s1.C 4 ∧ s1.A 4 (s.I 4) = x ∧ ∀ e : Int, e < s.I 4 → s1.A 4 e = s.A 4 e) := by
  obtain ⟨b3, b2, b0, b1⟩ := hB.2.2.2.1 4 (by decide)
  have hX : kx c hp s hp s 0 0 := kx_rf
  refine cl_go rfl ?_
  show xx_go (xt_P z) (d + 1) 35 0 [some (.ref (c + 17)), some (.int (iI x))] [] hp _
  refine go_a (pc' := 1) (ls' := [some (.ref (c + 17)), some (.int (iI x))]) (st' := [.ref (c + 17)]) rfl rfl ?_
  refine go_get (v := .int (iI (s.I 4))) rfl (hK.1 10 (by decide)) rfl rfl ?_
  refine go_b (pc' := 6) (st' := [.int (iI 1048576), .int (iI (s.I 4))]) (h' := hp) rfl rfl rfl ?_
  refine mi_lt (t := 10) rfl rfl (by omega) (by omega) (by omega) (by omega) (fun _ => ?_) (fun q => absurd (show s.I 4 < 1048576 by omega) q)
  refine go_a (pc' := 11) (ls' := [some (.ref (c + 17)), some (.int (iI x))]) (st' := [.ref (c + 17)]) rfl rfl ?_
  refine go_get (v := .int (iI (s.I 4))) rfl (hK.1 10 (by decide)) rfl rfl ?_
  refine go_a (pc' := 15) (ls' := [some (.ref (c + 17)), some (.int (iI x))]) (st' := [.ref (c + 17), .int (iI (s.I 4))]) rfl rfl ?_
  refine go_get (v := .ref (s.P 4)) rfl (hK.1 10 (by decide)) rfl rfl ?_
  refine mk_len (n := s.C 4) rfl (hK.1 25 (by decide)) (xa_f_len _ _) (by omega) (by omega) ?_
  refine mi_lt (t := 40) rfl rfl (by omega) (by omega) (by omega) (by omega) (fun q => ?_) (fun q => ?_)
  · refine go_a (pc' := 41) (ls' := [some (.ref (c + 17)), some (.int (iI x))]) (st' := [.ref (c + 17)]) rfl rfl ?_
    refine go_get (v := .ref (s.P 4)) rfl (hK.1 10 (by decide)) rfl rfl ?_
    refine go_a (pc' := 45) (ls' := [some (.ref (c + 17)), some (.int (iI x))]) (st' := [.ref (c + 17), .ref (s.P 4)]) rfl rfl ?_
    refine go_get (v := .int (iI (s.I 4))) rfl (hK.1 10 (by decide)) rfl rfl ?_
    refine go_a (pc' := 49) (ls' := [some (.ref (c + 17)), some (.int (iI x))]) (st' := [.int (iI x), .int (iI (s.I 4)), .ref (s.P 4)]) rfl rfl ?_
    refine kist_4 (s := s) (x := x) (e := s.I 4) hK hX rfl (by omega) (show _ < s.C 4 by omega) (show s.C 4 ≤ 1000000 by omega) (fun hp hK hX => ?_)
    refine go_a (pc' := 51) (ls' := [some (.ref (c + 17)), some (.int (iI x))]) (st' := [.ref (c + 17)]) rfl rfl ?_
    refine go_a (pc' := 52) (ls' := [some (.ref (c + 17)), some (.int (iI x))]) (st' := [.ref (c + 17), .ref (c + 17)]) rfl rfl ?_
    refine go_get (v := .int (iI (s.I 4))) rfl (hK.1 10 (by decide)) rfl rfl ?_
    refine go_a (pc' := 56) (ls' := [some (.ref (c + 17)), some (.int (iI x))]) (st' := [.int (iI 1), .int (iI (s.I 4)), .ref (c + 17)]) rfl rfl ?_
    refine mi_add rfl ?_
    refine kput_4 (x := (s.I 4) + 1) hK hX rfl rfl (fun hp hK hX => ?_)
    exact go_r rfl rfl rfl rfl rfl rfl ⟨rfl, _, hK, KB_wI (KB_wA hB x0 x1) (by omega) (by omega) (fun _ => (show 0 ≤ s.I 4 + 1 ∧ s.I 4 + 1 ≤ s.C 4 by omega)) (fun q => absurd q (by decide)) (by decide), hX, ⟨rfl, rfl, fun i ne => ⟨sa_ne ne, rfl, rfl⟩, Int.le_refl _, b2⟩, rfl, (show s.I 4 + 1 ≤ s.C 4 by omega), sf_self, fun e q => sf_ne (by omega)⟩
  · refine go_a (pc' := 23) (ls' := [some (.ref (c + 17)), some (.int (iI x))]) (st' := [.ref (c + 17)]) rfl rfl ?_
    refine go_a (pc' := 24) (ls' := [some (.ref (c + 17)), some (.int (iI x))]) (st' := [.ref (c + 17), .ref (c + 17)]) rfl rfl ?_
    refine go_get (v := .ref (s.P 4)) rfl (hK.1 10 (by decide)) rfl rfl ?_
    refine go_a (pc' := 28) (ls' := [some (.ref (c + 17)), some (.int (iI x))]) (st' := [.ref (c + 17), .ref (s.P 4), .ref (c + 17)]) rfl rfl ?_
    refine go_get (v := .ref (s.P 4)) rfl (hK.1 10 (by decide)) rfl rfl ?_
    refine mk_len (n := s.C 4) rfl (hK.1 25 (by decide)) (xa_f_len _ _) (by omega) (by omega) ?_
    refine go_a (pc' := 33) (ls' := [some (.ref (c + 17)), some (.int (iI x))]) (st' := [.int (iI 2), .int (iI (s.C 4)), .ref (s.P 4), .ref (c + 17)]) rfl rfl ?_
    refine mi_mul rfl ?_
    refine go_s (m := 183) (as := [.ref (s.P 4), .int (iI ((s.C 4) * 2))]) (r := [.ref (c + 17)]) rfl rfl rfl rfl (xm_copyOf_int z d (s.P 4) (s.C 4) (s.C 4 * 2) (s.A 4) hp (ki_12 hK).2 (hK.1 25 (by decide)) (by omega) (by omega) (by omega) (by omega) (by omega)) (fun v h1 hq => ?_)
    obtain ⟨rfl, rfl⟩ := hq
    show xx_go (xt_P z) (d + 1) 35 37 [some (.ref (c + 17)), some (.int (iI x))] [.ref hp.length, .ref (c + 17)] ((hp ++ [.inl (.int, xa_f (s.C 4 * 2).toNat (cf (s.C 4) (s.A 4)))])) _
    refine kgrow_4 (m := s.C 4 * 2) (g := cf (s.C 4) (s.A 4)) hK hX rfl rfl (by omega) (by omega) (by omega) (fun hp1 hK hX => ?_)
    obtain ⟨s1, hs1⟩ : ∃ s1 : KS, s1 = s.wG 4 (s.C 4 * 2) (cf (s.C 4) (s.A 4)) hp.length := ⟨_, rfl⟩
    rw [← hs1] at hK hX
    have c1 : s1.C 4 = s.C 4 * 2 := by rw [hs1]; rfl
    have i1 : s1.I = s.I := by rw [hs1]; rfl
    have i1j : s1.I 4 = s.I 4 := by rw [i1]
    have a1 : s1.A 4 = cf (s.C 4) (s.A 4) := by rw [hs1]; rfl
    have fr : s1.N = s.N ∧ s1.T = s.T ∧ ∀ i : Nat, i ≠ 4 → s1.A i = s.A i ∧ s1.C i = s.C i ∧ s1.P i = s.P i := by
      rw [hs1]
      exact ⟨rfl, rfl, fun i ne => ⟨sw_ne ne, su_ne ne, un_ne ne⟩⟩
    have B1 : KB s1 := by
      rw [hs1]
      exact KB_wG hB (by decide) (by omega) (by omega) (cf_R (hB.1 4))
    refine go_a (pc' := 41) (ls' := [some (.ref (c + 17)), some (.int (iI x))]) (st' := [.ref (c + 17)]) rfl rfl ?_
    refine go_get (v := .ref (s1.P 4)) rfl (hK.1 10 (by decide)) rfl rfl ?_
    refine go_a (pc' := 45) (ls' := [some (.ref (c + 17)), some (.int (iI x))]) (st' := [.ref (c + 17), .ref (s1.P 4)]) rfl rfl ?_
    refine go_get (v := .int (iI (s1.I 4))) rfl (hK.1 10 (by decide)) rfl rfl ?_
    refine go_a (pc' := 49) (ls' := [some (.ref (c + 17)), some (.int (iI x))]) (st' := [.int (iI x), .int (iI (s1.I 4)), .ref (s1.P 4)]) rfl rfl ?_
    refine kist_4 (s := s1) (x := x) (e := s1.I 4) hK hX rfl (by omega) (show _ < s1.C 4 by omega) (show s1.C 4 ≤ 1000000 by omega) (fun hp hK hX => ?_)
    refine go_a (pc' := 51) (ls' := [some (.ref (c + 17)), some (.int (iI x))]) (st' := [.ref (c + 17)]) rfl rfl ?_
    refine go_a (pc' := 52) (ls' := [some (.ref (c + 17)), some (.int (iI x))]) (st' := [.ref (c + 17), .ref (c + 17)]) rfl rfl ?_
    refine go_get (v := .int (iI (s1.I 4))) rfl (hK.1 10 (by decide)) rfl rfl ?_
    refine go_a (pc' := 56) (ls' := [some (.ref (c + 17)), some (.int (iI x))]) (st' := [.int (iI 1), .int (iI (s1.I 4)), .ref (c + 17)]) rfl rfl ?_
    refine mi_add rfl ?_
    refine kput_4 (x := (s1.I 4) + 1) hK hX rfl rfl (fun hp hK hX => ?_)
    exact go_r rfl rfl rfl rfl rfl rfl ⟨rfl, _, hK, KB_wI (KB_wA B1 x0 x1) (by omega) (by omega) (fun _ => (show 0 ≤ s1.I 4 + 1 ∧ s1.I 4 + 1 ≤ s1.C 4 by omega)) (fun q => absurd q (by decide)) (by decide), hX, ⟨fr.1, fr.2.1, fun i ne => ⟨(sa_ne ne).trans (fr.2.2 i ne).1, (fr.2.2 i ne).2⟩, (show s.C 4 ≤ s1.C 4 by omega), (show s1.C 4 ≤ 8192 by omega)⟩, (show su s1.I 4 (s1.I 4 + 1) = _ by rw [i1]), (show s.I 4 + 1 ≤ s1.C 4 by omega), (show sf (s1.A 4) (s1.I 4) x (s.I 4) = x by rw [i1j]; exact sf_self), fun e q => (show sf (s1.A 4) (s1.I 4) x e = s.A 4 e by rw [i1j, sf_ne (by omega), a1]; exact if_pos (by omega))⟩
theorem kr_length_5 (z : Value) (d c : Nat) (hp : xx_H) (s : KS) (hK : KI c hp s) : xx_cl (xt_P z) (d + 1) 34 [.ref (c + 19)] hp (fun v h1 => v = some (.int (iI (s.I 5))) ∧ h1 = hp) := by
  refine cl_go rfl ?_
  show xx_go (xt_P z) d 34 0 [some (.ref (c + 19))] [] hp _
  refine go_a (pc' := 1) (ls' := [some (.ref (c + 19))]) (st' := [.ref (c + 19)]) rfl rfl ?_
  refine go_get (v := .int (iI (s.I 5))) rfl (hK.1 11 (by decide)) rfl rfl ?_
  exact go_r rfl rfl rfl rfl rfl rfl ⟨rfl, rfl⟩
theorem kr_takeLast_5 (z : Value) (d c : Nat) (hp : xx_H) (s : KS) (hK : KI c hp s) (hB : KB s) : xx_cl (xt_P z) (d + 1) 192 [.ref (c + 19)] hp (fun v h1 => (s.I 5 = 0 ∧ v = some (.int (iI 0)) ∧ h1 = hp) ∨ (0 < s.I 5 ∧ v = some (.int (iI (s.A 5 (s.I 5 - 1)))) ∧ KI c h1 (s.wI 5 (s.I 5 - 1)) ∧ KB (s.wI 5 (s.I 5 - 1)) ∧ kx c hp s h1 (s.wI 5 (s.I 5 - 1)) 0 0)) := by
  obtain ⟨b3, b2, b0, b1⟩ := hB.2.2.2.1 5 (by decide)
  have hX : kx c hp s hp s 0 0 := kx_rf
  refine cl_go rfl ?_
  show xx_go (xt_P z) d 192 0 [some (.ref (c + 19))] [] hp _
  refine go_a (pc' := 1) (ls' := [some (.ref (c + 19))]) (st' := [.ref (c + 19)]) rfl rfl ?_
  refine go_get (v := .int (iI (s.I 5))) rfl (hK.1 11 (by decide)) rfl rfl ?_
  refine mi_gt0 (t := 9) rfl rfl (by omega) (by omega) (fun q => ?_) (fun q => ?_)
  · refine go_a (pc' := 10) (ls' := [some (.ref (c + 19))]) (st' := [.ref (c + 19)]) rfl rfl ?_
    refine go_a (pc' := 11) (ls' := [some (.ref (c + 19))]) (st' := [.ref (c + 19), .ref (c + 19)]) rfl rfl ?_
    refine go_get (v := .int (iI (s.I 5))) rfl (hK.1 11 (by decide)) rfl rfl ?_
    refine go_a (pc' := 15) (ls' := [some (.ref (c + 19))]) (st' := [.int (iI 1), .int (iI (s.I 5)), .ref (c + 19)]) rfl rfl ?_
    refine mi_sub rfl ?_
    refine kput_5 (x := (s.I 5) - 1) hK hX rfl rfl (fun hp hK hX => ?_)
    refine go_a (pc' := 20) (ls' := [some (.ref (c + 19))]) (st' := [.ref (c + 19)]) rfl rfl ?_
    refine go_get (v := .ref (s.P 5)) rfl (hK.1 11 (by decide)) rfl rfl ?_
    refine go_a (pc' := 24) (ls' := [some (.ref (c + 19))]) (st' := [.ref (c + 19), .ref (s.P 5)]) rfl rfl ?_
    refine go_get (v := .int (iI ((s.I 5) - 1))) rfl (hK.1 11 (by decide)) rfl rfl ?_
    refine mi_ild (n := (s.C 5).toNat) (f := (s.wI 5 ((s.I 5) - 1)).A 5) rfl (hK.1 26 (by decide)) (by omega) (by omega) (by omega) ?_
    exact go_r rfl rfl rfl rfl rfl rfl (Or.inr ⟨by omega, rfl, hK, KB_wI hB (by omega) (by omega) (fun _ => by omega) (fun q => absurd q (by decide)) (by decide), hX⟩)
  · refine go_a (pc' := 8) (ls' := [some (.ref (c + 19))]) (st' := [.int (iI 0)]) rfl rfl ?_
    exact go_r rfl rfl rfl rfl rfl rfl (Or.inl ⟨by omega, rfl, rfl⟩)
theorem kr_cut_5 (z : Value) (d c : Nat) (n : Int) (hp : xx_H) (s : KS) (hK : KI c hp s) (hB : KB s) (n0 : -2147483648 ≤ n) (n1 : n < 2147483648) : xx_cl (xt_P z) (d + 1) 39 [.ref (c + 19), .int (iI n)] hp (fun v h1 => v = none ∧ ((0 ≤ n ∧ n < s.I 5 ∧ KI c h1 (s.wI 5 n) ∧ KB (s.wI 5 n) ∧ kx c hp s h1 (s.wI 5 n) 0 0) ∨ (¬ (0 ≤ n ∧ n < s.I 5) ∧ h1 = hp))) := by
  obtain ⟨b3, b2, b0, b1⟩ := hB.2.2.2.1 5 (by decide)
  have hX : kx c hp s hp s 0 0 := kx_rf
  have no : ¬ (0 ≤ n ∧ n < s.I 5) → xx_go (xt_P z) d 39 17 [some (.ref (c + 19)), some (.int (iI n))] [] hp (fun v h1 => v = none ∧ ((0 ≤ n ∧ n < s.I 5 ∧ KI c h1 (s.wI 5 n) ∧ KB (s.wI 5 n) ∧ kx c hp s h1 (s.wI 5 n) 0 0) ∨ (¬ (0 ≤ n ∧ n < s.I 5) ∧ h1 = hp))) := by
    intro q
    exact go_r rfl rfl rfl rfl rfl rfl ⟨rfl, Or.inr ⟨q, rfl⟩⟩
  refine cl_go rfl ?_
  show xx_go (xt_P z) d 39 0 [some (.ref (c + 19)), some (.int (iI n))] [] hp _
  refine go_a (pc' := 1) (ls' := [some (.ref (c + 19)), some (.int (iI n))]) (st' := [.int (iI n)]) rfl rfl ?_
  refine mi_lt0 (t := 17) rfl rfl (by omega) (by omega) (fun q => no (by omega)) (fun q1 => ?_)
  refine go_a (pc' := 5) (ls' := [some (.ref (c + 19)), some (.int (iI n))]) (st' := [.int (iI n)]) rfl rfl ?_
  refine go_a (pc' := 6) (ls' := [some (.ref (c + 19)), some (.int (iI n))]) (st' := [.ref (c + 19), .int (iI n)]) rfl rfl ?_
  refine go_get (v := .int (iI (s.I 5))) rfl (hK.1 11 (by decide)) rfl rfl ?_
  refine mi_ge (t := 17) rfl rfl (by omega) (by omega) (by omega) (by omega) (fun q => no (by omega)) (fun q2 => ?_)
  refine go_a (pc' := 13) (ls' := [some (.ref (c + 19)), some (.int (iI n))]) (st' := [.ref (c + 19)]) rfl rfl ?_
  refine go_a (pc' := 14) (ls' := [some (.ref (c + 19)), some (.int (iI n))]) (st' := [.int (iI n), .ref (c + 19)]) rfl rfl ?_
  refine kput_5 (x := n) hK hX rfl rfl (fun hp hK hX => ?_)
  exact go_r rfl rfl rfl rfl rfl rfl ⟨rfl, Or.inl ⟨by omega, by omega, hK, KB_wI hB (by omega) (by omega) (fun _ => by omega) (fun q => absurd q (by decide)) (by decide), hX⟩⟩
theorem kr_add_5 (z : Value) (d c : Nat) (x : Int) (hp : xx_H) (s : KS) (hK : KI c hp s) (hB : KB s) (b4 : s.I 5 < 4096) (x0 : -2147483648 ≤ x) (x1 : x ≤ 2147483647) : xx_cl (xt_P z) (d + 2) 35 [.ref (c + 19), .int (iI x)] hp (fun v h1 => v = none ∧ ∃ s1 : KS, KI c h1 s1 ∧ KB s1 ∧ kx c hp s h1 s1 0 0 ∧ KRW 5 s s1 ∧ s1.I = su s.I 5 (s.I 5 + 1) ∧ s.I 5 + 1 ≤ s1.C 5 ∧ s1.A 5 (s.I 5) = x ∧ ∀ e : Int, e < s.I 5 → s1.A 5 e = s.A 5 e) := by
  obtain ⟨b3, b2, b0, b1⟩ := hB.2.2.2.1 5 (by decide)
  have hX : kx c hp s hp s 0 0 := kx_rf
  refine cl_go rfl ?_
  show xx_go (xt_P z) (d + 1) 35 0 [some (.ref (c + 19)), some (.int (iI x))] [] hp _
  refine go_a (pc' := 1) (ls' := [some (.ref (c + 19)), some (.int (iI x))]) (st' := [.ref (c + 19)]) rfl rfl ?_
  refine go_get (v := .int (iI (s.I 5))) rfl (hK.1 11 (by decide)) rfl rfl ?_
  refine go_b (pc' := 6) (st' := [.int (iI 1048576), .int (iI (s.I 5))]) (h' := hp) rfl rfl rfl ?_
  refine mi_lt (t := 10) rfl rfl (by omega) (by omega) (by omega) (by omega) (fun _ => ?_) (fun q => absurd (show s.I 5 < 1048576 by omega) q)
  refine go_a (pc' := 11) (ls' := [some (.ref (c + 19)), some (.int (iI x))]) (st' := [.ref (c + 19)]) rfl rfl ?_
  refine go_get (v := .int (iI (s.I 5))) rfl (hK.1 11 (by decide)) rfl rfl ?_
  refine go_a (pc' := 15) (ls' := [some (.ref (c + 19)), some (.int (iI x))]) (st' := [.ref (c + 19), .int (iI (s.I 5))]) rfl rfl ?_
  refine go_get (v := .ref (s.P 5)) rfl (hK.1 11 (by decide)) rfl rfl ?_
  refine mk_len (n := s.C 5) rfl (hK.1 26 (by decide)) (xa_f_len _ _) (by omega) (by omega) ?_
  refine mi_lt (t := 40) rfl rfl (by omega) (by omega) (by omega) (by omega) (fun q => ?_) (fun q => ?_)
  · refine go_a (pc' := 41) (ls' := [some (.ref (c + 19)), some (.int (iI x))]) (st' := [.ref (c + 19)]) rfl rfl ?_
    refine go_get (v := .ref (s.P 5)) rfl (hK.1 11 (by decide)) rfl rfl ?_
    refine go_a (pc' := 45) (ls' := [some (.ref (c + 19)), some (.int (iI x))]) (st' := [.ref (c + 19), .ref (s.P 5)]) rfl rfl ?_
    refine go_get (v := .int (iI (s.I 5))) rfl (hK.1 11 (by decide)) rfl rfl ?_
    refine go_a (pc' := 49) (ls' := [some (.ref (c + 19)), some (.int (iI x))]) (st' := [.int (iI x), .int (iI (s.I 5)), .ref (s.P 5)]) rfl rfl ?_
    refine kist_5 (s := s) (x := x) (e := s.I 5) hK hX rfl (by omega) (show _ < s.C 5 by omega) (show s.C 5 ≤ 1000000 by omega) (fun hp hK hX => ?_)
    refine go_a (pc' := 51) (ls' := [some (.ref (c + 19)), some (.int (iI x))]) (st' := [.ref (c + 19)]) rfl rfl ?_
    refine go_a (pc' := 52) (ls' := [some (.ref (c + 19)), some (.int (iI x))]) (st' := [.ref (c + 19), .ref (c + 19)]) rfl rfl ?_
    refine go_get (v := .int (iI (s.I 5))) rfl (hK.1 11 (by decide)) rfl rfl ?_
    refine go_a (pc' := 56) (ls' := [some (.ref (c + 19)), some (.int (iI x))]) (st' := [.int (iI 1), .int (iI (s.I 5)), .ref (c + 19)]) rfl rfl ?_
    refine mi_add rfl ?_
    refine kput_5 (x := (s.I 5) + 1) hK hX rfl rfl (fun hp hK hX => ?_)
    exact go_r rfl rfl rfl rfl rfl rfl ⟨rfl, _, hK, KB_wI (KB_wA hB x0 x1) (by omega) (by omega) (fun _ => (show 0 ≤ s.I 5 + 1 ∧ s.I 5 + 1 ≤ s.C 5 by omega)) (fun q => absurd q (by decide)) (by decide), hX, ⟨rfl, rfl, fun i ne => ⟨sa_ne ne, rfl, rfl⟩, Int.le_refl _, b2⟩, rfl, (show s.I 5 + 1 ≤ s.C 5 by omega), sf_self, fun e q => sf_ne (by omega)⟩
  · refine go_a (pc' := 23) (ls' := [some (.ref (c + 19)), some (.int (iI x))]) (st' := [.ref (c + 19)]) rfl rfl ?_
    refine go_a (pc' := 24) (ls' := [some (.ref (c + 19)), some (.int (iI x))]) (st' := [.ref (c + 19), .ref (c + 19)]) rfl rfl ?_
    refine go_get (v := .ref (s.P 5)) rfl (hK.1 11 (by decide)) rfl rfl ?_
    refine go_a (pc' := 28) (ls' := [some (.ref (c + 19)), some (.int (iI x))]) (st' := [.ref (c + 19), .ref (s.P 5), .ref (c + 19)]) rfl rfl ?_
    refine go_get (v := .ref (s.P 5)) rfl (hK.1 11 (by decide)) rfl rfl ?_
    refine mk_len (n := s.C 5) rfl (hK.1 26 (by decide)) (xa_f_len _ _) (by omega) (by omega) ?_
    refine go_a (pc' := 33) (ls' := [some (.ref (c + 19)), some (.int (iI x))]) (st' := [.int (iI 2), .int (iI (s.C 5)), .ref (s.P 5), .ref (c + 19)]) rfl rfl ?_
    refine mi_mul rfl ?_
    refine go_s (m := 183) (as := [.ref (s.P 5), .int (iI ((s.C 5) * 2))]) (r := [.ref (c + 19)]) rfl rfl rfl rfl (xm_copyOf_int z d (s.P 5) (s.C 5) (s.C 5 * 2) (s.A 5) hp (ki_12 hK).2 (hK.1 26 (by decide)) (by omega) (by omega) (by omega) (by omega) (by omega)) (fun v h1 hq => ?_)
    obtain ⟨rfl, rfl⟩ := hq
    show xx_go (xt_P z) (d + 1) 35 37 [some (.ref (c + 19)), some (.int (iI x))] [.ref hp.length, .ref (c + 19)] ((hp ++ [.inl (.int, xa_f (s.C 5 * 2).toNat (cf (s.C 5) (s.A 5)))])) _
    refine kgrow_5 (m := s.C 5 * 2) (g := cf (s.C 5) (s.A 5)) hK hX rfl rfl (by omega) (by omega) (by omega) (fun hp1 hK hX => ?_)
    obtain ⟨s1, hs1⟩ : ∃ s1 : KS, s1 = s.wG 5 (s.C 5 * 2) (cf (s.C 5) (s.A 5)) hp.length := ⟨_, rfl⟩
    rw [← hs1] at hK hX
    have c1 : s1.C 5 = s.C 5 * 2 := by rw [hs1]; rfl
    have i1 : s1.I = s.I := by rw [hs1]; rfl
    have i1j : s1.I 5 = s.I 5 := by rw [i1]
    have a1 : s1.A 5 = cf (s.C 5) (s.A 5) := by rw [hs1]; rfl
    have fr : s1.N = s.N ∧ s1.T = s.T ∧ ∀ i : Nat, i ≠ 5 → s1.A i = s.A i ∧ s1.C i = s.C i ∧ s1.P i = s.P i := by
      rw [hs1]
      exact ⟨rfl, rfl, fun i ne => ⟨sw_ne ne, su_ne ne, un_ne ne⟩⟩
    have B1 : KB s1 := by
      rw [hs1]
      exact KB_wG hB (by decide) (by omega) (by omega) (cf_R (hB.1 5))
    refine go_a (pc' := 41) (ls' := [some (.ref (c + 19)), some (.int (iI x))]) (st' := [.ref (c + 19)]) rfl rfl ?_
    refine go_get (v := .ref (s1.P 5)) rfl (hK.1 11 (by decide)) rfl rfl ?_
    refine go_a (pc' := 45) (ls' := [some (.ref (c + 19)), some (.int (iI x))]) (st' := [.ref (c + 19), .ref (s1.P 5)]) rfl rfl ?_
    refine go_get (v := .int (iI (s1.I 5))) rfl (hK.1 11 (by decide)) rfl rfl ?_
    refine go_a (pc' := 49) (ls' := [some (.ref (c + 19)), some (.int (iI x))]) (st' := [.int (iI x), .int (iI (s1.I 5)), .ref (s1.P 5)]) rfl rfl ?_
    refine kist_5 (s := s1) (x := x) (e := s1.I 5) hK hX rfl (by omega) (show _ < s1.C 5 by omega) (show s1.C 5 ≤ 1000000 by omega) (fun hp hK hX => ?_)
    refine go_a (pc' := 51) (ls' := [some (.ref (c + 19)), some (.int (iI x))]) (st' := [.ref (c + 19)]) rfl rfl ?_
    refine go_a (pc' := 52) (ls' := [some (.ref (c + 19)), some (.int (iI x))]) (st' := [.ref (c + 19), .ref (c + 19)]) rfl rfl ?_
    refine go_get (v := .int (iI (s1.I 5))) rfl (hK.1 11 (by decide)) rfl rfl ?_
    refine go_a (pc' := 56) (ls' := [some (.ref (c + 19)), some (.int (iI x))]) (st' := [.int (iI 1), .int (iI (s1.I 5)), .ref (c + 19)]) rfl rfl ?_
    refine mi_add rfl ?_
    refine kput_5 (x := (s1.I 5) + 1) hK hX rfl rfl (fun hp hK hX => ?_)
    exact go_r rfl rfl rfl rfl rfl rfl ⟨rfl, _, hK, KB_wI (KB_wA B1 x0 x1) (by omega) (by omega) (fun _ => (show 0 ≤ s1.I 5 + 1 ∧ s1.I 5 + 1 ≤ s1.C 5 by omega)) (fun q => absurd q (by decide)) (by decide), hX, ⟨fr.1, fr.2.1, fun i ne => ⟨(sa_ne ne).trans (fr.2.2 i ne).1, (fr.2.2 i ne).2⟩, (show s.C 5 ≤ s1.C 5 by omega), (show s1.C 5 ≤ 8192 by omega)⟩, (show su s1.I 5 (s1.I 5 + 1) = _ by rw [i1]), (show s.I 5 + 1 ≤ s1.C 5 by omega), (show sf (s1.A 5) (s1.I 5) x (s.I 5) = x by rw [i1j]; exact sf_self), fun e q => (show sf (s1.A 5) (s1.I 5) x e = s.A 5 e by rw [i1j, sf_ne (by omega), a1]; exact if_pos (by omega))⟩
theorem kr_length_6 (z : Value) (d c : Nat) (hp : xx_H) (s : KS) (hK : KI c hp s) : xx_cl (xt_P z) (d + 1) 34 [.ref (c + 26)] hp (fun v h1 => v = some (.int (iI (s.I 6))) ∧ h1 = hp) := by
  refine cl_go rfl ?_
  show xx_go (xt_P z) d 34 0 [some (.ref (c + 26))] [] hp _
  refine go_a (pc' := 1) (ls' := [some (.ref (c + 26))]) (st' := [.ref (c + 26)]) rfl rfl ?_
  refine go_get (v := .int (iI (s.I 6))) rfl (hK.1 17 (by decide)) rfl rfl ?_
  exact go_r rfl rfl rfl rfl rfl rfl ⟨rfl, rfl⟩
theorem kr_cut_6 (z : Value) (d c : Nat) (n : Int) (hp : xx_H) (s : KS) (hK : KI c hp s) (hB : KB s) (n0 : -2147483648 ≤ n) (n1 : n < 2147483648) : xx_cl (xt_P z) (d + 1) 39 [.ref (c + 26), .int (iI n)] hp (fun v h1 => v = none ∧ ((0 ≤ n ∧ n < s.I 6 ∧ KI c h1 (s.wI 6 n) ∧ KB (s.wI 6 n) ∧ kx c hp s h1 (s.wI 6 n) 0 0) ∨ (¬ (0 ≤ n ∧ n < s.I 6) ∧ h1 = hp))) := by
  obtain ⟨b3, b2, b0, b1⟩ := hB.2.2.2.1 6 (by decide)
  have hX : kx c hp s hp s 0 0 := kx_rf
  have no : ¬ (0 ≤ n ∧ n < s.I 6) → xx_go (xt_P z) d 39 17 [some (.ref (c + 26)), some (.int (iI n))] [] hp (fun v h1 => v = none ∧ ((0 ≤ n ∧ n < s.I 6 ∧ KI c h1 (s.wI 6 n) ∧ KB (s.wI 6 n) ∧ kx c hp s h1 (s.wI 6 n) 0 0) ∨ (¬ (0 ≤ n ∧ n < s.I 6) ∧ h1 = hp))) := by
    intro q
    exact go_r rfl rfl rfl rfl rfl rfl ⟨rfl, Or.inr ⟨q, rfl⟩⟩
  refine cl_go rfl ?_
  show xx_go (xt_P z) d 39 0 [some (.ref (c + 26)), some (.int (iI n))] [] hp _
  refine go_a (pc' := 1) (ls' := [some (.ref (c + 26)), some (.int (iI n))]) (st' := [.int (iI n)]) rfl rfl ?_
  refine mi_lt0 (t := 17) rfl rfl (by omega) (by omega) (fun q => no (by omega)) (fun q1 => ?_)
  refine go_a (pc' := 5) (ls' := [some (.ref (c + 26)), some (.int (iI n))]) (st' := [.int (iI n)]) rfl rfl ?_
  refine go_a (pc' := 6) (ls' := [some (.ref (c + 26)), some (.int (iI n))]) (st' := [.ref (c + 26), .int (iI n)]) rfl rfl ?_
  refine go_get (v := .int (iI (s.I 6))) rfl (hK.1 17 (by decide)) rfl rfl ?_
  refine mi_ge (t := 17) rfl rfl (by omega) (by omega) (by omega) (by omega) (fun q => no (by omega)) (fun q2 => ?_)
  refine go_a (pc' := 13) (ls' := [some (.ref (c + 26)), some (.int (iI n))]) (st' := [.ref (c + 26)]) rfl rfl ?_
  refine go_a (pc' := 14) (ls' := [some (.ref (c + 26)), some (.int (iI n))]) (st' := [.int (iI n), .ref (c + 26)]) rfl rfl ?_
  refine kput_6 (x := n) hK hX rfl rfl (fun hp hK hX => ?_)
  exact go_r rfl rfl rfl rfl rfl rfl ⟨rfl, Or.inl ⟨by omega, by omega, hK, KB_wI hB (by omega) (by omega) (fun _ => by omega) (fun q => absurd q (by decide)) (by decide), hX⟩⟩
theorem kr_add_6 (z : Value) (d c : Nat) (x : Int) (hp : xx_H) (s : KS) (hK : KI c hp s) (hB : KB s) (b4 : s.I 6 < 4096) (x0 : -2147483648 ≤ x) (x1 : x ≤ 2147483647) : xx_cl (xt_P z) (d + 2) 35 [.ref (c + 26), .int (iI x)] hp (fun v h1 => v = none ∧ ∃ s1 : KS, KI c h1 s1 ∧ KB s1 ∧ kx c hp s h1 s1 0 0 ∧ KRW 6 s s1 ∧ s1.I = su s.I 6 (s.I 6 + 1) ∧ s.I 6 + 1 ≤ s1.C 6 ∧ s1.A 6 (s.I 6) = x ∧ ∀ e : Int, e < s.I 6 → s1.A 6 e = s.A 6 e) := by
  obtain ⟨b3, b2, b0, b1⟩ := hB.2.2.2.1 6 (by decide)
  have hX : kx c hp s hp s 0 0 := kx_rf
  refine cl_go rfl ?_
  show xx_go (xt_P z) (d + 1) 35 0 [some (.ref (c + 26)), some (.int (iI x))] [] hp _
  refine go_a (pc' := 1) (ls' := [some (.ref (c + 26)), some (.int (iI x))]) (st' := [.ref (c + 26)]) rfl rfl ?_
  refine go_get (v := .int (iI (s.I 6))) rfl (hK.1 17 (by decide)) rfl rfl ?_
  refine go_b (pc' := 6) (st' := [.int (iI 1048576), .int (iI (s.I 6))]) (h' := hp) rfl rfl rfl ?_
  refine mi_lt (t := 10) rfl rfl (by omega) (by omega) (by omega) (by omega) (fun _ => ?_) (fun q => absurd (show s.I 6 < 1048576 by omega) q)
  refine go_a (pc' := 11) (ls' := [some (.ref (c + 26)), some (.int (iI x))]) (st' := [.ref (c + 26)]) rfl rfl ?_
  refine go_get (v := .int (iI (s.I 6))) rfl (hK.1 17 (by decide)) rfl rfl ?_
  refine go_a (pc' := 15) (ls' := [some (.ref (c + 26)), some (.int (iI x))]) (st' := [.ref (c + 26), .int (iI (s.I 6))]) rfl rfl ?_
  refine go_get (v := .ref (s.P 6)) rfl (hK.1 17 (by decide)) rfl rfl ?_
  refine mk_len (n := s.C 6) rfl (hK.1 27 (by decide)) (xa_f_len _ _) (by omega) (by omega) ?_
  refine mi_lt (t := 40) rfl rfl (by omega) (by omega) (by omega) (by omega) (fun q => ?_) (fun q => ?_)
  · refine go_a (pc' := 41) (ls' := [some (.ref (c + 26)), some (.int (iI x))]) (st' := [.ref (c + 26)]) rfl rfl ?_
    refine go_get (v := .ref (s.P 6)) rfl (hK.1 17 (by decide)) rfl rfl ?_
    refine go_a (pc' := 45) (ls' := [some (.ref (c + 26)), some (.int (iI x))]) (st' := [.ref (c + 26), .ref (s.P 6)]) rfl rfl ?_
    refine go_get (v := .int (iI (s.I 6))) rfl (hK.1 17 (by decide)) rfl rfl ?_
    refine go_a (pc' := 49) (ls' := [some (.ref (c + 26)), some (.int (iI x))]) (st' := [.int (iI x), .int (iI (s.I 6)), .ref (s.P 6)]) rfl rfl ?_
    refine kist_6 (s := s) (x := x) (e := s.I 6) hK hX rfl (by omega) (show _ < s.C 6 by omega) (show s.C 6 ≤ 1000000 by omega) (fun hp hK hX => ?_)
    refine go_a (pc' := 51) (ls' := [some (.ref (c + 26)), some (.int (iI x))]) (st' := [.ref (c + 26)]) rfl rfl ?_
    refine go_a (pc' := 52) (ls' := [some (.ref (c + 26)), some (.int (iI x))]) (st' := [.ref (c + 26), .ref (c + 26)]) rfl rfl ?_
    refine go_get (v := .int (iI (s.I 6))) rfl (hK.1 17 (by decide)) rfl rfl ?_
    refine go_a (pc' := 56) (ls' := [some (.ref (c + 26)), some (.int (iI x))]) (st' := [.int (iI 1), .int (iI (s.I 6)), .ref (c + 26)]) rfl rfl ?_
    refine mi_add rfl ?_
    refine kput_6 (x := (s.I 6) + 1) hK hX rfl rfl (fun hp hK hX => ?_)
    exact go_r rfl rfl rfl rfl rfl rfl ⟨rfl, _, hK, KB_wI (KB_wA hB x0 x1) (by omega) (by omega) (fun _ => (show 0 ≤ s.I 6 + 1 ∧ s.I 6 + 1 ≤ s.C 6 by omega)) (fun q => absurd q (by decide)) (by decide), hX, ⟨rfl, rfl, fun i ne => ⟨sa_ne ne, rfl, rfl⟩, Int.le_refl _, b2⟩, rfl, (show s.I 6 + 1 ≤ s.C 6 by omega), sf_self, fun e q => sf_ne (by omega)⟩
  · refine go_a (pc' := 23) (ls' := [some (.ref (c + 26)), some (.int (iI x))]) (st' := [.ref (c + 26)]) rfl rfl ?_
    refine go_a (pc' := 24) (ls' := [some (.ref (c + 26)), some (.int (iI x))]) (st' := [.ref (c + 26), .ref (c + 26)]) rfl rfl ?_
    refine go_get (v := .ref (s.P 6)) rfl (hK.1 17 (by decide)) rfl rfl ?_
    refine go_a (pc' := 28) (ls' := [some (.ref (c + 26)), some (.int (iI x))]) (st' := [.ref (c + 26), .ref (s.P 6), .ref (c + 26)]) rfl rfl ?_
    refine go_get (v := .ref (s.P 6)) rfl (hK.1 17 (by decide)) rfl rfl ?_
    refine mk_len (n := s.C 6) rfl (hK.1 27 (by decide)) (xa_f_len _ _) (by omega) (by omega) ?_
    refine go_a (pc' := 33) (ls' := [some (.ref (c + 26)), some (.int (iI x))]) (st' := [.int (iI 2), .int (iI (s.C 6)), .ref (s.P 6), .ref (c + 26)]) rfl rfl ?_
    refine mi_mul rfl ?_
    refine go_s (m := 183) (as := [.ref (s.P 6), .int (iI ((s.C 6) * 2))]) (r := [.ref (c + 26)]) rfl rfl rfl rfl (xm_copyOf_int z d (s.P 6) (s.C 6) (s.C 6 * 2) (s.A 6) hp (ki_12 hK).2 (hK.1 27 (by decide)) (by omega) (by omega) (by omega) (by omega) (by omega)) (fun v h1 hq => ?_)
    obtain ⟨rfl, rfl⟩ := hq
    show xx_go (xt_P z) (d + 1) 35 37 [some (.ref (c + 26)), some (.int (iI x))] [.ref hp.length, .ref (c + 26)] ((hp ++ [.inl (.int, xa_f (s.C 6 * 2).toNat (cf (s.C 6) (s.A 6)))])) _
    refine kgrow_6 (m := s.C 6 * 2) (g := cf (s.C 6) (s.A 6)) hK hX rfl rfl (by omega) (by omega) (by omega) (fun hp1 hK hX => ?_)
    obtain ⟨s1, hs1⟩ : ∃ s1 : KS, s1 = s.wG 6 (s.C 6 * 2) (cf (s.C 6) (s.A 6)) hp.length := ⟨_, rfl⟩
    rw [← hs1] at hK hX
    have c1 : s1.C 6 = s.C 6 * 2 := by rw [hs1]; rfl
    have i1 : s1.I = s.I := by rw [hs1]; rfl
    have i1j : s1.I 6 = s.I 6 := by rw [i1]
    have a1 : s1.A 6 = cf (s.C 6) (s.A 6) := by rw [hs1]; rfl
    have fr : s1.N = s.N ∧ s1.T = s.T ∧ ∀ i : Nat, i ≠ 6 → s1.A i = s.A i ∧ s1.C i = s.C i ∧ s1.P i = s.P i := by
      rw [hs1]
      exact ⟨rfl, rfl, fun i ne => ⟨sw_ne ne, su_ne ne, un_ne ne⟩⟩
    have B1 : KB s1 := by
      rw [hs1]
      exact KB_wG hB (by decide) (by omega) (by omega) (cf_R (hB.1 6))
    refine go_a (pc' := 41) (ls' := [some (.ref (c + 26)), some (.int (iI x))]) (st' := [.ref (c + 26)]) rfl rfl ?_
    refine go_get (v := .ref (s1.P 6)) rfl (hK.1 17 (by decide)) rfl rfl ?_
    refine go_a (pc' := 45) (ls' := [some (.ref (c + 26)), some (.int (iI x))]) (st' := [.ref (c + 26), .ref (s1.P 6)]) rfl rfl ?_
    refine go_get (v := .int (iI (s1.I 6))) rfl (hK.1 17 (by decide)) rfl rfl ?_
    refine go_a (pc' := 49) (ls' := [some (.ref (c + 26)), some (.int (iI x))]) (st' := [.int (iI x), .int (iI (s1.I 6)), .ref (s1.P 6)]) rfl rfl ?_
    refine kist_6 (s := s1) (x := x) (e := s1.I 6) hK hX rfl (by omega) (show _ < s1.C 6 by omega) (show s1.C 6 ≤ 1000000 by omega) (fun hp hK hX => ?_)
    refine go_a (pc' := 51) (ls' := [some (.ref (c + 26)), some (.int (iI x))]) (st' := [.ref (c + 26)]) rfl rfl ?_
    refine go_a (pc' := 52) (ls' := [some (.ref (c + 26)), some (.int (iI x))]) (st' := [.ref (c + 26), .ref (c + 26)]) rfl rfl ?_
    refine go_get (v := .int (iI (s1.I 6))) rfl (hK.1 17 (by decide)) rfl rfl ?_
    refine go_a (pc' := 56) (ls' := [some (.ref (c + 26)), some (.int (iI x))]) (st' := [.int (iI 1), .int (iI (s1.I 6)), .ref (c + 26)]) rfl rfl ?_
    refine mi_add rfl ?_
    refine kput_6 (x := (s1.I 6) + 1) hK hX rfl rfl (fun hp hK hX => ?_)
    exact go_r rfl rfl rfl rfl rfl rfl ⟨rfl, _, hK, KB_wI (KB_wA B1 x0 x1) (by omega) (by omega) (fun _ => (show 0 ≤ s1.I 6 + 1 ∧ s1.I 6 + 1 ≤ s1.C 6 by omega)) (fun q => absurd q (by decide)) (by decide), hX, ⟨fr.1, fr.2.1, fun i ne => ⟨(sa_ne ne).trans (fr.2.2 i ne).1, (fr.2.2 i ne).2⟩, (show s.C 6 ≤ s1.C 6 by omega), (show s1.C 6 ≤ 8192 by omega)⟩, (show su s1.I 6 (s1.I 6 + 1) = _ by rw [i1]), (show s.I 6 + 1 ≤ s1.C 6 by omega), (show sf (s1.A 6) (s1.I 6) x (s.I 6) = x by rw [i1j]; exact sf_self), fun e q => (show sf (s1.A 6) (s1.I 6) x e = s.A 6 e by rw [i1j, sf_ne (by omega), a1]; exact if_pos (by omega))⟩
theorem kr_length_7 (z : Value) (d c : Nat) (hp : xx_H) (s : KS) (hK : KI c hp s) : xx_cl (xt_P z) (d + 1) 34 [.ref (c + 28)] hp (fun v h1 => v = some (.int (iI (s.I 7))) ∧ h1 = hp) := by
  refine cl_go rfl ?_
  show xx_go (xt_P z) d 34 0 [some (.ref (c + 28))] [] hp _
  refine go_a (pc' := 1) (ls' := [some (.ref (c + 28))]) (st' := [.ref (c + 28)]) rfl rfl ?_
  refine go_get (v := .int (iI (s.I 7))) rfl (hK.1 18 (by decide)) rfl rfl ?_
  exact go_r rfl rfl rfl rfl rfl rfl ⟨rfl, rfl⟩
theorem kr_at_7 (z : Value) (d c : Nat) (k : Int) (hp : xx_H) (s : KS) (hK : KI c hp s) (hB : KB s) (k0 : -2147483648 ≤ k) (k1 : k < 2147483648) : xx_cl (xt_P z) (d + 1) 43 [.ref (c + 28), .int (iI k)] hp (fun v h1 => ((0 ≤ k ∧ k < s.I 7 ∧ v = some (.int (iI (s.A 7 k)))) ∨ (¬ (0 ≤ k ∧ k < s.I 7) ∧ v = some (.int (iI 0)))) ∧ h1 = hp) := by
  obtain ⟨b3, b2, b0, b1⟩ := hB.2.2.2.1 7 (by decide)
  have no : ¬ (0 ≤ k ∧ k < s.I 7) → xx_go (xt_P z) d 43 21 [some (.ref (c + 28)), some (.int (iI k))] [] hp (fun v h1 => ((0 ≤ k ∧ k < s.I 7 ∧ v = some (.int (iI (s.A 7 k)))) ∨ (¬ (0 ≤ k ∧ k < s.I 7) ∧ v = some (.int (iI 0)))) ∧ h1 = hp) := by
    intro q
    refine go_a (pc' := 22) (ls' := [some (.ref (c + 28)), some (.int (iI k))]) (st' := [.int (iI 0)]) rfl rfl ?_
    exact go_r rfl rfl rfl rfl rfl rfl ⟨Or.inr ⟨q, rfl⟩, rfl⟩
  refine cl_go rfl ?_
  show xx_go (xt_P z) d 43 0 [some (.ref (c + 28)), some (.int (iI k))] [] hp _
  refine go_a (pc' := 1) (ls' := [some (.ref (c + 28)), some (.int (iI k))]) (st' := [.int (iI k)]) rfl rfl ?_
  refine mi_lt0 (t := 21) rfl rfl (by omega) (by omega) (fun q => no (by omega)) (fun q1 => ?_)
  refine go_a (pc' := 5) (ls' := [some (.ref (c + 28)), some (.int (iI k))]) (st' := [.int (iI k)]) rfl rfl ?_
  refine go_a (pc' := 6) (ls' := [some (.ref (c + 28)), some (.int (iI k))]) (st' := [.ref (c + 28), .int (iI k)]) rfl rfl ?_
  refine go_get (v := .int (iI (s.I 7))) rfl (hK.1 18 (by decide)) rfl rfl ?_
  refine mi_ge (t := 21) rfl rfl (by omega) (by omega) (by omega) (by omega) (fun q => no (by omega)) (fun q2 => ?_)
  refine go_a (pc' := 13) (ls' := [some (.ref (c + 28)), some (.int (iI k))]) (st' := [.ref (c + 28)]) rfl rfl ?_
  refine go_get (v := .ref (s.P 7)) rfl (hK.1 18 (by decide)) rfl rfl ?_
  refine go_a (pc' := 17) (ls' := [some (.ref (c + 28)), some (.int (iI k))]) (st' := [.int (iI k), .ref (s.P 7)]) rfl rfl ?_
  refine mi_ild (n := (s.C 7).toNat) (f := s.A 7) rfl (hK.1 28 (by decide)) (by omega) (by omega) (by omega) ?_
  refine go_a (pc' := 22) (ls' := [some (.ref (c + 28)), some (.int (iI k))]) (st' := [.int (iI (s.A 7 k))]) rfl rfl ?_
  exact go_r rfl rfl rfl rfl rfl rfl ⟨Or.inl ⟨by omega, by omega, rfl⟩, rfl⟩
theorem kr_last_7 (z : Value) (d c : Nat) (hp : xx_H) (s : KS) (hK : KI c hp s) (hB : KB s) : xx_cl (xt_P z) (d + 1) 44 [.ref (c + 28)] hp (fun v h1 => ((0 < s.I 7 ∧ v = some (.int (iI (s.A 7 (s.I 7 - 1))))) ∨ (s.I 7 = 0 ∧ v = some (.int (iI 0)))) ∧ h1 = hp) := by
  obtain ⟨b3, b2, b0, b1⟩ := hB.2.2.2.1 7 (by decide)
  refine cl_go rfl ?_
  show xx_go (xt_P z) d 44 0 [some (.ref (c + 28))] [] hp _
  refine go_a (pc' := 1) (ls' := [some (.ref (c + 28))]) (st' := [.ref (c + 28)]) rfl rfl ?_
  refine go_get (v := .int (iI (s.I 7))) rfl (hK.1 18 (by decide)) rfl rfl ?_
  refine mi_le0 (t := 21) rfl rfl (by omega) (by omega) (fun q => ?_) (fun q => ?_)
  · refine go_a (pc' := 22) (ls' := [some (.ref (c + 28))]) (st' := [.int (iI 0)]) rfl rfl ?_
    exact go_r rfl rfl rfl rfl rfl rfl ⟨Or.inr ⟨by omega, rfl⟩, rfl⟩
  · refine go_a (pc' := 8) (ls' := [some (.ref (c + 28))]) (st' := [.ref (c + 28)]) rfl rfl ?_
    refine go_get (v := .ref (s.P 7)) rfl (hK.1 18 (by decide)) rfl rfl ?_
    refine go_a (pc' := 12) (ls' := [some (.ref (c + 28))]) (st' := [.ref (c + 28), .ref (s.P 7)]) rfl rfl ?_
    refine go_get (v := .int (iI (s.I 7))) rfl (hK.1 18 (by decide)) rfl rfl ?_
    refine go_a (pc' := 16) (ls' := [some (.ref (c + 28))]) (st' := [.int (iI 1), .int (iI (s.I 7)), .ref (s.P 7)]) rfl rfl ?_
    refine mi_sub rfl ?_
    refine mi_ild (n := (s.C 7).toNat) (f := s.A 7) rfl (hK.1 28 (by decide)) (by omega) (by omega) (by omega) ?_
    refine go_a (pc' := 22) (ls' := [some (.ref (c + 28))]) (st' := [.int (iI (s.A 7 ((s.I 7) - 1)))]) rfl rfl ?_
    exact go_r rfl rfl rfl rfl rfl rfl ⟨Or.inl ⟨by omega, rfl⟩, rfl⟩
theorem kr_takeLast_7 (z : Value) (d c : Nat) (hp : xx_H) (s : KS) (hK : KI c hp s) (hB : KB s) : xx_cl (xt_P z) (d + 1) 192 [.ref (c + 28)] hp (fun v h1 => (s.I 7 = 0 ∧ v = some (.int (iI 0)) ∧ h1 = hp) ∨ (0 < s.I 7 ∧ v = some (.int (iI (s.A 7 (s.I 7 - 1)))) ∧ KI c h1 (s.wI 7 (s.I 7 - 1)) ∧ KB (s.wI 7 (s.I 7 - 1)) ∧ kx c hp s h1 (s.wI 7 (s.I 7 - 1)) 0 0)) := by
  obtain ⟨b3, b2, b0, b1⟩ := hB.2.2.2.1 7 (by decide)
  have hX : kx c hp s hp s 0 0 := kx_rf
  refine cl_go rfl ?_
  show xx_go (xt_P z) d 192 0 [some (.ref (c + 28))] [] hp _
  refine go_a (pc' := 1) (ls' := [some (.ref (c + 28))]) (st' := [.ref (c + 28)]) rfl rfl ?_
  refine go_get (v := .int (iI (s.I 7))) rfl (hK.1 18 (by decide)) rfl rfl ?_
  refine mi_gt0 (t := 9) rfl rfl (by omega) (by omega) (fun q => ?_) (fun q => ?_)
  · refine go_a (pc' := 10) (ls' := [some (.ref (c + 28))]) (st' := [.ref (c + 28)]) rfl rfl ?_
    refine go_a (pc' := 11) (ls' := [some (.ref (c + 28))]) (st' := [.ref (c + 28), .ref (c + 28)]) rfl rfl ?_
    refine go_get (v := .int (iI (s.I 7))) rfl (hK.1 18 (by decide)) rfl rfl ?_
    refine go_a (pc' := 15) (ls' := [some (.ref (c + 28))]) (st' := [.int (iI 1), .int (iI (s.I 7)), .ref (c + 28)]) rfl rfl ?_
    refine mi_sub rfl ?_
    refine kput_7 (x := (s.I 7) - 1) hK hX rfl rfl (fun hp hK hX => ?_)
    refine go_a (pc' := 20) (ls' := [some (.ref (c + 28))]) (st' := [.ref (c + 28)]) rfl rfl ?_
    refine go_get (v := .ref (s.P 7)) rfl (hK.1 18 (by decide)) rfl rfl ?_
    refine go_a (pc' := 24) (ls' := [some (.ref (c + 28))]) (st' := [.ref (c + 28), .ref (s.P 7)]) rfl rfl ?_
    refine go_get (v := .int (iI ((s.I 7) - 1))) rfl (hK.1 18 (by decide)) rfl rfl ?_
    refine mi_ild (n := (s.C 7).toNat) (f := (s.wI 7 ((s.I 7) - 1)).A 7) rfl (hK.1 28 (by decide)) (by omega) (by omega) (by omega) ?_
    exact go_r rfl rfl rfl rfl rfl rfl (Or.inr ⟨by omega, rfl, hK, KB_wI hB (by omega) (by omega) (fun _ => by omega) (fun q => absurd q (by decide)) (by decide), hX⟩)
  · refine go_a (pc' := 8) (ls' := [some (.ref (c + 28))]) (st' := [.int (iI 0)]) rfl rfl ?_
    exact go_r rfl rfl rfl rfl rfl rfl (Or.inl ⟨by omega, rfl, rfl⟩)
theorem kr_cut_7 (z : Value) (d c : Nat) (n : Int) (hp : xx_H) (s : KS) (hK : KI c hp s) (hB : KB s) (n0 : -2147483648 ≤ n) (n1 : n < 2147483648) : xx_cl (xt_P z) (d + 1) 39 [.ref (c + 28), .int (iI n)] hp (fun v h1 => v = none ∧ ((0 ≤ n ∧ n < s.I 7 ∧ KI c h1 (s.wI 7 n) ∧ KB (s.wI 7 n) ∧ kx c hp s h1 (s.wI 7 n) 0 0) ∨ (¬ (0 ≤ n ∧ n < s.I 7) ∧ h1 = hp))) := by
  obtain ⟨b3, b2, b0, b1⟩ := hB.2.2.2.1 7 (by decide)
  have hX : kx c hp s hp s 0 0 := kx_rf
  have no : ¬ (0 ≤ n ∧ n < s.I 7) → xx_go (xt_P z) d 39 17 [some (.ref (c + 28)), some (.int (iI n))] [] hp (fun v h1 => v = none ∧ ((0 ≤ n ∧ n < s.I 7 ∧ KI c h1 (s.wI 7 n) ∧ KB (s.wI 7 n) ∧ kx c hp s h1 (s.wI 7 n) 0 0) ∨ (¬ (0 ≤ n ∧ n < s.I 7) ∧ h1 = hp))) := by
    intro q
    exact go_r rfl rfl rfl rfl rfl rfl ⟨rfl, Or.inr ⟨q, rfl⟩⟩
  refine cl_go rfl ?_
  show xx_go (xt_P z) d 39 0 [some (.ref (c + 28)), some (.int (iI n))] [] hp _
  refine go_a (pc' := 1) (ls' := [some (.ref (c + 28)), some (.int (iI n))]) (st' := [.int (iI n)]) rfl rfl ?_
  refine mi_lt0 (t := 17) rfl rfl (by omega) (by omega) (fun q => no (by omega)) (fun q1 => ?_)
  refine go_a (pc' := 5) (ls' := [some (.ref (c + 28)), some (.int (iI n))]) (st' := [.int (iI n)]) rfl rfl ?_
  refine go_a (pc' := 6) (ls' := [some (.ref (c + 28)), some (.int (iI n))]) (st' := [.ref (c + 28), .int (iI n)]) rfl rfl ?_
  refine go_get (v := .int (iI (s.I 7))) rfl (hK.1 18 (by decide)) rfl rfl ?_
  refine mi_ge (t := 17) rfl rfl (by omega) (by omega) (by omega) (by omega) (fun q => no (by omega)) (fun q2 => ?_)
  refine go_a (pc' := 13) (ls' := [some (.ref (c + 28)), some (.int (iI n))]) (st' := [.ref (c + 28)]) rfl rfl ?_
  refine go_a (pc' := 14) (ls' := [some (.ref (c + 28)), some (.int (iI n))]) (st' := [.int (iI n), .ref (c + 28)]) rfl rfl ?_
  refine kput_7 (x := n) hK hX rfl rfl (fun hp hK hX => ?_)
  exact go_r rfl rfl rfl rfl rfl rfl ⟨rfl, Or.inl ⟨by omega, by omega, hK, KB_wI hB (by omega) (by omega) (fun _ => by omega) (fun q => absurd q (by decide)) (by decide), hX⟩⟩
theorem kr_add_7 (z : Value) (d c : Nat) (x : Int) (hp : xx_H) (s : KS) (hK : KI c hp s) (hB : KB s) (b4 : s.I 7 < 4096) (x0 : -2147483648 ≤ x) (x1 : x ≤ 2147483647) : xx_cl (xt_P z) (d + 2) 35 [.ref (c + 28), .int (iI x)] hp (fun v h1 => v = none ∧ ∃ s1 : KS, KI c h1 s1 ∧ KB s1 ∧ kx c hp s h1 s1 0 0 ∧ KRW 7 s s1 ∧ s1.I = su s.I 7 (s.I 7 + 1) ∧ s.I 7 + 1 ≤ s1.C 7 ∧ s1.A 7 (s.I 7) = x ∧ ∀ e : Int, e < s.I 7 → s1.A 7 e = s.A 7 e) := by
  obtain ⟨b3, b2, b0, b1⟩ := hB.2.2.2.1 7 (by decide)
  have hX : kx c hp s hp s 0 0 := kx_rf
  refine cl_go rfl ?_
  show xx_go (xt_P z) (d + 1) 35 0 [some (.ref (c + 28)), some (.int (iI x))] [] hp _
  refine go_a (pc' := 1) (ls' := [some (.ref (c + 28)), some (.int (iI x))]) (st' := [.ref (c + 28)]) rfl rfl ?_
  refine go_get (v := .int (iI (s.I 7))) rfl (hK.1 18 (by decide)) rfl rfl ?_
  refine go_b (pc' := 6) (st' := [.int (iI 1048576), .int (iI (s.I 7))]) (h' := hp) rfl rfl rfl ?_
  refine mi_lt (t := 10) rfl rfl (by omega) (by omega) (by omega) (by omega) (fun _ => ?_) (fun q => absurd (show s.I 7 < 1048576 by omega) q)
  refine go_a (pc' := 11) (ls' := [some (.ref (c + 28)), some (.int (iI x))]) (st' := [.ref (c + 28)]) rfl rfl ?_
  refine go_get (v := .int (iI (s.I 7))) rfl (hK.1 18 (by decide)) rfl rfl ?_
  refine go_a (pc' := 15) (ls' := [some (.ref (c + 28)), some (.int (iI x))]) (st' := [.ref (c + 28), .int (iI (s.I 7))]) rfl rfl ?_
  refine go_get (v := .ref (s.P 7)) rfl (hK.1 18 (by decide)) rfl rfl ?_
  refine mk_len (n := s.C 7) rfl (hK.1 28 (by decide)) (xa_f_len _ _) (by omega) (by omega) ?_
  refine mi_lt (t := 40) rfl rfl (by omega) (by omega) (by omega) (by omega) (fun q => ?_) (fun q => ?_)
  · refine go_a (pc' := 41) (ls' := [some (.ref (c + 28)), some (.int (iI x))]) (st' := [.ref (c + 28)]) rfl rfl ?_
    refine go_get (v := .ref (s.P 7)) rfl (hK.1 18 (by decide)) rfl rfl ?_
    refine go_a (pc' := 45) (ls' := [some (.ref (c + 28)), some (.int (iI x))]) (st' := [.ref (c + 28), .ref (s.P 7)]) rfl rfl ?_
    refine go_get (v := .int (iI (s.I 7))) rfl (hK.1 18 (by decide)) rfl rfl ?_
    refine go_a (pc' := 49) (ls' := [some (.ref (c + 28)), some (.int (iI x))]) (st' := [.int (iI x), .int (iI (s.I 7)), .ref (s.P 7)]) rfl rfl ?_
    refine kist_7 (s := s) (x := x) (e := s.I 7) hK hX rfl (by omega) (show _ < s.C 7 by omega) (show s.C 7 ≤ 1000000 by omega) (fun hp hK hX => ?_)
    refine go_a (pc' := 51) (ls' := [some (.ref (c + 28)), some (.int (iI x))]) (st' := [.ref (c + 28)]) rfl rfl ?_
    refine go_a (pc' := 52) (ls' := [some (.ref (c + 28)), some (.int (iI x))]) (st' := [.ref (c + 28), .ref (c + 28)]) rfl rfl ?_
    refine go_get (v := .int (iI (s.I 7))) rfl (hK.1 18 (by decide)) rfl rfl ?_
    refine go_a (pc' := 56) (ls' := [some (.ref (c + 28)), some (.int (iI x))]) (st' := [.int (iI 1), .int (iI (s.I 7)), .ref (c + 28)]) rfl rfl ?_
    refine mi_add rfl ?_
    refine kput_7 (x := (s.I 7) + 1) hK hX rfl rfl (fun hp hK hX => ?_)
    exact go_r rfl rfl rfl rfl rfl rfl ⟨rfl, _, hK, KB_wI (KB_wA hB x0 x1) (by omega) (by omega) (fun _ => (show 0 ≤ s.I 7 + 1 ∧ s.I 7 + 1 ≤ s.C 7 by omega)) (fun q => absurd q (by decide)) (by decide), hX, ⟨rfl, rfl, fun i ne => ⟨sa_ne ne, rfl, rfl⟩, Int.le_refl _, b2⟩, rfl, (show s.I 7 + 1 ≤ s.C 7 by omega), sf_self, fun e q => sf_ne (by omega)⟩
  · refine go_a (pc' := 23) (ls' := [some (.ref (c + 28)), some (.int (iI x))]) (st' := [.ref (c + 28)]) rfl rfl ?_
    refine go_a (pc' := 24) (ls' := [some (.ref (c + 28)), some (.int (iI x))]) (st' := [.ref (c + 28), .ref (c + 28)]) rfl rfl ?_
    refine go_get (v := .ref (s.P 7)) rfl (hK.1 18 (by decide)) rfl rfl ?_
    refine go_a (pc' := 28) (ls' := [some (.ref (c + 28)), some (.int (iI x))]) (st' := [.ref (c + 28), .ref (s.P 7), .ref (c + 28)]) rfl rfl ?_
    refine go_get (v := .ref (s.P 7)) rfl (hK.1 18 (by decide)) rfl rfl ?_
    refine mk_len (n := s.C 7) rfl (hK.1 28 (by decide)) (xa_f_len _ _) (by omega) (by omega) ?_
    refine go_a (pc' := 33) (ls' := [some (.ref (c + 28)), some (.int (iI x))]) (st' := [.int (iI 2), .int (iI (s.C 7)), .ref (s.P 7), .ref (c + 28)]) rfl rfl ?_
    refine mi_mul rfl ?_
    refine go_s (m := 183) (as := [.ref (s.P 7), .int (iI ((s.C 7) * 2))]) (r := [.ref (c + 28)]) rfl rfl rfl rfl (xm_copyOf_int z d (s.P 7) (s.C 7) (s.C 7 * 2) (s.A 7) hp (ki_12 hK).2 (hK.1 28 (by decide)) (by omega) (by omega) (by omega) (by omega) (by omega)) (fun v h1 hq => ?_)
    obtain ⟨rfl, rfl⟩ := hq
    show xx_go (xt_P z) (d + 1) 35 37 [some (.ref (c + 28)), some (.int (iI x))] [.ref hp.length, .ref (c + 28)] ((hp ++ [.inl (.int, xa_f (s.C 7 * 2).toNat (cf (s.C 7) (s.A 7)))])) _
    refine kgrow_7 (m := s.C 7 * 2) (g := cf (s.C 7) (s.A 7)) hK hX rfl rfl (by omega) (by omega) (by omega) (fun hp1 hK hX => ?_)
    obtain ⟨s1, hs1⟩ : ∃ s1 : KS, s1 = s.wG 7 (s.C 7 * 2) (cf (s.C 7) (s.A 7)) hp.length := ⟨_, rfl⟩
    rw [← hs1] at hK hX
    have c1 : s1.C 7 = s.C 7 * 2 := by rw [hs1]; rfl
    have i1 : s1.I = s.I := by rw [hs1]; rfl
    have i1j : s1.I 7 = s.I 7 := by rw [i1]
    have a1 : s1.A 7 = cf (s.C 7) (s.A 7) := by rw [hs1]; rfl
    have fr : s1.N = s.N ∧ s1.T = s.T ∧ ∀ i : Nat, i ≠ 7 → s1.A i = s.A i ∧ s1.C i = s.C i ∧ s1.P i = s.P i := by
      rw [hs1]
      exact ⟨rfl, rfl, fun i ne => ⟨sw_ne ne, su_ne ne, un_ne ne⟩⟩
    have B1 : KB s1 := by
      rw [hs1]
      exact KB_wG hB (by decide) (by omega) (by omega) (cf_R (hB.1 7))
    refine go_a (pc' := 41) (ls' := [some (.ref (c + 28)), some (.int (iI x))]) (st' := [.ref (c + 28)]) rfl rfl ?_
    refine go_get (v := .ref (s1.P 7)) rfl (hK.1 18 (by decide)) rfl rfl ?_
    refine go_a (pc' := 45) (ls' := [some (.ref (c + 28)), some (.int (iI x))]) (st' := [.ref (c + 28), .ref (s1.P 7)]) rfl rfl ?_
    refine go_get (v := .int (iI (s1.I 7))) rfl (hK.1 18 (by decide)) rfl rfl ?_
    refine go_a (pc' := 49) (ls' := [some (.ref (c + 28)), some (.int (iI x))]) (st' := [.int (iI x), .int (iI (s1.I 7)), .ref (s1.P 7)]) rfl rfl ?_
    refine kist_7 (s := s1) (x := x) (e := s1.I 7) hK hX rfl (by omega) (show _ < s1.C 7 by omega) (show s1.C 7 ≤ 1000000 by omega) (fun hp hK hX => ?_)
    refine go_a (pc' := 51) (ls' := [some (.ref (c + 28)), some (.int (iI x))]) (st' := [.ref (c + 28)]) rfl rfl ?_
    refine go_a (pc' := 52) (ls' := [some (.ref (c + 28)), some (.int (iI x))]) (st' := [.ref (c + 28), .ref (c + 28)]) rfl rfl ?_
    refine go_get (v := .int (iI (s1.I 7))) rfl (hK.1 18 (by decide)) rfl rfl ?_
    refine go_a (pc' := 56) (ls' := [some (.ref (c + 28)), some (.int (iI x))]) (st' := [.int (iI 1), .int (iI (s1.I 7)), .ref (c + 28)]) rfl rfl ?_
    refine mi_add rfl ?_
    refine kput_7 (x := (s1.I 7) + 1) hK hX rfl rfl (fun hp hK hX => ?_)
    exact go_r rfl rfl rfl rfl rfl rfl ⟨rfl, _, hK, KB_wI (KB_wA B1 x0 x1) (by omega) (by omega) (fun _ => (show 0 ≤ s1.I 7 + 1 ∧ s1.I 7 + 1 ≤ s1.C 7 by omega)) (fun q => absurd q (by decide)) (by decide), hX, ⟨fr.1, fr.2.1, fun i ne => ⟨(sa_ne ne).trans (fr.2.2 i ne).1, (fr.2.2 i ne).2⟩, (show s.C 7 ≤ s1.C 7 by omega), (show s1.C 7 ≤ 8192 by omega)⟩, (show su s1.I 7 (s1.I 7 + 1) = _ by rw [i1]), (show s.I 7 + 1 ≤ s1.C 7 by omega), (show sf (s1.A 7) (s1.I 7) x (s.I 7) = x by rw [i1j]; exact sf_self), fun e q => (show sf (s1.A 7) (s1.I 7) x e = s.A 7 e by rw [i1j, sf_ne (by omega), a1]; exact if_pos (by omega))⟩
