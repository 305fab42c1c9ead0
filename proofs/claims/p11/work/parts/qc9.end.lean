theorem mm_fuel (z : Value) (d : Nat) (n : Int) (h R : xx_H) (I : Nat → Int) (A : Nat → Int → Int) (N : Int → Int) (hc : 12 ≤ h.length) (n0 : -2147483648 ≤ n) (n1 : n < 2147483648) : xx_cl (xt_P z) (d + 1) 68 [.ref h.length, .int (iI n)] (mh h R I A N) (fun v h1 => (v = some (.int (iI (-1))) ∧ h1 = mh h R I A N ∧ ¬ (1 ≤ n ∧ n ≤ 1000)) ∨ (v = some (.int (iI (I 47))) ∧ h1 = mh h R (su I 47 n) A N ∧ 1 ≤ n ∧ n ≤ 1000)) := by
  refine cl_go rfl ?_
  show xx_go (xt_P z) d 68 0 [some (.ref h.length), some (.int (iI n)), none] [] (mh h R I A N) _
  refine go_a (pc' := 1) (ls' := [some (.ref h.length), some (.int (iI n)), none]) (st' := [.int (iI n)]) rfl rfl ?_
  refine go_a (pc' := 2) (ls' := [some (.ref h.length), some (.int (iI n)), none]) (st' := [.int (iI 1), .int (iI n)]) rfl rfl ?_
  refine mi_lt (t := 12) rfl rfl (by omega) (by omega) (by omega) (by omega) (fun q => ?_) (fun q => ?_)
  · refine go_a (pc' := 13) (ls' := [some (.ref h.length), some (.int (iI n)), none]) (st' := [.int (iI ((-1)))]) rfl rfl ?_
    exact go_r rfl rfl rfl rfl rfl rfl (Or.inl ⟨rfl, rfl, by omega⟩)
  · refine go_a (pc' := 6) (ls' := [some (.ref h.length), some (.int (iI n)), none]) (st' := [.int (iI n)]) rfl rfl ?_
    refine go_a (pc' := 9) (ls' := [some (.ref h.length), some (.int (iI n)), none]) (st' := [.int (iI 1000), .int (iI n)]) rfl rfl ?_
    refine mi_le (t := 14) rfl rfl (by omega) (by omega) (by omega) (by omega) (fun q2 => ?_) (fun q2 => ?_)
    · refine go_a (pc' := 15) (ls' := [some (.ref h.length), some (.int (iI n)), none]) (st' := [.ref h.length]) rfl rfl ?_
      refine go_get (v := .int (iI (I 47))) rfl mh_o rfl rfl ?_
      refine go_a (pc' := 19) (ls' := [some (.ref h.length), some (.int (iI n)), some (.int (iI (I 47)))]) (st' := []) rfl rfl ?_
      refine go_a (pc' := 20) (ls' := [some (.ref h.length), some (.int (iI n)), some (.int (iI (I 47)))]) (st' := [.ref h.length]) rfl rfl ?_
      refine go_a (pc' := 21) (ls' := [some (.ref h.length), some (.int (iI n)), some (.int (iI (I 47)))]) (st' := [.int (iI n), .ref h.length]) rfl rfl ?_
      refine go_put (j := 47) rfl mh_o rfl rfl (show 12 ≤ _ from hc) (show 47 < 86 by decide) rfl rfl ?_
      rw [mh_p47]
      refine go_a (pc' := 25) (ls' := [some (.ref h.length), some (.int (iI n)), some (.int (iI (I 47)))]) (st' := [.int (iI (I 47))]) rfl rfl ?_
      exact go_r rfl rfl rfl rfl rfl rfl (Or.inr ⟨rfl, rfl, by omega, by omega⟩)
    · refine go_a (pc' := 13) (ls' := [some (.ref h.length), some (.int (iI n)), none]) (st' := [.int (iI ((-1)))]) rfl rfl ?_
      exact go_r rfl rfl rfl rfl rfl rfl (Or.inl ⟨rfl, rfl, by omega⟩)
theorem mm_end_zero (z : Value) (d : Nat) (n : Int) (h R : xx_H) (I1 : Nat → Int) (N : Int → Int) (hc : 12 ≤ h.length) (Q : Option Value → xx_H → Prop) : ∀ (m : Nat) (k : Int) (A1 : Nat → Int → Int), 20 - k = m → 0 ≤ k → k ≤ 20 → (∀ e : Int, 0 ≤ e → e < k → A1 10 e = 0) → (∀ A2 : Nat → Int → Int, (∀ e : Int, 0 ≤ e → e < 20 → A2 10 e = 0) → (∀ a : Nat, a ≠ 10 → A2 a = A1 a) → (∀ e : Int, A2 10 e = 0 ∨ A2 10 e = A1 10 e) → Q (some (.int (iI (I1 13)))) (mh h R I1 A2 N)) → xx_go (xt_P z) d 67 66 [some (.ref h.length), some (.int (iI n)), some (.int (iI k))] [] (mh h R I1 A1 N) Q := by
  intro m
  induction m with
  | zero =>
    intro k A1 em k0 k1 hz K
    refine go_a (pc' := 67) (ls' := [some (.ref h.length), some (.int (iI n)), some (.int (iI k))]) (st' := [.int (iI k)]) rfl rfl ?_
    refine go_a (pc' := 69) (ls' := [some (.ref h.length), some (.int (iI n)), some (.int (iI k))]) (st' := [.int (iI 20), .int (iI k)]) rfl rfl ?_
    refine mi_ge (t := 85) rfl rfl (by omega) (by omega) (by omega) (by omega) (fun _ => ?_) (fun q => absurd (show (20 : Int) ≤ k by omega) q)
    refine go_a (pc' := 86) (ls' := [some (.ref h.length), some (.int (iI n)), some (.int (iI k))]) (st' := [.ref h.length]) rfl rfl ?_
    refine go_get (v := .int (iI (I1 13))) rfl mh_o rfl rfl ?_
    exact go_r rfl rfl rfl rfl rfl rfl (K A1 (fun e a b => hz e a (by omega)) (fun _ _ => rfl) (fun _ => Or.inr rfl))
  | succ m ih =>
    intro k A1 em k0 k1 hz K
    refine go_a (pc' := 67) (ls' := [some (.ref h.length), some (.int (iI n)), some (.int (iI k))]) (st' := [.int (iI k)]) rfl rfl ?_
    refine go_a (pc' := 69) (ls' := [some (.ref h.length), some (.int (iI n)), some (.int (iI k))]) (st' := [.int (iI 20), .int (iI k)]) rfl rfl ?_
    refine mi_ge (t := 85) rfl rfl (by omega) (by omega) (by omega) (by omega) (fun q => absurd q (by omega)) (fun _ => ?_)
    refine go_a (pc' := 73) (ls' := [some (.ref h.length), some (.int (iI n)), some (.int (iI k))]) (st' := [.ref h.length]) rfl rfl ?_
    refine go_get rfl mh_o rfl rfl ?_
    refine go_a (pc' := 77) (ls' := [some (.ref h.length), some (.int (iI n)), some (.int (iI k))]) (st' := [.int (iI k), .ref (h.length + 10)]) rfl rfl ?_
    refine go_a (pc' := 78) (ls' := [some (.ref h.length), some (.int (iI n)), some (.int (iI k))]) (st' := [.int (iI 0), .int (iI k), .ref (h.length + 10)]) rfl rfl ?_
    refine mi_ist rfl mh_a10 (show 12 ≤ _ by omega) (by omega) (by omega) (by decide) ?_
    rw [mh_w10 (by omega)]
    refine go_a (pc' := 82) (ls' := [some (.ref h.length), some (.int (iI n)), some (.int (iI (k + 1)))]) (st' := []) rfl (by rw [← iI_add k 1]; rfl) ?_
    refine go_a (pc' := 66) (ls' := [some (.ref h.length), some (.int (iI n)), some (.int (iI (k + 1)))]) (st' := []) rfl rfl ?_
    refine ih (k + 1) _ (by omega) (by omega) (by omega) (fun e a b => ?_) (fun A2 a b w => K A2 a (fun c hc9 => (b c hc9).trans (sa_ne hc9)) (fun e => (w e).elim Or.inl (fun y => by
      have y : A2 10 e = sf (A1 10) k 0 e := y
      by_cases q : e = k
      · rw [q, sf_self] at y
        rw [q]
        exact Or.inl y
      · rw [sf_ne q] at y
        exact Or.inr y)))
    show sf (A1 10) k 0 e = 0
    by_cases q : e = k
    · rw [q, sf_self]
    · rw [sf_ne q]
      exact hz e a (by omega)
theorem mm_end_loop (z : Value) (d : Nat) (n : Int) (h R : xx_H) (I : Nat → Int) (A : Nat → Int → Int) (N : Int → Int) (hc : 12 ≤ h.length) (n0 : 0 ≤ n) (n1 : n ≤ 20) (t0 : 0 ≤ I 13) (t1 : I 13 + n ≤ 3000) : ∀ (m : Nat) (k : Int) (A1 : Nat → Int → Int), n - k = m → 0 ≤ k → k ≤ n → (∀ e : Int, 0 ≤ e → e < k → A1 11 (I 13 + e) = A 10 e) → (∀ e : Int, e < I 13 ∨ I 13 + k ≤ e → A1 11 e = A 11 e) → (∀ a : Nat, a ≠ 11 → A1 a = A a) → xx_go (xt_P z) d 67 26 [some (.ref h.length), some (.int (iI n)), some (.int (iI k))] [] (mh h R I A1 N) (fun v h1 => (v = some (.int (iI (-1))) ∧ h1 = mh h R I A N ∧ ¬ (0 ≤ n ∧ n ≤ 20 ∧ I 13 + n ≤ 3000)) ∨ (v = some (.int (iI (I 13 + n))) ∧ (0 ≤ n ∧ n ≤ 20 ∧ I 13 + n ≤ 3000) ∧ ∃ A2 : Nat → Int → Int, h1 = mh h R (su I 13 (I 13 + n)) A2 N ∧ (∀ e : Int, 0 ≤ e → e < 20 → A2 10 e = 0) ∧ (∀ e : Int, 0 ≤ e → e < n → A2 11 (I 13 + e) = A 10 e) ∧ (∀ e : Int, e < I 13 ∨ I 13 + n ≤ e → A2 11 e = A 11 e) ∧ (∀ a : Nat, a ≠ 10 → a ≠ 11 → A2 a = A a) ∧ ∀ e : Int, A2 10 e = 0 ∨ A2 10 e = A 10 e)) := by
  intro m
  induction m with
  | zero =>
    intro k A1 em k0 k1 h1 h2 h3
    refine go_a (pc' := 27) (ls' := [some (.ref h.length), some (.int (iI n)), some (.int (iI k))]) (st' := [.int (iI k)]) rfl rfl ?_
    refine go_a (pc' := 28) (ls' := [some (.ref h.length), some (.int (iI n)), some (.int (iI k))]) (st' := [.int (iI n), .int (iI k)]) rfl rfl ?_
    refine mi_ge (t := 54) rfl rfl (by omega) (by omega) (by omega) (by omega) (fun _ => ?_) (fun q => absurd (show n ≤ k by omega) q)
    refine go_a (pc' := 55) (ls' := [some (.ref h.length), some (.int (iI n)), some (.int (iI k))]) (st' := [.ref h.length]) rfl rfl ?_
    refine go_a (pc' := 56) (ls' := [some (.ref h.length), some (.int (iI n)), some (.int (iI k))]) (st' := [.ref h.length, .ref h.length]) rfl rfl ?_
    refine go_get (v := .int (iI (I 13))) rfl mh_o rfl rfl ?_
    refine go_a (pc' := 60) (ls' := [some (.ref h.length), some (.int (iI n)), some (.int (iI k))]) (st' := [.int (iI n), .int (iI (I 13)), .ref h.length]) rfl rfl ?_
    refine mi_add rfl ?_
    refine go_put (j := 13) rfl mh_o rfl rfl (show 12 ≤ _ from hc) (show 13 < 86 by decide) rfl rfl ?_
    rw [mh_p13]
    refine go_a (pc' := 65) (ls' := [some (.ref h.length), some (.int (iI n)), some (.int (iI k))]) (st' := [.int (iI 0)]) rfl rfl ?_
    refine go_a (pc' := 66) (ls' := [some (.ref h.length), some (.int (iI n)), some (.int (iI 0))]) (st' := []) rfl rfl ?_
    refine mm_end_zero z d n h R _ N hc _ 20 0 A1 (by decide) (by decide) (by decide) (fun e a b => absurd b (by omega)) (fun A2 a b w => ?_)
    refine Or.inr ⟨rfl, ⟨n0, n1, t1⟩, A2, rfl, a, fun e e0 e1 => ?_, fun e he => ?_, fun c c1 c2 => (b c c1).trans (h3 c c2), fun e => by rw [← h3 10 (by decide)]; exact w e⟩
    · rw [b 11 (by decide)]
      exact h1 e e0 (by omega)
    · rw [b 11 (by decide)]
      exact h2 e (by omega)
  | succ m ih =>
    intro k A1 em k0 k1 h1 h2 h3
    have a10 : A1 10 = A 10 := h3 10 (by decide)
    refine go_a (pc' := 27) (ls' := [some (.ref h.length), some (.int (iI n)), some (.int (iI k))]) (st' := [.int (iI k)]) rfl rfl ?_
    refine go_a (pc' := 28) (ls' := [some (.ref h.length), some (.int (iI n)), some (.int (iI k))]) (st' := [.int (iI n), .int (iI k)]) rfl rfl ?_
    refine mi_ge (t := 54) rfl rfl (by omega) (by omega) (by omega) (by omega) (fun q => absurd q (by omega)) (fun _ => ?_)
    refine go_a (pc' := 32) (ls' := [some (.ref h.length), some (.int (iI n)), some (.int (iI k))]) (st' := [.ref h.length]) rfl rfl ?_
    refine go_get rfl mh_o rfl rfl ?_
    refine go_a (pc' := 36) (ls' := [some (.ref h.length), some (.int (iI n)), some (.int (iI k))]) (st' := [.ref h.length, .ref (h.length + 11)]) rfl rfl ?_
    refine go_get (v := .int (iI (I 13))) rfl mh_o rfl rfl ?_
    refine go_a (pc' := 40) (ls' := [some (.ref h.length), some (.int (iI n)), some (.int (iI k))]) (st' := [.int (iI k), .int (iI (I 13)), .ref (h.length + 11)]) rfl rfl ?_
    refine mi_add rfl ?_
    refine go_a (pc' := 42) (ls' := [some (.ref h.length), some (.int (iI n)), some (.int (iI k))]) (st' := [.ref h.length, .int (iI ((I 13) + k)), .ref (h.length + 11)]) rfl rfl ?_
    refine go_get rfl mh_o rfl rfl ?_
    refine go_a (pc' := 46) (ls' := [some (.ref h.length), some (.int (iI n)), some (.int (iI k))]) (st' := [.int (iI k), .ref (h.length + 10), .int (iI ((I 13) + k)), .ref (h.length + 11)]) rfl rfl ?_
    refine mi_ild rfl mh_a10 (by omega) (by omega) (by decide) ?_
    refine mi_ist rfl mh_a11 (show 12 ≤ _ by omega) (by omega) (by omega) (by decide) ?_
    rw [mh_w11 (by omega)]
    refine go_a (pc' := 51) (ls' := [some (.ref h.length), some (.int (iI n)), some (.int (iI (k + 1)))]) (st' := []) rfl (by rw [← iI_add k 1]; rfl) ?_
    refine go_a (pc' := 26) (ls' := [some (.ref h.length), some (.int (iI n)), some (.int (iI (k + 1)))]) (st' := []) rfl rfl ?_
    refine ih (k + 1) _ (by omega) (by omega) (by omega) (fun e e0 e1 => ?_) (fun e he => ?_) (fun a ha => (sa_ne ha).trans (h3 a ha))
    · show sf (A1 11) (I 13 + k) (A1 10 k) (I 13 + e) = A 10 e
      by_cases q : e = k
      · rw [q, sf_self, a10]
      · rw [sf_ne (by omega)]
        exact h1 e e0 (by omega)
    · show sf (A1 11) (I 13 + k) (A1 10 k) e = A 11 e
      rw [sf_ne (by omega)]
      exact h2 e (by omega)
theorem mm_end (z : Value) (d : Nat) (n : Int) (h R : xx_H) (I : Nat → Int) (A : Nat → Int → Int) (N : Int → Int) (hc : 12 ≤ h.length) (n0 : -2147483648 ≤ n) (n1 : n < 2147483648) (t0 : 0 ≤ I 13) (t1 : I 13 ≤ 3000) : xx_cl (xt_P z) (d + 1) 67 [.ref h.length, .int (iI n)] (mh h R I A N) (fun v h1 => (v = some (.int (iI (-1))) ∧ h1 = mh h R I A N ∧ ¬ (0 ≤ n ∧ n ≤ 20 ∧ I 13 + n ≤ 3000)) ∨ (v = some (.int (iI (I 13 + n))) ∧ (0 ≤ n ∧ n ≤ 20 ∧ I 13 + n ≤ 3000) ∧ ∃ A2 : Nat → Int → Int, h1 = mh h R (su I 13 (I 13 + n)) A2 N ∧ (∀ e : Int, 0 ≤ e → e < 20 → A2 10 e = 0) ∧ (∀ e : Int, 0 ≤ e → e < n → A2 11 (I 13 + e) = A 10 e) ∧ (∀ e : Int, e < I 13 ∨ I 13 + n ≤ e → A2 11 e = A 11 e) ∧ (∀ a : Nat, a ≠ 10 → a ≠ 11 → A2 a = A a) ∧ ∀ e : Int, A2 10 e = 0 ∨ A2 10 e = A 10 e)) := by
  have no : ¬ (0 ≤ n ∧ n ≤ 20 ∧ I 13 + n ≤ 3000) → xx_go (xt_P z) d 67 22 [some (.ref h.length), some (.int (iI n)), none] [] (mh h R I A N) (fun v h1 => (v = some (.int (iI (-1))) ∧ h1 = mh h R I A N ∧ ¬ (0 ≤ n ∧ n ≤ 20 ∧ I 13 + n ≤ 3000)) ∨ (v = some (.int (iI (I 13 + n))) ∧ (0 ≤ n ∧ n ≤ 20 ∧ I 13 + n ≤ 3000) ∧ ∃ A2 : Nat → Int → Int, h1 = mh h R (su I 13 (I 13 + n)) A2 N ∧ (∀ e : Int, 0 ≤ e → e < 20 → A2 10 e = 0) ∧ (∀ e : Int, 0 ≤ e → e < n → A2 11 (I 13 + e) = A 10 e) ∧ (∀ e : Int, e < I 13 ∨ I 13 + n ≤ e → A2 11 e = A 11 e) ∧ (∀ a : Nat, a ≠ 10 → a ≠ 11 → A2 a = A a) ∧ ∀ e : Int, A2 10 e = 0 ∨ A2 10 e = A 10 e)) := by
    intro q
    refine go_a (pc' := 23) (ls' := [some (.ref h.length), some (.int (iI n)), none]) (st' := [.int (iI ((-1)))]) rfl rfl ?_
    exact go_r rfl rfl rfl rfl rfl rfl (Or.inl ⟨rfl, rfl, q⟩)
  refine cl_go rfl ?_
  show xx_go (xt_P z) d 67 0 [some (.ref h.length), some (.int (iI n)), none] [] (mh h R I A N) _
  refine go_a (pc' := 1) (ls' := [some (.ref h.length), some (.int (iI n)), none]) (st' := [.int (iI n)]) rfl rfl ?_
  refine mi_lt0 (t := 22) rfl rfl (by omega) (by omega) (fun q => no (by omega)) (fun q => ?_)
  refine go_a (pc' := 5) (ls' := [some (.ref h.length), some (.int (iI n)), none]) (st' := [.int (iI n)]) rfl rfl ?_
  refine go_a (pc' := 7) (ls' := [some (.ref h.length), some (.int (iI n)), none]) (st' := [.int (iI 20), .int (iI n)]) rfl rfl ?_
  refine mi_gt (t := 22) rfl rfl (by omega) (by omega) (by omega) (by omega) (fun q => no (by omega)) (fun q => ?_)
  refine go_a (pc' := 11) (ls' := [some (.ref h.length), some (.int (iI n)), none]) (st' := [.ref h.length]) rfl rfl ?_
  refine go_get (v := .int (iI (I 13))) rfl mh_o rfl rfl ?_
  refine go_a (pc' := 15) (ls' := [some (.ref h.length), some (.int (iI n)), none]) (st' := [.int (iI n), .int (iI (I 13))]) rfl rfl ?_
  refine mi_add rfl ?_
  refine go_a (pc' := 19) (ls' := [some (.ref h.length), some (.int (iI n)), none]) (st' := [.int (iI 3000), .int (iI ((I 13) + n))]) rfl rfl ?_
  refine mi_le (t := 24) rfl rfl (by omega) (by omega) (by omega) (by omega) (fun q => ?_) (fun q => no (by omega))
  refine go_a (pc' := 25) (ls' := [some (.ref h.length), some (.int (iI n)), none]) (st' := [.int (iI 0)]) rfl rfl ?_
  refine go_a (pc' := 26) (ls' := [some (.ref h.length), some (.int (iI n)), some (.int (iI 0))]) (st' := []) rfl rfl ?_
  exact mm_end_loop z d n h R I A N hc (by omega) (by omega) t0 (by omega) n.toNat 0 A (by omega) (by decide) (by omega) (fun e a b => absurd b (by omega)) (fun e _ => rfl) (fun _ _ => rfl)

