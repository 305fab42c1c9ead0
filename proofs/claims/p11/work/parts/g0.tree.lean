abbrev ob_T : Type := Int.Internal.Linear.Expr
def ob_t (kd a b : Int → Int) : Nat → Int → ob_T
  | 0, _ => .num 0
  | n + 1, k => if kd k = 2 then .add (ob_t kd a b n (a k)) (ob_t kd a b n (b k)) else if kd k = 1 then .var (a k).toNat else .num (a k)
def ob_D (kd a b : Int → Int) (k : Int) : ob_T := ob_t kd a b (k.toNat + 1) k
def ob_V (kd a b : Int → Int) (k : Int) : Prop := (0 ≤ kd k ∧ kd k ≤ 2 ∧ 0 ≤ a k) ∧ (kd k = 2 → a k < k ∧ 0 ≤ b k ∧ b k < k) ∧ (kd k ≠ 2 → b k = 0)
def ob_W (kd a b : Int → Int) (U : Int) : Prop := (∀ k : Int, 0 ≤ k → k < U → ob_V kd a b k) ∧ ∀ j k : Int, 0 ≤ j → j < k → k < U → ¬ (kd j = kd k ∧ a j = a k ∧ b j = b k)
theorem ob_t_s (kd a b : Int → Int) (n : Nat) (k : Int) : ob_t kd a b (n + 1) k = if kd k = 2 then .add (ob_t kd a b n (a k)) (ob_t kd a b n (b k)) else if kd k = 1 then .var (a k).toNat else .num (a k) := rfl
section OBW
variable {kd a b kd' a' b' : Int → Int} {U V k : Int}
theorem ob_t_same (h : ob_W kd a b U) : ∀ (n m : Nat) (k : Int), 0 ≤ k → k < U → k.toNat < n → k.toNat < m → ob_t kd a b n k = ob_t kd a b m k
  | 0, _, _, _, _, q, _ => absurd q (Nat.not_lt_zero _)
  | _ + 1, 0, _, _, _, _, q => absurd q (Nat.not_lt_zero _)
  | n + 1, m + 1, k, h0, h1, hn, hm => by
    have w := h.1 k h0 h1
    rw [ob_t_s kd a b n k, ob_t_s kd a b m k]
    by_cases e : kd k = 2
    · have w2 := w.2.1 e
      have w1 := w.1.2.2
      rw [if_pos e, if_pos e, ob_t_same h n m (a k) w1 (by omega) (by omega) (by omega), ob_t_same h n m (b k) w2.2.1 (by omega) (by omega) (by omega)]
    · rw [if_neg e, if_neg e]
theorem ob_D_p (h : ob_W kd a b U) (h0 : 0 ≤ k) (h1 : k < U) (e : kd k = 2) : ob_D kd a b k = .add (ob_D kd a b (a k)) (ob_D kd a b (b k)) := by
  have w := h.1 k h0 h1
  have w2 := w.2.1 e
  have w1 := w.1.2.2
  have e1 := ob_t_same h k.toNat ((a k).toNat + 1) (a k) w1 (by omega) (by omega) (by omega)
  have e2 := ob_t_same h k.toNat ((b k).toNat + 1) (b k) w2.2.1 (by omega) (by omega) (by omega)
  show ob_t kd a b (k.toNat + 1) k = .add (ob_t kd a b ((a k).toNat + 1) (a k)) (ob_t kd a b ((b k).toNat + 1) (b k))
  rw [← e1, ← e2, ob_t_s kd a b k.toNat k, if_pos e]
theorem ob_D_s (e : kd k = 1) : ob_D kd a b k = .var (a k).toNat := by
  show ob_t kd a b (k.toNat + 1) k = _
  rw [ob_t_s, if_neg (by omega), if_pos e]
theorem ob_D_n (e : kd k ≠ 1) (e2 : kd k ≠ 2) : ob_D kd a b k = .num (a k) := by
  show ob_t kd a b (k.toNat + 1) k = _
  rw [ob_t_s, if_neg e2, if_neg e]
theorem ob_inj (h : ob_W kd a b U) : ∀ (n : Nat) (j k : Int), j.toNat < n → 0 ≤ j → j < U → 0 ≤ k → k < U → ob_D kd a b j = ob_D kd a b k → j = k
  | 0, _, _, q, _, _, _, _, _ => absurd q (Nat.not_lt_zero _)
  | n + 1, j, k, hn, j0, j1, k0, k1, he => by
    have wj := h.1 j j0 j1
    have wk := h.1 k k0 k1
    have aj := wj.1
    have ak := wk.1
    have key : kd j = kd k ∧ a j = a k ∧ b j = b k := by
      by_cases ej : kd j = 2
      · have wj2 := wj.2.1 ej
        rw [ob_D_p h j0 j1 ej] at he
        by_cases ek : kd k = 2
        · have wk2 := wk.2.1 ek
          rw [ob_D_p h k0 k1 ek] at he
          injection he with e1 e2
          exact ⟨ej.trans ek.symm, ob_inj h n _ _ (by omega) aj.2.2 (by omega) ak.2.2 (by omega) e1, ob_inj h n _ _ (by omega) wj2.2.1 (by omega) wk2.2.1 (by omega) e2⟩
        · by_cases e1 : kd k = 1
          · rw [ob_D_s e1] at he
            cases he
          · rw [ob_D_n e1 ek] at he
            cases he
      · have bj := wj.2.2 ej
        by_cases ek : kd k = 2
        · rw [ob_D_p h k0 k1 ek] at he
          by_cases e1 : kd j = 1
          · rw [ob_D_s e1] at he
            cases he
          · rw [ob_D_n e1 ej] at he
            cases he
        · have bk := wk.2.2 ek
          by_cases e1 : kd j = 1
          · rw [ob_D_s e1] at he
            by_cases e2 : kd k = 1
            · rw [ob_D_s e2] at he
              injection he with e3
              have e3 : (a j).toNat = (a k).toNat := e3
              exact ⟨by omega, by omega, by omega⟩
            · rw [ob_D_n e2 ek] at he
              cases he
          · rw [ob_D_n e1 ej] at he
            by_cases e2 : kd k = 1
            · rw [ob_D_s e2] at he
              cases he
            · rw [ob_D_n e2 ek] at he
              injection he with e3
              exact ⟨by omega, e3, by omega⟩
    by_cases lt : j < k
    · exact absurd key (h.2 j k j0 lt k1)
    · by_cases gt : k < j
      · exact absurd ⟨key.1.symm, key.2.1.symm, key.2.2.symm⟩ (h.2 k j k0 gt j1)
      · omega
theorem ob_D_inj (h : ob_W kd a b U) {j k : Int} (j0 : 0 ≤ j) (j1 : j < U) (k0 : 0 ≤ k) (k1 : k < U) (e : ob_D kd a b j = ob_D kd a b k) : j = k := ob_inj h (j.toNat + 1) j k (Nat.lt_succ_self _) j0 j1 k0 k1 e
theorem ob_t_ext (h : ob_W kd a b U) (e : ∀ k : Int, 0 ≤ k → k < U → kd' k = kd k ∧ a' k = a k ∧ b' k = b k) : ∀ (n : Nat) (k : Int), 0 ≤ k → k < U → ob_t kd' a' b' n k = ob_t kd a b n k
  | 0, _, _, _ => rfl
  | n + 1, k, h0, h1 => by
    have w := h.1 k h0 h1
    have w1 := w.1.2.2
    obtain ⟨e1, e2, e3⟩ := e k h0 h1
    rw [ob_t_s kd' a' b' n k, ob_t_s kd a b n k, e1, e2, e3]
    by_cases q : kd k = 2
    · have w2 := w.2.1 q
      rw [if_pos q, if_pos q, ob_t_ext h e n (a k) w1 (by omega), ob_t_ext h e n (b k) w2.2.1 (by omega)]
    · rw [if_neg q, if_neg q]
theorem ob_D_ext (h : ob_W kd a b U) (e : ∀ k : Int, 0 ≤ k → k < U → kd' k = kd k ∧ a' k = a k ∧ b' k = b k) (h0 : 0 ≤ k) (h1 : k < U) : ob_D kd' a' b' k = ob_D kd a b k := ob_t_ext h e _ k h0 h1
theorem ob_V_ext (e : kd' k = kd k ∧ a' k = a k ∧ b' k = b k) (h : ob_V kd a b k) : ob_V kd' a' b' k := by
  obtain ⟨e1, e2, e3⟩ := e
  unfold ob_V at h ⊢
  rw [e1, e2, e3]
  exact h
theorem ob_W_le (h : ob_W kd a b U) (hv : V ≤ U) : ob_W kd a b V := ⟨fun k h0 h1 => h.1 k h0 (by omega), fun j k j0 jk k1 => h.2 j k j0 jk (by omega)⟩
theorem ob_W_ext (h : ob_W kd a b U) (e : ∀ k : Int, 0 ≤ k → k < U → kd' k = kd k ∧ a' k = a k ∧ b' k = b k) : ob_W kd' a' b' U := by
  refine ⟨fun k h0 h1 => ob_V_ext (e k h0 h1) (h.1 k h0 h1), fun j k j0 jk k1 q => ?_⟩
  obtain ⟨e1, e2, e3⟩ := e j j0 (by omega)
  obtain ⟨f1, f2, f3⟩ := e k (by omega) k1
  rw [e1, e2, e3, f1, f2, f3] at q
  exact h.2 j k j0 jk k1 q
theorem ob_W_add (h : ob_W kd a b U) (e : ∀ k : Int, 0 ≤ k → k < U → kd' k = kd k ∧ a' k = a k ∧ b' k = b k) (w : ob_V kd' a' b' U) (f : ∀ j : Int, 0 ≤ j → j < U → ¬ (kd j = kd' U ∧ a j = a' U ∧ b j = b' U)) : ob_W kd' a' b' (U + 1) := by
  refine ⟨fun k h0 h1 => ?_, fun j k j0 jk k1 q => ?_⟩
  · by_cases ek : k = U
    · rw [ek]
      exact w
    · exact ob_V_ext (e k h0 (by omega)) (h.1 k h0 (by omega))
  · obtain ⟨e1, e2, e3⟩ := e j j0 (by omega)
    rw [e1, e2, e3] at q
    by_cases ek : k = U
    · rw [ek] at q
      exact f j j0 (by omega) q
    · obtain ⟨f1, f2, f3⟩ := e k (by omega) (by omega)
      rw [f1, f2, f3] at q
      exact h.2 j k j0 jk (by omega) q
end OBW
theorem cl_and {P : xx_P} {d q : Nat} {as : List Value} {h : xx_H} {Q Q' : Option Value → xx_H → Prop} (h1 : xx_cl P d q as h Q) (h2 : xx_cl P d q as h Q') : xx_cl P d q as h (fun v g => Q v g ∧ Q' v g) := by
  obtain ⟨F, v, g, a, b⟩ := h1
  obtain ⟨F2, v2, g2, a2, b2⟩ := h2
  have e1 := a (max F F2) (Nat.le_max_left _ _)
  have e2 := a2 (max F F2) (Nat.le_max_right _ _)
  rw [e1] at e2
  injection e2 with e3
  injection e3 with e4 e5
  subst e4 e5
  exact ⟨F, v, g, a, b, b2⟩
