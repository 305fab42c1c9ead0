def SZ (A : Nat → Int → Int) (ar : Int → Int) (f : Int → Int) : Nat → Int
  | 0 => 0
  | n + 1 => SZ A ar f n + TZ A ar (f n)
theorem SZ_congr {A : Nat → Int → Int} {ar : Int → Int} {f g : Int → Int} : ∀ n : Nat, (∀ e : Nat, e < n → f e = g e) → SZ A ar f n = SZ A ar g n
  | 0, _ => rfl
  | n + 1, h => by
    show SZ A ar f n + TZ A ar (f n) = SZ A ar g n + TZ A ar (g n)
    rw [SZ_congr n (fun e he => h e (by omega)), h n (by omega)]
theorem SZ_ge {A : Nat → Int → Int} {ar : Int → Int} {f : Int → Int} : ∀ n : Nat, (∀ e : Nat, e < n → 1 ≤ TZ A ar (f e)) → (n : Int) ≤ SZ A ar f n
  | 0, _ => Int.le_refl _
  | n + 1, h => by
    have r := SZ_ge n (fun e he => h e (by omega))
    have q := h n (by omega)
    show ((n + 1 : Nat) : Int) ≤ SZ A ar f n + TZ A ar (f n)
    omega
def WK (ar : Int → Int) (s : Int) (I : Nat → Int) (A : Nat → Int → Int) : Prop := 0 ≤ I 61 ∧ (∀ e : Int, 0 ≤ e → e < I 61 → (0 ≤ A 35 e ∧ A 35 e < I 7) ∧ 1 ≤ TZ A ar (A 35 e)) ∧ SZ A ar (A 35) (I 61).toNat ≤ s
theorem WK_push {ar : Int → Int} {s v : Int} {I : Nat → Int} {A : Nat → Int → Int} (w : WK ar s I A) (v0 : 0 ≤ v) (v1 : v < I 7) (v2 : 1 ≤ TZ A ar v) : WK ar (s + TZ A ar v) (su I 61 (I 61 + 1)) (sa A 35 (I 61) v) := by
  have tz := TZ_124 (A := A) (A1 := sa A 35 (I 61) v) (ar := ar) rfl rfl rfl
  obtain ⟨a, b, c⟩ := w
  refine ⟨(show 0 ≤ I 61 + 1 by omega), fun e e0 e1 => ?_, ?_⟩
  · have e1 : e < I 61 + 1 := e1
    rw [tz.1]
    show (0 ≤ sf (A 35) (I 61) v e ∧ sf (A 35) (I 61) v e < I 7) ∧ 1 ≤ TZ A ar (sf (A 35) (I 61) v e)
    by_cases q : e = I 61
    · rw [q, sf_self]
      exact ⟨⟨v0, v1⟩, v2⟩
    · rw [sf_ne q]
      exact b e e0 (by omega)
  · show SZ (sa A 35 (I 61) v) ar (sf (A 35) (I 61) v) (I 61 + 1).toNat ≤ s + TZ A ar v
    have e : ∀ n, SZ (sa A 35 (I 61) v) ar (sf (A 35) (I 61) v) n = SZ A ar (sf (A 35) (I 61) v) n := fun n => by
      induction n with
      | zero => rfl
      | succ n ih =>
        show SZ (sa A 35 (I 61) v) ar _ n + TZ (sa A 35 (I 61) v) ar _ = _
        rw [ih, tz.1]
        rfl
    rw [e, show (I 61 + 1).toNat = (I 61).toNat + 1 by omega]
    show SZ A ar (sf (A 35) (I 61) v) (I 61).toNat + TZ A ar (sf (A 35) (I 61) v ((I 61).toNat : Int)) ≤ _
    rw [show ((I 61).toNat : Int) = I 61 by omega, sf_self, SZ_congr (g := A 35) _ (fun e he => by rw [sf_ne (by omega)])]
    omega
theorem WK_pop {ar : Int → Int} {s : Int} {I : Nat → Int} {A : Nat → Int → Int} (w : WK ar s I A) (h : 0 < I 61) : WK ar (s - TZ A ar (A 35 (I 61 - 1))) (su I 61 (I 61 - 1)) A := by
  obtain ⟨a, b, c⟩ := w
  refine ⟨(show 0 ≤ I 61 - 1 by omega), fun e e0 e1 => b e e0 (by have e1 : e < I 61 - 1 := e1; omega), ?_⟩
  show SZ A ar (A 35) (I 61 - 1).toNat ≤ _
  rw [show (I 61).toNat = (I 61 - 1).toNat + 1 by omega] at c
  have c2 : SZ A ar (A 35) (I 61 - 1).toNat + TZ A ar (A 35 ((I 61 - 1).toNat : Int)) ≤ s := c
  rw [show ((I 61 - 1).toNat : Int) = I 61 - 1 by omega] at c2
  omega
def WX (I : Nat → Int) (A : Nat → Int → Int) (I1 : Nat → Int) (A1 : Nat → Int → Int) : Prop := (∀ j : Nat, j ≠ 61 → I1 j = I j) ∧ ∀ a : Nat, a ≠ 35 → A1 a = A a
theorem WX_tr {I I1 I2 : Nat → Int} {A A1 A2 : Nat → Int → Int} (x : WX I A I1 A1) (y : WX I1 A1 I2 A2) : WX I A I2 A2 := ⟨fun j p => (y.1 j p).trans (x.1 j p), fun a p => (y.2 a p).trans (x.2 a p)⟩
theorem WX_tz {ar : Int → Int} {I I1 : Nat → Int} {A A1 : Nat → Int → Int} (x : WX I A I1 A1) : TZ A1 ar = TZ A ar ∧ LZ A1 ar = LZ A ar ∧ CZ A1 ar = CZ A ar := TZ_124 (x.2 1 (by decide)) (x.2 2 (by decide)) (x.2 4 (by decide))
theorem WX_PW {I I1 : Nat → Int} {A A1 : Nat → Int → Int} (hP : PW I A) (x : WX I A I1 A1) : PW I1 A1 := by
  unfold PW
  rw [x.1 7 (by decide), x.2 1 (by decide), x.2 2 (by decide)]
  exact hP
theorem rt_12 {A A1 : Nat → Int → Int} (h2 : A1 2 = A 2) : ∀ (n : Nat) (k : Int), rt A1 n k = rt A n k
  | 0, _ => rfl
  | n + 1, k => by
    show rt A1 n (A1 2 k) = rt A n (A 2 k)
    rw [h2, rt_12 h2 n]
theorem isL_12 {A A1 : Nat → Int → Int} (h1 : A1 1 = A 1) (h2 : A1 2 = A 2) : ∀ (n : Nat) (k : Int), isL A n k → isL A1 n k
  | 0, _, h => h
  | n + 1, k, h => by
    show 0 ≤ A1 1 k ∧ isL A1 n (A1 2 k)
    rw [h1, h2]
    exact ⟨h.1, isL_12 h1 h2 n _ h.2⟩
theorem rt_LZ {I : Nat → Int} {A : Nat → Int → Int} {ar : Int → Int} (hP : PW I A) (n0 : A 1 0 < 0) : ∀ (j : Nat) (k : Int), 0 ≤ k → k < I 7 → 0 ≤ LZ A ar k → (j : Int) ≤ CZ A ar k → (0 ≤ rt A j k ∧ rt A j k < I 7) ∧ 0 ≤ LZ A ar (rt A j k) ∧ CZ A ar (rt A j k) = CZ A ar k - j
  | 0, k, h0, h1, hl, _ => ⟨⟨h0, h1⟩, hl, by show CZ A ar k = CZ A ar k - 0; omega⟩
  | j + 1, k, h0, h1, hl, hj => by
    have q := hP.2 k h0 h1
    have k0 : k ≠ 0 := by
      intro e
      rw [e, (LZ_0 n0).2] at hj
      omega
    have pr : 0 ≤ A 1 k := by
      by_cases c : A 1 k < 0
      · rw [LZ_atom c k0] at hl
        omega
      · omega
    have q2 := q.2.2.2.2 pr
    have lp := LZ_pair (ar := ar) hP (by omega : 0 < k) h1 pr
    have cd : 1 ≤ TZ A ar (A 1 k) ∧ 0 ≤ LZ A ar (A 2 k) := by
      by_cases c : 1 ≤ TZ A ar (A 1 k) ∧ 0 ≤ LZ A ar (A 2 k)
      · exact c
      · rw [if_neg c] at lp
        omega
    have r := rt_LZ hP n0 j (A 2 k) (by omega) (by omega) cd.2 (by omega)
    exact ⟨r.1, r.2.1, by show CZ A ar (rt A j (A 2 k)) = _; omega⟩
theorem isL_uniq {A : Nat → Int → Int} (n0 : A 1 0 < 0) : ∀ (m n : Nat) (k : Int), isL A m k → isL A n k → m = n
  | 0, 0, _, _, _ => rfl
  | 0, n + 1, k, h, g => by
    have h : k = 0 := h
    have := g.1
    rw [h] at this
    omega
  | m + 1, 0, k, h, g => by
    have g : k = 0 := g
    have := h.1
    rw [g] at this
    omega
  | m + 1, n + 1, k, h, g => by rw [isL_uniq n0 m n (A 2 k) h.2 g.2]
