theorem isL_ext {I : Nat → Int} {A A1 : Nat → Int → Int} (hP : PW I A) (hx : ∀ k : Int, 0 ≤ k → k < I 7 → A1 1 k = A 1 k ∧ A1 2 k = A 2 k) : ∀ (m : Nat) (k : Int), 0 ≤ k → k < I 7 → isL A m k → isL A1 m k
  | 0, _, _, _, h => h
  | m + 1, k, h0, h1, h => by
    have p := hx k h0 h1
    have q := hP.2 k h0 h1
    have q2 := q.2.2.2.2 h.1
    have r := isL_ext hP hx m (A 2 k) (by omega) (by omega) h.2
    show 0 ≤ A1 1 k ∧ isL A1 m (A1 2 k)
    rw [p.1, p.2]
    exact ⟨h.1, r⟩
