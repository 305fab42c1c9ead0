theorem isL_split {A : Nat → Int → Int} : ∀ (c m : Nat) (k : Int), isL A (c + m) k → isL A m (rt A c k)
  | 0, m, k, h => by
    rw [Nat.zero_add] at h
    exact h
  | c + 1, m, k, h => by
    rw [show c + 1 + m = c + m + 1 by omega] at h
    exact isL_split c m (A 2 k) h.2
