theorem isL_len {I : Nat → Int} {A : Nat → Int → Int} (hP : PW I A) : ∀ (f m : Nat) (k : Int), k.toNat ≤ f → 0 ≤ k → k < I 7 → isL A m k → (m : Int) ≤ k
  | _, 0, k, _, h0, _, _ => h0
  | 0, m + 1, k, hf, h0, h1, hL => by
    have q := hP.2 k h0 h1
    have := hL.1
    omega
  | f + 1, m + 1, k, hf, h0, h1, hL => by
    have q := hP.2 k h0 h1
    have q2 := q.2.2.2.2 hL.1
    have r := isL_len hP f m (A 2 k) (by omega) (by omega) (by omega) hL.2
    omega
theorem rt_succ (A : Nat → Int → Int) : ∀ (n : Nat) (k : Int), rt A (n + 1) k = A 2 (rt A n k)
  | 0, _ => rfl
  | n + 1, k => rt_succ A n (A 2 k)
theorem isL_end {A : Nat → Int → Int} : ∀ (n : Nat) (k : Int), isL A n k → rt A n k = 0
  | 0, _, h => h
  | n + 1, k, h => isL_end n (A 2 k) h.2
theorem VD_rt {I : Nat → Int} {A : Nat → Int → Int} (hP : PW I A) {n j : Nat} {k : Int} (h0 : 0 ≤ k) (h1 : k < I 7) (hL : isL A n k) (hj : j < n) : VD A (rt A j k) = WD A (A 1 (rt A j k)) + VD A (rt A (j + 1) k) ∧ (0 ≤ A 1 (rt A j k) ∧ A 1 (rt A j k) < I 7) ∧ 1 ≤ WD A (A 1 (rt A j k)) ∧ 0 ≤ VD A (rt A (j + 1) k) := by
  have r := isL_rt hP n j k h0 h1 hL hj
  have q := hP.2 _ r.1 (by omega : rt A j k < I 7)
  have q2 := q.2.2.2.2 r.2.2
  rw [VD_pair hP r.1 (by omega) r.2.2, rt_succ]
  exact ⟨rfl, ⟨r.2.2, by omega⟩, WD_1 hP r.2.2 (by omega), VD_0 hP q.2.2.1 (by omega)⟩
