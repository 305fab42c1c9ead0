theorem NZ_ext {f g : Int → Int} : ∀ n : Nat, (∀ k : Int, 0 ≤ k → k < n → g k = f k) → NZ g n = NZ f n
  | 0, _ => rfl
  | n + 1, h => by
    show NZ g n + _ = NZ f n + _
    rw [NZ_ext n (fun k a b => h k a (by omega)), h n (by omega) (by omega)]
theorem NZ_more {f : Int → Int} : ∀ (m n : Nat), NZ f (n + m) ≤ NZ f n + m
  | 0, n => by
    show NZ f n ≤ NZ f n + 0
    omega
  | m + 1, n => by
    have r := NZ_more (f := f) m n
    show NZ f (n + m) + _ ≤ NZ f n + ((m + 1 : Nat) : Int)
    split <;> omega
theorem NZ_zero {f : Int → Int} : ∀ (m n : Nat), (∀ k : Int, (n : Int) ≤ k → k < n + m → f k = 0) → NZ f (n + m) = NZ f n
  | 0, n, _ => rfl
  | m + 1, n, h => by
    have r := NZ_zero m n (fun k a b => h k a (by omega))
    show NZ f (n + m) + (if f ((n + m : Nat) : Int) = 0 then 0 else 1) = NZ f n
    rw [if_pos (h ((n + m : Nat) : Int) (by omega) (by omega)), r]
    omega
