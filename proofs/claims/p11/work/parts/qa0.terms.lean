def tz (A : Nat → Int → Int) (ar : Int → Int) : Nat → Int → Int × Int × Int
  | 0, _ => (0, -1, 0)
  | f + 1, k => (if A 1 k < 0 ∨ A 1 k = 2 then 1 else if 0 ≤ (tz A ar f (A 2 k)).2.1 ∧ (tz A ar f (A 2 k)).2.2 = ar (A 1 k) ∧ A 4 k ≠ 0 then 1 + (tz A ar f (A 2 k)).2.1 else 0, if k = 0 then 0 else if 0 ≤ A 1 k ∧ 1 ≤ (tz A ar f (A 1 k)).1 ∧ 0 ≤ (tz A ar f (A 2 k)).2.1 then (tz A ar f (A 1 k)).1 + (tz A ar f (A 2 k)).2.1 else -1, if k = 0 then 0 else if 0 ≤ A 1 k then 1 + (tz A ar f (A 2 k)).2.2 else 0)
theorem tz_succ (A : Nat → Int → Int) (ar : Int → Int) (f : Nat) (k : Int) : tz A ar (f + 1) k = (if A 1 k < 0 ∨ A 1 k = 2 then 1 else if 0 ≤ (tz A ar f (A 2 k)).2.1 ∧ (tz A ar f (A 2 k)).2.2 = ar (A 1 k) ∧ A 4 k ≠ 0 then 1 + (tz A ar f (A 2 k)).2.1 else 0, if k = 0 then 0 else if 0 ≤ A 1 k ∧ 1 ≤ (tz A ar f (A 1 k)).1 ∧ 0 ≤ (tz A ar f (A 2 k)).2.1 then (tz A ar f (A 1 k)).1 + (tz A ar f (A 2 k)).2.1 else -1, if k = 0 then 0 else if 0 ≤ A 1 k then 1 + (tz A ar f (A 2 k)).2.2 else 0) := rfl
theorem tz_atom (A : Nat → Int → Int) (ar : Int → Int) (f : Nat) (k : Int) (e : A 1 k < 0) : tz A ar (f + 1) k = (1, if k = 0 then 0 else -1, 0) := by
  rw [tz_succ, if_pos (Or.inl e)]
  by_cases k0 : k = 0
  · rw [if_pos k0, if_pos k0, if_pos k0]
  · rw [if_neg k0, if_neg k0, if_neg k0, if_neg (fun q => absurd q.1 (by omega)), if_neg (by omega)]
theorem tz_fuel {I : Nat → Int} {A : Nat → Int → Int} {ar : Int → Int} (hP : PW I A) : ∀ (f g : Nat) (k : Int), k.toNat < f → k.toNat < g → 0 ≤ k → k < I 7 → tz A ar f k = tz A ar g k
  | f + 1, g + 1, k, hf, hg, h0, h1 => by
    have q := hP.2 k h0 h1
    by_cases e : A 1 k < 0
    · rw [tz_atom A ar f k e, tz_atom A ar g k e]
    · have q2 := q.2.2.2.2 (by omega)
      rw [tz_succ, tz_succ, tz_fuel hP f g (A 1 k) (by omega) (by omega) (by omega) (by omega), tz_fuel hP f g (A 2 k) (by omega) (by omega) (by omega) (by omega)]
def TZ (A : Nat → Int → Int) (ar : Int → Int) (k : Int) : Int := (tz A ar (k.toNat + 1) k).1
def LZ (A : Nat → Int → Int) (ar : Int → Int) (k : Int) : Int := (tz A ar (k.toNat + 1) k).2.1
def CZ (A : Nat → Int → Int) (ar : Int → Int) (k : Int) : Int := (tz A ar (k.toNat + 1) k).2.2
section TZS
variable {I : Nat → Int} {A : Nat → Int → Int} {ar : Int → Int} {k : Int}
theorem tz_at (hP : PW I A) (f : Nat) (hf : k.toNat < f) (h0 : 0 ≤ k) (h1 : k < I 7) : tz A ar f k = (TZ A ar k, LZ A ar k, CZ A ar k) := by
  rw [tz_fuel hP f (k.toNat + 1) k hf (Nat.lt_succ_self _) h0 h1]
  rfl
theorem tz_pair (hP : PW I A) (h0 : 0 ≤ k) (h1 : k < I 7) (e : 0 ≤ A 1 k) : tz A ar (k.toNat + 1) k = (if A 1 k < 0 ∨ A 1 k = 2 then 1 else if 0 ≤ LZ A ar (A 2 k) ∧ CZ A ar (A 2 k) = ar (A 1 k) ∧ A 4 k ≠ 0 then 1 + LZ A ar (A 2 k) else 0, if k = 0 then 0 else if 0 ≤ A 1 k ∧ 1 ≤ TZ A ar (A 1 k) ∧ 0 ≤ LZ A ar (A 2 k) then TZ A ar (A 1 k) + LZ A ar (A 2 k) else -1, if k = 0 then 0 else if 0 ≤ A 1 k then 1 + CZ A ar (A 2 k) else 0) := by
  have q := hP.2 k h0 h1
  have q2 := q.2.2.2.2 e
  rw [tz_succ, tz_at hP k.toNat (by omega) e (by omega), tz_at hP k.toNat (by omega) (by omega) (by omega)]
theorem TZ_atom (e : A 1 k < 0) : TZ A ar k = 1 := by
  unfold TZ
  rw [tz_atom A ar _ k e]
theorem LZ_0 (e : A 1 0 < 0) : LZ A ar 0 = 0 ∧ CZ A ar 0 = 0 := by
  unfold LZ CZ
  rw [tz_atom A ar _ 0 e]
  exact ⟨rfl, rfl⟩
theorem TZ_quote (hP : PW I A) (h0 : 0 ≤ k) (h1 : k < I 7) (e : A 1 k = 2) : TZ A ar k = 1 := by
  unfold TZ
  rw [tz_pair hP h0 h1 (by omega), if_pos (Or.inr e)]
theorem TZ_call (hP : PW I A) (h0 : 0 ≤ k) (h1 : k < I 7) (e : 0 ≤ A 1 k) (e2 : A 1 k ≠ 2) : TZ A ar k = if 0 ≤ LZ A ar (A 2 k) ∧ CZ A ar (A 2 k) = ar (A 1 k) ∧ A 4 k ≠ 0 then 1 + LZ A ar (A 2 k) else 0 := by
  unfold TZ
  rw [tz_pair hP h0 h1 e, if_neg (by omega)]
theorem LZ_pair (hP : PW I A) (h0 : 0 < k) (h1 : k < I 7) (e : 0 ≤ A 1 k) : LZ A ar k = (if 1 ≤ TZ A ar (A 1 k) ∧ 0 ≤ LZ A ar (A 2 k) then TZ A ar (A 1 k) + LZ A ar (A 2 k) else -1) ∧ CZ A ar k = 1 + CZ A ar (A 2 k) := by
  have a : LZ A ar k = (tz A ar (k.toNat + 1) k).2.1 := rfl
  have b : CZ A ar k = (tz A ar (k.toNat + 1) k).2.2 := rfl
  rw [tz_pair hP (by omega) h1 e] at a b
  rw [a, b]
  have kn : ¬ k = 0 := by omega
  dsimp only
  rw [if_neg kn, if_neg kn, if_pos e]
  refine ⟨?_, rfl⟩
  by_cases c : 1 ≤ TZ A ar (A 1 k) ∧ 0 ≤ LZ A ar (A 2 k)
  · rw [if_pos c, if_pos ⟨e, c⟩]
  · rw [if_neg c, if_neg (fun q => c q.2)]
theorem LZ_atom (e : A 1 k < 0) (e0 : k ≠ 0) : LZ A ar k = -1 := by
  unfold LZ
  rw [tz_atom A ar _ k e, if_neg e0]
theorem CZ_nn (hP : PW I A) : ∀ (f : Nat) (k : Int), k.toNat < f → 0 ≤ k → k < I 7 → 0 ≤ CZ A ar k
  | f + 1, k, hf, h0, h1 => by
    have q := hP.2 k h0 h1
    by_cases e : A 1 k < 0
    · unfold CZ
      rw [tz_atom A ar _ k e]
      exact Int.le_refl _
    · have q2 := q.2.2.2.2 (by omega)
      have r := CZ_nn hP f (A 2 k) (by omega) (by omega) (by omega)
      rw [(LZ_pair hP (by omega) h1 (by omega)).2]
      omega
theorem LZ_isL (hP : PW I A) (n0 : A 1 0 < 0) : ∀ (f : Nat) (k : Int), k.toNat < f → 0 ≤ k → k < I 7 → 0 ≤ LZ A ar k → isL A (CZ A ar k).toNat k ∧ CZ A ar k ≤ LZ A ar k
  | f + 1, k, hf, h0, h1, hl => by
    have q := hP.2 k h0 h1
    by_cases e0 : k = 0
    · subst e0
      rw [(LZ_0 n0).2, (LZ_0 n0).1]
      exact ⟨rfl, Int.le_refl _⟩
    by_cases e : A 1 k < 0
    · rw [LZ_atom e e0] at hl
      omega
    · have q2 := q.2.2.2.2 (by omega)
      have p := LZ_pair (ar := ar) hP (by omega) h1 (by omega)
      have c0 := CZ_nn (ar := ar) hP f (A 2 k) (by omega) (by omega) (by omega)
      by_cases c : 1 ≤ TZ A ar (A 1 k) ∧ 0 ≤ LZ A ar (A 2 k)
      · rw [if_pos c] at p
        have r := LZ_isL hP n0 f (A 2 k) (by omega) (by omega) (by omega) c.2
        rw [p.2, p.1, show (1 + CZ A ar (A 2 k)).toNat = (CZ A ar (A 2 k)).toNat + 1 by omega]
        exact ⟨⟨by omega, r.1⟩, by omega⟩
      · rw [if_neg c] at p
        omega
end TZS
theorem tz_c0 (A : Nat → Int → Int) (ar : Int → Int) : ∀ (f : Nat) (k : Int), 0 ≤ (tz A ar f k).2.2
  | 0, _ => Int.le_refl _
  | f + 1, k => by
    have r := tz_c0 A ar f (A 2 k)
    rw [tz_succ]
    dsimp only
    split
    · exact Int.le_refl _
    · split <;> omega
theorem tz_ext {I : Nat → Int} {A A1 : Nat → Int → Int} {ar ar1 : Int → Int} (hP : PW I A) (hx : ∀ k : Int, 0 ≤ k → k < I 7 → A1 1 k = A 1 k ∧ A1 2 k = A 2 k ∧ (A 4 k ≠ 0 → A1 4 k ≠ 0)) (ha : ∀ k : Int, 0 ≤ k → k < I 7 → 0 ≤ ar k → ar1 k = ar k) : ∀ (f : Nat) (k : Int), 0 ≤ k → k < I 7 → (1 ≤ (tz A ar f k).1 → (tz A1 ar1 f k).1 = (tz A ar f k).1) ∧ (0 ≤ (tz A ar f k).2.1 → (tz A1 ar1 f k).2.1 = (tz A ar f k).2.1) ∧ (tz A1 ar1 f k).2.2 = (tz A ar f k).2.2
  | 0, _, _, _ => ⟨fun q => absurd q (by show ¬ (1 : Int) ≤ 0; decide), fun q => absurd q (by show ¬ (0 : Int) ≤ -1; decide), rfl⟩
  | f + 1, k, h0, h1 => by
    have q := hP.2 k h0 h1
    have p := hx k h0 h1
    by_cases e : A 1 k < 0
    · rw [tz_atom A ar f k e, tz_atom A1 ar1 f k (by rw [p.1]; exact e)]
      exact ⟨fun _ => rfl, fun _ => rfl, rfl⟩
    · have q2 := q.2.2.2.2 (by omega)
      have r1 := tz_ext hP hx ha f (A 1 k) (by omega) (by omega)
      have r2 := tz_ext hP hx ha f (A 2 k) (by omega) (by omega)
      rw [tz_succ, tz_succ, p.1, p.2.1]
      dsimp only
      refine ⟨fun w => ?_, fun w => ?_, ?_⟩
      · by_cases c : A 1 k < 0 ∨ A 1 k = 2
        · rw [if_pos c, if_pos c]
        · rw [if_neg c] at w ⊢
          rw [if_neg c]
          by_cases c2 : 0 ≤ (tz A ar f (A 2 k)).2.1 ∧ (tz A ar f (A 2 k)).2.2 = ar (A 1 k) ∧ A 4 k ≠ 0
          · have s := r2.2.1 c2.1
            have cn : 0 ≤ (tz A ar f (A 2 k)).2.2 := tz_c0 A ar f (A 2 k)
            have sa := ha (A 1 k) (by omega) (by omega) (by omega)
            rw [if_pos c2, if_pos ⟨by rw [s]; exact c2.1, by rw [r2.2.2, sa]; exact c2.2.1, p.2.2 c2.2.2⟩, s]
          · rw [if_neg c2] at w
            exact absurd w (by decide)
      · by_cases c : k = 0
        · rw [if_pos c, if_pos c]
        · rw [if_neg c] at w ⊢
          rw [if_neg c]
          by_cases c2 : 0 ≤ A 1 k ∧ 1 ≤ (tz A ar f (A 1 k)).1 ∧ 0 ≤ (tz A ar f (A 2 k)).2.1
          · have s1 := r1.1 c2.2.1
            have s2 := r2.2.1 c2.2.2
            rw [if_pos c2, if_pos ⟨c2.1, by rw [s1]; exact c2.2.1, by rw [s2]; exact c2.2.2⟩, s1, s2]
          · rw [if_neg c2] at w
            exact absurd w (by decide)
      · rw [r2.2.2]

