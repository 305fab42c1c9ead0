theorem OW_nn {I : Nat → Int} {A : Nat → Int → Int} (hP : PW I A) : ∀ n : Nat, (∀ e : Nat, e < n → A 17 e = 2 → 0 ≤ A 18 e ∧ A 18 e < I 7) → 0 ≤ OW A n
  | 0, _ => Int.le_refl _
  | n + 1, h => by
    have r := OW_nn hP n (fun e he => h e (by omega))
    show 0 ≤ OW A n + (1 + (if A 17 n = 0 then 0 else 1) + (if A 17 n = 2 then WD A (A 18 n) else 0))
    by_cases e : A 17 n = 2
    · have q := h n (by omega) e
      have w := WD_1 hP q.1 q.2
      rw [if_pos e]
      split <;> omega
    · rw [if_neg e]
      split <;> omega
theorem RW_ge {I : Nat → Int} {A : Nat → Int → Int} (hP : PW I A) (hO : RO I A) : I 29 ≤ RW I A ∧ (I 31 = 1 → WD A (I 30) ≤ RW I A) ∧ 0 ≤ RW I A := by
  obtain ⟨o1, o2, o3, o4, o5, o6, o7⟩ := hO
  have a := SW_nn hP (f := A 19) (I 29).toNat (fun e he => o3 e (by omega) (by omega))
  have b := OW_nn hP (I 27).toNat (fun e he q => (o4 e (by omega) (by omega)).2.2.2 q)
  unfold RW
  by_cases e : I 31 = 1
  · have w := WD_1 hP (o7 e).1 (o7 e).2
    rw [if_pos e]
    exact ⟨by omega, fun _ => by omega, by omega⟩
  · rw [if_neg e]
    exact ⟨by omega, fun q => absurd q e, by omega⟩
theorem NM_RX {I I1 : Nat → Int} {A A1 : Nat → Int → Int} {N N1 : Int → Int} (hN : NM I A) (X : RX I A N I1 A1 N1) : NM I1 A1 := by
  have x2 := X.1
  have n1 := hN.1
  refine ⟨by omega, fun k k0 k1 => ?_⟩
  rw [(X.2.1 k k0 (by omega)).1]
  exact hN.2 k k0 k1
def RL (w : Int) (I : Nat → Int) (A : Nat → Int → Int) (N : Int → Int) (I1 : Nat → Int) (A1 : Nat → Int → Int) (N1 : Int → Int) : Prop := (MST I1 A1 N1 ∧ RX I A N I1 A1 N1 ∧ RO I1 A1 ∧ RT I1 A1) ∧ (RW I1 A1 ≤ w ∧ 0 ≤ w ∧ w ≤ I1 20) ∧ I1 7 + I1 29 + 2 * I1 27 ≤ I 7 + 2 * w ∧ (I1 13 = I 13 ∧ A1 11 = A 11) ∧ (0 ≤ I1 21 ∧ I1 21 ≤ 5) ∧ (2 * I1 10 ≤ I1 20 + 2 * I 10 + 1 ∧ (I1 20 < I 13 → atc (A 11 (I1 20)) → 2 * I1 10 ≤ I1 20 + 2 * I 10)) ∧ (I1 21 = 0 → w ≤ 1000 ∧ (I1 31 = 1 → I1 27 = 0) ∧ w ≤ NZ (A 11) (I1 20).toNat ∧ (2 * I1 10 ≤ NZ (A 11) (I1 20).toNat + 2 * I 10 + 1 ∧ (I1 20 < I 13 → atc (A 11 (I1 20)) → 2 * I1 10 ≤ NZ (A 11) (I1 20).toNat + 2 * I 10)) ∧ (2 * (I1 7 - RPT I1 A1) ≤ NZ (A 11) (I1 20).toNat + 2 * I 7 + 1 ∧ (I1 20 < I 13 → atc (A 11 (I1 20)) → 2 * (I1 7 - RPT I1 A1) ≤ NZ (A 11) (I1 20).toNat + 2 * I 7)))
theorem SP_le {I : Nat → Int} {A : Nat → Int → Int} (hP : PW I A) (n0 : A 1 0 < 0) (n2 : A 1 2 < 0) {f : Int → Int} : ∀ n : Nat, (∀ e : Nat, e < n → 0 ≤ f e ∧ f e < I 7) → SP A f n ≤ 2 * SW A f n
  | 0, _ => Int.le_refl _
  | n + 1, h => by
    have r := SP_le hP n0 n2 n (fun e he => h e (by omega))
    have q := h n (by omega)
    have w := PT_b hP n0 n2 q.1 q.2
    show SP A f n + PT A (f n) ≤ 2 * (SW A f n + WD A (f n))
    omega
theorem RPT_le {I : Nat → Int} {A : Nat → Int → Int} (hP : PW I A) (n0 : A 1 0 < 0) (n2 : A 1 2 < 0) (hO : RO I A) (h27 : I 27 = 0) (h31 : I 31 = 1) : RPT I A + 2 * WD A (I 30) ≤ PT A (I 30) + 2 * RW I A := by
  have o2 := hO.2.1
  have s := SP_le hP n0 n2 (f := A 19) (I 29).toNat (fun e he => hO.2.2.1 e (by omega) (by omega))
  unfold RPT RW
  rw [h27, if_pos h31, if_pos h31]
  show SP A (A 19) (I 29).toNat + 0 + PT A (I 30) + 2 * WD A (I 30) ≤ PT A (I 30) + 2 * (SW A (A 19) (I 29).toNat + 0 + WD A (I 30))
  omega
