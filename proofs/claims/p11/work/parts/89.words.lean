def wv (A : Nat → Int → Int) : Nat → Int → Int × Int
  | 0, _ => (1, 0)
  | f + 1, k => if A 1 k < 0 then (1, if k = 0 then 0 else 2) else (if A 1 k = 2 ∧ 0 ≤ A 1 (A 2 k) ∧ A 2 (A 2 k) = 0 then 1 + (wv A f (A 1 (A 2 k))).1 else 2 + ((wv A f (A 1 k)).1 + (wv A f (A 2 k)).2), (wv A f (A 1 k)).1 + (wv A f (A 2 k)).2)
theorem wv_succ (A : Nat → Int → Int) (f : Nat) (k : Int) : wv A (f + 1) k = if A 1 k < 0 then (1, if k = 0 then 0 else 2) else (if A 1 k = 2 ∧ 0 ≤ A 1 (A 2 k) ∧ A 2 (A 2 k) = 0 then 1 + (wv A f (A 1 (A 2 k))).1 else 2 + ((wv A f (A 1 k)).1 + (wv A f (A 2 k)).2), (wv A f (A 1 k)).1 + (wv A f (A 2 k)).2) := rfl
theorem wv_fuel {I : Nat → Int} {A : Nat → Int → Int} (hP : PW I A) : ∀ (f g : Nat) (k : Int), k.toNat < f → k.toNat < g → 0 ≤ k → k < I 7 → wv A f k = wv A g k
  | f + 1, g + 1, k, hf, hg, h0, h1 => by
    have q := hP.2 k h0 h1
    unfold wv
    by_cases e : A 1 k < 0
    · rw [if_pos e, if_pos e]
    · rw [if_neg e, if_neg e]
      have q2 := q.2.2.2.2 (by omega)
      have r1 := wv_fuel hP f g (A 1 k) (by omega) (by omega) (by omega) (by omega)
      have r2 := wv_fuel hP f g (A 2 k) (by omega) (by omega) (by omega) (by omega)
      rw [r1, r2]
      by_cases e2 : A 1 k = 2 ∧ 0 ≤ A 1 (A 2 k) ∧ A 2 (A 2 k) = 0
      · have q3 := hP.2 (A 2 k) (by omega) (by omega)
        have r3 := wv_fuel hP f g (A 1 (A 2 k)) (by omega) (by omega) (by omega) (by omega)
        rw [if_pos e2, if_pos e2, r3]
      · rw [if_neg e2, if_neg e2]
theorem wv_ext {I : Nat → Int} {A A1 : Nat → Int → Int} (hP : PW I A) (hx : ∀ k : Int, 0 ≤ k → k < I 7 → A1 1 k = A 1 k ∧ A1 2 k = A 2 k) : ∀ (f : Nat) (k : Int), 0 ≤ k → k < I 7 → wv A1 f k = wv A f k
  | 0, _, _, _ => rfl
  | f + 1, k, h0, h1 => by
    have q := hP.2 k h0 h1
    have p := hx k h0 h1
    unfold wv
    rw [p.1, p.2]
    by_cases e : A 1 k < 0
    · rw [if_pos e, if_pos e]
    · rw [if_neg e, if_neg e]
      have q2 := q.2.2.2.2 (by omega)
      have p2 := hx (A 2 k) (by omega) (by omega)
      rw [wv_ext hP hx f (A 1 k) (by omega) (by omega), wv_ext hP hx f (A 2 k) (by omega) (by omega), p2.1, p2.2]
      by_cases e2 : A 1 k = 2 ∧ 0 ≤ A 1 (A 2 k) ∧ A 2 (A 2 k) = 0
      · have q3 := hP.2 (A 2 k) (by omega) (by omega)
        rw [if_pos e2, if_pos e2, wv_ext hP hx f (A 1 (A 2 k)) (by omega) (by omega)]
      · rw [if_neg e2, if_neg e2]
def WD (A : Nat → Int → Int) (k : Int) : Int := (wv A (k.toNat + 1) k).1
def VD (A : Nat → Int → Int) (k : Int) : Int := (wv A (k.toNat + 1) k).2
section WDS
variable {I : Nat → Int} {A : Nat → Int → Int} {k : Int}
theorem WD_atom (e : A 1 k < 0) : WD A k = 1 := by
  unfold WD wv
  rw [if_pos e]
theorem VD_atom (e : A 1 k < 0) : VD A k = if k = 0 then 0 else 2 := by
  unfold VD wv
  rw [if_pos e]
theorem VD_pair (hP : PW I A) (h0 : 0 ≤ k) (h1 : k < I 7) (e : 0 ≤ A 1 k) : VD A k = WD A (A 1 k) + VD A (A 2 k) := by
  have q := hP.2 k h0 h1
  have q2 := q.2.2.2.2 e
  show (wv A (k.toNat + 1) k).2 = (wv A ((A 1 k).toNat + 1) (A 1 k)).1 + (wv A ((A 2 k).toNat + 1) (A 2 k)).2
  rw [← wv_fuel hP k.toNat ((A 1 k).toNat + 1) (A 1 k) (by omega) (by omega) e (by omega), ← wv_fuel hP k.toNat ((A 2 k).toNat + 1) (A 2 k) (by omega) (by omega) (by omega) (by omega)]
  rw [wv_succ, if_neg (by omega)]
theorem WD_pair (hP : PW I A) (h0 : 0 ≤ k) (h1 : k < I 7) (e : 0 ≤ A 1 k) : WD A k = if A 1 k = 2 ∧ 0 ≤ A 1 (A 2 k) ∧ A 2 (A 2 k) = 0 then 1 + WD A (A 1 (A 2 k)) else 2 + VD A k := by
  have q := hP.2 k h0 h1
  have q2 := q.2.2.2.2 e
  rw [VD_pair hP h0 h1 e]
  show (wv A (k.toNat + 1) k).1 = _
  unfold wv
  rw [if_neg (by omega)]
  unfold WD VD
  rw [wv_fuel hP k.toNat ((A 1 k).toNat + 1) (A 1 k) (by omega) (by omega) e (by omega), wv_fuel hP k.toNat ((A 2 k).toNat + 1) (A 2 k) (by omega) (by omega) (by omega) (by omega)]
  by_cases e2 : A 1 k = 2 ∧ 0 ≤ A 1 (A 2 k) ∧ A 2 (A 2 k) = 0
  · have q3 := hP.2 (A 2 k) (by omega) (by omega)
    rw [if_pos e2, if_pos e2, wv_fuel hP k.toNat ((A 1 (A 2 k)).toNat + 1) (A 1 (A 2 k)) (by omega) (by omega) (by omega) (by omega)]
  · rw [if_neg e2, if_neg e2]
theorem WD_pos (hP : PW I A) : ∀ (f : Nat) (k : Int), k.toNat < f → 0 ≤ k → k < I 7 → 1 ≤ WD A k ∧ 0 ≤ VD A k
  | f + 1, k, hf, h0, h1 => by
    have q := hP.2 k h0 h1
    by_cases e : A 1 k < 0
    · rw [WD_atom e, VD_atom e]
      refine ⟨Int.le_refl _, ?_⟩
      split <;> decide
    · have q2 := q.2.2.2.2 (by omega)
      have r1 := WD_pos hP f (A 1 k) (by omega) (by omega) (by omega)
      have r2 := WD_pos hP f (A 2 k) (by omega) (by omega) (by omega)
      rw [WD_pair hP h0 h1 (by omega), VD_pair hP h0 h1 (by omega)]
      refine ⟨?_, by omega⟩
      by_cases e2 : A 1 k = 2 ∧ 0 ≤ A 1 (A 2 k) ∧ A 2 (A 2 k) = 0
      · have q3 := hP.2 (A 2 k) (by omega) (by omega)
        have r3 := WD_pos hP f (A 1 (A 2 k)) (by omega) (by omega) (by omega)
        rw [if_pos e2]
        omega
      · rw [if_neg e2]
        omega
theorem WD_1 (hP : PW I A) (h0 : 0 ≤ k) (h1 : k < I 7) : 1 ≤ WD A k := (WD_pos hP _ k (Nat.lt_succ_self _) h0 h1).1
theorem VD_0 (hP : PW I A) (h0 : 0 ≤ k) (h1 : k < I 7) : 0 ≤ VD A k := (WD_pos hP _ k (Nat.lt_succ_self _) h0 h1).2
theorem VD_le (hP : PW I A) (h0 : 0 ≤ k) (h1 : k < I 7) (n0 : A 1 0 < 0) (n2 : A 1 2 < 0) : VD A k ≤ WD A k + 1 := by
  have q := hP.2 k h0 h1
  by_cases e : A 1 k < 0
  · rw [WD_atom e, VD_atom e]
    split <;> decide
  · have q2 := q.2.2.2.2 (by omega)
    rw [WD_pair hP h0 h1 (by omega)]
    by_cases e2 : A 1 k = 2 ∧ 0 ≤ A 1 (A 2 k) ∧ A 2 (A 2 k) = 0
    · rw [if_pos e2, VD_pair hP h0 h1 (by omega), VD_pair hP (by omega : 0 ≤ A 2 k) (by omega) e2.2.1, e2.1, e2.2.2, WD_atom n2, VD_atom n0, if_pos rfl]
      omega
    · rw [if_neg e2]
      omega
theorem WD_le (hP : PW I A) (h0 : 0 ≤ k) (h1 : k < I 7) (e : 0 ≤ A 1 k) (n0 : A 1 0 < 0) (n2 : A 1 2 < 0) : WD A k ≤ 2 + VD A k := by
  have q := hP.2 k h0 h1
  have q2 := q.2.2.2.2 e
  rw [WD_pair hP h0 h1 e]
  by_cases e2 : A 1 k = 2 ∧ 0 ≤ A 1 (A 2 k) ∧ A 2 (A 2 k) = 0
  · rw [if_pos e2, VD_pair hP h0 h1 (by omega), VD_pair hP (by omega : 0 ≤ A 2 k) (by omega) e2.2.1, e2.1, e2.2.2, WD_atom n2, VD_atom n0, if_pos rfl]
    omega
  · rw [if_neg e2]
    omega
end WDS
theorem WD_ext {I : Nat → Int} {A A1 : Nat → Int → Int} (hP : PW I A) (hx : ∀ k : Int, 0 ≤ k → k < I 7 → A1 1 k = A 1 k ∧ A1 2 k = A 2 k) (k : Int) (h0 : 0 ≤ k) (h1 : k < I 7) : WD A1 k = WD A k ∧ VD A1 k = VD A k := by
  unfold WD VD
  rw [wv_ext hP hx _ k h0 h1]
  exact ⟨rfl, rfl⟩
def SW (A : Nat → Int → Int) (f : Int → Int) : Nat → Int
  | 0 => 0
  | n + 1 => SW A f n + WD A (f n)
theorem SW_congr {A A1 : Nat → Int → Int} {f f1 : Int → Int} : ∀ n : Nat, (∀ e : Nat, e < n → WD A1 (f1 e) = WD A (f e)) → SW A1 f1 n = SW A f n
  | 0, _ => rfl
  | n + 1, h => by
    show SW A1 f1 n + WD A1 (f1 n) = SW A f n + WD A (f n)
    rw [SW_congr n (fun e he => h e (by omega)), h n (by omega)]
theorem SW_nn {I : Nat → Int} {A : Nat → Int → Int} (hP : PW I A) {f : Int → Int} : ∀ n : Nat, (∀ e : Nat, e < n → 0 ≤ f e ∧ f e < I 7) → (n : Int) ≤ SW A f n
  | 0, _ => Int.le_refl _
  | n + 1, h => by
    have r := SW_nn hP n (fun e he => h e (by omega))
    have q := h n (by omega)
    have w := WD_1 hP q.1 q.2
    show ((n + 1 : Nat) : Int) ≤ SW A f n + WD A (f n)
    omega
def pt (A : Nat → Int → Int) : Nat → Int → Int
  | 0, _ => 0
  | f + 1, k => if A 1 k < 0 then 0 else 1 + pt A f (A 1 k) + pt A f (A 2 k)
theorem pt_succ (A : Nat → Int → Int) (f : Nat) (k : Int) : pt A (f + 1) k = if A 1 k < 0 then 0 else 1 + pt A f (A 1 k) + pt A f (A 2 k) := rfl
theorem pt_fuel {I : Nat → Int} {A : Nat → Int → Int} (hP : PW I A) : ∀ (f g : Nat) (k : Int), k.toNat < f → k.toNat < g → 0 ≤ k → k < I 7 → pt A f k = pt A g k
  | f + 1, g + 1, k, hf, hg, h0, h1 => by
    have q := hP.2 k h0 h1
    rw [pt_succ, pt_succ]
    by_cases e : A 1 k < 0
    · rw [if_pos e, if_pos e]
    · rw [if_neg e, if_neg e]
      have q2 := q.2.2.2.2 (by omega)
      rw [pt_fuel hP f g (A 1 k) (by omega) (by omega) (by omega) (by omega), pt_fuel hP f g (A 2 k) (by omega) (by omega) (by omega) (by omega)]
theorem pt_ext {I : Nat → Int} {A A1 : Nat → Int → Int} (hP : PW I A) (hx : ∀ k : Int, 0 ≤ k → k < I 7 → A1 1 k = A 1 k ∧ A1 2 k = A 2 k) : ∀ (f : Nat) (k : Int), 0 ≤ k → k < I 7 → pt A1 f k = pt A f k
  | 0, _, _, _ => rfl
  | f + 1, k, h0, h1 => by
    have q := hP.2 k h0 h1
    have p := hx k h0 h1
    rw [pt_succ, pt_succ, p.1, p.2]
    by_cases e : A 1 k < 0
    · rw [if_pos e, if_pos e]
    · rw [if_neg e, if_neg e]
      have q2 := q.2.2.2.2 (by omega)
      rw [pt_ext hP hx f (A 1 k) (by omega) (by omega), pt_ext hP hx f (A 2 k) (by omega) (by omega)]
theorem pt_12 {A A1 : Nat → Int → Int} (h1 : A1 1 = A 1) (h2 : A1 2 = A 2) : ∀ (f : Nat) (k : Int), pt A1 f k = pt A f k
  | 0, _ => rfl
  | f + 1, k => by
    rw [pt_succ, pt_succ, h1, h2, pt_12 h1 h2 f, pt_12 h1 h2 f]
def PT (A : Nat → Int → Int) (k : Int) : Int := pt A (k.toNat + 1) k
theorem PT_12 {A A1 : Nat → Int → Int} (h1 : A1 1 = A 1) (h2 : A1 2 = A 2) : PT A1 = PT A := by
  funext k
  unfold PT
  rw [pt_12 h1 h2]
theorem PT_ext {I : Nat → Int} {A A1 : Nat → Int → Int} (hP : PW I A) (hx : ∀ k : Int, 0 ≤ k → k < I 7 → A1 1 k = A 1 k ∧ A1 2 k = A 2 k) (k : Int) (h0 : 0 ≤ k) (h1 : k < I 7) : PT A1 k = PT A k := pt_ext hP hx _ k h0 h1
section PTS
variable {I : Nat → Int} {A : Nat → Int → Int} {k : Int}
theorem PT_atom (e : A 1 k < 0) : PT A k = 0 := by
  unfold PT
  rw [pt_succ, if_pos e]
theorem PT_pair (hP : PW I A) (h0 : 0 ≤ k) (h1 : k < I 7) (e : 0 ≤ A 1 k) : PT A k = 1 + PT A (A 1 k) + PT A (A 2 k) := by
  have q := hP.2 k h0 h1
  have q2 := q.2.2.2.2 e
  unfold PT
  rw [pt_succ, if_neg (by omega), pt_fuel hP k.toNat ((A 1 k).toNat + 1) (A 1 k) (by omega) (by omega) e (by omega), pt_fuel hP k.toNat ((A 2 k).toNat + 1) (A 2 k) (by omega) (by omega) (by omega) (by omega)]
theorem PT_le (hP : PW I A) (n0 : A 1 0 < 0) (n2 : A 1 2 < 0) : ∀ (f : Nat) (k : Int), k.toNat < f → 0 ≤ k → k < I 7 → PT A k ≤ 2 * WD A k - 2 ∧ PT A k ≤ 2 * VD A k ∧ 0 ≤ PT A k
  | f + 1, k, hf, h0, h1 => by
    have q := hP.2 k h0 h1
    by_cases e : A 1 k < 0
    · have v := VD_0 hP h0 h1
      rw [PT_atom e, WD_atom e]
      omega
    · have q2 := q.2.2.2.2 (by omega)
      have r1 := PT_le hP n0 n2 f (A 1 k) (by omega) (by omega) (by omega)
      have r2 := PT_le hP n0 n2 f (A 2 k) (by omega) (by omega) (by omega)
      have p := PT_pair hP h0 h1 (by omega)
      have v := VD_pair hP h0 h1 (by omega)
      have w := WD_pair hP h0 h1 (by omega)
      by_cases e2 : A 1 k = 2 ∧ 0 ≤ A 1 (A 2 k) ∧ A 2 (A 2 k) = 0
      · have q3 := hP.2 (A 2 k) (by omega) (by omega)
        have r3 := PT_le hP n0 n2 f (A 1 (A 2 k)) (by omega) (by omega) (by omega)
        have p2 := PT_pair hP (by omega : 0 ≤ A 2 k) (by omega) e2.2.1
        rw [e2.2.2, PT_atom n0] at p2
        rw [e2.1, PT_atom n2] at p
        rw [if_pos e2] at w
        omega
      · rw [if_neg e2] at w
        omega
theorem PT_b (hP : PW I A) (n0 : A 1 0 < 0) (n2 : A 1 2 < 0) (h0 : 0 ≤ k) (h1 : k < I 7) : PT A k ≤ 2 * WD A k - 2 ∧ PT A k ≤ 2 * VD A k ∧ 0 ≤ PT A k := PT_le hP n0 n2 _ k (Nat.lt_succ_self _) h0 h1
end PTS
