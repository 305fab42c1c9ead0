def wcf (f : Int → Int) : Nat → Int → Int → Int
  | 0, _, acc => acc
  | n + 1, e, acc => wcf f n (e + 1) (47 * acc + (LIX (f e) + 1))
theorem wcf_last (f : Int → Int) : ∀ (n : Nat) (e acc : Int), wcf f (n + 1) e acc = 47 * wcf f n e acc + (LIX (f (e + n)) + 1)
  | 0, e, acc => by
    rw [show e + ((0 : Nat) : Int) = e by omega]
    rfl
  | n + 1, e, acc => by
    show wcf f (n + 1) (e + 1) (47 * acc + (LIX (f e) + 1)) = 47 * wcf f n (e + 1) (47 * acc + (LIX (f e) + 1)) + _
    rw [wcf_last f n (e + 1) _, show e + 1 + (n : Int) = e + ((n + 1 : Nat) : Int) by omega]
theorem wcf_nn (f : Int → Int) (e : Int) : ∀ n : Nat, 0 ≤ wcf f n e 0
  | 0 => Int.le_refl _
  | n + 1 => by
    have h := wcf_nn f e n
    have r := LIX_R (f (e + n))
    rw [wcf_last]
    omega
theorem wcf_congr {f g : Int → Int} : ∀ (n : Nat) (e e1 acc : Int), (∀ q : Nat, q < n → f (e + q) = g (e1 + q)) → wcf f n e acc = wcf g n e1 acc
  | 0, _, _, _, _ => rfl
  | n + 1, e, e1, acc, h => by
    have h0 := h 0 (by omega)
    rw [show e + ((0 : Nat) : Int) = e by omega, show e1 + ((0 : Nat) : Int) = e1 by omega] at h0
    show wcf f n (e + 1) (47 * acc + (LIX (f e) + 1)) = wcf g n (e1 + 1) (47 * acc + (LIX (g e1) + 1))
    rw [h0]
    refine wcf_congr n (e + 1) (e1 + 1) _ (fun q hq => ?_)
    have := h (q + 1) (by omega)
    rw [show e + 1 + (q : Int) = e + ((q + 1 : Nat) : Int) by omega, show e1 + 1 + (q : Int) = e1 + ((q + 1 : Nat) : Int) by omega]
    exact this
theorem LIX_chk : ∀ n : Nat, n < 128 → ((97 ≤ n ∧ n ≤ 122) ∨ (48 ≤ n ∧ n ≤ 57) ∨ n = 43 ∨ n = 45 ∨ n = 42 ∨ n = 47 ∨ n = 60 ∨ n = 62 ∨ n = 61 ∨ n = 63 ∨ n = 33 ∨ n = 95) → 0 ≤ LIX (n : Int) ∧ ltI[(LIX (n : Int)).toNat]? = some (n : Int) := by decide +kernel
theorem LIX_chk2 : ∀ n : Nat, n < 256 → ((97 ≤ n ∧ n ≤ 122) ∨ (48 ≤ n ∧ n ≤ 57) ∨ n = 43 ∨ n = 45 ∨ n = 42 ∨ n = 47 ∨ n = 60 ∨ n = 62 ∨ n = 61 ∨ n = 63 ∨ n = 33 ∨ n = 95) ∨ LIX (n : Int) = -1 := by decide +kernel
theorem LIX_atc {x : Int} (h : atc x) : 0 ≤ LIX x ∧ ltI[(LIX x).toNat]? = some x := by
  unfold atc at h
  have h2 := LIX_chk x.toNat (by omega) (by omega)
  rw [show ((x.toNat : Nat) : Int) = x by omega] at h2
  exact h2
theorem LIX_not {x : Int} (x0 : 0 ≤ x) (x1 : x ≤ 255) (h : ¬ atc x) : LIX x = -1 := by
  rcases LIX_chk2 x.toNat (by omega) with h2 | h2
  · exact absurd (by unfold atc; omega) h
  · rw [show ((x.toNat : Nat) : Int) = x by omega] at h2
    exact h2
theorem LIX_inj {x y : Int} (hx : atc x) (hy : atc y) (e : LIX x = LIX y) : x = y := by
  have h1 := (LIX_atc hx).2
  have h2 := (LIX_atc hy).2
  rw [e, h2] at h1
  injection h1 with h3
  exact h3.symm
theorem wcf_inj {f g : Int → Int} {e e1 : Int} : ∀ (n m : Nat), (∀ q : Nat, q < n → atc (f (e + q))) → (∀ q : Nat, q < m → atc (g (e1 + q))) → wcf f n e 0 = wcf g m e1 0 → n = m ∧ ∀ q : Nat, q < n → f (e + q) = g (e1 + q)
  | 0, 0, _, _, _ => ⟨rfl, fun q h => absurd h (Nat.not_lt_zero _)⟩
  | 0, m + 1, _, hg, he => by
    have r := (LIX_atc (hg m (Nat.lt_succ_self _))).1
    have r2 := wcf_nn g e1 m
    rw [wcf_last] at he
    have he : (0 : Int) = _ := he
    omega
  | n + 1, 0, hf, _, he => by
    have r := (LIX_atc (hf n (Nat.lt_succ_self _))).1
    have r2 := wcf_nn f e n
    rw [wcf_last] at he
    have he : _ = (0 : Int) := he
    omega
  | n + 1, m + 1, hf, hg, he => by
    have af := hf n (Nat.lt_succ_self _)
    have ag := hg m (Nat.lt_succ_self _)
    have r1 := (LIX_atc af).1
    have r2 := (LIX_atc ag).1
    have s1 := LIX_R (f (e + n))
    have s2 := LIX_R (g (e1 + m))
    rw [wcf_last, wcf_last] at he
    have k1 : LIX (f (e + n)) = LIX (g (e1 + m)) := by omega
    have k2 : wcf f n e 0 = wcf g m e1 0 := by omega
    obtain ⟨h1, h2⟩ := wcf_inj n m (fun q h => hf q (by omega)) (fun q h => hg q (by omega)) k2
    refine ⟨by omega, fun q hq => ?_⟩
    by_cases eq : q = n
    · have := LIX_inj af ag k1
      rw [eq]
      rw [← h1] at this
      exact this
    · exact h2 q (by omega)
