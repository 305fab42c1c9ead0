section CNTS
variable {f g : Int → Int} {x : Int}
theorem CNT_ext : ∀ n : Nat, (∀ k : Int, 0 ≤ k → k < n → g k = f k) → CNT g x n = CNT f x n
  | 0, _ => rfl
  | n + 1, h => by
    show CNT g x n + _ = CNT f x n + _
    rw [CNT_ext n (fun k a b => h k a (by omega)), h n (by omega) (by omega)]
theorem CNT_mono : ∀ n m : Nat, n ≤ m → CNT f x n ≤ CNT f x m
  | n, 0, h => by
    rw [show n = 0 by omega]
    exact Int.le_refl _
  | n, m + 1, h => by
    by_cases e : n = m + 1
    · rw [e]
      exact Int.le_refl _
    · have r := CNT_mono n m (by omega)
      have q : 0 ≤ (if f (m : Int) = x then (1 : Int) else 0) := by split <;> decide
      show CNT f x n ≤ CNT f x m + (if f (m : Int) = x then (1 : Int) else 0)
      omega
theorem CNT_sum (h : ∀ e : Int, 0 ≤ f e ∧ f e ≤ 1) : ∀ n : Nat, CNT f 1 n + CNT f 0 n = n
  | 0 => rfl
  | n + 1 => by
    have r := CNT_sum h n
    have q := h n
    show CNT f 1 n + (if f (n : Int) = 1 then (1 : Int) else 0) + (CNT f 0 n + (if f (n : Int) = 0 then (1 : Int) else 0)) = ((n + 1 : Nat) : Int)
    by_cases e : f (n : Int) = 1
    · rw [if_pos e, if_neg (by omega)]
      omega
    · rw [if_neg e, if_pos (by omega)]
      omega
end CNTS
def LIM (I : Nat → Int) (A : Nat → Int → Int) (t : Int) : Int := if t = I 41 then I 7 else A 28 t
def TKN (I : Nat → Int) (A : Nat → Int → Int) : Prop := 0 ≤ I 41 ∧ (∀ e : Int, 0 ≤ A 27 e ∧ A 27 e ≤ 1) ∧ (I 32 = CNT (A 27) 1 (I 41).toNat ∧ I 38 = CNT (A 27) 0 (I 41).toNat) ∧ (∀ s t : Int, 0 ≤ s → s ≤ t → t ≤ I 41 → LIM I A s ≤ LIM I A t) ∧ ∀ t : Int, 0 ≤ t → t ≤ I 41 → 44 ≤ LIM I A t ∧ OLD A (LIM I A t) (CNT (A 27) 1 t.toNat) (CNT (A 27) 0 t.toNat)
section TKNS
variable {I J K : Nat → Int} {A B : Nat → Int → Int}
theorem LIM_T : LIM I A (I 41) = I 7 := if_pos rfl
theorem LIM_lt {t : Int} (h : t ≠ I 41) : LIM I A t = A 28 t := if_neg h
theorem TKN_gen {T : Int} (h : TKN I A) (hP : PW I A) (n0 : A 1 0 < 0) (T0 : 0 ≤ T) (T1 : T ≤ I 41) (e41 : J 41 = T) (b27 : ∀ e : Int, 0 ≤ B 27 e ∧ B 27 e ≤ 1) (s27 : ∀ e : Int, 0 ≤ e → e < T → B 27 e = A 27 e) (s28 : ∀ e : Int, 0 ≤ e → e < T → B 28 e = A 28 e) (e7 : J 7 = LIM I A T) (e32 : J 32 = CNT (A 27) 1 T.toNat) (e38 : J 38 = CNT (A 27) 0 T.toNat) (hx : OX (LIM I A T) A B) (r2 : RX2 (CNT (A 27) 1 T.toNat) A B) (r3 : RX3 (CNT (A 27) 0 T.toNat) A B) : TKN J B := by
  obtain ⟨h1, h2, h3, h4, h5⟩ := h
  have lim : ∀ t : Int, 0 ≤ t → t ≤ T → LIM J B t = LIM I A t := fun t t0 t1 => by
    by_cases e : t = T
    · rw [e, ← e7, ← e41]
      exact LIM_T
    · rw [LIM_lt (by omega), LIM_lt (by omega)]
      exact s28 t t0 (by omega)
  have cn : ∀ (t x : Int), 0 ≤ t → t ≤ T → CNT (B 27) x t.toNat = CNT (A 27) x t.toNat := fun t x t0 t1 => CNT_ext _ (fun k a b => s27 k a (by omega))
  refine ⟨by omega, b27, ⟨by rw [e41, cn T 1 T0 (Int.le_refl _)]; exact e32, by rw [e41, cn T 0 T0 (Int.le_refl _)]; exact e38⟩, fun s t s0 st t1 => ?_, fun t t0 t1 => ?_⟩
  · rw [lim s s0 (by omega), lim t (by omega) (by omega)]
    exact h4 s t s0 st (by omega)
  · rw [lim t t0 (by omega), cn t 1 t0 (by omega), cn t 0 t0 (by omega)]
    have q := h5 t t0 (by omega)
    have m1 := h4 t T t0 (by omega) T1
    have m2 := h4 t (I 41) t0 (by omega) (Int.le_refl _)
    rw [LIM_T] at m2
    have c1 := CNT_mono (f := A 27) (x := 1) t.toNat T.toNat (by omega)
    have c0 := CNT_mono (f := A 27) (x := 0) t.toNat T.toNat (by omega)
    exact ⟨q.1, OLD_px (PW_VS hP m2) n0 (Int.le_refl _) (OX_le hx m1) (fun e a b => r2 e a (by omega)) (fun e a b => r3 e a (by omega)) q.2⟩
theorem TKN_ext {kd : Int} (h : TKN J B) (hk : kd = 0 ∨ kd = 1) (e41 : K 41 = J 41 + 1) (e27 : B 27 (J 41) = kd) (e28 : B 28 (J 41) = J 7) (e32 : K 32 = J 32 + kd) (e38 : K 38 = J 38 + (1 - kd)) (e7 : J 7 ≤ K 7) (ho : OLD B (K 7) (K 32) (K 38)) : TKN K B := by
  obtain ⟨h1, h2, h3, h4, h5⟩ := h
  have lim : ∀ t : Int, 0 ≤ t → t ≤ J 41 → LIM K B t = LIM J B t := fun t t0 t1 => by
    rw [LIM_lt (by omega)]
    by_cases e : t = J 41
    · rw [e, LIM_T]
      exact e28
    · rw [LIM_lt e]
  have k1 : CNT (B 27) 1 (J 41 + 1).toNat = K 32 := by
    rw [CNT_s h1, e32, h3.1, e27]
    rcases hk with e | e
    · rw [e, if_neg (by decide)]
    · rw [e, if_pos rfl]
  have k0 : CNT (B 27) 0 (J 41 + 1).toNat = K 38 := by
    rw [CNT_s h1, e38, h3.2, e27]
    rcases hk with e | e
    · rw [e, if_pos rfl]
      rfl
    · rw [e, if_neg (by decide)]
      rfl
  refine ⟨by omega, h2, ⟨by rw [e41]; exact k1.symm, by rw [e41]; exact k0.symm⟩, fun s t s0 st t1 => ?_, fun t t0 t1 => ?_⟩
  · by_cases e : t = K 41
    · rw [e, LIM_T]
      by_cases e2 : s = K 41
      · rw [e2, LIM_T]
        exact Int.le_refl _
      · rw [lim s s0 (by omega)]
        have q := h4 s (J 41) s0 (by omega) (Int.le_refl _)
        rw [LIM_T] at q
        omega
    · rw [lim s s0 (by omega), lim t (by omega) (by omega)]
      exact h4 s t s0 st (by omega)
  · by_cases e : t = K 41
    · rw [e, LIM_T]
      have q := (h5 (J 41) h1 (Int.le_refl _)).1
      rw [LIM_T] at q
      rw [e41, k1, k0]
      exact ⟨by omega, ho⟩
    · rw [lim t t0 (by omega)]
      exact h5 t t0 (by omega)
theorem TKN_b (h : TKN I A) : (0 ≤ I 32 ∧ I 32 ≤ 40) ∧ (0 ≤ I 38 ∧ I 38 ≤ 60) ∧ I 41 = I 32 + I 38 ∧ I 41 ≤ 100 := by
  obtain ⟨h1, h2, h3, h4, h5⟩ := h
  obtain ⟨-, ar, o⟩ := h5 (I 41) h1 (Int.le_refl _)
  have d := o.2.2.1.1
  rw [← h3.1, ← h3.2] at d
  have d : (0 ≤ I 32 ∧ I 32 ≤ 40) ∧ (0 ≤ I 38 ∧ I 38 ≤ 60) := d
  have s := CNT_sum h2 (I 41).toNat
  omega
theorem TKN_TLI (h : TKN I A) : TLI I A := by
  have b := TKN_b h
  obtain ⟨h1, h2, h3, h4, h5⟩ := h
  obtain ⟨-, ar, o⟩ := h5 (I 41) h1 (Int.le_refl _)
  rw [LIM_T, ← h3.1, ← h3.2] at o
  have D := o.2.2.1
  have H := o.2.2.2
  refine ⟨⟨h1, b.2.2.2⟩, h2, fun x x0 x1 => ⟨fun e => ?_, fun e => ?_⟩⟩
  · have q := h2 x
    have e1 : A 27 x = 1 := by omega
    have m := CNT_mono (f := A 27) (x := 1) (x + 1).toNat (I 41).toNat (by omega)
    rw [CNT_s x0, if_pos e1] at m
    have nn := (CNT_le (f := A 27) (x := 1) x.toNat).1
    rw [e1]
    have d := D.2.1 (CNT (A 27) 1 x.toNat) nn (show _ < I 32 by omega)
    obtain ⟨d1, d2, d3, d4, -⟩ := d
    have d1b : A 20 (CNT (A 27) 1 x.toNat) < I 7 := d1.2
    exact ⟨by omega, ⟨by omega, d1b⟩, ⟨d2.1, d2.2.1⟩, fun j j0 j1 => (d3 j j0 j1).1, d4⟩
  · have m := CNT_mono (f := A 27) (x := 0) (x + 1).toNat (I 41).toNat (by omega)
    rw [CNT_s x0, if_pos e] at m
    have nn := (CNT_le (f := A 27) (x := 0) x.toNat).1
    rw [e]
    have d := D.2.2 (CNT (A 27) 0 x.toNat) nn (show _ < I 38 by omega)
    have g := H (CNT (A 27) 0 x.toNat) nn (by omega)
    exact ⟨by omega, ⟨d.1.1, g⟩, d.2.1⟩
end TKNS
def IDL (I : Nat → Int) (A : Nat → Int → Int) (N : Int → Int) : Prop := (MST I A N ∧ NM I A ∧ SZI (fun _ => 0) I A) ∧ TKN I A ∧ ((I 44 = -1 ∧ 0 ≤ I 45 ∧ I 45 ≤ 6) ∧ (I 54 = 0 ∧ I 56 = 0) ∧ (1 ≤ I 47 ∧ I 47 ≤ 1000) ∧ (0 ≤ I 15 ∧ I 15 ≤ 2000) ∧ (0 ≤ I 50 ∧ I 50 ≤ 30) ∧ (0 ≤ I 49 ∧ I 49 ≤ 4) ∧ (0 ≤ I 13 ∧ I 13 ≤ 3000)) ∧ (∀ e : Int, 0 ≤ A 10 e ∧ A 10 e ≤ 255) ∧ (∀ e : Int, 0 ≤ A 11 e ∧ A 11 e ≤ 255) ∧ ∀ e : Int, 0 ≤ A 13 e ∧ A 13 e ≤ 255
section IDS
variable {I I1 : Nat → Int} {A A1 : Nat → Int → Int} {N N1 : Int → Int} {ar : Int → Int}
theorem SZI_read (hP : PW I A) (hZ : SZI ar I A) (X : RX I A N I1 A1 N1) : SZI ar I1 A1 := by
  intro k k0 k1 c1 c2
  by_cases e : k < I 7
  · have p := X.2.1 k k0 e
    rw [p.1] at c1 c2
    rw [p.2.2.2]
    rcases hZ k k0 e c1 c2 with q | ⟨a, q⟩
    · exact Or.inl q
    · refine Or.inr ⟨a, ?_⟩
      rw [TZ_px (ar := a) (ar1 := a) (A1 := A1) hP (fun j a b => ⟨(X.2.1 j a b).1, (X.2.1 j a b).2.1, fun w => by rw [(X.2.1 j a b).2.2.2]; exact w⟩) ARX_rf k0 e q.1]
      exact q
  · exact Or.inl (X.2.2.2.2 k k0 (by omega) k1)
theorem SZI_pre (hP : PW I A) (hZ : SZI ar I A) (h7 : I1 7 = I 7) (hx : ∀ k : Int, 0 ≤ k → k < I 7 → A1 1 k = A 1 k ∧ A1 2 k = A 2 k ∧ A1 4 k = A 4 k) : SZI ar I1 A1 := by
  intro k k0 k1 c1 c2
  have e : k < I 7 := by omega
  have p := hx k k0 e
  rw [p.1] at c1 c2
  rw [p.2.2]
  rcases hZ k k0 e c1 c2 with q | ⟨a, q⟩
  · exact Or.inl q
  · refine Or.inr ⟨a, ?_⟩
    rw [TZ_px (ar := a) (ar1 := a) (A1 := A1) hP (fun j a b => ⟨(hx j a b).1, (hx j a b).2.1, fun w => by rw [(hx j a b).2.2]; exact w⟩) ARX_rf k0 e q.1]
    exact q
theorem NM_pre (hN : NM I A) (h7 : 44 ≤ I1 7) (hx : ∀ k : Int, 0 ≤ k → k < I 7 → A1 1 k = A 1 k) : NM I1 A1 := ⟨h7, fun k k0 k1 => by rw [hx k k0 (by have := hN.1; omega)]; exact hN.2 k k0 k1⟩
end IDS

