def FJ (j : Nat) : Prop := FI j ∨ j = 65
def GJ (a : Nat) : Prop := GI a ∨ a = 37
def FORM (ar : Int → Int) (I : Nat → Int) (A : Nat → Int → Int) (N : Int → Int) (o : Int) : Prop := ∃ n : Nat, isL A n o ∧ 1 ≤ n ∧ (((A 1 o = 29 ∨ A 1 o = 30) ∧ n = 2 ∧ TOK A ar (A 1 (rt A 1 o))) ∨ (A 1 o = 31 ∧ n = 2 ∧ TOK A ar (A 1 (rt A 1 o)) ∧ ∃ t : Int, (0 ≤ t ∧ t < I 7) ∧ 1 ≤ TZ A ar t ∧ NFT A (A 1 (rt A 1 o)) t ∧ TLD A N ar t) ∨ ((A 1 o = 32 ∨ A 1 o = 33 ∨ A 1 o = 34) ∧ n = 3 ∧ TOK A ar (A 1 (rt A 1 o)) ∧ TOK A ar (A 1 (rt A 2 o))) ∨ ((A 1 o = 35 ∨ A 1 o = 36) ∧ n = 4 ∧ TOK A ar (A 1 (rt A 1 o)) ∧ TOK A ar (A 1 (rt A 2 o)) ∧ TOK A ar (A 1 (rt A 3 o))) ∨ (A 1 o = 37 ∧ n = 2 ∧ ∃ e : Int, 0 ≤ e ∧ e < I 32 ∧ A 20 e = A 1 (rt A 1 o)) ∨ (A 1 o = 38 ∧ n = 2 ∧ ∃ e : Int, 0 ≤ e ∧ e < I 38 ∧ A 25 e = A 1 (rt A 1 o)) ∨ (A 1 o = 39 ∧ n = 3 ∧ ∃ m : Nat, isL A m (A 1 (rt A 1 o)) ∧ ∀ j : Nat, j < m → TOK A ar (A 1 (rt A j (A 1 (rt A 1 o))))) ∨ (A 1 o = 40 ∧ n = 4 ∧ TOK A ar (A 1 (rt A 1 o))) ∨ (A 1 o = 41 ∧ 2 ≤ n ∧ ∃ m : Nat, isL A m (A 2 (A 2 o)) ∧ (∀ j : Nat, j < m → PQ A ar (A 1 (rt A j (A 2 (A 2 o))))) ∧ PD A m (A 2 (A 2 o))) ∨ (A 1 o = 42 ∧ n = 2) ∨ (A 1 o = 43 ∧ n = 3) ∨ (A 1 o = 27 ∧ ∃ e : Int, IND ar I A o e))
def FOX (ar : Int → Int) (ft : Nat → Int) (I : Nat → Int) (A : Nat → Int → Int) (N : Int → Int) (o : Int) : Prop := ∃ n : Nat, isL A n o ∧ 1 ≤ n ∧ (((A 1 o = 29 ∨ A 1 o = 30) ∧ n = 2 ∧ TOK A ar (A 1 (rt A 1 o))) ∨ (A 1 o = 31 ∧ n = 2 ∧ TOK A ar (A 1 (rt A 1 o)) ∧ ∃ t : ob_T, sp_tm ft (DM A N (A 1 (rt A 1 o))) = some t ∧ sp_va ft t ≠ none) ∨ ((A 1 o = 32 ∨ A 1 o = 33 ∨ A 1 o = 34) ∧ n = 3 ∧ TOK A ar (A 1 (rt A 1 o)) ∧ TOK A ar (A 1 (rt A 2 o))) ∨ ((A 1 o = 35 ∨ A 1 o = 36) ∧ n = 4 ∧ TOK A ar (A 1 (rt A 1 o)) ∧ TOK A ar (A 1 (rt A 2 o)) ∧ TOK A ar (A 1 (rt A 3 o))) ∨ (A 1 o = 37 ∧ n = 2 ∧ ∃ e : Int, 0 ≤ e ∧ e < I 32 ∧ A 20 e = A 1 (rt A 1 o)) ∨ (A 1 o = 38 ∧ n = 2 ∧ ∃ e : Int, 0 ≤ e ∧ e < I 38 ∧ A 25 e = A 1 (rt A 1 o)) ∨ (A 1 o = 39 ∧ n = 3 ∧ ∃ m : Nat, isL A m (A 1 (rt A 1 o)) ∧ ∀ j : Nat, j < m → TOK A ar (A 1 (rt A j (A 1 (rt A 1 o))))) ∨ (A 1 o = 40 ∧ n = 4 ∧ TOK A ar (A 1 (rt A 1 o))) ∨ (A 1 o = 41 ∧ 2 ≤ n ∧ ∃ m : Nat, isL A m (A 2 (A 2 o)) ∧ (∀ j : Nat, j < m → PQ A ar (A 1 (rt A j (A 2 (A 2 o))))) ∧ PD A m (A 2 (A 2 o))) ∨ (A 1 o = 42 ∧ n = 2) ∨ (A 1 o = 43 ∧ n = 3) ∨ (A 1 o = 27 ∧ ∃ e : Int, IND ar I A o e ∧ IDX A o e))
def CF (A : Nat → Int → Int) (o c : Int) : Prop := (A 1 o = 31 → c ≤ 4 * WD A (A 1 (rt A 1 o))) ∧ ((A 1 o = 29 ∨ A 1 o = 30 ∨ (32 ≤ A 1 o ∧ A 1 o ≤ 36)) → c ≤ 2 * VD A (rt A 1 o) - 2) ∧ ((A 1 o = 37 ∨ A 1 o = 38 ∨ A 1 o = 42 ∨ A 1 o = 43) → c ≤ 0) ∧ (A 1 o = 39 → c ≤ 2 * VD A (A 1 (rt A 1 o))) ∧ (A 1 o = 40 → c ≤ 2 * WD A (A 1 (rt A 1 o)) - 2) ∧ (A 1 o = 41 → ∀ m : Nat, isL A m (A 2 (A 2 o)) → c ≤ 2 * uw A m (A 2 (A 2 o))) ∧ True
theorem TOK_BX {F G : Nat → Prop} {I I1 : Nat → Int} {A A1 : Nat → Int → Int} {N N1 : Int → Int} {ar : Int → Int} {k : Int} (hP : PW I A) (x : BX F G I A N I1 A1 N1) (h0 : 0 ≤ k) (h1 : k < I 7) (t : TOK A ar k) : TOK A1 ar k := by
  unfold TOK
  rw [TS_BX hP x h0 h1]
  exact t
theorem it_BX {F G : Nat → Prop} {I I1 : Nat → Int} {A A1 : Nat → Int → Int} {N N1 : Int → Int} (hP : PW I A) (x : BX F G I A N I1 A1 N1) {n j : Nat} {k : Int} (h0 : 0 ≤ k) (h1 : k < I 7) (hL : isL A n k) (hj : j < n) : A1 1 (rt A1 j k) = A 1 (rt A j k) := by
  have r := isL_rt hP n j k h0 h1 hL hj
  rw [rt_extB hP x n j k h0 h1 hL (by omega), (x.2.2.1 _ r.1 (by omega)).1]
theorem CON_BX {F G : Nat → Prop} {I I1 : Nat → Int} {A A1 : Nat → Int → Int} {N N1 : Int → Int} {k : Int} (hP : PW I A) (x : BX F G I A N I1 A1 N1) (h0 : 0 ≤ k) (h1 : k < I 7) (c : CON A k) : CON A1 k := by
  have p := x.2.2.1 k h0 h1
  unfold CON at c ⊢
  rw [p.1]
  rcases c with c | c | c | c
  · exact Or.inl c
  · exact Or.inr (Or.inl c)
  · exact Or.inr (Or.inr (Or.inl c))
  · have q := hP.2 k h0 h1
    have q2 := q.2.2.2.2 (by omega)
    have p2 := x.2.2.1 (A 2 k) (by omega) (by omega)
    refine Or.inr (Or.inr (Or.inr ⟨c.1, ?_⟩))
    rw [p.2.1, p2.1, p2.2.1]
    exact c.2
theorem vl_BX {F G : Nat → Prop} {I I1 : Nat → Int} {A A1 : Nat → Int → Int} {N N1 : Int → Int} {k : Int} (hP : PW I A) (x : BX F G I A N I1 A1 N1) (h0 : 0 ≤ k) (h1 : k < I 7) (c : 0 ≤ A 1 k → 0 ≤ A 1 (A 2 k)) : vl A1 k = vl A k ∧ 0 ≤ vl A k ∧ vl A k < I 7 := by
  have p := x.2.2.1 k h0 h1
  refine ⟨?_, vl_rng hP h0 h1 c⟩
  unfold vl
  rw [p.1]
  by_cases e : 0 ≤ A 1 k
  · have q := hP.2 k h0 h1
    have q2 := q.2.2.2.2 e
    rw [if_pos e, if_pos e, p.2.1, (x.2.2.1 (A 2 k) (by omega) (by omega)).1]
  · rw [if_neg e, if_neg e]
theorem nof_BX {F G : Nat → Prop} {I I1 : Nat → Int} {A A1 : Nat → Int → Int} {N N1 : Int → Int} {k : Int} (x : BX F G I A N I1 A1 N1) (h0 : 0 ≤ k) (h1 : k < I 7) : nof A1 N1 k = nof A N k := by
  have p := x.2.2.1 k h0 h1
  unfold nof
  rw [p.1, p.2.2.1]
theorem TLD_BX {F G : Nat → Prop} {I I1 : Nat → Int} {A A1 : Nat → Int → Int} {N N1 : Int → Int} {ar : Int → Int} {u : Int} (hP : PW I A) (hN : NM I A) (a7 : ar 7 = 2) (x : BX F G I A N I1 A1 N1) (h0 : 0 ≤ u) (h1 : u < I 7) (t : 1 ≤ TZ A ar u) (h : TLD A N ar u) : TLD A1 N1 ar u := by
  have n0 : A 1 0 < 0 := by rw [hN.2 0 (by decide) (by decide)]; decide
  have p := x.2.2.1 u h0 h1
  have q := hP.2 u h0 h1
  obtain ⟨d1, d2, d3, d4⟩ := h
  have q2 := q.2.2.2.2 d1.1
  have ta := TZ_args (ar := ar) hP n0 h0 h1 d1.1 d1.2 t
  have im : ∀ j : Nat, (j : Int) < ar (A 1 u) → A1 1 (rt A1 j (A 2 u)) = A 1 (rt A j (A 2 u)) := fun j hj => it_BX hP x ta.1.1 (by omega) ta.2.1 (by omega)
  unfold TLD
  rw [p.1, p.2.1]
  refine ⟨d1, d2, fun j hj => ?_, fun e => ?_⟩
  · have b := ta.2.2.2.2.2 j hj
    rw [im j hj]
    exact CON_BX hP x b.1.1 b.1.2 (d3 j hj)
  · rw [e, a7] at ta d3 im
    have b0 := ta.2.2.2.2.2 0 (by decide)
    have b1 := ta.2.2.2.2.2 1 (by decide)
    have v0 := vl_BX hP x b0.1.1 b0.1.2 (CON_val hN (d3 0 (by decide)))
    have v1 := vl_BX hP x b1.1.1 b1.1.2 (CON_val hN (d3 1 (by decide)))
    rw [im 0 (by decide), im 1 (by decide), v0.1, v1.1, nof_BX x v0.2.1 v0.2.2, nof_BX x v1.2.1 v1.2.2]
    exact d4 e

