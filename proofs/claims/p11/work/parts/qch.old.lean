def VS (lim nd nt : Int) : Nat → Int := fun j => if j = 7 then lim else if j = 32 then nd else if j = 38 then nt else if j = 44 then -1 else 0
def OX (lim : Int) (A A1 : Nat → Int → Int) : Prop := ∀ k : Int, 0 ≤ k → k < lim → A1 1 k = A 1 k ∧ A1 2 k = A 2 k ∧ (A 4 k ≠ 0 → A1 4 k ≠ 0)
def RX2 (nd : Int) (A A1 : Nat → Int → Int) : Prop := ∀ e : Int, 0 ≤ e → e < nd → A1 20 e = A 20 e ∧ A1 21 e = A 21 e ∧ (∀ j : Int, 0 ≤ j → j < 6 → A1 22 (6 * e + j) = A 22 (6 * e + j)) ∧ A1 23 e = A 23 e ∧ A1 24 e = A 24 e
def RX3 (nt : Int) (A A1 : Nat → Int → Int) : Prop := ∀ e : Int, 0 ≤ e → e < nt → A1 25 e = A 25 e ∧ A1 26 e = A 26 e
def ARX (lim : Int) (ar ar1 : Int → Int) : Prop := ∀ f : Int, 0 ≤ f → f < lim → 0 ≤ ar f → ar1 f = ar f
section PXS
variable {I I1 : Nat → Int} {A A1 : Nat → Int → Int} {ar ar1 : Int → Int} {lim : Int}
theorem TZ_px (hP : PW I A) (hx : OX (I 7) A A1) (ha : ARX (I 7) ar ar1) {k : Int} (h0 : 0 ≤ k) (h1 : k < I 7) (t : 1 ≤ TZ A ar k) : TZ A1 ar1 k = TZ A ar k := (tz_ext hP hx ha (k.toNat + 1) k h0 h1).1 t
theorem PW_px (hP : PW I A) (hx : OX (I 7) A A1) : PW I A1 := ⟨hP.1, fun k k0 k1 => by rw [(hx k k0 k1).1, (hx k k0 k1).2.1]; exact hP.2 k k0 k1⟩
theorem wf_px {f : Int} (hP : PW I A) (hx : OX (I 7) A A1) (ha : ARX (I 7) ar ar1) (k : Int) (h0 : 0 ≤ k) (h1 : k < I 7) (t : 1 ≤ TZ A ar k) : wf A1 ar1 f k = wf A ar f k := by
  unfold wf
  rw [(hx k h0 h1).1, TZ_px hP hx ha h0 h1 t]
theorem wy_px {f : Int} (f3 : 3 ≤ f) (hP : PW I A) (hx : OX (I 7) A A1) (ha : ARX (I 7) ar ar1) (k : Int) (h0 : 0 ≤ k) (h1 : k < I 7) (t : 1 ≤ TZ A ar k) : wy A1 ar1 f k = wy A ar f k := by
  have p := hx k h0 h1
  unfold wy
  rw [p.1, p.2.1]
  by_cases e : A 1 k = f
  · have q := hP.2 k h0 h1
    have q2 := q.2.2.2.2 (by omega)
    rw [if_pos e, if_pos e]
    have tc := TZ_call (ar := ar) hP h0 h1 (by omega) (by omega)
    by_cases c : 0 ≤ LZ A ar (A 2 k) ∧ CZ A ar (A 2 k) = ar (A 1 k) ∧ A 4 k ≠ 0
    · exact (NT_extT (ar := ar) hP (PW_px hP hx) (Int.le_refl _) (fun k a b => ⟨(hx k a b).1, (hx k a b).2.1⟩) (fun k a b c => wf_px hP hx ha k a b c) ((A 2 k).toNat + 1) (A 2 k) (Nat.lt_succ_self _) (by omega) (by omega)).2 c.1
    · rw [if_neg c] at tc
      omega
  · rw [if_neg e, if_neg e]
theorem NTwy_px {f : Int} (f3 : 3 ≤ f) (hP : PW I A) (hx : OX (I 7) A A1) (ha : ARX (I 7) ar ar1) (k : Int) (h0 : 0 ≤ k) (h1 : k < I 7) (t : 1 ≤ TZ A ar k) : NT A1 (wy A1 ar1 f) k = NT A (wy A ar f) k := (NT_extT (ar := ar) hP (PW_px hP hx) (Int.le_refl _) (fun k a b => ⟨(hx k a b).1, (hx k a b).2.1⟩) (fun k a b c => wy_px f3 hP hx ha k a b c) (k.toNat + 1) k (Nat.lt_succ_self _) h0 h1).1 t
theorem NST_px {f o : Int} (f3 : 3 ≤ f) (hP : PW I A) (n0 : A 1 0 < 0) (h3 : ar 3 = 3) (hx : OX (I 7) A A1) (ha : ARX (I 7) ar ar1) (h0 : 0 ≤ o) (h1 : o < I 7) (t : 1 ≤ TZ A ar o) : NST A1 ar1 f o = NST A ar f o := PS_extT hP n0 h3 (fun k a b => ⟨(hx k a b).1, (hx k a b).2.1⟩) (fun k a b c => NTwy_px f3 hP hx ha k a b c) _ o h0 h1 t
theorem DEF_px {e : Int} (hP : PW I A) (n0 : A 1 0 < 0) (h3 : ar 3 = 3) (h7 : I 7 ≤ I1 7) (hx : OX (I 7) A A1) (ha : ARX (I 7) ar ar1) (r : A1 20 e = A 20 e ∧ A1 21 e = A 21 e ∧ (∀ j : Int, 0 ≤ j → j < 6 → A1 22 (6 * e + j) = A 22 (6 * e + j)) ∧ A1 23 e = A 23 e ∧ A1 24 e = A 24 e) (h : DEF ar I A e) : DEF ar1 I1 A1 e := by
  obtain ⟨d1, d2, d3, d4, d5, d6, d7⟩ := h
  obtain ⟨r1, r2, r3, r4, r5⟩ := r
  unfold DEF
  rw [r1, r2, r4, r5, TZ_px hP hx ha d4.1 d4.2 d5.1, NST_px (by omega) hP n0 h3 hx ha d4.1 d4.2 d5.1, ha (A 20 e) (by omega) d1.2 (by omega)]
  refine ⟨⟨d1.1, by omega⟩, d2, fun k k0 k1 => ?_, ⟨d4.1, by omega⟩, d5, d6, d7⟩
  have v := d3 k k0 k1
  rw [r3 k k0 (by omega), (hx _ v.1.1 v.1.2).1]
  exact ⟨⟨v.1.1, by omega⟩, v.2⟩
theorem THM_px {e : Int} (hP : PW I A) (h7 : I 7 ≤ I1 7) (hx : OX (I 7) A A1) (ha : ARX (I 7) ar ar1) (r : A1 25 e = A 25 e ∧ A1 26 e = A 26 e) (h : THM ar I A e) : THM ar1 I1 A1 e := by
  obtain ⟨d1, d2, d3⟩ := h
  unfold THM
  rw [r.1, r.2, TZ_px hP hx ha d2.1 d2.2 d3.1]
  exact ⟨d1, ⟨d2.1, by omega⟩, d3⟩
end PXS
def OLA (ar : Int → Int) (A : Nat → Int → Int) (lim nd nt : Int) : Prop := AR ar (VS lim nd nt) A ∧ ARF ar (VS lim nd nt) A ∧ DFS ar (VS lim nd nt) A ∧ ∀ e : Int, 0 ≤ e → e < nt → A 25 e < lim
def OLD (A : Nat → Int → Int) (lim nd nt : Int) : Prop := ∃ ar : Int → Int, OLA ar A lim nd nt
section OLS
variable {I I1 : Nat → Int} {A A1 : Nat → Int → Int} {N : Int → Int} {ar ar1 : Int → Int} {lim lim1 nd nt : Int}
theorem ARX_rf : ARX lim ar ar := fun _ _ _ _ => rfl
theorem AR_px (h : AR ar (VS lim nd nt) A) (r : RX2 nd A A1) : AR ar (VS lim1 nd nt) A1 := by
  obtain ⟨h1, h2, h3, h4⟩ := h
  refine ⟨h1, h2, h3, fun e e0 e1 => ?_⟩
  have q := r e e0 e1
  rw [q.1, q.2.1]
  exact h4 e e0 e1
theorem ARF_px (h : ARF ar (VS lim nd nt) A) (hl : lim ≤ lim1) (hx : OX lim A A1) (r : RX2 nd A A1) : ARF ar (VS lim1 nd nt) A1 := by
  intro f f0 f1
  obtain ⟨q1, q2, x, q3⟩ := h f f0 f1
  have q1 : f < lim := q1
  refine ⟨show f < lim1 by omega, by rw [(hx f f0 q1).1]; exact q2, x, ?_⟩
  rcases q3 with q | q | q
  · exact Or.inl q
  · exact Or.inr (Or.inl q)
  · refine Or.inr (Or.inr ⟨q.1, q.2.1, q.2.2.1, q.2.2.2.1, ?_⟩)
    have y : x < 100 + nd := q.2.2.2.1
    rw [(r (x - 100) (by have := q.2.2.1; omega) (by omega)).1]
    exact q.2.2.2.2
theorem DFS_px (hP : PW (VS lim nd nt) A) (n0 : A 1 0 < 0) (h3 : ar 3 = 3) (h : DFS ar (VS lim nd nt) A) (hl : lim ≤ lim1) (hx : OX lim A A1) (r2 : RX2 nd A A1) (r3 : RX3 nt A A1) : DFS ar (VS lim1 nd nt) A1 := ⟨h.1, fun e e0 e1 => DEF_px (I := VS lim nd nt) (I1 := VS lim1 nd nt) hP n0 h3 hl hx ARX_rf (r2 e e0 e1) (h.2.1 e e0 e1), fun e e0 e1 => THM_px (I := VS lim nd nt) (I1 := VS lim1 nd nt) hP hl hx ARX_rf (r3 e e0 e1) (h.2.2 e e0 e1)⟩
theorem OLD_px (hP : PW (VS lim nd nt) A) (n0 : A 1 0 < 0) (hl : lim ≤ lim1) (hx : OX lim A A1) (r2 : RX2 nd A A1) (r3 : RX3 nt A A1) (h : OLD A lim nd nt) : OLD A1 lim1 nd nt := by
  obtain ⟨ar, h1, h2, h3, h4⟩ := h
  refine ⟨ar, AR_px h1 r2, ARF_px h2 hl hx r2, DFS_px hP n0 h1.1.1 h3 hl hx r2 r3, fun e e0 e1 => ?_⟩
  have := h4 e e0 e1
  rw [(r3 e e0 e1).1]
  omega
theorem PW_VS (hP : PW I A) (hl : lim ≤ I 7) : PW (VS lim nd nt) A := ⟨show lim ≤ 140000 from Int.le_trans hl hP.1, fun k k0 k1 => hP.2 k k0 (Int.lt_of_lt_of_le k1 hl)⟩
theorem OX_rf : OX lim A A := fun _ _ _ => ⟨rfl, rfl, id⟩
theorem OX_le (h : OX lim A A1) (q : lim1 ≤ lim) : OX lim1 A A1 := fun k a b => h k a (Int.lt_of_lt_of_le b q)
theorem RX2_rf : RX2 nd A A := fun _ _ _ => ⟨rfl, rfl, fun _ _ _ => rfl, rfl, rfl⟩
theorem RX3_rf : RX3 nt A A := fun _ _ _ => ⟨rfl, rfl⟩
theorem OLA_BI (hS : MST I A N) (hN : NM I A) (hZ : SZI ar I A) (e44 : I 44 = -1) (e45 : 0 ≤ I 45 ∧ I 45 ≤ 6) (e5 : I 54 = 0 ∧ I 56 = 0) (e49 : 0 ≤ I 49 ∧ I 49 ≤ 4) (h : OLA ar A (I 7) (I 32) (I 38)) : BI ar I A N := by
  obtain ⟨⟨a1, a2, a3, a4⟩, h2, h3, -⟩ := h
  refine ⟨⟨hS, hN, hZ⟩, ⟨⟨a1, ⟨Or.inl e44, by omega, e45.1, e45.2, fun q => absurd q (by omega)⟩, a3, fun e e0 e1 => ?_⟩, fun f f0 f1 => ?_⟩, h3, e5, e49⟩
  · have q := a4 e e0 e1
    rw [e44]
    exact q
  · have q := h2 f f0 f1
    unfold FN
    rw [e44]
    exact q
theorem BI_OLA (h : BI ar I A N) (e44 : I 44 = -1) (h25 : ∀ e : Int, 0 ≤ e → e < I 38 → A 25 e < I 7) : OLA ar A (I 7) (I 32) (I 38) := by
  obtain ⟨-, ⟨⟨a1, a2, a3, a4⟩, h2⟩, h3, -⟩ := h
  refine ⟨⟨a1, ⟨Or.inl rfl, (show (-1 : Int) < 140000 by decide), (show (0 : Int) ≤ 0 by decide), (show (0 : Int) ≤ 6 by decide), fun q => absurd q (show ¬ (16 : Int) < -1 by decide)⟩, a3, fun e e0 e1 => ?_⟩, fun f f0 f1 => ?_, h3, h25⟩
  · have q := a4 e e0 e1
    rw [e44] at q
    exact q
  · have q := h2 f f0 f1
    unfold FN at q
    rw [e44] at q
    exact q
end OLS

