def nt (A : Nat → Int → Int) (w : Int → Int) : Nat → Int → Int × Int
  | 0, _ => (0, 0)
  | f + 1, k => (w k + (if A 1 k < 0 ∨ A 1 k = 2 then 0 else (nt A w f (A 2 k)).2), if k = 0 ∨ A 1 k < 0 then 0 else (nt A w f (A 1 k)).1 + (nt A w f (A 2 k)).2)
theorem nt_succ (A : Nat → Int → Int) (w : Int → Int) (f : Nat) (k : Int) : nt A w (f + 1) k = (w k + (if A 1 k < 0 ∨ A 1 k = 2 then 0 else (nt A w f (A 2 k)).2), if k = 0 ∨ A 1 k < 0 then 0 else (nt A w f (A 1 k)).1 + (nt A w f (A 2 k)).2) := rfl
theorem nt_atom (A : Nat → Int → Int) (w : Int → Int) (f : Nat) (k : Int) (e : A 1 k < 0) : nt A w (f + 1) k = (w k, 0) := by
  rw [nt_succ, if_pos (Or.inl e), if_pos (Or.inr e), Int.add_zero]
theorem nt_fuel {I : Nat → Int} {A : Nat → Int → Int} {w : Int → Int} (hP : PW I A) : ∀ (f g : Nat) (k : Int), k.toNat < f → k.toNat < g → 0 ≤ k → k < I 7 → nt A w f k = nt A w g k
  | f + 1, g + 1, k, hf, hg, h0, h1 => by
    have q := hP.2 k h0 h1
    by_cases e : A 1 k < 0
    · rw [nt_atom A w f k e, nt_atom A w g k e]
    · have q2 := q.2.2.2.2 (by omega)
      rw [nt_succ, nt_succ, nt_fuel hP f g (A 1 k) (by omega) (by omega) (by omega) (by omega), nt_fuel hP f g (A 2 k) (by omega) (by omega) (by omega) (by omega)]
def NT (A : Nat → Int → Int) (w : Int → Int) (k : Int) : Int := (nt A w (k.toNat + 1) k).1
def NL (A : Nat → Int → Int) (w : Int → Int) (k : Int) : Int := (nt A w (k.toNat + 1) k).2
section NTS
variable {I : Nat → Int} {A : Nat → Int → Int} {w : Int → Int} {k : Int}
theorem nt_at (hP : PW I A) (f : Nat) (hf : k.toNat < f) (h0 : 0 ≤ k) (h1 : k < I 7) : nt A w f k = (NT A w k, NL A w k) := by
  rw [nt_fuel hP f (k.toNat + 1) k hf (Nat.lt_succ_self _) h0 h1]
  rfl
theorem NT_leaf (hP : PW I A) (h0 : 0 ≤ k) (h1 : k < I 7) (e : A 1 k < 0 ∨ A 1 k = 2) : NT A w k = w k := by
  unfold NT
  rw [nt_succ, if_pos e]
  dsimp only
  omega
theorem NT_call (hP : PW I A) (h0 : 0 ≤ k) (h1 : k < I 7) (e : 0 ≤ A 1 k) (e2 : A 1 k ≠ 2) : NT A w k = w k + NL A w (A 2 k) := by
  have q := hP.2 k h0 h1
  have q2 := q.2.2.2.2 e
  unfold NT
  rw [nt_succ, if_neg (by omega), nt_at hP k.toNat (by omega) (by omega) (by omega)]
theorem NL_0 : NL A w 0 = 0 := by
  unfold NL
  rw [nt_succ, if_pos (Or.inl rfl)]
theorem NL_pair (hP : PW I A) (h0 : 0 < k) (h1 : k < I 7) (e : 0 ≤ A 1 k) : NL A w k = NT A w (A 1 k) + NL A w (A 2 k) := by
  have q := hP.2 k (by omega) h1
  have q2 := q.2.2.2.2 e
  have a : NL A w k = (nt A w (k.toNat + 1) k).2 := rfl
  rw [a, nt_succ]
  dsimp only
  rw [if_neg (by omega : ¬ (k = 0 ∨ A 1 k < 0)), nt_at hP k.toNat (by omega) e (by omega), nt_at hP k.toNat (by omega) (by omega) (by omega)]
theorem NT_nn (hP : PW I A) (hw : ∀ j : Int, 0 ≤ j → j < I 7 → 0 ≤ w j) : ∀ (f : Nat) (k : Int), k.toNat < f → 0 ≤ k → k < I 7 → 0 ≤ NT A w k ∧ 0 ≤ NL A w k
  | f + 1, k, hf, h0, h1 => by
    have q := hP.2 k h0 h1
    have hk := hw k h0 h1
    by_cases e : A 1 k < 0
    · refine ⟨?_, ?_⟩
      · rw [NT_leaf hP h0 h1 (Or.inl e)]
        exact hk
      · unfold NL
        rw [nt_atom A w _ k e]
        exact Int.le_refl _
    · have q2 := q.2.2.2.2 (by omega)
      have r1 := NT_nn hP hw f (A 1 k) (by omega) (by omega) (by omega)
      have r2 := NT_nn hP hw f (A 2 k) (by omega) (by omega) (by omega)
      refine ⟨?_, ?_⟩
      · by_cases e2 : A 1 k = 2
        · rw [NT_leaf hP h0 h1 (Or.inr e2)]
          exact hk
        · rw [NT_call hP h0 h1 (by omega) e2]
          omega
      · by_cases e0 : k = 0
        · rw [e0, NL_0]
          exact Int.le_refl _
        · rw [NL_pair hP (by omega) h1 (by omega)]
          omega
end NTS
theorem nt_ext {I : Nat → Int} {A A1 : Nat → Int → Int} {w w1 : Int → Int} (hP : PW I A) (hx : ∀ k : Int, 0 ≤ k → k < I 7 → A1 1 k = A 1 k ∧ A1 2 k = A 2 k) (hw : ∀ k : Int, 0 ≤ k → k < I 7 → w1 k = w k) : ∀ (f : Nat) (k : Int), 0 ≤ k → k < I 7 → nt A1 w1 f k = nt A w f k
  | 0, _, _, _ => rfl
  | f + 1, k, h0, h1 => by
    have q := hP.2 k h0 h1
    have p := hx k h0 h1
    by_cases e : A 1 k < 0
    · rw [nt_atom A w f k e, nt_atom A1 w1 f k (by rw [p.1]; exact e), hw k h0 h1]
    · have q2 := q.2.2.2.2 (by omega)
      rw [nt_succ, nt_succ, p.1, p.2, hw k h0 h1, nt_ext hP hx hw f (A 1 k) (by omega) (by omega), nt_ext hP hx hw f (A 2 k) (by omega) (by omega)]
theorem NT_ext {I : Nat → Int} {A A1 : Nat → Int → Int} {w w1 : Int → Int} (hP : PW I A) (hx : ∀ k : Int, 0 ≤ k → k < I 7 → A1 1 k = A 1 k ∧ A1 2 k = A 2 k) (hw : ∀ k : Int, 0 ≤ k → k < I 7 → w1 k = w k) {k : Int} (h0 : 0 ≤ k) (h1 : k < I 7) : NT A1 w1 k = NT A w k ∧ NL A1 w1 k = NL A w k := by
  unfold NT NL
  rw [nt_ext hP hx hw _ k h0 h1]
  exact ⟨rfl, rfl⟩
def wf (A : Nat → Int → Int) (ar : Int → Int) (f : Int) : Int → Int := fun k => if A 1 k = f then TZ A ar k else 0
def wy (A : Nat → Int → Int) (ar : Int → Int) (f : Int) : Int → Int := fun k => if A 1 k = f then NL A (wf A ar f) (A 2 k) else 0
theorem tz_1nn (A : Nat → Int → Int) (ar : Int → Int) : ∀ (f : Nat) (k : Int), 0 ≤ (tz A ar f k).1
  | 0, _ => Int.le_refl _
  | f + 1, k => by
    rw [tz_succ]
    dsimp only
    split
    · decide
    · split
      · rename_i c
        have := c.1
        omega
      · exact Int.le_refl _
theorem wf_nn {A : Nat → Int → Int} {ar : Int → Int} {f : Int} (k : Int) : 0 ≤ wf A ar f k := by
  unfold wf
  split
  · exact tz_1nn A ar _ k
  · exact Int.le_refl _
theorem wy_nn {I : Nat → Int} {A : Nat → Int → Int} {ar : Int → Int} {f : Int} (hP : PW I A) (f0 : 0 ≤ f) (k : Int) (h0 : 0 ≤ k) (h1 : k < I 7) : 0 ≤ wy A ar f k := by
  unfold wy
  split
  · rename_i c
    have q := hP.2 k h0 h1
    have q2 := q.2.2.2.2 (by omega)
    exact (NT_nn hP (fun j _ _ => wf_nn j) ((A 2 k).toNat + 1) (A 2 k) (Nat.lt_succ_self _) (by omega) (by omega)).2
  · exact Int.le_refl _
theorem wf_le {I : Nat → Int} {A : Nat → Int → Int} {ar : Int → Int} {f : Int} (hP : PW I A) (f3 : 3 ≤ f) : ∀ (n : Nat) (k : Int), k.toNat < n → 0 ≤ k → k < I 7 → (1 ≤ TZ A ar k → NT A (wy A ar f) k = 0 → NT A (wf A ar f) k ≤ TZ A ar k) ∧ (0 ≤ LZ A ar k → NL A (wy A ar f) k = 0 → NL A (wf A ar f) k ≤ LZ A ar k)
  | n + 1, k, hf, h0, h1 => by
    have q := hP.2 k h0 h1
    have wk : ∀ j : Int, 0 ≤ j → j < I 7 → 0 ≤ wy A ar f j := fun j a b => wy_nn hP (by omega) j a b
    by_cases e : A 1 k < 0
    · refine ⟨fun t _ => ?_, fun l _ => ?_⟩
      · rw [NT_leaf hP h0 h1 (Or.inl e)]
        unfold wf
        rw [if_neg (by omega)]
        omega
      · have : NL A (wf A ar f) k = 0 := by
          unfold NL
          rw [nt_atom A _ _ k e]
        omega
    · have q2 := q.2.2.2.2 (by omega)
      have r1 := wf_le (ar := ar) (f := f) hP f3 n (A 1 k) (by omega) (by omega) (by omega)
      have r2 := wf_le (ar := ar) (f := f) hP f3 n (A 2 k) (by omega) (by omega) (by omega)
      have s1 := NT_nn hP wk n (A 1 k) (by omega) (by omega) (by omega)
      have s2 := NT_nn hP wk n (A 2 k) (by omega) (by omega) (by omega)
      refine ⟨fun t y => ?_, fun l y => ?_⟩
      · by_cases e2 : A 1 k = 2
        · rw [NT_leaf hP h0 h1 (Or.inr e2)]
          unfold wf
          rw [if_neg (by omega)]
          omega
        · rw [NT_call hP h0 h1 (by omega) e2] at y ⊢
          have wk0 := wk k h0 h1
          have tc := TZ_call (ar := ar) hP h0 h1 (by omega) e2
          by_cases c : 0 ≤ LZ A ar (A 2 k) ∧ CZ A ar (A 2 k) = ar (A 1 k) ∧ A 4 k ≠ 0
          · rw [if_pos c] at tc
            have r3 := r2.2 c.1 (by omega)
            by_cases ef : A 1 k = f
            · have y1 : wy A ar f k = 0 := by omega
              unfold wy at y1
              rw [if_pos ef] at y1
              unfold wf at y1 ⊢
              rw [if_pos ef]
              omega
            · have : wf A ar f k = 0 := by
                unfold wf
                rw [if_neg ef]
              omega
          · rw [if_neg c] at tc
            omega
      · by_cases e0 : k = 0
        · rw [e0, NL_0]
          rw [e0] at l
          exact l
        · rw [NL_pair hP (by omega) h1 (by omega)] at y ⊢
          have lp := (LZ_pair (ar := ar) hP (by omega) h1 (by omega)).1
          by_cases c : 1 ≤ TZ A ar (A 1 k) ∧ 0 ≤ LZ A ar (A 2 k)
          · rw [if_pos c] at lp
            have a := r1.1 c.1 (by omega)
            have b := r2.2 c.2 (by omega)
            omega
          · rw [if_neg c] at lp
            omega
theorem TZ_three {I : Nat → Int} {A : Nat → Int → Int} {ar : Int → Int} {k : Int} (hP : PW I A) (n0 : A 1 0 < 0) (h0 : 0 ≤ k) (h1 : k < I 7) (e : 0 ≤ A 1 k) (e2 : A 1 k ≠ 2) (ha : ar (A 1 k) = 3) (t : 1 ≤ TZ A ar k) : ((0 < A 2 k ∧ A 2 k < k ∧ 0 ≤ A 1 (A 2 k)) ∧ (0 < A 2 (A 2 k) ∧ A 2 (A 2 k) < k ∧ 0 ≤ A 1 (A 2 (A 2 k))) ∧ (0 < A 2 (A 2 (A 2 k)) ∧ A 2 (A 2 (A 2 k)) < k ∧ 0 ≤ A 1 (A 2 (A 2 (A 2 k))))) ∧ A 2 (A 2 (A 2 (A 2 k))) = 0 ∧ (1 ≤ TZ A ar (A 1 (A 2 k)) ∧ 1 ≤ TZ A ar (A 1 (A 2 (A 2 k))) ∧ 1 ≤ TZ A ar (A 1 (A 2 (A 2 (A 2 k))))) ∧ TZ A ar k = 1 + TZ A ar (A 1 (A 2 k)) + TZ A ar (A 1 (A 2 (A 2 k))) + TZ A ar (A 1 (A 2 (A 2 (A 2 k)))) := by
  have q := hP.2 k h0 h1
  have q2 := q.2.2.2.2 e
  have tc := TZ_call (ar := ar) hP h0 h1 e e2
  have l0 := LZ_0 (ar := ar) n0
  have step : ∀ (x c : Int), 0 ≤ x → x < I 7 → 0 ≤ LZ A ar x → CZ A ar x = c → 1 ≤ c → (0 < x ∧ 0 ≤ A 1 x) ∧ (0 ≤ A 2 x ∧ A 2 x < x ∧ A 1 x < x) ∧ 1 ≤ TZ A ar (A 1 x) ∧ 0 ≤ LZ A ar (A 2 x) ∧ LZ A ar x = TZ A ar (A 1 x) + LZ A ar (A 2 x) ∧ CZ A ar (A 2 x) = c - 1 := by
    intro x c x0 x1 xl xc c1
    have qx := hP.2 x x0 x1
    have nz : x ≠ 0 := by
      intro ez
      rw [ez, l0.2] at xc
      omega
    have pr : 0 ≤ A 1 x := by
      by_cases c9 : A 1 x < 0
      · have := LZ_atom (ar := ar) c9 nz
        omega
      · omega
    have q3 := qx.2.2.2.2 pr
    have lp := LZ_pair (ar := ar) hP (by omega : 0 < x) x1 pr
    by_cases c9 : 1 ≤ TZ A ar (A 1 x) ∧ 0 ≤ LZ A ar (A 2 x)
    · rw [if_pos c9] at lp
      exact ⟨⟨by omega, pr⟩, ⟨by omega, by omega, by omega⟩, c9.1, c9.2, lp.1, by omega⟩
    · rw [if_neg c9] at lp
      omega
  by_cases c : 0 ≤ LZ A ar (A 2 k) ∧ CZ A ar (A 2 k) = ar (A 1 k) ∧ A 4 k ≠ 0
  · rw [if_pos c] at tc
    have s1 := step (A 2 k) 3 (by omega) (by omega) c.1 (by rw [c.2.1, ha]) (by decide)
    have s2 := step (A 2 (A 2 k)) 2 (by omega) (by omega) s1.2.2.2.1 (by omega) (by decide)
    have s3 := step (A 2 (A 2 (A 2 k))) 1 (by omega) (by omega) s2.2.2.2.1 (by omega) (by decide)
    have z : A 2 (A 2 (A 2 (A 2 k))) = 0 := by
      by_cases ez : A 2 (A 2 (A 2 (A 2 k))) = 0
      · exact ez
      · have qz := hP.2 (A 2 (A 2 (A 2 (A 2 k)))) (by omega) (by omega)
        by_cases c9 : A 1 (A 2 (A 2 (A 2 (A 2 k)))) < 0
        · have := LZ_atom (ar := ar) c9 ez
          omega
        · have qy := qz.2.2.2.2 (by omega)
          have lp := (LZ_pair (ar := ar) hP (by omega : 0 < A 2 (A 2 (A 2 (A 2 k)))) (by omega) (by omega)).2
          have cn := CZ_nn (ar := ar) hP ((A 2 (A 2 (A 2 (A 2 (A 2 k))))).toNat + 1) (A 2 (A 2 (A 2 (A 2 (A 2 k))))) (Nat.lt_succ_self _) (by omega) (by omega)
          omega
    have lz : LZ A ar (A 2 (A 2 (A 2 (A 2 k)))) = 0 := by rw [z, l0.1]
    exact ⟨⟨⟨s1.1.1, by omega, s1.1.2⟩, ⟨s2.1.1, by omega, s2.1.2⟩, ⟨s3.1.1, by omega, s3.1.2⟩⟩, z, ⟨s1.2.2.1, s2.2.2.1, s3.2.2.1⟩, by omega⟩
  · rw [if_neg c] at tc
    omega
def ps (A : Nat → Int → Int) (g : Int → Int) : Nat → Int → Int
  | 0, _ => 0
  | f + 1, k => if A 1 k = 3 then ps A g f (A 1 (A 2 (A 2 k))) + ps A g f (A 1 (A 2 (A 2 (A 2 k)))) else g k
theorem ps_succ (A : Nat → Int → Int) (g : Int → Int) (f : Nat) (k : Int) : ps A g (f + 1) k = if A 1 k = 3 then ps A g f (A 1 (A 2 (A 2 k))) + ps A g f (A 1 (A 2 (A 2 (A 2 k)))) else g k := rfl
theorem ps_fuel {I : Nat → Int} {A : Nat → Int → Int} {ar : Int → Int} {g : Int → Int} (hP : PW I A) (n0 : A 1 0 < 0) (ha : ar 3 = 3) : ∀ (f h : Nat) (k : Int), k.toNat < f → k.toNat < h → 0 ≤ k → k < I 7 → 1 ≤ TZ A ar k → ps A g f k = ps A g h k
  | f + 1, h + 1, k, hf, hh, h0, h1, t => by
    rw [ps_succ, ps_succ]
    by_cases e : A 1 k = 3
    · have q := TZ_three hP n0 h0 h1 (by omega) (by omega) (by rw [e]; exact ha) t
      have q1 := hP.2 (A 2 (A 2 k)) (by omega) (by omega)
      have q2 := hP.2 (A 2 (A 2 (A 2 k))) (by omega) (by omega)
      rw [if_pos e, if_pos e, ps_fuel hP n0 ha f h _ (by omega) (by omega) (by omega) (by omega) q.2.2.1.2.1, ps_fuel hP n0 ha f h _ (by omega) (by omega) (by omega) (by omega) q.2.2.1.2.2]
    · rw [if_neg e, if_neg e]
def PS (A : Nat → Int → Int) (g : Int → Int) (k : Int) : Int := ps A g (k.toNat + 1) k
section PSS
variable {I : Nat → Int} {A : Nat → Int → Int} {ar : Int → Int} {g : Int → Int} {k : Int}
theorem PS_end (e : A 1 k ≠ 3) : PS A g k = g k := by
  unfold PS
  rw [ps_succ, if_neg e]
theorem PS_if (hP : PW I A) (n0 : A 1 0 < 0) (ha : ar 3 = 3) (h0 : 0 ≤ k) (h1 : k < I 7) (e : A 1 k = 3) (t : 1 ≤ TZ A ar k) : PS A g k = PS A g (A 1 (A 2 (A 2 k))) + PS A g (A 1 (A 2 (A 2 (A 2 k)))) := by
  have q := TZ_three hP n0 h0 h1 (by omega) (by omega) (by rw [e]; exact ha) t
  have q1 := hP.2 (A 2 (A 2 k)) (by omega) (by omega)
  have q2 := hP.2 (A 2 (A 2 (A 2 k))) (by omega) (by omega)
  have a : PS A g k = ps A g (k.toNat + 1) k := rfl
  rw [a, ps_succ, if_pos e, ps_fuel (g := g) hP n0 ha k.toNat ((A 1 (A 2 (A 2 k))).toNat + 1) _ (by omega) (Nat.lt_succ_self _) (by omega) (by omega) q.2.2.1.2.1, ps_fuel (g := g) hP n0 ha k.toNat ((A 1 (A 2 (A 2 (A 2 k)))).toNat + 1) _ (by omega) (Nat.lt_succ_self _) (by omega) (by omega) q.2.2.1.2.2]
  rfl
theorem PS_le {g1 : Int → Int} (hP : PW I A) (n0 : A 1 0 < 0) (ha : ar 3 = 3) (hg : ∀ j : Int, 0 ≤ j → j < I 7 → 1 ≤ TZ A ar j → g j ≤ TZ A ar j) : ∀ (n : Nat) (k : Int), k.toNat < n → 0 ≤ k → k < I 7 → 1 ≤ TZ A ar k → PS A g k ≤ TZ A ar k
  | n + 1, k, hf, h0, h1, t => by
    by_cases e : A 1 k = 3
    · have q := TZ_three hP n0 h0 h1 (by omega) (by omega) (by rw [e]; exact ha) t
      have q1 := hP.2 (A 2 (A 2 k)) (by omega) (by omega)
      have q2 := hP.2 (A 2 (A 2 (A 2 k))) (by omega) (by omega)
      have r1 := PS_le (g1 := g1) hP n0 ha hg n (A 1 (A 2 (A 2 k))) (by omega) (by omega) (by omega) q.2.2.1.2.1
      have r2 := PS_le (g1 := g1) hP n0 ha hg n (A 1 (A 2 (A 2 (A 2 k)))) (by omega) (by omega) (by omega) q.2.2.1.2.2
      rw [PS_if hP n0 ha h0 h1 e t]
      omega
    · rw [PS_end e]
      exact hg k h0 h1 t
end PSS
theorem PS_ext {I : Nat → Int} {A A1 : Nat → Int → Int} {ar : Int → Int} {g g1 : Int → Int} (hP : PW I A) (n0 : A 1 0 < 0) (ha : ar 3 = 3) (hx : ∀ k : Int, 0 ≤ k → k < I 7 → A1 1 k = A 1 k ∧ A1 2 k = A 2 k) (hg : ∀ k : Int, 0 ≤ k → k < I 7 → g1 k = g k) : ∀ (f : Nat) (k : Int), 0 ≤ k → k < I 7 → 1 ≤ TZ A ar k → ps A1 g1 f k = ps A g f k
  | 0, _, _, _, _ => rfl
  | f + 1, k, h0, h1, t => by
    have p := hx k h0 h1
    rw [ps_succ, ps_succ, p.1, p.2, hg k h0 h1]
    by_cases e : A 1 k = 3
    · have q := TZ_three hP n0 h0 h1 (by omega) (by omega) (by rw [e]; exact ha) t
      have q1 := hP.2 (A 2 (A 2 k)) (by omega) (by omega)
      have q2 := hP.2 (A 2 (A 2 (A 2 k))) (by omega) (by omega)
      have p1 := hx (A 2 k) (by omega) (by omega)
      have p2 := hx (A 2 (A 2 k)) (by omega) (by omega)
      have p3 := hx (A 2 (A 2 (A 2 k))) (by omega) (by omega)
      rw [if_pos e, if_pos e, p1.2, p2.1, p2.2, p3.1, PS_ext hP n0 ha hx hg f _ (by omega) (by omega) q.2.2.1.2.1, PS_ext hP n0 ha hx hg f _ (by omega) (by omega) q.2.2.1.2.2]
    · rw [if_neg e, if_neg e]

