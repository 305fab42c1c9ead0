def bp (n : Int) (f : Int → Int) (p : Nat) : Nat := (bh n f (p : Int)).toNat
section SCS
variable {n : Int} {f : Int → Int}
theorem bp_W (h : WFT n f) {p : Nat} (hp : (p : Int) < n) : bh n f (p : Int) = (bp n f p : Int) ∧ p < bp n f p ∧ (bp n f p : Int) ≤ n ∧ sm f (bp n f p) = sm f p - 1 ∧ ∀ j : Nat, p ≤ j → j < bp n f p → sm f p ≤ sm f j := by
  obtain ⟨e, r1, r2⟩ := bh_W h hp
  have : bp n f p = e := by
    unfold bp
    rw [r1]
    omega
  rw [this]
  exact ⟨r1, r2⟩
theorem bp_uq (h : WFT n f) {p e : Nat} (hp : (p : Int) < n) (he : p < e) (hs : sm f e = sm f p - 1) (hj : ∀ j : Nat, p ≤ j → j < e → sm f p ≤ sm f j) : bp n f p = e := by
  obtain ⟨r1, r2, r3, r4, r5⟩ := bp_W h hp
  by_cases c : bp n f p < e
  · have := hj (bp n f p) (by omega) c
    omega
  · by_cases c2 : e < bp n f p
    · have := r5 e (by omega) c2
      omega
    · omega
theorem bp_if (h : WFT n f) {p : Nat} (hp : (p : Int) < n) (hi : f (p : Int) = 110) : (p + 1 : Nat) < n ∧ (bp n f (p + 1) : Int) < n ∧ (bp n f (bp n f (p + 1)) : Int) < n ∧ bp n f (bp n f (bp n f (p + 1))) = bp n f p ∧ p + 1 < bp n f (p + 1) ∧ bp n f (p + 1) < bp n f (bp n f (p + 1)) ∧ bp n f (bp n f (p + 1)) < bp n f p := by
  have s0 := h.1 p hp
  have e1 : sm f (p + 1) = sm f p + 2 := by
    show sm f p + (tk (f (p : Int)) - 1) = _
    rw [hi]
    have : tk 110 = 3 := by decide
    omega
  have l1 := WFT_lt h (k := p + 1) (by omega) (by omega)
  obtain ⟨a1, a2, a3, a4, a5⟩ := bp_W h l1
  have l2 := WFT_lt h (k := bp n f (p + 1)) a3 (by omega)
  obtain ⟨b1, b2, b3, b4, b5⟩ := bp_W h l2
  have l3 := WFT_lt h (k := bp n f (bp n f (p + 1))) b3 (by omega)
  obtain ⟨c1, c2, c3, c4, c5⟩ := bp_W h l3
  have u := bp_uq h hp (e := bp n f (bp n f (bp n f (p + 1)))) (by omega) (by omega) (fun j j0 j1 => by
    by_cases q1 : j < p + 1
    · rw [show j = p by omega]
      exact Int.le_refl _
    · by_cases q2 : j < bp n f (p + 1)
      · have := a5 j (by omega) q2
        omega
      · by_cases q3 : j < bp n f (bp n f (p + 1))
        · have := b5 j (by omega) q3
          omega
        · have := c5 j (by omega) j1
          omega)
  exact ⟨l1, l2, l3, u.symm, a2, b2, by rw [u]; exact c2⟩
end SCS
def SCN (n : Int) (f : Int → Int) (x c y : Nat) : Prop := ∀ P : Nat → Nat → Nat → Prop, (∀ x : Nat, P x 0 x) → (∀ x c y : Nat, (x : Int) < n → f (x : Int) = 110 → P (bp n f (x + 1)) c y → P x c y) → (∀ x c y : Nat, (x : Int) < n → f (x : Int) ≠ 110 → P (bp n f x) c y → P x (c + 1) y) → P x c y
theorem SCN.nil {n : Int} {f : Int → Int} (x : Nat) : SCN n f x 0 x := fun _ p1 _ _ => p1 x
theorem SCN.iff {n : Int} {f : Int → Int} (x c y : Nat) (h1 : (x : Int) < n) (h2 : f (x : Int) = 110) (h : SCN n f (bp n f (x + 1)) c y) : SCN n f x c y := fun P p1 p2 p3 => p2 x c y h1 h2 (h P p1 p2 p3)
theorem SCN.fin {n : Int} {f : Int → Int} (x c y : Nat) (h1 : (x : Int) < n) (h2 : f (x : Int) ≠ 110) (h : SCN n f (bp n f x) c y) : SCN n f x (c + 1) y := fun P p1 p2 p3 => p3 x c y h1 h2 (h P p1 p2 p3)
theorem SCN_inv {n : Int} {f : Int → Int} {x c y : Nat} (h : SCN n f x c y) : (c = 0 ∧ y = x) ∨ ((x : Int) < n ∧ f (x : Int) = 110 ∧ SCN n f (bp n f (x + 1)) c y) ∨ ∃ c1 : Nat, c = c1 + 1 ∧ (x : Int) < n ∧ f (x : Int) ≠ 110 ∧ SCN n f (bp n f x) c1 y :=
  (h (fun x c y => SCN n f x c y ∧ ((c = 0 ∧ y = x) ∨ ((x : Int) < n ∧ f (x : Int) = 110 ∧ SCN n f (bp n f (x + 1)) c y) ∨ ∃ c1 : Nat, c = c1 + 1 ∧ (x : Int) < n ∧ f (x : Int) ≠ 110 ∧ SCN n f (bp n f x) c1 y)) (fun x => ⟨SCN.nil x, Or.inl ⟨rfl, rfl⟩⟩) (fun x c y h1 h2 ih => ⟨SCN.iff x c y h1 h2 ih.1, Or.inr (Or.inl ⟨h1, h2, ih.1⟩)⟩) (fun x c y h1 h2 ih => ⟨SCN.fin x c y h1 h2 ih.1, Or.inr (Or.inr ⟨c, rfl, h1, h2, ih.1⟩)⟩)).2
section SCS2
variable {n : Int} {f : Int → Int}
theorem SCN_tr {x c y c1 w : Nat} (a : SCN n f x c y) (b : SCN n f y c1 w) : SCN n f x (c + c1) w := by
  refine a (fun x c y => SCN n f y c1 w → SCN n f x (c + c1) w) (fun x b => ?_) (fun x c y h1 h2 ih b => SCN.iff x _ w h1 h2 (ih b)) (fun x c y h1 h2 ih b => ?_) b
  · rw [Nat.zero_add]
    exact b
  · rw [show c + 1 + c1 = (c + c1) + 1 by omega]
    exact SCN.fin x _ w h1 h2 (ih b)
theorem SCN_le (h : WFT n f) {x c y : Nat} (a : SCN n f x c y) : x ≤ y ∧ ((x : Int) ≤ n → (y : Int) ≤ n) ∧ (x = y → c = 0) := by
  refine a (fun x c y => x ≤ y ∧ ((x : Int) ≤ n → (y : Int) ≤ n) ∧ (x = y → c = 0)) (fun x => ⟨Nat.le_refl _, id, fun _ => rfl⟩) (fun x c y h1 h2 ih => ?_) (fun x c y h1 h2 ih => ?_)
  · obtain ⟨a1, a2, a3, a4, a5, a6, a7⟩ := bp_if h h1 h2
    exact ⟨by omega, fun _ => ih.2.1 (by omega), fun e => absurd ih.1 (by omega)⟩
  · obtain ⟨r1, r2, r3, r4, r5⟩ := bp_W h h1
    exact ⟨by omega, fun _ => ih.2.1 r3, fun e => absurd ih.1 (by omega)⟩
theorem SCN_sub (h : WFT n f) {x c1 y1 : Nat} (a : SCN n f x c1 y1) : ∀ {c y : Nat}, SCN n f x c y → y1 ≤ y → c1 ≤ c ∧ SCN n f y1 (c - c1) y := by
  refine (a (fun x c1 y1 => SCN n f x c1 y1 ∧ ∀ c y : Nat, SCN n f x c y → y1 ≤ y → c1 ≤ c ∧ SCN n f y1 (c - c1) y) (fun x => ⟨SCN.nil x, fun c y b _ => ⟨Nat.zero_le _, b⟩⟩) (fun x c1 y1 h1 h2 ih => ⟨SCN.iff x c1 y1 h1 h2 ih.1, fun c y b hy => ?_⟩) (fun x c1 y1 h1 h2 ih => ⟨SCN.fin x c1 y1 h1 h2 ih.1, fun c y b hy => ?_⟩)).2 _ _
  · have la := SCN_le h ih.1
    obtain ⟨a1, a2, a3, a4, a5, a6, a7⟩ := bp_if h h1 h2
    rcases SCN_inv b with ⟨-, e⟩ | ⟨-, -, b⟩ | ⟨c2, -, -, w, -⟩
    · omega
    · exact ih.2 c y b hy
    · exact absurd h2 w
  · have la := SCN_le h ih.1
    obtain ⟨r1, r2, r3, r4, r5⟩ := bp_W h h1
    rcases SCN_inv b with ⟨-, e⟩ | ⟨-, w, -⟩ | ⟨c2, rfl, -, -, b⟩
    · omega
    · exact absurd w h2
    · have q := ih.2 c2 y b hy
      refine ⟨by omega, ?_⟩
      rw [show c2 + 1 - (c1 + 1) = c2 - c1 by omega]
      exact q.2
theorem SCN_nx (h : WFT n f) {k x y : Nat} (a : SCN n f 0 k x) (b : SCN n f 0 k y) (hy : (y : Int) < n) (hn : f (y : Int) ≠ 110) : x ≤ y := by
  by_cases c : x ≤ y
  · exact c
  · have q := SCN_sub h b a (by omega)
    rw [Nat.sub_self] at q
    rcases SCN_inv q.2 with ⟨-, e⟩ | ⟨-, w, -⟩ | ⟨c2, e, -⟩
    · omega
    · exact absurd w hn
    · omega
end SCS2
def XE (n : Int) (f : Int → Int) (x : Int) : Nat → Int
  | 0 => 0
  | k + 1 => XE n f x k + (if f (k : Int) = x then bh n f (k : Int) - k else 0)
theorem XE_step (n : Int) (f : Int → Int) (x : Int) (k : Nat) : XE n f x (k + 1) = XE n f x k + (if f (k : Int) = x then bh n f (k : Int) - k else 0) := rfl
theorem XE_mono {n : Int} {f : Int → Int} (h : WFT n f) (x : Int) {a : Nat} : ∀ {b : Nat}, a ≤ b → (b : Int) ≤ n → XE n f x a ≤ XE n f x b
  | 0, h1, _ => by
    rw [show a = 0 by omega]
    exact Int.le_refl _
  | b + 1, h1, h2 => by
    by_cases c : a = b + 1
    · rw [c]
      exact Int.le_refl _
    · have q := XE_mono h x (a := a) (b := b) (by omega) (by omega)
      have w := bp_W h (p := b) (by omega)
      rw [XE_step]
      split
      · omega
      · omega
theorem XE_law {n : Int} {f : Int → Int} {x : Int} (h : WFT n f) (hL : LAW n f x) : ∀ m : Nat, (m : Int) ≤ n → XE n f x m = 0 ∨ ∃ j : Nat, j < m ∧ f (j : Int) = x ∧ XE n f x m ≤ bh n f (j : Int)
  | 0, _ => Or.inl rfl
  | m + 1, hm => by
    have ih := XE_law h hL m (by omega)
    have w := bp_W h (p := m) (by omega)
    rw [XE_step]
    by_cases c : f (m : Int) = x
    · rw [if_pos c]
      refine Or.inr ⟨m, by omega, c, ?_⟩
      rcases ih with q | ⟨j, j1, j2, j3⟩
      · omega
      · by_cases c2 : (m : Int) < bh n f (j : Int)
        · exact absurd c (hL j (by omega) j2 (m : Int) (by omega) c2)
        · omega
    · rw [if_neg c, Int.add_zero]
      rcases ih with q | ⟨j, j1, j2, j3⟩
      · exact Or.inl q
      · exact Or.inr ⟨j, by omega, j2, j3⟩
theorem XE_le {n : Int} {f : Int → Int} {x : Int} (h : WFT n f) (hL : LAW n f x) : XE n f x n.toNat ≤ n := by
  have n1 := WFT_pos h
  rcases XE_law h hL n.toNat (by omega) with q | ⟨j, j1, j2, j3⟩
  · omega
  · have w := bp_W h (p := j) (by omega)
    omega
