def GG (d : Int) : Int := 502 + 29 * d
def KK (d n s v : Int) : Int := if n ≤ 1 then 502 else if n = 2 then (if s ≤ 3 then min 508 (GG d) else if s ≤ 20 then min 620 (GG d) else min 1134 (GG d)) else if 39 ≤ d then 3000 else if s ≤ 130 then (if s ≤ 20 ∨ n = 3 then min 1134 (GG d) else min 1250 (GG d)) else if n = 3 then (if 38 ≤ d then 1510 else if s ≤ 300 ∨ v = 0 then min 1436 (GG d) else min 1510 (GG d + 45)) else if s ≤ 300 ∨ v = 0 then GG d else GG d + 123
theorem KK_c {d n s v : Int} : ((n ≤ 1) ∧ KK d n s v = 502) ∨ ((n = 2 ∧ s ≤ 3) ∧ KK d n s v = min 508 (502 + 29 * d)) ∨ ((n = 2 ∧ 3 < s ∧ s ≤ 20) ∧ KK d n s v = min 620 (502 + 29 * d)) ∨ ((n = 2 ∧ 20 < s) ∧ KK d n s v = min 1134 (502 + 29 * d)) ∨ ((3 ≤ n ∧ 39 ≤ d) ∧ KK d n s v = 3000) ∨ ((3 ≤ n ∧ d < 39 ∧ s ≤ 130 ∧ (s ≤ 20 ∨ n = 3)) ∧ KK d n s v = min 1134 (502 + 29 * d)) ∨ ((4 ≤ n ∧ d < 39 ∧ 20 < s ∧ s ≤ 130) ∧ KK d n s v = min 1250 (502 + 29 * d)) ∨ ((n = 3 ∧ d = 38 ∧ 130 < s) ∧ KK d n s v = 1510) ∨ ((n = 3 ∧ d < 38 ∧ 130 < s ∧ (s ≤ 300 ∨ v = 0)) ∧ KK d n s v = min 1436 (502 + 29 * d)) ∨ ((n = 3 ∧ d < 38 ∧ 300 < s ∧ v ≠ 0) ∧ KK d n s v = min 1510 (547 + 29 * d)) ∨ ((4 ≤ n ∧ d < 39 ∧ 130 < s ∧ (s ≤ 300 ∨ v = 0)) ∧ KK d n s v = 502 + 29 * d) ∨ ((4 ≤ n ∧ d < 39 ∧ 300 < s ∧ v ≠ 0) ∧ KK d n s v = 625 + 29 * d) := by
  unfold KK GG
  by_cases c1 : n ≤ 1
  · rw [if_pos c1]
    exact Or.inl ⟨c1, rfl⟩
  rw [if_neg c1]
  by_cases c2 : n = 2
  · rw [if_pos c2]
    by_cases c3 : s ≤ 3
    · rw [if_pos c3]
      exact Or.inr (Or.inl ⟨⟨c2, c3⟩, rfl⟩)
    rw [if_neg c3]
    by_cases c4 : s ≤ 20
    · rw [if_pos c4]
      exact Or.inr (Or.inr (Or.inl ⟨⟨c2, by omega, c4⟩, rfl⟩))
    · rw [if_neg c4]
      exact Or.inr (Or.inr (Or.inr (Or.inl ⟨⟨c2, by omega⟩, rfl⟩)))
  rw [if_neg c2]
  have n3 : 3 ≤ n := by omega
  by_cases c3 : 39 ≤ d
  · rw [if_pos c3]
    exact Or.inr (Or.inr (Or.inr (Or.inr (Or.inl ⟨⟨n3, c3⟩, rfl⟩))))
  rw [if_neg c3]
  have d9 := Int.not_le.mp c3
  by_cases c4 : s ≤ 130
  · rw [if_pos c4]
    by_cases c5 : s ≤ 20 ∨ n = 3
    · rw [if_pos c5]
      exact Or.inr (Or.inr (Or.inr (Or.inr (Or.inr (Or.inl ⟨⟨n3, d9, c4, c5⟩, rfl⟩)))))
    · rw [if_neg c5]
      exact Or.inr (Or.inr (Or.inr (Or.inr (Or.inr (Or.inr (Or.inl ⟨⟨by omega, d9, by omega, c4⟩, rfl⟩))))))
  rw [if_neg c4]
  have s9 := Int.not_le.mp c4
  by_cases c5 : n = 3
  · rw [if_pos c5]
    by_cases c6 : 38 ≤ d
    · rw [if_pos c6]
      exact Or.inr (Or.inr (Or.inr (Or.inr (Or.inr (Or.inr (Or.inr (Or.inl ⟨⟨c5, by omega, s9⟩, rfl⟩)))))))
    rw [if_neg c6]
    have d8 := Int.not_le.mp c6
    by_cases c7 : s ≤ 300 ∨ v = 0
    · rw [if_pos c7]
      exact Or.inr (Or.inr (Or.inr (Or.inr (Or.inr (Or.inr (Or.inr (Or.inr (Or.inl ⟨⟨c5, d8, s9, c7⟩, rfl⟩))))))))
    · rw [if_neg c7]
      exact Or.inr (Or.inr (Or.inr (Or.inr (Or.inr (Or.inr (Or.inr (Or.inr (Or.inr (Or.inl ⟨⟨c5, d8, by omega, fun q => c7 (Or.inr q)⟩, by omega⟩)))))))))
  rw [if_neg c5]
  by_cases c7 : s ≤ 300 ∨ v = 0
  · rw [if_pos c7]
    exact Or.inr (Or.inr (Or.inr (Or.inr (Or.inr (Or.inr (Or.inr (Or.inr (Or.inr (Or.inr (Or.inl ⟨⟨by omega, d9, s9, c7⟩, rfl⟩))))))))))
  · rw [if_neg c7]
    exact Or.inr (Or.inr (Or.inr (Or.inr (Or.inr (Or.inr (Or.inr (Or.inr (Or.inr (Or.inr (Or.inr (⟨⟨by omega, d9, by omega, fun q => c7 (Or.inr q)⟩, by omega⟩)))))))))))
theorem KK_ge {d n s v : Int} (h : 0 ≤ d) (h2 : 0 ≤ s) : 502 ≤ KK d n s v := by
  have := KK_c (d := d) (n := n) (s := s) (v := v)
  omega
theorem KK_l {d n s v : Int} (h : 0 ≤ d) : (n ≤ 1 ∧ KK d n s v = 502) ∨ (n = 2 ∧ s ≤ 3 ∧ min 508 (502 + 29 * d) ≤ KK d n s v) ∨ (n = 2 ∧ 3 < s ∧ s ≤ 20 ∧ min 620 (502 + 29 * d) ≤ KK d n s v) ∨ (n = 2 ∧ 20 < s ∧ min 1134 (502 + 29 * d) ≤ KK d n s v) ∨ (3 ≤ n ∧ s ≤ 130 ∧ min 1134 (502 + 29 * d) ≤ KK d n s v) ∨ (n = 3 ∧ 130 < s ∧ min 1436 (502 + 29 * d) ≤ KK d n s v ∧ (38 ≤ d → 1510 ≤ KK d n s v)) ∨ (4 ≤ n ∧ 130 < s ∧ (502 + 29 * d ≤ KK d n s v ∨ 3000 ≤ KK d n s v)) := by
  rcases KK_c (d := d) (n := n) (s := s) (v := v) with k | k | k | k | k | k | k | k | k | k | k | k <;> omega
theorem KK_u {d n s v : Int} (h : 0 ≤ d) (h2 : d ≤ 38) : (n ≤ 1 ∧ KK d n s v = 502) ∨ (n = 2 ∧ KK d n s v ≤ 1134 ∧ KK d n s v ≤ 502 + 29 * d) ∨ (3 ≤ n ∧ s ≤ 130 ∧ KK d n s v ≤ 1250 ∧ KK d n s v ≤ 502 + 29 * d) ∨ (n = 3 ∧ 130 < s ∧ KK d n s v ≤ 1510 ∧ KK d n s v ≤ 547 + 29 * d) ∨ (4 ≤ n ∧ 130 < s ∧ KK d n s v ≤ 625 + 29 * d) := by
  rcases KK_c (d := d) (n := n) (s := s) (v := v) with k | k | k | k | k | k | k | k | k | k | k | k <;> omega
theorem KK_inst {d n s v n2 s2 v2 x : Int} (d0 : 0 ≤ d) (d1 : d ≤ 38) (h1 : n2 ≤ n) (h2 : 0 ≤ s) (h3 : s ≤ 400) (h5 : s ≤ 120 * n) (h4 : x ≥ 896) : KK d n2 s2 v2 ≤ KK (d + 1) n s v + x - 2 * (s - n) := by
  have k0 := KK_c (d := d) (n := n2) (s := s2) (v := v2)
  have k1 := KK_c (d := d + 1) (n := n) (s := s) (v := v)
  rcases k0 with k0 | k0 | k0 | k0 | k0 | k0 | k0 | k0 | k0 | k0 | k0 | k0 <;> rcases k1 with k1 | k1 | k1 | k1 | k1 | k1 | k1 | k1 | k1 | k1 | k1 | k1 <;> omega
theorem KK_instq {d n s v n2 s2 x : Int} (d0 : 0 ≤ d) (d1 : d ≤ 38) (h1 : n2 ≤ n) (h2 : 0 ≤ s) (h3 : s ≤ 400) (h5 : s ≤ 120 * n) (h6 : s2 ≤ 400) (h7 : v ≠ 0) (h4 : x ≥ 640) : KK d n2 s2 0 ≤ KK (d + 1) n s v + x - 2 * (s - n) := by
  have k0 := KK_c (d := d) (n := n2) (s := s2) (v := 0)
  have k1 := KK_c (d := d + 1) (n := n) (s := s) (v := v)
  rcases k0 with k0 | k0 | k0 | k0 | k0 | k0 | k0 | k0 | k0 | k0 | k0 | k0 <;> rcases k1 with k1 | k1 | k1 | k1 | k1 | k1 | k1 | k1 | k1 | k1 | k1 | k1 <;> omega
theorem KK_instv {d n s v n2 s2 v2 x : Int} (d0 : 0 ≤ d) (d1 : d ≤ 38) (h1 : n2 ≤ n) (h2 : 0 ≤ s) (h3 : s ≤ 400) (h5 : s ≤ 120 * n) (h7 : v ≠ 0) (h4 : x ≥ 838) : KK d n2 s2 v2 ≤ KK (d + 1) n s v + x - 2 * (s - n) := by
  have k0 := KK_c (d := d) (n := n2) (s := s2) (v := v2)
  have k1 := KK_c (d := d + 1) (n := n) (s := s) (v := v)
  rcases k0 with k0 | k0 | k0 | k0 | k0 | k0 | k0 | k0 | k0 | k0 | k0 | k0 <;> rcases k1 with k1 | k1 | k1 | k1 | k1 | k1 | k1 | k1 | k1 | k1 | k1 | k1 <;> omega
theorem KK_id {d n s v n2 s2 v2 x : Int} (d0 : 0 ≤ d) (d1 : d ≤ 38) (h1 : n2 ≤ n) (h2 : 0 ≤ s) (h3 : s2 ≤ s) (h4 : x ≥ 381) : KK d n2 s2 v2 ≤ KK (d + 1) n s v + x := by
  have k0 := KK_c (d := d) (n := n2) (s := s2) (v := v2)
  have k1 := KK_c (d := d + 1) (n := n) (s := s) (v := v)
  rcases k0 with k0 | k0 | k0 | k0 | k0 | k0 | k0 | k0 | k0 | k0 | k0 | k0 <;> rcases k1 with k1 | k1 | k1 | k1 | k1 | k1 | k1 | k1 | k1 | k1 | k1 | k1 <;> omega
theorem KK_weak {d n s v n2 s2 v2 wd vd : Int} (d0 : 0 ≤ d) (d1 : d ≤ 38) (h1 : n2 ≤ n + vd) (h2 : 0 ≤ s) (h3 : s2 ≤ s + vd) (h5 : s ≤ 120 * n) (h4 : 1 ≤ wd) (h6 : 0 ≤ vd) (h7 : vd ≤ wd) (h8 : vd = 0 ∨ 2 ≤ wd) : KK d n2 s2 v2 ≤ KK (d + 1) n s v + 128 * (3 + wd) - 4 * vd := by
  have k0 := KK_c (d := d) (n := n2) (s := s2) (v := v2)
  have k1 := KK_c (d := d + 1) (n := n) (s := s) (v := v)
  rcases k0 with k0 | k0 | k0 | k0 | k0 | k0 | k0 | k0 | k0 | k0 | k0 | k0 <;> rcases k1 with k1 | k1 | k1 | k1 | k1 | k1 | k1 | k1 | k1 | k1 | k1 | k1 <;> omega
theorem KK_cut {d n s v m t u n2 s2 v2 x : Int} (d0 : 0 ≤ d) (d1 : d ≤ 38) (h1 : n2 ≤ n + m) (h2 : 0 ≤ s) (h3 : 0 ≤ t) (h4 : s2 ≤ s + t) (h5 : s ≤ 120 * n) (h6 : t ≤ 120 * m) (h7 : 0 ≤ n) (h8 : 0 ≤ m) (h9 : x ≥ 510) : KK d n2 s2 v2 ≤ KK (d + 1) n s v + KK (d + 1) m t u + x := by
  have k9 := KK_u (d := d) (n := n2) (s := s2) (v := v2) d0 d1
  have k0 := KK_l (d := d + 1) (n := n) (s := s) (v := v) (by omega)
  have k1 := KK_l (d := d + 1) (n := m) (s := t) (v := u) (by omega)
  rcases k0 with k0 | k0 | k0 | k0 | k0 | k0 | k0 <;> rcases k1 with k1 | k1 | k1 | k1 | k1 | k1 | k1 <;> rcases k9 with k9 | k9 | k9 | k9 | k9 <;> omega
theorem KK_put {d n s v m t u n2 s2 v2 : Int} (d0 : 0 ≤ d) (d1 : d ≤ 38) (h1 : n2 ≤ n + m - 1) (h2 : n + 2 ≤ s) (h3 : m ≤ t) (h4 : t ≤ 400) (h5 : t ≤ 120 * m) (h6 : 1 ≤ n) : KK d n2 s2 v2 ≤ KK (d + 1) n s v + KK (d + 1) m t u + 384 - 2 * (t - m) := by
  have k9 := KK_u (d := d) (n := n2) (s := s2) (v := v2) d0 d1
  have k0 := KK_l (d := d + 1) (n := n) (s := s) (v := v) (by omega)
  have k1 := KK_l (d := d + 1) (n := m) (s := t) (v := u) (by omega)
  rcases k0 with k0 | k0 | k0 | k0 | k0 | k0 | k0 <;> rcases k1 with k1 | k1 | k1 | k1 | k1 | k1 | k1 <;> rcases k9 with k9 | k9 | k9 | k9 | k9 <;> omega
theorem KK_two {d n s v w x : Int} (d0 : 0 ≤ d) (h1 : n ≤ 2) (h2 : s ≤ 2 * w + 3) (h3 : 3 ≤ w) (h4 : x ≥ 128 * (3 + w) - 4 * w - 3) : KK d n s v ≤ x := by
  have k0 := KK_c (d := d) (n := n) (s := s) (v := v)
  rcases k0 with k0 | k0 | k0 | k0 | k0 | k0 | k0 | k0 | k0 | k0 | k0 | k0 <;> omega
theorem KK_taut {d n s v w x : Int} (d0 : 0 ≤ d) (h1 : n ≤ 2) (h2 : s ≤ 2 * w + 1) (h3 : 1 ≤ w) (h4 : x ≥ 128 * (3 + w) - 4 * w + 2) : KK d n s v ≤ x := by
  have k0 := KK_c (d := d) (n := n) (s := s) (v := v)
  rcases k0 with k0 | k0 | k0 | k0 | k0 | k0 | k0 | k0 | k0 | k0 | k0 | k0 <;> omega
theorem KK_one {d n s v x : Int} (h1 : n ≤ 1) (h4 : x ≥ 502) : KK d n s v ≤ x := by
  have k0 := KK_c (d := d) (n := n) (s := s) (v := v)
  rcases k0 with k0 | k0 | k0 | k0 | k0 | k0 | k0 | k0 | k0 | k0 | k0 | k0 <;> omega

