/-! the law's run at p1's N, from the picture at its entry -/
theorem xl_B (l : List Int32) (hl : l.length < 2 ^ 31) (h : ∀ x ∈ l, ¬ x < 0 ∧ x ≤ 127) : xs_B (l.map .int) := by
  refine ⟨by rw [List.length_map]; exact hl, fun j hj => ?_⟩
  rw [List.length_map] at hj
  obtain ⟨h1, h2⟩ := h l[j] (List.getElem_mem hj)
  obtain ⟨n, hn, e⟩ := nI_of2 (M := 127) (n := 127) rfl h1 h2
  refine ⟨n, by omega, ?_⟩
  rw [List.getElem?_map, List.getElem?_eq_getElem hj, ← e]
  rfl
theorem xl_go (z : Value) (hz : z = .null ∨ ∃ k, z = .ref k) (L : Nat) (xs : Nat → Int32) (hL : L ≤ 6) : xx_go (xt_P z) 8 0 0 [some (.ref 0), none, none, none] [] (xi_h0 L xs) (fun v h1 => v = some (.int 1) ∧ h1.length - (xi_h0 L xs).length ≤ 600000 ∧ xx_sz h1 - xx_sz (xi_h0 L xs) ≤ 7302250) := by
  have k1 : xs_B ((xi_byt.getD 0 []).map .int) := xl_B _ (by decide) (by decide)
  have k2 : xs_B ((xi_byt.getD 1 []).map .int) := xl_B _ (by decide) (by decide)
  have k3 : xs_B ((xi_byt.getD 2 []).map .int) := xl_B _ (by decide) (by decide)
  have kl : xs_B ((xi_byt.getD 3 []).map .int) := xl_B _ (by decide) (by decide)
  have hsp : xs_sp ((xi_byt.getD 0 []).map .int) + xs_sp ((xi_byt.getD 1 []).map .int) + xs_sp ((xi_byt.getD 2 []).map .int) ≤ 63 := by decide +kernel
  have hl0 : 0 < ((xi_byt.getD 3 []).map Value.int).length := by decide
  have hc : 11 ≤ (xi_h0 L xs).length := Nat.le_refl 11
  refine go_w (fun v h1 hq => ⟨hq.1, by have := hq.2.1; omega, by have := hq.2.2; omega⟩) (?_ : xx_go (xt_P z) (0 + 8) 0 0 [some (.ref 0), none, none, none] [] (xi_h0 L xs) (xl_Q (xi_h0 L xs)))
  by_cases h6 : L = 6
  · subst h6
    exact xl_law6 z hz 0 (xi_h0 6 xs) hc _ _ _ _ k1 k2 k3 kl hl0 ⟨rfl, rfl⟩ ⟨rfl, rfl⟩ ⟨rfl, rfl⟩ ⟨rfl, rfl⟩ hsp (xs 0) (xs 1) (xs 2) (xs 3) (xs 4) (xs 5) rfl
  · exact xl_law5 z hz 0 (xi_h0 L xs) hc _ _ _ _ k1 k2 k3 kl hl0 ⟨rfl, rfl⟩ ⟨rfl, rfl⟩ ⟨rfl, rfl⟩ ⟨rfl, rfl⟩ hsp _ rfl (by rw [List.length_map, List.length_range]; omega)
