set_option maxRecDepth 100000 in
theorem xk_big {k : Nat} (h : 317 ≤ k) : xt_code k = [] := by
  obtain ⟨j, rfl⟩ : ∃ j, k = j + 317 := ⟨k - 317, by omega⟩
  first
    | rfl
    | (simp [xt_code]; done)
    | (unfold xt_code; split <;> first | rfl | omega)

