/-! Teller, Terms, Paths, Prover, Reader: their constructors -/
/-- Paths(Terms) -/
theorem xm_paths (z : Value) (d : Nat) (t : Nat) (h : xx_H) (hc : 11 ≤ h.length) : xx_cl (xt_P z) (d + 1) 30 [.ref h.length, .ref t] (h ++ [.inr (7, [.null])]) (fun w h1 => w = none ∧ h1 = h ++ [.inr (7, [.ref t])]) := by
  refine cl_go rfl ?_
  show xx_go (xt_P z) (d + 0) 30 0 [some (.ref h.length), some (.ref t)] [] (h ++ ([.inr (7, [.null])] : xx_H)) _
  refine go_a (pc' := 1) (ls' := [some (.ref h.length), some (.ref t)]) (st' := [(.ref h.length)]) rfl rfl ?_
  refine go_o (st' := []) rfl rfl rfl rfl ?_
  refine go_a (pc' := 5) (ls' := [some (.ref h.length), some (.ref t)]) (st' := [(.ref h.length)]) rfl rfl ?_
  refine go_a (pc' := 6) (ls' := [some (.ref h.length), some (.ref t)]) (st' := [(.ref t), (.ref h.length)]) rfl rfl ?_
  refine go_put (j := 0) rfl xq_get0 rfl rfl hc (Nat.lt_of_sub_pos (by simp)) rfl rfl ?_
  rw [xq_set0]
  show xx_go (xt_P z) (d + 0) 30 9 [some (.ref h.length), some (.ref t)] [] (h ++ ([.inr (7, [.ref t])] : xx_H)) _
  exact go_r rfl rfl rfl rfl rfl rfl ⟨rfl, rfl⟩
