/-! a first method over the executor: Row(int) -/
theorem xm_row_init (z : Value) (d r : Nat) (n : Int32) (h : xx_H) (hr : h[r]? = some (.inr (0, [.null, .int 0]))) (hn0 : 11 ≤ r) (hn : ¬ n < 1) (hn2 : n.toNatClampNeg * 8 ≤ 536870912) : xx_cl (xt_P z) (d + 1) 2 [.ref r, .int n] h (fun v h1 => v = none ∧ h1 = (h ++ [(Sum.inl (FieldType.int, List.replicate n.toNatClampNeg (Value.int 0)) : xx_E)]).set r (.inr (0, [.ref h.length, .int 0]))) := by
  refine cl_go rfl ?_
  show xx_go (xt_P z) d 2 0 [some (.ref r), some (.int n)] [] h _
  refine go_a (pc' := 1) (ls' := [some (.ref r), some (.int n)]) (st' := [.ref r]) rfl rfl ?_
  refine go_o (st' := []) rfl rfl rfl rfl ?_
  refine go_a (pc' := 5) (ls' := [some (.ref r), some (.int n)]) (st' := [.ref r]) rfl rfl ?_
  refine go_a (pc' := 6) (ls' := [some (.ref r), some (.int n)]) (st' := [.int n, .ref r]) rfl rfl ?_
  refine go_a (pc' := 7) (ls' := [some (.ref r), some (.int n)]) (st' := [.int 1, .int n, .ref r]) rfl rfl ?_
  refine go_o (st' := [.int n, .ref r]) rfl rfl rfl (by
    show some [Value.int (if n < 1 then 1 else n), .ref r] = _
    rw [if_neg hn]) ?_
  have hlt : ¬ n < 0 := fun q => hn (by
    rw [Int32.lt_iff_toInt_lt] at *
    have h1 : (1 : Int32).toInt = 1 := rfl
    have h0 : (0 : Int32).toInt = 0 := rfl
    omega)
  refine go_b (pc' := 12) (st' := [.ref h.length, .ref r]) (h' := h ++ [(Sum.inl (FieldType.int, List.replicate n.toNatClampNeg (Value.int 0)) : xx_E)]) rfl rfl (by
    show xb_newa .int 10 [.int n, .ref r] h = _
    unfold xb_newa
    dsimp only
    rw [decide_eq_true hlt, show Nat.ble (n.toNatClampNeg * 8) 536870912 = true from Nat.ble_eq_true_of_le hn2]
    rfl) ?_
  have hlen : r < h.length := (List.getElem?_eq_some_iff.mp hr).1
  refine go_b (pc' := 15) (st' := []) (h' := (h ++ [(Sum.inl (FieldType.int, List.replicate n.toNatClampNeg (Value.int 0)) : xx_E)]).set r (.inr (0, [.ref h.length, .int 0]))) rfl rfl (by
    show xb_put (xt_P z) 2 2 13 12 [.ref h.length, .ref r] _ = _
    unfold xb_put
    dsimp only
    rw [List.getElem?_append_left hlen, hr]
    dsimp only
    rw [show xp_fld (xt_P z) 2 13 0 = some 0 from rfl]
    dsimp only
    rw [show xp_fty (xt_P z) 0 0 = some (.array .int, none) from rfl]
    dsimp only
    rw [show Nat.ble (xp_n0 (xt_P z)) r = true from Nat.ble_eq_true_of_le hn0]
    rfl) ?_
  exact go_r rfl rfl rfl rfl rfl rfl ⟨rfl, rfl⟩
