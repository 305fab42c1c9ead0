theorem xi_OC (L : Nat) (xs : Nat → Int32) : OC (xi_h0 L xs) := by
  have e0 : iI 0 = (0 : Int32) := by decide
  have e1 : (xi_byt.getD 3 []).map Value.int = ltB := by decide +kernel
  have e2 : xi_tk.map Value.int = xa_f 14 tkF := by decide +kernel
  refine ⟨?_, ?_, ?_, rfl⟩
  · rw [e0]
    rfl
  · rw [← e1]
    rfl
  · rw [← e2]
    rfl
theorem xi_S1 (L : Nat) (xs : Nat → Int32) : STR (xi_h0 L xs) 1 2 nmI1 := by
  have e0 : iI 0 = (0 : Int32) := by decide
  have e1 : (xi_byt.getD 0 []).map Value.int = nmI1.map (fun w => Value.int (iI w)) := by decide +kernel
  refine ⟨?_, ?_, by decide +kernel, by decide +kernel⟩
  · rw [e0]
    rfl
  · rw [← e1]
    rfl
theorem xi_S2 (L : Nat) (xs : Nat → Int32) : STR (xi_h0 L xs) 3 4 nmI2 := by
  have e0 : iI 0 = (0 : Int32) := by decide
  have e1 : (xi_byt.getD 1 []).map Value.int = nmI2.map (fun w => Value.int (iI w)) := by decide +kernel
  refine ⟨?_, ?_, by decide +kernel, by decide +kernel⟩
  · rw [e0]
    rfl
  · rw [← e1]
    rfl
theorem xi_S3 (L : Nat) (xs : Nat → Int32) : STR (xi_h0 L xs) 5 6 nmI3 := by
  have e0 : iI 0 = (0 : Int32) := by decide
  have e1 : (xi_byt.getD 2 []).map Value.int = nmI3.map (fun w => Value.int (iI w)) := by decide +kernel
  refine ⟨?_, ?_, by decide +kernel, by decide +kernel⟩
  · rw [e0]
    rfl
  · rw [← e1]
    rfl
theorem xi_go (z : Value) (hz : z = .null ∨ ∃ k, z = .ref k) (L : Nat) (xs : Nat → Int32) (hL : L ≤ 3072) : xx_go (xt_P z) 93 0 0 [some (.ref 0), none, none, none] [] (xi_h0 L xs) (fun v h1 => v = some (.int 1) ∧ h1.length - (xi_h0 L xs).length ≤ 600000 ∧ xx_sz h1 - xx_sz (xi_h0 L xs) ≤ 7302250) := by
  have ev : (List.range L).map (fun j => Value.int (xs j)) = xa_f (L : Int).toNat (fun k => (xs k.toNat).toInt) := by
    show _ = (List.range (L : Int).toNat).map (fun i : Nat => Value.int (iI ((xs ((i : Int).toNat)).toInt)))
    rw [Int.toNat_natCast]
    refine List.map_congr_left (fun j _ => ?_)
    rw [Int.toNat_natCast, ← iI_of]
  refine kw_go z hz 0 (xi_h0 L xs) L (fun k => (xs k.toNat).toInt) (by show 12 ≤ 12; decide) (xi_OC L xs) (xi_S1 L xs) (xi_S2 L xs) (xi_S3 L xs) ?_ (by omega) (by omega) (fun e => ?_)
  · rw [← ev]
    rfl
  · have h1 := Int32.toInt_lt (xs e.toNat)
    have h2 := Int32.le_toInt (xs e.toNat)
    omega

