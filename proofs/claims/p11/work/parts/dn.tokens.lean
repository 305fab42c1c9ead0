theorem shr_i {x : Int} (x0 : -2147483648 ≤ x) (x1 : x ≤ 2147483647) (n : Int32) (m : Nat) (hm : (n &&& 31).toBitVec.smod 32 = BitVec.ofNat 32 m) (hm2 : m < 32) : iI x >>> (n &&& 31) = iI (x / (2 ^ m : Nat)) := by
  apply Int32.toInt_inj.mp
  have p : (1 : Int) ≤ ((2 ^ m : Nat) : Int) := by
    have : 0 < 2 ^ m := Nat.pow_pos (by decide)
    omega
  have lo : -2147483648 ≤ x / ((2 ^ m : Nat) : Int) := by
    rw [Int.le_ediv_iff_mul_le (by omega)]
    have := Int.mul_le_mul_of_nonpos_left (a := -2147483648) (b := ((2 ^ m : Nat) : Int)) (c := 1) (by decide) p
    omega
  have hi : x / ((2 ^ m : Nat) : Int) < 2147483648 := by
    rw [Int.ediv_lt_iff_lt_mul (by omega)]
    have := Int.mul_le_mul_of_nonneg_left p (show (0 : Int) ≤ 2147483648 by decide)
    omega
  rw [iI_toInt lo hi]
  show ((iI x) >>> (n &&& 31)).toBitVec.toInt = _
  rw [Int32.toBitVec_shiftRight, hm, BitVec.sshiftRight_eq', BitVec.toInt_sshiftRight, Int.shiftRight_eq_div_pow, BitVec.toNat_ofNat, Nat.mod_eq_of_lt (Nat.lt_of_lt_of_le hm2 (by decide))]
  show (iI x).toInt / _ = _
  rw [iI_toInt x0 (by omega)]
theorem shr5 {x : Int} (x0 : -2147483648 ≤ x) (x1 : x ≤ 2147483647) : iI x >>> (iI 5 &&& 31) = iI (x / 32) := shr_i x0 x1 (iI 5) 5 (by decide) (by decide)
theorem shr2 {x : Int} (x0 : -2147483648 ≤ x) (x1 : x ≤ 2147483647) : iI x >>> (iI 2 &&& 31) = iI (x / 4) := shr_i x0 x1 (iI 2) 2 (by decide) (by decide)
theorem and3 (x : Int) : iI x &&& iI 3 = iI (x % 4) := by
  apply i_eq
  have m : (iI 3).toBitVec.toNat = 2 ^ 2 - 1 := by decide
  rw [Int32.toBitVec_and, BitVec.toNat_and, m, Nat.and_two_pow_sub_one_eq_mod, i_nat, i_nat]
  omega
theorem and7 (x : Int) : iI x &&& iI 7 = iI (x % 8) := by
  apply i_eq
  have m : (iI 7).toBitVec.toNat = 2 ^ 3 - 1 := by decide
  rw [Int32.toBitVec_and, BitVec.toNat_and, m, Nat.and_two_pow_sub_one_eq_mod, i_nat, i_nat]
  omega
theorem shl_i (x : Int) (n : Int32) (m : Nat) (hm : (n &&& 31).toBitVec.smod 32 = BitVec.ofNat 32 m) (hm2 : m < 32) : iI x <<< (n &&& 31) = iI (x * (2 ^ m : Nat)) := by
  apply i_eq
  rw [Int32.toBitVec_shiftLeft, hm, BitVec.shiftLeft_eq', BitVec.toNat_shiftLeft, BitVec.toNat_ofNat, Nat.mod_eq_of_lt (Nat.lt_of_lt_of_le hm2 (by decide)), i_nat, i_nat, Nat.shiftLeft_eq]
  have e : ((x % 4294967296).toNat : Int) = x % 4294967296 := by omega
  have g : (((x % 4294967296).toNat * 2 ^ m % 4294967296 : Nat) : Int) = ((x * ((2 ^ m : Nat) : Int)) % 4294967296) := by
    rw [Int.natCast_emod, Int.natCast_mul, e]
    show x % 4294967296 * ((2 ^ m : Nat) : Int) % 4294967296 = _
    rw [Int.mul_emod, Int.emod_emod_of_dvd _ (Int.dvd_refl _), ← Int.mul_emod]
  have g2 : 2 ^ 32 = 4294967296 := by decide
  rw [g2]
  omega
theorem shl5 (x : Int) : iI x <<< (iI 5 &&& 31) = iI (x * 32) := shl_i x (iI 5) 5 (by decide) (by decide)
theorem shl2 (x : Int) : iI x <<< (iI 2 &&& 31) = iI (x * 4) := shl_i x (iI 2) 2 (by decide) (by decide)
theorem or_i {x y : Int} {m : Nat} (x0 : 0 ≤ x) (x1 : x * (2 ^ m : Nat) < 4294967296) (y0 : 0 ≤ y) (y1 : y < (2 ^ m : Nat)) (y2 : y < 4294967296) : iI (x * (2 ^ m : Nat)) ||| iI y = iI (x * (2 ^ m : Nat) + y) := by
  apply i_eq
  have p : (0 : Int) ≤ x * ((2 ^ m : Nat) : Int) := Int.mul_nonneg x0 (by omega)
  rw [Int32.toBitVec_or, BitVec.toNat_or, i_nat, i_nat, i_nat]
  have e1 : (x * ((2 ^ m : Nat) : Int) % 4294967296).toNat = 2 ^ m * x.toNat := by
    have q : (x * ((2 ^ m : Nat) : Int)).toNat = 2 ^ m * x.toNat := by
      rw [Nat.mul_comm]
      have : ((x.toNat * 2 ^ m : Nat) : Int) = x * ((2 ^ m : Nat) : Int) := by
        rw [Int.natCast_mul, show ((x.toNat : Nat) : Int) = x by omega]
      omega
    rw [← q]
    omega
  have e2 : (y % 4294967296).toNat = y.toNat := by omega
  rw [e1, e2, ← Nat.two_pow_add_eq_or_of_lt (i := m) (b := y.toNat) (by omega)]
  have s1 : x * ((2 ^ m : Nat) : Int) + y < 4294967296 ∨ 4294967296 ≤ x * ((2 ^ m : Nat) : Int) + y := by omega
  rcases s1 with s1 | s1
  · have e3 : ((x * ((2 ^ m : Nat) : Int) + y) % 4294967296).toNat = (x * ((2 ^ m : Nat) : Int) + y).toNat := by omega
    have q : (x * ((2 ^ m : Nat) : Int)).toNat = 2 ^ m * x.toNat := by omega
    omega
  · exfalso
    have dv : (2 ^ m : Nat) ∣ 4294967296 ∨ 4294967296 < 2 ^ m := by
      by_cases w : m ≤ 32
      · exact Or.inl (show 2 ^ m ∣ 2 ^ 32 from Nat.pow_dvd_pow 2 w)
      · exact Or.inr (show 2 ^ 32 < 2 ^ m from Nat.pow_lt_pow_right (by decide) (by omega))
    rcases dv with ⟨t, ht⟩ | dv
    · have q1 : x < t := by
        have : x * ((2 ^ m : Nat) : Int) < (t : Int) * ((2 ^ m : Nat) : Int) := by
          have : ((2 ^ m * t : Nat) : Int) = 4294967296 := by rw [← ht]; rfl
          rw [Int.natCast_mul] at this
          rw [Int.mul_comm (t : Int)]
          omega
        exact Int.lt_of_mul_lt_mul_right this (by omega)
      have q2 : (x + 1) * ((2 ^ m : Nat) : Int) ≤ (t : Int) * ((2 ^ m : Nat) : Int) := Int.mul_le_mul_of_nonneg_right (by omega) (by omega)
      have q3 : (t : Int) * ((2 ^ m : Nat) : Int) = 4294967296 := by
        have : ((2 ^ m * t : Nat) : Int) = 4294967296 := by rw [← ht]; rfl
        rw [Int.natCast_mul] at this
        rw [Int.mul_comm]
        exact this
      rw [Int.add_mul] at q2
      omega
    · have q1 : x = 0 := by
        by_cases w : 1 ≤ x
        · have := Int.mul_le_mul_of_nonneg_right w (show (0 : Int) ≤ ((2 ^ m : Nat) : Int) by omega)
          omega
        · omega
      rw [q1] at s1
      omega
theorem or5 {x y : Int} (x0 : 0 ≤ x) (x1 : x < 67108864) (y0 : 0 ≤ y) (y1 : y < 32) : iI (x * 32) ||| iI y = iI (x * 32 + y) := or_i (m := 5) x0 (show x * 32 < 4294967296 by omega) y0 y1 (by omega)
theorem or2 {x y : Int} (x0 : 0 ≤ x) (x1 : x < 1073741824) (y0 : 0 ≤ y) (y1 : y < 4) : iI (x * 4) ||| iI y = iI (x * 4 + y) := or_i (m := 2) x0 (show x * 4 < 4294967296 by omega) y0 y1 (by omega)
theorem kg_variable (z : Value) (d : Nat) (w : Int) (hp : xx_H) (w0 : 0 ≤ w) (w1 : w < 67108864) : xx_cl (xt_P z) (d + 1) 204 [.int (iI w)] hp (fun v h1 => v = some (.int (iI (w * 32))) ∧ h1 = hp) := by
  refine cl_go rfl ?_
  show xx_go (xt_P z) d 204 0 [some (.int (iI w))] [] hp _
  refine go_a (pc' := 1) (ls' := [some (.int (iI w))]) (st' := [.int (iI w)]) rfl rfl ?_
  refine go_a (pc' := 2) (ls' := [some (.int (iI w))]) (st' := [.int (iI 5), .int (iI w)]) rfl rfl ?_
  refine go_a (pc' := 3) (ls' := [some (.int (iI w))]) (st' := [.int (iI (w * 32))]) rfl (by rw [← shl5 w]; rfl) ?_
  refine go_a (pc' := 4) (ls' := [some (.int (iI w))]) (st' := [.int (iI 0), .int (iI (w * 32))]) rfl rfl ?_
  refine go_a (pc' := 5) (ls' := [some (.int (iI w))]) (st' := [.int (iI (w * 32 + 0))]) rfl (by rw [← or5 (x := w) (y := 0) w0 w1 (by decide) (by decide)]; rfl) ?_
  rw [show w * 32 + 0 = w * 32 by omega]
  exact go_r rfl rfl rfl rfl rfl rfl ⟨rfl, rfl⟩
theorem kg_constant (z : Value) (d : Nat) (w : Int) (hp : xx_H) (w0 : 0 ≤ w) (w1 : w < 67108864) : xx_cl (xt_P z) (d + 1) 213 [.int (iI w)] hp (fun v h1 => v = some (.int (iI (w * 32 + 1))) ∧ h1 = hp) := by
  refine cl_go rfl ?_
  show xx_go (xt_P z) d 213 0 [some (.int (iI w))] [] hp _
  refine go_a (pc' := 1) (ls' := [some (.int (iI w))]) (st' := [.int (iI w)]) rfl rfl ?_
  refine go_a (pc' := 2) (ls' := [some (.int (iI w))]) (st' := [.int (iI 5), .int (iI w)]) rfl rfl ?_
  refine go_a (pc' := 3) (ls' := [some (.int (iI w))]) (st' := [.int (iI (w * 32))]) rfl (by rw [← shl5 w]; rfl) ?_
  refine go_a (pc' := 4) (ls' := [some (.int (iI w))]) (st' := [.int (iI 1), .int (iI (w * 32))]) rfl rfl ?_
  refine go_a (pc' := 5) (ls' := [some (.int (iI w))]) (st' := [.int (iI (w * 32 + 1))]) rfl (by rw [← or5 (x := w) (y := 1) w0 w1 (by decide) (by decide)]; rfl) ?_
  exact go_r rfl rfl rfl rfl rfl rfl ⟨rfl, rfl⟩
theorem kg_call (z : Value) (d : Nat) (w t : Int) (hp : xx_H) (w0 : 0 ≤ w) (w1 : w < 67108864) (t0 : 0 ≤ t) (t1 : t ≤ 7) : xx_cl (xt_P z) (d + 1) 209 [.int (iI w), .int (iI t)] hp (fun v h1 => v = some (.int (iI (w * 32 + t * 4 + 2))) ∧ h1 = hp) := by
  refine cl_go rfl ?_
  show xx_go (xt_P z) d 209 0 [some (.int (iI w)), some (.int (iI t))] [] hp _
  refine go_a (pc' := 1) (ls' := [some (.int (iI w)), some (.int (iI t))]) (st' := [.int (iI w)]) rfl rfl ?_
  refine go_a (pc' := 2) (ls' := [some (.int (iI w)), some (.int (iI t))]) (st' := [.int (iI 5), .int (iI w)]) rfl rfl ?_
  refine go_a (pc' := 3) (ls' := [some (.int (iI w)), some (.int (iI t))]) (st' := [.int (iI (w * 32))]) rfl (by rw [← shl5 w]; rfl) ?_
  refine go_a (pc' := 4) (ls' := [some (.int (iI w)), some (.int (iI t))]) (st' := [.int (iI t), .int (iI (w * 32))]) rfl rfl ?_
  refine go_a (pc' := 5) (ls' := [some (.int (iI w)), some (.int (iI t))]) (st' := [.int (iI 2), .int (iI t), .int (iI (w * 32))]) rfl rfl ?_
  refine go_a (pc' := 6) (ls' := [some (.int (iI w)), some (.int (iI t))]) (st' := [.int (iI (t * 4)), .int (iI (w * 32))]) rfl (by rw [← shl2 t]; rfl) ?_
  refine go_a (pc' := 7) (ls' := [some (.int (iI w)), some (.int (iI t))]) (st' := [.int (iI (w * 32 + t * 4))]) rfl (by rw [← or5 (x := w) (y := t * 4) w0 w1 (by omega) (by omega)]; rfl) ?_
  refine go_a (pc' := 8) (ls' := [some (.int (iI w)), some (.int (iI t))]) (st' := [.int (iI 2), .int (iI (w * 32 + t * 4))]) rfl rfl ?_
  refine go_a (pc' := 9) (ls' := [some (.int (iI w)), some (.int (iI t))]) (st' := [.int (iI (w * 32 + t * 4 + 2))]) rfl (by rw [show w * 32 + t * 4 = (w * 8 + t) * 4 by omega, ← or2 (x := w * 8 + t) (y := 2) (by omega) (by omega) (by decide) (by decide)]; rfl) ?_
  exact go_r rfl rfl rfl rfl rfl rfl ⟨rfl, rfl⟩
theorem kg_takes (z : Value) (d : Nat) (x : Int) (hp : xx_H) (x0 : -2147483648 ≤ x) (x1 : x ≤ 2147483647) : xx_cl (xt_P z) (d + 1) 221 [.int (iI x)] hp (fun v h1 => v = some (.int (iI (x / 4 % 8))) ∧ h1 = hp) := by
  refine cl_go rfl ?_
  show xx_go (xt_P z) d 221 0 [some (.int (iI x))] [] hp _
  refine go_a (pc' := 1) (ls' := [some (.int (iI x))]) (st' := [.int (iI x)]) rfl rfl ?_
  refine go_a (pc' := 2) (ls' := [some (.int (iI x))]) (st' := [.int (iI 2), .int (iI x)]) rfl rfl ?_
  refine go_a (pc' := 3) (ls' := [some (.int (iI x))]) (st' := [.int (iI (x / 4))]) rfl (by rw [← shr2 x0 x1]; rfl) ?_
  refine go_a (pc' := 5) (ls' := [some (.int (iI x))]) (st' := [.int (iI 7), .int (iI (x / 4))]) rfl rfl ?_
  refine go_a (pc' := 6) (ls' := [some (.int (iI x))]) (st' := [.int (iI (x / 4 % 8))]) rfl (by rw [← and7]; rfl) ?_
  exact go_r rfl rfl rfl rfl rfl rfl ⟨rfl, rfl⟩
theorem kg_what (z : Value) (d : Nat) (x : Int) (hp : xx_H) (x0 : -2147483648 ≤ x) (x1 : x ≤ 2147483647) : xx_cl (xt_P z) (d + 1) 251 [.int (iI x)] hp (fun v h1 => v = some (.int (iI (x / 32))) ∧ h1 = hp) := by
  refine cl_go rfl ?_
  show xx_go (xt_P z) d 251 0 [some (.int (iI x))] [] hp _
  refine go_a (pc' := 1) (ls' := [some (.int (iI x))]) (st' := [.int (iI x)]) rfl rfl ?_
  refine go_a (pc' := 2) (ls' := [some (.int (iI x))]) (st' := [.int (iI 5), .int (iI x)]) rfl rfl ?_
  refine go_a (pc' := 3) (ls' := [some (.int (iI x))]) (st' := [.int (iI (x / 32))]) rfl (by rw [← shr5 x0 x1]; rfl) ?_
  exact go_r rfl rfl rfl rfl rfl rfl ⟨rfl, rfl⟩
theorem kg_isCall (z : Value) (d : Nat) (x : Int) (hp : xx_H) : xx_cl (xt_P z) (d + 1) 220 [.int (iI x)] hp (fun v h1 => ((x % 4 = 2 ∧ v = some (.int (iI 1))) ∨ (¬ x % 4 = 2 ∧ v = some (.int (iI 0)))) ∧ h1 = hp) := by
  refine cl_go rfl ?_
  show xx_go (xt_P z) d 220 0 [some (.int (iI x))] [] hp _
  refine go_a (pc' := 1) (ls' := [some (.int (iI x))]) (st' := [.int (iI x)]) rfl rfl ?_
  refine go_a (pc' := 2) (ls' := [some (.int (iI x))]) (st' := [.int (iI 3), .int (iI x)]) rfl rfl ?_
  refine go_a (pc' := 3) (ls' := [some (.int (iI x))]) (st' := [.int (iI (x % 4))]) rfl (by rw [← and3]; rfl) ?_
  refine go_a (pc' := 4) (ls' := [some (.int (iI x))]) (st' := [.int (iI 2), .int (iI (x % 4))]) rfl rfl ?_
  refine mi_ne (t := 11) rfl rfl (by omega) (by omega) (by omega) (by omega) (fun q => ?_) (fun q => ?_)
  · refine go_a (pc' := 12) (ls' := [some (.int (iI x))]) (st' := [.int (iI 0)]) rfl rfl ?_
    exact go_r rfl rfl rfl rfl rfl rfl ⟨Or.inr ⟨by omega, rfl⟩, rfl⟩
  · refine go_a (pc' := 8) (ls' := [some (.int (iI x))]) (st' := [.int (iI 1)]) rfl rfl ?_
    refine go_a (pc' := 12) (ls' := [some (.int (iI x))]) (st' := [.int (iI 1)]) rfl rfl ?_
    exact go_r rfl rfl rfl rfl rfl rfl ⟨Or.inl ⟨by omega, rfl⟩, rfl⟩
theorem kg_isConstant (z : Value) (d : Nat) (x : Int) (hp : xx_H) : xx_cl (xt_P z) (d + 1) 252 [.int (iI x)] hp (fun v h1 => ((x % 4 = 1 ∧ v = some (.int (iI 1))) ∨ (¬ x % 4 = 1 ∧ v = some (.int (iI 0)))) ∧ h1 = hp) := by
  refine cl_go rfl ?_
  show xx_go (xt_P z) d 252 0 [some (.int (iI x))] [] hp _
  refine go_a (pc' := 1) (ls' := [some (.int (iI x))]) (st' := [.int (iI x)]) rfl rfl ?_
  refine go_a (pc' := 2) (ls' := [some (.int (iI x))]) (st' := [.int (iI 3), .int (iI x)]) rfl rfl ?_
  refine go_a (pc' := 3) (ls' := [some (.int (iI x))]) (st' := [.int (iI (x % 4))]) rfl (by rw [← and3]; rfl) ?_
  refine go_a (pc' := 4) (ls' := [some (.int (iI x))]) (st' := [.int (iI 1), .int (iI (x % 4))]) rfl rfl ?_
  refine mi_ne (t := 11) rfl rfl (by omega) (by omega) (by omega) (by omega) (fun q => ?_) (fun q => ?_)
  · refine go_a (pc' := 12) (ls' := [some (.int (iI x))]) (st' := [.int (iI 0)]) rfl rfl ?_
    exact go_r rfl rfl rfl rfl rfl rfl ⟨Or.inr ⟨by omega, rfl⟩, rfl⟩
  · refine go_a (pc' := 8) (ls' := [some (.int (iI x))]) (st' := [.int (iI 1)]) rfl rfl ?_
    refine go_a (pc' := 12) (ls' := [some (.int (iI x))]) (st' := [.int (iI 1)]) rfl rfl ?_
    exact go_r rfl rfl rfl rfl rfl rfl ⟨Or.inl ⟨by omega, rfl⟩, rfl⟩
theorem kg_isVariable (z : Value) (d : Nat) (x : Int) (hp : xx_H) : xx_cl (xt_P z) (d + 1) 227 [.int (iI x)] hp (fun v h1 => ((x % 4 = 0 ∧ v = some (.int (iI 1))) ∨ (¬ x % 4 = 0 ∧ v = some (.int (iI 0)))) ∧ h1 = hp) := by
  refine cl_go rfl ?_
  show xx_go (xt_P z) d 227 0 [some (.int (iI x))] [] hp _
  refine go_a (pc' := 1) (ls' := [some (.int (iI x))]) (st' := [.int (iI x)]) rfl rfl ?_
  refine go_a (pc' := 2) (ls' := [some (.int (iI x))]) (st' := [.int (iI 3), .int (iI x)]) rfl rfl ?_
  refine go_a (pc' := 3) (ls' := [some (.int (iI x))]) (st' := [.int (iI (x % 4))]) rfl (by rw [← and3]; rfl) ?_
  refine mi_ne0 (t := 10) rfl rfl (by omega) (by omega) (fun q => ?_) (fun q => ?_)
  · refine go_a (pc' := 11) (ls' := [some (.int (iI x))]) (st' := [.int (iI 0)]) rfl rfl ?_
    exact go_r rfl rfl rfl rfl rfl rfl ⟨Or.inr ⟨by omega, rfl⟩, rfl⟩
  · refine go_a (pc' := 7) (ls' := [some (.int (iI x))]) (st' := [.int (iI 1)]) rfl rfl ?_
    refine go_a (pc' := 11) (ls' := [some (.int (iI x))]) (st' := [.int (iI 1)]) rfl rfl ?_
    exact go_r rfl rfl rfl rfl rfl rfl ⟨Or.inl ⟨by omega, rfl⟩, rfl⟩
