def sd1 (x : Int) : Int := (x + 9223372036854775808) / 2147483648 % 2147483648
def sd2 (x : Int) : Int := (x + 9223372036854775808) % 2147483648
theorem sd_R (x : Int) : (0 ≤ sd1 x ∧ sd1 x < 2147483648) ∧ (0 ≤ sd2 x ∧ sd2 x < 2147483648) := by
  unfold sd1 sd2
  omega
def kpair (a b : Int) : Int := -9223372036854775808 + a * 2147483648 + b
theorem sd_pair {a b : Int} (a0 : 0 ≤ a) (a1 : a < 2147483648) (b0 : 0 ≤ b) (b1 : b < 2147483648) : sd1 (kpair a b) = a ∧ sd2 (kpair a b) = b ∧ kpair a b < 0 ∧ -9223372036854775808 ≤ kpair a b := by
  unfold sd1 sd2 kpair
  omega
theorem l_nat (x : Int) : (Int64.ofInt x).toBitVec.toNat = (x % 18446744073709551616).toNat := by
  show (BitVec.ofInt 64 x).toNat = _
  rw [BitVec.toNat_ofInt]
  rfl
theorem l_eq {a b : Int64} (h : a.toBitVec.toNat = b.toBitVec.toNat) : a = b := Int64.toBitVec_inj.mp (BitVec.eq_of_toNat_eq h)
theorem i_nat (x : Int) : (iI x).toBitVec.toNat = (x % 4294967296).toNat := by
  show (BitVec.ofInt 32 x).toNat = _
  rw [BitVec.toNat_ofInt]
  rfl
theorem i_eq {a b : Int32} (h : a.toBitVec.toNat = b.toBitVec.toNat) : a = b := Int32.toBitVec_inj.mp (BitVec.eq_of_toNat_eq h)
theorem l2i_nat (x : Int64) : x.toInt32.toBitVec.toNat = x.toBitVec.toNat % 4294967296 := by
  show (BitVec.signExtend 32 x.toBitVec).toNat = _
  rw [BitVec.signExtend_eq_setWidth_of_le _ (by decide), BitVec.toNat_setWidth]
theorem shl31 {a : Int} (a0 : 0 ≤ a) (a1 : a < 2147483648) : (Int64.ofInt a <<< ((31 : Int32).toInt64 &&& 63)) = Int64.ofInt (a * 2147483648) := by
  have hs : ((31 : Int32).toInt64 &&& 63) = (31 : Int64) := by decide
  rw [hs]
  apply l_eq
  rw [Int64.toBitVec_shiftLeft, l_nat]
  have e : ((31 : Int64).toBitVec.smod 64) = 31#64 := by decide
  rw [e, BitVec.shiftLeft_eq', BitVec.toNat_shiftLeft, l_nat]
  have e2 : (31#64).toNat = 31 := by decide
  rw [e2, Nat.shiftLeft_eq]
  omega
theorem lor_nat (x y : Int64) : (x ||| y).toBitVec.toNat = x.toBitVec.toNat ||| y.toBitVec.toNat := by
  rw [Int64.toBitVec_or, BitVec.toNat_or]
theorem land_nat (x y : Int64) : (x &&& y).toBitVec.toNat = x.toBitVec.toNat &&& y.toBitVec.toNat := by
  rw [Int64.toBitVec_and, BitVec.toNat_and]
theorem key_pair {a b : Int} (a0 : 0 ≤ a) (a1 : a < 2147483648) (b0 : 0 ≤ b) (b1 : b < 2147483648) : (Int64.ofInt (-9223372036854775808) ||| Int64.ofInt (a * 2147483648)) ||| Int64.ofInt b = Int64.ofInt (kpair a b) := by
  apply l_eq
  rw [lor_nat, lor_nat, l_nat, l_nat, l_nat, l_nat]
  unfold kpair
  have e1 : ((-9223372036854775808 : Int) % 18446744073709551616).toNat = 2 ^ 63 * 1 := by decide
  have e2 : (a * 2147483648 % 18446744073709551616).toNat = 2 ^ 31 * a.toNat := by omega
  have e3 : (b % 18446744073709551616).toNat = b.toNat := by omega
  rw [e1, e2, e3, ← Nat.two_pow_add_eq_or_of_lt (i := 63) (b := 2 ^ 31 * a.toNat) (by omega) 1, show 2 ^ 63 * 1 + 2 ^ 31 * a.toNat = 2 ^ 31 * (2 ^ 32 + a.toNat) by omega, ← Nat.two_pow_add_eq_or_of_lt (i := 31) (b := b.toNat) (by omega)]
  omega
theorem key_first {x : Int} (x0 : -9223372036854775808 ≤ x) (x1 : x < 0) : (((Int64.ofInt x).toUInt64 >>> ((31 : Int32).toInt64.toUInt64 &&& Int64.toUInt64 63)).toInt64 &&& 2147483647).toInt32 = iI (sd1 x) := by
  have hs : ((31 : Int32).toInt64.toUInt64 &&& Int64.toUInt64 63) = 31 := by decide
  rw [hs]
  apply i_eq
  rw [l2i_nat, land_nat, i_nat]
  have e : (((Int64.ofInt x).toUInt64 >>> 31).toInt64).toBitVec.toNat = (x % 18446744073709551616).toNat / 2147483648 := by
    show ((Int64.ofInt x).toUInt64 >>> 31).toNat = _
    rw [UInt64.toNat_shiftRight]
    have h2 : (31 : UInt64).toNat % 64 = 31 := by decide
    rw [h2, Nat.shiftRight_eq_div_pow]
    show (Int64.ofInt x).toBitVec.toNat / 2 ^ 31 = _
    rw [l_nat]
  have m : (2147483647 : Int64).toBitVec.toNat = 2 ^ 31 - 1 := by decide
  rw [e, m, Nat.and_two_pow_sub_one_eq_mod]
  unfold sd1
  omega
theorem key_rest {x : Int} (x0 : -9223372036854775808 ≤ x) (x1 : x < 0) : (Int64.ofInt x &&& 2147483647).toInt32 = iI (sd2 x) := by
  apply i_eq
  rw [l2i_nat, land_nat, i_nat, l_nat]
  have m : (2147483647 : Int64).toBitVec.toNat = 2 ^ 31 - 1 := by decide
  rw [m, Nat.and_two_pow_sub_one_eq_mod]
  unfold sd2
  omega
theorem key_sym {x : Int} (x0 : 0 ≤ x) (x1 : x < 4611686018427387904) : (Int64.ofInt x ||| Int64.ofInt 4611686018427387904) = Int64.ofInt (x + 4611686018427387904) := by
  apply l_eq
  rw [lor_nat, l_nat, l_nat, l_nat, Nat.or_comm]
  have e1 : ((4611686018427387904 : Int) % 18446744073709551616).toNat = 2 ^ 62 * 1 := by decide
  have e2 : (x % 18446744073709551616).toNat = x.toNat := by omega
  rw [e1, e2, ← Nat.two_pow_add_eq_or_of_lt (i := 62) (b := x.toNat) (by omega) 1]
  omega
theorem xm_slot55 (x : Int64) : ∃ j : Int, (0 ≤ j ∧ j < 512) ∧ ((x.toUInt64 >>> ((55 : Int32).toInt64.toUInt64 &&& Int64.toUInt64 63)).toInt64).toInt32 = iI j := by
  have hs : ((55 : Int32).toInt64.toUInt64 &&& Int64.toUInt64 63) = 55 := by decide
  rw [hs]
  have b : (x.toUInt64 >>> 55).toNat < 512 := by
    rw [UInt64.toNat_shiftRight]
    have h1 := x.toUInt64.toNat_lt
    have h2 : (55 : UInt64).toNat % 64 = 55 := by decide
    rw [h2, Nat.shiftRight_eq_div_pow]
    omega
  refine ⟨((x.toUInt64 >>> 55).toNat : Int), ⟨by omega, by omega⟩, ?_⟩
  apply i_eq
  rw [l2i_nat, i_nat]
  show (x.toUInt64 >>> 55).toNat % 4294967296 = _
  omega
theorem kc_slot (z : Value) (d : Nat) (y : Int64) (hp : xx_H) : xx_cl (xt_P z) (d + 1) 15 [.long y] hp (fun w h1 => (∃ j : Int, (0 ≤ j ∧ j < 512) ∧ w = some (.int (iI j))) ∧ h1 = hp) := by
  refine cl_go rfl ?_
  show xx_go (xt_P z) d 15 0 [some (.long y), none] [] hp _
  refine go_a (pc' := 1) (ls' := [some (.long y), none]) (st' := [(.long y)]) rfl rfl ?_
  refine go_b (pc' := 4) (st' := [.long (-7046029254386353131), .long y]) (h' := hp) rfl rfl rfl ?_
  refine go_a (pc' := 5) (ls' := [some (.long y), none]) (st' := [.long (y * (-7046029254386353131))]) rfl rfl ?_
  generalize y * (-7046029254386353131) = x
  refine go_a (pc' := 7) (ls' := [some (.long y), none]) (st' := [.int 55, .long x]) rfl rfl ?_
  refine go_a (pc' := 8) (ls' := [some (.long y), none]) (st' := [.long (x.toUInt64 >>> ((55 : Int32).toInt64.toUInt64 &&& Int64.toUInt64 63)).toInt64]) rfl rfl ?_
  obtain ⟨j, hj, e⟩ := xm_slot55 x
  refine go_a (pc' := 9) (ls' := [some (.long y), none]) (st' := [.int (iI j)]) rfl (by rw [← e]; rfl) ?_
  exact go_r rfl rfl rfl rfl rfl rfl ⟨⟨j, hj, rfl⟩, rfl⟩
