def sp_by (x k : Int) : Int := if k % 4 = 0 then x / 16777216 % 256 else if k % 4 = 1 then x / 65536 % 256 else if k % 4 = 2 then x / 256 % 256 else x % 256
theorem sp_by_r (x k : Int) : 0 ≤ sp_by x k ∧ sp_by x k ≤ 255 := by
  unfold sp_by
  split
  · omega
  · split
    · omega
    · split <;> omega
theorem sp_by_0 (k : Int) : sp_by 0 k = 0 := by
  unfold sp_by
  split
  · rfl
  · split
    · rfl
    · split <;> rfl
theorem sp_by_c (x : Int) (s : Nat) (u : UInt32) (hs : s = 24 ∨ s = 16 ∨ s = 8 ∨ s = 0) (hu : u.toNat = s) : ((iI x).toUInt32 >>> u).toInt32 &&& iI 255 = iI (x / (2 ^ s : Int) % 256) := by
  apply Int32.toBitVec_inj.mp
  apply BitVec.eq_of_toNat_eq
  have e1 : (((iI x).toUInt32 >>> u).toInt32 &&& iI 255).toBitVec = ((BitVec.ofInt 32 x) >>> (u.toBitVec % 32)) &&& 255#32 := rfl
  have e2 : (iI (x / (2 ^ s : Int) % 256)).toBitVec = BitVec.ofInt 32 (x / (2 ^ s : Int) % 256) := rfl
  rw [e1, e2, BitVec.toNat_and, BitVec.toNat_ofInt, show (255#32).toNat = 2 ^ 8 - 1 from rfl, Nat.and_two_pow_sub_one_eq_mod]
  have e3 : (BitVec.ofInt 32 x >>> (u.toBitVec % 32)).toNat = (BitVec.ofInt 32 x).toNat >>> (u.toBitVec % 32).toNat := rfl
  have e4 : (u.toBitVec % 32).toNat = s := by
    rw [BitVec.toNat_umod]
    show u.toNat % 32 = s
    omega
  rw [e3, e4, BitVec.toNat_ofInt, Nat.shiftRight_eq_div_pow]
  rcases hs with rfl | rfl | rfl | rfl
  · omega
  · omega
  · omega
  · omega
theorem byt (x k : Int) (k0 : 0 ≤ k) (k1 : k < 20) : ((iI x).toUInt32 >>> ((iI 24 - iI 8 * (iI k &&& iI 3)).toUInt32 &&& Int32.toUInt32 31)).toInt32 &&& iI 255 = iI (sp_by x k) := by
  have hk : k = 0 ∨ k = 1 ∨ k = 2 ∨ k = 3 ∨ k = 4 ∨ k = 5 ∨ k = 6 ∨ k = 7 ∨ k = 8 ∨ k = 9 ∨ k = 10 ∨ k = 11 ∨ k = 12 ∨ k = 13 ∨ k = 14 ∨ k = 15 ∨ k = 16 ∨ k = 17 ∨ k = 18 ∨ k = 19 := by omega
  have s0 : ∀ u : UInt32, u.toNat = 24 → ((iI x).toUInt32 >>> u).toInt32 &&& iI 255 = iI (x / 16777216 % 256) := fun u hu => sp_by_c x 24 u (by decide) hu
  have s1 : ∀ u : UInt32, u.toNat = 16 → ((iI x).toUInt32 >>> u).toInt32 &&& iI 255 = iI (x / 65536 % 256) := fun u hu => sp_by_c x 16 u (by decide) hu
  have s2 : ∀ u : UInt32, u.toNat = 8 → ((iI x).toUInt32 >>> u).toInt32 &&& iI 255 = iI (x / 256 % 256) := fun u hu => sp_by_c x 8 u (by decide) hu
  have s3 : ∀ u : UInt32, u.toNat = 0 → ((iI x).toUInt32 >>> u).toInt32 &&& iI 255 = iI (x % 256) := fun u hu => by
    have := sp_by_c x 0 u (by decide) hu
    rw [show (2 ^ 0 : Int) = 1 from rfl, Int.ediv_one] at this
    exact this
  rcases hk with rfl | rfl | rfl | rfl | rfl | rfl | rfl | rfl | rfl | rfl | rfl | rfl | rfl | rfl | rfl | rfl | rfl | rfl | rfl | rfl
  · exact s0 _ rfl
  · exact s1 _ rfl
  · exact s2 _ rfl
  · exact s3 _ rfl
  · exact s0 _ rfl
  · exact s1 _ rfl
  · exact s2 _ rfl
  · exact s3 _ rfl
  · exact s0 _ rfl
  · exact s1 _ rfl
  · exact s2 _ rfl
  · exact s3 _ rfl
  · exact s0 _ rfl
  · exact s1 _ rfl
  · exact s2 _ rfl
  · exact s3 _ rfl
  · exact s0 _ rfl
  · exact s1 _ rfl
  · exact s2 _ rfl
  · exact s3 _ rfl
