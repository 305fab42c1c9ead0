def msx (E : Int) : Int32 := ((iI E).toUInt32 >>> ((iI 2).toUInt32 &&& Int32.toUInt32 31)).toInt32 &&& iI 8191
def msl (x y : Int) : Int := (msx (x * 40503 + y * 30011 + 7)).toInt
theorem and_rng (x : Int32) : 0 ≤ (x &&& iI 8191).toInt ∧ (x &&& iI 8191).toInt < 8192 := by
  have e : (x &&& iI 8191) = iI ((x.toBitVec &&& 8191#32).toNat : Int) := by
    apply Int32.toBitVec_inj.mp
    show x.toBitVec &&& 8191#32 = BitVec.ofInt 32 _
    rw [BitVec.ofInt_natCast, BitVec.ofNat_toNat, BitVec.setWidth_eq]
  have hl : (x.toBitVec &&& 8191#32).toNat ≤ 8191 := by
    rw [BitVec.toNat_and]
    exact Nat.and_le_right
  rw [e, iI_toInt (by omega) (by omega)]
  omega
theorem msl_rng (x y : Int) : 0 ≤ msl x y ∧ msl x y < 8192 := and_rng _
theorem mm_slot (z : Value) (d : Nat) (x y : Int) (hp : xx_H) : xx_cl (xt_P z) (d + 1) 86 [.int (iI x), .int (iI y)] hp (fun v h1 => v = some (.int (iI (msl x y))) ∧ h1 = hp) := by
  refine cl_go rfl ?_
  show xx_go (xt_P z) d 86 0 [some (.int (iI x)), some (.int (iI y))] [] (hp) _
  refine go_a (pc' := 1) (ls' := [some (.int (iI x)), some (.int (iI y))]) (st' := [.int (iI x)]) rfl rfl ?_
  refine go_b (pc' := 3) (st' := [.int (iI 40503), .int (iI x)]) (h' := hp) rfl rfl rfl ?_
  refine mi_mul rfl ?_
  refine go_a (pc' := 5) (ls' := [some (.int (iI x)), some (.int (iI y))]) (st' := [.int (iI y), .int (iI (x * 40503))]) rfl rfl ?_
  refine go_a (pc' := 8) (ls' := [some (.int (iI x)), some (.int (iI y))]) (st' := [.int (iI 30011), .int (iI y), .int (iI (x * 40503))]) rfl rfl ?_
  refine mi_mul rfl ?_
  refine mi_add rfl ?_
  refine go_a (pc' := 12) (ls' := [some (.int (iI x)), some (.int (iI y))]) (st' := [.int (iI 7), .int (iI ((x * 40503) + (y * 30011)))]) rfl rfl ?_
  refine mi_add rfl ?_
  refine go_a (pc' := 14) (ls' := [some (.int (iI x)), some (.int (iI y))]) (st' := [.int (iI 2), .int (iI (((x * 40503) + (y * 30011)) + 7))]) rfl rfl ?_
  refine go_a (pc' := 15) (ls' := [some (.int (iI x)), some (.int (iI y))]) (st' := [.int ((iI (x * 40503 + y * 30011 + 7)).toUInt32 >>> ((iI 2).toUInt32 &&& Int32.toUInt32 31)).toInt32]) rfl rfl ?_
  refine go_a (pc' := 18) (ls' := [some (.int (iI x)), some (.int (iI y))]) (st' := [.int (iI 8191), .int ((iI (x * 40503 + y * 30011 + 7)).toUInt32 >>> ((iI 2).toUInt32 &&& Int32.toUInt32 31)).toInt32]) rfl rfl ?_
  refine go_a (pc' := 19) (ls' := [some (.int (iI x)), some (.int (iI y))]) (st' := [.int (iI (msl x y))]) rfl (by rw [show iI (msl x y) = msx (x * 40503 + y * 30011 + 7) from (iI_of _).symm]; rfl) ?_
  exact go_r rfl rfl rfl rfl rfl rfl ⟨rfl, rfl⟩
theorem mm_isPair (z : Value) (d : Nat) (k : Int) (h R : xx_H) (I : Nat → Int) (A : Nat → Int → Int) (N : Int → Int) (hc : 12 ≤ h.length) (hk0 : 0 ≤ k) (hk1 : k < 140000) (l0 : -2147483648 ≤ A 1 k) (l1 : A 1 k < 2147483648) : xx_cl (xt_P z) (d + 1) 96 [.ref h.length, .int (iI k)] (mh h R I A N) (fun v h1 => v = some (.int (iI (if 0 ≤ A 1 k then 1 else 0))) ∧ h1 = mh h R I A N) := by
  refine cl_go rfl ?_
  show xx_go (xt_P z) d 96 0 [some (.ref h.length), some (.int (iI k))] [] (mh h R I A N) _
  refine go_a (pc' := 1) (ls' := [some (.ref h.length), some (.int (iI k))]) (st' := [.ref h.length]) rfl rfl ?_
  refine go_get rfl mh_o rfl rfl ?_
  refine go_a (pc' := 5) (ls' := [some (.ref h.length), some (.int (iI k))]) (st' := [.int (iI k), .ref (h.length + 1)]) rfl rfl ?_
  refine mi_ild rfl mh_a1 (by omega) (by omega) (by decide) ?_
  refine mi_lt0 (t := 13) rfl rfl (by omega) (by omega) (fun hb => ?_) (fun hb => ?_)
  · refine go_a (pc' := 14) (ls' := [some (.ref h.length), some (.int (iI k))]) (st' := [.int (iI 0)]) rfl rfl ?_
    exact go_r rfl rfl rfl rfl rfl rfl ⟨by rw [if_neg (by omega)], rfl⟩
  · refine go_a (pc' := 10) (ls' := [some (.ref h.length), some (.int (iI k))]) (st' := [.int (iI 1)]) rfl rfl ?_
    refine go_a (pc' := 14) (ls' := [some (.ref h.length), some (.int (iI k))]) (st' := [.int (iI 1)]) rfl rfl ?_
    exact go_r rfl rfl rfl rfl rfl rfl ⟨by rw [if_pos (by omega)], rfl⟩
theorem mm_isNatural (z : Value) (d : Nat) (k : Int) (h R : xx_H) (I : Nat → Int) (A : Nat → Int → Int) (N : Int → Int) (hc : 12 ≤ h.length) (hk0 : 0 ≤ k) (hk1 : k < 140000) (l0 : -2147483648 ≤ A 1 k) (l1 : A 1 k < 2147483648) : xx_cl (xt_P z) (d + 1) 110 [.ref h.length, .int (iI k)] (mh h R I A N) (fun v h1 => v = some (.int (iI (if A 1 k = -1 then 1 else 0))) ∧ h1 = mh h R I A N) := by
  refine cl_go rfl ?_
  show xx_go (xt_P z) d 110 0 [some (.ref h.length), some (.int (iI k))] [] (mh h R I A N) _
  refine go_a (pc' := 1) (ls' := [some (.ref h.length), some (.int (iI k))]) (st' := [.ref h.length]) rfl rfl ?_
  refine go_get rfl mh_o rfl rfl ?_
  refine go_a (pc' := 5) (ls' := [some (.ref h.length), some (.int (iI k))]) (st' := [.int (iI k), .ref (h.length + 1)]) rfl rfl ?_
  refine mi_ild rfl mh_a1 (by omega) (by omega) (by decide) ?_
  refine go_a (pc' := 7) (ls' := [some (.ref h.length), some (.int (iI k))]) (st' := [.int (iI ((-1))), .int (iI (A 1 k))]) rfl rfl ?_
  refine mi_ne (t := 14) rfl rfl (by omega) (by omega) (by omega) (by omega) (fun hb => ?_) (fun hb => ?_)
  · refine go_a (pc' := 15) (ls' := [some (.ref h.length), some (.int (iI k))]) (st' := [.int (iI 0)]) rfl rfl ?_
    exact go_r rfl rfl rfl rfl rfl rfl ⟨by rw [if_neg (by omega)], rfl⟩
  · refine go_a (pc' := 11) (ls' := [some (.ref h.length), some (.int (iI k))]) (st' := [.int (iI 1)]) rfl rfl ?_
    refine go_a (pc' := 15) (ls' := [some (.ref h.length), some (.int (iI k))]) (st' := [.int (iI 1)]) rfl rfl ?_
    exact go_r rfl rfl rfl rfl rfl rfl ⟨by rw [if_pos (by omega)], rfl⟩
theorem mm_isSymbol (z : Value) (d : Nat) (k : Int) (h R : xx_H) (I : Nat → Int) (A : Nat → Int → Int) (N : Int → Int) (hc : 12 ≤ h.length) (hk0 : 0 ≤ k) (hk1 : k < 140000) (l0 : -2147483648 ≤ A 1 k) (l1 : A 1 k < 2147483648) : xx_cl (xt_P z) (d + 1) 101 [.ref h.length, .int (iI k)] (mh h R I A N) (fun v h1 => v = some (.int (iI (if A 1 k = -2 then 1 else 0))) ∧ h1 = mh h R I A N) := by
  refine cl_go rfl ?_
  show xx_go (xt_P z) d 101 0 [some (.ref h.length), some (.int (iI k))] [] (mh h R I A N) _
  refine go_a (pc' := 1) (ls' := [some (.ref h.length), some (.int (iI k))]) (st' := [.ref h.length]) rfl rfl ?_
  refine go_get rfl mh_o rfl rfl ?_
  refine go_a (pc' := 5) (ls' := [some (.ref h.length), some (.int (iI k))]) (st' := [.int (iI k), .ref (h.length + 1)]) rfl rfl ?_
  refine mi_ild rfl mh_a1 (by omega) (by omega) (by decide) ?_
  refine go_a (pc' := 8) (ls' := [some (.ref h.length), some (.int (iI k))]) (st' := [.int (iI ((-2))), .int (iI (A 1 k))]) rfl rfl ?_
  refine mi_ne (t := 15) rfl rfl (by omega) (by omega) (by omega) (by omega) (fun hb => ?_) (fun hb => ?_)
  · refine go_a (pc' := 16) (ls' := [some (.ref h.length), some (.int (iI k))]) (st' := [.int (iI 0)]) rfl rfl ?_
    exact go_r rfl rfl rfl rfl rfl rfl ⟨by rw [if_neg (by omega)], rfl⟩
  · refine go_a (pc' := 12) (ls' := [some (.ref h.length), some (.int (iI k))]) (st' := [.int (iI 1)]) rfl rfl ?_
    refine go_a (pc' := 16) (ls' := [some (.ref h.length), some (.int (iI k))]) (st' := [.int (iI 1)]) rfl rfl ?_
    exact go_r rfl rfl rfl rfl rfl rfl ⟨by rw [if_pos (by omega)], rfl⟩
