/-! Cells.slot: an int below 512; Cells.symbol over numberOf -/
theorem xm_shr55 (x : Int64) : ∃ j : Nat, j < 512 ∧ ((x.toUInt64 >>> ((55 : Int32).toInt64.toUInt64 &&& Int64.toUInt64 63)).toInt64).toInt32 = nI j := by
  have hs : ((55 : Int32).toInt64.toUInt64 &&& Int64.toUInt64 63) = 55 := by decide
  rw [hs]
  refine ⟨(x.toUInt64 >>> 55).toNat, ?_, ?_⟩
  · rw [UInt64.toNat_shiftRight]
    have h1 := x.toUInt64.toNat_lt
    have h2 : (55 : UInt64).toNat % 64 = 55 := by decide
    rw [h2, Nat.shiftRight_eq_div_pow]
    omega
  · rw [← lN_i]
    congr 1
    show (x.toUInt64 >>> 55).toInt64 = Int64.ofNat (x.toUInt64 >>> 55).toNat
    generalize x.toUInt64 >>> 55 = u
    apply Int64.toBitVec_inj.mp
    simp
theorem xm_slot (z : Value) (d : Nat) (y : Int64) (h : xx_H) : xx_cl (xt_P z) (d + 1) 15 [.long y] h (fun w h1 => (∃ j : Nat, j < 512 ∧ w = some (.int (nI j))) ∧ h1 = h) := by
  refine cl_go rfl ?_
  show xx_go (xt_P z) d 15 0 [some (.long y), none] [] h _
  refine go_a (pc' := 1) (ls' := [some (.long y), none]) (st' := [(.long y)]) rfl rfl ?_
  refine go_b (pc' := 4) (st' := [.long (-7046029254386353131), .long y]) (h' := h) rfl rfl rfl ?_
  refine go_a (pc' := 5) (ls' := [some (.long y), none]) (st' := [.long (y * (-7046029254386353131))]) rfl rfl ?_
  generalize y * (-7046029254386353131) = x
  refine go_a (pc' := 7) (ls' := [some (.long y), none]) (st' := [.int 55, .long x]) rfl rfl ?_
  refine go_a (pc' := 8) (ls' := [some (.long y), none]) (st' := [.long (x.toUInt64 >>> ((55 : Int32).toInt64.toUInt64 &&& Int64.toUInt64 63)).toInt64]) rfl rfl ?_
  obtain ⟨j, hj, e⟩ := xm_shr55 x
  refine go_a (pc' := 9) (ls' := [some (.long y), none]) (st' := [.int (nI j)]) rfl (by rw [← e]; rfl) ?_
  exact go_r rfl rfl rfl rfl rfl rfl ⟨⟨j, hj, rfl⟩, rfl⟩
