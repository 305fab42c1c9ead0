theorem kt_chk (z y : Value) (hy : y = .null ∨ ∃ k, y = .ref k) (d : Nat) (i n : Int) (hp : xx_H) (i0 : 0 ≤ i) (i1 : i < n) (n1 : n < 2147483648) : xx_cl (xt_P z) (d + 1) 12 [.int (iI i), .int (iI n), y] hp (fun v h1 => v = some (.int (iI i)) ∧ h1 = hp) := by
  have en : xx_ent (xp_nl (xt_P z) 12) [.int (iI i), .int (iI n), y] = [some (.int (iI i)), some (.int (iI n)), some y] := by
    rcases hy with rfl | ⟨k, rfl⟩ <;> rfl
  refine cl_go (by rcases hy with rfl | ⟨k, rfl⟩ <;> rfl) ?_
  rw [en]
  refine go_a (pc' := 1) (ls' := [some (.int (iI i)), some (.int (iI n)), some (y)]) (st' := [.int (iI i)]) rfl rfl ?_
  refine mi_lt0 (t := 9) rfl rfl (by omega) (by omega) (fun q => absurd q (by omega)) (fun _ => ?_)
  refine go_a (pc' := 5) (ls' := [some (.int (iI i)), some (.int (iI n)), some (y)]) (st' := [.int (iI i)]) rfl rfl ?_
  refine go_a (pc' := 6) (ls' := [some (.int (iI i)), some (.int (iI n)), some (y)]) (st' := [.int (iI n), .int (iI i)]) rfl rfl ?_
  refine mi_lt (t := 16) rfl rfl (by omega) (by omega) (by omega) (by omega) (fun _ => ?_) (fun q => absurd i1 q)
  refine go_a (pc' := 17) (ls' := [some (.int (iI i)), some (.int (iI n)), some (y)]) (st' := [.int (iI i)]) rfl rfl ?_
  exact go_r rfl rfl rfl rfl rfl rfl ⟨rfl, rfl⟩
theorem kt_chk2 (z : Value) (hz : z = .null ∨ ∃ k, z = .ref k) (d : Nat) (i n : Int) (hp : xx_H) (i0 : 0 ≤ i) (i1 : i < n) (n1 : n < 2147483648) : xx_cl (xt_P z) (d + 2) 11 [.int (iI i), .int (iI n)] hp (fun v h1 => v = none ∧ h1 = hp) := by
  refine cl_go rfl ?_
  show xx_go (xt_P z) (d + 1) 11 0 [some (.int (iI i)), some (.int (iI n))] [] hp _
  refine go_a (pc' := 1) (ls' := [some (.int (iI i)), some (.int (iI n))]) (st' := [.int (iI i)]) rfl rfl ?_
  refine go_a (pc' := 2) (ls' := [some (.int (iI i)), some (.int (iI n))]) (st' := [.int (iI n), .int (iI i)]) rfl rfl ?_
  refine go_b (pc' := 5) (st' := [z, .int (iI n), .int (iI i)]) (h' := hp) rfl rfl rfl ?_
  refine go_s (m := 12) (as := [.int (iI i), .int (iI n), z]) (r := []) rfl rfl rfl (by rcases hz with rfl | ⟨k, rfl⟩ <;> rfl) (kt_chk z z hz d i n hp i0 i1 n1) (fun v h1 hq => ?_)
  obtain ⟨rfl, e⟩ := hq
  rw [e]
  show xx_go (xt_P z) (d + 1) 11 8 [some (.int (iI i)), some (.int (iI n))] [.int (iI i)] hp _
  refine go_a (pc' := 9) (ls' := [some (.int (iI i)), some (.int (iI n))]) (st' := []) rfl rfl ?_
  exact go_r rfl rfl rfl rfl rfl rfl ⟨rfl, rfl⟩
theorem and255 {x : Int} (x0 : 0 ≤ x) (x1 : x ≤ 127) : iI x &&& 255 = iI x := by
  apply i_eq
  rw [Int32.toBitVec_and, BitVec.toNat_and, i_nat]
  have m : (255 : Int32).toBitVec.toNat = 2 ^ 8 - 1 := by decide
  rw [m, Nat.and_two_pow_sub_one_eq_mod]
  omega
theorem fitC {x : Int} (x0 : 0 ≤ x) (x1 : x ≤ 127) : xx_fit .char (.int (iI x)) = true := by
  have e : (iI x).toUInt32.toUInt16.toUInt32.toInt32 = iI x := by
    apply i_eq
    show ((iI x).toUInt32.toUInt16.toUInt32).toNat = _
    rw [UInt16.toNat_toUInt32, UInt32.toNat_toUInt16]
    show (iI x).toBitVec.toNat % 65536 = _
    rw [i_nat]
    omega
  show (decide ((iI x).toUInt32.toUInt16.toUInt32.toInt32 = iI x) && fits .char (.int (iI x))) = true
  rw [decide_eq_true e]
  have h1 : (0 : Int32) ≤ iI x := (iI_le (a := 0) (by decide) (by decide) (by omega) (by omega)).mpr x0
  have h2 : iI x ≤ (65535 : Int32) := (iI_le (b := 65535) (by omega) (by omega) (by decide) (by decide)).mpr (by omega)
  show (true && (decide ((0 : Int32) ≤ iI x) && decide (iI x ≤ (65535 : Int32)))) = true
  rw [decide_eq_true h1, decide_eq_true h2]
  rfl
theorem kt_latch (z : Value) (hz : z = .null ∨ ∃ k, z = .ref k) (d : Nat) (i : Int) (hp : xx_H) (hO : OC hp) (i0 : 0 ≤ i) (i1 : i < 46) : xx_cl (xt_P z) (d + 3) 10 [.ref 8, .int (iI i)] hp (fun v h1 => (∃ x : Int, (0 ≤ x ∧ x ≤ 127) ∧ v = some (.int (iI x))) ∧ h1 = hp) := by
  obtain ⟨h7, h8, -⟩ := hO
  obtain ⟨x, hx0, hw⟩ := ltB_at (j := i.toNat) (by omega)
  have hx : 0 ≤ x ∧ x ≤ 127 := by omega
  refine cl_go rfl ?_
  show xx_go (xt_P z) (d + 2) 10 0 [some (.ref 8), some (.int (iI i))] [] hp _
  refine go_a (pc' := 1) (ls' := [some (.ref 8), some (.int (iI i))]) (st' := [.int (iI i)]) rfl rfl ?_
  refine go_a (pc' := 2) (ls' := [some (.ref 8), some (.int (iI i))]) (st' := [.ref 8, .int (iI i)]) rfl rfl ?_
  refine mk_len (n := 46) rfl h8 ltB_len (by decide) (by decide) ?_
  refine go_s (m := 11) (as := [.int (iI i), .int (iI 46)]) (r := []) rfl rfl rfl rfl (kt_chk2 z hz d i 46 hp i0 i1 (by decide)) (fun v h1 hq => ?_)
  obtain ⟨rfl, e⟩ := hq
  rw [e]
  clear e h1
  show xx_go (xt_P z) (d + 2) 10 6 [some (.ref 8), some (.int (iI i))] [] hp _
  refine go_a (pc' := 7) (ls' := [some (.ref 8), some (.int (iI i))]) (st' := [.ref 8]) rfl rfl ?_
  refine go_a (pc' := 8) (ls' := [some (.ref 8), some (.int (iI i))]) (st' := [.int (iI i), .ref 8]) rfl rfl ?_
  refine go_bld rfl h8 (iI_nn i0 (by omega)) (iI_clamp i0 (by omega)) hw ?_
  refine go_a (pc' := 12) (ls' := [some (.ref 8), some (.int (iI i))]) (st' := [.int (iI 255), .int (iI x)]) rfl rfl ?_
  refine go_a (pc' := 13) (ls' := [some (.ref 8), some (.int (iI i))]) (st' := [.int (iI x)]) rfl (by show some (_, _, Value.int (iI x &&& 255) :: _) = _; rw [and255 hx.1 hx.2]) ?_
  refine go_a (pc' := 14) (ls' := [some (.ref 8), some (.int (iI i))]) (st' := [.int (iI x)]) rfl (by show some (_, _, Value.int ((iI x).toUInt32 % 65536).toInt32 :: _) = _; rw [i2c_id hx.1 (by omega)]) ?_
  exact go_r rfl rfl rfl rfl rfl (by show xa_g (xx_fit .char (.int (iI x))) _ = _; rw [fitC hx.1 hx.2]; rfl) ⟨⟨x, hx, rfl⟩, rfl⟩
theorem kt_charAt (z : Value) (hz : z = .null ∨ ∃ k, z = .ref k) (d : Nat) (i : Int) (hp : xx_H) (hO : OC hp) (i0 : 0 ≤ i) (i1 : i < 46) : xx_cl (xt_P z) (d + 4) 8 [.ref 7, .int (iI i)] hp (fun v h1 => (∃ x : Int, (0 ≤ x ∧ x ≤ 127) ∧ v = some (.int (iI x))) ∧ h1 = hp) := by
  have hO2 := hO
  obtain ⟨h7, h8, -⟩ := hO
  refine cl_go rfl ?_
  show xx_go (xt_P z) (d + 3) 8 0 [some (.ref 7), some (.int (iI i))] [] hp _
  refine go_a (pc' := 1) (ls' := [some (.ref 7), some (.int (iI i))]) (st' := [.ref 7]) rfl rfl ?_
  refine go_v (m := 9) (as := [.ref 7]) (r := []) rfl rfl rfl h7 rfl rfl (kt_latin z (d + 2) hp hO2) (fun v h1 hq => ?_)
  obtain ⟨rfl, e⟩ := hq
  rw [e]
  clear e h1
  show xx_go (xt_P z) (d + 3) 8 4 [some (.ref 7), some (.int (iI i))] [.int (iI 1)] hp _
  refine mi_eq0 (t := 16) rfl rfl (by omega) (by omega) (fun q => absurd q (by decide)) (fun _ => ?_)
  refine go_a (pc' := 8) (ls' := [some (.ref 7), some (.int (iI i))]) (st' := [.ref 7]) rfl rfl ?_
  refine go_get (v := .ref 8) rfl h7 rfl rfl ?_
  refine go_a (pc' := 12) (ls' := [some (.ref 7), some (.int (iI i))]) (st' := [.int (iI i), .ref 8]) rfl rfl ?_
  refine go_s (m := 10) (as := [.ref 8, .int (iI i)]) (r := []) rfl rfl rfl rfl (kt_latch z hz d i hp hO2 i0 i1) (fun v h1 hq => ?_)
  obtain ⟨⟨x, hx, rfl⟩, e⟩ := hq
  rw [e]
  show xx_go (xt_P z) (d + 3) 8 15 [some (.ref 7), some (.int (iI i))] [.int (iI x)] hp _
  exact go_r rfl rfl rfl rfl rfl (by show xa_g (xx_fit .char (.int (iI x))) _ = _; rw [fitC hx.1 hx.2]; rfl) ⟨⟨x, hx, rfl⟩, rfl⟩
theorem kt_letterOf (z : Value) (hz : z = .null ∨ ∃ k, z = .ref k) (d : Nat) (i : Int) (hp : xx_H) (hO : OC hp) (i0 : -2147483648 ≤ i) (i1 : i ≤ 2147483647) : xx_cl (xt_P z) (d + 5) 312 [.int (iI i)] hp (fun v h1 => (∃ x : Int, (0 ≤ x ∧ x ≤ 127) ∧ v = some (.int (iI x))) ∧ h1 = hp) := by
  have hO2 := hO
  obtain ⟨h7, h8, -⟩ := hO
  have no : xx_go (xt_P z) (d + 4) 312 24 [some (.int (iI i))] [] hp (fun v h1 => (∃ x : Int, (0 ≤ x ∧ x ≤ 127) ∧ v = some (.int (iI x))) ∧ h1 = hp) := by
    refine go_a (pc' := 26) (ls' := [some (.int (iI i))]) (st' := [.int (iI 63)]) rfl rfl ?_
    exact go_r rfl rfl rfl rfl rfl rfl ⟨⟨63, by decide, rfl⟩, rfl⟩
  refine cl_go rfl ?_
  show xx_go (xt_P z) (d + 4) 312 0 [some (.int (iI i))] [] hp _
  refine go_a (pc' := 1) (ls' := [some (.int (iI i))]) (st' := [.int (iI i)]) rfl rfl ?_
  refine mi_le0 (t := 24) rfl rfl (by omega) (by omega) (fun _ => no) (fun q1 => ?_)
  refine go_a (pc' := 5) (ls' := [some (.int (iI i))]) (st' := [.int (iI i)]) rfl rfl ?_
  refine go_b (pc' := 7) (st' := [.ref 7, .int (iI i)]) (h' := hp) rfl rfl rfl ?_
  refine go_v (m := 6) (as := [.ref 7]) (r := [.int (iI i)]) rfl rfl rfl h7 rfl rfl (kt_len z (d + 2) hp hO2) (fun v h1 hq => ?_)
  obtain ⟨rfl, e⟩ := hq
  rw [e]
  clear e h1
  show xx_go (xt_P z) (d + 4) 312 10 [some (.int (iI i))] [.int (iI 46), .int (iI i)] hp _
  refine mi_gt (t := 24) rfl rfl (by omega) (by omega) (by omega) (by omega) (fun _ => no) (fun q2 => ?_)
  refine go_b (pc' := 15) (st' := [.ref 7]) (h' := hp) rfl rfl rfl ?_
  refine go_a (pc' := 16) (ls' := [some (.int (iI i))]) (st' := [.int (iI i), .ref 7]) rfl rfl ?_
  refine go_a (pc' := 17) (ls' := [some (.int (iI i))]) (st' := [.int (iI 1), .int (iI i), .ref 7]) rfl rfl ?_
  refine mi_sub rfl ?_
  refine go_v (m := 8) (as := [.ref 7, .int (iI (i - 1))]) (r := []) rfl rfl rfl h7 rfl rfl (kt_charAt z hz d (i - 1) hp hO2 (by omega) (by omega)) (fun v h1 hq => ?_)
  obtain ⟨⟨x, hx, rfl⟩, e⟩ := hq
  rw [e]
  show xx_go (xt_P z) (d + 4) 312 21 [some (.int (iI i))] [.int (iI x)] hp _
  refine go_a (pc' := 26) (ls' := [some (.int (iI i))]) (st' := [.int (iI x)]) rfl rfl ?_
  exact go_r rfl rfl rfl rfl rfl rfl ⟨⟨x, hx, rfl⟩, rfl⟩
