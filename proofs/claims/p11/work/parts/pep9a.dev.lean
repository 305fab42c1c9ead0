theorem iI_div {a b : Int} (a0 : 0 ≤ a) (a1 : a < 2147483648) (b0 : 0 < b) (b1 : b < 2147483648) : iI a / iI b = iI (a / b) := by
  apply Int32.toInt_inj.mp
  have q : a / b ≤ a := Int.ediv_le_self b a0
  have q0 : 0 ≤ a / b := Int.ediv_nonneg a0 (by omega)
  rw [Int32.toInt_div, iI_toInt (by omega) a1, iI_toInt (by omega) b1, iI_toInt (by omega) (by omega), Int.tdiv_eq_ediv_of_nonneg a0]
  exact Int.bmod_eq_of_le (by omega) (by omega)
theorem iI_nz {y : Int} (y0 : 0 < y) (y1 : y < 2147483648) : ¬ iI y = 0 := by
  rw [show (0 : Int32) = iI 0 from rfl, iI_eq (by omega) y1 (by omega) (by omega)]
  omega
section MD
variable {P : xx_P} {d k pc : Nat} {ls : xx_L} {r : List Value} {hp : xx_H} {Q : Option Value → xx_H → Prop} {x y : Int}
theorem mi_idiv (hc : xp_code P k pc = some .idiv) (x0 : 0 ≤ x) (x1 : x < 2147483648) (y0 : 0 < y) (y1 : y < 2147483648) (hg : xx_go P d k (pc + 1) ls (.int (iI (x / y)) :: r) hp Q) : xx_go P d k pc ls (.int (iI y) :: .int (iI x) :: r) hp Q := go_a hc (by
  show xa_g (decide (¬ iI y = 0)) (some (pc + 1, ls, Value.int (iI x / iI y) :: r)) = _
  rw [decide_eq_true (iI_nz y0 y1), iI_div x0 x1 y0 y1]
  rfl) hg
theorem mi_irem (hc : xp_code P k pc = some .irem) (x0 : 0 ≤ x) (x1 : x < 2147483648) (y0 : 0 < y) (y1 : y < 2147483648) (hg : xx_go P d k (pc + 1) ls (.int (iI (x % y)) :: r) hp Q) : xx_go P d k pc ls (.int (iI y) :: .int (iI x) :: r) hp Q := go_a hc (by
  show xa_g (decide (¬ iI y = 0)) (some (pc + 1, ls, Value.int (iI x - iI x / iI y * iI y) :: r)) = _
  have e := Int.emod_add_mul_ediv x y
  rw [decide_eq_true (iI_nz y0 y1), iI_div x0 x1 y0 y1, iI_mul, iI_sub, Int.mul_comm (x / y) y, show x - y * (x / y) = x % y by omega]
  rfl) hg
theorem mi_l2i (hc : xp_code P k pc = some .l2i) (x0 : -2147483648 ≤ x) (x1 : x < 2147483648) (hg : xx_go P d k (pc + 1) ls (.int (iI x) :: r) hp Q) : xx_go P d k pc ls (.long (Int64.ofInt x) :: r) hp Q := go_a hc (by
  show some (pc + 1, ls, Value.int (Int64.ofInt x).toInt32 :: r) = _
  rw [← iI_l x0 x1, Int32.toInt32_toInt64]) hg
end MD
def TLF (s s1 : KS) : Prop := s1.N = s.N ∧ s1.T = s.T ∧ (∀ j : Nat, j ≠ 4 → j ≠ 5 → s1.A j = s.A j ∧ s1.C j = s.C j ∧ s1.P j = s.P j) ∧ (∀ j : Nat, j ≠ 4 → j ≠ 5 → s1.I j = s.I j)
theorem TLF_rf {s : KS} : TLF s s := ⟨rfl, rfl, fun _ _ _ => ⟨rfl, rfl, rfl⟩, fun _ _ _ => rfl⟩
theorem TLF_tr {s s1 s2 : KS} (a : TLF s s1) (b : TLF s1 s2) : TLF s s2 := ⟨b.1.trans a.1, b.2.1.trans a.2.1, fun j p q => ⟨(b.2.2.1 j p q).1.trans (a.2.2.1 j p q).1, (b.2.2.1 j p q).2.1.trans (a.2.2.1 j p q).2.1, (b.2.2.1 j p q).2.2.trans (a.2.2.1 j p q).2.2⟩, fun j p q => (b.2.2.2 j p q).trans (a.2.2.2 j p q)⟩
theorem TLF_row {s s1 : KS} {j : Nat} {x : Int} (h : KRW j s s1) (hj : j = 4 ∨ j = 5) (e : s1.I = su s.I j x) : TLF s s1 := ⟨h.1, h.2.1, fun i p q => h.2.2.1 i (by omega), fun i p q => by rw [e]; exact su_ne (by omega)⟩
theorem TLF_wI {s : KS} {j : Nat} {x : Int} (hj : j = 4 ∨ j = 5) : TLF s (s.wI j x) := ⟨rfl, rfl, fun _ _ _ => ⟨rfl, rfl, rfl⟩, fun i p q => su_ne (by omega)⟩
theorem TLF_SA {s s1 : KS} (h : TLF s s1) : KSA s s1 := ⟨h.1, (h.2.2.1 9 (by decide) (by decide)).1, h.2.2.2 8 (by decide) (by decide)⟩
theorem ke_put (z : Value) (d c : Nat) (x : Int) (hp : xx_H) (s : KS) (hK : KI c hp s) (hB : KB s) (l4 : s.I 4 ≤ 2000) (x0 : -2147483648 ≤ x) (x1 : x ≤ 2147483647) : xx_cl (xt_P z) (d + 3) 313 [.ref (c + 16), .int (iI x)] hp (fun v h1 => v = none ∧ ∃ s1 : KS, KI c h1 s1 ∧ KB s1 ∧ kx c hp s h1 s1 0 0 ∧ TLF s s1 ∧ s1.I 5 = s.I 5 ∧ s1.I 4 ≤ 2000) := by
  have b := hB.2.2.2.1 4 (by decide)
  refine cl_go rfl ?_
  show xx_go (xt_P z) (d + 2) 313 0 [some (.ref (c + 16)), some (.int (iI x))] [] hp _
  refine go_a (pc' := 1) (ls' := [some (.ref (c + 16)), some (.int (iI x))]) (st' := [.ref (c + 16)]) rfl rfl ?_
  refine go_get (v := .ref (c + 17)) rfl (hK.1 9 (by decide)) rfl rfl ?_
  refine go_v (m := 34) (as := [.ref (c + 17)]) (r := []) rfl rfl rfl (hK.1 10 (by decide)) rfl rfl (kr_length_4 z (d + 1) c hp s hK) (fun v h1 hq => ?_)
  obtain ⟨rfl, e⟩ := hq
  rw [e]
  clear e h1
  show xx_go (xt_P z) (d + 2) 313 7 [some (.ref (c + 16)), some (.int (iI x))] [.int (iI (s.I 4))] hp _
  refine go_a (pc' := 10) (ls' := [some (.ref (c + 16)), some (.int (iI x))]) (st' := [.int (iI 2000), .int (iI (s.I 4))]) rfl rfl ?_
  refine mi_ge (t := 21) rfl rfl (by omega) (by omega) (by omega) (by omega) (fun q => ?_) (fun q => ?_)
  · exact go_r rfl rfl rfl rfl rfl rfl ⟨rfl, s, hK, hB, kx_rf, TLF_rf, rfl, l4⟩
  · refine go_a (pc' := 14) (ls' := [some (.ref (c + 16)), some (.int (iI x))]) (st' := [.ref (c + 16)]) rfl rfl ?_
    refine go_get (v := .ref (c + 17)) rfl (hK.1 9 (by decide)) rfl rfl ?_
    refine go_a (pc' := 18) (ls' := [some (.ref (c + 16)), some (.int (iI x))]) (st' := [.int (iI x), .ref (c + 17)]) rfl rfl ?_
    refine go_v (m := 35) (as := [.ref (c + 17), .int (iI x)]) (r := []) rfl rfl rfl (hK.1 10 (by decide)) rfl rfl (kr_add_4 z d c x hp s hK hB (by omega) x0 x1) (fun v h1 hq => ?_)
    obtain ⟨rfl, t1, K1, B1, X1, W1, I1, C1, E1, O1⟩ := hq
    show xx_go (xt_P z) (d + 2) 313 21 [some (.ref (c + 16)), some (.int (iI x))] [] h1 _
    exact go_r rfl rfl rfl rfl rfl rfl ⟨rfl, t1, K1, B1, X1, TLF_row W1 (by decide) I1, by rw [I1]; rfl, by rw [I1]; show s.I 4 + 1 ≤ 2000; omega⟩
theorem ke_dig2 (z : Value) (hz : z = .null ∨ ∃ k, z = .ref k) (d c : Nat) (y b : Int) (hp0 : xx_H) (s0 : KS) (hO : OC hp0) (y0 : 0 ≤ y) (y1 : y < 9223372036854775808) (hb : b = 10 ∨ b = 47) : ∀ (f : Nat) (u n : Int) (y7 : Option Value) (t : KS) (hp : xx_H), (64 - n).toNat ≤ f → 0 ≤ n → n ≤ 64 → 0 ≤ u → u < 9223372036854775808 → KI c hp t → KB t → kx c hp0 s0 hp t 0 0 → TLF s0 t → t.I 5 = s0.I 5 → t.I 4 ≤ 2000 → xx_go (xt_P z) (d + 6) 311 39 [some (.ref (c + 16)), some (.long (Int64.ofInt y)), none, some (.int (iI b)), some (.long (Int64.ofInt u)), none, some (.int (iI n)), y7] [] hp (fun v h1 => v = none ∧ ∃ s1 : KS, KI c h1 s1 ∧ KB s1 ∧ kx c hp0 s0 h1 s1 0 0 ∧ TLF s0 s1 ∧ s1.I 5 = s0.I 5 ∧ s1.I 4 ≤ 2000) := by
  intro f
  induction f with
  | zero =>
    intro u n y7 t hp hf n0 n1 u0 u1 hK hB hX hF h5 h4
    have fin : xx_go (xt_P z) (d + 6) 311 99 [some (.ref (c + 16)), some (.long (Int64.ofInt y)), none, some (.int (iI b)), some (.long (Int64.ofInt u)), none, some (.int (iI n)), y7] [] hp (fun v h1 => v = none ∧ ∃ s1 : KS, KI c h1 s1 ∧ KB s1 ∧ kx c hp0 s0 h1 s1 0 0 ∧ TLF s0 s1 ∧ s1.I 5 = s0.I 5 ∧ s1.I 4 ≤ 2000) := by
      exact go_r rfl rfl rfl rfl rfl rfl ⟨rfl, t, hK, hB, hX, hF, h5, h4⟩
    refine go_a (pc' := 41) (ls' := [some (.ref (c + 16)), some (.long (Int64.ofInt y)), none, some (.int (iI b)), some (.long (Int64.ofInt u)), none, some (.int (iI n)), y7]) (st' := [.int (iI n)]) rfl rfl ?_
    refine go_a (pc' := 43) (ls' := [some (.ref (c + 16)), some (.long (Int64.ofInt y)), none, some (.int (iI b)), some (.long (Int64.ofInt u)), none, some (.int (iI n)), y7]) (st' := [.int (iI 64), .int (iI n)]) rfl rfl ?_
    refine mi_ge (t := 99) rfl rfl (by omega) (by omega) (by omega) (by omega) (fun _ => fin) (fun q => absurd (show n ≥ 64 by omega) q)
  | succ f ih =>
    intro u n y7 t hp hf n0 n1 u0 u1 hK hB hX hF h5 h4
    have fin : xx_go (xt_P z) (d + 6) 311 99 [some (.ref (c + 16)), some (.long (Int64.ofInt y)), none, some (.int (iI b)), some (.long (Int64.ofInt u)), none, some (.int (iI n)), y7] [] hp (fun v h1 => v = none ∧ ∃ s1 : KS, KI c h1 s1 ∧ KB s1 ∧ kx c hp0 s0 h1 s1 0 0 ∧ TLF s0 s1 ∧ s1.I 5 = s0.I 5 ∧ s1.I 4 ≤ 2000) := by
      exact go_r rfl rfl rfl rfl rfl rfl ⟨rfl, t, hK, hB, hX, hF, h5, h4⟩
    refine go_a (pc' := 41) (ls' := [some (.ref (c + 16)), some (.long (Int64.ofInt y)), none, some (.int (iI b)), some (.long (Int64.ofInt u)), none, some (.int (iI n)), y7]) (st' := [.int (iI n)]) rfl rfl ?_
    refine go_a (pc' := 43) (ls' := [some (.ref (c + 16)), some (.long (Int64.ofInt y)), none, some (.int (iI b)), some (.long (Int64.ofInt u)), none, some (.int (iI n)), y7]) (st' := [.int (iI 64), .int (iI n)]) rfl rfl ?_
    refine mi_ge (t := 99) rfl rfl (by omega) (by omega) (by omega) (by omega) (fun _ => fin) (fun _ => ?_)
    refine go_a (pc' := 48) (ls' := [some (.ref (c + 16)), some (.long (Int64.ofInt y)), none, some (.int (iI b)), some (.long (Int64.ofInt u)), none, some (.int (iI n)), y7]) (st' := [.long (Int64.ofInt u)]) rfl rfl ?_
    refine go_a (pc' := 49) (ls' := [some (.ref (c + 16)), some (.long (Int64.ofInt y)), none, some (.int (iI b)), some (.long (Int64.ofInt u)), none, some (.int (iI n)), y7]) (st' := [.long (Int64.ofInt 0), .long (Int64.ofInt u)]) rfl rfl ?_
    refine mi_lc_le (t := 99) rfl rfl rfl (by omega) (by omega) (by omega) (by omega) (fun _ => fin) (fun q => ?_)
    have dq : 0 ≤ y / u ∧ y / u ≤ y := ⟨Int.ediv_nonneg y0 u0, Int.ediv_le_self _ y0⟩
    have dm : 0 ≤ y / u % b ∧ y / u % b < b := ⟨Int.emod_nonneg _ (by omega), Int.emod_lt_of_pos _ (by omega)⟩
    have hO1 := OC_kx hO hX
    have ub : 0 ≤ u / b ∧ u / b ≤ u := ⟨Int.ediv_nonneg u0 (by omega), Int.ediv_le_self _ u0⟩
    refine go_a (pc' := 54) (ls' := [some (.ref (c + 16)), some (.long (Int64.ofInt y)), none, some (.int (iI b)), some (.long (Int64.ofInt u)), none, some (.int (iI n)), y7]) (st' := [.long (Int64.ofInt y)]) rfl rfl ?_
    refine go_a (pc' := 56) (ls' := [some (.ref (c + 16)), some (.long (Int64.ofInt y)), none, some (.int (iI b)), some (.long (Int64.ofInt u)), none, some (.int (iI n)), y7]) (st' := [.long (Int64.ofInt u), .long (Int64.ofInt y)]) rfl rfl ?_
    refine mi_ldiv rfl (by omega) (by omega) (by omega) (by omega) ?_
    refine go_a (pc' := 58) (ls' := [some (.ref (c + 16)), some (.long (Int64.ofInt y)), none, some (.int (iI b)), some (.long (Int64.ofInt u)), none, some (.int (iI n)), y7]) (st' := [.int (iI b), .long (Int64.ofInt (y / u))]) rfl rfl ?_
    refine mi_i2l rfl (by omega) (by omega) ?_
    refine mi_lrem rfl (by omega) (by omega) (by omega) (by omega) ?_
    refine mi_l2i rfl (by omega) (by omega) ?_
    refine go_a (pc' := 63) (ls' := [some (.ref (c + 16)), some (.long (Int64.ofInt y)), none, some (.int (iI b)), some (.long (Int64.ofInt u)), none, some (.int (iI n)), some (.int (iI ((y / u) % b)))]) (st' := []) rfl rfl ?_
    refine go_a (pc' := 64) (ls' := [some (.ref (c + 16)), some (.long (Int64.ofInt y)), none, some (.int (iI b)), some (.long (Int64.ofInt u)), none, some (.int (iI n)), some (.int (iI ((y / u) % b)))]) (st' := [.ref (c + 16)]) rfl rfl ?_
    refine go_a (pc' := 65) (ls' := [some (.ref (c + 16)), some (.long (Int64.ofInt y)), none, some (.int (iI b)), some (.long (Int64.ofInt u)), none, some (.int (iI n)), some (.int (iI ((y / u) % b)))]) (st' := [.int (iI b), .ref (c + 16)]) rfl rfl ?_
    refine go_a (pc' := 67) (ls' := [some (.ref (c + 16)), some (.long (Int64.ofInt y)), none, some (.int (iI b)), some (.long (Int64.ofInt u)), none, some (.int (iI n)), some (.int (iI ((y / u) % b)))]) (st' := [.int (iI 10), .int (iI b), .ref (c + 16)]) rfl rfl ?_
    refine mi_ne (t := 78) rfl rfl (by omega) (by omega) (by omega) (by omega) (fun q2 => ?_) (fun q2 => ?_)
    · refine go_a (pc' := 80) (ls' := [some (.ref (c + 16)), some (.long (Int64.ofInt y)), none, some (.int (iI b)), some (.long (Int64.ofInt u)), none, some (.int (iI n)), some (.int (iI ((y / u) % b)))]) (st' := [.int (iI ((y / u) % b)), .ref (c + 16)]) rfl rfl ?_
      refine go_s (m := 312) (as := [.int (iI ((y / u) % b))]) (r := [.ref (c + 16)]) rfl rfl rfl rfl (kt_letterOf z hz (d + 1) (y / u % b) hp hO1 (by omega) (by omega)) (fun v h1 hq => ?_)
      obtain ⟨⟨x, hx, rfl⟩, e⟩ := hq
      rw [e]
      clear e h1
      show xx_go (xt_P z) (d + 6) 311 83 [some (.ref (c + 16)), some (.long (Int64.ofInt y)), none, some (.int (iI b)), some (.long (Int64.ofInt u)), none, some (.int (iI n)), some (.int (iI ((y / u) % b)))] [.int (iI x), .ref (c + 16)] hp _
      have rv : -2147483648 ≤ x ∧ x ≤ 2147483647 := by omega
      refine go_v (m := 313) (as := [.ref (c + 16), .int (iI x)]) (r := []) rfl rfl rfl (hK.1 9 (by decide)) rfl rfl (ke_put z (d + 3) c (x) hp t hK hB h4 rv.1 rv.2) (fun v h1 hq => ?_)
      obtain ⟨rfl, t1, K1, B1, X1, F1, e5, e4⟩ := hq
      show xx_go (xt_P z) (d + 6) 311 86 [some (.ref (c + 16)), some (.long (Int64.ofInt y)), none, some (.int (iI b)), some (.long (Int64.ofInt u)), none, some (.int (iI n)), some (.int (iI ((y / u) % b)))] [] h1 _
      refine go_a (pc' := 88) (ls' := [some (.ref (c + 16)), some (.long (Int64.ofInt y)), none, some (.int (iI b)), some (.long (Int64.ofInt u)), none, some (.int (iI n)), some (.int (iI ((y / u) % b)))]) (st' := [.long (Int64.ofInt u)]) rfl rfl ?_
      refine go_a (pc' := 89) (ls' := [some (.ref (c + 16)), some (.long (Int64.ofInt y)), none, some (.int (iI b)), some (.long (Int64.ofInt u)), none, some (.int (iI n)), some (.int (iI ((y / u) % b)))]) (st' := [.int (iI b), .long (Int64.ofInt u)]) rfl rfl ?_
      refine mi_i2l rfl (by omega) (by omega) ?_
      refine mi_ldiv rfl (by omega) (by omega) (by omega) (by omega) ?_
      refine go_a (pc' := 93) (ls' := [some (.ref (c + 16)), some (.long (Int64.ofInt y)), none, some (.int (iI b)), some (.long (Int64.ofInt (u / b))), none, some (.int (iI n)), some (.int (iI ((y / u) % b)))]) (st' := []) rfl rfl ?_
      refine go_a (pc' := 96) (ls' := [some (.ref (c + 16)), some (.long (Int64.ofInt y)), none, some (.int (iI b)), some (.long (Int64.ofInt (u / b))), none, some (.int (iI (n + 1))), some (.int (iI ((y / u) % b)))]) (st' := []) rfl (by rw [← iI_add n 1]; rfl) ?_
      refine go_a (pc' := 39) (ls' := [some (.ref (c + 16)), some (.long (Int64.ofInt y)), none, some (.int (iI b)), some (.long (Int64.ofInt (u / b))), none, some (.int (iI (n + 1))), some (.int (iI ((y / u) % b)))]) (st' := []) rfl rfl ?_
      exact ih (u / b) (n + 1) _ t1 h1 (by omega) (by omega) (by omega) ub.1 (by omega) K1 B1 (kx_tr hX X1) (TLF_tr hF F1) (e5.trans h5) e4
    · refine go_a (pc' := 72) (ls' := [some (.ref (c + 16)), some (.long (Int64.ofInt y)), none, some (.int (iI b)), some (.long (Int64.ofInt u)), none, some (.int (iI n)), some (.int (iI ((y / u) % b)))]) (st' := [.int (iI 48), .ref (c + 16)]) rfl rfl ?_
      refine go_a (pc' := 74) (ls' := [some (.ref (c + 16)), some (.long (Int64.ofInt y)), none, some (.int (iI b)), some (.long (Int64.ofInt u)), none, some (.int (iI n)), some (.int (iI ((y / u) % b)))]) (st' := [.int (iI ((y / u) % b)), .int (iI 48), .ref (c + 16)]) rfl rfl ?_
      refine mi_add rfl ?_
      refine go_a (pc' := 83) (ls' := [some (.ref (c + 16)), some (.long (Int64.ofInt y)), none, some (.int (iI b)), some (.long (Int64.ofInt u)), none, some (.int (iI n)), some (.int (iI ((y / u) % b)))]) (st' := [.int (iI (48 + ((y / u) % b))), .ref (c + 16)]) rfl rfl ?_
      have rv : -2147483648 ≤ 48 + y / u % b ∧ 48 + y / u % b ≤ 2147483647 := by omega
      refine go_v (m := 313) (as := [.ref (c + 16), .int (iI (48 + ((y / u) % b)))]) (r := []) rfl rfl rfl (hK.1 9 (by decide)) rfl rfl (ke_put z (d + 3) c (48 + y / u % b) hp t hK hB h4 rv.1 rv.2) (fun v h1 hq => ?_)
      obtain ⟨rfl, t1, K1, B1, X1, F1, e5, e4⟩ := hq
      show xx_go (xt_P z) (d + 6) 311 86 [some (.ref (c + 16)), some (.long (Int64.ofInt y)), none, some (.int (iI b)), some (.long (Int64.ofInt u)), none, some (.int (iI n)), some (.int (iI ((y / u) % b)))] [] h1 _
      refine go_a (pc' := 88) (ls' := [some (.ref (c + 16)), some (.long (Int64.ofInt y)), none, some (.int (iI b)), some (.long (Int64.ofInt u)), none, some (.int (iI n)), some (.int (iI ((y / u) % b)))]) (st' := [.long (Int64.ofInt u)]) rfl rfl ?_
      refine go_a (pc' := 89) (ls' := [some (.ref (c + 16)), some (.long (Int64.ofInt y)), none, some (.int (iI b)), some (.long (Int64.ofInt u)), none, some (.int (iI n)), some (.int (iI ((y / u) % b)))]) (st' := [.int (iI b), .long (Int64.ofInt u)]) rfl rfl ?_
      refine mi_i2l rfl (by omega) (by omega) ?_
      refine mi_ldiv rfl (by omega) (by omega) (by omega) (by omega) ?_
      refine go_a (pc' := 93) (ls' := [some (.ref (c + 16)), some (.long (Int64.ofInt y)), none, some (.int (iI b)), some (.long (Int64.ofInt (u / b))), none, some (.int (iI n)), some (.int (iI ((y / u) % b)))]) (st' := []) rfl rfl ?_
      refine go_a (pc' := 96) (ls' := [some (.ref (c + 16)), some (.long (Int64.ofInt y)), none, some (.int (iI b)), some (.long (Int64.ofInt (u / b))), none, some (.int (iI (n + 1))), some (.int (iI ((y / u) % b)))]) (st' := []) rfl (by rw [← iI_add n 1]; rfl) ?_
      refine go_a (pc' := 39) (ls' := [some (.ref (c + 16)), some (.long (Int64.ofInt y)), none, some (.int (iI b)), some (.long (Int64.ofInt (u / b))), none, some (.int (iI (n + 1))), some (.int (iI ((y / u) % b)))]) (st' := []) rfl rfl ?_
      exact ih (u / b) (n + 1) _ t1 h1 (by omega) (by omega) (by omega) ub.1 (by omega) K1 B1 (kx_tr hX X1) (TLF_tr hF F1) (e5.trans h5) e4
theorem ke_dig1 (z : Value) (hz : z = .null ∨ ∃ k, z = .ref k) (d c : Nat) (y b : Int) (hp0 : xx_H) (s0 : KS) (hO : OC hp0) (hK : KI c hp0 s0) (hB : KB s0) (l4 : s0.I 4 ≤ 2000) (y0 : 0 ≤ y) (y1 : y < 9223372036854775808) (hb : b = 10 ∨ b = 47) : ∀ (f : Nat) (u n : Int), (64 - n).toNat ≤ f → 0 ≤ n → n ≤ 64 → 1 ≤ u → u < 9223372036854775808 → xx_go (xt_P z) (d + 6) 311 6 [some (.ref (c + 16)), some (.long (Int64.ofInt y)), none, some (.int (iI b)), some (.long (Int64.ofInt u)), none, some (.int (iI n)), none] [] hp0 (fun v h1 => v = none ∧ ∃ s1 : KS, KI c h1 s1 ∧ KB s1 ∧ kx c hp0 s0 h1 s1 0 0 ∧ TLF s0 s1 ∧ s1.I 5 = s0.I 5 ∧ s1.I 4 ≤ 2000) := by
  intro f
  induction f with
  | zero =>
    intro u n hf n0 n1 u0 u1
    have fin : xx_go (xt_P z) (d + 6) 311 36 [some (.ref (c + 16)), some (.long (Int64.ofInt y)), none, some (.int (iI b)), some (.long (Int64.ofInt u)), none, some (.int (iI n)), none] [] hp0 (fun v h1 => v = none ∧ ∃ s1 : KS, KI c h1 s1 ∧ KB s1 ∧ kx c hp0 s0 h1 s1 0 0 ∧ TLF s0 s1 ∧ s1.I 5 = s0.I 5 ∧ s1.I 4 ≤ 2000) := by
      refine go_a (pc' := 37) (ls' := [some (.ref (c + 16)), some (.long (Int64.ofInt y)), none, some (.int (iI b)), some (.long (Int64.ofInt u)), none, some (.int (iI n)), none]) (st' := [.int (iI 0)]) rfl rfl ?_
      refine go_a (pc' := 39) (ls' := [some (.ref (c + 16)), some (.long (Int64.ofInt y)), none, some (.int (iI b)), some (.long (Int64.ofInt u)), none, some (.int (iI 0)), none]) (st' := []) rfl rfl ?_
      exact ke_dig2 z hz d c y b hp0 s0 hO y0 y1 hb _ u 0 none s0 hp0 (Nat.le_refl _) (by decide) (by decide) (by omega) u1 hK hB kx_rf TLF_rf rfl l4
    refine go_a (pc' := 8) (ls' := [some (.ref (c + 16)), some (.long (Int64.ofInt y)), none, some (.int (iI b)), some (.long (Int64.ofInt u)), none, some (.int (iI n)), none]) (st' := [.int (iI n)]) rfl rfl ?_
    refine go_a (pc' := 10) (ls' := [some (.ref (c + 16)), some (.long (Int64.ofInt y)), none, some (.int (iI b)), some (.long (Int64.ofInt u)), none, some (.int (iI n)), none]) (st' := [.int (iI 64), .int (iI n)]) rfl rfl ?_
    refine mi_ge (t := 36) rfl rfl (by omega) (by omega) (by omega) (by omega) (fun _ => fin) (fun q => absurd (show n ≥ 64 by omega) q)
  | succ f ih =>
    intro u n hf n0 n1 u0 u1
    have fin : xx_go (xt_P z) (d + 6) 311 36 [some (.ref (c + 16)), some (.long (Int64.ofInt y)), none, some (.int (iI b)), some (.long (Int64.ofInt u)), none, some (.int (iI n)), none] [] hp0 (fun v h1 => v = none ∧ ∃ s1 : KS, KI c h1 s1 ∧ KB s1 ∧ kx c hp0 s0 h1 s1 0 0 ∧ TLF s0 s1 ∧ s1.I 5 = s0.I 5 ∧ s1.I 4 ≤ 2000) := by
      refine go_a (pc' := 37) (ls' := [some (.ref (c + 16)), some (.long (Int64.ofInt y)), none, some (.int (iI b)), some (.long (Int64.ofInt u)), none, some (.int (iI n)), none]) (st' := [.int (iI 0)]) rfl rfl ?_
      refine go_a (pc' := 39) (ls' := [some (.ref (c + 16)), some (.long (Int64.ofInt y)), none, some (.int (iI b)), some (.long (Int64.ofInt u)), none, some (.int (iI 0)), none]) (st' := []) rfl rfl ?_
      exact ke_dig2 z hz d c y b hp0 s0 hO y0 y1 hb _ u 0 none s0 hp0 (Nat.le_refl _) (by decide) (by decide) (by omega) u1 hK hB kx_rf TLF_rf rfl l4
    refine go_a (pc' := 8) (ls' := [some (.ref (c + 16)), some (.long (Int64.ofInt y)), none, some (.int (iI b)), some (.long (Int64.ofInt u)), none, some (.int (iI n)), none]) (st' := [.int (iI n)]) rfl rfl ?_
    refine go_a (pc' := 10) (ls' := [some (.ref (c + 16)), some (.long (Int64.ofInt y)), none, some (.int (iI b)), some (.long (Int64.ofInt u)), none, some (.int (iI n)), none]) (st' := [.int (iI 64), .int (iI n)]) rfl rfl ?_
    refine mi_ge (t := 36) rfl rfl (by omega) (by omega) (by omega) (by omega) (fun _ => fin) (fun _ => ?_)
    have dq : 0 ≤ y / u ∧ y / u ≤ y := ⟨Int.ediv_nonneg y0 (by omega), Int.ediv_le_self _ y0⟩
    refine go_a (pc' := 14) (ls' := [some (.ref (c + 16)), some (.long (Int64.ofInt y)), none, some (.int (iI b)), some (.long (Int64.ofInt u)), none, some (.int (iI n)), none]) (st' := [.long (Int64.ofInt y)]) rfl rfl ?_
    refine go_a (pc' := 16) (ls' := [some (.ref (c + 16)), some (.long (Int64.ofInt y)), none, some (.int (iI b)), some (.long (Int64.ofInt u)), none, some (.int (iI n)), none]) (st' := [.long (Int64.ofInt u), .long (Int64.ofInt y)]) rfl rfl ?_
    refine mi_ldiv rfl (by omega) (by omega) (by omega) (by omega) ?_
    refine go_a (pc' := 18) (ls' := [some (.ref (c + 16)), some (.long (Int64.ofInt y)), none, some (.int (iI b)), some (.long (Int64.ofInt u)), none, some (.int (iI n)), none]) (st' := [.int (iI b), .long (Int64.ofInt (y / u))]) rfl rfl ?_
    refine mi_i2l rfl (by omega) (by omega) ?_
    refine mi_lc_lt (t := 36) rfl rfl rfl (by omega) (by omega) (by omega) (by omega) (fun _ => fin) (fun q => ?_)
    refine go_a (pc' := 25) (ls' := [some (.ref (c + 16)), some (.long (Int64.ofInt y)), none, some (.int (iI b)), some (.long (Int64.ofInt u)), none, some (.int (iI n)), none]) (st' := [.long (Int64.ofInt u)]) rfl rfl ?_
    refine go_a (pc' := 26) (ls' := [some (.ref (c + 16)), some (.long (Int64.ofInt y)), none, some (.int (iI b)), some (.long (Int64.ofInt u)), none, some (.int (iI n)), none]) (st' := [.int (iI b), .long (Int64.ofInt u)]) rfl rfl ?_
    refine mi_i2l rfl (by omega) (by omega) ?_
    refine mi_lmul rfl ?_
    refine go_a (pc' := 30) (ls' := [some (.ref (c + 16)), some (.long (Int64.ofInt y)), none, some (.int (iI b)), some (.long (Int64.ofInt (u * b))), none, some (.int (iI n)), none]) (st' := []) rfl rfl ?_
    refine go_a (pc' := 33) (ls' := [some (.ref (c + 16)), some (.long (Int64.ofInt y)), none, some (.int (iI b)), some (.long (Int64.ofInt (u * b))), none, some (.int (iI (n + 1))), none]) (st' := []) rfl (by rw [← iI_add n 1]; rfl) ?_
    refine go_a (pc' := 6) (ls' := [some (.ref (c + 16)), some (.long (Int64.ofInt y)), none, some (.int (iI b)), some (.long (Int64.ofInt (u * b))), none, some (.int (iI (n + 1))), none]) (st' := []) rfl rfl ?_
    have ub : b ≤ y / u := by omega
    have um : b * u ≤ y := (Int.le_ediv_iff_mul_le (by omega)).mp ub
    have um2 : u * b ≤ y := by rw [Int.mul_comm]; exact um
    have u3 : 1 ≤ u * b := by
      have := Int.mul_le_mul u0 (show 1 ≤ b by omega) (by decide) (by omega)
      omega
    exact ih (u * b) (n + 1) (by omega) (by omega) (by omega) u3 (by omega)
theorem ke_digits (z : Value) (hz : z = .null ∨ ∃ k, z = .ref k) (d c : Nat) (y b : Int) (hp : xx_H) (s : KS) (hK : KI c hp s) (hB : KB s) (hO : OC hp) (l4 : s.I 4 ≤ 2000) (y0 : 0 ≤ y) (y1 : y < 9223372036854775808) (hb : b = 10 ∨ b = 47) : xx_cl (xt_P z) (d + 7) 311 [.ref (c + 16), .long (Int64.ofInt y), .int (iI b)] hp (fun v h1 => v = none ∧ ∃ s1 : KS, KI c h1 s1 ∧ KB s1 ∧ kx c hp s h1 s1 0 0 ∧ TLF s s1 ∧ s1.I 5 = s.I 5 ∧ s1.I 4 ≤ 2000) := by
  refine cl_go rfl ?_
  show xx_go (xt_P z) (d + 6) 311 0 [some (.ref (c + 16)), some (.long (Int64.ofInt y)), none, some (.int (iI b)), none, none, none, none] [] hp _
  refine go_a (pc' := 1) (ls' := [some (.ref (c + 16)), some (.long (Int64.ofInt y)), none, some (.int (iI b)), none, none, none, none]) (st' := [.long (Int64.ofInt 1)]) rfl rfl ?_
  refine go_a (pc' := 3) (ls' := [some (.ref (c + 16)), some (.long (Int64.ofInt y)), none, some (.int (iI b)), some (.long (Int64.ofInt 1)), none, none, none]) (st' := []) rfl rfl ?_
  refine go_a (pc' := 4) (ls' := [some (.ref (c + 16)), some (.long (Int64.ofInt y)), none, some (.int (iI b)), some (.long (Int64.ofInt 1)), none, none, none]) (st' := [.int (iI 0)]) rfl rfl ?_
  refine go_a (pc' := 6) (ls' := [some (.ref (c + 16)), some (.long (Int64.ofInt y)), none, some (.int (iI b)), some (.long (Int64.ofInt 1)), none, some (.int (iI 0)), none]) (st' := []) rfl rfl ?_
  exact ke_dig1 z hz d c y b hp s hO hK hB l4 y0 y1 hb _ 1 0 (Nat.le_refl _) (by decide) (by decide) (by decide) (by decide)
theorem ke_atom (z : Value) (hz : z = .null ∨ ∃ k, z = .ref k) (d c : Nat) (k : Int) (hp : xx_H) (s : KS) (hK : KI c hp s) (hB : KB s) (hO : OC hp) (l4 : s.I 4 ≤ 2000) (k0 : -2147483648 ≤ k) (k1 : k ≤ 2147483647) : xx_cl (xt_P z) (d + 8) 310 [.ref (c + 16), .int (iI k)] hp (fun v h1 => v = none ∧ ∃ s1 : KS, KI c h1 s1 ∧ KB s1 ∧ kx c hp s h1 s1 0 0 ∧ TLF s s1 ∧ s1.I 5 = s.I 5 ∧ s1.I 4 ≤ 2000) := by
  refine cl_go rfl ?_
  show xx_go (xt_P z) (d + 7) 310 0 [some (.ref (c + 16)), some (.int (iI k))] [] hp _
  refine go_a (pc' := 1) (ls' := [some (.ref (c + 16)), some (.int (iI k))]) (st' := [.ref (c + 16)]) rfl rfl ?_
  refine go_get (v := .ref (c + 4)) rfl (hK.1 9 (by decide)) rfl rfl ?_
  refine go_a (pc' := 5) (ls' := [some (.ref (c + 16)), some (.int (iI k))]) (st' := [.int (iI k), .ref (c + 4)]) rfl rfl ?_
  refine go_v (m := 256) (as := [.ref (c + 4), .int (iI k)]) (r := []) rfl rfl rfl (hK.1 3 (by decide)) rfl rfl (kc_isNatural z (d + 6) c k hp s hK hB k0 k1) (fun v h1 hq => ?_)
  obtain ⟨hq, e⟩ := hq
  rw [e]
  clear e h1
  rcases hq with ⟨q1, rfl⟩ | ⟨q1, rfl⟩
  · show xx_go (xt_P z) (d + 7) 310 8 [some (.ref (c + 16)), some (.int (iI k))] [.int (iI 1)] hp _
    refine mi_eq0 (t := 28) rfl rfl (by omega) (by omega) (fun q => absurd q (by decide)) (fun _ => ?_)
    refine go_a (pc' := 12) (ls' := [some (.ref (c + 16)), some (.int (iI k))]) (st' := [.ref (c + 16)]) rfl rfl ?_
    refine go_a (pc' := 13) (ls' := [some (.ref (c + 16)), some (.int (iI k))]) (st' := [.ref (c + 16), .ref (c + 16)]) rfl rfl ?_
    refine go_get (v := .ref (c + 4)) rfl (hK.1 9 (by decide)) rfl rfl ?_
    refine go_a (pc' := 17) (ls' := [some (.ref (c + 16)), some (.int (iI k))]) (st' := [.int (iI k), .ref (c + 4), .ref (c + 16)]) rfl rfl ?_
    refine go_v (m := 255) (as := [.ref (c + 4), .int (iI k)]) (r := [.ref (c + 16)]) rfl rfl rfl (hK.1 3 (by decide)) rfl rfl (kc_value z (d + 5) c k hp s hK hB k0 k1) (fun v h1 hq => ?_)
    obtain ⟨⟨y, rfl, y0, y1⟩, e⟩ := hq
    rw [e]
    clear e h1
    show xx_go (xt_P z) (d + 7) 310 20 [some (.ref (c + 16)), some (.int (iI k))] [.long (Int64.ofInt y), .ref (c + 16)] hp _
    refine go_a (pc' := 22) (ls' := [some (.ref (c + 16)), some (.int (iI k))]) (st' := [.int (iI 10), .long (Int64.ofInt y), .ref (c + 16)]) rfl rfl ?_
    refine go_v (m := 311) (as := [.ref (c + 16), .long (Int64.ofInt y), .int (iI 10)]) (r := []) rfl rfl rfl (hK.1 9 (by decide)) rfl rfl (ke_digits z hz d c y 10 hp s hK hB hO l4 y0 (by omega) (Or.inl rfl)) (fun v h1 hq => ?_)
    obtain ⟨rfl, hq⟩ := hq
    show xx_go (xt_P z) (d + 7) 310 25 [some (.ref (c + 16)), some (.int (iI k))] [] h1 _
    refine go_a (pc' := 47) (ls' := [some (.ref (c + 16)), some (.int (iI k))]) (st' := []) rfl rfl ?_
    exact go_r rfl rfl rfl rfl rfl rfl ⟨rfl, hq⟩
  · show xx_go (xt_P z) (d + 7) 310 8 [some (.ref (c + 16)), some (.int (iI k))] [.int (iI 0)] hp _
    refine mi_eq0 (t := 28) rfl rfl (by omega) (by omega) (fun _ => ?_) (fun q => absurd rfl q)
    refine go_a (pc' := 29) (ls' := [some (.ref (c + 16)), some (.int (iI k))]) (st' := [.ref (c + 16)]) rfl rfl ?_
    refine go_a (pc' := 30) (ls' := [some (.ref (c + 16)), some (.int (iI k))]) (st' := [.ref (c + 16), .ref (c + 16)]) rfl rfl ?_
    refine go_get (v := .ref (c + 4)) rfl (hK.1 9 (by decide)) rfl rfl ?_
    refine go_a (pc' := 34) (ls' := [some (.ref (c + 16)), some (.int (iI k))]) (st' := [.int (iI k), .ref (c + 4), .ref (c + 16)]) rfl rfl ?_
    refine go_v (m := 314) (as := [.ref (c + 4), .int (iI k)]) (r := [.ref (c + 16)]) rfl rfl rfl (hK.1 3 (by decide)) rfl rfl (kc_code z (d + 5) c k hp s hK hB k0 k1) (fun v h1 hq => ?_)
    obtain ⟨⟨y, rfl, y0, y1⟩, e⟩ := hq
    rw [e]
    clear e h1
    show xx_go (xt_P z) (d + 7) 310 37 [some (.ref (c + 16)), some (.int (iI k))] [.long (Int64.ofInt y), .ref (c + 16)] hp _
    refine go_b (pc' := 39) (st' := [.ref 7, .long (Int64.ofInt y), .ref (c + 16)]) (h' := hp) rfl rfl rfl ?_
    refine go_v (m := 6) (as := [.ref 7]) (r := [.long (Int64.ofInt y), .ref (c + 16)]) rfl rfl rfl hO.1 rfl rfl (kt_len z (d + 5) hp hO) (fun v h1 hq => ?_)
    obtain ⟨rfl, e⟩ := hq
    rw [e]
    clear e h1
    show xx_go (xt_P z) (d + 7) 310 42 [some (.ref (c + 16)), some (.int (iI k))] [.int (iI 46), .long (Int64.ofInt y), .ref (c + 16)] hp _
    refine go_a (pc' := 43) (ls' := [some (.ref (c + 16)), some (.int (iI k))]) (st' := [.int (iI 1), .int (iI 46), .long (Int64.ofInt y), .ref (c + 16)]) rfl rfl ?_
    refine mi_add rfl ?_
    refine go_v (m := 311) (as := [.ref (c + 16), .long (Int64.ofInt y), .int (iI (46 + 1))]) (r := []) rfl rfl rfl (hK.1 9 (by decide)) rfl rfl (ke_digits z hz d c y (46 + 1) hp s hK hB hO l4 y0 y1 (Or.inr rfl)) (fun v h1 hq => ?_)
    obtain ⟨rfl, hq⟩ := hq
    show xx_go (xt_P z) (d + 7) 310 47 [some (.ref (c + 16)), some (.int (iI k))] [] h1 _
    exact go_r rfl rfl rfl rfl rfl rfl ⟨rfl, hq⟩
