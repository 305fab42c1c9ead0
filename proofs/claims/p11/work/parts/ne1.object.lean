def PFR (s s1 : KS) : Prop := s1.T = s.T ∧ (∀ j : Nat, j ≤ 5 ∨ 12 ≤ j → s1.A j = s.A j ∧ s1.C j = s.C j ∧ s1.P j = s.P j) ∧ (∀ j : Nat, j ≠ 6 → j ≠ 7 → j ≠ 8 → j ≠ 17 → j ≠ 18 → j ≠ 19 → s1.I j = s.I j) ∧ s.I 8 ≤ s1.I 8 ∧ ∀ e : Int, e < s.I 8 → s1.N e = s.N e ∧ s1.A 9 e = s.A 9 e
section PFS
variable {s s1 s2 : KS} {n : Int}
theorem PFR_rf : PFR s s := ⟨rfl, fun _ _ => ⟨rfl, rfl, rfl⟩, fun _ _ _ _ _ _ _ => rfl, Int.le_refl _, fun _ _ => ⟨rfl, rfl⟩⟩
theorem PFR_tr (a : PFR s s1) (b : PFR s1 s2) : PFR s s2 := by
  obtain ⟨a1, a2, a3, a4, a5⟩ := a
  obtain ⟨b1, b2, b3, b4, b5⟩ := b
  refine ⟨b1.trans a1, fun j h => ⟨(b2 j h).1.trans (a2 j h).1, (b2 j h).2.1.trans (a2 j h).2.1, (b2 j h).2.2.trans (a2 j h).2.2⟩, fun j p q r t u w => (b3 j p q r t u w).trans (a3 j p q r t u w), by omega, fun e he => ⟨(b5 e (by omega)).1.trans (a5 e he).1, (b5 e (by omega)).2.trans (a5 e he).2⟩⟩
theorem TF_P (h : TF s s1) : PFR s s1 := ⟨h.2.1, fun j q => h.2.2.1 j (by omega) (by omega), fun j p q _ _ _ _ => h.2.2.2 j p q, Int.le_of_eq (h.2.2.2 8 (by decide) (by decide)).symm, fun e _ => ⟨by rw [h.1], by rw [(h.2.2.1 9 (by decide) (by decide)).1]⟩⟩
theorem KGR_P (h : KGR s s1 n) : PFR s s1 := ⟨h.1.1, fun j q => ⟨h.1.2.1 j (by omega) (by omega) (by omega), h.1.2.2.1 j (by omega) (by omega) (by omega)⟩, fun j _ _ q _ _ _ => h.1.2.2.2 j q, h.2.1, h.2.2.2⟩
theorem PFR_wI {j : Nat} {x : Int} (hj : 17 ≤ j ∧ j ≤ 19) : PFR s (s.wI j x) := ⟨rfl, fun _ _ => ⟨rfl, rfl, rfl⟩, fun i _ _ _ p q r => su_ne (by omega), Int.le_of_eq (su_ne (by omega)).symm, fun _ _ => ⟨rfl, rfl⟩⟩
theorem PFR_OB (h : PFR s s1) {k : Int} (ho : OB s k) : OB s1 k := ⟨ho.1, by have := h.2.2.2.1; have := ho.2; omega⟩
theorem PFR_SD (h : PFR s s1) {k : Int} (hk : k < s.I 8) : SD s1 1 k = SD s 1 k ∧ SD s1 2 k = SD s 2 k := by
  have e := (h.2.2.2.2 k hk).1
  show (if s1.N k < 0 then sd1 (s1.N k) else if 4611686018427387904 ≤ s1.N k then -2 else -1) = (if s.N k < 0 then sd1 (s.N k) else if 4611686018427387904 ≤ s.N k then -2 else -1) ∧ (if s1.N k < 0 then sd2 (s1.N k) else 0) = (if s.N k < 0 then sd2 (s.N k) else 0)
  rw [e]
  exact ⟨rfl, rfl⟩
theorem PFR_WD (h : PFR s s1) (hC : CI s) {k : Int} (ho : OB s k) : WD (SD s1) k = WD (SD s) k ∧ VD (SD s1) k = VD (SD s) k := WD_ext (I := UI s) hC.1 (fun e e0 e1 => PFR_SD h e1) k ho.1 ho.2
end PFS
theorem kg_leafObject (z : Value) (d c : Nat) (x u : Int) (hp : xx_H) (s : KS) (hK : KI c hp s) (hB : KB s) (hC : CX s) (lt : s.I 8 < 32000) (hx : TVx u x) (hu : u ≤ s.I 8) : xx_cl (xt_P z) (d + 4) 301 [.ref (c + 25), .int (iI x)] hp (fun v h1 => ∃ (y : Int) (s1 : KS), v = some (.int (iI y)) ∧ KI c h1 s1 ∧ KB s1 ∧ CX s1 ∧ kx c hp s h1 s1 0 0 ∧ KGR s s1 2 ∧ OB s1 y) := by
  have x1 := hx.1
  have x2 := hx.2.1
  have x3 := hx.2.2.2
  have ow : OB s (x / 32) := ⟨by omega, by omega⟩
  have b8 := hB.2.2.2.2.2.1
  have o0 : OB s 0 := ⟨by decide, by omega⟩
  have o2 : OB s 2 := ⟨by decide, by omega⟩
  refine cl_go rfl ?_
  show xx_go (xt_P z) (d + 3) 301 0 [some (.ref (c + 25)), some (.int (iI x)), none, none] [] hp _
  refine go_a (pc' := 1) (ls' := [some (.ref (c + 25)), some (.int (iI x)), none, none]) (st' := [.int (iI x)]) rfl rfl ?_
  refine go_s (m := 251) (as := [.int (iI x)]) (r := []) rfl rfl rfl rfl (kg_what z (d + 2) x hp (by omega) x2) (fun v h3 hq => ?_)
  obtain ⟨rfl, e⟩ := hq
  rw [e]
  clear e h3
  show xx_go (xt_P z) (d + 3) 301 4 [some (.ref (c + 25)), some (.int (iI x)), none, none] [.int (iI (x / 32))] hp _
  refine go_a (pc' := 5) (ls' := [some (.ref (c + 25)), some (.int (iI x)), some (.int (iI (x / 32))), none]) (st' := []) rfl rfl ?_
  refine go_a (pc' := 6) (ls' := [some (.ref (c + 25)), some (.int (iI x)), some (.int (iI (x / 32))), none]) (st' := [.ref (c + 25)]) rfl rfl ?_
  refine go_get (v := .ref (c + 4)) rfl (hK.1 16 (by decide)) rfl rfl ?_
  refine go_a (pc' := 10) (ls' := [some (.ref (c + 25)), some (.int (iI x)), some (.int (iI (x / 32))), none]) (st' := [.int (iI (x / 32)), .ref (c + 4)]) rfl rfl ?_
  have br : ∀ y3 : Option Value, xx_go (xt_P z) (d + 3) 301 42 [some (.ref (c + 25)), some (.int (iI x)), some (.int (iI (x / 32))), y3] [] hp (fun v h1 => ∃ (y : Int) (s1 : KS), v = some (.int (iI y)) ∧ KI c h1 s1 ∧ KB s1 ∧ CX s1 ∧ kx c hp s h1 s1 0 0 ∧ KGR s s1 2 ∧ OB s1 y) := by
    intro y3
    refine go_a (pc' := 43) (ls' := [some (.ref (c + 25)), some (.int (iI x)), some (.int (iI (x / 32))), y3]) (st' := [.int (iI (x / 32))]) rfl rfl ?_
    refine go_a (pc' := 63) (ls' := [some (.ref (c + 25)), some (.int (iI x)), some (.int (iI (x / 32))), y3]) (st' := [.int (iI (x / 32))]) rfl rfl ?_
    exact go_r rfl rfl rfl rfl rfl rfl ⟨x / 32, s, rfl, hK, hB, hC, kx_rf, KGR_w KGR_rf (by decide), ow⟩
  have qu : ∀ y3 : Option Value, xx_go (xt_P z) (d + 3) 301 46 [some (.ref (c + 25)), some (.int (iI x)), some (.int (iI (x / 32))), y3] [] hp (fun v h1 => ∃ (y : Int) (s1 : KS), v = some (.int (iI y)) ∧ KI c h1 s1 ∧ KB s1 ∧ CX s1 ∧ kx c hp s h1 s1 0 0 ∧ KGR s s1 2 ∧ OB s1 y) := by
    intro y3
    refine go_a (pc' := 47) (ls' := [some (.ref (c + 25)), some (.int (iI x)), some (.int (iI (x / 32))), y3]) (st' := [.ref (c + 25)]) rfl rfl ?_
    refine go_get (v := .ref (c + 4)) rfl (hK.1 16 (by decide)) rfl rfl ?_
    refine go_a (pc' := 51) (ls' := [some (.ref (c + 25)), some (.int (iI x)), some (.int (iI (x / 32))), y3]) (st' := [.int (iI 2), .ref (c + 4)]) rfl rfl ?_
    refine go_a (pc' := 52) (ls' := [some (.ref (c + 25)), some (.int (iI x)), some (.int (iI (x / 32))), y3]) (st' := [.ref (c + 25), .int (iI 2), .ref (c + 4)]) rfl rfl ?_
    refine go_get (v := .ref (c + 4)) rfl (hK.1 16 (by decide)) rfl rfl ?_
    refine go_a (pc' := 56) (ls' := [some (.ref (c + 25)), some (.int (iI x)), some (.int (iI (x / 32))), y3]) (st' := [.int (iI (x / 32)), .ref (c + 4), .int (iI 2), .ref (c + 4)]) rfl rfl ?_
    refine go_a (pc' := 57) (ls' := [some (.ref (c + 25)), some (.int (iI x)), some (.int (iI (x / 32))), y3]) (st' := [.int (iI 0), .int (iI (x / 32)), .ref (c + 4), .int (iI 2), .ref (c + 4)]) rfl rfl ?_
    refine go_v (m := 194) (as := [.ref (c + 4), .int (iI (x / 32)), .int (iI 0)]) (r := [.int (iI 2), .ref (c + 4)]) rfl rfl rfl (hK.1 3 (by decide)) rfl rfl (kc_pairX z d c (x / 32) 0 hp s hK hB hC (by omega) ow.1 ow.2 o0.1 o0.2) (fun v h1 hq => ?_)
    obtain ⟨k1, s1, rfl, K1, B1, C1, X1, G1, O1, -⟩ := hq
    show xx_go (xt_P z) (d + 3) 301 60 [some (.ref (c + 25)), some (.int (iI x)), some (.int (iI (x / 32))), y3] [.int (iI k1), .int (iI 2), .ref (c + 4)] h1 _
    have g1 := G1.2.2.1
    have o21 : OB s1 2 := PFR_OB (KGR_P G1) o2
    refine go_v (m := 194) (as := [.ref (c + 4), .int (iI 2), .int (iI k1)]) (r := []) rfl rfl rfl (K1.1 3 (by decide)) rfl rfl (kc_pairX z d c 2 k1 h1 s1 K1 B1 C1 (by omega) o21.1 o21.2 O1.1 O1.2) (fun v h2 hq => ?_)
    obtain ⟨k2, s2, rfl, K2, B2, C2, X2, G2, O2, -⟩ := hq
    show xx_go (xt_P z) (d + 3) 301 63 [some (.ref (c + 25)), some (.int (iI x)), some (.int (iI (x / 32))), y3] [.int (iI k2)] h2 _
    exact go_r rfl rfl rfl rfl rfl rfl ⟨k2, s2, rfl, K2, B2, C2, kx_w (kx_tr X1 X2) (by decide) (by decide), KGR_w (KGR_tr G1 G2) (by decide), O2⟩
  have one : ∀ y3 : Option Value, xx_go (xt_P z) (d + 3) 301 30 [some (.ref (c + 25)), some (.int (iI x)), some (.int (iI (x / 32))), y3] [.int (iI 1)] hp (fun v h1 => ∃ (y : Int) (s1 : KS), v = some (.int (iI y)) ∧ KI c h1 s1 ∧ KB s1 ∧ CX s1 ∧ kx c hp s h1 s1 0 0 ∧ KGR s s1 2 ∧ OB s1 y) := by
    intro y3
    refine go_a (pc' := 31) (ls' := [some (.ref (c + 25)), some (.int (iI x)), some (.int (iI (x / 32))), some (.int (iI 1))]) (st' := []) rfl rfl ?_
    refine go_a (pc' := 32) (ls' := [some (.ref (c + 25)), some (.int (iI x)), some (.int (iI (x / 32))), some (.int (iI 1))]) (st' := [.int (iI 1)]) rfl rfl ?_
    refine mi_ne0 (t := 42) rfl rfl (by omega) (by omega) (fun _ => br _) (fun q => absurd (show (1 : Int) ≠ 0 by decide) q)
  have zer : ∀ y3 : Option Value, xx_go (xt_P z) (d + 3) 301 30 [some (.ref (c + 25)), some (.int (iI x)), some (.int (iI (x / 32))), y3] [.int (iI 0)] hp (fun v h1 => ∃ (y : Int) (s1 : KS), v = some (.int (iI y)) ∧ KI c h1 s1 ∧ KB s1 ∧ CX s1 ∧ kx c hp s h1 s1 0 0 ∧ KGR s s1 2 ∧ OB s1 y) := by
    intro y3
    refine go_a (pc' := 31) (ls' := [some (.ref (c + 25)), some (.int (iI x)), some (.int (iI (x / 32))), some (.int (iI 0))]) (st' := []) rfl rfl ?_
    refine go_a (pc' := 32) (ls' := [some (.ref (c + 25)), some (.int (iI x)), some (.int (iI (x / 32))), some (.int (iI 0))]) (st' := [.int (iI 0)]) rfl rfl ?_
    refine mi_ne0 (t := 42) rfl rfl (by omega) (by omega) (fun q => absurd rfl q) (fun _ => ?_)
    refine go_a (pc' := 36) (ls' := [some (.ref (c + 25)), some (.int (iI x)), some (.int (iI (x / 32))), some (.int (iI 0))]) (st' := [.int (iI x)]) rfl rfl ?_
    refine go_s (m := 227) (as := [.int (iI x)]) (r := []) rfl rfl rfl rfl (kg_isVariable z (d + 2) x hp) (fun v h3 hq => ?_)
    obtain ⟨hq, e⟩ := hq
    rw [e]
    clear e h3
    rcases hq with ⟨c1, rfl⟩ | ⟨c1, rfl⟩
    · show xx_go (xt_P z) (d + 3) 301 39 [some (.ref (c + 25)), some (.int (iI x)), some (.int (iI (x / 32))), some (.int (iI 0))] [.int (iI 1)] hp _
      refine mi_eq0 (t := 46) rfl rfl (by omega) (by omega) (fun q => absurd q (by decide)) (fun _ => br _)
    · show xx_go (xt_P z) (d + 3) 301 39 [some (.ref (c + 25)), some (.int (iI x)), some (.int (iI (x / 32))), some (.int (iI 0))] [.int (iI 0)] hp _
      refine mi_eq0 (t := 46) rfl rfl (by omega) (by omega) (fun _ => qu _) (fun q => absurd rfl q)
  refine go_v (m := 256) (as := [.ref (c + 4), .int (iI (x / 32))]) (r := []) rfl rfl rfl (hK.1 3 (by decide)) rfl rfl (kc_isNatural z (d + 2) c (x / 32) hp s hK hB (by omega) (by omega)) (fun v h3 hq => ?_)
  obtain ⟨hq, e⟩ := hq
  rw [e]
  clear e h3
  rcases hq with ⟨c1, rfl⟩ | ⟨c1, rfl⟩
  · show xx_go (xt_P z) (d + 3) 301 13 [some (.ref (c + 25)), some (.int (iI x)), some (.int (iI (x / 32))), none] [.int (iI 1)] hp _
    refine mi_ne0 (t := 25) rfl rfl (by omega) (by omega) (fun _ => ?_) (fun q => absurd (show (1 : Int) ≠ 0 by decide) q)
    refine go_a (pc' := 26) (ls' := [some (.ref (c + 25)), some (.int (iI x)), some (.int (iI (x / 32))), none]) (st' := [.int (iI 1)]) rfl rfl ?_
    refine go_a (pc' := 30) (ls' := [some (.ref (c + 25)), some (.int (iI x)), some (.int (iI (x / 32))), none]) (st' := [.int (iI 1)]) rfl rfl ?_
    exact one _
  · show xx_go (xt_P z) (d + 3) 301 13 [some (.ref (c + 25)), some (.int (iI x)), some (.int (iI (x / 32))), none] [.int (iI 0)] hp _
    refine mi_ne0 (t := 25) rfl rfl (by omega) (by omega) (fun q => absurd rfl q) (fun _ => ?_)
    refine go_a (pc' := 17) (ls' := [some (.ref (c + 25)), some (.int (iI x)), some (.int (iI (x / 32))), none]) (st' := [.int (iI (x / 32))]) rfl rfl ?_
    refine mi_eq0 (t := 25) rfl rfl (by omega) (by omega) (fun _ => ?_) (fun _ => ?_)
    · refine go_a (pc' := 26) (ls' := [some (.ref (c + 25)), some (.int (iI x)), some (.int (iI (x / 32))), none]) (st' := [.int (iI 1)]) rfl rfl ?_
      refine go_a (pc' := 30) (ls' := [some (.ref (c + 25)), some (.int (iI x)), some (.int (iI (x / 32))), none]) (st' := [.int (iI 1)]) rfl rfl ?_
      exact one _
    · refine go_a (pc' := 21) (ls' := [some (.ref (c + 25)), some (.int (iI x)), some (.int (iI (x / 32))), none]) (st' := [.int (iI (x / 32))]) rfl rfl ?_
      refine go_a (pc' := 22) (ls' := [some (.ref (c + 25)), some (.int (iI x)), some (.int (iI (x / 32))), none]) (st' := [.int (iI 1), .int (iI (x / 32))]) rfl rfl ?_
      refine mi_ne (t := 29) rfl rfl (by omega) (by omega) (by omega) (by omega) (fun _ => ?_) (fun _ => ?_)
      · refine go_a (pc' := 30) (ls' := [some (.ref (c + 25)), some (.int (iI x)), some (.int (iI (x / 32))), none]) (st' := [.int (iI 0)]) rfl rfl ?_
        exact zer _
      · refine go_a (pc' := 26) (ls' := [some (.ref (c + 25)), some (.int (iI x)), some (.int (iI (x / 32))), none]) (st' := [.int (iI 1)]) rfl rfl ?_
        refine go_a (pc' := 30) (ls' := [some (.ref (c + 25)), some (.int (iI x)), some (.int (iI (x / 32))), none]) (st' := [.int (iI 1)]) rfl rfl ?_
        exact one _
theorem kg_cobj_loop (z : Value) (d c : Nat) (x u p : Int) (NM : BKM) (hp0 : xx_H) (s0 : KS) (lt : s0.I 8 < 32000) (hx : TVx u x) (hu : u ≤ s0.I 8) (um : u ≤ 67108864) (hF0 : BF c hp0 s0 u NM) (p0 : s0.I 7 - 7 ≤ p) (p1 : p ≤ s0.I 7) (h7 : s0.I 7 ≤ 1000) (h70 : 0 ≤ s0.I 7) : ∀ (q : Nat) (k l : Int) (hp : xx_H) (s : KS), (s0.I 7 - k).toNat ≤ q → p ≤ k → k ≤ s0.I 7 → KI c hp s → KB s → CX s → kx c hp0 s0 hp s 0 0 → PFR s0 s → s.I 8 ≤ s0.I 8 + (k - p) → TD s → s.I 7 = s0.I 7 → OB s l → xx_go (xt_P z) (d + 5) 299 18 [some (.ref (c + 25)), some (.int (iI x)), some (.int (iI p)), some (.int (iI l)), some (.int (iI k))] [] hp (fun v h1 => ∃ (y : Int) (s1 : KS), v = some (.int (iI y)) ∧ KI c h1 s1 ∧ KB s1 ∧ CX s1 ∧ kx c hp0 s0 h1 s1 0 0 ∧ PFR s0 s1 ∧ s1.I 8 ≤ s0.I 8 + 8 ∧ OB s1 y ∧ TD s1 ∧ s1.I 7 ≤ s0.I 7) := by
  have x1 := hx.1
  have x2 := hx.2.1
  have x3 := hx.2.2.2
  intro q
  induction q with
  | zero =>
    intro k l hp s hq k0 k1 hK hB hC hX hP h8 hD e7 hl
    refine go_a (pc' := 20) (ls' := [some (.ref (c + 25)), some (.int (iI x)), some (.int (iI p)), some (.int (iI l)), some (.int (iI k))]) (st' := [.int (iI k)]) rfl rfl ?_
    refine go_a (pc' := 21) (ls' := [some (.ref (c + 25)), some (.int (iI x)), some (.int (iI p)), some (.int (iI l)), some (.int (iI k))]) (st' := [.ref (c + 25), .int (iI k)]) rfl rfl ?_
    refine go_get (v := .ref (c + 28)) rfl (hK.1 16 (by decide)) rfl rfl ?_
    refine go_v (m := 34) (as := [.ref (c + 28)]) (r := [.int (iI k)]) rfl rfl rfl (hK.1 18 (by decide)) rfl rfl (kr_length_7 z (d + 4) c hp s hK) (fun v h3 hq => ?_)
    obtain ⟨rfl, e⟩ := hq
    rw [e]
    clear e h3
    show xx_go (xt_P z) (d + 5) 299 27 [some (.ref (c + 25)), some (.int (iI x)), some (.int (iI p)), some (.int (iI l)), some (.int (iI k))] [.int (iI (s.I 7)), .int (iI k)] hp _
    refine mi_ge (t := 54) rfl rfl (by omega) (by omega) (by omega) (by omega) (fun _ => ?_) (fun w => absurd (show k ≥ s.I 7 by omega) w)
    refine go_a (pc' := 55) (ls' := [some (.ref (c + 25)), some (.int (iI x)), some (.int (iI p)), some (.int (iI l)), some (.int (iI k))]) (st' := [.ref (c + 25)]) rfl rfl ?_
    refine go_get (v := .ref (c + 28)) rfl (hK.1 16 (by decide)) rfl rfl ?_
    refine go_a (pc' := 59) (ls' := [some (.ref (c + 25)), some (.int (iI x)), some (.int (iI p)), some (.int (iI l)), some (.int (iI k))]) (st' := [.int (iI p), .ref (c + 28)]) rfl rfl ?_
    refine go_v (m := 39) (as := [.ref (c + 28), .int (iI p)]) (r := []) rfl rfl rfl (hK.1 18 (by decide)) rfl rfl (kr_cut_7 z (d + 4) c p hp s hK hB (by omega) (by omega)) (fun v h3 hq => ?_)
    obtain ⟨rfl, hq⟩ := hq
    have M : ∃ t : KS, KI c h3 t ∧ KB t ∧ kx c hp0 s0 h3 t 0 0 ∧ TF s t ∧ TD t ∧ t.I 7 ≤ s0.I 7 := by
      rcases hq with ⟨a1, a2, a3, a4, a5⟩ | ⟨-, rfl⟩
      · refine ⟨_, a3, a4, kx_w (kx_tr hX a5) (by decide) (by decide), TF_wI (Or.inr rfl), fun j j0 j1 => ?_, show p ≤ s0.I 7 from p1⟩
        have j2 : j < p := j1
        exact hD j j0 (by omega)
      · exact ⟨s, hK, hB, hX, TF_rf, hD, by omega⟩
    clear hq
    obtain ⟨t, Kt, Bt, Xt, Ft, Dt, It⟩ := M
    have Pt := PFR_tr hP (TF_P Ft)
    have Ct := TF_CX Ft hC
    have e8 : t.I 8 = s.I 8 := Ft.2.2.2 8 (by decide) (by decide)
    have p8 := hP.2.2.2.1
    show xx_go (xt_P z) (d + 5) 299 62 [some (.ref (c + 25)), some (.int (iI x)), some (.int (iI p)), some (.int (iI l)), some (.int (iI k))] [] h3 _
    refine go_a (pc' := 63) (ls' := [some (.ref (c + 25)), some (.int (iI x)), some (.int (iI p)), some (.int (iI l)), some (.int (iI k))]) (st' := [.ref (c + 25)]) rfl rfl ?_
    refine go_get (v := .ref (c + 4)) rfl (Kt.1 16 (by decide)) rfl rfl ?_
    refine go_a (pc' := 67) (ls' := [some (.ref (c + 25)), some (.int (iI x)), some (.int (iI p)), some (.int (iI l)), some (.int (iI k))]) (st' := [.ref (c + 25), .ref (c + 4)]) rfl rfl ?_
    refine go_get (v := .ref (c + 21)) rfl (Kt.1 16 (by decide)) rfl rfl ?_
    refine go_a (pc' := 71) (ls' := [some (.ref (c + 25)), some (.int (iI x)), some (.int (iI p)), some (.int (iI l)), some (.int (iI k))]) (st' := [.int (iI x), .ref (c + 21), .ref (c + 4)]) rfl rfl ?_
    refine go_s (m := 251) (as := [.int (iI x)]) (r := [.ref (c + 21), .ref (c + 4)]) rfl rfl rfl rfl (kg_what z (d + 4) x h3 (by omega) x2) (fun v h4 hq => ?_)
    obtain ⟨rfl, e⟩ := hq
    rw [e]
    clear e h4
    show xx_go (xt_P z) (d + 5) 299 74 [some (.ref (c + 25)), some (.int (iI x)), some (.int (iI p)), some (.int (iI l)), some (.int (iI k))] [.int (iI (x / 32)), .ref (c + 21), .ref (c + 4)] h3 _
    have Ft0 := BF_kx hF0 Xt (Int.le_refl _) (Pt.2.2.1 27 (by decide) (by decide) (by decide) (by decide) (by decide) (by decide)) (by rw [Pt.1])
    refine go_v (m := 300) (as := [.ref (c + 21), .int (iI (x / 32))]) (r := [.ref (c + 4)]) rfl rfl rfl (Kt.1 12 (by decide)) rfl rfl (kf_nameOf z (d + 1) c (x / 32) h3 t Kt Bt u NM Ft0 um (by omega) x3) (fun v h4 hq => ?_)
    obtain ⟨⟨y, rfl, ⟨y0, y1⟩, -⟩, e⟩ := hq
    rw [e]
    clear e h4
    show xx_go (xt_P z) (d + 5) 299 77 [some (.ref (c + 25)), some (.int (iI x)), some (.int (iI p)), some (.int (iI l)), some (.int (iI k))] [.int (iI y), .ref (c + 4)] h3 _
    refine go_a (pc' := 78) (ls' := [some (.ref (c + 25)), some (.int (iI x)), some (.int (iI p)), some (.int (iI l)), some (.int (iI k))]) (st' := [.int (iI l), .int (iI y), .ref (c + 4)]) rfl rfl ?_
    have oy : OB t y := ⟨y0, by omega⟩
    have ol : OB t l := TF_OB Ft hl
    refine go_v (m := 194) (as := [.ref (c + 4), .int (iI y), .int (iI l)]) (r := []) rfl rfl rfl (Kt.1 3 (by decide)) rfl rfl (kc_pairX z (d + 2) c y l h3 t Kt Bt Ct (by omega) oy.1 oy.2 ol.1 ol.2) (fun v h5 hq => ?_)
    obtain ⟨k5, s5, rfl, K5, B5, C5, X5, G5, O5, -⟩ := hq
    show xx_go (xt_P z) (d + 5) 299 81 [some (.ref (c + 25)), some (.int (iI x)), some (.int (iI p)), some (.int (iI l)), some (.int (iI k))] [.int (iI k5)] h5 _
    have g5 := G5.2.2.1
    have e7 : s5.I 7 = t.I 7 := G5.1.2.2.2 7 (by decide)
    have a7 : s5.A 7 = t.A 7 := G5.1.2.1 7 (by decide) (by decide) (by decide)
    exact go_r rfl rfl rfl rfl rfl rfl ⟨k5, s5, rfl, K5, B5, C5, kx_w (kx_tr Xt X5) (by decide) (by decide), PFR_tr Pt (KGR_P G5), by omega, O5, fun j j0 j1 => by
      rw [a7]
      exact PFR_OB (KGR_P G5) (Dt j j0 (by omega)), by omega⟩
  | succ q ih =>
    intro k l hp s hq k0 k1 hK hB hC hX hP h8 hD e7 hl
    refine go_a (pc' := 20) (ls' := [some (.ref (c + 25)), some (.int (iI x)), some (.int (iI p)), some (.int (iI l)), some (.int (iI k))]) (st' := [.int (iI k)]) rfl rfl ?_
    refine go_a (pc' := 21) (ls' := [some (.ref (c + 25)), some (.int (iI x)), some (.int (iI p)), some (.int (iI l)), some (.int (iI k))]) (st' := [.ref (c + 25), .int (iI k)]) rfl rfl ?_
    refine go_get (v := .ref (c + 28)) rfl (hK.1 16 (by decide)) rfl rfl ?_
    refine go_v (m := 34) (as := [.ref (c + 28)]) (r := [.int (iI k)]) rfl rfl rfl (hK.1 18 (by decide)) rfl rfl (kr_length_7 z (d + 4) c hp s hK) (fun v h3 hq => ?_)
    obtain ⟨rfl, e⟩ := hq
    rw [e]
    clear e h3
    show xx_go (xt_P z) (d + 5) 299 27 [some (.ref (c + 25)), some (.int (iI x)), some (.int (iI p)), some (.int (iI l)), some (.int (iI k))] [.int (iI (s.I 7)), .int (iI k)] hp _
    refine mi_ge (t := 54) rfl rfl (by omega) (by omega) (by omega) (by omega) (fun w1 => ?_) (fun w1 => ?_)
    · refine go_a (pc' := 55) (ls' := [some (.ref (c + 25)), some (.int (iI x)), some (.int (iI p)), some (.int (iI l)), some (.int (iI k))]) (st' := [.ref (c + 25)]) rfl rfl ?_
      refine go_get (v := .ref (c + 28)) rfl (hK.1 16 (by decide)) rfl rfl ?_
      refine go_a (pc' := 59) (ls' := [some (.ref (c + 25)), some (.int (iI x)), some (.int (iI p)), some (.int (iI l)), some (.int (iI k))]) (st' := [.int (iI p), .ref (c + 28)]) rfl rfl ?_
      refine go_v (m := 39) (as := [.ref (c + 28), .int (iI p)]) (r := []) rfl rfl rfl (hK.1 18 (by decide)) rfl rfl (kr_cut_7 z (d + 4) c p hp s hK hB (by omega) (by omega)) (fun v h3 hq => ?_)
      obtain ⟨rfl, hq⟩ := hq
      have M : ∃ t : KS, KI c h3 t ∧ KB t ∧ kx c hp0 s0 h3 t 0 0 ∧ TF s t ∧ TD t ∧ t.I 7 ≤ s0.I 7 := by
        rcases hq with ⟨a1, a2, a3, a4, a5⟩ | ⟨-, rfl⟩
        · refine ⟨_, a3, a4, kx_w (kx_tr hX a5) (by decide) (by decide), TF_wI (Or.inr rfl), fun j j0 j1 => ?_, show p ≤ s0.I 7 from p1⟩
          have j2 : j < p := j1
          exact hD j j0 (by omega)
        · exact ⟨s, hK, hB, hX, TF_rf, hD, by omega⟩
      clear hq
      obtain ⟨t, Kt, Bt, Xt, Ft, Dt, It⟩ := M
      have Pt := PFR_tr hP (TF_P Ft)
      have Ct := TF_CX Ft hC
      have e8 : t.I 8 = s.I 8 := Ft.2.2.2 8 (by decide) (by decide)
      have p8 := hP.2.2.2.1
      show xx_go (xt_P z) (d + 5) 299 62 [some (.ref (c + 25)), some (.int (iI x)), some (.int (iI p)), some (.int (iI l)), some (.int (iI k))] [] h3 _
      refine go_a (pc' := 63) (ls' := [some (.ref (c + 25)), some (.int (iI x)), some (.int (iI p)), some (.int (iI l)), some (.int (iI k))]) (st' := [.ref (c + 25)]) rfl rfl ?_
      refine go_get (v := .ref (c + 4)) rfl (Kt.1 16 (by decide)) rfl rfl ?_
      refine go_a (pc' := 67) (ls' := [some (.ref (c + 25)), some (.int (iI x)), some (.int (iI p)), some (.int (iI l)), some (.int (iI k))]) (st' := [.ref (c + 25), .ref (c + 4)]) rfl rfl ?_
      refine go_get (v := .ref (c + 21)) rfl (Kt.1 16 (by decide)) rfl rfl ?_
      refine go_a (pc' := 71) (ls' := [some (.ref (c + 25)), some (.int (iI x)), some (.int (iI p)), some (.int (iI l)), some (.int (iI k))]) (st' := [.int (iI x), .ref (c + 21), .ref (c + 4)]) rfl rfl ?_
      refine go_s (m := 251) (as := [.int (iI x)]) (r := [.ref (c + 21), .ref (c + 4)]) rfl rfl rfl rfl (kg_what z (d + 4) x h3 (by omega) x2) (fun v h4 hq => ?_)
      obtain ⟨rfl, e⟩ := hq
      rw [e]
      clear e h4
      show xx_go (xt_P z) (d + 5) 299 74 [some (.ref (c + 25)), some (.int (iI x)), some (.int (iI p)), some (.int (iI l)), some (.int (iI k))] [.int (iI (x / 32)), .ref (c + 21), .ref (c + 4)] h3 _
      have Ft0 := BF_kx hF0 Xt (Int.le_refl _) (Pt.2.2.1 27 (by decide) (by decide) (by decide) (by decide) (by decide) (by decide)) (by rw [Pt.1])
      refine go_v (m := 300) (as := [.ref (c + 21), .int (iI (x / 32))]) (r := [.ref (c + 4)]) rfl rfl rfl (Kt.1 12 (by decide)) rfl rfl (kf_nameOf z (d + 1) c (x / 32) h3 t Kt Bt u NM Ft0 um (by omega) x3) (fun v h4 hq => ?_)
      obtain ⟨⟨y, rfl, ⟨y0, y1⟩, -⟩, e⟩ := hq
      rw [e]
      clear e h4
      show xx_go (xt_P z) (d + 5) 299 77 [some (.ref (c + 25)), some (.int (iI x)), some (.int (iI p)), some (.int (iI l)), some (.int (iI k))] [.int (iI y), .ref (c + 4)] h3 _
      refine go_a (pc' := 78) (ls' := [some (.ref (c + 25)), some (.int (iI x)), some (.int (iI p)), some (.int (iI l)), some (.int (iI k))]) (st' := [.int (iI l), .int (iI y), .ref (c + 4)]) rfl rfl ?_
      have oy : OB t y := ⟨y0, by omega⟩
      have ol : OB t l := TF_OB Ft hl
      refine go_v (m := 194) (as := [.ref (c + 4), .int (iI y), .int (iI l)]) (r := []) rfl rfl rfl (Kt.1 3 (by decide)) rfl rfl (kc_pairX z (d + 2) c y l h3 t Kt Bt Ct (by omega) oy.1 oy.2 ol.1 ol.2) (fun v h5 hq => ?_)
      obtain ⟨k5, s5, rfl, K5, B5, C5, X5, G5, O5, -⟩ := hq
      show xx_go (xt_P z) (d + 5) 299 81 [some (.ref (c + 25)), some (.int (iI x)), some (.int (iI p)), some (.int (iI l)), some (.int (iI k))] [.int (iI k5)] h5 _
      have g5 := G5.2.2.1
      have e7 : s5.I 7 = t.I 7 := G5.1.2.2.2 7 (by decide)
      have a7 : s5.A 7 = t.A 7 := G5.1.2.1 7 (by decide) (by decide) (by decide)
      exact go_r rfl rfl rfl rfl rfl rfl ⟨k5, s5, rfl, K5, B5, C5, kx_w (kx_tr Xt X5) (by decide) (by decide), PFR_tr Pt (KGR_P G5), by omega, O5, fun j j0 j1 => by
        rw [a7]
        exact PFR_OB (KGR_P G5) (Dt j j0 (by omega)), by omega⟩
    · have b8 := hB.2.2.2.2.2.1
      refine go_a (pc' := 31) (ls' := [some (.ref (c + 25)), some (.int (iI x)), some (.int (iI p)), some (.int (iI l)), some (.int (iI k))]) (st' := [.ref (c + 25)]) rfl rfl ?_
      refine go_get (v := .ref (c + 4)) rfl (hK.1 16 (by decide)) rfl rfl ?_
      refine go_a (pc' := 35) (ls' := [some (.ref (c + 25)), some (.int (iI x)), some (.int (iI p)), some (.int (iI l)), some (.int (iI k))]) (st' := [.ref (c + 25), .ref (c + 4)]) rfl rfl ?_
      refine go_get (v := .ref (c + 28)) rfl (hK.1 16 (by decide)) rfl rfl ?_
      refine go_a (pc' := 40) (ls' := [some (.ref (c + 25)), some (.int (iI x)), some (.int (iI p)), some (.int (iI l)), some (.int (iI k))]) (st' := [.int (iI k), .ref (c + 28), .ref (c + 4)]) rfl rfl ?_
      refine go_v (m := 43) (as := [.ref (c + 28), .int (iI k)]) (r := [.ref (c + 4)]) rfl rfl rfl (hK.1 18 (by decide)) rfl rfl (kr_at_7 z (d + 4) c k hp s hK hB (by omega) (by omega)) (fun v h3 hq => ?_)
      have M : ∃ y : Int, v = some (.int (iI y)) ∧ OB s y := by
        rcases hq.1 with ⟨a1, a2, a3⟩ | ⟨-, a3⟩
        · exact ⟨_, a3, hD k a1 a2⟩
        · exact ⟨0, a3, by decide, by omega⟩
      have e := hq.2
      clear hq
      obtain ⟨y, rfl, oy⟩ := M
      rw [e]
      clear e h3
      show xx_go (xt_P z) (d + 5) 299 43 [some (.ref (c + 25)), some (.int (iI x)), some (.int (iI p)), some (.int (iI l)), some (.int (iI k))] [.int (iI y), .ref (c + 4)] hp _
      refine go_a (pc' := 44) (ls' := [some (.ref (c + 25)), some (.int (iI x)), some (.int (iI p)), some (.int (iI l)), some (.int (iI k))]) (st' := [.int (iI l), .int (iI y), .ref (c + 4)]) rfl rfl ?_
      refine go_v (m := 194) (as := [.ref (c + 4), .int (iI y), .int (iI l)]) (r := []) rfl rfl rfl (hK.1 3 (by decide)) rfl rfl (kc_pairX z (d + 2) c y l hp s hK hB hC (by omega) oy.1 oy.2 hl.1 hl.2) (fun v h5 hq => ?_)
      obtain ⟨k5, s5, rfl, K5, B5, C5, X5, G5, O5, -⟩ := hq
      show xx_go (xt_P z) (d + 5) 299 47 [some (.ref (c + 25)), some (.int (iI x)), some (.int (iI p)), some (.int (iI l)), some (.int (iI k))] [.int (iI k5)] h5 _
      refine go_a (pc' := 48) (ls' := [some (.ref (c + 25)), some (.int (iI x)), some (.int (iI p)), some (.int (iI k5)), some (.int (iI k))]) (st' := []) rfl rfl ?_
      refine go_a (pc' := 51) (ls' := [some (.ref (c + 25)), some (.int (iI x)), some (.int (iI p)), some (.int (iI k5)), some (.int (iI (k + 1)))]) (st' := []) rfl (by rw [← iI_add k 1]; rfl) ?_
      refine go_a (pc' := 18) (ls' := [some (.ref (c + 25)), some (.int (iI x)), some (.int (iI p)), some (.int (iI k5)), some (.int (iI (k + 1)))]) (st' := []) rfl rfl ?_
      have g5 := G5.2.2.1
      have e75 : s5.I 7 = s.I 7 := G5.1.2.2.2 7 (by decide)
      have a7 : s5.A 7 = s.A 7 := G5.1.2.1 7 (by decide) (by decide) (by decide)
      exact ih (k + 1) k5 h5 s5 (by omega) (by omega) (by omega) K5 B5 C5 (kx_w (kx_tr hX X5) (by decide) (by decide)) (PFR_tr hP (KGR_P G5)) (by omega) (fun j j0 j1 => by rw [a7]; exact PFR_OB (KGR_P G5) (hD j j0 (by omega))) (by omega) O5
theorem kg_callObject (z : Value) (d c : Nat) (x u : Int) (hp : xx_H) (s : KS) (hK : KI c hp s) (hB : KB s) (hC : CX s) (NM : BKM) (hF : BF c hp s u NM) (um : u ≤ 67108864) (hu : u ≤ s.I 8) (lt : s.I 8 < 32000) (hx : TVx u x) (hD : TD s) (h7 : s.I 7 ≤ 1000) : xx_cl (xt_P z) (d + 6) 299 [.ref (c + 25), .int (iI x)] hp (fun v h1 => ∃ (y : Int) (s1 : KS), v = some (.int (iI y)) ∧ KI c h1 s1 ∧ KB s1 ∧ CX s1 ∧ kx c hp s h1 s1 0 0 ∧ PFR s s1 ∧ s1.I 8 ≤ s.I 8 + 8 ∧ OB s1 y ∧ TD s1 ∧ s1.I 7 ≤ s.I 7) := by
  have x1 := hx.1
  have x2 := hx.2.1
  have tr := tk_R x
  have b8 := hB.2.2.2.2.2.1
  have b7 := hB.2.2.2.1 7 (by decide)
  refine cl_go rfl ?_
  show xx_go (xt_P z) (d + 5) 299 0 [some (.ref (c + 25)), some (.int (iI x)), none, none, none] [] hp _
  refine go_a (pc' := 1) (ls' := [some (.ref (c + 25)), some (.int (iI x)), none, none, none]) (st' := [.ref (c + 25)]) rfl rfl ?_
  refine go_get (v := .ref (c + 28)) rfl (hK.1 16 (by decide)) rfl rfl ?_
  refine go_v (m := 34) (as := [.ref (c + 28)]) (r := []) rfl rfl rfl (hK.1 18 (by decide)) rfl rfl (kr_length_7 z (d + 4) c hp s hK) (fun v h3 hq => ?_)
  obtain ⟨rfl, e⟩ := hq
  rw [e]
  clear e h3
  show xx_go (xt_P z) (d + 5) 299 7 [some (.ref (c + 25)), some (.int (iI x)), none, none, none] [.int (iI (s.I 7))] hp _
  refine go_a (pc' := 8) (ls' := [some (.ref (c + 25)), some (.int (iI x)), none, none, none]) (st' := [.int (iI x), .int (iI (s.I 7))]) rfl rfl ?_
  refine go_s (m := 221) (as := [.int (iI x)]) (r := [.int (iI (s.I 7))]) rfl rfl rfl rfl (kg_takes z (d + 4) x hp (by omega) x2) (fun v h3 hq => ?_)
  obtain ⟨rfl, e⟩ := hq
  rw [e]
  clear e h3
  show xx_go (xt_P z) (d + 5) 299 11 [some (.ref (c + 25)), some (.int (iI x)), none, none, none] [.int (iI (tk x)), .int (iI (s.I 7))] hp _
  refine mi_sub rfl ?_
  refine go_a (pc' := 13) (ls' := [some (.ref (c + 25)), some (.int (iI x)), some (.int (iI ((s.I 7) - (tk x)))), none, none]) (st' := []) rfl rfl ?_
  refine go_a (pc' := 14) (ls' := [some (.ref (c + 25)), some (.int (iI x)), some (.int (iI ((s.I 7) - (tk x)))), none, none]) (st' := [.int (iI 0)]) rfl rfl ?_
  refine go_a (pc' := 15) (ls' := [some (.ref (c + 25)), some (.int (iI x)), some (.int (iI ((s.I 7) - (tk x)))), some (.int (iI 0)), none]) (st' := []) rfl rfl ?_
  refine go_a (pc' := 16) (ls' := [some (.ref (c + 25)), some (.int (iI x)), some (.int (iI ((s.I 7) - (tk x)))), some (.int (iI 0)), none]) (st' := [.int (iI ((s.I 7) - (tk x)))]) rfl rfl ?_
  refine go_a (pc' := 18) (ls' := [some (.ref (c + 25)), some (.int (iI x)), some (.int (iI ((s.I 7) - (tk x)))), some (.int (iI 0)), some (.int (iI ((s.I 7) - (tk x))))]) (st' := []) rfl rfl ?_
  exact kg_cobj_loop z d c x u (s.I 7 - tk x) NM hp s lt hx hu um hF (by omega) (by omega) h7 b7.2.2.1 _ (s.I 7 - tk x) 0 hp s (Nat.le_refl _) (Int.le_refl _) (by omega) hK hB hC kx_rf PFR_rf (by omega) hD rfl ⟨by decide, by omega⟩
theorem kg_obj_loop (z : Value) (d c a : Nat) (n u : Int) (f : Int → Int) (NM : BKM) (hp0 : xx_H) (s0 : KS) (lt : s0.I 8 < 30000) (hu : u ≤ s0.I 8) (um : u ≤ 67108864) (hF0 : BF c hp0 s0 u NM) (hT0 : TM c hp0 s0 u a n f) : ∀ (q : Nat) (k : Int) (y3 : Option Value) (hp : xx_H) (s : KS), (k + 1).toNat ≤ q → -1 ≤ k → k < n → KI c hp s → KB s → CX s → kx c hp0 s0 hp s 0 0 → PFR s0 s → s.I 8 ≤ s0.I 8 + 8 * (n - 1 - k) → TD s → s.I 7 ≤ n - 1 - k → xx_go (xt_P z) (d + 6) 298 15 [some (.ref (c + 25)), some (.ref a), some (.int (iI k)), y3] [] hp (fun v h1 => ∃ (y : Int) (s1 : KS), v = some (.int (iI y)) ∧ KI c h1 s1 ∧ KB s1 ∧ CX s1 ∧ kx c hp0 s0 h1 s1 0 0 ∧ PFR s0 s1 ∧ s1.I 8 ≤ s0.I 8 + 8 * n ∧ OB s1 y) := by
  have n_ := TM_n hT0
  intro q
  induction q with
  | zero =>
    intro k y3 hp s hq k0 k1 hK hB hC hX hP h8 hD h7
    refine go_a (pc' := 16) (ls' := [some (.ref (c + 25)), some (.ref a), some (.int (iI k)), y3]) (st' := [.int (iI k)]) rfl rfl ?_
    refine mi_lt0 (t := 58) rfl rfl (by omega) (by omega) (fun _ => ?_) (fun w => absurd (show k < 0 by omega) w)
    have b8 := hB.2.2.2.2.2.1
    have b7 := hB.2.2.2.1 7 (by decide)
    refine go_a (pc' := 59) (ls' := [some (.ref (c + 25)), some (.ref a), some (.int (iI k)), y3]) (st' := [.ref (c + 25)]) rfl rfl ?_
    refine go_get (v := .ref (c + 28)) rfl (hK.1 16 (by decide)) rfl rfl ?_
    refine go_v (m := 44) (as := [.ref (c + 28)]) (r := []) rfl rfl rfl (hK.1 18 (by decide)) rfl rfl (kr_last_7 z (d + 5) c hp s hK hB) (fun v h3 hq => ?_)
    have M : ∃ y : Int, v = some (.int (iI y)) ∧ OB s y := by
      rcases hq.1 with ⟨a1, a3⟩ | ⟨-, a3⟩
      · exact ⟨_, a3, hD _ (by omega) (by omega)⟩
      · exact ⟨0, a3, by decide, by omega⟩
    have e := hq.2
    clear hq
    obtain ⟨y, rfl, oy⟩ := M
    rw [e]
    clear e h3
    show xx_go (xt_P z) (d + 6) 298 65 [some (.ref (c + 25)), some (.ref a), some (.int (iI k)), y3] [.int (iI y)] hp _
    exact go_r rfl rfl rfl rfl rfl rfl ⟨y, s, rfl, hK, hB, hC, hX, hP, by omega, oy⟩
  | succ q ih =>
    intro k y3 hp s hq k0 k1 hK hB hC hX hP h8 hD h7
    refine go_a (pc' := 16) (ls' := [some (.ref (c + 25)), some (.ref a), some (.int (iI k)), y3]) (st' := [.int (iI k)]) rfl rfl ?_
    refine mi_lt0 (t := 58) rfl rfl (by omega) (by omega) (fun w1 => ?_) (fun w1 => ?_)
    · have b8 := hB.2.2.2.2.2.1
      have b7 := hB.2.2.2.1 7 (by decide)
      refine go_a (pc' := 59) (ls' := [some (.ref (c + 25)), some (.ref a), some (.int (iI k)), y3]) (st' := [.ref (c + 25)]) rfl rfl ?_
      refine go_get (v := .ref (c + 28)) rfl (hK.1 16 (by decide)) rfl rfl ?_
      refine go_v (m := 44) (as := [.ref (c + 28)]) (r := []) rfl rfl rfl (hK.1 18 (by decide)) rfl rfl (kr_last_7 z (d + 5) c hp s hK hB) (fun v h3 hq => ?_)
      have M : ∃ y : Int, v = some (.int (iI y)) ∧ OB s y := by
        rcases hq.1 with ⟨a1, a3⟩ | ⟨-, a3⟩
        · exact ⟨_, a3, hD _ (by omega) (by omega)⟩
        · exact ⟨0, a3, by decide, by omega⟩
      have e := hq.2
      clear hq
      obtain ⟨y, rfl, oy⟩ := M
      rw [e]
      clear e h3
      show xx_go (xt_P z) (d + 6) 298 65 [some (.ref (c + 25)), some (.ref a), some (.int (iI k)), y3] [.int (iI y)] hp _
      exact go_r rfl rfl rfl rfl rfl rfl ⟨y, s, rfl, hK, hB, hC, hX, hP, by omega, oy⟩
    · have b7 := hB.2.2.2.1 7 (by decide)
      have p8 := hP.2.2.2.1
      have hT := TM_kx hT0 hX
      obtain ⟨qa, La, Laa, Laq⟩ := TMq hT
      have t0 : tat n f k = f k := if_pos (by omega)
      have V0 := hT.2.2 k (by omega) (by omega)
      have V1 := V0.1
      have V2 := V0.2.1
      have hF := BF_kx hF0 hX (Int.le_refl _) (hP.2.2.1 27 (by decide) (by decide) (by decide) (by decide) (by decide) (by decide)) (by rw [hP.1])
      refine go_a (pc' := 20) (ls' := [some (.ref (c + 25)), some (.ref a), some (.int (iI k)), y3]) (st' := [.ref a]) rfl rfl ?_
      refine go_a (pc' := 21) (ls' := [some (.ref (c + 25)), some (.ref a), some (.int (iI k)), y3]) (st' := [.int (iI k), .ref a]) rfl rfl ?_
      refine go_v (m := 230) (as := [.ref a, .int (iI k)]) (r := []) rfl rfl rfl La.1 rfl rfl (kg_at z (d + 5) k a qa n f hp La (by omega) (by omega)) (fun v h3 hq => ?_)
      obtain ⟨rfl, e⟩ := hq
      rw [e, t0]
      clear e h3
      show xx_go (xt_P z) (d + 6) 298 24 [some (.ref (c + 25)), some (.ref a), some (.int (iI k)), y3] [.int (iI (f k))] hp _
      refine go_a (pc' := 25) (ls' := [some (.ref (c + 25)), some (.ref a), some (.int (iI k)), some (.int (iI (f k)))]) (st' := []) rfl rfl ?_
      refine go_a (pc' := 26) (ls' := [some (.ref (c + 25)), some (.ref a), some (.int (iI k)), some (.int (iI (f k)))]) (st' := [.ref (c + 25)]) rfl rfl ?_
      refine go_get (v := .ref (c + 28)) rfl (hK.1 16 (by decide)) rfl rfl ?_
      refine go_a (pc' := 30) (ls' := [some (.ref (c + 25)), some (.ref a), some (.int (iI k)), some (.int (iI (f k)))]) (st' := [.int (iI (f k)), .ref (c + 28)]) rfl rfl ?_
      have tail : ∀ (y : Int) (h5 : xx_H) (t : KS), KI c h5 t → KB t → CX t → kx c hp0 s0 h5 t 0 0 → PFR s0 t → t.I 8 ≤ s0.I 8 + 8 * (n - 1 - k) + 8 → TD t → t.I 7 ≤ n - 1 - k → OB t y → xx_go (xt_P z) (d + 6) 298 49 [some (.ref (c + 25)), some (.ref a), some (.int (iI k)), some (.int (iI (f k)))] [.int (iI y), .ref (c + 28)] h5 (fun v h1 => ∃ (y : Int) (s1 : KS), v = some (.int (iI y)) ∧ KI c h1 s1 ∧ KB s1 ∧ CX s1 ∧ kx c hp0 s0 h1 s1 0 0 ∧ PFR s0 s1 ∧ s1.I 8 ≤ s0.I 8 + 8 * n ∧ OB s1 y) := by
        intro y h5 t Kt Bt Ct Xt Pt t8 Dt t7 oy
        have oyr := OB_R Bt oy
        have bt7 := Bt.2.2.2.1 7 (by decide)
        refine go_v (m := 35) (as := [.ref (c + 28), .int (iI y)]) (r := []) rfl rfl rfl (Kt.1 18 (by decide)) rfl rfl (kr_add_7 z (d + 4) c y h5 t Kt Bt (by omega) oyr.1 oyr.2) (fun v h6 hq => ?_)
        obtain ⟨rfl, s1, K1, B1, X1, W1, e1, e2, e3, e4⟩ := hq
        have F1 := T7_row W1 e1
        have e5 : s1.I 7 = t.I 7 + 1 := by rw [e1]; rfl
        obtain ⟨D1, -⟩ := TD_add Dt oy bt7.2.2.1 F1 e5 e3 e4
        have e8 : s1.I 8 = t.I 8 := F1.2.2.2 8 (by decide)
        show xx_go (xt_P z) (d + 6) 298 52 [some (.ref (c + 25)), some (.ref a), some (.int (iI k)), some (.int (iI (f k)))] [] h6 _
        refine go_a (pc' := 55) (ls' := [some (.ref (c + 25)), some (.ref a), some (.int (iI (k + (-1)))), some (.int (iI (f k)))]) (st' := []) rfl (by rw [← iI_add k (-1)]; rfl) ?_
        refine go_a (pc' := 15) (ls' := [some (.ref (c + 25)), some (.ref a), some (.int (iI (k + (-1)))), some (.int (iI (f k)))]) (st' := []) rfl rfl ?_
        exact ih (k + (-1)) _ h6 s1 (by omega) (by omega) (by omega) K1 B1 (TF_CX (T7_F F1) Ct) (kx_w (kx_tr Xt X1) (by decide) (by decide)) (PFR_tr Pt (TF_P (T7_F F1))) (by omega) D1 (by omega)
      refine go_s (m := 220) (as := [.int (iI (f k))]) (r := [.ref (c + 28)]) rfl rfl rfl rfl (kg_isCall z (d + 5) (f k) hp) (fun v h3 hq => ?_)
      obtain ⟨hq, e⟩ := hq
      rw [e]
      clear e h3
      rcases hq with ⟨c1, rfl⟩ | ⟨c1, rfl⟩
      · show xx_go (xt_P z) (d + 6) 298 33 [some (.ref (c + 25)), some (.ref a), some (.int (iI k)), some (.int (iI (f k)))] [.int (iI 1), .ref (c + 28)] hp _
        refine mi_eq0 (t := 44) rfl rfl (by omega) (by omega) (fun q => absurd q (by decide)) (fun _ => ?_)
        refine go_a (pc' := 37) (ls' := [some (.ref (c + 25)), some (.ref a), some (.int (iI k)), some (.int (iI (f k)))]) (st' := [.ref (c + 25), .ref (c + 28)]) rfl rfl ?_
        refine go_a (pc' := 38) (ls' := [some (.ref (c + 25)), some (.ref a), some (.int (iI k)), some (.int (iI (f k)))]) (st' := [.int (iI (f k)), .ref (c + 25), .ref (c + 28)]) rfl rfl ?_
        refine go_v (m := 299) (as := [.ref (c + 25), .int (iI (f k))]) (r := [.ref (c + 28)]) rfl rfl rfl (hK.1 16 (by decide)) rfl rfl (kg_callObject z d c (f k) u hp s hK hB hC NM hF um (by omega) (by omega) V0 hD (by omega)) (fun v h3 hq => ?_)
        obtain ⟨y, s1, rfl, K1, B1, C1, X1, P1, g8, oy, D1, g7⟩ := hq
        show xx_go (xt_P z) (d + 6) 298 41 [some (.ref (c + 25)), some (.ref a), some (.int (iI k)), some (.int (iI (f k)))] [.int (iI y), .ref (c + 28)] h3 _
        refine go_a (pc' := 49) (ls' := [some (.ref (c + 25)), some (.ref a), some (.int (iI k)), some (.int (iI (f k)))]) (st' := [.int (iI y), .ref (c + 28)]) rfl rfl ?_
        exact tail y h3 s1 K1 B1 C1 (kx_w (kx_tr hX X1) (by decide) (by decide)) (PFR_tr hP P1) (by omega) D1 (by omega) oy
      · show xx_go (xt_P z) (d + 6) 298 33 [some (.ref (c + 25)), some (.ref a), some (.int (iI k)), some (.int (iI (f k)))] [.int (iI 0), .ref (c + 28)] hp _
        refine mi_eq0 (t := 44) rfl rfl (by omega) (by omega) (fun _ => ?_) (fun q => absurd rfl q)
        refine go_a (pc' := 45) (ls' := [some (.ref (c + 25)), some (.ref a), some (.int (iI k)), some (.int (iI (f k)))]) (st' := [.ref (c + 25), .ref (c + 28)]) rfl rfl ?_
        refine go_a (pc' := 46) (ls' := [some (.ref (c + 25)), some (.ref a), some (.int (iI k)), some (.int (iI (f k)))]) (st' := [.int (iI (f k)), .ref (c + 25), .ref (c + 28)]) rfl rfl ?_
        refine go_v (m := 301) (as := [.ref (c + 25), .int (iI (f k))]) (r := [.ref (c + 28)]) rfl rfl rfl (hK.1 16 (by decide)) rfl rfl (kg_leafObject z (d + 2) c (f k) u hp s hK hB hC (by omega) V0 (by omega)) (fun v h3 hq => ?_)
        obtain ⟨y, s1, rfl, K1, B1, C1, X1, G1, oy⟩ := hq
        have g8 := G1.2.2.1
        have e71 : s1.I 7 = s.I 7 := G1.1.2.2.2 7 (by decide)
        have a71 : s1.A 7 = s.A 7 := G1.1.2.1 7 (by decide) (by decide) (by decide)
        show xx_go (xt_P z) (d + 6) 298 49 [some (.ref (c + 25)), some (.ref a), some (.int (iI k)), some (.int (iI (f k)))] [.int (iI y), .ref (c + 28)] h3 _
        exact tail y h3 s1 K1 B1 C1 (kx_w (kx_tr hX X1) (by decide) (by decide)) (PFR_tr hP (KGR_P G1)) (by omega) (fun j j0 j1 => by rw [a71]; exact PFR_OB (KGR_P G1) (hD j j0 (by omega))) (by omega) oy
theorem kg_object (z : Value) (d c a : Nat) (n u : Int) (f : Int → Int) (hp : xx_H) (s : KS) (hK : KI c hp s) (hB : KB s) (hC : CX s) (NM : BKM) (hF : BF c hp s u NM) (um : u ≤ 67108864) (hu : u ≤ s.I 8) (lt : s.I 8 < 30000) (hT : TM c hp s u a n f) : xx_cl (xt_P z) (d + 7) 298 [.ref (c + 25), .ref a] hp (fun v h1 => ∃ (y : Int) (s1 : KS), v = some (.int (iI y)) ∧ KI c h1 s1 ∧ KB s1 ∧ CX s1 ∧ kx c hp s h1 s1 0 0 ∧ PFR s s1 ∧ s1.I 8 ≤ s.I 8 + 8 * n ∧ OB s1 y) := by
  have n_ := TM_n hT
  refine cl_go rfl ?_
  show xx_go (xt_P z) (d + 6) 298 0 [some (.ref (c + 25)), some (.ref a), none, none] [] hp _
  refine go_a (pc' := 1) (ls' := [some (.ref (c + 25)), some (.ref a), none, none]) (st' := [.ref (c + 25)]) rfl rfl ?_
  refine go_get (v := .ref (c + 28)) rfl (hK.1 16 (by decide)) rfl rfl ?_
  refine go_a (pc' := 5) (ls' := [some (.ref (c + 25)), some (.ref a), none, none]) (st' := [.int (iI 0), .ref (c + 28)]) rfl rfl ?_
  refine go_v (m := 39) (as := [.ref (c + 28), .int (iI 0)]) (r := []) rfl rfl rfl (hK.1 18 (by decide)) rfl rfl (kr_cut0_7 z (d + 5) c hp s hK hB) (fun v h3 hq => ?_)
  obtain ⟨rfl, K1, B1, X1⟩ := hq
  obtain ⟨qa, La, Laa, Laq⟩ := TMq (TM_kx hT X1)
  have F1 : TF s (s.wI 7 0) := TF_wI (Or.inr rfl)
  show xx_go (xt_P z) (d + 6) 298 8 [some (.ref (c + 25)), some (.ref a), none, none] [] h3 _
  refine go_a (pc' := 9) (ls' := [some (.ref (c + 25)), some (.ref a), none, none]) (st' := [.ref a]) rfl rfl ?_
  refine go_v (m := 229) (as := [.ref a]) (r := []) rfl rfl rfl La.1 rfl rfl (kg_length z (d + 5) a qa n f h3 La) (fun v h4 hq => ?_)
  obtain ⟨rfl, e⟩ := hq
  rw [e]
  clear e h4
  show xx_go (xt_P z) (d + 6) 298 12 [some (.ref (c + 25)), some (.ref a), none, none] [.int (iI n)] h3 _
  refine go_a (pc' := 13) (ls' := [some (.ref (c + 25)), some (.ref a), none, none]) (st' := [.int (iI 1), .int (iI n)]) rfl rfl ?_
  refine mi_sub rfl ?_
  refine go_a (pc' := 15) (ls' := [some (.ref (c + 25)), some (.ref a), some (.int (iI (n - 1))), none]) (st' := []) rfl rfl ?_
  exact kg_obj_loop z d c a n u f NM hp s lt hu um hF hT _ (n - 1) _ h3 (s.wI 7 0) (Nat.le_refl _) (by omega) (by omega) K1 B1 (TF_CX F1 hC) X1 (TF_P F1) (show s.I 8 ≤ _ by omega) (fun j j0 j1 => absurd (show j < 0 from j1) (by omega)) (show (0 : Int) ≤ _ by omega)
