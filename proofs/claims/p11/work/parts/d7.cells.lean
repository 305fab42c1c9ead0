def SD (s : KS) : Nat → Int → Int := fun a k => match a with
  | 1 => if s.N k < 0 then sd1 (s.N k) else if 4611686018427387904 ≤ s.N k then -2 else -1
  | 2 => if s.N k < 0 then sd2 (s.N k) else 0
  | _ => 0
def UI (s : KS) : Nat → Int := fun _ => s.I 8
def OB (s : KS) (k : Int) : Prop := 0 ≤ k ∧ k < s.I 8
def CI (s : KS) : Prop := PW (UI s) (SD s) ∧ (∀ k : Int, 0 ≤ k → k < s.I 8 → 0 ≤ s.A 9 k ∧ s.A 9 k ≤ k) ∧ ∀ k : Int, 0 ≤ k → k < 38 → 4611686018427387904 ≤ s.N k
theorem SD_neg {s : KS} {k : Int} (h : s.N k < 0) : SD s 1 k = sd1 (s.N k) ∧ SD s 2 k = sd2 (s.N k) := ⟨if_pos h, if_pos h⟩
theorem SD_at {s : KS} {k : Int} (h : ¬ s.N k < 0) : SD s 1 k < 0 ∧ SD s 2 k = 0 := by
  refine ⟨?_, if_neg h⟩
  show (if s.N k < 0 then sd1 (s.N k) else if 4611686018427387904 ≤ s.N k then -2 else -1) < 0
  rw [if_neg h]
  split <;> decide
theorem SD_nn {s : KS} {k : Int} : 0 ≤ SD s 1 k ↔ s.N k < 0 := by
  by_cases h : s.N k < 0
  · rw [(SD_neg h).1]
    exact ⟨fun _ => h, fun _ => (sd_R _).1.1⟩
  · have := (SD_at h).1
    exact ⟨fun q => by omega, fun q => absurd q h⟩
def fst (s : KS) (k : Int) : Int := if 0 ≤ k ∧ k < s.I 8 ∧ s.N k < 0 then sd1 (s.N k) else 0
def rst (s : KS) (k : Int) : Int := if 0 ≤ k ∧ k < s.I 8 ∧ s.N k < 0 then sd2 (s.N k) else 0
def PRr (s : KS) (k : Int) : Prop := 0 ≤ k ∧ k < s.I 8 ∧ s.N k < 0
theorem kc_length (z : Value) (d c : Nat) (hp : xx_H) (s : KS) (hK : KI c hp s) : xx_cl (xt_P z) (d + 1) 31 [.ref (c + 4)] hp (fun v h1 => v = some (.int (iI (s.I 8))) ∧ h1 = hp) := by
  refine cl_go rfl ?_
  show xx_go (xt_P z) d 31 0 [some (.ref (c + 4))] [] hp _
  refine go_a (pc' := 1) (ls' := [some (.ref (c + 4))]) (st' := [.ref (c + 4)]) rfl rfl ?_
  refine go_get (v := .int (iI (s.I 8))) rfl (hK.1 3 (by decide)) rfl rfl ?_
  exact go_r rfl rfl rfl rfl rfl rfl ⟨rfl, rfl⟩
theorem kc_height (z : Value) (d c : Nat) (k : Int) (hp : xx_H) (s : KS) (hK : KI c hp s) (hB : KB s) (k0 : -2147483648 ≤ k) (k1 : k ≤ 2147483647) : xx_cl (xt_P z) (d + 1) 195 [.ref (c + 4), .int (iI k)] hp (fun v h1 => (((0 ≤ k ∧ k < s.I 8) ∧ v = some (.int (iI (s.A 9 k)))) ∨ (¬ (0 ≤ k ∧ k < s.I 8) ∧ v = some (.int (iI 0)))) ∧ h1 = hp) := by
  have b := hB.2.2.2.2.2.1
  have rk := hB.2.2.1 k
  have no : ¬ (0 ≤ k ∧ k < s.I 8) → xx_go (xt_P z) d 195 21 [some (.ref (c + 4)), some (.int (iI k))] [] hp (fun v h1 => (((0 ≤ k ∧ k < s.I 8) ∧ v = some (.int (iI (s.A 9 k)))) ∨ (¬ (0 ≤ k ∧ k < s.I 8) ∧ v = some (.int (iI 0)))) ∧ h1 = hp) := by
    intro q
    refine go_a (pc' := 22) (ls' := [some (.ref (c + 4)), some (.int (iI k))]) (st' := [.int (iI 0)]) rfl rfl ?_
    exact go_r rfl rfl rfl rfl rfl rfl ⟨Or.inr ⟨q, rfl⟩, rfl⟩
  refine cl_go rfl ?_
  show xx_go (xt_P z) d 195 0 [some (.ref (c + 4)), some (.int (iI k))] [] hp _
  refine go_a (pc' := 1) (ls' := [some (.ref (c + 4)), some (.int (iI k))]) (st' := [.int (iI k)]) rfl rfl ?_
  refine mi_lt0 (t := 21) rfl rfl (by omega) (by omega) (fun q => no (by omega)) (fun _ => ?_)
  refine go_a (pc' := 5) (ls' := [some (.ref (c + 4)), some (.int (iI k))]) (st' := [.int (iI k)]) rfl rfl ?_
  refine go_a (pc' := 6) (ls' := [some (.ref (c + 4)), some (.int (iI k))]) (st' := [.ref (c + 4), .int (iI k)]) rfl rfl ?_
  refine go_get (v := .int (iI (s.I 8))) rfl (hK.1 3 (by decide)) rfl rfl ?_
  refine mi_ge (t := 21) rfl rfl (by omega) (by omega) (by omega) (by omega) (fun q => no (by omega)) (fun _ => ?_)
  refine go_a (pc' := 13) (ls' := [some (.ref (c + 4)), some (.int (iI k))]) (st' := [.ref (c + 4)]) rfl rfl ?_
  refine go_get (v := .ref (s.P 9)) rfl (hK.1 3 (by decide)) rfl rfl ?_
  refine go_a (pc' := 17) (ls' := [some (.ref (c + 4)), some (.int (iI k))]) (st' := [.int (iI k), .ref (s.P 9)]) rfl rfl ?_
  refine mi_ild (n := (s.C 9).toNat) (f := s.A 9) rfl (hK.1 30 (by decide)) (by omega) (by omega) (by omega) ?_
  refine go_a (pc' := 22) (ls' := [some (.ref (c + 4)), some (.int (iI k))]) (st' := [.int (iI (s.A 9 k))]) rfl rfl ?_
  exact go_r rfl rfl rfl rfl rfl rfl ⟨Or.inl ⟨by omega, rfl⟩, rfl⟩
theorem kc_isPair (z : Value) (d c : Nat) (k : Int) (hp : xx_H) (s : KS) (hK : KI c hp s) (hB : KB s) (k0 : -2147483648 ≤ k) (k1 : k ≤ 2147483647) : xx_cl (xt_P z) (d + 1) 199 [.ref (c + 4), .int (iI k)] hp (fun v h1 => (((0 ≤ k ∧ k < s.I 8 ∧ s.N k < 0) ∧ v = some (.int (iI 1))) ∨ (¬ (0 ≤ k ∧ k < s.I 8 ∧ s.N k < 0) ∧ v = some (.int (iI 0)))) ∧ h1 = hp) := by
  have b := hB.2.2.2.2.2.1
  have rk := hB.2.2.1 k
  have no : ¬ (0 ≤ k ∧ k < s.I 8 ∧ s.N k < 0) → xx_go (xt_P z) d 199 27 [some (.ref (c + 4)), some (.int (iI k))] [] hp (fun v h1 => (((0 ≤ k ∧ k < s.I 8 ∧ s.N k < 0) ∧ v = some (.int (iI 1))) ∨ (¬ (0 ≤ k ∧ k < s.I 8 ∧ s.N k < 0) ∧ v = some (.int (iI 0)))) ∧ h1 = hp) := by
    intro q
    refine go_a (pc' := 28) (ls' := [some (.ref (c + 4)), some (.int (iI k))]) (st' := [.int (iI 0)]) rfl rfl ?_
    exact go_r rfl rfl rfl rfl rfl rfl ⟨Or.inr ⟨q, rfl⟩, rfl⟩
  refine cl_go rfl ?_
  show xx_go (xt_P z) d 199 0 [some (.ref (c + 4)), some (.int (iI k))] [] hp _
  refine go_a (pc' := 1) (ls' := [some (.ref (c + 4)), some (.int (iI k))]) (st' := [.int (iI k)]) rfl rfl ?_
  refine mi_lt0 (t := 27) rfl rfl (by omega) (by omega) (fun q => no (by omega)) (fun _ => ?_)
  refine go_a (pc' := 5) (ls' := [some (.ref (c + 4)), some (.int (iI k))]) (st' := [.int (iI k)]) rfl rfl ?_
  refine go_a (pc' := 6) (ls' := [some (.ref (c + 4)), some (.int (iI k))]) (st' := [.ref (c + 4), .int (iI k)]) rfl rfl ?_
  refine go_get (v := .int (iI (s.I 8))) rfl (hK.1 3 (by decide)) rfl rfl ?_
  refine mi_ge (t := 27) rfl rfl (by omega) (by omega) (by omega) (by omega) (fun q => no (by omega)) (fun _ => ?_)
  refine go_a (pc' := 13) (ls' := [some (.ref (c + 4)), some (.int (iI k))]) (st' := [.ref (c + 4)]) rfl rfl ?_
  refine go_get (v := .ref (s.P 8)) rfl (hK.1 3 (by decide)) rfl rfl ?_
  refine go_a (pc' := 17) (ls' := [some (.ref (c + 4)), some (.int (iI k))]) (st' := [.int (iI k), .ref (s.P 8)]) rfl rfl ?_
  refine mi_lld (n := (s.C 8).toNat) (f := s.N) rfl (hK.1 29 (by decide)) (by omega) (by omega) (by omega) ?_
  refine go_a (pc' := 19) (ls' := [some (.ref (c + 4)), some (.int (iI k))]) (st' := [.long (Int64.ofInt 0), .long (Int64.ofInt (s.N k))]) rfl rfl ?_
  refine mi_lc_ge (t := 27) rfl rfl rfl (by omega) (by omega) (by omega) (by omega) (fun q => no (by omega)) (fun _ => ?_)
  refine go_a (pc' := 24) (ls' := [some (.ref (c + 4)), some (.int (iI k))]) (st' := [.int (iI 1)]) rfl rfl ?_
  refine go_a (pc' := 28) (ls' := [some (.ref (c + 4)), some (.int (iI k))]) (st' := [.int (iI 1)]) rfl rfl ?_
  exact go_r rfl rfl rfl rfl rfl rfl ⟨Or.inl ⟨by omega, rfl⟩, rfl⟩
theorem kc_isSymbol (z : Value) (d c : Nat) (k : Int) (hp : xx_H) (s : KS) (hK : KI c hp s) (hB : KB s) (k0 : -2147483648 ≤ k) (k1 : k ≤ 2147483647) : xx_cl (xt_P z) (d + 1) 206 [.ref (c + 4), .int (iI k)] hp (fun v h1 => (((0 ≤ k ∧ k < s.I 8 ∧ 4611686018427387904 ≤ s.N k) ∧ v = some (.int (iI 1))) ∨ (¬ (0 ≤ k ∧ k < s.I 8 ∧ 4611686018427387904 ≤ s.N k) ∧ v = some (.int (iI 0)))) ∧ h1 = hp) := by
  have b := hB.2.2.2.2.2.1
  have rk := hB.2.2.1 k
  have no : ¬ (0 ≤ k ∧ k < s.I 8 ∧ 4611686018427387904 ≤ s.N k) → xx_go (xt_P z) d 206 29 [some (.ref (c + 4)), some (.int (iI k))] [] hp (fun v h1 => (((0 ≤ k ∧ k < s.I 8 ∧ 4611686018427387904 ≤ s.N k) ∧ v = some (.int (iI 1))) ∨ (¬ (0 ≤ k ∧ k < s.I 8 ∧ 4611686018427387904 ≤ s.N k) ∧ v = some (.int (iI 0)))) ∧ h1 = hp) := by
    intro q
    refine go_a (pc' := 30) (ls' := [some (.ref (c + 4)), some (.int (iI k))]) (st' := [.int (iI 0)]) rfl rfl ?_
    exact go_r rfl rfl rfl rfl rfl rfl ⟨Or.inr ⟨q, rfl⟩, rfl⟩
  refine cl_go rfl ?_
  show xx_go (xt_P z) d 206 0 [some (.ref (c + 4)), some (.int (iI k))] [] hp _
  refine go_a (pc' := 1) (ls' := [some (.ref (c + 4)), some (.int (iI k))]) (st' := [.int (iI k)]) rfl rfl ?_
  refine mi_lt0 (t := 29) rfl rfl (by omega) (by omega) (fun q => no (by omega)) (fun _ => ?_)
  refine go_a (pc' := 5) (ls' := [some (.ref (c + 4)), some (.int (iI k))]) (st' := [.int (iI k)]) rfl rfl ?_
  refine go_a (pc' := 6) (ls' := [some (.ref (c + 4)), some (.int (iI k))]) (st' := [.ref (c + 4), .int (iI k)]) rfl rfl ?_
  refine go_get (v := .int (iI (s.I 8))) rfl (hK.1 3 (by decide)) rfl rfl ?_
  refine mi_ge (t := 29) rfl rfl (by omega) (by omega) (by omega) (by omega) (fun q => no (by omega)) (fun _ => ?_)
  refine go_a (pc' := 13) (ls' := [some (.ref (c + 4)), some (.int (iI k))]) (st' := [.ref (c + 4)]) rfl rfl ?_
  refine go_get (v := .ref (s.P 8)) rfl (hK.1 3 (by decide)) rfl rfl ?_
  refine go_a (pc' := 17) (ls' := [some (.ref (c + 4)), some (.int (iI k))]) (st' := [.int (iI k), .ref (s.P 8)]) rfl rfl ?_
  refine mi_lld (n := (s.C 8).toNat) (f := s.N) rfl (hK.1 29 (by decide)) (by omega) (by omega) (by omega) ?_
  refine go_b (pc' := 21) (st' := [.long (Int64.ofInt 4611686018427387904), .long (Int64.ofInt (s.N k))]) (h' := hp) rfl rfl rfl ?_
  refine mi_lc_lt (t := 29) rfl rfl rfl (by omega) (by omega) (by omega) (by omega) (fun q => no (by omega)) (fun _ => ?_)
  refine go_a (pc' := 26) (ls' := [some (.ref (c + 4)), some (.int (iI k))]) (st' := [.int (iI 1)]) rfl rfl ?_
  refine go_a (pc' := 30) (ls' := [some (.ref (c + 4)), some (.int (iI k))]) (st' := [.int (iI 1)]) rfl rfl ?_
  exact go_r rfl rfl rfl rfl rfl rfl ⟨Or.inl ⟨by omega, rfl⟩, rfl⟩
theorem kc_isNatural (z : Value) (d c : Nat) (k : Int) (hp : xx_H) (s : KS) (hK : KI c hp s) (hB : KB s) (k0 : -2147483648 ≤ k) (k1 : k ≤ 2147483647) : xx_cl (xt_P z) (d + 1) 256 [.ref (c + 4), .int (iI k)] hp (fun v h1 => (((0 ≤ k ∧ k < s.I 8 ∧ 0 ≤ s.N k ∧ s.N k < 4611686018427387904) ∧ v = some (.int (iI 1))) ∨ (¬ (0 ≤ k ∧ k < s.I 8 ∧ 0 ≤ s.N k ∧ s.N k < 4611686018427387904) ∧ v = some (.int (iI 0)))) ∧ h1 = hp) := by
  have b := hB.2.2.2.2.2.1
  have rk := hB.2.2.1 k
  have no : ¬ (0 ≤ k ∧ k < s.I 8 ∧ 0 ≤ s.N k ∧ s.N k < 4611686018427387904) → xx_go (xt_P z) d 256 40 [some (.ref (c + 4)), some (.int (iI k))] [] hp (fun v h1 => (((0 ≤ k ∧ k < s.I 8 ∧ 0 ≤ s.N k ∧ s.N k < 4611686018427387904) ∧ v = some (.int (iI 1))) ∨ (¬ (0 ≤ k ∧ k < s.I 8 ∧ 0 ≤ s.N k ∧ s.N k < 4611686018427387904) ∧ v = some (.int (iI 0)))) ∧ h1 = hp) := by
    intro q
    refine go_a (pc' := 41) (ls' := [some (.ref (c + 4)), some (.int (iI k))]) (st' := [.int (iI 0)]) rfl rfl ?_
    exact go_r rfl rfl rfl rfl rfl rfl ⟨Or.inr ⟨q, rfl⟩, rfl⟩
  refine cl_go rfl ?_
  show xx_go (xt_P z) d 256 0 [some (.ref (c + 4)), some (.int (iI k))] [] hp _
  refine go_a (pc' := 1) (ls' := [some (.ref (c + 4)), some (.int (iI k))]) (st' := [.int (iI k)]) rfl rfl ?_
  refine mi_lt0 (t := 40) rfl rfl (by omega) (by omega) (fun q => no (by omega)) (fun _ => ?_)
  refine go_a (pc' := 5) (ls' := [some (.ref (c + 4)), some (.int (iI k))]) (st' := [.int (iI k)]) rfl rfl ?_
  refine go_a (pc' := 6) (ls' := [some (.ref (c + 4)), some (.int (iI k))]) (st' := [.ref (c + 4), .int (iI k)]) rfl rfl ?_
  refine go_get (v := .int (iI (s.I 8))) rfl (hK.1 3 (by decide)) rfl rfl ?_
  refine mi_ge (t := 40) rfl rfl (by omega) (by omega) (by omega) (by omega) (fun q => no (by omega)) (fun _ => ?_)
  refine go_a (pc' := 13) (ls' := [some (.ref (c + 4)), some (.int (iI k))]) (st' := [.ref (c + 4)]) rfl rfl ?_
  refine go_get (v := .ref (s.P 8)) rfl (hK.1 3 (by decide)) rfl rfl ?_
  refine go_a (pc' := 17) (ls' := [some (.ref (c + 4)), some (.int (iI k))]) (st' := [.int (iI k), .ref (s.P 8)]) rfl rfl ?_
  refine mi_lld (n := (s.C 8).toNat) (f := s.N) rfl (hK.1 29 (by decide)) (by omega) (by omega) (by omega) ?_
  refine go_a (pc' := 19) (ls' := [some (.ref (c + 4)), some (.int (iI k))]) (st' := [.long (Int64.ofInt 0), .long (Int64.ofInt (s.N k))]) rfl rfl ?_
  refine mi_lc_lt (t := 40) rfl rfl rfl (by omega) (by omega) (by omega) (by omega) (fun q => no (by omega)) (fun _ => ?_)
  refine go_a (pc' := 24) (ls' := [some (.ref (c + 4)), some (.int (iI k))]) (st' := [.ref (c + 4)]) rfl rfl ?_
  refine go_get (v := .ref (s.P 8)) rfl (hK.1 3 (by decide)) rfl rfl ?_
  refine go_a (pc' := 28) (ls' := [some (.ref (c + 4)), some (.int (iI k))]) (st' := [.int (iI k), .ref (s.P 8)]) rfl rfl ?_
  refine mi_lld (n := (s.C 8).toNat) (f := s.N) rfl (hK.1 29 (by decide)) (by omega) (by omega) (by omega) ?_
  refine go_b (pc' := 32) (st' := [.long (Int64.ofInt 4611686018427387904), .long (Int64.ofInt (s.N k))]) (h' := hp) rfl rfl rfl ?_
  refine mi_lc_ge (t := 40) rfl rfl rfl (by omega) (by omega) (by omega) (by omega) (fun q => no (by omega)) (fun _ => ?_)
  refine go_a (pc' := 37) (ls' := [some (.ref (c + 4)), some (.int (iI k))]) (st' := [.int (iI 1)]) rfl rfl ?_
  refine go_a (pc' := 41) (ls' := [some (.ref (c + 4)), some (.int (iI k))]) (st' := [.int (iI 1)]) rfl rfl ?_
  exact go_r rfl rfl rfl rfl rfl rfl ⟨Or.inl ⟨by omega, rfl⟩, rfl⟩
theorem kc_first0 (z : Value) (d c : Nat) (k : Int) (hp : xx_H) (s : KS) (hK : KI c hp s) (hB : KB s) (k0 : -2147483648 ≤ k) (k1 : k ≤ 2147483647) : xx_cl (xt_P z) (d + 1) 197 [.ref (c + 4), .int (iI k)] hp (fun v h1 => (((0 ≤ k ∧ k < s.I 8 ∧ s.N k < 0) ∧ v = some (.int (iI (sd1 (s.N k))))) ∨ (¬ (0 ≤ k ∧ k < s.I 8 ∧ s.N k < 0) ∧ v = some (.int (iI 0)))) ∧ h1 = hp) := by
  have b := hB.2.2.2.2.2.1
  have rk := hB.2.2.1 k
  have no : ¬ (0 ≤ k ∧ k < s.I 8 ∧ s.N k < 0) → xx_go (xt_P z) d 197 40 [some (.ref (c + 4)), some (.int (iI k))] [] hp (fun v h1 => (((0 ≤ k ∧ k < s.I 8 ∧ s.N k < 0) ∧ v = some (.int (iI (sd1 (s.N k))))) ∨ (¬ (0 ≤ k ∧ k < s.I 8 ∧ s.N k < 0) ∧ v = some (.int (iI 0)))) ∧ h1 = hp) := by
    intro q
    refine go_a (pc' := 41) (ls' := [some (.ref (c + 4)), some (.int (iI k))]) (st' := [.int (iI 0)]) rfl rfl ?_
    exact go_r rfl rfl rfl rfl rfl rfl ⟨Or.inr ⟨q, rfl⟩, rfl⟩
  refine cl_go rfl ?_
  show xx_go (xt_P z) d 197 0 [some (.ref (c + 4)), some (.int (iI k))] [] hp _
  refine go_a (pc' := 1) (ls' := [some (.ref (c + 4)), some (.int (iI k))]) (st' := [.int (iI k)]) rfl rfl ?_
  refine mi_lt0 (t := 40) rfl rfl (by omega) (by omega) (fun q => no (by omega)) (fun _ => ?_)
  refine go_a (pc' := 5) (ls' := [some (.ref (c + 4)), some (.int (iI k))]) (st' := [.int (iI k)]) rfl rfl ?_
  refine go_a (pc' := 6) (ls' := [some (.ref (c + 4)), some (.int (iI k))]) (st' := [.ref (c + 4), .int (iI k)]) rfl rfl ?_
  refine go_get (v := .int (iI (s.I 8))) rfl (hK.1 3 (by decide)) rfl rfl ?_
  refine mi_ge (t := 40) rfl rfl (by omega) (by omega) (by omega) (by omega) (fun q => no (by omega)) (fun _ => ?_)
  refine go_a (pc' := 13) (ls' := [some (.ref (c + 4)), some (.int (iI k))]) (st' := [.ref (c + 4)]) rfl rfl ?_
  refine go_get (v := .ref (s.P 8)) rfl (hK.1 3 (by decide)) rfl rfl ?_
  refine go_a (pc' := 17) (ls' := [some (.ref (c + 4)), some (.int (iI k))]) (st' := [.int (iI k), .ref (s.P 8)]) rfl rfl ?_
  refine mi_lld (n := (s.C 8).toNat) (f := s.N) rfl (hK.1 29 (by decide)) (by omega) (by omega) (by omega) ?_
  refine go_a (pc' := 19) (ls' := [some (.ref (c + 4)), some (.int (iI k))]) (st' := [.long (Int64.ofInt 0), .long (Int64.ofInt (s.N k))]) rfl rfl ?_
  refine mi_lc_ge (t := 40) rfl rfl rfl (by omega) (by omega) (by omega) (by omega) (fun q => no (by omega)) (fun _ => ?_)
  refine go_a (pc' := 24) (ls' := [some (.ref (c + 4)), some (.int (iI k))]) (st' := [.ref (c + 4)]) rfl rfl ?_
  refine go_get (v := .ref (s.P 8)) rfl (hK.1 3 (by decide)) rfl rfl ?_
  refine go_a (pc' := 28) (ls' := [some (.ref (c + 4)), some (.int (iI k))]) (st' := [.int (iI k), .ref (s.P 8)]) rfl rfl ?_
  refine mi_lld (n := (s.C 8).toNat) (f := s.N) rfl (hK.1 29 (by decide)) (by omega) (by omega) (by omega) ?_
  refine go_a (pc' := 31) (ls' := [some (.ref (c + 4)), some (.int (iI k))]) (st' := [.int (iI 31), .long (Int64.ofInt (s.N k))]) rfl rfl ?_
  refine go_a (pc' := 32) (ls' := [some (.ref (c + 4)), some (.int (iI k))]) (st' := [.long (((Int64.ofInt (s.N k)).toUInt64 >>> ((31 : Int32).toInt64.toUInt64 &&& Int64.toUInt64 63)).toInt64)]) rfl rfl ?_
  refine go_b (pc' := 35) (st' := [.long (Int64.ofInt 2147483647), .long (((Int64.ofInt (s.N k)).toUInt64 >>> ((31 : Int32).toInt64.toUInt64 &&& Int64.toUInt64 63)).toInt64)]) (h' := hp) rfl rfl rfl ?_
  refine go_a (pc' := 36) (ls' := [some (.ref (c + 4)), some (.int (iI k))]) (st' := [.long (((Int64.ofInt (s.N k)).toUInt64 >>> ((31 : Int32).toInt64.toUInt64 &&& Int64.toUInt64 63)).toInt64 &&& 2147483647)]) rfl rfl ?_
  refine go_a (pc' := 37) (ls' := [some (.ref (c + 4)), some (.int (iI k))]) (st' := [.int (iI (sd1 (s.N k)))]) rfl (by rw [← key_first rk.1 (by omega)]; rfl) ?_
  refine go_a (pc' := 41) (ls' := [some (.ref (c + 4)), some (.int (iI k))]) (st' := [.int (iI (sd1 (s.N k)))]) rfl rfl ?_
  exact go_r rfl rfl rfl rfl rfl rfl ⟨Or.inl ⟨by omega, rfl⟩, rfl⟩
theorem kc_rest0 (z : Value) (d c : Nat) (k : Int) (hp : xx_H) (s : KS) (hK : KI c hp s) (hB : KB s) (k0 : -2147483648 ≤ k) (k1 : k ≤ 2147483647) : xx_cl (xt_P z) (d + 1) 200 [.ref (c + 4), .int (iI k)] hp (fun v h1 => (((0 ≤ k ∧ k < s.I 8 ∧ s.N k < 0) ∧ v = some (.int (iI (sd2 (s.N k))))) ∨ (¬ (0 ≤ k ∧ k < s.I 8 ∧ s.N k < 0) ∧ v = some (.int (iI 0)))) ∧ h1 = hp) := by
  have b := hB.2.2.2.2.2.1
  have rk := hB.2.2.1 k
  have no : ¬ (0 ≤ k ∧ k < s.I 8 ∧ s.N k < 0) → xx_go (xt_P z) d 200 37 [some (.ref (c + 4)), some (.int (iI k))] [] hp (fun v h1 => (((0 ≤ k ∧ k < s.I 8 ∧ s.N k < 0) ∧ v = some (.int (iI (sd2 (s.N k))))) ∨ (¬ (0 ≤ k ∧ k < s.I 8 ∧ s.N k < 0) ∧ v = some (.int (iI 0)))) ∧ h1 = hp) := by
    intro q
    refine go_a (pc' := 38) (ls' := [some (.ref (c + 4)), some (.int (iI k))]) (st' := [.int (iI 0)]) rfl rfl ?_
    exact go_r rfl rfl rfl rfl rfl rfl ⟨Or.inr ⟨q, rfl⟩, rfl⟩
  refine cl_go rfl ?_
  show xx_go (xt_P z) d 200 0 [some (.ref (c + 4)), some (.int (iI k))] [] hp _
  refine go_a (pc' := 1) (ls' := [some (.ref (c + 4)), some (.int (iI k))]) (st' := [.int (iI k)]) rfl rfl ?_
  refine mi_lt0 (t := 37) rfl rfl (by omega) (by omega) (fun q => no (by omega)) (fun _ => ?_)
  refine go_a (pc' := 5) (ls' := [some (.ref (c + 4)), some (.int (iI k))]) (st' := [.int (iI k)]) rfl rfl ?_
  refine go_a (pc' := 6) (ls' := [some (.ref (c + 4)), some (.int (iI k))]) (st' := [.ref (c + 4), .int (iI k)]) rfl rfl ?_
  refine go_get (v := .int (iI (s.I 8))) rfl (hK.1 3 (by decide)) rfl rfl ?_
  refine mi_ge (t := 37) rfl rfl (by omega) (by omega) (by omega) (by omega) (fun q => no (by omega)) (fun _ => ?_)
  refine go_a (pc' := 13) (ls' := [some (.ref (c + 4)), some (.int (iI k))]) (st' := [.ref (c + 4)]) rfl rfl ?_
  refine go_get (v := .ref (s.P 8)) rfl (hK.1 3 (by decide)) rfl rfl ?_
  refine go_a (pc' := 17) (ls' := [some (.ref (c + 4)), some (.int (iI k))]) (st' := [.int (iI k), .ref (s.P 8)]) rfl rfl ?_
  refine mi_lld (n := (s.C 8).toNat) (f := s.N) rfl (hK.1 29 (by decide)) (by omega) (by omega) (by omega) ?_
  refine go_a (pc' := 19) (ls' := [some (.ref (c + 4)), some (.int (iI k))]) (st' := [.long (Int64.ofInt 0), .long (Int64.ofInt (s.N k))]) rfl rfl ?_
  refine mi_lc_ge (t := 37) rfl rfl rfl (by omega) (by omega) (by omega) (by omega) (fun q => no (by omega)) (fun _ => ?_)
  refine go_a (pc' := 24) (ls' := [some (.ref (c + 4)), some (.int (iI k))]) (st' := [.ref (c + 4)]) rfl rfl ?_
  refine go_get (v := .ref (s.P 8)) rfl (hK.1 3 (by decide)) rfl rfl ?_
  refine go_a (pc' := 28) (ls' := [some (.ref (c + 4)), some (.int (iI k))]) (st' := [.int (iI k), .ref (s.P 8)]) rfl rfl ?_
  refine mi_lld (n := (s.C 8).toNat) (f := s.N) rfl (hK.1 29 (by decide)) (by omega) (by omega) (by omega) ?_
  refine go_b (pc' := 32) (st' := [.long (Int64.ofInt 2147483647), .long (Int64.ofInt (s.N k))]) (h' := hp) rfl rfl rfl ?_
  refine go_a (pc' := 33) (ls' := [some (.ref (c + 4)), some (.int (iI k))]) (st' := [.long (Int64.ofInt (s.N k) &&& 2147483647)]) rfl rfl ?_
  refine go_a (pc' := 34) (ls' := [some (.ref (c + 4)), some (.int (iI k))]) (st' := [.int (iI (sd2 (s.N k)))]) rfl (by rw [← key_rest rk.1 (by omega)]; rfl) ?_
  refine go_a (pc' := 38) (ls' := [some (.ref (c + 4)), some (.int (iI k))]) (st' := [.int (iI (sd2 (s.N k)))]) rfl rfl ?_
  exact go_r rfl rfl rfl rfl rfl rfl ⟨Or.inl ⟨by omega, rfl⟩, rfl⟩
theorem kc_first (z : Value) (d c : Nat) (k : Int) (hp : xx_H) (s : KS) (hK : KI c hp s) (hB : KB s) (k0 : -2147483648 ≤ k) (k1 : k ≤ 2147483647) : xx_cl (xt_P z) (d + 1) 197 [.ref (c + 4), .int (iI k)] hp (fun v h1 => v = some (.int (iI (fst s k))) ∧ h1 = hp) := by
  refine cl_w (fun v h1 hq => ?_) (kc_first0 z d c k hp s hK hB k0 k1)
  obtain ⟨q, e⟩ := hq
  refine ⟨?_, e⟩
  unfold fst
  rcases q with ⟨q1, q2⟩ | ⟨q1, q2⟩
  · rw [if_pos q1]
    exact q2
  · rw [if_neg q1]
    exact q2
theorem kc_rest (z : Value) (d c : Nat) (k : Int) (hp : xx_H) (s : KS) (hK : KI c hp s) (hB : KB s) (k0 : -2147483648 ≤ k) (k1 : k ≤ 2147483647) : xx_cl (xt_P z) (d + 1) 200 [.ref (c + 4), .int (iI k)] hp (fun v h1 => v = some (.int (iI (rst s k))) ∧ h1 = hp) := by
  refine cl_w (fun v h1 hq => ?_) (kc_rest0 z d c k hp s hK hB k0 k1)
  obtain ⟨q, e⟩ := hq
  refine ⟨?_, e⟩
  unfold rst
  rcases q with ⟨q1, q2⟩ | ⟨q1, q2⟩
  · rw [if_pos q1]
    exact q2
  · rw [if_neg q1]
    exact q2
theorem kc_isVariable (z : Value) (d c : Nat) (k : Int) (hp : xx_H) (s : KS) (hK : KI c hp s) (hB : KB s) (k0 : -2147483648 ≤ k) (k1 : k ≤ 2147483647) : xx_cl (xt_P z) (d + 2) 205 [.ref (c + 4), .int (iI k)] hp (fun v h1 => ((((0 ≤ k ∧ k < s.I 8 ∧ 4611686018427387904 ≤ s.N k) ∧ k ≠ 0 ∧ k ≠ 1) ∧ v = some (.int (iI 1))) ∨ (¬ ((0 ≤ k ∧ k < s.I 8 ∧ 4611686018427387904 ≤ s.N k) ∧ k ≠ 0 ∧ k ≠ 1) ∧ v = some (.int (iI 0)))) ∧ h1 = hp) := by
  have no : ¬ ((0 ≤ k ∧ k < s.I 8 ∧ 4611686018427387904 ≤ s.N k) ∧ k ≠ 0 ∧ k ≠ 1) → xx_go (xt_P z) (d + 1) 205 21 [some (.ref (c + 4)), some (.int (iI k))] [] hp (fun v h1 => ((((0 ≤ k ∧ k < s.I 8 ∧ 4611686018427387904 ≤ s.N k) ∧ k ≠ 0 ∧ k ≠ 1) ∧ v = some (.int (iI 1))) ∨ (¬ ((0 ≤ k ∧ k < s.I 8 ∧ 4611686018427387904 ≤ s.N k) ∧ k ≠ 0 ∧ k ≠ 1) ∧ v = some (.int (iI 0)))) ∧ h1 = hp) := by
    intro q
    refine go_a (pc' := 22) (ls' := [some (.ref (c + 4)), some (.int (iI k))]) (st' := [.int (iI 0)]) rfl rfl ?_
    exact go_r rfl rfl rfl rfl rfl rfl ⟨Or.inr ⟨q, rfl⟩, rfl⟩
  refine cl_go rfl ?_
  show xx_go (xt_P z) (d + 1) 205 0 [some (.ref (c + 4)), some (.int (iI k))] [] hp _
  refine go_a (pc' := 1) (ls' := [some (.ref (c + 4)), some (.int (iI k))]) (st' := [.ref (c + 4)]) rfl rfl ?_
  refine go_a (pc' := 2) (ls' := [some (.ref (c + 4)), some (.int (iI k))]) (st' := [.int (iI k), .ref (c + 4)]) rfl rfl ?_
  refine go_v (m := 206) (as := [.ref (c + 4), .int (iI k)]) (r := []) rfl rfl rfl (hK.1 3 (by decide)) rfl rfl (kc_isSymbol z d c k hp s hK hB k0 k1) (fun v h1 hq => ?_)
  obtain ⟨hq, e⟩ := hq
  rw [e]
  rcases hq with ⟨q1, rfl⟩ | ⟨q1, rfl⟩
  · show xx_go (xt_P z) (d + 1) 205 5 [some (.ref (c + 4)), some (.int (iI k))] [.int (iI 1)] hp _
    refine mi_eq0 (t := 21) rfl rfl (by omega) (by omega) (fun q => absurd q (by decide)) (fun _ => ?_)
    refine go_a (pc' := 9) (ls' := [some (.ref (c + 4)), some (.int (iI k))]) (st' := [.int (iI k)]) rfl rfl ?_
    refine mi_eq0 (t := 21) rfl rfl (by omega) (by omega) (fun q => no (by omega)) (fun q2 => ?_)
    refine go_a (pc' := 13) (ls' := [some (.ref (c + 4)), some (.int (iI k))]) (st' := [.int (iI k)]) rfl rfl ?_
    refine go_a (pc' := 14) (ls' := [some (.ref (c + 4)), some (.int (iI k))]) (st' := [.int (iI 1), .int (iI k)]) rfl rfl ?_
    refine mi_eq (t := 21) rfl rfl (by omega) (by omega) (by omega) (by omega) (fun q => no (by omega)) (fun q3 => ?_)
    refine go_a (pc' := 18) (ls' := [some (.ref (c + 4)), some (.int (iI k))]) (st' := [.int (iI 1)]) rfl rfl ?_
    refine go_a (pc' := 22) (ls' := [some (.ref (c + 4)), some (.int (iI k))]) (st' := [.int (iI 1)]) rfl rfl ?_
    exact go_r rfl rfl rfl rfl rfl rfl ⟨Or.inl ⟨⟨q1, q2, q3⟩, rfl⟩, rfl⟩
  · show xx_go (xt_P z) (d + 1) 205 5 [some (.ref (c + 4)), some (.int (iI k))] [.int (iI 0)] hp _
    refine mi_eq0 (t := 21) rfl rfl (by omega) (by omega) (fun _ => no (fun q => q1 q.1)) (fun q => absurd rfl q)
theorem kc_value (z : Value) (d c : Nat) (k : Int) (hp : xx_H) (s : KS) (hK : KI c hp s) (hB : KB s) (k0 : -2147483648 ≤ k) (k1 : k ≤ 2147483647) : xx_cl (xt_P z) (d + 2) 255 [.ref (c + 4), .int (iI k)] hp (fun v h1 => (∃ x : Int, v = some (.long (Int64.ofInt x)) ∧ 0 ≤ x ∧ x < 4611686018427387904) ∧ h1 = hp) := by
  have b := hB.2.2.2.2.2.1
  refine cl_go rfl ?_
  show xx_go (xt_P z) (d + 1) 255 0 [some (.ref (c + 4)), some (.int (iI k))] [] hp _
  refine go_a (pc' := 1) (ls' := [some (.ref (c + 4)), some (.int (iI k))]) (st' := [.ref (c + 4)]) rfl rfl ?_
  refine go_a (pc' := 2) (ls' := [some (.ref (c + 4)), some (.int (iI k))]) (st' := [.int (iI k), .ref (c + 4)]) rfl rfl ?_
  refine go_v (m := 256) (as := [.ref (c + 4), .int (iI k)]) (r := []) rfl rfl rfl (hK.1 3 (by decide)) rfl rfl (kc_isNatural z d c k hp s hK hB k0 k1) (fun v h1 hq => ?_)
  obtain ⟨hq, e⟩ := hq
  rw [e]
  rcases hq with ⟨q1, rfl⟩ | ⟨q1, rfl⟩
  · show xx_go (xt_P z) (d + 1) 255 5 [some (.ref (c + 4)), some (.int (iI k))] [.int (iI 1)] hp _
    refine mi_eq0 (t := 17) rfl rfl (by omega) (by omega) (fun q => absurd q (by decide)) (fun _ => ?_)
    refine go_a (pc' := 9) (ls' := [some (.ref (c + 4)), some (.int (iI k))]) (st' := [.ref (c + 4)]) rfl rfl ?_
    refine go_get (v := .ref (s.P 8)) rfl (hK.1 3 (by decide)) rfl rfl ?_
    refine go_a (pc' := 13) (ls' := [some (.ref (c + 4)), some (.int (iI k))]) (st' := [.int (iI k), .ref (s.P 8)]) rfl rfl ?_
    refine mi_lld (n := (s.C 8).toNat) (f := s.N) rfl (hK.1 29 (by decide)) (by omega) (by omega) (by omega) ?_
    refine go_a (pc' := 18) (ls' := [some (.ref (c + 4)), some (.int (iI k))]) (st' := [.long (Int64.ofInt (s.N k))]) rfl rfl ?_
    exact go_r rfl rfl rfl rfl rfl rfl ⟨⟨_, rfl, by omega, by omega⟩, rfl⟩
  · show xx_go (xt_P z) (d + 1) 255 5 [some (.ref (c + 4)), some (.int (iI k))] [.int (iI 0)] hp _
    refine mi_eq0 (t := 17) rfl rfl (by omega) (by omega) (fun _ => ?_) (fun q => absurd rfl q)
    refine go_a (pc' := 18) (ls' := [some (.ref (c + 4)), some (.int (iI k))]) (st' := [.long (Int64.ofInt 0)]) rfl rfl ?_
    exact go_r rfl rfl rfl rfl rfl rfl ⟨⟨0, rfl, by decide, by decide⟩, rfl⟩
theorem key_code {x : Int} (x0 : 4611686018427387904 ≤ x) (x1 : x ≤ 9223372036854775807) : (Int64.ofInt x &&& -4611686018427387905) = Int64.ofInt (x - 4611686018427387904) := by
  apply l_eq
  rw [land_nat, l_nat, l_nat]
  have m : (-4611686018427387905 : Int64).toBitVec.toNat = (2 ^ 62 - 1) + 2 ^ 62 * 2 := by decide
  have e : (x % 18446744073709551616).toNat = 2 ^ 62 * 1 + (x - 4611686018427387904).toNat := by omega
  rw [m, e]
  have hb : (x - 4611686018427387904).toNat < 2 ^ 62 := by omega
  have h2 : ((x - 4611686018427387904) % 18446744073709551616).toNat = (x - 4611686018427387904).toNat := by omega
  rw [h2, Nat.two_pow_add_eq_or_of_lt hb, show 2 ^ 62 - 1 + 2 ^ 62 * 2 = 2 ^ 62 * 2 + (2 ^ 62 - 1) by omega, Nat.two_pow_add_eq_or_of_lt (by decide)]
  apply Nat.eq_of_testBit_eq
  intro i
  rw [Nat.testBit_and, Nat.testBit_or, Nat.testBit_or]
  by_cases hi : i < 62
  · have a1 : (2 ^ 62 * 1).testBit i = false := by
      rw [Nat.mul_one, Nat.testBit_two_pow]
      exact decide_eq_false (by omega)
    have a2 : (2 ^ 62 * 2).testBit i = false := by
      rw [show 2 ^ 62 * 2 = 2 ^ 63 by decide, Nat.testBit_two_pow]
      exact decide_eq_false (by omega)
    have a3 : (2 ^ 62 - 1).testBit i = true := by
      rw [Nat.testBit_two_pow_sub_one]
      exact decide_eq_true hi
    rw [a1, a2, a3]
    simp
  · have b1 : ((x - 4611686018427387904).toNat).testBit i = false := Nat.testBit_lt_two_pow (Nat.lt_of_lt_of_le hb (Nat.pow_le_pow_right (by decide) (by omega)))
    have a3 : (2 ^ 62 - 1).testBit i = false := by
      rw [Nat.testBit_two_pow_sub_one]
      exact decide_eq_false hi
    rw [b1, a3]
    have a1 : (2 ^ 62 * 1).testBit i = decide (62 = i) := by rw [Nat.mul_one, Nat.testBit_two_pow]
    have a2 : (2 ^ 62 * 2).testBit i = decide (63 = i) := by rw [show 2 ^ 62 * 2 = 2 ^ 63 by decide, Nat.testBit_two_pow]
    rw [a1, a2]
    by_cases c : 62 = i
    · subst c
      decide
    · rw [decide_eq_false c]
      rfl
theorem kc_code (z : Value) (d c : Nat) (k : Int) (hp : xx_H) (s : KS) (hK : KI c hp s) (hB : KB s) (k0 : -2147483648 ≤ k) (k1 : k ≤ 2147483647) : xx_cl (xt_P z) (d + 2) 314 [.ref (c + 4), .int (iI k)] hp (fun v h1 => (∃ x : Int, v = some (.long (Int64.ofInt x)) ∧ 0 ≤ x ∧ x < 9223372036854775808) ∧ h1 = hp) := by
  have b := hB.2.2.2.2.2.1
  have rk := hB.2.2.1 k
  refine cl_go rfl ?_
  show xx_go (xt_P z) (d + 1) 314 0 [some (.ref (c + 4)), some (.int (iI k))] [] hp _
  refine go_a (pc' := 1) (ls' := [some (.ref (c + 4)), some (.int (iI k))]) (st' := [.ref (c + 4)]) rfl rfl ?_
  refine go_a (pc' := 2) (ls' := [some (.ref (c + 4)), some (.int (iI k))]) (st' := [.int (iI k), .ref (c + 4)]) rfl rfl ?_
  refine go_v (m := 206) (as := [.ref (c + 4), .int (iI k)]) (r := []) rfl rfl rfl (hK.1 3 (by decide)) rfl rfl (kc_isSymbol z d c k hp s hK hB k0 k1) (fun v h1 hq => ?_)
  obtain ⟨hq, e⟩ := hq
  rw [e]
  rcases hq with ⟨q1, rfl⟩ | ⟨q1, rfl⟩
  · show xx_go (xt_P z) (d + 1) 314 5 [some (.ref (c + 4)), some (.int (iI k))] [.int (iI 1)] hp _
    refine mi_eq0 (t := 21) rfl rfl (by omega) (by omega) (fun q => absurd q (by decide)) (fun _ => ?_)
    refine go_a (pc' := 9) (ls' := [some (.ref (c + 4)), some (.int (iI k))]) (st' := [.ref (c + 4)]) rfl rfl ?_
    refine go_get (v := .ref (s.P 8)) rfl (hK.1 3 (by decide)) rfl rfl ?_
    refine go_a (pc' := 13) (ls' := [some (.ref (c + 4)), some (.int (iI k))]) (st' := [.int (iI k), .ref (s.P 8)]) rfl rfl ?_
    refine mi_lld (n := (s.C 8).toNat) (f := s.N) rfl (hK.1 29 (by decide)) (by omega) (by omega) (by omega) ?_
    refine go_b (pc' := 17) (st' := [.long (Int64.ofInt ((-4611686018427387905))), .long (Int64.ofInt (s.N k))]) (h' := hp) rfl rfl rfl ?_
    refine go_a (pc' := 18) (ls' := [some (.ref (c + 4)), some (.int (iI k))]) (st' := [.long (Int64.ofInt (s.N k - 4611686018427387904))]) rfl (by rw [← key_code (by omega) rk.2]; rfl) ?_
    refine go_a (pc' := 22) (ls' := [some (.ref (c + 4)), some (.int (iI k))]) (st' := [.long (Int64.ofInt (s.N k - 4611686018427387904))]) rfl rfl ?_
    exact go_r rfl rfl rfl rfl rfl rfl ⟨⟨_, rfl, by omega, by omega⟩, rfl⟩
  · show xx_go (xt_P z) (d + 1) 314 5 [some (.ref (c + 4)), some (.int (iI k))] [.int (iI 0)] hp _
    refine mi_eq0 (t := 21) rfl rfl (by omega) (by omega) (fun _ => ?_) (fun q => absurd rfl q)
    refine go_a (pc' := 22) (ls' := [some (.ref (c + 4)), some (.int (iI k))]) (st' := [.long (Int64.ofInt 0)]) rfl rfl ?_
    exact go_r rfl rfl rfl rfl rfl rfl ⟨⟨0, rfl, by decide, by decide⟩, rfl⟩
