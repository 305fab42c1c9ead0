theorem MST_13 {I : Nat → Int} {A : Nat → Int → Int} {N : Int → Int} {x : Int} {g : Int → Int} (hS : MST I A N) : MST (su I 17 x) (sw A 13 g) N := hS
theorem mm_atom_spell (z : Value) (d : Nat) (a b : Int) (h R : xx_H) (I : Nat → Int) (A : Nat → Int → Int) (N : Int → Int) (hc : 12 ≤ h.length) (hS : MST I A N) (ho : I 7 < 140000) (hs : I 10 < 4990) (a0 : 0 ≤ a) (ab : a ≤ b) (b1 : b ≤ 3000) (rt11 : ∀ e : Int, 0 ≤ A 11 e ∧ A 11 e ≤ 255) (ra : ∀ e : Int, a ≤ e → e < b → atc (A 11 e)) (r13 : ∀ e : Int, 0 ≤ A 13 e ∧ A 13 e ≤ 255) : ∀ (n : Nat) (j : Int) (g : Int → Int), a ≤ j → j + n = b → b - a ≤ 11 → (∀ e : Int, 0 ≤ g e ∧ g e ≤ 255) → xx_go (xt_P z) (d + 3) 92 135 [some (.ref h.length), some (.int (iI a)), some (.int (iI b)), some (.int (iI 0)), some (.int (iI j)), none, none] [] (mh h R (su I 17 (j - a)) (sw A 13 g) N) (fun v h1 => ∃ (k : Int) (I1 : Nat → Int) (A1 : Nat → Int → Int) (N1 : Int → Int), v = some (.int (iI k)) ∧ h1 = mh h R I1 A1 N1 ∧ ((k = -1 ∧ I1 = I ∧ A1 = A ∧ N1 = N) ∨ (0 ≤ k ∧ k < I1 7 ∧ A1 1 k < 0 ∧ I1 7 ≤ I 7 + 1 ∧ I1 10 ≤ I 10 + 1 ∧ ∃ (x : Int) (g : Int → Int), EX (su I 17 x) (sw A 13 g) N I1 A1 N1 ∧ ∀ e : Int, 0 ≤ g e ∧ g e ≤ 255))) := by
  intro n
  induction n with
  | zero =>
    intro j g j0 ej hab hg
    refine go_a (pc' := 137) (ls' := [some (.ref h.length), some (.int (iI a)), some (.int (iI b)), some (.int (iI 0)), some (.int (iI j)), none, none]) (st' := [.int (iI j)]) rfl rfl ?_
    refine go_a (pc' := 138) (ls' := [some (.ref h.length), some (.int (iI a)), some (.int (iI b)), some (.int (iI 0)), some (.int (iI j)), none, none]) (st' := [.int (iI b), .int (iI j)]) rfl rfl ?_
    refine mi_ge (t := 158) rfl rfl (by omega) (by omega) (by omega) (by omega) (fun _ => ?_) (fun q => absurd (show b ≤ j by omega) q)
    refine go_a (pc' := 159) (ls' := [some (.ref h.length), some (.int (iI a)), some (.int (iI b)), some (.int (iI 0)), some (.int (iI j)), none, none]) (st' := [.ref h.length]) rfl rfl ?_
    refine go_v (m := 62) (as := [.ref h.length]) (r := []) rfl rfl rfl mh_o rfl rfl (mm_symbolE z (d + 1) h R (su I 17 (j - a)) (sw A 13 g) N hc (MST_13 hS) ho hs (show 0 ≤ j - a by omega) (show j - a ≤ 11 by omega) hg) (fun v h1 hq => ?_)
    obtain ⟨k, I1, A1, rfl, rfl, X, k0, k1, e1, e2, e3⟩ := hq
    exact go_r rfl rfl rfl rfl rfl rfl ⟨k, I1, A1, N, rfl, rfl, Or.inr ⟨k0, k1, by omega, e2, e3, j - a, g, X, hg⟩⟩
  | succ n ih =>
    intro j g j0 ej hab hg
    have rj := rt11 j
    have aj : 0 < A 11 j := by
      have := ra j j0 (by omega)
      unfold atc at this
      omega
    refine go_a (pc' := 137) (ls' := [some (.ref h.length), some (.int (iI a)), some (.int (iI b)), some (.int (iI 0)), some (.int (iI j)), none, none]) (st' := [.int (iI j)]) rfl rfl ?_
    refine go_a (pc' := 138) (ls' := [some (.ref h.length), some (.int (iI a)), some (.int (iI b)), some (.int (iI 0)), some (.int (iI j)), none, none]) (st' := [.int (iI b), .int (iI j)]) rfl rfl ?_
    refine mi_ge (t := 158) rfl rfl (by omega) (by omega) (by omega) (by omega) (fun q => absurd q (by omega)) (fun _ => ?_)
    refine go_a (pc' := 142) (ls' := [some (.ref h.length), some (.int (iI a)), some (.int (iI b)), some (.int (iI 0)), some (.int (iI j)), none, none]) (st' := [.ref h.length]) rfl rfl ?_
    refine go_a (pc' := 143) (ls' := [some (.ref h.length), some (.int (iI a)), some (.int (iI b)), some (.int (iI 0)), some (.int (iI j)), none, none]) (st' := [.ref h.length, .ref h.length]) rfl rfl ?_
    refine go_get rfl mh_o rfl rfl ?_
    refine go_a (pc' := 148) (ls' := [some (.ref h.length), some (.int (iI a)), some (.int (iI b)), some (.int (iI 0)), some (.int (iI j)), none, none]) (st' := [.int (iI j), .ref (h.length + 11), .ref h.length]) rfl rfl ?_
    refine mi_ild rfl mh_a11 (by omega) (by omega) (by decide) ?_
    show xx_go (xt_P z) (d + 3) 92 149 [some (.ref h.length), some (.int (iI a)), some (.int (iI b)), some (.int (iI 0)), some (.int (iI j)), none, none] [.int (iI (A 11 j)), .ref h.length] (mh h R (su I 17 (j - a)) ((sw A 13 g)) N) _
    refine go_v (m := 61) (as := [.ref h.length, .int (iI (A 11 j))]) (r := []) rfl rfl rfl mh_o rfl rfl (mm_spell z (d + 2) (A 11 j) h R (su I 17 (j - a)) (sw A 13 g) N hc aj (by omega) (show 0 ≤ j - a by omega) (show j - a < 12 by omega)) (fun v h1 hq => ?_)
    obtain ⟨rfl, hq⟩ := hq
    rw [show su I 17 (j - a) 17 = j - a from rfl, su_su, sa_sw, show j - a + 1 = j + 1 - a by omega] at hq
    subst hq
    show xx_go (xt_P z) (d + 3) 92 152 [some (.ref h.length), some (.int (iI a)), some (.int (iI b)), some (.int (iI 0)), some (.int (iI j)), none, none] [] (mh h R (su I 17 (j + 1 - a)) (sw A 13 (sf g (j - a) (A 11 j))) N) _
    refine go_a (pc' := 155) (ls' := [some (.ref h.length), some (.int (iI a)), some (.int (iI b)), some (.int (iI 0)), some (.int (iI (j + 1))), none, none]) (st' := []) rfl (by rw [← iI_add j 1]; rfl) ?_
    refine go_a (pc' := 135) (ls' := [some (.ref h.length), some (.int (iI a)), some (.int (iI b)), some (.int (iI 0)), some (.int (iI (j + 1))), none, none]) (st' := []) rfl rfl ?_
    exact ih (j + 1) _ (by omega) (by omega) hab (fun e => by
      by_cases ee : e = j - a
      · rw [ee, sf_self]
        exact rj
      · rw [sf_ne ee]
        exact hg e)
theorem mm_atom_nat (z : Value) (d : Nat) (a b : Int) (h R : xx_H) (I : Nat → Int) (A : Nat → Int → Int) (N : Int → Int) (hc : 12 ≤ h.length) (hS : MST I A N) (ho : I 7 < 140000) (hs : I 10 < 4990) (a0 : 0 ≤ a) (ab : a ≤ b) (b1 : b ≤ 3000) (rt11 : ∀ e : Int, 0 ≤ A 11 e ∧ A 11 e ≤ 255) (ra : ∀ e : Int, a ≤ e → e < b → atc (A 11 e)) (r13 : ∀ e : Int, 0 ≤ A 13 e ∧ A 13 e ≤ 255) (rd : ∀ e : Int, a ≤ e → e < b → 48 ≤ A 11 e ∧ A 11 e ≤ 57) : ∀ (n : Nat) (j v : Int), a ≤ j → j + n = b → 0 ≤ v → v < 4611686018427387904 → xx_go (xt_P z) (d + 3) 92 50 [some (.ref h.length), some (.int (iI a)), some (.int (iI b)), some (.int (iI 1)), some (.long (Int64.ofInt v)), none, some (.int (iI j))] [] (mh h R I A N) (fun v h1 => ∃ (k : Int) (I1 : Nat → Int) (A1 : Nat → Int → Int) (N1 : Int → Int), v = some (.int (iI k)) ∧ h1 = mh h R I1 A1 N1 ∧ ((k = -1 ∧ I1 = I ∧ A1 = A ∧ N1 = N) ∨ (0 ≤ k ∧ k < I1 7 ∧ A1 1 k < 0 ∧ I1 7 ≤ I 7 + 1 ∧ I1 10 ≤ I 10 + 1 ∧ ∃ (x : Int) (g : Int → Int), EX (su I 17 x) (sw A 13 g) N I1 A1 N1 ∧ ∀ e : Int, 0 ≤ g e ∧ g e ≤ 255))) := by
  intro n
  induction n with
  | zero =>
    intro j v j0 ej v0 v1
    refine go_a (pc' := 52) (ls' := [some (.ref h.length), some (.int (iI a)), some (.int (iI b)), some (.int (iI 1)), some (.long (Int64.ofInt v)), none, some (.int (iI j))]) (st' := [.int (iI j)]) rfl rfl ?_
    refine go_a (pc' := 53) (ls' := [some (.ref h.length), some (.int (iI a)), some (.int (iI b)), some (.int (iI 1)), some (.long (Int64.ofInt v)), none, some (.int (iI j))]) (st' := [.int (iI b), .int (iI j)]) rfl rfl ?_
    refine mi_ge (t := 110) rfl rfl (by omega) (by omega) (by omega) (by omega) (fun _ => ?_) (fun q => absurd (show b ≤ j by omega) q)
    refine go_a (pc' := 111) (ls' := [some (.ref h.length), some (.int (iI a)), some (.int (iI b)), some (.int (iI 1)), some (.long (Int64.ofInt v)), none, some (.int (iI j))]) (st' := [.ref h.length]) rfl rfl ?_
    refine go_a (pc' := 113) (ls' := [some (.ref h.length), some (.int (iI a)), some (.int (iI b)), some (.int (iI 1)), some (.long (Int64.ofInt v)), none, some (.int (iI j))]) (st' := [.long (Int64.ofInt v), .ref h.length]) rfl rfl ?_
    refine go_v (m := 93) (as := [.ref h.length, .long (Int64.ofInt v)]) (r := []) rfl rfl rfl mh_o rfl rfl (mm_naturalE z (d + 1) v h R I A N hc hS ho v0 v1) (fun v h1 hq => ?_)
    obtain ⟨k, I1, A1, N1, rfl, rfl, X, k0, k1, e1, e2, e3⟩ := hq
    refine go_r rfl rfl rfl rfl rfl rfl ⟨k, I1, A1, N1, rfl, rfl, Or.inr ⟨k0, k1, by omega, e2, by omega, I 17, A 13, ?_, r13⟩⟩
    rw [su_eta rfl, sw_self]
    exact X
  | succ n ih =>
    intro j v j0 ej v0 v1
    have rj := rd j j0 (by omega)
    refine go_a (pc' := 52) (ls' := [some (.ref h.length), some (.int (iI a)), some (.int (iI b)), some (.int (iI 1)), some (.long (Int64.ofInt v)), none, some (.int (iI j))]) (st' := [.int (iI j)]) rfl rfl ?_
    refine go_a (pc' := 53) (ls' := [some (.ref h.length), some (.int (iI a)), some (.int (iI b)), some (.int (iI 1)), some (.long (Int64.ofInt v)), none, some (.int (iI j))]) (st' := [.int (iI b), .int (iI j)]) rfl rfl ?_
    refine mi_ge (t := 110) rfl rfl (by omega) (by omega) (by omega) (by omega) (fun q => absurd q (by omega)) (fun _ => ?_)
    refine go_a (pc' := 58) (ls' := [some (.ref h.length), some (.int (iI a)), some (.int (iI b)), some (.int (iI 1)), some (.long (Int64.ofInt v)), none, some (.int (iI j))]) (st' := [.long (Int64.ofInt v)]) rfl rfl ?_
    refine go_b (pc' := 61) (st' := [.long (Int64.ofInt 4611686018427387903), .long (Int64.ofInt v)]) (h' := mh h R I A N) rfl rfl rfl ?_
    refine go_a (pc' := 62) (ls' := [some (.ref h.length), some (.int (iI a)), some (.int (iI b)), some (.int (iI 1)), some (.long (Int64.ofInt v)), none, some (.int (iI j))]) (st' := [.ref h.length, .long (Int64.ofInt 4611686018427387903), .long (Int64.ofInt v)]) rfl rfl ?_
    refine go_get rfl mh_o rfl rfl ?_
    refine go_a (pc' := 67) (ls' := [some (.ref h.length), some (.int (iI a)), some (.int (iI b)), some (.int (iI 1)), some (.long (Int64.ofInt v)), none, some (.int (iI j))]) (st' := [.int (iI j), .ref (h.length + 11), .long (Int64.ofInt 4611686018427387903), .long (Int64.ofInt v)]) rfl rfl ?_
    refine mi_ild rfl mh_a11 (by omega) (by omega) (by decide) ?_
    refine go_a (pc' := 70) (ls' := [some (.ref h.length), some (.int (iI a)), some (.int (iI b)), some (.int (iI 1)), some (.long (Int64.ofInt v)), none, some (.int (iI j))]) (st' := [.int (iI 48), .int (iI (A 11 j)), .long (Int64.ofInt 4611686018427387903), .long (Int64.ofInt v)]) rfl rfl ?_
    refine mi_sub rfl ?_
    refine mi_i2l rfl (by omega) (by omega) ?_
    refine mi_lsub rfl ?_
    refine go_b (pc' := 76) (st' := [.long (Int64.ofInt 10), .long (Int64.ofInt (4611686018427387903 - ((A 11 j) - 48))), .long (Int64.ofInt v)]) (h' := mh h R I A N) rfl rfl rfl ?_
    refine mi_ldiv rfl (by omega) (by omega) (by omega) (by omega) ?_
    refine mi_lc_le (t := 83) rfl rfl rfl (by omega) (by omega) (by omega) (by omega) (fun hb => ?_) (fun hb => ?_)
    · refine go_b (pc' := 86) (st' := [.long (Int64.ofInt 10)]) (h' := mh h R I A N) rfl rfl rfl ?_
      refine go_a (pc' := 88) (ls' := [some (.ref h.length), some (.int (iI a)), some (.int (iI b)), some (.int (iI 1)), some (.long (Int64.ofInt v)), none, some (.int (iI j))]) (st' := [.long (Int64.ofInt v), .long (Int64.ofInt 10)]) rfl rfl ?_
      refine mi_lmul rfl ?_
      refine go_a (pc' := 90) (ls' := [some (.ref h.length), some (.int (iI a)), some (.int (iI b)), some (.int (iI 1)), some (.long (Int64.ofInt v)), none, some (.int (iI j))]) (st' := [.ref h.length, .long (Int64.ofInt (10 * v))]) rfl rfl ?_
      refine go_get rfl mh_o rfl rfl ?_
      refine go_a (pc' := 95) (ls' := [some (.ref h.length), some (.int (iI a)), some (.int (iI b)), some (.int (iI 1)), some (.long (Int64.ofInt v)), none, some (.int (iI j))]) (st' := [.int (iI j), .ref (h.length + 11), .long (Int64.ofInt (10 * v))]) rfl rfl ?_
      refine mi_ild rfl mh_a11 (by omega) (by omega) (by decide) ?_
      refine mi_i2l rfl (by omega) (by omega) ?_
      refine mi_ladd rfl ?_
      refine go_b (pc' := 101) (st' := [.long (Int64.ofInt 48), .long (Int64.ofInt ((10 * v) + (A 11 j)))]) (h' := mh h R I A N) rfl rfl rfl ?_
      refine mi_lsub rfl ?_
      refine go_a (pc' := 104) (ls' := [some (.ref h.length), some (.int (iI a)), some (.int (iI b)), some (.int (iI 1)), some (.long (Int64.ofInt (((10 * v) + (A 11 j)) - 48))), none, some (.int (iI j))]) (st' := []) rfl rfl ?_
      refine go_a (pc' := 107) (ls' := [some (.ref h.length), some (.int (iI a)), some (.int (iI b)), some (.int (iI 1)), some (.long (Int64.ofInt (((10 * v) + (A 11 j)) - 48))), none, some (.int (iI (j + 1)))]) (st' := []) rfl (by rw [← iI_add j 1]; rfl) ?_
      refine go_a (pc' := 50) (ls' := [some (.ref h.length), some (.int (iI a)), some (.int (iI b)), some (.int (iI 1)), some (.long (Int64.ofInt (((10 * v) + (A 11 j)) - 48))), none, some (.int (iI (j + 1)))]) (st' := []) rfl rfl ?_
      exact ih (j + 1) _ (by omega) (by omega) (by omega) (by omega)
    · refine go_a (pc' := 82) (ls' := [some (.ref h.length), some (.int (iI a)), some (.int (iI b)), some (.int (iI 1)), some (.long (Int64.ofInt v)), none, some (.int (iI j))]) (st' := [.int (iI ((-1)))]) rfl rfl ?_
      exact go_r rfl rfl rfl rfl rfl rfl ⟨-1, I, A, N, rfl, rfl, Or.inl ⟨rfl, rfl, rfl, rfl⟩⟩
theorem mm_atom_dig (z : Value) (d : Nat) (a b : Int) (h R : xx_H) (I : Nat → Int) (A : Nat → Int → Int) (N : Int → Int) (hc : 12 ≤ h.length) (hS : MST I A N) (ho : I 7 < 140000) (hs : I 10 < 4990) (a0 : 0 ≤ a) (ab : a ≤ b) (b1 : b ≤ 3000) (rt11 : ∀ e : Int, 0 ≤ A 11 e ∧ A 11 e ≤ 255) (ra : ∀ e : Int, a ≤ e → e < b → atc (A 11 e)) (r13 : ∀ e : Int, 0 ≤ A 13 e ∧ A 13 e ≤ 255) : ∀ (n : Nat) (j c : Int), a ≤ j → j + n = b → (c = 0 ∨ (c = 1 ∧ ∀ e : Int, a ≤ e → e < j → 48 ≤ A 11 e ∧ A 11 e ≤ 57)) → xx_go (xt_P z) (d + 3) 92 5 [some (.ref h.length), some (.int (iI a)), some (.int (iI b)), some (.int (iI c)), some (.int (iI j)), none, none] [] (mh h R I A N) (fun v h1 => ∃ (k : Int) (I1 : Nat → Int) (A1 : Nat → Int → Int) (N1 : Int → Int), v = some (.int (iI k)) ∧ h1 = mh h R I1 A1 N1 ∧ ((k = -1 ∧ I1 = I ∧ A1 = A ∧ N1 = N) ∨ (0 ≤ k ∧ k < I1 7 ∧ A1 1 k < 0 ∧ I1 7 ≤ I 7 + 1 ∧ I1 10 ≤ I 10 + 1 ∧ ∃ (x : Int) (g : Int → Int), EX (su I 17 x) (sw A 13 g) N I1 A1 N1 ∧ ∀ e : Int, 0 ≤ g e ∧ g e ≤ 255))) := by
  intro n
  induction n with
  | zero =>
    intro j c j0 ej hd
    have ej : j = b := by omega
    subst ej
    rcases hd with rfl | ⟨rfl, hd⟩
    · refine go_a (pc' := 7) (ls' := [some (.ref h.length), some (.int (iI a)), some (.int (iI j)), some (.int (iI 0)), some (.int (iI j)), none, none]) (st' := [.int (iI j)]) rfl rfl ?_
      refine go_a (pc' := 8) (ls' := [some (.ref h.length), some (.int (iI a)), some (.int (iI j)), some (.int (iI 0)), some (.int (iI j)), none, none]) (st' := [.int (iI j), .int (iI j)]) rfl rfl ?_
      refine mi_ge (t := 40) rfl rfl (by omega) (by omega) (by omega) (by omega) (fun _ => ?_) (fun q => absurd (Int.le_refl _) q)
      refine go_a (pc' := 41) (ls' := [some (.ref h.length), some (.int (iI a)), some (.int (iI j)), some (.int (iI 0)), some (.int (iI j)), none, none]) (st' := [.int (iI 0)]) rfl rfl ?_
      refine mi_eq0 (t := 117) rfl rfl (by omega) (by omega) (fun _ => ?_) (fun q => absurd rfl q)
      refine go_a (pc' := 118) (ls' := [some (.ref h.length), some (.int (iI a)), some (.int (iI j)), some (.int (iI 0)), some (.int (iI j)), none, none]) (st' := [.int (iI j)]) rfl rfl ?_
      refine go_a (pc' := 119) (ls' := [some (.ref h.length), some (.int (iI a)), some (.int (iI j)), some (.int (iI 0)), some (.int (iI j)), none, none]) (st' := [.int (iI a), .int (iI j)]) rfl rfl ?_
      refine mi_sub rfl ?_
      refine go_a (pc' := 122) (ls' := [some (.ref h.length), some (.int (iI a)), some (.int (iI j)), some (.int (iI 0)), some (.int (iI j)), none, none]) (st' := [.int (iI 11), .int (iI (j - a))]) rfl rfl ?_
      refine mi_le (t := 127) rfl rfl (by omega) (by omega) (by omega) (by omega) (fun b11 => ?_) (fun b11 => ?_)
      · refine go_a (pc' := 128) (ls' := [some (.ref h.length), some (.int (iI a)), some (.int (iI j)), some (.int (iI 0)), some (.int (iI j)), none, none]) (st' := [.ref h.length]) rfl rfl ?_
        refine go_a (pc' := 129) (ls' := [some (.ref h.length), some (.int (iI a)), some (.int (iI j)), some (.int (iI 0)), some (.int (iI j)), none, none]) (st' := [.int (iI 0), .ref h.length]) rfl rfl ?_
        refine go_put (j := 17) rfl mh_o rfl rfl (show 12 ≤ _ from hc) (show 17 < 86 by decide) rfl rfl ?_
        rw [mh_p17]
        refine go_a (pc' := 133) (ls' := [some (.ref h.length), some (.int (iI a)), some (.int (iI j)), some (.int (iI 0)), some (.int (iI j)), none, none]) (st' := [.int (iI a)]) rfl rfl ?_
        refine go_a (pc' := 135) (ls' := [some (.ref h.length), some (.int (iI a)), some (.int (iI j)), some (.int (iI 0)), some (.int (iI a)), none, none]) (st' := []) rfl rfl ?_
        have key := mm_atom_spell z d a j h R I A N hc hS ho hs a0 ab b1 rt11 ra r13 (j - a).toNat a (A 13) (Int.le_refl _) (by omega) (by omega) r13
        rw [sw_self, show a - a = 0 by omega] at key
        exact key
      · refine go_a (pc' := 126) (ls' := [some (.ref h.length), some (.int (iI a)), some (.int (iI j)), some (.int (iI 0)), some (.int (iI j)), none, none]) (st' := [.int (iI ((-1)))]) rfl rfl ?_
        exact go_r rfl rfl rfl rfl rfl rfl ⟨-1, I, A, N, rfl, rfl, Or.inl ⟨rfl, rfl, rfl, rfl⟩⟩
    · refine go_a (pc' := 7) (ls' := [some (.ref h.length), some (.int (iI a)), some (.int (iI j)), some (.int (iI 1)), some (.int (iI j)), none, none]) (st' := [.int (iI j)]) rfl rfl ?_
      refine go_a (pc' := 8) (ls' := [some (.ref h.length), some (.int (iI a)), some (.int (iI j)), some (.int (iI 1)), some (.int (iI j)), none, none]) (st' := [.int (iI j), .int (iI j)]) rfl rfl ?_
      refine mi_ge (t := 40) rfl rfl (by omega) (by omega) (by omega) (by omega) (fun _ => ?_) (fun q => absurd (Int.le_refl _) q)
      refine go_a (pc' := 41) (ls' := [some (.ref h.length), some (.int (iI a)), some (.int (iI j)), some (.int (iI 1)), some (.int (iI j)), none, none]) (st' := [.int (iI 1)]) rfl rfl ?_
      refine mi_eq0 (t := 117) rfl rfl (by omega) (by omega) (fun q => absurd q (by decide)) (fun _ => ?_)
      refine go_a (pc' := 45) (ls' := [some (.ref h.length), some (.int (iI a)), some (.int (iI j)), some (.int (iI 1)), some (.int (iI j)), none, none]) (st' := [.long (Int64.ofInt 0)]) rfl rfl ?_
      refine go_a (pc' := 47) (ls' := [some (.ref h.length), some (.int (iI a)), some (.int (iI j)), some (.int (iI 1)), some (.long (Int64.ofInt 0)), none, none]) (st' := []) rfl rfl ?_
      refine go_a (pc' := 48) (ls' := [some (.ref h.length), some (.int (iI a)), some (.int (iI j)), some (.int (iI 1)), some (.long (Int64.ofInt 0)), none, none]) (st' := [.int (iI a)]) rfl rfl ?_
      refine go_a (pc' := 50) (ls' := [some (.ref h.length), some (.int (iI a)), some (.int (iI j)), some (.int (iI 1)), some (.long (Int64.ofInt 0)), none, some (.int (iI a))]) (st' := []) rfl rfl ?_
      exact mm_atom_nat z d a j h R I A N hc hS ho hs a0 ab b1 rt11 ra r13 hd (j - a).toNat a 0 (Int.le_refl _) (by omega) (Int.le_refl _) (by decide)
  | succ n ih =>
    intro j c j0 ej hd
    have rj := rt11 j
    refine go_a (pc' := 7) (ls' := [some (.ref h.length), some (.int (iI a)), some (.int (iI b)), some (.int (iI c)), some (.int (iI j)), none, none]) (st' := [.int (iI j)]) rfl rfl ?_
    refine go_a (pc' := 8) (ls' := [some (.ref h.length), some (.int (iI a)), some (.int (iI b)), some (.int (iI c)), some (.int (iI j)), none, none]) (st' := [.int (iI b), .int (iI j)]) rfl rfl ?_
    refine mi_ge (t := 40) rfl rfl (by omega) (by omega) (by omega) (by omega) (fun q => absurd q (by omega)) (fun _ => ?_)
    refine go_a (pc' := 12) (ls' := [some (.ref h.length), some (.int (iI a)), some (.int (iI b)), some (.int (iI c)), some (.int (iI j)), none, none]) (st' := [.int (iI c)]) rfl rfl ?_
    refine mi_eq0 (t := 32) rfl rfl (by omega) (by omega) (fun q0 => ?_) (fun q0 => ?_)
    · refine go_a (pc' := 33) (ls' := [some (.ref h.length), some (.int (iI a)), some (.int (iI b)), some (.int (iI c)), some (.int (iI j)), none, none]) (st' := [.int (iI 0)]) rfl rfl ?_
      refine go_a (pc' := 34) (ls' := [some (.ref h.length), some (.int (iI a)), some (.int (iI b)), some (.int (iI 0)), some (.int (iI j)), none, none]) (st' := []) rfl rfl ?_
      refine go_a (pc' := 37) (ls' := [some (.ref h.length), some (.int (iI a)), some (.int (iI b)), some (.int (iI 0)), some (.int (iI (j + 1))), none, none]) (st' := []) rfl (by rw [← iI_add j 1]; rfl) ?_
      refine go_a (pc' := 5) (ls' := [some (.ref h.length), some (.int (iI a)), some (.int (iI b)), some (.int (iI 0)), some (.int (iI (j + 1))), none, none]) (st' := []) rfl rfl ?_
      exact ih (j + 1) 0 (by omega) (by omega) (Or.inl rfl)
    · have hd2 : ∀ e : Int, a ≤ e → e < j → 48 ≤ A 11 e ∧ A 11 e ≤ 57 := by
        rcases hd with hd | hd
        · exact absurd hd q0
        · exact hd.2
      refine go_a (pc' := 16) (ls' := [some (.ref h.length), some (.int (iI a)), some (.int (iI b)), some (.int (iI c)), some (.int (iI j)), none, none]) (st' := [.ref h.length]) rfl rfl ?_
      refine go_get rfl mh_o rfl rfl ?_
      refine go_a (pc' := 21) (ls' := [some (.ref h.length), some (.int (iI a)), some (.int (iI b)), some (.int (iI c)), some (.int (iI j)), none, none]) (st' := [.int (iI j), .ref (h.length + 11)]) rfl rfl ?_
      refine mi_ild rfl mh_a11 (by omega) (by omega) (by decide) ?_
      refine go_s (m := 91) (as := [.int (iI (A 11 j))]) (r := []) rfl rfl rfl rfl (mm_isDigit z (d + 2) (A 11 j) _ rj.1 rj.2) (fun v h1 hq => ?_)
      obtain ⟨⟨b2, rfl, hb2⟩, rfl⟩ := hq
      show xx_go (xt_P z) (d + 3) 92 25 [some (.ref h.length), some (.int (iI a)), some (.int (iI b)), some (.int (iI c)), some (.int (iI j)), none, none] [.int (iI b2)] (mh h R I A N) _
      refine mi_eq0 (t := 32) rfl rfl (by omega) (by omega) (fun q1 => ?_) (fun q1 => ?_)
      · refine go_a (pc' := 33) (ls' := [some (.ref h.length), some (.int (iI a)), some (.int (iI b)), some (.int (iI c)), some (.int (iI j)), none, none]) (st' := [.int (iI 0)]) rfl rfl ?_
        refine go_a (pc' := 34) (ls' := [some (.ref h.length), some (.int (iI a)), some (.int (iI b)), some (.int (iI 0)), some (.int (iI j)), none, none]) (st' := []) rfl rfl ?_
        refine go_a (pc' := 37) (ls' := [some (.ref h.length), some (.int (iI a)), some (.int (iI b)), some (.int (iI 0)), some (.int (iI (j + 1))), none, none]) (st' := []) rfl (by rw [← iI_add j 1]; rfl) ?_
        refine go_a (pc' := 5) (ls' := [some (.ref h.length), some (.int (iI a)), some (.int (iI b)), some (.int (iI 0)), some (.int (iI (j + 1))), none, none]) (st' := []) rfl rfl ?_
        exact ih (j + 1) 0 (by omega) (by omega) (Or.inl rfl)
      · refine go_a (pc' := 29) (ls' := [some (.ref h.length), some (.int (iI a)), some (.int (iI b)), some (.int (iI c)), some (.int (iI j)), none, none]) (st' := [.int (iI 1)]) rfl rfl ?_
        refine go_a (pc' := 33) (ls' := [some (.ref h.length), some (.int (iI a)), some (.int (iI b)), some (.int (iI c)), some (.int (iI j)), none, none]) (st' := [.int (iI 1)]) rfl rfl ?_
        refine go_a (pc' := 34) (ls' := [some (.ref h.length), some (.int (iI a)), some (.int (iI b)), some (.int (iI 1)), some (.int (iI j)), none, none]) (st' := []) rfl rfl ?_
        refine go_a (pc' := 37) (ls' := [some (.ref h.length), some (.int (iI a)), some (.int (iI b)), some (.int (iI 1)), some (.int (iI (j + 1))), none, none]) (st' := []) rfl (by rw [← iI_add j 1]; rfl) ?_
        refine go_a (pc' := 5) (ls' := [some (.ref h.length), some (.int (iI a)), some (.int (iI b)), some (.int (iI 1)), some (.int (iI (j + 1))), none, none]) (st' := []) rfl rfl ?_
        refine ih (j + 1) 1 (by omega) (by omega) (Or.inr ⟨rfl, fun e e0 e1 => ?_⟩)
        by_cases ee : e = j
        · subst ee
          omega
        · exact hd2 e e0 (by omega)
theorem mm_atom (z : Value) (d : Nat) (a b : Int) (h R : xx_H) (I : Nat → Int) (A : Nat → Int → Int) (N : Int → Int) (hc : 12 ≤ h.length) (hS : MST I A N) (ho : I 7 < 140000) (hs : I 10 < 4990) (a0 : 0 ≤ a) (ab : a ≤ b) (b1 : b ≤ 3000) (rt11 : ∀ e : Int, 0 ≤ A 11 e ∧ A 11 e ≤ 255) (ra : ∀ e : Int, a ≤ e → e < b → atc (A 11 e)) (r13 : ∀ e : Int, 0 ≤ A 13 e ∧ A 13 e ≤ 255) : xx_cl (xt_P z) (d + 4) 92 [.ref h.length, .int (iI a), .int (iI b)] (mh h R I A N) (fun v h1 => ∃ (k : Int) (I1 : Nat → Int) (A1 : Nat → Int → Int) (N1 : Int → Int), v = some (.int (iI k)) ∧ h1 = mh h R I1 A1 N1 ∧ ((k = -1 ∧ I1 = I ∧ A1 = A ∧ N1 = N) ∨ (0 ≤ k ∧ k < I1 7 ∧ A1 1 k < 0 ∧ I1 7 ≤ I 7 + 1 ∧ I1 10 ≤ I 10 + 1 ∧ ∃ (x : Int) (g : Int → Int), EX (su I 17 x) (sw A 13 g) N I1 A1 N1 ∧ ∀ e : Int, 0 ≤ g e ∧ g e ≤ 255))) := by
  refine cl_go rfl ?_
  show xx_go (xt_P z) (d + 3) 92 0 [some (.ref h.length), some (.int (iI a)), some (.int (iI b)), none, none, none, none] [] (mh h R I A N) _
  refine go_a (pc' := 1) (ls' := [some (.ref h.length), some (.int (iI a)), some (.int (iI b)), none, none, none, none]) (st' := [.int (iI 1)]) rfl rfl ?_
  refine go_a (pc' := 2) (ls' := [some (.ref h.length), some (.int (iI a)), some (.int (iI b)), some (.int (iI 1)), none, none, none]) (st' := []) rfl rfl ?_
  refine go_a (pc' := 3) (ls' := [some (.ref h.length), some (.int (iI a)), some (.int (iI b)), some (.int (iI 1)), none, none, none]) (st' := [.int (iI a)]) rfl rfl ?_
  refine go_a (pc' := 5) (ls' := [some (.ref h.length), some (.int (iI a)), some (.int (iI b)), some (.int (iI 1)), some (.int (iI a)), none, none]) (st' := []) rfl rfl ?_
  exact mm_atom_dig z d a b h R I A N hc hS ho hs a0 ab b1 rt11 ra r13 (b - a).toNat a 1 (Int.le_refl _) (by omega) (Or.inr ⟨rfl, fun e e0 e1 => absurd e1 (by omega)⟩)
