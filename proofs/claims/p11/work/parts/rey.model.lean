theorem mm_symX_names (z : Value) (d : Nat) (h R : xx_H) (I : Nat → Int) (A : Nat → Int → Int) (N : Int → Int) (hc : 12 ≤ h.length) (hS : MST I A N) (ho : I 7 < 140000) (hs : I 10 < 4990) (w0 : 0 ≤ I 17) (w1 : I 17 ≤ 11) (r13 : ∀ e : Int, 0 ≤ A 13 e ∧ A 13 e ≤ 255) : ∀ (n : Nat) (j : Int) (g : Int → Int), 0 ≤ j → j + n = I 17 → (∀ e : Int, e < 12 * I 10 → g e = A 8 e) → (∀ e : Int, 0 ≤ g e ∧ g e ≤ 255) → (∀ q : Nat, (q : Int) < j → g (12 * I 10 + q) = A 13 q) → xx_go (xt_P z) (d + 1) 62 74 [some (.ref h.length), some (.int (iI (mand (msp (A 13) (I 17).toNat 0 5)))), some (.int (iI j))] [] (mh h R I (symA A (I 10) (I 17) g) N) (fun v h1 => ∃ (k : Int) (I1 : Nat → Int) (A1 : Nat → Int → Int), v = some (.int (iI k)) ∧ h1 = mh h R I1 A1 N ∧ MST I1 A1 N ∧ 0 ≤ k ∧ k < I1 7 ∧ A1 1 k = -2 ∧ ((I1 = I ∧ A1 = A ∧ A 9 (A 2 k) = I 17 ∧ ∀ q : Nat, (q : Int) < I 17 → A 8 (12 * A 2 k + q) = A 13 q) ∨ (k = I 7 ∧ I1 = su (su I 10 (I 10 + 1)) 7 (I 7 + 1) ∧ ∃ g : Int → Int, A1 = addA (symA A (I 10) (I 17) g) (I 7) (-2) (I 10) (mand (msp (A 13) (I 17).toNat 0 5)) ∧ (∀ e : Int, e < 12 * I 10 → g e = A 8 e) ∧ ∀ q : Nat, (q : Int) < I 17 → g (12 * I 10 + q) = A 13 q))) := by
  have h1 := hS.1
  have qr : 0 ≤ mand (msp (A 13) (I 17).toNat 0 5) ∧ mand (msp (A 13) (I 17).toNat 0 5) < 8192 := and_rng _
  intro n
  induction n with
  | zero =>
    intro j g j0 ej g1 g2 g3
    refine go_a (pc' := 75) (ls' := [some (.ref h.length), some (.int (iI (mand (msp (A 13) (I 17).toNat 0 5)))), some (.int (iI j))]) (st' := [.int (iI j)]) rfl rfl ?_
    refine go_a (pc' := 76) (ls' := [some (.ref h.length), some (.int (iI (mand (msp (A 13) (I 17).toNat 0 5)))), some (.int (iI j))]) (st' := [.ref h.length, .int (iI j)]) rfl rfl ?_
    refine go_get (v := .int (iI (I 17))) rfl mh_o rfl rfl ?_
    refine mi_ge (t := 108) rfl rfl (by omega) (by omega) (by omega) (by omega) (fun hb => ?_) (fun hb => absurd (show I 17 ≤ j by omega) hb)
    refine go_a (pc' := 109) (ls' := [some (.ref h.length), some (.int (iI (mand (msp (A 13) (I 17).toNat 0 5)))), some (.int (iI j))]) (st' := [.ref h.length]) rfl rfl ?_
    refine go_a (pc' := 110) (ls' := [some (.ref h.length), some (.int (iI (mand (msp (A 13) (I 17).toNat 0 5)))), some (.int (iI j))]) (st' := [.ref h.length, .ref h.length]) rfl rfl ?_
    refine go_get (v := .int (iI (I 10))) rfl mh_o rfl rfl ?_
    refine go_a (pc' := 114) (ls' := [some (.ref h.length), some (.int (iI (mand (msp (A 13) (I 17).toNat 0 5)))), some (.int (iI j))]) (st' := [.int (iI 1), .int (iI (I 10)), .ref h.length]) rfl rfl ?_
    refine mi_add rfl ?_
    refine go_put (j := 10) rfl mh_o rfl rfl (show 12 ≤ _ from hc) (show 10 < 86 by decide) rfl rfl ?_
    rw [mh_p10]
    refine go_a (pc' := 119) (ls' := [some (.ref h.length), some (.int (iI (mand (msp (A 13) (I 17).toNat 0 5)))), some (.int (iI j))]) (st' := [.ref h.length]) rfl rfl ?_
    refine go_a (pc' := 121) (ls' := [some (.ref h.length), some (.int (iI (mand (msp (A 13) (I 17).toNat 0 5)))), some (.int (iI j))]) (st' := [.int (iI ((-2))), .ref h.length]) rfl rfl ?_
    refine go_a (pc' := 122) (ls' := [some (.ref h.length), some (.int (iI (mand (msp (A 13) (I 17).toNat 0 5)))), some (.int (iI j))]) (st' := [.ref h.length, .int (iI ((-2))), .ref h.length]) rfl rfl ?_
    refine go_get (v := .int (iI ((I 10) + 1))) rfl mh_o rfl rfl ?_
    refine go_a (pc' := 126) (ls' := [some (.ref h.length), some (.int (iI (mand (msp (A 13) (I 17).toNat 0 5)))), some (.int (iI j))]) (st' := [.int (iI 1), .int (iI ((I 10) + 1)), .int (iI ((-2))), .ref h.length]) rfl rfl ?_
    refine mi_sub rfl ?_
    refine go_a (pc' := 128) (ls' := [some (.ref h.length), some (.int (iI (mand (msp (A 13) (I 17).toNat 0 5)))), some (.int (iI j))]) (st' := [.int (iI (mand (msp (A 13) (I 17).toNat 0 5))), .int (iI (((I 10) + 1) - 1)), .int (iI ((-2))), .ref h.length]) rfl rfl ?_
    rw [show I 10 + 1 - 1 = I 10 by omega]
    have S2 := MST_sym hS hs w0 w1 g1 g2
    refine go_v (m := 65) (as := [.ref h.length, .int (iI ((-2))), .int (iI (I 10)), .int (iI (mand (msp (A 13) (I 17).toNat 0 5)))]) (r := []) rfl rfl rfl mh_o rfl rfl (mm_added z d (-2) (I 10) (mand (msp (A 13) (I 17).toNat 0 5)) h R (su I 10 (I 10 + 1)) (symA A (I 10) (I 17) g) N hc h1.1 ho qr.1 qr.2 (by decide) (by decide) (by omega) (by omega) (fun q => absurd q (by decide))) (fun v h1 hq => ?_)
    obtain ⟨rfl, rfl⟩ := hq
    have hq : hsh (addA (symA A (I 10) (I 17) g) (I 7) (-2) (I 10) (mand (msp (A 13) (I 17).toNat 0 5))) N (I 7) = mand (msp (A 13) (I 17).toNat 0 5) := by
      unfold hsh
      rw [addA_1, addA_2, addA_8, addA_9, symA_8, symA_9, sf_self, sf_self, sf_self, if_neg (by decide), if_pos rfl]
      congr 1
      refine msp_congr _ _ _ _ (fun q hq => ?_)
      rw [g3 q (by omega), Int.zero_add]
    refine go_r rfl rfl rfl rfl rfl rfl ⟨I 7, _, _, rfl, rfl, MST_add S2 rfl ho hq (Or.inr (Or.inl ⟨rfl, h1.2.2.1, (show I 10 < I 10 + 1 by omega), fun k k0 k1 lk => ?_⟩)), h1.1, (show I 7 < I 7 + 1 by omega), ?_, Or.inr ⟨rfl, rfl, g, rfl, g1, fun q hq => g3 q (by omega)⟩⟩
    · have q := (hS.2.1 k k0 k1).1
      have lk : A 1 k = -2 := lk
      show A 2 k < I 10
      omega
    · exact sf_self (f := A 1) (e := I 7)
  | succ n ih =>
    intro j g j0 ej g1 g2 g3
    refine go_a (pc' := 75) (ls' := [some (.ref h.length), some (.int (iI (mand (msp (A 13) (I 17).toNat 0 5)))), some (.int (iI j))]) (st' := [.int (iI j)]) rfl rfl ?_
    refine go_a (pc' := 76) (ls' := [some (.ref h.length), some (.int (iI (mand (msp (A 13) (I 17).toNat 0 5)))), some (.int (iI j))]) (st' := [.ref h.length, .int (iI j)]) rfl rfl ?_
    refine go_get (v := .int (iI (I 17))) rfl mh_o rfl rfl ?_
    refine mi_ge (t := 108) rfl rfl (by omega) (by omega) (by omega) (by omega) (fun hb => absurd hb (by omega)) (fun hb => ?_)
    refine go_a (pc' := 83) (ls' := [some (.ref h.length), some (.int (iI (mand (msp (A 13) (I 17).toNat 0 5)))), some (.int (iI j))]) (st' := [.ref h.length]) rfl rfl ?_
    refine go_get rfl mh_o rfl rfl ?_
    refine go_a (pc' := 88) (ls' := [some (.ref h.length), some (.int (iI (mand (msp (A 13) (I 17).toNat 0 5)))), some (.int (iI j))]) (st' := [.int (iI 12), .ref (h.length + 8)]) rfl rfl ?_
    refine go_a (pc' := 89) (ls' := [some (.ref h.length), some (.int (iI (mand (msp (A 13) (I 17).toNat 0 5)))), some (.int (iI j))]) (st' := [.ref h.length, .int (iI 12), .ref (h.length + 8)]) rfl rfl ?_
    refine go_get (v := .int (iI (I 10))) rfl mh_o rfl rfl ?_
    refine mi_mul rfl ?_
    refine go_a (pc' := 94) (ls' := [some (.ref h.length), some (.int (iI (mand (msp (A 13) (I 17).toNat 0 5)))), some (.int (iI j))]) (st' := [.int (iI j), .int (iI (12 * (I 10))), .ref (h.length + 8)]) rfl rfl ?_
    refine mi_add rfl ?_
    refine go_a (pc' := 96) (ls' := [some (.ref h.length), some (.int (iI (mand (msp (A 13) (I 17).toNat 0 5)))), some (.int (iI j))]) (st' := [.ref h.length, .int (iI ((12 * (I 10)) + j)), .ref (h.length + 8)]) rfl rfl ?_
    refine go_get rfl mh_o rfl rfl ?_
    refine go_a (pc' := 100) (ls' := [some (.ref h.length), some (.int (iI (mand (msp (A 13) (I 17).toNat 0 5)))), some (.int (iI j))]) (st' := [.int (iI j), .ref (h.length + 13), .int (iI ((12 * (I 10)) + j)), .ref (h.length + 8)]) rfl rfl ?_
    refine mi_ild rfl mh_a13 (by omega) (by omega) (by decide) ?_
    refine mi_ist rfl mh_a8 (show 12 ≤ _ by omega) (by omega) (by omega) (by decide) ?_
    rw [mh_w8 (by omega), show sa (symA A (I 10) (I 17) g) 8 (12 * I 10 + j) (symA A (I 10) (I 17) g 13 j) = symA A (I 10) (I 17) (sf g (12 * I 10 + j) (A 13 j)) from sa_sw _ _ _ _ _]
    refine go_a (pc' := 105) (ls' := [some (.ref h.length), some (.int (iI (mand (msp (A 13) (I 17).toNat 0 5)))), some (.int (iI (j + 1)))]) (st' := []) rfl (by rw [← iI_add j 1]; rfl) ?_
    refine go_a (pc' := 74) (ls' := [some (.ref h.length), some (.int (iI (mand (msp (A 13) (I 17).toNat 0 5)))), some (.int (iI (j + 1)))]) (st' := []) rfl rfl ?_
    refine ih (j + 1) _ (by omega) (by omega) (fun e he => ?_) (fun e => ?_) (fun q hq => ?_)
    · rw [sf_ne (by omega)]
      exact g1 e he
    · by_cases ee : e = 12 * I 10 + j
      · rw [ee, sf_self]
        exact r13 j
      · rw [sf_ne ee]
        exact g2 e
    · by_cases ee : (q : Int) = j
      · rw [ee, sf_self]
      · rw [sf_ne (by omega)]
        exact g3 q (by omega)
theorem mm_symX_loop (z : Value) (d : Nat) (h R : xx_H) (I : Nat → Int) (A : Nat → Int → Int) (N : Int → Int) (hc : 12 ≤ h.length) (hS : MST I A N) (ho : I 7 < 140000) (hs : I 10 < 4990) (w0 : 0 ≤ I 17) (w1 : I 17 ≤ 11) (r13 : ∀ e : Int, 0 ≤ A 13 e ∧ A 13 e ≤ 255) : ∀ (f : Nat) (k : Int), (k + 1).toNat ≤ f → -1 ≤ k → k < I 7 → xx_go (xt_P z) (d + 1) 62 18 [some (.ref h.length), some (.int (iI (mand (msp (A 13) (I 17).toNat 0 5)))), some (.int (iI k))] [] (mh h R I A N) (fun v h1 => ∃ (k : Int) (I1 : Nat → Int) (A1 : Nat → Int → Int), v = some (.int (iI k)) ∧ h1 = mh h R I1 A1 N ∧ MST I1 A1 N ∧ 0 ≤ k ∧ k < I1 7 ∧ A1 1 k = -2 ∧ ((I1 = I ∧ A1 = A ∧ A 9 (A 2 k) = I 17 ∧ ∀ q : Nat, (q : Int) < I 17 → A 8 (12 * A 2 k + q) = A 13 q) ∨ (k = I 7 ∧ I1 = su (su I 10 (I 10 + 1)) 7 (I 7 + 1) ∧ ∃ g : Int → Int, A1 = addA (symA A (I 10) (I 17) g) (I 7) (-2) (I 10) (mand (msp (A 13) (I 17).toNat 0 5)) ∧ (∀ e : Int, e < 12 * I 10 → g e = A 8 e) ∧ ∀ q : Nat, (q : Int) < I 17 → g (12 * I 10 + q) = A 13 q))) := by
  have h1 := hS.1
  have last : xx_go (xt_P z) (d + 1) 62 18 [some (.ref h.length), some (.int (iI (mand (msp (A 13) (I 17).toNat 0 5)))), some (.int (iI (-1)))] [] (mh h R I A N) (fun v h1 => ∃ (k : Int) (I1 : Nat → Int) (A1 : Nat → Int → Int), v = some (.int (iI k)) ∧ h1 = mh h R I1 A1 N ∧ MST I1 A1 N ∧ 0 ≤ k ∧ k < I1 7 ∧ A1 1 k = -2 ∧ ((I1 = I ∧ A1 = A ∧ A 9 (A 2 k) = I 17 ∧ ∀ q : Nat, (q : Int) < I 17 → A 8 (12 * A 2 k + q) = A 13 q) ∨ (k = I 7 ∧ I1 = su (su I 10 (I 10 + 1)) 7 (I 7 + 1) ∧ ∃ g : Int → Int, A1 = addA (symA A (I 10) (I 17) g) (I 7) (-2) (I 10) (mand (msp (A 13) (I 17).toNat 0 5)) ∧ (∀ e : Int, e < 12 * I 10 → g e = A 8 e) ∧ ∀ q : Nat, (q : Int) < I 17 → g (12 * I 10 + q) = A 13 q))) := by
    refine go_a (pc' := 19) (ls' := [some (.ref h.length), some (.int (iI (mand (msp (A 13) (I 17).toNat 0 5)))), some (.int (iI ((-1))))]) (st' := [.int (iI ((-1)))]) rfl rfl ?_
    refine go_a (pc' := 20) (ls' := [some (.ref h.length), some (.int (iI (mand (msp (A 13) (I 17).toNat 0 5)))), some (.int (iI ((-1))))]) (st' := [.int (iI ((-1))), .int (iI ((-1)))]) rfl rfl ?_
    refine mi_eq (t := 59) rfl rfl (by omega) (by omega) (by omega) (by omega) (fun hb => ?_) (fun hb => absurd rfl hb)
    refine go_a (pc' := 60) (ls' := [some (.ref h.length), some (.int (iI (mand (msp (A 13) (I 17).toNat 0 5)))), some (.int (iI ((-1))))]) (st' := [.ref h.length]) rfl rfl ?_
    refine go_get rfl mh_o rfl rfl ?_
    refine go_a (pc' := 64) (ls' := [some (.ref h.length), some (.int (iI (mand (msp (A 13) (I 17).toNat 0 5)))), some (.int (iI ((-1))))]) (st' := [.ref h.length, .ref (h.length + 9)]) rfl rfl ?_
    refine go_get (v := .int (iI (I 10))) rfl mh_o rfl rfl ?_
    refine go_a (pc' := 68) (ls' := [some (.ref h.length), some (.int (iI (mand (msp (A 13) (I 17).toNat 0 5)))), some (.int (iI ((-1))))]) (st' := [.ref h.length, .int (iI (I 10)), .ref (h.length + 9)]) rfl rfl ?_
    refine go_get (v := .int (iI (I 17))) rfl mh_o rfl rfl ?_
    refine mi_ist rfl mh_a9 (show 12 ≤ _ by omega) (by omega) (by omega) (by decide) ?_
    rw [mh_w9 (by omega)]
    refine go_a (pc' := 73) (ls' := [some (.ref h.length), some (.int (iI (mand (msp (A 13) (I 17).toNat 0 5)))), some (.int (iI ((-1))))]) (st' := [.int (iI 0)]) rfl rfl ?_
    refine go_a (pc' := 74) (ls' := [some (.ref h.length), some (.int (iI (mand (msp (A 13) (I 17).toNat 0 5)))), some (.int (iI 0))]) (st' := []) rfl rfl ?_
    have key := mm_symX_names z d h R I A N hc hS ho hs w0 w1 r13 (I 17).toNat 0 (A 8) (by omega) (by omega) (fun _ _ => rfl) hS.2.2.2.2.1.2.1 (fun q hq => absurd hq (by omega))
    rw [show symA A (I 10) (I 17) (A 8) = sa A 9 (I 10) (I 17) from sw_self (sa A 9 (I 10) (I 17)) 8] at key
    exact key
  intro f
  induction f with
  | zero =>
    intro k hf k0 k1
    have e : k = -1 := by omega
    subst e
    exact last
  | succ f ih =>
    intro k hf k0 k1
    by_cases e : k = -1
    · subst e
      exact last
    have kk : 0 ≤ k := by omega
    have q := hS.2.1 k kk k1
    have qp := (MST_PW hS).2 k kk k1
    have nx : xx_go (xt_P z) (d + 1) 62 49 [some (.ref h.length), some (.int (iI (mand (msp (A 13) (I 17).toNat 0 5)))), some (.int (iI k))] [] (mh h R I A N) (fun v h1 => ∃ (k : Int) (I1 : Nat → Int) (A1 : Nat → Int → Int), v = some (.int (iI k)) ∧ h1 = mh h R I1 A1 N ∧ MST I1 A1 N ∧ 0 ≤ k ∧ k < I1 7 ∧ A1 1 k = -2 ∧ ((I1 = I ∧ A1 = A ∧ A 9 (A 2 k) = I 17 ∧ ∀ q : Nat, (q : Int) < I 17 → A 8 (12 * A 2 k + q) = A 13 q) ∨ (k = I 7 ∧ I1 = su (su I 10 (I 10 + 1)) 7 (I 7 + 1) ∧ ∃ g : Int → Int, A1 = addA (symA A (I 10) (I 17) g) (I 7) (-2) (I 10) (mand (msp (A 13) (I 17).toNat 0 5)) ∧ (∀ e : Int, e < 12 * I 10 → g e = A 8 e) ∧ ∀ q : Nat, (q : Int) < I 17 → g (12 * I 10 + q) = A 13 q))) := by
      have q3 := q.2.1
      refine go_a (pc' := 50) (ls' := [some (.ref h.length), some (.int (iI (mand (msp (A 13) (I 17).toNat 0 5)))), some (.int (iI k))]) (st' := [.ref h.length]) rfl rfl ?_
      refine go_get rfl mh_o rfl rfl ?_
      refine go_a (pc' := 54) (ls' := [some (.ref h.length), some (.int (iI (mand (msp (A 13) (I 17).toNat 0 5)))), some (.int (iI k))]) (st' := [.int (iI k), .ref (h.length + 3)]) rfl rfl ?_
      refine mi_ild rfl mh_a3 (by omega) (by omega) (by decide) ?_
      refine go_a (pc' := 56) (ls' := [some (.ref h.length), some (.int (iI (mand (msp (A 13) (I 17).toNat 0 5)))), some (.int (iI (A 3 k)))]) (st' := []) rfl rfl ?_
      refine go_a (pc' := 18) (ls' := [some (.ref h.length), some (.int (iI (mand (msp (A 13) (I 17).toNat 0 5)))), some (.int (iI (A 3 k)))]) (st' := []) rfl rfl ?_
      exact ih (A 3 k) (by omega) q3.1 (by omega)
    refine go_a (pc' := 19) (ls' := [some (.ref h.length), some (.int (iI (mand (msp (A 13) (I 17).toNat 0 5)))), some (.int (iI k))]) (st' := [.int (iI k)]) rfl rfl ?_
    refine go_a (pc' := 20) (ls' := [some (.ref h.length), some (.int (iI (mand (msp (A 13) (I 17).toNat 0 5)))), some (.int (iI k))]) (st' := [.int (iI ((-1))), .int (iI k)]) rfl rfl ?_
    refine mi_eq (t := 59) rfl rfl (by omega) (by omega) (by omega) (by omega) (fun hb => absurd hb e) (fun hb => ?_)
    refine go_a (pc' := 24) (ls' := [some (.ref h.length), some (.int (iI (mand (msp (A 13) (I 17).toNat 0 5)))), some (.int (iI k))]) (st' := [.ref h.length]) rfl rfl ?_
    refine go_get rfl mh_o rfl rfl ?_
    refine go_a (pc' := 28) (ls' := [some (.ref h.length), some (.int (iI (mand (msp (A 13) (I 17).toNat 0 5)))), some (.int (iI k))]) (st' := [.int (iI k), .ref (h.length + 1)]) rfl rfl ?_
    refine mi_ild rfl mh_a1 (by omega) (by omega) (by decide) ?_
    refine go_a (pc' := 31) (ls' := [some (.ref h.length), some (.int (iI (mand (msp (A 13) (I 17).toNat 0 5)))), some (.int (iI k))]) (st' := [.int (iI ((-2))), .int (iI (A 1 k))]) rfl rfl ?_
    refine mi_ne (t := 49) rfl rfl (by omega) (by omega) (by omega) (by omega) (fun _ => nx) (fun hb => ?_)
    refine go_a (pc' := 35) (ls' := [some (.ref h.length), some (.int (iI (mand (msp (A 13) (I 17).toNat 0 5)))), some (.int (iI k))]) (st' := [.ref h.length]) rfl rfl ?_
    refine go_a (pc' := 36) (ls' := [some (.ref h.length), some (.int (iI (mand (msp (A 13) (I 17).toNat 0 5)))), some (.int (iI k))]) (st' := [.ref h.length, .ref h.length]) rfl rfl ?_
    refine go_get rfl mh_o rfl rfl ?_
    refine go_a (pc' := 40) (ls' := [some (.ref h.length), some (.int (iI (mand (msp (A 13) (I 17).toNat 0 5)))), some (.int (iI k))]) (st' := [.int (iI k), .ref (h.length + 2), .ref h.length]) rfl rfl ?_
    refine mi_ild rfl mh_a2 (by omega) (by omega) (by decide) ?_
    have q2 : 0 ≤ A 2 k ∧ A 2 k < I 10 := by
      have q5 := q.1
      omega
    have q6 := hS.2.2.2.2.1
    refine go_v (m := 64) (as := [.ref h.length, .int (iI (A 2 k))]) (r := []) rfl rfl rfl mh_o rfl rfl (mm_isWord z d (A 2 k) h R I A N hc q2.1 (by omega) w0 (by omega) q6.2.1 r13 (q6.1 _ q2.1 q2.2)) (fun v h1 hq => ?_)
    obtain ⟨⟨b, hb01, rfl, hbw⟩, rfl⟩ := hq
    show xx_go (xt_P z) (d + 1) 62 44 [some (.ref h.length), some (.int (iI (mand (msp (A 13) (I 17).toNat 0 5)))), some (.int (iI k))] [.int (iI b)] (mh h R I A N) _
    refine mi_eq0 (t := 49) rfl rfl (by omega) (by omega) (fun _ => nx) (fun hb2 => ?_)
    refine go_a (pc' := 48) (ls' := [some (.ref h.length), some (.int (iI (mand (msp (A 13) (I 17).toNat 0 5)))), some (.int (iI k))]) (st' := [.int (iI k)]) rfl rfl ?_
    exact go_r rfl rfl rfl rfl rfl rfl ⟨k, I, A, rfl, rfl, hS, kk, k1, by omega, Or.inl ⟨rfl, rfl, hbw (by omega)⟩⟩
theorem mm_symbolX (z : Value) (d : Nat) (h R : xx_H) (I : Nat → Int) (A : Nat → Int → Int) (N : Int → Int) (hc : 12 ≤ h.length) (hS : MST I A N) (ho : I 7 < 140000) (hs : I 10 < 4990) (w0 : 0 ≤ I 17) (w1 : I 17 ≤ 11) (r13 : ∀ e : Int, 0 ≤ A 13 e ∧ A 13 e ≤ 255) : xx_cl (xt_P z) (d + 2) 62 [.ref h.length] (mh h R I A N) (fun v h1 => ∃ (k : Int) (I1 : Nat → Int) (A1 : Nat → Int → Int), v = some (.int (iI k)) ∧ h1 = mh h R I1 A1 N ∧ MST I1 A1 N ∧ 0 ≤ k ∧ k < I1 7 ∧ A1 1 k = -2 ∧ ((I1 = I ∧ A1 = A ∧ A 9 (A 2 k) = I 17 ∧ ∀ q : Nat, (q : Int) < I 17 → A 8 (12 * A 2 k + q) = A 13 q) ∨ (k = I 7 ∧ I1 = su (su I 10 (I 10 + 1)) 7 (I 7 + 1) ∧ ∃ g : Int → Int, A1 = addA (symA A (I 10) (I 17) g) (I 7) (-2) (I 10) (mand (msp (A 13) (I 17).toNat 0 5)) ∧ (∀ e : Int, e < 12 * I 10 → g e = A 8 e) ∧ ∀ q : Nat, (q : Int) < I 17 → g (12 * I 10 + q) = A 13 q))) := by
  have qr : 0 ≤ mand (msp (A 13) (I 17).toNat 0 5) ∧ mand (msp (A 13) (I 17).toNat 0 5) < 8192 := and_rng _
  have c := hS.2.2.1 _ qr.1 qr.2
  refine cl_go rfl ?_
  show xx_go (xt_P z) (d + 1) 62 0 [some (.ref h.length), none, none] [] (mh h R I A N) _
  refine go_a (pc' := 1) (ls' := [some (.ref h.length), none, none]) (st' := [.ref h.length]) rfl rfl ?_
  refine go_a (pc' := 2) (ls' := [some (.ref h.length), none, none]) (st' := [.int (iI 0), .ref h.length]) rfl rfl ?_
  refine go_a (pc' := 3) (ls' := [some (.ref h.length), none, none]) (st' := [.ref h.length, .int (iI 0), .ref h.length]) rfl rfl ?_
  refine go_get (v := .int (iI (I 17))) rfl mh_o rfl rfl ?_
  refine go_a (pc' := 7) (ls' := [some (.ref h.length), none, none]) (st' := [.int (iI 1), .int (iI (I 17)), .int (iI 0), .ref h.length]) rfl rfl ?_
  rw [show iI (I 17) = iI ((I 17).toNat : Int) by rw [Int.toNat_of_nonneg w0]]
  refine go_v (m := 63) (as := [.ref h.length, .int (iI 0), .int (iI (((I 17).toNat : Int))), .int (iI 1)]) (r := []) rfl rfl rfl mh_o rfl rfl (mm_spelledW z d (I 17).toNat 0 h R I A N hc (by omega)) (fun v h1 hq => ?_)
  obtain ⟨rfl, rfl⟩ := hq
  show xx_go (xt_P z) (d + 1) 62 10 [some (.ref h.length), none, none] [.int (iI (mand (msp (A 13) (I 17).toNat 0 5)))] (mh h R I A N) _
  refine go_a (pc' := 11) (ls' := [some (.ref h.length), some (.int (iI (mand (msp (A 13) (I 17).toNat 0 5)))), none]) (st' := []) rfl rfl ?_
  refine go_a (pc' := 12) (ls' := [some (.ref h.length), some (.int (iI (mand (msp (A 13) (I 17).toNat 0 5)))), none]) (st' := [.ref h.length]) rfl rfl ?_
  refine go_get rfl mh_o rfl rfl ?_
  refine go_a (pc' := 16) (ls' := [some (.ref h.length), some (.int (iI (mand (msp (A 13) (I 17).toNat 0 5)))), none]) (st' := [.int (iI (mand (msp (A 13) (I 17).toNat 0 5))), .ref (h.length + 7)]) rfl rfl ?_
  refine mi_ild rfl mh_a7 (by omega) (by omega) (by decide) ?_
  refine go_a (pc' := 18) (ls' := [some (.ref h.length), some (.int (iI (mand (msp (A 13) (I 17).toNat 0 5)))), some (.int (iI (A 7 (mand (msp (A 13) (I 17).toNat 0 5)))))]) (st' := []) rfl rfl ?_
  exact mm_symX_loop z d h R I A N hc hS ho hs w0 w1 r13 (A 7 (mand (msp (A 13) (I 17).toNat 0 5)) + 1).toNat (A 7 (mand (msp (A 13) (I 17).toNat 0 5))) (Nat.le_refl _) c.1 c.2.1
def WL : List (List Int) := [[110, 105, 108], [116], [113, 117, 111, 116, 101], [105, 102], [101, 113, 117, 97, 108], [99, 111, 110, 115], [105, 109, 112, 108, 105, 101, 115], [43], [45], [60], [99, 111, 110, 115, 112], [99, 97, 114], [99, 100, 114], [110, 97, 116, 112], [115, 121, 109, 98, 111, 108, 112], [110, 111, 116], [104, 101, 105, 103, 104, 116], [100, 101, 102, 117, 110], [116, 104, 101, 111, 114, 101, 109], [99, 108, 97, 117, 115, 101], [115, 105, 109, 112, 108, 105, 102, 121], [112, 114, 111, 118, 101], [100, 101, 102, 116, 104, 109], [111, 110], [111, 102, 102], [117, 110, 100, 111], [99, 104, 101, 99, 107], [105, 110, 100, 117, 99, 116], [117, 115, 101], [116, 97, 117, 116], [115, 97, 109, 101], [118, 97, 108, 117, 101], [102, 105, 114, 115, 116], [115, 101, 99, 111, 110, 100], [112, 97, 105, 114], [121, 101, 115], [110, 111], [100, 101, 102], [116, 104, 109], [119, 101, 97, 107], [99, 117, 116], [105, 110, 115, 116], [115, 119, 97, 112], [112, 117, 116]]
def spf (l : List Int) (a : Int) : List Int := if a = 0 then l else l ++ [a]
def spl (l : List Int) : List Int := l.foldl spf []
def WST (l : List Int) (I : Nat → Int) (A : Nat → Int → Int) : Prop := I 17 = (l.length : Int) ∧ (∀ q : Nat, q < l.length → A 13 (q : Int) = l.getD q 0) ∧ ∀ e : Int, 0 ≤ A 13 e ∧ A 13 e ≤ 255
def WFR (I : Nat → Int) (A : Nat → Int → Int) (I1 : Nat → Int) (A1 : Nat → Int → Int) : Prop := (∀ j : Nat, j ≠ 17 → I1 j = I j) ∧ ∀ i : Nat, i ≠ 13 → A1 i = A i
theorem WFR_tr {I I1 I2 : Nat → Int} {A A1 A2 : Nat → Int → Int} (a : WFR I A I1 A1) (b : WFR I1 A1 I2 A2) : WFR I A I2 A2 := ⟨fun j h => (b.1 j h).trans (a.1 j h), fun i h => (b.2 i h).trans (a.2 i h)⟩
theorem mm_spellW (z : Value) (d : Nat) (a : Int) (l : List Int) (h R : xx_H) (I : Nat → Int) (A : Nat → Int → Int) (N : Int → Int) (hc : 12 ≤ h.length) (hW : WST l I A) (a0 : 0 ≤ a) (a1 : a ≤ 255) (hl : l.length < 12) : xx_cl (xt_P z) (d + 1) 61 [.ref h.length, .int (iI a)] (mh h R I A N) (fun v h1 => v = none ∧ ∃ (I1 : Nat → Int) (A1 : Nat → Int → Int), h1 = mh h R I1 A1 N ∧ WST (spf l a) I1 A1 ∧ WFR I A I1 A1) := by
  obtain ⟨e1, e2, e3⟩ := hW
  by_cases ca : a = 0
  · refine cl_go rfl ?_
    show xx_go (xt_P z) d 61 0 [some (.ref h.length), some (.int (iI a))] [] (mh h R I A N) _
    refine go_a (pc' := 1) (ls' := [some (.ref h.length), some (.int (iI a))]) (st' := [.int (iI a)]) rfl rfl ?_
    refine mi_ne0 (t := 5) rfl rfl (by omega) (by omega) (fun q => absurd ca q) (fun _ => ?_)
    refine go_r rfl rfl rfl rfl rfl rfl ⟨rfl, I, A, rfl, ?_, ⟨fun _ _ => rfl, fun _ _ => rfl⟩⟩
    unfold spf
    rw [if_pos ca]
    exact ⟨e1, e2, e3⟩
  · refine cl_w ?_ (mm_spell z d a h R I A N hc (by omega) a1 (by omega) (by omega))
    rintro v h1 ⟨rfl, rfl⟩
    refine ⟨rfl, _, _, rfl, ?_, ⟨fun j hj => su_ne hj, fun i hi => sa_ne hi⟩⟩
    unfold spf
    rw [if_neg ca]
    refine ⟨?_, fun q hq => ?_, fun e => ?_⟩
    · show I 17 + 1 = _
      rw [List.length_append, e1]
      rfl
    · show sf (A 13) (I 17) a (q : Int) = _
      rw [List.length_append] at hq
      have hq : q < l.length + 1 := hq
      by_cases cq : q = l.length
      · rw [cq, ← e1, sf_self, List.getD_eq_getElem?_getD, List.getElem?_append_right (Nat.le_refl _), Nat.sub_self]
        rfl
      · rw [sf_ne (by omega), e2 q (by omega), List.getD_eq_getElem?_getD, List.getD_eq_getElem?_getD, List.getElem?_append_left (by omega)]
    · show 0 ≤ sf (A 13) (I 17) a e ∧ sf (A 13) (I 17) a e ≤ 255
      by_cases ce : e = I 17
      · rw [ce, sf_self]
        omega
      · rw [sf_ne ce]
        exact e3 e
def MI0 : Nat → Int := fun j => match j with
  | 22 => -1
  | 44 => -1
  | 47 => 1000
  | _ => 0
def MDL (b : Nat) (I : Nat → Int) (A : Nat → Int → Int) : Prop := MST I A (fun _ => 0) ∧ (I 7 = (b : Int) ∧ I 10 = (b : Int)) ∧ (∀ j : Nat, j < b → (A 1 (j : Int) = -2 ∧ A 2 (j : Int) = (j : Int)) ∧ A 9 (j : Int) = ((WL.getD j []).length : Int) ∧ ∀ q : Nat, q < (WL.getD j []).length → A 8 (12 * (j : Int) + q) = (WL.getD j []).getD q 0) ∧ (∀ e : Int, 0 ≤ A 13 e ∧ A 13 e ≤ 255) ∧ (∀ j : Nat, j ≠ 7 → j ≠ 10 → j ≠ 17 → I j = MI0 j) ∧ ∀ i : Nat, 10 ≤ i → i ≠ 13 → A i = fun _ => 0
def xr_R (h : xx_H) (b : Nat) (h1 : xx_H) : Prop := ∃ (I : Nat → Int) (A : Nat → Int → Int), h1 = mh h [] I A (fun _ => 0) ∧ MDL b I A
theorem xr_R_at {h h1 : xx_H} {b : Nat} (hR : xr_R h b h1) : ∃ fs : List Value, h1[h.length]? = some (.inr (13, fs)) := by
  obtain ⟨I, A, rfl, -⟩ := hR
  exact ⟨_, mh_o⟩
theorem WL_R : ∀ j : Nat, j < 44 → (WL.getD j []).length ≤ 8 ∧ 1 ≤ (WL.getD j []).length ∧ ∀ i : Nat, i < j → WL.getD i [] ≠ WL.getD j [] := by decide +kernel
theorem li_eq {l m : List Int} (e : l.length = m.length) (h : ∀ q : Nat, q < l.length → l.getD q 0 = m.getD q 0) : l = m := by
  apply List.ext_getElem e
  intro i h1 h2
  have := h i h1
  rw [List.getD_eq_getElem?_getD, List.getD_eq_getElem?_getD, List.getElem?_eq_getElem h1, List.getElem?_eq_getElem h2] at this
  exact this
theorem MST_W {I I1 : Nat → Int} {A A1 : Nat → Int → Int} {N : Int → Int} (h : MST I A N) (F : WFR I A I1 A1) : MST I1 A1 N := by
  have i7 := F.1 7 (by decide)
  have i10 := F.1 10 (by decide)
  unfold MST MSC MOB hsh at h ⊢
  rw [i7, i10, F.2 1 (by decide), F.2 2 (by decide), F.2 3 (by decide), F.2 4 (by decide), F.2 5 (by decide), F.2 7 (by decide), F.2 8 (by decide), F.2 9 (by decide)]
  exact h
theorem spf_len (l : List Int) (a : Int) : (spf l a).length ≤ l.length + 1 := by
  unfold spf
  split
  · omega
  · rw [List.length_append]
    exact Nat.le_refl _
theorem xm_said (z : Value) (d : Nat) (h h0 : xx_H) (b : Nat) (x1 x2 x3 x4 x5 x6 x7 x8 : Int) (hc : 12 ≤ h.length) (hb : b < 44) (hx : (∀ a ∈ [x1, x2, x3, x4, x5, x6, x7, x8], 0 ≤ a ∧ a ≤ 255) ∧ spl [x1, x2, x3, x4, x5, x6, x7, x8] = WL.getD b []) (hR : xr_R h b h0) : xx_cl (xt_P z) (d + 3) 60 [.ref h.length, .int (iI x1), .int (iI x2), .int (iI x3), .int (iI x4), .int (iI x5), .int (iI x6), .int (iI x7), .int (iI x8)] h0 (fun v h1 => v = none ∧ xr_R h (b + 1) h1) := by
  obtain ⟨I0, A0, rfl, M⟩ := hR
  have R := fun a m => hx.1 a m
  refine cl_go rfl ?_
  show xx_go (xt_P z) (d + 2) 60 0 [some (.ref h.length), some (.int (iI x1)), some (.int (iI x2)), some (.int (iI x3)), some (.int (iI x4)), some (.int (iI x5)), some (.int (iI x6)), some (.int (iI x7)), some (.int (iI x8)), none] [] (mh h [] I0 A0 (fun _ => 0)) _
  refine go_a (pc' := 1) (ls' := [some (.ref h.length), some (.int (iI x1)), some (.int (iI x2)), some (.int (iI x3)), some (.int (iI x4)), some (.int (iI x5)), some (.int (iI x6)), some (.int (iI x7)), some (.int (iI x8)), none]) (st' := [.ref h.length]) rfl rfl ?_
  refine go_a (pc' := 2) (ls' := [some (.ref h.length), some (.int (iI x1)), some (.int (iI x2)), some (.int (iI x3)), some (.int (iI x4)), some (.int (iI x5)), some (.int (iI x6)), some (.int (iI x7)), some (.int (iI x8)), none]) (st' := [.int (iI 0), .ref h.length]) rfl rfl ?_
  refine go_put rfl mh_o rfl rfl hc (show 17 < 86 by decide) rfl rfl ?_
  rw [mh_p17]
  show xx_go (xt_P z) (d + 2) 60 5 [some (.ref h.length), some (.int (iI x1)), some (.int (iI x2)), some (.int (iI x3)), some (.int (iI x4)), some (.int (iI x5)), some (.int (iI x6)), some (.int (iI x7)), some (.int (iI x8)), none] [] (mh h [] (su I0 17 0) A0 (fun _ => 0)) _
  have l0 : ([] : List Int).length < 5 := by decide
  have W0 : WST [] (su I0 17 0) A0 := ⟨rfl, fun q hq => absurd hq (Nat.not_lt_zero _), M.2.2.2.1⟩
  have F0 : WFR I0 A0 (su I0 17 0) A0 := ⟨fun j hj => su_ne hj, fun _ _ => rfl⟩
  obtain ⟨I1, eI⟩ : ∃ q : Nat → Int, q = su I0 17 0 := ⟨_, rfl⟩
  rw [← eI] at W0 F0
  rw [← eI]
  refine go_a (pc' := 6) (ls' := [some (.ref h.length), some (.int (iI x1)), some (.int (iI x2)), some (.int (iI x3)), some (.int (iI x4)), some (.int (iI x5)), some (.int (iI x6)), some (.int (iI x7)), some (.int (iI x8)), none]) (st' := [.ref h.length]) rfl rfl ?_
  refine go_a (pc' := 7) (ls' := [some (.ref h.length), some (.int (iI x1)), some (.int (iI x2)), some (.int (iI x3)), some (.int (iI x4)), some (.int (iI x5)), some (.int (iI x6)), some (.int (iI x7)), some (.int (iI x8)), none]) (st' := [.int (iI x1), .ref h.length]) rfl rfl ?_
  refine go_v (m := 61) (as := [.ref h.length, .int (iI x1)]) (r := []) rfl rfl rfl mh_o rfl rfl (mm_spellW z (d + 1) x1 [] h [] I1 A0 (fun _ => 0) hc W0 (R x1 (by simp)).1 (R x1 (by simp)).2 (by omega)) (fun v h1 hq => ?_)
  obtain ⟨rfl, J1, B1, rfl, W1, G1⟩ := hq
  have F1 := WFR_tr F0 G1
  have l1 : (spf [] x1).length < 6 := Nat.lt_of_le_of_lt (spf_len [] x1) (by omega)
  show xx_go (xt_P z) (d + 2) 60 10 [some (.ref h.length), some (.int (iI x1)), some (.int (iI x2)), some (.int (iI x3)), some (.int (iI x4)), some (.int (iI x5)), some (.int (iI x6)), some (.int (iI x7)), some (.int (iI x8)), none] [] (mh h [] J1 B1 (fun _ => 0)) _
  refine go_a (pc' := 11) (ls' := [some (.ref h.length), some (.int (iI x1)), some (.int (iI x2)), some (.int (iI x3)), some (.int (iI x4)), some (.int (iI x5)), some (.int (iI x6)), some (.int (iI x7)), some (.int (iI x8)), none]) (st' := [.ref h.length]) rfl rfl ?_
  refine go_a (pc' := 12) (ls' := [some (.ref h.length), some (.int (iI x1)), some (.int (iI x2)), some (.int (iI x3)), some (.int (iI x4)), some (.int (iI x5)), some (.int (iI x6)), some (.int (iI x7)), some (.int (iI x8)), none]) (st' := [.int (iI x2), .ref h.length]) rfl rfl ?_
  refine go_v (m := 61) (as := [.ref h.length, .int (iI x2)]) (r := []) rfl rfl rfl mh_o rfl rfl (mm_spellW z (d + 1) x2 (spf [] x1) h [] J1 B1 (fun _ => 0) hc W1 (R x2 (by simp)).1 (R x2 (by simp)).2 (by omega)) (fun v h2 hq => ?_)
  obtain ⟨rfl, J2, B2, rfl, W2, G2⟩ := hq
  have F2 := WFR_tr F1 G2
  have l2 : (spf (spf [] x1) x2).length < 7 := Nat.lt_of_le_of_lt (spf_len (spf [] x1) x2) (by omega)
  show xx_go (xt_P z) (d + 2) 60 15 [some (.ref h.length), some (.int (iI x1)), some (.int (iI x2)), some (.int (iI x3)), some (.int (iI x4)), some (.int (iI x5)), some (.int (iI x6)), some (.int (iI x7)), some (.int (iI x8)), none] [] (mh h [] J2 B2 (fun _ => 0)) _
  refine go_a (pc' := 16) (ls' := [some (.ref h.length), some (.int (iI x1)), some (.int (iI x2)), some (.int (iI x3)), some (.int (iI x4)), some (.int (iI x5)), some (.int (iI x6)), some (.int (iI x7)), some (.int (iI x8)), none]) (st' := [.ref h.length]) rfl rfl ?_
  refine go_a (pc' := 17) (ls' := [some (.ref h.length), some (.int (iI x1)), some (.int (iI x2)), some (.int (iI x3)), some (.int (iI x4)), some (.int (iI x5)), some (.int (iI x6)), some (.int (iI x7)), some (.int (iI x8)), none]) (st' := [.int (iI x3), .ref h.length]) rfl rfl ?_
  refine go_v (m := 61) (as := [.ref h.length, .int (iI x3)]) (r := []) rfl rfl rfl mh_o rfl rfl (mm_spellW z (d + 1) x3 (spf (spf [] x1) x2) h [] J2 B2 (fun _ => 0) hc W2 (R x3 (by simp)).1 (R x3 (by simp)).2 (by omega)) (fun v h3 hq => ?_)
  obtain ⟨rfl, J3, B3, rfl, W3, G3⟩ := hq
  have F3 := WFR_tr F2 G3
  have l3 : (spf (spf (spf [] x1) x2) x3).length < 8 := Nat.lt_of_le_of_lt (spf_len (spf (spf [] x1) x2) x3) (by omega)
  show xx_go (xt_P z) (d + 2) 60 20 [some (.ref h.length), some (.int (iI x1)), some (.int (iI x2)), some (.int (iI x3)), some (.int (iI x4)), some (.int (iI x5)), some (.int (iI x6)), some (.int (iI x7)), some (.int (iI x8)), none] [] (mh h [] J3 B3 (fun _ => 0)) _
  refine go_a (pc' := 21) (ls' := [some (.ref h.length), some (.int (iI x1)), some (.int (iI x2)), some (.int (iI x3)), some (.int (iI x4)), some (.int (iI x5)), some (.int (iI x6)), some (.int (iI x7)), some (.int (iI x8)), none]) (st' := [.ref h.length]) rfl rfl ?_
  refine go_a (pc' := 23) (ls' := [some (.ref h.length), some (.int (iI x1)), some (.int (iI x2)), some (.int (iI x3)), some (.int (iI x4)), some (.int (iI x5)), some (.int (iI x6)), some (.int (iI x7)), some (.int (iI x8)), none]) (st' := [.int (iI x4), .ref h.length]) rfl rfl ?_
  refine go_v (m := 61) (as := [.ref h.length, .int (iI x4)]) (r := []) rfl rfl rfl mh_o rfl rfl (mm_spellW z (d + 1) x4 (spf (spf (spf [] x1) x2) x3) h [] J3 B3 (fun _ => 0) hc W3 (R x4 (by simp)).1 (R x4 (by simp)).2 (by omega)) (fun v h4 hq => ?_)
  obtain ⟨rfl, J4, B4, rfl, W4, G4⟩ := hq
  have F4 := WFR_tr F3 G4
  have l4 : (spf (spf (spf (spf [] x1) x2) x3) x4).length < 9 := Nat.lt_of_le_of_lt (spf_len (spf (spf (spf [] x1) x2) x3) x4) (by omega)
  show xx_go (xt_P z) (d + 2) 60 26 [some (.ref h.length), some (.int (iI x1)), some (.int (iI x2)), some (.int (iI x3)), some (.int (iI x4)), some (.int (iI x5)), some (.int (iI x6)), some (.int (iI x7)), some (.int (iI x8)), none] [] (mh h [] J4 B4 (fun _ => 0)) _
  refine go_a (pc' := 27) (ls' := [some (.ref h.length), some (.int (iI x1)), some (.int (iI x2)), some (.int (iI x3)), some (.int (iI x4)), some (.int (iI x5)), some (.int (iI x6)), some (.int (iI x7)), some (.int (iI x8)), none]) (st' := [.ref h.length]) rfl rfl ?_
  refine go_a (pc' := 29) (ls' := [some (.ref h.length), some (.int (iI x1)), some (.int (iI x2)), some (.int (iI x3)), some (.int (iI x4)), some (.int (iI x5)), some (.int (iI x6)), some (.int (iI x7)), some (.int (iI x8)), none]) (st' := [.int (iI x5), .ref h.length]) rfl rfl ?_
  refine go_v (m := 61) (as := [.ref h.length, .int (iI x5)]) (r := []) rfl rfl rfl mh_o rfl rfl (mm_spellW z (d + 1) x5 (spf (spf (spf (spf [] x1) x2) x3) x4) h [] J4 B4 (fun _ => 0) hc W4 (R x5 (by simp)).1 (R x5 (by simp)).2 (by omega)) (fun v h5 hq => ?_)
  obtain ⟨rfl, J5, B5, rfl, W5, G5⟩ := hq
  have F5 := WFR_tr F4 G5
  have l5 : (spf (spf (spf (spf (spf [] x1) x2) x3) x4) x5).length < 10 := Nat.lt_of_le_of_lt (spf_len (spf (spf (spf (spf [] x1) x2) x3) x4) x5) (by omega)
  show xx_go (xt_P z) (d + 2) 60 32 [some (.ref h.length), some (.int (iI x1)), some (.int (iI x2)), some (.int (iI x3)), some (.int (iI x4)), some (.int (iI x5)), some (.int (iI x6)), some (.int (iI x7)), some (.int (iI x8)), none] [] (mh h [] J5 B5 (fun _ => 0)) _
  refine go_a (pc' := 33) (ls' := [some (.ref h.length), some (.int (iI x1)), some (.int (iI x2)), some (.int (iI x3)), some (.int (iI x4)), some (.int (iI x5)), some (.int (iI x6)), some (.int (iI x7)), some (.int (iI x8)), none]) (st' := [.ref h.length]) rfl rfl ?_
  refine go_a (pc' := 35) (ls' := [some (.ref h.length), some (.int (iI x1)), some (.int (iI x2)), some (.int (iI x3)), some (.int (iI x4)), some (.int (iI x5)), some (.int (iI x6)), some (.int (iI x7)), some (.int (iI x8)), none]) (st' := [.int (iI x6), .ref h.length]) rfl rfl ?_
  refine go_v (m := 61) (as := [.ref h.length, .int (iI x6)]) (r := []) rfl rfl rfl mh_o rfl rfl (mm_spellW z (d + 1) x6 (spf (spf (spf (spf (spf [] x1) x2) x3) x4) x5) h [] J5 B5 (fun _ => 0) hc W5 (R x6 (by simp)).1 (R x6 (by simp)).2 (by omega)) (fun v h6 hq => ?_)
  obtain ⟨rfl, J6, B6, rfl, W6, G6⟩ := hq
  have F6 := WFR_tr F5 G6
  have l6 : (spf (spf (spf (spf (spf (spf [] x1) x2) x3) x4) x5) x6).length < 11 := Nat.lt_of_le_of_lt (spf_len (spf (spf (spf (spf (spf [] x1) x2) x3) x4) x5) x6) (by omega)
  show xx_go (xt_P z) (d + 2) 60 38 [some (.ref h.length), some (.int (iI x1)), some (.int (iI x2)), some (.int (iI x3)), some (.int (iI x4)), some (.int (iI x5)), some (.int (iI x6)), some (.int (iI x7)), some (.int (iI x8)), none] [] (mh h [] J6 B6 (fun _ => 0)) _
  refine go_a (pc' := 39) (ls' := [some (.ref h.length), some (.int (iI x1)), some (.int (iI x2)), some (.int (iI x3)), some (.int (iI x4)), some (.int (iI x5)), some (.int (iI x6)), some (.int (iI x7)), some (.int (iI x8)), none]) (st' := [.ref h.length]) rfl rfl ?_
  refine go_a (pc' := 41) (ls' := [some (.ref h.length), some (.int (iI x1)), some (.int (iI x2)), some (.int (iI x3)), some (.int (iI x4)), some (.int (iI x5)), some (.int (iI x6)), some (.int (iI x7)), some (.int (iI x8)), none]) (st' := [.int (iI x7), .ref h.length]) rfl rfl ?_
  refine go_v (m := 61) (as := [.ref h.length, .int (iI x7)]) (r := []) rfl rfl rfl mh_o rfl rfl (mm_spellW z (d + 1) x7 (spf (spf (spf (spf (spf (spf [] x1) x2) x3) x4) x5) x6) h [] J6 B6 (fun _ => 0) hc W6 (R x7 (by simp)).1 (R x7 (by simp)).2 (by omega)) (fun v h7 hq => ?_)
  obtain ⟨rfl, J7, B7, rfl, W7, G7⟩ := hq
  have F7 := WFR_tr F6 G7
  have l7 : (spf (spf (spf (spf (spf (spf (spf [] x1) x2) x3) x4) x5) x6) x7).length < 12 := Nat.lt_of_le_of_lt (spf_len (spf (spf (spf (spf (spf (spf [] x1) x2) x3) x4) x5) x6) x7) (by omega)
  show xx_go (xt_P z) (d + 2) 60 44 [some (.ref h.length), some (.int (iI x1)), some (.int (iI x2)), some (.int (iI x3)), some (.int (iI x4)), some (.int (iI x5)), some (.int (iI x6)), some (.int (iI x7)), some (.int (iI x8)), none] [] (mh h [] J7 B7 (fun _ => 0)) _
  refine go_a (pc' := 45) (ls' := [some (.ref h.length), some (.int (iI x1)), some (.int (iI x2)), some (.int (iI x3)), some (.int (iI x4)), some (.int (iI x5)), some (.int (iI x6)), some (.int (iI x7)), some (.int (iI x8)), none]) (st' := [.ref h.length]) rfl rfl ?_
  refine go_a (pc' := 47) (ls' := [some (.ref h.length), some (.int (iI x1)), some (.int (iI x2)), some (.int (iI x3)), some (.int (iI x4)), some (.int (iI x5)), some (.int (iI x6)), some (.int (iI x7)), some (.int (iI x8)), none]) (st' := [.int (iI x8), .ref h.length]) rfl rfl ?_
  refine go_v (m := 61) (as := [.ref h.length, .int (iI x8)]) (r := []) rfl rfl rfl mh_o rfl rfl (mm_spellW z (d + 1) x8 (spf (spf (spf (spf (spf (spf (spf [] x1) x2) x3) x4) x5) x6) x7) h [] J7 B7 (fun _ => 0) hc W7 (R x8 (by simp)).1 (R x8 (by simp)).2 (by omega)) (fun v h8 hq => ?_)
  obtain ⟨rfl, J8, B8, rfl, W8, G8⟩ := hq
  have F8 := WFR_tr F7 G8
  have l8 : (spf (spf (spf (spf (spf (spf (spf (spf [] x1) x2) x3) x4) x5) x6) x7) x8).length < 13 := Nat.lt_of_le_of_lt (spf_len (spf (spf (spf (spf (spf (spf (spf [] x1) x2) x3) x4) x5) x6) x7) x8) (by omega)
  show xx_go (xt_P z) (d + 2) 60 50 [some (.ref h.length), some (.int (iI x1)), some (.int (iI x2)), some (.int (iI x3)), some (.int (iI x4)), some (.int (iI x5)), some (.int (iI x6)), some (.int (iI x7)), some (.int (iI x8)), none] [] (mh h [] J8 B8 (fun _ => 0)) _
  rw [show (spf (spf (spf (spf (spf (spf (spf (spf [] x1) x2) x3) x4) x5) x6) x7) x8) = WL.getD b [] from hx.2] at W8
  have wb := WL_R b hb
  have M1 := MST_W M.1 F8
  have i7 : J8 7 = (b : Int) := (F8.1 7 (by decide)).trans M.2.1.1
  have i10 : J8 10 = (b : Int) := (F8.1 10 (by decide)).trans M.2.1.2
  have b1 : B8 1 = A0 1 := F8.2 1 (by decide)
  have b2 : B8 2 = A0 2 := F8.2 2 (by decide)
  have b8 : B8 8 = A0 8 := F8.2 8 (by decide)
  have b9 : B8 9 = A0 9 := F8.2 9 (by decide)
  have w17 := W8.1
  refine go_a (pc' := 51) (ls' := [some (.ref h.length), some (.int (iI x1)), some (.int (iI x2)), some (.int (iI x3)), some (.int (iI x4)), some (.int (iI x5)), some (.int (iI x6)), some (.int (iI x7)), some (.int (iI x8)), none]) (st' := [.ref h.length]) rfl rfl ?_
  refine go_v (m := 62) (as := [.ref h.length]) (r := []) rfl rfl rfl mh_o rfl rfl (mm_symbolX z d h [] J8 B8 (fun _ => 0) hc M1 (by omega) (by omega) (by omega) (by omega) W8.2.2) (fun v h9 hq => ?_)
  obtain ⟨k, I9, A9, rfl, rfl, S9, k0, k1, k2, hq⟩ := hq
  have KEY : k = J8 7 ∧ I9 = su (su J8 10 (J8 10 + 1)) 7 (J8 7 + 1) ∧ ∃ g : Int → Int, A9 = addA (symA B8 (J8 10) (J8 17) g) (J8 7) (-2) (J8 10) (mand (msp (B8 13) (J8 17).toNat 0 5)) ∧ (∀ e : Int, e < 12 * J8 10 → g e = B8 8 e) ∧ ∀ q : Nat, (q : Int) < J8 17 → g (12 * J8 10 + q) = B8 13 q := by
    rcases hq with ⟨e1, e2, e3, e4⟩ | hq
    · exfalso
      rw [e1] at k1
      obtain ⟨n, rfl⟩ : ∃ n : Nat, k = (n : Int) := ⟨k.toNat, by omega⟩
      have D := M.2.2.1 n (by omega)
      rw [b2, D.1.2, b9, D.2.1, w17] at e3
      refine wb.2.2 n (by omega) (li_eq (by omega) (fun q hq => ?_))
      have h4 := e4 q (by rw [w17]; omega)
      rw [b2, D.1.2, b8, D.2.2 q hq, W8.2.1 q (by omega)] at h4
      exact h4
    · exact hq
  obtain ⟨ek, eI9, gg, eA9, g1, g2⟩ := KEY
  clear hq
  show xx_go (xt_P z) (d + 2) 60 54 [some (.ref h.length), some (.int (iI x1)), some (.int (iI x2)), some (.int (iI x3)), some (.int (iI x4)), some (.int (iI x5)), some (.int (iI x6)), some (.int (iI x7)), some (.int (iI x8)), none] [.int (iI k)] (mh h [] I9 A9 (fun _ => 0)) _
  refine go_a (pc' := 56) (ls' := [some (.ref h.length), some (.int (iI x1)), some (.int (iI x2)), some (.int (iI x3)), some (.int (iI x4)), some (.int (iI x5)), some (.int (iI x6)), some (.int (iI x7)), some (.int (iI x8)), some (.int (iI k))]) (st' := []) rfl rfl ?_
  have MD : MDL (b + 1) I9 A9 := by
    refine ⟨S9, ⟨?_, ?_⟩, fun j hj => ?_, ?_, fun j j1 j2 j3 => ?_, fun i i1 i2 => ?_⟩
    · rw [eI9]
      show J8 7 + 1 = _
      omega
    · rw [eI9]
      show J8 10 + 1 = _
      omega
    · rw [eA9]
      show (sf (B8 1) (J8 7) (-2) (j : Int) = -2 ∧ sf (B8 2) (J8 7) (J8 10) (j : Int) = (j : Int)) ∧ sf (B8 9) (J8 10) (J8 17) (j : Int) = _ ∧ ∀ q : Nat, q < (WL.getD j []).length → gg (12 * (j : Int) + q) = _
      by_cases cj : j = b
      · rw [cj, i7, i10, sf_self, sf_self, sf_self, w17]
        refine ⟨⟨rfl, rfl⟩, rfl, fun q hq => ?_⟩
        have h4 := g2 q (by rw [w17]; omega)
        rw [i10] at h4
        rw [h4]
        exact W8.2.1 q hq
      · have D := M.2.2.1 j (by omega)
        rw [i7, i10, sf_ne (by omega), sf_ne (by omega), sf_ne (by omega), b1, b2, b9]
        refine ⟨D.1, D.2.1, fun q hq => ?_⟩
        have wj := WL_R j (by omega)
        rw [g1 _ (by rw [i10]; omega), b8]
        exact D.2.2 q hq
    · rw [eA9]
      exact W8.2.2
    · rw [eI9, su_ne j1, su_ne j2, F8.1 j j3]
      exact M.2.2.2.2.1 j j1 j2 j3
    · rw [eA9]
      have e : addA (symA B8 (J8 10) (J8 17) gg) (J8 7) (-2) (J8 10) (mand (msp (B8 13) (J8 17).toNat 0 5)) i = B8 i := by
        unfold addA symA
        rw [sa_ne (by omega), sa_ne (by omega), sa_ne (by omega), sa_ne (by omega), sa_ne (by omega), sa_ne (by omega)]
        show sw (sa B8 9 (J8 10) (J8 17)) 8 gg i = _
        rw [sw_ne (by omega), sa_ne (by omega)]
      rw [e, F8.2 i i2]
      exact M.2.2.2.2.2 i i1 i2
  exact go_r rfl rfl rfl rfl rfl rfl ⟨rfl, I9, A9, rfl, MD⟩

