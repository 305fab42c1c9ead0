theorem mx_isWord_loop (z : Value) (d : Nat) (s : Int) (h R : xx_H) (I : Nat → Int) (A : Nat → Int → Int) (N : Int → Int) (hc : 12 ≤ h.length) (s0 : 0 ≤ s) (s1 : s < 4999) (w1 : I 17 ≤ 12) (r8 : ∀ e : Int, 0 ≤ A 8 e ∧ A 8 e ≤ 255) (r13 : ∀ e : Int, 0 ≤ A 13 e ∧ A 13 e ≤ 255) : ∀ (n : Nat) (j c : Int), (c = 0 ∨ c = 1) → 0 ≤ j → j + n = I 17 → xx_go (xt_P z) d 64 21 [some (.ref h.length), some (.int (iI s)), some (.int (iI c)), some (.int (iI j))] [] (mh h R I A N) (fun v h1 => (∃ b : Int, (b = 0 ∨ b = 1) ∧ v = some (.int (iI b)) ∧ (b = 1 ↔ c = 1 ∧ ∀ q : Nat, q < n → A 8 (12 * s + (j + q)) = A 13 (j + q))) ∧ h1 = mh h R I A N) := by
  intro n
  induction n with
  | zero =>
    intro j c hc2 j0 ej
    refine go_a (pc' := 22) (ls' := [some (.ref h.length), some (.int (iI s)), some (.int (iI c)), some (.int (iI j))]) (st' := [.int (iI j)]) rfl rfl ?_
    refine go_a (pc' := 23) (ls' := [some (.ref h.length), some (.int (iI s)), some (.int (iI c)), some (.int (iI j))]) (st' := [.ref h.length, .int (iI j)]) rfl rfl ?_
    refine go_get (v := .int (iI (I 17))) rfl mh_o rfl rfl ?_
    refine mi_ge (t := 65) rfl rfl (by omega) (by omega) (by omega) (by omega) (fun hb => ?_) (fun hb => absurd (show I 17 ≤ j by omega) hb)
    refine go_a (pc' := 66) (ls' := [some (.ref h.length), some (.int (iI s)), some (.int (iI c)), some (.int (iI j))]) (st' := [.int (iI c)]) rfl rfl ?_
    rcases hc2 with rfl | rfl
    · exact go_r rfl rfl rfl rfl rfl rfl ⟨⟨0, Or.inl rfl, rfl, ⟨fun q => absurd q (by decide), fun q => absurd q.1 (by decide)⟩⟩, rfl⟩
    · exact go_r rfl rfl rfl rfl rfl rfl ⟨⟨1, Or.inr rfl, rfl, ⟨fun _ => ⟨rfl, fun q hq => absurd hq (Nat.not_lt_zero _)⟩, fun _ => rfl⟩⟩, rfl⟩
  | succ n ih =>
    intro j c hc2 j0 ej
    have ra := r8 (12 * s + j)
    have rb := r13 j
    refine go_a (pc' := 22) (ls' := [some (.ref h.length), some (.int (iI s)), some (.int (iI c)), some (.int (iI j))]) (st' := [.int (iI j)]) rfl rfl ?_
    refine go_a (pc' := 23) (ls' := [some (.ref h.length), some (.int (iI s)), some (.int (iI c)), some (.int (iI j))]) (st' := [.ref h.length, .int (iI j)]) rfl rfl ?_
    refine go_get (v := .int (iI (I 17))) rfl mh_o rfl rfl ?_
    refine mi_ge (t := 65) rfl rfl (by omega) (by omega) (by omega) (by omega) (fun hb => absurd hb (by omega)) (fun hb => ?_)
    refine go_a (pc' := 30) (ls' := [some (.ref h.length), some (.int (iI s)), some (.int (iI c)), some (.int (iI j))]) (st' := [.int (iI c)]) rfl rfl ?_
    refine mi_eq0 (t := 65) rfl rfl (by omega) (by omega) (fun hb => ?_) (fun hb => ?_)
    · subst hb
      refine go_a (pc' := 66) (ls' := [some (.ref h.length), some (.int (iI s)), some (.int (iI 0)), some (.int (iI j))]) (st' := [.int (iI 0)]) rfl rfl ?_
      exact go_r rfl rfl rfl rfl rfl rfl ⟨⟨0, Or.inl rfl, rfl, ⟨fun q => absurd q (by decide), fun q => absurd q.1 (by decide)⟩⟩, rfl⟩
    · have c1 : c = 1 := by omega
      subst c1
      refine go_a (pc' := 34) (ls' := [some (.ref h.length), some (.int (iI s)), some (.int (iI 1)), some (.int (iI j))]) (st' := [.ref h.length]) rfl rfl ?_
      refine go_get rfl mh_o rfl rfl ?_
      refine go_a (pc' := 39) (ls' := [some (.ref h.length), some (.int (iI s)), some (.int (iI 1)), some (.int (iI j))]) (st' := [.int (iI 12), .ref (h.length + 8)]) rfl rfl ?_
      refine go_a (pc' := 40) (ls' := [some (.ref h.length), some (.int (iI s)), some (.int (iI 1)), some (.int (iI j))]) (st' := [.int (iI s), .int (iI 12), .ref (h.length + 8)]) rfl rfl ?_
      refine mi_mul rfl ?_
      refine go_a (pc' := 42) (ls' := [some (.ref h.length), some (.int (iI s)), some (.int (iI 1)), some (.int (iI j))]) (st' := [.int (iI j), .int (iI (12 * s)), .ref (h.length + 8)]) rfl rfl ?_
      refine mi_add rfl ?_
      refine mi_ild rfl mh_a8 (by omega) (by omega) (by decide) ?_
      refine go_a (pc' := 45) (ls' := [some (.ref h.length), some (.int (iI s)), some (.int (iI 1)), some (.int (iI j))]) (st' := [.ref h.length, .int (iI (A 8 ((12 * s) + j)))]) rfl rfl ?_
      refine go_get rfl mh_o rfl rfl ?_
      refine go_a (pc' := 49) (ls' := [some (.ref h.length), some (.int (iI s)), some (.int (iI 1)), some (.int (iI j))]) (st' := [.int (iI j), .ref (h.length + 13), .int (iI (A 8 ((12 * s) + j)))]) rfl rfl ?_
      refine mi_ild rfl mh_a13 (by omega) (by omega) (by decide) ?_
      refine mi_ne (t := 57) rfl rfl (by omega) (by omega) (by omega) (by omega) (fun hb2 => ?_) (fun hb2 => ?_)
      · refine go_a (pc' := 58) (ls' := [some (.ref h.length), some (.int (iI s)), some (.int (iI 1)), some (.int (iI j))]) (st' := [.int (iI 0)]) rfl rfl ?_
        refine go_a (pc' := 59) (ls' := [some (.ref h.length), some (.int (iI s)), some (.int (iI 0)), some (.int (iI j))]) (st' := []) rfl rfl ?_
        refine go_a (pc' := 62) (ls' := [some (.ref h.length), some (.int (iI s)), some (.int (iI 0)), some (.int (iI (j + 1)))]) (st' := []) rfl (by rw [← iI_add j 1]; rfl) ?_
        refine go_a (pc' := 21) (ls' := [some (.ref h.length), some (.int (iI s)), some (.int (iI 0)), some (.int (iI (j + 1)))]) (st' := []) rfl rfl ?_
        refine go_w (fun v h1 hq => ?_) (ih (j + 1) 0 (Or.inl rfl) (by omega) (by omega))
        obtain ⟨⟨b, b1, rfl, b2⟩, rfl⟩ := hq
        refine ⟨⟨b, b1, rfl, ⟨fun hb3 => absurd (b2.mp hb3).1 (by decide), fun hb3 => ?_⟩⟩, rfl⟩
        have q0 := hb3.2 0 (by omega)
        rw [show j + ((0 : Nat) : Int) = j by omega] at q0
        omega
      · refine go_a (pc' := 54) (ls' := [some (.ref h.length), some (.int (iI s)), some (.int (iI 1)), some (.int (iI j))]) (st' := [.int (iI 1)]) rfl rfl ?_
        refine go_a (pc' := 58) (ls' := [some (.ref h.length), some (.int (iI s)), some (.int (iI 1)), some (.int (iI j))]) (st' := [.int (iI 1)]) rfl rfl ?_
        refine go_a (pc' := 59) (ls' := [some (.ref h.length), some (.int (iI s)), some (.int (iI 1)), some (.int (iI j))]) (st' := []) rfl rfl ?_
        refine go_a (pc' := 62) (ls' := [some (.ref h.length), some (.int (iI s)), some (.int (iI 1)), some (.int (iI (j + 1)))]) (st' := []) rfl (by rw [← iI_add j 1]; rfl) ?_
        refine go_a (pc' := 21) (ls' := [some (.ref h.length), some (.int (iI s)), some (.int (iI 1)), some (.int (iI (j + 1)))]) (st' := []) rfl rfl ?_
        refine go_w (fun v h1 hq => ?_) (ih (j + 1) 1 (Or.inr rfl) (by omega) (by omega))
        obtain ⟨⟨b, b1, rfl, b2⟩, rfl⟩ := hq
        refine ⟨⟨b, b1, rfl, ⟨fun hb3 => ⟨rfl, fun q hq => ?_⟩, fun hb3 => b2.mpr ⟨rfl, fun q hq => ?_⟩⟩⟩, rfl⟩
        · match q with
          | 0 =>
            rw [show j + ((0 : Nat) : Int) = j by omega]
            omega
          | q + 1 =>
            have := (b2.mp hb3).2 q (by omega)
            rw [show j + ((q + 1 : Nat) : Int) = j + 1 + (q : Int) by omega]
            exact this
        · have := hb3.2 (q + 1) (by omega)
          rw [show j + ((q + 1 : Nat) : Int) = j + 1 + (q : Int) by omega] at this
          exact this
theorem mx_isWord (z : Value) (d : Nat) (s : Int) (h R : xx_H) (I : Nat → Int) (A : Nat → Int → Int) (N : Int → Int) (hc : 12 ≤ h.length) (s0 : 0 ≤ s) (s1 : s < 4999) (w0 : 0 ≤ I 17) (w1 : I 17 ≤ 12) (r8 : ∀ e : Int, 0 ≤ A 8 e ∧ A 8 e ≤ 255) (r13 : ∀ e : Int, 0 ≤ A 13 e ∧ A 13 e ≤ 255) (r9 : 0 ≤ A 9 s ∧ A 9 s ≤ 11) : xx_cl (xt_P z) (d + 1) 64 [.ref h.length, .int (iI s)] (mh h R I A N) (fun v h1 => (∃ b : Int, (b = 0 ∨ b = 1) ∧ v = some (.int (iI b)) ∧ (b = 1 ↔ (A 9 s = I 17 ∧ ∀ q : Nat, (q : Int) < I 17 → A 8 (12 * s + q) = A 13 q))) ∧ h1 = mh h R I A N) := by
  refine cl_go rfl ?_
  show xx_go (xt_P z) d 64 0 [some (.ref h.length), some (.int (iI s)), none, none] [] (mh h R I A N) _
  refine go_a (pc' := 1) (ls' := [some (.ref h.length), some (.int (iI s)), none, none]) (st' := [.ref h.length]) rfl rfl ?_
  refine go_get rfl mh_o rfl rfl ?_
  refine go_a (pc' := 5) (ls' := [some (.ref h.length), some (.int (iI s)), none, none]) (st' := [.int (iI s), .ref (h.length + 9)]) rfl rfl ?_
  refine mi_ild rfl mh_a9 (by omega) (by omega) (by decide) ?_
  refine go_a (pc' := 7) (ls' := [some (.ref h.length), some (.int (iI s)), none, none]) (st' := [.ref h.length, .int (iI (A 9 s))]) rfl rfl ?_
  refine go_get (v := .int (iI (I 17))) rfl mh_o rfl rfl ?_
  refine mi_ne (t := 17) rfl rfl (by omega) (by omega) (by omega) (by omega) (fun hb => ?_) (fun hb => ?_)
  · refine go_a (pc' := 18) (ls' := [some (.ref h.length), some (.int (iI s)), none, none]) (st' := [.int (iI 0)]) rfl rfl ?_
    refine go_a (pc' := 19) (ls' := [some (.ref h.length), some (.int (iI s)), some (.int (iI 0)), none]) (st' := []) rfl rfl ?_
    refine go_a (pc' := 20) (ls' := [some (.ref h.length), some (.int (iI s)), some (.int (iI 0)), none]) (st' := [.int (iI 0)]) rfl rfl ?_
    refine go_a (pc' := 21) (ls' := [some (.ref h.length), some (.int (iI s)), some (.int (iI 0)), some (.int (iI 0))]) (st' := []) rfl rfl ?_
    refine go_w (fun v h1 hq => ?_) (mx_isWord_loop z d s h R I A N hc s0 s1 w1 r8 r13 (I 17).toNat 0 0 (Or.inl rfl) (by omega) (by omega))
    obtain ⟨⟨b, b1, rfl, b2⟩, rfl⟩ := hq
    exact ⟨⟨b, b1, rfl, ⟨fun hb3 => absurd (b2.mp hb3).1 (by decide), fun hb3 => absurd hb3.1 (by omega)⟩⟩, rfl⟩
  · refine go_a (pc' := 14) (ls' := [some (.ref h.length), some (.int (iI s)), none, none]) (st' := [.int (iI 1)]) rfl rfl ?_
    refine go_a (pc' := 18) (ls' := [some (.ref h.length), some (.int (iI s)), none, none]) (st' := [.int (iI 1)]) rfl rfl ?_
    refine go_a (pc' := 19) (ls' := [some (.ref h.length), some (.int (iI s)), some (.int (iI 1)), none]) (st' := []) rfl rfl ?_
    refine go_a (pc' := 20) (ls' := [some (.ref h.length), some (.int (iI s)), some (.int (iI 1)), none]) (st' := [.int (iI 0)]) rfl rfl ?_
    refine go_a (pc' := 21) (ls' := [some (.ref h.length), some (.int (iI s)), some (.int (iI 1)), some (.int (iI 0))]) (st' := []) rfl rfl ?_
    refine go_w (fun v h1 hq => ?_) (mx_isWord_loop z d s h R I A N hc s0 s1 w1 r8 r13 (I 17).toNat 0 1 (Or.inr rfl) (by omega) (by omega))
    obtain ⟨⟨b, b1, rfl, b2⟩, rfl⟩ := hq
    refine ⟨⟨b, b1, rfl, ⟨fun hb3 => ⟨by omega, fun q hq => ?_⟩, fun hb3 => b2.mpr ⟨rfl, fun q hq => ?_⟩⟩⟩, rfl⟩
    · have := (b2.mp hb3).2 q (by omega)
      rw [Int.zero_add] at this
      exact this
    · have := hb3.2 q (by omega)
      rw [Int.zero_add]
      exact this
theorem mx_sym_names (z : Value) (d : Nat) (h R : xx_H) (I : Nat → Int) (A : Nat → Int → Int) (N : Int → Int) (hc : 12 ≤ h.length) (hS : MST I A N) (ho : I 7 < 140000) (hs : I 10 < 4990) (w0 : 0 ≤ I 17) (w1 : I 17 ≤ 11) (r13 : ∀ e : Int, 0 ≤ A 13 e ∧ A 13 e ≤ 255) (hno : ∀ j : Int, 0 ≤ j → j < I 7 → A 1 j = -2 → ¬ (A 9 (A 2 j) = I 17 ∧ ∀ q : Nat, (q : Int) < I 17 → A 8 (12 * (A 2 j) + q) = A 13 q)) : ∀ (n : Nat) (j : Int) (g : Int → Int), 0 ≤ j → j + n = I 17 → (∀ e : Int, e < 12 * I 10 → g e = A 8 e) → (∀ e : Int, 0 ≤ g e ∧ g e ≤ 255) → (∀ q : Nat, (q : Int) < j → g (12 * I 10 + q) = A 13 q) → xx_go (xt_P z) (d + 1) 62 74 [some (.ref h.length), some (.int (iI (mand (msp (A 13) (I 17).toNat 0 5)))), some (.int (iI j))] [] (mh h R I (symA A (I 10) (I 17) g) N) (fun v h1 => ∃ (k : Int) (I1 : Nat → Int) (A1 : Nat → Int → Int), v = some (.int (iI k)) ∧ h1 = mh h R I1 A1 N ∧ MST I1 A1 N ∧ 0 ≤ k ∧ k < I1 7 ∧ A1 1 k = -2 ∧ ((I1 = I ∧ A1 = A ∧ (A 9 (A 2 k) = I 17 ∧ ∀ q : Nat, (q : Int) < I 17 → A 8 (12 * (A 2 k) + q) = A 13 q)) ∨ (k = I 7 ∧ I1 = su (su I 10 (I 10 + 1)) 7 (I 7 + 1) ∧ ∃ g : Int → Int, A1 = addA (symA A (I 10) (I 17) g) (I 7) (-2) (I 10) (mand (msp (A 13) (I 17).toNat 0 5)) ∧ (∀ e : Int, e < 12 * I 10 → g e = A 8 e) ∧ (∀ q : Nat, (q : Int) < I 17 → g (12 * I 10 + q) = A 13 q) ∧ ∀ j : Int, 0 ≤ j → j < I 7 → A 1 j = -2 → ¬ (A 9 (A 2 j) = I 17 ∧ ∀ q : Nat, (q : Int) < I 17 → A 8 (12 * (A 2 j) + q) = A 13 q)))) := by
  have h1 := hS.1
  have qr : 0 ≤ mand (msp (A 13) (I 17).toNat 0 5) ∧ mand (msp (A 13) (I 17).toNat 0 5) < 8192 := and_rng _
  intro n
  induction n with
  | zero =>
    intro j g j0 ej g1 g2 g3
    refine go_a (pc' := 75) (ls' := [some (.ref h.length), some (.int (iI (mand (msp (A 13) (I 17).toNat 0 5)))), some (.int (iI j))]) (st' := [.int (iI j)]) rfl rfl ?_
    refine go_a (pc' := 76) (ls' := [some (.ref h.length), some (.int (iI (mand (msp (A 13) (I 17).toNat 0 5)))), some (.int (iI j))]) (st' := [.ref h.length, .int (iI j)]) rfl rfl ?_
    refine go_get (v := .int (iI (I 17))) rfl mh_o rfl rfl ?_
    refine mi_ge (t := 108) rfl rfl (by omega) (by omega) (by omega) (by omega) (fun hb => ?_) (fun hb => absurd (show I 17 ≤ j by omega) hb)
    refine go_a (pc' := 109) (ls' := [some (.ref h.length), some (.int (iI (mand (msp (A 13) (I 17).toNat 0 5)))), some (.int (iI j))]) (st' := [.ref h.length]) rfl rfl ?_
    refine go_a (pc' := 110) (ls' := [some (.ref h.length), some (.int (iI (mand (msp (A 13) (I 17).toNat 0 5)))), some (.int (iI j))]) (st' := [.ref h.length, .ref h.length]) rfl rfl ?_
    refine go_get (v := .int (iI (I 10))) rfl mh_o rfl rfl ?_
    refine go_a (pc' := 114) (ls' := [some (.ref h.length), some (.int (iI (mand (msp (A 13) (I 17).toNat 0 5)))), some (.int (iI j))]) (st' := [.int (iI 1), .int (iI (I 10)), .ref h.length]) rfl rfl ?_
    refine mi_add rfl ?_
    refine go_put (j := 10) rfl mh_o rfl rfl (show 12 ≤ _ from hc) (show 10 < 86 by decide) rfl rfl ?_
    rw [mh_p10]
    refine go_a (pc' := 119) (ls' := [some (.ref h.length), some (.int (iI (mand (msp (A 13) (I 17).toNat 0 5)))), some (.int (iI j))]) (st' := [.ref h.length]) rfl rfl ?_
    refine go_a (pc' := 121) (ls' := [some (.ref h.length), some (.int (iI (mand (msp (A 13) (I 17).toNat 0 5)))), some (.int (iI j))]) (st' := [.int (iI ((-2))), .ref h.length]) rfl rfl ?_
    refine go_a (pc' := 122) (ls' := [some (.ref h.length), some (.int (iI (mand (msp (A 13) (I 17).toNat 0 5)))), some (.int (iI j))]) (st' := [.ref h.length, .int (iI ((-2))), .ref h.length]) rfl rfl ?_
    refine go_get (v := .int (iI ((I 10) + 1))) rfl mh_o rfl rfl ?_
    refine go_a (pc' := 126) (ls' := [some (.ref h.length), some (.int (iI (mand (msp (A 13) (I 17).toNat 0 5)))), some (.int (iI j))]) (st' := [.int (iI 1), .int (iI ((I 10) + 1)), .int (iI ((-2))), .ref h.length]) rfl rfl ?_
    refine mi_sub rfl ?_
    refine go_a (pc' := 128) (ls' := [some (.ref h.length), some (.int (iI (mand (msp (A 13) (I 17).toNat 0 5)))), some (.int (iI j))]) (st' := [.int (iI (mand (msp (A 13) (I 17).toNat 0 5))), .int (iI (((I 10) + 1) - 1)), .int (iI ((-2))), .ref h.length]) rfl rfl ?_
    rw [show I 10 + 1 - 1 = I 10 by omega]
    have S2 := MST_sym hS hs w0 w1 g1 g2
    refine go_v (m := 65) (as := [.ref h.length, .int (iI ((-2))), .int (iI (I 10)), .int (iI (mand (msp (A 13) (I 17).toNat 0 5)))]) (r := []) rfl rfl rfl mh_o rfl rfl (mm_added z d (-2) (I 10) (mand (msp (A 13) (I 17).toNat 0 5)) h R (su I 10 (I 10 + 1)) (symA A (I 10) (I 17) g) N hc h1.1 ho qr.1 qr.2 (by decide) (by decide) (by omega) (by omega) (fun q => absurd q (by decide))) (fun v h1 hq => ?_)
    obtain ⟨rfl, rfl⟩ := hq
    have hq : hsh (addA (symA A (I 10) (I 17) g) (I 7) (-2) (I 10) (mand (msp (A 13) (I 17).toNat 0 5))) N (I 7) = mand (msp (A 13) (I 17).toNat 0 5) := by
      unfold hsh
      rw [addA_1, addA_2, addA_8, addA_9, symA_8, symA_9, sf_self, sf_self, sf_self, if_neg (by decide), if_pos rfl]
      congr 1
      refine msp_congr _ _ _ _ (fun q hq => ?_)
      rw [g3 q (by omega), Int.zero_add]
    refine go_r rfl rfl rfl rfl rfl rfl ⟨I 7, _, _, rfl, rfl, MST_add S2 rfl ho hq (Or.inr (Or.inl ⟨rfl, h1.2.2.1, (show I 10 < I 10 + 1 by omega), fun k k0 k1 lk => ?_⟩)), h1.1, (show I 7 < I 7 + 1 by omega), ?_, Or.inr ⟨rfl, rfl, g, rfl, g1, fun q hq2 => g3 q (by omega), hno⟩⟩
    · have q := (hS.2.1 k k0 k1).1
      have lk : A 1 k = -2 := lk
      show A 2 k < I 10
      omega
    · exact sf_self (f := A 1) (e := I 7)
  | succ n ih =>
    intro j g j0 ej g1 g2 g3
    refine go_a (pc' := 75) (ls' := [some (.ref h.length), some (.int (iI (mand (msp (A 13) (I 17).toNat 0 5)))), some (.int (iI j))]) (st' := [.int (iI j)]) rfl rfl ?_
    refine go_a (pc' := 76) (ls' := [some (.ref h.length), some (.int (iI (mand (msp (A 13) (I 17).toNat 0 5)))), some (.int (iI j))]) (st' := [.ref h.length, .int (iI j)]) rfl rfl ?_
    refine go_get (v := .int (iI (I 17))) rfl mh_o rfl rfl ?_
    refine mi_ge (t := 108) rfl rfl (by omega) (by omega) (by omega) (by omega) (fun hb => absurd hb (by omega)) (fun hb => ?_)
    refine go_a (pc' := 83) (ls' := [some (.ref h.length), some (.int (iI (mand (msp (A 13) (I 17).toNat 0 5)))), some (.int (iI j))]) (st' := [.ref h.length]) rfl rfl ?_
    refine go_get rfl mh_o rfl rfl ?_
    refine go_a (pc' := 88) (ls' := [some (.ref h.length), some (.int (iI (mand (msp (A 13) (I 17).toNat 0 5)))), some (.int (iI j))]) (st' := [.int (iI 12), .ref (h.length + 8)]) rfl rfl ?_
    refine go_a (pc' := 89) (ls' := [some (.ref h.length), some (.int (iI (mand (msp (A 13) (I 17).toNat 0 5)))), some (.int (iI j))]) (st' := [.ref h.length, .int (iI 12), .ref (h.length + 8)]) rfl rfl ?_
    refine go_get (v := .int (iI (I 10))) rfl mh_o rfl rfl ?_
    refine mi_mul rfl ?_
    refine go_a (pc' := 94) (ls' := [some (.ref h.length), some (.int (iI (mand (msp (A 13) (I 17).toNat 0 5)))), some (.int (iI j))]) (st' := [.int (iI j), .int (iI (12 * (I 10))), .ref (h.length + 8)]) rfl rfl ?_
    refine mi_add rfl ?_
    refine go_a (pc' := 96) (ls' := [some (.ref h.length), some (.int (iI (mand (msp (A 13) (I 17).toNat 0 5)))), some (.int (iI j))]) (st' := [.ref h.length, .int (iI ((12 * (I 10)) + j)), .ref (h.length + 8)]) rfl rfl ?_
    refine go_get rfl mh_o rfl rfl ?_
    refine go_a (pc' := 100) (ls' := [some (.ref h.length), some (.int (iI (mand (msp (A 13) (I 17).toNat 0 5)))), some (.int (iI j))]) (st' := [.int (iI j), .ref (h.length + 13), .int (iI ((12 * (I 10)) + j)), .ref (h.length + 8)]) rfl rfl ?_
    refine mi_ild rfl mh_a13 (by omega) (by omega) (by decide) ?_
    refine mi_ist rfl mh_a8 (show 12 ≤ _ by omega) (by omega) (by omega) (by decide) ?_
    rw [mh_w8 (by omega), show sa (symA A (I 10) (I 17) g) 8 (12 * I 10 + j) (symA A (I 10) (I 17) g 13 j) = symA A (I 10) (I 17) (sf g (12 * I 10 + j) (A 13 j)) from sa_sw _ _ _ _ _]
    refine go_a (pc' := 105) (ls' := [some (.ref h.length), some (.int (iI (mand (msp (A 13) (I 17).toNat 0 5)))), some (.int (iI (j + 1)))]) (st' := []) rfl (by rw [← iI_add j 1]; rfl) ?_
    refine go_a (pc' := 74) (ls' := [some (.ref h.length), some (.int (iI (mand (msp (A 13) (I 17).toNat 0 5)))), some (.int (iI (j + 1)))]) (st' := []) rfl rfl ?_
    refine ih (j + 1) _ (by omega) (by omega) (fun e he => ?_) (fun e => ?_) (fun q hq => ?_)
    · rw [sf_ne (by omega)]
      exact g1 e he
    · by_cases ee : e = 12 * I 10 + j
      · rw [ee, sf_self]
        exact r13 j
      · rw [sf_ne ee]
        exact g2 e
    · by_cases ee : (q : Int) = j
      · rw [ee, sf_self]
      · rw [sf_ne (by omega)]
        exact g3 q (by omega)
theorem mx_sym_hsh {I : Nat → Int} {A : Nat → Int → Int} {N : Int → Int} {j : Int} (w0 : 0 ≤ I 17) (e1 : A 1 j = -2) (e2 : (A 9 (A 2 j) = I 17 ∧ ∀ q : Nat, (q : Int) < I 17 → A 8 (12 * (A 2 j) + q) = A 13 q)) : hsh A N j = mand (msp (A 13) (I 17).toNat 0 5) := by
  unfold hsh
  rw [if_neg (by omega), if_pos e1, e2.1]
  congr 1
  refine msp_congr _ _ _ _ (fun q hq => ?_)
  rw [Int.zero_add]
  exact e2.2 q (by omega)
theorem mx_sym_loop (z : Value) (d : Nat) (h R : xx_H) (I : Nat → Int) (A : Nat → Int → Int) (N : Int → Int) (hc : 12 ≤ h.length) (hS : MST I A N) (ho : I 7 < 140000) (hs : I 10 < 4990) (w0 : 0 ≤ I 17) (w1 : I 17 ≤ 11) (r13 : ∀ e : Int, 0 ≤ A 13 e ∧ A 13 e ≤ 255) : ∀ (f : Nat) (k : Int), (k + 1).toNat ≤ f → -1 ≤ k → k < I 7 → (0 ≤ k → hsh A N k = mand (msp (A 13) (I 17).toNat 0 5)) → (∀ j : Int, k < j → 0 ≤ j → j < I 7 → A 1 j = -2 → ¬ (A 9 (A 2 j) = I 17 ∧ ∀ q : Nat, (q : Int) < I 17 → A 8 (12 * (A 2 j) + q) = A 13 q)) → xx_go (xt_P z) (d + 1) 62 18 [some (.ref h.length), some (.int (iI (mand (msp (A 13) (I 17).toNat 0 5)))), some (.int (iI k))] [] (mh h R I A N) (fun v h1 => ∃ (k : Int) (I1 : Nat → Int) (A1 : Nat → Int → Int), v = some (.int (iI k)) ∧ h1 = mh h R I1 A1 N ∧ MST I1 A1 N ∧ 0 ≤ k ∧ k < I1 7 ∧ A1 1 k = -2 ∧ ((I1 = I ∧ A1 = A ∧ (A 9 (A 2 k) = I 17 ∧ ∀ q : Nat, (q : Int) < I 17 → A 8 (12 * (A 2 k) + q) = A 13 q)) ∨ (k = I 7 ∧ I1 = su (su I 10 (I 10 + 1)) 7 (I 7 + 1) ∧ ∃ g : Int → Int, A1 = addA (symA A (I 10) (I 17) g) (I 7) (-2) (I 10) (mand (msp (A 13) (I 17).toNat 0 5)) ∧ (∀ e : Int, e < 12 * I 10 → g e = A 8 e) ∧ (∀ q : Nat, (q : Int) < I 17 → g (12 * I 10 + q) = A 13 q) ∧ ∀ j : Int, 0 ≤ j → j < I 7 → A 1 j = -2 → ¬ (A 9 (A 2 j) = I 17 ∧ ∀ q : Nat, (q : Int) < I 17 → A 8 (12 * (A 2 j) + q) = A 13 q)))) := by
  have h1 := hS.1
  have last : (∀ j : Int, 0 ≤ j → j < I 7 → A 1 j = -2 → ¬ (A 9 (A 2 j) = I 17 ∧ ∀ q : Nat, (q : Int) < I 17 → A 8 (12 * (A 2 j) + q) = A 13 q)) → xx_go (xt_P z) (d + 1) 62 18 [some (.ref h.length), some (.int (iI (mand (msp (A 13) (I 17).toNat 0 5)))), some (.int (iI (-1)))] [] (mh h R I A N) (fun v h1 => ∃ (k : Int) (I1 : Nat → Int) (A1 : Nat → Int → Int), v = some (.int (iI k)) ∧ h1 = mh h R I1 A1 N ∧ MST I1 A1 N ∧ 0 ≤ k ∧ k < I1 7 ∧ A1 1 k = -2 ∧ ((I1 = I ∧ A1 = A ∧ (A 9 (A 2 k) = I 17 ∧ ∀ q : Nat, (q : Int) < I 17 → A 8 (12 * (A 2 k) + q) = A 13 q)) ∨ (k = I 7 ∧ I1 = su (su I 10 (I 10 + 1)) 7 (I 7 + 1) ∧ ∃ g : Int → Int, A1 = addA (symA A (I 10) (I 17) g) (I 7) (-2) (I 10) (mand (msp (A 13) (I 17).toNat 0 5)) ∧ (∀ e : Int, e < 12 * I 10 → g e = A 8 e) ∧ (∀ q : Nat, (q : Int) < I 17 → g (12 * I 10 + q) = A 13 q) ∧ ∀ j : Int, 0 ≤ j → j < I 7 → A 1 j = -2 → ¬ (A 9 (A 2 j) = I 17 ∧ ∀ q : Nat, (q : Int) < I 17 → A 8 (12 * (A 2 j) + q) = A 13 q)))) := by
    intro hno
    refine go_a (pc' := 19) (ls' := [some (.ref h.length), some (.int (iI (mand (msp (A 13) (I 17).toNat 0 5)))), some (.int (iI ((-1))))]) (st' := [.int (iI ((-1)))]) rfl rfl ?_
    refine go_a (pc' := 20) (ls' := [some (.ref h.length), some (.int (iI (mand (msp (A 13) (I 17).toNat 0 5)))), some (.int (iI ((-1))))]) (st' := [.int (iI ((-1))), .int (iI ((-1)))]) rfl rfl ?_
    refine mi_eq (t := 59) rfl rfl (by omega) (by omega) (by omega) (by omega) (fun hb => ?_) (fun hb => absurd rfl hb)
    refine go_a (pc' := 60) (ls' := [some (.ref h.length), some (.int (iI (mand (msp (A 13) (I 17).toNat 0 5)))), some (.int (iI ((-1))))]) (st' := [.ref h.length]) rfl rfl ?_
    refine go_get rfl mh_o rfl rfl ?_
    refine go_a (pc' := 64) (ls' := [some (.ref h.length), some (.int (iI (mand (msp (A 13) (I 17).toNat 0 5)))), some (.int (iI ((-1))))]) (st' := [.ref h.length, .ref (h.length + 9)]) rfl rfl ?_
    refine go_get (v := .int (iI (I 10))) rfl mh_o rfl rfl ?_
    refine go_a (pc' := 68) (ls' := [some (.ref h.length), some (.int (iI (mand (msp (A 13) (I 17).toNat 0 5)))), some (.int (iI ((-1))))]) (st' := [.ref h.length, .int (iI (I 10)), .ref (h.length + 9)]) rfl rfl ?_
    refine go_get (v := .int (iI (I 17))) rfl mh_o rfl rfl ?_
    refine mi_ist rfl mh_a9 (show 12 ≤ _ by omega) (by omega) (by omega) (by decide) ?_
    rw [mh_w9 (by omega)]
    refine go_a (pc' := 73) (ls' := [some (.ref h.length), some (.int (iI (mand (msp (A 13) (I 17).toNat 0 5)))), some (.int (iI ((-1))))]) (st' := [.int (iI 0)]) rfl rfl ?_
    refine go_a (pc' := 74) (ls' := [some (.ref h.length), some (.int (iI (mand (msp (A 13) (I 17).toNat 0 5)))), some (.int (iI 0))]) (st' := []) rfl rfl ?_
    have key := mx_sym_names z d h R I A N hc hS ho hs w0 w1 r13 hno (I 17).toNat 0 (A 8) (by omega) (by omega) (fun _ _ => rfl) hS.2.2.2.2.1.2.1 (fun q hq => absurd hq (by omega))
    rw [show symA A (I 10) (I 17) (A 8) = sa A 9 (I 10) (I 17) from sw_self (sa A 9 (I 10) (I 17)) 8] at key
    exact key
  intro f
  induction f with
  | zero =>
    intro k hf k0 k1 hh hp
    have e : k = -1 := by omega
    subst e
    exact last (fun j j0 j1 => hp j (by omega) j0 j1)
  | succ f ih =>
    intro k hf k0 k1 hh hp
    by_cases e : k = -1
    · subst e
      exact last (fun j j0 j1 => hp j (by omega) j0 j1)
    have kk : 0 ≤ k := by omega
    have q := hS.2.1 k kk k1
    have qp := (MST_PW hS).2 k kk k1
    have nx : ¬ (A 1 k = -2 ∧ (A 9 (A 2 k) = I 17 ∧ ∀ q : Nat, (q : Int) < I 17 → A 8 (12 * (A 2 k) + q) = A 13 q)) → xx_go (xt_P z) (d + 1) 62 49 [some (.ref h.length), some (.int (iI (mand (msp (A 13) (I 17).toNat 0 5)))), some (.int (iI k))] [] (mh h R I A N) (fun v h1 => ∃ (k : Int) (I1 : Nat → Int) (A1 : Nat → Int → Int), v = some (.int (iI k)) ∧ h1 = mh h R I1 A1 N ∧ MST I1 A1 N ∧ 0 ≤ k ∧ k < I1 7 ∧ A1 1 k = -2 ∧ ((I1 = I ∧ A1 = A ∧ (A 9 (A 2 k) = I 17 ∧ ∀ q : Nat, (q : Int) < I 17 → A 8 (12 * (A 2 k) + q) = A 13 q)) ∨ (k = I 7 ∧ I1 = su (su I 10 (I 10 + 1)) 7 (I 7 + 1) ∧ ∃ g : Int → Int, A1 = addA (symA A (I 10) (I 17) g) (I 7) (-2) (I 10) (mand (msp (A 13) (I 17).toNat 0 5)) ∧ (∀ e : Int, e < 12 * I 10 → g e = A 8 e) ∧ (∀ q : Nat, (q : Int) < I 17 → g (12 * I 10 + q) = A 13 q) ∧ ∀ j : Int, 0 ≤ j → j < I 7 → A 1 j = -2 → ¬ (A 9 (A 2 j) = I 17 ∧ ∀ q : Nat, (q : Int) < I 17 → A 8 (12 * (A 2 j) + q) = A 13 q)))) := by
      intro hne
      have q3 := q.2.1
      refine go_a (pc' := 50) (ls' := [some (.ref h.length), some (.int (iI (mand (msp (A 13) (I 17).toNat 0 5)))), some (.int (iI k))]) (st' := [.ref h.length]) rfl rfl ?_
      refine go_get rfl mh_o rfl rfl ?_
      refine go_a (pc' := 54) (ls' := [some (.ref h.length), some (.int (iI (mand (msp (A 13) (I 17).toNat 0 5)))), some (.int (iI k))]) (st' := [.int (iI k), .ref (h.length + 3)]) rfl rfl ?_
      refine mi_ild rfl mh_a3 (by omega) (by omega) (by decide) ?_
      refine go_a (pc' := 56) (ls' := [some (.ref h.length), some (.int (iI (mand (msp (A 13) (I 17).toNat 0 5)))), some (.int (iI (A 3 k)))]) (st' := []) rfl rfl ?_
      refine go_a (pc' := 18) (ls' := [some (.ref h.length), some (.int (iI (mand (msp (A 13) (I 17).toNat 0 5)))), some (.int (iI (A 3 k)))]) (st' := []) rfl rfl ?_
      refine ih (A 3 k) (by omega) q3.1 (by omega) (fun hp2 => (q3.2.2 hp2).trans (hh kk)) (fun j j1 j0 j2 lj hj => ?_)
      by_cases ej : j = k
      · subst ej
        exact hne ⟨lj, hj⟩
      · by_cases ej2 : k < j
        · exact hp j ej2 j0 j2 lj hj
        · have q4 := hS.2.2.2.1.1 j k j0 (by omega) k1 ((mx_sym_hsh w0 lj hj).trans (hh kk).symm)
          omega
    refine go_a (pc' := 19) (ls' := [some (.ref h.length), some (.int (iI (mand (msp (A 13) (I 17).toNat 0 5)))), some (.int (iI k))]) (st' := [.int (iI k)]) rfl rfl ?_
    refine go_a (pc' := 20) (ls' := [some (.ref h.length), some (.int (iI (mand (msp (A 13) (I 17).toNat 0 5)))), some (.int (iI k))]) (st' := [.int (iI ((-1))), .int (iI k)]) rfl rfl ?_
    refine mi_eq (t := 59) rfl rfl (by omega) (by omega) (by omega) (by omega) (fun hb => absurd hb e) (fun hb => ?_)
    refine go_a (pc' := 24) (ls' := [some (.ref h.length), some (.int (iI (mand (msp (A 13) (I 17).toNat 0 5)))), some (.int (iI k))]) (st' := [.ref h.length]) rfl rfl ?_
    refine go_get rfl mh_o rfl rfl ?_
    refine go_a (pc' := 28) (ls' := [some (.ref h.length), some (.int (iI (mand (msp (A 13) (I 17).toNat 0 5)))), some (.int (iI k))]) (st' := [.int (iI k), .ref (h.length + 1)]) rfl rfl ?_
    refine mi_ild rfl mh_a1 (by omega) (by omega) (by decide) ?_
    refine go_a (pc' := 31) (ls' := [some (.ref h.length), some (.int (iI (mand (msp (A 13) (I 17).toNat 0 5)))), some (.int (iI k))]) (st' := [.int (iI ((-2))), .int (iI (A 1 k))]) rfl rfl ?_
    refine mi_ne (t := 49) rfl rfl (by omega) (by omega) (by omega) (by omega) (fun hb => nx (fun q2 => hb q2.1)) (fun hb => ?_)
    refine go_a (pc' := 35) (ls' := [some (.ref h.length), some (.int (iI (mand (msp (A 13) (I 17).toNat 0 5)))), some (.int (iI k))]) (st' := [.ref h.length]) rfl rfl ?_
    refine go_a (pc' := 36) (ls' := [some (.ref h.length), some (.int (iI (mand (msp (A 13) (I 17).toNat 0 5)))), some (.int (iI k))]) (st' := [.ref h.length, .ref h.length]) rfl rfl ?_
    refine go_get rfl mh_o rfl rfl ?_
    refine go_a (pc' := 40) (ls' := [some (.ref h.length), some (.int (iI (mand (msp (A 13) (I 17).toNat 0 5)))), some (.int (iI k))]) (st' := [.int (iI k), .ref (h.length + 2), .ref h.length]) rfl rfl ?_
    refine mi_ild rfl mh_a2 (by omega) (by omega) (by decide) ?_
    have q2 : 0 ≤ A 2 k ∧ A 2 k < I 10 := by
      have q5 := q.1
      omega
    have q6 := hS.2.2.2.2.1
    refine go_v (m := 64) (as := [.ref h.length, .int (iI (A 2 k))]) (r := []) rfl rfl rfl mh_o rfl rfl (mx_isWord z d (A 2 k) h R I A N hc q2.1 (by omega) w0 (by omega) q6.2.1 r13 (q6.1 _ q2.1 q2.2)) (fun v h1 hq => ?_)
    obtain ⟨⟨b, hb01, rfl, hb9⟩, rfl⟩ := hq
    show xx_go (xt_P z) (d + 1) 62 44 [some (.ref h.length), some (.int (iI (mand (msp (A 13) (I 17).toNat 0 5)))), some (.int (iI k))] [.int (iI b)] (mh h R I A N) _
    refine mi_eq0 (t := 49) rfl rfl (by omega) (by omega) (fun hb2 => nx (fun q2 => absurd (hb9.mpr q2.2) (by omega))) (fun hb2 => ?_)
    refine go_a (pc' := 48) (ls' := [some (.ref h.length), some (.int (iI (mand (msp (A 13) (I 17).toNat 0 5)))), some (.int (iI k))]) (st' := [.int (iI k)]) rfl rfl ?_
    exact go_r rfl rfl rfl rfl rfl rfl ⟨k, I, A, rfl, rfl, hS, kk, k1, by omega, Or.inl ⟨rfl, rfl, hb9.mp (by omega)⟩⟩
theorem mx_symbol (z : Value) (d : Nat) (h R : xx_H) (I : Nat → Int) (A : Nat → Int → Int) (N : Int → Int) (hc : 12 ≤ h.length) (hS : MST I A N) (ho : I 7 < 140000) (hs : I 10 < 4990) (w0 : 0 ≤ I 17) (w1 : I 17 ≤ 11) (r13 : ∀ e : Int, 0 ≤ A 13 e ∧ A 13 e ≤ 255) : xx_cl (xt_P z) (d + 2) 62 [.ref h.length] (mh h R I A N) (fun v h1 => ∃ (k : Int) (I1 : Nat → Int) (A1 : Nat → Int → Int), v = some (.int (iI k)) ∧ h1 = mh h R I1 A1 N ∧ MST I1 A1 N ∧ 0 ≤ k ∧ k < I1 7 ∧ A1 1 k = -2 ∧ ((I1 = I ∧ A1 = A ∧ (A 9 (A 2 k) = I 17 ∧ ∀ q : Nat, (q : Int) < I 17 → A 8 (12 * (A 2 k) + q) = A 13 q)) ∨ (k = I 7 ∧ I1 = su (su I 10 (I 10 + 1)) 7 (I 7 + 1) ∧ ∃ g : Int → Int, A1 = addA (symA A (I 10) (I 17) g) (I 7) (-2) (I 10) (mand (msp (A 13) (I 17).toNat 0 5)) ∧ (∀ e : Int, e < 12 * I 10 → g e = A 8 e) ∧ (∀ q : Nat, (q : Int) < I 17 → g (12 * I 10 + q) = A 13 q) ∧ ∀ j : Int, 0 ≤ j → j < I 7 → A 1 j = -2 → ¬ (A 9 (A 2 j) = I 17 ∧ ∀ q : Nat, (q : Int) < I 17 → A 8 (12 * (A 2 j) + q) = A 13 q)))) := by
  have qr : 0 ≤ mand (msp (A 13) (I 17).toNat 0 5) ∧ mand (msp (A 13) (I 17).toNat 0 5) < 8192 := and_rng _
  have c := hS.2.2.1 _ qr.1 qr.2
  refine cl_go rfl ?_
  show xx_go (xt_P z) (d + 1) 62 0 [some (.ref h.length), none, none] [] (mh h R I A N) _
  refine go_a (pc' := 1) (ls' := [some (.ref h.length), none, none]) (st' := [.ref h.length]) rfl rfl ?_
  refine go_a (pc' := 2) (ls' := [some (.ref h.length), none, none]) (st' := [.int (iI 0), .ref h.length]) rfl rfl ?_
  refine go_a (pc' := 3) (ls' := [some (.ref h.length), none, none]) (st' := [.ref h.length, .int (iI 0), .ref h.length]) rfl rfl ?_
  refine go_get (v := .int (iI (I 17))) rfl mh_o rfl rfl ?_
  refine go_a (pc' := 7) (ls' := [some (.ref h.length), none, none]) (st' := [.int (iI 1), .int (iI (I 17)), .int (iI 0), .ref h.length]) rfl rfl ?_
  rw [show iI (I 17) = iI ((I 17).toNat : Int) by rw [Int.toNat_of_nonneg w0]]
  refine go_v (m := 63) (as := [.ref h.length, .int (iI 0), .int (iI (((I 17).toNat : Int))), .int (iI 1)]) (r := []) rfl rfl rfl mh_o rfl rfl (mm_spelledW z d (I 17).toNat 0 h R I A N hc (by omega)) (fun v h1 hq => ?_)
  obtain ⟨rfl, rfl⟩ := hq
  show xx_go (xt_P z) (d + 1) 62 10 [some (.ref h.length), none, none] [.int (iI (mand (msp (A 13) (I 17).toNat 0 5)))] (mh h R I A N) _
  refine go_a (pc' := 11) (ls' := [some (.ref h.length), some (.int (iI (mand (msp (A 13) (I 17).toNat 0 5)))), none]) (st' := []) rfl rfl ?_
  refine go_a (pc' := 12) (ls' := [some (.ref h.length), some (.int (iI (mand (msp (A 13) (I 17).toNat 0 5)))), none]) (st' := [.ref h.length]) rfl rfl ?_
  refine go_get rfl mh_o rfl rfl ?_
  refine go_a (pc' := 16) (ls' := [some (.ref h.length), some (.int (iI (mand (msp (A 13) (I 17).toNat 0 5)))), none]) (st' := [.int (iI (mand (msp (A 13) (I 17).toNat 0 5))), .ref (h.length + 7)]) rfl rfl ?_
  refine mi_ild rfl mh_a7 (by omega) (by omega) (by decide) ?_
  refine go_a (pc' := 18) (ls' := [some (.ref h.length), some (.int (iI (mand (msp (A 13) (I 17).toNat 0 5)))), some (.int (iI (A 7 (mand (msp (A 13) (I 17).toNat 0 5)))))]) (st' := []) rfl rfl ?_
  refine mx_sym_loop z d h R I A N hc hS ho hs w0 w1 r13 (A 7 (mand (msp (A 13) (I 17).toNat 0 5)) + 1).toNat (A 7 (mand (msp (A 13) (I 17).toNat 0 5))) (Nat.le_refl _) c.1 c.2.1 c.2.2 (fun j j1 j0 j2 lj hj => ?_)
  have e2 := hS.2.2.2.1.2 j j0 j2
  rw [mx_sym_hsh w0 lj hj] at e2
  omega
theorem mx_nat_loop (z : Value) (d : Nat) (v : Int) (h R : xx_H) (I : Nat → Int) (A : Nat → Int → Int) (N : Int → Int) (hc : 12 ≤ h.length) (hS : MST I A N) (ho : I 7 < 140000) (v0 : 0 ≤ v) (v1 : v < 4611686018427387904) : ∀ (f : Nat) (k : Int), (k + 1).toNat ≤ f → -1 ≤ k → k < I 7 → (0 ≤ k → hsh A N k = msl (nlo v) (nhi v)) → (∀ j : Int, k < j → 0 ≤ j → j < I 7 → ¬ (A 1 j = -1 ∧ N j = v)) → xx_go (xt_P z) (d + 1) 93 19 [some (.ref h.length), some (.long (Int64.ofInt v)), none, some (.int (iI (msl (nlo v) (nhi v)))), some (.int (iI k))] [] (mh h R I A N) (fun w h1 => ∃ (k : Int) (I1 : Nat → Int) (A1 : Nat → Int → Int) (N1 : Int → Int), w = some (.int (iI k)) ∧ h1 = mh h R I1 A1 N1 ∧ MST I1 A1 N1 ∧ 0 ≤ k ∧ k < I1 7 ∧ A1 1 k = -1 ∧ N1 k = v ∧ ((I1 = I ∧ A1 = A ∧ N1 = N) ∨ (k = I 7 ∧ I1 = su I 7 (I 7 + 1) ∧ A1 = addA A (I 7) (-1) 0 (msl (nlo v) (nhi v)) ∧ N1 = sf N (I 7) v ∧ ∀ j : Int, 0 ≤ j → j < I 7 → ¬ (A 1 j = -1 ∧ N j = v)))) := by
  have h1 := hS.1
  have sr := msl_rng (nlo v) (nhi v)
  have keyh : ∀ j : Int, A 1 j = -1 → N j = v → hsh A N j = msl (nlo v) (nhi v) := fun j e1 e2 => by
    unfold hsh
    rw [if_pos e1, e2]
  have last : (∀ j : Int, 0 ≤ j → j < I 7 → ¬ (A 1 j = -1 ∧ N j = v)) → xx_go (xt_P z) (d + 1) 93 19 [some (.ref h.length), some (.long (Int64.ofInt v)), none, some (.int (iI (msl (nlo v) (nhi v)))), some (.int (iI (-1)))] [] (mh h R I A N) (fun w h1 => ∃ (k : Int) (I1 : Nat → Int) (A1 : Nat → Int → Int) (N1 : Int → Int), w = some (.int (iI k)) ∧ h1 = mh h R I1 A1 N1 ∧ MST I1 A1 N1 ∧ 0 ≤ k ∧ k < I1 7 ∧ A1 1 k = -1 ∧ N1 k = v ∧ ((I1 = I ∧ A1 = A ∧ N1 = N) ∨ (k = I 7 ∧ I1 = su I 7 (I 7 + 1) ∧ A1 = addA A (I 7) (-1) 0 (msl (nlo v) (nhi v)) ∧ N1 = sf N (I 7) v ∧ ∀ j : Int, 0 ≤ j → j < I 7 → ¬ (A 1 j = -1 ∧ N j = v)))) := by
    intro hno
    refine go_a (pc' := 21) (ls' := [some (.ref h.length), some (.long (Int64.ofInt v)), none, some (.int (iI (msl (nlo v) (nhi v)))), some (.int (iI ((-1))))]) (st' := [.int (iI ((-1)))]) rfl rfl ?_
    refine go_a (pc' := 22) (ls' := [some (.ref h.length), some (.long (Int64.ofInt v)), none, some (.int (iI (msl (nlo v) (nhi v)))), some (.int (iI ((-1))))]) (st' := [.int (iI ((-1))), .int (iI ((-1)))]) rfl rfl ?_
    refine mi_eq (t := 63) rfl rfl (by omega) (by omega) (by omega) (by omega) (fun hb => ?_) (fun hb => absurd rfl hb)
    refine go_a (pc' := 64) (ls' := [some (.ref h.length), some (.long (Int64.ofInt v)), none, some (.int (iI (msl (nlo v) (nhi v)))), some (.int (iI ((-1))))]) (st' := [.ref h.length]) rfl rfl ?_
    refine go_get rfl mh_o rfl rfl ?_
    refine go_a (pc' := 68) (ls' := [some (.ref h.length), some (.long (Int64.ofInt v)), none, some (.int (iI (msl (nlo v) (nhi v)))), some (.int (iI ((-1))))]) (st' := [.ref h.length, .ref (h.length + 6)]) rfl rfl ?_
    refine go_get (v := .int (iI (I 7))) rfl mh_o rfl rfl ?_
    refine go_a (pc' := 72) (ls' := [some (.ref h.length), some (.long (Int64.ofInt v)), none, some (.int (iI (msl (nlo v) (nhi v)))), some (.int (iI ((-1))))]) (st' := [.long (Int64.ofInt v), .int (iI (I 7)), .ref (h.length + 6)]) rfl rfl ?_
    refine mi_lst rfl mh_a6 (show 12 ≤ _ by omega) (by omega) (by omega) (by decide) ?_
    rw [mh_w6 (by omega)]
    refine go_a (pc' := 74) (ls' := [some (.ref h.length), some (.long (Int64.ofInt v)), none, some (.int (iI (msl (nlo v) (nhi v)))), some (.int (iI ((-1))))]) (st' := [.ref h.length]) rfl rfl ?_
    refine go_a (pc' := 75) (ls' := [some (.ref h.length), some (.long (Int64.ofInt v)), none, some (.int (iI (msl (nlo v) (nhi v)))), some (.int (iI ((-1))))]) (st' := [.int (iI ((-1))), .ref h.length]) rfl rfl ?_
    refine go_a (pc' := 76) (ls' := [some (.ref h.length), some (.long (Int64.ofInt v)), none, some (.int (iI (msl (nlo v) (nhi v)))), some (.int (iI ((-1))))]) (st' := [.int (iI 0), .int (iI ((-1))), .ref h.length]) rfl rfl ?_
    refine go_a (pc' := 77) (ls' := [some (.ref h.length), some (.long (Int64.ofInt v)), none, some (.int (iI (msl (nlo v) (nhi v)))), some (.int (iI ((-1))))]) (st' := [.int (iI (msl (nlo v) (nhi v))), .int (iI 0), .int (iI ((-1))), .ref h.length]) rfl rfl ?_
    refine go_v (m := 65) (as := [.ref h.length, .int (iI ((-1))), .int (iI 0), .int (iI (msl (nlo v) (nhi v)))]) (r := []) rfl rfl rfl mh_o rfl rfl (mm_added z d (-1) 0 (msl (nlo v) (nhi v)) h R I A (sf N (I 7) v) hc h1.1 ho sr.1 sr.2 (by decide) (by decide) (by decide) (by decide) (fun q => absurd q (by decide))) (fun v h1 hq => ?_)
    obtain ⟨rfl, rfl⟩ := hq
    have hq : hsh (addA A (I 7) (-1) 0 (msl (nlo v) (nhi v))) (sf N (I 7) v) (I 7) = msl (nlo v) (nhi v) := by
      unfold hsh
      rw [addA_1, sf_self, sf_self, if_pos rfl]
    refine go_r rfl rfl rfl rfl rfl rfl ⟨I 7, _, _, _, rfl, rfl, MST_add (MST_N hS v0 v1) rfl ho hq (Or.inl ⟨rfl, rfl, fun j j0 j1 hj => hno j j0 j1 ⟨hj.1, by have h9 := hj.2; rw [sf_self, sf_ne (by omega)] at h9; exact h9⟩⟩), h1.1, (show I 7 < I 7 + 1 by omega), sf_self, sf_self, Or.inr ⟨rfl, rfl, rfl, rfl, hno⟩⟩
  intro f
  induction f with
  | zero =>
    intro k hf k0 k1 hh hp
    have e : k = -1 := by omega
    subst e
    exact last (fun j j0 j1 => hp j (by omega) j0 j1)
  | succ f ih =>
    intro k hf k0 k1 hh hp
    by_cases e : k = -1
    · subst e
      exact last (fun j j0 j1 => hp j (by omega) j0 j1)
    have kk : 0 ≤ k := by omega
    have q := hS.2.1 k kk k1
    have qp := (MST_PW hS).2 k kk k1
    have nx : ¬ (A 1 k = -1 ∧ N k = v) → xx_go (xt_P z) (d + 1) 93 51 [some (.ref h.length), some (.long (Int64.ofInt v)), none, some (.int (iI (msl (nlo v) (nhi v)))), some (.int (iI k))] [] (mh h R I A N) (fun w h1 => ∃ (k : Int) (I1 : Nat → Int) (A1 : Nat → Int → Int) (N1 : Int → Int), w = some (.int (iI k)) ∧ h1 = mh h R I1 A1 N1 ∧ MST I1 A1 N1 ∧ 0 ≤ k ∧ k < I1 7 ∧ A1 1 k = -1 ∧ N1 k = v ∧ ((I1 = I ∧ A1 = A ∧ N1 = N) ∨ (k = I 7 ∧ I1 = su I 7 (I 7 + 1) ∧ A1 = addA A (I 7) (-1) 0 (msl (nlo v) (nhi v)) ∧ N1 = sf N (I 7) v ∧ ∀ j : Int, 0 ≤ j → j < I 7 → ¬ (A 1 j = -1 ∧ N j = v)))) := by
      intro hne
      have q3 := q.2.1
      refine go_a (pc' := 52) (ls' := [some (.ref h.length), some (.long (Int64.ofInt v)), none, some (.int (iI (msl (nlo v) (nhi v)))), some (.int (iI k))]) (st' := [.ref h.length]) rfl rfl ?_
      refine go_get rfl mh_o rfl rfl ?_
      refine go_a (pc' := 57) (ls' := [some (.ref h.length), some (.long (Int64.ofInt v)), none, some (.int (iI (msl (nlo v) (nhi v)))), some (.int (iI k))]) (st' := [.int (iI k), .ref (h.length + 3)]) rfl rfl ?_
      refine mi_ild rfl mh_a3 (by omega) (by omega) (by decide) ?_
      refine go_a (pc' := 60) (ls' := [some (.ref h.length), some (.long (Int64.ofInt v)), none, some (.int (iI (msl (nlo v) (nhi v)))), some (.int (iI (A 3 k)))]) (st' := []) rfl rfl ?_
      refine go_a (pc' := 19) (ls' := [some (.ref h.length), some (.long (Int64.ofInt v)), none, some (.int (iI (msl (nlo v) (nhi v)))), some (.int (iI (A 3 k)))]) (st' := []) rfl rfl ?_
      refine ih (A 3 k) (by omega) q3.1 (by omega) (fun hp2 => (q3.2.2 hp2).trans (hh kk)) (fun j j1 j0 j2 hj => ?_)
      by_cases ej : j = k
      · subst ej
        exact hne hj
      · by_cases ej2 : k < j
        · exact hp j ej2 j0 j2 hj
        · have q4 := hS.2.2.2.1.1 j k j0 (by omega) k1 ((keyh j hj.1 hj.2).trans (hh kk).symm)
          omega
    refine go_a (pc' := 21) (ls' := [some (.ref h.length), some (.long (Int64.ofInt v)), none, some (.int (iI (msl (nlo v) (nhi v)))), some (.int (iI k))]) (st' := [.int (iI k)]) rfl rfl ?_
    refine go_a (pc' := 22) (ls' := [some (.ref h.length), some (.long (Int64.ofInt v)), none, some (.int (iI (msl (nlo v) (nhi v)))), some (.int (iI k))]) (st' := [.int (iI ((-1))), .int (iI k)]) rfl rfl ?_
    refine mi_eq (t := 63) rfl rfl (by omega) (by omega) (by omega) (by omega) (fun hb => absurd hb e) (fun hb => ?_)
    refine go_a (pc' := 26) (ls' := [some (.ref h.length), some (.long (Int64.ofInt v)), none, some (.int (iI (msl (nlo v) (nhi v)))), some (.int (iI k))]) (st' := [.ref h.length]) rfl rfl ?_
    refine go_get rfl mh_o rfl rfl ?_
    refine go_a (pc' := 31) (ls' := [some (.ref h.length), some (.long (Int64.ofInt v)), none, some (.int (iI (msl (nlo v) (nhi v)))), some (.int (iI k))]) (st' := [.int (iI k), .ref (h.length + 1)]) rfl rfl ?_
    refine mi_ild rfl mh_a1 (by omega) (by omega) (by decide) ?_
    refine go_a (pc' := 33) (ls' := [some (.ref h.length), some (.long (Int64.ofInt v)), none, some (.int (iI (msl (nlo v) (nhi v)))), some (.int (iI k))]) (st' := [.int (iI ((-1))), .int (iI (A 1 k))]) rfl rfl ?_
    refine mi_ne (t := 51) rfl rfl (by omega) (by omega) (by omega) (by omega) (fun hb => nx (fun q2 => hb q2.1)) (fun hb => ?_)
    refine go_a (pc' := 37) (ls' := [some (.ref h.length), some (.long (Int64.ofInt v)), none, some (.int (iI (msl (nlo v) (nhi v)))), some (.int (iI k))]) (st' := [.ref h.length]) rfl rfl ?_
    refine go_get rfl mh_o rfl rfl ?_
    refine go_a (pc' := 42) (ls' := [some (.ref h.length), some (.long (Int64.ofInt v)), none, some (.int (iI (msl (nlo v) (nhi v)))), some (.int (iI k))]) (st' := [.int (iI k), .ref (h.length + 6)]) rfl rfl ?_
    refine mi_lld rfl mh_a6 (by omega) (by omega) (by decide) ?_
    refine go_a (pc' := 44) (ls' := [some (.ref h.length), some (.long (Int64.ofInt v)), none, some (.int (iI (msl (nlo v) (nhi v)))), some (.int (iI k))]) (st' := [.long (Int64.ofInt v), .long (Int64.ofInt (N k))]) rfl rfl ?_
    refine go_a (pc' := 45) (ls' := [some (.ref h.length), some (.long (Int64.ofInt v)), none, some (.int (iI (msl (nlo v) (nhi v)))), some (.int (iI k))]) (st' := [.int (lg_cmp (Int64.ofInt (N k)) (Int64.ofInt v))]) rfl rfl ?_
    refine go_if (t := 51) (off := 6) (b := decide (¬ lg_cmp (Int64.ofInt (N k)) (Int64.ofInt v) = 0)) (r := []) rfl rfl rfl (fun hb2 => nx (fun q2 => ?_)) (fun hb2 => ?_)
    · exact of_decide_eq_true hb2 ((lg_cmp_eq _ _).mpr (by rw [q2.2]))
    have e2 : lg_cmp (Int64.ofInt (N k)) (Int64.ofInt v) = 0 := Decidable.not_not.mp (of_decide_eq_false hb2)
    have r := hS.2.2.2.2.1.2.2 k
    have e3 := i64_inj r.1 r.2 v0 v1 ((lg_cmp_eq _ _).mp e2)
    refine go_a (pc' := 50) (ls' := [some (.ref h.length), some (.long (Int64.ofInt v)), none, some (.int (iI (msl (nlo v) (nhi v)))), some (.int (iI k))]) (st' := [.int (iI k)]) rfl rfl ?_
    exact go_r rfl rfl rfl rfl rfl rfl ⟨k, I, A, N, rfl, rfl, hS, kk, k1, by omega, e3, Or.inl ⟨rfl, rfl, rfl⟩⟩
theorem mx_natural (z : Value) (d : Nat) (v : Int) (h R : xx_H) (I : Nat → Int) (A : Nat → Int → Int) (N : Int → Int) (hc : 12 ≤ h.length) (hS : MST I A N) (ho : I 7 < 140000) (v0 : 0 ≤ v) (v1 : v < 4611686018427387904) : xx_cl (xt_P z) (d + 2) 93 [.ref h.length, .long (Int64.ofInt v)] (mh h R I A N) (fun w h1 => ∃ (k : Int) (I1 : Nat → Int) (A1 : Nat → Int → Int) (N1 : Int → Int), w = some (.int (iI k)) ∧ h1 = mh h R I1 A1 N1 ∧ MST I1 A1 N1 ∧ 0 ≤ k ∧ k < I1 7 ∧ A1 1 k = -1 ∧ N1 k = v ∧ ((I1 = I ∧ A1 = A ∧ N1 = N) ∨ (k = I 7 ∧ I1 = su I 7 (I 7 + 1) ∧ A1 = addA A (I 7) (-1) 0 (msl (nlo v) (nhi v)) ∧ N1 = sf N (I 7) v ∧ ∀ j : Int, 0 ≤ j → j < I 7 → ¬ (A 1 j = -1 ∧ N j = v)))) := by
  have sr := msl_rng (nlo v) (nhi v)
  have c := hS.2.2.1 _ sr.1 sr.2
  refine cl_go rfl ?_
  show xx_go (xt_P z) (d + 1) 93 0 [some (.ref h.length), some (.long (Int64.ofInt v)), none, none, none] [] (mh h R I A N) _
  refine go_a (pc' := 1) (ls' := [some (.ref h.length), some (.long (Int64.ofInt v)), none, none, none]) (st' := [.long (Int64.ofInt v)]) rfl rfl ?_
  refine go_a (pc' := 2) (ls' := [some (.ref h.length), some (.long (Int64.ofInt v)), none, none, none]) (st' := [.int (iI (nlo v))]) rfl (by rw [show iI (nlo v) = _ from (iI_of _).symm]; rfl) ?_
  refine go_a (pc' := 3) (ls' := [some (.ref h.length), some (.long (Int64.ofInt v)), none, none, none]) (st' := [.long (Int64.ofInt v), .int (iI (nlo v))]) rfl rfl ?_
  refine go_a (pc' := 5) (ls' := [some (.ref h.length), some (.long (Int64.ofInt v)), none, none, none]) (st' := [.int (iI 32), .long (Int64.ofInt v), .int (iI (nlo v))]) rfl rfl ?_
  refine go_a (pc' := 6) (ls' := [some (.ref h.length), some (.long (Int64.ofInt v)), none, none, none]) (st' := [.long (Int64.ofInt v >>> ((iI 32).toInt64 &&& 63)), .int (iI (nlo v))]) rfl rfl ?_
  refine go_a (pc' := 7) (ls' := [some (.ref h.length), some (.long (Int64.ofInt v)), none, none, none]) (st' := [.int (iI (nhi v)), .int (iI (nlo v))]) rfl (by rw [show iI (nhi v) = _ from (iI_of _).symm]; rfl) ?_
  refine go_s (m := 86) (as := [.int (iI (nlo v)), .int (iI (nhi v))]) (r := []) rfl rfl rfl rfl (mm_slot z d (nlo v) (nhi v) _) (fun v h1 hq => ?_)
  obtain ⟨rfl, rfl⟩ := hq
  show xx_go (xt_P z) (d + 1) 93 10 [some (.ref h.length), some (.long (Int64.ofInt v)), none, none, none] [.int (iI (msl (nlo v) (nhi v)))] (mh h R I A N) _
  refine go_a (pc' := 11) (ls' := [some (.ref h.length), some (.long (Int64.ofInt v)), none, some (.int (iI (msl (nlo v) (nhi v)))), none]) (st' := []) rfl rfl ?_
  refine go_a (pc' := 12) (ls' := [some (.ref h.length), some (.long (Int64.ofInt v)), none, some (.int (iI (msl (nlo v) (nhi v)))), none]) (st' := [.ref h.length]) rfl rfl ?_
  refine go_get rfl mh_o rfl rfl ?_
  refine go_a (pc' := 16) (ls' := [some (.ref h.length), some (.long (Int64.ofInt v)), none, some (.int (iI (msl (nlo v) (nhi v)))), none]) (st' := [.int (iI (msl (nlo v) (nhi v))), .ref (h.length + 7)]) rfl rfl ?_
  refine mi_ild rfl mh_a7 (by omega) (by omega) (by decide) ?_
  refine go_a (pc' := 19) (ls' := [some (.ref h.length), some (.long (Int64.ofInt v)), none, some (.int (iI (msl (nlo v) (nhi v)))), some (.int (iI (A 7 (msl (nlo v) (nhi v)))))]) (st' := []) rfl rfl ?_
  refine mx_nat_loop z d v h R I A N hc hS ho v0 v1 (A 7 (msl (nlo v) (nhi v)) + 1).toNat (A 7 (msl (nlo v) (nhi v))) (Nat.le_refl _) c.1 c.2.1 c.2.2 (fun j j1 j0 j2 hj => ?_)
  have e2 := hS.2.2.2.1.2 j j0 j2
  rw [show hsh A N j = msl (nlo v) (nhi v) by unfold hsh; rw [if_pos hj.1, hj.2]] at e2
  omega
