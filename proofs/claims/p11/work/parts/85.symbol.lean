def sw (A : Nat → Int → Int) (a : Nat) (g : Int → Int) : Nat → Int → Int := fun b => match Nat.beq b a with
  | true => g
  | false => A b
theorem sa_sw (A : Nat → Int → Int) (a : Nat) (g : Int → Int) (e x : Int) : sa (sw A a g) a e x = sw A a (sf g e x) := by
  funext b
  unfold sa sw
  cases hb : Nat.beq b a with
  | true =>
    have : Nat.beq a a = true := by simp
    simp only [this]
  | false => rfl
theorem sw_self (A : Nat → Int → Int) (a : Nat) : sw A a (A a) = A := by
  funext b
  unfold sw
  cases hb : Nat.beq b a with
  | true =>
    rw [Nat.eq_of_beq_eq_true hb]
  | false => rfl
theorem msp_congr {f g : Int → Int} : ∀ (n : Nat) (e e1 acc : Int), (∀ q : Nat, q < n → f (e + q) = g (e1 + q)) → msp f n e acc = msp g n e1 acc
  | 0, _, _, _, _ => rfl
  | n + 1, e, e1, acc, h => by
    have h0 := h 0 (by omega)
    rw [show e + ((0 : Nat) : Int) = e by omega, show e1 + ((0 : Nat) : Int) = e1 by omega] at h0
    show msp f n (e + 1) (131 * acc + f e) = msp g n (e1 + 1) (131 * acc + g e1)
    rw [h0]
    refine msp_congr n (e + 1) (e1 + 1) _ (fun q hq => ?_)
    have := h (q + 1) (by omega)
    rw [show e + 1 + (q : Int) = e + ((q + 1 : Nat) : Int) by omega, show e1 + 1 + (q : Int) = e1 + ((q + 1 : Nat) : Int) by omega]
    exact this
def symA (A : Nat → Int → Int) (s w : Int) (g : Int → Int) : Nat → Int → Int := sw (sa A 9 s w) 8 g
section SYM
variable {A : Nat → Int → Int} {s w : Int} {g : Int → Int}
theorem symA_1 : symA A s w g 1 = A 1 := rfl
theorem symA_2 : symA A s w g 2 = A 2 := rfl
theorem symA_3 : symA A s w g 3 = A 3 := rfl
theorem symA_4 : symA A s w g 4 = A 4 := rfl
theorem symA_5 : symA A s w g 5 = A 5 := rfl
theorem symA_7 : symA A s w g 7 = A 7 := rfl
theorem symA_8 : symA A s w g 8 = g := rfl
theorem symA_9 : symA A s w g 9 = sf (A 9) s w := rfl
end SYM
theorem symA_h {I : Nat → Int} {A : Nat → Int → Int} {N : Int → Int} {w : Int} {g : Int → Int} (hS : MST I A N) (hg : ∀ e : Int, e < 12 * I 10 → g e = A 8 e) (k : Int) (h0 : 0 ≤ k) (h1 : k < I 7) : hsh (symA A (I 10) w g) N k = hsh A N k := by
  have q := (hS.2.1 k h0 h1).1
  unfold hsh
  rw [symA_1, symA_2, symA_8, symA_9]
  by_cases e1 : A 1 k = -1
  · rw [if_pos e1, if_pos e1]
  · rw [if_neg e1, if_neg e1]
    by_cases e2 : A 1 k = -2
    · rw [if_pos e2, if_pos e2]
      have q2 : 0 ≤ A 2 k ∧ A 2 k < I 10 := by omega
      rw [sf_ne (by omega)]
      have q3 := hS.2.2.2.2.1.1 (A 2 k) q2.1 q2.2
      congr 1
      exact msp_congr _ _ _ _ (fun q hq => hg _ (by omega))
    · rw [if_neg e2, if_neg e2]
theorem MST_sym {I : Nat → Int} {A : Nat → Int → Int} {N : Int → Int} {w : Int} {g : Int → Int} (hS : MST I A N) (hs : I 10 < 4990) (w0 : 0 ≤ w) (w1 : w ≤ 11) (hg : ∀ e : Int, e < 12 * I 10 → g e = A 8 e) (rg : ∀ e : Int, 0 ≤ g e ∧ g e ≤ 255) : MSC 1 (su I 10 (I 10 + 1)) (symA A (I 10) w g) N := by
  have hh := symA_h (w := w) hS hg
  obtain ⟨⟨a1, a2, a3, a4, a5⟩, b, c, ⟨e1, e2⟩, ⟨f1, f2, f3⟩, gg⟩ := hS
  have i7 : su I 10 (I 10 + 1) 7 = I 7 := rfl
  have i10 : su I 10 (I 10 + 1) 10 = I 10 + 1 := rfl
  refine ⟨by rw [i7, i10, symA_1]; omega, fun k h0 h1 => ?_, fun s h0 h1 => ?_, ⟨fun j k j0 jk k1 h3 => ?_, fun j j0 j1 => ?_⟩, ⟨fun s s0 s1 => ?_, rg, f3⟩, gg⟩
  · rw [i7] at h1
    have q := b k h0 h1
    unfold MOB at q ⊢
    rw [i10, symA_1, symA_2, symA_3, symA_4, symA_5, hh k h0 h1]
    refine ⟨?_, ⟨q.2.1.1, q.2.1.2.1, fun hn => ?_⟩, q.2.2⟩
    · rcases q.1 with q1 | q1 | q1
      · exact Or.inl q1
      · exact Or.inr (Or.inl ⟨q1.1, q1.2.1, by omega⟩)
      · exact Or.inr (Or.inr q1)
    · rw [hh _ hn (by omega)]
      exact q.2.1.2.2 hn
  · rw [i7, symA_7]
    have q := c s h0 h1
    refine ⟨q.1, q.2.1, fun hn => ?_⟩
    rw [hh _ hn q.2.1]
    exact q.2.2 hn
  · rw [i7] at k1
    rw [symA_3]
    rw [hh j j0 (by omega), hh k (by omega) k1] at h3
    exact e1 j k j0 jk k1 h3
  · rw [i7] at j1
    rw [symA_7, hh j j0 j1]
    exact e2 j j0 j1
  · rw [i10] at s1
    rw [symA_9]
    by_cases e : s = I 10
    · subst e
      rw [sf_self]
      omega
    · rw [sf_ne e]
      exact f1 s s0 (by omega)
theorem mm_sym_names (z : Value) (d : Nat) (h R : xx_H) (I : Nat → Int) (A : Nat → Int → Int) (N : Int → Int) (hc : 12 ≤ h.length) (hS : MST I A N) (ho : I 7 < 140000) (hs : I 10 < 4990) (w0 : 0 ≤ I 17) (w1 : I 17 ≤ 11) (r13 : ∀ e : Int, 0 ≤ A 13 e ∧ A 13 e ≤ 255) : ∀ (n : Nat) (j : Int) (g : Int → Int), 0 ≤ j → j + n = I 17 → (∀ e : Int, e < 12 * I 10 → g e = A 8 e) → (∀ e : Int, 0 ≤ g e ∧ g e ≤ 255) → (∀ q : Nat, (q : Int) < j → g (12 * I 10 + q) = A 13 q) → xx_go (xt_P z) (d + 1) 62 74 [some (.ref h.length), some (.int (iI (mand (msp (A 13) (I 17).toNat 0 5)))), some (.int (iI j))] [] (mh h R I (symA A (I 10) (I 17) g) N) (fun v h1 => ∃ (k : Int) (I1 : Nat → Int) (A1 : Nat → Int → Int), v = some (.int (iI k)) ∧ h1 = mh h R I1 A1 N ∧ MST I1 A1 N ∧ 0 ≤ k ∧ k < I1 7 ∧ A1 1 k = -2 ∧ ((I1 = I ∧ A1 = A) ∨ (k = I 7 ∧ I1 = su (su I 10 (I 10 + 1)) 7 (I 7 + 1) ∧ ∃ g : Int → Int, A1 = addA (symA A (I 10) (I 17) g) (I 7) (-2) (I 10) (mand (msp (A 13) (I 17).toNat 0 5))))) := by
  have h1 := hS.1
  have qr : 0 ≤ mand (msp (A 13) (I 17).toNat 0 5) ∧ mand (msp (A 13) (I 17).toNat 0 5) < 8192 := and_rng _
  intro n
  induction n with
  | zero =>
    intro j g j0 ej g1 g2 g3
    refine go_a (pc' := 75) (ls' := [some (.ref h.length), some (.int (iI (mand (msp (A 13) (I 17).toNat 0 5)))), some (.int (iI j))]) (st' := [.int (iI j)]) rfl rfl ?_
    refine go_a (pc' := 76) (ls' := [some (.ref h.length), some (.int (iI (mand (msp (A 13) (I 17).toNat 0 5)))), some (.int (iI j))]) (st' := [.ref h.length, .int (iI j)]) rfl rfl ?_
    refine go_get (v := .int (iI (I 17))) rfl mh_o rfl rfl ?_
    refine mi_ge (t := 108) rfl rfl (by omega) (by omega) (by omega) (by omega) (fun hb => ?_) (fun hb => absurd (show I 17 ≤ j by omega) hb)
    refine go_a (pc' := 109) (ls' := [some (.ref h.length), some (.int (iI (mand (msp (A 13) (I 17).toNat 0 5)))), some (.int (iI j))]) (st' := [.ref h.length]) rfl rfl ?_
    refine go_a (pc' := 110) (ls' := [some (.ref h.length), some (.int (iI (mand (msp (A 13) (I 17).toNat 0 5)))), some (.int (iI j))]) (st' := [.ref h.length, .ref h.length]) rfl rfl ?_
    refine go_get (v := .int (iI (I 10))) rfl mh_o rfl rfl ?_
    refine go_a (pc' := 114) (ls' := [some (.ref h.length), some (.int (iI (mand (msp (A 13) (I 17).toNat 0 5)))), some (.int (iI j))]) (st' := [.int (iI 1), .int (iI (I 10)), .ref h.length]) rfl rfl ?_
    refine mi_add rfl ?_
    refine go_put (j := 10) rfl mh_o rfl rfl (show 12 ≤ _ from hc) (show 10 < 86 by decide) rfl rfl ?_
    rw [mh_p10]
    refine go_a (pc' := 119) (ls' := [some (.ref h.length), some (.int (iI (mand (msp (A 13) (I 17).toNat 0 5)))), some (.int (iI j))]) (st' := [.ref h.length]) rfl rfl ?_
    refine go_a (pc' := 121) (ls' := [some (.ref h.length), some (.int (iI (mand (msp (A 13) (I 17).toNat 0 5)))), some (.int (iI j))]) (st' := [.int (iI ((-2))), .ref h.length]) rfl rfl ?_
    refine go_a (pc' := 122) (ls' := [some (.ref h.length), some (.int (iI (mand (msp (A 13) (I 17).toNat 0 5)))), some (.int (iI j))]) (st' := [.ref h.length, .int (iI ((-2))), .ref h.length]) rfl rfl ?_
    refine go_get (v := .int (iI ((I 10) + 1))) rfl mh_o rfl rfl ?_
    refine go_a (pc' := 126) (ls' := [some (.ref h.length), some (.int (iI (mand (msp (A 13) (I 17).toNat 0 5)))), some (.int (iI j))]) (st' := [.int (iI 1), .int (iI ((I 10) + 1)), .int (iI ((-2))), .ref h.length]) rfl rfl ?_
    refine mi_sub rfl ?_
    refine go_a (pc' := 128) (ls' := [some (.ref h.length), some (.int (iI (mand (msp (A 13) (I 17).toNat 0 5)))), some (.int (iI j))]) (st' := [.int (iI (mand (msp (A 13) (I 17).toNat 0 5))), .int (iI (((I 10) + 1) - 1)), .int (iI ((-2))), .ref h.length]) rfl rfl ?_
    rw [show I 10 + 1 - 1 = I 10 by omega]
    have S2 := MST_sym hS hs w0 w1 g1 g2
    refine go_v (m := 65) (as := [.ref h.length, .int (iI ((-2))), .int (iI (I 10)), .int (iI (mand (msp (A 13) (I 17).toNat 0 5)))]) (r := []) rfl rfl rfl mh_o rfl rfl (mm_added z d (-2) (I 10) (mand (msp (A 13) (I 17).toNat 0 5)) h R (su I 10 (I 10 + 1)) (symA A (I 10) (I 17) g) N hc h1.1 ho qr.1 qr.2 (by decide) (by decide) (by omega) (by omega) (fun q => absurd q (by decide))) (fun v h1 hq => ?_)
    obtain ⟨rfl, rfl⟩ := hq
    have hq : hsh (addA (symA A (I 10) (I 17) g) (I 7) (-2) (I 10) (mand (msp (A 13) (I 17).toNat 0 5))) N (I 7) = mand (msp (A 13) (I 17).toNat 0 5) := by
      unfold hsh
      rw [addA_1, addA_2, addA_8, addA_9, symA_8, symA_9, sf_self, sf_self, sf_self, if_neg (by decide), if_pos rfl]
      congr 1
      refine msp_congr _ _ _ _ (fun q hq => ?_)
      rw [g3 q (by omega), Int.zero_add]
    refine go_r rfl rfl rfl rfl rfl rfl ⟨I 7, _, _, rfl, rfl, MST_add S2 rfl ho hq (Or.inr (Or.inl ⟨rfl, h1.2.2.1, (show I 10 < I 10 + 1 by omega), fun k k0 k1 lk => ?_⟩)), h1.1, (show I 7 < I 7 + 1 by omega), ?_, Or.inr ⟨rfl, rfl, g, rfl⟩⟩
    · have q := (hS.2.1 k k0 k1).1
      have lk : A 1 k = -2 := lk
      show A 2 k < I 10
      omega
    · exact sf_self (f := A 1) (e := I 7)
  | succ n ih =>
    intro j g j0 ej g1 g2 g3
    refine go_a (pc' := 75) (ls' := [some (.ref h.length), some (.int (iI (mand (msp (A 13) (I 17).toNat 0 5)))), some (.int (iI j))]) (st' := [.int (iI j)]) rfl rfl ?_
    refine go_a (pc' := 76) (ls' := [some (.ref h.length), some (.int (iI (mand (msp (A 13) (I 17).toNat 0 5)))), some (.int (iI j))]) (st' := [.ref h.length, .int (iI j)]) rfl rfl ?_
    refine go_get (v := .int (iI (I 17))) rfl mh_o rfl rfl ?_
    refine mi_ge (t := 108) rfl rfl (by omega) (by omega) (by omega) (by omega) (fun hb => absurd hb (by omega)) (fun hb => ?_)
    refine go_a (pc' := 83) (ls' := [some (.ref h.length), some (.int (iI (mand (msp (A 13) (I 17).toNat 0 5)))), some (.int (iI j))]) (st' := [.ref h.length]) rfl rfl ?_
    refine go_get rfl mh_o rfl rfl ?_
    refine go_a (pc' := 88) (ls' := [some (.ref h.length), some (.int (iI (mand (msp (A 13) (I 17).toNat 0 5)))), some (.int (iI j))]) (st' := [.int (iI 12), .ref (h.length + 8)]) rfl rfl ?_
    refine go_a (pc' := 89) (ls' := [some (.ref h.length), some (.int (iI (mand (msp (A 13) (I 17).toNat 0 5)))), some (.int (iI j))]) (st' := [.ref h.length, .int (iI 12), .ref (h.length + 8)]) rfl rfl ?_
    refine go_get (v := .int (iI (I 10))) rfl mh_o rfl rfl ?_
    refine mi_mul rfl ?_
    refine go_a (pc' := 94) (ls' := [some (.ref h.length), some (.int (iI (mand (msp (A 13) (I 17).toNat 0 5)))), some (.int (iI j))]) (st' := [.int (iI j), .int (iI (12 * (I 10))), .ref (h.length + 8)]) rfl rfl ?_
    refine mi_add rfl ?_
    refine go_a (pc' := 96) (ls' := [some (.ref h.length), some (.int (iI (mand (msp (A 13) (I 17).toNat 0 5)))), some (.int (iI j))]) (st' := [.ref h.length, .int (iI ((12 * (I 10)) + j)), .ref (h.length + 8)]) rfl rfl ?_
    refine go_get rfl mh_o rfl rfl ?_
    refine go_a (pc' := 100) (ls' := [some (.ref h.length), some (.int (iI (mand (msp (A 13) (I 17).toNat 0 5)))), some (.int (iI j))]) (st' := [.int (iI j), .ref (h.length + 13), .int (iI ((12 * (I 10)) + j)), .ref (h.length + 8)]) rfl rfl ?_
    refine mi_ild rfl mh_a13 (by omega) (by omega) (by decide) ?_
    refine mi_ist rfl mh_a8 (show 12 ≤ _ by omega) (by omega) (by omega) (by decide) ?_
    rw [mh_w8 (by omega), show sa (symA A (I 10) (I 17) g) 8 (12 * I 10 + j) (symA A (I 10) (I 17) g 13 j) = symA A (I 10) (I 17) (sf g (12 * I 10 + j) (A 13 j)) from sa_sw _ _ _ _ _]
    refine go_a (pc' := 105) (ls' := [some (.ref h.length), some (.int (iI (mand (msp (A 13) (I 17).toNat 0 5)))), some (.int (iI (j + 1)))]) (st' := []) rfl (by rw [← iI_add j 1]; rfl) ?_
    refine go_a (pc' := 74) (ls' := [some (.ref h.length), some (.int (iI (mand (msp (A 13) (I 17).toNat 0 5)))), some (.int (iI (j + 1)))]) (st' := []) rfl rfl ?_
    refine ih (j + 1) _ (by omega) (by omega) (fun e he => ?_) (fun e => ?_) (fun q hq => ?_)
    · rw [sf_ne (by omega)]
      exact g1 e he
    · by_cases ee : e = 12 * I 10 + j
      · rw [ee, sf_self]
        exact r13 j
      · rw [sf_ne ee]
        exact g2 e
    · by_cases ee : (q : Int) = j
      · rw [ee, sf_self]
      · rw [sf_ne (by omega)]
        exact g3 q (by omega)
theorem mm_sym_loop (z : Value) (d : Nat) (h R : xx_H) (I : Nat → Int) (A : Nat → Int → Int) (N : Int → Int) (hc : 12 ≤ h.length) (hS : MST I A N) (ho : I 7 < 140000) (hs : I 10 < 4990) (w0 : 0 ≤ I 17) (w1 : I 17 ≤ 11) (r13 : ∀ e : Int, 0 ≤ A 13 e ∧ A 13 e ≤ 255) : ∀ (f : Nat) (k : Int), (k + 1).toNat ≤ f → -1 ≤ k → k < I 7 → xx_go (xt_P z) (d + 1) 62 18 [some (.ref h.length), some (.int (iI (mand (msp (A 13) (I 17).toNat 0 5)))), some (.int (iI k))] [] (mh h R I A N) (fun v h1 => ∃ (k : Int) (I1 : Nat → Int) (A1 : Nat → Int → Int), v = some (.int (iI k)) ∧ h1 = mh h R I1 A1 N ∧ MST I1 A1 N ∧ 0 ≤ k ∧ k < I1 7 ∧ A1 1 k = -2 ∧ ((I1 = I ∧ A1 = A) ∨ (k = I 7 ∧ I1 = su (su I 10 (I 10 + 1)) 7 (I 7 + 1) ∧ ∃ g : Int → Int, A1 = addA (symA A (I 10) (I 17) g) (I 7) (-2) (I 10) (mand (msp (A 13) (I 17).toNat 0 5))))) := by
  have h1 := hS.1
  have last : xx_go (xt_P z) (d + 1) 62 18 [some (.ref h.length), some (.int (iI (mand (msp (A 13) (I 17).toNat 0 5)))), some (.int (iI (-1)))] [] (mh h R I A N) (fun v h1 => ∃ (k : Int) (I1 : Nat → Int) (A1 : Nat → Int → Int), v = some (.int (iI k)) ∧ h1 = mh h R I1 A1 N ∧ MST I1 A1 N ∧ 0 ≤ k ∧ k < I1 7 ∧ A1 1 k = -2 ∧ ((I1 = I ∧ A1 = A) ∨ (k = I 7 ∧ I1 = su (su I 10 (I 10 + 1)) 7 (I 7 + 1) ∧ ∃ g : Int → Int, A1 = addA (symA A (I 10) (I 17) g) (I 7) (-2) (I 10) (mand (msp (A 13) (I 17).toNat 0 5))))) := by
    refine go_a (pc' := 19) (ls' := [some (.ref h.length), some (.int (iI (mand (msp (A 13) (I 17).toNat 0 5)))), some (.int (iI ((-1))))]) (st' := [.int (iI ((-1)))]) rfl rfl ?_
    refine go_a (pc' := 20) (ls' := [some (.ref h.length), some (.int (iI (mand (msp (A 13) (I 17).toNat 0 5)))), some (.int (iI ((-1))))]) (st' := [.int (iI ((-1))), .int (iI ((-1)))]) rfl rfl ?_
    refine mi_eq (t := 59) rfl rfl (by omega) (by omega) (by omega) (by omega) (fun hb => ?_) (fun hb => absurd rfl hb)
    refine go_a (pc' := 60) (ls' := [some (.ref h.length), some (.int (iI (mand (msp (A 13) (I 17).toNat 0 5)))), some (.int (iI ((-1))))]) (st' := [.ref h.length]) rfl rfl ?_
    refine go_get rfl mh_o rfl rfl ?_
    refine go_a (pc' := 64) (ls' := [some (.ref h.length), some (.int (iI (mand (msp (A 13) (I 17).toNat 0 5)))), some (.int (iI ((-1))))]) (st' := [.ref h.length, .ref (h.length + 9)]) rfl rfl ?_
    refine go_get (v := .int (iI (I 10))) rfl mh_o rfl rfl ?_
    refine go_a (pc' := 68) (ls' := [some (.ref h.length), some (.int (iI (mand (msp (A 13) (I 17).toNat 0 5)))), some (.int (iI ((-1))))]) (st' := [.ref h.length, .int (iI (I 10)), .ref (h.length + 9)]) rfl rfl ?_
    refine go_get (v := .int (iI (I 17))) rfl mh_o rfl rfl ?_
    refine mi_ist rfl mh_a9 (show 12 ≤ _ by omega) (by omega) (by omega) (by decide) ?_
    rw [mh_w9 (by omega)]
    refine go_a (pc' := 73) (ls' := [some (.ref h.length), some (.int (iI (mand (msp (A 13) (I 17).toNat 0 5)))), some (.int (iI ((-1))))]) (st' := [.int (iI 0)]) rfl rfl ?_
    refine go_a (pc' := 74) (ls' := [some (.ref h.length), some (.int (iI (mand (msp (A 13) (I 17).toNat 0 5)))), some (.int (iI 0))]) (st' := []) rfl rfl ?_
    have key := mm_sym_names z d h R I A N hc hS ho hs w0 w1 r13 (I 17).toNat 0 (A 8) (by omega) (by omega) (fun _ _ => rfl) hS.2.2.2.2.1.2.1 (fun q hq => absurd hq (by omega))
    rw [show symA A (I 10) (I 17) (A 8) = sa A 9 (I 10) (I 17) from sw_self (sa A 9 (I 10) (I 17)) 8] at key
    exact key
  intro f
  induction f with
  | zero =>
    intro k hf k0 k1
    have e : k = -1 := by omega
    subst e
    exact last
  | succ f ih =>
    intro k hf k0 k1
    by_cases e : k = -1
    · subst e
      exact last
    have kk : 0 ≤ k := by omega
    have q := hS.2.1 k kk k1
    have qp := (MST_PW hS).2 k kk k1
    have nx : xx_go (xt_P z) (d + 1) 62 49 [some (.ref h.length), some (.int (iI (mand (msp (A 13) (I 17).toNat 0 5)))), some (.int (iI k))] [] (mh h R I A N) (fun v h1 => ∃ (k : Int) (I1 : Nat → Int) (A1 : Nat → Int → Int), v = some (.int (iI k)) ∧ h1 = mh h R I1 A1 N ∧ MST I1 A1 N ∧ 0 ≤ k ∧ k < I1 7 ∧ A1 1 k = -2 ∧ ((I1 = I ∧ A1 = A) ∨ (k = I 7 ∧ I1 = su (su I 10 (I 10 + 1)) 7 (I 7 + 1) ∧ ∃ g : Int → Int, A1 = addA (symA A (I 10) (I 17) g) (I 7) (-2) (I 10) (mand (msp (A 13) (I 17).toNat 0 5))))) := by
      have q3 := q.2.1
      refine go_a (pc' := 50) (ls' := [some (.ref h.length), some (.int (iI (mand (msp (A 13) (I 17).toNat 0 5)))), some (.int (iI k))]) (st' := [.ref h.length]) rfl rfl ?_
      refine go_get rfl mh_o rfl rfl ?_
      refine go_a (pc' := 54) (ls' := [some (.ref h.length), some (.int (iI (mand (msp (A 13) (I 17).toNat 0 5)))), some (.int (iI k))]) (st' := [.int (iI k), .ref (h.length + 3)]) rfl rfl ?_
      refine mi_ild rfl mh_a3 (by omega) (by omega) (by decide) ?_
      refine go_a (pc' := 56) (ls' := [some (.ref h.length), some (.int (iI (mand (msp (A 13) (I 17).toNat 0 5)))), some (.int (iI (A 3 k)))]) (st' := []) rfl rfl ?_
      refine go_a (pc' := 18) (ls' := [some (.ref h.length), some (.int (iI (mand (msp (A 13) (I 17).toNat 0 5)))), some (.int (iI (A 3 k)))]) (st' := []) rfl rfl ?_
      exact ih (A 3 k) (by omega) q3.1 (by omega)
    refine go_a (pc' := 19) (ls' := [some (.ref h.length), some (.int (iI (mand (msp (A 13) (I 17).toNat 0 5)))), some (.int (iI k))]) (st' := [.int (iI k)]) rfl rfl ?_
    refine go_a (pc' := 20) (ls' := [some (.ref h.length), some (.int (iI (mand (msp (A 13) (I 17).toNat 0 5)))), some (.int (iI k))]) (st' := [.int (iI ((-1))), .int (iI k)]) rfl rfl ?_
    refine mi_eq (t := 59) rfl rfl (by omega) (by omega) (by omega) (by omega) (fun hb => absurd hb e) (fun hb => ?_)
    refine go_a (pc' := 24) (ls' := [some (.ref h.length), some (.int (iI (mand (msp (A 13) (I 17).toNat 0 5)))), some (.int (iI k))]) (st' := [.ref h.length]) rfl rfl ?_
    refine go_get rfl mh_o rfl rfl ?_
    refine go_a (pc' := 28) (ls' := [some (.ref h.length), some (.int (iI (mand (msp (A 13) (I 17).toNat 0 5)))), some (.int (iI k))]) (st' := [.int (iI k), .ref (h.length + 1)]) rfl rfl ?_
    refine mi_ild rfl mh_a1 (by omega) (by omega) (by decide) ?_
    refine go_a (pc' := 31) (ls' := [some (.ref h.length), some (.int (iI (mand (msp (A 13) (I 17).toNat 0 5)))), some (.int (iI k))]) (st' := [.int (iI ((-2))), .int (iI (A 1 k))]) rfl rfl ?_
    refine mi_ne (t := 49) rfl rfl (by omega) (by omega) (by omega) (by omega) (fun _ => nx) (fun hb => ?_)
    refine go_a (pc' := 35) (ls' := [some (.ref h.length), some (.int (iI (mand (msp (A 13) (I 17).toNat 0 5)))), some (.int (iI k))]) (st' := [.ref h.length]) rfl rfl ?_
    refine go_a (pc' := 36) (ls' := [some (.ref h.length), some (.int (iI (mand (msp (A 13) (I 17).toNat 0 5)))), some (.int (iI k))]) (st' := [.ref h.length, .ref h.length]) rfl rfl ?_
    refine go_get rfl mh_o rfl rfl ?_
    refine go_a (pc' := 40) (ls' := [some (.ref h.length), some (.int (iI (mand (msp (A 13) (I 17).toNat 0 5)))), some (.int (iI k))]) (st' := [.int (iI k), .ref (h.length + 2), .ref h.length]) rfl rfl ?_
    refine mi_ild rfl mh_a2 (by omega) (by omega) (by decide) ?_
    have q2 : 0 ≤ A 2 k ∧ A 2 k < I 10 := by
      have q5 := q.1
      omega
    have q6 := hS.2.2.2.2.1
    refine go_v (m := 64) (as := [.ref h.length, .int (iI (A 2 k))]) (r := []) rfl rfl rfl mh_o rfl rfl (mm_isWord z d (A 2 k) h R I A N hc q2.1 (by omega) w0 (by omega) q6.2.1 r13 (q6.1 _ q2.1 q2.2)) (fun v h1 hq => ?_)
    obtain ⟨⟨b, hb01, rfl, -⟩, rfl⟩ := hq
    show xx_go (xt_P z) (d + 1) 62 44 [some (.ref h.length), some (.int (iI (mand (msp (A 13) (I 17).toNat 0 5)))), some (.int (iI k))] [.int (iI b)] (mh h R I A N) _
    refine mi_eq0 (t := 49) rfl rfl (by omega) (by omega) (fun _ => nx) (fun hb2 => ?_)
    refine go_a (pc' := 48) (ls' := [some (.ref h.length), some (.int (iI (mand (msp (A 13) (I 17).toNat 0 5)))), some (.int (iI k))]) (st' := [.int (iI k)]) rfl rfl ?_
    exact go_r rfl rfl rfl rfl rfl rfl ⟨k, I, A, rfl, rfl, hS, kk, k1, by omega, Or.inl ⟨rfl, rfl⟩⟩
theorem mm_symbol (z : Value) (d : Nat) (h R : xx_H) (I : Nat → Int) (A : Nat → Int → Int) (N : Int → Int) (hc : 12 ≤ h.length) (hS : MST I A N) (ho : I 7 < 140000) (hs : I 10 < 4990) (w0 : 0 ≤ I 17) (w1 : I 17 ≤ 11) (r13 : ∀ e : Int, 0 ≤ A 13 e ∧ A 13 e ≤ 255) : xx_cl (xt_P z) (d + 2) 62 [.ref h.length] (mh h R I A N) (fun v h1 => ∃ (k : Int) (I1 : Nat → Int) (A1 : Nat → Int → Int), v = some (.int (iI k)) ∧ h1 = mh h R I1 A1 N ∧ MST I1 A1 N ∧ 0 ≤ k ∧ k < I1 7 ∧ A1 1 k = -2 ∧ ((I1 = I ∧ A1 = A) ∨ (k = I 7 ∧ I1 = su (su I 10 (I 10 + 1)) 7 (I 7 + 1) ∧ ∃ g : Int → Int, A1 = addA (symA A (I 10) (I 17) g) (I 7) (-2) (I 10) (mand (msp (A 13) (I 17).toNat 0 5))))) := by
  have qr : 0 ≤ mand (msp (A 13) (I 17).toNat 0 5) ∧ mand (msp (A 13) (I 17).toNat 0 5) < 8192 := and_rng _
  have c := hS.2.2.1 _ qr.1 qr.2
  refine cl_go rfl ?_
  show xx_go (xt_P z) (d + 1) 62 0 [some (.ref h.length), none, none] [] (mh h R I A N) _
  refine go_a (pc' := 1) (ls' := [some (.ref h.length), none, none]) (st' := [.ref h.length]) rfl rfl ?_
  refine go_a (pc' := 2) (ls' := [some (.ref h.length), none, none]) (st' := [.int (iI 0), .ref h.length]) rfl rfl ?_
  refine go_a (pc' := 3) (ls' := [some (.ref h.length), none, none]) (st' := [.ref h.length, .int (iI 0), .ref h.length]) rfl rfl ?_
  refine go_get (v := .int (iI (I 17))) rfl mh_o rfl rfl ?_
  refine go_a (pc' := 7) (ls' := [some (.ref h.length), none, none]) (st' := [.int (iI 1), .int (iI (I 17)), .int (iI 0), .ref h.length]) rfl rfl ?_
  rw [show iI (I 17) = iI ((I 17).toNat : Int) by rw [Int.toNat_of_nonneg w0]]
  refine go_v (m := 63) (as := [.ref h.length, .int (iI 0), .int (iI (((I 17).toNat : Int))), .int (iI 1)]) (r := []) rfl rfl rfl mh_o rfl rfl (mm_spelledW z d (I 17).toNat 0 h R I A N hc (by omega)) (fun v h1 hq => ?_)
  obtain ⟨rfl, rfl⟩ := hq
  show xx_go (xt_P z) (d + 1) 62 10 [some (.ref h.length), none, none] [.int (iI (mand (msp (A 13) (I 17).toNat 0 5)))] (mh h R I A N) _
  refine go_a (pc' := 11) (ls' := [some (.ref h.length), some (.int (iI (mand (msp (A 13) (I 17).toNat 0 5)))), none]) (st' := []) rfl rfl ?_
  refine go_a (pc' := 12) (ls' := [some (.ref h.length), some (.int (iI (mand (msp (A 13) (I 17).toNat 0 5)))), none]) (st' := [.ref h.length]) rfl rfl ?_
  refine go_get rfl mh_o rfl rfl ?_
  refine go_a (pc' := 16) (ls' := [some (.ref h.length), some (.int (iI (mand (msp (A 13) (I 17).toNat 0 5)))), none]) (st' := [.int (iI (mand (msp (A 13) (I 17).toNat 0 5))), .ref (h.length + 7)]) rfl rfl ?_
  refine mi_ild rfl mh_a7 (by omega) (by omega) (by decide) ?_
  refine go_a (pc' := 18) (ls' := [some (.ref h.length), some (.int (iI (mand (msp (A 13) (I 17).toNat 0 5)))), some (.int (iI (A 7 (mand (msp (A 13) (I 17).toNat 0 5)))))]) (st' := []) rfl rfl ?_
  exact mm_sym_loop z d h R I A N hc hS ho hs w0 w1 r13 (A 7 (mand (msp (A 13) (I 17).toNat 0 5)) + 1).toNat (A 7 (mand (msp (A 13) (I 17).toNat 0 5))) (Nat.le_refl _) c.1 c.2.1
