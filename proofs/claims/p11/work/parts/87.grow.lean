def EX (I : Nat → Int) (A : Nat → Int → Int) (N : Int → Int) (I1 : Nat → Int) (A1 : Nat → Int → Int) (N1 : Int → Int) : Prop := MST I1 A1 N1 ∧ I 7 ≤ I1 7 ∧ (∀ k : Int, 0 ≤ k → k < I 7 → A1 1 k = A 1 k ∧ A1 2 k = A 2 k ∧ N1 k = N k ∧ A1 4 k = A 4 k) ∧ (∀ j : Nat, j ≠ 7 → j ≠ 10 → I1 j = I j) ∧ (∀ a : Nat, a ≠ 1 → a ≠ 2 → a ≠ 3 → a ≠ 4 → a ≠ 5 → a ≠ 7 → a ≠ 8 → a ≠ 9 → A1 a = A a) ∧ I 10 ≤ I1 10 ∧ I1 10 - I 10 ≤ I1 7 - I 7 ∧ (∀ k : Int, 0 ≤ k → I 7 ≤ k → k < I1 7 → A1 4 k = 0)
section EXS
variable {I I1 I2 : Nat → Int} {A A1 A2 : Nat → Int → Int} {N N1 N2 : Int → Int}
theorem EX_rf (hS : MST I A N) : EX I A N I A N := ⟨hS, Int.le_refl _, fun _ _ _ => ⟨rfl, rfl, rfl, rfl⟩, fun _ _ _ => rfl, fun _ _ _ _ _ _ _ _ _ => rfl, Int.le_refl _, by omega, fun k _ a b => absurd b (by omega)⟩
theorem EX_tr (a : EX I A N I1 A1 N1) (b : EX I1 A1 N1 I2 A2 N2) : EX I A N I2 A2 N2 := by
  obtain ⟨a1, a2, a3, a4, a5, a6, a7, a8⟩ := a
  obtain ⟨b1, b2, b3, b4, b5, b6, b7, b8⟩ := b
  refine ⟨b1, by omega, fun k h0 h1 => ?_, fun j h7 h10 => (b4 j h7 h10).trans (a4 j h7 h10), fun a q1 q2 q3 q4 q5 q6 q7 q8 => (b5 a q1 q2 q3 q4 q5 q6 q7 q8).trans (a5 a q1 q2 q3 q4 q5 q6 q7 q8), by omega, by omega, fun k k0 p q => ?_⟩
  · have p := a3 k h0 h1
    have q := b3 k h0 (by omega)
    exact ⟨q.1.trans p.1, q.2.1.trans p.2.1, q.2.2.1.trans p.2.2.1, q.2.2.2.trans p.2.2.2⟩
  · by_cases e : k < I1 7
    · rw [(b3 k k0 e).2.2.2]
      exact a8 k k0 p e
    · exact b8 k k0 (by omega) q
theorem addA_ne {a : Nat} {o l r q : Int} (h1 : a ≠ 1) (h2 : a ≠ 2) (h3 : a ≠ 3) (h4 : a ≠ 4) (h5 : a ≠ 5) (h7 : a ≠ 7) : addA A o l r q a = A a := by
  unfold addA
  rw [sa_ne h7, sa_ne h5, sa_ne h4, sa_ne h3, sa_ne h2, sa_ne h1]
theorem symA_ne {a : Nat} {s w : Int} {g : Int → Int} (h8 : a ≠ 8) (h9 : a ≠ 9) : symA A s w g a = A a := by
  unfold symA sw
  cases hb : Nat.beq a 8 with
  | true => exact absurd (Nat.eq_of_beq_eq_true hb) h8
  | false => exact sa_ne h9
theorem EX_add {l r q : Int} (hS : MST (su I 7 (I 7 + 1)) (addA A (I 7) l r q) N) : EX I A N (su I 7 (I 7 + 1)) (addA A (I 7) l r q) N := by
  have e7 : su I 7 (I 7 + 1) 7 = I 7 + 1 := rfl
  have e10 : su I 7 (I 7 + 1) 10 = I 10 := rfl
  refine ⟨hS, by omega, fun k h0 h1 => ?_, fun j h7 _ => su_ne h7, fun a q1 q2 q3 q4 q5 q6 _ _ => addA_ne q1 q2 q3 q4 q5 q6, by omega, by omega, fun k _ p q => by rw [addA_4, show k = I 7 by omega]; exact sf_self⟩
  rw [addA_1, addA_2, addA_4, sf_ne (by omega), sf_ne (by omega), sf_ne (by omega)]
  exact ⟨rfl, rfl, rfl, rfl⟩
end EXS
theorem mm_pairE (z : Value) (d : Nat) (l r : Int) (h R : xx_H) (I : Nat → Int) (A : Nat → Int → Int) (N : Int → Int) (hc : 12 ≤ h.length) (hS : MST I A N) (ho : I 7 < 140000) (l0 : 0 ≤ l) (l1 : l < I 7) (r0 : 0 ≤ r) (r1 : r < I 7) : xx_cl (xt_P z) (d + 2) 85 [.ref h.length, .int (iI l), .int (iI r)] (mh h R I A N) (fun v h1 => ∃ (k : Int) (I1 : Nat → Int) (A1 : Nat → Int → Int), v = some (.int (iI k)) ∧ h1 = mh h R I1 A1 N ∧ EX I A N I1 A1 N ∧ 0 ≤ k ∧ k < I1 7 ∧ A1 1 k = l ∧ A1 2 k = r ∧ I1 7 ≤ I 7 + 1 ∧ I1 10 = I 10 ∧ ((∃ j : Int, 0 ≤ j ∧ j < I 7 ∧ A 1 j = l ∧ A 2 j = r) → I1 = I ∧ A1 = A)) := by
  refine cl_w (fun v h1 hq => ?_) (mm_pair z d l r h R I A N hc hS ho l0 l1 r0 r1)
  obtain ⟨k, I1, A1, rfl, rfl, S1, k0, k1, e1, e2, e3⟩ := hq
  rcases e3 with ⟨rfl, rfl⟩ | ⟨rfl, rfl, rfl, e4⟩
  · exact ⟨k, _, _, rfl, rfl, EX_rf S1, k0, k1, e1, e2, by omega, rfl, fun _ => ⟨rfl, rfl⟩⟩
  · exact ⟨_, _, _, rfl, rfl, EX_add S1, k0, k1, e1, e2, Int.le_refl _, rfl, fun ⟨j, j0, j1, j2, j3⟩ => absurd ⟨j2, j3⟩ (e4 j j0 j1)⟩
theorem mm_symbolE (z : Value) (d : Nat) (h R : xx_H) (I : Nat → Int) (A : Nat → Int → Int) (N : Int → Int) (hc : 12 ≤ h.length) (hS : MST I A N) (ho : I 7 < 140000) (hs : I 10 < 4990) (w0 : 0 ≤ I 17) (w1 : I 17 ≤ 11) (r13 : ∀ e : Int, 0 ≤ A 13 e ∧ A 13 e ≤ 255) : xx_cl (xt_P z) (d + 2) 62 [.ref h.length] (mh h R I A N) (fun v h1 => ∃ (k : Int) (I1 : Nat → Int) (A1 : Nat → Int → Int), v = some (.int (iI k)) ∧ h1 = mh h R I1 A1 N ∧ EX I A N I1 A1 N ∧ 0 ≤ k ∧ k < I1 7 ∧ A1 1 k = -2 ∧ I1 7 ≤ I 7 + 1 ∧ I1 10 ≤ I 10 + 1) := by
  refine cl_w (fun v h1 hq => ?_) (mm_symbol z d h R I A N hc hS ho hs w0 w1 r13)
  obtain ⟨k, I1, A1, rfl, rfl, S1, k0, k1, e1, e3⟩ := hq
  rcases e3 with ⟨rfl, rfl⟩ | ⟨rfl, rfl, g, rfl⟩
  · exact ⟨k, _, _, rfl, rfl, EX_rf S1, k0, k1, e1, by omega, by omega⟩
  · refine ⟨_, _, _, rfl, rfl, ⟨S1, (show I 7 ≤ I 7 + 1 by omega), fun k h0 h1 => ?_, fun j h7 h10 => (su_ne h7).trans (su_ne h10), fun a q1 q2 q3 q4 q5 q6 q7 q8 => (addA_ne q1 q2 q3 q4 q5 q6).trans (symA_ne q7 q8), (show I 10 ≤ I 10 + 1 by omega), (show I 10 + 1 - I 10 ≤ I 7 + 1 - I 7 by omega), fun k _ p q => by have q : k < I 7 + 1 := q; rw [addA_4, show k = I 7 by omega]; exact sf_self⟩, k0, k1, e1, Int.le_refl _, Int.le_refl _⟩
    rw [addA_1, addA_2, addA_4, sf_ne (by omega), sf_ne (by omega), sf_ne (by omega)]
    exact ⟨rfl, rfl, rfl, rfl⟩
theorem mm_naturalE (z : Value) (d : Nat) (v : Int) (h R : xx_H) (I : Nat → Int) (A : Nat → Int → Int) (N : Int → Int) (hc : 12 ≤ h.length) (hS : MST I A N) (ho : I 7 < 140000) (v0 : 0 ≤ v) (v1 : v < 4611686018427387904) : xx_cl (xt_P z) (d + 2) 93 [.ref h.length, .long (Int64.ofInt v)] (mh h R I A N) (fun w h1 => ∃ (k : Int) (I1 : Nat → Int) (A1 : Nat → Int → Int) (N1 : Int → Int), w = some (.int (iI k)) ∧ h1 = mh h R I1 A1 N1 ∧ EX I A N I1 A1 N1 ∧ 0 ≤ k ∧ k < I1 7 ∧ A1 1 k = -1 ∧ I1 7 ≤ I 7 + 1 ∧ I1 10 = I 10) := by
  refine cl_w (fun v h1 hq => ?_) (mm_natural z d v h R I A N hc hS ho v0 v1)
  obtain ⟨k, I1, A1, N1, rfl, rfl, S1, k0, k1, e1, e2, e3⟩ := hq
  rcases e3 with ⟨rfl, rfl, rfl⟩ | ⟨rfl, rfl, rfl, rfl⟩
  · exact ⟨k, _, _, _, rfl, rfl, EX_rf S1, k0, k1, e1, by omega, rfl⟩
  · refine ⟨_, _, _, _, rfl, rfl, ⟨S1, (show I 7 ≤ I 7 + 1 by omega), fun k h0 h1 => ?_, fun j h7 _ => su_ne h7, fun a q1 q2 q3 q4 q5 q6 _ _ => addA_ne q1 q2 q3 q4 q5 q6, (show I 10 ≤ I 10 by omega), (show I 10 - I 10 ≤ I 7 + 1 - I 7 by omega), fun k _ p q => by have q : k < I 7 + 1 := q; rw [addA_4, show k = I 7 by omega]; exact sf_self⟩, k0, k1, e1, Int.le_refl _, rfl⟩
    rw [addA_1, addA_2, addA_4, sf_ne (by omega), sf_ne (by omega), sf_ne (by omega), sf_ne (by omega)]
    exact ⟨rfl, rfl, rfl, rfl⟩
theorem mm_list1 (z : Value) (d : Nat) (a : Int) (h R : xx_H) (I : Nat → Int) (A : Nat → Int → Int) (N : Int → Int) (hc : 12 ≤ h.length) (hS : MST I A N) (ho : I 7 + 1 ≤ 140000) (z0 : 0 < I 7) (a0 : 0 ≤ a) (a1 : a < I 7) : xx_cl (xt_P z) (d + 3) 89 [.ref h.length, .int (iI a)] (mh h R I A N) (fun v h1 => ∃ (k : Int) (I1 : Nat → Int) (A1 : Nat → Int → Int), v = some (.int (iI k)) ∧ h1 = mh h R I1 A1 N ∧ EX I A N I1 A1 N ∧ 0 ≤ k ∧ k < I1 7 ∧ 0 ≤ A1 1 k ∧ I1 7 ≤ I 7 + 1 ∧ I1 10 = I 10) := by
  refine cl_go rfl ?_
  show xx_go (xt_P z) (d + 2) 89 0 [some (.ref h.length), some (.int (iI a))] [] (mh h R I A N) _
  refine go_a (pc' := 1) (ls' := [some (.ref h.length), some (.int (iI a))]) (st' := [.ref h.length]) rfl rfl ?_
  refine go_a (pc' := 2) (ls' := [some (.ref h.length), some (.int (iI a))]) (st' := [.int (iI a), .ref h.length]) rfl rfl ?_
  refine go_a (pc' := 3) (ls' := [some (.ref h.length), some (.int (iI a))]) (st' := [.int (iI 0), .int (iI a), .ref h.length]) rfl rfl ?_
  refine go_v (m := 85) (as := [.ref h.length, .int (iI a), .int (iI 0)]) (r := []) rfl rfl rfl mh_o rfl rfl (mm_pairE z d a 0 h R I A N hc hS (by omega) a0 a1 (by omega) z0) (fun v h1 hq => ?_)
  obtain ⟨k, I1, A1, rfl, rfl, X, k0, k1, e1, e2, e3, e4, -⟩ := hq
  exact go_r rfl rfl rfl rfl rfl rfl ⟨k, I1, A1, rfl, rfl, X, k0, k1, by omega, e3, e4⟩
theorem mm_list2 (z : Value) (d : Nat) (a b : Int) (h R : xx_H) (I : Nat → Int) (A : Nat → Int → Int) (N : Int → Int) (hc : 12 ≤ h.length) (hS : MST I A N) (ho : I 7 + 2 ≤ 140000) (z0 : 0 < I 7) (a0 : 0 ≤ a) (a1 : a < I 7) (b0 : 0 ≤ b) (b1 : b < I 7) : xx_cl (xt_P z) (d + 4) 88 [.ref h.length, .int (iI a), .int (iI b)] (mh h R I A N) (fun v h1 => ∃ (k : Int) (I1 : Nat → Int) (A1 : Nat → Int → Int), v = some (.int (iI k)) ∧ h1 = mh h R I1 A1 N ∧ EX I A N I1 A1 N ∧ 0 ≤ k ∧ k < I1 7 ∧ 0 ≤ A1 1 k ∧ I1 7 ≤ I 7 + 2 ∧ I1 10 = I 10) := by
  refine cl_go rfl ?_
  show xx_go (xt_P z) (d + 3) 88 0 [some (.ref h.length), some (.int (iI a)), some (.int (iI b))] [] (mh h R I A N) _
  refine go_a (pc' := 1) (ls' := [some (.ref h.length), some (.int (iI a)), some (.int (iI b))]) (st' := [.ref h.length]) rfl rfl ?_
  refine go_a (pc' := 2) (ls' := [some (.ref h.length), some (.int (iI a)), some (.int (iI b))]) (st' := [.int (iI a), .ref h.length]) rfl rfl ?_
  refine go_a (pc' := 3) (ls' := [some (.ref h.length), some (.int (iI a)), some (.int (iI b))]) (st' := [.ref h.length, .int (iI a), .ref h.length]) rfl rfl ?_
  refine go_a (pc' := 4) (ls' := [some (.ref h.length), some (.int (iI a)), some (.int (iI b))]) (st' := [.int (iI b), .ref h.length, .int (iI a), .ref h.length]) rfl rfl ?_
  refine go_v (m := 89) (as := [.ref h.length, .int (iI b)]) (r := [.int (iI a), .ref h.length]) rfl rfl rfl mh_o rfl rfl (mm_list1 z d b h R I A N hc hS (by omega) z0 b0 b1) (fun v h1 hq => ?_)
  obtain ⟨k, I1, A1, rfl, rfl, X, k0, k1, e1, e2, e3⟩ := hq
  have x2 := X.2.1
  show xx_go (xt_P z) (d + 3) 88 7 [some (.ref h.length), some (.int (iI a)), some (.int (iI b))] [.int (iI k), .int (iI a), .ref h.length] (mh h R I1 A1 N) _
  refine go_v (m := 85) (as := [.ref h.length, .int (iI a), .int (iI k)]) (r := []) rfl rfl rfl mh_o rfl rfl (mm_pairE z (d + 1) a k h R I1 A1 N hc X.1 (by omega) a0 (by omega) k0 k1) (fun v h1 hq => ?_)
  obtain ⟨k2, I2, A2, rfl, rfl, X2, k20, k21, f1, f2, f3, f4, -⟩ := hq
  exact go_r rfl rfl rfl rfl rfl rfl ⟨k2, I2, A2, rfl, rfl, EX_tr X X2, k20, k21, by omega, by omega, by omega⟩
