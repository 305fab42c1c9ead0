theorem tz_two (A : Nat → Int → Int) (a b : Int → Int) : ∀ (f : Nat) (k : Int), (1 ≤ (tz A a f k).1 → 1 ≤ (tz A b f k).1 → (tz A a f k).1 = (tz A b f k).1) ∧ (0 ≤ (tz A a f k).2.1 → 0 ≤ (tz A b f k).2.1 → (tz A a f k).2.1 = (tz A b f k).2.1)
  | 0, _ => ⟨fun _ _ => rfl, fun _ _ => rfl⟩
  | f + 1, k => by
    have r1 := tz_two A a b f (A 1 k)
    have r2 := tz_two A a b f (A 2 k)
    rw [tz_succ, tz_succ]
    dsimp only
    refine ⟨fun u v => ?_, fun u v => ?_⟩
    · by_cases c : A 1 k < 0 ∨ A 1 k = 2
      · rw [if_pos c, if_pos c]
      · rw [if_neg c] at u v ⊢
        rw [if_neg c]
        by_cases c2 : 0 ≤ (tz A a f (A 2 k)).2.1 ∧ (tz A a f (A 2 k)).2.2 = a (A 1 k) ∧ A 4 k ≠ 0
        · by_cases c3 : 0 ≤ (tz A b f (A 2 k)).2.1 ∧ (tz A b f (A 2 k)).2.2 = b (A 1 k) ∧ A 4 k ≠ 0
          · rw [if_pos c2, if_pos c3, r2.2 c2.1 c3.1]
          · rw [if_neg c3] at v
            exact absurd v (by decide)
        · rw [if_neg c2] at u
          exact absurd u (by decide)
    · by_cases c : k = 0
      · rw [if_pos c, if_pos c]
      · rw [if_neg c] at u v ⊢
        rw [if_neg c]
        by_cases c2 : 0 ≤ A 1 k ∧ 1 ≤ (tz A a f (A 1 k)).1 ∧ 0 ≤ (tz A a f (A 2 k)).2.1
        · by_cases c3 : 0 ≤ A 1 k ∧ 1 ≤ (tz A b f (A 1 k)).1 ∧ 0 ≤ (tz A b f (A 2 k)).2.1
          · rw [if_pos c2, if_pos c3, r1.1 c2.2.1 c3.2.1, r2.2 c2.2.2 c3.2.2]
          · rw [if_neg c3] at v
            exact absurd v (by decide)
        · rw [if_neg c2] at u
          exact absurd u (by decide)
theorem TZ_two {A : Nat → Int → Int} {a b : Int → Int} {k : Int} (h1 : 1 ≤ TZ A a k) (h2 : 1 ≤ TZ A b k) : TZ A a k = TZ A b k := (tz_two A a b _ k).1 h1 h2
def SZI (ar : Int → Int) (I : Nat → Int) (A : Nat → Int → Int) : Prop := ∀ k : Int, 0 ≤ k → k < I 7 → 0 ≤ A 1 k → A 1 k ≠ 2 → A 4 k = 0 ∨ ∃ a : Int → Int, 1 ≤ TZ A a k ∧ 1 ≤ A 4 k ∧ ((A 4 k = TZ A a k ∧ A 4 k ≤ 30000) ∨ (A 4 k = 30000 ∧ 30000 ≤ TZ A a k))
def BX (F G : Nat → Prop) (I : Nat → Int) (A : Nat → Int → Int) (N : Int → Int) (I1 : Nat → Int) (A1 : Nat → Int → Int) (N1 : Int → Int) : Prop := MST I1 A1 N1 ∧ I 7 ≤ I1 7 ∧ (∀ k : Int, 0 ≤ k → k < I 7 → A1 1 k = A 1 k ∧ A1 2 k = A 2 k ∧ N1 k = N k ∧ (A 4 k ≠ 0 → A1 4 k ≠ 0)) ∧ (∀ j : Nat, j ≠ 7 → ¬ F j → I1 j = I j) ∧ (∀ a : Nat, a ≠ 1 → a ≠ 2 → a ≠ 3 → a ≠ 4 → a ≠ 5 → a ≠ 7 → ¬ G a → A1 a = A a)
section BXS
variable {F G : Nat → Prop} {I I1 I2 : Nat → Int} {A A1 A2 : Nat → Int → Int} {N N1 N2 : Int → Int} {ar : Int → Int}
theorem BX_rf (hS : MST I A N) : BX F G I A N I A N := ⟨hS, Int.le_refl _, fun _ _ _ => ⟨rfl, rfl, rfl, id⟩, fun _ _ _ => rfl, fun _ _ _ _ _ _ _ _ => rfl⟩
theorem BX_tr (a : BX F G I A N I1 A1 N1) (b : BX F G I1 A1 N1 I2 A2 N2) : BX F G I A N I2 A2 N2 := by
  obtain ⟨a1, a2, a3, a4, a5⟩ := a
  obtain ⟨b1, b2, b3, b4, b5⟩ := b
  refine ⟨b1, by omega, fun k h0 h1 => ?_, fun j p q => (b4 j p q).trans (a4 j p q), fun a q1 q2 q3 q4 q5 q6 q7 => (b5 a q1 q2 q3 q4 q5 q6 q7).trans (a5 a q1 q2 q3 q4 q5 q6 q7)⟩
  have p := a3 k h0 h1
  have q := b3 k h0 (by omega)
  exact ⟨q.1.trans p.1, q.2.1.trans p.2.1, q.2.2.1.trans p.2.2.1, fun e => q.2.2.2 (p.2.2.2 e)⟩
theorem TZ_BX (hP : PW I A) (x : BX F G I A N I1 A1 N1) {k : Int} (h0 : 0 ≤ k) (h1 : k < I 7) : (1 ≤ TZ A ar k → TZ A1 ar k = TZ A ar k) ∧ (0 ≤ LZ A ar k → LZ A1 ar k = LZ A ar k) ∧ CZ A1 ar k = CZ A ar k := tz_ext hP (fun k a b => ⟨(x.2.2.1 k a b).1, (x.2.2.1 k a b).2.1, (x.2.2.1 k a b).2.2.2⟩) (fun _ _ _ _ => rfl) (k.toNat + 1) k h0 h1
theorem BX_EX (x : EX I A N I1 A1 N) (h10 : I1 10 = I 10) (h8 : A1 8 = A 8) (h9 : A1 9 = A 9) : BX F G I A N I1 A1 N := ⟨x.1, x.2.1, fun k a b => ⟨(x.2.2.1 k a b).1, (x.2.2.1 k a b).2.1, rfl, fun e => by rw [(x.2.2.1 k a b).2.2.2]; exact e⟩, fun j p _ => by
  by_cases e : j = 10
  · rw [e]
    exact h10
  · exact x.2.2.2.1 j p e, fun a q1 q2 q3 q4 q5 q6 _ => by
  by_cases e8 : a = 8
  · rw [e8]
    exact h8
  · by_cases e9 : a = 9
    · rw [e9]
      exact h9
    · exact x.2.2.2.2.1 a q1 q2 q3 q4 q5 q6 e8 e9⟩
end BXS
theorem mm_sizeOf (z : Value) (d : Nat) (k : Int) (ar : Int → Int) (h R : xx_H) (I : Nat → Int) (A : Nat → Int → Int) (N : Int → Int) (hc : 12 ≤ h.length) (hP : PW I A) (k0 : 0 ≤ k) (k1 : k < I 7) (hZ : SZI ar I A) (hk : 1 ≤ TZ A ar k) : xx_cl (xt_P z) (d + 3) 115 [.ref h.length, .int (iI k)] (mh h R I A N) (fun v h1 => (∃ s : Int, v = some (.int (iI s)) ∧ 1 ≤ s ∧ ((s = TZ A ar k ∧ s ≤ 30000) ∨ (s = 30000 ∧ 30000 ≤ TZ A ar k))) ∧ h1 = mh h R I A N) := by
  have p1 := hP.1
  have q := hP.2 k k0 k1
  refine cl_go rfl ?_
  show xx_go (xt_P z) (d + 2) 115 0 [some (.ref h.length), some (.int (iI k))] [] (mh h R I A N) _
  refine go_a (pc' := 1) (ls' := [some (.ref h.length), some (.int (iI k))]) (st' := [.ref h.length]) rfl rfl ?_
  refine go_a (pc' := 2) (ls' := [some (.ref h.length), some (.int (iI k))]) (st' := [.int (iI k), .ref h.length]) rfl rfl ?_
  refine go_v (m := 116) (as := [.ref h.length, .int (iI k)]) (r := []) rfl rfl rfl mh_o rfl rfl (mb_isCall z d k h R I A N hc hP k0 k1) (fun v h1 hq => ?_)
  obtain ⟨⟨b, rfl, hb⟩, rfl⟩ := hq
  show xx_go (xt_P z) (d + 2) 115 5 [some (.ref h.length), some (.int (iI k))] [.int (iI b)] (mh h R I A N) _
  refine mi_eq0 (t := 17) rfl rfl (by omega) (by omega) (fun e => ?_) (fun e => ?_)
  · have t1 : TZ A ar k = 1 := by
      by_cases e3 : A 1 k < 0
      · exact TZ_atom e3
      · exact TZ_quote hP k0 k1 (by omega)
    refine go_a (pc' := 18) (ls' := [some (.ref h.length), some (.int (iI k))]) (st' := [.int (iI 1)]) rfl rfl ?_
    exact go_r rfl rfl rfl rfl rfl rfl ⟨⟨1, rfl, by decide, Or.inl ⟨t1.symm, by decide⟩⟩, rfl⟩
  · have cl : 0 ≤ A 1 k ∧ A 1 k ≠ 2 := by omega
    have sz := hZ k k0 k1 cl.1 cl.2
    have t4 : A 4 k ≠ 0 := by
      intro e4
      rw [TZ_call hP k0 k1 cl.1 cl.2, if_neg (fun q => q.2.2 e4)] at hk
      exact absurd hk (by decide)
    have sz2 : 1 ≤ A 4 k ∧ ((A 4 k = TZ A ar k ∧ A 4 k ≤ 30000) ∨ (A 4 k = 30000 ∧ 30000 ≤ TZ A ar k)) := by
      rcases sz with s | ⟨a, s⟩
      · exact absurd s t4
      · rw [← TZ_two s.1 hk]
        exact s.2
    refine go_a (pc' := 9) (ls' := [some (.ref h.length), some (.int (iI k))]) (st' := [.ref h.length]) rfl rfl ?_
    refine go_get rfl mh_o rfl rfl ?_
    refine go_a (pc' := 13) (ls' := [some (.ref h.length), some (.int (iI k))]) (st' := [.int (iI k), .ref (h.length + 4)]) rfl rfl ?_
    refine mi_ild rfl mh_a4 (by omega) (by omega) (by decide) ?_
    refine go_a (pc' := 18) (ls' := [some (.ref h.length), some (.int (iI k))]) (st' := [.int (iI (A 4 k))]) rfl rfl ?_
    exact go_r rfl rfl rfl rfl rfl rfl ⟨⟨A 4 k, rfl, sz2.1, sz2.2⟩, rfl⟩
theorem mm_pairB (F G : Nat → Prop) (z : Value) (d : Nat) (l r : Int) (h R : xx_H) (I : Nat → Int) (A : Nat → Int → Int) (N : Int → Int) (hc : 12 ≤ h.length) (hS : MST I A N) (ho : I 7 < 140000) (l0 : 0 ≤ l) (l1 : l < I 7) (r0 : 0 ≤ r) (r1 : r < I 7) : xx_cl (xt_P z) (d + 2) 85 [.ref h.length, .int (iI l), .int (iI r)] (mh h R I A N) (fun v h1 => ∃ (k : Int) (I1 : Nat → Int) (A1 : Nat → Int → Int), v = some (.int (iI k)) ∧ h1 = mh h R I1 A1 N ∧ BX F G I A N I1 A1 N ∧ 0 ≤ k ∧ k < I1 7 ∧ A1 1 k = l ∧ A1 2 k = r ∧ I1 7 ≤ I 7 + 1 ∧ (∀ j : Nat, j ≠ 7 → I1 j = I j) ∧ (∀ a : Nat, a ≠ 1 → a ≠ 2 → a ≠ 3 → a ≠ 4 → a ≠ 5 → a ≠ 7 → A1 a = A a) ∧ (∀ j : Int, 0 ≤ j → j < I 7 → A1 4 j = A 4 j) ∧ (I 7 ≤ k → A1 4 k = 0) ∧ (I 7 < I1 7 → k = I 7)) := by
  refine cl_w (fun v h1 hq => ?_) (mm_pair z d l r h R I A N hc hS ho l0 l1 r0 r1)
  obtain ⟨k, I1, A1, rfl, rfl, S1, k0, k1, e1, e2, e3⟩ := hq
  rcases e3 with ⟨rfl, rfl⟩ | ⟨rfl, rfl, rfl, e4⟩
  · exact ⟨k, _, _, rfl, rfl, BX_rf S1, k0, k1, e1, e2, by omega, fun _ _ => rfl, fun _ _ _ _ _ _ _ => rfl, fun _ _ _ => rfl, fun q => absurd q (by omega), fun q => absurd q (by omega)⟩
  · refine ⟨_, _, _, rfl, rfl, ⟨S1, (show I 7 ≤ I 7 + 1 by omega), fun j j0 j1 => ?_, fun j p _ => su_ne p, fun a q1 q2 q3 q4 q5 q6 _ => addA_ne q1 q2 q3 q4 q5 q6⟩, k0, k1, e1, e2, Int.le_refl _, fun j p => su_ne p, fun a q1 q2 q3 q4 q5 q6 => addA_ne q1 q2 q3 q4 q5 q6, fun j j0 j1 => ?_, fun _ => sf_self, fun _ => rfl⟩
    · rw [addA_1, addA_2, addA_4, sf_ne (by omega), sf_ne (by omega), sf_ne (by omega)]
      exact ⟨rfl, rfl, rfl, id⟩
    · rw [addA_4, sf_ne (by omega)]
theorem SZI_grow {F G : Nat → Prop} {I I1 : Nat → Int} {A A1 : Nat → Int → Int} {N N1 : Int → Int} {ar : Int → Int} {k2 : Int} (hP : PW I A) (hZ : SZI ar I A) (x : BX F G I A N I1 A1 N1) (h7 : I1 7 ≤ I 7 + 1) (h4 : ∀ j : Int, 0 ≤ j → j < I 7 → A1 4 j = A 4 j) (hk : I 7 ≤ k2 → A1 4 k2 = 0) (hk2 : I 7 < I1 7 → k2 = I 7) : SZI ar I1 A1 := by
  intro k k0 k1 c1 c2
  by_cases e : k < I 7
  · have p := x.2.2.1 k k0 e
    rw [p.1] at c1 c2
    rw [h4 k k0 e]
    rcases hZ k k0 e c1 c2 with q | ⟨a, q⟩
    · exact Or.inl q
    · refine Or.inr ⟨a, ?_⟩
      rw [(TZ_BX (ar := a) hP x k0 e).1 q.1]
      exact q
  · have e2 := hk2 (by omega)
    rw [show k = k2 by omega]
    exact Or.inl (hk (by omega))

