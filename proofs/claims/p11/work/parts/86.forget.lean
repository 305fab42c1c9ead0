theorem hsh_N {A : Nat → Int → Int} {N : Int → Int} {e v k : Int} (hk : k ≠ e) : hsh A (sf N e v) k = hsh A N k := by
  unfold hsh
  rw [sf_ne hk]
theorem MST_N {I : Nat → Int} {A : Nat → Int → Int} {N : Int → Int} {v : Int} (hS : MST I A N) (v0 : 0 ≤ v) (v1 : v < 4611686018427387904) : MST I A (sf N (I 7) v) := by
  obtain ⟨a, b, c, ⟨e1, e2⟩, ⟨f1, f2, f3⟩, gg, gu, gn, gh⟩ := hS
  refine ⟨a, fun k h0 h1 => ?_, fun s h0 h1 => ?_, ⟨fun j k j0 jk k1 h3 => ?_, fun j j0 j1 => ?_⟩, ⟨f1, f2, fun k => ?_⟩, gg, gu, fun j k j0 jk k1 lj lk h3 => gn j k j0 jk k1 lj lk (by rw [sf_ne (by omega), sf_ne (by omega)] at h3; exact h3), gh⟩
  · have q := b k h0 h1
    unfold MOB at q ⊢
    refine ⟨q.1, ⟨q.2.1.1, q.2.1.2.1, fun hn => ?_⟩, q.2.2⟩
    rw [hsh_N (by omega), hsh_N (by omega)]
    exact q.2.1.2.2 hn
  · have q := c s h0 h1
    refine ⟨q.1, q.2.1, fun hn => ?_⟩
    rw [hsh_N (by omega)]
    exact q.2.2 hn
  · rw [hsh_N (by omega), hsh_N (by omega)] at h3
    exact e1 j k j0 jk k1 h3
  · rw [hsh_N (by omega)]
    exact e2 j j0 j1
  · by_cases e : k = I 7
    · rw [e, sf_self]
      exact ⟨v0, v1⟩
    · rw [sf_ne e]
      exact f3 k
theorem i64_inj {a b : Int} (a0 : 0 ≤ a) (a1 : a < 4611686018427387904) (b0 : 0 ≤ b) (b1 : b < 4611686018427387904) (h : Int64.ofInt a = Int64.ofInt b) : a = b := by
  have h2 := congrArg Int64.toInt h
  rw [Int64.toInt_ofInt_of_le (by omega) (by omega), Int64.toInt_ofInt_of_le (by omega) (by omega)] at h2
  exact h2
theorem mm_nat_loop (z : Value) (d : Nat) (v : Int) (h R : xx_H) (I : Nat → Int) (A : Nat → Int → Int) (N : Int → Int) (hc : 12 ≤ h.length) (hS : MST I A N) (ho : I 7 < 140000) (v0 : 0 ≤ v) (v1 : v < 4611686018427387904) : ∀ (f : Nat) (k : Int), (k + 1).toNat ≤ f → -1 ≤ k → k < I 7 → (0 ≤ k → hsh A N k = msl (nlo v) (nhi v)) → (∀ j : Int, k < j → 0 ≤ j → j < I 7 → ¬ (A 1 j = -1 ∧ N j = v)) → xx_go (xt_P z) (d + 1) 93 19 [some (.ref h.length), some (.long (Int64.ofInt v)), none, some (.int (iI (msl (nlo v) (nhi v)))), some (.int (iI k))] [] (mh h R I A N) (fun w h1 => ∃ (k : Int) (I1 : Nat → Int) (A1 : Nat → Int → Int) (N1 : Int → Int), w = some (.int (iI k)) ∧ h1 = mh h R I1 A1 N1 ∧ MST I1 A1 N1 ∧ 0 ≤ k ∧ k < I1 7 ∧ A1 1 k = -1 ∧ N1 k = v ∧ ((I1 = I ∧ A1 = A ∧ N1 = N) ∨ (k = I 7 ∧ I1 = su I 7 (I 7 + 1) ∧ A1 = addA A (I 7) (-1) 0 (msl (nlo v) (nhi v)) ∧ N1 = sf N (I 7) v))) := by
  have h1 := hS.1
  have sr := msl_rng (nlo v) (nhi v)
  have keyh : ∀ j : Int, A 1 j = -1 → N j = v → hsh A N j = msl (nlo v) (nhi v) := fun j e1 e2 => by
    unfold hsh
    rw [if_pos e1, e2]
  have last : (∀ j : Int, 0 ≤ j → j < I 7 → ¬ (A 1 j = -1 ∧ N j = v)) → xx_go (xt_P z) (d + 1) 93 19 [some (.ref h.length), some (.long (Int64.ofInt v)), none, some (.int (iI (msl (nlo v) (nhi v)))), some (.int (iI (-1)))] [] (mh h R I A N) (fun w h1 => ∃ (k : Int) (I1 : Nat → Int) (A1 : Nat → Int → Int) (N1 : Int → Int), w = some (.int (iI k)) ∧ h1 = mh h R I1 A1 N1 ∧ MST I1 A1 N1 ∧ 0 ≤ k ∧ k < I1 7 ∧ A1 1 k = -1 ∧ N1 k = v ∧ ((I1 = I ∧ A1 = A ∧ N1 = N) ∨ (k = I 7 ∧ I1 = su I 7 (I 7 + 1) ∧ A1 = addA A (I 7) (-1) 0 (msl (nlo v) (nhi v)) ∧ N1 = sf N (I 7) v))) := by
    intro hno
    refine go_a (pc' := 21) (ls' := [some (.ref h.length), some (.long (Int64.ofInt v)), none, some (.int (iI (msl (nlo v) (nhi v)))), some (.int (iI ((-1))))]) (st' := [.int (iI ((-1)))]) rfl rfl ?_
    refine go_a (pc' := 22) (ls' := [some (.ref h.length), some (.long (Int64.ofInt v)), none, some (.int (iI (msl (nlo v) (nhi v)))), some (.int (iI ((-1))))]) (st' := [.int (iI ((-1))), .int (iI ((-1)))]) rfl rfl ?_
    refine mi_eq (t := 63) rfl rfl (by omega) (by omega) (by omega) (by omega) (fun hb => ?_) (fun hb => absurd rfl hb)
    refine go_a (pc' := 64) (ls' := [some (.ref h.length), some (.long (Int64.ofInt v)), none, some (.int (iI (msl (nlo v) (nhi v)))), some (.int (iI ((-1))))]) (st' := [.ref h.length]) rfl rfl ?_
    refine go_get rfl mh_o rfl rfl ?_
    refine go_a (pc' := 68) (ls' := [some (.ref h.length), some (.long (Int64.ofInt v)), none, some (.int (iI (msl (nlo v) (nhi v)))), some (.int (iI ((-1))))]) (st' := [.ref h.length, .ref (h.length + 6)]) rfl rfl ?_
    refine go_get (v := .int (iI (I 7))) rfl mh_o rfl rfl ?_
    refine go_a (pc' := 72) (ls' := [some (.ref h.length), some (.long (Int64.ofInt v)), none, some (.int (iI (msl (nlo v) (nhi v)))), some (.int (iI ((-1))))]) (st' := [.long (Int64.ofInt v), .int (iI (I 7)), .ref (h.length + 6)]) rfl rfl ?_
    refine mi_lst rfl mh_a6 (show 12 ≤ _ by omega) (by omega) (by omega) (by decide) ?_
    rw [mh_w6 (by omega)]
    refine go_a (pc' := 74) (ls' := [some (.ref h.length), some (.long (Int64.ofInt v)), none, some (.int (iI (msl (nlo v) (nhi v)))), some (.int (iI ((-1))))]) (st' := [.ref h.length]) rfl rfl ?_
    refine go_a (pc' := 75) (ls' := [some (.ref h.length), some (.long (Int64.ofInt v)), none, some (.int (iI (msl (nlo v) (nhi v)))), some (.int (iI ((-1))))]) (st' := [.int (iI ((-1))), .ref h.length]) rfl rfl ?_
    refine go_a (pc' := 76) (ls' := [some (.ref h.length), some (.long (Int64.ofInt v)), none, some (.int (iI (msl (nlo v) (nhi v)))), some (.int (iI ((-1))))]) (st' := [.int (iI 0), .int (iI ((-1))), .ref h.length]) rfl rfl ?_
    refine go_a (pc' := 77) (ls' := [some (.ref h.length), some (.long (Int64.ofInt v)), none, some (.int (iI (msl (nlo v) (nhi v)))), some (.int (iI ((-1))))]) (st' := [.int (iI (msl (nlo v) (nhi v))), .int (iI 0), .int (iI ((-1))), .ref h.length]) rfl rfl ?_
    refine go_v (m := 65) (as := [.ref h.length, .int (iI ((-1))), .int (iI 0), .int (iI (msl (nlo v) (nhi v)))]) (r := []) rfl rfl rfl mh_o rfl rfl (mm_added z d (-1) 0 (msl (nlo v) (nhi v)) h R I A (sf N (I 7) v) hc h1.1 ho sr.1 sr.2 (by decide) (by decide) (by decide) (by decide) (fun q => absurd q (by decide))) (fun v h1 hq => ?_)
    obtain ⟨rfl, rfl⟩ := hq
    have hq : hsh (addA A (I 7) (-1) 0 (msl (nlo v) (nhi v))) (sf N (I 7) v) (I 7) = msl (nlo v) (nhi v) := by
      unfold hsh
      rw [addA_1, sf_self, sf_self, if_pos rfl]
    refine go_r rfl rfl rfl rfl rfl rfl ⟨I 7, _, _, _, rfl, rfl, MST_add (MST_N hS v0 v1) rfl ho hq (Or.inl ⟨rfl, rfl, fun j j0 j1 hj => hno j j0 j1 ⟨hj.1, by have h9 := hj.2; rw [sf_self, sf_ne (by omega)] at h9; exact h9⟩⟩), h1.1, (show I 7 < I 7 + 1 by omega), sf_self, sf_self, Or.inr ⟨rfl, rfl, rfl, rfl⟩⟩
  intro f
  induction f with
  | zero =>
    intro k hf k0 k1 hh hp
    have e : k = -1 := by omega
    subst e
    exact last (fun j j0 j1 => hp j (by omega) j0 j1)
  | succ f ih =>
    intro k hf k0 k1 hh hp
    by_cases e : k = -1
    · subst e
      exact last (fun j j0 j1 => hp j (by omega) j0 j1)
    have kk : 0 ≤ k := by omega
    have q := hS.2.1 k kk k1
    have qp := (MST_PW hS).2 k kk k1
    have nx : ¬ (A 1 k = -1 ∧ N k = v) → xx_go (xt_P z) (d + 1) 93 51 [some (.ref h.length), some (.long (Int64.ofInt v)), none, some (.int (iI (msl (nlo v) (nhi v)))), some (.int (iI k))] [] (mh h R I A N) (fun w h1 => ∃ (k : Int) (I1 : Nat → Int) (A1 : Nat → Int → Int) (N1 : Int → Int), w = some (.int (iI k)) ∧ h1 = mh h R I1 A1 N1 ∧ MST I1 A1 N1 ∧ 0 ≤ k ∧ k < I1 7 ∧ A1 1 k = -1 ∧ N1 k = v ∧ ((I1 = I ∧ A1 = A ∧ N1 = N) ∨ (k = I 7 ∧ I1 = su I 7 (I 7 + 1) ∧ A1 = addA A (I 7) (-1) 0 (msl (nlo v) (nhi v)) ∧ N1 = sf N (I 7) v))) := by
      intro hne
      have q3 := q.2.1
      refine go_a (pc' := 52) (ls' := [some (.ref h.length), some (.long (Int64.ofInt v)), none, some (.int (iI (msl (nlo v) (nhi v)))), some (.int (iI k))]) (st' := [.ref h.length]) rfl rfl ?_
      refine go_get rfl mh_o rfl rfl ?_
      refine go_a (pc' := 57) (ls' := [some (.ref h.length), some (.long (Int64.ofInt v)), none, some (.int (iI (msl (nlo v) (nhi v)))), some (.int (iI k))]) (st' := [.int (iI k), .ref (h.length + 3)]) rfl rfl ?_
      refine mi_ild rfl mh_a3 (by omega) (by omega) (by decide) ?_
      refine go_a (pc' := 60) (ls' := [some (.ref h.length), some (.long (Int64.ofInt v)), none, some (.int (iI (msl (nlo v) (nhi v)))), some (.int (iI (A 3 k)))]) (st' := []) rfl rfl ?_
      refine go_a (pc' := 19) (ls' := [some (.ref h.length), some (.long (Int64.ofInt v)), none, some (.int (iI (msl (nlo v) (nhi v)))), some (.int (iI (A 3 k)))]) (st' := []) rfl rfl ?_
      refine ih (A 3 k) (by omega) q3.1 (by omega) (fun hp2 => (q3.2.2 hp2).trans (hh kk)) (fun j j1 j0 j2 hj => ?_)
      by_cases ej : j = k
      · subst ej
        exact hne hj
      · by_cases ej2 : k < j
        · exact hp j ej2 j0 j2 hj
        · have q4 := hS.2.2.2.1.1 j k j0 (by omega) k1 ((keyh j hj.1 hj.2).trans (hh kk).symm)
          omega
    refine go_a (pc' := 21) (ls' := [some (.ref h.length), some (.long (Int64.ofInt v)), none, some (.int (iI (msl (nlo v) (nhi v)))), some (.int (iI k))]) (st' := [.int (iI k)]) rfl rfl ?_
    refine go_a (pc' := 22) (ls' := [some (.ref h.length), some (.long (Int64.ofInt v)), none, some (.int (iI (msl (nlo v) (nhi v)))), some (.int (iI k))]) (st' := [.int (iI ((-1))), .int (iI k)]) rfl rfl ?_
    refine mi_eq (t := 63) rfl rfl (by omega) (by omega) (by omega) (by omega) (fun hb => absurd hb e) (fun hb => ?_)
    refine go_a (pc' := 26) (ls' := [some (.ref h.length), some (.long (Int64.ofInt v)), none, some (.int (iI (msl (nlo v) (nhi v)))), some (.int (iI k))]) (st' := [.ref h.length]) rfl rfl ?_
    refine go_get rfl mh_o rfl rfl ?_
    refine go_a (pc' := 31) (ls' := [some (.ref h.length), some (.long (Int64.ofInt v)), none, some (.int (iI (msl (nlo v) (nhi v)))), some (.int (iI k))]) (st' := [.int (iI k), .ref (h.length + 1)]) rfl rfl ?_
    refine mi_ild rfl mh_a1 (by omega) (by omega) (by decide) ?_
    refine go_a (pc' := 33) (ls' := [some (.ref h.length), some (.long (Int64.ofInt v)), none, some (.int (iI (msl (nlo v) (nhi v)))), some (.int (iI k))]) (st' := [.int (iI ((-1))), .int (iI (A 1 k))]) rfl rfl ?_
    refine mi_ne (t := 51) rfl rfl (by omega) (by omega) (by omega) (by omega) (fun hb => nx (fun q2 => hb q2.1)) (fun hb => ?_)
    refine go_a (pc' := 37) (ls' := [some (.ref h.length), some (.long (Int64.ofInt v)), none, some (.int (iI (msl (nlo v) (nhi v)))), some (.int (iI k))]) (st' := [.ref h.length]) rfl rfl ?_
    refine go_get rfl mh_o rfl rfl ?_
    refine go_a (pc' := 42) (ls' := [some (.ref h.length), some (.long (Int64.ofInt v)), none, some (.int (iI (msl (nlo v) (nhi v)))), some (.int (iI k))]) (st' := [.int (iI k), .ref (h.length + 6)]) rfl rfl ?_
    refine mi_lld rfl mh_a6 (by omega) (by omega) (by decide) ?_
    refine go_a (pc' := 44) (ls' := [some (.ref h.length), some (.long (Int64.ofInt v)), none, some (.int (iI (msl (nlo v) (nhi v)))), some (.int (iI k))]) (st' := [.long (Int64.ofInt v), .long (Int64.ofInt (N k))]) rfl rfl ?_
    refine go_a (pc' := 45) (ls' := [some (.ref h.length), some (.long (Int64.ofInt v)), none, some (.int (iI (msl (nlo v) (nhi v)))), some (.int (iI k))]) (st' := [.int (lg_cmp (Int64.ofInt (N k)) (Int64.ofInt v))]) rfl rfl ?_
    refine go_if (t := 51) (off := 6) (b := decide (¬ lg_cmp (Int64.ofInt (N k)) (Int64.ofInt v) = 0)) (r := []) rfl rfl rfl (fun hb2 => nx (fun q2 => ?_)) (fun hb2 => ?_)
    · exact of_decide_eq_true hb2 ((lg_cmp_eq _ _).mpr (by rw [q2.2]))
    have e2 : lg_cmp (Int64.ofInt (N k)) (Int64.ofInt v) = 0 := Decidable.not_not.mp (of_decide_eq_false hb2)
    have r := hS.2.2.2.2.1.2.2 k
    have e3 := i64_inj r.1 r.2 v0 v1 ((lg_cmp_eq _ _).mp e2)
    refine go_a (pc' := 50) (ls' := [some (.ref h.length), some (.long (Int64.ofInt v)), none, some (.int (iI (msl (nlo v) (nhi v)))), some (.int (iI k))]) (st' := [.int (iI k)]) rfl rfl ?_
    exact go_r rfl rfl rfl rfl rfl rfl ⟨k, I, A, N, rfl, rfl, hS, kk, k1, by omega, e3, Or.inl ⟨rfl, rfl, rfl⟩⟩
theorem mm_natural (z : Value) (d : Nat) (v : Int) (h R : xx_H) (I : Nat → Int) (A : Nat → Int → Int) (N : Int → Int) (hc : 12 ≤ h.length) (hS : MST I A N) (ho : I 7 < 140000) (v0 : 0 ≤ v) (v1 : v < 4611686018427387904) : xx_cl (xt_P z) (d + 2) 93 [.ref h.length, .long (Int64.ofInt v)] (mh h R I A N) (fun w h1 => ∃ (k : Int) (I1 : Nat → Int) (A1 : Nat → Int → Int) (N1 : Int → Int), w = some (.int (iI k)) ∧ h1 = mh h R I1 A1 N1 ∧ MST I1 A1 N1 ∧ 0 ≤ k ∧ k < I1 7 ∧ A1 1 k = -1 ∧ N1 k = v ∧ ((I1 = I ∧ A1 = A ∧ N1 = N) ∨ (k = I 7 ∧ I1 = su I 7 (I 7 + 1) ∧ A1 = addA A (I 7) (-1) 0 (msl (nlo v) (nhi v)) ∧ N1 = sf N (I 7) v))) := by
  have sr := msl_rng (nlo v) (nhi v)
  have c := hS.2.2.1 _ sr.1 sr.2
  refine cl_go rfl ?_
  show xx_go (xt_P z) (d + 1) 93 0 [some (.ref h.length), some (.long (Int64.ofInt v)), none, none, none] [] (mh h R I A N) _
  refine go_a (pc' := 1) (ls' := [some (.ref h.length), some (.long (Int64.ofInt v)), none, none, none]) (st' := [.long (Int64.ofInt v)]) rfl rfl ?_
  refine go_a (pc' := 2) (ls' := [some (.ref h.length), some (.long (Int64.ofInt v)), none, none, none]) (st' := [.int (iI (nlo v))]) rfl (by rw [show iI (nlo v) = _ from (iI_of _).symm]; rfl) ?_
  refine go_a (pc' := 3) (ls' := [some (.ref h.length), some (.long (Int64.ofInt v)), none, none, none]) (st' := [.long (Int64.ofInt v), .int (iI (nlo v))]) rfl rfl ?_
  refine go_a (pc' := 5) (ls' := [some (.ref h.length), some (.long (Int64.ofInt v)), none, none, none]) (st' := [.int (iI 32), .long (Int64.ofInt v), .int (iI (nlo v))]) rfl rfl ?_
  refine go_a (pc' := 6) (ls' := [some (.ref h.length), some (.long (Int64.ofInt v)), none, none, none]) (st' := [.long (Int64.ofInt v >>> ((iI 32).toInt64 &&& 63)), .int (iI (nlo v))]) rfl rfl ?_
  refine go_a (pc' := 7) (ls' := [some (.ref h.length), some (.long (Int64.ofInt v)), none, none, none]) (st' := [.int (iI (nhi v)), .int (iI (nlo v))]) rfl (by rw [show iI (nhi v) = _ from (iI_of _).symm]; rfl) ?_
  refine go_s (m := 86) (as := [.int (iI (nlo v)), .int (iI (nhi v))]) (r := []) rfl rfl rfl rfl (mm_slot z d (nlo v) (nhi v) _) (fun v h1 hq => ?_)
  obtain ⟨rfl, rfl⟩ := hq
  show xx_go (xt_P z) (d + 1) 93 10 [some (.ref h.length), some (.long (Int64.ofInt v)), none, none, none] [.int (iI (msl (nlo v) (nhi v)))] (mh h R I A N) _
  refine go_a (pc' := 11) (ls' := [some (.ref h.length), some (.long (Int64.ofInt v)), none, some (.int (iI (msl (nlo v) (nhi v)))), none]) (st' := []) rfl rfl ?_
  refine go_a (pc' := 12) (ls' := [some (.ref h.length), some (.long (Int64.ofInt v)), none, some (.int (iI (msl (nlo v) (nhi v)))), none]) (st' := [.ref h.length]) rfl rfl ?_
  refine go_get rfl mh_o rfl rfl ?_
  refine go_a (pc' := 16) (ls' := [some (.ref h.length), some (.long (Int64.ofInt v)), none, some (.int (iI (msl (nlo v) (nhi v)))), none]) (st' := [.int (iI (msl (nlo v) (nhi v))), .ref (h.length + 7)]) rfl rfl ?_
  refine mi_ild rfl mh_a7 (by omega) (by omega) (by decide) ?_
  refine go_a (pc' := 19) (ls' := [some (.ref h.length), some (.long (Int64.ofInt v)), none, some (.int (iI (msl (nlo v) (nhi v)))), some (.int (iI (A 7 (msl (nlo v) (nhi v)))))]) (st' := []) rfl rfl ?_
  refine mm_nat_loop z d v h R I A N hc hS ho v0 v1 (A 7 (msl (nlo v) (nhi v)) + 1).toNat (A 7 (msl (nlo v) (nhi v))) (Nat.le_refl _) c.1 c.2.1 c.2.2 (fun j j1 j0 j2 hj => ?_)
  have e2 := hS.2.2.2.1.2 j j0 j2
  rw [show hsh A N j = msl (nlo v) (nhi v) by unfold hsh; rw [if_pos hj.1, hj.2]] at e2
  omega
theorem mm_slotOf (z : Value) (d : Nat) (k : Int) (h R : xx_H) (I : Nat → Int) (A : Nat → Int → Int) (N : Int → Int) (hc : 12 ≤ h.length) (k0 : 0 ≤ k) (k1 : k < 140000) (l0 : -2 ≤ A 1 k) (l1 : A 1 k < 140000) (r0 : 0 ≤ A 2 k) (r1 : A 2 k < 140000) (y1 : A 1 k = -2 → A 2 k < 4990 ∧ 0 ≤ A 9 (A 2 k) ∧ A 9 (A 2 k) ≤ 11) : xx_cl (xt_P z) (d + 2) 94 [.ref h.length, .int (iI k)] (mh h R I A N) (fun v h1 => v = some (.int (iI (hsh A N k))) ∧ h1 = mh h R I A N) := by
  refine cl_go rfl ?_
  show xx_go (xt_P z) (d + 1) 94 0 [some (.ref h.length), some (.int (iI k))] [] (mh h R I A N) _
  refine go_a (pc' := 1) (ls' := [some (.ref h.length), some (.int (iI k))]) (st' := [.ref h.length]) rfl rfl ?_
  refine go_get rfl mh_o rfl rfl ?_
  refine go_a (pc' := 5) (ls' := [some (.ref h.length), some (.int (iI k))]) (st' := [.int (iI k), .ref (h.length + 1)]) rfl rfl ?_
  refine mi_ild rfl mh_a1 (by omega) (by omega) (by decide) ?_
  refine go_a (pc' := 7) (ls' := [some (.ref h.length), some (.int (iI k))]) (st' := [.int (iI ((-1))), .int (iI (A 1 k))]) rfl rfl ?_
  refine mi_ne (t := 31) rfl rfl (by omega) (by omega) (by omega) (by omega) (fun hb => ?_) (fun hb => ?_)
  · refine go_a (pc' := 32) (ls' := [some (.ref h.length), some (.int (iI k))]) (st' := [.ref h.length]) rfl rfl ?_
    refine go_get rfl mh_o rfl rfl ?_
    refine go_a (pc' := 36) (ls' := [some (.ref h.length), some (.int (iI k))]) (st' := [.int (iI k), .ref (h.length + 1)]) rfl rfl ?_
    refine mi_ild rfl mh_a1 (by omega) (by omega) (by decide) ?_
    refine go_a (pc' := 39) (ls' := [some (.ref h.length), some (.int (iI k))]) (st' := [.int (iI ((-2))), .int (iI (A 1 k))]) rfl rfl ?_
    refine mi_ne (t := 70) rfl rfl (by omega) (by omega) (by omega) (by omega) (fun hb2 => ?_) (fun hb2 => ?_)
    · refine go_a (pc' := 71) (ls' := [some (.ref h.length), some (.int (iI k))]) (st' := [.ref h.length]) rfl rfl ?_
      refine go_get rfl mh_o rfl rfl ?_
      refine go_a (pc' := 75) (ls' := [some (.ref h.length), some (.int (iI k))]) (st' := [.int (iI k), .ref (h.length + 1)]) rfl rfl ?_
      refine mi_ild rfl mh_a1 (by omega) (by omega) (by decide) ?_
      refine go_a (pc' := 77) (ls' := [some (.ref h.length), some (.int (iI k))]) (st' := [.ref h.length, .int (iI (A 1 k))]) rfl rfl ?_
      refine go_get rfl mh_o rfl rfl ?_
      refine go_a (pc' := 81) (ls' := [some (.ref h.length), some (.int (iI k))]) (st' := [.int (iI k), .ref (h.length + 2), .int (iI (A 1 k))]) rfl rfl ?_
      refine mi_ild rfl mh_a2 (by omega) (by omega) (by decide) ?_
      refine go_s (m := 86) (as := [.int (iI (A 1 k)), .int (iI (A 2 k))]) (r := []) rfl rfl rfl rfl (mm_slot z d (A 1 k) (A 2 k) _) (fun v h1 hq => ?_)
      obtain ⟨rfl, rfl⟩ := hq
      show xx_go (xt_P z) (d + 1) 94 85 [some (.ref h.length), some (.int (iI k))] [.int (iI (msl (A 1 k) (A 2 k)))] (mh h R I A N) _
      exact go_r rfl rfl rfl rfl rfl rfl ⟨by unfold hsh; rw [if_neg hb, if_neg hb2], rfl⟩
    · have e2 : A 1 k = -2 := by omega
      have y2 := y1 e2
      refine go_a (pc' := 43) (ls' := [some (.ref h.length), some (.int (iI k))]) (st' := [.ref h.length]) rfl rfl ?_
      refine go_a (pc' := 45) (ls' := [some (.ref h.length), some (.int (iI k))]) (st' := [.int (iI 12), .ref h.length]) rfl rfl ?_
      refine go_a (pc' := 46) (ls' := [some (.ref h.length), some (.int (iI k))]) (st' := [.ref h.length, .int (iI 12), .ref h.length]) rfl rfl ?_
      refine go_get rfl mh_o rfl rfl ?_
      refine go_a (pc' := 50) (ls' := [some (.ref h.length), some (.int (iI k))]) (st' := [.int (iI k), .ref (h.length + 2), .int (iI 12), .ref h.length]) rfl rfl ?_
      refine mi_ild rfl mh_a2 (by omega) (by omega) (by decide) ?_
      refine mi_mul rfl ?_
      refine go_a (pc' := 53) (ls' := [some (.ref h.length), some (.int (iI k))]) (st' := [.ref h.length, .int (iI (12 * (A 2 k))), .ref h.length]) rfl rfl ?_
      refine go_get rfl mh_o rfl rfl ?_
      refine go_a (pc' := 57) (ls' := [some (.ref h.length), some (.int (iI k))]) (st' := [.ref h.length, .ref (h.length + 9), .int (iI (12 * (A 2 k))), .ref h.length]) rfl rfl ?_
      refine go_get rfl mh_o rfl rfl ?_
      refine go_a (pc' := 61) (ls' := [some (.ref h.length), some (.int (iI k))]) (st' := [.int (iI k), .ref (h.length + 2), .ref (h.length + 9), .int (iI (12 * (A 2 k))), .ref h.length]) rfl rfl ?_
      refine mi_ild rfl mh_a2 (by omega) (by omega) (by decide) ?_
      refine mi_ild rfl mh_a9 (by omega) (by omega) (by decide) ?_
      refine go_a (pc' := 64) (ls' := [some (.ref h.length), some (.int (iI k))]) (st' := [.int (iI 0), .int (iI (A 9 (A 2 k))), .int (iI (12 * (A 2 k))), .ref h.length]) rfl rfl ?_
      rw [show iI (A 9 (A 2 k)) = iI ((A 9 (A 2 k)).toNat : Int) by rw [Int.toNat_of_nonneg y2.2.1]]
      refine go_v (m := 63) (as := [.ref h.length, .int (iI (12 * (A 2 k))), .int (iI (((A 9 (A 2 k)).toNat : Int))), .int (iI 0)]) (r := []) rfl rfl rfl mh_o rfl rfl (mm_spelledN z d (A 9 (A 2 k)).toNat (12 * A 2 k) h R I A N hc (by omega) (by omega)) (fun v h1 hq => ?_)
      obtain ⟨rfl, rfl⟩ := hq
      show xx_go (xt_P z) (d + 1) 94 67 [some (.ref h.length), some (.int (iI k))] [.int (iI (mand (msp (A 8) (A 9 (A 2 k)).toNat (12 * A 2 k) 5)))] (mh h R I A N) _
      refine go_a (pc' := 85) (ls' := [some (.ref h.length), some (.int (iI k))]) (st' := [.int (iI (mand (msp (A 8) (A 9 (A 2 k)).toNat (12 * A 2 k) 5)))]) rfl rfl ?_
      exact go_r rfl rfl rfl rfl rfl rfl ⟨by unfold hsh; rw [if_neg hb, if_pos e2], rfl⟩
  · have e1 : A 1 k = -1 := by omega
    refine go_a (pc' := 11) (ls' := [some (.ref h.length), some (.int (iI k))]) (st' := [.ref h.length]) rfl rfl ?_
    refine go_get rfl mh_o rfl rfl ?_
    refine go_a (pc' := 15) (ls' := [some (.ref h.length), some (.int (iI k))]) (st' := [.int (iI k), .ref (h.length + 6)]) rfl rfl ?_
    refine mi_lld rfl mh_a6 (by omega) (by omega) (by decide) ?_
    refine go_a (pc' := 17) (ls' := [some (.ref h.length), some (.int (iI k))]) (st' := [.int (iI (nlo (N k)))]) rfl (by rw [show iI (nlo (N k)) = _ from (iI_of _).symm]; rfl) ?_
    refine go_a (pc' := 18) (ls' := [some (.ref h.length), some (.int (iI k))]) (st' := [.ref h.length, .int (iI (nlo (N k)))]) rfl rfl ?_
    refine go_get rfl mh_o rfl rfl ?_
    refine go_a (pc' := 22) (ls' := [some (.ref h.length), some (.int (iI k))]) (st' := [.int (iI k), .ref (h.length + 6), .int (iI (nlo (N k)))]) rfl rfl ?_
    refine mi_lld rfl mh_a6 (by omega) (by omega) (by decide) ?_
    refine go_a (pc' := 25) (ls' := [some (.ref h.length), some (.int (iI k))]) (st' := [.int (iI 32), .long (Int64.ofInt (N k)), .int (iI (nlo (N k)))]) rfl rfl ?_
    refine go_a (pc' := 26) (ls' := [some (.ref h.length), some (.int (iI k))]) (st' := [.long (Int64.ofInt (N k) >>> ((iI 32).toInt64 &&& 63)), .int (iI (nlo (N k)))]) rfl rfl ?_
    refine go_a (pc' := 27) (ls' := [some (.ref h.length), some (.int (iI k))]) (st' := [.int (iI (nhi (N k))), .int (iI (nlo (N k)))]) rfl (by rw [show iI (nhi (N k)) = _ from (iI_of _).symm]; rfl) ?_
    refine go_s (m := 86) (as := [.int (iI (nlo (N k))), .int (iI (nhi (N k)))]) (r := []) rfl rfl rfl rfl (mm_slot z d (nlo (N k)) (nhi (N k)) _) (fun v h1 hq => ?_)
    obtain ⟨rfl, rfl⟩ := hq
    show xx_go (xt_P z) (d + 1) 94 30 [some (.ref h.length), some (.int (iI k))] [.int (iI (msl (nlo (N k)) (nhi (N k))))] (mh h R I A N) _
    exact go_r rfl rfl rfl rfl rfl rfl ⟨by unfold hsh; rw [if_pos e1], rfl⟩
theorem su_ne {I : Nat → Int} {j i : Nat} {x : Int} (h : i ≠ j) : su I j x i = I i := by
  unfold su
  cases hb : Nat.beq i j with
  | true => exact absurd (Nat.eq_of_beq_eq_true hb) h
  | false => rfl
theorem sa_ne {A : Nat → Int → Int} {a b : Nat} {e x : Int} (h : b ≠ a) : sa A a e x b = A b := by
  unfold sa
  cases hb : Nat.beq b a with
  | true => exact absurd (Nat.eq_of_beq_eq_true hb) h
  | false => rfl
theorem su_eta {I : Nat → Int} {j : Nat} {x : Int} (h : I j = x) : su I j x = I := by
  funext i
  unfold su
  cases hb : Nat.beq i j with
  | true => rw [Nat.eq_of_beq_eq_true hb, h]
  | false => rfl
theorem hsh_7 {A : Nat → Int → Int} {N : Int → Int} {e x k : Int} : hsh (sa A 7 e x) N k = hsh A N k := rfl
theorem MST_pop {I : Nat → Int} {A : Nat → Int → Int} {N : Int → Int} {c : Int} (hS : MST I A N) (h0 : 0 < I 7) (hc : (A 1 (I 7 - 1) = -2 → c = I 10 - 1) ∧ (¬ A 1 (I 7 - 1) = -2 → c = I 10)) : MST (su (su I 7 (I 7 - 1)) 10 c) (sa A 7 (hsh A N (I 7 - 1)) (A 3 (I 7 - 1))) N := by
  obtain ⟨⟨a1, a2, a3, a4, a5⟩, b, cc, ⟨e1, e2⟩, ⟨f1, f2, f3⟩, gg, gu, gn, gh⟩ := hS
  have qo := b (I 7 - 1) (by omega) (by omega)
  have i7 : (su (su I 7 (I 7 - 1)) 10 c) 7 = I 7 - 1 := rfl
  have i10 : (su (su I 7 (I 7 - 1)) 10 c) 10 = c := rfl
  have hr := hsh_rng A N (I 7 - 1)
  have q0 := qo.1
  have q3 := qo.2.1
  have c0 : 0 ≤ c ∧ c ≤ I 10 := by omega
  have j1 : (sa A 7 (hsh A N (I 7 - 1)) (A 3 (I 7 - 1))) 7 = sf (A 7) (hsh A N (I 7 - 1)) (A 3 (I 7 - 1)) := rfl
  have a6 : c = SC (A 1) (I 7 - 1).toNat + 0 := by
    have s1 := SC_s (f := A 1) (m := I 7 - 1) (by omega)
    rw [show I 7 - 1 + 1 = I 7 by omega] at s1
    by_cases e : A 1 (I 7 - 1) = -2
    · rw [if_pos e] at s1
      have := hc.1 e
      omega
    · rw [if_neg e] at s1
      have := hc.2 e
      omega
  refine ⟨by rw [i7, i10]; exact ⟨by omega, by omega, by omega, by omega, a6⟩, fun k h0 h1 => ?_, fun s h0 h1 => ?_, ⟨fun j k j0 jk k1 h3 => ?_, fun j j0 j2 => ?_⟩, ⟨fun s s0 s1 => ?_, f2, f3⟩, fun j k j0 jk k1 => ?_, fun j k j0 jk k1 => ?_, fun j k j0 jk k1 => ?_, fun k k0 k1 => ?_⟩
  · rw [i7] at h1
    have q := b k h0 (by omega)
    unfold MOB at q ⊢
    rw [i10]
    refine ⟨?_, q.2.1, q.2.2⟩
    rcases q.1 with q1 | q1 | q1
    · exact Or.inl q1
    · refine Or.inr (Or.inl ⟨q1.1, q1.2.1, ?_⟩)
      show A 2 k < c
      by_cases e : A 1 (I 7 - 1) = -2
      · have := gg k (I 7 - 1) h0 (by omega) (by omega) q1.1 e
        omega
      · omega
    · exact Or.inr (Or.inr q1)
  · rw [i7, j1]
    by_cases e : s = hsh A N (I 7 - 1)
    · rw [e, sf_self]
      exact ⟨q3.1, q3.2.1, q3.2.2⟩
    · rw [sf_ne e]
      have q := cc s h0 h1
      refine ⟨q.1, ?_, q.2.2⟩
      by_cases e3 : A 7 s = I 7 - 1
      · have := q.2.2 (by omega)
        rw [e3] at this
        exact absurd this.symm e
      · omega
  · rw [i7] at k1
    exact e1 j k j0 jk (by omega) h3
  · rw [i7] at j2
    rw [j1]
    show j ≤ sf (A 7) _ _ (hsh A N j)
    by_cases e : hsh A N j = hsh A N (I 7 - 1)
    · rw [e, sf_self]
      exact e1 j (I 7 - 1) j0 j2 (by omega) e
    · rw [sf_ne e]
      exact e2 j j0 (by omega)
  · rw [i10] at s1
    exact f1 s s0 (by omega)
  · rw [i7] at k1
    exact gg j k j0 jk (by omega)
  · rw [i7] at k1
    exact gu j k j0 jk (by omega)
  · rw [i7] at k1
    exact gn j k j0 jk (by omega)
  · rw [i7] at k1
    exact gh k k0 (by omega)
theorem mm_forget_loop (z : Value) (d : Nat) (w : Int) (h R : xx_H) (N : Int → Int) (hc : 12 ≤ h.length) (w0 : 0 ≤ w) : ∀ (f : Nat) (I : Nat → Int) (A : Nat → Int → Int), (I 7 - w).toNat ≤ f → w ≤ I 7 → MST I A N → xx_go (xt_P z) (d + 2) 73 0 [some (.ref h.length), some (.int (iI w))] [] (mh h R I A N) (fun v h1 => v = none ∧ ∃ (I1 : Nat → Int) (A1 : Nat → Int → Int), h1 = mh h R I1 A1 N ∧ MST I1 A1 N ∧ I1 7 = w ∧ I1 10 ≤ I 10 ∧ (∀ j : Nat, j ≠ 7 → j ≠ 10 → I1 j = I j) ∧ ∀ a : Nat, a ≠ 7 → A1 a = A a) := by
  intro f
  induction f with
  | zero =>
    intro I A hf hw hS
    have h1 := hS.1
    refine go_a (pc' := 1) (ls' := [some (.ref h.length), some (.int (iI w))]) (st' := [.ref h.length]) rfl rfl ?_
    refine go_get (v := .int (iI (I 7))) rfl mh_o rfl rfl ?_
    refine go_a (pc' := 5) (ls' := [some (.ref h.length), some (.int (iI w))]) (st' := [.int (iI w), .int (iI (I 7))]) rfl rfl ?_
    refine mi_le (t := 67) rfl rfl (by omega) (by omega) (by omega) (by omega) (fun hb => ?_) (fun hb => absurd (show I 7 ≤ w by omega) hb)
    exact go_r rfl rfl rfl rfl rfl rfl ⟨rfl, I, A, rfl, hS, by omega, Int.le_refl _, fun _ _ _ => rfl, fun _ _ => rfl⟩
  | succ f ih =>
    intro I A hf hw hS
    have h1 := hS.1
    refine go_a (pc' := 1) (ls' := [some (.ref h.length), some (.int (iI w))]) (st' := [.ref h.length]) rfl rfl ?_
    refine go_get (v := .int (iI (I 7))) rfl mh_o rfl rfl ?_
    refine go_a (pc' := 5) (ls' := [some (.ref h.length), some (.int (iI w))]) (st' := [.int (iI w), .int (iI (I 7))]) rfl rfl ?_
    refine mi_le (t := 67) rfl rfl (by omega) (by omega) (by omega) (by omega) (fun hb => ?_) (fun hb => ?_)
    · exact go_r rfl rfl rfl rfl rfl rfl ⟨rfl, I, A, rfl, hS, by omega, Int.le_refl _, fun _ _ _ => rfl, fun _ _ => rfl⟩
    · have qo := hS.2.1 (I 7 - 1) (by omega) (by omega)
      have qp := (MST_PW hS).2 (I 7 - 1) (by omega) (by omega)
      have q0 := qo.1
      have hr := hsh_rng A N (I 7 - 1)
      have ql := hS.2.2.2.2.1.1
      refine go_a (pc' := 9) (ls' := [some (.ref h.length), some (.int (iI w))]) (st' := [.ref h.length]) rfl rfl ?_
      refine go_a (pc' := 10) (ls' := [some (.ref h.length), some (.int (iI w))]) (st' := [.ref h.length, .ref h.length]) rfl rfl ?_
      refine go_get (v := .int (iI (I 7))) rfl mh_o rfl rfl ?_
      refine go_a (pc' := 14) (ls' := [some (.ref h.length), some (.int (iI w))]) (st' := [.int (iI 1), .int (iI (I 7)), .ref h.length]) rfl rfl ?_
      refine mi_sub rfl ?_
      refine go_put (j := 7) rfl mh_o rfl rfl (show 12 ≤ _ from hc) (show 7 < 86 by decide) rfl rfl ?_
      rw [mh_p7]
      refine go_a (pc' := 19) (ls' := [some (.ref h.length), some (.int (iI w))]) (st' := [.ref h.length]) rfl rfl ?_
      refine go_get rfl mh_o rfl rfl ?_
      refine go_a (pc' := 23) (ls' := [some (.ref h.length), some (.int (iI w))]) (st' := [.ref h.length, .ref (h.length + 7)]) rfl rfl ?_
      refine go_a (pc' := 24) (ls' := [some (.ref h.length), some (.int (iI w))]) (st' := [.ref h.length, .ref h.length, .ref (h.length + 7)]) rfl rfl ?_
      refine go_get (v := .int (iI ((I 7) - 1))) rfl mh_o rfl rfl ?_
      refine go_v (m := 94) (as := [.ref h.length, .int (iI ((I 7) - 1))]) (r := [.ref (h.length + 7)]) rfl rfl rfl mh_o rfl rfl (mm_slotOf z d (I 7 - 1) h R (su I 7 (I 7 - 1)) A N hc (by omega) (by omega) (by omega) (by omega) (by omega) (by omega) (fun e => ⟨by omega, ql _ (by omega) (by omega)⟩)) (fun v h1 hq => ?_)
      obtain ⟨rfl, rfl⟩ := hq
      show xx_go (xt_P z) (d + 2) 73 30 [some (.ref h.length), some (.int (iI w))] [.int (iI (hsh A N (I 7 - 1))), .ref (h.length + 7)] (mh h R (su I 7 ((I 7) - 1)) A N) _
      refine go_a (pc' := 31) (ls' := [some (.ref h.length), some (.int (iI w))]) (st' := [.ref h.length, .int (iI (hsh A N (I 7 - 1))), .ref (h.length + 7)]) rfl rfl ?_
      refine go_get rfl mh_o rfl rfl ?_
      refine go_a (pc' := 35) (ls' := [some (.ref h.length), some (.int (iI w))]) (st' := [.ref h.length, .ref (h.length + 3), .int (iI (hsh A N (I 7 - 1))), .ref (h.length + 7)]) rfl rfl ?_
      refine go_get (v := .int (iI ((I 7) - 1))) rfl mh_o rfl rfl ?_
      refine mi_ild rfl mh_a3 (by omega) (by omega) (by decide) ?_
      refine mi_ist rfl mh_a7 (show 12 ≤ _ by omega) (by omega) (by omega) (by decide) ?_
      rw [mh_w7 (by omega)]
      refine go_a (pc' := 41) (ls' := [some (.ref h.length), some (.int (iI w))]) (st' := [.ref h.length]) rfl rfl ?_
      refine go_get rfl mh_o rfl rfl ?_
      refine go_a (pc' := 45) (ls' := [some (.ref h.length), some (.int (iI w))]) (st' := [.ref h.length, .ref (h.length + 1)]) rfl rfl ?_
      refine go_get (v := .int (iI ((I 7) - 1))) rfl mh_o rfl rfl ?_
      refine mi_ild rfl mh_a1 (by omega) (by omega) (by decide) ?_
      show xx_go (xt_P z) (d + 2) 73 49 [some (.ref h.length), some (.int (iI w))] [.int (iI (A 1 ((I 7) - 1)))] (mh h R (su I 7 ((I 7) - 1)) (sa A 7 (hsh A N (I 7 - 1)) (A 3 ((I 7) - 1))) N) _
      refine go_a (pc' := 51) (ls' := [some (.ref h.length), some (.int (iI w))]) (st' := [.int (iI ((-2))), .int (iI (A 1 ((I 7) - 1)))]) rfl rfl ?_
      refine mi_ne (t := 0) rfl rfl (by omega) (by omega) (by omega) (by omega) (fun hb2 => ?_) (fun hb2 => ?_)
      · have S2 := MST_pop (c := I 10) hS (by omega) ⟨fun e => by omega, fun e => by omega⟩
        rw [show su (su I 7 (I 7 - 1)) 10 (I 10) = su I 7 (I 7 - 1) from su_eta rfl] at S2
        refine go_w (fun v h1 hq => ?_) (ih (su I 7 (I 7 - 1)) _ (show (I 7 - 1 - w).toNat ≤ f by omega) (show w ≤ I 7 - 1 by omega) S2)
        obtain ⟨rfl, I1, A1, rfl, S1, e1, e2, e3, e4⟩ := hq
        exact ⟨rfl, I1, A1, rfl, S1, e1, e2, fun j j7 j10 => (e3 j j7 j10).trans (su_ne j7), fun a a7 => (e4 a a7).trans (sa_ne a7)⟩
      · refine go_a (pc' := 55) (ls' := [some (.ref h.length), some (.int (iI w))]) (st' := [.ref h.length]) rfl rfl ?_
        refine go_a (pc' := 56) (ls' := [some (.ref h.length), some (.int (iI w))]) (st' := [.ref h.length, .ref h.length]) rfl rfl ?_
        refine go_get (v := .int (iI (I 10))) rfl mh_o rfl rfl ?_
        refine go_a (pc' := 60) (ls' := [some (.ref h.length), some (.int (iI w))]) (st' := [.int (iI 1), .int (iI (I 10)), .ref h.length]) rfl rfl ?_
        refine mi_sub rfl ?_
        refine go_put (j := 10) rfl mh_o rfl rfl (show 12 ≤ _ from hc) (show 10 < 86 by decide) rfl rfl ?_
        rw [mh_p10]
        refine go_a (pc' := 0) (ls' := [some (.ref h.length), some (.int (iI w))]) (st' := []) rfl rfl ?_
        have S2 := MST_pop (c := (I 10 - 1)) hS (by omega) ⟨fun e => by omega, fun e => by omega⟩
        refine go_w (fun v h1 hq => ?_) (ih (su (su I 7 (I 7 - 1)) 10 (I 10 - 1)) _ (show (I 7 - 1 - w).toNat ≤ f by omega) (show w ≤ I 7 - 1 by omega) S2)
        obtain ⟨rfl, I1, A1, rfl, S1, e1, e2, e3, e4⟩ := hq
        exact ⟨rfl, I1, A1, rfl, S1, e1, by have e5 : I1 10 ≤ I 10 - 1 := e2; omega, fun j j7 j10 => ((e3 j j7 j10).trans (su_ne j10)).trans (su_ne j7), fun a a7 => (e4 a a7).trans (sa_ne a7)⟩
theorem mm_forget (z : Value) (d : Nat) (w : Int) (h R : xx_H) (I : Nat → Int) (A : Nat → Int → Int) (N : Int → Int) (hc : 12 ≤ h.length) (w0 : 0 ≤ w) (hw : w ≤ I 7) (hS : MST I A N) : xx_cl (xt_P z) (d + 3) 73 [.ref h.length, .int (iI w)] (mh h R I A N) (fun v h1 => v = none ∧ ∃ (I1 : Nat → Int) (A1 : Nat → Int → Int), h1 = mh h R I1 A1 N ∧ MST I1 A1 N ∧ I1 7 = w ∧ I1 10 ≤ I 10 ∧ (∀ j : Nat, j ≠ 7 → j ≠ 10 → I1 j = I j) ∧ ∀ a : Nat, a ≠ 7 → A1 a = A a) := by
  refine cl_go rfl ?_
  exact mm_forget_loop z d w h R N hc w0 _ I A (Nat.le_refl _) hw hS
