def PW (I : Nat → Int) (A : Nat → Int → Int) : Prop := I 7 ≤ 140000 ∧ ∀ k : Int, 0 ≤ k → k < I 7 → -2 ≤ A 1 k ∧ A 1 k < k ∧ 0 ≤ A 2 k ∧ A 2 k < 140000 ∧ (0 ≤ A 1 k → A 2 k < k)
def rt (A : Nat → Int → Int) : Nat → Int → Int
  | 0, k => k
  | n + 1, k => rt A n (A 2 k)
def isL (A : Nat → Int → Int) : Nat → Int → Prop
  | 0, k => k = 0
  | n + 1, k => 0 ≤ A 1 k ∧ isL A n (A 2 k)
theorem isL_rt {I : Nat → Int} {A : Nat → Int → Int} (hP : PW I A) : ∀ (n j : Nat) (k : Int), 0 ≤ k → k < I 7 → isL A n k → j < n → 0 ≤ rt A j k ∧ rt A j k ≤ k ∧ 0 ≤ A 1 (rt A j k)
  | n + 1, 0, k, h0, _, hL, _ => ⟨h0, Int.le_refl _, hL.1⟩
  | n + 1, j + 1, k, h0, h1, hL, hj => by
    have q := hP.2 k h0 h1
    have q2 := q.2.2.2.2 hL.1
    have r := isL_rt hP n j (A 2 k) q.2.2.1 (by omega) hL.2 (by omega)
    exact ⟨r.1, by show rt A j (A 2 k) ≤ k; omega, r.2.2⟩
theorem mm_lengthOf_loop (z : Value) (d : Nat) (o : Int) (h R : xx_H) (I : Nat → Int) (A : Nat → Int → Int) (N : Int → Int) (hc : 12 ≤ h.length) (hP : PW I A) : ∀ (f : Nat) (k c : Int), k.toNat ≤ f → 0 ≤ k → k < I 7 → 0 ≤ c → c + k < 1000000 → xx_go (xt_P z) (d + 1) 98 4 [some (.ref h.length), some (.int (iI o)), some (.int (iI c)), some (.int (iI k))] [] (mh h R I A N) (fun v h1 => (∃ n : Int, v = some (.int (iI n)) ∧ (n = -1 ∨ ∃ q : Nat, n = c + q ∧ isL A q k)) ∧ h1 = mh h R I A N) := by
  intro f
  induction f with
  | zero =>
    intro k c hf h0 h1 c0 c1
    have e : k = 0 := by omega
    subst e
    have q := hP.2 0 h0 h1
    have hP1 := hP.1
    refine go_a (pc' := 5) (ls' := [some (.ref h.length), some (.int (iI o)), some (.int (iI c)), some (.int (iI 0))]) (st' := [.ref h.length]) rfl rfl ?_
    refine go_a (pc' := 6) (ls' := [some (.ref h.length), some (.int (iI o)), some (.int (iI c)), some (.int (iI 0))]) (st' := [.int (iI 0), .ref h.length]) rfl rfl ?_
    refine go_v (m := 96) (as := [.ref h.length, .int (iI 0)]) (r := []) rfl rfl rfl mh_o rfl rfl (mm_isPair z d 0 h R I A N hc (by omega) (by omega) (by omega) (by omega)) (fun v h1 hq => ?_)
    obtain ⟨rfl, rfl⟩ := hq
    rw [if_neg (by omega)]
    show xx_go (xt_P z) (d + 1) 98 9 [some (.ref h.length), some (.int (iI o)), some (.int (iI c)), some (.int (iI 0))] [.int (iI 0)] (mh h R I A N) _
    refine mi_eq0 (t := 25) rfl rfl (by omega) (by omega) (fun hb => ?_) (fun hb => absurd rfl hb)
    refine go_a (pc' := 26) (ls' := [some (.ref h.length), some (.int (iI o)), some (.int (iI c)), some (.int (iI 0))]) (st' := [.int (iI 0)]) rfl rfl ?_
    refine mi_ne0 (t := 33) rfl rfl (by omega) (by omega) (fun hb => absurd rfl hb) (fun hb => ?_)
    refine go_a (pc' := 30) (ls' := [some (.ref h.length), some (.int (iI o)), some (.int (iI c)), some (.int (iI 0))]) (st' := [.int (iI c)]) rfl rfl ?_
    refine go_a (pc' := 34) (ls' := [some (.ref h.length), some (.int (iI o)), some (.int (iI c)), some (.int (iI 0))]) (st' := [.int (iI c)]) rfl rfl ?_
    exact go_r rfl rfl rfl rfl rfl rfl ⟨⟨c, rfl, Or.inr ⟨0, by omega, rfl⟩⟩, rfl⟩
  | succ f ih =>
    intro k c hf h0 h1 c0 c1
    have q := hP.2 k h0 h1
    have hP1 := hP.1
    refine go_a (pc' := 5) (ls' := [some (.ref h.length), some (.int (iI o)), some (.int (iI c)), some (.int (iI k))]) (st' := [.ref h.length]) rfl rfl ?_
    refine go_a (pc' := 6) (ls' := [some (.ref h.length), some (.int (iI o)), some (.int (iI c)), some (.int (iI k))]) (st' := [.int (iI k), .ref h.length]) rfl rfl ?_
    refine go_v (m := 96) (as := [.ref h.length, .int (iI k)]) (r := []) rfl rfl rfl mh_o rfl rfl (mm_isPair z d k h R I A N hc (by omega) (by omega) (by omega) (by omega)) (fun v h1 hq => ?_)
    obtain ⟨rfl, rfl⟩ := hq
    by_cases hp : 0 ≤ A 1 k
    · rw [if_pos hp]
      have q2 := q.2.2.2.2 hp
      show xx_go (xt_P z) (d + 1) 98 9 [some (.ref h.length), some (.int (iI o)), some (.int (iI c)), some (.int (iI k))] [.int (iI 1)] (mh h R I A N) _
      refine mi_eq0 (t := 25) rfl rfl (by omega) (by omega) (fun hb => absurd hb (by decide)) (fun hb => ?_)
      refine go_a (pc' := 15) (ls' := [some (.ref h.length), some (.int (iI o)), some (.int (iI (c + 1))), some (.int (iI k))]) (st' := []) rfl (by rw [← iI_add c 1]; rfl) ?_
      refine go_a (pc' := 16) (ls' := [some (.ref h.length), some (.int (iI o)), some (.int (iI (c + 1))), some (.int (iI k))]) (st' := [.ref h.length]) rfl rfl ?_
      refine go_get rfl mh_o rfl rfl ?_
      refine go_a (pc' := 20) (ls' := [some (.ref h.length), some (.int (iI o)), some (.int (iI (c + 1))), some (.int (iI k))]) (st' := [.int (iI k), .ref (h.length + 2)]) rfl rfl ?_
      refine mi_ild rfl mh_a2 (by omega) (by omega) (by decide) ?_
      refine go_a (pc' := 22) (ls' := [some (.ref h.length), some (.int (iI o)), some (.int (iI (c + 1))), some (.int (iI (A 2 k)))]) (st' := []) rfl rfl ?_
      refine go_a (pc' := 4) (ls' := [some (.ref h.length), some (.int (iI o)), some (.int (iI (c + 1))), some (.int (iI (A 2 k)))]) (st' := []) rfl rfl ?_
      refine go_w (fun v h1 hq => ?_) (ih (A 2 k) (c + 1) (by omega) (by omega) (by omega) (by omega) (by omega))
      obtain ⟨⟨n, rfl, hn⟩, rfl⟩ := hq
      refine ⟨⟨n, rfl, ?_⟩, rfl⟩
      rcases hn with hn | ⟨q, hn, hl⟩
      · exact Or.inl hn
      · exact Or.inr ⟨q + 1, by omega, hp, hl⟩
    · rw [if_neg hp]
      show xx_go (xt_P z) (d + 1) 98 9 [some (.ref h.length), some (.int (iI o)), some (.int (iI c)), some (.int (iI k))] [.int (iI 0)] (mh h R I A N) _
      refine mi_eq0 (t := 25) rfl rfl (by omega) (by omega) (fun hb => ?_) (fun hb => absurd rfl hb)
      refine go_a (pc' := 26) (ls' := [some (.ref h.length), some (.int (iI o)), some (.int (iI c)), some (.int (iI k))]) (st' := [.int (iI k)]) rfl rfl ?_
      refine mi_ne0 (t := 33) rfl rfl (by omega) (by omega) (fun hb => ?_) (fun hb => ?_)
      · refine go_a (pc' := 34) (ls' := [some (.ref h.length), some (.int (iI o)), some (.int (iI c)), some (.int (iI k))]) (st' := [.int (iI ((-1)))]) rfl rfl ?_
        exact go_r rfl rfl rfl rfl rfl rfl ⟨⟨-1, rfl, Or.inl rfl⟩, rfl⟩
      · refine go_a (pc' := 30) (ls' := [some (.ref h.length), some (.int (iI o)), some (.int (iI c)), some (.int (iI k))]) (st' := [.int (iI c)]) rfl rfl ?_
        refine go_a (pc' := 34) (ls' := [some (.ref h.length), some (.int (iI o)), some (.int (iI c)), some (.int (iI k))]) (st' := [.int (iI c)]) rfl rfl ?_
        exact go_r rfl rfl rfl rfl rfl rfl ⟨⟨c, rfl, Or.inr ⟨0, by omega, show k = 0 by omega⟩⟩, rfl⟩
theorem mm_lengthOf (z : Value) (d : Nat) (k : Int) (h R : xx_H) (I : Nat → Int) (A : Nat → Int → Int) (N : Int → Int) (hc : 12 ≤ h.length) (hP : PW I A) (h0 : 0 ≤ k) (h1 : k < I 7) : xx_cl (xt_P z) (d + 2) 98 [.ref h.length, .int (iI k)] (mh h R I A N) (fun v h1 => (∃ n : Int, v = some (.int (iI n)) ∧ (n = -1 ∨ ∃ q : Nat, n = q ∧ isL A q k)) ∧ h1 = mh h R I A N) := by
  have hP1 := hP.1
  refine cl_go rfl ?_
  show xx_go (xt_P z) (d + 1) 98 0 [some (.ref h.length), some (.int (iI k)), none, none] [] (mh h R I A N) _
  refine go_a (pc' := 1) (ls' := [some (.ref h.length), some (.int (iI k)), none, none]) (st' := [.int (iI 0)]) rfl rfl ?_
  refine go_a (pc' := 2) (ls' := [some (.ref h.length), some (.int (iI k)), some (.int (iI 0)), none]) (st' := []) rfl rfl ?_
  refine go_a (pc' := 3) (ls' := [some (.ref h.length), some (.int (iI k)), some (.int (iI 0)), none]) (st' := [.int (iI k)]) rfl rfl ?_
  refine go_a (pc' := 4) (ls' := [some (.ref h.length), some (.int (iI k)), some (.int (iI 0)), some (.int (iI k))]) (st' := []) rfl rfl ?_
  refine go_w (fun v h1 hq => ?_) (mm_lengthOf_loop z d k h R I A N hc hP k.toNat k 0 (Nat.le_refl _) h0 h1 (by omega) (by omega))
  obtain ⟨⟨n, rfl, hn⟩, rfl⟩ := hq
  refine ⟨⟨n, rfl, ?_⟩, rfl⟩
  rcases hn with hn | ⟨q, hn, hl⟩
  · exact Or.inl hn
  · exact Or.inr ⟨q, by omega, hl⟩
theorem mm_nth_loop (z : Value) (d : Nat) (o m : Int) (h R : xx_H) (I : Nat → Int) (A : Nat → Int → Int) (N : Int → Int) (hc : 12 ≤ h.length) (hP : PW I A) (hm : m < 1000000) : ∀ (n : Nat) (k j : Int) (N0 : Nat), 0 ≤ j → j + n = m → 0 ≤ k → k < I 7 → isL A N0 k → n < N0 → xx_go (xt_P z) d 99 5 [some (.ref h.length), some (.int (iI o)), some (.int (iI m)), some (.int (iI k)), some (.int (iI j))] [] (mh h R I A N) (fun v h1 => v = some (.int (iI (A 1 (rt A n k)))) ∧ h1 = mh h R I A N) := by
  intro n
  have hP1 := hP.1
  induction n with
  | zero =>
    intro k j N0 j0 e h0 h1 hL hN
    have q := hP.2 k h0 h1
    refine go_a (pc' := 7) (ls' := [some (.ref h.length), some (.int (iI o)), some (.int (iI m)), some (.int (iI k)), some (.int (iI j))]) (st' := [.int (iI j)]) rfl rfl ?_
    refine go_a (pc' := 8) (ls' := [some (.ref h.length), some (.int (iI o)), some (.int (iI m)), some (.int (iI k)), some (.int (iI j))]) (st' := [.int (iI m), .int (iI j)]) rfl rfl ?_
    refine mi_ge (t := 24) rfl rfl (by omega) (by omega) (by omega) (by omega) (fun hb => ?_) (fun hb => absurd (show m ≤ j by omega) hb)
    refine go_a (pc' := 25) (ls' := [some (.ref h.length), some (.int (iI o)), some (.int (iI m)), some (.int (iI k)), some (.int (iI j))]) (st' := [.ref h.length]) rfl rfl ?_
    refine go_get rfl mh_o rfl rfl ?_
    refine go_a (pc' := 29) (ls' := [some (.ref h.length), some (.int (iI o)), some (.int (iI m)), some (.int (iI k)), some (.int (iI j))]) (st' := [.int (iI k), .ref (h.length + 1)]) rfl rfl ?_
    refine mi_ild rfl mh_a1 (by omega) (by omega) (by decide) ?_
    exact go_r rfl rfl rfl rfl rfl rfl ⟨rfl, rfl⟩
  | succ n ih =>
    intro k j N0 j0 e h0 h1 hL hN
    obtain ⟨N1, rfl⟩ : ∃ N1, N0 = N1 + 1 := ⟨N0 - 1, by omega⟩
    have q := hP.2 k h0 h1
    have q2 := q.2.2.2.2 hL.1
    refine go_a (pc' := 7) (ls' := [some (.ref h.length), some (.int (iI o)), some (.int (iI m)), some (.int (iI k)), some (.int (iI j))]) (st' := [.int (iI j)]) rfl rfl ?_
    refine go_a (pc' := 8) (ls' := [some (.ref h.length), some (.int (iI o)), some (.int (iI m)), some (.int (iI k)), some (.int (iI j))]) (st' := [.int (iI m), .int (iI j)]) rfl rfl ?_
    refine mi_ge (t := 24) rfl rfl (by omega) (by omega) (by omega) (by omega) (fun hb => absurd hb (by omega)) (fun hb => ?_)
    refine go_a (pc' := 12) (ls' := [some (.ref h.length), some (.int (iI o)), some (.int (iI m)), some (.int (iI k)), some (.int (iI j))]) (st' := [.ref h.length]) rfl rfl ?_
    refine go_get rfl mh_o rfl rfl ?_
    refine go_a (pc' := 16) (ls' := [some (.ref h.length), some (.int (iI o)), some (.int (iI m)), some (.int (iI k)), some (.int (iI j))]) (st' := [.int (iI k), .ref (h.length + 2)]) rfl rfl ?_
    refine mi_ild rfl mh_a2 (by omega) (by omega) (by decide) ?_
    refine go_a (pc' := 18) (ls' := [some (.ref h.length), some (.int (iI o)), some (.int (iI m)), some (.int (iI (A 2 k))), some (.int (iI j))]) (st' := []) rfl rfl ?_
    refine go_a (pc' := 21) (ls' := [some (.ref h.length), some (.int (iI o)), some (.int (iI m)), some (.int (iI (A 2 k))), some (.int (iI (j + 1)))]) (st' := []) rfl (by rw [← iI_add j 1]; rfl) ?_
    refine go_a (pc' := 5) (ls' := [some (.ref h.length), some (.int (iI o)), some (.int (iI m)), some (.int (iI (A 2 k))), some (.int (iI (j + 1)))]) (st' := []) rfl rfl ?_
    exact ih (A 2 k) (j + 1) N1 (by omega) (by omega) (by omega) (by omega) hL.2 (by omega)
theorem mm_nth (z : Value) (d n N0 : Nat) (k : Int) (h R : xx_H) (I : Nat → Int) (A : Nat → Int → Int) (N : Int → Int) (hc : 12 ≤ h.length) (hP : PW I A) (hm : (n : Int) < 1000000) (h0 : 0 ≤ k) (h1 : k < I 7) (hL : isL A N0 k) (hN : n < N0) : xx_cl (xt_P z) (d + 1) 99 [.ref h.length, .int (iI k), .int (iI n)] (mh h R I A N) (fun v h1 => v = some (.int (iI (A 1 (rt A n k)))) ∧ h1 = mh h R I A N) := by
  refine cl_go rfl ?_
  show xx_go (xt_P z) d 99 0 [some (.ref h.length), some (.int (iI k)), some (.int (iI n)), none, none] [] (mh h R I A N) _
  refine go_a (pc' := 1) (ls' := [some (.ref h.length), some (.int (iI k)), some (.int (iI n)), none, none]) (st' := [.int (iI k)]) rfl rfl ?_
  refine go_a (pc' := 2) (ls' := [some (.ref h.length), some (.int (iI k)), some (.int (iI n)), some (.int (iI k)), none]) (st' := []) rfl rfl ?_
  refine go_a (pc' := 3) (ls' := [some (.ref h.length), some (.int (iI k)), some (.int (iI n)), some (.int (iI k)), none]) (st' := [.int (iI 0)]) rfl rfl ?_
  refine go_a (pc' := 5) (ls' := [some (.ref h.length), some (.int (iI k)), some (.int (iI n)), some (.int (iI k)), some (.int (iI 0))]) (st' := []) rfl rfl ?_
  exact mm_nth_loop z d k n h R I A N hc hP hm n k 0 N0 (by omega) (by omega) h0 h1 hL hN
