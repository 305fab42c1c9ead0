def uw (A : Nat → Int → Int) : Nat → Int → Int
  | 0, _ => 0
  | n + 1, k => (WD A (A 1 (A 2 (A 1 k))) - 1) + uw A n (A 2 k)
def PD (A : Nat → Int → Int) (m : Nat) (l : Int) : Prop := ∀ i j : Nat, i < j → j < m → A 1 (A 1 (rt A i l)) ≠ A 1 (A 1 (rt A j l))
def PQ (A : Nat → Int → Int) (ar : Int → Int) (p : Int) : Prop := isL A 2 p ∧ (A 1 (A 1 p) = -2 ∧ 1 < A 1 p) ∧ TOK A ar (A 1 (A 2 p))
theorem rt_dec {I : Nat → Int} {A : Nat → Int → Int} (hP : PW I A) : ∀ (n a : Nat) (k : Int), 0 ≤ k → k < I 7 → isL A n k → a < n → rt A (a + 1) k < rt A a k := by
  intro n a k h0 h1 hL ha
  have r := isL_rt hP n a k h0 h1 hL ha
  have q := hP.2 _ r.1 (by omega : rt A a k < I 7)
  rw [rt_succ]
  exact q.2.2.2.2 r.2.2
theorem rt_dec2 {I : Nat → Int} {A : Nat → Int → Int} (hP : PW I A) (n a : Nat) (k : Int) (h0 : 0 ≤ k) (h1 : k < I 7) (hL : isL A n k) : ∀ c : Nat, a + c < n → rt A (a + c + 1) k < rt A a k
  | 0, h => rt_dec hP n a k h0 h1 hL h
  | c + 1, h => by
    have x := rt_dec2 hP n a k h0 h1 hL c (by omega)
    have y := rt_dec hP n (a + c + 1) k h0 h1 hL (by omega)
    have y : rt A (a + (c + 1) + 1) k < rt A (a + c + 1) k := y
    omega
theorem uw_succ (A : Nat → Int → Int) : ∀ (n : Nat) (k : Int), uw A (n + 1) k = uw A n k + (WD A (A 1 (A 2 (A 1 (rt A n k)))) - 1)
  | 0, k => by
    show (WD A (A 1 (A 2 (A 1 k))) - 1) + 0 = 0 + (WD A (A 1 (A 2 (A 1 k))) - 1)
    omega
  | n + 1, k => by
    show (WD A (A 1 (A 2 (A 1 k))) - 1) + uw A (n + 1) (A 2 k) = (WD A (A 1 (A 2 (A 1 k))) - 1) + uw A n (A 2 k) + (WD A (A 1 (A 2 (A 1 (rt A n (A 2 k))))) - 1)
    rw [uw_succ A n (A 2 k)]
    omega
theorem mm_pairs_in (z : Value) (d m b : Nat) (ar : Int → Int) (l : Int) (h R : xx_H) (I : Nat → Int) (A : Nat → Int → Int) (N : Int → Int) (hc : 12 ≤ h.length) (hB : BI ar I A N) (k0 : 0 ≤ l) (k1 : l < I 7) (hL : isL A m l) (w : VD A l ≤ 1000) (ho : I 7 + 2 * VD A l ≤ 140000) (Q : Option Value → xx_H → Prop) (I1 : Nat → Int) (A1 : Nat → Int → Int) (x7 : I 7 ≤ I1 7) (i9 : I1 7 ≤ 140000) (hx : ∀ k : Int, 0 ≤ k → k < I 7 → A1 1 k = A 1 k ∧ A1 2 k = A 2 k) (bm : b < m) (hT : (∀ j : Nat, j < b → PQ A ar (A 1 (rt A j l)))) (pb : 0 ≤ A 1 (A 1 (rt A b l)) ∧ A 1 (A 1 (rt A b l)) < I 7) (K : (∀ y : Option Value, (∀ q : Nat, q < b → A 1 (A 1 (rt A q l)) ≠ A 1 (A 1 (rt A b l))) → xx_go (xt_P z) (d + 8) 149 106 [some (.ref h.length), some (.int (iI l)), some (.int (iI (rt A b l))), some (.int (iI (A 1 (rt A b l)))), y] [] (mh h R I1 A1 N) Q)) (K0 : ∀ y : Int, (∃ a : Nat, a < b ∧ A 1 (A 1 (rt A a l)) = A 1 (A 1 (rt A b l))) → xx_go (xt_P z) (d + 8) 149 92 [some (.ref h.length), some (.int (iI l)), some (.int (iI (rt A b l))), some (.int (iI (A 1 (rt A b l)))), some (.int (iI y))] [] (mh h R I1 A1 N) Q) : ∀ (n a : Nat), b - a ≤ n → a ≤ b → (∀ q : Nat, q < a → A 1 (A 1 (rt A q l)) ≠ A 1 (A 1 (rt A b l))) → xx_go (xt_P z) (d + 8) 149 65 [some (.ref h.length), some (.int (iI l)), some (.int (iI (rt A b l))), some (.int (iI (A 1 (rt A b l)))), some (.int (iI (rt A a l)))] [] (mh h R I1 A1 N) Q := by
  have hP := BI_P hB
  have p1 := hP.1
  have rb := isL_rt hP m b l k0 k1 hL bm
  have qb := hP.2 _ rb.1 (by omega : rt A b l < I 7)
  have eb := hx (A 1 (rt A b l)) rb.2.2 (by omega)
  intro n
  induction n with
  | zero =>
    intro a hn ab hd
    have e : a = b := by omega
    subst e
    refine go_a (pc' := 67) (ls' := [some (.ref h.length), some (.int (iI l)), some (.int (iI (rt A a l))), some (.int (iI (A 1 (rt A a l)))), some (.int (iI (rt A a l)))]) (st' := [.int (iI (rt A a l))]) rfl rfl ?_
    refine go_a (pc' := 68) (ls' := [some (.ref h.length), some (.int (iI l)), some (.int (iI (rt A a l))), some (.int (iI (A 1 (rt A a l)))), some (.int (iI (rt A a l)))]) (st' := [.int (iI (rt A a l)), .int (iI (rt A a l))]) rfl rfl ?_
    exact mi_eq (t := 106) rfl rfl (by omega) (by omega) (by omega) (by omega) (fun _ => K _ hd) (fun e => absurd rfl e)
  | succ n ih =>
    intro a hn ab hd
    by_cases e : a = b
    · subst e
      refine go_a (pc' := 67) (ls' := [some (.ref h.length), some (.int (iI l)), some (.int (iI (rt A a l))), some (.int (iI (A 1 (rt A a l)))), some (.int (iI (rt A a l)))]) (st' := [.int (iI (rt A a l))]) rfl rfl ?_
      refine go_a (pc' := 68) (ls' := [some (.ref h.length), some (.int (iI l)), some (.int (iI (rt A a l))), some (.int (iI (A 1 (rt A a l)))), some (.int (iI (rt A a l)))]) (st' := [.int (iI (rt A a l)), .int (iI (rt A a l))]) rfl rfl ?_
      exact mi_eq (t := 106) rfl rfl (by omega) (by omega) (by omega) (by omega) (fun _ => K _ hd) (fun e => absurd rfl e)
    have ra := isL_rt hP m a l k0 k1 hL (by omega)
    have qa := hP.2 _ ra.1 (by omega : rt A a l < I 7)
    have dd := rt_dec2 hP m a l k0 k1 hL (b - a - 1) (by omega)
    rw [show a + (b - a - 1) + 1 = b by omega] at dd
    have ea := hx (rt A a l) ra.1 (by omega)
    have ta := (hT a (by omega)).1.1
    have q2 := qa.2.2.2.2 ra.2.2
    have ec := hx (A 1 (rt A a l)) ra.2.2 (by omega)
    have qc := hP.2 (A 1 (rt A a l)) ra.2.2 (by omega)
    refine go_a (pc' := 67) (ls' := [some (.ref h.length), some (.int (iI l)), some (.int (iI (rt A b l))), some (.int (iI (A 1 (rt A b l)))), some (.int (iI (rt A a l)))]) (st' := [.int (iI (rt A a l))]) rfl rfl ?_
    refine go_a (pc' := 68) (ls' := [some (.ref h.length), some (.int (iI l)), some (.int (iI (rt A b l))), some (.int (iI (A 1 (rt A b l)))), some (.int (iI (rt A a l)))]) (st' := [.int (iI (rt A b l)), .int (iI (rt A a l))]) rfl rfl ?_
    refine mi_eq (t := 106) rfl rfl (by omega) (by omega) (by omega) (by omega) (fun q => absurd q (by omega)) (fun _ => ?_)
    have z1 : A1 1 (rt A a l) = A 1 (rt A a l) := ea.1
    have z2 : A1 1 (A1 1 (rt A a l)) = A 1 (A 1 (rt A a l)) := by rw [ea.1, ec.1]
    refine go_a (pc' := 72) (ls' := [some (.ref h.length), some (.int (iI l)), some (.int (iI (rt A b l))), some (.int (iI (A 1 (rt A b l)))), some (.int (iI (rt A a l)))]) (st' := [.ref h.length]) rfl rfl ?_
    refine go_get rfl mh_o rfl rfl ?_
    refine go_a (pc' := 76) (ls' := [some (.ref h.length), some (.int (iI l)), some (.int (iI (rt A b l))), some (.int (iI (A 1 (rt A b l)))), some (.int (iI (rt A a l)))]) (st' := [.ref h.length, .ref (h.length + 1)]) rfl rfl ?_
    refine go_get rfl mh_o rfl rfl ?_
    refine go_a (pc' := 81) (ls' := [some (.ref h.length), some (.int (iI l)), some (.int (iI (rt A b l))), some (.int (iI (A 1 (rt A b l)))), some (.int (iI (rt A a l)))]) (st' := [.int (iI (rt A a l)), .ref (h.length + 1), .ref (h.length + 1)]) rfl rfl ?_
    refine mi_ild rfl mh_a1 (by omega) (by omega) (by decide) ?_
    refine mi_ild rfl mh_a1 (by omega) (by omega) (by decide) ?_
    refine go_a (pc' := 84) (ls' := [some (.ref h.length), some (.int (iI l)), some (.int (iI (rt A b l))), some (.int (iI (A 1 (rt A b l)))), some (.int (iI (rt A a l)))]) (st' := [.ref h.length, .int (iI (A1 1 (A1 1 (rt A a l))))]) rfl rfl ?_
    refine go_get rfl mh_o rfl rfl ?_
    refine go_a (pc' := 88) (ls' := [some (.ref h.length), some (.int (iI l)), some (.int (iI (rt A b l))), some (.int (iI (A 1 (rt A b l)))), some (.int (iI (rt A a l)))]) (st' := [.int (iI (A 1 (rt A b l))), .ref (h.length + 1), .int (iI (A1 1 (A1 1 (rt A a l))))]) rfl rfl ?_
    refine mi_ild rfl mh_a1 (by omega) (by omega) (by decide) ?_
    refine mi_ne (t := 94) rfl rfl (by omega) (by omega) (by omega) (by omega) (fun dn => ?_) (fun de => K0 _ ⟨a, by omega, by omega⟩)
    refine go_a (pc' := 95) (ls' := [some (.ref h.length), some (.int (iI l)), some (.int (iI (rt A b l))), some (.int (iI (A 1 (rt A b l)))), some (.int (iI (rt A a l)))]) (st' := [.ref h.length]) rfl rfl ?_
    refine go_get rfl mh_o rfl rfl ?_
    refine go_a (pc' := 100) (ls' := [some (.ref h.length), some (.int (iI l)), some (.int (iI (rt A b l))), some (.int (iI (A 1 (rt A b l)))), some (.int (iI (rt A a l)))]) (st' := [.int (iI (rt A a l)), .ref (h.length + 2)]) rfl rfl ?_
    refine mi_ild rfl mh_a2 (by omega) (by omega) (by decide) ?_
    refine go_a (pc' := 103) (ls' := [some (.ref h.length), some (.int (iI l)), some (.int (iI (rt A b l))), some (.int (iI (A 1 (rt A b l)))), some (.int (iI (A1 2 (rt A a l))))]) (st' := []) rfl rfl ?_
    refine go_a (pc' := 65) (ls' := [some (.ref h.length), some (.int (iI l)), some (.int (iI (rt A b l))), some (.int (iI (A 1 (rt A b l)))), some (.int (iI (A1 2 (rt A a l))))]) (st' := []) rfl rfl ?_
    rw [ea.2, ← rt_succ A a l]
    refine ih (a + 1) (by omega) (by omega) (fun q hq => ?_)
    by_cases u : q = a
    · rw [u]
      rw [z2, eb.1] at dn
      exact dn
    · exact hd q (by omega)
theorem WD_two {I : Nat → Int} {A : Nat → Int → Int} {p : Int} (hP : PW I A) (n0 : A 1 0 < 0) (h0 : 0 ≤ p) (h1 : p < I 7) (hL : isL A 2 p) : WD A (A 1 (A 2 p)) + 1 ≤ WD A p := by
  have p1 := hL.1
  have p2 := hL.2.1
  have q := hP.2 p h0 h1
  have q2 := q.2.2.2.2 p1
  have q3 := hP.2 (A 2 p) (by omega) (by omega)
  have q4 := q3.2.2.2.2 p2
  rw [WD_pair hP h0 h1 p1]
  split
  · omega
  · have v1 := VD_pair hP h0 h1 p1
    have v2 := VD_pair hP (by omega : 0 ≤ A 2 p) (by omega) p2
    have w1 := WD_1 hP p1 (by omega : A 1 p < I 7)
    have v3 := VD_0 hP q3.2.2.1 (by omega : A 2 (A 2 p) < I 7)
    omega
theorem mm_arePairs_loop (z : Value) (d m : Nat) (ar : Int → Int) (l : Int) (h R : xx_H) (I : Nat → Int) (A : Nat → Int → Int) (N : Int → Int) (hc : 12 ≤ h.length) (hB : BI ar I A N) (k0 : 0 ≤ l) (k1 : l < I 7) (hL : isL A m l) (w : VD A l ≤ 1000) (ho : I 7 + 2 * VD A l ≤ 140000) : ∀ (n b : Nat) (I1 : Nat → Int) (A1 : Nat → Int → Int) (y3 y4 : Option Value), m - b ≤ n → b ≤ m → SX ar (2 * uw A b l) I A N I1 A1 → (∀ j : Nat, j < b → PQ A ar (A 1 (rt A j l))) ∧ PD A b l → (uw A b l + VD A (rt A b l) ≤ VD A l ∧ 0 ≤ uw A b l) → xx_go (xt_P z) (d + 8) 149 13 [some (.ref h.length), some (.int (iI l)), some (.int (iI (rt A b l))), y3, y4] [] (mh h R I1 A1 N) (fun v h1 => ∃ (I1 : Nat → Int) (A1 : Nat → Int → Int), h1 = mh h R I1 A1 N ∧ ((v = some (.int (iI 0)) ∧ SX ar (2 * VD A l) I A N I1 A1 ∧ ¬ ∃ m : Nat, isL A m l ∧ (∀ j : Nat, j < m → PQ A ar (A 1 (rt A j l))) ∧ PD A m l) ∨ (v = some (.int (iI 1)) ∧ ∃ m : Nat, SX ar (2 * uw A m l) I A N I1 A1 ∧ isL A m l ∧ (∀ j : Nat, j < m → PQ A ar (A 1 (rt A j l))) ∧ PD A m l))) := by
  have hP := BI_P hB
  have p1 := hP.1
  have n0 := BI_n0 hB
  have nq : ∀ b : Nat, b < m → ¬ PQ A ar (A 1 (rt A b l)) → ¬ ∃ m : Nat, isL A m l ∧ (∀ j : Nat, j < m → PQ A ar (A 1 (rt A j l))) ∧ PD A m l := fun b hb hn ⟨m2, l2, q2, _⟩ => hn (q2 b (by rw [isL_uq n0 m2 m l l2 hL]; exact hb))
  have nd : ∀ a b : Nat, a < b → b < m → A 1 (A 1 (rt A a l)) = A 1 (A 1 (rt A b l)) → ¬ ∃ m : Nat, isL A m l ∧ (∀ j : Nat, j < m → PQ A ar (A 1 (rt A j l))) ∧ PD A m l := fun a b ab hb he ⟨m2, l2, _, q2⟩ => q2 a b ab (by rw [isL_uq n0 m2 m l l2 hL]; exact hb) he
  intro n
  induction n with
  | zero =>
    intro b I1 A1 y3 y4 hn bm X hT hu
    have e : b = m := by omega
    subst e
    have ez := isL_end b l hL
    rw [ez]
    refine go_a (pc' := 14) (ls' := [some (.ref h.length), some (.int (iI l)), some (.int (iI 0)), y3, y4]) (st' := [.int (iI 0)]) rfl rfl ?_
    refine mi_eq0 (t := 116) rfl rfl (by omega) (by omega) (fun _ => ?_) (fun q => absurd rfl q)
    refine go_a (pc' := 117) (ls' := [some (.ref h.length), some (.int (iI l)), some (.int (iI 0)), y3, y4]) (st' := [.int (iI 1)]) rfl rfl ?_
    exact go_r rfl rfl rfl rfl rfl rfl ⟨I1, A1, rfl, Or.inr ⟨rfl, b, X, hL, hT.1, hT.2⟩⟩
  | succ n ih =>
    intro b I1 A1 y3 y4 hn bm X hT hu
    by_cases e : b = m
    · subst e
      have ez := isL_end b l hL
      rw [ez]
      refine go_a (pc' := 14) (ls' := [some (.ref h.length), some (.int (iI l)), some (.int (iI 0)), y3, y4]) (st' := [.int (iI 0)]) rfl rfl ?_
      refine mi_eq0 (t := 116) rfl rfl (by omega) (by omega) (fun _ => ?_) (fun q => absurd rfl q)
      refine go_a (pc' := 117) (ls' := [some (.ref h.length), some (.int (iI l)), some (.int (iI 0)), y3, y4]) (st' := [.int (iI 1)]) rfl rfl ?_
      exact go_r rfl rfl rfl rfl rfl rfl ⟨I1, A1, rfl, Or.inr ⟨rfl, b, X, hL, hT.1, hT.2⟩⟩
    have bm2 : b < m := by omega
    have rb := isL_rt hP m b l k0 k1 hL (by omega)
    have qb := hP.2 _ rb.1 (by omega : rt A b l < I 7)
    have q2 := qb.2.2.2.2 rb.2.2
    have bz : rt A b l ≠ 0 := by
      intro ez
      rw [ez] at rb
      omega
    have vr := VD_rt hP k0 k1 hL (by omega : b < m)
    have x7 := X.1.2.1
    have P1 := BI_P X.2.1
    have i9 := P1.1
    have hx : ∀ k : Int, 0 ≤ k → k < I 7 → A1 1 k = A 1 k ∧ A1 2 k = A 2 k := fun k a b => ⟨(X.1.2.2.1 k a b).1, (X.1.2.2.1 k a b).2.1⟩
    have e1 := hx (rt A b l) rb.1 (by omega)
    have pn := vr.2.1
    have no : SX ar (2 * VD A l) I A N I1 A1 := SX_w X (by omega)
    refine go_a (pc' := 14) (ls' := [some (.ref h.length), some (.int (iI l)), some (.int (iI (rt A b l))), y3, y4]) (st' := [.int (iI (rt A b l))]) rfl rfl ?_
    refine mi_eq0 (t := 116) rfl rfl (by omega) (by omega) (fun q => absurd q bz) (fun _ => ?_)
    refine go_a (pc' := 18) (ls' := [some (.ref h.length), some (.int (iI l)), some (.int (iI (rt A b l))), y3, y4]) (st' := [.ref h.length]) rfl rfl ?_
    refine go_get rfl mh_o rfl rfl ?_
    refine go_a (pc' := 22) (ls' := [some (.ref h.length), some (.int (iI l)), some (.int (iI (rt A b l))), y3, y4]) (st' := [.int (iI (rt A b l)), .ref (h.length + 1)]) rfl rfl ?_
    refine mi_ild rfl mh_a1 (by omega) (by omega) (by decide) ?_
    refine go_a (pc' := 24) (ls' := [some (.ref h.length), some (.int (iI l)), some (.int (iI (rt A b l))), some (.int (iI (A1 1 (rt A b l)))), y4]) (st' := []) rfl rfl ?_
    refine go_a (pc' := 25) (ls' := [some (.ref h.length), some (.int (iI l)), some (.int (iI (rt A b l))), some (.int (iI (A1 1 (rt A b l)))), y4]) (st' := [.ref h.length]) rfl rfl ?_
    refine go_a (pc' := 26) (ls' := [some (.ref h.length), some (.int (iI l)), some (.int (iI (rt A b l))), some (.int (iI (A1 1 (rt A b l)))), y4]) (st' := [.int (iI (A1 1 (rt A b l))), .ref h.length]) rfl rfl ?_
    rw [e1.1]
    show xx_go (xt_P z) (d + 8) 149 26 [some (.ref h.length), some (.int (iI l)), some (.int (iI (rt A b l))), some (.int (iI (A 1 (rt A b l)))), y4] [.int (iI (A 1 (rt A b l))), .ref h.length] (mh h R I1 A1 N) _
    refine go_v (m := 98) (as := [.ref h.length, .int (iI (A 1 (rt A b l)))]) (r := []) rfl rfl rfl mh_o rfl rfl (mm_len2 z (d + 6) (A 1 (rt A b l)) h R I1 A1 N hc P1 (BI_n0 X.2.1) pn.1 (by omega)) (fun v h1 hq => ?_)
    obtain ⟨⟨c, rfl, hcc⟩, rfl⟩ := hq
    have cr : -1 ≤ c ∧ c < 140000 := by
      rcases hcc with ⟨q, -⟩ | ⟨q, hq, hl⟩
      · omega
      · have := isL_len P1 (A 1 (rt A b l)).toNat q _ (Nat.le_refl _) pn.1 (by omega) hl
        omega
    show xx_go (xt_P z) (d + 8) 149 29 [some (.ref h.length), some (.int (iI l)), some (.int (iI (rt A b l))), some (.int (iI (A 1 (rt A b l)))), y4] [.int (iI c)] (mh h R I1 A1 N) _
    refine go_a (pc' := 30) (ls' := [some (.ref h.length), some (.int (iI l)), some (.int (iI (rt A b l))), some (.int (iI (A 1 (rt A b l)))), y4]) (st' := [.int (iI 2), .int (iI c)]) rfl rfl ?_
    refine mi_ne (t := 60) rfl rfl (by omega) (by omega) (by omega) (by omega) (fun e2 => ?_) (fun e2 => ?_)
    · have np : ¬ PQ A ar (A 1 (rt A b l)) := fun q => by
        have l2 := isL_ext hP hx 2 _ pn.1 pn.2 q.1
        rcases hcc with ⟨-, hn⟩ | ⟨q2, hq, hl⟩
        · exact hn 2 l2
        · have := isL_uq (BI_n0 X.2.1) q2 2 _ hl l2
          omega
      refine go_a (pc' := 61) (ls' := [some (.ref h.length), some (.int (iI l)), some (.int (iI (rt A b l))), some (.int (iI (A 1 (rt A b l)))), y4]) (st' := [.int (iI 0)]) rfl rfl ?_
      exact go_r rfl rfl rfl rfl rfl rfl ⟨I1, A1, rfl, Or.inl ⟨rfl, no, nq b bm2 np⟩⟩
    · have L2 : isL A1 2 (A 1 (rt A b l)) := by
        rcases hcc with ⟨q, -⟩ | ⟨q, hq, hl⟩
        · omega
        · rw [show q = 2 by omega] at hl
          exact hl
      have f1 := hx (A 1 (rt A b l)) pn.1 pn.2
      have qp := hP.2 (A 1 (rt A b l)) pn.1 pn.2
      have pp : 0 ≤ A 1 (A 1 (rt A b l)) := by
        have := L2.1
        rw [f1.1] at this
        exact this
      have qq := qp.2.2.2.2 pp
      have f2 := hx (A 2 (A 1 (rt A b l))) (by omega) (by omega)
      have L2A : isL A 2 (A 1 (rt A b l)) := by
        have a := L2
        show 0 ≤ A 1 (A 1 (rt A b l)) ∧ 0 ≤ A 1 (A 2 (A 1 (rt A b l))) ∧ A 2 (A 2 (A 1 (rt A b l))) = 0
        have a : 0 ≤ A1 1 (A 1 (rt A b l)) ∧ 0 ≤ A1 1 (A1 2 (A 1 (rt A b l))) ∧ A1 2 (A1 2 (A 1 (rt A b l))) = 0 := a
        rw [f1.1, f1.2, f2.1, f2.2] at a
        exact a
      have px : 0 ≤ A 1 (A 2 (A 1 (rt A b l))) := L2A.2.1
      have qx := hP.2 (A 2 (A 1 (rt A b l))) (by omega) (by omega)
      refine go_a (pc' := 34) (ls' := [some (.ref h.length), some (.int (iI l)), some (.int (iI (rt A b l))), some (.int (iI (A 1 (rt A b l)))), y4]) (st' := [.ref h.length]) rfl rfl ?_
      refine go_a (pc' := 35) (ls' := [some (.ref h.length), some (.int (iI l)), some (.int (iI (rt A b l))), some (.int (iI (A 1 (rt A b l)))), y4]) (st' := [.ref h.length, .ref h.length]) rfl rfl ?_
      refine go_get rfl mh_o rfl rfl ?_
      refine go_a (pc' := 39) (ls' := [some (.ref h.length), some (.int (iI l)), some (.int (iI (rt A b l))), some (.int (iI (A 1 (rt A b l)))), y4]) (st' := [.int (iI (A 1 (rt A b l))), .ref (h.length + 1), .ref h.length]) rfl rfl ?_
      refine mi_ild rfl mh_a1 (by omega) (by omega) (by decide) ?_
      rw [f1.1]
      show xx_go (xt_P z) (d + 8) 149 40 [some (.ref h.length), some (.int (iI l)), some (.int (iI (rt A b l))), some (.int (iI (A 1 (rt A b l)))), y4] [.int (iI (A 1 (A 1 (rt A b l)))), .ref h.length] (mh h R I1 A1 N) _
      refine go_v (m := 104) (as := [.ref h.length, .int (iI (A 1 (A 1 (rt A b l))))]) (r := []) rfl rfl rfl mh_o rfl rfl (mb_isVariable z (d + 6) (A 1 (A 1 (rt A b l))) h R I1 A1 N hc P1 pp (by omega)) (fun v h1 hq => ?_)
      obtain ⟨⟨v, rfl, hv⟩, rfl⟩ := hq
      show xx_go (xt_P z) (d + 8) 149 43 [some (.ref h.length), some (.int (iI l)), some (.int (iI (rt A b l))), some (.int (iI (A 1 (rt A b l)))), y4] [.int (iI v)] (mh h R I1 A1 N) _
      refine mi_eq0 (t := 60) rfl rfl (by omega) (by omega) (fun e3 => ?_) (fun e3 => ?_)
      · have f3 := hx (A 1 (A 1 (rt A b l))) pp (by omega)
        have np : ¬ PQ A ar (A 1 (rt A b l)) := fun q => by
          have q2 := q.2.1
          rw [f3.1] at hv
          omega
        refine go_a (pc' := 61) (ls' := [some (.ref h.length), some (.int (iI l)), some (.int (iI (rt A b l))), some (.int (iI (A 1 (rt A b l)))), y4]) (st' := [.int (iI 0)]) rfl rfl ?_
        exact go_r rfl rfl rfl rfl rfl rfl ⟨I1, A1, rfl, Or.inl ⟨rfl, no, nq b bm2 np⟩⟩
      · have f3 := hx (A 1 (A 1 (rt A b l))) pp (by omega)
        have vv : A 1 (A 1 (A 1 (rt A b l))) = -2 ∧ 1 < A 1 (A 1 (rt A b l)) := by
          rw [f3.1] at hv
          omega
        refine go_a (pc' := 47) (ls' := [some (.ref h.length), some (.int (iI l)), some (.int (iI (rt A b l))), some (.int (iI (A 1 (rt A b l)))), y4]) (st' := [.ref h.length]) rfl rfl ?_
        refine go_a (pc' := 48) (ls' := [some (.ref h.length), some (.int (iI l)), some (.int (iI (rt A b l))), some (.int (iI (A 1 (rt A b l)))), y4]) (st' := [.ref h.length, .ref h.length]) rfl rfl ?_
        refine go_a (pc' := 49) (ls' := [some (.ref h.length), some (.int (iI l)), some (.int (iI (rt A b l))), some (.int (iI (A 1 (rt A b l)))), y4]) (st' := [.int (iI (A 1 (rt A b l))), .ref h.length, .ref h.length]) rfl rfl ?_
        refine go_a (pc' := 50) (ls' := [some (.ref h.length), some (.int (iI l)), some (.int (iI (rt A b l))), some (.int (iI (A 1 (rt A b l)))), y4]) (st' := [.int (iI 1), .int (iI (A 1 (rt A b l))), .ref h.length, .ref h.length]) rfl rfl ?_
        refine go_v (m := 99) (as := [.ref h.length, .int (iI (A 1 (rt A b l))), .int (iI 1)]) (r := [.ref h.length]) rfl rfl rfl mh_o rfl rfl (mm_nth z (d + 7) 1 2 (A 1 (rt A b l)) h R I1 A1 N hc P1 (by decide) pn.1 (by omega) L2 (by decide)) (fun v h1 hq => ?_)
        obtain ⟨rfl, rfl⟩ := hq
        rw [show A1 1 (rt A1 1 (A 1 (rt A b l))) = A 1 (A 2 (A 1 (rt A b l))) by show A1 1 (A1 2 (A 1 (rt A b l))) = _; rw [f1.2, f2.1]]
        show xx_go (xt_P z) (d + 8) 149 53 [some (.ref h.length), some (.int (iI l)), some (.int (iI (rt A b l))), some (.int (iI (A 1 (rt A b l)))), y4] [.int (iI (A 1 (A 2 (A 1 (rt A b l))))), .ref h.length] (mh h R I1 A1 N) _
        have wt := (WD_BX hP X.1 px (by omega : A 1 (A 2 (A 1 (rt A b l))) < I 7)).1
        have wp : WD A (A 1 (A 2 (A 1 (rt A b l)))) + 1 ≤ WD A (A 1 (rt A b l)) := WD_two hP n0 pn.1 pn.2 L2A
        have w1 := WD_1 hP px (by omega : A 1 (A 2 (A 1 (rt A b l))) < I 7)
        have c7 := X.2.2.2
        refine go_v (m := 105) (as := [.ref h.length, .int (iI (A 1 (A 2 (A 1 (rt A b l)))))]) (r := []) rfl rfl rfl mh_o rfl rfl (mm_termQ z d ar (A 1 (A 2 (A 1 (rt A b l)))) h R I1 A1 N hc X.2.1 px (by omega) (by omega) (by omega)) (fun v h1 hq => ?_)
        obtain ⟨t, I2, A2, rfl, rfl, Qt⟩ := hq
        have us := uw_succ A b l
        have Y := SX_tr (e := 2 * uw A (b + 1) l) X (TQ_SX Qt) (by rw [us]; omega)
        have tr : -1 ≤ t ∧ t < 140000 := by
          have := (BI_P Qt.2.1).1
          rcases Qt.2.2.2.2 with q | q
          · omega
          · omega
        show xx_go (xt_P z) (d + 8) 149 56 [some (.ref h.length), some (.int (iI l)), some (.int (iI (rt A b l))), some (.int (iI (A 1 (rt A b l)))), y4] [.int (iI t)] (mh h R I2 A2 N) _
        refine go_a (pc' := 57) (ls' := [some (.ref h.length), some (.int (iI l)), some (.int (iI (rt A b l))), some (.int (iI (A 1 (rt A b l)))), y4]) (st' := [.int (iI ((-1))), .int (iI t)]) rfl rfl ?_
        refine mi_ne (t := 62) rfl rfl (by omega) (by omega) (by omega) (by omega) (fun e4 => ?_) (fun e4 => ?_)
        · have tk : TOK A ar (A 1 (A 2 (A 1 (rt A b l)))) := by
            rcases Qt.2.2.2.2 with q | q
            · exact absurd q.1 e4
            · have q3 := q.2.2.1
              unfold TOK at q3 ⊢
              rw [TS_BX hP X.1 px (by omega)] at q3
              exact q3
          have y7 := Y.1.2.1
          have i92 := (BI_P Y.2.1).1
          have hy : ∀ k : Int, 0 ≤ k → k < I 7 → A2 1 k = A 1 k ∧ A2 2 k = A 2 k := fun k a b => ⟨(Y.1.2.2.1 k a b).1, (Y.1.2.2.1 k a b).2.1⟩
          refine go_a (pc' := 63) (ls' := [some (.ref h.length), some (.int (iI l)), some (.int (iI (rt A b l))), some (.int (iI (A 1 (rt A b l)))), y4]) (st' := [.int (iI l)]) rfl rfl ?_
          refine go_a (pc' := 65) (ls' := [some (.ref h.length), some (.int (iI l)), some (.int (iI (rt A b l))), some (.int (iI (A 1 (rt A b l)))), some (.int (iI l))]) (st' := []) rfl rfl ?_
          refine mm_pairs_in z d m b ar l h R I A N hc hB k0 k1 hL w ho _ I2 A2 y7 i92 hy (by omega) hT.1 ⟨pp, by omega⟩ (fun y hd => ?_) (fun y hd => ?_) b 0 (by omega) (by omega) (fun q hq => absurd hq (by omega))
          · show xx_go (xt_P z) (d + 8) 149 106 [some (.ref h.length), some (.int (iI l)), some (.int (iI (rt A b l))), some (.int (iI (A 1 (rt A b l)))), y] [] (mh h R I2 A2 N) _
            refine go_a (pc' := 107) (ls' := [some (.ref h.length), some (.int (iI l)), some (.int (iI (rt A b l))), some (.int (iI (A 1 (rt A b l)))), y]) (st' := [.ref h.length]) rfl rfl ?_
            refine go_get rfl mh_o rfl rfl ?_
            refine go_a (pc' := 111) (ls' := [some (.ref h.length), some (.int (iI l)), some (.int (iI (rt A b l))), some (.int (iI (A 1 (rt A b l)))), y]) (st' := [.int (iI (rt A b l)), .ref (h.length + 2)]) rfl rfl ?_
            refine mi_ild rfl mh_a2 (by omega) (by omega) (by decide) ?_
            refine go_a (pc' := 113) (ls' := [some (.ref h.length), some (.int (iI l)), some (.int (iI (A2 2 (rt A b l)))), some (.int (iI (A 1 (rt A b l)))), y]) (st' := []) rfl rfl ?_
            refine go_a (pc' := 13) (ls' := [some (.ref h.length), some (.int (iI l)), some (.int (iI (A2 2 (rt A b l)))), some (.int (iI (A 1 (rt A b l)))), y]) (st' := []) rfl rfl ?_
            rw [(hy (rt A b l) rb.1 (by omega)).2, ← rt_succ A b l]
            refine ih (b + 1) I2 A2 _ _ (by omega) (by omega) Y ⟨fun j hj => ?_, fun i j ij jb => ?_⟩ ⟨by rw [us]; omega, by rw [us]; omega⟩
            · by_cases q : j = b
              · rw [q]
                exact ⟨L2A, vv, tk⟩
              · exact hT.1 j (by omega)
            · by_cases q : j = b
              · rw [q]
                exact hd i (by omega)
              · exact hT.2 i j ij (by omega)
          · show xx_go (xt_P z) (d + 8) 149 92 [some (.ref h.length), some (.int (iI l)), some (.int (iI (rt A b l))), some (.int (iI (A 1 (rt A b l)))), some (.int (iI y))] [] (mh h R I2 A2 N) _
            refine go_a (pc' := 93) (ls' := [some (.ref h.length), some (.int (iI l)), some (.int (iI (rt A b l))), some (.int (iI (A 1 (rt A b l)))), some (.int (iI y))]) (st' := [.int (iI 0)]) rfl rfl ?_
            exact go_r rfl rfl rfl rfl rfl rfl ⟨I2, A2, rfl, Or.inl ⟨rfl, SX_w Y (by rw [us]; omega), by obtain ⟨a, ab, ae⟩ := hd; exact nd a b ab bm2 ae⟩⟩
        · have np : ¬ PQ A ar (A 1 (rt A b l)) := fun q => by
            have q2 := q.2.2
            rcases Qt.2.2.2.2 with r | r
            · have r2 := r.2
              unfold TOK at r2 q2
              rw [TS_BX hP X.1 px (by omega)] at r2
              exact r2 q2
            · omega
          refine go_a (pc' := 61) (ls' := [some (.ref h.length), some (.int (iI l)), some (.int (iI (rt A b l))), some (.int (iI (A 1 (rt A b l)))), y4]) (st' := [.int (iI 0)]) rfl rfl ?_
          exact go_r rfl rfl rfl rfl rfl rfl ⟨I2, A2, rfl, Or.inl ⟨rfl, SX_w Y (by omega), nq b bm2 np⟩⟩
theorem mm_arePairs (z : Value) (d : Nat) (ar : Int → Int) (l : Int) (h R : xx_H) (I : Nat → Int) (A : Nat → Int → Int) (N : Int → Int) (hc : 12 ≤ h.length) (hB : BI ar I A N) (k0 : 0 ≤ l) (k1 : l < I 7) (w : VD A l ≤ 1000) (ho : I 7 + 2 * VD A l ≤ 140000) : xx_cl (xt_P z) (d + 9) 149 [.ref h.length, .int (iI l)] (mh h R I A N) (fun v h1 => ∃ (I1 : Nat → Int) (A1 : Nat → Int → Int), h1 = mh h R I1 A1 N ∧ ((v = some (.int (iI 0)) ∧ SX ar (2 * VD A l) I A N I1 A1 ∧ ¬ ∃ m : Nat, isL A m l ∧ (∀ j : Nat, j < m → PQ A ar (A 1 (rt A j l))) ∧ PD A m l) ∨ (v = some (.int (iI 1)) ∧ ∃ m : Nat, SX ar (2 * uw A m l) I A N I1 A1 ∧ isL A m l ∧ (∀ j : Nat, j < m → PQ A ar (A 1 (rt A j l))) ∧ PD A m l))) := by
  have hP := BI_P hB
  have p1 := hP.1
  have v0 := VD_nn A l
  refine cl_go rfl ?_
  show xx_go (xt_P z) (d + 8) 149 0 [some (.ref h.length), some (.int (iI l)), none, none, none] [] (mh h R I A N) _
  refine go_a (pc' := 1) (ls' := [some (.ref h.length), some (.int (iI l)), none, none, none]) (st' := [.ref h.length]) rfl rfl ?_
  refine go_a (pc' := 2) (ls' := [some (.ref h.length), some (.int (iI l)), none, none, none]) (st' := [.int (iI l), .ref h.length]) rfl rfl ?_
  refine go_v (m := 98) (as := [.ref h.length, .int (iI l)]) (r := []) rfl rfl rfl mh_o rfl rfl (mm_len2 z (d + 6) l h R I A N hc hP (BI_n0 hB) k0 k1) (fun v h1 hq => ?_)
  obtain ⟨⟨c, rfl, hcc⟩, rfl⟩ := hq
  have cr : -1 ≤ c ∧ c < 140000 := by
    rcases hcc with ⟨q, -⟩ | ⟨q, hq, hl⟩
    · omega
    · have := isL_len hP l.toNat q l (Nat.le_refl _) k0 k1 hl
      omega
  show xx_go (xt_P z) (d + 8) 149 5 [some (.ref h.length), some (.int (iI l)), none, none, none] [.int (iI c)] (mh h R I A N) _
  refine go_a (pc' := 6) (ls' := [some (.ref h.length), some (.int (iI l)), none, none, none]) (st' := [.int (iI ((-1))), .int (iI c)]) rfl rfl ?_
  refine mi_ne (t := 11) rfl rfl (by omega) (by omega) (by omega) (by omega) (fun e => ?_) (fun e => ?_)
  · obtain ⟨m, em, hL⟩ : ∃ q : Nat, c = q ∧ isL A q l := by
      rcases hcc with ⟨q, -⟩ | q
      · exact absurd q e
      · exact q
    refine go_a (pc' := 12) (ls' := [some (.ref h.length), some (.int (iI l)), none, none, none]) (st' := [.int (iI l)]) rfl rfl ?_
    refine go_a (pc' := 13) (ls' := [some (.ref h.length), some (.int (iI l)), some (.int (iI l)), none, none]) (st' := []) rfl rfl ?_
    exact mm_arePairs_loop z d m ar l h R I A N hc hB k0 k1 hL w ho m 0 I A none none (by omega) (by omega) (SX_rf hB (Int.le_refl _)) ⟨fun j hj => absurd hj (by omega), fun i j ij jb => absurd jb (by omega)⟩ ⟨by show 0 + VD A l ≤ VD A l; omega, Int.le_refl _⟩
  · have nl : ∀ q : Nat, ¬ isL A q l := by
      rcases hcc with ⟨-, hn⟩ | ⟨q, hm, hl⟩
      · exact hn
      · omega
    refine go_a (pc' := 10) (ls' := [some (.ref h.length), some (.int (iI l)), none, none, none]) (st' := [.int (iI 0)]) rfl rfl ?_
    exact go_r rfl rfl rfl rfl rfl rfl ⟨I, A, rfl, Or.inl ⟨rfl, SX_rf hB (by omega), fun ⟨q, ql, _⟩ => nl q ql⟩⟩

