def AR (ar : Int → Int) (I : Nat → Int) (A : Nat → Int → Int) : Prop := (ar 3 = 3 ∧ (∀ f : Int, 4 ≤ f → f ≤ 9 → ar f = 2) ∧ ∀ f : Int, 10 ≤ f → f ≤ 16 → ar f = 1) ∧ ((I 44 = -1 ∨ 16 < I 44) ∧ I 44 < 140000 ∧ 0 ≤ I 45 ∧ I 45 ≤ 6 ∧ (16 < I 44 → ar (I 44) = I 45)) ∧ (0 ≤ I 32 ∧ I 32 ≤ 40) ∧ ∀ e : Int, 0 ≤ e → e < I 32 → (16 < A 20 e ∧ A 20 e < 140000) ∧ (0 ≤ A 21 e ∧ A 21 e ≤ 6) ∧ (A 20 e ≠ I 44 → ar (A 20 e) = A 21 e)
def CQ (A : Nat → Int → Int) (x t : Int) : Prop := ((A 1 x = -1 ∨ x = 0 ∨ x = 1) ∧ t = x) ∨ (¬ (A 1 x = -1 ∨ x = 0 ∨ x = 1) ∧ A 1 t = 2 ∧ 0 ≤ A 2 t ∧ A 1 (A 2 t) = x ∧ A 2 (A 2 t) = 0)
def FN (I : Nat → Int) (A : Nat → Int → Int) (k x : Int) : Prop := (3 ≤ k ∧ k ≤ 16 ∧ x = k) ∨ (16 < k ∧ x = 99 ∧ k = I 44) ∨ (16 < k ∧ k ≠ I 44 ∧ 100 ≤ x ∧ x < 100 + I 32 ∧ A 20 (x - 100) = k)
theorem mm_functionOf_loop (z : Value) (d : Nat) (ar : Int → Int) (k : Int) (h R : xx_H) (I : Nat → Int) (A : Nat → Int → Int) (N : Int → Int) (hc : 12 ≤ h.length) (hA : AR ar I A) (k0 : 0 ≤ k) (k1 : k < 140000) (k3 : ¬ (3 ≤ k ∧ k ≤ 16)) (kc : k ≠ I 44) : ∀ (f : Nat) (j : Int), (I 32 - j).toNat ≤ f → 0 ≤ j → j ≤ 40 → (∀ e : Int, 0 ≤ e → e < j → A 20 e ≠ k) → xx_go (xt_P z) d 111 26 [some (.ref h.length), some (.int (iI k)), some (.int (iI j))] [] (mh h R I A N) (fun v h1 => (∃ x : Int, v = some (.int (iI x)) ∧ ((x = -1 ∧ ∀ y : Int, ¬ FN I A k y) ∨ FN I A k x)) ∧ h1 = mh h R I A N) := by
  have a3 := hA.2.2.1
  have none : ∀ j : Int, I 32 ≤ j → (∀ e : Int, 0 ≤ e → e < j → A 20 e ≠ k) → ∀ y : Int, ¬ FN I A k y := by
    intro j hj he y q
    rcases q with q | q | q
    · exact k3 ⟨q.1, q.2.1⟩
    · exact kc q.2.2
    · exact he (y - 100) (by omega) (by omega) q.2.2.2.2
  intro f
  induction f with
  | zero =>
    intro j hf j0 j9 hj
    refine go_a (pc' := 27) (ls' := [some (.ref h.length), some (.int (iI k)), some (.int (iI j))]) (st' := [.int (iI j)]) rfl rfl ?_
    refine go_a (pc' := 28) (ls' := [some (.ref h.length), some (.int (iI k)), some (.int (iI j))]) (st' := [.ref h.length, .int (iI j)]) rfl rfl ?_
    refine go_get (v := .int (iI (I 32))) rfl mh_o rfl rfl ?_
    refine mi_ge (t := 55) rfl rfl (by omega) (by omega) (by omega) (by omega) (fun _ => ?_) (fun q => absurd (show I 32 ≤ j by omega) q)
    refine go_a (pc' := 56) (ls' := [some (.ref h.length), some (.int (iI k)), some (.int (iI j))]) (st' := [.int (iI ((-1)))]) rfl rfl ?_
    exact go_r rfl rfl rfl rfl rfl rfl ⟨⟨-1, rfl, Or.inl ⟨rfl, none j (by omega) hj⟩⟩, rfl⟩
  | succ f ih =>
    intro j hf j0 j9 hj
    refine go_a (pc' := 27) (ls' := [some (.ref h.length), some (.int (iI k)), some (.int (iI j))]) (st' := [.int (iI j)]) rfl rfl ?_
    refine go_a (pc' := 28) (ls' := [some (.ref h.length), some (.int (iI k)), some (.int (iI j))]) (st' := [.ref h.length, .int (iI j)]) rfl rfl ?_
    refine go_get (v := .int (iI (I 32))) rfl mh_o rfl rfl ?_
    refine mi_ge (t := 55) rfl rfl (by omega) (by omega) (by omega) (by omega) (fun q => ?_) (fun q => ?_)
    · refine go_a (pc' := 56) (ls' := [some (.ref h.length), some (.int (iI k)), some (.int (iI j))]) (st' := [.int (iI ((-1)))]) rfl rfl ?_
      exact go_r rfl rfl rfl rfl rfl rfl ⟨⟨-1, rfl, Or.inl ⟨rfl, none j (by omega) hj⟩⟩, rfl⟩
    · have r := hA.2.2.2 j j0 (by omega)
      refine go_a (pc' := 35) (ls' := [some (.ref h.length), some (.int (iI k)), some (.int (iI j))]) (st' := [.ref h.length]) rfl rfl ?_
      refine go_get rfl mh_o rfl rfl ?_
      refine go_a (pc' := 39) (ls' := [some (.ref h.length), some (.int (iI k)), some (.int (iI j))]) (st' := [.int (iI j), .ref (h.length + 20)]) rfl rfl ?_
      refine mi_ild rfl mh_a20 (by omega) (by omega) (by decide) ?_
      refine go_a (pc' := 41) (ls' := [some (.ref h.length), some (.int (iI k)), some (.int (iI j))]) (st' := [.int (iI k), .int (iI (A 20 j))]) rfl rfl ?_
      refine mi_ne (t := 49) rfl rfl (by omega) (by omega) (by omega) (by omega) (fun e => ?_) (fun e => ?_)
      · refine go_a (pc' := 52) (ls' := [some (.ref h.length), some (.int (iI k)), some (.int (iI (j + 1)))]) (st' := []) rfl (by rw [← iI_add j 1]; rfl) ?_
        refine go_a (pc' := 26) (ls' := [some (.ref h.length), some (.int (iI k)), some (.int (iI (j + 1)))]) (st' := []) rfl rfl ?_
        refine ih (j + 1) (by omega) (by omega) (by omega) (fun u u0 u1 => ?_)
        by_cases v : u = j
        · rw [v]
          omega
        · exact hj u u0 (by omega)
      · refine go_a (pc' := 46) (ls' := [some (.ref h.length), some (.int (iI k)), some (.int (iI j))]) (st' := [.int (iI 100)]) rfl rfl ?_
        refine go_a (pc' := 47) (ls' := [some (.ref h.length), some (.int (iI k)), some (.int (iI j))]) (st' := [.int (iI j), .int (iI 100)]) rfl rfl ?_
        refine mi_add rfl ?_
        exact go_r rfl rfl rfl rfl rfl rfl ⟨⟨100 + j, rfl, Or.inr (Or.inr (Or.inr ⟨by omega, kc, by omega, by omega, by rw [show 100 + j - 100 = j by omega]; omega⟩))⟩, rfl⟩
theorem mm_functionOf (z : Value) (d : Nat) (ar : Int → Int) (k : Int) (h R : xx_H) (I : Nat → Int) (A : Nat → Int → Int) (N : Int → Int) (hc : 12 ≤ h.length) (hA : AR ar I A) (k0 : 0 ≤ k) (k1 : k < 140000) : xx_cl (xt_P z) (d + 1) 111 [.ref h.length, .int (iI k)] (mh h R I A N) (fun v h1 => (∃ x : Int, v = some (.int (iI x)) ∧ ((x = -1 ∧ ∀ y : Int, ¬ FN I A k y) ∨ FN I A k x)) ∧ h1 = mh h R I A N) := by
  have a2 := hA.2.1
  refine cl_go rfl ?_
  show xx_go (xt_P z) d 111 0 [some (.ref h.length), some (.int (iI k)), none] [] (mh h R I A N) _
  have rest : ¬ (3 ≤ k ∧ k ≤ 16) → xx_go (xt_P z) d 111 13 [some (.ref h.length), some (.int (iI k)), none] [] (mh h R I A N) (fun v h1 => (∃ x : Int, v = some (.int (iI x)) ∧ ((x = -1 ∧ ∀ y : Int, ¬ FN I A k y) ∨ FN I A k x)) ∧ h1 = mh h R I A N) := by
    intro k3
    refine go_a (pc' := 14) (ls' := [some (.ref h.length), some (.int (iI k)), none]) (st' := [.int (iI k)]) rfl rfl ?_
    refine go_a (pc' := 15) (ls' := [some (.ref h.length), some (.int (iI k)), none]) (st' := [.ref h.length, .int (iI k)]) rfl rfl ?_
    refine go_get (v := .int (iI (I 44))) rfl mh_o rfl rfl ?_
    refine mi_ne (t := 24) rfl rfl (by omega) (by omega) (by omega) (by omega) (fun kc => ?_) (fun kc => ?_)
    · refine go_a (pc' := 25) (ls' := [some (.ref h.length), some (.int (iI k)), none]) (st' := [.int (iI 0)]) rfl rfl ?_
      refine go_a (pc' := 26) (ls' := [some (.ref h.length), some (.int (iI k)), some (.int (iI 0))]) (st' := []) rfl rfl ?_
      exact mm_functionOf_loop z d ar k h R I A N hc hA k0 k1 k3 kc _ 0 (Nat.le_refl _) (Int.le_refl _) (by decide) (fun e e0 e1 => absurd e1 (by omega))
    · refine go_a (pc' := 23) (ls' := [some (.ref h.length), some (.int (iI k)), none]) (st' := [.int (iI 99)]) rfl rfl ?_
      by_cases k16 : 16 < k
      · exact go_r rfl rfl rfl rfl rfl rfl ⟨⟨99, rfl, Or.inr (Or.inr (Or.inl ⟨k16, rfl, by omega⟩))⟩, rfl⟩
      · exact absurd k0 (by omega)
  refine go_a (pc' := 1) (ls' := [some (.ref h.length), some (.int (iI k)), none]) (st' := [.int (iI k)]) rfl rfl ?_
  refine go_a (pc' := 2) (ls' := [some (.ref h.length), some (.int (iI k)), none]) (st' := [.int (iI 3), .int (iI k)]) rfl rfl ?_
  refine mi_lt (t := 13) rfl rfl (by omega) (by omega) (by omega) (by omega) (fun q => rest (by omega)) (fun q => ?_)
  refine go_a (pc' := 6) (ls' := [some (.ref h.length), some (.int (iI k)), none]) (st' := [.int (iI k)]) rfl rfl ?_
  refine go_a (pc' := 8) (ls' := [some (.ref h.length), some (.int (iI k)), none]) (st' := [.int (iI 16), .int (iI k)]) rfl rfl ?_
  refine mi_gt (t := 13) rfl rfl (by omega) (by omega) (by omega) (by omega) (fun q2 => rest (by omega)) (fun q2 => ?_)
  refine go_a (pc' := 12) (ls' := [some (.ref h.length), some (.int (iI k)), none]) (st' := [.int (iI k)]) rfl rfl ?_
  exact go_r rfl rfl rfl rfl rfl rfl ⟨⟨k, rfl, Or.inr (Or.inl ⟨by omega, by omega, rfl⟩)⟩, rfl⟩
theorem mm_manyOf (z : Value) (d : Nat) (ar : Int → Int) (k x : Int) (h R : xx_H) (I : Nat → Int) (A : Nat → Int → Int) (N : Int → Int) (hc : 12 ≤ h.length) (hA : AR ar I A) (k0 : 0 ≤ k) (k1 : k < 140000) (hx : FN I A k x) : xx_cl (xt_P z) (d + 1) 112 [.ref h.length, .int (iI x)] (mh h R I A N) (fun v h1 => v = some (.int (iI (ar k))) ∧ h1 = mh h R I A N) := by
  have a1 := hA.1
  have a2 := hA.2.1
  have a3 := hA.2.2.1
  unfold FN at hx
  refine cl_go rfl ?_
  show xx_go (xt_P z) d 112 0 [some (.ref h.length), some (.int (iI x))] [] (mh h R I A N) _
  refine go_a (pc' := 1) (ls' := [some (.ref h.length), some (.int (iI x))]) (st' := [.int (iI x)]) rfl rfl ?_
  refine go_a (pc' := 2) (ls' := [some (.ref h.length), some (.int (iI x))]) (st' := [.int (iI 3), .int (iI x)]) rfl rfl ?_
  refine mi_ne (t := 7) rfl rfl (by omega) (by omega) (by omega) (by omega) (fun q1 => ?_) (fun q1 => ?_)
  · refine go_a (pc' := 8) (ls' := [some (.ref h.length), some (.int (iI x))]) (st' := [.int (iI x)]) rfl rfl ?_
    refine go_a (pc' := 10) (ls' := [some (.ref h.length), some (.int (iI x))]) (st' := [.int (iI 9), .int (iI x)]) rfl rfl ?_
    refine mi_gt (t := 15) rfl rfl (by omega) (by omega) (by omega) (by omega) (fun q2 => ?_) (fun q2 => ?_)
    · refine go_a (pc' := 16) (ls' := [some (.ref h.length), some (.int (iI x))]) (st' := [.int (iI x)]) rfl rfl ?_
      refine go_a (pc' := 18) (ls' := [some (.ref h.length), some (.int (iI x))]) (st' := [.int (iI 16), .int (iI x)]) rfl rfl ?_
      refine mi_gt (t := 23) rfl rfl (by omega) (by omega) (by omega) (by omega) (fun q3 => ?_) (fun q3 => ?_)
      · refine go_a (pc' := 24) (ls' := [some (.ref h.length), some (.int (iI x))]) (st' := [.int (iI x)]) rfl rfl ?_
        refine go_a (pc' := 26) (ls' := [some (.ref h.length), some (.int (iI x))]) (st' := [.int (iI 99), .int (iI x)]) rfl rfl ?_
        refine mi_ne (t := 36) rfl rfl (by omega) (by omega) (by omega) (by omega) (fun q4 => ?_) (fun q4 => ?_)
        · have hd : 16 < k ∧ k ≠ I 44 ∧ 100 ≤ x ∧ x < 100 + I 32 ∧ A 20 (x - 100) = k := by omega
          have r := hA.2.2.2 (x - 100) (by omega) (by omega)
          refine go_a (pc' := 37) (ls' := [some (.ref h.length), some (.int (iI x))]) (st' := [.ref h.length]) rfl rfl ?_
          refine go_get rfl mh_o rfl rfl ?_
          refine go_a (pc' := 41) (ls' := [some (.ref h.length), some (.int (iI x))]) (st' := [.int (iI x), .ref (h.length + 21)]) rfl rfl ?_
          refine go_a (pc' := 43) (ls' := [some (.ref h.length), some (.int (iI x))]) (st' := [.int (iI 100), .int (iI x), .ref (h.length + 21)]) rfl rfl ?_
          refine mi_sub rfl ?_
          refine mi_ild rfl mh_a21 (by omega) (by omega) (by decide) ?_
          have e := r.2.2 (by omega)
          rw [hd.2.2.2.2] at e
          exact go_r rfl rfl rfl rfl rfl rfl ⟨by rw [e], rfl⟩
        · refine go_a (pc' := 30) (ls' := [some (.ref h.length), some (.int (iI x))]) (st' := [.ref h.length]) rfl rfl ?_
          refine go_get (v := .int (iI (I 45))) rfl mh_o rfl rfl ?_
          refine go_a (pc' := 45) (ls' := [some (.ref h.length), some (.int (iI x))]) (st' := [.int (iI (I 45))]) rfl rfl ?_
          have e : k = I 44 ∧ 16 < k := by omega
          have e2 := a2.2.2.2.2 (by omega)
          rw [← e.1] at e2
          exact go_r rfl rfl rfl rfl rfl rfl ⟨by rw [e2], rfl⟩
      · refine go_a (pc' := 22) (ls' := [some (.ref h.length), some (.int (iI x))]) (st' := [.int (iI 1)]) rfl rfl ?_
        have e2 := a1.2.2 k (by omega) (by omega)
        exact go_r rfl rfl rfl rfl rfl rfl ⟨by rw [e2], rfl⟩
    · refine go_a (pc' := 14) (ls' := [some (.ref h.length), some (.int (iI x))]) (st' := [.int (iI 2)]) rfl rfl ?_
      have e2 := a1.2.1 k (by omega) (by omega)
      exact go_r rfl rfl rfl rfl rfl rfl ⟨by rw [e2], rfl⟩
  · refine go_a (pc' := 6) (ls' := [some (.ref h.length), some (.int (iI x))]) (st' := [.int (iI 3)]) rfl rfl ?_
    have e : k = 3 := by omega
    exact go_r rfl rfl rfl rfl rfl rfl ⟨by rw [e, a1.1], rfl⟩
theorem mm_pairZ (z : Value) (d : Nat) (l r : Int) (ar : Int → Int) (h R : xx_H) (I : Nat → Int) (A : Nat → Int → Int) (N : Int → Int) (hc : 12 ≤ h.length) (hS : MST I A N) (hZ : SZI ar I A) (ho : I 7 < 140000) (l0 : 0 ≤ l) (l1 : l < I 7) (r0 : 0 ≤ r) (r1 : r < I 7) : xx_cl (xt_P z) (d + 2) 85 [.ref h.length, .int (iI l), .int (iI r)] (mh h R I A N) (fun v h1 => ∃ (k : Int) (I1 : Nat → Int) (A1 : Nat → Int → Int), v = some (.int (iI k)) ∧ h1 = mh h R I1 A1 N ∧ EX I A N I1 A1 N ∧ SZI ar I1 A1 ∧ 0 ≤ k ∧ k < I1 7 ∧ A1 1 k = l ∧ I1 7 ≤ I 7 + 1 ∧ (I1 10 = I 10 ∧ A1 8 = A 8 ∧ A1 9 = A 9) ∧ A1 2 k = r ∧ ((∃ j : Int, 0 ≤ j ∧ j < I 7 ∧ A 1 j = l ∧ A 2 j = r) → I1 7 = I 7)) := by
  refine cl_w (fun v h1 hq => ?_) (mm_pair z d l r h R I A N hc hS ho l0 l1 r0 r1)
  obtain ⟨k, I1, A1, rfl, rfl, S1, k0, k1, e1, e2, e3⟩ := hq
  rcases e3 with ⟨rfl, rfl⟩ | ⟨rfl, rfl, rfl, e4⟩
  · exact ⟨k, _, _, rfl, rfl, EX_rf S1, hZ, k0, k1, e1, by omega, ⟨rfl, rfl, rfl⟩, e2, fun _ => rfl⟩
  · have X := EX_add S1
    exact ⟨_, _, _, rfl, rfl, X, SZI_grow (F := NO) (G := NO) (k2 := I 7) (MST_PW hS) hZ (BX_EX X rfl rfl rfl) (Int.le_refl _) (fun j j0 j1 => (X.2.2.1 j j0 j1).2.2.2) (fun _ => sf_self) (fun _ => rfl), k0, k1, e1, Int.le_refl _, ⟨rfl, rfl, rfl⟩, e2, fun q => by obtain ⟨j, j0, j1, q1, q2⟩ := q; exact absurd ⟨q1, q2⟩ (e4 j j0 j1)⟩
theorem mm_list1Z (z : Value) (d : Nat) (a : Int) (ar : Int → Int) (h R : xx_H) (I : Nat → Int) (A : Nat → Int → Int) (N : Int → Int) (hc : 12 ≤ h.length) (hS : MST I A N) (hZ : SZI ar I A) (ho : I 7 + 1 ≤ 140000) (z0 : 0 < I 7) (a0 : 0 ≤ a) (a1 : a < I 7) : xx_cl (xt_P z) (d + 3) 89 [.ref h.length, .int (iI a)] (mh h R I A N) (fun v h1 => ∃ (k : Int) (I1 : Nat → Int) (A1 : Nat → Int → Int), v = some (.int (iI k)) ∧ h1 = mh h R I1 A1 N ∧ EX I A N I1 A1 N ∧ SZI ar I1 A1 ∧ 0 ≤ k ∧ k < I1 7 ∧ I1 7 ≤ I 7 + 1 ∧ (I1 10 = I 10 ∧ A1 8 = A 8 ∧ A1 9 = A 9) ∧ A1 1 k = a ∧ A1 2 k = 0 ∧ ((∃ j : Int, 0 ≤ j ∧ j < I 7 ∧ A 1 j = a ∧ A 2 j = 0) → I1 7 = I 7)) := by
  refine cl_go rfl ?_
  show xx_go (xt_P z) (d + 2) 89 0 [some (.ref h.length), some (.int (iI a))] [] (mh h R I A N) _
  refine go_a (pc' := 1) (ls' := [some (.ref h.length), some (.int (iI a))]) (st' := [.ref h.length]) rfl rfl ?_
  refine go_a (pc' := 2) (ls' := [some (.ref h.length), some (.int (iI a))]) (st' := [.int (iI a), .ref h.length]) rfl rfl ?_
  refine go_a (pc' := 3) (ls' := [some (.ref h.length), some (.int (iI a))]) (st' := [.int (iI 0), .int (iI a), .ref h.length]) rfl rfl ?_
  refine go_v (m := 85) (as := [.ref h.length, .int (iI a), .int (iI 0)]) (r := []) rfl rfl rfl mh_o rfl rfl (mm_pairZ z d a 0 ar h R I A N hc hS hZ (by omega) a0 a1 (by omega) z0) (fun v h1 hq => ?_)
  obtain ⟨k, I1, A1, rfl, rfl, X, Z1, k0, k1, e1, e3, e4, e5, e6⟩ := hq
  exact go_r rfl rfl rfl rfl rfl rfl ⟨k, I1, A1, rfl, rfl, X, Z1, k0, k1, e3, e4, e1, e5, e6⟩
theorem mm_quoteS (z : Value) (d : Nat) (v : Int) (ar : Int → Int) (h R : xx_H) (I : Nat → Int) (A : Nat → Int → Int) (N : Int → Int) (hc : 12 ≤ h.length) (hS : MST I A N) (hZ : SZI ar I A) (ho : I 7 + 2 ≤ 140000) (z0 : 2 < I 7) (v0 : 0 ≤ v) (v1 : v < I 7) : xx_cl (xt_P z) (d + 4) 88 [.ref h.length, .int (iI 2), .int (iI v)] (mh h R I A N) (fun w h1 => ∃ (k : Int) (I1 : Nat → Int) (A1 : Nat → Int → Int), w = some (.int (iI k)) ∧ h1 = mh h R I1 A1 N ∧ EX I A N I1 A1 N ∧ SZI ar I1 A1 ∧ 0 ≤ k ∧ k < I1 7 ∧ A1 1 k = 2 ∧ I1 7 ≤ I 7 + 2 ∧ (I1 10 = I 10 ∧ A1 8 = A 8 ∧ A1 9 = A 9) ∧ (0 ≤ A1 2 k ∧ A1 1 (A1 2 k) = v ∧ A1 2 (A1 2 k) = 0) ∧ (∀ j : Int, 0 ≤ j → j < I 7 → A 1 j = 2 → 0 ≤ A 2 j → A 1 (A 2 j) = v → A 2 (A 2 j) = 0 → I1 7 = I 7)) := by
  refine cl_go rfl ?_
  show xx_go (xt_P z) (d + 3) 88 0 [some (.ref h.length), some (.int (iI 2)), some (.int (iI v))] [] (mh h R I A N) _
  refine go_a (pc' := 1) (ls' := [some (.ref h.length), some (.int (iI 2)), some (.int (iI v))]) (st' := [.ref h.length]) rfl rfl ?_
  refine go_a (pc' := 2) (ls' := [some (.ref h.length), some (.int (iI 2)), some (.int (iI v))]) (st' := [.int (iI 2), .ref h.length]) rfl rfl ?_
  refine go_a (pc' := 3) (ls' := [some (.ref h.length), some (.int (iI 2)), some (.int (iI v))]) (st' := [.ref h.length, .int (iI 2), .ref h.length]) rfl rfl ?_
  refine go_a (pc' := 4) (ls' := [some (.ref h.length), some (.int (iI 2)), some (.int (iI v))]) (st' := [.int (iI v), .ref h.length, .int (iI 2), .ref h.length]) rfl rfl ?_
  refine go_v (m := 89) (as := [.ref h.length, .int (iI v)]) (r := [.int (iI 2), .ref h.length]) rfl rfl rfl mh_o rfl rfl (mm_list1Z z d v ar h R I A N hc hS hZ (by omega) (by omega) v0 v1) (fun v h1 hq => ?_)
  obtain ⟨k, I1, A1, rfl, rfl, X, Z1, k0, k1, e3, e4, e5, e6, e7⟩ := hq
  have x2 := X.2.1
  show xx_go (xt_P z) (d + 3) 88 7 [some (.ref h.length), some (.int (iI 2)), some (.int (iI v))] [.int (iI k), .int (iI 2), .ref h.length] (mh h R I1 A1 N) _
  refine go_v (m := 85) (as := [.ref h.length, .int (iI 2), .int (iI k)]) (r := []) rfl rfl rfl mh_o rfl rfl (mm_pairZ z (d + 1) 2 k ar h R I1 A1 N hc X.1 Z1 (by omega) (by omega) (by omega) k0 k1) (fun v h1 hq => ?_)
  obtain ⟨k2, I2, A2, rfl, rfl, X2, Z2, k20, k21, f1, f3, f4, f5, f6⟩ := hq
  have ok := X2.2.2.1 k k0 k1
  have fo : ∀ j : Int, 0 ≤ j → j < I 7 → A 1 j = 2 → 0 ≤ A 2 j → A 1 (A 2 j) = v → A 2 (A 2 j) = 0 → I2 7 = I 7 := fun j j0 j1 q1 q2 q3 q4 => by
    have hP := MST_PW hS
    have qj0 := hP.2 j j0 j1
    have qj := qj0.2.2.2.2 (by omega)
    have u1 := e7 ⟨A 2 j, q2, by omega, q3, q4⟩
    have oj := X.2.2.1 j j0 j1
    have o2 := X.2.2.1 (A 2 j) q2 (by omega)
    have kj : k = A 2 j := UQ_of X.1 k (A 2 j) k0 k1 q2 (by omega) (by omega) (by rw [e5, o2.1, q3]) (by rw [e6, o2.2.1, q4])
    have u2 := f6 ⟨j, j0, by omega, by rw [oj.1]; exact q1, by rw [oj.2.1, kj]⟩
    omega
  exact go_r rfl rfl rfl rfl rfl rfl ⟨k2, I2, A2, rfl, rfl, EX_tr X X2, Z2, k20, k21, f1, by omega, ⟨f4.1.trans e4.1, f4.2.1.trans e4.2.1, f4.2.2.trans e4.2.2⟩, ⟨by rw [f5]; exact k0, by rw [f5, ok.1]; exact e5, by rw [f5, ok.2.1]; exact e6⟩, fo⟩
theorem mm_constantOf (z : Value) (d : Nat) (ar : Int → Int) (k : Int) (h R : xx_H) (I : Nat → Int) (A : Nat → Int → Int) (N : Int → Int) (hc : 12 ≤ h.length) (hS : MST I A N) (hN : NM I A) (hZ : SZI ar I A) (ho : I 7 + 2 ≤ 140000) (k0 : 0 ≤ k) (k1 : k < I 7) : xx_cl (xt_P z) (d + 5) 109 [.ref h.length, .int (iI k)] (mh h R I A N) (fun v h1 => ∃ (t : Int) (I1 : Nat → Int) (A1 : Nat → Int → Int), v = some (.int (iI t)) ∧ h1 = mh h R I1 A1 N ∧ EX I A N I1 A1 N ∧ SZI ar I1 A1 ∧ (0 ≤ t ∧ t < I1 7) ∧ TZ A1 ar t = 1 ∧ I1 7 ≤ I 7 + 2 ∧ (I1 10 = I 10 ∧ A1 8 = A 8 ∧ A1 9 = A 9) ∧ CQ A1 k t ∧ (∀ j : Int, 0 ≤ j → j < I 7 → A 1 j = 2 → 0 ≤ A 2 j → A 1 (A 2 j) = k → A 2 (A 2 j) = 0 → I1 7 = I 7)) := by
  have hP := MST_PW hS
  have p1 := hP.1
  have q := hP.2 k k0 k1
  have nn := hN.1
  have same : A 1 k < 0 → (A 1 k = -1 ∨ k = 0 ∨ k = 1) → xx_go (xt_P z) (d + 4) 109 17 [some (.ref h.length), some (.int (iI k))] [] (mh h R I A N) (fun v h1 => ∃ (t : Int) (I1 : Nat → Int) (A1 : Nat → Int → Int), v = some (.int (iI t)) ∧ h1 = mh h R I1 A1 N ∧ EX I A N I1 A1 N ∧ SZI ar I1 A1 ∧ (0 ≤ t ∧ t < I1 7) ∧ TZ A1 ar t = 1 ∧ I1 7 ≤ I 7 + 2 ∧ (I1 10 = I 10 ∧ A1 8 = A 8 ∧ A1 9 = A 9) ∧ CQ A1 k t ∧ (∀ j : Int, 0 ≤ j → j < I 7 → A 1 j = 2 → 0 ≤ A 2 j → A 1 (A 2 j) = k → A 2 (A 2 j) = 0 → I1 7 = I 7)) := by
    intro e ec
    refine go_a (pc' := 18) (ls' := [some (.ref h.length), some (.int (iI k))]) (st' := [.int (iI k)]) rfl rfl ?_
    refine go_a (pc' := 27) (ls' := [some (.ref h.length), some (.int (iI k))]) (st' := [.int (iI k)]) rfl rfl ?_
    exact go_r rfl rfl rfl rfl rfl rfl ⟨k, I, A, rfl, rfl, EX_rf hS, hZ, ⟨k0, k1⟩, TZ_atom e, by omega, ⟨rfl, rfl, rfl⟩, Or.inl ⟨ec, rfl⟩, fun _ _ _ _ _ _ _ => rfl⟩
  refine cl_go rfl ?_
  show xx_go (xt_P z) (d + 4) 109 0 [some (.ref h.length), some (.int (iI k))] [] (mh h R I A N) _
  refine go_a (pc' := 1) (ls' := [some (.ref h.length), some (.int (iI k))]) (st' := [.ref h.length]) rfl rfl ?_
  refine go_a (pc' := 2) (ls' := [some (.ref h.length), some (.int (iI k))]) (st' := [.int (iI k), .ref h.length]) rfl rfl ?_
  refine go_v (m := 110) (as := [.ref h.length, .int (iI k)]) (r := []) rfl rfl rfl mh_o rfl rfl (mb_isNatural z (d + 3) k h R I A N hc hP k0 k1) (fun v h1 hq => ?_)
  obtain ⟨⟨b, rfl, hb⟩, rfl⟩ := hq
  show xx_go (xt_P z) (d + 4) 109 5 [some (.ref h.length), some (.int (iI k))] [.int (iI b)] (mh h R I A N) _
  refine mi_ne0 (t := 17) rfl rfl (by omega) (by omega) (fun e => same (by omega) (by omega)) (fun e => ?_)
  refine go_a (pc' := 9) (ls' := [some (.ref h.length), some (.int (iI k))]) (st' := [.int (iI k)]) rfl rfl ?_
  refine mi_eq0 (t := 17) rfl rfl (by omega) (by omega) (fun e1 => same (by rw [e1, hN.2 0 (by decide) (by decide)]; decide) (Or.inr (Or.inl e1))) (fun e1 => ?_)
  refine go_a (pc' := 13) (ls' := [some (.ref h.length), some (.int (iI k))]) (st' := [.int (iI k)]) rfl rfl ?_
  refine go_a (pc' := 14) (ls' := [some (.ref h.length), some (.int (iI k))]) (st' := [.int (iI 1), .int (iI k)]) rfl rfl ?_
  refine mi_ne (t := 21) rfl rfl (by omega) (by omega) (by omega) (by omega) (fun e2 => ?_) (fun e2 => same (by rw [show k = 1 by omega, hN.2 1 (by decide) (by decide)]; decide) (by omega))
  refine go_a (pc' := 22) (ls' := [some (.ref h.length), some (.int (iI k))]) (st' := [.ref h.length]) rfl rfl ?_
  refine go_a (pc' := 23) (ls' := [some (.ref h.length), some (.int (iI k))]) (st' := [.int (iI 2), .ref h.length]) rfl rfl ?_
  refine go_a (pc' := 24) (ls' := [some (.ref h.length), some (.int (iI k))]) (st' := [.int (iI k), .int (iI 2), .ref h.length]) rfl rfl ?_
  refine go_v (m := 88) (as := [.ref h.length, .int (iI 2), .int (iI k)]) (r := []) rfl rfl rfl mh_o rfl rfl (mm_quoteS z d k ar h R I A N hc hS hZ ho (by omega) k0 k1) (fun v h1 hq => ?_)
  obtain ⟨t, I1, A1, rfl, rfl, X, Z1, t0, t1, e3, e5, e6, e7, e8⟩ := hq
  have ok := X.2.2.1 k k0 k1
  exact go_r rfl rfl rfl rfl rfl rfl ⟨t, I1, A1, rfl, rfl, X, Z1, ⟨t0, t1⟩, TZ_quote (MST_PW X.1) t0 t1 e3, e5, e6, Or.inr ⟨by rw [ok.1]; omega, e3, e7⟩, e8⟩
theorem mm_lenL_loop (z : Value) (d : Nat) (o : Int) (h R : xx_H) (I : Nat → Int) (A : Nat → Int → Int) (N : Int → Int) (hc : 12 ≤ h.length) (hP : PW I A) (n0 : A 1 0 < 0) : ∀ (m : Nat) (k c : Int), 0 ≤ k → k < I 7 → isL A m k → 0 ≤ c → c + m < 1000000 → xx_go (xt_P z) (d + 1) 98 4 [some (.ref h.length), some (.int (iI o)), some (.int (iI c)), some (.int (iI k))] [] (mh h R I A N) (fun v h1 => v = some (.int (iI (c + m))) ∧ h1 = mh h R I A N) := by
  have p1 := hP.1
  intro m
  induction m with
  | zero =>
    intro k c k0 k1 hL c0 c1
    have e : k = 0 := hL
    subst e
    refine go_a (pc' := 5) (ls' := [some (.ref h.length), some (.int (iI o)), some (.int (iI c)), some (.int (iI 0))]) (st' := [.ref h.length]) rfl rfl ?_
    refine go_a (pc' := 6) (ls' := [some (.ref h.length), some (.int (iI o)), some (.int (iI c)), some (.int (iI 0))]) (st' := [.int (iI 0), .ref h.length]) rfl rfl ?_
    refine go_v (m := 96) (as := [.ref h.length, .int (iI 0)]) (r := []) rfl rfl rfl mh_o rfl rfl (mb_isPair z d 0 h R I A N hc hP k0 k1) (fun v h1 hq => ?_)
    obtain ⟨⟨b, rfl, hb⟩, rfl⟩ := hq
    show xx_go (xt_P z) (d + 1) 98 9 [some (.ref h.length), some (.int (iI o)), some (.int (iI c)), some (.int (iI 0))] [.int (iI b)] (mh h R I A N) _
    refine mi_eq0 (t := 25) rfl rfl (by omega) (by omega) (fun _ => ?_) (fun q => absurd (show b = 0 by omega) q)
    refine go_a (pc' := 26) (ls' := [some (.ref h.length), some (.int (iI o)), some (.int (iI c)), some (.int (iI 0))]) (st' := [.int (iI 0)]) rfl rfl ?_
    refine mi_ne0 (t := 33) rfl rfl (by omega) (by omega) (fun q => absurd rfl q) (fun _ => ?_)
    refine go_a (pc' := 30) (ls' := [some (.ref h.length), some (.int (iI o)), some (.int (iI c)), some (.int (iI 0))]) (st' := [.int (iI c)]) rfl rfl ?_
    refine go_a (pc' := 34) (ls' := [some (.ref h.length), some (.int (iI o)), some (.int (iI c)), some (.int (iI 0))]) (st' := [.int (iI c)]) rfl rfl ?_
    exact go_r rfl rfl rfl rfl rfl rfl ⟨by rw [show c + ((0 : Nat) : Int) = c by omega], rfl⟩
  | succ m ih =>
    intro k c k0 k1 hL c0 c1
    have pk := hL.1
    have q := hP.2 k k0 k1
    have q2 := q.2.2.2.2 pk
    refine go_a (pc' := 5) (ls' := [some (.ref h.length), some (.int (iI o)), some (.int (iI c)), some (.int (iI k))]) (st' := [.ref h.length]) rfl rfl ?_
    refine go_a (pc' := 6) (ls' := [some (.ref h.length), some (.int (iI o)), some (.int (iI c)), some (.int (iI k))]) (st' := [.int (iI k), .ref h.length]) rfl rfl ?_
    refine go_v (m := 96) (as := [.ref h.length, .int (iI k)]) (r := []) rfl rfl rfl mh_o rfl rfl (mb_isPair z d k h R I A N hc hP k0 k1) (fun v h1 hq => ?_)
    obtain ⟨⟨b, rfl, hb⟩, rfl⟩ := hq
    show xx_go (xt_P z) (d + 1) 98 9 [some (.ref h.length), some (.int (iI o)), some (.int (iI c)), some (.int (iI k))] [.int (iI b)] (mh h R I A N) _
    refine mi_eq0 (t := 25) rfl rfl (by omega) (by omega) (fun q => absurd q (by omega)) (fun _ => ?_)
    refine go_a (pc' := 15) (ls' := [some (.ref h.length), some (.int (iI o)), some (.int (iI (c + 1))), some (.int (iI k))]) (st' := []) rfl (by rw [← iI_add c 1]; rfl) ?_
    refine go_a (pc' := 16) (ls' := [some (.ref h.length), some (.int (iI o)), some (.int (iI (c + 1))), some (.int (iI k))]) (st' := [.ref h.length]) rfl rfl ?_
    refine go_get rfl mh_o rfl rfl ?_
    refine go_a (pc' := 20) (ls' := [some (.ref h.length), some (.int (iI o)), some (.int (iI (c + 1))), some (.int (iI k))]) (st' := [.int (iI k), .ref (h.length + 2)]) rfl rfl ?_
    refine mi_ild rfl mh_a2 (by omega) (by omega) (by decide) ?_
    refine go_a (pc' := 22) (ls' := [some (.ref h.length), some (.int (iI o)), some (.int (iI (c + 1))), some (.int (iI (A 2 k)))]) (st' := []) rfl rfl ?_
    refine go_a (pc' := 4) (ls' := [some (.ref h.length), some (.int (iI o)), some (.int (iI (c + 1))), some (.int (iI (A 2 k)))]) (st' := []) rfl rfl ?_
    rw [show c + ((m + 1 : Nat) : Int) = c + 1 + m by omega]
    exact ih (A 2 k) (c + 1) (by omega) (by omega) hL.2 (by omega) (by omega)
theorem mm_lenL (z : Value) (d m : Nat) (k : Int) (h R : xx_H) (I : Nat → Int) (A : Nat → Int → Int) (N : Int → Int) (hc : 12 ≤ h.length) (hP : PW I A) (n0 : A 1 0 < 0) (k0 : 0 ≤ k) (k1 : k < I 7) (hL : isL A m k) : xx_cl (xt_P z) (d + 2) 98 [.ref h.length, .int (iI k)] (mh h R I A N) (fun v h1 => v = some (.int (iI ((m : Int)))) ∧ h1 = mh h R I A N) := by
  have p1 := hP.1
  have ll := isL_len hP k.toNat m k (Nat.le_refl _) k0 k1 hL
  refine cl_go rfl ?_
  show xx_go (xt_P z) (d + 1) 98 0 [some (.ref h.length), some (.int (iI k)), none, none] [] (mh h R I A N) _
  refine go_a (pc' := 1) (ls' := [some (.ref h.length), some (.int (iI k)), none, none]) (st' := [.int (iI 0)]) rfl rfl ?_
  refine go_a (pc' := 2) (ls' := [some (.ref h.length), some (.int (iI k)), some (.int (iI 0)), none]) (st' := []) rfl rfl ?_
  refine go_a (pc' := 3) (ls' := [some (.ref h.length), some (.int (iI k)), some (.int (iI 0)), none]) (st' := [.int (iI k)]) rfl rfl ?_
  refine go_a (pc' := 4) (ls' := [some (.ref h.length), some (.int (iI k)), some (.int (iI 0)), some (.int (iI k))]) (st' := []) rfl rfl ?_
  rw [show (m : Int) = 0 + m by omega]
  exact mm_lenL_loop z d k h R I A N hc hP n0 m k 0 k0 k1 hL (by decide) (by omega)
theorem isL_uq {A : Nat → Int → Int} (n0 : A 1 0 < 0) : ∀ (m n : Nat) (k : Int), isL A m k → isL A n k → m = n
  | 0, 0, _, _, _ => rfl
  | 0, n + 1, k, h, g => by
    have e : k = 0 := h
    have := g.1
    rw [e] at this
    omega
  | m + 1, 0, k, h, g => by
    have e : k = 0 := g
    have := h.1
    rw [e] at this
    omega
  | m + 1, n + 1, k, h, g => by rw [isL_uq n0 m n (A 2 k) h.2 g.2]
theorem mm_len2 (z : Value) (d : Nat) (k : Int) (h R : xx_H) (I : Nat → Int) (A : Nat → Int → Int) (N : Int → Int) (hc : 12 ≤ h.length) (hP : PW I A) (n0 : A 1 0 < 0) (k0 : 0 ≤ k) (k1 : k < I 7) : xx_cl (xt_P z) (d + 2) 98 [.ref h.length, .int (iI k)] (mh h R I A N) (fun v h1 => (∃ n : Int, v = some (.int (iI n)) ∧ ((n = -1 ∧ ∀ q : Nat, ¬ isL A q k) ∨ ∃ q : Nat, n = q ∧ isL A q k)) ∧ h1 = mh h R I A N) := by
  by_cases e : ∃ m : Nat, isL A m k
  · obtain ⟨m, hm⟩ := e
    refine cl_w (fun v h1 hq => ?_) (mm_lenL z d m k h R I A N hc hP n0 k0 k1 hm)
    exact ⟨⟨m, hq.1, Or.inr ⟨m, rfl, hm⟩⟩, hq.2⟩
  · refine cl_w (fun v h1 hq => ?_) (mm_lengthOf z d k h R I A N hc hP k0 k1)
    obtain ⟨⟨n, hn, hc⟩, hh⟩ := hq
    refine ⟨⟨n, hn, ?_⟩, hh⟩
    rcases hc with hc | ⟨q, hq, hl⟩
    · exact Or.inl ⟨hc, fun q hq => e ⟨q, hq⟩⟩
    · exact absurd ⟨q, hl⟩ e

