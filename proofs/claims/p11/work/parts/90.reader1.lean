theorem mm_isInList (z : Value) (d : Nat) (h R : xx_H) (I : Nat → Int) (A : Nat → Int → Int) (N : Int → Int) (hc : 12 ≤ h.length) (p0 : 0 ≤ I 27) (p1 : I 27 ≤ 40) (r15 : ∀ k : Int, 0 ≤ k → k < I 27 → A 15 k = 0 ∨ A 15 k = 1) : xx_cl (xt_P z) (d + 1) 83 [.ref h.length] (mh h R I A N) (fun v h1 => (∃ b : Int, v = some (.int (iI b)) ∧ ((b = 1 ∧ 0 < I 27 ∧ A 15 (I 27 - 1) = 0) ∨ (b = 0 ∧ ¬ (0 < I 27 ∧ A 15 (I 27 - 1) = 0)))) ∧ h1 = mh h R I A N) := by
  refine cl_go rfl ?_
  show xx_go (xt_P z) d 83 0 [some (.ref h.length)] [] (mh h R I A N) _
  refine go_a (pc' := 1) (ls' := [some (.ref h.length)]) (st' := [.ref h.length]) rfl rfl ?_
  refine go_get (v := .int (iI (I 27))) rfl mh_o rfl rfl ?_
  refine mi_le0 (t := 25) rfl rfl (by omega) (by omega) (fun b1 => ?_) (fun b1 => ?_)
  · refine go_a (pc' := 26) (ls' := [some (.ref h.length)]) (st' := [.int (iI 0)]) rfl rfl ?_
    exact go_r rfl rfl rfl rfl rfl rfl ⟨⟨0, rfl, Or.inr ⟨rfl, by omega⟩⟩, rfl⟩
  · have r := r15 (I 27 - 1) (by omega) (by omega)
    refine go_a (pc' := 8) (ls' := [some (.ref h.length)]) (st' := [.ref h.length]) rfl rfl ?_
    refine go_get rfl mh_o rfl rfl ?_
    refine go_a (pc' := 12) (ls' := [some (.ref h.length)]) (st' := [.ref h.length, .ref (h.length + 15)]) rfl rfl ?_
    refine go_get (v := .int (iI (I 27))) rfl mh_o rfl rfl ?_
    refine go_a (pc' := 16) (ls' := [some (.ref h.length)]) (st' := [.int (iI 1), .int (iI (I 27)), .ref (h.length + 15)]) rfl rfl ?_
    refine mi_sub rfl ?_
    refine mi_ild rfl mh_a15 (by omega) (by omega) (by decide) ?_
    refine mi_ne0 (t := 25) rfl rfl (by omega) (by omega) (fun b2 => ?_) (fun b2 => ?_)
    · refine go_a (pc' := 26) (ls' := [some (.ref h.length)]) (st' := [.int (iI 0)]) rfl rfl ?_
      exact go_r rfl rfl rfl rfl rfl rfl ⟨⟨0, rfl, Or.inr ⟨rfl, by omega⟩⟩, rfl⟩
    · refine go_a (pc' := 22) (ls' := [some (.ref h.length)]) (st' := [.int (iI 1)]) rfl rfl ?_
      refine go_a (pc' := 26) (ls' := [some (.ref h.length)]) (st' := [.int (iI 1)]) rfl rfl ?_
      exact go_r rfl rfl rfl rfl rfl rfl ⟨⟨1, rfl, Or.inl ⟨rfl, by omega, by omega⟩⟩, rfl⟩
theorem mm_mayBegin (z : Value) (d : Nat) (h R : xx_H) (I : Nat → Int) (A : Nat → Int → Int) (N : Int → Int) (hc : 12 ≤ h.length) (p0 : 0 ≤ I 27) (p1 : I 27 ≤ 40) (r15 : ∀ k : Int, 0 ≤ k → k < I 27 → A 15 k = 0 ∨ A 15 k = 1) (r17 : ∀ k : Int, 0 ≤ k → k < I 27 → 0 ≤ A 17 k ∧ A 17 k ≤ 2) (r31 : I 31 = 0 ∨ I 31 = 1) : xx_cl (xt_P z) (d + 1) 81 [.ref h.length] (mh h R I A N) (fun v h1 => (∃ b : Int, v = some (.int (iI b)) ∧ ((b = 1 ∧ ((I 27 = 0 ∧ I 31 = 0) ∨ (0 < I 27 ∧ (A 15 (I 27 - 1) = 1 ∨ A 17 (I 27 - 1) < 2)))) ∨ (b = 0 ∧ ¬ ((I 27 = 0 ∧ I 31 = 0) ∨ (0 < I 27 ∧ (A 15 (I 27 - 1) = 1 ∨ A 17 (I 27 - 1) < 2)))))) ∧ h1 = mh h R I A N) := by
  refine cl_go rfl ?_
  show xx_go (xt_P z) d 81 0 [some (.ref h.length)] [] (mh h R I A N) _
  refine go_a (pc' := 1) (ls' := [some (.ref h.length)]) (st' := [.ref h.length]) rfl rfl ?_
  refine go_get (v := .int (iI (I 27))) rfl mh_o rfl rfl ?_
  refine mi_ne0 (t := 22) rfl rfl (by omega) (by omega) (fun b1 => ?_) (fun b1 => ?_)
  · have r := r15 (I 27 - 1) (by omega) (by omega)
    have s := r17 (I 27 - 1) (by omega) (by omega)
    refine go_a (pc' := 23) (ls' := [some (.ref h.length)]) (st' := [.ref h.length]) rfl rfl ?_
    refine go_get rfl mh_o rfl rfl ?_
    refine go_a (pc' := 27) (ls' := [some (.ref h.length)]) (st' := [.ref h.length, .ref (h.length + 15)]) rfl rfl ?_
    refine go_get (v := .int (iI (I 27))) rfl mh_o rfl rfl ?_
    refine go_a (pc' := 31) (ls' := [some (.ref h.length)]) (st' := [.int (iI 1), .int (iI (I 27)), .ref (h.length + 15)]) rfl rfl ?_
    refine mi_sub rfl ?_
    refine mi_ild rfl mh_a15 (by omega) (by omega) (by decide) ?_
    refine go_a (pc' := 34) (ls' := [some (.ref h.length)]) (st' := [.int (iI 1), .int (iI (A 15 ((I 27) - 1)))]) rfl rfl ?_
    refine mi_eq (t := 52) rfl rfl (by omega) (by omega) (by omega) (by omega) (fun b2 => ?_) (fun b2 => ?_)
    · refine go_a (pc' := 53) (ls' := [some (.ref h.length)]) (st' := [.int (iI 1)]) rfl rfl ?_
      refine go_a (pc' := 57) (ls' := [some (.ref h.length)]) (st' := [.int (iI 1)]) rfl rfl ?_
      exact go_r rfl rfl rfl rfl rfl rfl ⟨⟨1, rfl, Or.inl ⟨rfl, by omega⟩⟩, rfl⟩
    · refine go_a (pc' := 38) (ls' := [some (.ref h.length)]) (st' := [.ref h.length]) rfl rfl ?_
      refine go_get rfl mh_o rfl rfl ?_
      refine go_a (pc' := 42) (ls' := [some (.ref h.length)]) (st' := [.ref h.length, .ref (h.length + 17)]) rfl rfl ?_
      refine go_get (v := .int (iI (I 27))) rfl mh_o rfl rfl ?_
      refine go_a (pc' := 46) (ls' := [some (.ref h.length)]) (st' := [.int (iI 1), .int (iI (I 27)), .ref (h.length + 17)]) rfl rfl ?_
      refine mi_sub rfl ?_
      refine mi_ild rfl mh_a17 (by omega) (by omega) (by decide) ?_
      refine go_a (pc' := 49) (ls' := [some (.ref h.length)]) (st' := [.int (iI 2), .int (iI (A 17 ((I 27) - 1)))]) rfl rfl ?_
      refine mi_ge (t := 56) rfl rfl (by omega) (by omega) (by omega) (by omega) (fun b3 => ?_) (fun b3 => ?_)
      · refine go_a (pc' := 57) (ls' := [some (.ref h.length)]) (st' := [.int (iI 0)]) rfl rfl ?_
        exact go_r rfl rfl rfl rfl rfl rfl ⟨⟨0, rfl, Or.inr ⟨rfl, by omega⟩⟩, rfl⟩
      · refine go_a (pc' := 53) (ls' := [some (.ref h.length)]) (st' := [.int (iI 1)]) rfl rfl ?_
        refine go_a (pc' := 57) (ls' := [some (.ref h.length)]) (st' := [.int (iI 1)]) rfl rfl ?_
        exact go_r rfl rfl rfl rfl rfl rfl ⟨⟨1, rfl, Or.inl ⟨rfl, by omega⟩⟩, rfl⟩
  · refine go_a (pc' := 8) (ls' := [some (.ref h.length)]) (st' := [.ref h.length]) rfl rfl ?_
    refine go_get (v := .int (iI (I 31))) rfl mh_o rfl rfl ?_
    refine mi_ne0 (t := 18) rfl rfl (by omega) (by omega) (fun b2 => ?_) (fun b2 => ?_)
    · refine go_a (pc' := 19) (ls' := [some (.ref h.length)]) (st' := [.int (iI 0)]) rfl rfl ?_
      refine go_a (pc' := 57) (ls' := [some (.ref h.length)]) (st' := [.int (iI 0)]) rfl rfl ?_
      exact go_r rfl rfl rfl rfl rfl rfl ⟨⟨0, rfl, Or.inr ⟨rfl, by omega⟩⟩, rfl⟩
    · refine go_a (pc' := 15) (ls' := [some (.ref h.length)]) (st' := [.int (iI 1)]) rfl rfl ?_
      refine go_a (pc' := 57) (ls' := [some (.ref h.length)]) (st' := [.int (iI 1)]) rfl rfl ?_
      exact go_r rfl rfl rfl rfl rfl rfl ⟨⟨1, rfl, Or.inl ⟨rfl, by omega⟩⟩, rfl⟩
theorem mm_begin (z : Value) (d : Nat) (s : Int) (h R : xx_H) (I : Nat → Int) (A : Nat → Int → Int) (N : Int → Int) (hc : 12 ≤ h.length) (p0 : 0 ≤ I 27) (p1 : I 27 < 40) : xx_cl (xt_P z) (d + 1) 82 [.ref h.length, .int (iI s)] (mh h R I A N) (fun v h1 => v = none ∧ h1 = mh h R (su I 27 (I 27 + 1)) (sa (sa (sa A 15 (I 27) s) 16 (I 27) (I 29)) 17 (I 27) 0) N) := by
  refine cl_go rfl ?_
  show xx_go (xt_P z) d 82 0 [some (.ref h.length), some (.int (iI s))] [] (mh h R I A N) _
  refine go_a (pc' := 1) (ls' := [some (.ref h.length), some (.int (iI s))]) (st' := [.ref h.length]) rfl rfl ?_
  refine go_get rfl mh_o rfl rfl ?_
  refine go_a (pc' := 5) (ls' := [some (.ref h.length), some (.int (iI s))]) (st' := [.ref h.length, .ref (h.length + 15)]) rfl rfl ?_
  refine go_get (v := .int (iI (I 27))) rfl mh_o rfl rfl ?_
  refine go_a (pc' := 9) (ls' := [some (.ref h.length), some (.int (iI s))]) (st' := [.int (iI s), .int (iI (I 27)), .ref (h.length + 15)]) rfl rfl ?_
  refine mi_ist rfl mh_a15 (show 12 ≤ _ by omega) (by omega) (by omega) (by decide) ?_
  rw [mh_w15 (by omega)]
  refine go_a (pc' := 11) (ls' := [some (.ref h.length), some (.int (iI s))]) (st' := [.ref h.length]) rfl rfl ?_
  refine go_get rfl mh_o rfl rfl ?_
  refine go_a (pc' := 15) (ls' := [some (.ref h.length), some (.int (iI s))]) (st' := [.ref h.length, .ref (h.length + 16)]) rfl rfl ?_
  refine go_get (v := .int (iI (I 27))) rfl mh_o rfl rfl ?_
  refine go_a (pc' := 19) (ls' := [some (.ref h.length), some (.int (iI s))]) (st' := [.ref h.length, .int (iI (I 27)), .ref (h.length + 16)]) rfl rfl ?_
  refine go_get (v := .int (iI (I 29))) rfl mh_o rfl rfl ?_
  refine mi_ist rfl mh_a16 (show 12 ≤ _ by omega) (by omega) (by omega) (by decide) ?_
  rw [mh_w16 (by omega)]
  refine go_a (pc' := 24) (ls' := [some (.ref h.length), some (.int (iI s))]) (st' := [.ref h.length]) rfl rfl ?_
  refine go_get rfl mh_o rfl rfl ?_
  refine go_a (pc' := 28) (ls' := [some (.ref h.length), some (.int (iI s))]) (st' := [.ref h.length, .ref (h.length + 17)]) rfl rfl ?_
  refine go_get (v := .int (iI (I 27))) rfl mh_o rfl rfl ?_
  refine go_a (pc' := 32) (ls' := [some (.ref h.length), some (.int (iI s))]) (st' := [.int (iI 0), .int (iI (I 27)), .ref (h.length + 17)]) rfl rfl ?_
  refine mi_ist rfl mh_a17 (show 12 ≤ _ by omega) (by omega) (by omega) (by decide) ?_
  rw [mh_w17 (by omega)]
  refine go_a (pc' := 34) (ls' := [some (.ref h.length), some (.int (iI s))]) (st' := [.ref h.length]) rfl rfl ?_
  refine go_a (pc' := 35) (ls' := [some (.ref h.length), some (.int (iI s))]) (st' := [.ref h.length, .ref h.length]) rfl rfl ?_
  refine go_get (v := .int (iI (I 27))) rfl mh_o rfl rfl ?_
  refine go_a (pc' := 39) (ls' := [some (.ref h.length), some (.int (iI s))]) (st' := [.int (iI 1), .int (iI (I 27)), .ref h.length]) rfl rfl ?_
  refine mi_add rfl ?_
  refine go_put (j := 27) rfl mh_o rfl rfl (show 12 ≤ _ from hc) (show 27 < 86 by decide) rfl rfl ?_
  rw [mh_p27]
  exact go_r rfl rfl rfl rfl rfl rfl ⟨rfl, rfl⟩
theorem mm_spell (z : Value) (d : Nat) (c : Int) (h R : xx_H) (I : Nat → Int) (A : Nat → Int → Int) (N : Int → Int) (hc : 12 ≤ h.length) (c0 : 0 < c) (c1 : c ≤ 255) (w0 : 0 ≤ I 17) (w1 : I 17 < 12) : xx_cl (xt_P z) (d + 1) 61 [.ref h.length, .int (iI c)] (mh h R I A N) (fun v h1 => v = none ∧ h1 = mh h R (su I 17 (I 17 + 1)) (sa A 13 (I 17) c) N) := by
  refine cl_go rfl ?_
  show xx_go (xt_P z) d 61 0 [some (.ref h.length), some (.int (iI c))] [] (mh h R I A N) _
  refine go_a (pc' := 1) (ls' := [some (.ref h.length), some (.int (iI c))]) (st' := [.int (iI c)]) rfl rfl ?_
  refine mi_ne0 (t := 5) rfl rfl (by omega) (by omega) (fun _ => ?_) (fun q => absurd (show ¬ c = 0 by omega) q)
  refine go_a (pc' := 6) (ls' := [some (.ref h.length), some (.int (iI c))]) (st' := [.ref h.length]) rfl rfl ?_
  refine go_get rfl mh_o rfl rfl ?_
  refine go_a (pc' := 10) (ls' := [some (.ref h.length), some (.int (iI c))]) (st' := [.ref h.length, .ref (h.length + 13)]) rfl rfl ?_
  refine go_get (v := .int (iI (I 17))) rfl mh_o rfl rfl ?_
  refine go_a (pc' := 14) (ls' := [some (.ref h.length), some (.int (iI c))]) (st' := [.int (iI c), .int (iI (I 17)), .ref (h.length + 13)]) rfl rfl ?_
  refine mi_ist rfl mh_a13 (show 12 ≤ _ by omega) (by omega) (by omega) (by decide) ?_
  rw [mh_w13 (by omega)]
  refine go_a (pc' := 16) (ls' := [some (.ref h.length), some (.int (iI c))]) (st' := [.ref h.length]) rfl rfl ?_
  refine go_a (pc' := 17) (ls' := [some (.ref h.length), some (.int (iI c))]) (st' := [.ref h.length, .ref h.length]) rfl rfl ?_
  refine go_get (v := .int (iI (I 17))) rfl mh_o rfl rfl ?_
  refine go_a (pc' := 21) (ls' := [some (.ref h.length), some (.int (iI c))]) (st' := [.int (iI 1), .int (iI (I 17)), .ref h.length]) rfl rfl ?_
  refine mi_add rfl ?_
  refine go_put (j := 17) rfl mh_o rfl rfl (show 12 ≤ _ from hc) (show 17 < 86 by decide) rfl rfl ?_
  rw [mh_p17]
  exact go_r rfl rfl rfl rfl rfl rfl ⟨rfl, rfl⟩
theorem mm_list1s (z : Value) (d : Nat) (a : Int) (h R : xx_H) (I : Nat → Int) (A : Nat → Int → Int) (N : Int → Int) (hc : 12 ≤ h.length) (hS : MST I A N) (ho : I 7 + 1 ≤ 140000) (z0 : 0 < I 7) (a0 : 0 ≤ a) (a1 : a < I 7) : xx_cl (xt_P z) (d + 3) 89 [.ref h.length, .int (iI a)] (mh h R I A N) (fun v h1 => ∃ (k : Int) (I1 : Nat → Int) (A1 : Nat → Int → Int), v = some (.int (iI k)) ∧ h1 = mh h R I1 A1 N ∧ EX I A N I1 A1 N ∧ 0 ≤ k ∧ k < I1 7 ∧ A1 1 k = a ∧ A1 2 k = 0 ∧ I1 7 ≤ I 7 + 1 ∧ I1 10 = I 10) := by
  refine cl_go rfl ?_
  show xx_go (xt_P z) (d + 2) 89 0 [some (.ref h.length), some (.int (iI a))] [] (mh h R I A N) _
  refine go_a (pc' := 1) (ls' := [some (.ref h.length), some (.int (iI a))]) (st' := [.ref h.length]) rfl rfl ?_
  refine go_a (pc' := 2) (ls' := [some (.ref h.length), some (.int (iI a))]) (st' := [.int (iI a), .ref h.length]) rfl rfl ?_
  refine go_a (pc' := 3) (ls' := [some (.ref h.length), some (.int (iI a))]) (st' := [.int (iI 0), .int (iI a), .ref h.length]) rfl rfl ?_
  refine go_v (m := 85) (as := [.ref h.length, .int (iI a), .int (iI 0)]) (r := []) rfl rfl rfl mh_o rfl rfl (mm_pairE z d a 0 h R I A N hc hS (by omega) a0 a1 (by omega) z0) (fun v h1 hq => ?_)
  obtain ⟨k, I1, A1, rfl, rfl, X, k0, k1, e1, e2, e3, e4, -⟩ := hq
  exact go_r rfl rfl rfl rfl rfl rfl ⟨k, I1, A1, rfl, rfl, X, k0, k1, e1, e2, e3, e4⟩
theorem mm_quote (z : Value) (d : Nat) (v : Int) (h R : xx_H) (I : Nat → Int) (A : Nat → Int → Int) (N : Int → Int) (hc : 12 ≤ h.length) (hS : MST I A N) (ho : I 7 + 2 ≤ 140000) (z0 : 2 < I 7) (v0 : 0 ≤ v) (v1 : v < I 7) : xx_cl (xt_P z) (d + 4) 88 [.ref h.length, .int (iI 2), .int (iI v)] (mh h R I A N) (fun w h1 => ∃ (k : Int) (I1 : Nat → Int) (A1 : Nat → Int → Int), w = some (.int (iI k)) ∧ h1 = mh h R I1 A1 N ∧ EX I A N I1 A1 N ∧ 0 ≤ k ∧ k < I1 7 ∧ A1 1 k = 2 ∧ 0 ≤ A1 2 k ∧ A1 1 (A1 2 k) = v ∧ A1 2 (A1 2 k) = 0 ∧ I1 7 ≤ I 7 + 2 ∧ I1 10 = I 10) := by
  refine cl_go rfl ?_
  show xx_go (xt_P z) (d + 3) 88 0 [some (.ref h.length), some (.int (iI 2)), some (.int (iI v))] [] (mh h R I A N) _
  refine go_a (pc' := 1) (ls' := [some (.ref h.length), some (.int (iI 2)), some (.int (iI v))]) (st' := [.ref h.length]) rfl rfl ?_
  refine go_a (pc' := 2) (ls' := [some (.ref h.length), some (.int (iI 2)), some (.int (iI v))]) (st' := [.int (iI 2), .ref h.length]) rfl rfl ?_
  refine go_a (pc' := 3) (ls' := [some (.ref h.length), some (.int (iI 2)), some (.int (iI v))]) (st' := [.ref h.length, .int (iI 2), .ref h.length]) rfl rfl ?_
  refine go_a (pc' := 4) (ls' := [some (.ref h.length), some (.int (iI 2)), some (.int (iI v))]) (st' := [.int (iI v), .ref h.length, .int (iI 2), .ref h.length]) rfl rfl ?_
  refine go_v (m := 89) (as := [.ref h.length, .int (iI v)]) (r := [.int (iI 2), .ref h.length]) rfl rfl rfl mh_o rfl rfl (mm_list1s z d v h R I A N hc hS (by omega) (by omega) v0 v1) (fun v h1 hq => ?_)
  obtain ⟨k, I1, A1, rfl, rfl, X, k0, k1, e1, e2, e3, e4⟩ := hq
  have x2 := X.2.1
  show xx_go (xt_P z) (d + 3) 88 7 [some (.ref h.length), some (.int (iI 2)), some (.int (iI v))] [.int (iI k), .int (iI 2), .ref h.length] (mh h R I1 A1 N) _
  refine go_v (m := 85) (as := [.ref h.length, .int (iI 2), .int (iI k)]) (r := []) rfl rfl rfl mh_o rfl rfl (mm_pairE z (d + 1) 2 k h R I1 A1 N hc X.1 (by omega) (by omega) (by omega) k0 k1) (fun v h1 hq => ?_)
  obtain ⟨k2, I2, A2, rfl, rfl, X2, k20, k21, f1, f2, f3, f4, -⟩ := hq
  have y := X2.2.2.1 k k0 k1
  exact go_r rfl rfl rfl rfl rfl rfl ⟨k2, I2, A2, rfl, rfl, EX_tr X X2, k20, k21, f1, by omega, by rw [f2, y.1]; exact e1, by rw [f2, y.2.1]; exact e2, by omega, by omega⟩
