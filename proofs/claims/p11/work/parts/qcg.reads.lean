theorem mm_fault (z : Value) (d : Nat) (n : Int) (h R : xx_H) (I : Nat → Int) (A : Nat → Int → Int) (N : Int → Int) (hc : 12 ≤ h.length) (n0 : -2147483648 ≤ n) (n1 : n < 2147483648) : xx_cl (xt_P z) (d + 1) 74 [.ref h.length, .int (iI n)] (mh h R I A N) (fun v h1 => (n = 0 ∧ v = some (.int (iI (I 21))) ∨ n = 1 ∧ v = some (.int (iI (I 22))) ∨ n = 2 ∧ v = some (.int (iI (I 49))) ∨ (n ≠ 0 ∧ n ≠ 1 ∧ n ≠ 2) ∧ v = some (.int (iI (-1)))) ∧ h1 = mh h R I A N) := by
  refine cl_go rfl ?_
  show xx_go (xt_P z) d 74 0 [some (.ref h.length), some (.int (iI n))] [] (mh h R I A N) _
  refine go_a (pc' := 1) (ls' := [some (.ref h.length), some (.int (iI n))]) (st' := [.int (iI n)]) rfl rfl ?_
  refine mi_ne0 (t := 11) rfl rfl (by omega) (by omega) (fun a => ?_) (fun a => ?_)
  · refine go_a (pc' := 12) (ls' := [some (.ref h.length), some (.int (iI n))]) (st' := [.int (iI n)]) rfl rfl ?_
    refine go_a (pc' := 13) (ls' := [some (.ref h.length), some (.int (iI n))]) (st' := [.int (iI 1), .int (iI n)]) rfl rfl ?_
    refine mi_ne (t := 23) rfl rfl (by omega) (by omega) (by omega) (by omega) (fun b => ?_) (fun b => ?_)
    · refine go_a (pc' := 24) (ls' := [some (.ref h.length), some (.int (iI n))]) (st' := [.int (iI n)]) rfl rfl ?_
      refine go_a (pc' := 25) (ls' := [some (.ref h.length), some (.int (iI n))]) (st' := [.int (iI 2), .int (iI n)]) rfl rfl ?_
      refine mi_ne (t := 35) rfl rfl (by omega) (by omega) (by omega) (by omega) (fun c => ?_) (fun c => ?_)
      · refine go_a (pc' := 36) (ls' := [some (.ref h.length), some (.int (iI n))]) (st' := [.int (iI ((-1)))]) rfl rfl ?_
        exact go_r rfl rfl rfl rfl rfl rfl ⟨Or.inr (Or.inr (Or.inr ⟨⟨a, b, c⟩, rfl⟩)), rfl⟩
      · refine go_a (pc' := 29) (ls' := [some (.ref h.length), some (.int (iI n))]) (st' := [.ref h.length]) rfl rfl ?_
        refine go_get (v := .int (iI (I 49))) rfl mh_o rfl rfl ?_
        refine go_a (pc' := 36) (ls' := [some (.ref h.length), some (.int (iI n))]) (st' := [.int (iI (I 49))]) rfl rfl ?_
        exact go_r rfl rfl rfl rfl rfl rfl ⟨Or.inr (Or.inr (Or.inl ⟨by omega, rfl⟩)), rfl⟩
    · refine go_a (pc' := 17) (ls' := [some (.ref h.length), some (.int (iI n))]) (st' := [.ref h.length]) rfl rfl ?_
      refine go_get (v := .int (iI (I 22))) rfl mh_o rfl rfl ?_
      refine go_a (pc' := 36) (ls' := [some (.ref h.length), some (.int (iI n))]) (st' := [.int (iI (I 22))]) rfl rfl ?_
      exact go_r rfl rfl rfl rfl rfl rfl ⟨Or.inr (Or.inl ⟨by omega, rfl⟩), rfl⟩
  · refine go_a (pc' := 5) (ls' := [some (.ref h.length), some (.int (iI n))]) (st' := [.ref h.length]) rfl rfl ?_
    refine go_get (v := .int (iI (I 21))) rfl mh_o rfl rfl ?_
    refine go_a (pc' := 36) (ls' := [some (.ref h.length), some (.int (iI n))]) (st' := [.int (iI (I 21))]) rfl rfl ?_
    exact go_r rfl rfl rfl rfl rfl rfl ⟨Or.inl ⟨by omega, rfl⟩, rfl⟩
theorem mm_count (z : Value) (d : Nat) (n : Int) (h R : xx_H) (I : Nat → Int) (A : Nat → Int → Int) (N : Int → Int) (hc : 12 ≤ h.length) (n0 : -2147483648 ≤ n) (n1 : n < 2147483648) : xx_cl (xt_P z) (d + 1) 76 [.ref h.length, .int (iI n)] (mh h R I A N) (fun v h1 => (n = 0 ∧ v = some (.int (iI (I 32))) ∨ n = 1 ∧ v = some (.int (iI (I 38))) ∨ n = 2 ∧ v = some (.int (iI (I 50))) ∨ (n ≠ 0 ∧ n ≠ 1 ∧ n ≠ 2) ∧ v = some (.int (iI (-1)))) ∧ h1 = mh h R I A N) := by
  refine cl_go rfl ?_
  show xx_go (xt_P z) d 76 0 [some (.ref h.length), some (.int (iI n))] [] (mh h R I A N) _
  refine go_a (pc' := 1) (ls' := [some (.ref h.length), some (.int (iI n))]) (st' := [.int (iI n)]) rfl rfl ?_
  refine mi_ne0 (t := 11) rfl rfl (by omega) (by omega) (fun a => ?_) (fun a => ?_)
  · refine go_a (pc' := 12) (ls' := [some (.ref h.length), some (.int (iI n))]) (st' := [.int (iI n)]) rfl rfl ?_
    refine go_a (pc' := 13) (ls' := [some (.ref h.length), some (.int (iI n))]) (st' := [.int (iI 1), .int (iI n)]) rfl rfl ?_
    refine mi_ne (t := 23) rfl rfl (by omega) (by omega) (by omega) (by omega) (fun b => ?_) (fun b => ?_)
    · refine go_a (pc' := 24) (ls' := [some (.ref h.length), some (.int (iI n))]) (st' := [.int (iI n)]) rfl rfl ?_
      refine go_a (pc' := 25) (ls' := [some (.ref h.length), some (.int (iI n))]) (st' := [.int (iI 2), .int (iI n)]) rfl rfl ?_
      refine mi_ne (t := 35) rfl rfl (by omega) (by omega) (by omega) (by omega) (fun c => ?_) (fun c => ?_)
      · refine go_a (pc' := 36) (ls' := [some (.ref h.length), some (.int (iI n))]) (st' := [.int (iI ((-1)))]) rfl rfl ?_
        exact go_r rfl rfl rfl rfl rfl rfl ⟨Or.inr (Or.inr (Or.inr ⟨⟨a, b, c⟩, rfl⟩)), rfl⟩
      · refine go_a (pc' := 29) (ls' := [some (.ref h.length), some (.int (iI n))]) (st' := [.ref h.length]) rfl rfl ?_
        refine go_get (v := .int (iI (I 50))) rfl mh_o rfl rfl ?_
        refine go_a (pc' := 36) (ls' := [some (.ref h.length), some (.int (iI n))]) (st' := [.int (iI (I 50))]) rfl rfl ?_
        exact go_r rfl rfl rfl rfl rfl rfl ⟨Or.inr (Or.inr (Or.inl ⟨by omega, rfl⟩)), rfl⟩
    · refine go_a (pc' := 17) (ls' := [some (.ref h.length), some (.int (iI n))]) (st' := [.ref h.length]) rfl rfl ?_
      refine go_get (v := .int (iI (I 38))) rfl mh_o rfl rfl ?_
      refine go_a (pc' := 36) (ls' := [some (.ref h.length), some (.int (iI n))]) (st' := [.int (iI (I 38))]) rfl rfl ?_
      exact go_r rfl rfl rfl rfl rfl rfl ⟨Or.inr (Or.inl ⟨by omega, rfl⟩), rfl⟩
  · refine go_a (pc' := 5) (ls' := [some (.ref h.length), some (.int (iI n))]) (st' := [.ref h.length]) rfl rfl ?_
    refine go_get (v := .int (iI (I 32))) rfl mh_o rfl rfl ?_
    refine go_a (pc' := 36) (ls' := [some (.ref h.length), some (.int (iI n))]) (st' := [.int (iI (I 32))]) rfl rfl ?_
    exact go_r rfl rfl rfl rfl rfl rfl ⟨Or.inl ⟨by omega, rfl⟩, rfl⟩
theorem mm_steps (z : Value) (d : Nat) (h R : xx_H) (I : Nat → Int) (A : Nat → Int → Int) (N : Int → Int) (hc : 12 ≤ h.length) : xx_cl (xt_P z) (d + 1) 75 [.ref h.length] (mh h R I A N) (fun v h1 => v = some (.int (iI (I 48))) ∧ h1 = mh h R I A N) := by
  refine cl_go rfl ?_
  show xx_go (xt_P z) d 75 0 [some (.ref h.length)] [] (mh h R I A N) _
  refine go_a (pc' := 1) (ls' := [some (.ref h.length)]) (st' := [.ref h.length]) rfl rfl ?_
  refine go_get (v := .int (iI (I 48))) rfl mh_o rfl rfl ?_
  exact go_r rfl rfl rfl rfl rfl rfl ⟨rfl, rfl⟩
theorem mm_size (z : Value) (d : Nat) (h R : xx_H) (I : Nat → Int) (A : Nat → Int → Int) (N : Int → Int) (hc : 12 ≤ h.length) : xx_cl (xt_P z) (d + 1) 77 [.ref h.length] (mh h R I A N) (fun v h1 => v = some (.int (iI (I 15))) ∧ h1 = mh h R I A N) := by
  refine cl_go rfl ?_
  show xx_go (xt_P z) d 77 0 [some (.ref h.length)] [] (mh h R I A N) _
  refine go_a (pc' := 1) (ls' := [some (.ref h.length)]) (st' := [.ref h.length]) rfl rfl ?_
  refine go_get (v := .int (iI (I 15))) rfl mh_o rfl rfl ?_
  exact go_r rfl rfl rfl rfl rfl rfl ⟨rfl, rfl⟩
theorem mm_letter (z : Value) (d : Nat) (n : Int) (h R : xx_H) (I : Nat → Int) (A : Nat → Int → Int) (N : Int → Int) (hc : 12 ≤ h.length) (n0 : -2147483648 ≤ n) (n1 : n < 2147483648) (s0 : 0 ≤ I 15) (s1 : I 15 ≤ 2000) : xx_cl (xt_P z) (d + 1) 78 [.ref h.length, .int (iI n)] (mh h R I A N) (fun v h1 => ((0 ≤ n ∧ n < I 15) ∧ v = some (.int (iI (A 12 n))) ∨ ¬ (0 ≤ n ∧ n < I 15) ∧ v = some (.int (iI (-1)))) ∧ h1 = mh h R I A N) := by
  have no : ¬ (0 ≤ n ∧ n < I 15) → xx_go (xt_P z) d 78 21 [some (.ref h.length), some (.int (iI n))] [] (mh h R I A N) (fun v h1 => ((0 ≤ n ∧ n < I 15) ∧ v = some (.int (iI (A 12 n))) ∨ ¬ (0 ≤ n ∧ n < I 15) ∧ v = some (.int (iI (-1)))) ∧ h1 = mh h R I A N) := by
    intro q
    refine go_a (pc' := 22) (ls' := [some (.ref h.length), some (.int (iI n))]) (st' := [.int (iI ((-1)))]) rfl rfl ?_
    exact go_r rfl rfl rfl rfl rfl rfl ⟨Or.inr ⟨q, rfl⟩, rfl⟩
  refine cl_go rfl ?_
  show xx_go (xt_P z) d 78 0 [some (.ref h.length), some (.int (iI n))] [] (mh h R I A N) _
  refine go_a (pc' := 1) (ls' := [some (.ref h.length), some (.int (iI n))]) (st' := [.int (iI n)]) rfl rfl ?_
  refine mi_lt0 (t := 21) rfl rfl (by omega) (by omega) (fun q => no (by omega)) (fun q => ?_)
  refine go_a (pc' := 5) (ls' := [some (.ref h.length), some (.int (iI n))]) (st' := [.int (iI n)]) rfl rfl ?_
  refine go_a (pc' := 6) (ls' := [some (.ref h.length), some (.int (iI n))]) (st' := [.ref h.length, .int (iI n)]) rfl rfl ?_
  refine go_get (v := .int (iI (I 15))) rfl mh_o rfl rfl ?_
  refine mi_ge (t := 21) rfl rfl (by omega) (by omega) (by omega) (by omega) (fun q => no (by omega)) (fun q => ?_)
  refine go_a (pc' := 13) (ls' := [some (.ref h.length), some (.int (iI n))]) (st' := [.ref h.length]) rfl rfl ?_
  refine go_get rfl mh_o rfl rfl ?_
  refine go_a (pc' := 17) (ls' := [some (.ref h.length), some (.int (iI n))]) (st' := [.int (iI n), .ref (h.length + 12)]) rfl rfl ?_
  refine mi_ild rfl mh_a12 (by omega) (by omega) (by decide) ?_
  refine go_a (pc' := 22) (ls' := [some (.ref h.length), some (.int (iI n))]) (st' := [.int (iI (A 12 n))]) rfl rfl ?_
  exact go_r rfl rfl rfl rfl rfl rfl ⟨Or.inl ⟨⟨by omega, by omega⟩, rfl⟩, rfl⟩

