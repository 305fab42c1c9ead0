theorem mb_isPair (z : Value) (d : Nat) (k : Int) (h R : xx_H) (I : Nat → Int) (A : Nat → Int → Int) (N : Int → Int) (hc : 12 ≤ h.length) (hP : PW I A) (k0 : 0 ≤ k) (k1 : k < I 7) : xx_cl (xt_P z) (d + 1) 96 [.ref h.length, .int (iI k)] (mh h R I A N) (fun v h1 => (∃ b : Int, v = some (.int (iI b)) ∧ ((b = 1 ∧ 0 ≤ A 1 k) ∨ (b = 0 ∧ ¬ (0 ≤ A 1 k)))) ∧ h1 = mh h R I A N) := by
  have p1 := hP.1
  have q := hP.2 k k0 k1
  refine cl_w (fun v h1 hq => ?_) (mm_isPair z d k h R I A N hc k0 (by omega) (by omega) (by omega))
  obtain ⟨rfl, rfl⟩ := hq
  by_cases e : 0 ≤ A 1 k
  · rw [if_pos e]
    exact ⟨⟨1, rfl, Or.inl ⟨rfl, e⟩⟩, rfl⟩
  · rw [if_neg e]
    exact ⟨⟨0, rfl, Or.inr ⟨rfl, e⟩⟩, rfl⟩
theorem mb_isNatural (z : Value) (d : Nat) (k : Int) (h R : xx_H) (I : Nat → Int) (A : Nat → Int → Int) (N : Int → Int) (hc : 12 ≤ h.length) (hP : PW I A) (k0 : 0 ≤ k) (k1 : k < I 7) : xx_cl (xt_P z) (d + 1) 110 [.ref h.length, .int (iI k)] (mh h R I A N) (fun v h1 => (∃ b : Int, v = some (.int (iI b)) ∧ ((b = 1 ∧ A 1 k = -1) ∨ (b = 0 ∧ ¬ (A 1 k = -1)))) ∧ h1 = mh h R I A N) := by
  have p1 := hP.1
  have q := hP.2 k k0 k1
  refine cl_w (fun v h1 hq => ?_) (mm_isNatural z d k h R I A N hc k0 (by omega) (by omega) (by omega))
  obtain ⟨rfl, rfl⟩ := hq
  by_cases e : A 1 k = -1
  · rw [if_pos e]
    exact ⟨⟨1, rfl, Or.inl ⟨rfl, e⟩⟩, rfl⟩
  · rw [if_neg e]
    exact ⟨⟨0, rfl, Or.inr ⟨rfl, e⟩⟩, rfl⟩
theorem mb_isSymbol (z : Value) (d : Nat) (k : Int) (h R : xx_H) (I : Nat → Int) (A : Nat → Int → Int) (N : Int → Int) (hc : 12 ≤ h.length) (hP : PW I A) (k0 : 0 ≤ k) (k1 : k < I 7) : xx_cl (xt_P z) (d + 1) 101 [.ref h.length, .int (iI k)] (mh h R I A N) (fun v h1 => (∃ b : Int, v = some (.int (iI b)) ∧ ((b = 1 ∧ A 1 k = -2) ∨ (b = 0 ∧ ¬ (A 1 k = -2)))) ∧ h1 = mh h R I A N) := by
  have p1 := hP.1
  have q := hP.2 k k0 k1
  refine cl_w (fun v h1 hq => ?_) (mm_isSymbol z d k h R I A N hc k0 (by omega) (by omega) (by omega))
  obtain ⟨rfl, rfl⟩ := hq
  by_cases e : A 1 k = -2
  · rw [if_pos e]
    exact ⟨⟨1, rfl, Or.inl ⟨rfl, e⟩⟩, rfl⟩
  · rw [if_neg e]
    exact ⟨⟨0, rfl, Or.inr ⟨rfl, e⟩⟩, rfl⟩
theorem mb_isVariable (z : Value) (d : Nat) (k : Int) (h R : xx_H) (I : Nat → Int) (A : Nat → Int → Int) (N : Int → Int) (hc : 12 ≤ h.length) (hP : PW I A) (k0 : 0 ≤ k) (k1 : k < I 7) : xx_cl (xt_P z) (d + 2) 104 [.ref h.length, .int (iI k)] (mh h R I A N) (fun v h1 => (∃ b : Int, v = some (.int (iI b)) ∧ ((b = 1 ∧ A 1 k = -2 ∧ k ≠ 0 ∧ k ≠ 1) ∨ (b = 0 ∧ ¬ (A 1 k = -2 ∧ k ≠ 0 ∧ k ≠ 1)))) ∧ h1 = mh h R I A N) := by
  have p1 := hP.1
  have q := hP.2 k k0 k1
  refine cl_go rfl ?_
  show xx_go (xt_P z) (d + 1) 104 0 [some (.ref h.length), some (.int (iI k))] [] (mh h R I A N) _
  refine go_a (pc' := 1) (ls' := [some (.ref h.length), some (.int (iI k))]) (st' := [.ref h.length]) rfl rfl ?_
  refine go_a (pc' := 2) (ls' := [some (.ref h.length), some (.int (iI k))]) (st' := [.int (iI k), .ref h.length]) rfl rfl ?_
  refine go_v (m := 101) (as := [.ref h.length, .int (iI k)]) (r := []) rfl rfl rfl mh_o rfl rfl (mb_isSymbol z d k h R I A N hc hP (by omega) (by omega)) (fun v h1 hq => ?_)
  obtain ⟨⟨b1, rfl, hb1⟩, rfl⟩ := hq
  show xx_go (xt_P z) (d + 1) 104 5 [some (.ref h.length), some (.int (iI k))] [.int (iI b1)] (mh h R I A N) _
  refine mi_eq0 (t := 21) rfl rfl (by omega) (by omega) (fun c2 => ?_) (fun c2 => ?_)
  · refine go_a (pc' := 22) (ls' := [some (.ref h.length), some (.int (iI k))]) (st' := [.int (iI 0)]) rfl rfl ?_
    exact go_r rfl rfl rfl rfl rfl rfl ⟨⟨0, rfl, Or.inr ⟨rfl, by omega⟩⟩, rfl⟩
  · refine go_a (pc' := 9) (ls' := [some (.ref h.length), some (.int (iI k))]) (st' := [.int (iI k)]) rfl rfl ?_
    refine mi_eq0 (t := 21) rfl rfl (by omega) (by omega) (fun c3 => ?_) (fun c3 => ?_)
    · refine go_a (pc' := 22) (ls' := [some (.ref h.length), some (.int (iI k))]) (st' := [.int (iI 0)]) rfl rfl ?_
      exact go_r rfl rfl rfl rfl rfl rfl ⟨⟨0, rfl, Or.inr ⟨rfl, by omega⟩⟩, rfl⟩
    · refine go_a (pc' := 13) (ls' := [some (.ref h.length), some (.int (iI k))]) (st' := [.int (iI k)]) rfl rfl ?_
      refine go_a (pc' := 14) (ls' := [some (.ref h.length), some (.int (iI k))]) (st' := [.int (iI 1), .int (iI k)]) rfl rfl ?_
      refine mi_eq (t := 21) rfl rfl (by omega) (by omega) (by omega) (by omega) (fun c4 => ?_) (fun c4 => ?_)
      · refine go_a (pc' := 22) (ls' := [some (.ref h.length), some (.int (iI k))]) (st' := [.int (iI 0)]) rfl rfl ?_
        exact go_r rfl rfl rfl rfl rfl rfl ⟨⟨0, rfl, Or.inr ⟨rfl, by omega⟩⟩, rfl⟩
      · refine go_a (pc' := 18) (ls' := [some (.ref h.length), some (.int (iI k))]) (st' := [.int (iI 1)]) rfl rfl ?_
        refine go_a (pc' := 22) (ls' := [some (.ref h.length), some (.int (iI k))]) (st' := [.int (iI 1)]) rfl rfl ?_
        exact go_r rfl rfl rfl rfl rfl rfl ⟨⟨1, rfl, Or.inl ⟨rfl, by omega⟩⟩, rfl⟩
theorem mb_isReserved (z : Value) (d : Nat) (k : Int) (hp : xx_H) (k0 : 0 ≤ k) (k1 : k < 2147483648) : xx_cl (xt_P z) (d + 1) 102 [.int (iI k)] hp (fun v h1 => (∃ b : Int, v = some (.int (iI b)) ∧ ((b = 1 ∧ k ≤ 16) ∨ (b = 0 ∧ ¬ (k ≤ 16)))) ∧ h1 = hp) := by
  refine cl_go rfl ?_
  show xx_go (xt_P z) d 102 0 [some (.int (iI k))] [] (hp) _
  refine go_a (pc' := 1) (ls' := [some (.int (iI k))]) (st' := [.int (iI k)]) rfl rfl ?_
  refine mi_lt0 (t := 14) rfl rfl (by omega) (by omega) (fun c5 => ?_) (fun c5 => ?_)
  · refine go_a (pc' := 15) (ls' := [some (.int (iI k))]) (st' := [.int (iI 0)]) rfl rfl ?_
    exact go_r rfl rfl rfl rfl rfl rfl ⟨⟨0, rfl, Or.inr ⟨rfl, by omega⟩⟩, rfl⟩
  · refine go_a (pc' := 5) (ls' := [some (.int (iI k))]) (st' := [.int (iI k)]) rfl rfl ?_
    refine go_a (pc' := 7) (ls' := [some (.int (iI k))]) (st' := [.int (iI 16), .int (iI k)]) rfl rfl ?_
    refine mi_gt (t := 14) rfl rfl (by omega) (by omega) (by omega) (by omega) (fun c6 => ?_) (fun c6 => ?_)
    · refine go_a (pc' := 15) (ls' := [some (.int (iI k))]) (st' := [.int (iI 0)]) rfl rfl ?_
      exact go_r rfl rfl rfl rfl rfl rfl ⟨⟨0, rfl, Or.inr ⟨rfl, by omega⟩⟩, rfl⟩
    · refine go_a (pc' := 11) (ls' := [some (.int (iI k))]) (st' := [.int (iI 1)]) rfl rfl ?_
      refine go_a (pc' := 15) (ls' := [some (.int (iI k))]) (st' := [.int (iI 1)]) rfl rfl ?_
      exact go_r rfl rfl rfl rfl rfl rfl ⟨⟨1, rfl, Or.inl ⟨rfl, by omega⟩⟩, rfl⟩
theorem mb_isNewName (z : Value) (d : Nat) (k : Int) (h R : xx_H) (I : Nat → Int) (A : Nat → Int → Int) (N : Int → Int) (hc : 12 ≤ h.length) (hP : PW I A) (k0 : 0 ≤ k) (k1 : k < I 7) : xx_cl (xt_P z) (d + 2) 100 [.ref h.length, .int (iI k)] (mh h R I A N) (fun v h1 => (∃ b : Int, v = some (.int (iI b)) ∧ ((b = 1 ∧ A 1 k = -2 ∧ 16 < k) ∨ (b = 0 ∧ ¬ (A 1 k = -2 ∧ 16 < k)))) ∧ h1 = mh h R I A N) := by
  have p1 := hP.1
  have q := hP.2 k k0 k1
  refine cl_go rfl ?_
  show xx_go (xt_P z) (d + 1) 100 0 [some (.ref h.length), some (.int (iI k))] [] (mh h R I A N) _
  refine go_a (pc' := 1) (ls' := [some (.ref h.length), some (.int (iI k))]) (st' := [.ref h.length]) rfl rfl ?_
  refine go_a (pc' := 2) (ls' := [some (.ref h.length), some (.int (iI k))]) (st' := [.int (iI k), .ref h.length]) rfl rfl ?_
  refine go_v (m := 101) (as := [.ref h.length, .int (iI k)]) (r := []) rfl rfl rfl mh_o rfl rfl (mb_isSymbol z d k h R I A N hc hP (by omega) (by omega)) (fun v h1 hq => ?_)
  obtain ⟨⟨b7, rfl, hb7⟩, rfl⟩ := hq
  show xx_go (xt_P z) (d + 1) 100 5 [some (.ref h.length), some (.int (iI k))] [.int (iI b7)] (mh h R I A N) _
  refine mi_eq0 (t := 19) rfl rfl (by omega) (by omega) (fun c8 => ?_) (fun c8 => ?_)
  · refine go_a (pc' := 20) (ls' := [some (.ref h.length), some (.int (iI k))]) (st' := [.int (iI 0)]) rfl rfl ?_
    exact go_r rfl rfl rfl rfl rfl rfl ⟨⟨0, rfl, Or.inr ⟨rfl, by omega⟩⟩, rfl⟩
  · refine go_a (pc' := 9) (ls' := [some (.ref h.length), some (.int (iI k))]) (st' := [.int (iI k)]) rfl rfl ?_
    refine go_s (m := 102) (as := [.int (iI k)]) (r := []) rfl rfl rfl rfl (mb_isReserved z d k _ (by omega) (by omega)) (fun v h1 hq => ?_)
    obtain ⟨⟨b9, rfl, hb9⟩, rfl⟩ := hq
    show xx_go (xt_P z) (d + 1) 100 12 [some (.ref h.length), some (.int (iI k))] [.int (iI b9)] (mh h R I A N) _
    refine mi_ne0 (t := 19) rfl rfl (by omega) (by omega) (fun c10 => ?_) (fun c10 => ?_)
    · refine go_a (pc' := 20) (ls' := [some (.ref h.length), some (.int (iI k))]) (st' := [.int (iI 0)]) rfl rfl ?_
      exact go_r rfl rfl rfl rfl rfl rfl ⟨⟨0, rfl, Or.inr ⟨rfl, by omega⟩⟩, rfl⟩
    · refine go_a (pc' := 16) (ls' := [some (.ref h.length), some (.int (iI k))]) (st' := [.int (iI 1)]) rfl rfl ?_
      refine go_a (pc' := 20) (ls' := [some (.ref h.length), some (.int (iI k))]) (st' := [.int (iI 1)]) rfl rfl ?_
      exact go_r rfl rfl rfl rfl rfl rfl ⟨⟨1, rfl, Or.inl ⟨rfl, by omega⟩⟩, rfl⟩
theorem mb_isConstant (z : Value) (d : Nat) (k : Int) (h R : xx_H) (I : Nat → Int) (A : Nat → Int → Int) (N : Int → Int) (hc : 12 ≤ h.length) (hP : PW I A) (k0 : 0 ≤ k) (k1 : k < I 7) : xx_cl (xt_P z) (d + 3) 126 [.ref h.length, .int (iI k)] (mh h R I A N) (fun v h1 => (∃ b : Int, v = some (.int (iI b)) ∧ ((b = 1 ∧ (A 1 k = -1 ∨ k = 0 ∨ k = 1 ∨ (A 1 k = 2 ∧ 0 ≤ A 1 (A 2 k) ∧ A 2 (A 2 k) = 0))) ∨ (b = 0 ∧ ¬ ((A 1 k = -1 ∨ k = 0 ∨ k = 1 ∨ (A 1 k = 2 ∧ 0 ≤ A 1 (A 2 k) ∧ A 2 (A 2 k) = 0)))))) ∧ h1 = mh h R I A N) := by
  have p1 := hP.1
  have q := hP.2 k k0 k1
  refine cl_go rfl ?_
  show xx_go (xt_P z) (d + 2) 126 0 [some (.ref h.length), some (.int (iI k))] [] (mh h R I A N) _
  refine go_a (pc' := 1) (ls' := [some (.ref h.length), some (.int (iI k))]) (st' := [.ref h.length]) rfl rfl ?_
  refine go_a (pc' := 2) (ls' := [some (.ref h.length), some (.int (iI k))]) (st' := [.int (iI k), .ref h.length]) rfl rfl ?_
  refine go_v (m := 110) (as := [.ref h.length, .int (iI k)]) (r := []) rfl rfl rfl mh_o rfl rfl (mb_isNatural z (d + 1) k h R I A N hc hP (by omega) (by omega)) (fun v h1 hq => ?_)
  obtain ⟨⟨b11, rfl, hb11⟩, rfl⟩ := hq
  show xx_go (xt_P z) (d + 2) 126 5 [some (.ref h.length), some (.int (iI k))] [.int (iI b11)] (mh h R I A N) _
  refine mi_ne0 (t := 25) rfl rfl (by omega) (by omega) (fun c12 => ?_) (fun c12 => ?_)
  · refine go_a (pc' := 26) (ls' := [some (.ref h.length), some (.int (iI k))]) (st' := [.int (iI 1)]) rfl rfl ?_
    refine go_a (pc' := 30) (ls' := [some (.ref h.length), some (.int (iI k))]) (st' := [.int (iI 1)]) rfl rfl ?_
    exact go_r rfl rfl rfl rfl rfl rfl ⟨⟨1, rfl, Or.inl ⟨rfl, by omega⟩⟩, rfl⟩
  · refine go_a (pc' := 9) (ls' := [some (.ref h.length), some (.int (iI k))]) (st' := [.int (iI k)]) rfl rfl ?_
    refine mi_eq0 (t := 25) rfl rfl (by omega) (by omega) (fun c13 => ?_) (fun c13 => ?_)
    · refine go_a (pc' := 26) (ls' := [some (.ref h.length), some (.int (iI k))]) (st' := [.int (iI 1)]) rfl rfl ?_
      refine go_a (pc' := 30) (ls' := [some (.ref h.length), some (.int (iI k))]) (st' := [.int (iI 1)]) rfl rfl ?_
      exact go_r rfl rfl rfl rfl rfl rfl ⟨⟨1, rfl, Or.inl ⟨rfl, by omega⟩⟩, rfl⟩
    · refine go_a (pc' := 13) (ls' := [some (.ref h.length), some (.int (iI k))]) (st' := [.int (iI k)]) rfl rfl ?_
      refine go_a (pc' := 14) (ls' := [some (.ref h.length), some (.int (iI k))]) (st' := [.int (iI 1), .int (iI k)]) rfl rfl ?_
      refine mi_eq (t := 25) rfl rfl (by omega) (by omega) (by omega) (by omega) (fun c14 => ?_) (fun c14 => ?_)
      · refine go_a (pc' := 26) (ls' := [some (.ref h.length), some (.int (iI k))]) (st' := [.int (iI 1)]) rfl rfl ?_
        refine go_a (pc' := 30) (ls' := [some (.ref h.length), some (.int (iI k))]) (st' := [.int (iI 1)]) rfl rfl ?_
        exact go_r rfl rfl rfl rfl rfl rfl ⟨⟨1, rfl, Or.inl ⟨rfl, by omega⟩⟩, rfl⟩
      · refine go_a (pc' := 18) (ls' := [some (.ref h.length), some (.int (iI k))]) (st' := [.ref h.length]) rfl rfl ?_
        refine go_a (pc' := 19) (ls' := [some (.ref h.length), some (.int (iI k))]) (st' := [.int (iI k), .ref h.length]) rfl rfl ?_
        refine go_v (m := 108) (as := [.ref h.length, .int (iI k)]) (r := []) rfl rfl rfl mh_o rfl rfl (mm_isQuoted z d k h R I A N hc hP (by omega) (by omega)) (fun v h1 hq => ?_)
        obtain ⟨⟨b15, rfl, hb15⟩, rfl⟩ := hq
        show xx_go (xt_P z) (d + 2) 126 22 [some (.ref h.length), some (.int (iI k))] [.int (iI b15)] (mh h R I A N) _
        refine mi_eq0 (t := 29) rfl rfl (by omega) (by omega) (fun c16 => ?_) (fun c16 => ?_)
        · refine go_a (pc' := 30) (ls' := [some (.ref h.length), some (.int (iI k))]) (st' := [.int (iI 0)]) rfl rfl ?_
          exact go_r rfl rfl rfl rfl rfl rfl ⟨⟨0, rfl, Or.inr ⟨rfl, by omega⟩⟩, rfl⟩
        · refine go_a (pc' := 26) (ls' := [some (.ref h.length), some (.int (iI k))]) (st' := [.int (iI 1)]) rfl rfl ?_
          refine go_a (pc' := 30) (ls' := [some (.ref h.length), some (.int (iI k))]) (st' := [.int (iI 1)]) rfl rfl ?_
          exact go_r rfl rfl rfl rfl rfl rfl ⟨⟨1, rfl, Or.inl ⟨rfl, by omega⟩⟩, rfl⟩
theorem mb_isCall (z : Value) (d : Nat) (k : Int) (h R : xx_H) (I : Nat → Int) (A : Nat → Int → Int) (N : Int → Int) (hc : 12 ≤ h.length) (hP : PW I A) (k0 : 0 ≤ k) (k1 : k < I 7) : xx_cl (xt_P z) (d + 2) 116 [.ref h.length, .int (iI k)] (mh h R I A N) (fun v h1 => (∃ b : Int, v = some (.int (iI b)) ∧ ((b = 1 ∧ 0 ≤ A 1 k ∧ A 1 k ≠ 2) ∨ (b = 0 ∧ ¬ (0 ≤ A 1 k ∧ A 1 k ≠ 2)))) ∧ h1 = mh h R I A N) := by
  have p1 := hP.1
  have q := hP.2 k k0 k1
  refine cl_go rfl ?_
  show xx_go (xt_P z) (d + 1) 116 0 [some (.ref h.length), some (.int (iI k))] [] (mh h R I A N) _
  refine go_a (pc' := 1) (ls' := [some (.ref h.length), some (.int (iI k))]) (st' := [.ref h.length]) rfl rfl ?_
  refine go_a (pc' := 2) (ls' := [some (.ref h.length), some (.int (iI k))]) (st' := [.int (iI k), .ref h.length]) rfl rfl ?_
  refine go_v (m := 96) (as := [.ref h.length, .int (iI k)]) (r := []) rfl rfl rfl mh_o rfl rfl (mb_isPair z d k h R I A N hc hP (by omega) (by omega)) (fun v h1 hq => ?_)
  obtain ⟨⟨b17, rfl, hb17⟩, rfl⟩ := hq
  show xx_go (xt_P z) (d + 1) 116 5 [some (.ref h.length), some (.int (iI k))] [.int (iI b17)] (mh h R I A N) _
  refine mi_eq0 (t := 22) rfl rfl (by omega) (by omega) (fun c18 => ?_) (fun c18 => ?_)
  · refine go_a (pc' := 23) (ls' := [some (.ref h.length), some (.int (iI k))]) (st' := [.int (iI 0)]) rfl rfl ?_
    exact go_r rfl rfl rfl rfl rfl rfl ⟨⟨0, rfl, Or.inr ⟨rfl, by omega⟩⟩, rfl⟩
  · refine go_a (pc' := 9) (ls' := [some (.ref h.length), some (.int (iI k))]) (st' := [.ref h.length]) rfl rfl ?_
    refine go_get rfl mh_o rfl rfl ?_
    refine go_a (pc' := 13) (ls' := [some (.ref h.length), some (.int (iI k))]) (st' := [.int (iI k), .ref (h.length + 1)]) rfl rfl ?_
    refine mi_ild rfl mh_a1 (by omega) (by omega) (by decide) ?_
    refine go_a (pc' := 15) (ls' := [some (.ref h.length), some (.int (iI k))]) (st' := [.int (iI 2), .int (iI (A 1 k))]) rfl rfl ?_
    refine mi_eq (t := 22) rfl rfl (by omega) (by omega) (by omega) (by omega) (fun c19 => ?_) (fun c19 => ?_)
    · refine go_a (pc' := 23) (ls' := [some (.ref h.length), some (.int (iI k))]) (st' := [.int (iI 0)]) rfl rfl ?_
      exact go_r rfl rfl rfl rfl rfl rfl ⟨⟨0, rfl, Or.inr ⟨rfl, by omega⟩⟩, rfl⟩
    · refine go_a (pc' := 19) (ls' := [some (.ref h.length), some (.int (iI k))]) (st' := [.int (iI 1)]) rfl rfl ?_
      refine go_a (pc' := 23) (ls' := [some (.ref h.length), some (.int (iI k))]) (st' := [.int (iI 1)]) rfl rfl ?_
      exact go_r rfl rfl rfl rfl rfl rfl ⟨⟨1, rfl, Or.inl ⟨rfl, by omega⟩⟩, rfl⟩
theorem mb_isCallOf (z : Value) (d : Nat) (k f : Int) (h R : xx_H) (I : Nat → Int) (A : Nat → Int → Int) (N : Int → Int) (hc : 12 ≤ h.length) (hP : PW I A) (k0 : 0 ≤ k) (k1 : k < I 7) (f0 : 0 ≤ f) (f1 : f < 140000) : xx_cl (xt_P z) (d + 2) 123 [.ref h.length, .int (iI k), .int (iI f)] (mh h R I A N) (fun v h1 => (∃ b : Int, v = some (.int (iI b)) ∧ ((b = 1 ∧ 0 ≤ A 1 k ∧ A 1 k = f) ∨ (b = 0 ∧ ¬ (0 ≤ A 1 k ∧ A 1 k = f)))) ∧ h1 = mh h R I A N) := by
  have p1 := hP.1
  have q := hP.2 k k0 k1
  refine cl_go rfl ?_
  show xx_go (xt_P z) (d + 1) 123 0 [some (.ref h.length), some (.int (iI k)), some (.int (iI f))] [] (mh h R I A N) _
  refine go_a (pc' := 1) (ls' := [some (.ref h.length), some (.int (iI k)), some (.int (iI f))]) (st' := [.ref h.length]) rfl rfl ?_
  refine go_a (pc' := 2) (ls' := [some (.ref h.length), some (.int (iI k)), some (.int (iI f))]) (st' := [.int (iI k), .ref h.length]) rfl rfl ?_
  refine go_v (m := 96) (as := [.ref h.length, .int (iI k)]) (r := []) rfl rfl rfl mh_o rfl rfl (mb_isPair z d k h R I A N hc hP (by omega) (by omega)) (fun v h1 hq => ?_)
  obtain ⟨⟨b20, rfl, hb20⟩, rfl⟩ := hq
  show xx_go (xt_P z) (d + 1) 123 5 [some (.ref h.length), some (.int (iI k)), some (.int (iI f))] [.int (iI b20)] (mh h R I A N) _
  refine mi_eq0 (t := 22) rfl rfl (by omega) (by omega) (fun c21 => ?_) (fun c21 => ?_)
  · refine go_a (pc' := 23) (ls' := [some (.ref h.length), some (.int (iI k)), some (.int (iI f))]) (st' := [.int (iI 0)]) rfl rfl ?_
    exact go_r rfl rfl rfl rfl rfl rfl ⟨⟨0, rfl, Or.inr ⟨rfl, by omega⟩⟩, rfl⟩
  · refine go_a (pc' := 9) (ls' := [some (.ref h.length), some (.int (iI k)), some (.int (iI f))]) (st' := [.ref h.length]) rfl rfl ?_
    refine go_get rfl mh_o rfl rfl ?_
    refine go_a (pc' := 13) (ls' := [some (.ref h.length), some (.int (iI k)), some (.int (iI f))]) (st' := [.int (iI k), .ref (h.length + 1)]) rfl rfl ?_
    refine mi_ild rfl mh_a1 (by omega) (by omega) (by decide) ?_
    refine go_a (pc' := 15) (ls' := [some (.ref h.length), some (.int (iI k)), some (.int (iI f))]) (st' := [.int (iI f), .int (iI (A 1 k))]) rfl rfl ?_
    refine mi_ne (t := 22) rfl rfl (by omega) (by omega) (by omega) (by omega) (fun c22 => ?_) (fun c22 => ?_)
    · refine go_a (pc' := 23) (ls' := [some (.ref h.length), some (.int (iI k)), some (.int (iI f))]) (st' := [.int (iI 0)]) rfl rfl ?_
      exact go_r rfl rfl rfl rfl rfl rfl ⟨⟨0, rfl, Or.inr ⟨rfl, by omega⟩⟩, rfl⟩
    · refine go_a (pc' := 19) (ls' := [some (.ref h.length), some (.int (iI k)), some (.int (iI f))]) (st' := [.int (iI 1)]) rfl rfl ?_
      refine go_a (pc' := 23) (ls' := [some (.ref h.length), some (.int (iI k)), some (.int (iI f))]) (st' := [.int (iI 1)]) rfl rfl ?_
      exact go_r rfl rfl rfl rfl rfl rfl ⟨⟨1, rfl, Or.inl ⟨rfl, by omega⟩⟩, rfl⟩
theorem mm_fail (z : Value) (d : Nat) (f : Int) (h R : xx_H) (I : Nat → Int) (A : Nat → Int → Int) (N : Int → Int) (hc : 12 ≤ h.length) (w0 : 0 ≤ I 49) (w1 : I 49 ≤ 4) : xx_cl (xt_P z) (d + 1) 128 [.ref h.length, .int (iI f)] (mh h R I A N) (fun v h1 => v = none ∧ ((¬ I 49 = 0 ∧ h1 = mh h R I A N) ∨ (I 49 = 0 ∧ h1 = mh h R (su I 49 f) A N))) := by
  refine cl_go rfl ?_
  show xx_go (xt_P z) d 128 0 [some (.ref h.length), some (.int (iI f))] [] (mh h R I A N) _
  refine go_a (pc' := 1) (ls' := [some (.ref h.length), some (.int (iI f))]) (st' := [.ref h.length]) rfl rfl ?_
  refine go_get (v := .int (iI (I 49))) rfl mh_o rfl rfl ?_
  refine mi_ne0 (t := 12) rfl rfl (by omega) (by omega) (fun q => ?_) (fun q => ?_)
  · exact go_r rfl rfl rfl rfl rfl rfl ⟨rfl, Or.inl ⟨q, rfl⟩⟩
  · refine go_a (pc' := 8) (ls' := [some (.ref h.length), some (.int (iI f))]) (st' := [.ref h.length]) rfl rfl ?_
    refine go_a (pc' := 9) (ls' := [some (.ref h.length), some (.int (iI f))]) (st' := [.int (iI f), .ref h.length]) rfl rfl ?_
    refine go_put (j := 49) rfl mh_o rfl rfl (show 12 ≤ _ from hc) (show 49 < 86 by decide) rfl rfl ?_
    rw [mh_p49]
    exact go_r rfl rfl rfl rfl rfl rfl ⟨rfl, Or.inr ⟨by omega, rfl⟩⟩
theorem mm_build (z : Value) (d : Nat) (v : Int) (h R : xx_H) (I : Nat → Int) (A : Nat → Int → Int) (N : Int → Int) (hc : 12 ≤ h.length) (b0 : 0 ≤ I 56) (b1 : I 56 < 2400) : xx_cl (xt_P z) (d + 1) 107 [.ref h.length, .int (iI v)] (mh h R I A N) (fun w h1 => w = none ∧ h1 = mh h R (su I 56 (I 56 + 1)) (sa A 32 (I 56) v) N) := by
  refine cl_go rfl ?_
  show xx_go (xt_P z) d 107 0 [some (.ref h.length), some (.int (iI v))] [] (mh h R I A N) _
  refine go_a (pc' := 1) (ls' := [some (.ref h.length), some (.int (iI v))]) (st' := [.ref h.length]) rfl rfl ?_
  refine go_get rfl mh_o rfl rfl ?_
  refine go_a (pc' := 5) (ls' := [some (.ref h.length), some (.int (iI v))]) (st' := [.ref h.length, .ref (h.length + 32)]) rfl rfl ?_
  refine go_get (v := .int (iI (I 56))) rfl mh_o rfl rfl ?_
  refine go_a (pc' := 9) (ls' := [some (.ref h.length), some (.int (iI v))]) (st' := [.int (iI v), .int (iI (I 56)), .ref (h.length + 32)]) rfl rfl ?_
  refine mi_ist rfl mh_a32 (show 12 ≤ _ by omega) (by omega) (by omega) (by decide) ?_
  rw [mh_w32 (by omega)]
  refine go_a (pc' := 11) (ls' := [some (.ref h.length), some (.int (iI v))]) (st' := [.ref h.length]) rfl rfl ?_
  refine go_a (pc' := 12) (ls' := [some (.ref h.length), some (.int (iI v))]) (st' := [.ref h.length, .ref h.length]) rfl rfl ?_
  refine go_get (v := .int (iI (I 56))) rfl mh_o rfl rfl ?_
  refine go_a (pc' := 16) (ls' := [some (.ref h.length), some (.int (iI v))]) (st' := [.int (iI 1), .int (iI (I 56)), .ref h.length]) rfl rfl ?_
  refine mi_add rfl ?_
  refine go_put (j := 56) rfl mh_o rfl rfl (show 12 ≤ _ from hc) (show 56 < 86 by decide) rfl rfl ?_
  rw [mh_p56]
  exact go_r rfl rfl rfl rfl rfl rfl ⟨rfl, rfl⟩
theorem mm_walkTo (z : Value) (d : Nat) (v : Int) (h R : xx_H) (I : Nat → Int) (A : Nat → Int → Int) (N : Int → Int) (hc : 12 ≤ h.length) (b0 : 0 ≤ I 61) (b1 : I 61 < 400) : xx_cl (xt_P z) (d + 1) 119 [.ref h.length, .int (iI v)] (mh h R I A N) (fun w h1 => w = none ∧ h1 = mh h R (su I 61 (I 61 + 1)) (sa A 35 (I 61) v) N) := by
  refine cl_go rfl ?_
  show xx_go (xt_P z) d 119 0 [some (.ref h.length), some (.int (iI v))] [] (mh h R I A N) _
  refine go_a (pc' := 1) (ls' := [some (.ref h.length), some (.int (iI v))]) (st' := [.ref h.length]) rfl rfl ?_
  refine go_get rfl mh_o rfl rfl ?_
  refine go_a (pc' := 5) (ls' := [some (.ref h.length), some (.int (iI v))]) (st' := [.ref h.length, .ref (h.length + 35)]) rfl rfl ?_
  refine go_get (v := .int (iI (I 61))) rfl mh_o rfl rfl ?_
  refine go_a (pc' := 9) (ls' := [some (.ref h.length), some (.int (iI v))]) (st' := [.int (iI v), .int (iI (I 61)), .ref (h.length + 35)]) rfl rfl ?_
  refine mi_ist rfl mh_a35 (show 12 ≤ _ by omega) (by omega) (by omega) (by decide) ?_
  rw [mh_w35 (by omega)]
  refine go_a (pc' := 11) (ls' := [some (.ref h.length), some (.int (iI v))]) (st' := [.ref h.length]) rfl rfl ?_
  refine go_a (pc' := 12) (ls' := [some (.ref h.length), some (.int (iI v))]) (st' := [.ref h.length, .ref h.length]) rfl rfl ?_
  refine go_get (v := .int (iI (I 61))) rfl mh_o rfl rfl ?_
  refine go_a (pc' := 16) (ls' := [some (.ref h.length), some (.int (iI v))]) (st' := [.int (iI 1), .int (iI (I 61)), .ref h.length]) rfl rfl ?_
  refine mi_add rfl ?_
  refine go_put (j := 61) rfl mh_o rfl rfl (show 12 ≤ _ from hc) (show 61 < 86 by decide) rfl rfl ?_
  rw [mh_p61]
  exact go_r rfl rfl rfl rfl rfl rfl ⟨rfl, rfl⟩
theorem mm_openCall (z : Value) (d : Nat) (k : Int) (h R : xx_H) (I : Nat → Int) (A : Nat → Int → Int) (N : Int → Int) (hc : 12 ≤ h.length) (hP : PW I A) (k0 : 0 ≤ k) (k1 : k < I 7) (b0 : 0 ≤ I 54) (b1 : I 54 < 1200) : xx_cl (xt_P z) (d + 1) 113 [.ref h.length, .int (iI k)] (mh h R I A N) (fun w h1 => w = none ∧ h1 = mh h R (su I 54 (I 54 + 1)) (sa (sa (sa A 29 (I 54) k) 30 (I 54) (A 2 k)) 31 (I 54) (I 56)) N) := by
  have p1 := hP.1
  have q := hP.2 k k0 k1
  refine cl_go rfl ?_
  show xx_go (xt_P z) d 113 0 [some (.ref h.length), some (.int (iI k))] [] (mh h R I A N) _
  refine go_a (pc' := 1) (ls' := [some (.ref h.length), some (.int (iI k))]) (st' := [.ref h.length]) rfl rfl ?_
  refine go_get rfl mh_o rfl rfl ?_
  refine go_a (pc' := 5) (ls' := [some (.ref h.length), some (.int (iI k))]) (st' := [.ref h.length, .ref (h.length + 29)]) rfl rfl ?_
  refine go_get (v := .int (iI (I 54))) rfl mh_o rfl rfl ?_
  refine go_a (pc' := 9) (ls' := [some (.ref h.length), some (.int (iI k))]) (st' := [.int (iI k), .int (iI (I 54)), .ref (h.length + 29)]) rfl rfl ?_
  refine mi_ist rfl mh_a29 (show 12 ≤ _ by omega) (by omega) (by omega) (by decide) ?_
  rw [mh_w29 (by omega)]
  refine go_a (pc' := 11) (ls' := [some (.ref h.length), some (.int (iI k))]) (st' := [.ref h.length]) rfl rfl ?_
  refine go_get rfl mh_o rfl rfl ?_
  refine go_a (pc' := 15) (ls' := [some (.ref h.length), some (.int (iI k))]) (st' := [.ref h.length, .ref (h.length + 30)]) rfl rfl ?_
  refine go_get (v := .int (iI (I 54))) rfl mh_o rfl rfl ?_
  refine go_a (pc' := 19) (ls' := [some (.ref h.length), some (.int (iI k))]) (st' := [.ref h.length, .int (iI (I 54)), .ref (h.length + 30)]) rfl rfl ?_
  refine go_get rfl mh_o rfl rfl ?_
  refine go_a (pc' := 23) (ls' := [some (.ref h.length), some (.int (iI k))]) (st' := [.int (iI k), .ref (h.length + 2), .int (iI (I 54)), .ref (h.length + 30)]) rfl rfl ?_
  refine mi_ild rfl mh_a2 (by omega) (by omega) (by decide) ?_
  show xx_go (xt_P z) d 113 24 [some (.ref h.length), some (.int (iI k))] [.int (iI (A 2 k)), .int (iI (I 54)), .ref (h.length + 30)] (mh h R I (sa A 29 (I 54) k) N) _
  refine mi_ist rfl mh_a30 (show 12 ≤ _ by omega) (by omega) (by omega) (by decide) ?_
  rw [mh_w30 (by omega)]
  refine go_a (pc' := 26) (ls' := [some (.ref h.length), some (.int (iI k))]) (st' := [.ref h.length]) rfl rfl ?_
  refine go_get rfl mh_o rfl rfl ?_
  refine go_a (pc' := 30) (ls' := [some (.ref h.length), some (.int (iI k))]) (st' := [.ref h.length, .ref (h.length + 31)]) rfl rfl ?_
  refine go_get (v := .int (iI (I 54))) rfl mh_o rfl rfl ?_
  refine go_a (pc' := 34) (ls' := [some (.ref h.length), some (.int (iI k))]) (st' := [.ref h.length, .int (iI (I 54)), .ref (h.length + 31)]) rfl rfl ?_
  refine go_get (v := .int (iI (I 56))) rfl mh_o rfl rfl ?_
  refine mi_ist rfl mh_a31 (show 12 ≤ _ by omega) (by omega) (by omega) (by decide) ?_
  rw [mh_w31 (by omega)]
  refine go_a (pc' := 39) (ls' := [some (.ref h.length), some (.int (iI k))]) (st' := [.ref h.length]) rfl rfl ?_
  refine go_a (pc' := 40) (ls' := [some (.ref h.length), some (.int (iI k))]) (st' := [.ref h.length, .ref h.length]) rfl rfl ?_
  refine go_get (v := .int (iI (I 54))) rfl mh_o rfl rfl ?_
  refine go_a (pc' := 44) (ls' := [some (.ref h.length), some (.int (iI k))]) (st' := [.int (iI 1), .int (iI (I 54)), .ref h.length]) rfl rfl ?_
  refine mi_add rfl ?_
  refine go_put (j := 54) rfl mh_o rfl rfl (show 12 ≤ _ from hc) (show 54 < 86 by decide) rfl rfl ?_
  rw [mh_p54]
  exact go_r rfl rfl rfl rfl rfl rfl ⟨rfl, rfl⟩
theorem mm_definition_loop (z : Value) (d : Nat) (n : Int) (h R : xx_H) (I : Nat → Int) (A : Nat → Int → Int) (N : Int → Int) (hc : 12 ≤ h.length) (n0 : -1 ≤ n) (n1 : n < 140000) (d0 : 0 ≤ I 32) (d1 : I 32 ≤ 40) (rd : ∀ e : Int, 0 ≤ e → e < I 32 → 0 ≤ A 20 e ∧ A 20 e < 140000) : ∀ (f : Nat) (j : Int), (I 32 - j).toNat ≤ f → 0 ≤ j → j ≤ 1000 → xx_go (xt_P z) d 132 2 [some (.ref h.length), some (.int (iI n)), some (.int (iI j))] [] (mh h R I A N) (fun v h1 => (∃ x : Int, v = some (.int (iI x)) ∧ (x = -1 ∨ (0 ≤ x ∧ x < I 32 ∧ A 20 x = n))) ∧ h1 = mh h R I A N) := by
  intro f
  induction f with
  | zero =>
    intro j hf j0 j9
    refine go_a (pc' := 3) (ls' := [some (.ref h.length), some (.int (iI n)), some (.int (iI j))]) (st' := [.int (iI j)]) rfl rfl ?_
    refine go_a (pc' := 4) (ls' := [some (.ref h.length), some (.int (iI n)), some (.int (iI j))]) (st' := [.ref h.length, .int (iI j)]) rfl rfl ?_
    refine go_get (v := .int (iI (I 32))) rfl mh_o rfl rfl ?_
    refine mi_ge (t := 28) rfl rfl (by omega) (by omega) (by omega) (by omega) (fun _ => ?_) (fun q => absurd (show I 32 ≤ j by omega) q)
    refine go_a (pc' := 29) (ls' := [some (.ref h.length), some (.int (iI n)), some (.int (iI j))]) (st' := [.int (iI ((-1)))]) rfl rfl ?_
    exact go_r rfl rfl rfl rfl rfl rfl ⟨⟨-1, rfl, Or.inl rfl⟩, rfl⟩
  | succ f ih =>
    intro j hf j0 j9
    refine go_a (pc' := 3) (ls' := [some (.ref h.length), some (.int (iI n)), some (.int (iI j))]) (st' := [.int (iI j)]) rfl rfl ?_
    refine go_a (pc' := 4) (ls' := [some (.ref h.length), some (.int (iI n)), some (.int (iI j))]) (st' := [.ref h.length, .int (iI j)]) rfl rfl ?_
    refine go_get (v := .int (iI (I 32))) rfl mh_o rfl rfl ?_
    refine mi_ge (t := 28) rfl rfl (by omega) (by omega) (by omega) (by omega) (fun q => ?_) (fun q => ?_)
    · refine go_a (pc' := 29) (ls' := [some (.ref h.length), some (.int (iI n)), some (.int (iI j))]) (st' := [.int (iI ((-1)))]) rfl rfl ?_
      exact go_r rfl rfl rfl rfl rfl rfl ⟨⟨-1, rfl, Or.inl rfl⟩, rfl⟩
    · have r := rd j j0 (by omega)
      refine go_a (pc' := 11) (ls' := [some (.ref h.length), some (.int (iI n)), some (.int (iI j))]) (st' := [.ref h.length]) rfl rfl ?_
      refine go_get rfl mh_o rfl rfl ?_
      refine go_a (pc' := 15) (ls' := [some (.ref h.length), some (.int (iI n)), some (.int (iI j))]) (st' := [.int (iI j), .ref (h.length + 20)]) rfl rfl ?_
      refine mi_ild rfl mh_a20 (by omega) (by omega) (by decide) ?_
      refine go_a (pc' := 17) (ls' := [some (.ref h.length), some (.int (iI n)), some (.int (iI j))]) (st' := [.int (iI n), .int (iI (A 20 j))]) rfl rfl ?_
      refine mi_ne (t := 22) rfl rfl (by omega) (by omega) (by omega) (by omega) (fun e => ?_) (fun e => ?_)
      · refine go_a (pc' := 25) (ls' := [some (.ref h.length), some (.int (iI n)), some (.int (iI (j + 1)))]) (st' := []) rfl (by rw [← iI_add j 1]; rfl) ?_
        refine go_a (pc' := 2) (ls' := [some (.ref h.length), some (.int (iI n)), some (.int (iI (j + 1)))]) (st' := []) rfl rfl ?_
        exact ih (j + 1) (by omega) (by omega) (by omega)
      · refine go_a (pc' := 21) (ls' := [some (.ref h.length), some (.int (iI n)), some (.int (iI j))]) (st' := [.int (iI j)]) rfl rfl ?_
        exact go_r rfl rfl rfl rfl rfl rfl ⟨⟨j, rfl, Or.inr ⟨j0, by omega, by omega⟩⟩, rfl⟩
theorem mm_definition (z : Value) (d : Nat) (n : Int) (h R : xx_H) (I : Nat → Int) (A : Nat → Int → Int) (N : Int → Int) (hc : 12 ≤ h.length) (n0 : -1 ≤ n) (n1 : n < 140000) (d0 : 0 ≤ I 32) (d1 : I 32 ≤ 40) (rd : ∀ e : Int, 0 ≤ e → e < I 32 → 0 ≤ A 20 e ∧ A 20 e < 140000) : xx_cl (xt_P z) (d + 1) 132 [.ref h.length, .int (iI n)] (mh h R I A N) (fun v h1 => (∃ x : Int, v = some (.int (iI x)) ∧ (x = -1 ∨ (0 ≤ x ∧ x < I 32 ∧ A 20 x = n))) ∧ h1 = mh h R I A N) := by
  refine cl_go rfl ?_
  show xx_go (xt_P z) d 132 0 [some (.ref h.length), some (.int (iI n)), none] [] (mh h R I A N) _
  refine go_a (pc' := 1) (ls' := [some (.ref h.length), some (.int (iI n)), none]) (st' := [.int (iI 0)]) rfl rfl ?_
  refine go_a (pc' := 2) (ls' := [some (.ref h.length), some (.int (iI n)), some (.int (iI 0))]) (st' := []) rfl rfl ?_
  exact mm_definition_loop z d n h R I A N hc n0 n1 d0 d1 rd _ 0 (Nat.le_refl _) (Int.le_refl _) (by decide)
theorem mm_theoremOf_loop (z : Value) (d : Nat) (n : Int) (h R : xx_H) (I : Nat → Int) (A : Nat → Int → Int) (N : Int → Int) (hc : 12 ≤ h.length) (n0 : -1 ≤ n) (n1 : n < 140000) (d0 : 0 ≤ I 38) (d1 : I 38 ≤ 60) (rd : ∀ e : Int, 0 ≤ e → e < I 38 → 0 ≤ A 25 e ∧ A 25 e < 140000) : ∀ (f : Nat) (j : Int), (I 38 - j).toNat ≤ f → 0 ≤ j → j ≤ 1000 → xx_go (xt_P z) d 135 2 [some (.ref h.length), some (.int (iI n)), some (.int (iI j))] [] (mh h R I A N) (fun v h1 => (∃ x : Int, v = some (.int (iI x)) ∧ (x = -1 ∨ (0 ≤ x ∧ x < I 38 ∧ A 25 x = n))) ∧ h1 = mh h R I A N) := by
  intro f
  induction f with
  | zero =>
    intro j hf j0 j9
    refine go_a (pc' := 3) (ls' := [some (.ref h.length), some (.int (iI n)), some (.int (iI j))]) (st' := [.int (iI j)]) rfl rfl ?_
    refine go_a (pc' := 4) (ls' := [some (.ref h.length), some (.int (iI n)), some (.int (iI j))]) (st' := [.ref h.length, .int (iI j)]) rfl rfl ?_
    refine go_get (v := .int (iI (I 38))) rfl mh_o rfl rfl ?_
    refine mi_ge (t := 28) rfl rfl (by omega) (by omega) (by omega) (by omega) (fun _ => ?_) (fun q => absurd (show I 38 ≤ j by omega) q)
    refine go_a (pc' := 29) (ls' := [some (.ref h.length), some (.int (iI n)), some (.int (iI j))]) (st' := [.int (iI ((-1)))]) rfl rfl ?_
    exact go_r rfl rfl rfl rfl rfl rfl ⟨⟨-1, rfl, Or.inl rfl⟩, rfl⟩
  | succ f ih =>
    intro j hf j0 j9
    refine go_a (pc' := 3) (ls' := [some (.ref h.length), some (.int (iI n)), some (.int (iI j))]) (st' := [.int (iI j)]) rfl rfl ?_
    refine go_a (pc' := 4) (ls' := [some (.ref h.length), some (.int (iI n)), some (.int (iI j))]) (st' := [.ref h.length, .int (iI j)]) rfl rfl ?_
    refine go_get (v := .int (iI (I 38))) rfl mh_o rfl rfl ?_
    refine mi_ge (t := 28) rfl rfl (by omega) (by omega) (by omega) (by omega) (fun q => ?_) (fun q => ?_)
    · refine go_a (pc' := 29) (ls' := [some (.ref h.length), some (.int (iI n)), some (.int (iI j))]) (st' := [.int (iI ((-1)))]) rfl rfl ?_
      exact go_r rfl rfl rfl rfl rfl rfl ⟨⟨-1, rfl, Or.inl rfl⟩, rfl⟩
    · have r := rd j j0 (by omega)
      refine go_a (pc' := 11) (ls' := [some (.ref h.length), some (.int (iI n)), some (.int (iI j))]) (st' := [.ref h.length]) rfl rfl ?_
      refine go_get rfl mh_o rfl rfl ?_
      refine go_a (pc' := 15) (ls' := [some (.ref h.length), some (.int (iI n)), some (.int (iI j))]) (st' := [.int (iI j), .ref (h.length + 25)]) rfl rfl ?_
      refine mi_ild rfl mh_a25 (by omega) (by omega) (by decide) ?_
      refine go_a (pc' := 17) (ls' := [some (.ref h.length), some (.int (iI n)), some (.int (iI j))]) (st' := [.int (iI n), .int (iI (A 25 j))]) rfl rfl ?_
      refine mi_ne (t := 22) rfl rfl (by omega) (by omega) (by omega) (by omega) (fun e => ?_) (fun e => ?_)
      · refine go_a (pc' := 25) (ls' := [some (.ref h.length), some (.int (iI n)), some (.int (iI (j + 1)))]) (st' := []) rfl (by rw [← iI_add j 1]; rfl) ?_
        refine go_a (pc' := 2) (ls' := [some (.ref h.length), some (.int (iI n)), some (.int (iI (j + 1)))]) (st' := []) rfl rfl ?_
        exact ih (j + 1) (by omega) (by omega) (by omega)
      · refine go_a (pc' := 21) (ls' := [some (.ref h.length), some (.int (iI n)), some (.int (iI j))]) (st' := [.int (iI j)]) rfl rfl ?_
        exact go_r rfl rfl rfl rfl rfl rfl ⟨⟨j, rfl, Or.inr ⟨j0, by omega, by omega⟩⟩, rfl⟩
theorem mm_theoremOf (z : Value) (d : Nat) (n : Int) (h R : xx_H) (I : Nat → Int) (A : Nat → Int → Int) (N : Int → Int) (hc : 12 ≤ h.length) (n0 : -1 ≤ n) (n1 : n < 140000) (d0 : 0 ≤ I 38) (d1 : I 38 ≤ 60) (rd : ∀ e : Int, 0 ≤ e → e < I 38 → 0 ≤ A 25 e ∧ A 25 e < 140000) : xx_cl (xt_P z) (d + 1) 135 [.ref h.length, .int (iI n)] (mh h R I A N) (fun v h1 => (∃ x : Int, v = some (.int (iI x)) ∧ (x = -1 ∨ (0 ≤ x ∧ x < I 38 ∧ A 25 x = n))) ∧ h1 = mh h R I A N) := by
  refine cl_go rfl ?_
  show xx_go (xt_P z) d 135 0 [some (.ref h.length), some (.int (iI n)), none] [] (mh h R I A N) _
  refine go_a (pc' := 1) (ls' := [some (.ref h.length), some (.int (iI n)), none]) (st' := [.int (iI 0)]) rfl rfl ?_
  refine go_a (pc' := 2) (ls' := [some (.ref h.length), some (.int (iI n)), some (.int (iI 0))]) (st' := []) rfl rfl ?_
  exact mm_theoremOf_loop z d n h R I A N hc n0 n1 d0 d1 rd _ 0 (Nat.le_refl _) (Int.le_refl _) (by decide)

