theorem mand_iI (x : Int) : iI x &&& iI 8191 = iI (mand x) := iI_of _
theorem mm_spelledW_loop (z : Value) (d : Nat) (e m : Int) (h R : xx_H) (I : Nat → Int) (A : Nat → Int → Int) (N : Int → Int) (hc : 12 ≤ h.length) (hm : m ≤ 12) : ∀ (n : Nat) (j acc : Int), 0 ≤ j → j + n = m → xx_go (xt_P z) d 63 6 [some (.ref h.length), some (.int (iI e)), some (.int (iI m)), some (.int (iI 1)), some (.int (iI acc)), some (.int (iI j))] [] (mh h R I A N) (fun v h1 => v = some (.int (iI (mand (msp (A 13) n (j) acc)))) ∧ h1 = mh h R I A N) := by
  intro n
  induction n with
  | zero =>
    intro j acc j0 ej
    refine go_a (pc' := 8) (ls' := [some (.ref h.length), some (.int (iI e)), some (.int (iI m)), some (.int (iI 1)), some (.int (iI acc)), some (.int (iI j))]) (st' := [.int (iI j)]) rfl rfl ?_
    refine go_a (pc' := 9) (ls' := [some (.ref h.length), some (.int (iI e)), some (.int (iI m)), some (.int (iI 1)), some (.int (iI acc)), some (.int (iI j))]) (st' := [.int (iI m), .int (iI j)]) rfl rfl ?_
    refine mi_ge (t := 50) rfl rfl (by omega) (by omega) (by omega) (by omega) (fun hb => ?_) (fun hb => absurd (show m ≤ j by omega) hb)
    refine go_a (pc' := 52) (ls' := [some (.ref h.length), some (.int (iI e)), some (.int (iI m)), some (.int (iI 1)), some (.int (iI acc)), some (.int (iI j))]) (st' := [.int (iI acc)]) rfl rfl ?_
    refine go_a (pc' := 55) (ls' := [some (.ref h.length), some (.int (iI e)), some (.int (iI m)), some (.int (iI 1)), some (.int (iI acc)), some (.int (iI j))]) (st' := [.int (iI 8191), .int (iI acc)]) rfl rfl ?_
    refine go_a (pc' := 56) (ls' := [some (.ref h.length), some (.int (iI e)), some (.int (iI m)), some (.int (iI 1)), some (.int (iI acc)), some (.int (iI j))]) (st' := [.int (iI (mand acc))]) rfl (by rw [← mand_iI]; rfl) ?_
    exact go_r rfl rfl rfl rfl rfl rfl ⟨rfl, rfl⟩
  | succ n ih =>
    intro j acc j0 ej
    refine go_a (pc' := 8) (ls' := [some (.ref h.length), some (.int (iI e)), some (.int (iI m)), some (.int (iI 1)), some (.int (iI acc)), some (.int (iI j))]) (st' := [.int (iI j)]) rfl rfl ?_
    refine go_a (pc' := 9) (ls' := [some (.ref h.length), some (.int (iI e)), some (.int (iI m)), some (.int (iI 1)), some (.int (iI acc)), some (.int (iI j))]) (st' := [.int (iI m), .int (iI j)]) rfl rfl ?_
    refine mi_ge (t := 50) rfl rfl (by omega) (by omega) (by omega) (by omega) (fun hb => absurd hb (by omega)) (fun hb => ?_)
    refine go_a (pc' := 15) (ls' := [some (.ref h.length), some (.int (iI e)), some (.int (iI m)), some (.int (iI 1)), some (.int (iI acc)), some (.int (iI j))]) (st' := [.int (iI 131)]) rfl rfl ?_
    refine go_a (pc' := 17) (ls' := [some (.ref h.length), some (.int (iI e)), some (.int (iI m)), some (.int (iI 1)), some (.int (iI acc)), some (.int (iI j))]) (st' := [.int (iI acc), .int (iI 131)]) rfl rfl ?_
    refine mi_mul rfl ?_
    refine go_a (pc' := 19) (ls' := [some (.ref h.length), some (.int (iI e)), some (.int (iI m)), some (.int (iI 1)), some (.int (iI acc)), some (.int (iI j))]) (st' := [.int (iI 1), .int (iI (131 * acc))]) rfl rfl ?_
    refine mi_eq0 (t := 32) rfl rfl (by omega) (by omega) (fun hb => absurd hb (by decide)) (fun hb => ?_)
    refine go_a (pc' := 23) (ls' := [some (.ref h.length), some (.int (iI e)), some (.int (iI m)), some (.int (iI 1)), some (.int (iI acc)), some (.int (iI j))]) (st' := [.ref h.length, .int (iI (131 * acc))]) rfl rfl ?_
    refine go_get rfl mh_o rfl rfl ?_
    refine go_a (pc' := 28) (ls' := [some (.ref h.length), some (.int (iI e)), some (.int (iI m)), some (.int (iI 1)), some (.int (iI acc)), some (.int (iI j))]) (st' := [.int (iI j), .ref (h.length + 13), .int (iI (131 * acc))]) rfl rfl ?_
    refine mi_ild rfl mh_a13 (by omega) (by omega) (by decide) ?_
    refine go_a (pc' := 41) (ls' := [some (.ref h.length), some (.int (iI e)), some (.int (iI m)), some (.int (iI 1)), some (.int (iI acc)), some (.int (iI j))]) (st' := [.int (iI (A 13 j)), .int (iI (131 * acc))]) rfl rfl ?_
    refine mi_add rfl ?_
    refine go_a (pc' := 44) (ls' := [some (.ref h.length), some (.int (iI e)), some (.int (iI m)), some (.int (iI 1)), some (.int (iI ((131 * acc) + (A 13 j)))), some (.int (iI j))]) (st' := []) rfl rfl ?_
    refine go_a (pc' := 47) (ls' := [some (.ref h.length), some (.int (iI e)), some (.int (iI m)), some (.int (iI 1)), some (.int (iI ((131 * acc) + (A 13 j)))), some (.int (iI (j + 1)))]) (st' := []) rfl (by rw [← iI_add j 1]; rfl) ?_
    refine go_a (pc' := 6) (ls' := [some (.ref h.length), some (.int (iI e)), some (.int (iI m)), some (.int (iI 1)), some (.int (iI ((131 * acc) + (A 13 j)))), some (.int (iI (j + 1)))]) (st' := []) rfl rfl ?_
    exact ih (j + 1) (131 * acc + A 13 j) (by omega) (by omega)
theorem mm_spelledW (z : Value) (d n : Nat) (e : Int) (h R : xx_H) (I : Nat → Int) (A : Nat → Int → Int) (N : Int → Int) (hc : 12 ≤ h.length) (hm : (n : Int) ≤ 12) : xx_cl (xt_P z) (d + 1) 63 [.ref h.length, .int (iI e), .int (iI n), .int (iI 1)] (mh h R I A N) (fun v h1 => v = some (.int (iI (mand (msp (A 13) n 0 5)))) ∧ h1 = mh h R I A N) := by
  refine cl_go rfl ?_
  show xx_go (xt_P z) d 63 0 [some (.ref h.length), some (.int (iI e)), some (.int (iI n)), some (.int (iI 1)), none, none] [] (mh h R I A N) _
  refine go_a (pc' := 1) (ls' := [some (.ref h.length), some (.int (iI e)), some (.int (iI n)), some (.int (iI 1)), none, none]) (st' := [.int (iI 5)]) rfl rfl ?_
  refine go_a (pc' := 3) (ls' := [some (.ref h.length), some (.int (iI e)), some (.int (iI n)), some (.int (iI 1)), some (.int (iI 5)), none]) (st' := []) rfl rfl ?_
  refine go_a (pc' := 4) (ls' := [some (.ref h.length), some (.int (iI e)), some (.int (iI n)), some (.int (iI 1)), some (.int (iI 5)), none]) (st' := [.int (iI 0)]) rfl rfl ?_
  refine go_a (pc' := 6) (ls' := [some (.ref h.length), some (.int (iI e)), some (.int (iI n)), some (.int (iI 1)), some (.int (iI 5)), some (.int (iI 0))]) (st' := []) rfl rfl ?_
  exact mm_spelledW_loop z d e n h R I A N hc hm n 0 5 (by omega) (by omega)
theorem mm_spelledN_loop (z : Value) (d : Nat) (e m : Int) (h R : xx_H) (I : Nat → Int) (A : Nat → Int → Int) (N : Int → Int) (hc : 12 ≤ h.length) (he : 0 ≤ e) (hm : e + m ≤ 60000) : ∀ (n : Nat) (j acc : Int), 0 ≤ j → j + n = m → xx_go (xt_P z) d 63 6 [some (.ref h.length), some (.int (iI e)), some (.int (iI m)), some (.int (iI 0)), some (.int (iI acc)), some (.int (iI j))] [] (mh h R I A N) (fun v h1 => v = some (.int (iI (mand (msp (A 8) n (e + j) acc)))) ∧ h1 = mh h R I A N) := by
  intro n
  induction n with
  | zero =>
    intro j acc j0 ej
    refine go_a (pc' := 8) (ls' := [some (.ref h.length), some (.int (iI e)), some (.int (iI m)), some (.int (iI 0)), some (.int (iI acc)), some (.int (iI j))]) (st' := [.int (iI j)]) rfl rfl ?_
    refine go_a (pc' := 9) (ls' := [some (.ref h.length), some (.int (iI e)), some (.int (iI m)), some (.int (iI 0)), some (.int (iI acc)), some (.int (iI j))]) (st' := [.int (iI m), .int (iI j)]) rfl rfl ?_
    refine mi_ge (t := 50) rfl rfl (by omega) (by omega) (by omega) (by omega) (fun hb => ?_) (fun hb => absurd (show m ≤ j by omega) hb)
    refine go_a (pc' := 52) (ls' := [some (.ref h.length), some (.int (iI e)), some (.int (iI m)), some (.int (iI 0)), some (.int (iI acc)), some (.int (iI j))]) (st' := [.int (iI acc)]) rfl rfl ?_
    refine go_a (pc' := 55) (ls' := [some (.ref h.length), some (.int (iI e)), some (.int (iI m)), some (.int (iI 0)), some (.int (iI acc)), some (.int (iI j))]) (st' := [.int (iI 8191), .int (iI acc)]) rfl rfl ?_
    refine go_a (pc' := 56) (ls' := [some (.ref h.length), some (.int (iI e)), some (.int (iI m)), some (.int (iI 0)), some (.int (iI acc)), some (.int (iI j))]) (st' := [.int (iI (mand acc))]) rfl (by rw [← mand_iI]; rfl) ?_
    exact go_r rfl rfl rfl rfl rfl rfl ⟨rfl, rfl⟩
  | succ n ih =>
    intro j acc j0 ej
    refine go_a (pc' := 8) (ls' := [some (.ref h.length), some (.int (iI e)), some (.int (iI m)), some (.int (iI 0)), some (.int (iI acc)), some (.int (iI j))]) (st' := [.int (iI j)]) rfl rfl ?_
    refine go_a (pc' := 9) (ls' := [some (.ref h.length), some (.int (iI e)), some (.int (iI m)), some (.int (iI 0)), some (.int (iI acc)), some (.int (iI j))]) (st' := [.int (iI m), .int (iI j)]) rfl rfl ?_
    refine mi_ge (t := 50) rfl rfl (by omega) (by omega) (by omega) (by omega) (fun hb => absurd hb (by omega)) (fun hb => ?_)
    refine go_a (pc' := 15) (ls' := [some (.ref h.length), some (.int (iI e)), some (.int (iI m)), some (.int (iI 0)), some (.int (iI acc)), some (.int (iI j))]) (st' := [.int (iI 131)]) rfl rfl ?_
    refine go_a (pc' := 17) (ls' := [some (.ref h.length), some (.int (iI e)), some (.int (iI m)), some (.int (iI 0)), some (.int (iI acc)), some (.int (iI j))]) (st' := [.int (iI acc), .int (iI 131)]) rfl rfl ?_
    refine mi_mul rfl ?_
    refine go_a (pc' := 19) (ls' := [some (.ref h.length), some (.int (iI e)), some (.int (iI m)), some (.int (iI 0)), some (.int (iI acc)), some (.int (iI j))]) (st' := [.int (iI 0), .int (iI (131 * acc))]) rfl rfl ?_
    refine mi_eq0 (t := 32) rfl rfl (by omega) (by omega) (fun hb => ?_) (fun hb => absurd rfl hb)
    refine go_a (pc' := 33) (ls' := [some (.ref h.length), some (.int (iI e)), some (.int (iI m)), some (.int (iI 0)), some (.int (iI acc)), some (.int (iI j))]) (st' := [.ref h.length, .int (iI (131 * acc))]) rfl rfl ?_
    refine go_get rfl mh_o rfl rfl ?_
    refine go_a (pc' := 37) (ls' := [some (.ref h.length), some (.int (iI e)), some (.int (iI m)), some (.int (iI 0)), some (.int (iI acc)), some (.int (iI j))]) (st' := [.int (iI e), .ref (h.length + 8), .int (iI (131 * acc))]) rfl rfl ?_
    refine go_a (pc' := 39) (ls' := [some (.ref h.length), some (.int (iI e)), some (.int (iI m)), some (.int (iI 0)), some (.int (iI acc)), some (.int (iI j))]) (st' := [.int (iI j), .int (iI e), .ref (h.length + 8), .int (iI (131 * acc))]) rfl rfl ?_
    refine mi_add rfl ?_
    refine mi_ild rfl mh_a8 (by omega) (by omega) (by decide) ?_
    refine mi_add rfl ?_
    refine go_a (pc' := 44) (ls' := [some (.ref h.length), some (.int (iI e)), some (.int (iI m)), some (.int (iI 0)), some (.int (iI ((131 * acc) + (A 8 (e + j))))), some (.int (iI j))]) (st' := []) rfl rfl ?_
    refine go_a (pc' := 47) (ls' := [some (.ref h.length), some (.int (iI e)), some (.int (iI m)), some (.int (iI 0)), some (.int (iI ((131 * acc) + (A 8 (e + j))))), some (.int (iI (j + 1)))]) (st' := []) rfl (by rw [← iI_add j 1]; rfl) ?_
    refine go_a (pc' := 6) (ls' := [some (.ref h.length), some (.int (iI e)), some (.int (iI m)), some (.int (iI 0)), some (.int (iI ((131 * acc) + (A 8 (e + j))))), some (.int (iI (j + 1)))]) (st' := []) rfl rfl ?_
    rw [show msp (A 8) (n + 1) (e + j) acc = msp (A 8) n (e + (j + 1)) (131 * acc + A 8 (e + j)) by rw [← Int.add_assoc]; rfl]
    exact ih (j + 1) (131 * acc + A 8 (e + j)) (by omega) (by omega)
theorem mm_spelledN (z : Value) (d n : Nat) (e : Int) (h R : xx_H) (I : Nat → Int) (A : Nat → Int → Int) (N : Int → Int) (hc : 12 ≤ h.length) (he : 0 ≤ e) (hm : e + n ≤ 60000) : xx_cl (xt_P z) (d + 1) 63 [.ref h.length, .int (iI e), .int (iI n), .int (iI 0)] (mh h R I A N) (fun v h1 => v = some (.int (iI (mand (msp (A 8) n e 5)))) ∧ h1 = mh h R I A N) := by
  refine cl_go rfl ?_
  show xx_go (xt_P z) d 63 0 [some (.ref h.length), some (.int (iI e)), some (.int (iI n)), some (.int (iI 0)), none, none] [] (mh h R I A N) _
  refine go_a (pc' := 1) (ls' := [some (.ref h.length), some (.int (iI e)), some (.int (iI n)), some (.int (iI 0)), none, none]) (st' := [.int (iI 5)]) rfl rfl ?_
  refine go_a (pc' := 3) (ls' := [some (.ref h.length), some (.int (iI e)), some (.int (iI n)), some (.int (iI 0)), some (.int (iI 5)), none]) (st' := []) rfl rfl ?_
  refine go_a (pc' := 4) (ls' := [some (.ref h.length), some (.int (iI e)), some (.int (iI n)), some (.int (iI 0)), some (.int (iI 5)), none]) (st' := [.int (iI 0)]) rfl rfl ?_
  refine go_a (pc' := 6) (ls' := [some (.ref h.length), some (.int (iI e)), some (.int (iI n)), some (.int (iI 0)), some (.int (iI 5)), some (.int (iI 0))]) (st' := []) rfl rfl ?_
  have key := mm_spelledN_loop z d e n h R I A N hc he hm n 0 5 (by omega) (by omega)
  rw [Int.add_zero] at key
  exact key
theorem mm_isWord_loop (z : Value) (d : Nat) (s : Int) (h R : xx_H) (I : Nat → Int) (A : Nat → Int → Int) (N : Int → Int) (hc : 12 ≤ h.length) (s0 : 0 ≤ s) (s1 : s < 4999) (w1 : I 17 ≤ 12) (r8 : ∀ e : Int, 0 ≤ A 8 e ∧ A 8 e ≤ 255) (r13 : ∀ e : Int, 0 ≤ A 13 e ∧ A 13 e ≤ 255) : ∀ (n : Nat) (j c : Int), (c = 0 ∨ c = 1) → 0 ≤ j → j + n = I 17 → xx_go (xt_P z) d 64 21 [some (.ref h.length), some (.int (iI s)), some (.int (iI c)), some (.int (iI j))] [] (mh h R I A N) (fun v h1 => (∃ b : Int, (b = 0 ∨ b = 1) ∧ v = some (.int (iI b)) ∧ (b = 1 → c = 1 ∧ ∀ q : Nat, q < n → A 8 (12 * s + (j + q)) = A 13 (j + q))) ∧ h1 = mh h R I A N) := by
  intro n
  induction n with
  | zero =>
    intro j c hc2 j0 ej
    refine go_a (pc' := 22) (ls' := [some (.ref h.length), some (.int (iI s)), some (.int (iI c)), some (.int (iI j))]) (st' := [.int (iI j)]) rfl rfl ?_
    refine go_a (pc' := 23) (ls' := [some (.ref h.length), some (.int (iI s)), some (.int (iI c)), some (.int (iI j))]) (st' := [.ref h.length, .int (iI j)]) rfl rfl ?_
    refine go_get (v := .int (iI (I 17))) rfl mh_o rfl rfl ?_
    refine mi_ge (t := 65) rfl rfl (by omega) (by omega) (by omega) (by omega) (fun hb => ?_) (fun hb => absurd (show I 17 ≤ j by omega) hb)
    refine go_a (pc' := 66) (ls' := [some (.ref h.length), some (.int (iI s)), some (.int (iI c)), some (.int (iI j))]) (st' := [.int (iI c)]) rfl rfl ?_
    rcases hc2 with rfl | rfl
    · exact go_r rfl rfl rfl rfl rfl rfl ⟨⟨0, Or.inl rfl, rfl, fun q => absurd q (by decide)⟩, rfl⟩
    · exact go_r rfl rfl rfl rfl rfl rfl ⟨⟨1, Or.inr rfl, rfl, fun _ => ⟨rfl, fun q hq => absurd hq (Nat.not_lt_zero _)⟩⟩, rfl⟩
  | succ n ih =>
    intro j c hc2 j0 ej
    have ra := r8 (12 * s + j)
    have rb := r13 j
    refine go_a (pc' := 22) (ls' := [some (.ref h.length), some (.int (iI s)), some (.int (iI c)), some (.int (iI j))]) (st' := [.int (iI j)]) rfl rfl ?_
    refine go_a (pc' := 23) (ls' := [some (.ref h.length), some (.int (iI s)), some (.int (iI c)), some (.int (iI j))]) (st' := [.ref h.length, .int (iI j)]) rfl rfl ?_
    refine go_get (v := .int (iI (I 17))) rfl mh_o rfl rfl ?_
    refine mi_ge (t := 65) rfl rfl (by omega) (by omega) (by omega) (by omega) (fun hb => absurd hb (by omega)) (fun hb => ?_)
    refine go_a (pc' := 30) (ls' := [some (.ref h.length), some (.int (iI s)), some (.int (iI c)), some (.int (iI j))]) (st' := [.int (iI c)]) rfl rfl ?_
    refine mi_eq0 (t := 65) rfl rfl (by omega) (by omega) (fun hb => ?_) (fun hb => ?_)
    · subst hb
      refine go_a (pc' := 66) (ls' := [some (.ref h.length), some (.int (iI s)), some (.int (iI 0)), some (.int (iI j))]) (st' := [.int (iI 0)]) rfl rfl ?_
      exact go_r rfl rfl rfl rfl rfl rfl ⟨⟨0, Or.inl rfl, rfl, fun q => absurd q (by decide)⟩, rfl⟩
    · have c1 : c = 1 := by omega
      subst c1
      refine go_a (pc' := 34) (ls' := [some (.ref h.length), some (.int (iI s)), some (.int (iI 1)), some (.int (iI j))]) (st' := [.ref h.length]) rfl rfl ?_
      refine go_get rfl mh_o rfl rfl ?_
      refine go_a (pc' := 39) (ls' := [some (.ref h.length), some (.int (iI s)), some (.int (iI 1)), some (.int (iI j))]) (st' := [.int (iI 12), .ref (h.length + 8)]) rfl rfl ?_
      refine go_a (pc' := 40) (ls' := [some (.ref h.length), some (.int (iI s)), some (.int (iI 1)), some (.int (iI j))]) (st' := [.int (iI s), .int (iI 12), .ref (h.length + 8)]) rfl rfl ?_
      refine mi_mul rfl ?_
      refine go_a (pc' := 42) (ls' := [some (.ref h.length), some (.int (iI s)), some (.int (iI 1)), some (.int (iI j))]) (st' := [.int (iI j), .int (iI (12 * s)), .ref (h.length + 8)]) rfl rfl ?_
      refine mi_add rfl ?_
      refine mi_ild rfl mh_a8 (by omega) (by omega) (by decide) ?_
      refine go_a (pc' := 45) (ls' := [some (.ref h.length), some (.int (iI s)), some (.int (iI 1)), some (.int (iI j))]) (st' := [.ref h.length, .int (iI (A 8 ((12 * s) + j)))]) rfl rfl ?_
      refine go_get rfl mh_o rfl rfl ?_
      refine go_a (pc' := 49) (ls' := [some (.ref h.length), some (.int (iI s)), some (.int (iI 1)), some (.int (iI j))]) (st' := [.int (iI j), .ref (h.length + 13), .int (iI (A 8 ((12 * s) + j)))]) rfl rfl ?_
      refine mi_ild rfl mh_a13 (by omega) (by omega) (by decide) ?_
      refine mi_ne (t := 57) rfl rfl (by omega) (by omega) (by omega) (by omega) (fun hb2 => ?_) (fun hb2 => ?_)
      · refine go_a (pc' := 58) (ls' := [some (.ref h.length), some (.int (iI s)), some (.int (iI 1)), some (.int (iI j))]) (st' := [.int (iI 0)]) rfl rfl ?_
        refine go_a (pc' := 59) (ls' := [some (.ref h.length), some (.int (iI s)), some (.int (iI 0)), some (.int (iI j))]) (st' := []) rfl rfl ?_
        refine go_a (pc' := 62) (ls' := [some (.ref h.length), some (.int (iI s)), some (.int (iI 0)), some (.int (iI (j + 1)))]) (st' := []) rfl (by rw [← iI_add j 1]; rfl) ?_
        refine go_a (pc' := 21) (ls' := [some (.ref h.length), some (.int (iI s)), some (.int (iI 0)), some (.int (iI (j + 1)))]) (st' := []) rfl rfl ?_
        refine go_w (fun v h1 hq => ?_) (ih (j + 1) 0 (Or.inl rfl) (by omega) (by omega))
        obtain ⟨⟨b, b1, rfl, b2⟩, rfl⟩ := hq
        exact ⟨⟨b, b1, rfl, fun hb3 => absurd (b2 hb3).1 (by decide)⟩, rfl⟩
      · refine go_a (pc' := 54) (ls' := [some (.ref h.length), some (.int (iI s)), some (.int (iI 1)), some (.int (iI j))]) (st' := [.int (iI 1)]) rfl rfl ?_
        refine go_a (pc' := 58) (ls' := [some (.ref h.length), some (.int (iI s)), some (.int (iI 1)), some (.int (iI j))]) (st' := [.int (iI 1)]) rfl rfl ?_
        refine go_a (pc' := 59) (ls' := [some (.ref h.length), some (.int (iI s)), some (.int (iI 1)), some (.int (iI j))]) (st' := []) rfl rfl ?_
        refine go_a (pc' := 62) (ls' := [some (.ref h.length), some (.int (iI s)), some (.int (iI 1)), some (.int (iI (j + 1)))]) (st' := []) rfl (by rw [← iI_add j 1]; rfl) ?_
        refine go_a (pc' := 21) (ls' := [some (.ref h.length), some (.int (iI s)), some (.int (iI 1)), some (.int (iI (j + 1)))]) (st' := []) rfl rfl ?_
        refine go_w (fun v h1 hq => ?_) (ih (j + 1) 1 (Or.inr rfl) (by omega) (by omega))
        obtain ⟨⟨b, b1, rfl, b2⟩, rfl⟩ := hq
        refine ⟨⟨b, b1, rfl, fun hb3 => ⟨rfl, fun q hq => ?_⟩⟩, rfl⟩
        match q with
        | 0 =>
          rw [show j + ((0 : Nat) : Int) = j by omega]
          omega
        | q + 1 =>
          have := (b2 hb3).2 q (by omega)
          rw [show j + ((q + 1 : Nat) : Int) = j + 1 + (q : Int) by omega]
          exact this
theorem mm_isWord (z : Value) (d : Nat) (s : Int) (h R : xx_H) (I : Nat → Int) (A : Nat → Int → Int) (N : Int → Int) (hc : 12 ≤ h.length) (s0 : 0 ≤ s) (s1 : s < 4999) (w0 : 0 ≤ I 17) (w1 : I 17 ≤ 12) (r8 : ∀ e : Int, 0 ≤ A 8 e ∧ A 8 e ≤ 255) (r13 : ∀ e : Int, 0 ≤ A 13 e ∧ A 13 e ≤ 255) (r9 : 0 ≤ A 9 s ∧ A 9 s ≤ 11) : xx_cl (xt_P z) (d + 1) 64 [.ref h.length, .int (iI s)] (mh h R I A N) (fun v h1 => (∃ b : Int, (b = 0 ∨ b = 1) ∧ v = some (.int (iI b)) ∧ (b = 1 → A 9 s = I 17 ∧ ∀ q : Nat, (q : Int) < I 17 → A 8 (12 * s + q) = A 13 q)) ∧ h1 = mh h R I A N) := by
  refine cl_go rfl ?_
  show xx_go (xt_P z) d 64 0 [some (.ref h.length), some (.int (iI s)), none, none] [] (mh h R I A N) _
  refine go_a (pc' := 1) (ls' := [some (.ref h.length), some (.int (iI s)), none, none]) (st' := [.ref h.length]) rfl rfl ?_
  refine go_get rfl mh_o rfl rfl ?_
  refine go_a (pc' := 5) (ls' := [some (.ref h.length), some (.int (iI s)), none, none]) (st' := [.int (iI s), .ref (h.length + 9)]) rfl rfl ?_
  refine mi_ild rfl mh_a9 (by omega) (by omega) (by decide) ?_
  refine go_a (pc' := 7) (ls' := [some (.ref h.length), some (.int (iI s)), none, none]) (st' := [.ref h.length, .int (iI (A 9 s))]) rfl rfl ?_
  refine go_get (v := .int (iI (I 17))) rfl mh_o rfl rfl ?_
  refine mi_ne (t := 17) rfl rfl (by omega) (by omega) (by omega) (by omega) (fun hb => ?_) (fun hb => ?_)
  · refine go_a (pc' := 18) (ls' := [some (.ref h.length), some (.int (iI s)), none, none]) (st' := [.int (iI 0)]) rfl rfl ?_
    refine go_a (pc' := 19) (ls' := [some (.ref h.length), some (.int (iI s)), some (.int (iI 0)), none]) (st' := []) rfl rfl ?_
    refine go_a (pc' := 20) (ls' := [some (.ref h.length), some (.int (iI s)), some (.int (iI 0)), none]) (st' := [.int (iI 0)]) rfl rfl ?_
    refine go_a (pc' := 21) (ls' := [some (.ref h.length), some (.int (iI s)), some (.int (iI 0)), some (.int (iI 0))]) (st' := []) rfl rfl ?_
    refine go_w (fun v h1 hq => ?_) (mm_isWord_loop z d s h R I A N hc s0 s1 w1 r8 r13 (I 17).toNat 0 0 (Or.inl rfl) (by omega) (by omega))
    obtain ⟨⟨b, b1, rfl, b2⟩, rfl⟩ := hq
    exact ⟨⟨b, b1, rfl, fun hb3 => absurd (b2 hb3).1 (by decide)⟩, rfl⟩
  · refine go_a (pc' := 14) (ls' := [some (.ref h.length), some (.int (iI s)), none, none]) (st' := [.int (iI 1)]) rfl rfl ?_
    refine go_a (pc' := 18) (ls' := [some (.ref h.length), some (.int (iI s)), none, none]) (st' := [.int (iI 1)]) rfl rfl ?_
    refine go_a (pc' := 19) (ls' := [some (.ref h.length), some (.int (iI s)), some (.int (iI 1)), none]) (st' := []) rfl rfl ?_
    refine go_a (pc' := 20) (ls' := [some (.ref h.length), some (.int (iI s)), some (.int (iI 1)), none]) (st' := [.int (iI 0)]) rfl rfl ?_
    refine go_a (pc' := 21) (ls' := [some (.ref h.length), some (.int (iI s)), some (.int (iI 1)), some (.int (iI 0))]) (st' := []) rfl rfl ?_
    refine go_w (fun v h1 hq => ?_) (mm_isWord_loop z d s h R I A N hc s0 s1 w1 r8 r13 (I 17).toNat 0 1 (Or.inr rfl) (by omega) (by omega))
    obtain ⟨⟨b, b1, rfl, b2⟩, rfl⟩ := hq
    refine ⟨⟨b, b1, rfl, fun hb3 => ⟨by omega, fun q hq => ?_⟩⟩, rfl⟩
    have := (b2 hb3).2 q (by omega)
    rw [Int.zero_add] at this
    exact this
