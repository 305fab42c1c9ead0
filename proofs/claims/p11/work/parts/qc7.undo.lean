theorem mm_undo (z : Value) (d : Nat) (o : Int) (h R : xx_H) (I : Nat → Int) (A : Nat → Int → Int) (N : Int → Int) (hc : 12 ≤ h.length) (hP : PW I A) (n0 : A 1 0 < 0) (k0 : 0 ≤ o) (k1 : o < I 7) (t0 : 0 ≤ I 41) (t1 : I 41 ≤ 100) (b0 : ∀ e : Int, 0 ≤ A 27 e ∧ A 27 e ≤ 1) (d0 : 0 ≤ I 32 ∧ I 32 ≤ 40) (e0 : 0 ≤ I 38 ∧ I 38 ≤ 60) : xx_cl (xt_P z) (d + 3) 179 [.ref h.length, .int (iI o)] (mh h R I A N) (fun v h1 => (v = some (.int (iI 2)) ∧ h1 = mh h R I A N) ∨ (v = some (.int (iI 3)) ∧ h1 = mh h R I A N ∧ I 41 = 0) ∨ (v = some (.int (iI 0)) ∧ 0 < I 41 ∧ ((A 27 (I 41 - 1) ≠ 0 ∧ h1 = mh h R (su (su (su I 41 (I 41 - 1)) 32 (I 32 - 1)) 46 (A 28 (I 41 - 1))) A N) ∨ (A 27 (I 41 - 1) = 0 ∧ h1 = mh h R (su (su (su I 41 (I 41 - 1)) 38 (I 38 - 1)) 46 (A 28 (I 41 - 1))) A N)))) := by
  refine cl_go rfl ?_
  show xx_go (xt_P z) (d + 2) 179 0 [some (.ref h.length), some (.int (iI o))] [] (mh h R I A N) _
  refine go_a (pc' := 1) (ls' := [some (.ref h.length), some (.int (iI o))]) (st' := [.ref h.length]) rfl rfl ?_
  refine go_a (pc' := 2) (ls' := [some (.ref h.length), some (.int (iI o))]) (st' := [.int (iI o), .ref h.length]) rfl rfl ?_
  refine go_v (m := 98) (as := [.ref h.length, .int (iI o)]) (r := []) rfl rfl rfl mh_o rfl rfl (mm_len2 z d o h R I A N hc hP n0 k0 k1) (fun v h1 hq => ?_)
  obtain ⟨⟨n, rfl, hn⟩, rfl⟩ := hq
  have rn : -1 ≤ n ∧ n < 200000 := by
    have := hP.1
    rcases hn with ⟨hn, -⟩ | ⟨qq, hn, hl⟩
    · omega
    · have := isL_len hP o.toNat qq o (Nat.le_refl _) k0 k1 hl
      omega
  show xx_go (xt_P z) (d + 2) 179 5 [some (.ref h.length), some (.int (iI o))] [.int (iI n)] (mh h R I A N) _
  refine go_a (pc' := 6) (ls' := [some (.ref h.length), some (.int (iI o))]) (st' := [.int (iI 1), .int (iI n)]) rfl rfl ?_
  refine mi_eq (t := 11) rfl rfl (by omega) (by omega) (by omega) (by omega) (fun e => ?_) (fun e => ?_)
  · refine go_a (pc' := 12) (ls' := [some (.ref h.length), some (.int (iI o))]) (st' := [.ref h.length]) rfl rfl ?_
    refine go_get (v := .int (iI (I 41))) rfl mh_o rfl rfl ?_
    refine mi_ne0 (t := 20) rfl rfl (by omega) (by omega) (fun e => ?_) (fun e => ?_)
    · have bb := b0 (I 41 - 1)
      refine go_a (pc' := 21) (ls' := [some (.ref h.length), some (.int (iI o))]) (st' := [.ref h.length]) rfl rfl ?_
      refine go_a (pc' := 22) (ls' := [some (.ref h.length), some (.int (iI o))]) (st' := [.ref h.length, .ref h.length]) rfl rfl ?_
      refine go_get (v := .int (iI (I 41))) rfl mh_o rfl rfl ?_
      refine go_a (pc' := 26) (ls' := [some (.ref h.length), some (.int (iI o))]) (st' := [.int (iI 1), .int (iI (I 41)), .ref h.length]) rfl rfl ?_
      refine mi_sub rfl ?_
      refine go_put (j := 41) rfl mh_o rfl rfl (show 12 ≤ _ from hc) (show 41 < 86 by decide) rfl rfl ?_
      rw [mh_p41]
      refine go_a (pc' := 31) (ls' := [some (.ref h.length), some (.int (iI o))]) (st' := [.ref h.length]) rfl rfl ?_
      refine go_get rfl mh_o rfl rfl ?_
      refine go_a (pc' := 35) (ls' := [some (.ref h.length), some (.int (iI o))]) (st' := [.ref h.length, .ref (h.length + 27)]) rfl rfl ?_
      refine go_get (v := .int (iI ((I 41) - 1))) rfl mh_o rfl rfl ?_
      refine mi_zld rfl mh_a27 (show 0 ≤ I 41 - 1 by omega) (show I 41 - 1 < (100 : Nat) by omega) (by decide) ?_
      show xx_go (xt_P z) (d + 2) 179 39 [some (.ref h.length), some (.int (iI o))] [.int (iI (A 27 (I 41 - 1)))] (mh h R (su I 41 ((I 41) - 1)) A N) _
      refine mi_eq0 (t := 55) rfl rfl (by omega) (by omega) (fun e6 => ?_) (fun e6 => ?_)
      · refine go_a (pc' := 56) (ls' := [some (.ref h.length), some (.int (iI o))]) (st' := [.ref h.length]) rfl rfl ?_
        refine go_a (pc' := 57) (ls' := [some (.ref h.length), some (.int (iI o))]) (st' := [.ref h.length, .ref h.length]) rfl rfl ?_
        refine go_get (v := .int (iI (I 38))) rfl mh_o rfl rfl ?_
        refine go_a (pc' := 61) (ls' := [some (.ref h.length), some (.int (iI o))]) (st' := [.int (iI 1), .int (iI (I 38)), .ref h.length]) rfl rfl ?_
        refine mi_sub rfl ?_
        refine go_put (j := 38) rfl mh_o rfl rfl (show 12 ≤ _ from hc) (show 38 < 86 by decide) rfl rfl ?_
        rw [mh_p38]
        refine go_a (pc' := 66) (ls' := [some (.ref h.length), some (.int (iI o))]) (st' := [.ref h.length]) rfl rfl ?_
        refine go_a (pc' := 67) (ls' := [some (.ref h.length), some (.int (iI o))]) (st' := [.ref h.length, .ref h.length]) rfl rfl ?_
        refine go_get rfl mh_o rfl rfl ?_
        refine go_a (pc' := 71) (ls' := [some (.ref h.length), some (.int (iI o))]) (st' := [.ref h.length, .ref (h.length + 28), .ref h.length]) rfl rfl ?_
        refine go_get (v := .int (iI ((I 41) - 1))) rfl mh_o rfl rfl ?_
        refine mi_ild rfl mh_a28 (by omega) (by omega) (by decide) ?_
        refine go_put (j := 46) rfl mh_o rfl rfl (show 12 ≤ _ from hc) (show 46 < 86 by decide) rfl rfl ?_
        rw [mh_p46]
        refine go_a (pc' := 79) (ls' := [some (.ref h.length), some (.int (iI o))]) (st' := [.int (iI 0)]) rfl rfl ?_
        exact go_r rfl rfl rfl rfl rfl rfl (Or.inr (Or.inr ⟨rfl, by omega, Or.inr ⟨e6, rfl⟩⟩))
      · refine go_a (pc' := 43) (ls' := [some (.ref h.length), some (.int (iI o))]) (st' := [.ref h.length]) rfl rfl ?_
        refine go_a (pc' := 44) (ls' := [some (.ref h.length), some (.int (iI o))]) (st' := [.ref h.length, .ref h.length]) rfl rfl ?_
        refine go_get (v := .int (iI (I 32))) rfl mh_o rfl rfl ?_
        refine go_a (pc' := 48) (ls' := [some (.ref h.length), some (.int (iI o))]) (st' := [.int (iI 1), .int (iI (I 32)), .ref h.length]) rfl rfl ?_
        refine mi_sub rfl ?_
        refine go_put (j := 32) rfl mh_o rfl rfl (show 12 ≤ _ from hc) (show 32 < 86 by decide) rfl rfl ?_
        rw [mh_p32]
        refine go_a (pc' := 65) (ls' := [some (.ref h.length), some (.int (iI o))]) (st' := []) rfl rfl ?_
        refine go_a (pc' := 66) (ls' := [some (.ref h.length), some (.int (iI o))]) (st' := [.ref h.length]) rfl rfl ?_
        refine go_a (pc' := 67) (ls' := [some (.ref h.length), some (.int (iI o))]) (st' := [.ref h.length, .ref h.length]) rfl rfl ?_
        refine go_get rfl mh_o rfl rfl ?_
        refine go_a (pc' := 71) (ls' := [some (.ref h.length), some (.int (iI o))]) (st' := [.ref h.length, .ref (h.length + 28), .ref h.length]) rfl rfl ?_
        refine go_get (v := .int (iI ((I 41) - 1))) rfl mh_o rfl rfl ?_
        refine mi_ild rfl mh_a28 (by omega) (by omega) (by decide) ?_
        refine go_put (j := 46) rfl mh_o rfl rfl (show 12 ≤ _ from hc) (show 46 < 86 by decide) rfl rfl ?_
        rw [mh_p46]
        refine go_a (pc' := 79) (ls' := [some (.ref h.length), some (.int (iI o))]) (st' := [.int (iI 0)]) rfl rfl ?_
        exact go_r rfl rfl rfl rfl rfl rfl (Or.inr (Or.inr ⟨rfl, by omega, Or.inl ⟨e6, rfl⟩⟩))
    · refine go_a (pc' := 19) (ls' := [some (.ref h.length), some (.int (iI o))]) (st' := [.int (iI 3)]) rfl rfl ?_
      exact go_r rfl rfl rfl rfl rfl rfl (Or.inr (Or.inl ⟨rfl, rfl, by omega⟩))
  · refine go_a (pc' := 10) (ls' := [some (.ref h.length), some (.int (iI o))]) (st' := [.int (iI 2)]) rfl rfl ?_
    exact go_r rfl rfl rfl rfl rfl rfl (Or.inl ⟨rfl, rfl⟩)

