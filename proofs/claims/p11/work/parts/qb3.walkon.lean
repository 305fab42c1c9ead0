theorem rt_LZ_le {I : Nat → Int} {A : Nat → Int → Int} {ar : Int → Int} (hP : PW I A) (n0 : A 1 0 < 0) : ∀ (j : Nat) (k : Int), 0 ≤ k → k < I 7 → 0 ≤ LZ A ar k → (j : Int) ≤ CZ A ar k → LZ A ar (rt A j k) ≤ LZ A ar k
  | 0, _, _, _, _, _ => Int.le_refl _
  | j + 1, k, h0, h1, hl, hj => by
    have r := rt_LZ (ar := ar) hP n0 1 k h0 h1 hl (by omega)
    have q := hP.2 k h0 h1
    have k0 : k ≠ 0 := by
      intro e
      rw [e, (LZ_0 n0).2] at hj
      omega
    have pr : 0 ≤ A 1 k := by
      by_cases c : A 1 k < 0
      · rw [LZ_atom c k0] at hl
        omega
      · omega
    have q2 := q.2.2.2.2 pr
    have lp := LZ_pair (ar := ar) hP (by omega : 0 < k) h1 pr
    have cd : 1 ≤ TZ A ar (A 1 k) ∧ 0 ≤ LZ A ar (A 2 k) := by
      by_cases c : 1 ≤ TZ A ar (A 1 k) ∧ 0 ≤ LZ A ar (A 2 k)
      · exact c
      · rw [if_neg c] at lp
        omega
    rw [if_pos cd] at lp
    have s := rt_LZ_le (ar := ar) hP n0 j (A 2 k) (by omega) (by omega) cd.2 (by omega)
    show LZ A ar (rt A j (A 2 k)) ≤ _
    omega
theorem mm_walkOn_loop (z : Value) (d : Nat) (ar : Int → Int) (s n : Int) (h R : xx_H) (I : Nat → Int) (A : Nat → Int → Int) (N : Int → Int) (hc : 12 ≤ h.length) (hP : PW I A) (n0 : A 1 0 < 0) (hK : WK ar s I A) (h61 : 0 < I 61) (s1 : s ≤ 399) (cl : 0 ≤ A 1 (A 35 (I 61 - 1))) (cl2 : A 1 (A 35 (I 61 - 1)) ≠ 2) (hl : 0 ≤ LZ A ar (A 2 (A 35 (I 61 - 1)))) (ht : TZ A ar (A 35 (I 61 - 1)) = 1 + LZ A ar (A 2 (A 35 (I 61 - 1)))) : ∀ (q : Nat) (k : Int) (I1 : Nat → Int) (A1 : Nat → Int → Int), k = q → (q : Int) ≤ CZ A ar (A 2 (A 35 (I 61 - 1))) → WX I A I1 A1 → WK ar (s - TZ A ar (A 35 (I 61 - 1)) + LZ A ar (rt A q (A 2 (A 35 (I 61 - 1))))) I1 A1 → (∀ w : Int → Int, SG (NT A w) (A1 35) (I1 61).toNat = SG (NT A w) (A 35) (I 61 - 1).toNat + NL A w (rt A q (A 2 (A 35 (I 61 - 1))))) → xx_go (xt_P z) (d + 1) 120 43 [some (.ref h.length), some (.int (iI (A 35 (I 61 - 1)))), some (.int (iI n)), some (.int (iI k))] [] (mh h R I1 A1 N) (fun v h1 => v = some (.int (iI (A 35 (I 61 - 1)))) ∧ ∃ (I1 : Nat → Int) (A1 : Nat → Int → Int), h1 = mh h R I1 A1 N ∧ WX I A I1 A1 ∧ WK ar (s - 1) I1 A1 ∧ ∀ w : Int → Int, SG (NT A w) (A1 35) (I1 61).toNat = SG (NT A w) (A 35) (I 61).toNat - w (A 35 (I 61 - 1))) := by
  have p1 := hP.1
  have top := hK.2.1 (I 61 - 1) (by omega) (by omega)
  have qo := hP.2 (A 35 (I 61 - 1)) top.1.1 top.1.2
  have qs := qo.2.2.2.2 cl
  have il := LZ_isL (ar := ar) hP n0 _ (A 2 (A 35 (I 61 - 1))) (Nat.lt_succ_self _) qo.2.2.1 (by omega) hl
  have ll := isL_len hP _ _ (A 2 (A 35 (I 61 - 1))) (Nat.le_refl _) qo.2.2.1 (by omega) il.1
  intro q
  induction q with
  | zero =>
    intro k I1 A1 ek hq X W hG
    subst ek
    refine go_a (pc' := 44) (ls' := [some (.ref h.length), some (.int (iI (A 35 (I 61 - 1)))), some (.int (iI n)), some (.int (iI (((0 : Nat) : Int))))]) (st' := [.int (iI (((0 : Nat) : Int)))]) rfl rfl ?_
    refine go_a (pc' := 45) (ls' := [some (.ref h.length), some (.int (iI (A 35 (I 61 - 1)))), some (.int (iI n)), some (.int (iI (((0 : Nat) : Int))))]) (st' := [.int (iI 1), .int (iI (((0 : Nat) : Int)))]) rfl rfl ?_
    refine mi_lt (t := 64) rfl rfl (by omega) (by omega) (by omega) (by omega) (fun _ => ?_) (fun e => absurd (show ((0 : Nat) : Int) < 1 by decide) e)
    refine go_a (pc' := 65) (ls' := [some (.ref h.length), some (.int (iI (A 35 (I 61 - 1)))), some (.int (iI n)), some (.int (iI (((0 : Nat) : Int))))]) (st' := [.int (iI (A 35 (I 61 - 1)))]) rfl rfl ?_
    refine go_r rfl rfl rfl rfl rfl rfl ⟨rfl, I1, A1, rfl, X, ?_, fun w => ?_⟩
    rotate_left
    · rw [hG w, SG_pop (m := I 61) h61, NT_call (w := w) hP top.1.1 top.1.2 cl cl2]
      show _ + NL A w (A 2 (A 35 (I 61 - 1))) = _
      omega
    have e : rt A 0 (A 2 (A 35 (I 61 - 1))) = A 2 (A 35 (I 61 - 1)) := rfl
    rw [e] at W
    rw [show s - 1 = s - TZ A ar (A 35 (I 61 - 1)) + LZ A ar (A 2 (A 35 (I 61 - 1))) by omega]
    exact W
  | succ q ih =>
    intro k I1 A1 ek hq X W hG
    have tz := WX_tz (ar := ar) X
    have P1 := WX_PW hP X
    have e1 : A1 1 = A 1 := X.2 1 (by decide)
    have e2 : A1 2 = A 2 := X.2 2 (by decide)
    have e7 : I1 7 = I 7 := X.1 7 (by decide)
    have r := rt_LZ (ar := ar) hP n0 q (A 2 (A 35 (I 61 - 1))) qo.2.2.1 (by omega) hl (by omega)
    have r1 := rt_LZ (ar := ar) hP n0 (q + 1) (A 2 (A 35 (I 61 - 1))) qo.2.2.1 (by omega) hl hq
    have z0 : rt A q (A 2 (A 35 (I 61 - 1))) ≠ 0 := by
      intro e
      rw [e, (LZ_0 n0).2] at r
      omega
    have pr : 0 ≤ A 1 (rt A q (A 2 (A 35 (I 61 - 1)))) := by
      by_cases c : A 1 (rt A q (A 2 (A 35 (I 61 - 1)))) < 0
      · rw [LZ_atom c z0] at r
        omega
      · omega
    have qq := hP.2 _ r.1.1 r.1.2
    have lp := LZ_pair (ar := ar) hP (by omega : 0 < rt A q (A 2 (A 35 (I 61 - 1)))) r.1.2 pr
    have cd : 1 ≤ TZ A ar (A 1 (rt A q (A 2 (A 35 (I 61 - 1))))) ∧ 0 ≤ LZ A ar (A 2 (rt A q (A 2 (A 35 (I 61 - 1))))) := by
      by_cases c : 1 ≤ TZ A ar (A 1 (rt A q (A 2 (A 35 (I 61 - 1))))) ∧ 0 ≤ LZ A ar (A 2 (rt A q (A 2 (A 35 (I 61 - 1)))))
      · exact c
      · rw [if_neg c] at lp
        omega
    rw [if_pos cd, show A 2 (rt A q (A 2 (A 35 (I 61 - 1)))) = rt A (q + 1) (A 2 (A 35 (I 61 - 1))) from (rt_succ A q (A 2 (A 35 (I 61 - 1)))).symm] at lp
    have ge := SZ_ge (I1 61).toNat (fun e he => (W.2.1 e (by omega) (by omega)).2)
    have w0 := W.1
    have w2 := W.2.2
    have lz : LZ A ar (rt A (q + 1) (A 2 (A 35 (I 61 - 1)))) + TZ A ar (A 1 (rt A q (A 2 (A 35 (I 61 - 1))))) = LZ A ar (rt A q (A 2 (A 35 (I 61 - 1)))) := by omega
    have mono := rt_LZ_le (ar := ar) hP n0 q (A 2 (A 35 (I 61 - 1))) qo.2.2.1 (by omega) hl (by omega)
    have kb : k < 200000 := by omega
    refine go_a (pc' := 44) (ls' := [some (.ref h.length), some (.int (iI (A 35 (I 61 - 1)))), some (.int (iI n)), some (.int (iI k))]) (st' := [.int (iI k)]) rfl rfl ?_
    refine go_a (pc' := 45) (ls' := [some (.ref h.length), some (.int (iI (A 35 (I 61 - 1)))), some (.int (iI n)), some (.int (iI k))]) (st' := [.int (iI 1), .int (iI k)]) rfl rfl ?_
    refine mi_lt (t := 64) rfl rfl (by omega) (by omega) (by omega) (by omega) (fun e => absurd e (by omega)) (fun _ => ?_)
    refine go_a (pc' := 49) (ls' := [some (.ref h.length), some (.int (iI (A 35 (I 61 - 1)))), some (.int (iI n)), some (.int (iI k))]) (st' := [.ref h.length]) rfl rfl ?_
    refine go_a (pc' := 50) (ls' := [some (.ref h.length), some (.int (iI (A 35 (I 61 - 1)))), some (.int (iI n)), some (.int (iI k))]) (st' := [.ref h.length, .ref h.length]) rfl rfl ?_
    refine go_a (pc' := 51) (ls' := [some (.ref h.length), some (.int (iI (A 35 (I 61 - 1)))), some (.int (iI n)), some (.int (iI k))]) (st' := [.int (iI (A 35 (I 61 - 1))), .ref h.length, .ref h.length]) rfl rfl ?_
    refine go_a (pc' := 52) (ls' := [some (.ref h.length), some (.int (iI (A 35 (I 61 - 1)))), some (.int (iI n)), some (.int (iI k))]) (st' := [.int (iI k), .int (iI (A 35 (I 61 - 1))), .ref h.length, .ref h.length]) rfl rfl ?_
    subst ek
    refine go_v (m := 99) (as := [.ref h.length, .int (iI (A 35 (I 61 - 1))), .int (iI (((q + 1 : Nat) : Int)))]) (r := [.ref h.length]) rfl rfl rfl mh_o rfl rfl (mm_nth z d (q + 1) ((CZ A ar (A 2 (A 35 (I 61 - 1)))).toNat + 1) (A 35 (I 61 - 1)) h R I1 A1 N hc P1 (by omega) top.1.1 (by omega) (isL_12 e1 e2 _ _ ⟨cl, il.1⟩) (by omega)) (fun v h1 hq9 => ?_)
    obtain ⟨rfl, rfl⟩ := hq9
    rw [rt_12 e2, e1, show rt A (q + 1) (A 35 (I 61 - 1)) = rt A q (A 2 (A 35 (I 61 - 1))) from rfl]
    show xx_go (xt_P z) (d + 1) 120 55 [some (.ref h.length), some (.int (iI (A 35 (I 61 - 1)))), some (.int (iI n)), some (.int (iI (((q + 1 : Nat) : Int))))] [.int (iI (A 1 (rt A q (A 2 (A 35 (I 61 - 1)))))), .ref h.length] (mh h R I1 A1 N) _
    refine go_v (m := 119) (as := [.ref h.length, .int (iI (A 1 (rt A q (A 2 (A 35 (I 61 - 1))))))]) (r := []) rfl rfl rfl mh_o rfl rfl (mm_walkTo z d (A 1 (rt A q (A 2 (A 35 (I 61 - 1))))) h R I1 A1 N hc w0 (by omega)) (fun v h1 hq9 => ?_)
    obtain ⟨rfl, rfl⟩ := hq9
    show xx_go (xt_P z) (d + 1) 120 58 [some (.ref h.length), some (.int (iI (A 35 (I 61 - 1)))), some (.int (iI n)), some (.int (iI (((q + 1 : Nat) : Int))))] [] (mh h R (su I1 61 (I1 61 + 1)) (sa A1 35 (I1 61) (A 1 (rt A q (A 2 (A 35 (I 61 - 1)))))) N) _
    refine go_a (pc' := 61) (ls' := [some (.ref h.length), some (.int (iI (A 35 (I 61 - 1)))), some (.int (iI n)), some (.int (iI ((((q + 1 : Nat) : Int)) + (-1))))]) (st' := []) rfl (by rw [← iI_add (((q + 1 : Nat) : Int)) (-1)]; rfl) ?_
    refine go_a (pc' := 43) (ls' := [some (.ref h.length), some (.int (iI (A 35 (I 61 - 1)))), some (.int (iI n)), some (.int (iI ((((q + 1 : Nat) : Int)) + (-1))))]) (st' := []) rfl rfl ?_
    have W2 := WK_push W pr (show A 1 (rt A q (A 2 (A 35 (I 61 - 1)))) < I1 7 by omega) (by rw [tz.1]; exact cd.1)
    rw [tz.1] at W2
    refine ih _ _ _ (by omega) (by omega) (WX_tr X ⟨fun j p => su_ne p, fun a p => sa_ne p⟩) ?_ (fun w => ?_)
    rotate_left
    · show SG (NT A w) (sf (A1 35) (I1 61) (A 1 (rt A q (A 2 (A 35 (I 61 - 1)))))) (I1 61 + 1).toNat = _
      rw [SG_push w0, hG w, NL_pair (w := w) hP (by omega : 0 < rt A q (A 2 (A 35 (I 61 - 1)))) r.1.2 pr, show A 2 (rt A q (A 2 (A 35 (I 61 - 1)))) = rt A (q + 1) (A 2 (A 35 (I 61 - 1))) from (rt_succ A q (A 2 (A 35 (I 61 - 1)))).symm]
      omega
    rw [show s - TZ A ar (A 35 (I 61 - 1)) + LZ A ar (rt A q (A 2 (A 35 (I 61 - 1)))) = s - TZ A ar (A 35 (I 61 - 1)) + LZ A ar (rt A (q + 1) (A 2 (A 35 (I 61 - 1)))) + TZ A ar (A 1 (rt A q (A 2 (A 35 (I 61 - 1))))) by omega]
    exact W2
theorem mm_walkOn (z : Value) (d : Nat) (ar : Int → Int) (s : Int) (h R : xx_H) (I : Nat → Int) (A : Nat → Int → Int) (N : Int → Int) (hc : 12 ≤ h.length) (hP : PW I A) (n0 : A 1 0 < 0) (hK : WK ar s I A) (h61 : 0 < I 61) (s1 : s ≤ 399) : xx_cl (xt_P z) (d + 3) 120 [.ref h.length] (mh h R I A N) (fun v h1 => v = some (.int (iI (A 35 (I 61 - 1)))) ∧ ∃ (I1 : Nat → Int) (A1 : Nat → Int → Int), h1 = mh h R I1 A1 N ∧ WX I A I1 A1 ∧ WK ar (s - 1) I1 A1 ∧ ∀ w : Int → Int, SG (NT A w) (A1 35) (I1 61).toNat = SG (NT A w) (A 35) (I 61).toNat - w (A 35 (I 61 - 1))) := by
  have p1 := hP.1
  have top := hK.2.1 (I 61 - 1) (by omega) (by omega)
  have qo := hP.2 (A 35 (I 61 - 1)) top.1.1 top.1.2
  have ge := SZ_ge (I 61).toNat (fun e he => (hK.2.1 e (by omega) (by omega)).2)
  have k2 := hK.2.2
  have WP := WK_pop hK h61
  have XP : WX I A (su I 61 (I 61 - 1)) A := ⟨fun j p => su_ne p, fun _ _ => rfl⟩
  refine cl_go rfl ?_
  show xx_go (xt_P z) (d + 2) 120 0 [some (.ref h.length), none, none, none] [] (mh h R I A N) _
  refine go_a (pc' := 1) (ls' := [some (.ref h.length), none, none, none]) (st' := [.ref h.length]) rfl rfl ?_
  refine go_a (pc' := 2) (ls' := [some (.ref h.length), none, none, none]) (st' := [.ref h.length, .ref h.length]) rfl rfl ?_
  refine go_get (v := .int (iI (I 61))) rfl mh_o rfl rfl ?_
  refine go_a (pc' := 6) (ls' := [some (.ref h.length), none, none, none]) (st' := [.int (iI 1), .int (iI (I 61)), .ref h.length]) rfl rfl ?_
  refine mi_sub rfl ?_
  refine go_put (j := 61) rfl mh_o rfl rfl (show 12 ≤ _ from hc) (show 61 < 86 by decide) rfl rfl ?_
  rw [mh_p61]
  refine go_a (pc' := 11) (ls' := [some (.ref h.length), none, none, none]) (st' := [.ref h.length]) rfl rfl ?_
  refine go_get rfl mh_o rfl rfl ?_
  refine go_a (pc' := 15) (ls' := [some (.ref h.length), none, none, none]) (st' := [.ref h.length, .ref (h.length + 35)]) rfl rfl ?_
  refine go_get (v := .int (iI ((I 61) - 1))) rfl mh_o rfl rfl ?_
  refine mi_ild rfl mh_a35 (by omega) (by omega) (by decide) ?_
  refine go_a (pc' := 20) (ls' := [some (.ref h.length), some (.int (iI (A 35 ((I 61) - 1)))), none, none]) (st' := []) rfl rfl ?_
  refine go_a (pc' := 21) (ls' := [some (.ref h.length), some (.int (iI (A 35 ((I 61) - 1)))), none, none]) (st' := [.ref h.length]) rfl rfl ?_
  refine go_a (pc' := 22) (ls' := [some (.ref h.length), some (.int (iI (A 35 ((I 61) - 1)))), none, none]) (st' := [.int (iI (A 35 ((I 61) - 1))), .ref h.length]) rfl rfl ?_
  refine go_v (m := 116) (as := [.ref h.length, .int (iI (A 35 ((I 61) - 1)))]) (r := []) rfl rfl rfl mh_o rfl rfl (mb_isCall z d (A 35 (I 61 - 1)) h R (su I 61 (I 61 - 1)) A N hc hP top.1.1 top.1.2) (fun v h1 hq => ?_)
  obtain ⟨⟨b, rfl, hb⟩, rfl⟩ := hq
  show xx_go (xt_P z) (d + 2) 120 25 [some (.ref h.length), some (.int (iI (A 35 ((I 61) - 1)))), none, none] [.int (iI b)] (mh h R (su I 61 ((I 61) - 1)) A N) _
  refine mi_ne0 (t := 30) rfl rfl (by omega) (by omega) (fun e => ?_) (fun e => ?_)
  · have cl : 0 ≤ A 1 (A 35 (I 61 - 1)) ∧ A 1 (A 35 (I 61 - 1)) ≠ 2 := by omega
    have qs := qo.2.2.2.2 cl.1
    have tc := TZ_call (ar := ar) hP top.1.1 top.1.2 cl.1 cl.2
    have td : 0 ≤ LZ A ar (A 2 (A 35 (I 61 - 1))) ∧ CZ A ar (A 2 (A 35 (I 61 - 1))) = ar (A 1 (A 35 (I 61 - 1))) ∧ A 4 (A 35 (I 61 - 1)) ≠ 0 := by
      by_cases c : 0 ≤ LZ A ar (A 2 (A 35 (I 61 - 1))) ∧ CZ A ar (A 2 (A 35 (I 61 - 1))) = ar (A 1 (A 35 (I 61 - 1))) ∧ A 4 (A 35 (I 61 - 1)) ≠ 0
      · exact c
      · rw [if_neg c] at tc
        have := top.2
        omega
    rw [if_pos td] at tc
    have il := LZ_isL (ar := ar) hP n0 _ (A 2 (A 35 (I 61 - 1))) (Nat.lt_succ_self _) qo.2.2.1 (by omega) td.1
    have c0 := CZ_nn (ar := ar) hP _ (A 2 (A 35 (I 61 - 1))) (Nat.lt_succ_self _) qo.2.2.1 (by omega)
    refine go_a (pc' := 31) (ls' := [some (.ref h.length), some (.int (iI (A 35 ((I 61) - 1)))), none, none]) (st' := [.ref h.length]) rfl rfl ?_
    refine go_a (pc' := 32) (ls' := [some (.ref h.length), some (.int (iI (A 35 ((I 61) - 1)))), none, none]) (st' := [.ref h.length, .ref h.length]) rfl rfl ?_
    refine go_get rfl mh_o rfl rfl ?_
    refine go_a (pc' := 36) (ls' := [some (.ref h.length), some (.int (iI (A 35 ((I 61) - 1)))), none, none]) (st' := [.int (iI (A 35 ((I 61) - 1))), .ref (h.length + 2), .ref h.length]) rfl rfl ?_
    refine mi_ild rfl mh_a2 (by omega) (by omega) (by decide) ?_
    refine go_v (m := 98) (as := [.ref h.length, .int (iI (A 2 (A 35 ((I 61) - 1))))]) (r := []) rfl rfl rfl mh_o rfl rfl (mm_lenL z d (CZ A ar (A 2 (A 35 (I 61 - 1)))).toNat (A 2 (A 35 (I 61 - 1))) h R (su I 61 (I 61 - 1)) A N hc hP n0 qo.2.2.1 (show A 2 (A 35 (I 61 - 1)) < I 7 by omega) il.1) (fun v h1 hq => ?_)
    obtain ⟨rfl, rfl⟩ := hq
    show xx_go (xt_P z) (d + 2) 120 40 [some (.ref h.length), some (.int (iI (A 35 ((I 61) - 1)))), none, none] [.int (iI (((CZ A ar (A 2 (A 35 (I 61 - 1)))).toNat : Int)))] (mh h R (su I 61 ((I 61) - 1)) A N) _
    refine go_a (pc' := 41) (ls' := [some (.ref h.length), some (.int (iI (A 35 ((I 61) - 1)))), some (.int (iI (((CZ A ar (A 2 (A 35 (I 61 - 1)))).toNat : Int)))), none]) (st' := []) rfl rfl ?_
    refine go_a (pc' := 42) (ls' := [some (.ref h.length), some (.int (iI (A 35 ((I 61) - 1)))), some (.int (iI (((CZ A ar (A 2 (A 35 (I 61 - 1)))).toNat : Int)))), none]) (st' := [.int (iI (((CZ A ar (A 2 (A 35 (I 61 - 1)))).toNat : Int)))]) rfl rfl ?_
    refine go_a (pc' := 43) (ls' := [some (.ref h.length), some (.int (iI (A 35 ((I 61) - 1)))), some (.int (iI (((CZ A ar (A 2 (A 35 (I 61 - 1)))).toNat : Int)))), some (.int (iI (((CZ A ar (A 2 (A 35 (I 61 - 1)))).toNat : Int))))]) (st' := []) rfl rfl ?_
    refine mm_walkOn_loop z (d + 1) ar s _ h R I A N hc hP n0 hK h61 s1 cl.1 cl.2 td.1 tc (CZ A ar (A 2 (A 35 (I 61 - 1)))).toNat _ _ A rfl (by omega) XP ?_ (fun w => ?_)
    · rw [isL_end _ _ il.1, (LZ_0 n0).1, Int.add_zero]
      exact WP
    · rw [isL_end _ _ il.1, NL_0, Int.add_zero]
      rfl
  · refine go_a (pc' := 29) (ls' := [some (.ref h.length), some (.int (iI (A 35 ((I 61) - 1)))), none, none]) (st' := [.int (iI (A 35 ((I 61) - 1)))]) rfl rfl ?_
    refine go_r rfl rfl rfl rfl rfl rfl ⟨rfl, _, _, rfl, XP, ⟨WP.1, WP.2.1, ?_⟩, fun w => ?_⟩
    · have w := WP.2.2
      have := top.2
      omega
    · show SG (NT A w) (A 35) (I 61 - 1).toNat = _
      rw [SG_pop (m := I 61) h61, NT_leaf (w := w) hP top.1.1 top.1.2 (by omega)]
      omega

