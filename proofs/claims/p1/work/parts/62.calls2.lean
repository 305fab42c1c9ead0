/-! end and run of the class on a new object -/
theorem xm_shr2 : ∀ j : Nat, j < 20 → (nI j) >>> ((2 : Int32) &&& 31) = nI (j / 4) := by decide
/-- what end(n) goes on with: the object, its row of text with j in it, its waiting ints -/
def xe_I (hp hj : xx_H) (c j : Nat) (fs : List Value) : Prop := xs_F hp hj c 32 ∧ hj[c]? = some (.inr (9, fs)) ∧ hj[c + 1]? = some (.inr (0, [.ref (c + 2), .int (nI j)])) ∧ (∃ A : List Value, A.length = 256 ∧ hj[c + 2]? = some (.inl (.int, A))) ∧ ∃ W : List Value, W.length = 5 ∧ xs_i W ∧ hj[c + 3]? = some (.inl (.int, W))
theorem xm_end_loop (z : Value) (d c m : Nat) (fs : List Value) (hp : xx_H) (hc : 11 ≤ c) (hm : m ≤ 20) (f0 : fs[0]? = some (.ref (c + 1))) (f1 : fs[1]? = some (.ref (c + 3))) : ∀ (n j : Nat) (hj : xx_H), j + n = m → xe_I hp hj c j fs → xx_go (xt_P z) (d + 1) 33 29 [some (.ref c), some (.int (nI m)), some (.int (nI j))] [] hj (fun v h1 => xs_F hp h1 c 32 ∧ v = some (.int (nI m))) := by
  intro n
  induction n with
  | zero =>
    intro j hj e hI
    have e : j = m := by omega
    subst e
    obtain ⟨F, x0, x1, ⟨A, lA, x2⟩, W, lW, iW, x3⟩ := hI
    refine go_a (pc' := 30) (ls' := [some (.ref c), some (.int (nI j)), some (.int (nI j))]) (st' := [(.int (nI j))]) rfl rfl ?_
    refine go_a (pc' := 31) (ls' := [some (.ref c), some (.int (nI j)), some (.int (nI j))]) (st' := [(.int (nI j)), (.int (nI j))]) rfl rfl ?_
    refine go_if (t := 69) (off := 38) (r := []) rfl rfl rfl (fun _ => ?_) (fun hf => absurd (nI_le (Nat.le_refl _) (by omega)) (of_decide_eq_false hf))
    refine go_a (pc' := 70) (ls' := [some (.ref c), some (.int (nI j)), some (.int (nI j))]) (st' := [(.ref c)]) rfl rfl ?_
    refine go_a (pc' := 71) (ls' := [some (.ref c), some (.int (nI j)), some (.int (nI j))]) (st' := [(.int 0), (.ref c)]) rfl rfl ?_
    refine go_a (pc' := 72) (ls' := [some (.ref c), some (.int (nI j)), some (.int (nI j))]) (st' := [(.int 0), (.int 0), (.ref c)]) rfl rfl ?_
    refine go_a (pc' := 73) (ls' := [some (.ref c), some (.int (nI j)), some (.int (nI j))]) (st' := [(.int 0), (.int 0), (.int 0), (.ref c)]) rfl rfl ?_
    refine go_a (pc' := 74) (ls' := [some (.ref c), some (.int (nI j)), some (.int (nI j))]) (st' := [(.int 0), (.int 0), (.int 0), (.int 0), (.ref c)]) rfl rfl ?_
    refine go_a (pc' := 75) (ls' := [some (.ref c), some (.int (nI j)), some (.int (nI j))]) (st' := [(.int 0), (.int 0), (.int 0), (.int 0), (.int 0), (.ref c)]) rfl rfl ?_
    refine go_v (m := 32) (as := [.ref c, .int 0, .int 0, .int 0, .int 0, .int 0]) (r := []) rfl rfl rfl x0 rfl rfl (xm_feed z d c (c + 3) 0 0 0 0 0 fs W hj x0 f1 x3 lW (by omega) (by omega)) (fun w h5 hq => ?_)
    obtain ⟨rfl, rfl⟩ := hq
    show xx_go (xt_P z) (d + 1) 33 78 [some (.ref c), some (.int (nI j)), some (.int (nI j))] [] (hj.set (c + 3) (.inl (.int, ((((W.set 0 (.int 0)).set 1 (.int 0)).set 2 (.int 0)).set 3 (.int 0)).set 4 (.int 0)))) _
    refine go_a (pc' := 79) (ls' := [some (.ref c), some (.int (nI j)), some (.int (nI j))]) (st' := [(.ref c)]) rfl rfl ?_
    refine go_get rfl ((xs_ne (by omega)).trans x0) rfl f0 ?_
    refine go_v (m := 34) (as := [.ref (c + 1)]) (r := []) rfl rfl rfl ((xs_ne (by omega)).trans x1) rfl rfl (xm_rowlen z d (c + 1) (nI j) _ _ ((xs_ne (by omega)).trans x1)) (fun w h5 hq => ?_)
    obtain ⟨rfl, rfl⟩ := hq
    exact go_r rfl rfl rfl rfl rfl rfl ⟨xs_F_tr F (xs_F_set x3 (by simp only [xx_sz1, List.length_set]) (by omega) (by omega)), rfl⟩
  | succ n ih =>
    intro j hj e hI
    obtain ⟨F, x0, x1, ⟨A, lA, x2⟩, W, lW, iW, x3⟩ := hI
    obtain ⟨y, hy⟩ := iW (j / 4) (by omega)
    refine go_a (pc' := 30) (ls' := [some (.ref c), some (.int (nI m)), some (.int (nI j))]) (st' := [(.int (nI j))]) rfl rfl ?_
    refine go_a (pc' := 31) (ls' := [some (.ref c), some (.int (nI m)), some (.int (nI j))]) (st' := [(.int (nI m)), (.int (nI j))]) rfl rfl ?_
    refine go_if (t := 69) (off := 38) (r := []) rfl rfl rfl (fun hf => absurd (of_decide_eq_true hf) (nI_ge (by omega) (by omega))) (fun _ => ?_)
    refine go_a (pc' := 35) (ls' := [some (.ref c), some (.int (nI m)), some (.int (nI j))]) (st' := [(.ref c)]) rfl rfl ?_
    refine go_get rfl x0 rfl f0 ?_
    refine go_a (pc' := 39) (ls' := [some (.ref c), some (.int (nI m)), some (.int (nI j))]) (st' := [(.ref c), (.ref (c + 1))]) rfl rfl ?_
    refine go_get rfl x0 rfl f1 ?_
    refine go_a (pc' := 43) (ls' := [some (.ref c), some (.int (nI m)), some (.int (nI j))]) (st' := [(.int (nI j)), (.ref (c + 3)), (.ref (c + 1))]) rfl rfl ?_
    refine go_a (pc' := 44) (ls' := [some (.ref c), some (.int (nI m)), some (.int (nI j))]) (st' := [(.int 2), (.int (nI j)), (.ref (c + 3)), (.ref (c + 1))]) rfl rfl ?_
    refine go_a (pc' := 45) (ls' := [some (.ref c), some (.int (nI m)), some (.int (nI j))]) (st' := [(.int (nI (j / 4))), (.ref (c + 3)), (.ref (c + 1))]) rfl (by rw [← xm_shr2 j (by omega)]; rfl) ?_
    refine go_ild (m := (j / 4)) rfl x3 (nI_pos (by omega)) (nI_clamp (by omega)) hy ?_
    refine go_a (pc' := 48) (ls' := [some (.ref c), some (.int (nI m)), some (.int (nI j))]) (st' := [(.int 24), (.int y), (.ref (c + 1))]) rfl rfl ?_
    refine go_a (pc' := 50) (ls' := [some (.ref c), some (.int (nI m)), some (.int (nI j))]) (st' := [(.int 8), (.int 24), (.int y), (.ref (c + 1))]) rfl rfl ?_
    refine go_a (pc' := 51) (ls' := [some (.ref c), some (.int (nI m)), some (.int (nI j))]) (st' := [(.int (nI j)), (.int 8), (.int 24), (.int y), (.ref (c + 1))]) rfl rfl ?_
    refine go_a (pc' := 52) (ls' := [some (.ref c), some (.int (nI m)), some (.int (nI j))]) (st' := [(.int 3), (.int (nI j)), (.int 8), (.int 24), (.int y), (.ref (c + 1))]) rfl rfl ?_
    refine go_a (pc' := 53) (ls' := [some (.ref c), some (.int (nI m)), some (.int (nI j))]) (st' := [(.int (nI j &&& 3)), (.int 8), (.int 24), (.int y), (.ref (c + 1))]) rfl rfl ?_
    refine go_a (pc' := 54) (ls' := [some (.ref c), some (.int (nI m)), some (.int (nI j))]) (st' := [(.int (8 * (nI j &&& 3))), (.int 24), (.int y), (.ref (c + 1))]) rfl rfl ?_
    refine go_a (pc' := 55) (ls' := [some (.ref c), some (.int (nI m)), some (.int (nI j))]) (st' := [(.int (24 - 8 * (nI j &&& 3))), (.int y), (.ref (c + 1))]) rfl rfl ?_
    refine go_a (pc' := 56) (ls' := [some (.ref c), some (.int (nI m)), some (.int (nI j))]) (st' := [(.int (y.toUInt32 >>> ((24 - 8 * (nI j &&& 3)).toUInt32 &&& Int32.toUInt32 31)).toInt32), (.ref (c + 1))]) rfl rfl ?_
    refine go_a (pc' := 59) (ls' := [some (.ref c), some (.int (nI m)), some (.int (nI j))]) (st' := [(.int 255), (.int (y.toUInt32 >>> ((24 - 8 * (nI j &&& 3)).toUInt32 &&& Int32.toUInt32 31)).toInt32), (.ref (c + 1))]) rfl rfl ?_
    refine go_a (pc' := 60) (ls' := [some (.ref c), some (.int (nI m)), some (.int (nI j))]) (st' := [(.int ((y.toUInt32 >>> ((24 - 8 * (nI j &&& 3)).toUInt32 &&& Int32.toUInt32 31)).toInt32 &&& 255)), (.ref (c + 1))]) rfl rfl ?_
    refine go_v (m := 35) (as := [.ref (c + 1), .int ((y.toUInt32 >>> ((24 - 8 * (nI j &&& 3)).toUInt32 &&& Int32.toUInt32 31)).toInt32 &&& 255)]) (r := []) rfl rfl rfl x1 rfl rfl (xm_radd z d (c + 1) (c + 2) j A _ hj x1 x2 (by omega) (by omega) (by omega) (by omega) (by omega)) (fun w h5 hq => ?_)
    obtain ⟨rfl, rfl⟩ := hq
    show xx_go (xt_P z) (d + 1) 33 63 [some (.ref c), some (.int (nI m)), some (.int (nI j))] [] ((hj.set (c + 2) (.inl (.int, A.set j (.int ((y.toUInt32 >>> ((24 - 8 * (nI j &&& 3)).toUInt32 &&& Int32.toUInt32 31)).toInt32 &&& 255))))).set (c + 1) (.inr (0, [.ref (c + 2), .int (nI (j + 1))]))) _
    refine go_a (pc' := 66) (ls' := [some (.ref c), some (.int (nI m)), some (.int (nI (j + 1)))]) (st' := []) rfl (by rw [← nI_1 j]; rfl) ?_
    refine go_a (pc' := 29) rfl rfl (ih (j + 1) _ (by omega) ⟨xs_F_tr F (xs_F_tr (xs_F_set x2 (by simp only [xx_sz1, List.length_set]) (by omega) (by omega)) (xs_F_set ((xs_ne (by omega)).trans x1) rfl (by omega) (by omega))), ?_, ?_, ⟨A.set j (.int ((y.toUInt32 >>> ((24 - 8 * (nI j &&& 3)).toUInt32 &&& Int32.toUInt32 31)).toInt32 &&& 255)), by rw [List.length_set]; exact lA, ?_⟩, W, lW, iW, ?_⟩)
    · rw [xs_ne (by omega), xs_ne (by omega)]; exact x0
    · exact xs_self ((xs_ne (by omega)).trans x1)
    · rw [xs_ne (by omega)]; exact xs_self x2
    · rw [xs_ne (by omega), xs_ne (by omega)]; exact x3
theorem xm_end (z : Value) (d c : Nat) (n : Int32) (fs : List Value) (hp : xx_H) (hc : 11 ≤ c) (f0 : fs[0]? = some (.ref (c + 1))) (f1 : fs[1]? = some (.ref (c + 3))) (hI : xe_I hp hp c 0 fs) : xx_cl (xt_P z) (d + 2) 33 [.ref c, .int n] hp (fun v h1 => xs_F hp h1 c 32 ∧ ((n < 0 ∨ 20 < n) ∧ v = some (.int (-1)) ∨ ¬ (n < 0 ∨ 20 < n) ∧ v = some (.int n))) := by
  have last : (n < 0 ∨ 20 < n) → xx_go (xt_P z) (d + 1) 33 25 [some (.ref c), some (.int n), none] [] hp (fun v h1 => xs_F hp h1 c 32 ∧ ((n < 0 ∨ 20 < n) ∧ v = some (.int (-1)) ∨ ¬ (n < 0 ∨ 20 < n) ∧ v = some (.int n))) := by
    intro hn
    refine go_a (pc' := 26) (ls' := [some (.ref c), some (.int n), none]) (st' := [(.int (-1))]) rfl rfl ?_
    exact go_r rfl rfl rfl rfl rfl rfl ⟨xs_F_rf, Or.inl ⟨hn, rfl⟩⟩
  obtain ⟨F, x0, x1, x2, x3⟩ := id hI
  refine cl_go rfl ?_
  show xx_go (xt_P z) (d + 1) 33 0 [some (.ref c), some (.int n), none] [] (hp) _
  refine go_a (pc' := 1) (ls' := [some (.ref c), some (.int n), none]) (st' := [(.int n)]) rfl rfl ?_
  refine go_if (t := 25) (off := 24) (r := []) rfl rfl rfl (fun hb => last (Or.inl (of_decide_eq_true hb))) (fun n1 => ?_)
  refine go_a (pc' := 5) (ls' := [some (.ref c), some (.int n), none]) (st' := [(.int n)]) rfl rfl ?_
  refine go_a (pc' := 7) (ls' := [some (.ref c), some (.int n), none]) (st' := [(.int 20), (.int n)]) rfl rfl ?_
  refine go_if (t := 25) (off := 18) (r := []) rfl rfl rfl (fun hb => last (Or.inr (of_decide_eq_true hb))) (fun n2 => ?_)
  replace n1 : ¬ n < 0 := of_decide_eq_false n1
  replace n2 : ¬ (20 : Int32) < n := of_decide_eq_false n2
  obtain ⟨m, hm, rfl⟩ := nI_of2 (M := 20) (n := 20) rfl n1 (Int32.not_lt.mp n2)
  refine go_a (pc' := 11) (ls' := [some (.ref c), some (.int (nI m)), none]) (st' := [(.ref c)]) rfl rfl ?_
  refine go_get rfl x0 rfl f0 ?_
  refine go_v (m := 34) (as := [.ref (c + 1)]) (r := []) rfl rfl rfl x1 rfl rfl (xm_rowlen z d (c + 1) (nI 0) _ hp x1) (fun w h5 hq => ?_)
  obtain ⟨rfl, hq⟩ := hq
  rw [hq]
  show xx_go (xt_P z) (d + 1) 33 17 [some (.ref c), some (.int (nI m)), none] [(.int (nI 0))] (hp) _
  refine go_a (pc' := 18) (ls' := [some (.ref c), some (.int (nI m)), none]) (st' := [(.int (nI m)), (.int (nI 0))]) rfl rfl ?_
  refine go_a (pc' := 19) (ls' := [some (.ref c), some (.int (nI m)), none]) (st' := [(.int (nI m))]) rfl (by show some (_, _, [Value.int (nI 0 + nI m)]) = _; rw [nI_add, Nat.zero_add]) ?_
  refine go_a (pc' := 22) (ls' := [some (.ref c), some (.int (nI m)), none]) (st' := [.int (nI 3000), (.int (nI m))]) rfl rfl ?_
  refine go_if (t := 27) (off := 5) (r := []) rfl rfl rfl (fun _ => ?_) (fun hf => absurd (nI_le (a := m) (b := 3000) (by omega) (by omega)) (of_decide_eq_false hf))
  refine go_a (pc' := 28) (ls' := [some (.ref c), some (.int (nI m)), none]) (st' := [(.int 0)]) rfl rfl ?_
  refine go_a (pc' := 29) (ls' := [some (.ref c), some (.int (nI m)), some (.int (nI 0))]) (st' := []) rfl rfl ?_
  refine go_w (fun v h1 hq => ⟨hq.1, Or.inr ⟨fun hn => ?_, hq.2⟩⟩) (xm_end_loop z d c m fs hp hc hm f0 f1 m 0 hp (by omega) hI)
  rcases hn with hn | hn
  · exact n1 hn
  · exact n2 hn
def xm_kt1 (c u : Nat) (K G N S : List Value) : xx_H := [.inr (0, [.ref (c + 2), .int 0]), .inl (.int, List.replicate 256 (.int 0)), .inl (.int, List.replicate 5 (.int 0)), .inr (1, [.ref (c + 5), .ref (c + 6), .ref (c + 7), .ref (c + 8), .int (nI u)]), .inl (.long, K), .inl (.int, G), .inl (.int, N), .inl (.int, S), .inr (2, [.ref (c + 4), .ref (c + 10), .ref (c + 12), .ref (c + 14), .int 0, .int 0, .int 0, .int 0, .int (-1)]), .inr (0, [.ref (c + 11), .int (nI 1)]), .inl (.int, (List.replicate 41 (.int 0)).set 0 (.int 0)), .inr (0, [.ref (c + 13), .int (nI 1)]), .inl (.int, (List.replicate 41 (.int 0)).set 0 (.int 0)), .inr (0, [.ref (c + 15), .int 0]), .inl (.int, List.replicate 64 (.int 0)), .inr (3, [.ref (c + 4), .ref (c + 17), .ref (c + 19)]), .inr (0, [.ref (c + 18), .int 0]), .inl (.int, List.replicate 256 (.int 0)), .inr (0, [.ref (c + 20), .int 0]), .inl (.int, List.replicate 64 (.int 0)), .inr (5, [.ref (c + 22), .ref (c + 23), .ref (c + 24)]), .inr (4, [.ref 10, .int 0, .int 0]), .inr (4, [.ref 10, .int 0, .int 0]), .inr (4, [.ref 10, .int 0, .int 0]), .inr (6, [.ref (c + 4), .ref (c + 21), .ref (c + 26), .ref (c + 28), .int (-1), .int (-1)]), .inr (0, [.ref (c + 27), .int 0]), .inl (.int, List.replicate 241 (.int 0)), .inr (0, [.ref (c + 29), .int 0]), .inl (.int, List.replicate 120 (.int 0)), .inr (8, [.ref (c + 4), .ref (c + 21), .ref (c + 25), .ref (c + 31), .int 0, .int 0, .int 0, .int 0]), .inr (7, [.ref (c + 25)])]
def xm_kt2 (c u : Nat) (K G N S : List Value) : xx_H := [.inr (0, [.ref (c + 2), .int 0]), .inl (.int, List.replicate 256 (.int 0)), .inl (.int, List.replicate 5 (.int 0)), .inr (1, [.ref (c + 5), .ref (c + 6), .ref (c + 7), .ref (c + 8), .int (nI u)]), .inl (.long, K), .inl (.int, G), .inl (.int, N), .inl (.int, S), .inr (2, [.ref (c + 4), .ref (c + 10), .ref (c + 12), .ref (c + 14), .int 0, .int 0, .int 0, .int 3, .int 0]), .inr (0, [.ref (c + 11), .int (nI 1)]), .inl (.int, (List.replicate 41 (.int 0)).set 0 (.int 0)), .inr (0, [.ref (c + 13), .int (nI 1)]), .inl (.int, (List.replicate 41 (.int 0)).set 0 (.int 0)), .inr (0, [.ref (c + 15), .int 0]), .inl (.int, List.replicate 64 (.int 0)), .inr (3, [.ref (c + 4), .ref (c + 17), .ref (c + 19)]), .inr (0, [.ref (c + 18), .int 0]), .inl (.int, List.replicate 256 (.int 0)), .inr (0, [.ref (c + 20), .int 0]), .inl (.int, List.replicate 64 (.int 0)), .inr (5, [.ref (c + 22), .ref (c + 23), .ref (c + 24)]), .inr (4, [.ref 10, .int 0, .int 0]), .inr (4, [.ref 10, .int 0, .int 0]), .inr (4, [.ref 10, .int 0, .int 0]), .inr (6, [.ref (c + 4), .ref (c + 21), .ref (c + 26), .ref (c + 28), .int (-1), .int (-1)]), .inr (0, [.ref (c + 27), .int 0]), .inl (.int, List.replicate 241 (.int 0)), .inr (0, [.ref (c + 29), .int 0]), .inl (.int, List.replicate 120 (.int 0)), .inr (8, [.ref (c + 4), .ref (c + 21), .ref (c + 25), .ref (c + 31), .int 0, .int 0, .int 0, .int 0]), .inr (7, [.ref (c + 25)])]
theorem xm_begin (z : Value) (d : Nat) (h : xx_H) (u : Nat) (X : xx_E) (K G N S : List Value) (R : xx_H) (hc : 11 ≤ h.length) : xx_cl (xt_P z) (d + 2) 41 [.ref (h.length + 9)] (h ++ (X :: (xm_kt h.length u K G N S ++ R))) (fun v h1 => v = none ∧ h1 = h ++ (X :: (xm_kt1 h.length u K G N S ++ R))) := by
  refine cl_go rfl ?_
  show xx_go (xt_P z) (d + 1) 41 0 [some (.ref (h.length + 9))] [] (h ++ (X :: (xm_kt h.length u K G N S ++ R))) _
  refine go_a (pc' := 1) (ls' := [some (.ref (h.length + 9))]) (st' := [(.ref (h.length + 9))]) rfl rfl ?_
  refine go_get rfl (xq_get 9) rfl rfl ?_
  refine go_a (pc' := 5) (ls' := [some (.ref (h.length + 9))]) (st' := [(.int 0), (.ref (h.length + 10))]) rfl rfl ?_
  refine go_v (m := 39) (as := [.ref (h.length + 10), .int 0]) (r := []) rfl rfl rfl (xq_get 10) rfl rfl (xm_rcut0 z d (h.length + 10) _ _ (xq_get 10)) (fun w h5 hq => ?_)
  obtain ⟨rfl, rfl⟩ := hq
  refine go_a (pc' := 9) (ls' := [some (.ref (h.length + 9))]) (st' := [(.ref (h.length + 9))]) rfl rfl ?_
  refine go_get rfl (xq_get 9) rfl rfl ?_
  refine go_a (pc' := 13) (ls' := [some (.ref (h.length + 9))]) (st' := [(.int 0), (.ref (h.length + 10))]) rfl rfl ?_
  refine go_v (m := 35) (as := [.ref (h.length + 10), .int 0]) (r := []) rfl rfl rfl (xq_get 10) rfl rfl (xm_radd z d (h.length + 10) (h.length + 11) 0 (List.replicate 41 (.int 0)) 0 _ (xq_get 10) (xq_get 11) (by rw [List.length_replicate]; decide) (by rw [List.length_replicate]; decide) (by omega) (by omega) (by omega)) (fun w h5 hq => ?_)
  obtain ⟨rfl, hq⟩ := hq
  rw [xq_set, xq_set] at hq
  subst hq
  refine go_a (pc' := 17) (ls' := [some (.ref (h.length + 9))]) (st' := [(.ref (h.length + 9))]) rfl rfl ?_
  refine go_get rfl (xq_get 9) rfl rfl ?_
  refine go_a (pc' := 21) (ls' := [some (.ref (h.length + 9))]) (st' := [(.int 0), (.ref (h.length + 12))]) rfl rfl ?_
  refine go_v (m := 39) (as := [.ref (h.length + 12), .int 0]) (r := []) rfl rfl rfl (xq_get 12) rfl rfl (xm_rcut0 z d (h.length + 12) _ _ (xq_get 12)) (fun w h5 hq => ?_)
  obtain ⟨rfl, rfl⟩ := hq
  refine go_a (pc' := 25) (ls' := [some (.ref (h.length + 9))]) (st' := [(.ref (h.length + 9))]) rfl rfl ?_
  refine go_get rfl (xq_get 9) rfl rfl ?_
  refine go_a (pc' := 29) (ls' := [some (.ref (h.length + 9))]) (st' := [(.int 0), (.ref (h.length + 12))]) rfl rfl ?_
  refine go_v (m := 35) (as := [.ref (h.length + 12), .int 0]) (r := []) rfl rfl rfl (xq_get 12) rfl rfl (xm_radd z d (h.length + 12) (h.length + 13) 0 (List.replicate 41 (.int 0)) 0 _ (xq_get 12) (xq_get 13) (by rw [List.length_replicate]; decide) (by rw [List.length_replicate]; decide) (by omega) (by omega) (by omega)) (fun w h5 hq => ?_)
  obtain ⟨rfl, hq⟩ := hq
  rw [xq_set, xq_set] at hq
  subst hq
  refine go_a (pc' := 33) (ls' := [some (.ref (h.length + 9))]) (st' := [(.ref (h.length + 9))]) rfl rfl ?_
  refine go_get rfl (xq_get 9) rfl rfl ?_
  refine go_a (pc' := 37) (ls' := [some (.ref (h.length + 9))]) (st' := [(.int 0), (.ref (h.length + 14))]) rfl rfl ?_
  refine go_v (m := 39) (as := [.ref (h.length + 14), .int 0]) (r := []) rfl rfl rfl (xq_get 14) rfl rfl (xm_rcut0 z d (h.length + 14) _ _ (xq_get 14)) (fun w h5 hq => ?_)
  obtain ⟨rfl, rfl⟩ := hq
  refine go_a (pc' := 41) (ls' := [some (.ref (h.length + 9))]) (st' := [(.ref (h.length + 9))]) rfl rfl ?_
  refine go_a (pc' := 42) (ls' := [some (.ref (h.length + 9))]) (st' := [(.int 0), (.ref (h.length + 9))]) rfl rfl ?_
  refine go_put (j := 4) rfl (xq_get 9) rfl rfl (show 11 ≤ _ by omega) (show 4 < 9 by decide) rfl rfl ?_
  rw [xq_set]
  refine go_a (pc' := 46) (ls' := [some (.ref (h.length + 9))]) (st' := [(.ref (h.length + 9))]) rfl rfl ?_
  refine go_a (pc' := 47) (ls' := [some (.ref (h.length + 9))]) (st' := [(.int 0), (.ref (h.length + 9))]) rfl rfl ?_
  refine go_put (j := 5) rfl (xq_get 9) rfl rfl (show 11 ≤ _ by omega) (show 5 < 9 by decide) rfl rfl ?_
  rw [xq_set]
  refine go_a (pc' := 51) (ls' := [some (.ref (h.length + 9))]) (st' := [(.ref (h.length + 9))]) rfl rfl ?_
  refine go_a (pc' := 52) (ls' := [some (.ref (h.length + 9))]) (st' := [(.int 0), (.ref (h.length + 9))]) rfl rfl ?_
  refine go_put (j := 7) rfl (xq_get 9) rfl rfl (show 11 ≤ _ by omega) (show 7 < 9 by decide) rfl rfl ?_
  rw [xq_set]
  refine go_a (pc' := 56) (ls' := [some (.ref (h.length + 9))]) (st' := [(.ref (h.length + 9))]) rfl rfl ?_
  refine go_a (pc' := 57) (ls' := [some (.ref (h.length + 9))]) (st' := [(.int (-1)), (.ref (h.length + 9))]) rfl rfl ?_
  refine go_put (j := 8) rfl (xq_get 9) rfl rfl (show 11 ≤ _ by omega) (show 8 < 9 by decide) rfl rfl ?_
  rw [xq_set]
  exact go_r rfl rfl rfl rfl rfl rfl ⟨rfl, rfl⟩
theorem xm_skip0 (z : Value) (d q t : Nat) (v : Value) (fs : List Value) (hp : xx_H) (hq0 : hp[q]? = some (.inr (2, fs))) (hf : fs[4]? = some (.int 0)) (ht : hp[t]? = some (.inr (0, [v, .int 0]))) : xx_cl (xt_P z) (d + 2) 42 [.ref q, .ref t] hp (fun w h1 => w = none ∧ h1 = hp) := by
  refine cl_go rfl ?_
  show xx_go (xt_P z) (d + 1) 42 0 [some (.ref q), some (.ref t), none, none] [] (hp) _
  refine go_a (pc' := 1) (ls' := [some (.ref q), some (.ref t), none, none]) (st' := [(.int 0)]) rfl rfl ?_
  refine go_a (pc' := 2) (ls' := [some (.ref q), some (.ref t), some (.int 0), none]) (st' := []) rfl rfl ?_
  refine go_a (pc' := 3) (ls' := [some (.ref q), some (.ref t), some (.int 0), none]) (st' := [(.ref q)]) rfl rfl ?_
  refine go_get rfl hq0 rfl hf ?_
  refine go_a (pc' := 7) (ls' := [some (.ref q), some (.ref t), some (.int 0), none]) (st' := [(.ref t), (.int 0)]) rfl rfl ?_
  refine go_v (m := 34) (as := [.ref t]) (r := [.int 0]) rfl rfl rfl ht rfl rfl (xm_rowlen z d t 0 v hp ht) (fun w h5 hq => ?_)
  obtain ⟨rfl, rfl⟩ := hq
  refine go_a (pc' := 68) (ls' := [some (.ref q), some (.ref t), some (.int 0), none]) (st' := []) rfl rfl ?_
  exact go_r rfl rfl rfl rfl rfl rfl ⟨rfl, rfl⟩
theorem xm_read0 (z : Value) (d : Nat) (h : xx_H) (u : Nat) (X : xx_E) (K G N S : List Value) (R : xx_H) (hc : 11 ≤ h.length) : xx_cl (xt_P z) (d + 3) 40 [.ref (h.length + 9), .ref (h.length + 1)] (h ++ (X :: (xm_kt h.length u K G N S ++ R))) (fun v h1 => v = some (.int (-1)) ∧ h1 = h ++ (X :: (xm_kt2 h.length u K G N S ++ R))) := by
  refine cl_go rfl ?_
  show xx_go (xt_P z) (d + 2) 40 0 [some (.ref (h.length + 9)), some (.ref (h.length + 1)), none, none, none] [] (h ++ (X :: (xm_kt h.length u K G N S ++ R))) _
  refine go_a (pc' := 1) (ls' := [some (.ref (h.length + 9)), some (.ref (h.length + 1)), none, none, none]) (st' := [(.ref (h.length + 9))]) rfl rfl ?_
  refine go_v (m := 41) (as := [.ref (h.length + 9)]) (r := []) rfl rfl rfl (xq_get 9) rfl rfl (xm_begin z d h u X K G N S R hc) (fun w h5 hq => ?_)
  obtain ⟨rfl, rfl⟩ := hq
  show xx_go (xt_P z) (d + 2) 40 4 [some (.ref (h.length + 9)), some (.ref (h.length + 1)), none, none, none] [] (h ++ (X :: (xm_kt1 h.length u K G N S ++ R))) _
  refine go_a (pc' := 5) (ls' := [some (.ref (h.length + 9)), some (.ref (h.length + 1)), none, none, none]) (st' := [(.ref (h.length + 9))]) rfl rfl ?_
  refine go_a (pc' := 6) (ls' := [some (.ref (h.length + 9)), some (.ref (h.length + 1)), none, none, none]) (st' := [(.ref (h.length + 1)), (.ref (h.length + 9))]) rfl rfl ?_
  refine go_v (m := 42) (as := [.ref (h.length + 9), .ref (h.length + 1)]) (r := []) rfl rfl rfl (xq_get 9) rfl rfl (xm_skip0 z d (h.length + 9) (h.length + 1) _ _ _ (xq_get 9) rfl (xq_get 1)) (fun w h5 hq => ?_)
  obtain ⟨rfl, rfl⟩ := hq
  show xx_go (xt_P z) (d + 2) 40 9 [some (.ref (h.length + 9)), some (.ref (h.length + 1)), none, none, none] [] (h ++ (X :: (xm_kt1 h.length u K G N S ++ R))) _
  refine go_a (pc' := 10) (ls' := [some (.ref (h.length + 9)), some (.ref (h.length + 1)), none, none, none]) (st' := [(.int 0)]) rfl rfl ?_
  refine go_a (pc' := 11) (ls' := [some (.ref (h.length + 9)), some (.ref (h.length + 1)), some (.int 0), none, none]) (st' := []) rfl rfl ?_
  refine go_a (pc' := 12) (ls' := [some (.ref (h.length + 9)), some (.ref (h.length + 1)), some (.int 0), none, none]) (st' := [(.int 0)]) rfl rfl ?_
  refine go_a (pc' := 13) (ls' := [some (.ref (h.length + 9)), some (.ref (h.length + 1)), some (.int 0), none, none]) (st' := [(.ref (h.length + 1)), (.int 0)]) rfl rfl ?_
  refine go_v (m := 34) (as := [.ref (h.length + 1)]) (r := [.int 0]) rfl rfl rfl (xq_get 1) rfl rfl (xm_rowlen z (d + 1) (h.length + 1) 0 _ _ (xq_get 1)) (fun w h5 hq => ?_)
  obtain ⟨rfl, rfl⟩ := hq
  refine go_a (pc' := 91) (ls' := [some (.ref (h.length + 9)), some (.ref (h.length + 1)), some (.int 0), none, none]) (st' := []) rfl rfl ?_
  refine go_a (pc' := 92) (ls' := [some (.ref (h.length + 9)), some (.ref (h.length + 1)), some (.int 0), none, none]) (st' := [(.ref (h.length + 9))]) rfl rfl ?_
  refine go_get rfl (xq_get 9) rfl rfl ?_
  refine go_a (pc' := 98) (ls' := [some (.ref (h.length + 9)), some (.ref (h.length + 1)), some (.int 0), none, none]) (st' := []) rfl rfl ?_
  refine go_a (pc' := 99) (ls' := [some (.ref (h.length + 9)), some (.ref (h.length + 1)), some (.int 0), none, none]) (st' := [(.ref (h.length + 9))]) rfl rfl ?_
  refine go_get rfl (xq_get 9) rfl rfl ?_
  refine go_v (m := 44) (as := [.ref (h.length + 10)]) (r := []) rfl rfl rfl (xq_get 10) rfl rfl (xm_rlast1 z (d + 1) (h.length + 10) (h.length + 11) 0 _ _ (xq_get 10) (xq_get 11) rfl) (fun w h5 hq => ?_)
  obtain ⟨rfl, rfl⟩ := hq
  show xx_go (xt_P z) (d + 2) 40 105 [some (.ref (h.length + 9)), some (.ref (h.length + 1)), some (.int 0), none, none] [(.int 0)] (h ++ (X :: (xm_kt1 h.length u K G N S ++ R))) _
  refine go_a (pc' := 106) (ls' := [some (.ref (h.length + 9)), some (.ref (h.length + 1)), some (.int 0), none, none]) (st' := [(.int 1), (.int 0)]) rfl rfl ?_
  refine go_a (pc' := 109) (ls' := [some (.ref (h.length + 9)), some (.ref (h.length + 1)), some (.int 0), none, none]) (st' := []) rfl rfl ?_
  refine go_a (pc' := 110) (ls' := [some (.ref (h.length + 9)), some (.ref (h.length + 1)), some (.int 0), none, none]) (st' := [(.ref (h.length + 9))]) rfl rfl ?_
  refine go_a (pc' := 111) (ls' := [some (.ref (h.length + 9)), some (.ref (h.length + 1)), some (.int 0), none, none]) (st' := [(.int 3), (.ref (h.length + 9))]) rfl rfl ?_
  refine go_put (j := 7) rfl (xq_get 9) rfl rfl (show 11 ≤ _ by omega) (show 7 < 9 by decide) rfl rfl ?_
  rw [xq_set]
  refine go_a (pc' := 115) (ls' := [some (.ref (h.length + 9)), some (.ref (h.length + 1)), some (.int 0), none, none]) (st' := [(.ref (h.length + 9))]) rfl rfl ?_
  refine go_a (pc' := 116) (ls' := [some (.ref (h.length + 9)), some (.ref (h.length + 1)), some (.int 0), none, none]) (st' := [(.ref (h.length + 1)), (.ref (h.length + 9))]) rfl rfl ?_
  refine go_v (m := 34) (as := [.ref (h.length + 1)]) (r := [.ref (h.length + 9)]) rfl rfl rfl (xq_get 1) rfl rfl (xm_rowlen z (d + 1) (h.length + 1) 0 _ _ (xq_get 1)) (fun w h5 hq => ?_)
  obtain ⟨rfl, rfl⟩ := hq
  refine go_put (j := 8) rfl (xq_get 9) rfl rfl (show 11 ≤ _ by omega) (show 8 < 9 by decide) rfl rfl ?_
  rw [xq_set]
  show xx_go (xt_P z) (d + 2) 40 122 [some (.ref (h.length + 9)), some (.ref (h.length + 1)), some (.int 0), none, none] [] (h ++ (X :: (xm_kt2 h.length u K G N S ++ R))) _
  refine go_a (pc' := 123) (ls' := [some (.ref (h.length + 9)), some (.ref (h.length + 1)), some (.int 0), none, none]) (st' := [(.ref (h.length + 9))]) rfl rfl ?_
  refine go_get rfl (xq_get 9) rfl rfl ?_
  refine go_a (pc' := 140) (ls' := [some (.ref (h.length + 9)), some (.ref (h.length + 1)), some (.int 0), none, none]) (st' := []) rfl rfl ?_
  refine go_a (pc' := 141) (ls' := [some (.ref (h.length + 9)), some (.ref (h.length + 1)), some (.int 0), none, none]) (st' := [(.int (-1))]) rfl rfl ?_
  exact go_r rfl rfl rfl rfl rfl rfl ⟨rfl, rfl⟩
theorem xm_pred_lt {u : Nat} (hu : u < 2 ^ 30) : nI u - 1 < nI u := by
  match u with
  | 0 => decide
  | u + 1 =>
    rw [nI_pred]
    exact nI_lt (by omega) (by omega)
theorem xm_rel0 (z : Value) (d e u : Nat) (v1 v2 v3 v4 : Value) (hp : xx_H) (hu : u < 2 ^ 30) (he : hp[e]? = some (.inr (1, [v1, v2, v3, v4, .int (nI u)]))) : xx_cl (xt_P z) (d + 1) 49 [.ref e, .int (nI u)] hp (fun w h1 => w = none ∧ h1 = hp) := by
  refine cl_go rfl ?_
  show xx_go (xt_P z) d 49 0 [some (.ref e), some (.int (nI u)), none] [] (hp) _
  refine go_a (pc' := 1) (ls' := [some (.ref e), some (.int (nI u)), none]) (st' := [(.ref e)]) rfl rfl ?_
  refine go_get rfl he rfl rfl ?_
  refine go_a (pc' := 5) (ls' := [some (.ref e), some (.int (nI u)), none]) (st' := [(.int 1), (.int (nI u))]) rfl rfl ?_
  refine go_a (pc' := 6) (ls' := [some (.ref e), some (.int (nI u)), none]) (st' := [(.int (nI u - 1))]) rfl rfl ?_
  refine go_a (pc' := 7) (ls' := [some (.ref e), some (.int (nI u)), some (.int (nI u - 1))]) (st' := []) rfl rfl ?_
  refine go_a (pc' := 8) (ls' := [some (.ref e), some (.int (nI u)), some (.int (nI u - 1))]) (st' := [(.int (nI u - 1))]) rfl rfl ?_
  refine go_a (pc' := 9) (ls' := [some (.ref e), some (.int (nI u)), some (.int (nI u - 1))]) (st' := [(.int (nI u)), (.int (nI u - 1))]) rfl rfl ?_
  refine go_if (t := 49) (off := 40) (r := []) rfl rfl rfl (fun _ => ?_) (fun hf => absurd (xm_pred_lt hu) (of_decide_eq_false hf))
  exact go_r rfl rfl rfl rfl rfl rfl ⟨rfl, rfl⟩
theorem xm_kind0 (z : Value) (d x : Nat) (hp : xx_H) : xx_cl (xt_P z) (d + 1) 45 [.ref x, .int (-1)] hp (fun w h1 => w = some (.int (-1)) ∧ h1 = hp) := by
  refine cl_go rfl ?_
  show xx_go (xt_P z) d 45 0 [some (.ref x), some (.int (-1)), none, none] [] (hp) _
  refine go_a (pc' := 1) (ls' := [some (.ref x), some (.int (-1)), none, none]) (st' := [(.int (-1))]) rfl rfl ?_
  refine go_a (pc' := 2) (ls' := [some (.ref x), some (.int (-1)), none, none]) (st' := [(.int (-1)), (.int (-1))]) rfl rfl ?_
  refine go_a (pc' := 5) (ls' := [some (.ref x), some (.int (-1)), none, none]) (st' := []) rfl rfl ?_
  refine go_a (pc' := 6) (ls' := [some (.ref x), some (.int (-1)), none, none]) (st' := [(.int (-1))]) rfl rfl ?_
  exact go_r rfl rfl rfl rfl rfl rfl ⟨rfl, rfl⟩
def xm_ko2 (c u : Nat) : xx_E := .inr (9, [.ref (c + 1), .ref (c + 3), .ref (c + 4), .ref (c + 9), .ref (c + 16), .ref (c + 21), .ref (c + 25), .ref (c + 30), .int 1000, .int 0, .int 0, .int 0, .int (nI u), .int (-1)])
theorem xs_F_app {h L L1 R : xx_H} {n : Nat} (hl : L.length = n) (hl1 : L1.length = n) (hs : xx_sz L1 = xx_sz L) : xs_F (h ++ (L ++ R)) (h ++ (L1 ++ R)) h.length n := by
  refine ⟨by simp only [List.length_append]; omega, by rw [xq_sz, xq_sz, xq_sz, xq_sz, hs], fun i hi => ?_⟩
  rcases hi with hi | hi
  · rw [List.getElem?_append_left hi, List.getElem?_append_left hi]
  · rw [List.getElem?_append_right (by omega), List.getElem?_append_right (by omega), List.getElem?_append_right (by omega), List.getElem?_append_right (by omega), hl, hl1]
theorem xm_run (z : Value) (d : Nat) (h : xx_H) (u : Nat) (K G N S : List Value) (R : xx_H) (hc : 11 ≤ h.length) (hu : u < 2 ^ 30) : xx_cl (xt_P z) (d + 4) 37 [.ref h.length] (h ++ (xm_ko h.length u :: (xm_kt h.length u K G N S ++ R))) (fun v h1 => v = some (.int 1) ∧ xs_F (h ++ (xm_ko h.length u :: (xm_kt h.length u K G N S ++ R))) h1 h.length 32) := by
  refine cl_go rfl ?_
  show xx_go (xt_P z) (d + 3) 37 0 [some (.ref h.length), none, none] [] (h ++ (xm_ko h.length u :: (xm_kt h.length u K G N S ++ R))) _
  refine go_a (pc' := 1) (ls' := [some (.ref h.length), none, none]) (st' := [(.ref h.length)]) rfl rfl ?_
  refine go_get rfl xq_get00 rfl rfl ?_
  refine go_v (m := 38) (as := [.ref (h.length + 16)]) (r := []) rfl rfl rfl (xq_get 16) rfl rfl (xm_clear0 z (d + 1) (h.length + 16) (h.length + 17) _ _ _ _ (xq_get 16) (xq_get 17)) (fun w h5 hq => ?_)
  obtain ⟨rfl, rfl⟩ := hq
  show xx_go (xt_P z) (d + 3) 37 7 [some (.ref h.length), none, none] [] (h ++ (xm_ko h.length u :: (xm_kt h.length u K G N S ++ R))) _
  refine go_a (pc' := 8) (ls' := [some (.ref h.length), none, none]) (st' := [(.ref h.length)]) rfl rfl ?_
  refine go_a (pc' := 9) (ls' := [some (.ref h.length), none, none]) (st' := [(.int (-1)), (.ref h.length)]) rfl rfl ?_
  refine go_put (j := 13) rfl xq_get00 rfl rfl hc (show 13 < 14 by decide) rfl rfl ?_
  rw [xq_set00]
  refine go_a (pc' := 13) (ls' := [some (.ref h.length), none, none]) (st' := [(.ref h.length)]) rfl rfl ?_
  refine go_a (pc' := 14) (ls' := [some (.ref h.length), none, none]) (st' := [(.int 0), (.ref h.length)]) rfl rfl ?_
  refine go_put (j := 9) rfl xq_get00 rfl rfl hc (show 9 < 14 by decide) rfl rfl ?_
  rw [xq_set00]
  refine go_a (pc' := 18) (ls' := [some (.ref h.length), none, none]) (st' := [(.ref h.length)]) rfl rfl ?_
  refine go_a (pc' := 19) (ls' := [some (.ref h.length), none, none]) (st' := [(.int 0), (.ref h.length)]) rfl rfl ?_
  refine go_put (j := 10) rfl xq_get00 rfl rfl hc (show 10 < 14 by decide) rfl rfl ?_
  rw [xq_set00]
  show xx_go (xt_P z) (d + 3) 37 22 [some (.ref h.length), none, none] [] (h ++ (xm_ko2 h.length u :: (xm_kt h.length u K G N S ++ R))) _
  refine go_a (pc' := 23) (ls' := [some (.ref h.length), none, none]) (st' := [(.ref h.length)]) rfl rfl ?_
  refine go_get rfl xq_get00 rfl rfl ?_
  refine go_a (pc' := 27) (ls' := [some (.ref h.length), none, none]) (st' := [(.ref h.length), (.ref (h.length + 9))]) rfl rfl ?_
  refine go_get rfl xq_get00 rfl rfl ?_
  refine go_v (m := 40) (as := [.ref (h.length + 9), .ref (h.length + 1)]) (r := []) rfl rfl rfl (xq_get 9) rfl rfl (xm_read0 z d h u (xm_ko2 h.length u) K G N S R hc) (fun w h5 hq => ?_)
  obtain ⟨rfl, rfl⟩ := hq
  show xx_go (xt_P z) (d + 3) 37 33 [some (.ref h.length), none, none] [(.int (-1))] (h ++ (xm_ko2 h.length u :: (xm_kt2 h.length u K G N S ++ R))) _
  refine go_a (pc' := 34) (ls' := [some (.ref h.length), some (.int (-1)), none]) (st' := []) rfl rfl ?_
  refine go_a (pc' := 35) (ls' := [some (.ref h.length), some (.int (-1)), none]) (st' := [(.ref h.length)]) rfl rfl ?_
  refine go_get rfl xq_get00 rfl rfl ?_
  refine go_a (pc' := 39) (ls' := [some (.ref h.length), some (.int (-1)), none]) (st' := [(.int 0), (.ref (h.length + 1))]) rfl rfl ?_
  refine go_v (m := 39) (as := [.ref (h.length + 1), .int 0]) (r := []) rfl rfl rfl (xq_get 1) rfl rfl (xm_rcut0 z (d + 2) (h.length + 1) _ _ (xq_get 1)) (fun w h5 hq => ?_)
  obtain ⟨rfl, rfl⟩ := hq
  show xx_go (xt_P z) (d + 3) 37 42 [some (.ref h.length), some (.int (-1)), none] [] (h ++ (xm_ko2 h.length u :: (xm_kt2 h.length u K G N S ++ R))) _
  refine go_a (pc' := 43) (ls' := [some (.ref h.length), some (.int (-1)), none]) (st' := [(.int 2)]) rfl rfl ?_
  refine go_a (pc' := 44) (ls' := [some (.ref h.length), some (.int (-1)), some (.int 2)]) (st' := []) rfl rfl ?_
  refine go_a (pc' := 45) (ls' := [some (.ref h.length), some (.int (-1)), some (.int 2)]) (st' := [(.ref h.length)]) rfl rfl ?_
  refine go_a (pc' := 46) (ls' := [some (.ref h.length), some (.int (-1)), some (.int 2)]) (st' := [(.int (-1)), (.ref h.length)]) rfl rfl ?_
  refine go_v (m := 45) (as := [.ref h.length, .int (-1)]) (r := []) rfl rfl rfl xq_get00 rfl rfl (xm_kind0 z (d + 2) h.length _) (fun w h5 hq => ?_)
  obtain ⟨rfl, rfl⟩ := hq
  show xx_go (xt_P z) (d + 3) 37 49 [some (.ref h.length), some (.int (-1)), some (.int 2)] [(.int (-1))] (h ++ (xm_ko2 h.length u :: (xm_kt2 h.length u K G N S ++ R))) _
  refine go_a (pc' := 100) (ls' := [some (.ref h.length), some (.int (-1)), some (.int 2)]) (st' := []) rfl rfl ?_
  refine go_a (pc' := 101) (ls' := [some (.ref h.length), some (.int (-1)), some (.int 2)]) (st' := [(.int 1)]) rfl rfl ?_
  refine go_a (pc' := 102) (ls' := [some (.ref h.length), some (.int (-1)), some (.int 1)]) (st' := []) rfl rfl ?_
  refine go_a (pc' := 140) (ls' := [some (.ref h.length), some (.int (-1)), some (.int 1)]) (st' := []) rfl rfl ?_
  refine go_a (pc' := 141) (ls' := [some (.ref h.length), some (.int (-1)), some (.int 1)]) (st' := [(.ref h.length)]) rfl rfl ?_
  refine go_get rfl xq_get00 rfl rfl ?_
  refine go_a (pc' := 145) (ls' := [some (.ref h.length), some (.int (-1)), some (.int 1)]) (st' := [(.int (-1)), (.int (-1))]) rfl rfl ?_
  refine go_a (pc' := 159) (ls' := [some (.ref h.length), some (.int (-1)), some (.int 1)]) (st' := []) rfl rfl ?_
  refine go_a (pc' := 160) (ls' := [some (.ref h.length), some (.int (-1)), some (.int 1)]) (st' := [(.ref h.length)]) rfl rfl ?_
  refine go_get rfl xq_get00 rfl rfl ?_
  refine go_a (pc' := 164) (ls' := [some (.ref h.length), some (.int (-1)), some (.int 1)]) (st' := [(.ref h.length), (.ref (h.length + 4))]) rfl rfl ?_
  refine go_get rfl xq_get00 rfl rfl ?_
  refine go_v (m := 49) (as := [.ref (h.length + 4), .int (nI u)]) (r := []) rfl rfl rfl (xq_get 4) rfl rfl (xm_rel0 z (d + 2) (h.length + 4) u _ _ _ _ _ hu (xq_get 4)) (fun w h5 hq => ?_)
  obtain ⟨rfl, rfl⟩ := hq
  show xx_go (xt_P z) (d + 3) 37 170 [some (.ref h.length), some (.int (-1)), some (.int 1)] [] (h ++ (xm_ko2 h.length u :: (xm_kt2 h.length u K G N S ++ R))) _
  refine go_a (pc' := 171) (ls' := [some (.ref h.length), some (.int (-1)), some (.int 1)]) (st' := [(.int 1)]) rfl rfl ?_
  exact go_r rfl rfl rfl rfl rfl rfl ⟨rfl, xs_F_app (L := xm_ko h.length u :: xm_kt h.length u K G N S) (L1 := xm_ko2 h.length u :: xm_kt2 h.length u K G N S) rfl rfl (by simp only [xm_ko, xm_kt, xm_ko2, xm_kt2, xx_sz, List.map_cons, List.map_nil, xx_sz1, List.length_replicate, List.length_set, List.length_cons, List.length_nil, List.sum_cons, List.sum_nil])⟩
