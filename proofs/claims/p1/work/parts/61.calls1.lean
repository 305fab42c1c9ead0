/-! the class on a new object: each call over the executor -/
def xm_ko (c u : Nat) : xx_E := .inr (9, [.ref (c + 1), .ref (c + 3), .ref (c + 4), .ref (c + 9), .ref (c + 16), .ref (c + 21), .ref (c + 25), .ref (c + 30), .int 1000, .int 0, .int 0, .int 0, .int (nI u), .int 0])
def xm_kt (c u : Nat) (K G N S : List Value) : xx_H := [.inr (0, [.ref (c + 2), .int 0]), .inl (.int, List.replicate 256 (.int 0)), .inl (.int, List.replicate 5 (.int 0)), .inr (1, [.ref (c + 5), .ref (c + 6), .ref (c + 7), .ref (c + 8), .int (nI u)]), .inl (.long, K), .inl (.int, G), .inl (.int, N), .inl (.int, S), .inr (2, [.ref (c + 4), .ref (c + 10), .ref (c + 12), .ref (c + 14), .int 0, .int 0, .int 0, .int 0, .int (-1)]), .inr (0, [.ref (c + 11), .int 0]), .inl (.int, List.replicate 41 (.int 0)), .inr (0, [.ref (c + 13), .int 0]), .inl (.int, List.replicate 41 (.int 0)), .inr (0, [.ref (c + 15), .int 0]), .inl (.int, List.replicate 64 (.int 0)), .inr (3, [.ref (c + 4), .ref (c + 17), .ref (c + 19)]), .inr (0, [.ref (c + 18), .int 0]), .inl (.int, List.replicate 256 (.int 0)), .inr (0, [.ref (c + 20), .int 0]), .inl (.int, List.replicate 64 (.int 0)), .inr (5, [.ref (c + 22), .ref (c + 23), .ref (c + 24)]), .inr (4, [.ref 10, .int 0, .int 0]), .inr (4, [.ref 10, .int 0, .int 0]), .inr (4, [.ref 10, .int 0, .int 0]), .inr (6, [.ref (c + 4), .ref (c + 21), .ref (c + 26), .ref (c + 28), .int (-1), .int (-1)]), .inr (0, [.ref (c + 27), .int 0]), .inl (.int, List.replicate 241 (.int 0)), .inr (0, [.ref (c + 29), .int 0]), .inl (.int, List.replicate 120 (.int 0)), .inr (8, [.ref (c + 4), .ref (c + 21), .ref (c + 25), .ref (c + 31), .int 0, .int 0, .int 0, .int 0]), .inr (7, [.ref (c + 25)])]
theorem xm_kl_eq (h : xx_H) (u : Nat) (K G N S : List Value) : xm_kl h u K G N S = xm_ko h.length u :: xm_kt h.length u K G N S := rfl
theorem xs_Fq {h L L1 : xx_H} {n i : Nat} {e e1 : xx_E} (F : xs_F (h ++ L) (h ++ L1) h.length n) (hi : L1[i]? = some e1) (hs : xx_sz1 e = xx_sz1 e1) (hn : i < n) : xs_F (h ++ L) (h ++ L1.set i e) h.length n := by
  have := xs_F_set (h := h ++ L1) (c := h.length) (n := n) (i := h.length + i) (e := e) ((xq_get i).trans hi) hs (by omega) (by omega)
  rw [xq_set] at this
  exact xs_F_tr F this
theorem xq_set00 {h L : xx_H} {e : xx_E} : (h ++ L).set h.length e = h ++ L.set 0 e := xq_set 0
theorem xq_get00 {h L : xx_H} : (h ++ L)[h.length]? = L[0]? := xq_get 0
theorem xm_radd (z : Value) (d r a k : Nat) (A : List Value) (x : Int32) (hp : xx_H) (hr : hp[r]? = some (.inr (0, [.ref a, .int (nI k)]))) (ha : hp[a]? = some (.inl (.int, A))) (hk : k < A.length) (hA : A.length ≤ 1000000) (h1 : 11 ≤ r) (h2 : 11 ≤ a) (hne : a ≠ r) : xx_cl (xt_P z) (d + 1) 35 [.ref r, .int x] hp (fun v h1 => v = none ∧ h1 = (hp.set a (.inl (.int, A.set k (.int x)))).set r (.inr (0, [.ref a, .int (nI (k + 1))]))) := by
  refine cl_go rfl ?_
  show xx_go (xt_P z) d 35 0 [some (.ref r), some (.int x)] [] (hp) _
  refine go_a (pc' := 1) (ls' := [some (.ref r), some (.int x)]) (st' := [(.ref r)]) rfl rfl ?_
  refine go_get rfl hr rfl rfl ?_
  refine go_b (pc' := 6) (st' := [(.int (nI 1048576)), (.int (nI k))]) (h' := hp) rfl rfl rfl ?_
  refine go_if (t := 10) (off := 4) (r := []) rfl rfl rfl (fun _ => ?_) (fun hf => absurd (nI_lt (by omega) (by omega)) (of_decide_eq_false hf))
  refine go_a (pc' := 11) (ls' := [some (.ref r), some (.int x)]) (st' := [(.ref r)]) rfl rfl ?_
  refine go_get rfl hr rfl rfl ?_
  refine go_a (pc' := 15) (ls' := [some (.ref r), some (.int x)]) (st' := [(.ref r), (.int (nI k))]) rfl rfl ?_
  refine go_get rfl hr rfl rfl ?_
  refine go_len rfl ha ?_
  refine go_if (t := 40) (off := 21) (r := []) rfl rfl rfl (fun _ => ?_) (fun hf => absurd (nI_lt hk (by omega)) (of_decide_eq_false hf))
  refine go_a (pc' := 41) (ls' := [some (.ref r), some (.int x)]) (st' := [(.ref r)]) rfl rfl ?_
  refine go_get rfl hr rfl rfl ?_
  refine go_a (pc' := 45) (ls' := [some (.ref r), some (.int x)]) (st' := [(.ref r), (.ref a)]) rfl rfl ?_
  refine go_get rfl hr rfl rfl ?_
  refine go_a (pc' := 49) (ls' := [some (.ref r), some (.int x)]) (st' := [(.int x), (.int (nI k)), (.ref a)]) rfl rfl ?_
  refine go_ist (m := k) rfl ha h2 (nI_pos (by omega)) (nI_clamp (by omega)) hk ?_
  refine go_a (pc' := 51) (ls' := [some (.ref r), some (.int x)]) (st' := [(.ref r)]) rfl rfl ?_
  refine go_a (pc' := 52) (ls' := [some (.ref r), some (.int x)]) (st' := [(.ref r), (.ref r)]) rfl rfl ?_
  refine go_get rfl ((xs_ne hne).trans hr) rfl rfl ?_
  refine go_a (pc' := 56) (ls' := [some (.ref r), some (.int x)]) (st' := [(.int 1), (.int (nI k)), (.ref r)]) rfl rfl ?_
  refine go_a (pc' := 57) (ls' := [some (.ref r), some (.int x)]) (st' := [(.int (nI (k + 1))), (.ref r)]) rfl (by rw [← nI_1 k]; rfl) ?_
  refine go_put (j := 1) rfl ((xs_ne hne).trans hr) rfl rfl h1 (Nat.lt_of_sub_pos (by simp)) rfl rfl ?_
  exact go_r rfl rfl rfl rfl rfl rfl ⟨rfl, rfl⟩
theorem xm_rcut0 (z : Value) (d r : Nat) (v : Value) (hp : xx_H) (hr : hp[r]? = some (.inr (0, [v, .int 0]))) : xx_cl (xt_P z) (d + 1) 39 [.ref r, .int 0] hp (fun v h1 => v = none ∧ h1 = hp) := by
  refine cl_go rfl ?_
  show xx_go (xt_P z) d 39 0 [some (.ref r), some (.int 0)] [] (hp) _
  refine go_a (pc' := 1) (ls' := [some (.ref r), some (.int 0)]) (st' := [(.int 0)]) rfl rfl ?_
  refine go_a (pc' := 4) (ls' := [some (.ref r), some (.int 0)]) (st' := []) rfl rfl ?_
  refine go_a (pc' := 5) (ls' := [some (.ref r), some (.int 0)]) (st' := [(.int 0)]) rfl rfl ?_
  refine go_a (pc' := 6) (ls' := [some (.ref r), some (.int 0)]) (st' := [(.ref r), (.int 0)]) rfl rfl ?_
  refine go_get rfl hr rfl rfl ?_
  refine go_a (pc' := 17) (ls' := [some (.ref r), some (.int 0)]) (st' := []) rfl rfl ?_
  exact go_r rfl rfl rfl rfl rfl rfl ⟨rfl, rfl⟩
theorem xm_rlast1 (z : Value) (d r a : Nat) (x : Int32) (A : List Value) (hp : xx_H) (hr : hp[r]? = some (.inr (0, [.ref a, .int (nI 1)]))) (ha : hp[a]? = some (.inl (.int, A))) (hx : A[0]? = some (.int x)) : xx_cl (xt_P z) (d + 1) 44 [.ref r] hp (fun v h1 => v = some (.int x) ∧ h1 = hp) := by
  refine cl_go rfl ?_
  show xx_go (xt_P z) d 44 0 [some (.ref r)] [] (hp) _
  refine go_a (pc' := 1) (ls' := [some (.ref r)]) (st' := [(.ref r)]) rfl rfl ?_
  refine go_get rfl hr rfl rfl ?_
  refine go_a (pc' := 7) (ls' := [some (.ref r)]) (st' := []) rfl rfl ?_
  refine go_a (pc' := 8) (ls' := [some (.ref r)]) (st' := [(.ref r)]) rfl rfl ?_
  refine go_get rfl hr rfl rfl ?_
  refine go_a (pc' := 12) (ls' := [some (.ref r)]) (st' := [(.ref r), (.ref a)]) rfl rfl ?_
  refine go_get rfl hr rfl rfl ?_
  refine go_a (pc' := 16) (ls' := [some (.ref r)]) (st' := [(.int 1), (.int (nI 1)), (.ref a)]) rfl rfl ?_
  refine go_a (pc' := 17) (ls' := [some (.ref r)]) (st' := [(.int 0), (.ref a)]) rfl rfl ?_
  refine go_ild (m := 0) rfl ha (by decide) rfl hx ?_
  refine go_a (pc' := 22) (ls' := [some (.ref r)]) (st' := [(.int x)]) rfl rfl ?_
  exact go_r rfl rfl rfl rfl rfl rfl ⟨rfl, rfl⟩
theorem xm_clear0 (z : Value) (d t r : Nat) (v c q : Value) (hp : xx_H) (ht : hp[t]? = some (.inr (3, [c, .ref r, q]))) (hr : hp[r]? = some (.inr (0, [v, .int 0]))) : xx_cl (xt_P z) (d + 2) 38 [.ref t] hp (fun w h1 => w = none ∧ h1 = hp) := by
  refine cl_go rfl ?_
  show xx_go (xt_P z) (d + 1) 38 0 [some (.ref t)] [] (hp) _
  refine go_a (pc' := 1) (ls' := [some (.ref t)]) (st' := [(.ref t)]) rfl rfl ?_
  refine go_get rfl ht rfl rfl ?_
  refine go_a (pc' := 5) (ls' := [some (.ref t)]) (st' := [(.int 0), (.ref r)]) rfl rfl ?_
  refine go_v (m := 39) (as := [.ref r, .int 0]) (r := []) rfl rfl rfl hr rfl rfl (xm_rcut0 z d r v hp hr) (fun w h5 hq => ?_)
  obtain ⟨rfl, rfl⟩ := hq
  exact go_r rfl rfl rfl rfl rfl rfl ⟨rfl, rfl⟩
theorem xm_feed (z : Value) (d x w : Nat) (a1 a2 a3 a4 a5 : Int32) (fs W : List Value) (hp : xx_H) (hx : hp[x]? = some (.inr (9, fs))) (hf : fs[1]? = some (.ref w)) (hw : hp[w]? = some (.inl (.int, W))) (hl : W.length = 5) (h2 : 11 ≤ w) (hne : w ≠ x) : xx_cl (xt_P z) (d + 1) 32 [.ref x, .int a1, .int a2, .int a3, .int a4, .int a5] hp (fun v h1 => v = none ∧ h1 = hp.set w (.inl (.int, ((((W.set 0 (.int a1)).set 1 (.int a2)).set 2 (.int a3)).set 3 (.int a4)).set 4 (.int a5)))) := by
  refine cl_go rfl ?_
  show xx_go (xt_P z) d 32 0 [some (.ref x), some (.int a1), some (.int a2), some (.int a3), some (.int a4), some (.int a5)] [] (hp) _
  refine go_a (pc' := 1) (ls' := [some (.ref x), some (.int a1), some (.int a2), some (.int a3), some (.int a4), some (.int a5)]) (st' := [(.ref x)]) rfl rfl ?_
  refine go_get rfl hx rfl hf ?_
  refine go_a (pc' := 5) (ls' := [some (.ref x), some (.int a1), some (.int a2), some (.int a3), some (.int a4), some (.int a5)]) (st' := [(.int 0), (.ref w)]) rfl rfl ?_
  refine go_a (pc' := 6) (ls' := [some (.ref x), some (.int a1), some (.int a2), some (.int a3), some (.int a4), some (.int a5)]) (st' := [(.int a1), (.int 0), (.ref w)]) rfl rfl ?_
  refine go_ist (m := 0) rfl hw h2 (by decide) rfl (by rw [hl]; decide) ?_
  refine go_a (pc' := 8) (ls' := [some (.ref x), some (.int a1), some (.int a2), some (.int a3), some (.int a4), some (.int a5)]) (st' := [(.ref x)]) rfl rfl ?_
  refine go_get rfl ((xs_ne hne).trans hx) rfl hf ?_
  refine go_a (pc' := 12) (ls' := [some (.ref x), some (.int a1), some (.int a2), some (.int a3), some (.int a4), some (.int a5)]) (st' := [(.int 1), (.ref w)]) rfl rfl ?_
  refine go_a (pc' := 13) (ls' := [some (.ref x), some (.int a1), some (.int a2), some (.int a3), some (.int a4), some (.int a5)]) (st' := [(.int a2), (.int 1), (.ref w)]) rfl rfl ?_
  refine go_ist (m := 1) rfl (xs_self hw) h2 (by decide) rfl (by simp only [List.length_set]; rw [hl]; decide) ?_
  rw [List.set_set]
  refine go_a (pc' := 15) (ls' := [some (.ref x), some (.int a1), some (.int a2), some (.int a3), some (.int a4), some (.int a5)]) (st' := [(.ref x)]) rfl rfl ?_
  refine go_get rfl ((xs_ne hne).trans hx) rfl hf ?_
  refine go_a (pc' := 19) (ls' := [some (.ref x), some (.int a1), some (.int a2), some (.int a3), some (.int a4), some (.int a5)]) (st' := [(.int 2), (.ref w)]) rfl rfl ?_
  refine go_a (pc' := 20) (ls' := [some (.ref x), some (.int a1), some (.int a2), some (.int a3), some (.int a4), some (.int a5)]) (st' := [(.int a3), (.int 2), (.ref w)]) rfl rfl ?_
  refine go_ist (m := 2) rfl (xs_self hw) h2 (by decide) rfl (by simp only [List.length_set]; rw [hl]; decide) ?_
  rw [List.set_set]
  refine go_a (pc' := 22) (ls' := [some (.ref x), some (.int a1), some (.int a2), some (.int a3), some (.int a4), some (.int a5)]) (st' := [(.ref x)]) rfl rfl ?_
  refine go_get rfl ((xs_ne hne).trans hx) rfl hf ?_
  refine go_a (pc' := 26) (ls' := [some (.ref x), some (.int a1), some (.int a2), some (.int a3), some (.int a4), some (.int a5)]) (st' := [(.int 3), (.ref w)]) rfl rfl ?_
  refine go_a (pc' := 28) (ls' := [some (.ref x), some (.int a1), some (.int a2), some (.int a3), some (.int a4), some (.int a5)]) (st' := [(.int a4), (.int 3), (.ref w)]) rfl rfl ?_
  refine go_ist (m := 3) rfl (xs_self hw) h2 (by decide) rfl (by simp only [List.length_set]; rw [hl]; decide) ?_
  rw [List.set_set]
  refine go_a (pc' := 30) (ls' := [some (.ref x), some (.int a1), some (.int a2), some (.int a3), some (.int a4), some (.int a5)]) (st' := [(.ref x)]) rfl rfl ?_
  refine go_get rfl ((xs_ne hne).trans hx) rfl hf ?_
  refine go_a (pc' := 34) (ls' := [some (.ref x), some (.int a1), some (.int a2), some (.int a3), some (.int a4), some (.int a5)]) (st' := [(.int 4), (.ref w)]) rfl rfl ?_
  refine go_a (pc' := 36) (ls' := [some (.ref x), some (.int a1), some (.int a2), some (.int a3), some (.int a4), some (.int a5)]) (st' := [(.int a5), (.int 4), (.ref w)]) rfl rfl ?_
  refine go_ist (m := 4) rfl (xs_self hw) h2 (by decide) rfl (by simp only [List.length_set]; rw [hl]; decide) ?_
  rw [List.set_set]
  exact go_r rfl rfl rfl rfl rfl rfl ⟨rfl, rfl⟩
