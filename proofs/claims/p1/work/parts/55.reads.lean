/-! reads of the class: length, steps, size, letter of an empty OUT, fuel, fault -/
theorem xm_rowlen (z : Value) (d a : Nat) (u : Int32) (v : Value) (h : xx_H) (ha : h[a]? = some (.inr (0, [v, .int u]))) : xx_cl (xt_P z) (d + 1) 34 [.ref a] h (fun w h1 => w = some (.int u) ∧ h1 = h) := by
  refine cl_go rfl ?_
  show xx_go (xt_P z) d 34 0 [some (.ref a)] [] h _
  refine go_a (pc' := 1) (ls' := [some (.ref a)]) (st' := [(.ref a)]) rfl rfl ?_
  refine go_get rfl ha rfl rfl ?_
  exact go_r rfl rfl rfl rfl rfl rfl ⟨rfl, rfl⟩
theorem xm_tlen (z : Value) (d t r : Nat) (u : Int32) (v c q : Value) (h : xx_H) (ht : h[t]? = some (.inr (3, [c, .ref r, q]))) (hr : h[r]? = some (.inr (0, [v, .int u]))) : xx_cl (xt_P z) (d + 2) 54 [.ref t] h (fun w h1 => w = some (.int u) ∧ h1 = h) := by
  refine cl_go rfl ?_
  show xx_go (xt_P z) (d + 1) 54 0 [some (.ref t)] [] h _
  refine go_a (pc' := 1) (ls' := [some (.ref t)]) (st' := [(.ref t)]) rfl rfl ?_
  refine go_get rfl ht rfl rfl ?_
  refine go_v (m := 34) (as := [.ref r]) (r := []) rfl rfl rfl hr rfl rfl (xm_rowlen z d r u v h hr) (fun w h1 hq => ?_)
  obtain ⟨rfl, rfl⟩ := hq
  exact go_r rfl rfl rfl rfl rfl rfl ⟨rfl, rfl⟩
theorem xm_steps (z : Value) (d x : Nat) (u : Int32) (fs : List Value) (h : xx_H) (hx : h[x]? = some (.inr (9, fs))) (hf : fs[10]? = some (.int u)) : xx_cl (xt_P z) (d + 1) 51 [.ref x] h (fun w h1 => w = some (.int u) ∧ h1 = h) := by
  refine cl_go rfl ?_
  show xx_go (xt_P z) d 51 0 [some (.ref x)] [] h _
  refine go_a (pc' := 1) (ls' := [some (.ref x)]) (st' := [(.ref x)]) rfl rfl ?_
  refine go_get rfl hx rfl hf ?_
  exact go_r rfl rfl rfl rfl rfl rfl ⟨rfl, rfl⟩
theorem xm_size (z : Value) (d x t r : Nat) (u : Int32) (v c q : Value) (fs : List Value) (h : xx_H) (hx : h[x]? = some (.inr (9, fs))) (hf : fs[4]? = some (.ref t)) (ht : h[t]? = some (.inr (3, [c, .ref r, q]))) (hr : h[r]? = some (.inr (0, [v, .int u]))) : xx_cl (xt_P z) (d + 3) 53 [.ref x] h (fun w h1 => w = some (.int u) ∧ h1 = h) := by
  refine cl_go rfl ?_
  show xx_go (xt_P z) (d + 2) 53 0 [some (.ref x)] [] h _
  refine go_a (pc' := 1) (ls' := [some (.ref x)]) (st' := [(.ref x)]) rfl rfl ?_
  refine go_get rfl hx rfl hf ?_
  refine go_v (m := 54) (as := [.ref t]) (r := []) rfl rfl rfl ht rfl rfl (xm_tlen z d t r u v c q h ht hr) (fun w h1 hq => ?_)
  obtain ⟨rfl, rfl⟩ := hq
  exact go_r rfl rfl rfl rfl rfl rfl ⟨rfl, rfl⟩
/-- letter(k), OUT being empty -/
theorem xm_letter0 (z : Value) (d x t r : Nat) (k : Int32) (v c q : Value) (fs : List Value) (h : xx_H) (hx : h[x]? = some (.inr (9, fs))) (hf : fs[4]? = some (.ref t)) (ht : h[t]? = some (.inr (3, [c, .ref r, q]))) (hr : h[r]? = some (.inr (0, [v, .int 0]))) : xx_cl (xt_P z) (d + 3) 55 [.ref x, .int k] h (fun w h1 => w = some (.int (-1)) ∧ h1 = h) := by
  have last : xx_go (xt_P z) (d + 2) 55 26 [some (.ref x), some (.int k)] [] h (fun w h1 => w = some (.int (-1)) ∧ h1 = h) := by
    refine go_a (pc' := 27) (ls' := [some (.ref x), some (.int k)]) (st' := [(.int (-1))]) rfl rfl ?_
    exact go_r rfl rfl rfl rfl rfl rfl ⟨rfl, rfl⟩
  refine cl_go rfl ?_
  show xx_go (xt_P z) (d + 2) 55 0 [some (.ref x), some (.int k)] [] h _
  refine go_a (pc' := 1) (ls' := [some (.ref x), some (.int k)]) (st' := [(.int k)]) rfl rfl ?_
  refine go_if (t := 26) (off := 25) (b := decide (k < 0)) (r := []) rfl rfl rfl (fun _ => last) (fun hk => ?_)
  refine go_a (pc' := 5) (ls' := [some (.ref x), some (.int k)]) (st' := [(.int k)]) rfl rfl ?_
  refine go_a (pc' := 6) (ls' := [some (.ref x), some (.int k)]) (st' := [(.ref x), (.int k)]) rfl rfl ?_
  refine go_get rfl hx rfl hf ?_
  refine go_v (m := 54) (as := [.ref t]) (r := [.int k]) rfl rfl rfl ht rfl rfl (xm_tlen z d t r 0 v c q h ht hr) (fun w h1 hq => ?_)
  obtain ⟨rfl, rfl⟩ := hq
  refine go_if (t := 26) (off := 14) (b := decide ((0 : Int32) ≤ k)) (r := []) rfl rfl rfl (fun _ => last) (fun hf2 => absurd (show (0 : Int32) ≤ k from ?_) (of_decide_eq_false hf2))
  have h1 := of_decide_eq_false hk
  rw [Int32.le_iff_toInt_le]
  rw [Int32.lt_iff_toInt_lt] at h1
  omega
/-- fuel(n) -/
theorem xm_fuel (z : Value) (d x : Nat) (n u : Int32) (fs : List Value) (h : xx_H) (hx : h[x]? = some (.inr (9, fs))) (hc : 11 ≤ x) (hl : fs.length = 14) (hf : fs[8]? = some (.int u)) : xx_cl (xt_P z) (d + 1) 36 [.ref x, .int n] h (fun w h1 => ((n < 1 ∨ ¬ n ≤ 1000) ∧ w = some (.int (-1)) ∧ h1 = h) ∨ (¬ (n < 1 ∨ ¬ n ≤ 1000) ∧ w = some (.int u) ∧ h1 = h.set x (.inr (9, fs.set 8 (.int n))))) := by
  have last : (n < 1 ∨ ¬ n ≤ 1000) → xx_go (xt_P z) d 36 12 [some (.ref x), some (.int n), none] [] h (fun w h1 => ((n < 1 ∨ ¬ n ≤ 1000) ∧ w = some (.int (-1)) ∧ h1 = h) ∨ (¬ (n < 1 ∨ ¬ n ≤ 1000) ∧ w = some (.int u) ∧ h1 = h.set x (.inr (9, fs.set 8 (.int n))))) := by
    intro hn
    refine go_a (pc' := 13) (ls' := [some (.ref x), some (.int n), none]) (st' := [(.int (-1))]) rfl rfl ?_
    exact go_r rfl rfl rfl rfl rfl rfl (Or.inl ⟨hn, rfl, rfl⟩)
  refine cl_go rfl ?_
  show xx_go (xt_P z) d 36 0 [some (.ref x), some (.int n), none] [] h _
  refine go_a (pc' := 1) (ls' := [some (.ref x), some (.int n), none]) (st' := [(.int n)]) rfl rfl ?_
  refine go_a (pc' := 2) (ls' := [some (.ref x), some (.int n), none]) (st' := [(.int 1), (.int n)]) rfl rfl ?_
  refine go_if (t := 12) (off := 10) (b := decide (n < 1)) (r := []) rfl rfl rfl (fun hb => last (Or.inl (of_decide_eq_true hb))) (fun h1 => ?_)
  refine go_a (pc' := 6) (ls' := [some (.ref x), some (.int n), none]) (st' := [(.int n)]) rfl rfl ?_
  refine go_a (pc' := 9) (ls' := [some (.ref x), some (.int n), none]) (st' := [(.int 1000), (.int n)]) rfl rfl ?_
  refine go_if (t := 14) (off := 5) (b := decide (n ≤ 1000)) (r := []) rfl rfl rfl (fun h2 => ?_) (fun hb => last (Or.inr (of_decide_eq_false hb)))
  refine go_a (pc' := 15) (ls' := [some (.ref x), some (.int n), none]) (st' := [(.ref x)]) rfl rfl ?_
  refine go_get rfl hx rfl hf ?_
  refine go_a (pc' := 19) (ls' := [some (.ref x), some (.int n), some (.int u)]) (st' := []) rfl rfl ?_
  refine go_a (pc' := 20) (ls' := [some (.ref x), some (.int n), some (.int u)]) (st' := [(.ref x)]) rfl rfl ?_
  refine go_a (pc' := 21) (ls' := [some (.ref x), some (.int n), some (.int u)]) (st' := [(.int n), (.ref x)]) rfl rfl ?_
  refine go_put (j := 8) rfl hx rfl rfl hc (by omega) rfl rfl ?_
  refine go_a (pc' := 25) (ls' := [some (.ref x), some (.int n), some (.int u)]) (st' := [(.int u)]) rfl rfl ?_
  refine go_r rfl rfl rfl rfl rfl rfl (Or.inr ⟨?_, rfl, rfl⟩)
  intro hn
  rcases hn with hn | hn
  · exact of_decide_eq_false h1 hn
  · exact hn (of_decide_eq_true h2)
