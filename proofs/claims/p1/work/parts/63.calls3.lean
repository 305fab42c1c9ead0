/-! fault, count, tell of the class; the model's calls on a new object -/
theorem xf_not {n : Int32} (h0 : ¬ n = 0) (h1 : ¬ n = 1) (h2 : ¬ n = 2) : n.toInt < 0 ∨ 2 < n.toInt := by
  have e0 : ¬ n.toInt = 0 := fun e => h0 (Int32.toInt_inj.mp e)
  have e1 : ¬ n.toInt = 1 := fun e => h1 (Int32.toInt_inj.mp e)
  have e2 : ¬ n.toInt = 2 := fun e => h2 (Int32.toInt_inj.mp e)
  omega
def xf_fault (n : Int32) : Int32 := if n = 0 then 0 else if n = 1 then -1 else if n = 2 then 0 else -1
def xf_count (n : Int32) : Int32 := if n = 0 then 0 else if n = 1 then 0 else if n = 2 then 0 else -1
theorem xm_fault (z : Value) (d x : Nat) (n : Int32) (q : Nat) (fs gs : List Value) (hp : xx_H) (hx : hp[x]? = some (.inr (9, fs))) (f3 : fs[3]? = some (.ref q)) (f9 : fs[9]? = some (.int 0)) (hq0 : hp[q]? = some (.inr (2, gs))) (g7 : gs[7]? = some (.int 0)) (g8 : gs[8]? = some (.int (-1))) : xx_cl (xt_P z) (d + 1) 50 [.ref x, .int n] hp (fun w h1 => w = some (.int (xf_fault n)) ∧ h1 = hp) := by
  refine cl_go rfl ?_
  show xx_go (xt_P z) d 50 0 [some (.ref x), some (.int n)] [] hp _
  by_cases e0 : n = 0
  · subst e0
    refine go_a (pc' := 1) (ls' := [some (.ref x), some (.int 0)]) (st' := [(.int 0)]) rfl rfl ?_
    refine go_a (pc' := 28) (ls' := [some (.ref x), some (.int 0)]) (st' := []) rfl rfl ?_
    refine go_a (pc' := 29) (ls' := [some (.ref x), some (.int 0)]) (st' := [(.ref x)]) rfl rfl ?_
    refine go_get rfl hx rfl f3 ?_
    refine go_get rfl hq0 rfl g7 ?_
    exact go_r rfl rfl rfl rfl rfl rfl ⟨rfl, rfl⟩
  by_cases e1 : n = 1
  · subst e1
    refine go_a (pc' := 1) (ls' := [some (.ref x), some (.int 1)]) (st' := [(.int 1)]) rfl rfl ?_
    refine go_a (pc' := 36) (ls' := [some (.ref x), some (.int 1)]) (st' := []) rfl rfl ?_
    refine go_a (pc' := 37) (ls' := [some (.ref x), some (.int 1)]) (st' := [(.ref x)]) rfl rfl ?_
    refine go_get rfl hx rfl f3 ?_
    refine go_get rfl hq0 rfl g8 ?_
    exact go_r rfl rfl rfl rfl rfl rfl ⟨rfl, rfl⟩
  by_cases e2 : n = 2
  · subst e2
    refine go_a (pc' := 1) (ls' := [some (.ref x), some (.int 2)]) (st' := [(.int 2)]) rfl rfl ?_
    refine go_a (pc' := 44) (ls' := [some (.ref x), some (.int 2)]) (st' := []) rfl rfl ?_
    refine go_a (pc' := 45) (ls' := [some (.ref x), some (.int 2)]) (st' := [(.ref x)]) rfl rfl ?_
    refine go_get rfl hx rfl f9 ?_
    exact go_r rfl rfl rfl rfl rfl rfl ⟨rfl, rfl⟩
  refine go_a (pc' := 1) (ls' := [some (.ref x), some (.int n)]) (st' := [(.int n)]) rfl rfl ?_
  refine go_a (pc' := 49) (ls' := [some (.ref x), some (.int n)]) (st' := []) rfl (by
    show xa_table 48 0 2 #[27, 35, 43] 1 [some (.ref x), some (.int n)] [.int n] = _
    unfold xa_table
    dsimp only
    rw [if_pos (xf_not e0 e1 e2)]
    rfl) ?_
  refine go_a (pc' := 50) (ls' := [some (.ref x), some (.int n)]) (st' := [(.int (-1))]) rfl rfl ?_
  refine go_r rfl rfl rfl rfl rfl rfl ⟨?_, rfl⟩
  unfold xf_fault
  rw [if_neg e0, if_neg e1, if_neg e2]
theorem xm_asize (z : Value) (d a : Nat) (v w0 : Value) (hp : xx_H) (ha : hp[a]? = some (.inr (4, [v, .int 0, w0]))) : xx_cl (xt_P z) (d + 1) 47 [.ref a] hp (fun w h1 => w = some (.int 0) ∧ h1 = hp) := by
  refine cl_go rfl ?_
  show xx_go (xt_P z) d 47 0 [some (.ref a)] [] (hp) _
  refine go_a (pc' := 1) (ls' := [some (.ref a)]) (st' := [(.ref a)]) rfl rfl ?_
  refine go_get rfl ha rfl rfl ?_
  exact go_r rfl rfl rfl rfl rfl rfl ⟨rfl, rfl⟩
theorem xm_functions (z : Value) (d b a : Nat) (v w0 : Value) (fs : List Value) (hp : xx_H) (hb : hp[b]? = some (.inr (5, fs))) (hf : fs[1]? = some (.ref a)) (ha : hp[a]? = some (.inr (4, [v, .int 0, w0]))) : xx_cl (xt_P z) (d + 2) 46 [.ref b] hp (fun w h1 => w = some (.int 0) ∧ h1 = hp) := by
  refine cl_go rfl ?_
  show xx_go (xt_P z) (d + 1) 46 0 [some (.ref b)] [] (hp) _
  refine go_a (pc' := 1) (ls' := [some (.ref b)]) (st' := [(.ref b)]) rfl rfl ?_
  refine go_get rfl hb rfl hf ?_
  refine go_v (m := 47) (as := [.ref a]) (r := []) rfl rfl rfl ha rfl rfl (xm_asize z d a v w0 hp ha) (fun w h5 hq => ?_)
  obtain ⟨rfl, rfl⟩ := hq
  exact go_r rfl rfl rfl rfl rfl rfl ⟨rfl, rfl⟩
theorem xm_theorems (z : Value) (d b a : Nat) (v w0 : Value) (fs : List Value) (hp : xx_H) (hb : hp[b]? = some (.inr (5, fs))) (hf : fs[2]? = some (.ref a)) (ha : hp[a]? = some (.inr (4, [v, .int 0, w0]))) : xx_cl (xt_P z) (d + 2) 48 [.ref b] hp (fun w h1 => w = some (.int 0) ∧ h1 = hp) := by
  refine cl_go rfl ?_
  show xx_go (xt_P z) (d + 1) 48 0 [some (.ref b)] [] (hp) _
  refine go_a (pc' := 1) (ls' := [some (.ref b)]) (st' := [(.ref b)]) rfl rfl ?_
  refine go_get rfl hb rfl hf ?_
  refine go_v (m := 47) (as := [.ref a]) (r := []) rfl rfl rfl ha rfl rfl (xm_asize z d a v w0 hp ha) (fun w h5 hq => ?_)
  obtain ⟨rfl, rfl⟩ := hq
  exact go_r rfl rfl rfl rfl rfl rfl ⟨rfl, rfl⟩
theorem xm_count (z : Value) (d x : Nat) (n : Int32) (b a0 a1 : Nat) (v w0 : Value) (fs gs : List Value) (hp : xx_H) (hx : hp[x]? = some (.inr (9, fs))) (f5 : fs[5]? = some (.ref b)) (f11 : fs[11]? = some (.int 0)) (hb : hp[b]? = some (.inr (5, gs))) (g0 : gs[1]? = some (.ref a0)) (g1 : gs[2]? = some (.ref a1)) (ha0 : hp[a0]? = some (.inr (4, [v, .int 0, w0]))) (ha1 : hp[a1]? = some (.inr (4, [v, .int 0, w0]))) : xx_cl (xt_P z) (d + 3) 52 [.ref x, .int n] hp (fun w h1 => w = some (.int (xf_count n)) ∧ h1 = hp) := by
  refine cl_go rfl ?_
  show xx_go (xt_P z) (d + 2) 52 0 [some (.ref x), some (.int n)] [] hp _
  by_cases e0 : n = 0
  · subst e0
    refine go_a (pc' := 1) (ls' := [some (.ref x), some (.int 0)]) (st' := [(.int 0)]) rfl rfl ?_
    refine go_a (pc' := 28) (ls' := [some (.ref x), some (.int 0)]) (st' := []) rfl rfl ?_
    refine go_a (pc' := 29) (ls' := [some (.ref x), some (.int 0)]) (st' := [(.ref x)]) rfl rfl ?_
    refine go_get rfl hx rfl f5 ?_
    refine go_v (m := 46) (as := [.ref b]) (r := []) rfl rfl rfl hb rfl rfl (xm_functions z d b a0 v w0 gs hp hb g0 ha0) (fun w h5 hq => ?_)
    obtain ⟨rfl, rfl⟩ := hq
    exact go_r rfl rfl rfl rfl rfl rfl ⟨rfl, rfl⟩
  by_cases e1 : n = 1
  · subst e1
    refine go_a (pc' := 1) (ls' := [some (.ref x), some (.int 1)]) (st' := [(.int 1)]) rfl rfl ?_
    refine go_a (pc' := 36) (ls' := [some (.ref x), some (.int 1)]) (st' := []) rfl rfl ?_
    refine go_a (pc' := 37) (ls' := [some (.ref x), some (.int 1)]) (st' := [(.ref x)]) rfl rfl ?_
    refine go_get rfl hx rfl f5 ?_
    refine go_v (m := 48) (as := [.ref b]) (r := []) rfl rfl rfl hb rfl rfl (xm_theorems z d b a1 v w0 gs hp hb g1 ha1) (fun w h5 hq => ?_)
    obtain ⟨rfl, rfl⟩ := hq
    exact go_r rfl rfl rfl rfl rfl rfl ⟨rfl, rfl⟩
  by_cases e2 : n = 2
  · subst e2
    refine go_a (pc' := 1) (ls' := [some (.ref x), some (.int 2)]) (st' := [(.int 2)]) rfl rfl ?_
    refine go_a (pc' := 44) (ls' := [some (.ref x), some (.int 2)]) (st' := []) rfl rfl ?_
    refine go_a (pc' := 45) (ls' := [some (.ref x), some (.int 2)]) (st' := [(.ref x)]) rfl rfl ?_
    refine go_get rfl hx rfl f11 ?_
    exact go_r rfl rfl rfl rfl rfl rfl ⟨rfl, rfl⟩
  refine go_a (pc' := 1) (ls' := [some (.ref x), some (.int n)]) (st' := [(.int n)]) rfl rfl ?_
  refine go_a (pc' := 49) (ls' := [some (.ref x), some (.int n)]) (st' := []) rfl (by
    show xa_table 48 0 2 #[27, 35, 43] 1 [some (.ref x), some (.int n)] [.int n] = _
    unfold xa_table
    dsimp only
    rw [if_pos (xf_not e0 e1 e2)]
    rfl) ?_
  refine go_a (pc' := 50) (ls' := [some (.ref x), some (.int n)]) (st' := [(.int (-1))]) rfl rfl ?_
  refine go_r rfl rfl rfl rfl rfl rfl ⟨?_, rfl⟩
  unfold xf_count
  rw [if_neg e0, if_neg e1, if_neg e2]
theorem xf_ge0 {k : Int32} (h : decide (k < 0) = false) : decide ((0 : Int32) ≤ k) = true := by
  apply decide_eq_true
  have h := of_decide_eq_false h
  rw [Int32.le_iff_toInt_le]
  rw [Int32.lt_iff_toInt_lt] at h
  omega
theorem xm_thing0 (z : Value) (d b a : Nat) (k : Int32) (v w0 : Value) (fs : List Value) (hp : xx_H) (hb : hp[b]? = some (.inr (5, fs))) (hf : fs[0]? = some (.ref a)) (ha : hp[a]? = some (.inr (4, [v, .int 0, w0]))) : xx_cl (xt_P z) (d + 2) 58 [.ref b, .int k] hp (fun w h1 => w = some .null ∧ h1 = hp) := by
  have last : xx_go (xt_P z) (d + 1) 58 29 [some (.ref b), some (.int k)] [] hp (fun w h1 => w = some .null ∧ h1 = hp) := by
    refine go_a (pc' := 30) (ls' := [some (.ref b), some (.int k)]) (st' := [.null]) rfl rfl ?_
    exact go_r rfl rfl rfl rfl rfl rfl ⟨rfl, rfl⟩
  refine cl_go rfl ?_
  show xx_go (xt_P z) (d + 1) 58 0 [some (.ref b), some (.int k)] [] (hp) _
  refine go_a (pc' := 1) (ls' := [some (.ref b), some (.int k)]) (st' := [(.int k)]) rfl rfl ?_
  refine go_if (t := 29) (off := 28) (r := []) rfl rfl rfl (fun _ => last) (fun hk => ?_)
  refine go_a (pc' := 5) (ls' := [some (.ref b), some (.int k)]) (st' := [(.int k)]) rfl rfl ?_
  refine go_a (pc' := 6) (ls' := [some (.ref b), some (.int k)]) (st' := [(.ref b), (.int k)]) rfl rfl ?_
  refine go_get rfl hb rfl hf ?_
  refine go_v (m := 47) (as := [.ref a]) (r := [.int k]) rfl rfl rfl ha rfl rfl (xm_asize z d a v w0 hp ha) (fun w h5 hq => ?_)
  obtain ⟨rfl, rfl⟩ := hq
  exact go_if (t := 29) (off := 17) (r := []) rfl rfl rfl (fun _ => last) (fun hf2 => absurd (xf_ge0 hk) (by rw [show decide ((0 : Int32) ≤ k) = false from hf2]; decide))
theorem xm_tell0 (z : Value) (d x b a : Nat) (k : Int32) (v w0 : Value) (fs gs : List Value) (hp : xx_H) (hx : hp[x]? = some (.inr (9, fs))) (f5 : fs[5]? = some (.ref b)) (hb : hp[b]? = some (.inr (5, gs))) (hf : gs[0]? = some (.ref a)) (ha : hp[a]? = some (.inr (4, [v, .int 0, w0]))) : xx_cl (xt_P z) (d + 3) 57 [.ref x, .int k] hp (fun w h1 => w = some (.int (-1)) ∧ h1 = hp) := by
  refine cl_go rfl ?_
  show xx_go (xt_P z) (d + 2) 57 0 [some (.ref x), some (.int k), none, none] [] (hp) _
  refine go_a (pc' := 1) (ls' := [some (.ref x), some (.int k), none, none]) (st' := [(.ref x)]) rfl rfl ?_
  refine go_get rfl hx rfl f5 ?_
  refine go_a (pc' := 5) (ls' := [some (.ref x), some (.int k), none, none]) (st' := [(.int k), (.ref b)]) rfl rfl ?_
  refine go_v (m := 58) (as := [.ref b, .int k]) (r := []) rfl rfl rfl hb rfl rfl (xm_thing0 z d b a k v w0 gs hp hb hf ha) (fun w h5 hq => ?_)
  obtain ⟨rfl, rfl⟩ := hq
  refine go_a (pc' := 9) (ls' := [some (.ref x), some (.int k), some (.null), none]) (st' := []) rfl rfl ?_
  refine go_a (pc' := 10) (ls' := [some (.ref x), some (.int k), some (.null), none]) (st' := [.null]) rfl rfl ?_
  refine go_a (pc' := 13) (ls' := [some (.ref x), some (.int k), some (.null), none]) (st' := []) rfl rfl ?_
  refine go_a (pc' := 14) (ls' := [some (.ref x), some (.int k), some (.null), none]) (st' := [(.int (-1))]) rfl rfl ?_
  exact go_r rfl rfl rfl rfl rfl rfl ⟨rfl, rfl⟩
theorem xn_steps (z : Value) (d x : Nat) (v : Int32) (fs : List Value) (hp : xx_H) (hx : hp[x]? = some (.inr (13, fs))) (hf : fs[48]? = some (.int v)) : xx_cl (xt_P z) (d + 1) 75 [.ref x] hp (fun w h1 => w = some (.int v) ∧ h1 = hp) := by
  refine cl_go rfl ?_
  show xx_go (xt_P z) d 75 0 [some (.ref x)] [] (hp) _
  refine go_a (pc' := 1) (ls' := [some (.ref x)]) (st' := [(.ref x)]) rfl rfl ?_
  refine go_get rfl hx rfl hf ?_
  exact go_r rfl rfl rfl rfl rfl rfl ⟨rfl, rfl⟩
theorem xn_size (z : Value) (d x : Nat) (v : Int32) (fs : List Value) (hp : xx_H) (hx : hp[x]? = some (.inr (13, fs))) (hf : fs[15]? = some (.int v)) : xx_cl (xt_P z) (d + 1) 77 [.ref x] hp (fun w h1 => w = some (.int v) ∧ h1 = hp) := by
  refine cl_go rfl ?_
  show xx_go (xt_P z) d 77 0 [some (.ref x)] [] (hp) _
  refine go_a (pc' := 1) (ls' := [some (.ref x)]) (st' := [(.ref x)]) rfl rfl ?_
  refine go_get rfl hx rfl hf ?_
  exact go_r rfl rfl rfl rfl rfl rfl ⟨rfl, rfl⟩
theorem xn_letter0 (z : Value) (d x : Nat) (k : Int32) (fs : List Value) (hp : xx_H) (hx : hp[x]? = some (.inr (13, fs))) (hf : fs[15]? = some (.int 0)) : xx_cl (xt_P z) (d + 1) 78 [.ref x, .int k] hp (fun w h1 => w = some (.int (-1)) ∧ h1 = hp) := by
  have last : xx_go (xt_P z) d 78 21 [some (.ref x), some (.int k)] [] hp (fun w h1 => w = some (.int (-1)) ∧ h1 = hp) := by
    refine go_a (pc' := 22) (ls' := [some (.ref x), some (.int k)]) (st' := [(.int (-1))]) rfl rfl ?_
    exact go_r rfl rfl rfl rfl rfl rfl ⟨rfl, rfl⟩
  refine cl_go rfl ?_
  show xx_go (xt_P z) d 78 0 [some (.ref x), some (.int k)] [] (hp) _
  refine go_a (pc' := 1) (ls' := [some (.ref x), some (.int k)]) (st' := [(.int k)]) rfl rfl ?_
  refine go_if (t := 21) (off := 20) (r := []) rfl rfl rfl (fun _ => last) (fun hk => ?_)
  refine go_a (pc' := 5) (ls' := [some (.ref x), some (.int k)]) (st' := [(.int k)]) rfl rfl ?_
  refine go_a (pc' := 6) (ls' := [some (.ref x), some (.int k)]) (st' := [(.ref x), (.int k)]) rfl rfl ?_
  refine go_get rfl hx rfl hf ?_
  exact go_if (t := 21) (off := 12) (r := []) rfl rfl rfl (fun _ => last) (fun hf2 => absurd (xf_ge0 hk) (by rw [show decide ((0 : Int32) ≤ k) = false from hf2]; decide))
theorem xn_tell0 (z : Value) (d x : Nat) (k : Int32) (fs : List Value) (hp : xx_H) (hx : hp[x]? = some (.inr (13, fs))) (hf : fs[41]? = some (.int 0)) : xx_cl (xt_P z) (d + 1) 79 [.ref x, .int k] hp (fun w h1 => w = some (.int (-1)) ∧ h1 = hp) := by
  have last : xx_go (xt_P z) d 79 12 [some (.ref x), some (.int k), none, none, none, none] [] hp (fun w h1 => w = some (.int (-1)) ∧ h1 = hp) := by
    refine go_a (pc' := 13) (ls' := [some (.ref x), some (.int k), none, none, none, none]) (st' := [(.int (-1))]) rfl rfl ?_
    exact go_r rfl rfl rfl rfl rfl rfl ⟨rfl, rfl⟩
  refine cl_go rfl ?_
  show xx_go (xt_P z) d 79 0 [some (.ref x), some (.int k), none, none, none, none] [] (hp) _
  refine go_a (pc' := 1) (ls' := [some (.ref x), some (.int k), none, none, none, none]) (st' := [(.int k)]) rfl rfl ?_
  refine go_if (t := 12) (off := 11) (r := []) rfl rfl rfl (fun _ => last) (fun hk => ?_)
  refine go_a (pc' := 5) (ls' := [some (.ref x), some (.int k), none, none, none, none]) (st' := [(.int k)]) rfl rfl ?_
  refine go_a (pc' := 6) (ls' := [some (.ref x), some (.int k), none, none, none, none]) (st' := [(.ref x), (.int k)]) rfl rfl ?_
  refine go_get rfl hx rfl hf ?_
  exact go_if (t := 14) (off := 5) (r := []) rfl rfl rfl (fun hf2 => (by cases hk.symm.trans hf2)) (fun _ => last)
theorem xn_fault (z : Value) (d x : Nat) (n : Int32) (fs : List Value) (hp : xx_H) (hx : hp[x]? = some (.inr (13, fs))) (f0 : fs[21]? = some (.int 0)) (f1 : fs[22]? = some (.int (-1))) (f2 : fs[49]? = some (.int 0)) : xx_cl (xt_P z) (d + 1) 74 [.ref x, .int n] hp (fun w h1 => w = some (.int (xf_fault n)) ∧ h1 = hp) := by
  refine cl_go rfl ?_
  show xx_go (xt_P z) d 74 0 [some (.ref x), some (.int n)] [] hp _
  by_cases e0 : n = 0
  · subst e0
    refine go_a (pc' := 1) (ls' := [some (.ref x), some (.int 0)]) (st' := [(.int 0)]) rfl rfl ?_
    refine go_a (pc' := 4) (ls' := [some (.ref x), some (.int 0)]) (st' := []) rfl rfl ?_
    refine go_a (pc' := 5) (ls' := [some (.ref x), some (.int 0)]) (st' := [(.ref x)]) rfl rfl ?_
    refine go_get rfl hx rfl f0 ?_
    refine go_a (pc' := 36) (ls' := [some (.ref x), some (.int 0)]) (st' := [(.int 0)]) rfl rfl ?_
    exact go_r rfl rfl rfl rfl rfl rfl ⟨rfl, rfl⟩
  by_cases e1 : n = 1
  · subst e1
    refine go_a (pc' := 1) (ls' := [some (.ref x), some (.int 1)]) (st' := [(.int 1)]) rfl rfl ?_
    refine go_a (pc' := 11) (ls' := [some (.ref x), some (.int 1)]) (st' := []) rfl rfl ?_
    refine go_a (pc' := 12) (ls' := [some (.ref x), some (.int 1)]) (st' := [(.int 1)]) rfl rfl ?_
    refine go_a (pc' := 13) (ls' := [some (.ref x), some (.int 1)]) (st' := [(.int 1), (.int 1)]) rfl rfl ?_
    refine go_a (pc' := 16) (ls' := [some (.ref x), some (.int 1)]) (st' := []) rfl rfl ?_
    refine go_a (pc' := 17) (ls' := [some (.ref x), some (.int 1)]) (st' := [(.ref x)]) rfl rfl ?_
    refine go_get rfl hx rfl f1 ?_
    refine go_a (pc' := 36) (ls' := [some (.ref x), some (.int 1)]) (st' := [(.int (-1))]) rfl rfl ?_
    exact go_r rfl rfl rfl rfl rfl rfl ⟨rfl, rfl⟩
  by_cases e2 : n = 2
  · subst e2
    refine go_a (pc' := 1) (ls' := [some (.ref x), some (.int 2)]) (st' := [(.int 2)]) rfl rfl ?_
    refine go_a (pc' := 11) (ls' := [some (.ref x), some (.int 2)]) (st' := []) rfl rfl ?_
    refine go_a (pc' := 12) (ls' := [some (.ref x), some (.int 2)]) (st' := [(.int 2)]) rfl rfl ?_
    refine go_a (pc' := 13) (ls' := [some (.ref x), some (.int 2)]) (st' := [(.int 1), (.int 2)]) rfl rfl ?_
    refine go_a (pc' := 23) (ls' := [some (.ref x), some (.int 2)]) (st' := []) rfl rfl ?_
    refine go_a (pc' := 24) (ls' := [some (.ref x), some (.int 2)]) (st' := [(.int 2)]) rfl rfl ?_
    refine go_a (pc' := 25) (ls' := [some (.ref x), some (.int 2)]) (st' := [(.int 2), (.int 2)]) rfl rfl ?_
    refine go_a (pc' := 28) (ls' := [some (.ref x), some (.int 2)]) (st' := []) rfl rfl ?_
    refine go_a (pc' := 29) (ls' := [some (.ref x), some (.int 2)]) (st' := [(.ref x)]) rfl rfl ?_
    refine go_get rfl hx rfl f2 ?_
    refine go_a (pc' := 36) (ls' := [some (.ref x), some (.int 2)]) (st' := [(.int 0)]) rfl rfl ?_
    exact go_r rfl rfl rfl rfl rfl rfl ⟨rfl, rfl⟩
  refine go_a (pc' := 1) (ls' := [some (.ref x), some (.int n)]) (st' := [(.int n)]) rfl rfl ?_
  refine go_if (t := 11) (off := 10) (r := []) rfl rfl rfl (fun _ => ?_) (fun hf => absurd (of_decide_eq_false hf) (fun q => q e0))
  refine go_a (pc' := 12) (ls' := [some (.ref x), some (.int n)]) (st' := [(.int n)]) rfl rfl ?_
  refine go_a (pc' := 13) (ls' := [some (.ref x), some (.int n)]) (st' := [(.int 1), (.int n)]) rfl rfl ?_
  refine go_if (t := 23) (off := 10) (r := []) rfl rfl rfl (fun _ => ?_) (fun hf => absurd (of_decide_eq_false hf) (fun q => q e1))
  refine go_a (pc' := 24) (ls' := [some (.ref x), some (.int n)]) (st' := [(.int n)]) rfl rfl ?_
  refine go_a (pc' := 25) (ls' := [some (.ref x), some (.int n)]) (st' := [(.int 2), (.int n)]) rfl rfl ?_
  refine go_if (t := 35) (off := 10) (r := []) rfl rfl rfl (fun _ => ?_) (fun hf => absurd (of_decide_eq_false hf) (fun q => q e2))
  refine go_a (pc' := 36) (ls' := [some (.ref x), some (.int n)]) (st' := [(.int (-1))]) rfl rfl ?_
  refine go_r rfl rfl rfl rfl rfl rfl ⟨?_, rfl⟩
  unfold xf_fault
  rw [if_neg e0, if_neg e1, if_neg e2]
theorem xn_count (z : Value) (d x : Nat) (n : Int32) (fs : List Value) (hp : xx_H) (hx : hp[x]? = some (.inr (13, fs))) (f0 : fs[32]? = some (.int 0)) (f1 : fs[38]? = some (.int 0)) (f2 : fs[50]? = some (.int 0)) : xx_cl (xt_P z) (d + 1) 76 [.ref x, .int n] hp (fun w h1 => w = some (.int (xf_count n)) ∧ h1 = hp) := by
  refine cl_go rfl ?_
  show xx_go (xt_P z) d 76 0 [some (.ref x), some (.int n)] [] hp _
  by_cases e0 : n = 0
  · subst e0
    refine go_a (pc' := 1) (ls' := [some (.ref x), some (.int 0)]) (st' := [(.int 0)]) rfl rfl ?_
    refine go_a (pc' := 4) (ls' := [some (.ref x), some (.int 0)]) (st' := []) rfl rfl ?_
    refine go_a (pc' := 5) (ls' := [some (.ref x), some (.int 0)]) (st' := [(.ref x)]) rfl rfl ?_
    refine go_get rfl hx rfl f0 ?_
    refine go_a (pc' := 36) (ls' := [some (.ref x), some (.int 0)]) (st' := [(.int 0)]) rfl rfl ?_
    exact go_r rfl rfl rfl rfl rfl rfl ⟨rfl, rfl⟩
  by_cases e1 : n = 1
  · subst e1
    refine go_a (pc' := 1) (ls' := [some (.ref x), some (.int 1)]) (st' := [(.int 1)]) rfl rfl ?_
    refine go_a (pc' := 11) (ls' := [some (.ref x), some (.int 1)]) (st' := []) rfl rfl ?_
    refine go_a (pc' := 12) (ls' := [some (.ref x), some (.int 1)]) (st' := [(.int 1)]) rfl rfl ?_
    refine go_a (pc' := 13) (ls' := [some (.ref x), some (.int 1)]) (st' := [(.int 1), (.int 1)]) rfl rfl ?_
    refine go_a (pc' := 16) (ls' := [some (.ref x), some (.int 1)]) (st' := []) rfl rfl ?_
    refine go_a (pc' := 17) (ls' := [some (.ref x), some (.int 1)]) (st' := [(.ref x)]) rfl rfl ?_
    refine go_get rfl hx rfl f1 ?_
    refine go_a (pc' := 36) (ls' := [some (.ref x), some (.int 1)]) (st' := [(.int 0)]) rfl rfl ?_
    exact go_r rfl rfl rfl rfl rfl rfl ⟨rfl, rfl⟩
  by_cases e2 : n = 2
  · subst e2
    refine go_a (pc' := 1) (ls' := [some (.ref x), some (.int 2)]) (st' := [(.int 2)]) rfl rfl ?_
    refine go_a (pc' := 11) (ls' := [some (.ref x), some (.int 2)]) (st' := []) rfl rfl ?_
    refine go_a (pc' := 12) (ls' := [some (.ref x), some (.int 2)]) (st' := [(.int 2)]) rfl rfl ?_
    refine go_a (pc' := 13) (ls' := [some (.ref x), some (.int 2)]) (st' := [(.int 1), (.int 2)]) rfl rfl ?_
    refine go_a (pc' := 23) (ls' := [some (.ref x), some (.int 2)]) (st' := []) rfl rfl ?_
    refine go_a (pc' := 24) (ls' := [some (.ref x), some (.int 2)]) (st' := [(.int 2)]) rfl rfl ?_
    refine go_a (pc' := 25) (ls' := [some (.ref x), some (.int 2)]) (st' := [(.int 2), (.int 2)]) rfl rfl ?_
    refine go_a (pc' := 28) (ls' := [some (.ref x), some (.int 2)]) (st' := []) rfl rfl ?_
    refine go_a (pc' := 29) (ls' := [some (.ref x), some (.int 2)]) (st' := [(.ref x)]) rfl rfl ?_
    refine go_get rfl hx rfl f2 ?_
    refine go_a (pc' := 36) (ls' := [some (.ref x), some (.int 2)]) (st' := [(.int 0)]) rfl rfl ?_
    exact go_r rfl rfl rfl rfl rfl rfl ⟨rfl, rfl⟩
  refine go_a (pc' := 1) (ls' := [some (.ref x), some (.int n)]) (st' := [(.int n)]) rfl rfl ?_
  refine go_if (t := 11) (off := 10) (r := []) rfl rfl rfl (fun _ => ?_) (fun hf => absurd (of_decide_eq_false hf) (fun q => q e0))
  refine go_a (pc' := 12) (ls' := [some (.ref x), some (.int n)]) (st' := [(.int n)]) rfl rfl ?_
  refine go_a (pc' := 13) (ls' := [some (.ref x), some (.int n)]) (st' := [(.int 1), (.int n)]) rfl rfl ?_
  refine go_if (t := 23) (off := 10) (r := []) rfl rfl rfl (fun _ => ?_) (fun hf => absurd (of_decide_eq_false hf) (fun q => q e1))
  refine go_a (pc' := 24) (ls' := [some (.ref x), some (.int n)]) (st' := [(.int n)]) rfl rfl ?_
  refine go_a (pc' := 25) (ls' := [some (.ref x), some (.int n)]) (st' := [(.int 2), (.int n)]) rfl rfl ?_
  refine go_if (t := 35) (off := 10) (r := []) rfl rfl rfl (fun _ => ?_) (fun hf => absurd (of_decide_eq_false hf) (fun q => q e2))
  refine go_a (pc' := 36) (ls' := [some (.ref x), some (.int n)]) (st' := [(.int (-1))]) rfl rfl ?_
  refine go_r rfl rfl rfl rfl rfl rfl ⟨?_, rfl⟩
  unfold xf_count
  rw [if_neg e0, if_neg e1, if_neg e2]
theorem xn_fuel (z : Value) (d x : Nat) (n u : Int32) (fs : List Value) (h : xx_H) (hx : h[x]? = some (.inr (13, fs))) (hc : 11 ≤ x) (hl : fs.length = 86) (hf : fs[47]? = some (.int u)) : xx_cl (xt_P z) (d + 1) 68 [.ref x, .int n] h (fun w h1 => ((n < 1 ∨ ¬ n ≤ 1000) ∧ w = some (.int (-1)) ∧ h1 = h) ∨ (¬ (n < 1 ∨ ¬ n ≤ 1000) ∧ w = some (.int u) ∧ h1 = h.set x (.inr (13, fs.set 47 (.int n))))) := by
  have last : (n < 1 ∨ ¬ n ≤ 1000) → xx_go (xt_P z) d 68 12 [some (.ref x), some (.int n), none] [] h (fun w h1 => ((n < 1 ∨ ¬ n ≤ 1000) ∧ w = some (.int (-1)) ∧ h1 = h) ∨ (¬ (n < 1 ∨ ¬ n ≤ 1000) ∧ w = some (.int u) ∧ h1 = h.set x (.inr (13, fs.set 47 (.int n))))) := by
    intro hn
    refine go_a (pc' := 13) (ls' := [some (.ref x), some (.int n), none]) (st' := [(.int (-1))]) rfl rfl ?_
    exact go_r rfl rfl rfl rfl rfl rfl (Or.inl ⟨hn, rfl, rfl⟩)
  refine cl_go rfl ?_
  show xx_go (xt_P z) d 68 0 [some (.ref x), some (.int n), none] [] h _
  refine go_a (pc' := 1) (ls' := [some (.ref x), some (.int n), none]) (st' := [(.int n)]) rfl rfl ?_
  refine go_a (pc' := 2) (ls' := [some (.ref x), some (.int n), none]) (st' := [(.int 1), (.int n)]) rfl rfl ?_
  refine go_if (t := 12) (off := 10) (b := decide (n < 1)) (r := []) rfl rfl rfl (fun hb => last (Or.inl (of_decide_eq_true hb))) (fun h1 => ?_)
  refine go_a (pc' := 6) (ls' := [some (.ref x), some (.int n), none]) (st' := [(.int n)]) rfl rfl ?_
  refine go_a (pc' := 9) (ls' := [some (.ref x), some (.int n), none]) (st' := [(.int 1000), (.int n)]) rfl rfl ?_
  refine go_if (t := 14) (off := 5) (b := decide (n ≤ 1000)) (r := []) rfl rfl rfl (fun h2 => ?_) (fun hb => last (Or.inr (of_decide_eq_false hb)))
  refine go_a (pc' := 15) (ls' := [some (.ref x), some (.int n), none]) (st' := [(.ref x)]) rfl rfl ?_
  refine go_get rfl hx rfl hf ?_
  refine go_a (pc' := 19) (ls' := [some (.ref x), some (.int n), some (.int u)]) (st' := []) rfl rfl ?_
  refine go_a (pc' := 20) (ls' := [some (.ref x), some (.int n), some (.int u)]) (st' := [(.ref x)]) rfl rfl ?_
  refine go_a (pc' := 21) (ls' := [some (.ref x), some (.int n), some (.int u)]) (st' := [(.int n), (.ref x)]) rfl rfl ?_
  refine go_put (j := 47) rfl hx rfl rfl hc (by omega) rfl rfl ?_
  refine go_a (pc' := 25) (ls' := [some (.ref x), some (.int n), some (.int u)]) (st' := [(.int u)]) rfl rfl ?_
  refine go_r rfl rfl rfl rfl rfl rfl (Or.inr ⟨?_, rfl, rfl⟩)
  intro hn
  rcases hn with hn | hn
  · exact of_decide_eq_false h1 hn
  · exact hn (of_decide_eq_true h2)
