/-! the JDK's String, on our constants: a String is (14, [.ref v, .int 0]), its bytes an array of byte -/
theorem xm_coder (z : Value) (d a v : Nat) (h : xx_H) (ha : h[a]? = some (.inr (14, [.ref v, .int 0]))) : xx_cl (xt_P z) (d + 1) 7 [.ref a] h (fun w h1 => w = some (.int 0) ∧ h1 = h) := by
  refine cl_go rfl ?_
  show xx_go (xt_P z) d 7 0 [some (.ref a)] [] h _
  refine go_b (pc' := 3) (st' := [.int 1]) (h' := h) rfl rfl rfl ?_
  refine go_a (pc' := 6) (ls' := [some (.ref a)]) (st' := []) rfl rfl ?_
  refine go_a (pc' := 7) (ls' := [some (.ref a)]) (st' := [(.ref a)]) rfl rfl ?_
  refine go_get rfl ha rfl rfl ?_
  refine go_a (pc' := 14) (ls' := [some (.ref a)]) (st' := [(.int 0)]) rfl rfl ?_
  exact go_r rfl rfl rfl rfl rfl rfl ⟨rfl, rfl⟩
theorem xm_latin (z : Value) (d a v : Nat) (h : xx_H) (ha : h[a]? = some (.inr (14, [.ref v, .int 0]))) : xx_cl (xt_P z) (d + 1) 9 [.ref a] h (fun w h1 => w = some (.int 1) ∧ h1 = h) := by
  refine cl_go rfl ?_
  show xx_go (xt_P z) d 9 0 [some (.ref a)] [] h _
  refine go_b (pc' := 3) (st' := [.int 1]) (h' := h) rfl rfl rfl ?_
  refine go_a (pc' := 6) (ls' := [some (.ref a)]) (st' := []) rfl rfl ?_
  refine go_a (pc' := 7) (ls' := [some (.ref a)]) (st' := [(.ref a)]) rfl rfl ?_
  refine go_get rfl ha rfl rfl ?_
  refine go_a (pc' := 13) (ls' := [some (.ref a)]) (st' := []) rfl rfl ?_
  refine go_a (pc' := 14) (ls' := [some (.ref a)]) (st' := [(.int 1)]) rfl rfl ?_
  refine go_a (pc' := 18) (ls' := [some (.ref a)]) (st' := [(.int 1)]) rfl rfl ?_
  exact go_r rfl rfl rfl rfl rfl rfl ⟨rfl, rfl⟩
theorem xm_slen (z : Value) (d a v : Nat) (h : xx_H) (bs : List Value) (ha : h[a]? = some (.inr (14, [.ref v, .int 0]))) (hv : h[v]? = some (.inl (.byte, bs))) (hb : bs.length < 2 ^ 31) : xx_cl (xt_P z) (d + 2) 6 [.ref a] h (fun w h1 => w = some (.int (nI bs.length)) ∧ h1 = h) := by
  refine cl_go rfl ?_
  show xx_go (xt_P z) (d + 1) 6 0 [some (.ref a)] [] h _
  refine go_a (pc' := 1) (ls' := [some (.ref a)]) (st' := [(.ref a)]) rfl rfl ?_
  refine go_get rfl ha rfl rfl ?_
  refine go_len rfl hv ?_
  refine go_a (pc' := 6) (ls' := [some (.ref a)]) (st' := [(.ref a), (.int (nI bs.length))]) rfl rfl ?_
  refine go_v (m := 7) (as := [.ref a]) (r := [.int (nI bs.length)]) rfl rfl rfl ha rfl rfl (xm_coder z d a v h ha) (fun w h1 hq => ?_)
  obtain ⟨rfl, rfl⟩ := hq
  refine go_a (pc' := 10) (ls' := [some (.ref a)]) (st' := [.int (nI bs.length)]) rfl (by
    show some (10, [some (Value.ref a)], [Value.int (nI bs.length >>> ((0 : Int32) &&& 31))]) = _
    rw [sb_shr0]) ?_
  exact go_r rfl rfl rfl rfl rfl rfl ⟨rfl, rfl⟩
theorem xm_chk (z y : Value) (hy : y = .null ∨ ∃ k, y = .ref k) (d : Nat) (i n : Nat) (h : xx_H) (hi : i < n) (hn : n < 2 ^ 31) : xx_cl (xt_P z) (d + 1) 12 [.int (nI i), .int (nI n), y] h (fun w h1 => w = some (.int (nI i)) ∧ h1 = h) := by
  have he : xx_args [.int (nI i), .int (nI n), y] = [some (.int (nI i)), some (.int (nI n)), some y] := by rcases hy with rfl | ⟨k, rfl⟩ <;> rfl
  refine cl_go (by rw [he]; rfl) ?_
  unfold xx_ent
  rw [he]
  show xx_go (xt_P z) d 12 0 [some (.int (nI i)), some (.int (nI n)), some y] [] h _
  refine go_a (pc' := 1) (ls' := [some (.int (nI i)), some (.int (nI n)), some (y)]) (st' := [(.int (nI i))]) rfl rfl ?_
  refine go_if (t := 9) (off := 8) (b := decide (nI i < 0)) (r := []) rfl rfl rfl (fun hf => absurd (of_decide_eq_true hf) (nI_pos (by omega))) (fun _ => ?_)
  refine go_a (pc' := 5) (ls' := [some (.int (nI i)), some (.int (nI n)), some (y)]) (st' := [(.int (nI i))]) rfl rfl ?_
  refine go_a (pc' := 6) (ls' := [some (.int (nI i)), some (.int (nI n)), some (y)]) (st' := [(.int (nI n)), (.int (nI i))]) rfl rfl ?_
  refine go_if (t := 16) (off := 10) (b := decide (nI i < nI n)) (r := []) rfl rfl rfl (fun _ => ?_) (fun hf => absurd (nI_lt hi hn) (of_decide_eq_false hf))
  refine go_a (pc' := 17) (ls' := [some (.int (nI i)), some (.int (nI n)), some (y)]) (st' := [(.int (nI i))]) rfl rfl ?_
  exact go_r rfl rfl rfl rfl rfl rfl ⟨rfl, rfl⟩
theorem xm_chk2 (z : Value) (hz : z = .null ∨ ∃ k, z = .ref k) (d : Nat) (i n : Nat) (h : xx_H) (hi : i < n) (hn : n < 2 ^ 31) : xx_cl (xt_P z) (d + 2) 11 [.int (nI i), .int (nI n)] h (fun w h1 => w = none ∧ h1 = h) := by
  refine cl_go rfl ?_
  show xx_go (xt_P z) (d + 1) 11 0 [some (.int (nI i)), some (.int (nI n))] [] h _
  refine go_a (pc' := 1) (ls' := [some (.int (nI i)), some (.int (nI n))]) (st' := [(.int (nI i))]) rfl rfl ?_
  refine go_a (pc' := 2) (ls' := [some (.int (nI i)), some (.int (nI n))]) (st' := [(.int (nI n)), (.int (nI i))]) rfl rfl ?_
  refine go_b (pc' := 5) (st' := [z, .int (nI n), .int (nI i)]) (h' := h) rfl rfl rfl ?_
  refine go_s (m := 12) (as := [.int (nI i), .int (nI n), z]) (r := []) rfl (by rcases hz with rfl | ⟨k, rfl⟩ <;> rfl) rfl rfl (xm_chk z z hz d i n h hi hn) (fun w h1 hq => ?_)
  obtain ⟨rfl, rfl⟩ := hq
  refine go_a (pc' := 9) (ls' := [some (.int (nI i)), some (.int (nI n))]) (st' := []) rfl rfl ?_
  exact go_r rfl rfl rfl rfl rfl rfl ⟨rfl, rfl⟩
