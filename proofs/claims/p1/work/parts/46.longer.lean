/-! indexOf(int), on; Cells.longerCode: an answer, nothing changed -/
theorem xm_latix (z : Value) (d v c : Nat) (h : xx_H) (bs : List Value) (hv : h[v]? = some (.inl (.byte, bs))) (h0 : 0 < bs.length) (hb : bs.length < 2 ^ 31) (hbs : ∀ j, j < bs.length → ∃ x : Int32, bs[j]? = some (.int x)) (hc : c < 128) : xx_cl (xt_P z) (d + 2) 19 [.ref v, .int (nI c), .int 0, .int (nI bs.length)] h (fun w h1 => ∃ x : Int32, w = some (.int x) ∧ h1 = h) := by
  refine cl_go rfl ?_
  show xx_go (xt_P z) (d + 1) 19 0 [some (.ref v), some (.int (nI c)), some (.int 0), some (.int (nI bs.length))] [] h _
  refine go_a (pc' := 1) (ls' := [some (.ref v), some (.int (nI c)), some (.int 0), some (.int (nI bs.length))]) (st' := [(.int (nI c))]) rfl rfl ?_
  refine go_s (m := 20) (as := [.int (nI c)]) (r := []) rfl rfl rfl rfl (xm_canenc z d c h hc) (fun w h1 hq => ?_)
  obtain ⟨rfl, rfl⟩ := hq
  refine go_a (pc' := 9) (ls' := [some (.ref v), some (.int (nI c)), some (.int 0), some (.int (nI bs.length))]) (st' := []) rfl rfl ?_
  refine go_a (pc' := 10) (ls' := [some (.ref v), some (.int (nI c)), some (.int 0), some (.int (nI bs.length))]) (st' := [(.int 0)]) rfl rfl ?_
  refine go_a (pc' := 11) (ls' := [some (.ref v), some (.int (nI c)), some (.int 0), some (.int (nI bs.length))]) (st' := [(.int 0), (.int 0)]) rfl rfl ?_
  refine go_o (st' := [.int 0]) rfl rfl rfl rfl ?_
  refine go_a (pc' := 15) (ls' := [some (.ref v), some (.int (nI c)), some (.int 0), some (.int (nI bs.length))]) (st' := []) rfl rfl ?_
  refine go_a (pc' := 16) (ls' := [some (.ref v), some (.int (nI c)), some (.int 0), some (.int (nI bs.length))]) (st' := [(.int (nI bs.length))]) rfl rfl ?_
  refine go_a (pc' := 17) (ls' := [some (.ref v), some (.int (nI c)), some (.int 0), some (.int (nI bs.length))]) (st' := [(.ref v), (.int (nI bs.length))]) rfl rfl ?_
  refine go_len rfl hv ?_
  refine go_o (st' := [.int (nI bs.length)]) rfl rfl rfl (by
    show some [Value.int (if nI bs.length < nI bs.length then nI bs.length else nI bs.length)] = _
    rw [ite_self]) ?_
  refine go_a (pc' := 22) (ls' := [some (.ref v), some (.int (nI c)), some (.int 0), some (.int (nI bs.length))]) (st' := []) rfl rfl ?_
  refine go_a (pc' := 23) (ls' := [some (.ref v), some (.int (nI c)), some (.int 0), some (.int (nI bs.length))]) (st' := [(.int 0)]) rfl rfl ?_
  refine go_a (pc' := 24) (ls' := [some (.ref v), some (.int (nI c)), some (.int 0), some (.int (nI bs.length))]) (st' := [(.int (nI bs.length)), (.int 0)]) rfl rfl ?_
  refine go_if (t := 29) (off := 5) (b := decide ((0 : Int32) < nI bs.length)) (r := []) rfl rfl rfl (fun _ => ?_) (fun hf => absurd (show (0 : Int32) < nI bs.length from nI_lt (a := 0) h0 hb) (of_decide_eq_false hf))
  refine go_a (pc' := 30) (ls' := [some (.ref v), some (.int (nI c)), some (.int 0), some (.int (nI bs.length))]) (st' := [(.ref v)]) rfl rfl ?_
  refine go_a (pc' := 31) (ls' := [some (.ref v), some (.int (nI c)), some (.int 0), some (.int (nI bs.length))]) (st' := [(.int (nI c)), (.ref v)]) rfl rfl ?_
  refine go_a (pc' := 32) (ls' := [some (.ref v), some (.int (nI c)), some (.int 0), some (.int (nI bs.length))]) (st' := [(.int 0), (.int (nI c)), (.ref v)]) rfl rfl ?_
  refine go_a (pc' := 33) (ls' := [some (.ref v), some (.int (nI c)), some (.int 0), some (.int (nI bs.length))]) (st' := [(.int (nI bs.length)), (.int 0), (.int (nI c)), (.ref v)]) rfl rfl ?_
  refine go_s (m := 21) (as := [.ref v, .int (nI c), .int 0, .int (nI bs.length)]) (r := []) rfl rfl rfl rfl (xm_ixchar z d v bs.length (nI c) h1 bs hv (Nat.le_refl _) hb hbs) (fun w h2 hq => ?_)
  obtain ⟨x, rfl, rfl⟩ := hq
  exact go_r rfl rfl rfl rfl rfl rfl ⟨x, rfl, rfl⟩
theorem xm_ix2 (z : Value) (d a v c : Nat) (h : xx_H) (bs : List Value) (ha : h[a]? = some (.inr (14, [.ref v, .int 0]))) (hv : h[v]? = some (.inl (.byte, bs))) (h0 : 0 < bs.length) (hb : bs.length < 2 ^ 31) (hbs : ∀ j, j < bs.length → ∃ x : Int32, bs[j]? = some (.int x)) (hc : c < 128) : xx_cl (xt_P z) (d + 3) 18 [.ref a, .int (nI c), .int 0] h (fun w h1 => ∃ x : Int32, w = some (.int x) ∧ h1 = h) := by
  refine cl_go rfl ?_
  show xx_go (xt_P z) (d + 2) 18 0 [some (.ref a), some (.int (nI c)), some (.int 0)] [] h _
  refine go_a (pc' := 1) (ls' := [some (.ref a), some (.int (nI c)), some (.int 0)]) (st' := [(.ref a)]) rfl rfl ?_
  refine go_v (m := 9) (as := [.ref a]) (r := []) rfl rfl rfl ha rfl rfl (xm_latin z (d + 1) a v h ha) (fun w h1 hq => ?_)
  obtain ⟨rfl, rfl⟩ := hq
  refine go_a (pc' := 7) (ls' := [some (.ref a), some (.int (nI c)), some (.int 0)]) (st' := []) rfl rfl ?_
  refine go_a (pc' := 8) (ls' := [some (.ref a), some (.int (nI c)), some (.int 0)]) (st' := [(.ref a)]) rfl rfl ?_
  refine go_get rfl ha rfl rfl ?_
  refine go_a (pc' := 12) (ls' := [some (.ref a), some (.int (nI c)), some (.int 0)]) (st' := [(.int (nI c)), (.ref v)]) rfl rfl ?_
  refine go_a (pc' := 13) (ls' := [some (.ref a), some (.int (nI c)), some (.int 0)]) (st' := [(.int 0), (.int (nI c)), (.ref v)]) rfl rfl ?_
  refine go_a (pc' := 14) (ls' := [some (.ref a), some (.int (nI c)), some (.int 0)]) (st' := [(.ref a), (.int 0), (.int (nI c)), (.ref v)]) rfl rfl ?_
  refine go_v (m := 6) (as := [.ref a]) (r := [.int 0, .int (nI c), .ref v]) rfl rfl rfl ha rfl rfl (xm_slen z d a v h1 bs ha hv hb) (fun w h2 hq => ?_)
  obtain ⟨rfl, rfl⟩ := hq
  refine go_s (m := 19) (as := [.ref v, .int (nI c), .int 0, .int (nI bs.length)]) (r := []) rfl rfl rfl rfl (xm_latix z d v c h2 bs hv h0 hb hbs hc) (fun w h3 hq => ?_)
  obtain ⟨x, rfl, rfl⟩ := hq
  refine go_a (pc' := 36) (ls' := [some (.ref a), some (.int (nI c)), some (.int 0)]) (st' := [(.int x)]) rfl rfl ?_
  exact go_r rfl rfl rfl rfl rfl rfl ⟨x, rfl, rfl⟩
theorem xm_ix1 (z : Value) (d a v c : Nat) (h : xx_H) (bs : List Value) (ha : h[a]? = some (.inr (14, [.ref v, .int 0]))) (hv : h[v]? = some (.inl (.byte, bs))) (h0 : 0 < bs.length) (hb : bs.length < 2 ^ 31) (hbs : ∀ j, j < bs.length → ∃ x : Int32, bs[j]? = some (.int x)) (hc : c < 128) : xx_cl (xt_P z) (d + 4) 17 [.ref a, .int (nI c)] h (fun w h1 => ∃ x : Int32, w = some (.int x) ∧ h1 = h) := by
  refine cl_go rfl ?_
  show xx_go (xt_P z) (d + 3) 17 0 [some (.ref a), some (.int (nI c))] [] h _
  refine go_a (pc' := 1) (ls' := [some (.ref a), some (.int (nI c))]) (st' := [(.ref a)]) rfl rfl ?_
  refine go_a (pc' := 2) (ls' := [some (.ref a), some (.int (nI c))]) (st' := [(.int (nI c)), (.ref a)]) rfl rfl ?_
  refine go_a (pc' := 3) (ls' := [some (.ref a), some (.int (nI c))]) (st' := [(.int 0), (.int (nI c)), (.ref a)]) rfl rfl ?_
  refine go_v (m := 18) (as := [.ref a, .int (nI c), .int 0]) (r := []) rfl rfl rfl ha rfl rfl (xm_ix2 z d a v c h bs ha hv h0 hb hbs hc) (fun w h1 hq => ?_)
  obtain ⟨x, rfl, rfl⟩ := hq
  exact go_r rfl rfl rfl rfl rfl rfl ⟨x, rfl, rfl⟩
/-- Cells.longerCode(code, letter): the text LETTERS is the old cell 7, its bytes 8 -/
theorem xm_longer (z : Value) (d c : Nat) (y : Int64) (h : xx_H) (bs : List Value) (ha : h[7]? = some (.inr (14, [.ref 8, .int 0]))) (hv : h[8]? = some (.inl (.byte, bs))) (h0 : 0 < bs.length) (hb : bs.length < 2 ^ 31) (hbs : ∀ j, j < bs.length → ∃ x : Int32, bs[j]? = some (.int x)) (hc : c < 128) : xx_cl (xt_P z) (d + 5) 16 [.long y, .int (nI c)] h (fun w h1 => ∃ x : Int64, w = some (.long x) ∧ h1 = h) := by
  refine cl_go rfl ?_
  show xx_go (xt_P z) (d + 4) 16 0 [some (.long y), none, some (.int (nI c))] [] h _
  refine go_a (pc' := 1) (ls' := [some (.long y), none, some (.int (nI c))]) (st' := [(.long y)]) rfl rfl ?_
  refine go_b (pc' := 3) (st' := [.ref 7, .long y]) (h' := h) rfl rfl rfl ?_
  refine go_v (m := 6) (as := [.ref 7]) (r := [.long y]) rfl rfl rfl ha rfl rfl (xm_slen z (d + 2) 7 8 h bs ha hv hb) (fun w h1 hq => ?_)
  obtain ⟨rfl, rfl⟩ := hq
  refine go_a (pc' := 7) (ls' := [some (.long y), none, some (.int (nI c))]) (st' := [(.int 1), (.int (nI bs.length)), (.long y)]) rfl rfl ?_
  refine go_a (pc' := 8) (ls' := [some (.long y), none, some (.int (nI c))]) (st' := [.int (nI bs.length + 1), .long y]) rfl rfl ?_
  refine go_a (pc' := 9) (ls' := [some (.long y), none, some (.int (nI c))]) (st' := [.long (nI bs.length + 1).toInt64, .long y]) rfl rfl ?_
  refine go_a (pc' := 10) (ls' := [some (.long y), none, some (.int (nI c))]) (st' := [.long (y * (nI bs.length + 1).toInt64)]) rfl rfl ?_
  generalize y * (nI bs.length + 1).toInt64 = u
  refine go_b (pc' := 12) (st' := [.ref 7, .long u]) (h' := h1) rfl rfl rfl ?_
  refine go_a (pc' := 13) (ls' := [some (.long y), none, some (.int (nI c))]) (st' := [(.int (nI c)), (.ref 7), (.long u)]) rfl rfl ?_
  refine go_a (pc' := 14) (ls' := [some (.long y), none, some (.int (nI c))]) (st' := [.int (nI c), .ref 7, .long u]) rfl (by
    show some (14, _, [Value.int ((nI c).toUInt32 % 65536).toInt32, _, _]) = _
    rw [xm_c_chr hc]) ?_
  refine go_v (m := 17) (as := [.ref 7, .int (nI c)]) (r := [.long u]) rfl rfl rfl ha rfl rfl (xm_ix1 z d 7 8 c h1 bs ha hv h0 hb hbs hc) (fun w h2 hq => ?_)
  obtain ⟨x, rfl, rfl⟩ := hq
  refine go_a (pc' := 18) (ls' := [some (.long y), none, some (.int (nI c))]) (st' := [.long x.toInt64, .long u]) rfl rfl ?_
  refine go_a (pc' := 19) (ls' := [some (.long y), none, some (.int (nI c))]) (st' := [.long (u + x.toInt64)]) rfl rfl ?_
  refine go_a (pc' := 20) (ls' := [some (.long y), none, some (.int (nI c))]) (st' := [.long 1, .long (u + x.toInt64)]) rfl rfl ?_
  refine go_a (pc' := 21) (ls' := [some (.long y), none, some (.int (nI c))]) (st' := [.long (u + x.toInt64 + 1)]) rfl rfl ?_
  exact go_r rfl rfl rfl rfl rfl rfl ⟨_, rfl, rfl⟩
