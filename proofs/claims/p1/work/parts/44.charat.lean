/-! charAt on our constants: the characters are below 128 -/
theorem xm_c_and {c : Nat} (hc : c < 128) : nI c &&& 255 = nI c := by
  rw [pk_andN (by omega) 8 rfl, Nat.mod_eq_of_lt (by omega)]
theorem xm_c_chr {c : Nat} (hc : c < 128) : ((nI c).toUInt32 % 65536).toInt32 = nI c := by
  rw [pk_char, pk_tn (by omega), Nat.mod_eq_of_lt (by omega)]
theorem xm_c_fit {c : Nat} (hc : c < 128) : xx_fit .char (.int (nI c)) = true := by
  obtain ⟨h1, h2⟩ := pk_charN (q := c) (by omega)
  show (decide ((nI c).toUInt32.toUInt16.toUInt32.toInt32 = nI c) && fits .char (.int (nI c))) = true
  rw [h2, Bool.and_true]
  exact decide_eq_true (Value.int.inj h1)
theorem xm_lat_char (z : Value) (hz : z = .null ∨ ∃ k, z = .ref k) (d v i c : Nat) (h : xx_H) (bs : List Value) (hv : h[v]? = some (.inl (.byte, bs))) (hb : bs.length < 2 ^ 31) (hi : bs[i]? = some (.int (nI c))) (hc : c < 128) : xx_cl (xt_P z) (d + 3) 10 [.ref v, .int (nI i)] h (fun w h1 => w = some (.int (nI c)) ∧ h1 = h) := by
  have hl : i < bs.length := (List.getElem?_eq_some_iff.mp hi).1
  refine cl_go rfl ?_
  show xx_go (xt_P z) (d + 2) 10 0 [some (.ref v), some (.int (nI i))] [] h _
  refine go_a (pc' := 1) (ls' := [some (.ref v), some (.int (nI i))]) (st' := [(.int (nI i))]) rfl rfl ?_
  refine go_a (pc' := 2) (ls' := [some (.ref v), some (.int (nI i))]) (st' := [(.ref v), (.int (nI i))]) rfl rfl ?_
  refine go_len rfl hv ?_
  refine go_s (m := 11) (as := [.int (nI i), .int (nI bs.length)]) (r := []) rfl rfl rfl rfl (xm_chk2 z hz d i bs.length h hl hb) (fun w h1 hq => ?_)
  obtain ⟨rfl, rfl⟩ := hq
  refine go_a (pc' := 7) (ls' := [some (.ref v), some (.int (nI i))]) (st' := [(.ref v)]) rfl rfl ?_
  refine go_a (pc' := 8) (ls' := [some (.ref v), some (.int (nI i))]) (st' := [(.int (nI i)), (.ref v)]) rfl rfl ?_
  refine go_bld rfl hv (nI_pos (by omega)) (nI_clamp (by omega)) hi ?_
  refine go_a (pc' := 12) (ls' := [some (.ref v), some (.int (nI i))]) (st' := [(.int 255), (.int (nI c))]) rfl rfl ?_
  refine go_a (pc' := 13) (ls' := [some (.ref v), some (.int (nI i))]) (st' := [.int (nI c)]) rfl (by
    show some (13, _, [Value.int (nI c &&& 255)]) = _
    rw [xm_c_and hc]) ?_
  refine go_a (pc' := 14) (ls' := [some (.ref v), some (.int (nI i))]) (st' := [.int (nI c)]) rfl (by
    show some (14, _, [Value.int ((nI c).toUInt32 % 65536).toInt32]) = _
    rw [xm_c_chr hc]) ?_
  refine go_r (v := some (.int (nI c))) rfl rfl rfl rfl rfl (by
    show xa_g (xx_fit .char (.int (nI c))) _ = _
    rw [xm_c_fit hc]
    rfl) ⟨rfl, rfl⟩
theorem xm_charAt (z : Value) (hz : z = .null ∨ ∃ k, z = .ref k) (d a v i c : Nat) (h : xx_H) (bs : List Value) (ha : h[a]? = some (.inr (14, [.ref v, .int 0]))) (hv : h[v]? = some (.inl (.byte, bs))) (hb : bs.length < 2 ^ 31) (hi : bs[i]? = some (.int (nI c))) (hc : c < 128) : xx_cl (xt_P z) (d + 4) 8 [.ref a, .int (nI i)] h (fun w h1 => w = some (.int (nI c)) ∧ h1 = h) := by
  refine cl_go rfl ?_
  show xx_go (xt_P z) (d + 3) 8 0 [some (.ref a), some (.int (nI i))] [] h _
  refine go_a (pc' := 1) (ls' := [some (.ref a), some (.int (nI i))]) (st' := [(.ref a)]) rfl rfl ?_
  refine go_v (m := 9) (as := [.ref a]) (r := []) rfl rfl rfl ha rfl rfl (xm_latin z (d + 2) a v h ha) (fun w h1 hq => ?_)
  obtain ⟨rfl, rfl⟩ := hq
  refine go_a (pc' := 7) (ls' := [some (.ref a), some (.int (nI i))]) (st' := []) rfl rfl ?_
  refine go_a (pc' := 8) (ls' := [some (.ref a), some (.int (nI i))]) (st' := [(.ref a)]) rfl rfl ?_
  refine go_get rfl ha rfl rfl ?_
  refine go_a (pc' := 12) (ls' := [some (.ref a), some (.int (nI i))]) (st' := [(.int (nI i)), (.ref v)]) rfl rfl ?_
  refine go_s (m := 10) (as := [.ref v, .int (nI i)]) (r := []) rfl rfl rfl rfl (xm_lat_char z hz d v i c h1 bs hv hb hi hc) (fun w h2 hq => ?_)
  obtain ⟨rfl, rfl⟩ := hq
  refine go_r (v := some (.int (nI c))) rfl rfl rfl rfl rfl (by
    show xa_g (xx_fit .char (.int (nI c))) _ = _
    rw [xm_c_fit hc]
    rfl) ⟨rfl, rfl⟩
