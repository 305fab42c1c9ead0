def xr_ft : List (Nat × Nat × Int32) := [(0, 1, 0), (1, 2, 0), (2, 3, 0), (3, 4, 0), (4, 5, 0), (5, 6, 0), (6, 7, 0), (1000, 0, 0), (7, 8, 0), (8, 9, 0), (1000, 0, 0), (9, 10, 0), (10, 11, 0), (1000, 0, 0), (11, 12, 0), (1000, 0, 0), (12, 13, 0), (1000, 0, 0), (13, 14, 0), (1000, 0, 0), (1000, 0, 0), (1000, 0, 0), (14, 0, -1), (15, 15, 0), (16, 16, 0), (17, 17, 0), (18, 18, 0), (1000, 0, 0), (19, 19, 0), (1000, 0, 0), (1000, 0, 0), (1000, 0, 0), (1000, 0, 0), (20, 20, 0), (21, 21, 0), (22, 22, 0), (23, 23, 0), (24, 24, 0), (1000, 0, 0), (25, 25, 0), (26, 26, 0), (1000, 0, 0), (27, 27, 0), (28, 28, 0), (29, 0, -1), (1000, 0, 0), (1000, 0, 0), (30, 0, 1000), (1000, 0, 0), (1000, 0, 0), (1000, 0, 0), (31, 29, 0), (32, 30, 0), (33, 31, 0), (1000, 0, 0), (34, 32, 0), (1000, 0, 0), (35, 33, 0), (36, 34, 0), (1000, 0, 0), (37, 35, 0), (1000, 0, 0), (38, 36, 0), (1000, 0, 0), (39, 37, 0), (1000, 0, 0), (40, 38, 0), (1000, 0, 0), (41, 39, 0), (42, 40, 0), (43, 41, 0), (1000, 0, 0), (44, 42, 0), (45, 43, 0), (46, 44, 0), (47, 45, 0), (1000, 0, 0), (48, 46, 0), (49, 47, 0), (50, 48, 0), (51, 49, 0), (1000, 0, 0), (52, 50, 0), (53, 51, 0), (1000, 0, 0), (1000, 0, 0)]
def xr_fa (c T : Nat) : List Value := xr_ft.map (fun e => match Nat.blt e.1 T with
  | true => match e.2.1 with
    | 0 => .int e.2.2
    | a + 1 => .ref (c + (a + 1))
  | false => match e.2.1 with
    | 0 => .int 0
    | _ + 1 => .null)
def xr_arr : xx_H := [.inl (.int, List.replicate 140000 (.int 0)), .inl (.int, List.replicate 140000 (.int 0)), .inl (.int, List.replicate 140000 (.int 0)), .inl (.int, List.replicate 140000 (.int 0)), .inl (.int, List.replicate 140000 (.int 0)), .inl (.long, List.replicate 140000 (.long 0)), .inl (.int, List.replicate 8192 (.int 0)), .inl (.int, List.replicate 60000 (.int 0)), .inl (.int, List.replicate 5000 (.int 0)), .inl (.int, List.replicate 20 (.int 0)), .inl (.int, List.replicate 3000 (.int 0)), .inl (.int, List.replicate 2000 (.int 0)), .inl (.int, List.replicate 12 (.int 0)), .inl (.int, List.replicate 4000 (.int 0)), .inl (.int, List.replicate 40 (.int 0)), .inl (.int, List.replicate 40 (.int 0)), .inl (.int, List.replicate 40 (.int 0)), .inl (.int, List.replicate 40 (.int 0)), .inl (.int, List.replicate 1100 (.int 0)), .inl (.int, List.replicate 40 (.int 0)), .inl (.int, List.replicate 40 (.int 0)), .inl (.int, List.replicate 240 (.int 0)), .inl (.int, List.replicate 40 (.int 0)), .inl (.boolean, List.replicate 40 (.int 0)), .inl (.int, List.replicate 60 (.int 0)), .inl (.int, List.replicate 60 (.int 0)), .inl (.boolean, List.replicate 100 (.int 0)), .inl (.int, List.replicate 100 (.int 0)), .inl (.int, List.replicate 1200 (.int 0)), .inl (.int, List.replicate 1200 (.int 0)), .inl (.int, List.replicate 1200 (.int 0)), .inl (.int, List.replicate 2400 (.int 0)), .inl (.int, List.replicate 400 (.int 0)), .inl (.int, List.replicate 400 (.int 0)), .inl (.int, List.replicate 400 (.int 0)), .inl (.int, List.replicate 130 (.int 0)), .inl (.int, List.replicate 8 (.int 0)), .inl (.int, List.replicate 1200 (.int 0)), .inl (.int, List.replicate 128 (.int 0)), .inl (.int, List.replicate 8192 (.int 0)), .inl (.int, List.replicate 128 (.int 0)), .inl (.int, List.replicate 128 (.int 0)), .inl (.int, List.replicate 8192 (.int 0)), .inl (.int, List.replicate 128 (.int 0)), .inl (.int, List.replicate 130 (.int 0)), .inl (.int, List.replicate 6 (.int 0)), .inl (.int, List.replicate 40 (.int 0)), .inl (.int, List.replicate 40 (.int 0)), .inl (.int, List.replicate 40 (.int 0)), .inl (.int, List.replicate 10500 (.int 0)), .inl (.int, List.replicate 350 (.int 0))]
def xr_init (c T a : Nat) : xx_H := .inr (13, xr_fa c T) :: xr_arr.take a
def xr_fs (c : Nat) (o s w : Int32) : List Value := [.ref (c + 1), .ref (c + 2), .ref (c + 3), .ref (c + 4), .ref (c + 5), .ref (c + 6), .ref (c + 7), .int o, .ref (c + 8), .ref (c + 9), .int s, .ref (c + 10), .ref (c + 11), .int 0, .ref (c + 12), .int 0, .ref (c + 13), .int w, .ref (c + 14), .int 0, .int 0, .int 0, .int (-1), .ref (c + 15), .ref (c + 16), .ref (c + 17), .ref (c + 18), .int 0, .ref (c + 19), .int 0, .int 0, .int 0, .int 0, .ref (c + 20), .ref (c + 21), .ref (c + 22), .ref (c + 23), .ref (c + 24), .int 0, .ref (c + 25), .ref (c + 26), .int 0, .ref (c + 27), .ref (c + 28), .int (-1), .int 0, .int 0, .int 1000, .int 0, .int 0, .int 0, .ref (c + 29), .ref (c + 30), .ref (c + 31), .int 0, .ref (c + 32), .int 0, .ref (c + 33), .ref (c + 34), .int 0, .ref (c + 35), .int 0, .ref (c + 36), .int 0, .ref (c + 37), .int 0, .ref (c + 38), .int 0, .ref (c + 39), .ref (c + 40), .ref (c + 41), .int 0, .ref (c + 42), .ref (c + 43), .ref (c + 44), .ref (c + 45), .int 0, .ref (c + 46), .ref (c + 47), .ref (c + 48), .ref (c + 49), .int 0, .ref (c + 50), .ref (c + 51), .int 0, .int 0]
def xr_B (c : Nat) (o s w : Int32) (La Lb Lc Ld Le Lf Lg Lh Li : List Value) : xx_H := [.inr (13, xr_fs c o s w), .inl (.int, La), .inl (.int, Lb), .inl (.int, Lc), .inl (.int, Ld), .inl (.int, Le), .inl (.long, List.replicate 140000 (.long 0)), .inl (.int, Lf), .inl (.int, Lg), .inl (.int, Lh), .inl (.int, List.replicate 20 (.int 0)), .inl (.int, List.replicate 3000 (.int 0)), .inl (.int, List.replicate 2000 (.int 0)), .inl (.int, Li), .inl (.int, List.replicate 4000 (.int 0)), .inl (.int, List.replicate 40 (.int 0)), .inl (.int, List.replicate 40 (.int 0)), .inl (.int, List.replicate 40 (.int 0)), .inl (.int, List.replicate 40 (.int 0)), .inl (.int, List.replicate 1100 (.int 0)), .inl (.int, List.replicate 40 (.int 0)), .inl (.int, List.replicate 40 (.int 0)), .inl (.int, List.replicate 240 (.int 0)), .inl (.int, List.replicate 40 (.int 0)), .inl (.boolean, List.replicate 40 (.int 0)), .inl (.int, List.replicate 60 (.int 0)), .inl (.int, List.replicate 60 (.int 0)), .inl (.boolean, List.replicate 100 (.int 0)), .inl (.int, List.replicate 100 (.int 0)), .inl (.int, List.replicate 1200 (.int 0)), .inl (.int, List.replicate 1200 (.int 0)), .inl (.int, List.replicate 1200 (.int 0)), .inl (.int, List.replicate 2400 (.int 0)), .inl (.int, List.replicate 400 (.int 0)), .inl (.int, List.replicate 400 (.int 0)), .inl (.int, List.replicate 400 (.int 0)), .inl (.int, List.replicate 130 (.int 0)), .inl (.int, List.replicate 8 (.int 0)), .inl (.int, List.replicate 1200 (.int 0)), .inl (.int, List.replicate 128 (.int 0)), .inl (.int, List.replicate 8192 (.int 0)), .inl (.int, List.replicate 128 (.int 0)), .inl (.int, List.replicate 128 (.int 0)), .inl (.int, List.replicate 8192 (.int 0)), .inl (.int, List.replicate 128 (.int 0)), .inl (.int, List.replicate 130 (.int 0)), .inl (.int, List.replicate 6 (.int 0)), .inl (.int, List.replicate 40 (.int 0)), .inl (.int, List.replicate 40 (.int 0)), .inl (.int, List.replicate 40 (.int 0)), .inl (.int, List.replicate 10500 (.int 0)), .inl (.int, List.replicate 350 (.int 0))]
theorem xr_len {c T a : Nat} (ha : a ≤ 51) : (xr_init c T a).length = a + 1 := by
  show ((xr_arr.take a).length + 1) = _
  rw [List.length_take, Nat.min_eq_left (show a ≤ xr_arr.length from ha)]
theorem xr_sa {z : Value} {d pc T a m idx j : Nat} {t : ArrayType} {ty ty' : FieldType} {fin : Option Nat} {x : Int32} {h : xx_H} {Q : Option Value → xx_H → Prop} (hc : 12 ≤ h.length) (h1 : xp_code (xt_P z) 59 pc = some (.newarray t)) (h2 : xb_ty t = some ty) (hx : ¬ x < 0) (hm : x.toNatClampNeg = m) (hb : m * 8 ≤ 536870912) (h3 : xp_code (xt_P z) 59 (pc + 2) = some (.putfield idx)) (hf : xp_fld (xt_P z) (xp_own (xt_P z) 59) idx 13 = some j) (ht : xp_fty (xt_P z) 13 j = some (ty', fin)) (hfit : xx_fit ty' (.ref (h.length + (a + 1))) = true) (hmay : xb_may (xt_P z) 59 (xp_own (xt_P z) 59) fin = true) (ha : a < 51) (har : xr_arr[a]? = some (.inl (ty, List.replicate m (defaultValue ty)))) (hj : j < (xr_fa h.length T).length) (hs : (xr_fa h.length T).set j (.ref (h.length + (a + 1))) = xr_fa h.length (T + 1)) (hg : xx_go (xt_P z) d 59 (pc + 5) [some (.ref h.length), none] [] (h ++ xr_init h.length (T + 1) (a + 1)) Q) : xx_go (xt_P z) d 59 pc [some (.ref h.length), none] [.int x, .ref h.length] (h ++ xr_init h.length T a) Q := by
  refine go_newa h1 h2 hx hm hb ?_
  rw [show (h ++ xr_init h.length T a).length = h.length + (a + 1) by rw [xq_len, xr_len (by omega)], List.append_assoc, show xr_init h.length T a ++ [(Sum.inl (ty, List.replicate m (defaultValue ty)) : xx_E)] = .inr (13, xr_fa h.length T) :: xr_arr.take (a + 1) by
    show Sum.inr (13, xr_fa h.length T) :: (xr_arr.take a ++ _) = _
    rw [List.take_add_one, har]
    rfl]
  refine go_put h3 xq_get0 hf ht hc hj hfit hmay ?_
  rw [xq_set0, hs]
  exact hg
theorem xr_si {z : Value} {d pc T a idx j : Nat} {x : Int32} {h : xx_H} {Q : Option Value → xx_H → Prop} (hc : 12 ≤ h.length) (h3 : xp_code (xt_P z) 59 pc = some (.putfield idx)) (hf : xp_fld (xt_P z) (xp_own (xt_P z) 59) idx 13 = some j) (ht : xp_fty (xt_P z) 13 j = some (.int, none)) (hj : j < (xr_fa h.length T).length) (hs : (xr_fa h.length T).set j (.int x) = xr_fa h.length (T + 1)) (hg : xx_go (xt_P z) d 59 (pc + 3) [some (.ref h.length), none] [] (h ++ xr_init h.length (T + 1) a) Q) : xx_go (xt_P z) d 59 pc [some (.ref h.length), none] [.int x, .ref h.length] (h ++ xr_init h.length T a) Q := by
  refine go_put h3 xq_get0 hf ht hc hj rfl rfl ?_
  rw [hs, show (h ++ xr_init h.length T a).set h.length (.inr (13, xr_fa h.length (T + 1))) = h ++ xr_init h.length (T + 1) a from xq_set0]
  exact hg
theorem xr_fl {c T : Nat} : (xr_fa c T).length = 86 := by
  unfold xr_fa
  rw [List.length_map]
  rfl
theorem xr_st0 (z : Value) (d : Nat) (h : xx_H) (Q : Option Value → xx_H → Prop) (hc : 12 ≤ h.length) (hg : xx_go (xt_P z) d 59 69 [some (.ref h.length), none] [] (h ++ xr_init h.length 8 8) Q) : xx_go (xt_P z) d 59 4 [some (.ref h.length), none] [] (h ++ xr_init h.length 0 0) Q := by
  refine go_a (pc' := 5) (ls' := [some (.ref h.length), none]) (st' := [(.ref h.length)]) rfl rfl ?_
  refine go_b (pc' := 7) (st' := [(.int 140000), (.ref h.length)]) (h' := h ++ xr_init h.length 0 0) rfl rfl rfl ?_
  refine xr_sa (T := 0) (a := 0) (m := 140000) (j := 0) hc rfl rfl (by decide) rfl (by decide) rfl rfl rfl rfl rfl (by decide) rfl (by rw [xr_fl]; decide) rfl ?_
  refine go_a (pc' := 13) (ls' := [some (.ref h.length), none]) (st' := [(.ref h.length)]) rfl rfl ?_
  refine go_b (pc' := 15) (st' := [(.int 140000), (.ref h.length)]) (h' := h ++ xr_init h.length 1 1) rfl rfl rfl ?_
  refine xr_sa (T := 1) (a := 1) (m := 140000) (j := 1) hc rfl rfl (by decide) rfl (by decide) rfl rfl rfl rfl rfl (by decide) rfl (by rw [xr_fl]; decide) rfl ?_
  refine go_a (pc' := 21) (ls' := [some (.ref h.length), none]) (st' := [(.ref h.length)]) rfl rfl ?_
  refine go_b (pc' := 23) (st' := [(.int 140000), (.ref h.length)]) (h' := h ++ xr_init h.length 2 2) rfl rfl rfl ?_
  refine xr_sa (T := 2) (a := 2) (m := 140000) (j := 2) hc rfl rfl (by decide) rfl (by decide) rfl rfl rfl rfl rfl (by decide) rfl (by rw [xr_fl]; decide) rfl ?_
  refine go_a (pc' := 29) (ls' := [some (.ref h.length), none]) (st' := [(.ref h.length)]) rfl rfl ?_
  refine go_b (pc' := 31) (st' := [(.int 140000), (.ref h.length)]) (h' := h ++ xr_init h.length 3 3) rfl rfl rfl ?_
  refine xr_sa (T := 3) (a := 3) (m := 140000) (j := 3) hc rfl rfl (by decide) rfl (by decide) rfl rfl rfl rfl rfl (by decide) rfl (by rw [xr_fl]; decide) rfl ?_
  refine go_a (pc' := 37) (ls' := [some (.ref h.length), none]) (st' := [(.ref h.length)]) rfl rfl ?_
  refine go_b (pc' := 39) (st' := [(.int 140000), (.ref h.length)]) (h' := h ++ xr_init h.length 4 4) rfl rfl rfl ?_
  refine xr_sa (T := 4) (a := 4) (m := 140000) (j := 4) hc rfl rfl (by decide) rfl (by decide) rfl rfl rfl rfl rfl (by decide) rfl (by rw [xr_fl]; decide) rfl ?_
  refine go_a (pc' := 45) (ls' := [some (.ref h.length), none]) (st' := [(.ref h.length)]) rfl rfl ?_
  refine go_b (pc' := 47) (st' := [(.int 140000), (.ref h.length)]) (h' := h ++ xr_init h.length 5 5) rfl rfl rfl ?_
  refine xr_sa (T := 5) (a := 5) (m := 140000) (j := 5) hc rfl rfl (by decide) rfl (by decide) rfl rfl rfl rfl rfl (by decide) rfl (by rw [xr_fl]; decide) rfl ?_
  refine go_a (pc' := 53) (ls' := [some (.ref h.length), none]) (st' := [(.ref h.length)]) rfl rfl ?_
  refine go_a (pc' := 56) (ls' := [some (.ref h.length), none]) (st' := [(.int 8192), (.ref h.length)]) rfl rfl ?_
  refine xr_sa (T := 6) (a := 6) (m := 8192) (j := 6) hc rfl rfl (by decide) rfl (by decide) rfl rfl rfl rfl rfl (by decide) rfl (by rw [xr_fl]; decide) rfl ?_
  refine go_a (pc' := 62) (ls' := [some (.ref h.length), none]) (st' := [(.ref h.length)]) rfl rfl ?_
  refine go_b (pc' := 64) (st' := [(.int 60000), (.ref h.length)]) (h' := h ++ xr_init h.length 7 7) rfl rfl rfl ?_
  refine xr_sa (T := 7) (a := 7) (m := 60000) (j := 8) hc rfl rfl (by decide) rfl (by decide) rfl rfl rfl rfl rfl (by decide) rfl (by rw [xr_fl]; decide) rfl ?_
  exact hg
theorem xr_st1 (z : Value) (d : Nat) (h : xx_H) (Q : Option Value → xx_H → Prop) (hc : 12 ≤ h.length) (hg : xx_go (xt_P z) d 59 134 [some (.ref h.length), none] [] (h ++ xr_init h.length 16 15) Q) : xx_go (xt_P z) d 59 69 [some (.ref h.length), none] [] (h ++ xr_init h.length 8 8) Q := by
  refine go_a (pc' := 70) (ls' := [some (.ref h.length), none]) (st' := [(.ref h.length)]) rfl rfl ?_
  refine go_a (pc' := 73) (ls' := [some (.ref h.length), none]) (st' := [(.int 5000), (.ref h.length)]) rfl rfl ?_
  refine xr_sa (T := 8) (a := 8) (m := 5000) (j := 9) hc rfl rfl (by decide) rfl (by decide) rfl rfl rfl rfl rfl (by decide) rfl (by rw [xr_fl]; decide) rfl ?_
  refine go_a (pc' := 79) (ls' := [some (.ref h.length), none]) (st' := [(.ref h.length)]) rfl rfl ?_
  refine go_a (pc' := 81) (ls' := [some (.ref h.length), none]) (st' := [(.int 20), (.ref h.length)]) rfl rfl ?_
  refine xr_sa (T := 9) (a := 9) (m := 20) (j := 11) hc rfl rfl (by decide) rfl (by decide) rfl rfl rfl rfl rfl (by decide) rfl (by rw [xr_fl]; decide) rfl ?_
  refine go_a (pc' := 87) (ls' := [some (.ref h.length), none]) (st' := [(.ref h.length)]) rfl rfl ?_
  refine go_a (pc' := 90) (ls' := [some (.ref h.length), none]) (st' := [(.int 3000), (.ref h.length)]) rfl rfl ?_
  refine xr_sa (T := 10) (a := 10) (m := 3000) (j := 12) hc rfl rfl (by decide) rfl (by decide) rfl rfl rfl rfl rfl (by decide) rfl (by rw [xr_fl]; decide) rfl ?_
  refine go_a (pc' := 96) (ls' := [some (.ref h.length), none]) (st' := [(.ref h.length)]) rfl rfl ?_
  refine go_a (pc' := 99) (ls' := [some (.ref h.length), none]) (st' := [(.int 2000), (.ref h.length)]) rfl rfl ?_
  refine xr_sa (T := 11) (a := 11) (m := 2000) (j := 14) hc rfl rfl (by decide) rfl (by decide) rfl rfl rfl rfl rfl (by decide) rfl (by rw [xr_fl]; decide) rfl ?_
  refine go_a (pc' := 105) (ls' := [some (.ref h.length), none]) (st' := [(.ref h.length)]) rfl rfl ?_
  refine go_a (pc' := 107) (ls' := [some (.ref h.length), none]) (st' := [(.int 12), (.ref h.length)]) rfl rfl ?_
  refine xr_sa (T := 12) (a := 12) (m := 12) (j := 16) hc rfl rfl (by decide) rfl (by decide) rfl rfl rfl rfl rfl (by decide) rfl (by rw [xr_fl]; decide) rfl ?_
  refine go_a (pc' := 113) (ls' := [some (.ref h.length), none]) (st' := [(.ref h.length)]) rfl rfl ?_
  refine go_a (pc' := 116) (ls' := [some (.ref h.length), none]) (st' := [(.int 4000), (.ref h.length)]) rfl rfl ?_
  refine xr_sa (T := 13) (a := 13) (m := 4000) (j := 18) hc rfl rfl (by decide) rfl (by decide) rfl rfl rfl rfl rfl (by decide) rfl (by rw [xr_fl]; decide) rfl ?_
  refine go_a (pc' := 122) (ls' := [some (.ref h.length), none]) (st' := [(.ref h.length)]) rfl rfl ?_
  refine go_a (pc' := 123) (ls' := [some (.ref h.length), none]) (st' := [(.int (-1)), (.ref h.length)]) rfl rfl ?_
  refine xr_si (T := 14) (a := 14) (j := 22) hc rfl rfl rfl (by rw [xr_fl]; decide) rfl ?_
  refine go_a (pc' := 127) (ls' := [some (.ref h.length), none]) (st' := [(.ref h.length)]) rfl rfl ?_
  refine go_a (pc' := 129) (ls' := [some (.ref h.length), none]) (st' := [(.int 40), (.ref h.length)]) rfl rfl ?_
  refine xr_sa (T := 15) (a := 14) (m := 40) (j := 23) hc rfl rfl (by decide) rfl (by decide) rfl rfl rfl rfl rfl (by decide) rfl (by rw [xr_fl]; decide) rfl ?_
  exact hg
theorem xr_st2 (z : Value) (d : Nat) (h : xx_H) (Q : Option Value → xx_H → Prop) (hc : 12 ≤ h.length) (hg : xx_go (xt_P z) d 59 200 [some (.ref h.length), none] [] (h ++ xr_init h.length 24 23) Q) : xx_go (xt_P z) d 59 134 [some (.ref h.length), none] [] (h ++ xr_init h.length 16 15) Q := by
  refine go_a (pc' := 135) (ls' := [some (.ref h.length), none]) (st' := [(.ref h.length)]) rfl rfl ?_
  refine go_a (pc' := 137) (ls' := [some (.ref h.length), none]) (st' := [(.int 40), (.ref h.length)]) rfl rfl ?_
  refine xr_sa (T := 16) (a := 15) (m := 40) (j := 24) hc rfl rfl (by decide) rfl (by decide) rfl rfl rfl rfl rfl (by decide) rfl (by rw [xr_fl]; decide) rfl ?_
  refine go_a (pc' := 143) (ls' := [some (.ref h.length), none]) (st' := [(.ref h.length)]) rfl rfl ?_
  refine go_a (pc' := 145) (ls' := [some (.ref h.length), none]) (st' := [(.int 40), (.ref h.length)]) rfl rfl ?_
  refine xr_sa (T := 17) (a := 16) (m := 40) (j := 25) hc rfl rfl (by decide) rfl (by decide) rfl rfl rfl rfl rfl (by decide) rfl (by rw [xr_fl]; decide) rfl ?_
  refine go_a (pc' := 151) (ls' := [some (.ref h.length), none]) (st' := [(.ref h.length)]) rfl rfl ?_
  refine go_a (pc' := 153) (ls' := [some (.ref h.length), none]) (st' := [(.int 40), (.ref h.length)]) rfl rfl ?_
  refine xr_sa (T := 18) (a := 17) (m := 40) (j := 26) hc rfl rfl (by decide) rfl (by decide) rfl rfl rfl rfl rfl (by decide) rfl (by rw [xr_fl]; decide) rfl ?_
  refine go_a (pc' := 159) (ls' := [some (.ref h.length), none]) (st' := [(.ref h.length)]) rfl rfl ?_
  refine go_a (pc' := 162) (ls' := [some (.ref h.length), none]) (st' := [(.int 1100), (.ref h.length)]) rfl rfl ?_
  refine xr_sa (T := 19) (a := 18) (m := 1100) (j := 28) hc rfl rfl (by decide) rfl (by decide) rfl rfl rfl rfl rfl (by decide) rfl (by rw [xr_fl]; decide) rfl ?_
  refine go_a (pc' := 168) (ls' := [some (.ref h.length), none]) (st' := [(.ref h.length)]) rfl rfl ?_
  refine go_a (pc' := 170) (ls' := [some (.ref h.length), none]) (st' := [(.int 40), (.ref h.length)]) rfl rfl ?_
  refine xr_sa (T := 20) (a := 19) (m := 40) (j := 33) hc rfl rfl (by decide) rfl (by decide) rfl rfl rfl rfl rfl (by decide) rfl (by rw [xr_fl]; decide) rfl ?_
  refine go_a (pc' := 176) (ls' := [some (.ref h.length), none]) (st' := [(.ref h.length)]) rfl rfl ?_
  refine go_a (pc' := 178) (ls' := [some (.ref h.length), none]) (st' := [(.int 40), (.ref h.length)]) rfl rfl ?_
  refine xr_sa (T := 21) (a := 20) (m := 40) (j := 34) hc rfl rfl (by decide) rfl (by decide) rfl rfl rfl rfl rfl (by decide) rfl (by rw [xr_fl]; decide) rfl ?_
  refine go_a (pc' := 184) (ls' := [some (.ref h.length), none]) (st' := [(.ref h.length)]) rfl rfl ?_
  refine go_a (pc' := 187) (ls' := [some (.ref h.length), none]) (st' := [(.int 240), (.ref h.length)]) rfl rfl ?_
  refine xr_sa (T := 22) (a := 21) (m := 240) (j := 35) hc rfl rfl (by decide) rfl (by decide) rfl rfl rfl rfl rfl (by decide) rfl (by rw [xr_fl]; decide) rfl ?_
  refine go_a (pc' := 193) (ls' := [some (.ref h.length), none]) (st' := [(.ref h.length)]) rfl rfl ?_
  refine go_a (pc' := 195) (ls' := [some (.ref h.length), none]) (st' := [(.int 40), (.ref h.length)]) rfl rfl ?_
  refine xr_sa (T := 23) (a := 22) (m := 40) (j := 36) hc rfl rfl (by decide) rfl (by decide) rfl rfl rfl rfl rfl (by decide) rfl (by rw [xr_fl]; decide) rfl ?_
  exact hg
theorem xr_st3 (z : Value) (d : Nat) (h : xx_H) (Q : Option Value → xx_H → Prop) (hc : 12 ≤ h.length) (hg : xx_go (xt_P z) d 59 261 [some (.ref h.length), none] [] (h ++ xr_init h.length 32 29) Q) : xx_go (xt_P z) d 59 200 [some (.ref h.length), none] [] (h ++ xr_init h.length 24 23) Q := by
  refine go_a (pc' := 201) (ls' := [some (.ref h.length), none]) (st' := [(.ref h.length)]) rfl rfl ?_
  refine go_a (pc' := 203) (ls' := [some (.ref h.length), none]) (st' := [(.int 40), (.ref h.length)]) rfl rfl ?_
  refine xr_sa (T := 24) (a := 23) (m := 40) (j := 37) hc rfl rfl (by decide) rfl (by decide) rfl rfl rfl rfl rfl (by decide) rfl (by rw [xr_fl]; decide) rfl ?_
  refine go_a (pc' := 209) (ls' := [some (.ref h.length), none]) (st' := [(.ref h.length)]) rfl rfl ?_
  refine go_a (pc' := 211) (ls' := [some (.ref h.length), none]) (st' := [(.int 60), (.ref h.length)]) rfl rfl ?_
  refine xr_sa (T := 25) (a := 24) (m := 60) (j := 39) hc rfl rfl (by decide) rfl (by decide) rfl rfl rfl rfl rfl (by decide) rfl (by rw [xr_fl]; decide) rfl ?_
  refine go_a (pc' := 217) (ls' := [some (.ref h.length), none]) (st' := [(.ref h.length)]) rfl rfl ?_
  refine go_a (pc' := 219) (ls' := [some (.ref h.length), none]) (st' := [(.int 60), (.ref h.length)]) rfl rfl ?_
  refine xr_sa (T := 26) (a := 25) (m := 60) (j := 40) hc rfl rfl (by decide) rfl (by decide) rfl rfl rfl rfl rfl (by decide) rfl (by rw [xr_fl]; decide) rfl ?_
  refine go_a (pc' := 225) (ls' := [some (.ref h.length), none]) (st' := [(.ref h.length)]) rfl rfl ?_
  refine go_a (pc' := 227) (ls' := [some (.ref h.length), none]) (st' := [(.int 100), (.ref h.length)]) rfl rfl ?_
  refine xr_sa (T := 27) (a := 26) (m := 100) (j := 42) hc rfl rfl (by decide) rfl (by decide) rfl rfl rfl rfl rfl (by decide) rfl (by rw [xr_fl]; decide) rfl ?_
  refine go_a (pc' := 233) (ls' := [some (.ref h.length), none]) (st' := [(.ref h.length)]) rfl rfl ?_
  refine go_a (pc' := 235) (ls' := [some (.ref h.length), none]) (st' := [(.int 100), (.ref h.length)]) rfl rfl ?_
  refine xr_sa (T := 28) (a := 27) (m := 100) (j := 43) hc rfl rfl (by decide) rfl (by decide) rfl rfl rfl rfl rfl (by decide) rfl (by rw [xr_fl]; decide) rfl ?_
  refine go_a (pc' := 241) (ls' := [some (.ref h.length), none]) (st' := [(.ref h.length)]) rfl rfl ?_
  refine go_a (pc' := 242) (ls' := [some (.ref h.length), none]) (st' := [(.int (-1)), (.ref h.length)]) rfl rfl ?_
  refine xr_si (T := 29) (a := 28) (j := 44) hc rfl rfl rfl (by rw [xr_fl]; decide) rfl ?_
  refine go_a (pc' := 246) (ls' := [some (.ref h.length), none]) (st' := [(.ref h.length)]) rfl rfl ?_
  refine go_a (pc' := 249) (ls' := [some (.ref h.length), none]) (st' := [(.int 1000), (.ref h.length)]) rfl rfl ?_
  refine xr_si (T := 30) (a := 28) (j := 47) hc rfl rfl rfl (by rw [xr_fl]; decide) rfl ?_
  refine go_a (pc' := 253) (ls' := [some (.ref h.length), none]) (st' := [(.ref h.length)]) rfl rfl ?_
  refine go_a (pc' := 256) (ls' := [some (.ref h.length), none]) (st' := [(.int 1200), (.ref h.length)]) rfl rfl ?_
  refine xr_sa (T := 31) (a := 28) (m := 1200) (j := 51) hc rfl rfl (by decide) rfl (by decide) rfl rfl rfl rfl rfl (by decide) rfl (by rw [xr_fl]; decide) rfl ?_
  exact hg
theorem xr_st4 (z : Value) (d : Nat) (h : xx_H) (Q : Option Value → xx_H → Prop) (hc : 12 ≤ h.length) (hg : xx_go (xt_P z) d 59 332 [some (.ref h.length), none] [] (h ++ xr_init h.length 40 37) Q) : xx_go (xt_P z) d 59 261 [some (.ref h.length), none] [] (h ++ xr_init h.length 32 29) Q := by
  refine go_a (pc' := 262) (ls' := [some (.ref h.length), none]) (st' := [(.ref h.length)]) rfl rfl ?_
  refine go_a (pc' := 265) (ls' := [some (.ref h.length), none]) (st' := [(.int 1200), (.ref h.length)]) rfl rfl ?_
  refine xr_sa (T := 32) (a := 29) (m := 1200) (j := 52) hc rfl rfl (by decide) rfl (by decide) rfl rfl rfl rfl rfl (by decide) rfl (by rw [xr_fl]; decide) rfl ?_
  refine go_a (pc' := 271) (ls' := [some (.ref h.length), none]) (st' := [(.ref h.length)]) rfl rfl ?_
  refine go_a (pc' := 274) (ls' := [some (.ref h.length), none]) (st' := [(.int 1200), (.ref h.length)]) rfl rfl ?_
  refine xr_sa (T := 33) (a := 30) (m := 1200) (j := 53) hc rfl rfl (by decide) rfl (by decide) rfl rfl rfl rfl rfl (by decide) rfl (by rw [xr_fl]; decide) rfl ?_
  refine go_a (pc' := 280) (ls' := [some (.ref h.length), none]) (st' := [(.ref h.length)]) rfl rfl ?_
  refine go_a (pc' := 283) (ls' := [some (.ref h.length), none]) (st' := [(.int 2400), (.ref h.length)]) rfl rfl ?_
  refine xr_sa (T := 34) (a := 31) (m := 2400) (j := 55) hc rfl rfl (by decide) rfl (by decide) rfl rfl rfl rfl rfl (by decide) rfl (by rw [xr_fl]; decide) rfl ?_
  refine go_a (pc' := 289) (ls' := [some (.ref h.length), none]) (st' := [(.ref h.length)]) rfl rfl ?_
  refine go_a (pc' := 292) (ls' := [some (.ref h.length), none]) (st' := [(.int 400), (.ref h.length)]) rfl rfl ?_
  refine xr_sa (T := 35) (a := 32) (m := 400) (j := 57) hc rfl rfl (by decide) rfl (by decide) rfl rfl rfl rfl rfl (by decide) rfl (by rw [xr_fl]; decide) rfl ?_
  refine go_a (pc' := 298) (ls' := [some (.ref h.length), none]) (st' := [(.ref h.length)]) rfl rfl ?_
  refine go_a (pc' := 301) (ls' := [some (.ref h.length), none]) (st' := [(.int 400), (.ref h.length)]) rfl rfl ?_
  refine xr_sa (T := 36) (a := 33) (m := 400) (j := 58) hc rfl rfl (by decide) rfl (by decide) rfl rfl rfl rfl rfl (by decide) rfl (by rw [xr_fl]; decide) rfl ?_
  refine go_a (pc' := 307) (ls' := [some (.ref h.length), none]) (st' := [(.ref h.length)]) rfl rfl ?_
  refine go_a (pc' := 310) (ls' := [some (.ref h.length), none]) (st' := [(.int 400), (.ref h.length)]) rfl rfl ?_
  refine xr_sa (T := 37) (a := 34) (m := 400) (j := 60) hc rfl rfl (by decide) rfl (by decide) rfl rfl rfl rfl rfl (by decide) rfl (by rw [xr_fl]; decide) rfl ?_
  refine go_a (pc' := 316) (ls' := [some (.ref h.length), none]) (st' := [(.ref h.length)]) rfl rfl ?_
  refine go_a (pc' := 319) (ls' := [some (.ref h.length), none]) (st' := [(.int 130), (.ref h.length)]) rfl rfl ?_
  refine xr_sa (T := 38) (a := 35) (m := 130) (j := 62) hc rfl rfl (by decide) rfl (by decide) rfl rfl rfl rfl rfl (by decide) rfl (by rw [xr_fl]; decide) rfl ?_
  refine go_a (pc' := 325) (ls' := [some (.ref h.length), none]) (st' := [(.ref h.length)]) rfl rfl ?_
  refine go_a (pc' := 327) (ls' := [some (.ref h.length), none]) (st' := [(.int 8), (.ref h.length)]) rfl rfl ?_
  refine xr_sa (T := 39) (a := 36) (m := 8) (j := 64) hc rfl rfl (by decide) rfl (by decide) rfl rfl rfl rfl rfl (by decide) rfl (by rw [xr_fl]; decide) rfl ?_
  exact hg
theorem xr_st5 (z : Value) (d : Nat) (h : xx_H) (Q : Option Value → xx_H → Prop) (hc : 12 ≤ h.length) (hg : xx_go (xt_P z) d 59 404 [some (.ref h.length), none] [] (h ++ xr_init h.length 48 45) Q) : xx_go (xt_P z) d 59 332 [some (.ref h.length), none] [] (h ++ xr_init h.length 40 37) Q := by
  refine go_a (pc' := 333) (ls' := [some (.ref h.length), none]) (st' := [(.ref h.length)]) rfl rfl ?_
  refine go_a (pc' := 336) (ls' := [some (.ref h.length), none]) (st' := [(.int 1200), (.ref h.length)]) rfl rfl ?_
  refine xr_sa (T := 40) (a := 37) (m := 1200) (j := 66) hc rfl rfl (by decide) rfl (by decide) rfl rfl rfl rfl rfl (by decide) rfl (by rw [xr_fl]; decide) rfl ?_
  refine go_a (pc' := 342) (ls' := [some (.ref h.length), none]) (st' := [(.ref h.length)]) rfl rfl ?_
  refine go_a (pc' := 345) (ls' := [some (.ref h.length), none]) (st' := [(.int 128), (.ref h.length)]) rfl rfl ?_
  refine xr_sa (T := 41) (a := 38) (m := 128) (j := 68) hc rfl rfl (by decide) rfl (by decide) rfl rfl rfl rfl rfl (by decide) rfl (by rw [xr_fl]; decide) rfl ?_
  refine go_a (pc' := 351) (ls' := [some (.ref h.length), none]) (st' := [(.ref h.length)]) rfl rfl ?_
  refine go_a (pc' := 354) (ls' := [some (.ref h.length), none]) (st' := [(.int 8192), (.ref h.length)]) rfl rfl ?_
  refine xr_sa (T := 42) (a := 39) (m := 8192) (j := 69) hc rfl rfl (by decide) rfl (by decide) rfl rfl rfl rfl rfl (by decide) rfl (by rw [xr_fl]; decide) rfl ?_
  refine go_a (pc' := 360) (ls' := [some (.ref h.length), none]) (st' := [(.ref h.length)]) rfl rfl ?_
  refine go_a (pc' := 363) (ls' := [some (.ref h.length), none]) (st' := [(.int 128), (.ref h.length)]) rfl rfl ?_
  refine xr_sa (T := 43) (a := 40) (m := 128) (j := 70) hc rfl rfl (by decide) rfl (by decide) rfl rfl rfl rfl rfl (by decide) rfl (by rw [xr_fl]; decide) rfl ?_
  refine go_a (pc' := 369) (ls' := [some (.ref h.length), none]) (st' := [(.ref h.length)]) rfl rfl ?_
  refine go_a (pc' := 372) (ls' := [some (.ref h.length), none]) (st' := [(.int 128), (.ref h.length)]) rfl rfl ?_
  refine xr_sa (T := 44) (a := 41) (m := 128) (j := 72) hc rfl rfl (by decide) rfl (by decide) rfl rfl rfl rfl rfl (by decide) rfl (by rw [xr_fl]; decide) rfl ?_
  refine go_a (pc' := 378) (ls' := [some (.ref h.length), none]) (st' := [(.ref h.length)]) rfl rfl ?_
  refine go_a (pc' := 381) (ls' := [some (.ref h.length), none]) (st' := [(.int 8192), (.ref h.length)]) rfl rfl ?_
  refine xr_sa (T := 45) (a := 42) (m := 8192) (j := 73) hc rfl rfl (by decide) rfl (by decide) rfl rfl rfl rfl rfl (by decide) rfl (by rw [xr_fl]; decide) rfl ?_
  refine go_a (pc' := 387) (ls' := [some (.ref h.length), none]) (st' := [(.ref h.length)]) rfl rfl ?_
  refine go_a (pc' := 390) (ls' := [some (.ref h.length), none]) (st' := [(.int 128), (.ref h.length)]) rfl rfl ?_
  refine xr_sa (T := 46) (a := 43) (m := 128) (j := 74) hc rfl rfl (by decide) rfl (by decide) rfl rfl rfl rfl rfl (by decide) rfl (by rw [xr_fl]; decide) rfl ?_
  refine go_a (pc' := 396) (ls' := [some (.ref h.length), none]) (st' := [(.ref h.length)]) rfl rfl ?_
  refine go_a (pc' := 399) (ls' := [some (.ref h.length), none]) (st' := [(.int 130), (.ref h.length)]) rfl rfl ?_
  refine xr_sa (T := 47) (a := 44) (m := 130) (j := 75) hc rfl rfl (by decide) rfl (by decide) rfl rfl rfl rfl rfl (by decide) rfl (by rw [xr_fl]; decide) rfl ?_
  exact hg
theorem xr_st6 (z : Value) (d : Nat) (h : xx_H) (Q : Option Value → xx_H → Prop) (hc : 12 ≤ h.length) (hg : xx_go (xt_P z) d 59 454 [some (.ref h.length), none] [] (h ++ xr_init h.length 54 51) Q) : xx_go (xt_P z) d 59 404 [some (.ref h.length), none] [] (h ++ xr_init h.length 48 45) Q := by
  refine go_a (pc' := 405) (ls' := [some (.ref h.length), none]) (st' := [(.ref h.length)]) rfl rfl ?_
  refine go_a (pc' := 407) (ls' := [some (.ref h.length), none]) (st' := [(.int 6), (.ref h.length)]) rfl rfl ?_
  refine xr_sa (T := 48) (a := 45) (m := 6) (j := 77) hc rfl rfl (by decide) rfl (by decide) rfl rfl rfl rfl rfl (by decide) rfl (by rw [xr_fl]; decide) rfl ?_
  refine go_a (pc' := 413) (ls' := [some (.ref h.length), none]) (st' := [(.ref h.length)]) rfl rfl ?_
  refine go_a (pc' := 415) (ls' := [some (.ref h.length), none]) (st' := [(.int 40), (.ref h.length)]) rfl rfl ?_
  refine xr_sa (T := 49) (a := 46) (m := 40) (j := 78) hc rfl rfl (by decide) rfl (by decide) rfl rfl rfl rfl rfl (by decide) rfl (by rw [xr_fl]; decide) rfl ?_
  refine go_a (pc' := 421) (ls' := [some (.ref h.length), none]) (st' := [(.ref h.length)]) rfl rfl ?_
  refine go_a (pc' := 423) (ls' := [some (.ref h.length), none]) (st' := [(.int 40), (.ref h.length)]) rfl rfl ?_
  refine xr_sa (T := 50) (a := 47) (m := 40) (j := 79) hc rfl rfl (by decide) rfl (by decide) rfl rfl rfl rfl rfl (by decide) rfl (by rw [xr_fl]; decide) rfl ?_
  refine go_a (pc' := 429) (ls' := [some (.ref h.length), none]) (st' := [(.ref h.length)]) rfl rfl ?_
  refine go_a (pc' := 431) (ls' := [some (.ref h.length), none]) (st' := [(.int 40), (.ref h.length)]) rfl rfl ?_
  refine xr_sa (T := 51) (a := 48) (m := 40) (j := 80) hc rfl rfl (by decide) rfl (by decide) rfl rfl rfl rfl rfl (by decide) rfl (by rw [xr_fl]; decide) rfl ?_
  refine go_a (pc' := 437) (ls' := [some (.ref h.length), none]) (st' := [(.ref h.length)]) rfl rfl ?_
  refine go_a (pc' := 440) (ls' := [some (.ref h.length), none]) (st' := [(.int 10500), (.ref h.length)]) rfl rfl ?_
  refine xr_sa (T := 52) (a := 49) (m := 10500) (j := 82) hc rfl rfl (by decide) rfl (by decide) rfl rfl rfl rfl rfl (by decide) rfl (by rw [xr_fl]; decide) rfl ?_
  refine go_a (pc' := 446) (ls' := [some (.ref h.length), none]) (st' := [(.ref h.length)]) rfl rfl ?_
  refine go_a (pc' := 449) (ls' := [some (.ref h.length), none]) (st' := [(.int 350), (.ref h.length)]) rfl rfl ?_
  refine xr_sa (T := 53) (a := 50) (m := 350) (j := 83) hc rfl rfl (by decide) rfl (by decide) rfl rfl rfl rfl rfl (by decide) rfl (by rw [xr_fl]; decide) rfl ?_
  exact hg
def xr_z (n : Nat) (x : Int32) : List Value := List.replicate n (.int x)
theorem xr_end (c : Nat) : xr_init c 54 51 = xr_B c (nI 0) (nI 0) (nI 0) (xr_z 140000 0) (xr_z 140000 0) (xr_z 140000 0) (xr_z 140000 0) (xr_z 140000 0) (xr_z 8192 0) (xr_z 60000 0) (xr_z 5000 0) (xr_z 12 0) := by
  rw [nI_0]
  rfl
theorem xr_beg (c : Nat) (fs : List Value) (hf : xp_dfl (xt_P .null) 13 = fs) : ([.inr (13, fs)] : xx_H) = xr_init c 0 0 := by
  subst hf
  rfl
theorem xr_sts (z : Value) (d : Nat) (h : xx_H) (Q : Option Value → xx_H → Prop) (hc : 12 ≤ h.length) (hg : xx_go (xt_P z) d 59 454 [some (.ref h.length), none] [] (h ++ xr_B h.length (nI 0) (nI 0) (nI 0) (xr_z 140000 0) (xr_z 140000 0) (xr_z 140000 0) (xr_z 140000 0) (xr_z 140000 0) (xr_z 8192 0) (xr_z 60000 0) (xr_z 5000 0) (xr_z 12 0)) Q) : xx_go (xt_P z) d 59 4 [some (.ref h.length), none] [] (h ++ xr_init h.length 0 0) Q := by
  rw [← xr_end] at hg
  refine xr_st0 z d h Q hc ?_
  refine xr_st1 z d h Q hc ?_
  refine xr_st2 z d h Q hc ?_
  refine xr_st3 z d h Q hc ?_
  refine xr_st4 z d h Q hc ?_
  refine xr_st5 z d h Q hc ?_
  refine xr_st6 z d h Q hc ?_
  exact hg
theorem mb_eq (c : Nat) : xr_B c (nI 0) (nI 0) (nI 0) (xr_z 140000 0) (xr_z 140000 0) (xr_z 140000 0) (xr_z 140000 0) (xr_z 140000 0) (xr_z 8192 0) (xr_z 60000 0) (xr_z 5000 0) (xr_z 12 0) = mb c MI0 (fun _ _ => 0) (fun _ => 0) := by
  unfold xr_B mb
  simp only [← rep_f, ← rep_l]
  rfl
theorem xm_headsM (z : Value) (d : Nat) (h : xx_H) (Q : Option Value → xx_H → Prop) (hc : 12 ≤ h.length) (hQ : ∀ g : Int → Int, (∀ e : Int, 0 ≤ e → e < 8192 → g e = -1) → xx_go (xt_P z) d 59 476 [some (.ref h.length), some (.int (nI 8192))] [] (mh h [] MI0 (sw (fun _ _ => 0) 7 g) (fun _ => 0)) Q) : ∀ (n : Nat) (k : Int) (g : Int → Int), k + n = 8192 → 0 ≤ k → (∀ e : Int, 0 ≤ e → e < k → g e = -1) → xx_go (xt_P z) d 59 456 [some (.ref h.length), some (.int (iI k))] [] (mh h [] MI0 (sw (fun _ _ => 0) 7 g) (fun _ => 0)) Q := by
  intro n
  induction n with
  | zero =>
    intro k g hk k0 hg
    refine go_a (pc' := 457) (ls' := [some (.ref h.length), some (.int (iI k))]) (st' := [.int (iI k)]) rfl rfl ?_
    refine go_a (pc' := 460) (ls' := [some (.ref h.length), some (.int (iI k))]) (st' := [.int (iI 8192), .int (iI k)]) rfl rfl ?_
    refine mi_ge (t := 476) rfl rfl (by omega) (by omega) (by omega) (by omega) (fun _ => ?_) (fun w => absurd (show k ≥ 8192 by omega) w)
    rw [show k = 8192 by omega]
    exact hQ g (fun e e0 e1 => hg e e0 (by omega))
  | succ n ih =>
    intro k g hk k0 hg
    refine go_a (pc' := 457) (ls' := [some (.ref h.length), some (.int (iI k))]) (st' := [.int (iI k)]) rfl rfl ?_
    refine go_a (pc' := 460) (ls' := [some (.ref h.length), some (.int (iI k))]) (st' := [.int (iI 8192), .int (iI k)]) rfl rfl ?_
    refine mi_ge (t := 476) rfl rfl (by omega) (by omega) (by omega) (by omega) (fun w => absurd w (by omega)) (fun _ => ?_)
    refine go_a (pc' := 464) (ls' := [some (.ref h.length), some (.int (iI k))]) (st' := [.ref h.length]) rfl rfl ?_
    refine go_get rfl mh_o rfl rfl ?_
    refine go_a (pc' := 468) (ls' := [some (.ref h.length), some (.int (iI k))]) (st' := [.int (iI k), .ref (h.length + 7)]) rfl rfl ?_
    refine go_a (pc' := 469) (ls' := [some (.ref h.length), some (.int (iI k))]) (st' := [.int (iI ((-1))), .int (iI k), .ref (h.length + 7)]) rfl rfl ?_
    refine mi_ist rfl mh_a7 (show 12 ≤ _ by omega) k0 (by omega) (by decide) ?_
    rw [mh_w7 k0]
    rw [show sa (sw (fun _ _ => 0) 7 g) 7 k (-1) = sw (fun _ _ => 0) 7 (sf g k (-1)) from sa_sw _ _ _ _ _]
    show xx_go (xt_P z) d 59 470 [some (.ref h.length), some (.int (iI k))] [] (mh h [] MI0 (sw (fun _ _ => 0) 7 (sf g k (-1))) (fun _ => 0)) _
    refine go_a (pc' := 473) (ls' := [some (.ref h.length), some (.int (iI (k + 1)))]) (st' := []) rfl (by rw [← iI_add k 1]; rfl) ?_
    refine go_a (pc' := 456) (ls' := [some (.ref h.length), some (.int (iI (k + 1)))]) (st' := []) rfl rfl ?_
    refine ih (k + 1) (sf g k (-1)) (by omega) (by omega) (fun e e0 e1 => ?_)
    by_cases ce : e = k
    · rw [ce, sf_self]
    · rw [sf_ne ce]
      exact hg e e0 (by omega)
set_option maxRecDepth 20000 in
theorem xm_saids0 (z : Value) (d : Nat) (h h0 : xx_H) (Q : Option Value → xx_H → Prop) (hc : 12 ≤ h.length) (hR0 : xr_R h 0 h0) (hg : ∀ h1 : xx_H, xr_R h 11 h1 → xx_go (xt_P z) (d + 3) 59 643 [some (.ref h.length), some (.int (nI 8192))] [] h1 Q) : xx_go (xt_P z) (d + 3) 59 476 [some (.ref h.length), some (.int (nI 8192))] [] h0 Q := by
  obtain ⟨fs, hfs⟩ := xr_R_at hR0
  refine go_a (pc' := 477) (ls' := [some (.ref h.length), some (.int (nI 8192))]) (st' := [(.ref h.length)]) rfl rfl ?_
  refine go_a (pc' := 479) (ls' := [some (.ref h.length), some (.int (nI 8192))]) (st' := [(.int 110), (.ref h.length)]) rfl rfl ?_
  refine go_a (pc' := 481) (ls' := [some (.ref h.length), some (.int (nI 8192))]) (st' := [(.int 105), (.int 110), (.ref h.length)]) rfl rfl ?_
  refine go_a (pc' := 483) (ls' := [some (.ref h.length), some (.int (nI 8192))]) (st' := [(.int 108), (.int 105), (.int 110), (.ref h.length)]) rfl rfl ?_
  refine go_a (pc' := 484) (ls' := [some (.ref h.length), some (.int (nI 8192))]) (st' := [(.int 0), (.int 108), (.int 105), (.int 110), (.ref h.length)]) rfl rfl ?_
  refine go_a (pc' := 485) (ls' := [some (.ref h.length), some (.int (nI 8192))]) (st' := [(.int 0), (.int 0), (.int 108), (.int 105), (.int 110), (.ref h.length)]) rfl rfl ?_
  refine go_a (pc' := 486) (ls' := [some (.ref h.length), some (.int (nI 8192))]) (st' := [(.int 0), (.int 0), (.int 0), (.int 108), (.int 105), (.int 110), (.ref h.length)]) rfl rfl ?_
  refine go_a (pc' := 487) (ls' := [some (.ref h.length), some (.int (nI 8192))]) (st' := [(.int 0), (.int 0), (.int 0), (.int 0), (.int 108), (.int 105), (.int 110), (.ref h.length)]) rfl rfl ?_
  refine go_a (pc' := 488) (ls' := [some (.ref h.length), some (.int (nI 8192))]) (st' := [(.int 0), (.int 0), (.int 0), (.int 0), (.int 0), (.int 108), (.int 105), (.int 110), (.ref h.length)]) rfl rfl ?_
  refine go_v (m := 60) (as := [.ref h.length, .int 110, .int 105, .int 108, .int 0, .int 0, .int 0, .int 0, .int 0]) (r := []) rfl rfl rfl hfs rfl rfl (xm_said z d h h0 0 110 105 108 0 0 0 0 0 hc (by omega) (by decide) hR0) (fun v h1 hq1 => ?_)
  obtain ⟨rfl, hR1⟩ := hq1
  clear hfs hR0
  show xx_go (xt_P z) (d + 3) 59 491 [some (.ref h.length), some (.int (nI 8192))] [] h1 Q
  obtain ⟨fs, hfs⟩ := xr_R_at hR1
  refine go_a (pc' := 492) (ls' := [some (.ref h.length), some (.int (nI 8192))]) (st' := [(.ref h.length)]) rfl rfl ?_
  refine go_a (pc' := 494) (ls' := [some (.ref h.length), some (.int (nI 8192))]) (st' := [(.int 116), (.ref h.length)]) rfl rfl ?_
  refine go_a (pc' := 495) (ls' := [some (.ref h.length), some (.int (nI 8192))]) (st' := [(.int 0), (.int 116), (.ref h.length)]) rfl rfl ?_
  refine go_a (pc' := 496) (ls' := [some (.ref h.length), some (.int (nI 8192))]) (st' := [(.int 0), (.int 0), (.int 116), (.ref h.length)]) rfl rfl ?_
  refine go_a (pc' := 497) (ls' := [some (.ref h.length), some (.int (nI 8192))]) (st' := [(.int 0), (.int 0), (.int 0), (.int 116), (.ref h.length)]) rfl rfl ?_
  refine go_a (pc' := 498) (ls' := [some (.ref h.length), some (.int (nI 8192))]) (st' := [(.int 0), (.int 0), (.int 0), (.int 0), (.int 116), (.ref h.length)]) rfl rfl ?_
  refine go_a (pc' := 499) (ls' := [some (.ref h.length), some (.int (nI 8192))]) (st' := [(.int 0), (.int 0), (.int 0), (.int 0), (.int 0), (.int 116), (.ref h.length)]) rfl rfl ?_
  refine go_a (pc' := 500) (ls' := [some (.ref h.length), some (.int (nI 8192))]) (st' := [(.int 0), (.int 0), (.int 0), (.int 0), (.int 0), (.int 0), (.int 116), (.ref h.length)]) rfl rfl ?_
  refine go_a (pc' := 501) (ls' := [some (.ref h.length), some (.int (nI 8192))]) (st' := [(.int 0), (.int 0), (.int 0), (.int 0), (.int 0), (.int 0), (.int 0), (.int 116), (.ref h.length)]) rfl rfl ?_
  refine go_v (m := 60) (as := [.ref h.length, .int 116, .int 0, .int 0, .int 0, .int 0, .int 0, .int 0, .int 0]) (r := []) rfl rfl rfl hfs rfl rfl (xm_said z d h h1 1 116 0 0 0 0 0 0 0 hc (by omega) (by decide) hR1) (fun v h2 hq1 => ?_)
  obtain ⟨rfl, hR2⟩ := hq1
  clear hfs hR1
  show xx_go (xt_P z) (d + 3) 59 504 [some (.ref h.length), some (.int (nI 8192))] [] h2 Q
  obtain ⟨fs, hfs⟩ := xr_R_at hR2
  refine go_a (pc' := 505) (ls' := [some (.ref h.length), some (.int (nI 8192))]) (st' := [(.ref h.length)]) rfl rfl ?_
  refine go_a (pc' := 507) (ls' := [some (.ref h.length), some (.int (nI 8192))]) (st' := [(.int 113), (.ref h.length)]) rfl rfl ?_
  refine go_a (pc' := 509) (ls' := [some (.ref h.length), some (.int (nI 8192))]) (st' := [(.int 117), (.int 113), (.ref h.length)]) rfl rfl ?_
  refine go_a (pc' := 511) (ls' := [some (.ref h.length), some (.int (nI 8192))]) (st' := [(.int 111), (.int 117), (.int 113), (.ref h.length)]) rfl rfl ?_
  refine go_a (pc' := 513) (ls' := [some (.ref h.length), some (.int (nI 8192))]) (st' := [(.int 116), (.int 111), (.int 117), (.int 113), (.ref h.length)]) rfl rfl ?_
  refine go_a (pc' := 515) (ls' := [some (.ref h.length), some (.int (nI 8192))]) (st' := [(.int 101), (.int 116), (.int 111), (.int 117), (.int 113), (.ref h.length)]) rfl rfl ?_
  refine go_a (pc' := 516) (ls' := [some (.ref h.length), some (.int (nI 8192))]) (st' := [(.int 0), (.int 101), (.int 116), (.int 111), (.int 117), (.int 113), (.ref h.length)]) rfl rfl ?_
  refine go_a (pc' := 517) (ls' := [some (.ref h.length), some (.int (nI 8192))]) (st' := [(.int 0), (.int 0), (.int 101), (.int 116), (.int 111), (.int 117), (.int 113), (.ref h.length)]) rfl rfl ?_
  refine go_a (pc' := 518) (ls' := [some (.ref h.length), some (.int (nI 8192))]) (st' := [(.int 0), (.int 0), (.int 0), (.int 101), (.int 116), (.int 111), (.int 117), (.int 113), (.ref h.length)]) rfl rfl ?_
  refine go_v (m := 60) (as := [.ref h.length, .int 113, .int 117, .int 111, .int 116, .int 101, .int 0, .int 0, .int 0]) (r := []) rfl rfl rfl hfs rfl rfl (xm_said z d h h2 2 113 117 111 116 101 0 0 0 hc (by omega) (by decide) hR2) (fun v h3 hq1 => ?_)
  obtain ⟨rfl, hR3⟩ := hq1
  clear hfs hR2
  show xx_go (xt_P z) (d + 3) 59 521 [some (.ref h.length), some (.int (nI 8192))] [] h3 Q
  obtain ⟨fs, hfs⟩ := xr_R_at hR3
  refine go_a (pc' := 522) (ls' := [some (.ref h.length), some (.int (nI 8192))]) (st' := [(.ref h.length)]) rfl rfl ?_
  refine go_a (pc' := 524) (ls' := [some (.ref h.length), some (.int (nI 8192))]) (st' := [(.int 105), (.ref h.length)]) rfl rfl ?_
  refine go_a (pc' := 526) (ls' := [some (.ref h.length), some (.int (nI 8192))]) (st' := [(.int 102), (.int 105), (.ref h.length)]) rfl rfl ?_
  refine go_a (pc' := 527) (ls' := [some (.ref h.length), some (.int (nI 8192))]) (st' := [(.int 0), (.int 102), (.int 105), (.ref h.length)]) rfl rfl ?_
  refine go_a (pc' := 528) (ls' := [some (.ref h.length), some (.int (nI 8192))]) (st' := [(.int 0), (.int 0), (.int 102), (.int 105), (.ref h.length)]) rfl rfl ?_
  refine go_a (pc' := 529) (ls' := [some (.ref h.length), some (.int (nI 8192))]) (st' := [(.int 0), (.int 0), (.int 0), (.int 102), (.int 105), (.ref h.length)]) rfl rfl ?_
  refine go_a (pc' := 530) (ls' := [some (.ref h.length), some (.int (nI 8192))]) (st' := [(.int 0), (.int 0), (.int 0), (.int 0), (.int 102), (.int 105), (.ref h.length)]) rfl rfl ?_
  refine go_a (pc' := 531) (ls' := [some (.ref h.length), some (.int (nI 8192))]) (st' := [(.int 0), (.int 0), (.int 0), (.int 0), (.int 0), (.int 102), (.int 105), (.ref h.length)]) rfl rfl ?_
  refine go_a (pc' := 532) (ls' := [some (.ref h.length), some (.int (nI 8192))]) (st' := [(.int 0), (.int 0), (.int 0), (.int 0), (.int 0), (.int 0), (.int 102), (.int 105), (.ref h.length)]) rfl rfl ?_
  refine go_v (m := 60) (as := [.ref h.length, .int 105, .int 102, .int 0, .int 0, .int 0, .int 0, .int 0, .int 0]) (r := []) rfl rfl rfl hfs rfl rfl (xm_said z d h h3 3 105 102 0 0 0 0 0 0 hc (by omega) (by decide) hR3) (fun v h4 hq1 => ?_)
  obtain ⟨rfl, hR4⟩ := hq1
  clear hfs hR3
  show xx_go (xt_P z) (d + 3) 59 535 [some (.ref h.length), some (.int (nI 8192))] [] h4 Q
  obtain ⟨fs, hfs⟩ := xr_R_at hR4
  refine go_a (pc' := 536) (ls' := [some (.ref h.length), some (.int (nI 8192))]) (st' := [(.ref h.length)]) rfl rfl ?_
  refine go_a (pc' := 538) (ls' := [some (.ref h.length), some (.int (nI 8192))]) (st' := [(.int 101), (.ref h.length)]) rfl rfl ?_
  refine go_a (pc' := 540) (ls' := [some (.ref h.length), some (.int (nI 8192))]) (st' := [(.int 113), (.int 101), (.ref h.length)]) rfl rfl ?_
  refine go_a (pc' := 542) (ls' := [some (.ref h.length), some (.int (nI 8192))]) (st' := [(.int 117), (.int 113), (.int 101), (.ref h.length)]) rfl rfl ?_
  refine go_a (pc' := 544) (ls' := [some (.ref h.length), some (.int (nI 8192))]) (st' := [(.int 97), (.int 117), (.int 113), (.int 101), (.ref h.length)]) rfl rfl ?_
  refine go_a (pc' := 546) (ls' := [some (.ref h.length), some (.int (nI 8192))]) (st' := [(.int 108), (.int 97), (.int 117), (.int 113), (.int 101), (.ref h.length)]) rfl rfl ?_
  refine go_a (pc' := 547) (ls' := [some (.ref h.length), some (.int (nI 8192))]) (st' := [(.int 0), (.int 108), (.int 97), (.int 117), (.int 113), (.int 101), (.ref h.length)]) rfl rfl ?_
  refine go_a (pc' := 548) (ls' := [some (.ref h.length), some (.int (nI 8192))]) (st' := [(.int 0), (.int 0), (.int 108), (.int 97), (.int 117), (.int 113), (.int 101), (.ref h.length)]) rfl rfl ?_
  refine go_a (pc' := 549) (ls' := [some (.ref h.length), some (.int (nI 8192))]) (st' := [(.int 0), (.int 0), (.int 0), (.int 108), (.int 97), (.int 117), (.int 113), (.int 101), (.ref h.length)]) rfl rfl ?_
  refine go_v (m := 60) (as := [.ref h.length, .int 101, .int 113, .int 117, .int 97, .int 108, .int 0, .int 0, .int 0]) (r := []) rfl rfl rfl hfs rfl rfl (xm_said z d h h4 4 101 113 117 97 108 0 0 0 hc (by omega) (by decide) hR4) (fun v h5 hq1 => ?_)
  obtain ⟨rfl, hR5⟩ := hq1
  clear hfs hR4
  show xx_go (xt_P z) (d + 3) 59 552 [some (.ref h.length), some (.int (nI 8192))] [] h5 Q
  obtain ⟨fs, hfs⟩ := xr_R_at hR5
  refine go_a (pc' := 553) (ls' := [some (.ref h.length), some (.int (nI 8192))]) (st' := [(.ref h.length)]) rfl rfl ?_
  refine go_a (pc' := 555) (ls' := [some (.ref h.length), some (.int (nI 8192))]) (st' := [(.int 99), (.ref h.length)]) rfl rfl ?_
  refine go_a (pc' := 557) (ls' := [some (.ref h.length), some (.int (nI 8192))]) (st' := [(.int 111), (.int 99), (.ref h.length)]) rfl rfl ?_
  refine go_a (pc' := 559) (ls' := [some (.ref h.length), some (.int (nI 8192))]) (st' := [(.int 110), (.int 111), (.int 99), (.ref h.length)]) rfl rfl ?_
  refine go_a (pc' := 561) (ls' := [some (.ref h.length), some (.int (nI 8192))]) (st' := [(.int 115), (.int 110), (.int 111), (.int 99), (.ref h.length)]) rfl rfl ?_
  refine go_a (pc' := 562) (ls' := [some (.ref h.length), some (.int (nI 8192))]) (st' := [(.int 0), (.int 115), (.int 110), (.int 111), (.int 99), (.ref h.length)]) rfl rfl ?_
  refine go_a (pc' := 563) (ls' := [some (.ref h.length), some (.int (nI 8192))]) (st' := [(.int 0), (.int 0), (.int 115), (.int 110), (.int 111), (.int 99), (.ref h.length)]) rfl rfl ?_
  refine go_a (pc' := 564) (ls' := [some (.ref h.length), some (.int (nI 8192))]) (st' := [(.int 0), (.int 0), (.int 0), (.int 115), (.int 110), (.int 111), (.int 99), (.ref h.length)]) rfl rfl ?_
  refine go_a (pc' := 565) (ls' := [some (.ref h.length), some (.int (nI 8192))]) (st' := [(.int 0), (.int 0), (.int 0), (.int 0), (.int 115), (.int 110), (.int 111), (.int 99), (.ref h.length)]) rfl rfl ?_
  refine go_v (m := 60) (as := [.ref h.length, .int 99, .int 111, .int 110, .int 115, .int 0, .int 0, .int 0, .int 0]) (r := []) rfl rfl rfl hfs rfl rfl (xm_said z d h h5 5 99 111 110 115 0 0 0 0 hc (by omega) (by decide) hR5) (fun v h6 hq1 => ?_)
  obtain ⟨rfl, hR6⟩ := hq1
  clear hfs hR5
  show xx_go (xt_P z) (d + 3) 59 568 [some (.ref h.length), some (.int (nI 8192))] [] h6 Q
  obtain ⟨fs, hfs⟩ := xr_R_at hR6
  refine go_a (pc' := 569) (ls' := [some (.ref h.length), some (.int (nI 8192))]) (st' := [(.ref h.length)]) rfl rfl ?_
  refine go_a (pc' := 571) (ls' := [some (.ref h.length), some (.int (nI 8192))]) (st' := [(.int 105), (.ref h.length)]) rfl rfl ?_
  refine go_a (pc' := 573) (ls' := [some (.ref h.length), some (.int (nI 8192))]) (st' := [(.int 109), (.int 105), (.ref h.length)]) rfl rfl ?_
  refine go_a (pc' := 575) (ls' := [some (.ref h.length), some (.int (nI 8192))]) (st' := [(.int 112), (.int 109), (.int 105), (.ref h.length)]) rfl rfl ?_
  refine go_a (pc' := 577) (ls' := [some (.ref h.length), some (.int (nI 8192))]) (st' := [(.int 108), (.int 112), (.int 109), (.int 105), (.ref h.length)]) rfl rfl ?_
  refine go_a (pc' := 579) (ls' := [some (.ref h.length), some (.int (nI 8192))]) (st' := [(.int 105), (.int 108), (.int 112), (.int 109), (.int 105), (.ref h.length)]) rfl rfl ?_
  refine go_a (pc' := 581) (ls' := [some (.ref h.length), some (.int (nI 8192))]) (st' := [(.int 101), (.int 105), (.int 108), (.int 112), (.int 109), (.int 105), (.ref h.length)]) rfl rfl ?_
  refine go_a (pc' := 583) (ls' := [some (.ref h.length), some (.int (nI 8192))]) (st' := [(.int 115), (.int 101), (.int 105), (.int 108), (.int 112), (.int 109), (.int 105), (.ref h.length)]) rfl rfl ?_
  refine go_a (pc' := 584) (ls' := [some (.ref h.length), some (.int (nI 8192))]) (st' := [(.int 0), (.int 115), (.int 101), (.int 105), (.int 108), (.int 112), (.int 109), (.int 105), (.ref h.length)]) rfl rfl ?_
  refine go_v (m := 60) (as := [.ref h.length, .int 105, .int 109, .int 112, .int 108, .int 105, .int 101, .int 115, .int 0]) (r := []) rfl rfl rfl hfs rfl rfl (xm_said z d h h6 6 105 109 112 108 105 101 115 0 hc (by omega) (by decide) hR6) (fun v h7 hq1 => ?_)
  obtain ⟨rfl, hR7⟩ := hq1
  clear hfs hR6
  show xx_go (xt_P z) (d + 3) 59 587 [some (.ref h.length), some (.int (nI 8192))] [] h7 Q
  obtain ⟨fs, hfs⟩ := xr_R_at hR7
  refine go_a (pc' := 588) (ls' := [some (.ref h.length), some (.int (nI 8192))]) (st' := [(.ref h.length)]) rfl rfl ?_
  refine go_a (pc' := 590) (ls' := [some (.ref h.length), some (.int (nI 8192))]) (st' := [(.int 43), (.ref h.length)]) rfl rfl ?_
  refine go_a (pc' := 591) (ls' := [some (.ref h.length), some (.int (nI 8192))]) (st' := [(.int 0), (.int 43), (.ref h.length)]) rfl rfl ?_
  refine go_a (pc' := 592) (ls' := [some (.ref h.length), some (.int (nI 8192))]) (st' := [(.int 0), (.int 0), (.int 43), (.ref h.length)]) rfl rfl ?_
  refine go_a (pc' := 593) (ls' := [some (.ref h.length), some (.int (nI 8192))]) (st' := [(.int 0), (.int 0), (.int 0), (.int 43), (.ref h.length)]) rfl rfl ?_
  refine go_a (pc' := 594) (ls' := [some (.ref h.length), some (.int (nI 8192))]) (st' := [(.int 0), (.int 0), (.int 0), (.int 0), (.int 43), (.ref h.length)]) rfl rfl ?_
  refine go_a (pc' := 595) (ls' := [some (.ref h.length), some (.int (nI 8192))]) (st' := [(.int 0), (.int 0), (.int 0), (.int 0), (.int 0), (.int 43), (.ref h.length)]) rfl rfl ?_
  refine go_a (pc' := 596) (ls' := [some (.ref h.length), some (.int (nI 8192))]) (st' := [(.int 0), (.int 0), (.int 0), (.int 0), (.int 0), (.int 0), (.int 43), (.ref h.length)]) rfl rfl ?_
  refine go_a (pc' := 597) (ls' := [some (.ref h.length), some (.int (nI 8192))]) (st' := [(.int 0), (.int 0), (.int 0), (.int 0), (.int 0), (.int 0), (.int 0), (.int 43), (.ref h.length)]) rfl rfl ?_
  refine go_v (m := 60) (as := [.ref h.length, .int 43, .int 0, .int 0, .int 0, .int 0, .int 0, .int 0, .int 0]) (r := []) rfl rfl rfl hfs rfl rfl (xm_said z d h h7 7 43 0 0 0 0 0 0 0 hc (by omega) (by decide) hR7) (fun v h8 hq1 => ?_)
  obtain ⟨rfl, hR8⟩ := hq1
  clear hfs hR7
  show xx_go (xt_P z) (d + 3) 59 600 [some (.ref h.length), some (.int (nI 8192))] [] h8 Q
  obtain ⟨fs, hfs⟩ := xr_R_at hR8
  refine go_a (pc' := 601) (ls' := [some (.ref h.length), some (.int (nI 8192))]) (st' := [(.ref h.length)]) rfl rfl ?_
  refine go_a (pc' := 603) (ls' := [some (.ref h.length), some (.int (nI 8192))]) (st' := [(.int 45), (.ref h.length)]) rfl rfl ?_
  refine go_a (pc' := 604) (ls' := [some (.ref h.length), some (.int (nI 8192))]) (st' := [(.int 0), (.int 45), (.ref h.length)]) rfl rfl ?_
  refine go_a (pc' := 605) (ls' := [some (.ref h.length), some (.int (nI 8192))]) (st' := [(.int 0), (.int 0), (.int 45), (.ref h.length)]) rfl rfl ?_
  refine go_a (pc' := 606) (ls' := [some (.ref h.length), some (.int (nI 8192))]) (st' := [(.int 0), (.int 0), (.int 0), (.int 45), (.ref h.length)]) rfl rfl ?_
  refine go_a (pc' := 607) (ls' := [some (.ref h.length), some (.int (nI 8192))]) (st' := [(.int 0), (.int 0), (.int 0), (.int 0), (.int 45), (.ref h.length)]) rfl rfl ?_
  refine go_a (pc' := 608) (ls' := [some (.ref h.length), some (.int (nI 8192))]) (st' := [(.int 0), (.int 0), (.int 0), (.int 0), (.int 0), (.int 45), (.ref h.length)]) rfl rfl ?_
  refine go_a (pc' := 609) (ls' := [some (.ref h.length), some (.int (nI 8192))]) (st' := [(.int 0), (.int 0), (.int 0), (.int 0), (.int 0), (.int 0), (.int 45), (.ref h.length)]) rfl rfl ?_
  refine go_a (pc' := 610) (ls' := [some (.ref h.length), some (.int (nI 8192))]) (st' := [(.int 0), (.int 0), (.int 0), (.int 0), (.int 0), (.int 0), (.int 0), (.int 45), (.ref h.length)]) rfl rfl ?_
  refine go_v (m := 60) (as := [.ref h.length, .int 45, .int 0, .int 0, .int 0, .int 0, .int 0, .int 0, .int 0]) (r := []) rfl rfl rfl hfs rfl rfl (xm_said z d h h8 8 45 0 0 0 0 0 0 0 hc (by omega) (by decide) hR8) (fun v h9 hq1 => ?_)
  obtain ⟨rfl, hR9⟩ := hq1
  clear hfs hR8
  show xx_go (xt_P z) (d + 3) 59 613 [some (.ref h.length), some (.int (nI 8192))] [] h9 Q
  obtain ⟨fs, hfs⟩ := xr_R_at hR9
  refine go_a (pc' := 614) (ls' := [some (.ref h.length), some (.int (nI 8192))]) (st' := [(.ref h.length)]) rfl rfl ?_
  refine go_a (pc' := 616) (ls' := [some (.ref h.length), some (.int (nI 8192))]) (st' := [(.int 60), (.ref h.length)]) rfl rfl ?_
  refine go_a (pc' := 617) (ls' := [some (.ref h.length), some (.int (nI 8192))]) (st' := [(.int 0), (.int 60), (.ref h.length)]) rfl rfl ?_
  refine go_a (pc' := 618) (ls' := [some (.ref h.length), some (.int (nI 8192))]) (st' := [(.int 0), (.int 0), (.int 60), (.ref h.length)]) rfl rfl ?_
  refine go_a (pc' := 619) (ls' := [some (.ref h.length), some (.int (nI 8192))]) (st' := [(.int 0), (.int 0), (.int 0), (.int 60), (.ref h.length)]) rfl rfl ?_
  refine go_a (pc' := 620) (ls' := [some (.ref h.length), some (.int (nI 8192))]) (st' := [(.int 0), (.int 0), (.int 0), (.int 0), (.int 60), (.ref h.length)]) rfl rfl ?_
  refine go_a (pc' := 621) (ls' := [some (.ref h.length), some (.int (nI 8192))]) (st' := [(.int 0), (.int 0), (.int 0), (.int 0), (.int 0), (.int 60), (.ref h.length)]) rfl rfl ?_
  refine go_a (pc' := 622) (ls' := [some (.ref h.length), some (.int (nI 8192))]) (st' := [(.int 0), (.int 0), (.int 0), (.int 0), (.int 0), (.int 0), (.int 60), (.ref h.length)]) rfl rfl ?_
  refine go_a (pc' := 623) (ls' := [some (.ref h.length), some (.int (nI 8192))]) (st' := [(.int 0), (.int 0), (.int 0), (.int 0), (.int 0), (.int 0), (.int 0), (.int 60), (.ref h.length)]) rfl rfl ?_
  refine go_v (m := 60) (as := [.ref h.length, .int 60, .int 0, .int 0, .int 0, .int 0, .int 0, .int 0, .int 0]) (r := []) rfl rfl rfl hfs rfl rfl (xm_said z d h h9 9 60 0 0 0 0 0 0 0 hc (by omega) (by decide) hR9) (fun v h10 hq1 => ?_)
  obtain ⟨rfl, hR10⟩ := hq1
  clear hfs hR9
  show xx_go (xt_P z) (d + 3) 59 626 [some (.ref h.length), some (.int (nI 8192))] [] h10 Q
  obtain ⟨fs, hfs⟩ := xr_R_at hR10
  refine go_a (pc' := 627) (ls' := [some (.ref h.length), some (.int (nI 8192))]) (st' := [(.ref h.length)]) rfl rfl ?_
  refine go_a (pc' := 629) (ls' := [some (.ref h.length), some (.int (nI 8192))]) (st' := [(.int 99), (.ref h.length)]) rfl rfl ?_
  refine go_a (pc' := 631) (ls' := [some (.ref h.length), some (.int (nI 8192))]) (st' := [(.int 111), (.int 99), (.ref h.length)]) rfl rfl ?_
  refine go_a (pc' := 633) (ls' := [some (.ref h.length), some (.int (nI 8192))]) (st' := [(.int 110), (.int 111), (.int 99), (.ref h.length)]) rfl rfl ?_
  refine go_a (pc' := 635) (ls' := [some (.ref h.length), some (.int (nI 8192))]) (st' := [(.int 115), (.int 110), (.int 111), (.int 99), (.ref h.length)]) rfl rfl ?_
  refine go_a (pc' := 637) (ls' := [some (.ref h.length), some (.int (nI 8192))]) (st' := [(.int 112), (.int 115), (.int 110), (.int 111), (.int 99), (.ref h.length)]) rfl rfl ?_
  refine go_a (pc' := 638) (ls' := [some (.ref h.length), some (.int (nI 8192))]) (st' := [(.int 0), (.int 112), (.int 115), (.int 110), (.int 111), (.int 99), (.ref h.length)]) rfl rfl ?_
  refine go_a (pc' := 639) (ls' := [some (.ref h.length), some (.int (nI 8192))]) (st' := [(.int 0), (.int 0), (.int 112), (.int 115), (.int 110), (.int 111), (.int 99), (.ref h.length)]) rfl rfl ?_
  refine go_a (pc' := 640) (ls' := [some (.ref h.length), some (.int (nI 8192))]) (st' := [(.int 0), (.int 0), (.int 0), (.int 112), (.int 115), (.int 110), (.int 111), (.int 99), (.ref h.length)]) rfl rfl ?_
  refine go_v (m := 60) (as := [.ref h.length, .int 99, .int 111, .int 110, .int 115, .int 112, .int 0, .int 0, .int 0]) (r := []) rfl rfl rfl hfs rfl rfl (xm_said z d h h10 10 99 111 110 115 112 0 0 0 hc (by omega) (by decide) hR10) (fun v h11 hq1 => ?_)
  obtain ⟨rfl, hR11⟩ := hq1
  clear hfs hR10
  exact hg _ hR11
set_option maxRecDepth 20000 in
theorem xm_saids1 (z : Value) (d : Nat) (h h0 : xx_H) (Q : Option Value → xx_H → Prop) (hc : 12 ≤ h.length) (hR0 : xr_R h 11 h0) (hg : ∀ h1 : xx_H, xr_R h 22 h1 → xx_go (xt_P z) (d + 3) 59 832 [some (.ref h.length), some (.int (nI 8192))] [] h1 Q) : xx_go (xt_P z) (d + 3) 59 643 [some (.ref h.length), some (.int (nI 8192))] [] h0 Q := by
  obtain ⟨fs, hfs⟩ := xr_R_at hR0
  refine go_a (pc' := 644) (ls' := [some (.ref h.length), some (.int (nI 8192))]) (st' := [(.ref h.length)]) rfl rfl ?_
  refine go_a (pc' := 646) (ls' := [some (.ref h.length), some (.int (nI 8192))]) (st' := [(.int 99), (.ref h.length)]) rfl rfl ?_
  refine go_a (pc' := 648) (ls' := [some (.ref h.length), some (.int (nI 8192))]) (st' := [(.int 97), (.int 99), (.ref h.length)]) rfl rfl ?_
  refine go_a (pc' := 650) (ls' := [some (.ref h.length), some (.int (nI 8192))]) (st' := [(.int 114), (.int 97), (.int 99), (.ref h.length)]) rfl rfl ?_
  refine go_a (pc' := 651) (ls' := [some (.ref h.length), some (.int (nI 8192))]) (st' := [(.int 0), (.int 114), (.int 97), (.int 99), (.ref h.length)]) rfl rfl ?_
  refine go_a (pc' := 652) (ls' := [some (.ref h.length), some (.int (nI 8192))]) (st' := [(.int 0), (.int 0), (.int 114), (.int 97), (.int 99), (.ref h.length)]) rfl rfl ?_
  refine go_a (pc' := 653) (ls' := [some (.ref h.length), some (.int (nI 8192))]) (st' := [(.int 0), (.int 0), (.int 0), (.int 114), (.int 97), (.int 99), (.ref h.length)]) rfl rfl ?_
  refine go_a (pc' := 654) (ls' := [some (.ref h.length), some (.int (nI 8192))]) (st' := [(.int 0), (.int 0), (.int 0), (.int 0), (.int 114), (.int 97), (.int 99), (.ref h.length)]) rfl rfl ?_
  refine go_a (pc' := 655) (ls' := [some (.ref h.length), some (.int (nI 8192))]) (st' := [(.int 0), (.int 0), (.int 0), (.int 0), (.int 0), (.int 114), (.int 97), (.int 99), (.ref h.length)]) rfl rfl ?_
  refine go_v (m := 60) (as := [.ref h.length, .int 99, .int 97, .int 114, .int 0, .int 0, .int 0, .int 0, .int 0]) (r := []) rfl rfl rfl hfs rfl rfl (xm_said z d h h0 11 99 97 114 0 0 0 0 0 hc (by omega) (by decide) hR0) (fun v h1 hq1 => ?_)
  obtain ⟨rfl, hR1⟩ := hq1
  clear hfs hR0
  show xx_go (xt_P z) (d + 3) 59 658 [some (.ref h.length), some (.int (nI 8192))] [] h1 Q
  obtain ⟨fs, hfs⟩ := xr_R_at hR1
  refine go_a (pc' := 659) (ls' := [some (.ref h.length), some (.int (nI 8192))]) (st' := [(.ref h.length)]) rfl rfl ?_
  refine go_a (pc' := 661) (ls' := [some (.ref h.length), some (.int (nI 8192))]) (st' := [(.int 99), (.ref h.length)]) rfl rfl ?_
  refine go_a (pc' := 663) (ls' := [some (.ref h.length), some (.int (nI 8192))]) (st' := [(.int 100), (.int 99), (.ref h.length)]) rfl rfl ?_
  refine go_a (pc' := 665) (ls' := [some (.ref h.length), some (.int (nI 8192))]) (st' := [(.int 114), (.int 100), (.int 99), (.ref h.length)]) rfl rfl ?_
  refine go_a (pc' := 666) (ls' := [some (.ref h.length), some (.int (nI 8192))]) (st' := [(.int 0), (.int 114), (.int 100), (.int 99), (.ref h.length)]) rfl rfl ?_
  refine go_a (pc' := 667) (ls' := [some (.ref h.length), some (.int (nI 8192))]) (st' := [(.int 0), (.int 0), (.int 114), (.int 100), (.int 99), (.ref h.length)]) rfl rfl ?_
  refine go_a (pc' := 668) (ls' := [some (.ref h.length), some (.int (nI 8192))]) (st' := [(.int 0), (.int 0), (.int 0), (.int 114), (.int 100), (.int 99), (.ref h.length)]) rfl rfl ?_
  refine go_a (pc' := 669) (ls' := [some (.ref h.length), some (.int (nI 8192))]) (st' := [(.int 0), (.int 0), (.int 0), (.int 0), (.int 114), (.int 100), (.int 99), (.ref h.length)]) rfl rfl ?_
  refine go_a (pc' := 670) (ls' := [some (.ref h.length), some (.int (nI 8192))]) (st' := [(.int 0), (.int 0), (.int 0), (.int 0), (.int 0), (.int 114), (.int 100), (.int 99), (.ref h.length)]) rfl rfl ?_
  refine go_v (m := 60) (as := [.ref h.length, .int 99, .int 100, .int 114, .int 0, .int 0, .int 0, .int 0, .int 0]) (r := []) rfl rfl rfl hfs rfl rfl (xm_said z d h h1 12 99 100 114 0 0 0 0 0 hc (by omega) (by decide) hR1) (fun v h2 hq1 => ?_)
  obtain ⟨rfl, hR2⟩ := hq1
  clear hfs hR1
  show xx_go (xt_P z) (d + 3) 59 673 [some (.ref h.length), some (.int (nI 8192))] [] h2 Q
  obtain ⟨fs, hfs⟩ := xr_R_at hR2
  refine go_a (pc' := 674) (ls' := [some (.ref h.length), some (.int (nI 8192))]) (st' := [(.ref h.length)]) rfl rfl ?_
  refine go_a (pc' := 676) (ls' := [some (.ref h.length), some (.int (nI 8192))]) (st' := [(.int 110), (.ref h.length)]) rfl rfl ?_
  refine go_a (pc' := 678) (ls' := [some (.ref h.length), some (.int (nI 8192))]) (st' := [(.int 97), (.int 110), (.ref h.length)]) rfl rfl ?_
  refine go_a (pc' := 680) (ls' := [some (.ref h.length), some (.int (nI 8192))]) (st' := [(.int 116), (.int 97), (.int 110), (.ref h.length)]) rfl rfl ?_
  refine go_a (pc' := 682) (ls' := [some (.ref h.length), some (.int (nI 8192))]) (st' := [(.int 112), (.int 116), (.int 97), (.int 110), (.ref h.length)]) rfl rfl ?_
  refine go_a (pc' := 683) (ls' := [some (.ref h.length), some (.int (nI 8192))]) (st' := [(.int 0), (.int 112), (.int 116), (.int 97), (.int 110), (.ref h.length)]) rfl rfl ?_
  refine go_a (pc' := 684) (ls' := [some (.ref h.length), some (.int (nI 8192))]) (st' := [(.int 0), (.int 0), (.int 112), (.int 116), (.int 97), (.int 110), (.ref h.length)]) rfl rfl ?_
  refine go_a (pc' := 685) (ls' := [some (.ref h.length), some (.int (nI 8192))]) (st' := [(.int 0), (.int 0), (.int 0), (.int 112), (.int 116), (.int 97), (.int 110), (.ref h.length)]) rfl rfl ?_
  refine go_a (pc' := 686) (ls' := [some (.ref h.length), some (.int (nI 8192))]) (st' := [(.int 0), (.int 0), (.int 0), (.int 0), (.int 112), (.int 116), (.int 97), (.int 110), (.ref h.length)]) rfl rfl ?_
  refine go_v (m := 60) (as := [.ref h.length, .int 110, .int 97, .int 116, .int 112, .int 0, .int 0, .int 0, .int 0]) (r := []) rfl rfl rfl hfs rfl rfl (xm_said z d h h2 13 110 97 116 112 0 0 0 0 hc (by omega) (by decide) hR2) (fun v h3 hq1 => ?_)
  obtain ⟨rfl, hR3⟩ := hq1
  clear hfs hR2
  show xx_go (xt_P z) (d + 3) 59 689 [some (.ref h.length), some (.int (nI 8192))] [] h3 Q
  obtain ⟨fs, hfs⟩ := xr_R_at hR3
  refine go_a (pc' := 690) (ls' := [some (.ref h.length), some (.int (nI 8192))]) (st' := [(.ref h.length)]) rfl rfl ?_
  refine go_a (pc' := 692) (ls' := [some (.ref h.length), some (.int (nI 8192))]) (st' := [(.int 115), (.ref h.length)]) rfl rfl ?_
  refine go_a (pc' := 694) (ls' := [some (.ref h.length), some (.int (nI 8192))]) (st' := [(.int 121), (.int 115), (.ref h.length)]) rfl rfl ?_
  refine go_a (pc' := 696) (ls' := [some (.ref h.length), some (.int (nI 8192))]) (st' := [(.int 109), (.int 121), (.int 115), (.ref h.length)]) rfl rfl ?_
  refine go_a (pc' := 698) (ls' := [some (.ref h.length), some (.int (nI 8192))]) (st' := [(.int 98), (.int 109), (.int 121), (.int 115), (.ref h.length)]) rfl rfl ?_
  refine go_a (pc' := 700) (ls' := [some (.ref h.length), some (.int (nI 8192))]) (st' := [(.int 111), (.int 98), (.int 109), (.int 121), (.int 115), (.ref h.length)]) rfl rfl ?_
  refine go_a (pc' := 702) (ls' := [some (.ref h.length), some (.int (nI 8192))]) (st' := [(.int 108), (.int 111), (.int 98), (.int 109), (.int 121), (.int 115), (.ref h.length)]) rfl rfl ?_
  refine go_a (pc' := 704) (ls' := [some (.ref h.length), some (.int (nI 8192))]) (st' := [(.int 112), (.int 108), (.int 111), (.int 98), (.int 109), (.int 121), (.int 115), (.ref h.length)]) rfl rfl ?_
  refine go_a (pc' := 705) (ls' := [some (.ref h.length), some (.int (nI 8192))]) (st' := [(.int 0), (.int 112), (.int 108), (.int 111), (.int 98), (.int 109), (.int 121), (.int 115), (.ref h.length)]) rfl rfl ?_
  refine go_v (m := 60) (as := [.ref h.length, .int 115, .int 121, .int 109, .int 98, .int 111, .int 108, .int 112, .int 0]) (r := []) rfl rfl rfl hfs rfl rfl (xm_said z d h h3 14 115 121 109 98 111 108 112 0 hc (by omega) (by decide) hR3) (fun v h4 hq1 => ?_)
  obtain ⟨rfl, hR4⟩ := hq1
  clear hfs hR3
  show xx_go (xt_P z) (d + 3) 59 708 [some (.ref h.length), some (.int (nI 8192))] [] h4 Q
  obtain ⟨fs, hfs⟩ := xr_R_at hR4
  refine go_a (pc' := 709) (ls' := [some (.ref h.length), some (.int (nI 8192))]) (st' := [(.ref h.length)]) rfl rfl ?_
  refine go_a (pc' := 711) (ls' := [some (.ref h.length), some (.int (nI 8192))]) (st' := [(.int 110), (.ref h.length)]) rfl rfl ?_
  refine go_a (pc' := 713) (ls' := [some (.ref h.length), some (.int (nI 8192))]) (st' := [(.int 111), (.int 110), (.ref h.length)]) rfl rfl ?_
  refine go_a (pc' := 715) (ls' := [some (.ref h.length), some (.int (nI 8192))]) (st' := [(.int 116), (.int 111), (.int 110), (.ref h.length)]) rfl rfl ?_
  refine go_a (pc' := 716) (ls' := [some (.ref h.length), some (.int (nI 8192))]) (st' := [(.int 0), (.int 116), (.int 111), (.int 110), (.ref h.length)]) rfl rfl ?_
  refine go_a (pc' := 717) (ls' := [some (.ref h.length), some (.int (nI 8192))]) (st' := [(.int 0), (.int 0), (.int 116), (.int 111), (.int 110), (.ref h.length)]) rfl rfl ?_
  refine go_a (pc' := 718) (ls' := [some (.ref h.length), some (.int (nI 8192))]) (st' := [(.int 0), (.int 0), (.int 0), (.int 116), (.int 111), (.int 110), (.ref h.length)]) rfl rfl ?_
  refine go_a (pc' := 719) (ls' := [some (.ref h.length), some (.int (nI 8192))]) (st' := [(.int 0), (.int 0), (.int 0), (.int 0), (.int 116), (.int 111), (.int 110), (.ref h.length)]) rfl rfl ?_
  refine go_a (pc' := 720) (ls' := [some (.ref h.length), some (.int (nI 8192))]) (st' := [(.int 0), (.int 0), (.int 0), (.int 0), (.int 0), (.int 116), (.int 111), (.int 110), (.ref h.length)]) rfl rfl ?_
  refine go_v (m := 60) (as := [.ref h.length, .int 110, .int 111, .int 116, .int 0, .int 0, .int 0, .int 0, .int 0]) (r := []) rfl rfl rfl hfs rfl rfl (xm_said z d h h4 15 110 111 116 0 0 0 0 0 hc (by omega) (by decide) hR4) (fun v h5 hq1 => ?_)
  obtain ⟨rfl, hR5⟩ := hq1
  clear hfs hR4
  show xx_go (xt_P z) (d + 3) 59 723 [some (.ref h.length), some (.int (nI 8192))] [] h5 Q
  obtain ⟨fs, hfs⟩ := xr_R_at hR5
  refine go_a (pc' := 724) (ls' := [some (.ref h.length), some (.int (nI 8192))]) (st' := [(.ref h.length)]) rfl rfl ?_
  refine go_a (pc' := 726) (ls' := [some (.ref h.length), some (.int (nI 8192))]) (st' := [(.int 104), (.ref h.length)]) rfl rfl ?_
  refine go_a (pc' := 728) (ls' := [some (.ref h.length), some (.int (nI 8192))]) (st' := [(.int 101), (.int 104), (.ref h.length)]) rfl rfl ?_
  refine go_a (pc' := 730) (ls' := [some (.ref h.length), some (.int (nI 8192))]) (st' := [(.int 105), (.int 101), (.int 104), (.ref h.length)]) rfl rfl ?_
  refine go_a (pc' := 732) (ls' := [some (.ref h.length), some (.int (nI 8192))]) (st' := [(.int 103), (.int 105), (.int 101), (.int 104), (.ref h.length)]) rfl rfl ?_
  refine go_a (pc' := 734) (ls' := [some (.ref h.length), some (.int (nI 8192))]) (st' := [(.int 104), (.int 103), (.int 105), (.int 101), (.int 104), (.ref h.length)]) rfl rfl ?_
  refine go_a (pc' := 736) (ls' := [some (.ref h.length), some (.int (nI 8192))]) (st' := [(.int 116), (.int 104), (.int 103), (.int 105), (.int 101), (.int 104), (.ref h.length)]) rfl rfl ?_
  refine go_a (pc' := 737) (ls' := [some (.ref h.length), some (.int (nI 8192))]) (st' := [(.int 0), (.int 116), (.int 104), (.int 103), (.int 105), (.int 101), (.int 104), (.ref h.length)]) rfl rfl ?_
  refine go_a (pc' := 738) (ls' := [some (.ref h.length), some (.int (nI 8192))]) (st' := [(.int 0), (.int 0), (.int 116), (.int 104), (.int 103), (.int 105), (.int 101), (.int 104), (.ref h.length)]) rfl rfl ?_
  refine go_v (m := 60) (as := [.ref h.length, .int 104, .int 101, .int 105, .int 103, .int 104, .int 116, .int 0, .int 0]) (r := []) rfl rfl rfl hfs rfl rfl (xm_said z d h h5 16 104 101 105 103 104 116 0 0 hc (by omega) (by decide) hR5) (fun v h6 hq1 => ?_)
  obtain ⟨rfl, hR6⟩ := hq1
  clear hfs hR5
  show xx_go (xt_P z) (d + 3) 59 741 [some (.ref h.length), some (.int (nI 8192))] [] h6 Q
  obtain ⟨fs, hfs⟩ := xr_R_at hR6
  refine go_a (pc' := 742) (ls' := [some (.ref h.length), some (.int (nI 8192))]) (st' := [(.ref h.length)]) rfl rfl ?_
  refine go_a (pc' := 744) (ls' := [some (.ref h.length), some (.int (nI 8192))]) (st' := [(.int 100), (.ref h.length)]) rfl rfl ?_
  refine go_a (pc' := 746) (ls' := [some (.ref h.length), some (.int (nI 8192))]) (st' := [(.int 101), (.int 100), (.ref h.length)]) rfl rfl ?_
  refine go_a (pc' := 748) (ls' := [some (.ref h.length), some (.int (nI 8192))]) (st' := [(.int 102), (.int 101), (.int 100), (.ref h.length)]) rfl rfl ?_
  refine go_a (pc' := 750) (ls' := [some (.ref h.length), some (.int (nI 8192))]) (st' := [(.int 117), (.int 102), (.int 101), (.int 100), (.ref h.length)]) rfl rfl ?_
  refine go_a (pc' := 752) (ls' := [some (.ref h.length), some (.int (nI 8192))]) (st' := [(.int 110), (.int 117), (.int 102), (.int 101), (.int 100), (.ref h.length)]) rfl rfl ?_
  refine go_a (pc' := 753) (ls' := [some (.ref h.length), some (.int (nI 8192))]) (st' := [(.int 0), (.int 110), (.int 117), (.int 102), (.int 101), (.int 100), (.ref h.length)]) rfl rfl ?_
  refine go_a (pc' := 754) (ls' := [some (.ref h.length), some (.int (nI 8192))]) (st' := [(.int 0), (.int 0), (.int 110), (.int 117), (.int 102), (.int 101), (.int 100), (.ref h.length)]) rfl rfl ?_
  refine go_a (pc' := 755) (ls' := [some (.ref h.length), some (.int (nI 8192))]) (st' := [(.int 0), (.int 0), (.int 0), (.int 110), (.int 117), (.int 102), (.int 101), (.int 100), (.ref h.length)]) rfl rfl ?_
  refine go_v (m := 60) (as := [.ref h.length, .int 100, .int 101, .int 102, .int 117, .int 110, .int 0, .int 0, .int 0]) (r := []) rfl rfl rfl hfs rfl rfl (xm_said z d h h6 17 100 101 102 117 110 0 0 0 hc (by omega) (by decide) hR6) (fun v h7 hq1 => ?_)
  obtain ⟨rfl, hR7⟩ := hq1
  clear hfs hR6
  show xx_go (xt_P z) (d + 3) 59 758 [some (.ref h.length), some (.int (nI 8192))] [] h7 Q
  obtain ⟨fs, hfs⟩ := xr_R_at hR7
  refine go_a (pc' := 759) (ls' := [some (.ref h.length), some (.int (nI 8192))]) (st' := [(.ref h.length)]) rfl rfl ?_
  refine go_a (pc' := 761) (ls' := [some (.ref h.length), some (.int (nI 8192))]) (st' := [(.int 116), (.ref h.length)]) rfl rfl ?_
  refine go_a (pc' := 763) (ls' := [some (.ref h.length), some (.int (nI 8192))]) (st' := [(.int 104), (.int 116), (.ref h.length)]) rfl rfl ?_
  refine go_a (pc' := 765) (ls' := [some (.ref h.length), some (.int (nI 8192))]) (st' := [(.int 101), (.int 104), (.int 116), (.ref h.length)]) rfl rfl ?_
  refine go_a (pc' := 767) (ls' := [some (.ref h.length), some (.int (nI 8192))]) (st' := [(.int 111), (.int 101), (.int 104), (.int 116), (.ref h.length)]) rfl rfl ?_
  refine go_a (pc' := 769) (ls' := [some (.ref h.length), some (.int (nI 8192))]) (st' := [(.int 114), (.int 111), (.int 101), (.int 104), (.int 116), (.ref h.length)]) rfl rfl ?_
  refine go_a (pc' := 771) (ls' := [some (.ref h.length), some (.int (nI 8192))]) (st' := [(.int 101), (.int 114), (.int 111), (.int 101), (.int 104), (.int 116), (.ref h.length)]) rfl rfl ?_
  refine go_a (pc' := 773) (ls' := [some (.ref h.length), some (.int (nI 8192))]) (st' := [(.int 109), (.int 101), (.int 114), (.int 111), (.int 101), (.int 104), (.int 116), (.ref h.length)]) rfl rfl ?_
  refine go_a (pc' := 774) (ls' := [some (.ref h.length), some (.int (nI 8192))]) (st' := [(.int 0), (.int 109), (.int 101), (.int 114), (.int 111), (.int 101), (.int 104), (.int 116), (.ref h.length)]) rfl rfl ?_
  refine go_v (m := 60) (as := [.ref h.length, .int 116, .int 104, .int 101, .int 111, .int 114, .int 101, .int 109, .int 0]) (r := []) rfl rfl rfl hfs rfl rfl (xm_said z d h h7 18 116 104 101 111 114 101 109 0 hc (by omega) (by decide) hR7) (fun v h8 hq1 => ?_)
  obtain ⟨rfl, hR8⟩ := hq1
  clear hfs hR7
  show xx_go (xt_P z) (d + 3) 59 777 [some (.ref h.length), some (.int (nI 8192))] [] h8 Q
  obtain ⟨fs, hfs⟩ := xr_R_at hR8
  refine go_a (pc' := 778) (ls' := [some (.ref h.length), some (.int (nI 8192))]) (st' := [(.ref h.length)]) rfl rfl ?_
  refine go_a (pc' := 780) (ls' := [some (.ref h.length), some (.int (nI 8192))]) (st' := [(.int 99), (.ref h.length)]) rfl rfl ?_
  refine go_a (pc' := 782) (ls' := [some (.ref h.length), some (.int (nI 8192))]) (st' := [(.int 108), (.int 99), (.ref h.length)]) rfl rfl ?_
  refine go_a (pc' := 784) (ls' := [some (.ref h.length), some (.int (nI 8192))]) (st' := [(.int 97), (.int 108), (.int 99), (.ref h.length)]) rfl rfl ?_
  refine go_a (pc' := 786) (ls' := [some (.ref h.length), some (.int (nI 8192))]) (st' := [(.int 117), (.int 97), (.int 108), (.int 99), (.ref h.length)]) rfl rfl ?_
  refine go_a (pc' := 788) (ls' := [some (.ref h.length), some (.int (nI 8192))]) (st' := [(.int 115), (.int 117), (.int 97), (.int 108), (.int 99), (.ref h.length)]) rfl rfl ?_
  refine go_a (pc' := 790) (ls' := [some (.ref h.length), some (.int (nI 8192))]) (st' := [(.int 101), (.int 115), (.int 117), (.int 97), (.int 108), (.int 99), (.ref h.length)]) rfl rfl ?_
  refine go_a (pc' := 791) (ls' := [some (.ref h.length), some (.int (nI 8192))]) (st' := [(.int 0), (.int 101), (.int 115), (.int 117), (.int 97), (.int 108), (.int 99), (.ref h.length)]) rfl rfl ?_
  refine go_a (pc' := 792) (ls' := [some (.ref h.length), some (.int (nI 8192))]) (st' := [(.int 0), (.int 0), (.int 101), (.int 115), (.int 117), (.int 97), (.int 108), (.int 99), (.ref h.length)]) rfl rfl ?_
  refine go_v (m := 60) (as := [.ref h.length, .int 99, .int 108, .int 97, .int 117, .int 115, .int 101, .int 0, .int 0]) (r := []) rfl rfl rfl hfs rfl rfl (xm_said z d h h8 19 99 108 97 117 115 101 0 0 hc (by omega) (by decide) hR8) (fun v h9 hq1 => ?_)
  obtain ⟨rfl, hR9⟩ := hq1
  clear hfs hR8
  show xx_go (xt_P z) (d + 3) 59 795 [some (.ref h.length), some (.int (nI 8192))] [] h9 Q
  obtain ⟨fs, hfs⟩ := xr_R_at hR9
  refine go_a (pc' := 796) (ls' := [some (.ref h.length), some (.int (nI 8192))]) (st' := [(.ref h.length)]) rfl rfl ?_
  refine go_a (pc' := 798) (ls' := [some (.ref h.length), some (.int (nI 8192))]) (st' := [(.int 115), (.ref h.length)]) rfl rfl ?_
  refine go_a (pc' := 800) (ls' := [some (.ref h.length), some (.int (nI 8192))]) (st' := [(.int 105), (.int 115), (.ref h.length)]) rfl rfl ?_
  refine go_a (pc' := 802) (ls' := [some (.ref h.length), some (.int (nI 8192))]) (st' := [(.int 109), (.int 105), (.int 115), (.ref h.length)]) rfl rfl ?_
  refine go_a (pc' := 804) (ls' := [some (.ref h.length), some (.int (nI 8192))]) (st' := [(.int 112), (.int 109), (.int 105), (.int 115), (.ref h.length)]) rfl rfl ?_
  refine go_a (pc' := 806) (ls' := [some (.ref h.length), some (.int (nI 8192))]) (st' := [(.int 108), (.int 112), (.int 109), (.int 105), (.int 115), (.ref h.length)]) rfl rfl ?_
  refine go_a (pc' := 808) (ls' := [some (.ref h.length), some (.int (nI 8192))]) (st' := [(.int 105), (.int 108), (.int 112), (.int 109), (.int 105), (.int 115), (.ref h.length)]) rfl rfl ?_
  refine go_a (pc' := 810) (ls' := [some (.ref h.length), some (.int (nI 8192))]) (st' := [(.int 102), (.int 105), (.int 108), (.int 112), (.int 109), (.int 105), (.int 115), (.ref h.length)]) rfl rfl ?_
  refine go_a (pc' := 812) (ls' := [some (.ref h.length), some (.int (nI 8192))]) (st' := [(.int 121), (.int 102), (.int 105), (.int 108), (.int 112), (.int 109), (.int 105), (.int 115), (.ref h.length)]) rfl rfl ?_
  refine go_v (m := 60) (as := [.ref h.length, .int 115, .int 105, .int 109, .int 112, .int 108, .int 105, .int 102, .int 121]) (r := []) rfl rfl rfl hfs rfl rfl (xm_said z d h h9 20 115 105 109 112 108 105 102 121 hc (by omega) (by decide) hR9) (fun v h10 hq1 => ?_)
  obtain ⟨rfl, hR10⟩ := hq1
  clear hfs hR9
  show xx_go (xt_P z) (d + 3) 59 815 [some (.ref h.length), some (.int (nI 8192))] [] h10 Q
  obtain ⟨fs, hfs⟩ := xr_R_at hR10
  refine go_a (pc' := 816) (ls' := [some (.ref h.length), some (.int (nI 8192))]) (st' := [(.ref h.length)]) rfl rfl ?_
  refine go_a (pc' := 818) (ls' := [some (.ref h.length), some (.int (nI 8192))]) (st' := [(.int 112), (.ref h.length)]) rfl rfl ?_
  refine go_a (pc' := 820) (ls' := [some (.ref h.length), some (.int (nI 8192))]) (st' := [(.int 114), (.int 112), (.ref h.length)]) rfl rfl ?_
  refine go_a (pc' := 822) (ls' := [some (.ref h.length), some (.int (nI 8192))]) (st' := [(.int 111), (.int 114), (.int 112), (.ref h.length)]) rfl rfl ?_
  refine go_a (pc' := 824) (ls' := [some (.ref h.length), some (.int (nI 8192))]) (st' := [(.int 118), (.int 111), (.int 114), (.int 112), (.ref h.length)]) rfl rfl ?_
  refine go_a (pc' := 826) (ls' := [some (.ref h.length), some (.int (nI 8192))]) (st' := [(.int 101), (.int 118), (.int 111), (.int 114), (.int 112), (.ref h.length)]) rfl rfl ?_
  refine go_a (pc' := 827) (ls' := [some (.ref h.length), some (.int (nI 8192))]) (st' := [(.int 0), (.int 101), (.int 118), (.int 111), (.int 114), (.int 112), (.ref h.length)]) rfl rfl ?_
  refine go_a (pc' := 828) (ls' := [some (.ref h.length), some (.int (nI 8192))]) (st' := [(.int 0), (.int 0), (.int 101), (.int 118), (.int 111), (.int 114), (.int 112), (.ref h.length)]) rfl rfl ?_
  refine go_a (pc' := 829) (ls' := [some (.ref h.length), some (.int (nI 8192))]) (st' := [(.int 0), (.int 0), (.int 0), (.int 101), (.int 118), (.int 111), (.int 114), (.int 112), (.ref h.length)]) rfl rfl ?_
  refine go_v (m := 60) (as := [.ref h.length, .int 112, .int 114, .int 111, .int 118, .int 101, .int 0, .int 0, .int 0]) (r := []) rfl rfl rfl hfs rfl rfl (xm_said z d h h10 21 112 114 111 118 101 0 0 0 hc (by omega) (by decide) hR10) (fun v h11 hq1 => ?_)
  obtain ⟨rfl, hR11⟩ := hq1
  clear hfs hR10
  exact hg _ hR11
set_option maxRecDepth 20000 in
theorem xm_saids2 (z : Value) (d : Nat) (h h0 : xx_H) (Q : Option Value → xx_H → Prop) (hc : 12 ≤ h.length) (hR0 : xr_R h 22 h0) (hg : ∀ h1 : xx_H, xr_R h 33 h1 → xx_go (xt_P z) (d + 3) 59 1011 [some (.ref h.length), some (.int (nI 8192))] [] h1 Q) : xx_go (xt_P z) (d + 3) 59 832 [some (.ref h.length), some (.int (nI 8192))] [] h0 Q := by
  obtain ⟨fs, hfs⟩ := xr_R_at hR0
  refine go_a (pc' := 833) (ls' := [some (.ref h.length), some (.int (nI 8192))]) (st' := [(.ref h.length)]) rfl rfl ?_
  refine go_a (pc' := 835) (ls' := [some (.ref h.length), some (.int (nI 8192))]) (st' := [(.int 100), (.ref h.length)]) rfl rfl ?_
  refine go_a (pc' := 837) (ls' := [some (.ref h.length), some (.int (nI 8192))]) (st' := [(.int 101), (.int 100), (.ref h.length)]) rfl rfl ?_
  refine go_a (pc' := 839) (ls' := [some (.ref h.length), some (.int (nI 8192))]) (st' := [(.int 102), (.int 101), (.int 100), (.ref h.length)]) rfl rfl ?_
  refine go_a (pc' := 841) (ls' := [some (.ref h.length), some (.int (nI 8192))]) (st' := [(.int 116), (.int 102), (.int 101), (.int 100), (.ref h.length)]) rfl rfl ?_
  refine go_a (pc' := 843) (ls' := [some (.ref h.length), some (.int (nI 8192))]) (st' := [(.int 104), (.int 116), (.int 102), (.int 101), (.int 100), (.ref h.length)]) rfl rfl ?_
  refine go_a (pc' := 845) (ls' := [some (.ref h.length), some (.int (nI 8192))]) (st' := [(.int 109), (.int 104), (.int 116), (.int 102), (.int 101), (.int 100), (.ref h.length)]) rfl rfl ?_
  refine go_a (pc' := 846) (ls' := [some (.ref h.length), some (.int (nI 8192))]) (st' := [(.int 0), (.int 109), (.int 104), (.int 116), (.int 102), (.int 101), (.int 100), (.ref h.length)]) rfl rfl ?_
  refine go_a (pc' := 847) (ls' := [some (.ref h.length), some (.int (nI 8192))]) (st' := [(.int 0), (.int 0), (.int 109), (.int 104), (.int 116), (.int 102), (.int 101), (.int 100), (.ref h.length)]) rfl rfl ?_
  refine go_v (m := 60) (as := [.ref h.length, .int 100, .int 101, .int 102, .int 116, .int 104, .int 109, .int 0, .int 0]) (r := []) rfl rfl rfl hfs rfl rfl (xm_said z d h h0 22 100 101 102 116 104 109 0 0 hc (by omega) (by decide) hR0) (fun v h1 hq1 => ?_)
  obtain ⟨rfl, hR1⟩ := hq1
  clear hfs hR0
  show xx_go (xt_P z) (d + 3) 59 850 [some (.ref h.length), some (.int (nI 8192))] [] h1 Q
  obtain ⟨fs, hfs⟩ := xr_R_at hR1
  refine go_a (pc' := 851) (ls' := [some (.ref h.length), some (.int (nI 8192))]) (st' := [(.ref h.length)]) rfl rfl ?_
  refine go_a (pc' := 853) (ls' := [some (.ref h.length), some (.int (nI 8192))]) (st' := [(.int 111), (.ref h.length)]) rfl rfl ?_
  refine go_a (pc' := 855) (ls' := [some (.ref h.length), some (.int (nI 8192))]) (st' := [(.int 110), (.int 111), (.ref h.length)]) rfl rfl ?_
  refine go_a (pc' := 856) (ls' := [some (.ref h.length), some (.int (nI 8192))]) (st' := [(.int 0), (.int 110), (.int 111), (.ref h.length)]) rfl rfl ?_
  refine go_a (pc' := 857) (ls' := [some (.ref h.length), some (.int (nI 8192))]) (st' := [(.int 0), (.int 0), (.int 110), (.int 111), (.ref h.length)]) rfl rfl ?_
  refine go_a (pc' := 858) (ls' := [some (.ref h.length), some (.int (nI 8192))]) (st' := [(.int 0), (.int 0), (.int 0), (.int 110), (.int 111), (.ref h.length)]) rfl rfl ?_
  refine go_a (pc' := 859) (ls' := [some (.ref h.length), some (.int (nI 8192))]) (st' := [(.int 0), (.int 0), (.int 0), (.int 0), (.int 110), (.int 111), (.ref h.length)]) rfl rfl ?_
  refine go_a (pc' := 860) (ls' := [some (.ref h.length), some (.int (nI 8192))]) (st' := [(.int 0), (.int 0), (.int 0), (.int 0), (.int 0), (.int 110), (.int 111), (.ref h.length)]) rfl rfl ?_
  refine go_a (pc' := 861) (ls' := [some (.ref h.length), some (.int (nI 8192))]) (st' := [(.int 0), (.int 0), (.int 0), (.int 0), (.int 0), (.int 0), (.int 110), (.int 111), (.ref h.length)]) rfl rfl ?_
  refine go_v (m := 60) (as := [.ref h.length, .int 111, .int 110, .int 0, .int 0, .int 0, .int 0, .int 0, .int 0]) (r := []) rfl rfl rfl hfs rfl rfl (xm_said z d h h1 23 111 110 0 0 0 0 0 0 hc (by omega) (by decide) hR1) (fun v h2 hq1 => ?_)
  obtain ⟨rfl, hR2⟩ := hq1
  clear hfs hR1
  show xx_go (xt_P z) (d + 3) 59 864 [some (.ref h.length), some (.int (nI 8192))] [] h2 Q
  obtain ⟨fs, hfs⟩ := xr_R_at hR2
  refine go_a (pc' := 865) (ls' := [some (.ref h.length), some (.int (nI 8192))]) (st' := [(.ref h.length)]) rfl rfl ?_
  refine go_a (pc' := 867) (ls' := [some (.ref h.length), some (.int (nI 8192))]) (st' := [(.int 111), (.ref h.length)]) rfl rfl ?_
  refine go_a (pc' := 869) (ls' := [some (.ref h.length), some (.int (nI 8192))]) (st' := [(.int 102), (.int 111), (.ref h.length)]) rfl rfl ?_
  refine go_a (pc' := 871) (ls' := [some (.ref h.length), some (.int (nI 8192))]) (st' := [(.int 102), (.int 102), (.int 111), (.ref h.length)]) rfl rfl ?_
  refine go_a (pc' := 872) (ls' := [some (.ref h.length), some (.int (nI 8192))]) (st' := [(.int 0), (.int 102), (.int 102), (.int 111), (.ref h.length)]) rfl rfl ?_
  refine go_a (pc' := 873) (ls' := [some (.ref h.length), some (.int (nI 8192))]) (st' := [(.int 0), (.int 0), (.int 102), (.int 102), (.int 111), (.ref h.length)]) rfl rfl ?_
  refine go_a (pc' := 874) (ls' := [some (.ref h.length), some (.int (nI 8192))]) (st' := [(.int 0), (.int 0), (.int 0), (.int 102), (.int 102), (.int 111), (.ref h.length)]) rfl rfl ?_
  refine go_a (pc' := 875) (ls' := [some (.ref h.length), some (.int (nI 8192))]) (st' := [(.int 0), (.int 0), (.int 0), (.int 0), (.int 102), (.int 102), (.int 111), (.ref h.length)]) rfl rfl ?_
  refine go_a (pc' := 876) (ls' := [some (.ref h.length), some (.int (nI 8192))]) (st' := [(.int 0), (.int 0), (.int 0), (.int 0), (.int 0), (.int 102), (.int 102), (.int 111), (.ref h.length)]) rfl rfl ?_
  refine go_v (m := 60) (as := [.ref h.length, .int 111, .int 102, .int 102, .int 0, .int 0, .int 0, .int 0, .int 0]) (r := []) rfl rfl rfl hfs rfl rfl (xm_said z d h h2 24 111 102 102 0 0 0 0 0 hc (by omega) (by decide) hR2) (fun v h3 hq1 => ?_)
  obtain ⟨rfl, hR3⟩ := hq1
  clear hfs hR2
  show xx_go (xt_P z) (d + 3) 59 879 [some (.ref h.length), some (.int (nI 8192))] [] h3 Q
  obtain ⟨fs, hfs⟩ := xr_R_at hR3
  refine go_a (pc' := 880) (ls' := [some (.ref h.length), some (.int (nI 8192))]) (st' := [(.ref h.length)]) rfl rfl ?_
  refine go_a (pc' := 882) (ls' := [some (.ref h.length), some (.int (nI 8192))]) (st' := [(.int 117), (.ref h.length)]) rfl rfl ?_
  refine go_a (pc' := 884) (ls' := [some (.ref h.length), some (.int (nI 8192))]) (st' := [(.int 110), (.int 117), (.ref h.length)]) rfl rfl ?_
  refine go_a (pc' := 886) (ls' := [some (.ref h.length), some (.int (nI 8192))]) (st' := [(.int 100), (.int 110), (.int 117), (.ref h.length)]) rfl rfl ?_
  refine go_a (pc' := 888) (ls' := [some (.ref h.length), some (.int (nI 8192))]) (st' := [(.int 111), (.int 100), (.int 110), (.int 117), (.ref h.length)]) rfl rfl ?_
  refine go_a (pc' := 889) (ls' := [some (.ref h.length), some (.int (nI 8192))]) (st' := [(.int 0), (.int 111), (.int 100), (.int 110), (.int 117), (.ref h.length)]) rfl rfl ?_
  refine go_a (pc' := 890) (ls' := [some (.ref h.length), some (.int (nI 8192))]) (st' := [(.int 0), (.int 0), (.int 111), (.int 100), (.int 110), (.int 117), (.ref h.length)]) rfl rfl ?_
  refine go_a (pc' := 891) (ls' := [some (.ref h.length), some (.int (nI 8192))]) (st' := [(.int 0), (.int 0), (.int 0), (.int 111), (.int 100), (.int 110), (.int 117), (.ref h.length)]) rfl rfl ?_
  refine go_a (pc' := 892) (ls' := [some (.ref h.length), some (.int (nI 8192))]) (st' := [(.int 0), (.int 0), (.int 0), (.int 0), (.int 111), (.int 100), (.int 110), (.int 117), (.ref h.length)]) rfl rfl ?_
  refine go_v (m := 60) (as := [.ref h.length, .int 117, .int 110, .int 100, .int 111, .int 0, .int 0, .int 0, .int 0]) (r := []) rfl rfl rfl hfs rfl rfl (xm_said z d h h3 25 117 110 100 111 0 0 0 0 hc (by omega) (by decide) hR3) (fun v h4 hq1 => ?_)
  obtain ⟨rfl, hR4⟩ := hq1
  clear hfs hR3
  show xx_go (xt_P z) (d + 3) 59 895 [some (.ref h.length), some (.int (nI 8192))] [] h4 Q
  obtain ⟨fs, hfs⟩ := xr_R_at hR4
  refine go_a (pc' := 896) (ls' := [some (.ref h.length), some (.int (nI 8192))]) (st' := [(.ref h.length)]) rfl rfl ?_
  refine go_a (pc' := 898) (ls' := [some (.ref h.length), some (.int (nI 8192))]) (st' := [(.int 99), (.ref h.length)]) rfl rfl ?_
  refine go_a (pc' := 900) (ls' := [some (.ref h.length), some (.int (nI 8192))]) (st' := [(.int 104), (.int 99), (.ref h.length)]) rfl rfl ?_
  refine go_a (pc' := 902) (ls' := [some (.ref h.length), some (.int (nI 8192))]) (st' := [(.int 101), (.int 104), (.int 99), (.ref h.length)]) rfl rfl ?_
  refine go_a (pc' := 904) (ls' := [some (.ref h.length), some (.int (nI 8192))]) (st' := [(.int 99), (.int 101), (.int 104), (.int 99), (.ref h.length)]) rfl rfl ?_
  refine go_a (pc' := 906) (ls' := [some (.ref h.length), some (.int (nI 8192))]) (st' := [(.int 107), (.int 99), (.int 101), (.int 104), (.int 99), (.ref h.length)]) rfl rfl ?_
  refine go_a (pc' := 907) (ls' := [some (.ref h.length), some (.int (nI 8192))]) (st' := [(.int 0), (.int 107), (.int 99), (.int 101), (.int 104), (.int 99), (.ref h.length)]) rfl rfl ?_
  refine go_a (pc' := 908) (ls' := [some (.ref h.length), some (.int (nI 8192))]) (st' := [(.int 0), (.int 0), (.int 107), (.int 99), (.int 101), (.int 104), (.int 99), (.ref h.length)]) rfl rfl ?_
  refine go_a (pc' := 909) (ls' := [some (.ref h.length), some (.int (nI 8192))]) (st' := [(.int 0), (.int 0), (.int 0), (.int 107), (.int 99), (.int 101), (.int 104), (.int 99), (.ref h.length)]) rfl rfl ?_
  refine go_v (m := 60) (as := [.ref h.length, .int 99, .int 104, .int 101, .int 99, .int 107, .int 0, .int 0, .int 0]) (r := []) rfl rfl rfl hfs rfl rfl (xm_said z d h h4 26 99 104 101 99 107 0 0 0 hc (by omega) (by decide) hR4) (fun v h5 hq1 => ?_)
  obtain ⟨rfl, hR5⟩ := hq1
  clear hfs hR4
  show xx_go (xt_P z) (d + 3) 59 912 [some (.ref h.length), some (.int (nI 8192))] [] h5 Q
  obtain ⟨fs, hfs⟩ := xr_R_at hR5
  refine go_a (pc' := 913) (ls' := [some (.ref h.length), some (.int (nI 8192))]) (st' := [(.ref h.length)]) rfl rfl ?_
  refine go_a (pc' := 915) (ls' := [some (.ref h.length), some (.int (nI 8192))]) (st' := [(.int 105), (.ref h.length)]) rfl rfl ?_
  refine go_a (pc' := 917) (ls' := [some (.ref h.length), some (.int (nI 8192))]) (st' := [(.int 110), (.int 105), (.ref h.length)]) rfl rfl ?_
  refine go_a (pc' := 919) (ls' := [some (.ref h.length), some (.int (nI 8192))]) (st' := [(.int 100), (.int 110), (.int 105), (.ref h.length)]) rfl rfl ?_
  refine go_a (pc' := 921) (ls' := [some (.ref h.length), some (.int (nI 8192))]) (st' := [(.int 117), (.int 100), (.int 110), (.int 105), (.ref h.length)]) rfl rfl ?_
  refine go_a (pc' := 923) (ls' := [some (.ref h.length), some (.int (nI 8192))]) (st' := [(.int 99), (.int 117), (.int 100), (.int 110), (.int 105), (.ref h.length)]) rfl rfl ?_
  refine go_a (pc' := 925) (ls' := [some (.ref h.length), some (.int (nI 8192))]) (st' := [(.int 116), (.int 99), (.int 117), (.int 100), (.int 110), (.int 105), (.ref h.length)]) rfl rfl ?_
  refine go_a (pc' := 926) (ls' := [some (.ref h.length), some (.int (nI 8192))]) (st' := [(.int 0), (.int 116), (.int 99), (.int 117), (.int 100), (.int 110), (.int 105), (.ref h.length)]) rfl rfl ?_
  refine go_a (pc' := 927) (ls' := [some (.ref h.length), some (.int (nI 8192))]) (st' := [(.int 0), (.int 0), (.int 116), (.int 99), (.int 117), (.int 100), (.int 110), (.int 105), (.ref h.length)]) rfl rfl ?_
  refine go_v (m := 60) (as := [.ref h.length, .int 105, .int 110, .int 100, .int 117, .int 99, .int 116, .int 0, .int 0]) (r := []) rfl rfl rfl hfs rfl rfl (xm_said z d h h5 27 105 110 100 117 99 116 0 0 hc (by omega) (by decide) hR5) (fun v h6 hq1 => ?_)
  obtain ⟨rfl, hR6⟩ := hq1
  clear hfs hR5
  show xx_go (xt_P z) (d + 3) 59 930 [some (.ref h.length), some (.int (nI 8192))] [] h6 Q
  obtain ⟨fs, hfs⟩ := xr_R_at hR6
  refine go_a (pc' := 931) (ls' := [some (.ref h.length), some (.int (nI 8192))]) (st' := [(.ref h.length)]) rfl rfl ?_
  refine go_a (pc' := 933) (ls' := [some (.ref h.length), some (.int (nI 8192))]) (st' := [(.int 117), (.ref h.length)]) rfl rfl ?_
  refine go_a (pc' := 935) (ls' := [some (.ref h.length), some (.int (nI 8192))]) (st' := [(.int 115), (.int 117), (.ref h.length)]) rfl rfl ?_
  refine go_a (pc' := 937) (ls' := [some (.ref h.length), some (.int (nI 8192))]) (st' := [(.int 101), (.int 115), (.int 117), (.ref h.length)]) rfl rfl ?_
  refine go_a (pc' := 938) (ls' := [some (.ref h.length), some (.int (nI 8192))]) (st' := [(.int 0), (.int 101), (.int 115), (.int 117), (.ref h.length)]) rfl rfl ?_
  refine go_a (pc' := 939) (ls' := [some (.ref h.length), some (.int (nI 8192))]) (st' := [(.int 0), (.int 0), (.int 101), (.int 115), (.int 117), (.ref h.length)]) rfl rfl ?_
  refine go_a (pc' := 940) (ls' := [some (.ref h.length), some (.int (nI 8192))]) (st' := [(.int 0), (.int 0), (.int 0), (.int 101), (.int 115), (.int 117), (.ref h.length)]) rfl rfl ?_
  refine go_a (pc' := 941) (ls' := [some (.ref h.length), some (.int (nI 8192))]) (st' := [(.int 0), (.int 0), (.int 0), (.int 0), (.int 101), (.int 115), (.int 117), (.ref h.length)]) rfl rfl ?_
  refine go_a (pc' := 942) (ls' := [some (.ref h.length), some (.int (nI 8192))]) (st' := [(.int 0), (.int 0), (.int 0), (.int 0), (.int 0), (.int 101), (.int 115), (.int 117), (.ref h.length)]) rfl rfl ?_
  refine go_v (m := 60) (as := [.ref h.length, .int 117, .int 115, .int 101, .int 0, .int 0, .int 0, .int 0, .int 0]) (r := []) rfl rfl rfl hfs rfl rfl (xm_said z d h h6 28 117 115 101 0 0 0 0 0 hc (by omega) (by decide) hR6) (fun v h7 hq1 => ?_)
  obtain ⟨rfl, hR7⟩ := hq1
  clear hfs hR6
  show xx_go (xt_P z) (d + 3) 59 945 [some (.ref h.length), some (.int (nI 8192))] [] h7 Q
  obtain ⟨fs, hfs⟩ := xr_R_at hR7
  refine go_a (pc' := 946) (ls' := [some (.ref h.length), some (.int (nI 8192))]) (st' := [(.ref h.length)]) rfl rfl ?_
  refine go_a (pc' := 948) (ls' := [some (.ref h.length), some (.int (nI 8192))]) (st' := [(.int 116), (.ref h.length)]) rfl rfl ?_
  refine go_a (pc' := 950) (ls' := [some (.ref h.length), some (.int (nI 8192))]) (st' := [(.int 97), (.int 116), (.ref h.length)]) rfl rfl ?_
  refine go_a (pc' := 952) (ls' := [some (.ref h.length), some (.int (nI 8192))]) (st' := [(.int 117), (.int 97), (.int 116), (.ref h.length)]) rfl rfl ?_
  refine go_a (pc' := 954) (ls' := [some (.ref h.length), some (.int (nI 8192))]) (st' := [(.int 116), (.int 117), (.int 97), (.int 116), (.ref h.length)]) rfl rfl ?_
  refine go_a (pc' := 955) (ls' := [some (.ref h.length), some (.int (nI 8192))]) (st' := [(.int 0), (.int 116), (.int 117), (.int 97), (.int 116), (.ref h.length)]) rfl rfl ?_
  refine go_a (pc' := 956) (ls' := [some (.ref h.length), some (.int (nI 8192))]) (st' := [(.int 0), (.int 0), (.int 116), (.int 117), (.int 97), (.int 116), (.ref h.length)]) rfl rfl ?_
  refine go_a (pc' := 957) (ls' := [some (.ref h.length), some (.int (nI 8192))]) (st' := [(.int 0), (.int 0), (.int 0), (.int 116), (.int 117), (.int 97), (.int 116), (.ref h.length)]) rfl rfl ?_
  refine go_a (pc' := 958) (ls' := [some (.ref h.length), some (.int (nI 8192))]) (st' := [(.int 0), (.int 0), (.int 0), (.int 0), (.int 116), (.int 117), (.int 97), (.int 116), (.ref h.length)]) rfl rfl ?_
  refine go_v (m := 60) (as := [.ref h.length, .int 116, .int 97, .int 117, .int 116, .int 0, .int 0, .int 0, .int 0]) (r := []) rfl rfl rfl hfs rfl rfl (xm_said z d h h7 29 116 97 117 116 0 0 0 0 hc (by omega) (by decide) hR7) (fun v h8 hq1 => ?_)
  obtain ⟨rfl, hR8⟩ := hq1
  clear hfs hR7
  show xx_go (xt_P z) (d + 3) 59 961 [some (.ref h.length), some (.int (nI 8192))] [] h8 Q
  obtain ⟨fs, hfs⟩ := xr_R_at hR8
  refine go_a (pc' := 962) (ls' := [some (.ref h.length), some (.int (nI 8192))]) (st' := [(.ref h.length)]) rfl rfl ?_
  refine go_a (pc' := 964) (ls' := [some (.ref h.length), some (.int (nI 8192))]) (st' := [(.int 115), (.ref h.length)]) rfl rfl ?_
  refine go_a (pc' := 966) (ls' := [some (.ref h.length), some (.int (nI 8192))]) (st' := [(.int 97), (.int 115), (.ref h.length)]) rfl rfl ?_
  refine go_a (pc' := 968) (ls' := [some (.ref h.length), some (.int (nI 8192))]) (st' := [(.int 109), (.int 97), (.int 115), (.ref h.length)]) rfl rfl ?_
  refine go_a (pc' := 970) (ls' := [some (.ref h.length), some (.int (nI 8192))]) (st' := [(.int 101), (.int 109), (.int 97), (.int 115), (.ref h.length)]) rfl rfl ?_
  refine go_a (pc' := 971) (ls' := [some (.ref h.length), some (.int (nI 8192))]) (st' := [(.int 0), (.int 101), (.int 109), (.int 97), (.int 115), (.ref h.length)]) rfl rfl ?_
  refine go_a (pc' := 972) (ls' := [some (.ref h.length), some (.int (nI 8192))]) (st' := [(.int 0), (.int 0), (.int 101), (.int 109), (.int 97), (.int 115), (.ref h.length)]) rfl rfl ?_
  refine go_a (pc' := 973) (ls' := [some (.ref h.length), some (.int (nI 8192))]) (st' := [(.int 0), (.int 0), (.int 0), (.int 101), (.int 109), (.int 97), (.int 115), (.ref h.length)]) rfl rfl ?_
  refine go_a (pc' := 974) (ls' := [some (.ref h.length), some (.int (nI 8192))]) (st' := [(.int 0), (.int 0), (.int 0), (.int 0), (.int 101), (.int 109), (.int 97), (.int 115), (.ref h.length)]) rfl rfl ?_
  refine go_v (m := 60) (as := [.ref h.length, .int 115, .int 97, .int 109, .int 101, .int 0, .int 0, .int 0, .int 0]) (r := []) rfl rfl rfl hfs rfl rfl (xm_said z d h h8 30 115 97 109 101 0 0 0 0 hc (by omega) (by decide) hR8) (fun v h9 hq1 => ?_)
  obtain ⟨rfl, hR9⟩ := hq1
  clear hfs hR8
  show xx_go (xt_P z) (d + 3) 59 977 [some (.ref h.length), some (.int (nI 8192))] [] h9 Q
  obtain ⟨fs, hfs⟩ := xr_R_at hR9
  refine go_a (pc' := 978) (ls' := [some (.ref h.length), some (.int (nI 8192))]) (st' := [(.ref h.length)]) rfl rfl ?_
  refine go_a (pc' := 980) (ls' := [some (.ref h.length), some (.int (nI 8192))]) (st' := [(.int 118), (.ref h.length)]) rfl rfl ?_
  refine go_a (pc' := 982) (ls' := [some (.ref h.length), some (.int (nI 8192))]) (st' := [(.int 97), (.int 118), (.ref h.length)]) rfl rfl ?_
  refine go_a (pc' := 984) (ls' := [some (.ref h.length), some (.int (nI 8192))]) (st' := [(.int 108), (.int 97), (.int 118), (.ref h.length)]) rfl rfl ?_
  refine go_a (pc' := 986) (ls' := [some (.ref h.length), some (.int (nI 8192))]) (st' := [(.int 117), (.int 108), (.int 97), (.int 118), (.ref h.length)]) rfl rfl ?_
  refine go_a (pc' := 988) (ls' := [some (.ref h.length), some (.int (nI 8192))]) (st' := [(.int 101), (.int 117), (.int 108), (.int 97), (.int 118), (.ref h.length)]) rfl rfl ?_
  refine go_a (pc' := 989) (ls' := [some (.ref h.length), some (.int (nI 8192))]) (st' := [(.int 0), (.int 101), (.int 117), (.int 108), (.int 97), (.int 118), (.ref h.length)]) rfl rfl ?_
  refine go_a (pc' := 990) (ls' := [some (.ref h.length), some (.int (nI 8192))]) (st' := [(.int 0), (.int 0), (.int 101), (.int 117), (.int 108), (.int 97), (.int 118), (.ref h.length)]) rfl rfl ?_
  refine go_a (pc' := 991) (ls' := [some (.ref h.length), some (.int (nI 8192))]) (st' := [(.int 0), (.int 0), (.int 0), (.int 101), (.int 117), (.int 108), (.int 97), (.int 118), (.ref h.length)]) rfl rfl ?_
  refine go_v (m := 60) (as := [.ref h.length, .int 118, .int 97, .int 108, .int 117, .int 101, .int 0, .int 0, .int 0]) (r := []) rfl rfl rfl hfs rfl rfl (xm_said z d h h9 31 118 97 108 117 101 0 0 0 hc (by omega) (by decide) hR9) (fun v h10 hq1 => ?_)
  obtain ⟨rfl, hR10⟩ := hq1
  clear hfs hR9
  show xx_go (xt_P z) (d + 3) 59 994 [some (.ref h.length), some (.int (nI 8192))] [] h10 Q
  obtain ⟨fs, hfs⟩ := xr_R_at hR10
  refine go_a (pc' := 995) (ls' := [some (.ref h.length), some (.int (nI 8192))]) (st' := [(.ref h.length)]) rfl rfl ?_
  refine go_a (pc' := 997) (ls' := [some (.ref h.length), some (.int (nI 8192))]) (st' := [(.int 102), (.ref h.length)]) rfl rfl ?_
  refine go_a (pc' := 999) (ls' := [some (.ref h.length), some (.int (nI 8192))]) (st' := [(.int 105), (.int 102), (.ref h.length)]) rfl rfl ?_
  refine go_a (pc' := 1001) (ls' := [some (.ref h.length), some (.int (nI 8192))]) (st' := [(.int 114), (.int 105), (.int 102), (.ref h.length)]) rfl rfl ?_
  refine go_a (pc' := 1003) (ls' := [some (.ref h.length), some (.int (nI 8192))]) (st' := [(.int 115), (.int 114), (.int 105), (.int 102), (.ref h.length)]) rfl rfl ?_
  refine go_a (pc' := 1005) (ls' := [some (.ref h.length), some (.int (nI 8192))]) (st' := [(.int 116), (.int 115), (.int 114), (.int 105), (.int 102), (.ref h.length)]) rfl rfl ?_
  refine go_a (pc' := 1006) (ls' := [some (.ref h.length), some (.int (nI 8192))]) (st' := [(.int 0), (.int 116), (.int 115), (.int 114), (.int 105), (.int 102), (.ref h.length)]) rfl rfl ?_
  refine go_a (pc' := 1007) (ls' := [some (.ref h.length), some (.int (nI 8192))]) (st' := [(.int 0), (.int 0), (.int 116), (.int 115), (.int 114), (.int 105), (.int 102), (.ref h.length)]) rfl rfl ?_
  refine go_a (pc' := 1008) (ls' := [some (.ref h.length), some (.int (nI 8192))]) (st' := [(.int 0), (.int 0), (.int 0), (.int 116), (.int 115), (.int 114), (.int 105), (.int 102), (.ref h.length)]) rfl rfl ?_
  refine go_v (m := 60) (as := [.ref h.length, .int 102, .int 105, .int 114, .int 115, .int 116, .int 0, .int 0, .int 0]) (r := []) rfl rfl rfl hfs rfl rfl (xm_said z d h h10 32 102 105 114 115 116 0 0 0 hc (by omega) (by decide) hR10) (fun v h11 hq1 => ?_)
  obtain ⟨rfl, hR11⟩ := hq1
  clear hfs hR10
  exact hg _ hR11
set_option maxRecDepth 20000 in
theorem xm_saids3 (z : Value) (d : Nat) (h h0 : xx_H) (Q : Option Value → xx_H → Prop) (hc : 12 ≤ h.length) (hR0 : xr_R h 33 h0) (hg : ∀ h1 : xx_H, xr_R h 44 h1 → xx_go (xt_P z) (d + 3) 59 1182 [some (.ref h.length), some (.int (nI 8192))] [] h1 Q) : xx_go (xt_P z) (d + 3) 59 1011 [some (.ref h.length), some (.int (nI 8192))] [] h0 Q := by
  obtain ⟨fs, hfs⟩ := xr_R_at hR0
  refine go_a (pc' := 1012) (ls' := [some (.ref h.length), some (.int (nI 8192))]) (st' := [(.ref h.length)]) rfl rfl ?_
  refine go_a (pc' := 1014) (ls' := [some (.ref h.length), some (.int (nI 8192))]) (st' := [(.int 115), (.ref h.length)]) rfl rfl ?_
  refine go_a (pc' := 1016) (ls' := [some (.ref h.length), some (.int (nI 8192))]) (st' := [(.int 101), (.int 115), (.ref h.length)]) rfl rfl ?_
  refine go_a (pc' := 1018) (ls' := [some (.ref h.length), some (.int (nI 8192))]) (st' := [(.int 99), (.int 101), (.int 115), (.ref h.length)]) rfl rfl ?_
  refine go_a (pc' := 1020) (ls' := [some (.ref h.length), some (.int (nI 8192))]) (st' := [(.int 111), (.int 99), (.int 101), (.int 115), (.ref h.length)]) rfl rfl ?_
  refine go_a (pc' := 1022) (ls' := [some (.ref h.length), some (.int (nI 8192))]) (st' := [(.int 110), (.int 111), (.int 99), (.int 101), (.int 115), (.ref h.length)]) rfl rfl ?_
  refine go_a (pc' := 1024) (ls' := [some (.ref h.length), some (.int (nI 8192))]) (st' := [(.int 100), (.int 110), (.int 111), (.int 99), (.int 101), (.int 115), (.ref h.length)]) rfl rfl ?_
  refine go_a (pc' := 1025) (ls' := [some (.ref h.length), some (.int (nI 8192))]) (st' := [(.int 0), (.int 100), (.int 110), (.int 111), (.int 99), (.int 101), (.int 115), (.ref h.length)]) rfl rfl ?_
  refine go_a (pc' := 1026) (ls' := [some (.ref h.length), some (.int (nI 8192))]) (st' := [(.int 0), (.int 0), (.int 100), (.int 110), (.int 111), (.int 99), (.int 101), (.int 115), (.ref h.length)]) rfl rfl ?_
  refine go_v (m := 60) (as := [.ref h.length, .int 115, .int 101, .int 99, .int 111, .int 110, .int 100, .int 0, .int 0]) (r := []) rfl rfl rfl hfs rfl rfl (xm_said z d h h0 33 115 101 99 111 110 100 0 0 hc (by omega) (by decide) hR0) (fun v h1 hq1 => ?_)
  obtain ⟨rfl, hR1⟩ := hq1
  clear hfs hR0
  show xx_go (xt_P z) (d + 3) 59 1029 [some (.ref h.length), some (.int (nI 8192))] [] h1 Q
  obtain ⟨fs, hfs⟩ := xr_R_at hR1
  refine go_a (pc' := 1030) (ls' := [some (.ref h.length), some (.int (nI 8192))]) (st' := [(.ref h.length)]) rfl rfl ?_
  refine go_a (pc' := 1032) (ls' := [some (.ref h.length), some (.int (nI 8192))]) (st' := [(.int 112), (.ref h.length)]) rfl rfl ?_
  refine go_a (pc' := 1034) (ls' := [some (.ref h.length), some (.int (nI 8192))]) (st' := [(.int 97), (.int 112), (.ref h.length)]) rfl rfl ?_
  refine go_a (pc' := 1036) (ls' := [some (.ref h.length), some (.int (nI 8192))]) (st' := [(.int 105), (.int 97), (.int 112), (.ref h.length)]) rfl rfl ?_
  refine go_a (pc' := 1038) (ls' := [some (.ref h.length), some (.int (nI 8192))]) (st' := [(.int 114), (.int 105), (.int 97), (.int 112), (.ref h.length)]) rfl rfl ?_
  refine go_a (pc' := 1039) (ls' := [some (.ref h.length), some (.int (nI 8192))]) (st' := [(.int 0), (.int 114), (.int 105), (.int 97), (.int 112), (.ref h.length)]) rfl rfl ?_
  refine go_a (pc' := 1040) (ls' := [some (.ref h.length), some (.int (nI 8192))]) (st' := [(.int 0), (.int 0), (.int 114), (.int 105), (.int 97), (.int 112), (.ref h.length)]) rfl rfl ?_
  refine go_a (pc' := 1041) (ls' := [some (.ref h.length), some (.int (nI 8192))]) (st' := [(.int 0), (.int 0), (.int 0), (.int 114), (.int 105), (.int 97), (.int 112), (.ref h.length)]) rfl rfl ?_
  refine go_a (pc' := 1042) (ls' := [some (.ref h.length), some (.int (nI 8192))]) (st' := [(.int 0), (.int 0), (.int 0), (.int 0), (.int 114), (.int 105), (.int 97), (.int 112), (.ref h.length)]) rfl rfl ?_
  refine go_v (m := 60) (as := [.ref h.length, .int 112, .int 97, .int 105, .int 114, .int 0, .int 0, .int 0, .int 0]) (r := []) rfl rfl rfl hfs rfl rfl (xm_said z d h h1 34 112 97 105 114 0 0 0 0 hc (by omega) (by decide) hR1) (fun v h2 hq1 => ?_)
  obtain ⟨rfl, hR2⟩ := hq1
  clear hfs hR1
  show xx_go (xt_P z) (d + 3) 59 1045 [some (.ref h.length), some (.int (nI 8192))] [] h2 Q
  obtain ⟨fs, hfs⟩ := xr_R_at hR2
  refine go_a (pc' := 1046) (ls' := [some (.ref h.length), some (.int (nI 8192))]) (st' := [(.ref h.length)]) rfl rfl ?_
  refine go_a (pc' := 1048) (ls' := [some (.ref h.length), some (.int (nI 8192))]) (st' := [(.int 121), (.ref h.length)]) rfl rfl ?_
  refine go_a (pc' := 1050) (ls' := [some (.ref h.length), some (.int (nI 8192))]) (st' := [(.int 101), (.int 121), (.ref h.length)]) rfl rfl ?_
  refine go_a (pc' := 1052) (ls' := [some (.ref h.length), some (.int (nI 8192))]) (st' := [(.int 115), (.int 101), (.int 121), (.ref h.length)]) rfl rfl ?_
  refine go_a (pc' := 1053) (ls' := [some (.ref h.length), some (.int (nI 8192))]) (st' := [(.int 0), (.int 115), (.int 101), (.int 121), (.ref h.length)]) rfl rfl ?_
  refine go_a (pc' := 1054) (ls' := [some (.ref h.length), some (.int (nI 8192))]) (st' := [(.int 0), (.int 0), (.int 115), (.int 101), (.int 121), (.ref h.length)]) rfl rfl ?_
  refine go_a (pc' := 1055) (ls' := [some (.ref h.length), some (.int (nI 8192))]) (st' := [(.int 0), (.int 0), (.int 0), (.int 115), (.int 101), (.int 121), (.ref h.length)]) rfl rfl ?_
  refine go_a (pc' := 1056) (ls' := [some (.ref h.length), some (.int (nI 8192))]) (st' := [(.int 0), (.int 0), (.int 0), (.int 0), (.int 115), (.int 101), (.int 121), (.ref h.length)]) rfl rfl ?_
  refine go_a (pc' := 1057) (ls' := [some (.ref h.length), some (.int (nI 8192))]) (st' := [(.int 0), (.int 0), (.int 0), (.int 0), (.int 0), (.int 115), (.int 101), (.int 121), (.ref h.length)]) rfl rfl ?_
  refine go_v (m := 60) (as := [.ref h.length, .int 121, .int 101, .int 115, .int 0, .int 0, .int 0, .int 0, .int 0]) (r := []) rfl rfl rfl hfs rfl rfl (xm_said z d h h2 35 121 101 115 0 0 0 0 0 hc (by omega) (by decide) hR2) (fun v h3 hq1 => ?_)
  obtain ⟨rfl, hR3⟩ := hq1
  clear hfs hR2
  show xx_go (xt_P z) (d + 3) 59 1060 [some (.ref h.length), some (.int (nI 8192))] [] h3 Q
  obtain ⟨fs, hfs⟩ := xr_R_at hR3
  refine go_a (pc' := 1061) (ls' := [some (.ref h.length), some (.int (nI 8192))]) (st' := [(.ref h.length)]) rfl rfl ?_
  refine go_a (pc' := 1063) (ls' := [some (.ref h.length), some (.int (nI 8192))]) (st' := [(.int 110), (.ref h.length)]) rfl rfl ?_
  refine go_a (pc' := 1065) (ls' := [some (.ref h.length), some (.int (nI 8192))]) (st' := [(.int 111), (.int 110), (.ref h.length)]) rfl rfl ?_
  refine go_a (pc' := 1066) (ls' := [some (.ref h.length), some (.int (nI 8192))]) (st' := [(.int 0), (.int 111), (.int 110), (.ref h.length)]) rfl rfl ?_
  refine go_a (pc' := 1067) (ls' := [some (.ref h.length), some (.int (nI 8192))]) (st' := [(.int 0), (.int 0), (.int 111), (.int 110), (.ref h.length)]) rfl rfl ?_
  refine go_a (pc' := 1068) (ls' := [some (.ref h.length), some (.int (nI 8192))]) (st' := [(.int 0), (.int 0), (.int 0), (.int 111), (.int 110), (.ref h.length)]) rfl rfl ?_
  refine go_a (pc' := 1069) (ls' := [some (.ref h.length), some (.int (nI 8192))]) (st' := [(.int 0), (.int 0), (.int 0), (.int 0), (.int 111), (.int 110), (.ref h.length)]) rfl rfl ?_
  refine go_a (pc' := 1070) (ls' := [some (.ref h.length), some (.int (nI 8192))]) (st' := [(.int 0), (.int 0), (.int 0), (.int 0), (.int 0), (.int 111), (.int 110), (.ref h.length)]) rfl rfl ?_
  refine go_a (pc' := 1071) (ls' := [some (.ref h.length), some (.int (nI 8192))]) (st' := [(.int 0), (.int 0), (.int 0), (.int 0), (.int 0), (.int 0), (.int 111), (.int 110), (.ref h.length)]) rfl rfl ?_
  refine go_v (m := 60) (as := [.ref h.length, .int 110, .int 111, .int 0, .int 0, .int 0, .int 0, .int 0, .int 0]) (r := []) rfl rfl rfl hfs rfl rfl (xm_said z d h h3 36 110 111 0 0 0 0 0 0 hc (by omega) (by decide) hR3) (fun v h4 hq1 => ?_)
  obtain ⟨rfl, hR4⟩ := hq1
  clear hfs hR3
  show xx_go (xt_P z) (d + 3) 59 1074 [some (.ref h.length), some (.int (nI 8192))] [] h4 Q
  obtain ⟨fs, hfs⟩ := xr_R_at hR4
  refine go_a (pc' := 1075) (ls' := [some (.ref h.length), some (.int (nI 8192))]) (st' := [(.ref h.length)]) rfl rfl ?_
  refine go_a (pc' := 1077) (ls' := [some (.ref h.length), some (.int (nI 8192))]) (st' := [(.int 100), (.ref h.length)]) rfl rfl ?_
  refine go_a (pc' := 1079) (ls' := [some (.ref h.length), some (.int (nI 8192))]) (st' := [(.int 101), (.int 100), (.ref h.length)]) rfl rfl ?_
  refine go_a (pc' := 1081) (ls' := [some (.ref h.length), some (.int (nI 8192))]) (st' := [(.int 102), (.int 101), (.int 100), (.ref h.length)]) rfl rfl ?_
  refine go_a (pc' := 1082) (ls' := [some (.ref h.length), some (.int (nI 8192))]) (st' := [(.int 0), (.int 102), (.int 101), (.int 100), (.ref h.length)]) rfl rfl ?_
  refine go_a (pc' := 1083) (ls' := [some (.ref h.length), some (.int (nI 8192))]) (st' := [(.int 0), (.int 0), (.int 102), (.int 101), (.int 100), (.ref h.length)]) rfl rfl ?_
  refine go_a (pc' := 1084) (ls' := [some (.ref h.length), some (.int (nI 8192))]) (st' := [(.int 0), (.int 0), (.int 0), (.int 102), (.int 101), (.int 100), (.ref h.length)]) rfl rfl ?_
  refine go_a (pc' := 1085) (ls' := [some (.ref h.length), some (.int (nI 8192))]) (st' := [(.int 0), (.int 0), (.int 0), (.int 0), (.int 102), (.int 101), (.int 100), (.ref h.length)]) rfl rfl ?_
  refine go_a (pc' := 1086) (ls' := [some (.ref h.length), some (.int (nI 8192))]) (st' := [(.int 0), (.int 0), (.int 0), (.int 0), (.int 0), (.int 102), (.int 101), (.int 100), (.ref h.length)]) rfl rfl ?_
  refine go_v (m := 60) (as := [.ref h.length, .int 100, .int 101, .int 102, .int 0, .int 0, .int 0, .int 0, .int 0]) (r := []) rfl rfl rfl hfs rfl rfl (xm_said z d h h4 37 100 101 102 0 0 0 0 0 hc (by omega) (by decide) hR4) (fun v h5 hq1 => ?_)
  obtain ⟨rfl, hR5⟩ := hq1
  clear hfs hR4
  show xx_go (xt_P z) (d + 3) 59 1089 [some (.ref h.length), some (.int (nI 8192))] [] h5 Q
  obtain ⟨fs, hfs⟩ := xr_R_at hR5
  refine go_a (pc' := 1090) (ls' := [some (.ref h.length), some (.int (nI 8192))]) (st' := [(.ref h.length)]) rfl rfl ?_
  refine go_a (pc' := 1092) (ls' := [some (.ref h.length), some (.int (nI 8192))]) (st' := [(.int 116), (.ref h.length)]) rfl rfl ?_
  refine go_a (pc' := 1094) (ls' := [some (.ref h.length), some (.int (nI 8192))]) (st' := [(.int 104), (.int 116), (.ref h.length)]) rfl rfl ?_
  refine go_a (pc' := 1096) (ls' := [some (.ref h.length), some (.int (nI 8192))]) (st' := [(.int 109), (.int 104), (.int 116), (.ref h.length)]) rfl rfl ?_
  refine go_a (pc' := 1097) (ls' := [some (.ref h.length), some (.int (nI 8192))]) (st' := [(.int 0), (.int 109), (.int 104), (.int 116), (.ref h.length)]) rfl rfl ?_
  refine go_a (pc' := 1098) (ls' := [some (.ref h.length), some (.int (nI 8192))]) (st' := [(.int 0), (.int 0), (.int 109), (.int 104), (.int 116), (.ref h.length)]) rfl rfl ?_
  refine go_a (pc' := 1099) (ls' := [some (.ref h.length), some (.int (nI 8192))]) (st' := [(.int 0), (.int 0), (.int 0), (.int 109), (.int 104), (.int 116), (.ref h.length)]) rfl rfl ?_
  refine go_a (pc' := 1100) (ls' := [some (.ref h.length), some (.int (nI 8192))]) (st' := [(.int 0), (.int 0), (.int 0), (.int 0), (.int 109), (.int 104), (.int 116), (.ref h.length)]) rfl rfl ?_
  refine go_a (pc' := 1101) (ls' := [some (.ref h.length), some (.int (nI 8192))]) (st' := [(.int 0), (.int 0), (.int 0), (.int 0), (.int 0), (.int 109), (.int 104), (.int 116), (.ref h.length)]) rfl rfl ?_
  refine go_v (m := 60) (as := [.ref h.length, .int 116, .int 104, .int 109, .int 0, .int 0, .int 0, .int 0, .int 0]) (r := []) rfl rfl rfl hfs rfl rfl (xm_said z d h h5 38 116 104 109 0 0 0 0 0 hc (by omega) (by decide) hR5) (fun v h6 hq1 => ?_)
  obtain ⟨rfl, hR6⟩ := hq1
  clear hfs hR5
  show xx_go (xt_P z) (d + 3) 59 1104 [some (.ref h.length), some (.int (nI 8192))] [] h6 Q
  obtain ⟨fs, hfs⟩ := xr_R_at hR6
  refine go_a (pc' := 1105) (ls' := [some (.ref h.length), some (.int (nI 8192))]) (st' := [(.ref h.length)]) rfl rfl ?_
  refine go_a (pc' := 1107) (ls' := [some (.ref h.length), some (.int (nI 8192))]) (st' := [(.int 119), (.ref h.length)]) rfl rfl ?_
  refine go_a (pc' := 1109) (ls' := [some (.ref h.length), some (.int (nI 8192))]) (st' := [(.int 101), (.int 119), (.ref h.length)]) rfl rfl ?_
  refine go_a (pc' := 1111) (ls' := [some (.ref h.length), some (.int (nI 8192))]) (st' := [(.int 97), (.int 101), (.int 119), (.ref h.length)]) rfl rfl ?_
  refine go_a (pc' := 1113) (ls' := [some (.ref h.length), some (.int (nI 8192))]) (st' := [(.int 107), (.int 97), (.int 101), (.int 119), (.ref h.length)]) rfl rfl ?_
  refine go_a (pc' := 1114) (ls' := [some (.ref h.length), some (.int (nI 8192))]) (st' := [(.int 0), (.int 107), (.int 97), (.int 101), (.int 119), (.ref h.length)]) rfl rfl ?_
  refine go_a (pc' := 1115) (ls' := [some (.ref h.length), some (.int (nI 8192))]) (st' := [(.int 0), (.int 0), (.int 107), (.int 97), (.int 101), (.int 119), (.ref h.length)]) rfl rfl ?_
  refine go_a (pc' := 1116) (ls' := [some (.ref h.length), some (.int (nI 8192))]) (st' := [(.int 0), (.int 0), (.int 0), (.int 107), (.int 97), (.int 101), (.int 119), (.ref h.length)]) rfl rfl ?_
  refine go_a (pc' := 1117) (ls' := [some (.ref h.length), some (.int (nI 8192))]) (st' := [(.int 0), (.int 0), (.int 0), (.int 0), (.int 107), (.int 97), (.int 101), (.int 119), (.ref h.length)]) rfl rfl ?_
  refine go_v (m := 60) (as := [.ref h.length, .int 119, .int 101, .int 97, .int 107, .int 0, .int 0, .int 0, .int 0]) (r := []) rfl rfl rfl hfs rfl rfl (xm_said z d h h6 39 119 101 97 107 0 0 0 0 hc (by omega) (by decide) hR6) (fun v h7 hq1 => ?_)
  obtain ⟨rfl, hR7⟩ := hq1
  clear hfs hR6
  show xx_go (xt_P z) (d + 3) 59 1120 [some (.ref h.length), some (.int (nI 8192))] [] h7 Q
  obtain ⟨fs, hfs⟩ := xr_R_at hR7
  refine go_a (pc' := 1121) (ls' := [some (.ref h.length), some (.int (nI 8192))]) (st' := [(.ref h.length)]) rfl rfl ?_
  refine go_a (pc' := 1123) (ls' := [some (.ref h.length), some (.int (nI 8192))]) (st' := [(.int 99), (.ref h.length)]) rfl rfl ?_
  refine go_a (pc' := 1125) (ls' := [some (.ref h.length), some (.int (nI 8192))]) (st' := [(.int 117), (.int 99), (.ref h.length)]) rfl rfl ?_
  refine go_a (pc' := 1127) (ls' := [some (.ref h.length), some (.int (nI 8192))]) (st' := [(.int 116), (.int 117), (.int 99), (.ref h.length)]) rfl rfl ?_
  refine go_a (pc' := 1128) (ls' := [some (.ref h.length), some (.int (nI 8192))]) (st' := [(.int 0), (.int 116), (.int 117), (.int 99), (.ref h.length)]) rfl rfl ?_
  refine go_a (pc' := 1129) (ls' := [some (.ref h.length), some (.int (nI 8192))]) (st' := [(.int 0), (.int 0), (.int 116), (.int 117), (.int 99), (.ref h.length)]) rfl rfl ?_
  refine go_a (pc' := 1130) (ls' := [some (.ref h.length), some (.int (nI 8192))]) (st' := [(.int 0), (.int 0), (.int 0), (.int 116), (.int 117), (.int 99), (.ref h.length)]) rfl rfl ?_
  refine go_a (pc' := 1131) (ls' := [some (.ref h.length), some (.int (nI 8192))]) (st' := [(.int 0), (.int 0), (.int 0), (.int 0), (.int 116), (.int 117), (.int 99), (.ref h.length)]) rfl rfl ?_
  refine go_a (pc' := 1132) (ls' := [some (.ref h.length), some (.int (nI 8192))]) (st' := [(.int 0), (.int 0), (.int 0), (.int 0), (.int 0), (.int 116), (.int 117), (.int 99), (.ref h.length)]) rfl rfl ?_
  refine go_v (m := 60) (as := [.ref h.length, .int 99, .int 117, .int 116, .int 0, .int 0, .int 0, .int 0, .int 0]) (r := []) rfl rfl rfl hfs rfl rfl (xm_said z d h h7 40 99 117 116 0 0 0 0 0 hc (by omega) (by decide) hR7) (fun v h8 hq1 => ?_)
  obtain ⟨rfl, hR8⟩ := hq1
  clear hfs hR7
  show xx_go (xt_P z) (d + 3) 59 1135 [some (.ref h.length), some (.int (nI 8192))] [] h8 Q
  obtain ⟨fs, hfs⟩ := xr_R_at hR8
  refine go_a (pc' := 1136) (ls' := [some (.ref h.length), some (.int (nI 8192))]) (st' := [(.ref h.length)]) rfl rfl ?_
  refine go_a (pc' := 1138) (ls' := [some (.ref h.length), some (.int (nI 8192))]) (st' := [(.int 105), (.ref h.length)]) rfl rfl ?_
  refine go_a (pc' := 1140) (ls' := [some (.ref h.length), some (.int (nI 8192))]) (st' := [(.int 110), (.int 105), (.ref h.length)]) rfl rfl ?_
  refine go_a (pc' := 1142) (ls' := [some (.ref h.length), some (.int (nI 8192))]) (st' := [(.int 115), (.int 110), (.int 105), (.ref h.length)]) rfl rfl ?_
  refine go_a (pc' := 1144) (ls' := [some (.ref h.length), some (.int (nI 8192))]) (st' := [(.int 116), (.int 115), (.int 110), (.int 105), (.ref h.length)]) rfl rfl ?_
  refine go_a (pc' := 1145) (ls' := [some (.ref h.length), some (.int (nI 8192))]) (st' := [(.int 0), (.int 116), (.int 115), (.int 110), (.int 105), (.ref h.length)]) rfl rfl ?_
  refine go_a (pc' := 1146) (ls' := [some (.ref h.length), some (.int (nI 8192))]) (st' := [(.int 0), (.int 0), (.int 116), (.int 115), (.int 110), (.int 105), (.ref h.length)]) rfl rfl ?_
  refine go_a (pc' := 1147) (ls' := [some (.ref h.length), some (.int (nI 8192))]) (st' := [(.int 0), (.int 0), (.int 0), (.int 116), (.int 115), (.int 110), (.int 105), (.ref h.length)]) rfl rfl ?_
  refine go_a (pc' := 1148) (ls' := [some (.ref h.length), some (.int (nI 8192))]) (st' := [(.int 0), (.int 0), (.int 0), (.int 0), (.int 116), (.int 115), (.int 110), (.int 105), (.ref h.length)]) rfl rfl ?_
  refine go_v (m := 60) (as := [.ref h.length, .int 105, .int 110, .int 115, .int 116, .int 0, .int 0, .int 0, .int 0]) (r := []) rfl rfl rfl hfs rfl rfl (xm_said z d h h8 41 105 110 115 116 0 0 0 0 hc (by omega) (by decide) hR8) (fun v h9 hq1 => ?_)
  obtain ⟨rfl, hR9⟩ := hq1
  clear hfs hR8
  show xx_go (xt_P z) (d + 3) 59 1151 [some (.ref h.length), some (.int (nI 8192))] [] h9 Q
  obtain ⟨fs, hfs⟩ := xr_R_at hR9
  refine go_a (pc' := 1152) (ls' := [some (.ref h.length), some (.int (nI 8192))]) (st' := [(.ref h.length)]) rfl rfl ?_
  refine go_a (pc' := 1154) (ls' := [some (.ref h.length), some (.int (nI 8192))]) (st' := [(.int 115), (.ref h.length)]) rfl rfl ?_
  refine go_a (pc' := 1156) (ls' := [some (.ref h.length), some (.int (nI 8192))]) (st' := [(.int 119), (.int 115), (.ref h.length)]) rfl rfl ?_
  refine go_a (pc' := 1158) (ls' := [some (.ref h.length), some (.int (nI 8192))]) (st' := [(.int 97), (.int 119), (.int 115), (.ref h.length)]) rfl rfl ?_
  refine go_a (pc' := 1160) (ls' := [some (.ref h.length), some (.int (nI 8192))]) (st' := [(.int 112), (.int 97), (.int 119), (.int 115), (.ref h.length)]) rfl rfl ?_
  refine go_a (pc' := 1161) (ls' := [some (.ref h.length), some (.int (nI 8192))]) (st' := [(.int 0), (.int 112), (.int 97), (.int 119), (.int 115), (.ref h.length)]) rfl rfl ?_
  refine go_a (pc' := 1162) (ls' := [some (.ref h.length), some (.int (nI 8192))]) (st' := [(.int 0), (.int 0), (.int 112), (.int 97), (.int 119), (.int 115), (.ref h.length)]) rfl rfl ?_
  refine go_a (pc' := 1163) (ls' := [some (.ref h.length), some (.int (nI 8192))]) (st' := [(.int 0), (.int 0), (.int 0), (.int 112), (.int 97), (.int 119), (.int 115), (.ref h.length)]) rfl rfl ?_
  refine go_a (pc' := 1164) (ls' := [some (.ref h.length), some (.int (nI 8192))]) (st' := [(.int 0), (.int 0), (.int 0), (.int 0), (.int 112), (.int 97), (.int 119), (.int 115), (.ref h.length)]) rfl rfl ?_
  refine go_v (m := 60) (as := [.ref h.length, .int 115, .int 119, .int 97, .int 112, .int 0, .int 0, .int 0, .int 0]) (r := []) rfl rfl rfl hfs rfl rfl (xm_said z d h h9 42 115 119 97 112 0 0 0 0 hc (by omega) (by decide) hR9) (fun v h10 hq1 => ?_)
  obtain ⟨rfl, hR10⟩ := hq1
  clear hfs hR9
  show xx_go (xt_P z) (d + 3) 59 1167 [some (.ref h.length), some (.int (nI 8192))] [] h10 Q
  obtain ⟨fs, hfs⟩ := xr_R_at hR10
  refine go_a (pc' := 1168) (ls' := [some (.ref h.length), some (.int (nI 8192))]) (st' := [(.ref h.length)]) rfl rfl ?_
  refine go_a (pc' := 1170) (ls' := [some (.ref h.length), some (.int (nI 8192))]) (st' := [(.int 112), (.ref h.length)]) rfl rfl ?_
  refine go_a (pc' := 1172) (ls' := [some (.ref h.length), some (.int (nI 8192))]) (st' := [(.int 117), (.int 112), (.ref h.length)]) rfl rfl ?_
  refine go_a (pc' := 1174) (ls' := [some (.ref h.length), some (.int (nI 8192))]) (st' := [(.int 116), (.int 117), (.int 112), (.ref h.length)]) rfl rfl ?_
  refine go_a (pc' := 1175) (ls' := [some (.ref h.length), some (.int (nI 8192))]) (st' := [(.int 0), (.int 116), (.int 117), (.int 112), (.ref h.length)]) rfl rfl ?_
  refine go_a (pc' := 1176) (ls' := [some (.ref h.length), some (.int (nI 8192))]) (st' := [(.int 0), (.int 0), (.int 116), (.int 117), (.int 112), (.ref h.length)]) rfl rfl ?_
  refine go_a (pc' := 1177) (ls' := [some (.ref h.length), some (.int (nI 8192))]) (st' := [(.int 0), (.int 0), (.int 0), (.int 116), (.int 117), (.int 112), (.ref h.length)]) rfl rfl ?_
  refine go_a (pc' := 1178) (ls' := [some (.ref h.length), some (.int (nI 8192))]) (st' := [(.int 0), (.int 0), (.int 0), (.int 0), (.int 116), (.int 117), (.int 112), (.ref h.length)]) rfl rfl ?_
  refine go_a (pc' := 1179) (ls' := [some (.ref h.length), some (.int (nI 8192))]) (st' := [(.int 0), (.int 0), (.int 0), (.int 0), (.int 0), (.int 116), (.int 117), (.int 112), (.ref h.length)]) rfl rfl ?_
  refine go_v (m := 60) (as := [.ref h.length, .int 112, .int 117, .int 116, .int 0, .int 0, .int 0, .int 0, .int 0]) (r := []) rfl rfl rfl hfs rfl rfl (xm_said z d h h10 43 112 117 116 0 0 0 0 0 hc (by omega) (by decide) hR10) (fun v h11 hq1 => ?_)
  obtain ⟨rfl, hR11⟩ := hq1
  clear hfs hR10
  exact hg _ hR11
set_option maxRecDepth 20000 in
theorem MDL0 {g : Int → Int} (hg : ∀ e : Int, 0 ≤ e → e < 8192 → g e = -1) : MDL 0 MI0 (sw (fun _ _ => 0) 7 g) := by
  refine ⟨⟨⟨by decide, by decide, by decide, by decide, rfl⟩, fun k k0 k1 => absurd k1 (by show ¬ k < 0; omega), fun s s0 s1 => ?_, ⟨fun j k j0 jk k1 => absurd k1 (by show ¬ k < 0; omega), fun j j0 j1 => absurd j1 (by show ¬ j < 0; omega)⟩, ⟨fun s s0 s1 => absurd s1 (by show ¬ s < 0; omega), fun s => ⟨Int.le_refl _, by show (0 : Int) ≤ 255; decide⟩, fun k => ⟨Int.le_refl _, by show (0 : Int) < 4611686018427387904; decide⟩⟩, fun j k j0 jk k1 => absurd k1 (by show ¬ k < 0; omega), fun j k j0 jk k1 => absurd k1 (by show ¬ k < 0; omega), fun j k j0 jk k1 => absurd k1 (by show ¬ k < 0; omega), fun k k0 k1 => absurd k1 (by show ¬ k < 0; omega)⟩, ⟨rfl, rfl⟩, fun j hj => absurd hj (Nat.not_lt_zero _), fun e => ⟨Int.le_refl _, by show (0 : Int) ≤ 255; decide⟩, fun _ _ _ _ => rfl, fun i i1 i2 => sw_ne (by omega)⟩
  show -1 ≤ g s ∧ g s < 0 ∧ (0 ≤ g s → _)
  rw [hg s s0 s1]
  exact ⟨by decide, by decide, fun q => absurd q (by decide)⟩
set_option maxRecDepth 20000 in
theorem xm_model (z : Value) (d : Nat) (h : xx_H) (hc : 12 ≤ h.length) : xx_cl (xt_P z) (d + 4) 59 [.ref h.length] (h ++ xr_init h.length 0 0) (fun v h1 => v = none ∧ xr_R h 44 h1) := by
  refine cl_go rfl ?_
  show xx_go (xt_P z) (d + 3) 59 0 [some (.ref h.length), none] [] (h ++ xr_init h.length 0 0) _
  refine go_a (pc' := 1) (ls' := [some (.ref h.length), none]) (st' := [(.ref h.length)]) rfl rfl ?_
  refine go_o (st' := []) rfl rfl rfl rfl ?_
  refine xr_sts z (d + 3) h _ hc ?_
  rw [mb_eq]
  have e0 : h ++ mb h.length MI0 (fun _ _ => 0) (fun _ => 0) = mh h [] MI0 (sw (fun _ _ => 0) 7 (fun _ => 0)) (fun _ => 0) := by
    unfold mh
    rw [List.append_nil, show sw (fun _ _ => 0) 7 (fun _ => 0) = (fun _ _ => (0 : Int)) from sw_self (fun _ _ => 0) 7]
  rw [e0]
  refine go_a (pc' := 455) (ls' := [some (.ref h.length), none]) (st' := [(.int 0)]) rfl rfl ?_
  refine go_a (pc' := 456) (ls' := [some (.ref h.length), some (.int (iI 0))]) (st' := []) rfl rfl ?_
  refine xm_headsM z (d + 3) h _ hc (fun g hg => ?_) 8192 0 (fun _ => 0) (by decide) (by decide) (fun e e0 e1 => absurd e1 (by omega))
  refine xm_saids0 z d h _ _ hc ⟨_, _, rfl, MDL0 hg⟩ (fun h1 hR1 => ?_)
  refine xm_saids1 z d h _ _ hc hR1 (fun h2 hR2 => ?_)
  refine xm_saids2 z d h _ _ hc hR2 (fun h3 hR3 => ?_)
  refine xm_saids3 z d h _ _ hc hR3 (fun h4 hR4 => ?_)
  exact go_r rfl rfl rfl rfl rfl rfl ⟨rfl, hR4⟩

