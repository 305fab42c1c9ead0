/-! ClauseKernelModel: its object, as its constructor lays it step by step -/
def xr_ft : List (Nat × Nat × Int32) := [(0, 1, 0), (1, 2, 0), (2, 3, 0), (3, 4, 0), (4, 5, 0), (5, 6, 0), (6, 7, 0), (1000, 0, 0), (7, 8, 0), (8, 9, 0), (1000, 0, 0), (9, 10, 0), (10, 11, 0), (1000, 0, 0), (11, 12, 0), (1000, 0, 0), (12, 13, 0), (1000, 0, 0), (13, 14, 0), (1000, 0, 0), (1000, 0, 0), (1000, 0, 0), (14, 0, -1), (15, 15, 0), (16, 16, 0), (17, 17, 0), (18, 18, 0), (1000, 0, 0), (19, 19, 0), (1000, 0, 0), (1000, 0, 0), (1000, 0, 0), (1000, 0, 0), (20, 20, 0), (21, 21, 0), (22, 22, 0), (23, 23, 0), (24, 24, 0), (1000, 0, 0), (25, 25, 0), (26, 26, 0), (1000, 0, 0), (27, 27, 0), (28, 28, 0), (29, 0, -1), (1000, 0, 0), (1000, 0, 0), (30, 0, 1000), (1000, 0, 0), (1000, 0, 0), (1000, 0, 0), (31, 29, 0), (32, 30, 0), (33, 31, 0), (1000, 0, 0), (34, 32, 0), (1000, 0, 0), (35, 33, 0), (36, 34, 0), (1000, 0, 0), (37, 35, 0), (1000, 0, 0), (38, 36, 0), (1000, 0, 0), (39, 37, 0), (1000, 0, 0), (40, 38, 0), (1000, 0, 0), (41, 39, 0), (42, 40, 0), (43, 41, 0), (1000, 0, 0), (44, 42, 0), (45, 43, 0), (46, 44, 0), (47, 45, 0), (1000, 0, 0), (48, 46, 0), (49, 47, 0), (50, 48, 0), (51, 49, 0), (1000, 0, 0), (52, 50, 0), (53, 51, 0), (1000, 0, 0), (1000, 0, 0)]
def xr_fa (c T : Nat) : List Value := xr_ft.map (fun e => match Nat.blt e.1 T with
  | true => match e.2.1 with
    | 0 => .int e.2.2
    | a + 1 => .ref (c + (a + 1))
  | false => match e.2.1 with
    | 0 => .int 0
    | _ + 1 => .null)
def xr_arr : xx_H := [.inl (.int, List.replicate 140000 (.int 0)), .inl (.int, List.replicate 140000 (.int 0)), .inl (.int, List.replicate 140000 (.int 0)), .inl (.int, List.replicate 140000 (.int 0)), .inl (.int, List.replicate 140000 (.int 0)), .inl (.long, List.replicate 140000 (.long 0)), .inl (.int, List.replicate 8192 (.int 0)), .inl (.int, List.replicate 60000 (.int 0)), .inl (.int, List.replicate 5000 (.int 0)), .inl (.int, List.replicate 20 (.int 0)), .inl (.int, List.replicate 3000 (.int 0)), .inl (.int, List.replicate 2000 (.int 0)), .inl (.int, List.replicate 12 (.int 0)), .inl (.int, List.replicate 4000 (.int 0)), .inl (.int, List.replicate 40 (.int 0)), .inl (.int, List.replicate 40 (.int 0)), .inl (.int, List.replicate 40 (.int 0)), .inl (.int, List.replicate 40 (.int 0)), .inl (.int, List.replicate 1100 (.int 0)), .inl (.int, List.replicate 40 (.int 0)), .inl (.int, List.replicate 40 (.int 0)), .inl (.int, List.replicate 240 (.int 0)), .inl (.int, List.replicate 40 (.int 0)), .inl (.boolean, List.replicate 40 (.int 0)), .inl (.int, List.replicate 60 (.int 0)), .inl (.int, List.replicate 60 (.int 0)), .inl (.boolean, List.replicate 100 (.int 0)), .inl (.int, List.replicate 100 (.int 0)), .inl (.int, List.replicate 1200 (.int 0)), .inl (.int, List.replicate 1200 (.int 0)), .inl (.int, List.replicate 1200 (.int 0)), .inl (.int, List.replicate 2400 (.int 0)), .inl (.int, List.replicate 400 (.int 0)), .inl (.int, List.replicate 400 (.int 0)), .inl (.int, List.replicate 400 (.int 0)), .inl (.int, List.replicate 130 (.int 0)), .inl (.int, List.replicate 8 (.int 0)), .inl (.int, List.replicate 1200 (.int 0)), .inl (.int, List.replicate 128 (.int 0)), .inl (.int, List.replicate 8192 (.int 0)), .inl (.int, List.replicate 128 (.int 0)), .inl (.int, List.replicate 128 (.int 0)), .inl (.int, List.replicate 8192 (.int 0)), .inl (.int, List.replicate 128 (.int 0)), .inl (.int, List.replicate 130 (.int 0)), .inl (.int, List.replicate 6 (.int 0)), .inl (.int, List.replicate 40 (.int 0)), .inl (.int, List.replicate 40 (.int 0)), .inl (.int, List.replicate 40 (.int 0)), .inl (.int, List.replicate 10500 (.int 0)), .inl (.int, List.replicate 350 (.int 0))]
def xr_init (c T a : Nat) : xx_H := .inr (13, xr_fa c T) :: xr_arr.take a
/-- its fields: objects, symbols, wordSize said, the others as the constructor leaves them -/
def xr_fs (c : Nat) (o s w : Int32) : List Value := [.ref (c + 1), .ref (c + 2), .ref (c + 3), .ref (c + 4), .ref (c + 5), .ref (c + 6), .ref (c + 7), .int o, .ref (c + 8), .ref (c + 9), .int s, .ref (c + 10), .ref (c + 11), .int 0, .ref (c + 12), .int 0, .ref (c + 13), .int w, .ref (c + 14), .int 0, .int 0, .int 0, .int (-1), .ref (c + 15), .ref (c + 16), .ref (c + 17), .ref (c + 18), .int 0, .ref (c + 19), .int 0, .int 0, .int 0, .int 0, .ref (c + 20), .ref (c + 21), .ref (c + 22), .ref (c + 23), .ref (c + 24), .int 0, .ref (c + 25), .ref (c + 26), .int 0, .ref (c + 27), .ref (c + 28), .int (-1), .int 0, .int 0, .int 1000, .int 0, .int 0, .int 0, .ref (c + 29), .ref (c + 30), .ref (c + 31), .int 0, .ref (c + 32), .int 0, .ref (c + 33), .ref (c + 34), .int 0, .ref (c + 35), .int 0, .ref (c + 36), .int 0, .ref (c + 37), .int 0, .ref (c + 38), .int 0, .ref (c + 39), .ref (c + 40), .ref (c + 41), .int 0, .ref (c + 42), .ref (c + 43), .ref (c + 44), .ref (c + 45), .int 0, .ref (c + 46), .ref (c + 47), .ref (c + 48), .ref (c + 49), .int 0, .ref (c + 50), .ref (c + 51), .int 0, .int 0]
/-- the object and its arrays; La left, Lb right, Lc next, Ld sizes, Le heights, Lf heads, Lg names, Lh lengths, Li word -/
def xr_B (c : Nat) (o s w : Int32) (La Lb Lc Ld Le Lf Lg Lh Li : List Value) : xx_H := [.inr (13, xr_fs c o s w), .inl (.int, La), .inl (.int, Lb), .inl (.int, Lc), .inl (.int, Ld), .inl (.int, Le), .inl (.long, List.replicate 140000 (.long 0)), .inl (.int, Lf), .inl (.int, Lg), .inl (.int, Lh), .inl (.int, List.replicate 20 (.int 0)), .inl (.int, List.replicate 3000 (.int 0)), .inl (.int, List.replicate 2000 (.int 0)), .inl (.int, Li), .inl (.int, List.replicate 4000 (.int 0)), .inl (.int, List.replicate 40 (.int 0)), .inl (.int, List.replicate 40 (.int 0)), .inl (.int, List.replicate 40 (.int 0)), .inl (.int, List.replicate 40 (.int 0)), .inl (.int, List.replicate 1100 (.int 0)), .inl (.int, List.replicate 40 (.int 0)), .inl (.int, List.replicate 40 (.int 0)), .inl (.int, List.replicate 240 (.int 0)), .inl (.int, List.replicate 40 (.int 0)), .inl (.boolean, List.replicate 40 (.int 0)), .inl (.int, List.replicate 60 (.int 0)), .inl (.int, List.replicate 60 (.int 0)), .inl (.boolean, List.replicate 100 (.int 0)), .inl (.int, List.replicate 100 (.int 0)), .inl (.int, List.replicate 1200 (.int 0)), .inl (.int, List.replicate 1200 (.int 0)), .inl (.int, List.replicate 1200 (.int 0)), .inl (.int, List.replicate 2400 (.int 0)), .inl (.int, List.replicate 400 (.int 0)), .inl (.int, List.replicate 400 (.int 0)), .inl (.int, List.replicate 400 (.int 0)), .inl (.int, List.replicate 130 (.int 0)), .inl (.int, List.replicate 8 (.int 0)), .inl (.int, List.replicate 1200 (.int 0)), .inl (.int, List.replicate 128 (.int 0)), .inl (.int, List.replicate 8192 (.int 0)), .inl (.int, List.replicate 128 (.int 0)), .inl (.int, List.replicate 128 (.int 0)), .inl (.int, List.replicate 8192 (.int 0)), .inl (.int, List.replicate 128 (.int 0)), .inl (.int, List.replicate 130 (.int 0)), .inl (.int, List.replicate 6 (.int 0)), .inl (.int, List.replicate 40 (.int 0)), .inl (.int, List.replicate 40 (.int 0)), .inl (.int, List.replicate 40 (.int 0)), .inl (.int, List.replicate 10500 (.int 0)), .inl (.int, List.replicate 350 (.int 0))]
theorem xq_set {h l : xx_H} {e : xx_E} (i : Nat) : (h ++ l).set (h.length + i) e = h ++ l.set i e := by
  rw [List.set_append_right _ _ (by omega)]
  congr 2
  omega
theorem xr_len {c T a : Nat} (ha : a ≤ 51) : (xr_init c T a).length = a + 1 := by
  show ((xr_arr.take a).length + 1) = _
  rw [List.length_take, Nat.min_eq_left (show a ≤ xr_arr.length from ha)]
/-- newarray, putfield -/
theorem xr_sa {z : Value} {d pc T a m idx j : Nat} {t : ArrayType} {ty ty' : FieldType} {fin : Option Nat} {x : Int32} {h : xx_H} {Q : Option Value → xx_H → Prop} (hc : 11 ≤ h.length) (h1 : xp_code (xt_P z) 59 pc = some (.newarray t)) (h2 : xb_ty t = some ty) (hx : ¬ x < 0) (hm : x.toNatClampNeg = m) (hb : m * 8 ≤ 536870912) (h3 : xp_code (xt_P z) 59 (pc + 2) = some (.putfield idx)) (hf : xp_fld (xt_P z) (xp_own (xt_P z) 59) idx 13 = some j) (ht : xp_fty (xt_P z) 13 j = some (ty', fin)) (hfit : xx_fit ty' (.ref (h.length + (a + 1))) = true) (hmay : xb_may (xt_P z) 59 (xp_own (xt_P z) 59) fin = true) (ha : a < 51) (har : xr_arr[a]? = some (.inl (ty, List.replicate m (defaultValue ty)))) (hj : j < (xr_fa h.length T).length) (hs : (xr_fa h.length T).set j (.ref (h.length + (a + 1))) = xr_fa h.length (T + 1)) (hg : xx_go (xt_P z) d 59 (pc + 5) [some (.ref h.length), none] [] (h ++ xr_init h.length (T + 1) (a + 1)) Q) : xx_go (xt_P z) d 59 pc [some (.ref h.length), none] [.int x, .ref h.length] (h ++ xr_init h.length T a) Q := by
  refine go_newa h1 h2 hx hm hb ?_
  rw [show (h ++ xr_init h.length T a).length = h.length + (a + 1) by rw [xq_len, xr_len (by omega)], List.append_assoc, show xr_init h.length T a ++ [(Sum.inl (ty, List.replicate m (defaultValue ty)) : xx_E)] = .inr (13, xr_fa h.length T) :: xr_arr.take (a + 1) by
    show Sum.inr (13, xr_fa h.length T) :: (xr_arr.take a ++ _) = _
    rw [List.take_add_one, har]
    rfl]
  refine go_put h3 xq_get0 hf ht hc hj hfit hmay ?_
  rw [xq_set0, hs]
  exact hg
/-- a constant, putfield -/
theorem xr_si {z : Value} {d pc T a idx j : Nat} {x : Int32} {h : xx_H} {Q : Option Value → xx_H → Prop} (hc : 11 ≤ h.length) (h3 : xp_code (xt_P z) 59 pc = some (.putfield idx)) (hf : xp_fld (xt_P z) (xp_own (xt_P z) 59) idx 13 = some j) (ht : xp_fty (xt_P z) 13 j = some (.int, none)) (hj : j < (xr_fa h.length T).length) (hs : (xr_fa h.length T).set j (.int x) = xr_fa h.length (T + 1)) (hg : xx_go (xt_P z) d 59 (pc + 3) [some (.ref h.length), none] [] (h ++ xr_init h.length (T + 1) a) Q) : xx_go (xt_P z) d 59 pc [some (.ref h.length), none] [.int x, .ref h.length] (h ++ xr_init h.length T a) Q := by
  refine go_put h3 xq_get0 hf ht hc hj rfl rfl ?_
  rw [hs, show (h ++ xr_init h.length T a).set h.length (.inr (13, xr_fa h.length (T + 1))) = h ++ xr_init h.length (T + 1) a from xq_set0]
  exact hg
theorem xr_fl {c T : Nat} : (xr_fa c T).length = 86 := by
  unfold xr_fa
  rw [List.length_map]
  rfl
theorem xr_st0 (z : Value) (d : Nat) (h : xx_H) (Q : Option Value → xx_H → Prop) (hc : 11 ≤ h.length) (hg : xx_go (xt_P z) d 59 69 [some (.ref h.length), none] [] (h ++ xr_init h.length 8 8) Q) : xx_go (xt_P z) d 59 4 [some (.ref h.length), none] [] (h ++ xr_init h.length 0 0) Q := by
  refine go_a (pc' := 5) (ls' := [some (.ref h.length), none]) (st' := [(.ref h.length)]) rfl rfl ?_
  refine go_b (pc' := 7) (st' := [(.int 140000), (.ref h.length)]) (h' := h ++ xr_init h.length 0 0) rfl rfl rfl ?_
  refine xr_sa (T := 0) (a := 0) (m := 140000) (j := 0) hc rfl rfl (by decide) rfl (by decide) rfl rfl rfl rfl rfl (by decide) rfl (by rw [xr_fl]; decide) rfl ?_
  refine go_a (pc' := 13) (ls' := [some (.ref h.length), none]) (st' := [(.ref h.length)]) rfl rfl ?_
  refine go_b (pc' := 15) (st' := [(.int 140000), (.ref h.length)]) (h' := h ++ xr_init h.length 1 1) rfl rfl rfl ?_
  refine xr_sa (T := 1) (a := 1) (m := 140000) (j := 1) hc rfl rfl (by decide) rfl (by decide) rfl rfl rfl rfl rfl (by decide) rfl (by rw [xr_fl]; decide) rfl ?_
  refine go_a (pc' := 21) (ls' := [some (.ref h.length), none]) (st' := [(.ref h.length)]) rfl rfl ?_
  refine go_b (pc' := 23) (st' := [(.int 140000), (.ref h.length)]) (h' := h ++ xr_init h.length 2 2) rfl rfl rfl ?_
  refine xr_sa (T := 2) (a := 2) (m := 140000) (j := 2) hc rfl rfl (by decide) rfl (by decide) rfl rfl rfl rfl rfl (by decide) rfl (by rw [xr_fl]; decide) rfl ?_
  refine go_a (pc' := 29) (ls' := [some (.ref h.length), none]) (st' := [(.ref h.length)]) rfl rfl ?_
  refine go_b (pc' := 31) (st' := [(.int 140000), (.ref h.length)]) (h' := h ++ xr_init h.length 3 3) rfl rfl rfl ?_
  refine xr_sa (T := 3) (a := 3) (m := 140000) (j := 3) hc rfl rfl (by decide) rfl (by decide) rfl rfl rfl rfl rfl (by decide) rfl (by rw [xr_fl]; decide) rfl ?_
  refine go_a (pc' := 37) (ls' := [some (.ref h.length), none]) (st' := [(.ref h.length)]) rfl rfl ?_
  refine go_b (pc' := 39) (st' := [(.int 140000), (.ref h.length)]) (h' := h ++ xr_init h.length 4 4) rfl rfl rfl ?_
  refine xr_sa (T := 4) (a := 4) (m := 140000) (j := 4) hc rfl rfl (by decide) rfl (by decide) rfl rfl rfl rfl rfl (by decide) rfl (by rw [xr_fl]; decide) rfl ?_
  refine go_a (pc' := 45) (ls' := [some (.ref h.length), none]) (st' := [(.ref h.length)]) rfl rfl ?_
  refine go_b (pc' := 47) (st' := [(.int 140000), (.ref h.length)]) (h' := h ++ xr_init h.length 5 5) rfl rfl rfl ?_
  refine xr_sa (T := 5) (a := 5) (m := 140000) (j := 5) hc rfl rfl (by decide) rfl (by decide) rfl rfl rfl rfl rfl (by decide) rfl (by rw [xr_fl]; decide) rfl ?_
  refine go_a (pc' := 53) (ls' := [some (.ref h.length), none]) (st' := [(.ref h.length)]) rfl rfl ?_
  refine go_a (pc' := 56) (ls' := [some (.ref h.length), none]) (st' := [(.int 8192), (.ref h.length)]) rfl rfl ?_
  refine xr_sa (T := 6) (a := 6) (m := 8192) (j := 6) hc rfl rfl (by decide) rfl (by decide) rfl rfl rfl rfl rfl (by decide) rfl (by rw [xr_fl]; decide) rfl ?_
  refine go_a (pc' := 62) (ls' := [some (.ref h.length), none]) (st' := [(.ref h.length)]) rfl rfl ?_
  refine go_b (pc' := 64) (st' := [(.int 60000), (.ref h.length)]) (h' := h ++ xr_init h.length 7 7) rfl rfl rfl ?_
  refine xr_sa (T := 7) (a := 7) (m := 60000) (j := 8) hc rfl rfl (by decide) rfl (by decide) rfl rfl rfl rfl rfl (by decide) rfl (by rw [xr_fl]; decide) rfl ?_
  exact hg
theorem xr_st1 (z : Value) (d : Nat) (h : xx_H) (Q : Option Value → xx_H → Prop) (hc : 11 ≤ h.length) (hg : xx_go (xt_P z) d 59 134 [some (.ref h.length), none] [] (h ++ xr_init h.length 16 15) Q) : xx_go (xt_P z) d 59 69 [some (.ref h.length), none] [] (h ++ xr_init h.length 8 8) Q := by
  refine go_a (pc' := 70) (ls' := [some (.ref h.length), none]) (st' := [(.ref h.length)]) rfl rfl ?_
  refine go_a (pc' := 73) (ls' := [some (.ref h.length), none]) (st' := [(.int 5000), (.ref h.length)]) rfl rfl ?_
  refine xr_sa (T := 8) (a := 8) (m := 5000) (j := 9) hc rfl rfl (by decide) rfl (by decide) rfl rfl rfl rfl rfl (by decide) rfl (by rw [xr_fl]; decide) rfl ?_
  refine go_a (pc' := 79) (ls' := [some (.ref h.length), none]) (st' := [(.ref h.length)]) rfl rfl ?_
  refine go_a (pc' := 81) (ls' := [some (.ref h.length), none]) (st' := [(.int 20), (.ref h.length)]) rfl rfl ?_
  refine xr_sa (T := 9) (a := 9) (m := 20) (j := 11) hc rfl rfl (by decide) rfl (by decide) rfl rfl rfl rfl rfl (by decide) rfl (by rw [xr_fl]; decide) rfl ?_
  refine go_a (pc' := 87) (ls' := [some (.ref h.length), none]) (st' := [(.ref h.length)]) rfl rfl ?_
  refine go_a (pc' := 90) (ls' := [some (.ref h.length), none]) (st' := [(.int 3000), (.ref h.length)]) rfl rfl ?_
  refine xr_sa (T := 10) (a := 10) (m := 3000) (j := 12) hc rfl rfl (by decide) rfl (by decide) rfl rfl rfl rfl rfl (by decide) rfl (by rw [xr_fl]; decide) rfl ?_
  refine go_a (pc' := 96) (ls' := [some (.ref h.length), none]) (st' := [(.ref h.length)]) rfl rfl ?_
  refine go_a (pc' := 99) (ls' := [some (.ref h.length), none]) (st' := [(.int 2000), (.ref h.length)]) rfl rfl ?_
  refine xr_sa (T := 11) (a := 11) (m := 2000) (j := 14) hc rfl rfl (by decide) rfl (by decide) rfl rfl rfl rfl rfl (by decide) rfl (by rw [xr_fl]; decide) rfl ?_
  refine go_a (pc' := 105) (ls' := [some (.ref h.length), none]) (st' := [(.ref h.length)]) rfl rfl ?_
  refine go_a (pc' := 107) (ls' := [some (.ref h.length), none]) (st' := [(.int 12), (.ref h.length)]) rfl rfl ?_
  refine xr_sa (T := 12) (a := 12) (m := 12) (j := 16) hc rfl rfl (by decide) rfl (by decide) rfl rfl rfl rfl rfl (by decide) rfl (by rw [xr_fl]; decide) rfl ?_
  refine go_a (pc' := 113) (ls' := [some (.ref h.length), none]) (st' := [(.ref h.length)]) rfl rfl ?_
  refine go_a (pc' := 116) (ls' := [some (.ref h.length), none]) (st' := [(.int 4000), (.ref h.length)]) rfl rfl ?_
  refine xr_sa (T := 13) (a := 13) (m := 4000) (j := 18) hc rfl rfl (by decide) rfl (by decide) rfl rfl rfl rfl rfl (by decide) rfl (by rw [xr_fl]; decide) rfl ?_
  refine go_a (pc' := 122) (ls' := [some (.ref h.length), none]) (st' := [(.ref h.length)]) rfl rfl ?_
  refine go_a (pc' := 123) (ls' := [some (.ref h.length), none]) (st' := [(.int (-1)), (.ref h.length)]) rfl rfl ?_
  refine xr_si (T := 14) (a := 14) (j := 22) hc rfl rfl rfl (by rw [xr_fl]; decide) rfl ?_
  refine go_a (pc' := 127) (ls' := [some (.ref h.length), none]) (st' := [(.ref h.length)]) rfl rfl ?_
  refine go_a (pc' := 129) (ls' := [some (.ref h.length), none]) (st' := [(.int 40), (.ref h.length)]) rfl rfl ?_
  refine xr_sa (T := 15) (a := 14) (m := 40) (j := 23) hc rfl rfl (by decide) rfl (by decide) rfl rfl rfl rfl rfl (by decide) rfl (by rw [xr_fl]; decide) rfl ?_
  exact hg
theorem xr_st2 (z : Value) (d : Nat) (h : xx_H) (Q : Option Value → xx_H → Prop) (hc : 11 ≤ h.length) (hg : xx_go (xt_P z) d 59 200 [some (.ref h.length), none] [] (h ++ xr_init h.length 24 23) Q) : xx_go (xt_P z) d 59 134 [some (.ref h.length), none] [] (h ++ xr_init h.length 16 15) Q := by
  refine go_a (pc' := 135) (ls' := [some (.ref h.length), none]) (st' := [(.ref h.length)]) rfl rfl ?_
  refine go_a (pc' := 137) (ls' := [some (.ref h.length), none]) (st' := [(.int 40), (.ref h.length)]) rfl rfl ?_
  refine xr_sa (T := 16) (a := 15) (m := 40) (j := 24) hc rfl rfl (by decide) rfl (by decide) rfl rfl rfl rfl rfl (by decide) rfl (by rw [xr_fl]; decide) rfl ?_
  refine go_a (pc' := 143) (ls' := [some (.ref h.length), none]) (st' := [(.ref h.length)]) rfl rfl ?_
  refine go_a (pc' := 145) (ls' := [some (.ref h.length), none]) (st' := [(.int 40), (.ref h.length)]) rfl rfl ?_
  refine xr_sa (T := 17) (a := 16) (m := 40) (j := 25) hc rfl rfl (by decide) rfl (by decide) rfl rfl rfl rfl rfl (by decide) rfl (by rw [xr_fl]; decide) rfl ?_
  refine go_a (pc' := 151) (ls' := [some (.ref h.length), none]) (st' := [(.ref h.length)]) rfl rfl ?_
  refine go_a (pc' := 153) (ls' := [some (.ref h.length), none]) (st' := [(.int 40), (.ref h.length)]) rfl rfl ?_
  refine xr_sa (T := 18) (a := 17) (m := 40) (j := 26) hc rfl rfl (by decide) rfl (by decide) rfl rfl rfl rfl rfl (by decide) rfl (by rw [xr_fl]; decide) rfl ?_
  refine go_a (pc' := 159) (ls' := [some (.ref h.length), none]) (st' := [(.ref h.length)]) rfl rfl ?_
  refine go_a (pc' := 162) (ls' := [some (.ref h.length), none]) (st' := [(.int 1100), (.ref h.length)]) rfl rfl ?_
  refine xr_sa (T := 19) (a := 18) (m := 1100) (j := 28) hc rfl rfl (by decide) rfl (by decide) rfl rfl rfl rfl rfl (by decide) rfl (by rw [xr_fl]; decide) rfl ?_
  refine go_a (pc' := 168) (ls' := [some (.ref h.length), none]) (st' := [(.ref h.length)]) rfl rfl ?_
  refine go_a (pc' := 170) (ls' := [some (.ref h.length), none]) (st' := [(.int 40), (.ref h.length)]) rfl rfl ?_
  refine xr_sa (T := 20) (a := 19) (m := 40) (j := 33) hc rfl rfl (by decide) rfl (by decide) rfl rfl rfl rfl rfl (by decide) rfl (by rw [xr_fl]; decide) rfl ?_
  refine go_a (pc' := 176) (ls' := [some (.ref h.length), none]) (st' := [(.ref h.length)]) rfl rfl ?_
  refine go_a (pc' := 178) (ls' := [some (.ref h.length), none]) (st' := [(.int 40), (.ref h.length)]) rfl rfl ?_
  refine xr_sa (T := 21) (a := 20) (m := 40) (j := 34) hc rfl rfl (by decide) rfl (by decide) rfl rfl rfl rfl rfl (by decide) rfl (by rw [xr_fl]; decide) rfl ?_
  refine go_a (pc' := 184) (ls' := [some (.ref h.length), none]) (st' := [(.ref h.length)]) rfl rfl ?_
  refine go_a (pc' := 187) (ls' := [some (.ref h.length), none]) (st' := [(.int 240), (.ref h.length)]) rfl rfl ?_
  refine xr_sa (T := 22) (a := 21) (m := 240) (j := 35) hc rfl rfl (by decide) rfl (by decide) rfl rfl rfl rfl rfl (by decide) rfl (by rw [xr_fl]; decide) rfl ?_
  refine go_a (pc' := 193) (ls' := [some (.ref h.length), none]) (st' := [(.ref h.length)]) rfl rfl ?_
  refine go_a (pc' := 195) (ls' := [some (.ref h.length), none]) (st' := [(.int 40), (.ref h.length)]) rfl rfl ?_
  refine xr_sa (T := 23) (a := 22) (m := 40) (j := 36) hc rfl rfl (by decide) rfl (by decide) rfl rfl rfl rfl rfl (by decide) rfl (by rw [xr_fl]; decide) rfl ?_
  exact hg
theorem xr_st3 (z : Value) (d : Nat) (h : xx_H) (Q : Option Value → xx_H → Prop) (hc : 11 ≤ h.length) (hg : xx_go (xt_P z) d 59 261 [some (.ref h.length), none] [] (h ++ xr_init h.length 32 29) Q) : xx_go (xt_P z) d 59 200 [some (.ref h.length), none] [] (h ++ xr_init h.length 24 23) Q := by
  refine go_a (pc' := 201) (ls' := [some (.ref h.length), none]) (st' := [(.ref h.length)]) rfl rfl ?_
  refine go_a (pc' := 203) (ls' := [some (.ref h.length), none]) (st' := [(.int 40), (.ref h.length)]) rfl rfl ?_
  refine xr_sa (T := 24) (a := 23) (m := 40) (j := 37) hc rfl rfl (by decide) rfl (by decide) rfl rfl rfl rfl rfl (by decide) rfl (by rw [xr_fl]; decide) rfl ?_
  refine go_a (pc' := 209) (ls' := [some (.ref h.length), none]) (st' := [(.ref h.length)]) rfl rfl ?_
  refine go_a (pc' := 211) (ls' := [some (.ref h.length), none]) (st' := [(.int 60), (.ref h.length)]) rfl rfl ?_
  refine xr_sa (T := 25) (a := 24) (m := 60) (j := 39) hc rfl rfl (by decide) rfl (by decide) rfl rfl rfl rfl rfl (by decide) rfl (by rw [xr_fl]; decide) rfl ?_
  refine go_a (pc' := 217) (ls' := [some (.ref h.length), none]) (st' := [(.ref h.length)]) rfl rfl ?_
  refine go_a (pc' := 219) (ls' := [some (.ref h.length), none]) (st' := [(.int 60), (.ref h.length)]) rfl rfl ?_
  refine xr_sa (T := 26) (a := 25) (m := 60) (j := 40) hc rfl rfl (by decide) rfl (by decide) rfl rfl rfl rfl rfl (by decide) rfl (by rw [xr_fl]; decide) rfl ?_
  refine go_a (pc' := 225) (ls' := [some (.ref h.length), none]) (st' := [(.ref h.length)]) rfl rfl ?_
  refine go_a (pc' := 227) (ls' := [some (.ref h.length), none]) (st' := [(.int 100), (.ref h.length)]) rfl rfl ?_
  refine xr_sa (T := 27) (a := 26) (m := 100) (j := 42) hc rfl rfl (by decide) rfl (by decide) rfl rfl rfl rfl rfl (by decide) rfl (by rw [xr_fl]; decide) rfl ?_
  refine go_a (pc' := 233) (ls' := [some (.ref h.length), none]) (st' := [(.ref h.length)]) rfl rfl ?_
  refine go_a (pc' := 235) (ls' := [some (.ref h.length), none]) (st' := [(.int 100), (.ref h.length)]) rfl rfl ?_
  refine xr_sa (T := 28) (a := 27) (m := 100) (j := 43) hc rfl rfl (by decide) rfl (by decide) rfl rfl rfl rfl rfl (by decide) rfl (by rw [xr_fl]; decide) rfl ?_
  refine go_a (pc' := 241) (ls' := [some (.ref h.length), none]) (st' := [(.ref h.length)]) rfl rfl ?_
  refine go_a (pc' := 242) (ls' := [some (.ref h.length), none]) (st' := [(.int (-1)), (.ref h.length)]) rfl rfl ?_
  refine xr_si (T := 29) (a := 28) (j := 44) hc rfl rfl rfl (by rw [xr_fl]; decide) rfl ?_
  refine go_a (pc' := 246) (ls' := [some (.ref h.length), none]) (st' := [(.ref h.length)]) rfl rfl ?_
  refine go_a (pc' := 249) (ls' := [some (.ref h.length), none]) (st' := [(.int 1000), (.ref h.length)]) rfl rfl ?_
  refine xr_si (T := 30) (a := 28) (j := 47) hc rfl rfl rfl (by rw [xr_fl]; decide) rfl ?_
  refine go_a (pc' := 253) (ls' := [some (.ref h.length), none]) (st' := [(.ref h.length)]) rfl rfl ?_
  refine go_a (pc' := 256) (ls' := [some (.ref h.length), none]) (st' := [(.int 1200), (.ref h.length)]) rfl rfl ?_
  refine xr_sa (T := 31) (a := 28) (m := 1200) (j := 51) hc rfl rfl (by decide) rfl (by decide) rfl rfl rfl rfl rfl (by decide) rfl (by rw [xr_fl]; decide) rfl ?_
  exact hg
theorem xr_st4 (z : Value) (d : Nat) (h : xx_H) (Q : Option Value → xx_H → Prop) (hc : 11 ≤ h.length) (hg : xx_go (xt_P z) d 59 332 [some (.ref h.length), none] [] (h ++ xr_init h.length 40 37) Q) : xx_go (xt_P z) d 59 261 [some (.ref h.length), none] [] (h ++ xr_init h.length 32 29) Q := by
  refine go_a (pc' := 262) (ls' := [some (.ref h.length), none]) (st' := [(.ref h.length)]) rfl rfl ?_
  refine go_a (pc' := 265) (ls' := [some (.ref h.length), none]) (st' := [(.int 1200), (.ref h.length)]) rfl rfl ?_
  refine xr_sa (T := 32) (a := 29) (m := 1200) (j := 52) hc rfl rfl (by decide) rfl (by decide) rfl rfl rfl rfl rfl (by decide) rfl (by rw [xr_fl]; decide) rfl ?_
  refine go_a (pc' := 271) (ls' := [some (.ref h.length), none]) (st' := [(.ref h.length)]) rfl rfl ?_
  refine go_a (pc' := 274) (ls' := [some (.ref h.length), none]) (st' := [(.int 1200), (.ref h.length)]) rfl rfl ?_
  refine xr_sa (T := 33) (a := 30) (m := 1200) (j := 53) hc rfl rfl (by decide) rfl (by decide) rfl rfl rfl rfl rfl (by decide) rfl (by rw [xr_fl]; decide) rfl ?_
  refine go_a (pc' := 280) (ls' := [some (.ref h.length), none]) (st' := [(.ref h.length)]) rfl rfl ?_
  refine go_a (pc' := 283) (ls' := [some (.ref h.length), none]) (st' := [(.int 2400), (.ref h.length)]) rfl rfl ?_
  refine xr_sa (T := 34) (a := 31) (m := 2400) (j := 55) hc rfl rfl (by decide) rfl (by decide) rfl rfl rfl rfl rfl (by decide) rfl (by rw [xr_fl]; decide) rfl ?_
  refine go_a (pc' := 289) (ls' := [some (.ref h.length), none]) (st' := [(.ref h.length)]) rfl rfl ?_
  refine go_a (pc' := 292) (ls' := [some (.ref h.length), none]) (st' := [(.int 400), (.ref h.length)]) rfl rfl ?_
  refine xr_sa (T := 35) (a := 32) (m := 400) (j := 57) hc rfl rfl (by decide) rfl (by decide) rfl rfl rfl rfl rfl (by decide) rfl (by rw [xr_fl]; decide) rfl ?_
  refine go_a (pc' := 298) (ls' := [some (.ref h.length), none]) (st' := [(.ref h.length)]) rfl rfl ?_
  refine go_a (pc' := 301) (ls' := [some (.ref h.length), none]) (st' := [(.int 400), (.ref h.length)]) rfl rfl ?_
  refine xr_sa (T := 36) (a := 33) (m := 400) (j := 58) hc rfl rfl (by decide) rfl (by decide) rfl rfl rfl rfl rfl (by decide) rfl (by rw [xr_fl]; decide) rfl ?_
  refine go_a (pc' := 307) (ls' := [some (.ref h.length), none]) (st' := [(.ref h.length)]) rfl rfl ?_
  refine go_a (pc' := 310) (ls' := [some (.ref h.length), none]) (st' := [(.int 400), (.ref h.length)]) rfl rfl ?_
  refine xr_sa (T := 37) (a := 34) (m := 400) (j := 60) hc rfl rfl (by decide) rfl (by decide) rfl rfl rfl rfl rfl (by decide) rfl (by rw [xr_fl]; decide) rfl ?_
  refine go_a (pc' := 316) (ls' := [some (.ref h.length), none]) (st' := [(.ref h.length)]) rfl rfl ?_
  refine go_a (pc' := 319) (ls' := [some (.ref h.length), none]) (st' := [(.int 130), (.ref h.length)]) rfl rfl ?_
  refine xr_sa (T := 38) (a := 35) (m := 130) (j := 62) hc rfl rfl (by decide) rfl (by decide) rfl rfl rfl rfl rfl (by decide) rfl (by rw [xr_fl]; decide) rfl ?_
  refine go_a (pc' := 325) (ls' := [some (.ref h.length), none]) (st' := [(.ref h.length)]) rfl rfl ?_
  refine go_a (pc' := 327) (ls' := [some (.ref h.length), none]) (st' := [(.int 8), (.ref h.length)]) rfl rfl ?_
  refine xr_sa (T := 39) (a := 36) (m := 8) (j := 64) hc rfl rfl (by decide) rfl (by decide) rfl rfl rfl rfl rfl (by decide) rfl (by rw [xr_fl]; decide) rfl ?_
  exact hg
theorem xr_st5 (z : Value) (d : Nat) (h : xx_H) (Q : Option Value → xx_H → Prop) (hc : 11 ≤ h.length) (hg : xx_go (xt_P z) d 59 404 [some (.ref h.length), none] [] (h ++ xr_init h.length 48 45) Q) : xx_go (xt_P z) d 59 332 [some (.ref h.length), none] [] (h ++ xr_init h.length 40 37) Q := by
  refine go_a (pc' := 333) (ls' := [some (.ref h.length), none]) (st' := [(.ref h.length)]) rfl rfl ?_
  refine go_a (pc' := 336) (ls' := [some (.ref h.length), none]) (st' := [(.int 1200), (.ref h.length)]) rfl rfl ?_
  refine xr_sa (T := 40) (a := 37) (m := 1200) (j := 66) hc rfl rfl (by decide) rfl (by decide) rfl rfl rfl rfl rfl (by decide) rfl (by rw [xr_fl]; decide) rfl ?_
  refine go_a (pc' := 342) (ls' := [some (.ref h.length), none]) (st' := [(.ref h.length)]) rfl rfl ?_
  refine go_a (pc' := 345) (ls' := [some (.ref h.length), none]) (st' := [(.int 128), (.ref h.length)]) rfl rfl ?_
  refine xr_sa (T := 41) (a := 38) (m := 128) (j := 68) hc rfl rfl (by decide) rfl (by decide) rfl rfl rfl rfl rfl (by decide) rfl (by rw [xr_fl]; decide) rfl ?_
  refine go_a (pc' := 351) (ls' := [some (.ref h.length), none]) (st' := [(.ref h.length)]) rfl rfl ?_
  refine go_a (pc' := 354) (ls' := [some (.ref h.length), none]) (st' := [(.int 8192), (.ref h.length)]) rfl rfl ?_
  refine xr_sa (T := 42) (a := 39) (m := 8192) (j := 69) hc rfl rfl (by decide) rfl (by decide) rfl rfl rfl rfl rfl (by decide) rfl (by rw [xr_fl]; decide) rfl ?_
  refine go_a (pc' := 360) (ls' := [some (.ref h.length), none]) (st' := [(.ref h.length)]) rfl rfl ?_
  refine go_a (pc' := 363) (ls' := [some (.ref h.length), none]) (st' := [(.int 128), (.ref h.length)]) rfl rfl ?_
  refine xr_sa (T := 43) (a := 40) (m := 128) (j := 70) hc rfl rfl (by decide) rfl (by decide) rfl rfl rfl rfl rfl (by decide) rfl (by rw [xr_fl]; decide) rfl ?_
  refine go_a (pc' := 369) (ls' := [some (.ref h.length), none]) (st' := [(.ref h.length)]) rfl rfl ?_
  refine go_a (pc' := 372) (ls' := [some (.ref h.length), none]) (st' := [(.int 128), (.ref h.length)]) rfl rfl ?_
  refine xr_sa (T := 44) (a := 41) (m := 128) (j := 72) hc rfl rfl (by decide) rfl (by decide) rfl rfl rfl rfl rfl (by decide) rfl (by rw [xr_fl]; decide) rfl ?_
  refine go_a (pc' := 378) (ls' := [some (.ref h.length), none]) (st' := [(.ref h.length)]) rfl rfl ?_
  refine go_a (pc' := 381) (ls' := [some (.ref h.length), none]) (st' := [(.int 8192), (.ref h.length)]) rfl rfl ?_
  refine xr_sa (T := 45) (a := 42) (m := 8192) (j := 73) hc rfl rfl (by decide) rfl (by decide) rfl rfl rfl rfl rfl (by decide) rfl (by rw [xr_fl]; decide) rfl ?_
  refine go_a (pc' := 387) (ls' := [some (.ref h.length), none]) (st' := [(.ref h.length)]) rfl rfl ?_
  refine go_a (pc' := 390) (ls' := [some (.ref h.length), none]) (st' := [(.int 128), (.ref h.length)]) rfl rfl ?_
  refine xr_sa (T := 46) (a := 43) (m := 128) (j := 74) hc rfl rfl (by decide) rfl (by decide) rfl rfl rfl rfl rfl (by decide) rfl (by rw [xr_fl]; decide) rfl ?_
  refine go_a (pc' := 396) (ls' := [some (.ref h.length), none]) (st' := [(.ref h.length)]) rfl rfl ?_
  refine go_a (pc' := 399) (ls' := [some (.ref h.length), none]) (st' := [(.int 130), (.ref h.length)]) rfl rfl ?_
  refine xr_sa (T := 47) (a := 44) (m := 130) (j := 75) hc rfl rfl (by decide) rfl (by decide) rfl rfl rfl rfl rfl (by decide) rfl (by rw [xr_fl]; decide) rfl ?_
  exact hg
theorem xr_st6 (z : Value) (d : Nat) (h : xx_H) (Q : Option Value → xx_H → Prop) (hc : 11 ≤ h.length) (hg : xx_go (xt_P z) d 59 454 [some (.ref h.length), none] [] (h ++ xr_init h.length 54 51) Q) : xx_go (xt_P z) d 59 404 [some (.ref h.length), none] [] (h ++ xr_init h.length 48 45) Q := by
  refine go_a (pc' := 405) (ls' := [some (.ref h.length), none]) (st' := [(.ref h.length)]) rfl rfl ?_
  refine go_a (pc' := 407) (ls' := [some (.ref h.length), none]) (st' := [(.int 6), (.ref h.length)]) rfl rfl ?_
  refine xr_sa (T := 48) (a := 45) (m := 6) (j := 77) hc rfl rfl (by decide) rfl (by decide) rfl rfl rfl rfl rfl (by decide) rfl (by rw [xr_fl]; decide) rfl ?_
  refine go_a (pc' := 413) (ls' := [some (.ref h.length), none]) (st' := [(.ref h.length)]) rfl rfl ?_
  refine go_a (pc' := 415) (ls' := [some (.ref h.length), none]) (st' := [(.int 40), (.ref h.length)]) rfl rfl ?_
  refine xr_sa (T := 49) (a := 46) (m := 40) (j := 78) hc rfl rfl (by decide) rfl (by decide) rfl rfl rfl rfl rfl (by decide) rfl (by rw [xr_fl]; decide) rfl ?_
  refine go_a (pc' := 421) (ls' := [some (.ref h.length), none]) (st' := [(.ref h.length)]) rfl rfl ?_
  refine go_a (pc' := 423) (ls' := [some (.ref h.length), none]) (st' := [(.int 40), (.ref h.length)]) rfl rfl ?_
  refine xr_sa (T := 50) (a := 47) (m := 40) (j := 79) hc rfl rfl (by decide) rfl (by decide) rfl rfl rfl rfl rfl (by decide) rfl (by rw [xr_fl]; decide) rfl ?_
  refine go_a (pc' := 429) (ls' := [some (.ref h.length), none]) (st' := [(.ref h.length)]) rfl rfl ?_
  refine go_a (pc' := 431) (ls' := [some (.ref h.length), none]) (st' := [(.int 40), (.ref h.length)]) rfl rfl ?_
  refine xr_sa (T := 51) (a := 48) (m := 40) (j := 80) hc rfl rfl (by decide) rfl (by decide) rfl rfl rfl rfl rfl (by decide) rfl (by rw [xr_fl]; decide) rfl ?_
  refine go_a (pc' := 437) (ls' := [some (.ref h.length), none]) (st' := [(.ref h.length)]) rfl rfl ?_
  refine go_a (pc' := 440) (ls' := [some (.ref h.length), none]) (st' := [(.int 10500), (.ref h.length)]) rfl rfl ?_
  refine xr_sa (T := 52) (a := 49) (m := 10500) (j := 82) hc rfl rfl (by decide) rfl (by decide) rfl rfl rfl rfl rfl (by decide) rfl (by rw [xr_fl]; decide) rfl ?_
  refine go_a (pc' := 446) (ls' := [some (.ref h.length), none]) (st' := [(.ref h.length)]) rfl rfl ?_
  refine go_a (pc' := 449) (ls' := [some (.ref h.length), none]) (st' := [(.int 350), (.ref h.length)]) rfl rfl ?_
  refine xr_sa (T := 53) (a := 50) (m := 350) (j := 83) hc rfl rfl (by decide) rfl (by decide) rfl rfl rfl rfl rfl (by decide) rfl (by rw [xr_fl]; decide) rfl ?_
  exact hg
def xr_z (n : Nat) (x : Int32) : List Value := List.replicate n (.int x)
theorem xr_end (c : Nat) : xr_init c 54 51 = xr_B c (nI 0) (nI 0) (nI 0) (xr_z 140000 0) (xr_z 140000 0) (xr_z 140000 0) (xr_z 140000 0) (xr_z 140000 0) (xr_z 8192 0) (xr_z 60000 0) (xr_z 5000 0) (xr_z 12 0) := by
  rw [nI_0]
  rfl
theorem xr_beg (c : Nat) (fs : List Value) (hf : xp_dfl (xt_P .null) 13 = fs) : ([.inr (13, fs)] : xx_H) = xr_init c 0 0 := by
  subst hf
  rfl
/-- the fields of a new ClauseKernelModel, up to the loop over its heads -/
theorem xr_sts (z : Value) (d : Nat) (h : xx_H) (Q : Option Value → xx_H → Prop) (hc : 11 ≤ h.length) (hg : xx_go (xt_P z) d 59 454 [some (.ref h.length), none] [] (h ++ xr_B h.length (nI 0) (nI 0) (nI 0) (xr_z 140000 0) (xr_z 140000 0) (xr_z 140000 0) (xr_z 140000 0) (xr_z 140000 0) (xr_z 8192 0) (xr_z 60000 0) (xr_z 5000 0) (xr_z 12 0)) Q) : xx_go (xt_P z) d 59 4 [some (.ref h.length), none] [] (h ++ xr_init h.length 0 0) Q := by
  rw [← xr_end] at hg
  refine xr_st0 z d h Q hc ?_
  refine xr_st1 z d h Q hc ?_
  refine xr_st2 z d h Q hc ?_
  refine xr_st3 z d h Q hc ?_
  refine xr_st4 z d h Q hc ?_
  refine xr_st5 z d h Q hc ?_
  refine xr_st6 z d h Q hc ?_
  exact hg
