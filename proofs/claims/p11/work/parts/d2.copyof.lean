theorem mk_len {P : xx_P} {d k pc a : Nat} {ls : xx_L} {r vs : List Value} {hp : xx_H} {Q : Option Value → xx_H → Prop} {ty : FieldType} {n : Int} (hc : xp_code P k pc = some .arraylength) (hh : hp[a]? = some (.inl (ty, vs))) (hl : vs.length = n.toNat) (h0 : 0 ≤ n) (h1 : n < 2147483648) (hg : xx_go P d k (pc + 1) ls (.int (iI n) :: r) hp Q) : xx_go P d k pc ls (.ref a :: r) hp Q := by
  refine go_len hc hh ?_
  rw [hl]
  have e : Int32.ofNat n.toNat = iI n := by
    show _ = Int32.ofInt n
    rw [show n = ((n.toNat : Nat) : Int) by omega]
    rfl
  rw [e]
  exact hg
theorem iI_min {m n : Int} (h1 : -2147483648 ≤ m) (h2 : m < 2147483648) (h3 : -2147483648 ≤ n) (h4 : n < 2147483648) : iI (if m < n then m else n) = if iI m < iI n then iI m else iI n := by
  by_cases q : m < n
  · rw [if_pos q, if_pos ((iI_lt h1 h2 h3 h4).mpr q)]
  · rw [if_neg q, if_neg (fun w => q ((iI_lt h1 h2 h3 h4).mp w))]
theorem iI_max {m n : Int} (h1 : -2147483648 ≤ m) (h2 : m < 2147483648) (h3 : -2147483648 ≤ n) (h4 : n < 2147483648) : iI (if m < n then n else m) = if iI m < iI n then iI n else iI m := by
  by_cases q : m < n
  · rw [if_pos q, if_pos ((iI_lt h1 h2 h3 h4).mpr q)]
  · rw [if_neg q, if_neg (fun w => q ((iI_lt h1 h2 h3 h4).mp w))]
def cf (n : Int) (f : Int → Int) : Int → Int := fun k => if k < n then f k else 0
theorem xa_f_ext {n : Nat} {f g : Int → Int} (h : ∀ i : Nat, i < n → f (i : Int) = g (i : Int)) : xa_f n f = xa_f n g := by
  unfold xa_f
  refine List.map_congr_left (fun i hi => ?_)
  rw [h i (List.mem_range.mp hi)]
theorem xa_l_ext {n : Nat} {f g : Int → Int} (h : ∀ i : Nat, i < n → f (i : Int) = g (i : Int)) : xa_l n f = xa_l n g := by
  unfold xa_l
  refine List.map_congr_left (fun i hi => ?_)
  rw [h i (List.mem_range.mp hi)]
theorem xa_f_pr (n : Nat) (f : Int → Int) : (xa_f n f).all (xo_pr .int) = true := by
  rw [List.all_eq_true]
  intro v hv
  obtain ⟨i, -, rfl⟩ := List.mem_map.mp hv
  rfl
theorem xa_l_pr (n : Nat) (f : Int → Int) : (xa_l n f).all (xo_pr .long) = true := by
  rw [List.all_eq_true]
  intro v hv
  obtain ⟨i, -, rfl⟩ := List.mem_map.mp hv
  rfl
theorem xo_over_f {n m q dp : Nat} {f g : Int → Int} (h1 : q ≤ n) (h2 : dp + q ≤ m) : xo_over (xa_f n f) (xa_f m g) 0 dp q = xa_f m (fun k => if (dp : Int) ≤ k ∧ k < dp + q then f (k - dp) else g k) := by
  refine List.ext_getElem? (fun i => ?_)
  unfold xo_over
  have l1 := xa_f_len n f
  have l2 := xa_f_len m g
  by_cases him : i < m
  · have R : (xa_f m (fun k => if (dp : Int) ≤ k ∧ k < dp + q then f (k - dp) else g k))[i]? = some (.int (iI (if (dp : Int) ≤ (i : Int) ∧ (i : Int) < dp + q then f ((i : Int) - dp) else g i))) := by
      have := xa_f_get (n := m) (f := fun k => if (dp : Int) ≤ k ∧ k < dp + q then f (k - dp) else g k) (e := (i : Int)) (by omega) (by omega)
      exact this
    rw [R]
    have G : (xa_f m g)[i]? = some (.int (iI (g i))) := xa_f_get (n := m) (f := g) (e := (i : Int)) (by omega) (by omega)
    by_cases c1 : i < dp
    · rw [List.getElem?_append_left (by rw [List.length_take, l2]; omega), List.getElem?_take_of_lt c1, G, if_neg (by omega)]
    · rw [List.getElem?_append_right (by rw [List.length_take, l2]; omega), List.length_take, l2, show min dp m = dp by omega]
      by_cases c2 : i < dp + q
      · rw [List.getElem?_append_left (by rw [List.length_take, List.length_drop, l1]; omega), List.getElem?_take_of_lt (by omega), List.getElem?_drop, if_pos (by omega)]
        have F : (xa_f n f)[i - dp]? = some (.int (iI (f ((i - dp : Nat) : Int)))) := xa_f_get (n := n) (f := f) (e := ((i - dp : Nat) : Int)) (by omega) (by omega)
        rw [show 0 + (i - dp) = i - dp by omega, F, show (((i - dp : Nat) : Int)) = (i : Int) - dp by omega]
      · rw [List.getElem?_append_right (by rw [List.length_take, List.length_drop, l1]; omega), List.length_take, List.length_drop, l1, List.getElem?_drop, show min q (n - 0) = q by omega, show dp + q + (i - dp - q) = i by omega, G, if_neg (by omega)]
  · rw [List.getElem?_eq_none (by rw [List.length_append, List.length_append, List.length_take, List.length_take, List.length_drop, List.length_drop, l1, l2]; omega), List.getElem?_eq_none (by rw [xa_f_len]; omega)]
theorem xo_over_l {n m q : Nat} {f g : Int → Int} (h1 : q ≤ n) (h2 : q ≤ m) : xo_over (xa_l n f) (xa_l m g) 0 0 q = xa_l m (fun k => if k < q then f k else g k) := by
  refine List.ext_getElem? (fun i => ?_)
  unfold xo_over
  have l1 := xa_l_len n f
  have l2 := xa_l_len m g
  by_cases him : i < m
  · have R : (xa_l m (fun k => if k < (q : Int) then f k else g k))[i]? = some (.long (Int64.ofInt (if (i : Int) < q then f (i : Int) else g i))) := xa_l_get (n := m) (f := fun k => if k < (q : Int) then f k else g k) (e := (i : Int)) (by omega) (by omega)
    rw [R]
    have G : (xa_l m g)[i]? = some (.long (Int64.ofInt (g i))) := xa_l_get (n := m) (f := g) (e := (i : Int)) (by omega) (by omega)
    rw [List.take_zero, List.nil_append, List.drop_zero]
    by_cases c2 : i < q
    · rw [List.getElem?_append_left (by rw [List.length_take, l1]; omega), List.getElem?_take_of_lt (by omega), if_pos (by omega)]
      exact xa_l_get (n := n) (f := f) (e := (i : Int)) (by omega) (by omega)
    · rw [List.getElem?_append_right (by rw [List.length_take, l1]; omega), List.length_take, l1, List.getElem?_drop, show min q n = q by omega, show 0 + q + (i - q) = i by omega, G, if_neg (by omega)]
  · rw [List.getElem?_eq_none (by rw [List.length_append, List.length_append, List.length_take, List.length_take, List.length_drop, List.length_drop, l1, l2]; omega), List.getElem?_eq_none (by rw [xa_l_len]; omega)]
theorem rep_f (n : Nat) : List.replicate n (Value.int 0) = xa_f n (fun _ => 0) := by
  unfold xa_f
  refine List.ext_getElem? (fun i => ?_)
  by_cases h : i < n
  · rw [List.getElem?_replicate, if_pos h, List.getElem?_map, List.getElem?_range h]
    rfl
  · rw [List.getElem?_eq_none (by rw [List.length_replicate]; omega), List.getElem?_eq_none (by rw [List.length_map, List.length_range]; omega)]
theorem rep_l (n : Nat) : List.replicate n (Value.long 0) = xa_l n (fun _ => 0) := by
  unfold xa_l
  refine List.ext_getElem? (fun i => ?_)
  by_cases h : i < n
  · rw [List.getElem?_replicate, if_pos h, List.getElem?_map, List.getElem?_range h]
    rfl
  · rw [List.getElem?_eq_none (by rw [List.length_replicate]; omega), List.getElem?_eq_none (by rw [List.length_map, List.length_range]; omega)]
theorem app_self {hp : xx_H} {e : xx_E} : (hp ++ [e])[hp.length]? = some e := by simp
theorem app_old {hp : xx_H} {e : xx_E} {p : Nat} {x : xx_E} (h : hp[p]? = some x) : (hp ++ [e])[p]? = some x := by
  rw [List.getElem?_append_left (List.getElem?_eq_some_iff.mp h).1]
  exact h
theorem app_set {hp : xx_H} {e e1 : xx_E} : (hp ++ [e]).set hp.length e1 = hp ++ [e1] := by simp
theorem xm_copyOf_int (z : Value) (d : Nat) (a : Nat) (n m : Int) (f : Int → Int) (hp : xx_H) (h12 : 12 ≤ hp.length) (ha : hp[a]? = some (.inl (.int, xa_f n.toNat f))) (n0 : 0 ≤ n) (n1 : n ≤ 1000000) (m0 : 0 ≤ m) (m1 : m ≤ 1000000) (hne : m ≠ n) : xx_cl (xt_P z) (d + 1) 183 [.ref a, .int (iI m)] hp (fun v h1 => v = some (.ref hp.length) ∧ h1 = hp ++ [.inl (.int, xa_f m.toNat (cf n f))]) := by
  have la := (List.getElem?_eq_some_iff.mp ha).1
  refine cl_go rfl ?_
  show xx_go (xt_P z) d 183 0 [some (.ref a), some (.int (iI m)), none] [] hp _
  refine go_a (pc' := 1) (ls' := [some (.ref a), some (.int (iI m)), none]) (st' := [.int (iI m)]) rfl rfl ?_
  refine go_a (pc' := 2) (ls' := [some (.ref a), some (.int (iI m)), none]) (st' := [.ref a, .int (iI m)]) rfl rfl ?_
  refine mk_len (n := n) rfl ha (xa_f_len _ _) (by omega) (by omega) ?_
  refine mi_ne (t := 14) rfl rfl (by omega) (by omega) (by omega) (by omega) (fun _ => ?_) (fun q => absurd hne q)
  refine go_a (pc' := 15) (ls' := [some (.ref a), some (.int (iI m)), none]) (st' := [.int (iI m)]) rfl rfl ?_
  refine go_newa (m := m.toNat) rfl rfl (iI_nn m0 (by omega)) (iI_clamp m0 (by omega)) (by omega) ?_
  show xx_go (xt_P z) d 183 17 [some (.ref a), some (.int (iI m)), none] [.ref hp.length] ((hp ++ [.inl (.int, List.replicate m.toNat (.int 0))])) _
  refine go_a (pc' := 18) (ls' := [some (.ref a), some (.int (iI m)), some (.ref hp.length)]) (st' := []) rfl rfl ?_
  refine go_a (pc' := 19) (ls' := [some (.ref a), some (.int (iI m)), some (.ref hp.length)]) (st' := [.ref a]) rfl rfl ?_
  refine go_a (pc' := 20) (ls' := [some (.ref a), some (.int (iI m)), some (.ref hp.length)]) (st' := [.int (iI 0), .ref a]) rfl rfl ?_
  refine go_a (pc' := 21) (ls' := [some (.ref a), some (.int (iI m)), some (.ref hp.length)]) (st' := [.ref hp.length, .int (iI 0), .ref a]) rfl rfl ?_
  refine go_a (pc' := 22) (ls' := [some (.ref a), some (.int (iI m)), some (.ref hp.length)]) (st' := [.int (iI 0), .ref hp.length, .int (iI 0), .ref a]) rfl rfl ?_
  refine go_a (pc' := 23) (ls' := [some (.ref a), some (.int (iI m)), some (.ref hp.length)]) (st' := [.ref a, .int (iI 0), .ref hp.length, .int (iI 0), .ref a]) rfl rfl ?_
  refine mk_len (n := n) rfl (app_old ha) (xa_f_len _ _) (by omega) (by omega) ?_
  refine go_a (pc' := 25) (ls' := [some (.ref a), some (.int (iI m)), some (.ref hp.length)]) (st' := [.int (iI m), .int (iI n), .int (iI 0), .ref hp.length, .int (iI 0), .ref a]) rfl rfl ?_
  refine go_o (st' := [.int (iI (if m < n then m else n)), .int (iI 0), .ref hp.length, .int (iI 0), .ref a]) (h' := (hp ++ [.inl (.int, List.replicate m.toNat (.int 0))])) rfl rfl rfl (by rw [iI_min (by omega) (by omega) (by omega) (by omega)]; rfl) ?_
  have q0 : 0 ≤ (if m < n then m else n) ∧ (if m < n then m else n) ≤ n ∧ (if m < n then m else n) ≤ m := by split <;> omega
  refine go_copy (n0 := (if m < n then m else n).toNat) (sp := 0) (dp := 0) rfl rfl (app_old ha) app_self (xa_f_pr _ _) (show 12 ≤ hp.length from h12) (by omega) (iI_nn (by omega) (by omega)) (iI_clamp (by omega) (by omega)) (by decide) rfl (by decide) rfl (by rw [xa_f_len]; omega) (by rw [List.length_replicate]; omega) rfl ?_
  rw [app_set, rep_f, xo_over_f (dp := 0) (by omega) (by omega)]
  rw [show xa_f m.toNat (fun k => if ((0 : Nat) : Int) ≤ k ∧ k < ((0 : Nat) : Int) + ((if m < n then m else n).toNat : Int) then f (k - ((0 : Nat) : Int)) else (fun _ => 0) k) = xa_f m.toNat (cf n f) from xa_f_ext (fun i hi => by
    unfold cf
    dsimp only
    by_cases q : (i : Int) < n
    · rw [if_pos q, if_pos (by omega)]; simp
    · rw [if_neg q, if_neg (by omega)])]
  show xx_go (xt_P z) d 183 31 [some (.ref a), some (.int (iI m)), some (.ref hp.length)] [] ((hp ++ [.inl (.int, xa_f m.toNat (cf n f))])) _
  refine go_a (pc' := 32) (ls' := [some (.ref a), some (.int (iI m)), some (.ref hp.length)]) (st' := [.ref hp.length]) rfl rfl ?_
  exact go_r rfl rfl rfl rfl rfl rfl ⟨rfl, rfl⟩
theorem xm_copyOf_long (z : Value) (d : Nat) (a : Nat) (n m : Int) (f : Int → Int) (hp : xx_H) (h12 : 12 ≤ hp.length) (ha : hp[a]? = some (.inl (.long, xa_l n.toNat f))) (n0 : 0 ≤ n) (n1 : n ≤ 1000000) (m0 : 0 ≤ m) (m1 : m ≤ 1000000) (hne : m ≠ n) : xx_cl (xt_P z) (d + 1) 182 [.ref a, .int (iI m)] hp (fun v h1 => v = some (.ref hp.length) ∧ h1 = hp ++ [.inl (.long, xa_l m.toNat (cf n f))]) := by
  have la := (List.getElem?_eq_some_iff.mp ha).1
  refine cl_go rfl ?_
  show xx_go (xt_P z) d 182 0 [some (.ref a), some (.int (iI m)), none] [] hp _
  refine go_a (pc' := 1) (ls' := [some (.ref a), some (.int (iI m)), none]) (st' := [.int (iI m)]) rfl rfl ?_
  refine go_a (pc' := 2) (ls' := [some (.ref a), some (.int (iI m)), none]) (st' := [.ref a, .int (iI m)]) rfl rfl ?_
  refine mk_len (n := n) rfl ha (xa_l_len _ _) (by omega) (by omega) ?_
  refine mi_ne (t := 14) rfl rfl (by omega) (by omega) (by omega) (by omega) (fun _ => ?_) (fun q => absurd hne q)
  refine go_a (pc' := 15) (ls' := [some (.ref a), some (.int (iI m)), none]) (st' := [.int (iI m)]) rfl rfl ?_
  refine go_newa (m := m.toNat) rfl rfl (iI_nn m0 (by omega)) (iI_clamp m0 (by omega)) (by omega) ?_
  show xx_go (xt_P z) d 182 17 [some (.ref a), some (.int (iI m)), none] [.ref hp.length] ((hp ++ [.inl (.long, List.replicate m.toNat (.long 0))])) _
  refine go_a (pc' := 18) (ls' := [some (.ref a), some (.int (iI m)), some (.ref hp.length)]) (st' := []) rfl rfl ?_
  refine go_a (pc' := 19) (ls' := [some (.ref a), some (.int (iI m)), some (.ref hp.length)]) (st' := [.ref a]) rfl rfl ?_
  refine go_a (pc' := 20) (ls' := [some (.ref a), some (.int (iI m)), some (.ref hp.length)]) (st' := [.int (iI 0), .ref a]) rfl rfl ?_
  refine go_a (pc' := 21) (ls' := [some (.ref a), some (.int (iI m)), some (.ref hp.length)]) (st' := [.ref hp.length, .int (iI 0), .ref a]) rfl rfl ?_
  refine go_a (pc' := 22) (ls' := [some (.ref a), some (.int (iI m)), some (.ref hp.length)]) (st' := [.int (iI 0), .ref hp.length, .int (iI 0), .ref a]) rfl rfl ?_
  refine go_a (pc' := 23) (ls' := [some (.ref a), some (.int (iI m)), some (.ref hp.length)]) (st' := [.ref a, .int (iI 0), .ref hp.length, .int (iI 0), .ref a]) rfl rfl ?_
  refine mk_len (n := n) rfl (app_old ha) (xa_l_len _ _) (by omega) (by omega) ?_
  refine go_a (pc' := 25) (ls' := [some (.ref a), some (.int (iI m)), some (.ref hp.length)]) (st' := [.int (iI m), .int (iI n), .int (iI 0), .ref hp.length, .int (iI 0), .ref a]) rfl rfl ?_
  refine go_o (st' := [.int (iI (if m < n then m else n)), .int (iI 0), .ref hp.length, .int (iI 0), .ref a]) (h' := (hp ++ [.inl (.long, List.replicate m.toNat (.long 0))])) rfl rfl rfl (by rw [iI_min (by omega) (by omega) (by omega) (by omega)]; rfl) ?_
  have q0 : 0 ≤ (if m < n then m else n) ∧ (if m < n then m else n) ≤ n ∧ (if m < n then m else n) ≤ m := by split <;> omega
  refine go_copy (n0 := (if m < n then m else n).toNat) (sp := 0) (dp := 0) rfl rfl (app_old ha) app_self (xa_l_pr _ _) (show 12 ≤ hp.length from h12) (by omega) (iI_nn (by omega) (by omega)) (iI_clamp (by omega) (by omega)) (by decide) rfl (by decide) rfl (by rw [xa_l_len]; omega) (by rw [List.length_replicate]; omega) rfl ?_
  rw [app_set, rep_l, xo_over_l (by omega) (by omega)]
  rw [show xa_l m.toNat (fun k => if k < ((if m < n then m else n).toNat : Int) then f k else (fun _ => 0) k) = xa_l m.toNat (cf n f) from xa_l_ext (fun i hi => by
    unfold cf
    dsimp only
    by_cases q : (i : Int) < n
    · rw [if_pos q, if_pos (by omega)]
    · rw [if_neg q, if_neg (by omega)])]
  show xx_go (xt_P z) d 182 31 [some (.ref a), some (.int (iI m)), some (.ref hp.length)] [] ((hp ++ [.inl (.long, xa_l m.toNat (cf n f))])) _
  refine go_a (pc' := 32) (ls' := [some (.ref a), some (.int (iI m)), some (.ref hp.length)]) (st' := [.ref hp.length]) rfl rfl ?_
  exact go_r rfl rfl rfl rfl rfl rfl ⟨rfl, rfl⟩
