section XXG
variable {P : xx_P} {d k pc n a ci j : Nat} {ls : xx_L} {r fs vs : List Value} {h : xx_H} {Q : Option Value → xx_H → Prop} {v : Value} {ty : FieldType}
theorem go_get (hc : xp_code P k pc = some (.getfield n)) (hh : h[a]? = some (.inr (ci, fs))) (hf : xp_fld P (xp_own P k) n ci = some j) (hv : fs[j]? = some v) (hg : xx_go P d k (pc + 3) ls (v :: r) h Q) : xx_go P d k pc ls (.ref a :: r) h Q := by
  refine go_b hc rfl ?_ hg
  show xb_get P (xp_own P k) n pc (.ref a :: r) h = _
  unfold xb_get
  simp only [hh, hf, hv]
theorem go_put {fin : Option Nat} (hc : xp_code P k pc = some (.putfield n)) (hh : h[a]? = some (.inr (ci, fs))) (hf : xp_fld P (xp_own P k) n ci = some j) (ht : xp_fty P ci j = some (ty, fin)) (ha : xp_n0 P ≤ a) (hj : j < fs.length) (hfit : xx_fit ty v = true) (hm : xb_may P k (xp_own P k) fin = true) (hg : xx_go P d k (pc + 3) ls r (h.set a (.inr (ci, fs.set j v))) Q) : xx_go P d k pc ls (v :: .ref a :: r) h Q := by
  refine go_b hc rfl ?_ hg
  show xb_put P k (xp_own P k) n pc (v :: .ref a :: r) h = _
  unfold xb_put
  simp only [hh, hf, ht, hfit, hm, Nat.ble_eq_true_of_le ha, show Nat.blt j fs.length = true from Nat.ble_eq_true_of_le hj]
  rfl
theorem xb_ix_of {x : Int32} {m N : Nat} (hx : ¬ x < 0) (hm : x.toNatClampNeg = m) (hl : m < N) : xb_ix x N = some m := by
  unfold xb_ix
  rw [if_neg hx, hm, if_pos hl]
theorem go_ild {x : Int32} {m : Nat} (hc : xp_code P k pc = some .iaload) (hh : h[a]? = some (.inl (.int, vs))) (hx : ¬ x < 0) (hm : x.toNatClampNeg = m) (hv : vs[m]? = some v) (hg : xx_go P d k (pc + 1) ls (v :: r) h Q) : xx_go P d k pc ls (.int x :: .ref a :: r) h Q := by
  refine go_b hc rfl ?_ hg
  show xb_ald .int pc (.int x :: .ref a :: r) h = _
  unfold xb_ald
  simp only [hh, xb_ix_of hx hm (List.getElem?_eq_some_iff.mp hv).1, hv, xb_push]
  rfl
theorem go_bld {x : Int32} {m : Nat} (hc : xp_code P k pc = some .baload) (hh : h[a]? = some (.inl (.byte, vs))) (hx : ¬ x < 0) (hm : x.toNatClampNeg = m) (hv : vs[m]? = some v) (hg : xx_go P d k (pc + 1) ls (v :: r) h Q) : xx_go P d k pc ls (.int x :: .ref a :: r) h Q := by
  refine go_b hc rfl ?_ hg
  have e : xb_bty (.int x :: .ref a :: r) h = .byte := by
    unfold xb_bty
    simp only [hh]
  show xb_ald (xb_bty (.int x :: .ref a :: r) h) pc (.int x :: .ref a :: r) h = _
  rw [e]
  unfold xb_ald
  simp only [hh, xb_ix_of hx hm (List.getElem?_eq_some_iff.mp hv).1, hv, xb_push]
  rfl
theorem go_zld {x : Int32} {m : Nat} (hc : xp_code P k pc = some .baload) (hh : h[a]? = some (.inl (.boolean, vs))) (hx : ¬ x < 0) (hm : x.toNatClampNeg = m) (hv : vs[m]? = some v) (hg : xx_go P d k (pc + 1) ls (v :: r) h Q) : xx_go P d k pc ls (.int x :: .ref a :: r) h Q := by
  refine go_b hc rfl ?_ hg
  have e : xb_bty (.int x :: .ref a :: r) h = .boolean := by
    unfold xb_bty
    simp only [hh]
  show xb_ald (xb_bty (.int x :: .ref a :: r) h) pc (.int x :: .ref a :: r) h = _
  rw [e]
  unfold xb_ald
  simp only [hh, xb_ix_of hx hm (List.getElem?_eq_some_iff.mp hv).1, hv, xb_push]
  rfl
theorem go_lld {x : Int32} {m : Nat} (hc : xp_code P k pc = some .laload) (hh : h[a]? = some (.inl (.long, vs))) (hx : ¬ x < 0) (hm : x.toNatClampNeg = m) (hv : vs[m]? = some v) (hg : xx_go P d k (pc + 1) ls (v :: r) h Q) : xx_go P d k pc ls (.int x :: .ref a :: r) h Q := by
  refine go_b hc rfl ?_ hg
  show xb_ald .long pc (.int x :: .ref a :: r) h = _
  unfold xb_ald
  simp only [hh, xb_ix_of hx hm (List.getElem?_eq_some_iff.mp hv).1, hv, xb_push]
  rfl
theorem go_ist {x y : Int32} {m : Nat} (hc : xp_code P k pc = some .iastore) (hh : h[a]? = some (.inl (.int, vs))) (ha : xp_n0 P ≤ a) (hx : ¬ x < 0) (hm : x.toNatClampNeg = m) (hl : m < vs.length) (hg : xx_go P d k (pc + 1) ls r (h.set a (.inl (.int, vs.set m (.int y)))) Q) : xx_go P d k pc ls (.int y :: .int x :: .ref a :: r) h Q := by
  refine go_b hc rfl ?_ hg
  show xb_ast P .int pc (.int y :: .int x :: .ref a :: r) h = _
  unfold xb_ast
  simp only [hh, xb_ix_of hx hm hl, Nat.ble_eq_true_of_le ha]
  rfl
theorem go_lst {x : Int32} {y : Int64} {m : Nat} (hc : xp_code P k pc = some .lastore) (hh : h[a]? = some (.inl (.long, vs))) (ha : xp_n0 P ≤ a) (hx : ¬ x < 0) (hm : x.toNatClampNeg = m) (hl : m < vs.length) (hg : xx_go P d k (pc + 1) ls r (h.set a (.inl (.long, vs.set m (.long y)))) Q) : xx_go P d k pc ls (.long y :: .int x :: .ref a :: r) h Q := by
  refine go_b hc rfl ?_ hg
  show xb_ast P .long pc (.long y :: .int x :: .ref a :: r) h = _
  unfold xb_ast
  simp only [hh, xb_ix_of hx hm hl, Nat.ble_eq_true_of_le ha]
  rfl
theorem go_zst {x y : Int32} {m : Nat} (hc : xp_code P k pc = some .bastore) (hh : h[a]? = some (.inl (.boolean, vs))) (ha : xp_n0 P ≤ a) (hx : ¬ x < 0) (hm : x.toNatClampNeg = m) (hl : m < vs.length) (hy : (y == 0 || y == 1) = true) (hg : xx_go P d k (pc + 1) ls r (h.set a (.inl (.boolean, vs.set m (.int y)))) Q) : xx_go P d k pc ls (.int y :: .int x :: .ref a :: r) h Q := by
  refine go_b hc rfl ?_ hg
  show xb_ast P .boolean pc (.int y :: .int x :: .ref a :: r) h = _
  have hf : xx_fit .boolean (.int y) = true := hy
  unfold xb_ast
  simp only [hh, xb_ix_of hx hm hl, Nat.ble_eq_true_of_le ha, hf]
  rfl
theorem go_len (hc : xp_code P k pc = some .arraylength) (hh : h[a]? = some (.inl (ty, vs))) (hg : xx_go P d k (pc + 1) ls (.int (Int32.ofNat vs.length) :: r) h Q) : xx_go P d k pc ls (.ref a :: r) h Q := by
  refine go_b hc rfl ?_ hg
  show xb_len pc (.ref a :: r) h = _
  unfold xb_len
  simp only [hh]
theorem go_new (hc : xp_code P k pc = some (.new n)) (hk : xp_cls P (xp_own P k) n = some ci) (hd : xp_dfl P ci = fs) (hg : xx_go P d k (pc + 3) ls (.ref h.length :: r) (h ++ [.inr (ci, fs)]) Q) : xx_go P d k pc ls r h Q := by
  refine go_b hc rfl ?_ hg
  show xb_new P (xp_own P k) n pc r h = _
  unfold xb_new
  simp only [hk, hd]
theorem go_newa {t : ArrayType} {x : Int32} {m : Nat} (hc : xp_code P k pc = some (.newarray t)) (ht : xb_ty t = some ty) (hx : ¬ x < 0) (hm : x.toNatClampNeg = m) (hb : m * 8 ≤ 536870912) (hg : xx_go P d k (pc + 2) ls (.ref h.length :: r) (h ++ [.inl (ty, List.replicate m (defaultValue ty))]) Q) : xx_go P d k pc ls (.int x :: r) h Q := by
  refine go_b hc rfl ?_ hg
  show (match xb_ty t with
    | some ty => xb_newa ty pc (.int x :: r) h
    | none => none) = _
  rw [ht]
  subst hm
  unfold xb_newa
  simp only [decide_eq_true hx, Nat.ble_eq_true_of_le hb]
  rfl
theorem go_ald {x : Int32} {m : Nat} {ty : FieldType} (hc : xp_code P k pc = some .aaload) (hh : h[a]? = some (.inl (ty, vs))) (ht : xx_isr ty = true) (hx : ¬ x < 0) (hm : x.toNatClampNeg = m) (hv : vs[m]? = some v) (hg : xx_go P d k (pc + 1) ls (v :: r) h Q) : xx_go P d k pc ls (.int x :: .ref a :: r) h Q := by
  refine go_b hc rfl ?_ hg
  show xb_aald pc (.int x :: .ref a :: r) h = _
  unfold xb_aald
  simp only [hh, ht, xb_ix_of hx hm (List.getElem?_eq_some_iff.mp hv).1, hv, xb_push]
theorem go_ast {x : Int32} {m : Nat} {ty : FieldType} (hc : xp_code P k pc = some .aastore) (hh : h[a]? = some (.inl (ty, vs))) (ht : xx_isr ty = true) (ha : xp_n0 P ≤ a) (hok : xb_aok P ty v h = true) (hx : ¬ x < 0) (hm : x.toNatClampNeg = m) (hl : m < vs.length) (hg : xx_go P d k (pc + 1) ls r (h.set a (.inl (ty, vs.set m v))) Q) : xx_go P d k pc ls (v :: .int x :: .ref a :: r) h Q := by
  refine go_b hc rfl ?_ hg
  show xb_aast P pc (v :: .int x :: .ref a :: r) h = _
  unfold xb_aast
  simp only [hh, ht, hok, xb_ix_of hx hm hl, Nat.ble_eq_true_of_le ha]
  rfl
theorem go_newr {x : Int32} {m : Nat} {ty : FieldType} (hc : xp_code P k pc = some (.anewarray n)) (ht : xp_acl P (xp_own P k) n = some ty) (hx : ¬ x < 0) (hm : x.toNatClampNeg = m) (hl : m ≤ 67108864) (hg : xx_go P d k (pc + 3) ls (.ref h.length :: r) (h ++ [.inl (ty, List.replicate m .null)]) Q) : xx_go P d k pc ls (.int x :: r) h Q := by
  refine go_b hc rfl ?_ hg
  show (match xp_acl P (xp_own P k) n with
    | some ty => xb_newr ty pc (.int x :: r) h
    | none => none) = _
  rw [ht]
  dsimp only
  unfold xb_newr
  have e : (decide (¬ x < 0) && Nat.ble (x.toNatClampNeg * 8) 536870912) = true := by
    rw [decide_eq_true hx, hm, Nat.ble_eq_true_of_le (by omega)]
    rfl
  dsimp only
  rw [e]
  dsimp only
  rw [hm]
theorem go_cast {fs : List Value} (hc : xp_code P k pc = some (.checkcast n)) (hh : h[a]? = some (.inr (ci, fs))) (ht : xp_cst P (xp_own P k) n ci = true) (hg : xx_go P d k (pc + 3) ls (.ref a :: r) h Q) : xx_go P d k pc ls (.ref a :: r) h Q := by
  refine go_b hc rfl ?_ hg
  show xb_cast P (xp_own P k) n pc (.ref a :: r) h = _
  unfold xb_cast
  simp only [hh, ht]
theorem go_acmp {t : Nat} {off : Int} (hc : xp_code P k pc = some (.if_acmp .eq off)) (ht : xa_br pc off = some t) (hg : xx_go P d k t ls r h Q) : xx_go P d k pc ls (.ref a :: .ref a :: r) h Q := by
  refine go_b hc rfl ?_ hg
  show xb_acmp .eq off pc (.ref a :: .ref a :: r) h = _
  unfold xb_acmp
  simp only [Nat.beq_refl, ht]
theorem go_castN (hc : xp_code P k pc = some (.checkcast n)) (hg : xx_go P d k (pc + 3) ls (.null :: r) h Q) : xx_go P d k pc ls (.null :: r) h Q := by
  refine go_b hc rfl ?_ hg
  rfl
theorem go_copy {x y w : Int32} {b : Nat} {ty : FieldType} {ws : List Value} {sp dp n0 : Nat} (hc : xp_code P k pc = some (.invokestatic n)) (ho : xp_obi P (xp_own P k) n = 5) (ha : h[a]? = some (.inl (ty, vs))) (hb : h[b]? = some (.inl (ty, ws))) (hpr : vs.all (xo_pr ty) = true) (hn : xp_n0 P ≤ b) (hab : a ≠ b) (hx : ¬ x < 0) (hx2 : x.toNatClampNeg = n0) (hy : ¬ y < 0) (hy2 : y.toNatClampNeg = dp) (hw : ¬ w < 0) (hw2 : w.toNatClampNeg = sp) (h1 : sp + n0 ≤ vs.length) (h2 : dp + n0 ≤ ws.length) (hcat : xo_cat r = true) (hg : xx_go P d k (pc + 3) ls r (h.set b (.inl (ty, xo_over vs ws sp dp n0))) Q) : xx_go P d k pc ls (.int x :: .int y :: .ref b :: .int w :: .ref a :: r) h Q := by
  refine go_o hc rfl rfl ?_ hg
  unfold xo_step
  simp only [ho]
  unfold xo_copy
  have e1 : Nat.beq a b = false := by
    cases q : Nat.beq a b with
    | true => exact absurd (Nat.eq_of_beq_eq_true q) hab
    | false => rfl
  simp only [ha, hb, hpr, hx2, hy2, hw2, e1, hcat, xo_nn, decide_eq_true hx, decide_eq_true hy, decide_eq_true hw, Nat.ble_eq_true_of_le hn, Nat.ble_eq_true_of_le h1, Nat.ble_eq_true_of_le h2]
  rfl
theorem go_copyO {x : Int32} {m : Nat} (hc : xp_code P k pc = some (.invokestatic n)) (ho : xp_obi P (xp_own P k) n = 6) (ha : h[a]? = some (.inl (.object "java/lang/Object", vs))) (hn : xp_n0 P ≤ a) (hel : vs.all (fun v => xb_aok P (.object "java/lang/Object") v h) = true) (hx : ¬ x < 0) (hx2 : x.toNatClampNeg = m) (h1 : vs.length ≤ m) (h2 : m ≤ 67108864) (hcat : xo_cat r = true) (hg : xx_go P d k (pc + 3) ls (.ref h.length :: r) (h ++ [.inl (.object "java/lang/Object", vs ++ List.replicate (m - vs.length) .null)]) Q) : xx_go P d k pc ls (.int x :: .ref a :: r) h Q := by
  refine go_o hc rfl rfl ?_ hg
  unfold xo_step
  simp only [ho]
  unfold xo_copyO
  simp only [ha, hel, Nat.ble_eq_true_of_le hn, hx2, hcat, xo_nn, decide_eq_true hx, Nat.ble_eq_true_of_le h1, Nat.ble_eq_true_of_le (show m * 8 ≤ 536870912 by omega)]
  rfl
theorem go_maxL {x y : Int64} (hc : xp_code P k pc = some (.invokestatic n)) (ho : xp_obi P (xp_own P k) n = 4) (hcat : Nat.ble ((r.map Value.category).sum) 8 = true) (hg : xx_go P d k (pc + 3) ls (.long (if x < y then y else x) :: r) h Q) : xx_go P d k pc ls (.long y :: .long x :: r) h Q := by
  refine go_o hc rfl rfl ?_ hg
  unfold xo_step
  simp only [ho]
  rw [hcat]
end XXG
