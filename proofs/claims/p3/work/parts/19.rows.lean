/-! rows of the executor for the heap, each by what it needs -/
section XXG
variable {P : xx_P} {d k pc n a ci j : Nat} {ls : xx_L} {r fs vs : List Value} {h : xx_H} {Q : Option Value → xx_H → Prop} {v : Value} {ty : FieldType}
theorem go_get (hc : xp_code P k pc = some (.getfield n)) (hh : h[a]? = some (.inr (ci, fs))) (hf : xp_fld P (xp_own P k) n ci = some j) (hv : fs[j]? = some v) (hg : xx_go P d k (pc + 3) ls (v :: r) h Q) : xx_go P d k pc ls (.ref a :: r) h Q := by
  refine go_b hc rfl ?_ hg
  show xb_get P (xp_own P k) n pc (.ref a :: r) h = _
  unfold xb_get
  simp only [hh, hf, hv]
theorem go_put {fin : Option Nat} (hc : xp_code P k pc = some (.putfield n)) (hh : h[a]? = some (.inr (ci, fs))) (hf : xp_fld P (xp_own P k) n ci = some j) (ht : xp_fty P ci j = some (ty, fin)) (ha : xp_n0 P ≤ a) (hj : j < fs.length) (hfit : xx_fit ty v = true) (hm : xb_may P k (xp_own P k) fin = true) (hg : xx_go P d k (pc + 3) ls r (h.set a (.inr (ci, fs.set j v))) Q) : xx_go P d k pc ls (v :: .ref a :: r) h Q := by
  refine go_b hc rfl ?_ hg
  show xb_put P k (xp_own P k) n pc (v :: .ref a :: r) h = _
  unfold xb_put
  simp only [hh, hf, ht, hfit, hm, Nat.ble_eq_true_of_le ha, show Nat.blt j fs.length = true from Nat.ble_eq_true_of_le hj]
  rfl
theorem xb_ix_of {x : Int32} {m N : Nat} (hx : ¬ x < 0) (hm : x.toNatClampNeg = m) (hl : m < N) : xb_ix x N = some m := by
  unfold xb_ix
  rw [if_neg hx, hm, if_pos hl]
theorem go_ild {x : Int32} {m : Nat} (hc : xp_code P k pc = some .iaload) (hh : h[a]? = some (.inl (.int, vs))) (hx : ¬ x < 0) (hm : x.toNatClampNeg = m) (hv : vs[m]? = some v) (hg : xx_go P d k (pc + 1) ls (v :: r) h Q) : xx_go P d k pc ls (.int x :: .ref a :: r) h Q := by
  refine go_b hc rfl ?_ hg
  show xb_ald .int pc (.int x :: .ref a :: r) h = _
  unfold xb_ald
  simp only [hh, xb_ix_of hx hm (List.getElem?_eq_some_iff.mp hv).1, hv, xb_push]
  rfl
theorem go_bld {x : Int32} {m : Nat} (hc : xp_code P k pc = some .baload) (hh : h[a]? = some (.inl (.byte, vs))) (hx : ¬ x < 0) (hm : x.toNatClampNeg = m) (hv : vs[m]? = some v) (hg : xx_go P d k (pc + 1) ls (v :: r) h Q) : xx_go P d k pc ls (.int x :: .ref a :: r) h Q := by
  refine go_b hc rfl ?_ hg
  have e : xb_bty (.int x :: .ref a :: r) h = .byte := by
    unfold xb_bty
    simp only [hh]
  show xb_ald (xb_bty (.int x :: .ref a :: r) h) pc (.int x :: .ref a :: r) h = _
  rw [e]
  unfold xb_ald
  simp only [hh, xb_ix_of hx hm (List.getElem?_eq_some_iff.mp hv).1, hv, xb_push]
  rfl
theorem go_zld {x : Int32} {m : Nat} (hc : xp_code P k pc = some .baload) (hh : h[a]? = some (.inl (.boolean, vs))) (hx : ¬ x < 0) (hm : x.toNatClampNeg = m) (hv : vs[m]? = some v) (hg : xx_go P d k (pc + 1) ls (v :: r) h Q) : xx_go P d k pc ls (.int x :: .ref a :: r) h Q := by
  refine go_b hc rfl ?_ hg
  have e : xb_bty (.int x :: .ref a :: r) h = .boolean := by
    unfold xb_bty
    simp only [hh]
  show xb_ald (xb_bty (.int x :: .ref a :: r) h) pc (.int x :: .ref a :: r) h = _
  rw [e]
  unfold xb_ald
  simp only [hh, xb_ix_of hx hm (List.getElem?_eq_some_iff.mp hv).1, hv, xb_push]
  rfl
theorem go_lld {x : Int32} {m : Nat} (hc : xp_code P k pc = some .laload) (hh : h[a]? = some (.inl (.long, vs))) (hx : ¬ x < 0) (hm : x.toNatClampNeg = m) (hv : vs[m]? = some v) (hg : xx_go P d k (pc + 1) ls (v :: r) h Q) : xx_go P d k pc ls (.int x :: .ref a :: r) h Q := by
  refine go_b hc rfl ?_ hg
  show xb_ald .long pc (.int x :: .ref a :: r) h = _
  unfold xb_ald
  simp only [hh, xb_ix_of hx hm (List.getElem?_eq_some_iff.mp hv).1, hv, xb_push]
  rfl
theorem go_ist {x y : Int32} {m : Nat} (hc : xp_code P k pc = some .iastore) (hh : h[a]? = some (.inl (.int, vs))) (ha : xp_n0 P ≤ a) (hx : ¬ x < 0) (hm : x.toNatClampNeg = m) (hl : m < vs.length) (hg : xx_go P d k (pc + 1) ls r (h.set a (.inl (.int, vs.set m (.int y)))) Q) : xx_go P d k pc ls (.int y :: .int x :: .ref a :: r) h Q := by
  refine go_b hc rfl ?_ hg
  show xb_ast P .int pc (.int y :: .int x :: .ref a :: r) h = _
  unfold xb_ast
  simp only [hh, xb_ix_of hx hm hl, Nat.ble_eq_true_of_le ha]
  rfl
theorem go_lst {x : Int32} {y : Int64} {m : Nat} (hc : xp_code P k pc = some .lastore) (hh : h[a]? = some (.inl (.long, vs))) (ha : xp_n0 P ≤ a) (hx : ¬ x < 0) (hm : x.toNatClampNeg = m) (hl : m < vs.length) (hg : xx_go P d k (pc + 1) ls r (h.set a (.inl (.long, vs.set m (.long y)))) Q) : xx_go P d k pc ls (.long y :: .int x :: .ref a :: r) h Q := by
  refine go_b hc rfl ?_ hg
  show xb_ast P .long pc (.long y :: .int x :: .ref a :: r) h = _
  unfold xb_ast
  simp only [hh, xb_ix_of hx hm hl, Nat.ble_eq_true_of_le ha]
  rfl
theorem go_zst {x y : Int32} {m : Nat} (hc : xp_code P k pc = some .bastore) (hh : h[a]? = some (.inl (.boolean, vs))) (ha : xp_n0 P ≤ a) (hx : ¬ x < 0) (hm : x.toNatClampNeg = m) (hl : m < vs.length) (hy : (y == 0 || y == 1) = true) (hg : xx_go P d k (pc + 1) ls r (h.set a (.inl (.boolean, vs.set m (.int y)))) Q) : xx_go P d k pc ls (.int y :: .int x :: .ref a :: r) h Q := by
  refine go_b hc rfl ?_ hg
  show xb_ast P .boolean pc (.int y :: .int x :: .ref a :: r) h = _
  have hf : xx_fit .boolean (.int y) = true := hy
  unfold xb_ast
  simp only [hh, xb_ix_of hx hm hl, Nat.ble_eq_true_of_le ha, hf]
  rfl
theorem go_len (hc : xp_code P k pc = some .arraylength) (hh : h[a]? = some (.inl (ty, vs))) (hg : xx_go P d k (pc + 1) ls (.int (Int32.ofNat vs.length) :: r) h Q) : xx_go P d k pc ls (.ref a :: r) h Q := by
  refine go_b hc rfl ?_ hg
  show xb_len pc (.ref a :: r) h = _
  unfold xb_len
  simp only [hh]
theorem go_new (hc : xp_code P k pc = some (.new n)) (hk : xp_cls P (xp_own P k) n = some ci) (hd : xp_dfl P ci = fs) (hg : xx_go P d k (pc + 3) ls (.ref h.length :: r) (h ++ [.inr (ci, fs)]) Q) : xx_go P d k pc ls r h Q := by
  refine go_b hc rfl ?_ hg
  show xb_new P (xp_own P k) n pc r h = _
  unfold xb_new
  simp only [hk, hd]
theorem go_newa {t : ArrayType} {x : Int32} {m : Nat} (hc : xp_code P k pc = some (.newarray t)) (ht : xb_ty t = some ty) (hx : ¬ x < 0) (hm : x.toNatClampNeg = m) (hb : m * 8 ≤ 536870912) (hg : xx_go P d k (pc + 2) ls (.ref h.length :: r) (h ++ [.inl (ty, List.replicate m (defaultValue ty))]) Q) : xx_go P d k pc ls (.int x :: r) h Q := by
  refine go_b hc rfl ?_ hg
  show (match xb_ty t with
    | some ty => xb_newa ty pc (.int x :: r) h
    | none => none) = _
  rw [ht]
  subst hm
  unfold xb_newa
  simp only [decide_eq_true hx, Nat.ble_eq_true_of_le hb]
  rfl
end XXG
