/-! ClauseKernelModel: symbol, said, the constructor -/
/-- what the symbols keep: lengths; right below symbols; next below its place; heads below objects -/
def xr_ok (o s : Nat) (La Lb Lc Ld Le Lf Lg Lh Li : List Value) : Prop := s ≤ 100 ∧ o ≤ s ∧ (La.length = 140000 ∧ Lb.length = 140000 ∧ Lc.length = 140000 ∧ Ld.length = 140000 ∧ Le.length = 140000 ∧ Lf.length = 8192 ∧ Lg.length = 60000 ∧ Lh.length = 5000 ∧ Li.length = 12) ∧ (xs_i La ∧ xs_i Lg ∧ xs_i Lh ∧ xs_i Li) ∧ (∀ k, k < o → ∃ j : Nat, j < s ∧ Lb[k]? = some (.int (nI j))) ∧ (∀ k, k < o → ∃ y : Int32, (y = -1 ∨ ∃ j : Nat, j < k ∧ y = nI j) ∧ Lc[k]? = some (.int y)) ∧ (∀ k, k < 8192 → ∃ y : Int32, (y = -1 ∨ ∃ j : Nat, j < o ∧ y = nI j) ∧ Lf[k]? = some (.int y))
def xr_R (h : xx_H) (b : Nat) (h1 : xx_H) : Prop := ∃ (o w : Nat) (La Lb Lc Ld Le Lf Lg Lh Li : List Value), o ≤ b ∧ w ≤ 11 ∧ xr_ok o o La Lb Lc Ld Le Lf Lg Lh Li ∧ h1 = h ++ xr_B h.length (nI o) (nI o) (nI w) La Lb Lc Ld Le Lf Lg Lh Li
theorem xr_set_get {l : List Value} {i : Nat} {v : Value} (hi : i < l.length) : (l.set i v)[i]? = some v := List.getElem?_set_self hi
theorem xr_set_ne {l : List Value} {i j : Nat} {v : Value} (hi : i ≠ j) : (l.set i v)[j]? = l[j]? := List.getElem?_set_ne hi
theorem xr_ok_add {o q w : Nat} {y : Int32} {La Lb Lc Ld Le Lf Lg Lh Li Lg1 : List Value} (ho : o < 100) (K : xr_ok o o La Lb Lc Ld Le Lf Lg Lh Li) (hq : q < 8192) (hg : Lg1.length = 60000) (ig : xs_i Lg1) (hy1 : y = -1 ∨ ∃ j : Nat, j < o ∧ y = nI j) : xr_ok (o + 1) (o + 1) (La.set o (.int (-2))) (Lb.set o (.int (nI o))) (Lc.set o (.int y)) (Ld.set o (.int 0)) (Le.set o (.int 0)) (Lf.set q (.int (nI o))) Lg1 (Lh.set o (.int (nI w))) Li := by
  obtain ⟨a1, a2, ⟨l1, l2, l3, l4, l5, l6, l7, l8, l9⟩, ⟨i1, i7, i8, i9⟩, r, n, f⟩ := K
  refine ⟨by omega, by omega, ⟨by rw [List.length_set]; exact l1, by rw [List.length_set]; exact l2, by rw [List.length_set]; exact l3, by rw [List.length_set]; exact l4, by rw [List.length_set]; exact l5, by rw [List.length_set]; exact l6, hg, by rw [List.length_set]; exact l8, l9⟩, ⟨xs_i_set i1 _ _, ig, xs_i_set i8 _ _, i9⟩, fun k hk => ?_, fun k hk => ?_, fun k hk => ?_⟩
  · by_cases e : o = k
    · subst e
      exact ⟨o, by omega, xr_set_get (by omega)⟩
    · obtain ⟨j, hj, e1⟩ := r k (by omega)
      exact ⟨j, by omega, by rw [xr_set_ne e]; exact e1⟩
  · by_cases e : o = k
    · subst e
      exact ⟨y, hy1, xr_set_get (by omega)⟩
    · obtain ⟨x, hx, e1⟩ := n k (by omega)
      exact ⟨x, hx, by rw [xr_set_ne e]; exact e1⟩
  · by_cases e : q = k
    · subst e
      exact ⟨nI o, Or.inr ⟨o, by omega, rfl⟩, xr_set_get (by omega)⟩
    · obtain ⟨x, hx, e1⟩ := f k hk
      refine ⟨x, ?_, by rw [xr_set_ne e]; exact e1⟩
      rcases hx with hx | ⟨j, hj, hx⟩
      · exact Or.inl hx
      · exact Or.inr ⟨j, by omega, hx⟩
theorem xm_sym_names (z : Value) (d : Nat) (h : xx_H) (o w q : Nat) (La Lb Lc Ld Le Lf Lg Lh Li : List Value) (hc : 11 ≤ h.length) (ho : o < 100) (hw : w ≤ 11) (K : xr_ok o o La Lb Lc Ld Le Lf Lg Lh Li) (hq : q < 8192) : ∀ (n j : Nat) (Lg1 : List Value), Lg1.length = 60000 → xs_i Lg1 → j + n = w → xx_go (xt_P z) (d + 1) 62 74 [some (.ref h.length), some (.int (nI q)), some (.int (nI j))] [] (h ++ xr_B h.length (nI o) (nI o) (nI w) La Lb Lc Ld Le Lf Lg1 (Lh.set o (.int (nI w))) Li) (fun v h1 => (∃ b : Int32, v = some (.int b)) ∧ xr_R h (o + 1) h1) := by
  obtain ⟨a1, a2, ⟨l1, l2, l3, l4, l5, l6, l7, l8, l9⟩, ⟨i1, i7, i8, i9⟩, r, n, f⟩ := id K
  intro n
  induction n with
  | zero =>
    intro j Lg1 hg ig hj
    have hj : j = w := by omega
    subst hj
    obtain ⟨y, hy1, hy⟩ := f q hq
    refine go_a (pc' := 75) (ls' := [some (.ref h.length), some (.int (nI q)), some (.int (nI j))]) (st' := [(.int (nI j))]) rfl rfl ?_
    refine go_a (pc' := 76) (ls' := [some (.ref h.length), some (.int (nI q)), some (.int (nI j))]) (st' := [(.ref h.length), (.int (nI j))]) rfl rfl ?_
    refine go_get rfl xq_get0 rfl rfl ?_
    refine go_if (t := 108) (off := 29) (r := []) rfl rfl rfl (fun _ => ?_) (fun hf => absurd (nI_le (Nat.le_refl _) (by omega)) (of_decide_eq_false hf))
    refine go_a (pc' := 109) (ls' := [some (.ref h.length), some (.int (nI q)), some (.int (nI j))]) (st' := [(.ref h.length)]) rfl rfl ?_
    refine go_a (pc' := 110) (ls' := [some (.ref h.length), some (.int (nI q)), some (.int (nI j))]) (st' := [(.ref h.length), (.ref h.length)]) rfl rfl ?_
    refine go_get rfl xq_get0 rfl rfl ?_
    refine go_a (pc' := 114) (ls' := [some (.ref h.length), some (.int (nI q)), some (.int (nI j))]) (st' := [(.int 1), (.int (nI o)), (.ref h.length)]) rfl rfl ?_
    refine go_a (pc' := 115) (ls' := [some (.ref h.length), some (.int (nI q)), some (.int (nI j))]) (st' := [(.int (nI (o + 1))), (.ref h.length)]) rfl (by rw [← nI_1 o]; rfl) ?_
    refine go_put (j := 10) rfl xq_get0 rfl rfl hc (show 10 < 86 by decide) rfl rfl ?_
    rw [xr_ps]
    refine go_a (pc' := 119) (ls' := [some (.ref h.length), some (.int (nI q)), some (.int (nI j))]) (st' := [(.ref h.length)]) rfl rfl ?_
    refine go_a (pc' := 121) (ls' := [some (.ref h.length), some (.int (nI q)), some (.int (nI j))]) (st' := [(.int (-2)), (.ref h.length)]) rfl rfl ?_
    refine go_a (pc' := 122) (ls' := [some (.ref h.length), some (.int (nI q)), some (.int (nI j))]) (st' := [(.ref h.length), (.int (-2)), (.ref h.length)]) rfl rfl ?_
    refine go_get rfl xq_get0 rfl rfl ?_
    refine go_a (pc' := 126) (ls' := [some (.ref h.length), some (.int (nI q)), some (.int (nI j))]) (st' := [(.int 1), (.int (nI (o + 1))), (.int (-2)), (.ref h.length)]) rfl rfl ?_
    refine go_a (pc' := 127) (ls' := [some (.ref h.length), some (.int (nI q)), some (.int (nI j))]) (st' := [(.int (nI o)), (.int (-2)), (.ref h.length)]) rfl (by rw [← nI_pred o]; rfl) ?_
    refine go_a (pc' := 128) (ls' := [some (.ref h.length), some (.int (nI q)), some (.int (nI j))]) (st' := [(.int (nI q)), (.int (nI o)), (.int (-2)), (.ref h.length)]) rfl rfl ?_
    refine go_v (m := 65) (as := [.ref h.length, .int (-2), .int (nI o), .int (nI q)]) (r := []) rfl rfl rfl xq_get0 rfl rfl (xm_added z d h (nI o) y (nI (o + 1)) (nI j) o q La Lb Lc Ld Le Lf Lg1 (Lh.set o (.int (nI j))) Li hc (by omega) l1 l2 l3 l4 l5 l6 hq hy) (fun w h5 hq1 => ?_)
    obtain ⟨rfl, rfl⟩ := hq1
    exact go_r rfl rfl rfl rfl rfl rfl ⟨⟨_, rfl⟩, o + 1, j, _, _, _, _, _, _, _, _, _, Nat.le_refl _, hw, xr_ok_add ho K hq hg ig hy1, rfl⟩
  | succ n ih =>
    intro j Lg1 hg ig hj
    obtain ⟨y, hy⟩ := i9 j (by omega)
    refine go_a (pc' := 75) (ls' := [some (.ref h.length), some (.int (nI q)), some (.int (nI j))]) (st' := [(.int (nI j))]) rfl rfl ?_
    refine go_a (pc' := 76) (ls' := [some (.ref h.length), some (.int (nI q)), some (.int (nI j))]) (st' := [(.ref h.length), (.int (nI j))]) rfl rfl ?_
    refine go_get rfl xq_get0 rfl rfl ?_
    refine go_if (t := 108) (off := 29) (r := []) rfl rfl rfl (fun hf => absurd (of_decide_eq_true hf) (nI_ge (by omega) (by omega))) (fun _ => ?_)
    refine go_a (pc' := 83) (ls' := [some (.ref h.length), some (.int (nI q)), some (.int (nI j))]) (st' := [(.ref h.length)]) rfl rfl ?_
    refine go_get rfl xq_get0 rfl rfl ?_
    refine go_a (pc' := 88) (ls' := [some (.ref h.length), some (.int (nI q)), some (.int (nI j))]) (st' := [(.int 12), (.ref (h.length + 8))]) rfl rfl ?_
    refine go_a (pc' := 89) (ls' := [some (.ref h.length), some (.int (nI q)), some (.int (nI j))]) (st' := [(.ref h.length), (.int 12), (.ref (h.length + 8))]) rfl rfl ?_
    refine go_get rfl xq_get0 rfl rfl ?_
    refine go_a (pc' := 93) (ls' := [some (.ref h.length), some (.int (nI q)), some (.int (nI j))]) (st' := [(.int (nI (12 * o))), (.ref (h.length + 8))]) rfl (by rw [← pk_mul]; rfl) ?_
    refine go_a (pc' := 94) (ls' := [some (.ref h.length), some (.int (nI q)), some (.int (nI j))]) (st' := [(.int (nI j)), (.int (nI (12 * o))), (.ref (h.length + 8))]) rfl rfl ?_
    refine go_a (pc' := 95) (ls' := [some (.ref h.length), some (.int (nI q)), some (.int (nI j))]) (st' := [(.int (nI (12 * o + j))), (.ref (h.length + 8))]) rfl (by rw [← nI_add]; rfl) ?_
    refine go_a (pc' := 96) (ls' := [some (.ref h.length), some (.int (nI q)), some (.int (nI j))]) (st' := [(.ref h.length), (.int (nI (12 * o + j))), (.ref (h.length + 8))]) rfl rfl ?_
    refine go_get rfl xq_get0 rfl rfl ?_
    refine go_a (pc' := 100) (ls' := [some (.ref h.length), some (.int (nI q)), some (.int (nI j))]) (st' := [(.int (nI j)), (.ref (h.length + 13)), (.int (nI (12 * o + j))), (.ref (h.length + 8))]) rfl rfl ?_
    refine go_ild (m := j) rfl (xq_get 13) (nI_pos (by omega)) (nI_clamp (by omega)) hy ?_
    refine go_ist (m := (12 * o + j)) rfl (xq_get 8) (show 11 ≤ _ by omega) (nI_pos (by omega)) (nI_clamp (by omega)) (by omega) ?_
    rw [xr_wLg]
    refine go_a (pc' := 105) (ls' := [some (.ref h.length), some (.int (nI q)), some (.int (nI (j + 1)))]) (st' := []) rfl (by rw [← nI_1 j]; rfl) ?_
    exact go_a (pc' := 74) rfl rfl (ih (j + 1) _ (by rw [List.length_set]; exact hg) (xs_i_set ig _ _) (by omega))
theorem xm_sym_tail (z : Value) (d : Nat) (h : xx_H) (o w q : Nat) (x : Value) (La Lb Lc Ld Le Lf Lg Lh Li : List Value) (hc : 11 ≤ h.length) (ho : o < 100) (hw : w ≤ 11) (K : xr_ok o o La Lb Lc Ld Le Lf Lg Lh Li) (hq : q < 8192) : xx_go (xt_P z) (d + 1) 62 59 [some (.ref h.length), some (.int (nI q)), some x] [] (h ++ xr_B h.length (nI o) (nI o) (nI w) La Lb Lc Ld Le Lf Lg Lh Li) (fun v h1 => (∃ b : Int32, v = some (.int b)) ∧ xr_R h (o + 1) h1) := by
  obtain ⟨a1, a2, ⟨l1, l2, l3, l4, l5, l6, l7, l8, l9⟩, ⟨i1, i7, i8, i9⟩, r, n, f⟩ := id K
  refine go_a (pc' := 60) (ls' := [some (.ref h.length), some (.int (nI q)), some (x)]) (st' := [(.ref h.length)]) rfl rfl ?_
  refine go_get rfl xq_get0 rfl rfl ?_
  refine go_a (pc' := 64) (ls' := [some (.ref h.length), some (.int (nI q)), some (x)]) (st' := [(.ref h.length), (.ref (h.length + 9))]) rfl rfl ?_
  refine go_get rfl xq_get0 rfl rfl ?_
  refine go_a (pc' := 68) (ls' := [some (.ref h.length), some (.int (nI q)), some (x)]) (st' := [(.ref h.length), (.int (nI o)), (.ref (h.length + 9))]) rfl rfl ?_
  refine go_get rfl xq_get0 rfl rfl ?_
  refine go_ist (m := o) rfl (xq_get 9) (show 11 ≤ _ by omega) (nI_pos (by omega)) (nI_clamp (by omega)) (by omega) ?_
  rw [xr_wLh]
  refine go_a (pc' := 73) (ls' := [some (.ref h.length), some (.int (nI q)), some (x)]) (st' := [(.int 0)]) rfl rfl ?_
  refine go_a (pc' := 74) (ls' := [some (.ref h.length), some (.int (nI q)), some (.int 0)]) (st' := []) rfl rfl ?_
  cases x <;> exact xm_sym_names z d h o w q La Lb Lc Ld Le Lf Lg Lh Li hc ho hw K hq w 0 Lg l7 i7 (by omega)
theorem xm_sym_loop (z : Value) (d : Nat) (h : xx_H) (o w q : Nat) (La Lb Lc Ld Le Lf Lg Lh Li : List Value) (hc : 11 ≤ h.length) (ho : o < 100) (hw : w ≤ 11) (K : xr_ok o o La Lb Lc Ld Le Lf Lg Lh Li) (hq : q < 8192) : ∀ (j : Nat), j < o → xx_go (xt_P z) (d + 1) 62 18 [some (.ref h.length), some (.int (nI q)), some (.int (nI j))] [] (h ++ xr_B h.length (nI o) (nI o) (nI w) La Lb Lc Ld Le Lf Lg Lh Li) (fun v h1 => (∃ b : Int32, v = some (.int b)) ∧ xr_R h (o + 1) h1) := by
  obtain ⟨a1, a2, ⟨l1, l2, l3, l4, l5, l6, l7, l8, l9⟩, ⟨i1, i7, i8, i9⟩, r, n, f⟩ := id K
  intro j
  induction j using Nat.strongRecOn with
  | ind j ih =>
  intro hj
  obtain ⟨x, hx⟩ := i1 j (by omega)
  obtain ⟨jj, hjj, hr⟩ := r j hj
  obtain ⟨y, hy1, hy⟩ := n j hj
  have nx : xx_go (xt_P z) (d + 1) 62 49 [some (.ref h.length), some (.int (nI q)), some (.int (nI j))] [] (h ++ xr_B h.length (nI o) (nI o) (nI w) La Lb Lc Ld Le Lf Lg Lh Li) (fun v h1 => (∃ b : Int32, v = some (.int b)) ∧ xr_R h (o + 1) h1) := by
    refine go_a (pc' := 50) (ls' := [some (.ref h.length), some (.int (nI q)), some (.int (nI j))]) (st' := [(.ref h.length)]) rfl rfl ?_
    refine go_get rfl xq_get0 rfl rfl ?_
    refine go_a (pc' := 54) (ls' := [some (.ref h.length), some (.int (nI q)), some (.int (nI j))]) (st' := [(.int (nI j)), (.ref (h.length + 3))]) rfl rfl ?_
    refine go_ild (m := j) rfl (xq_get 3) (nI_pos (by omega)) (nI_clamp (by omega)) hy ?_
    refine go_a (pc' := 56) (ls' := [some (.ref h.length), some (.int (nI q)), some (.int y)]) (st' := []) rfl rfl ?_
    refine go_a (pc' := 18) (ls' := [some (.ref h.length), some (.int (nI q)), some (.int y)]) (st' := []) rfl rfl ?_
    rcases hy1 with rfl | ⟨j1, hj1, rfl⟩
    · refine go_a (pc' := 19) (ls' := [some (.ref h.length), some (.int (nI q)), some (.int (-1))]) (st' := [(.int (-1))]) rfl rfl ?_
      refine go_a (pc' := 20) (ls' := [some (.ref h.length), some (.int (nI q)), some (.int (-1))]) (st' := [(.int (-1)), (.int (-1))]) rfl rfl ?_
      refine go_a (pc' := 59) (ls' := [some (.ref h.length), some (.int (nI q)), some (.int (-1))]) (st' := []) rfl rfl ?_
      exact xm_sym_tail z d h o w q _ La Lb Lc Ld Le Lf Lg Lh Li hc ho hw K hq
    · exact ih j1 hj1 (by omega)
  refine go_a (pc' := 19) (ls' := [some (.ref h.length), some (.int (nI q)), some (.int (nI j))]) (st' := [(.int (nI j))]) rfl rfl ?_
  refine go_a (pc' := 20) (ls' := [some (.ref h.length), some (.int (nI q)), some (.int (nI j))]) (st' := [(.int (-1)), (.int (nI j))]) rfl rfl ?_
  refine go_if (t := 59) (off := 39) (r := []) rfl rfl rfl (fun hf => absurd (of_decide_eq_true hf) (xr_m1 (by omega))) (fun _ => ?_)
  refine go_a (pc' := 24) (ls' := [some (.ref h.length), some (.int (nI q)), some (.int (nI j))]) (st' := [(.ref h.length)]) rfl rfl ?_
  refine go_get rfl xq_get0 rfl rfl ?_
  refine go_a (pc' := 28) (ls' := [some (.ref h.length), some (.int (nI q)), some (.int (nI j))]) (st' := [(.int (nI j)), (.ref (h.length + 1))]) rfl rfl ?_
  refine go_ild (m := j) rfl (xq_get 1) (nI_pos (by omega)) (nI_clamp (by omega)) hx ?_
  refine go_a (pc' := 31) (ls' := [some (.ref h.length), some (.int (nI q)), some (.int (nI j))]) (st' := [(.int (-2)), (.int x)]) rfl rfl ?_
  refine go_if (t := 49) (off := 18) (r := []) rfl rfl rfl (fun _ => nx) (fun _ => ?_)
  refine go_a (pc' := 35) (ls' := [some (.ref h.length), some (.int (nI q)), some (.int (nI j))]) (st' := [(.ref h.length)]) rfl rfl ?_
  refine go_a (pc' := 36) (ls' := [some (.ref h.length), some (.int (nI q)), some (.int (nI j))]) (st' := [(.ref h.length), (.ref h.length)]) rfl rfl ?_
  refine go_get rfl xq_get0 rfl rfl ?_
  refine go_a (pc' := 40) (ls' := [some (.ref h.length), some (.int (nI q)), some (.int (nI j))]) (st' := [(.int (nI j)), (.ref (h.length + 2)), (.ref h.length)]) rfl rfl ?_
  refine go_ild (m := j) rfl (xq_get 2) (nI_pos (by omega)) (nI_clamp (by omega)) hr ?_
  refine go_v (m := 64) (as := [.ref h.length, .int (nI jj)]) (r := []) rfl rfl rfl xq_get0 rfl rfl (xm_isWord z d h (nI o) (nI o) w jj La Lb Lc Ld Le Lf Lg Lh Li (by omega) (by omega) l7 i7 l8 i8 l9 i9) (fun v h5 hq1 => ?_)
  obtain ⟨⟨b, -, rfl⟩, rfl⟩ := hq1
  show xx_go (xt_P z) (d + 1) 62 44 [some (.ref h.length), some (.int (nI q)), some (.int (nI j))] [(.int b)] (h ++ xr_B h.length (nI o) (nI o) (nI w) La Lb Lc Ld Le Lf Lg Lh Li) _
  refine go_if (t := 49) (off := 5) (r := []) rfl rfl rfl (fun _ => nx) (fun _ => ?_)
  refine go_a (pc' := 48) (ls' := [some (.ref h.length), some (.int (nI q)), some (.int (nI j))]) (st' := [(.int (nI j))]) rfl rfl ?_
  exact go_r rfl rfl rfl rfl rfl rfl ⟨⟨_, rfl⟩, o, w, _, _, _, _, _, _, _, _, _, by omega, hw, K, rfl⟩
theorem xm_symbolM (z : Value) (d : Nat) (h : xx_H) (o w : Nat) (La Lb Lc Ld Le Lf Lg Lh Li : List Value) (hc : 11 ≤ h.length) (ho : o < 100) (hw : w ≤ 11) (K : xr_ok o o La Lb Lc Ld Le Lf Lg Lh Li) : xx_cl (xt_P z) (d + 2) 62 [.ref h.length] (h ++ xr_B h.length (nI o) (nI o) (nI w) La Lb Lc Ld Le Lf Lg Lh Li) (fun v h1 => (∃ b : Int32, v = some (.int b)) ∧ xr_R h (o + 1) h1) := by
  obtain ⟨a1, a2, ⟨l1, l2, l3, l4, l5, l6, l7, l8, l9⟩, ⟨i1, i7, i8, i9⟩, r, n, f⟩ := id K
  refine cl_go rfl ?_
  show xx_go (xt_P z) (d + 1) 62 0 [some (.ref h.length), none, none] [] (h ++ xr_B h.length (nI o) (nI o) (nI w) La Lb Lc Ld Le Lf Lg Lh Li) _
  refine go_a (pc' := 1) (ls' := [some (.ref h.length), none, none]) (st' := [(.ref h.length)]) rfl rfl ?_
  refine go_a (pc' := 2) (ls' := [some (.ref h.length), none, none]) (st' := [(.int 0), (.ref h.length)]) rfl rfl ?_
  refine go_a (pc' := 3) (ls' := [some (.ref h.length), none, none]) (st' := [(.ref h.length), (.int 0), (.ref h.length)]) rfl rfl ?_
  refine go_get rfl xq_get0 rfl rfl ?_
  refine go_a (pc' := 7) (ls' := [some (.ref h.length), none, none]) (st' := [(.int 1), (.int (nI w)), (.int 0), (.ref h.length)]) rfl rfl ?_
  refine go_v (m := 63) (as := [.ref h.length, .int 0, .int (nI w), .int 1]) (r := []) rfl rfl rfl xq_get0 rfl rfl (xm_spelled z d h (nI o) (nI o) w La Lb Lc Ld Le Lf Lg Lh Li (by omega) l9 i9) (fun v h5 hq1 => ?_)
  obtain ⟨⟨q, hq, rfl⟩, rfl⟩ := hq1
  obtain ⟨y, hy1, hy⟩ := f q hq
  show xx_go (xt_P z) (d + 1) 62 10 [some (.ref h.length), none, none] [(.int (nI q))] (h ++ xr_B h.length (nI o) (nI o) (nI w) La Lb Lc Ld Le Lf Lg Lh Li) _
  refine go_a (pc' := 11) (ls' := [some (.ref h.length), some (.int (nI q)), none]) (st' := []) rfl rfl ?_
  refine go_a (pc' := 12) (ls' := [some (.ref h.length), some (.int (nI q)), none]) (st' := [(.ref h.length)]) rfl rfl ?_
  refine go_get rfl xq_get0 rfl rfl ?_
  refine go_a (pc' := 16) (ls' := [some (.ref h.length), some (.int (nI q)), none]) (st' := [(.int (nI q)), (.ref (h.length + 7))]) rfl rfl ?_
  refine go_ild (m := q) rfl (xq_get 7) (nI_pos (by omega)) (nI_clamp (by omega)) hy ?_
  refine go_a (pc' := 18) (ls' := [some (.ref h.length), some (.int (nI q)), some (.int y)]) (st' := []) rfl rfl ?_
  rcases hy1 with rfl | ⟨j1, hj1, rfl⟩
  · refine go_a (pc' := 19) (ls' := [some (.ref h.length), some (.int (nI q)), some (.int (-1))]) (st' := [(.int (-1))]) rfl rfl ?_
    refine go_a (pc' := 20) (ls' := [some (.ref h.length), some (.int (nI q)), some (.int (-1))]) (st' := [(.int (-1)), (.int (-1))]) rfl rfl ?_
    refine go_a (pc' := 59) (ls' := [some (.ref h.length), some (.int (nI q)), some (.int (-1))]) (st' := []) rfl rfl ?_
    exact xm_sym_tail z d h o w q _ La Lb Lc Ld Le Lf Lg Lh Li hc ho hw K hq
  · exact xm_sym_loop z d h o w q La Lb Lc Ld Le Lf Lg Lh Li hc ho hw K hq j1 hj1
/-- the kept things do not see the word -/
theorem xr_ok_word {o s : Nat} {La Lb Lc Ld Le Lf Lg Lh Li L1 : List Value} (K : xr_ok o s La Lb Lc Ld Le Lf Lg Lh Li) (h9 : L1.length = 12) (i9 : xs_i L1) : xr_ok o s La Lb Lc Ld Le Lf Lg Lh L1 := by
  obtain ⟨a1, a2, ⟨l1, l2, l3, l4, l5, l6, l7, l8, l9⟩, ⟨i1, i7, i8, _⟩, r, n, f⟩ := K
  exact ⟨a1, a2, ⟨l1, l2, l3, l4, l5, l6, l7, l8, h9⟩, ⟨i1, i7, i8, i9⟩, r, n, f⟩
set_option maxHeartbeats 1000000 in
theorem xm_said (z : Value) (d : Nat) (h h0 : xx_H) (b : Nat) (a1 a2 a3 a4 a5 a6 a7 a8 : Int32) (hc : 11 ≤ h.length) (hb : b < 100) (hR : xr_R h b h0) : xx_cl (xt_P z) (d + 3) 60 [.ref h.length, .int a1, .int a2, .int a3, .int a4, .int a5, .int a6, .int a7, .int a8] h0 (fun v h1 => v = none ∧ xr_R h (b + 1) h1) := by
  obtain ⟨o, w, La, Lb, Lc, Ld, Le, Lf, Lg, Lh, Li, ho, hw, K, rfl⟩ := hR
  refine cl_go rfl ?_
  show xx_go (xt_P z) (d + 2) 60 0 [some (.ref h.length), some (.int a1), some (.int a2), some (.int a3), some (.int a4), some (.int a5), some (.int a6), some (.int a7), some (.int a8), none] [] (h ++ xr_B h.length (nI o) (nI o) (nI w) La Lb Lc Ld Le Lf Lg Lh Li) _
  refine go_a (pc' := 1) (ls' := [some (.ref h.length), some (.int a1), some (.int a2), some (.int a3), some (.int a4), some (.int a5), some (.int a6), some (.int a7), some (.int a8), none]) (st' := [(.ref h.length)]) rfl rfl ?_
  refine go_a (pc' := 2) (ls' := [some (.ref h.length), some (.int a1), some (.int a2), some (.int a3), some (.int a4), some (.int a5), some (.int a6), some (.int a7), some (.int a8), none]) (st' := [(.int 0), (.ref h.length)]) rfl rfl ?_
  refine go_put (j := 17) rfl xq_get0 rfl rfl hc (show 17 < 86 by decide) rfl rfl ?_
  rw [xr_pw, ← nI_0]
  refine go_a (pc' := 6) (ls' := [some (.ref h.length), some (.int a1), some (.int a2), some (.int a3), some (.int a4), some (.int a5), some (.int a6), some (.int a7), some (.int a8), none]) (st' := [(.ref h.length)]) rfl rfl ?_
  refine go_a (pc' := 7) (ls' := [some (.ref h.length), some (.int a1), some (.int a2), some (.int a3), some (.int a4), some (.int a5), some (.int a6), some (.int a7), some (.int a8), none]) (st' := [(.int a1), (.ref h.length)]) rfl rfl ?_
  refine go_v (m := 61) (as := [.ref h.length, .int a1]) (r := []) rfl rfl rfl xq_get0 rfl rfl (xm_spell z (d + 1) h a1 (nI o) (nI o) 0 La Lb Lc Ld Le Lf Lg Lh Li hc (by omega) K.2.2.1.2.2.2.2.2.2.2.2 K.2.2.2.1.2.2.2) (fun v h5 hq1 => ?_)
  obtain ⟨rfl, w1, L1, hw1, e9, i9, rfl⟩ := hq1
  replace K := xr_ok_word K e9 i9
  clear e9 i9
  clear Li
  revert K
  generalize L1 = Li
  intro K
  show xx_go (xt_P z) (d + 2) 60 10 [some (.ref h.length), some (.int a1), some (.int a2), some (.int a3), some (.int a4), some (.int a5), some (.int a6), some (.int a7), some (.int a8), none] [] (h ++ xr_B h.length (nI o) (nI o) (nI w1) La Lb Lc Ld Le Lf Lg Lh Li) _
  refine go_a (pc' := 11) (ls' := [some (.ref h.length), some (.int a1), some (.int a2), some (.int a3), some (.int a4), some (.int a5), some (.int a6), some (.int a7), some (.int a8), none]) (st' := [(.ref h.length)]) rfl rfl ?_
  refine go_a (pc' := 12) (ls' := [some (.ref h.length), some (.int a1), some (.int a2), some (.int a3), some (.int a4), some (.int a5), some (.int a6), some (.int a7), some (.int a8), none]) (st' := [(.int a2), (.ref h.length)]) rfl rfl ?_
  refine go_v (m := 61) (as := [.ref h.length, .int a2]) (r := []) rfl rfl rfl xq_get0 rfl rfl (xm_spell z (d + 1) h a2 (nI o) (nI o) w1 La Lb Lc Ld Le Lf Lg Lh Li hc (by omega) K.2.2.1.2.2.2.2.2.2.2.2 K.2.2.2.1.2.2.2) (fun v h5 hq1 => ?_)
  obtain ⟨rfl, w2, L1, hw2, e9, i9, rfl⟩ := hq1
  replace K := xr_ok_word K e9 i9
  clear e9 i9
  clear Li
  revert K
  generalize L1 = Li
  intro K
  show xx_go (xt_P z) (d + 2) 60 15 [some (.ref h.length), some (.int a1), some (.int a2), some (.int a3), some (.int a4), some (.int a5), some (.int a6), some (.int a7), some (.int a8), none] [] (h ++ xr_B h.length (nI o) (nI o) (nI w2) La Lb Lc Ld Le Lf Lg Lh Li) _
  refine go_a (pc' := 16) (ls' := [some (.ref h.length), some (.int a1), some (.int a2), some (.int a3), some (.int a4), some (.int a5), some (.int a6), some (.int a7), some (.int a8), none]) (st' := [(.ref h.length)]) rfl rfl ?_
  refine go_a (pc' := 17) (ls' := [some (.ref h.length), some (.int a1), some (.int a2), some (.int a3), some (.int a4), some (.int a5), some (.int a6), some (.int a7), some (.int a8), none]) (st' := [(.int a3), (.ref h.length)]) rfl rfl ?_
  refine go_v (m := 61) (as := [.ref h.length, .int a3]) (r := []) rfl rfl rfl xq_get0 rfl rfl (xm_spell z (d + 1) h a3 (nI o) (nI o) w2 La Lb Lc Ld Le Lf Lg Lh Li hc (by omega) K.2.2.1.2.2.2.2.2.2.2.2 K.2.2.2.1.2.2.2) (fun v h5 hq1 => ?_)
  obtain ⟨rfl, w3, L1, hw3, e9, i9, rfl⟩ := hq1
  replace K := xr_ok_word K e9 i9
  clear e9 i9
  clear Li
  revert K
  generalize L1 = Li
  intro K
  show xx_go (xt_P z) (d + 2) 60 20 [some (.ref h.length), some (.int a1), some (.int a2), some (.int a3), some (.int a4), some (.int a5), some (.int a6), some (.int a7), some (.int a8), none] [] (h ++ xr_B h.length (nI o) (nI o) (nI w3) La Lb Lc Ld Le Lf Lg Lh Li) _
  refine go_a (pc' := 21) (ls' := [some (.ref h.length), some (.int a1), some (.int a2), some (.int a3), some (.int a4), some (.int a5), some (.int a6), some (.int a7), some (.int a8), none]) (st' := [(.ref h.length)]) rfl rfl ?_
  refine go_a (pc' := 23) (ls' := [some (.ref h.length), some (.int a1), some (.int a2), some (.int a3), some (.int a4), some (.int a5), some (.int a6), some (.int a7), some (.int a8), none]) (st' := [(.int a4), (.ref h.length)]) rfl rfl ?_
  refine go_v (m := 61) (as := [.ref h.length, .int a4]) (r := []) rfl rfl rfl xq_get0 rfl rfl (xm_spell z (d + 1) h a4 (nI o) (nI o) w3 La Lb Lc Ld Le Lf Lg Lh Li hc (by omega) K.2.2.1.2.2.2.2.2.2.2.2 K.2.2.2.1.2.2.2) (fun v h5 hq1 => ?_)
  obtain ⟨rfl, w4, L1, hw4, e9, i9, rfl⟩ := hq1
  replace K := xr_ok_word K e9 i9
  clear e9 i9
  clear Li
  revert K
  generalize L1 = Li
  intro K
  show xx_go (xt_P z) (d + 2) 60 26 [some (.ref h.length), some (.int a1), some (.int a2), some (.int a3), some (.int a4), some (.int a5), some (.int a6), some (.int a7), some (.int a8), none] [] (h ++ xr_B h.length (nI o) (nI o) (nI w4) La Lb Lc Ld Le Lf Lg Lh Li) _
  refine go_a (pc' := 27) (ls' := [some (.ref h.length), some (.int a1), some (.int a2), some (.int a3), some (.int a4), some (.int a5), some (.int a6), some (.int a7), some (.int a8), none]) (st' := [(.ref h.length)]) rfl rfl ?_
  refine go_a (pc' := 29) (ls' := [some (.ref h.length), some (.int a1), some (.int a2), some (.int a3), some (.int a4), some (.int a5), some (.int a6), some (.int a7), some (.int a8), none]) (st' := [(.int a5), (.ref h.length)]) rfl rfl ?_
  refine go_v (m := 61) (as := [.ref h.length, .int a5]) (r := []) rfl rfl rfl xq_get0 rfl rfl (xm_spell z (d + 1) h a5 (nI o) (nI o) w4 La Lb Lc Ld Le Lf Lg Lh Li hc (by omega) K.2.2.1.2.2.2.2.2.2.2.2 K.2.2.2.1.2.2.2) (fun v h5 hq1 => ?_)
  obtain ⟨rfl, w5, L1, hw5, e9, i9, rfl⟩ := hq1
  replace K := xr_ok_word K e9 i9
  clear e9 i9
  clear Li
  revert K
  generalize L1 = Li
  intro K
  show xx_go (xt_P z) (d + 2) 60 32 [some (.ref h.length), some (.int a1), some (.int a2), some (.int a3), some (.int a4), some (.int a5), some (.int a6), some (.int a7), some (.int a8), none] [] (h ++ xr_B h.length (nI o) (nI o) (nI w5) La Lb Lc Ld Le Lf Lg Lh Li) _
  refine go_a (pc' := 33) (ls' := [some (.ref h.length), some (.int a1), some (.int a2), some (.int a3), some (.int a4), some (.int a5), some (.int a6), some (.int a7), some (.int a8), none]) (st' := [(.ref h.length)]) rfl rfl ?_
  refine go_a (pc' := 35) (ls' := [some (.ref h.length), some (.int a1), some (.int a2), some (.int a3), some (.int a4), some (.int a5), some (.int a6), some (.int a7), some (.int a8), none]) (st' := [(.int a6), (.ref h.length)]) rfl rfl ?_
  refine go_v (m := 61) (as := [.ref h.length, .int a6]) (r := []) rfl rfl rfl xq_get0 rfl rfl (xm_spell z (d + 1) h a6 (nI o) (nI o) w5 La Lb Lc Ld Le Lf Lg Lh Li hc (by omega) K.2.2.1.2.2.2.2.2.2.2.2 K.2.2.2.1.2.2.2) (fun v h5 hq1 => ?_)
  obtain ⟨rfl, w6, L1, hw6, e9, i9, rfl⟩ := hq1
  replace K := xr_ok_word K e9 i9
  clear e9 i9
  clear Li
  revert K
  generalize L1 = Li
  intro K
  show xx_go (xt_P z) (d + 2) 60 38 [some (.ref h.length), some (.int a1), some (.int a2), some (.int a3), some (.int a4), some (.int a5), some (.int a6), some (.int a7), some (.int a8), none] [] (h ++ xr_B h.length (nI o) (nI o) (nI w6) La Lb Lc Ld Le Lf Lg Lh Li) _
  refine go_a (pc' := 39) (ls' := [some (.ref h.length), some (.int a1), some (.int a2), some (.int a3), some (.int a4), some (.int a5), some (.int a6), some (.int a7), some (.int a8), none]) (st' := [(.ref h.length)]) rfl rfl ?_
  refine go_a (pc' := 41) (ls' := [some (.ref h.length), some (.int a1), some (.int a2), some (.int a3), some (.int a4), some (.int a5), some (.int a6), some (.int a7), some (.int a8), none]) (st' := [(.int a7), (.ref h.length)]) rfl rfl ?_
  refine go_v (m := 61) (as := [.ref h.length, .int a7]) (r := []) rfl rfl rfl xq_get0 rfl rfl (xm_spell z (d + 1) h a7 (nI o) (nI o) w6 La Lb Lc Ld Le Lf Lg Lh Li hc (by omega) K.2.2.1.2.2.2.2.2.2.2.2 K.2.2.2.1.2.2.2) (fun v h5 hq1 => ?_)
  obtain ⟨rfl, w7, L1, hw7, e9, i9, rfl⟩ := hq1
  replace K := xr_ok_word K e9 i9
  clear e9 i9
  clear Li
  revert K
  generalize L1 = Li
  intro K
  show xx_go (xt_P z) (d + 2) 60 44 [some (.ref h.length), some (.int a1), some (.int a2), some (.int a3), some (.int a4), some (.int a5), some (.int a6), some (.int a7), some (.int a8), none] [] (h ++ xr_B h.length (nI o) (nI o) (nI w7) La Lb Lc Ld Le Lf Lg Lh Li) _
  refine go_a (pc' := 45) (ls' := [some (.ref h.length), some (.int a1), some (.int a2), some (.int a3), some (.int a4), some (.int a5), some (.int a6), some (.int a7), some (.int a8), none]) (st' := [(.ref h.length)]) rfl rfl ?_
  refine go_a (pc' := 47) (ls' := [some (.ref h.length), some (.int a1), some (.int a2), some (.int a3), some (.int a4), some (.int a5), some (.int a6), some (.int a7), some (.int a8), none]) (st' := [(.int a8), (.ref h.length)]) rfl rfl ?_
  refine go_v (m := 61) (as := [.ref h.length, .int a8]) (r := []) rfl rfl rfl xq_get0 rfl rfl (xm_spell z (d + 1) h a8 (nI o) (nI o) w7 La Lb Lc Ld Le Lf Lg Lh Li hc (by omega) K.2.2.1.2.2.2.2.2.2.2.2 K.2.2.2.1.2.2.2) (fun v h5 hq1 => ?_)
  obtain ⟨rfl, w8, L1, hw8, e9, i9, rfl⟩ := hq1
  replace K := xr_ok_word K e9 i9
  clear e9 i9
  clear Li
  revert K
  generalize L1 = Li
  intro K
  show xx_go (xt_P z) (d + 2) 60 50 [some (.ref h.length), some (.int a1), some (.int a2), some (.int a3), some (.int a4), some (.int a5), some (.int a6), some (.int a7), some (.int a8), none] [] (h ++ xr_B h.length (nI o) (nI o) (nI w8) La Lb Lc Ld Le Lf Lg Lh Li) _
  refine go_a (pc' := 51) (ls' := [some (.ref h.length), some (.int a1), some (.int a2), some (.int a3), some (.int a4), some (.int a5), some (.int a6), some (.int a7), some (.int a8), none]) (st' := [(.ref h.length)]) rfl rfl ?_
  refine go_v (m := 62) (as := [.ref h.length]) (r := []) rfl rfl rfl xq_get0 rfl rfl (xm_symbolM z d h o w8 La Lb Lc Ld Le Lf Lg Lh Li hc (by omega) (by omega) K) (fun v h5 hq1 => ?_)
  obtain ⟨⟨x, rfl⟩, o1, w1, A1, A2, A3, A4, A5, A6, A7, A8, A9, ho1, hw1, K1, rfl⟩ := hq1
  refine go_a (pc' := 56) (ls' := [some (.ref h.length), some (.int a1), some (.int a2), some (.int a3), some (.int a4), some (.int a5), some (.int a6), some (.int a7), some (.int a8), some (.int x)]) (st' := []) rfl rfl ?_
  exact go_r rfl rfl rfl rfl rfl rfl ⟨rfl, o1, w1, _, _, _, _, _, _, _, _, _, by omega, hw1, K1, rfl⟩
