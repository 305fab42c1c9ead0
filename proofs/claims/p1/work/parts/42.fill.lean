/-! Arrays.fill(int[], int): a loop over the executor -/
theorem xm_fill_loop (z : Value) (d a : Nat) (y : Int32) (h : xx_H) (vs : List Value) (ha : 11 ≤ a) (hl : a < h.length) (hvs : vs.length < 2 ^ 31) (Q : Option Value → xx_H → Prop) (hQ : Q none (h.set a (.inl (.int, List.replicate vs.length (.int y))))) : ∀ (n j : Nat), j + n = vs.length → xx_go (xt_P z) d 4 5 [some (.ref a), some (.int y), some (.int (nI j)), some (.int (nI vs.length))] [] (h.set a (.inl (.int, List.replicate j (.int y) ++ vs.drop j))) Q := by
  intro n
  induction n with
  | zero =>
    intro j hj
    have hj : j = vs.length := by omega
    subst hj
    refine go_a (pc' := 6) (ls' := [some (.ref a), some (.int y), some (.int (nI vs.length)), some (.int (nI vs.length))]) (st' := [.int (nI vs.length)]) rfl rfl ?_
    refine go_a (pc' := 7) (ls' := [some (.ref a), some (.int y), some (.int (nI vs.length)), some (.int (nI vs.length))]) (st' := [.int (nI vs.length), .int (nI vs.length)]) rfl rfl ?_
    refine go_if (t := 20) (off := 13) (b := decide (nI vs.length ≤ nI vs.length)) (r := []) rfl rfl rfl (fun _ => ?_) (fun hf => absurd (nI_le (Nat.le_refl _) hvs) (of_decide_eq_false hf))
    refine go_r rfl rfl rfl rfl rfl rfl ?_
    rw [List.drop_length, List.append_nil]
    exact hQ
  | succ n ih =>
    intro j hj
    refine go_a (pc' := 6) (ls' := [some (.ref a), some (.int y), some (.int (nI j)), some (.int (nI vs.length))]) (st' := [.int (nI j)]) rfl rfl ?_
    refine go_a (pc' := 7) (ls' := [some (.ref a), some (.int y), some (.int (nI j)), some (.int (nI vs.length))]) (st' := [.int (nI vs.length), .int (nI j)]) rfl rfl ?_
    refine go_if (t := 20) (off := 13) (b := decide (nI vs.length ≤ nI j)) (r := []) rfl rfl rfl (fun hf => absurd (of_decide_eq_true hf) (nI_ge (by omega) hvs)) (fun _ => ?_)
    refine go_a (pc' := 11) (ls' := [some (.ref a), some (.int y), some (.int (nI j)), some (.int (nI vs.length))]) (st' := [.ref a]) rfl rfl ?_
    refine go_a (pc' := 12) (ls' := [some (.ref a), some (.int y), some (.int (nI j)), some (.int (nI vs.length))]) (st' := [.int (nI j), .ref a]) rfl rfl ?_
    refine go_a (pc' := 13) (ls' := [some (.ref a), some (.int y), some (.int (nI j)), some (.int (nI vs.length))]) (st' := [.int y, .int (nI j), .ref a]) rfl rfl ?_
    refine go_ist (m := j) (vs := List.replicate j (.int y) ++ vs.drop j) rfl (by rw [List.getElem?_set_self hl]) ha (nI_pos (by omega)) (nI_clamp (by omega)) (by simp; omega) ?_
    rw [List.set_set, show (List.replicate j (Value.int y) ++ vs.drop j).set j (.int y) = List.replicate (j + 1) (.int y) ++ vs.drop (j + 1) by
      rw [List.set_append_right _ _ (by simp)]
      simp only [List.length_replicate, Nat.sub_self]
      rw [List.replicate_succ', List.append_assoc]
      congr 1
      rw [List.drop_eq_getElem_cons (show j < vs.length by omega)]
      rfl]
    refine go_a (pc' := 17) (ls' := [some (.ref a), some (.int y), some (.int (nI (j + 1))), some (.int (nI vs.length))]) (st' := []) rfl (by rw [← nI_1 j]; rfl) ?_
    exact go_a (pc' := 5) rfl rfl (ih (j + 1) (by omega))
theorem xm_fill (z : Value) (d a : Nat) (y : Int32) (h : xx_H) (vs : List Value) (hh : h[a]? = some (.inl (.int, vs))) (ha : 11 ≤ a) (hvs : vs.length < 2 ^ 31) : xx_cl (xt_P z) (d + 1) 4 [.ref a, .int y] h (fun v h1 => v = none ∧ h1 = h.set a (.inl (.int, List.replicate vs.length (.int y)))) := by
  have hl : a < h.length := (List.getElem?_eq_some_iff.mp hh).1
  refine cl_go rfl ?_
  show xx_go (xt_P z) d 4 0 [some (.ref a), some (.int y), none, none] [] h _
  refine go_a (pc' := 1) (ls' := [some (.ref a), some (.int y), none, none]) (st' := [.int 0]) rfl rfl ?_
  refine go_a (pc' := 2) (ls' := [some (.ref a), some (.int y), some (.int 0), none]) (st' := []) rfl rfl ?_
  refine go_a (pc' := 3) (ls' := [some (.ref a), some (.int y), some (.int 0), none]) (st' := [.ref a]) rfl rfl ?_
  refine go_len rfl hh ?_
  refine go_a (pc' := 5) (ls' := [some (.ref a), some (.int y), some (.int 0), some (.int (nI vs.length))]) (st' := []) rfl rfl ?_
  have hs : h.set a (.inl (.int, List.replicate 0 (.int y) ++ vs.drop 0)) = h := by
    apply List.ext_getElem?
    intro i
    rw [List.getElem?_set]
    split
    · rename_i e
      subst e
      rw [hh]
      rfl
    · rfl
  have key := xm_fill_loop z d a y h vs ha hl hvs (fun v h1 => v = none ∧ h1 = h.set a (.inl (.int, List.replicate vs.length (.int y)))) ⟨rfl, rfl⟩ vs.length 0 (by omega)
  rw [hs] at key
  exact key
