def xt_Ts : List Cond := lw_tbl.filter goodWord
def xt_nst : List Cond := lw_tbl.filter xx_nest
def xk_code (cc : ByteArray) (l : List (Nat × Instr)) : Bool := l.all (fun q => match decode cc q.1 with
  | .ok (i, len) => decide (i = q.2) && (xx_sw i || Nat.beq len (xx_len i))
  | _ => false)
theorem xk_code_ok {cc : ByteArray} {l : List (Nat × Instr)} (h : xk_code cc l = true) {pc : Nat} {i : Instr} (hi : l.lookup pc = some i) : xx_dec cc pc i := by
  have hm : (pc, i) ∈ l := by
    clear h
    induction l with
    | nil => simp at hi
    | cons x l ih =>
      obtain ⟨a, b⟩ := x
      rw [List.lookup_cons] at hi
      split at hi
      · rename_i e
        cases hi
        have : pc = a := by simpa using e
        subst this
        exact List.mem_cons_self
      · exact List.mem_cons_of_mem _ (ih hi)
  have h1 := List.all_eq_true.mp h _ hm
  dsimp only at h1
  split at h1
  · rename_i i' len hd
    rw [Bool.and_eq_true] at h1
    have e1 : i' = i := of_decide_eq_true h1.1
    subst e1
    refine ⟨len, hd, ?_⟩
    rcases Bool.or_eq_true .. |>.mp h1.2 with z | z
    · exact Or.inl z
    · exact Or.inr (Nat.eq_of_beq_eq_true z)
  · cases h1

