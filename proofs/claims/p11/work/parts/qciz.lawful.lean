section LWS
variable {ft : Nat → Int} {fn : Nat}
theorem ts_end {q : ob_T} (h : (sp_ts ft q).2.2 = 0) : (sp_cc fn q).2 = [] := by
  match q, h with
  | .add a b, h =>
    rw [ts_3] at h
    have := (sp_ts_nn (ft := ft) b).2.2
    omega
  | .num _, _ => rfl
  | .var _, _ => rfl
  | .sub _ _, _ => rfl
  | .neg _, _ => rfl
  | .mulL _ _, _ => rfl
  | .mulR _ _, _ => rfl
theorem ish_nn (fnn : fn ≠ 31651) : ¬ sp_ish fn (.var 31651) = true := fun q => by
  have e := sp_ish_e q
  injection e with e
  exact fnn e.symm
theorem cc_n1 (fnn : fn ≠ 31651) (t : ob_T) : (sp_cc fn (.add (.var 31651) (.add t (.var 31361)))).1 = (sp_cc fn t).1 := by
  rw [cc_add]
  show (if sp_isq (.var 31651) = true then [] else (if sp_ish fn (.var 31651) = true then [.add t (.var 31361)] else []) ++ (sp_cc fn (.add t (.var 31361))).2) = _
  rw [if_neg (by decide), if_neg (ish_nn fnn), cc_add]
  show [] ++ ((sp_cc fn t).1 ++ []) = _
  rw [List.append_nil]
  rfl
theorem cc_not (hn : sp_arT ft (.var 31651) = 1) (fnn : fn ≠ 31651) {t : ob_T} (h : 1 ≤ (sp_ts ft t).1) : (sp_cc fn (sp_not t)).1 = (sp_cc fn t).1 := by
  match t, h with
  | .num _, _ => rfl
  | .var v, _ =>
    show (sp_cc fn (if v = 31361 then .var 20 else if v = 20 then .var 31361 else .add (.var 31651) (.add (.var v) (.var 31361)))).1 = _
    split
    · rfl
    · split
      · rfl
      · exact cc_n1 fnn _
  | .add a b, h =>
    show (sp_cc fn (if sp_ish 31651 a = true then sp_fst b else if sp_isq a = true then .var 31361 else .add (.var 31651) (.add (.add a b) (.var 31361)))).1 = _
    by_cases c : sp_ish 31651 a = true
    · have ea := sp_ish_e c
      rw [if_pos c]
      rw [ea] at h ⊢
      obtain ⟨p, q, eb⟩ := ts_hn hn h b rfl
      have d := (ts_1p (by decide) h).2
      rw [hn, eb, ts_3] at d
      rw [eb, cc_add]
      show (sp_cc fn p).1 = (if sp_isq (.var 31651) = true then [] else (if sp_ish fn (.var 31651) = true then [.add p q] else []) ++ (sp_cc fn (.add p q)).2)
      rw [if_neg (by decide), if_neg (ish_nn fnn), cc_add]
      show (sp_cc fn p).1 = [] ++ ((sp_cc fn p).1 ++ (sp_cc fn q).2)
      rw [ts_end (ft := ft) (by omega), List.append_nil]
      rfl
    · rw [if_neg c]
      by_cases q : sp_isq a = true
      · rw [if_pos q, cc_add]
        show [] = (if sp_isq a = true then [] else _)
        rw [if_pos q]
      · rw [if_neg q]
        exact cc_n1 fnn _
theorem lw_rows {A1 : Nat → Int → Int} {N : Int → Int} {τ : ob_T} {n : Int} {w : Prop} (hn : sp_arT ft (.var 31651) = 1) (fnn : fn ≠ 31651) (ht : 1 ≤ (sp_ts ft τ).1) (hl : ((sp_ph τ).length : Int) = n) (hw : w) (hE : ∀ p : Int, 0 ≤ p → p < n → ∃ q : List (Bool × ob_T) × ob_T, (sp_ph τ)[p.toNat]? = some q ∧ q.2 = DM A1 N (A1 39 p) ∧ PEN N A1 w q.1 (A1 41 p) (fun k => A1 40 (64 * p + k))) : (∀ e : Int, 0 ≤ e → e < n → (∀ k : Int, 0 ≤ k → k < A1 41 e → (sp_cc fn (DM A1 N (A1 40 (64 * e + k)))).1 = []) ∧ ∀ b ∈ (sp_cc fn (DM A1 N (A1 39 e))).1, (sp_cc fn b).2 = []) ↔ sp_lw fn τ := by
  have row : ∀ (q : List (Bool × ob_T) × ob_T) (p : Int), q ∈ sp_ph τ → PEN N A1 w q.1 (A1 41 p) (fun k => A1 40 (64 * p + k)) → ∀ k : Nat, k < q.1.length → ∃ (b : Bool) (σ : ob_T), q.1[k]? = some (b, σ) ∧ (sp_cc fn (DM A1 N (A1 40 (64 * p + (k : Int))))).1 = (sp_cc fn σ).1 := by
    intro q p hq pe k hk
    obtain ⟨b, σ, e1, e2⟩ := pe.2 k hk
    have e2 : DM A1 N (A1 40 (64 * p + (k : Int))) = (if b = true then σ else sp_not σ) := e2 hw
    have s := ((ph_ts (ft := ft) (tsz τ + 1) τ (by omega) ht q hq).1 (b, σ) (List.mem_of_getElem? e1)).1
    refine ⟨b, σ, e1, ?_⟩
    rw [e2]
    cases b with
    | true => rfl
    | false => exact cc_not hn fnn s
  refine ⟨fun H q hq => ?_, fun H e e0 e1 => ?_⟩
  · obtain ⟨j, hj⟩ := List.getElem?_of_mem hq
    have jl : j < (sp_ph τ).length := (List.getElem?_eq_some_iff.mp hj).1
    obtain ⟨q2, a, b, c⟩ := hE j (by omega) (by omega)
    rw [Int.toNat_natCast, hj] at a
    injection a with a
    rw [← a] at b c
    have h9 := H j (by omega) (by omega)
    refine ⟨fun r hr => ?_, fun b9 hb9 => ?_⟩
    · obtain ⟨k, hk⟩ := List.getElem?_of_mem hr
      have kl : k < q.1.length := (List.getElem?_eq_some_iff.mp hk).1
      obtain ⟨bb, σ, e1, e2⟩ := row q j hq c k kl
      rw [hk] at e1
      injection e1 with e1
      rw [e1]
      show (sp_cc fn σ).1 = []
      rw [← e2]
      exact h9.1 k (by omega) (by have := c.1; omega)
    · rw [b] at hb9
      exact h9.2 b9 hb9
  · obtain ⟨q, a, b, c⟩ := hE e e0 e1
    have hq := List.mem_of_getElem? a
    have h9 := H q hq
    refine ⟨fun k k0 k1 => ?_, fun b9 hb9 => ?_⟩
    · obtain ⟨bb, σ, f1, f2⟩ := row q e hq c k.toNat (by have := c.1; omega)
      rw [show ((k.toNat : Nat) : Int) = k by omega] at f2
      rw [f2]
      exact h9.1 (bb, σ) (List.mem_of_getElem? f1)
    · rw [← b] at hb9
      exact h9.2 b9 hb9
end LWS
