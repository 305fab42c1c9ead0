section NTS
variable {I : Nat → Int} {A : Nat → Int → Int} {N : Int → Int}
theorem DM_li (hS : MST I A N) (hT : TRX I A N) : ∀ (m : Nat) (v : Int), 0 ≤ v → v < I 7 → isL A m v → DM A N v = sp_li ((List.range m).map (fun j => DM A N (A 1 (rt A j v))))
  | 0, v, _, _, hL => by
    rw [show v = 0 from hL, DM_0 hT]
    rfl
  | m + 1, v, v0, v1, hL => by
    have q0 := (MST_PW hS).2 v v0 v1
    have q2 := q0.2.2.2.2 hL.1
    rw [DM_pr hS hT v0 v1 hL.1, DM_li hS hT m (A 2 v) (by omega) (by omega) hL.2, List.range_succ_eq_map, List.map_cons, List.map_map]
    rfl
theorem NOT_c (hS : MST I A N) (hN : NM I A) (hT : TRX I A N) {k : Int} (k0 : 0 ≤ k) (k1 : k < I 7) (e : A 1 k = 15) (p : 0 ≤ A 1 (A 2 k)) : sp_not (DM A N k) = DM A N (A 1 (A 2 k)) := by
  have q0 := (MST_PW hS).2 k k0 k1
  have q2 := q0.2.2.2.2 (by omega)
  have n7 := hN.1
  have d15 : DM A N 15 = .var 31651 := hT.2 15 (by decide)
  rw [DM_pr hS hT k0 k1 (by omega), e, d15, DM_pr hS hT (k := A 2 k) (by omega) (by omega) p]
  rfl
theorem NOT_0 (hT : TRX I A N) : sp_not (DM A N 0) = DM A N 1 := by
  rw [DM_0 hT, DM_1 hT]
  rfl
theorem NOT_k (hS : MST I A N) (hN : NM I A) (hT : TRX I A N) {k : Int} (k0 : 0 ≤ k) (k1 : k < I 7) (e : k ≠ 0) (h : A 1 k = -1 ∨ k = 1 ∨ A 1 k = 2) : sp_not (DM A N k) = DM A N 0 := by
  rw [DM_0 hT]
  rcases h with h | h | h
  · rw [DM_n h]
    rfl
  · rw [h, DM_1 hT]
    rfl
  · rw [DM_pr hS hT k0 k1 (by omega), h, DM_2 hT]
    rfl
theorem NOT_o (hS : MST I A N) (hN : NM I A) (hT : TRX I A N) {k : Int} (k0 : 0 ≤ k) (k1 : k < I 7) (h : ¬ (A 1 k = -1 ∨ k = 0 ∨ k = 1 ∨ A 1 k = 2)) (e : A 1 k ≠ 15) : sp_not (DM A N k) = .add (.var 31651) (.add (DM A N k) (.var 31361)) := by
  by_cases c : A 1 k < 0
  · rcases DM_at hS k0 k1 c with ⟨a, -⟩ | ⟨a, v, q⟩
    · exact absurd (Or.inl a) h
    · have v0 : v ≠ 31361 := fun x => h (Or.inr (Or.inl ((DM_nm hS hN hT k0 k1 (x := 0) (by decide)).mp (by rw [q, x]; rfl))))
      have v1 : v ≠ 20 := fun x => h (Or.inr (Or.inr (Or.inl ((DM_nm hS hN hT k0 k1 (x := 1) (by decide)).mp (by rw [q, x]; rfl)))))
      rw [q]
      show (if v = 31361 then _ else if v = 20 then _ else _) = _
      rw [if_neg v0, if_neg v1]
  · have q0 := (MST_PW hS).2 k k0 k1
    have q2 := q0.2.2.2.2 (by omega)
    have iq := isq_f hS hN hT (k := A 1 k) (by omega) (by omega) (fun x => h (Or.inr (Or.inr (Or.inr x))))
    have ih : sp_ish 31651 (DM A N (A 1 k)) = false := by
      cases hx : sp_ish 31651 (DM A N (A 1 k)) with
      | false => rfl
      | true =>
        generalize ed : DM A N (A 1 k) = t at hx
        match t, hx with
        | .var v, hx =>
          have v2 : v = 31651 := by
            have : (v == 31651) = true := hx
            exact beq_iff_eq.mp this
          rw [v2] at ed
          exact absurd ((DM_nm hS hN hT (by omega) (by omega) (x := 15) (by decide)).mp ed) e
    rw [DM_pr hS hT k0 k1 (by omega)]
    show (if sp_ish 31651 (DM A N (A 1 k)) = true then _ else if sp_isq (DM A N (A 1 k)) = true then _ else _) = _
    rw [ih, iq, if_neg (by decide), if_neg (by decide)]
end NTS
