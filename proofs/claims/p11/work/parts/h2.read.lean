def sp_fv (ft : Nat → Int) : ob_T → Int
  | .var v => ft v
  | _ => -1
def vlS (ft : Nat → Int) (S : List ob_T) : Prop := ∀ t ∈ S, 1 ≤ (sp_ts ft t).1
def smS (ft : Nat → Int) : List ob_T → Int
  | [] => 0
  | t :: S => (sp_ts ft t).1 + smS ft S
def TRS (N : Int → Int) (U : Int) (ft : Nat → Int) : List Int → List ob_T → Prop
  | R, [] => R = []
  | R, t :: S => ∃ R1 R2 : List Int, R = R1 ++ R2 ∧ TRT N U ft R1 (sp_nf t).1 ∧ TRS N U ft R2 S
section RDS
variable {N : Int → Int} {U : Int} {ft : Nat → Int}
theorem sp_ts_nn : ∀ t : ob_T, 0 ≤ (sp_ts ft t).1 ∧ -1 ≤ (sp_ts ft t).2.1 ∧ 0 ≤ (sp_ts ft t).2.2
  | .num _ => by
    show (0 : Int) ≤ 1 ∧ (-1 : Int) ≤ -1 ∧ (0 : Int) ≤ 0
    decide
  | .var v => by
    show (0 : Int) ≤ 1 ∧ (-1 : Int) ≤ (if v = 31361 then 0 else -1) ∧ (0 : Int) ≤ 0
    refine ⟨by decide, ?_, by decide⟩
    split <;> decide
  | .add a b => by
    have ia := sp_ts_nn a
    have ib := sp_ts_nn b
    refine ⟨?_, ?_, ?_⟩
    · show 0 ≤ (if sp_isq a = true then (if sp_one b = true then 1 else 0) else if 0 ≤ (sp_ts ft b).2.1 ∧ (sp_ts ft b).2.2 = sp_arT ft a then 1 + (sp_ts ft b).2.1 else 0)
      split
      · split <;> decide
      · split
        · omega
        · decide
    · show -1 ≤ (if 1 ≤ (sp_ts ft a).1 ∧ 0 ≤ (sp_ts ft b).2.1 then (sp_ts ft a).1 + (sp_ts ft b).2.1 else -1)
      split
      · omega
      · decide
    · show 0 ≤ 1 + (sp_ts ft b).2.2
      omega
  | .sub a b => by
    show (0 : Int) ≤ 0 ∧ (-1 : Int) ≤ -1 ∧ (0 : Int) ≤ 0
    decide
  | .neg a => by
    show (0 : Int) ≤ 0 ∧ (-1 : Int) ≤ -1 ∧ (0 : Int) ≤ 0
    decide
  | .mulL k a => by
    show (0 : Int) ≤ 0 ∧ (-1 : Int) ≤ -1 ∧ (0 : Int) ≤ 0
    decide
  | .mulR a k => by
    show (0 : Int) ≤ 0 ∧ (-1 : Int) ≤ -1 ∧ (0 : Int) ≤ 0
    decide
theorem smS_nn : ∀ S : List ob_T, vlS ft S → (S.length : Int) ≤ smS ft S
  | [], _ => Int.le_refl _
  | t :: S, h => by
    have i := smS_nn S (fun x hx => h x (List.mem_cons_of_mem _ hx))
    have q := h t List.mem_cons_self
    show ((S.length + 1 : Nat) : Int) ≤ (sp_ts ft t).1 + smS ft S
    omega
theorem vlS_cons {t : ob_T} {S : List ob_T} : vlS ft (t :: S) ↔ 1 ≤ (sp_ts ft t).1 ∧ vlS ft S := by
  constructor
  · exact fun h => ⟨h t List.mem_cons_self, fun x hx => h x (List.mem_cons_of_mem _ hx)⟩
  · intro h x hx
    rcases List.mem_cons.mp hx with e | e
    · rw [e]
      exact h.1
    · exact h.2 x e
theorem vlS_app : ∀ {S S2 : List ob_T}, vlS ft (S ++ S2) ↔ vlS ft S ∧ vlS ft S2 := by
  intro S S2
  constructor
  · exact fun h => ⟨fun x hx => h x (List.mem_append_left _ hx), fun x hx => h x (List.mem_append_right _ hx)⟩
  · intro h x hx
    rcases List.mem_append.mp hx with e | e
    · exact h.1 x e
    · exact h.2 x e
theorem smS_app : ∀ (S S2 : List ob_T), smS ft (S ++ S2) = smS ft S + smS ft S2
  | [], S2 => by
    show smS ft S2 = 0 + smS ft S2
    omega
  | t :: S, S2 => by
    show (sp_ts ft t).1 + smS ft (S ++ S2) = (sp_ts ft t).1 + smS ft S + smS ft S2
    rw [smS_app S S2]
    omega
theorem TRS_app : ∀ (S S2 : List ob_T) (R : List Int), TRS N U ft R (S ++ S2) → ∃ R1 R2 : List Int, R = R1 ++ R2 ∧ TRS N U ft R1 S ∧ TRS N U ft R2 S2
  | [], S2, R, h => ⟨[], R, rfl, rfl, h⟩
  | t :: S, S2, R, h => by
    obtain ⟨R1, R2, e, h1, h2⟩ := h
    obtain ⟨R3, R4, e2, h3, h4⟩ := TRS_app S S2 R2 h2
    exact ⟨R1 ++ R3, R4, by rw [e, e2, List.append_assoc], ⟨R1, R3, rfl, h1, h3⟩, h4⟩
theorem sp_pl_ts : ∀ b : ob_T, 0 ≤ (sp_ts ft b).2.1 → sp_pl b = true
  | .num _, h => absurd h (show ¬ (0 : Int) ≤ -1 by decide)
  | .var v, h => by
    have h : 0 ≤ (if v = 31361 then (0 : Int) else -1) := h
    by_cases e : v = 31361
    · show (v == 31361) = true
      rw [beq_iff_eq]
      exact e
    · rw [if_neg e] at h
      exact absurd h (by decide)
  | .add a b, h => by
    have h : 0 ≤ (if 1 ≤ (sp_ts ft a).1 ∧ 0 ≤ (sp_ts ft b).2.1 then (sp_ts ft a).1 + (sp_ts ft b).2.1 else -1) := h
    by_cases e : 1 ≤ (sp_ts ft a).1 ∧ 0 ≤ (sp_ts ft b).2.1
    · exact sp_pl_ts b e.2
    · rw [if_neg e] at h
      exact absurd h (by decide)
  | .sub a b, h => absurd h (show ¬ (0 : Int) ≤ -1 by decide)
  | .neg a, h => absurd h (show ¬ (0 : Int) ≤ -1 by decide)
  | .mulL k a, h => absurd h (show ¬ (0 : Int) ≤ -1 by decide)
  | .mulR a k, h => absurd h (show ¬ (0 : Int) ≤ -1 by decide)
theorem sp_ls_ts : ∀ b : ob_T, sp_pl b = true → (sp_ts ft b).2.2 = ((sp_as b).length : Int) ∧ (0 ≤ (sp_ts ft b).2.1 ↔ vlS ft (sp_as b)) ∧ (vlS ft (sp_as b) → (sp_ts ft b).2.1 = smS ft (sp_as b))
  | .var v, h => by
    have h : (v == 31361) = true := h
    rw [beq_iff_eq] at h
    have e : (sp_ts ft (.var v)).2.1 = 0 := if_pos h
    refine ⟨rfl, ?_, fun _ => e⟩
    rw [e]
    exact ⟨fun _ x hx => absurd hx List.not_mem_nil, fun _ => Int.le_refl _⟩
  | .add a b, h => by
    have i := sp_ls_ts b h
    have ea : sp_as (.add a b) = a :: sp_as b := rfl
    have e1 : (sp_ts ft (.add a b)).2.1 = if 1 ≤ (sp_ts ft a).1 ∧ 0 ≤ (sp_ts ft b).2.1 then (sp_ts ft a).1 + (sp_ts ft b).2.1 else -1 := rfl
    have e2 : (sp_ts ft (.add a b)).2.2 = 1 + (sp_ts ft b).2.2 := rfl
    rw [ea, e1, e2, vlS_cons]
    refine ⟨by rw [i.1, List.length_cons]; omega, ?_, ?_⟩
    · rw [← i.2.1]
      constructor
      · intro q
        by_cases c : 1 ≤ (sp_ts ft a).1 ∧ 0 ≤ (sp_ts ft b).2.1
        · exact c
        · rw [if_neg c] at q
          exact absurd q (by decide)
      · intro q
        rw [if_pos q]
        omega
    · intro q
      have i3 := i.2.2 q.2
      have i2 := i.2.1.mpr q.2
      rw [if_pos ⟨q.1, i2⟩, i3]
      rfl
  | .num _, h => by cases h
  | .sub a b, h => by cases h
  | .neg a, h => by cases h
  | .mulL k a, h => by cases h
  | .mulR a k, h => by cases h
theorem TRL_nf : ∀ (b : ob_T) (R : List Int), sp_pl b = true → TRS N U ft R (sp_as b) → TRL N U ft R (sp_nf b).2 ∧ (sp_ts ft (sp_nf b).2).2.2 = ((sp_as b).length : Int)
  | .var v, R, h, hR => by
    have h : (v == 31361) = true := h
    rw [beq_iff_eq] at h
    have hR : R = [] := hR
    exact ⟨⟨h, hR⟩, rfl⟩
  | .add a b, R, h, hR => by
    obtain ⟨R1, R2, e, h1, h2⟩ := hR
    have i := TRL_nf b R2 h h2
    refine ⟨⟨R1, R2, e, h1, i.1⟩, ?_⟩
    show 1 + (sp_ts ft (sp_nf b).2).2.2 = (((sp_as b).length + 1 : Nat) : Int)
    rw [i.2]
    omega
  | .num _, R, h, _ => by cases h
  | .sub a b, R, h, _ => by cases h
  | .neg a, R, h, _ => by cases h
  | .mulL k a, R, h, _ => by cases h
  | .mulR a k, R, h, _ => by cases h
def RIV (N : Int → Int) (U : Int) (ft : Nat → Int) (T0 : ob_T) (L : List Int) (S : List ob_T) : Prop := (1 ≤ (sp_ts ft T0).1 ↔ vlS ft S) ∧ (vlS ft S → (sp_ts ft T0).1 = L.length + smS ft S) ∧ ∀ R : List Int, TRS N U ft R S → TRT N U ft (L ++ R) (sp_nf T0).1
variable {T0 t : ob_T} {L : List Int} {S : List ob_T} {y : Int}
theorem RIV_0 : RIV N U ft T0 [] [T0] := by
  refine ⟨?_, fun _ => ?_, fun R h => ?_⟩
  · rw [vlS_cons]
    exact ⟨fun q => ⟨q, fun x hx => absurd hx List.not_mem_nil⟩, fun q => q.1⟩
  · show (sp_ts ft T0).1 = ((0 : Nat) : Int) + ((sp_ts ft T0).1 + 0)
    omega
  · obtain ⟨R1, R2, e, h1, h2⟩ := h
    have h2 : R2 = [] := h2
    rw [e, h2, List.append_nil]
    exact h1
theorem RIV_leaf (h : RIV N U ft T0 L (t :: S)) (e : (sp_ts ft t).1 = 1) (hy : TRT N U ft [y] (sp_nf t).1) : RIV N U ft T0 (L ++ [y]) S := by
  obtain ⟨h1, h2, h3⟩ := h
  have v : vlS ft (t :: S) ↔ vlS ft S := by
    rw [vlS_cons]
    exact ⟨fun q => q.2, fun q => ⟨by omega, q⟩⟩
  refine ⟨h1.trans v, fun q => ?_, fun R hR => ?_⟩
  · have := h2 (v.mpr q)
    rw [this, List.length_append]
    show (L.length : Int) + ((sp_ts ft t).1 + smS ft S) = ((L.length + 1 : Nat) : Int) + smS ft S
    omega
  · have := h3 ([y] ++ R) ⟨[y], R, rfl, hy, hR⟩
    rw [List.append_assoc]
    exact this
theorem RIV_call {v : Nat} {b : ob_T} (h : RIV N U ft T0 L (.add (.var v) b :: S)) (nq : sp_isq (.var v) = false) (e : ft v = y) (y0 : 0 ≤ y) (pl : sp_pl b = true) (ln : ((sp_as b).length : Int) = y / 4 % 8) : RIV N U ft T0 (L ++ [y]) (sp_as b ++ S) := by
  obtain ⟨h1, h2, h3⟩ := h
  have ar : sp_arT ft (.var v) = y / 4 % 8 := by
    show (if ft v < 0 then -1 else ft v / 4 % 8) = _
    rw [e, if_neg (by omega)]
  obtain ⟨b1, b2, b3⟩ := sp_ls_ts (ft := ft) b pl
  have ts : (sp_ts ft (.add (.var v) b)).1 = if 0 ≤ (sp_ts ft b).2.1 then 1 + (sp_ts ft b).2.1 else 0 := by
    show (if sp_isq (.var v) = true then (if sp_one b = true then 1 else 0) else if 0 ≤ (sp_ts ft b).2.1 ∧ (sp_ts ft b).2.2 = sp_arT ft (.var v) then 1 + (sp_ts ft b).2.1 else 0) = _
    rw [if_neg (by rw [nq]; decide)]
    by_cases c : 0 ≤ (sp_ts ft b).2.1
    · rw [if_pos ⟨c, by rw [b1, ar, ln]⟩, if_pos c]
    · rw [if_neg (fun q => c q.1), if_neg c]
  have v9 : vlS ft (.add (.var v) b :: S) ↔ vlS ft (sp_as b ++ S) := by
    rw [vlS_cons, vlS_app, ← b2, ts]
    constructor
    · intro q
      refine ⟨?_, q.2⟩
      by_cases c : 0 ≤ (sp_ts ft b).2.1
      · exact c
      · have q1 := q.1
        rw [if_neg c] at q1
        exact absurd q1 (by decide)
    · intro q
      rw [if_pos q.1]
      exact ⟨by omega, q.2⟩
  refine ⟨h1.trans v9, fun q => ?_, fun R hR => ?_⟩
  · have q2 := h2 (v9.mpr q)
    have q3 := (vlS_app.mp q).1
    rw [q2, smS_app, List.length_append, ← b3 q3]
    show (L.length : Int) + ((sp_ts ft (.add (.var v) b)).1 + smS ft S) = ((L.length + 1 : Nat) : Int) + ((sp_ts ft b).2.1 + smS ft S)
    rw [ts, if_pos (b2.mpr q3)]
    omega
  · obtain ⟨R1, R2, eR, r1, r2⟩ := TRS_app _ _ _ hR
    have nl := TRL_nf b R1 pl r1
    have nf : (sp_nf (.add (.var v) b)).1 = .add (.var v) (sp_nf b).2 := by
      show (if sp_isq (.var v) = true then (if sp_ba (sp_fst b) = true then sp_fst b else .add (.var v) b) else .add (.var v) (sp_nf b).2) = _
      rw [if_neg (by rw [nq]; decide)]
    have q := h3 ((y :: R1) ++ R2) ⟨y :: R1, R2, rfl, by
      rw [nf]
      exact Or.inr ⟨v, R1, rfl, nq, by omega, by rw [e], nl.1, by rw [nl.2, e]; exact ln⟩, r2⟩
    rw [eR, List.append_assoc]
    exact q
theorem RIV_bad (h : RIV N U ft T0 L (t :: S)) (e : (sp_ts ft t).1 = 0) : ¬ 1 ≤ (sp_ts ft T0).1 := by
  intro q
  have := (vlS_cons.mp (h.1.mp q)).1
  omega
theorem RIV_big (h : RIV N U ft T0 L S) (ne : S ≠ []) (l : 120 ≤ L.length) : ¬ (1 ≤ (sp_ts ft T0).1 ∧ (sp_ts ft T0).1 ≤ 120) := by
  intro q
  have v := h.1.mp q.1
  have e := h.2.1 v
  have s := smS_nn S v
  have : 0 < S.length := List.length_pos_iff.mpr ne
  omega
theorem RIV_end (h : RIV N U ft T0 L []) : (sp_ts ft T0).1 = L.length ∧ TRT N U ft L (sp_nf T0).1 := by
  have v : vlS ft [] := fun x hx => absurd hx List.not_mem_nil
  have e := h.2.1 v
  have t := h.2.2 [] rfl
  rw [List.append_nil] at t
  refine ⟨?_, t⟩
  rw [e]
  show (L.length : Int) + 0 = _
  omega
end RDS
