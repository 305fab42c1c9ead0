section INDA
variable {N : Int → Int} {U : Int} {ft : Nat → Int}
theorem TRS_VRG : ∀ {S : List ob_T} {R : List Int}, (∀ x ∈ S, sp_iv x = true) → TRS N U ft R S → VRG N U R (S.map sp_hc) ∧ (∀ f1 : Nat → Int, TRO N U f1 (R.map (fun x => [x])) S) ∧ R.length = S.length
  | [], R, _, h => by
    have h : R = [] := h
    rw [h]
    exact ⟨trivial, fun _ => trivial, rfl⟩
  | x :: S, R, hv, h => by
    obtain ⟨R1, R2, e, h1, h2⟩ := h
    obtain ⟨v, ev, v1, v2⟩ := sp_iv_e (hv x (List.mem_cons_self ..))
    rw [ev] at h1
    obtain ⟨k, k0, k1, k2⟩ := TRT_var.mp h1
    have e1 : sp_vt v k = k * 32 := by
      unfold sp_vt
      exact if_neg (by omega)
    have ih := TRS_VRG (fun y hy => hv y (List.mem_cons_of_mem _ hy)) h2
    rw [e, k2, e1, ev]
    refine ⟨⟨⟨k, k0, k1, rfl, v1, v2⟩, ih.1⟩, fun f1 => ⟨?_, ih.2.1 f1⟩, ?_⟩
    · exact TRT_var.mpr ⟨k, k0, k1, by rw [e1]⟩
    · show R2.length + 1 = S.length + 1
      rw [ih.2.2]
theorem cc_mem (hI : HI ft) {fn : Nat} {x : Int} (ef : ft fn = x) (x0 : 0 ≤ x) : ∀ (t : ob_T), (∀ R : List Int, TRT N U ft R t → (x ∈ R ↔ (sp_cc fn t).1 ≠ [])) ∧ (∀ R : List Int, TRL N U ft R t → (x ∈ R ↔ (sp_cc fn t).2 ≠ [])) := by
  have x2 : x % 4 = 2 := by
    rw [← ef]
    exact hI.1 fn (by rw [ef]; exact x0)
  have lf : ∀ k : Int, ¬ x ∈ [k * 32 + 1] := by
    intro k q
    have := List.mem_singleton.mp q
    omega
  intro t
  induction t with
  | num n =>
    refine ⟨fun R h => ?_, fun R h => absurd h id⟩
    obtain ⟨k, -, -, k3⟩ := h
    rw [k3]
    exact ⟨fun q => absurd q (lf k), fun q => absurd rfl q⟩
  | var v =>
    refine ⟨fun R h => ?_, fun R h => ?_⟩
    · obtain ⟨k, -, -, k3⟩ := h
      rw [k3]
      refine ⟨fun q => absurd (List.mem_singleton.mp q) ?_, fun q => absurd rfl q⟩
      unfold sp_vt
      split <;> omega
    · rw [h.2]
      exact ⟨fun q => absurd q List.not_mem_nil, fun q => absurd rfl q⟩
  | add a b ia ib =>
    refine ⟨fun R h => ?_, fun R h => ?_⟩
    · show x ∈ R ↔ (if sp_isq a = true then [] else (if sp_ish fn a = true then [b] else []) ++ (sp_cc fn b).2) ≠ []
      rcases h with ⟨h1, h2, h3, k, k1, k2, k3⟩ | ⟨v, L2, h1, h2, h3, h4, h5, h6⟩
      · rw [k3, if_pos h1]
        exact ⟨fun q => absurd q (lf k), fun q => absurd rfl q⟩
      · rw [if_neg (by rw [h2]; decide), h4, List.mem_cons, ib.2 L2 h5, h1]
        have q : x = ft v ↔ sp_ish fn (.var v) = true := by
          constructor
          · intro q
            rw [hI.2.1 v fn h3 (by rw [← q, ef])]
            show (fn == fn) = true
            exact beq_self_eq_true fn
          · intro q
            have q : (v == fn) = true := q
            rw [beq_iff_eq] at q
            rw [q, ef]
        rw [q]
        by_cases c : sp_ish fn (.var v) = true
        · rw [if_pos c]
          exact ⟨fun _ w => (by cases w), fun _ => Or.inl c⟩
        · rw [if_neg c, List.nil_append]
          exact ⟨fun w => w.resolve_left c, fun w => Or.inr w⟩
    · obtain ⟨L1, L2, h1, h2, h3⟩ := h
      show x ∈ R ↔ (sp_cc fn a).1 ++ (sp_cc fn b).2 ≠ []
      rw [h1, List.mem_append, ia.1 L1 h2, ib.2 L2 h3]
      constructor
      · intro w q
        have q := List.append_eq_nil_iff.mp q
        exact w.elim (fun w => w q.1) (fun w => w q.2)
      · intro w
        by_cases c : (sp_cc fn a).1 = []
        · refine Or.inr (fun q => w ?_)
          rw [c, q]
          rfl
        · exact Or.inl c
  | sub a b _ _ => exact ⟨fun R h => absurd h id, fun R h => absurd h id⟩
  | neg a _ => exact ⟨fun R h => absurd h id, fun R h => absurd h id⟩
  | mulL k a _ => exact ⟨fun R h => absurd h id, fun R h => absurd h id⟩
  | mulR a k _ => exact ⟨fun R h => absurd h id, fun R h => absurd h id⟩
theorem TRO_el : ∀ {Z : List (List Int)} {D : List ob_T}, TRO N U ft Z D → ∀ t ∈ D, ∃ r ∈ Z, TRT N U ft r t
  | [], [], _, t, ht => absurd ht List.not_mem_nil
  | [], _ :: _, h, _, _ => absurd h id
  | _ :: _, [], h, _, _ => absurd h id
  | r :: Z, t1 :: D, h, t, ht => by
    rcases List.mem_cons.mp ht with q | q
    · rw [q]
      exact ⟨r, List.mem_cons_self .., h.1⟩
    · obtain ⟨r1, a, b⟩ := TRO_el (Z := Z) (D := D) h.2 t q
      exact ⟨r1, List.mem_cons_of_mem _ a, b⟩
theorem TRO_el2 : ∀ {Z : List (List Int)} {D : List ob_T}, TRO N U ft Z D → ∀ r ∈ Z, ∃ t ∈ D, TRT N U ft r t
  | [], [], _, t, ht => absurd ht List.not_mem_nil
  | [], _ :: _, h, _, _ => absurd h id
  | _ :: _, [], h, _, _ => absurd h id
  | r1 :: Z, t1 :: D, h, r, ht => by
    rcases List.mem_cons.mp ht with q | q
    · rw [q]
      exact ⟨t1, List.mem_cons_self .., h.1⟩
    · obtain ⟨t, a, b⟩ := TRO_el2 (Z := Z) (D := D) h.2 r q
      exact ⟨t, List.mem_cons_of_mem _ a, b⟩
theorem TRO_sub (hD : HD N U) (hI : HI ft) {Z Z2 : List (List Int)} {D D2 : List ob_T} (h : TRO N U ft Z D) (h2 : TRO N U ft Z2 D2) : (∀ r ∈ Z, r ∈ Z2) ↔ (∀ t ∈ D, t ∈ D2) := by
  constructor
  · intro w t ht
    obtain ⟨r, a, b⟩ := TRO_el h t ht
    exact (TRO_mem hD hI b _ _ h2).mp (w r a)
  · intro w r hr
    obtain ⟨t, a, b⟩ := TRO_el2 h r hr
    exact (TRO_mem hD hI b _ _ h2).mpr (w t a)
end INDA
section SQS
variable {f : ob_T → Int → Option (List ob_T × Int)} {g : ob_T → Int → Int}
theorem sp_sq_app : ∀ {A : List ob_T} {st : Int} {Q : List (List ob_T)} {s1 : Int} (_ : sp_sq f A st = some (Q, s1)) (B : List ob_T), sp_sq f (A ++ B) st = (sp_sq f B s1).map (fun q => (Q ++ q.1, q.2))
  | [], st, Q, s1, h, B => by
    injection h with h
    injection h with h1 h2
    rw [← h1, ← h2]
    show sp_sq f B st = _
    cases sp_sq f B st <;> rfl
  | x :: A, st, Q, s1, h, B => by
    have h : (f x st).bind (fun p => (sp_sq f A p.2).map (fun q => (p.1 :: q.1, q.2))) = some (Q, s1) := h
    show (f x st).bind (fun p => (sp_sq f (A ++ B) p.2).map (fun q => (p.1 :: q.1, q.2))) = _
    match hf : f x st, h with
    | some p, h =>
      have h : (sp_sq f A p.2).map (fun q => (p.1 :: q.1, q.2)) = some (Q, s1) := h
      show (sp_sq f (A ++ B) p.2).map (fun q => (p.1 :: q.1, q.2)) = _
      match hq : sp_sq f A p.2, h with
      | some q, h =>
        injection h with h
        injection h with h1 h2
        rw [sp_sq_app (Q := q.1) (s1 := q.2) hq B, ← h1, ← h2]
        cases sp_sq f B q.2 <;> rfl
theorem sp_sg_app : ∀ {A : List ob_T} {st : Int} {Q : List (List ob_T)} {s1 : Int} (_ : sp_sq f A st = some (Q, s1)) (B : List ob_T), sp_sg f g (A ++ B) st = sp_sg f g B s1
  | [], st, Q, s1, h, B => by
    injection h with h
    injection h with h1 h2
    rw [← h2]
    rfl
  | x :: A, st, Q, s1, h, B => by
    have h : (f x st).bind (fun p => (sp_sq f A p.2).map (fun q => (p.1 :: q.1, q.2))) = some (Q, s1) := h
    match hf : f x st, h with
    | some p, h =>
      have h : (sp_sq f A p.2).map (fun q => (p.1 :: q.1, q.2)) = some (Q, s1) := h
      rw [List.cons_append, sp_sg_s (D := p.1) (s1 := p.2) hf]
      match hq : sp_sq f A p.2, h with
      | some q, h =>
        injection h with h
        injection h with h1 h2
        rw [sp_sg_app (Q := q.1) (s1 := q.2) hq B, ← h2]
theorem sp_sq_one {A : List ob_T} {st : Int} {Q : List (List ob_T)} {s1 s2 : Int} {y : ob_T} {D : List ob_T} (h : sp_sq f A st = some (Q, s1)) (hy : f y s1 = some (D, s2)) : sp_sq f (A ++ [y]) st = some (Q ++ [D], s2) := by
  rw [sp_sq_app h]
  show ((f y s1).bind (fun p => (some (([] : List (List ob_T)), p.2)).map (fun q => (p.1 :: q.1, q.2)))).map _ = _
  rw [hy]
  rfl
theorem sp_sq_none {A B : List ob_T} {st : Int} {Q : List (List ob_T)} {s1 : Int} {y : ob_T} (h : sp_sq f A st = some (Q, s1)) (hy : f y s1 = none) : sp_sq f (A ++ y :: B) st = none := by
  rw [sp_sq_app h]
  show ((f y s1).bind _).map _ = _
  rw [hy]
  rfl
end SQS
def sp_oi (fn : Nat) (Vs : List Nat) (F B : ob_T) (Q : List (List ob_T)) (k : Nat) : Prop := ∃ (p : List (Bool × ob_T) × ob_T) (D P : List ob_T), (sp_ph B)[k]? = some p ∧ sp_cz (sp_du fn Vs F p) = some D ∧ Q[k]? = some P ∧ ∀ t ∈ P, t ∈ D
def sp_cD (fn : Nat × List Nat × ob_T) (x : ob_T) : Prop := sp_pl (sp_p 2 x) = true ∧ sp_vs 6 (sp_cd (sp_p 2 x)) ∧ (sp_cc fn.1 fn.2.2).1 ≠ [] ∧ (sp_as (sp_cd (sp_p 2 x))).length = fn.2.1.length ∧ (sp_as x).length = (sp_ph fn.2.2).length + 3
theorem sp_ind_p {ft : Nat → Int} {FB : List (Nat × List Nat × ob_T)} {x F : ob_T} {fn : Nat × List Nat × ob_T} (f : ob_T → Int → Option (List ob_T × Int)) (st : Int) (hF : sp_tm ft (sp_p 1 x) = some F) (hf : sp_fb FB (sp_p 0 (sp_p 2 x)) = some fn) (hc : sp_cD fn x) : sp_fd ft FB x ∧ sp_ind ft FB f x st = (sp_sq f ((sp_as x).drop 3) st).bind (fun Q => (sp_opO (sp_in fn.2.1 (sp_as (sp_cd (sp_p 2 x))) fn.2.2).1).bind (fun B => ifc (∀ k : Nat, k < (sp_ph fn.2.2).length → sp_oi fn.1 ((sp_as (sp_cd (sp_p 2 x))).map sp_hc) F B Q.1 k) (sp_cs2 (sp_cz [some F]) Q.2) none)) := by
  refine ⟨⟨(fun w => by rw [hF] at w; cases w), fn, hf, hc⟩, ?_⟩
  unfold sp_ind
  rw [hF, Option.bind_some, hf, Option.bind_some]
  exact ifc_pos hc
theorem sp_ind_n {ft : Nat → Int} {FB : List (Nat × List Nat × ob_T)} {x : ob_T} (f : ob_T → Int → Option (List ob_T × Int)) (st : Int) (h : ¬ sp_fd ft FB x) : sp_ind ft FB f x st = none := by
  unfold sp_ind
  cases hF : sp_tm ft (sp_p 1 x) with
  | none => rfl
  | some F =>
    rw [Option.bind_some]
    cases hf : sp_fb FB (sp_p 0 (sp_p 2 x)) with
    | none => rfl
    | some fn =>
      rw [Option.bind_some, ifc_neg]
      intro w
      exact h ⟨(fun q => by rw [hF] at q; cases q), fn, hf, w⟩
