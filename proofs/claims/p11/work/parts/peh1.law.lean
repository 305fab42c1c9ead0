def sp_nn (fn : Nat) : ob_T → Prop × Prop
  | .add a b => (sp_isq a = true ∨ ((sp_ish fn a = true → (sp_cc fn b).2 = []) ∧ (sp_nn fn b).2), (sp_nn fn a).1 ∧ (sp_nn fn b).2)
  | _ => (True, True)
def LAWr (n : Int) (f : Int → Int) (x : Int) (p e : Nat) : Prop := ∀ k : Nat, p ≤ k → k < e → f (k : Int) = x → ∀ j : Int, (k : Int) < j → j < bh n f (k : Int) → f j ≠ x
def sp_to (fn : Nat) (t : ob_T) : Prop := ∀ p ∈ sp_ph t, ∀ r ∈ p.1, (sp_cc fn r.2).1 = []
section LWR
variable {N : Int → Int} {U : Int} {ft : Nat → Int} {n : Int} {f : Int → Int} {fn : Nat} {x : Int}
theorem rg_mem {p : Nat} {R X : List Int} (e : (rl n f).drop p = R ++ X) : x ∈ R ↔ ∃ j : Nat, p ≤ j ∧ j < p + R.length ∧ f (j : Int) = x := by
  have g : ∀ i : Nat, i < R.length → R[i]? = some (f ((p + i : Nat) : Int)) := by
    intro i hi
    have q : ((rl n f).drop p)[i]? = R[i]? := by rw [e, List.getElem?_append_left hi]
    rw [← q, List.getElem?_drop]
    have lt : p + i < (rl n f).length := by
      have l := congrArg List.length e
      rw [List.length_drop, List.length_append] at l
      omega
    rw [rl_len] at lt
    exact rl_get (by omega)
  constructor
  · intro h
    obtain ⟨i, hi⟩ := List.getElem?_of_mem h
    have li := (List.getElem?_eq_some_iff.mp hi).1
    rw [g i li] at hi
    injection hi with hi
    exact ⟨p + i, by omega, by omega, hi⟩
  · rintro ⟨j, j0, j1, j2⟩
    have := g (j - p) (by omega)
    rw [show p + (j - p) = j by omega, j2] at this
    exact List.mem_of_getElem? this
theorem drop_c {p : Nat} {y : Int} {R X : List Int} (e : (rl n f).drop p = (y :: R) ++ X) : (rl n f).drop (p + 1) = R ++ X := by
  rw [← List.drop_drop, e]
  rfl
theorem drop_a {p : Nat} {R1 R2 X : List Int} (e : (rl n f).drop p = (R1 ++ R2) ++ X) : (rl n f).drop (p + R1.length) = R2 ++ X := by
  rw [← List.drop_drop, e, List.append_assoc, List.drop_left' rfl]
theorem nn_row (hW : WFT n f) (hI : HI ft) (ef : ft fn = x) (x0 : 0 ≤ x) : ∀ (t : ob_T), (∀ (p : Nat) (R : List Int), TRA N U ft n f p R t → (LAWr n f x p (p + R.length) ↔ (sp_nn fn t).1)) ∧ (∀ (p : Nat) (R X : List Int), (rl n f).drop p = R ++ X → TRL N U ft R t → (LAWr n f x p (p + R.length) ↔ (sp_nn fn t).2)) := by
  have x2 : x % 4 = 2 := by
    rw [← ef]
    exact hI.1 fn (by rw [ef]; exact x0)
  have leaf : ∀ (p : Nat) (y : Int) (t : ob_T), TRA N U ft n f p [y] t → y % 4 ≠ 2 → LAWr n f x p (p + [y].length) := by
    intro p y t h hy k k0 k1 e
    have k1 : k < p + 1 := k1
    have : k = p := by omega
    rw [this, TRA_hd h] at e
    omega
  intro t
  induction t with
  | num m =>
    refine ⟨fun p R h => ?_, fun p R X e h => absurd h id⟩
    obtain ⟨k, -, -, k3⟩ := h.2
    rw [k3] at h ⊢
    exact ⟨fun _ => trivial, fun _ => leaf p _ _ h (by omega)⟩
  | var v =>
    refine ⟨fun p R h => ?_, fun p R X e h => ?_⟩
    · obtain ⟨k, -, -, k3⟩ := h.2
      rw [k3] at h ⊢
      exact ⟨fun _ => trivial, fun _ => leaf p _ _ h (by unfold sp_vt; split <;> omega)⟩
    · rw [h.2]
      exact ⟨fun _ => trivial, fun _ k k0 k1 => absurd k1 (by show ¬ k < p + 0; omega)⟩
  | add a b ia ib =>
    refine ⟨fun p R h => ?_, fun p R X e h => ?_⟩
    · show _ ↔ sp_isq a = true ∨ ((sp_ish fn a = true → (sp_cc fn b).2 = []) ∧ (sp_nn fn b).2)
      rcases id h.2 with ⟨h1, h2, h3, k, k1, k2, k3⟩ | ⟨v, L2, h1, h2, h3, h4, h5, h6⟩
      · rw [k3] at h ⊢
        exact ⟨fun _ => Or.inl h1, fun _ => leaf p _ _ h (by omega)⟩
      · obtain ⟨⟨X, eX⟩, hT⟩ := id h
        have lt := TRA_lt h
        have bp1 := TRA_bp hW h
        have bh1 := (bp_W hW (p := p) (by omega)).1
        rw [h4] at eX h lt bp1 ⊢
        have hd := TRA_hd h
        have e2 := drop_c eX
        have ih := ib.2 (p + 1) L2 X e2 h5
        have mem := (cc_mem hI ef x0 b).2 L2 h5
        rw [rg_mem e2] at mem
        rw [List.length_cons] at bp1 ⊢
        rw [h2]
        constructor
        · intro w
          refine Or.inr ⟨fun q => ?_, ih.mp (fun k k0 k1 => w k (by omega) (by omega))⟩
          rw [h1] at q
          have q : (v == fn) = true := q
          rw [beq_iff_eq] at q
          rw [q, ef] at hd
          have w0 := w p (Nat.le_refl _) (by omega) hd
          by_cases c : (sp_cc fn b).2 = []
          · exact c
          · obtain ⟨j, j0, j1, j2⟩ := mem.mpr c
            exact absurd j2 (w0 j (by omega) (by omega))
        · intro w
          obtain ⟨w1, w2⟩ := w.resolve_left (by decide)
          have w2 := ih.mpr w2
          intro k k0 k1 e j j0 j1
          by_cases ck : k = p
          · rw [ck] at e j0 j1
            rw [hd] at e
            have ev := hI.2.1 v fn h3 (by rw [e, ef])
            have c := w1 (by rw [h1, ev]; show (fn == fn) = true; exact beq_self_eq_true fn)
            intro w3
            refine mem.mp ⟨j.toNat, by omega, by omega, ?_⟩ c
            rw [show ((j.toNat : Nat) : Int) = j by omega]
            exact w3
          · exact w2 k (by omega) (by omega) e j j0 j1
    · obtain ⟨L1, L2, h1, h2, h3⟩ := h
      show _ ↔ (sp_nn fn a).1 ∧ (sp_nn fn b).2
      rw [h1] at e ⊢
      have ta : TRA N U ft n f p L1 a := ⟨⟨L2 ++ X, by rw [e, List.append_assoc]⟩, h2⟩
      rw [← ia.1 p L1 ta, ← ib.2 (p + L1.length) L2 X (drop_a e) h3, List.length_append]
      constructor
      · intro w
        exact ⟨fun k k0 k1 => w k k0 (by omega), fun k k0 k1 => w k (by omega) (by omega)⟩
      · intro w k k0 k1
        by_cases c : k < p + L1.length
        · exact w.1 k k0 c
        · exact w.2 k (by omega) (by omega)
  | sub a b _ _ => exact ⟨fun p R h => absurd h.2 id, fun p R X e h => absurd h id⟩
  | neg a _ => exact ⟨fun p R h => absurd h.2 id, fun p R X e h => absurd h id⟩
  | mulL k a _ => exact ⟨fun p R h => absurd h.2 id, fun p R X e h => absurd h id⟩
  | mulR a k _ => exact ⟨fun p R h => absurd h.2 id, fun p R X e h => absurd h id⟩
theorem nn_0 : ∀ (t : ob_T), ((sp_cc fn t).1 = [] → (sp_nn fn t).1) ∧ ((sp_cc fn t).2 = [] → (sp_nn fn t).2) := by
  intro t
  induction t with
  | add a b ia ib =>
    refine ⟨fun h => ?_, fun h => ?_⟩
    · show sp_isq a = true ∨ ((sp_ish fn a = true → (sp_cc fn b).2 = []) ∧ (sp_nn fn b).2)
      have h : (if sp_isq a = true then [] else (if sp_ish fn a = true then [b] else []) ++ (sp_cc fn b).2) = [] := h
      by_cases c : sp_isq a = true
      · exact Or.inl c
      · rw [if_neg c] at h
        have h := (List.append_eq_nil_iff.mp h).2
        exact Or.inr ⟨fun _ => h, ib.2 h⟩
    · have h : (sp_cc fn a).1 ++ (sp_cc fn b).2 = [] := h
      have h := List.append_eq_nil_iff.mp h
      exact ⟨ia.1 h.1, ib.2 h.2⟩
  | num m => exact ⟨fun _ => trivial, fun _ => trivial⟩
  | var m => exact ⟨fun _ => trivial, fun _ => trivial⟩
  | sub a b _ _ => exact ⟨fun _ => trivial, fun _ => trivial⟩
  | neg a _ => exact ⟨fun _ => trivial, fun _ => trivial⟩
  | mulL k a _ => exact ⟨fun _ => trivial, fun _ => trivial⟩
  | mulR a k _ => exact ⟨fun _ => trivial, fun _ => trivial⟩
theorem cc_nn : ∀ (t : ob_T), ((∀ b ∈ (sp_cc fn t).1, (sp_cc fn b).2 = []) ↔ (sp_nn fn t).1) ∧ ((∀ b ∈ (sp_cc fn t).2, (sp_cc fn b).2 = []) ↔ (sp_nn fn t).2) := by
  have tr : ∀ P : Prop, P → (P ↔ True) := fun P h => ⟨fun _ => trivial, fun _ => h⟩
  have no : ∀ b ∈ ([] : List ob_T), (sp_cc fn b).2 = [] := fun b h => absurd h List.not_mem_nil
  intro t
  induction t with
  | add a b ia ib =>
    refine ⟨?_, ?_⟩
    · show (∀ b2 ∈ (if sp_isq a = true then [] else (if sp_ish fn a = true then [b] else []) ++ (sp_cc fn b).2), (sp_cc fn b2).2 = []) ↔ sp_isq a = true ∨ ((sp_ish fn a = true → (sp_cc fn b).2 = []) ∧ (sp_nn fn b).2)
      by_cases c : sp_isq a = true
      · rw [if_pos c]
        exact ⟨fun _ => Or.inl c, fun _ => no⟩
      · rw [if_neg c, ← ib.2]
        constructor
        · intro w
          refine Or.inr ⟨fun q => w b ?_, fun b2 h2 => w b2 (List.mem_append.mpr (Or.inr h2))⟩
          rw [if_pos q]
          exact List.mem_append.mpr (Or.inl (List.mem_cons_self ..))
        · intro w b2 h2
          obtain ⟨w1, w2⟩ := w.resolve_left c
          rcases List.mem_append.mp h2 with q | q
          · by_cases d : sp_ish fn a = true
            · rw [if_pos d] at q
              rw [List.mem_singleton.mp q]
              exact w1 d
            · rw [if_neg d] at q
              exact absurd q List.not_mem_nil
          · exact w2 b2 q
    · show (∀ b2 ∈ (sp_cc fn a).1 ++ (sp_cc fn b).2, (sp_cc fn b2).2 = []) ↔ (sp_nn fn a).1 ∧ (sp_nn fn b).2
      rw [← ia.1, ← ib.2]
      exact ⟨fun w => ⟨fun b2 h => w b2 (List.mem_append.mpr (Or.inl h)), fun b2 h => w b2 (List.mem_append.mpr (Or.inr h))⟩, fun w b2 h => (List.mem_append.mp h).elim (w.1 b2) (w.2 b2)⟩
  | num m => exact ⟨tr _ no, tr _ no⟩
  | var m => exact ⟨tr _ no, tr _ no⟩
  | sub a b _ _ => exact ⟨tr _ no, tr _ no⟩
  | neg a _ => exact ⟨tr _ no, tr _ no⟩
  | mulL k a _ => exact ⟨tr _ no, tr _ no⟩
  | mulR a k _ => exact ⟨tr _ no, tr _ no⟩
theorem sp_ph_pos (hI : HI ft) (f3 : ft 429 = 110) : ∀ (m : Nat) (R : List Int) (t : ob_T), R.length ≤ m → TRT N U ft R t → ∃ p, p ∈ sp_ph t
  | 0, R, t, hm, h => by
    have := ((TRT_len t).1 R h).2
    omega
  | m + 1, R, t, hm, h => by
    obtain ⟨y, r, er⟩ := TRT_x h
    rw [er] at h hm
    by_cases c : y = 110
    · rw [c] at h
      obtain ⟨c9, x9, y9, Rc, Rx, Ry, t1, t2, t3, t4, t5⟩ := TRT_if hI f3 h
      rw [t2, List.length_cons, List.length_append, List.length_append] at hm
      obtain ⟨p, hp⟩ := sp_ph_pos hI f3 m Rx x9 (by omega) t4
      rw [t1, sp_ph_if]
      exact ⟨_, List.mem_append.mpr (Or.inl (List.mem_map.mpr ⟨p, hp, rfl⟩))⟩
    · rw [TRT_ni hI f3 h c]
      exact ⟨_, List.mem_cons_self ..⟩
theorem to_if (hI : HI ft) (f3 : ft 429 = 110) {c x y z : ob_T} {Rx : List Int} (hx : TRT N U ft Rx x) : sp_to fn (.add (.var 429) (.add c (.add x (.add y z)))) ↔ (sp_cc fn c).1 = [] ∧ sp_to fn x ∧ sp_to fn y := by
  obtain ⟨p0, hp0⟩ := sp_ph_pos hI f3 Rx.length Rx x (Nat.le_refl _) hx
  unfold sp_to
  rw [sp_ph_if]
  constructor
  · intro w
    refine ⟨?_, fun p hp r hr => ?_, fun p hp r hr => ?_⟩
    · exact w _ (List.mem_append.mpr (Or.inl (List.mem_map.mpr ⟨p0, hp0, rfl⟩))) (true, c) (List.mem_cons_self ..)
    · exact w _ (List.mem_append.mpr (Or.inl (List.mem_map.mpr ⟨p, hp, rfl⟩))) r (List.mem_cons_of_mem _ hr)
    · exact w _ (List.mem_append.mpr (Or.inr (List.mem_map.mpr ⟨p, hp, rfl⟩))) r (List.mem_cons_of_mem _ hr)
  · rintro ⟨w1, w2, w3⟩ p hp r hr
    rcases List.mem_append.mp hp with q | q
    · obtain ⟨p1, h1, e⟩ := List.mem_map.mp q
      rw [← e] at hr
      rcases List.mem_cons.mp hr with q2 | q2
      · rw [q2]
        exact w1
      · exact w2 p1 h1 r q2
    · obtain ⟨p1, h1, e⟩ := List.mem_map.mp q
      rw [← e] at hr
      rcases List.mem_cons.mp hr with q2 | q2
      · rw [q2]
        exact w1
      · exact w3 p1 h1 r q2
theorem lw_if {c x y z : ob_T} : sp_lw fn (.add (.var 429) (.add c (.add x (.add y z)))) → sp_lw fn x ∧ sp_lw fn y := by
  unfold sp_lw
  rw [sp_ph_if]
  intro w
  refine ⟨fun p hp => ?_, fun p hp => ?_⟩
  · have := w _ (List.mem_append.mpr (Or.inl (List.mem_map.mpr ⟨p, hp, rfl⟩)))
    exact ⟨fun r hr => this.1 r (List.mem_cons_of_mem _ hr), this.2⟩
  · have := w _ (List.mem_append.mpr (Or.inr (List.mem_map.mpr ⟨p, hp, rfl⟩)))
    exact ⟨fun r hr => this.1 r (List.mem_cons_of_mem _ hr), this.2⟩
theorem lw_if2 {c x y z : ob_T} (hc : (sp_cc fn c).1 = []) (hx : sp_lw fn x) (hy : sp_lw fn y) : sp_lw fn (.add (.var 429) (.add c (.add x (.add y z)))) := by
  unfold sp_lw
  rw [sp_ph_if]
  intro p hp
  rcases List.mem_append.mp hp with q | q
  · obtain ⟨p1, h1, e⟩ := List.mem_map.mp q
    rw [← e]
    refine ⟨fun r hr => ?_, (hx p1 h1).2⟩
    rcases List.mem_cons.mp hr with q2 | q2
    · rw [q2]
      exact hc
    · exact (hx p1 h1).1 r q2
  · obtain ⟨p1, h1, e⟩ := List.mem_map.mp q
    rw [← e]
    refine ⟨fun r hr => ?_, (hy p1 h1).2⟩
    rcases List.mem_cons.mp hr with q2 | q2
    · rw [q2]
      exact hc
    · exact (hy p1 h1).1 r q2
theorem lw_split (hI : HI ft) (f3 : ft 429 = 110) (nf : fn ≠ 429) : ∀ (m : Nat) (R : List Int) (t : ob_T), R.length ≤ m → TRT N U ft R t → (sp_lw fn t ↔ sp_to fn t ∧ (sp_nn fn t).1)
  | 0, R, t, hm, h => by
    have := ((TRT_len t).1 R h).2
    omega
  | m + 1, R, t, hm, h => by
    obtain ⟨y, r, er⟩ := TRT_x h
    rw [er] at h hm
    by_cases c : y = 110
    · rw [c] at h
      obtain ⟨c9, x9, y9, Rc, Rx, Ry, t1, t2, t3, t4, t5⟩ := TRT_if hI f3 h
      rw [t2, List.length_cons, List.length_append, List.length_append] at hm
      have ix := lw_split hI f3 nf m Rx x9 (by omega) t4
      have iy := lw_split hI f3 nf m Ry y9 (by omega) t5
      rw [t1, to_if hI f3 t4]
      have nn : (sp_nn fn (.add (.var 429) (.add c9 (.add x9 (.add y9 (.var 31361)))))).1 ↔ (sp_nn fn c9).1 ∧ (sp_nn fn x9).1 ∧ (sp_nn fn y9).1 := by
        show sp_isq (.var 429) = true ∨ ((sp_ish fn (.var 429) = true → _) ∧ (sp_nn fn c9).1 ∧ (sp_nn fn x9).1 ∧ (sp_nn fn y9).1 ∧ True) ↔ _
        constructor
        · intro w
          have w := (w.resolve_left (by decide)).2
          exact ⟨w.1, w.2.1, w.2.2.1⟩
        · intro w
          refine Or.inr ⟨fun q => ?_, w.1, w.2.1, w.2.2, trivial⟩
          have q : ((429 : Nat) == fn) = true := q
          rw [beq_iff_eq] at q
          exact absurd q.symm nf
      rw [nn]
      constructor
      · intro w
        have w2 := lw_if w
        have w3 := ix.mp w2.1
        have w4 := iy.mp w2.2
        have hc : (sp_cc fn c9).1 = [] := by
          obtain ⟨p, hp⟩ := sp_ph_pos hI f3 Rx.length Rx x9 (Nat.le_refl _) t4
          have q := (w ((true, c9) :: p.1, p.2) (by rw [sp_ph_if]; exact List.mem_append.mpr (Or.inl (List.mem_map.mpr ⟨p, hp, rfl⟩)))).1 (true, c9) (List.mem_cons_self ..)
          exact q
        exact ⟨⟨hc, w3.1, w4.1⟩, (nn_0 c9).1 hc, w3.2, w4.2⟩
      · rintro ⟨⟨hc, w1, w2⟩, -, w3, w4⟩
        exact lw_if2 hc (ix.mpr ⟨w1, w3⟩) (iy.mpr ⟨w2, w4⟩)
    · unfold sp_lw sp_to
      rw [TRT_ni hI f3 h c, ← (cc_nn t).1]
      constructor
      · intro w
        refine ⟨fun p hp r hr => ?_, (w _ (List.mem_cons_self ..)).2⟩
        rw [List.mem_singleton.mp hp] at hr
        exact absurd hr List.not_mem_nil
      · intro w p hp
        rw [List.mem_singleton.mp hp]
        exact ⟨fun r hr => absurd hr List.not_mem_nil, w.2⟩
theorem SCN_ex (hW : WFT n f) (hI : HI ft) (f3 : ft 429 = 110) : ∀ (m : Nat) (R : List Int) (t : ob_T) (p : Nat), R.length ≤ m → TRA N U ft n f p R t → ∃ c : Nat, SCN n f p c (p + R.length)
  | 0, R, t, p, hm, h => by
    have := ((TRT_len t).1 R h.2).2
    omega
  | m + 1, R, t, p, hm, h => by
    obtain ⟨y, r, er⟩ := TRT_x h.2
    have lt := TRA_lt h
    have bt := TRA_bp hW h
    rw [er] at h hm lt bt ⊢
    have hd := TRA_hd h
    by_cases c : y = 110
    · rw [c] at h hd
      obtain ⟨c9, x9, y9, Rc, Rx, Ry, t1, t2, t3, t4, t5⟩ := TRT_if hI f3 h.2
      rw [t2] at h hm lt ⊢
      have sc : TRA N U ft n f (p + 1) Rc c9 := TRA_sub (R1 := [110]) (R2 := Rc) (R3 := Rx ++ Ry) h rfl t3
      have sx : TRA N U ft n f (p + (110 :: Rc).length) Rx x9 := TRA_sub (R1 := 110 :: Rc) (R2 := Rx) (R3 := Ry) h (by simp) t4
      have sy : TRA N U ft n f (p + (110 :: (Rc ++ Rx)).length) Ry y9 := TRA_sub (R1 := 110 :: (Rc ++ Rx)) (R2 := Ry) (R3 := []) h (by simp) t5
      have bc := TRA_bp hW sc
      simp only [List.length_cons, List.length_append] at hm sx sy ⊢
      obtain ⟨cx, hx⟩ := SCN_ex hW hI f3 m Rx x9 _ (by omega) sx
      obtain ⟨cy, hy⟩ := SCN_ex hW hI f3 m Ry y9 _ (by omega) sy
      refine ⟨cx + cy, SCN.iff p _ _ (by omega) hd ?_⟩
      rw [bc, show p + 1 + Rc.length = p + (Rc.length + 1) by omega]
      refine SCN_tr hx ?_
      rw [show p + (Rc.length + 1) + Rx.length = p + (Rc.length + Rx.length + 1) by omega]
      rw [show p + (Rc.length + Rx.length + 1) + Ry.length = p + (Rc.length + (Rx.length + Ry.length) + 1) by omega] at hy
      exact hy
    · refine ⟨1, SCN.fin p 0 _ (by omega) (by rw [hd]; exact c) ?_⟩
      rw [bt]
      exact SCN.nil _
theorem law1_a (hW : WFT n f) (hI : HI ft) (f3 : ft 429 = 110) (ef : ft fn = x) (x0 : 0 ≤ x) (hL : LAW1 n f x n.toNat) : ∀ (m : Nat) (R : List Int) (t : ob_T) (p e : Nat), R.length ≤ m → TRA N U ft n f p R t → SCN n f 0 e p → sp_to fn t
  | 0, R, t, p, e, hm, h, hS => by
    have := ((TRT_len t).1 R h.2).2
    omega
  | m + 1, R, t, p, e, hm, h, hS => by
    obtain ⟨y, r, er⟩ := TRT_x h.2
    have lt := TRA_lt h
    rw [er] at h hm lt
    have hd := TRA_hd h
    by_cases c : y = 110
    · rw [c] at h hd
      obtain ⟨c9, x9, y9, Rc, Rx, Ry, t1, t2, t3, t4, t5⟩ := TRT_if hI f3 h.2
      rw [t2] at h hm lt
      have sc : TRA N U ft n f (p + 1) Rc c9 := TRA_sub (R1 := [110]) (R2 := Rc) (R3 := Rx ++ Ry) h rfl t3
      have sx : TRA N U ft n f (p + (110 :: Rc).length) Rx x9 := TRA_sub (R1 := 110 :: Rc) (R2 := Rx) (R3 := Ry) h (by simp) t4
      have sy : TRA N U ft n f (p + (110 :: (Rc ++ Rx)).length) Ry y9 := TRA_sub (R1 := 110 :: (Rc ++ Rx)) (R2 := Ry) (R3 := []) h (by simp) t5
      have bc := TRA_bp hW sc
      simp only [List.length_cons, List.length_append] at hm sx sy lt
      have lc := TRA_lt sc
      have bh1 := (bp_W hW (p := p + 1) (by omega)).1
      have Sx : SCN n f 0 (e + 0) (p + (Rc.length + 1)) := SCN_tr hS (SCN.iff p 0 _ (by omega) hd (by rw [bc, show p + 1 + Rc.length = p + (Rc.length + 1) by omega]; exact SCN.nil _))
      obtain ⟨cx, hx⟩ := SCN_ex hW hI f3 Rx.length Rx x9 _ (Nat.le_refl _) sx
      have Sy : SCN n f 0 (e + 0 + cx) (p + (Rc.length + Rx.length + 1)) := by
        have q := SCN_tr Sx hx
        rw [show p + (Rc.length + 1) + Rx.length = p + (Rc.length + Rx.length + 1) by omega] at q
        exact q
      rw [t1, to_if hI f3 t4]
      refine ⟨?_, law1_a hW hI f3 ef x0 hL m Rx x9 _ _ (by omega) sx Sx, law1_a hW hI f3 ef x0 hL m Ry y9 _ _ (by omega) sy Sy⟩
      have no := hL e p hS (by omega) hd
      obtain ⟨⟨X, eX⟩, -⟩ := id sc
      have mem := (cc_mem hI ef x0 c9).1 Rc t3
      rw [rg_mem eX] at mem
      by_cases cc : (sp_cc fn c9).1 = []
      · exact cc
      · obtain ⟨j, j0, j1, j2⟩ := mem.mpr cc
        exact absurd j2 (no j (by omega) (by rw [bh1, bc]; omega))
    · intro q hq r hr
      rw [TRT_ni hI f3 h.2 c] at hq
      rw [List.mem_singleton.mp hq] at hr
      exact absurd hr List.not_mem_nil
theorem law1_b (hW : WFT n f) (hI : HI ft) (f3 : ft 429 = 110) (ef : ft fn = x) (x0 : 0 ≤ x) {x1 c y : Nat} (a : SCN n f x1 c y) : ∀ (S : List ob_T) (R : List Int), (rl n f).drop x1 = R → TRQ N U ft R S → (∀ t ∈ S, sp_to fn t) → (y : Int) < n → f (y : Int) = 110 → ∀ j : Int, (y : Int) < j → j < bh n f ((y + 1 : Nat) : Int) → f j ≠ x := by
  have tst : ∀ (p : Nat) (R1 X : List Int) (t : ob_T), (rl n f).drop p = R1 ++ X → TRT N U ft R1 t → f (p : Int) = 110 → ∃ (c9 x9 y9 : ob_T) (Rc Rx Ry : List Int), t = .add (.var 429) (.add c9 (.add x9 (.add y9 (.var 31361)))) ∧ R1 = 110 :: (Rc ++ (Rx ++ Ry)) ∧ TRT N U ft Rc c9 ∧ TRT N U ft Rx x9 ∧ TRT N U ft Ry y9 ∧ TRA N U ft n f (p + 1) Rc c9 := by
    intro p R1 X t e e2 h2
    have ta : TRA N U ft n f p R1 t := ⟨⟨X, e⟩, e2⟩
    obtain ⟨x0, r0, er⟩ := TRT_x e2
    rw [er] at ta e2
    have hx := TRA_hd ta
    rw [h2] at hx
    rw [← hx] at e2 er ta
    obtain ⟨c9, x9, y9, Rc, Rx, Ry, t1, t2, t3, t4, t5⟩ := TRT_if hI f3 e2
    exact ⟨c9, x9, y9, Rc, Rx, Ry, t1, by rw [er, t2], t3, t4, t5, TRA_sub (R1 := [110]) (R2 := Rc) (R3 := Rx ++ Ry) ta (by rw [t2]; rfl) t3⟩
  have emp : ∀ (p : Nat), (rl n f).drop p = [] → ¬ (p : Int) < n := by
    intro p e w
    have l := congrArg List.length e
    rw [List.length_drop, rl_len] at l
    have l : n.toNat - p = 0 := l
    omega
  refine a (fun x1 c y => ∀ (S : List ob_T) (R : List Int), (rl n f).drop x1 = R → TRQ N U ft R S → (∀ t ∈ S, sp_to fn t) → (y : Int) < n → f (y : Int) = 110 → ∀ j : Int, (y : Int) < j → j < bh n f ((y + 1 : Nat) : Int) → f j ≠ x) (fun p S R e h hs py pf => ?_) (fun p c y h1 h2 ih S R e h hs => ?_) (fun p c y h1 h2 ih S R e h hs => ?_)
  · match S, h with
    | [], h =>
      have h : R = [] := h
      rw [h] at e
      exact absurd py (emp p e)
    | t :: S, h =>
      obtain ⟨R1, R2, e1, e2, e3⟩ := h
      obtain ⟨c9, x9, y9, Rc, Rx, Ry, t1, t2, t3, t4, t5, sc⟩ := tst p R1 R2 t (by rw [e, e1]) e2 pf
      have st := hs t (List.mem_cons_self ..)
      rw [t1, to_if hI f3 t4] at st
      obtain ⟨⟨X, eX⟩, -⟩ := id sc
      have lc := TRA_lt sc
      have bc := TRA_bp hW sc
      have bh1 := (bp_W hW (p := p + 1) (by omega)).1
      have mem := (cc_mem hI ef x0 c9).1 Rc t3
      rw [rg_mem eX] at mem
      intro j j0 j1 w
      rw [bh1, bc] at j1
      refine mem.mp ⟨j.toNat, by omega, by omega, ?_⟩ st.1
      rw [show ((j.toNat : Nat) : Int) = j by omega]
      exact w
  · match S, h with
    | [], h =>
      have h : R = [] := h
      rw [h] at e
      exact absurd h1 (emp p e)
    | t :: S, h =>
      obtain ⟨R1, R2, e1, e2, e3⟩ := h
      obtain ⟨c9, x9, y9, Rc, Rx, Ry, t1, t2, t3, t4, t5, sc⟩ := tst p R1 R2 t (by rw [e, e1]) e2 h2
      have st := hs t (List.mem_cons_self ..)
      rw [t1, to_if hI f3 t4] at st
      have bc := TRA_bp hW sc
      have en : (rl n f).drop (bp n f (p + 1)) = Rx ++ Ry ++ R2 := by
        rw [bc, show p + 1 + Rc.length = p + (1 + Rc.length) by omega, ← List.drop_drop, e, e1, t2]
        show (110 :: (Rc ++ (Rx ++ Ry)) ++ R2).drop (1 + Rc.length) = _
        rw [show 1 + Rc.length = Rc.length + 1 by omega]
        show ((Rc ++ (Rx ++ Ry)) ++ R2).drop Rc.length = _
        rw [List.append_assoc, List.drop_left' rfl]
      refine ih (x9 :: y9 :: S) _ en ⟨Rx, Ry ++ R2, by rw [List.append_assoc], t4, Ry, R2, rfl, t5, e3⟩ (fun τ hτ => ?_)
      rcases List.mem_cons.mp hτ with q | q
      · rw [q]
        exact st.2.1
      · rcases List.mem_cons.mp q with q | q
        · rw [q]
          exact st.2.2
        · exact hs τ (List.mem_cons_of_mem _ q)
  · match S, h with
    | [], h =>
      have h : R = [] := h
      rw [h] at e
      exact absurd h1 (emp p e)
    | t :: S, h =>
      obtain ⟨R1, R2, e1, e2, e3⟩ := h
      have ta : TRA N U ft n f p R1 t := ⟨⟨R2, by rw [e, e1]⟩, e2⟩
      have bt := TRA_bp hW ta
      have en : (rl n f).drop (bp n f p) = R2 := by
        rw [bt, ← List.drop_drop, e, e1, List.drop_left' rfl]
      exact ih S R2 en e3 (fun τ hτ => hs τ (List.mem_cons_of_mem _ hτ))
theorem LAW_tr (hW : WFT n f) (hI : HI ft) (f3 : ft 429 = 110) (ef : ft fn = x) (x0 : 0 ≤ x) (nf : fn ≠ 429) {B : ob_T} (hB : TRT N U ft (rl n f) B) : (LAW n f x ∧ LAW1 n f x n.toNat) ↔ sp_lw fn B := by
  rw [lw_split hI f3 nf _ _ B (Nat.le_refl _) hB, ← (nn_row hW hI ef x0 B).1 0 _ (TRA_0 hB), rl_len]
  constructor
  · rintro ⟨h1, h2⟩
    exact ⟨law1_a hW hI f3 ef x0 h2 _ _ B 0 0 (Nat.le_refl _) (TRA_0 hB) (SCN.nil _), fun k k0 k1 => h1 k (by omega)⟩
  · rintro ⟨h1, h2⟩
    refine ⟨fun k k1 => h2 k (by omega) (by omega), fun e t hS ht h110 => ?_⟩
    exact law1_b hW hI f3 ef x0 hS [B] (rl n f) rfl ⟨rl n f, [], by rw [List.append_nil], hB, rfl⟩ (fun τ hτ => by rw [List.mem_singleton.mp hτ]; exact h1) (by omega) h110
theorem OV_tr (hD : HD N U) (hI : HI ft) {G : List Int} {ps : List Nat} (hG : VRG N U G ps) : ∀ (t : ob_T), (∀ R : List Int, TRT N U ft R t → ((∀ y ∈ R, y % 4 = 0 → y ∈ G) ↔ (sp_ov ps t).1)) ∧ (∀ R : List Int, TRL N U ft R t → ((∀ y ∈ R, y % 4 = 0 → y ∈ G) ↔ (sp_ov ps t).2)) := by
  have tr : ∀ P : Prop, P → (P ↔ True) := fun P h => ⟨fun _ => trivial, fun _ => h⟩
  have one : ∀ y : Int, y % 4 ≠ 0 → ∀ w ∈ [y], w % 4 = 0 → w ∈ G := by
    intro y hy w hw h0
    rw [List.mem_singleton.mp hw] at h0
    exact absurd h0 hy
  intro t
  induction t with
  | num m =>
    refine ⟨fun R h => ?_, fun R h => absurd h id⟩
    obtain ⟨k, -, -, k3⟩ := h
    rw [k3]
    exact tr _ (one _ (by omega))
  | var v =>
    refine ⟨fun R h => ?_, fun R h => ?_⟩
    · obtain ⟨k, k1, k2, k3⟩ := h
      rw [k3]
      show _ ↔ v = 31361 ∨ v = 20 ∨ v ∈ ps
      by_cases c : v = 31361 ∨ v = 20
      · have e : sp_vt v k = k * 32 + 1 := if_pos c
        rw [e]
        exact ⟨fun _ => c.elim Or.inl (fun q => Or.inr (Or.inl q)), fun _ => one _ (by omega)⟩
      · have e : sp_vt v k = k * 32 := if_neg c
        rw [e]
        have m := VRG_mem hD k1 k2 hG
        constructor
        · intro w
          exact Or.inr (Or.inr (m.mp (w _ (List.mem_cons_self ..) (by omega))))
        · intro w y hy _
          rw [List.mem_singleton.mp hy]
          refine m.mpr ?_
          rcases w with w | w | w
          · exact absurd (Or.inl w) c
          · exact absurd (Or.inr w) c
          · exact w
    · rw [h.2]
      exact tr _ (fun y hy => absurd hy List.not_mem_nil)
  | add a b ia ib =>
    refine ⟨fun R h => ?_, fun R h => ?_⟩
    · show _ ↔ sp_isq a = true ∨ (sp_ov ps b).2
      rcases h with ⟨h1, h2, h3, k, k1, k2, k3⟩ | ⟨v, L2, h1, h2, h3, h4, h5, h6⟩
      · rw [k3]
        exact ⟨fun _ => Or.inl h1, fun _ => one _ (by omega)⟩
      · have m2 := hI.1 v h3
        rw [h4, ← ib.2 L2 h5]
        constructor
        · intro w
          exact Or.inr (fun y hy => w y (List.mem_cons_of_mem _ hy))
        · intro w y hy h0
          have w := w.resolve_left (by rw [h2]; decide)
          rcases List.mem_cons.mp hy with q | q
          · omega
          · exact w y q h0
    · obtain ⟨L1, L2, h1, h2, h3⟩ := h
      show _ ↔ (sp_ov ps a).1 ∧ (sp_ov ps b).2
      rw [h1, ← ia.1 L1 h2, ← ib.2 L2 h3]
      exact ⟨fun w => ⟨fun y hy => w y (List.mem_append.mpr (Or.inl hy)), fun y hy => w y (List.mem_append.mpr (Or.inr hy))⟩, fun w y hy => (List.mem_append.mp hy).elim (w.1 y) (w.2 y)⟩
  | sub a b _ _ => exact ⟨fun R h => absurd h id, fun R h => absurd h id⟩
  | neg a _ => exact ⟨fun R h => absurd h id, fun R h => absurd h id⟩
  | mulL k a _ => exact ⟨fun R h => absurd h id, fun R h => absurd h id⟩
  | mulR a k _ => exact ⟨fun R h => absurd h id, fun R h => absurd h id⟩
end LWR
