def sp_ph : ob_T → List (List (Bool × ob_T) × ob_T)
  | .add (.var v) (.add c (.add x (.add y z))) => if v = 429 then (sp_ph x).map (fun p => ((true, c) :: p.1, p.2)) ++ (sp_ph y).map (fun p => ((false, c) :: p.1, p.2)) else [([], .add (.var v) (.add c (.add x (.add y z))))]
  | t => [([], t)]
theorem sp_ph_if (c x y z : ob_T) : sp_ph (.add (.var 429) (.add c (.add x (.add y z)))) = (sp_ph x).map (fun p => ((true, c) :: p.1, p.2)) ++ (sp_ph y).map (fun p => ((false, c) :: p.1, p.2)) := by
  show (if (429 : Nat) = 429 then _ else _) = _
  rw [if_pos rfl]
theorem sp_ph_ne {v : Nat} (h : v ≠ 429) (b : ob_T) : sp_ph (.add (.var v) b) = [([], .add (.var v) b)] := by
  unfold sp_ph
  split
  · rename_i heq
    cases heq
    exact if_neg h
  · rfl
def sp_opO (t : ob_T) : Option ob_T := if 120 < (sp_sz t).1 then none else some t
def sp_ntO : Option ob_T → Option ob_T
  | none => none
  | some t => sp_opO (sp_not t)
def sp_rI (p : Bool × ob_T) : Option ob_T := if p.1 = true then sp_ntO (some p.2) else sp_ntO (sp_ntO (some p.2))
def TRQ (N : Int → Int) (U : Int) (ft : Nat → Int) : List Int → List ob_T → Prop
  | R, [] => R = []
  | R, t :: S => ∃ R1 R2 : List Int, R = R1 ++ R2 ∧ TRT N U ft R1 t ∧ TRQ N U ft R2 S
def sp_pn : List ob_T → Nat
  | [] => 0
  | t :: S => (sp_ph t).length + sp_pn S
def OTR (N : Int → Int) (U : Int) (ft : Nat → Int) : Option (List Int) → Option ob_T → Prop
  | some r, some t => TRT N U ft r t
  | none, none => True
  | _, _ => False
section IND
variable {N : Int → Int} {U : Int} {ft : Nat → Int} {n : Int} {f : Int → Int}
theorem OTR_op {r : List Int} {t : ob_T} (h : TRT N U ft r t) : OTR N U ft (opR r) (sp_opO t) := by
  have l := ((TRT_len t).1 r h).1
  unfold opR sp_opO
  by_cases c : 120 < r.length
  · rw [if_pos c, if_pos (by omega)]
    exact trivial
  · rw [if_neg c, if_neg (by omega)]
    exact h
theorem OTR_nt (hD : HD N U) (hI : HI ft) : ∀ {o : Option (List Int)} {p : Option ob_T}, OTR N U ft o p → OTR N U ft (ntO o) (sp_ntO p)
  | some r, some t, h => OTR_op (TRT_not hD hI h)
  | none, none, _ => trivial
  | some _, none, h => absurd h id
  | none, some _, h => absurd h id
theorem ITR_one : ∀ {o : Option (List Int)} {p : Option ob_T} {R : List (Option (List Int))} {T : List (Option ob_T)}, OTR N U ft o p → ITR N U ft R T → ITR N U ft (o :: R) (p :: T)
  | some _, some _, _, _, h, q => ⟨h, q⟩
  | none, none, _, _, _, q => q
  | some _, none, _, _, h, _ => absurd h id
  | none, some _, _, _, h, _ => absurd h id
theorem TRT_if (hI : HI ft) (f3 : ft 429 = 110) {r : List Int} {t : ob_T} (h : TRT N U ft (110 :: r) t) : ∃ (c x y : ob_T) (Rc Rx Ry : List Int), t = .add (.var 429) (.add c (.add x (.add y (.var 31361)))) ∧ r = Rc ++ (Rx ++ Ry) ∧ TRT N U ft Rc c ∧ TRT N U ft Rx x ∧ TRT N U ft Ry y := by
  rcases TRT_hd h with ⟨k, k0, e1, e2⟩ | ⟨k, v, k0, e1, e2, e3, e4, e5⟩ | ⟨v, b, r', e1, e2, e3, e4, e5, e6⟩
  · injection e1 with e1 e9
    omega
  · injection e1 with e1 e9
    omega
  · injection e4 with e4 e9
    have ev : v = 429 := hI.2.1 v 429 e3 (by rw [f3]; exact e4.symm)
    rw [ev, f3] at e6
    rw [ev] at e1
    rcases TRL_ct e5 with ⟨a1, -⟩ | ⟨c, b2, L1, L2, a1, a2, a3, a4⟩
    · rw [a1] at e6
      exact absurd e6 (show ¬ (0 : Int) = 110 / 4 % 8 by decide)
    · rcases TRL_ct a4 with ⟨d1, -⟩ | ⟨x, b3, L3, L4, d1, d2, d3, d4⟩
      · rw [a1, d1] at e6
        exact absurd e6 (show ¬ (1 + 0 : Int) = 110 / 4 % 8 by decide)
      · rcases TRL_ct d4 with ⟨g1, -⟩ | ⟨y, b4, L5, L6, g1, g2, g3, g4⟩
        · rw [a1, d1, g1] at e6
          exact absurd e6 (show ¬ (1 + (1 + 0) : Int) = 110 / 4 % 8 by decide)
        · rcases TRL_ct g4 with ⟨i1, i2⟩ | ⟨w, b5, L7, L8, i1, -⟩
          · refine ⟨c, x, y, L1, L3, L5, ?_, ?_, a3, d3, g3⟩
            · rw [e1, a1, d1, g1, i1]
            · rw [e9, a2, d2, g2, i2, List.append_nil]
          · rw [a1, d1, g1, i1] at e6
            have e6 : 1 + (1 + (1 + (1 + (sp_ts ft b5).2.2))) = (110 : Int) / 4 % 8 := e6
            have := (sp_ts_nn (ft := ft) b5).2.2
            omega
theorem TRT_ni (hI : HI ft) (f3 : ft 429 = 110) {x : Int} {r : List Int} {t : ob_T} (h : TRT N U ft (x :: r) t) (ne : x ≠ 110) : sp_ph t = [([], t)] := by
  rcases TRT_hd h with ⟨k, k0, e1, e2⟩ | ⟨k, v, k0, e1, e2, e3, e4, e5⟩ | ⟨v, b, r', e1, e2, e3, e4, e5, e6⟩
  · rw [e2]
    unfold sp_cs
    split
    · rename_i ba
      match hd : DK N k, ba with
      | .num m, _ => rfl
      | .var w, _ => rfl
    · exact sp_ph_ne (by decide) _
  · rw [e3]
    rfl
  · rw [e1]
    refine sp_ph_ne (fun q => ne ?_) b
    injection e4 with e4 e9
    rw [e4, q, f3]
theorem TRT_x {R : List Int} {t : ob_T} (h : TRT N U ft R t) : ∃ (x : Int) (r : List Int), R = x :: r := by
  have l := ((TRT_len t).1 R h).2
  match R, l with
  | [], l => exact absurd l (by decide)
  | x :: r, _ => exact ⟨x, r, rfl⟩
theorem SCN_ph (hW : WFT n f) (hI : HI ft) (f3 : ft 429 = 110) {x c y : Nat} (a : SCN n f x c y) : ∀ (S : List ob_T) (R X : List Int), (rl n f).drop x = R ++ X → TRQ N U ft R S → y = x + R.length → c = sp_pn S := by
  refine (a (fun x c y => SCN n f x c y ∧ ∀ (S : List ob_T) (R X : List Int), (rl n f).drop x = R ++ X → TRQ N U ft R S → y = x + R.length → c = sp_pn S) (fun x => ⟨SCN.nil x, fun S R X e h q => ?_⟩) (fun x c y h1 h2 ih => ⟨SCN.iff x c y h1 h2 ih.1, fun S R X e h q => ?_⟩) (fun x c y h1 h2 ih => ⟨SCN.fin x c y h1 h2 ih.1, fun S R X e h q => ?_⟩)).2
  · match S, h with
    | [], _ => rfl
    | t :: S, h =>
      obtain ⟨R1, R2, e1, e2, -⟩ := h
      have l := ((TRT_len t).1 R1 e2).2
      rw [e1, List.length_append] at q
      omega
  · obtain ⟨a1, a2, a3, a4, a5, a6, a7⟩ := bp_if hW h1 h2
    have le := (SCN_le hW ih.1).1
    match S, h with
    | [], h =>
      have h : R = [] := h
      rw [h] at q
      have q : y = x + 0 := q
      omega
    | t :: S, h =>
      obtain ⟨R1, R2, e1, e2, e3⟩ := h
      have ta : TRA N U ft n f x R1 t := ⟨⟨R2 ++ X, by rw [e, e1, List.append_assoc]⟩, e2⟩
      obtain ⟨x0, r0, er⟩ := TRT_x e2
      rw [er] at ta e2
      have hx := TRA_hd ta
      rw [h2] at hx
      rw [← hx] at e2 er ta
      obtain ⟨c9, x9, y9, Rc, Rx, Ry, t1, t2, t3, t4, t5⟩ := TRT_if hI f3 e2
      have sc : TRA N U ft n f (x + 1) Rc c9 := TRA_sub (R1 := [110]) (R2 := Rc) (R3 := Rx ++ Ry) ta (by rw [t2]; rfl) t3
      have bc := TRA_bp hW sc
      have en : (rl n f).drop (bp n f (x + 1)) = (Rx ++ Ry ++ R2) ++ X := by
        rw [bc, show x + 1 + Rc.length = x + (1 + Rc.length) by omega, ← List.drop_drop, e, e1, er, t2]
        show (110 :: (Rc ++ (Rx ++ Ry)) ++ R2 ++ X).drop (1 + Rc.length) = _
        rw [show 1 + Rc.length = Rc.length + 1 by omega]
        show ((Rc ++ (Rx ++ Ry)) ++ R2 ++ X).drop Rc.length = _
        rw [List.append_assoc, List.append_assoc, List.drop_left' rfl]
        simp only [List.append_assoc]
      have r := ih.2 (x9 :: y9 :: S) (Rx ++ Ry ++ R2) X en ⟨Rx, Ry ++ R2, by rw [List.append_assoc], t4, Ry, R2, rfl, t5, e3⟩ (by
        rw [q, e1, er, t2, bc]
        simp only [List.length_append, List.length_cons]
        omega)
      rw [r]
      show (sp_ph x9).length + ((sp_ph y9).length + sp_pn S) = (sp_ph t).length + sp_pn S
      rw [t1, sp_ph_if, List.length_append, List.length_map, List.length_map]
      omega
  · obtain ⟨r1, r2, r3, r4, r5⟩ := bp_W hW h1
    have le := (SCN_le hW ih.1).1
    match S, h with
    | [], h =>
      have h : R = [] := h
      rw [h] at q
      have q : y = x + 0 := q
      omega
    | t :: S, h =>
      obtain ⟨R1, R2, e1, e2, e3⟩ := h
      have ta : TRA N U ft n f x R1 t := ⟨⟨R2 ++ X, by rw [e, e1, List.append_assoc]⟩, e2⟩
      have bt := TRA_bp hW ta
      obtain ⟨x0, r0, er⟩ := TRT_x e2
      have e2' := e2
      rw [er] at ta e2'
      have hx := TRA_hd ta
      have p1 := TRT_ni hI f3 e2' (by rw [← hx]; exact h2)
      have en : (rl n f).drop (bp n f x) = R2 ++ X := by
        rw [bt, ← List.drop_drop, e, e1, List.append_assoc, List.drop_left' rfl]
      have r := ih.2 S R2 X en e3 (by
        rw [q, e1, List.length_append, bt]
        omega)
      rw [r]
      show sp_pn S + 1 = (sp_ph t).length + sp_pn S
      rw [p1]
      show sp_pn S + 1 = 1 + sp_pn S
      omega
theorem SCN_ph1 (hW : WFT n f) (hI : HI ft) (f3 : ft 429 = 110) {x c : Nat} {R : List Int} {t : ob_T} (h : TRA N U ft n f x R t) (a : SCN n f x c (bp n f x)) : c = (sp_ph t).length := by
  have b := TRA_bp hW h
  obtain ⟨⟨X, e⟩, h2⟩ := h
  have := SCN_ph hW hI f3 a [t] R X e ⟨R, [], by rw [List.append_nil], h2, rfl⟩ b
  rw [this]
  show (sp_ph t).length + 0 = _
  omega
theorem PTH_ph (hW : WFT n f) (hD : HD N U) (hI : HI ft) (f3 : ft 429 = 110) {t l T : Nat} {its : List (Option (List Int))} (a : PTH n f t l its T) : ∀ (R : List Int) (τ : ob_T), TRA N U ft n f t R τ → ∃ (ts : List (Bool × ob_T)) (e : ob_T) (R1 : List Int), (sp_ph τ)[l]? = some (ts, e) ∧ ITR N U ft its (ts.map sp_rI) ∧ TRA N U ft n f T R1 e := by
  refine a (fun t l its T => ∀ (R : List Int) (τ : ob_T), TRA N U ft n f t R τ → ∃ (ts : List (Bool × ob_T)) (e : ob_T) (R1 : List Int), (sp_ph τ)[l]? = some (ts, e) ∧ ITR N U ft its (ts.map sp_rI) ∧ TRA N U ft n f T R1 e) (fun t h1 h2 R τ h => ?_) (fun t l E its T h1 h2 h3 h4 ih R τ h => ?_) (fun t l E its T h1 h2 h3 h4 ih R τ h => ?_)
  · obtain ⟨x0, r0, er⟩ := TRT_x h.2
    have h' := h
    rw [er] at h'
    have p := TRT_ni hI f3 h'.2 (by rw [← TRA_hd h']; exact h2)
    exact ⟨[], τ, R, by rw [p]; rfl, trivial, h⟩
  · obtain ⟨x0, r0, er⟩ := TRT_x h.2
    rw [er] at h
    have hx := TRA_hd h
    rw [h2] at hx
    rw [← hx] at h
    obtain ⟨c9, x9, y9, Rc, Rx, Ry, t1, t2, t3, t4, t5⟩ := TRT_if hI f3 h.2
    have sc : TRA N U ft n f (t + 1) Rc c9 := TRA_sub (R1 := [110]) (R2 := Rc) (R3 := Rx ++ Ry) h (by rw [t2]; rfl) t3
    have bc := TRA_bp hW sc
    have sx : TRA N U ft n f (bp n f (t + 1)) Rx x9 := by
      rw [bc]
      have := TRA_sub (R1 := 110 :: Rc) (R2 := Rx) (R3 := Ry) h (by rw [t2, List.append_assoc]; rfl) t4
      rw [List.length_cons] at this
      rw [show t + 1 + Rc.length = t + (Rc.length + 1) by omega]
      exact this
    obtain ⟨ts, e, R1, q1, q2, q3⟩ := ih Rx x9 sx
    have eE := SCN_ph1 hW hI f3 sx h3
    refine ⟨(true, c9) :: ts, e, R1, ?_, ?_, q3⟩
    · rw [t1, sp_ph_if, List.getElem?_append_left (by rw [List.length_map]; omega), List.getElem?_map, q1]
      rfl
    · refine ITR_one ?_ q2
      have sl : slr n f (t + 1) = Rc := by
        unfold slr
        rw [bc, show t + 1 + Rc.length - (t + 1) = Rc.length by omega]
        exact TRA_row sc
      rw [sl]
      exact OTR_nt hD hI (o := some Rc) (p := some c9) t3
  · obtain ⟨x0, r0, er⟩ := TRT_x h.2
    rw [er] at h
    have hx := TRA_hd h
    rw [h2] at hx
    rw [← hx] at h
    obtain ⟨c9, x9, y9, Rc, Rx, Ry, t1, t2, t3, t4, t5⟩ := TRT_if hI f3 h.2
    have sc : TRA N U ft n f (t + 1) Rc c9 := TRA_sub (R1 := [110]) (R2 := Rc) (R3 := Rx ++ Ry) h (by rw [t2]; rfl) t3
    have bc := TRA_bp hW sc
    have sx : TRA N U ft n f (bp n f (t + 1)) Rx x9 := by
      rw [bc]
      have := TRA_sub (R1 := 110 :: Rc) (R2 := Rx) (R3 := Ry) h (by rw [t2, List.append_assoc]; rfl) t4
      rw [List.length_cons] at this
      rw [show t + 1 + Rc.length = t + (Rc.length + 1) by omega]
      exact this
    have bx := TRA_bp hW sx
    have sy : TRA N U ft n f (bp n f (bp n f (t + 1))) Ry y9 := by
      rw [bx, bc]
      have := TRA_sub (R1 := 110 :: Rc ++ Rx) (R2 := Ry) (R3 := []) h (by rw [t2, List.append_nil, ← List.append_assoc]; rfl) t5
      rw [List.length_append, List.length_cons] at this
      rw [show t + 1 + Rc.length + Rx.length = t + (Rc.length + 1 + Rx.length) by omega]
      exact this
    obtain ⟨ts, e, R1, q1, q2, q3⟩ := ih Ry y9 sy
    have eE := SCN_ph1 hW hI f3 sx h3
    refine ⟨(false, c9) :: ts, e, R1, ?_, ?_, q3⟩
    · rw [t1, sp_ph_if, List.getElem?_append_right (by rw [List.length_map]; omega), List.length_map, ← eE, List.getElem?_map, q1]
      rfl
    · refine ITR_one ?_ q2
      have sl : slr n f (t + 1) = Rc := by
        unfold slr
        rw [bc, show t + 1 + Rc.length - (t + 1) = Rc.length by omega]
        exact TRA_row sc
      rw [sl]
      exact OTR_nt hD hI (OTR_nt hD hI (o := some Rc) (p := some c9) t3)
theorem cit_app (it : Nat → Option (List Int)) (x : Int) : ∀ (m1 m2 k : Nat), cit f x it k (m1 + m2) = cit f x it k m1 ++ cit f x it (k + m1) m2
  | 0, m2, k => by
    rw [Nat.zero_add, Nat.add_zero]
    rfl
  | m1 + 1, m2, k => by
    rw [show m1 + 1 + m2 = (m1 + m2) + 1 by omega]
    show (if f (k : Int) = x then it k :: cit f x it (k + 1) (m1 + m2) else cit f x it (k + 1) (m1 + m2)) = (if f (k : Int) = x then it k :: cit f x it (k + 1) m1 else cit f x it (k + 1) m1) ++ cit f x it (k + (m1 + 1)) m2
    rw [cit_app it x m1 m2 (k + 1), show k + 1 + m1 = k + (m1 + 1) by omega]
    split <;> rfl
def sp_cc (fn : Nat) : ob_T → List ob_T × List ob_T
  | .add a b => (if sp_isq a = true then [] else (if sp_ish fn a = true then [b] else []) ++ (sp_cc fn b).2, (sp_cc fn a).1 ++ (sp_cc fn b).2)
  | _ => ([], [])
theorem cit_cc (hI : HI ft) {fn : Nat} {x : Int} (ef : ft fn = x) (x0 : 0 ≤ x) (it : Nat → Option (List Int)) (im : ob_T → Option ob_T) (hit : ∀ (k : Nat) (r : List Int) (b : ob_T), TRA N U ft n f k (x :: r) (.add (.var fn) b) → OTR N U ft (it k) (im b)) : ∀ (t : ob_T), (∀ (p : Nat) (R : List Int), TRA N U ft n f p R t → ITR N U ft (cit f x it p R.length) ((sp_cc fn t).1.map im)) ∧ (∀ (p : Nat) (R X : List Int), (rl n f).drop p = R ++ X → TRL N U ft R t → ITR N U ft (cit f x it p R.length) ((sp_cc fn t).2.map im)) := by
  have x2 : x % 4 = 2 := by
    rw [← ef]
    exact hI.1 fn (by rw [ef]; exact x0)
  have leaf : ∀ (p : Nat) (y : Int) (t : ob_T), TRA N U ft n f p [y] t → y % 4 ≠ 2 → cit f x it p [y].length = [] := by
    intro p y t h hy
    have e := TRA_hd h
    show (if f (p : Int) = x then it p :: [] else []) = []
    rw [if_neg (by rw [e]; intro q; rw [q] at hy; exact hy x2)]
  intro t
  induction t with
  | num m =>
    refine ⟨fun p R h => ?_, fun p R X e h => absurd h id⟩
    have h0 := h
    obtain ⟨k, k1, k2, k3⟩ := h.2
    rw [k3] at h0 ⊢
    rw [leaf p _ _ h0 (by omega)]
    exact trivial
  | var v =>
    refine ⟨fun p R h => ?_, fun p R X e h => ?_⟩
    · have h0 := h
      obtain ⟨k, k1, k2, k3⟩ := h.2
      rw [k3] at h0 ⊢
      rw [leaf p _ _ h0 (by unfold sp_vt; split <;> omega)]
      exact trivial
    · rw [h.2]
      exact trivial
  | add a b ia ib =>
    refine ⟨fun p R h => ?_, fun p R X e h => ?_⟩
    · have h0 := h
      show ITR N U ft _ ((if sp_isq a = true then [] else (if sp_ish fn a = true then [b] else []) ++ (sp_cc fn b).2).map im)
      rcases h.2 with ⟨h1, h2, h3, k, k1, k2, k3⟩ | ⟨v, L2, h1, h2, h3, h4, h5, h6⟩
      · rw [k3] at h0 ⊢
        rw [leaf p _ _ h0 (by omega), if_pos h1]
        exact trivial
      · rw [h4] at h0 ⊢
        have hd := TRA_hd h0
        obtain ⟨⟨X, e⟩, -⟩ := h0
        have lt := TRA_lt h
        rw [h4, List.length_cons] at lt
        have e2 : (rl n f).drop (p + 1) = L2 ++ X := by
          rw [← List.drop_drop, e]
          rfl
        have q := ib.2 (p + 1) L2 X e2 h5
        rw [if_neg (by rw [h2]; decide), List.length_cons, show L2.length + 1 = 1 + L2.length by omega, cit_app, List.map_append]
        refine ITR_app _ _ ?_ q
        have ish : sp_ish fn a = true ↔ v = fn := by
          rw [h1]
          exact beq_iff_eq
        show ITR N U ft (if f (p : Int) = x then it p :: [] else []) _
        by_cases c : v = fn
        · rw [if_pos (ish.mpr c), if_pos (by rw [hd, c, ef])]
          refine ITR_one (hit p L2 b ?_) trivial
          refine ⟨⟨X, by rw [e, c, ef]⟩, ?_⟩
          have h9 := h.2
          rw [h4, c, ef, h1, c] at h9
          exact h9
        · rw [if_neg (fun q => c (ish.mp q)), if_neg]
          · exact trivial
          · rw [hd]
            intro q
            exact c (hI.2.1 v fn h3 (by rw [q, ef]))
    · obtain ⟨L1, L2, h1, h2, h3⟩ := h
      show ITR N U ft _ (((sp_cc fn a).1 ++ (sp_cc fn b).2).map im)
      rw [h1, List.append_assoc] at e
      rw [h1, List.length_append, cit_app, List.map_append]
      refine ITR_app _ _ (ia.1 p L1 ⟨⟨_, e⟩, h2⟩) (ib.2 (p + L1.length) L2 X ?_ h3)
      rw [← List.drop_drop, e, List.drop_left' rfl]
  | sub a b _ _ => exact ⟨fun p R h => absurd h.2 id, fun p R X e h => absurd h id⟩
  | neg a _ => exact ⟨fun p R h => absurd h.2 id, fun p R X e h => absurd h id⟩
  | mulL k a _ => exact ⟨fun p R h => absurd h.2 id, fun p R X e h => absurd h id⟩
  | mulR a k _ => exact ⟨fun p R h => absurd h.2 id, fun p R X e h => absurd h id⟩
theorem yr_TRO (hW : WFT n f) (k : Nat) : ∀ (b : ob_T) (r X : List Int) (j0 m : Nat), (rl n f).drop (ya n f k j0) = r ++ X → TRL N U ft r b → (sp_ts ft b).2.2 = (m : Int) → TRO N U ft ((List.range m).map (fun i : Nat => yr n f k (j0 + i))) (sp_as b) := by
  intro b
  induction b with
  | num m => exact fun r X j0 m e h => absurd h id
  | var v =>
    intro r X j0 m e h hm
    have hm : (0 : Int) = (m : Int) := hm
    rw [show m = 0 by omega]
    exact trivial
  | add a c ia ic =>
    intro r X j0 m e h hm
    obtain ⟨L1, L2, h1, h2, h3⟩ := h
    have hm : 1 + (sp_ts ft c).2.2 = (m : Int) := hm
    have nn := (sp_ts_nn (ft := ft) c).2.2
    obtain ⟨m0, rfl⟩ : ∃ m0 : Nat, m = m0 + 1 := ⟨m - 1, by omega⟩
    rw [h1, List.append_assoc] at e
    have ta : TRA N U ft n f (ya n f k j0) L1 a := ⟨⟨_, e⟩, h2⟩
    have b1 := TRA_bp hW ta
    rw [List.range_succ_eq_map, List.map_cons, List.map_map]
    refine ⟨?_, ?_⟩
    · show TRT N U ft (yr n f k j0) a
      unfold yr
      rw [b1, show ya n f k j0 + L1.length - ya n f k j0 = L1.length by omega, TRA_row ta]
      exact h2
    · have q := ic L2 X (j0 + 1) m0 (by
        show (rl n f).drop (bp n f (ya n f k j0)) = _
        rw [b1, ← List.drop_drop, e, List.drop_left' rfl]) h3 (by omega)
      have eq : (fun i : Nat => yr n f k (j0 + 1 + i)) = ((fun i : Nat => yr n f k (j0 + i)) ∘ Nat.succ) := by
        funext i
        show yr n f k (j0 + 1 + i) = yr n f k (j0 + (i + 1))
        rw [show j0 + 1 + i = j0 + (i + 1) by omega]
      rw [← eq]
      exact q
  | sub a b _ _ => exact fun r X j0 m e h => absurd h id
  | neg a _ => exact fun r X j0 m e h => absurd h id
  | mulL k a _ => exact fun r X j0 m e h => absurd h id
  | mulR a k _ => exact fun r X j0 m e h => absurd h id
def sp_cI (Vs : List Nat) (F : ob_T) (b : ob_T) : Option ob_T := sp_ntO (sp_opO (sp_in Vs (sp_as b) F).1)
theorem itm_tr (hW : WFT n f) (hD : HD N U) (hI : HI ft) {fn : Nat} {x : Int} (ef : ft fn = x) {m G : Int} {g fg : Int → Int} (m0 : 0 ≤ m) (hm : tk x = m) {Vs : List Nat} (hV : VRG N U (rl m g) Vs) {F : ob_T} (hF : TRT N U ft (rl G fg) F) (k : Nat) (r : List Int) (b : ob_T) (h : TRA N U ft n f k (x :: r) (.add (.var fn) b)) : OTR N U ft (itm n f G fg m g k) (sp_cI Vs F b) := by
  obtain ⟨⟨X, e⟩, h2⟩ := h
  have hb : TRL N U ft r b ∧ (sp_ts ft b).2.2 = m := by
    rcases TRT_hd h2 with ⟨j, j0, e1, e2⟩ | ⟨j, v, j0, e1, e2, e3, -⟩ | ⟨v, b', r', e1, e2, e3, e4, e5, e6⟩
    · injection e1 with e1 e9
      have q : (.add (.var fn) b : ob_T) = sp_cs (DK N j) := e2
      have := hI.1 fn
      rcases Int.lt_or_le (ft fn) 0 with w | w
      · omega
      · have := this w
        omega
    · cases e3
    · injection e1 with e1 e7
      injection e4 with e4 e8
      rw [e8, e7]
      refine ⟨e5, ?_⟩
      rw [e6, ← e4]
      exact hm
  have e2 : (rl n f).drop (ya n f k 0) = r ++ X := by
    show (rl n f).drop (k + 1) = _
    rw [← List.drop_drop, e]
    rfl
  have o := yr_TRO hW k b r X 0 m.toNat e2 hb.1 (by rw [hb.2]; omega)
  have eq : (fun i : Nat => yr n f k (0 + i)) = (fun j : Nat => yr n f k j) := by
    funext i
    rw [Nat.zero_add]
  rw [eq] at o
  exact OTR_nt hD hI (OTR_op ((TRT_ins hD hI hV o F).1 _ hF))
def sp_du (fn : Nat) (Vs : List Nat) (F : ob_T) (p : List (Bool × ob_T) × ob_T) : List (Option ob_T) := p.1.map sp_rI ++ ((sp_cc fn p.2).1.map (sp_cI Vs F) ++ [some F])
theorem INDZ_tr (hW : WFT n f) (hD : HD N U) (hI : HI ft) (f3 : ft 429 = 110) {fn : Nat} {x : Int} (ef : ft fn = x) (x0 : 0 ≤ x) {m G : Int} {g fg : Int → Int} (m0 : 0 ≤ m) (hm : tk x = m) {Vs : List Nat} (hV : VRG N U (rl m g) Vs) {F B : ob_T} (hF : TRT N U ft (rl G fg) F) (hB : TRT N U ft (rl n f) B) {K T : Nat} {its : List (Option (List Int))} (hP : PTH n f 0 K its T) : ∃ p : List (Bool × ob_T) × ob_T, (sp_ph B)[K]? = some p ∧ (((INDZ n f x G fg m g T its).1 = 0 ∧ ∃ D1 : List ob_T, sp_cz (sp_du fn Vs F p) = some D1 ∧ TRO N U ft (INDZ n f x G fg m g T its).2 D1) ∨ ((INDZ n f x G fg m g T its).1 = 1 ∧ sp_cz (sp_du fn Vs F p) = none)) := by
  obtain ⟨ts, e, R1, q1, q2, q3⟩ := PTH_ph hW hD hI f3 hP _ B (TRA_0 hB)
  refine ⟨(ts, e), q1, ?_⟩
  have b1 := TRA_bp hW q3
  have c := (cit_cc hI ef x0 (itm n f G fg m g) (sp_cI Vs F) (fun k r b h => itm_tr hW hD hI ef m0 hm hV hF k r b h) e).1 T R1 q3
  unfold INDZ
  refine CLF_cl hD hI (ITR_app _ _ q2 (ITR_app _ _ ?_ ⟨hF, trivial⟩))
  rw [b1, show T + R1.length - T = R1.length by omega]
  exact c
end IND
