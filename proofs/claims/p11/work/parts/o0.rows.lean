def HD (N : Int → Int) (U : Int) : Prop := (∀ j k : Int, 0 ≤ j → j < U → 0 ≤ k → k < U → DK N j = DK N k → j = k) ∧ 17 ≤ U ∧ DK N 0 = .var 31361 ∧ DK N 1 = .var 20
def HI (ft : Nat → Int) : Prop := (∀ v : Nat, 0 ≤ ft v → ft v % 4 = 2) ∧ (∀ v w : Nat, 0 ≤ ft v → ft v = ft w → v = w) ∧ ft 31651 = 518
def sp_cs (x : ob_T) : ob_T := if sp_ba x = true then x else .add (.var 85168940) (.add x (.var 31361))
section ROW
variable {N : Int → Int} {U : Int} {ft : Nat → Int}
theorem sp_isq_e {a : ob_T} (h : sp_isq a = true) : a = .var 85168940 := by
  match a, h with
  | .var v, h =>
    have h : (v == 85168940) = true := h
    rw [beq_iff_eq] at h
    rw [h]
theorem sp_one_e {b : ob_T} (h : sp_one b = true) : b = .add (sp_fst b) (.var 31361) := by
  match b, h with
  | .add x (.var v), h =>
    have h : (v == 31361) = true := h
    rw [beq_iff_eq] at h
    rw [h]
    rfl
theorem TRT_hd {L : List Int} : ∀ {t : ob_T}, TRT N U ft L t → (∃ k : Int, (0 ≤ k ∧ k < U) ∧ L = [k * 32 + 1] ∧ t = sp_cs (DK N k)) ∨ (∃ (k : Int) (v : Nat), (0 ≤ k ∧ k < U) ∧ L = [k * 32] ∧ DK N k = .var v ∧ t = .var v ∧ v ≠ 31361 ∧ v ≠ 20) ∨ ∃ (v : Nat) (b : ob_T) (r : List Int), t = .add (.var v) b ∧ sp_isq (.var v) = false ∧ 0 ≤ ft v ∧ L = ft v :: r ∧ TRL N U ft r b ∧ (sp_ts ft b).2.2 = ft v / 4 % 8
  | .num n, h => by
    obtain ⟨k, k1, k2, k3⟩ := h
    refine Or.inl ⟨k, k1, k3, ?_⟩
    rw [k2]
    rfl
  | .var v, h => by
    obtain ⟨k, k1, k2, k3⟩ := h
    unfold sp_vt at k3
    by_cases c : v = 31361 ∨ v = 20
    · rw [if_pos c] at k3
      refine Or.inl ⟨k, k1, k3, ?_⟩
      rw [k2]
      unfold sp_cs
      rw [if_pos]
      show (v == 31361 || v == 20) = true
      rw [Bool.or_eq_true, beq_iff_eq, beq_iff_eq]
      exact c
    · rw [if_neg c] at k3
      exact Or.inr (Or.inl ⟨k, v, k1, k3, k2, rfl, fun q => c (Or.inl q), fun q => c (Or.inr q)⟩)
  | .add a b, h => by
    rcases h with ⟨h1, h2, h3, k, k1, k2, k3⟩ | ⟨v, L2, h1, h2, h3, h4, h5, h6⟩
    · refine Or.inl ⟨k, k1, k3, ?_⟩
      rw [k2]
      unfold sp_cs
      rw [if_neg (by rw [h3]; decide), sp_isq_e h1]
      congr 1
      exact sp_one_e h2
    · rw [h1] at h2
      exact Or.inr (Or.inr ⟨v, b, L2, by rw [h1], h2, h3, h4, h5, h6⟩)
theorem TRL_ct {L : List Int} : ∀ {b : ob_T}, TRL N U ft L b → (b = .var 31361 ∧ L = []) ∨ ∃ (a c : ob_T) (L1 L2 : List Int), b = .add a c ∧ L = L1 ++ L2 ∧ TRT N U ft L1 a ∧ TRL N U ft L2 c
  | .num n, h => absurd h id
  | .var v, h => Or.inl ⟨by rw [h.1], h.2⟩
  | .add a b, h => by
    obtain ⟨L1, L2, h1, h2, h3⟩ := h
    exact Or.inr ⟨a, b, L1, L2, rfl, h1, h2, h3⟩
  | .sub a b, h => absurd h id
  | .neg a, h => absurd h id
  | .mulL k a, h => absurd h id
  | .mulR a k, h => absurd h id
theorem TRT_pf (hD : HD N U) (hI : HI ft) : ∀ (t : ob_T), (∀ (L X : List Int) (t2 : ob_T) (L2 X2 : List Int), TRT N U ft L t → TRT N U ft L2 t2 → L ++ X = L2 ++ X2 → t = t2 ∧ L = L2 ∧ X = X2) ∧ (∀ (L X : List Int) (b2 : ob_T) (L2 X2 : List Int), TRL N U ft L t → TRL N U ft L2 b2 → (sp_ts ft t).2.2 = (sp_ts ft b2).2.2 → L ++ X = L2 ++ X2 → t = b2 ∧ L = L2 ∧ X = X2) := by
  have key : ∀ (t : ob_T), (∀ (v : Nat) (b : ob_T), t = .add (.var v) b → ∀ (L X : List Int) (b2 : ob_T) (L2 X2 : List Int), TRL N U ft L b → TRL N U ft L2 b2 → (sp_ts ft b).2.2 = (sp_ts ft b2).2.2 → L ++ X = L2 ++ X2 → b = b2 ∧ L = L2 ∧ X = X2) → ∀ (L X : List Int) (t2 : ob_T) (L2 X2 : List Int), TRT N U ft L t → TRT N U ft L2 t2 → L ++ X = L2 ++ X2 → t = t2 ∧ L = L2 ∧ X = X2 := by
    intro t ih L X t2 L2 X2 h h2 e
    rcases TRT_hd h with ⟨k, k0, e1, e2⟩ | ⟨k, v, k0, e1, e2, e3, -⟩ | ⟨v, b, r, e1, e2, e3, e4, e5, e6⟩
    · rcases TRT_hd h2 with ⟨j, j0, f1, f2⟩ | ⟨j, w, j0, f1, f2, f3, -⟩ | ⟨w, b', r', f1, f2, f3, f4, f5, f6⟩
      · rw [e1, f1] at e
        injection e with g1 g2
        have q : k = j := by omega
        exact ⟨by rw [e2, f2, q], by rw [e1, f1, q], g2⟩
      · rw [e1, f1] at e
        injection e with g1 g2
        omega
      · rw [e1, f4] at e
        injection e with g1 g2
        have := hI.1 w f3
        omega
    · rcases TRT_hd h2 with ⟨j, j0, f1, f2⟩ | ⟨j, w, j0, f1, f2, f3, -⟩ | ⟨w, b', r', f1, f2, f3, f4, f5, f6⟩
      · rw [e1, f1] at e
        injection e with g1 g2
        omega
      · rw [e1, f1] at e
        injection e with g1 g2
        have q : k = j := by omega
        rw [q, f2] at e2
        exact ⟨by rw [e3, f3, e2], by rw [e1, f1, q], g2⟩
      · rw [e1, f4] at e
        injection e with g1 g2
        have := hI.1 w f3
        omega
    · rcases TRT_hd h2 with ⟨j, j0, f1, f2⟩ | ⟨j, w, j0, f1, f2, f3, -⟩ | ⟨w, b', r', f1, f2, f3, f4, f5, f6⟩
      · rw [e4, f1] at e
        injection e with g1 g2
        have := hI.1 v e3
        omega
      · rw [e4, f1] at e
        injection e with g1 g2
        have := hI.1 v e3
        omega
      · rw [e4, f4] at e
        injection e with g1 g2
        have q := hI.2.1 v w e3 g1
        obtain ⟨p1, p2, p3⟩ := ih v b e1 r X b' r' X2 e5 f5 (by rw [e6, f6, g1]) g2
        exact ⟨by rw [e1, f1, q, p1], by rw [e4, f4, g1, p2], p3⟩
  intro t
  induction t with
  | num n => exact ⟨key _ (fun v b q => by cases q), fun L X b2 L2 X2 h => absurd h id⟩
  | var v =>
    refine ⟨key _ (fun v b q => by cases q), fun L X b2 L2 X2 h h2 ec e => ?_⟩
    have ec : (0 : Int) = (sp_ts ft b2).2.2 := ec
    rcases TRL_ct h2 with ⟨f1, f2⟩ | ⟨a, c, L3, L4, f1, -⟩
    · obtain ⟨g1, g2⟩ := h
      rw [g2, f2] at e
      exact ⟨by rw [g1, f1], by rw [g2, f2], e⟩
    · rw [f1] at ec
      have ec : (0 : Int) = 1 + (sp_ts ft c).2.2 := ec
      have := (sp_ts_nn (ft := ft) c).2.2
      omega
  | add a b ia ib =>
    refine ⟨key _ (fun v b' q => by
      injection q with q1 q2
      rw [← q2]
      exact ib.2), fun L X b2 L2 X2 h h2 ec e => ?_⟩
    obtain ⟨L3, L4, g1, g2, g3⟩ := h
    rcases TRL_ct h2 with ⟨f1, f2⟩ | ⟨a2, c2, L5, L6, f1, f2, f3, f4⟩
    · rw [f1] at ec
      have ec : 1 + (sp_ts ft b).2.2 = (0 : Int) := ec
      have := (sp_ts_nn (ft := ft) b).2.2
      omega
    · rw [f1] at ec
      have ec : 1 + (sp_ts ft b).2.2 = 1 + (sp_ts ft c2).2.2 := ec
      rw [g1, f2, List.append_assoc, List.append_assoc] at e
      obtain ⟨p1, p2, p3⟩ := ia.1 L3 (L4 ++ X) a2 L5 (L6 ++ X2) g2 f3 e
      obtain ⟨q1, q2, q3⟩ := ib.2 L4 X c2 L6 X2 g3 f4 (by omega) p3
      exact ⟨by rw [f1, p1, q1], by rw [g1, f2, p2, q2], q3⟩
  | sub a b _ _ => exact ⟨fun L X t2 L2 X2 h => absurd h id, fun L X b2 L2 X2 h => absurd h id⟩
  | neg a _ => exact ⟨fun L X t2 L2 X2 h => absurd h id, fun L X b2 L2 X2 h => absurd h id⟩
  | mulL k a _ => exact ⟨fun L X t2 L2 X2 h => absurd h id, fun L X b2 L2 X2 h => absurd h id⟩
  | mulR a k _ => exact ⟨fun L X t2 L2 X2 h => absurd h id, fun L X b2 L2 X2 h => absurd h id⟩
theorem TRT_fn (hD : HD N U) : ∀ (t : ob_T), (∀ L L2 : List Int, TRT N U ft L t → TRT N U ft L2 t → L = L2) ∧ (∀ L L2 : List Int, TRL N U ft L t → TRL N U ft L2 t → L = L2) := by
  intro t
  induction t with
  | num n =>
    refine ⟨fun L L2 h h2 => ?_, fun L L2 h => absurd h id⟩
    obtain ⟨k, k1, k2, k3⟩ := h
    obtain ⟨j, j1, j2, j3⟩ := h2
    have := hD.1 k j k1.1 k1.2 j1.1 j1.2 (by rw [k2, j2])
    rw [k3, j3, this]
  | var v =>
    refine ⟨fun L L2 h h2 => ?_, fun L L2 h h2 => by rw [h.2, h2.2]⟩
    obtain ⟨k, k1, k2, k3⟩ := h
    obtain ⟨j, j1, j2, j3⟩ := h2
    have := hD.1 k j k1.1 k1.2 j1.1 j1.2 (by rw [k2, j2])
    rw [k3, j3, this]
  | add a b ia ib =>
    refine ⟨fun L L2 h h2 => ?_, fun L L2 h h2 => ?_⟩
    · rcases h with ⟨h1, -, -, k, k1, k2, k3⟩ | ⟨v, L3, h1, h2', h3, h4, h5, h6⟩
      · rcases h2 with ⟨-, -, -, j, j1, j2, j3⟩ | ⟨w, L4, g1, g2, g3, g4, g5, g6⟩
        · have := hD.1 k j k1.1 k1.2 j1.1 j1.2 (by rw [k2, j2])
          rw [k3, j3, this]
        · rw [h1] at g2
          cases g2
      · rcases h2 with ⟨g1, -⟩ | ⟨w, L4, g1, g2, g3, g4, g5, g6⟩
        · rw [g1] at h2'
          cases h2'
        · rw [h1] at g1
          injection g1 with g1
          rw [h4, g4, g1, ib.2 L3 L4 h5 g5]
    · obtain ⟨L3, L4, e1, e2, e3⟩ := h
      obtain ⟨L5, L6, f1, f2, f3⟩ := h2
      rw [e1, f1, ia.1 L3 L5 e2 f2, ib.2 L4 L6 e3 f3]
  | sub a b _ _ => exact ⟨fun L L2 h => absurd h id, fun L L2 h => absurd h id⟩
  | neg a _ => exact ⟨fun L L2 h => absurd h id, fun L L2 h => absurd h id⟩
  | mulL k a _ => exact ⟨fun L L2 h => absurd h id, fun L L2 h => absurd h id⟩
  | mulR a k _ => exact ⟨fun L L2 h => absurd h id, fun L L2 h => absurd h id⟩
theorem TRT_eq (hD : HD N U) (hI : HI ft) {L L2 : List Int} {t t2 : ob_T} (h : TRT N U ft L t) (h2 : TRT N U ft L2 t2) : L = L2 ↔ t = t2 := by
  constructor
  · intro e
    exact ((TRT_pf hD hI t).1 L [] t2 L2 [] h h2 (by rw [e])).1
  · intro e
    rw [← e] at h2
    exact (TRT_fn hD t).1 L L2 h h2
def sp_ish (c : Nat) : ob_T → Bool
  | .var v => v == c
  | _ => false
def sp_not : ob_T → ob_T
  | .num _ => .var 31361
  | .var v => if v = 31361 then .var 20 else if v = 20 then .var 31361 else .add (.var 31651) (.add (.var v) (.var 31361))
  | .add a b => if sp_ish 31651 a = true then sp_fst b else if sp_isq a = true then .var 31361 else .add (.var 31651) (.add (.add a b) (.var 31361))
  | e => e
theorem TRT_nil (hD : HD N U) : TRT N U ft [1] (.var 31361) := ⟨0, ⟨by decide, by have := hD.2.1; omega⟩, hD.2.2.1, rfl⟩
theorem TRT_tt (hD : HD N U) : TRT N U ft [33] (.var 20) := ⟨1, ⟨by decide, by have := hD.2.1; omega⟩, hD.2.2.2, rfl⟩
theorem TRT_c1 {L : List Int} {t : ob_T} {v : Nat} (nq : sp_isq (.var v) = false) (h : TRT N U ft L t) (f0 : 0 ≤ ft v) (fa : ft v / 4 % 8 = 1) : TRT N U ft (ft v :: L) (.add (.var v) (.add t (.var 31361))) := Or.inr ⟨v, L, rfl, nq, f0, rfl, ⟨L, [], by rw [List.append_nil], h, rfl, rfl⟩, by rw [fa]; rfl⟩
theorem TRT_c2 {L L2 : List Int} {t t2 : ob_T} {v : Nat} (nq : sp_isq (.var v) = false) (h : TRT N U ft L t) (h2 : TRT N U ft L2 t2) (f0 : 0 ≤ ft v) (fa : ft v / 4 % 8 = 2) : TRT N U ft (ft v :: L ++ L2) (.add (.var v) (.add t (.add t2 (.var 31361)))) := Or.inr ⟨v, L ++ L2, rfl, nq, f0, rfl, ⟨L, L2, rfl, h, L2, [], by rw [List.append_nil], h2, rfl, rfl⟩, by rw [fa]; rfl⟩
theorem TRT_c3 {L L2 L3 : List Int} {t t2 t3 : ob_T} {v : Nat} (nq : sp_isq (.var v) = false) (h : TRT N U ft L t) (h2 : TRT N U ft L2 t2) (h3 : TRT N U ft L3 t3) (f0 : 0 ≤ ft v) (fa : ft v / 4 % 8 = 3) : TRT N U ft (ft v :: L ++ L2 ++ L3) (.add (.var v) (.add t (.add t2 (.add t3 (.var 31361))))) := Or.inr ⟨v, L ++ (L2 ++ L3), rfl, nq, f0, by rw [List.append_assoc]; rfl, ⟨L, L2 ++ L3, rfl, h, L2, L3, rfl, h2, L3, [], by rw [List.append_nil], h3, rfl, rfl⟩, by rw [fa]; rfl⟩
theorem TRT_not (hD : HD N U) (hI : HI ft) {L : List Int} {t : ob_T} (h : TRT N U ft L t) : TRT N U ft (notR L) (sp_not t) := by
  have mk : ∀ (x : Int) (r : List Int), L = x :: r → x ≠ 518 → x % 4 ≠ 1 → TRT N U ft (notR L) (.add (.var 31651) (.add t (.var 31361))) := by
    intro x r e n1 n2
    rw [e, notR_c, if_neg n1, if_neg n2, ← hI.2.2]
    rw [e] at h
    exact TRT_c1 rfl h (by rw [hI.2.2]; decide) (by rw [hI.2.2]; decide)
  rcases TRT_hd h with ⟨k, k0, e1, e2⟩ | ⟨k, v, k0, e1, e2, e3, e4, e5⟩ | ⟨v, b, r, e1, e2, e3, e4, e5, e6⟩
  · rw [e1, notR_c, if_neg (by omega), if_pos (by omega)]
    by_cases c : k = 0
    · rw [if_pos (by omega), e2, c, hD.2.2.1]
      exact TRT_tt hD
    · rw [if_neg (by omega)]
      have nn : DK N k ≠ .var 31361 := fun q => c (hD.1 k 0 k0.1 k0.2 (by decide) (by have := hD.2.1; omega) (by rw [q, hD.2.2.1]))
      have : sp_not t = .var 31361 := by
        rw [e2]
        unfold sp_cs
        by_cases ba : sp_ba (DK N k) = true
        · rw [if_pos ba]
          match hd : DK N k, ba, nn with
          | .num n, _, _ => rfl
          | .var v, ba, nn =>
            have ba : (v == 31361 || v == 20) = true := ba
            rw [Bool.or_eq_true, beq_iff_eq, beq_iff_eq] at ba
            show (if v = 31361 then (.var 20 : ob_T) else if v = 20 then .var 31361 else .add (.var 31651) (.add (.var v) (.var 31361))) = .var 31361
            have n1 : v ≠ 31361 := fun q => nn (by rw [q])
            rw [if_neg n1, if_pos (ba.resolve_left n1)]
        · rw [if_neg ba]
          rfl
      rw [this]
      exact TRT_nil hD
  · have m := mk (k * 32) [] e1 (by omega) (by omega)
    rw [e3] at m ⊢
    show TRT N U ft _ (if v = 31361 then .var 20 else if v = 20 then .var 31361 else .add (.var 31651) (.add (.var v) (.var 31361)))
    rw [if_neg e4, if_neg e5]
    exact m
  · have m4 := hI.1 v e3
    have nt : sp_not t = if v = 31651 then sp_fst b else .add (.var 31651) (.add t (.var 31361)) := by
      rw [e1]
      show (if sp_ish 31651 (.var v) = true then sp_fst b else if sp_isq (.var v) = true then .var 31361 else .add (.var 31651) (.add (.add (.var v) b) (.var 31361))) = _
      have hh : sp_ish 31651 (.var v) = true ↔ v = 31651 := beq_iff_eq
      by_cases c : v = 31651
      · rw [if_pos (hh.mpr c), if_pos c]
      · rw [if_neg (fun q => c (hh.mp q)), if_neg (by rw [e2]; decide), if_neg c]
    rw [nt]
    by_cases c : v = 31651
    · rw [if_pos c, e4, notR_c, if_pos (by rw [c]; exact hI.2.2)]
      rw [c, hI.2.2] at e6
      rcases TRL_ct e5 with ⟨f1, f2⟩ | ⟨a2, c2, L5, L6, f1, f2, f3, f4⟩
      · rw [f1] at e6
        exact absurd e6 (show ¬ (0 : Int) = 518 / 4 % 8 by decide)
      · rw [f1] at e6
        have e6 : 1 + (sp_ts ft c2).2.2 = (518 : Int) / 4 % 8 := e6
        rcases TRL_ct f4 with ⟨g1, g2⟩ | ⟨a3, c3, L7, L8, g1, -⟩
        · rw [f2, g2, List.append_nil, f1]
          exact f3
        · rw [g1] at e6
          have e6 : 1 + (1 + (sp_ts ft c3).2.2) = (518 : Int) / 4 % 8 := e6
          have := (sp_ts_nn (ft := ft) c3).2.2
          omega
    · rw [if_neg c]
      exact mk (ft v) r e4 (fun q => c (hI.2.1 v 31651 e3 (by rw [q, hI.2.2]))) (by omega)
end ROW
def sp_sb : List Nat → List ob_T → Nat → ob_T
  | v :: Vs, o :: Os, x => if v = x then o else sp_sb Vs Os x
  | _, _, x => .var x
def sp_in (Vs : List Nat) (Os : List ob_T) : ob_T → ob_T × ob_T
  | .num n => (.num n, .num n)
  | .var v => (if v = 31361 ∨ v = 20 then .var v else sp_sb Vs Os v, .var v)
  | .add a b => (if sp_isq a = true then .add a b else .add a (sp_in Vs Os b).2, .add (sp_in Vs Os a).1 (sp_in Vs Os b).2)
  | e => (e, e)
def VRG (N : Int → Int) (U : Int) : List Int → List Nat → Prop
  | [], [] => True
  | g :: G, v :: Vs => (∃ k : Int, (0 ≤ k ∧ k < U) ∧ DK N k = .var v ∧ g = k * 32 ∧ v ≠ 31361 ∧ v ≠ 20) ∧ VRG N U G Vs
  | _, _ => False
def TRO (N : Int → Int) (U : Int) (ft : Nat → Int) : List (List Int) → List ob_T → Prop
  | [], [] => True
  | r :: O, t :: Os => TRT N U ft r t ∧ TRO N U ft O Os
  | _, _ => False
section ROI
variable {N : Int → Int} {U : Int} {ft : Nat → Int}
theorem TRT_sb (hD : HD N U) {k : Int} {v : Nat} (k0 : 0 ≤ k ∧ k < U) (e : DK N k = .var v) (n1 : v ≠ 31361) (n2 : v ≠ 20) : ∀ (G : List Int) (Vs : List Nat) (O : List (List Int)) (Os : List ob_T), VRG N U G Vs → TRO N U ft O Os → TRT N U ft (insT G O (k * 32)) (sp_sb Vs Os v) := by
  have base : TRT N U ft [k * 32] (.var v) := ⟨k, k0, e, by unfold sp_vt; rw [if_neg (by omega)]⟩
  intro G
  induction G with
  | nil =>
    intro Vs O Os h1 h2
    match Vs, h1 with
    | [], _ => exact base
    | _ :: _, h1 => exact absurd h1 id
  | cons g G ih =>
    intro Vs O Os h1 h2
    match Vs, h1, O, Os, h2 with
    | [], h1, _, _, _ => exact absurd h1 id
    | w :: Vs, h1, [], [], _ => exact base
    | w :: Vs, h1, [], _ :: _, h2 => exact absurd h2 id
    | w :: Vs, h1, _ :: _, [], h2 => exact absurd h2 id
    | w :: Vs, h1, r :: O, t :: Os, h2 =>
      obtain ⟨⟨j, j0, j1, j2, j3, j4⟩, h1⟩ := h1
      show TRT N U ft (if g = k * 32 then r else insT G O (k * 32)) (if w = v then t else sp_sb Vs Os v)
      by_cases c : g = k * 32
      · have jk : j = k := by omega
        rw [jk, e] at j1
        injection j1 with j1
        rw [if_pos c, if_pos j1.symm]
        exact h2.1
      · have wv : w ≠ v := by
          intro q
          rw [q, ← e] at j1
          have := hD.1 j k j0.1 j0.2 k0.1 k0.2 j1
          omega
        rw [if_neg c, if_neg wv]
        exact ih Vs O Os h1 h2.2
theorem TRT_ins (hD : HD N U) (hI : HI ft) {G : List Int} {Vs : List Nat} {O : List (List Int)} {Os : List ob_T} (hG : VRG N U G Vs) (hO : TRO N U ft O Os) : ∀ (t : ob_T), (∀ L : List Int, TRT N U ft L t → TRT N U ft (insR G O L) (sp_in Vs Os t).1) ∧ (∀ L : List Int, TRL N U ft L t → TRL N U ft (insR G O L) (sp_in Vs Os t).2 ∧ (sp_ts ft (sp_in Vs Os t).2).2.2 = (sp_ts ft t).2.2) := by
  have one : ∀ x : Int, insR G O [x] = insF G O x := by
    intro x
    show insF G O x ++ [] = _
    rw [List.append_nil]
  have cst : ∀ x : Int, x % 4 ≠ 0 → insF G O x = [x] := fun x h => if_neg h
  intro t
  induction t with
  | num n =>
    refine ⟨fun L h => ?_, fun L h => absurd h id⟩
    have h0 := h
    obtain ⟨k, k1, k2, k3⟩ := h
    rw [k3, one, cst _ (by omega), ← k3]
    exact h0
  | var v =>
    refine ⟨fun L h => ?_, fun L h => ?_⟩
    · have h0 := h
      obtain ⟨k, k1, k2, k3⟩ := h
      show TRT N U ft _ (if v = 31361 ∨ v = 20 then .var v else sp_sb Vs Os v)
      unfold sp_vt at k3
      by_cases c : v = 31361 ∨ v = 20
      · rw [if_pos c] at k3 ⊢
        rw [k3, one, cst _ (by omega), ← k3]
        exact h0
      · rw [if_neg c] at k3 ⊢
        rw [k3, one]
        unfold insF
        rw [if_pos (by omega)]
        exact TRT_sb hD k1 k2 (fun q => c (Or.inl q)) (fun q => c (Or.inr q)) G Vs O Os hG hO
    · rw [h.2]
      exact ⟨⟨h.1, rfl⟩, rfl⟩
  | add a b ia ib =>
    refine ⟨fun L h => ?_, fun L h => ?_⟩
    · have h0 := h
      show TRT N U ft _ (if sp_isq a = true then .add a b else .add a (sp_in Vs Os b).2)
      rcases h with ⟨h1, h2, h3, k, k1, k2, k3⟩ | ⟨v, L2, h1, h2, h3, h4, h5, h6⟩
      · rw [if_pos h1, k3, one, cst _ (by omega), ← k3]
        exact h0
      · have q := ib.2 L2 h5
        have m := hI.1 v h3
        rw [if_neg (by rw [h2]; decide), h4]
        refine Or.inr ⟨v, insR G O L2, h1, h2, h3, ?_, q.1, by rw [q.2]; exact h6⟩
        show insF G O (ft v) ++ insR G O L2 = _
        rw [cst _ (by omega)]
        rfl
    · obtain ⟨L1, L2, h1, h2, h3⟩ := h
      have q := ib.2 L2 h3
      refine ⟨⟨insR G O L1, insR G O L2, ?_, ia.1 L1 h2, q.1⟩, ?_⟩
      · unfold insR
        rw [h1, List.flatMap_append]
      · show 1 + (sp_ts ft (sp_in Vs Os b).2).2.2 = 1 + (sp_ts ft b).2.2
        rw [q.2]
  | sub a b _ _ => exact ⟨fun L h => absurd h id, fun L h => absurd h id⟩
  | neg a _ => exact ⟨fun L h => absurd h id, fun L h => absurd h id⟩
  | mulL k a _ => exact ⟨fun L h => absurd h id, fun L h => absurd h id⟩
  | mulR a k _ => exact ⟨fun L h => absurd h id, fun L h => absurd h id⟩
noncomputable def sp_re (X Y : ob_T) : ob_T → ob_T × ob_T
  | .num n => (ifc (.num n = X) Y (.num n), .num n)
  | .var v => (ifc (.var v = X) Y (.var v), .var v)
  | .add a b => (ifc (.add a b = X) Y (if sp_isq a = true then .add a b else .add a (sp_re X Y b).2), .add (sp_re X Y a).1 (sp_re X Y b).2)
  | e => (e, e)
theorem TRT_re (hD : HD N U) (hI : HI ft) {X Y : ob_T} {LX LY : List Int} (hX : TRT N U ft LX X) (hY : TRT N U ft LY Y) : ∀ (t : ob_T), (∀ (L W : List Int) (m : Nat), TRT N U ft L t → (L ++ W).length ≤ m → ∃ (L1 : List Int) (m1 : Nat), W.length ≤ m1 ∧ repR LX LY m (L ++ W) = L1 ++ repR LX LY m1 W ∧ TRT N U ft L1 (sp_re X Y t).1) ∧ (∀ (L W : List Int) (m : Nat), TRL N U ft L t → (L ++ W).length ≤ m → ∃ (L1 : List Int) (m1 : Nat), W.length ≤ m1 ∧ repR LX LY m (L ++ W) = L1 ++ repR LX LY m1 W ∧ TRL N U ft L1 (sp_re X Y t).2 ∧ (sp_ts ft (sp_re X Y t).2).2.2 = (sp_ts ft t).2.2) := by
  have yes : ∀ (t : ob_T) (L W : List Int) (m : Nat), TRT N U ft L t → (L ++ W).length ≤ m → t = X → ∃ (L1 : List Int) (m1 : Nat), W.length ≤ m1 ∧ repR LX LY m (L ++ W) = L1 ++ repR LX LY m1 W ∧ TRT N U ft L1 Y := by
    intro t L W m h hm e
    rw [e] at h
    have eL := (TRT_fn hD X).1 L LX h hX
    have l1 := ((TRT_len X).1 L h).2
    rw [List.length_append] at hm
    obtain ⟨m0, rfl⟩ : ∃ m0 : Nat, m = m0 + 1 := ⟨m - 1, by omega⟩
    refine ⟨LY, m0, by omega, ?_, hY⟩
    rw [repR_y (fun q => by have := congrArg List.length q; rw [List.length_append] at this; have t9 : L.length + W.length = 0 := this; omega) (by rw [← eL, List.take_left' rfl]), ← eL, List.drop_left' rfl]
  have no : ∀ (t : ob_T) (x : Int) (r W : List Int) (m : Nat), TRT N U ft (x :: r) t → t ≠ X → repR LX LY (m + 1) (x :: r ++ W) = x :: repR LX LY m (r ++ W) := by
    intro t x r W m h ne
    refine repR_n rfl (fun q => ne ?_)
    have e : x :: r ++ W = LX ++ (x :: r ++ W).drop LX.length := by
      conv => lhs; rw [← List.take_append_drop LX.length (x :: r ++ W), q]
    exact ((TRT_pf hD hI t).1 (x :: r) W X LX _ h hX e).1
  have leaf : ∀ (t : ob_T) (x : Int) (W : List Int) (m : Nat), TRT N U ft [x] t → ([x] ++ W).length ≤ m → t ≠ X → ∃ (L1 : List Int) (m1 : Nat), W.length ≤ m1 ∧ repR LX LY m ([x] ++ W) = L1 ++ repR LX LY m1 W ∧ TRT N U ft L1 t := by
    intro t x W m h hm ne
    rw [List.length_append] at hm
    have hm : 1 + W.length ≤ m := hm
    obtain ⟨m0, rfl⟩ : ∃ m0 : Nat, m = m0 + 1 := ⟨m - 1, by omega⟩
    exact ⟨[x], m0, by omega, no t x [] W m0 h ne, h⟩
  intro t
  induction t with
  | num n =>
    refine ⟨fun L W m h hm => ?_, fun L W m h => absurd h id⟩
    show ∃ (L1 : List Int) (m1 : Nat), _ ∧ _ ∧ TRT N U ft L1 (ifc _ _ _)
    by_cases c : (.num n : ob_T) = X
    · rw [ifc_pos c]
      exact yes _ L W m h hm c
    · rw [ifc_neg c]
      have h0 := h
      obtain ⟨k, k1, k2, k3⟩ := h
      rw [k3] at h0 hm ⊢
      exact leaf _ _ W m h0 hm c
  | var v =>
    refine ⟨fun L W m h hm => ?_, fun L W m h hm => ?_⟩
    · show ∃ (L1 : List Int) (m1 : Nat), _ ∧ _ ∧ TRT N U ft L1 (ifc _ _ _)
      by_cases c : (.var v : ob_T) = X
      · rw [ifc_pos c]
        exact yes _ L W m h hm c
      · rw [ifc_neg c]
        have h0 := h
        obtain ⟨k, k1, k2, k3⟩ := h
        rw [k3] at h0 hm ⊢
        exact leaf _ _ W m h0 hm c
    · rw [h.2] at hm ⊢
      exact ⟨[], m, hm, rfl, ⟨h.1, rfl⟩, rfl⟩
  | add a b ia ib =>
    refine ⟨fun L W m h hm => ?_, fun L W m h hm => ?_⟩
    · show ∃ (L1 : List Int) (m1 : Nat), _ ∧ _ ∧ TRT N U ft L1 (ifc _ _ _)
      by_cases c : (.add a b : ob_T) = X
      · rw [ifc_pos c]
        exact yes _ L W m h hm c
      · rw [ifc_neg c]
        have h0 := h
        rcases h with ⟨h1, h2, h3, k, k1, k2, k3⟩ | ⟨v, L2, h1, h2, h3, h4, h5, h6⟩
        · rw [if_pos h1]
          rw [k3] at h0 hm ⊢
          exact leaf _ _ W m h0 hm c
        · rw [if_neg (by rw [h2]; decide)]
          rw [h4] at h0 hm ⊢
          rw [List.length_append, List.length_cons] at hm
          obtain ⟨m0, rfl⟩ : ∃ m0 : Nat, m = m0 + 1 := ⟨m - 1, by omega⟩
          obtain ⟨L3, m1, q1, q2, q3, q4⟩ := ib.2 L2 W m0 h5 (by rw [List.length_append]; omega)
          refine ⟨ft v :: L3, m1, q1, ?_, Or.inr ⟨v, L3, h1, h2, h3, rfl, q3, by rw [q4]; exact h6⟩⟩
          rw [no _ (ft v) L2 W m0 h0 c, q2]
          rfl
    · obtain ⟨L1, L2, h1, h2, h3⟩ := h
      rw [h1, List.append_assoc] at hm ⊢
      obtain ⟨L3, m1, q1, q2, q3⟩ := ia.1 L1 (L2 ++ W) m h2 hm
      obtain ⟨L4, m2, p1, p2, p3, p4⟩ := ib.2 L2 W m1 h3 q1
      refine ⟨L3 ++ L4, m2, p1, ?_, ⟨L3, L4, rfl, q3, p3⟩, ?_⟩
      · rw [q2, p2, List.append_assoc]
      · show 1 + (sp_ts ft (sp_re X Y b).2).2.2 = 1 + (sp_ts ft b).2.2
        rw [p4]
  | sub a b _ _ => exact ⟨fun L W m h => absurd h id, fun L W m h => absurd h id⟩
  | neg a _ => exact ⟨fun L W m h => absurd h id, fun L W m h => absurd h id⟩
  | mulL k a _ => exact ⟨fun L W m h => absurd h id, fun L W m h => absurd h id⟩
  | mulR a k _ => exact ⟨fun L W m h => absurd h id, fun L W m h => absurd h id⟩
theorem TRT_rep (hD : HD N U) (hI : HI ft) {X Y t : ob_T} {LX LY L : List Int} (hX : TRT N U ft LX X) (hY : TRT N U ft LY Y) (h : TRT N U ft L t) : TRT N U ft (repR LX LY L.length L) (sp_re X Y t).1 := by
  obtain ⟨L1, m1, q1, q2, q3⟩ := (TRT_re hD hI hX hY t).1 L [] L.length h (by rw [List.append_nil]; exact Nat.le_refl _)
  rw [List.append_nil, repR_z, List.append_nil] at q2
  rw [q2]
  exact q3
end ROI
