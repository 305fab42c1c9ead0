def sml : List Int → Int
  | [] => 0
  | x :: r => tk x - 1 + sml r
section PAT
variable {N : Int → Int} {U : Int} {ft : Nat → Int} {n : Int} {f : Int → Int}
theorem sml_app : ∀ (L L2 : List Int), sml (L ++ L2) = sml L + sml L2
  | [], L2 => by
    show sml L2 = 0 + sml L2
    omega
  | x :: L, L2 => by
    show tk x - 1 + sml (L ++ L2) = tk x - 1 + sml L + sml L2
    rw [sml_app L L2]
    omega
theorem sm_sml : ∀ (p m : Nat), ((p + m : Nat) : Int) ≤ n → sm f (p + m) = sm f p + sml (((rl n f).drop p).take m)
  | p, 0, _ => by
    show sm f p = sm f p + 0
    omega
  | p, m + 1, h => by
    have i := sm_sml p m (by omega)
    have e : ((rl n f).drop p).take (m + 1) = ((rl n f).drop p).take m ++ [f ((p + m : Nat) : Int)] := by
      rw [List.take_add_one, List.getElem?_drop, rl_get (by omega)]
      rfl
    rw [e, sml_app]
    show sm f (p + m) + (tk (f ((p + m : Nat) : Int)) - 1) = sm f p + (sml (((rl n f).drop p).take m) + (tk (f ((p + m : Nat) : Int)) - 1 + 0))
    omega
theorem tk_leaf (k b : Int) (h : b = 0 ∨ b = 1) : tk (k * 32 + b) = 0 := by
  unfold tk
  omega
theorem TRT_sml : ∀ (t : ob_T), (∀ R : List Int, TRT N U ft R t → sml R = -1 ∧ ∀ m : Nat, m < R.length → 0 ≤ sml (R.take m)) ∧ (∀ R : List Int, TRL N U ft R t → sml R = -(sp_ts ft t).2.2 ∧ ∀ m : Nat, m < R.length → 1 - (sp_ts ft t).2.2 ≤ sml (R.take m)) := by
  have one : ∀ (x : Int), tk x = 0 → sml [x] = -1 ∧ ∀ m : Nat, m < [x].length → 0 ≤ sml ([x].take m) := by
    intro x h
    refine ⟨?_, fun m hm => ?_⟩
    · show tk x - 1 + 0 = -1
      omega
    · have hm : m < 1 := hm
      rw [show m = 0 by omega]
      exact Int.le_refl _
  intro t
  induction t with
  | num k =>
    refine ⟨fun R h => ?_, fun R h => absurd h id⟩
    obtain ⟨k, -, -, k3⟩ := h
    rw [k3]
    exact one _ (tk_leaf k 1 (Or.inr rfl))
  | var v =>
    refine ⟨fun R h => ?_, fun R h => ?_⟩
    · obtain ⟨k, -, -, k3⟩ := h
      rw [k3]
      refine one _ ?_
      unfold sp_vt
      split
      · exact tk_leaf k 1 (Or.inr rfl)
      · have := tk_leaf k 0 (Or.inl rfl)
        rw [Int.add_zero] at this
        exact this
    · rw [h.2]
      exact ⟨rfl, fun m hm => absurd hm (Nat.not_lt_zero _)⟩
  | add a b ia ib =>
    refine ⟨fun R h => ?_, fun R h => ?_⟩
    · rcases h with ⟨-, -, -, k, -, -, k3⟩ | ⟨v, L2, h1, h2, h3, h4, h5, h6⟩
      · rw [k3]
        exact one _ (tk_leaf k 1 (Or.inr rfl))
      · obtain ⟨q1, q2⟩ := ib.2 L2 h5
        have tv : tk (ft v) = (sp_ts ft b).2.2 := h6.symm
        rw [h4]
        refine ⟨?_, fun m hm => ?_⟩
        · show tk (ft v) - 1 + sml L2 = -1
          omega
        · match m, hm with
          | 0, _ => exact Int.le_refl _
          | m + 1, hm =>
            have := q2 m (by rw [List.length_cons] at hm; omega)
            show 0 ≤ tk (ft v) - 1 + sml (L2.take m)
            omega
    · obtain ⟨L1, L2, h1, h2, h3⟩ := h
      obtain ⟨p1, p2⟩ := ia.1 L1 h2
      obtain ⟨q1, q2⟩ := ib.2 L2 h3
      have e : (sp_ts ft (.add a b)).2.2 = 1 + (sp_ts ft b).2.2 := rfl
      have nn := (sp_ts_nn (ft := ft) b).2.2
      rw [h1, sml_app, e]
      refine ⟨by omega, fun m hm => ?_⟩
      rw [List.take_append]
      by_cases c : m < L1.length
      · rw [show m - L1.length = 0 by omega, List.take_zero, List.append_nil]
        have := p2 m c
        omega
      · rw [List.take_of_length_le (by omega), sml_app, p1]
        by_cases c2 : m - L1.length < L2.length
        · have := q2 _ c2
          omega
        · rw [List.length_append] at hm
          omega
  | sub a b _ _ => exact ⟨fun R h => absurd h id, fun R h => absurd h id⟩
  | neg a _ => exact ⟨fun R h => absurd h id, fun R h => absurd h id⟩
  | mulL k a _ => exact ⟨fun R h => absurd h id, fun R h => absurd h id⟩
  | mulR a k _ => exact ⟨fun R h => absurd h id, fun R h => absurd h id⟩
def TRA (N : Int → Int) (U : Int) (ft : Nat → Int) (n : Int) (f : Int → Int) (p : Nat) (R : List Int) (t : ob_T) : Prop := (∃ X : List Int, (rl n f).drop p = R ++ X) ∧ TRT N U ft R t
theorem TRA_lt {p : Nat} {R : List Int} {t : ob_T} (h : TRA N U ft n f p R t) : ((p + R.length : Nat) : Int) ≤ n ∧ 1 ≤ R.length := by
  obtain ⟨⟨X, e⟩, t1⟩ := h
  have l := congrArg List.length e
  rw [List.length_drop, rl_len, List.length_append] at l
  have := ((TRT_len t).1 R t1).2
  omega
theorem TRA_bp (hW : WFT n f) {p : Nat} {R : List Int} {t : ob_T} (h : TRA N U ft n f p R t) : bp n f p = p + R.length := by
  have lt := TRA_lt h
  obtain ⟨⟨X, e⟩, t1⟩ := h
  obtain ⟨q1, q2⟩ := (TRT_sml t).1 R t1
  have tk1 : ∀ m : Nat, m ≤ R.length → ((rl n f).drop p).take m = R.take m := by
    intro m hm
    rw [e, List.take_append_of_le_length hm]
  refine bp_uq hW (by omega) (by omega) ?_ (fun j j0 j1 => ?_)
  · have := sm_sml (n := n) (f := f) p R.length (by omega)
    rw [this, tk1 _ (Nat.le_refl _), List.take_length, q1]
    omega
  · obtain ⟨m, rfl⟩ : ∃ m : Nat, j = p + m := ⟨j - p, by omega⟩
    have := sm_sml (n := n) (f := f) p m (by omega)
    rw [this, tk1 _ (by omega)]
    have := q2 m (by omega)
    omega
theorem TRA_0 {t : ob_T} (h : TRT N U ft (rl n f) t) : TRA N U ft n f 0 (rl n f) t := ⟨⟨[], by rw [List.append_nil]; rfl⟩, h⟩
theorem TRA_hd {p : Nat} {x : Int} {r : List Int} {t : ob_T} (h : TRA N U ft n f p (x :: r) t) : f (p : Int) = x := by
  have lt := TRA_lt h
  obtain ⟨⟨X, e⟩, -⟩ := h
  rw [List.length_cons] at lt
  rw [rl_drop (show (p : Int) < n by omega)] at e
  injection e
theorem TRA_sub {p : Nat} {R R1 R2 R3 : List Int} {t t2 : ob_T} (h : TRA N U ft n f p R t) (e : R = R1 ++ R2 ++ R3) (h2 : TRT N U ft R2 t2) : TRA N U ft n f (p + R1.length) R2 t2 := by
  obtain ⟨⟨X, e1⟩, -⟩ := h
  refine ⟨⟨R3 ++ X, ?_⟩, h2⟩
  rw [← List.drop_drop, e1, e, List.append_assoc, List.append_assoc, List.drop_left' rfl]
theorem TRA_row {p : Nat} {R : List Int} {t : ob_T} (h : TRA N U ft n f p R t) : ((rl n f).drop p).take R.length = R := by
  obtain ⟨⟨X, e⟩, -⟩ := h
  rw [e, List.take_left' rfl]
end PAT
