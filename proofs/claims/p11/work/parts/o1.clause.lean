noncomputable def sp_pu (D : List ob_T) (x : ob_T) : List ob_T := ifc (x ∈ D) D (D ++ [x])
def sp_zz : List ob_T → Int
  | [] => 0
  | t :: D => (sp_sz t).1 + sp_zz D
noncomputable def sp_cf : List ob_T → List (Option ob_T) → Option (List ob_T)
  | D, [] => some D
  | D, some x :: r => sp_cf (sp_pu D x) r
  | _, none :: _ => none
def sp_bn (D : List ob_T) : Prop := D.length ≤ 30 ∧ sp_zz D ≤ 400
noncomputable def sp_cz (its : List (Option ob_T)) : Option (List ob_T) := match sp_cf [] its with
  | some D => ifc (sp_bn D) (some D) none
  | none => none
def clO (X : Int × List (List Int)) : Option (List Int) → Int × List (List Int)
  | none => (1, X.2)
  | some r => clA X r
def ITR (N : Int → Int) (U : Int) (ft : Nat → Int) : List (Option (List Int)) → List (Option ob_T) → Prop
  | [], [] => True
  | some r :: R, some t :: T => TRT N U ft r t ∧ ITR N U ft R T
  | none :: R, none :: T => ITR N U ft R T
  | _, _ => False
section CLF
variable {N : Int → Int} {U : Int} {ft : Nat → Int}
theorem sp_sz_1 : ∀ t : ob_T, 1 ≤ (sp_sz t).1 ∧ 0 ≤ (sp_sz t).2 := by
  intro t
  induction t with
  | num n =>
    show (1 : Int) ≤ 1 ∧ (0 : Int) ≤ 0
    decide
  | var v =>
    show (1 : Int) ≤ 1 ∧ (0 : Int) ≤ 0
    decide
  | add a b ia ib =>
    refine ⟨?_, ?_⟩
    · show 1 ≤ (if sp_isq a = true then 1 else 1 + (sp_sz b).2)
      split <;> omega
    · show 0 ≤ (sp_sz a).1 + (sp_sz b).2
      omega
  | sub a b _ _ =>
    show (1 : Int) ≤ 1 ∧ (0 : Int) ≤ 0
    decide
  | neg a _ =>
    show (1 : Int) ≤ 1 ∧ (0 : Int) ≤ 0
    decide
  | mulL k a _ =>
    show (1 : Int) ≤ 1 ∧ (0 : Int) ≤ 0
    decide
  | mulR a k _ =>
    show (1 : Int) ≤ 1 ∧ (0 : Int) ≤ 0
    decide
theorem sp_zz_app : ∀ (D : List ob_T) (x : ob_T), sp_zz (D ++ [x]) = sp_zz D + (sp_sz x).1
  | [], x => by
    show (sp_sz x).1 + 0 = 0 + (sp_sz x).1
    omega
  | t :: D, x => by
    show (sp_sz t).1 + sp_zz (D ++ [x]) = (sp_sz t).1 + sp_zz D + (sp_sz x).1
    rw [sp_zz_app D x]
    omega
theorem sp_pu_gr (D : List ob_T) (x : ob_T) : D.length ≤ (sp_pu D x).length ∧ sp_zz D ≤ sp_zz (sp_pu D x) := by
  have s := (sp_sz_1 x).1
  by_cases c : x ∈ D
  · unfold sp_pu
    rw [ifc_pos c]
    exact ⟨Nat.le_refl _, Int.le_refl _⟩
  · unfold sp_pu
    rw [ifc_neg c, List.length_append, sp_zz_app]
    exact ⟨by omega, by omega⟩
theorem sp_cf_gr : ∀ (T : List (Option ob_T)) (D D1 : List ob_T), sp_cf D T = some D1 → D.length ≤ D1.length ∧ sp_zz D ≤ sp_zz D1
  | [], D, D1, h => by
    injection h with h
    rw [h]
    exact ⟨Nat.le_refl _, Int.le_refl _⟩
  | some x :: r, D, D1, h => by
    have i := sp_cf_gr r (sp_pu D x) D1 h
    have p := sp_pu_gr D x
    omega
  | none :: r, D, D1, h => by cases h
theorem TRO_mem (hD : HD N U) (hI : HI ft) {r : List Int} {t : ob_T} (h : TRT N U ft r t) : ∀ (Z : List (List Int)) (D : List ob_T), TRO N U ft Z D → (r ∈ Z ↔ t ∈ D)
  | [], [], _ => ⟨fun q => absurd q List.not_mem_nil, fun q => absurd q List.not_mem_nil⟩
  | [], _ :: _, q => absurd q id
  | _ :: _, [], q => absurd q id
  | x :: Z, y :: D, q => by
    rw [List.mem_cons, List.mem_cons, TRT_eq hD hI h q.1, TRO_mem hD hI h Z D q.2]
theorem TRO_len : ∀ (Z : List (List Int)) (D : List ob_T), TRO N U ft Z D → Z.length = D.length ∧ (zs Z : Int) = sp_zz D
  | [], [], _ => ⟨rfl, rfl⟩
  | [], _ :: _, q => absurd q id
  | _ :: _, [], q => absurd q id
  | x :: Z, y :: D, q => by
    have i := TRO_len Z D q.2
    have l := ((TRT_len y).1 x q.1).1
    refine ⟨by rw [List.length_cons, List.length_cons, i.1], ?_⟩
    show ((x.length + zs Z : Nat) : Int) = (sp_sz y).1 + sp_zz D
    omega
theorem TRO_app {r : List Int} {t : ob_T} (h : TRT N U ft r t) : ∀ (Z : List (List Int)) (D : List ob_T), TRO N U ft Z D → TRO N U ft (Z ++ [r]) (D ++ [t])
  | [], [], _ => ⟨h, trivial⟩
  | [], _ :: _, q => absurd q id
  | _ :: _, [], q => absurd q id
  | x :: Z, y :: D, q => ⟨q.1, TRO_app h Z D q.2⟩
theorem clA_1 {X : Int × List (List Int)} {r : List Int} (h : X.1 = 1) : (clA X r).1 = 1 := by
  unfold clA
  split
  · exact h
  · split
    · rfl
    · exact h
theorem clO_1 : ∀ (R : List (Option (List Int))) (X : Int × List (List Int)), X.1 = 1 → (R.foldl clO X).1 = 1
  | [], X, h => h
  | none :: R, X, _ => clO_1 R (1, X.2) rfl
  | some r :: R, X, h => clO_1 R (clA X r) (clA_1 h)
theorem CLF_go (hD : HD N U) (hI : HI ft) : ∀ (R : List (Option (List Int))) (T : List (Option ob_T)) (Z : List (List Int)) (D : List ob_T), ITR N U ft R T → TRO N U ft Z D → sp_bn D → ((R.foldl clO (0, Z)).1 = 0 ∧ ∃ D1 : List ob_T, sp_cf D T = some D1 ∧ sp_bn D1 ∧ TRO N U ft (R.foldl clO (0, Z)).2 D1) ∨ ((R.foldl clO (0, Z)).1 = 1 ∧ ∀ D1 : List ob_T, sp_cf D T = some D1 → ¬ sp_bn D1)
  | [], [], Z, D, _, h, b => Or.inl ⟨rfl, D, rfl, b, h⟩
  | [], _ :: _, Z, D, q, _, _ => absurd q id
  | some _ :: _, [], Z, D, q, _, _ => absurd q id
  | none :: _, [], Z, D, q, _, _ => absurd q id
  | some _ :: _, none :: _, Z, D, q, _, _ => absurd q id
  | none :: _, some _ :: _, Z, D, q, _, _ => absurd q id
  | none :: R, none :: T, Z, D, _, h, b => Or.inr ⟨clO_1 R (1, Z) rfl, fun D1 q => by cases q⟩
  | some r :: R, some t :: T, Z, D, q, h, b => by
    have m := TRO_mem hD hI q.1 Z D h
    have l := TRO_len Z D h
    have tl := ((TRT_len t).1 r q.1).1
    show ((R.foldl clO (clA (0, Z) r)).1 = 0 ∧ ∃ D1 : List ob_T, sp_cf (sp_pu D t) T = some D1 ∧ sp_bn D1 ∧ TRO N U ft (R.foldl clO (clA (0, Z) r)).2 D1) ∨ ((R.foldl clO (clA (0, Z) r)).1 = 1 ∧ ∀ D1 : List ob_T, sp_cf (sp_pu D t) T = some D1 → ¬ sp_bn D1)
    by_cases c : r ∈ Z
    · have e1 : clA (0, Z) r = (0, Z) := if_pos c
      have e2 : sp_pu D t = D := ifc_pos (m.mp c)
      rw [e1, e2]
      exact CLF_go hD hI R T Z D q.2 h b
    · have e2 : sp_pu D t = D ++ [t] := ifc_neg (fun w => c (m.mpr w))
      by_cases c2 : 30 ≤ Z.length ∨ 400 < zs Z + r.length
      · have e1 : clA (0, Z) r = (1, Z) := by
          unfold clA
          rw [if_neg c, if_pos c2]
        rw [e1]
        refine Or.inr ⟨clO_1 R (1, Z) rfl, fun D1 w b1 => ?_⟩
        have g := sp_cf_gr T (sp_pu D t) D1 w
        rw [e2, List.length_append, sp_zz_app] at g
        have g1 : D.length + 1 ≤ D1.length := g.1
        have b2 := b1.1
        have b3 := b1.2
        omega
      · have e1 : clA (0, Z) r = (0, Z ++ [r]) := by
          unfold clA
          rw [if_neg c, if_neg c2]
        rw [e1, e2]
        refine CLF_go hD hI R T (Z ++ [r]) (D ++ [t]) q.2 (TRO_app q.1 Z D h) ⟨?_, ?_⟩
        · rw [List.length_append]
          show D.length + 1 ≤ 30
          omega
        · rw [sp_zz_app]
          omega
theorem CLF_cl (hD : HD N U) (hI : HI ft) {R : List (Option (List Int))} {T : List (Option ob_T)} (h : ITR N U ft R T) : ((R.foldl clO (0, [])).1 = 0 ∧ ∃ D1 : List ob_T, sp_cz T = some D1 ∧ TRO N U ft (R.foldl clO (0, [])).2 D1) ∨ ((R.foldl clO (0, [])).1 = 1 ∧ sp_cz T = none) := by
  rcases CLF_go hD hI R T [] [] h trivial ⟨by decide, by decide⟩ with ⟨a, D1, e, b, t⟩ | ⟨a, n⟩
  · refine Or.inl ⟨a, D1, ?_, t⟩
    unfold sp_cz
    rw [e]
    exact ifc_pos b
  · refine Or.inr ⟨a, ?_⟩
    unfold sp_cz
    match e : sp_cf [] T with
    | none => rfl
    | some D => exact ifc_neg (n D e)
theorem ITR_app : ∀ (R : List (Option (List Int))) (T : List (Option ob_T)) {R2 : List (Option (List Int))} {T2 : List (Option ob_T)}, ITR N U ft R T → ITR N U ft R2 T2 → ITR N U ft (R ++ R2) (T ++ T2)
  | [], [], _, _, _, h2 => h2
  | [], _ :: _, _, _, h, _ => absurd h id
  | some _ :: _, [], _, _, h, _ => absurd h id
  | none :: _, [], _, _, h, _ => absurd h id
  | some _ :: _, none :: _, _, _, h, _ => absurd h id
  | none :: _, some _ :: _, _, _, h, _ => absurd h id
  | none :: R, none :: T, _, _, h, h2 => ITR_app R T h h2
  | some _ :: R, some _ :: T, _, _, h, h2 => ⟨h.1, ITR_app R T h.2 h2⟩
theorem ITR_of : ∀ {Z : List (List Int)} {D : List ob_T}, TRO N U ft Z D → ITR N U ft (Z.map some) (D.map some)
  | [], [], _ => trivial
  | [], _ :: _, h => absurd h id
  | _ :: _, [], h => absurd h id
  | _ :: _, _ :: _, h => ⟨h.1, ITR_of h.2⟩
end CLF
