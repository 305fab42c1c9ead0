noncomputable def sp_fin (ft : Nat → Int) (FB : List (Nat × List Nat × ob_T)) (TB : List (Nat × ob_T)) (r : Nat) (x : ob_T) (Ps : List (List ob_T)) : Option (List ob_T) := if r = 2399032 then (sp_all ((sp_as (sp_p 1 x)).map (sp_tm ft))).bind (fun os => sp_cz ((Ps.getD 0 []).map some ++ os.map some)) else if r = 7634 then (sp_tm ft (sp_p 1 x)).bind (fun l => (sp_ntO (some l)).bind (fun nl => ifc (l ∈ Ps.getD 0 [] ∧ nl ∈ Ps.getD 1 []) (sp_cz ((sp_rm l (Ps.getD 0 [])).map some ++ (sp_rm nl (Ps.getD 1 [])).map some)) none)) else if r = 966246 then (sp_all (((sp_as x).drop 2).map (fun y => sp_tm ft (sp_p 1 y)))).bind (fun os => sp_cz ((Ps.getD 0 []).map (fun t => sp_opO (sp_in (((sp_as x).drop 2).map (fun y => sp_hc (sp_p 0 y))) os t).1))) else if r = 2023507 then ((Ps.getD 0 []).head?.bind sp_eqp).bind (fun e => sp_cz (sp_opO (sp_eq e.2 e.1) :: ((Ps.getD 0 []).drop 1).map some)) else if r = 36351 then ((Ps.getD 0 []).head?.bind sp_eqp).bind (fun e => sp_cz ((Ps.getD 1 []).map (fun t => sp_opO (sp_re e.1 e.2 t).1) ++ ((Ps.getD 0 []).drop 1).map some)) else if r = 2132882439 then (sp_tm ft (sp_p 1 x)).bind (fun F => (sp_fb FB (sp_p 0 (sp_p 2 x))).bind (fun fn => (sp_opO (sp_in fn.2.1 (sp_as (sp_cd (sp_p 2 x))) fn.2.2).1).bind (fun B => ifc (∀ k : Nat, k < (sp_ph fn.2.2).length → ∃ (p : List (Bool × ob_T) × ob_T) (D P : List ob_T), (sp_ph B)[k]? = some p ∧ sp_cz (sp_du fn.1 ((sp_as (sp_cd (sp_p 2 x))).map sp_hc) F p) = some D ∧ Ps[k]? = some P ∧ ∀ t ∈ P, t ∈ D) (sp_cz [some F]) none))) else sp_lf ft FB TB r x
def sp_gd (ft : Nat → Int) (FB : List (Nat × List Nat × ob_T)) (r : Nat) (x : ob_T) : Prop := (r = 2399032 → (sp_as x).length = 3 ∧ sp_fw ft x) ∧ (r = 7634 → (sp_as x).length = 4 ∧ sp_tm ft (sp_p 1 x) ≠ none) ∧ (r = 966246 → 2 ≤ (sp_as x).length ∧ sp_fi ft x) ∧ (r = 2023507 → (sp_as x).length = 2) ∧ (r = 36351 → (sp_as x).length = 3) ∧ (r = 2132882439 → 3 ≤ (sp_as x).length ∧ sp_fd ft FB x)
def NRU (r : Nat) : Prop := r ≠ 2399032 ∧ r ≠ 7634 ∧ r ≠ 966246 ∧ r ≠ 2023507 ∧ r ≠ 36351 ∧ r ≠ 2132882439
theorem opt_ex {α : Type} {o : Option α} (h : o ≠ none) : ∃ a : α, o = some a := by
  cases o with
  | none => exact absurd rfl h
  | some a => exact ⟨a, rfl⟩
section RUF
variable {ft : Nat → Int} {FB : List (Nat × List Nat × ob_T)} {TB : List (Nat × ob_T)} {f : ob_T → Int → Option (List ob_T × Int)} {r : Nat} {x : ob_T} {st : Int} {Ps : List (List ob_T)}
theorem ru_1 : sp_ru ft FB TB f 2399032 x st = (if (sp_as x).length = 3 then sp_weak ft f x st else none) := by
  unfold sp_ru
  rw [if_pos rfl]
theorem ru_2 : sp_ru ft FB TB f 7634 x st = (if (sp_as x).length = 4 then sp_cut ft f x st else none) := by
  unfold sp_ru
  rw [if_neg (by decide), if_pos rfl]
theorem ru_3 : sp_ru ft FB TB f 966246 x st = (if 2 ≤ (sp_as x).length then sp_inst ft f x st else none) := by
  unfold sp_ru
  rw [if_neg (by decide), if_neg (by decide), if_pos rfl]
theorem ru_4 : sp_ru ft FB TB f 2023507 x st = (if (sp_as x).length = 2 then sp_swap f x st else none) := by
  unfold sp_ru
  rw [if_neg (by decide), if_neg (by decide), if_neg (by decide), if_pos rfl]
theorem ru_5 : sp_ru ft FB TB f 36351 x st = (if (sp_as x).length = 3 then sp_put f x st else none) := by
  unfold sp_ru
  rw [if_neg (by decide), if_neg (by decide), if_neg (by decide), if_neg (by decide), if_pos rfl]
theorem ru_6 : sp_ru ft FB TB f 2132882439 x st = (if 3 ≤ (sp_as x).length then sp_ind ft FB f x st else none) := by
  unfold sp_ru
  rw [if_neg (by decide), if_neg (by decide), if_neg (by decide), if_neg (by decide), if_neg (by decide), if_pos rfl]
theorem ru_7 (h : NRU r) : sp_ru ft FB TB f r x st = sp_cs2 (sp_lf ft FB TB r x) st := by
  unfold sp_ru
  rw [if_neg h.1, if_neg h.2.1, if_neg h.2.2.1, if_neg h.2.2.2.1, if_neg h.2.2.2.2.1, if_neg h.2.2.2.2.2]
theorem in_1 : sp_ins ft FB 2399032 x = ifc ((sp_as x).length = 3 ∧ sp_fw ft x) [sp_p 2 x] [] := by
  unfold sp_ins
  rw [if_pos rfl]
theorem in_2 : sp_ins ft FB 7634 x = ifc ((sp_as x).length = 4 ∧ sp_tm ft (sp_p 1 x) ≠ none) [sp_p 2 x, sp_p 3 x] [] := by
  unfold sp_ins
  rw [if_neg (by decide), if_pos rfl]
theorem in_3 : sp_ins ft FB 966246 x = ifc (2 ≤ (sp_as x).length ∧ sp_fi ft x) [sp_p 1 x] [] := by
  unfold sp_ins
  rw [if_neg (by decide), if_neg (by decide), if_pos rfl]
theorem in_4 : sp_ins ft FB 2023507 x = ifc ((sp_as x).length = 2) [sp_p 1 x] [] := by
  unfold sp_ins
  rw [if_neg (by decide), if_neg (by decide), if_neg (by decide), if_pos rfl]
theorem in_5 : sp_ins ft FB 36351 x = ifc ((sp_as x).length = 3) [sp_p 1 x, sp_p 2 x] [] := by
  unfold sp_ins
  rw [if_neg (by decide), if_neg (by decide), if_neg (by decide), if_neg (by decide), if_pos rfl]
theorem in_6 : sp_ins ft FB 2132882439 x = ifc (3 ≤ (sp_as x).length ∧ sp_fd ft FB x) ((sp_as x).drop 3) [] := by
  unfold sp_ins
  rw [if_neg (by decide), if_neg (by decide), if_neg (by decide), if_neg (by decide), if_neg (by decide), if_pos rfl]
theorem in_7 (h : NRU r) : sp_ins ft FB r x = [] := by
  unfold sp_ins
  rw [if_neg h.1, if_neg h.2.1, if_neg h.2.2.1, if_neg h.2.2.2.1, if_neg h.2.2.2.2.1, if_neg h.2.2.2.2.2]
theorem fe_1 : sp_fin ft FB TB 2399032 x Ps = (sp_all ((sp_as (sp_p 1 x)).map (sp_tm ft))).bind (fun os => sp_cz ((Ps.getD 0 []).map some ++ os.map some)) := by
  unfold sp_fin
  rw [if_pos rfl]
theorem fe_2 : sp_fin ft FB TB 7634 x Ps = (sp_tm ft (sp_p 1 x)).bind (fun l => (sp_ntO (some l)).bind (fun nl => ifc (l ∈ Ps.getD 0 [] ∧ nl ∈ Ps.getD 1 []) (sp_cz ((sp_rm l (Ps.getD 0 [])).map some ++ (sp_rm nl (Ps.getD 1 [])).map some)) none)) := by
  unfold sp_fin
  rw [if_neg (by decide), if_pos rfl]
theorem fe_3 : sp_fin ft FB TB 966246 x Ps = (sp_all (((sp_as x).drop 2).map (fun y => sp_tm ft (sp_p 1 y)))).bind (fun os => sp_cz ((Ps.getD 0 []).map (fun t => sp_opO (sp_in (((sp_as x).drop 2).map (fun y => sp_hc (sp_p 0 y))) os t).1))) := by
  unfold sp_fin
  rw [if_neg (by decide), if_neg (by decide), if_pos rfl]
theorem fe_4 : sp_fin ft FB TB 2023507 x Ps = ((Ps.getD 0 []).head?.bind sp_eqp).bind (fun e => sp_cz (sp_opO (sp_eq e.2 e.1) :: ((Ps.getD 0 []).drop 1).map some)) := by
  unfold sp_fin
  rw [if_neg (by decide), if_neg (by decide), if_neg (by decide), if_pos rfl]
theorem fe_5 : sp_fin ft FB TB 36351 x Ps = ((Ps.getD 0 []).head?.bind sp_eqp).bind (fun e => sp_cz ((Ps.getD 1 []).map (fun t => sp_opO (sp_re e.1 e.2 t).1) ++ ((Ps.getD 0 []).drop 1).map some)) := by
  unfold sp_fin
  rw [if_neg (by decide), if_neg (by decide), if_neg (by decide), if_neg (by decide), if_pos rfl]
theorem fe_6 : sp_fin ft FB TB 2132882439 x Ps = (sp_tm ft (sp_p 1 x)).bind (fun F => (sp_fb FB (sp_p 0 (sp_p 2 x))).bind (fun fn => (sp_opO (sp_in fn.2.1 (sp_as (sp_cd (sp_p 2 x))) fn.2.2).1).bind (fun B => ifc (∀ k : Nat, k < (sp_ph fn.2.2).length → ∃ (p : List (Bool × ob_T) × ob_T) (D P : List ob_T), (sp_ph B)[k]? = some p ∧ sp_cz (sp_du fn.1 ((sp_as (sp_cd (sp_p 2 x))).map sp_hc) F p) = some D ∧ Ps[k]? = some P ∧ ∀ t ∈ P, t ∈ D) (sp_cz [some F]) none))) := by
  unfold sp_fin
  rw [if_neg (by decide), if_neg (by decide), if_neg (by decide), if_neg (by decide), if_neg (by decide), if_pos rfl]
theorem fe_7 (h : NRU r) : sp_fin ft FB TB r x Ps = sp_lf ft FB TB r x := by
  unfold sp_fin
  rw [if_neg h.1, if_neg h.2.1, if_neg h.2.2.1, if_neg h.2.2.2.1, if_neg h.2.2.2.2.1, if_neg h.2.2.2.2.2]
theorem sq_1 (a : ob_T) : sp_sq f [a] st = (f a st).bind (fun p => some ([p.1], p.2)) := rfl
theorem sq_2 (a b : ob_T) : sp_sq f [a, b] st = (f a st).bind (fun p => (f b p.2).bind (fun q => some ([p.1, q.1], q.2))) := by
  show (f a st).bind (fun p => ((f b p.2).bind (fun q => some ([q.1], q.2))).map (fun q => (p.1 :: q.1, q.2))) = _
  cases f a st with
  | none => rfl
  | some p =>
    show ((f b p.2).bind (fun q => some ([q.1], q.2))).map (fun q => (p.1 :: q.1, q.2)) = (f b p.2).bind (fun q => some ([p.1, q.1], q.2))
    cases f b p.2 <;> rfl
theorem ru_fin (g : sp_gd ft FB r x) : sp_ru ft FB TB f r x st = (sp_sq f (sp_ins ft FB r x) st).bind (fun Q => sp_cs2 (sp_fin ft FB TB r x Q.1) Q.2) := by
  by_cases r1 : r = 2399032
  · have g9 := g.1 r1
    subst r1
    simp only [fe_1]
    rw [ru_1, in_1, if_pos g9.1, ifc_pos g9, sq_1]
    unfold sp_weak
    obtain ⟨os, eo⟩ := opt_ex g9.2.2
    rw [if_pos g9.2.1, eo]
    show (f (sp_p 2 x) st).bind _ = _
    cases f (sp_p 2 x) st <;> rfl
  by_cases r2 : r = 7634
  · have g9 := g.2.1 r2
    subst r2
    simp only [fe_2]
    rw [ru_2, in_2, if_pos g9.1, ifc_pos g9, sq_2]
    unfold sp_cut
    obtain ⟨l, eo⟩ := opt_ex g9.2
    rw [eo]
    show (f (sp_p 2 x) st).bind _ = _
    cases f (sp_p 2 x) st with
    | none => rfl
    | some p =>
      show (f (sp_p 3 x) p.2).bind _ = ((f (sp_p 3 x) p.2).bind _).bind _
      cases f (sp_p 3 x) p.2 with
      | none => rfl
      | some q =>
        show (sp_ntO (some l)).bind _ = sp_cs2 ((sp_ntO (some l)).bind _) q.2
        cases sp_ntO (some l) with
        | none => rfl
        | some nl =>
          show ifc (l ∈ p.1 ∧ nl ∈ q.1) (sp_cs2 _ q.2) none = sp_cs2 (ifc (l ∈ p.1 ∧ nl ∈ q.1) _ none) q.2
          by_cases c : l ∈ p.1 ∧ nl ∈ q.1
          · rw [ifc_pos c, ifc_pos c]
            rfl
          · rw [ifc_neg c, ifc_neg c]
            rfl
  by_cases r3 : r = 966246
  · have g9 := g.2.2.1 r3
    subst r3
    simp only [fe_3]
    rw [ru_3, in_3, if_pos g9.1, ifc_pos g9, sq_1]
    unfold sp_inst
    obtain ⟨os, eo⟩ := opt_ex g9.2.2
    rw [ifc_pos g9.2.1, eo]
    show (f (sp_p 1 x) st).bind _ = _
    cases f (sp_p 1 x) st <;> rfl
  by_cases r4 : r = 2023507
  · have g9 := g.2.2.2.1 r4
    subst r4
    simp only [fe_4]
    rw [ru_4, in_4, if_pos g9, ifc_pos g9, sq_1]
    unfold sp_swap
    cases f (sp_p 1 x) st with
    | none => rfl
    | some p =>
      show (p.1.head?.bind sp_eqp).bind _ = sp_cs2 ((p.1.head?.bind sp_eqp).bind _) p.2
      cases p.1.head?.bind sp_eqp <;> rfl
  by_cases r5 : r = 36351
  · have g9 := g.2.2.2.2.1 r5
    subst r5
    simp only [fe_5]
    rw [ru_5, in_5, if_pos g9, ifc_pos g9, sq_2]
    unfold sp_put
    cases f (sp_p 1 x) st with
    | none => rfl
    | some p =>
      show (f (sp_p 2 x) p.2).bind _ = ((f (sp_p 2 x) p.2).bind _).bind _
      cases f (sp_p 2 x) p.2 with
      | none => rfl
      | some q =>
        show (p.1.head?.bind sp_eqp).bind _ = sp_cs2 ((p.1.head?.bind sp_eqp).bind _) q.2
        cases p.1.head?.bind sp_eqp <;> rfl
  by_cases r6 : r = 2132882439
  · have g9 := g.2.2.2.2.2 r6
    subst r6
    simp only [fe_6]
    rw [ru_6, in_6, if_pos g9.1, ifc_pos g9]
    unfold sp_ind
    obtain ⟨F, eo⟩ := opt_ex g9.2.1
    obtain ⟨fn, ef, gd⟩ := g9.2.2
    rw [eo, ef]
    show ifc _ ((sp_sq f ((sp_as x).drop 3) st).bind _) none = _
    rw [ifc_pos gd]
    cases sp_sq f ((sp_as x).drop 3) st with
    | none => rfl
    | some Q =>
      show (sp_opO (sp_in fn.2.1 (sp_as (sp_cd (sp_p 2 x))) fn.2.2).1).bind _ = sp_cs2 ((sp_opO (sp_in fn.2.1 (sp_as (sp_cd (sp_p 2 x))) fn.2.2).1).bind _) Q.2
      cases sp_opO (sp_in fn.2.1 (sp_as (sp_cd (sp_p 2 x))) fn.2.2).1 with
      | none => rfl
      | some B =>
        show ifc _ (sp_cs2 (sp_cz [some F]) Q.2) none = sp_cs2 (ifc _ (sp_cz [some F]) none) Q.2
        by_cases c : ∀ k : Nat, k < (sp_ph fn.2.2).length → ∃ (p : List (Bool × ob_T) × ob_T) (D P : List ob_T), (sp_ph B)[k]? = some p ∧ sp_cz (sp_du fn.1 ((sp_as (sp_cd (sp_p 2 x))).map sp_hc) F p) = some D ∧ Q.1[k]? = some P ∧ ∀ t ∈ P, t ∈ D
        · rw [ifc_pos c, ifc_pos c]
        · rw [ifc_neg c, ifc_neg c]
          rfl
  have nr : NRU r := ⟨r1, r2, r3, r4, r5, r6⟩
  simp only [fe_7 nr]
  rw [ru_7 nr, in_7 nr]
  rfl
theorem ru_bad (g : ¬ sp_gd ft FB r x) : sp_ru ft FB TB f r x st = none ∧ sp_ins ft FB r x = [] := by
  by_cases r1 : r = 2399032
  · subst r1
    have g : ¬ ((sp_as x).length = 3 ∧ sp_fw ft x) := fun q => g ⟨fun _ => q, fun e => absurd e (by decide), fun e => absurd e (by decide), fun e => absurd e (by decide), fun e => absurd e (by decide), fun e => absurd e (by decide)⟩
    rw [ru_1, in_1, ifc_neg g]
    refine ⟨?_, rfl⟩
    by_cases c : (sp_as x).length = 3
    · rw [if_pos c]
      unfold sp_weak
      by_cases p : sp_pl (sp_p 1 x) = true
      · rw [if_pos p]
        cases e : sp_all ((sp_as (sp_p 1 x)).map (sp_tm ft)) with
        | none => rfl
        | some os => exact absurd ⟨c, p, by rw [e]; simp⟩ g
      · rw [if_neg p]
    · rw [if_neg c]
  by_cases r2 : r = 7634
  · subst r2
    have g : ¬ ((sp_as x).length = 4 ∧ sp_tm ft (sp_p 1 x) ≠ none) := fun q => g ⟨fun e => absurd e (by decide), fun _ => q, fun e => absurd e (by decide), fun e => absurd e (by decide), fun e => absurd e (by decide), fun e => absurd e (by decide)⟩
    rw [ru_2, in_2, ifc_neg g]
    refine ⟨?_, rfl⟩
    by_cases c : (sp_as x).length = 4
    · rw [if_pos c]
      unfold sp_cut
      cases e : sp_tm ft (sp_p 1 x) with
      | none => rfl
      | some os => exact absurd ⟨c, by rw [e]; simp⟩ g
    · rw [if_neg c]
  by_cases r3 : r = 966246
  · subst r3
    have g : ¬ (2 ≤ (sp_as x).length ∧ sp_fi ft x) := fun q => g ⟨fun e => absurd e (by decide), fun e => absurd e (by decide), fun _ => q, fun e => absurd e (by decide), fun e => absurd e (by decide), fun e => absurd e (by decide)⟩
    rw [ru_3, in_3, ifc_neg g]
    refine ⟨?_, rfl⟩
    by_cases c : 2 ≤ (sp_as x).length
    · rw [if_pos c]
      unfold sp_inst
      by_cases p : (∀ y ∈ (sp_as x).drop 2, sp_pl y = true ∧ (sp_as y).length = 2 ∧ sp_iv (sp_p 0 y) = true) ∧ (((sp_as x).drop 2).map (sp_p 0)).Nodup
      · rw [ifc_pos p]
        cases e : sp_all (((sp_as x).drop 2).map (fun y => sp_tm ft (sp_p 1 y))) with
        | none => rfl
        | some os => exact absurd ⟨c, p, by rw [e]; simp⟩ g
      · rw [ifc_neg p]
    · rw [if_neg c]
  by_cases r4 : r = 2023507
  · subst r4
    have g : ¬ ((sp_as x).length = 2) := fun q => g ⟨fun e => absurd e (by decide), fun e => absurd e (by decide), fun e => absurd e (by decide), fun _ => q, fun e => absurd e (by decide), fun e => absurd e (by decide)⟩
    rw [ru_4, in_4, ifc_neg g, if_neg g]
    exact ⟨rfl, rfl⟩
  by_cases r5 : r = 36351
  · subst r5
    have g : ¬ ((sp_as x).length = 3) := fun q => g ⟨fun e => absurd e (by decide), fun e => absurd e (by decide), fun e => absurd e (by decide), fun e => absurd e (by decide), fun _ => q, fun e => absurd e (by decide)⟩
    rw [ru_5, in_5, ifc_neg g, if_neg g]
    exact ⟨rfl, rfl⟩
  by_cases r6 : r = 2132882439
  · subst r6
    have g : ¬ (3 ≤ (sp_as x).length ∧ sp_fd ft FB x) := fun q => g ⟨fun e => absurd e (by decide), fun e => absurd e (by decide), fun e => absurd e (by decide), fun e => absurd e (by decide), fun e => absurd e (by decide), fun _ => q⟩
    rw [ru_6, in_6, ifc_neg g]
    refine ⟨?_, rfl⟩
    by_cases c : 3 ≤ (sp_as x).length
    · rw [if_pos c]
      unfold sp_ind
      cases e : sp_tm ft (sp_p 1 x) with
      | none => rfl
      | some F =>
        show (sp_fb FB (sp_p 0 (sp_p 2 x))).bind _ = none
        cases e2 : sp_fb FB (sp_p 0 (sp_p 2 x)) with
        | none => rfl
        | some fn =>
          show ifc _ _ none = none
          exact ifc_neg (fun q => g ⟨c, by rw [e]; simp, fn, e2, q⟩)
    · rw [if_neg c]
  exact absurd ⟨fun e => absurd e r1, fun e => absurd e r2, fun e => absurd e r3, fun e => absurd e r4, fun e => absurd e r5, fun e => absurd e r6⟩ g
theorem fin_ax {l m n : ob_T} (nr : NRU r) (nv : r ≠ 107484305) (nd : r ≠ 9077) (nt : r ≠ 44569) (hl : sp_axn r = (sp_as x).length) (h0 : sp_axn r ≠ 0) (h1 : sp_tm ft (sp_p 1 x) = some l) (h2 : sp_tm ft (if 3 ≤ sp_axn r then sp_p 2 x else sp_p 1 x) = some m) (h3 : sp_tm ft (if 4 ≤ sp_axn r then sp_p 3 x else sp_p 1 x) = some n) : sp_fin ft FB TB r x Ps = sp_cz (sp_ax r l m n) := by
  rw [fe_7 nr]
  unfold sp_lf
  rw [if_neg nv, if_neg nd, if_neg nt, if_pos ⟨hl, h0⟩, h1]
  show (sp_tm ft _).bind _ = _
  rw [h2]
  show (sp_tm ft _).bind _ = _
  rw [h3]
  rfl
theorem fin_value {t w : ob_T} (hl : (sp_as x).length = 2) (h1 : sp_tm ft (sp_p 1 x) = some t) (h2 : sp_va ft t = some w) : sp_fin ft FB TB 107484305 x Ps = sp_cz [sp_opO (sp_eq t (sp_cs w))] := by
  rw [fe_7 ⟨by decide, by decide, by decide, by decide, by decide, by decide⟩]
  unfold sp_lf
  rw [if_pos rfl, if_pos hl, h1]
  show (sp_va ft t).bind _ = _
  rw [h2]
  rfl
theorem fin_def {p : Nat × List Nat × ob_T} (hl : (sp_as x).length = 2) (h1 : sp_fb FB (sp_p 1 x) = some p) : sp_fin ft FB TB 9077 x Ps = sp_cz [sp_opO (sp_eq (.add (.var p.1) (sp_li (p.2.1.map .var))) p.2.2)] := by
  rw [fe_7 ⟨by decide, by decide, by decide, by decide, by decide, by decide⟩]
  unfold sp_lf
  rw [if_neg (by decide), if_pos rfl, if_pos hl, h1]
  rfl
theorem fin_thm {p : Nat × ob_T} (hl : (sp_as x).length = 2) (h1 : sp_tb TB (sp_p 1 x) = some p) : sp_fin ft FB TB 44569 x Ps = sp_cz [some p.2] := by
  rw [fe_7 ⟨by decide, by decide, by decide, by decide, by decide, by decide⟩]
  unfold sp_lf
  rw [if_neg (by decide), if_neg (by decide), if_pos rfl, if_pos hl, h1]
  rfl
theorem lf_good (h : sp_lf ft FB TB r x ≠ none) : (r = 107484305 ∧ (sp_as x).length = 2 ∧ ∃ t : ob_T, sp_tm ft (sp_p 1 x) = some t ∧ sp_va ft t ≠ none) ∨ (r = 9077 ∧ (sp_as x).length = 2 ∧ sp_fb FB (sp_p 1 x) ≠ none) ∨ (r = 44569 ∧ (sp_as x).length = 2 ∧ sp_tb TB (sp_p 1 x) ≠ none) ∨ (sp_axn r = (sp_as x).length ∧ sp_axn r ≠ 0 ∧ sp_tm ft (sp_p 1 x) ≠ none ∧ sp_tm ft (if 3 ≤ sp_axn r then sp_p 2 x else sp_p 1 x) ≠ none ∧ sp_tm ft (if 4 ≤ sp_axn r then sp_p 3 x else sp_p 1 x) ≠ none) := by
  unfold sp_lf at h
  by_cases r1 : r = 107484305
  · rw [if_pos r1] at h
    by_cases c : (sp_as x).length = 2
    · rw [if_pos c] at h
      cases e : sp_tm ft (sp_p 1 x) with
      | none =>
        rw [e] at h
        exact absurd rfl h
      | some t =>
        rw [e] at h
        refine Or.inl ⟨r1, c, t, rfl, fun q => h ?_⟩
        show (sp_va ft t).bind _ = none
        rw [q]
        rfl
    · rw [if_neg c] at h
      exact absurd rfl h
  rw [if_neg r1] at h
  by_cases r2 : r = 9077
  · rw [if_pos r2] at h
    by_cases c : (sp_as x).length = 2
    · rw [if_pos c] at h
      refine Or.inr (Or.inl ⟨r2, c, fun q => h ?_⟩)
      rw [q]
      rfl
    · rw [if_neg c] at h
      exact absurd rfl h
  rw [if_neg r2] at h
  by_cases r3 : r = 44569
  · rw [if_pos r3] at h
    by_cases c : (sp_as x).length = 2
    · rw [if_pos c] at h
      refine Or.inr (Or.inr (Or.inl ⟨r3, c, fun q => h ?_⟩))
      rw [q]
      rfl
    · rw [if_neg c] at h
      exact absurd rfl h
  rw [if_neg r3] at h
  by_cases c : sp_axn r = (sp_as x).length ∧ sp_axn r ≠ 0
  · rw [if_pos c] at h
    refine Or.inr (Or.inr (Or.inr ⟨c.1, c.2, fun q => h ?_, fun q => h ?_, fun q => h ?_⟩))
    · rw [q]
      rfl
    · cases sp_tm ft (sp_p 1 x) with
      | none => rfl
      | some l =>
        show (sp_tm ft _).bind _ = none
        rw [q]
        rfl
    · cases sp_tm ft (sp_p 1 x) with
      | none => rfl
      | some l =>
        show (sp_tm ft _).bind _ = none
        cases sp_tm ft (if 3 ≤ sp_axn r then sp_p 2 x else sp_p 1 x) with
        | none => rfl
        | some m =>
          show (sp_tm ft _).bind _ = none
          rw [q]
          rfl
  · rw [if_neg c] at h
    exact absurd rfl h
end RUF
