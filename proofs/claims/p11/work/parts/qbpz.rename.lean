def RNV (Os : List ob_T) : Prop := ∀ o ∈ Os, ∃ w : Nat, o = .var w ∧ w ≠ 31361 ∧ w ≠ 20
theorem sb_var : ∀ (Vs : List Nat) (Os : List ob_T), RNV Os → ∀ v : Nat, v ≠ 31361 → v ≠ 20 → ∃ w : Nat, sp_sb Vs Os v = .var w ∧ w ≠ 31361 ∧ w ≠ 20
  | [], _, _, v, a, b => ⟨v, by unfold sp_sb; rfl, a, b⟩
  | _ :: _, [], _, v, a, b => ⟨v, by unfold sp_sb; rfl, a, b⟩
  | u :: Vs, o :: Os, h, v, a, b => by
    show ∃ w : Nat, (if u = v then o else sp_sb Vs Os v) = .var w ∧ w ≠ 31361 ∧ w ≠ 20
    by_cases c : u = v
    · rw [if_pos c]
      exact h o (List.mem_cons_self)
    · rw [if_neg c]
      exact sb_var Vs Os (fun x hx => h x (List.mem_cons_of_mem _ hx)) v a b
section RNS
variable {Vs : List Nat} {Os : List ob_T}
theorem in_var (h : RNV Os) (v : Nat) : (v = 31361 ∨ v = 20) ∧ (sp_in Vs Os (.var v)).1 = .var v ∨ ¬ (v = 31361 ∨ v = 20) ∧ ∃ w : Nat, (sp_in Vs Os (.var v)).1 = .var w ∧ w ≠ 31361 ∧ w ≠ 20 := by
  have e : (sp_in Vs Os (.var v)).1 = (if v = 31361 ∨ v = 20 then .var v else sp_sb Vs Os v) := rfl
  rw [e]
  by_cases c : v = 31361 ∨ v = 20
  · rw [if_pos c]
    exact Or.inl ⟨c, rfl⟩
  · rw [if_neg c]
    exact Or.inr ⟨c, sb_var Vs Os h v (fun q => c (Or.inl q)) (fun q => c (Or.inr q))⟩
theorem in_add (a b : ob_T) : (sp_in Vs Os (.add a b)).1 = (if sp_isq a = true then .add a b else .add a (sp_in Vs Os b).2) := rfl
theorem in_l (a b : ob_T) : (sp_in Vs Os (.add a b)).2 = .add (sp_in Vs Os a).1 (sp_in Vs Os b).2 := rfl
theorem in_inv {b p q : ob_T} (h : (sp_in Vs Os b).2 = .add p q) : ∃ b1 b2 : ob_T, b = .add b1 b2 ∧ p = (sp_in Vs Os b1).1 ∧ q = (sp_in Vs Os b2).2 := by
  match b, h with
  | .add b1 b2, h =>
    rw [in_l] at h
    injection h with h1 h2
    exact ⟨b1, b2, rfl, h1.symm, h2.symm⟩
theorem sz_in (h : RNV Os) : ∀ t : ob_T, (sp_sz (sp_in Vs Os t).1).1 = (sp_sz t).1 ∧ (sp_sz (sp_in Vs Os t).2).2 = (sp_sz t).2
  | .num _ => ⟨rfl, rfl⟩
  | .var v => by
    refine ⟨?_, rfl⟩
    rcases in_var (Vs := Vs) h v with ⟨-, e⟩ | ⟨-, w, e, -⟩
    · rw [e]
    · rw [e]
      rfl
  | .sub _ _ => ⟨rfl, rfl⟩
  | .neg _ => ⟨rfl, rfl⟩
  | .mulL _ _ => ⟨rfl, rfl⟩
  | .mulR _ _ => ⟨rfl, rfl⟩
  | .add a b => by
    have ra := sz_in h a
    have rb := sz_in h b
    refine ⟨?_, ?_⟩
    · rw [in_add]
      by_cases q : sp_isq a = true
      · rw [if_pos q]
      · rw [if_neg q]
        show (if sp_isq a = true then (1 : Int) else 1 + (sp_sz (sp_in Vs Os b).2).2) = (if sp_isq a = true then (1 : Int) else 1 + (sp_sz b).2)
        rw [rb.2]
    · show (sp_sz (sp_in Vs Os a).1).1 + (sp_sz (sp_in Vs Os b).2).2 = (sp_sz a).1 + (sp_sz b).2
      rw [ra.1, rb.2]
theorem not_in (h : RNV Os) (t : ob_T) (hn : ∀ b : ob_T, t = .add (.var 31651) b → ∃ p q : ob_T, b = .add p q) : sp_not (sp_in Vs Os t).1 = (sp_in Vs Os (sp_not t)).1 := by
  match t, hn with
  | .num _, _ => rfl
  | .var v, _ =>
    rcases in_var (Vs := Vs) h v with ⟨c, e⟩ | ⟨c, w, e, w1, w2⟩
    · rw [e]
      rcases c with c | c
      · rw [c]
        rfl
      · rw [c]
        rfl
    · rw [e]
      have n1 : sp_not (.var v) = .add (.var 31651) (.add (.var v) (.var 31361)) := by
        show (if v = 31361 then _ else if v = 20 then _ else _) = _
        rw [if_neg (fun q => c (Or.inl q)), if_neg (fun q => c (Or.inr q))]
      have n2 : sp_not (.var w) = .add (.var 31651) (.add (.var w) (.var 31361)) := by
        show (if w = 31361 then _ else if w = 20 then _ else _) = _
        rw [if_neg w1, if_neg w2]
      rw [n1, n2, in_add, if_neg (by decide), in_l, e]
      rfl
  | .sub _ _, _ => rfl
  | .neg _, _ => rfl
  | .mulL _ _, _ => rfl
  | .mulR _ _, _ => rfl
  | .add a b, hn =>
    have nd : ∀ a b : ob_T, sp_not (.add a b) = (if sp_ish 31651 a = true then sp_fst b else if sp_isq a = true then .var 31361 else .add (.var 31651) (.add (.add a b) (.var 31361))) := fun _ _ => rfl
    by_cases q : sp_isq a = true
    · rw [in_add, if_pos q, nd]
      have ni : sp_ish 31651 a = false := by
        match a, q with
        | .var v, q =>
          have v2 : v = 85168940 := by
            have : (v == 85168940) = true := q
            exact beq_iff_eq.mp this
          rw [v2]
          rfl
      rw [ni, if_neg (by decide), if_pos q]
      rfl
    · rw [in_add, if_neg q, nd, nd]
      by_cases c : sp_ish 31651 a = true
      · have ea : a = .var 31651 := by
          match a, c with
          | .var v, c =>
            have v2 : v = 31651 := by
              have : (v == 31651) = true := c
              exact beq_iff_eq.mp this
            rw [v2]
        obtain ⟨p, r, eb⟩ := hn b (by rw [ea])
        rw [if_pos c, if_pos c, eb]
        rfl
      · rw [if_neg c, if_neg c, if_neg q, if_neg q, in_add, if_neg (by decide), in_l, in_add, if_neg q]
        rfl
theorem ph_in (h : RNV Os) : ∀ (f : Nat) (t : ob_T), tsz t < f → sp_ph (sp_in Vs Os t).1 = (sp_ph t).map (fun p => (p.1.map (fun r => (r.1, (sp_in Vs Os r.2).1)), (sp_in Vs Os p.2).1))
  | f + 1, t, hf => by
    by_cases c : ∃ c x y z : ob_T, t = .add (.var 429) (.add c (.add x (.add y z)))
    · obtain ⟨c, x, y, z, rfl⟩ := c
      have hf : 1 + 0 + (1 + tsz c + (1 + tsz x + (1 + tsz y + tsz z))) < f + 1 := hf
      have rx := ph_in h f x (by omega)
      have ry := ph_in h f y (by omega)
      rw [in_add, if_neg (by decide), in_l, in_l, in_l, sp_ph_if, sp_ph_if, rx, ry, List.map_append, List.map_map, List.map_map, List.map_map, List.map_map]
      rfl
    · rw [ph_no c, ph_no]
      · rfl
      · rintro ⟨c2, x2, y2, z2, e⟩
        match t, e, c with
        | .var v, e, _ =>
          rcases in_var (Vs := Vs) h v with ⟨-, e2⟩ | ⟨-, w, e2, -⟩
          · rw [e2] at e
            exact absurd e (by simp)
          · rw [e2] at e
            exact absurd e (by simp)
        | .add a b, e, c =>
          rw [in_add] at e
          by_cases q : sp_isq a = true
          · rw [if_pos q] at e
            exact c ⟨_, _, _, _, e⟩
          · rw [if_neg q] at e
            injection e with e1 e2
            obtain ⟨b1, b2, eb, -, e3⟩ := in_inv e2
            obtain ⟨b3, b4, eb4, -, e5⟩ := in_inv e3.symm
            obtain ⟨b5, b6, eb6, -, -⟩ := in_inv e5.symm
            exact c ⟨b1, b3, b5, b6, by rw [e1, eb, eb4, eb6]⟩
end RNS
section PPS
variable {ft : Nat → Int} {Vs : List Nat} {Os : List ob_T}
theorem sb_ts : ∀ (Vs : List Nat) (Os : List ob_T), (∀ o ∈ Os, 1 ≤ (sp_ts ft o).1) → ∀ v : Nat, 1 ≤ (sp_ts ft (sp_sb Vs Os v)).1
  | [], _, _, v => by
    unfold sp_sb
    exact Int.le_refl _
  | _ :: _, [], _, v => by
    unfold sp_sb
    exact Int.le_refl _
  | u :: Vs, o :: Os, h, v => by
    show 1 ≤ (sp_ts ft (if u = v then o else sp_sb Vs Os v)).1
    by_cases c : u = v
    · rw [if_pos c]
      exact h o (List.mem_cons_self)
    · rw [if_neg c]
      exact sb_ts Vs Os (fun x hx => h x (List.mem_cons_of_mem _ hx)) v
theorem ts_3 (a b : ob_T) : (sp_ts ft (.add a b)).2.2 = 1 + (sp_ts ft b).2.2 := rfl
theorem ts_cl {a b b2 : ob_T} (q : ¬ sp_isq a = true) (h : 1 ≤ (sp_ts ft (.add a b)).1) (r : 0 ≤ (sp_ts ft b).2.1 → 0 ≤ (sp_ts ft b2).2.1 ∧ (sp_ts ft b2).2.2 = (sp_ts ft b).2.2) : 1 ≤ (sp_ts ft (.add a b2)).1 := by
  rw [ts_1, if_neg q] at h ⊢
  by_cases c : 0 ≤ (sp_ts ft b).2.1 ∧ (sp_ts ft b).2.2 = sp_arT ft a
  · have r2 := r c.1
    rw [if_pos ⟨r2.1, by rw [r2.2]; exact c.2⟩]
    omega
  · rw [if_neg c] at h
    omega
theorem ts_ls {a b a2 b2 : ob_T} (h : 0 ≤ (sp_ts ft (.add a b)).2.1) (ra : 1 ≤ (sp_ts ft a).1 → 1 ≤ (sp_ts ft a2).1) (r : 0 ≤ (sp_ts ft b).2.1 → 0 ≤ (sp_ts ft b2).2.1 ∧ (sp_ts ft b2).2.2 = (sp_ts ft b).2.2) : 0 ≤ (sp_ts ft (.add a2 b2)).2.1 ∧ (sp_ts ft (.add a2 b2)).2.2 = (sp_ts ft (.add a b)).2.2 := by
  rw [ts_2] at h ⊢
  rw [ts_3, ts_3]
  by_cases c : 1 ≤ (sp_ts ft a).1 ∧ 0 ≤ (sp_ts ft b).2.1
  · have r2 := r c.2
    have r1 := ra c.1
    rw [if_pos ⟨r1, r2.1⟩, r2.2]
    exact ⟨by omega, rfl⟩
  · rw [if_neg c] at h
    omega
theorem ts_in (hO : ∀ o ∈ Os, 1 ≤ (sp_ts ft o).1) : ∀ t : ob_T, (1 ≤ (sp_ts ft t).1 → 1 ≤ (sp_ts ft (sp_in Vs Os t).1).1) ∧ (0 ≤ (sp_ts ft t).2.1 → 0 ≤ (sp_ts ft (sp_in Vs Os t).2).2.1 ∧ (sp_ts ft (sp_in Vs Os t).2).2.2 = (sp_ts ft t).2.2)
  | .num _ => ⟨fun h => h, fun h => ⟨h, rfl⟩⟩
  | .var v => by
    refine ⟨fun _ => ?_, fun h => ⟨h, rfl⟩⟩
    show 1 ≤ (sp_ts ft (if v = 31361 ∨ v = 20 then .var v else sp_sb Vs Os v)).1
    by_cases c : v = 31361 ∨ v = 20
    · rw [if_pos c]
      exact Int.le_refl _
    · rw [if_neg c]
      exact sb_ts Vs Os hO v
  | .sub _ _ => ⟨fun h => h, fun h => ⟨h, rfl⟩⟩
  | .neg _ => ⟨fun h => h, fun h => ⟨h, rfl⟩⟩
  | .mulL _ _ => ⟨fun h => h, fun h => ⟨h, rfl⟩⟩
  | .mulR _ _ => ⟨fun h => h, fun h => ⟨h, rfl⟩⟩
  | .add a b => by
    have ra := ts_in hO a
    have rb := ts_in hO b
    refine ⟨fun h => ?_, fun h => ?_⟩
    · rw [in_add]
      by_cases q : sp_isq a = true
      · rw [if_pos q]
        exact h
      · rw [if_neg q]
        exact ts_cl q h rb.2
    · rw [in_l]
      exact ts_ls h ra.1 rb.2
theorem ts_re {X Y : ob_T} (hY : 1 ≤ (sp_ts ft Y).1) : ∀ t : ob_T, (1 ≤ (sp_ts ft t).1 → 1 ≤ (sp_ts ft (sp_re X Y t).1).1) ∧ (0 ≤ (sp_ts ft t).2.1 → 0 ≤ (sp_ts ft (sp_re X Y t).2).2.1 ∧ (sp_ts ft (sp_re X Y t).2).2.2 = (sp_ts ft t).2.2)
  | .num n => by
    refine ⟨fun h => ?_, fun h => ⟨h, rfl⟩⟩
    show 1 ≤ (sp_ts ft (ifc (.num n = X) Y (.num n))).1
    by_cases c : (.num n : ob_T) = X
    · rw [ifc_pos c]
      exact hY
    · rw [ifc_neg c]
      exact h
  | .var v => by
    refine ⟨fun h => ?_, fun h => ⟨h, rfl⟩⟩
    show 1 ≤ (sp_ts ft (ifc (.var v = X) Y (.var v))).1
    by_cases c : (.var v : ob_T) = X
    · rw [ifc_pos c]
      exact hY
    · rw [ifc_neg c]
      exact h
  | .sub _ _ => ⟨fun h => h, fun h => ⟨h, rfl⟩⟩
  | .neg _ => ⟨fun h => h, fun h => ⟨h, rfl⟩⟩
  | .mulL _ _ => ⟨fun h => h, fun h => ⟨h, rfl⟩⟩
  | .mulR _ _ => ⟨fun h => h, fun h => ⟨h, rfl⟩⟩
  | .add a b => by
    have ra := ts_re (X := X) hY a
    have rb := ts_re (X := X) hY b
    refine ⟨fun h => ?_, fun h => ?_⟩
    · show 1 ≤ (sp_ts ft (ifc (.add a b = X) Y (if sp_isq a = true then .add a b else .add a (sp_re X Y b).2))).1
      by_cases c : (.add a b : ob_T) = X
      · rw [ifc_pos c]
        exact hY
      · rw [ifc_neg c]
        by_cases q : sp_isq a = true
        · rw [if_pos q]
          exact h
        · rw [if_neg q]
          exact ts_cl q h rb.2
    · exact ts_ls h ra.1 rb.2
theorem ts_c1 {v : Nat} {a : ob_T} (q : v ≠ 85168940) (hv : sp_arT ft (.var v) = 1) (ha : 1 ≤ (sp_ts ft a).1) : 1 ≤ (sp_ts ft (.add (.var v) (.add a (.var 31361)))).1 := by
  have iq : ¬ sp_isq (.var v) = true := fun h => q (beq_iff_eq.mp (show (v == 85168940) = true from h))
  have l : (sp_ts ft (.add a (.var 31361))).2.1 = (sp_ts ft a).1 := by
    rw [ts_2, if_pos ⟨ha, show (0 : Int) ≤ 0 from Int.le_refl _⟩]
    show (sp_ts ft a).1 + 0 = _
    omega
  rw [ts_1, if_neg iq, if_pos ⟨by omega, by rw [hv]; rfl⟩]
  omega
theorem ts_not (hn : sp_arT ft (.var 31651) = 1) : ∀ t : ob_T, 1 ≤ (sp_ts ft t).1 → 1 ≤ (sp_ts ft (sp_not t)).1
  | .num _, _ => Int.le_refl _
  | .var v, h => by
    show 1 ≤ (sp_ts ft (if v = 31361 then .var 20 else if v = 20 then .var 31361 else .add (.var 31651) (.add (.var v) (.var 31361)))).1
    split
    · exact Int.le_refl _
    · split
      · exact Int.le_refl _
      · exact ts_c1 (by decide) hn h
  | .add a b, h => by
    show 1 ≤ (sp_ts ft (if sp_ish 31651 a = true then sp_fst b else if sp_isq a = true then .var 31361 else .add (.var 31651) (.add (.add a b) (.var 31361)))).1
    by_cases c : sp_ish 31651 a = true
    · rw [if_pos c]
      have ea : a = .var 31651 := by
        match a, c with
        | .var v, c => rw [beq_iff_eq.mp (show (v == 31651) = true from c)]
      rw [ea, ts_1, if_neg (by decide), hn] at h
      by_cases d : 0 ≤ (sp_ts ft b).2.1 ∧ (sp_ts ft b).2.2 = 1
      · match b, d with
        | .num _, d => exact absurd (show (0 : Int) = 1 from d.2) (by decide)
        | .var _, d => exact absurd (show (0 : Int) = 1 from d.2) (by decide)
        | .add p q, d =>
          have d1 := d.1
          rw [ts_2] at d1
          by_cases e : 1 ≤ (sp_ts ft p).1 ∧ 0 ≤ (sp_ts ft q).2.1
          · exact e.1
          · rw [if_neg e] at d1
            omega
        | .sub _ _, d => exact absurd (show (0 : Int) = 1 from d.2) (by decide)
        | .neg _, d => exact absurd (show (0 : Int) = 1 from d.2) (by decide)
        | .mulL _ _, d => exact absurd (show (0 : Int) = 1 from d.2) (by decide)
        | .mulR _ _, d => exact absurd (show (0 : Int) = 1 from d.2) (by decide)
      · rw [if_neg d] at h
        omega
    · rw [if_neg c]
      by_cases q : sp_isq a = true
      · rw [if_pos q]
        exact Int.le_refl _
      · rw [if_neg q]
        exact ts_c1 (by decide) hn h
  | .sub _ _, h => absurd (show (1 : Int) ≤ 0 from h) (by decide)
  | .neg _, h => absurd (show (1 : Int) ≤ 0 from h) (by decide)
  | .mulL _ _, h => absurd (show (1 : Int) ≤ 0 from h) (by decide)
  | .mulR _ _, h => absurd (show (1 : Int) ≤ 0 from h) (by decide)
end PPS
