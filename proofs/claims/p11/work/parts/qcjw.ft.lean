def sp_fu (ft : Nat → Int) (v : Nat) (m : Int) : Nat → Int := fun w => if w = v then fcl 0 m else ft w
section FUS
variable {ft ft1 : Nat → Int}
theorem ts_cg (h : ∀ v : Nat, sp_arT ft1 (.var v) = sp_arT ft (.var v)) (t : ob_T) : sp_ts ft1 t = sp_ts ft t := by
  induction t with
  | add a b ha hb =>
    have e : sp_arT ft1 a = sp_arT ft a := by
      cases a with
      | var v => exact h v
      | _ => rfl
    simp only [sp_ts, ha, hb, e]
  | _ => rfl
theorem tm_cg (h : ∀ v : Nat, sp_arT ft1 (.var v) = sp_arT ft (.var v)) (t : ob_T) : sp_tm ft1 t = sp_tm ft t := by
  unfold sp_tm
  rw [ts_cg h t]
theorem ts_cnn (t : ob_T) : 0 ≤ (sp_ts ft t).2.2 := by
  induction t with
  | add a b ha hb =>
    show 0 ≤ 1 + (sp_ts ft b).2.2
    omega
  | num _ => exact Int.le_refl _
  | var _ => exact Int.le_refl _
  | _ => exact Int.le_refl _
theorem ts_up (h : ∀ v : Nat, 0 ≤ ft v → ft1 v = ft v) (t : ob_T) : (1 ≤ (sp_ts ft t).1 → (sp_ts ft1 t).1 = (sp_ts ft t).1) ∧ (0 ≤ (sp_ts ft t).2.1 → (sp_ts ft1 t).2.1 = (sp_ts ft t).2.1) ∧ (sp_ts ft1 t).2.2 = (sp_ts ft t).2.2 := by
  induction t with
  | add a b ha hb =>
    have cn := ts_cnn (ft := ft) b
    refine ⟨fun q => ?_, fun q => ?_, ?_⟩
    · have q : 1 ≤ (if sp_isq a = true then (if sp_one b = true then 1 else 0) else if 0 ≤ (sp_ts ft b).2.1 ∧ (sp_ts ft b).2.2 = sp_arT ft a then 1 + (sp_ts ft b).2.1 else 0 : Int) := q
      show (if sp_isq a = true then (if sp_one b = true then 1 else 0) else if 0 ≤ (sp_ts ft1 b).2.1 ∧ (sp_ts ft1 b).2.2 = sp_arT ft1 a then 1 + (sp_ts ft1 b).2.1 else 0 : Int) = (if sp_isq a = true then (if sp_one b = true then 1 else 0) else if 0 ≤ (sp_ts ft b).2.1 ∧ (sp_ts ft b).2.2 = sp_arT ft a then 1 + (sp_ts ft b).2.1 else 0 : Int)
      by_cases c : sp_isq a = true
      · rw [if_pos c, if_pos c]
      · rw [if_neg c] at q ⊢
        rw [if_neg c]
        by_cases c2 : 0 ≤ (sp_ts ft b).2.1 ∧ (sp_ts ft b).2.2 = sp_arT ft a
        · have e : sp_arT ft1 a = sp_arT ft a := by
            cases a with
            | var v =>
              have z : sp_arT ft (.var v) = (if ft v < 0 then -1 else ft v / 4 % 8) := rfl
              by_cases c3 : ft v < 0
              · rw [if_pos c3] at z
                rw [z] at c2
                omega
              · show (if ft1 v < 0 then (-1 : Int) else ft1 v / 4 % 8) = (if ft v < 0 then -1 else ft v / 4 % 8)
                rw [h v (by omega)]
            | _ => rfl
          rw [if_pos c2, hb.2.1 c2.1, hb.2.2, e, if_pos c2]
        · rw [if_neg c2] at q
          exact absurd q (by decide)
    · have q : 0 ≤ (if 1 ≤ (sp_ts ft a).1 ∧ 0 ≤ (sp_ts ft b).2.1 then (sp_ts ft a).1 + (sp_ts ft b).2.1 else -1 : Int) := q
      show (if 1 ≤ (sp_ts ft1 a).1 ∧ 0 ≤ (sp_ts ft1 b).2.1 then (sp_ts ft1 a).1 + (sp_ts ft1 b).2.1 else -1 : Int) = (if 1 ≤ (sp_ts ft a).1 ∧ 0 ≤ (sp_ts ft b).2.1 then (sp_ts ft a).1 + (sp_ts ft b).2.1 else -1 : Int)
      by_cases c : 1 ≤ (sp_ts ft a).1 ∧ 0 ≤ (sp_ts ft b).2.1
      · rw [ha.1 c.1, hb.2.1 c.2]
      · rw [if_neg c] at q
        exact absurd q (by decide)
    · show 1 + (sp_ts ft1 b).2.2 = 1 + (sp_ts ft b).2.2
      rw [hb.2.2]
  | num _ => exact ⟨fun _ => rfl, fun _ => rfl, rfl⟩
  | var _ => exact ⟨fun _ => rfl, fun _ => rfl, rfl⟩
  | _ => exact ⟨fun _ => rfl, fun _ => rfl, rfl⟩
theorem ts_u1 (h : ∀ v : Nat, 0 ≤ ft v → ft1 v = ft v) {t : ob_T} (q : 1 ≤ (sp_ts ft t).1) : 1 ≤ (sp_ts ft1 t).1 := by
  rw [(ts_up h t).1 q]
  exact q
end FUS
section FXS
variable {FB : List (Nat × List Nat × ob_T)} {v w : Nat} {ps : List Nat} {B B1 : ob_T}
theorem fx_cg : ∀ (FB : List (Nat × List Nat × ob_T)) (i : Nat), sp_fx w (FB ++ [(v, ps, B)]) i = sp_fx w (FB ++ [(v, ps, B1)]) i
  | [], _ => rfl
  | p :: r, i => by
    show (if p.1 = w then fcl (i : Int) (p.2.1.length : Int) else sp_fx w (r ++ [(v, ps, B)]) (i + 1)) = (if p.1 = w then fcl (i : Int) (p.2.1.length : Int) else sp_fx w (r ++ [(v, ps, B1)]) (i + 1))
    rw [fx_cg r (i + 1)]
theorem ft_cg : sp_ft (FB ++ [(v, ps, B)]) = sp_ft (FB ++ [(v, ps, B1)]) := by
  funext w
  unfold sp_ft
  rw [fx_cg FB 0]
theorem fx_new (hw : w ≠ v) : ∀ (FB : List (Nat × List Nat × ob_T)) (i : Nat), sp_fx w (FB ++ [(v, ps, B)]) i = sp_fx w FB i
  | [], i => by
    show (if v = w then fcl (i : Int) (ps.length : Int) else -1) = -1
    rw [if_neg (fun c => hw c.symm)]
  | p :: r, i => by
    show (if p.1 = w then fcl (i : Int) (p.2.1.length : Int) else sp_fx w (r ++ [(v, ps, B)]) (i + 1)) = (if p.1 = w then fcl (i : Int) (p.2.1.length : Int) else sp_fx w r (i + 1))
    rw [fx_new hw r (i + 1)]
theorem fcl_ar {i m : Int} (i0 : 0 ≤ i) (m0 : 0 ≤ m) (m6 : m ≤ 6) : ¬ fcl i m < 0 ∧ fcl i m / 4 % 8 = m := by
  unfold fcl
  omega
theorem fu_ar (hv : sp_bt v < 0) (hn : ∀ p ∈ FB, p.1 ≠ v) (l6 : ps.length ≤ 6) (w : Nat) : sp_arT (sp_fu (sp_ft FB) v (ps.length : Int)) (.var w) = sp_arT (sp_ft (FB ++ [(v, ps, B)])) (.var w) := by
  show (if sp_fu (sp_ft FB) v (ps.length : Int) w < 0 then (-1 : Int) else sp_fu (sp_ft FB) v (ps.length : Int) w / 4 % 8) = (if sp_ft (FB ++ [(v, ps, B)]) w < 0 then -1 else sp_ft (FB ++ [(v, ps, B)]) w / 4 % 8)
  by_cases c : w = v
  · have e1 : sp_fu (sp_ft FB) v (ps.length : Int) w = fcl 0 (ps.length : Int) := if_pos c
    have e2 : sp_ft (FB ++ [(v, ps, B)]) w = fcl (FB.length : Int) (ps.length : Int) := by
      rw [c]
      unfold sp_ft
      rw [if_neg (by omega), sp_fx_app [(v, ps, B)] hn]
      show (if v = v then fcl ((0 + FB.length : Nat) : Int) (ps.length : Int) else _) = _
      rw [if_pos rfl, Nat.zero_add]
    have a1 := fcl_ar (i := 0) (m := (ps.length : Int)) (by decide) (by omega) (by omega)
    have a2 := fcl_ar (i := (FB.length : Int)) (m := (ps.length : Int)) (by omega) (by omega) (by omega)
    rw [e1, e2, if_neg a1.1, if_neg a2.1, a1.2, a2.2]
  · have e1 : sp_fu (sp_ft FB) v (ps.length : Int) w = sp_ft FB w := if_neg c
    have e2 : sp_ft (FB ++ [(v, ps, B)]) w = sp_ft FB w := by
      unfold sp_ft
      rw [fx_new c FB 0]
    rw [e1, e2]
theorem fx_in : ∀ (FB : List (Nat × List Nat × ob_T)) (i : Nat), (∃ p ∈ FB, p.1 = v) → 0 ≤ sp_fx v FB i
  | [], _, ⟨p, q, _⟩ => by cases q
  | p :: r, i, ⟨q, m, e⟩ => by
    show 0 ≤ (if p.1 = v then fcl (i : Int) (p.2.1.length : Int) else sp_fx v r (i + 1))
    by_cases c : p.1 = v
    · rw [if_pos c]
      unfold fcl
      omega
    · rw [if_neg c]
      rcases List.mem_cons.mp m with m | m
      · rw [m] at e
        exact absurd e c
      · exact fx_in r (i + 1) ⟨q, m, e⟩
theorem bt_m : ∀ y : Nat, y < 17 → 3 ≤ y → 0 ≤ sp_bt (mNm.getD y 0) ∧ sp_bt (mNm.getD y 0) / 4 % 8 = (if y = 3 then 3 else if y ≤ 9 then 2 else 1) ∧ sp_bt (mNm.getD y 0) / 32 = mcl y := by decide
theorem nm_m3 : ∀ x : Nat, x < 17 → 3 ≤ x → ∃ y : Nat, y < 17 ∧ 3 ≤ y ∧ cNm.getD x 0 = mNm.getD y 0 := by decide
theorem FTM_ft : FTM (sp_ft FB) := by
  refine ⟨fun x x3 x16 => ?_, fun v h0 hb => ?_⟩
  · have q := bt_m x (by omega) x3
    have e : sp_ft FB (mNm.getD x 0) = sp_bt (mNm.getD x 0) := if_pos q.1
    rw [e]
    exact ⟨q.1, q.2.2⟩
  · rcases sp_ft_e h0 with ⟨b, -⟩ | ⟨j, p, -, -, e⟩
    · obtain ⟨x, x3, x17, e⟩ := sp_bt_i b
      obtain ⟨y, y17, y3, e2⟩ := nm_m3 x x17 x3
      exact absurd (e.trans e2) (hb y y3 (by omega))
    · rw [e]
      unfold fcl
      omega
end FXS
section PXT
variable {I I1 : Nat → Int} {A A1 : Nat → Int → Int} {N N1 : Int → Int} {ar : Int → Int} {ft : Nat → Int} {FB : List (Nat × List Nat × ob_T)} {bk : List sp_Th}
theorem ART_mk (hS : MST I A N) (hN : NM I A) (hT : TRX I A N) (h1 : AR ar I A) (h2 : ARF ar I A) (e44 : I 44 = -1) (hl : (FB.length : Int) = I 32) (hr : ∀ e : Nat, e < FB.length → ∃ (v : Nat) (ps : List Nat) (B : ob_T), FB[e]? = some (v, ps, B) ∧ (0 ≤ A 20 e ∧ A 20 e < I 7) ∧ DM A N (A 20 e) = .var v ∧ (ps.length : Int) = A 21 e) : ART ar (sp_ft FB) I A N := by
  intro f f0 f1
  obtain ⟨⟨a1, a2, a3⟩, -, a4, a5⟩ := h1
  have n7 := hN.1
  have inj : ∀ {j k : Int}, 0 ≤ j → j < I 7 → 0 ≤ k → k < I 7 → DM A N j = DM A N k → j = k := fun j0 j1 k0 k1 e => DM_inj ⟨hS, hT.1⟩ j0 j1 k0 k1 e
  have row : ∀ (j : Nat) (p : Nat × List Nat × ob_T), FB[j]? = some p → (0 ≤ A 20 j ∧ A 20 j < I 7) ∧ DM A N (A 20 j) = .var p.1 ∧ ((p.2.1.length : Int) = A 21 j ∧ (p.2.1.length : Int) ≤ 6) ∧ ar (A 20 j) = A 21 j := fun j p hj => by
    have jl := (List.getElem?_eq_some_iff.mp hj).1
    obtain ⟨v, ps, B, q1, q2, q3, q4⟩ := hr j jl
    rw [hj] at q1
    injection q1 with q1
    have r := a5 (j : Int) (by omega) (by omega)
    rw [q1]
    have q4 : (ps.length : Int) = A 21 j := q4
    exact ⟨q2, q3, ⟨q4, by show (ps.length : Int) ≤ 6; omega⟩, r.2.2 (by omega)⟩
  have bas : ∀ v : Nat, DM A N f = .var v → 0 ≤ sp_bt v → 3 ≤ f ∧ f ≤ 16 := fun v ev b => by
    obtain ⟨x, x3, x17, e⟩ := sp_bt_i b
    obtain ⟨y, y17, y3, e2⟩ := nm_m3 x x17 x3
    have d := hT.2 y (by omega)
    rw [← e2, ← e, ← ev] at d
    have := inj (by omega) (by omega) f0 f1 d
    omega
  by_cases c : A 1 f = -2
  · rcases DM_at hS f0 f1 (by omega) with ⟨q, -⟩ | ⟨-, v, ev⟩
    · omega
    · rw [ev]
      show ar f = (if sp_ft FB v < 0 then -1 else sp_ft FB v / 4 % 8)
      by_cases q : ar f = -1
      · rw [if_pos]
        · exact q
        · rcases sp_ft_m (FB := FB) v with m | m
          · omega
          · exfalso
            rcases sp_ft_e m with ⟨b, -⟩ | ⟨j, p, g1, g2, -⟩
            · have r := bas v ev b
              by_cases c3 : f = 3
              · rw [c3] at q
                omega
              · by_cases c9 : f ≤ 9
                · have := a2 f (by omega) c9
                  omega
                · have := a3 f (by omega) (by omega)
                  omega
            · obtain ⟨r1, r2, r3, r4⟩ := row j p g1
              rw [g2] at r2
              have := inj r1.1 r1.2 f0 f1 (r2.trans ev.symm)
              rw [this] at r4
              omega
      · obtain ⟨-, -, x, hx⟩ := h2 f f0 q
        rcases hx with ⟨x1, x2, -⟩ | ⟨-, -, x3⟩ | ⟨x1, -, x3, x4, x5⟩
        · have d := hT.2 f.toNat (by omega)
          rw [show ((f.toNat : Nat) : Int) = f by omega, ev] at d
          injection d with d
          have bm := bt_m f.toNat (by omega) (by omega)
          rw [← d] at bm
          have e : sp_ft FB v = sp_bt v := if_pos bm.1
          rw [e, if_neg (by omega), bm.2.1]
          by_cases c3 : f = 3
          · rw [if_pos (by omega), c3]
            exact a1
          · rw [if_neg (by omega)]
            by_cases c9 : f ≤ 9
            · rw [if_pos (by omega)]
              exact a2 f (by omega) c9
            · rw [if_neg (by omega)]
              exact a3 f (by omega) (by omega)
        · omega
        · have nb : sp_bt v < 0 := by
            rcases sp_bt_m v with b | b
            · omega
            · have := bas v ev b
              omega
          obtain ⟨v1, ps1, B1, q1, q2, q3, q4⟩ := hr (x - 100).toNat (by omega)
          rw [show (((x - 100).toNat : Nat) : Int) = x - 100 by omega, x5, ev] at q3
          injection q3 with q3
          have m0 : 0 ≤ sp_ft FB v := by
            unfold sp_ft
            rw [if_neg (by omega)]
            exact fx_in FB 0 ⟨_, List.mem_of_getElem? q1, q3.symm⟩
          rcases sp_ft_e m0 with ⟨b, -⟩ | ⟨j, p, g1, g2, g3⟩
          · omega
          · obtain ⟨r1, r2, r3, r4⟩ := row j p g1
            rw [g2] at r2
            have r9 := inj r1.1 r1.2 f0 f1 (r2.trans ev.symm)
            rw [r9] at r4
            have fa := fcl_ar (i := (j : Int)) (m := (p.2.1.length : Int)) (by omega) (by omega) r3.2
            rw [g3, if_neg fa.1, fa.2]
            omega
  · have an : ar f = -1 := by
      by_cases q : ar f = -1
      · exact q
      · exact absurd (h2 f f0 q).2.1 c
    rw [an]
    by_cases e : A 1 f < 0
    · rcases DM_at hS f0 f1 e with ⟨-, n, q⟩ | ⟨q, -⟩
      · rw [q]
        rfl
      · omega
    · rw [DM_pr hS hT f0 f1 (by omega)]
      rfl
end PXT
