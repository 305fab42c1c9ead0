abbrev sp_Th : Type := Nat × Option (List Nat) × ob_T
def sp_FB : List sp_Th → List (Nat × List Nat × ob_T)
  | [] => []
  | (v, some ps, B) :: r => sp_FB r ++ [(v, ps, B)]
  | (_, none, _) :: r => sp_FB r
def sp_TB : List sp_Th → List (Nat × ob_T)
  | [] => []
  | (_, some _, _) :: r => sp_TB r
  | (v, none, B) :: r => sp_TB r ++ [(v, B)]
def sp_bs : List (Nat × Int) := [(429, 110), (26209844, 138), (345281, 170), (100073763959, 202), (37, 234), (38, 266), (41, 298), (16228223, 326), (6692, 358), (6833, 390), (1456687, 422), (210602393640, 454), (1860108727, 486), (31651, 518)]
def sp_bt (v : Nat) : Int := match sp_bs.find? (fun p => p.1 == v) with
  | some p => p.2
  | none => -1
def sp_fx (v : Nat) : List (Nat × List Nat × ob_T) → Nat → Int
  | [], _ => -1
  | p :: r, i => if p.1 = v then fcl (i : Int) (p.2.1.length : Int) else sp_fx v r (i + 1)
def sp_ft (FB : List (Nat × List Nat × ob_T)) (v : Nat) : Int := if 0 ≤ sp_bt v then sp_bt v else sp_fx v FB 0
section FTA
variable {FB : List (Nat × List Nat × ob_T)} {v w : Nat} {i : Nat} {p : Nat × List Nat × ob_T}
theorem sp_bt_c : ∀ x : Nat, x < 17 → 3 ≤ x → sp_bt (cNm.getD x 0) = (x : Int) * 32 + tkF ((x : Int) - 3) * 4 + 2 := by decide
theorem sp_bt_i {v : Nat} (h : 0 ≤ sp_bt v) : ∃ x : Nat, 3 ≤ x ∧ x < 17 ∧ v = cNm.getD x 0 := by
  unfold sp_bt at h
  cases hf : sp_bs.find? (fun p => p.1 == v) with
  | some p =>
    have hm := List.mem_of_find?_eq_some hf
    have he := List.find?_some hf
    have he : p.1 = v := by simpa using he
    rw [← he]
    revert hm
    have : ∀ q ∈ sp_bs, ∃ x : Nat, 3 ≤ x ∧ x < 17 ∧ q.1 = cNm.getD x 0 := by
      intro q hq
      simp only [sp_bs, List.mem_cons, List.not_mem_nil, or_false] at hq
      rcases hq with rfl | rfl | rfl | rfl | rfl | rfl | rfl | rfl | rfl | rfl | rfl | rfl | rfl | rfl
      · exact ⟨3, by decide, by decide, rfl⟩
      · exact ⟨4, by decide, by decide, rfl⟩
      · exact ⟨5, by decide, by decide, rfl⟩
      · exact ⟨6, by decide, by decide, rfl⟩
      · exact ⟨7, by decide, by decide, rfl⟩
      · exact ⟨8, by decide, by decide, rfl⟩
      · exact ⟨9, by decide, by decide, rfl⟩
      · exact ⟨10, by decide, by decide, rfl⟩
      · exact ⟨11, by decide, by decide, rfl⟩
      · exact ⟨12, by decide, by decide, rfl⟩
      · exact ⟨13, by decide, by decide, rfl⟩
      · exact ⟨14, by decide, by decide, rfl⟩
      · exact ⟨15, by decide, by decide, rfl⟩
      · exact ⟨16, by decide, by decide, rfl⟩
    exact fun hm => this p hm
  | none =>
    rw [hf] at h
    exact absurd h (by decide)
theorem sp_bt_m (v : Nat) : sp_bt v = -1 ∨ 0 ≤ sp_bt v := by
  by_cases h : 0 ≤ sp_bt v
  · exact Or.inr h
  · refine Or.inl ?_
    unfold sp_bt at h ⊢
    cases hf : sp_bs.find? (fun p => p.1 == v) with
    | some p =>
      rw [hf] at h
      have hm := List.mem_of_find?_eq_some hf
      have : ∀ q ∈ sp_bs, 0 ≤ q.2 := by decide
      exact absurd (this p hm) h
    | none => rfl
theorem tkF_r (x : Int) (h0 : 3 ≤ x) (h1 : x < 17) : 1 ≤ tkF (x - 3) ∧ tkF (x - 3) ≤ 3 := by
  have : ∀ x : Nat, x < 17 → 3 ≤ x → 1 ≤ tkF ((x : Int) - 3) ∧ tkF ((x : Int) - 3) ≤ 3 := by decide
  have q := this x.toNat (by omega) (by omega)
  rw [show ((x.toNat : Nat) : Int) = x by omega] at q
  exact q
theorem sp_bt_r {v : Nat} (h : 0 ≤ sp_bt v) : sp_bt v % 4 = 2 ∧ 3 ≤ sp_bt v / 32 ∧ sp_bt v / 32 ≤ 16 := by
  obtain ⟨x, x0, x1, e⟩ := sp_bt_i h
  rw [e, sp_bt_c x x1 x0]
  have := tkF_r (x : Int) (by omega) (by omega)
  omega
theorem sp_bt_inj {v w : Nat} (h : 0 ≤ sp_bt v) (e : sp_bt v = sp_bt w) : v = w := by
  obtain ⟨x, x0, x1, ev⟩ := sp_bt_i h
  obtain ⟨y, y0, y1, ew⟩ := sp_bt_i (v := w) (by omega)
  rw [ev, ew, sp_bt_c x x1 x0, sp_bt_c y y1 y0] at e
  have := tkF_r (x : Int) (by omega) (by omega)
  have := tkF_r (y : Int) (by omega) (by omega)
  have : x = y := by omega
  rw [ev, ew, this]
theorem sp_fx_s : ∀ {FB : List (Nat × List Nat × ob_T)} {i : Nat}, sp_fx v FB i = -1 ∨ ∃ (j : Nat) (p : Nat × List Nat × ob_T), FB[j]? = some p ∧ p.1 = v ∧ sp_fx v FB i = fcl ((i + j : Nat) : Int) (p.2.1.length : Int)
  | [], _ => Or.inl rfl
  | p :: r, i => by
    by_cases c : p.1 = v
    · exact Or.inr ⟨0, p, rfl, c, if_pos c⟩
    · rw [show sp_fx v (p :: r) i = sp_fx v r (i + 1) from if_neg c]
      rcases sp_fx_s (FB := r) (i := i + 1) with h | ⟨j, q, h1, h2, h3⟩
      · exact Or.inl h
      · exact Or.inr ⟨j + 1, q, h1, h2, by rw [h3, show i + 1 + j = i + (j + 1) by omega]⟩
theorem sp_fx_n : ∀ {FB : List (Nat × List Nat × ob_T)} {i : Nat}, (∀ p ∈ FB, p.1 ≠ v) → sp_fx v FB i = -1
  | [], _, _ => rfl
  | p :: r, i, h => by
    rw [show sp_fx v (p :: r) i = sp_fx v r (i + 1) from if_neg (h p (List.mem_cons_self ..))]
    exact sp_fx_n (fun q hq => h q (List.mem_cons_of_mem _ hq))
theorem sp_fx_app : ∀ {FB : List (Nat × List Nat × ob_T)} {i : Nat} (B : List (Nat × List Nat × ob_T)), (∀ p ∈ FB, p.1 ≠ v) → sp_fx v (FB ++ B) i = sp_fx v B (i + FB.length)
  | [], _, _, _ => rfl
  | p :: r, i, B, h => by
    rw [List.cons_append, show sp_fx v (p :: (r ++ B)) i = sp_fx v (r ++ B) (i + 1) from if_neg (h p (List.mem_cons_self ..)), sp_fx_app B (fun q hq => h q (List.mem_cons_of_mem _ hq)), List.length_cons, show i + 1 + r.length = i + (r.length + 1) by omega]
theorem sp_fx_ap2 : ∀ {FB : List (Nat × List Nat × ob_T)} {i : Nat} (B : List (Nat × List Nat × ob_T)), 0 ≤ sp_fx v FB i → sp_fx v (FB ++ B) i = sp_fx v FB i
  | [], _, _, h => absurd (show (0 : Int) ≤ -1 from h) (by decide)
  | p :: r, i, B, h => by
    by_cases c : p.1 = v
    · rw [List.cons_append, show sp_fx v (p :: (r ++ B)) i = fcl (i : Int) (p.2.1.length : Int) from if_pos c, show sp_fx v (p :: r) i = fcl (i : Int) (p.2.1.length : Int) from if_pos c]
    · rw [show sp_fx v (p :: r) i = sp_fx v r (i + 1) from if_neg c] at h ⊢
      rw [List.cons_append, show sp_fx v (p :: (r ++ B)) i = sp_fx v (r ++ B) (i + 1) from if_neg c]
      exact sp_fx_ap2 B h
theorem sp_ft_b (x : Nat) (x0 : 3 ≤ x) (x1 : x < 17) : sp_ft FB (cNm.getD x 0) = (x : Int) * 32 + tkF ((x : Int) - 3) * 4 + 2 := by
  have e := sp_bt_c x x1 x0
  have := tkF_r (x : Int) (by omega) (by omega)
  unfold sp_ft
  rw [if_pos (by omega), e]
theorem sp_ft_up (B : List (Nat × List Nat × ob_T)) (h : 0 ≤ sp_ft FB v) : sp_ft (FB ++ B) v = sp_ft FB v := by
  unfold sp_ft at h ⊢
  by_cases c : 0 ≤ sp_bt v
  · rw [if_pos c, if_pos c]
  · rw [if_neg c] at h ⊢
    rw [if_neg c, sp_fx_ap2 B h]
theorem sp_ft_m (v : Nat) : sp_ft FB v = -1 ∨ 0 ≤ sp_ft FB v := by
  unfold sp_ft
  by_cases c : 0 ≤ sp_bt v
  · rw [if_pos c]
    exact Or.inr c
  · rw [if_neg c]
    rcases sp_fx_s (v := v) (FB := FB) (i := 0) with h | ⟨j, q, h1, h2, h3⟩
    · exact Or.inl h
    · right
      rw [h3]
      unfold fcl
      omega
theorem sp_ft_e (h : 0 ≤ sp_ft FB v) : (0 ≤ sp_bt v ∧ sp_ft FB v = sp_bt v) ∨ ∃ (j : Nat) (p : Nat × List Nat × ob_T), FB[j]? = some p ∧ p.1 = v ∧ sp_ft FB v = fcl (j : Int) (p.2.1.length : Int) := by
  unfold sp_ft at h ⊢
  by_cases c : 0 ≤ sp_bt v
  · rw [if_pos c]
    exact Or.inl ⟨c, rfl⟩
  · rw [if_neg c] at h ⊢
    rcases sp_fx_s (v := v) (FB := FB) (i := 0) with h2 | ⟨j, q, h1, h2, h3⟩
    · rw [h2] at h
      exact absurd h (by decide)
    · rw [Nat.zero_add] at h3
      exact Or.inr ⟨j, q, h1, h2, h3⟩
theorem sp_ft_HI (h6 : ∀ p ∈ FB, p.2.1.length ≤ 6) : HI (sp_ft FB) := by
  have key : ∀ v : Nat, 0 ≤ sp_ft FB v → sp_ft FB v % 4 = 2 := by
    intro v h
    rcases sp_ft_e h with ⟨a, b⟩ | ⟨j, p, a, b, d⟩
    · rw [b]
      exact (sp_bt_r a).1
    · have := h6 p (List.mem_of_getElem? a)
      rw [d]
      unfold fcl
      omega
  refine ⟨key, fun v w h e => ?_, ?_⟩
  · rcases sp_ft_e h with ⟨a, b⟩ | ⟨j, p, a, b, d⟩
    · rcases sp_ft_e (v := w) (by rw [← e]; exact h) with ⟨a1, b1⟩ | ⟨j1, p1, a1, b1, d1⟩
      · exact sp_bt_inj a (by rw [← b, ← b1, e])
      · have := sp_bt_r a
        have := h6 p1 (List.mem_of_getElem? a1)
        rw [e, d1] at b
        unfold fcl at b
        omega
    · rcases sp_ft_e (v := w) (by rw [← e]; exact h) with ⟨a1, b1⟩ | ⟨j1, p1, a1, b1, d1⟩
      · have := sp_bt_r a1
        have := h6 p (List.mem_of_getElem? a)
        rw [← e, d] at b1
        unfold fcl at b1
        omega
      · have l1 := h6 p (List.mem_of_getElem? a)
        have l2 := h6 p1 (List.mem_of_getElem? a1)
        rw [e, d1] at d
        unfold fcl at d
        have : j = j1 := by omega
        rw [this, a1] at a
        injection a with a
        rw [← b, ← b1, a]
  · exact sp_ft_b 16 (by decide) (by decide)
theorem sp_ft_at (hn : sp_bt v < 0) {j : Nat} {p : Nat × List Nat × ob_T} (hj : FB[j]? = some p) (hv : p.1 = v) (hd : ∀ (k : Nat) (q : Nat × List Nat × ob_T), k < j → FB[k]? = some q → q.1 ≠ v) : sp_ft FB v = fcl (j : Int) (p.2.1.length : Int) := by
  have e := List.take_append_drop j FB
  have l : (FB.take j).length = j := by
    rw [List.length_take]
    have := (List.getElem?_eq_some_iff.mp hj).1
    omega
  unfold sp_ft
  rw [if_neg (by omega), ← e, sp_fx_app (FB.drop j) (fun q hq => ?_), drop_get hj, l]
  · show (if p.1 = v then fcl ((0 + j : Nat) : Int) (p.2.1.length : Int) else _) = _
    rw [if_pos hv, Nat.zero_add]
  · obtain ⟨k, hk⟩ := List.getElem?_of_mem hq
    have lk := (List.getElem?_eq_some_iff.mp hk).1
    rw [List.getElem?_take_of_lt (by omega)] at hk
    exact hd k q (by omega) hk
theorem sp_ft_no (hn : sp_bt v < 0) (h : ∀ p ∈ FB, p.1 ≠ v) : sp_ft FB v = -1 := by
  unfold sp_ft
  rw [if_neg (by omega), sp_fx_n h]
end FTA
def sp_lw (fn : Nat) (B : ob_T) : Prop := ∀ p ∈ sp_ph B, (∀ r ∈ p.1, (sp_cc fn r.2).1 = []) ∧ ∀ b ∈ (sp_cc fn p.2).1, (sp_cc fn b).2 = []
def sp_ov (ps : List Nat) : ob_T → Prop × Prop
  | .var v => (v = 31361 ∨ v = 20 ∨ v ∈ ps, True)
  | .add a b => (sp_isq a = true ∨ (sp_ov ps b).2, (sp_ov ps a).1 ∧ (sp_ov ps b).2)
  | _ => (True, True)
def sp_mn (v : Nat) : Prop := ∀ x : Nat, x < 17 → v ≠ cNm.getD x 0
noncomputable def sp_def (bk : List sp_Th) (x : ob_T) : List sp_Th := match sp_p 1 x with
  | .var v => (match sp_tm (sp_ft (sp_FB bk ++ [(v, (sp_as (sp_p 2 x)).map sp_hc, .num 0)])) (sp_p 3 x) with
    | some B => ifc (sp_mn v ∧ sp_vs 6 (sp_p 2 x) ∧ (sp_ov ((sp_as (sp_p 2 x)).map sp_hc) B).1 ∧ sp_lw v B ∧ (∀ p ∈ sp_FB bk, p.1 ≠ v) ∧ (sp_FB bk).length < 40) ((v, some ((sp_as (sp_p 2 x)).map sp_hc), B) :: bk) bk
    | none => bk)
  | _ => bk
noncomputable def sp_pv (bk : List sp_Th) (fuel : Int) (x : ob_T) : Option (List ob_T × Int) × Int := (sp_pr (sp_ft (sp_FB bk)) (sp_FB bk) (sp_TB bk) fuel 40 x 0, sp_sn (sp_ft (sp_FB bk)) (sp_FB bk) (sp_TB bk) fuel 40 x 0)
noncomputable def sp_chk (bk : List sp_Th) (fuel : Int) (x : ob_T) : List sp_Th × Int := match sp_p 1 x with
  | .var v => (match sp_tm (sp_ft (sp_FB bk)) (sp_p 2 x) with
    | some F => ifc (sp_mn v ∧ (∀ p ∈ sp_TB bk, p.1 ≠ v) ∧ (sp_TB bk).length < 60) (match (sp_pv bk fuel (sp_p 3 x)).1 with
      | none => (bk, (sp_pv bk fuel (sp_p 3 x)).2)
      | some D => (ifc (∀ t ∈ D.1, t = F) ((v, none, F) :: bk) bk, D.2)) (bk, 0)
    | none => (bk, 0))
  | _ => (bk, 0)
noncomputable def sp_cmd (bk : List sp_Th) (lit fuel : Int) (x : ob_T) : (List sp_Th × Int) × Int :=
  if sp_pl x = false then ((bk, lit), 0)
  else if sp_hc (sp_p 0 x) = 20052094 ∧ (sp_as x).length = 4 then ((sp_def bk x, lit), 0)
  else if sp_hc (sp_p 0 x) = 15480824 ∧ (sp_as x).length = 4 then (((sp_chk bk fuel x).1, lit), (sp_chk bk fuel x).2)
  else if sp_hc (sp_p 0 x) = 746742303 ∧ (sp_as x).length = 2 then (match (sp_pv bk fuel (sp_p 1 x)).1 with
    | none => ((bk, lit), (sp_pv bk fuel (sp_p 1 x)).2)
    | some D => ((bk, (D.1.length : Int)), D.2))
  else if sp_hc (sp_p 0 x) = 2211412 ∧ (sp_as x).length = 1 then ((bk.drop 1, lit), 0)
  else ((bk, lit), 0)
noncomputable def sp_run (bk : List sp_Th) (lit fuel : Int) : Option ob_T → (List sp_Th × Int) × Int
  | none => ((bk, lit), 0)
  | some x => sp_cmd bk lit fuel x
