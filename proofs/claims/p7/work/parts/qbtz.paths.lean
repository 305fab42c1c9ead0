section PHS
variable {ft : Nat → Int} {Vs Vl : List Nat} {Os : List ob_T}
theorem ts_2p {a b : ob_T} (h : 0 ≤ (sp_ts ft (.add a b)).2.1) : 1 ≤ (sp_ts ft a).1 ∧ 0 ≤ (sp_ts ft b).2.1 := by
  rw [ts_2] at h
  by_cases c : 1 ≤ (sp_ts ft a).1 ∧ 0 ≤ (sp_ts ft b).2.1
  · exact c
  · rw [if_neg c] at h
    exact absurd h (by decide)
theorem ts_1p {a b : ob_T} (q : ¬ sp_isq a = true) (h : 1 ≤ (sp_ts ft (.add a b)).1) : 0 ≤ (sp_ts ft b).2.1 ∧ (sp_ts ft b).2.2 = sp_arT ft a := by
  rw [ts_1, if_neg q] at h
  by_cases c : 0 ≤ (sp_ts ft b).2.1 ∧ (sp_ts ft b).2.2 = sp_arT ft a
  · exact c
  · rw [if_neg c] at h
    exact absurd h (by decide)
theorem ts_hn (hn : sp_arT ft (.var 31651) = 1) {t : ob_T} (h : 1 ≤ (sp_ts ft t).1) : ∀ b : ob_T, t = .add (.var 31651) b → ∃ p q : ob_T, b = .add p q := by
  intro b e
  rw [e] at h
  have d := (ts_1p (by decide) h).2
  rw [hn] at d
  match b, d with
  | .num _, d => exact absurd (show (0 : Int) = 1 from d) (by decide)
  | .var _, d => exact absurd (show (0 : Int) = 1 from d) (by decide)
  | .add p q, _ => exact ⟨p, q, rfl⟩
  | .sub _ _, d => exact absurd (show (0 : Int) = 1 from d) (by decide)
  | .neg _, d => exact absurd (show (0 : Int) = 1 from d) (by decide)
  | .mulL _ _, d => exact absurd (show (0 : Int) = 1 from d) (by decide)
  | .mulR _ _, d => exact absurd (show (0 : Int) = 1 from d) (by decide)
theorem sz_add (a b : ob_T) : sp_sz (.add a b) = (if sp_isq a = true then 1 else 1 + (sp_sz b).2, (sp_sz a).1 + (sp_sz b).2) := rfl
theorem sz_not (hn : sp_arT ft (.var 31651) = 1) {t : ob_T} (h : 1 ≤ (sp_ts ft t).1) : (sp_sz (sp_not t)).1 ≤ 1 + (sp_sz t).1 := by
  match t, h with
  | .num _, _ => show (1 : Int) ≤ 1 + 1; decide
  | .var v, _ =>
    show (sp_sz (if v = 31361 then .var 20 else if v = 20 then .var 31361 else .add (.var 31651) (.add (.var v) (.var 31361)))).1 ≤ 1 + 1
    split
    · show (1 : Int) ≤ _
      decide
    · split
      · show (1 : Int) ≤ _
        decide
      · rw [sz_add, sz_add, if_neg (by decide)]
        show 1 + ((1 : Int) + 0) ≤ _
        decide
  | .add a b, h =>
    have s1 := sp_sz_1 (.add a b)
    show (sp_sz (if sp_ish 31651 a = true then sp_fst b else if sp_isq a = true then .var 31361 else .add (.var 31651) (.add (.add a b) (.var 31361)))).1 ≤ _
    by_cases c : sp_ish 31651 a = true
    · rw [if_pos c]
      have ea := sp_ish_e c
      rw [ea] at h
      obtain ⟨p, q, eb⟩ := ts_hn hn h b rfl
      rw [ea, eb, sz_add, if_neg (by decide), sz_add]
      show (sp_sz p).1 ≤ 1 + (1 + ((sp_sz p).1 + (sp_sz q).2))
      have := (sp_sz_1 q).2
      omega
    · rw [if_neg c]
      by_cases q : sp_isq a = true
      · rw [if_pos q]
        show (1 : Int) ≤ _
        omega
      · rw [if_neg q, sz_add (.var 31651), if_neg (by decide), sz_add (.add a b)]
        show 1 + ((sp_sz (.add a b)).1 + 0) ≤ _
        omega
theorem ph_ts : ∀ (f : Nat) (t : ob_T), tsz t < f → 1 ≤ (sp_ts ft t).1 → ∀ p ∈ sp_ph t, (∀ r ∈ p.1, 1 ≤ (sp_ts ft r.2).1 ∧ (sp_sz r.2).1 < (sp_sz t).1) ∧ 1 ≤ (sp_ts ft p.2).1
  | f + 1, t, hf, ht, p, hp => by
    by_cases c : ∃ c x y z : ob_T, t = .add (.var 429) (.add c (.add x (.add y z)))
    · obtain ⟨c, x, y, z, rfl⟩ := c
      have hf : 1 + 0 + (1 + tsz c + (1 + tsz x + (1 + tsz y + tsz z))) < f + 1 := hf
      have a1 := ts_2p (ts_1p (by decide) ht).1
      have a2 := ts_2p a1.2
      have a3 := ts_2p a2.2
      have sz : (sp_sz (.add (.var 429) (.add c (.add x (.add y z))))).1 = 1 + ((sp_sz c).1 + ((sp_sz x).1 + ((sp_sz y).1 + (sp_sz z).2))) := by
        rw [sz_add, if_neg (by decide), sz_add, sz_add, sz_add]
      have zc := (sp_sz_1 c).1
      have zx := (sp_sz_1 x).1
      have zy := (sp_sz_1 y).1
      have zz := (sp_sz_1 z).2
      rw [sp_ph_if] at hp
      rw [sz]
      rcases List.mem_append.mp hp with hp | hp
      · obtain ⟨p9, h9, rfl⟩ := List.mem_map.mp hp
        have r := ph_ts f x (by omega) a2.1 p9 h9
        refine ⟨fun q hq => ?_, r.2⟩
        rcases List.mem_cons.mp hq with hq | hq
        · rw [hq]
          exact ⟨a1.1, by show (sp_sz c).1 < _; omega⟩
        · have s := r.1 q hq
          exact ⟨s.1, by omega⟩
      · obtain ⟨p9, h9, rfl⟩ := List.mem_map.mp hp
        have r := ph_ts f y (by omega) a3.1 p9 h9
        refine ⟨fun q hq => ?_, r.2⟩
        rcases List.mem_cons.mp hq with hq | hq
        · rw [hq]
          exact ⟨a1.1, by show (sp_sz c).1 < _; omega⟩
        · have s := r.1 q hq
          exact ⟨s.1, by omega⟩
    · rw [ph_no c] at hp
      rw [List.mem_singleton.mp hp]
      exact ⟨fun r hr => (by cases hr), ht⟩
theorem itR_ph {A : Nat → Int → Int} {N : Int → Int} {w : Prop} {R : List (Bool × ob_T)} {p n : Int} (h : RNV Os) (hn : sp_arT ft (.var 31651) = 1) (hp : PEN N A w R n (fun k => A 40 (64 * p + k))) (hw : w) (hr : ∀ r ∈ R, 1 ≤ (sp_ts ft r.2).1 ∧ (sp_sz r.2).1 < 120) : itR (sp_in Vs Os) A N p n = (R.map (fun r => (r.1, (sp_in Vs Os r.2).1))).map sp_rI := by
  unfold itR ixl
  have en : n.toNat = R.length := by have := hp.1; omega
  rw [en]
  refine List.ext_getElem? (fun j => ?_)
  by_cases hj : j < R.length
  · obtain ⟨b, τ, e1, e2⟩ := hp.2 j hj
    have e2 := e2 hw
    have mr := hr (b, τ) (List.mem_of_getElem? e1)
    rw [List.getElem?_map, List.getElem?_map, List.getElem?_range hj, List.getElem?_map, List.getElem?_map, e1]
    show some (sp_ntO (sp_opO (sp_in Vs Os (DM A N (A 40 (64 * p + (j : Int))))).1)) = some (sp_rI (b, (sp_in Vs Os τ).1))
    have e2 : DM A N (A 40 (64 * p + (j : Int))) = (if b = true then τ else sp_not τ) := e2
    rw [e2]
    cases b with
    | true =>
      rw [if_pos rfl, sp_opO_s (by rw [(sz_in h τ).1]; have := mr.2; have : (sp_sz τ).1 < 120 := this; omega)]
      rfl
    | false =>
      rw [if_neg (by decide), ← not_in h τ (ts_hn hn mr.1)]
      rfl
  · rw [List.getElem?_eq_none (by rw [List.length_map, List.length_map, List.length_range]; omega), List.getElem?_eq_none (by rw [List.length_map, List.length_map]; omega)]
def RNC (fn : Nat) (Vs Vl : List Nat) (Os : List ob_T) (F τ : ob_T) (A : Nat → Int → Int) (N : Int → Int) (c p : Int) : Prop := ∃ (q : List (Bool × ob_T) × ob_T) (D : List ob_T), (sp_ph (sp_in Vs Os τ).1)[p.toNat]? = some q ∧ sp_cz (sp_du fn Vl F q) = some D ∧ ∀ k : Int, 0 ≤ k → k < A 51 (c + p) → DM A N (A 50 (30 * (c + p) + k)) ∈ D
theorem ROK_iff {A : Nat → Int → Int} {N : Int → Int} {w : Prop} {fn : Nat} {F τ : ob_T} {c p : Int} {pp : List (Bool × ob_T) × ob_T} (h : RNV Os) (hn : sp_arT ft (.var 31651) = 1) (e : (sp_ph τ)[p.toNat]? = some pp) (e2 : pp.2 = DM A N (A 39 p)) (hp : PEN N A w pp.1 (A 41 p) (fun k => A 40 (64 * p + k))) (hw : w) (hr : ∀ r ∈ pp.1, 1 ≤ (sp_ts ft r.2).1 ∧ (sp_sz r.2).1 < 120) : ROK fn Vs Vl Os F A N c p ↔ RNC fn Vs Vl Os F τ A N c p := by
  have ei : (sp_ph (sp_in Vs Os τ).1)[p.toNat]? = some (pp.1.map (fun r => (r.1, (sp_in Vs Os r.2).1)), (sp_in Vs Os pp.2).1) := by
    rw [ph_in h (tsz τ + 1) τ (by omega), List.getElem?_map, e]
    rfl
  have eu : itP fn Vs Vl Os F A N p = sp_du fn Vl F (pp.1.map (fun r => (r.1, (sp_in Vs Os r.2).1)), (sp_in Vs Os pp.2).1) := by
    unfold itP sp_du
    rw [itR_ph h hn hp hw hr, e2]
  unfold ROK RNC
  rw [eu]
  refine ⟨fun ⟨E, a, b⟩ => ⟨_, E, ei, a, b⟩, fun ⟨q, D, a, b, d⟩ => ?_⟩
  rw [ei] at a
  injection a with a
  rw [← a] at b
  exact ⟨D, b, d⟩
end PHS
