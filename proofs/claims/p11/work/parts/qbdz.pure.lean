theorem ph_no {t : ob_T} (h : ¬ ∃ c x y z : ob_T, t = .add (.var 429) (.add c (.add x (.add y z)))) : sp_ph t = [([], t)] := by
  unfold sp_ph
  split
  · rename_i v c x y z
    by_cases e : v = 429
    · exact absurd ⟨c, x, y, z, by rw [e]⟩ h
    · exact if_neg e
  · rfl
def tsz : ob_T → Nat
  | .add a b => 1 + tsz a + tsz b
  | _ => 0
section PHT
variable {ft : Nat → Int}
theorem ts_1 (a b : ob_T) : (sp_ts ft (.add a b)).1 = (if sp_isq a = true then (if sp_one b = true then (1 : Int) else 0) else if 0 ≤ (sp_ts ft b).2.1 ∧ (sp_ts ft b).2.2 = sp_arT ft a then 1 + (sp_ts ft b).2.1 else 0) := rfl
theorem ts_2 (a b : ob_T) : (sp_ts ft (.add a b)).2.1 = (if 1 ≤ (sp_ts ft a).1 ∧ 0 ≤ (sp_ts ft b).2.1 then (sp_ts ft a).1 + (sp_ts ft b).2.1 else -1) := rfl
theorem ts_2p {a b : ob_T} (h : 0 ≤ (sp_ts ft (.add a b)).2.1) : 1 ≤ (sp_ts ft a).1 ∧ 0 ≤ (sp_ts ft b).2.1 := by
  rw [ts_2] at h
  by_cases c : 1 ≤ (sp_ts ft a).1 ∧ 0 ≤ (sp_ts ft b).2.1
  · exact c
  · rw [if_neg c] at h
    exact absurd h (by decide)
theorem ts_1p {a b : ob_T} (q : ¬ sp_isq a = true) (h : 1 ≤ (sp_ts ft (.add a b)).1) : 0 ≤ (sp_ts ft b).2.1 ∧ (sp_ts ft b).2.2 = sp_arT ft a := by
  rw [ts_1, if_neg q] at h
  by_cases c : 0 ≤ (sp_ts ft b).2.1 ∧ (sp_ts ft b).2.2 = sp_arT ft a
  · exact c
  · rw [if_neg c] at h
    exact absurd h (by decide)
theorem ts_hn (hn : sp_arT ft (.var 31651) = 1) {t : ob_T} (h : 1 ≤ (sp_ts ft t).1) : ∀ b : ob_T, t = .add (.var 31651) b → ∃ p q : ob_T, b = .add p q := by
  intro b e
  rw [e] at h
  have d := (ts_1p (by decide) h).2
  rw [hn] at d
  match b, d with
  | .num _, d => exact absurd (show (0 : Int) = 1 from d) (by decide)
  | .var _, d => exact absurd (show (0 : Int) = 1 from d) (by decide)
  | .add p q, _ => exact ⟨p, q, rfl⟩
  | .sub _ _, d => exact absurd (show (0 : Int) = 1 from d) (by decide)
  | .neg _, d => exact absurd (show (0 : Int) = 1 from d) (by decide)
  | .mulL _ _, d => exact absurd (show (0 : Int) = 1 from d) (by decide)
  | .mulR _ _, d => exact absurd (show (0 : Int) = 1 from d) (by decide)
theorem sz_add (a b : ob_T) : sp_sz (.add a b) = (if sp_isq a = true then 1 else 1 + (sp_sz b).2, (sp_sz a).1 + (sp_sz b).2) := rfl
theorem sz_not (hn : sp_arT ft (.var 31651) = 1) {t : ob_T} (h : 1 ≤ (sp_ts ft t).1) : (sp_sz (sp_not t)).1 ≤ 1 + (sp_sz t).1 := by
  match t, h with
  | .num _, _ => show (1 : Int) ≤ 1 + 1; decide
  | .var v, _ =>
    show (sp_sz (if v = 31361 then .var 20 else if v = 20 then .var 31361 else .add (.var 31651) (.add (.var v) (.var 31361)))).1 ≤ 1 + 1
    split
    · show (1 : Int) ≤ _
      decide
    · split
      · show (1 : Int) ≤ _
        decide
      · rw [sz_add, sz_add, if_neg (by decide)]
        show 1 + ((1 : Int) + 0) ≤ _
        decide
  | .add a b, h =>
    have s1 := sp_sz_1 (.add a b)
    show (sp_sz (if sp_ish 31651 a = true then sp_fst b else if sp_isq a = true then .var 31361 else .add (.var 31651) (.add (.add a b) (.var 31361)))).1 ≤ _
    by_cases c : sp_ish 31651 a = true
    · rw [if_pos c]
      have ea := sp_ish_e c
      rw [ea] at h
      obtain ⟨p, q, eb⟩ := ts_hn hn h b rfl
      rw [ea, eb, sz_add, if_neg (by decide), sz_add]
      show (sp_sz p).1 ≤ 1 + (1 + ((sp_sz p).1 + (sp_sz q).2))
      have := (sp_sz_1 q).2
      omega
    · rw [if_neg c]
      by_cases q : sp_isq a = true
      · rw [if_pos q]
        show (1 : Int) ≤ _
        omega
      · rw [if_neg q, sz_add (.var 31651), if_neg (by decide), sz_add (.add a b)]
        show 1 + ((sp_sz (.add a b)).1 + 0) ≤ _
        omega
theorem ph_ts : ∀ (f : Nat) (t : ob_T), tsz t < f → 1 ≤ (sp_ts ft t).1 → ∀ p ∈ sp_ph t, (∀ r ∈ p.1, 1 ≤ (sp_ts ft r.2).1 ∧ (sp_sz r.2).1 < (sp_sz t).1) ∧ 1 ≤ (sp_ts ft p.2).1
  | f + 1, t, hf, ht, p, hp => by
    by_cases c : ∃ c x y z : ob_T, t = .add (.var 429) (.add c (.add x (.add y z)))
    · obtain ⟨c, x, y, z, rfl⟩ := c
      have hf : 1 + 0 + (1 + tsz c + (1 + tsz x + (1 + tsz y + tsz z))) < f + 1 := hf
      have a1 := ts_2p (ts_1p (by decide) ht).1
      have a2 := ts_2p a1.2
      have a3 := ts_2p a2.2
      have sz : (sp_sz (.add (.var 429) (.add c (.add x (.add y z))))).1 = 1 + ((sp_sz c).1 + ((sp_sz x).1 + ((sp_sz y).1 + (sp_sz z).2))) := by
        rw [sz_add, if_neg (by decide), sz_add, sz_add, sz_add]
      have zc := (sp_sz_1 c).1
      have zx := (sp_sz_1 x).1
      have zy := (sp_sz_1 y).1
      have zz := (sp_sz_1 z).2
      rw [sp_ph_if] at hp
      rw [sz]
      rcases List.mem_append.mp hp with hp | hp
      · obtain ⟨p9, h9, rfl⟩ := List.mem_map.mp hp
        have r := ph_ts f x (by omega) a2.1 p9 h9
        refine ⟨fun q hq => ?_, r.2⟩
        rcases List.mem_cons.mp hq with hq | hq
        · rw [hq]
          exact ⟨a1.1, by show (sp_sz c).1 < _; omega⟩
        · have s := r.1 q hq
          exact ⟨s.1, by omega⟩
      · obtain ⟨p9, h9, rfl⟩ := List.mem_map.mp hp
        have r := ph_ts f y (by omega) a3.1 p9 h9
        refine ⟨fun q hq => ?_, r.2⟩
        rcases List.mem_cons.mp hq with hq | hq
        · rw [hq]
          exact ⟨a1.1, by show (sp_sz c).1 < _; omega⟩
        · have s := r.1 q hq
          exact ⟨s.1, by omega⟩
    · rw [ph_no c] at hp
      rw [List.mem_singleton.mp hp]
      exact ⟨fun r hr => (by cases hr), ht⟩
theorem wok_all (hn : sp_arT ft (.var 31651) = 1) {t : ob_T} (ht : 1 ≤ (sp_ts ft t).1) (sz : (sp_sz t).1 ≤ 120) : ∀ p ∈ sp_ph t, WOK p.1 := fun p hp r hr _ => by
  have s := (ph_ts (ft := ft) (tsz t + 1) t (by omega) ht p hp).1 r hr
  have q := sz_not hn s.1
  omega
theorem PXI_w {ar : Int → Int} {o : Int} {I I1 : Nat → Int} {A A1 : Nat → Int → Int} {N : Int → Int} (px : PXI ar o 0 I A N I1 A1) (hw : ∀ p ∈ sp_ph (DM A N o), WOK p.1) (w : I 49 = 0) : I1 49 = 0 := by
  obtain ⟨P, S, ⟨-, sl⟩, -, -, pe, pw⟩ := px
  have S0 : S = [] := List.eq_nil_of_length_eq_zero (by omega)
  rw [S0] at pe pw
  have pe : P = sp_ph (DM A N o) := by
    rw [← pe]
    exact (List.append_nil P).symm
  exact pw.mpr ⟨w, fun p hp => hw p (by rw [← pe]; exact hp), fun s hs => (by cases hs)⟩
end PHT
