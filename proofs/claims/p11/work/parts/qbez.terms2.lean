theorem ts_nf {ft : Nat → Int} : ∀ x : ob_T, (1 ≤ (sp_ts ft x).1 → (sp_ts ft (sp_nf x).1).1 = (sp_ts ft x).1) ∧ (0 ≤ (sp_ts ft x).2.1 → (sp_ts ft (sp_nf x).2).2 = (sp_ts ft x).2)
  | .num _ => ⟨fun _ => rfl, fun _ => rfl⟩
  | .var _ => ⟨fun _ => rfl, fun _ => rfl⟩
  | .sub _ _ => ⟨fun _ => rfl, fun _ => rfl⟩
  | .neg _ => ⟨fun _ => rfl, fun _ => rfl⟩
  | .mulL _ _ => ⟨fun _ => rfl, fun _ => rfl⟩
  | .mulR _ _ => ⟨fun _ => rfl, fun _ => rfl⟩
  | .add a b => by
    have ra := ts_nf (ft := ft) a
    have rb := ts_nf (ft := ft) b
    refine ⟨fun h => ?_, fun h => ?_⟩
    · have h0 : (sp_ts ft (.add a b)).1 = (if sp_isq a = true then (if sp_one b = true then (1 : Int) else 0) else if 0 ≤ (sp_ts ft b).2.1 ∧ (sp_ts ft b).2.2 = sp_arT ft a then 1 + (sp_ts ft b).2.1 else 0) := rfl
      have e : (sp_nf (.add a b)).1 = (if sp_isq a = true then (if sp_ba (sp_fst b) = true then sp_fst b else .add a b) else .add a (sp_nf b).2) := rfl
      rw [e]
      by_cases q : sp_isq a = true
      · rw [if_pos q]
        by_cases c : sp_ba (sp_fst b) = true
        · rw [if_pos c]
          rw [h0, if_pos q] at h ⊢
          by_cases o : sp_one b = true
          · rw [if_pos o]
            generalize sp_fst b = t at c
            match t, c with
            | .num _, _ => rfl
            | .var _, _ => rfl
          · rw [if_neg o] at h
            omega
        · rw [if_neg c]
      · rw [if_neg q]
        rw [h0, if_neg q] at h ⊢
        show (if sp_isq a = true then (if sp_one (sp_nf b).2 = true then (1 : Int) else 0) else if 0 ≤ (sp_ts ft (sp_nf b).2).2.1 ∧ (sp_ts ft (sp_nf b).2).2.2 = sp_arT ft a then 1 + (sp_ts ft (sp_nf b).2).2.1 else 0) = _
        rw [if_neg q]
        by_cases c : 0 ≤ (sp_ts ft b).2.1 ∧ (sp_ts ft b).2.2 = sp_arT ft a
        · rw [rb.2 c.1]
        · rw [if_neg c] at h
          omega
    · have h0 : (sp_ts ft (.add a b)).2.1 = (if 1 ≤ (sp_ts ft a).1 ∧ 0 ≤ (sp_ts ft b).2.1 then (sp_ts ft a).1 + (sp_ts ft b).2.1 else -1) := rfl
      rw [h0] at h
      have c : 1 ≤ (sp_ts ft a).1 ∧ 0 ≤ (sp_ts ft b).2.1 := by
        by_cases c : 1 ≤ (sp_ts ft a).1 ∧ 0 ≤ (sp_ts ft b).2.1
        · exact c
        · rw [if_neg c] at h
          omega
      show ((if 1 ≤ (sp_ts ft (sp_nf a).1).1 ∧ 0 ≤ (sp_ts ft (sp_nf b).2).2.1 then (sp_ts ft (sp_nf a).1).1 + (sp_ts ft (sp_nf b).2).2.1 else -1), 1 + (sp_ts ft (sp_nf b).2).2.2) = ((if 1 ≤ (sp_ts ft a).1 ∧ 0 ≤ (sp_ts ft b).2.1 then (sp_ts ft a).1 + (sp_ts ft b).2.1 else -1), 1 + (sp_ts ft b).2.2)
      rw [ra.1 c.1, rb.2 c.2]
theorem tm_ts {ft : Nat → Int} {x t : ob_T} (h : sp_tm ft x = some t) : 1 ≤ (sp_ts ft t).1 := by
  unfold sp_tm at h
  by_cases c : 1 ≤ (sp_ts ft x).1 ∧ (sp_ts ft x).1 ≤ 120
  · rw [if_pos c] at h
    injection h with h
    rw [← h, (ts_nf x).1 c.1]
    exact c.1
  · rw [if_neg c] at h
    exact absurd h (by simp)
theorem TQ_ts {ar : Int → Int} {ft : Nat → Int} {FB : List (Nat × List Nat × ob_T)} {TB : List (Nat × ob_T)} {I I1 : Nat → Int} {A A1 : Nat → Int → Int} {N : Int → Int} {o t : Int} (hB : BI ar I A N) (h : BTX ar ft FB TB I A N) (o0 : 0 ≤ o) (o1 : o < I 7) (q : TQ ar o t I A N I1 A1) (r : 0 ≤ t) (r1 : t < I1 7) : 1 ≤ TS A1 ar t := by
  have B1 := BTX_BX hB h q.1 FB_FQ GT_GQ
  have e := tm_ts ((TQ_tm hB h o0 o1 q).2 (by omega))
  rw [TS_1 q.2.1.1.1 q.2.1.1.2.1 B1.1 B1.2.1 r r1] at e
  exact e
