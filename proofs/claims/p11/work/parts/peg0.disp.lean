section RUL
variable {ft : Nat → Int} {FB : List (Nat × List Nat × ob_T)} {TB : List (Nat × ob_T)} {f : ob_T → Int → Option (List ob_T × Int)} {x : ob_T} {st : Int} {r : Nat}
theorem in_22 : sp_ins ft FB 2079676 x = [] := by
  unfold sp_ins
  rw [if_neg (by decide), if_neg (by decide), if_neg (by decide), if_neg (by decide), if_neg (by decide), if_neg (by decide)]
theorem ax_22 : sp_axn 2079676 = 2 := by decide
theorem ru_22 : sp_ru ft FB TB f 2079676 x st = sp_cs2 (if (sp_as x).length = 2 then (sp_tm ft (sp_p 1 x)).bind (fun l => (sp_tm ft (sp_p 1 x)).bind (fun m => (sp_tm ft (sp_p 1 x)).bind (fun n => sp_cz (sp_ax 2079676 l m n)))) else none) st := by
  unfold sp_ru
  rw [if_neg (by decide), if_neg (by decide), if_neg (by decide), if_neg (by decide), if_neg (by decide), if_neg (by decide)]
  unfold sp_lf
  rw [if_neg (by decide), if_neg (by decide), if_neg (by decide), ax_22]
  by_cases h : (sp_as x).length = 2
  · rw [if_pos ⟨h.symm, by decide⟩, if_pos h]
    rfl
  · rw [if_neg (fun w => h w.1.symm), if_neg h]
theorem in_23 : sp_ins ft FB 1975462 x = [] := by
  unfold sp_ins
  rw [if_neg (by decide), if_neg (by decide), if_neg (by decide), if_neg (by decide), if_neg (by decide), if_neg (by decide)]
theorem ax_23 : sp_axn 1975462 = 2 := by decide
theorem ru_23 : sp_ru ft FB TB f 1975462 x st = sp_cs2 (if (sp_as x).length = 2 then (sp_tm ft (sp_p 1 x)).bind (fun l => (sp_tm ft (sp_p 1 x)).bind (fun m => (sp_tm ft (sp_p 1 x)).bind (fun n => sp_cz (sp_ax 1975462 l m n)))) else none) st := by
  unfold sp_ru
  rw [if_neg (by decide), if_neg (by decide), if_neg (by decide), if_neg (by decide), if_neg (by decide), if_neg (by decide)]
  unfold sp_lf
  rw [if_neg (by decide), if_neg (by decide), if_neg (by decide), ax_23]
  by_cases h : (sp_as x).length = 2
  · rw [if_pos ⟨h.symm, by decide⟩, if_pos h]
    rfl
  · rw [if_neg (fun w => h w.1.symm), if_neg h]
theorem in_24 : sp_ins ft FB 107484305 x = [] := by
  unfold sp_ins
  rw [if_neg (by decide), if_neg (by decide), if_neg (by decide), if_neg (by decide), if_neg (by decide), if_neg (by decide)]
theorem ru_24 : sp_ru ft FB TB f 107484305 x st = sp_cs2 (if (sp_as x).length = 2 then (sp_tm ft (sp_p 1 x)).bind (fun t => (sp_va ft t).bind (fun w => sp_cz [sp_opO (sp_eq t (sp_cs w))])) else none) st := by
  unfold sp_ru
  rw [if_neg (by decide), if_neg (by decide), if_neg (by decide), if_neg (by decide), if_neg (by decide), if_neg (by decide)]
  unfold sp_lf
  rw [if_pos rfl]
theorem in_25 : sp_ins ft FB 30253168 x = [] := by
  unfold sp_ins
  rw [if_neg (by decide), if_neg (by decide), if_neg (by decide), if_neg (by decide), if_neg (by decide), if_neg (by decide)]
theorem ax_25 : sp_axn 30253168 = 3 := by decide
theorem ru_25 : sp_ru ft FB TB f 30253168 x st = sp_cs2 (if (sp_as x).length = 3 then (sp_tm ft (sp_p 1 x)).bind (fun l => (sp_tm ft (sp_p 2 x)).bind (fun m => (sp_tm ft (sp_p 1 x)).bind (fun n => sp_cz (sp_ax 30253168 l m n)))) else none) st := by
  unfold sp_ru
  rw [if_neg (by decide), if_neg (by decide), if_neg (by decide), if_neg (by decide), if_neg (by decide), if_neg (by decide)]
  unfold sp_lf
  rw [if_neg (by decide), if_neg (by decide), if_neg (by decide), ax_25]
  by_cases h : (sp_as x).length = 3
  · rw [if_pos ⟨h.symm, by decide⟩, if_pos h]
    rfl
  · rw [if_neg (fun w => h w.1.symm), if_neg h]
theorem in_26 : sp_ins ft FB 4382298804 x = [] := by
  unfold sp_ins
  rw [if_neg (by decide), if_neg (by decide), if_neg (by decide), if_neg (by decide), if_neg (by decide), if_neg (by decide)]
theorem ax_26 : sp_axn 4382298804 = 3 := by decide
theorem ru_26 : sp_ru ft FB TB f 4382298804 x st = sp_cs2 (if (sp_as x).length = 3 then (sp_tm ft (sp_p 1 x)).bind (fun l => (sp_tm ft (sp_p 2 x)).bind (fun m => (sp_tm ft (sp_p 1 x)).bind (fun n => sp_cz (sp_ax 4382298804 l m n)))) else none) st := by
  unfold sp_ru
  rw [if_neg (by decide), if_neg (by decide), if_neg (by decide), if_neg (by decide), if_neg (by decide), if_neg (by decide)]
  unfold sp_lf
  rw [if_neg (by decide), if_neg (by decide), if_neg (by decide), ax_26]
  by_cases h : (sp_as x).length = 3
  · rw [if_pos ⟨h.symm, by decide⟩, if_pos h]
    rfl
  · rw [if_neg (fun w => h w.1.symm), if_neg h]
theorem in_27 : sp_ins ft FB 1663818 x = [] := by
  unfold sp_ins
  rw [if_neg (by decide), if_neg (by decide), if_neg (by decide), if_neg (by decide), if_neg (by decide), if_neg (by decide)]
theorem ax_27 : sp_axn 1663818 = 3 := by decide
theorem ru_27 : sp_ru ft FB TB f 1663818 x st = sp_cs2 (if (sp_as x).length = 3 then (sp_tm ft (sp_p 1 x)).bind (fun l => (sp_tm ft (sp_p 2 x)).bind (fun m => (sp_tm ft (sp_p 1 x)).bind (fun n => sp_cz (sp_ax 1663818 l m n)))) else none) st := by
  unfold sp_ru
  rw [if_neg (by decide), if_neg (by decide), if_neg (by decide), if_neg (by decide), if_neg (by decide), if_neg (by decide)]
  unfold sp_lf
  rw [if_neg (by decide), if_neg (by decide), if_neg (by decide), ax_27]
  by_cases h : (sp_as x).length = 3
  · rw [if_pos ⟨h.symm, by decide⟩, if_pos h]
    rfl
  · rw [if_neg (fun w => h w.1.symm), if_neg h]
theorem in_28 : sp_ins ft FB 55479 x = [] := by
  unfold sp_ins
  rw [if_neg (by decide), if_neg (by decide), if_neg (by decide), if_neg (by decide), if_neg (by decide), if_neg (by decide)]
theorem ax_28 : sp_axn 55479 = 4 := by decide
theorem ru_28 : sp_ru ft FB TB f 55479 x st = sp_cs2 (if (sp_as x).length = 4 then (sp_tm ft (sp_p 1 x)).bind (fun l => (sp_tm ft (sp_p 2 x)).bind (fun m => (sp_tm ft (sp_p 3 x)).bind (fun n => sp_cz (sp_ax 55479 l m n)))) else none) st := by
  unfold sp_ru
  rw [if_neg (by decide), if_neg (by decide), if_neg (by decide), if_neg (by decide), if_neg (by decide), if_neg (by decide)]
  unfold sp_lf
  rw [if_neg (by decide), if_neg (by decide), if_neg (by decide), ax_28]
  by_cases h : (sp_as x).length = 4
  · rw [if_pos ⟨h.symm, by decide⟩, if_pos h]
    rfl
  · rw [if_neg (fun w => h w.1.symm), if_neg h]
theorem in_29 : sp_ins ft FB 673 x = [] := by
  unfold sp_ins
  rw [if_neg (by decide), if_neg (by decide), if_neg (by decide), if_neg (by decide), if_neg (by decide), if_neg (by decide)]
theorem ax_29 : sp_axn 673 = 4 := by decide
theorem ru_29 : sp_ru ft FB TB f 673 x st = sp_cs2 (if (sp_as x).length = 4 then (sp_tm ft (sp_p 1 x)).bind (fun l => (sp_tm ft (sp_p 2 x)).bind (fun m => (sp_tm ft (sp_p 3 x)).bind (fun n => sp_cz (sp_ax 673 l m n)))) else none) st := by
  unfold sp_ru
  rw [if_neg (by decide), if_neg (by decide), if_neg (by decide), if_neg (by decide), if_neg (by decide), if_neg (by decide)]
  unfold sp_lf
  rw [if_neg (by decide), if_neg (by decide), if_neg (by decide), ax_29]
  by_cases h : (sp_as x).length = 4
  · rw [if_pos ⟨h.symm, by decide⟩, if_pos h]
    rfl
  · rw [if_neg (fun w => h w.1.symm), if_neg h]
theorem in_30 : sp_ins ft FB 9077 x = [] := by
  unfold sp_ins
  rw [if_neg (by decide), if_neg (by decide), if_neg (by decide), if_neg (by decide), if_neg (by decide), if_neg (by decide)]
theorem ru_30 : sp_ru ft FB TB f 9077 x st = sp_cs2 (if (sp_as x).length = 2 then (sp_fb FB (sp_p 1 x)).bind (fun p => sp_cz [sp_opO (sp_eq (.add (.var p.1) (sp_li (p.2.1.map .var))) p.2.2)]) else none) st := by
  unfold sp_ru
  rw [if_neg (by decide), if_neg (by decide), if_neg (by decide), if_neg (by decide), if_neg (by decide), if_neg (by decide)]
  unfold sp_lf
  rw [if_neg (by decide), if_pos rfl]
theorem in_31 : sp_ins ft FB 44569 x = [] := by
  unfold sp_ins
  rw [if_neg (by decide), if_neg (by decide), if_neg (by decide), if_neg (by decide), if_neg (by decide), if_neg (by decide)]
theorem ru_31 : sp_ru ft FB TB f 44569 x st = sp_cs2 (if (sp_as x).length = 2 then (sp_tb TB (sp_p 1 x)).bind (fun p => sp_cz [some p.2]) else none) st := by
  unfold sp_ru
  rw [if_neg (by decide), if_neg (by decide), if_neg (by decide), if_neg (by decide), if_neg (by decide), if_neg (by decide)]
  unfold sp_lf
  rw [if_neg (by decide), if_neg (by decide), if_pos rfl]
theorem ru_32 : sp_ru ft FB TB f 2399032 x st = (if (sp_as x).length = 3 then sp_weak ft f x st else none) := by
  unfold sp_ru
  rw [if_pos rfl]
theorem in_32 : sp_ins ft FB 2399032 x = ifc ((sp_as x).length = 3 ∧ sp_fw ft x) [sp_p 2 x] [] := by
  unfold sp_ins
  rw [if_pos rfl]
theorem ru_33 : sp_ru ft FB TB f 7634 x st = (if (sp_as x).length = 4 then sp_cut ft f x st else none) := by
  unfold sp_ru
  rw [if_neg (by decide), if_pos rfl]
theorem in_33 : sp_ins ft FB 7634 x = ifc ((sp_as x).length = 4 ∧ sp_tm ft (sp_p 1 x) ≠ none) [sp_p 2 x, sp_p 3 x] [] := by
  unfold sp_ins
  rw [if_neg (by decide), if_pos rfl]
theorem ru_34 : sp_ru ft FB TB f 966246 x st = (if 2 ≤ (sp_as x).length then sp_inst ft f x st else none) := by
  unfold sp_ru
  rw [if_neg (by decide), if_neg (by decide), if_pos rfl]
theorem in_34 : sp_ins ft FB 966246 x = ifc (2 ≤ (sp_as x).length ∧ sp_fi ft x) [sp_p 1 x] [] := by
  unfold sp_ins
  rw [if_neg (by decide), if_neg (by decide), if_pos rfl]
theorem ru_35 : sp_ru ft FB TB f 2023507 x st = (if (sp_as x).length = 2 then sp_swap f x st else none) := by
  unfold sp_ru
  rw [if_neg (by decide), if_neg (by decide), if_neg (by decide), if_pos rfl]
theorem in_35 : sp_ins ft FB 2023507 x = ifc ((sp_as x).length = 2) [sp_p 1 x] [] := by
  unfold sp_ins
  rw [if_neg (by decide), if_neg (by decide), if_neg (by decide), if_pos rfl]
theorem ru_36 : sp_ru ft FB TB f 36351 x st = (if (sp_as x).length = 3 then sp_put f x st else none) := by
  unfold sp_ru
  rw [if_neg (by decide), if_neg (by decide), if_neg (by decide), if_neg (by decide), if_pos rfl]
theorem in_36 : sp_ins ft FB 36351 x = ifc ((sp_as x).length = 3) [sp_p 1 x, sp_p 2 x] [] := by
  unfold sp_ins
  rw [if_neg (by decide), if_neg (by decide), if_neg (by decide), if_neg (by decide), if_pos rfl]
theorem ru_37 : sp_ru ft FB TB f 2132882439 x st = (if 3 ≤ (sp_as x).length then sp_ind ft FB f x st else none) := by
  unfold sp_ru
  rw [if_neg (by decide), if_neg (by decide), if_neg (by decide), if_neg (by decide), if_neg (by decide), if_pos rfl]
theorem in_37 : sp_ins ft FB 2132882439 x = ifc (3 ≤ (sp_as x).length ∧ sp_fd ft FB x) ((sp_as x).drop 3) [] := by
  unfold sp_ins
  rw [if_neg (by decide), if_neg (by decide), if_neg (by decide), if_neg (by decide), if_neg (by decide), if_pos rfl]
theorem ru_no (h : ∀ i : Nat, i < 38 → 22 ≤ i → r ≠ cNm.getD i 0) : sp_ru ft FB TB f r x st = none ∧ sp_ins ft FB r x = [] := by
  have a0 : sp_axn r = 0 := by
    unfold sp_axn
    rw [if_neg (fun w => w.elim (h 22 (by decide) (by decide)) (h 23 (by decide) (by decide))), if_neg (fun w => w.elim (h 25 (by decide) (by decide)) (fun w => w.elim (h 26 (by decide) (by decide)) (h 27 (by decide) (by decide)))), if_neg (fun w => w.elim (h 28 (by decide) (by decide)) (h 29 (by decide) (by decide)))]
  constructor
  · unfold sp_ru
    rw [if_neg (show ¬ r = 2399032 from h 32 (by decide) (by decide)), if_neg (show ¬ r = 7634 from h 33 (by decide) (by decide)), if_neg (show ¬ r = 966246 from h 34 (by decide) (by decide)), if_neg (show ¬ r = 2023507 from h 35 (by decide) (by decide)), if_neg (show ¬ r = 36351 from h 36 (by decide) (by decide)), if_neg (show ¬ r = 2132882439 from h 37 (by decide) (by decide))]
    unfold sp_lf
    rw [if_neg (show ¬ r = 107484305 from h 24 (by decide) (by decide)), if_neg (show ¬ r = 9077 from h 30 (by decide) (by decide)), if_neg (show ¬ r = 44569 from h 31 (by decide) (by decide)), if_neg (fun w => w.2 a0)]
    rfl
  · unfold sp_ins
    rw [if_neg (show ¬ r = 2399032 from h 32 (by decide) (by decide)), if_neg (show ¬ r = 7634 from h 33 (by decide) (by decide)), if_neg (show ¬ r = 966246 from h 34 (by decide) (by decide)), if_neg (show ¬ r = 2023507 from h 35 (by decide) (by decide)), if_neg (show ¬ r = 36351 from h 36 (by decide) (by decide)), if_neg (show ¬ r = 2132882439 from h 37 (by decide) (by decide))]
theorem ru_nil : sp_ru ft FB TB f 31361 x st = none ∧ sp_ins ft FB 31361 x = [] := ru_no (by decide)
end RUL
section PRS
variable {ft : Nat → Int} {FB : List (Nat × List Nat × ob_T)} {TB : List (Nat × ob_T)} {fu st : Int} {D : Nat} {x : ob_T}
theorem pr_fu (h : fu ≤ st) : sp_pr ft FB TB fu D x st = none ∧ sp_sn ft FB TB fu D x st = st := by
  cases D with
  | zero => exact ⟨rfl, rfl⟩
  | succ D => exact ⟨if_pos (Or.inl h), if_pos h⟩
theorem pr_pl (h : ¬ fu ≤ st) (hl : sp_pl x = false) : sp_pr ft FB TB fu (D + 1) x st = none ∧ sp_sn ft FB TB fu (D + 1) x st = st + 1 := ⟨if_pos (Or.inr hl), (if_neg h).trans (if_pos hl)⟩
theorem pr_s (h : ¬ fu ≤ st) (hl : sp_pl x = true) {r : Nat} (hr : sp_hc (sp_p 0 x) = r) : sp_pr ft FB TB fu (D + 1) x st = sp_ru ft FB TB (sp_pr ft FB TB fu D) r x (st + 1) ∧ sp_sn ft FB TB fu (D + 1) x st = sp_sg (sp_pr ft FB TB fu D) (sp_sn ft FB TB fu D) (sp_ins ft FB r x) (st + 1) := by
  subst hr
  refine ⟨if_neg ?_, (if_neg h).trans (if_neg ?_)⟩
  · rw [hl]
    rintro (w | w)
    · exact h w
    · cases w
  · rw [hl]
    intro w
    cases w
theorem pr_no (h : ¬ fu ≤ st) (hl : sp_pl x = true) {r : Nat} (hr : sp_hc (sp_p 0 x) = r) (h0 : ∀ f : ob_T → Int → Option (List ob_T × Int), sp_ru ft FB TB f r x (st + 1) = none ∧ sp_ins ft FB r x = []) : sp_pr ft FB TB fu (D + 1) x st = none ∧ sp_sn ft FB TB fu (D + 1) x st = st + 1 := by
  have q := pr_s (ft := ft) (FB := FB) (TB := TB) (D := D) h hl hr
  rw [(h0 _).1, (h0 (fun _ _ => none)).2] at q
  exact q
end PRS
theorem HC_no {s : KS} {NM : BKM} {k : Int} (h : KNT s NM) (hC : CI s) (hB : KB s) (k0 : OB s k) (kn : ∀ i : Nat, i < 38 → 22 ≤ i → k ≠ (i : Int)) : ∀ i : Nat, i < 38 → 22 ≤ i → sp_hc (DK s.N k) ≠ cNm.getD i 0 := by
  intro i i1 i0 e
  have ST := (KNT_ST h hC hB).1
  have u := KB_38 hB
  have ei := KNN_D h.2.1 (i := i) i1
  have pos : ∀ i : Nat, i < 38 → cNm.getD i 0 ≠ 0 := by decide
  rcases ST.1 k k0.1 k0.2 with ⟨-, n, q⟩ | ⟨-, v, q⟩ | ⟨-, q⟩
  · rw [q] at e
    exact pos i i1 e.symm
  · rw [q] at e
    have e : v = cNm.getD i 0 := e
    rw [← e, ← q] at ei
    exact kn i i1 i0 (ST.2.1 k i k0.1 k0.2 (by omega) (by omega) ei.symm)
  · rw [q] at e
    exact pos i i1 e.symm
theorem HC_yes {s : KS} {NM : BKM} {i : Nat} (h : KNT s NM) (hi : i < 38) : sp_hc (DK s.N (i : Int)) = cNm.getD i 0 := by
  rw [KNN_D h.2.1 hi]
  rfl
