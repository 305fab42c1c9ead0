def MXP (I : Nat → Int) (A : Nat → Int → Int) (N : Int → Int) (I1 : Nat → Int) (A1 : Nat → Int → Int) (F : sp_F) : Prop := MX I1 A1 N ∧ MNM A1 N ∧ MKE I A N A1 N ∧ (MHT I A N → MHT I1 A1 N) ∧ RRm I1 A1 N F (I1 27) (I1 29) ∧ WFr F
section MDL
variable {I : Nat → Int} {A : Nat → Int → Int} {N : Int → Int} {F : sp_F} {o : Int}
theorem RRm_pos (hF : RRm I A N F (I 27) (I 29)) (h27 : 0 < I 27) : ∃ (k : Int) (l : List ob_T) (f : Int × List ob_T) (r : sp_F), F = (k, l) :: f :: r := by
  match F, hF with
  | [], hF => exact absurd hF id
  | [(k, l)], hF =>
    have := hF.1
    omega
  | (k, l) :: f :: r, _ => exact ⟨k, l, f, r, rfl⟩
theorem RRm_zero (hF : RRm I A N F (I 27) (I 29)) (h27 : I 27 = 0) : ∃ (k : Int) (l : List ob_T), F = [(k, l)] := by
  match F, hF with
  | [], hF => exact absurd hF id
  | [(k, l)], _ => exact ⟨k, l, rfl⟩
  | (k, l) :: f :: r, hF =>
    have := hF.1
    omega
theorem MD_item (hX : MX I A N) (hM : MNM A N) (hF : RRm I A N F (I 27) (I 29)) (wf : WFr F) (t6 : sp_top F ≠ 6) (h27 : 0 < I 27) (nq : A 15 (I 27 - 1) = 0) (q1 : A 17 (I 27 - 1) ≠ 1) (o2 : 0 ≤ I 29) : MXP I A N (su I 29 (I 29 + 1)) (sa A 19 (I 29) o) (sp_add F (DM A N o)) := by
  obtain ⟨k, l, f, r, rfl⟩ := RRm_pos hF h27
  have t6 : k ≠ 6 := t6
  obtain ⟨a1, a2, a3, ⟨a4, a5⟩, a6⟩ := hF
  have im : sp_im k l = l := if_neg t6
  rw [im] at a3 a4 a5 a6
  have hk : (k = 3 ∨ k = 4) ∧ A 17 (I 27 - 1) = 0 := by
    rcases a2 with ⟨-, q⟩ | ⟨-, q | ⟨-, q⟩ | ⟨q, -⟩⟩
    · omega
    · exact q
    · exact absurd q q1
    · exact absurd q t6
  have ea : sp_add ((k, l) :: f :: r) (DM A N o) = (4, DM A N o :: l) :: f :: r := by
    show (if k = 2 then _ else (sp_nk k, DM A N o :: l) :: f :: r) = _
    rw [if_neg (by omega)]
    unfold sp_nk
    rw [if_neg (by omega), if_neg (by omega)]
  have eD : DM (sa A 19 (I 29) o) N = DM A N := rfl
  have el : I 29 + 1 - ((DM A N o :: l).length : Int) = I 29 - l.length := by
    rw [List.length_cons]
    omega
  have h19 : ∀ q : Int, 0 ≤ q → q < I 29 → sa A 19 (I 29) o 19 q = A 19 q ∧ DM (sa A 19 (I 29) o) N (A 19 q) = DM A N (A 19 q) := fun q _ q1 => ⟨sf_ne (by omega), rfl⟩
  rw [ea]
  refine ⟨hX, hM, fun _ _ _ => ⟨rfl, rfl, rfl⟩, id, ?_, ?_⟩
  · show RRm (su I 29 (I 29 + 1)) (sa A 19 (I 29) o) N ((4, DM A N o :: l) :: f :: r) (I 27) (I 29 + 1)
    have im4 : sp_im 4 (DM A N o :: l) = DM A N o :: l := if_neg (by decide)
    refine ⟨a1, Or.inr ⟨nq, Or.inl ⟨Or.inr rfl, hk.2⟩⟩, fun _ => ?_, ?_, ?_⟩
    · rw [im4, el]
      exact a3 (by omega)
    · rw [im4, el]
      refine ⟨a4, by omega, ?_, ?_⟩
      · rw [show I 29 + 1 - 1 = I 29 by omega]
        show DM A N (sf (A 19) (I 29) o (I 29)) = _
        rw [sf_self]
      · rw [show I 29 + 1 - 1 = I 29 by omega]
        exact RIm_ext l (I 29) h19 a5
    · rw [im4, el]
      exact RRm_ext (I := I) (A := A) (N := N) (I1 := su I 29 (I 29 + 1)) (A1 := sa A 19 (I 29) o) (N1 := N) rfl (fun _ => ⟨rfl, rfl⟩) (f :: r) _ _ (fun q _ _ => ⟨rfl, rfl, rfl, fun _ => ⟨rfl, rfl⟩⟩) (fun q q0 q1 => h19 q q0 (by omega)) a6
  · exact ⟨⟨fun q => absurd q (by decide), fun q => absurd q (by decide), fun q => absurd q (by decide), fun q => absurd q (by decide), fun q => absurd q (by decide), (fun q => by cases q), fun _ => (by rw [List.length_cons]; omega), fun q => absurd q (by decide)⟩, wf.2⟩
theorem MD_last (hX : MX I A N) (hM : MNM A N) (hF : RRm I A N F (I 27) (I 29)) (wf : WFr F) (h27 : 0 < I 27) (nq : A 15 (I 27 - 1) = 0) (q1 : A 17 (I 27 - 1) = 1) : MXP I A N I (sa (sa A 18 (I 27 - 1) o) 17 (I 27 - 1) 2) (sp_add F (DM A N o)) := by
  obtain ⟨k, l, f, r, rfl⟩ := RRm_pos hF h27
  obtain ⟨a1, a2, a3, ⟨a4, a5⟩, a6⟩ := hF
  have hk : k = 5 := by
    rcases a2 with ⟨-, q⟩ | ⟨-, ⟨-, q⟩ | ⟨q, -⟩ | ⟨-, q, -⟩⟩ <;> omega
  subst hk
  have im : sp_im 5 l = l := if_neg (by decide)
  rw [im] at a3 a4 a5 a6
  have ea : sp_add ((5, l) :: f :: r) (DM A N o) = (6, DM A N o :: l) :: f :: r := rfl
  have im6 : sp_im 6 (DM A N o :: l) = l := rfl
  rw [ea]
  refine ⟨hX, hM, fun _ _ _ => ⟨rfl, rfl, rfl⟩, id, ?_, ?_⟩
  · refine ⟨a1, Or.inr ⟨nq, Or.inr (Or.inr ⟨rfl, ?_, ?_⟩)⟩, fun _ => ?_, ?_, ?_⟩
    · show sf (A 17) (I 27 - 1) 2 (I 27 - 1) = 2
      rw [sf_self]
    · show some (DM A N o) = some (DM A N (sf (A 18) (I 27 - 1) o (I 27 - 1)))
      rw [sf_self]
    · rw [im6]
      exact a3 (by decide)
    · rw [im6]
      exact ⟨a4, RIm_ext (A := A) (N := N) l _ (fun _ _ _ => ⟨rfl, rfl⟩) a5⟩
    · rw [im6]
      refine RRm_ext (I := I) (A := A) (N := N) (I1 := I) (A1 := sa (sa A 18 (I 27 - 1) o) 17 (I 27 - 1) 2) (N1 := N) rfl (fun _ => ⟨rfl, rfl⟩) (f :: r) _ _ (fun q q0 q2 => ⟨rfl, rfl, ?_, fun _ => ⟨?_, rfl⟩⟩) (fun _ _ _ => ⟨rfl, rfl⟩) a6
      · show sf (A 17) (I 27 - 1) 2 q = A 17 q
        rw [sf_ne (by omega)]
      · show sf (A 18) (I 27 - 1) o q = A 18 q
        rw [sf_ne (by omega)]
  · exact ⟨⟨fun q => absurd q (by decide), fun q => absurd q (by decide), fun _ => (by have := wf.1.2.2.2.2.2.2.2 rfl; rw [List.length_cons]; omega), fun q => absurd q (by decide), fun q => absurd q (by decide), (fun q => by cases q), fun q => absurd q (by decide), fun q => absurd q (by decide)⟩, wf.2⟩
theorem MD_whole (hX : MX I A N) (hM : MNM A N) (hF : RRm I A N F (I 27) (I 29)) (wf : WFr F) (t1 : sp_top F ≠ 1) (h27 : I 27 = 0) : MXP I A N (su (su I 30 o) 31 1) A (sp_add F (DM A N o)) := by
  obtain ⟨k, l, rfl⟩ := RRm_zero hF h27
  have t1 : k ≠ 1 := t1
  obtain ⟨a1, a2, a3⟩ := hF
  have hk : k = 0 := a3.elim (fun q => q.1) (fun q => absurd q.1 t1)
  subst hk
  have hl := (wf.1.2.2.2.1 rfl).1
  subst hl
  have ea : sp_add [(0, [])] (DM A N o) = [(1, [DM A N o])] := rfl
  rw [ea]
  refine ⟨hX, hM, fun _ _ _ => ⟨rfl, rfl, rfl⟩, id, ⟨h27, a2, Or.inr ⟨rfl, rfl, rfl⟩⟩, ?_⟩
  exact ⟨⟨fun q => absurd q (by decide), fun q => absurd q (by decide), fun q => absurd q (by decide), fun q => absurd q (by decide), fun _ => ⟨rfl, rfl⟩, fun _ => Or.inr rfl, fun q => absurd q (by decide), fun q => absurd q (by decide)⟩, trivial⟩
end MDL
