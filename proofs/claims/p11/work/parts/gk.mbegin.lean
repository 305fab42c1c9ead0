section MBG
variable {I : Nat → Int} {A : Nat → Int → Int} {N : Int → Int} {F : sp_F}
theorem MY_3 (hF : RRm I A N F (I 27) (I 29)) : ((I 27 = 0 ∧ I 31 = 0) ∨ (0 < I 27 ∧ (A 15 (I 27 - 1) = 1 ∨ A 17 (I 27 - 1) < 2))) ↔ sp_may 3 (sp_top F) := by
  match F, hF with
  | [], hF => exact absurd hF id
  | [(k, l)], hF =>
    obtain ⟨a1, a2, a3⟩ := hF
    show _ ↔ sp_may 3 k
    rcases a3 with ⟨p, q⟩ | ⟨p, q, -⟩
    · constructor <;> intro h <;> omega
    · constructor <;> intro h <;> omega
  | (k, l) :: f :: r, hF =>
    obtain ⟨a1, a2, a3, a4, a5⟩ := hF
    show _ ↔ sp_may 3 k
    rcases a2 with ⟨p, q⟩ | ⟨q, ⟨p, p2⟩ | ⟨p, p2⟩ | ⟨p, p2, -⟩⟩ <;> (constructor <;> intro h <;> omega)
theorem MY_41 (hF : RRm I A N F (I 27) (I 29)) : (0 < I 27 ∧ A 15 (I 27 - 1) = 0 ∧ A 17 (I 27 - 1) ≠ 1) ↔ sp_may 41 (sp_top F) := by
  match F, hF with
  | [], hF => exact absurd hF id
  | [(k, l)], hF =>
    obtain ⟨a1, a2, a3⟩ := hF
    show _ ↔ sp_may 41 k
    rcases a3 with ⟨p, q⟩ | ⟨p, q, -⟩
    · constructor <;> intro h <;> omega
    · constructor <;> intro h <;> omega
  | (k, l) :: f :: r, hF =>
    obtain ⟨a1, a2, a3, a4, a5⟩ := hF
    show _ ↔ sp_may 41 k
    rcases a2 with ⟨p, q⟩ | ⟨q, ⟨p, p2⟩ | ⟨p, p2⟩ | ⟨p, p2, -⟩⟩ <;> (constructor <;> intro h <;> omega)
theorem MY_46 (hF : RRm I A N F (I 27) (I 29)) (wf : WFr F) : (0 < I 27 ∧ A 15 (I 27 - 1) = 0 ∧ A 17 (I 27 - 1) = 0 ∧ I 29 ≠ A 16 (I 27 - 1)) ↔ sp_may 46 (sp_top F) := by
  match F, hF, wf with
  | [], hF, _ => exact absurd hF id
  | [(k, l)], hF, _ =>
    obtain ⟨a1, a2, a3⟩ := hF
    show _ ↔ sp_may 46 k
    rcases a3 with ⟨p, q⟩ | ⟨p, q, -⟩
    · constructor <;> intro h <;> omega
    · constructor <;> intro h <;> omega
  | (k, l) :: f :: r, hF, wf =>
    obtain ⟨a1, a2, a3, a4, a5⟩ := hF
    show _ ↔ sp_may 46 k
    rcases a2 with ⟨p, q⟩ | ⟨q, ⟨p, p2⟩ | ⟨p, p2⟩ | ⟨p, p2, -⟩⟩
    · constructor <;> intro h <;> omega
    · have e := a3 (by omega)
      rcases p with p | p
      · have hl := wf.1.2.1 p
        rw [hl, show sp_im k [] = [] by unfold sp_im; rw [if_neg (by omega)]] at e
        have e : A 16 (I 27 - 1) = I 29 - ((0 : Nat) : Int) := e
        constructor <;> intro h <;> omega
      · have hl := wf.1.2.2.2.2.2.2.1 p
        rw [show sp_im k l = l by unfold sp_im; rw [if_neg (by omega)]] at e
        constructor <;> intro h <;> omega
    · constructor <;> intro h <;> omega
    · constructor <;> intro h <;> omega
theorem MD_begin {s x kk : Int} (hX : MX I A N) (hM : MNM A N) (hF : RRm I A N F (I 27) (I 29)) (wf : WFr F) (i0 : 0 ≤ I 27) (o2 : 0 ≤ I 29) (hs : (s = 1 ∧ kk = 2) ∨ (s = 0 ∧ kk = 3)) : MXP I A N (su (su I 20 x) 27 (I 27 + 1)) (sa (sa (sa A 15 (I 27) s) 16 (I 27) (I 29)) 17 (I 27) 0) ((kk, []) :: F) := by
  obtain ⟨f, r, rfl⟩ : ∃ (f : Int × List ob_T) (r : sp_F), F = f :: r := by
    match F, hF with
    | [], hF => exact absurd hF id
    | f :: r, _ => exact ⟨f, r, rfl⟩
  have im : sp_im kk [] = [] := by
    unfold sp_im
    split <;> rfl
  refine ⟨hX, hM, fun _ _ _ => ⟨rfl, rfl, rfl⟩, id, ?_, ?_⟩
  · show RRm _ _ N ((kk, []) :: f :: r) (I 27 + 1) (I 29)
    refine ⟨by omega, ?_, fun _ => ?_, ?_, ?_⟩
    · rw [show I 27 + 1 - 1 = I 27 by omega]
      rcases hs with ⟨h1, h2⟩ | ⟨h1, h2⟩
      · refine Or.inl ⟨h2, ?_⟩
        show sf (A 15) (I 27) s (I 27) = 1
        rw [sf_self, h1]
      · refine Or.inr ⟨?_, Or.inl ⟨Or.inl h2, ?_⟩⟩
        · show sf (A 15) (I 27) s (I 27) = 0
          rw [sf_self, h1]
        · show sf (A 17) (I 27) 0 (I 27) = 0
          rw [sf_self]
    · rw [show I 27 + 1 - 1 = I 27 by omega, im]
      show sf (A 16) (I 27) (I 29) (I 27) = I 29 - ((0 : Nat) : Int)
      rw [sf_self]
      omega
    · rw [im]
      refine ⟨?_, trivial⟩
      show 0 ≤ I 29 - ((0 : Nat) : Int)
      omega
    · rw [im, show I 27 + 1 - 1 = I 27 by omega, show I 29 - ((([] : List ob_T).length : Nat) : Int) = I 29 by show I 29 - ((0 : Nat) : Int) = I 29; omega]
      refine RRm_ext (I := I) (A := A) (N := N) (I1 := su (su I 20 x) 27 (I 27 + 1)) (A1 := sa (sa (sa A 15 (I 27) s) 16 (I 27) (I 29)) 17 (I 27) 0) (N1 := N) rfl (fun _ => ⟨rfl, rfl⟩) (f :: r) _ _ (fun q q0 q1 => ⟨?_, ?_, ?_, fun _ => ⟨rfl, rfl⟩⟩) (fun _ _ _ => ⟨rfl, rfl⟩) hF
      · show sf (A 15) (I 27) s q = A 15 q
        rw [sf_ne (by omega)]
      · show sf (A 16) (I 27) (I 29) q = A 16 q
        rw [sf_ne (by omega)]
      · show sf (A 17) (I 27) 0 q = A 17 q
        rw [sf_ne (by omega)]
  · exact ⟨⟨fun _ => rfl, fun _ => rfl, fun q => absurd q (by omega), fun q => absurd q (by omega), fun q => absurd q (by omega), (fun q => by cases q), fun q => absurd q (by omega), fun q => absurd q (by omega)⟩, wf⟩
theorem MD_dot {x : Int} (hX : MX I A N) (hM : MNM A N) (hF : RRm I A N F (I 27) (I 29)) (wf : WFr F) (h : sp_top F = 4) (h27 : 0 < I 27) : MXP I A N (su I 20 x) (sa A 17 (I 27 - 1) 1) (sp_dot F) := by
  obtain ⟨k, l, f, r, rfl⟩ := RRm_pos hF h27
  have h : k = 4 := h
  subst h
  obtain ⟨a1, a2, a3, ⟨a4, a5⟩, a6⟩ := hF
  have nq : A 15 (I 27 - 1) = 0 := by
    rcases a2 with ⟨p, -⟩ | ⟨p, -⟩
    · exact absurd p (by decide)
    · exact p
  refine ⟨hX, hM, fun _ _ _ => ⟨rfl, rfl, rfl⟩, id, ?_, ?_⟩
  · show RRm _ _ N ((5, l) :: f :: r) (I 27) (I 29)
    have im4 : sp_im 4 l = l := if_neg (by decide)
    have im5 : sp_im 5 l = l := if_neg (by decide)
    rw [im4] at a3 a4 a5 a6
    refine ⟨a1, Or.inr ⟨nq, Or.inr (Or.inl ⟨rfl, ?_⟩)⟩, fun _ => ?_, ?_, ?_⟩
    · show sf (A 17) (I 27 - 1) 1 (I 27 - 1) = 1
      rw [sf_self]
    · rw [im5]
      exact a3 (by decide)
    · rw [im5]
      exact ⟨a4, RIm_ext (A := A) (N := N) l _ (fun _ _ _ => ⟨rfl, rfl⟩) a5⟩
    · rw [im5]
      refine RRm_ext (I := I) (A := A) (N := N) (I1 := su I 20 x) (A1 := sa A 17 (I 27 - 1) 1) (N1 := N) rfl (fun _ => ⟨rfl, rfl⟩) (f :: r) _ _ (fun q q0 q2 => ⟨rfl, rfl, ?_, fun _ => ⟨rfl, rfl⟩⟩) (fun _ _ _ => ⟨rfl, rfl⟩) a6
      show sf (A 17) (I 27 - 1) 1 q = A 17 q
      rw [sf_ne (by omega)]
  · exact ⟨⟨fun q => absurd q (by decide), fun q => absurd q (by decide), fun q => absurd q (by decide), fun q => absurd q (by decide), fun q => absurd q (by decide), (fun q => by cases q), fun q => absurd q (by decide), fun _ => wf.1.2.2.2.2.2.2.1 rfl⟩, wf.2⟩
end MBG
