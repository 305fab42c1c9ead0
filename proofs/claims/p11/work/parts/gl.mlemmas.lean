def MXQ (I : Nat → Int) (A : Nat → Int → Int) (N : Int → Int) (I1 : Nat → Int) (A1 : Nat → Int → Int) (N1 : Int → Int) (F : sp_F) : Prop := MX I1 A1 N1 ∧ MNM A1 N1 ∧ MKE I A N A1 N1 ∧ (MHT I A N → MHT I1 A1 N1) ∧ RRm I1 A1 N1 F (I1 27) (I1 29) ∧ WFr F
section MLM
variable {I I1 : Nat → Int} {A A1 : Nat → Int → Int} {N N1 : Int → Int}
theorem RRm_len : ∀ (F : sp_F) (i e : Int), RRm I A N F i e → (F.length : Int) = i + 1
  | [], _, _, h => absurd h id
  | [(k, l)], i, e, h => by
    have := h.1
    show ((1 : Nat) : Int) = i + 1
    omega
  | (k, l) :: f :: r, i, e, h => by
    have q := RRm_len (f :: r) (i - 1) _ h.2.2.2.2
    rw [List.length_cons] at q ⊢
    rw [List.length_cons]
    omega
theorem WFs_push {k : Int} {l : List ob_T} {F : sp_F} (ws : WFs F) (h1 : sp_top F ≠ 1) (h6 : sp_top F ≠ 6) : WFs ((k, l) :: F) := by
  match F, ws, h1, h6 with
  | [], _, _, _ => exact trivial
  | (k9, l9) :: r, ws, h1, h6 => exact ⟨h1, h6, ws⟩
theorem WFs_tail {f : Int × List ob_T} {r : sp_F} (ws : WFs (f :: r)) : WFs r := by
  match r, ws with
  | [], _ => exact trivial
  | (k, l) :: r, ws => exact ws.2.2
theorem WFs_acc {w : Int} {x : ob_T} {F : sp_F} (wf : WFr F) (ws : WFs F) (hm : sp_may w (sp_top F)) : WFs (sp_acc w x F) := by
  unfold sp_acc
  split
  · exact WFs_push ws (by omega) (by omega)
  · split
    · exact WFs_push ws (by omega) (by omega)
    · split
      · match F, ws with
        | [], _ => exact trivial
        | (k, l) :: r, ws => exact ws
      · split
        · match F, wf, ws with
          | [], _, _ => exact trivial
          | (k, l) :: r, wf, ws => exact WFs_add r _ wf.2 (WFs_tail ws)
        · exact WFs_add _ _ wf ws
theorem LIX_iff {x : Int} (x0 : 0 ≤ x) (x1 : x ≤ 255) : 0 ≤ LIX x ↔ atc x := by
  constructor
  · intro h
    by_cases q : atc x
    · exact q
    · have := LIX_not x0 x1 q
      omega
  · intro h
    exact (LIX_atc h).1
theorem RRm_gx {F : sp_F} (hX : MX I A N) (GG : GX I A N I1 A1 N1) (hO : RO I A) (hF : RRm I A N F (I 27) (I 29)) : RRm I1 A1 N1 F (I1 27) (I1 29) := by
  have X := GG.2.1
  have j : ∀ q : Nat, q ≠ 7 → q ≠ 10 → I1 q = I q := X.2.2.2.1
  have ja : ∀ a : Nat, 10 ≤ a → A1 a = A a := fun a ha => X.2.2.2.2.1 a (by omega) (by omega) (by omega) (by omega) (by omega) (by omega) (by omega) (by omega)
  rw [j 27 (by decide) (by decide), j 29 (by decide) (by decide)]
  obtain ⟨o1, o2, o3, o4, o5, o6, o7⟩ := hO
  refine RRm_ext (I := I) (A := A) (N := N) (I1 := I1) (A1 := A1) (N1 := N1) (j 31 (by decide) (by decide)) (fun q => ⟨j 30 (by decide) (by decide), GX_D hX GG (o7 q).1 (o7 q).2⟩) F _ _ (fun q q0 q1 => ⟨by rw [ja 15 (by decide)], by rw [ja 16 (by decide)], by rw [ja 17 (by decide)], fun w => ⟨by rw [ja 18 (by decide)], ?_⟩⟩) (fun q q0 q1 => ⟨by rw [ja 19 (by decide)], GX_D hX GG (o3 q q0 q1).1 (o3 q q0 q1).2⟩) hF
  have w2 := (o4 q q0 q1).2.2.2 w
  exact GX_D hX GG w2.1 w2.2
end MLM
