def RB (c b : Int) (I : Nat → Int) (A : Nat → Int → Int) (I1 : Nat → Int) (A1 : Nat → Int → Int) : Prop := NZ (A 11) (I 20).toNat + 1 ≤ NZ (A 11) (I1 20).toNat ∧ (2 * I1 10 ≤ NZ (A 11) (I1 20).toNat + c + 1 ∧ (2 * I1 10 ≤ NZ (A 11) (I1 20).toNat + c ∨ I1 20 = I 13 ∨ ¬ atc (A 11 (I1 20)))) ∧ (2 * (I1 7 - RPT I1 A1) ≤ NZ (A 11) (I1 20).toNat + b + 1 ∧ (2 * (I1 7 - RPT I1 A1) ≤ NZ (A 11) (I1 20).toNat + b ∨ I1 20 = I 13 ∨ ¬ atc (A 11 (I1 20))))
theorem RB_one {c b : Int} {I I1 : Nat → Int} {A A1 : Nat → Int → Int} (t : 0 ≤ I 20) (nz : A 11 (I 20) ≠ 0) (e20 : I1 20 = I 20 + 1) (e10 : I1 10 = I 10) (e7 : I1 7 + RPT I A ≤ I 7 + RPT I1 A1) (s1 : 2 * I 10 ≤ NZ (A 11) (I 20).toNat + c + 1) (s3 : 2 * (I 7 - RPT I A) ≤ NZ (A 11) (I 20).toNat + b + 1) : RB c b I A I1 A1 := by
  have u := NZ_one t nz
  unfold RB
  rw [e20, u, e10]
  exact ⟨Int.le_refl _, ⟨by omega, Or.inl (by omega)⟩, ⟨by omega, Or.inl (by omega)⟩⟩
theorem RB_atm {c b : Int} {I I1 : Nat → Int} {A A1 : Nat → Int → Int} (t : 0 ≤ I 20) (nz : A 11 (I 20) ≠ 0) (p0 : I 20 < I1 20) (e10 : I1 10 ≤ I 10 + 1) (e7 : I1 7 + RPT I A ≤ I 7 + RPT I1 A1 + 1) (s2 : 2 * I 10 ≤ NZ (A 11) (I 20).toNat + c) (s4 : 2 * (I 7 - RPT I A) ≤ NZ (A 11) (I 20).toNat + b) (pe : I1 20 = I 13 ∨ ¬ atc (A 11 (I1 20))) : RB c b I A I1 A1 := by
  have u := NZ_up t nz p0
  exact ⟨u, ⟨by omega, Or.inr pe⟩, ⟨by omega, Or.inr pe⟩⟩
def RQ (c : Int) (I : Nat → Int) (A : Nat → Int → Int) (N : Int → Int) (I1 : Nat → Int) (A1 : Nat → Int → Int) (N1 : Int → Int) : Prop := MST I1 A1 N1 ∧ RX I A N I1 A1 N1 ∧ RO I1 A1 ∧ RW I1 A1 ≤ RW I A + 1 ∧ I1 7 + I1 29 + 2 * I1 27 ≤ I 7 + I 29 + 2 * I 27 + 2 ∧ I1 13 = I 13 ∧ (I 20 < I1 20 ∧ I1 20 ≤ I 13) ∧ A1 11 = A 11 ∧ (∀ e : Int, 0 ≤ A1 13 e ∧ A1 13 e ≤ 255) ∧ (2 * I1 10 ≤ I1 20 + c + 1 ∧ (2 * I1 10 ≤ I1 20 + c ∨ I1 20 = I 13 ∨ ¬ atc (A 11 (I1 20))))
def RP (c2 b2 k c : Int) (I : Nat → Int) (A : Nat → Int → Int) (N : Int → Int) (I1 : Nat → Int) (A1 : Nat → Int → Int) (N1 : Int → Int) : Prop := RQ c I A N I1 A1 N1 ∧ (0 ≤ I1 21 ∧ I1 21 ≤ 5) ∧ (I1 21 = 0 → k ≤ 1000 ∧ (I1 31 = 1 → I1 27 = 0) ∧ RB c2 b2 I A I1 A1)
section RQS
variable {I I1 : Nat → Int} {A A1 : Nat → Int → Int} {N N1 : Int → Int} {c2 b2 c k f w : Int}
theorem RQ_bad (q : RQ c I A N I1 A1 N1) : RQ c I A N (su (su I1 21 f) 22 w) A1 N1 := by
  obtain ⟨a1, a2, a3, a4, a5, a6, a7, a8, a9, b1⟩ := q
  exact ⟨a1, RX_tr a2 (RX_tr (RX_su (j := 21) (by unfold RF; omega) (by decide)) (RX_su (j := 22) (by unfold RF; omega) (by decide))), a3, a4, a5, a6, a7, a8, a9, b1⟩
theorem RP_bad (q : RQ c I A N I1 A1 N1) (f0 : 0 < f) (f1 : f ≤ 5) : RP c2 b2 k c I A N (su (su I1 21 f) 22 w) A1 N1 := ⟨RQ_bad q, ⟨(show 0 ≤ f by omega), f1⟩, fun e => absurd (show f = 0 from e) (by omega)⟩
theorem RQ_at (hS : MST I A N) (hO : RO I A) (hT : RT I A) (ha : I 20 < I 13) (hs : 2 * I 10 ≤ I 20 + c + 1) : RQ c I A N (su I 20 (I 20 + 1)) A N := by
  have t := hT.1
  refine ⟨hS, RX_su (j := 20) (by unfold RF; omega) (by decide), hO, (show RW I A ≤ _ by omega), (show I 7 + I 29 + 2 * I 27 ≤ I 7 + I 29 + 2 * I 27 + 2 by omega), rfl, ⟨(show I 20 < I 20 + 1 by omega), (show I 20 + 1 ≤ I 13 by omega)⟩, rfl, hT.2.2, (show 2 * I 10 ≤ I 20 + 1 + c + 1 by omega), Or.inl (show 2 * I 10 ≤ I 20 + 1 + c by omega)⟩
end RQS
theorem RO_begin {I : Nat → Int} {A : Nat → Int → Int} {s x : Int} (hO : RO I A) (h : I 27 < 40) (hs : s = 0 ∨ s = 1) : RO (su (su I 20 x) 27 (I 27 + 1)) (sa (sa (sa A 15 (I 27) s) 16 (I 27) (I 29)) 17 (I 27) 0) := by
  obtain ⟨o1, o2, o3, o4, o5, o6, o7⟩ := hO
  refine ⟨⟨(show 0 ≤ I 27 + 1 by omega), (show I 27 + 1 ≤ 40 by omega)⟩, o2, o3, fun j j0 j1 => ?_, fun j k j0 jk k1 => ?_, o6, o7⟩
  · have j1 : j < I 27 + 1 := j1
    show (sf (A 15) (I 27) s j = 0 ∨ sf (A 15) (I 27) s j = 1) ∧ (0 ≤ sf (A 16) (I 27) (I 29) j ∧ sf (A 16) (I 27) (I 29) j ≤ I 29) ∧ (0 ≤ sf (A 17) (I 27) 0 j ∧ sf (A 17) (I 27) 0 j ≤ 2) ∧ (sf (A 17) (I 27) 0 j = 2 → 0 ≤ A 18 j ∧ A 18 j < I 7)
    by_cases e : j = I 27
    · subst e
      rw [sf_self, sf_self, sf_self]
      exact ⟨hs, ⟨o2, Int.le_refl _⟩, ⟨Int.le_refl _, by decide⟩, fun q => absurd q (by decide)⟩
    · rw [sf_ne e, sf_ne e, sf_ne e]
      exact o4 j j0 (by omega)
  · have k1 : k < I 27 + 1 := k1
    show sf (A 16) (I 27) (I 29) j ≤ sf (A 16) (I 27) (I 29) k
    by_cases e : k = I 27
    · by_cases e2 : j = I 27
      · rw [e, e2]
        exact Int.le_refl _
      · rw [e, sf_self, sf_ne e2]
        exact (o4 j j0 (by omega)).2.1.2
    · rw [sf_ne e, sf_ne (by omega)]
      exact o5 j k j0 jk (by omega)
theorem RW_begin {I : Nat → Int} {A : Nat → Int → Int} {s x : Int} (hO : RO I A) : RW (su (su I 20 x) 27 (I 27 + 1)) (sa (sa (sa A 15 (I 27) s) 16 (I 27) (I 29)) 17 (I 27) 0) ≤ RW I A + 1 := by
  have o1 := hO.1
  have eW : WD (sa (sa (sa A 15 (I 27) s) 16 (I 27) (I 29)) 17 (I 27) 0) = WD A := WD_12 rfl rfl
  unfold RW
  rw [SW_12 eW, eW]
  show SW A (A 19) (I 29).toNat + OW (sa (sa (sa A 15 (I 27) s) 16 (I 27) (I 29)) 17 (I 27) 0) (I 27 + 1).toNat + (if I 31 = 1 then WD A (I 30) else 0) ≤ SW A (A 19) (I 29).toNat + OW A (I 27).toNat + (if I 31 = 1 then WD A (I 30) else 0) + 1
  rw [show (I 27 + 1).toNat = (I 27).toNat + 1 by omega]
  show SW A (A 19) (I 29).toNat + (OW (sa (sa (sa A 15 (I 27) s) 16 (I 27) (I 29)) 17 (I 27) 0) (I 27).toNat + (1 + (if sf (A 17) (I 27) 0 ((I 27).toNat : Int) = 0 then 0 else 1) + (if sf (A 17) (I 27) 0 ((I 27).toNat : Int) = 2 then _ else 0))) + _ ≤ _
  rw [show ((I 27).toNat : Int) = I 27 by omega, sf_self, if_pos rfl, if_neg (by decide), OW_congr (A := A) (I 27).toNat (fun e he => ⟨by show sf (A 17) (I 27) 0 e = A 17 e; rw [sf_ne (by omega)], fun _ => by rw [eW]; rfl⟩)]
  omega
theorem RO_dot {I : Nat → Int} {A : Nat → Int → Int} {x : Int} (hO : RO I A) (h : 0 < I 27) (h0 : A 17 (I 27 - 1) = 0) : RO (su I 20 x) (sa A 17 (I 27 - 1) 1) ∧ RW (su I 20 x) (sa A 17 (I 27 - 1) 1) ≤ RW I A + 1 := by
  obtain ⟨o1, o2, o3, o4, o5, o6, o7⟩ := hO
  have kk : ((I 27 - 1).toNat : Int) = I 27 - 1 := by omega
  refine ⟨⟨o1, o2, o3, fun j j0 j1 => ?_, o5, o6, o7⟩, ?_⟩
  · have q := o4 j j0 j1
    refine ⟨q.1, q.2.1, ?_, ?_⟩
    · show 0 ≤ sf (A 17) (I 27 - 1) 1 j ∧ sf (A 17) (I 27 - 1) 1 j ≤ 2
      by_cases e : j = I 27 - 1
      · rw [e, sf_self]
        decide
      · rw [sf_ne e]
        exact q.2.2.1
    · show sf (A 17) (I 27 - 1) 1 j = 2 → _
      by_cases e : j = I 27 - 1
      · rw [e, sf_self]
        exact fun z => absurd z (by decide)
      · rw [sf_ne e]
        exact q.2.2.2
  · have eW : WD (sa A 17 (I 27 - 1) 1) = WD A := WD_12 rfl rfl
    unfold RW
    rw [SW_12 eW, eW]
    show SW A (A 19) (I 29).toNat + OW (sa A 17 (I 27 - 1) 1) (I 27).toNat + (if I 31 = 1 then WD A (I 30) else 0) ≤ SW A (A 19) (I 29).toNat + OW A (I 27).toNat + (if I 31 = 1 then WD A (I 30) else 0) + 1
    have e : OW (sa A 17 (I 27 - 1) 1) (I 27).toNat = OW A (I 27).toNat + 1 := by
      rw [show (I 27).toNat = (I 27 - 1).toNat + 1 by omega]
      show OW (sa A 17 (I 27 - 1) 1) (I 27 - 1).toNat + (1 + (if sf (A 17) (I 27 - 1) 1 ((I 27 - 1).toNat : Int) = 0 then 0 else 1) + (if sf (A 17) (I 27 - 1) 1 ((I 27 - 1).toNat : Int) = 2 then _ else 0)) = OW A (I 27 - 1).toNat + (1 + (if A 17 ((I 27 - 1).toNat : Int) = 0 then 0 else 1) + (if A 17 ((I 27 - 1).toNat : Int) = 2 then _ else 0)) + 1
      rw [kk, sf_self, h0, if_neg (by decide), if_neg (by decide), if_pos rfl, if_neg (by decide), OW_congr (A := A) (I 27 - 1).toNat (fun e he => ⟨by show sf (A 17) (I 27 - 1) 1 e = A 17 e; rw [sf_ne (by omega)], fun _ => by rw [eW]; rfl⟩)]
      omega
    omega

