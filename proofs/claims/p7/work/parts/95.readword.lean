def NZ (f : Int → Int) : Nat → Int
  | 0 => 0
  | n + 1 => NZ f n + (if f n = 0 then 0 else 1)
theorem NZ_mono {f : Int → Int} : ∀ (m n : Nat), n ≤ m → NZ f n ≤ NZ f m
  | 0, n, h => by rw [show n = 0 by omega]; exact Int.le_refl _
  | m + 1, n, h => by
    by_cases e : n = m + 1
    · rw [e]
      exact Int.le_refl _
    · have r := NZ_mono (f := f) m n (by omega)
      show NZ f n ≤ NZ f m + (if f m = 0 then 0 else 1)
      split <;> omega
theorem NZ_nn {f : Int → Int} (n : Nat) : 0 ≤ NZ f n := NZ_mono n 0 (Nat.zero_le _)
theorem NZ_one {f : Int → Int} {a : Int} (h : 0 ≤ a) (nz : f a ≠ 0) : NZ f (a + 1).toNat = NZ f a.toNat + 1 := by
  rw [show (a + 1).toNat = a.toNat + 1 by omega]
  show NZ f a.toNat + (if f (a.toNat : Int) = 0 then 0 else 1) = _
  rw [show (a.toNat : Int) = a by omega, if_neg nz]
theorem NZ_up {f : Int → Int} {a p : Int} (h : 0 ≤ a) (nz : f a ≠ 0) (ap : a < p) : NZ f a.toNat + 1 ≤ NZ f p.toNat := by
  rw [← NZ_one h nz]
  exact NZ_mono _ _ (by omega)
def RB (c b : Int) (I : Nat → Int) (A : Nat → Int → Int) (I1 : Nat → Int) (A1 : Nat → Int → Int) : Prop := NZ (A 11) (I 20).toNat + 1 ≤ NZ (A 11) (I1 20).toNat ∧ (2 * I1 10 ≤ NZ (A 11) (I1 20).toNat + c + 1 ∧ (2 * I1 10 ≤ NZ (A 11) (I1 20).toNat + c ∨ I1 20 = I 13 ∨ ¬ atc (A 11 (I1 20)))) ∧ (2 * (I1 7 - RPT I1 A1) ≤ NZ (A 11) (I1 20).toNat + b + 1 ∧ (2 * (I1 7 - RPT I1 A1) ≤ NZ (A 11) (I1 20).toNat + b ∨ I1 20 = I 13 ∨ ¬ atc (A 11 (I1 20))))
theorem RB_one {c b : Int} {I I1 : Nat → Int} {A A1 : Nat → Int → Int} (t : 0 ≤ I 20) (nz : A 11 (I 20) ≠ 0) (e20 : I1 20 = I 20 + 1) (e10 : I1 10 = I 10) (e7 : I1 7 + RPT I A ≤ I 7 + RPT I1 A1) (s1 : 2 * I 10 ≤ NZ (A 11) (I 20).toNat + c + 1) (s3 : 2 * (I 7 - RPT I A) ≤ NZ (A 11) (I 20).toNat + b + 1) : RB c b I A I1 A1 := by
  have u := NZ_one t nz
  unfold RB
  rw [e20, u, e10]
  exact ⟨Int.le_refl _, ⟨by omega, Or.inl (by omega)⟩, ⟨by omega, Or.inl (by omega)⟩⟩
theorem RB_atm {c b : Int} {I I1 : Nat → Int} {A A1 : Nat → Int → Int} (t : 0 ≤ I 20) (nz : A 11 (I 20) ≠ 0) (p0 : I 20 < I1 20) (e10 : I1 10 ≤ I 10 + 1) (e7 : I1 7 + RPT I A ≤ I 7 + RPT I1 A1 + 1) (s2 : 2 * I 10 ≤ NZ (A 11) (I 20).toNat + c) (s4 : 2 * (I 7 - RPT I A) ≤ NZ (A 11) (I 20).toNat + b) (pe : I1 20 = I 13 ∨ ¬ atc (A 11 (I1 20))) : RB c b I A I1 A1 := by
  have u := NZ_up t nz p0
  exact ⟨u, ⟨by omega, Or.inr pe⟩, ⟨by omega, Or.inr pe⟩⟩
def RQ (c : Int) (I : Nat → Int) (A : Nat → Int → Int) (N : Int → Int) (I1 : Nat → Int) (A1 : Nat → Int → Int) (N1 : Int → Int) : Prop := MST I1 A1 N1 ∧ RX I A N I1 A1 N1 ∧ RO I1 A1 ∧ RW I1 A1 ≤ RW I A + 1 ∧ I1 7 + I1 29 + 2 * I1 27 ≤ I 7 + I 29 + 2 * I 27 + 2 ∧ I1 13 = I 13 ∧ (I 20 < I1 20 ∧ I1 20 ≤ I 13) ∧ A1 11 = A 11 ∧ (∀ e : Int, 0 ≤ A1 13 e ∧ A1 13 e ≤ 255) ∧ (2 * I1 10 ≤ I1 20 + c + 1 ∧ (2 * I1 10 ≤ I1 20 + c ∨ I1 20 = I 13 ∨ ¬ atc (A 11 (I1 20))))
def RP (c2 b2 k c : Int) (I : Nat → Int) (A : Nat → Int → Int) (N : Int → Int) (I1 : Nat → Int) (A1 : Nat → Int → Int) (N1 : Int → Int) : Prop := RQ c I A N I1 A1 N1 ∧ (0 ≤ I1 21 ∧ I1 21 ≤ 5) ∧ (I1 21 = 0 → k ≤ 1000 ∧ (I1 31 = 1 → I1 27 = 0) ∧ RB c2 b2 I A I1 A1)
section RQS
variable {I I1 : Nat → Int} {A A1 : Nat → Int → Int} {N N1 : Int → Int} {c2 b2 c k f w : Int}
theorem RQ_bad (q : RQ c I A N I1 A1 N1) : RQ c I A N (su (su I1 21 f) 22 w) A1 N1 := by
  obtain ⟨a1, a2, a3, a4, a5, a6, a7, a8, a9, b1⟩ := q
  exact ⟨a1, RX_tr a2 (RX_tr (RX_su (j := 21) (by unfold RF; omega) (by decide)) (RX_su (j := 22) (by unfold RF; omega) (by decide))), a3, a4, a5, a6, a7, a8, a9, b1⟩
theorem RP_bad (q : RQ c I A N I1 A1 N1) (f0 : 0 < f) (f1 : f ≤ 5) : RP c2 b2 k c I A N (su (su I1 21 f) 22 w) A1 N1 := ⟨RQ_bad q, ⟨(show 0 ≤ f by omega), f1⟩, fun e => absurd (show f = 0 from e) (by omega)⟩
theorem RQ_at (hS : MST I A N) (hO : RO I A) (hT : RT I A) (ha : I 20 < I 13) (hs : 2 * I 10 ≤ I 20 + c + 1) : RQ c I A N (su I 20 (I 20 + 1)) A N := by
  have t := hT.1
  refine ⟨hS, RX_su (j := 20) (by unfold RF; omega) (by decide), hO, (show RW I A ≤ _ by omega), (show I 7 + I 29 + 2 * I 27 ≤ I 7 + I 29 + 2 * I 27 + 2 by omega), rfl, ⟨(show I 20 < I 20 + 1 by omega), (show I 20 + 1 ≤ I 13 by omega)⟩, rfl, hT.2.2, (show 2 * I 10 ≤ I 20 + 1 + c + 1 by omega), Or.inl (show 2 * I 10 ≤ I 20 + 1 + c by omega)⟩
end RQS
theorem RO_begin {I : Nat → Int} {A : Nat → Int → Int} {s x : Int} (hO : RO I A) (h : I 27 < 40) (hs : s = 0 ∨ s = 1) : RO (su (su I 20 x) 27 (I 27 + 1)) (sa (sa (sa A 15 (I 27) s) 16 (I 27) (I 29)) 17 (I 27) 0) := by
  obtain ⟨o1, o2, o3, o4, o5, o6, o7⟩ := hO
  refine ⟨⟨(show 0 ≤ I 27 + 1 by omega), (show I 27 + 1 ≤ 40 by omega)⟩, o2, o3, fun j j0 j1 => ?_, fun j k j0 jk k1 => ?_, o6, o7⟩
  · have j1 : j < I 27 + 1 := j1
    show (sf (A 15) (I 27) s j = 0 ∨ sf (A 15) (I 27) s j = 1) ∧ (0 ≤ sf (A 16) (I 27) (I 29) j ∧ sf (A 16) (I 27) (I 29) j ≤ I 29) ∧ (0 ≤ sf (A 17) (I 27) 0 j ∧ sf (A 17) (I 27) 0 j ≤ 2) ∧ (sf (A 17) (I 27) 0 j = 2 → 0 ≤ A 18 j ∧ A 18 j < I 7)
    by_cases e : j = I 27
    · subst e
      rw [sf_self, sf_self, sf_self]
      exact ⟨hs, ⟨o2, Int.le_refl _⟩, ⟨Int.le_refl _, by decide⟩, fun q => absurd q (by decide)⟩
    · rw [sf_ne e, sf_ne e, sf_ne e]
      exact o4 j j0 (by omega)
  · have k1 : k < I 27 + 1 := k1
    show sf (A 16) (I 27) (I 29) j ≤ sf (A 16) (I 27) (I 29) k
    by_cases e : k = I 27
    · by_cases e2 : j = I 27
      · rw [e, e2]
        exact Int.le_refl _
      · rw [e, sf_self, sf_ne e2]
        exact (o4 j j0 (by omega)).2.1.2
    · rw [sf_ne e, sf_ne (by omega)]
      exact o5 j k j0 jk (by omega)
theorem RW_begin {I : Nat → Int} {A : Nat → Int → Int} {s x : Int} (hO : RO I A) : RW (su (su I 20 x) 27 (I 27 + 1)) (sa (sa (sa A 15 (I 27) s) 16 (I 27) (I 29)) 17 (I 27) 0) ≤ RW I A + 1 := by
  have o1 := hO.1
  have eW : WD (sa (sa (sa A 15 (I 27) s) 16 (I 27) (I 29)) 17 (I 27) 0) = WD A := WD_12 rfl rfl
  unfold RW
  rw [SW_12 eW, eW]
  show SW A (A 19) (I 29).toNat + OW (sa (sa (sa A 15 (I 27) s) 16 (I 27) (I 29)) 17 (I 27) 0) (I 27 + 1).toNat + (if I 31 = 1 then WD A (I 30) else 0) ≤ SW A (A 19) (I 29).toNat + OW A (I 27).toNat + (if I 31 = 1 then WD A (I 30) else 0) + 1
  rw [show (I 27 + 1).toNat = (I 27).toNat + 1 by omega]
  show SW A (A 19) (I 29).toNat + (OW (sa (sa (sa A 15 (I 27) s) 16 (I 27) (I 29)) 17 (I 27) 0) (I 27).toNat + (1 + (if sf (A 17) (I 27) 0 ((I 27).toNat : Int) = 0 then 0 else 1) + (if sf (A 17) (I 27) 0 ((I 27).toNat : Int) = 2 then _ else 0))) + _ ≤ _
  rw [show ((I 27).toNat : Int) = I 27 by omega, sf_self, if_pos rfl, if_neg (by decide), OW_congr (A := A) (I 27).toNat (fun e he => ⟨by show sf (A 17) (I 27) 0 e = A 17 e; rw [sf_ne (by omega)], fun _ => by rw [eW]; rfl⟩)]
  omega
theorem RO_dot {I : Nat → Int} {A : Nat → Int → Int} {x : Int} (hO : RO I A) (h : 0 < I 27) (h0 : A 17 (I 27 - 1) = 0) : RO (su I 20 x) (sa A 17 (I 27 - 1) 1) ∧ RW (su I 20 x) (sa A 17 (I 27 - 1) 1) ≤ RW I A + 1 := by
  obtain ⟨o1, o2, o3, o4, o5, o6, o7⟩ := hO
  have kk : ((I 27 - 1).toNat : Int) = I 27 - 1 := by omega
  refine ⟨⟨o1, o2, o3, fun j j0 j1 => ?_, o5, o6, o7⟩, ?_⟩
  · have q := o4 j j0 j1
    refine ⟨q.1, q.2.1, ?_, ?_⟩
    · show 0 ≤ sf (A 17) (I 27 - 1) 1 j ∧ sf (A 17) (I 27 - 1) 1 j ≤ 2
      by_cases e : j = I 27 - 1
      · rw [e, sf_self]
        decide
      · rw [sf_ne e]
        exact q.2.2.1
    · show sf (A 17) (I 27 - 1) 1 j = 2 → _
      by_cases e : j = I 27 - 1
      · rw [e, sf_self]
        exact fun z => absurd z (by decide)
      · rw [sf_ne e]
        exact q.2.2.2
  · have eW : WD (sa A 17 (I 27 - 1) 1) = WD A := WD_12 rfl rfl
    unfold RW
    rw [SW_12 eW, eW]
    show SW A (A 19) (I 29).toNat + OW (sa A 17 (I 27 - 1) 1) (I 27).toNat + (if I 31 = 1 then WD A (I 30) else 0) ≤ SW A (A 19) (I 29).toNat + OW A (I 27).toNat + (if I 31 = 1 then WD A (I 30) else 0) + 1
    have e : OW (sa A 17 (I 27 - 1) 1) (I 27).toNat = OW A (I 27).toNat + 1 := by
      rw [show (I 27).toNat = (I 27 - 1).toNat + 1 by omega]
      show OW (sa A 17 (I 27 - 1) 1) (I 27 - 1).toNat + (1 + (if sf (A 17) (I 27 - 1) 1 ((I 27 - 1).toNat : Int) = 0 then 0 else 1) + (if sf (A 17) (I 27 - 1) 1 ((I 27 - 1).toNat : Int) = 2 then _ else 0)) = OW A (I 27 - 1).toNat + (1 + (if A 17 ((I 27 - 1).toNat : Int) = 0 then 0 else 1) + (if A 17 ((I 27 - 1).toNat : Int) = 2 then _ else 0)) + 1
      rw [kk, sf_self, h0, if_neg (by decide), if_neg (by decide), if_pos rfl, if_neg (by decide), OW_congr (A := A) (I 27 - 1).toNat (fun e he => ⟨by show sf (A 17) (I 27 - 1) 1 e = A 17 e; rw [sf_ne (by omega)], fun _ => by rw [eW]; rfl⟩)]
      omega
    omega
theorem mm_readWord_body (z : Value) (d : Nat) (c2 b2 k c late : Int) (h R : xx_H) (I : Nat → Int) (A : Nat → Int → Int) (N : Int → Int) (hc : 12 ≤ h.length) (hS : MST I A N) (hN : NM I A) (hO : RO I A) (hT : RT I A) (ha : I 20 < I 13) (h21 : I 21 = 0) (hd : I 31 = 1 → I 27 = 0) (s1 : 2 * I 10 ≤ I 20 + c + 1) (s2 : atc (A 11 (I 20)) → 2 * I 10 ≤ I 20 + c) (ho : I 7 + I 29 + 2 * I 27 + 2 ≤ 140000) (hs : I 10 < 4990) (hi : I 29 < 1099) (k0 : 0 < k) (k1 : k ≤ 5000) (z1 : 2 * I 10 ≤ NZ (A 11) (I 20).toNat + c2 + 1) (z2 : atc (A 11 (I 20)) → 2 * I 10 ≤ NZ (A 11) (I 20).toNat + c2) (z3 : 2 * (I 7 - RPT I A) ≤ NZ (A 11) (I 20).toNat + b2 + 1) (z4 : atc (A 11 (I 20)) → 2 * (I 7 - RPT I A) ≤ NZ (A 11) (I 20).toNat + b2) (hl : (late = 1 ∧ 1000 < k) ∨ (late = 0 ∧ k ≤ 1000)) : xx_go (xt_P z) (d + 8) 80 39 [some (.ref h.length), some (.int (iI k)), some (.int (iI (I 20))), some (.int (iI (A 11 (I 20)))), some (.int (iI late)), none] [] (mh h R (su I 20 (I 20 + 1)) A N) (fun v h1 => v = none ∧ ∃ (I1 : Nat → Int) (A1 : Nat → Int → Int) (N1 : Int → Int), h1 = mh h R I1 A1 N1 ∧ RP c2 b2 k c I A N I1 A1 N1) := by
  have hP := MST_PW hS
  have t := hT.1
  have Q0 := RQ_at (c := c) hS hO hT ha s1
  have r := hT.2.1 (I 20)
  have o1 := hO.1
  have o2 := hO.2.1
  have o4 := hO.2.2.2.1
  have d31 := hO.2.2.2.2.2.1
  have fin : ∀ (I1 : Nat → Int) (A1 : Nat → Int → Int) (N1 : Int → Int) (y : Option Value), RP c2 b2 k c I A N I1 A1 N1 → xx_go (xt_P z) (d + 8) 80 375 [some (.ref h.length), some (.int (iI k)), some (.int (iI (I 20))), some (.int (iI (A 11 (I 20)))), some (.int (iI late)), y] [] (mh h R I1 A1 N1) (fun v h1 => v = none ∧ ∃ (I1 : Nat → Int) (A1 : Nat → Int → Int) (N1 : Int → Int), h1 = mh h R I1 A1 N1 ∧ RP c2 b2 k c I A N I1 A1 N1) := fun I1 A1 N1 y q => go_r rfl rfl rfl rfl rfl rfl ⟨rfl, I1, A1, N1, rfl, q⟩
  have opn : (A 11 (I 20) = 40 ∨ A 11 (I 20) = 39) → xx_go (xt_P z) (d + 8) 80 51 [some (.ref h.length), some (.int (iI k)), some (.int (iI (I 20))), some (.int (iI (A 11 (I 20)))), some (.int (iI late)), none] [] (mh h R (su I 20 (I 20 + 1)) A N) (fun v h1 => v = none ∧ ∃ (I1 : Nat → Int) (A1 : Nat → Int → Int) (N1 : Int → Int), h1 = mh h R I1 A1 N1 ∧ RP c2 b2 k c I A N I1 A1 N1) := by
    intro hcc
    refine go_a (pc' := 52) (ls' := [some (.ref h.length), some (.int (iI k)), some (.int (iI (I 20))), some (.int (iI (A 11 (I 20)))), some (.int (iI late)), none]) (st' := [.ref h.length]) rfl rfl ?_
    refine go_v (m := 81) (as := [.ref h.length]) (r := []) rfl rfl rfl mh_o rfl rfl (mm_mayBegin z (d + 7) h R (su I 20 (I 20 + 1)) A N hc o1.1 o1.2 (fun k k0 k1 => (o4 k k0 k1).1) (fun k k0 k1 => (o4 k k0 k1).2.2.1) d31) (fun v h1 hq => ?_)
    obtain ⟨⟨b, rfl, hb⟩, rfl⟩ := hq
    show xx_go (xt_P z) (d + 8) 80 55 [some (.ref h.length), some (.int (iI k)), some (.int (iI (I 20))), some (.int (iI (A 11 (I 20)))), some (.int (iI late)), none] [.int (iI b)] (mh h R (su I 20 (I 20 + 1)) A N) _
    refine mi_ne0 (t := 67) rfl rfl (by omega) (by omega) (fun q1 => ?_) (fun q1 => ?_)
    · have mb : (I 27 = 0 ∧ I 31 = 0) ∨ (0 < I 27 ∧ (A 15 (I 27 - 1) = 1 ∨ A 17 (I 27 - 1) < 2)) := by
        rcases hb with hb | hb
        · exact hb.2
        · exact absurd hb.1 q1
      have d0 : I 31 = 0 := by
        rcases d31 with e | e
        · exact e
        · have := hd e
          omega
      refine go_a (pc' := 68) (ls' := [some (.ref h.length), some (.int (iI k)), some (.int (iI (I 20))), some (.int (iI (A 11 (I 20)))), some (.int (iI late)), none]) (st' := [.ref h.length]) rfl rfl ?_
      refine go_get (v := .int (iI (I 27))) rfl mh_o rfl rfl ?_
      refine go_a (pc' := 73) (ls' := [some (.ref h.length), some (.int (iI k)), some (.int (iI (I 20))), some (.int (iI (A 11 (I 20)))), some (.int (iI late)), none]) (st' := [.int (iI 40), .int (iI (I 27))]) rfl rfl ?_
      refine mi_ne (t := 85) rfl rfl (by omega) (by omega) (by omega) (by omega) (fun q2 => ?_) (fun q2 => ?_)
      · refine go_a (pc' := 87) (ls' := [some (.ref h.length), some (.int (iI k)), some (.int (iI (I 20))), some (.int (iI (A 11 (I 20)))), some (.int (iI late)), none]) (st' := [.int (iI late)]) rfl rfl ?_
        refine mi_eq0 (t := 99) rfl rfl (by omega) (by omega) (fun q3 => ?_) (fun q3 => ?_)
        · refine go_a (pc' := 100) (ls' := [some (.ref h.length), some (.int (iI k)), some (.int (iI (I 20))), some (.int (iI (A 11 (I 20)))), some (.int (iI late)), none]) (st' := [.ref h.length]) rfl rfl ?_
          refine go_a (pc' := 101) (ls' := [some (.ref h.length), some (.int (iI k)), some (.int (iI (I 20))), some (.int (iI (A 11 (I 20)))), some (.int (iI late)), none]) (st' := [.int (iI (A 11 (I 20))), .ref h.length]) rfl rfl ?_
          refine go_a (pc' := 103) (ls' := [some (.ref h.length), some (.int (iI k)), some (.int (iI (I 20))), some (.int (iI (A 11 (I 20)))), some (.int (iI late)), none]) (st' := [.int (iI 40), .int (iI (A 11 (I 20))), .ref h.length]) rfl rfl ?_
          refine mi_ne (t := 110) rfl rfl (by omega) (by omega) (by omega) (by omega) (fun q4 => ?_) (fun q4 => ?_)
          · refine go_a (pc' := 111) (ls' := [some (.ref h.length), some (.int (iI k)), some (.int (iI (I 20))), some (.int (iI (A 11 (I 20)))), some (.int (iI late)), none]) (st' := [.int (iI 1), .ref h.length]) rfl rfl ?_
            refine go_v (m := 82) (as := [.ref h.length, .int (iI 1)]) (r := []) rfl rfl rfl mh_o rfl rfl (mm_begin z (d + 7) 1 h R (su I 20 (I 20 + 1)) A N hc o1.1 (show I 27 < 40 by omega)) (fun v h1 hq => ?_)
            obtain ⟨rfl, rfl⟩ := hq
            show xx_go (xt_P z) (d + 8) 80 114 [some (.ref h.length), some (.int (iI k)), some (.int (iI (I 20))), some (.int (iI (A 11 (I 20)))), some (.int (iI late)), none] [] (mh h R ((su (su I 20 (I 20 + 1)) 27 (I 27 + 1))) ((sa (sa (sa A 15 (I 27) 1) 16 (I 27) (I 29)) 17 (I 27) 0)) N) _
            refine go_a (pc' := 375) (ls' := [some (.ref h.length), some (.int (iI k)), some (.int (iI (I 20))), some (.int (iI (A 11 (I 20)))), some (.int (iI late)), none]) (st' := []) rfl rfl ?_
            refine fin _ _ _ _ ⟨⟨hS, RX_tr (RX_su (j := 20) (by unfold RF; omega) (by decide)) (RX_tr (RX_su (j := 27) (by unfold RF; omega) (by decide)) (RX_tr (RX_sa (a := 15) (by unfold RG; omega) (by decide) (by decide) (by decide)) (RX_tr (RX_sa (a := 16) (by unfold RG; omega) (by decide) (by decide) (by decide)) (RX_sa (a := 17) (by unfold RG; omega) (by decide) (by decide) (by decide))))), RO_begin hO (by omega) (Or.inr rfl), RW_begin hO, (show I 7 + I 29 + 2 * (I 27 + 1) ≤ I 7 + I 29 + 2 * I 27 + 2 by omega), rfl, ⟨(show I 20 < I 20 + 1 by omega), (show I 20 + 1 ≤ I 13 by omega)⟩, rfl, hT.2.2, Q0.2.2.2.2.2.2.2.2.2⟩, ⟨(show 0 ≤ I 21 by omega), (show I 21 ≤ 5 by omega)⟩, fun _ => ⟨by omega, fun e => absurd (show I 31 = 1 from e) (by omega), RB_one (by omega) (by omega) rfl rfl (show I 7 + RPT I A ≤ I 7 + _ by rw [RPT_begin (by omega)]; exact Int.le_refl _) z1 z3⟩⟩
          · refine go_a (pc' := 107) (ls' := [some (.ref h.length), some (.int (iI k)), some (.int (iI (I 20))), some (.int (iI (A 11 (I 20)))), some (.int (iI late)), none]) (st' := [.int (iI 0), .ref h.length]) rfl rfl ?_
            refine go_a (pc' := 111) (ls' := [some (.ref h.length), some (.int (iI k)), some (.int (iI (I 20))), some (.int (iI (A 11 (I 20)))), some (.int (iI late)), none]) (st' := [.int (iI 0), .ref h.length]) rfl rfl ?_
            refine go_v (m := 82) (as := [.ref h.length, .int (iI 0)]) (r := []) rfl rfl rfl mh_o rfl rfl (mm_begin z (d + 7) 0 h R (su I 20 (I 20 + 1)) A N hc o1.1 (show I 27 < 40 by omega)) (fun v h1 hq => ?_)
            obtain ⟨rfl, rfl⟩ := hq
            show xx_go (xt_P z) (d + 8) 80 114 [some (.ref h.length), some (.int (iI k)), some (.int (iI (I 20))), some (.int (iI (A 11 (I 20)))), some (.int (iI late)), none] [] (mh h R ((su (su I 20 (I 20 + 1)) 27 (I 27 + 1))) ((sa (sa (sa A 15 (I 27) 0) 16 (I 27) (I 29)) 17 (I 27) 0)) N) _
            refine go_a (pc' := 375) (ls' := [some (.ref h.length), some (.int (iI k)), some (.int (iI (I 20))), some (.int (iI (A 11 (I 20)))), some (.int (iI late)), none]) (st' := []) rfl rfl ?_
            refine fin _ _ _ _ ⟨⟨hS, RX_tr (RX_su (j := 20) (by unfold RF; omega) (by decide)) (RX_tr (RX_su (j := 27) (by unfold RF; omega) (by decide)) (RX_tr (RX_sa (a := 15) (by unfold RG; omega) (by decide) (by decide) (by decide)) (RX_tr (RX_sa (a := 16) (by unfold RG; omega) (by decide) (by decide) (by decide)) (RX_sa (a := 17) (by unfold RG; omega) (by decide) (by decide) (by decide))))), RO_begin hO (by omega) (Or.inl rfl), RW_begin hO, (show I 7 + I 29 + 2 * (I 27 + 1) ≤ I 7 + I 29 + 2 * I 27 + 2 by omega), rfl, ⟨(show I 20 < I 20 + 1 by omega), (show I 20 + 1 ≤ I 13 by omega)⟩, rfl, hT.2.2, Q0.2.2.2.2.2.2.2.2.2⟩, ⟨(show 0 ≤ I 21 by omega), (show I 21 ≤ 5 by omega)⟩, fun _ => ⟨by omega, fun e => absurd (show I 31 = 1 from e) (by omega), RB_one (by omega) (by omega) rfl rfl (show I 7 + RPT I A ≤ I 7 + _ by rw [RPT_begin (by omega)]; exact Int.le_refl _) z1 z3⟩⟩
        · refine go_a (pc' := 91) (ls' := [some (.ref h.length), some (.int (iI k)), some (.int (iI (I 20))), some (.int (iI (A 11 (I 20)))), some (.int (iI late)), none]) (st' := [.ref h.length]) rfl rfl ?_
          refine go_a (pc' := 92) (ls' := [some (.ref h.length), some (.int (iI k)), some (.int (iI (I 20))), some (.int (iI (A 11 (I 20)))), some (.int (iI late)), none]) (st' := [.int (iI 5), .ref h.length]) rfl rfl ?_
          refine go_a (pc' := 93) (ls' := [some (.ref h.length), some (.int (iI k)), some (.int (iI (I 20))), some (.int (iI (A 11 (I 20)))), some (.int (iI late)), none]) (st' := [.int (iI (I 20)), .int (iI 5), .ref h.length]) rfl rfl ?_
          refine go_v (m := 72) (as := [.ref h.length, .int (iI 5), .int (iI (I 20))]) (r := []) rfl rfl rfl mh_o rfl rfl (mm_bad z (d + 7) 5 (I 20) h R (su I 20 (I 20 + 1)) A N hc (show 0 ≤ I 21 by omega) (show I 21 ≤ 5 by omega)) (fun v h1 hq => ?_)
          obtain ⟨rfl, hq⟩ := hq
          rcases hq with ⟨hq, -⟩ | ⟨-, rfl⟩
          · exact absurd h21 hq
          refine go_a (pc' := 375) (ls' := [some (.ref h.length), some (.int (iI k)), some (.int (iI (I 20))), some (.int (iI (A 11 (I 20)))), some (.int (iI late)), none]) (st' := []) rfl rfl ?_
          exact fin _ _ _ _ (RP_bad (f := 5) Q0 (by decide) (by decide))
      · refine go_a (pc' := 77) (ls' := [some (.ref h.length), some (.int (iI k)), some (.int (iI (I 20))), some (.int (iI (A 11 (I 20)))), some (.int (iI late)), none]) (st' := [.ref h.length]) rfl rfl ?_
        refine go_a (pc' := 78) (ls' := [some (.ref h.length), some (.int (iI k)), some (.int (iI (I 20))), some (.int (iI (A 11 (I 20)))), some (.int (iI late)), none]) (st' := [.int (iI 4), .ref h.length]) rfl rfl ?_
        refine go_a (pc' := 79) (ls' := [some (.ref h.length), some (.int (iI k)), some (.int (iI (I 20))), some (.int (iI (A 11 (I 20)))), some (.int (iI late)), none]) (st' := [.int (iI (I 20)), .int (iI 4), .ref h.length]) rfl rfl ?_
        refine go_v (m := 72) (as := [.ref h.length, .int (iI 4), .int (iI (I 20))]) (r := []) rfl rfl rfl mh_o rfl rfl (mm_bad z (d + 7) 4 (I 20) h R (su I 20 (I 20 + 1)) A N hc (show 0 ≤ I 21 by omega) (show I 21 ≤ 5 by omega)) (fun v h1 hq => ?_)
        obtain ⟨rfl, hq⟩ := hq
        rcases hq with ⟨hq, -⟩ | ⟨-, rfl⟩
        · exact absurd h21 hq
        refine go_a (pc' := 375) (ls' := [some (.ref h.length), some (.int (iI k)), some (.int (iI (I 20))), some (.int (iI (A 11 (I 20)))), some (.int (iI late)), none]) (st' := []) rfl rfl ?_
        exact fin _ _ _ _ (RP_bad (f := 4) Q0 (by decide) (by decide))
    · refine go_a (pc' := 59) (ls' := [some (.ref h.length), some (.int (iI k)), some (.int (iI (I 20))), some (.int (iI (A 11 (I 20)))), some (.int (iI late)), none]) (st' := [.ref h.length]) rfl rfl ?_
      refine go_a (pc' := 60) (ls' := [some (.ref h.length), some (.int (iI k)), some (.int (iI (I 20))), some (.int (iI (A 11 (I 20)))), some (.int (iI late)), none]) (st' := [.int (iI 3), .ref h.length]) rfl rfl ?_
      refine go_a (pc' := 61) (ls' := [some (.ref h.length), some (.int (iI k)), some (.int (iI (I 20))), some (.int (iI (A 11 (I 20)))), some (.int (iI late)), none]) (st' := [.int (iI (I 20)), .int (iI 3), .ref h.length]) rfl rfl ?_
      refine go_v (m := 72) (as := [.ref h.length, .int (iI 3), .int (iI (I 20))]) (r := []) rfl rfl rfl mh_o rfl rfl (mm_bad z (d + 7) 3 (I 20) h R (su I 20 (I 20 + 1)) A N hc (show 0 ≤ I 21 by omega) (show I 21 ≤ 5 by omega)) (fun v h1 hq => ?_)
      obtain ⟨rfl, hq⟩ := hq
      rcases hq with ⟨hq, -⟩ | ⟨-, rfl⟩
      · exact absurd h21 hq
      refine go_a (pc' := 375) (ls' := [some (.ref h.length), some (.int (iI k)), some (.int (iI (I 20))), some (.int (iI (A 11 (I 20)))), some (.int (iI late)), none]) (st' := []) rfl rfl ?_
      exact fin _ _ _ _ (RP_bad (f := 3) Q0 (by decide) (by decide))
  have cls : A 11 (I 20) = 41 → xx_go (xt_P z) (d + 8) 80 123 [some (.ref h.length), some (.int (iI k)), some (.int (iI (I 20))), some (.int (iI (A 11 (I 20)))), some (.int (iI late)), none] [] (mh h R (su I 20 (I 20 + 1)) A N) (fun v h1 => v = none ∧ ∃ (I1 : Nat → Int) (A1 : Nat → Int → Int) (N1 : Int → Int), h1 = mh h R I1 A1 N1 ∧ RP c2 b2 k c I A N I1 A1 N1) := by
    intro hcc
    refine go_a (pc' := 124) (ls' := [some (.ref h.length), some (.int (iI k)), some (.int (iI (I 20))), some (.int (iI (A 11 (I 20)))), some (.int (iI late)), none]) (st' := [.ref h.length]) rfl rfl ?_
    refine go_v (m := 83) (as := [.ref h.length]) (r := []) rfl rfl rfl mh_o rfl rfl (mm_isInList z (d + 7) h R (su I 20 (I 20 + 1)) A N hc o1.1 o1.2 (fun k k0 k1 => (o4 k k0 k1).1)) (fun v h1 hq => ?_)
    obtain ⟨⟨b, rfl, hb⟩, rfl⟩ := hq
    show xx_go (xt_P z) (d + 8) 80 127 [some (.ref h.length), some (.int (iI k)), some (.int (iI (I 20))), some (.int (iI (A 11 (I 20)))), some (.int (iI late)), none] [.int (iI b)] (mh h R (su I 20 (I 20 + 1)) A N) _
    refine mi_eq0 (t := 145) rfl rfl (by omega) (by omega) (fun q1 => ?_) (fun q1 => ?_)
    · refine go_a (pc' := 146) (ls' := [some (.ref h.length), some (.int (iI k)), some (.int (iI (I 20))), some (.int (iI (A 11 (I 20)))), some (.int (iI late)), none]) (st' := [.ref h.length]) rfl rfl ?_
      refine go_a (pc' := 147) (ls' := [some (.ref h.length), some (.int (iI k)), some (.int (iI (I 20))), some (.int (iI (A 11 (I 20)))), some (.int (iI late)), none]) (st' := [.int (iI 3), .ref h.length]) rfl rfl ?_
      refine go_a (pc' := 148) (ls' := [some (.ref h.length), some (.int (iI k)), some (.int (iI (I 20))), some (.int (iI (A 11 (I 20)))), some (.int (iI late)), none]) (st' := [.int (iI (I 20)), .int (iI 3), .ref h.length]) rfl rfl ?_
      refine go_v (m := 72) (as := [.ref h.length, .int (iI 3), .int (iI (I 20))]) (r := []) rfl rfl rfl mh_o rfl rfl (mm_bad z (d + 7) 3 (I 20) h R (su I 20 (I 20 + 1)) A N hc (show 0 ≤ I 21 by omega) (show I 21 ≤ 5 by omega)) (fun v h1 hq => ?_)
      obtain ⟨rfl, hq⟩ := hq
      rcases hq with ⟨hq, -⟩ | ⟨-, rfl⟩
      · exact absurd h21 hq
      refine go_a (pc' := 375) (ls' := [some (.ref h.length), some (.int (iI k)), some (.int (iI (I 20))), some (.int (iI (A 11 (I 20)))), some (.int (iI late)), none]) (st' := []) rfl rfl ?_
      exact fin _ _ _ _ (RP_bad (f := 3) Q0 (by decide) (by decide))
    · have il : 0 < I 27 ∧ A 15 (I 27 - 1) = 0 := by
        rcases hb with hb | hb
        · exact hb.2
        · exact absurd hb.1 q1
      have kk := o4 (I 27 - 1) (by omega) (by omega)
      have d0 : I 31 = 0 := by
        rcases d31 with e | e
        · exact e
        · have := hd e
          omega
      refine go_a (pc' := 131) (ls' := [some (.ref h.length), some (.int (iI k)), some (.int (iI (I 20))), some (.int (iI (A 11 (I 20)))), some (.int (iI late)), none]) (st' := [.ref h.length]) rfl rfl ?_
      refine go_get rfl mh_o rfl rfl ?_
      refine go_a (pc' := 135) (ls' := [some (.ref h.length), some (.int (iI k)), some (.int (iI (I 20))), some (.int (iI (A 11 (I 20)))), some (.int (iI late)), none]) (st' := [.ref h.length, .ref (h.length + 17)]) rfl rfl ?_
      refine go_get (v := .int (iI (I 27))) rfl mh_o rfl rfl ?_
      refine go_a (pc' := 139) (ls' := [some (.ref h.length), some (.int (iI k)), some (.int (iI (I 20))), some (.int (iI (A 11 (I 20)))), some (.int (iI late)), none]) (st' := [.int (iI 1), .int (iI (I 27)), .ref (h.length + 17)]) rfl rfl ?_
      refine mi_sub rfl ?_
      refine mi_ild rfl mh_a17 (by omega) (by omega) (by decide) ?_
      refine go_a (pc' := 142) (ls' := [some (.ref h.length), some (.int (iI k)), some (.int (iI (I 20))), some (.int (iI (A 11 (I 20)))), some (.int (iI late)), none]) (st' := [.int (iI 1), .int (iI (A 17 ((I 27) - 1)))]) rfl rfl ?_
      refine mi_ne (t := 154) rfl rfl (by omega) (by omega) (by omega) (by omega) (fun q2 => ?_) (fun q2 => ?_)
      · refine go_a (pc' := 156) (ls' := [some (.ref h.length), some (.int (iI k)), some (.int (iI (I 20))), some (.int (iI (A 11 (I 20)))), some (.int (iI late)), none]) (st' := [.int (iI late)]) rfl rfl ?_
        refine mi_eq0 (t := 168) rfl rfl (by omega) (by omega) (fun q3 => ?_) (fun q3 => ?_)
        · refine go_a (pc' := 169) (ls' := [some (.ref h.length), some (.int (iI k)), some (.int (iI (I 20))), some (.int (iI (A 11 (I 20)))), some (.int (iI late)), none]) (st' := [.ref h.length]) rfl rfl ?_
          refine go_v (m := 84) (as := [.ref h.length]) (r := []) rfl rfl rfl mh_o rfl rfl (mm_close z (d + 1) h R (su I 20 (I 20 + 1)) A N hc hS hN hO (show I 7 + I 29 + 2 * I 27 ≤ 140000 by omega) (show I 29 < 1100 by omega) d0 il.1) (fun v h1 hq => ?_)
          obtain ⟨rfl, I3, A3, rfl, S3, O3, W3, X3, c1, c2, c3, c4, c5, c6, c7, c8, c9, ca⟩ := hq
          show xx_go (xt_P z) (d + 8) 80 172 [some (.ref h.length), some (.int (iI k)), some (.int (iI (I 20))), some (.int (iI (A 11 (I 20)))), some (.int (iI late)), none] [] (mh h R I3 A3 N) _
          refine go_a (pc' := 375) (ls' := [some (.ref h.length), some (.int (iI k)), some (.int (iI (I 20))), some (.int (iI (A 11 (I 20)))), some (.int (iI late)), none]) (st' := []) rfl rfl ?_
          have cp : I3 7 + RPT I A ≤ I 7 + RPT I3 A3 := c1.2
          have c1 : I3 7 + I3 29 + 2 * I3 27 ≤ I 7 + I 29 + 2 * I 27 := c1.1
          have c2 : I3 10 = I 10 := c2
          have c5 : I3 20 = I 20 + 1 := c5
          have c6 : I3 21 = I 21 := c6
          have c3 : I3 13 = I 13 := c3
          refine fin _ _ _ _ ⟨⟨S3, RX_tr (RX_su (j := 20) (by unfold RF; omega) (by decide)) X3, O3, W3, by omega, c3, by omega, c8, fun e => by rw [c9]; exact hT.2.2 e, by omega, Or.inl (by omega)⟩, by omega, fun _ => ⟨by omega, ca, RB_one (by omega) (by omega) c5 c2 cp z1 z3⟩⟩
        · refine go_a (pc' := 160) (ls' := [some (.ref h.length), some (.int (iI k)), some (.int (iI (I 20))), some (.int (iI (A 11 (I 20)))), some (.int (iI late)), none]) (st' := [.ref h.length]) rfl rfl ?_
          refine go_a (pc' := 161) (ls' := [some (.ref h.length), some (.int (iI k)), some (.int (iI (I 20))), some (.int (iI (A 11 (I 20)))), some (.int (iI late)), none]) (st' := [.int (iI 5), .ref h.length]) rfl rfl ?_
          refine go_a (pc' := 162) (ls' := [some (.ref h.length), some (.int (iI k)), some (.int (iI (I 20))), some (.int (iI (A 11 (I 20)))), some (.int (iI late)), none]) (st' := [.int (iI (I 20)), .int (iI 5), .ref h.length]) rfl rfl ?_
          refine go_v (m := 72) (as := [.ref h.length, .int (iI 5), .int (iI (I 20))]) (r := []) rfl rfl rfl mh_o rfl rfl (mm_bad z (d + 7) 5 (I 20) h R (su I 20 (I 20 + 1)) A N hc (show 0 ≤ I 21 by omega) (show I 21 ≤ 5 by omega)) (fun v h1 hq => ?_)
          obtain ⟨rfl, hq⟩ := hq
          rcases hq with ⟨hq, -⟩ | ⟨-, rfl⟩
          · exact absurd h21 hq
          refine go_a (pc' := 375) (ls' := [some (.ref h.length), some (.int (iI k)), some (.int (iI (I 20))), some (.int (iI (A 11 (I 20)))), some (.int (iI late)), none]) (st' := []) rfl rfl ?_
          exact fin _ _ _ _ (RP_bad (f := 5) Q0 (by decide) (by decide))
      · refine go_a (pc' := 146) (ls' := [some (.ref h.length), some (.int (iI k)), some (.int (iI (I 20))), some (.int (iI (A 11 (I 20)))), some (.int (iI late)), none]) (st' := [.ref h.length]) rfl rfl ?_
        refine go_a (pc' := 147) (ls' := [some (.ref h.length), some (.int (iI k)), some (.int (iI (I 20))), some (.int (iI (A 11 (I 20)))), some (.int (iI late)), none]) (st' := [.int (iI 3), .ref h.length]) rfl rfl ?_
        refine go_a (pc' := 148) (ls' := [some (.ref h.length), some (.int (iI k)), some (.int (iI (I 20))), some (.int (iI (A 11 (I 20)))), some (.int (iI late)), none]) (st' := [.int (iI (I 20)), .int (iI 3), .ref h.length]) rfl rfl ?_
        refine go_v (m := 72) (as := [.ref h.length, .int (iI 3), .int (iI (I 20))]) (r := []) rfl rfl rfl mh_o rfl rfl (mm_bad z (d + 7) 3 (I 20) h R (su I 20 (I 20 + 1)) A N hc (show 0 ≤ I 21 by omega) (show I 21 ≤ 5 by omega)) (fun v h1 hq => ?_)
        obtain ⟨rfl, hq⟩ := hq
        rcases hq with ⟨hq, -⟩ | ⟨-, rfl⟩
        · exact absurd h21 hq
        refine go_a (pc' := 375) (ls' := [some (.ref h.length), some (.int (iI k)), some (.int (iI (I 20))), some (.int (iI (A 11 (I 20)))), some (.int (iI late)), none]) (st' := []) rfl rfl ?_
        exact fin _ _ _ _ (RP_bad (f := 3) Q0 (by decide) (by decide))
  have dot : A 11 (I 20) = 46 → xx_go (xt_P z) (d + 8) 80 181 [some (.ref h.length), some (.int (iI k)), some (.int (iI (I 20))), some (.int (iI (A 11 (I 20)))), some (.int (iI late)), none] [] (mh h R (su I 20 (I 20 + 1)) A N) (fun v h1 => v = none ∧ ∃ (I1 : Nat → Int) (A1 : Nat → Int → Int) (N1 : Int → Int), h1 = mh h R I1 A1 N1 ∧ RP c2 b2 k c I A N I1 A1 N1) := by
    intro hcc
    have bd : xx_go (xt_P z) (d + 8) 80 220 [some (.ref h.length), some (.int (iI k)), some (.int (iI (I 20))), some (.int (iI (A 11 (I 20)))), some (.int (iI late)), none] [] (mh h R (su I 20 (I 20 + 1)) A N) (fun v h1 => v = none ∧ ∃ (I1 : Nat → Int) (A1 : Nat → Int → Int) (N1 : Int → Int), h1 = mh h R I1 A1 N1 ∧ RP c2 b2 k c I A N I1 A1 N1) := by
      refine go_a (pc' := 221) (ls' := [some (.ref h.length), some (.int (iI k)), some (.int (iI (I 20))), some (.int (iI (A 11 (I 20)))), some (.int (iI late)), none]) (st' := [.ref h.length]) rfl rfl ?_
      refine go_a (pc' := 222) (ls' := [some (.ref h.length), some (.int (iI k)), some (.int (iI (I 20))), some (.int (iI (A 11 (I 20)))), some (.int (iI late)), none]) (st' := [.int (iI 3), .ref h.length]) rfl rfl ?_
      refine go_a (pc' := 223) (ls' := [some (.ref h.length), some (.int (iI k)), some (.int (iI (I 20))), some (.int (iI (A 11 (I 20)))), some (.int (iI late)), none]) (st' := [.int (iI (I 20)), .int (iI 3), .ref h.length]) rfl rfl ?_
      refine go_v (m := 72) (as := [.ref h.length, .int (iI 3), .int (iI (I 20))]) (r := []) rfl rfl rfl mh_o rfl rfl (mm_bad z (d + 7) 3 (I 20) h R (su I 20 (I 20 + 1)) A N hc (show 0 ≤ I 21 by omega) (show I 21 ≤ 5 by omega)) (fun v h1 hq => ?_)
      obtain ⟨rfl, hq⟩ := hq
      rcases hq with ⟨hq, -⟩ | ⟨-, rfl⟩
      · exact absurd h21 hq
      refine go_a (pc' := 375) (ls' := [some (.ref h.length), some (.int (iI k)), some (.int (iI (I 20))), some (.int (iI (A 11 (I 20)))), some (.int (iI late)), none]) (st' := []) rfl rfl ?_
      exact fin _ _ _ _ (RP_bad (f := 3) Q0 (by decide) (by decide))
    refine go_a (pc' := 182) (ls' := [some (.ref h.length), some (.int (iI k)), some (.int (iI (I 20))), some (.int (iI (A 11 (I 20)))), some (.int (iI late)), none]) (st' := [.ref h.length]) rfl rfl ?_
    refine go_v (m := 83) (as := [.ref h.length]) (r := []) rfl rfl rfl mh_o rfl rfl (mm_isInList z (d + 7) h R (su I 20 (I 20 + 1)) A N hc o1.1 o1.2 (fun k k0 k1 => (o4 k k0 k1).1)) (fun v h1 hq => ?_)
    obtain ⟨⟨b, rfl, hb⟩, rfl⟩ := hq
    show xx_go (xt_P z) (d + 8) 80 185 [some (.ref h.length), some (.int (iI k)), some (.int (iI (I 20))), some (.int (iI (A 11 (I 20)))), some (.int (iI late)), none] [.int (iI b)] (mh h R (su I 20 (I 20 + 1)) A N) _
    refine mi_eq0 (t := 220) rfl rfl (by omega) (by omega) (fun q1 => bd) (fun q1 => ?_)
    have il : 0 < I 27 ∧ A 15 (I 27 - 1) = 0 := by
      rcases hb with hb | hb
      · exact hb.2
      · exact absurd hb.1 q1
    have kk := o4 (I 27 - 1) (by omega) (by omega)
    refine go_a (pc' := 189) (ls' := [some (.ref h.length), some (.int (iI k)), some (.int (iI (I 20))), some (.int (iI (A 11 (I 20)))), some (.int (iI late)), none]) (st' := [.ref h.length]) rfl rfl ?_
    refine go_get rfl mh_o rfl rfl ?_
    refine go_a (pc' := 193) (ls' := [some (.ref h.length), some (.int (iI k)), some (.int (iI (I 20))), some (.int (iI (A 11 (I 20)))), some (.int (iI late)), none]) (st' := [.ref h.length, .ref (h.length + 17)]) rfl rfl ?_
    refine go_get (v := .int (iI (I 27))) rfl mh_o rfl rfl ?_
    refine go_a (pc' := 197) (ls' := [some (.ref h.length), some (.int (iI k)), some (.int (iI (I 20))), some (.int (iI (A 11 (I 20)))), some (.int (iI late)), none]) (st' := [.int (iI 1), .int (iI (I 27)), .ref (h.length + 17)]) rfl rfl ?_
    refine mi_sub rfl ?_
    refine mi_ild rfl mh_a17 (by omega) (by omega) (by decide) ?_
    refine mi_ne0 (t := 220) rfl rfl (by omega) (by omega) (fun q2 => bd) (fun q2 => ?_)
    refine go_a (pc' := 203) (ls' := [some (.ref h.length), some (.int (iI k)), some (.int (iI (I 20))), some (.int (iI (A 11 (I 20)))), some (.int (iI late)), none]) (st' := [.ref h.length]) rfl rfl ?_
    refine go_get (v := .int (iI (I 29))) rfl mh_o rfl rfl ?_
    refine go_a (pc' := 207) (ls' := [some (.ref h.length), some (.int (iI k)), some (.int (iI (I 20))), some (.int (iI (A 11 (I 20)))), some (.int (iI late)), none]) (st' := [.ref h.length, .int (iI (I 29))]) rfl rfl ?_
    refine go_get rfl mh_o rfl rfl ?_
    refine go_a (pc' := 211) (ls' := [some (.ref h.length), some (.int (iI k)), some (.int (iI (I 20))), some (.int (iI (A 11 (I 20)))), some (.int (iI late)), none]) (st' := [.ref h.length, .ref (h.length + 16), .int (iI (I 29))]) rfl rfl ?_
    refine go_get (v := .int (iI (I 27))) rfl mh_o rfl rfl ?_
    refine go_a (pc' := 215) (ls' := [some (.ref h.length), some (.int (iI k)), some (.int (iI (I 20))), some (.int (iI (A 11 (I 20)))), some (.int (iI late)), none]) (st' := [.int (iI 1), .int (iI (I 27)), .ref (h.length + 16), .int (iI (I 29))]) rfl rfl ?_
    refine mi_sub rfl ?_
    refine mi_ild rfl mh_a16 (by omega) (by omega) (by decide) ?_
    refine mi_ne (t := 229) rfl rfl (by omega) (by omega) (by omega) (by omega) (fun q3 => ?_) (fun q3 => bd)
    refine go_a (pc' := 231) (ls' := [some (.ref h.length), some (.int (iI k)), some (.int (iI (I 20))), some (.int (iI (A 11 (I 20)))), some (.int (iI late)), none]) (st' := [.int (iI late)]) rfl rfl ?_
    refine mi_eq0 (t := 243) rfl rfl (by omega) (by omega) (fun q4 => ?_) (fun q4 => ?_)
    · refine go_a (pc' := 244) (ls' := [some (.ref h.length), some (.int (iI k)), some (.int (iI (I 20))), some (.int (iI (A 11 (I 20)))), some (.int (iI late)), none]) (st' := [.ref h.length]) rfl rfl ?_
      refine go_get rfl mh_o rfl rfl ?_
      refine go_a (pc' := 248) (ls' := [some (.ref h.length), some (.int (iI k)), some (.int (iI (I 20))), some (.int (iI (A 11 (I 20)))), some (.int (iI late)), none]) (st' := [.ref h.length, .ref (h.length + 17)]) rfl rfl ?_
      refine go_get (v := .int (iI (I 27))) rfl mh_o rfl rfl ?_
      refine go_a (pc' := 252) (ls' := [some (.ref h.length), some (.int (iI k)), some (.int (iI (I 20))), some (.int (iI (A 11 (I 20)))), some (.int (iI late)), none]) (st' := [.int (iI 1), .int (iI (I 27)), .ref (h.length + 17)]) rfl rfl ?_
      refine mi_sub rfl ?_
      refine go_a (pc' := 254) (ls' := [some (.ref h.length), some (.int (iI k)), some (.int (iI (I 20))), some (.int (iI (A 11 (I 20)))), some (.int (iI late)), none]) (st' := [.int (iI 1), .int (iI ((I 27) - 1)), .ref (h.length + 17)]) rfl rfl ?_
      refine mi_ist rfl mh_a17 (show 12 ≤ _ by omega) (by omega) (by omega) (by decide) ?_
      rw [mh_w17 (by omega)]
      refine go_a (pc' := 375) (ls' := [some (.ref h.length), some (.int (iI k)), some (.int (iI (I 20))), some (.int (iI (A 11 (I 20)))), some (.int (iI late)), none]) (st' := []) rfl rfl ?_
      have h0 : A 17 (I 27 - 1) = 0 := by omega
      have D := RO_dot (x := I 20 + 1) hO il.1 h0
      refine fin _ _ _ _ ⟨⟨hS, RX_tr (RX_su (j := 20) (by unfold RF; omega) (by decide)) (RX_sa (a := 17) (by unfold RG; omega) (by decide) (by decide) (by decide)), D.1, D.2, Q0.2.2.2.2.1, rfl, Q0.2.2.2.2.2.2.1, rfl, hT.2.2, Q0.2.2.2.2.2.2.2.2.2⟩, ⟨(show 0 ≤ I 21 by omega), (show I 21 ≤ 5 by omega)⟩, fun _ => ⟨by omega, hd, RB_one (by omega) (by omega) rfl rfl (show I 7 + RPT I A ≤ I 7 + _ by rw [RPT_dot il.1 h0]; exact Int.le_refl _) z1 z3⟩⟩
    · refine go_a (pc' := 235) (ls' := [some (.ref h.length), some (.int (iI k)), some (.int (iI (I 20))), some (.int (iI (A 11 (I 20)))), some (.int (iI late)), none]) (st' := [.ref h.length]) rfl rfl ?_
      refine go_a (pc' := 236) (ls' := [some (.ref h.length), some (.int (iI k)), some (.int (iI (I 20))), some (.int (iI (A 11 (I 20)))), some (.int (iI late)), none]) (st' := [.int (iI 5), .ref h.length]) rfl rfl ?_
      refine go_a (pc' := 237) (ls' := [some (.ref h.length), some (.int (iI k)), some (.int (iI (I 20))), some (.int (iI (A 11 (I 20)))), some (.int (iI late)), none]) (st' := [.int (iI (I 20)), .int (iI 5), .ref h.length]) rfl rfl ?_
      refine go_v (m := 72) (as := [.ref h.length, .int (iI 5), .int (iI (I 20))]) (r := []) rfl rfl rfl mh_o rfl rfl (mm_bad z (d + 7) 5 (I 20) h R (su I 20 (I 20 + 1)) A N hc (show 0 ≤ I 21 by omega) (show I 21 ≤ 5 by omega)) (fun v h1 hq => ?_)
      obtain ⟨rfl, hq⟩ := hq
      rcases hq with ⟨hq, -⟩ | ⟨-, rfl⟩
      · exact absurd h21 hq
      refine go_a (pc' := 375) (ls' := [some (.ref h.length), some (.int (iI k)), some (.int (iI (I 20))), some (.int (iI (A 11 (I 20)))), some (.int (iI late)), none]) (st' := []) rfl rfl ?_
      exact fin _ _ _ _ (RP_bad (f := 5) Q0 (by decide) (by decide))
  have atm : atc (A 11 (I 20)) → ∀ (n : Nat) (p : Int), (I 13 - p).toNat ≤ n → I 20 < p → p ≤ I 13 → (∀ e : Int, I 20 ≤ e → e < p → atc (A 11 e)) → xx_go (xt_P z) (d + 8) 80 274 [some (.ref h.length), some (.int (iI k)), some (.int (iI (I 20))), some (.int (iI (A 11 (I 20)))), some (.int (iI late)), none] [] (mh h R (su I 20 p) A N) (fun v h1 => v = none ∧ ∃ (I1 : Nat → Int) (A1 : Nat → Int → Int) (N1 : Int → Int), h1 = mh h R I1 A1 N1 ∧ RP c2 b2 k c I A N I1 A1 N1) := by
    intro hat n
    have s3 := s2 hat
    have done : ∀ p : Int, I 20 < p → p ≤ I 13 → (∀ e : Int, I 20 ≤ e → e < p → atc (A 11 e)) → (p = I 13 ∨ ¬ atc (A 11 p)) → xx_go (xt_P z) (d + 8) 80 313 [some (.ref h.length), some (.int (iI k)), some (.int (iI (I 20))), some (.int (iI (A 11 (I 20)))), some (.int (iI late)), none] [] (mh h R (su I 20 p) A N) (fun v h1 => v = none ∧ ∃ (I1 : Nat → Int) (A1 : Nat → Int → Int) (N1 : Int → Int), h1 = mh h R I1 A1 N1 ∧ RP c2 b2 k c I A N I1 A1 N1) := by
      intro p p0 p1 pa pe
      refine go_a (pc' := 314) (ls' := [some (.ref h.length), some (.int (iI k)), some (.int (iI (I 20))), some (.int (iI (A 11 (I 20)))), some (.int (iI late)), none]) (st' := [.ref h.length]) rfl rfl ?_
      refine go_a (pc' := 315) (ls' := [some (.ref h.length), some (.int (iI k)), some (.int (iI (I 20))), some (.int (iI (A 11 (I 20)))), some (.int (iI late)), none]) (st' := [.int (iI (I 20)), .ref h.length]) rfl rfl ?_
      refine go_a (pc' := 316) (ls' := [some (.ref h.length), some (.int (iI k)), some (.int (iI (I 20))), some (.int (iI (A 11 (I 20)))), some (.int (iI late)), none]) (st' := [.ref h.length, .int (iI (I 20)), .ref h.length]) rfl rfl ?_
      refine go_get (v := .int (iI p)) rfl mh_o rfl rfl ?_
      refine go_v (m := 92) (as := [.ref h.length, .int (iI (I 20)), .int (iI p)]) (r := []) rfl rfl rfl mh_o rfl rfl (mm_atom z (d + 4) (I 20) p h R (su I 20 p) A N hc hS (show I 7 < 140000 by omega) hs (by omega) (by omega) (by omega) hT.2.1 (fun e e0 e1 => pa e e0 e1) hT.2.2) (fun v h1 hq => ?_)
      obtain ⟨v, I1, A1, N1, rfl, rfl, hv⟩ := hq
      rcases hv with ⟨rfl, rfl, eA, eN⟩ | ⟨v0, v1, va, v7, v10, x, gg, X, rg⟩
      · rw [eA, eN]
        have Q1 : RQ c I A N (su I 20 p) A N := ⟨hS, RX_su (j := 20) (by unfold RF; omega) (by decide), hO, (show RW I A ≤ _ by omega), (show I 7 + I 29 + 2 * I 27 ≤ I 7 + I 29 + 2 * I 27 + 2 by omega), rfl, ⟨p0, p1⟩, rfl, hT.2.2, (show 2 * I 10 ≤ p + c + 1 by omega), Or.inl (show 2 * I 10 ≤ p + c by omega)⟩
        show xx_go (xt_P z) (d + 8) 80 322 [some (.ref h.length), some (.int (iI k)), some (.int (iI (I 20))), some (.int (iI (A 11 (I 20)))), some (.int (iI late)), none] [.int (iI ((-1)))] (mh h R (su I 20 p) A N) _
        refine go_a (pc' := 324) (ls' := [some (.ref h.length), some (.int (iI k)), some (.int (iI (I 20))), some (.int (iI (A 11 (I 20)))), some (.int (iI late)), some (.int (iI ((-1))))]) (st' := []) rfl rfl ?_
        refine go_a (pc' := 326) (ls' := [some (.ref h.length), some (.int (iI k)), some (.int (iI (I 20))), some (.int (iI (A 11 (I 20)))), some (.int (iI late)), some (.int (iI ((-1))))]) (st' := [.int (iI ((-1)))]) rfl rfl ?_
        refine go_a (pc' := 327) (ls' := [some (.ref h.length), some (.int (iI k)), some (.int (iI (I 20))), some (.int (iI (A 11 (I 20)))), some (.int (iI late)), some (.int (iI ((-1))))]) (st' := [.int (iI ((-1))), .int (iI ((-1)))]) rfl rfl ?_
        refine mi_ne (t := 339) rfl rfl (by omega) (by omega) (by omega) (by omega) (fun q => absurd rfl q) (fun _ => ?_)
        refine go_a (pc' := 331) (ls' := [some (.ref h.length), some (.int (iI k)), some (.int (iI (I 20))), some (.int (iI (A 11 (I 20)))), some (.int (iI late)), some (.int (iI ((-1))))]) (st' := [.ref h.length]) rfl rfl ?_
        refine go_a (pc' := 332) (ls' := [some (.ref h.length), some (.int (iI k)), some (.int (iI (I 20))), some (.int (iI (A 11 (I 20)))), some (.int (iI late)), some (.int (iI ((-1))))]) (st' := [.int (iI 2), .ref h.length]) rfl rfl ?_
        refine go_a (pc' := 333) (ls' := [some (.ref h.length), some (.int (iI k)), some (.int (iI (I 20))), some (.int (iI (A 11 (I 20)))), some (.int (iI late)), some (.int (iI ((-1))))]) (st' := [.int (iI (I 20)), .int (iI 2), .ref h.length]) rfl rfl ?_
        refine go_v (m := 72) (as := [.ref h.length, .int (iI 2), .int (iI (I 20))]) (r := []) rfl rfl rfl mh_o rfl rfl (mm_bad z (d + 7) 2 (I 20) h R (su I 20 p) A N hc (show 0 ≤ I 21 by omega) (show I 21 ≤ 5 by omega)) (fun v h1 hq => ?_)
        obtain ⟨rfl, hq⟩ := hq
        rcases hq with ⟨hq, -⟩ | ⟨-, rfl⟩
        · exact absurd h21 hq
        refine go_a (pc' := 375) (ls' := [some (.ref h.length), some (.int (iI k)), some (.int (iI (I 20))), some (.int (iI (A 11 (I 20)))), some (.int (iI late)), some (.int (iI ((-1))))]) (st' := []) rfl rfl ?_
        exact fin _ _ _ _ (RP_bad (f := 2) Q1 (by decide) (by decide))
      · have e21 : I1 21 = 0 := (X.2.2.2.1 21 (by decide) (by decide)).trans h21
        have f27 : I1 27 = I 27 := X.2.2.2.1 27 (by decide) (by decide)
        have f29 : I1 29 = I 29 := X.2.2.2.1 29 (by decide) (by decide)
        have f31 : I1 31 = I 31 := X.2.2.2.1 31 (by decide) (by decide)
        have f20 : I1 20 = p := X.2.2.2.1 20 (by decide) (by decide)
        have f13 : I1 13 = I 13 := X.2.2.2.1 13 (by decide) (by decide)
        have x2 : I 7 ≤ I1 7 := X.2.1
        have hP0 : PW (su (su I 20 p) 17 x) (sw A 13 gg) := hP
        have hO0 : RO (su (su I 20 p) 17 x) (sw A 13 gg) := hO
        have O1 := RO_EX hP0 X hO0
        have eR : RW I1 A1 = RW I A := by
          rw [O1.2]
          have eW : WD (sw A 13 gg) = WD A := WD_12 rfl rfl
          unfold RW
          rw [SW_12 eW, eW, OW_congr (A := A) (A1 := sw A 13 gg) _ (fun e he => ⟨rfl, fun _ => by rw [eW]; rfl⟩)]
          rfl
        have a11 : A1 11 = A 11 := X.2.2.2.2.1 11 (by decide) (by decide) (by decide) (by decide) (by decide) (by decide) (by decide) (by decide)
        have a13 : A1 13 = gg := X.2.2.2.2.1 13 (by decide) (by decide) (by decide) (by decide) (by decide) (by decide) (by decide) (by decide)
        have X0 : RX I A N I1 A1 N1 := RX_tr (RX_su (j := 20) (by unfold RF; omega) (by decide)) (RX_tr (RX_su (j := 17) (by unfold RF; omega) (by decide)) (RX_tr (RX_sw (a := 13) (by unfold RG; omega) (by decide) (by decide) (by decide)) (RX_EX X)))
        have v7 : I1 7 ≤ I 7 + 1 := v7
        have v10 : I1 10 ≤ I 10 + 1 := v10
        have Q1 : RQ c I A N I1 A1 N1 := ⟨X.1, X0, O1.1, by omega, by omega, f13, by omega, a11, fun e => by rw [a13]; exact rg e, by omega, Or.inr (by rw [f20]; exact pe)⟩
        have N1M : NM I1 A1 := ⟨by have := hN.1; omega, fun k k0 k1 => by rw [(X.2.2.1 k k0 (by have := hN.1; show k < I 7; omega)).1]; exact hN.2 k k0 k1⟩
        have w1 : WD A1 v = 1 := WD_atom va
        have q4 := O1.1.2.2.2.1
        show xx_go (xt_P z) (d + 8) 80 322 [some (.ref h.length), some (.int (iI k)), some (.int (iI (I 20))), some (.int (iI (A 11 (I 20)))), some (.int (iI late)), none] [.int (iI v)] (mh h R I1 A1 N1) _
        refine go_a (pc' := 324) (ls' := [some (.ref h.length), some (.int (iI k)), some (.int (iI (I 20))), some (.int (iI (A 11 (I 20)))), some (.int (iI late)), some (.int (iI v))]) (st' := []) rfl rfl ?_
        refine go_a (pc' := 326) (ls' := [some (.ref h.length), some (.int (iI k)), some (.int (iI (I 20))), some (.int (iI (A 11 (I 20)))), some (.int (iI late)), some (.int (iI v))]) (st' := [.int (iI v)]) rfl rfl ?_
        refine go_a (pc' := 327) (ls' := [some (.ref h.length), some (.int (iI k)), some (.int (iI (I 20))), some (.int (iI (A 11 (I 20)))), some (.int (iI late)), some (.int (iI v))]) (st' := [.int (iI ((-1))), .int (iI v)]) rfl rfl ?_
        refine mi_ne (t := 339) rfl rfl (by omega) (by omega) (by omega) (by omega) (fun nv => ?_) (fun q => absurd q (by omega))
        refine go_a (pc' := 340) (ls' := [some (.ref h.length), some (.int (iI k)), some (.int (iI (I 20))), some (.int (iI (A 11 (I 20)))), some (.int (iI late)), some (.int (iI v))]) (st' := [.ref h.length]) rfl rfl ?_
        refine go_v (m := 81) (as := [.ref h.length]) (r := []) rfl rfl rfl mh_o rfl rfl (mm_mayBegin z (d + 7) h R I1 A1 N1 hc O1.1.1.1 O1.1.1.2 (fun k k0 k1 => (q4 k k0 k1).1) (fun k k0 k1 => (q4 k k0 k1).2.2.1) O1.1.2.2.2.2.2.1) (fun v h1 hq => ?_)
        obtain ⟨⟨b, rfl, hb⟩, rfl⟩ := hq
        show xx_go (xt_P z) (d + 8) 80 343 [some (.ref h.length), some (.int (iI k)), some (.int (iI (I 20))), some (.int (iI (A 11 (I 20)))), some (.int (iI late)), some (.int (iI v))] [.int (iI b)] (mh h R I1 A1 N1) _
        refine mi_ne0 (t := 355) rfl rfl (by omega) (by omega) (fun q1 => ?_) (fun q1 => ?_)
        · have mb : (I1 27 = 0 ∧ I1 31 = 0) ∨ (0 < I1 27 ∧ (A1 15 (I1 27 - 1) = 1 ∨ A1 17 (I1 27 - 1) < 2)) := by
            rcases hb with hb | hb
            · exact hb.2
            · exact absurd hb.1 q1
          have d0 : I1 31 = 0 := by
            rcases d31 with e | e
            · omega
            · have := hd e
              omega
          refine go_a (pc' := 357) (ls' := [some (.ref h.length), some (.int (iI k)), some (.int (iI (I 20))), some (.int (iI (A 11 (I 20)))), some (.int (iI late)), some (.int (iI v))]) (st' := [.int (iI late)]) rfl rfl ?_
          refine mi_eq0 (t := 369) rfl rfl (by omega) (by omega) (fun q4 => ?_) (fun q4 => ?_)
          · refine go_a (pc' := 370) (ls' := [some (.ref h.length), some (.int (iI k)), some (.int (iI (I 20))), some (.int (iI (A 11 (I 20)))), some (.int (iI late)), some (.int (iI v))]) (st' := [.ref h.length]) rfl rfl ?_
            refine go_a (pc' := 372) (ls' := [some (.ref h.length), some (.int (iI k)), some (.int (iI (I 20))), some (.int (iI (A 11 (I 20)))), some (.int (iI late)), some (.int (iI v))]) (st' := [.int (iI v), .ref h.length]) rfl rfl ?_
            refine go_v (m := 87) (as := [.ref h.length, .int (iI v)]) (r := []) rfl rfl rfl mh_o rfl rfl (mm_deliver z (d + 3) v h R I1 A1 N1 hc X.1 N1M O1.1 (by omega) (by omega) d0 v0 v1) (fun v h1 hq => ?_)
            obtain ⟨rfl, I3, A3, rfl, S3, O3, W3, X3, c1, c2, c3, c4, c5, c6, c7, c8, c9, ca⟩ := hq
            show xx_go (xt_P z) (d + 8) 80 375 [some (.ref h.length), some (.int (iI k)), some (.int (iI (I 20))), some (.int (iI (A 11 (I 20)))), some (.int (iI late)), some (.int (iI v))] [] (mh h R I3 A3 N1) _
            have cp := c1.2
            have pv : PT A1 v = 0 := PT_atom va
            have eT : RPT I1 A1 = RPT I A := by
              rw [RPT_EX hP0 X hO0]
              have eP : PT (sw A 13 gg) = PT A := PT_12 rfl rfl
              unfold RPT
              rw [eP, SP_congr (A := A) (f := A 19) (A1 := sw A 13 gg) (f1 := sw A 13 gg 19) _ (fun e he => by rw [eP]; rfl), OP_congr (A := A) (A1 := sw A 13 gg) _ (fun e he => ⟨rfl, rfl, fun _ => by rw [eP]; rfl⟩)]
              rfl
            exact fin _ _ _ _ ⟨⟨S3, RX_tr X0 X3, O3, by omega, by omega, by omega, by omega, c8.trans a11, fun e => by rw [c9, a13]; exact rg e, by omega, Or.inr (by rw [c5, f20]; exact pe)⟩, by omega, fun _ => ⟨by omega, ca, RB_atm (by omega) (fun e => by rw [e] at hat; unfold atc at hat; omega) (by omega) (by omega) (by rw [eT, pv] at cp; omega) (z2 hat) (z4 hat) (by rw [c5, f20]; exact pe)⟩⟩
          · refine go_a (pc' := 361) (ls' := [some (.ref h.length), some (.int (iI k)), some (.int (iI (I 20))), some (.int (iI (A 11 (I 20)))), some (.int (iI late)), some (.int (iI v))]) (st' := [.ref h.length]) rfl rfl ?_
            refine go_a (pc' := 362) (ls' := [some (.ref h.length), some (.int (iI k)), some (.int (iI (I 20))), some (.int (iI (A 11 (I 20)))), some (.int (iI late)), some (.int (iI v))]) (st' := [.int (iI 5), .ref h.length]) rfl rfl ?_
            refine go_a (pc' := 363) (ls' := [some (.ref h.length), some (.int (iI k)), some (.int (iI (I 20))), some (.int (iI (A 11 (I 20)))), some (.int (iI late)), some (.int (iI v))]) (st' := [.int (iI (I 20)), .int (iI 5), .ref h.length]) rfl rfl ?_
            refine go_v (m := 72) (as := [.ref h.length, .int (iI 5), .int (iI (I 20))]) (r := []) rfl rfl rfl mh_o rfl rfl (mm_bad z (d + 7) 5 (I 20) h R I1 A1 N1 hc (show 0 ≤ I1 21 by omega) (show I1 21 ≤ 5 by omega)) (fun v h1 hq => ?_)
            obtain ⟨rfl, hq⟩ := hq
            rcases hq with ⟨hq, -⟩ | ⟨-, rfl⟩
            · exact absurd e21 hq
            refine go_a (pc' := 375) (ls' := [some (.ref h.length), some (.int (iI k)), some (.int (iI (I 20))), some (.int (iI (A 11 (I 20)))), some (.int (iI late)), some (.int (iI v))]) (st' := []) rfl rfl ?_
            exact fin _ _ _ _ (RP_bad (f := 5) Q1 (by decide) (by decide))
        · refine go_a (pc' := 347) (ls' := [some (.ref h.length), some (.int (iI k)), some (.int (iI (I 20))), some (.int (iI (A 11 (I 20)))), some (.int (iI late)), some (.int (iI v))]) (st' := [.ref h.length]) rfl rfl ?_
          refine go_a (pc' := 348) (ls' := [some (.ref h.length), some (.int (iI k)), some (.int (iI (I 20))), some (.int (iI (A 11 (I 20)))), some (.int (iI late)), some (.int (iI v))]) (st' := [.int (iI 3), .ref h.length]) rfl rfl ?_
          refine go_a (pc' := 349) (ls' := [some (.ref h.length), some (.int (iI k)), some (.int (iI (I 20))), some (.int (iI (A 11 (I 20)))), some (.int (iI late)), some (.int (iI v))]) (st' := [.int (iI (I 20)), .int (iI 3), .ref h.length]) rfl rfl ?_
          refine go_v (m := 72) (as := [.ref h.length, .int (iI 3), .int (iI (I 20))]) (r := []) rfl rfl rfl mh_o rfl rfl (mm_bad z (d + 7) 3 (I 20) h R I1 A1 N1 hc (show 0 ≤ I1 21 by omega) (show I1 21 ≤ 5 by omega)) (fun v h1 hq => ?_)
          obtain ⟨rfl, hq⟩ := hq
          rcases hq with ⟨hq, -⟩ | ⟨-, rfl⟩
          · exact absurd e21 hq
          refine go_a (pc' := 375) (ls' := [some (.ref h.length), some (.int (iI k)), some (.int (iI (I 20))), some (.int (iI (A 11 (I 20)))), some (.int (iI late)), some (.int (iI v))]) (st' := []) rfl rfl ?_
          exact fin _ _ _ _ (RP_bad (f := 3) Q1 (by decide) (by decide))
    induction n with
    | zero =>
      intro p hn p0 p1 pa
      refine go_a (pc' := 275) (ls' := [some (.ref h.length), some (.int (iI k)), some (.int (iI (I 20))), some (.int (iI (A 11 (I 20)))), some (.int (iI late)), none]) (st' := [.ref h.length]) rfl rfl ?_
      refine go_get (v := .int (iI p)) rfl mh_o rfl rfl ?_
      refine go_a (pc' := 279) (ls' := [some (.ref h.length), some (.int (iI k)), some (.int (iI (I 20))), some (.int (iI (A 11 (I 20)))), some (.int (iI late)), none]) (st' := [.ref h.length, .int (iI p)]) rfl rfl ?_
      refine go_get (v := .int (iI (I 13))) rfl mh_o rfl rfl ?_
      exact mi_ge (t := 313) rfl rfl (by omega) (by omega) (by omega) (by omega) (fun _ => done p p0 p1 pa (Or.inl (by omega))) (fun q => absurd (show I 13 ≤ p by omega) q)
    | succ n ih =>
      intro p hn p0 p1 pa
      have rp := hT.2.1 p
      refine go_a (pc' := 275) (ls' := [some (.ref h.length), some (.int (iI k)), some (.int (iI (I 20))), some (.int (iI (A 11 (I 20)))), some (.int (iI late)), none]) (st' := [.ref h.length]) rfl rfl ?_
      refine go_get (v := .int (iI p)) rfl mh_o rfl rfl ?_
      refine go_a (pc' := 279) (ls' := [some (.ref h.length), some (.int (iI k)), some (.int (iI (I 20))), some (.int (iI (A 11 (I 20)))), some (.int (iI late)), none]) (st' := [.ref h.length, .int (iI p)]) rfl rfl ?_
      refine go_get (v := .int (iI (I 13))) rfl mh_o rfl rfl ?_
      refine mi_ge (t := 313) rfl rfl (by omega) (by omega) (by omega) (by omega) (fun q => done p p0 p1 pa (Or.inl (by omega))) (fun q => ?_)
      refine go_a (pc' := 286) (ls' := [some (.ref h.length), some (.int (iI k)), some (.int (iI (I 20))), some (.int (iI (A 11 (I 20)))), some (.int (iI late)), none]) (st' := [.ref h.length]) rfl rfl ?_
      refine go_get rfl mh_o rfl rfl ?_
      refine go_a (pc' := 290) (ls' := [some (.ref h.length), some (.int (iI k)), some (.int (iI (I 20))), some (.int (iI (A 11 (I 20)))), some (.int (iI late)), none]) (st' := [.ref h.length, .ref (h.length + 11)]) rfl rfl ?_
      refine go_get (v := .int (iI p)) rfl mh_o rfl rfl ?_
      refine mi_ild rfl mh_a11 (by omega) (by omega) (by decide) ?_
      refine go_s (m := 90) (as := [.int (iI (A 11 p))]) (r := []) rfl rfl rfl rfl (mm_isAtom z (d + 6) (A 11 p) _ rp.1 rp.2) (fun v h1 hq => ?_)
      obtain ⟨⟨b, rfl, hb⟩, rfl⟩ := hq
      show xx_go (xt_P z) (d + 8) 80 297 [some (.ref h.length), some (.int (iI k)), some (.int (iI (I 20))), some (.int (iI (A 11 (I 20)))), some (.int (iI late)), none] [.int (iI b)] (mh h R (su I 20 p) A N) _
      refine mi_eq0 (t := 313) rfl rfl (by omega) (by omega) (fun q1 => done p p0 p1 pa (Or.inr (by
        rcases hb with hb | hb
        · omega
        · exact hb.2))) (fun q1 => ?_)
      refine go_a (pc' := 301) (ls' := [some (.ref h.length), some (.int (iI k)), some (.int (iI (I 20))), some (.int (iI (A 11 (I 20)))), some (.int (iI late)), none]) (st' := [.ref h.length]) rfl rfl ?_
      refine go_a (pc' := 302) (ls' := [some (.ref h.length), some (.int (iI k)), some (.int (iI (I 20))), some (.int (iI (A 11 (I 20)))), some (.int (iI late)), none]) (st' := [.ref h.length, .ref h.length]) rfl rfl ?_
      refine go_get (v := .int (iI p)) rfl mh_o rfl rfl ?_
      refine go_a (pc' := 306) (ls' := [some (.ref h.length), some (.int (iI k)), some (.int (iI (I 20))), some (.int (iI (A 11 (I 20)))), some (.int (iI late)), none]) (st' := [.int (iI 1), .int (iI p), .ref h.length]) rfl rfl ?_
      refine mi_add rfl ?_
      refine go_put (j := 20) rfl mh_o rfl rfl (show 12 ≤ _ from hc) (show 20 < 86 by decide) rfl rfl ?_
      rw [mh_p20]
      refine go_a (pc' := 274) (ls' := [some (.ref h.length), some (.int (iI k)), some (.int (iI (I 20))), some (.int (iI (A 11 (I 20)))), some (.int (iI late)), none]) (st' := []) rfl rfl ?_
      rw [su_su]
      refine ih (p + 1) (by omega) (by omega) (by omega) (fun e e0 e1 => ?_)
      by_cases ee : e = p
      · rw [ee]
        rcases hb with hb | hb
        · exact hb.2
        · exact absurd hb.1 q1
      · exact pa e e0 (by omega)
  refine go_a (pc' := 40) (ls' := [some (.ref h.length), some (.int (iI k)), some (.int (iI (I 20))), some (.int (iI (A 11 (I 20)))), some (.int (iI late)), none]) (st' := [.int (iI (A 11 (I 20)))]) rfl rfl ?_
  refine go_a (pc' := 42) (ls' := [some (.ref h.length), some (.int (iI k)), some (.int (iI (I 20))), some (.int (iI (A 11 (I 20)))), some (.int (iI late)), none]) (st' := [.int (iI 40), .int (iI (A 11 (I 20)))]) rfl rfl ?_
  refine mi_eq (t := 51) rfl rfl (by omega) (by omega) (by omega) (by omega) (fun q => opn (Or.inl q)) (fun q => ?_)
  refine go_a (pc' := 46) (ls' := [some (.ref h.length), some (.int (iI k)), some (.int (iI (I 20))), some (.int (iI (A 11 (I 20)))), some (.int (iI late)), none]) (st' := [.int (iI (A 11 (I 20)))]) rfl rfl ?_
  refine go_a (pc' := 48) (ls' := [some (.ref h.length), some (.int (iI k)), some (.int (iI (I 20))), some (.int (iI (A 11 (I 20)))), some (.int (iI late)), none]) (st' := [.int (iI 39), .int (iI (A 11 (I 20)))]) rfl rfl ?_
  refine mi_ne (t := 117) rfl rfl (by omega) (by omega) (by omega) (by omega) (fun q2 => ?_) (fun q2 => opn (Or.inr (by omega)))
  refine go_a (pc' := 118) (ls' := [some (.ref h.length), some (.int (iI k)), some (.int (iI (I 20))), some (.int (iI (A 11 (I 20)))), some (.int (iI late)), none]) (st' := [.int (iI (A 11 (I 20)))]) rfl rfl ?_
  refine go_a (pc' := 120) (ls' := [some (.ref h.length), some (.int (iI k)), some (.int (iI (I 20))), some (.int (iI (A 11 (I 20)))), some (.int (iI late)), none]) (st' := [.int (iI 41), .int (iI (A 11 (I 20)))]) rfl rfl ?_
  refine mi_ne (t := 175) rfl rfl (by omega) (by omega) (by omega) (by omega) (fun q3 => ?_) (fun q3 => cls (by omega))
  refine go_a (pc' := 176) (ls' := [some (.ref h.length), some (.int (iI k)), some (.int (iI (I 20))), some (.int (iI (A 11 (I 20)))), some (.int (iI late)), none]) (st' := [.int (iI (A 11 (I 20)))]) rfl rfl ?_
  refine go_a (pc' := 178) (ls' := [some (.ref h.length), some (.int (iI k)), some (.int (iI (I 20))), some (.int (iI (A 11 (I 20)))), some (.int (iI late)), none]) (st' := [.int (iI 46), .int (iI (A 11 (I 20)))]) rfl rfl ?_
  refine mi_ne (t := 258) rfl rfl (by omega) (by omega) (by omega) (by omega) (fun q4 => ?_) (fun q4 => dot (by omega))
  refine go_a (pc' := 259) (ls' := [some (.ref h.length), some (.int (iI k)), some (.int (iI (I 20))), some (.int (iI (A 11 (I 20)))), some (.int (iI late)), none]) (st' := [.int (iI (A 11 (I 20)))]) rfl rfl ?_
  refine go_s (m := 90) (as := [.int (iI (A 11 (I 20)))]) (r := []) rfl rfl rfl rfl (mm_isAtom z (d + 6) (A 11 (I 20)) _ r.1 r.2) (fun v h1 hq => ?_)
  obtain ⟨⟨b, rfl, hb⟩, rfl⟩ := hq
  show xx_go (xt_P z) (d + 8) 80 262 [some (.ref h.length), some (.int (iI k)), some (.int (iI (I 20))), some (.int (iI (A 11 (I 20)))), some (.int (iI late)), none] [.int (iI b)] (mh h R (su I 20 (I 20 + 1)) A N) _
  refine mi_ne0 (t := 274) rfl rfl (by omega) (by omega) (fun q5 => ?_) (fun q5 => ?_)
  · have hat : atc (A 11 (I 20)) := by
      rcases hb with hb | hb
      · exact hb.2
      · exact absurd hb.1 q5
    exact atm hat _ (I 20 + 1) (Nat.le_refl _) (by omega) (by omega) (fun e e0 e1 => by rw [show e = I 20 by omega]; exact hat)
  · refine go_a (pc' := 266) (ls' := [some (.ref h.length), some (.int (iI k)), some (.int (iI (I 20))), some (.int (iI (A 11 (I 20)))), some (.int (iI late)), none]) (st' := [.ref h.length]) rfl rfl ?_
    refine go_a (pc' := 267) (ls' := [some (.ref h.length), some (.int (iI k)), some (.int (iI (I 20))), some (.int (iI (A 11 (I 20)))), some (.int (iI late)), none]) (st' := [.int (iI 1), .ref h.length]) rfl rfl ?_
    refine go_a (pc' := 268) (ls' := [some (.ref h.length), some (.int (iI k)), some (.int (iI (I 20))), some (.int (iI (A 11 (I 20)))), some (.int (iI late)), none]) (st' := [.int (iI (I 20)), .int (iI 1), .ref h.length]) rfl rfl ?_
    refine go_v (m := 72) (as := [.ref h.length, .int (iI 1), .int (iI (I 20))]) (r := []) rfl rfl rfl mh_o rfl rfl (mm_bad z (d + 7) 1 (I 20) h R (su I 20 (I 20 + 1)) A N hc (show 0 ≤ I 21 by omega) (show I 21 ≤ 5 by omega)) (fun v h1 hq => ?_)
    obtain ⟨rfl, hq⟩ := hq
    rcases hq with ⟨hq, -⟩ | ⟨-, rfl⟩
    · exact absurd h21 hq
    refine go_a (pc' := 375) (ls' := [some (.ref h.length), some (.int (iI k)), some (.int (iI (I 20))), some (.int (iI (A 11 (I 20)))), some (.int (iI late)), none]) (st' := []) rfl rfl ?_
    exact fin _ _ _ _ (RP_bad (f := 1) Q0 (by decide) (by decide))
theorem mm_readWord (z : Value) (d : Nat) (c2 b2 k c : Int) (h R : xx_H) (I : Nat → Int) (A : Nat → Int → Int) (N : Int → Int) (hc : 12 ≤ h.length) (hS : MST I A N) (hN : NM I A) (hO : RO I A) (hT : RT I A) (ha : I 20 < I 13) (h21 : I 21 = 0) (hd : I 31 = 1 → I 27 = 0) (s1 : 2 * I 10 ≤ I 20 + c + 1) (s2 : atc (A 11 (I 20)) → 2 * I 10 ≤ I 20 + c) (ho : I 7 + I 29 + 2 * I 27 + 2 ≤ 140000) (hs : I 10 < 4990) (hi : I 29 < 1099) (k0 : 0 < k) (k1 : k ≤ 5000) (z1 : 2 * I 10 ≤ NZ (A 11) (I 20).toNat + c2 + 1) (z2 : atc (A 11 (I 20)) → 2 * I 10 ≤ NZ (A 11) (I 20).toNat + c2) (z3 : 2 * (I 7 - RPT I A) ≤ NZ (A 11) (I 20).toNat + b2 + 1) (z4 : atc (A 11 (I 20)) → 2 * (I 7 - RPT I A) ≤ NZ (A 11) (I 20).toNat + b2) : xx_cl (xt_P z) (d + 9) 80 [.ref h.length, .int (iI k)] (mh h R I A N) (fun v h1 => v = none ∧ ∃ (I1 : Nat → Int) (A1 : Nat → Int → Int) (N1 : Int → Int), h1 = mh h R I1 A1 N1 ∧ RP c2 b2 k c I A N I1 A1 N1) := by
  have t := hT.1
  refine cl_go rfl ?_
  show xx_go (xt_P z) (d + 8) 80 0 [some (.ref h.length), some (.int (iI k)), none, none, none, none] [] (mh h R I A N) _
  refine go_a (pc' := 1) (ls' := [some (.ref h.length), some (.int (iI k)), none, none, none, none]) (st' := [.ref h.length]) rfl rfl ?_
  refine go_get (v := .int (iI (I 20))) rfl mh_o rfl rfl ?_
  refine go_a (pc' := 5) (ls' := [some (.ref h.length), some (.int (iI k)), some (.int (iI (I 20))), none, none, none]) (st' := []) rfl rfl ?_
  refine go_a (pc' := 6) (ls' := [some (.ref h.length), some (.int (iI k)), some (.int (iI (I 20))), none, none, none]) (st' := [.ref h.length]) rfl rfl ?_
  refine go_get rfl mh_o rfl rfl ?_
  refine go_a (pc' := 10) (ls' := [some (.ref h.length), some (.int (iI k)), some (.int (iI (I 20))), none, none, none]) (st' := [.ref h.length, .ref (h.length + 11)]) rfl rfl ?_
  refine go_get (v := .int (iI (I 20))) rfl mh_o rfl rfl ?_
  refine mi_ild rfl mh_a11 (by omega) (by omega) (by decide) ?_
  refine go_a (pc' := 15) (ls' := [some (.ref h.length), some (.int (iI k)), some (.int (iI (I 20))), some (.int (iI (A 11 (I 20)))), none, none]) (st' := []) rfl rfl ?_
  refine go_a (pc' := 16) (ls' := [some (.ref h.length), some (.int (iI k)), some (.int (iI (I 20))), some (.int (iI (A 11 (I 20)))), none, none]) (st' := [.int (iI k)]) rfl rfl ?_
  refine go_a (pc' := 19) (ls' := [some (.ref h.length), some (.int (iI k)), some (.int (iI (I 20))), some (.int (iI (A 11 (I 20)))), none, none]) (st' := [.int (iI 1000), .int (iI k)]) rfl rfl ?_
  refine mi_le (t := 26) rfl rfl (by omega) (by omega) (by omega) (by omega) (fun q => ?_) (fun q => ?_)
  · refine go_a (pc' := 27) (ls' := [some (.ref h.length), some (.int (iI k)), some (.int (iI (I 20))), some (.int (iI (A 11 (I 20)))), none, none]) (st' := [.int (iI 0)]) rfl rfl ?_
    refine go_a (pc' := 29) (ls' := [some (.ref h.length), some (.int (iI k)), some (.int (iI (I 20))), some (.int (iI (A 11 (I 20)))), some (.int (iI 0)), none]) (st' := []) rfl rfl ?_
    refine go_a (pc' := 30) (ls' := [some (.ref h.length), some (.int (iI k)), some (.int (iI (I 20))), some (.int (iI (A 11 (I 20)))), some (.int (iI 0)), none]) (st' := [.ref h.length]) rfl rfl ?_
    refine go_a (pc' := 31) (ls' := [some (.ref h.length), some (.int (iI k)), some (.int (iI (I 20))), some (.int (iI (A 11 (I 20)))), some (.int (iI 0)), none]) (st' := [.ref h.length, .ref h.length]) rfl rfl ?_
    refine go_get (v := .int (iI (I 20))) rfl mh_o rfl rfl ?_
    refine go_a (pc' := 35) (ls' := [some (.ref h.length), some (.int (iI k)), some (.int (iI (I 20))), some (.int (iI (A 11 (I 20)))), some (.int (iI 0)), none]) (st' := [.int (iI 1), .int (iI (I 20)), .ref h.length]) rfl rfl ?_
    refine mi_add rfl ?_
    refine go_put (j := 20) rfl mh_o rfl rfl (show 12 ≤ _ from hc) (show 20 < 86 by decide) rfl rfl ?_
    rw [mh_p20]
    exact mm_readWord_body z d c2 b2 k c 0 h R I A N hc hS hN hO hT ha h21 hd s1 s2 ho hs hi k0 k1 z1 z2 z3 z4 (Or.inr ⟨rfl, by omega⟩)
  · refine go_a (pc' := 23) (ls' := [some (.ref h.length), some (.int (iI k)), some (.int (iI (I 20))), some (.int (iI (A 11 (I 20)))), none, none]) (st' := [.int (iI 1)]) rfl rfl ?_
    refine go_a (pc' := 27) (ls' := [some (.ref h.length), some (.int (iI k)), some (.int (iI (I 20))), some (.int (iI (A 11 (I 20)))), none, none]) (st' := [.int (iI 1)]) rfl rfl ?_
    refine go_a (pc' := 29) (ls' := [some (.ref h.length), some (.int (iI k)), some (.int (iI (I 20))), some (.int (iI (A 11 (I 20)))), some (.int (iI 1)), none]) (st' := []) rfl rfl ?_
    refine go_a (pc' := 30) (ls' := [some (.ref h.length), some (.int (iI k)), some (.int (iI (I 20))), some (.int (iI (A 11 (I 20)))), some (.int (iI 1)), none]) (st' := [.ref h.length]) rfl rfl ?_
    refine go_a (pc' := 31) (ls' := [some (.ref h.length), some (.int (iI k)), some (.int (iI (I 20))), some (.int (iI (A 11 (I 20)))), some (.int (iI 1)), none]) (st' := [.ref h.length, .ref h.length]) rfl rfl ?_
    refine go_get (v := .int (iI (I 20))) rfl mh_o rfl rfl ?_
    refine go_a (pc' := 35) (ls' := [some (.ref h.length), some (.int (iI k)), some (.int (iI (I 20))), some (.int (iI (A 11 (I 20)))), some (.int (iI 1)), none]) (st' := [.int (iI 1), .int (iI (I 20)), .ref h.length]) rfl rfl ?_
    refine mi_add rfl ?_
    refine go_put (j := 20) rfl mh_o rfl rfl (show 12 ≤ _ from hc) (show 20 < 86 by decide) rfl rfl ?_
    rw [mh_p20]
    exact mm_readWord_body z d c2 b2 k c 1 h R I A N hc hS hN hO hT ha h21 hd s1 s2 ho hs hi k0 k1 z1 z2 z3 z4 (Or.inl ⟨rfl, by omega⟩)
