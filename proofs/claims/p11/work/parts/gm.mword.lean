def MXB (I : Nat → Int) (A : Nat → Int → Int) (N : Int → Int) (I1 : Nat → Int) (A1 : Nat → Int → Int) (N1 : Int → Int) : Prop := MX I1 A1 N1 ∧ MNM A1 N1 ∧ MKE I A N A1 N1 ∧ (MHT I A N → MHT I1 A1 N1)
def XW (k : Int) (I : Nat → Int) (A : Nat → Int → Int) (N : Int → Int) (I1 : Nat → Int) (A1 : Nat → Int → Int) (N1 : Int → Int) (F : sp_F) : Prop := MXB I A N I1 A1 N1 ∧ ((I1 21 ≠ 0 ∧ ∀ x : Int × ob_T, sp_wt (A 11) (I 13) (I 20) = some x → ¬ sp_ok (k - 1) x.1 F) ∨ (I1 21 = 0 ∧ ∃ x : Int × ob_T, sp_wt (A 11) (I 13) (I 20) = some x ∧ sp_ok (k - 1) x.1 F ∧ I1 20 = sp_wd (A 11) (I 13) (I 20) ∧ RRm I1 A1 N1 (sp_acc x.1 x.2 F) (I1 27) (I1 29) ∧ WFr (sp_acc x.1 x.2 F) ∧ WFs (sp_acc x.1 x.2 F)))
section XWS
variable {I I1 I2 : Nat → Int} {A A1 A2 : Nat → Int → Int} {N N1 N2 : Int → Int} {k f w y : Int} {F F1 : sp_F} {x : Int × ob_T}
theorem MXB_rf (hX : MX I A N) (hM : MNM A N) : MXB I A N (su I 20 y) A N := ⟨hX, hM, fun _ _ _ => ⟨rfl, rfl, rfl⟩, id⟩
theorem MXB_tr (l : I 7 ≤ I1 7) (m : MXB I A N I1 A1 N1) (p : MXB I1 A1 N1 I2 A2 N2) : MXB I A N I2 A2 N2 := by
  obtain ⟨a1, a2, a3, a4⟩ := m
  obtain ⟨b1, b2, b3, b4⟩ := p
  refine ⟨b1, b2, fun q q0 q1 => ?_, fun q => b4 (a4 q)⟩
  have a9 := a3 q q0 q1
  have b9 := b3 q q0 (by omega)
  exact ⟨b9.1.trans a9.1, b9.2.1.trans a9.2.1, b9.2.2.trans a9.2.2⟩
theorem MXB_p (p : MXP I A N I1 A1 F1) : MXB I A N I1 A1 N := ⟨p.1, p.2.1, p.2.2.1, p.2.2.2.1⟩
theorem XW_bad (f0 : f ≠ 0) (m : MXB I A N I1 A1 N1) (nb : ∀ x : Int × ob_T, sp_wt (A 11) (I 13) (I 20) = some x → ¬ sp_ok (k - 1) x.1 F) : XW k I A N (su (su I1 21 f) 22 w) A1 N1 F := ⟨m, Or.inl ⟨f0, nb⟩⟩
theorem NB_of {f : Int → Int} {n p w : Int} (e : sp_wt f n p = some x) (h : ¬ sp_ok w x.1 F) : ∀ x : Int × ob_T, sp_wt f n p = some x → ¬ sp_ok w x.1 F := by
  intro x ex
  rw [e] at ex
  injection ex with ex
  rw [← ex]
  exact h
theorem NB_no {f : Int → Int} {n p w : Int} (e : sp_wt f n p = none) : ∀ x : Int × ob_T, sp_wt f n p = some x → ¬ sp_ok w x.1 F := by
  intro x ex
  rw [e] at ex
  cases ex
theorem XW_ok (wf : WFr F) (ws : WFs F) (m : MXB I A N I1 A1 N1) (e : sp_wt (A 11) (I 13) (I 20) = some x) (ok : sp_ok (k - 1) x.1 F) (e20 : I1 20 = sp_wd (A 11) (I 13) (I 20)) (e21 : I1 21 = 0) (ac : sp_acc x.1 x.2 F = F1) (r : RRm I1 A1 N1 F1 (I1 27) (I1 29)) (wf1 : WFr F1) : XW k I A N I1 A1 N1 F := by
  refine ⟨m, Or.inr ⟨e21, x, e, ok, e20, ?_, ?_, WFs_acc wf ws ok.1⟩⟩
  · rw [ac]
    exact r
  · rw [ac]
    exact wf1
theorem sp_wt_d {f : Int → Int} {n p : Int} (h : f p = 40 ∨ f p = 41 ∨ f p = 39 ∨ f p = 46) : sp_wt f n p = some (f p, .num 0) ∧ sp_wd f n p = p + 1 := by
  have l : LIX (f p) = -1 := LIX_not (by omega) (by omega) (fun q => by unfold atc at q; omega)
  unfold sp_wt sp_wd
  rw [if_neg (show ¬ 0 ≤ LIX (f p) by omega), if_pos h, if_neg (show ¬ 0 ≤ LIX (f p) by omega)]
  exact ⟨rfl, rfl⟩
theorem sp_wt_n {f : Int → Int} {n p : Int} (x0 : 0 ≤ f p) (x1 : f p ≤ 255) (na : ¬ atc (f p)) (h : ¬ (f p = 40 ∨ f p = 41 ∨ f p = 39 ∨ f p = 46)) : sp_wt f n p = none := by
  have l : LIX (f p) = -1 := LIX_not x0 x1 na
  unfold sp_wt
  rw [if_neg (by omega), if_neg h]
theorem sp_wt_a {f : Int → Int} {n p a : Int} (r : ∀ e : Int, 0 ≤ f e ∧ f e ≤ 255) (p0 : p < a) (p1 : a ≤ n) (pa : ∀ e : Int, p ≤ e → e < a → atc (f e)) (pe : a = n ∨ ¬ atc (f a)) : sp_wt f n p = (sp_at f p (a - p).toNat).map (fun t => (3, t)) ∧ sp_wd f n p = a := by
  have l : 0 ≤ LIX (f p) := (LIX_atc (pa p (Int.le_refl _) p0)).1
  have e := sp_ae_eq f (n - p).toNat p a (by omega) (by omega) (fun q q0 q1 => (LIX_atc (pa q q0 q1)).1) (by
    rcases pe with pe | pe
    · exact Or.inl (by omega)
    · have := LIX_not (r a).1 (r a).2 pe
      exact Or.inr (by omega))
  unfold sp_wt sp_wd
  rw [if_pos l, if_pos l, e]
  exact ⟨rfl, rfl⟩
end XWS
theorem mx_rw_opn (z : Value) (d : Nat) (c2 b2 k c late : Int) (h R : xx_H) (I : Nat → Int) (A : Nat → Int → Int) (N : Int → Int) (hc : 12 ≤ h.length) (hS : MST I A N) (hN : NM I A) (hO : RO I A) (hT : RT I A) (ha : I 20 < I 13) (h21 : I 21 = 0) (hd : I 31 = 1 → I 27 = 0) (s1 : 2 * I 10 ≤ I 20 + c + 1) (s2 : atc (A 11 (I 20)) → 2 * I 10 ≤ I 20 + c) (ho : I 7 + I 29 + 2 * I 27 + 2 ≤ 140000) (hs : I 10 < 4990) (hi : I 29 < 1099) (k0 : 0 < k) (k1 : k ≤ 5000) (z1 : 2 * I 10 ≤ NZ (A 11) (I 20).toNat + c2 + 1) (z2 : atc (A 11 (I 20)) → 2 * I 10 ≤ NZ (A 11) (I 20).toNat + c2) (z3 : 2 * (I 7 - RPT I A) ≤ NZ (A 11) (I 20).toNat + b2 + 1) (z4 : atc (A 11 (I 20)) → 2 * (I 7 - RPT I A) ≤ NZ (A 11) (I 20).toNat + b2) (hX : MX I A N) (hM : MNM A N) (F : sp_F) (hF : RRm I A N F (I 27) (I 29)) (wf : WFr F) (ws : WFs F) (hl : (late = 1 ∧ 1000 < k) ∨ (late = 0 ∧ k ≤ 1000)) : (A 11 (I 20) = 40 ∨ A 11 (I 20) = 39) → xx_go (xt_P z) (d + 8) 80 51 [some (.ref h.length), some (.int (iI k)), some (.int (iI (I 20))), some (.int (iI (A 11 (I 20)))), some (.int (iI late)), none] [] (mh h R (su I 20 (I 20 + 1)) A N) (fun v h1 => v = none ∧ ∃ (I1 : Nat → Int) (A1 : Nat → Int → Int) (N1 : Int → Int), h1 = mh h R I1 A1 N1 ∧ (RP c2 b2 k c I A N I1 A1 N1 ∧ XW k I A N I1 A1 N1 F)) := by
  have hP := MST_PW hS
  have t := hT.1
  have Q0 := RQ_at (c := c) hS hO hT ha s1
  have r := hT.2.1 (I 20)
  have o1 := hO.1
  have o2 := hO.2.1
  have o4 := hO.2.2.2.1
  have d31 := hO.2.2.2.2.2.1
  have ln := RRm_len F _ _ hF
  have fin : ∀ (I1 : Nat → Int) (A1 : Nat → Int → Int) (N1 : Int → Int) (y : Option Value), (RP c2 b2 k c I A N I1 A1 N1 ∧ XW k I A N I1 A1 N1 F) → xx_go (xt_P z) (d + 8) 80 375 [some (.ref h.length), some (.int (iI k)), some (.int (iI (I 20))), some (.int (iI (A 11 (I 20)))), some (.int (iI late)), y] [] (mh h R I1 A1 N1) (fun v h1 => v = none ∧ ∃ (I1 : Nat → Int) (A1 : Nat → Int → Int) (N1 : Int → Int), h1 = mh h R I1 A1 N1 ∧ (RP c2 b2 k c I A N I1 A1 N1 ∧ XW k I A N I1 A1 N1 F)) := fun I1 A1 N1 y q => go_r rfl rfl rfl rfl rfl rfl ⟨rfl, I1, A1, N1, rfl, q⟩
  intro hcc
  have wt := sp_wt_d (f := A 11) (n := I 13) (p := I 20) (by omega)
  refine go_a (pc' := 52) (ls' := [some (.ref h.length), some (.int (iI k)), some (.int (iI (I 20))), some (.int (iI (A 11 (I 20)))), some (.int (iI late)), none]) (st' := [.ref h.length]) rfl rfl ?_
  refine go_v (m := 81) (as := [.ref h.length]) (r := []) rfl rfl rfl mh_o rfl rfl (mm_mayBegin z (d + 7) h R (su I 20 (I 20 + 1)) A N hc o1.1 o1.2 (fun k k0 k1 => (o4 k k0 k1).1) (fun k k0 k1 => (o4 k k0 k1).2.2.1) d31) (fun v h1 hq => ?_)
  obtain ⟨⟨b, rfl, hb⟩, rfl⟩ := hq
  show xx_go (xt_P z) (d + 8) 80 55 [some (.ref h.length), some (.int (iI k)), some (.int (iI (I 20))), some (.int (iI (A 11 (I 20)))), some (.int (iI late)), none] [.int (iI b)] (mh h R (su I 20 (I 20 + 1)) A N) _
  refine mi_ne0 (t := 67) rfl rfl (by omega) (by omega) (fun q1 => ?_) (fun q1 => ?_)
  · have mb : (I 27 = 0 ∧ I 31 = 0) ∨ (0 < I 27 ∧ (A 15 (I 27 - 1) = 1 ∨ A 17 (I 27 - 1) < 2)) := by
      rcases hb with hb | hb
      · exact hb.2
      · exact absurd hb.1 q1
    have d0 : I 31 = 0 := by
      rcases d31 with e | e
      · exact e
      · have := hd e
        omega
    refine go_a (pc' := 68) (ls' := [some (.ref h.length), some (.int (iI k)), some (.int (iI (I 20))), some (.int (iI (A 11 (I 20)))), some (.int (iI late)), none]) (st' := [.ref h.length]) rfl rfl ?_
    refine go_get (v := .int (iI (I 27))) rfl mh_o rfl rfl ?_
    refine go_a (pc' := 73) (ls' := [some (.ref h.length), some (.int (iI k)), some (.int (iI (I 20))), some (.int (iI (A 11 (I 20)))), some (.int (iI late)), none]) (st' := [.int (iI 40), .int (iI (I 27))]) rfl rfl ?_
    refine mi_ne (t := 85) rfl rfl (by omega) (by omega) (by omega) (by omega) (fun q2 => ?_) (fun q2 => ?_)
    · refine go_a (pc' := 87) (ls' := [some (.ref h.length), some (.int (iI k)), some (.int (iI (I 20))), some (.int (iI (A 11 (I 20)))), some (.int (iI late)), none]) (st' := [.int (iI late)]) rfl rfl ?_
      refine mi_eq0 (t := 99) rfl rfl (by omega) (by omega) (fun q3 => ?_) (fun q3 => ?_)
      · refine go_a (pc' := 100) (ls' := [some (.ref h.length), some (.int (iI k)), some (.int (iI (I 20))), some (.int (iI (A 11 (I 20)))), some (.int (iI late)), none]) (st' := [.ref h.length]) rfl rfl ?_
        refine go_a (pc' := 101) (ls' := [some (.ref h.length), some (.int (iI k)), some (.int (iI (I 20))), some (.int (iI (A 11 (I 20)))), some (.int (iI late)), none]) (st' := [.int (iI (A 11 (I 20))), .ref h.length]) rfl rfl ?_
        refine go_a (pc' := 103) (ls' := [some (.ref h.length), some (.int (iI k)), some (.int (iI (I 20))), some (.int (iI (A 11 (I 20)))), some (.int (iI late)), none]) (st' := [.int (iI 40), .int (iI (A 11 (I 20))), .ref h.length]) rfl rfl ?_
        refine mi_ne (t := 110) rfl rfl (by omega) (by omega) (by omega) (by omega) (fun q4 => ?_) (fun q4 => ?_)
        · refine go_a (pc' := 111) (ls' := [some (.ref h.length), some (.int (iI k)), some (.int (iI (I 20))), some (.int (iI (A 11 (I 20)))), some (.int (iI late)), none]) (st' := [.int (iI 1), .ref h.length]) rfl rfl ?_
          refine go_v (m := 82) (as := [.ref h.length, .int (iI 1)]) (r := []) rfl rfl rfl mh_o rfl rfl (mm_begin z (d + 7) 1 h R (su I 20 (I 20 + 1)) A N hc o1.1 (show I 27 < 40 by omega)) (fun v h1 hq => ?_)
          obtain ⟨rfl, rfl⟩ := hq
          show xx_go (xt_P z) (d + 8) 80 114 [some (.ref h.length), some (.int (iI k)), some (.int (iI (I 20))), some (.int (iI (A 11 (I 20)))), some (.int (iI late)), none] [] (mh h R ((su (su I 20 (I 20 + 1)) 27 (I 27 + 1))) ((sa (sa (sa A 15 (I 27) 1) 16 (I 27) (I 29)) 17 (I 27) 0)) N) _
          refine go_a (pc' := 375) (ls' := [some (.ref h.length), some (.int (iI k)), some (.int (iI (I 20))), some (.int (iI (A 11 (I 20)))), some (.int (iI late)), none]) (st' := []) rfl rfl ?_
          have my := (MY_3 hF).mp mb
          have md := (MD_begin (s := 1) (x := I 20 + 1) (kk := 2) hX hM hF wf (by omega) (by omega) (by omega))
          refine fin _ _ _ _ ⟨⟨⟨hS, RX_tr (RX_su (j := 20) (by unfold RF; omega) (by decide)) (RX_tr (RX_su (j := 27) (by unfold RF; omega) (by decide)) (RX_tr (RX_sa (a := 15) (by unfold RG; omega) (by decide) (by decide) (by decide)) (RX_tr (RX_sa (a := 16) (by unfold RG; omega) (by decide) (by decide) (by decide)) (RX_sa (a := 17) (by unfold RG; omega) (by decide) (by decide) (by decide))))), RO_begin hO (by omega) (Or.inr rfl), RW_begin hO, (show I 7 + I 29 + 2 * (I 27 + 1) ≤ I 7 + I 29 + 2 * I 27 + 2 by omega), rfl, ⟨(show I 20 < I 20 + 1 by omega), (show I 20 + 1 ≤ I 13 by omega)⟩, rfl, hT.2.2, Q0.2.2.2.2.2.2.2.2.2⟩, ⟨(show 0 ≤ I 21 by omega), (show I 21 ≤ 5 by omega)⟩, fun _ => ⟨by omega, fun e => absurd (show I 31 = 1 from e) (by omega), RB_one (by omega) (by omega) rfl rfl (show I 7 + RPT I A ≤ I 7 + _ by rw [RPT_begin (by omega)]; exact Int.le_refl _) z1 z3⟩⟩, XW_ok wf ws (MXB_p md) wt.1 ⟨(show sp_may (A 11 (I 20)) (sp_top F) by omega), (show k - 1 < 1000 by omega), fun _ => (show F.length ≤ 40 by omega)⟩ wt.2.symm h21 (show sp_acc (A 11 (I 20)) (.num 0) F = (2, []) :: F by unfold sp_acc; rw [if_neg (by omega), if_pos (by omega)]) md.2.2.2.2.1 md.2.2.2.2.2⟩
        · refine go_a (pc' := 107) (ls' := [some (.ref h.length), some (.int (iI k)), some (.int (iI (I 20))), some (.int (iI (A 11 (I 20)))), some (.int (iI late)), none]) (st' := [.int (iI 0), .ref h.length]) rfl rfl ?_
          refine go_a (pc' := 111) (ls' := [some (.ref h.length), some (.int (iI k)), some (.int (iI (I 20))), some (.int (iI (A 11 (I 20)))), some (.int (iI late)), none]) (st' := [.int (iI 0), .ref h.length]) rfl rfl ?_
          refine go_v (m := 82) (as := [.ref h.length, .int (iI 0)]) (r := []) rfl rfl rfl mh_o rfl rfl (mm_begin z (d + 7) 0 h R (su I 20 (I 20 + 1)) A N hc o1.1 (show I 27 < 40 by omega)) (fun v h1 hq => ?_)
          obtain ⟨rfl, rfl⟩ := hq
          show xx_go (xt_P z) (d + 8) 80 114 [some (.ref h.length), some (.int (iI k)), some (.int (iI (I 20))), some (.int (iI (A 11 (I 20)))), some (.int (iI late)), none] [] (mh h R ((su (su I 20 (I 20 + 1)) 27 (I 27 + 1))) ((sa (sa (sa A 15 (I 27) 0) 16 (I 27) (I 29)) 17 (I 27) 0)) N) _
          refine go_a (pc' := 375) (ls' := [some (.ref h.length), some (.int (iI k)), some (.int (iI (I 20))), some (.int (iI (A 11 (I 20)))), some (.int (iI late)), none]) (st' := []) rfl rfl ?_
          have my := (MY_3 hF).mp mb
          have md := (MD_begin (s := 0) (x := I 20 + 1) (kk := 3) hX hM hF wf (by omega) (by omega) (by omega))
          refine fin _ _ _ _ ⟨⟨⟨hS, RX_tr (RX_su (j := 20) (by unfold RF; omega) (by decide)) (RX_tr (RX_su (j := 27) (by unfold RF; omega) (by decide)) (RX_tr (RX_sa (a := 15) (by unfold RG; omega) (by decide) (by decide) (by decide)) (RX_tr (RX_sa (a := 16) (by unfold RG; omega) (by decide) (by decide) (by decide)) (RX_sa (a := 17) (by unfold RG; omega) (by decide) (by decide) (by decide))))), RO_begin hO (by omega) (Or.inl rfl), RW_begin hO, (show I 7 + I 29 + 2 * (I 27 + 1) ≤ I 7 + I 29 + 2 * I 27 + 2 by omega), rfl, ⟨(show I 20 < I 20 + 1 by omega), (show I 20 + 1 ≤ I 13 by omega)⟩, rfl, hT.2.2, Q0.2.2.2.2.2.2.2.2.2⟩, ⟨(show 0 ≤ I 21 by omega), (show I 21 ≤ 5 by omega)⟩, fun _ => ⟨by omega, fun e => absurd (show I 31 = 1 from e) (by omega), RB_one (by omega) (by omega) rfl rfl (show I 7 + RPT I A ≤ I 7 + _ by rw [RPT_begin (by omega)]; exact Int.le_refl _) z1 z3⟩⟩, XW_ok wf ws (MXB_p md) wt.1 ⟨(show sp_may (A 11 (I 20)) (sp_top F) by omega), (show k - 1 < 1000 by omega), fun _ => (show F.length ≤ 40 by omega)⟩ wt.2.symm h21 (show sp_acc (A 11 (I 20)) (.num 0) F = (3, []) :: F by unfold sp_acc; rw [if_pos (by omega)]) md.2.2.2.2.1 md.2.2.2.2.2⟩
      · refine go_a (pc' := 91) (ls' := [some (.ref h.length), some (.int (iI k)), some (.int (iI (I 20))), some (.int (iI (A 11 (I 20)))), some (.int (iI late)), none]) (st' := [.ref h.length]) rfl rfl ?_
        refine go_a (pc' := 92) (ls' := [some (.ref h.length), some (.int (iI k)), some (.int (iI (I 20))), some (.int (iI (A 11 (I 20)))), some (.int (iI late)), none]) (st' := [.int (iI 5), .ref h.length]) rfl rfl ?_
        refine go_a (pc' := 93) (ls' := [some (.ref h.length), some (.int (iI k)), some (.int (iI (I 20))), some (.int (iI (A 11 (I 20)))), some (.int (iI late)), none]) (st' := [.int (iI (I 20)), .int (iI 5), .ref h.length]) rfl rfl ?_
        refine go_v (m := 72) (as := [.ref h.length, .int (iI 5), .int (iI (I 20))]) (r := []) rfl rfl rfl mh_o rfl rfl (mm_bad z (d + 7) 5 (I 20) h R (su I 20 (I 20 + 1)) A N hc (show 0 ≤ I 21 by omega) (show I 21 ≤ 5 by omega)) (fun v h1 hq => ?_)
        obtain ⟨rfl, hq⟩ := hq
        rcases hq with ⟨hq, -⟩ | ⟨-, rfl⟩
        · exact absurd h21 hq
        refine go_a (pc' := 375) (ls' := [some (.ref h.length), some (.int (iI k)), some (.int (iI (I 20))), some (.int (iI (A 11 (I 20)))), some (.int (iI late)), none]) (st' := []) rfl rfl ?_
        exact fin _ _ _ _ ⟨RP_bad (f := 5) Q0 (by decide) (by decide), XW_bad (f := 5) (by decide) (MXB_rf hX hM) (NB_of wt.1 (fun q => by have q9 : k - 1 < 1000 := q.2.1; omega))⟩
    · refine go_a (pc' := 77) (ls' := [some (.ref h.length), some (.int (iI k)), some (.int (iI (I 20))), some (.int (iI (A 11 (I 20)))), some (.int (iI late)), none]) (st' := [.ref h.length]) rfl rfl ?_
      refine go_a (pc' := 78) (ls' := [some (.ref h.length), some (.int (iI k)), some (.int (iI (I 20))), some (.int (iI (A 11 (I 20)))), some (.int (iI late)), none]) (st' := [.int (iI 4), .ref h.length]) rfl rfl ?_
      refine go_a (pc' := 79) (ls' := [some (.ref h.length), some (.int (iI k)), some (.int (iI (I 20))), some (.int (iI (A 11 (I 20)))), some (.int (iI late)), none]) (st' := [.int (iI (I 20)), .int (iI 4), .ref h.length]) rfl rfl ?_
      refine go_v (m := 72) (as := [.ref h.length, .int (iI 4), .int (iI (I 20))]) (r := []) rfl rfl rfl mh_o rfl rfl (mm_bad z (d + 7) 4 (I 20) h R (su I 20 (I 20 + 1)) A N hc (show 0 ≤ I 21 by omega) (show I 21 ≤ 5 by omega)) (fun v h1 hq => ?_)
      obtain ⟨rfl, hq⟩ := hq
      rcases hq with ⟨hq, -⟩ | ⟨-, rfl⟩
      · exact absurd h21 hq
      refine go_a (pc' := 375) (ls' := [some (.ref h.length), some (.int (iI k)), some (.int (iI (I 20))), some (.int (iI (A 11 (I 20)))), some (.int (iI late)), none]) (st' := []) rfl rfl ?_
      exact fin _ _ _ _ ⟨RP_bad (f := 4) Q0 (by decide) (by decide), XW_bad (f := 4) (by decide) (MXB_rf hX hM) (NB_of wt.1 (fun q => by have q9 : F.length ≤ 40 := q.2.2 (show A 11 (I 20) = 40 ∨ A 11 (I 20) = 39 by omega); omega))⟩
  · refine go_a (pc' := 59) (ls' := [some (.ref h.length), some (.int (iI k)), some (.int (iI (I 20))), some (.int (iI (A 11 (I 20)))), some (.int (iI late)), none]) (st' := [.ref h.length]) rfl rfl ?_
    refine go_a (pc' := 60) (ls' := [some (.ref h.length), some (.int (iI k)), some (.int (iI (I 20))), some (.int (iI (A 11 (I 20)))), some (.int (iI late)), none]) (st' := [.int (iI 3), .ref h.length]) rfl rfl ?_
    refine go_a (pc' := 61) (ls' := [some (.ref h.length), some (.int (iI k)), some (.int (iI (I 20))), some (.int (iI (A 11 (I 20)))), some (.int (iI late)), none]) (st' := [.int (iI (I 20)), .int (iI 3), .ref h.length]) rfl rfl ?_
    refine go_v (m := 72) (as := [.ref h.length, .int (iI 3), .int (iI (I 20))]) (r := []) rfl rfl rfl mh_o rfl rfl (mm_bad z (d + 7) 3 (I 20) h R (su I 20 (I 20 + 1)) A N hc (show 0 ≤ I 21 by omega) (show I 21 ≤ 5 by omega)) (fun v h1 hq => ?_)
    obtain ⟨rfl, hq⟩ := hq
    rcases hq with ⟨hq, -⟩ | ⟨-, rfl⟩
    · exact absurd h21 hq
    refine go_a (pc' := 375) (ls' := [some (.ref h.length), some (.int (iI k)), some (.int (iI (I 20))), some (.int (iI (A 11 (I 20)))), some (.int (iI late)), none]) (st' := []) rfl rfl ?_
    exact fin _ _ _ _ ⟨RP_bad (f := 3) Q0 (by decide) (by decide), XW_bad (f := 3) (by decide) (MXB_rf hX hM) (NB_of wt.1 (fun q => by have q9 : sp_may (A 11 (I 20)) (sp_top F) := q.1; have my := mt (MY_3 hF).mpr (by rcases hb with hb | hb; exact absurd hb.1 (by omega); exact hb.2); omega))⟩
theorem mx_rw_cls (z : Value) (d : Nat) (c2 b2 k c late : Int) (h R : xx_H) (I : Nat → Int) (A : Nat → Int → Int) (N : Int → Int) (hc : 12 ≤ h.length) (hS : MST I A N) (hN : NM I A) (hO : RO I A) (hT : RT I A) (ha : I 20 < I 13) (h21 : I 21 = 0) (hd : I 31 = 1 → I 27 = 0) (s1 : 2 * I 10 ≤ I 20 + c + 1) (s2 : atc (A 11 (I 20)) → 2 * I 10 ≤ I 20 + c) (ho : I 7 + I 29 + 2 * I 27 + 2 ≤ 140000) (hs : I 10 < 4990) (hi : I 29 < 1099) (k0 : 0 < k) (k1 : k ≤ 5000) (z1 : 2 * I 10 ≤ NZ (A 11) (I 20).toNat + c2 + 1) (z2 : atc (A 11 (I 20)) → 2 * I 10 ≤ NZ (A 11) (I 20).toNat + c2) (z3 : 2 * (I 7 - RPT I A) ≤ NZ (A 11) (I 20).toNat + b2 + 1) (z4 : atc (A 11 (I 20)) → 2 * (I 7 - RPT I A) ≤ NZ (A 11) (I 20).toNat + b2) (hX : MX I A N) (hM : MNM A N) (F : sp_F) (hF : RRm I A N F (I 27) (I 29)) (wf : WFr F) (ws : WFs F) (hl : (late = 1 ∧ 1000 < k) ∨ (late = 0 ∧ k ≤ 1000)) : A 11 (I 20) = 41 → xx_go (xt_P z) (d + 8) 80 123 [some (.ref h.length), some (.int (iI k)), some (.int (iI (I 20))), some (.int (iI (A 11 (I 20)))), some (.int (iI late)), none] [] (mh h R (su I 20 (I 20 + 1)) A N) (fun v h1 => v = none ∧ ∃ (I1 : Nat → Int) (A1 : Nat → Int → Int) (N1 : Int → Int), h1 = mh h R I1 A1 N1 ∧ (RP c2 b2 k c I A N I1 A1 N1 ∧ XW k I A N I1 A1 N1 F)) := by
  have hP := MST_PW hS
  have t := hT.1
  have Q0 := RQ_at (c := c) hS hO hT ha s1
  have r := hT.2.1 (I 20)
  have o1 := hO.1
  have o2 := hO.2.1
  have o4 := hO.2.2.2.1
  have d31 := hO.2.2.2.2.2.1
  have ln := RRm_len F _ _ hF
  have fin : ∀ (I1 : Nat → Int) (A1 : Nat → Int → Int) (N1 : Int → Int) (y : Option Value), (RP c2 b2 k c I A N I1 A1 N1 ∧ XW k I A N I1 A1 N1 F) → xx_go (xt_P z) (d + 8) 80 375 [some (.ref h.length), some (.int (iI k)), some (.int (iI (I 20))), some (.int (iI (A 11 (I 20)))), some (.int (iI late)), y] [] (mh h R I1 A1 N1) (fun v h1 => v = none ∧ ∃ (I1 : Nat → Int) (A1 : Nat → Int → Int) (N1 : Int → Int), h1 = mh h R I1 A1 N1 ∧ (RP c2 b2 k c I A N I1 A1 N1 ∧ XW k I A N I1 A1 N1 F)) := fun I1 A1 N1 y q => go_r rfl rfl rfl rfl rfl rfl ⟨rfl, I1, A1, N1, rfl, q⟩
  intro hcc
  have wt := sp_wt_d (f := A 11) (n := I 13) (p := I 20) (by omega)
  refine go_a (pc' := 124) (ls' := [some (.ref h.length), some (.int (iI k)), some (.int (iI (I 20))), some (.int (iI (A 11 (I 20)))), some (.int (iI late)), none]) (st' := [.ref h.length]) rfl rfl ?_
  refine go_v (m := 83) (as := [.ref h.length]) (r := []) rfl rfl rfl mh_o rfl rfl (mm_isInList z (d + 7) h R (su I 20 (I 20 + 1)) A N hc o1.1 o1.2 (fun k k0 k1 => (o4 k k0 k1).1)) (fun v h1 hq => ?_)
  obtain ⟨⟨b, rfl, hb⟩, rfl⟩ := hq
  show xx_go (xt_P z) (d + 8) 80 127 [some (.ref h.length), some (.int (iI k)), some (.int (iI (I 20))), some (.int (iI (A 11 (I 20)))), some (.int (iI late)), none] [.int (iI b)] (mh h R (su I 20 (I 20 + 1)) A N) _
  refine mi_eq0 (t := 145) rfl rfl (by omega) (by omega) (fun q1 => ?_) (fun q1 => ?_)
  · refine go_a (pc' := 146) (ls' := [some (.ref h.length), some (.int (iI k)), some (.int (iI (I 20))), some (.int (iI (A 11 (I 20)))), some (.int (iI late)), none]) (st' := [.ref h.length]) rfl rfl ?_
    refine go_a (pc' := 147) (ls' := [some (.ref h.length), some (.int (iI k)), some (.int (iI (I 20))), some (.int (iI (A 11 (I 20)))), some (.int (iI late)), none]) (st' := [.int (iI 3), .ref h.length]) rfl rfl ?_
    refine go_a (pc' := 148) (ls' := [some (.ref h.length), some (.int (iI k)), some (.int (iI (I 20))), some (.int (iI (A 11 (I 20)))), some (.int (iI late)), none]) (st' := [.int (iI (I 20)), .int (iI 3), .ref h.length]) rfl rfl ?_
    refine go_v (m := 72) (as := [.ref h.length, .int (iI 3), .int (iI (I 20))]) (r := []) rfl rfl rfl mh_o rfl rfl (mm_bad z (d + 7) 3 (I 20) h R (su I 20 (I 20 + 1)) A N hc (show 0 ≤ I 21 by omega) (show I 21 ≤ 5 by omega)) (fun v h1 hq => ?_)
    obtain ⟨rfl, hq⟩ := hq
    rcases hq with ⟨hq, -⟩ | ⟨-, rfl⟩
    · exact absurd h21 hq
    refine go_a (pc' := 375) (ls' := [some (.ref h.length), some (.int (iI k)), some (.int (iI (I 20))), some (.int (iI (A 11 (I 20)))), some (.int (iI late)), none]) (st' := []) rfl rfl ?_
    exact fin _ _ _ _ ⟨RP_bad (f := 3) Q0 (by decide) (by decide), XW_bad (f := 3) (by decide) (MXB_rf hX hM) (NB_of wt.1 (fun q => by have q9 : sp_may (A 11 (I 20)) (sp_top F) := q.1; rw [hcc] at q9; have my := (MY_41 hF).mpr q9; rcases hb with hb | hb; exact absurd hb.1 (by omega); exact hb.2 ⟨my.1, my.2.1⟩))⟩
  · have il : 0 < I 27 ∧ A 15 (I 27 - 1) = 0 := by
      rcases hb with hb | hb
      · exact hb.2
      · exact absurd hb.1 q1
    have kk := o4 (I 27 - 1) (by omega) (by omega)
    have d0 : I 31 = 0 := by
      rcases d31 with e | e
      · exact e
      · have := hd e
        omega
    refine go_a (pc' := 131) (ls' := [some (.ref h.length), some (.int (iI k)), some (.int (iI (I 20))), some (.int (iI (A 11 (I 20)))), some (.int (iI late)), none]) (st' := [.ref h.length]) rfl rfl ?_
    refine go_get rfl mh_o rfl rfl ?_
    refine go_a (pc' := 135) (ls' := [some (.ref h.length), some (.int (iI k)), some (.int (iI (I 20))), some (.int (iI (A 11 (I 20)))), some (.int (iI late)), none]) (st' := [.ref h.length, .ref (h.length + 17)]) rfl rfl ?_
    refine go_get (v := .int (iI (I 27))) rfl mh_o rfl rfl ?_
    refine go_a (pc' := 139) (ls' := [some (.ref h.length), some (.int (iI k)), some (.int (iI (I 20))), some (.int (iI (A 11 (I 20)))), some (.int (iI late)), none]) (st' := [.int (iI 1), .int (iI (I 27)), .ref (h.length + 17)]) rfl rfl ?_
    refine mi_sub rfl ?_
    refine mi_ild rfl mh_a17 (by omega) (by omega) (by decide) ?_
    refine go_a (pc' := 142) (ls' := [some (.ref h.length), some (.int (iI k)), some (.int (iI (I 20))), some (.int (iI (A 11 (I 20)))), some (.int (iI late)), none]) (st' := [.int (iI 1), .int (iI (A 17 ((I 27) - 1)))]) rfl rfl ?_
    refine mi_ne (t := 154) rfl rfl (by omega) (by omega) (by omega) (by omega) (fun q2 => ?_) (fun q2 => ?_)
    · refine go_a (pc' := 156) (ls' := [some (.ref h.length), some (.int (iI k)), some (.int (iI (I 20))), some (.int (iI (A 11 (I 20)))), some (.int (iI late)), none]) (st' := [.int (iI late)]) rfl rfl ?_
      refine mi_eq0 (t := 168) rfl rfl (by omega) (by omega) (fun q3 => ?_) (fun q3 => ?_)
      · refine go_a (pc' := 169) (ls' := [some (.ref h.length), some (.int (iI k)), some (.int (iI (I 20))), some (.int (iI (A 11 (I 20)))), some (.int (iI late)), none]) (st' := [.ref h.length]) rfl rfl ?_
        have my := (MY_41 hF).mp ⟨il.1, il.2, by omega⟩
        obtain ⟨kf, lf, ff, rf, eF⟩ := RRm_pos hF il.1
        subst eF
        have my : sp_may 41 kf := my
        have hkf : kf = 3 ∨ kf = 4 ∨ kf = 6 := by omega
        have hF9 : RRm (su I 20 (I 20 + 1)) A N ((kf, lf) :: ff :: rf) (I 27) (I 29) := RRm_ext (I := I) (A := A) (N := N) (I1 := su I 20 (I 20 + 1)) (A1 := A) (N1 := N) rfl (fun _ => ⟨rfl, rfl⟩) _ _ _ (fun _ _ _ => ⟨rfl, rfl, rfl, fun _ => ⟨rfl, rfl⟩⟩) (fun _ _ _ => ⟨rfl, rfl⟩) hF
        refine go_v (m := 84) (as := [.ref h.length]) (r := []) rfl rfl rfl mh_o rfl rfl (mx_close z (d + 1) h R (su I 20 (I 20 + 1)) A N hc hS hN hO (show I 7 + I 29 + 2 * I 27 ≤ 140000 by omega) (show I 29 < 1100 by omega) d0 il.1 (show MX I A N from hX) hM kf lf ff rf hF9 wf ws hkf) (fun v h1 hq => ?_)
        obtain ⟨rfl, I3, A3, rfl, S3, O3, W3, X3, c1, c2, c3, c4, c5, c6, c7, c8, c9, ca, cx, cw⟩ := hq
        show xx_go (xt_P z) (d + 8) 80 172 [some (.ref h.length), some (.int (iI k)), some (.int (iI (I 20))), some (.int (iI (A 11 (I 20)))), some (.int (iI late)), none] [] (mh h R I3 A3 N) _
        refine go_a (pc' := 375) (ls' := [some (.ref h.length), some (.int (iI k)), some (.int (iI (I 20))), some (.int (iI (A 11 (I 20)))), some (.int (iI late)), none]) (st' := []) rfl rfl ?_
        have cp : I3 7 + RPT I A ≤ I 7 + RPT I3 A3 := c1.2
        have c1 : I3 7 + I3 29 + 2 * I3 27 ≤ I 7 + I 29 + 2 * I 27 := c1.1
        have c2 : I3 10 = I 10 := c2
        have c5 : I3 20 = I 20 + 1 := c5
        have c6 : I3 21 = I 21 := c6
        have c3 : I3 13 = I 13 := c3
        have cx : MXP I A N I3 A3 (sp_add (ff :: rf) (sp_cv kf lf)) := cx
        refine fin _ _ _ _ ⟨⟨⟨S3, RX_tr (RX_su (j := 20) (by unfold RF; omega) (by decide)) X3, O3, W3, by omega, c3, by omega, c8, fun e => by rw [c9]; exact hT.2.2 e, by omega, Or.inl (by omega)⟩, by omega, fun _ => ⟨by omega, ca, RB_one (by omega) (by omega) c5 c2 cp z1 z3⟩⟩, XW_ok wf ws (MXB_p cx) wt.1 ⟨(show sp_may (A 11 (I 20)) kf by omega), (show k - 1 < 1000 by omega), fun q => absurd (show A 11 (I 20) = 40 ∨ A 11 (I 20) = 39 from q) (by omega)⟩ (by rw [wt.2]; omega) (by omega) (show sp_acc (A 11 (I 20)) (.num 0) ((kf, lf) :: ff :: rf) = sp_add (ff :: rf) (sp_cv kf lf) by unfold sp_acc; rw [if_neg (by omega), if_neg (by omega), if_neg (by omega), if_pos hcc]; rfl) cx.2.2.2.2.1 cx.2.2.2.2.2⟩
      · refine go_a (pc' := 160) (ls' := [some (.ref h.length), some (.int (iI k)), some (.int (iI (I 20))), some (.int (iI (A 11 (I 20)))), some (.int (iI late)), none]) (st' := [.ref h.length]) rfl rfl ?_
        refine go_a (pc' := 161) (ls' := [some (.ref h.length), some (.int (iI k)), some (.int (iI (I 20))), some (.int (iI (A 11 (I 20)))), some (.int (iI late)), none]) (st' := [.int (iI 5), .ref h.length]) rfl rfl ?_
        refine go_a (pc' := 162) (ls' := [some (.ref h.length), some (.int (iI k)), some (.int (iI (I 20))), some (.int (iI (A 11 (I 20)))), some (.int (iI late)), none]) (st' := [.int (iI (I 20)), .int (iI 5), .ref h.length]) rfl rfl ?_
        refine go_v (m := 72) (as := [.ref h.length, .int (iI 5), .int (iI (I 20))]) (r := []) rfl rfl rfl mh_o rfl rfl (mm_bad z (d + 7) 5 (I 20) h R (su I 20 (I 20 + 1)) A N hc (show 0 ≤ I 21 by omega) (show I 21 ≤ 5 by omega)) (fun v h1 hq => ?_)
        obtain ⟨rfl, hq⟩ := hq
        rcases hq with ⟨hq, -⟩ | ⟨-, rfl⟩
        · exact absurd h21 hq
        refine go_a (pc' := 375) (ls' := [some (.ref h.length), some (.int (iI k)), some (.int (iI (I 20))), some (.int (iI (A 11 (I 20)))), some (.int (iI late)), none]) (st' := []) rfl rfl ?_
        exact fin _ _ _ _ ⟨RP_bad (f := 5) Q0 (by decide) (by decide), XW_bad (f := 5) (by decide) (MXB_rf hX hM) (NB_of wt.1 (fun q => by have q9 : k - 1 < 1000 := q.2.1; omega))⟩
    · refine go_a (pc' := 146) (ls' := [some (.ref h.length), some (.int (iI k)), some (.int (iI (I 20))), some (.int (iI (A 11 (I 20)))), some (.int (iI late)), none]) (st' := [.ref h.length]) rfl rfl ?_
      refine go_a (pc' := 147) (ls' := [some (.ref h.length), some (.int (iI k)), some (.int (iI (I 20))), some (.int (iI (A 11 (I 20)))), some (.int (iI late)), none]) (st' := [.int (iI 3), .ref h.length]) rfl rfl ?_
      refine go_a (pc' := 148) (ls' := [some (.ref h.length), some (.int (iI k)), some (.int (iI (I 20))), some (.int (iI (A 11 (I 20)))), some (.int (iI late)), none]) (st' := [.int (iI (I 20)), .int (iI 3), .ref h.length]) rfl rfl ?_
      refine go_v (m := 72) (as := [.ref h.length, .int (iI 3), .int (iI (I 20))]) (r := []) rfl rfl rfl mh_o rfl rfl (mm_bad z (d + 7) 3 (I 20) h R (su I 20 (I 20 + 1)) A N hc (show 0 ≤ I 21 by omega) (show I 21 ≤ 5 by omega)) (fun v h1 hq => ?_)
      obtain ⟨rfl, hq⟩ := hq
      rcases hq with ⟨hq, -⟩ | ⟨-, rfl⟩
      · exact absurd h21 hq
      refine go_a (pc' := 375) (ls' := [some (.ref h.length), some (.int (iI k)), some (.int (iI (I 20))), some (.int (iI (A 11 (I 20)))), some (.int (iI late)), none]) (st' := []) rfl rfl ?_
      exact fin _ _ _ _ ⟨RP_bad (f := 3) Q0 (by decide) (by decide), XW_bad (f := 3) (by decide) (MXB_rf hX hM) (NB_of wt.1 (fun q => by have q9 : sp_may (A 11 (I 20)) (sp_top F) := q.1; rw [hcc] at q9; have my := (MY_41 hF).mpr q9; omega))⟩
theorem mx_rw_dot (z : Value) (d : Nat) (c2 b2 k c late : Int) (h R : xx_H) (I : Nat → Int) (A : Nat → Int → Int) (N : Int → Int) (hc : 12 ≤ h.length) (hS : MST I A N) (hN : NM I A) (hO : RO I A) (hT : RT I A) (ha : I 20 < I 13) (h21 : I 21 = 0) (hd : I 31 = 1 → I 27 = 0) (s1 : 2 * I 10 ≤ I 20 + c + 1) (s2 : atc (A 11 (I 20)) → 2 * I 10 ≤ I 20 + c) (ho : I 7 + I 29 + 2 * I 27 + 2 ≤ 140000) (hs : I 10 < 4990) (hi : I 29 < 1099) (k0 : 0 < k) (k1 : k ≤ 5000) (z1 : 2 * I 10 ≤ NZ (A 11) (I 20).toNat + c2 + 1) (z2 : atc (A 11 (I 20)) → 2 * I 10 ≤ NZ (A 11) (I 20).toNat + c2) (z3 : 2 * (I 7 - RPT I A) ≤ NZ (A 11) (I 20).toNat + b2 + 1) (z4 : atc (A 11 (I 20)) → 2 * (I 7 - RPT I A) ≤ NZ (A 11) (I 20).toNat + b2) (hX : MX I A N) (hM : MNM A N) (F : sp_F) (hF : RRm I A N F (I 27) (I 29)) (wf : WFr F) (ws : WFs F) (hl : (late = 1 ∧ 1000 < k) ∨ (late = 0 ∧ k ≤ 1000)) : A 11 (I 20) = 46 → xx_go (xt_P z) (d + 8) 80 181 [some (.ref h.length), some (.int (iI k)), some (.int (iI (I 20))), some (.int (iI (A 11 (I 20)))), some (.int (iI late)), none] [] (mh h R (su I 20 (I 20 + 1)) A N) (fun v h1 => v = none ∧ ∃ (I1 : Nat → Int) (A1 : Nat → Int → Int) (N1 : Int → Int), h1 = mh h R I1 A1 N1 ∧ (RP c2 b2 k c I A N I1 A1 N1 ∧ XW k I A N I1 A1 N1 F)) := by
  have hP := MST_PW hS
  have t := hT.1
  have Q0 := RQ_at (c := c) hS hO hT ha s1
  have r := hT.2.1 (I 20)
  have o1 := hO.1
  have o2 := hO.2.1
  have o4 := hO.2.2.2.1
  have d31 := hO.2.2.2.2.2.1
  have ln := RRm_len F _ _ hF
  have fin : ∀ (I1 : Nat → Int) (A1 : Nat → Int → Int) (N1 : Int → Int) (y : Option Value), (RP c2 b2 k c I A N I1 A1 N1 ∧ XW k I A N I1 A1 N1 F) → xx_go (xt_P z) (d + 8) 80 375 [some (.ref h.length), some (.int (iI k)), some (.int (iI (I 20))), some (.int (iI (A 11 (I 20)))), some (.int (iI late)), y] [] (mh h R I1 A1 N1) (fun v h1 => v = none ∧ ∃ (I1 : Nat → Int) (A1 : Nat → Int → Int) (N1 : Int → Int), h1 = mh h R I1 A1 N1 ∧ (RP c2 b2 k c I A N I1 A1 N1 ∧ XW k I A N I1 A1 N1 F)) := fun I1 A1 N1 y q => go_r rfl rfl rfl rfl rfl rfl ⟨rfl, I1, A1, N1, rfl, q⟩
  intro hcc
  have wt := sp_wt_d (f := A 11) (n := I 13) (p := I 20) (by omega)
  have bd : ¬ sp_may 46 (sp_top F) → xx_go (xt_P z) (d + 8) 80 220 [some (.ref h.length), some (.int (iI k)), some (.int (iI (I 20))), some (.int (iI (A 11 (I 20)))), some (.int (iI late)), none] [] (mh h R (su I 20 (I 20 + 1)) A N) (fun v h1 => v = none ∧ ∃ (I1 : Nat → Int) (A1 : Nat → Int → Int) (N1 : Int → Int), h1 = mh h R I1 A1 N1 ∧ (RP c2 b2 k c I A N I1 A1 N1 ∧ XW k I A N I1 A1 N1 F)) := by
    intro nm
    refine go_a (pc' := 221) (ls' := [some (.ref h.length), some (.int (iI k)), some (.int (iI (I 20))), some (.int (iI (A 11 (I 20)))), some (.int (iI late)), none]) (st' := [.ref h.length]) rfl rfl ?_
    refine go_a (pc' := 222) (ls' := [some (.ref h.length), some (.int (iI k)), some (.int (iI (I 20))), some (.int (iI (A 11 (I 20)))), some (.int (iI late)), none]) (st' := [.int (iI 3), .ref h.length]) rfl rfl ?_
    refine go_a (pc' := 223) (ls' := [some (.ref h.length), some (.int (iI k)), some (.int (iI (I 20))), some (.int (iI (A 11 (I 20)))), some (.int (iI late)), none]) (st' := [.int (iI (I 20)), .int (iI 3), .ref h.length]) rfl rfl ?_
    refine go_v (m := 72) (as := [.ref h.length, .int (iI 3), .int (iI (I 20))]) (r := []) rfl rfl rfl mh_o rfl rfl (mm_bad z (d + 7) 3 (I 20) h R (su I 20 (I 20 + 1)) A N hc (show 0 ≤ I 21 by omega) (show I 21 ≤ 5 by omega)) (fun v h1 hq => ?_)
    obtain ⟨rfl, hq⟩ := hq
    rcases hq with ⟨hq, -⟩ | ⟨-, rfl⟩
    · exact absurd h21 hq
    refine go_a (pc' := 375) (ls' := [some (.ref h.length), some (.int (iI k)), some (.int (iI (I 20))), some (.int (iI (A 11 (I 20)))), some (.int (iI late)), none]) (st' := []) rfl rfl ?_
    exact fin _ _ _ _ ⟨RP_bad (f := 3) Q0 (by decide) (by decide), XW_bad (f := 3) (by decide) (MXB_rf hX hM) (NB_of wt.1 (fun q => by have q9 : sp_may (A 11 (I 20)) (sp_top F) := q.1; rw [hcc] at q9; exact nm q9))⟩
  refine go_a (pc' := 182) (ls' := [some (.ref h.length), some (.int (iI k)), some (.int (iI (I 20))), some (.int (iI (A 11 (I 20)))), some (.int (iI late)), none]) (st' := [.ref h.length]) rfl rfl ?_
  refine go_v (m := 83) (as := [.ref h.length]) (r := []) rfl rfl rfl mh_o rfl rfl (mm_isInList z (d + 7) h R (su I 20 (I 20 + 1)) A N hc o1.1 o1.2 (fun k k0 k1 => (o4 k k0 k1).1)) (fun v h1 hq => ?_)
  obtain ⟨⟨b, rfl, hb⟩, rfl⟩ := hq
  show xx_go (xt_P z) (d + 8) 80 185 [some (.ref h.length), some (.int (iI k)), some (.int (iI (I 20))), some (.int (iI (A 11 (I 20)))), some (.int (iI late)), none] [.int (iI b)] (mh h R (su I 20 (I 20 + 1)) A N) _
  refine mi_eq0 (t := 220) rfl rfl (by omega) (by omega) (fun q1 => bd (fun q9 => by have my := (MY_46 hF wf).mpr q9; rcases hb with hb | hb; exact absurd hb.1 (by omega); exact hb.2 ⟨my.1, my.2.1⟩)) (fun q1 => ?_)
  have il : 0 < I 27 ∧ A 15 (I 27 - 1) = 0 := by
    rcases hb with hb | hb
    · exact hb.2
    · exact absurd hb.1 q1
  have kk := o4 (I 27 - 1) (by omega) (by omega)
  refine go_a (pc' := 189) (ls' := [some (.ref h.length), some (.int (iI k)), some (.int (iI (I 20))), some (.int (iI (A 11 (I 20)))), some (.int (iI late)), none]) (st' := [.ref h.length]) rfl rfl ?_
  refine go_get rfl mh_o rfl rfl ?_
  refine go_a (pc' := 193) (ls' := [some (.ref h.length), some (.int (iI k)), some (.int (iI (I 20))), some (.int (iI (A 11 (I 20)))), some (.int (iI late)), none]) (st' := [.ref h.length, .ref (h.length + 17)]) rfl rfl ?_
  refine go_get (v := .int (iI (I 27))) rfl mh_o rfl rfl ?_
  refine go_a (pc' := 197) (ls' := [some (.ref h.length), some (.int (iI k)), some (.int (iI (I 20))), some (.int (iI (A 11 (I 20)))), some (.int (iI late)), none]) (st' := [.int (iI 1), .int (iI (I 27)), .ref (h.length + 17)]) rfl rfl ?_
  refine mi_sub rfl ?_
  refine mi_ild rfl mh_a17 (by omega) (by omega) (by decide) ?_
  refine mi_ne0 (t := 220) rfl rfl (by omega) (by omega) (fun q2 => bd (fun q9 => by have my := (MY_46 hF wf).mpr q9; omega)) (fun q2 => ?_)
  refine go_a (pc' := 203) (ls' := [some (.ref h.length), some (.int (iI k)), some (.int (iI (I 20))), some (.int (iI (A 11 (I 20)))), some (.int (iI late)), none]) (st' := [.ref h.length]) rfl rfl ?_
  refine go_get (v := .int (iI (I 29))) rfl mh_o rfl rfl ?_
  refine go_a (pc' := 207) (ls' := [some (.ref h.length), some (.int (iI k)), some (.int (iI (I 20))), some (.int (iI (A 11 (I 20)))), some (.int (iI late)), none]) (st' := [.ref h.length, .int (iI (I 29))]) rfl rfl ?_
  refine go_get rfl mh_o rfl rfl ?_
  refine go_a (pc' := 211) (ls' := [some (.ref h.length), some (.int (iI k)), some (.int (iI (I 20))), some (.int (iI (A 11 (I 20)))), some (.int (iI late)), none]) (st' := [.ref h.length, .ref (h.length + 16), .int (iI (I 29))]) rfl rfl ?_
  refine go_get (v := .int (iI (I 27))) rfl mh_o rfl rfl ?_
  refine go_a (pc' := 215) (ls' := [some (.ref h.length), some (.int (iI k)), some (.int (iI (I 20))), some (.int (iI (A 11 (I 20)))), some (.int (iI late)), none]) (st' := [.int (iI 1), .int (iI (I 27)), .ref (h.length + 16), .int (iI (I 29))]) rfl rfl ?_
  refine mi_sub rfl ?_
  refine mi_ild rfl mh_a16 (by omega) (by omega) (by decide) ?_
  refine mi_ne (t := 229) rfl rfl (by omega) (by omega) (by omega) (by omega) (fun q3 => ?_) (fun q3 => bd (fun q9 => by have my := (MY_46 hF wf).mpr q9; omega))
  refine go_a (pc' := 231) (ls' := [some (.ref h.length), some (.int (iI k)), some (.int (iI (I 20))), some (.int (iI (A 11 (I 20)))), some (.int (iI late)), none]) (st' := [.int (iI late)]) rfl rfl ?_
  refine mi_eq0 (t := 243) rfl rfl (by omega) (by omega) (fun q4 => ?_) (fun q4 => ?_)
  · refine go_a (pc' := 244) (ls' := [some (.ref h.length), some (.int (iI k)), some (.int (iI (I 20))), some (.int (iI (A 11 (I 20)))), some (.int (iI late)), none]) (st' := [.ref h.length]) rfl rfl ?_
    refine go_get rfl mh_o rfl rfl ?_
    refine go_a (pc' := 248) (ls' := [some (.ref h.length), some (.int (iI k)), some (.int (iI (I 20))), some (.int (iI (A 11 (I 20)))), some (.int (iI late)), none]) (st' := [.ref h.length, .ref (h.length + 17)]) rfl rfl ?_
    refine go_get (v := .int (iI (I 27))) rfl mh_o rfl rfl ?_
    refine go_a (pc' := 252) (ls' := [some (.ref h.length), some (.int (iI k)), some (.int (iI (I 20))), some (.int (iI (A 11 (I 20)))), some (.int (iI late)), none]) (st' := [.int (iI 1), .int (iI (I 27)), .ref (h.length + 17)]) rfl rfl ?_
    refine mi_sub rfl ?_
    refine go_a (pc' := 254) (ls' := [some (.ref h.length), some (.int (iI k)), some (.int (iI (I 20))), some (.int (iI (A 11 (I 20)))), some (.int (iI late)), none]) (st' := [.int (iI 1), .int (iI ((I 27) - 1)), .ref (h.length + 17)]) rfl rfl ?_
    refine mi_ist rfl mh_a17 (show 12 ≤ _ by omega) (by omega) (by omega) (by decide) ?_
    rw [mh_w17 (by omega)]
    refine go_a (pc' := 375) (ls' := [some (.ref h.length), some (.int (iI k)), some (.int (iI (I 20))), some (.int (iI (A 11 (I 20)))), some (.int (iI late)), none]) (st' := []) rfl rfl ?_
    have h0 : A 17 (I 27 - 1) = 0 := by omega
    have D := RO_dot (x := I 20 + 1) hO il.1 h0
    have my := (MY_46 hF wf).mp ⟨il.1, il.2, by omega, by omega⟩
    have md := MD_dot (x := I 20 + 1) hX hM hF wf (by omega) il.1
    refine fin _ _ _ _ ⟨⟨⟨hS, RX_tr (RX_su (j := 20) (by unfold RF; omega) (by decide)) (RX_sa (a := 17) (by unfold RG; omega) (by decide) (by decide) (by decide)), D.1, D.2, Q0.2.2.2.2.1, rfl, Q0.2.2.2.2.2.2.1, rfl, hT.2.2, Q0.2.2.2.2.2.2.2.2.2⟩, ⟨(show 0 ≤ I 21 by omega), (show I 21 ≤ 5 by omega)⟩, fun _ => ⟨by omega, hd, RB_one (by omega) (by omega) rfl rfl (show I 7 + RPT I A ≤ I 7 + _ by rw [RPT_dot il.1 h0]; exact Int.le_refl _) z1 z3⟩⟩, XW_ok wf ws (MXB_p md) wt.1 ⟨(show sp_may (A 11 (I 20)) (sp_top F) by omega), (show k - 1 < 1000 by omega), fun q => absurd (show A 11 (I 20) = 40 ∨ A 11 (I 20) = 39 from q) (by omega)⟩ wt.2.symm h21 (show sp_acc (A 11 (I 20)) (.num 0) F = sp_dot F by unfold sp_acc; rw [if_neg (by omega), if_neg (by omega), if_pos hcc]) md.2.2.2.2.1 md.2.2.2.2.2⟩
  · refine go_a (pc' := 235) (ls' := [some (.ref h.length), some (.int (iI k)), some (.int (iI (I 20))), some (.int (iI (A 11 (I 20)))), some (.int (iI late)), none]) (st' := [.ref h.length]) rfl rfl ?_
    refine go_a (pc' := 236) (ls' := [some (.ref h.length), some (.int (iI k)), some (.int (iI (I 20))), some (.int (iI (A 11 (I 20)))), some (.int (iI late)), none]) (st' := [.int (iI 5), .ref h.length]) rfl rfl ?_
    refine go_a (pc' := 237) (ls' := [some (.ref h.length), some (.int (iI k)), some (.int (iI (I 20))), some (.int (iI (A 11 (I 20)))), some (.int (iI late)), none]) (st' := [.int (iI (I 20)), .int (iI 5), .ref h.length]) rfl rfl ?_
    refine go_v (m := 72) (as := [.ref h.length, .int (iI 5), .int (iI (I 20))]) (r := []) rfl rfl rfl mh_o rfl rfl (mm_bad z (d + 7) 5 (I 20) h R (su I 20 (I 20 + 1)) A N hc (show 0 ≤ I 21 by omega) (show I 21 ≤ 5 by omega)) (fun v h1 hq => ?_)
    obtain ⟨rfl, hq⟩ := hq
    rcases hq with ⟨hq, -⟩ | ⟨-, rfl⟩
    · exact absurd h21 hq
    refine go_a (pc' := 375) (ls' := [some (.ref h.length), some (.int (iI k)), some (.int (iI (I 20))), some (.int (iI (A 11 (I 20)))), some (.int (iI late)), none]) (st' := []) rfl rfl ?_
    exact fin _ _ _ _ ⟨RP_bad (f := 5) Q0 (by decide) (by decide), XW_bad (f := 5) (by decide) (MXB_rf hX hM) (NB_of wt.1 (fun q => by have q9 : k - 1 < 1000 := q.2.1; omega))⟩
theorem mx_rw_atm (z : Value) (d : Nat) (c2 b2 k c late : Int) (h R : xx_H) (I : Nat → Int) (A : Nat → Int → Int) (N : Int → Int) (hc : 12 ≤ h.length) (hS : MST I A N) (hN : NM I A) (hO : RO I A) (hT : RT I A) (ha : I 20 < I 13) (h21 : I 21 = 0) (hd : I 31 = 1 → I 27 = 0) (s1 : 2 * I 10 ≤ I 20 + c + 1) (s2 : atc (A 11 (I 20)) → 2 * I 10 ≤ I 20 + c) (ho : I 7 + I 29 + 2 * I 27 + 2 ≤ 140000) (hs : I 10 < 4990) (hi : I 29 < 1099) (k0 : 0 < k) (k1 : k ≤ 5000) (z1 : 2 * I 10 ≤ NZ (A 11) (I 20).toNat + c2 + 1) (z2 : atc (A 11 (I 20)) → 2 * I 10 ≤ NZ (A 11) (I 20).toNat + c2) (z3 : 2 * (I 7 - RPT I A) ≤ NZ (A 11) (I 20).toNat + b2 + 1) (z4 : atc (A 11 (I 20)) → 2 * (I 7 - RPT I A) ≤ NZ (A 11) (I 20).toNat + b2) (hX : MX I A N) (hM : MNM A N) (F : sp_F) (hF : RRm I A N F (I 27) (I 29)) (wf : WFr F) (ws : WFs F) (hl : (late = 1 ∧ 1000 < k) ∨ (late = 0 ∧ k ≤ 1000)) : atc (A 11 (I 20)) → ∀ (n : Nat) (p : Int), (I 13 - p).toNat ≤ n → I 20 < p → p ≤ I 13 → (∀ e : Int, I 20 ≤ e → e < p → atc (A 11 e)) → xx_go (xt_P z) (d + 8) 80 274 [some (.ref h.length), some (.int (iI k)), some (.int (iI (I 20))), some (.int (iI (A 11 (I 20)))), some (.int (iI late)), none] [] (mh h R (su I 20 p) A N) (fun v h1 => v = none ∧ ∃ (I1 : Nat → Int) (A1 : Nat → Int → Int) (N1 : Int → Int), h1 = mh h R I1 A1 N1 ∧ (RP c2 b2 k c I A N I1 A1 N1 ∧ XW k I A N I1 A1 N1 F)) := by
  have hP := MST_PW hS
  have t := hT.1
  have Q0 := RQ_at (c := c) hS hO hT ha s1
  have r := hT.2.1 (I 20)
  have o1 := hO.1
  have o2 := hO.2.1
  have o4 := hO.2.2.2.1
  have d31 := hO.2.2.2.2.2.1
  have ln := RRm_len F _ _ hF
  have fin : ∀ (I1 : Nat → Int) (A1 : Nat → Int → Int) (N1 : Int → Int) (y : Option Value), (RP c2 b2 k c I A N I1 A1 N1 ∧ XW k I A N I1 A1 N1 F) → xx_go (xt_P z) (d + 8) 80 375 [some (.ref h.length), some (.int (iI k)), some (.int (iI (I 20))), some (.int (iI (A 11 (I 20)))), some (.int (iI late)), y] [] (mh h R I1 A1 N1) (fun v h1 => v = none ∧ ∃ (I1 : Nat → Int) (A1 : Nat → Int → Int) (N1 : Int → Int), h1 = mh h R I1 A1 N1 ∧ (RP c2 b2 k c I A N I1 A1 N1 ∧ XW k I A N I1 A1 N1 F)) := fun I1 A1 N1 y q => go_r rfl rfl rfl rfl rfl rfl ⟨rfl, I1, A1, N1, rfl, q⟩
  intro hat n
  have s3 := s2 hat
  have done : ∀ p : Int, I 20 < p → p ≤ I 13 → (∀ e : Int, I 20 ≤ e → e < p → atc (A 11 e)) → (p = I 13 ∨ ¬ atc (A 11 p)) → xx_go (xt_P z) (d + 8) 80 313 [some (.ref h.length), some (.int (iI k)), some (.int (iI (I 20))), some (.int (iI (A 11 (I 20)))), some (.int (iI late)), none] [] (mh h R (su I 20 p) A N) (fun v h1 => v = none ∧ ∃ (I1 : Nat → Int) (A1 : Nat → Int → Int) (N1 : Int → Int), h1 = mh h R I1 A1 N1 ∧ (RP c2 b2 k c I A N I1 A1 N1 ∧ XW k I A N I1 A1 N1 F)) := by
    intro p p0 p1 pa pe
    have wt := sp_wt_a (n := I 13) hT.2.1 p0 p1 pa pe
    refine go_a (pc' := 314) (ls' := [some (.ref h.length), some (.int (iI k)), some (.int (iI (I 20))), some (.int (iI (A 11 (I 20)))), some (.int (iI late)), none]) (st' := [.ref h.length]) rfl rfl ?_
    refine go_a (pc' := 315) (ls' := [some (.ref h.length), some (.int (iI k)), some (.int (iI (I 20))), some (.int (iI (A 11 (I 20)))), some (.int (iI late)), none]) (st' := [.int (iI (I 20)), .ref h.length]) rfl rfl ?_
    refine go_a (pc' := 316) (ls' := [some (.ref h.length), some (.int (iI k)), some (.int (iI (I 20))), some (.int (iI (A 11 (I 20)))), some (.int (iI late)), none]) (st' := [.ref h.length, .int (iI (I 20)), .ref h.length]) rfl rfl ?_
    refine go_get (v := .int (iI p)) rfl mh_o rfl rfl ?_
    refine go_v (m := 92) (as := [.ref h.length, .int (iI (I 20)), .int (iI p)]) (r := []) rfl rfl rfl mh_o rfl rfl (mx_atom z (d + 4) (I 20) p h R (su I 20 p) A N hc (show MX I A N from hX) (show I 7 < 140000 by omega) hs (by omega) (by omega) (by omega) hT.2.1 (fun e e0 e1 => pa e e0 e1) hT.2.2) (fun v h1 hq => ?_)
    obtain ⟨v, I1, A1, N1, rfl, rfl, hv⟩ := hq
    rcases hv with ⟨rfl, rfl, eA, eN, na⟩ | ⟨v0, v1, va, v7, v10, sa9, hh9, x, gg, GG, rg⟩
    · rw [eA, eN]
      have Q1 : RQ c I A N (su I 20 p) A N := ⟨hS, RX_su (j := 20) (by unfold RF; omega) (by decide), hO, (show RW I A ≤ _ by omega), (show I 7 + I 29 + 2 * I 27 ≤ I 7 + I 29 + 2 * I 27 + 2 by omega), rfl, ⟨p0, p1⟩, rfl, hT.2.2, (show 2 * I 10 ≤ p + c + 1 by omega), Or.inl (show 2 * I 10 ≤ p + c by omega)⟩
      show xx_go (xt_P z) (d + 8) 80 322 [some (.ref h.length), some (.int (iI k)), some (.int (iI (I 20))), some (.int (iI (A 11 (I 20)))), some (.int (iI late)), none] [.int (iI ((-1)))] (mh h R (su I 20 p) A N) _
      refine go_a (pc' := 324) (ls' := [some (.ref h.length), some (.int (iI k)), some (.int (iI (I 20))), some (.int (iI (A 11 (I 20)))), some (.int (iI late)), some (.int (iI ((-1))))]) (st' := []) rfl rfl ?_
      refine go_a (pc' := 326) (ls' := [some (.ref h.length), some (.int (iI k)), some (.int (iI (I 20))), some (.int (iI (A 11 (I 20)))), some (.int (iI late)), some (.int (iI ((-1))))]) (st' := [.int (iI ((-1)))]) rfl rfl ?_
      refine go_a (pc' := 327) (ls' := [some (.ref h.length), some (.int (iI k)), some (.int (iI (I 20))), some (.int (iI (A 11 (I 20)))), some (.int (iI late)), some (.int (iI ((-1))))]) (st' := [.int (iI ((-1))), .int (iI ((-1)))]) rfl rfl ?_
      refine mi_ne (t := 339) rfl rfl (by omega) (by omega) (by omega) (by omega) (fun q => absurd rfl q) (fun _ => ?_)
      refine go_a (pc' := 331) (ls' := [some (.ref h.length), some (.int (iI k)), some (.int (iI (I 20))), some (.int (iI (A 11 (I 20)))), some (.int (iI late)), some (.int (iI ((-1))))]) (st' := [.ref h.length]) rfl rfl ?_
      refine go_a (pc' := 332) (ls' := [some (.ref h.length), some (.int (iI k)), some (.int (iI (I 20))), some (.int (iI (A 11 (I 20)))), some (.int (iI late)), some (.int (iI ((-1))))]) (st' := [.int (iI 2), .ref h.length]) rfl rfl ?_
      refine go_a (pc' := 333) (ls' := [some (.ref h.length), some (.int (iI k)), some (.int (iI (I 20))), some (.int (iI (A 11 (I 20)))), some (.int (iI late)), some (.int (iI ((-1))))]) (st' := [.int (iI (I 20)), .int (iI 2), .ref h.length]) rfl rfl ?_
      refine go_v (m := 72) (as := [.ref h.length, .int (iI 2), .int (iI (I 20))]) (r := []) rfl rfl rfl mh_o rfl rfl (mm_bad z (d + 7) 2 (I 20) h R (su I 20 p) A N hc (show 0 ≤ I 21 by omega) (show I 21 ≤ 5 by omega)) (fun v h1 hq => ?_)
      obtain ⟨rfl, hq⟩ := hq
      rcases hq with ⟨hq, -⟩ | ⟨-, rfl⟩
      · exact absurd h21 hq
      refine go_a (pc' := 375) (ls' := [some (.ref h.length), some (.int (iI k)), some (.int (iI (I 20))), some (.int (iI (A 11 (I 20)))), some (.int (iI late)), some (.int (iI ((-1))))]) (st' := []) rfl rfl ?_
      exact fin _ _ _ _ ⟨RP_bad (f := 2) Q1 (by decide) (by decide), XW_bad (f := 2) (by decide) (MXB_rf hX hM) (NB_no (by rw [wt.1, na]; rfl))⟩
    · have X := GG.2.1
      have hX0 : MX (su (su I 20 p) 17 x) (sw A 13 gg) N := hX
      have M1 : MNM A1 N1 := MNM_g (show MNM (sw A 13 gg) N from hM) hX0 GG (show 2 < I 7 by have := hN.1; omega)
      have wt1 : sp_wt (A 11) (I 13) (I 20) = some (3, DM A1 N1 v) := by rw [wt.1, show sp_at (A 11) (I 20) (p - I 20).toNat = some (DM A1 N1 v) from sa9]; rfl
      have mb1 : MXB I A N I1 A1 N1 := ⟨GX_M GG, M1, GG.2.2, hh9⟩
      have e21 : I1 21 = 0 := (X.2.2.2.1 21 (by decide) (by decide)).trans h21
      have f27 : I1 27 = I 27 := X.2.2.2.1 27 (by decide) (by decide)
      have f29 : I1 29 = I 29 := X.2.2.2.1 29 (by decide) (by decide)
      have f31 : I1 31 = I 31 := X.2.2.2.1 31 (by decide) (by decide)
      have f20 : I1 20 = p := X.2.2.2.1 20 (by decide) (by decide)
      have f13 : I1 13 = I 13 := X.2.2.2.1 13 (by decide) (by decide)
      have x2 : I 7 ≤ I1 7 := X.2.1
      have hP0 : PW (su (su I 20 p) 17 x) (sw A 13 gg) := hP
      have hO0 : RO (su (su I 20 p) 17 x) (sw A 13 gg) := hO
      have O1 := RO_EX hP0 X hO0
      have eR : RW I1 A1 = RW I A := by
        rw [O1.2]
        have eW : WD (sw A 13 gg) = WD A := WD_12 rfl rfl
        unfold RW
        rw [SW_12 eW, eW, OW_congr (A := A) (A1 := sw A 13 gg) _ (fun e he => ⟨rfl, fun _ => by rw [eW]; rfl⟩)]
        rfl
      have a11 : A1 11 = A 11 := X.2.2.2.2.1 11 (by decide) (by decide) (by decide) (by decide) (by decide) (by decide) (by decide) (by decide)
      have a13 : A1 13 = gg := X.2.2.2.2.1 13 (by decide) (by decide) (by decide) (by decide) (by decide) (by decide) (by decide) (by decide)
      have X0 : RX I A N I1 A1 N1 := RX_tr (RX_su (j := 20) (by unfold RF; omega) (by decide)) (RX_tr (RX_su (j := 17) (by unfold RF; omega) (by decide)) (RX_tr (RX_sw (a := 13) (by unfold RG; omega) (by decide) (by decide) (by decide)) (RX_EX X)))
      have v7 : I1 7 ≤ I 7 + 1 := v7
      have v10 : I1 10 ≤ I 10 + 1 := v10
      have Q1 : RQ c I A N I1 A1 N1 := ⟨X.1, X0, O1.1, by omega, by omega, f13, by omega, a11, fun e => by rw [a13]; exact rg e, by omega, Or.inr (by rw [f20]; exact pe)⟩
      have N1M : NM I1 A1 := ⟨by have := hN.1; omega, fun k k0 k1 => by rw [(X.2.2.1 k k0 (by have := hN.1; show k < I 7; omega)).1]; exact hN.2 k k0 k1⟩
      have hF0 : RRm (su (su I 20 p) 17 x) (sw A 13 gg) N F (I 27) (I 29) := RRm_ext (I := I) (A := A) (N := N) (I1 := su (su I 20 p) 17 x) (A1 := sw A 13 gg) (N1 := N) rfl (fun _ => ⟨rfl, rfl⟩) _ _ _ (fun _ _ _ => ⟨rfl, rfl, rfl, fun _ => ⟨rfl, rfl⟩⟩) (fun _ _ _ => ⟨rfl, rfl⟩) hF
      have hF1 : RRm I1 A1 N1 F (I1 27) (I1 29) := RRm_gx hX0 GG hO0 hF0
      have w1 : WD A1 v = 1 := WD_atom va
      have q4 := O1.1.2.2.2.1
      show xx_go (xt_P z) (d + 8) 80 322 [some (.ref h.length), some (.int (iI k)), some (.int (iI (I 20))), some (.int (iI (A 11 (I 20)))), some (.int (iI late)), none] [.int (iI v)] (mh h R I1 A1 N1) _
      refine go_a (pc' := 324) (ls' := [some (.ref h.length), some (.int (iI k)), some (.int (iI (I 20))), some (.int (iI (A 11 (I 20)))), some (.int (iI late)), some (.int (iI v))]) (st' := []) rfl rfl ?_
      refine go_a (pc' := 326) (ls' := [some (.ref h.length), some (.int (iI k)), some (.int (iI (I 20))), some (.int (iI (A 11 (I 20)))), some (.int (iI late)), some (.int (iI v))]) (st' := [.int (iI v)]) rfl rfl ?_
      refine go_a (pc' := 327) (ls' := [some (.ref h.length), some (.int (iI k)), some (.int (iI (I 20))), some (.int (iI (A 11 (I 20)))), some (.int (iI late)), some (.int (iI v))]) (st' := [.int (iI ((-1))), .int (iI v)]) rfl rfl ?_
      refine mi_ne (t := 339) rfl rfl (by omega) (by omega) (by omega) (by omega) (fun nv => ?_) (fun q => absurd q (by omega))
      refine go_a (pc' := 340) (ls' := [some (.ref h.length), some (.int (iI k)), some (.int (iI (I 20))), some (.int (iI (A 11 (I 20)))), some (.int (iI late)), some (.int (iI v))]) (st' := [.ref h.length]) rfl rfl ?_
      refine go_v (m := 81) (as := [.ref h.length]) (r := []) rfl rfl rfl mh_o rfl rfl (mm_mayBegin z (d + 7) h R I1 A1 N1 hc O1.1.1.1 O1.1.1.2 (fun k k0 k1 => (q4 k k0 k1).1) (fun k k0 k1 => (q4 k k0 k1).2.2.1) O1.1.2.2.2.2.2.1) (fun v h1 hq => ?_)
      obtain ⟨⟨b, rfl, hb⟩, rfl⟩ := hq
      show xx_go (xt_P z) (d + 8) 80 343 [some (.ref h.length), some (.int (iI k)), some (.int (iI (I 20))), some (.int (iI (A 11 (I 20)))), some (.int (iI late)), some (.int (iI v))] [.int (iI b)] (mh h R I1 A1 N1) _
      refine mi_ne0 (t := 355) rfl rfl (by omega) (by omega) (fun q1 => ?_) (fun q1 => ?_)
      · have mb : (I1 27 = 0 ∧ I1 31 = 0) ∨ (0 < I1 27 ∧ (A1 15 (I1 27 - 1) = 1 ∨ A1 17 (I1 27 - 1) < 2)) := by
          rcases hb with hb | hb
          · exact hb.2
          · exact absurd hb.1 q1
        have d0 : I1 31 = 0 := by
          rcases d31 with e | e
          · omega
          · have := hd e
            omega
        refine go_a (pc' := 357) (ls' := [some (.ref h.length), some (.int (iI k)), some (.int (iI (I 20))), some (.int (iI (A 11 (I 20)))), some (.int (iI late)), some (.int (iI v))]) (st' := [.int (iI late)]) rfl rfl ?_
        refine mi_eq0 (t := 369) rfl rfl (by omega) (by omega) (fun q4 => ?_) (fun q4 => ?_)
        · have my := (MY_3 hF1).mp mb
          refine go_a (pc' := 370) (ls' := [some (.ref h.length), some (.int (iI k)), some (.int (iI (I 20))), some (.int (iI (A 11 (I 20)))), some (.int (iI late)), some (.int (iI v))]) (st' := [.ref h.length]) rfl rfl ?_
          refine go_a (pc' := 372) (ls' := [some (.ref h.length), some (.int (iI k)), some (.int (iI (I 20))), some (.int (iI (A 11 (I 20)))), some (.int (iI late)), some (.int (iI v))]) (st' := [.int (iI v), .ref h.length]) rfl rfl ?_
          refine go_v (m := 87) (as := [.ref h.length, .int (iI v)]) (r := []) rfl rfl rfl mh_o rfl rfl (mx_deliver z (d + 3) v h R I1 A1 N1 hc X.1 N1M O1.1 (by omega) (by omega) d0 v0 v1 (GX_M GG) M1 F hF1 wf ws (by omega) (by omega)) (fun v h1 hq => ?_)
          obtain ⟨rfl, I3, A3, rfl, S3, O3, W3, X3, c1, c2, c3, c4, c5, c6, c7, c8, c9, ca, cx, cw⟩ := hq
          show xx_go (xt_P z) (d + 8) 80 375 [some (.ref h.length), some (.int (iI k)), some (.int (iI (I 20))), some (.int (iI (A 11 (I 20)))), some (.int (iI late)), some (.int (iI v))] [] (mh h R I3 A3 N1) _
          have cp := c1.2
          have pv : PT A1 v = 0 := PT_atom va
          have eT : RPT I1 A1 = RPT I A := by
            rw [RPT_EX hP0 X hO0]
            have eP : PT (sw A 13 gg) = PT A := PT_12 rfl rfl
            unfold RPT
            rw [eP, SP_congr (A := A) (f := A 19) (A1 := sw A 13 gg) (f1 := sw A 13 gg 19) _ (fun e he => by rw [eP]; rfl), OP_congr (A := A) (A1 := sw A 13 gg) _ (fun e he => ⟨rfl, rfl, fun _ => by rw [eP]; rfl⟩)]
            rfl
          have k9 : k - 1 < 1000 := by omega
          have e209 : I3 20 = sp_wd (A 11) (I 13) (I 20) := by rw [wt.2]; omega
          have e219 : I3 21 = 0 := by omega
          have xw : XW k I A N I3 A3 N1 F := XW_ok wf ws (MXB_tr x2 mb1 (MXB_p cx)) wt1 ⟨my, k9, fun q => absurd (show (3 : Int) = 40 ∨ (3 : Int) = 39 from q) (by decide)⟩ e209 e219 (show sp_acc 3 (DM A1 N1 v) F = sp_add F (DM A1 N1 v) from rfl) cx.2.2.2.2.1 cx.2.2.2.2.2
          clear my mb1 cx cw wt1 wt e209 hF0 hF1 M1 hX0 ln hM hX hF
          exact fin _ _ _ _ ⟨⟨⟨S3, RX_tr X0 X3, O3, by omega, by omega, by omega, by omega, c8.trans a11, fun e => by rw [c9, a13]; exact rg e, by omega, Or.inr (by rw [c5, f20]; exact pe)⟩, by omega, fun _ => ⟨by omega, ca, RB_atm (by omega) (fun e => by rw [e] at hat; unfold atc at hat; omega) (by omega) (by omega) (by rw [eT, pv] at cp; omega) (z2 hat) (z4 hat) (by rw [c5, f20]; exact pe)⟩⟩, xw⟩
        · refine go_a (pc' := 361) (ls' := [some (.ref h.length), some (.int (iI k)), some (.int (iI (I 20))), some (.int (iI (A 11 (I 20)))), some (.int (iI late)), some (.int (iI v))]) (st' := [.ref h.length]) rfl rfl ?_
          refine go_a (pc' := 362) (ls' := [some (.ref h.length), some (.int (iI k)), some (.int (iI (I 20))), some (.int (iI (A 11 (I 20)))), some (.int (iI late)), some (.int (iI v))]) (st' := [.int (iI 5), .ref h.length]) rfl rfl ?_
          refine go_a (pc' := 363) (ls' := [some (.ref h.length), some (.int (iI k)), some (.int (iI (I 20))), some (.int (iI (A 11 (I 20)))), some (.int (iI late)), some (.int (iI v))]) (st' := [.int (iI (I 20)), .int (iI 5), .ref h.length]) rfl rfl ?_
          refine go_v (m := 72) (as := [.ref h.length, .int (iI 5), .int (iI (I 20))]) (r := []) rfl rfl rfl mh_o rfl rfl (mm_bad z (d + 7) 5 (I 20) h R I1 A1 N1 hc (show 0 ≤ I1 21 by omega) (show I1 21 ≤ 5 by omega)) (fun v h1 hq => ?_)
          obtain ⟨rfl, hq⟩ := hq
          rcases hq with ⟨hq, -⟩ | ⟨-, rfl⟩
          · exact absurd e21 hq
          refine go_a (pc' := 375) (ls' := [some (.ref h.length), some (.int (iI k)), some (.int (iI (I 20))), some (.int (iI (A 11 (I 20)))), some (.int (iI late)), some (.int (iI v))]) (st' := []) rfl rfl ?_
          exact fin _ _ _ _ ⟨RP_bad (f := 5) Q1 (by decide) (by decide), XW_bad (f := 5) (by decide) mb1 (NB_of wt1 (fun q => by have q9 : k - 1 < 1000 := q.2.1; omega))⟩
      · refine go_a (pc' := 347) (ls' := [some (.ref h.length), some (.int (iI k)), some (.int (iI (I 20))), some (.int (iI (A 11 (I 20)))), some (.int (iI late)), some (.int (iI v))]) (st' := [.ref h.length]) rfl rfl ?_
        refine go_a (pc' := 348) (ls' := [some (.ref h.length), some (.int (iI k)), some (.int (iI (I 20))), some (.int (iI (A 11 (I 20)))), some (.int (iI late)), some (.int (iI v))]) (st' := [.int (iI 3), .ref h.length]) rfl rfl ?_
        refine go_a (pc' := 349) (ls' := [some (.ref h.length), some (.int (iI k)), some (.int (iI (I 20))), some (.int (iI (A 11 (I 20)))), some (.int (iI late)), some (.int (iI v))]) (st' := [.int (iI (I 20)), .int (iI 3), .ref h.length]) rfl rfl ?_
        refine go_v (m := 72) (as := [.ref h.length, .int (iI 3), .int (iI (I 20))]) (r := []) rfl rfl rfl mh_o rfl rfl (mm_bad z (d + 7) 3 (I 20) h R I1 A1 N1 hc (show 0 ≤ I1 21 by omega) (show I1 21 ≤ 5 by omega)) (fun v h1 hq => ?_)
        obtain ⟨rfl, hq⟩ := hq
        rcases hq with ⟨hq, -⟩ | ⟨-, rfl⟩
        · exact absurd e21 hq
        refine go_a (pc' := 375) (ls' := [some (.ref h.length), some (.int (iI k)), some (.int (iI (I 20))), some (.int (iI (A 11 (I 20)))), some (.int (iI late)), some (.int (iI v))]) (st' := []) rfl rfl ?_
        exact fin _ _ _ _ ⟨RP_bad (f := 3) Q1 (by decide) (by decide), XW_bad (f := 3) (by decide) mb1 (NB_of wt1 (fun q => by have my := mt (MY_3 hF1).mpr (by rcases hb with hb | hb; exact absurd hb.1 (by omega); exact hb.2); exact my q.1))⟩
  induction n with
  | zero =>
    intro p hn p0 p1 pa
    refine go_a (pc' := 275) (ls' := [some (.ref h.length), some (.int (iI k)), some (.int (iI (I 20))), some (.int (iI (A 11 (I 20)))), some (.int (iI late)), none]) (st' := [.ref h.length]) rfl rfl ?_
    refine go_get (v := .int (iI p)) rfl mh_o rfl rfl ?_
    refine go_a (pc' := 279) (ls' := [some (.ref h.length), some (.int (iI k)), some (.int (iI (I 20))), some (.int (iI (A 11 (I 20)))), some (.int (iI late)), none]) (st' := [.ref h.length, .int (iI p)]) rfl rfl ?_
    refine go_get (v := .int (iI (I 13))) rfl mh_o rfl rfl ?_
    exact mi_ge (t := 313) rfl rfl (by omega) (by omega) (by omega) (by omega) (fun _ => done p p0 p1 pa (Or.inl (by omega))) (fun q => absurd (show I 13 ≤ p by omega) q)
  | succ n ih =>
    intro p hn p0 p1 pa
    have rp := hT.2.1 p
    refine go_a (pc' := 275) (ls' := [some (.ref h.length), some (.int (iI k)), some (.int (iI (I 20))), some (.int (iI (A 11 (I 20)))), some (.int (iI late)), none]) (st' := [.ref h.length]) rfl rfl ?_
    refine go_get (v := .int (iI p)) rfl mh_o rfl rfl ?_
    refine go_a (pc' := 279) (ls' := [some (.ref h.length), some (.int (iI k)), some (.int (iI (I 20))), some (.int (iI (A 11 (I 20)))), some (.int (iI late)), none]) (st' := [.ref h.length, .int (iI p)]) rfl rfl ?_
    refine go_get (v := .int (iI (I 13))) rfl mh_o rfl rfl ?_
    refine mi_ge (t := 313) rfl rfl (by omega) (by omega) (by omega) (by omega) (fun q => done p p0 p1 pa (Or.inl (by omega))) (fun q => ?_)
    refine go_a (pc' := 286) (ls' := [some (.ref h.length), some (.int (iI k)), some (.int (iI (I 20))), some (.int (iI (A 11 (I 20)))), some (.int (iI late)), none]) (st' := [.ref h.length]) rfl rfl ?_
    refine go_get rfl mh_o rfl rfl ?_
    refine go_a (pc' := 290) (ls' := [some (.ref h.length), some (.int (iI k)), some (.int (iI (I 20))), some (.int (iI (A 11 (I 20)))), some (.int (iI late)), none]) (st' := [.ref h.length, .ref (h.length + 11)]) rfl rfl ?_
    refine go_get (v := .int (iI p)) rfl mh_o rfl rfl ?_
    refine mi_ild rfl mh_a11 (by omega) (by omega) (by decide) ?_
    refine go_s (m := 90) (as := [.int (iI (A 11 p))]) (r := []) rfl rfl rfl rfl (mm_isAtom z (d + 6) (A 11 p) _ rp.1 rp.2) (fun v h1 hq => ?_)
    obtain ⟨⟨b, rfl, hb⟩, rfl⟩ := hq
    show xx_go (xt_P z) (d + 8) 80 297 [some (.ref h.length), some (.int (iI k)), some (.int (iI (I 20))), some (.int (iI (A 11 (I 20)))), some (.int (iI late)), none] [.int (iI b)] (mh h R (su I 20 p) A N) _
    refine mi_eq0 (t := 313) rfl rfl (by omega) (by omega) (fun q1 => done p p0 p1 pa (Or.inr (by
      rcases hb with hb | hb
      · omega
      · exact hb.2))) (fun q1 => ?_)
    refine go_a (pc' := 301) (ls' := [some (.ref h.length), some (.int (iI k)), some (.int (iI (I 20))), some (.int (iI (A 11 (I 20)))), some (.int (iI late)), none]) (st' := [.ref h.length]) rfl rfl ?_
    refine go_a (pc' := 302) (ls' := [some (.ref h.length), some (.int (iI k)), some (.int (iI (I 20))), some (.int (iI (A 11 (I 20)))), some (.int (iI late)), none]) (st' := [.ref h.length, .ref h.length]) rfl rfl ?_
    refine go_get (v := .int (iI p)) rfl mh_o rfl rfl ?_
    refine go_a (pc' := 306) (ls' := [some (.ref h.length), some (.int (iI k)), some (.int (iI (I 20))), some (.int (iI (A 11 (I 20)))), some (.int (iI late)), none]) (st' := [.int (iI 1), .int (iI p), .ref h.length]) rfl rfl ?_
    refine mi_add rfl ?_
    refine go_put (j := 20) rfl mh_o rfl rfl (show 12 ≤ _ from hc) (show 20 < 86 by decide) rfl rfl ?_
    rw [mh_p20]
    refine go_a (pc' := 274) (ls' := [some (.ref h.length), some (.int (iI k)), some (.int (iI (I 20))), some (.int (iI (A 11 (I 20)))), some (.int (iI late)), none]) (st' := []) rfl rfl ?_
    rw [su_su]
    refine ih (p + 1) (by omega) (by omega) (by omega) (fun e e0 e1 => ?_)
    by_cases ee : e = p
    · rw [ee]
      rcases hb with hb | hb
      · exact hb.2
      · exact absurd hb.1 q1
    · exact pa e e0 (by omega)
theorem mx_readWord_body (z : Value) (d : Nat) (c2 b2 k c late : Int) (h R : xx_H) (I : Nat → Int) (A : Nat → Int → Int) (N : Int → Int) (hc : 12 ≤ h.length) (hS : MST I A N) (hN : NM I A) (hO : RO I A) (hT : RT I A) (ha : I 20 < I 13) (h21 : I 21 = 0) (hd : I 31 = 1 → I 27 = 0) (s1 : 2 * I 10 ≤ I 20 + c + 1) (s2 : atc (A 11 (I 20)) → 2 * I 10 ≤ I 20 + c) (ho : I 7 + I 29 + 2 * I 27 + 2 ≤ 140000) (hs : I 10 < 4990) (hi : I 29 < 1099) (k0 : 0 < k) (k1 : k ≤ 5000) (z1 : 2 * I 10 ≤ NZ (A 11) (I 20).toNat + c2 + 1) (z2 : atc (A 11 (I 20)) → 2 * I 10 ≤ NZ (A 11) (I 20).toNat + c2) (z3 : 2 * (I 7 - RPT I A) ≤ NZ (A 11) (I 20).toNat + b2 + 1) (z4 : atc (A 11 (I 20)) → 2 * (I 7 - RPT I A) ≤ NZ (A 11) (I 20).toNat + b2) (hX : MX I A N) (hM : MNM A N) (F : sp_F) (hF : RRm I A N F (I 27) (I 29)) (wf : WFr F) (ws : WFs F) (hl : (late = 1 ∧ 1000 < k) ∨ (late = 0 ∧ k ≤ 1000)) : xx_go (xt_P z) (d + 8) 80 39 [some (.ref h.length), some (.int (iI k)), some (.int (iI (I 20))), some (.int (iI (A 11 (I 20)))), some (.int (iI late)), none] [] (mh h R (su I 20 (I 20 + 1)) A N) (fun v h1 => v = none ∧ ∃ (I1 : Nat → Int) (A1 : Nat → Int → Int) (N1 : Int → Int), h1 = mh h R I1 A1 N1 ∧ (RP c2 b2 k c I A N I1 A1 N1 ∧ XW k I A N I1 A1 N1 F)) := by
  have hP := MST_PW hS
  have t := hT.1
  have Q0 := RQ_at (c := c) hS hO hT ha s1
  have r := hT.2.1 (I 20)
  have o1 := hO.1
  have o2 := hO.2.1
  have o4 := hO.2.2.2.1
  have d31 := hO.2.2.2.2.2.1
  have ln := RRm_len F _ _ hF
  have fin : ∀ (I1 : Nat → Int) (A1 : Nat → Int → Int) (N1 : Int → Int) (y : Option Value), (RP c2 b2 k c I A N I1 A1 N1 ∧ XW k I A N I1 A1 N1 F) → xx_go (xt_P z) (d + 8) 80 375 [some (.ref h.length), some (.int (iI k)), some (.int (iI (I 20))), some (.int (iI (A 11 (I 20)))), some (.int (iI late)), y] [] (mh h R I1 A1 N1) (fun v h1 => v = none ∧ ∃ (I1 : Nat → Int) (A1 : Nat → Int → Int) (N1 : Int → Int), h1 = mh h R I1 A1 N1 ∧ (RP c2 b2 k c I A N I1 A1 N1 ∧ XW k I A N I1 A1 N1 F)) := fun I1 A1 N1 y q => go_r rfl rfl rfl rfl rfl rfl ⟨rfl, I1, A1, N1, rfl, q⟩
  have opn := mx_rw_opn z d c2 b2 k c late h R I A N hc hS hN hO hT ha h21 hd s1 s2 ho hs hi k0 k1 z1 z2 z3 z4 hX hM F hF wf ws hl
  have cls := mx_rw_cls z d c2 b2 k c late h R I A N hc hS hN hO hT ha h21 hd s1 s2 ho hs hi k0 k1 z1 z2 z3 z4 hX hM F hF wf ws hl
  have dot := mx_rw_dot z d c2 b2 k c late h R I A N hc hS hN hO hT ha h21 hd s1 s2 ho hs hi k0 k1 z1 z2 z3 z4 hX hM F hF wf ws hl
  have atm := mx_rw_atm z d c2 b2 k c late h R I A N hc hS hN hO hT ha h21 hd s1 s2 ho hs hi k0 k1 z1 z2 z3 z4 hX hM F hF wf ws hl
  refine go_a (pc' := 40) (ls' := [some (.ref h.length), some (.int (iI k)), some (.int (iI (I 20))), some (.int (iI (A 11 (I 20)))), some (.int (iI late)), none]) (st' := [.int (iI (A 11 (I 20)))]) rfl rfl ?_
  refine go_a (pc' := 42) (ls' := [some (.ref h.length), some (.int (iI k)), some (.int (iI (I 20))), some (.int (iI (A 11 (I 20)))), some (.int (iI late)), none]) (st' := [.int (iI 40), .int (iI (A 11 (I 20)))]) rfl rfl ?_
  refine mi_eq (t := 51) rfl rfl (by omega) (by omega) (by omega) (by omega) (fun q => opn (Or.inl q)) (fun q => ?_)
  refine go_a (pc' := 46) (ls' := [some (.ref h.length), some (.int (iI k)), some (.int (iI (I 20))), some (.int (iI (A 11 (I 20)))), some (.int (iI late)), none]) (st' := [.int (iI (A 11 (I 20)))]) rfl rfl ?_
  refine go_a (pc' := 48) (ls' := [some (.ref h.length), some (.int (iI k)), some (.int (iI (I 20))), some (.int (iI (A 11 (I 20)))), some (.int (iI late)), none]) (st' := [.int (iI 39), .int (iI (A 11 (I 20)))]) rfl rfl ?_
  refine mi_ne (t := 117) rfl rfl (by omega) (by omega) (by omega) (by omega) (fun q2 => ?_) (fun q2 => opn (Or.inr (by omega)))
  refine go_a (pc' := 118) (ls' := [some (.ref h.length), some (.int (iI k)), some (.int (iI (I 20))), some (.int (iI (A 11 (I 20)))), some (.int (iI late)), none]) (st' := [.int (iI (A 11 (I 20)))]) rfl rfl ?_
  refine go_a (pc' := 120) (ls' := [some (.ref h.length), some (.int (iI k)), some (.int (iI (I 20))), some (.int (iI (A 11 (I 20)))), some (.int (iI late)), none]) (st' := [.int (iI 41), .int (iI (A 11 (I 20)))]) rfl rfl ?_
  refine mi_ne (t := 175) rfl rfl (by omega) (by omega) (by omega) (by omega) (fun q3 => ?_) (fun q3 => cls (by omega))
  refine go_a (pc' := 176) (ls' := [some (.ref h.length), some (.int (iI k)), some (.int (iI (I 20))), some (.int (iI (A 11 (I 20)))), some (.int (iI late)), none]) (st' := [.int (iI (A 11 (I 20)))]) rfl rfl ?_
  refine go_a (pc' := 178) (ls' := [some (.ref h.length), some (.int (iI k)), some (.int (iI (I 20))), some (.int (iI (A 11 (I 20)))), some (.int (iI late)), none]) (st' := [.int (iI 46), .int (iI (A 11 (I 20)))]) rfl rfl ?_
  refine mi_ne (t := 258) rfl rfl (by omega) (by omega) (by omega) (by omega) (fun q4 => ?_) (fun q4 => dot (by omega))
  refine go_a (pc' := 259) (ls' := [some (.ref h.length), some (.int (iI k)), some (.int (iI (I 20))), some (.int (iI (A 11 (I 20)))), some (.int (iI late)), none]) (st' := [.int (iI (A 11 (I 20)))]) rfl rfl ?_
  refine go_s (m := 90) (as := [.int (iI (A 11 (I 20)))]) (r := []) rfl rfl rfl rfl (mm_isAtom z (d + 6) (A 11 (I 20)) _ r.1 r.2) (fun v h1 hq => ?_)
  obtain ⟨⟨b, rfl, hb⟩, rfl⟩ := hq
  show xx_go (xt_P z) (d + 8) 80 262 [some (.ref h.length), some (.int (iI k)), some (.int (iI (I 20))), some (.int (iI (A 11 (I 20)))), some (.int (iI late)), none] [.int (iI b)] (mh h R (su I 20 (I 20 + 1)) A N) _
  refine mi_ne0 (t := 274) rfl rfl (by omega) (by omega) (fun q5 => ?_) (fun q5 => ?_)
  · have hat : atc (A 11 (I 20)) := by
      rcases hb with hb | hb
      · exact hb.2
      · exact absurd hb.1 q5
    exact atm hat _ (I 20 + 1) (Nat.le_refl _) (by omega) (by omega) (fun e e0 e1 => by rw [show e = I 20 by omega]; exact hat)
  · refine go_a (pc' := 266) (ls' := [some (.ref h.length), some (.int (iI k)), some (.int (iI (I 20))), some (.int (iI (A 11 (I 20)))), some (.int (iI late)), none]) (st' := [.ref h.length]) rfl rfl ?_
    refine go_a (pc' := 267) (ls' := [some (.ref h.length), some (.int (iI k)), some (.int (iI (I 20))), some (.int (iI (A 11 (I 20)))), some (.int (iI late)), none]) (st' := [.int (iI 1), .ref h.length]) rfl rfl ?_
    refine go_a (pc' := 268) (ls' := [some (.ref h.length), some (.int (iI k)), some (.int (iI (I 20))), some (.int (iI (A 11 (I 20)))), some (.int (iI late)), none]) (st' := [.int (iI (I 20)), .int (iI 1), .ref h.length]) rfl rfl ?_
    refine go_v (m := 72) (as := [.ref h.length, .int (iI 1), .int (iI (I 20))]) (r := []) rfl rfl rfl mh_o rfl rfl (mm_bad z (d + 7) 1 (I 20) h R (su I 20 (I 20 + 1)) A N hc (show 0 ≤ I 21 by omega) (show I 21 ≤ 5 by omega)) (fun v h1 hq => ?_)
    obtain ⟨rfl, hq⟩ := hq
    rcases hq with ⟨hq, -⟩ | ⟨-, rfl⟩
    · exact absurd h21 hq
    refine go_a (pc' := 375) (ls' := [some (.ref h.length), some (.int (iI k)), some (.int (iI (I 20))), some (.int (iI (A 11 (I 20)))), some (.int (iI late)), none]) (st' := []) rfl rfl ?_
    exact fin _ _ _ _ ⟨RP_bad (f := 1) Q0 (by decide) (by decide), XW_bad (f := 1) (by decide) (MXB_rf hX hM) (NB_no (sp_wt_n r.1 r.2 (by rcases hb with hb | hb; exact absurd hb.1 (by omega); exact hb.2) (by omega)))⟩
theorem mx_readWord (z : Value) (d : Nat) (c2 b2 k c : Int) (h R : xx_H) (I : Nat → Int) (A : Nat → Int → Int) (N : Int → Int) (hc : 12 ≤ h.length) (hS : MST I A N) (hN : NM I A) (hO : RO I A) (hT : RT I A) (ha : I 20 < I 13) (h21 : I 21 = 0) (hd : I 31 = 1 → I 27 = 0) (s1 : 2 * I 10 ≤ I 20 + c + 1) (s2 : atc (A 11 (I 20)) → 2 * I 10 ≤ I 20 + c) (ho : I 7 + I 29 + 2 * I 27 + 2 ≤ 140000) (hs : I 10 < 4990) (hi : I 29 < 1099) (k0 : 0 < k) (k1 : k ≤ 5000) (z1 : 2 * I 10 ≤ NZ (A 11) (I 20).toNat + c2 + 1) (z2 : atc (A 11 (I 20)) → 2 * I 10 ≤ NZ (A 11) (I 20).toNat + c2) (z3 : 2 * (I 7 - RPT I A) ≤ NZ (A 11) (I 20).toNat + b2 + 1) (z4 : atc (A 11 (I 20)) → 2 * (I 7 - RPT I A) ≤ NZ (A 11) (I 20).toNat + b2) (hX : MX I A N) (hM : MNM A N) (F : sp_F) (hF : RRm I A N F (I 27) (I 29)) (wf : WFr F) (ws : WFs F) : xx_cl (xt_P z) (d + 9) 80 [.ref h.length, .int (iI k)] (mh h R I A N) (fun v h1 => v = none ∧ ∃ (I1 : Nat → Int) (A1 : Nat → Int → Int) (N1 : Int → Int), h1 = mh h R I1 A1 N1 ∧ (RP c2 b2 k c I A N I1 A1 N1 ∧ XW k I A N I1 A1 N1 F)) := by
  have t := hT.1
  refine cl_go rfl ?_
  show xx_go (xt_P z) (d + 8) 80 0 [some (.ref h.length), some (.int (iI k)), none, none, none, none] [] (mh h R I A N) _
  refine go_a (pc' := 1) (ls' := [some (.ref h.length), some (.int (iI k)), none, none, none, none]) (st' := [.ref h.length]) rfl rfl ?_
  refine go_get (v := .int (iI (I 20))) rfl mh_o rfl rfl ?_
  refine go_a (pc' := 5) (ls' := [some (.ref h.length), some (.int (iI k)), some (.int (iI (I 20))), none, none, none]) (st' := []) rfl rfl ?_
  refine go_a (pc' := 6) (ls' := [some (.ref h.length), some (.int (iI k)), some (.int (iI (I 20))), none, none, none]) (st' := [.ref h.length]) rfl rfl ?_
  refine go_get rfl mh_o rfl rfl ?_
  refine go_a (pc' := 10) (ls' := [some (.ref h.length), some (.int (iI k)), some (.int (iI (I 20))), none, none, none]) (st' := [.ref h.length, .ref (h.length + 11)]) rfl rfl ?_
  refine go_get (v := .int (iI (I 20))) rfl mh_o rfl rfl ?_
  refine mi_ild rfl mh_a11 (by omega) (by omega) (by decide) ?_
  refine go_a (pc' := 15) (ls' := [some (.ref h.length), some (.int (iI k)), some (.int (iI (I 20))), some (.int (iI (A 11 (I 20)))), none, none]) (st' := []) rfl rfl ?_
  refine go_a (pc' := 16) (ls' := [some (.ref h.length), some (.int (iI k)), some (.int (iI (I 20))), some (.int (iI (A 11 (I 20)))), none, none]) (st' := [.int (iI k)]) rfl rfl ?_
  refine go_a (pc' := 19) (ls' := [some (.ref h.length), some (.int (iI k)), some (.int (iI (I 20))), some (.int (iI (A 11 (I 20)))), none, none]) (st' := [.int (iI 1000), .int (iI k)]) rfl rfl ?_
  refine mi_le (t := 26) rfl rfl (by omega) (by omega) (by omega) (by omega) (fun q => ?_) (fun q => ?_)
  · refine go_a (pc' := 27) (ls' := [some (.ref h.length), some (.int (iI k)), some (.int (iI (I 20))), some (.int (iI (A 11 (I 20)))), none, none]) (st' := [.int (iI 0)]) rfl rfl ?_
    refine go_a (pc' := 29) (ls' := [some (.ref h.length), some (.int (iI k)), some (.int (iI (I 20))), some (.int (iI (A 11 (I 20)))), some (.int (iI 0)), none]) (st' := []) rfl rfl ?_
    refine go_a (pc' := 30) (ls' := [some (.ref h.length), some (.int (iI k)), some (.int (iI (I 20))), some (.int (iI (A 11 (I 20)))), some (.int (iI 0)), none]) (st' := [.ref h.length]) rfl rfl ?_
    refine go_a (pc' := 31) (ls' := [some (.ref h.length), some (.int (iI k)), some (.int (iI (I 20))), some (.int (iI (A 11 (I 20)))), some (.int (iI 0)), none]) (st' := [.ref h.length, .ref h.length]) rfl rfl ?_
    refine go_get (v := .int (iI (I 20))) rfl mh_o rfl rfl ?_
    refine go_a (pc' := 35) (ls' := [some (.ref h.length), some (.int (iI k)), some (.int (iI (I 20))), some (.int (iI (A 11 (I 20)))), some (.int (iI 0)), none]) (st' := [.int (iI 1), .int (iI (I 20)), .ref h.length]) rfl rfl ?_
    refine mi_add rfl ?_
    refine go_put (j := 20) rfl mh_o rfl rfl (show 12 ≤ _ from hc) (show 20 < 86 by decide) rfl rfl ?_
    rw [mh_p20]
    exact mx_readWord_body z d c2 b2 k c 0 h R I A N hc hS hN hO hT ha h21 hd s1 s2 ho hs hi k0 k1 z1 z2 z3 z4 hX hM F hF wf ws (Or.inr ⟨rfl, by omega⟩)
  · refine go_a (pc' := 23) (ls' := [some (.ref h.length), some (.int (iI k)), some (.int (iI (I 20))), some (.int (iI (A 11 (I 20)))), none, none]) (st' := [.int (iI 1)]) rfl rfl ?_
    refine go_a (pc' := 27) (ls' := [some (.ref h.length), some (.int (iI k)), some (.int (iI (I 20))), some (.int (iI (A 11 (I 20)))), none, none]) (st' := [.int (iI 1)]) rfl rfl ?_
    refine go_a (pc' := 29) (ls' := [some (.ref h.length), some (.int (iI k)), some (.int (iI (I 20))), some (.int (iI (A 11 (I 20)))), some (.int (iI 1)), none]) (st' := []) rfl rfl ?_
    refine go_a (pc' := 30) (ls' := [some (.ref h.length), some (.int (iI k)), some (.int (iI (I 20))), some (.int (iI (A 11 (I 20)))), some (.int (iI 1)), none]) (st' := [.ref h.length]) rfl rfl ?_
    refine go_a (pc' := 31) (ls' := [some (.ref h.length), some (.int (iI k)), some (.int (iI (I 20))), some (.int (iI (A 11 (I 20)))), some (.int (iI 1)), none]) (st' := [.ref h.length, .ref h.length]) rfl rfl ?_
    refine go_get (v := .int (iI (I 20))) rfl mh_o rfl rfl ?_
    refine go_a (pc' := 35) (ls' := [some (.ref h.length), some (.int (iI k)), some (.int (iI (I 20))), some (.int (iI (A 11 (I 20)))), some (.int (iI 1)), none]) (st' := [.int (iI 1), .int (iI (I 20)), .ref h.length]) rfl rfl ?_
    refine mi_add rfl ?_
    refine go_put (j := 20) rfl mh_o rfl rfl (show 12 ≤ _ from hc) (show 20 < 86 by decide) rfl rfl ?_
    rw [mh_p20]
    exact mx_readWord_body z d c2 b2 k c 1 h R I A N hc hS hN hO hT ha h21 hd s1 s2 ho hs hi k0 k1 z1 z2 z3 z4 hX hM F hF wf ws (Or.inl ⟨rfl, by omega⟩)
