def WFt : sp_F → Prop
  | [] => True
  | (k, _) :: r => k ≠ 1 ∧ k ≠ 6 ∧ WFt r
def WFs : sp_F → Prop
  | [] => True
  | _ :: r => WFt r
theorem WFs_add : ∀ (F : sp_F) (x : ob_T), WFr F → WFs F → WFs (sp_add F x)
  | [], _, _, _ => trivial
  | (k, l) :: r, x, wf, ws => by
    show WFs (if k = 2 then sp_add r (sp_q x) else (sp_nk k, x :: l) :: r)
    by_cases e : k = 2
    · rw [if_pos e]
      refine WFs_add r _ wf.2 ?_
      match r, ws with
      | [], _ => exact trivial
      | (k9, l9) :: r9, ws => exact ws.2.2
    · rw [if_neg e]
      exact ws
section RMQ
variable {I I1 : Nat → Int} {A A1 : Nat → Int → Int} {N : Int → Int} {F : sp_F}
theorem RRm_quo (hF : RRm I A N F (I 27) (I 29)) (wf : WFr F) (h27 : 0 < I 27) (q : A 15 (I 27 - 1) = 1) : ∃ (f : Int × List ob_T) (r : sp_F), F = (2, []) :: f :: r := by
  obtain ⟨k, l, f, r, rfl⟩ := RRm_pos hF h27
  have a2 := hF.2.1
  have hk : k = 2 := by
    rcases a2 with ⟨p, -⟩ | ⟨p, -⟩
    · exact p
    · omega
  have hl := wf.1.1 hk
  exact ⟨f, r, by rw [hk, hl]⟩
theorem RRm_pop {f : Int × List ob_T} {r : sp_F} (hX : MX I A N) (GG : GX I A N I1 A1 N) (hO : RO I A) (hF : RRm I A N ((2, []) :: f :: r) (I 27) (I 29)) : RRm (su I1 27 (I1 27 - 1)) A1 N (f :: r) (I1 27 - 1) (I1 29) := by
  have X := GG.2.1
  have j : ∀ q : Nat, q ≠ 7 → q ≠ 10 → I1 q = I q := X.2.2.2.1
  have ja : ∀ a : Nat, 10 ≤ a → A1 a = A a := fun a ha => X.2.2.2.2.1 a (by omega) (by omega) (by omega) (by omega) (by omega) (by omega) (by omega) (by omega)
  have a6 := hF.2.2.2.2
  have e0 : I 29 - ((sp_im 2 []).length : Int) = I 29 := by
    show I 29 - ((0 : Nat) : Int) = I 29
    omega
  rw [e0] at a6
  rw [j 27 (by decide) (by decide), j 29 (by decide) (by decide)]
  obtain ⟨o1, o2, o3, o4, o5, o6, o7⟩ := hO
  refine RRm_ext (I := I) (A := A) (N := N) (I1 := su I1 27 (I 27 - 1)) (A1 := A1) (N1 := N) (show I1 31 = I 31 from j 31 (by decide) (by decide)) (fun q => ⟨show I1 30 = I 30 from j 30 (by decide) (by decide), GX_D hX GG (o7 q).1 (o7 q).2⟩) (f :: r) _ _ (fun q q0 q1 => ⟨by rw [ja 15 (by decide)], by rw [ja 16 (by decide)], by rw [ja 17 (by decide)], fun w => ⟨by rw [ja 18 (by decide)], ?_⟩⟩) (fun q q0 q1 => ⟨by rw [ja 19 (by decide)], GX_D hX GG (o3 q q0 q1).1 (o3 q q0 q1).2⟩) a6
  have w2 := (o4 q q0 (by omega)).2.2.2 w
  exact GX_D hX GG w2.1 w2.2
end RMQ
theorem mx_deliver_end (z : Value) (d : Nat) (u o : Int) (h R : xx_H) (I : Nat → Int) (A : Nat → Int → Int) (N : Int → Int) (hc : 12 ≤ h.length) (hS : MST I A N) (hN : NM I A) (hO : RO I A) (ho : I 7 + 2 * I 27 ≤ 140000) (hi : I 29 < 1100) (h31 : I 31 = 0) (v0 : 0 ≤ o) (v1 : o < I 7) (hX : MX I A N) (hM : MNM A N) (F : sp_F) (hF : RRm I A N F (I 27) (I 29)) (wf : WFr F) (ws : WFs F) (t1 : sp_top F ≠ 1) (t6 : sp_top F ≠ 6) (nq : 0 < I 27 → A 15 (I 27 - 1) = 0) : xx_go (xt_P z) (d + 4) 87 44 [some (.ref h.length), some (.int (iI u)), some (.int (iI o))] [] (mh h R I A N) (fun v h1 => v = none ∧ ∃ (I1 : Nat → Int) (A1 : Nat → Int → Int), h1 = mh h R I1 A1 N ∧ MST I1 A1 N ∧ RO I1 A1 ∧ RW I1 A1 ≤ RW I A + WD A o ∧ RX I A N I1 A1 N ∧ (I1 7 + I1 29 + 2 * I1 27 ≤ I 7 + I 29 + 2 * I 27 + 1 ∧ I1 7 + RPT I A + PT A o ≤ I 7 + RPT I1 A1) ∧ I1 10 = I 10 ∧ I1 13 = I 13 ∧ I1 17 = I 17 ∧ I1 20 = I 20 ∧ I1 21 = I 21 ∧ I1 22 = I 22 ∧ A1 11 = A 11 ∧ A1 13 = A 13 ∧ (I1 31 = 1 → I1 27 = 0) ∧ MXP I A N I1 A1 (sp_add F (DM A N o)) ∧ WFs (sp_add F (DM A N o))) := by
  have hP := MST_PW hS
  obtain ⟨o1, o2, o3, o4, o5, o6, o7⟩ := id hO
  refine go_a (pc' := 45) (ls' := [some (.ref h.length), some (.int (iI u)), some (.int (iI o))]) (st' := [.ref h.length]) rfl rfl ?_
  refine go_get (v := .int (iI (I 27))) rfl mh_o rfl rfl ?_
  refine mi_ne0 (t := 64) rfl rfl (by omega) (by omega) (fun q => ?_) (fun q => ?_)
  · have k := o4 (I 27 - 1) (by omega) (by omega)
    refine go_a (pc' := 65) (ls' := [some (.ref h.length), some (.int (iI u)), some (.int (iI o))]) (st' := [.ref h.length]) rfl rfl ?_
    refine go_get rfl mh_o rfl rfl ?_
    refine go_a (pc' := 69) (ls' := [some (.ref h.length), some (.int (iI u)), some (.int (iI o))]) (st' := [.ref h.length, .ref (h.length + 17)]) rfl rfl ?_
    refine go_get (v := .int (iI (I 27))) rfl mh_o rfl rfl ?_
    refine go_a (pc' := 73) (ls' := [some (.ref h.length), some (.int (iI u)), some (.int (iI o))]) (st' := [.int (iI 1), .int (iI (I 27)), .ref (h.length + 17)]) rfl rfl ?_
    refine mi_sub rfl ?_
    refine mi_ild rfl mh_a17 (by omega) (by omega) (by decide) ?_
    refine go_a (pc' := 76) (ls' := [some (.ref h.length), some (.int (iI u)), some (.int (iI o))]) (st' := [.int (iI 1), .int (iI (A 17 ((I 27) - 1)))]) rfl rfl ?_
    refine mi_ne (t := 106) rfl rfl (by omega) (by omega) (by omega) (by omega) (fun q1 => ?_) (fun q1 => ?_)
    · refine go_a (pc' := 107) (ls' := [some (.ref h.length), some (.int (iI u)), some (.int (iI o))]) (st' := [.ref h.length]) rfl rfl ?_
      refine go_get rfl mh_o rfl rfl ?_
      refine go_a (pc' := 111) (ls' := [some (.ref h.length), some (.int (iI u)), some (.int (iI o))]) (st' := [.ref h.length, .ref (h.length + 19)]) rfl rfl ?_
      refine go_get (v := .int (iI (I 29))) rfl mh_o rfl rfl ?_
      refine go_a (pc' := 115) (ls' := [some (.ref h.length), some (.int (iI u)), some (.int (iI o))]) (st' := [.int (iI o), .int (iI (I 29)), .ref (h.length + 19)]) rfl rfl ?_
      refine mi_ist rfl mh_a19 (show 12 ≤ _ by omega) (by omega) (by omega) (by decide) ?_
      rw [mh_w19 (by omega)]
      refine go_a (pc' := 117) (ls' := [some (.ref h.length), some (.int (iI u)), some (.int (iI o))]) (st' := [.ref h.length]) rfl rfl ?_
      refine go_a (pc' := 118) (ls' := [some (.ref h.length), some (.int (iI u)), some (.int (iI o))]) (st' := [.ref h.length, .ref h.length]) rfl rfl ?_
      refine go_get (v := .int (iI (I 29))) rfl mh_o rfl rfl ?_
      refine go_a (pc' := 122) (ls' := [some (.ref h.length), some (.int (iI u)), some (.int (iI o))]) (st' := [.int (iI 1), .int (iI (I 29)), .ref h.length]) rfl rfl ?_
      refine mi_add rfl ?_
      refine go_put (j := 29) rfl mh_o rfl rfl (show 12 ≤ _ from hc) (show 29 < 86 by decide) rfl rfl ?_
      rw [mh_p29]
      refine go_r rfl rfl rfl rfl rfl rfl ⟨rfl, _, _, rfl, hS, ⟨o1, (show 0 ≤ I 29 + 1 by omega), fun e e0 e1 => ?_, fun j j0 j1 => ?_, o5, o6, o7⟩, ?_, RX_tr (RX_sa (a := 19) (by unfold RG; omega) (by decide) (by decide) (by decide)) (RX_su (j := 29) (by unfold RF; omega) (by decide)), ⟨(show I 7 + (I 29 + 1) + 2 * I 27 ≤ _ by omega), (show I 7 + RPT I A + PT A o ≤ I 7 + _ by rw [RPT_item o2]; omega)⟩, rfl, rfl, rfl, rfl, rfl, rfl, rfl, rfl, fun e => absurd (show I 31 = 1 from e) (by omega), MD_item hX hM hF wf t6 (by omega) (nq (by omega)) (by omega) o2, WFs_add _ _ wf ws⟩
      · show 0 ≤ sf (A 19) (I 29) o e ∧ sf (A 19) (I 29) o e < I 7
        by_cases ee : e = I 29
        · rw [ee, sf_self]
          exact ⟨v0, v1⟩
        · rw [sf_ne ee]
          exact o3 e e0 (by have e1 : e < I 29 + 1 := e1; omega)
      · have := o4 j j0 j1
        exact ⟨this.1, ⟨this.2.1.1, (show A 16 j ≤ I 29 + 1 by omega)⟩, this.2.2⟩
      · have eW : WD (sa A 19 (I 29) o) = WD A := WD_12 rfl rfl
        unfold RW
        rw [SW_12 eW, OW_congr (A := A) (A1 := sa A 19 (I 29) o) _ (fun e he => ⟨rfl, fun _ => by rw [eW]; rfl⟩), eW]
        show SW A (sf (A 19) (I 29) o) (I 29 + 1).toNat + OW A (I 27).toNat + (if I 31 = 1 then WD A (I 30) else 0) ≤ SW A (A 19) (I 29).toNat + OW A (I 27).toNat + (if I 31 = 1 then WD A (I 30) else 0) + WD A o
        rw [show (I 29 + 1).toNat = (I 29).toNat + 1 by omega]
        show SW A (sf (A 19) (I 29) o) (I 29).toNat + WD A (sf (A 19) (I 29) o ((I 29).toNat : Int)) + OW A (I 27).toNat + (if I 31 = 1 then WD A (I 30) else 0) ≤ SW A (A 19) (I 29).toNat + OW A (I 27).toNat + (if I 31 = 1 then WD A (I 30) else 0) + WD A o
        rw [show ((I 29).toNat : Int) = I 29 by omega, sf_self, SW_congr (A := A) (f := A 19) (I 29).toNat (fun e he => by rw [sf_ne (by omega)])]
        omega
    · refine go_a (pc' := 80) (ls' := [some (.ref h.length), some (.int (iI u)), some (.int (iI o))]) (st' := [.ref h.length]) rfl rfl ?_
      refine go_get rfl mh_o rfl rfl ?_
      refine go_a (pc' := 84) (ls' := [some (.ref h.length), some (.int (iI u)), some (.int (iI o))]) (st' := [.ref h.length, .ref (h.length + 18)]) rfl rfl ?_
      refine go_get (v := .int (iI (I 27))) rfl mh_o rfl rfl ?_
      refine go_a (pc' := 88) (ls' := [some (.ref h.length), some (.int (iI u)), some (.int (iI o))]) (st' := [.int (iI 1), .int (iI (I 27)), .ref (h.length + 18)]) rfl rfl ?_
      refine mi_sub rfl ?_
      refine go_a (pc' := 90) (ls' := [some (.ref h.length), some (.int (iI u)), some (.int (iI o))]) (st' := [.int (iI o), .int (iI ((I 27) - 1)), .ref (h.length + 18)]) rfl rfl ?_
      refine mi_ist rfl mh_a18 (show 12 ≤ _ by omega) (by omega) (by omega) (by decide) ?_
      rw [mh_w18 (by omega)]
      refine go_a (pc' := 92) (ls' := [some (.ref h.length), some (.int (iI u)), some (.int (iI o))]) (st' := [.ref h.length]) rfl rfl ?_
      refine go_get rfl mh_o rfl rfl ?_
      refine go_a (pc' := 96) (ls' := [some (.ref h.length), some (.int (iI u)), some (.int (iI o))]) (st' := [.ref h.length, .ref (h.length + 17)]) rfl rfl ?_
      refine go_get (v := .int (iI (I 27))) rfl mh_o rfl rfl ?_
      refine go_a (pc' := 100) (ls' := [some (.ref h.length), some (.int (iI u)), some (.int (iI o))]) (st' := [.int (iI 1), .int (iI (I 27)), .ref (h.length + 17)]) rfl rfl ?_
      refine mi_sub rfl ?_
      refine go_a (pc' := 102) (ls' := [some (.ref h.length), some (.int (iI u)), some (.int (iI o))]) (st' := [.int (iI 2), .int (iI ((I 27) - 1)), .ref (h.length + 17)]) rfl rfl ?_
      refine mi_ist rfl mh_a17 (show 12 ≤ _ by omega) (by omega) (by omega) (by decide) ?_
      rw [mh_w17 (by omega)]
      refine go_a (pc' := 126) (ls' := [some (.ref h.length), some (.int (iI u)), some (.int (iI o))]) (st' := []) rfl rfl ?_
      have kk : ((I 27 - 1).toNat : Int) = I 27 - 1 := by omega
      refine go_r rfl rfl rfl rfl rfl rfl ⟨rfl, _, _, rfl, hS, ⟨o1, o2, o3, fun j j0 j1 => ?_, o5, o6, o7⟩, ?_, RX_tr (RX_sa (a := 18) (by unfold RG; omega) (by decide) (by decide) (by decide)) (RX_sa (a := 17) (by unfold RG; omega) (by decide) (by decide) (by decide)), ⟨by omega, (show I 7 + RPT I A + PT A o ≤ I 7 + _ by rw [RPT_tail (by omega) (nq (by omega)) (by omega)]; omega)⟩, rfl, rfl, rfl, rfl, rfl, rfl, rfl, rfl, fun e => absurd (show I 31 = 1 from e) (by omega), MD_last hX hM hF wf (by omega) (nq (by omega)) (by omega), WFs_add _ _ wf ws⟩
      · have kj := o4 j j0 j1
        refine ⟨kj.1, kj.2.1, ?_, ?_⟩
        · show 0 ≤ sf (A 17) (I 27 - 1) 2 j ∧ sf (A 17) (I 27 - 1) 2 j ≤ 2
          by_cases ee : j = I 27 - 1
          · rw [ee, sf_self]
            omega
          · rw [sf_ne ee]
            exact kj.2.2.1
        · show sf (A 17) (I 27 - 1) 2 j = 2 → 0 ≤ sf (A 18) (I 27 - 1) o j ∧ sf (A 18) (I 27 - 1) o j < I 7
          by_cases ee : j = I 27 - 1
          · rw [ee, sf_self, sf_self]
            exact fun _ => ⟨v0, v1⟩
          · rw [sf_ne ee, sf_ne ee]
            exact kj.2.2.2
      · have eW : WD (sa (sa A 18 (I 27 - 1) o) 17 (I 27 - 1) 2) = WD A := WD_12 rfl rfl
        unfold RW
        rw [SW_12 eW, eW]
        show SW A (A 19) (I 29).toNat + OW (sa (sa A 18 (I 27 - 1) o) 17 (I 27 - 1) 2) (I 27).toNat + (if I 31 = 1 then WD A (I 30) else 0) ≤ SW A (A 19) (I 29).toNat + OW A (I 27).toNat + (if I 31 = 1 then WD A (I 30) else 0) + WD A o
        have e : OW (sa (sa A 18 (I 27 - 1) o) 17 (I 27 - 1) 2) (I 27).toNat = OW A (I 27).toNat + WD A o := by
          rw [show (I 27).toNat = (I 27 - 1).toNat + 1 by omega]
          show OW (sa (sa A 18 (I 27 - 1) o) 17 (I 27 - 1) 2) (I 27 - 1).toNat + (1 + (if sf (A 17) (I 27 - 1) 2 ((I 27 - 1).toNat : Int) = 0 then 0 else 1) + (if sf (A 17) (I 27 - 1) 2 ((I 27 - 1).toNat : Int) = 2 then WD (sa (sa A 18 (I 27 - 1) o) 17 (I 27 - 1) 2) (sf (A 18) (I 27 - 1) o ((I 27 - 1).toNat : Int)) else 0)) = OW A (I 27 - 1).toNat + (1 + (if A 17 ((I 27 - 1).toNat : Int) = 0 then 0 else 1) + (if A 17 ((I 27 - 1).toNat : Int) = 2 then WD A (A 18 ((I 27 - 1).toNat : Int)) else 0)) + WD A o
          rw [eW, kk, sf_self, sf_self, if_neg (by decide), if_pos rfl, if_neg (by omega), if_neg (by omega), OW_congr (A := A) (I 27 - 1).toNat (fun e he => ⟨by show sf (A 17) (I 27 - 1) 2 e = A 17 e; rw [sf_ne (by omega)], fun _ => by rw [eW]; show WD A (sf (A 18) (I 27 - 1) o e) = _; rw [sf_ne (by omega)]⟩)]
          omega
        omega
  · refine go_a (pc' := 52) (ls' := [some (.ref h.length), some (.int (iI u)), some (.int (iI o))]) (st' := [.ref h.length]) rfl rfl ?_
    refine go_a (pc' := 53) (ls' := [some (.ref h.length), some (.int (iI u)), some (.int (iI o))]) (st' := [.int (iI o), .ref h.length]) rfl rfl ?_
    refine go_put (j := 30) rfl mh_o rfl rfl (show 12 ≤ _ from hc) (show 30 < 86 by decide) rfl rfl ?_
    rw [mh_p30]
    refine go_a (pc' := 57) (ls' := [some (.ref h.length), some (.int (iI u)), some (.int (iI o))]) (st' := [.ref h.length]) rfl rfl ?_
    refine go_a (pc' := 58) (ls' := [some (.ref h.length), some (.int (iI u)), some (.int (iI o))]) (st' := [.int (iI 1), .ref h.length]) rfl rfl ?_
    refine go_put (j := 31) rfl mh_o rfl rfl (show 12 ≤ _ from hc) (show 31 < 86 by decide) rfl rfl ?_
    rw [mh_p31]
    refine go_a (pc' := 126) (ls' := [some (.ref h.length), some (.int (iI u)), some (.int (iI o))]) (st' := []) rfl rfl ?_
    have e27 : I 27 = 0 := by omega
    have e31 := h31
    refine go_r rfl rfl rfl rfl rfl rfl ⟨rfl, _, _, rfl, hS, ⟨o1, o2, o3, o4, o5, Or.inr rfl, fun _ => ⟨v0, v1⟩⟩, ?_, RX_tr (RX_su (j := 30) (by unfold RF; omega) (by decide)) (RX_su (j := 31) (by unfold RF; omega) (by decide)), ⟨(show I 7 + I 29 + 2 * I 27 ≤ _ by omega), (show I 7 + RPT I A + PT A o ≤ I 7 + _ by rw [RPT_whole h31]; omega)⟩, rfl, rfl, rfl, rfl, rfl, rfl, rfl, rfl, fun _ => e27, MD_whole hX hM hF wf t1 e27, WFs_add _ _ wf ws⟩
    show SW A (A 19) (I 29).toNat + OW A (I 27).toNat + WD A o ≤ SW A (A 19) (I 29).toNat + OW A (I 27).toNat + (if I 31 = 1 then WD A (I 30) else 0) + WD A o
    rw [if_neg (by omega)]
    omega
theorem mx_deliver_loop (z : Value) (d : Nat) (u : Int) (h R : xx_H) (N : Int → Int) (hc : 12 ≤ h.length) : ∀ (n : Nat) (I : Nat → Int) (A : Nat → Int → Int) (o : Int) (F : sp_F), (I 27).toNat ≤ n → MST I A N → NM I A → RO I A → I 7 + 2 * I 27 ≤ 140000 → I 29 < 1100 → I 31 = 0 → 0 ≤ o → o < I 7 → MX I A N → MNM A N → RRm I A N F (I 27) (I 29) → WFr F → WFs F → sp_top F ≠ 1 → sp_top F ≠ 6 → xx_go (xt_P z) (d + 4) 87 2 [some (.ref h.length), some (.int (iI u)), some (.int (iI o))] [] (mh h R I A N) (fun v h1 => v = none ∧ ∃ (I1 : Nat → Int) (A1 : Nat → Int → Int), h1 = mh h R I1 A1 N ∧ MST I1 A1 N ∧ RO I1 A1 ∧ RW I1 A1 ≤ RW I A + WD A o ∧ RX I A N I1 A1 N ∧ (I1 7 + I1 29 + 2 * I1 27 ≤ I 7 + I 29 + 2 * I 27 + 1 ∧ I1 7 + RPT I A + PT A o ≤ I 7 + RPT I1 A1) ∧ I1 10 = I 10 ∧ I1 13 = I 13 ∧ I1 17 = I 17 ∧ I1 20 = I 20 ∧ I1 21 = I 21 ∧ I1 22 = I 22 ∧ A1 11 = A 11 ∧ A1 13 = A 13 ∧ (I1 31 = 1 → I1 27 = 0) ∧ MXP I A N I1 A1 (sp_add F (DM A N o)) ∧ WFs (sp_add F (DM A N o))) := by
  intro n
  induction n with
  | zero =>
    intro I A o F hn hS hN hO ho hi h31 v0 v1 hX hM hF wf ws t1 t6
    have o1 := hO.1
    refine go_a (pc' := 3) (ls' := [some (.ref h.length), some (.int (iI u)), some (.int (iI o))]) (st' := [.ref h.length]) rfl rfl ?_
    refine go_get (v := .int (iI (I 27))) rfl mh_o rfl rfl ?_
    refine mi_le0 (t := 44) rfl rfl (by omega) (by omega) (fun _ => ?_) (fun q => absurd (show I 27 ≤ 0 by omega) q)
    exact mx_deliver_end z d u o h R I A N hc hS hN hO ho hi h31 v0 v1 hX hM F hF wf ws t1 t6 (fun q => absurd q (by omega))
  | succ n ih =>
    intro I A o F hn hS hN hO ho hi h31 v0 v1 hX hM hF wf ws t1 t6
    have hP := MST_PW hS
    have o1 := hO.1
    refine go_a (pc' := 3) (ls' := [some (.ref h.length), some (.int (iI u)), some (.int (iI o))]) (st' := [.ref h.length]) rfl rfl ?_
    refine go_get (v := .int (iI (I 27))) rfl mh_o rfl rfl ?_
    refine mi_le0 (t := 44) rfl rfl (by omega) (by omega) (fun q => mx_deliver_end z d u o h R I A N hc hS hN hO ho hi h31 v0 v1 hX hM F hF wf ws t1 t6 (fun q1 => absurd q1 (by omega))) (fun q => ?_)
    have k := hO.2.2.2.1 (I 27 - 1) (by omega) (by omega)
    refine go_a (pc' := 10) (ls' := [some (.ref h.length), some (.int (iI u)), some (.int (iI o))]) (st' := [.ref h.length]) rfl rfl ?_
    refine go_get rfl mh_o rfl rfl ?_
    refine go_a (pc' := 14) (ls' := [some (.ref h.length), some (.int (iI u)), some (.int (iI o))]) (st' := [.ref h.length, .ref (h.length + 15)]) rfl rfl ?_
    refine go_get (v := .int (iI (I 27))) rfl mh_o rfl rfl ?_
    refine go_a (pc' := 18) (ls' := [some (.ref h.length), some (.int (iI u)), some (.int (iI o))]) (st' := [.int (iI 1), .int (iI (I 27)), .ref (h.length + 15)]) rfl rfl ?_
    refine mi_sub rfl ?_
    refine mi_ild rfl mh_a15 (by omega) (by omega) (by decide) ?_
    refine go_a (pc' := 21) (ls' := [some (.ref h.length), some (.int (iI u)), some (.int (iI o))]) (st' := [.int (iI 1), .int (iI (A 15 ((I 27) - 1)))]) rfl rfl ?_
    refine mi_ne (t := 44) rfl rfl (by omega) (by omega) (by omega) (by omega) (fun q2 => mx_deliver_end z d u o h R I A N hc hS hN hO ho hi h31 v0 v1 hX hM F hF wf ws t1 t6 (fun _ => by omega)) (fun q2 => ?_)
    have n1 := hN.1
    refine go_a (pc' := 25) (ls' := [some (.ref h.length), some (.int (iI u)), some (.int (iI o))]) (st' := [.ref h.length]) rfl rfl ?_
    refine go_a (pc' := 26) (ls' := [some (.ref h.length), some (.int (iI u)), some (.int (iI o))]) (st' := [.int (iI 2), .ref h.length]) rfl rfl ?_
    refine go_a (pc' := 27) (ls' := [some (.ref h.length), some (.int (iI u)), some (.int (iI o))]) (st' := [.int (iI o), .int (iI 2), .ref h.length]) rfl rfl ?_
    refine go_v (m := 88) (as := [.ref h.length, .int (iI 2), .int (iI o)]) (r := []) rfl rfl rfl mh_o rfl rfl (mt_quote z d o h R I A N hc hX hM (by omega) (by omega) v0 v1) (fun v h1 hq => ?_)
    obtain ⟨k2, I1, A1, rfl, rfl, GG, ⟨k0, k1⟩, dq, e5, e6, hh9, e1, e2, e3, e4⟩ := hq
    have X := GG.2.1
    obtain ⟨f0, r0, rfl⟩ := RRm_quo hF wf (by omega) (by omega)
    have j27 := X.2.2.2.1 27 (by decide) (by decide)
    have j29 := X.2.2.2.1 29 (by decide) (by decide)
    have j31 := X.2.2.2.1 31 (by decide) (by decide)
    have x2 := X.2.1
    have P1 := MST_PW X.1
    have O1 := RO_EX hP X hO
    have N1 : NM I1 A1 := NM_EX hN X
    show xx_go (xt_P z) (d + 4) 87 30 [some (.ref h.length), some (.int (iI u)), some (.int (iI o))] [.int (iI k2)] (mh h R I1 A1 N) _
    refine go_a (pc' := 31) (ls' := [some (.ref h.length), some (.int (iI u)), some (.int (iI k2))]) (st' := []) rfl rfl ?_
    refine go_a (pc' := 32) (ls' := [some (.ref h.length), some (.int (iI u)), some (.int (iI k2))]) (st' := [.ref h.length]) rfl rfl ?_
    refine go_a (pc' := 33) (ls' := [some (.ref h.length), some (.int (iI u)), some (.int (iI k2))]) (st' := [.ref h.length, .ref h.length]) rfl rfl ?_
    refine go_get (v := .int (iI (I1 27))) rfl mh_o rfl rfl ?_
    refine go_a (pc' := 37) (ls' := [some (.ref h.length), some (.int (iI u)), some (.int (iI k2))]) (st' := [.int (iI 1), .int (iI (I1 27)), .ref h.length]) rfl rfl ?_
    refine mi_sub rfl ?_
    refine go_put (j := 27) rfl mh_o rfl rfl (show 12 ≤ _ from hc) (show 27 < 86 by decide) rfl rfl ?_
    rw [mh_p27]
    refine go_a (pc' := 2) (ls' := [some (.ref h.length), some (.int (iI u)), some (.int (iI k2))]) (st' := []) rfl rfl ?_
    have O2 : RO (su I1 27 (I1 27 - 1)) A1 := ⟨⟨(show 0 ≤ I1 27 - 1 by omega), (show I1 27 - 1 ≤ 40 by omega)⟩, O1.1.2.1, O1.1.2.2.1, fun j j0 j1 => O1.1.2.2.2.1 j j0 (by have j1 : j < I1 27 - 1 := j1; omega), fun j k j0 jk k1 => O1.1.2.2.2.2.1 j k j0 jk (by have k1 : k < I1 27 - 1 := k1; omega), O1.1.2.2.2.2.2.1, O1.1.2.2.2.2.2.2⟩
    have wk : WD A1 k2 = 1 + WD A o := by
      rw [WD_pair P1 k0 k1 (by omega), if_pos ⟨e1, by omega, e4⟩, e3, (WD_ext hP (fun k h0 h1 => ⟨(X.2.2.1 k h0 h1).1, (X.2.2.1 k h0 h1).2.1⟩) o v0 v1).1]
    have rw2 : RW (su I1 27 (I1 27 - 1)) A1 + 1 ≤ RW I A := by
      rw [← O1.2]
      have p := OW_pop P1 O1.1 (by omega)
      show SW A1 (A1 19) (I1 29).toNat + OW A1 (I1 27 - 1).toNat + (if I1 31 = 1 then WD A1 (I1 30) else 0) + 1 ≤ SW A1 (A1 19) (I1 29).toNat + OW A1 (I1 27).toNat + (if I1 31 = 1 then WD A1 (I1 30) else 0)
      omega
    refine go_w (fun v h1 hq => ?_) (ih (su I1 27 (I1 27 - 1)) A1 k2 (f0 :: r0) (show (I1 27 - 1).toNat ≤ n by omega) X.1 N1 O2 (show I1 7 + 2 * (I1 27 - 1) ≤ 140000 by omega) (show I1 29 < 1100 by omega) (show I1 31 = 0 by omega) k0 k1 (show MX I1 A1 N from GX_M GG) (MNM_g hM hX GG (by omega)) (RRm_pop hX GG hO hF) wf.2 ws.2.2 ws.1 ws.2.1)
    obtain ⟨rfl, I3, A3, rfl, S3, O3, W3, X3, c1, c2, c3, c4, c5, c6, c7, c8, c9, ca, cx, cw⟩ := hq
    have cp := c1.2
    have c1 : I3 7 + I3 29 + 2 * I3 27 ≤ I1 7 + I1 29 + 2 * (I1 27 - 1) + 1 := c1.1
    have cp : I3 7 + RPT (su I1 27 (I1 27 - 1)) A1 + PT A1 k2 ≤ I1 7 + RPT I3 A3 := cp
    have b15 := X.2.2.2.2.1 15 (by decide) (by decide) (by decide) (by decide) (by decide) (by decide) (by decide) (by decide)
    rw [RPT_pop (by omega) (by rw [b15, j27]; omega), RPT_EX hP X hO] at cp
    have p2 := PT_pair P1 k0 k1 (by omega)
    have qk := P1.2 k2 k0 k1
    have qk2 := qk.2.2.2.2 (by omega)
    have p3 := PT_pair P1 e2 (by omega : A1 2 k2 < I1 7) (by omega)
    rw [e1, PT_atom (k := 2) (by rw [N1.2 2 (by decide) (by decide)]; decide), p3, e3, e4, PT_atom (k := 0) (by rw [N1.2 0 (by decide) (by decide)]; decide), PT_ext hP (fun k h0 h1 => ⟨(X.2.2.1 k h0 h1).1, (X.2.2.1 k h0 h1).2.1⟩) o v0 v1] at p2
    refine ⟨rfl, I3, A3, rfl, S3, O3, by omega, RX_tr (RX_EX X) (RX_tr (RX_su (j := 27) (by unfold RF; omega) (by decide)) X3), ⟨by omega, by omega⟩, (show I3 10 = I1 10 from c2).trans e6, (show I3 13 = I1 13 from c3).trans (X.2.2.2.1 13 (by decide) (by decide)), (show I3 17 = I1 17 from c4).trans (X.2.2.2.1 17 (by decide) (by decide)), (show I3 20 = I1 20 from c5).trans (X.2.2.2.1 20 (by decide) (by decide)), (show I3 21 = I1 21 from c6).trans (X.2.2.2.1 21 (by decide) (by decide)), (show I3 22 = I1 22 from c7).trans (X.2.2.2.1 22 (by decide) (by decide)), c8.trans (X.2.2.2.2.1 11 (by decide) (by decide) (by decide) (by decide) (by decide) (by decide) (by decide) (by decide)), c9.trans (X.2.2.2.2.1 13 (by decide) (by decide) (by decide) (by decide) (by decide) (by decide) (by decide) (by decide)), ca, ?_, ?_⟩
    · have cx : MXP (su I1 27 (I1 27 - 1)) A1 N I3 A3 (sp_add (f0 :: r0) (DM A1 N k2)) := cx
      rw [dq] at cx
      obtain ⟨m1, m2, m3, m4, m5, m6⟩ := cx
      exact ⟨m1, m2, fun q q0 q1 => by have a9 := GG.2.2 q q0 q1; have b9 := m3 q q0 (show q < I1 7 by omega); exact ⟨b9.1.trans a9.1, b9.2.1.trans a9.2.1, b9.2.2.trans a9.2.2⟩, fun q => m4 (hh9 q), m5, m6⟩
    · rw [dq] at cw
      exact cw
theorem mx_deliver (z : Value) (d : Nat) (o : Int) (h R : xx_H) (I : Nat → Int) (A : Nat → Int → Int) (N : Int → Int) (hc : 12 ≤ h.length) (hS : MST I A N) (hN : NM I A) (hO : RO I A) (ho : I 7 + 2 * I 27 ≤ 140000) (hi : I 29 < 1100) (h31 : I 31 = 0) (v0 : 0 ≤ o) (v1 : o < I 7) (hX : MX I A N) (hM : MNM A N) (F : sp_F) (hF : RRm I A N F (I 27) (I 29)) (wf : WFr F) (ws : WFs F) (t1 : sp_top F ≠ 1) (t6 : sp_top F ≠ 6) : xx_cl (xt_P z) (d + 5) 87 [.ref h.length, .int (iI o)] (mh h R I A N) (fun v h1 => v = none ∧ ∃ (I1 : Nat → Int) (A1 : Nat → Int → Int), h1 = mh h R I1 A1 N ∧ MST I1 A1 N ∧ RO I1 A1 ∧ RW I1 A1 ≤ RW I A + WD A o ∧ RX I A N I1 A1 N ∧ (I1 7 + I1 29 + 2 * I1 27 ≤ I 7 + I 29 + 2 * I 27 + 1 ∧ I1 7 + RPT I A + PT A o ≤ I 7 + RPT I1 A1) ∧ I1 10 = I 10 ∧ I1 13 = I 13 ∧ I1 17 = I 17 ∧ I1 20 = I 20 ∧ I1 21 = I 21 ∧ I1 22 = I 22 ∧ A1 11 = A 11 ∧ A1 13 = A 13 ∧ (I1 31 = 1 → I1 27 = 0) ∧ MXP I A N I1 A1 (sp_add F (DM A N o)) ∧ WFs (sp_add F (DM A N o))) := by
  refine cl_go rfl ?_
  show xx_go (xt_P z) (d + 4) 87 0 [some (.ref h.length), some (.int (iI o)), none] [] (mh h R I A N) _
  refine go_a (pc' := 1) (ls' := [some (.ref h.length), some (.int (iI o)), none]) (st' := [.int (iI o)]) rfl rfl ?_
  refine go_a (pc' := 2) (ls' := [some (.ref h.length), some (.int (iI o)), some (.int (iI o))]) (st' := []) rfl rfl ?_
  exact mx_deliver_loop z d o h R N hc _ I A o F (Nat.le_refl _) hS hN hO ho hi h31 v0 v1 hX hM hF wf ws t1 t6
