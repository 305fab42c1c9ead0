theorem mm_anewR (z : Value) (d : Nat) (ar : Int → Int) (e0 e1 e2 : Prop) (im : ob_T → ob_T × ob_T) (o w y : Int) (h R : xx_H) (I : Nat → Int) (A : Nat → Int → Int) (N : Int → Int) (hc : 12 ≤ h.length) (hS : MST I A N) (hN : NM I A) (hZ : SZI ar I A) (hR : PR ar I A) (k0 : 0 ≤ o) (k1 : o < I 7) (hk : 1 ≤ TZ A ar o) (w0 : -1 ≤ w) (w1 : w < 140000) (y0 : -1 ≤ y) (hw : 0 ≤ w → (0 ≤ y ∧ y < I 7) ∧ 1 ≤ TZ A ar y) (hC : PCU w y e0 e1 e2 im N I A) (c0 : 0 ≤ I 54) (c1 : I 54 + TZ A ar o ≤ 1199) (b0 : 0 ≤ I 56) (b1 : I 56 + TZ A ar o ≤ 2399) (ho : I 7 + 2 * TZ A ar o ≤ 140000) (u0 : 0 ≤ I 49) (u1 : I 49 ≤ 4) : xx_cl (xt_P z) (d + 7) 162 [.ref h.length, .int (iI o), .int (iI w), .int (iI y)] (mh h R I A N) (fun v h1 => ∃ (t : Int) (I1 : Nat → Int) (A1 : Nat → Int → Int), v = some (.int (iI t)) ∧ h1 = mh h R I1 A1 N ∧ MK ar (2 * TZ A ar o - 2) t I A N I1 A1 ∧ RLU e0 e1 e2 im N A1 o t ∧ (I1 7 = I 7 ∨ I 7 ≤ t) ∧ (I 49 = 0 → TZ A1 ar t ≤ 120 → I1 49 = 0)) := by
  have hP := MST_PW hS
  have p1 := hP.1
  have fin : ∀ (I1 : Nat → Int) (A1 : Nat → Int → Int) (z6 z7 : Option Value), AX ar (I 54) (I 56) I A N I1 A1 → I1 54 = I 54 → I1 56 = I 56 + 1 → (0 ≤ A1 32 (I 56) ∧ A1 32 (I 56) < I1 7) → 1 ≤ TZ A1 ar (A1 32 (I 56)) → I1 7 ≤ I 7 + (2 * TZ A ar o - 2) → (RLU e0 e1 e2 im N A1 o (A1 32 (I 56)) ∧ (I1 7 = I 7 ∨ I 7 ≤ A1 32 (I 56))) → xx_go (xt_P z) (d + 6) 162 19 [some (.ref h.length), some (.int (iI o)), some (.int (iI w)), some (.int (iI y)), some (.int (iI (I 54))), some (.int (iI (I 56))), z6, z7] [] (mh h R I1 A1 N) (fun v h1 => ∃ (t : Int) (I1 : Nat → Int) (A1 : Nat → Int → Int), v = some (.int (iI t)) ∧ h1 = mh h R I1 A1 N ∧ MK ar (2 * TZ A ar o - 2) t I A N I1 A1 ∧ RLU e0 e1 e2 im N A1 o t ∧ (I1 7 = I 7 ∨ I 7 ≤ t) ∧ (I 49 = 0 → TZ A1 ar t ≤ 120 → I1 49 = 0)) := by
    intro I1 A1 z6 z7 X d1 d2 d3 d4 d5 d6
    have hP1 := MST_PW X.1.1
    have q1 := hP1.1
    have j49 : I1 49 = I 49 := X.1.2.2.2.1 49 (by decide) (by unfold FB; omega)
    refine go_a (pc' := 20) (ls' := [some (.ref h.length), some (.int (iI o)), some (.int (iI w)), some (.int (iI y)), some (.int (iI (I 54))), some (.int (iI (I 56))), z6, z7]) (st' := [.ref h.length]) rfl rfl ?_
    refine go_get (v := .int (iI (I1 54))) rfl mh_o rfl rfl ?_
    refine go_a (pc' := 25) (ls' := [some (.ref h.length), some (.int (iI o)), some (.int (iI w)), some (.int (iI y)), some (.int (iI (I 54))), some (.int (iI (I 56))), z6, z7]) (st' := [.int (iI (I 54)), .int (iI (I1 54))]) rfl rfl ?_
    refine mi_le (t := 145) rfl rfl (by omega) (by omega) (by omega) (by omega) (fun _ => ?_) (fun q => absurd (show I1 54 ≤ I 54 by omega) q)
    refine go_a (pc' := 146) (ls' := [some (.ref h.length), some (.int (iI o)), some (.int (iI w)), some (.int (iI y)), some (.int (iI (I 54))), some (.int (iI (I 56))), z6, z7]) (st' := [.ref h.length]) rfl rfl ?_
    refine go_a (pc' := 148) (ls' := [some (.ref h.length), some (.int (iI o)), some (.int (iI w)), some (.int (iI y)), some (.int (iI (I 54))), some (.int (iI (I 56))), z6, z7]) (st' := [.int (iI (I 56)), .ref h.length]) rfl rfl ?_
    refine go_put (j := 56) rfl mh_o rfl rfl (show 12 ≤ _ from hc) (show 56 < 86 by decide) rfl rfl ?_
    rw [mh_p56]
    refine go_a (pc' := 152) (ls' := [some (.ref h.length), some (.int (iI o)), some (.int (iI w)), some (.int (iI y)), some (.int (iI (I 54))), some (.int (iI (I 56))), z6, z7]) (st' := [.ref h.length]) rfl rfl ?_
    refine go_a (pc' := 153) (ls' := [some (.ref h.length), some (.int (iI o)), some (.int (iI w)), some (.int (iI y)), some (.int (iI (I 54))), some (.int (iI (I 56))), z6, z7]) (st' := [.ref h.length, .ref h.length]) rfl rfl ?_
    refine go_get rfl mh_o rfl rfl ?_
    refine go_a (pc' := 158) (ls' := [some (.ref h.length), some (.int (iI o)), some (.int (iI w)), some (.int (iI y)), some (.int (iI (I 54))), some (.int (iI (I 56))), z6, z7]) (st' := [.int (iI (I 56)), .ref (h.length + 32), .ref h.length]) rfl rfl ?_
    refine mi_ild rfl mh_a32 (by omega) (by omega) (by decide) ?_
    have B5 : BX FW GB I A N (su I1 56 (I 56)) A1 N := ⟨X.1.1, X.1.2.1, X.1.2.2.1, fun j p q => (su_ne (fun e => q (Or.inr (Or.inl e)))).trans (X.1.2.2.2.1 j p (fun e => q (e.elim Or.inl (fun e => Or.inr (Or.inl e))))), X.1.2.2.2.2⟩
    refine go_v (m := 115) (as := [.ref h.length, .int (iI (A1 32 (I 56)))]) (r := []) rfl rfl rfl mh_o rfl rfl (mm_sizeOf z (d + 3) (A1 32 (I 56)) ar h R (su I1 56 (I 56)) A1 N hc hP1 d3.1 d3.2 X.2.1 d4) (fun v h1 hq => ?_)
    obtain ⟨⟨s, rfl, s0, hs⟩, rfl⟩ := hq
    show xx_go (xt_P z) (d + 6) 162 162 [some (.ref h.length), some (.int (iI o)), some (.int (iI w)), some (.int (iI y)), some (.int (iI (I 54))), some (.int (iI (I 56))), z6, z7] [.int (iI s)] (mh h R (su I1 56 (I 56)) A1 N) _
    refine go_a (pc' := 164) (ls' := [some (.ref h.length), some (.int (iI o)), some (.int (iI w)), some (.int (iI y)), some (.int (iI (I 54))), some (.int (iI (I 56))), z6, z7]) (st' := [.int (iI 120), .int (iI s)]) rfl rfl ?_
    refine mi_le (t := 172) rfl rfl (by omega) (by omega) (by omega) (by omega) (fun q => ?_) (fun q => ?_)
    · refine go_a (pc' := 173) (ls' := [some (.ref h.length), some (.int (iI o)), some (.int (iI w)), some (.int (iI y)), some (.int (iI (I 54))), some (.int (iI (I 56))), z6, z7]) (st' := [.ref h.length]) rfl rfl ?_
      refine go_get rfl mh_o rfl rfl ?_
      refine go_a (pc' := 178) (ls' := [some (.ref h.length), some (.int (iI o)), some (.int (iI w)), some (.int (iI y)), some (.int (iI (I 54))), some (.int (iI (I 56))), z6, z7]) (st' := [.int (iI (I 56)), .ref (h.length + 32)]) rfl rfl ?_
      refine mi_ild rfl mh_a32 (by omega) (by omega) (by decide) ?_
      have CV : I 49 = 0 → TZ A1 ar (A1 32 (I 56)) ≤ 120 → I1 49 = 0 := fun q9 _ => by omega
      exact go_r rfl rfl rfl rfl rfl rfl ⟨A1 32 (I 56), _, A1, rfl, rfl, ⟨B5, X.2.1, ⟨d1, rfl⟩, ⟨d3, d4⟩, d5, ⟨⟨(show 0 ≤ I1 49 by omega), (show I1 49 ≤ 4 by omega)⟩, fun _ => j49, fun _ => by omega⟩, X.2.2.1, X.2.2.2⟩, d6.1, d6.2, CV⟩
    · refine go_a (pc' := 168) (ls' := [some (.ref h.length), some (.int (iI o)), some (.int (iI w)), some (.int (iI y)), some (.int (iI (I 54))), some (.int (iI (I 56))), z6, z7]) (st' := [.ref h.length]) rfl rfl ?_
      refine go_a (pc' := 169) (ls' := [some (.ref h.length), some (.int (iI o)), some (.int (iI w)), some (.int (iI y)), some (.int (iI (I 54))), some (.int (iI (I 56))), z6, z7]) (st' := [.int (iI 4), .ref h.length]) rfl rfl ?_
      refine go_v (m := 128) (as := [.ref h.length, .int (iI 4)]) (r := []) rfl rfl rfl mh_o rfl rfl (mm_fail z (d + 5) 4 h R (su I1 56 (I 56)) A1 N hc (show 0 ≤ I1 49 by omega) (show I1 49 ≤ 4 by omega)) (fun v h1 hq => ?_)
      obtain ⟨rfl, hq⟩ := hq
      rcases hq with ⟨nz, rfl⟩ | ⟨ez, rfl⟩
      · show xx_go (xt_P z) (d + 6) 162 172 [some (.ref h.length), some (.int (iI o)), some (.int (iI w)), some (.int (iI y)), some (.int (iI (I 54))), some (.int (iI (I 56))), z6, z7] [] (mh h R (su I1 56 (I 56)) A1 N) _
        refine go_a (pc' := 173) (ls' := [some (.ref h.length), some (.int (iI o)), some (.int (iI w)), some (.int (iI y)), some (.int (iI (I 54))), some (.int (iI (I 56))), z6, z7]) (st' := [.ref h.length]) rfl rfl ?_
        refine go_get rfl mh_o rfl rfl ?_
        refine go_a (pc' := 178) (ls' := [some (.ref h.length), some (.int (iI o)), some (.int (iI w)), some (.int (iI y)), some (.int (iI (I 54))), some (.int (iI (I 56))), z6, z7]) (st' := [.int (iI (I 56)), .ref (h.length + 32)]) rfl rfl ?_
        refine mi_ild rfl mh_a32 (by omega) (by omega) (by decide) ?_
        have nz : ¬ I1 49 = 0 := nz
        have CV : I 49 = 0 → TZ A1 ar (A1 32 (I 56)) ≤ 120 → I1 49 = 0 := fun q9 q8 => by omega
        exact go_r rfl rfl rfl rfl rfl rfl ⟨A1 32 (I 56), _, A1, rfl, rfl, ⟨B5, X.2.1, ⟨d1, rfl⟩, ⟨d3, d4⟩, d5, ⟨⟨(show 0 ≤ I1 49 by omega), (show I1 49 ≤ 4 by omega)⟩, fun _ => j49, fun q9 => absurd q9 nz⟩, X.2.2.1, X.2.2.2⟩, d6.1, d6.2, CV⟩
      · show xx_go (xt_P z) (d + 6) 162 172 [some (.ref h.length), some (.int (iI o)), some (.int (iI w)), some (.int (iI y)), some (.int (iI (I 54))), some (.int (iI (I 56))), z6, z7] [] (mh h R (su (su I1 56 (I 56)) 49 4) A1 N) _
        refine go_a (pc' := 173) (ls' := [some (.ref h.length), some (.int (iI o)), some (.int (iI w)), some (.int (iI y)), some (.int (iI (I 54))), some (.int (iI (I 56))), z6, z7]) (st' := [.ref h.length]) rfl rfl ?_
        refine go_get rfl mh_o rfl rfl ?_
        refine go_a (pc' := 178) (ls' := [some (.ref h.length), some (.int (iI o)), some (.int (iI w)), some (.int (iI y)), some (.int (iI (I 54))), some (.int (iI (I 56))), z6, z7]) (st' := [.int (iI (I 56)), .ref (h.length + 32)]) rfl rfl ?_
        refine mi_ild rfl mh_a32 (by omega) (by omega) (by decide) ?_
        have ez : I1 49 = 0 := ez
        have CV : I 49 = 0 → TZ A1 ar (A1 32 (I 56)) ≤ 120 → (su (su I1 56 (I 56)) 49 4) 49 = 0 := fun q9 q8 => by omega
        have B6 : BX FW GB I A N (su (su I1 56 (I 56)) 49 4) A1 N := ⟨B5.1, B5.2.1, B5.2.2.1, fun j p q => (su_ne (fun e => q (Or.inr (Or.inr e)))).trans (B5.2.2.2.1 j p q), B5.2.2.2.2⟩
        exact go_r rfl rfl rfl rfl rfl rfl ⟨A1 32 (I 56), _, A1, rfl, rfl, ⟨B6, X.2.1, ⟨d1, rfl⟩, ⟨d3, d4⟩, d5, ⟨⟨(show (0 : Int) ≤ 4 by decide), (show (4 : Int) ≤ 4 by decide)⟩, fun q9 => absurd (j49 ▸ ez) q9, fun q9 => absurd (show (4 : Int) = 0 from q9) (by decide)⟩, X.2.2.1, X.2.2.2⟩, d6.1, d6.2, CV⟩
  refine cl_go rfl ?_
  show xx_go (xt_P z) (d + 6) 162 0 [some (.ref h.length), some (.int (iI o)), some (.int (iI w)), some (.int (iI y)), none, none, none, none] [] (mh h R I A N) _
  refine go_a (pc' := 1) (ls' := [some (.ref h.length), some (.int (iI o)), some (.int (iI w)), some (.int (iI y)), none, none, none, none]) (st' := [.ref h.length]) rfl rfl ?_
  refine go_get (v := .int (iI (I 54))) rfl mh_o rfl rfl ?_
  refine go_a (pc' := 6) (ls' := [some (.ref h.length), some (.int (iI o)), some (.int (iI w)), some (.int (iI y)), some (.int (iI (I 54))), none, none, none]) (st' := []) rfl rfl ?_
  refine go_a (pc' := 7) (ls' := [some (.ref h.length), some (.int (iI o)), some (.int (iI w)), some (.int (iI y)), some (.int (iI (I 54))), none, none, none]) (st' := [.ref h.length]) rfl rfl ?_
  refine go_get (v := .int (iI (I 56))) rfl mh_o rfl rfl ?_
  refine go_a (pc' := 12) (ls' := [some (.ref h.length), some (.int (iI o)), some (.int (iI w)), some (.int (iI y)), some (.int (iI (I 54))), some (.int (iI (I 56))), none, none]) (st' := []) rfl rfl ?_
  refine go_a (pc' := 13) (ls' := [some (.ref h.length), some (.int (iI o)), some (.int (iI w)), some (.int (iI y)), some (.int (iI (I 54))), some (.int (iI (I 56))), none, none]) (st' := [.ref h.length]) rfl rfl ?_
  refine go_a (pc' := 14) (ls' := [some (.ref h.length), some (.int (iI o)), some (.int (iI w)), some (.int (iI y)), some (.int (iI (I 54))), some (.int (iI (I 56))), none, none]) (st' := [.int (iI o), .ref h.length]) rfl rfl ?_
  refine go_a (pc' := 15) (ls' := [some (.ref h.length), some (.int (iI o)), some (.int (iI w)), some (.int (iI y)), some (.int (iI (I 54))), some (.int (iI (I 56))), none, none]) (st' := [.int (iI w), .int (iI o), .ref h.length]) rfl rfl ?_
  refine go_a (pc' := 16) (ls' := [some (.ref h.length), some (.int (iI o)), some (.int (iI w)), some (.int (iI y)), some (.int (iI (I 54))), some (.int (iI (I 56))), none, none]) (st' := [.int (iI y), .int (iI w), .int (iI o), .ref h.length]) rfl rfl ?_
  refine go_v (m := 163) (as := [.ref h.length, .int (iI o), .int (iI w), .int (iI y)]) (r := []) rfl rfl rfl mh_o rfl rfl (mm_beginInstanceR z (d + 3) ar o w y h R I A N hc hP k0 k1 hR hk w0 w1 y0 hw b0 (by omega) c0 (by omega)) (fun v h1 hq => ?_)
  obtain ⟨rfl, hq⟩ := hq
  rcases hq with ⟨t, ⟨⟨t0, t1⟩, tb⟩, rfl⟩ | ⟨⟨cl, clw⟩, rfl⟩
  · show xx_go (xt_P z) (d + 6) 162 19 [some (.ref h.length), some (.int (iI o)), some (.int (iI w)), some (.int (iI y)), some (.int (iI (I 54))), some (.int (iI (I 56))), none, none] [] (mh h R ((su I 56 (I 56 + 1))) ((sa A 32 (I 56) t)) N) _
    have tz3 := TZ_124 (A := A) (A1 := (sa A 32 (I 56) t)) (ar := ar) rfl rfl rfl
    have v : (sa A 32 (I 56) t) 32 (I 56) = t := sf_self
    have X3 : AX ar (I 54) (I 56) I A N (su I 56 (I 56 + 1)) (sa A 32 (I 56) t) := by
      refine ⟨⟨hS, Int.le_refl _, fun k _ _ => ⟨rfl, rfl, rfl, id⟩, fun j p q => su_ne (fun e => q (Or.inr e)), fun a q1 q2 q3 q4 q5 q6 q7 => sa_ne (fun e => q7 (Or.inr (Or.inr (Or.inr e))))⟩, ?_, fun q q0 q1 => ⟨rfl, rfl, rfl⟩, fun q q0 q1 => ?_⟩
      · exact SZI_124 hZ rfl rfl rfl rfl
      · show sf (A 32) (I 56) t q = A 32 q
        rw [sf_ne (by omega)]
    exact fin (su I 56 (I 56 + 1)) (sa A 32 (I 56) t) _ _ X3 rfl rfl (by rw [v]; exact t0) (by rw [v, tz3.1]; exact t1) (show I 7 ≤ I 7 + (2 * TZ A ar o - 2) by omega) ⟨by rw [v, RLU_12 (A := A) (A1 := (sa A 32 (I 56) t)) rfl rfl rfl rfl]; exact RLU_leaf hS hN hP k0 k1 hC tb, Or.inl rfl⟩
  · show xx_go (xt_P z) (d + 6) 162 19 [some (.ref h.length), some (.int (iI o)), some (.int (iI w)), some (.int (iI y)), some (.int (iI (I 54))), some (.int (iI (I 56))), none, none] [] (mh h R ((su I 54 (I 54 + 1))) ((sa (sa (sa A 29 (I 54) o) 30 (I 54) (A 2 o)) 31 (I 54) (I 56))) N) _
    have qa := hP.2 o k0 k1
    have qb := qa.2.2.2.2 cl.1
    have tc := TZ_call (ar := ar) hP k0 k1 cl.1 cl.2
    have td : 0 ≤ LZ A ar (A 2 o) ∧ CZ A ar (A 2 o) = ar (A 1 o) ∧ A 4 o ≠ 0 := by
      by_cases c : 0 ≤ LZ A ar (A 2 o) ∧ CZ A ar (A 2 o) = ar (A 1 o) ∧ A 4 o ≠ 0
      · exact c
      · rw [if_neg c] at tc
        omega
    rw [if_pos td] at tc
    have tz4 := TZ_124 (A := A) (A1 := (sa (sa (sa A 29 (I 54) o) 30 (I 54) (A 2 o)) 31 (I 54) (I 56))) (ar := ar) rfl rfl rfl
    have i54 : I 54 + 1 - 1 = I 54 := by omega
    have d29 : (sa (sa (sa A 29 (I 54) o) 30 (I 54) (A 2 o)) 31 (I 54) (I 56)) 29 (I 54 + 1 - 1) = o := by rw [i54]; exact sf_self
    have d30 : (sa (sa (sa A 29 (I 54) o) 30 (I 54) (A 2 o)) 31 (I 54) (I 56)) 30 (I 54 + 1 - 1) = A 2 o := by rw [i54]; exact sf_self
    have d31 : (sa (sa (sa A 29 (I 54) o) 30 (I 54) (A 2 o)) 31 (I 54) (I 56)) 31 (I 54 + 1 - 1) = I 56 := by rw [i54]; exact sf_self
    have R4 : PR ar (su I 54 (I 54 + 1)) (sa (sa (sa A 29 (I 54) o) 30 (I 54) (A 2 o)) 31 (I 54) (I 56)) := by
      refine ⟨hR.1, fun q q0 q1 => ?_⟩
      rw [tz4.1]
      exact hR.2 q q0 q1
    have Z4 : SZI ar (su I 54 (I 54 + 1)) (sa (sa (sa A 29 (I 54) o) 30 (I 54) (A 2 o)) 31 (I 54) (I 56)) := by
      exact SZI_124 hZ rfl rfl rfl rfl
    have n0 : A 1 0 < 0 := by rw [hN.2 0 (by decide) (by decide)]; decide
    have az0 : ar (A 1 (o)) = 0 → A 2 (o) = 0 := fun az => by
      have il := (LZ_isL (ar := ar) hP n0 _ (A 2 (o)) (Nat.lt_succ_self _) (by omega) (by omega) td.1).1
      rw [show (CZ A ar (A 2 (o))).toNat = 0 by omega] at il
      exact il
    have F4 : FRM ar (su I 54 (I 54 + 1)) (sa (sa (sa A 29 (I 54) o) 30 (I 54) (A 2 o)) 31 (I 54) (I 56)) := by
      show (0 ≤ (sa (sa (sa A 29 (I 54) o) 30 (I 54) (A 2 o)) 31 (I 54) (I 56)) 29 (I 54 + 1 - 1) ∧ (sa (sa (sa A 29 (I 54) o) 30 (I 54) (A 2 o)) 31 (I 54) (I 56)) 29 (I 54 + 1 - 1) < I 7) ∧ (0 ≤ A 1 ((sa (sa (sa A 29 (I 54) o) 30 (I 54) (A 2 o)) 31 (I 54) (I 56)) 29 (I 54 + 1 - 1)) ∧ A 1 ((sa (sa (sa A 29 (I 54) o) 30 (I 54) (A 2 o)) 31 (I 54) (I 56)) 29 (I 54 + 1 - 1)) ≠ 2) ∧ (0 ≤ (sa (sa (sa A 29 (I 54) o) 30 (I 54) (A 2 o)) 31 (I 54) (I 56)) 30 (I 54 + 1 - 1) ∧ (sa (sa (sa A 29 (I 54) o) 30 (I 54) (A 2 o)) 31 (I 54) (I 56)) 30 (I 54 + 1 - 1) < I 7) ∧ 0 ≤ LZ (sa (sa (sa A 29 (I 54) o) 30 (I 54) (A 2 o)) 31 (I 54) (I 56)) ar ((sa (sa (sa A 29 (I 54) o) 30 (I 54) (A 2 o)) 31 (I 54) (I 56)) 30 (I 54 + 1 - 1)) ∧ (0 ≤ (sa (sa (sa A 29 (I 54) o) 30 (I 54) (A 2 o)) 31 (I 54) (I 56)) 31 (I 54 + 1 - 1) ∧ (sa (sa (sa A 29 (I 54) o) 30 (I 54) (A 2 o)) 31 (I 54) (I 56)) 31 (I 54 + 1 - 1) ≤ I 56) ∧ (∀ q : Int, (sa (sa (sa A 29 (I 54) o) 30 (I 54) (A 2 o)) 31 (I 54) (I 56)) 31 (I 54 + 1 - 1) ≤ q → q < I 56 → (0 ≤ A 32 q ∧ A 32 q < I 7) ∧ 1 ≤ TZ (sa (sa (sa A 29 (I 54) o) 30 (I 54) (A 2 o)) 31 (I 54) (I 56)) ar (A 32 q)) ∧ (I 56 - (sa (sa (sa A 29 (I 54) o) 30 (I 54) (A 2 o)) 31 (I 54) (I 56)) 31 (I 54 + 1 - 1)) + CZ (sa (sa (sa A 29 (I 54) o) 30 (I 54) (A 2 o)) 31 (I 54) (I 56)) ar ((sa (sa (sa A 29 (I 54) o) 30 (I 54) (A 2 o)) 31 (I 54) (I 56)) 30 (I 54 + 1 - 1)) = ar (A 1 ((sa (sa (sa A 29 (I 54) o) 30 (I 54) (A 2 o)) 31 (I 54) (I 56)) 29 (I 54 + 1 - 1))) ∧ (ar (A 1 ((sa (sa (sa A 29 (I 54) o) 30 (I 54) (A 2 o)) 31 (I 54) (I 56)) 29 (I 54 + 1 - 1))) = 0 → A 2 ((sa (sa (sa A 29 (I 54) o) 30 (I 54) (A 2 o)) 31 (I 54) (I 56)) 29 (I 54 + 1 - 1)) = 0)
      rw [d29, d30, d31, tz4.2.1, tz4.2.2]
      exact ⟨⟨k0, k1⟩, cl, ⟨by omega, by omega⟩, td.1, ⟨b0, Int.le_refl _⟩, fun q q0 q1 => absurd q1 (by omega), by omega, az0⟩
    have M4 : CZ (sa (sa (sa A 29 (I 54) o) 30 (I 54) (A 2 o)) 31 (I 54) (I 56)) ar ((sa (sa (sa A 29 (I 54) o) 30 (I 54) (A 2 o)) 31 (I 54) (I 56)) 30 ((su I 54 (I 54 + 1)) 54 - 1)) = CZ A ar (A 2 o) := by
      show CZ (sa (sa (sa A 29 (I 54) o) 30 (I 54) (A 2 o)) 31 (I 54) (I 56)) ar ((sa (sa (sa A 29 (I 54) o) 30 (I 54) (A 2 o)) 31 (I 54) (I 56)) 30 (I 54 + 1 - 1)) = _
      rw [d30, tz4.2.2]
    have C4 : PCU w y e0 e1 e2 im N (su I 54 (I 54 + 1)) (sa (sa (sa A 29 (I 54) o) 30 (I 54) (A 2 o)) 31 (I 54) (I 56)) := PCU_12 hC rfl rfl rfl rfl rfl rfl rfl rfl
    have FR4 : FRR w e0 e1 e2 im N ar (su I 54 (I 54 + 1)) (sa (sa (sa A 29 (I 54) o) 30 (I 54) (A 2 o)) 31 (I 54) (I 56)) := by
      refine ⟨F4, (show (sa (sa (sa A 29 (I 54) o) 30 (I 54) (A 2 o)) 31 (I 54) (I 56)) 29 (I 54 + 1 - 1) ≠ w by rw [d29]; exact clw), 0, (CZ A ar (A 2 o)).toNat, ?_, ?_, ?_, Nat.zero_le _, fun j hj => absurd hj (by omega)⟩
      · show ((0 : Nat) : Int) = I 56 - (sa (sa (sa A 29 (I 54) o) 30 (I 54) (A 2 o)) 31 (I 54) (I 56)) 31 (I 54 + 1 - 1)
        rw [d31]
        omega
      · show (sa (sa (sa A 29 (I 54) o) 30 (I 54) (A 2 o)) 31 (I 54) (I 56)) 30 (I 54 + 1 - 1) = A 2 ((sa (sa (sa A 29 (I 54) o) 30 (I 54) (A 2 o)) 31 (I 54) (I 56)) 29 (I 54 + 1 - 1))
        rw [d30, d29]
      · show isL (sa (sa (sa A 29 (I 54) o) 30 (I 54) (A 2 o)) 31 (I 54) (I 56)) _ (A 2 ((sa (sa (sa A 29 (I 54) o) 30 (I 54) (A 2 o)) 31 (I 54) (I 56)) 29 (I 54 + 1 - 1)))
        rw [d29]
        exact isL_12a (A := A) (A1 := (sa (sa (sa A 29 (I 54) o) 30 (I 54) (A 2 o)) 31 (I 54) (I 56))) rfl rfl _ _ (LZ_isL hP n0 _ _ (Nat.lt_succ_self _) (by omega) (by omega) td.1).1
    have L4 : LZ (sa (sa (sa A 29 (I 54) o) 30 (I 54) (A 2 o)) 31 (I 54) (I 56)) ar ((sa (sa (sa A 29 (I 54) o) 30 (I 54) (A 2 o)) 31 (I 54) (I 56)) 30 ((su I 54 (I 54 + 1)) 54 - 1)) = LZ A ar (A 2 o) := by
      show LZ (sa (sa (sa A 29 (I 54) o) 30 (I 54) (A 2 o)) 31 (I 54) (I 56)) ar ((sa (sa (sa A 29 (I 54) o) 30 (I 54) (A 2 o)) 31 (I 54) (I 56)) 30 (I 54 + 1 - 1)) = _
      rw [d30, tz4.2.1]
    have X4 : AX ar (I 54) (I 56) I A N (su I 54 (I 54 + 1)) (sa (sa (sa A 29 (I 54) o) 30 (I 54) (A 2 o)) 31 (I 54) (I 56)) := by
      refine ⟨⟨hS, Int.le_refl _, fun k _ _ => ⟨rfl, rfl, rfl, id⟩, fun j p q => su_ne (fun e => q (Or.inl e)), fun a q1 q2 q3 q4 q5 q6 q7 => ((sa_ne (fun e => q7 (Or.inr (Or.inr (Or.inl e))))).trans (sa_ne (fun e => q7 (Or.inr (Or.inl e))))).trans (sa_ne (fun e => q7 (Or.inl e)))⟩, Z4, fun q q0 q1 => ⟨?_, ?_, ?_⟩, fun q q0 q1 => rfl⟩
      · show sf (A 29) (I 54) _ q = A 29 q
        rw [sf_ne (by omega)]
      · show sf (A 30) (I 54) _ q = A 30 q
        rw [sf_ne (by omega)]
      · show sf (A 31) (I 54) _ q = A 31 q
        rw [sf_ne (by omega)]
    refine mm_anewR_loop z d ar e0 e1 e2 im o w y (I 54) (I 56) h R N hc _ w0 w1 y0 c0 (TZ A ar o).toNat (su I 54 (I 54 + 1)) (sa (sa (sa A 29 (I 54) o) 30 (I 54) (A 2 o)) 31 (I 54) (I 56)) _ _ hS hN Z4 R4 (by rw [tz4.1]; exact hw) C4 FR4 (show I 54 < I 54 + 1 by omega) (by rw [L4]; omega) (show I 54 + 1 + _ ≤ 1199 by rw [L4]; omega) (show I 56 + _ ≤ 2399 by rw [L4]; omega) (show I 7 + _ + (I 56 - (sa (sa (sa A 29 (I 54) o) 30 (I 54) (A 2 o)) 31 (I 54) (I 56)) 31 (I 54 + 1 - 1)) + 1 ≤ 140000 by rw [L4, d31]; omega) (fun I5 A5 z6 z7 X c1 c2 c3 c4 c5 c6 => ?_)
    have X : AX ar (I 54 + 1 - 1) ((sa (sa (sa A 29 (I 54) o) 30 (I 54) (A 2 o)) 31 (I 54) (I 56)) 31 (I 54 + 1 - 1)) (su I 54 (I 54 + 1)) (sa (sa (sa A 29 (I 54) o) 30 (I 54) (A 2 o)) 31 (I 54) (I 56)) N I5 A5 := X
    rw [d31, i54] at X
    have c1 : I5 54 = I 54 := by have c1 : I5 54 = I 54 + 1 - 1 := c1; omega
    have c2 : I5 56 = (sa (sa (sa A 29 (I 54) o) 30 (I 54) (A 2 o)) 31 (I 54) (I 56)) 31 (I 54 + 1 - 1) + 1 := c2
    have c3 : 0 ≤ A5 32 ((sa (sa (sa A 29 (I 54) o) 30 (I 54) (A 2 o)) 31 (I 54) (I 56)) 31 (I 54 + 1 - 1)) ∧ A5 32 ((sa (sa (sa A 29 (I 54) o) 30 (I 54) (A 2 o)) 31 (I 54) (I 56)) 31 (I 54 + 1 - 1)) < I5 7 := c3
    have c4 : 1 ≤ TZ A5 ar (A5 32 ((sa (sa (sa A 29 (I 54) o) 30 (I 54) (A 2 o)) 31 (I 54) (I 56)) 31 (I 54 + 1 - 1))) := c4
    have c5 : I5 7 ≤ I 7 + 2 * LZ (sa (sa (sa A 29 (I 54) o) 30 (I 54) (A 2 o)) 31 (I 54) (I 56)) ar ((sa (sa (sa A 29 (I 54) o) 30 (I 54) (A 2 o)) 31 (I 54) (I 56)) 30 ((su I 54 (I 54 + 1)) 54 - 1)) - CZ (sa (sa (sa A 29 (I 54) o) 30 (I 54) (A 2 o)) 31 (I 54) (I 56)) ar ((sa (sa (sa A 29 (I 54) o) 30 (I 54) (A 2 o)) 31 (I 54) (I 56)) 30 ((su I 54 (I 54 + 1)) 54 - 1)) + (I 56 - (sa (sa (sa A 29 (I 54) o) 30 (I 54) (A 2 o)) 31 (I 54) (I 56)) 31 (I 54 + 1 - 1)) + 1 ∧ (ar (A 1 ((sa (sa (sa A 29 (I 54) o) 30 (I 54) (A 2 o)) 31 (I 54) (I 56)) 29 (I 54 + 1 - 1))) = 0 → I5 7 ≤ I 7) := c5
    have c6 : RLU e0 e1 e2 im N A5 ((sa (sa (sa A 29 (I 54) o) 30 (I 54) (A 2 o)) 31 (I 54) (I 56)) 29 (I 54 + 1 - 1)) (A5 32 ((sa (sa (sa A 29 (I 54) o) 30 (I 54) (A 2 o)) 31 (I 54) (I 56)) 31 (I 54 + 1 - 1))) ∧ (I5 7 = I 7 ∨ I 7 ≤ A5 32 ((sa (sa (sa A 29 (I 54) o) 30 (I 54) (A 2 o)) 31 (I 54) (I 56)) 31 (I 54 + 1 - 1))) ∧ _ := c6
    rw [d29, d31] at c6
    rw [d31] at c2 c3 c4 c5
    rw [L4, M4, d29] at c5
    have cz2 := CZ_nn (ar := ar) hP _ (A 2 o) (Nat.lt_succ_self _) (by omega) (by omega)
    have c5 : I5 7 ≤ I 7 + 2 * TZ A ar o - 2 := by omega
    exact fin I5 A5 z6 z7 (AX_tr X4 X) c1 c2 c3 c4 (by omega) ⟨c6.1, c6.2.1⟩
theorem mm_instanceR (z : Value) (d : Nat) (ar : Int → Int) (e0 e1 e2 : Prop) (im : ob_T → ob_T × ob_T) (o : Int) (h R : xx_H) (I : Nat → Int) (A : Nat → Int → Int) (N : Int → Int) (hc : 12 ≤ h.length) (hS : MST I A N) (hN : NM I A) (hZ : SZI ar I A) (hR : PR ar I A) (k0 : 0 ≤ o) (k1 : o < I 7) (hk : 1 ≤ TZ A ar o) (hC : PCU (-1) (-1) e0 e1 e2 im N I A) (c0 : 0 ≤ I 54) (c1 : I 54 + TZ A ar o ≤ 1199) (b0 : 0 ≤ I 56) (b1 : I 56 + TZ A ar o ≤ 2399) (ho : I 7 + 2 * TZ A ar o ≤ 140000) (u0 : 0 ≤ I 49) (u1 : I 49 ≤ 4) : xx_cl (xt_P z) (d + 8) 161 [.ref h.length, .int (iI o)] (mh h R I A N) (fun v h1 => ∃ (t : Int) (I1 : Nat → Int) (A1 : Nat → Int → Int), v = some (.int (iI t)) ∧ h1 = mh h R I1 A1 N ∧ MK ar (2 * TZ A ar o - 2) t I A N I1 A1 ∧ RLU e0 e1 e2 im N A1 o t ∧ (I1 7 = I 7 ∨ I 7 ≤ t) ∧ (I 49 = 0 → TZ A1 ar t ≤ 120 → I1 49 = 0)) := by
  refine cl_go rfl ?_
  show xx_go (xt_P z) (d + 7) 161 0 [some (.ref h.length), some (.int (iI o))] [] (mh h R I A N) _
  refine go_a (pc' := 1) (ls' := [some (.ref h.length), some (.int (iI o))]) (st' := [.ref h.length]) rfl rfl ?_
  refine go_a (pc' := 2) (ls' := [some (.ref h.length), some (.int (iI o))]) (st' := [.int (iI o), .ref h.length]) rfl rfl ?_
  refine go_a (pc' := 3) (ls' := [some (.ref h.length), some (.int (iI o))]) (st' := [.int (iI ((-1))), .int (iI o), .ref h.length]) rfl rfl ?_
  refine go_a (pc' := 4) (ls' := [some (.ref h.length), some (.int (iI o))]) (st' := [.int (iI ((-1))), .int (iI ((-1))), .int (iI o), .ref h.length]) rfl rfl ?_
  refine go_v (m := 162) (as := [.ref h.length, .int (iI o), .int (iI ((-1))), .int (iI ((-1)))]) (r := []) rfl rfl rfl mh_o rfl rfl (mm_anewR z d ar e0 e1 e2 im o (-1) (-1) h R I A N hc hS hN hZ hR k0 k1 hk (by decide) (by decide) (by decide) (fun q => absurd q (by decide)) hC c0 c1 b0 b1 ho u0 u1) (fun v h1 hq => ?_)
  obtain ⟨t, I1, A1, rfl, rfl, K⟩ := hq
  exact go_r rfl rfl rfl rfl rfl rfl ⟨t, I1, A1, rfl, rfl, K⟩

