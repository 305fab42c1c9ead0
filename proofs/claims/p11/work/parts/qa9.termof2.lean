def TK (ar : Int → Int) (n o t : Int) (I : Nat → Int) (A : Nat → Int → Int) (N : Int → Int) (I1 : Nat → Int) (A1 : Nat → Int → Int) : Prop := BX FB GT I A N I1 A1 N ∧ SZI ar I1 A1 ∧ (I1 54 = I 54 ∧ I1 56 = I 56) ∧ I1 7 ≤ I 7 + n ∧ ((t = -1 ∧ ¬ (1 ≤ TS A ar o ∧ TS A ar o ≤ 120)) ∨ ((0 ≤ t ∧ t < I1 7) ∧ 1 ≤ TZ A1 ar t ∧ TZ A1 ar t ≤ 120 ∧ TZ A1 ar t = TS A ar o ∧ TS A ar o ≤ WD A o ∧ NFT A1 o t))
theorem mm_termOf (z : Value) (d : Nat) (ar : Int → Int) (o : Int) (h R : xx_H) (I : Nat → Int) (A : Nat → Int → Int) (N : Int → Int) (hc : 12 ≤ h.length) (hS : MST I A N) (hN : NM I A) (hZ : SZI ar I A) (hA : AR ar I A) (hQ : ARF ar I A) (k0 : 0 ≤ o) (k1 : o < I 7) (c0 : 0 ≤ I 54) (c1 : I 54 + WD A o ≤ 1199) (b0 : 0 ≤ I 56) (b1 : I 56 + WD A o ≤ 2399) (ho : I 7 + 2 * WD A o ≤ 140000) : xx_cl (xt_P z) (d + 8) 105 [.ref h.length, .int (iI o)] (mh h R I A N) (fun v h1 => ∃ (t : Int) (I1 : Nat → Int) (A1 : Nat → Int → Int), v = some (.int (iI t)) ∧ h1 = mh h R I1 A1 N ∧ TK ar (2 * WD A o - 2 - PT A o) o t I A N I1 A1) := by
  have hP := MST_PW hS
  have p1 := hP.1
  have wo := WD_1 hP k0 k1
  have n0 : A 1 0 < 0 := by rw [hN.2 0 (by decide) (by decide)]; decide
  have n2 : A 1 2 < 0 := by rw [hN.2 2 (by decide) (by decide)]; decide
  have po := PT_b hP n0 n2 k0 k1
  have tle := (TS_le (ar := ar) hP (o.toNat + 1) o (Nat.lt_succ_self _) k0 k1).1.2
  have finB : ∀ (I1 : Nat → Int) (A1 : Nat → Int → Int) (z6 z7 : Option Value), BX FB GT I A N I1 A1 N → SZI ar I1 A1 → (I 54 ≤ I1 54 ∧ I1 54 ≤ 1200) → I1 7 ≤ I 7 + (2 * WD A o - 2 - PT A o) → TS A ar o = 0 → xx_go (xt_P z) (d + 7) 105 17 [some (.ref h.length), some (.int (iI o)), some (.int (iI (I 54))), some (.int (iI (I 56))), some (.int (iI 0)), z6, z7] [] (mh h R I1 A1 N) (fun v h1 => ∃ (t : Int) (I1 : Nat → Int) (A1 : Nat → Int → Int), v = some (.int (iI t)) ∧ h1 = mh h R I1 A1 N ∧ TK ar (2 * WD A o - 2 - PT A o) o t I A N I1 A1) := by
    intro I1 A1 z6 z7 X Z r54 e5 t0
    have B5 : BX FB GT I A N (su (su I1 54 (I 54)) 56 (I 56)) A1 N := ⟨X.1, X.2.1, X.2.2.1, fun j p q => ((su_ne (fun e => q (Or.inr e))).trans (su_ne (fun e => q (Or.inl e)))).trans (X.2.2.2.1 j p q), X.2.2.2.2⟩
    have out : xx_go (xt_P z) (d + 7) 105 147 [some (.ref h.length), some (.int (iI o)), some (.int (iI (I 54))), some (.int (iI (I 56))), some (.int (iI 0)), z6, z7] [] (mh h R I1 A1 N) (fun v h1 => ∃ (t : Int) (I1 : Nat → Int) (A1 : Nat → Int → Int), v = some (.int (iI t)) ∧ h1 = mh h R I1 A1 N ∧ TK ar (2 * WD A o - 2 - PT A o) o t I A N I1 A1) := by
      refine go_a (pc' := 148) (ls' := [some (.ref h.length), some (.int (iI o)), some (.int (iI (I 54))), some (.int (iI (I 56))), some (.int (iI 0)), z6, z7]) (st' := [.ref h.length]) rfl rfl ?_
      refine go_a (pc' := 149) (ls' := [some (.ref h.length), some (.int (iI o)), some (.int (iI (I 54))), some (.int (iI (I 56))), some (.int (iI 0)), z6, z7]) (st' := [.int (iI (I 54)), .ref h.length]) rfl rfl ?_
      refine go_put (j := 54) rfl mh_o rfl rfl (show 12 ≤ _ from hc) (show 54 < 86 by decide) rfl rfl ?_
      rw [mh_p54]
      refine go_a (pc' := 153) (ls' := [some (.ref h.length), some (.int (iI o)), some (.int (iI (I 54))), some (.int (iI (I 56))), some (.int (iI 0)), z6, z7]) (st' := [.ref h.length]) rfl rfl ?_
      refine go_a (pc' := 154) (ls' := [some (.ref h.length), some (.int (iI o)), some (.int (iI (I 54))), some (.int (iI (I 56))), some (.int (iI 0)), z6, z7]) (st' := [.int (iI (I 56)), .ref h.length]) rfl rfl ?_
      refine go_put (j := 56) rfl mh_o rfl rfl (show 12 ≤ _ from hc) (show 56 < 86 by decide) rfl rfl ?_
      rw [mh_p56]
      refine go_a (pc' := 159) (ls' := [some (.ref h.length), some (.int (iI o)), some (.int (iI (I 54))), some (.int (iI (I 56))), some (.int (iI 0)), z6, z7]) (st' := [.int (iI 0)]) rfl rfl ?_
      refine mi_eq0 (t := 186) rfl rfl (by omega) (by omega) (fun _ => ?_) (fun q => absurd rfl q)
      refine go_a (pc' := 187) (ls' := [some (.ref h.length), some (.int (iI o)), some (.int (iI (I 54))), some (.int (iI (I 56))), some (.int (iI 0)), z6, z7]) (st' := [.int (iI ((-1)))]) rfl rfl ?_
      exact go_r rfl rfl rfl rfl rfl rfl ⟨-1, _, A1, rfl, rfl, B5, Z, ⟨rfl, rfl⟩, e5, Or.inl ⟨rfl, by omega⟩⟩
    refine go_a (pc' := 18) (ls' := [some (.ref h.length), some (.int (iI o)), some (.int (iI (I 54))), some (.int (iI (I 56))), some (.int (iI 0)), z6, z7]) (st' := [.ref h.length]) rfl rfl ?_
    refine go_get (v := .int (iI (I1 54))) rfl mh_o rfl rfl ?_
    refine go_a (pc' := 22) (ls' := [some (.ref h.length), some (.int (iI o)), some (.int (iI (I 54))), some (.int (iI (I 56))), some (.int (iI 0)), z6, z7]) (st' := [.int (iI (I 54)), .int (iI (I1 54))]) rfl rfl ?_
    refine mi_le (t := 147) rfl rfl (by omega) (by omega) (by omega) (by omega) (fun _ => out) (fun _ => ?_)
    refine go_a (pc' := 27) (ls' := [some (.ref h.length), some (.int (iI o)), some (.int (iI (I 54))), some (.int (iI (I 56))), some (.int (iI 0)), z6, z7]) (st' := [.int (iI 0)]) rfl rfl ?_
    exact mi_eq0 (t := 147) rfl rfl (by omega) (by omega) (fun _ => out) (fun q => absurd rfl q)
  have finG : ∀ (I1 : Nat → Int) (A1 : Nat → Int → Int) (z6 z7 : Option Value), BX FB GT I A N I1 A1 N → SZI ar I1 A1 → I1 54 = I 54 → (0 ≤ A1 32 (I 56) ∧ A1 32 (I 56) < I1 7) → (1 ≤ TZ A1 ar (A1 32 (I 56)) ∧ TZ A1 ar (A1 32 (I 56)) = TS A ar o ∧ NFT A1 o (A1 32 (I 56))) → I1 7 ≤ I 7 + (2 * WD A o - 2 - PT A o) → xx_go (xt_P z) (d + 7) 105 17 [some (.ref h.length), some (.int (iI o)), some (.int (iI (I 54))), some (.int (iI (I 56))), some (.int (iI 1)), z6, z7] [] (mh h R I1 A1 N) (fun v h1 => ∃ (t : Int) (I1 : Nat → Int) (A1 : Nat → Int → Int), v = some (.int (iI t)) ∧ h1 = mh h R I1 A1 N ∧ TK ar (2 * WD A o - 2 - PT A o) o t I A N I1 A1) := by
    intro I1 A1 z6 z7 X Z e1 e3 e4 e5
    have hP1 := MST_PW X.1
    have q1 := hP1.1
    have B5 : BX FB GT I A N (su (su I1 54 (I 54)) 56 (I 56)) A1 N := ⟨X.1, X.2.1, X.2.2.1, fun j p q => ((su_ne (fun e => q (Or.inr e))).trans (su_ne (fun e => q (Or.inl e)))).trans (X.2.2.2.1 j p q), X.2.2.2.2⟩
    refine go_a (pc' := 18) (ls' := [some (.ref h.length), some (.int (iI o)), some (.int (iI (I 54))), some (.int (iI (I 56))), some (.int (iI 1)), z6, z7]) (st' := [.ref h.length]) rfl rfl ?_
    refine go_get (v := .int (iI (I1 54))) rfl mh_o rfl rfl ?_
    refine go_a (pc' := 22) (ls' := [some (.ref h.length), some (.int (iI o)), some (.int (iI (I 54))), some (.int (iI (I 56))), some (.int (iI 1)), z6, z7]) (st' := [.int (iI (I 54)), .int (iI (I1 54))]) rfl rfl ?_
    refine mi_le (t := 147) rfl rfl (by omega) (by omega) (by omega) (by omega) (fun _ => ?_) (fun q => absurd (show I1 54 ≤ I 54 by omega) q)
    refine go_a (pc' := 148) (ls' := [some (.ref h.length), some (.int (iI o)), some (.int (iI (I 54))), some (.int (iI (I 56))), some (.int (iI 1)), z6, z7]) (st' := [.ref h.length]) rfl rfl ?_
    refine go_a (pc' := 149) (ls' := [some (.ref h.length), some (.int (iI o)), some (.int (iI (I 54))), some (.int (iI (I 56))), some (.int (iI 1)), z6, z7]) (st' := [.int (iI (I 54)), .ref h.length]) rfl rfl ?_
    refine go_put (j := 54) rfl mh_o rfl rfl (show 12 ≤ _ from hc) (show 54 < 86 by decide) rfl rfl ?_
    rw [mh_p54]
    refine go_a (pc' := 153) (ls' := [some (.ref h.length), some (.int (iI o)), some (.int (iI (I 54))), some (.int (iI (I 56))), some (.int (iI 1)), z6, z7]) (st' := [.ref h.length]) rfl rfl ?_
    refine go_a (pc' := 154) (ls' := [some (.ref h.length), some (.int (iI o)), some (.int (iI (I 54))), some (.int (iI (I 56))), some (.int (iI 1)), z6, z7]) (st' := [.int (iI (I 56)), .ref h.length]) rfl rfl ?_
    refine go_put (j := 56) rfl mh_o rfl rfl (show 12 ≤ _ from hc) (show 56 < 86 by decide) rfl rfl ?_
    rw [mh_p56]
    refine go_a (pc' := 159) (ls' := [some (.ref h.length), some (.int (iI o)), some (.int (iI (I 54))), some (.int (iI (I 56))), some (.int (iI 1)), z6, z7]) (st' := [.int (iI 1)]) rfl rfl ?_
    refine mi_eq0 (t := 186) rfl rfl (by omega) (by omega) (fun q => absurd q (by decide)) (fun _ => ?_)
    refine go_a (pc' := 163) (ls' := [some (.ref h.length), some (.int (iI o)), some (.int (iI (I 54))), some (.int (iI (I 56))), some (.int (iI 1)), z6, z7]) (st' := [.ref h.length]) rfl rfl ?_
    refine go_a (pc' := 164) (ls' := [some (.ref h.length), some (.int (iI o)), some (.int (iI (I 54))), some (.int (iI (I 56))), some (.int (iI 1)), z6, z7]) (st' := [.ref h.length, .ref h.length]) rfl rfl ?_
    refine go_get rfl mh_o rfl rfl ?_
    refine go_a (pc' := 168) (ls' := [some (.ref h.length), some (.int (iI o)), some (.int (iI (I 54))), some (.int (iI (I 56))), some (.int (iI 1)), z6, z7]) (st' := [.int (iI (I 56)), .ref (h.length + 32), .ref h.length]) rfl rfl ?_
    refine mi_ild rfl mh_a32 (by omega) (by omega) (by decide) ?_
    refine go_v (m := 115) (as := [.ref h.length, .int (iI (A1 32 (I 56)))]) (r := []) rfl rfl rfl mh_o rfl rfl (mm_sizeOf z (d + 4) (A1 32 (I 56)) ar h R (su (su I1 54 (I 54)) 56 (I 56)) A1 N hc hP1 e3.1 e3.2 Z e4.1) (fun v h1 hq => ?_)
    obtain ⟨⟨s, rfl, s0, hs⟩, rfl⟩ := hq
    show xx_go (xt_P z) (d + 7) 105 172 [some (.ref h.length), some (.int (iI o)), some (.int (iI (I 54))), some (.int (iI (I 56))), some (.int (iI 1)), z6, z7] [.int (iI s)] (mh h R (su (su I1 54 (I 54)) 56 (I 56)) A1 N) _
    refine go_a (pc' := 174) (ls' := [some (.ref h.length), some (.int (iI o)), some (.int (iI (I 54))), some (.int (iI (I 56))), some (.int (iI 1)), z6, z7]) (st' := [.int (iI 120), .int (iI s)]) rfl rfl ?_
    refine mi_gt (t := 186) rfl rfl (by omega) (by omega) (by omega) (by omega) (fun q => ?_) (fun q => ?_)
    · refine go_a (pc' := 187) (ls' := [some (.ref h.length), some (.int (iI o)), some (.int (iI (I 54))), some (.int (iI (I 56))), some (.int (iI 1)), z6, z7]) (st' := [.int (iI ((-1)))]) rfl rfl ?_
      exact go_r rfl rfl rfl rfl rfl rfl ⟨-1, _, A1, rfl, rfl, B5, Z, ⟨rfl, rfl⟩, e5, Or.inl ⟨rfl, by omega⟩⟩
    · refine go_a (pc' := 178) (ls' := [some (.ref h.length), some (.int (iI o)), some (.int (iI (I 54))), some (.int (iI (I 56))), some (.int (iI 1)), z6, z7]) (st' := [.ref h.length]) rfl rfl ?_
      refine go_get rfl mh_o rfl rfl ?_
      refine go_a (pc' := 182) (ls' := [some (.ref h.length), some (.int (iI o)), some (.int (iI (I 54))), some (.int (iI (I 56))), some (.int (iI 1)), z6, z7]) (st' := [.int (iI (I 56)), .ref (h.length + 32)]) rfl rfl ?_
      refine mi_ild rfl mh_a32 (by omega) (by omega) (by decide) ?_
      refine go_a (pc' := 187) (ls' := [some (.ref h.length), some (.int (iI o)), some (.int (iI (I 54))), some (.int (iI (I 56))), some (.int (iI 1)), z6, z7]) (st' := [.int (iI (A1 32 (I 56)))]) rfl rfl ?_
      exact go_r rfl rfl rfl rfl rfl rfl ⟨A1 32 (I 56), _, A1, rfl, rfl, B5, Z, ⟨rfl, rfl⟩, e5, Or.inr ⟨e3, e4.1, by omega, e4.2.1, tle, e4.2.2⟩⟩
  refine cl_go rfl ?_
  show xx_go (xt_P z) (d + 7) 105 0 [some (.ref h.length), some (.int (iI o)), none, none, none, none, none] [] (mh h R I A N) _
  refine go_a (pc' := 1) (ls' := [some (.ref h.length), some (.int (iI o)), none, none, none, none, none]) (st' := [.ref h.length]) rfl rfl ?_
  refine go_get (v := .int (iI (I 54))) rfl mh_o rfl rfl ?_
  refine go_a (pc' := 5) (ls' := [some (.ref h.length), some (.int (iI o)), some (.int (iI (I 54))), none, none, none, none]) (st' := []) rfl rfl ?_
  refine go_a (pc' := 6) (ls' := [some (.ref h.length), some (.int (iI o)), some (.int (iI (I 54))), none, none, none, none]) (st' := [.ref h.length]) rfl rfl ?_
  refine go_get (v := .int (iI (I 56))) rfl mh_o rfl rfl ?_
  refine go_a (pc' := 10) (ls' := [some (.ref h.length), some (.int (iI o)), some (.int (iI (I 54))), some (.int (iI (I 56))), none, none, none]) (st' := []) rfl rfl ?_
  refine go_a (pc' := 11) (ls' := [some (.ref h.length), some (.int (iI o)), some (.int (iI (I 54))), some (.int (iI (I 56))), none, none, none]) (st' := [.ref h.length]) rfl rfl ?_
  refine go_a (pc' := 12) (ls' := [some (.ref h.length), some (.int (iI o)), some (.int (iI (I 54))), some (.int (iI (I 56))), none, none, none]) (st' := [.int (iI o), .ref h.length]) rfl rfl ?_
  refine go_v (m := 106) (as := [.ref h.length, .int (iI o)]) (r := []) rfl rfl rfl mh_o rfl rfl (mm_beginTerm z (d + 1) ar o h R I A N hc hS hN hZ hA hQ (by omega) k0 k1 b0 (by omega) c0 (by omega)) (fun v h1 hq => ?_)
  rcases hq with ⟨rfl, rfl, ts0⟩ | ⟨rfl, t, I1, A1, rfl, X, Z1, t0, t1, x10, x7, ts1, nf1⟩ | ⟨rfl, rfl, cl, m3, fl3, em3⟩
  · show xx_go (xt_P z) (d + 7) 105 15 [some (.ref h.length), some (.int (iI o)), some (.int (iI (I 54))), some (.int (iI (I 56))), none, none, none] [.int (iI 0)] (mh h R I A N) _
    refine go_a (pc' := 17) (ls' := [some (.ref h.length), some (.int (iI o)), some (.int (iI (I 54))), some (.int (iI (I 56))), some (.int (iI 0)), none, none]) (st' := []) rfl rfl ?_
    exact finB I A _ _ (BX_rf hS) hZ ⟨Int.le_refl _, by omega⟩ (by omega) ts0
  · show xx_go (xt_P z) (d + 7) 105 15 [some (.ref h.length), some (.int (iI o)), some (.int (iI (I 54))), some (.int (iI (I 56))), none, none, none] [.int (iI 1)] (mh h R ((su I1 56 (I 56 + 1))) ((sa A1 32 (I 56) t)) N) _
    refine go_a (pc' := 17) (ls' := [some (.ref h.length), some (.int (iI o)), some (.int (iI (I 54))), some (.int (iI (I 56))), some (.int (iI 1)), none, none]) (st' := []) rfl rfl ?_
    have tz3 := TZ_124 (A := A1) (A1 := (sa A1 32 (I 56) t)) (ar := ar) rfl rfl rfl
    have v : (sa A1 32 (I 56) t) 32 (I 56) = t := sf_self
    have j54 : I1 54 = I 54 := X.2.2.2.1 54 (by decide) (by decide)
    have BX3 : BX FB GT I A N (su I1 56 (I 56 + 1)) (sa A1 32 (I 56) t) N := ⟨X.1, X.2.1, fun k q0 q1 => ⟨(X.2.2.1 k q0 q1).1, (X.2.2.1 k q0 q1).2.1, rfl, fun e => by
      have e4 : A1 4 k = A 4 k := (X.2.2.1 k q0 q1).2.2.2
      show A1 4 k ≠ 0
      rw [e4]
      exact e⟩, fun j p q => by
      rw [su_ne (fun e => q (Or.inr e))]
      by_cases e : j = 10
      · rw [e]
        exact x10.1
      · exact X.2.2.2.1 j p e, fun a q1 q2 q3 q4 q5 q6 q7 => by
      rw [sa_ne (fun e => q7 (by unfold GT; omega))]
      exact EX_89 X x10.2.1 x10.2.2 q1 q2 q3 q4 q5 q6⟩
    have Z3 : SZI ar (su I1 56 (I 56 + 1)) (sa A1 32 (I 56) t) := by
      exact SZI_124 Z1 rfl rfl rfl rfl
    exact finG (su I1 56 (I 56 + 1)) (sa A1 32 (I 56) t) _ _ BX3 Z3 j54 (by rw [v]; exact t0) (by rw [v, tz3.1, t1, ts1, NFT_12 (A := A1) (A1 := (sa A1 32 (I 56) t)) rfl rfl]; exact ⟨by decide, rfl, nf1⟩) (show I1 7 ≤ _ by omega)
  · show xx_go (xt_P z) (d + 7) 105 15 [some (.ref h.length), some (.int (iI o)), some (.int (iI (I 54))), some (.int (iI (I 56))), none, none, none] [.int (iI 1)] (mh h R ((su I 54 (I 54 + 1))) ((sa (sa (sa A 29 (I 54) o) 30 (I 54) (A 2 o)) 31 (I 54) (I 56))) N) _
    refine go_a (pc' := 17) (ls' := [some (.ref h.length), some (.int (iI o)), some (.int (iI (I 54))), some (.int (iI (I 56))), some (.int (iI 1)), none, none]) (st' := []) rfl rfl ?_
    have qa := hP.2 o k0 k1
    have qb := qa.2.2.2.2 cl.1
    have wa : WD A o = 2 + VD A o := by
      rw [WD_pair hP k0 k1 cl.1, if_neg (fun e => cl.2 e.1)]
    have va := VD_pair hP k0 k1 cl.1
    have pa := PT_pair hP k0 k1 cl.1
    have ph := PT_b hP n0 n2 cl.1 (by omega : A 1 o < I 7)
    have pz := PT_b hP n0 n2 qa.2.2.1 (by omega : A 2 o < I 7)
    have wf := WD_1 hP cl.1 (by omega : A 1 o < I 7)
    have tz4 := TZ_124 (A := A) (A1 := (sa (sa (sa A 29 (I 54) o) 30 (I 54) (A 2 o)) 31 (I 54) (I 56))) (ar := ar) rfl rfl rfl
    have vd4 : VD (sa (sa (sa A 29 (I 54) o) 30 (I 54) (A 2 o)) 31 (I 54) (I 56)) = VD A := VD_12 rfl rfl
    have i54 : I 54 + 1 - 1 = I 54 := by omega
    have d29 : (sa (sa (sa A 29 (I 54) o) 30 (I 54) (A 2 o)) 31 (I 54) (I 56)) 29 (I 54 + 1 - 1) = o := by rw [i54]; exact sf_self
    have d30 : (sa (sa (sa A 29 (I 54) o) 30 (I 54) (A 2 o)) 31 (I 54) (I 56)) 30 (I 54 + 1 - 1) = A 2 o := by rw [i54]; exact sf_self
    have d31 : (sa (sa (sa A 29 (I 54) o) 30 (I 54) (A 2 o)) 31 (I 54) (I 56)) 31 (I 54 + 1 - 1) = I 56 := by rw [i54]; exact sf_self
    have Z4 : SZI ar (su I 54 (I 54 + 1)) (sa (sa (sa A 29 (I 54) o) 30 (I 54) (A 2 o)) 31 (I 54) (I 56)) := by
      exact SZI_124 hZ rfl rfl rfl rfl
    have F4 : FRT ar (su I 54 (I 54 + 1)) (sa (sa (sa A 29 (I 54) o) 30 (I 54) (A 2 o)) 31 (I 54) (I 56)) := by
      show (0 ≤ (sa (sa (sa A 29 (I 54) o) 30 (I 54) (A 2 o)) 31 (I 54) (I 56)) 29 (I 54 + 1 - 1) ∧ (sa (sa (sa A 29 (I 54) o) 30 (I 54) (A 2 o)) 31 (I 54) (I 56)) 29 (I 54 + 1 - 1) < I 7) ∧ (0 ≤ A 1 ((sa (sa (sa A 29 (I 54) o) 30 (I 54) (A 2 o)) 31 (I 54) (I 56)) 29 (I 54 + 1 - 1)) ∧ A 1 ((sa (sa (sa A 29 (I 54) o) 30 (I 54) (A 2 o)) 31 (I 54) (I 56)) 29 (I 54 + 1 - 1)) ≠ 2) ∧ (0 ≤ (sa (sa (sa A 29 (I 54) o) 30 (I 54) (A 2 o)) 31 (I 54) (I 56)) 30 (I 54 + 1 - 1) ∧ (sa (sa (sa A 29 (I 54) o) 30 (I 54) (A 2 o)) 31 (I 54) (I 56)) 30 (I 54 + 1 - 1) < I 7) ∧ (0 ≤ (sa (sa (sa A 29 (I 54) o) 30 (I 54) (A 2 o)) 31 (I 54) (I 56)) 31 (I 54 + 1 - 1) ∧ (sa (sa (sa A 29 (I 54) o) 30 (I 54) (A 2 o)) 31 (I 54) (I 56)) 31 (I 54 + 1 - 1) ≤ I 56) ∧ (∀ q : Int, (sa (sa (sa A 29 (I 54) o) 30 (I 54) (A 2 o)) 31 (I 54) (I 56)) 31 (I 54 + 1 - 1) ≤ q → q < I 56 → (0 ≤ A 32 q ∧ A 32 q < I 7) ∧ 1 ≤ TZ (sa (sa (sa A 29 (I 54) o) 30 (I 54) (A 2 o)) 31 (I 54) (I 56)) ar (A 32 q)) ∧ ∃ m : Nat, isL (sa (sa (sa A 29 (I 54) o) 30 (I 54) (A 2 o)) 31 (I 54) (I 56)) m ((sa (sa (sa A 29 (I 54) o) 30 (I 54) (A 2 o)) 31 (I 54) (I 56)) 30 (I 54 + 1 - 1)) ∧ (I 56 - (sa (sa (sa A 29 (I 54) o) 30 (I 54) (A 2 o)) 31 (I 54) (I 56)) 31 (I 54 + 1 - 1)) + (m : Int) = ar (A 1 ((sa (sa (sa A 29 (I 54) o) 30 (I 54) (A 2 o)) 31 (I 54) (I 56)) 29 (I 54 + 1 - 1)))
      rw [d29, d30, d31]
      exact ⟨⟨k0, k1⟩, cl, ⟨by omega, by omega⟩, ⟨b0, Int.le_refl _⟩, fun q q0 q1 => absurd q1 (by omega), m3, isL_ext (A := A) (A1 := (sa (sa (sa A 29 (I 54) o) 30 (I 54) (A 2 o)) 31 (I 54) (I 56))) (I := I) hP (fun k _ _ => ⟨rfl, rfl⟩) m3 _ qa.2.2.1 (by omega) fl3, by omega⟩
    have P4 : PT (sa (sa (sa A 29 (I 54) o) 30 (I 54) (A 2 o)) 31 (I 54) (I 56)) ((sa (sa (sa A 29 (I 54) o) 30 (I 54) (A 2 o)) 31 (I 54) (I 56)) 30 ((su I 54 (I 54 + 1)) 54 - 1)) = PT A (A 2 o) := by
      show PT (sa (sa (sa A 29 (I 54) o) 30 (I 54) (A 2 o)) 31 (I 54) (I 56)) ((sa (sa (sa A 29 (I 54) o) 30 (I 54) (A 2 o)) 31 (I 54) (I 56)) 30 (I 54 + 1 - 1)) = _
      rw [d30]
      exact congrFun (PT_12 (A := A) (A1 := (sa (sa (sa A 29 (I 54) o) 30 (I 54) (A 2 o)) 31 (I 54) (I 56))) rfl rfl) _
    have L4 : VD (sa (sa (sa A 29 (I 54) o) 30 (I 54) (A 2 o)) 31 (I 54) (I 56)) ((sa (sa (sa A 29 (I 54) o) 30 (I 54) (A 2 o)) 31 (I 54) (I 56)) 30 ((su I 54 (I 54 + 1)) 54 - 1)) = VD A (A 2 o) := by
      show VD (sa (sa (sa A 29 (I 54) o) 30 (I 54) (A 2 o)) 31 (I 54) (I 56)) ((sa (sa (sa A 29 (I 54) o) 30 (I 54) (A 2 o)) 31 (I 54) (I 56)) 30 (I 54 + 1 - 1)) = _
      rw [d30, vd4]
    have B4 : BX FB GT I A N (su I 54 (I 54 + 1)) (sa (sa (sa A 29 (I 54) o) 30 (I 54) (A 2 o)) 31 (I 54) (I 56)) N := ⟨hS, Int.le_refl _, fun k _ _ => ⟨rfl, rfl, rfl, id⟩, fun j p q => su_ne (fun e => q (Or.inl e)), fun a q1 q2 q3 q4 q5 q6 q7 => ((sa_ne (fun e => q7 (by unfold GT; omega))).trans (sa_ne (fun e => q7 (by unfold GT; omega)))).trans (sa_ne (fun e => q7 (by unfold GT; omega)))⟩
    have tsc := TS_call (ar := ar) hP k0 k1 cl.1 cl.2
    have czm := CZ_isL (ar := ar) hP n0 m3 _ qa.2.2.1 (by omega) fl3
    have ls4 : LSq (sa (sa (sa A 29 (I 54) o) 30 (I 54) (A 2 o)) 31 (I 54) (I 56)) ar = LSq A ar := (TS_12 (A := A) (A1 := (sa (sa (sa A 29 (I 54) o) 30 (I 54) (A 2 o)) 31 (I 54) (I 56))) (ar := ar) rfl rfl).2
    have v0 := VD_0 hP qa.2.2.1 (by omega : A 2 o < I 7)
    have W4 : FRN (su I 54 (I 54 + 1)) (sa (sa (sa A 29 (I 54) o) 30 (I 54) (A 2 o)) 31 (I 54) (I 56)) := by
      unfold FRN
      show ∃ m : Nat, isL (sa (sa (sa A 29 (I 54) o) 30 (I 54) (A 2 o)) 31 (I 54) (I 56)) ((I 56 - (sa (sa (sa A 29 (I 54) o) 30 (I 54) (A 2 o)) 31 (I 54) (I 56)) 31 (I 54 + 1 - 1)).toNat + m) (A 2 ((sa (sa (sa A 29 (I 54) o) 30 (I 54) (A 2 o)) 31 (I 54) (I 56)) 29 (I 54 + 1 - 1))) ∧ rt (sa (sa (sa A 29 (I 54) o) 30 (I 54) (A 2 o)) 31 (I 54) (I 56)) (I 56 - (sa (sa (sa A 29 (I 54) o) 30 (I 54) (A 2 o)) 31 (I 54) (I 56)) 31 (I 54 + 1 - 1)).toNat (A 2 ((sa (sa (sa A 29 (I 54) o) 30 (I 54) (A 2 o)) 31 (I 54) (I 56)) 29 (I 54 + 1 - 1))) = (sa (sa (sa A 29 (I 54) o) 30 (I 54) (A 2 o)) 31 (I 54) (I 56)) 30 (I 54 + 1 - 1) ∧ ∀ j : Nat, j < (I 56 - (sa (sa (sa A 29 (I 54) o) 30 (I 54) (A 2 o)) 31 (I 54) (I 56)) 31 (I 54 + 1 - 1)).toNat → NFT (sa (sa (sa A 29 (I 54) o) 30 (I 54) (A 2 o)) 31 (I 54) (I 56)) (A 1 (rt (sa (sa (sa A 29 (I 54) o) 30 (I 54) (A 2 o)) 31 (I 54) (I 56)) j (A 2 ((sa (sa (sa A 29 (I 54) o) 30 (I 54) (A 2 o)) 31 (I 54) (I 56)) 29 (I 54 + 1 - 1))))) ((sa (sa (sa A 29 (I 54) o) 30 (I 54) (A 2 o)) 31 (I 54) (I 56)) 32 ((sa (sa (sa A 29 (I 54) o) 30 (I 54) (A 2 o)) 31 (I 54) (I 56)) 31 (I 54 + 1 - 1) + j))
      rw [d29, d30, d31, show (I 56 - I 56).toNat = 0 by omega]
      exact ⟨m3, by rw [Nat.zero_add]; exact isL_12a (A := A) (A1 := (sa (sa (sa A 29 (I 54) o) 30 (I 54) (A 2 o)) 31 (I 54) (I 56))) rfl rfl _ _ fl3, rfl, fun j hj => absurd hj (by omega)⟩
    refine mm_termOf_loop z d ar o (I 54) (I 56) h R N hc _ c0 (WD A o).toNat (su I 54 (I 54 + 1)) (sa (sa (sa A 29 (I 54) o) 30 (I 54) (A 2 o)) 31 (I 54) (I 56)) _ _ hS hN Z4 hA hQ F4 W4 (show I 54 < I 54 + 1 by omega) (by rw [L4]; omega) (show I 54 + 1 + _ ≤ 1199 by rw [L4]; omega) (show I 56 + _ ≤ 2399 by rw [L4]; omega) (show I 7 + (2 * _ + (I 56 - (sa (sa (sa A 29 (I 54) o) 30 (I 54) (A 2 o)) 31 (I 54) (I 56)) 31 (I 54 + 1 - 1)) + 1) ≤ 140000 by rw [L4, d31]; omega) (fun I5 A5 z6 z7 X c1 c2 c3 c4 c5 => ?_) (fun I5 A5 z6 z7 Y c1 c2 c3 c9 => ?_)
    · have c1 : I5 54 = I 54 := by have c1 : I5 54 = I 54 + 1 - 1 := c1; omega
      have c3 : 0 ≤ A5 32 ((sa (sa (sa A 29 (I 54) o) 30 (I 54) (A 2 o)) 31 (I 54) (I 56)) 31 (I 54 + 1 - 1)) ∧ A5 32 ((sa (sa (sa A 29 (I 54) o) 30 (I 54) (A 2 o)) 31 (I 54) (I 56)) 31 (I 54 + 1 - 1)) < I5 7 := c3
      have c4 : 1 ≤ TZ A5 ar (A5 32 ((sa (sa (sa A 29 (I 54) o) 30 (I 54) (A 2 o)) 31 (I 54) (I 56)) 31 (I 54 + 1 - 1))) ∧ TZ A5 ar (A5 32 ((sa (sa (sa A 29 (I 54) o) 30 (I 54) (A 2 o)) 31 (I 54) (I 56)) 31 (I 54 + 1 - 1))) = 1 + SL (sa (sa (sa A 29 (I 54) o) 30 (I 54) (A 2 o)) 31 (I 54) (I 56)) ar ((sa (sa (sa A 29 (I 54) o) 30 (I 54) (A 2 o)) 31 (I 54) (I 56)) 32) (I 56) (I 56 - (sa (sa (sa A 29 (I 54) o) 30 (I 54) (A 2 o)) 31 (I 54) (I 56)) 31 (I 54 + 1 - 1)).toNat + LSq (sa (sa (sa A 29 (I 54) o) 30 (I 54) (A 2 o)) 31 (I 54) (I 56)) ar ((sa (sa (sa A 29 (I 54) o) 30 (I 54) (A 2 o)) 31 (I 54) (I 56)) 30 (I 54 + 1 - 1)) ∧ 0 ≤ LSq (sa (sa (sa A 29 (I 54) o) 30 (I 54) (A 2 o)) 31 (I 54) (I 56)) ar ((sa (sa (sa A 29 (I 54) o) 30 (I 54) (A 2 o)) 31 (I 54) (I 56)) 30 (I 54 + 1 - 1)) ∧ NFT A5 ((sa (sa (sa A 29 (I 54) o) 30 (I 54) (A 2 o)) 31 (I 54) (I 56)) 29 (I 54 + 1 - 1)) (A5 32 ((sa (sa (sa A 29 (I 54) o) 30 (I 54) (A 2 o)) 31 (I 54) (I 56)) 31 (I 54 + 1 - 1))) := c4
      have c5 : I5 7 ≤ I 7 + (2 * VD (sa (sa (sa A 29 (I 54) o) 30 (I 54) (A 2 o)) 31 (I 54) (I 56)) ((sa (sa (sa A 29 (I 54) o) 30 (I 54) (A 2 o)) 31 (I 54) (I 56)) 30 ((su I 54 (I 54 + 1)) 54 - 1)) - PT (sa (sa (sa A 29 (I 54) o) 30 (I 54) (A 2 o)) 31 (I 54) (I 56)) ((sa (sa (sa A 29 (I 54) o) 30 (I 54) (A 2 o)) 31 (I 54) (I 56)) 30 ((su I 54 (I 54 + 1)) 54 - 1)) + (I 56 - (sa (sa (sa A 29 (I 54) o) 30 (I 54) (A 2 o)) 31 (I 54) (I 56)) 31 (I 54 + 1 - 1)) + 1) := c5
      rw [d31] at c3 c4 c5
      rw [ls4, d29, d30, show (I 56 - I 56).toNat = 0 by omega] at c4
      have c4 : 1 ≤ TZ A5 ar (A5 32 (I 56)) ∧ TZ A5 ar (A5 32 (I 56)) = 1 + 0 + LSq A ar (A 2 o) ∧ 0 ≤ LSq A ar (A 2 o) ∧ NFT A5 o (A5 32 (I 56)) := c4
      rw [if_pos ⟨c4.2.2.1, by omega⟩] at tsc
      rw [L4, P4] at c5
      exact finG I5 A5 z6 z7 (BX_tr B4 X.1) X.2.1 c1 c3 ⟨c4.1, by omega, c4.2.2.2⟩ (by omega)
    · have c2 : I 54 + 1 ≤ I5 54 ∧ I5 54 ≤ 1200 := c2
      have c3 : I5 7 ≤ I 7 + (2 * VD (sa (sa (sa A 29 (I 54) o) 30 (I 54) (A 2 o)) 31 (I 54) (I 56)) ((sa (sa (sa A 29 (I 54) o) 30 (I 54) (A 2 o)) 31 (I 54) (I 56)) 30 ((su I 54 (I 54 + 1)) 54 - 1)) - PT (sa (sa (sa A 29 (I 54) o) 30 (I 54) (A 2 o)) 31 (I 54) (I 56)) ((sa (sa (sa A 29 (I 54) o) 30 (I 54) (A 2 o)) 31 (I 54) (I 56)) 30 ((su I 54 (I 54 + 1)) 54 - 1)) + (I 56 - (sa (sa (sa A 29 (I 54) o) 30 (I 54) (A 2 o)) 31 (I 54) (I 56)) 31 (I 54 + 1 - 1)) + 1) := c3
      rw [L4, P4, d31] at c3
      have c9 : LSq (sa (sa (sa A 29 (I 54) o) 30 (I 54) (A 2 o)) 31 (I 54) (I 56)) ar ((sa (sa (sa A 29 (I 54) o) 30 (I 54) (A 2 o)) 31 (I 54) (I 56)) 30 (I 54 + 1 - 1)) < 0 := c9
      rw [ls4, d30] at c9
      rw [if_neg (fun q => absurd q.1 (by omega))] at tsc
      exact finB I5 A5 z6 z7 (BX_tr B4 Y) c1 (by omega) (by omega) tsc

