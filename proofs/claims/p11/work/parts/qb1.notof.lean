theorem mm_notOf2 (z : Value) (d : Nat) (ar : Int → Int) (k : Int) (h R : xx_H) (I : Nat → Int) (A : Nat → Int → Int) (N : Int → Int) (hc : 12 ≤ h.length) (hS : MST I A N) (hN : NM I A) (hZ : SZI ar I A) (hT : TRX I A N) (hp : A 1 k = 2 → 0 ≤ A 1 (A 2 k) ∧ A 2 (A 2 k) = 0) (hk : 1 ≤ TZ A ar k) (k0 : 0 ≤ k) (k1 : k < I 7) (a15 : ar 15 = 1) (kb0 : 0 ≤ I 56) (kb1 : I 56 ≤ 2390) (ho : I 7 + 4 ≤ 140000) (u0 : 0 ≤ I 49) (u1 : I 49 ≤ 4) : xx_cl (xt_P z) (d + 7) 125 [.ref h.length, .int (iI k)] (mh h R I A N) (fun v h1 => ∃ (t : Int) (I1 : Nat → Int) (A1 : Nat → Int → Int), v = some (.int (iI t)) ∧ h1 = mh h R I1 A1 N ∧ MD ar 2 t (if TZ A ar k ≤ 120 then 120 else TZ A ar k) I A N I1 A1 ∧ TZ A1 ar t ≤ TZ A ar k + 1 ∧ DM A1 N t = sp_not (DM A N k) ∧ (I 49 = 0 → TZ A1 ar t ≤ 120 → I1 49 = 0)) := by
  have hP := MST_PW hS
  have p1 := hP.1
  have q := hP.2 k k0 k1
  have nn := hN.1
  have m1 : 120 ≤ (if TZ A ar k ≤ 120 then 120 else TZ A ar k) ∧ TZ A ar k ≤ (if TZ A ar k ≤ 120 then 120 else TZ A ar k) := by
    split <;> omega
  have atm : ∀ x : Int, 0 ≤ x → x < 44 → TZ A ar x = 1 := fun x x0 x1 => TZ_atom (by rw [hN.2 x x0 x1]; decide)
  refine cl_go rfl ?_
  show xx_go (xt_P z) (d + 6) 125 0 [some (.ref h.length), some (.int (iI k))] [] (mh h R I A N) _
  refine go_a (pc' := 1) (ls' := [some (.ref h.length), some (.int (iI k))]) (st' := [.ref h.length]) rfl rfl ?_
  refine go_a (pc' := 2) (ls' := [some (.ref h.length), some (.int (iI k))]) (st' := [.int (iI k), .ref h.length]) rfl rfl ?_
  refine go_a (pc' := 4) (ls' := [some (.ref h.length), some (.int (iI k))]) (st' := [.int (iI 15), .int (iI k), .ref h.length]) rfl rfl ?_
  refine go_v (m := 123) (as := [.ref h.length, .int (iI k), .int (iI 15)]) (r := []) rfl rfl rfl mh_o rfl rfl (mb_isCallOf z (d + 4) k 15 h R I A N hc hP k0 k1 (by decide) (by decide)) (fun v h1 hq => ?_)
  obtain ⟨⟨b, rfl, hb⟩, rfl⟩ := hq
  show xx_go (xt_P z) (d + 6) 125 7 [some (.ref h.length), some (.int (iI k))] [.int (iI b)] (mh h R I A N) _
  refine mi_eq0 (t := 22) rfl rfl (by omega) (by omega) (fun e => ?_) (fun e => ?_)
  · refine go_a (pc' := 23) (ls' := [some (.ref h.length), some (.int (iI k))]) (st' := [.int (iI k)]) rfl rfl ?_
    refine mi_ne0 (t := 28) rfl rfl (by omega) (by omega) (fun e1 => ?_) (fun e1 => ?_)
    · refine go_a (pc' := 29) (ls' := [some (.ref h.length), some (.int (iI k))]) (st' := [.ref h.length]) rfl rfl ?_
      refine go_a (pc' := 30) (ls' := [some (.ref h.length), some (.int (iI k))]) (st' := [.int (iI k), .ref h.length]) rfl rfl ?_
      refine go_v (m := 126) (as := [.ref h.length, .int (iI k)]) (r := []) rfl rfl rfl mh_o rfl rfl (mb_isConstant z (d + 3) k h R I A N hc hP k0 k1) (fun v h1 hq => ?_)
      obtain ⟨⟨b2, rfl, hb2⟩, rfl⟩ := hq
      show xx_go (xt_P z) (d + 6) 125 33 [some (.ref h.length), some (.int (iI k))] [.int (iI b2)] (mh h R I A N) _
      refine mi_eq0 (t := 40) rfl rfl (by omega) (by omega) (fun e2 => ?_) (fun e2 => ?_)
      · refine go_a (pc' := 41) (ls' := [some (.ref h.length), some (.int (iI k))]) (st' := [.ref h.length]) rfl rfl ?_
        refine go_a (pc' := 43) (ls' := [some (.ref h.length), some (.int (iI k))]) (st' := [.int (iI 15), .ref h.length]) rfl rfl ?_
        refine go_a (pc' := 44) (ls' := [some (.ref h.length), some (.int (iI k))]) (st' := [.int (iI k), .int (iI 15), .ref h.length]) rfl rfl ?_
        refine go_a (pc' := 45) (ls' := [some (.ref h.length), some (.int (iI k))]) (st' := [.int (iI ((-1))), .int (iI k), .int (iI 15), .ref h.length]) rfl rfl ?_
        refine go_a (pc' := 46) (ls' := [some (.ref h.length), some (.int (iI k))]) (st' := [.int (iI ((-1))), .int (iI ((-1))), .int (iI k), .int (iI 15), .ref h.length]) rfl rfl ?_
        refine go_v (m := 127) (as := [.ref h.length, .int (iI 15), .int (iI k), .int (iI ((-1))), .int (iI ((-1)))]) (r := []) rfl rfl rfl mh_o rfl rfl (mm_made1 z d ar 15 k h R I A N hc hS hN hZ hT (by decide) (by omega) (by decide) kb0 kb1 ho u0 u1 k0 k1 hk a15.symm) (fun v h1 hq => ?_)
        obtain ⟨t, I1, A1, rfl, rfl, ⟨d1, d2, d3, d4, d5, ⟨d6, d7, d8⟩, d9⟩, ds, dt, dv⟩ := hq
        exact go_r rfl rfl rfl rfl rfl rfl ⟨t, I1, A1, rfl, rfl, ⟨d1, d2, d3, d4, d5, ⟨d6, d7, fun e9 => by have := d8 e9; omega⟩, d9⟩, by omega, dt.trans (by rw [NOT_o hS hN hT k0 k1 (by omega) (by omega), show DM A N 15 = .var 31651 from hT.2 15 (by decide)]), dv⟩
      · refine go_a (pc' := 37) (ls' := [some (.ref h.length), some (.int (iI k))]) (st' := [.int (iI 0)]) rfl rfl ?_
        refine go_a (pc' := 49) (ls' := [some (.ref h.length), some (.int (iI k))]) (st' := [.int (iI 0)]) rfl rfl ?_
        exact go_r rfl rfl rfl rfl rfl rfl ⟨0, I, A, rfl, rfl, MD_rf hS hZ (by decide) (by decide) (by omega) (by rw [atm 0 (by decide) (by decide)]; decide) (by rw [atm 0 (by decide) (by decide)]; omega) u0 u1, by rw [atm 0 (by decide) (by decide)]; omega, (NOT_k hS hN hT k0 k1 e1 (by omega)).symm, fun q _ => q⟩
    · refine go_a (pc' := 27) (ls' := [some (.ref h.length), some (.int (iI k))]) (st' := [.int (iI 1)]) rfl rfl ?_
      exact go_r rfl rfl rfl rfl rfl rfl ⟨1, I, A, rfl, rfl, MD_rf hS hZ (by decide) (by decide) (by omega) (by rw [atm 1 (by decide) (by decide)]; decide) (by rw [atm 1 (by decide) (by decide)]; omega) u0 u1, by rw [atm 1 (by decide) (by decide)]; omega, by rw [show k = 0 by omega]; exact (NOT_0 hT).symm, fun q _ => q⟩
  · have e15 : A 1 k = 15 := by omega
    have q2 := q.2.2.2.2 (by omega)
    have tc := TZ_call (ar := ar) hP k0 k1 (by omega) (by omega)
    have td : 0 ≤ LZ A ar (A 2 k) ∧ CZ A ar (A 2 k) = ar (A 1 k) ∧ A 4 k ≠ 0 := by
      by_cases c : 0 ≤ LZ A ar (A 2 k) ∧ CZ A ar (A 2 k) = ar (A 1 k) ∧ A 4 k ≠ 0
      · exact c
      · rw [if_neg c] at tc
        omega
    rw [if_pos td] at tc
    have c1 : CZ A ar (A 2 k) = 1 := by rw [td.2.1, e15, a15]
    have n0 : A 1 0 < 0 := by rw [hN.2 0 (by decide) (by decide)]; decide
    have r0 : A 2 k ≠ 0 := by
      intro e9
      rw [e9, (LZ_0 n0).2] at c1
      exact absurd c1 (by decide)
    have pr : 0 ≤ A 1 (A 2 k) := by
      by_cases c : A 1 (A 2 k) < 0
      · have := LZ_atom (ar := ar) c r0
        omega
      · omega
    have q3 := hP.2 (A 2 k) (by omega) (by omega)
    have q4 := q3.2.2.2.2 pr
    have lp := LZ_pair (ar := ar) hP (by omega : 0 < A 2 k) (by omega) pr
    have cd : 1 ≤ TZ A ar (A 1 (A 2 k)) ∧ 0 ≤ LZ A ar (A 2 (A 2 k)) := by
      by_cases c : 1 ≤ TZ A ar (A 1 (A 2 k)) ∧ 0 ≤ LZ A ar (A 2 (A 2 k))
      · exact c
      · rw [if_neg c] at lp
        omega
    rw [if_pos cd] at lp
    refine go_a (pc' := 11) (ls' := [some (.ref h.length), some (.int (iI k))]) (st' := [.ref h.length]) rfl rfl ?_
    refine go_get rfl mh_o rfl rfl ?_
    refine go_a (pc' := 15) (ls' := [some (.ref h.length), some (.int (iI k))]) (st' := [.ref h.length, .ref (h.length + 1)]) rfl rfl ?_
    refine go_get rfl mh_o rfl rfl ?_
    refine go_a (pc' := 19) (ls' := [some (.ref h.length), some (.int (iI k))]) (st' := [.int (iI k), .ref (h.length + 2), .ref (h.length + 1)]) rfl rfl ?_
    refine mi_ild rfl mh_a2 (by omega) (by omega) (by decide) ?_
    refine mi_ild rfl mh_a1 (by omega) (by omega) (by decide) ?_
    exact go_r rfl rfl rfl rfl rfl rfl ⟨A 1 (A 2 k), I, A, rfl, rfl, MD_rf hS hZ (by decide) pr (by omega) cd.1 (by omega) u0 u1, by omega, (NOT_c hS hN hT k0 k1 e15 pr).symm, fun q _ => q⟩
theorem mm_notOf (z : Value) (d : Nat) (ar : Int → Int) (k : Int) (h R : xx_H) (I : Nat → Int) (A : Nat → Int → Int) (N : Int → Int) (hc : 12 ≤ h.length) (hS : MST I A N) (hN : NM I A) (hZ : SZI ar I A) (hT : TRX I A N) (hp : A 1 k = 2 → 0 ≤ A 1 (A 2 k) ∧ A 2 (A 2 k) = 0) (hk : 1 ≤ TZ A ar k) (k0 : 0 ≤ k) (k1 : k < I 7) (a15 : ar 15 = 1) (kb0 : 0 ≤ I 56) (kb1 : I 56 ≤ 2390) (ho : I 7 + 4 ≤ 140000) (u0 : 0 ≤ I 49) (u1 : I 49 ≤ 4) : xx_cl (xt_P z) (d + 7) 125 [.ref h.length, .int (iI k)] (mh h R I A N) (fun v h1 => ∃ (t : Int) (I1 : Nat → Int) (A1 : Nat → Int → Int), v = some (.int (iI t)) ∧ h1 = mh h R I1 A1 N ∧ MD ar 4 t (if TZ A ar k ≤ 120 then 120 else TZ A ar k) I A N I1 A1 ∧ TZ A1 ar t ≤ TZ A ar k + 1 ∧ DM A1 N t = sp_not (DM A N k) ∧ (I 49 = 0 → TZ A1 ar t ≤ 120 → I1 49 = 0)) := cl_w (fun v h1 q => by obtain ⟨t, I1, A1, a, b, c, e⟩ := q; exact ⟨t, I1, A1, a, b, MD_w c (by decide), e⟩) (mm_notOf2 z d ar k h R I A N hc hS hN hZ hT hp hk k0 k1 a15 kb0 kb1 ho u0 u1)
theorem mm_madeTwo (z : Value) (d : Nat) (ar : Int → Int) (f a b : Int) (h R : xx_H) (I : Nat → Int) (A : Nat → Int → Int) (N : Int → Int) (hc : 12 ≤ h.length) (hS : MST I A N) (hN : NM I A) (hZ : SZI ar I A) (hT : TRX I A N) (f0 : 0 ≤ f) (f1 : f < I 7) (f2 : f ≠ 2) (kb0 : 0 ≤ I 56) (kb1 : I 56 ≤ 2390) (ho : I 7 + 4 ≤ 140000) (u0 : 0 ≤ I 49) (u1 : I 49 ≤ 4) (a0 : 0 ≤ a) (a1 : a < I 7) (a2 : 1 ≤ TZ A ar a) (b0 : 0 ≤ b) (b1 : b < I 7) (b2 : 1 ≤ TZ A ar b) (ha : 2 = ar f) : xx_cl (xt_P z) (d + 7) 156 [.ref h.length, .int (iI f), .int (iI a), .int (iI b)] (mh h R I A N) (fun v h1 => ∃ (t : Int) (I1 : Nat → Int) (A1 : Nat → Int → Int), v = some (.int (iI t)) ∧ h1 = mh h R I1 A1 N ∧ MD ar 3 t 120 I A N I1 A1 ∧ TZ A1 ar t = 1 + TZ A ar a + TZ A ar b ∧ DM A1 N t = .add (DM A N f) (.add (DM A N a) (.add (DM A N b) (.var 31361))) ∧ (I 49 = 0 → TZ A1 ar t ≤ 120 → I1 49 = 0)) := by
  refine cl_go rfl ?_
  show xx_go (xt_P z) (d + 6) 156 0 [some (.ref h.length), some (.int (iI f)), some (.int (iI a)), some (.int (iI b))] [] (mh h R I A N) _
  refine go_a (pc' := 1) (ls' := [some (.ref h.length), some (.int (iI f)), some (.int (iI a)), some (.int (iI b))]) (st' := [.ref h.length]) rfl rfl ?_
  refine go_a (pc' := 2) (ls' := [some (.ref h.length), some (.int (iI f)), some (.int (iI a)), some (.int (iI b))]) (st' := [.int (iI f), .ref h.length]) rfl rfl ?_
  refine go_a (pc' := 3) (ls' := [some (.ref h.length), some (.int (iI f)), some (.int (iI a)), some (.int (iI b))]) (st' := [.int (iI a), .int (iI f), .ref h.length]) rfl rfl ?_
  refine go_a (pc' := 4) (ls' := [some (.ref h.length), some (.int (iI f)), some (.int (iI a)), some (.int (iI b))]) (st' := [.int (iI b), .int (iI a), .int (iI f), .ref h.length]) rfl rfl ?_
  refine go_a (pc' := 5) (ls' := [some (.ref h.length), some (.int (iI f)), some (.int (iI a)), some (.int (iI b))]) (st' := [.int (iI ((-1))), .int (iI b), .int (iI a), .int (iI f), .ref h.length]) rfl rfl ?_
  refine go_v (m := 127) (as := [.ref h.length, .int (iI f), .int (iI a), .int (iI b), .int (iI ((-1)))]) (r := []) rfl rfl rfl mh_o rfl rfl (mm_made2 z d ar f a b h R I A N hc hS hN hZ hT f0 f1 f2 kb0 kb1 ho u0 u1 a0 a1 a2 b0 b1 b2 ha) (fun v h1 hq => ?_)
  obtain ⟨t, I1, A1, rfl, rfl, D⟩ := hq
  exact go_r rfl rfl rfl rfl rfl rfl ⟨t, I1, A1, rfl, rfl, D⟩

