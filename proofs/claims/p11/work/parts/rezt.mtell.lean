def tcw (A : Nat → Int → Int) (N : Int → Int) (c : Int) : Int := if c % 2 = 0 then (sp_ln 0 (DM A N (c / 2))).1 else (sp_ln 0 (DM A N (c / 2))).2.1
section TCW
variable {I I1 : Nat → Int} {A A1 : Nat → Int → Int} {N : Int → Int} {c k : Int}
theorem tcw_e (h : c % 2 = 0) : tcw A N c = (sp_ln 0 (DM A N (c / 2))).1 := if_pos h
theorem tcw_o (h : c % 2 = 1) : tcw A N c = (sp_ln 0 (DM A N (c / 2))).2.1 := if_neg (by omega)
theorem tcw_nn (c : Int) : 0 ≤ tcw A N c := by
  have q := ln_nn (Int.le_refl 0) (DM A N (c / 2))
  unfold tcw
  split
  · exact q.1
  · exact q.2.1
theorem DM_TX (x : TX I A I1 A1) : DM A1 N = DM A N := DM_12 (x.2 1 (by decide) (by decide)) (x.2 2 (by decide) (by decide)) (x.2 8 (by decide) (by decide)) (x.2 9 (by decide) (by decide))
theorem TRX_TX (hS : MST I A N) (hN : NM I A) (h : TRX I A N) (x : TX I A I1 A1) : TRX I1 A1 N := by
  have n7 := hN.1
  have e7 : I1 7 = I 7 := x.1 7 (by decide) (by decide)
  exact (TRX_px (I1 := I1) (A1 := A1) (N1 := N) hS h (by omega) (by omega) (fun k _ _ => ⟨congrFun (x.2 1 (by decide) (by decide)) k, congrFun (x.2 2 (by decide) (by decide)) k, rfl⟩) (x.2 8 (by decide) (by decide)) (x.2 9 (by decide) (by decide))).1
theorem ln_sym (hS : MST I A N) (hT : TRX I A N) (k0 : 0 ≤ k) (k1 : k < I 7) (e : A 1 k = -2) : (sp_ln 0 (DM A N k)).1 = A 9 (A 2 k) := by
  have q := (hS.2.1 k k0 k1).1
  have q2 : 0 ≤ A 2 k ∧ A 2 k < I 10 := by omega
  have q3 := hS.2.2.2.2.1.1 (A 2 k) q2.1 q2.2
  rw [DM_s e]
  show (if (wcf (A 8) (A 9 (A 2 k)).toNat (12 * A 2 k) 0).toNat = 0 then (0 : Int) else dgn 47 (((wcf (A 8) (A 9 (A 2 k)).toNat (12 * A 2 k) 0).toNat : Nat) : Int)) = A 9 (A 2 k)
  by_cases c : A 9 (A 2 k) = 0
  · rw [c]
    exact if_pos rfl
  · have w := wcf_dg (f := A 8) (e := 12 * A 2 k) (A 9 (A 2 k) - 1).toNat (fun q hq => hT.1.2.2 k k0 k1 e q (by omega))
    rw [show (A 9 (A 2 k) - 1).toNat + 1 = (A 9 (A 2 k)).toNat by omega] at w
    rw [if_neg (by omega), Int.toNat_of_nonneg (by omega), w.1]
    omega
theorem ln_pair (hS : MST I A N) (hN : NM I A) (hT : TRX I A N) (k0 : 0 ≤ k) (k1 : k < I 7) (h : 0 ≤ A 1 k) (nq : ¬ (A 1 k = 2 ∧ 0 ≤ A 1 (A 2 k) ∧ A 2 (A 2 k) = 0)) : (sp_ln 0 (DM A N k)).1 = 1 + (sp_ln 0 (DM A N (A 1 k))).1 + (sp_ln 0 (DM A N (A 2 k))).2.1 := by
  have hP := MST_PW hS
  have q := hP.2 k k0 k1
  have q2 := q.2.2.2.2 h
  rw [DM_pr hS hT k0 k1 h]
  show (if sp_isq (DM A N (A 1 k)) = true ∧ sp_one (DM A N (A 2 k)) = true then _ else _) = _
  rw [if_neg]
  intro ⟨a, b⟩
  have e2 := (isq_2 hS hN hT h (by omega)).mp a
  have o2 := (one_0 hS hN hT (k := A 2 k) (by omega) (by omega)).mp b
  exact nq ⟨e2, o2.1, o2.2⟩
theorem ln_quo (hS : MST I A N) (hN : NM I A) (hT : TRX I A N) (k0 : 0 ≤ k) (k1 : k < I 7) (h : A 1 k = 2 ∧ 0 ≤ A 1 (A 2 k) ∧ A 2 (A 2 k) = 0) : (sp_ln 0 (DM A N k)).1 = 1 + (sp_ln 0 (DM A N (A 1 (A 2 k)))).1 := by
  have hP := MST_PW hS
  have q := hP.2 k k0 k1
  have q2 := q.2.2.2.2 (by omega)
  have a := (isq_2 hS hN hT (k := A 1 k) (by omega) (by omega)).mpr h.1
  have b := (one_0 hS hN hT (k := A 2 k) (by omega) (by omega)).mpr h.2
  rw [DM_pr hS hT k0 k1 (by omega)]
  show (if sp_isq (DM A N (A 1 k)) = true ∧ sp_one (DM A N (A 2 k)) = true then 1 + (sp_ln 0 (DM A N (A 2 k))).2.2 else _) = _
  rw [if_pos ⟨a, b⟩, DM_pr hS hT (k := A 2 k) (by omega) (by omega) h.2.1]
  rfl
theorem ln_rest (hS : MST I A N) (hT : TRX I A N) (k0 : 0 ≤ k) (k1 : k < I 7) (h : 0 ≤ A 1 k) : (sp_ln 0 (DM A N k)).2.1 = 1 + (sp_ln 0 (DM A N (A 1 k))).1 + (sp_ln 0 (DM A N (A 2 k))).2.1 := by
  rw [DM_pr hS hT k0 k1 h]
  rfl
theorem ln_ratom (hS : MST I A N) (hT : TRX I A N) (hN : NM I A) (k0 : 0 ≤ k) (k1 : k < I 7) (h : A 1 k < 0) (h0 : k ≠ 0) : (sp_ln 0 (DM A N k)).2.1 = 4 + (sp_ln 0 (DM A N k)).1 := by
  rcases DM_at hS k0 k1 h with ⟨-, n, q⟩ | ⟨-, v, q⟩
  · rw [q]
    rfl
  · have nv : v ≠ 31361 := fun c => h0 ((nil_0 hS hN hT k0 k1).mp (by rw [q, c]))
    rw [q]
    show (if v = 31361 then 1 else 4 + (if v = 0 then (0 : Int) else dgn 47 (v : Int))) = 4 + (if v = 0 then 0 else dgn 47 (v : Int))
    rw [if_neg nv]
end TCW
theorem mm_tellSymX (z : Value) (d : Nat) (k : Int) (h R : xx_H) (I : Nat → Int) (A : Nat → Int → Int) (N : Int → Int) (hc : 12 ≤ h.length) (hS : MST I A N) (k0 : 0 ≤ k) (k1 : k < I 7) (u0 : 0 ≤ I 15) (ks : A 1 k = -2) : ∀ (n : Nat) (j : Int) (I1 : Nat → Int) (A1 : Nat → Int → Int), 0 ≤ j → j + n = A 9 (A 2 k) → TL I A I1 A1 → CP (I 15 + j) (I1 15) → xx_go (xt_P z) (d + 1) 175 10 [some (.ref h.length), some (.int (iI k)), some (.int (iI j)), none] [] (mh h R I1 A1 N) (fun v h1 => v = none ∧ ∃ (I2 : Nat → Int) (A2 : Nat → Int → Int), h1 = mh h R I2 A2 N ∧ TL I A I2 A2 ∧ CP (I 15 + A 9 (A 2 k)) (I2 15)) := by
  have p1 := hS.1
  have q := (hS.2.1 k k0 k1).1
  have q2 : 0 ≤ A 2 k ∧ A 2 k < I 10 := by omega
  have q3 := hS.2.2.2.2.1.1 (A 2 k) q2.1 q2.2
  intro n
  induction n with
  | zero =>
    intro j I1 A1 j0 ej L hC
    have ejj := ej
    have a2 : A1 2 = A 2 := L.1.2 2 (by decide) (by decide)
    have a9 : A1 9 = A 9 := L.1.2 9 (by decide) (by decide)
    have l := L.2.2.2
    rw [← a2] at q2 q3 ej
    rw [← a9] at q3 ej
    refine go_a (pc' := 11) (ls' := [some (.ref h.length), some (.int (iI k)), some (.int (iI j)), none]) (st' := [.int (iI j)]) rfl rfl ?_
    refine go_a (pc' := 12) (ls' := [some (.ref h.length), some (.int (iI k)), some (.int (iI j)), none]) (st' := [.ref h.length, .int (iI j)]) rfl rfl ?_
    refine go_get rfl mh_o rfl rfl ?_
    refine go_a (pc' := 16) (ls' := [some (.ref h.length), some (.int (iI k)), some (.int (iI j)), none]) (st' := [.ref h.length, .ref (h.length + 9), .int (iI j)]) rfl rfl ?_
    refine go_get rfl mh_o rfl rfl ?_
    refine go_a (pc' := 20) (ls' := [some (.ref h.length), some (.int (iI k)), some (.int (iI j)), none]) (st' := [.int (iI k), .ref (h.length + 2), .ref (h.length + 9), .int (iI j)]) rfl rfl ?_
    refine mi_ild rfl mh_a2 (by omega) (by omega) (by decide) ?_
    refine mi_ild rfl mh_a9 (by omega) (by omega) (by decide) ?_
    refine mi_ge (t := 51) rfl rfl (by omega) (by omega) (by omega) (by omega) (fun _ => ?_) (fun q => absurd (show A1 9 (A1 2 k) ≤ j by omega) q)
    exact go_r rfl rfl rfl rfl rfl rfl ⟨rfl, I1, A1, rfl, L, by rw [show A 9 (A 2 k) = j by omega]; exact hC⟩
  | succ n ih =>
    intro j I1 A1 j0 ej L hC
    have ejj := ej
    have a2 : A1 2 = A 2 := L.1.2 2 (by decide) (by decide)
    have a9 : A1 9 = A 9 := L.1.2 9 (by decide) (by decide)
    have l := L.2.2.2
    have ej2 := ej
    rw [← a2] at q2 q3 ej
    rw [← a9] at q3 ej
    refine go_a (pc' := 11) (ls' := [some (.ref h.length), some (.int (iI k)), some (.int (iI j)), none]) (st' := [.int (iI j)]) rfl rfl ?_
    refine go_a (pc' := 12) (ls' := [some (.ref h.length), some (.int (iI k)), some (.int (iI j)), none]) (st' := [.ref h.length, .int (iI j)]) rfl rfl ?_
    refine go_get rfl mh_o rfl rfl ?_
    refine go_a (pc' := 16) (ls' := [some (.ref h.length), some (.int (iI k)), some (.int (iI j)), none]) (st' := [.ref h.length, .ref (h.length + 9), .int (iI j)]) rfl rfl ?_
    refine go_get rfl mh_o rfl rfl ?_
    refine go_a (pc' := 20) (ls' := [some (.ref h.length), some (.int (iI k)), some (.int (iI j)), none]) (st' := [.int (iI k), .ref (h.length + 2), .ref (h.length + 9), .int (iI j)]) rfl rfl ?_
    refine mi_ild rfl mh_a2 (by omega) (by omega) (by decide) ?_
    refine mi_ild rfl mh_a9 (by omega) (by omega) (by decide) ?_
    refine mi_ge (t := 51) rfl rfl (by omega) (by omega) (by omega) (by omega) (fun q => absurd q (by omega)) (fun _ => ?_)
    refine go_a (pc' := 26) (ls' := [some (.ref h.length), some (.int (iI k)), some (.int (iI j)), none]) (st' := [.ref h.length]) rfl rfl ?_
    refine go_a (pc' := 27) (ls' := [some (.ref h.length), some (.int (iI k)), some (.int (iI j)), none]) (st' := [.ref h.length, .ref h.length]) rfl rfl ?_
    refine go_get rfl mh_o rfl rfl ?_
    refine go_a (pc' := 32) (ls' := [some (.ref h.length), some (.int (iI k)), some (.int (iI j)), none]) (st' := [.int (iI 12), .ref (h.length + 8), .ref h.length]) rfl rfl ?_
    refine go_a (pc' := 33) (ls' := [some (.ref h.length), some (.int (iI k)), some (.int (iI j)), none]) (st' := [.ref h.length, .int (iI 12), .ref (h.length + 8), .ref h.length]) rfl rfl ?_
    refine go_get rfl mh_o rfl rfl ?_
    refine go_a (pc' := 37) (ls' := [some (.ref h.length), some (.int (iI k)), some (.int (iI j)), none]) (st' := [.int (iI k), .ref (h.length + 2), .int (iI 12), .ref (h.length + 8), .ref h.length]) rfl rfl ?_
    refine mi_ild rfl mh_a2 (by omega) (by omega) (by decide) ?_
    refine mi_mul rfl ?_
    refine go_a (pc' := 40) (ls' := [some (.ref h.length), some (.int (iI k)), some (.int (iI j)), none]) (st' := [.int (iI j), .int (iI (12 * (A1 2 k))), .ref (h.length + 8), .ref h.length]) rfl rfl ?_
    refine mi_add rfl ?_
    refine mi_ild rfl mh_a8 (by omega) (by omega) (by decide) ?_
    refine go_v (m := 176) (as := [.ref h.length, .int (iI (A1 8 ((12 * (A1 2 k)) + j)))]) (r := []) rfl rfl rfl mh_o rfl rfl (mm_tellLetter z d (A1 8 (12 * A1 2 k + j)) h R I1 A1 N hc (by omega) l.2) (fun v h1 hq => ?_)
    obtain ⟨rfl, I2, A2, rfl, L2, l9⟩ := hq
    have l8 := L2.2.2.2
    show xx_go (xt_P z) (d + 1) 175 45 [some (.ref h.length), some (.int (iI k)), some (.int (iI j)), none] [] (mh h R I2 A2 N) _
    refine go_a (pc' := 48) (ls' := [some (.ref h.length), some (.int (iI k)), some (.int (iI (j + 1))), none]) (st' := []) rfl (by rw [← iI_add j 1]; rfl) ?_
    refine go_a (pc' := 10) (ls' := [some (.ref h.length), some (.int (iI k)), some (.int (iI (j + 1))), none]) (st' := []) rfl rfl ?_
    exact ih (j + 1) I2 A2 (by omega) (by omega) (TL_tr L L2) (by unfold CP at hC ⊢; omega)
theorem mm_tellDigX (z : Value) (d : Nat) (k C : Int) (h R : xx_H) (I : Nat → Int) (A : Nat → Int → Int) (N : Int → Int) (hc : 12 ≤ h.length) (hS : MST I A N) (k0 : 0 ≤ k) (k1 : k < I 7) (u0 : 0 ≤ I 15) : ∀ (n : Nat) (u c : Int) (I1 : Nat → Int) (A1 : Nat → Int → Int), u.toNat ≤ n → 0 ≤ u → u < 9000000000000000000 → TL I A I1 A1 → CP (I 15 + c) (I1 15) → DGU 10 C u c → xx_go (xt_P z) (d + 1) 175 78 [some (.ref h.length), some (.int (iI k)), some (.long (Int64.ofInt u)), none] [] (mh h R I1 A1 N) (fun v h1 => v = none ∧ ∃ (I2 : Nat → Int) (A2 : Nat → Int → Int), h1 = mh h R I2 A2 N ∧ TL I A I2 A2 ∧ CP (I 15 + C) (I2 15)) := by
  have p1 := hS.1
  have rN := hS.2.2.2.2.1.2.2 k
  intro n
  induction n with
  | zero =>
    intro u c I1 A1 hn u1 u2 L hC hu
    have c0 : u ≤ 0 → c = C := fun q => by
      rcases hu with hu | ⟨m, hu, -⟩
      · exact hu.2
      · have := Int.pow_pos (n := 10) (m := m) (by decide)
        omega
    refine go_a (pc' := 79) (ls' := [some (.ref h.length), some (.int (iI k)), some (.long (Int64.ofInt u)), none]) (st' := [.long (Int64.ofInt u)]) rfl rfl ?_
    refine go_a (pc' := 80) (ls' := [some (.ref h.length), some (.int (iI k)), some (.long (Int64.ofInt u)), none]) (st' := [.long (Int64.ofInt 0), .long (Int64.ofInt u)]) rfl rfl ?_
    refine mi_lc_le (t := 113) rfl rfl rfl (by omega) (by omega) (by omega) (by omega) (fun q => ?_) (fun q => absurd (show u ≤ 0 by omega) q)
    exact go_r rfl rfl rfl rfl rfl rfl ⟨rfl, I1, A1, rfl, L, by rw [← c0 q]; exact hC⟩
  | succ n ih =>
    intro u c I1 A1 hn u1 u2 L hC hu
    have c0 : u ≤ 0 → c = C := fun q => by
      rcases hu with hu | ⟨m, hu, -⟩
      · exact hu.2
      · have := Int.pow_pos (n := 10) (m := m) (by decide)
        omega
    have l := L.2.2.2
    refine go_a (pc' := 79) (ls' := [some (.ref h.length), some (.int (iI k)), some (.long (Int64.ofInt u)), none]) (st' := [.long (Int64.ofInt u)]) rfl rfl ?_
    refine go_a (pc' := 80) (ls' := [some (.ref h.length), some (.int (iI k)), some (.long (Int64.ofInt u)), none]) (st' := [.long (Int64.ofInt 0), .long (Int64.ofInt u)]) rfl rfl ?_
    refine mi_lc_le (t := 113) rfl rfl rfl (by omega) (by omega) (by omega) (by omega) (fun q => ?_) (fun q => ?_)
    · exact go_r rfl rfl rfl rfl rfl rfl ⟨rfl, I1, A1, rfl, L, by rw [← c0 q]; exact hC⟩
    · have e1 : 0 ≤ N k / u := Int.ediv_nonneg rN.1 (by omega)
      have e2 : N k / u ≤ N k := Int.ediv_le_self u rN.1
      have e3 : 0 ≤ N k / u % 10 := Int.emod_nonneg _ (by decide)
      have e4 : N k / u % 10 < 10 := Int.emod_lt_of_pos _ (by decide)
      refine go_a (pc' := 85) (ls' := [some (.ref h.length), some (.int (iI k)), some (.long (Int64.ofInt u)), none]) (st' := [.ref h.length]) rfl rfl ?_
      refine go_a (pc' := 87) (ls' := [some (.ref h.length), some (.int (iI k)), some (.long (Int64.ofInt u)), none]) (st' := [.int (iI 48), .ref h.length]) rfl rfl ?_
      refine go_a (pc' := 88) (ls' := [some (.ref h.length), some (.int (iI k)), some (.long (Int64.ofInt u)), none]) (st' := [.ref h.length, .int (iI 48), .ref h.length]) rfl rfl ?_
      refine go_get rfl mh_o rfl rfl ?_
      refine go_a (pc' := 92) (ls' := [some (.ref h.length), some (.int (iI k)), some (.long (Int64.ofInt u)), none]) (st' := [.int (iI k), .ref (h.length + 6), .int (iI 48), .ref h.length]) rfl rfl ?_
      refine mi_lld rfl mh_a6 (by omega) (by omega) (by decide) ?_
      refine go_a (pc' := 94) (ls' := [some (.ref h.length), some (.int (iI k)), some (.long (Int64.ofInt u)), none]) (st' := [.long (Int64.ofInt u), .long (Int64.ofInt (N k)), .int (iI 48), .ref h.length]) rfl rfl ?_
      refine mi_ldiv rfl (by omega) (by omega) (by omega) (by omega) ?_
      refine go_b (pc' := 98) (st' := [.long (Int64.ofInt 10), .long (Int64.ofInt ((N k) / u)), .int (iI 48), .ref h.length]) (h' := mh h R I1 A1 N) rfl rfl rfl ?_
      refine mi_lrem rfl (by omega) (by omega) (by omega) (by omega) ?_
      refine mi_l2i rfl (by omega) (by omega) ?_
      refine mi_add rfl ?_
      refine go_v (m := 176) (as := [.ref h.length, .int (iI (48 + (((N k) / u) % 10)))]) (r := []) rfl rfl rfl mh_o rfl rfl (mm_tellLetter z d (48 + N k / u % 10) h R I1 A1 N hc (by omega) l.2) (fun v h1 hq => ?_)
      obtain ⟨rfl, I2, A2, rfl, L2, l9⟩ := hq
      have l8 := L2.2.2.2
      have hu2 : DGU 10 C (u / 10) (c + 1) := by
        rcases hu with hu | ⟨m, hu, hm⟩
        · omega
        · cases m with
          | zero =>
            have hu : u = 1 := hu
            exact Or.inl ⟨by omega, by omega⟩
          | succ m =>
            have hu : u = 10 ^ m * 10 := hu
            exact Or.inr ⟨m, by omega, by omega⟩
      show xx_go (xt_P z) (d + 1) 175 104 [some (.ref h.length), some (.int (iI k)), some (.long (Int64.ofInt u)), none] [] (mh h R I2 A2 N) _
      refine go_a (pc' := 105) (ls' := [some (.ref h.length), some (.int (iI k)), some (.long (Int64.ofInt u)), none]) (st' := [.long (Int64.ofInt u)]) rfl rfl ?_
      refine go_b (pc' := 108) (st' := [.long (Int64.ofInt 10), .long (Int64.ofInt u)]) (h' := mh h R I2 A2 N) rfl rfl rfl ?_
      refine mi_ldiv rfl (by omega) (by omega) (by omega) (by omega) ?_
      refine go_a (pc' := 110) (ls' := [some (.ref h.length), some (.int (iI k)), some (.long (Int64.ofInt (u / 10))), none]) (st' := []) rfl rfl ?_
      refine go_a (pc' := 78) (ls' := [some (.ref h.length), some (.int (iI k)), some (.long (Int64.ofInt (u / 10))), none]) (st' := []) rfl rfl ?_
      exact ih (u / 10) (c + 1) I2 A2 (by omega) (by omega) (by omega) (TL_tr L L2) (by unfold CP at hC ⊢; omega) hu2
theorem mm_tellUnitX (z : Value) (d : Nat) (k : Int) (h R : xx_H) (I : Nat → Int) (A : Nat → Int → Int) (N : Int → Int) (hc : 12 ≤ h.length) (hS : MST I A N) (k0 : 0 ≤ k) (k1 : k < I 7) (u0 : 0 ≤ I 15) (u15 : I 15 ≤ 2000) : ∀ (n : Nat) (u : Int), (N k - u).toNat ≤ n → 1 ≤ u → (u = 1 ∨ u ≤ N k) → DGN 10 (N k) u → xx_go (xt_P z) (d + 1) 175 54 [some (.ref h.length), some (.int (iI k)), some (.long (Int64.ofInt u)), none] [] (mh h R I A N) (fun v h1 => v = none ∧ ∃ (I2 : Nat → Int) (A2 : Nat → Int → Int), h1 = mh h R I2 A2 N ∧ TL I A I2 A2 ∧ CP (I 15 + dgn 10 (N k)) (I2 15)) := by
  have p1 := hS.1
  have rN := hS.2.2.2.2.1.2.2 k
  intro n
  induction n with
  | zero =>
    intro u hn u1 u2 hm
    have out : N k / u < 10 → DGU 10 (dgn 10 (N k)) u 0 := fun q => by
      obtain ⟨m, a, b⟩ := hm
      rw [dgn_lt q] at b
      exact Or.inr ⟨m, a, by omega⟩
    have ne : N k / u < 10 := by
      have : N k / u ≤ 1 := by
        have := Int.ediv_le_ediv (a := N k) (b := u) (c := u) (by omega) (by omega)
        rw [Int.ediv_self (by omega)] at this
        exact this
      omega
    have e1 : 0 ≤ N k / u := Int.ediv_nonneg rN.1 (by omega)
    refine go_a (pc' := 55) (ls' := [some (.ref h.length), some (.int (iI k)), some (.long (Int64.ofInt u)), none]) (st' := [.ref h.length]) rfl rfl ?_
    refine go_get rfl mh_o rfl rfl ?_
    refine go_a (pc' := 59) (ls' := [some (.ref h.length), some (.int (iI k)), some (.long (Int64.ofInt u)), none]) (st' := [.int (iI k), .ref (h.length + 6)]) rfl rfl ?_
    refine mi_lld rfl mh_a6 (by omega) (by omega) (by decide) ?_
    refine go_a (pc' := 61) (ls' := [some (.ref h.length), some (.int (iI k)), some (.long (Int64.ofInt u)), none]) (st' := [.long (Int64.ofInt u), .long (Int64.ofInt (N k))]) rfl rfl ?_
    refine mi_ldiv rfl (by omega) (by omega) (by omega) (by omega) ?_
    refine go_b (pc' := 65) (st' := [.long (Int64.ofInt 10), .long (Int64.ofInt ((N k) / u))]) (h' := mh h R I A N) rfl rfl rfl ?_
    refine mi_lc_lt (t := 78) rfl rfl rfl (by omega) (by omega) (by omega) (by omega) (fun q => ?_) (fun q => absurd ne q)
    exact mm_tellDigX z d k (dgn 10 (N k)) h R I A N hc hS k0 k1 u0 u.toNat u 0 I A (Nat.le_refl _) (by omega) (by omega) (TL_rf u15) (by unfold CP; omega) (out ne)
  | succ n ih =>
    intro u hn u1 u2 hm
    have out : N k / u < 10 → DGU 10 (dgn 10 (N k)) u 0 := fun q => by
      obtain ⟨m, a, b⟩ := hm
      rw [dgn_lt q] at b
      exact Or.inr ⟨m, a, by omega⟩
    have e1 : 0 ≤ N k / u := Int.ediv_nonneg rN.1 (by omega)
    have e2 : N k / u ≤ N k := Int.ediv_le_self u rN.1
    refine go_a (pc' := 55) (ls' := [some (.ref h.length), some (.int (iI k)), some (.long (Int64.ofInt u)), none]) (st' := [.ref h.length]) rfl rfl ?_
    refine go_get rfl mh_o rfl rfl ?_
    refine go_a (pc' := 59) (ls' := [some (.ref h.length), some (.int (iI k)), some (.long (Int64.ofInt u)), none]) (st' := [.int (iI k), .ref (h.length + 6)]) rfl rfl ?_
    refine mi_lld rfl mh_a6 (by omega) (by omega) (by decide) ?_
    refine go_a (pc' := 61) (ls' := [some (.ref h.length), some (.int (iI k)), some (.long (Int64.ofInt u)), none]) (st' := [.long (Int64.ofInt u), .long (Int64.ofInt (N k))]) rfl rfl ?_
    refine mi_ldiv rfl (by omega) (by omega) (by omega) (by omega) ?_
    refine go_b (pc' := 65) (st' := [.long (Int64.ofInt 10), .long (Int64.ofInt ((N k) / u))]) (h' := mh h R I A N) rfl rfl rfl ?_
    refine mi_lc_lt (t := 78) rfl rfl rfl (by omega) (by omega) (by omega) (by omega) (fun q => ?_) (fun q => ?_)
    · exact mm_tellDigX z d k (dgn 10 (N k)) h R I A N hc hS k0 k1 u0 u.toNat u 0 I A (Nat.le_refl _) (by omega) (by omega) (TL_rf u15) (by unfold CP; omega) (out (by omega))
    · have e3 : 10 * u ≤ N k := by
        have := (Int.le_ediv_iff_mul_le (show 0 < u by omega)).mp (show 10 ≤ N k / u by omega)
        omega
      have hm2 : DGN 10 (N k) (10 * u) := by
        obtain ⟨m, a, b⟩ := hm
        rw [dgn_ge (b := 10) (y := N k / u) (Or.inl rfl) (by omega), Int.ediv_ediv_of_nonneg (by omega), Int.mul_comm u 10] at b
        exact ⟨m + 1, by rw [Int.pow_succ, a, Int.mul_comm], by omega⟩
      refine go_b (pc' := 72) (st' := [.long (Int64.ofInt 10)]) (h' := mh h R I A N) rfl rfl rfl ?_
      refine go_a (pc' := 73) (ls' := [some (.ref h.length), some (.int (iI k)), some (.long (Int64.ofInt u)), none]) (st' := [.long (Int64.ofInt u), .long (Int64.ofInt 10)]) rfl rfl ?_
      refine mi_lmul rfl ?_
      refine go_a (pc' := 75) (ls' := [some (.ref h.length), some (.int (iI k)), some (.long (Int64.ofInt (10 * u))), none]) (st' := []) rfl rfl ?_
      refine go_a (pc' := 54) (ls' := [some (.ref h.length), some (.int (iI k)), some (.long (Int64.ofInt (10 * u))), none]) (st' := []) rfl rfl ?_
      exact ih (10 * u) (by omega) (by omega) (Or.inr e3) hm2
theorem mm_tellAtomX (z : Value) (d : Nat) (k : Int) (h R : xx_H) (I : Nat → Int) (A : Nat → Int → Int) (N : Int → Int) (hc : 12 ≤ h.length) (hS : MST I A N) (k0 : 0 ≤ k) (k1 : k < I 7) (u0 : 0 ≤ I 15) (u15 : I 15 ≤ 2000) (hT : TRX I A N) (ha : A 1 k < 0) : xx_cl (xt_P z) (d + 2) 175 [.ref h.length, .int (iI k)] (mh h R I A N) (fun v h1 => v = none ∧ ∃ (I2 : Nat → Int) (A2 : Nat → Int → Int), h1 = mh h R I2 A2 N ∧ TL I A I2 A2 ∧ CP (I 15 + (sp_ln 0 (DM A N k)).1) (I2 15)) := by
  have p1 := hS.1
  have q := (MST_PW hS).2 k k0 k1
  have q0 := (hS.2.1 k k0 k1).1
  have rN := hS.2.2.2.2.1.2.2 k
  refine cl_go rfl ?_
  show xx_go (xt_P z) (d + 1) 175 0 [some (.ref h.length), some (.int (iI k)), none, none] [] (mh h R I A N) _
  refine go_a (pc' := 1) (ls' := [some (.ref h.length), some (.int (iI k)), none, none]) (st' := [.ref h.length]) rfl rfl ?_
  refine go_a (pc' := 2) (ls' := [some (.ref h.length), some (.int (iI k)), none, none]) (st' := [.int (iI k), .ref h.length]) rfl rfl ?_
  refine go_v (m := 101) (as := [.ref h.length, .int (iI k)]) (r := []) rfl rfl rfl mh_o rfl rfl (mm_isSymbol z d k h R I A N hc k0 (by omega) (by omega) (by omega)) (fun v h1 hq => ?_)
  obtain ⟨rfl, rfl⟩ := hq
  by_cases e : A 1 k = -2
  · have q2 : 0 ≤ A 2 k ∧ A 2 k < I 10 := by omega
    have q3 := hS.2.2.2.2.1.1 (A 2 k) q2.1 q2.2
    rw [if_pos e]
    show xx_go (xt_P z) (d + 1) 175 5 [some (.ref h.length), some (.int (iI k)), none, none] [.int (iI 1)] (mh h R I A N) _
    refine mi_eq0 (t := 52) rfl rfl (by omega) (by omega) (fun q => absurd q (by decide)) (fun _ => ?_)
    refine go_a (pc' := 9) (ls' := [some (.ref h.length), some (.int (iI k)), none, none]) (st' := [.int (iI 0)]) rfl rfl ?_
    refine go_a (pc' := 10) (ls' := [some (.ref h.length), some (.int (iI k)), some (.int (iI 0)), none]) (st' := []) rfl rfl ?_
    rw [ln_sym hS hT k0 k1 e]
    exact mm_tellSymX z d k h R I A N hc hS k0 k1 u0 e (A 9 (A 2 k)).toNat 0 I A (Int.le_refl _) (by omega) (TL_rf u15) (by unfold CP; omega)
  · rw [if_neg e]
    show xx_go (xt_P z) (d + 1) 175 5 [some (.ref h.length), some (.int (iI k)), none, none] [.int (iI 0)] (mh h R I A N) _
    refine mi_eq0 (t := 52) rfl rfl (by omega) (by omega) (fun _ => ?_) (fun q => absurd rfl q)
    refine go_a (pc' := 53) (ls' := [some (.ref h.length), some (.int (iI k)), none, none]) (st' := [.long (Int64.ofInt 1)]) rfl rfl ?_
    refine go_a (pc' := 54) (ls' := [some (.ref h.length), some (.int (iI k)), some (.long (Int64.ofInt 1)), none]) (st' := []) rfl rfl ?_
    rw [show (sp_ln 0 (DM A N k)).1 = dgn 10 (N k) by rw [DM_n (by omega)]; rfl]
    exact mm_tellUnitX z d k h R I A N hc hS k0 k1 u0 u15 (N k - 1).toNat 1 (Nat.le_refl _) (Int.le_refl _) (Or.inl rfl) ⟨0, rfl, by rw [Int.ediv_one]; exact (Int.zero_add _).symm⟩
theorem mm_tellObject_loopX (z : Value) (d : Nat) (u Tt : Int) (h R : xx_H) (I : Nat → Int) (A : Nat → Int → Int) (N : Int → Int) (hc : 12 ≤ h.length) (hS : MST I A N) (hN : NM I A) (hT : TRX I A N) : ∀ (n : Nat) (I1 : Nat → Int) (A1 : Nat → Int → Int) (y1 y2 : Option Value), (3 * (2000 - I1 15) + I1 19).toNat ≤ n → TX I A I1 A1 → (0 ≤ I1 15 ∧ I1 15 ≤ 2000) → (0 ≤ I1 19 ∧ I1 19 ≤ I1 15 + 1) → (∀ e : Int, 0 ≤ e → e < I1 19 → 0 ≤ A1 14 e ∧ A1 14 e < 2 * I 7) → CP (I1 15 + SG (tcw A N) (A1 14) (I1 19).toNat) Tt → xx_go (xt_P z) (d + 3) 172 12 [some (.ref h.length), some (.int (iI u)), y1, y2] [] (mh h R I1 A1 N) (fun v h1 => v = none ∧ ∃ (I2 : Nat → Int) (A2 : Nat → Int → Int), h1 = mh h R I2 A2 N ∧ TX I A I2 A2 ∧ (0 ≤ I2 15 ∧ I2 15 ≤ 2000) ∧ I2 15 = Tt) := by
  intro n
  induction n with
  | zero =>
    intro I1 A1 y1 y2 hn X c15 c19 cc hC
    refine go_a (pc' := 13) (ls' := [some (.ref h.length), some (.int (iI u)), y1, y2]) (st' := [.ref h.length]) rfl rfl ?_
    refine go_get (v := .int (iI (I1 19))) rfl mh_o rfl rfl ?_
    refine mi_le0 (t := 229) rfl rfl (by omega) (by omega) (fun _ => ?_) (fun q => absurd (show I1 19 ≤ 0 by omega) q)
    exact go_r rfl rfl rfl rfl rfl rfl ⟨rfl, I1, A1, rfl, X, c15, by rw [show (I1 19).toNat = 0 by omega] at hC; have hC : CP (I1 15 + 0) Tt := hC; unfold CP at hC; omega⟩
  | succ n ih =>
    intro I1 A1 y1 y2 hn X c15 c19 cc hC
    have P1 := MST_PW (MST_TX hS X)
    have e7 : I1 7 = I 7 := X.1 7 (by decide) (by decide)
    have p1 := P1.1
    refine go_a (pc' := 13) (ls' := [some (.ref h.length), some (.int (iI u)), y1, y2]) (st' := [.ref h.length]) rfl rfl ?_
    refine go_get (v := .int (iI (I1 19))) rfl mh_o rfl rfl ?_
    refine mi_le0 (t := 229) rfl rfl (by omega) (by omega) (fun _ => ?_) (fun q0 => ?_)
    · exact go_r rfl rfl rfl rfl rfl rfl ⟨rfl, I1, A1, rfl, X, c15, by rw [show (I1 19).toNat = 0 by omega] at hC; have hC : CP (I1 15 + 0) Tt := hC; unfold CP at hC; omega⟩
    refine go_a (pc' := 20) (ls' := [some (.ref h.length), some (.int (iI u)), y1, y2]) (st' := [.ref h.length]) rfl rfl ?_
    refine go_v (m := 174) (as := [.ref h.length]) (r := []) rfl rfl rfl mh_o rfl rfl (mm_isFull z (d + 2) h R I1 A1 N hc c15.1 c15.2) (fun v h1 hq => ?_)
    obtain ⟨⟨b, rfl, hb⟩, rfl⟩ := hq
    show xx_go (xt_P z) (d + 3) 172 23 [some (.ref h.length), some (.int (iI u)), y1, y2] [.int (iI b)] (mh h R I1 A1 N) _
    refine mi_ne0 (t := 229) rfl rfl (by omega) (by omega) (fun q1 => ?_) (fun q1 => ?_)
    · have sn := SG_nn (g := tcw A N) (f := A1 14) (I1 19).toNat (fun e _ => tcw_nn _)
      exact go_r rfl rfl rfl rfl rfl rfl ⟨rfl, I1, A1, rfl, X, c15, by unfold CP at hC; omega⟩
    have f15 : I1 15 < 2000 := by omega
    have ck := cc (I1 19 - 1) (by omega) (by omega)
    rw [SG_pop (show 0 < I1 19 by omega)] at hC
    have sn := SG_nn (g := tcw A N) (f := A1 14) (I1 19 - 1).toNat (fun e _ => tcw_nn _)
    obtain ⟨Sg, eS⟩ : ∃ q : Int, q = SG (tcw A N) (A1 14) (I1 19 - 1).toNat := ⟨_, rfl⟩
    rw [← eS] at hC sn
    refine go_a (pc' := 27) (ls' := [some (.ref h.length), some (.int (iI u)), y1, y2]) (st' := [.ref h.length]) rfl rfl ?_
    refine go_a (pc' := 28) (ls' := [some (.ref h.length), some (.int (iI u)), y1, y2]) (st' := [.ref h.length, .ref h.length]) rfl rfl ?_
    refine go_get (v := .int (iI (I1 19))) rfl mh_o rfl rfl ?_
    refine go_a (pc' := 32) (ls' := [some (.ref h.length), some (.int (iI u)), y1, y2]) (st' := [.int (iI 1), .int (iI (I1 19)), .ref h.length]) rfl rfl ?_
    refine mi_sub rfl ?_
    refine go_put (j := 19) rfl mh_o rfl rfl (show 12 ≤ _ from hc) (show 19 < 86 by decide) rfl rfl ?_
    rw [mh_p19]
    refine go_a (pc' := 37) (ls' := [some (.ref h.length), some (.int (iI u)), y1, y2]) (st' := [.ref h.length]) rfl rfl ?_
    refine go_get rfl mh_o rfl rfl ?_
    refine go_a (pc' := 41) (ls' := [some (.ref h.length), some (.int (iI u)), y1, y2]) (st' := [.ref h.length, .ref (h.length + 14)]) rfl rfl ?_
    refine go_get (v := .int (iI ((I1 19) - 1))) rfl mh_o rfl rfl ?_
    refine mi_ild rfl mh_a14 (by omega) (by omega) (by decide) ?_
    refine go_a (pc' := 46) (ls' := [some (.ref h.length), some (.int (iI u)), some (.int (iI (A1 14 ((I1 19) - 1)))), y2]) (st' := []) rfl rfl ?_
    refine go_a (pc' := 47) (ls' := [some (.ref h.length), some (.int (iI u)), some (.int (iI (A1 14 ((I1 19) - 1)))), y2]) (st' := [.int (iI (A1 14 ((I1 19) - 1)))]) rfl rfl ?_
    refine go_a (pc' := 48) (ls' := [some (.ref h.length), some (.int (iI u)), some (.int (iI (A1 14 ((I1 19) - 1)))), y2]) (st' := [.int (iI 2), .int (iI (A1 14 ((I1 19) - 1)))]) rfl rfl ?_
    refine mi_idiv rfl (by omega) (by omega) (by omega) (by omega) ?_
    refine go_a (pc' := 50) (ls' := [some (.ref h.length), some (.int (iI u)), some (.int (iI (A1 14 ((I1 19) - 1)))), some (.int (iI ((A1 14 ((I1 19) - 1)) / 2)))]) (st' := []) rfl rfl ?_
    refine go_a (pc' := 51) (ls' := [some (.ref h.length), some (.int (iI u)), some (.int (iI (A1 14 ((I1 19) - 1)))), some (.int (iI ((A1 14 ((I1 19) - 1)) / 2)))]) (st' := [.int (iI (A1 14 ((I1 19) - 1)))]) rfl rfl ?_
    refine go_a (pc' := 52) (ls' := [some (.ref h.length), some (.int (iI u)), some (.int (iI (A1 14 ((I1 19) - 1)))), some (.int (iI ((A1 14 ((I1 19) - 1)) / 2)))]) (st' := [.int (iI 2), .int (iI (A1 14 ((I1 19) - 1)))]) rfl rfl ?_
    refine mi_irem rfl (by omega) (by omega) (by omega) (by omega) ?_
    generalize hcode : A1 14 (I1 19 - 1) = code at ck hC ⊢
    have k0 : 0 ≤ code / 2 := by omega
    have k1 : code / 2 < I1 7 := by omega
    have kp := P1.2 (code / 2) k0 k1
    have r1q : A1 1 = A 1 := X.2 1 (by decide) (by decide)
    have r2q : A1 2 = A 2 := X.2 2 (by decide) (by decide)
    have k7 : code / 2 < I 7 := by omega
    have n7 := hN.1
    have XP : TX I A (su I1 19 (I1 19 - 1)) A1 := TX_tr X ⟨fun j _ q => su_ne q, fun _ _ _ => rfl⟩
    have back : ∀ (I3 : Nat → Int) (A3 : Nat → Int → Int), (3 * (2000 - I3 15) + I3 19).toNat ≤ n → TX I A I3 A3 → (0 ≤ I3 15 ∧ I3 15 ≤ 2000) → (0 ≤ I3 19 ∧ I3 19 ≤ I3 15 + 1) → (∀ e : Int, 0 ≤ e → e < I3 19 → 0 ≤ A3 14 e ∧ A3 14 e < 2 * I 7) → CP (I3 15 + SG (tcw A N) (A3 14) (I3 19).toNat) Tt → xx_go (xt_P z) (d + 3) 172 226 [some (.ref h.length), some (.int (iI u)), some (.int (iI code)), some (.int (iI (code / 2)))] [] (mh h R I3 A3 N) (fun v h1 => v = none ∧ ∃ (I2 : Nat → Int) (A2 : Nat → Int → Int), h1 = mh h R I2 A2 N ∧ TX I A I2 A2 ∧ (0 ≤ I2 15 ∧ I2 15 ≤ 2000) ∧ I2 15 = Tt) := fun I3 A3 a1 a2 a3 a4 a5 a6 => go_a (pc' := 12) rfl rfl (ih I3 A3 _ _ a1 a2 a3 a4 a5 a6)
    have atm : A1 1 (code / 2) < 0 → code % 2 = 0 → xx_go (xt_P z) (d + 3) 172 64 [some (.ref h.length), some (.int (iI u)), some (.int (iI code)), some (.int (iI (code / 2)))] [] (mh h R (su I1 19 (I1 19 - 1)) A1 N) (fun v h1 => v = none ∧ ∃ (I2 : Nat → Int) (A2 : Nat → Int → Int), h1 = mh h R I2 A2 N ∧ TX I A I2 A2 ∧ (0 ≤ I2 15 ∧ I2 15 ≤ 2000) ∧ I2 15 = Tt) := by
      intro ha he
      have wc := tcw_e (A := A) (N := N) he
      refine go_a (pc' := 65) (ls' := [some (.ref h.length), some (.int (iI u)), some (.int (iI code)), some (.int (iI (code / 2)))]) (st' := [.ref h.length]) rfl rfl ?_
      refine go_a (pc' := 66) (ls' := [some (.ref h.length), some (.int (iI u)), some (.int (iI code)), some (.int (iI (code / 2)))]) (st' := [.int (iI (code / 2)), .ref h.length]) rfl rfl ?_
      refine go_v (m := 175) (as := [.ref h.length, .int (iI (code / 2))]) (r := []) rfl rfl rfl mh_o rfl rfl (mm_tellAtomX z (d + 1) (code / 2) h R (su I1 19 (I1 19 - 1)) A1 N hc (MST_TX hS XP) k0 k1 c15.1 c15.2 (TRX_TX hS hN hT XP) ha) (fun v h1 hq => ?_)
      obtain ⟨rfl, I2, A2, rfl, L2, l9⟩ := hq
      rw [DM_TX XP] at l9
      have l9 : CP (I1 15 + (sp_ln 0 (DM A N (code / 2))).1) (I2 15) := l9
      show xx_go (xt_P z) (d + 3) 172 69 [some (.ref h.length), some (.int (iI u)), some (.int (iI code)), some (.int (iI (code / 2)))] [] (mh h R I2 A2 N) _
      refine go_a (pc' := 226) (ls' := [some (.ref h.length), some (.int (iI u)), some (.int (iI code)), some (.int (iI (code / 2)))]) (st' := []) rfl rfl ?_
      have l15 : I1 15 ≤ I2 15 := L2.2.2.2.1
      have l19 : I2 19 = I1 19 - 1 := L2.2.1
      have l16 := L2.2.2.2.2
      exact back I2 A2 (by omega) (TX_tr XP L2.1) (by omega) (by omega) (fun e e0 e1 => by rw [L2.2.2.1]; exact cc e e0 (by omega)) (by rw [L2.2.2.1, l19, ← eS]; unfold CP at hC l9 ⊢; omega)
    have lst : 0 ≤ A1 1 (code / 2) → code % 2 = 0 → ¬ (A1 1 (code / 2) = 2 ∧ 0 ≤ A1 1 (A1 2 (code / 2)) ∧ A1 2 (A1 2 (code / 2)) = 0) → xx_go (xt_P z) (d + 3) 172 106 [some (.ref h.length), some (.int (iI u)), some (.int (iI code)), some (.int (iI (code / 2)))] [] (mh h R (su I1 19 (I1 19 - 1)) A1 N) (fun v h1 => v = none ∧ ∃ (I2 : Nat → Int) (A2 : Nat → Int → Int), h1 = mh h R I2 A2 N ∧ TX I A I2 A2 ∧ (0 ≤ I2 15 ∧ I2 15 ≤ 2000) ∧ I2 15 = Tt) := by
      intro hp he hnq
      have kq := kp.2.2.2.2 hp
      have wc := tcw_e (A := A) (N := N) he; rw [ln_pair hS hN hT k0 k7 (by rw [← r1q]; exact hp) (by rw [← r1q, ← r2q]; exact hnq)] at wc
      refine go_a (pc' := 107) (ls' := [some (.ref h.length), some (.int (iI u)), some (.int (iI code)), some (.int (iI (code / 2)))]) (st' := [.ref h.length]) rfl rfl ?_
      refine go_a (pc' := 109) (ls' := [some (.ref h.length), some (.int (iI u)), some (.int (iI code)), some (.int (iI (code / 2)))]) (st' := [.int (iI 40), .ref h.length]) rfl rfl ?_
      refine go_v (m := 176) (as := [.ref h.length, .int (iI 40)]) (r := []) rfl rfl rfl mh_o rfl rfl (mm_tellLetter z (d + 2) 40 h R (su I1 19 (I1 19 - 1)) A1 N hc c15.1 c15.2) (fun v h1 hq => ?_)
      obtain ⟨rfl, I2, A2, rfl, L2, l15⟩ := hq
      have l15 : I2 15 = I1 15 + 1 := l15 f15
      have l19 : I2 19 = I1 19 - 1 := L2.2.1
      have a1 : A2 1 = A1 1 := L2.1.2 1 (by decide) (by decide)
      have a2 : A2 2 = A1 2 := L2.1.2 2 (by decide) (by decide)
      show xx_go (xt_P z) (d + 3) 172 112 [some (.ref h.length), some (.int (iI u)), some (.int (iI code)), some (.int (iI (code / 2)))] [] (mh h R I2 A2 N) _
      rw [← a1, ← a2] at kp
      rw [← a2] at kq
      rw [← a1] at hp
      refine go_a (pc' := 113) (ls' := [some (.ref h.length), some (.int (iI u)), some (.int (iI code)), some (.int (iI (code / 2)))]) (st' := [.ref h.length]) rfl rfl ?_
      refine go_a (pc' := 114) (ls' := [some (.ref h.length), some (.int (iI u)), some (.int (iI code)), some (.int (iI (code / 2)))]) (st' := [.int (iI 2), .ref h.length]) rfl rfl ?_
      refine go_a (pc' := 115) (ls' := [some (.ref h.length), some (.int (iI u)), some (.int (iI code)), some (.int (iI (code / 2)))]) (st' := [.ref h.length, .int (iI 2), .ref h.length]) rfl rfl ?_
      refine go_get rfl mh_o rfl rfl ?_
      refine go_a (pc' := 119) (ls' := [some (.ref h.length), some (.int (iI u)), some (.int (iI code)), some (.int (iI (code / 2)))]) (st' := [.int (iI (code / 2)), .ref (h.length + 2), .int (iI 2), .ref h.length]) rfl rfl ?_
      refine mi_ild rfl mh_a2 (by omega) (by omega) (by decide) ?_
      refine mi_mul rfl ?_
      refine go_a (pc' := 122) (ls' := [some (.ref h.length), some (.int (iI u)), some (.int (iI code)), some (.int (iI (code / 2)))]) (st' := [.int (iI 1), .int (iI (2 * (A2 2 (code / 2)))), .ref h.length]) rfl rfl ?_
      refine mi_add rfl ?_
      refine go_v (m := 173) (as := [.ref h.length, .int (iI ((2 * (A2 2 (code / 2))) + 1))]) (r := []) rfl rfl rfl mh_o rfl rfl (mm_later z (d + 2) (2 * A2 2 (code / 2) + 1) h R I2 A2 N hc (by omega) (by omega)) (fun v h1 hq => ?_)
      obtain ⟨rfl, rfl⟩ := hq
      show xx_go (xt_P z) (d + 3) 172 126 [some (.ref h.length), some (.int (iI u)), some (.int (iI code)), some (.int (iI (code / 2)))] [] (mh h R (su I2 19 (I2 19 + 1)) (sa A2 14 (I2 19) (2 * A2 2 (code / 2) + 1)) N) _
      refine go_a (pc' := 127) (ls' := [some (.ref h.length), some (.int (iI u)), some (.int (iI code)), some (.int (iI (code / 2)))]) (st' := [.ref h.length]) rfl rfl ?_
      refine go_a (pc' := 128) (ls' := [some (.ref h.length), some (.int (iI u)), some (.int (iI code)), some (.int (iI (code / 2)))]) (st' := [.int (iI 2), .ref h.length]) rfl rfl ?_
      refine go_a (pc' := 129) (ls' := [some (.ref h.length), some (.int (iI u)), some (.int (iI code)), some (.int (iI (code / 2)))]) (st' := [.ref h.length, .int (iI 2), .ref h.length]) rfl rfl ?_
      refine go_get rfl mh_o rfl rfl ?_
      refine go_a (pc' := 133) (ls' := [some (.ref h.length), some (.int (iI u)), some (.int (iI code)), some (.int (iI (code / 2)))]) (st' := [.int (iI (code / 2)), .ref (h.length + 1), .int (iI 2), .ref h.length]) rfl rfl ?_
      refine mi_ild rfl mh_a1 (by omega) (by omega) (by decide) ?_
      show xx_go (xt_P z) (d + 3) 172 134 [some (.ref h.length), some (.int (iI u)), some (.int (iI code)), some (.int (iI (code / 2)))] [.int (iI (A2 1 (code / 2))), .int (iI 2), .ref h.length] (mh h R (su I2 19 (I2 19 + 1)) (sa A2 14 (I2 19) (2 * A2 2 (code / 2) + 1)) N) _
      refine mi_mul rfl ?_
      refine go_v (m := 173) (as := [.ref h.length, .int (iI (2 * (A2 1 (code / 2))))]) (r := []) rfl rfl rfl mh_o rfl rfl (mm_later z (d + 2) (2 * A2 1 (code / 2)) h R (su I2 19 (I2 19 + 1)) (sa A2 14 (I2 19) (2 * A2 2 (code / 2) + 1)) N hc (show 0 ≤ I2 19 + 1 by omega) (show I2 19 + 1 < 4000 by omega)) (fun v h1 hq => ?_)
      obtain ⟨rfl, rfl⟩ := hq
      show xx_go (xt_P z) (d + 3) 172 138 [some (.ref h.length), some (.int (iI u)), some (.int (iI code)), some (.int (iI (code / 2)))] [] (mh h R (su (su I2 19 (I2 19 + 1)) 19 (I2 19 + 1 + 1)) (sa (sa A2 14 (I2 19) (2 * A2 2 (code / 2) + 1)) 14 (I2 19 + 1) (2 * A2 1 (code / 2))) N) _
      refine go_a (pc' := 226) (ls' := [some (.ref h.length), some (.int (iI u)), some (.int (iI code)), some (.int (iI (code / 2)))]) (st' := []) rfl rfl ?_
      refine back _ _ (show (3 * (2000 - I2 15) + (I2 19 + 1 + 1)).toNat ≤ n by omega) (TX_tr XP (TX_tr L2.1 ⟨fun j _ q => (su_ne q).trans (su_ne q), fun a _ q => (sa_ne q).trans (sa_ne q)⟩)) (show 0 ≤ I2 15 ∧ I2 15 ≤ 2000 by omega) (show 0 ≤ I2 19 + 1 + 1 ∧ I2 19 + 1 + 1 ≤ I2 15 + 1 by omega) (fun e e0 e1 => ?_) ?_
      rotate_left
      · show CP (I2 15 + SG (tcw A N) (sf (sf (A2 14) (I2 19) (2 * A2 2 (code / 2) + 1)) (I2 19 + 1) (2 * A2 1 (code / 2))) (I2 19 + 1 + 1).toNat) Tt
        rw [SG_push (by omega), SG_push (by omega), L2.2.2.1, l19, ← eS, tcw_o (by omega), tcw_e (by omega), show (2 * A2 2 (code / 2) + 1) / 2 = A2 2 (code / 2) by omega, show 2 * A2 1 (code / 2) / 2 = A2 1 (code / 2) by omega, a1, a2, r1q, r2q]
        unfold CP at hC ⊢
        omega
      have e1 : e < I2 19 + 1 + 1 := e1
      show 0 ≤ sf (sf (A2 14) (I2 19) (2 * A2 2 (code / 2) + 1)) (I2 19 + 1) (2 * A2 1 (code / 2)) e ∧ sf (sf (A2 14) (I2 19) (2 * A2 2 (code / 2) + 1)) (I2 19 + 1) (2 * A2 1 (code / 2)) e < 2 * I 7
      by_cases g1 : e = I2 19 + 1
      · rw [g1, sf_self]
        omega
      · rw [sf_ne g1]
        by_cases g2 : e = I2 19
        · rw [g2, sf_self]
          omega
        · rw [sf_ne g2, L2.2.2.1]
          exact cc e e0 (by omega)
    have mor : 0 ≤ A1 1 (code / 2) → code % 2 = 1 → xx_go (xt_P z) (d + 3) 172 162 [some (.ref h.length), some (.int (iI u)), some (.int (iI code)), some (.int (iI (code / 2)))] [] (mh h R (su I1 19 (I1 19 - 1)) A1 N) (fun v h1 => v = none ∧ ∃ (I2 : Nat → Int) (A2 : Nat → Int → Int), h1 = mh h R I2 A2 N ∧ TX I A I2 A2 ∧ (0 ≤ I2 15 ∧ I2 15 ≤ 2000) ∧ I2 15 = Tt) := by
      intro hp he
      have kq := kp.2.2.2.2 hp
      have wc := tcw_o (A := A) (N := N) he; rw [ln_rest hS hT k0 k7 (by rw [← r1q]; exact hp)] at wc
      refine go_a (pc' := 163) (ls' := [some (.ref h.length), some (.int (iI u)), some (.int (iI code)), some (.int (iI (code / 2)))]) (st' := [.ref h.length]) rfl rfl ?_
      refine go_a (pc' := 165) (ls' := [some (.ref h.length), some (.int (iI u)), some (.int (iI code)), some (.int (iI (code / 2)))]) (st' := [.int (iI 32), .ref h.length]) rfl rfl ?_
      refine go_v (m := 176) (as := [.ref h.length, .int (iI 32)]) (r := []) rfl rfl rfl mh_o rfl rfl (mm_tellLetter z (d + 2) 32 h R (su I1 19 (I1 19 - 1)) A1 N hc c15.1 c15.2) (fun v h1 hq => ?_)
      obtain ⟨rfl, I2, A2, rfl, L2, l15⟩ := hq
      have l15 : I2 15 = I1 15 + 1 := l15 f15
      have l19 : I2 19 = I1 19 - 1 := L2.2.1
      have a1 : A2 1 = A1 1 := L2.1.2 1 (by decide) (by decide)
      have a2 : A2 2 = A1 2 := L2.1.2 2 (by decide) (by decide)
      show xx_go (xt_P z) (d + 3) 172 168 [some (.ref h.length), some (.int (iI u)), some (.int (iI code)), some (.int (iI (code / 2)))] [] (mh h R I2 A2 N) _
      rw [← a1, ← a2] at kp
      rw [← a2] at kq
      rw [← a1] at hp
      refine go_a (pc' := 169) (ls' := [some (.ref h.length), some (.int (iI u)), some (.int (iI code)), some (.int (iI (code / 2)))]) (st' := [.ref h.length]) rfl rfl ?_
      refine go_a (pc' := 170) (ls' := [some (.ref h.length), some (.int (iI u)), some (.int (iI code)), some (.int (iI (code / 2)))]) (st' := [.int (iI 2), .ref h.length]) rfl rfl ?_
      refine go_a (pc' := 171) (ls' := [some (.ref h.length), some (.int (iI u)), some (.int (iI code)), some (.int (iI (code / 2)))]) (st' := [.ref h.length, .int (iI 2), .ref h.length]) rfl rfl ?_
      refine go_get rfl mh_o rfl rfl ?_
      refine go_a (pc' := 175) (ls' := [some (.ref h.length), some (.int (iI u)), some (.int (iI code)), some (.int (iI (code / 2)))]) (st' := [.int (iI (code / 2)), .ref (h.length + 2), .int (iI 2), .ref h.length]) rfl rfl ?_
      refine mi_ild rfl mh_a2 (by omega) (by omega) (by decide) ?_
      refine mi_mul rfl ?_
      refine go_a (pc' := 178) (ls' := [some (.ref h.length), some (.int (iI u)), some (.int (iI code)), some (.int (iI (code / 2)))]) (st' := [.int (iI 1), .int (iI (2 * (A2 2 (code / 2)))), .ref h.length]) rfl rfl ?_
      refine mi_add rfl ?_
      refine go_v (m := 173) (as := [.ref h.length, .int (iI ((2 * (A2 2 (code / 2))) + 1))]) (r := []) rfl rfl rfl mh_o rfl rfl (mm_later z (d + 2) (2 * A2 2 (code / 2) + 1) h R I2 A2 N hc (by omega) (by omega)) (fun v h1 hq => ?_)
      obtain ⟨rfl, rfl⟩ := hq
      show xx_go (xt_P z) (d + 3) 172 182 [some (.ref h.length), some (.int (iI u)), some (.int (iI code)), some (.int (iI (code / 2)))] [] (mh h R (su I2 19 (I2 19 + 1)) (sa A2 14 (I2 19) (2 * A2 2 (code / 2) + 1)) N) _
      refine go_a (pc' := 183) (ls' := [some (.ref h.length), some (.int (iI u)), some (.int (iI code)), some (.int (iI (code / 2)))]) (st' := [.ref h.length]) rfl rfl ?_
      refine go_a (pc' := 184) (ls' := [some (.ref h.length), some (.int (iI u)), some (.int (iI code)), some (.int (iI (code / 2)))]) (st' := [.int (iI 2), .ref h.length]) rfl rfl ?_
      refine go_a (pc' := 185) (ls' := [some (.ref h.length), some (.int (iI u)), some (.int (iI code)), some (.int (iI (code / 2)))]) (st' := [.ref h.length, .int (iI 2), .ref h.length]) rfl rfl ?_
      refine go_get rfl mh_o rfl rfl ?_
      refine go_a (pc' := 189) (ls' := [some (.ref h.length), some (.int (iI u)), some (.int (iI code)), some (.int (iI (code / 2)))]) (st' := [.int (iI (code / 2)), .ref (h.length + 1), .int (iI 2), .ref h.length]) rfl rfl ?_
      refine mi_ild rfl mh_a1 (by omega) (by omega) (by decide) ?_
      show xx_go (xt_P z) (d + 3) 172 190 [some (.ref h.length), some (.int (iI u)), some (.int (iI code)), some (.int (iI (code / 2)))] [.int (iI (A2 1 (code / 2))), .int (iI 2), .ref h.length] (mh h R (su I2 19 (I2 19 + 1)) (sa A2 14 (I2 19) (2 * A2 2 (code / 2) + 1)) N) _
      refine mi_mul rfl ?_
      refine go_v (m := 173) (as := [.ref h.length, .int (iI (2 * (A2 1 (code / 2))))]) (r := []) rfl rfl rfl mh_o rfl rfl (mm_later z (d + 2) (2 * A2 1 (code / 2)) h R (su I2 19 (I2 19 + 1)) (sa A2 14 (I2 19) (2 * A2 2 (code / 2) + 1)) N hc (show 0 ≤ I2 19 + 1 by omega) (show I2 19 + 1 < 4000 by omega)) (fun v h1 hq => ?_)
      obtain ⟨rfl, rfl⟩ := hq
      show xx_go (xt_P z) (d + 3) 172 194 [some (.ref h.length), some (.int (iI u)), some (.int (iI code)), some (.int (iI (code / 2)))] [] (mh h R (su (su I2 19 (I2 19 + 1)) 19 (I2 19 + 1 + 1)) (sa (sa A2 14 (I2 19) (2 * A2 2 (code / 2) + 1)) 14 (I2 19 + 1) (2 * A2 1 (code / 2))) N) _
      refine go_a (pc' := 226) (ls' := [some (.ref h.length), some (.int (iI u)), some (.int (iI code)), some (.int (iI (code / 2)))]) (st' := []) rfl rfl ?_
      refine back _ _ (show (3 * (2000 - I2 15) + (I2 19 + 1 + 1)).toNat ≤ n by omega) (TX_tr XP (TX_tr L2.1 ⟨fun j _ q => (su_ne q).trans (su_ne q), fun a _ q => (sa_ne q).trans (sa_ne q)⟩)) (show 0 ≤ I2 15 ∧ I2 15 ≤ 2000 by omega) (show 0 ≤ I2 19 + 1 + 1 ∧ I2 19 + 1 + 1 ≤ I2 15 + 1 by omega) (fun e e0 e1 => ?_) ?_
      rotate_left
      · show CP (I2 15 + SG (tcw A N) (sf (sf (A2 14) (I2 19) (2 * A2 2 (code / 2) + 1)) (I2 19 + 1) (2 * A2 1 (code / 2))) (I2 19 + 1 + 1).toNat) Tt
        rw [SG_push (by omega), SG_push (by omega), L2.2.2.1, l19, ← eS, tcw_o (by omega), tcw_e (by omega), show (2 * A2 2 (code / 2) + 1) / 2 = A2 2 (code / 2) by omega, show 2 * A2 1 (code / 2) / 2 = A2 1 (code / 2) by omega, a1, a2, r1q, r2q]
        unfold CP at hC ⊢
        omega
      have e1 : e < I2 19 + 1 + 1 := e1
      show 0 ≤ sf (sf (A2 14) (I2 19) (2 * A2 2 (code / 2) + 1)) (I2 19 + 1) (2 * A2 1 (code / 2)) e ∧ sf (sf (A2 14) (I2 19) (2 * A2 2 (code / 2) + 1)) (I2 19 + 1) (2 * A2 1 (code / 2)) e < 2 * I 7
      by_cases g1 : e = I2 19 + 1
      · rw [g1, sf_self]
        omega
      · rw [sf_ne g1]
        by_cases g2 : e = I2 19
        · rw [g2, sf_self]
          omega
        · rw [sf_ne g2, L2.2.2.1]
          exact cc e e0 (by omega)
    show xx_go (xt_P z) (d + 3) 172 53 [some (.ref h.length), some (.int (iI u)), some (.int (iI code)), some (.int (iI (code / 2)))] [.int (iI (code % 2))] (mh h R ((su I1 19 (I1 19 - 1))) A1 N) _
    refine mi_ne0 (t := 141) rfl rfl (by omega) (by omega) (fun q2 => ?_) (fun q2 => ?_)
    · refine go_a (pc' := 142) (ls' := [some (.ref h.length), some (.int (iI u)), some (.int (iI code)), some (.int (iI (code / 2)))]) (st' := [.int (iI (code / 2))]) rfl rfl ?_
      refine mi_ne0 (t := 154) rfl rfl (by omega) (by omega) (fun q3 => ?_) (fun q3 => ?_)
      · refine go_a (pc' := 155) (ls' := [some (.ref h.length), some (.int (iI u)), some (.int (iI code)), some (.int (iI (code / 2)))]) (st' := [.ref h.length]) rfl rfl ?_
        refine go_a (pc' := 156) (ls' := [some (.ref h.length), some (.int (iI u)), some (.int (iI code)), some (.int (iI (code / 2)))]) (st' := [.int (iI (code / 2)), .ref h.length]) rfl rfl ?_
        refine go_v (m := 96) (as := [.ref h.length, .int (iI (code / 2))]) (r := []) rfl rfl rfl mh_o rfl rfl (mm_isPair z (d + 2) (code / 2) h R (su I1 19 (I1 19 - 1)) A1 N hc k0 (by omega) (by omega) (by omega)) (fun v h1 hq => ?_)
        obtain ⟨rfl, rfl⟩ := hq
        by_cases hp : 0 ≤ A1 1 (code / 2)
        · rw [if_pos hp]
          show xx_go (xt_P z) (d + 3) 172 159 [some (.ref h.length), some (.int (iI u)), some (.int (iI code)), some (.int (iI (code / 2)))] [.int (iI 1)] (mh h R ((su I1 19 (I1 19 - 1))) A1 N) _
          exact mi_eq0 (t := 197) rfl rfl (by omega) (by omega) (fun q => absurd q (by decide)) (fun _ => mor hp (by omega))
        · rw [if_neg hp]
          show xx_go (xt_P z) (d + 3) 172 159 [some (.ref h.length), some (.int (iI u)), some (.int (iI code)), some (.int (iI (code / 2)))] [.int (iI 0)] (mh h R ((su I1 19 (I1 19 - 1))) A1 N) _
          refine mi_eq0 (t := 197) rfl rfl (by omega) (by omega) (fun _ => ?_) (fun q => absurd rfl q)
          have wc := tcw_o (A := A) (N := N) (show code % 2 = 1 by omega)
          rw [ln_ratom hS hT hN k0 k7 (by rw [← r1q]; omega) q3] at wc
          refine go_a (pc' := 198) (ls' := [some (.ref h.length), some (.int (iI u)), some (.int (iI code)), some (.int (iI (code / 2)))]) (st' := [.ref h.length]) rfl rfl ?_
          refine go_a (pc' := 200) (ls' := [some (.ref h.length), some (.int (iI u)), some (.int (iI code)), some (.int (iI (code / 2)))]) (st' := [.int (iI 32), .ref h.length]) rfl rfl ?_
          refine go_v (m := 176) (as := [.ref h.length, .int (iI 32)]) (r := []) rfl rfl rfl mh_o rfl rfl (mm_tellLetter z (d + 2) 32 h R (su I1 19 (I1 19 - 1)) A1 N hc c15.1 c15.2) (fun v h1 hq => ?_)
          obtain ⟨rfl, I2, A2, rfl, M2, m2⟩ := hq
          show xx_go (xt_P z) (d + 3) 172 203 [some (.ref h.length), some (.int (iI u)), some (.int (iI code)), some (.int (iI (code / 2)))] [] (mh h R I2 A2 N) _
          have m2 : I2 15 = I1 15 + 1 := m2 f15
          refine go_a (pc' := 204) (ls' := [some (.ref h.length), some (.int (iI u)), some (.int (iI code)), some (.int (iI (code / 2)))]) (st' := [.ref h.length]) rfl rfl ?_
          refine go_a (pc' := 206) (ls' := [some (.ref h.length), some (.int (iI u)), some (.int (iI code)), some (.int (iI (code / 2)))]) (st' := [.int (iI 46), .ref h.length]) rfl rfl ?_
          refine go_v (m := 176) (as := [.ref h.length, .int (iI 46)]) (r := []) rfl rfl rfl mh_o rfl rfl (mm_tellLetter z (d + 2) 46 h R I2 A2 N hc (by omega) M2.2.2.2.2) (fun v h1 hq => ?_)
          obtain ⟨rfl, I3, A3, rfl, M3, m3⟩ := hq
          show xx_go (xt_P z) (d + 3) 172 209 [some (.ref h.length), some (.int (iI u)), some (.int (iI code)), some (.int (iI (code / 2)))] [] (mh h R I3 A3 N) _
          have n3 := M3.2.2.2.1
          refine go_a (pc' := 210) (ls' := [some (.ref h.length), some (.int (iI u)), some (.int (iI code)), some (.int (iI (code / 2)))]) (st' := [.ref h.length]) rfl rfl ?_
          refine go_a (pc' := 212) (ls' := [some (.ref h.length), some (.int (iI u)), some (.int (iI code)), some (.int (iI (code / 2)))]) (st' := [.int (iI 32), .ref h.length]) rfl rfl ?_
          refine go_v (m := 176) (as := [.ref h.length, .int (iI 32)]) (r := []) rfl rfl rfl mh_o rfl rfl (mm_tellLetter z (d + 2) 32 h R I3 A3 N hc (by omega) M3.2.2.2.2) (fun v h1 hq => ?_)
          obtain ⟨rfl, I4, A4, rfl, M4, m4⟩ := hq
          show xx_go (xt_P z) (d + 3) 172 215 [some (.ref h.length), some (.int (iI u)), some (.int (iI code)), some (.int (iI (code / 2)))] [] (mh h R I4 A4 N) _
          have n4 := M4.2.2.2.1
          have M := TL_tr M2 (TL_tr M3 M4)
          have XM := TX_tr XP M.1
          refine go_a (pc' := 216) (ls' := [some (.ref h.length), some (.int (iI u)), some (.int (iI code)), some (.int (iI (code / 2)))]) (st' := [.ref h.length]) rfl rfl ?_
          refine go_a (pc' := 217) (ls' := [some (.ref h.length), some (.int (iI u)), some (.int (iI code)), some (.int (iI (code / 2)))]) (st' := [.int (iI (code / 2)), .ref h.length]) rfl rfl ?_
          have e74 : I4 7 = I1 7 := M.1.1 7 (by decide) (by decide)
          refine go_v (m := 175) (as := [.ref h.length, .int (iI (code / 2))]) (r := []) rfl rfl rfl mh_o rfl rfl (mm_tellAtomX z (d + 1) (code / 2) h R I4 A4 N hc (MST_TX hS XM) k0 (by omega) (by omega) M4.2.2.2.2 (TRX_TX hS hN hT XM) (by rw [XM.2 1 (by decide) (by decide), ← r1q]; omega)) (fun v h1 hq => ?_)
          obtain ⟨rfl, I5, A5, rfl, M5, l9⟩ := hq
          rw [DM_TX XM] at l9
          have n8 := M5.2.2.2
          show xx_go (xt_P z) (d + 3) 172 220 [some (.ref h.length), some (.int (iI u)), some (.int (iI code)), some (.int (iI (code / 2)))] [] (mh h R I5 A5 N) _
          have n5 := M5.2.2.2.1
          refine go_a (pc' := 221) (ls' := [some (.ref h.length), some (.int (iI u)), some (.int (iI code)), some (.int (iI (code / 2)))]) (st' := [.ref h.length]) rfl rfl ?_
          refine go_a (pc' := 223) (ls' := [some (.ref h.length), some (.int (iI u)), some (.int (iI code)), some (.int (iI (code / 2)))]) (st' := [.int (iI 41), .ref h.length]) rfl rfl ?_
          refine go_v (m := 176) (as := [.ref h.length, .int (iI 41)]) (r := []) rfl rfl rfl mh_o rfl rfl (mm_tellLetter z (d + 2) 41 h R I5 A5 N hc (by omega) M5.2.2.2.2) (fun v h1 hq => ?_)
          obtain ⟨rfl, I6, A6, rfl, M6, m6⟩ := hq
          show xx_go (xt_P z) (d + 3) 172 226 [some (.ref h.length), some (.int (iI u)), some (.int (iI code)), some (.int (iI (code / 2)))] [] (mh h R I6 A6 N) _
          have n6 := M6.2.2.2.1
          have MM := TL_tr M (TL_tr M5 M6)
          have l19 : I6 19 = I1 19 - 1 := MM.2.1
          have l16 := MM.2.2.2.2
          exact back I6 A6 (by omega) (TX_tr XP MM.1) (by omega) (by omega) (fun e e0 e1 => by rw [MM.2.2.1]; exact cc e e0 (by omega)) (by rw [MM.2.2.1, l19, ← eS]; unfold CP at hC l9 ⊢; omega)
      · refine go_a (pc' := 146) (ls' := [some (.ref h.length), some (.int (iI u)), some (.int (iI code)), some (.int (iI (code / 2)))]) (st' := [.ref h.length]) rfl rfl ?_
        refine go_a (pc' := 148) (ls' := [some (.ref h.length), some (.int (iI u)), some (.int (iI code)), some (.int (iI (code / 2)))]) (st' := [.int (iI 41), .ref h.length]) rfl rfl ?_
        refine go_v (m := 176) (as := [.ref h.length, .int (iI 41)]) (r := []) rfl rfl rfl mh_o rfl rfl (mm_tellLetter z (d + 2) 41 h R (su I1 19 (I1 19 - 1)) A1 N hc c15.1 c15.2) (fun v h1 hq => ?_)
        obtain ⟨rfl, I2, A2, rfl, M2, m2⟩ := hq
        have m2 : I2 15 = I1 15 + 1 := m2 f15
        have l19 : I2 19 = I1 19 - 1 := M2.2.1
        show xx_go (xt_P z) (d + 3) 172 151 [some (.ref h.length), some (.int (iI u)), some (.int (iI code)), some (.int (iI (code / 2)))] [] (mh h R I2 A2 N) _
        have wc := tcw_o (A := A) (N := N) (show code % 2 = 1 by omega)
        rw [show code / 2 = 0 by omega, DM_0 hT] at wc
        have wc : tcw A N code = 1 := wc
        refine go_a (pc' := 226) (ls' := [some (.ref h.length), some (.int (iI u)), some (.int (iI code)), some (.int (iI (code / 2)))]) (st' := []) rfl rfl ?_
        exact back I2 A2 (by omega) (TX_tr XP M2.1) (by omega) (by omega) (fun e e0 e1 => by rw [M2.2.2.1]; exact cc e e0 (by omega)) (by rw [M2.2.2.1, l19, ← eS]; unfold CP at hC ⊢; omega)
    · refine go_a (pc' := 57) (ls' := [some (.ref h.length), some (.int (iI u)), some (.int (iI code)), some (.int (iI (code / 2)))]) (st' := [.ref h.length]) rfl rfl ?_
      refine go_a (pc' := 58) (ls' := [some (.ref h.length), some (.int (iI u)), some (.int (iI code)), some (.int (iI (code / 2)))]) (st' := [.int (iI (code / 2)), .ref h.length]) rfl rfl ?_
      refine go_v (m := 96) (as := [.ref h.length, .int (iI (code / 2))]) (r := []) rfl rfl rfl mh_o rfl rfl (mm_isPair z (d + 2) (code / 2) h R (su I1 19 (I1 19 - 1)) A1 N hc k0 (by omega) (by omega) (by omega)) (fun v h1 hq => ?_)
      obtain ⟨rfl, rfl⟩ := hq
      by_cases hp : 0 ≤ A1 1 (code / 2)
      · rw [if_pos hp]
        have kq := kp.2.2.2.2 hp
        show xx_go (xt_P z) (d + 3) 172 61 [some (.ref h.length), some (.int (iI u)), some (.int (iI code)), some (.int (iI (code / 2)))] [.int (iI 1)] (mh h R ((su I1 19 (I1 19 - 1))) A1 N) _
        refine mi_ne0 (t := 72) rfl rfl (by omega) (by omega) (fun _ => ?_) (fun q => absurd (show ¬ (1 : Int) = 0 by decide) q)
        refine go_a (pc' := 73) (ls' := [some (.ref h.length), some (.int (iI u)), some (.int (iI code)), some (.int (iI (code / 2)))]) (st' := [.ref h.length]) rfl rfl ?_
        refine go_a (pc' := 74) (ls' := [some (.ref h.length), some (.int (iI u)), some (.int (iI code)), some (.int (iI (code / 2)))]) (st' := [.int (iI (code / 2)), .ref h.length]) rfl rfl ?_
        refine go_v (m := 108) (as := [.ref h.length, .int (iI (code / 2))]) (r := []) rfl rfl rfl mh_o rfl rfl (mm_isQuoted z (d + 1) (code / 2) h R (su I1 19 (I1 19 - 1)) A1 N hc P1 k0 k1) (fun v h1 hq => ?_)
        obtain ⟨⟨b2, rfl, hb2⟩, rfl⟩ := hq
        show xx_go (xt_P z) (d + 3) 172 77 [some (.ref h.length), some (.int (iI u)), some (.int (iI code)), some (.int (iI (code / 2)))] [.int (iI b2)] (mh h R ((su I1 19 (I1 19 - 1))) A1 N) _
        refine mi_eq0 (t := 106) rfl rfl (by omega) (by omega) (fun q5 => lst hp (by omega) (by rcases hb2 with hb2 | hb2; exact absurd hb2.1 (by omega); exact hb2.2)) (fun q5 => ?_)
        have qq : A1 1 (code / 2) = 2 ∧ 0 ≤ A1 1 (A1 2 (code / 2)) ∧ A1 2 (A1 2 (code / 2)) = 0 := by
          rcases hb2 with hb2 | hb2
          · exact hb2.2
          · exact absurd hb2.1 q5
        have kr := P1.2 (A1 2 (code / 2)) (by omega) (by omega)
        have wc := tcw_e (A := A) (N := N) (show code % 2 = 0 by omega)
        rw [ln_quo hS hN hT k0 k7 (by rw [← r1q, ← r2q]; exact qq)] at wc
        refine go_a (pc' := 81) (ls' := [some (.ref h.length), some (.int (iI u)), some (.int (iI code)), some (.int (iI (code / 2)))]) (st' := [.ref h.length]) rfl rfl ?_
        refine go_a (pc' := 83) (ls' := [some (.ref h.length), some (.int (iI u)), some (.int (iI code)), some (.int (iI (code / 2)))]) (st' := [.int (iI 39), .ref h.length]) rfl rfl ?_
        refine go_v (m := 176) (as := [.ref h.length, .int (iI 39)]) (r := []) rfl rfl rfl mh_o rfl rfl (mm_tellLetter z (d + 2) 39 h R (su I1 19 (I1 19 - 1)) A1 N hc c15.1 c15.2) (fun v h1 hq => ?_)
        obtain ⟨rfl, I2, A2, rfl, L2, l15⟩ := hq
        have l15 : I2 15 = I1 15 + 1 := l15 f15
        have l19 : I2 19 = I1 19 - 1 := L2.2.1
        have a1 : A2 1 = A1 1 := L2.1.2 1 (by decide) (by decide)
        have a2 : A2 2 = A1 2 := L2.1.2 2 (by decide) (by decide)
        show xx_go (xt_P z) (d + 3) 172 86 [some (.ref h.length), some (.int (iI u)), some (.int (iI code)), some (.int (iI (code / 2)))] [] (mh h R I2 A2 N) _
        rw [← a1, ← a2] at kp kr qq
        rw [← a2] at kq
        refine go_a (pc' := 87) (ls' := [some (.ref h.length), some (.int (iI u)), some (.int (iI code)), some (.int (iI (code / 2)))]) (st' := [.ref h.length]) rfl rfl ?_
        refine go_a (pc' := 88) (ls' := [some (.ref h.length), some (.int (iI u)), some (.int (iI code)), some (.int (iI (code / 2)))]) (st' := [.int (iI 2), .ref h.length]) rfl rfl ?_
        refine go_a (pc' := 89) (ls' := [some (.ref h.length), some (.int (iI u)), some (.int (iI code)), some (.int (iI (code / 2)))]) (st' := [.ref h.length, .int (iI 2), .ref h.length]) rfl rfl ?_
        refine go_get rfl mh_o rfl rfl ?_
        refine go_a (pc' := 93) (ls' := [some (.ref h.length), some (.int (iI u)), some (.int (iI code)), some (.int (iI (code / 2)))]) (st' := [.ref h.length, .ref (h.length + 1), .int (iI 2), .ref h.length]) rfl rfl ?_
        refine go_get rfl mh_o rfl rfl ?_
        refine go_a (pc' := 97) (ls' := [some (.ref h.length), some (.int (iI u)), some (.int (iI code)), some (.int (iI (code / 2)))]) (st' := [.int (iI (code / 2)), .ref (h.length + 2), .ref (h.length + 1), .int (iI 2), .ref h.length]) rfl rfl ?_
        refine mi_ild rfl mh_a2 (by omega) (by omega) (by decide) ?_
        refine mi_ild rfl mh_a1 (by omega) (by omega) (by decide) ?_
        refine mi_mul rfl ?_
        refine go_v (m := 173) (as := [.ref h.length, .int (iI (2 * (A2 1 (A2 2 (code / 2)))))]) (r := []) rfl rfl rfl mh_o rfl rfl (mm_later z (d + 2) (2 * A2 1 (A2 2 (code / 2))) h R I2 A2 N hc (by omega) (by omega)) (fun v h1 hq => ?_)
        obtain ⟨rfl, rfl⟩ := hq
        show xx_go (xt_P z) (d + 3) 172 103 [some (.ref h.length), some (.int (iI u)), some (.int (iI code)), some (.int (iI (code / 2)))] [] (mh h R (su I2 19 (I2 19 + 1)) (sa A2 14 (I2 19) (2 * A2 1 (A2 2 (code / 2)))) N) _
        refine go_a (pc' := 226) (ls' := [some (.ref h.length), some (.int (iI u)), some (.int (iI code)), some (.int (iI (code / 2)))]) (st' := []) rfl rfl ?_
        refine back _ _ (show (3 * (2000 - I2 15) + (I2 19 + 1)).toNat ≤ n by omega) (TX_tr XP (TX_tr L2.1 ⟨fun j _ q => su_ne q, fun a _ q => sa_ne q⟩)) (show 0 ≤ I2 15 ∧ I2 15 ≤ 2000 by omega) (show 0 ≤ I2 19 + 1 ∧ I2 19 + 1 ≤ I2 15 + 1 by omega) (fun e e0 e1 => ?_) ?_
        rotate_left
        · show CP (I2 15 + SG (tcw A N) (sf (A2 14) (I2 19) (2 * A2 1 (A2 2 (code / 2)))) (I2 19 + 1).toNat) Tt
          rw [SG_push (by omega), L2.2.2.1, l19, ← eS, tcw_e (by omega), show 2 * A2 1 (A2 2 (code / 2)) / 2 = A2 1 (A2 2 (code / 2)) by omega, a1, a2, r1q, r2q]
          unfold CP at hC ⊢
          omega
        have e1 : e < I2 19 + 1 := e1
        show 0 ≤ sf (A2 14) (I2 19) (2 * A2 1 (A2 2 (code / 2))) e ∧ sf (A2 14) (I2 19) (2 * A2 1 (A2 2 (code / 2))) e < 2 * I 7
        by_cases g2 : e = I2 19
        · rw [g2, sf_self]
          omega
        · rw [sf_ne g2, L2.2.2.1]
          exact cc e e0 (by omega)
      · rw [if_neg hp]
        show xx_go (xt_P z) (d + 3) 172 61 [some (.ref h.length), some (.int (iI u)), some (.int (iI code)), some (.int (iI (code / 2)))] [.int (iI 0)] (mh h R ((su I1 19 (I1 19 - 1))) A1 N) _
        exact mi_ne0 (t := 72) rfl rfl (by omega) (by omega) (fun q => absurd rfl q) (fun _ => atm (by omega) (by omega))
theorem mm_tellObjectX (z : Value) (d : Nat) (k Tt : Int) (h R : xx_H) (I : Nat → Int) (A : Nat → Int → Int) (N : Int → Int) (hc : 12 ≤ h.length) (hS : MST I A N) (hN : NM I A) (hT : TRX I A N) (hC : CP (I 15 + (sp_ln 0 (DM A N k)).1) Tt) (k0 : 0 ≤ k) (k1 : k < I 7) (c0 : 0 ≤ I 15) (c1 : I 15 ≤ 2000) : xx_cl (xt_P z) (d + 4) 172 [.ref h.length, .int (iI k)] (mh h R I A N) (fun v h1 => v = none ∧ ∃ (I2 : Nat → Int) (A2 : Nat → Int → Int), h1 = mh h R I2 A2 N ∧ TX I A I2 A2 ∧ (0 ≤ I2 15 ∧ I2 15 ≤ 2000) ∧ I2 15 = Tt) := by
  refine cl_go rfl ?_
  show xx_go (xt_P z) (d + 3) 172 0 [some (.ref h.length), some (.int (iI k)), none, none] [] (mh h R I A N) _
  refine go_a (pc' := 1) (ls' := [some (.ref h.length), some (.int (iI k)), none, none]) (st' := [.ref h.length]) rfl rfl ?_
  refine go_a (pc' := 2) (ls' := [some (.ref h.length), some (.int (iI k)), none, none]) (st' := [.int (iI 0), .ref h.length]) rfl rfl ?_
  refine go_put (j := 19) rfl mh_o rfl rfl (show 12 ≤ _ from hc) (show 19 < 86 by decide) rfl rfl ?_
  rw [mh_p19]
  refine go_a (pc' := 6) (ls' := [some (.ref h.length), some (.int (iI k)), none, none]) (st' := [.ref h.length]) rfl rfl ?_
  refine go_a (pc' := 7) (ls' := [some (.ref h.length), some (.int (iI k)), none, none]) (st' := [.int (iI 2), .ref h.length]) rfl rfl ?_
  refine go_a (pc' := 8) (ls' := [some (.ref h.length), some (.int (iI k)), none, none]) (st' := [.int (iI k), .int (iI 2), .ref h.length]) rfl rfl ?_
  refine mi_mul rfl ?_
  refine go_v (m := 173) (as := [.ref h.length, .int (iI (2 * k))]) (r := []) rfl rfl rfl mh_o rfl rfl (mm_later z (d + 2) (2 * k) h R (su I 19 0) A N hc (show (0 : Int) ≤ 0 by decide) (show (0 : Int) < 4000 by decide)) (fun v h1 hq => ?_)
  obtain ⟨rfl, rfl⟩ := hq
  show xx_go (xt_P z) (d + 3) 172 12 [some (.ref h.length), some (.int (iI k)), none, none] [] (mh h R (su (su I 19 0) 19 (0 + 1)) (sa A 14 0 (2 * k)) N) _
  refine mm_tellObject_loopX z d k Tt h R I A N hc hS hN hT _ _ _ none none (Nat.le_refl _) ⟨fun j _ q => (su_ne q).trans (su_ne q), fun a _ q => sa_ne q⟩ ⟨c0, c1⟩ (show (0 : Int) ≤ 0 + 1 ∧ 0 + 1 ≤ I 15 + 1 by omega) (fun e e0 e1 => ?_) ?_
  rotate_left
  · show CP (I 15 + SG (tcw A N) (sf (A 14) 0 (2 * k)) (0 + 1 : Int).toNat) Tt
    rw [SG_push (Int.le_refl _), tcw_e (by omega), show 2 * k / 2 = k by omega]
    show CP (I 15 + (0 + _)) Tt
    rw [Int.zero_add]
    exact hC
  have e1 : e < 0 + 1 := e1
  show 0 ≤ sf (A 14) 0 (2 * k) e ∧ sf (A 14) 0 (2 * k) e < 2 * I 7
  rw [show e = 0 by omega, sf_self]
  omega
theorem mm_tellOutX (z : Value) (d : Nat) (k Tt : Int) (h R : xx_H) (I : Nat → Int) (A : Nat → Int → Int) (N : Int → Int) (hc : 12 ≤ h.length) (hS : MST I A N) (hN : NM I A) (hT : TRX I A N) (hC : CP (sp_ln 0 (DM A N k)).1 Tt) (k0 : 0 ≤ k) (k1 : k < I 7) : xx_cl (xt_P z) (d + 5) 171 [.ref h.length, .int (iI k)] (mh h R I A N) (fun v h1 => v = none ∧ ∃ (I2 : Nat → Int) (A2 : Nat → Int → Int), h1 = mh h R I2 A2 N ∧ TX I A I2 A2 ∧ (0 ≤ I2 15 ∧ I2 15 ≤ 2000) ∧ I2 15 = Tt) := by
  refine cl_go rfl ?_
  show xx_go (xt_P z) (d + 4) 171 0 [some (.ref h.length), some (.int (iI k))] [] (mh h R I A N) _
  refine go_a (pc' := 1) (ls' := [some (.ref h.length), some (.int (iI k))]) (st' := [.ref h.length]) rfl rfl ?_
  refine go_a (pc' := 2) (ls' := [some (.ref h.length), some (.int (iI k))]) (st' := [.int (iI 0), .ref h.length]) rfl rfl ?_
  refine go_put (j := 15) rfl mh_o rfl rfl (show 12 ≤ _ from hc) (show 15 < 86 by decide) rfl rfl ?_
  rw [mh_p15]
  refine go_a (pc' := 6) (ls' := [some (.ref h.length), some (.int (iI k))]) (st' := [.ref h.length]) rfl rfl ?_
  refine go_a (pc' := 7) (ls' := [some (.ref h.length), some (.int (iI k))]) (st' := [.int (iI k), .ref h.length]) rfl rfl ?_
  refine go_v (m := 172) (as := [.ref h.length, .int (iI k)]) (r := []) rfl rfl rfl mh_o rfl rfl (mm_tellObjectX z d k Tt h R (su I 15 0) A N hc hS hN hT (show CP (0 + _) Tt by rw [Int.zero_add]; exact hC) k0 k1 (show (0 : Int) ≤ 0 by decide) (show (0 : Int) ≤ 2000 by decide)) (fun v h1 hq => ?_)
  obtain ⟨rfl, I2, A2, rfl, X, c0, c1⟩ := hq
  exact go_r rfl rfl rfl rfl rfl rfl ⟨rfl, I2, A2, rfl, TX_tr ⟨fun j p _ => su_ne p, fun _ _ _ => rfl⟩ X, c0, c1⟩
