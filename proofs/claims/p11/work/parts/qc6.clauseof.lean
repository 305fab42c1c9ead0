def FT3 (j : Nat) : Prop := FT2 j ∨ j = 50
theorem mm_clauseOf (z : Value) (d : Nat) (ar : Int → Int) (ft : Nat → Int) (Fb : List (Nat × List Nat × ob_T)) (Tb : List (Nat × ob_T)) (o : Int) (h R : xx_H) (I : Nat → Int) (A : Nat → Int → Int) (N : Int → Int) (hc : 12 ≤ h.length) (hB : BI ar I A N) (hs : STP I) (k0 : 0 ≤ o) (k1 : o < I 7) (h2 : A 1 o ≠ 2) (w : WD A o ≤ 1000) (hE : I 7 + 128 * WD A o ≤ 140384) (hE2 : I 7 + 2622 ≤ 140000) (u9 : I 49 = 0) (u15 : 0 ≤ I 15 ∧ I 15 ≤ 2000) (u50 : 0 ≤ I 50 ∧ I 50 ≤ 30) (hX : BTX ar ft Fb Tb I A N) : xx_cl (xt_P z) (d + 15) 178 [.ref h.length, .int (iI o)] (mh h R I A N) (fun v h1 => ∃ (b : Int) (I1 : Nat → Int) (A1 : Nat → Int → Int) (N1 : Int → Int), v = some (.int (iI b)) ∧ h1 = mh h R I1 A1 N1 ∧ BX FT3 GT2 I A N I1 A1 N1 ∧ BI ar I1 A1 N1 ∧ STP I1 ∧ (0 ≤ I1 15 ∧ I1 15 ≤ 2000) ∧ (0 ≤ I1 50 ∧ I1 50 ≤ 30) ∧ (0 ≤ b ∧ b ≤ 8) ∧ ((¬ isL A 2 o ∧ I1 50 = I 50 ∧ I1 48 = I 48) ∨ (isL A 2 o ∧ ((∃ D : List ob_T, sp_pr ft Fb Tb (I 47) 40 (DM A N (A 1 (rt A 1 o))) (I 48) = some (D, I1 48) ∧ I1 50 = (D.length : Int)) ∨ (sp_pr ft Fb Tb (I 47) 40 (DM A N (A 1 (rt A 1 o))) (I 48) = none ∧ I1 50 = I 50 ∧ I1 48 = sp_sn ft Fb Tb (I 47) 40 (DM A N (A 1 (rt A 1 o))) (I 48)))))) := by
  have hP := BI_P hB
  have n0 := BI_n0 hB
  refine cl_go rfl ?_
  show xx_go (xt_P z) (d + 14) 178 0 [some (.ref h.length), some (.int (iI o)), none] [] (mh h R I A N) _
  refine go_a (pc' := 1) (ls' := [some (.ref h.length), some (.int (iI o)), none]) (st' := [.ref h.length]) rfl rfl ?_
  refine go_a (pc' := 2) (ls' := [some (.ref h.length), some (.int (iI o)), none]) (st' := [.int (iI o), .ref h.length]) rfl rfl ?_
  refine go_v (m := 98) (as := [.ref h.length, .int (iI o)]) (r := []) rfl rfl rfl mh_o rfl rfl (mm_len2 z (d + 12) o h R I A N hc hP n0 k0 k1) (fun v h1 hq => ?_)
  obtain ⟨⟨n, rfl, hn⟩, rfl⟩ := hq
  have rn : -1 ≤ n ∧ n < 200000 := by
    have := hP.1
    rcases hn with ⟨hn, -⟩ | ⟨qq, hn, hl⟩
    · omega
    · have := isL_len hP o.toNat qq o (Nat.le_refl _) k0 k1 hl
      omega
  show xx_go (xt_P z) (d + 14) 178 5 [some (.ref h.length), some (.int (iI o)), none] [.int (iI n)] (mh h R I A N) _
  refine go_a (pc' := 6) (ls' := [some (.ref h.length), some (.int (iI o)), none]) (st' := [.int (iI 2), .int (iI n)]) rfl rfl ?_
  refine mi_eq (t := 11) rfl rfl (by omega) (by omega) (by omega) (by omega) (fun e => ?_) (fun e => ?_)
  · have hL : isL A 2 o := by
      rcases hn with ⟨hn, -⟩ | ⟨qq, hn, hl⟩
      · omega
      · rw [show qq = 2 by omega] at hl
        exact hl
    have v1 := VD_rt hP k0 k1 hL (by decide : 0 < 2)
    have v2 := VD_rt hP k0 k1 hL (by decide : 1 < 2)
    have wo := WD_pair hP k0 k1 hL.1
    have P0 : rt A 0 o = o := rfl
    have v1e : VD A o = WD A (A 1 o) + VD A (rt A 1 o) := v1.1
    have v1w : 1 ≤ WD A (A 1 o) := v1.2.2.1
    have v2e : VD A (rt A 1 o) = WD A (A 1 (rt A 1 o)) + VD A (rt A 2 o) := v2.1
    have v2v : 0 ≤ VD A (rt A 2 o) := v2.2.2.2
    have v2b := v2.2.1
    refine go_a (pc' := 12) (ls' := [some (.ref h.length), some (.int (iI o)), none]) (st' := [.ref h.length]) rfl rfl ?_
    refine go_a (pc' := 13) (ls' := [some (.ref h.length), some (.int (iI o)), none]) (st' := [.ref h.length, .ref h.length]) rfl rfl ?_
    refine go_a (pc' := 14) (ls' := [some (.ref h.length), some (.int (iI o)), none]) (st' := [.int (iI o), .ref h.length, .ref h.length]) rfl rfl ?_
    refine go_a (pc' := 15) (ls' := [some (.ref h.length), some (.int (iI o)), none]) (st' := [.int (iI 1), .int (iI o), .ref h.length, .ref h.length]) rfl rfl ?_
    refine go_v (m := 99) (as := [.ref h.length, .int (iI o), .int (iI 1)]) (r := [.ref h.length]) rfl rfl rfl mh_o rfl rfl (mm_nth z (d + 13) 1 2 o h R I A N hc hP (by decide) k0 k1 hL (by decide)) (fun v h1 hq => ?_)
    obtain ⟨rfl, rfl⟩ := hq
    show xx_go (xt_P z) (d + 14) 178 18 [some (.ref h.length), some (.int (iI o)), none] [.int (iI (A 1 (rt A 1 o))), .ref h.length] (mh h R I A N) _
    rw [if_neg (fun c => h2 c.1)] at wo
    refine go_v (m := 136) (as := [.ref h.length, .int (iI (A 1 (rt A 1 o)))]) (r := []) rfl rfl rfl mh_o rfl rfl (mm_proves z d ar ft Fb Tb (A 1 (rt A 1 o)) h R I A N hc hB hs v2b.1 v2b.2 (by omega) (by omega) (fun _ => by omega) u9 u15 hX) (fun v h1 hq => ?_)
    obtain ⟨b, I1, A1, N1, rfl, rfl, X, B, S, u, hb⟩ := hq
    show xx_go (xt_P z) (d + 14) 178 21 [some (.ref h.length), some (.int (iI o)), none] [.int (iI b)] (mh h R I1 A1 N1) _
    have rb : 0 ≤ b ∧ b ≤ 8 := by omega
    have e50 : I1 50 = I 50 := X.2.2.2.1 50 (by decide) (by unfold FT2 FQ; omega)
    have X3 : BX FT3 GT2 I A N I1 A1 N1 := BX_w2 (fun j q => Or.inl q) (fun a q => q) X
    refine go_a (pc' := 22) (ls' := [some (.ref h.length), some (.int (iI o)), some (.int (iI b))]) (st' := []) rfl rfl ?_
    refine go_a (pc' := 23) (ls' := [some (.ref h.length), some (.int (iI o)), some (.int (iI b))]) (st' := [.int (iI b)]) rfl rfl ?_
    refine mi_eq0 (t := 28) rfl rfl (by omega) (by omega) (fun e0 => ?_) (fun e0 => ?_)
    · have sp9 : sp_pr ft Fb Tb (I 47) 40 (DM A N (A 1 (rt A 1 o))) (I 48) = some (CLD A1 N1 0, I1 48) := by
        rcases hb with hb | hb
        · exact hb.2.2.2.2
        · omega
      have hb : I1 49 = 0 ∧ CLA ar I1 A1 0 ∧ I1 7 + 502 ≤ I 7 + 128 * WD A (A 1 (rt A 1 o)) := by
        rcases hb with hb | hb
        · exact ⟨hb.2.1, hb.2.2.1, hb.2.2.2.1⟩
        · omega
      have c1 := hb.2.1.1
      refine go_a (pc' := 29) (ls' := [some (.ref h.length), some (.int (iI o)), some (.int (iI b))]) (st' := [.ref h.length]) rfl rfl ?_
      refine go_a (pc' := 30) (ls' := [some (.ref h.length), some (.int (iI o)), some (.int (iI b))]) (st' := [.ref h.length, .ref h.length]) rfl rfl ?_
      refine go_get rfl mh_o rfl rfl ?_
      refine go_a (pc' := 34) (ls' := [some (.ref h.length), some (.int (iI o)), some (.int (iI b))]) (st' := [.int (iI 0), .ref (h.length + 51), .ref h.length]) rfl rfl ?_
      refine mi_ild rfl mh_a51 (by omega) (by omega) (by decide) ?_
      refine go_put (j := 50) rfl mh_o rfl rfl (show 12 ≤ _ from hc) (show 50 < 86 by decide) rfl rfl ?_
      rw [mh_p50]
      refine go_a (pc' := 39) (ls' := [some (.ref h.length), some (.int (iI o)), some (.int (iI b))]) (st' := [.ref h.length]) rfl rfl ?_
      have B2 : BX (fun j => j = 50) NO I1 A1 N1 (su I1 50 (A1 51 0)) A1 N1 := BX_of B.1.1 (fun j q => su_ne q) (fun a _ => rfl) rfl rfl rfl rfl rfl rfl rfl rfl rfl rfl
      have BB : BI ar (su I1 50 (A1 51 0)) A1 N1 := BI_BX B B2 (SZI_124 (I := I1) (I1 := su I1 50 (A1 51 0)) (A := A1) (A1 := A1) B.1.2.2 rfl rfl rfl rfl) (by decide) (by decide) (by decide) (by decide) (fun a _ _ q => q) B.2.2.2.1.1 B.2.2.2.1.2 B.2.2.2.2
      refine go_v (m := 177) (as := [.ref h.length]) (r := []) rfl rfl rfl mh_o rfl rfl (mm_tellClause z (d + 8) ar h R (su I1 50 (A1 51 0)) A1 N1 hc BB hb.2.1 (show I1 7 + 30 ≤ 140000 by omega)) (fun v h1 hq => ?_)
      obtain ⟨rfl, I2, A2, rfl, X4, BZ, u2, s47, s48⟩ := hq
      show xx_go (xt_P z) (d + 14) 178 42 [some (.ref h.length), some (.int (iI o)), some (.int (iI b))] [] (mh h R I2 A2 N1) _
      refine go_a (pc' := 43) (ls' := [some (.ref h.length), some (.int (iI o)), some (.int (iI b))]) (st' := [.int (iI 0)]) rfl rfl ?_
      have X5 : BX FT3 GT2 I A N I2 A2 N1 := BX_tr (BX_tr X3 (BX_w2 (fun j q => Or.inr q) (fun a q => absurd q id) B2)) (BX_w2 (fun j q => Or.inl q) (fun a q => q) X4)
      have f50 : I2 50 = A1 51 0 := X4.2.2.2.1 50 (by decide) (by unfold FT2 FQ; omega)
      exact go_r rfl rfl rfl rfl rfl rfl ⟨0, I2, A2, N1, rfl, rfl, X5, BZ, (by unfold STP; rw [s47, s48]; exact S), u2, by omega, by decide, Or.inr ⟨hL, Or.inl ⟨CLD A1 N1 0, by rw [s48]; exact sp9, by rw [f50]; unfold CLD; rw [List.length_map, ixl_len]; omega⟩⟩⟩
    · refine go_a (pc' := 27) (ls' := [some (.ref h.length), some (.int (iI o)), some (.int (iI b))]) (st' := [.int (iI b)]) rfl rfl ?_
      have sp9 : sp_pr ft Fb Tb (I 47) 40 (DM A N (A 1 (rt A 1 o))) (I 48) = none ∧ sp_sn ft Fb Tb (I 47) 40 (DM A N (A 1 (rt A 1 o))) (I 48) = I1 48 := by
        rcases hb with hb | hb
        · exact absurd hb.1 e0
        · exact hb.2
      exact go_r rfl rfl rfl rfl rfl rfl ⟨b, I1, A1, N1, rfl, rfl, X3, B, S, u, by omega, rb, Or.inr ⟨hL, Or.inr ⟨sp9.1, e50, sp9.2.symm⟩⟩⟩
  · have nl2 : ¬ isL A 2 o := fun l2 => by
      rcases hn with ⟨-, hl⟩ | ⟨qq, hn, hl⟩
      · exact hl 2 l2
      · have := isL_uq n0 qq 2 o hl l2
        omega
    refine go_a (pc' := 10) (ls' := [some (.ref h.length), some (.int (iI o)), none]) (st' := [.int (iI 2)]) rfl rfl ?_
    exact go_r rfl rfl rfl rfl rfl rfl ⟨2, I, A, N, rfl, rfl, BX_rf hB.1.1, hB, hs, u15, u50, by decide, Or.inl ⟨nl2, rfl, rfl⟩⟩

