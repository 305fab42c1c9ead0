theorem mm_command (z : Value) (d : Nat) (ar : Int → Int) (bk : List sp_Th) (o : Int) (h R : xx_H) (I : Nat → Int) (A : Nat → Int → Int) (N : Int → Int) (hc : 12 ≤ h.length) (hB : BI ar I A N) (hs : STP I) (k0 : 0 ≤ o) (k1 : o < I 7) (w : WD A o ≤ 1000) (hE : I 7 + 128 * WD A o ≤ 140384) (hE2 : I 7 + 2622 ≤ 140000) (u9 : I 49 = 0) (u15 : 0 ≤ I 15 ∧ I 15 ≤ 2000) (u50 : 0 ≤ I 50 ∧ I 50 ≤ 30) (t41 : I 41 = I 32 + I 38) (e44 : I 44 = -1) (h25 : ∀ e : Int, 0 ≤ e → e < I 38 → A 25 e < I 7) (b27 : ∀ e : Int, 0 ≤ A 27 e ∧ A 27 e ≤ 1) (hX : BTX ar (sp_ft (sp_FB bk)) (sp_FB bk) (sp_TB bk) I A N) (st0 : I 48 = 0) : xx_cl (xt_P z) (d + 16) 95 [.ref h.length, .int (iI o)] (mh h R I A N) (fun v h1 => ∃ (b : Int) (I1 : Nat → Int) (A1 : Nat → Int → Int) (N1 : Int → Int), v = some (.int (iI b)) ∧ h1 = mh h R I1 A1 N1 ∧ (0 ≤ b ∧ b ≤ 8) ∧ CMX ar bk o I A N I1 A1 N1) := by
  have hP := BI_P hB
  have n0 := BI_n0 hB
  have p9 := hP.1
  have dd := hB.2.2.1.1
  refine cl_go rfl ?_
  show xx_go (xt_P z) (d + 15) 95 0 [some (.ref h.length), some (.int (iI o))] [] (mh h R I A N) _
  have F0 : CFL ar I A N I A N := CFL_BI (BX_rf hB.1.1) hB hs u15 u50
  refine go_a (pc' := 1) (ls' := [some (.ref h.length), some (.int (iI o))]) (st' := [.ref h.length]) rfl rfl ?_
  refine go_a (pc' := 2) (ls' := [some (.ref h.length), some (.int (iI o))]) (st' := [.int (iI o), .ref h.length]) rfl rfl ?_
  refine go_v (m := 96) (as := [.ref h.length, .int (iI o)]) (r := []) rfl rfl rfl mh_o rfl rfl (mb_isPair z (d + 14) o h R I A N hc hP k0 k1) (fun v h1 hq => ?_)
  obtain ⟨⟨b, rfl, hb⟩, rfl⟩ := hq
  show xx_go (xt_P z) (d + 15) 95 5 [some (.ref h.length), some (.int (iI o))] [.int (iI b)] (mh h R I A N) _
  refine mi_ne0 (t := 10) rfl rfl (by omega) (by omega) (fun e => ?_) (fun e => ?_)
  · have hq := hP.2 o k0 k1
    refine go_a (pc' := 11) (ls' := [some (.ref h.length), some (.int (iI o))]) (st' := [.ref h.length]) rfl rfl ?_
    refine go_get rfl mh_o rfl rfl ?_
    refine go_a (pc' := 15) (ls' := [some (.ref h.length), some (.int (iI o))]) (st' := [.int (iI o), .ref (h.length + 1)]) rfl rfl ?_
    refine mi_ild rfl mh_a1 (by omega) (by omega) (by decide) ?_
    by_cases e1 : A 1 o = 17
    · refine mi_ts (c := 17) (t := 72) rfl e1 rfl ?_
      refine go_a (pc' := 73) (ls' := [some (.ref h.length), some (.int (iI o))]) (st' := [.ref h.length]) rfl rfl ?_
      refine go_a (pc' := 74) (ls' := [some (.ref h.length), some (.int (iI o))]) (st' := [.int (iI o), .ref h.length]) rfl rfl ?_
      refine go_v (m := 97) (as := [.ref h.length, .int (iI o)]) (r := []) rfl rfl rfl mh_o rfl rfl (mm_defun z (d + 5) ar bk o h R I A N hc hB hs k0 k1 (by omega) w hE2 u15 u50 t41 e44 h25 u9 hX) (fun v h1 hq => ?_)
      obtain ⟨q, I1, A1, rfl, rfl, hr, hs⟩ := hq
      show xx_go (xt_P z) (d + 15) 95 77 [some (.ref h.length), some (.int (iI o))] [.int (iI q)] (mh h R I1 A1 N) _
      exact go_r rfl rfl rfl rfl rfl rfl ⟨q, I1, A1, N, rfl, rfl, hr, cx_17 hB hX st0 k0 k1 e1 hs⟩
    by_cases e2 : A 1 o = 19
    · refine mi_ts (c := 19) (t := 84) rfl e2 rfl ?_
      refine go_a (pc' := 85) (ls' := [some (.ref h.length), some (.int (iI o))]) (st' := [.ref h.length]) rfl rfl ?_
      refine go_a (pc' := 86) (ls' := [some (.ref h.length), some (.int (iI o))]) (st' := [.int (iI o), .ref h.length]) rfl rfl ?_
      refine go_v (m := 178) (as := [.ref h.length, .int (iI o)]) (r := []) rfl rfl rfl mh_o rfl rfl (mm_clauseOf z d ar (sp_ft (sp_FB bk)) (sp_FB bk) (sp_TB bk) o h R I A N hc hB hs k0 k1 (by omega) w hE hE2 u9 u15 u50 hX) (fun v h1 hq => ?_)
      obtain ⟨q, I1, A1, N1, rfl, rfl, X, B, S, v15, v50, hr, hz⟩ := hq
      show xx_go (xt_P z) (d + 15) 95 89 [some (.ref h.length), some (.int (iI o))] [.int (iI q)] (mh h R I1 A1 N1) _
      exact go_r rfl rfl rfl rfl rfl rfl ⟨q, I1, A1, N1, rfl, rfl, hr, cx_19 hB hX st0 k0 k1 e2 (CFL_BI (BX_w2 (fun j q => Or.inl q) (fun a q => q) X) B S v15 v50) hz⟩
    by_cases e3 : A 1 o = 25
    · refine mi_ts (c := 25) (t := 90) rfl e3 rfl ?_
      refine go_a (pc' := 91) (ls' := [some (.ref h.length), some (.int (iI o))]) (st' := [.ref h.length]) rfl rfl ?_
      refine go_a (pc' := 92) (ls' := [some (.ref h.length), some (.int (iI o))]) (st' := [.int (iI o), .ref h.length]) rfl rfl ?_
      refine go_v (m := 179) (as := [.ref h.length, .int (iI o)]) (r := []) rfl rfl rfl mh_o rfl rfl (mm_undoX z (d + 12) o h R I A N hc hP n0 k0 k1 (by omega) (by omega) b27 dd.1 dd.2) (fun v h1 hq => ?_)
      rcases hq with ⟨rfl, rfl, nL⟩ | ⟨rfl, rfl, t0⟩ | ⟨rfl, hL1, q0, hq⟩
      · show xx_go (xt_P z) (d + 15) 95 95 [some (.ref h.length), some (.int (iI o))] [.int (iI 2)] (mh h R I A N) _
        exact go_r rfl rfl rfl rfl rfl rfl ⟨2, I, A, N, rfl, rfl, by decide, Or.inl ⟨F0, by rw [st0]; exact cx_n hB hX k0 k1 (by omega) (fun n l => ⟨fun c => by omega, fun c => by omega, fun c => by omega, fun c => nL (by rw [← c.2]; exact l)⟩)⟩⟩
      · show xx_go (xt_P z) (d + 15) 95 95 [some (.ref h.length), some (.int (iI o))] [.int (iI 3)] (mh h R I A N) _
        exact go_r rfl rfl rfl rfl rfl rfl ⟨3, I, A, N, rfl, rfl, by decide, Or.inl ⟨F0, (by rw [st0]; have l9 := bk_len bk; have l1 := hX.2.2.2.1.1; have l2 := hX.2.2.2.1.2; have b0 : bk = [] := List.eq_nil_of_length_eq_zero (by omega); by_cases hL1 : isL A 1 o; rw [cm_25 (cx_L hB hX k0 k1 hL1).1 (cx_y hB hX k0 k1 (x := 25) (by decide) e3) (cx_L hB hX k0 k1 hL1).2, b0]; rfl; exact cx_n hB hX k0 k1 (by omega) (fun n l => ⟨fun c => by omega, fun c => by omega, fun c => by omega, fun c => hL1 (by rw [← c.2]; exact l)⟩))⟩⟩
      · rcases hq with ⟨q1, rfl⟩ | ⟨q1, rfl⟩
        · show xx_go (xt_P z) (d + 15) 95 95 [some (.ref h.length), some (.int (iI o))] [.int (iI 0)] (mh h R (su (su (su I 41 (I 41 - 1)) 32 (I 32 - 1)) 46 (A 28 (I 41 - 1))) A N) _
          exact go_r rfl rfl rfl rfl rfl rfl ⟨0, _, A, N, rfl, rfl, by decide, cx_25 hB hX st0 k0 k1 e3 hL1 ⟨q0, rfl, Or.inl ⟨q1, rfl⟩⟩⟩
        · show xx_go (xt_P z) (d + 15) 95 95 [some (.ref h.length), some (.int (iI o))] [.int (iI 0)] (mh h R (su (su (su I 41 (I 41 - 1)) 38 (I 38 - 1)) 46 (A 28 (I 41 - 1))) A N) _
          exact go_r rfl rfl rfl rfl rfl rfl ⟨0, _, A, N, rfl, rfl, by decide, cx_25 hB hX st0 k0 k1 e3 hL1 ⟨q0, rfl, Or.inr ⟨q1, rfl⟩⟩⟩
    by_cases e4 : A 1 o = 26
    · refine mi_ts (c := 26) (t := 78) rfl e4 rfl ?_
      refine go_a (pc' := 79) (ls' := [some (.ref h.length), some (.int (iI o))]) (st' := [.ref h.length]) rfl rfl ?_
      refine go_a (pc' := 80) (ls' := [some (.ref h.length), some (.int (iI o))]) (st' := [.int (iI o), .ref h.length]) rfl rfl ?_
      refine go_v (m := 134) (as := [.ref h.length, .int (iI o)]) (r := []) rfl rfl rfl mh_o rfl rfl (mm_check z d ar bk o h R I A N hc hB hs k0 k1 (by omega) w hE hE2 u9 u15 u50 t41 hX st0) (fun v h1 hq => ?_)
      obtain ⟨q, I1, A1, N1, rfl, rfl, hr, hs⟩ := hq
      show xx_go (xt_P z) (d + 15) 95 83 [some (.ref h.length), some (.int (iI o))] [.int (iI q)] (mh h R I1 A1 N1) _
      exact go_r rfl rfl rfl rfl rfl rfl ⟨q, I1, A1, N1, rfl, rfl, hr, cx_26 hB hX k0 k1 e4 e44 h25 hs⟩
    have dflt : xx_go (xt_P z) (d + 15) 95 96 [some (.ref h.length), some (.int (iI o))] [] (mh h R I A N) (fun v h1 => ∃ (b : Int) (I1 : Nat → Int) (A1 : Nat → Int → Int) (N1 : Int → Int), v = some (.int (iI b)) ∧ h1 = mh h R I1 A1 N1 ∧ (0 ≤ b ∧ b ≤ 8) ∧ CMX ar bk o I A N I1 A1 N1) := by
      refine go_a (pc' := 97) (ls' := [some (.ref h.length), some (.int (iI o))]) (st' := [.int (iI 2)]) rfl rfl ?_
      exact go_r rfl rfl rfl rfl rfl rfl ⟨2, I, A, N, rfl, rfl, by decide, Or.inl ⟨F0, by rw [st0]; exact cx_n hB hX k0 k1 (by omega) (fun n l => ⟨fun c => by omega, fun c => by omega, fun c => by omega, fun c => by omega⟩)⟩⟩
    by_cases f18 : A 1 o = 18
    · exact mi_ts (c := 18) (t := 96) rfl f18 rfl dflt
    by_cases f20 : A 1 o = 20
    · exact mi_ts (c := 20) (t := 96) rfl f20 rfl dflt
    by_cases f21 : A 1 o = 21
    · exact mi_ts (c := 21) (t := 96) rfl f21 rfl dflt
    by_cases f22 : A 1 o = 22
    · exact mi_ts (c := 22) (t := 96) rfl f22 rfl dflt
    by_cases f23 : A 1 o = 23
    · exact mi_ts (c := 23) (t := 96) rfl f23 rfl dflt
    by_cases f24 : A 1 o = 24
    · exact mi_ts (c := 24) (t := 96) rfl f24 rfl dflt
    exact mi_tsd (t := 96) rfl (by omega) (by omega) (by omega) rfl dflt
  · refine go_a (pc' := 9) (ls' := [some (.ref h.length), some (.int (iI o))]) (st' := [.int (iI 2)]) rfl rfl ?_
    exact go_r rfl rfl rfl rfl rfl rfl ⟨2, I, A, N, rfl, rfl, by decide, Or.inl ⟨F0, by rw [st0]; exact cx_at hB k0 k1 (by omega)⟩⟩

