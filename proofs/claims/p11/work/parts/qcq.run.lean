section RUNS
variable {I I1 I2 I3 : Nat → Int} {A A1 A2 A3 : Nat → Int → Int} {N N1 N2 : Int → Int} {ar : Int → Int}
theorem IDL_back {T : Int} (hI : IDL I A N) (T0 : 0 ≤ T) (T1 : T ≤ I 41) (S : MST I3 A3 N2) (Z : SZI (fun _ => 0) I3 A3) (e7 : I3 7 = LIM I A T) (e41 : I3 41 = T) (e32 : I3 32 = CNT (A 27) 1 T.toNat) (e38 : I3 38 = CNT (A 27) 0 T.toNat) (hx : ∀ k : Int, 0 ≤ k → k < I 7 → A3 1 k = A 1 k ∧ A3 2 k = A 2 k ∧ (A 4 k ≠ 0 → A3 4 k ≠ 0)) (ga : ∀ a : Nat, 20 ≤ a → a ≤ 28 → A3 a = A a) (e44 : I3 44 = -1) (e45 : 0 ≤ I3 45 ∧ I3 45 ≤ 6) (e5 : I3 54 = 0 ∧ I3 56 = 0) (e47 : I3 47 = I 47) (e15 : 0 ≤ I3 15 ∧ I3 15 ≤ 2000) (e50 : 0 ≤ I3 50 ∧ I3 50 ≤ 30) (e49 : 0 ≤ I3 49 ∧ I3 49 ≤ 4) (e13 : 0 ≤ I3 13 ∧ I3 13 ≤ 3000) (a10 : A3 10 = A 10) (a11 : A3 11 = A 11) (a13 : ∀ e : Int, 0 ≤ A3 13 e ∧ A3 13 e ≤ 255) : IDL I3 A3 N2 := by
  obtain ⟨⟨S0, N0, Z0⟩, tk, v, b10, b11, b13⟩ := hI
  have hP := MST_PW S0
  have n0 : A 1 0 < 0 := by rw [N0.2 0 (by decide) (by decide)]; decide
  have lm := (tk.2.2.2.2 T T0 T1).1
  have ll := tk.2.2.2.1 T (I 41) T0 T1 (Int.le_refl _)
  rw [LIM_T] at ll
  have hx2 : OX (LIM I A T) A A3 := fun k a b => hx k a (by omega)
  refine ⟨⟨S, NM_pre N0 (by omega) (fun k a b => (hx k a b).1), Z⟩, TKN_gen tk hP n0 T0 T1 e41 (by rw [ga 27 (by decide) (by decide)]; exact tk.2.1) (fun e _ _ => by rw [ga 27 (by decide) (by decide)]) (fun e _ _ => by rw [ga 28 (by decide) (by decide)]) e7 e32 e38 hx2 (fun e _ _ => ?_) (fun e _ _ => ?_), ⟨⟨e44, e45⟩, e5, by rw [e47]; exact v.2.2.1, e15, e50, e49, e13⟩, by rw [a10]; exact b10, by rw [a11]; exact b11, a13⟩
  · rw [ga 20 (by decide) (by decide), ga 21 (by decide) (by decide), ga 22 (by decide) (by decide), ga 23 (by decide) (by decide), ga 24 (by decide) (by decide)]
    exact ⟨rfl, rfl, fun _ _ _ => rfl, rfl, rfl⟩
  · rw [ga 25 (by decide) (by decide), ga 26 (by decide) (by decide)]
    exact ⟨rfl, rfl⟩
theorem names_same (S : MST I A N) (S1 : MST I1 A1 N1) (e7 : I1 7 = I 7) (hx : ∀ k : Int, 0 ≤ k → k < I 7 → A1 1 k = A 1 k) : I1 10 = I 10 := by
  have a := S.1.2.2.2.2
  have b := S1.1.2.2.2.2
  have z := S.1.1
  rw [e7, SC_ext (f := A 1) (g := A1 1) (I 7).toNat (fun k p q => hx k p (by omega))] at b
  omega
end RUNS
set_option maxRecDepth 4000 in
theorem mm_run (z : Value) (d : Nat) (bk : List sp_Th) (h R : xx_H) (I : Nat → Int) (A : Nat → Int → Int) (N : Int → Int) (hc : 12 ≤ h.length) (hI : IDL I A N) (hK : TBK bk I A N) (p7 : 2 * I 7 + 5 * NZ (A 11) (I 13).toNat ≤ 25700) (p10 : 2 * I 10 ≤ 5300) : xx_cl (xt_P z) (d + 18) 69 [.ref h.length] (mh h R I A N) (fun v h1 => ∃ (b : Int) (I1 : Nat → Int) (A1 : Nat → Int → Int) (N1 : Int → Int), v = some (.int (iI b)) ∧ h1 = mh h R I1 A1 N1 ∧ IDL I1 A1 N1 ∧ (0 ≤ b ∧ b ≤ 8) ∧ I1 13 = 0 ∧ I1 47 = I 47 ∧ A1 10 = A 10 ∧ 2 * I1 7 ≤ 2 * I 7 + 5 * NZ (A 11) (I 13).toNat + 1 ∧ 2 * I1 10 ≤ 2 * I 10 + NZ (A 11) (I 13).toNat + 1 ∧ ∃ bk1 : List sp_Th, TBK bk1 I1 A1 N1 ∧ ((bk1, I1 50), I1 48) = sp_run bk (I 50) (I 47) (sp_RD (A 11) (I 13))) := by
  have hS := hI.1.1
  have hN := hI.1.2.1
  have hZ := hI.1.2.2
  have tk := hI.2.1
  have v := hI.2.2.1
  have hP := MST_PW hS
  have n0 : A 1 0 < 0 := by rw [hN.2 0 (by decide) (by decide)]; decide
  have s1 := hS.1
  have tb := TKN_b tk
  have nz := NZ_nn (f := A 11) (I 13).toNat
  have nm := hN.1
  refine cl_go rfl ?_
  show xx_go (xt_P z) (d + 17) 69 0 [some (.ref h.length), none, none] [] (mh h R I A N) _
  refine go_a (pc' := 1) (ls' := [some (.ref h.length), none, none]) (st' := [.ref h.length]) rfl rfl ?_
  refine go_a (pc' := 2) (ls' := [some (.ref h.length), none, none]) (st' := [.int (iI 0), .ref h.length]) rfl rfl ?_
  refine go_put (j := 48) rfl mh_o rfl rfl (show 12 ≤ _ from hc) (show 48 < 86 by decide) rfl rfl ?_
  rw [mh_p48]
  refine go_a (pc' := 6) (ls' := [some (.ref h.length), none, none]) (st' := [.ref h.length]) rfl rfl ?_
  refine go_a (pc' := 7) (ls' := [some (.ref h.length), none, none]) (st' := [.int (iI 0), .ref h.length]) rfl rfl ?_
  refine go_put (j := 49) rfl mh_o rfl rfl (show 12 ≤ _ from hc) (show 49 < 86 by decide) rfl rfl ?_
  rw [mh_p49]
  refine go_a (pc' := 11) (ls' := [some (.ref h.length), none, none]) (st' := [.ref h.length]) rfl rfl ?_
  refine go_a (pc' := 12) (ls' := [some (.ref h.length), none, none]) (st' := [.int (iI 0), .ref h.length]) rfl rfl ?_
  refine go_put (j := 15) rfl mh_o rfl rfl (show 12 ≤ _ from hc) (show 15 < 86 by decide) rfl rfl ?_
  rw [mh_p15]
  refine go_a (pc' := 16) (ls' := [some (.ref h.length), none, none]) (st' := [.ref h.length]) rfl rfl ?_
  refine go_a (pc' := 17) (ls' := [some (.ref h.length), none, none]) (st' := [.ref h.length, .ref h.length]) rfl rfl ?_
  refine go_get (v := .int (iI (I 7))) rfl mh_o rfl rfl ?_
  refine go_put (j := 46) rfl mh_o rfl rfl (show 12 ≤ _ from hc) (show 46 < 86 by decide) rfl rfl ?_
  rw [mh_p46]
  refine go_a (pc' := 24) (ls' := [some (.ref h.length), none, none]) (st' := [.ref h.length]) rfl rfl ?_
  refine go_v (m := 70) (as := [.ref h.length]) (r := []) rfl rfl rfl mh_o rfl rfl (mx_reads z (d + 6) h R (su (su (su (su I 48 0) 49 0) 15 0) 46 (I 7)) A N hc hS hN (show 0 ≤ I 13 by omega) (show I 13 ≤ 3000 by omega) hI.2.2.2.2.1 (show I 7 + 2 * I 13 + 2 ≤ 140000 by omega) (show 2 * I 10 + I 13 + 1 < 9980 by omega) ⟨hS, hK.1.1⟩ ⟨DM_0 hK.1, DM_2 hK.1⟩ hI.2.2.2.2.2) (fun v h1 hq => ?_)
  obtain ⟨b, I1, A1, N1, rfl, rfl, S1, X, c7, c10, e13, r13, e21, hb, MB, rd0⟩ := hq
  show xx_go (xt_P z) (d + 17) 69 27 [some (.ref h.length), none, none] [.int (iI b)] (mh h R I1 A1 N1) _
  have e46 : I1 46 = I 7 := X.2.2.1 46 (by unfold RF; omega)
  have e41 : I1 41 = I 41 := X.2.2.1 41 (by unfold RF; omega)
  have e32 : I1 32 = I 32 := X.2.2.1 32 (by unfold RF; omega)
  have e38 : I1 38 = I 38 := X.2.2.1 38 (by unfold RF; omega)
  have e44 : I1 44 = I 44 := X.2.2.1 44 (by unfold RF; omega)
  have e45 : I1 45 = I 45 := X.2.2.1 45 (by unfold RF; omega)
  have e54 : I1 54 = I 54 := X.2.2.1 54 (by unfold RF; omega)
  have e56 : I1 56 = I 56 := X.2.2.1 56 (by unfold RF; omega)
  have e47 : I1 47 = I 47 := X.2.2.1 47 (by unfold RF; omega)
  have e15 : I1 15 = 0 := X.2.2.1 15 (by unfold RF; omega)
  have e50 : I1 50 = I 50 := X.2.2.1 50 (by unfold RF; omega)
  have e49 : I1 49 = 0 := X.2.2.1 49 (by unfold RF; omega)
  have e48 : I1 48 = 0 := X.2.2.1 48 (by unfold RF; omega)
  have x7 : I 7 ≤ I1 7 := X.1
  have ga : ∀ a : Nat, 20 ≤ a → a ≤ 28 → A1 a = A a := fun a p q => X.2.2.2.1 a (by unfold RG; omega)
  have a10 : A1 10 = A 10 := X.2.2.2.1 10 (by unfold RG; omega)
  have a11 : A1 11 = A 11 := X.2.2.2.1 11 (by unfold RG; omega)
  have XA : ∀ k : Int, 0 ≤ k → k < I 7 → A1 1 k = A 1 k ∧ A1 2 k = A 2 k ∧ N1 k = N k ∧ A1 4 k = A 4 k := X.2.1
  have rb : 0 ≤ b ∧ b ≤ 1 := by
    rcases hb with q | q
    · omega
    · have := q.1
      omega
  have Z1 : SZI (fun _ => 0) I1 A1 := SZI_read (I := su (su (su (su I 48 0) 49 0) 15 0) 46 (I 7)) (A := A) hP hZ X
  have p1 := (MST_PW S1).1
  have L41 := LIM_T (I := I) (A := A)
  obtain ⟨T1, dm1⟩ := TRX_rd (I := I) (A := A) (N := N) hS hK.1 x7 (by omega) MB
  refine mi_ne0 (t := 40) rfl rfl (by omega) (by omega) (fun eb => ?_) (fun eb => ?_)
  · have hb : 0 ≤ I1 30 ∧ I1 30 < I1 7 ∧ (WD A1 (I1 30) ≤ 1000 ∧ (∃ w : Int, WD A1 (I1 30) ≤ w ∧ w ≤ 1000 ∧ w ≤ NZ (A 11) (I 13).toNat ∧ I1 7 ≤ I 7 + 2 * w) ∧ WD A1 (I1 30) ≤ NZ (A 11) (I 13).toNat ∧ 2 * I1 10 ≤ NZ (A 11) (I 13).toNat + 2 * I 10 + 1 ∧ 2 * (I1 7 + 2 * WD A1 (I1 30) - PT A1 (I1 30)) ≤ 2 * I 7 + 5 * NZ (A 11) (I 13).toNat + 1) := by
      rcases hb with q | q
      · exact absurd q eb
      · exact q.2
    obtain ⟨w0, w1, w2, ⟨w, w3, w4, w5, w6⟩, w7, w8, w9⟩ := hb
    obtain ⟨-, ar, ol⟩ := tk.2.2.2.2 (I 41) tk.1 (Int.le_refl _)
    rw [L41, ← tk.2.2.1.1, ← tk.2.2.1.2] at ol
    have hx : OX (I 7) A A1 := fun k a b => ⟨(XA k a b).1, (XA k a b).2.1, fun w => by rw [(XA k a b).2.2.2]; exact w⟩
    have r2 : RX2 (I 32) A A1 := fun e _ _ => by
      rw [ga 20 (by decide) (by decide), ga 21 (by decide) (by decide), ga 22 (by decide) (by decide), ga 23 (by decide) (by decide), ga 24 (by decide) (by decide)]
      exact ⟨rfl, rfl, fun _ _ _ => rfl, rfl, rfl⟩
    have r3 : RX3 (I 38) A A1 := fun e _ _ => by
      rw [ga 25 (by decide) (by decide), ga 26 (by decide) (by decide)]
      exact ⟨rfl, rfl⟩
    have ol1 := OLA_px (lim1 := I1 7) (PW_VS hP (Int.le_refl _)) n0 x7 hx r2 r3 ol
    have nm1 : NM I1 A1 := NM_pre hN (by omega) (fun k a b => (XA k a b).1)
    have BB : BI ar I1 A1 N1 := OLA_BI S1 nm1 (show SZI ar I1 A1 from Z1) (by omega) (by omega) (by omega) (by omega) (by rw [e32, e38]; exact ol1)
    have h25 : ∀ e : Int, 0 ≤ e → e < I1 38 → A1 25 e < I1 7 := fun e a b => ol1.2.2.2 e a (by omega)
    have TK1 := TBK_same hK tk T1 e41 dm1 ga
    have TL := TBK_len hK tk
    have X9 := mk_BTX BB (by omega) T1 ⟨TL.1.trans e32.symm, TL.2.trans e38.symm⟩ hK.2.2.2.1 TK1.2.2.2.2 h25
    have rd : sp_RD (A 11) (I 13) = some (DM A1 N1 (I1 30)) := by
      rcases rd0 with q | q
      · exact absurd q.1 eb
      · exact q.2
    have spr : sp_run bk (I 50) (I 47) (sp_RD (A 11) (I 13)) = sp_cmd bk (I1 50) (I1 47) (DM A1 N1 (I1 30)) := by
      rw [rd, e50, e47]
      rfl
    refine go_a (pc' := 41) (ls' := [some (.ref h.length), none, none]) (st' := [.ref h.length]) rfl rfl ?_
    refine go_get (v := .int (iI (I1 41))) rfl mh_o rfl rfl ?_
    refine go_a (pc' := 45) (ls' := [some (.ref h.length), some (.int (iI (I1 41))), none]) (st' := []) rfl rfl ?_
    refine go_a (pc' := 46) (ls' := [some (.ref h.length), some (.int (iI (I1 41))), none]) (st' := [.ref h.length]) rfl rfl ?_
    refine go_a (pc' := 47) (ls' := [some (.ref h.length), some (.int (iI (I1 41))), none]) (st' := [.ref h.length, .ref h.length]) rfl rfl ?_
    refine go_get (v := .int (iI (I1 30))) rfl mh_o rfl rfl ?_
    refine go_v (m := 95) (as := [.ref h.length, .int (iI (I1 30))]) (r := []) rfl rfl rfl mh_o rfl rfl (mm_command z (d + 1) ar bk (I1 30) h R I1 A1 N1 hc BB (by unfold STP; omega) w0 w1 w2 (by omega) (by omega) (by omega) (by omega) (by omega) (by omega) (by omega) h25 (by rw [ga 27 (by decide) (by decide)]; exact tk.2.1) X9 e48) (fun v h1 hq => ?_)
    obtain ⟨q, I2, A2, N2, rfl, rfl, hr, hm⟩ := hq
    show xx_go (xt_P z) (d + 17) 69 53 [some (.ref h.length), some (.int (iI (I1 41))), none] [.int (iI q)] (mh h R I2 A2 N2) _
    refine go_a (pc' := 54) (ls' := [some (.ref h.length), some (.int (iI (I1 41))), some (.int (iI q))]) (st' := []) rfl rfl ?_
    refine go_a (pc' := 55) (ls' := [some (.ref h.length), some (.int (iI (I1 41))), some (.int (iI q))]) (st' := [.ref h.length]) rfl rfl ?_
    refine go_a (pc' := 56) (ls' := [some (.ref h.length), some (.int (iI (I1 41))), some (.int (iI q))]) (st' := [.int (iI ((-1))), .ref h.length]) rfl rfl ?_
    refine go_put (j := 44) rfl mh_o rfl rfl (show 12 ≤ _ from hc) (show 44 < 86 by decide) rfl rfl ?_
    rw [mh_p44]
    refine go_a (pc' := 60) (ls' := [some (.ref h.length), some (.int (iI (I1 41))), some (.int (iI q))]) (st' := [.ref h.length]) rfl rfl ?_
    refine go_get (v := .int (iI (I2 41))) rfl mh_o rfl rfl ?_
    refine go_a (pc' := 64) (ls' := [some (.ref h.length), some (.int (iI (I1 41))), some (.int (iI q))]) (st' := [.int (iI (I1 41)), .int (iI (I2 41))]) rfl rfl ?_
    rcases hm with ⟨hm, sc⟩ | ⟨kd, th, hm, sc, tkr, dk⟩ | ⟨⟨rfl, hm⟩, sc⟩
    · have Y := hm.1
      have h41 : I2 41 = I1 41 := Y.2.2.2.1 41 (by decide) (by unfold FDD FT3 FT2 FQ; omega)
      have h32 : I2 32 = I1 32 := Y.2.2.2.1 32 (by decide) (by unfold FDD FT3 FT2 FQ; omega)
      have h38 : I2 38 = I1 38 := Y.2.2.2.1 38 (by decide) (by unfold FDD FT3 FT2 FQ; omega)
      have h46 : I2 46 = I1 46 := Y.2.2.2.1 46 (by decide) (by unfold FDD FT3 FT2 FQ; omega)
      have h47 : I2 47 = I1 47 := Y.2.2.2.1 47 (by decide) (by unfold FDD FT3 FT2 FQ; omega)
      have h13 : I2 13 = I1 13 := Y.2.2.2.1 13 (by decide) (by unfold FDD FT3 FT2 FQ; omega)
      have y7 := Y.2.1
      have gb : ∀ a : Nat, (20 ≤ a ∧ a ≤ 28) ∨ a = 10 ∨ a = 11 ∨ a = 13 → A2 a = A1 a := fun a p => Y.2.2.2.2 a (by omega) (by omega) (by omega) (by omega) (by omega) (by omega) (by unfold GT2 GQ; omega)
      have u := hm.2.2
      refine mi_gt (t := 75) rfl rfl (by omega) (by omega) (by omega) (by omega) (fun e => absurd e (by omega)) (fun e => ?_)
      refine go_a (pc' := 68) (ls' := [some (.ref h.length), some (.int (iI (I1 41))), some (.int (iI q))]) (st' := [.ref h.length]) rfl rfl ?_
      refine go_a (pc' := 69) (ls' := [some (.ref h.length), some (.int (iI (I1 41))), some (.int (iI q))]) (st' := [.ref h.length, .ref h.length]) rfl rfl ?_
      refine go_get (v := .int (iI (I2 46))) rfl mh_o rfl rfl ?_
      have k46 : (su I2 44 (-1)) 46 = I 7 := by
        show I2 46 = I 7
        omega
      refine go_v (m := 73) (as := [.ref h.length, .int (iI (I2 46))]) (r := []) rfl rfl rfl mh_o rfl rfl (mm_forget z (d + 14) (I2 46) h R (su I2 44 (-1)) A2 N2 hc (by omega) (show I2 46 ≤ I2 7 by omega) (show MST (su I2 44 (-1)) A2 N2 from Y.1)) (fun v h1 hq => ?_)
      obtain ⟨rfl, I3, A3, rfl, S3, f7, g10, ef, ea⟩ := hq
      show xx_go (xt_P z) (d + 17) 69 75 [some (.ref h.length), some (.int (iI (I1 41))), some (.int (iI q))] [] (mh h R I3 A3 N2) _
      refine go_a (pc' := 76) (ls' := [some (.ref h.length), some (.int (iI (I1 41))), some (.int (iI q))]) (st' := [.int (iI q)]) rfl rfl ?_
      have f41 : I3 41 = I2 41 := ef 41 (by decide) (by decide)
      have f32 : I3 32 = I2 32 := ef 32 (by decide) (by decide)
      have f38 : I3 38 = I2 38 := ef 38 (by decide) (by decide)
      have f45 : I3 45 = I2 45 := ef 45 (by decide) (by decide)
      have f54 : I3 54 = I2 54 := ef 54 (by decide) (by decide)
      have f56 : I3 56 = I2 56 := ef 56 (by decide) (by decide)
      have f47 : I3 47 = I2 47 := ef 47 (by decide) (by decide)
      have f15 : I3 15 = I2 15 := ef 15 (by decide) (by decide)
      have f50 : I3 50 = I2 50 := ef 50 (by decide) (by decide)
      have f49 : I3 49 = I2 49 := ef 49 (by decide) (by decide)
      have f13 : I3 13 = I2 13 := ef 13 (by decide) (by decide)
      have f48 : I3 48 = I2 48 := ef 48 (by decide) (by decide)
      have f44 : I3 44 = -1 := ef 44 (by decide) (by decide)
      have XB : ∀ k : Int, 0 ≤ k → k < I 7 → A3 1 k = A 1 k ∧ A3 2 k = A 2 k ∧ (A 4 k ≠ 0 → A3 4 k ≠ 0) := fun k a b => by
        have q := Y.2.2.1 k a (by omega)
        have q2 := XA k a b
        rw [ea 1 (by decide), ea 2 (by decide), ea 4 (by decide)]
        exact ⟨q.1.trans q2.1, q.2.1.trans q2.2.1, fun w => q.2.2.2 (by rw [q2.2.2.2]; exact w)⟩
      have Z3 : SZI (fun _ => 0) I3 A3 := SZI_forget (I1 := I2) (A1 := A2) (show SZI (fun _ => 0) I2 A2 from hm.2.1) (by omega) ea
      have D := IDL_back (T := I 41) (I3 := I3) (A3 := A3) (N2 := N2) hI tk.1 (Int.le_refl _) S3 Z3 (by omega) (by omega) (by rw [f32, h32, e32]; exact tk.2.2.1.1) (by rw [f38, h38, e38]; exact tk.2.2.1.2) XB (fun a p q => by rw [ea a (by omega), gb a (by omega)]; exact ga a p q) f44 (by omega) (by omega) (by omega) (by omega) (by omega) (by omega) (by omega) (((ea 10 (by decide)).trans (gb 10 (by omega))).trans a10) (((ea 11 (by decide)).trans (gb 11 (by omega))).trans a11) (by rw [ea 13 (by decide), gb 13 (by omega)]; exact r13)
      have n10 := names_same hS S3 (by omega) (fun k a b => (XB k a b).1)
      obtain ⟨T3, dm3⟩ := TRX_px (I1 := I3) (A1 := A3) (N1 := N2) S1 T1 (by omega) (by omega) (fun k a b => by
        have q := Y.2.2.1 k a (by omega)
        rw [ea 1 (by decide), ea 2 (by decide)]
        exact ⟨q.1, q.2.1, q.2.2.1⟩) ((ea 8 (by decide)).trans (Y.2.2.2.2 8 (by decide) (by decide) (by decide) (by decide) (by decide) (by decide) (by unfold GT2 GQ; omega))) ((ea 9 (by decide)).trans (Y.2.2.2.2 9 (by decide) (by decide) (by decide) (by decide) (by decide) (by decide) (by unfold GT2 GQ; omega)))
      exact go_r rfl rfl rfl rfl rfl rfl ⟨q, I3, A3, N2, rfl, rfl, D, hr, by omega, by omega, ((ea 10 (by decide)).trans (gb 10 (by omega))).trans a10, by omega, by omega, bk, TBK_same hK tk T3 (by omega) (fun k a b => (dm3 k a (by omega)).trans (dm1 k a b)) (fun a p q => by rw [ea a (by omega), gb a (by omega)]; exact ga a p q), by rw [spr, sc, f50, f48]⟩
    · obtain ⟨⟨t1, t2, t3, t4⟩, ⟨k1, k2, k3, k4, k5, k6⟩, ⟨m1, m2, m3⟩, u, ⟨c1, c2, c3⟩, fj, fa⟩ := hm
      refine mi_gt (t := 75) rfl rfl (by omega) (by omega) (by omega) (by omega) (fun e => ?_) (fun e => absurd (show I2 41 > I1 41 by omega) e)
      refine go_a (pc' := 76) (ls' := [some (.ref h.length), some (.int (iI (I1 41))), some (.int (iI q))]) (st' := [.int (iI q)]) rfl rfl ?_
      have h47 : I2 47 = I1 47 := fj 47 (by decide) (by unfold FDD FT3 FT2 FQ; omega) (by decide) (by decide) (by decide)
      have h13 : I2 13 = I1 13 := fj 13 (by decide) (by unfold FDD FT3 FT2 FQ; omega) (by decide) (by decide) (by decide)
      have gb : ∀ a : Nat, a = 10 ∨ a = 11 ∨ a = 13 → A2 a = A1 a := fun a p => fa a (by omega) (by omega) (by omega) (by omega) (by omega) (by omega) (by unfold GT2 GQ; omega) (by omega)
      have hx2 : OX (I 7) A A2 := fun k a b => by
        have q := t1 k a (by omega)
        have q2 := hx k a b
        exact ⟨q.1.trans q2.1, q.2.1.trans q2.2.1, fun w => q.2.2 (q2.2.2 w)⟩
      have r22 : RX2 (I 32) A A2 := fun e a b => by
        have q := t2 e a (by omega)
        have q2 := r2 e a b
        exact ⟨q.1.trans q2.1, q.2.1.trans q2.2.1, fun j p s => (q.2.2.1 j p s).trans (q2.2.2.1 j p s), q.2.2.2.1.trans q2.2.2.2.1, q.2.2.2.2.trans q2.2.2.2.2⟩
      have r33 : RX3 (I 38) A A2 := fun e a b => by
        have q := t3 e a (by omega)
        have q2 := r3 e a b
        exact ⟨q.1.trans q2.1, q.2.trans q2.2⟩
      have g27 := ga 27 (by decide) (by decide)
      have g28 := ga 28 (by decide) (by decide)
      rw [g27, e41] at k5
      rw [g28, e41, e46] at k6
      have T0 : TKN (su (su (su (su (su I2 44 (-1)) 41 (I 41)) 7 (I 7)) 32 (I 32)) 38 (I 38)) A2 := TKN_gen (T := I 41) tk hP n0 tk.1 (Int.le_refl _) rfl (fun e => by
        rw [k5]
        by_cases c : e = I 41
        · rw [c, sf_self]
          omega
        · rw [sf_ne c]
          exact tk.2.1 e) (fun e a b => by rw [k5, sf_ne (by omega)]) (fun e a b => by rw [k6, sf_ne (by omega)]) (by rw [L41]; rfl) tk.2.2.1.1 tk.2.2.1.2 (by rw [L41]; exact hx2) (by rw [← tk.2.2.1.1]; exact r22) (by rw [← tk.2.2.1.2]; exact r33)
      have T1 : TKN (su I2 44 (-1)) A2 := TKN_ext (J := su (su (su (su (su I2 44 (-1)) 41 (I 41)) 7 (I 7)) 32 (I 32)) 38 (I 38)) (kd := kd) T0 k1 (show I2 41 = I 41 + 1 by omega) (show A2 27 (I 41) = kd by rw [k5, sf_self]) (show A2 28 (I 41) = I 7 by rw [k6, sf_self]) (show I2 32 = I 32 + kd by omega) (show I2 38 = I 38 + (1 - kd) by omega) (show I 7 ≤ I2 7 by omega) t4
      have D : IDL (su I2 44 (-1)) A2 N2 := ⟨⟨m1, m2, m3⟩, T1, ⟨⟨rfl, u.2.2.2.2.2⟩, u.1, (show 1 ≤ I2 47 ∧ I2 47 ≤ 1000 by omega), u.2.2.1, u.2.2.2.1, u.2.2.2.2.1, (show 0 ≤ I2 13 ∧ I2 13 ≤ 3000 by omega)⟩, by rw [gb 10 (by omega), a10]; exact hI.2.2.2.1, by rw [gb 11 (by omega), a11]; exact hI.2.2.2.2.1, by rw [gb 13 (by omega)]; exact r13⟩
      exact go_r rfl rfl rfl rfl rfl rfl ⟨q, su I2 44 (-1), A2, N2, rfl, rfl, D, hr, (show I2 13 = 0 by omega), (show I2 47 = I 47 by omega), (gb 10 (by omega)).trans a10, (show 2 * I2 7 ≤ _ by omega), (show 2 * I2 10 ≤ _ by omega), th :: bk, TBK_new (I1 := I2) hK tk tkr (by omega) (by omega) (by omega) k5 r22 r33 (fun k a b => (dk k a (by omega)).trans (dm1 k a b)), (spr.trans sc).symm⟩
    · obtain ⟨u0, rfl, hm⟩ := hm
      have m41 : I2 41 = I 41 - 1 ∧ I2 46 = A 28 (I 41 - 1) ∧ I2 32 = CNT (A 27) 1 (I 41 - 1).toNat ∧ I2 38 = CNT (A 27) 0 (I 41 - 1).toNat ∧ (I2 7 = I1 7 ∧ I2 10 = I1 10) ∧ ∀ j : Nat, j ≠ 41 → j ≠ 32 → j ≠ 38 → j ≠ 46 → I2 j = I1 j := by
        have q1 := CNT_s (f := A 27) (x := 1) (k := I 41 - 1) (by omega)
        have q0 := CNT_s (f := A 27) (x := 0) (k := I 41 - 1) (by omega)
        rw [show I 41 - 1 + 1 = I 41 by omega] at q1 q0
        rw [← tk.2.2.1.1] at q1
        rw [← tk.2.2.1.2] at q0
        have bb := tk.2.1 (I 41 - 1)
        rw [ga 27 (by decide) (by decide), ga 28 (by decide) (by decide), e41] at hm
        rcases hm with ⟨c, rfl⟩ | ⟨c, rfl⟩
        · rw [if_pos (by omega)] at q1
          rw [if_neg c] at q0
          exact ⟨(show I 41 - 1 = I 41 - 1 from rfl), rfl, (show I1 32 - 1 = _ by omega), (show I1 38 = _ by omega), ⟨rfl, rfl⟩, fun j a b c d => by rw [su_ne d, su_ne b, su_ne a]⟩
        · rw [if_neg (by omega)] at q1
          rw [if_pos c] at q0
          exact ⟨(show I 41 - 1 = I 41 - 1 from rfl), rfl, (show I1 32 = _ by omega), (show I1 38 - 1 = _ by omega), ⟨rfl, rfl⟩, fun j a b c d => by rw [su_ne d, su_ne c, su_ne a]⟩
      obtain ⟨h41, h46, h32, h38, ⟨h7, h10⟩, hj⟩ := m41
      have lm := tk.2.2.2.2 (I 41 - 1) (by omega) (by omega)
      have ll := tk.2.2.2.1 (I 41 - 1) (I 41) (by omega) (by omega) (Int.le_refl _)
      rw [L41] at ll
      have l8 : LIM I A (I 41 - 1) = A 28 (I 41 - 1) := LIM_lt (by omega)
      have lm1 := lm.1
      have S2 : MST I2 A2 N2 := MST_congr S1 h7 h10 rfl rfl rfl rfl rfl rfl rfl rfl
      refine mi_gt (t := 75) rfl rfl (by omega) (by omega) (by omega) (by omega) (fun e => absurd e (by omega)) (fun e => ?_)
      refine go_a (pc' := 68) (ls' := [some (.ref h.length), some (.int (iI (I1 41))), some (.int (iI q))]) (st' := [.ref h.length]) rfl rfl ?_
      refine go_a (pc' := 69) (ls' := [some (.ref h.length), some (.int (iI (I1 41))), some (.int (iI q))]) (st' := [.ref h.length, .ref h.length]) rfl rfl ?_
      refine go_get (v := .int (iI (I2 46))) rfl mh_o rfl rfl ?_
      refine go_v (m := 73) (as := [.ref h.length, .int (iI (I2 46))]) (r := []) rfl rfl rfl mh_o rfl rfl (mm_forget z (d + 14) (I2 46) h R (su I2 44 (-1)) A2 N2 hc (by omega) (show I2 46 ≤ I2 7 by omega) S2) (fun v h1 hq => ?_)
      obtain ⟨rfl, I3, A3, rfl, S3, f7, g10, ef, ea⟩ := hq
      show xx_go (xt_P z) (d + 17) 69 75 [some (.ref h.length), some (.int (iI (I1 41))), some (.int (iI q))] [] (mh h R I3 A3 N2) _
      refine go_a (pc' := 76) (ls' := [some (.ref h.length), some (.int (iI (I1 41))), some (.int (iI q))]) (st' := [.int (iI q)]) rfl rfl ?_
      have f41 : I3 41 = I2 41 := ef 41 (by decide) (by decide)
      have f32 : I3 32 = I2 32 := ef 32 (by decide) (by decide)
      have f38 : I3 38 = I2 38 := ef 38 (by decide) (by decide)
      have f45 : I3 45 = I1 45 := (ef 45 (by decide) (by decide)).trans (hj 45 (by decide) (by decide) (by decide) (by decide))
      have f54 : I3 54 = I1 54 := (ef 54 (by decide) (by decide)).trans (hj 54 (by decide) (by decide) (by decide) (by decide))
      have f56 : I3 56 = I1 56 := (ef 56 (by decide) (by decide)).trans (hj 56 (by decide) (by decide) (by decide) (by decide))
      have f47 : I3 47 = I1 47 := (ef 47 (by decide) (by decide)).trans (hj 47 (by decide) (by decide) (by decide) (by decide))
      have f15 : I3 15 = I1 15 := (ef 15 (by decide) (by decide)).trans (hj 15 (by decide) (by decide) (by decide) (by decide))
      have f50 : I3 50 = I1 50 := (ef 50 (by decide) (by decide)).trans (hj 50 (by decide) (by decide) (by decide) (by decide))
      have f49 : I3 49 = I1 49 := (ef 49 (by decide) (by decide)).trans (hj 49 (by decide) (by decide) (by decide) (by decide))
      have f13 : I3 13 = I1 13 := (ef 13 (by decide) (by decide)).trans (hj 13 (by decide) (by decide) (by decide) (by decide))
      have f48 : I3 48 = I1 48 := (ef 48 (by decide) (by decide)).trans (hj 48 (by decide) (by decide) (by decide) (by decide))
      have f44 : I3 44 = -1 := ef 44 (by decide) (by decide)
      have g10 : I3 10 ≤ I2 10 := g10
      have XB : ∀ k : Int, 0 ≤ k → k < I 7 → A3 1 k = A 1 k ∧ A3 2 k = A 2 k ∧ (A 4 k ≠ 0 → A3 4 k ≠ 0) := fun k a b => by
        rw [ea 1 (by decide), ea 2 (by decide), ea 4 (by decide)]
        exact hx k a b
      have Z3 : SZI (fun _ => 0) I3 A3 := SZI_forget (I1 := I1) (A1 := A2) Z1 (by omega) ea
      have D := IDL_back (T := I 41 - 1) (I3 := I3) (A3 := A3) (N2 := N2) hI (by omega) (by omega) S3 Z3 (by omega) (by omega) (by rw [f32]; exact h32) (by rw [f38]; exact h38) XB (fun a p q => by rw [ea a (by omega)]; exact ga a p q) f44 (by omega) (by omega) (by omega) (by omega) (by omega) (by omega) (by omega) ((ea 10 (by decide)).trans a10) ((ea 11 (by decide)).trans a11) (by rw [ea 13 (by decide)]; exact r13)
      obtain ⟨T3, dm3⟩ := TRX_px (I1 := I3) (A1 := A3) (N1 := N2) S1 T1 (by omega) (by omega) (fun k _ _ => ⟨congrFun (ea 1 (by decide)) k, congrFun (ea 2 (by decide)) k, rfl⟩) (ea 8 (by decide)) (ea 9 (by decide))
      exact go_r rfl rfl rfl rfl rfl rfl ⟨q, I3, A3, N2, rfl, rfl, D, hr, by omega, by omega, (ea 10 (by decide)).trans a10, by omega, by omega, bk.drop 1, TBK_undo hK tk T3 (by omega) (by omega) (fun k a b => (dm3 k a (by omega)).trans (dm1 k a (by omega))) (fun a p q => by rw [ea a (by omega)]; exact ga a p q), by rw [spr, sc, f50, f48, hj 50 (by decide) (by decide) (by decide) (by decide), hj 48 (by decide) (by decide) (by decide) (by decide)]⟩
  · refine go_a (pc' := 31) (ls' := [some (.ref h.length), none, none]) (st' := [.ref h.length]) rfl rfl ?_
    refine go_a (pc' := 32) (ls' := [some (.ref h.length), none, none]) (st' := [.ref h.length, .ref h.length]) rfl rfl ?_
    refine go_get (v := .int (iI (I1 46))) rfl mh_o rfl rfl ?_
    refine go_v (m := 73) (as := [.ref h.length, .int (iI (I1 46))]) (r := []) rfl rfl rfl mh_o rfl rfl (mm_forget z (d + 14) (I1 46) h R I1 A1 N1 hc (by omega) (by omega) S1) (fun v h1 hq => ?_)
    obtain ⟨rfl, I2, A2, rfl, S2, f7, g10, ef, ea⟩ := hq
    show xx_go (xt_P z) (d + 17) 69 38 [some (.ref h.length), none, none] [] (mh h R I2 A2 N1) _
    refine go_a (pc' := 39) (ls' := [some (.ref h.length), none, none]) (st' := [.int (iI 1)]) rfl rfl ?_
    have XB : ∀ k : Int, 0 ≤ k → k < I 7 → A2 1 k = A 1 k ∧ A2 2 k = A 2 k ∧ A2 4 k = A 4 k := fun k a b => by
      rw [ea 1 (by decide), ea 2 (by decide), ea 4 (by decide)]
      exact ⟨(XA k a b).1, (XA k a b).2.1, (XA k a b).2.2.2⟩
    have f41 : I2 41 = I1 41 := ef 41 (by decide) (by decide)
    have f32 : I2 32 = I1 32 := ef 32 (by decide) (by decide)
    have f38 : I2 38 = I1 38 := ef 38 (by decide) (by decide)
    have f44 : I2 44 = I1 44 := ef 44 (by decide) (by decide)
    have f45 : I2 45 = I1 45 := ef 45 (by decide) (by decide)
    have f54 : I2 54 = I1 54 := ef 54 (by decide) (by decide)
    have f56 : I2 56 = I1 56 := ef 56 (by decide) (by decide)
    have f47 : I2 47 = I1 47 := ef 47 (by decide) (by decide)
    have f15 : I2 15 = I1 15 := ef 15 (by decide) (by decide)
    have f50 : I2 50 = I1 50 := ef 50 (by decide) (by decide)
    have f49 : I2 49 = I1 49 := ef 49 (by decide) (by decide)
    have f13 : I2 13 = I1 13 := ef 13 (by decide) (by decide)
    have f48 : I2 48 = I1 48 := ef 48 (by decide) (by decide)
    have D := IDL_back (T := I 41) (I3 := I2) (A3 := A2) (N2 := N1) hI tk.1 (Int.le_refl _) S2 (SZI_pre hP hZ (by omega) XB) (by omega) (by omega) (by rw [f32, e32]; exact tk.2.2.1.1) (by rw [f38, e38]; exact tk.2.2.1.2) (fun k a b => ⟨(XB k a b).1, (XB k a b).2.1, fun w => by rw [(XB k a b).2.2]; exact w⟩) (fun a p q => by rw [ea a (by omega)]; exact ga a p q) (by omega) (by omega) (by omega) (by omega) (by omega) (by omega) (by omega) (by omega) ((ea 10 (by decide)).trans a10) ((ea 11 (by decide)).trans a11) (by rw [ea 13 (by decide)]; exact r13)
    have n10 := names_same hS S2 (by omega) (fun k a b => (XB k a b).1)
    obtain ⟨T2, dm2⟩ := TRX_px (I1 := I2) (A1 := A2) (N1 := N1) S1 T1 (by omega) (by omega) (fun k _ _ => ⟨congrFun (ea 1 (by decide)) k, congrFun (ea 2 (by decide)) k, rfl⟩) (ea 8 (by decide)) (ea 9 (by decide))
    have rd : sp_RD (A 11) (I 13) = none := by
      rcases rd0 with q | q
      · exact q.2
      · omega
    exact go_r rfl rfl rfl rfl rfl rfl ⟨1, I2, A2, N1, rfl, rfl, D, by decide, by omega, by omega, (ea 10 (by decide)).trans a10, by omega, by omega, bk, TBK_same hK tk T2 (by omega) (fun k a b => (dm2 k a (by omega)).trans (dm1 k a b)) (fun a p q => by rw [ea a (by omega)]; exact ga a p q), by rw [rd, f50, e50, f48, e48]; rfl⟩

