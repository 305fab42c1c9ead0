theorem m15 (x : Int) : ∃ g : Int, (0 ≤ g ∧ g ≤ 15) ∧ iI x &&& iI 15 = iI g := by
  have hl : (iI x &&& iI 15).toBitVec.toNat ≤ 15 := by
    show ((iI x).toBitVec &&& (iI 15).toBitVec).toNat ≤ 15
    rw [BitVec.toNat_and]
    exact Nat.le_trans Nat.and_le_right (by decide)
  refine ⟨((iI x &&& iI 15).toBitVec.toNat : Int), ⟨by omega, by omega⟩, i_eq ?_⟩
  rw [i_nat]
  omega
theorem kt_B {s : KS} (B : KB s) : kt s ≤ 265144 := by
  obtain ⟨-, -, -, r, -, c8, a, b, e⟩ := B
  have r0 := r 0 (by decide)
  have r1 := r 1 (by decide)
  have r2 := r 2 (by decide)
  have r3 := r 3 (by decide)
  have r4 := r 4 (by decide)
  have r5 := r 5 (by decide)
  have r6 := r 6 (by decide)
  have r7 := r 7 (by decide)
  unfold kt
  omega
theorem MIC_1 {c : Int} {I : Nat → Int} {A : Nat → Int → Int} {N : Int → Int} (h : MIC c I A N) : MIC (c + 1) I A N := MIC_same h h.1 (Int.le_refl _) (Int.le_refl _) rfl rfl rfl
theorem kw_loop (z : Value) (hz : z = .null ∨ ∃ k, z = .ref k) (d c : Nat) (L : Int) (f : Int → Int) (s0 : Int × Int) (hc : 12 ≤ c) (L0 : 0 ≤ L) (L1 : L ≤ 3072) (fR : ∀ e : Int, -2147483648 ≤ f e ∧ f e ≤ 2147483647) : ∀ (j : Nat) (i cc : Int) (H : xx_H), (L - i).toNat ≤ j → 0 ≤ i → i = 6 * cc → i ≤ L → LWI c cc s0 L f H → xx_go (xt_P z) (d + 93) 0 18 [some (.ref 0), some (.ref (c + 0)), some (.ref (c + 32)), some (.int (iI i))] [] H (fun v h1 => v = some (.int (iI 1)) ∧ 20 * (h1.length : Int) ≤ s0.1 + 10525144 ∧ (xx_sz h1 : Int) ≤ s0.2 + 4386432) := by
  intro j
  induction j with
  | zero =>
    intro i cc H hj i0 ei iL hW
    have cH : H[0]? = some (.inl (.int, xa_f L.toNat f)) := by obtain ⟨_, _, _, _, _, _, _, -, -, -, -, -, -, -, -, -, q⟩ := hW; exact q
    refine go_a (pc' := 19) (ls' := [some (.ref 0), some (.ref (c + 0)), some (.ref (c + 32)), some (.int (iI i))]) (st' := [.int (iI i)]) rfl rfl ?_
    refine go_a (pc' := 20) (ls' := [some (.ref 0), some (.ref (c + 0)), some (.ref (c + 32)), some (.int (iI i))]) (st' := [.ref 0, .int (iI i)]) rfl rfl ?_
    refine mk_len (n := L) rfl cH (xa_f_len _ _) (by omega) (by omega) ?_
    refine go_a (pc' := 23) (ls' := [some (.ref 0), some (.ref (c + 0)), some (.ref (c + 32)), some (.int (iI i))]) (st' := [.int (iI 6), .int (iI L), .int (iI i)]) rfl rfl ?_
    refine mi_sub rfl ?_
    refine mi_gt (t := 332) rfl rfl (by omega) (by omega) (by omega) (by omega) (fun _ => ?_) (fun w => absurd (show i > L - 6 by omega) w)
    refine go_a (pc' := 333) (ls' := [some (.ref 0), some (.ref (c + 0)), some (.ref (c + 32)), some (.int (iI i))]) (st' := [.int (iI 1)]) rfl rfl ?_
    obtain ⟨h, R, I, A, N, s, bk, rfl, hl, K, -⟩ := hW
    obtain ⟨⟨NM, W⟩, -, -, -, w, α, β, hw, X, p1, p2, -⟩ := K
    have kb := kt_B W.2.1
    have x1 := X.2.1
    have x2 := X.2.2.1
    have nz := NZ_nn (f := s.A 0) (s.I 0).toNat
    have w01 : 0 ≤ w := by rcases hw with ⟨e, -⟩ | e <;> omega
    exact go_r rfl rfl rfl rfl rfl rfl ⟨rfl, by omega, by omega⟩
  | succ j ih =>
    intro i cc H hj i0 ei iL hW
    have cH : H[0]? = some (.inl (.int, xa_f L.toNat f)) := by obtain ⟨_, _, _, _, _, _, _, -, -, -, -, -, -, -, -, -, q⟩ := hW; exact q
    refine go_a (pc' := 19) (ls' := [some (.ref 0), some (.ref (c + 0)), some (.ref (c + 32)), some (.int (iI i))]) (st' := [.int (iI i)]) rfl rfl ?_
    refine go_a (pc' := 20) (ls' := [some (.ref 0), some (.ref (c + 0)), some (.ref (c + 32)), some (.int (iI i))]) (st' := [.ref 0, .int (iI i)]) rfl rfl ?_
    refine mk_len (n := L) rfl cH (xa_f_len _ _) (by omega) (by omega) ?_
    refine go_a (pc' := 23) (ls' := [some (.ref 0), some (.ref (c + 0)), some (.ref (c + 32)), some (.int (iI i))]) (st' := [.int (iI 6), .int (iI L), .int (iI i)]) rfl rfl ?_
    refine mi_sub rfl ?_
    refine mi_gt (t := 332) rfl rfl (by omega) (by omega) (by omega) (by omega) (fun _ => ?_) (fun w1 => ?_)
    · refine go_a (pc' := 333) (ls' := [some (.ref 0), some (.ref (c + 0)), some (.ref (c + 32)), some (.int (iI i))]) (st' := [.int (iI 1)]) rfl rfl ?_
      obtain ⟨h, R, I, A, N, s, bk, rfl, hl, K, -⟩ := hW
      obtain ⟨⟨NM, W⟩, -, -, -, w, α, β, hw, X, p1, p2, -⟩ := K
      have kb := kt_B W.2.1
      have x1 := X.2.1
      have x2 := X.2.2.1
      have nz := NZ_nn (f := s.A 0) (s.I 0).toNat
      have w01 : 0 ≤ w := by rcases hw with ⟨e, -⟩ | e <;> omega
      exact go_r rfl rfl rfl rfl rfl rfl ⟨rfl, by omega, by omega⟩
    · obtain ⟨h, R, I, A, N, s, bk, rfl, hl, K, M, e13, e47, RL, TB, VB9, -⟩ := hW
      have KW := K.1
      obtain ⟨NM, W⟩ := KW
      refine go_a (pc' := 28) (ls' := [some (.ref 0), some (.ref (c + 0)), some (.ref (c + 32)), some (.int (iI i))]) (st' := [.ref 0]) rfl rfl ?_
      refine go_a (pc' := 29) (ls' := [some (.ref 0), some (.ref (c + 0)), some (.ref (c + 32)), some (.int (iI i))]) (st' := [.int (iI i), .ref 0]) rfl rfl ?_
      refine mi_ild (n := (L).toNat) (f := f) rfl cH (by omega) (by omega) (by omega) ?_
      refine go_a (pc' := 32) (ls' := [some (.ref 0), some (.ref (c + 0)), some (.ref (c + 32)), some (.int (iI i))]) (st' := [.int (iI 15), .int (iI (f i))]) rfl rfl ?_
      refine go_a (pc' := 33) (ls' := [some (.ref 0), some (.ref (c + 0)), some (.ref (c + 32)), some (.int (iI i))]) (st' := [.int (iI (f i) &&& iI 15)]) rfl rfl ?_
      obtain ⟨t9, tR, et⟩ := m15 (f i)
      rw [et]
      show xx_go (xt_P z) (d + 93) 0 33 [some (.ref 0), some (.ref (c + 0)), some (.ref (c + 32)), some (.int (iI i))] [.int (iI t9)] (mh h R I A N) _
      have no : ∀ (cc2 : Int) (H2 : xx_H), cc2 = cc + 1 → LWI c cc2 s0 L f H2 → xx_go (xt_P z) (d + 93) 0 326 [some (.ref 0), some (.ref (c + 0)), some (.ref (c + 32)), some (.int (iI i))] [] H2 (fun v h1 => v = some (.int (iI 1)) ∧ 20 * (h1.length : Int) ≤ s0.1 + 10525144 ∧ (xx_sz h1 : Int) ≤ s0.2 + 4386432) := by
        intro cc2 H2 ec hW2
        refine go_a (pc' := 329) (ls' := [some (.ref 0), some (.ref (c + 0)), some (.ref (c + 32)), some (.int (iI (i + 6)))]) (st' := []) rfl (by rw [← iI_add i 6]; rfl) ?_
        refine go_a (pc' := 18) (ls' := [some (.ref 0), some (.ref (c + 0)), some (.ref (c + 32)), some (.int (iI (i + 6)))]) (st' := []) rfl rfl ?_
        exact ih (i + 6) cc2 H2 (by omega) (by omega) (by omega) (by omega) hW2
      have hc5 : cc ≤ 512 := by omega
      by_cases h10 : 10 ≤ t9
      · refine mi_tsd (t := 326) rfl (by omega) (by omega) (by omega) rfl ?_
        refine no (cc + 1) _ rfl ?_
        exact ⟨h, R, I, A, N, s, bk, rfl, hl, KIC_1 K, MIC_1 M, e13, e47, RL, TB, VB9, cH⟩
      · have ht : t9 = 0 ∨ t9 = 1 ∨ t9 = 2 ∨ t9 = 3 ∨ t9 = 4 ∨ t9 = 5 ∨ t9 = 6 ∨ t9 = 7 ∨ t9 = 8 ∨ t9 = 9 := by omega
        rcases ht with rfl | rfl | rfl | rfl | rfl | rfl | rfl | rfl | rfl | rfl
        · refine go_a (pc' := 88) (ls' := [some (.ref 0), some (.ref (c + 0)), some (.ref (c + 32)), some (.int (iI i))]) (st' := []) rfl rfl ?_
          refine go_a (pc' := 89) (ls' := [some (.ref 0), some (.ref (c + 0)), some (.ref (c + 32)), some (.int (iI i))]) (st' := [.ref (c + 0)]) rfl rfl ?_
          refine go_a (pc' := 90) (ls' := [some (.ref 0), some (.ref (c + 0)), some (.ref (c + 32)), some (.int (iI i))]) (st' := [.ref 0, .ref (c + 0)]) rfl rfl ?_
          refine go_a (pc' := 91) (ls' := [some (.ref 0), some (.ref (c + 0)), some (.ref (c + 32)), some (.int (iI i))]) (st' := [.int (iI i), .ref 0, .ref (c + 0)]) rfl rfl ?_
          refine go_a (pc' := 92) (ls' := [some (.ref 0), some (.ref (c + 0)), some (.ref (c + 32)), some (.int (iI i))]) (st' := [.int (iI 1), .int (iI i), .ref 0, .ref (c + 0)]) rfl rfl ?_
          refine mi_add rfl ?_
          refine mi_ild (n := (L).toNat) (f := f) rfl cH (by omega) (by omega) (by omega) ?_
          refine go_a (pc' := 95) (ls' := [some (.ref 0), some (.ref (c + 0)), some (.ref (c + 32)), some (.int (iI i))]) (st' := [.ref 0, .int (iI (f (i + 1))), .ref (c + 0)]) rfl rfl ?_
          refine go_a (pc' := 96) (ls' := [some (.ref 0), some (.ref (c + 0)), some (.ref (c + 32)), some (.int (iI i))]) (st' := [.int (iI i), .ref 0, .int (iI (f (i + 1))), .ref (c + 0)]) rfl rfl ?_
          refine go_a (pc' := 97) (ls' := [some (.ref 0), some (.ref (c + 0)), some (.ref (c + 32)), some (.int (iI i))]) (st' := [.int (iI 2), .int (iI i), .ref 0, .int (iI (f (i + 1))), .ref (c + 0)]) rfl rfl ?_
          refine mi_add rfl ?_
          refine mi_ild (n := (L).toNat) (f := f) rfl cH (by omega) (by omega) (by omega) ?_
          refine go_a (pc' := 100) (ls' := [some (.ref 0), some (.ref (c + 0)), some (.ref (c + 32)), some (.int (iI i))]) (st' := [.ref 0, .int (iI (f (i + 2))), .int (iI (f (i + 1))), .ref (c + 0)]) rfl rfl ?_
          refine go_a (pc' := 101) (ls' := [some (.ref 0), some (.ref (c + 0)), some (.ref (c + 32)), some (.int (iI i))]) (st' := [.int (iI i), .ref 0, .int (iI (f (i + 2))), .int (iI (f (i + 1))), .ref (c + 0)]) rfl rfl ?_
          refine go_a (pc' := 102) (ls' := [some (.ref 0), some (.ref (c + 0)), some (.ref (c + 32)), some (.int (iI i))]) (st' := [.int (iI 3), .int (iI i), .ref 0, .int (iI (f (i + 2))), .int (iI (f (i + 1))), .ref (c + 0)]) rfl rfl ?_
          refine mi_add rfl ?_
          refine mi_ild (n := (L).toNat) (f := f) rfl cH (by omega) (by omega) (by omega) ?_
          refine go_a (pc' := 105) (ls' := [some (.ref 0), some (.ref (c + 0)), some (.ref (c + 32)), some (.int (iI i))]) (st' := [.ref 0, .int (iI (f (i + 3))), .int (iI (f (i + 2))), .int (iI (f (i + 1))), .ref (c + 0)]) rfl rfl ?_
          refine go_a (pc' := 106) (ls' := [some (.ref 0), some (.ref (c + 0)), some (.ref (c + 32)), some (.int (iI i))]) (st' := [.int (iI i), .ref 0, .int (iI (f (i + 3))), .int (iI (f (i + 2))), .int (iI (f (i + 1))), .ref (c + 0)]) rfl rfl ?_
          refine go_a (pc' := 107) (ls' := [some (.ref 0), some (.ref (c + 0)), some (.ref (c + 32)), some (.int (iI i))]) (st' := [.int (iI 4), .int (iI i), .ref 0, .int (iI (f (i + 3))), .int (iI (f (i + 2))), .int (iI (f (i + 1))), .ref (c + 0)]) rfl rfl ?_
          refine mi_add rfl ?_
          refine mi_ild (n := (L).toNat) (f := f) rfl cH (by omega) (by omega) (by omega) ?_
          refine go_a (pc' := 110) (ls' := [some (.ref 0), some (.ref (c + 0)), some (.ref (c + 32)), some (.int (iI i))]) (st' := [.ref 0, .int (iI (f (i + 4))), .int (iI (f (i + 3))), .int (iI (f (i + 2))), .int (iI (f (i + 1))), .ref (c + 0)]) rfl rfl ?_
          refine go_a (pc' := 111) (ls' := [some (.ref 0), some (.ref (c + 0)), some (.ref (c + 32)), some (.int (iI i))]) (st' := [.int (iI i), .ref 0, .int (iI (f (i + 4))), .int (iI (f (i + 3))), .int (iI (f (i + 2))), .int (iI (f (i + 1))), .ref (c + 0)]) rfl rfl ?_
          refine go_a (pc' := 112) (ls' := [some (.ref 0), some (.ref (c + 0)), some (.ref (c + 32)), some (.int (iI i))]) (st' := [.int (iI 5), .int (iI i), .ref 0, .int (iI (f (i + 4))), .int (iI (f (i + 3))), .int (iI (f (i + 2))), .int (iI (f (i + 1))), .ref (c + 0)]) rfl rfl ?_
          refine mi_add rfl ?_
          refine mi_ild (n := (L).toNat) (f := f) rfl cH (by omega) (by omega) (by omega) ?_
          refine go_v (m := 32) (as := [.ref (c + 0), .int (iI (f (i + 1))), .int (iI (f (i + 2))), .int (iI (f (i + 3))), .int (iI (f (i + 4))), .int (iI (f (i + 5)))]) (r := []) rfl rfl rfl (W.1.1 0 (by decide)) rfl rfl (kk_feed z (d + 92) c cc (f (i + 1)) (f (i + 2)) (f (i + 3)) (f (i + 4)) (f (i + 5)) _ s0 _ s bk K (fR _) (fR _) (fR _) (fR _) (fR _)) (fun v h1 hq => ?_)
          obtain ⟨rfl, s1, K1, a2, km, kw⟩ := hq
          obtain ⟨g1, R1, eH, l1, c1⟩ := LW_half rfl hl K1 cH
          rw [eH] at K1 c1
          rw [eH]
          clear eH
          show xx_go (xt_P z) (d + 93) 0 117 [some (.ref 0), some (.ref (c + 0)), some (.ref (c + 32)), some (.int (iI i))] [] (mh g1 R1 I A N) _
          refine go_a (pc' := 118) (ls' := [some (.ref 0), some (.ref (c + 0)), some (.ref (c + 32)), some (.int (iI i))]) (st' := [.ref (c + 32)]) rfl rfl ?_
          refine go_a (pc' := 119) (ls' := [some (.ref 0), some (.ref (c + 0)), some (.ref (c + 32)), some (.int (iI i))]) (st' := [.ref 0, .ref (c + 32)]) rfl rfl ?_
          refine go_a (pc' := 120) (ls' := [some (.ref 0), some (.ref (c + 0)), some (.ref (c + 32)), some (.int (iI i))]) (st' := [.int (iI i), .ref 0, .ref (c + 32)]) rfl rfl ?_
          refine go_a (pc' := 121) (ls' := [some (.ref 0), some (.ref (c + 0)), some (.ref (c + 32)), some (.int (iI i))]) (st' := [.int (iI 1), .int (iI i), .ref 0, .ref (c + 32)]) rfl rfl ?_
          refine mi_add rfl ?_
          refine mi_ild (n := (L).toNat) (f := f) rfl c1 (by omega) (by omega) (by omega) ?_
          refine go_a (pc' := 124) (ls' := [some (.ref 0), some (.ref (c + 0)), some (.ref (c + 32)), some (.int (iI i))]) (st' := [.ref 0, .int (iI (f (i + 1))), .ref (c + 32)]) rfl rfl ?_
          refine go_a (pc' := 125) (ls' := [some (.ref 0), some (.ref (c + 0)), some (.ref (c + 32)), some (.int (iI i))]) (st' := [.int (iI i), .ref 0, .int (iI (f (i + 1))), .ref (c + 32)]) rfl rfl ?_
          refine go_a (pc' := 126) (ls' := [some (.ref 0), some (.ref (c + 0)), some (.ref (c + 32)), some (.int (iI i))]) (st' := [.int (iI 2), .int (iI i), .ref 0, .int (iI (f (i + 1))), .ref (c + 32)]) rfl rfl ?_
          refine mi_add rfl ?_
          refine mi_ild (n := (L).toNat) (f := f) rfl c1 (by omega) (by omega) (by omega) ?_
          refine go_a (pc' := 129) (ls' := [some (.ref 0), some (.ref (c + 0)), some (.ref (c + 32)), some (.int (iI i))]) (st' := [.ref 0, .int (iI (f (i + 2))), .int (iI (f (i + 1))), .ref (c + 32)]) rfl rfl ?_
          refine go_a (pc' := 130) (ls' := [some (.ref 0), some (.ref (c + 0)), some (.ref (c + 32)), some (.int (iI i))]) (st' := [.int (iI i), .ref 0, .int (iI (f (i + 2))), .int (iI (f (i + 1))), .ref (c + 32)]) rfl rfl ?_
          refine go_a (pc' := 131) (ls' := [some (.ref 0), some (.ref (c + 0)), some (.ref (c + 32)), some (.int (iI i))]) (st' := [.int (iI 3), .int (iI i), .ref 0, .int (iI (f (i + 2))), .int (iI (f (i + 1))), .ref (c + 32)]) rfl rfl ?_
          refine mi_add rfl ?_
          refine mi_ild (n := (L).toNat) (f := f) rfl c1 (by omega) (by omega) (by omega) ?_
          refine go_a (pc' := 134) (ls' := [some (.ref 0), some (.ref (c + 0)), some (.ref (c + 32)), some (.int (iI i))]) (st' := [.ref 0, .int (iI (f (i + 3))), .int (iI (f (i + 2))), .int (iI (f (i + 1))), .ref (c + 32)]) rfl rfl ?_
          refine go_a (pc' := 135) (ls' := [some (.ref 0), some (.ref (c + 0)), some (.ref (c + 32)), some (.int (iI i))]) (st' := [.int (iI i), .ref 0, .int (iI (f (i + 3))), .int (iI (f (i + 2))), .int (iI (f (i + 1))), .ref (c + 32)]) rfl rfl ?_
          refine go_a (pc' := 136) (ls' := [some (.ref 0), some (.ref (c + 0)), some (.ref (c + 32)), some (.int (iI i))]) (st' := [.int (iI 4), .int (iI i), .ref 0, .int (iI (f (i + 3))), .int (iI (f (i + 2))), .int (iI (f (i + 1))), .ref (c + 32)]) rfl rfl ?_
          refine mi_add rfl ?_
          refine mi_ild (n := (L).toNat) (f := f) rfl c1 (by omega) (by omega) (by omega) ?_
          refine go_a (pc' := 139) (ls' := [some (.ref 0), some (.ref (c + 0)), some (.ref (c + 32)), some (.int (iI i))]) (st' := [.ref 0, .int (iI (f (i + 4))), .int (iI (f (i + 3))), .int (iI (f (i + 2))), .int (iI (f (i + 1))), .ref (c + 32)]) rfl rfl ?_
          refine go_a (pc' := 140) (ls' := [some (.ref 0), some (.ref (c + 0)), some (.ref (c + 32)), some (.int (iI i))]) (st' := [.int (iI i), .ref 0, .int (iI (f (i + 4))), .int (iI (f (i + 3))), .int (iI (f (i + 2))), .int (iI (f (i + 1))), .ref (c + 32)]) rfl rfl ?_
          refine go_a (pc' := 141) (ls' := [some (.ref 0), some (.ref (c + 0)), some (.ref (c + 32)), some (.int (iI i))]) (st' := [.int (iI 5), .int (iI i), .ref 0, .int (iI (f (i + 4))), .int (iI (f (i + 3))), .int (iI (f (i + 2))), .int (iI (f (i + 1))), .ref (c + 32)]) rfl rfl ?_
          refine mi_add rfl ?_
          refine mi_ild (n := (L).toNat) (f := f) rfl c1 (by omega) (by omega) (by omega) ?_
          have mo : (mh g1 R1 I A N)[c + 32]? = some (.inr (13, mfs g1.length I)) := by rw [← l1]; exact mh_o
          have mc := mc_feed z (d + 92) cc (f (i + 1)) (f (i + 2)) (f (i + 3)) (f (i + 4)) (f (i + 5)) g1 R1 I A N (by omega) bk M TB (fR _) (fR _) (fR _) (fR _) (fR _)
          rw [l1] at mc
          refine go_v (m := 66) (as := [.ref (c + 32), .int (iI (f (i + 1))), .int (iI (f (i + 2))), .int (iI (f (i + 3))), .int (iI (f (i + 4))), .int (iI (f (i + 5)))]) (r := []) rfl rfl rfl mo rfl rfl mc (fun v h2 hq => ?_)
          obtain ⟨rfl, A2, rfl, M2, T2, a11, fv⟩ := hq
          show xx_go (xt_P z) (d + 93) 0 146 [some (.ref 0), some (.ref (c + 0)), some (.ref (c + 32)), some (.int (iI i))] [] (mh g1 R1 I A2 N) _
          refine go_a (pc' := 326) (ls' := [some (.ref 0), some (.ref (c + 0)), some (.ref (c + 32)), some (.int (iI i))]) (st' := []) rfl rfl ?_
          exact no _ _ rfl (LW_next hc l1 K1 M2 c1 (km.1.trans e13) (a2.trans e47) (REL_feed RL e13 km kw a11 fv) T2 VB9)
        · refine go_a (pc' := 149) (ls' := [some (.ref 0), some (.ref (c + 0)), some (.ref (c + 32)), some (.int (iI i))]) (st' := []) rfl rfl ?_
          refine go_a (pc' := 150) (ls' := [some (.ref 0), some (.ref (c + 0)), some (.ref (c + 32)), some (.int (iI i))]) (st' := [.ref (c + 0)]) rfl rfl ?_
          refine go_a (pc' := 151) (ls' := [some (.ref 0), some (.ref (c + 0)), some (.ref (c + 32)), some (.int (iI i))]) (st' := [.ref 0, .ref (c + 0)]) rfl rfl ?_
          refine go_a (pc' := 152) (ls' := [some (.ref 0), some (.ref (c + 0)), some (.ref (c + 32)), some (.int (iI i))]) (st' := [.int (iI i), .ref 0, .ref (c + 0)]) rfl rfl ?_
          refine go_a (pc' := 153) (ls' := [some (.ref 0), some (.ref (c + 0)), some (.ref (c + 32)), some (.int (iI i))]) (st' := [.int (iI 1), .int (iI i), .ref 0, .ref (c + 0)]) rfl rfl ?_
          refine mi_add rfl ?_
          refine mi_ild (n := (L).toNat) (f := f) rfl cH (by omega) (by omega) (by omega) ?_
          refine go_v (m := 33) (as := [.ref (c + 0), .int (iI (f (i + 1)))]) (r := []) rfl rfl rfl (W.1.1 0 (by decide)) rfl rfl (kk_end z (d + 90) c cc (f (i + 1)) _ s0 _ s bk K (fR (i + 1)).1 (fR (i + 1)).2) (fun v h1 hq => ?_)
          obtain ⟨s1, K1, a2, km, hv⟩ := hq
          obtain ⟨g1, R1, eH, l1, c1⟩ := LW_half rfl hl K1 cH
          rw [eH] at K1 c1
          rw [eH]
          clear eH
          obtain ⟨b1, rfl, vb⟩ : ∃ b1 : Int, v = some (.int (iI b1)) ∧ ((s1.I 0 = s.I 0 ∧ ¬ (0 ≤ f (i + 1) ∧ f (i + 1) ≤ 20 ∧ s.I 0 + f (i + 1) ≤ 3000) ∧ s1.A 12 = s.A 12) ∨ (s1.I 0 = s.I 0 + f (i + 1) ∧ (0 ≤ f (i + 1) ∧ f (i + 1) ≤ 20 ∧ s.I 0 + f (i + 1) ≤ 3000) ∧ W5 s1 ∧ ∀ e : Int, 0 ≤ e → e < f (i + 1) → s1.A 0 (s.I 0 + e) = sp_by (s.A 12 (e / 4)) e)) := by
            rcases hv with ⟨e, a, b, c⟩ | ⟨e, a, b⟩
            · exact ⟨_, e, Or.inl ⟨a, b, c⟩⟩
            · exact ⟨_, e, Or.inr ⟨a, b⟩⟩
          show xx_go (xt_P z) (d + 93) 0 158 [some (.ref 0), some (.ref (c + 0)), some (.ref (c + 32)), some (.int (iI i))] [.int (iI b1)] (mh g1 R1 I A N) _
          refine go_a (pc' := 159) (ls' := [some (.ref 0), some (.ref (c + 0)), some (.ref (c + 32)), some (.int (iI i))]) (st' := []) rfl rfl ?_
          refine go_a (pc' := 160) (ls' := [some (.ref 0), some (.ref (c + 0)), some (.ref (c + 32)), some (.int (iI i))]) (st' := [.ref (c + 32)]) rfl rfl ?_
          refine go_a (pc' := 161) (ls' := [some (.ref 0), some (.ref (c + 0)), some (.ref (c + 32)), some (.int (iI i))]) (st' := [.ref 0, .ref (c + 32)]) rfl rfl ?_
          refine go_a (pc' := 162) (ls' := [some (.ref 0), some (.ref (c + 0)), some (.ref (c + 32)), some (.int (iI i))]) (st' := [.int (iI i), .ref 0, .ref (c + 32)]) rfl rfl ?_
          refine go_a (pc' := 163) (ls' := [some (.ref 0), some (.ref (c + 0)), some (.ref (c + 32)), some (.int (iI i))]) (st' := [.int (iI 1), .int (iI i), .ref 0, .ref (c + 32)]) rfl rfl ?_
          refine mi_add rfl ?_
          refine mi_ild (n := (L).toNat) (f := f) rfl c1 (by omega) (by omega) (by omega) ?_
          have mo : (mh g1 R1 I A N)[c + 32]? = some (.inr (13, mfs g1.length I)) := by rw [← l1]; exact mh_o
          have mc := mc_end z (d + 92) cc (f (i + 1)) g1 R1 I A N (by omega) bk M TB (fR (i + 1)).1 (by have := (fR (i + 1)).2; omega)
          rw [l1] at mc
          refine go_v (m := 67) (as := [.ref (c + 32), .int (iI (f (i + 1)))]) (r := []) rfl rfl rfl mo rfl rfl mc (fun v h2 hq => ?_)
          obtain ⟨I2, A2, rfl, M2, m47, ⟨T2, m48, m50⟩, hm⟩ := hq
          obtain ⟨b2, rfl, ub⟩ : ∃ b2 : Int, v = some (.int (iI b2)) ∧ ((I2 13 = I 13 ∧ ¬ (0 ≤ f (i + 1) ∧ f (i + 1) ≤ 20 ∧ I 13 + f (i + 1) ≤ 3000) ∧ A2 = A) ∨ (I2 13 = I 13 + f (i + 1) ∧ (0 ≤ f (i + 1) ∧ f (i + 1) ≤ 20 ∧ I 13 + f (i + 1) ≤ 3000) ∧ WZ A2 ∧ (∀ e : Int, 0 ≤ e → e < f (i + 1) → A2 11 (I 13 + e) = A 10 e) ∧ ∀ e : Int, e < I 13 → A2 11 e = A 11 e)) := by
            rcases hm with ⟨e, a, b, c⟩ | ⟨e, a, b⟩
            · exact ⟨_, e, Or.inl ⟨a, b, c⟩⟩
            · exact ⟨_, e, Or.inr ⟨a, b⟩⟩
          obtain ⟨R2, e13b⟩ := REL_end RL e13 km vb m48 m50 ub
          show xx_go (xt_P z) (d + 93) 0 168 [some (.ref 0), some (.ref (c + 0)), some (.ref (c + 32)), some (.int (iI i))] [.int (iI b2)] (mh g1 R1 I2 A2 N) _
          refine go_a (pc' := 169) (ls' := [some (.ref 0), some (.ref (c + 0)), some (.ref (c + 32)), some (.int (iI i))]) (st' := []) rfl rfl ?_
          refine go_a (pc' := 326) (ls' := [some (.ref 0), some (.ref (c + 0)), some (.ref (c + 32)), some (.int (iI i))]) (st' := []) rfl rfl ?_
          exact no _ _ rfl (LW_next hc l1 K1 M2 c1 e13b ((a2.trans e47).trans m47.symm) R2 T2 VB9)
        · refine go_a (pc' := 172) (ls' := [some (.ref 0), some (.ref (c + 0)), some (.ref (c + 32)), some (.int (iI i))]) (st' := []) rfl rfl ?_
          refine go_a (pc' := 173) (ls' := [some (.ref 0), some (.ref (c + 0)), some (.ref (c + 32)), some (.int (iI i))]) (st' := [.ref (c + 0)]) rfl rfl ?_
          refine go_a (pc' := 174) (ls' := [some (.ref 0), some (.ref (c + 0)), some (.ref (c + 32)), some (.int (iI i))]) (st' := [.ref 0, .ref (c + 0)]) rfl rfl ?_
          refine go_a (pc' := 175) (ls' := [some (.ref 0), some (.ref (c + 0)), some (.ref (c + 32)), some (.int (iI i))]) (st' := [.int (iI i), .ref 0, .ref (c + 0)]) rfl rfl ?_
          refine go_a (pc' := 176) (ls' := [some (.ref 0), some (.ref (c + 0)), some (.ref (c + 32)), some (.int (iI i))]) (st' := [.int (iI 1), .int (iI i), .ref 0, .ref (c + 0)]) rfl rfl ?_
          refine mi_add rfl ?_
          refine mi_ild (n := (L).toNat) (f := f) rfl cH (by omega) (by omega) (by omega) ?_
          refine go_v (m := 36) (as := [.ref (c + 0), .int (iI (f (i + 1)))]) (r := []) rfl rfl rfl (W.1.1 0 (by decide)) rfl rfl (kk_fuel z (d + 92) c cc (f (i + 1)) _ s0 _ s bk K (fR (i + 1)).1 (fR (i + 1)).2) (fun v h1 hq => ?_)
          obtain ⟨s1, K1, ⟨km, a12⟩, hv⟩ := hq
          obtain ⟨g1, R1, eH, l1, c1⟩ := LW_half rfl hl K1 cH
          rw [eH] at K1 c1
          rw [eH]
          clear eH
          have x0 := W.2.1.2.1 20
          obtain ⟨b1, rfl, vb⟩ : ∃ b1 : Int, v = some (.int (iI b1)) ∧ ((b1 = -1 ∧ s1.I 20 = s.I 20 ∧ ¬ (1 ≤ f (i + 1) ∧ f (i + 1) ≤ 1000)) ∨ (b1 = s.I 20 ∧ s1.I 20 = f (i + 1) ∧ (1 ≤ f (i + 1) ∧ f (i + 1) ≤ 1000))) := by
            rcases hv with ⟨e, a, b⟩ | ⟨e, a, b⟩
            · exact ⟨_, e, Or.inl ⟨rfl, a, b⟩⟩
            · exact ⟨_, e, Or.inr ⟨rfl, a, b⟩⟩
          show xx_go (xt_P z) (d + 93) 0 181 [some (.ref 0), some (.ref (c + 0)), some (.ref (c + 32)), some (.int (iI i))] [.int (iI b1)] (mh g1 R1 I A N) _
          refine go_a (pc' := 182) (ls' := [some (.ref 0), some (.ref (c + 0)), some (.ref (c + 32)), some (.int (iI i))]) (st' := []) rfl rfl ?_
          refine go_a (pc' := 183) (ls' := [some (.ref 0), some (.ref (c + 0)), some (.ref (c + 32)), some (.int (iI i))]) (st' := [.ref (c + 32)]) rfl rfl ?_
          refine go_a (pc' := 184) (ls' := [some (.ref 0), some (.ref (c + 0)), some (.ref (c + 32)), some (.int (iI i))]) (st' := [.ref 0, .ref (c + 32)]) rfl rfl ?_
          refine go_a (pc' := 185) (ls' := [some (.ref 0), some (.ref (c + 0)), some (.ref (c + 32)), some (.int (iI i))]) (st' := [.int (iI i), .ref 0, .ref (c + 32)]) rfl rfl ?_
          refine go_a (pc' := 186) (ls' := [some (.ref 0), some (.ref (c + 0)), some (.ref (c + 32)), some (.int (iI i))]) (st' := [.int (iI 1), .int (iI i), .ref 0, .ref (c + 32)]) rfl rfl ?_
          refine mi_add rfl ?_
          refine mi_ild (n := (L).toNat) (f := f) rfl c1 (by omega) (by omega) (by omega) ?_
          have mo : (mh g1 R1 I A N)[c + 32]? = some (.inr (13, mfs g1.length I)) := by rw [← l1]; exact mh_o
          have mc := mc_fuel z (d + 92) cc (f (i + 1)) g1 R1 I A N (by omega) bk M TB (fR (i + 1)).1 (by have := (fR (i + 1)).2; omega)
          rw [l1] at mc
          refine go_v (m := 68) (as := [.ref (c + 32), .int (iI (f (i + 1)))]) (r := []) rfl rfl rfl mo rfl rfl mc (fun v h2 hq => ?_)
          obtain ⟨I2, rfl, M2, m13, ⟨T2, m48, m50⟩, hm⟩ := hq
          obtain ⟨b2, rfl, ub⟩ : ∃ b2 : Int, v = some (.int (iI b2)) ∧ ((b2 = -1 ∧ I2 47 = I 47 ∧ ¬ (1 ≤ f (i + 1) ∧ f (i + 1) ≤ 1000)) ∨ (b2 = I 47 ∧ I2 47 = f (i + 1) ∧ (1 ≤ f (i + 1) ∧ f (i + 1) ≤ 1000))) := by
            rcases hm with ⟨e, a, b⟩ | ⟨e, a, b⟩
            · exact ⟨_, e, Or.inl ⟨rfl, a, b⟩⟩
            · exact ⟨_, e, Or.inr ⟨rfl, a, b⟩⟩
          show xx_go (xt_P z) (d + 93) 0 191 [some (.ref 0), some (.ref (c + 0)), some (.ref (c + 32)), some (.int (iI i))] [.int (iI b2)] (mh g1 R1 I2 A N) _
          refine go_a (pc' := 192) (ls' := [some (.ref 0), some (.ref (c + 0)), some (.ref (c + 32)), some (.int (iI i))]) (st' := []) rfl rfl ?_
          refine go_a (pc' := 326) (ls' := [some (.ref 0), some (.ref (c + 0)), some (.ref (c + 32)), some (.int (iI i))]) (st' := []) rfl rfl ?_
          exact no _ _ rfl (LW_next hc l1 K1 M2 c1 ((km.1.trans e13).trans m13.symm) (by omega) (REL_k RL e13 km a12 m13 m48 m50 rfl rfl) T2 VB9)
        · refine go_a (pc' := 195) (ls' := [some (.ref 0), some (.ref (c + 0)), some (.ref (c + 32)), some (.int (iI i))]) (st' := []) rfl rfl ?_
          refine go_a (pc' := 196) (ls' := [some (.ref 0), some (.ref (c + 0)), some (.ref (c + 32)), some (.int (iI i))]) (st' := [.ref (c + 0)]) rfl rfl ?_
          refine go_v (m := 37) (as := [.ref (c + 0)]) (r := []) rfl rfl rfl (W.1.1 0 (by decide)) rfl rfl (kk_run z hz (d + 1) c cc _ s0 _ s bk K hc5) (fun v h1 hq => ?_)
          obtain ⟨b1, s1, t1, rfl, K1, a1, a2, a12, er⟩ := hq
          obtain ⟨g1, R1, eH, l1, c1⟩ := LW_half rfl hl K1 cH
          rw [eH] at K1 c1
          rw [eH]
          clear eH
          show xx_go (xt_P z) (d + 93) 0 199 [some (.ref 0), some (.ref (c + 0)), some (.ref (c + 32)), some (.int (iI i))] [.int (iI b1)] (mh g1 R1 I A N) _
          refine go_a (pc' := 200) (ls' := [some (.ref 0), some (.ref (c + 0)), some (.ref (c + 32)), some (.int (iI i))]) (st' := []) rfl rfl ?_
          refine go_a (pc' := 201) (ls' := [some (.ref 0), some (.ref (c + 0)), some (.ref (c + 32)), some (.int (iI i))]) (st' := [.ref (c + 32)]) rfl rfl ?_
          have mo : (mh g1 R1 I A N)[c + 32]? = some (.inr (13, mfs g1.length I)) := by rw [← l1]; exact mh_o
          have mc := mc_run z (d + 75) cc g1 R1 I A N (by omega) bk M TB hc5
          rw [l1] at mc
          refine go_v (m := 69) (as := [.ref (c + 32)]) (r := []) rfl rfl rfl mo rfl rfl mc (fun v h2 hq => ?_)
          obtain ⟨b2, I2, A2, N2, rfl, rfl, M2, m13, m47, a10, bk1, T2, em⟩ := hq
          obtain ⟨R2, rfl⟩ := REL_run RL e13 (by have := M.1.2.2.1.2.2.2.2.2.2; omega) e47 er em m13 a12 a10
          show xx_go (xt_P z) (d + 93) 0 204 [some (.ref 0), some (.ref (c + 0)), some (.ref (c + 32)), some (.int (iI i))] [.int (iI b2)] (mh g1 R1 I2 A2 N2) _
          refine go_a (pc' := 205) (ls' := [some (.ref 0), some (.ref (c + 0)), some (.ref (c + 32)), some (.int (iI i))]) (st' := []) rfl rfl ?_
          refine go_a (pc' := 326) (ls' := [some (.ref 0), some (.ref (c + 0)), some (.ref (c + 32)), some (.int (iI i))]) (st' := []) rfl rfl ?_
          exact no _ _ rfl (LW_next hc l1 K1 M2 c1 (a1.trans m13.symm) ((a2.trans e47).trans m47.symm) R2 T2 (VB_run er VB9))
        · refine go_a (pc' := 208) (ls' := [some (.ref 0), some (.ref (c + 0)), some (.ref (c + 32)), some (.int (iI i))]) (st' := []) rfl rfl ?_
          refine go_a (pc' := 209) (ls' := [some (.ref 0), some (.ref (c + 0)), some (.ref (c + 32)), some (.int (iI i))]) (st' := [.ref (c + 0)]) rfl rfl ?_
          refine go_a (pc' := 210) (ls' := [some (.ref 0), some (.ref (c + 0)), some (.ref (c + 32)), some (.int (iI i))]) (st' := [.ref 0, .ref (c + 0)]) rfl rfl ?_
          refine go_a (pc' := 211) (ls' := [some (.ref 0), some (.ref (c + 0)), some (.ref (c + 32)), some (.int (iI i))]) (st' := [.int (iI i), .ref 0, .ref (c + 0)]) rfl rfl ?_
          refine go_a (pc' := 212) (ls' := [some (.ref 0), some (.ref (c + 0)), some (.ref (c + 32)), some (.int (iI i))]) (st' := [.int (iI 1), .int (iI i), .ref 0, .ref (c + 0)]) rfl rfl ?_
          refine mi_add rfl ?_
          refine mi_ild (n := (L).toNat) (f := f) rfl cH (by omega) (by omega) (by omega) ?_
          refine go_v (m := 50) (as := [.ref (c + 0), .int (iI (f (i + 1)))]) (r := []) rfl rfl rfl (W.1.1 0 (by decide)) rfl rfl (kk_fault z (d + 92) c cc (f (i + 1)) _ s0 _ s bk K (fR (i + 1)).1 (fR (i + 1)).2) (fun v h1 hq => ?_)
          obtain ⟨⟨b1, rfl⟩, e9, K1⟩ := hq
          rw [e9]
          clear e9 h1
          have l1 := hl
          have c1 := cH
          show xx_go (xt_P z) (d + 93) 0 217 [some (.ref 0), some (.ref (c + 0)), some (.ref (c + 32)), some (.int (iI i))] [.int (iI b1)] (mh h R I A N) _
          refine go_a (pc' := 218) (ls' := [some (.ref 0), some (.ref (c + 0)), some (.ref (c + 32)), some (.int (iI i))]) (st' := []) rfl rfl ?_
          refine go_a (pc' := 219) (ls' := [some (.ref 0), some (.ref (c + 0)), some (.ref (c + 32)), some (.int (iI i))]) (st' := [.ref (c + 32)]) rfl rfl ?_
          refine go_a (pc' := 220) (ls' := [some (.ref 0), some (.ref (c + 0)), some (.ref (c + 32)), some (.int (iI i))]) (st' := [.ref 0, .ref (c + 32)]) rfl rfl ?_
          refine go_a (pc' := 221) (ls' := [some (.ref 0), some (.ref (c + 0)), some (.ref (c + 32)), some (.int (iI i))]) (st' := [.int (iI i), .ref 0, .ref (c + 32)]) rfl rfl ?_
          refine go_a (pc' := 222) (ls' := [some (.ref 0), some (.ref (c + 0)), some (.ref (c + 32)), some (.int (iI i))]) (st' := [.int (iI 1), .int (iI i), .ref 0, .ref (c + 32)]) rfl rfl ?_
          refine mi_add rfl ?_
          refine mi_ild (n := (L).toNat) (f := f) rfl c1 (by omega) (by omega) (by omega) ?_
          have mo : (mh h R I A N)[c + 32]? = some (.inr (13, mfs h.length I)) := by rw [← l1]; exact mh_o
          have mc := mc_fault z (d + 92) cc (f (i + 1)) h R I A N (by omega) bk M TB (fR (i + 1)).1 (by have := (fR (i + 1)).2; omega)
          rw [l1] at mc
          refine go_v (m := 74) (as := [.ref (c + 32), .int (iI (f (i + 1)))]) (r := []) rfl rfl rfl mo rfl rfl mc (fun v h2 hq => ?_)
          obtain ⟨⟨b2, rfl⟩, e9, M2⟩ := hq
          rw [e9]
          show xx_go (xt_P z) (d + 93) 0 227 [some (.ref 0), some (.ref (c + 0)), some (.ref (c + 32)), some (.int (iI i))] [.int (iI b2)] (mh h R I A N) _
          refine go_a (pc' := 228) (ls' := [some (.ref 0), some (.ref (c + 0)), some (.ref (c + 32)), some (.int (iI i))]) (st' := []) rfl rfl ?_
          refine go_a (pc' := 326) (ls' := [some (.ref 0), some (.ref (c + 0)), some (.ref (c + 32)), some (.int (iI i))]) (st' := []) rfl rfl ?_
          exact no _ _ rfl (LW_next hc l1 K1 M2 c1 e13 e47 RL TB VB9)
        · refine go_a (pc' := 231) (ls' := [some (.ref 0), some (.ref (c + 0)), some (.ref (c + 32)), some (.int (iI i))]) (st' := []) rfl rfl ?_
          refine go_a (pc' := 232) (ls' := [some (.ref 0), some (.ref (c + 0)), some (.ref (c + 32)), some (.int (iI i))]) (st' := [.ref (c + 0)]) rfl rfl ?_
          refine go_v (m := 51) (as := [.ref (c + 0)]) (r := []) rfl rfl rfl (W.1.1 0 (by decide)) rfl rfl (kk_steps z (d + 92) c cc _ s0 _ s bk K) (fun v h1 hq => ?_)
          obtain ⟨hv, e9, K1⟩ := hq
          obtain ⟨b1, eb1, rfl⟩ : ∃ b1 : Int, b1 = s.I 22 ∧ v = some (.int (iI b1)) := ⟨_, rfl, hv⟩
          rw [e9]
          clear e9 h1
          have l1 := hl
          have c1 := cH
          have x0 := W.2.1.2.1 22
          have e22 := RL.2.2.1
          show xx_go (xt_P z) (d + 93) 0 235 [some (.ref 0), some (.ref (c + 0)), some (.ref (c + 32)), some (.int (iI i))] [.int (iI b1)] (mh h R I A N) _
          refine go_a (pc' := 236) (ls' := [some (.ref 0), some (.ref (c + 0)), some (.ref (c + 32)), some (.int (iI i))]) (st' := []) rfl rfl ?_
          refine go_a (pc' := 237) (ls' := [some (.ref 0), some (.ref (c + 0)), some (.ref (c + 32)), some (.int (iI i))]) (st' := [.ref (c + 32)]) rfl rfl ?_
          have mo : (mh h R I A N)[c + 32]? = some (.inr (13, mfs h.length I)) := by rw [← l1]; exact mh_o
          have mc := mc_steps z (d + 92) cc h R I A N (by omega) bk M TB
          rw [l1] at mc
          refine go_v (m := 75) (as := [.ref (c + 32)]) (r := []) rfl rfl rfl mo rfl rfl mc (fun v h2 hq => ?_)
          obtain ⟨hm, e9, M2⟩ := hq
          obtain ⟨b2, eb2, rfl⟩ : ∃ b2 : Int, b2 = I 48 ∧ v = some (.int (iI b2)) := ⟨_, rfl, hm⟩
          rw [e9]
          show xx_go (xt_P z) (d + 93) 0 240 [some (.ref 0), some (.ref (c + 0)), some (.ref (c + 32)), some (.int (iI i))] [.int (iI b2)] (mh h R I A N) _
          refine go_a (pc' := 241) (ls' := [some (.ref 0), some (.ref (c + 0)), some (.ref (c + 32)), some (.int (iI i))]) (st' := []) rfl rfl ?_
          refine go_a (pc' := 326) (ls' := [some (.ref 0), some (.ref (c + 0)), some (.ref (c + 32)), some (.int (iI i))]) (st' := []) rfl rfl ?_
          exact no _ _ rfl (LW_next hc l1 K1 M2 c1 e13 e47 RL TB VB9)
        · refine go_a (pc' := 244) (ls' := [some (.ref 0), some (.ref (c + 0)), some (.ref (c + 32)), some (.int (iI i))]) (st' := []) rfl rfl ?_
          refine go_a (pc' := 245) (ls' := [some (.ref 0), some (.ref (c + 0)), some (.ref (c + 32)), some (.int (iI i))]) (st' := [.ref (c + 0)]) rfl rfl ?_
          refine go_a (pc' := 246) (ls' := [some (.ref 0), some (.ref (c + 0)), some (.ref (c + 32)), some (.int (iI i))]) (st' := [.ref 0, .ref (c + 0)]) rfl rfl ?_
          refine go_a (pc' := 247) (ls' := [some (.ref 0), some (.ref (c + 0)), some (.ref (c + 32)), some (.int (iI i))]) (st' := [.int (iI i), .ref 0, .ref (c + 0)]) rfl rfl ?_
          refine go_a (pc' := 248) (ls' := [some (.ref 0), some (.ref (c + 0)), some (.ref (c + 32)), some (.int (iI i))]) (st' := [.int (iI 1), .int (iI i), .ref 0, .ref (c + 0)]) rfl rfl ?_
          refine mi_add rfl ?_
          refine mi_ild (n := (L).toNat) (f := f) rfl cH (by omega) (by omega) (by omega) ?_
          refine go_v (m := 52) (as := [.ref (c + 0), .int (iI (f (i + 1)))]) (r := []) rfl rfl rfl (W.1.1 0 (by decide)) rfl rfl (kk_count z (d + 90) c cc (f (i + 1)) _ s0 _ s bk K (fR (i + 1)).1 (fR (i + 1)).2) (fun v h1 hq => ?_)
          obtain ⟨hv, e9, K1⟩ := hq
          obtain ⟨b1, rfl, vb⟩ : ∃ b1 : Int, v = some (.int (iI b1)) ∧ (f (i + 1) = 0 ∧ b1 = s.I 27 ∨ f (i + 1) = 1 ∧ b1 = s.I 28 ∨ f (i + 1) = 2 ∧ b1 = s.I 23 ∨ (f (i + 1) ≠ 0 ∧ f (i + 1) ≠ 1 ∧ f (i + 1) ≠ 2) ∧ b1 = -1) := by
            rcases hv with ⟨a, e⟩ | ⟨a, e⟩ | ⟨a, e⟩ | ⟨a, e⟩
            · exact ⟨_, e, Or.inl ⟨a, rfl⟩⟩
            · exact ⟨_, e, Or.inr (Or.inl ⟨a, rfl⟩)⟩
            · exact ⟨_, e, Or.inr (Or.inr (Or.inl ⟨a, rfl⟩))⟩
            · exact ⟨_, e, Or.inr (Or.inr (Or.inr ⟨a, rfl⟩))⟩
          have bl := BKS_len W.2.2.2.2.1
          have tl := TBK_len TB M.1.2.1
          have r4 := RL.2.2.2
          have x27 := W.2.1.2.1 27
          have x28 := W.2.1.2.1 28
          have x23 := W.2.1.2.1 23
          rw [e9]
          clear e9 h1
          have l1 := hl
          have c1 := cH
          show xx_go (xt_P z) (d + 93) 0 253 [some (.ref 0), some (.ref (c + 0)), some (.ref (c + 32)), some (.int (iI i))] [.int (iI b1)] (mh h R I A N) _
          refine go_a (pc' := 254) (ls' := [some (.ref 0), some (.ref (c + 0)), some (.ref (c + 32)), some (.int (iI i))]) (st' := []) rfl rfl ?_
          refine go_a (pc' := 255) (ls' := [some (.ref 0), some (.ref (c + 0)), some (.ref (c + 32)), some (.int (iI i))]) (st' := [.ref (c + 32)]) rfl rfl ?_
          refine go_a (pc' := 256) (ls' := [some (.ref 0), some (.ref (c + 0)), some (.ref (c + 32)), some (.int (iI i))]) (st' := [.ref 0, .ref (c + 32)]) rfl rfl ?_
          refine go_a (pc' := 257) (ls' := [some (.ref 0), some (.ref (c + 0)), some (.ref (c + 32)), some (.int (iI i))]) (st' := [.int (iI i), .ref 0, .ref (c + 32)]) rfl rfl ?_
          refine go_a (pc' := 258) (ls' := [some (.ref 0), some (.ref (c + 0)), some (.ref (c + 32)), some (.int (iI i))]) (st' := [.int (iI 1), .int (iI i), .ref 0, .ref (c + 32)]) rfl rfl ?_
          refine mi_add rfl ?_
          refine mi_ild (n := (L).toNat) (f := f) rfl c1 (by omega) (by omega) (by omega) ?_
          have mo : (mh h R I A N)[c + 32]? = some (.inr (13, mfs h.length I)) := by rw [← l1]; exact mh_o
          have mc := mc_count z (d + 92) cc (f (i + 1)) h R I A N (by omega) bk M TB (fR (i + 1)).1 (by have := (fR (i + 1)).2; omega)
          rw [l1] at mc
          refine go_v (m := 76) (as := [.ref (c + 32), .int (iI (f (i + 1)))]) (r := []) rfl rfl rfl mo rfl rfl mc (fun v h2 hq => ?_)
          obtain ⟨hm, e9, M2⟩ := hq
          obtain ⟨b2, rfl, ub⟩ : ∃ b2 : Int, v = some (.int (iI b2)) ∧ (f (i + 1) = 0 ∧ b2 = I 32 ∨ f (i + 1) = 1 ∧ b2 = I 38 ∨ f (i + 1) = 2 ∧ b2 = I 50 ∨ (f (i + 1) ≠ 0 ∧ f (i + 1) ≠ 1 ∧ f (i + 1) ≠ 2) ∧ b2 = -1) := by
            rcases hm with ⟨a, e⟩ | ⟨a, e⟩ | ⟨a, e⟩ | ⟨a, e⟩
            · exact ⟨_, e, Or.inl ⟨a, rfl⟩⟩
            · exact ⟨_, e, Or.inr (Or.inl ⟨a, rfl⟩)⟩
            · exact ⟨_, e, Or.inr (Or.inr (Or.inl ⟨a, rfl⟩))⟩
            · exact ⟨_, e, Or.inr (Or.inr (Or.inr ⟨a, rfl⟩))⟩
          rw [e9]
          show xx_go (xt_P z) (d + 93) 0 263 [some (.ref 0), some (.ref (c + 0)), some (.ref (c + 32)), some (.int (iI i))] [.int (iI b2)] (mh h R I A N) _
          refine go_a (pc' := 264) (ls' := [some (.ref 0), some (.ref (c + 0)), some (.ref (c + 32)), some (.int (iI i))]) (st' := []) rfl rfl ?_
          refine go_a (pc' := 326) (ls' := [some (.ref 0), some (.ref (c + 0)), some (.ref (c + 32)), some (.int (iI i))]) (st' := []) rfl rfl ?_
          exact no _ _ rfl (LW_next hc l1 K1 M2 c1 e13 e47 RL TB VB9)
        · refine go_a (pc' := 267) (ls' := [some (.ref 0), some (.ref (c + 0)), some (.ref (c + 32)), some (.int (iI i))]) (st' := []) rfl rfl ?_
          refine go_a (pc' := 268) (ls' := [some (.ref 0), some (.ref (c + 0)), some (.ref (c + 32)), some (.int (iI i))]) (st' := [.ref (c + 0)]) rfl rfl ?_
          refine go_v (m := 53) (as := [.ref (c + 0)]) (r := []) rfl rfl rfl (W.1.1 0 (by decide)) rfl rfl (kk_size z (d + 90) c cc _ s0 _ s bk K) (fun v h1 hq => ?_)
          obtain ⟨⟨b1, rfl⟩, e9, K1⟩ := hq
          rw [e9]
          clear e9 h1
          have l1 := hl
          have c1 := cH
          show xx_go (xt_P z) (d + 93) 0 271 [some (.ref 0), some (.ref (c + 0)), some (.ref (c + 32)), some (.int (iI i))] [.int (iI b1)] (mh h R I A N) _
          refine go_a (pc' := 272) (ls' := [some (.ref 0), some (.ref (c + 0)), some (.ref (c + 32)), some (.int (iI i))]) (st' := []) rfl rfl ?_
          refine go_a (pc' := 273) (ls' := [some (.ref 0), some (.ref (c + 0)), some (.ref (c + 32)), some (.int (iI i))]) (st' := [.ref (c + 32)]) rfl rfl ?_
          have mo : (mh h R I A N)[c + 32]? = some (.inr (13, mfs h.length I)) := by rw [← l1]; exact mh_o
          have mc := mc_size z (d + 92) cc h R I A N (by omega) bk M TB
          rw [l1] at mc
          refine go_v (m := 77) (as := [.ref (c + 32)]) (r := []) rfl rfl rfl mo rfl rfl mc (fun v h2 hq => ?_)
          obtain ⟨⟨b2, rfl⟩, e9, M2⟩ := hq
          rw [e9]
          show xx_go (xt_P z) (d + 93) 0 276 [some (.ref 0), some (.ref (c + 0)), some (.ref (c + 32)), some (.int (iI i))] [.int (iI b2)] (mh h R I A N) _
          refine go_a (pc' := 277) (ls' := [some (.ref 0), some (.ref (c + 0)), some (.ref (c + 32)), some (.int (iI i))]) (st' := []) rfl rfl ?_
          refine go_a (pc' := 326) (ls' := [some (.ref 0), some (.ref (c + 0)), some (.ref (c + 32)), some (.int (iI i))]) (st' := []) rfl rfl ?_
          exact no _ _ rfl (LW_next hc l1 K1 M2 c1 e13 e47 RL TB VB9)
        · refine go_a (pc' := 280) (ls' := [some (.ref 0), some (.ref (c + 0)), some (.ref (c + 32)), some (.int (iI i))]) (st' := []) rfl rfl ?_
          refine go_a (pc' := 281) (ls' := [some (.ref 0), some (.ref (c + 0)), some (.ref (c + 32)), some (.int (iI i))]) (st' := [.ref (c + 0)]) rfl rfl ?_
          refine go_a (pc' := 282) (ls' := [some (.ref 0), some (.ref (c + 0)), some (.ref (c + 32)), some (.int (iI i))]) (st' := [.ref 0, .ref (c + 0)]) rfl rfl ?_
          refine go_a (pc' := 283) (ls' := [some (.ref 0), some (.ref (c + 0)), some (.ref (c + 32)), some (.int (iI i))]) (st' := [.int (iI i), .ref 0, .ref (c + 0)]) rfl rfl ?_
          refine go_a (pc' := 284) (ls' := [some (.ref 0), some (.ref (c + 0)), some (.ref (c + 32)), some (.int (iI i))]) (st' := [.int (iI 1), .int (iI i), .ref 0, .ref (c + 0)]) rfl rfl ?_
          refine mi_add rfl ?_
          refine mi_ild (n := (L).toNat) (f := f) rfl cH (by omega) (by omega) (by omega) ?_
          refine go_v (m := 55) (as := [.ref (c + 0), .int (iI (f (i + 1)))]) (r := []) rfl rfl rfl (W.1.1 0 (by decide)) rfl rfl (kk_letter z (d + 90) c cc (f (i + 1)) _ s0 _ s bk K (fR (i + 1)).1 (fR (i + 1)).2) (fun v h1 hq => ?_)
          obtain ⟨⟨b1, rfl⟩, e9, K1⟩ := hq
          rw [e9]
          clear e9 h1
          have l1 := hl
          have c1 := cH
          show xx_go (xt_P z) (d + 93) 0 289 [some (.ref 0), some (.ref (c + 0)), some (.ref (c + 32)), some (.int (iI i))] [.int (iI b1)] (mh h R I A N) _
          refine go_a (pc' := 290) (ls' := [some (.ref 0), some (.ref (c + 0)), some (.ref (c + 32)), some (.int (iI i))]) (st' := []) rfl rfl ?_
          refine go_a (pc' := 291) (ls' := [some (.ref 0), some (.ref (c + 0)), some (.ref (c + 32)), some (.int (iI i))]) (st' := [.ref (c + 32)]) rfl rfl ?_
          refine go_a (pc' := 292) (ls' := [some (.ref 0), some (.ref (c + 0)), some (.ref (c + 32)), some (.int (iI i))]) (st' := [.ref 0, .ref (c + 32)]) rfl rfl ?_
          refine go_a (pc' := 293) (ls' := [some (.ref 0), some (.ref (c + 0)), some (.ref (c + 32)), some (.int (iI i))]) (st' := [.int (iI i), .ref 0, .ref (c + 32)]) rfl rfl ?_
          refine go_a (pc' := 294) (ls' := [some (.ref 0), some (.ref (c + 0)), some (.ref (c + 32)), some (.int (iI i))]) (st' := [.int (iI 1), .int (iI i), .ref 0, .ref (c + 32)]) rfl rfl ?_
          refine mi_add rfl ?_
          refine mi_ild (n := (L).toNat) (f := f) rfl c1 (by omega) (by omega) (by omega) ?_
          have mo : (mh h R I A N)[c + 32]? = some (.inr (13, mfs h.length I)) := by rw [← l1]; exact mh_o
          have mc := mc_letter z (d + 92) cc (f (i + 1)) h R I A N (by omega) bk M TB (fR (i + 1)).1 (by have := (fR (i + 1)).2; omega)
          rw [l1] at mc
          refine go_v (m := 78) (as := [.ref (c + 32), .int (iI (f (i + 1)))]) (r := []) rfl rfl rfl mo rfl rfl mc (fun v h2 hq => ?_)
          obtain ⟨⟨b2, rfl⟩, e9, M2⟩ := hq
          rw [e9]
          show xx_go (xt_P z) (d + 93) 0 299 [some (.ref 0), some (.ref (c + 0)), some (.ref (c + 32)), some (.int (iI i))] [.int (iI b2)] (mh h R I A N) _
          refine go_a (pc' := 300) (ls' := [some (.ref 0), some (.ref (c + 0)), some (.ref (c + 32)), some (.int (iI i))]) (st' := []) rfl rfl ?_
          refine go_a (pc' := 326) (ls' := [some (.ref 0), some (.ref (c + 0)), some (.ref (c + 32)), some (.int (iI i))]) (st' := []) rfl rfl ?_
          exact no _ _ rfl (LW_next hc l1 K1 M2 c1 e13 e47 RL TB VB9)
        · refine go_a (pc' := 303) (ls' := [some (.ref 0), some (.ref (c + 0)), some (.ref (c + 32)), some (.int (iI i))]) (st' := []) rfl rfl ?_
          refine go_a (pc' := 304) (ls' := [some (.ref 0), some (.ref (c + 0)), some (.ref (c + 32)), some (.int (iI i))]) (st' := [.ref (c + 0)]) rfl rfl ?_
          refine go_a (pc' := 305) (ls' := [some (.ref 0), some (.ref (c + 0)), some (.ref (c + 32)), some (.int (iI i))]) (st' := [.ref 0, .ref (c + 0)]) rfl rfl ?_
          refine go_a (pc' := 306) (ls' := [some (.ref 0), some (.ref (c + 0)), some (.ref (c + 32)), some (.int (iI i))]) (st' := [.int (iI i), .ref 0, .ref (c + 0)]) rfl rfl ?_
          refine go_a (pc' := 307) (ls' := [some (.ref 0), some (.ref (c + 0)), some (.ref (c + 32)), some (.int (iI i))]) (st' := [.int (iI 1), .int (iI i), .ref 0, .ref (c + 0)]) rfl rfl ?_
          refine mi_add rfl ?_
          refine mi_ild (n := (L).toNat) (f := f) rfl cH (by omega) (by omega) (by omega) ?_
          refine go_v (m := 57) (as := [.ref (c + 0), .int (iI (f (i + 1)))]) (r := []) rfl rfl rfl (W.1.1 0 (by decide)) rfl rfl (kk_tellX z hz (d + 80) c cc (f (i + 1)) _ s0 _ s bk K hc5 (fR (i + 1)).1 (fR (i + 1)).2) (fun v h1 hq => ?_)
          obtain ⟨b1, s1, rfl, K1, a2, km, a12, ta⟩ := hq
          obtain ⟨g1, R1, eH, l1, c1⟩ := LW_half rfl hl K1 cH
          rw [eH] at K1 c1
          rw [eH]
          clear eH
          show xx_go (xt_P z) (d + 93) 0 312 [some (.ref 0), some (.ref (c + 0)), some (.ref (c + 32)), some (.int (iI i))] [.int (iI b1)] (mh g1 R1 I A N) _
          refine go_a (pc' := 313) (ls' := [some (.ref 0), some (.ref (c + 0)), some (.ref (c + 32)), some (.int (iI i))]) (st' := [.ref (c + 32), .int (iI b1)]) rfl rfl ?_
          refine go_a (pc' := 314) (ls' := [some (.ref 0), some (.ref (c + 0)), some (.ref (c + 32)), some (.int (iI i))]) (st' := [.ref 0, .ref (c + 32), .int (iI b1)]) rfl rfl ?_
          refine go_a (pc' := 315) (ls' := [some (.ref 0), some (.ref (c + 0)), some (.ref (c + 32)), some (.int (iI i))]) (st' := [.int (iI i), .ref 0, .ref (c + 32), .int (iI b1)]) rfl rfl ?_
          refine go_a (pc' := 316) (ls' := [some (.ref 0), some (.ref (c + 0)), some (.ref (c + 32)), some (.int (iI i))]) (st' := [.int (iI 1), .int (iI i), .ref 0, .ref (c + 32), .int (iI b1)]) rfl rfl ?_
          refine mi_add rfl ?_
          refine mi_ild (n := (L).toNat) (f := f) rfl c1 (by omega) (by omega) (by omega) ?_
          have mo : (mh g1 R1 I A N)[c + 32]? = some (.inr (13, mfs g1.length I)) := by rw [← l1]; exact mh_o
          have mc := mc_tellX z (d + 86) cc (f (i + 1)) g1 R1 I A N (by omega) bk M TB hc5 (fR (i + 1)).1 (by have := (fR (i + 1)).2; omega)
          rw [l1] at mc
          refine go_v (m := 79) (as := [.ref (c + 32), .int (iI (f (i + 1)))]) (r := [.int (iI b1)]) rfl rfl rfl mo rfl rfl mc (fun v h2 hq => ?_)
          obtain ⟨b2, I2, A2, rfl, rfl, M2, m13, m47, ⟨T2, m48, m50⟩, a10, a11, tb9⟩ := hq
          have eb := TL_eq VB9 ta tb9
          have rb := TL_R ta
          show xx_go (xt_P z) (d + 93) 0 321 [some (.ref 0), some (.ref (c + 0)), some (.ref (c + 32)), some (.int (iI i))] [.int (iI b2), .int (iI b1)] (mh g1 R1 I2 A2 N) _
          refine mi_eq (t := 326) rfl rfl (by omega) (by omega) (by omega) (by omega) (fun _ => ?_) (fun w => absurd (show b1 = b2 by omega) w)
          exact no _ _ rfl (LW_next hc l1 K1 M2 c1 ((km.1.trans e13).trans m13.symm) ((a2.trans e47).trans m47.symm) (REL_k RL e13 km a12 m13 m48 m50 a10 a11) T2 VB9)

