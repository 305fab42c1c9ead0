def WZ (A : Nat → Int → Int) : Prop := ∀ e : Int, 0 ≤ e → e < 20 → A 10 e = 0
def MIC (c : Int) (I : Nat → Int) (A : Nat → Int → Int) (N : Int → Int) : Prop := IDL I A N ∧ ∃ w : Int, (w = 0 ∧ WZ A ∨ w = 1) ∧ 2 * I 7 + 5 * NZ (A 11) (I 13).toNat + 50 * w ≤ 88 + 50 * c ∧ 2 * I 10 + NZ (A 11) (I 13).toNat + 10 * w ≤ 88 + 10 * c
section MICS
variable {c : Int} {I I1 : Nat → Int} {A A1 : Nat → Int → Int} {N N1 : Int → Int}
theorem MIC_same (h : MIC c I A N) (hi : IDL I1 A1 N1) (e7 : I1 7 ≤ I 7) (e10 : I1 10 ≤ I 10) (e13 : I1 13 = I 13) (a11 : A1 11 = A 11) (a10 : A1 10 = A 10) : MIC (c + 1) I1 A1 N1 := by
  obtain ⟨-, w, hw, p, q⟩ := h
  refine ⟨hi, w, ?_, ?_, ?_⟩
  · unfold WZ
    rw [a10]
    exact hw
  · rw [a11, e13]
    omega
  · rw [a11, e13]
    omega
theorem TBK_fr {bk : List sp_Th} (h : TBK bk I A N) (hI : IDL I A N) (e7 : I1 7 = I 7) (e41 : I1 41 = I 41) (h1 : A1 1 = A 1) (h2 : A1 2 = A 2) (h8 : A1 8 = A 8) (h9 : A1 9 = A 9) (ga : ∀ a : Nat, 20 ≤ a → a ≤ 28 → A1 a = A a) : TBK bk I1 A1 N := by
  have n7 := hI.1.2.1.1
  obtain ⟨T, dm⟩ := TRX_px (I1 := I1) (A1 := A1) (N1 := N) hI.1.1 h.1 (by omega) (by omega) (fun k _ _ => ⟨congrFun h1 k, congrFun h2 k, rfl⟩) h8 h9
  exact TBK_same h hI.2.1 T e41 (fun k a b => dm k a (by omega)) ga
end MICS
theorem mc_feed (z : Value) (d : Nat) (c x1 x2 x3 x4 x5 : Int) (h R : xx_H) (I : Nat → Int) (A : Nat → Int → Int) (N : Int → Int) (hc : 12 ≤ h.length) (bk : List sp_Th) (hI : MIC c I A N) (hT : TBK bk I A N) (q1 : -2147483648 ≤ x1 ∧ x1 ≤ 2147483647) (q2 : -2147483648 ≤ x2 ∧ x2 ≤ 2147483647) (q3 : -2147483648 ≤ x3 ∧ x3 ≤ 2147483647) (q4 : -2147483648 ≤ x4 ∧ x4 ≤ 2147483647) (q5 : -2147483648 ≤ x5 ∧ x5 ≤ 2147483647) : xx_cl (xt_P z) (d + 1) 66 [.ref h.length, .int (iI x1), .int (iI x2), .int (iI x3), .int (iI x4), .int (iI x5)] (mh h R I A N) (fun v h1 => v = none ∧ ∃ A1 : Nat → Int → Int, h1 = mh h R I A1 N ∧ MIC (c + 1) I A1 N ∧ TBK bk I A1 N ∧ A1 11 = A 11 ∧ FIV x1 x2 x3 x4 x5 (A1 10) 4) := by
  refine cl_w (fun v h1 hq => ?_) (mm_feedX z d x1 x2 x3 x4 x5 h R I A N hc q1 q2 q3 q4 q5 hI.1.2.2.2.1)
  obtain ⟨rfl, g, rfl, hg, hf⟩ := hq
  have K := TBK_fr (I1 := I) (A1 := sw A 10 g) hT hI.1 rfl rfl rfl rfl rfl rfl (fun a p q => by unfold sw; cases hb : Nat.beq a 10 with | true => exact absurd (Nat.eq_of_beq_eq_true hb) (by omega) | false => rfl)
  obtain ⟨⟨⟨S, M, Z⟩, tk, v, b10, b11, b13⟩, w, hw, p, q⟩ := hI
  refine ⟨rfl, sw A 10 g, rfl, ⟨⟨⟨S, M, SZI_124 (I := I) (A := A) Z rfl rfl rfl rfl⟩, ?_, v, hg, b11, b13⟩, 1, Or.inr rfl, ?_, ?_⟩, K, rfl, hf⟩
  · exact TKN_gen tk (MST_PW S) (by rw [M.2 0 (by decide) (by decide)]; decide) tk.1 (Int.le_refl _) rfl tk.2.1 (fun _ _ _ => rfl) (fun _ _ _ => rfl) LIM_T.symm tk.2.2.1.1 tk.2.2.1.2 OX_rf RX2_rf RX3_rf
  · show 2 * I 7 + 5 * NZ (A 11) (I 13).toNat + 50 * 1 ≤ _
    omega
  · show 2 * I 10 + NZ (A 11) (I 13).toNat + 10 * 1 ≤ _
    omega
theorem mc_end (z : Value) (d : Nat) (c n : Int) (h R : xx_H) (I : Nat → Int) (A : Nat → Int → Int) (N : Int → Int) (hc : 12 ≤ h.length) (bk : List sp_Th) (hI : MIC c I A N) (hT : TBK bk I A N) (n0 : -2147483648 ≤ n) (n1 : n < 2147483648) : xx_cl (xt_P z) (d + 1) 67 [.ref h.length, .int (iI n)] (mh h R I A N) (fun v h1 => ∃ (I1 : Nat → Int) (A1 : Nat → Int → Int), h1 = mh h R I1 A1 N ∧ MIC (c + 1) I1 A1 N ∧ I1 47 = I 47 ∧ (TBK bk I1 A1 N ∧ I1 48 = I 48 ∧ I1 50 = I 50) ∧ ((v = some (.int (iI (-1))) ∧ I1 13 = I 13 ∧ ¬ (0 ≤ n ∧ n ≤ 20 ∧ I 13 + n ≤ 3000) ∧ A1 = A) ∨ (v = some (.int (iI (I 13 + n))) ∧ I1 13 = I 13 + n ∧ (0 ≤ n ∧ n ≤ 20 ∧ I 13 + n ≤ 3000) ∧ WZ A1 ∧ (∀ e : Int, 0 ≤ e → e < n → A1 11 (I 13 + e) = A 10 e) ∧ ∀ e : Int, e < I 13 → A1 11 e = A 11 e))) := by
  have v13 := hI.1.2.2.1.2.2.2.2.2.2
  refine cl_w (fun v h1 hq => ?_) (mm_end z d n h R I A N hc n0 n1 v13.1 v13.2)
  rcases hq with ⟨rfl, rfl, hn⟩ | ⟨rfl, hn, A2, rfl, y1, y2, y3, y4, y5⟩
  · refine ⟨I, A, rfl, ?_, rfl, ⟨hT, rfl, rfl⟩, Or.inl ⟨rfl, rfl, hn, rfl⟩⟩
    exact MIC_same hI hI.1 (Int.le_refl _) (Int.le_refl _) rfl rfl rfl
  · have hI0 := hI.1
    obtain ⟨⟨⟨S, M, Z⟩, tk, v, b10, b11, b13⟩, w, hw, p, q⟩ := hI
    have e1 := y4 1 (by decide) (by decide)
    have e2 := y4 2 (by decide) (by decide)
    have e4 := y4 4 (by decide) (by decide)
    have ga : ∀ a : Nat, 20 ≤ a → a ≤ 28 → A2 a = A a := fun a p q => y4 a (by omega) (by omega)
    have S2 : MST (su I 13 (I 13 + n)) A2 N := MST_congr S rfl rfl e1 e2 (y4 3 (by decide) (by decide)) e4 (y4 5 (by decide) (by decide)) (y4 7 (by decide) (by decide)) (y4 8 (by decide) (by decide)) (y4 9 (by decide) (by decide))
    have D : IDL (su I 13 (I 13 + n)) A2 N := by
      refine ⟨⟨S2, by unfold NM; rw [e1]; exact M, SZI_124 (I := I) (A := A) Z e1 e2 e4 rfl⟩, TKN_gen tk (MST_PW S) (by rw [M.2 0 (by decide) (by decide)]; decide) tk.1 (Int.le_refl _) rfl (by rw [ga 27 (by decide) (by decide)]; exact tk.2.1) (fun e _ _ => by rw [ga 27 (by decide) (by decide)]) (fun e _ _ => by rw [ga 28 (by decide) (by decide)]) LIM_T.symm tk.2.2.1.1 tk.2.2.1.2 (fun k _ _ => by rw [e1, e2, e4]; exact ⟨rfl, rfl, id⟩) (fun e _ _ => ?_) (fun e _ _ => ?_), ⟨v.1, v.2.1, v.2.2.1, v.2.2.2.1, v.2.2.2.2.1, v.2.2.2.2.2.1, (show 0 ≤ I 13 + n ∧ I 13 + n ≤ 3000 by omega)⟩, fun e => ?_, fun e => ?_, by rw [y4 13 (by decide) (by decide)]; exact b13⟩
      · rw [ga 20 (by decide) (by decide), ga 21 (by decide) (by decide), ga 22 (by decide) (by decide), ga 23 (by decide) (by decide), ga 24 (by decide) (by decide)]
        exact ⟨rfl, rfl, fun _ _ _ => rfl, rfl, rfl⟩
      · rw [ga 25 (by decide) (by decide), ga 26 (by decide) (by decide)]
        exact ⟨rfl, rfl⟩
      · rcases y5 e with y | y
        · rw [y]
          decide
        · rw [y]
          exact b10 e
      · by_cases c1 : e < I 13 ∨ I 13 + n ≤ e
        · rw [y3 e c1]
          exact b11 e
        · have q := y2 (e - I 13) (by omega) (by omega)
          rw [show I 13 + (e - I 13) = e by omega] at q
          rw [q]
          exact b10 _
    have ez : NZ (A2 11) (I 13).toNat = NZ (A 11) (I 13).toNat := NZ_ext _ (fun k a b => y3 k (by omega))
    have em : NZ (A2 11) (I 13 + n).toNat ≤ NZ (A 11) (I 13).toNat + n := by
      have r := NZ_more (f := A2 11) n.toNat (I 13).toNat
      rw [show (I 13 + n).toNat = (I 13).toNat + n.toNat by omega]
      omega
    have e0 : WZ A → NZ (A2 11) (I 13 + n).toNat = NZ (A 11) (I 13).toNat := fun wz => by
      rw [show (I 13 + n).toNat = (I 13).toNat + n.toNat by omega, NZ_zero n.toNat (I 13).toNat (fun k a b => ?_), ez]
      have q := y2 (k - I 13) (by omega) (by omega)
      rw [show I 13 + (k - I 13) = k by omega] at q
      rw [q]
      exact wz _ (by omega) (by omega)
    have K := TBK_fr (I1 := su I 13 (I 13 + n)) (A1 := A2) hT hI0 rfl rfl e1 e2 (y4 8 (by decide) (by decide)) (y4 9 (by decide) (by decide)) ga
    refine ⟨su I 13 (I 13 + n), A2, rfl, ⟨D, 0, Or.inl ⟨rfl, y1⟩, ?_, ?_⟩, rfl, ⟨K, rfl, rfl⟩, Or.inr ⟨rfl, rfl, hn, y1, y2, fun e q => y3 e (Or.inl q)⟩⟩
    · show 2 * I 7 + 5 * NZ (A2 11) (I 13 + n).toNat + 50 * 0 ≤ _
      rcases hw with ⟨hw, wz⟩ | hw
      · rw [e0 wz]
        omega
      · omega
    · show 2 * I 10 + NZ (A2 11) (I 13 + n).toNat + 10 * 0 ≤ _
      rcases hw with ⟨hw, wz⟩ | hw
      · rw [e0 wz]
        omega
      · omega
theorem mc_fuel (z : Value) (d : Nat) (c n : Int) (h R : xx_H) (I : Nat → Int) (A : Nat → Int → Int) (N : Int → Int) (hc : 12 ≤ h.length) (bk : List sp_Th) (hI : MIC c I A N) (hT : TBK bk I A N) (n0 : -2147483648 ≤ n) (n1 : n < 2147483648) : xx_cl (xt_P z) (d + 1) 68 [.ref h.length, .int (iI n)] (mh h R I A N) (fun v h1 => ∃ I1 : Nat → Int, h1 = mh h R I1 A N ∧ MIC (c + 1) I1 A N ∧ I1 13 = I 13 ∧ (TBK bk I1 A N ∧ I1 48 = I 48 ∧ I1 50 = I 50) ∧ ((v = some (.int (iI (-1))) ∧ I1 47 = I 47 ∧ ¬ (1 ≤ n ∧ n ≤ 1000)) ∨ (v = some (.int (iI (I 47))) ∧ I1 47 = n ∧ (1 ≤ n ∧ n ≤ 1000)))) := by
  refine cl_w (fun v h1 hq => ?_) (mm_fuel z d n h R I A N hc n0 n1)
  rcases hq with ⟨rfl, rfl, hn⟩ | ⟨rfl, rfl, hn⟩
  · exact ⟨I, rfl, MIC_same hI hI.1 (Int.le_refl _) (Int.le_refl _) rfl rfl rfl, rfl, ⟨hT, rfl, rfl⟩, Or.inl ⟨rfl, rfl, hn⟩⟩
  · have K := TBK_fr (I1 := su I 47 n) (A1 := A) hT hI.1 rfl rfl rfl rfl rfl rfl (fun _ _ _ => rfl)
    obtain ⟨⟨⟨S, M, Z⟩, tk, v, b10, b11, b13⟩, w, hw, p, q⟩ := hI
    refine ⟨su I 47 n, rfl, ⟨⟨⟨S, M, SZI_124 (I := I) (A := A) Z rfl rfl rfl rfl⟩, ?_, ⟨v.1, v.2.1, hn, v.2.2.2.1, v.2.2.2.2.1, v.2.2.2.2.2.1, v.2.2.2.2.2.2⟩, b10, b11, b13⟩, w, hw, ?_, ?_⟩, rfl, ⟨K, rfl, rfl⟩, Or.inr ⟨rfl, rfl, hn⟩⟩
    · exact TKN_gen tk (MST_PW S) (by rw [M.2 0 (by decide) (by decide)]; decide) tk.1 (Int.le_refl _) rfl tk.2.1 (fun _ _ _ => rfl) (fun _ _ _ => rfl) LIM_T.symm tk.2.2.1.1 tk.2.2.1.2 OX_rf RX2_rf RX3_rf
    · show 2 * I 7 + 5 * NZ (A 11) (I 13).toNat + 50 * w ≤ _
      omega
    · show 2 * I 10 + NZ (A 11) (I 13).toNat + 10 * w ≤ _
      omega
theorem mc_run (z : Value) (d : Nat) (c : Int) (h R : xx_H) (I : Nat → Int) (A : Nat → Int → Int) (N : Int → Int) (hc : 12 ≤ h.length) (bk : List sp_Th) (hI : MIC c I A N) (hT : TBK bk I A N) (hc2 : c ≤ 512) : xx_cl (xt_P z) (d + 18) 69 [.ref h.length] (mh h R I A N) (fun v h1 => ∃ (b : Int) (I1 : Nat → Int) (A1 : Nat → Int → Int) (N1 : Int → Int), v = some (.int (iI b)) ∧ h1 = mh h R I1 A1 N1 ∧ MIC (c + 1) I1 A1 N1 ∧ I1 13 = 0 ∧ I1 47 = I 47 ∧ A1 10 = A 10 ∧ ∃ bk1 : List sp_Th, TBK bk1 I1 A1 N1 ∧ ((bk1, I1 50), I1 48) = sp_run bk (I 50) (I 47) (sp_RD (A 11) (I 13))) := by
  obtain ⟨D, w, hw, p, q⟩ := hI
  have nz := NZ_nn (f := A 11) (I 13).toNat
  refine cl_w (fun v h1 hq => ?_) (mm_run z d bk h R I A N hc D hT (by omega) (by omega))
  obtain ⟨b, I1, A1, N1, rfl, rfl, D1, hb, e13, e47, a10, c7, c10, K⟩ := hq
  have n1 : NZ (A1 11) (I1 13).toNat = 0 := by rw [e13]; rfl
  refine ⟨b, I1, A1, N1, rfl, rfl, ⟨D1, w, ?_, ?_, ?_⟩, e13, e47, a10, K⟩
  · unfold WZ
    rw [a10]
    exact hw
  · rw [n1]
    omega
  · rw [n1]
    omega
theorem mc_tell (z : Value) (d : Nat) (c x : Int) (h R : xx_H) (I : Nat → Int) (A : Nat → Int → Int) (N : Int → Int) (hc : 12 ≤ h.length) (bk : List sp_Th) (hI : MIC c I A N) (hT : TBK bk I A N) (hc2 : c ≤ 512) (x0 : -2147483648 ≤ x) (x1 : x < 2147483648) : xx_cl (xt_P z) (d + 7) 79 [.ref h.length, .int (iI x)] (mh h R I A N) (fun v h1 => ∃ (b : Int) (I1 : Nat → Int) (A1 : Nat → Int → Int), v = some (.int (iI b)) ∧ h1 = mh h R I1 A1 N ∧ MIC (c + 1) I1 A1 N ∧ I1 13 = I 13 ∧ I1 47 = I 47 ∧ (TBK bk I1 A1 N ∧ I1 48 = I 48 ∧ I1 50 = I 50) ∧ A1 10 = A 10 ∧ A1 11 = A 11) := by
  have h0 := hI
  obtain ⟨D, w, hw, p, q⟩ := hI
  have nz := NZ_nn (f := A 11) (I 13).toNat
  have tk := D.2.1
  have nm := D.1.2.1.1
  have hS := D.1.1
  have v := D.2.2.1
  refine cl_w (fun v h1 hq => ?_) (mm_tellX z d x h R I A N hc hS (by omega) (by omega) (TKN_TLI tk) x0 x1)
  rcases hq with ⟨rfl, rfl⟩ | ⟨I1, A1, rfl, rfl, X, e7, e10, e15, z4, k8⟩
  · exact ⟨-1, I, A, rfl, rfl, MIC_same h0 D (Int.le_refl _) (Int.le_refl _) rfl rfl rfl, rfl, rfl, ⟨hT, rfl, rfl⟩, rfl, rfl⟩
  · have fj : ∀ j : Nat, j ≠ 7 → j ≠ 10 → j ≠ 15 → j ≠ 19 → I1 j = I j := fun j a b c d => X.2.2.2.1 j a (by unfold FTL; omega)
    have ga : ∀ a : Nat, a = 10 ∨ a = 11 ∨ a = 13 ∨ (20 ≤ a ∧ a ≤ 28) → A1 a = A a := fun a p => X.2.2.2.2 a (by omega) (by omega) (by omega) (by omega) (by omega) (by omega) (by unfold GTL; omega)
    have f41 : I1 41 = I 41 := fj 41 (by decide) (by decide) (by decide) (by decide)
    have f32 : I1 32 = I 32 := fj 32 (by decide) (by decide) (by decide) (by decide)
    have f38 : I1 38 = I 38 := fj 38 (by decide) (by decide) (by decide) (by decide)
    have f44 : I1 44 = I 44 := fj 44 (by decide) (by decide) (by decide) (by decide)
    have f45 : I1 45 = I 45 := fj 45 (by decide) (by decide) (by decide) (by decide)
    have f54 : I1 54 = I 54 := fj 54 (by decide) (by decide) (by decide) (by decide)
    have f56 : I1 56 = I 56 := fj 56 (by decide) (by decide) (by decide) (by decide)
    have f47 : I1 47 = I 47 := fj 47 (by decide) (by decide) (by decide) (by decide)
    have f50 : I1 50 = I 50 := fj 50 (by decide) (by decide) (by decide) (by decide)
    have f49 : I1 49 = I 49 := fj 49 (by decide) (by decide) (by decide) (by decide)
    have f13 : I1 13 = I 13 := fj 13 (by decide) (by decide) (by decide) (by decide)
    have f48 : I1 48 = I 48 := fj 48 (by decide) (by decide) (by decide) (by decide)
    have D1 := IDL_back (T := I 41) (I3 := I1) (A3 := A1) (N2 := N) D tk.1 (Int.le_refl _) X.1 (SZI_pre (MST_PW hS) D.1.2.2 e7 (fun k a b => ⟨(X.2.2.1 k a b).1, (X.2.2.1 k a b).2.1, z4 k a b⟩)) (by rw [LIM_T]; exact e7) f41 (by rw [f32]; exact tk.2.2.1.1) (by rw [f38]; exact tk.2.2.1.2) (fun k a b => ⟨(X.2.2.1 k a b).1, (X.2.2.1 k a b).2.1, (X.2.2.1 k a b).2.2.2⟩) (fun a p q => ga a (by omega)) (by omega) (by omega) (by omega) f47 e15 (by omega) (by omega) (by omega) (ga 10 (by omega)) (ga 11 (by omega)) (by rw [ga 13 (by omega)]; exact D.2.2.2.2.2)
    obtain ⟨T9, dm9⟩ := TRX_px (I1 := I1) (A1 := A1) (N1 := N) hS hT.1 (by omega) (by omega) (fun k a b => ⟨(X.2.2.1 k a (by omega)).1, (X.2.2.1 k a (by omega)).2.1, rfl⟩) k8.1 k8.2
    exact ⟨I1 15, I1, A1, rfl, rfl, MIC_same h0 D1 (by omega) e10 f13 (ga 11 (by omega)) (ga 10 (by omega)), f13, f47, ⟨TBK_same hT tk T9 f41 (fun k a b => dm9 k a (by omega)) (fun a p q => ga a (by omega)), f48, f50⟩, ga 10 (by omega), ga 11 (by omega)⟩
theorem mc_fault (z : Value) (d : Nat) (c : Int) (n : Int) (h R : xx_H) (I : Nat → Int) (A : Nat → Int → Int) (N : Int → Int) (hc : 12 ≤ h.length) (bk : List sp_Th) (hI : MIC c I A N) (hT : TBK bk I A N) (n0 : -2147483648 ≤ n) (n1 : n < 2147483648) : xx_cl (xt_P z) (d + 1) 74 [.ref h.length, .int (iI n)] (mh h R I A N) (fun v h1 => (∃ b : Int, v = some (.int (iI b))) ∧ h1 = mh h R I A N ∧ MIC (c + 1) I A N) := by
  refine cl_w (fun v h1 hq => ?_) (mm_fault z d n h R I A N hc n0 n1)
  obtain ⟨hv, rfl⟩ := hq
  refine ⟨?_, rfl, MIC_same hI hI.1 (Int.le_refl _) (Int.le_refl _) rfl rfl rfl⟩
  rcases hv with ⟨-, hv⟩ | ⟨-, hv⟩ | ⟨-, hv⟩ | ⟨-, hv⟩
  · exact ⟨_, hv⟩
  · exact ⟨_, hv⟩
  · exact ⟨_, hv⟩
  · exact ⟨_, hv⟩
theorem mc_steps (z : Value) (d : Nat) (c : Int) (h R : xx_H) (I : Nat → Int) (A : Nat → Int → Int) (N : Int → Int) (hc : 12 ≤ h.length) (bk : List sp_Th) (hI : MIC c I A N) (hT : TBK bk I A N) : xx_cl (xt_P z) (d + 1) 75 [.ref h.length] (mh h R I A N) (fun v h1 => (v = some (.int (iI (I 48)))) ∧ h1 = mh h R I A N ∧ MIC (c + 1) I A N) := by
  refine cl_w (fun v h1 hq => ?_) (mm_steps z d h R I A N hc)
  obtain ⟨hv, rfl⟩ := hq
  refine ⟨?_, rfl, MIC_same hI hI.1 (Int.le_refl _) (Int.le_refl _) rfl rfl rfl⟩
  exact hv
theorem mc_count (z : Value) (d : Nat) (c : Int) (n : Int) (h R : xx_H) (I : Nat → Int) (A : Nat → Int → Int) (N : Int → Int) (hc : 12 ≤ h.length) (bk : List sp_Th) (hI : MIC c I A N) (hT : TBK bk I A N) (n0 : -2147483648 ≤ n) (n1 : n < 2147483648) : xx_cl (xt_P z) (d + 1) 76 [.ref h.length, .int (iI n)] (mh h R I A N) (fun v h1 => ((n = 0 ∧ v = some (.int (iI (I 32))) ∨ n = 1 ∧ v = some (.int (iI (I 38))) ∨ n = 2 ∧ v = some (.int (iI (I 50))) ∨ (n ≠ 0 ∧ n ≠ 1 ∧ n ≠ 2) ∧ v = some (.int (iI (-1))))) ∧ h1 = mh h R I A N ∧ MIC (c + 1) I A N) := by
  refine cl_w (fun v h1 hq => ?_) (mm_count z d n h R I A N hc n0 n1)
  obtain ⟨hv, rfl⟩ := hq
  refine ⟨?_, rfl, MIC_same hI hI.1 (Int.le_refl _) (Int.le_refl _) rfl rfl rfl⟩
  exact hv
theorem mc_size (z : Value) (d : Nat) (c : Int) (h R : xx_H) (I : Nat → Int) (A : Nat → Int → Int) (N : Int → Int) (hc : 12 ≤ h.length) (bk : List sp_Th) (hI : MIC c I A N) (hT : TBK bk I A N) : xx_cl (xt_P z) (d + 1) 77 [.ref h.length] (mh h R I A N) (fun v h1 => (∃ b : Int, v = some (.int (iI b))) ∧ h1 = mh h R I A N ∧ MIC (c + 1) I A N) := by
  refine cl_w (fun v h1 hq => ?_) (mm_size z d h R I A N hc)
  obtain ⟨hv, rfl⟩ := hq
  refine ⟨?_, rfl, MIC_same hI hI.1 (Int.le_refl _) (Int.le_refl _) rfl rfl rfl⟩
  exact ⟨_, hv⟩
theorem mc_letter (z : Value) (d : Nat) (c : Int) (n : Int) (h R : xx_H) (I : Nat → Int) (A : Nat → Int → Int) (N : Int → Int) (hc : 12 ≤ h.length) (bk : List sp_Th) (hI : MIC c I A N) (hT : TBK bk I A N) (n0 : -2147483648 ≤ n) (n1 : n < 2147483648) : xx_cl (xt_P z) (d + 1) 78 [.ref h.length, .int (iI n)] (mh h R I A N) (fun v h1 => (∃ b : Int, v = some (.int (iI b))) ∧ h1 = mh h R I A N ∧ MIC (c + 1) I A N) := by
  refine cl_w (fun v h1 hq => ?_) (mm_letter z d n h R I A N hc n0 n1 hI.1.2.2.1.2.2.2.1.1 hI.1.2.2.1.2.2.2.1.2)
  obtain ⟨hv, rfl⟩ := hq
  refine ⟨?_, rfl, MIC_same hI hI.1 (Int.le_refl _) (Int.le_refl _) rfl rfl rfl⟩
  rcases hv with ⟨-, hv⟩ | ⟨-, hv⟩
  · exact ⟨_, hv⟩
  · exact ⟨_, hv⟩

