theorem sp_sk_nz (f : Int → Int) (m : Nat) (p : Int) : sp_sk f m p 0 = p ∨ f p ≠ 0 := by
  match m with
  | 0 => exact Or.inl rfl
  | m + 1 =>
    rw [sp_sk_s]
    by_cases a : f p = 0
    · rw [if_neg (by omega), if_neg (by omega), if_neg (by omega)]
      exact Or.inl rfl
    · exact Or.inr a
theorem mx_skipP (z : Value) (d : Nat) (h R : xx_H) (I : Nat → Int) (A : Nat → Int → Int) (N : Int → Int) (hc : 12 ≤ h.length) (t0 : 0 ≤ I 13) (t1 : I 13 ≤ 3000) (rt11 : ∀ e : Int, 0 ≤ A 11 e ∧ A 11 e ≤ 255) (a0 : 0 ≤ I 20) (a1 : I 20 ≤ I 13) : xx_cl (xt_P z) (d + 1) 71 [.ref h.length] (mh h R I A N) (fun v h1 => v = none ∧ ∃ p : Int, h1 = mh h R (su I 20 p) A N ∧ I 20 ≤ p ∧ p ≤ I 13 ∧ (True ∧ (p = I 20 ∨ A 11 (I 20) ≠ 0)) ∧ p = sp_sk (A 11) (I 13 - I 20).toNat (I 20) 0) := by
  refine cl_w (fun v h1 hq => ?_) (mx_skip z d h R I A N hc t0 t1 rt11 a0 a1)
  have r := sp_sk_R (A 11) (I 13 - I 20).toNat (I 20) 0
  exact ⟨hq.1, _, hq.2, r.1, by omega, ⟨trivial, sp_sk_nz _ _ _⟩, rfl⟩
theorem sp_rd_e {f : Int → Int} {n p w : Int} {m : Nat} {F : sp_F} (h : n ≤ p) : sp_rd f n (m + 1) p w F = sp_end F := by
  rw [sp_rd_s, if_pos h]
theorem sp_rd_b {f : Int → Int} {n p w : Int} {m : Nat} {F : sp_F} (h : p < n) (nb : ∀ x : Int × ob_T, sp_wt f n p = some x → ¬ sp_ok w x.1 F) : sp_rd f n (m + 1) p w F = none := by
  rw [sp_rd_s, if_neg (by omega)]
  match e : sp_wt f n p with
  | none => rfl
  | some x => exact if_neg (nb x e)
theorem sp_rd_g {f : Int → Int} {n p w : Int} {m : Nat} {F : sp_F} {x : Int × ob_T} (h : p < n) (e : sp_wt f n p = some x) (ok : sp_ok w x.1 F) : sp_rd f n (m + 1) p w F = sp_rd f n m (sp_sk f (n - sp_wd f n p).toNat (sp_wd f n p) 0) (w + 1) (sp_acc x.1 x.2 F) := by
  rw [sp_rd_s, if_neg (by omega), e]
  exact if_pos ok
def XL (w : Int) (I : Nat → Int) (A : Nat → Int → Int) (N : Int → Int) (I1 : Nat → Int) (A1 : Nat → Int → Int) (N1 : Int → Int) : Prop := MXB I A N I1 A1 N1 ∧ ((I1 21 ≠ 0 ∧ sp_RD (A 11) (I 13) = none) ∨ (I1 21 = 0 ∧ ∃ (F : sp_F) (m : Nat), RRm I1 A1 N1 F (I1 27) (I1 29) ∧ WFr F ∧ WFs F ∧ (I 13 - I1 20).toNat ≤ m ∧ sp_RD (A 11) (I 13) = sp_rd (A 11) (I 13) (m + 1) (I1 20) w F))
section XLS
variable {I I1 I2 : Nat → Int} {A A1 A2 : Nat → Int → Int} {N N1 N2 : Int → Int} {w : Int}
theorem XL_0 (x : XL w I A N I1 A1 N1) (h : I1 21 ≠ 0) : sp_RD (A 11) (I 13) = none := by
  rcases x.2 with q | q
  · exact q.2
  · exact absurd q.1 h
theorem XL_f (x : XL w I A N I1 A1 N1) (h : I1 21 = 0) : ∃ (F : sp_F) (m : Nat), RRm I1 A1 N1 F (I1 27) (I1 29) ∧ WFr F ∧ WFs F ∧ (I 13 - I1 20).toNat ≤ m ∧ sp_RD (A 11) (I 13) = sp_rd (A 11) (I 13) (m + 1) (I1 20) w F := by
  rcases x.2 with q | q
  · exact absurd h q.1
  · exact q.2
theorem XL_no (x : XL w I A N I1 A1 N1) (h : I1 21 = 0) (e : I1 20 = I 13) (n : I1 31 ≠ 1) : sp_RD (A 11) (I 13) = none := by
  obtain ⟨F, m, r, wf, ws, hm, q⟩ := XL_f x h
  rw [q, sp_rd_e (by omega)]
  match F, r with
  | [], r => exact absurd r id
  | [(k, l)], r =>
    rcases r.2.2 with a | a
    · rw [a.1]
      rfl
    · exact absurd a.2.1 n
  | (k, l) :: f :: r9, _ => exact sp_end_n wf (List.cons_ne_nil _ _) (fun e => by have e9 := (wf.1.2.2.2.2.1 e).2; cases e9)
theorem XL_ye (x : XL w I A N I1 A1 N1) (h : I1 21 = 0) (e : I1 20 = I 13) (n : I1 31 = 1) (z : I1 27 = 0) : sp_RD (A 11) (I 13) = some (DM A1 N1 (I1 30)) := by
  obtain ⟨F, m, r, wf, ws, hm, q⟩ := XL_f x h
  rw [q, sp_rd_e (by omega)]
  obtain ⟨k, l, rfl⟩ := RRm_zero r z
  rcases r.2.2 with a | a
  · omega
  · rw [a.1, a.2.2]
    rfl
theorem XL_st {p : Int} {F : sp_F} {m : Nat} (mb : MXB I A N I1 A1 N1) (l : I 7 ≤ I1 7) (a11 : A1 11 = A 11) (i13 : I1 13 = I 13) (lt : I1 20 < I 13) (hm : (I 13 - I1 20).toNat ≤ m) (e : sp_RD (A 11) (I 13) = sp_rd (A 11) (I 13) (m + 1) (I1 20) w F) (x : XW (w + 1) I1 A1 N1 I2 A2 N2 F) (up : I1 20 < I2 20) (hp : p = sp_sk (A 11) (I 13 - I2 20).toNat (I2 20) 0) : XL (w + 1) I A N (su I2 20 p) A2 N2 := by
  obtain ⟨y, z⟩ := x
  refine ⟨MXB_tr l mb y, ?_⟩
  rw [a11, i13, show w + 1 - 1 = w by omega] at z
  rcases z with ⟨z1, z2⟩ | ⟨z1, x, z2, z3, z4, z5, z6, z7⟩
  · refine Or.inl ⟨z1, ?_⟩
    rw [e]
    exact sp_rd_b lt z2
  · have r := sp_sk_R (A 11) (I 13 - I2 20).toNat (I2 20) 0
    refine Or.inr ⟨z1, sp_acc x.1 x.2 F, m - 1, ?_, z6, z7, (show (I 13 - p).toNat ≤ m - 1 by omega), ?_⟩
    · exact RRm_ext (I := I2) (A := A2) (N := N2) (I1 := su I2 20 p) (A1 := A2) (N1 := N2) rfl (fun _ => ⟨rfl, rfl⟩) _ _ _ (fun _ _ _ => ⟨rfl, rfl, rfl, fun _ => ⟨rfl, rfl⟩⟩) (fun _ _ _ => ⟨rfl, rfl⟩) z5
    · show sp_RD (A 11) (I 13) = sp_rd (A 11) (I 13) (m - 1 + 1) p (w + 1) _
      rw [e, sp_rd_g lt z2 z3, ← z4, ← hp, show m - 1 + 1 = m by omega]
end XLS
theorem mx_reads_end (z : Value) (d : Nat) (w : Int) (h R : xx_H) (I : Nat → Int) (A : Nat → Int → Int) (N : Int → Int) (hc : 12 ≤ h.length) (hS : MST I A N) (hN : NM I A) (t0 : 0 ≤ I 13) (t1 : I 13 ≤ 3000) (r11 : ∀ e : Int, 0 ≤ A 11 e ∧ A 11 e ≤ 255) (ho : I 7 + 2 * I 13 + 2 ≤ 140000) (hs : 2 * I 10 + I 13 + 1 < 9980) (hX : MX I A N) (hM : MNM A N) (I1 : Nat → Int) (A1 : Nat → Int → Int) (N1 : Int → Int) (L : RL w I A N I1 A1 N1) (XX : XL w I A N I1 A1 N1) (he : ¬ I1 21 = 0 ∨ I1 20 = I 13) : xx_go (xt_P z) (d + 10) 70 69 [some (.ref h.length), some (.int (iI w))] [] (mh h R I1 A1 N1) (fun v h1 => ∃ (b : Int) (I1 : Nat → Int) (A1 : Nat → Int → Int) (N1 : Int → Int), v = some (.int (iI b)) ∧ h1 = mh h R I1 A1 N1 ∧ MST I1 A1 N1 ∧ RX I A N I1 A1 N1 ∧ I1 7 ≤ I 7 + 2 * I 13 ∧ 2 * I1 10 ≤ 2 * I 10 + I 13 + 1 ∧ I1 13 = 0 ∧ (∀ e : Int, 0 ≤ A1 13 e ∧ A1 13 e ≤ 255) ∧ (0 ≤ I1 21 ∧ I1 21 ≤ 5) ∧ (b = 0 ∨ (b = 1 ∧ 0 ≤ I1 30 ∧ I1 30 < I1 7 ∧ (WD A1 (I1 30) ≤ 1000 ∧ (∃ w : Int, WD A1 (I1 30) ≤ w ∧ w ≤ 1000 ∧ w ≤ NZ (A 11) (I 13).toNat ∧ I1 7 ≤ I 7 + 2 * w) ∧ WD A1 (I1 30) ≤ NZ (A 11) (I 13).toNat ∧ 2 * I1 10 ≤ NZ (A 11) (I 13).toNat + 2 * I 10 + 1 ∧ 2 * (I1 7 + 2 * WD A1 (I1 30) - PT A1 (I1 30)) ≤ 2 * I 7 + 5 * NZ (A 11) (I 13).toNat + 1))) ∧ MXB I A N I1 A1 N1 ∧ ((b = 0 ∧ sp_RD (A 11) (I 13) = none) ∨ (b = 1 ∧ sp_RD (A 11) (I 13) = some (DM A1 N1 (I1 30))))) := by
  obtain ⟨⟨S, X, O, Tt⟩, ⟨W1, W2, W3⟩, c1, ⟨c2, c3⟩, c4, ⟨s1, s2⟩, c5⟩ := L
  have P1 := MST_PW S
  have g := RW_ge P1 O
  have tt := Tt.1
  have o1 := O.1
  have o2 := O.2.1
  have d31 := O.2.2.2.2.2.1
  refine go_a (pc' := 70) (ls' := [some (.ref h.length), some (.int (iI w))]) (st' := [.ref h.length]) rfl rfl ?_
  refine go_get (v := .int (iI (I1 21))) rfl mh_o rfl rfl ?_
  refine mi_ne0 (t := 92) rfl rfl (by omega) (by omega) (fun q => ?_) (fun q => ?_)
  · refine go_a (pc' := 93) (ls' := [some (.ref h.length), some (.int (iI w))]) (st' := [.ref h.length]) rfl rfl ?_
    refine go_a (pc' := 94) (ls' := [some (.ref h.length), some (.int (iI w))]) (st' := [.int (iI 0), .ref h.length]) rfl rfl ?_
    refine go_put (j := 13) rfl mh_o rfl rfl (show 12 ≤ _ from hc) (show 13 < 86 by decide) rfl rfl ?_
    rw [mh_p13]
    refine go_a (pc' := 98) (ls' := [some (.ref h.length), some (.int (iI w))]) (st' := [.ref h.length]) rfl rfl ?_
    refine go_get (v := .int (iI (I1 21))) rfl mh_o rfl rfl ?_
    refine mi_ne0 (t := 108) rfl rfl (by omega) (by omega) (fun q2 => ?_) (fun q2 => absurd q q2)
    refine go_a (pc' := 109) (ls' := [some (.ref h.length), some (.int (iI w))]) (st' := [.int (iI 0)]) rfl rfl ?_
    exact go_r rfl rfl rfl rfl rfl rfl ⟨0, _, A1, N1, rfl, rfl, S, RX_tr X (RX_su (j := 13) (by unfold RF; omega) (by decide)), (show I1 7 ≤ I 7 + 2 * I 13 by omega), (show 2 * I1 10 ≤ 2 * I 10 + I 13 + 1 by omega), rfl, Tt.2.2, c4, Or.inl rfl, XX.1, Or.inl ⟨rfl, XL_0 XX q⟩⟩
  · have q : I1 21 = 0 := by omega
    have c6 := c5 q
    refine go_a (pc' := 77) (ls' := [some (.ref h.length), some (.int (iI w))]) (st' := [.ref h.length]) rfl rfl ?_
    refine go_get (v := .int (iI (I1 31))) rfl mh_o rfl rfl ?_
    refine mi_ne0 (t := 92) rfl rfl (by omega) (by omega) (fun q3 => ?_) (fun q3 => ?_)
    · have e1 : I1 31 = 1 := by omega
      refine go_a (pc' := 93) (ls' := [some (.ref h.length), some (.int (iI w))]) (st' := [.ref h.length]) rfl rfl ?_
      refine go_a (pc' := 94) (ls' := [some (.ref h.length), some (.int (iI w))]) (st' := [.int (iI 0), .ref h.length]) rfl rfl ?_
      refine go_put (j := 13) rfl mh_o rfl rfl (show 12 ≤ _ from hc) (show 13 < 86 by decide) rfl rfl ?_
      rw [mh_p13]
      refine go_a (pc' := 98) (ls' := [some (.ref h.length), some (.int (iI w))]) (st' := [.ref h.length]) rfl rfl ?_
      refine go_get (v := .int (iI (I1 21))) rfl mh_o rfl rfl ?_
      refine mi_ne0 (t := 108) rfl rfl (by omega) (by omega) (fun q4 => absurd q q4) (fun q4 => ?_)
      refine go_a (pc' := 105) (ls' := [some (.ref h.length), some (.int (iI w))]) (st' := [.int (iI 1)]) rfl rfl ?_
      refine go_a (pc' := 109) (ls' := [some (.ref h.length), some (.int (iI w))]) (st' := [.int (iI 1)]) rfl rfl ?_
      have o7 := O.2.2.2.2.2.2 e1
      have w9 := g.2.1 e1
      have NM1 := NM_RX hN X
      have e20 : I1 20 = I 13 := by
        rcases he with he | he
        · exact absurd q he
        · exact he
      have rl := RPT_le P1 (by rw [NM1.2 0 (by decide) (by decide)]; decide) (by rw [NM1.2 2 (by decide) (by decide)]; decide) O (c6.2.1 e1) e1
      rw [e20] at c6
      exact go_r rfl rfl rfl rfl rfl rfl ⟨1, _, A1, N1, rfl, rfl, S, RX_tr X (RX_su (j := 13) (by unfold RF; omega) (by decide)), (show I1 7 ≤ I 7 + 2 * I 13 by omega), (show 2 * I1 10 ≤ 2 * I 10 + I 13 + 1 by omega), rfl, Tt.2.2, c4, Or.inr ⟨rfl, o7.1, o7.2, (show WD A1 (I1 30) ≤ 1000 by omega), ⟨w, (show WD A1 (I1 30) ≤ w by omega), c6.1, c6.2.2.1, (show I1 7 ≤ I 7 + 2 * w by omega)⟩, (show WD A1 (I1 30) ≤ _ by omega), (show 2 * I1 10 ≤ _ by omega), (show 2 * (I1 7 + 2 * WD A1 (I1 30) - PT A1 (I1 30)) ≤ _ by omega)⟩, XX.1, Or.inr ⟨rfl, (show sp_RD (A 11) (I 13) = some (DM A1 N1 (I1 30)) from XL_ye XX q e20 e1 (c6.2.1 e1))⟩⟩
    · refine go_a (pc' := 84) (ls' := [some (.ref h.length), some (.int (iI w))]) (st' := [.ref h.length]) rfl rfl ?_
      refine go_a (pc' := 85) (ls' := [some (.ref h.length), some (.int (iI w))]) (st' := [.int (iI 3), .ref h.length]) rfl rfl ?_
      refine go_a (pc' := 86) (ls' := [some (.ref h.length), some (.int (iI w))]) (st' := [.ref h.length, .int (iI 3), .ref h.length]) rfl rfl ?_
      refine go_get (v := .int (iI (I1 13))) rfl mh_o rfl rfl ?_
      refine go_v (m := 72) (as := [.ref h.length, .int (iI 3), .int (iI (I1 13))]) (r := []) rfl rfl rfl mh_o rfl rfl (mm_bad z (d + 9) 3 (I1 13) h R I1 A1 N1 hc c4.1 c4.2) (fun v h1 hq => ?_)
      obtain ⟨rfl, hq⟩ := hq
      rcases hq with ⟨hq, -⟩ | ⟨-, rfl⟩
      · exact absurd q hq
      show xx_go (xt_P z) (d + 10) 70 92 [some (.ref h.length), some (.int (iI w))] [] (mh h R (su (su I1 21 3) 22 (I1 13)) A1 N1) _
      refine go_a (pc' := 93) (ls' := [some (.ref h.length), some (.int (iI w))]) (st' := [.ref h.length]) rfl rfl ?_
      refine go_a (pc' := 94) (ls' := [some (.ref h.length), some (.int (iI w))]) (st' := [.int (iI 0), .ref h.length]) rfl rfl ?_
      refine go_put (j := 13) rfl mh_o rfl rfl (show 12 ≤ _ from hc) (show 13 < 86 by decide) rfl rfl ?_
      rw [mh_p13]
      refine go_a (pc' := 98) (ls' := [some (.ref h.length), some (.int (iI w))]) (st' := [.ref h.length]) rfl rfl ?_
      refine go_get (v := .int (iI 3)) rfl mh_o rfl rfl ?_
      refine mi_ne0 (t := 108) rfl rfl (by omega) (by omega) (fun q4 => ?_) (fun q4 => absurd q4 (by decide))
      refine go_a (pc' := 109) (ls' := [some (.ref h.length), some (.int (iI w))]) (st' := [.int (iI 0)]) rfl rfl ?_
      exact go_r rfl rfl rfl rfl rfl rfl ⟨0, _, A1, N1, rfl, rfl, S, RX_tr X (RX_tr (RX_tr (RX_su (j := 21) (by unfold RF; omega) (by decide)) (RX_su (j := 22) (by unfold RF; omega) (by decide))) (RX_su (j := 13) (by unfold RF; omega) (by decide))), (show I1 7 ≤ I 7 + 2 * I 13 by omega), (show 2 * I1 10 ≤ 2 * I 10 + I 13 + 1 by omega), rfl, Tt.2.2, ⟨(show (0 : Int) ≤ 3 by decide), (show (3 : Int) ≤ 5 by decide)⟩, Or.inl rfl, XX.1, Or.inl ⟨rfl, XL_no XX q (by rcases he with he | he; exact absurd q he; exact he) (by omega)⟩⟩
theorem mx_reads_loop (z : Value) (d : Nat) (h R : xx_H) (I : Nat → Int) (A : Nat → Int → Int) (N : Int → Int) (hc : 12 ≤ h.length) (hS : MST I A N) (hN : NM I A) (t0 : 0 ≤ I 13) (t1 : I 13 ≤ 3000) (r11 : ∀ e : Int, 0 ≤ A 11 e ∧ A 11 e ≤ 255) (ho : I 7 + 2 * I 13 + 2 ≤ 140000) (hs : 2 * I 10 + I 13 + 1 < 9980) (hX : MX I A N) (hM : MNM A N) : ∀ (n : Nat) (w : Int) (I1 : Nat → Int) (A1 : Nat → Int → Int) (N1 : Int → Int), (I 13 - I1 20).toNat ≤ n → RL w I A N I1 A1 N1 → XL w I A N I1 A1 N1 → xx_go (xt_P z) (d + 10) 70 36 [some (.ref h.length), some (.int (iI w))] [] (mh h R I1 A1 N1) (fun v h1 => ∃ (b : Int) (I1 : Nat → Int) (A1 : Nat → Int → Int) (N1 : Int → Int), v = some (.int (iI b)) ∧ h1 = mh h R I1 A1 N1 ∧ MST I1 A1 N1 ∧ RX I A N I1 A1 N1 ∧ I1 7 ≤ I 7 + 2 * I 13 ∧ 2 * I1 10 ≤ 2 * I 10 + I 13 + 1 ∧ I1 13 = 0 ∧ (∀ e : Int, 0 ≤ A1 13 e ∧ A1 13 e ≤ 255) ∧ (0 ≤ I1 21 ∧ I1 21 ≤ 5) ∧ (b = 0 ∨ (b = 1 ∧ 0 ≤ I1 30 ∧ I1 30 < I1 7 ∧ (WD A1 (I1 30) ≤ 1000 ∧ (∃ w : Int, WD A1 (I1 30) ≤ w ∧ w ≤ 1000 ∧ w ≤ NZ (A 11) (I 13).toNat ∧ I1 7 ≤ I 7 + 2 * w) ∧ WD A1 (I1 30) ≤ NZ (A 11) (I 13).toNat ∧ 2 * I1 10 ≤ NZ (A 11) (I 13).toNat + 2 * I 10 + 1 ∧ 2 * (I1 7 + 2 * WD A1 (I1 30) - PT A1 (I1 30)) ≤ 2 * I 7 + 5 * NZ (A 11) (I 13).toNat + 1))) ∧ MXB I A N I1 A1 N1 ∧ ((b = 0 ∧ sp_RD (A 11) (I 13) = none) ∨ (b = 1 ∧ sp_RD (A 11) (I 13) = some (DM A1 N1 (I1 30))))) := by
  intro n
  induction n with
  | zero =>
    intro w I1 A1 N1 hn L XX
    have fin := mx_reads_end z d w h R I A N hc hS hN t0 t1 r11 ho hs hX hM I1 A1 N1 L XX
    obtain ⟨⟨S, X, O, Tt⟩, ⟨W1, W2, W3⟩, c1, ⟨c2, c3⟩, c4, ⟨s1, s2⟩, c5⟩ := id L
    have tt := Tt.1
    refine go_a (pc' := 37) (ls' := [some (.ref h.length), some (.int (iI w))]) (st' := [.ref h.length]) rfl rfl ?_
    refine go_get (v := .int (iI (I1 21))) rfl mh_o rfl rfl ?_
    refine mi_ne0 (t := 69) rfl rfl (by omega) (by omega) (fun q => fin (Or.inl q)) (fun q => ?_)
    refine go_a (pc' := 44) (ls' := [some (.ref h.length), some (.int (iI w))]) (st' := [.ref h.length]) rfl rfl ?_
    refine go_get (v := .int (iI (I1 20))) rfl mh_o rfl rfl ?_
    refine go_a (pc' := 48) (ls' := [some (.ref h.length), some (.int (iI w))]) (st' := [.ref h.length, .int (iI (I1 20))]) rfl rfl ?_
    refine go_get (v := .int (iI (I1 13))) rfl mh_o rfl rfl ?_
    exact mi_ge (t := 69) rfl rfl (by omega) (by omega) (by omega) (by omega) (fun q => fin (Or.inr (by omega))) (fun q => absurd (show I1 13 ≤ I1 20 by omega) q)
  | succ n ih =>
    intro w I1 A1 N1 hn L XX
    have fin := mx_reads_end z d w h R I A N hc hS hN t0 t1 r11 ho hs hX hM I1 A1 N1 L XX
    obtain ⟨⟨S, X, O, Tt⟩, ⟨W1, W2, W3⟩, c1, ⟨c2, c3⟩, c4, ⟨s1, s2⟩, -⟩ := id L
    have tt := Tt.1
    have P1 := MST_PW S
    have gg := RW_ge P1 O
    have o1 := O.1
    have o2 := O.2.1
    have NM1 := NM_RX hN X
    refine go_a (pc' := 37) (ls' := [some (.ref h.length), some (.int (iI w))]) (st' := [.ref h.length]) rfl rfl ?_
    refine go_get (v := .int (iI (I1 21))) rfl mh_o rfl rfl ?_
    refine mi_ne0 (t := 69) rfl rfl (by omega) (by omega) (fun q => fin (Or.inl q)) (fun q => ?_)
    have q21 : I1 21 = 0 := by omega
    have c61 := (L.2.2.2.2.2.2 q21).1
    refine go_a (pc' := 44) (ls' := [some (.ref h.length), some (.int (iI w))]) (st' := [.ref h.length]) rfl rfl ?_
    refine go_get (v := .int (iI (I1 20))) rfl mh_o rfl rfl ?_
    refine go_a (pc' := 48) (ls' := [some (.ref h.length), some (.int (iI w))]) (st' := [.ref h.length, .int (iI (I1 20))]) rfl rfl ?_
    refine go_get (v := .int (iI (I1 13))) rfl mh_o rfl rfl ?_
    refine mi_ge (t := 69) rfl rfl (by omega) (by omega) (by omega) (by omega) (fun q2 => fin (Or.inr (by omega))) (fun q2 => ?_)
    refine go_a (pc' := 57) (ls' := [some (.ref h.length), some (.int (iI (w + 1)))]) (st' := []) rfl (by rw [← iI_add w 1]; rfl) ?_
    refine go_a (pc' := 58) (ls' := [some (.ref h.length), some (.int (iI (w + 1)))]) (st' := [.ref h.length]) rfl rfl ?_
    refine go_a (pc' := 59) (ls' := [some (.ref h.length), some (.int (iI (w + 1)))]) (st' := [.int (iI (w + 1)), .ref h.length]) rfl rfl ?_
    obtain ⟨F, m, hF, wf, ws, hm, eF⟩ := XL_f XX q21
    refine go_v (m := 80) (as := [.ref h.length, .int (iI (w + 1))]) (r := []) rfl rfl rfl mh_o rfl rfl (mx_readWord z (d + 1) (2 * I 10) (2 * I 7) (w + 1) (2 * I 10) h R I1 A1 N1 hc S NM1 O Tt (by omega) q21 (L.2.2.2.2.2.2 q21).2.1 (by omega) (fun q => s2 (by omega) (by rw [← c3]; exact q)) (by omega) (by omega) (by omega) (by omega) (by omega) (by rw [c3]; exact (L.2.2.2.2.2.2 q21).2.2.2.1.1) (fun q => by rw [c3]; exact (L.2.2.2.2.2.2 q21).2.2.2.1.2 (by omega) (by rw [← c3]; exact q)) (by rw [c3]; exact (L.2.2.2.2.2.2 q21).2.2.2.2.1) (fun q => by rw [c3]; exact (L.2.2.2.2.2.2 q21).2.2.2.2.2 (by omega) (by rw [← c3]; exact q)) XX.1.1 XX.1.2.1 F hF wf ws) (fun v h1 hq => ?_)
    obtain ⟨rfl, I2, A2, N2, rfl, VQ, VX⟩ := hq
    obtain ⟨⟨S2, X2, O2, V1, V2, V3, V4, V5, V6, V7⟩, V8, -⟩ := id VQ
    show xx_go (xt_P z) (d + 10) 70 62 [some (.ref h.length), some (.int (iI (w + 1)))] [] (mh h R I2 A2 N2) _
    refine go_a (pc' := 63) (ls' := [some (.ref h.length), some (.int (iI (w + 1)))]) (st' := [.ref h.length]) rfl rfl ?_
    have r11b : ∀ e : Int, 0 ≤ A2 11 e ∧ A2 11 e ≤ 255 := fun e => by rw [V5]; exact Tt.2.1 e
    refine go_v (m := 71) (as := [.ref h.length]) (r := []) rfl rfl rfl mh_o rfl rfl (mx_skipP z (d + 9) h R I2 A2 N2 hc (by omega) (by omega) r11b (by omega) (by omega)) (fun v h1 hq => ?_)
    obtain ⟨rfl, p, rfl, p1, p2, p3, p4⟩ := hq
    rw [V5.trans c3, V3.trans c2] at p4
    show xx_go (xt_P z) (d + 10) 70 66 [some (.ref h.length), some (.int (iI (w + 1)))] [] (mh h R (su I2 20 p) A2 N2) _
    refine go_a (pc' := 36) (ls' := [some (.ref h.length), some (.int (iI (w + 1)))]) (st' := []) rfl rfl ?_
    have P2 := MST_PW S2
    have a11 : A2 11 = A 11 := V5.trans c3
    refine ih (w + 1) (su I2 20 p) A2 N2 (show (I 13 - p).toNat ≤ n by omega) ⟨⟨S2, RX_tr X (RX_tr X2 (RX_su (j := 20) (by unfold RF; omega) (by decide))), O2, ⟨⟨(show 0 ≤ I2 13 by omega), (show I2 13 ≤ 3000 by omega), (show 0 ≤ p by omega), (show p ≤ I2 13 by omega)⟩, r11b, V6⟩⟩, ⟨(show RW I2 A2 ≤ w + 1 by omega), by omega, (show w + 1 ≤ p by omega)⟩, (show I2 7 + I2 29 + 2 * I2 27 ≤ I 7 + 2 * (w + 1) by omega), ⟨(show I2 13 = I 13 by omega), a11⟩, V8, ⟨(show 2 * I2 10 ≤ p + 2 * I 10 + 1 by omega), fun hp hat => ?_⟩, fun q => ?_⟩ (XL_st XX.1 X.1 c3 c2 (by omega) hm eF VX V4.1 p4)
    rotate_left
    · obtain ⟨v1, v2, vb⟩ := VQ.2.2 q
      unfold RB at vb
      rw [c3] at vb
      obtain ⟨b1, b2, b3⟩ := vb
      have mo := NZ_mono (f := A 11) p.toNat (I2 20).toNat (by omega)
      have up : p = I2 20 ∨ NZ (A 11) (I2 20).toNat + 1 ≤ NZ (A 11) p.toNat := by
        by_cases ep : p = I2 20
        · exact Or.inl ep
        · rcases p3.2 with e | e
          · exact absurd e ep
          · exact Or.inr (NZ_up (by omega) (by rw [← a11]; exact e) (by omega))
      have w0 := (L.2.2.2.2.2.2 q21).2.2.1
      refine ⟨v1, v2, (show w + 1 ≤ NZ (A 11) p.toNat by omega), ⟨(show 2 * I2 10 ≤ NZ (A 11) p.toNat + 2 * I 10 + 1 by omega), fun hp hat => ?_⟩, ⟨(show 2 * (I2 7 - RPT I2 A2) ≤ NZ (A 11) p.toNat + 2 * I 7 + 1 by omega), fun hp hat => ?_⟩⟩
      · show 2 * I2 10 ≤ NZ (A 11) p.toNat + 2 * I 10
        have hp : p < I 13 := hp
        have hat : atc (A 11 p) := hat
        rcases up with ep | ep
        · rw [← ep] at b2
          rcases b2.2 with v | v | v
          · exact v
          · omega
          · exact absurd hat v
        · omega
      · show 2 * (I2 7 - RPT I2 A2) ≤ NZ (A 11) p.toNat + 2 * I 7
        have hp : p < I 13 := hp
        have hat : atc (A 11 p) := hat
        rcases up with ep | ep
        · rw [← ep] at b3
          rcases b3.2 with v | v | v
          · exact v
          · omega
          · exact absurd hat v
        · omega
    show 2 * I2 10 ≤ p + 2 * I 10
    have hp : p < I 13 := hp
    by_cases ep : p = I2 20
    · rcases V7.2 with v | v | v
      · omega
      · omega
      · refine absurd ?_ v
        rw [c3, ← ep]
        exact hat
    · omega
theorem mx_reads (z : Value) (d : Nat) (h R : xx_H) (I : Nat → Int) (A : Nat → Int → Int) (N : Int → Int) (hc : 12 ≤ h.length) (hS : MST I A N) (hN : NM I A) (t0 : 0 ≤ I 13) (t1 : I 13 ≤ 3000) (r11 : ∀ e : Int, 0 ≤ A 11 e ∧ A 11 e ≤ 255) (ho : I 7 + 2 * I 13 + 2 ≤ 140000) (hs : 2 * I 10 + I 13 + 1 < 9980) (hX : MX I A N) (hM : MNM A N) (r13 : ∀ e : Int, 0 ≤ A 13 e ∧ A 13 e ≤ 255) : xx_cl (xt_P z) (d + 11) 70 [.ref h.length] (mh h R I A N) (fun v h1 => ∃ (b : Int) (I1 : Nat → Int) (A1 : Nat → Int → Int) (N1 : Int → Int), v = some (.int (iI b)) ∧ h1 = mh h R I1 A1 N1 ∧ MST I1 A1 N1 ∧ RX I A N I1 A1 N1 ∧ I1 7 ≤ I 7 + 2 * I 13 ∧ 2 * I1 10 ≤ 2 * I 10 + I 13 + 1 ∧ I1 13 = 0 ∧ (∀ e : Int, 0 ≤ A1 13 e ∧ A1 13 e ≤ 255) ∧ (0 ≤ I1 21 ∧ I1 21 ≤ 5) ∧ (b = 0 ∨ (b = 1 ∧ 0 ≤ I1 30 ∧ I1 30 < I1 7 ∧ (WD A1 (I1 30) ≤ 1000 ∧ (∃ w : Int, WD A1 (I1 30) ≤ w ∧ w ≤ 1000 ∧ w ≤ NZ (A 11) (I 13).toNat ∧ I1 7 ≤ I 7 + 2 * w) ∧ WD A1 (I1 30) ≤ NZ (A 11) (I 13).toNat ∧ 2 * I1 10 ≤ NZ (A 11) (I 13).toNat + 2 * I 10 + 1 ∧ 2 * (I1 7 + 2 * WD A1 (I1 30) - PT A1 (I1 30)) ≤ 2 * I 7 + 5 * NZ (A 11) (I 13).toNat + 1))) ∧ MXB I A N I1 A1 N1 ∧ ((b = 0 ∧ sp_RD (A 11) (I 13) = none) ∨ (b = 1 ∧ sp_RD (A 11) (I 13) = some (DM A1 N1 (I1 30))))) := by
  refine cl_go rfl ?_
  show xx_go (xt_P z) (d + 10) 70 0 [some (.ref h.length), none] [] (mh h R I A N) _
  refine go_a (pc' := 1) (ls' := [some (.ref h.length), none]) (st' := [.ref h.length]) rfl rfl ?_
  refine go_a (pc' := 2) (ls' := [some (.ref h.length), none]) (st' := [.int (iI 0), .ref h.length]) rfl rfl ?_
  refine go_put (j := 20) rfl mh_o rfl rfl (show 12 ≤ _ from hc) (show 20 < 86 by decide) rfl rfl ?_
  rw [mh_p20]
  refine go_a (pc' := 6) (ls' := [some (.ref h.length), none]) (st' := [.ref h.length]) rfl rfl ?_
  refine go_a (pc' := 7) (ls' := [some (.ref h.length), none]) (st' := [.int (iI 0), .ref h.length]) rfl rfl ?_
  refine go_put (j := 27) rfl mh_o rfl rfl (show 12 ≤ _ from hc) (show 27 < 86 by decide) rfl rfl ?_
  rw [mh_p27]
  refine go_a (pc' := 11) (ls' := [some (.ref h.length), none]) (st' := [.ref h.length]) rfl rfl ?_
  refine go_a (pc' := 12) (ls' := [some (.ref h.length), none]) (st' := [.int (iI 0), .ref h.length]) rfl rfl ?_
  refine go_put (j := 29) rfl mh_o rfl rfl (show 12 ≤ _ from hc) (show 29 < 86 by decide) rfl rfl ?_
  rw [mh_p29]
  refine go_a (pc' := 16) (ls' := [some (.ref h.length), none]) (st' := [.ref h.length]) rfl rfl ?_
  refine go_a (pc' := 17) (ls' := [some (.ref h.length), none]) (st' := [.int (iI 0), .ref h.length]) rfl rfl ?_
  refine go_put (j := 31) rfl mh_o rfl rfl (show 12 ≤ _ from hc) (show 31 < 86 by decide) rfl rfl ?_
  rw [mh_p31]
  refine go_a (pc' := 21) (ls' := [some (.ref h.length), none]) (st' := [.ref h.length]) rfl rfl ?_
  refine go_a (pc' := 22) (ls' := [some (.ref h.length), none]) (st' := [.int (iI 0), .ref h.length]) rfl rfl ?_
  refine go_put (j := 21) rfl mh_o rfl rfl (show 12 ≤ _ from hc) (show 21 < 86 by decide) rfl rfl ?_
  rw [mh_p21]
  refine go_a (pc' := 26) (ls' := [some (.ref h.length), none]) (st' := [.ref h.length]) rfl rfl ?_
  refine go_a (pc' := 27) (ls' := [some (.ref h.length), none]) (st' := [.int (iI ((-1))), .ref h.length]) rfl rfl ?_
  refine go_put (j := 22) rfl mh_o rfl rfl (show 12 ≤ _ from hc) (show 22 < 86 by decide) rfl rfl ?_
  rw [mh_p22]
  refine go_a (pc' := 31) (ls' := [some (.ref h.length), none]) (st' := [.int (iI 0)]) rfl rfl ?_
  refine go_a (pc' := 32) (ls' := [some (.ref h.length), some (.int (iI 0))]) (st' := []) rfl rfl ?_
  refine go_a (pc' := 33) (ls' := [some (.ref h.length), some (.int (iI 0))]) (st' := [.ref h.length]) rfl rfl ?_
  refine go_v (m := 71) (as := [.ref h.length]) (r := []) rfl rfl rfl mh_o rfl rfl (mx_skipP z (d + 9) h R (su (su (su (su (su (su I 20 0) 27 0) 29 0) 31 0) 21 0) 22 ((-1))) A N hc t0 t1 r11 (show (0 : Int) ≤ 0 by decide) t0) (fun v h1 hq => ?_)
  obtain ⟨rfl, p, rfl, p1, p2, p3, p4⟩ := hq
  have p4 : p = sp_sk (A 11) (I 13 - 0).toNat 0 0 := p4
  rw [show I 13 - 0 = I 13 by omega] at p4
  have p1 : 0 ≤ p := p1
  have p2 : p ≤ I 13 := p2
  have zn := NZ_nn (f := A 11) p.toNat
  show xx_go (xt_P z) (d + 10) 70 36 [some (.ref h.length), some (.int (iI 0))] [] (mh h R (su (su (su (su (su (su (su I 20 0) 27 0) 29 0) 31 0) 21 0) 22 ((-1))) 20 p) A N) _
  refine mx_reads_loop z d h R I A N hc hS hN t0 t1 r11 ho hs hX hM _ 0 _ A N (Nat.le_refl _) ⟨⟨hS, RX_tr (RX_tr (RX_tr (RX_tr (RX_tr (RX_tr (RX_su (j := 20) (by unfold RF; omega) (by decide)) (RX_su (j := 27) (by unfold RF; omega) (by decide))) (RX_su (j := 29) (by unfold RF; omega) (by decide))) (RX_su (j := 31) (by unfold RF; omega) (by decide))) (RX_su (j := 21) (by unfold RF; omega) (by decide))) (RX_su (j := 22) (by unfold RF; omega) (by decide))) (RX_su (j := 20) (by unfold RF; omega) (by decide)), ⟨⟨(show (0 : Int) ≤ 0 by decide), (show (0 : Int) ≤ 40 by decide)⟩, (show (0 : Int) ≤ 0 by decide), fun e e0 e1 => absurd (show e < 0 from e1) (by omega), fun k k0 k1 => absurd (show k < 0 from k1) (by omega), fun j k j0 jk k1 => absurd (show k < 0 from k1) (by omega), Or.inl rfl, fun e => absurd (show (0 : Int) = 1 from e) (by decide)⟩, ⟨⟨t0, t1, p1, p2⟩, r11, r13⟩⟩, ⟨(show (0 : Int) + 0 + 0 ≤ 0 by decide), Int.le_refl _, p1⟩, (show I 7 + 0 + 2 * 0 ≤ I 7 + 2 * 0 by omega), ⟨rfl, rfl⟩, ⟨(show (0 : Int) ≤ 0 by decide), (show (0 : Int) ≤ 5 by decide)⟩, ⟨(show 2 * I 10 ≤ p + 2 * I 10 + 1 by omega), fun _ _ => (show 2 * I 10 ≤ p + 2 * I 10 by omega)⟩, fun _ => ⟨by decide, fun e => absurd (show (0 : Int) = 1 from e) (by decide), NZ_nn _, ⟨(show 2 * I 10 ≤ NZ (A 11) p.toNat + 2 * I 10 + 1 by omega), fun _ _ => (show 2 * I 10 ≤ NZ (A 11) p.toNat + 2 * I 10 by omega)⟩, ⟨(show 2 * (I 7 - ((0 : Int) + 0 + 0)) ≤ NZ (A 11) p.toNat + 2 * I 7 + 1 by omega), fun _ _ => (show 2 * (I 7 - ((0 : Int) + 0 + 0)) ≤ NZ (A 11) p.toNat + 2 * I 7 by omega)⟩⟩⟩ ⟨⟨hX, hM, fun _ _ _ => ⟨rfl, rfl, rfl⟩, id⟩, Or.inr ⟨rfl, [(0, [])], (I 13).toNat, ⟨rfl, rfl, Or.inl ⟨rfl, rfl⟩⟩, ⟨⟨fun q => absurd q (by decide), fun q => absurd q (by decide), fun q => absurd q (by decide), fun _ => ⟨rfl, rfl⟩, fun q => absurd q (by decide), fun _ => Or.inl rfl, fun q => absurd q (by decide), fun q => absurd q (by decide)⟩, trivial⟩, trivial, (show (I 13 - p).toNat ≤ (I 13).toNat by omega), (show sp_RD (A 11) (I 13) = sp_rd (A 11) (I 13) ((I 13).toNat + 1) p 0 [(0, [])] by rw [p4]; rfl)⟩⟩
