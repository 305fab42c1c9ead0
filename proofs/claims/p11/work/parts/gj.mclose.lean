section RMC
variable {I I1 : Nat → Int} {A A1 : Nat → Int → Int} {N : Int → Int} {kf m : Int} {lf : List ob_T} {ff : Int × List ob_T} {rf : sp_F}
theorem RRm_popc (hX : MX I A N) (GG : GX I A N I1 A1 N) (hO : RO I A) (hF : RRm I A N ((kf, lf) :: ff :: rf) (I 27) (I 29)) (hk : kf = 3 ∨ kf = 4 ∨ kf = 6) (hm : m = A 16 (I 27 - 1)) : RRm (su (su I1 29 m) 27 (I1 27 - 1)) A1 N (ff :: rf) (I1 27 - 1) m := by
  have X := GG.2.1
  have j : ∀ q : Nat, q ≠ 7 → q ≠ 10 → I1 q = I q := X.2.2.2.1
  have ja : ∀ a : Nat, 10 ≤ a → A1 a = A a := fun a ha => X.2.2.2.2.1 a (by omega) (by omega) (by omega) (by omega) (by omega) (by omega) (by omega) (by omega)
  obtain ⟨a1, a2, a3, ⟨a4, a5⟩, a6⟩ := hF
  have e0 := a3 (by omega)
  rw [← e0, ← hm] at a6
  rw [j 27 (by decide) (by decide)]
  obtain ⟨o1, o2, o3, o4, o5, o6, o7⟩ := hO
  refine RRm_ext (I := I) (A := A) (N := N) (I1 := su (su I1 29 m) 27 (I 27 - 1)) (A1 := A1) (N1 := N) (show I1 31 = I 31 from j 31 (by decide) (by decide)) (fun q => ⟨show I1 30 = I 30 from j 30 (by decide) (by decide), GX_D hX GG (o7 q).1 (o7 q).2⟩) (ff :: rf) _ _ (fun q q0 q1 => ⟨by rw [ja 15 (by decide)], by rw [ja 16 (by decide)], by rw [ja 17 (by decide)], fun w => ⟨by rw [ja 18 (by decide)], ?_⟩⟩) (fun q q0 q1 => ⟨by rw [ja 19 (by decide)], GX_D hX GG (o3 q q0 (by omega)).1 (o3 q q0 (by omega)).2⟩) a6
  have w2 := (o4 q q0 (by omega)).2.2.2 w
  exact GX_D hX GG w2.1 w2.2
theorem RRm_v0 (hM : MNM A N) (hF : RRm I A N ((kf, lf) :: ff :: rf) (I 27) (I 29)) (wf : WFr ((kf, lf) :: ff :: rf)) (hk : kf = 3 ∨ kf = 4 ∨ kf = 6) (q : A 17 (I 27 - 1) ≠ 2) : sp_ls (sp_im kf lf) (DM A N 0) = sp_cv kf lf := by
  have a2 := hF.2.1
  have k6 : kf ≠ 6 := by
    rcases a2 with ⟨p, -⟩ | ⟨-, ⟨p, -⟩ | ⟨p, -⟩ | ⟨-, p, -⟩⟩ <;> omega
  unfold sp_cv sp_im
  rw [if_neg k6, if_neg k6, hM.1]
theorem RRm_v2 (hF : RRm I A N ((kf, lf) :: ff :: rf) (I 27) (I 29)) (hk : kf = 3 ∨ kf = 4 ∨ kf = 6) (q : A 17 (I 27 - 1) = 2) : sp_ls (sp_im kf lf) (DM A N (A 18 (I 27 - 1))) = sp_cv kf lf := by
  have a2 := hF.2.1
  have k6 : kf = 6 ∧ lf.head? = some (DM A N (A 18 (I 27 - 1))) := by
    rcases a2 with ⟨p, -⟩ | ⟨-, ⟨-, p⟩ | ⟨-, p⟩ | ⟨p, -, p2⟩⟩
    · omega
    · omega
    · omega
    · exact ⟨p, p2⟩
  obtain ⟨k6, hd⟩ := k6
  subst k6
  match lf, hd with
  | [], hd => cases hd
  | x :: l, hd =>
    injection hd with hd
    show sp_ls l _ = sp_ls l x
    rw [hd]
end RMC
theorem mx_close_loop (z : Value) (d : Nat) (h R : xx_H) (I : Nat → Int) (A : Nat → Int → Int) (N : Int → Int) (hc : 12 ≤ h.length) (hS : MST I A N) (hN : NM I A) (hO : RO I A) (ho : I 7 + I 29 + 2 * I 27 ≤ 140000) (hi : I 29 < 1100) (h31 : I 31 = 0) (op : 0 < I 27) (hX : MX I A N) (hM : MNM A N) (kf : Int) (lf : List ob_T) (ff : Int × List ob_T) (rf : sp_F) (hF : RRm I A N ((kf, lf) :: ff :: rf) (I 27) (I 29)) (wf : WFr ((kf, lf) :: ff :: rf)) (ws : WFs ((kf, lf) :: ff :: rf)) (hk : kf = 3 ∨ kf = 4 ∨ kf = 6) : ∀ (n : Nat) (Ix : Nat → Int) (A1 : Nat → Int → Int) (m v : Int) (ml : List ob_T), A 16 (I 27 - 1) + n = m → m ≤ I 29 → EX I A N Ix A1 N → Ix 7 ≤ I 7 + (I 29 - m) → Ix 10 = I 10 → 0 ≤ v → v < Ix 7 → VD A1 v + SW A (A 19) m.toNat ≤ SW A (A 19) (I 29).toNat + (if A 17 (I 27 - 1) = 2 then WD A (A 18 (I 27 - 1)) + 1 else 0) → WD A1 v + SW A (A 19) m.toNat ≤ SW A (A 19) (I 29).toNat + 2 + (if A 17 (I 27 - 1) = 2 then WD A (A 18 (I 27 - 1)) + 1 else 0) → Ix 7 + otp (A 17 (I 27 - 1)) (A 15 (I 27 - 1)) (PT A (A 18 (I 27 - 1))) + SP A (A 19) (I 29).toNat ≤ I 7 + PT A1 v + SP A (A 19) m.toNat → (GX I A N Ix A1 N ∧ (MHT I A N → MHT Ix A1 N) ∧ RIm A N ml m ∧ (ml.length : Int) = n ∧ sp_ls ml (DM A1 N v) = sp_cv kf lf) → xx_go (xt_P z) (d + 6) 84 28 [some (.ref h.length), some (.int (iI (I 27 - 1))), some (.int (iI v))] [] (mh h R (su Ix 29 m) A1 N) (fun v h1 => v = none ∧ ∃ (I1 : Nat → Int) (A1 : Nat → Int → Int), h1 = mh h R I1 A1 N ∧ MST I1 A1 N ∧ RO I1 A1 ∧ RW I1 A1 ≤ RW I A + 1 ∧ RX I A N I1 A1 N ∧ (I1 7 + I1 29 + 2 * I1 27 ≤ I 7 + I 29 + 2 * I 27 ∧ I1 7 + RPT I A ≤ I 7 + RPT I1 A1) ∧ I1 10 = I 10 ∧ I1 13 = I 13 ∧ I1 17 = I 17 ∧ I1 20 = I 20 ∧ I1 21 = I 21 ∧ I1 22 = I 22 ∧ A1 11 = A 11 ∧ A1 13 = A 13 ∧ (I1 31 = 1 → I1 27 = 0) ∧ MXP I A N I1 A1 (sp_add (ff :: rf) (sp_cv kf lf)) ∧ WFs (sp_add (ff :: rf) (sp_cv kf lf))) := by
  have hP := MST_PW hS
  have o1 := hO.1
  have k := hO.2.2.2.1 (I 27 - 1) (by omega) (by omega)
  have nn := hN.1
  intro n
  induction n with
  | zero =>
    intro Ix A1 m v ml em hm X x7 x10 v0 v1 hV hW hT hE
    obtain ⟨GG, gH, gi, gl, gV⟩ := hE
    have j27 := X.2.2.2.1 27 (by decide) (by decide)
    have j29 := X.2.2.2.1 29 (by decide) (by decide)
    have j31 := X.2.2.2.1 31 (by decide) (by decide)
    have b16 := X.2.2.2.2.1 16 (by decide) (by decide) (by decide) (by decide) (by decide) (by decide) (by decide) (by decide)
    have b19 := X.2.2.2.2.1 19 (by decide) (by decide) (by decide) (by decide) (by decide) (by decide) (by decide) (by decide)
    have x2 := X.2.1
    have hP1 := MST_PW X.1
    have e16 : A1 16 (I 27 - 1) = A 16 (I 27 - 1) := by rw [b16]
    refine go_a (pc' := 29) (ls' := [some (.ref h.length), some (.int (iI (I 27 - 1))), some (.int (iI v))]) (st' := [.ref h.length]) rfl rfl ?_
    refine go_get (v := .int (iI m)) rfl mh_o rfl rfl ?_
    refine go_a (pc' := 33) (ls' := [some (.ref h.length), some (.int (iI (I 27 - 1))), some (.int (iI v))]) (st' := [.ref h.length, .int (iI m)]) rfl rfl ?_
    refine go_get rfl mh_o rfl rfl ?_
    refine go_a (pc' := 37) (ls' := [some (.ref h.length), some (.int (iI (I 27 - 1))), some (.int (iI v))]) (st' := [.int (iI (I 27 - 1)), .ref (h.length + 16), .int (iI m)]) rfl rfl ?_
    refine mi_ild rfl mh_a16 (by omega) (by omega) (by decide) ?_
    refine mi_le (t := 69) rfl rfl (by omega) (by omega) (by omega) (by omega) (fun _ => ?_) (fun q => absurd (show m ≤ A1 16 (I 27 - 1) by omega) q)
    refine go_a (pc' := 70) (ls' := [some (.ref h.length), some (.int (iI (I 27 - 1))), some (.int (iI v))]) (st' := [.ref h.length]) rfl rfl ?_
    refine go_a (pc' := 71) (ls' := [some (.ref h.length), some (.int (iI (I 27 - 1))), some (.int (iI v))]) (st' := [.ref h.length, .ref h.length]) rfl rfl ?_
    refine go_get (v := .int (iI (Ix 27))) rfl mh_o rfl rfl ?_
    refine go_a (pc' := 75) (ls' := [some (.ref h.length), some (.int (iI (I 27 - 1))), some (.int (iI v))]) (st' := [.int (iI 1), .int (iI (Ix 27)), .ref h.length]) rfl rfl ?_
    refine mi_sub rfl ?_
    refine go_put (j := 27) rfl mh_o rfl rfl (show 12 ≤ _ from hc) (show 27 < 86 by decide) rfl rfl ?_
    rw [mh_p27]
    refine go_a (pc' := 80) (ls' := [some (.ref h.length), some (.int (iI (I 27 - 1))), some (.int (iI v))]) (st' := [.ref h.length]) rfl rfl ?_
    refine go_a (pc' := 81) (ls' := [some (.ref h.length), some (.int (iI (I 27 - 1))), some (.int (iI v))]) (st' := [.int (iI v), .ref h.length]) rfl rfl ?_
    have O1 := RO_EX hP X hO
    have kk : ((I 27 - 1).toNat : Int) = I 27 - 1 := by omega
    have O2 : RO (su (su Ix 29 m) 27 (Ix 27 - 1)) A1 := ⟨⟨(show 0 ≤ Ix 27 - 1 by omega), (show Ix 27 - 1 ≤ 40 by omega)⟩, (show 0 ≤ m by omega), fun e e0 e1 => O1.1.2.2.1 e e0 (by have e1 : e < m := e1; omega), fun j j0 j1 => by
      have j1 : j < Ix 27 - 1 := j1
      have q := O1.1.2.2.2.1 j j0 (by omega)
      have q2 := O1.1.2.2.2.2.1 j (Ix 27 - 1) j0 (by omega) (by omega)
      rw [j27, e16] at q2
      exact ⟨q.1, ⟨q.2.1.1, (show A1 16 j ≤ m by omega)⟩, q.2.2⟩, fun j k j0 jk k1 => O1.1.2.2.2.2.1 j k j0 jk (by have k1 : k < Ix 27 - 1 := k1; omega), O1.1.2.2.2.2.2.1, O1.1.2.2.2.2.2.2⟩
    have w := WD_ext hP (fun k h0 h1 => ⟨(X.2.2.1 k h0 h1).1, (X.2.2.1 k h0 h1).2.1⟩)
    have eS : SW A1 (A1 19) m.toNat = SW A (A 19) m.toNat := SW_congr _ (fun e he => by
      have := hO.2.2.1 e (by omega) (by omega)
      rw [b19]
      exact (w _ this.1 this.2).1)
    have eO : OW A1 (Ix 27 - 1).toNat = OW A (I 27 - 1).toNat := by
      rw [j27]
      refine OW_congr _ (fun e he => ?_)
      have b17 := X.2.2.2.2.1 17 (by decide) (by decide) (by decide) (by decide) (by decide) (by decide) (by decide) (by decide)
      have b18 := X.2.2.2.2.1 18 (by decide) (by decide) (by decide) (by decide) (by decide) (by decide) (by decide) (by decide)
      have := hO.2.2.2.1 e (by omega) (by omega)
      refine ⟨by rw [b17], fun q => ?_⟩
      rw [b18]
      exact (w _ (this.2.2.2 q).1 (this.2.2.2 q).2).1
    have eR : RW (su (su Ix 29 m) 27 (Ix 27 - 1)) A1 + WD A1 v ≤ RW I A + 1 := by
      show SW A1 (A1 19) m.toNat + OW A1 (Ix 27 - 1).toNat + (if Ix 31 = 1 then WD A1 (Ix 30) else 0) + WD A1 v ≤ SW A (A 19) (I 29).toNat + OW A (I 27).toNat + (if I 31 = 1 then WD A (I 30) else 0) + 1
      rw [eS, eO, if_neg (by omega), if_neg (by omega), show OW A (I 27).toNat = OW A ((I 27 - 1).toNat + 1) by rw [show (I 27).toNat = (I 27 - 1).toNat + 1 by omega]]
      show _ ≤ SW A (A 19) (I 29).toNat + (OW A (I 27 - 1).toNat + (1 + (if A 17 ((I 27 - 1).toNat : Int) = 0 then 0 else 1) + (if A 17 ((I 27 - 1).toNat : Int) = 2 then WD A (A 18 ((I 27 - 1).toNat : Int)) else 0))) + 0 + 1
      rw [kk]
      by_cases e2 : A 17 (I 27 - 1) = 2
      · rw [if_pos e2] at hW ⊢
        rw [if_neg (by omega)]
        omega
      · rw [if_neg e2] at hW ⊢
        split <;> omega
    have N1 : NM Ix A1 := NM_EX hN X
    have ml0 : ml = [] := List.length_eq_zero_iff.mp (by omega)
    rw [ml0] at gV
    have gV : DM A1 N v = sp_cv kf lf := gV
    have r9 := RRm_popc (m := m) hX GG hO hF hk (by omega)
    have M1 := MNM_g hM hX GG (by omega)
    have m9 : MX (su (su Ix 29 m) 27 (Ix 27 - 1)) A1 N := (show MX Ix A1 N from GX_M GG)
    refine go_v (m := 87) (as := [.ref h.length, .int (iI v)]) (r := []) rfl rfl rfl mh_o rfl rfl (mx_deliver z (d + 1) v h R (su (su Ix 29 m) 27 (Ix 27 - 1)) A1 N hc X.1 N1 O2 (show Ix 7 + 2 * (Ix 27 - 1) ≤ 140000 by omega) (show m < 1100 by omega) (show Ix 31 = 0 by omega) v0 v1 m9 M1 (ff :: rf) r9 wf.2 ws.2.2 ws.1 ws.2.1) (fun v h1 hq => ?_)
    obtain ⟨rfl, I3, A3, rfl, S3, O3, W3, X3, c1, c2, c3, c4, c5, c6, c7, c8, c9, ca, cx, cw⟩ := hq
    have cp : I3 7 + RPT (su (su Ix 29 m) 27 (Ix 27 - 1)) A1 + PT A1 v ≤ Ix 7 + RPT I3 A3 := c1.2
    have c1 : I3 7 + I3 29 + 2 * I3 27 ≤ Ix 7 + m + 2 * (Ix 27 - 1) + 1 := c1.1
    have pe := PT_ext hP (fun k h0 h1 => ⟨(X.2.2.1 k h0 h1).1, (X.2.2.1 k h0 h1).2.1⟩)
    have eQ : RPT (su (su Ix 29 m) 27 (Ix 27 - 1)) A1 = SP A (A 19) m.toNat + OP A (I 27 - 1).toNat := by
      show SP A1 (A1 19) m.toNat + OP A1 (Ix 27 - 1).toNat + (if Ix 31 = 1 then PT A1 (Ix 30) else 0) = _
      rw [if_neg (by omega), j27, b19, SP_congr (A := A) (f := A 19) m.toNat (fun e he => by
        have := hO.2.2.1 e (by omega) (by omega)
        exact pe _ this.1 this.2), OP_congr (A := A) (I 27 - 1).toNat (fun e he => by
        have := hO.2.2.2.1 e (by omega) (by omega)
        have b15 := X.2.2.2.2.1 15 (by decide) (by decide) (by decide) (by decide) (by decide) (by decide) (by decide) (by decide)
        have b17 := X.2.2.2.2.1 17 (by decide) (by decide) (by decide) (by decide) (by decide) (by decide) (by decide) (by decide)
        have b18 := X.2.2.2.2.1 18 (by decide) (by decide) (by decide) (by decide) (by decide) (by decide) (by decide) (by decide)
        exact ⟨by rw [b17], by rw [b15], fun q => by rw [b18]; exact pe _ (this.2.2.2 q).1 (this.2.2.2 q).2⟩)]
      omega
    have eR2 : RPT I A = SP A (A 19) (I 29).toNat + (OP A (I 27 - 1).toNat + otp (A 17 (I 27 - 1)) (A 15 (I 27 - 1)) (PT A (A 18 (I 27 - 1)))) := by
      unfold RPT
      rw [if_neg (by omega : ¬ I 31 = 1), OP_pop op]
      omega
    rw [gV] at cx cw
    obtain ⟨m1, m2, m3, m4, m5, m6⟩ := cx
    have mx : MXP I A N I3 A3 (sp_add (ff :: rf) (sp_cv kf lf)) := ⟨m1, m2, fun q q0 q1 => by have a9 := GG.2.2 q q0 q1; have b9 := m3 q q0 (show q < Ix 7 by omega); exact ⟨b9.1.trans a9.1, b9.2.1.trans a9.2.1, b9.2.2.trans a9.2.2⟩, fun q => m4 (gH q), m5, m6⟩
    exact go_r rfl rfl rfl rfl rfl rfl ⟨rfl, I3, A3, rfl, S3, O3, by omega, RX_tr (RX_EX X) (RX_tr (RX_tr (RX_su (j := 29) (by unfold RF; omega) (by decide)) (RX_su (j := 27) (by unfold RF; omega) (by decide))) X3), ⟨by omega, by omega⟩, (show I3 10 = Ix 10 from c2).trans x10, (show I3 13 = Ix 13 from c3).trans (X.2.2.2.1 13 (by decide) (by decide)), (show I3 17 = Ix 17 from c4).trans (X.2.2.2.1 17 (by decide) (by decide)), (show I3 20 = Ix 20 from c5).trans (X.2.2.2.1 20 (by decide) (by decide)), (show I3 21 = Ix 21 from c6).trans (X.2.2.2.1 21 (by decide) (by decide)), (show I3 22 = Ix 22 from c7).trans (X.2.2.2.1 22 (by decide) (by decide)), c8.trans (X.2.2.2.2.1 11 (by decide) (by decide) (by decide) (by decide) (by decide) (by decide) (by decide) (by decide)), c9.trans (X.2.2.2.2.1 13 (by decide) (by decide) (by decide) (by decide) (by decide) (by decide) (by decide) (by decide)), ca, mx, cw⟩
  | succ n ih =>
    intro Ix A1 m v ml em hm X x7 x10 v0 v1 hV hW hT hE
    obtain ⟨GG, gH, gi, gl, gV⟩ := hE
    have j27 := X.2.2.2.1 27 (by decide) (by decide)
    have j29 := X.2.2.2.1 29 (by decide) (by decide)
    have j31 := X.2.2.2.1 31 (by decide) (by decide)
    have b16 := X.2.2.2.2.1 16 (by decide) (by decide) (by decide) (by decide) (by decide) (by decide) (by decide) (by decide)
    have b19 := X.2.2.2.2.1 19 (by decide) (by decide) (by decide) (by decide) (by decide) (by decide) (by decide) (by decide)
    have x2 := X.2.1
    have hP1 := MST_PW X.1
    have e16 : A1 16 (I 27 - 1) = A 16 (I 27 - 1) := by rw [b16]
    refine go_a (pc' := 29) (ls' := [some (.ref h.length), some (.int (iI (I 27 - 1))), some (.int (iI v))]) (st' := [.ref h.length]) rfl rfl ?_
    refine go_get (v := .int (iI m)) rfl mh_o rfl rfl ?_
    refine go_a (pc' := 33) (ls' := [some (.ref h.length), some (.int (iI (I 27 - 1))), some (.int (iI v))]) (st' := [.ref h.length, .int (iI m)]) rfl rfl ?_
    refine go_get rfl mh_o rfl rfl ?_
    refine go_a (pc' := 37) (ls' := [some (.ref h.length), some (.int (iI (I 27 - 1))), some (.int (iI v))]) (st' := [.int (iI (I 27 - 1)), .ref (h.length + 16), .int (iI m)]) rfl rfl ?_
    refine mi_ild rfl mh_a16 (by omega) (by omega) (by decide) ?_
    refine mi_le (t := 69) rfl rfl (by omega) (by omega) (by omega) (by omega) (fun q => absurd q (by omega)) (fun _ => ?_)
    have it := hO.2.2.1 (m - 1) (by omega) (by omega)
    have e19 : A1 19 (m - 1) = A 19 (m - 1) := by rw [b19]
    refine go_a (pc' := 42) (ls' := [some (.ref h.length), some (.int (iI (I 27 - 1))), some (.int (iI v))]) (st' := [.ref h.length]) rfl rfl ?_
    refine go_a (pc' := 43) (ls' := [some (.ref h.length), some (.int (iI (I 27 - 1))), some (.int (iI v))]) (st' := [.ref h.length, .ref h.length]) rfl rfl ?_
    refine go_get (v := .int (iI m)) rfl mh_o rfl rfl ?_
    refine go_a (pc' := 47) (ls' := [some (.ref h.length), some (.int (iI (I 27 - 1))), some (.int (iI v))]) (st' := [.int (iI 1), .int (iI m), .ref h.length]) rfl rfl ?_
    refine mi_sub rfl ?_
    refine go_put (j := 29) rfl mh_o rfl rfl (show 12 ≤ _ from hc) (show 29 < 86 by decide) rfl rfl ?_
    rw [mh_p29]
    refine go_a (pc' := 52) (ls' := [some (.ref h.length), some (.int (iI (I 27 - 1))), some (.int (iI v))]) (st' := [.ref h.length]) rfl rfl ?_
    refine go_a (pc' := 53) (ls' := [some (.ref h.length), some (.int (iI (I 27 - 1))), some (.int (iI v))]) (st' := [.ref h.length, .ref h.length]) rfl rfl ?_
    refine go_get rfl mh_o rfl rfl ?_
    refine go_a (pc' := 57) (ls' := [some (.ref h.length), some (.int (iI (I 27 - 1))), some (.int (iI v))]) (st' := [.ref h.length, .ref (h.length + 19), .ref h.length]) rfl rfl ?_
    refine go_get (v := .int (iI (m - 1))) rfl mh_o rfl rfl ?_
    refine mi_ild rfl mh_a19 (by omega) (by omega) (by decide) ?_
    refine go_a (pc' := 62) (ls' := [some (.ref h.length), some (.int (iI (I 27 - 1))), some (.int (iI v))]) (st' := [.int (iI v), .int (iI (A1 19 (m - 1))), .ref h.length]) rfl rfl ?_
    rw [su_su, e19]
    show xx_go (xt_P z) (d + 6) 84 62 [some (.ref h.length), some (.int (iI (I 27 - 1))), some (.int (iI v))] [.int (iI v), .int (iI (A 19 (m - 1))), .ref h.length] (mh h R (su Ix 29 (m - 1)) A1 N) _
    obtain ⟨x9, ml1, rfl⟩ : ∃ (x9 : ob_T) (ml1 : List ob_T), ml = x9 :: ml1 := by
      match ml, gl with
      | [], gl =>
        have gl : ((0 : Nat) : Int) = ((n + 1 : Nat) : Int) := gl
        omega
      | x9 :: ml1, _ => exact ⟨x9, ml1, rfl⟩
    obtain ⟨gi1, gi2, gi3⟩ := gi
    rw [List.length_cons] at gl
    have m9 : MX (su Ix 29 (m - 1)) A1 N := (show MX Ix A1 N from GX_M GG)
    refine go_v (m := 85) (as := [.ref h.length, .int (iI (A 19 (m - 1))), .int (iI v)]) (r := []) rfl rfl rfl mh_o rfl rfl (mt_pair z (d + 4) (A 19 (m - 1)) v h R (su Ix 29 (m - 1)) A1 N hc m9 (show Ix 7 < 140000 by omega) it.1 (show A 19 (m - 1) < Ix 7 by omega) v0 v1) (fun v h1 hq => ?_)
    obtain ⟨k2, I2, A2, rfl, rfl, G2, ⟨k0, k1⟩, f1, f2, dd, f3, f4, hh, -⟩ := hq
    have X2 := G2.2.1
    have i29 : I2 29 = m - 1 := X2.2.2.2.1 29 (by decide) (by decide)
    have eI : I2 = su (su I2 29 (Ix 29)) 29 (m - 1) := by rw [su_su, su_eta i29]
    have XX : EX Ix A1 N (su I2 29 (Ix 29)) A2 N := ⟨X2.1, X2.2.1, X2.2.2.1, fun j h7 h10 => by
      by_cases e : j = 29
      · rw [e]
        rfl
      · rw [su_ne e]
        exact (X2.2.2.2.1 j h7 h10).trans (su_ne e), X2.2.2.2.2.1, X2.2.2.2.2.2⟩
    have X3 := EX_tr X XX
    have P2 := MST_PW X3.1
    have w := WD_ext hP (fun k h0 h1 => ⟨(X3.2.2.1 k h0 h1).1, (X3.2.2.1 k h0 h1).2.1⟩) (A 19 (m - 1)) it.1 it.2
    have wv2 := WD_ext hP1 (fun k h0 h1 => ⟨(XX.2.2.1 k h0 h1).1, (XX.2.2.1 k h0 h1).2.1⟩) v v0 v1
    have eV : VD A2 k2 = WD A (A 19 (m - 1)) + VD A1 v := by
      rw [VD_pair P2 k0 k1 (by omega), f1, f2, w.1, wv2.2]
    have tp : PT A2 k2 = 1 + PT A (A 19 (m - 1)) + PT A1 v := by
      rw [PT_pair P2 k0 k1 (by omega), f1, f2, PT_ext hP (fun k h0 h1 => ⟨(X3.2.2.1 k h0 h1).1, (X3.2.2.1 k h0 h1).2.1⟩) (A 19 (m - 1)) it.1 it.2, PT_ext hP1 (fun k h0 h1 => ⟨(XX.2.2.1 k h0 h1).1, (XX.2.2.1 k h0 h1).2.1⟩) v v0 v1]
    have sp := SP_pop (A := A) (f := A 19) (m := m) (by omega)
    have eS : SW A (A 19) m.toNat = SW A (A 19) (m - 1).toNat + WD A (A 19 (m - 1)) := by
      rw [show m.toNat = (m - 1).toNat + 1 by omega]
      show SW A (A 19) (m - 1).toNat + WD A (A 19 ((m - 1).toNat : Int)) = _
      rw [show ((m - 1).toNat : Int) = m - 1 by omega]
    have n3 := (NM_EX hN X3).2
    have wl := WD_le P2 k0 k1 (by omega) (by rw [n3 0 (by omega) (by omega)]; decide) (by rw [n3 2 (by omega) (by omega)]; decide)
    show xx_go (xt_P z) (d + 6) 84 65 [some (.ref h.length), some (.int (iI (I 27 - 1))), some (.int (iI v))] [.int (iI k2)] (mh h R I2 A2 N) _
    refine go_a (pc' := 66) (ls' := [some (.ref h.length), some (.int (iI (I 27 - 1))), some (.int (iI k2))]) (st' := []) rfl rfl ?_
    refine go_a (pc' := 28) (ls' := [some (.ref h.length), some (.int (iI (I 27 - 1))), some (.int (iI k2))]) (st' := []) rfl rfl ?_
    have GG3 : GX I A N (su I2 29 (Ix 29)) A2 N := ⟨G2.1, X3, fun q q0 q1 => by have a9 := GG.2.2 q q0 q1; have b9 := G2.2.2 q q0 (show q < Ix 7 by omega); exact ⟨b9.1.trans a9.1, b9.2.1.trans a9.2.1, b9.2.2.trans a9.2.2⟩⟩
    have V3 : sp_ls ml1 (DM A2 N k2) = sp_cv kf lf := by
      rw [dd, GX_D hX GG it.1 it.2, gi2]
      exact gV
    rw [eI]
    exact ih (su I2 29 (Ix 29)) A2 (m - 1) k2 ml1 (by omega) (by omega) X3 (show I2 7 ≤ I 7 + (I 29 - (m - 1)) by have f3 : I2 7 ≤ Ix 7 + 1 := f3; omega) (show I2 10 = I 10 by have f4 : I2 10 = Ix 10 := f4; omega) k0 k1 (by omega) (by omega) (show I2 7 + _ + _ ≤ _ by have f3 : I2 7 ≤ Ix 7 + 1 := f3; omega) ⟨GG3, fun q => hh (gH q), gi3, by omega, V3⟩
theorem mx_close (z : Value) (d : Nat) (h R : xx_H) (I : Nat → Int) (A : Nat → Int → Int) (N : Int → Int) (hc : 12 ≤ h.length) (hS : MST I A N) (hN : NM I A) (hO : RO I A) (ho : I 7 + I 29 + 2 * I 27 ≤ 140000) (hi : I 29 < 1100) (h31 : I 31 = 0) (op : 0 < I 27) (hX : MX I A N) (hM : MNM A N) (kf : Int) (lf : List ob_T) (ff : Int × List ob_T) (rf : sp_F) (hF : RRm I A N ((kf, lf) :: ff :: rf) (I 27) (I 29)) (wf : WFr ((kf, lf) :: ff :: rf)) (ws : WFs ((kf, lf) :: ff :: rf)) (hk : kf = 3 ∨ kf = 4 ∨ kf = 6) : xx_cl (xt_P z) (d + 7) 84 [.ref h.length] (mh h R I A N) (fun v h1 => v = none ∧ ∃ (I1 : Nat → Int) (A1 : Nat → Int → Int), h1 = mh h R I1 A1 N ∧ MST I1 A1 N ∧ RO I1 A1 ∧ RW I1 A1 ≤ RW I A + 1 ∧ RX I A N I1 A1 N ∧ (I1 7 + I1 29 + 2 * I1 27 ≤ I 7 + I 29 + 2 * I 27 ∧ I1 7 + RPT I A ≤ I 7 + RPT I1 A1) ∧ I1 10 = I 10 ∧ I1 13 = I 13 ∧ I1 17 = I 17 ∧ I1 20 = I 20 ∧ I1 21 = I 21 ∧ I1 22 = I 22 ∧ A1 11 = A 11 ∧ A1 13 = A 13 ∧ (I1 31 = 1 → I1 27 = 0) ∧ MXP I A N I1 A1 (sp_add (ff :: rf) (sp_cv kf lf)) ∧ WFs (sp_add (ff :: rf) (sp_cv kf lf))) := by
  have hP := MST_PW hS
  have o1 := hO.1
  have o2 := hO.2.1
  have k := hO.2.2.2.1 (I 27 - 1) (by omega) (by omega)
  have nn := hN.1
  have n0 : A 1 0 < 0 := by rw [hN.2 0 (by omega) (by omega)]; decide
  have n2 : A 1 2 < 0 := by rw [hN.2 2 (by omega) (by omega)]; decide
  have a39 := hF.2.2.1 (by omega)
  refine cl_go rfl ?_
  show xx_go (xt_P z) (d + 6) 84 0 [some (.ref h.length), none, none] [] (mh h R I A N) _
  refine go_a (pc' := 1) (ls' := [some (.ref h.length), none, none]) (st' := [.ref h.length]) rfl rfl ?_
  refine go_get (v := .int (iI (I 27))) rfl mh_o rfl rfl ?_
  refine go_a (pc' := 5) (ls' := [some (.ref h.length), none, none]) (st' := [.int (iI 1), .int (iI (I 27))]) rfl rfl ?_
  refine mi_sub rfl ?_
  refine go_a (pc' := 7) (ls' := [some (.ref h.length), some (.int (iI ((I 27) - 1))), none]) (st' := []) rfl rfl ?_
  refine go_a (pc' := 8) (ls' := [some (.ref h.length), some (.int (iI ((I 27) - 1))), none]) (st' := [.ref h.length]) rfl rfl ?_
  refine go_get rfl mh_o rfl rfl ?_
  refine go_a (pc' := 12) (ls' := [some (.ref h.length), some (.int (iI ((I 27) - 1))), none]) (st' := [.int (iI ((I 27) - 1)), .ref (h.length + 17)]) rfl rfl ?_
  refine mi_ild rfl mh_a17 (by omega) (by omega) (by decide) ?_
  refine go_a (pc' := 14) (ls' := [some (.ref h.length), some (.int (iI ((I 27) - 1))), none]) (st' := [.int (iI 2), .int (iI (A 17 ((I 27) - 1)))]) rfl rfl ?_
  refine mi_ne (t := 26) rfl rfl (by omega) (by omega) (by omega) (by omega) (fun q => ?_) (fun q => ?_)
  · refine go_a (pc' := 27) (ls' := [some (.ref h.length), some (.int (iI ((I 27) - 1))), none]) (st' := [.int (iI 0)]) rfl rfl ?_
    refine go_a (pc' := 28) (ls' := [some (.ref h.length), some (.int (iI ((I 27) - 1))), some (.int (iI 0))]) (st' := []) rfl rfl ?_
    have key := mx_close_loop z d h R I A N hc hS hN hO ho hi h31 op hX hM kf lf ff rf hF wf ws hk (I 29 - A 16 (I 27 - 1)).toNat I A (I 29) (0) (sp_im kf lf) (by omega) (Int.le_refl _) (EX_rf hS) (by omega) rfl (by omega) (by omega) (by
      rw [if_neg q, VD_atom n0, if_pos rfl]
      omega) (by
      rw [if_neg q, WD_atom n0]
      omega) (by
      rw [op_n q, PT_atom n0]
      omega) ⟨GX_rf hX, id, hF.2.2.2.1.2, by omega, (RRm_v0 hM hF wf hk (by omega))⟩
    rw [su_eta rfl] at key
    exact key
  · have e2 : A 17 (I 27 - 1) = 2 := by omega
    have kl := k.2.2.2 e2
    refine go_a (pc' := 18) (ls' := [some (.ref h.length), some (.int (iI ((I 27) - 1))), none]) (st' := [.ref h.length]) rfl rfl ?_
    refine go_get rfl mh_o rfl rfl ?_
    refine go_a (pc' := 22) (ls' := [some (.ref h.length), some (.int (iI ((I 27) - 1))), none]) (st' := [.int (iI ((I 27) - 1)), .ref (h.length + 18)]) rfl rfl ?_
    refine mi_ild rfl mh_a18 (by omega) (by omega) (by decide) ?_
    refine go_a (pc' := 27) (ls' := [some (.ref h.length), some (.int (iI ((I 27) - 1))), none]) (st' := [.int (iI (A 18 ((I 27) - 1)))]) rfl rfl ?_
    refine go_a (pc' := 28) (ls' := [some (.ref h.length), some (.int (iI ((I 27) - 1))), some (.int (iI (A 18 ((I 27) - 1))))]) (st' := []) rfl rfl ?_
    have key := mx_close_loop z d h R I A N hc hS hN hO ho hi h31 op hX hM kf lf ff rf hF wf ws hk (I 29 - A 16 (I 27 - 1)).toNat I A (I 29) (A 18 (I 27 - 1)) (sp_im kf lf) (by omega) (Int.le_refl _) (EX_rf hS) (by omega) rfl (by omega) (by omega) (by
      rw [if_pos e2]
      have := VD_le hP kl.1 kl.2 n0 n2
      omega) (by
      rw [if_pos e2]
      omega) (by
      have pq := PT_b hP n0 n2 kl.1 kl.2
      have := op_le (a := A 17 (I 27 - 1)) (b := A 15 (I 27 - 1)) pq.2.2
      omega) ⟨GX_rf hX, id, hF.2.2.2.1.2, by omega, (RRm_v2 hF hk e2)⟩
    rw [su_eta rfl] at key
    exact key
