theorem px_lw {ft : Nat → Int} {fn : Nat} {ar : Int → Int} {o : Int} {I I1 : Nat → Int} {A A1 : Nat → Int → Int} {N : Int → Int} (hn : sp_arT ft (.var 31651) = 1) (fnn : fn ≠ 31651) (ht : 1 ≤ (sp_ts ft (DM A N o)).1) (sz : (sp_sz (DM A N o)).1 ≤ 120) (w0 : I 49 = 0) (px : PXI ar o 0 I A N I1 A1) (dd : ∀ e : Int, 0 ≤ e → e < I1 71 → DM A1 N (A1 39 e) = DM A N (A1 39 e)) : (∀ e : Int, 0 ≤ e → e < I1 71 → (∀ k : Int, 0 ≤ k → k < A1 41 e → (sp_cc fn (DM A1 N (A1 40 (64 * e + k)))).1 = []) ∧ ∀ b ∈ (sp_cc fn (DM A1 N (A1 39 e))).1, (sp_cc fn b).2 = []) ↔ sp_lw fn (DM A N o) := by
  have w1 := PXI_w px (wok_all hn ht sz) w0
  obtain ⟨P, S, ⟨pl, sl⟩, pp, -, pe, pw⟩ := px
  have S0 : S = [] := List.eq_nil_of_length_eq_zero (by omega)
  rw [S0] at pe
  have pe : P = sp_ph (DM A N o) := by
    rw [← pe]
    exact (List.append_nil P).symm
  refine lw_rows (ft := ft) (w := I1 49 = 0) hn fnn ht (by rw [← pe]; exact pl) w1 (fun p p0 p1 => ?_)
  obtain ⟨q, a, b, c⟩ := pp p.toNat (by omega)
  rw [show ((p.toNat : Nat) : Int) = p by omega] at b c
  rw [pe] at a
  exact ⟨q, a, by rw [dd p p0 p1]; exact b, c⟩
def FE2 (j : Nat) : Prop := j = 71 ∨ j = 49 ∨ j = 61 ∨ j = 76 ∨ j = 10
def GE2 (a : Nat) : Prop := GP a ∨ a = 35 ∨ a = 45
def DFL (ar : Int → Int) (I : Nat → Int) (A : Nat → Int → Int) (N : Int → Int) (I1 : Nat → Int) (A1 : Nat → Int → Int) : Prop := BX FE2 GE2 I A N I1 A1 N ∧ SZI ar I1 A1 ∧ (0 ≤ I1 49 ∧ I1 49 ≤ 4)
def DDN (ar : Int → Int) (m : Nat) (n l t : Int) (I : Nat → Int) (A : Nat → Int → Int) (N : Int → Int) (I1 : Nat → Int) (A1 : Nat → Int → Int) : Prop := ∃ (I3 : Nat → Int) (A3 : Nat → Int → Int) (g : Int → Int) (b : Int), I1 = su (su I3 32 (I3 32 + 1)) 41 (I3 41 + 1) ∧ A1 = sa (sa (sa (sa (sw (sa (sa A3 20 (I3 32) n) 21 (I3 32) m) 22 g) 23 (I3 32) t) 24 (I3 32) b) 27 (I3 41) 1) 28 (I3 41) (I3 46) ∧ DFL ar I A N I3 A3 ∧ I3 7 = I 7 ∧ I3 10 ≤ I 10 ∧ (∀ e : Int, 0 ≤ e → e < I 32 → A 20 e ≠ n) ∧ I 32 < 40 ∧ (∀ e : Int, e < 6 * I3 32 → g e = A3 22 e) ∧ (∀ j : Nat, j < m → g (6 * I3 32 + (j : Int)) = A 1 (rt A j l)) ∧ (b = 0 ∨ b = 1) ∧ NST A3 ar n t = 0
set_option maxRecDepth 4000 in
theorem mm_defun_rest (z : Value) (d m : Nat) (ar : Int → Int) (ft : Nat → Int) (fv : Nat) (o n l t : Int) (h R : xx_H) (I : Nat → Int) (A : Nat → Int → Int) (N : Int → Int) (hc : 12 ≤ h.length) (hS : MST I A N) (hN : NM I A) (hZ : SZI ar I A) (a3 : ar 3 = 3) (a15 : ar 15 = 1) (e49 : 0 ≤ I 49 ∧ I 49 ≤ 4) (e56 : I 56 = 0) (ho : I 7 + 484 ≤ 140000) (n1 : 16 < n) (n2 : n < I 7) (o0 : 0 ≤ o) (l0 : 0 ≤ l) (l1 : l < I 7) (hL : isL A m l) (m6 : m ≤ 6) (t0 : 0 ≤ t) (t1 : t < I 7) (t2 : 1 ≤ TZ A ar t) (t3 : TZ A ar t ≤ 120) (d32 : 0 ≤ I 32 ∧ I 32 ≤ 40) (d38 : 0 ≤ I 38 ∧ I 38 ≤ 60) (t41 : I 41 = I 32 + I 38) (h20 : ∀ e : Int, 0 ≤ e → e < I 32 → 0 ≤ A 20 e ∧ A 20 e < 140000) (hX : TRX I A N) (hK : ART ar ft I A N) (hs : 1 ≤ TS A ar t) (w0 : I 49 = 0) (ev : DM A N n = .var fv) : xx_go (xt_P z) (d + 9) 97 102 [some (.ref h.length), some (.int (iI o)), some (.int (iI n)), some (.int (iI l)), some (.int (iI t)), none, none, none] [] (mh h R I A N) (fun v h1 => ∃ (b : Int) (I1 : Nat → Int) (A1 : Nat → Int → Int), v = some (.int (iI b)) ∧ h1 = mh h R I1 A1 N ∧ (0 ≤ b ∧ b ≤ 8) ∧ ((DFL ar I A N I1 A1 ∧ ¬ (sp_lw fv (DM A N t) ∧ (∀ e : Int, 0 ≤ e → e < I 32 → A 20 e ≠ n) ∧ I 32 < 40)) ∨ (DDN ar m n l t I A N I1 A1 ∧ sp_lw fv (DM A N t) ∧ (A1 24 (I1 32 - 1) ≠ 0 ↔ (sp_cc fv (DM A N t)).1 ≠ [])))) := by
  have hP := MST_PW hS
  have p9 := hP.1
  have n0 : A 1 0 < 0 := by rw [hN.2 0 (by decide) (by decide)]; decide
  refine go_a (pc' := 103) (ls' := [some (.ref h.length), some (.int (iI o)), some (.int (iI n)), some (.int (iI l)), some (.int (iI t)), none, none, none]) (st' := [.ref h.length]) rfl rfl ?_
  refine go_get (v := .int (iI (I 7))) rfl mh_o rfl rfl ?_
  refine go_a (pc' := 108) (ls' := [some (.ref h.length), some (.int (iI o)), some (.int (iI n)), some (.int (iI l)), some (.int (iI t)), some (.int (iI (I 7))), none, none]) (st' := []) rfl rfl ?_
  refine go_a (pc' := 109) (ls' := [some (.ref h.length), some (.int (iI o)), some (.int (iI n)), some (.int (iI l)), some (.int (iI t)), some (.int (iI (I 7))), none, none]) (st' := [.ref h.length]) rfl rfl ?_
  refine go_a (pc' := 111) (ls' := [some (.ref h.length), some (.int (iI o)), some (.int (iI n)), some (.int (iI l)), some (.int (iI t)), some (.int (iI (I 7))), none, none]) (st' := [.int (iI t), .ref h.length]) rfl rfl ?_
  refine go_v (m := 122) (as := [.ref h.length, .int (iI t)]) (r := []) rfl rfl rfl mh_o rfl rfl (mm_pathsOf z d ar t (TZ A ar t) h R I A N hc hS hN hX a3 a15 (by omega) (by omega) ho t3 hZ hs t0 t1 t2 rfl e49.1 e49.2) (fun v h1 hq => ?_)
  obtain ⟨rfl, I1, A1, rfl, p, px⟩ := hq
  show xx_go (xt_P z) (d + 9) 97 114 [some (.ref h.length), some (.int (iI o)), some (.int (iI n)), some (.int (iI l)), some (.int (iI t)), some (.int (iI (I 7))), none, none] [] (mh h R I1 A1 N) _
  have X := p.1.1
  have Z1 := p.1.2
  have u1 := p.2.1.1
  have x7 := X.2.1
  have P1 := MST_PW X.1
  have p91 := P1.1
  have nn1 : A1 1 0 < 0 := by rw [(X.2.2.1 0 (by decide) (by omega)).1]; exact n0
  have n7 := hN.1
  have T1 : TRX I1 A1 N := TRX_BX hS hN hX X (by unfold FP; omega) (by unfold GP; omega) (by unfold GP; omega)
  have N1 : NM I1 A1 := NM_BX2 hN X
  have dd1 : ∀ x : Int, 0 ≤ x → x < I 7 → DM A1 N x = DM A N x := fun x x0 x1 => DM_BX hS hX X (by unfold FP; omega) (by unfold GP; omega) (by unfold GP; omega) x0 x1
  have nt : sp_arT ft (.var 31651) = 1 := by
    have q := hK 15 (by decide) (by omega)
    rw [a15, show DM A N 15 = .var 31651 from hX.2 15 (by decide)] at q
    exact q.symm
  have fnn : fv ≠ 31651 := fun c => by
    rw [c] at ev
    have := DM_inj ⟨hS, hX.1⟩ (by omega) n2 (by decide : (0 : Int) ≤ 15) (by omega) (ev.trans (show DM A N 15 = .var 31651 from hX.2 15 (by decide)).symm)
    omega
  have hbt : 1 ≤ (sp_ts ft (DM A N t)).1 := by
    rw [TS_1 hS hN hX hK t0 t1]
    exact hs
  have szb : (sp_sz (DM A N t)).1 ≤ 120 := by
    rw [TZ_1 (ar := ar) hS hN hX t0 t1 t2]
    exact t3
  have lw : (∀ e : Int, 0 ≤ e → e < I1 71 → (∀ k : Int, 0 ≤ k → k < A1 41 e → (sp_cc fv (DM A1 N (A1 40 (64 * e + k)))).1 = []) ∧ ∀ b ∈ (sp_cc fv (DM A1 N (A1 39 e))).1, (sp_cc fv b).2 = []) ↔ sp_lw fv (DM A N t) := px_lw (fn := fv) nt fnn hbt szb w0 px (fun e e0 e1 => dd1 _ (p.2.2.2.1 e e0 e1).1.1.1 (p.2.2.2.1 e e0 e1).1.1.2)
  have EE := PTH_EN hP p t3
  have sm := p.2.2.2.2.2.1 (NT A1 (wy A1 ar n))
  have x32 : I1 32 = I 32 := X.2.2.2.1 32 (by decide) (by unfold FP; omega)
  have x38 : I1 38 = I 38 := X.2.2.2.1 38 (by decide) (by unfold FP; omega)
  have x41 : I1 41 = I 41 := X.2.2.2.1 41 (by decide) (by unfold FP; omega)
  refine go_a (pc' := 115) (ls' := [some (.ref h.length), some (.int (iI o)), some (.int (iI n)), some (.int (iI l)), some (.int (iI t)), some (.int (iI (I 7))), none, none]) (st' := [.ref h.length]) rfl rfl ?_
  refine go_a (pc' := 116) (ls' := [some (.ref h.length), some (.int (iI o)), some (.int (iI n)), some (.int (iI l)), some (.int (iI t)), some (.int (iI (I 7))), none, none]) (st' := [.int (iI n), .ref h.length]) rfl rfl ?_
  refine go_v (m := 129) (as := [.ref h.length, .int (iI n)]) (r := []) rfl rfl rfl mh_o rfl rfl (mm_areApartX z (d + 4) ar fv n h R I1 A1 N hc P1 nn1 (by omega) (by omega) EE X.1 N1 T1 (by rw [dd1 n (by omega) n2]; exact ev) (by omega)) (fun v h1 hq => ?_)
  obtain ⟨I2, A2, rfl, Y, hv⟩ := hq
  have Y2 : BX FE2 GE2 I1 A1 N I2 A2 N := BX_of X.1 (fun j q => Y.1 j (fun e => q (by unfold FE2; omega)) (fun e => q (by unfold FE2; omega))) (fun a q => Y.2 a (fun e => q (Or.inr (Or.inl e))) (fun e => q (Or.inr (Or.inr e)))) (Y.1 7 (by decide) (by decide)) (Y.1 10 (by decide) (by decide)) (Y.2 1 (by decide) (by decide)) (Y.2 2 (by decide) (by decide)) (Y.2 3 (by decide) (by decide)) (Y.2 4 (by decide) (by decide)) (Y.2 5 (by decide) (by decide)) (Y.2 7 (by decide) (by decide)) (Y.2 8 (by decide) (by decide)) (Y.2 9 (by decide) (by decide))
  have X2 : BX FE2 GE2 I A N I2 A2 N := BX_tr (BX_w2 (fun j q => by unfold FP at q; unfold FE2; omega) (fun a q => Or.inl q) X) Y2
  have y7 : I2 7 = I1 7 := Y.1 7 (by decide) (by decide)
  have Z2 : SZI ar I2 A2 := SZI_124 (I := I1) (I1 := I2) (A := A1) (A1 := A2) Z1 (Y.2 1 (by decide) (by decide)) (Y.2 2 (by decide) (by decide)) (Y.2 4 (by decide) (by decide)) y7
  have y32 : I2 32 = I1 32 := Y.1 32 (by decide) (by decide)
  have y38 : I2 38 = I1 38 := Y.1 38 (by decide) (by decide)
  have y41 : I2 41 = I1 41 := Y.1 41 (by decide) (by decide)
  have y49 : I2 49 = I1 49 := Y.1 49 (by decide) (by decide)
  have P2 := MST_PW X2.1
  have D2 : DFL ar I A N I2 A2 := ⟨X2, Z2, by rw [y49]; exact u1⟩
  have r20 : A2 20 = A 20 := by
    rw [Y.2 20 (by decide) (by decide)]
    exact X.2.2.2.2 20 (by decide) (by decide) (by decide) (by decide) (by decide) (by decide) (by unfold GP; omega)
  have T2 : TRX I2 A2 N := (TRX_px X.1 T1 (by omega) (by omega) (fun k _ _ => ⟨congrFun (Y.2 1 (by decide) (by decide)) k, congrFun (Y.2 2 (by decide) (by decide)) k, rfl⟩) (Y.2 8 (by decide) (by decide)) (Y.2 9 (by decide) (by decide))).1
  have d2 : DM A2 N = DM A1 N := DM_12 (A := A1) (A1 := A2) (Y.2 1 (by decide) (by decide)) (Y.2 2 (by decide) (by decide)) (Y.2 8 (by decide) (by decide)) (Y.2 9 (by decide) (by decide))
  rcases hv with ⟨rfl, bw⟩ | ⟨rfl, hz, gd⟩
  · show xx_go (xt_P z) (d + 9) 97 119 [some (.ref h.length), some (.int (iI o)), some (.int (iI n)), some (.int (iI l)), some (.int (iI t)), some (.int (iI (I 7))), none, none] [.int (iI 0)] (mh h R I2 A2 N) _
    refine mi_ne0 (t := 124) rfl rfl (by omega) (by omega) (fun q => absurd rfl q) (fun _ => ?_)
    refine go_a (pc' := 123) (ls' := [some (.ref h.length), some (.int (iI o)), some (.int (iI n)), some (.int (iI l)), some (.int (iI t)), some (.int (iI (I 7))), none, none]) (st' := [.int (iI 2)]) rfl rfl ?_
    have nl : ¬ sp_lw fv (DM A N t) := fun q => by
      have gd := lw.mpr q
      obtain ⟨e, e0, e1⟩ := bw
      rcases e1 with ⟨k, k0, k1⟩ | ⟨b, b0, b1⟩
      · exact k1 ((gd e e0.1 e0.2).1 k k0.1 k0.2)
      · exact b1 ((gd e e0.1 e0.2).2 b b0)
    exact go_r rfl rfl rfl rfl rfl rfl ⟨2, I2, A2, rfl, rfl, by decide, Or.inl ⟨D2, fun q => nl q.1⟩⟩
  · show xx_go (xt_P z) (d + 9) 97 119 [some (.ref h.length), some (.int (iI o)), some (.int (iI n)), some (.int (iI l)), some (.int (iI t)), some (.int (iI (I 7))), none, none] [.int (iI 1)] (mh h R I2 A2 N) _
    refine mi_ne0 (t := 124) rfl rfl (by omega) (by omega) (fun _ => ?_) (fun q => absurd q (by decide))
    refine go_a (pc' := 125) (ls' := [some (.ref h.length), some (.int (iI o)), some (.int (iI n)), some (.int (iI l)), some (.int (iI t)), some (.int (iI (I 7))), none, none]) (st' := [.ref h.length]) rfl rfl ?_
    refine go_a (pc' := 126) (ls' := [some (.ref h.length), some (.int (iI o)), some (.int (iI n)), some (.int (iI l)), some (.int (iI t)), some (.int (iI (I 7))), none, none]) (st' := [.int (iI n), .ref h.length]) rfl rfl ?_
    refine go_v (m := 132) (as := [.ref h.length, .int (iI n)]) (r := []) rfl rfl rfl mh_o rfl rfl (mm_definitionF z (d + 8) n h R I2 A2 N hc (by omega) (by omega) (by omega) (by omega) (fun e a b => by rw [r20]; exact h20 e a (by omega))) (fun v h1 hq => ?_)
    obtain ⟨⟨q, rfl, hq⟩, rfl⟩ := hq
    have rq : -1 ≤ q ∧ q ≤ 40 := by
      rcases hq with e | e
      · have := e.1
        omega
      · have := e.1
        have := e.2.1
        omega
    show xx_go (xt_P z) (d + 9) 97 129 [some (.ref h.length), some (.int (iI o)), some (.int (iI n)), some (.int (iI l)), some (.int (iI t)), some (.int (iI (I 7))), none, none] [.int (iI q)] (mh h R I2 A2 N) _
    refine go_a (pc' := 130) (ls' := [some (.ref h.length), some (.int (iI o)), some (.int (iI n)), some (.int (iI l)), some (.int (iI t)), some (.int (iI (I 7))), none, none]) (st' := [.int (iI ((-1))), .int (iI q)]) rfl rfl ?_
    refine mi_eq (t := 135) rfl rfl (by omega) (by omega) (by omega) (by omega) (fun e1 => ?_) (fun e1 => ?_)
    · have nq : ∀ e : Int, 0 ≤ e → e < I 32 → A 20 e ≠ n := by
        rcases hq with e | e
        · intro y y0 y1
          rw [← r20]
          exact e.2 y y0 (by omega)
        · have := e.1
          omega
      refine go_a (pc' := 136) (ls' := [some (.ref h.length), some (.int (iI o)), some (.int (iI n)), some (.int (iI l)), some (.int (iI t)), some (.int (iI (I 7))), none, none]) (st' := [.ref h.length]) rfl rfl ?_
      refine go_get (v := .int (iI (I2 32))) rfl mh_o rfl rfl ?_
      refine go_a (pc' := 141) (ls' := [some (.ref h.length), some (.int (iI o)), some (.int (iI n)), some (.int (iI l)), some (.int (iI t)), some (.int (iI (I 7))), none, none]) (st' := [.int (iI 40), .int (iI (I2 32))]) rfl rfl ?_
      refine mi_ne (t := 147) rfl rfl (by omega) (by omega) (by omega) (by omega) (fun e2 => ?_) (fun e2 => ?_)
      · have tt : TZ A2 ar t = TZ A ar t := (TZ_BX hP X2 t0 t1).1 t2
        have z2 : A2 1 0 < 0 := by rw [(X2.2.2.1 0 (by decide) (by omega)).1]; exact n0
        refine go_a (pc' := 148) (ls' := [some (.ref h.length), some (.int (iI o)), some (.int (iI n)), some (.int (iI l)), some (.int (iI t)), some (.int (iI (I 7))), none, none]) (st' := [.ref h.length]) rfl rfl ?_
        refine go_a (pc' := 150) (ls' := [some (.ref h.length), some (.int (iI o)), some (.int (iI n)), some (.int (iI l)), some (.int (iI t)), some (.int (iI (I 7))), none, none]) (st' := [.int (iI t), .ref h.length]) rfl rfl ?_
        refine go_a (pc' := 151) (ls' := [some (.ref h.length), some (.int (iI o)), some (.int (iI n)), some (.int (iI l)), some (.int (iI t)), some (.int (iI (I 7))), none, none]) (st' := [.int (iI n), .int (iI t), .ref h.length]) rfl rfl ?_
        refine go_v (m := 130) (as := [.ref h.length, .int (iI t), .int (iI n)]) (r := []) rfl rfl rfl mh_o rfl rfl (mm_hasCallX z (d + 5) ar t n h R I2 A2 N hc P2 z2 t0 (by omega) (by omega) (by omega) (by omega) (by omega)) (fun v h1 hq => ?_)
        obtain ⟨⟨b, hb, rfl⟩, I3, A3, rfl, W⟩ := hq
        have b01 : b = 0 ∨ b = 1 := by
          rcases hb with q | q
          · exact Or.inl q.1
          · exact Or.inr q.1
        have bc : b ≠ 0 ↔ (sp_cc fv (DM A N t)).1 ≠ [] := by
          have dt : DM A2 N t = DM A N t := by rw [d2]; exact dd1 t t0 t1
          have dn : DM A2 N n = .var fv := by rw [d2, dd1 n (by omega) n2]; exact ev
          have N2 : NM I2 A2 := NM_BX2 hN X2
          rw [← dt]
          rcases hb with q | q
          · have := hc_0 X2.1 N2 T2 (by omega) (by omega) dn (by omega) t0 (by omega) q.2
            exact ⟨fun c => absurd q.1 c, fun c => absurd this c⟩
          · have := hc_1 X2.1 N2 T2 (by omega) (by omega) dn (by omega) t0 (by omega) q.2
            exact ⟨fun _ => this, fun _ c => by omega⟩
        show xx_go (xt_P z) (d + 9) 97 154 [some (.ref h.length), some (.int (iI o)), some (.int (iI n)), some (.int (iI l)), some (.int (iI t)), some (.int (iI (I 7))), none, none] [.int (iI b)] (mh h R I3 A3 N) _
        have W2 : BX FE2 GE2 I2 A2 N I3 A3 N := BX_of X2.1 (fun j q => W.1 j (fun e => q (by unfold FE2; omega))) (fun a q => W.2 a (fun e => q (Or.inr (Or.inl e)))) (W.1 7 (by decide)) (W.1 10 (by decide)) (W.2 1 (by decide)) (W.2 2 (by decide)) (W.2 3 (by decide)) (W.2 4 (by decide)) (W.2 5 (by decide)) (W.2 7 (by decide)) (W.2 8 (by decide)) (W.2 9 (by decide))
        have X3 := BX_tr X2 W2
        have Z3 : SZI ar I3 A3 := SZI_124 (I := I2) (I1 := I3) (A := A2) (A1 := A3) Z2 (W.2 1 (by decide)) (W.2 2 (by decide)) (W.2 4 (by decide)) (W.1 7 (by decide))
        have w7 : I3 7 = I2 7 := W.1 7 (by decide)
        have w32 : I3 32 = I2 32 := W.1 32 (by decide)
        have w38 : I3 38 = I2 38 := W.1 38 (by decide)
        have w41 : I3 41 = I2 41 := W.1 41 (by decide)
        have w49 : I3 49 = I2 49 := W.1 49 (by decide)
        refine go_a (pc' := 156) (ls' := [some (.ref h.length), some (.int (iI o)), some (.int (iI n)), some (.int (iI l)), some (.int (iI t)), some (.int (iI (I 7))), some (.int (iI b)), none]) (st' := []) rfl rfl ?_
        refine mm_defun_keep z (d + 5) m o n l t (I 7) b h R I3 A3 N hc X3.1 (by rw [W.2 1 (by decide)]; exact z2) o0 l0 l1 (by omega) (isL_extB hP X3 m l l0 l1 hL) m6 (by omega) (by omega) b01 (by omega) (by omega) _ (fun I4 A4 g S4 e7 g10 ef ea q1 q2 => ?_)
        have X4 := BX_w2 (F2 := FE2) (G2 := GE2) (fun j q => by
          rcases q with q | q
          · exact q
          · unfold FE2; omega) (fun a q => q) (BX_forget X3 S4 e7 ef ea)
        have Z4 : SZI ar I4 A4 := SZI_forget Z3 (by omega) ea
        have e49b : I4 49 = I3 49 := ef 49 (by decide) (by decide)
        have x10 : I3 10 = I 10 := by
          rw [W.1 10 (by decide), Y.1 10 (by decide) (by decide)]
          exact X.2.2.2.1 10 (by decide) (by unfold FP; omega)
        refine ⟨0, _, _, rfl, rfl, by decide, Or.inr ⟨⟨I4, A4, g, b, rfl, rfl, ⟨X4, Z4, by omega⟩, e7, by omega, nq, by omega, q1, fun j q => (q2 j q).trans ?_, b01, ?_⟩, lw.mp gd, ?_⟩⟩
        rotate_left 2
        · show sf (A4 24) (I4 32) b (I4 32 + 1 - 1) ≠ 0 ↔ _
          rw [show I4 32 + 1 - 1 = I4 32 by omega, sf_self]
          exact bc
        · have r := isL_rt hP m j l l0 l1 hL q
          rw [rt_extB hP X3 m j l l0 l1 hL (by omega), (X3.2.2.1 _ r.1 (by omega)).1]
        · rw [NST_BX (by omega) hP n0 a3 X4 t0 t1 t2]
          have e1 : SG (NT A1 (wy A1 ar n)) (A1 39) (I1 71).toNat = 0 := by
            rw [SG_congr (g1 := fun _ => 0) (f1 := A1 39) (I1 71).toNat (fun e q => hz e (by omega) (by omega))]
            exact SG_zero _
          have e2 : PS A (NT A1 (wy A1 ar n)) t = NST A ar n t := PS_extT (A := A) (A1 := A) (ar := ar) hP n0 a3 (fun _ _ _ => ⟨rfl, rfl⟩) (fun k a b c => NTwy_px (ar := ar) (ar1 := ar) (by omega) hP (fun k a b => ⟨(X.2.2.1 k a b).1, (X.2.2.1 k a b).2.1, (X.2.2.1 k a b).2.2.2⟩) ARX_rf k a b c) _ t t0 t1 t2
          have e3 : SG (PS A (NT A1 (wy A1 ar n))) (A1 42) (0 : Int).toNat = 0 := rfl
          omega
      · refine go_a (pc' := 146) (ls' := [some (.ref h.length), some (.int (iI o)), some (.int (iI n)), some (.int (iI l)), some (.int (iI t)), some (.int (iI (I 7))), none, none]) (st' := [.int (iI 8)]) rfl rfl ?_
        exact go_r rfl rfl rfl rfl rfl rfl ⟨8, I2, A2, rfl, rfl, by decide, Or.inl ⟨D2, fun c => by have := c.2.2; omega⟩⟩
    · refine go_a (pc' := 134) (ls' := [some (.ref h.length), some (.int (iI o)), some (.int (iI n)), some (.int (iI l)), some (.int (iI t)), some (.int (iI (I 7))), none, none]) (st' := [.int (iI 3)]) rfl rfl ?_
      exact go_r rfl rfl rfl rfl rfl rfl ⟨3, I2, A2, rfl, rfl, by decide, Or.inl ⟨D2, fun c => by rcases hq with e | e; exact e1 e.1; exact c.2.1 q e.1 (by omega) (by rw [← r20]; exact e.2.2.1)⟩⟩

