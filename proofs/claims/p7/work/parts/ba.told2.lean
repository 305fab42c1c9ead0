def CON (A : Nat → Int → Int) (x : Int) : Prop := A 1 x = -1 ∨ x = 0 ∨ x = 1 ∨ (A 1 x = 2 ∧ 0 ≤ A 1 (A 2 x) ∧ A 2 (A 2 x) = 0)
theorem CON_val {I : Nat → Int} {A : Nat → Int → Int} {x : Int} (hN : NM I A) (h : CON A x) : 0 ≤ A 1 x → 0 ≤ A 1 (A 2 x) := by
  intro p
  rcases h with h | h | h | h
  · omega
  · rw [h, hN.2 0 (by decide) (by decide)] at p
    omega
  · rw [h, hN.2 1 (by decide) (by decide)] at p
    omega
  · exact h.2.1
def FV (j : Nat) : Prop := j = 65
def GV (a : Nat) : Prop := a = 37
theorem mm_areCon_loop (z : Value) (d : Nat) (u : Int) (h R : xx_H) (I : Nat → Int) (A : Nat → Int → Int) (N : Int → Int) (hc : 12 ≤ h.length) (hP : PW I A) (n0 : A 1 0 < 0) : ∀ (m : Nat) (k : Int), 0 ≤ k → k < I 7 → isL A m k → xx_go (xt_P z) (d + 3) 142 7 [some (.ref h.length), some (.int (iI u)), some (.int (iI k))] [] (mh h R I A N) (fun v h1 => ((v = some (.int (iI 0)) ∧ ∃ j : Nat, j < m ∧ ¬ CON A (A 1 (rt A j k))) ∨ (v = some (.int (iI 1)) ∧ ∀ j : Nat, j < m → CON A (A 1 (rt A j k)))) ∧ h1 = mh h R I A N) := by
  have p1 := hP.1
  intro m
  induction m with
  | zero =>
    intro k k0 k1 hL
    have e : k = 0 := hL
    subst e
    refine go_a (pc' := 8) (ls' := [some (.ref h.length), some (.int (iI u)), some (.int (iI 0))]) (st' := [.int (iI 0)]) rfl rfl ?_
    refine mi_eq0 (t := 36) rfl rfl (by omega) (by omega) (fun _ => ?_) (fun e => absurd rfl e)
    refine go_a (pc' := 37) (ls' := [some (.ref h.length), some (.int (iI u)), some (.int (iI 0))]) (st' := [.int (iI 1)]) rfl rfl ?_
    exact go_r rfl rfl rfl rfl rfl rfl ⟨Or.inr ⟨rfl, fun j hj => absurd hj (by omega)⟩, rfl⟩
  | succ m ih =>
    intro k k0 k1 hL
    have pk := hL.1
    have q := hP.2 k k0 k1
    have q2 := q.2.2.2.2 pk
    have kz : k ≠ 0 := by
      intro e
      rw [e] at pk
      omega
    refine go_a (pc' := 8) (ls' := [some (.ref h.length), some (.int (iI u)), some (.int (iI k))]) (st' := [.int (iI k)]) rfl rfl ?_
    refine mi_eq0 (t := 36) rfl rfl (by omega) (by omega) (fun e => absurd e kz) (fun _ => ?_)
    refine go_a (pc' := 12) (ls' := [some (.ref h.length), some (.int (iI u)), some (.int (iI k))]) (st' := [.ref h.length]) rfl rfl ?_
    refine go_a (pc' := 13) (ls' := [some (.ref h.length), some (.int (iI u)), some (.int (iI k))]) (st' := [.ref h.length, .ref h.length]) rfl rfl ?_
    refine go_get rfl mh_o rfl rfl ?_
    refine go_a (pc' := 17) (ls' := [some (.ref h.length), some (.int (iI u)), some (.int (iI k))]) (st' := [.int (iI k), .ref (h.length + 1), .ref h.length]) rfl rfl ?_
    refine mi_ild rfl mh_a1 (by omega) (by omega) (by decide) ?_
    refine go_v (m := 126) (as := [.ref h.length, .int (iI (A 1 k))]) (r := []) rfl rfl rfl mh_o rfl rfl (mb_isConstant z d (A 1 k) h R I A N hc hP pk (by omega)) (fun v h1 hq => ?_)
    obtain ⟨⟨b, rfl, hb⟩, rfl⟩ := hq
    have br : b = 0 ∨ b = 1 := by
      rcases hb with hb | hb
      · exact Or.inr hb.1
      · exact Or.inl hb.1
    show xx_go (xt_P z) (d + 3) 142 21 [some (.ref h.length), some (.int (iI u)), some (.int (iI k))] [.int (iI b)] (mh h R I A N) _
    refine mi_ne0 (t := 26) rfl rfl (by omega) (by omega) (fun e => ?_) (fun e => ?_)
    · have cn : CON A (A 1 k) := by
        rcases hb with hb | hb
        · exact hb.2
        · exact absurd hb.1 e
      refine go_a (pc' := 27) (ls' := [some (.ref h.length), some (.int (iI u)), some (.int (iI k))]) (st' := [.ref h.length]) rfl rfl ?_
      refine go_get rfl mh_o rfl rfl ?_
      refine go_a (pc' := 31) (ls' := [some (.ref h.length), some (.int (iI u)), some (.int (iI k))]) (st' := [.int (iI k), .ref (h.length + 2)]) rfl rfl ?_
      refine mi_ild rfl mh_a2 (by omega) (by omega) (by decide) ?_
      refine go_a (pc' := 33) (ls' := [some (.ref h.length), some (.int (iI u)), some (.int (iI (A 2 k)))]) (st' := []) rfl rfl ?_
      refine go_a (pc' := 7) (ls' := [some (.ref h.length), some (.int (iI u)), some (.int (iI (A 2 k)))]) (st' := []) rfl rfl ?_
      refine go_w (fun v h1 hq => ?_) (ih (A 2 k) (by omega) (by omega) hL.2)
      refine ⟨?_, hq.2⟩
      rcases hq.1 with hq | hq
      · obtain ⟨hq, j, hj, hn⟩ := hq
        exact Or.inl ⟨hq, j + 1, by omega, hn⟩
      · refine Or.inr ⟨hq.1, fun j hj => ?_⟩
        match j, hj with
        | 0, _ => exact cn
        | j + 1, hj => exact hq.2 j (by omega)
    · have nc : ¬ CON A (A 1 k) := by
        rcases hb with hb | hb
        · omega
        · exact hb.2
      refine go_a (pc' := 25) (ls' := [some (.ref h.length), some (.int (iI u)), some (.int (iI k))]) (st' := [.int (iI 0)]) rfl rfl ?_
      exact go_r rfl rfl rfl rfl rfl rfl ⟨Or.inl ⟨rfl, 0, by omega, nc⟩, rfl⟩
theorem mm_areConstants (z : Value) (d m : Nat) (u : Int) (h R : xx_H) (I : Nat → Int) (A : Nat → Int → Int) (N : Int → Int) (hc : 12 ≤ h.length) (hP : PW I A) (n0 : A 1 0 < 0) (k0 : 0 ≤ u) (k1 : u < I 7) (e0 : 0 ≤ A 2 u) (e1 : A 2 u < I 7) (hL : isL A m (A 2 u)) : xx_cl (xt_P z) (d + 4) 142 [.ref h.length, .int (iI u)] (mh h R I A N) (fun v h1 => ((v = some (.int (iI 0)) ∧ ∃ j : Nat, j < m ∧ ¬ CON A (A 1 (rt A j (A 2 u)))) ∨ (v = some (.int (iI 1)) ∧ ∀ j : Nat, j < m → CON A (A 1 (rt A j (A 2 u))))) ∧ h1 = mh h R I A N) := by
  have p1 := hP.1
  refine cl_go rfl ?_
  show xx_go (xt_P z) (d + 3) 142 0 [some (.ref h.length), some (.int (iI u)), none] [] (mh h R I A N) _
  refine go_a (pc' := 1) (ls' := [some (.ref h.length), some (.int (iI u)), none]) (st' := [.ref h.length]) rfl rfl ?_
  refine go_get rfl mh_o rfl rfl ?_
  refine go_a (pc' := 5) (ls' := [some (.ref h.length), some (.int (iI u)), none]) (st' := [.int (iI u), .ref (h.length + 2)]) rfl rfl ?_
  refine mi_ild rfl mh_a2 (by omega) (by omega) (by decide) ?_
  refine go_a (pc' := 7) (ls' := [some (.ref h.length), some (.int (iI u)), some (.int (iI (A 2 u)))]) (st' := []) rfl rfl ?_
  exact mm_areCon_loop z d u h R I A N hc hP n0 m (A 2 u) e0 e1 hL
theorem mm_conVal_loop (z : Value) (d m : Nat) (ar : Int → Int) (u f : Int) (h R : xx_H) (I : Nat → Int) (A : Nat → Int → Int) (N : Int → Int) (hc : 12 ≤ h.length) (hS : MST I A N) (hN : NM I A) (hZ : SZI ar I A) (ho : I 7 < 140000) (f4 : 4 ≤ f) (f16 : f ≤ 16) (e0 : 0 ≤ A 2 u) (e1 : A 2 u < I 7) (hL : isL A m (A 2 u)) (m3 : m ≤ 3) (m1 : 1 ≤ m) (m2 : f ≤ 9 → 2 ≤ m) (hC : ∀ j : Nat, j < m → CON A (A 1 (rt A j (A 2 u)))) : ∀ (n c : Nat) (I1 : Nat → Int) (A1 : Nat → Int → Int), c + n = m → ((∀ j : Nat, j ≠ 65 → I1 j = I j) ∧ ∀ a : Nat, a ≠ 37 → A1 a = A a) → I1 65 = c → (∀ e : Nat, e < c → A1 37 e = vl A (A 1 (rt A e (A 2 u)))) → xx_go (xt_P z) (d + 4) 144 12 [some (.ref h.length), some (.int (iI u)), some (.int (iI f)), some (.int (iI (rt A c (A 2 u))))] [] (mh h R I1 A1 N) (fun v h1 => ∃ (t : Int) (I1 : Nat → Int) (A1 : Nat → Int → Int) (N1 : Int → Int), v = some (.int (iI t)) ∧ h1 = mh h R I1 A1 N1 ∧ BX FV GV I A N I1 A1 N1 ∧ SZI ar I1 A1 ∧ I1 7 ≤ I 7 + 1 ∧ ((t = -1 ∧ f = 7 ∧ 4611686018427387903 < nof A N (vl A (A 1 (rt A 0 (A 2 u)))) + nof A N (vl A (A 1 (rt A 1 (A 2 u))))) ∨ ((0 ≤ t ∧ t < I1 7) ∧ (f = 7 → nof A N (vl A (A 1 (rt A 0 (A 2 u)))) + nof A N (vl A (A 1 (rt A 1 (A 2 u)))) ≤ 4611686018427387903)))) := by
  have hP := MST_PW hS
  have p1 := hP.1
  have n0 : A 1 0 < 0 := by rw [hN.2 0 (by decide) (by decide)]; decide
  have vr : ∀ e : Nat, e < m → 0 ≤ vl A (A 1 (rt A e (A 2 u))) ∧ vl A (A 1 (rt A e (A 2 u))) < I 7 := fun e he => by
    have r := isL_rt hP m e (A 2 u) e0 e1 hL he
    have q := hP.2 _ r.1 (by omega : rt A e (A 2 u) < I 7)
    exact vl_rng hP r.2.2 (by omega) (CON_val hN (hC e he))
  intro n
  induction n with
  | zero =>
    intro c I1 A1 cm X e65 hv
    have e7 : I1 7 = I 7 := X.1 7 (by decide)
    have f1 : A1 1 = A 1 := X.2 1 (by decide)
    have ez : rt A c (A 2 u) = 0 := by
      rw [show c = m by omega]
      exact isL_end m _ hL
    have S1 : MST I1 A1 N := MST_congr hS e7 (X.1 10 (by decide)) f1 (X.2 2 (by decide)) (X.2 3 (by decide)) (X.2 4 (by decide)) (X.2 5 (by decide)) (X.2 7 (by decide)) (X.2 8 (by decide)) (X.2 9 (by decide))
    have N1 : NM I1 A1 := ⟨by rw [e7]; exact hN.1, fun k k0 k1 => by rw [f1]; exact hN.2 k k0 k1⟩
    have Z1 : SZI ar I1 A1 := SZI_124 hZ f1 (X.2 2 (by decide)) (X.2 4 (by decide)) e7
    have B1 : BX FV GV I A N I1 A1 N := ⟨S1, by omega, fun k _ _ => ⟨by rw [f1], by rw [X.2 2 (by decide)], rfl, fun e => by rw [X.2 4 (by decide)]; exact e⟩, fun j _ q => X.1 j (fun e => q e), fun a _ _ _ _ _ _ q => X.2 a (fun e => q e)⟩
    have g0 : A1 37 0 = vl A (A 1 (rt A 0 (A 2 u))) := hv 0 (by omega)
    have r0 := vr 0 (by omega)
    have nofx : ∀ x : Int, nof A1 N x = nof A N x := fun x => by unfold nof; rw [f1]
    have g1 : f ≤ 9 → A1 37 1 = vl A (A 1 (rt A 1 (A 2 u))) := fun q => hv 1 (by have := m2 q; omega)
    have r1 : f ≤ 9 → 0 ≤ vl A (A 1 (rt A 1 (A 2 u))) ∧ vl A (A 1 (rt A 1 (A 2 u))) < I 7 := fun q => vr 1 (by have := m2 q; omega)
    rw [ez]
    refine go_a (pc' := 13) (ls' := [some (.ref h.length), some (.int (iI u)), some (.int (iI f)), some (.int (iI 0))]) (st' := [.int (iI 0)]) rfl rfl ?_
    refine mi_eq0 (t := 55) rfl rfl (by omega) (by omega) (fun _ => ?_) (fun e => absurd rfl e)
    refine go_a (pc' := 56) (ls' := [some (.ref h.length), some (.int (iI u)), some (.int (iI f)), some (.int (iI 0))]) (st' := [.ref h.length]) rfl rfl ?_
    refine go_a (pc' := 57) (ls' := [some (.ref h.length), some (.int (iI u)), some (.int (iI f)), some (.int (iI 0))]) (st' := [.int (iI f), .ref h.length]) rfl rfl ?_
    refine go_a (pc' := 58) (ls' := [some (.ref h.length), some (.int (iI u)), some (.int (iI f)), some (.int (iI 0))]) (st' := [.int (iI 0), .int (iI f), .ref h.length]) rfl rfl ?_
    refine go_v (m := 145) (as := [.ref h.length, .int (iI f), .int (iI 0)]) (r := []) rfl rfl rfl mh_o rfl rfl (mm_basic FV GV z (d + 1) ar f h R I1 A1 N hc S1 N1 Z1 (by omega) f4 f16 (by rw [g0]; exact r0.1) (by rw [g0]; omega) (fun q => by rw [g1 q]; have := r1 q; omega)) (fun v h1 hq => ?_)
    rcases hq with ⟨rfl, rfl, ef, es⟩ | ⟨t, I2, A2, N2, rfl, rfl, X2, Z2, t0, t1, t7, es⟩
    · rw [nofx, nofx, g0, g1 (by omega)] at es
      show xx_go (xt_P z) (d + 4) 144 61 [some (.ref h.length), some (.int (iI u)), some (.int (iI f)), some (.int (iI 0))] [.int (iI ((-1)))] (mh h R I1 A1 N) _
      exact go_r rfl rfl rfl rfl rfl rfl ⟨-1, I1, A1, N, rfl, rfl, B1, Z1, by omega, Or.inl ⟨rfl, ef, es⟩⟩
    · show xx_go (xt_P z) (d + 4) 144 61 [some (.ref h.length), some (.int (iI u)), some (.int (iI f)), some (.int (iI 0))] [.int (iI t)] (mh h R I2 A2 N2) _
      exact go_r rfl rfl rfl rfl rfl rfl ⟨t, I2, A2, N2, rfl, rfl, BX_tr B1 X2, Z2, by omega, Or.inr ⟨⟨t0, t1⟩, fun q => by have es := es q; rw [nofx, nofx, g0, g1 (by omega)] at es; exact es⟩⟩
  | succ n ih =>
    intro c I1 A1 cm X e65 hv
    have rc := isL_rt hP m c (A 2 u) e0 e1 hL (by omega)
    have q := hP.2 _ rc.1 (by omega : rt A c (A 2 u) < I 7)
    have q2 := q.2.2.2.2 rc.2.2
    have kz : rt A c (A 2 u) ≠ 0 := by
      intro e
      rw [e] at rc
      omega
    have e7 : I1 7 = I 7 := X.1 7 (by decide)
    have f1 : A1 1 = A 1 := X.2 1 (by decide)
    have f2 : A1 2 = A 2 := X.2 2 (by decide)
    have P1 : PW I1 A1 := by
      unfold PW
      rw [e7, f1, f2]
      exact hP
    have ck := CON_val hN (hC c (by omega))
    have g1 : A1 1 (rt A c (A 2 u)) = A 1 (rt A c (A 2 u)) := by rw [f1]
    have g2 : A1 2 (rt A c (A 2 u)) = rt A (c + 1) (A 2 u) := by rw [f2, rt_succ]
    have vx : vl A1 = vl A := by
      funext k
      unfold vl
      rw [f1, f2]
    refine go_a (pc' := 13) (ls' := [some (.ref h.length), some (.int (iI u)), some (.int (iI f)), some (.int (iI (rt A c (A 2 u))))]) (st' := [.int (iI (rt A c (A 2 u)))]) rfl rfl ?_
    refine mi_eq0 (t := 55) rfl rfl (by omega) (by omega) (fun e => absurd e kz) (fun _ => ?_)
    refine go_a (pc' := 17) (ls' := [some (.ref h.length), some (.int (iI u)), some (.int (iI f)), some (.int (iI (rt A c (A 2 u))))]) (st' := [.ref h.length]) rfl rfl ?_
    refine go_get rfl mh_o rfl rfl ?_
    refine go_a (pc' := 21) (ls' := [some (.ref h.length), some (.int (iI u)), some (.int (iI f)), some (.int (iI (rt A c (A 2 u))))]) (st' := [.ref h.length, .ref (h.length + 37)]) rfl rfl ?_
    refine go_get (v := .int (iI (I1 65))) rfl mh_o rfl rfl ?_
    refine go_a (pc' := 25) (ls' := [some (.ref h.length), some (.int (iI u)), some (.int (iI f)), some (.int (iI (rt A c (A 2 u))))]) (st' := [.ref h.length, .int (iI (I1 65)), .ref (h.length + 37)]) rfl rfl ?_
    refine go_a (pc' := 26) (ls' := [some (.ref h.length), some (.int (iI u)), some (.int (iI f)), some (.int (iI (rt A c (A 2 u))))]) (st' := [.ref h.length, .ref h.length, .int (iI (I1 65)), .ref (h.length + 37)]) rfl rfl ?_
    refine go_get rfl mh_o rfl rfl ?_
    refine go_a (pc' := 30) (ls' := [some (.ref h.length), some (.int (iI u)), some (.int (iI f)), some (.int (iI (rt A c (A 2 u))))]) (st' := [.int (iI (rt A c (A 2 u))), .ref (h.length + 1), .ref h.length, .int (iI (I1 65)), .ref (h.length + 37)]) rfl rfl ?_
    refine mi_ild rfl mh_a1 (by omega) (by omega) (by decide) ?_
    rw [g1]
    refine go_v (m := 143) (as := [.ref h.length, .int (iI (A 1 (rt A c (A 2 u))))]) (r := [.int (iI (I1 65)), .ref (h.length + 37)]) rfl rfl rfl mh_o rfl rfl (mm_valueOf z (d + 2) (A 1 (rt A c (A 2 u))) h R I1 A1 N hc P1 rc.2.2 (by omega) (by rw [f1, f2]; exact ck)) (fun v h1 hq => ?_)
    obtain ⟨rfl, rfl⟩ := hq
    rw [vx]
    show xx_go (xt_P z) (d + 4) 144 34 [some (.ref h.length), some (.int (iI u)), some (.int (iI f)), some (.int (iI (rt A c (A 2 u))))] [.int (iI (vl A (A 1 (rt A c (A 2 u))))), .int (iI (I1 65)), .ref (h.length + 37)] (mh h R I1 A1 N) _
    refine mi_ist rfl mh_a37 (show 12 ≤ _ by omega) (by omega) (by omega) (by decide) ?_
    rw [mh_w37 (by omega)]
    refine go_a (pc' := 36) (ls' := [some (.ref h.length), some (.int (iI u)), some (.int (iI f)), some (.int (iI (rt A c (A 2 u))))]) (st' := [.ref h.length]) rfl rfl ?_
    refine go_a (pc' := 37) (ls' := [some (.ref h.length), some (.int (iI u)), some (.int (iI f)), some (.int (iI (rt A c (A 2 u))))]) (st' := [.ref h.length, .ref h.length]) rfl rfl ?_
    refine go_get (v := .int (iI (I1 65))) rfl mh_o rfl rfl ?_
    refine go_a (pc' := 41) (ls' := [some (.ref h.length), some (.int (iI u)), some (.int (iI f)), some (.int (iI (rt A c (A 2 u))))]) (st' := [.int (iI 1), .int (iI (I1 65)), .ref h.length]) rfl rfl ?_
    refine mi_add rfl ?_
    refine go_put (j := 65) rfl mh_o rfl rfl (show 12 ≤ _ from hc) (show 65 < 86 by decide) rfl rfl ?_
    rw [mh_p65]
    refine go_a (pc' := 46) (ls' := [some (.ref h.length), some (.int (iI u)), some (.int (iI f)), some (.int (iI (rt A c (A 2 u))))]) (st' := [.ref h.length]) rfl rfl ?_
    refine go_get rfl mh_o rfl rfl ?_
    refine go_a (pc' := 50) (ls' := [some (.ref h.length), some (.int (iI u)), some (.int (iI f)), some (.int (iI (rt A c (A 2 u))))]) (st' := [.int (iI (rt A c (A 2 u))), .ref (h.length + 2)]) rfl rfl ?_
    refine mi_ild rfl mh_a2 (by omega) (by omega) (by decide) ?_
    show xx_go (xt_P z) (d + 4) 144 51 [some (.ref h.length), some (.int (iI u)), some (.int (iI f)), some (.int (iI (rt A c (A 2 u))))] [.int (iI (A1 2 (rt A c (A 2 u))))] (mh h R (su I1 65 ((I1 65) + 1)) (sa A1 37 (I1 65) (vl A (A 1 (rt A c (A 2 u))))) N) _
    refine go_a (pc' := 52) (ls' := [some (.ref h.length), some (.int (iI u)), some (.int (iI f)), some (.int (iI (A1 2 (rt A c (A 2 u)))))]) (st' := []) rfl rfl ?_
    refine go_a (pc' := 12) (ls' := [some (.ref h.length), some (.int (iI u)), some (.int (iI f)), some (.int (iI (A1 2 (rt A c (A 2 u)))))]) (st' := []) rfl rfl ?_
    rw [g2]
    refine ih (c + 1) _ _ (by omega) ⟨fun j p => (su_ne p).trans (X.1 j p), fun a p => (sa_ne p).trans (X.2 a p)⟩ (show I1 65 + 1 = ((c + 1 : Nat) : Int) by omega) (fun e he => ?_)
    show sf (A1 37) (I1 65) (vl A (A 1 (rt A c (A 2 u)))) e = _
    by_cases w : e = c
    · rw [w, e65, sf_self]
    · rw [sf_ne (by omega)]
      exact hv e (by omega)
theorem mm_constantValue (z : Value) (d m : Nat) (ar : Int → Int) (u f : Int) (h R : xx_H) (I : Nat → Int) (A : Nat → Int → Int) (N : Int → Int) (hc : 12 ≤ h.length) (hS : MST I A N) (hN : NM I A) (hZ : SZI ar I A) (ho : I 7 < 140000) (f4 : 4 ≤ f) (f16 : f ≤ 16) (e0 : 0 ≤ A 2 u) (e1 : A 2 u < I 7) (hL : isL A m (A 2 u)) (m3 : m ≤ 3) (m1 : 1 ≤ m) (m2 : f ≤ 9 → 2 ≤ m) (hC : ∀ j : Nat, j < m → CON A (A 1 (rt A j (A 2 u)))) (k0 : 0 ≤ u) (k1 : u < I 7) : xx_cl (xt_P z) (d + 5) 144 [.ref h.length, .int (iI u), .int (iI f)] (mh h R I A N) (fun v h1 => ∃ (t : Int) (I1 : Nat → Int) (A1 : Nat → Int → Int) (N1 : Int → Int), v = some (.int (iI t)) ∧ h1 = mh h R I1 A1 N1 ∧ BX FV GV I A N I1 A1 N1 ∧ SZI ar I1 A1 ∧ I1 7 ≤ I 7 + 1 ∧ ((t = -1 ∧ f = 7 ∧ 4611686018427387903 < nof A N (vl A (A 1 (rt A 0 (A 2 u)))) + nof A N (vl A (A 1 (rt A 1 (A 2 u))))) ∨ ((0 ≤ t ∧ t < I1 7) ∧ (f = 7 → nof A N (vl A (A 1 (rt A 0 (A 2 u)))) + nof A N (vl A (A 1 (rt A 1 (A 2 u)))) ≤ 4611686018427387903)))) := by
  have hP := MST_PW hS
  have p1 := hP.1
  refine cl_go rfl ?_
  show xx_go (xt_P z) (d + 4) 144 0 [some (.ref h.length), some (.int (iI u)), some (.int (iI f)), none] [] (mh h R I A N) _
  refine go_a (pc' := 1) (ls' := [some (.ref h.length), some (.int (iI u)), some (.int (iI f)), none]) (st' := [.ref h.length]) rfl rfl ?_
  refine go_a (pc' := 2) (ls' := [some (.ref h.length), some (.int (iI u)), some (.int (iI f)), none]) (st' := [.int (iI 0), .ref h.length]) rfl rfl ?_
  refine go_put (j := 65) rfl mh_o rfl rfl (show 12 ≤ _ from hc) (show 65 < 86 by decide) rfl rfl ?_
  rw [mh_p65]
  refine go_a (pc' := 6) (ls' := [some (.ref h.length), some (.int (iI u)), some (.int (iI f)), none]) (st' := [.ref h.length]) rfl rfl ?_
  refine go_get rfl mh_o rfl rfl ?_
  refine go_a (pc' := 10) (ls' := [some (.ref h.length), some (.int (iI u)), some (.int (iI f)), none]) (st' := [.int (iI u), .ref (h.length + 2)]) rfl rfl ?_
  refine mi_ild rfl mh_a2 (by omega) (by omega) (by decide) ?_
  refine go_a (pc' := 12) (ls' := [some (.ref h.length), some (.int (iI u)), some (.int (iI f)), some (.int (iI (A 2 u)))]) (st' := []) rfl rfl ?_
  exact mm_conVal_loop z d m ar u f h R I A N hc hS hN hZ ho f4 f16 e0 e1 hL m3 m1 m2 hC m 0 _ A (by omega) ⟨fun j p => su_ne p, fun _ _ => rfl⟩ rfl (fun e he => absurd he (by omega))
def TLD (A : Nat → Int → Int) (N : Int → Int) (ar : Int → Int) (u : Int) : Prop := (0 ≤ A 1 u ∧ A 1 u ≠ 2) ∧ A 1 u ≤ 16 ∧ (∀ j : Nat, (j : Int) < ar (A 1 u) → CON A (A 1 (rt A j (A 2 u)))) ∧ (A 1 u = 7 → nof A N (vl A (A 1 (rt A 0 (A 2 u)))) + nof A N (vl A (A 1 (rt A 1 (A 2 u)))) ≤ 4611686018427387903)
theorem mm_told (z : Value) (d : Nat) (ar : Int → Int) (u : Int) (h R : xx_H) (I : Nat → Int) (A : Nat → Int → Int) (N : Int → Int) (hc : 12 ≤ h.length) (hS : MST I A N) (hN : NM I A) (hZ : SZI ar I A) (hA : AR ar I A) (a01 : ar 0 = -1 ∧ ar 1 = -1) (ho : I 7 < 140000) (k0 : 0 ≤ u) (k1 : u < I 7) (k2 : 1 ≤ TZ A ar u) : xx_cl (xt_P z) (d + 6) 141 [.ref h.length, .int (iI u)] (mh h R I A N) (fun v h1 => ∃ (t : Int) (I1 : Nat → Int) (A1 : Nat → Int → Int) (N1 : Int → Int), v = some (.int (iI t)) ∧ h1 = mh h R I1 A1 N1 ∧ BX FV GV I A N I1 A1 N1 ∧ SZI ar I1 A1 ∧ I1 7 ≤ I 7 + 1 ∧ ((t = -1 ∧ ¬ TLD A N ar u) ∨ ((0 ≤ t ∧ t < I1 7) ∧ TLD A N ar u))) := by
  have hP := MST_PW hS
  have p1 := hP.1
  have q := hP.2 u k0 k1
  have n0 : A 1 0 < 0 := by rw [hN.2 0 (by decide) (by decide)]; decide
  refine cl_go rfl ?_
  show xx_go (xt_P z) (d + 5) 141 0 [some (.ref h.length), some (.int (iI u))] [] (mh h R I A N) _
  refine go_a (pc' := 1) (ls' := [some (.ref h.length), some (.int (iI u))]) (st' := [.ref h.length]) rfl rfl ?_
  refine go_a (pc' := 2) (ls' := [some (.ref h.length), some (.int (iI u))]) (st' := [.int (iI u), .ref h.length]) rfl rfl ?_
  refine go_v (m := 116) (as := [.ref h.length, .int (iI u)]) (r := []) rfl rfl rfl mh_o rfl rfl (mb_isCall z (d + 3) u h R I A N hc hP k0 k1) (fun v h1 hq => ?_)
  obtain ⟨⟨b, rfl, hb⟩, rfl⟩ := hq
  show xx_go (xt_P z) (d + 5) 141 5 [some (.ref h.length), some (.int (iI u))] [.int (iI b)] (mh h R I A N) _
  refine mi_eq0 (t := 27) rfl rfl (by omega) (by omega) (fun e => ?_) (fun e => ?_)
  · refine go_a (pc' := 28) (ls' := [some (.ref h.length), some (.int (iI u))]) (st' := [.int (iI ((-1)))]) rfl rfl ?_
    exact go_r rfl rfl rfl rfl rfl rfl ⟨-1, I, A, N, rfl, rfl, BX_rf hS, hZ, by omega, Or.inl ⟨rfl, fun q => by have := q.1; omega⟩⟩
  · have cl : 0 ≤ A 1 u ∧ A 1 u ≠ 2 := by omega
    have ta := TZ_args (ar := ar) hP n0 k0 k1 cl.1 cl.2 k2
    refine go_a (pc' := 9) (ls' := [some (.ref h.length), some (.int (iI u))]) (st' := [.ref h.length]) rfl rfl ?_
    refine go_get rfl mh_o rfl rfl ?_
    refine go_a (pc' := 13) (ls' := [some (.ref h.length), some (.int (iI u))]) (st' := [.int (iI u), .ref (h.length + 1)]) rfl rfl ?_
    refine mi_ild rfl mh_a1 (by omega) (by omega) (by decide) ?_
    refine go_a (pc' := 16) (ls' := [some (.ref h.length), some (.int (iI u))]) (st' := [.int (iI 16), .int (iI (A 1 u))]) rfl rfl ?_
    refine mi_gt (t := 27) rfl rfl (by omega) (by omega) (by omega) (by omega) (fun e2 => ?_) (fun e2 => ?_)
    · refine go_a (pc' := 28) (ls' := [some (.ref h.length), some (.int (iI u))]) (st' := [.int (iI ((-1)))]) rfl rfl ?_
      exact go_r rfl rfl rfl rfl rfl rfl ⟨-1, I, A, N, rfl, rfl, BX_rf hS, hZ, by omega, Or.inl ⟨rfl, fun q => by have := q.2.1; omega⟩⟩
    · have f3 : 3 ≤ A 1 u := by
        have a0 := ta.2.2.1
        by_cases z0 : A 1 u = 0
        · rw [z0, a01.1] at a0
          omega
        · by_cases z1 : A 1 u = 1
          · rw [z1, a01.2] at a0
            omega
          · omega
      refine go_a (pc' := 20) (ls' := [some (.ref h.length), some (.int (iI u))]) (st' := [.ref h.length]) rfl rfl ?_
      refine go_a (pc' := 21) (ls' := [some (.ref h.length), some (.int (iI u))]) (st' := [.int (iI u), .ref h.length]) rfl rfl ?_
      refine go_v (m := 142) (as := [.ref h.length, .int (iI u)]) (r := []) rfl rfl rfl mh_o rfl rfl (mm_areConstants z (d + 1) (ar (A 1 u)).toNat u h R I A N hc hP n0 k0 k1 ta.1.1 (by omega) ta.2.1) (fun v h1 hq => ?_)
      obtain ⟨hq, rfl⟩ := hq
      rcases hq with ⟨rfl, jn, hjn, hnc⟩ | ⟨rfl, hC⟩
      · show xx_go (xt_P z) (d + 5) 141 24 [some (.ref h.length), some (.int (iI u))] [.int (iI 0)] (mh h R I A N) _
        refine mi_ne0 (t := 29) rfl rfl (by omega) (by omega) (fun e3 => absurd rfl e3) (fun _ => ?_)
        refine go_a (pc' := 28) (ls' := [some (.ref h.length), some (.int (iI u))]) (st' := [.int (iI ((-1)))]) rfl rfl ?_
        exact go_r rfl rfl rfl rfl rfl rfl ⟨-1, I, A, N, rfl, rfl, BX_rf hS, hZ, by omega, Or.inl ⟨rfl, fun q => hnc (q.2.2.1 jn (by omega))⟩⟩
      · show xx_go (xt_P z) (d + 5) 141 24 [some (.ref h.length), some (.int (iI u))] [.int (iI 1)] (mh h R I A N) _
        refine mi_ne0 (t := 29) rfl rfl (by omega) (by omega) (fun _ => ?_) (fun e3 => e3 (by decide) |>.elim)
        refine go_a (pc' := 30) (ls' := [some (.ref h.length), some (.int (iI u))]) (st' := [.ref h.length]) rfl rfl ?_
        refine go_get rfl mh_o rfl rfl ?_
        refine go_a (pc' := 34) (ls' := [some (.ref h.length), some (.int (iI u))]) (st' := [.int (iI u), .ref (h.length + 1)]) rfl rfl ?_
        refine mi_ild rfl mh_a1 (by omega) (by omega) (by decide) ?_
        refine go_a (pc' := 36) (ls' := [some (.ref h.length), some (.int (iI u))]) (st' := [.int (iI 3), .int (iI (A 1 u))]) rfl rfl ?_
        refine mi_ne (t := 67) rfl rfl (by omega) (by omega) (by omega) (by omega) (fun e3 => ?_) (fun e3 => ?_)
        · have af : (A 1 u ≤ 9 → ar (A 1 u) = 2) ∧ (10 ≤ A 1 u → ar (A 1 u) = 1) := ⟨fun q => hA.1.2.1 _ (by omega) q, fun q => hA.1.2.2 _ q (by omega)⟩
          refine go_a (pc' := 68) (ls' := [some (.ref h.length), some (.int (iI u))]) (st' := [.ref h.length]) rfl rfl ?_
          refine go_a (pc' := 69) (ls' := [some (.ref h.length), some (.int (iI u))]) (st' := [.int (iI u), .ref h.length]) rfl rfl ?_
          refine go_a (pc' := 70) (ls' := [some (.ref h.length), some (.int (iI u))]) (st' := [.ref h.length, .int (iI u), .ref h.length]) rfl rfl ?_
          refine go_get rfl mh_o rfl rfl ?_
          refine go_a (pc' := 74) (ls' := [some (.ref h.length), some (.int (iI u))]) (st' := [.int (iI u), .ref (h.length + 1), .int (iI u), .ref h.length]) rfl rfl ?_
          refine mi_ild rfl mh_a1 (by omega) (by omega) (by decide) ?_
          refine go_v (m := 144) (as := [.ref h.length, .int (iI u), .int (iI (A 1 u))]) (r := []) rfl rfl rfl mh_o rfl rfl (mm_constantValue z d (ar (A 1 u)).toNat ar u (A 1 u) h R I A N hc hS hN hZ ho (by omega) (by omega) ta.1.1 (by omega) ta.2.1 (by omega) (by omega) (by omega) hC k0 k1) (fun v h1 hq => ?_)
          obtain ⟨t, I1, A1, N1, rfl, rfl, K1, K2, K3, K4⟩ := hq
          show xx_go (xt_P z) (d + 5) 141 78 [some (.ref h.length), some (.int (iI u))] [.int (iI t)] (mh h R I1 A1 N1) _
          refine go_r rfl rfl rfl rfl rfl rfl ⟨t, I1, A1, N1, rfl, rfl, K1, K2, K3, ?_⟩
          rcases K4 with K4 | K4
          · exact Or.inl ⟨K4.1, fun q => by have := q.2.2.2 K4.2.1; omega⟩
          · exact Or.inr ⟨K4.1, cl, by omega, fun j hj => hC j (by omega), K4.2⟩
        · have e3 : A 1 u = 3 := by omega
          have a3 : ar (A 1 u) = 3 := by rw [e3]; exact hA.1.1
          have q3 := TZ_three hP n0 k0 k1 cl.1 cl.2 a3 k2
          rw [a3] at hC ta
          have i1 := ta.2.2.2.2.2 0 (by decide)
          have i2 := ta.2.2.2.2.2 1 (by decide)
          have i3 := ta.2.2.2.2.2 2 (by decide)
          have L4 : isL A 4 u := ⟨cl.1, ta.2.1⟩
          have T1 : 0 ≤ A 1 (rt A 1 u) ∧ A 1 (rt A 1 u) < I 7 := i1.1
          have C1 : CON A (A 1 (rt A 1 u)) := hC 0 (by decide)
          refine go_a (pc' := 40) (ls' := [some (.ref h.length), some (.int (iI u))]) (st' := [.ref h.length]) rfl rfl ?_
          refine go_a (pc' := 41) (ls' := [some (.ref h.length), some (.int (iI u))]) (st' := [.ref h.length, .ref h.length]) rfl rfl ?_
          refine go_a (pc' := 42) (ls' := [some (.ref h.length), some (.int (iI u))]) (st' := [.int (iI u), .ref h.length, .ref h.length]) rfl rfl ?_
          refine go_a (pc' := 43) (ls' := [some (.ref h.length), some (.int (iI u))]) (st' := [.ref h.length, .int (iI u), .ref h.length, .ref h.length]) rfl rfl ?_
          refine go_a (pc' := 44) (ls' := [some (.ref h.length), some (.int (iI u))]) (st' := [.ref h.length, .ref h.length, .int (iI u), .ref h.length, .ref h.length]) rfl rfl ?_
          refine go_a (pc' := 45) (ls' := [some (.ref h.length), some (.int (iI u))]) (st' := [.int (iI u), .ref h.length, .ref h.length, .int (iI u), .ref h.length, .ref h.length]) rfl rfl ?_
          refine go_a (pc' := 46) (ls' := [some (.ref h.length), some (.int (iI u))]) (st' := [.int (iI 1), .int (iI u), .ref h.length, .ref h.length, .int (iI u), .ref h.length, .ref h.length]) rfl rfl ?_
          refine go_v (m := 124) (as := [.ref h.length, .int (iI u), .int (iI 1)]) (r := [.ref h.length, .int (iI u), .ref h.length, .ref h.length]) rfl rfl rfl mh_o rfl rfl (mm_term z (d + 3) 1 4 u h R I A N hc hP (by decide) k0 k1 L4 (by decide)) (fun v h1 hq => ?_)
          obtain ⟨rfl, rfl⟩ := hq
          show xx_go (xt_P z) (d + 5) 141 49 [some (.ref h.length), some (.int (iI u))] [.int (iI (A 1 (rt A 1 u))), .ref h.length, .int (iI u), .ref h.length, .ref h.length] (mh h R I A N) _
          refine go_v (m := 143) (as := [.ref h.length, .int (iI (A 1 (rt A 1 u)))]) (r := [.int (iI u), .ref h.length, .ref h.length]) rfl rfl rfl mh_o rfl rfl (mm_valueOf z (d + 3) (A 1 (rt A 1 u)) h R I A N hc hP T1.1 T1.2 (CON_val hN C1)) (fun v h1 hq => ?_)
          obtain ⟨rfl, rfl⟩ := hq
          have vr1 := vl_rng hP T1.1 T1.2 (CON_val hN C1)
          show xx_go (xt_P z) (d + 5) 141 52 [some (.ref h.length), some (.int (iI u))] [.int (iI (vl A (A 1 (rt A 1 u)))), .int (iI u), .ref h.length, .ref h.length] (mh h R I A N) _
          refine mi_ne0 (t := 59) rfl rfl (by omega) (by omega) (fun _ => ?_) (fun _ => ?_)
          · refine go_a (pc' := 60) (ls' := [some (.ref h.length), some (.int (iI u))]) (st' := [.int (iI 2), .int (iI u), .ref h.length, .ref h.length]) rfl rfl ?_
            have Tn : 0 ≤ A 1 (rt A 2 u) ∧ A 1 (rt A 2 u) < I 7 := i2.1
            have Cn : CON A (A 1 (rt A 2 u)) := hC 1 (by decide)
            refine go_v (m := 124) (as := [.ref h.length, .int (iI u), .int (iI 2)]) (r := [.ref h.length]) rfl rfl rfl mh_o rfl rfl (mm_term z (d + 3) 2 4 u h R I A N hc hP (by decide) k0 k1 L4 (by decide)) (fun v h1 hq => ?_)
            obtain ⟨rfl, rfl⟩ := hq
            show xx_go (xt_P z) (d + 5) 141 63 [some (.ref h.length), some (.int (iI u))] [.int (iI (A 1 (rt A 2 u))), .ref h.length] (mh h R I A N) _
            refine go_v (m := 143) (as := [.ref h.length, .int (iI (A 1 (rt A 2 u)))]) (r := []) rfl rfl rfl mh_o rfl rfl (mm_valueOf z (d + 3) (A 1 (rt A 2 u)) h R I A N hc hP Tn.1 Tn.2 (CON_val hN Cn)) (fun v h1 hq => ?_)
            obtain ⟨rfl, rfl⟩ := hq
            show xx_go (xt_P z) (d + 5) 141 66 [some (.ref h.length), some (.int (iI u))] [.int (iI (vl A (A 1 (rt A 2 u))))] (mh h R I A N) _
            exact go_r rfl rfl rfl rfl rfl rfl ⟨_, I, A, N, rfl, rfl, BX_rf hS, hZ, by omega, Or.inr ⟨vl_rng hP Tn.1 Tn.2 (CON_val hN Cn), cl, by omega, fun j hj => by rw [a3] at hj; exact hC j (by omega), fun q => by omega⟩⟩
          · refine go_a (pc' := 56) (ls' := [some (.ref h.length), some (.int (iI u))]) (st' := [.int (iI 3), .int (iI u), .ref h.length, .ref h.length]) rfl rfl ?_
            refine go_a (pc' := 60) (ls' := [some (.ref h.length), some (.int (iI u))]) (st' := [.int (iI 3), .int (iI u), .ref h.length, .ref h.length]) rfl rfl ?_
            have Tn : 0 ≤ A 1 (rt A 3 u) ∧ A 1 (rt A 3 u) < I 7 := i3.1
            have Cn : CON A (A 1 (rt A 3 u)) := hC 2 (by decide)
            refine go_v (m := 124) (as := [.ref h.length, .int (iI u), .int (iI 3)]) (r := [.ref h.length]) rfl rfl rfl mh_o rfl rfl (mm_term z (d + 3) 3 4 u h R I A N hc hP (by decide) k0 k1 L4 (by decide)) (fun v h1 hq => ?_)
            obtain ⟨rfl, rfl⟩ := hq
            show xx_go (xt_P z) (d + 5) 141 63 [some (.ref h.length), some (.int (iI u))] [.int (iI (A 1 (rt A 3 u))), .ref h.length] (mh h R I A N) _
            refine go_v (m := 143) (as := [.ref h.length, .int (iI (A 1 (rt A 3 u)))]) (r := []) rfl rfl rfl mh_o rfl rfl (mm_valueOf z (d + 3) (A 1 (rt A 3 u)) h R I A N hc hP Tn.1 Tn.2 (CON_val hN Cn)) (fun v h1 hq => ?_)
            obtain ⟨rfl, rfl⟩ := hq
            show xx_go (xt_P z) (d + 5) 141 66 [some (.ref h.length), some (.int (iI u))] [.int (iI (vl A (A 1 (rt A 3 u))))] (mh h R I A N) _
            exact go_r rfl rfl rfl rfl rfl rfl ⟨_, I, A, N, rfl, rfl, BX_rf hS, hZ, by omega, Or.inr ⟨vl_rng hP Tn.1 Tn.2 (CON_val hN Cn), cl, by omega, fun j hj => by rw [a3] at hj; exact hC j (by omega), fun q => by omega⟩⟩
