def VX (I : Nat → Int) (A : Nat → Int → Int) (I1 : Nat → Int) (A1 : Nat → Int → Int) : Prop := (∀ j : Nat, j ≠ 61 → j ≠ 63 → I1 j = I j) ∧ ∀ a : Nat, a ≠ 35 → a ≠ 36 → A1 a = A a
def ITS (n : Int) (I : Nat → Int) (A : Nat → Int → Int) : Prop := (0 ≤ I 63 ∧ I 63 ≤ n) ∧ ∀ e : Int, 0 ≤ e → e < I 63 → 0 ≤ A 36 e ∧ A 36 e < I 7
theorem VX_WX {I I1 I2 : Nat → Int} {A A1 A2 : Nat → Int → Int} (x : VX I A I1 A1) (y : WX I1 A1 I2 A2) : VX I A I2 A2 := ⟨fun j p q => (y.1 j p).trans (x.1 j p q), fun a p q => (y.2 a p).trans (x.2 a p q)⟩
theorem ITS_WX {n : Int} {I I1 : Nat → Int} {A A1 : Nat → Int → Int} (x : ITS n I A) (y : WX I A I1 A1) : ITS n I1 A1 := by
  unfold ITS
  rw [y.1 63 (by decide), y.1 7 (by decide), y.2 36 (by decide)]
  exact x
theorem WK_124 {ar : Int → Int} {s : Int} {I I1 : Nat → Int} {A A1 : Nat → Int → Int} (w : WK ar s I A) (h1 : A1 1 = A 1) (h2 : A1 2 = A 2) (h4 : A1 4 = A 4) (h35 : A1 35 = A 35) (i61 : I1 61 = I 61) (i7 : I1 7 = I 7) : WK ar s I1 A1 := by
  have tz := TZ_124 (ar := ar) h1 h2 h4
  have sz : ∀ m, SZ A1 ar (A 35) m = SZ A ar (A 35) m := fun m => by
    induction m with
    | zero => rfl
    | succ m ihm =>
      show SZ A1 ar _ m + TZ A1 ar _ = _
      rw [ihm, tz.1]
      rfl
  unfold WK
  rw [tz.1, h35, i61, i7, sz]
  exact w
theorem mm_varsIn (z : Value) (d : Nat) (o x : Int) (h R : xx_H) (I : Nat → Int) (A : Nat → Int → Int) (N : Int → Int) (hc : 12 ≤ h.length) (Q : Option Value → xx_H → Prop) (x0 : 0 ≤ x) (x1 : x < I 7) (i7 : I 7 ≤ 140000) (hI : ITS 125 I A) (K : (∀ b1 k1 : Int, (b1 = 0 ∨ b1 = 1) → xx_go (xt_P z) d 118 72 [some (.ref h.length), some (.int (iI o)), some (.int (iI x)), some (.int (iI b1)), some (.int (iI k1))] [] (mh h R I A N) Q)) : ∀ (n : Nat) (b k : Int), (I 63 - k).toNat ≤ n → 0 ≤ k → k ≤ 130 → (b = 0 ∨ b = 1) → xx_go (xt_P z) d 118 36 [some (.ref h.length), some (.int (iI o)), some (.int (iI x)), some (.int (iI b)), some (.int (iI k))] [] (mh h R I A N) Q := by
  have i1 := hI.1
  intro n
  induction n with
  | zero =>
    intro b k hn k0 kb hb
    refine go_a (pc' := 38) (ls' := [some (.ref h.length), some (.int (iI o)), some (.int (iI x)), some (.int (iI b)), some (.int (iI k))]) (st' := [.int (iI k)]) rfl rfl ?_
    refine go_a (pc' := 39) (ls' := [some (.ref h.length), some (.int (iI o)), some (.int (iI x)), some (.int (iI b)), some (.int (iI k))]) (st' := [.ref h.length, .int (iI k)]) rfl rfl ?_
    refine go_get (v := .int (iI (I 63))) rfl mh_o rfl rfl ?_
    exact mi_ge (t := 72) rfl rfl (by omega) (by omega) (by omega) (by omega) (fun _ => K b k hb) (fun e => absurd (show I 63 ≤ k by omega) e)
  | succ n ih =>
    intro b k hn k0 kb hb
    refine go_a (pc' := 38) (ls' := [some (.ref h.length), some (.int (iI o)), some (.int (iI x)), some (.int (iI b)), some (.int (iI k))]) (st' := [.int (iI k)]) rfl rfl ?_
    refine go_a (pc' := 39) (ls' := [some (.ref h.length), some (.int (iI o)), some (.int (iI x)), some (.int (iI b)), some (.int (iI k))]) (st' := [.ref h.length, .int (iI k)]) rfl rfl ?_
    refine go_get (v := .int (iI (I 63))) rfl mh_o rfl rfl ?_
    refine mi_ge (t := 72) rfl rfl (by omega) (by omega) (by omega) (by omega) (fun _ => K b k hb) (fun e => ?_)
    refine go_a (pc' := 46) (ls' := [some (.ref h.length), some (.int (iI o)), some (.int (iI x)), some (.int (iI b)), some (.int (iI k))]) (st' := [.int (iI b)]) rfl rfl ?_
    refine mi_eq0 (t := 72) rfl rfl (by omega) (by omega) (fun _ => K b k hb) (fun e2 => ?_)
    have ik := hI.2 k k0 (by omega)
    refine go_a (pc' := 50) (ls' := [some (.ref h.length), some (.int (iI o)), some (.int (iI x)), some (.int (iI b)), some (.int (iI k))]) (st' := [.ref h.length]) rfl rfl ?_
    refine go_get rfl mh_o rfl rfl ?_
    refine go_a (pc' := 55) (ls' := [some (.ref h.length), some (.int (iI o)), some (.int (iI x)), some (.int (iI b)), some (.int (iI k))]) (st' := [.int (iI k), .ref (h.length + 36)]) rfl rfl ?_
    refine mi_ild rfl mh_a36 (by omega) (by omega) (by decide) ?_
    refine go_a (pc' := 57) (ls' := [some (.ref h.length), some (.int (iI o)), some (.int (iI x)), some (.int (iI b)), some (.int (iI k))]) (st' := [.int (iI x), .int (iI (A 36 k))]) rfl rfl ?_
    refine mi_eq (t := 64) rfl rfl (by omega) (by omega) (by omega) (by omega) (fun e3 => ?_) (fun e3 => ?_)
    · refine go_a (pc' := 65) (ls' := [some (.ref h.length), some (.int (iI o)), some (.int (iI x)), some (.int (iI b)), some (.int (iI k))]) (st' := [.int (iI 0)]) rfl rfl ?_
      refine go_a (pc' := 66) (ls' := [some (.ref h.length), some (.int (iI o)), some (.int (iI x)), some (.int (iI 0)), some (.int (iI k))]) (st' := []) rfl rfl ?_
      refine go_a (pc' := 69) (ls' := [some (.ref h.length), some (.int (iI o)), some (.int (iI x)), some (.int (iI 0)), some (.int (iI (k + 1)))]) (st' := []) rfl (by rw [← iI_add k 1]; rfl) ?_
      refine go_a (pc' := 36) (ls' := [some (.ref h.length), some (.int (iI o)), some (.int (iI x)), some (.int (iI 0)), some (.int (iI (k + 1)))]) (st' := []) rfl rfl ?_
      exact ih 0 (k + 1) (by omega) (by omega) (by omega) (by omega)
    · refine go_a (pc' := 61) (ls' := [some (.ref h.length), some (.int (iI o)), some (.int (iI x)), some (.int (iI b)), some (.int (iI k))]) (st' := [.int (iI 1)]) rfl rfl ?_
      refine go_a (pc' := 65) (ls' := [some (.ref h.length), some (.int (iI o)), some (.int (iI x)), some (.int (iI b)), some (.int (iI k))]) (st' := [.int (iI 1)]) rfl rfl ?_
      refine go_a (pc' := 66) (ls' := [some (.ref h.length), some (.int (iI o)), some (.int (iI x)), some (.int (iI 1)), some (.int (iI k))]) (st' := []) rfl rfl ?_
      refine go_a (pc' := 69) (ls' := [some (.ref h.length), some (.int (iI o)), some (.int (iI x)), some (.int (iI 1)), some (.int (iI (k + 1)))]) (st' := []) rfl (by rw [← iI_add k 1]; rfl) ?_
      refine go_a (pc' := 36) (ls' := [some (.ref h.length), some (.int (iI o)), some (.int (iI x)), some (.int (iI 1)), some (.int (iI (k + 1)))]) (st' := []) rfl rfl ?_
      exact ih 1 (k + 1) (by omega) (by omega) (by omega) (by omega)
theorem mm_variablesOf_loop (z : Value) (d : Nat) (ar : Int → Int) (o : Int) (h R : xx_H) (I : Nat → Int) (A : Nat → Int → Int) (N : Int → Int) (hc : 12 ≤ h.length) (hP : PW I A) (n0 : A 1 0 < 0) : ∀ (n : Nat) (s : Int) (I1 : Nat → Int) (A1 : Nat → Int → Int) (y2 y3 y4 : Option Value), s ≤ n → s ≤ 125 → VX I A I1 A1 → WK ar s I1 A1 → ITS (125 - s) I1 A1 → xx_go (xt_P z) (d + 3) 118 15 [some (.ref h.length), some (.int (iI o)), y2, y3, y4] [] (mh h R I1 A1 N) (fun v h1 => v = none ∧ ∃ (I1 : Nat → Int) (A1 : Nat → Int → Int), h1 = mh h R I1 A1 N ∧ VX I A I1 A1 ∧ ITS 125 I1 A1) := by
  intro n
  induction n with
  | zero =>
    intro s I1 A1 y2 y3 y4 hn s9 X W D
    have ge := SZ_ge (I1 61).toNat (fun e he => (W.2.1 e (by omega) (by omega)).2)
    have w0 := W.1
    have w2 := W.2.2
    refine go_a (pc' := 16) (ls' := [some (.ref h.length), some (.int (iI o)), y2, y3, y4]) (st' := [.ref h.length]) rfl rfl ?_
    refine go_get (v := .int (iI (I1 61))) rfl mh_o rfl rfl ?_
    refine mi_le0 (t := 102) rfl rfl (by omega) (by omega) (fun _ => ?_) (fun e => absurd (show I1 61 ≤ 0 by omega) e)
    exact go_r rfl rfl rfl rfl rfl rfl ⟨rfl, I1, A1, rfl, X, ⟨⟨D.1.1, by have := D.1.2; omega⟩, D.2⟩⟩
  | succ n ih =>
    intro s I1 A1 y2 y3 y4 hn s9 X W D
    have ge := SZ_ge (I1 61).toNat (fun e he => (W.2.1 e (by omega) (by omega)).2)
    have w0 := W.1
    have w2 := W.2.2
    have P1 : PW I1 A1 := by
      unfold PW
      rw [X.1 7 (by decide) (by decide), X.2 1 (by decide) (by decide), X.2 2 (by decide) (by decide)]
      exact hP
    have p1 := P1.1
    have n1 : A1 1 0 < 0 := by rw [X.2 1 (by decide) (by decide)]; exact n0
    refine go_a (pc' := 16) (ls' := [some (.ref h.length), some (.int (iI o)), y2, y3, y4]) (st' := [.ref h.length]) rfl rfl ?_
    refine go_get (v := .int (iI (I1 61))) rfl mh_o rfl rfl ?_
    refine mi_le0 (t := 102) rfl rfl (by omega) (by omega) (fun _ => ?_) (fun e => ?_)
    · exact go_r rfl rfl rfl rfl rfl rfl ⟨rfl, I1, A1, rfl, X, ⟨⟨D.1.1, by have := D.1.2; omega⟩, D.2⟩⟩
    · have top := W.2.1 (I1 61 - 1) (by omega) (by omega)
      refine go_a (pc' := 23) (ls' := [some (.ref h.length), some (.int (iI o)), y2, y3, y4]) (st' := [.ref h.length]) rfl rfl ?_
      refine go_v (m := 120) (as := [.ref h.length]) (r := []) rfl rfl rfl mh_o rfl rfl (mm_walkOn z d ar s h R I1 A1 N hc P1 n1 W (by omega) (by omega)) (fun v h1 hq => ?_)
      obtain ⟨rfl, I2, A2, rfl, X2, W2, -⟩ := hq
      have P2 := WX_PW P1 X2
      have e7 : I2 7 = I1 7 := X2.1 7 (by decide)
      have D2 := ITS_WX D X2
      have d1 := D2.1
      have W21 := W2.1
      show xx_go (xt_P z) (d + 3) 118 26 [some (.ref h.length), some (.int (iI o)), y2, y3, y4] [.int (iI (A1 35 (I1 61 - 1)))] (mh h R I2 A2 N) _
      refine go_a (pc' := 27) (ls' := [some (.ref h.length), some (.int (iI o)), some (.int (iI (A1 35 (I1 61 - 1)))), y3, y4]) (st' := []) rfl rfl ?_
      refine go_a (pc' := 28) (ls' := [some (.ref h.length), some (.int (iI o)), some (.int (iI (A1 35 (I1 61 - 1)))), y3, y4]) (st' := [.ref h.length]) rfl rfl ?_
      refine go_a (pc' := 29) (ls' := [some (.ref h.length), some (.int (iI o)), some (.int (iI (A1 35 (I1 61 - 1)))), y3, y4]) (st' := [.int (iI (A1 35 (I1 61 - 1))), .ref h.length]) rfl rfl ?_
      refine go_v (m := 104) (as := [.ref h.length, .int (iI (A1 35 (I1 61 - 1)))]) (r := []) rfl rfl rfl mh_o rfl rfl (mb_isVariable z (d + 1) (A1 35 (I1 61 - 1)) h R I2 A2 N hc P2 top.1.1 (by omega)) (fun v h1 hq => ?_)
      obtain ⟨⟨b, rfl, hb⟩, rfl⟩ := hq
      show xx_go (xt_P z) (d + 3) 118 32 [some (.ref h.length), some (.int (iI o)), some (.int (iI (A1 35 (I1 61 - 1)))), y3, y4] [.int (iI b)] (mh h R I2 A2 N) _
      refine go_a (pc' := 33) (ls' := [some (.ref h.length), some (.int (iI o)), some (.int (iI (A1 35 (I1 61 - 1)))), some (.int (iI b)), y4]) (st' := []) rfl rfl ?_
      refine go_a (pc' := 34) (ls' := [some (.ref h.length), some (.int (iI o)), some (.int (iI (A1 35 (I1 61 - 1)))), some (.int (iI b)), y4]) (st' := [.int (iI 0)]) rfl rfl ?_
      refine go_a (pc' := 36) (ls' := [some (.ref h.length), some (.int (iI o)), some (.int (iI (A1 35 (I1 61 - 1)))), some (.int (iI b)), some (.int (iI 0))]) (st' := []) rfl rfl ?_
      refine mm_varsIn z (d + 3) o (A1 35 (I1 61 - 1)) h R I2 A2 N hc _ top.1.1 (by omega) (by omega) ⟨⟨d1.1, by omega⟩, D2.2⟩ (fun b1 k1 hb1 => ?_) (I2 63).toNat b 0 (by omega) (Int.le_refl _) (by omega) (by omega)
      show xx_go (xt_P z) (d + 3) 118 72 [some (.ref h.length), some (.int (iI o)), some (.int (iI (A1 35 (I1 61 - 1)))), some (.int (iI b1)), some (.int (iI k1))] [] (mh h R I2 A2 N) _
      refine go_a (pc' := 73) (ls' := [some (.ref h.length), some (.int (iI o)), some (.int (iI (A1 35 (I1 61 - 1)))), some (.int (iI b1)), some (.int (iI k1))]) (st' := [.int (iI b1)]) rfl rfl ?_
      refine mi_ne0 (t := 79) rfl rfl (by omega) (by omega) (fun e2 => ?_) (fun e2 => ?_)
      · refine go_a (pc' := 80) (ls' := [some (.ref h.length), some (.int (iI o)), some (.int (iI (A1 35 (I1 61 - 1)))), some (.int (iI b1)), some (.int (iI k1))]) (st' := [.ref h.length]) rfl rfl ?_
        refine go_get rfl mh_o rfl rfl ?_
        refine go_a (pc' := 84) (ls' := [some (.ref h.length), some (.int (iI o)), some (.int (iI (A1 35 (I1 61 - 1)))), some (.int (iI b1)), some (.int (iI k1))]) (st' := [.ref h.length, .ref (h.length + 36)]) rfl rfl ?_
        refine go_get (v := .int (iI (I2 63))) rfl mh_o rfl rfl ?_
        refine go_a (pc' := 88) (ls' := [some (.ref h.length), some (.int (iI o)), some (.int (iI (A1 35 (I1 61 - 1)))), some (.int (iI b1)), some (.int (iI k1))]) (st' := [.int (iI (A1 35 (I1 61 - 1))), .int (iI (I2 63)), .ref (h.length + 36)]) rfl rfl ?_
        refine mi_ist rfl mh_a36 (show 12 ≤ _ by omega) (by omega) (by omega) (by decide) ?_
        rw [mh_w36 (by omega)]
        refine go_a (pc' := 90) (ls' := [some (.ref h.length), some (.int (iI o)), some (.int (iI (A1 35 (I1 61 - 1)))), some (.int (iI b1)), some (.int (iI k1))]) (st' := [.ref h.length]) rfl rfl ?_
        refine go_a (pc' := 91) (ls' := [some (.ref h.length), some (.int (iI o)), some (.int (iI (A1 35 (I1 61 - 1)))), some (.int (iI b1)), some (.int (iI k1))]) (st' := [.ref h.length, .ref h.length]) rfl rfl ?_
        refine go_get (v := .int (iI (I2 63))) rfl mh_o rfl rfl ?_
        refine go_a (pc' := 95) (ls' := [some (.ref h.length), some (.int (iI o)), some (.int (iI (A1 35 (I1 61 - 1)))), some (.int (iI b1)), some (.int (iI k1))]) (st' := [.int (iI 1), .int (iI (I2 63)), .ref h.length]) rfl rfl ?_
        refine mi_add rfl ?_
        refine go_put (j := 63) rfl mh_o rfl rfl (show 12 ≤ _ from hc) (show 63 < 86 by decide) rfl rfl ?_
        rw [mh_p63]
        refine go_a (pc' := 15) (ls' := [some (.ref h.length), some (.int (iI o)), some (.int (iI (A1 35 (I1 61 - 1)))), some (.int (iI b1)), some (.int (iI k1))]) (st' := []) rfl rfl ?_
        have tz3 := TZ_124 (A := A2) (A1 := (sa A2 36 (I2 63) (A1 35 (I1 61 - 1)))) (ar := ar) rfl rfl rfl
        have W3 : WK ar (s - 1) (su I2 63 (I2 63 + 1)) (sa A2 36 (I2 63) (A1 35 (I1 61 - 1))) := WK_124 W2 rfl rfl rfl rfl rfl rfl
        refine ih (s - 1) _ _ _ _ _ (by omega) (by omega) ⟨fun j p q => (su_ne q).trans ((VX_WX X X2).1 j p q), fun a p q => (sa_ne q).trans ((VX_WX X X2).2 a p q)⟩ W3 ⟨⟨(show 0 ≤ I2 63 + 1 by omega), (show I2 63 + 1 ≤ 125 - (s - 1) by omega)⟩, fun e e0 e1 => ?_⟩
        have e1 : e < I2 63 + 1 := e1
        show 0 ≤ sf (A2 36) (I2 63) (A1 35 (I1 61 - 1)) e ∧ sf (A2 36) (I2 63) (A1 35 (I1 61 - 1)) e < I2 7
        by_cases q : e = I2 63
        · rw [q, sf_self]
          exact ⟨top.1.1, by omega⟩
        · rw [sf_ne q]
          exact D2.2 e e0 (by omega)
      · refine go_a (pc' := 15) (ls' := [some (.ref h.length), some (.int (iI o)), some (.int (iI (A1 35 (I1 61 - 1)))), some (.int (iI b1)), some (.int (iI k1))]) (st' := []) rfl rfl ?_
        exact ih (s - 1) I2 A2 _ _ _ (by omega) (by omega) (VX_WX X X2) W2 ⟨⟨D2.1.1, by have := D2.1.2; omega⟩, D2.2⟩
theorem mm_variablesOf (z : Value) (d : Nat) (ar : Int → Int) (o : Int) (h R : xx_H) (I : Nat → Int) (A : Nat → Int → Int) (N : Int → Int) (hc : 12 ≤ h.length) (hP : PW I A) (n0 : A 1 0 < 0) (k0 : 0 ≤ o) (k1 : o < I 7) (k2 : 1 ≤ TZ A ar o) (k3 : TZ A ar o ≤ 125) : xx_cl (xt_P z) (d + 4) 118 [.ref h.length, .int (iI o)] (mh h R I A N) (fun v h1 => v = none ∧ ∃ (I1 : Nat → Int) (A1 : Nat → Int → Int), h1 = mh h R I1 A1 N ∧ VX I A I1 A1 ∧ ITS 125 I1 A1) := by
  refine cl_go rfl ?_
  show xx_go (xt_P z) (d + 3) 118 0 [some (.ref h.length), some (.int (iI o)), none, none, none] [] (mh h R I A N) _
  refine go_a (pc' := 1) (ls' := [some (.ref h.length), some (.int (iI o)), none, none, none]) (st' := [.ref h.length]) rfl rfl ?_
  refine go_a (pc' := 2) (ls' := [some (.ref h.length), some (.int (iI o)), none, none, none]) (st' := [.int (iI 0), .ref h.length]) rfl rfl ?_
  refine go_put (j := 63) rfl mh_o rfl rfl (show 12 ≤ _ from hc) (show 63 < 86 by decide) rfl rfl ?_
  rw [mh_p63]
  refine go_a (pc' := 6) (ls' := [some (.ref h.length), some (.int (iI o)), none, none, none]) (st' := [.ref h.length]) rfl rfl ?_
  refine go_a (pc' := 7) (ls' := [some (.ref h.length), some (.int (iI o)), none, none, none]) (st' := [.int (iI 0), .ref h.length]) rfl rfl ?_
  refine go_put (j := 61) rfl mh_o rfl rfl (show 12 ≤ _ from hc) (show 61 < 86 by decide) rfl rfl ?_
  rw [mh_p61]
  refine go_a (pc' := 11) (ls' := [some (.ref h.length), some (.int (iI o)), none, none, none]) (st' := [.ref h.length]) rfl rfl ?_
  refine go_a (pc' := 12) (ls' := [some (.ref h.length), some (.int (iI o)), none, none, none]) (st' := [.int (iI o), .ref h.length]) rfl rfl ?_
  refine go_v (m := 119) (as := [.ref h.length, .int (iI o)]) (r := []) rfl rfl rfl mh_o rfl rfl (mm_walkTo z (d + 2) o h R (su (su I 63 0) 61 0) A N hc (show (0 : Int) ≤ 0 by decide) (show (0 : Int) < 400 by decide)) (fun v h1 hq => ?_)
  obtain ⟨rfl, rfl⟩ := hq
  show xx_go (xt_P z) (d + 3) 118 15 [some (.ref h.length), some (.int (iI o)), none, none, none] [] (mh h R (su (su (su I 63 0) 61 0) 61 (0 + 1)) (sa A 35 0 o) N) _
  exact mm_variablesOf_loop z d ar o h R I A N hc hP n0 (TZ A ar o).toNat (TZ A ar o) _ _ none none none (by omega) k3 ⟨fun j p q => ((su_ne p).trans (su_ne p)).trans (su_ne q), fun a p _ => sa_ne p⟩ (WK_one (I := su I 63 0) k0 k1 k2) ⟨⟨(show (0 : Int) ≤ 0 by decide), (show (0 : Int) ≤ 125 - TZ A ar o by omega)⟩, fun e e0 e1 => absurd (show e < 0 from e1) (by omega)⟩
theorem mm_isIn_loop (z : Value) (d : Nat) (l x : Int) (h R : xx_H) (I : Nat → Int) (A : Nat → Int → Int) (N : Int → Int) (hc : 12 ≤ h.length) (hP : PW I A) (n0 : A 1 0 < 0) (x0 : 0 ≤ x) (x1 : x < 140000) : ∀ (m : Nat) (k : Int), 0 ≤ k → k < I 7 → isL A m k → xx_go (xt_P z) d 121 2 [some (.ref h.length), some (.int (iI l)), some (.int (iI x)), some (.int (iI k))] [] (mh h R I A N) (fun v h1 => (∃ b : Int, (b = 0 ∨ b = 1) ∧ v = some (.int (iI b))) ∧ h1 = mh h R I A N) := by
  have p1 := hP.1
  intro m
  induction m with
  | zero =>
    intro k k0 k1 hL
    have e : k = 0 := hL
    subst e
    refine go_a (pc' := 3) (ls' := [some (.ref h.length), some (.int (iI l)), some (.int (iI x)), some (.int (iI 0))]) (st' := [.int (iI 0)]) rfl rfl ?_
    refine mi_eq0 (t := 28) rfl rfl (by omega) (by omega) (fun _ => ?_) (fun e => absurd rfl e)
    refine go_a (pc' := 29) (ls' := [some (.ref h.length), some (.int (iI l)), some (.int (iI x)), some (.int (iI 0))]) (st' := [.int (iI 0)]) rfl rfl ?_
    exact go_r rfl rfl rfl rfl rfl rfl ⟨⟨0, Or.inl rfl, rfl⟩, rfl⟩
  | succ m ih =>
    intro k k0 k1 hL
    have pk := hL.1
    have q := hP.2 k k0 k1
    have q2 := q.2.2.2.2 pk
    have kz : k ≠ 0 := by
      intro e
      rw [e] at pk
      omega
    refine go_a (pc' := 3) (ls' := [some (.ref h.length), some (.int (iI l)), some (.int (iI x)), some (.int (iI k))]) (st' := [.int (iI k)]) rfl rfl ?_
    refine mi_eq0 (t := 28) rfl rfl (by omega) (by omega) (fun e => absurd e kz) (fun _ => ?_)
    refine go_a (pc' := 7) (ls' := [some (.ref h.length), some (.int (iI l)), some (.int (iI x)), some (.int (iI k))]) (st' := [.ref h.length]) rfl rfl ?_
    refine go_get rfl mh_o rfl rfl ?_
    refine go_a (pc' := 11) (ls' := [some (.ref h.length), some (.int (iI l)), some (.int (iI x)), some (.int (iI k))]) (st' := [.int (iI k), .ref (h.length + 1)]) rfl rfl ?_
    refine mi_ild rfl mh_a1 (by omega) (by omega) (by decide) ?_
    refine go_a (pc' := 13) (ls' := [some (.ref h.length), some (.int (iI l)), some (.int (iI x)), some (.int (iI k))]) (st' := [.int (iI x), .int (iI (A 1 k))]) rfl rfl ?_
    refine mi_ne (t := 18) rfl rfl (by omega) (by omega) (by omega) (by omega) (fun _ => ?_) (fun _ => ?_)
    · refine go_a (pc' := 19) (ls' := [some (.ref h.length), some (.int (iI l)), some (.int (iI x)), some (.int (iI k))]) (st' := [.ref h.length]) rfl rfl ?_
      refine go_get rfl mh_o rfl rfl ?_
      refine go_a (pc' := 23) (ls' := [some (.ref h.length), some (.int (iI l)), some (.int (iI x)), some (.int (iI k))]) (st' := [.int (iI k), .ref (h.length + 2)]) rfl rfl ?_
      refine mi_ild rfl mh_a2 (by omega) (by omega) (by decide) ?_
      refine go_a (pc' := 25) (ls' := [some (.ref h.length), some (.int (iI l)), some (.int (iI x)), some (.int (iI (A 2 k)))]) (st' := []) rfl rfl ?_
      refine go_a (pc' := 2) (ls' := [some (.ref h.length), some (.int (iI l)), some (.int (iI x)), some (.int (iI (A 2 k)))]) (st' := []) rfl rfl ?_
      exact ih (A 2 k) (by omega) (by omega) hL.2
    · refine go_a (pc' := 17) (ls' := [some (.ref h.length), some (.int (iI l)), some (.int (iI x)), some (.int (iI k))]) (st' := [.int (iI 1)]) rfl rfl ?_
      exact go_r rfl rfl rfl rfl rfl rfl ⟨⟨1, Or.inr rfl, rfl⟩, rfl⟩
theorem mm_isIn (z : Value) (d m : Nat) (l x : Int) (h R : xx_H) (I : Nat → Int) (A : Nat → Int → Int) (N : Int → Int) (hc : 12 ≤ h.length) (hP : PW I A) (n0 : A 1 0 < 0) (x0 : 0 ≤ x) (x1 : x < 140000) (k0 : 0 ≤ l) (k1 : l < I 7) (hL : isL A m l) : xx_cl (xt_P z) (d + 1) 121 [.ref h.length, .int (iI l), .int (iI x)] (mh h R I A N) (fun v h1 => (∃ b : Int, (b = 0 ∨ b = 1) ∧ v = some (.int (iI b))) ∧ h1 = mh h R I A N) := by
  refine cl_go rfl ?_
  show xx_go (xt_P z) d 121 0 [some (.ref h.length), some (.int (iI l)), some (.int (iI x)), none] [] (mh h R I A N) _
  refine go_a (pc' := 1) (ls' := [some (.ref h.length), some (.int (iI l)), some (.int (iI x)), none]) (st' := [.int (iI l)]) rfl rfl ?_
  refine go_a (pc' := 2) (ls' := [some (.ref h.length), some (.int (iI l)), some (.int (iI x)), some (.int (iI l))]) (st' := []) rfl rfl ?_
  exact mm_isIn_loop z d l x h R I A N hc hP n0 x0 x1 m l k0 k1 hL
theorem mm_hasOnly_loop (z : Value) (d m : Nat) (o l : Int) (h R : xx_H) (I : Nat → Int) (A : Nat → Int → Int) (N : Int → Int) (hc : 12 ≤ h.length) (I1 : Nat → Int) (A1 : Nat → Int → Int) (X : VX I A I1 A1) (hP : PW I1 A1) (n0 : A1 1 0 < 0) (l0 : 0 ≤ l) (l1 : l < I1 7) (hL : isL A1 m l) (hI : ITS 125 I1 A1) : ∀ (n : Nat) (k : Int), (I1 63 - k).toNat ≤ n → 0 ≤ k → k ≤ 130 → xx_go (xt_P z) (d + 1) 117 7 [some (.ref h.length), some (.int (iI o)), some (.int (iI l)), some (.int (iI k))] [] (mh h R I1 A1 N) (fun v h1 => (∃ b : Int, (b = 0 ∨ b = 1) ∧ v = some (.int (iI b))) ∧ ∃ (I1 : Nat → Int) (A1 : Nat → Int → Int), h1 = mh h R I1 A1 N ∧ VX I A I1 A1) := by
  have p1 := hP.1
  have i1 := hI.1
  intro n
  induction n with
  | zero =>
    intro k hn k0 kb
    refine go_a (pc' := 8) (ls' := [some (.ref h.length), some (.int (iI o)), some (.int (iI l)), some (.int (iI k))]) (st' := [.int (iI k)]) rfl rfl ?_
    refine go_a (pc' := 9) (ls' := [some (.ref h.length), some (.int (iI o)), some (.int (iI l)), some (.int (iI k))]) (st' := [.ref h.length, .int (iI k)]) rfl rfl ?_
    refine go_get (v := .int (iI (I1 63))) rfl mh_o rfl rfl ?_
    refine mi_ge (t := 37) rfl rfl (by omega) (by omega) (by omega) (by omega) (fun _ => ?_) (fun e => absurd (show I1 63 ≤ k by omega) e)
    refine go_a (pc' := 38) (ls' := [some (.ref h.length), some (.int (iI o)), some (.int (iI l)), some (.int (iI k))]) (st' := [.int (iI 1)]) rfl rfl ?_
    exact go_r rfl rfl rfl rfl rfl rfl ⟨⟨1, Or.inr rfl, rfl⟩, I1, A1, rfl, X⟩
  | succ n ih =>
    intro k hn k0 kb
    refine go_a (pc' := 8) (ls' := [some (.ref h.length), some (.int (iI o)), some (.int (iI l)), some (.int (iI k))]) (st' := [.int (iI k)]) rfl rfl ?_
    refine go_a (pc' := 9) (ls' := [some (.ref h.length), some (.int (iI o)), some (.int (iI l)), some (.int (iI k))]) (st' := [.ref h.length, .int (iI k)]) rfl rfl ?_
    refine go_get (v := .int (iI (I1 63))) rfl mh_o rfl rfl ?_
    refine mi_ge (t := 37) rfl rfl (by omega) (by omega) (by omega) (by omega) (fun _ => ?_) (fun e => ?_)
    · refine go_a (pc' := 38) (ls' := [some (.ref h.length), some (.int (iI o)), some (.int (iI l)), some (.int (iI k))]) (st' := [.int (iI 1)]) rfl rfl ?_
      exact go_r rfl rfl rfl rfl rfl rfl ⟨⟨1, Or.inr rfl, rfl⟩, I1, A1, rfl, X⟩
    · have ik := hI.2 k k0 (by omega)
      refine go_a (pc' := 16) (ls' := [some (.ref h.length), some (.int (iI o)), some (.int (iI l)), some (.int (iI k))]) (st' := [.ref h.length]) rfl rfl ?_
      refine go_a (pc' := 17) (ls' := [some (.ref h.length), some (.int (iI o)), some (.int (iI l)), some (.int (iI k))]) (st' := [.int (iI l), .ref h.length]) rfl rfl ?_
      refine go_a (pc' := 18) (ls' := [some (.ref h.length), some (.int (iI o)), some (.int (iI l)), some (.int (iI k))]) (st' := [.ref h.length, .int (iI l), .ref h.length]) rfl rfl ?_
      refine go_get rfl mh_o rfl rfl ?_
      refine go_a (pc' := 22) (ls' := [some (.ref h.length), some (.int (iI o)), some (.int (iI l)), some (.int (iI k))]) (st' := [.int (iI k), .ref (h.length + 36), .int (iI l), .ref h.length]) rfl rfl ?_
      refine mi_ild rfl mh_a36 (by omega) (by omega) (by decide) ?_
      refine go_v (m := 121) (as := [.ref h.length, .int (iI l), .int (iI (A1 36 k))]) (r := []) rfl rfl rfl mh_o rfl rfl (mm_isIn z d m l (A1 36 k) h R I1 A1 N hc hP n0 ik.1 (by omega) l0 l1 hL) (fun v h1 hq => ?_)
      obtain ⟨⟨b, hb, rfl⟩, rfl⟩ := hq
      show xx_go (xt_P z) (d + 1) 117 26 [some (.ref h.length), some (.int (iI o)), some (.int (iI l)), some (.int (iI k))] [.int (iI b)] (mh h R I1 A1 N) _
      refine mi_ne0 (t := 31) rfl rfl (by omega) (by omega) (fun _ => ?_) (fun _ => ?_)
      · refine go_a (pc' := 34) (ls' := [some (.ref h.length), some (.int (iI o)), some (.int (iI l)), some (.int (iI (k + 1)))]) (st' := []) rfl (by rw [← iI_add k 1]; rfl) ?_
        refine go_a (pc' := 7) (ls' := [some (.ref h.length), some (.int (iI o)), some (.int (iI l)), some (.int (iI (k + 1)))]) (st' := []) rfl rfl ?_
        exact ih (k + 1) (by omega) (by omega) (by omega)
      · refine go_a (pc' := 30) (ls' := [some (.ref h.length), some (.int (iI o)), some (.int (iI l)), some (.int (iI k))]) (st' := [.int (iI 0)]) rfl rfl ?_
        exact go_r rfl rfl rfl rfl rfl rfl ⟨⟨0, Or.inl rfl, rfl⟩, I1, A1, rfl, X⟩
theorem mm_hasOnly (z : Value) (d m : Nat) (ar : Int → Int) (o l : Int) (h R : xx_H) (I : Nat → Int) (A : Nat → Int → Int) (N : Int → Int) (hc : 12 ≤ h.length) (hP : PW I A) (n0 : A 1 0 < 0) (k0 : 0 ≤ o) (k1 : o < I 7) (k2 : 1 ≤ TZ A ar o) (k3 : TZ A ar o ≤ 125) (l0 : 0 ≤ l) (l1 : l < I 7) (hL : isL A m l) : xx_cl (xt_P z) (d + 5) 117 [.ref h.length, .int (iI o), .int (iI l)] (mh h R I A N) (fun v h1 => (∃ b : Int, (b = 0 ∨ b = 1) ∧ v = some (.int (iI b))) ∧ ∃ (I1 : Nat → Int) (A1 : Nat → Int → Int), h1 = mh h R I1 A1 N ∧ VX I A I1 A1) := by
  refine cl_go rfl ?_
  show xx_go (xt_P z) (d + 4) 117 0 [some (.ref h.length), some (.int (iI o)), some (.int (iI l)), none] [] (mh h R I A N) _
  refine go_a (pc' := 1) (ls' := [some (.ref h.length), some (.int (iI o)), some (.int (iI l)), none]) (st' := [.ref h.length]) rfl rfl ?_
  refine go_a (pc' := 2) (ls' := [some (.ref h.length), some (.int (iI o)), some (.int (iI l)), none]) (st' := [.int (iI o), .ref h.length]) rfl rfl ?_
  refine go_v (m := 118) (as := [.ref h.length, .int (iI o)]) (r := []) rfl rfl rfl mh_o rfl rfl (mm_variablesOf z d ar o h R I A N hc hP n0 k0 k1 k2 k3) (fun v h1 hq => ?_)
  obtain ⟨rfl, I1, A1, rfl, X, D⟩ := hq
  have e7 : I1 7 = I 7 := X.1 7 (by decide) (by decide)
  have e1 : A1 1 = A 1 := X.2 1 (by decide) (by decide)
  have e2 : A1 2 = A 2 := X.2 2 (by decide) (by decide)
  show xx_go (xt_P z) (d + 4) 117 5 [some (.ref h.length), some (.int (iI o)), some (.int (iI l)), none] [] (mh h R I1 A1 N) _
  refine go_a (pc' := 6) (ls' := [some (.ref h.length), some (.int (iI o)), some (.int (iI l)), none]) (st' := [.int (iI 0)]) rfl rfl ?_
  refine go_a (pc' := 7) (ls' := [some (.ref h.length), some (.int (iI o)), some (.int (iI l)), some (.int (iI 0))]) (st' := []) rfl rfl ?_
  exact mm_hasOnly_loop z (d + 3) m o l h R I A N hc I1 A1 X (by unfold PW; rw [e7, e1, e2]; exact hP) (by rw [e1]; exact n0) l0 (by omega) (isL_12 e1 e2 _ _ hL) D (I1 63).toNat 0 (by omega) (Int.le_refl _) (by omega)
def VSQ (A : Nat → Int → Int) (l u : Int) : Prop := ∃ m : Nat, isL A m l ∧ (m : Int) ≤ u ∧ (∀ j : Nat, (j : Int) < (m : Int) → A 1 (A 1 (rt A j l)) = -2 ∧ 1 < A 1 (rt A j l)) ∧ ∀ i j : Nat, i < j → j < m → A 1 (rt A i l) ≠ A 1 (rt A j l)
theorem mm_areVars_in (z : Value) (d m a : Nat) (l u : Int) (h R : xx_H) (I : Nat → Int) (A : Nat → Int → Int) (N : Int → Int) (hc : 12 ≤ h.length) (hP : PW I A) (n0 : A 1 0 < 0) (k0 : 0 ≤ l) (k1 : l < I 7) (hL : isL A m l) (u1 : u < 140000) (mu : (m : Int) ≤ u) (am : a < m) (K : ∀ y : Option Value, (∀ q : Nat, q < a → A 1 (rt A q l) ≠ A 1 (rt A a l)) → xx_go (xt_P z) (d + 2) 103 78 [some (.ref h.length), some (.int (iI l)), some (.int (iI u)), some (.int (iI ((m : Int)))), some (.int (iI ((a : Int)))), y] [] (mh h R I A N) (fun v h1 => ((v = some (.int (iI 0)) ∧ ¬ VSQ A l u) ∨ (v = some (.int (iI 1)) ∧ ∃ m : Nat, isL A m l ∧ (m : Int) ≤ u ∧ (∀ j : Nat, (j : Int) < (m : Int) → A 1 (A 1 (rt A j l)) = -2 ∧ 1 < A 1 (rt A j l)) ∧ ∀ i j : Nat, i < j → j < m → A 1 (rt A i l) ≠ A 1 (rt A j l))) ∧ h1 = mh h R I A N)) : ∀ (n b : Nat), a - b ≤ n → b ≤ a → (∀ q : Nat, q < b → A 1 (rt A q l) ≠ A 1 (rt A a l)) → xx_go (xt_P z) (d + 2) 103 46 [some (.ref h.length), some (.int (iI l)), some (.int (iI u)), some (.int (iI ((m : Int)))), some (.int (iI ((a : Int)))), some (.int (iI ((b : Int))))] [] (mh h R I A N) (fun v h1 => ((v = some (.int (iI 0)) ∧ ¬ VSQ A l u) ∨ (v = some (.int (iI 1)) ∧ ∃ m : Nat, isL A m l ∧ (m : Int) ≤ u ∧ (∀ j : Nat, (j : Int) < (m : Int) → A 1 (A 1 (rt A j l)) = -2 ∧ 1 < A 1 (rt A j l)) ∧ ∀ i j : Nat, i < j → j < m → A 1 (rt A i l) ≠ A 1 (rt A j l))) ∧ h1 = mh h R I A N) := by
  have p1 := hP.1
  have ml := isL_len hP l.toNat m l (Nat.le_refl _) k0 k1 hL
  have ra := isL_rt hP m a l k0 k1 hL am
  have qa := hP.2 _ ra.1 (by omega : rt A a l < I 7)
  have nd : ∀ b : Nat, b < a → A 1 (rt A b l) = A 1 (rt A a l) → ¬ VSQ A l u := fun b ba e ⟨m2, l2, _, _, q2⟩ => q2 b a ba (by rw [isL_uq n0 m2 m l l2 hL]; exact am) e
  intro n
  induction n with
  | zero =>
    intro b hn ba hd
    refine go_a (pc' := 48) (ls' := [some (.ref h.length), some (.int (iI l)), some (.int (iI u)), some (.int (iI ((m : Int)))), some (.int (iI ((a : Int)))), some (.int (iI ((b : Int))))]) (st' := [.int (iI ((b : Int)))]) rfl rfl ?_
    refine go_a (pc' := 50) (ls' := [some (.ref h.length), some (.int (iI l)), some (.int (iI u)), some (.int (iI ((m : Int)))), some (.int (iI ((a : Int)))), some (.int (iI ((b : Int))))]) (st' := [.int (iI ((a : Int))), .int (iI ((b : Int)))]) rfl rfl ?_
    exact mi_ge (t := 78) rfl rfl (by omega) (by omega) (by omega) (by omega) (fun _ => K _ (fun q hq => hd q (by omega))) (fun e => absurd (show (a : Int) ≤ b by omega) e)
  | succ n ih =>
    intro b hn ba hd
    refine go_a (pc' := 48) (ls' := [some (.ref h.length), some (.int (iI l)), some (.int (iI u)), some (.int (iI ((m : Int)))), some (.int (iI ((a : Int)))), some (.int (iI ((b : Int))))]) (st' := [.int (iI ((b : Int)))]) rfl rfl ?_
    refine go_a (pc' := 50) (ls' := [some (.ref h.length), some (.int (iI l)), some (.int (iI u)), some (.int (iI ((m : Int)))), some (.int (iI ((a : Int)))), some (.int (iI ((b : Int))))]) (st' := [.int (iI ((a : Int))), .int (iI ((b : Int)))]) rfl rfl ?_
    refine mi_ge (t := 78) rfl rfl (by omega) (by omega) (by omega) (by omega) (fun _ => K _ (fun q hq => hd q (by omega))) (fun e => ?_)
    have rb := isL_rt hP m b l k0 k1 hL (by omega)
    have qb := hP.2 _ rb.1 (by omega : rt A b l < I 7)
    refine go_a (pc' := 54) (ls' := [some (.ref h.length), some (.int (iI l)), some (.int (iI u)), some (.int (iI ((m : Int)))), some (.int (iI ((a : Int)))), some (.int (iI ((b : Int))))]) (st' := [.ref h.length]) rfl rfl ?_
    refine go_a (pc' := 55) (ls' := [some (.ref h.length), some (.int (iI l)), some (.int (iI u)), some (.int (iI ((m : Int)))), some (.int (iI ((a : Int)))), some (.int (iI ((b : Int))))]) (st' := [.int (iI l), .ref h.length]) rfl rfl ?_
    refine go_a (pc' := 57) (ls' := [some (.ref h.length), some (.int (iI l)), some (.int (iI u)), some (.int (iI ((m : Int)))), some (.int (iI ((a : Int)))), some (.int (iI ((b : Int))))]) (st' := [.int (iI ((b : Int))), .int (iI l), .ref h.length]) rfl rfl ?_
    refine go_v (m := 99) (as := [.ref h.length, .int (iI l), .int (iI ((b : Int)))]) (r := []) rfl rfl rfl mh_o rfl rfl (mm_nth z (d + 1) b m l h R I A N hc hP (by omega) k0 k1 hL (by omega)) (fun v h1 hq => ?_)
    obtain ⟨rfl, rfl⟩ := hq
    show xx_go (xt_P z) (d + 2) 103 60 [some (.ref h.length), some (.int (iI l)), some (.int (iI u)), some (.int (iI ((m : Int)))), some (.int (iI ((a : Int)))), some (.int (iI ((b : Int))))] [.int (iI (A 1 (rt A b l)))] (mh h R I A N) _
    refine go_a (pc' := 61) (ls' := [some (.ref h.length), some (.int (iI l)), some (.int (iI u)), some (.int (iI ((m : Int)))), some (.int (iI ((a : Int)))), some (.int (iI ((b : Int))))]) (st' := [.ref h.length, .int (iI (A 1 (rt A b l)))]) rfl rfl ?_
    refine go_a (pc' := 62) (ls' := [some (.ref h.length), some (.int (iI l)), some (.int (iI u)), some (.int (iI ((m : Int)))), some (.int (iI ((a : Int)))), some (.int (iI ((b : Int))))]) (st' := [.int (iI l), .ref h.length, .int (iI (A 1 (rt A b l)))]) rfl rfl ?_
    refine go_a (pc' := 64) (ls' := [some (.ref h.length), some (.int (iI l)), some (.int (iI u)), some (.int (iI ((m : Int)))), some (.int (iI ((a : Int)))), some (.int (iI ((b : Int))))]) (st' := [.int (iI ((a : Int))), .int (iI l), .ref h.length, .int (iI (A 1 (rt A b l)))]) rfl rfl ?_
    refine go_v (m := 99) (as := [.ref h.length, .int (iI l), .int (iI ((a : Int)))]) (r := [.int (iI (A 1 (rt A b l)))]) rfl rfl rfl mh_o rfl rfl (mm_nth z (d + 1) a m l h R I A N hc hP (by omega) k0 k1 hL am) (fun v h1 hq => ?_)
    obtain ⟨rfl, rfl⟩ := hq
    show xx_go (xt_P z) (d + 2) 103 67 [some (.ref h.length), some (.int (iI l)), some (.int (iI u)), some (.int (iI ((m : Int)))), some (.int (iI ((a : Int)))), some (.int (iI ((b : Int))))] [.int (iI (A 1 (rt A a l))), .int (iI (A 1 (rt A b l)))] (mh h R I A N) _
    refine mi_ne (t := 72) rfl rfl (by omega) (by omega) (by omega) (by omega) (fun xn => ?_) (fun xe => ?_)
    · refine go_a (pc' := 75) (ls' := [some (.ref h.length), some (.int (iI l)), some (.int (iI u)), some (.int (iI ((m : Int)))), some (.int (iI ((a : Int)))), some (.int (iI (((b : Int)) + 1)))]) (st' := []) rfl (by rw [← iI_add ((b : Int)) 1]; rfl) ?_
      refine go_a (pc' := 46) (ls' := [some (.ref h.length), some (.int (iI l)), some (.int (iI u)), some (.int (iI ((m : Int)))), some (.int (iI ((a : Int)))), some (.int (iI (((b : Int)) + 1)))]) (st' := []) rfl rfl ?_
      refine ih (b + 1) (by omega) (by omega) (fun q hq => ?_)
      by_cases qb : q = b
      · rw [qb]
        omega
      · exact hd q (by omega)
    · refine go_a (pc' := 71) (ls' := [some (.ref h.length), some (.int (iI l)), some (.int (iI u)), some (.int (iI ((m : Int)))), some (.int (iI ((a : Int)))), some (.int (iI ((b : Int))))]) (st' := [.int (iI 0)]) rfl rfl ?_
      exact go_r rfl rfl rfl rfl rfl rfl ⟨Or.inl ⟨rfl, nd b (by omega) (by omega)⟩, rfl⟩
theorem mm_areVars_loop (z : Value) (d m : Nat) (l u : Int) (h R : xx_H) (I : Nat → Int) (A : Nat → Int → Int) (N : Int → Int) (hc : 12 ≤ h.length) (hP : PW I A) (n0 : A 1 0 < 0) (k0 : 0 ≤ l) (k1 : l < I 7) (hL : isL A m l) (u1 : u < 140000) (mu : (m : Int) ≤ u) : ∀ (n a : Nat) (y : Option Value), m - a ≤ n → a ≤ m → (∀ j : Nat, (j : Int) < (a : Int) → A 1 (A 1 (rt A j l)) = -2 ∧ 1 < A 1 (rt A j l)) → (∀ i j : Nat, i < j → j < a → A 1 (rt A i l) ≠ A 1 (rt A j l)) → xx_go (xt_P z) (d + 2) 103 21 [some (.ref h.length), some (.int (iI l)), some (.int (iI u)), some (.int (iI ((m : Int)))), some (.int (iI ((a : Int)))), y] [] (mh h R I A N) (fun v h1 => ((v = some (.int (iI 0)) ∧ ¬ VSQ A l u) ∨ (v = some (.int (iI 1)) ∧ ∃ m : Nat, isL A m l ∧ (m : Int) ≤ u ∧ (∀ j : Nat, (j : Int) < (m : Int) → A 1 (A 1 (rt A j l)) = -2 ∧ 1 < A 1 (rt A j l)) ∧ ∀ i j : Nat, i < j → j < m → A 1 (rt A i l) ≠ A 1 (rt A j l))) ∧ h1 = mh h R I A N) := by
  have p1 := hP.1
  have ml := isL_len hP l.toNat m l (Nat.le_refl _) k0 k1 hL
  intro n
  induction n with
  | zero =>
    intro a y hn am ha hj2
    have e : a = m := by omega
    subst e
    refine go_a (pc' := 23) (ls' := [some (.ref h.length), some (.int (iI l)), some (.int (iI u)), some (.int (iI ((a : Int)))), some (.int (iI ((a : Int)))), y]) (st' := [.int (iI ((a : Int)))]) rfl rfl ?_
    refine go_a (pc' := 24) (ls' := [some (.ref h.length), some (.int (iI l)), some (.int (iI u)), some (.int (iI ((a : Int)))), some (.int (iI ((a : Int)))), y]) (st' := [.int (iI ((a : Int))), .int (iI ((a : Int)))]) rfl rfl ?_
    refine mi_ge (t := 84) rfl rfl (by omega) (by omega) (by omega) (by omega) (fun _ => ?_) (fun e => absurd (Int.le_refl _) e)
    refine go_a (pc' := 85) (ls' := [some (.ref h.length), some (.int (iI l)), some (.int (iI u)), some (.int (iI ((a : Int)))), some (.int (iI ((a : Int)))), y]) (st' := [.int (iI 1)]) rfl rfl ?_
    exact go_r rfl rfl rfl rfl rfl rfl ⟨Or.inr ⟨rfl, a, hL, mu, ha, hj2⟩, rfl⟩
  | succ n ih =>
    intro a y hn am ha hj2
    refine go_a (pc' := 23) (ls' := [some (.ref h.length), some (.int (iI l)), some (.int (iI u)), some (.int (iI ((m : Int)))), some (.int (iI ((a : Int)))), y]) (st' := [.int (iI ((a : Int)))]) rfl rfl ?_
    refine go_a (pc' := 24) (ls' := [some (.ref h.length), some (.int (iI l)), some (.int (iI u)), some (.int (iI ((m : Int)))), some (.int (iI ((a : Int)))), y]) (st' := [.int (iI ((m : Int))), .int (iI ((a : Int)))]) rfl rfl ?_
    refine mi_ge (t := 84) rfl rfl (by omega) (by omega) (by omega) (by omega) (fun e => ?_) (fun e => ?_)
    · have e9 : a = m := by omega
      refine go_a (pc' := 85) (ls' := [some (.ref h.length), some (.int (iI l)), some (.int (iI u)), some (.int (iI ((m : Int)))), some (.int (iI ((a : Int)))), y]) (st' := [.int (iI 1)]) rfl rfl ?_
      exact go_r rfl rfl rfl rfl rfl rfl ⟨Or.inr ⟨rfl, m, hL, mu, by rw [← e9]; exact ha, by rw [← e9]; exact hj2⟩, rfl⟩
    · have ra := isL_rt hP m a l k0 k1 hL (by omega)
      have qa := hP.2 _ ra.1 (by omega : rt A a l < I 7)
      refine go_a (pc' := 28) (ls' := [some (.ref h.length), some (.int (iI l)), some (.int (iI u)), some (.int (iI ((m : Int)))), some (.int (iI ((a : Int)))), y]) (st' := [.ref h.length]) rfl rfl ?_
      refine go_a (pc' := 29) (ls' := [some (.ref h.length), some (.int (iI l)), some (.int (iI u)), some (.int (iI ((m : Int)))), some (.int (iI ((a : Int)))), y]) (st' := [.ref h.length, .ref h.length]) rfl rfl ?_
      refine go_a (pc' := 30) (ls' := [some (.ref h.length), some (.int (iI l)), some (.int (iI u)), some (.int (iI ((m : Int)))), some (.int (iI ((a : Int)))), y]) (st' := [.int (iI l), .ref h.length, .ref h.length]) rfl rfl ?_
      refine go_a (pc' := 32) (ls' := [some (.ref h.length), some (.int (iI l)), some (.int (iI u)), some (.int (iI ((m : Int)))), some (.int (iI ((a : Int)))), y]) (st' := [.int (iI ((a : Int))), .int (iI l), .ref h.length, .ref h.length]) rfl rfl ?_
      refine go_v (m := 99) (as := [.ref h.length, .int (iI l), .int (iI ((a : Int)))]) (r := [.ref h.length]) rfl rfl rfl mh_o rfl rfl (mm_nth z (d + 1) a m l h R I A N hc hP (by omega) k0 k1 hL (by omega)) (fun v h1 hq => ?_)
      obtain ⟨rfl, rfl⟩ := hq
      show xx_go (xt_P z) (d + 2) 103 35 [some (.ref h.length), some (.int (iI l)), some (.int (iI u)), some (.int (iI ((m : Int)))), some (.int (iI ((a : Int)))), y] [.int (iI (A 1 (rt A a l))), .ref h.length] (mh h R I A N) _
      refine go_v (m := 104) (as := [.ref h.length, .int (iI (A 1 (rt A a l)))]) (r := []) rfl rfl rfl mh_o rfl rfl (mb_isVariable z d (A 1 (rt A a l)) h R I A N hc hP ra.2.2 (by omega)) (fun v h1 hq => ?_)
      obtain ⟨⟨b, rfl, hb⟩, rfl⟩ := hq
      show xx_go (xt_P z) (d + 2) 103 38 [some (.ref h.length), some (.int (iI l)), some (.int (iI u)), some (.int (iI ((m : Int)))), some (.int (iI ((a : Int)))), y] [.int (iI b)] (mh h R I A N) _
      refine mi_ne0 (t := 43) rfl rfl (by omega) (by omega) (fun e2 => ?_) (fun e2 => ?_)
      · refine go_a (pc' := 44) (ls' := [some (.ref h.length), some (.int (iI l)), some (.int (iI u)), some (.int (iI ((m : Int)))), some (.int (iI ((a : Int)))), y]) (st' := [.int (iI 0)]) rfl rfl ?_
        refine go_a (pc' := 46) (ls' := [some (.ref h.length), some (.int (iI l)), some (.int (iI u)), some (.int (iI ((m : Int)))), some (.int (iI ((a : Int)))), some (.int (iI 0))]) (st' := []) rfl rfl ?_
        refine mm_areVars_in z d m a l u h R I A N hc hP n0 k0 k1 hL u1 mu (by omega) (fun y hd => ?_) a 0 (by omega) (by omega) (fun q hq => absurd hq (by omega))
        show xx_go (xt_P z) (d + 2) 103 78 [some (.ref h.length), some (.int (iI l)), some (.int (iI u)), some (.int (iI ((m : Int)))), some (.int (iI ((a : Int)))), y] [] (mh h R I A N) _
        refine go_a (pc' := 81) (ls' := [some (.ref h.length), some (.int (iI l)), some (.int (iI u)), some (.int (iI ((m : Int)))), some (.int (iI (((a : Int)) + 1))), y]) (st' := []) rfl (by rw [← iI_add ((a : Int)) 1]; rfl) ?_
        refine go_a (pc' := 21) (ls' := [some (.ref h.length), some (.int (iI l)), some (.int (iI u)), some (.int (iI ((m : Int)))), some (.int (iI (((a : Int)) + 1))), y]) (st' := []) rfl rfl ?_
        refine ih (a + 1) _ (by omega) (by omega) (fun j hj => ?_) (fun p j pj ja => ?_)
        · by_cases q : j = a
          · rw [q]
            omega
          · exact ha j (by omega)
        · by_cases q : j = a
          · rw [q]
            exact hd p (by omega)
          · exact hj2 p j pj (by omega)
      · have nv : ¬ VSQ A l u := fun ⟨m2, l2, _, q2, _⟩ => by
          have em := isL_uq n0 m2 m l l2 hL
          have q3 := q2 a (by omega)
          omega
        refine go_a (pc' := 42) (ls' := [some (.ref h.length), some (.int (iI l)), some (.int (iI u)), some (.int (iI ((m : Int)))), some (.int (iI ((a : Int)))), y]) (st' := [.int (iI 0)]) rfl rfl ?_
        exact go_r rfl rfl rfl rfl rfl rfl ⟨Or.inl ⟨rfl, nv⟩, rfl⟩
theorem mm_areVariables (z : Value) (d : Nat) (l u : Int) (h R : xx_H) (I : Nat → Int) (A : Nat → Int → Int) (N : Int → Int) (hc : 12 ≤ h.length) (hP : PW I A) (n0 : A 1 0 < 0) (k0 : 0 ≤ l) (k1 : l < I 7) (u0 : 0 ≤ u) (u1 : u < 140000) : xx_cl (xt_P z) (d + 3) 103 [.ref h.length, .int (iI l), .int (iI u)] (mh h R I A N) (fun v h1 => ((v = some (.int (iI 0)) ∧ ¬ VSQ A l u) ∨ (v = some (.int (iI 1)) ∧ ∃ m : Nat, isL A m l ∧ (m : Int) ≤ u ∧ (∀ j : Nat, (j : Int) < (m : Int) → A 1 (A 1 (rt A j l)) = -2 ∧ 1 < A 1 (rt A j l)) ∧ ∀ i j : Nat, i < j → j < m → A 1 (rt A i l) ≠ A 1 (rt A j l))) ∧ h1 = mh h R I A N) := by
  have p1 := hP.1
  refine cl_go rfl ?_
  show xx_go (xt_P z) (d + 2) 103 0 [some (.ref h.length), some (.int (iI l)), some (.int (iI u)), none, none, none] [] (mh h R I A N) _
  refine go_a (pc' := 1) (ls' := [some (.ref h.length), some (.int (iI l)), some (.int (iI u)), none, none, none]) (st' := [.ref h.length]) rfl rfl ?_
  refine go_a (pc' := 2) (ls' := [some (.ref h.length), some (.int (iI l)), some (.int (iI u)), none, none, none]) (st' := [.int (iI l), .ref h.length]) rfl rfl ?_
  refine go_v (m := 98) (as := [.ref h.length, .int (iI l)]) (r := []) rfl rfl rfl mh_o rfl rfl (mm_len2 z d l h R I A N hc hP n0 k0 k1) (fun v h1 hq => ?_)
  obtain ⟨⟨n, rfl, hn⟩, rfl⟩ := hq
  have nr : -1 ≤ n ∧ n < 200000 := by
    rcases hn with ⟨hn, -⟩ | ⟨q, hn, hl⟩
    · omega
    · have := isL_len hP l.toNat q l (Nat.le_refl _) k0 k1 hl
      omega
  show xx_go (xt_P z) (d + 2) 103 5 [some (.ref h.length), some (.int (iI l)), some (.int (iI u)), none, none, none] [.int (iI n)] (mh h R I A N) _
  refine go_a (pc' := 6) (ls' := [some (.ref h.length), some (.int (iI l)), some (.int (iI u)), some (.int (iI n)), none, none]) (st' := []) rfl rfl ?_
  refine go_a (pc' := 7) (ls' := [some (.ref h.length), some (.int (iI l)), some (.int (iI u)), some (.int (iI n)), none, none]) (st' := [.int (iI n)]) rfl rfl ?_
  refine go_a (pc' := 8) (ls' := [some (.ref h.length), some (.int (iI l)), some (.int (iI u)), some (.int (iI n)), none, none]) (st' := [.int (iI ((-1))), .int (iI n)]) rfl rfl ?_
  refine mi_eq (t := 16) rfl rfl (by omega) (by omega) (by omega) (by omega) (fun e => ?_) (fun e => ?_)
  · have nv : ¬ VSQ A l u := fun ⟨m2, l2, _⟩ => by
      rcases hn with ⟨-, hn⟩ | ⟨q, hn, hl⟩
      · exact hn m2 l2
      · omega
    refine go_a (pc' := 17) (ls' := [some (.ref h.length), some (.int (iI l)), some (.int (iI u)), some (.int (iI n)), none, none]) (st' := [.int (iI 0)]) rfl rfl ?_
    exact go_r rfl rfl rfl rfl rfl rfl ⟨Or.inl ⟨rfl, nv⟩, rfl⟩
  · obtain ⟨m, rfl, hL⟩ : ∃ q : Nat, n = q ∧ isL A q l := by
      rcases hn with ⟨hn, -⟩ | hn
      · exact absurd hn e
      · exact hn
    refine go_a (pc' := 12) (ls' := [some (.ref h.length), some (.int (iI l)), some (.int (iI u)), some (.int (iI ((m : Int)))), none, none]) (st' := [.int (iI ((m : Int)))]) rfl rfl ?_
    refine go_a (pc' := 13) (ls' := [some (.ref h.length), some (.int (iI l)), some (.int (iI u)), some (.int (iI ((m : Int)))), none, none]) (st' := [.int (iI u), .int (iI ((m : Int)))]) rfl rfl ?_
    refine mi_le (t := 18) rfl rfl (by omega) (by omega) (by omega) (by omega) (fun e2 => ?_) (fun e2 => ?_)
    · refine go_a (pc' := 19) (ls' := [some (.ref h.length), some (.int (iI l)), some (.int (iI u)), some (.int (iI ((m : Int)))), none, none]) (st' := [.int (iI 0)]) rfl rfl ?_
      refine go_a (pc' := 21) (ls' := [some (.ref h.length), some (.int (iI l)), some (.int (iI u)), some (.int (iI ((m : Int)))), some (.int (iI 0)), none]) (st' := []) rfl rfl ?_
      exact mm_areVars_loop z d m l u h R I A N hc hP n0 k0 k1 hL u1 e2 m 0 none (by omega) (by omega) (fun j hj => absurd hj (by omega)) (fun p j pj ja => absurd ja (by omega))
    · have nv : ¬ VSQ A l u := fun ⟨m2, l2, q2, _⟩ => by
        have em := isL_uq n0 m2 m l l2 hL
        omega
      refine go_a (pc' := 17) (ls' := [some (.ref h.length), some (.int (iI l)), some (.int (iI u)), some (.int (iI ((m : Int)))), none, none]) (st' := [.int (iI 0)]) rfl rfl ?_
      exact go_r rfl rfl rfl rfl rfl rfl ⟨Or.inl ⟨rfl, nv⟩, rfl⟩

