theorem SZ_each {A : Nat → Int → Int} {ar : Int → Int} {f : Int → Int} : ∀ n : Nat, (∀ e : Nat, e < n → 1 ≤ TZ A ar (f e)) → ∀ e : Nat, e < n → TZ A ar (f e) ≤ SZ A ar f n
  | n + 1, h, e, he => by
    show TZ A ar (f e) ≤ SZ A ar f n + TZ A ar (f n)
    have b := h n (by omega)
    have c := SZ_ge (f := f) n (fun e he => h e (by omega))
    by_cases q : e = n
    · rw [q]
      omega
    · have a := SZ_each n (fun e he => h e (by omega)) e (by omega)
      omega
theorem WK_each {ar : Int → Int} {s : Int} {I : Nat → Int} {A : Nat → Int → Int} (w : WK ar s I A) (e : Int) (e0 : 0 ≤ e) (e1 : e < I 61) : TZ A ar (A 35 e) ≤ s := by
  have a := SZ_each (f := A 35) (I 61).toNat (fun q hq => (w.2.1 q (by omega) (by omega)).2) e.toNat (by omega)
  rw [Int.toNat_of_nonneg e0] at a
  have b := w.2.2
  omega
theorem nt_12 {A A1 : Nat → Int → Int} {w : Int → Int} (h1 : A1 1 = A 1) (h2 : A1 2 = A 2) : ∀ (f : Nat) (k : Int), nt A1 w f k = nt A w f k
  | 0, _ => rfl
  | f + 1, k => by rw [nt_succ, nt_succ, h1, h2, nt_12 h1 h2 f, nt_12 h1 h2 f]
theorem nt_12w {A A1 : Nat → Int → Int} {w : Int → Int} (h1 : A1 1 = A 1) (h2 : A1 2 = A 2) : NT A1 w = NT A w := by
  funext k
  unfold NT
  rw [nt_12 h1 h2]
theorem WK_one {ar : Int → Int} {v : Int} {I : Nat → Int} {A : Nat → Int → Int} (v0 : 0 ≤ v) (v1 : v < I 7) (v2 : 1 ≤ TZ A ar v) : WK ar (TZ A ar v) (su (su I 61 0) 61 (0 + 1)) (sa A 35 0 v) := by
  have w : WK ar 0 (su I 61 0) A := ⟨Int.le_refl _, fun e e0 e1 => absurd (show e < 0 from e1) (by omega), Int.le_refl _⟩
  have := WK_push w v0 v1 v2
  rw [Int.zero_add] at this
  exact this
theorem mm_hasCall_loop (z : Value) (d : Nat) (ar : Int → Int) (o f : Int) (h R : xx_H) (I : Nat → Int) (A : Nat → Int → Int) (N : Int → Int) (hc : 12 ≤ h.length) (hP : PW I A) (n0 : A 1 0 < 0) (f0 : 0 ≤ f) (f1 : f < 140000) : ∀ (n : Nat) (s : Int) (I1 : Nat → Int) (A1 : Nat → Int → Int) (y : Option Value), s ≤ n → s ≤ 399 → WX I A I1 A1 → WK ar s I1 A1 → (∀ w : Int → Int, (∀ k : Int, A 1 k ≠ f → w k = 0) → SG (NT A w) (A1 35) (I1 61).toNat = NT A w o) → xx_go (xt_P z) (d + 3) 130 10 [some (.ref h.length), some (.int (iI o)), some (.int (iI f)), y] [] (mh h R I1 A1 N) (fun v h1 => (∃ b : Int, ((b = 0 ∧ ∀ w : Int → Int, (∀ k : Int, A 1 k ≠ f → w k = 0) → NT A w o = 0) ∨ b = 1) ∧ v = some (.int (iI b))) ∧ ∃ (I1 : Nat → Int) (A1 : Nat → Int → Int), h1 = mh h R I1 A1 N ∧ WX I A I1 A1) := by
  intro n
  induction n with
  | zero =>
    intro s I1 A1 y hn s9 X W hG
    have ge := SZ_ge (I1 61).toNat (fun e he => (W.2.1 e (by omega) (by omega)).2)
    have w0 := W.1
    have w2 := W.2.2
    refine go_a (pc' := 11) (ls' := [some (.ref h.length), some (.int (iI o)), some (.int (iI f)), y]) (st' := [.ref h.length]) rfl rfl ?_
    refine go_get (v := .int (iI (I1 61))) rfl mh_o rfl rfl ?_
    refine mi_le0 (t := 36) rfl rfl (by omega) (by omega) (fun _ => ?_) (fun e => absurd (show I1 61 ≤ 0 by omega) e)
    refine go_a (pc' := 37) (ls' := [some (.ref h.length), some (.int (iI o)), some (.int (iI f)), y]) (st' := [.int (iI 0)]) rfl rfl ?_
    exact go_r rfl rfl rfl rfl rfl rfl ⟨⟨0, Or.inl ⟨rfl, fun w hw => by rw [← hG w hw, show (I1 61).toNat = 0 by omega]; rfl⟩, rfl⟩, I1, A1, rfl, X⟩
  | succ n ih =>
    intro s I1 A1 y hn s9 X W hG
    have ge := SZ_ge (I1 61).toNat (fun e he => (W.2.1 e (by omega) (by omega)).2)
    have w0 := W.1
    have w2 := W.2.2
    have P1 := WX_PW hP X
    have n1 : A1 1 0 < 0 := by rw [X.2 1 (by decide)]; exact n0
    refine go_a (pc' := 11) (ls' := [some (.ref h.length), some (.int (iI o)), some (.int (iI f)), y]) (st' := [.ref h.length]) rfl rfl ?_
    refine go_get (v := .int (iI (I1 61))) rfl mh_o rfl rfl ?_
    refine mi_le0 (t := 36) rfl rfl (by omega) (by omega) (fun _ => ?_) (fun e => ?_)
    · refine go_a (pc' := 37) (ls' := [some (.ref h.length), some (.int (iI o)), some (.int (iI f)), y]) (st' := [.int (iI 0)]) rfl rfl ?_
      exact go_r rfl rfl rfl rfl rfl rfl ⟨⟨0, Or.inl ⟨rfl, fun w hw => by rw [← hG w hw, show (I1 61).toNat = 0 by omega]; rfl⟩, rfl⟩, I1, A1, rfl, X⟩
    · have top := W.2.1 (I1 61 - 1) (by omega) (by omega)
      refine go_a (pc' := 18) (ls' := [some (.ref h.length), some (.int (iI o)), some (.int (iI f)), y]) (st' := [.ref h.length]) rfl rfl ?_
      refine go_v (m := 120) (as := [.ref h.length]) (r := []) rfl rfl rfl mh_o rfl rfl (mm_walkOn z d ar s h R I1 A1 N hc P1 n1 W (by omega) s9) (fun v h1 hq => ?_)
      obtain ⟨rfl, I2, A2, rfl, X2, W2, G2⟩ := hq
      have P2 := WX_PW P1 X2
      have e7 : I2 7 = I1 7 := X2.1 7 (by decide)
      show xx_go (xt_P z) (d + 3) 130 21 [some (.ref h.length), some (.int (iI o)), some (.int (iI f)), y] [.int (iI (A1 35 (I1 61 - 1)))] (mh h R I2 A2 N) _
      refine go_a (pc' := 22) (ls' := [some (.ref h.length), some (.int (iI o)), some (.int (iI f)), some (.int (iI (A1 35 (I1 61 - 1))))]) (st' := []) rfl rfl ?_
      refine go_a (pc' := 23) (ls' := [some (.ref h.length), some (.int (iI o)), some (.int (iI f)), some (.int (iI (A1 35 (I1 61 - 1))))]) (st' := [.ref h.length]) rfl rfl ?_
      refine go_a (pc' := 24) (ls' := [some (.ref h.length), some (.int (iI o)), some (.int (iI f)), some (.int (iI (A1 35 (I1 61 - 1))))]) (st' := [.int (iI (A1 35 (I1 61 - 1))), .ref h.length]) rfl rfl ?_
      refine go_a (pc' := 25) (ls' := [some (.ref h.length), some (.int (iI o)), some (.int (iI f)), some (.int (iI (A1 35 (I1 61 - 1))))]) (st' := [.int (iI f), .int (iI (A1 35 (I1 61 - 1))), .ref h.length]) rfl rfl ?_
      refine go_v (m := 123) (as := [.ref h.length, .int (iI (A1 35 (I1 61 - 1))), .int (iI f)]) (r := []) rfl rfl rfl mh_o rfl rfl (mb_isCallOf z (d + 1) (A1 35 (I1 61 - 1)) f h R I2 A2 N hc P2 top.1.1 (by omega) f0 f1) (fun v h1 hq => ?_)
      obtain ⟨⟨b, rfl, hb⟩, rfl⟩ := hq
      show xx_go (xt_P z) (d + 3) 130 28 [some (.ref h.length), some (.int (iI o)), some (.int (iI f)), some (.int (iI (A1 35 (I1 61 - 1))))] [.int (iI b)] (mh h R I2 A2 N) _
      refine mi_eq0 (t := 33) rfl rfl (by omega) (by omega) (fun e2 => ?_) (fun e2 => ?_)
      · refine go_a (pc' := 10) (ls' := [some (.ref h.length), some (.int (iI o)), some (.int (iI f)), some (.int (iI (A1 35 (I1 61 - 1))))]) (st' := []) rfl rfl ?_
        have e1 : A1 1 = A 1 := X.2 1 (by decide)
        have e2 : A1 2 = A 2 := X.2 2 (by decide)
        have ef : A 1 (A1 35 (I1 61 - 1)) ≠ f := by
          have e9 : A2 1 = A 1 := (X2.2 1 (by decide)).trans e1
          rw [e9] at hb
          omega
        exact ih (s - 1) I2 A2 _ (by omega) (by omega) (WX_tr X X2) W2 (fun w hw => by
          have g := G2 w
          rw [nt_12w e1 e2, hG w hw, hw _ ef, Int.sub_zero] at g
          exact g)
      · refine go_a (pc' := 32) (ls' := [some (.ref h.length), some (.int (iI o)), some (.int (iI f)), some (.int (iI (A1 35 (I1 61 - 1))))]) (st' := [.int (iI 1)]) rfl rfl ?_
        exact go_r rfl rfl rfl rfl rfl rfl ⟨⟨1, Or.inr rfl, rfl⟩, I2, A2, rfl, WX_tr X X2⟩
theorem mm_hasCall (z : Value) (d : Nat) (ar : Int → Int) (o f : Int) (h R : xx_H) (I : Nat → Int) (A : Nat → Int → Int) (N : Int → Int) (hc : 12 ≤ h.length) (hP : PW I A) (n0 : A 1 0 < 0) (k0 : 0 ≤ o) (k1 : o < I 7) (k2 : 1 ≤ TZ A ar o) (k3 : TZ A ar o ≤ 399) (f0 : 0 ≤ f) (f1 : f < 140000) : xx_cl (xt_P z) (d + 4) 130 [.ref h.length, .int (iI o), .int (iI f)] (mh h R I A N) (fun v h1 => (∃ b : Int, ((b = 0 ∧ ∀ w : Int → Int, (∀ k : Int, A 1 k ≠ f → w k = 0) → NT A w o = 0) ∨ b = 1) ∧ v = some (.int (iI b))) ∧ ∃ (I1 : Nat → Int) (A1 : Nat → Int → Int), h1 = mh h R I1 A1 N ∧ WX I A I1 A1) := by
  refine cl_go rfl ?_
  show xx_go (xt_P z) (d + 3) 130 0 [some (.ref h.length), some (.int (iI o)), some (.int (iI f)), none] [] (mh h R I A N) _
  refine go_a (pc' := 1) (ls' := [some (.ref h.length), some (.int (iI o)), some (.int (iI f)), none]) (st' := [.ref h.length]) rfl rfl ?_
  refine go_a (pc' := 2) (ls' := [some (.ref h.length), some (.int (iI o)), some (.int (iI f)), none]) (st' := [.int (iI 0), .ref h.length]) rfl rfl ?_
  refine go_put (j := 61) rfl mh_o rfl rfl (show 12 ≤ _ from hc) (show 61 < 86 by decide) rfl rfl ?_
  rw [mh_p61]
  refine go_a (pc' := 6) (ls' := [some (.ref h.length), some (.int (iI o)), some (.int (iI f)), none]) (st' := [.ref h.length]) rfl rfl ?_
  refine go_a (pc' := 7) (ls' := [some (.ref h.length), some (.int (iI o)), some (.int (iI f)), none]) (st' := [.int (iI o), .ref h.length]) rfl rfl ?_
  refine go_v (m := 119) (as := [.ref h.length, .int (iI o)]) (r := []) rfl rfl rfl mh_o rfl rfl (mm_walkTo z (d + 2) o h R (su I 61 0) A N hc (show (0 : Int) ≤ 0 by decide) (show (0 : Int) < 400 by decide)) (fun v h1 hq => ?_)
  obtain ⟨rfl, rfl⟩ := hq
  show xx_go (xt_P z) (d + 3) 130 10 [some (.ref h.length), some (.int (iI o)), some (.int (iI f)), none] [] (mh h R (su (su I 61 0) 61 (0 + 1)) (sa A 35 0 o) N) _
  exact mm_hasCall_loop z d ar o f h R I A N hc hP n0 f0 f1 (TZ A ar o).toNat (TZ A ar o) _ _ none (by omega) k3 ⟨fun j p => (su_ne p).trans (su_ne p), fun a p => sa_ne p⟩ (WK_one k0 k1 k2) (fun w _ => by
    show SG (NT A w) (sf (A 35) 0 o) (0 + 1 : Int).toNat = _
    rw [SG_push (Int.le_refl _)]
    show (0 : Int) + NT A w o = _
    omega)
def FX (I : Nat → Int) (A : Nat → Int → Int) (I1 : Nat → Int) (A1 : Nat → Int → Int) : Prop := (∀ j : Nat, j ≠ 61 → j ≠ 76 → I1 j = I j) ∧ ∀ a : Nat, a ≠ 35 → a ≠ 45 → A1 a = A a
def FD (ar : Int → Int) (f n : Int) (I : Nat → Int) (A : Nat → Int → Int) : Prop := (0 ≤ I 76 ∧ I 76 ≤ n) ∧ ∀ e : Int, 0 ≤ e → e < I 76 → (0 ≤ A 45 e ∧ A 45 e < I 7) ∧ (1 ≤ TZ A ar (A 45 e) ∧ TZ A ar (A 45 e) ≤ 125) ∧ A 1 (A 45 e) = f
theorem FX_WX {I I1 I2 : Nat → Int} {A A1 A2 : Nat → Int → Int} (x : FX I A I1 A1) (y : WX I1 A1 I2 A2) : FX I A I2 A2 := ⟨fun j p q => (y.1 j p).trans (x.1 j p q), fun a p q => (y.2 a p).trans (x.2 a p q)⟩
theorem FD_WX {ar : Int → Int} {f n : Int} {I I1 : Nat → Int} {A A1 : Nat → Int → Int} (x : FD ar f n I A) (y : WX I A I1 A1) : FD ar f n I1 A1 := by
  have tz := WX_tz (ar := ar) y
  unfold FD
  rw [y.1 76 (by decide), y.1 7 (by decide), y.2 45 (by decide), y.2 1 (by decide), tz.1]
  exact x
theorem mm_find_loop (z : Value) (d : Nat) (ar : Int → Int) (o f : Int) (h R : xx_H) (I : Nat → Int) (A : Nat → Int → Int) (N : Int → Int) (hc : 12 ≤ h.length) (hP : PW I A) (n0 : A 1 0 < 0) (f0 : 0 ≤ f) (f1 : f < 140000) : ∀ (n : Nat) (s : Int) (I1 : Nat → Int) (A1 : Nat → Int → Int) (y : Option Value), s ≤ n → s ≤ 125 → FX I A I1 A1 → WK ar s I1 A1 → FD ar f (125 - s) I1 A1 → (∀ w : Int → Int, (∀ k : Int, A 1 k ≠ f → w k = 0) → SG w (A1 45) (I1 76).toNat + SG (NT A w) (A1 35) (I1 61).toNat = NT A w o) → xx_go (xt_P z) (d + 3) 131 15 [some (.ref h.length), some (.int (iI o)), some (.int (iI f)), y] [] (mh h R I1 A1 N) (fun v h1 => v = none ∧ ∃ (I1 : Nat → Int) (A1 : Nat → Int → Int), h1 = mh h R I1 A1 N ∧ FX I A I1 A1 ∧ FD ar f 125 I1 A1 ∧ ∀ w : Int → Int, (∀ k : Int, A 1 k ≠ f → w k = 0) → SG w (A1 45) (I1 76).toNat = NT A w o) := by
  intro n
  induction n with
  | zero =>
    intro s I1 A1 y hn s9 X W D hG
    have ge := SZ_ge (I1 61).toNat (fun e he => (W.2.1 e (by omega) (by omega)).2)
    have w0 := W.1
    have w2 := W.2.2
    refine go_a (pc' := 16) (ls' := [some (.ref h.length), some (.int (iI o)), some (.int (iI f)), y]) (st' := [.ref h.length]) rfl rfl ?_
    refine go_get (v := .int (iI (I1 61))) rfl mh_o rfl rfl ?_
    refine mi_le0 (t := 62) rfl rfl (by omega) (by omega) (fun _ => ?_) (fun e => absurd (show I1 61 ≤ 0 by omega) e)
    exact go_r rfl rfl rfl rfl rfl rfl ⟨rfl, I1, A1, rfl, X, ⟨⟨D.1.1, by have := D.1.2; omega⟩, D.2⟩, fun w hw => by have g := hG w hw; rw [show (I1 61).toNat = 0 by omega] at g; have g : _ + (0 : Int) = _ := g; omega⟩
  | succ n ih =>
    intro s I1 A1 y hn s9 X W D hG
    have ge := SZ_ge (I1 61).toNat (fun e he => (W.2.1 e (by omega) (by omega)).2)
    have w0 := W.1
    have w2 := W.2.2
    have P1 : PW I1 A1 := by
      unfold PW
      rw [X.1 7 (by decide) (by decide), X.2 1 (by decide) (by decide), X.2 2 (by decide) (by decide)]
      exact hP
    have n1 : A1 1 0 < 0 := by rw [X.2 1 (by decide) (by decide)]; exact n0
    refine go_a (pc' := 16) (ls' := [some (.ref h.length), some (.int (iI o)), some (.int (iI f)), y]) (st' := [.ref h.length]) rfl rfl ?_
    refine go_get (v := .int (iI (I1 61))) rfl mh_o rfl rfl ?_
    refine mi_le0 (t := 62) rfl rfl (by omega) (by omega) (fun _ => ?_) (fun e => ?_)
    · exact go_r rfl rfl rfl rfl rfl rfl ⟨rfl, I1, A1, rfl, X, ⟨⟨D.1.1, by have := D.1.2; omega⟩, D.2⟩, fun w hw => by have g := hG w hw; rw [show (I1 61).toNat = 0 by omega] at g; have g : _ + (0 : Int) = _ := g; omega⟩
    · have top := W.2.1 (I1 61 - 1) (by omega) (by omega)
      refine go_a (pc' := 23) (ls' := [some (.ref h.length), some (.int (iI o)), some (.int (iI f)), y]) (st' := [.ref h.length]) rfl rfl ?_
      refine go_v (m := 120) (as := [.ref h.length]) (r := []) rfl rfl rfl mh_o rfl rfl (mm_walkOn z d ar s h R I1 A1 N hc P1 n1 W (by omega) (by omega)) (fun v h1 hq => ?_)
      obtain ⟨rfl, I2, A2, rfl, X2, W2, G2⟩ := hq
      have P2 := WX_PW P1 X2
      have e7 : I2 7 = I1 7 := X2.1 7 (by decide)
      have D2 := FD_WX D X2
      have tz2 := WX_tz (ar := ar) X2
      show xx_go (xt_P z) (d + 3) 131 26 [some (.ref h.length), some (.int (iI o)), some (.int (iI f)), y] [.int (iI (A1 35 (I1 61 - 1)))] (mh h R I2 A2 N) _
      refine go_a (pc' := 27) (ls' := [some (.ref h.length), some (.int (iI o)), some (.int (iI f)), some (.int (iI (A1 35 (I1 61 - 1))))]) (st' := []) rfl rfl ?_
      refine go_a (pc' := 28) (ls' := [some (.ref h.length), some (.int (iI o)), some (.int (iI f)), some (.int (iI (A1 35 (I1 61 - 1))))]) (st' := [.ref h.length]) rfl rfl ?_
      refine go_a (pc' := 29) (ls' := [some (.ref h.length), some (.int (iI o)), some (.int (iI f)), some (.int (iI (A1 35 (I1 61 - 1))))]) (st' := [.int (iI (A1 35 (I1 61 - 1))), .ref h.length]) rfl rfl ?_
      refine go_a (pc' := 30) (ls' := [some (.ref h.length), some (.int (iI o)), some (.int (iI f)), some (.int (iI (A1 35 (I1 61 - 1))))]) (st' := [.int (iI f), .int (iI (A1 35 (I1 61 - 1))), .ref h.length]) rfl rfl ?_
      refine go_v (m := 123) (as := [.ref h.length, .int (iI (A1 35 (I1 61 - 1))), .int (iI f)]) (r := []) rfl rfl rfl mh_o rfl rfl (mb_isCallOf z (d + 1) (A1 35 (I1 61 - 1)) f h R I2 A2 N hc P2 top.1.1 (by omega) f0 f1) (fun v h1 hq => ?_)
      obtain ⟨⟨b, rfl, hb⟩, rfl⟩ := hq
      show xx_go (xt_P z) (d + 3) 131 33 [some (.ref h.length), some (.int (iI o)), some (.int (iI f)), some (.int (iI (A1 35 (I1 61 - 1))))] [.int (iI b)] (mh h R I2 A2 N) _
      refine mi_ne0 (t := 39) rfl rfl (by omega) (by omega) (fun e2 => ?_) (fun e2 => ?_)
      · have d1 := D2.1
        have ef : A2 1 (A1 35 (I1 61 - 1)) = f := by omega
        have ge2 := SZ_ge (I2 61).toNat (fun e he => (W2.2.1 e (by have := W2.1; omega) (by have := W2.1; omega)).2)
        have w22 := W2.2.2
        refine go_a (pc' := 40) (ls' := [some (.ref h.length), some (.int (iI o)), some (.int (iI f)), some (.int (iI (A1 35 (I1 61 - 1))))]) (st' := [.ref h.length]) rfl rfl ?_
        refine go_get rfl mh_o rfl rfl ?_
        refine go_a (pc' := 44) (ls' := [some (.ref h.length), some (.int (iI o)), some (.int (iI f)), some (.int (iI (A1 35 (I1 61 - 1))))]) (st' := [.ref h.length, .ref (h.length + 45)]) rfl rfl ?_
        refine go_get (v := .int (iI (I2 76))) rfl mh_o rfl rfl ?_
        refine go_a (pc' := 48) (ls' := [some (.ref h.length), some (.int (iI o)), some (.int (iI f)), some (.int (iI (A1 35 (I1 61 - 1))))]) (st' := [.int (iI (A1 35 (I1 61 - 1))), .int (iI (I2 76)), .ref (h.length + 45)]) rfl rfl ?_
        refine mi_ist rfl mh_a45 (show 12 ≤ _ by omega) (by omega) (by omega) (by decide) ?_
        rw [mh_w45 (by omega)]
        refine go_a (pc' := 50) (ls' := [some (.ref h.length), some (.int (iI o)), some (.int (iI f)), some (.int (iI (A1 35 (I1 61 - 1))))]) (st' := [.ref h.length]) rfl rfl ?_
        refine go_a (pc' := 51) (ls' := [some (.ref h.length), some (.int (iI o)), some (.int (iI f)), some (.int (iI (A1 35 (I1 61 - 1))))]) (st' := [.ref h.length, .ref h.length]) rfl rfl ?_
        refine go_get (v := .int (iI (I2 76))) rfl mh_o rfl rfl ?_
        refine go_a (pc' := 55) (ls' := [some (.ref h.length), some (.int (iI o)), some (.int (iI f)), some (.int (iI (A1 35 (I1 61 - 1))))]) (st' := [.int (iI 1), .int (iI (I2 76)), .ref h.length]) rfl rfl ?_
        refine mi_add rfl ?_
        refine go_put (j := 76) rfl mh_o rfl rfl (show 12 ≤ _ from hc) (show 76 < 86 by decide) rfl rfl ?_
        rw [mh_p76]
        refine go_a (pc' := 15) (ls' := [some (.ref h.length), some (.int (iI o)), some (.int (iI f)), some (.int (iI (A1 35 (I1 61 - 1))))]) (st' := []) rfl rfl ?_
        have tz3 := TZ_124 (A := A2) (A1 := sa A2 45 (I2 76) (A1 35 (I1 61 - 1))) (ar := ar) rfl rfl rfl
        have W3 : WK ar (s - 1) (su I2 76 (I2 76 + 1)) (sa A2 45 (I2 76) (A1 35 (I1 61 - 1))) := by
          refine ⟨W2.1, fun e e0 e1 => ?_, ?_⟩
          · rw [tz3.1]
            exact W2.2.1 e e0 e1
          · have e9 : ∀ m, SZ (sa A2 45 (I2 76) (A1 35 (I1 61 - 1))) ar (A2 35) m = SZ A2 ar (A2 35) m := fun m => by
              induction m with
              | zero => rfl
              | succ m ihm =>
                show SZ (sa A2 45 (I2 76) (A1 35 (I1 61 - 1))) ar _ m + TZ (sa A2 45 (I2 76) (A1 35 (I1 61 - 1))) ar _ = _
                rw [ihm, tz3.1]
                rfl
            show SZ (sa A2 45 (I2 76) (A1 35 (I1 61 - 1))) ar (A2 35) (I2 61).toNat ≤ s - 1
            rw [e9]
            exact w22
        refine ih (s - 1) _ _ _ (by omega) (by omega) ⟨fun j p q => (su_ne q).trans ((FX_WX X X2).1 j p q), fun a p q => (sa_ne q).trans ((FX_WX X X2).2 a p q)⟩ W3 ⟨⟨(show 0 ≤ I2 76 + 1 by omega), (show I2 76 + 1 ≤ 125 - (s - 1) by omega)⟩, fun e e0 e1 => ?_⟩ (fun w hw => ?_)
        rotate_left
        · have g := G2 w
          have g3 := hG w hw
          rw [nt_12w (X.2 1 (by decide) (by decide)) (X.2 2 (by decide) (by decide))] at g
          show SG w (sf (A2 45) (I2 76) (A1 35 (I1 61 - 1))) (I2 76 + 1).toNat + SG (NT A w) (A2 35) (I2 61).toNat = _
          rw [SG_push d1.1, X2.2 45 (by decide), X2.1 76 (by decide), g]
          omega
        have e1 : e < I2 76 + 1 := e1
        rw [tz3.1]
        show (0 ≤ sf (A2 45) (I2 76) (A1 35 (I1 61 - 1)) e ∧ sf (A2 45) (I2 76) (A1 35 (I1 61 - 1)) e < I2 7) ∧ (1 ≤ TZ A2 ar (sf (A2 45) (I2 76) (A1 35 (I1 61 - 1)) e) ∧ TZ A2 ar (sf (A2 45) (I2 76) (A1 35 (I1 61 - 1)) e) ≤ 125) ∧ A2 1 (sf (A2 45) (I2 76) (A1 35 (I1 61 - 1)) e) = f
        by_cases q : e = I2 76
        · rw [q, sf_self, tz2.1]
          have we := WK_each W (I1 61 - 1) (by omega) (by omega)
          exact ⟨⟨top.1.1, by omega⟩, ⟨top.2, by omega⟩, ef⟩
        · rw [sf_ne q]
          exact D2.2 e e0 (by omega)
      · refine go_a (pc' := 15) (ls' := [some (.ref h.length), some (.int (iI o)), some (.int (iI f)), some (.int (iI (A1 35 (I1 61 - 1))))]) (st' := []) rfl rfl ?_
        have ef : A 1 (A1 35 (I1 61 - 1)) ≠ f := by
          have e9 : A2 1 = A 1 := (X2.2 1 (by decide)).trans (X.2 1 (by decide) (by decide))
          rw [e9] at hb
          omega
        exact ih (s - 1) I2 A2 _ (by omega) (by omega) (FX_WX X X2) W2 ⟨⟨D2.1.1, by have := D2.1.2; omega⟩, D2.2⟩ (fun w hw => by
          have g := G2 w
          have g3 := hG w hw
          rw [nt_12w (X.2 1 (by decide) (by decide)) (X.2 2 (by decide) (by decide)), hw _ ef, Int.sub_zero] at g
          rw [X2.2 45 (by decide), X2.1 76 (by decide), g]
          exact g3)
theorem mm_find (z : Value) (d : Nat) (ar : Int → Int) (o f : Int) (h R : xx_H) (I : Nat → Int) (A : Nat → Int → Int) (N : Int → Int) (hc : 12 ≤ h.length) (hP : PW I A) (n0 : A 1 0 < 0) (k0 : 0 ≤ o) (k1 : o < I 7) (k2 : 1 ≤ TZ A ar o) (k3 : TZ A ar o ≤ 125) (f0 : 0 ≤ f) (f1 : f < 140000) : xx_cl (xt_P z) (d + 4) 131 [.ref h.length, .int (iI o), .int (iI f)] (mh h R I A N) (fun v h1 => v = none ∧ ∃ (I1 : Nat → Int) (A1 : Nat → Int → Int), h1 = mh h R I1 A1 N ∧ FX I A I1 A1 ∧ FD ar f 125 I1 A1 ∧ ∀ w : Int → Int, (∀ k : Int, A 1 k ≠ f → w k = 0) → SG w (A1 45) (I1 76).toNat = NT A w o) := by
  refine cl_go rfl ?_
  show xx_go (xt_P z) (d + 3) 131 0 [some (.ref h.length), some (.int (iI o)), some (.int (iI f)), none] [] (mh h R I A N) _
  refine go_a (pc' := 1) (ls' := [some (.ref h.length), some (.int (iI o)), some (.int (iI f)), none]) (st' := [.ref h.length]) rfl rfl ?_
  refine go_a (pc' := 2) (ls' := [some (.ref h.length), some (.int (iI o)), some (.int (iI f)), none]) (st' := [.int (iI 0), .ref h.length]) rfl rfl ?_
  refine go_put (j := 76) rfl mh_o rfl rfl (show 12 ≤ _ from hc) (show 76 < 86 by decide) rfl rfl ?_
  rw [mh_p76]
  refine go_a (pc' := 6) (ls' := [some (.ref h.length), some (.int (iI o)), some (.int (iI f)), none]) (st' := [.ref h.length]) rfl rfl ?_
  refine go_a (pc' := 7) (ls' := [some (.ref h.length), some (.int (iI o)), some (.int (iI f)), none]) (st' := [.int (iI 0), .ref h.length]) rfl rfl ?_
  refine go_put (j := 61) rfl mh_o rfl rfl (show 12 ≤ _ from hc) (show 61 < 86 by decide) rfl rfl ?_
  rw [mh_p61]
  refine go_a (pc' := 11) (ls' := [some (.ref h.length), some (.int (iI o)), some (.int (iI f)), none]) (st' := [.ref h.length]) rfl rfl ?_
  refine go_a (pc' := 12) (ls' := [some (.ref h.length), some (.int (iI o)), some (.int (iI f)), none]) (st' := [.int (iI o), .ref h.length]) rfl rfl ?_
  refine go_v (m := 119) (as := [.ref h.length, .int (iI o)]) (r := []) rfl rfl rfl mh_o rfl rfl (mm_walkTo z (d + 2) o h R (su (su I 76 0) 61 0) A N hc (show (0 : Int) ≤ 0 by decide) (show (0 : Int) < 400 by decide)) (fun v h1 hq => ?_)
  obtain ⟨rfl, rfl⟩ := hq
  show xx_go (xt_P z) (d + 3) 131 15 [some (.ref h.length), some (.int (iI o)), some (.int (iI f)), none] [] (mh h R (su (su (su I 76 0) 61 0) 61 (0 + 1)) (sa A 35 0 o) N) _
  have tz := TZ_124 (A := A) (A1 := sa A 35 0 o) (ar := ar) rfl rfl rfl
  exact mm_find_loop z d ar o f h R I A N hc hP n0 f0 f1 (TZ A ar o).toNat (TZ A ar o) _ _ none (by omega) k3 ⟨fun j p q => ((su_ne p).trans (su_ne p)).trans (su_ne q), fun a p _ => sa_ne p⟩ (WK_one (I := su I 76 0) k0 k1 k2) ⟨⟨(show (0 : Int) ≤ 0 by decide), (show (0 : Int) ≤ 125 - TZ A ar o by omega)⟩, fun e e0 e1 => absurd (show e < 0 from e1) (by omega)⟩ (fun w _ => by
    show (0 : Int) + SG (NT A w) (sf (A 35) 0 o) (0 + 1 : Int).toNat = _
    rw [SG_push (Int.le_refl _)]
    show (0 : Int) + (0 + NT A w o) = _
    omega)

