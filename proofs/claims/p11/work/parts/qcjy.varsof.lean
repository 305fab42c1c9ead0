theorem mm_varsInX (z : Value) (d : Nat) (b0 o x : Int) (h R : xx_H) (I : Nat → Int) (A : Nat → Int → Int) (N : Int → Int) (hc : 12 ≤ h.length) (Q : Option Value → xx_H → Prop) (x0 : 0 ≤ x) (x1 : x < I 7) (i7 : I 7 ≤ 140000) (hI : ITS 125 I A) (K : (∀ b1 k1 : Int, (b1 = 0 ∨ b1 = 1) → ((b1 = 1 ∧ b0 = 1 ∧ ∀ q : Int, 0 ≤ q → q < I 63 → A 36 q ≠ x) ∨ (b1 = 0 ∧ (b0 = 0 ∨ x ∈ ixl (A 36) (I 63)))) → xx_go (xt_P z) d 118 72 [some (.ref h.length), some (.int (iI o)), some (.int (iI x)), some (.int (iI b1)), some (.int (iI k1))] [] (mh h R I A N) Q)) : ∀ (n : Nat) (b k : Int), (I 63 - k).toNat ≤ n → 0 ≤ k → k ≤ 130 → (b = 0 ∨ b = 1) → ((b = 1 ∧ b0 = 1 ∧ ∀ q : Int, 0 ≤ q → q < k → A 36 q ≠ x) ∨ (b = 0 ∧ (b0 = 0 ∨ x ∈ ixl (A 36) (I 63)))) → xx_go (xt_P z) d 118 36 [some (.ref h.length), some (.int (iI o)), some (.int (iI x)), some (.int (iI b)), some (.int (iI k))] [] (mh h R I A N) Q := by
  have i1 := hI.1
  intro n
  induction n with
  | zero =>
    intro b k hn k0 kb hb hv
    refine go_a (pc' := 38) (ls' := [some (.ref h.length), some (.int (iI o)), some (.int (iI x)), some (.int (iI b)), some (.int (iI k))]) (st' := [.int (iI k)]) rfl rfl ?_
    refine go_a (pc' := 39) (ls' := [some (.ref h.length), some (.int (iI o)), some (.int (iI x)), some (.int (iI b)), some (.int (iI k))]) (st' := [.ref h.length, .int (iI k)]) rfl rfl ?_
    refine go_get (v := .int (iI (I 63))) rfl mh_o rfl rfl ?_
    exact mi_ge (t := 72) rfl rfl (by omega) (by omega) (by omega) (by omega) (fun e9 => K b k hb (hv.imp (fun q => ⟨q.1, q.2.1, fun u a c => q.2.2 u a (by omega)⟩) id)) (fun e => absurd (show I 63 ≤ k by omega) e)
  | succ n ih =>
    intro b k hn k0 kb hb hv
    refine go_a (pc' := 38) (ls' := [some (.ref h.length), some (.int (iI o)), some (.int (iI x)), some (.int (iI b)), some (.int (iI k))]) (st' := [.int (iI k)]) rfl rfl ?_
    refine go_a (pc' := 39) (ls' := [some (.ref h.length), some (.int (iI o)), some (.int (iI x)), some (.int (iI b)), some (.int (iI k))]) (st' := [.ref h.length, .int (iI k)]) rfl rfl ?_
    refine go_get (v := .int (iI (I 63))) rfl mh_o rfl rfl ?_
    refine mi_ge (t := 72) rfl rfl (by omega) (by omega) (by omega) (by omega) (fun e9 => K b k hb (hv.imp (fun q => ⟨q.1, q.2.1, fun u a c => q.2.2 u a (by omega)⟩) id)) (fun e => ?_)
    refine go_a (pc' := 46) (ls' := [some (.ref h.length), some (.int (iI o)), some (.int (iI x)), some (.int (iI b)), some (.int (iI k))]) (st' := [.int (iI b)]) rfl rfl ?_
    refine mi_eq0 (t := 72) rfl rfl (by omega) (by omega) (fun e9 => K b k hb (hv.elim (fun q => absurd q.1 (by omega)) Or.inr)) (fun e2 => ?_)
    have ik := hI.2 k k0 (by omega)
    refine go_a (pc' := 50) (ls' := [some (.ref h.length), some (.int (iI o)), some (.int (iI x)), some (.int (iI b)), some (.int (iI k))]) (st' := [.ref h.length]) rfl rfl ?_
    refine go_get rfl mh_o rfl rfl ?_
    refine go_a (pc' := 55) (ls' := [some (.ref h.length), some (.int (iI o)), some (.int (iI x)), some (.int (iI b)), some (.int (iI k))]) (st' := [.int (iI k), .ref (h.length + 36)]) rfl rfl ?_
    refine mi_ild rfl mh_a36 (by omega) (by omega) (by decide) ?_
    refine go_a (pc' := 57) (ls' := [some (.ref h.length), some (.int (iI o)), some (.int (iI x)), some (.int (iI b)), some (.int (iI k))]) (st' := [.int (iI x), .int (iI (A 36 k))]) rfl rfl ?_
    refine mi_eq (t := 64) rfl rfl (by omega) (by omega) (by omega) (by omega) (fun e3 => ?_) (fun e3 => ?_)
    · refine go_a (pc' := 65) (ls' := [some (.ref h.length), some (.int (iI o)), some (.int (iI x)), some (.int (iI b)), some (.int (iI k))]) (st' := [.int (iI 0)]) rfl rfl ?_
      refine go_a (pc' := 66) (ls' := [some (.ref h.length), some (.int (iI o)), some (.int (iI x)), some (.int (iI 0)), some (.int (iI k))]) (st' := []) rfl rfl ?_
      refine go_a (pc' := 69) (ls' := [some (.ref h.length), some (.int (iI o)), some (.int (iI x)), some (.int (iI 0)), some (.int (iI (k + 1)))]) (st' := []) rfl (by rw [← iI_add k 1]; rfl) ?_
      refine go_a (pc' := 36) (ls' := [some (.ref h.length), some (.int (iI o)), some (.int (iI x)), some (.int (iI 0)), some (.int (iI (k + 1)))]) (st' := []) rfl rfl ?_
      refine ih 0 (k + 1) (by omega) (by omega) (by omega) (by omega) ?_
      rcases hv with q | q
      · exact Or.inr ⟨rfl, Or.inr (ixl_mem.mpr ⟨k, k0, by omega, by omega⟩)⟩
      · have := q.1
        omega
    · refine go_a (pc' := 61) (ls' := [some (.ref h.length), some (.int (iI o)), some (.int (iI x)), some (.int (iI b)), some (.int (iI k))]) (st' := [.int (iI 1)]) rfl rfl ?_
      refine go_a (pc' := 65) (ls' := [some (.ref h.length), some (.int (iI o)), some (.int (iI x)), some (.int (iI b)), some (.int (iI k))]) (st' := [.int (iI 1)]) rfl rfl ?_
      refine go_a (pc' := 66) (ls' := [some (.ref h.length), some (.int (iI o)), some (.int (iI x)), some (.int (iI 1)), some (.int (iI k))]) (st' := []) rfl rfl ?_
      refine go_a (pc' := 69) (ls' := [some (.ref h.length), some (.int (iI o)), some (.int (iI x)), some (.int (iI 1)), some (.int (iI (k + 1)))]) (st' := []) rfl (by rw [← iI_add k 1]; rfl) ?_
      refine go_a (pc' := 36) (ls' := [some (.ref h.length), some (.int (iI o)), some (.int (iI x)), some (.int (iI 1)), some (.int (iI (k + 1)))]) (st' := []) rfl rfl ?_
      refine ih 1 (k + 1) (by omega) (by omega) (by omega) (by omega) ?_
      rcases hv with q | q
      · exact Or.inl ⟨rfl, q.2.1, fun u a c => by by_cases e9 : u = k; rw [e9]; omega; exact q.2.2 u a (by omega)⟩
      · have := q.1
        omega
theorem mm_variablesOf_loopX (z : Value) (d : Nat) (ar : Int → Int) (o : Int) (h R : xx_H) (I : Nat → Int) (A : Nat → Int → Int) (N : Int → Int) (hc : 12 ≤ h.length) (hP : PW I A) (n0 : A 1 0 < 0) : ∀ (n : Nat) (s : Int) (I1 : Nat → Int) (A1 : Nat → Int → Int) (y2 y3 y4 : Option Value), s ≤ n → s ≤ 125 → VX I A I1 A1 → WK ar s I1 A1 → ITS (125 - s) I1 A1 → ((∀ y ∈ ixl (A1 36) (I1 63), (A 1 y = -2 ∧ 1 < y) ∧ 0 < NT A (ivx y) o) ∧ (∀ y : Int, A 1 y = -2 → 1 < y → y ∈ ixl (A1 36) (I1 63) ∨ SG (NT A (ivx y)) (A1 35) (I1 61).toNat = NT A (ivx y) o) ∧ (∀ w : Int → Int, (∀ j : Int, 0 ≤ w j) → SG (NT A w) (A1 35) (I1 61).toNat ≤ NT A w o)) → xx_go (xt_P z) (d + 3) 118 15 [some (.ref h.length), some (.int (iI o)), y2, y3, y4] [] (mh h R I1 A1 N) (fun v h1 => v = none ∧ ∃ (I1 : Nat → Int) (A1 : Nat → Int → Int), h1 = mh h R I1 A1 N ∧ VX I A I1 A1 ∧ ITS 125 I1 A1 ∧ ((∀ y : Int, A 1 y = -2 → 1 < y → (y ∈ ixl (A1 36) (I1 63) ↔ 0 < NT A (ivx y) o)) ∧ ∀ y ∈ ixl (A1 36) (I1 63), (A 1 y = -2 ∧ 1 < y) ∧ 0 < NT A (ivx y) o)) := by
  intro n
  induction n with
  | zero =>
    intro s I1 A1 y2 y3 y4 hn s9 X W D hv
    have ge := SZ_ge (I1 61).toNat (fun e he => (W.2.1 e (by omega) (by omega)).2)
    have w0 := W.1
    have w2 := W.2.2
    refine go_a (pc' := 16) (ls' := [some (.ref h.length), some (.int (iI o)), y2, y3, y4]) (st' := [.ref h.length]) rfl rfl ?_
    refine go_get (v := .int (iI (I1 61))) rfl mh_o rfl rfl ?_
    refine mi_le0 (t := 102) rfl rfl (by omega) (by omega) (fun _ => ?_) (fun e => absurd (show I1 61 ≤ 0 by omega) e)
    exact go_r rfl rfl rfl rfl rfl rfl ⟨rfl, I1, A1, rfl, X, ⟨⟨D.1.1, by have := D.1.2; omega⟩, D.2⟩, fun y a b => ⟨fun m => (hv.1 y m).2, fun m => (hv.2.1 y a b).elim id (fun s0 => by rw [show (I1 61).toNat = 0 by omega] at s0; have s0 : (0 : Int) = _ := s0; omega)⟩, hv.1⟩
  | succ n ih =>
    intro s I1 A1 y2 y3 y4 hn s9 X W D hv
    have ge := SZ_ge (I1 61).toNat (fun e he => (W.2.1 e (by omega) (by omega)).2)
    have w0 := W.1
    have w2 := W.2.2
    have P1 : PW I1 A1 := by
      unfold PW
      rw [X.1 7 (by decide) (by decide), X.2 1 (by decide) (by decide), X.2 2 (by decide) (by decide)]
      exact hP
    have p1 := P1.1
    have n1 : A1 1 0 < 0 := by rw [X.2 1 (by decide) (by decide)]; exact n0
    refine go_a (pc' := 16) (ls' := [some (.ref h.length), some (.int (iI o)), y2, y3, y4]) (st' := [.ref h.length]) rfl rfl ?_
    refine go_get (v := .int (iI (I1 61))) rfl mh_o rfl rfl ?_
    refine mi_le0 (t := 102) rfl rfl (by omega) (by omega) (fun _ => ?_) (fun e => ?_)
    · exact go_r rfl rfl rfl rfl rfl rfl ⟨rfl, I1, A1, rfl, X, ⟨⟨D.1.1, by have := D.1.2; omega⟩, D.2⟩, fun y a b => ⟨fun m => (hv.1 y m).2, fun m => (hv.2.1 y a b).elim id (fun s0 => by rw [show (I1 61).toNat = 0 by omega] at s0; have s0 : (0 : Int) = _ := s0; omega)⟩, hv.1⟩
    · have top := W.2.1 (I1 61 - 1) (by omega) (by omega)
      refine go_a (pc' := 23) (ls' := [some (.ref h.length), some (.int (iI o)), y2, y3, y4]) (st' := [.ref h.length]) rfl rfl ?_
      refine go_v (m := 120) (as := [.ref h.length]) (r := []) rfl rfl rfl mh_o rfl rfl (mm_walkOn z d ar s h R I1 A1 N hc P1 n1 W (by omega) (by omega)) (fun v h1 hq => ?_)
      obtain ⟨rfl, I2, A2, rfl, X2, W2, G2⟩ := hq
      have G2 : ∀ w : Int → Int, SG (NT A w) (A2 35) (I2 61).toNat = SG (NT A w) (A1 35) (I1 61).toNat - w (A1 35 (I1 61 - 1)) := fun w => by
        have g := G2 w
        rw [nt_12w (X.2 1 (by decide) (by decide)) (X.2 2 (by decide) (by decide))] at g
        exact g
      have e70 : I1 7 = I 7 := X.1 7 (by decide) (by decide)
      have ea1 : A1 1 = A 1 := X.2 1 (by decide) (by decide)
      have P2 := WX_PW P1 X2
      have e7 : I2 7 = I1 7 := X2.1 7 (by decide)
      have D2 := ITS_WX D X2
      have d1 := D2.1
      have W21 := W2.1
      show xx_go (xt_P z) (d + 3) 118 26 [some (.ref h.length), some (.int (iI o)), y2, y3, y4] [.int (iI (A1 35 (I1 61 - 1)))] (mh h R I2 A2 N) _
      refine go_a (pc' := 27) (ls' := [some (.ref h.length), some (.int (iI o)), some (.int (iI (A1 35 (I1 61 - 1)))), y3, y4]) (st' := []) rfl rfl ?_
      refine go_a (pc' := 28) (ls' := [some (.ref h.length), some (.int (iI o)), some (.int (iI (A1 35 (I1 61 - 1)))), y3, y4]) (st' := [.ref h.length]) rfl rfl ?_
      refine go_a (pc' := 29) (ls' := [some (.ref h.length), some (.int (iI o)), some (.int (iI (A1 35 (I1 61 - 1)))), y3, y4]) (st' := [.int (iI (A1 35 (I1 61 - 1))), .ref h.length]) rfl rfl ?_
      refine go_v (m := 104) (as := [.ref h.length, .int (iI (A1 35 (I1 61 - 1)))]) (r := []) rfl rfl rfl mh_o rfl rfl (mb_isVariable z (d + 1) (A1 35 (I1 61 - 1)) h R I2 A2 N hc P2 top.1.1 (by omega)) (fun v h1 hq => ?_)
      obtain ⟨⟨b, rfl, hb⟩, rfl⟩ := hq
      have eA : A2 1 = A 1 := (X2.2 1 (by decide)).trans ea1
      rw [eA] at hb
      have e36 : A2 36 = A1 36 := X2.2 36 (by decide)
      have e63 : I2 63 = I1 63 := X2.1 63 (by decide)
      show xx_go (xt_P z) (d + 3) 118 32 [some (.ref h.length), some (.int (iI o)), some (.int (iI (A1 35 (I1 61 - 1)))), y3, y4] [.int (iI b)] (mh h R I2 A2 N) _
      refine go_a (pc' := 33) (ls' := [some (.ref h.length), some (.int (iI o)), some (.int (iI (A1 35 (I1 61 - 1)))), some (.int (iI b)), y4]) (st' := []) rfl rfl ?_
      refine go_a (pc' := 34) (ls' := [some (.ref h.length), some (.int (iI o)), some (.int (iI (A1 35 (I1 61 - 1)))), some (.int (iI b)), y4]) (st' := [.int (iI 0)]) rfl rfl ?_
      refine go_a (pc' := 36) (ls' := [some (.ref h.length), some (.int (iI o)), some (.int (iI (A1 35 (I1 61 - 1)))), some (.int (iI b)), some (.int (iI 0))]) (st' := []) rfl rfl ?_
      refine mm_varsInX z (d + 3) b o (A1 35 (I1 61 - 1)) h R I2 A2 N hc _ top.1.1 (by omega) (by omega) ⟨⟨d1.1, by omega⟩, D2.2⟩ (fun b1 k1 hb1 hn1 => ?_) (I2 63).toNat b 0 (by omega) (Int.le_refl _) (by omega) (by omega) (by rcases hb with q | q; exact Or.inl ⟨q.1, q.1, fun u a c => absurd c (by omega)⟩; exact Or.inr ⟨q.1, Or.inl q.1⟩)
      show xx_go (xt_P z) (d + 3) 118 72 [some (.ref h.length), some (.int (iI o)), some (.int (iI (A1 35 (I1 61 - 1)))), some (.int (iI b1)), some (.int (iI k1))] [] (mh h R I2 A2 N) _
      refine go_a (pc' := 73) (ls' := [some (.ref h.length), some (.int (iI o)), some (.int (iI (A1 35 (I1 61 - 1)))), some (.int (iI b1)), some (.int (iI k1))]) (st' := [.int (iI b1)]) rfl rfl ?_
      refine mi_ne0 (t := 79) rfl rfl (by omega) (by omega) (fun e2 => ?_) (fun e2 => ?_)
      · refine go_a (pc' := 80) (ls' := [some (.ref h.length), some (.int (iI o)), some (.int (iI (A1 35 (I1 61 - 1)))), some (.int (iI b1)), some (.int (iI k1))]) (st' := [.ref h.length]) rfl rfl ?_
        refine go_get rfl mh_o rfl rfl ?_
        refine go_a (pc' := 84) (ls' := [some (.ref h.length), some (.int (iI o)), some (.int (iI (A1 35 (I1 61 - 1)))), some (.int (iI b1)), some (.int (iI k1))]) (st' := [.ref h.length, .ref (h.length + 36)]) rfl rfl ?_
        refine go_get (v := .int (iI (I2 63))) rfl mh_o rfl rfl ?_
        refine go_a (pc' := 88) (ls' := [some (.ref h.length), some (.int (iI o)), some (.int (iI (A1 35 (I1 61 - 1)))), some (.int (iI b1)), some (.int (iI k1))]) (st' := [.int (iI (A1 35 (I1 61 - 1))), .int (iI (I2 63)), .ref (h.length + 36)]) rfl rfl ?_
        refine mi_ist rfl mh_a36 (show 12 ≤ _ by omega) (by omega) (by omega) (by decide) ?_
        rw [mh_w36 (by omega)]
        refine go_a (pc' := 90) (ls' := [some (.ref h.length), some (.int (iI o)), some (.int (iI (A1 35 (I1 61 - 1)))), some (.int (iI b1)), some (.int (iI k1))]) (st' := [.ref h.length]) rfl rfl ?_
        refine go_a (pc' := 91) (ls' := [some (.ref h.length), some (.int (iI o)), some (.int (iI (A1 35 (I1 61 - 1)))), some (.int (iI b1)), some (.int (iI k1))]) (st' := [.ref h.length, .ref h.length]) rfl rfl ?_
        refine go_get (v := .int (iI (I2 63))) rfl mh_o rfl rfl ?_
        refine go_a (pc' := 95) (ls' := [some (.ref h.length), some (.int (iI o)), some (.int (iI (A1 35 (I1 61 - 1)))), some (.int (iI b1)), some (.int (iI k1))]) (st' := [.int (iI 1), .int (iI (I2 63)), .ref h.length]) rfl rfl ?_
        refine mi_add rfl ?_
        refine go_put (j := 63) rfl mh_o rfl rfl (show 12 ≤ _ from hc) (show 63 < 86 by decide) rfl rfl ?_
        rw [mh_p63]
        refine go_a (pc' := 15) (ls' := [some (.ref h.length), some (.int (iI o)), some (.int (iI (A1 35 (I1 61 - 1)))), some (.int (iI b1)), some (.int (iI k1))]) (st' := []) rfl rfl ?_
        have tz3 := TZ_124 (A := A2) (A1 := (sa A2 36 (I2 63) (A1 35 (I1 61 - 1)))) (ar := ar) rfl rfl rfl
        have W3 : WK ar (s - 1) (su I2 63 (I2 63 + 1)) (sa A2 36 (I2 63) (A1 35 (I1 61 - 1))) := WK_124 W2 rfl rfl rfl rfl rfl rfl
        refine ih (s - 1) _ _ _ _ _ (by omega) (by omega) ⟨fun j p q => (su_ne q).trans ((VX_WX X X2).1 j p q), fun a p q => (sa_ne q).trans ((VX_WX X X2).2 a p q)⟩ W3 ⟨⟨(show 0 ≤ I2 63 + 1 by omega), (show I2 63 + 1 ≤ 125 - (s - 1) by omega)⟩, fun e e0 e1 => ?_⟩ ?_
        rotate_left
        · have tv : A 1 (A1 35 (I1 61 - 1)) = -2 ∧ 1 < A1 35 (I1 61 - 1) := by omega
          have px : ixl (sf (A2 36) (I2 63) (A1 35 (I1 61 - 1))) (I2 63 + 1) = ixl (A1 36) (I1 63) ++ [A1 35 (I1 61 - 1)] := by rw [ixl_push d1.1, e36, e63]
          have occ : 0 < NT A (ivx (A1 35 (I1 61 - 1))) o := by
            have u := hv.2.2 (ivx (A1 35 (I1 61 - 1))) (fun j => ivx_nn _ j)
            have s := SG_each (g := NT A (ivx (A1 35 (I1 61 - 1)))) (f := A1 35) (I1 61).toNat (fun e he => (NT_nn hP (fun j _ _ => ivx_nn _ j) _ _ (Nat.lt_succ_self _) (W.2.1 e (by omega) (by omega)).1.1 (by have := (W.2.1 e (by omega) (by omega)).1.2; omega)).1) (I1 61 - 1).toNat (by omega)
            rw [show (((I1 61 - 1).toNat : Nat) : Int) = I1 61 - 1 by omega, NT_leaf hP top.1.1 (by omega) (Or.inl (by omega)), show ivx (A1 35 (I1 61 - 1)) (A1 35 (I1 61 - 1)) = 1 from if_pos rfl] at s
            omega
          refine ⟨fun y hy => ?_, fun y a c => ?_, fun u hu => ?_⟩
          · have hy : y ∈ ixl (sf (A2 36) (I2 63) (A1 35 (I1 61 - 1))) (I2 63 + 1) := hy
            rw [px] at hy
            rcases List.mem_append.mp hy with q | q
            · exact hv.1 y q
            · rw [List.mem_singleton.mp q]
              exact ⟨tv, occ⟩
          · show y ∈ ixl (sf (A2 36) (I2 63) (A1 35 (I1 61 - 1))) (I2 63 + 1) ∨ SG (NT A (ivx y)) (A2 35) (I2 61).toNat = _
            rw [px, G2]
            by_cases ey : A1 35 (I1 61 - 1) = y
            · exact Or.inl (List.mem_append_right _ (List.mem_singleton.mpr ey.symm))
            · rcases hv.2.1 y a c with q | q
              · exact Or.inl (List.mem_append_left _ q)
              · rw [show ivx y (A1 35 (I1 61 - 1)) = 0 from if_neg ey]
                exact Or.inr (by omega)
          · show SG (NT A u) (A2 35) (I2 61).toNat ≤ _
            rw [G2]
            have := hv.2.2 u hu
            have := hu (A1 35 (I1 61 - 1))
            omega
        have e1 : e < I2 63 + 1 := e1
        show 0 ≤ sf (A2 36) (I2 63) (A1 35 (I1 61 - 1)) e ∧ sf (A2 36) (I2 63) (A1 35 (I1 61 - 1)) e < I2 7
        by_cases q : e = I2 63
        · rw [q, sf_self]
          exact ⟨top.1.1, by omega⟩
        · rw [sf_ne q]
          exact D2.2 e e0 (by omega)
      · refine go_a (pc' := 15) (ls' := [some (.ref h.length), some (.int (iI o)), some (.int (iI (A1 35 (I1 61 - 1)))), some (.int (iI b1)), some (.int (iI k1))]) (st' := []) rfl rfl ?_
        refine ih (s - 1) I2 A2 _ _ _ (by omega) (by omega) (VX_WX X X2) W2 ⟨⟨D2.1.1, by have := D2.1.2; omega⟩, D2.2⟩ ?_
        rw [e36, e63]
        refine ⟨hv.1, fun y a c => ?_, fun u hu => ?_⟩
        · rw [G2]
          by_cases ey : A1 35 (I1 61 - 1) = y
          · refine Or.inl ?_
            rcases hn1 with q | q
            · have := q.1
              omega
            · rcases q.2 with q | q
              · rw [← ey] at a c
                rcases hb with r | r
                · have := r.1
                  omega
                · have := r.2
                  omega
              · rw [e36, e63, ey] at q
                exact q
          · rcases hv.2.1 y a c with q | q
            · exact Or.inl q
            · rw [show ivx y (A1 35 (I1 61 - 1)) = 0 from if_neg ey]
              exact Or.inr (by omega)
        · rw [G2]
          have := hv.2.2 u hu
          have := hu (A1 35 (I1 61 - 1))
          omega
theorem mm_variablesOfX (z : Value) (d : Nat) (ar : Int → Int) (o : Int) (h R : xx_H) (I : Nat → Int) (A : Nat → Int → Int) (N : Int → Int) (hc : 12 ≤ h.length) (hP : PW I A) (n0 : A 1 0 < 0) (k0 : 0 ≤ o) (k1 : o < I 7) (k2 : 1 ≤ TZ A ar o) (k3 : TZ A ar o ≤ 125) : xx_cl (xt_P z) (d + 4) 118 [.ref h.length, .int (iI o)] (mh h R I A N) (fun v h1 => v = none ∧ ∃ (I1 : Nat → Int) (A1 : Nat → Int → Int), h1 = mh h R I1 A1 N ∧ VX I A I1 A1 ∧ ITS 125 I1 A1 ∧ ((∀ y : Int, A 1 y = -2 → 1 < y → (y ∈ ixl (A1 36) (I1 63) ↔ 0 < NT A (ivx y) o)) ∧ ∀ y ∈ ixl (A1 36) (I1 63), (A 1 y = -2 ∧ 1 < y) ∧ 0 < NT A (ivx y) o)) := by
  refine cl_go rfl ?_
  show xx_go (xt_P z) (d + 3) 118 0 [some (.ref h.length), some (.int (iI o)), none, none, none] [] (mh h R I A N) _
  refine go_a (pc' := 1) (ls' := [some (.ref h.length), some (.int (iI o)), none, none, none]) (st' := [.ref h.length]) rfl rfl ?_
  refine go_a (pc' := 2) (ls' := [some (.ref h.length), some (.int (iI o)), none, none, none]) (st' := [.int (iI 0), .ref h.length]) rfl rfl ?_
  refine go_put (j := 63) rfl mh_o rfl rfl (show 12 ≤ _ from hc) (show 63 < 86 by decide) rfl rfl ?_
  rw [mh_p63]
  refine go_a (pc' := 6) (ls' := [some (.ref h.length), some (.int (iI o)), none, none, none]) (st' := [.ref h.length]) rfl rfl ?_
  refine go_a (pc' := 7) (ls' := [some (.ref h.length), some (.int (iI o)), none, none, none]) (st' := [.int (iI 0), .ref h.length]) rfl rfl ?_
  refine go_put (j := 61) rfl mh_o rfl rfl (show 12 ≤ _ from hc) (show 61 < 86 by decide) rfl rfl ?_
  rw [mh_p61]
  refine go_a (pc' := 11) (ls' := [some (.ref h.length), some (.int (iI o)), none, none, none]) (st' := [.ref h.length]) rfl rfl ?_
  refine go_a (pc' := 12) (ls' := [some (.ref h.length), some (.int (iI o)), none, none, none]) (st' := [.int (iI o), .ref h.length]) rfl rfl ?_
  refine go_v (m := 119) (as := [.ref h.length, .int (iI o)]) (r := []) rfl rfl rfl mh_o rfl rfl (mm_walkTo z (d + 2) o h R (su (su I 63 0) 61 0) A N hc (show (0 : Int) ≤ 0 by decide) (show (0 : Int) < 400 by decide)) (fun v h1 hq => ?_)
  obtain ⟨rfl, rfl⟩ := hq
  show xx_go (xt_P z) (d + 3) 118 15 [some (.ref h.length), some (.int (iI o)), none, none, none] [] (mh h R (su (su (su I 63 0) 61 0) 61 (0 + 1)) (sa A 35 0 o) N) _
  exact mm_variablesOf_loopX z d ar o h R I A N hc hP n0 (TZ A ar o).toNat (TZ A ar o) _ _ none none none (by omega) k3 ⟨fun j p q => ((su_ne p).trans (su_ne p)).trans (su_ne q), fun a p _ => sa_ne p⟩ (WK_one (I := su I 63 0) k0 k1 k2) ⟨⟨(show (0 : Int) ≤ 0 by decide), (show (0 : Int) ≤ 125 - TZ A ar o by omega)⟩, fun e e0 e1 => absurd (show e < 0 from e1) (by omega)⟩ ⟨fun y hy => (by cases hy), fun y _ _ => Or.inr (by show SG (NT A (ivx y)) (sf (A 35) 0 o) (0 + 1 : Int).toNat = _; rw [SG_push (Int.le_refl _)]; show (0 : Int) + NT A (ivx y) o = _; omega), fun w _ => (by show SG (NT A w) (sf (A 35) 0 o) (0 + 1 : Int).toNat ≤ _; rw [SG_push (Int.le_refl _)]; show (0 : Int) + NT A w o ≤ _; omega)⟩
