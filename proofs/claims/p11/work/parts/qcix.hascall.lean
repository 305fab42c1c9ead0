section HCS
variable {I : Nat → Int} {A : Nat → Int → Int} {N : Int → Int} {f o : Int} {fn : Nat}
theorem hc_0 (hS : MST I A N) (hN : NM I A) (hT : TRX I A N) (f0 : 0 ≤ f) (f1 : f < I 7) (ff : DM A N f = .var fn) (fq : f ≠ 2) (o0 : 0 ≤ o) (o1 : o < I 7) (h : ∀ w : Int → Int, (∀ k : Int, A 1 k ≠ f → w k = 0) → NT A w o = 0) : (sp_cc fn (DM A N o)).1 = [] := by
  refine List.eq_nil_iff_forall_not_mem.mpr (fun b hb => ?_)
  have r := (NT_cc (b := b) hS hN hT f0 f1 ff fq (o.toNat + 1) o (by omega) o0 o1).1.2.mpr hb
  rw [h (wcc A N f b) (fun k hk => ifc_neg (fun q => hk q.1))] at r
  exact absurd r (by decide)
theorem hc_1 (hS : MST I A N) (hN : NM I A) (hT : TRX I A N) (f0 : 0 ≤ f) (f1 : f < I 7) (ff : DM A N f = .var fn) (fq : f ≠ 2) (o0 : 0 ≤ o) (o1 : o < I 7) (h : ∃ k : Int, (0 ≤ k ∧ k < I 7) ∧ A 1 k = f ∧ ∀ w : Int → Int, (∀ j : Int, A 1 j ≠ f → w j = 0) → (∀ j : Int, 0 ≤ j → j < I 7 → 0 ≤ w j) → w k ≤ NT A w o) : (sp_cc fn (DM A N o)).1 ≠ [] := by
  obtain ⟨k, hk, ek, hw⟩ := h
  have s := hw (wcc A N f (DM A N (A 2 k))) (fun j hj => ifc_neg (fun q => hj q.1)) (fun j _ _ => wcc_nn j)
  have w1 : wcc A N f (DM A N (A 2 k)) k = 1 := ifc_pos ⟨ek, rfl⟩
  have r := (NT_cc (b := DM A N (A 2 k)) hS hN hT f0 f1 ff fq (o.toNat + 1) o (by omega) o0 o1).1.2.mp (by omega)
  intro e
  rw [e] at r
  cases r
end HCS
theorem mm_hasCall_loopX (z : Value) (d : Nat) (ar : Int → Int) (o f : Int) (h R : xx_H) (I : Nat → Int) (A : Nat → Int → Int) (N : Int → Int) (hc : 12 ≤ h.length) (hP : PW I A) (n0 : A 1 0 < 0) (f0 : 0 ≤ f) (f1 : f < 140000) : ∀ (n : Nat) (s : Int) (I1 : Nat → Int) (A1 : Nat → Int → Int) (y : Option Value), s ≤ n → s ≤ 399 → WX I A I1 A1 → WK ar s I1 A1 → (∀ w : Int → Int, (∀ k : Int, A 1 k ≠ f → w k = 0) → SG (NT A w) (A1 35) (I1 61).toNat = NT A w o) → xx_go (xt_P z) (d + 3) 130 10 [some (.ref h.length), some (.int (iI o)), some (.int (iI f)), y] [] (mh h R I1 A1 N) (fun v h1 => (∃ b : Int, ((b = 0 ∧ ∀ w : Int → Int, (∀ k : Int, A 1 k ≠ f → w k = 0) → NT A w o = 0) ∨ (b = 1 ∧ (∃ k : Int, (0 ≤ k ∧ k < I 7) ∧ A 1 k = f ∧ ∀ w : Int → Int, (∀ j : Int, A 1 j ≠ f → w j = 0) → (∀ j : Int, 0 ≤ j → j < I 7 → 0 ≤ w j) → w k ≤ NT A w o))) ∧ v = some (.int (iI b))) ∧ ∃ (I1 : Nat → Int) (A1 : Nat → Int → Int), h1 = mh h R I1 A1 N ∧ WX I A I1 A1) := by
  intro n
  induction n with
  | zero =>
    intro s I1 A1 y hn s9 X W hG
    have ge := SZ_ge (I1 61).toNat (fun e he => (W.2.1 e (by omega) (by omega)).2)
    have w0 := W.1
    have w2 := W.2.2
    refine go_a (pc' := 11) (ls' := [some (.ref h.length), some (.int (iI o)), some (.int (iI f)), y]) (st' := [.ref h.length]) rfl rfl ?_
    refine go_get (v := .int (iI (I1 61))) rfl mh_o rfl rfl ?_
    refine mi_le0 (t := 36) rfl rfl (by omega) (by omega) (fun _ => ?_) (fun e => absurd (show I1 61 ≤ 0 by omega) e)
    refine go_a (pc' := 37) (ls' := [some (.ref h.length), some (.int (iI o)), some (.int (iI f)), y]) (st' := [.int (iI 0)]) rfl rfl ?_
    exact go_r rfl rfl rfl rfl rfl rfl ⟨⟨0, Or.inl ⟨rfl, fun w hw => by rw [← hG w hw, show (I1 61).toNat = 0 by omega]; rfl⟩, rfl⟩, I1, A1, rfl, X⟩
  | succ n ih =>
    intro s I1 A1 y hn s9 X W hG
    have ge := SZ_ge (I1 61).toNat (fun e he => (W.2.1 e (by omega) (by omega)).2)
    have w0 := W.1
    have w2 := W.2.2
    have P1 := WX_PW hP X
    have n1 : A1 1 0 < 0 := by rw [X.2 1 (by decide)]; exact n0
    refine go_a (pc' := 11) (ls' := [some (.ref h.length), some (.int (iI o)), some (.int (iI f)), y]) (st' := [.ref h.length]) rfl rfl ?_
    refine go_get (v := .int (iI (I1 61))) rfl mh_o rfl rfl ?_
    refine mi_le0 (t := 36) rfl rfl (by omega) (by omega) (fun _ => ?_) (fun e => ?_)
    · refine go_a (pc' := 37) (ls' := [some (.ref h.length), some (.int (iI o)), some (.int (iI f)), y]) (st' := [.int (iI 0)]) rfl rfl ?_
      exact go_r rfl rfl rfl rfl rfl rfl ⟨⟨0, Or.inl ⟨rfl, fun w hw => by rw [← hG w hw, show (I1 61).toNat = 0 by omega]; rfl⟩, rfl⟩, I1, A1, rfl, X⟩
    · have top := W.2.1 (I1 61 - 1) (by omega) (by omega)
      refine go_a (pc' := 18) (ls' := [some (.ref h.length), some (.int (iI o)), some (.int (iI f)), y]) (st' := [.ref h.length]) rfl rfl ?_
      refine go_v (m := 120) (as := [.ref h.length]) (r := []) rfl rfl rfl mh_o rfl rfl (mm_walkOn z d ar s h R I1 A1 N hc P1 n1 W (by omega) s9) (fun v h1 hq => ?_)
      obtain ⟨rfl, I2, A2, rfl, X2, W2, G2⟩ := hq
      have P2 := WX_PW P1 X2
      have e7 : I2 7 = I1 7 := X2.1 7 (by decide)
      show xx_go (xt_P z) (d + 3) 130 21 [some (.ref h.length), some (.int (iI o)), some (.int (iI f)), y] [.int (iI (A1 35 (I1 61 - 1)))] (mh h R I2 A2 N) _
      refine go_a (pc' := 22) (ls' := [some (.ref h.length), some (.int (iI o)), some (.int (iI f)), some (.int (iI (A1 35 (I1 61 - 1))))]) (st' := []) rfl rfl ?_
      refine go_a (pc' := 23) (ls' := [some (.ref h.length), some (.int (iI o)), some (.int (iI f)), some (.int (iI (A1 35 (I1 61 - 1))))]) (st' := [.ref h.length]) rfl rfl ?_
      refine go_a (pc' := 24) (ls' := [some (.ref h.length), some (.int (iI o)), some (.int (iI f)), some (.int (iI (A1 35 (I1 61 - 1))))]) (st' := [.int (iI (A1 35 (I1 61 - 1))), .ref h.length]) rfl rfl ?_
      refine go_a (pc' := 25) (ls' := [some (.ref h.length), some (.int (iI o)), some (.int (iI f)), some (.int (iI (A1 35 (I1 61 - 1))))]) (st' := [.int (iI f), .int (iI (A1 35 (I1 61 - 1))), .ref h.length]) rfl rfl ?_
      refine go_v (m := 123) (as := [.ref h.length, .int (iI (A1 35 (I1 61 - 1))), .int (iI f)]) (r := []) rfl rfl rfl mh_o rfl rfl (mb_isCallOf z (d + 1) (A1 35 (I1 61 - 1)) f h R I2 A2 N hc P2 top.1.1 (by omega) f0 f1) (fun v h1 hq => ?_)
      obtain ⟨⟨b, rfl, hb⟩, rfl⟩ := hq
      show xx_go (xt_P z) (d + 3) 130 28 [some (.ref h.length), some (.int (iI o)), some (.int (iI f)), some (.int (iI (A1 35 (I1 61 - 1))))] [.int (iI b)] (mh h R I2 A2 N) _
      refine mi_eq0 (t := 33) rfl rfl (by omega) (by omega) (fun e2 => ?_) (fun e2 => ?_)
      · refine go_a (pc' := 10) (ls' := [some (.ref h.length), some (.int (iI o)), some (.int (iI f)), some (.int (iI (A1 35 (I1 61 - 1))))]) (st' := []) rfl rfl ?_
        have e1 : A1 1 = A 1 := X.2 1 (by decide)
        have e2 : A1 2 = A 2 := X.2 2 (by decide)
        have ef : A 1 (A1 35 (I1 61 - 1)) ≠ f := by
          have e9 : A2 1 = A 1 := (X2.2 1 (by decide)).trans e1
          rw [e9] at hb
          omega
        exact ih (s - 1) I2 A2 _ (by omega) (by omega) (WX_tr X X2) W2 (fun w hw => by
          have g := G2 w
          rw [nt_12w e1 e2, hG w hw, hw _ ef, Int.sub_zero] at g
          exact g)
      · have e1 : A1 1 = A 1 := X.2 1 (by decide)
        have ef : A 1 (A1 35 (I1 61 - 1)) = f := by
          have e9 : A2 1 = A 1 := (X2.2 1 (by decide)).trans e1
          rw [e9] at hb
          omega
        have e71 : I1 7 = I 7 := X.1 7 (by decide)
        have hk : (∃ k : Int, (0 ≤ k ∧ k < I 7) ∧ A 1 k = f ∧ ∀ w : Int → Int, (∀ j : Int, A 1 j ≠ f → w j = 0) → (∀ j : Int, 0 ≤ j → j < I 7 → 0 ≤ w j) → w k ≤ NT A w o) := by
          refine ⟨A1 35 (I1 61 - 1), ⟨top.1.1, by omega⟩, ef, fun w hw hn => ?_⟩
          have nn : ∀ e : Nat, e < (I1 61).toNat → 0 ≤ NT A w (A1 35 e) := fun e he => by
            have q := W.2.1 e (by omega) (by omega)
            exact (NT_nn hP hn _ _ (Nat.lt_succ_self _) q.1.1 (by omega)).1
          have s := SG_each (g := NT A w) (f := A1 35) (I1 61).toNat nn (I1 61 - 1).toNat (by omega)
          rw [hG w hw, show (((I1 61 - 1).toNat : Nat) : Int) = I1 61 - 1 by omega] at s
          have q2 := hP.2 _ top.1.1 (by omega : A1 35 (I1 61 - 1) < I 7)
          have q3 := q2.2.2.2.2 (by omega)
          by_cases e2 : f = 2
          · rw [NT_leaf hP top.1.1 (by omega) (Or.inr (ef.trans e2))] at s
            exact s
          · rw [NT_call hP top.1.1 (by omega) (by omega) (by omega)] at s
            have l := (NT_nn hP hn _ (A 2 (A1 35 (I1 61 - 1))) (Nat.lt_succ_self _) q2.2.2.1 (by omega)).2
            omega
        refine go_a (pc' := 32) (ls' := [some (.ref h.length), some (.int (iI o)), some (.int (iI f)), some (.int (iI (A1 35 (I1 61 - 1))))]) (st' := [.int (iI 1)]) rfl rfl ?_
        exact go_r rfl rfl rfl rfl rfl rfl ⟨⟨1, Or.inr ⟨rfl, hk⟩, rfl⟩, I2, A2, rfl, WX_tr X X2⟩
theorem mm_hasCallX (z : Value) (d : Nat) (ar : Int → Int) (o f : Int) (h R : xx_H) (I : Nat → Int) (A : Nat → Int → Int) (N : Int → Int) (hc : 12 ≤ h.length) (hP : PW I A) (n0 : A 1 0 < 0) (k0 : 0 ≤ o) (k1 : o < I 7) (k2 : 1 ≤ TZ A ar o) (k3 : TZ A ar o ≤ 399) (f0 : 0 ≤ f) (f1 : f < 140000) : xx_cl (xt_P z) (d + 4) 130 [.ref h.length, .int (iI o), .int (iI f)] (mh h R I A N) (fun v h1 => (∃ b : Int, ((b = 0 ∧ ∀ w : Int → Int, (∀ k : Int, A 1 k ≠ f → w k = 0) → NT A w o = 0) ∨ (b = 1 ∧ (∃ k : Int, (0 ≤ k ∧ k < I 7) ∧ A 1 k = f ∧ ∀ w : Int → Int, (∀ j : Int, A 1 j ≠ f → w j = 0) → (∀ j : Int, 0 ≤ j → j < I 7 → 0 ≤ w j) → w k ≤ NT A w o))) ∧ v = some (.int (iI b))) ∧ ∃ (I1 : Nat → Int) (A1 : Nat → Int → Int), h1 = mh h R I1 A1 N ∧ WX I A I1 A1) := by
  refine cl_go rfl ?_
  show xx_go (xt_P z) (d + 3) 130 0 [some (.ref h.length), some (.int (iI o)), some (.int (iI f)), none] [] (mh h R I A N) _
  refine go_a (pc' := 1) (ls' := [some (.ref h.length), some (.int (iI o)), some (.int (iI f)), none]) (st' := [.ref h.length]) rfl rfl ?_
  refine go_a (pc' := 2) (ls' := [some (.ref h.length), some (.int (iI o)), some (.int (iI f)), none]) (st' := [.int (iI 0), .ref h.length]) rfl rfl ?_
  refine go_put (j := 61) rfl mh_o rfl rfl (show 12 ≤ _ from hc) (show 61 < 86 by decide) rfl rfl ?_
  rw [mh_p61]
  refine go_a (pc' := 6) (ls' := [some (.ref h.length), some (.int (iI o)), some (.int (iI f)), none]) (st' := [.ref h.length]) rfl rfl ?_
  refine go_a (pc' := 7) (ls' := [some (.ref h.length), some (.int (iI o)), some (.int (iI f)), none]) (st' := [.int (iI o), .ref h.length]) rfl rfl ?_
  refine go_v (m := 119) (as := [.ref h.length, .int (iI o)]) (r := []) rfl rfl rfl mh_o rfl rfl (mm_walkTo z (d + 2) o h R (su I 61 0) A N hc (show (0 : Int) ≤ 0 by decide) (show (0 : Int) < 400 by decide)) (fun v h1 hq => ?_)
  obtain ⟨rfl, rfl⟩ := hq
  show xx_go (xt_P z) (d + 3) 130 10 [some (.ref h.length), some (.int (iI o)), some (.int (iI f)), none] [] (mh h R (su (su I 61 0) 61 (0 + 1)) (sa A 35 0 o) N) _
  exact mm_hasCall_loopX z d ar o f h R I A N hc hP n0 f0 f1 (TZ A ar o).toNat (TZ A ar o) _ _ none (by omega) k3 ⟨fun j p => (su_ne p).trans (su_ne p), fun a p => sa_ne p⟩ (WK_one k0 k1 k2) (fun w _ => by
    show SG (NT A w) (sf (A 35) 0 o) (0 + 1 : Int).toNat = _
    rw [SG_push (Int.le_refl _)]
    show (0 : Int) + NT A w o = _
    omega)
