def SX (ar : Int → Int) (c : Int) (I : Nat → Int) (A : Nat → Int → Int) (N : Int → Int) (I1 : Nat → Int) (A1 : Nat → Int → Int) : Prop := BX FB GT I A N I1 A1 N ∧ BI ar I1 A1 N ∧ I1 49 = I 49 ∧ I1 7 ≤ I 7 + c
theorem SX_rf {ar : Int → Int} {I : Nat → Int} {A : Nat → Int → Int} {N : Int → Int} {c : Int} (h : BI ar I A N) (c0 : 0 ≤ c) : SX ar c I A N I A := ⟨BX_rf h.1.1, h, rfl, by omega⟩
theorem SX_tr {ar : Int → Int} {I I1 I2 : Nat → Int} {A A1 A2 : Nat → Int → Int} {N : Int → Int} {c d e : Int} (x : SX ar c I A N I1 A1) (y : SX ar d I1 A1 N I2 A2) (h : c + d ≤ e) : SX ar e I A N I2 A2 := ⟨BX_tr x.1 y.1, y.2.1, y.2.2.1.trans x.2.2.1, by have := x.2.2.2; have := y.2.2.2; omega⟩
theorem SX_w {ar : Int → Int} {I I1 : Nat → Int} {A A1 : Nat → Int → Int} {N : Int → Int} {c e : Int} (x : SX ar c I A N I1 A1) (h : c ≤ e) : SX ar e I A N I1 A1 := ⟨x.1, x.2.1, x.2.2.1, by have := x.2.2.2; omega⟩
theorem TQ_SX {ar : Int → Int} {o t : Int} {I I1 : Nat → Int} {A A1 : Nat → Int → Int} {N : Int → Int} (q : TQ ar o t I A N I1 A1) : SX ar (2 * WD A o - 2) I A N I1 A1 := ⟨q.1, q.2.1, q.2.2.2.1, by have := q.2.2.1; omega⟩
theorem isL_step {A : Nat → Int → Int} : ∀ (n j : Nat) (k : Int), isL A n k → j < n → 0 ≤ A 1 (rt A j k)
  | n + 1, 0, k, h, _ => h.1
  | n + 1, j + 1, k, h, hj => isL_step n j (A 2 k) h.2 (by omega)
theorem rt_ext {F G : Nat → Prop} {I I1 : Nat → Int} {A A1 : Nat → Int → Int} {N N1 : Int → Int} (hP : PW I A) (x : BX F G I A N I1 A1 N1) : ∀ (n j : Nat) (k : Int), 0 ≤ k → k < I 7 → isL A n k → j ≤ n → rt A1 j k = rt A j k
  | _, 0, _, _, _, _, _ => rfl
  | n + 1, j + 1, k, h0, h1, hL, hj => by
    have q := hP.2 k h0 h1
    have q2 := q.2.2.2.2 hL.1
    show rt A1 j (A1 2 k) = rt A j (A 2 k)
    rw [(x.2.2.1 k h0 h1).2.1]
    exact rt_ext hP x n j (A 2 k) (by omega) (by omega) hL.2 (by omega)
theorem wv_nn (A : Nat → Int → Int) : ∀ (f : Nat) (k : Int), 0 ≤ (wv A f k).1 ∧ 0 ≤ (wv A f k).2
  | 0, _ => ⟨by unfold wv; decide, by unfold wv; decide⟩
  | f + 1, k => by
    have a := wv_nn A f (A 1 k)
    have b := wv_nn A f (A 2 k)
    have c := wv_nn A f (A 1 (A 2 k))
    rw [wv_succ]
    split
    · refine ⟨(show (0 : Int) ≤ 1 by decide), ?_⟩
      dsimp only
      split <;> decide
    · refine ⟨?_, ?_⟩
      · dsimp only
        split <;> omega
      · dsimp only
        omega
theorem VD_nn (A : Nat → Int → Int) (k : Int) : 0 ≤ VD A k := (wv_nn A _ k).2
theorem mm_areTerms_loop (z : Value) (d f0 n : Nat) (ar : Int → Int) (o : Int) (h R : xx_H) (I : Nat → Int) (A : Nat → Int → Int) (N : Int → Int) (hc : 12 ≤ h.length) (hB : BI ar I A N) (k0 : 0 ≤ o) (k1 : o < I 7) (hL : isL A n o) (w : VD A (rt A f0 o) ≤ 1000) (ho : I 7 + 2 * VD A (rt A f0 o) ≤ 140000) (f9 : f0 < 1000) : ∀ (m k : Nat) (I1 : Nat → Int) (A1 : Nat → Int → Int), n - k ≤ m → f0 ≤ k → (k ≤ n ∨ k = f0) → SX ar (2 * (VD A (rt A f0 o) - VD A (rt A k o)) - 2 * ((k : Int) - (f0 : Int))) I A N I1 A1 → (∀ j : Nat, f0 ≤ j → j < k → TOK A ar (A 1 (rt A j o))) → (k ≤ n → 0 ≤ VD A (rt A k o) ∧ VD A (rt A k o) ≤ VD A (rt A f0 o)) → xx_go (xt_P z) (d + 8) 140 14 [some (.ref h.length), some (.int (iI o)), some (.int (iI ((f0 : Int)))), some (.int (iI ((n : Int)))), some (.int (iI ((k : Int))))] [] (mh h R I1 A1 N) (fun v h1 => ∃ (I1 : Nat → Int) (A1 : Nat → Int → Int), h1 = mh h R I1 A1 N ∧ SX ar (2 * VD A (rt A f0 o)) I A N I1 A1 ∧ ((v = some (.int (iI 0)) ∧ ¬ (isL A n o ∧ (∀ j : Nat, f0 ≤ j → j < n → TOK A ar (A 1 (rt A j o))))) ∨ (v = some (.int (iI 1)) ∧ isL A n o ∧ (∀ j : Nat, f0 ≤ j → j < n → TOK A ar (A 1 (rt A j o))) ∧ (f0 ≤ n → I1 7 ≤ I 7 + 2 * VD A (rt A f0 o) - 2 * ((n : Int) - (f0 : Int)))))) := by
  have hP := BI_P hB
  have p1 := hP.1
  have ll := isL_len hP o.toNat n o (Nat.le_refl _) k0 k1 hL
  have kz : ∀ k : Nat, n < k → 0 ≤ VD A (rt A k o) := by
    intro k hk
    have q : VD A (rt A k o) = VD A 0 ∨ True := Or.inr trivial
    exact VD_nn A _
  have fx : ∀ (k : Nat) {I1 : Nat → Int} {A1 : Nat → Int → Int}, n ≤ k → f0 ≤ k → SX ar (2 * (VD A (rt A f0 o) - VD A (rt A k o)) - 2 * ((k : Int) - (f0 : Int))) I A N I1 A1 → (k ≤ n → 0 ≤ VD A (rt A k o) ∧ VD A (rt A k o) ≤ VD A (rt A f0 o)) → SX ar (2 * VD A (rt A f0 o)) I A N I1 A1 := by
    intro k I1 A1 hk fk X hv
    have := VD_nn A (rt A k o)
    exact SX_w X (by omega)
  intro m
  induction m with
  | zero =>
    intro k I1 A1 hm fk kn X hT hv
    refine go_a (pc' := 16) (ls' := [some (.ref h.length), some (.int (iI o)), some (.int (iI ((f0 : Int)))), some (.int (iI ((n : Int)))), some (.int (iI ((k : Int))))]) (st' := [.int (iI ((k : Int)))]) rfl rfl ?_
    refine go_a (pc' := 17) (ls' := [some (.ref h.length), some (.int (iI o)), some (.int (iI ((f0 : Int)))), some (.int (iI ((n : Int)))), some (.int (iI ((k : Int))))]) (st' := [.int (iI ((n : Int))), .int (iI ((k : Int)))]) rfl rfl ?_
    refine mi_ge (t := 43) rfl rfl (by omega) (by omega) (by omega) (by omega) (fun _ => ?_) (fun e => absurd (show (n : Int) ≤ k by omega) e)
    refine go_a (pc' := 44) (ls' := [some (.ref h.length), some (.int (iI o)), some (.int (iI ((f0 : Int)))), some (.int (iI ((n : Int)))), some (.int (iI ((k : Int))))]) (st' := [.int (iI 1)]) rfl rfl ?_
    exact go_r rfl rfl rfl rfl rfl rfl ⟨I1, A1, rfl, fx k (by omega) fk X hv, Or.inr ⟨rfl, hL, fun j j0 j1 => hT j j0 (by omega), fun fn => by have := X.2.2.2; have := VD_nn A (rt A k o); omega⟩⟩
  | succ m ih =>
    intro k I1 A1 hm fk kn X hT hv
    refine go_a (pc' := 16) (ls' := [some (.ref h.length), some (.int (iI o)), some (.int (iI ((f0 : Int)))), some (.int (iI ((n : Int)))), some (.int (iI ((k : Int))))]) (st' := [.int (iI ((k : Int)))]) rfl rfl ?_
    refine go_a (pc' := 17) (ls' := [some (.ref h.length), some (.int (iI o)), some (.int (iI ((f0 : Int)))), some (.int (iI ((n : Int)))), some (.int (iI ((k : Int))))]) (st' := [.int (iI ((n : Int))), .int (iI ((k : Int)))]) rfl rfl ?_
    refine mi_ge (t := 43) rfl rfl (by omega) (by omega) (by omega) (by omega) (fun _ => ?_) (fun e => ?_)
    · refine go_a (pc' := 44) (ls' := [some (.ref h.length), some (.int (iI o)), some (.int (iI ((f0 : Int)))), some (.int (iI ((n : Int)))), some (.int (iI ((k : Int))))]) (st' := [.int (iI 1)]) rfl rfl ?_
      exact go_r rfl rfl rfl rfl rfl rfl ⟨I1, A1, rfl, fx k (by omega) fk X hv, Or.inr ⟨rfl, hL, fun j j0 j1 => hT j j0 (by omega), fun fn => by have := X.2.2.2; have := VD_nn A (rt A k o); omega⟩⟩
    · have hv := hv (by omega)
      have vr := VD_rt hP k0 k1 hL (by omega : k < n)
      have P1 := BI_P X.2.1
      have x7 := X.1.2.1
      have wx := (WD_BX hP X.1 vr.2.1.1 vr.2.1.2).1
      have c7 := X.2.2.2
      have L1 := isL_ext hP (fun k a b => ⟨(X.1.2.2.1 k a b).1, (X.1.2.2.1 k a b).2.1⟩) n o k0 k1 hL
      have rk := isL_rt hP n k o k0 k1 hL (by omega)
      have rx : A1 1 (rt A1 k o) = A 1 (rt A k o) := by
        rw [rt_ext hP X.1 n k o k0 k1 hL (by omega), (X.1.2.2.1 _ rk.1 (by omega)).1]
      refine go_a (pc' := 21) (ls' := [some (.ref h.length), some (.int (iI o)), some (.int (iI ((f0 : Int)))), some (.int (iI ((n : Int)))), some (.int (iI ((k : Int))))]) (st' := [.ref h.length]) rfl rfl ?_
      refine go_a (pc' := 22) (ls' := [some (.ref h.length), some (.int (iI o)), some (.int (iI ((f0 : Int)))), some (.int (iI ((n : Int)))), some (.int (iI ((k : Int))))]) (st' := [.ref h.length, .ref h.length]) rfl rfl ?_
      refine go_a (pc' := 23) (ls' := [some (.ref h.length), some (.int (iI o)), some (.int (iI ((f0 : Int)))), some (.int (iI ((n : Int)))), some (.int (iI ((k : Int))))]) (st' := [.int (iI o), .ref h.length, .ref h.length]) rfl rfl ?_
      refine go_a (pc' := 25) (ls' := [some (.ref h.length), some (.int (iI o)), some (.int (iI ((f0 : Int)))), some (.int (iI ((n : Int)))), some (.int (iI ((k : Int))))]) (st' := [.int (iI ((k : Int))), .int (iI o), .ref h.length, .ref h.length]) rfl rfl ?_
      refine go_v (m := 99) (as := [.ref h.length, .int (iI o), .int (iI ((k : Int)))]) (r := [.ref h.length]) rfl rfl rfl mh_o rfl rfl (mm_nth z (d + 7) k n o h R I1 A1 N hc P1 (by omega) k0 (by omega) L1 (by omega)) (fun v h1 hq => ?_)
      obtain ⟨rfl, rfl⟩ := hq
      rw [rx]
      show xx_go (xt_P z) (d + 8) 140 28 [some (.ref h.length), some (.int (iI o)), some (.int (iI ((f0 : Int)))), some (.int (iI ((n : Int)))), some (.int (iI ((k : Int))))] [.int (iI (A 1 (rt A k o))), .ref h.length] (mh h R I1 A1 N) _
      refine go_v (m := 105) (as := [.ref h.length, .int (iI (A 1 (rt A k o)))]) (r := []) rfl rfl rfl mh_o rfl rfl (mm_termQ z d ar (A 1 (rt A k o)) h R I1 A1 N hc X.2.1 vr.2.1.1 (by omega) (by omega) (by omega)) (fun v h1 hq => ?_)
      obtain ⟨t, I2, A2, rfl, rfl, Q⟩ := hq
      have Y := SX_tr (e := 2 * (VD A (rt A f0 o) - VD A (rt A (k + 1) o)) - 2 * (((k + 1 : Nat) : Int) - (f0 : Int))) X (TQ_SX Q) (by omega)
      have tr : -1 ≤ t ∧ t < 140000 := by
        have := (BI_P Q.2.1).1
        rcases Q.2.2.2.2 with q | q
        · omega
        · omega
      show xx_go (xt_P z) (d + 8) 140 31 [some (.ref h.length), some (.int (iI o)), some (.int (iI ((f0 : Int)))), some (.int (iI ((n : Int)))), some (.int (iI ((k : Int))))] [.int (iI t)] (mh h R I2 A2 N) _
      refine go_a (pc' := 32) (ls' := [some (.ref h.length), some (.int (iI o)), some (.int (iI ((f0 : Int)))), some (.int (iI ((n : Int)))), some (.int (iI ((k : Int))))]) (st' := [.int (iI ((-1))), .int (iI t)]) rfl rfl ?_
      refine mi_ne (t := 37) rfl rfl (by omega) (by omega) (by omega) (by omega) (fun e2 => ?_) (fun e2 => ?_)
      · have tk : TOK A ar (A 1 (rt A k o)) := by
          rcases Q.2.2.2.2 with q | q
          · exact absurd q.1 e2
          · have q3 := q.2.2.1
            unfold TOK at q3 ⊢
            rw [TS_BX hP X.1 vr.2.1.1 vr.2.1.2] at q3
            exact q3
        refine go_a (pc' := 40) (ls' := [some (.ref h.length), some (.int (iI o)), some (.int (iI ((f0 : Int)))), some (.int (iI ((n : Int)))), some (.int (iI (((k : Int)) + 1)))]) (st' := []) rfl (by rw [← iI_add ((k : Int)) 1]; rfl) ?_
        refine go_a (pc' := 14) (ls' := [some (.ref h.length), some (.int (iI o)), some (.int (iI ((f0 : Int)))), some (.int (iI ((n : Int)))), some (.int (iI (((k : Int)) + 1)))]) (st' := []) rfl rfl ?_
        refine ih (k + 1) I2 A2 (by omega) (by omega) (by omega) Y (fun j j0 j1 => ?_) (fun _ => by omega)
        by_cases q : j = k
        · rw [q]
          exact tk
        · exact hT j j0 (by omega)
      · have nk : ¬ TOK A ar (A 1 (rt A k o)) := by
          rcases Q.2.2.2.2 with q | q
          · have q2 := q.2
            unfold TOK at q2 ⊢
            rw [TS_BX hP X.1 vr.2.1.1 vr.2.1.2] at q2
            exact q2
          · omega
        refine go_a (pc' := 36) (ls' := [some (.ref h.length), some (.int (iI o)), some (.int (iI ((f0 : Int)))), some (.int (iI ((n : Int)))), some (.int (iI ((k : Int))))]) (st' := [.int (iI 0)]) rfl rfl ?_
        exact go_r rfl rfl rfl rfl rfl rfl ⟨I2, A2, rfl, SX_w Y (by omega), Or.inl ⟨rfl, fun q => nk (q.2 k fk (by omega))⟩⟩
theorem mm_areTerms (z : Value) (d f0 n : Nat) (ar : Int → Int) (o : Int) (h R : xx_H) (I : Nat → Int) (A : Nat → Int → Int) (N : Int → Int) (hc : 12 ≤ h.length) (hB : BI ar I A N) (k0 : 0 ≤ o) (k1 : o < I 7) (w : VD A (rt A f0 o) ≤ 1000) (ho : I 7 + 2 * VD A (rt A f0 o) ≤ 140000) (n9 : (n : Int) < 140000) (f9 : f0 < 1000) : xx_cl (xt_P z) (d + 9) 140 [.ref h.length, .int (iI o), .int (iI f0), .int (iI n)] (mh h R I A N) (fun v h1 => ∃ (I1 : Nat → Int) (A1 : Nat → Int → Int), h1 = mh h R I1 A1 N ∧ SX ar (2 * VD A (rt A f0 o)) I A N I1 A1 ∧ ((v = some (.int (iI 0)) ∧ ¬ (isL A n o ∧ (∀ j : Nat, f0 ≤ j → j < n → TOK A ar (A 1 (rt A j o))))) ∨ (v = some (.int (iI 1)) ∧ isL A n o ∧ (∀ j : Nat, f0 ≤ j → j < n → TOK A ar (A 1 (rt A j o))) ∧ (f0 ≤ n → I1 7 ≤ I 7 + 2 * VD A (rt A f0 o) - 2 * ((n : Int) - (f0 : Int)))))) := by
  have hP := BI_P hB
  have p1 := hP.1
  have v0 := VD_nn A (rt A f0 o)
  refine cl_go rfl ?_
  show xx_go (xt_P z) (d + 8) 140 0 [some (.ref h.length), some (.int (iI o)), some (.int (iI ((f0 : Int)))), some (.int (iI ((n : Int)))), none] [] (mh h R I A N) _
  refine go_a (pc' := 1) (ls' := [some (.ref h.length), some (.int (iI o)), some (.int (iI ((f0 : Int)))), some (.int (iI ((n : Int)))), none]) (st' := [.ref h.length]) rfl rfl ?_
  refine go_a (pc' := 2) (ls' := [some (.ref h.length), some (.int (iI o)), some (.int (iI ((f0 : Int)))), some (.int (iI ((n : Int)))), none]) (st' := [.int (iI o), .ref h.length]) rfl rfl ?_
  refine go_v (m := 98) (as := [.ref h.length, .int (iI o)]) (r := []) rfl rfl rfl mh_o rfl rfl (mm_len2 z (d + 6) o h R I A N hc hP (BI_n0 hB) k0 k1) (fun v h1 hq => ?_)
  obtain ⟨⟨m, rfl, hm⟩, rfl⟩ := hq
  have mr : -1 ≤ m ∧ m < 140000 := by
    rcases hm with ⟨hm, -⟩ | ⟨q, hm, hl⟩
    · omega
    · have := isL_len hP o.toNat q o (Nat.le_refl _) k0 k1 hl
      omega
  show xx_go (xt_P z) (d + 8) 140 5 [some (.ref h.length), some (.int (iI o)), some (.int (iI ((f0 : Int)))), some (.int (iI ((n : Int)))), none] [.int (iI m)] (mh h R I A N) _
  refine go_a (pc' := 6) (ls' := [some (.ref h.length), some (.int (iI o)), some (.int (iI ((f0 : Int)))), some (.int (iI ((n : Int)))), none]) (st' := [.int (iI ((n : Int))), .int (iI m)]) rfl rfl ?_
  refine mi_eq (t := 11) rfl rfl (by omega) (by omega) (by omega) (by omega) (fun e => ?_) (fun e => ?_)
  · have hL : isL A n o := by
      rcases hm with ⟨hm, -⟩ | ⟨q, hm, hl⟩
      · omega
      · rw [show n = q by omega]
        exact hl
    refine go_a (pc' := 12) (ls' := [some (.ref h.length), some (.int (iI o)), some (.int (iI ((f0 : Int)))), some (.int (iI ((n : Int)))), none]) (st' := [.int (iI ((f0 : Int)))]) rfl rfl ?_
    refine go_a (pc' := 14) (ls' := [some (.ref h.length), some (.int (iI o)), some (.int (iI ((f0 : Int)))), some (.int (iI ((n : Int)))), some (.int (iI ((f0 : Int))))]) (st' := []) rfl rfl ?_
    exact mm_areTerms_loop z d f0 n ar o h R I A N hc hB k0 k1 hL w ho f9 n f0 I A (by omega) (Nat.le_refl _) (Or.inr rfl) (SX_rf hB (by omega)) (fun j j0 j1 => absurd j1 (by omega)) (fun _ => ⟨v0, Int.le_refl _⟩)
  · have nl : ¬ isL A n o := by
      intro hL
      rcases hm with ⟨-, hn⟩ | ⟨q, hm, hl⟩
      · exact hn n hL
      · have := isL_uq (BI_n0 hB) q n o hl hL
        omega
    refine go_a (pc' := 10) (ls' := [some (.ref h.length), some (.int (iI o)), some (.int (iI ((f0 : Int)))), some (.int (iI ((n : Int)))), none]) (st' := [.int (iI 0)]) rfl rfl ?_
    exact go_r rfl rfl rfl rfl rfl rfl ⟨I, A, rfl, SX_rf hB (by omega), Or.inl ⟨rfl, fun q => nl q.1⟩⟩
theorem mm_isTermList (z : Value) (d : Nat) (ar : Int → Int) (o : Int) (h R : xx_H) (I : Nat → Int) (A : Nat → Int → Int) (N : Int → Int) (hc : 12 ≤ h.length) (hB : BI ar I A N) (k0 : 0 ≤ o) (k1 : o < I 7) (w : VD A o ≤ 1000) (ho : I 7 + 2 * VD A o ≤ 140000) : xx_cl (xt_P z) (d + 10) 148 [.ref h.length, .int (iI o)] (mh h R I A N) (fun v h1 => ∃ (I1 : Nat → Int) (A1 : Nat → Int → Int), h1 = mh h R I1 A1 N ∧ SX ar (2 * VD A o) I A N I1 A1 ∧ ((v = some (.int (iI 0)) ∧ ¬ ∃ n : Nat, isL A n o ∧ ∀ j : Nat, j < n → TOK A ar (A 1 (rt A j o))) ∨ (v = some (.int (iI 1)) ∧ ∃ n : Nat, isL A n o ∧ ∀ j : Nat, j < n → TOK A ar (A 1 (rt A j o))))) := by
  have hP := BI_P hB
  have p1 := hP.1
  have v0 := VD_nn A o
  refine cl_go rfl ?_
  show xx_go (xt_P z) (d + 9) 148 0 [some (.ref h.length), some (.int (iI o)), none] [] (mh h R I A N) _
  refine go_a (pc' := 1) (ls' := [some (.ref h.length), some (.int (iI o)), none]) (st' := [.ref h.length]) rfl rfl ?_
  refine go_a (pc' := 2) (ls' := [some (.ref h.length), some (.int (iI o)), none]) (st' := [.int (iI o), .ref h.length]) rfl rfl ?_
  refine go_v (m := 98) (as := [.ref h.length, .int (iI o)]) (r := []) rfl rfl rfl mh_o rfl rfl (mm_len2 z (d + 7) o h R I A N hc hP (BI_n0 hB) k0 k1) (fun v h1 hq => ?_)
  obtain ⟨⟨m, rfl, hm⟩, rfl⟩ := hq
  have mr : -1 ≤ m ∧ m < 140000 := by
    rcases hm with ⟨hm, -⟩ | ⟨q, hm, hl⟩
    · omega
    · have := isL_len hP o.toNat q o (Nat.le_refl _) k0 k1 hl
      omega
  show xx_go (xt_P z) (d + 9) 148 5 [some (.ref h.length), some (.int (iI o)), none] [.int (iI m)] (mh h R I A N) _
  refine go_a (pc' := 6) (ls' := [some (.ref h.length), some (.int (iI o)), some (.int (iI m))]) (st' := []) rfl rfl ?_
  refine go_a (pc' := 7) (ls' := [some (.ref h.length), some (.int (iI o)), some (.int (iI m))]) (st' := [.int (iI m)]) rfl rfl ?_
  refine go_a (pc' := 8) (ls' := [some (.ref h.length), some (.int (iI o)), some (.int (iI m))]) (st' := [.int (iI ((-1))), .int (iI m)]) rfl rfl ?_
  refine mi_eq (t := 25) rfl rfl (by omega) (by omega) (by omega) (by omega) (fun e => ?_) (fun e => ?_)
  · have nl : ∀ q : Nat, ¬ isL A q o := by
      rcases hm with ⟨-, hn⟩ | ⟨q, hm, hl⟩
      · exact hn
      · omega
    refine go_a (pc' := 26) (ls' := [some (.ref h.length), some (.int (iI o)), some (.int (iI m))]) (st' := [.int (iI 0)]) rfl rfl ?_
    exact go_r rfl rfl rfl rfl rfl rfl ⟨I, A, rfl, SX_rf hB (by omega), Or.inl ⟨rfl, fun ⟨q, ql, _⟩ => nl q ql⟩⟩
  · obtain ⟨n, rfl, hL⟩ : ∃ q : Nat, m = q ∧ isL A q o := by
      rcases hm with ⟨hm, -⟩ | hm
      · exact absurd hm e
      · exact hm
    refine go_a (pc' := 12) (ls' := [some (.ref h.length), some (.int (iI o)), some (.int (iI ((n : Int))))]) (st' := [.ref h.length]) rfl rfl ?_
    refine go_a (pc' := 13) (ls' := [some (.ref h.length), some (.int (iI o)), some (.int (iI ((n : Int))))]) (st' := [.int (iI o), .ref h.length]) rfl rfl ?_
    refine go_a (pc' := 14) (ls' := [some (.ref h.length), some (.int (iI o)), some (.int (iI ((n : Int))))]) (st' := [.int (iI 0), .int (iI o), .ref h.length]) rfl rfl ?_
    refine go_a (pc' := 15) (ls' := [some (.ref h.length), some (.int (iI o)), some (.int (iI ((n : Int))))]) (st' := [.int (iI ((n : Int))), .int (iI 0), .int (iI o), .ref h.length]) rfl rfl ?_
    rw [show iI 0 = iI ((0 : Nat) : Int) from rfl]
    refine go_v (m := 140) (as := [.ref h.length, .int (iI o), .int (iI (((0 : Nat) : Int))), .int (iI ((n : Int)))]) (r := []) rfl rfl rfl mh_o rfl rfl (mm_areTerms z d 0 n ar o h R I A N hc hB k0 k1 w ho (by omega) (by decide)) (fun v h1 hq => ?_)
    obtain ⟨I1, A1, rfl, X, hv⟩ := hq
    rcases hv with ⟨rfl, nT⟩ | ⟨rfl, -, hT, -⟩
    · show xx_go (xt_P z) (d + 9) 148 18 [some (.ref h.length), some (.int (iI o)), some (.int (iI ((n : Int))))] [.int (iI 0)] (mh h R I1 A1 N) _
      refine mi_eq0 (t := 25) rfl rfl (by omega) (by omega) (fun _ => ?_) (fun q => absurd rfl q)
      refine go_a (pc' := 26) (ls' := [some (.ref h.length), some (.int (iI o)), some (.int (iI ((n : Int))))]) (st' := [.int (iI 0)]) rfl rfl ?_
      exact go_r rfl rfl rfl rfl rfl rfl ⟨I1, A1, rfl, X, Or.inl ⟨rfl, fun ⟨q, ql, qt⟩ => nT ⟨hL, fun j _ hj => qt j (by rw [isL_uq (BI_n0 hB) q n o ql hL]; exact hj)⟩⟩⟩
    · show xx_go (xt_P z) (d + 9) 148 18 [some (.ref h.length), some (.int (iI o)), some (.int (iI ((n : Int))))] [.int (iI 1)] (mh h R I1 A1 N) _
      refine mi_eq0 (t := 25) rfl rfl (by omega) (by omega) (fun q => absurd q (by decide)) (fun _ => ?_)
      refine go_a (pc' := 22) (ls' := [some (.ref h.length), some (.int (iI o)), some (.int (iI ((n : Int))))]) (st' := [.int (iI 1)]) rfl rfl ?_
      refine go_a (pc' := 26) (ls' := [some (.ref h.length), some (.int (iI o)), some (.int (iI ((n : Int))))]) (st' := [.int (iI 1)]) rfl rfl ?_
      exact go_r rfl rfl rfl rfl rfl rfl ⟨I1, A1, rfl, X, Or.inr ⟨rfl, n, hL, fun j hj => hT j (by omega) hj⟩⟩

