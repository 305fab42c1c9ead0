theorem sm_le (f : Int → Int) : ∀ k : Nat, sm f k ≤ 6 * (k : Int) ∧ -(k : Int) ≤ sm f k
  | 0 => by
    show (0 : Int) ≤ _ ∧ _ ≤ (0 : Int)
    omega
  | k + 1 => by
    have := sm_le f k
    have := tk_R (f (k : Int))
    show sm f k + (tk (f (k : Int)) - 1) ≤ _ ∧ _ ≤ sm f k + (tk (f (k : Int)) - 1)
    omega
theorem kp_ends_loop (z : Value) (d : Nat) (p : Nat) (a q : Nat) (n : Int) (f : Int → Int) (hp : xx_H) (hT : KTL hp a q n f) (hW : WFT n f) (hp0 : (p : Int) < n) : ∀ (x : Nat) (o i : Int) (e t : Nat), n - t ≤ x → p ≤ t → (t : Int) ≤ n → o = sm f t - sm f p + 1 → 0 ≤ o → (∀ j : Nat, p ≤ j → j < t → sm f p ≤ sm f j) → SCN n f p e t → 0 ≤ i → i ≤ (t : Int) - p → (e : Int) ≤ t → xx_go (xt_P z) (d + 1) 288 10 [some (.ref a), some (.int (iI ((p : Int)))), some (.int (iI o)), some (.int (iI ((e : Int)))), some (.int (iI ((t : Int)))), some (.int (iI i))] [] hp (fun v h1 => (∃ E : Nat, v = some (.int (iI (E : Int))) ∧ SCN n f p E (bp n f p) ∧ (E : Int) ≤ n) ∧ h1 = hp) := by
  have b := hT.2.2.1
  have sp := hW.1 p hp0
  intro x
  induction x with
  | zero =>
    intro o i e t hx t0 t1 o1 o0 hj hS i0 i1 et
    have or : o ≤ 1000 := by
      have := sm_le f t
      omega
    refine go_a (pc' := 12) (ls' := [some (.ref a), some (.int (iI ((p : Int)))), some (.int (iI o)), some (.int (iI ((e : Int)))), some (.int (iI ((t : Int)))), some (.int (iI i))]) (st' := [.int (iI i)]) rfl rfl ?_
    refine go_a (pc' := 14) (ls' := [some (.ref a), some (.int (iI ((p : Int)))), some (.int (iI o)), some (.int (iI ((e : Int)))), some (.int (iI ((t : Int)))), some (.int (iI i))]) (st' := [.int (iI 120), .int (iI i)]) rfl rfl ?_
    refine mi_ge (t := 68) rfl rfl (by omega) (by omega) (by omega) (by omega) (fun w1 => ?_) (fun w1 => ?_)
    · have o9 : o = 0 := by
        (have q9 := hW.2; rw [show n.toNat = t by omega] at q9; omega)
      have ne : p ≠ t := by
        intro q
        rw [← q] at o1
        omega
      have u := bp_uq hW hp0 (e := t) (by omega) (by omega) hj
      refine go_a (pc' := 69) (ls' := [some (.ref a), some (.int (iI ((p : Int)))), some (.int (iI o)), some (.int (iI ((e : Int)))), some (.int (iI ((t : Int)))), some (.int (iI i))]) (st' := [.int (iI ((e : Int)))]) rfl rfl ?_
      rw [← u] at hS
      exact go_r rfl rfl rfl rfl rfl rfl ⟨⟨e, rfl, hS, by omega⟩, rfl⟩
    · refine go_a (pc' := 18) (ls' := [some (.ref a), some (.int (iI ((p : Int)))), some (.int (iI o)), some (.int (iI ((e : Int)))), some (.int (iI ((t : Int)))), some (.int (iI i))]) (st' := [.int (iI o)]) rfl rfl ?_
      refine mi_le0 (t := 68) rfl rfl (by omega) (by omega) (fun w2 => ?_) (fun w2 => absurd (show o ≤ 0 by have q9 := hW.2; rw [show n.toNat = t by omega] at q9; omega) w2)
      have o9 : o = 0 := by
        omega
      have ne : p ≠ t := by
        intro q
        rw [← q] at o1
        omega
      have u := bp_uq hW hp0 (e := t) (by omega) (by omega) hj
      refine go_a (pc' := 69) (ls' := [some (.ref a), some (.int (iI ((p : Int)))), some (.int (iI o)), some (.int (iI ((e : Int)))), some (.int (iI ((t : Int)))), some (.int (iI i))]) (st' := [.int (iI ((e : Int)))]) rfl rfl ?_
      rw [← u] at hS
      exact go_r rfl rfl rfl rfl rfl rfl ⟨⟨e, rfl, hS, by omega⟩, rfl⟩
  | succ x ih =>
    intro o i e t hx t0 t1 o1 o0 hj hS i0 i1 et
    have or : o ≤ 1000 := by
      have := sm_le f t
      omega
    refine go_a (pc' := 12) (ls' := [some (.ref a), some (.int (iI ((p : Int)))), some (.int (iI o)), some (.int (iI ((e : Int)))), some (.int (iI ((t : Int)))), some (.int (iI i))]) (st' := [.int (iI i)]) rfl rfl ?_
    refine go_a (pc' := 14) (ls' := [some (.ref a), some (.int (iI ((p : Int)))), some (.int (iI o)), some (.int (iI ((e : Int)))), some (.int (iI ((t : Int)))), some (.int (iI i))]) (st' := [.int (iI 120), .int (iI i)]) rfl rfl ?_
    refine mi_ge (t := 68) rfl rfl (by omega) (by omega) (by omega) (by omega) (fun w1 => ?_) (fun w1 => ?_)
    · have o9 : o = 0 := by
        (have q9 := hW.2; rw [show n.toNat = t by omega] at q9; omega)
      have ne : p ≠ t := by
        intro q
        rw [← q] at o1
        omega
      have u := bp_uq hW hp0 (e := t) (by omega) (by omega) hj
      refine go_a (pc' := 69) (ls' := [some (.ref a), some (.int (iI ((p : Int)))), some (.int (iI o)), some (.int (iI ((e : Int)))), some (.int (iI ((t : Int)))), some (.int (iI i))]) (st' := [.int (iI ((e : Int)))]) rfl rfl ?_
      rw [← u] at hS
      exact go_r rfl rfl rfl rfl rfl rfl ⟨⟨e, rfl, hS, by omega⟩, rfl⟩
    · refine go_a (pc' := 18) (ls' := [some (.ref a), some (.int (iI ((p : Int)))), some (.int (iI o)), some (.int (iI ((e : Int)))), some (.int (iI ((t : Int)))), some (.int (iI i))]) (st' := [.int (iI o)]) rfl rfl ?_
      refine mi_le0 (t := 68) rfl rfl (by omega) (by omega) (fun w2 => ?_) (fun w2 => ?_)
      · have o9 : o = 0 := by
          omega
        have ne : p ≠ t := by
          intro q
          rw [← q] at o1
          omega
        have u := bp_uq hW hp0 (e := t) (by omega) (by omega) hj
        refine go_a (pc' := 69) (ls' := [some (.ref a), some (.int (iI ((p : Int)))), some (.int (iI o)), some (.int (iI ((e : Int)))), some (.int (iI ((t : Int)))), some (.int (iI i))]) (st' := [.int (iI ((e : Int)))]) rfl rfl ?_
        rw [← u] at hS
        exact go_r rfl rfl rfl rfl rfl rfl ⟨⟨e, rfl, hS, by omega⟩, rfl⟩
      · have lt := WFT_lt hW (k := t) t1 (by omega)
        have t9 : tat n f (t : Int) = f (t : Int) := if_pos (by omega)
        have fr := hT.2.2.2 (t : Int)
        refine go_a (pc' := 22) (ls' := [some (.ref a), some (.int (iI ((p : Int)))), some (.int (iI o)), some (.int (iI ((e : Int)))), some (.int (iI ((t : Int)))), some (.int (iI i))]) (st' := [.ref a]) rfl rfl ?_
        refine go_a (pc' := 24) (ls' := [some (.ref a), some (.int (iI ((p : Int)))), some (.int (iI o)), some (.int (iI ((e : Int)))), some (.int (iI ((t : Int)))), some (.int (iI i))]) (st' := [.int (iI ((t : Int))), .ref a]) rfl rfl ?_
        refine go_v (m := 230) (as := [.ref a, .int (iI ((t : Int)))]) (r := []) rfl rfl rfl hT.1 rfl rfl (kg_at z d (t : Int) a q n f hp hT (by omega) (by omega)) (fun v h3 hq => ?_)
        obtain ⟨rfl, e9⟩ := hq
        rw [e9, t9]
        clear e9 h3
        show xx_go (xt_P z) (d + 1) 288 27 [some (.ref a), some (.int (iI ((p : Int)))), some (.int (iI o)), some (.int (iI ((e : Int)))), some (.int (iI ((t : Int)))), some (.int (iI i))] [.int (iI (f (t : Int)))] hp _
        refine go_a (pc' := 29) (ls' := [some (.ref a), some (.int (iI ((p : Int)))), some (.int (iI o)), some (.int (iI ((e : Int)))), some (.int (iI ((t : Int)))), some (.int (iI i))]) (st' := [.int (iI 110), .int (iI (f (t : Int)))]) rfl rfl ?_
        refine mi_ne (t := 48) rfl rfl (by omega) (by omega) (by omega) (by omega) (fun w3 => ?_) (fun w3 => ?_)
        · obtain ⟨r1, r2, r3, r4, r5⟩ := bp_W hW lt
          refine go_a (pc' := 49) (ls' := [some (.ref a), some (.int (iI ((p : Int)))), some (.int (iI o)), some (.int (iI ((e : Int)))), some (.int (iI ((t : Int)))), some (.int (iI i))]) (st' := [.ref a]) rfl rfl ?_
          refine go_a (pc' := 51) (ls' := [some (.ref a), some (.int (iI ((p : Int)))), some (.int (iI o)), some (.int (iI ((e : Int)))), some (.int (iI ((t : Int)))), some (.int (iI i))]) (st' := [.int (iI ((t : Int))), .ref a]) rfl rfl ?_
          refine go_v (m := 231) (as := [.ref a, .int (iI ((t : Int)))]) (r := []) rfl rfl rfl hT.1 rfl rfl (kg_behind z d (t : Int) a q n f hp hT (by omega) (by omega)) (fun v h3 hq => ?_)
          obtain ⟨rfl, e9⟩ := hq
          rw [e9, r1]
          clear e9 h3
          show xx_go (xt_P z) (d + 1) 288 54 [some (.ref a), some (.int (iI ((p : Int)))), some (.int (iI o)), some (.int (iI ((e : Int)))), some (.int (iI ((t : Int)))), some (.int (iI i))] [.int (iI ((bp n f t : Int)))] hp _
          refine go_a (pc' := 56) (ls' := [some (.ref a), some (.int (iI ((p : Int)))), some (.int (iI o)), some (.int (iI ((e : Int)))), some (.int (iI ((bp n f t : Int)))), some (.int (iI i))]) (st' := []) rfl rfl ?_
          refine go_a (pc' := 59) (ls' := [some (.ref a), some (.int (iI ((p : Int)))), some (.int (iI (o + (-1)))), some (.int (iI ((e : Int)))), some (.int (iI ((bp n f t : Int)))), some (.int (iI i))]) (st' := []) rfl (by rw [← iI_add o (-1)]; rfl) ?_
          refine go_a (pc' := 62) (ls' := [some (.ref a), some (.int (iI ((p : Int)))), some (.int (iI (o + (-1)))), some (.int (iI (((e : Int)) + 1))), some (.int (iI ((bp n f t : Int)))), some (.int (iI i))]) (st' := []) rfl (by rw [← iI_add ((e : Int)) 1]; rfl) ?_
          refine go_a (pc' := 65) (ls' := [some (.ref a), some (.int (iI ((p : Int)))), some (.int (iI (o + (-1)))), some (.int (iI (((e : Int)) + 1))), some (.int (iI ((bp n f t : Int)))), some (.int (iI (i + 1)))]) (st' := []) rfl (by rw [← iI_add i 1]; rfl) ?_
          refine go_a (pc' := 10) (ls' := [some (.ref a), some (.int (iI ((p : Int)))), some (.int (iI (o + (-1)))), some (.int (iI (((e : Int)) + 1))), some (.int (iI ((bp n f t : Int)))), some (.int (iI (i + 1)))]) (st' := []) rfl rfl ?_
          rw [show (e : Int) + 1 = ((e + 1 : Nat) : Int) by omega]
          refine ih (o + (-1)) (i + 1) (e + 1) (bp n f t) (by omega) (by omega) r3 (by omega) (by omega) (fun j j0 j1 => ?_) (SCN_tr hS (SCN.fin t 0 _ lt w3 (SCN.nil _))) (by omega) (by omega) (by omega)
          by_cases c : j < t
          · exact hj j j0 c
          · have := r5 j (by omega) j1
            omega
        · have w4 : f (t : Int) = 110 := by omega
          obtain ⟨a1, a2, a3, a4, a5, a6, a7⟩ := bp_if hW lt w4
          obtain ⟨r1, r2, r3, r4, r5⟩ := bp_W hW a1
          have e1 : sm f (t + 1) = sm f t + 2 := by
            show sm f t + (tk (f (t : Int)) - 1) = _
            rw [w4]
            have : tk 110 = 3 := by decide
            omega
          refine go_a (pc' := 33) (ls' := [some (.ref a), some (.int (iI ((p : Int)))), some (.int (iI o)), some (.int (iI ((e : Int)))), some (.int (iI ((t : Int)))), some (.int (iI i))]) (st' := [.ref a]) rfl rfl ?_
          refine go_a (pc' := 35) (ls' := [some (.ref a), some (.int (iI ((p : Int)))), some (.int (iI o)), some (.int (iI ((e : Int)))), some (.int (iI ((t : Int)))), some (.int (iI i))]) (st' := [.int (iI ((t : Int))), .ref a]) rfl rfl ?_
          refine go_a (pc' := 36) (ls' := [some (.ref a), some (.int (iI ((p : Int)))), some (.int (iI o)), some (.int (iI ((e : Int)))), some (.int (iI ((t : Int)))), some (.int (iI i))]) (st' := [.int (iI 1), .int (iI ((t : Int))), .ref a]) rfl rfl ?_
          refine mi_add rfl ?_
          rw [show (t : Int) + 1 = ((t + 1 : Nat) : Int) by omega]
          refine go_v (m := 231) (as := [.ref a, .int (iI (((t + 1 : Nat) : Int)))]) (r := []) rfl rfl rfl hT.1 rfl rfl (kg_behind z d ((t + 1 : Nat) : Int) a q n f hp hT (by omega) (by omega)) (fun v h3 hq => ?_)
          obtain ⟨rfl, e9⟩ := hq
          rw [e9, r1]
          clear e9 h3
          show xx_go (xt_P z) (d + 1) 288 40 [some (.ref a), some (.int (iI ((p : Int)))), some (.int (iI o)), some (.int (iI ((e : Int)))), some (.int (iI ((t : Int)))), some (.int (iI i))] [.int (iI ((bp n f (t + 1) : Int)))] hp _
          refine go_a (pc' := 42) (ls' := [some (.ref a), some (.int (iI ((p : Int)))), some (.int (iI o)), some (.int (iI ((e : Int)))), some (.int (iI ((bp n f (t + 1) : Int)))), some (.int (iI i))]) (st' := []) rfl rfl ?_
          refine go_a (pc' := 45) (ls' := [some (.ref a), some (.int (iI ((p : Int)))), some (.int (iI (o + 1))), some (.int (iI ((e : Int)))), some (.int (iI ((bp n f (t + 1) : Int)))), some (.int (iI i))]) (st' := []) rfl (by rw [← iI_add o 1]; rfl) ?_
          refine go_a (pc' := 62) (ls' := [some (.ref a), some (.int (iI ((p : Int)))), some (.int (iI (o + 1))), some (.int (iI ((e : Int)))), some (.int (iI ((bp n f (t + 1) : Int)))), some (.int (iI i))]) (st' := []) rfl rfl ?_
          refine go_a (pc' := 65) (ls' := [some (.ref a), some (.int (iI ((p : Int)))), some (.int (iI (o + 1))), some (.int (iI ((e : Int)))), some (.int (iI ((bp n f (t + 1) : Int)))), some (.int (iI (i + 1)))]) (st' := []) rfl (by rw [← iI_add i 1]; rfl) ?_
          refine go_a (pc' := 10) (ls' := [some (.ref a), some (.int (iI ((p : Int)))), some (.int (iI (o + 1))), some (.int (iI ((e : Int)))), some (.int (iI ((bp n f (t + 1) : Int)))), some (.int (iI (i + 1)))]) (st' := []) rfl rfl ?_
          refine ih (o + 1) (i + 1) e (bp n f (t + 1)) (by omega) (by omega) (by omega) (by omega) (by omega) (fun j j0 j1 => ?_) (SCN_tr hS (SCN.iff t 0 _ lt w4 (SCN.nil _))) (by omega) (by omega) (by omega)
          by_cases c : j < t
          · exact hj j j0 c
          · by_cases c2 : j = t
            · rw [c2]
              omega
            · have := r5 j (by omega) j1
              omega
theorem kp_ends (z : Value) (d : Nat) (p : Nat) (a q : Nat) (n : Int) (f : Int → Int) (hp : xx_H) (hT : KTL hp a q n f) (hW : WFT n f) (hp0 : (p : Int) < n) : xx_cl (xt_P z) (d + 2) 288 [.ref a, .int (iI (p : Int))] hp (fun v h1 => (∃ E : Nat, v = some (.int (iI (E : Int))) ∧ SCN n f p E (bp n f p) ∧ (E : Int) ≤ n) ∧ h1 = hp) := by
  have b := hT.2.2.1
  refine cl_go rfl ?_
  show xx_go (xt_P z) (d + 1) 288 0 [some (.ref a), some (.int (iI ((p : Int)))), none, none, none, none] [] hp _
  refine go_a (pc' := 1) (ls' := [some (.ref a), some (.int (iI ((p : Int)))), none, none, none, none]) (st' := [.int (iI 1)]) rfl rfl ?_
  refine go_a (pc' := 2) (ls' := [some (.ref a), some (.int (iI ((p : Int)))), some (.int (iI 1)), none, none, none]) (st' := []) rfl rfl ?_
  refine go_a (pc' := 3) (ls' := [some (.ref a), some (.int (iI ((p : Int)))), some (.int (iI 1)), none, none, none]) (st' := [.int (iI 0)]) rfl rfl ?_
  refine go_a (pc' := 4) (ls' := [some (.ref a), some (.int (iI ((p : Int)))), some (.int (iI 1)), some (.int (iI 0)), none, none]) (st' := []) rfl rfl ?_
  refine go_a (pc' := 5) (ls' := [some (.ref a), some (.int (iI ((p : Int)))), some (.int (iI 1)), some (.int (iI 0)), none, none]) (st' := [.int (iI ((p : Int)))]) rfl rfl ?_
  refine go_a (pc' := 7) (ls' := [some (.ref a), some (.int (iI ((p : Int)))), some (.int (iI 1)), some (.int (iI 0)), some (.int (iI ((p : Int)))), none]) (st' := []) rfl rfl ?_
  refine go_a (pc' := 8) (ls' := [some (.ref a), some (.int (iI ((p : Int)))), some (.int (iI 1)), some (.int (iI 0)), some (.int (iI ((p : Int)))), none]) (st' := [.int (iI 0)]) rfl rfl ?_
  refine go_a (pc' := 10) (ls' := [some (.ref a), some (.int (iI ((p : Int)))), some (.int (iI 1)), some (.int (iI 0)), some (.int (iI ((p : Int)))), some (.int (iI 0))]) (st' := []) rfl rfl ?_
  exact kp_ends_loop z d p a q n f hp hT hW hp0 _ 1 0 0 p (show n - p ≤ (n.toNat : Int) by omega) (Nat.le_refl _) (by omega) (by omega) (by decide) (fun j j0 j1 => absurd j1 (by omega)) (SCN.nil _) (by decide) (by omega) (by omega)
def LAW1 (n : Int) (f : Int → Int) (x : Int) (T : Nat) : Prop := ∀ e t : Nat, SCN n f 0 e t → t < T → f (t : Int) = 110 → ∀ j : Int, (t : Int) < j → j < bh n f ((t + 1 : Nat) : Int) → f j ≠ x
theorem LAW1_st {n : Int} {f : Int → Int} {x : Int} (hW : WFT n f) {e t t2 : Nat} (lt : (t : Int) < n) (h : SCN n f 0 e t) (L : LAW1 n f x t) (h2 : (f (t : Int) = 110 ∧ t2 = bp n f (t + 1)) ∨ (f (t : Int) ≠ 110 ∧ t2 = bp n f t)) (q : f (t : Int) = 110 → ∀ j : Int, (t : Int) < j → j < bh n f ((t + 1 : Nat) : Int) → f j ≠ x) : LAW1 n f x t2 := by
  intro e1 t1 s1 l1 i1
  by_cases c : t1 < t
  · exact L e1 t1 s1 c i1
  · have u := SCN_sub hW h s1 (by omega)
    have et : t1 = t := by
      rcases SCN_inv u.2 with ⟨-, e⟩ | ⟨w1, w2, w3⟩ | ⟨c1, -, w1, w2, w3⟩
      · exact e
      · have := (SCN_le hW w3).1
        rcases h2 with h2 | h2
        · omega
        · exact absurd w2 h2.1
      · have := (SCN_le hW w3).1
        rcases h2 with h2 | h2
        · exact absurd h2.1 w2
        · omega
    rw [et] at i1 ⊢
    exact q i1
def LAWF (n : Int) (f : Int → Int) (x : Int) : Prop := LAW n f x ∧ LAW1 n f x n.toNat
theorem kp_law2 (z : Value) (d : Nat) (x : Int) (x0 : 0 ≤ x) (x1 : x ≤ 2147483647) (a q : Nat) (n : Int) (f : Int → Int) (hp : xx_H) (hT : KTL hp a q n f) (hW : WFT n f) (hL1 : LAW1 n f x n.toNat) : ∀ (m k : Nat) (t : Int) (y4 y5 : Option Value), n - k ≤ m → (k : Int) ≤ n → (∀ i : Nat, i < k → f (i : Int) = x → ∀ j : Int, (i : Int) < j → j < bh n f (i : Int) → f j ≠ x) → xx_go (xt_P z) (d + 2) 228 82 [some (.ref a), some (.int (iI x)), some (.int (iI t)), some (.int (iI ((k : Int)))), y4, y5] [] hp (fun v h1 => ((v = some (.int (iI 1)) ∧ LAW n f x ∧ LAW1 n f x n.toNat) ∨ (v = some (.int (iI 0)) ∧ ¬ (LAW n f x ∧ LAW1 n f x n.toNat))) ∧ h1 = hp) := by
  have b := hT.2.2.1
  intro m
  induction m with
  | zero =>
    intro k t y4 y5 hm k1 hk
    refine go_a (pc' := 83) (ls' := [some (.ref a), some (.int (iI x)), some (.int (iI t)), some (.int (iI ((k : Int)))), y4, y5]) (st' := [.int (iI ((k : Int)))]) rfl rfl ?_
    refine go_a (pc' := 84) (ls' := [some (.ref a), some (.int (iI x)), some (.int (iI t)), some (.int (iI ((k : Int)))), y4, y5]) (st' := [.ref a, .int (iI ((k : Int)))]) rfl rfl ?_
    refine go_v (m := 229) (as := [.ref a]) (r := [.int (iI ((k : Int)))]) rfl rfl rfl hT.1 rfl rfl (kg_length z (d + 1) a q n f hp hT) (fun v h3 hq => ?_)
    obtain ⟨rfl, e⟩ := hq
    rw [e]
    clear e h3
    show xx_go (xt_P z) (d + 2) 228 87 [some (.ref a), some (.int (iI x)), some (.int (iI t)), some (.int (iI ((k : Int)))), y4, y5] [.int (iI n), .int (iI ((k : Int)))] hp _
    refine mi_ge (t := 123) rfl rfl (by omega) (by omega) (by omega) (by omega) (fun _ => ?_) (fun w => absurd (show (k : Int) ≥ n by omega) w)
    refine go_a (pc' := 124) (ls' := [some (.ref a), some (.int (iI x)), some (.int (iI t)), some (.int (iI ((k : Int)))), y4, y5]) (st' := [.int (iI 1)]) rfl rfl ?_
    exact go_r rfl rfl rfl rfl rfl rfl ⟨Or.inl ⟨rfl, fun i i0 => hk i (by omega), hL1⟩, rfl⟩
  | succ m ih =>
    intro k t y4 y5 hm k1 hk
    refine go_a (pc' := 83) (ls' := [some (.ref a), some (.int (iI x)), some (.int (iI t)), some (.int (iI ((k : Int)))), y4, y5]) (st' := [.int (iI ((k : Int)))]) rfl rfl ?_
    refine go_a (pc' := 84) (ls' := [some (.ref a), some (.int (iI x)), some (.int (iI t)), some (.int (iI ((k : Int)))), y4, y5]) (st' := [.ref a, .int (iI ((k : Int)))]) rfl rfl ?_
    refine go_v (m := 229) (as := [.ref a]) (r := [.int (iI ((k : Int)))]) rfl rfl rfl hT.1 rfl rfl (kg_length z (d + 1) a q n f hp hT) (fun v h3 hq => ?_)
    obtain ⟨rfl, e⟩ := hq
    rw [e]
    clear e h3
    show xx_go (xt_P z) (d + 2) 228 87 [some (.ref a), some (.int (iI x)), some (.int (iI t)), some (.int (iI ((k : Int)))), y4, y5] [.int (iI n), .int (iI ((k : Int)))] hp _
    refine mi_ge (t := 123) rfl rfl (by omega) (by omega) (by omega) (by omega) (fun w1 => ?_) (fun w1 => ?_)
    · refine go_a (pc' := 124) (ls' := [some (.ref a), some (.int (iI x)), some (.int (iI t)), some (.int (iI ((k : Int)))), y4, y5]) (st' := [.int (iI 1)]) rfl rfl ?_
      exact go_r rfl rfl rfl rfl rfl rfl ⟨Or.inl ⟨rfl, fun i i0 => hk i (by omega), hL1⟩, rfl⟩
    · have lt : (k : Int) < n := by omega
      have t9 : tat n f (k : Int) = f (k : Int) := if_pos (by omega)
      have fr := hT.2.2.2 (k : Int)
      obtain ⟨r1, r2, r3, r4, r5⟩ := bp_W hW lt
      refine go_a (pc' := 91) (ls' := [some (.ref a), some (.int (iI x)), some (.int (iI t)), some (.int (iI ((k : Int)))), y4, y5]) (st' := [.ref a]) rfl rfl ?_
      refine go_a (pc' := 92) (ls' := [some (.ref a), some (.int (iI x)), some (.int (iI t)), some (.int (iI ((k : Int)))), y4, y5]) (st' := [.int (iI ((k : Int))), .ref a]) rfl rfl ?_
      refine go_v (m := 230) (as := [.ref a, .int (iI ((k : Int)))]) (r := []) rfl rfl rfl hT.1 rfl rfl (kg_at z (d + 1) (k : Int) a q n f hp hT (by omega) (by omega)) (fun v h3 hq => ?_)
      obtain ⟨rfl, e9⟩ := hq
      rw [e9, t9]
      clear e9 h3
      show xx_go (xt_P z) (d + 2) 228 95 [some (.ref a), some (.int (iI x)), some (.int (iI t)), some (.int (iI ((k : Int)))), y4, y5] [.int (iI (f (k : Int)))] hp _
      refine go_a (pc' := 96) (ls' := [some (.ref a), some (.int (iI x)), some (.int (iI t)), some (.int (iI ((k : Int)))), y4, y5]) (st' := [.int (iI x), .int (iI (f (k : Int)))]) rfl rfl ?_
      have nxt : (f (k : Int) = x → ∀ j : Int, (k : Int) < j → j < bh n f (k : Int) → f j ≠ x) → xx_go (xt_P z) (d + 2) 228 117 [some (.ref a), some (.int (iI x)), some (.int (iI t)), some (.int (iI ((k : Int)))), y4, y5] [] hp (fun v h1 => ((v = some (.int (iI 1)) ∧ LAW n f x ∧ LAW1 n f x n.toNat) ∨ (v = some (.int (iI 0)) ∧ ¬ (LAW n f x ∧ LAW1 n f x n.toNat))) ∧ h1 = hp) := by
        intro hk2
        refine go_a (pc' := 120) (ls' := [some (.ref a), some (.int (iI x)), some (.int (iI t)), some (.int (iI (((k : Int)) + 1))), y4, y5]) (st' := []) rfl (by rw [← iI_add ((k : Int)) 1]; rfl) ?_
        refine go_a (pc' := 82) (ls' := [some (.ref a), some (.int (iI x)), some (.int (iI t)), some (.int (iI (((k : Int)) + 1))), y4, y5]) (st' := []) rfl rfl ?_
        rw [show (k : Int) + 1 = ((k + 1 : Nat) : Int) by omega]
        refine ih (k + 1) _ _ _ (by omega) (by omega) (fun i i0 => ?_)
        by_cases ci : i < k
        · exact hk i ci
        · rw [show i = k by omega]
          exact hk2
      refine mi_ne (t := 117) rfl rfl (by omega) (by omega) (by omega) (by omega) (fun w2 => nxt (fun q => absurd q w2)) (fun w2 => ?_)
      refine go_a (pc' := 100) (ls' := [some (.ref a), some (.int (iI x)), some (.int (iI t)), some (.int (iI ((k : Int)))), y4, y5]) (st' := [.ref a]) rfl rfl ?_
      refine go_a (pc' := 101) (ls' := [some (.ref a), some (.int (iI x)), some (.int (iI t)), some (.int (iI ((k : Int)))), y4, y5]) (st' := [.int (iI x), .ref a]) rfl rfl ?_
      refine go_a (pc' := 102) (ls' := [some (.ref a), some (.int (iI x)), some (.int (iI t)), some (.int (iI ((k : Int)))), y4, y5]) (st' := [.int (iI ((k : Int))), .int (iI x), .ref a]) rfl rfl ?_
      refine go_a (pc' := 103) (ls' := [some (.ref a), some (.int (iI x)), some (.int (iI t)), some (.int (iI ((k : Int)))), y4, y5]) (st' := [.int (iI 1), .int (iI ((k : Int))), .int (iI x), .ref a]) rfl rfl ?_
      refine mi_add rfl ?_
      refine go_a (pc' := 105) (ls' := [some (.ref a), some (.int (iI x)), some (.int (iI t)), some (.int (iI ((k : Int)))), y4, y5]) (st' := [.ref a, .int (iI (((k : Int)) + 1)), .int (iI x), .ref a]) rfl rfl ?_
      refine go_a (pc' := 106) (ls' := [some (.ref a), some (.int (iI x)), some (.int (iI t)), some (.int (iI ((k : Int)))), y4, y5]) (st' := [.int (iI ((k : Int))), .ref a, .int (iI (((k : Int)) + 1)), .int (iI x), .ref a]) rfl rfl ?_
      refine go_v (m := 231) (as := [.ref a, .int (iI ((k : Int)))]) (r := [.int (iI (((k : Int)) + 1)), .int (iI x), .ref a]) rfl rfl rfl hT.1 rfl rfl (kg_behind z (d + 1) (k : Int) a q n f hp hT (by omega) (by omega)) (fun v h3 hq => ?_)
      obtain ⟨rfl, e9⟩ := hq
      rw [e9]
      clear e9 h3
      show xx_go (xt_P z) (d + 2) 228 109 [some (.ref a), some (.int (iI x)), some (.int (iI t)), some (.int (iI ((k : Int)))), y4, y5] [.int (iI (bh n f (k : Int))), .int (iI (((k : Int)) + 1)), .int (iI x), .ref a] hp _
      refine go_v (m := 232) (as := [.ref a, .int (iI x), .int (iI (((k : Int)) + 1)), .int (iI (bh n f (k : Int)))]) (r := []) rfl rfl rfl hT.1 rfl rfl (kg_has z d x ((k : Int) + 1) (bh n f (k : Int)) a q n f hp hT (by omega) x1 (by omega) (by omega) (by omega) (by omega)) (fun v h3 hq => ?_)
      obtain ⟨hq, e9⟩ := hq
      rw [e9]
      clear e9 h3
      rcases hq with ⟨rfl, h9⟩ | ⟨rfl, h9⟩
      · show xx_go (xt_P z) (d + 2) 228 112 [some (.ref a), some (.int (iI x)), some (.int (iI t)), some (.int (iI ((k : Int)))), y4, y5] [.int (iI 1)] hp _
        refine mi_eq0 (t := 117) rfl rfl (by omega) (by omega) (fun q => absurd q (by decide)) (fun _ => ?_)
        refine go_a (pc' := 116) (ls' := [some (.ref a), some (.int (iI x)), some (.int (iI t)), some (.int (iI ((k : Int)))), y4, y5]) (st' := [.int (iI 0)]) rfl rfl ?_
        obtain ⟨j9, j0, j1, j2⟩ := h9
        rw [tat_in (by omega) (by omega)] at j2
        exact go_r rfl rfl rfl rfl rfl rfl ⟨Or.inr ⟨rfl, fun q => q.1 k lt (by omega) j9 (by omega) j1 j2⟩, rfl⟩
      · show xx_go (xt_P z) (d + 2) 228 112 [some (.ref a), some (.int (iI x)), some (.int (iI t)), some (.int (iI ((k : Int)))), y4, y5] [.int (iI 0)] hp _
        refine mi_eq0 (t := 117) rfl rfl (by omega) (by omega) (fun _ => nxt (fun _ j j0 j1 => ?_)) (fun q => absurd rfl q)
        have := h9 j (by omega) j1
        rw [tat_in (by omega) (by omega)] at this
        exact this
theorem kp_law1 (z : Value) (d : Nat) (x : Int) (x0 : 0 ≤ x) (x1 : x ≤ 2147483647) (a q : Nat) (n : Int) (f : Int → Int) (hp : xx_H) (hT : KTL hp a q n f) (hW : WFT n f) : ∀ (m : Nat) (t : Nat) (i : Int) (y4 y5 : Option Value), (120 - i).toNat ≤ m → 0 ≤ i → i ≤ 120 → i ≤ t → (t : Int) ≤ n → (∃ e : Nat, SCN n f 0 e t) → LAW1 n f x t → xx_go (xt_P z) (d + 2) 228 4 [some (.ref a), some (.int (iI x)), some (.int (iI ((t : Int)))), some (.int (iI i)), y4, y5] [] hp (fun v h1 => ((v = some (.int (iI 1)) ∧ LAW n f x ∧ LAW1 n f x n.toNat) ∨ (v = some (.int (iI 0)) ∧ ¬ (LAW n f x ∧ LAW1 n f x n.toNat))) ∧ h1 = hp) := by
  have b := hT.2.2.1
  intro m
  induction m with
  | zero =>
    intro t i y4 y5 hm i0 i1 it t1 hE hL
    obtain ⟨e0, hS⟩ := hE
    refine go_a (pc' := 5) (ls' := [some (.ref a), some (.int (iI x)), some (.int (iI ((t : Int)))), some (.int (iI i)), y4, y5]) (st' := [.int (iI i)]) rfl rfl ?_
    refine go_a (pc' := 7) (ls' := [some (.ref a), some (.int (iI x)), some (.int (iI ((t : Int)))), some (.int (iI i)), y4, y5]) (st' := [.int (iI 120), .int (iI i)]) rfl rfl ?_
    refine mi_ge (t := 80) rfl rfl (by omega) (by omega) (by omega) (by omega) (fun _ => ?_) (fun w => absurd (show i ≥ 120 by omega) w)
    have L9 : LAW1 n f x n.toNat := by
      rw [show n.toNat = t by omega]
      exact hL
    refine go_a (pc' := 81) (ls' := [some (.ref a), some (.int (iI x)), some (.int (iI ((t : Int)))), some (.int (iI i)), y4, y5]) (st' := [.int (iI 0)]) rfl rfl ?_
    refine go_a (pc' := 82) (ls' := [some (.ref a), some (.int (iI x)), some (.int (iI ((t : Int)))), some (.int (iI 0)), y4, y5]) (st' := []) rfl rfl ?_
    exact kp_law2 z d x x0 x1 a q n f hp hT hW L9 n.toNat 0 _ _ _ (by omega) (by omega) (fun i i0 => absurd i0 (by omega))
  | succ m ih =>
    intro t i y4 y5 hm i0 i1 it t1 hE hL
    obtain ⟨e0, hS⟩ := hE
    refine go_a (pc' := 5) (ls' := [some (.ref a), some (.int (iI x)), some (.int (iI ((t : Int)))), some (.int (iI i)), y4, y5]) (st' := [.int (iI i)]) rfl rfl ?_
    refine go_a (pc' := 7) (ls' := [some (.ref a), some (.int (iI x)), some (.int (iI ((t : Int)))), some (.int (iI i)), y4, y5]) (st' := [.int (iI 120), .int (iI i)]) rfl rfl ?_
    refine mi_ge (t := 80) rfl rfl (by omega) (by omega) (by omega) (by omega) (fun w1 => ?_) (fun w1 => ?_)
    · have L9 : LAW1 n f x n.toNat := by
        rw [show n.toNat = t by omega]
        exact hL
      refine go_a (pc' := 81) (ls' := [some (.ref a), some (.int (iI x)), some (.int (iI ((t : Int)))), some (.int (iI i)), y4, y5]) (st' := [.int (iI 0)]) rfl rfl ?_
      refine go_a (pc' := 82) (ls' := [some (.ref a), some (.int (iI x)), some (.int (iI ((t : Int)))), some (.int (iI 0)), y4, y5]) (st' := []) rfl rfl ?_
      exact kp_law2 z d x x0 x1 a q n f hp hT hW L9 n.toNat 0 _ _ _ (by omega) (by omega) (fun i i0 => absurd i0 (by omega))
    · refine go_a (pc' := 11) (ls' := [some (.ref a), some (.int (iI x)), some (.int (iI ((t : Int)))), some (.int (iI i)), y4, y5]) (st' := [.int (iI ((t : Int)))]) rfl rfl ?_
      refine go_a (pc' := 12) (ls' := [some (.ref a), some (.int (iI x)), some (.int (iI ((t : Int)))), some (.int (iI i)), y4, y5]) (st' := [.ref a, .int (iI ((t : Int)))]) rfl rfl ?_
      refine go_v (m := 229) (as := [.ref a]) (r := [.int (iI ((t : Int)))]) rfl rfl rfl hT.1 rfl rfl (kg_length z (d + 1) a q n f hp hT) (fun v h3 hq => ?_)
      obtain ⟨rfl, e⟩ := hq
      rw [e]
      clear e h3
      show xx_go (xt_P z) (d + 2) 228 15 [some (.ref a), some (.int (iI x)), some (.int (iI ((t : Int)))), some (.int (iI i)), y4, y5] [.int (iI n), .int (iI ((t : Int)))] hp _
      refine mi_ge (t := 80) rfl rfl (by omega) (by omega) (by omega) (by omega) (fun w2 => ?_) (fun w2 => ?_)
      · have L9 : LAW1 n f x n.toNat := by
          rw [show n.toNat = t by omega]
          exact hL
        refine go_a (pc' := 81) (ls' := [some (.ref a), some (.int (iI x)), some (.int (iI ((t : Int)))), some (.int (iI i)), y4, y5]) (st' := [.int (iI 0)]) rfl rfl ?_
        refine go_a (pc' := 82) (ls' := [some (.ref a), some (.int (iI x)), some (.int (iI ((t : Int)))), some (.int (iI 0)), y4, y5]) (st' := []) rfl rfl ?_
        exact kp_law2 z d x x0 x1 a q n f hp hT hW L9 n.toNat 0 _ _ _ (by omega) (by omega) (fun i i0 => absurd i0 (by omega))
      · have tr := tat_R (n := n) hT.2.2.2 (t : Int)
        have lt : (t : Int) < n := by omega
        have t9 : tat n f (t : Int) = f (t : Int) := if_pos (by omega)
        refine go_a (pc' := 19) (ls' := [some (.ref a), some (.int (iI x)), some (.int (iI ((t : Int)))), some (.int (iI i)), y4, y5]) (st' := [.ref a]) rfl rfl ?_
        refine go_a (pc' := 20) (ls' := [some (.ref a), some (.int (iI x)), some (.int (iI ((t : Int)))), some (.int (iI i)), y4, y5]) (st' := [.int (iI ((t : Int))), .ref a]) rfl rfl ?_
        refine go_v (m := 230) (as := [.ref a, .int (iI ((t : Int)))]) (r := []) rfl rfl rfl hT.1 rfl rfl (kg_at z (d + 1) (t : Int) a q n f hp hT (by omega) (by omega)) (fun v h3 hq => ?_)
        obtain ⟨rfl, e9⟩ := hq
        rw [e9, t9]
        rw [t9] at tr
        clear e9 h3
        show xx_go (xt_P z) (d + 2) 228 23 [some (.ref a), some (.int (iI x)), some (.int (iI ((t : Int)))), some (.int (iI i)), y4, y5] [.int (iI (f (t : Int)))] hp _
        refine go_a (pc' := 25) (ls' := [some (.ref a), some (.int (iI x)), some (.int (iI ((t : Int)))), some (.int (iI i)), y4, y5]) (st' := [.int (iI 110), .int (iI (f (t : Int)))]) rfl rfl ?_
        refine mi_ne (t := 32) rfl rfl (by omega) (by omega) (by omega) (by omega) (fun w3 => ?_) (fun w3 => ?_)
        · obtain ⟨r1, r2, r3, r4, r5⟩ := bp_W hW lt
          refine go_a (pc' := 33) (ls' := [some (.ref a), some (.int (iI x)), some (.int (iI ((t : Int)))), some (.int (iI i)), y4, y5]) (st' := [.int (iI 0)]) rfl rfl ?_
          refine go_a (pc' := 35) (ls' := [some (.ref a), some (.int (iI x)), some (.int (iI ((t : Int)))), some (.int (iI i)), some (.int (iI 0)), y5]) (st' := []) rfl rfl ?_
          refine go_a (pc' := 37) (ls' := [some (.ref a), some (.int (iI x)), some (.int (iI ((t : Int)))), some (.int (iI i)), some (.int (iI 0)), y5]) (st' := [.int (iI 0)]) rfl rfl ?_
          refine mi_eq0 (t := 46) rfl rfl (by omega) (by omega) (fun _ => ?_) (fun q => absurd rfl q)
          refine go_a (pc' := 47) (ls' := [some (.ref a), some (.int (iI x)), some (.int (iI ((t : Int)))), some (.int (iI i)), some (.int (iI 0)), y5]) (st' := [.int (iI ((t : Int)))]) rfl rfl ?_
          refine go_a (pc' := 49) (ls' := [some (.ref a), some (.int (iI x)), some (.int (iI ((t : Int)))), some (.int (iI i)), some (.int (iI 0)), some (.int (iI ((t : Int))))]) (st' := []) rfl rfl ?_
          refine go_a (pc' := 50) (ls' := [some (.ref a), some (.int (iI x)), some (.int (iI ((t : Int)))), some (.int (iI i)), some (.int (iI 0)), some (.int (iI ((t : Int))))]) (st' := [.ref a]) rfl rfl ?_
          refine go_a (pc' := 52) (ls' := [some (.ref a), some (.int (iI x)), some (.int (iI ((t : Int)))), some (.int (iI i)), some (.int (iI 0)), some (.int (iI ((t : Int))))]) (st' := [.int (iI ((t : Int))), .ref a]) rfl rfl ?_
          refine go_v (m := 231) (as := [.ref a, .int (iI ((t : Int)))]) (r := []) rfl rfl rfl hT.1 rfl rfl (kg_behind z (d + 1) (t : Int) a q n f hp hT (by omega) (by omega)) (fun v h3 hq => ?_)
          obtain ⟨rfl, e9⟩ := hq
          rw [e9, r1]
          clear e9 h3
          show xx_go (xt_P z) (d + 2) 228 55 [some (.ref a), some (.int (iI x)), some (.int (iI ((t : Int)))), some (.int (iI i)), some (.int (iI 0)), some (.int (iI ((t : Int))))] [.int (iI ((bp n f t : Int)))] hp _
          refine go_a (pc' := 56) (ls' := [some (.ref a), some (.int (iI x)), some (.int (iI ((bp n f t : Int)))), some (.int (iI i)), some (.int (iI 0)), some (.int (iI ((t : Int))))]) (st' := []) rfl rfl ?_
          refine go_a (pc' := 58) (ls' := [some (.ref a), some (.int (iI x)), some (.int (iI ((bp n f t : Int)))), some (.int (iI i)), some (.int (iI 0)), some (.int (iI ((t : Int))))]) (st' := [.int (iI 0)]) rfl rfl ?_
          refine mi_eq0 (t := 74) rfl rfl (by omega) (by omega) (fun _ => ?_) (fun q => absurd rfl q)
          refine go_a (pc' := 77) (ls' := [some (.ref a), some (.int (iI x)), some (.int (iI ((bp n f t : Int)))), some (.int (iI (i + 1))), some (.int (iI 0)), some (.int (iI ((t : Int))))]) (st' := []) rfl (by rw [← iI_add i 1]; rfl) ?_
          refine go_a (pc' := 4) (ls' := [some (.ref a), some (.int (iI x)), some (.int (iI ((bp n f t : Int)))), some (.int (iI (i + 1))), some (.int (iI 0)), some (.int (iI ((t : Int))))]) (st' := []) rfl rfl ?_
          exact ih (bp n f t) (i + 1) _ _ (by omega) (by omega) (by omega) (by omega) r3 ⟨_, SCN_tr hS (SCN.fin t 0 _ lt w3 (SCN.nil _))⟩ (LAW1_st hW lt hS hL (Or.inr ⟨w3, rfl⟩) (fun q => absurd q w3))
        · have w4 : f (t : Int) = 110 := by omega
          obtain ⟨a1, a2, a3, a4, a5, a6, a7⟩ := bp_if hW lt w4
          obtain ⟨r1, r2, r3, r4, r5⟩ := bp_W hW a1
          refine go_a (pc' := 29) (ls' := [some (.ref a), some (.int (iI x)), some (.int (iI ((t : Int)))), some (.int (iI i)), y4, y5]) (st' := [.int (iI 1)]) rfl rfl ?_
          refine go_a (pc' := 33) (ls' := [some (.ref a), some (.int (iI x)), some (.int (iI ((t : Int)))), some (.int (iI i)), y4, y5]) (st' := [.int (iI 1)]) rfl rfl ?_
          refine go_a (pc' := 35) (ls' := [some (.ref a), some (.int (iI x)), some (.int (iI ((t : Int)))), some (.int (iI i)), some (.int (iI 1)), y5]) (st' := []) rfl rfl ?_
          refine go_a (pc' := 37) (ls' := [some (.ref a), some (.int (iI x)), some (.int (iI ((t : Int)))), some (.int (iI i)), some (.int (iI 1)), y5]) (st' := [.int (iI 1)]) rfl rfl ?_
          refine mi_eq0 (t := 46) rfl rfl (by omega) (by omega) (fun q => absurd q (by decide)) (fun _ => ?_)
          refine go_a (pc' := 41) (ls' := [some (.ref a), some (.int (iI x)), some (.int (iI ((t : Int)))), some (.int (iI i)), some (.int (iI 1)), y5]) (st' := [.int (iI ((t : Int)))]) rfl rfl ?_
          refine go_a (pc' := 42) (ls' := [some (.ref a), some (.int (iI x)), some (.int (iI ((t : Int)))), some (.int (iI i)), some (.int (iI 1)), y5]) (st' := [.int (iI 1), .int (iI ((t : Int)))]) rfl rfl ?_
          refine mi_add rfl ?_
          refine go_a (pc' := 47) (ls' := [some (.ref a), some (.int (iI x)), some (.int (iI ((t : Int)))), some (.int (iI i)), some (.int (iI 1)), y5]) (st' := [.int (iI (((t : Int)) + 1))]) rfl rfl ?_
          refine go_a (pc' := 49) (ls' := [some (.ref a), some (.int (iI x)), some (.int (iI ((t : Int)))), some (.int (iI i)), some (.int (iI 1)), some (.int (iI (((t : Int)) + 1)))]) (st' := []) rfl rfl ?_
          refine go_a (pc' := 50) (ls' := [some (.ref a), some (.int (iI x)), some (.int (iI ((t : Int)))), some (.int (iI i)), some (.int (iI 1)), some (.int (iI (((t : Int)) + 1)))]) (st' := [.ref a]) rfl rfl ?_
          refine go_a (pc' := 52) (ls' := [some (.ref a), some (.int (iI x)), some (.int (iI ((t : Int)))), some (.int (iI i)), some (.int (iI 1)), some (.int (iI (((t : Int)) + 1)))]) (st' := [.int (iI (((t : Int)) + 1)), .ref a]) rfl rfl ?_
          rw [show (t : Int) + 1 = ((t + 1 : Nat) : Int) by omega]
          refine go_v (m := 231) (as := [.ref a, .int (iI (((t : Int)) + 1))]) (r := []) rfl rfl rfl hT.1 rfl rfl (kg_behind z (d + 1) ((t + 1 : Nat) : Int) a q n f hp hT (by omega) (by omega)) (fun v h3 hq => ?_)
          obtain ⟨rfl, e9⟩ := hq
          rw [e9, r1]
          clear e9 h3
          show xx_go (xt_P z) (d + 2) 228 55 [some (.ref a), some (.int (iI x)), some (.int (iI ((t : Int)))), some (.int (iI i)), some (.int (iI 1)), some (.int (iI (((t : Int)) + 1)))] [.int (iI ((bp n f (t + 1) : Int)))] hp _
          refine go_a (pc' := 56) (ls' := [some (.ref a), some (.int (iI x)), some (.int (iI ((bp n f (t + 1) : Int)))), some (.int (iI i)), some (.int (iI 1)), some (.int (iI (((t : Int)) + 1)))]) (st' := []) rfl rfl ?_
          refine go_a (pc' := 58) (ls' := [some (.ref a), some (.int (iI x)), some (.int (iI ((bp n f (t + 1) : Int)))), some (.int (iI i)), some (.int (iI 1)), some (.int (iI (((t : Int)) + 1)))]) (st' := [.int (iI 1)]) rfl rfl ?_
          refine mi_eq0 (t := 74) rfl rfl (by omega) (by omega) (fun q => absurd q (by decide)) (fun _ => ?_)
          refine go_a (pc' := 62) (ls' := [some (.ref a), some (.int (iI x)), some (.int (iI ((bp n f (t + 1) : Int)))), some (.int (iI i)), some (.int (iI 1)), some (.int (iI (((t : Int)) + 1)))]) (st' := [.ref a]) rfl rfl ?_
          refine go_a (pc' := 63) (ls' := [some (.ref a), some (.int (iI x)), some (.int (iI ((bp n f (t + 1) : Int)))), some (.int (iI i)), some (.int (iI 1)), some (.int (iI (((t : Int)) + 1)))]) (st' := [.int (iI x), .ref a]) rfl rfl ?_
          refine go_a (pc' := 65) (ls' := [some (.ref a), some (.int (iI x)), some (.int (iI ((bp n f (t + 1) : Int)))), some (.int (iI i)), some (.int (iI 1)), some (.int (iI (((t : Int)) + 1)))]) (st' := [.int (iI (((t : Int)) + 1)), .int (iI x), .ref a]) rfl rfl ?_
          refine go_a (pc' := 66) (ls' := [some (.ref a), some (.int (iI x)), some (.int (iI ((bp n f (t + 1) : Int)))), some (.int (iI i)), some (.int (iI 1)), some (.int (iI (((t : Int)) + 1)))]) (st' := [.int (iI ((bp n f (t + 1) : Int))), .int (iI (((t : Int)) + 1)), .int (iI x), .ref a]) rfl rfl ?_
          refine go_v (m := 232) (as := [.ref a, .int (iI x), .int (iI (((t : Int)) + 1)), .int (iI ((bp n f (t + 1) : Int)))]) (r := []) rfl rfl rfl hT.1 rfl rfl (kg_has z d x ((t + 1 : Nat) : Int) (bp n f (t + 1) : Int) a q n f hp hT (by omega) x1 (by omega) (by omega) (by omega) (by omega)) (fun v h3 hq => ?_)
          obtain ⟨hq, e9⟩ := hq
          rw [e9]
          clear e9 h3
          rcases hq with ⟨rfl, h9⟩ | ⟨rfl, h9⟩
          · show xx_go (xt_P z) (d + 2) 228 69 [some (.ref a), some (.int (iI x)), some (.int (iI ((bp n f (t + 1) : Int)))), some (.int (iI i)), some (.int (iI 1)), some (.int (iI (((t : Int)) + 1)))] [.int (iI 1)] hp _
            refine mi_eq0 (t := 74) rfl rfl (by omega) (by omega) (fun q => absurd q (by decide)) (fun _ => ?_)
            refine go_a (pc' := 73) (ls' := [some (.ref a), some (.int (iI x)), some (.int (iI ((bp n f (t + 1) : Int)))), some (.int (iI i)), some (.int (iI 1)), some (.int (iI (((t : Int)) + 1)))]) (st' := [.int (iI 0)]) rfl rfl ?_
            obtain ⟨j9, j0, j1, j2⟩ := h9
            rw [tat_in (by omega) (by omega)] at j2
            exact go_r rfl rfl rfl rfl rfl rfl ⟨Or.inr ⟨rfl, fun q => q.2 e0 t hS (by omega) w4 j9 (by omega) (by rw [r1]; exact j1) j2⟩, rfl⟩
          · show xx_go (xt_P z) (d + 2) 228 69 [some (.ref a), some (.int (iI x)), some (.int (iI ((bp n f (t + 1) : Int)))), some (.int (iI i)), some (.int (iI 1)), some (.int (iI (((t : Int)) + 1)))] [.int (iI 0)] hp _
            refine mi_eq0 (t := 74) rfl rfl (by omega) (by omega) (fun _ => ?_) (fun q => absurd rfl q)
            refine go_a (pc' := 77) (ls' := [some (.ref a), some (.int (iI x)), some (.int (iI ((bp n f (t + 1) : Int)))), some (.int (iI (i + 1))), some (.int (iI 1)), some (.int (iI (((t : Int)) + 1)))]) (st' := []) rfl (by rw [← iI_add i 1]; rfl) ?_
            refine go_a (pc' := 4) (ls' := [some (.ref a), some (.int (iI x)), some (.int (iI ((bp n f (t + 1) : Int)))), some (.int (iI (i + 1))), some (.int (iI 1)), some (.int (iI (((t : Int)) + 1)))]) (st' := []) rfl rfl ?_
            refine ih (bp n f (t + 1)) (i + 1) _ _ (by omega) (by omega) (by omega) (by omega) (by omega) ⟨_, SCN_tr hS (SCN.iff t 0 _ lt w4 (SCN.nil _))⟩ (LAW1_st hW lt hS hL (Or.inl ⟨w4, rfl⟩) (fun _ j j0 j1 => ?_))
            have h8 := h9 j (by omega) (by rw [← r1]; exact j1)
            rw [tat_in (by omega) (by omega)] at h8
            exact h8
theorem kp_areLawful (z : Value) (d : Nat) (x : Int) (x0 : 0 ≤ x) (x1 : x ≤ 2147483647) (a q : Nat) (n : Int) (f : Int → Int) (hp : xx_H) (hT : KTL hp a q n f) (hW : WFT n f) : xx_cl (xt_P z) (d + 3) 228 [.ref a, .int (iI x)] hp (fun v h1 => ((v = some (.int (iI 1)) ∧ LAW n f x ∧ LAW1 n f x n.toNat) ∨ (v = some (.int (iI 0)) ∧ ¬ (LAW n f x ∧ LAW1 n f x n.toNat))) ∧ h1 = hp) := by
  refine cl_go rfl ?_
  show xx_go (xt_P z) (d + 2) 228 0 [some (.ref a), some (.int (iI x)), none, none, none, none] [] hp _
  refine go_a (pc' := 1) (ls' := [some (.ref a), some (.int (iI x)), none, none, none, none]) (st' := [.int (iI 0)]) rfl rfl ?_
  refine go_a (pc' := 2) (ls' := [some (.ref a), some (.int (iI x)), some (.int (iI 0)), none, none, none]) (st' := []) rfl rfl ?_
  refine go_a (pc' := 3) (ls' := [some (.ref a), some (.int (iI x)), some (.int (iI 0)), none, none, none]) (st' := [.int (iI 0)]) rfl rfl ?_
  refine go_a (pc' := 4) (ls' := [some (.ref a), some (.int (iI x)), some (.int (iI 0)), some (.int (iI 0)), none, none]) (st' := []) rfl rfl ?_
  exact kp_law1 z d x x0 x1 a q n f hp hT hW _ 0 0 _ _ (Nat.le_refl _) (by decide) (by decide) (by decide) (by have := WFT_pos hW; omega) ⟨0, SCN.nil _⟩ (fun _ _ _ q => absurd q (Nat.not_lt_zero _))
