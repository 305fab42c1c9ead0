def FIV (x1 x2 x3 x4 x5 : Int) (g : Int → Int) (k : Int) : Prop := ∀ j : Int, 0 ≤ j → j < k → g j = sp_by x1 j ∧ g (4 + j) = sp_by x2 j ∧ g (8 + j) = sp_by x3 j ∧ g (12 + j) = sp_by x4 j ∧ g (16 + j) = sp_by x5 j
theorem FIV_s {x1 x2 x3 x4 x5 k : Int} {g : Int → Int} (h : FIV x1 x2 x3 x4 x5 g k) (k0 : 0 ≤ k) (k1 : k < 4) : FIV x1 x2 x3 x4 x5 (sf (sf (sf (sf (sf g k (sp_by x1 k)) (4 + k) (sp_by x2 k)) (8 + k) (sp_by x3 k)) (12 + k) (sp_by x4 k)) (16 + k) (sp_by x5 k)) (k + 1) := by
  intro j j0 j1
  by_cases c : j = k
  · rw [c]
    refine ⟨?_, ?_, ?_, ?_, ?_⟩
    · rw [sf_ne (by omega), sf_ne (by omega), sf_ne (by omega), sf_ne (by omega), sf_self]
    · rw [sf_ne (by omega), sf_ne (by omega), sf_ne (by omega), sf_self]
    · rw [sf_ne (by omega), sf_ne (by omega), sf_self]
    · rw [sf_ne (by omega), sf_self]
    · rw [sf_self]
  · have q := h j j0 (by omega)
    refine ⟨?_, ?_, ?_, ?_, ?_⟩
    · rw [sf_ne (by omega), sf_ne (by omega), sf_ne (by omega), sf_ne (by omega), sf_ne (by omega)]
      exact q.1
    · rw [sf_ne (by omega), sf_ne (by omega), sf_ne (by omega), sf_ne (by omega), sf_ne (by omega)]
      exact q.2.1
    · rw [sf_ne (by omega), sf_ne (by omega), sf_ne (by omega), sf_ne (by omega), sf_ne (by omega)]
      exact q.2.2.1
    · rw [sf_ne (by omega), sf_ne (by omega), sf_ne (by omega), sf_ne (by omega), sf_ne (by omega)]
      exact q.2.2.2.1
    · rw [sf_ne (by omega), sf_ne (by omega), sf_ne (by omega), sf_ne (by omega), sf_ne (by omega)]
      exact q.2.2.2.2
theorem sp_by_m (x j : Int) {i : Int} : sp_by x (4 * i + j) = sp_by x j := by
  unfold sp_by
  rw [show (4 * i + j) % 4 = j % 4 by omega]
theorem FIV_e {w g : Int → Int} (h : FIV (w 0) (w 1) (w 2) (w 3) (w 4) g 4) {e : Int} (e0 : 0 ≤ e) (e1 : e < 20) : g e = sp_by (w (e / 4)) e := by
  have q := h (e % 4) (by omega) (by omega)
  have m : ∀ x : Int, sp_by x e = sp_by x (e % 4) := fun x => by
    have := sp_by_m x (e % 4) (i := e / 4)
    rw [show 4 * (e / 4) + e % 4 = e by omega] at this
    exact this
  have c : e / 4 = 0 ∨ e / 4 = 1 ∨ e / 4 = 2 ∨ e / 4 = 3 ∨ e / 4 = 4 := by omega
  rw [m]
  rcases c with c | c | c | c | c
  · rw [c, ← q.1, show e % 4 = e by omega]
  · rw [c, ← q.2.1, show 4 + e % 4 = e by omega]
  · rw [c, ← q.2.2.1, show 8 + e % 4 = e by omega]
  · rw [c, ← q.2.2.2.1, show 12 + e % 4 = e by omega]
  · rw [c, ← q.2.2.2.2, show 16 + e % 4 = e by omega]
theorem sh_c (x : Int) (r : -2147483648 ≤ x ∧ x ≤ 2147483647) (s : Nat) (u : Int32) (hu : (u.toBitVec.smod 32).toNat = s) (hs : s = 24 ∨ s = 16 ∨ s = 8 ∨ s = 0) : (iI x >>> u) &&& iI 255 = iI (x / (2 ^ s : Int) % 256) := by
  apply Int32.toBitVec_inj.mp
  apply BitVec.eq_of_toNat_eq
  have e1 : ((iI x >>> u) &&& iI 255).toBitVec = ((BitVec.ofInt 32 x).sshiftRight (u.toBitVec.smod 32).toNat) &&& 255#32 := rfl
  have e2 : (iI (x / (2 ^ s : Int) % 256)).toBitVec = BitVec.ofInt 32 (x / (2 ^ s : Int) % 256) := rfl
  rw [e1, e2, hu, BitVec.toNat_and, BitVec.toNat_ofInt, show (255#32).toNat = 2 ^ 8 - 1 from rfl, Nat.and_two_pow_sub_one_eq_mod]
  have e3 : ((BitVec.ofInt 32 x).sshiftRight s).toInt = x / (2 ^ s : Int) := by
    rw [BitVec.toInt_sshiftRight, BitVec.toInt_ofInt, Int.shiftRight_eq_div_pow, Int.bmod_eq_of_le (by omega) (by omega)]
    rfl
  generalize (BitVec.ofInt 32 x).sshiftRight s = y at e3 ⊢
  have e4 := BitVec.toInt_eq_toNat_cond y
  have e5 := y.isLt
  rw [e3] at e4
  rcases hs with rfl | rfl | rfl | rfl
  · split at e4 <;> omega
  · split at e4 <;> omega
  · split at e4 <;> omega
  · split at e4 <;> omega
theorem byt2 (x k : Int) (r : -2147483648 ≤ x ∧ x ≤ 2147483647) (k0 : 0 ≤ k) (k1 : k < 4) : (iI x >>> (iI (24 - 8 * k) &&& 31)) &&& iI 255 = iI (sp_by x k) := by
  have c : k = 0 ∨ k = 1 ∨ k = 2 ∨ k = 3 := by omega
  rcases c with rfl | rfl | rfl | rfl
  · exact sh_c x r 24 _ (by decide) (by decide)
  · exact sh_c x r 16 _ (by decide) (by decide)
  · exact sh_c x r 8 _ (by decide) (by decide)
  · have q := sh_c x r 0 (iI (24 - 8 * 3) &&& 31) (by decide) (by decide)
    rw [show (2 ^ 0 : Int) = 1 from rfl, Int.ediv_one] at q
    exact q
theorem mm_feed_loopX (z : Value) (d : Nat) (x1 x2 x3 x4 x5 : Int) (h R : xx_H) (I : Nat → Int) (A : Nat → Int → Int) (N : Int → Int) (hc : 12 ≤ h.length) (q1 : -2147483648 ≤ x1 ∧ x1 ≤ 2147483647) (q2 : -2147483648 ≤ x2 ∧ x2 ≤ 2147483647) (q3 : -2147483648 ≤ x3 ∧ x3 ≤ 2147483647) (q4 : -2147483648 ≤ x4 ∧ x4 ≤ 2147483647) (q5 : -2147483648 ≤ x5 ∧ x5 ≤ 2147483647) : ∀ (m : Nat) (k : Int) (g : Int → Int), 4 - k = m → 0 ≤ k → k ≤ 4 → (∀ e : Int, 0 ≤ g e ∧ g e ≤ 255) → FIV x1 x2 x3 x4 x5 g k → xx_go (xt_P z) d 66 3 [some (.ref h.length), some (.int (iI x1)), some (.int (iI x2)), some (.int (iI x3)), some (.int (iI x4)), some (.int (iI x5)), some (.int (iI k))] [] (mh h R I (sw A 10 g) N) (fun v h1 => v = none ∧ ∃ g : Int → Int, h1 = mh h R I (sw A 10 g) N ∧ (∀ e : Int, 0 ≤ g e ∧ g e ≤ 255) ∧ FIV x1 x2 x3 x4 x5 g 4) := by
  intro m
  induction m with
  | zero =>
    intro k g em k0 k1 hg hf
    refine go_a (pc' := 5) (ls' := [some (.ref h.length), some (.int (iI x1)), some (.int (iI x2)), some (.int (iI x3)), some (.int (iI x4)), some (.int (iI x5)), some (.int (iI k))]) (st' := [.int (iI k)]) rfl rfl ?_
    refine go_a (pc' := 6) (ls' := [some (.ref h.length), some (.int (iI x1)), some (.int (iI x2)), some (.int (iI x3)), some (.int (iI x4)), some (.int (iI x5)), some (.int (iI k))]) (st' := [.int (iI 4), .int (iI k)]) rfl rfl ?_
    refine mi_ge (t := 133) rfl rfl (by omega) (by omega) (by omega) (by omega) (fun _ => ?_) (fun q => absurd (show (4 : Int) ≤ k by omega) q)
    exact go_r rfl rfl rfl rfl rfl rfl ⟨rfl, g, rfl, hg, by rw [show (4 : Int) = k by omega]; exact hf⟩
  | succ m ih =>
    intro k g em k0 k1 hg hf
    refine go_a (pc' := 5) (ls' := [some (.ref h.length), some (.int (iI x1)), some (.int (iI x2)), some (.int (iI x3)), some (.int (iI x4)), some (.int (iI x5)), some (.int (iI k))]) (st' := [.int (iI k)]) rfl rfl ?_
    refine go_a (pc' := 6) (ls' := [some (.ref h.length), some (.int (iI x1)), some (.int (iI x2)), some (.int (iI x3)), some (.int (iI x4)), some (.int (iI x5)), some (.int (iI k))]) (st' := [.int (iI 4), .int (iI k)]) rfl rfl ?_
    refine mi_ge (t := 133) rfl rfl (by omega) (by omega) (by omega) (by omega) (fun q => absurd q (by omega)) (fun _ => ?_)
    refine go_a (pc' := 10) (ls' := [some (.ref h.length), some (.int (iI x1)), some (.int (iI x2)), some (.int (iI x3)), some (.int (iI x4)), some (.int (iI x5)), some (.int (iI k))]) (st' := [.ref h.length]) rfl rfl ?_
    refine go_get (v := .ref (h.length + 10)) rfl mh_o rfl rfl ?_
    refine go_a (pc' := 15) (ls' := [some (.ref h.length), some (.int (iI x1)), some (.int (iI x2)), some (.int (iI x3)), some (.int (iI x4)), some (.int (iI x5)), some (.int (iI k))]) (st' := [.int (iI k), .ref (h.length + 10)]) rfl rfl ?_
    refine go_a (pc' := 16) (ls' := [some (.ref h.length), some (.int (iI x1)), some (.int (iI x2)), some (.int (iI x3)), some (.int (iI x4)), some (.int (iI x5)), some (.int (iI k))]) (st' := [.int (iI x1), .int (iI (k)), .ref (h.length + 10)]) rfl rfl ?_
    refine go_a (pc' := 18) (ls' := [some (.ref h.length), some (.int (iI x1)), some (.int (iI x2)), some (.int (iI x3)), some (.int (iI x4)), some (.int (iI x5)), some (.int (iI k))]) (st' := [.int (iI 24), .int (iI x1), .int (iI (k)), .ref (h.length + 10)]) rfl rfl ?_
    refine go_a (pc' := 20) (ls' := [some (.ref h.length), some (.int (iI x1)), some (.int (iI x2)), some (.int (iI x3)), some (.int (iI x4)), some (.int (iI x5)), some (.int (iI k))]) (st' := [.int (iI 8), .int (iI 24), .int (iI x1), .int (iI (k)), .ref (h.length + 10)]) rfl rfl ?_
    refine go_a (pc' := 22) (ls' := [some (.ref h.length), some (.int (iI x1)), some (.int (iI x2)), some (.int (iI x3)), some (.int (iI x4)), some (.int (iI x5)), some (.int (iI k))]) (st' := [.int (iI k), .int (iI 8), .int (iI 24), .int (iI x1), .int (iI (k)), .ref (h.length + 10)]) rfl rfl ?_
    refine mi_mul rfl ?_
    refine mi_sub rfl ?_
    refine go_a (pc' := 25) (ls' := [some (.ref h.length), some (.int (iI x1)), some (.int (iI x2)), some (.int (iI x3)), some (.int (iI x4)), some (.int (iI x5)), some (.int (iI k))]) (st' := [.int ((iI x1) >>> (iI (24 - 8 * k) &&& 31)), .int (iI (k)), .ref (h.length + 10)]) rfl rfl ?_
    refine go_a (pc' := 28) (ls' := [some (.ref h.length), some (.int (iI x1)), some (.int (iI x2)), some (.int (iI x3)), some (.int (iI x4)), some (.int (iI x5)), some (.int (iI k))]) (st' := [.int (iI 255), .int ((iI x1) >>> (iI (24 - 8 * k) &&& 31)), .int (iI (k)), .ref (h.length + 10)]) rfl rfl ?_
    refine go_a (pc' := 29) (ls' := [some (.ref h.length), some (.int (iI x1)), some (.int (iI x2)), some (.int (iI x3)), some (.int (iI x4)), some (.int (iI x5)), some (.int (iI k))]) (st' := [.int (((iI x1) >>> (iI (24 - 8 * k) &&& 31)) &&& iI 255), .int (iI (k)), .ref (h.length + 10)]) rfl rfl ?_
    rw [byt2 x1 k q1 k0 (by omega)]
    refine mi_ist rfl mh_a10 (show 12 ≤ _ by omega) (show 0 ≤ k by omega) (show k < (20 : Nat) by omega) (by decide) ?_
    rw [mh_w10 (show 0 ≤ k by omega), sa_sw]
    refine go_a (pc' := 31) (ls' := [some (.ref h.length), some (.int (iI x1)), some (.int (iI x2)), some (.int (iI x3)), some (.int (iI x4)), some (.int (iI x5)), some (.int (iI k))]) (st' := [.ref h.length]) rfl rfl ?_
    refine go_get (v := .ref (h.length + 10)) rfl mh_o rfl rfl ?_
    refine go_a (pc' := 35) (ls' := [some (.ref h.length), some (.int (iI x1)), some (.int (iI x2)), some (.int (iI x3)), some (.int (iI x4)), some (.int (iI x5)), some (.int (iI k))]) (st' := [.int (iI 4), .ref (h.length + 10)]) rfl rfl ?_
    refine go_a (pc' := 37) (ls' := [some (.ref h.length), some (.int (iI x1)), some (.int (iI x2)), some (.int (iI x3)), some (.int (iI x4)), some (.int (iI x5)), some (.int (iI k))]) (st' := [.int (iI k), .int (iI 4), .ref (h.length + 10)]) rfl rfl ?_
    refine mi_add rfl ?_
    refine go_a (pc' := 39) (ls' := [some (.ref h.length), some (.int (iI x1)), some (.int (iI x2)), some (.int (iI x3)), some (.int (iI x4)), some (.int (iI x5)), some (.int (iI k))]) (st' := [.int (iI x2), .int (iI (4 + k)), .ref (h.length + 10)]) rfl rfl ?_
    refine go_a (pc' := 41) (ls' := [some (.ref h.length), some (.int (iI x1)), some (.int (iI x2)), some (.int (iI x3)), some (.int (iI x4)), some (.int (iI x5)), some (.int (iI k))]) (st' := [.int (iI 24), .int (iI x2), .int (iI (4 + k)), .ref (h.length + 10)]) rfl rfl ?_
    refine go_a (pc' := 43) (ls' := [some (.ref h.length), some (.int (iI x1)), some (.int (iI x2)), some (.int (iI x3)), some (.int (iI x4)), some (.int (iI x5)), some (.int (iI k))]) (st' := [.int (iI 8), .int (iI 24), .int (iI x2), .int (iI (4 + k)), .ref (h.length + 10)]) rfl rfl ?_
    refine go_a (pc' := 45) (ls' := [some (.ref h.length), some (.int (iI x1)), some (.int (iI x2)), some (.int (iI x3)), some (.int (iI x4)), some (.int (iI x5)), some (.int (iI k))]) (st' := [.int (iI k), .int (iI 8), .int (iI 24), .int (iI x2), .int (iI (4 + k)), .ref (h.length + 10)]) rfl rfl ?_
    refine mi_mul rfl ?_
    refine mi_sub rfl ?_
    refine go_a (pc' := 48) (ls' := [some (.ref h.length), some (.int (iI x1)), some (.int (iI x2)), some (.int (iI x3)), some (.int (iI x4)), some (.int (iI x5)), some (.int (iI k))]) (st' := [.int ((iI x2) >>> (iI (24 - 8 * k) &&& 31)), .int (iI (4 + k)), .ref (h.length + 10)]) rfl rfl ?_
    refine go_a (pc' := 51) (ls' := [some (.ref h.length), some (.int (iI x1)), some (.int (iI x2)), some (.int (iI x3)), some (.int (iI x4)), some (.int (iI x5)), some (.int (iI k))]) (st' := [.int (iI 255), .int ((iI x2) >>> (iI (24 - 8 * k) &&& 31)), .int (iI (4 + k)), .ref (h.length + 10)]) rfl rfl ?_
    refine go_a (pc' := 52) (ls' := [some (.ref h.length), some (.int (iI x1)), some (.int (iI x2)), some (.int (iI x3)), some (.int (iI x4)), some (.int (iI x5)), some (.int (iI k))]) (st' := [.int (((iI x2) >>> (iI (24 - 8 * k) &&& 31)) &&& iI 255), .int (iI (4 + k)), .ref (h.length + 10)]) rfl rfl ?_
    rw [byt2 x2 k q2 k0 (by omega)]
    refine mi_ist rfl mh_a10 (show 12 ≤ _ by omega) (show 0 ≤ 4 + k by omega) (show 4 + k < (20 : Nat) by omega) (by decide) ?_
    rw [mh_w10 (show 0 ≤ 4 + k by omega), sa_sw]
    refine go_a (pc' := 54) (ls' := [some (.ref h.length), some (.int (iI x1)), some (.int (iI x2)), some (.int (iI x3)), some (.int (iI x4)), some (.int (iI x5)), some (.int (iI k))]) (st' := [.ref h.length]) rfl rfl ?_
    refine go_get (v := .ref (h.length + 10)) rfl mh_o rfl rfl ?_
    refine go_a (pc' := 59) (ls' := [some (.ref h.length), some (.int (iI x1)), some (.int (iI x2)), some (.int (iI x3)), some (.int (iI x4)), some (.int (iI x5)), some (.int (iI k))]) (st' := [.int (iI 8), .ref (h.length + 10)]) rfl rfl ?_
    refine go_a (pc' := 61) (ls' := [some (.ref h.length), some (.int (iI x1)), some (.int (iI x2)), some (.int (iI x3)), some (.int (iI x4)), some (.int (iI x5)), some (.int (iI k))]) (st' := [.int (iI k), .int (iI 8), .ref (h.length + 10)]) rfl rfl ?_
    refine mi_add rfl ?_
    refine go_a (pc' := 63) (ls' := [some (.ref h.length), some (.int (iI x1)), some (.int (iI x2)), some (.int (iI x3)), some (.int (iI x4)), some (.int (iI x5)), some (.int (iI k))]) (st' := [.int (iI x3), .int (iI (8 + k)), .ref (h.length + 10)]) rfl rfl ?_
    refine go_a (pc' := 65) (ls' := [some (.ref h.length), some (.int (iI x1)), some (.int (iI x2)), some (.int (iI x3)), some (.int (iI x4)), some (.int (iI x5)), some (.int (iI k))]) (st' := [.int (iI 24), .int (iI x3), .int (iI (8 + k)), .ref (h.length + 10)]) rfl rfl ?_
    refine go_a (pc' := 67) (ls' := [some (.ref h.length), some (.int (iI x1)), some (.int (iI x2)), some (.int (iI x3)), some (.int (iI x4)), some (.int (iI x5)), some (.int (iI k))]) (st' := [.int (iI 8), .int (iI 24), .int (iI x3), .int (iI (8 + k)), .ref (h.length + 10)]) rfl rfl ?_
    refine go_a (pc' := 69) (ls' := [some (.ref h.length), some (.int (iI x1)), some (.int (iI x2)), some (.int (iI x3)), some (.int (iI x4)), some (.int (iI x5)), some (.int (iI k))]) (st' := [.int (iI k), .int (iI 8), .int (iI 24), .int (iI x3), .int (iI (8 + k)), .ref (h.length + 10)]) rfl rfl ?_
    refine mi_mul rfl ?_
    refine mi_sub rfl ?_
    refine go_a (pc' := 72) (ls' := [some (.ref h.length), some (.int (iI x1)), some (.int (iI x2)), some (.int (iI x3)), some (.int (iI x4)), some (.int (iI x5)), some (.int (iI k))]) (st' := [.int ((iI x3) >>> (iI (24 - 8 * k) &&& 31)), .int (iI (8 + k)), .ref (h.length + 10)]) rfl rfl ?_
    refine go_a (pc' := 75) (ls' := [some (.ref h.length), some (.int (iI x1)), some (.int (iI x2)), some (.int (iI x3)), some (.int (iI x4)), some (.int (iI x5)), some (.int (iI k))]) (st' := [.int (iI 255), .int ((iI x3) >>> (iI (24 - 8 * k) &&& 31)), .int (iI (8 + k)), .ref (h.length + 10)]) rfl rfl ?_
    refine go_a (pc' := 76) (ls' := [some (.ref h.length), some (.int (iI x1)), some (.int (iI x2)), some (.int (iI x3)), some (.int (iI x4)), some (.int (iI x5)), some (.int (iI k))]) (st' := [.int (((iI x3) >>> (iI (24 - 8 * k) &&& 31)) &&& iI 255), .int (iI (8 + k)), .ref (h.length + 10)]) rfl rfl ?_
    rw [byt2 x3 k q3 k0 (by omega)]
    refine mi_ist rfl mh_a10 (show 12 ≤ _ by omega) (show 0 ≤ 8 + k by omega) (show 8 + k < (20 : Nat) by omega) (by decide) ?_
    rw [mh_w10 (show 0 ≤ 8 + k by omega), sa_sw]
    refine go_a (pc' := 78) (ls' := [some (.ref h.length), some (.int (iI x1)), some (.int (iI x2)), some (.int (iI x3)), some (.int (iI x4)), some (.int (iI x5)), some (.int (iI k))]) (st' := [.ref h.length]) rfl rfl ?_
    refine go_get (v := .ref (h.length + 10)) rfl mh_o rfl rfl ?_
    refine go_a (pc' := 83) (ls' := [some (.ref h.length), some (.int (iI x1)), some (.int (iI x2)), some (.int (iI x3)), some (.int (iI x4)), some (.int (iI x5)), some (.int (iI k))]) (st' := [.int (iI 12), .ref (h.length + 10)]) rfl rfl ?_
    refine go_a (pc' := 85) (ls' := [some (.ref h.length), some (.int (iI x1)), some (.int (iI x2)), some (.int (iI x3)), some (.int (iI x4)), some (.int (iI x5)), some (.int (iI k))]) (st' := [.int (iI k), .int (iI 12), .ref (h.length + 10)]) rfl rfl ?_
    refine mi_add rfl ?_
    refine go_a (pc' := 88) (ls' := [some (.ref h.length), some (.int (iI x1)), some (.int (iI x2)), some (.int (iI x3)), some (.int (iI x4)), some (.int (iI x5)), some (.int (iI k))]) (st' := [.int (iI x4), .int (iI (12 + k)), .ref (h.length + 10)]) rfl rfl ?_
    refine go_a (pc' := 90) (ls' := [some (.ref h.length), some (.int (iI x1)), some (.int (iI x2)), some (.int (iI x3)), some (.int (iI x4)), some (.int (iI x5)), some (.int (iI k))]) (st' := [.int (iI 24), .int (iI x4), .int (iI (12 + k)), .ref (h.length + 10)]) rfl rfl ?_
    refine go_a (pc' := 92) (ls' := [some (.ref h.length), some (.int (iI x1)), some (.int (iI x2)), some (.int (iI x3)), some (.int (iI x4)), some (.int (iI x5)), some (.int (iI k))]) (st' := [.int (iI 8), .int (iI 24), .int (iI x4), .int (iI (12 + k)), .ref (h.length + 10)]) rfl rfl ?_
    refine go_a (pc' := 94) (ls' := [some (.ref h.length), some (.int (iI x1)), some (.int (iI x2)), some (.int (iI x3)), some (.int (iI x4)), some (.int (iI x5)), some (.int (iI k))]) (st' := [.int (iI k), .int (iI 8), .int (iI 24), .int (iI x4), .int (iI (12 + k)), .ref (h.length + 10)]) rfl rfl ?_
    refine mi_mul rfl ?_
    refine mi_sub rfl ?_
    refine go_a (pc' := 97) (ls' := [some (.ref h.length), some (.int (iI x1)), some (.int (iI x2)), some (.int (iI x3)), some (.int (iI x4)), some (.int (iI x5)), some (.int (iI k))]) (st' := [.int ((iI x4) >>> (iI (24 - 8 * k) &&& 31)), .int (iI (12 + k)), .ref (h.length + 10)]) rfl rfl ?_
    refine go_a (pc' := 100) (ls' := [some (.ref h.length), some (.int (iI x1)), some (.int (iI x2)), some (.int (iI x3)), some (.int (iI x4)), some (.int (iI x5)), some (.int (iI k))]) (st' := [.int (iI 255), .int ((iI x4) >>> (iI (24 - 8 * k) &&& 31)), .int (iI (12 + k)), .ref (h.length + 10)]) rfl rfl ?_
    refine go_a (pc' := 101) (ls' := [some (.ref h.length), some (.int (iI x1)), some (.int (iI x2)), some (.int (iI x3)), some (.int (iI x4)), some (.int (iI x5)), some (.int (iI k))]) (st' := [.int (((iI x4) >>> (iI (24 - 8 * k) &&& 31)) &&& iI 255), .int (iI (12 + k)), .ref (h.length + 10)]) rfl rfl ?_
    rw [byt2 x4 k q4 k0 (by omega)]
    refine mi_ist rfl mh_a10 (show 12 ≤ _ by omega) (show 0 ≤ 12 + k by omega) (show 12 + k < (20 : Nat) by omega) (by decide) ?_
    rw [mh_w10 (show 0 ≤ 12 + k by omega), sa_sw]
    refine go_a (pc' := 103) (ls' := [some (.ref h.length), some (.int (iI x1)), some (.int (iI x2)), some (.int (iI x3)), some (.int (iI x4)), some (.int (iI x5)), some (.int (iI k))]) (st' := [.ref h.length]) rfl rfl ?_
    refine go_get (v := .ref (h.length + 10)) rfl mh_o rfl rfl ?_
    refine go_a (pc' := 108) (ls' := [some (.ref h.length), some (.int (iI x1)), some (.int (iI x2)), some (.int (iI x3)), some (.int (iI x4)), some (.int (iI x5)), some (.int (iI k))]) (st' := [.int (iI 16), .ref (h.length + 10)]) rfl rfl ?_
    refine go_a (pc' := 110) (ls' := [some (.ref h.length), some (.int (iI x1)), some (.int (iI x2)), some (.int (iI x3)), some (.int (iI x4)), some (.int (iI x5)), some (.int (iI k))]) (st' := [.int (iI k), .int (iI 16), .ref (h.length + 10)]) rfl rfl ?_
    refine mi_add rfl ?_
    refine go_a (pc' := 113) (ls' := [some (.ref h.length), some (.int (iI x1)), some (.int (iI x2)), some (.int (iI x3)), some (.int (iI x4)), some (.int (iI x5)), some (.int (iI k))]) (st' := [.int (iI x5), .int (iI (16 + k)), .ref (h.length + 10)]) rfl rfl ?_
    refine go_a (pc' := 115) (ls' := [some (.ref h.length), some (.int (iI x1)), some (.int (iI x2)), some (.int (iI x3)), some (.int (iI x4)), some (.int (iI x5)), some (.int (iI k))]) (st' := [.int (iI 24), .int (iI x5), .int (iI (16 + k)), .ref (h.length + 10)]) rfl rfl ?_
    refine go_a (pc' := 117) (ls' := [some (.ref h.length), some (.int (iI x1)), some (.int (iI x2)), some (.int (iI x3)), some (.int (iI x4)), some (.int (iI x5)), some (.int (iI k))]) (st' := [.int (iI 8), .int (iI 24), .int (iI x5), .int (iI (16 + k)), .ref (h.length + 10)]) rfl rfl ?_
    refine go_a (pc' := 119) (ls' := [some (.ref h.length), some (.int (iI x1)), some (.int (iI x2)), some (.int (iI x3)), some (.int (iI x4)), some (.int (iI x5)), some (.int (iI k))]) (st' := [.int (iI k), .int (iI 8), .int (iI 24), .int (iI x5), .int (iI (16 + k)), .ref (h.length + 10)]) rfl rfl ?_
    refine mi_mul rfl ?_
    refine mi_sub rfl ?_
    refine go_a (pc' := 122) (ls' := [some (.ref h.length), some (.int (iI x1)), some (.int (iI x2)), some (.int (iI x3)), some (.int (iI x4)), some (.int (iI x5)), some (.int (iI k))]) (st' := [.int ((iI x5) >>> (iI (24 - 8 * k) &&& 31)), .int (iI (16 + k)), .ref (h.length + 10)]) rfl rfl ?_
    refine go_a (pc' := 125) (ls' := [some (.ref h.length), some (.int (iI x1)), some (.int (iI x2)), some (.int (iI x3)), some (.int (iI x4)), some (.int (iI x5)), some (.int (iI k))]) (st' := [.int (iI 255), .int ((iI x5) >>> (iI (24 - 8 * k) &&& 31)), .int (iI (16 + k)), .ref (h.length + 10)]) rfl rfl ?_
    refine go_a (pc' := 126) (ls' := [some (.ref h.length), some (.int (iI x1)), some (.int (iI x2)), some (.int (iI x3)), some (.int (iI x4)), some (.int (iI x5)), some (.int (iI k))]) (st' := [.int (((iI x5) >>> (iI (24 - 8 * k) &&& 31)) &&& iI 255), .int (iI (16 + k)), .ref (h.length + 10)]) rfl rfl ?_
    rw [byt2 x5 k q5 k0 (by omega)]
    refine mi_ist rfl mh_a10 (show 12 ≤ _ by omega) (show 0 ≤ 16 + k by omega) (show 16 + k < (20 : Nat) by omega) (by decide) ?_
    rw [mh_w10 (show 0 ≤ 16 + k by omega), sa_sw]
    refine go_a (pc' := 130) (ls' := [some (.ref h.length), some (.int (iI x1)), some (.int (iI x2)), some (.int (iI x3)), some (.int (iI x4)), some (.int (iI x5)), some (.int (iI (k + 1)))]) (st' := []) rfl (by rw [← iI_add k 1]; rfl) ?_
    refine go_a (pc' := 3) (ls' := [some (.ref h.length), some (.int (iI x1)), some (.int (iI x2)), some (.int (iI x3)), some (.int (iI x4)), some (.int (iI x5)), some (.int (iI (k + 1)))]) (st' := []) rfl rfl ?_
    exact ih (k + 1) _ (by omega) (by omega) (by omega) (sf_byte (sf_byte (sf_byte (sf_byte (sf_byte hg (sp_by_r _ _)) (sp_by_r _ _)) (sp_by_r _ _)) (sp_by_r _ _)) (sp_by_r _ _)) (FIV_s hf k0 (by omega))
theorem mm_feedX (z : Value) (d : Nat) (x1 x2 x3 x4 x5 : Int) (h R : xx_H) (I : Nat → Int) (A : Nat → Int → Int) (N : Int → Int) (hc : 12 ≤ h.length) (q1 : -2147483648 ≤ x1 ∧ x1 ≤ 2147483647) (q2 : -2147483648 ≤ x2 ∧ x2 ≤ 2147483647) (q3 : -2147483648 ≤ x3 ∧ x3 ≤ 2147483647) (q4 : -2147483648 ≤ x4 ∧ x4 ≤ 2147483647) (q5 : -2147483648 ≤ x5 ∧ x5 ≤ 2147483647) (hb : ∀ e : Int, 0 ≤ A 10 e ∧ A 10 e ≤ 255) : xx_cl (xt_P z) (d + 1) 66 [.ref h.length, .int (iI x1), .int (iI x2), .int (iI x3), .int (iI x4), .int (iI x5)] (mh h R I A N) (fun v h1 => v = none ∧ ∃ g : Int → Int, h1 = mh h R I (sw A 10 g) N ∧ (∀ e : Int, 0 ≤ g e ∧ g e ≤ 255) ∧ FIV x1 x2 x3 x4 x5 g 4) := by
  refine cl_go rfl ?_
  have L := mm_feed_loopX z d x1 x2 x3 x4 x5 h R I A N hc q1 q2 q3 q4 q5 4 0 (A 10) (by decide) (by decide) (by decide) hb (fun j a b => absurd b (by omega))
  rw [sw_self] at L
  show xx_go (xt_P z) d 66 0 [some (.ref h.length), some (.int (iI x1)), some (.int (iI x2)), some (.int (iI x3)), some (.int (iI x4)), some (.int (iI x5)), none] [] (mh h R I A N) _
  refine go_a (pc' := 1) (ls' := [some (.ref h.length), some (.int (iI x1)), some (.int (iI x2)), some (.int (iI x3)), some (.int (iI x4)), some (.int (iI x5)), none]) (st' := [.int (iI 0)]) rfl rfl ?_
  refine go_a (pc' := 3) (ls' := [some (.ref h.length), some (.int (iI x1)), some (.int (iI x2)), some (.int (iI x3)), some (.int (iI x4)), some (.int (iI x5)), some (.int (iI 0))]) (st' := []) rfl rfl ?_
  exact L
