theorem m255 (x : Int32) : ∃ g : Int, (0 ≤ g ∧ g ≤ 255) ∧ x &&& iI 255 = iI g := by
  refine ⟨((x.toBitVec &&& 255#32).toNat : Int), ⟨by omega, ?_⟩, ?_⟩
  · have hl : (x.toBitVec &&& 255#32).toNat ≤ 255 := by
      rw [BitVec.toNat_and]
      exact Nat.and_le_right
    omega
  · apply Int32.toBitVec_inj.mp
    show x.toBitVec &&& 255#32 = BitVec.ofInt 32 _
    rw [BitVec.ofInt_natCast, BitVec.ofNat_toNat, BitVec.setWidth_eq]
theorem sf_byte {g : Int → Int} {e x : Int} (h : ∀ e : Int, 0 ≤ g e ∧ g e ≤ 255) (hx : 0 ≤ x ∧ x ≤ 255) : ∀ q : Int, 0 ≤ sf g e x q ∧ sf g e x q ≤ 255 := by
  intro q
  by_cases c : q = e
  · rw [c, sf_self]
    exact hx
  · rw [sf_ne c]
    exact h q
theorem mm_feed_loop (z : Value) (d : Nat) (a1 a2 a3 a4 a5 : Int32) (h R : xx_H) (I : Nat → Int) (A : Nat → Int → Int) (N : Int → Int) (hc : 12 ≤ h.length) : ∀ (m : Nat) (k : Int) (g : Int → Int), 4 - k = m → 0 ≤ k → k ≤ 4 → (∀ e : Int, 0 ≤ g e ∧ g e ≤ 255) → xx_go (xt_P z) d 66 3 [some (.ref h.length), some (.int a1), some (.int a2), some (.int a3), some (.int a4), some (.int a5), some (.int (iI k))] [] (mh h R I (sw A 10 g) N) (fun v h1 => v = none ∧ ∃ g : Int → Int, h1 = mh h R I (sw A 10 g) N ∧ ∀ e : Int, 0 ≤ g e ∧ g e ≤ 255) := by
  intro m
  induction m with
  | zero =>
    intro k g em k0 k1 hg
    refine go_a (pc' := 5) (ls' := [some (.ref h.length), some (.int a1), some (.int a2), some (.int a3), some (.int a4), some (.int a5), some (.int (iI k))]) (st' := [.int (iI k)]) rfl rfl ?_
    refine go_a (pc' := 6) (ls' := [some (.ref h.length), some (.int a1), some (.int a2), some (.int a3), some (.int a4), some (.int a5), some (.int (iI k))]) (st' := [.int (iI 4), .int (iI k)]) rfl rfl ?_
    refine mi_ge (t := 133) rfl rfl (by omega) (by omega) (by omega) (by omega) (fun _ => ?_) (fun q => absurd (show (4 : Int) ≤ k by omega) q)
    exact go_r rfl rfl rfl rfl rfl rfl ⟨rfl, g, rfl, hg⟩
  | succ m ih =>
    intro k g em k0 k1 hg
    refine go_a (pc' := 5) (ls' := [some (.ref h.length), some (.int a1), some (.int a2), some (.int a3), some (.int a4), some (.int a5), some (.int (iI k))]) (st' := [.int (iI k)]) rfl rfl ?_
    refine go_a (pc' := 6) (ls' := [some (.ref h.length), some (.int a1), some (.int a2), some (.int a3), some (.int a4), some (.int a5), some (.int (iI k))]) (st' := [.int (iI 4), .int (iI k)]) rfl rfl ?_
    refine mi_ge (t := 133) rfl rfl (by omega) (by omega) (by omega) (by omega) (fun q => absurd q (by omega)) (fun _ => ?_)
    refine go_a (pc' := 10) (ls' := [some (.ref h.length), some (.int a1), some (.int a2), some (.int a3), some (.int a4), some (.int a5), some (.int (iI k))]) (st' := [.ref h.length]) rfl rfl ?_
    refine go_get (v := .ref (h.length + 10)) rfl mh_o rfl rfl ?_
    refine go_a (pc' := 15) (ls' := [some (.ref h.length), some (.int a1), some (.int a2), some (.int a3), some (.int a4), some (.int a5), some (.int (iI k))]) (st' := [.int (iI k), .ref (h.length + 10)]) rfl rfl ?_
    refine go_a (pc' := 16) (ls' := [some (.ref h.length), some (.int a1), some (.int a2), some (.int a3), some (.int a4), some (.int a5), some (.int (iI k))]) (st' := [.int a1, .int (iI (k)), .ref (h.length + 10)]) rfl rfl ?_
    refine go_a (pc' := 18) (ls' := [some (.ref h.length), some (.int a1), some (.int a2), some (.int a3), some (.int a4), some (.int a5), some (.int (iI k))]) (st' := [.int (iI 24), .int a1, .int (iI (k)), .ref (h.length + 10)]) rfl rfl ?_
    refine go_a (pc' := 20) (ls' := [some (.ref h.length), some (.int a1), some (.int a2), some (.int a3), some (.int a4), some (.int a5), some (.int (iI k))]) (st' := [.int (iI 8), .int (iI 24), .int a1, .int (iI (k)), .ref (h.length + 10)]) rfl rfl ?_
    refine go_a (pc' := 22) (ls' := [some (.ref h.length), some (.int a1), some (.int a2), some (.int a3), some (.int a4), some (.int a5), some (.int (iI k))]) (st' := [.int (iI k), .int (iI 8), .int (iI 24), .int a1, .int (iI (k)), .ref (h.length + 10)]) rfl rfl ?_
    refine mi_mul rfl ?_
    refine mi_sub rfl ?_
    refine go_a (pc' := 25) (ls' := [some (.ref h.length), some (.int a1), some (.int a2), some (.int a3), some (.int a4), some (.int a5), some (.int (iI k))]) (st' := [.int (a1 >>> (iI (24 - 8 * k) &&& 31)), .int (iI (k)), .ref (h.length + 10)]) rfl rfl ?_
    refine go_a (pc' := 28) (ls' := [some (.ref h.length), some (.int a1), some (.int a2), some (.int a3), some (.int a4), some (.int a5), some (.int (iI k))]) (st' := [.int (iI 255), .int (a1 >>> (iI (24 - 8 * k) &&& 31)), .int (iI (k)), .ref (h.length + 10)]) rfl rfl ?_
    refine go_a (pc' := 29) (ls' := [some (.ref h.length), some (.int a1), some (.int a2), some (.int a3), some (.int a4), some (.int a5), some (.int (iI k))]) (st' := [.int ((a1 >>> (iI (24 - 8 * k) &&& 31)) &&& iI 255), .int (iI (k)), .ref (h.length + 10)]) rfl rfl ?_
    obtain ⟨x0, r0, e0⟩ := m255 (a1 >>> (iI (24 - 8 * k) &&& 31))
    rw [e0]
    refine mi_ist rfl mh_a10 (show 12 ≤ _ by omega) (show 0 ≤ k by omega) (show k < (20 : Nat) by omega) (by decide) ?_
    rw [mh_w10 (show 0 ≤ k by omega), sa_sw]
    refine go_a (pc' := 31) (ls' := [some (.ref h.length), some (.int a1), some (.int a2), some (.int a3), some (.int a4), some (.int a5), some (.int (iI k))]) (st' := [.ref h.length]) rfl rfl ?_
    refine go_get (v := .ref (h.length + 10)) rfl mh_o rfl rfl ?_
    refine go_a (pc' := 35) (ls' := [some (.ref h.length), some (.int a1), some (.int a2), some (.int a3), some (.int a4), some (.int a5), some (.int (iI k))]) (st' := [.int (iI 4), .ref (h.length + 10)]) rfl rfl ?_
    refine go_a (pc' := 37) (ls' := [some (.ref h.length), some (.int a1), some (.int a2), some (.int a3), some (.int a4), some (.int a5), some (.int (iI k))]) (st' := [.int (iI k), .int (iI 4), .ref (h.length + 10)]) rfl rfl ?_
    refine mi_add rfl ?_
    refine go_a (pc' := 39) (ls' := [some (.ref h.length), some (.int a1), some (.int a2), some (.int a3), some (.int a4), some (.int a5), some (.int (iI k))]) (st' := [.int a2, .int (iI (4 + k)), .ref (h.length + 10)]) rfl rfl ?_
    refine go_a (pc' := 41) (ls' := [some (.ref h.length), some (.int a1), some (.int a2), some (.int a3), some (.int a4), some (.int a5), some (.int (iI k))]) (st' := [.int (iI 24), .int a2, .int (iI (4 + k)), .ref (h.length + 10)]) rfl rfl ?_
    refine go_a (pc' := 43) (ls' := [some (.ref h.length), some (.int a1), some (.int a2), some (.int a3), some (.int a4), some (.int a5), some (.int (iI k))]) (st' := [.int (iI 8), .int (iI 24), .int a2, .int (iI (4 + k)), .ref (h.length + 10)]) rfl rfl ?_
    refine go_a (pc' := 45) (ls' := [some (.ref h.length), some (.int a1), some (.int a2), some (.int a3), some (.int a4), some (.int a5), some (.int (iI k))]) (st' := [.int (iI k), .int (iI 8), .int (iI 24), .int a2, .int (iI (4 + k)), .ref (h.length + 10)]) rfl rfl ?_
    refine mi_mul rfl ?_
    refine mi_sub rfl ?_
    refine go_a (pc' := 48) (ls' := [some (.ref h.length), some (.int a1), some (.int a2), some (.int a3), some (.int a4), some (.int a5), some (.int (iI k))]) (st' := [.int (a2 >>> (iI (24 - 8 * k) &&& 31)), .int (iI (4 + k)), .ref (h.length + 10)]) rfl rfl ?_
    refine go_a (pc' := 51) (ls' := [some (.ref h.length), some (.int a1), some (.int a2), some (.int a3), some (.int a4), some (.int a5), some (.int (iI k))]) (st' := [.int (iI 255), .int (a2 >>> (iI (24 - 8 * k) &&& 31)), .int (iI (4 + k)), .ref (h.length + 10)]) rfl rfl ?_
    refine go_a (pc' := 52) (ls' := [some (.ref h.length), some (.int a1), some (.int a2), some (.int a3), some (.int a4), some (.int a5), some (.int (iI k))]) (st' := [.int ((a2 >>> (iI (24 - 8 * k) &&& 31)) &&& iI 255), .int (iI (4 + k)), .ref (h.length + 10)]) rfl rfl ?_
    obtain ⟨x1, r1, e1⟩ := m255 (a2 >>> (iI (24 - 8 * k) &&& 31))
    rw [e1]
    refine mi_ist rfl mh_a10 (show 12 ≤ _ by omega) (show 0 ≤ 4 + k by omega) (show 4 + k < (20 : Nat) by omega) (by decide) ?_
    rw [mh_w10 (show 0 ≤ 4 + k by omega), sa_sw]
    refine go_a (pc' := 54) (ls' := [some (.ref h.length), some (.int a1), some (.int a2), some (.int a3), some (.int a4), some (.int a5), some (.int (iI k))]) (st' := [.ref h.length]) rfl rfl ?_
    refine go_get (v := .ref (h.length + 10)) rfl mh_o rfl rfl ?_
    refine go_a (pc' := 59) (ls' := [some (.ref h.length), some (.int a1), some (.int a2), some (.int a3), some (.int a4), some (.int a5), some (.int (iI k))]) (st' := [.int (iI 8), .ref (h.length + 10)]) rfl rfl ?_
    refine go_a (pc' := 61) (ls' := [some (.ref h.length), some (.int a1), some (.int a2), some (.int a3), some (.int a4), some (.int a5), some (.int (iI k))]) (st' := [.int (iI k), .int (iI 8), .ref (h.length + 10)]) rfl rfl ?_
    refine mi_add rfl ?_
    refine go_a (pc' := 63) (ls' := [some (.ref h.length), some (.int a1), some (.int a2), some (.int a3), some (.int a4), some (.int a5), some (.int (iI k))]) (st' := [.int a3, .int (iI (8 + k)), .ref (h.length + 10)]) rfl rfl ?_
    refine go_a (pc' := 65) (ls' := [some (.ref h.length), some (.int a1), some (.int a2), some (.int a3), some (.int a4), some (.int a5), some (.int (iI k))]) (st' := [.int (iI 24), .int a3, .int (iI (8 + k)), .ref (h.length + 10)]) rfl rfl ?_
    refine go_a (pc' := 67) (ls' := [some (.ref h.length), some (.int a1), some (.int a2), some (.int a3), some (.int a4), some (.int a5), some (.int (iI k))]) (st' := [.int (iI 8), .int (iI 24), .int a3, .int (iI (8 + k)), .ref (h.length + 10)]) rfl rfl ?_
    refine go_a (pc' := 69) (ls' := [some (.ref h.length), some (.int a1), some (.int a2), some (.int a3), some (.int a4), some (.int a5), some (.int (iI k))]) (st' := [.int (iI k), .int (iI 8), .int (iI 24), .int a3, .int (iI (8 + k)), .ref (h.length + 10)]) rfl rfl ?_
    refine mi_mul rfl ?_
    refine mi_sub rfl ?_
    refine go_a (pc' := 72) (ls' := [some (.ref h.length), some (.int a1), some (.int a2), some (.int a3), some (.int a4), some (.int a5), some (.int (iI k))]) (st' := [.int (a3 >>> (iI (24 - 8 * k) &&& 31)), .int (iI (8 + k)), .ref (h.length + 10)]) rfl rfl ?_
    refine go_a (pc' := 75) (ls' := [some (.ref h.length), some (.int a1), some (.int a2), some (.int a3), some (.int a4), some (.int a5), some (.int (iI k))]) (st' := [.int (iI 255), .int (a3 >>> (iI (24 - 8 * k) &&& 31)), .int (iI (8 + k)), .ref (h.length + 10)]) rfl rfl ?_
    refine go_a (pc' := 76) (ls' := [some (.ref h.length), some (.int a1), some (.int a2), some (.int a3), some (.int a4), some (.int a5), some (.int (iI k))]) (st' := [.int ((a3 >>> (iI (24 - 8 * k) &&& 31)) &&& iI 255), .int (iI (8 + k)), .ref (h.length + 10)]) rfl rfl ?_
    obtain ⟨x2, r2, e2⟩ := m255 (a3 >>> (iI (24 - 8 * k) &&& 31))
    rw [e2]
    refine mi_ist rfl mh_a10 (show 12 ≤ _ by omega) (show 0 ≤ 8 + k by omega) (show 8 + k < (20 : Nat) by omega) (by decide) ?_
    rw [mh_w10 (show 0 ≤ 8 + k by omega), sa_sw]
    refine go_a (pc' := 78) (ls' := [some (.ref h.length), some (.int a1), some (.int a2), some (.int a3), some (.int a4), some (.int a5), some (.int (iI k))]) (st' := [.ref h.length]) rfl rfl ?_
    refine go_get (v := .ref (h.length + 10)) rfl mh_o rfl rfl ?_
    refine go_a (pc' := 83) (ls' := [some (.ref h.length), some (.int a1), some (.int a2), some (.int a3), some (.int a4), some (.int a5), some (.int (iI k))]) (st' := [.int (iI 12), .ref (h.length + 10)]) rfl rfl ?_
    refine go_a (pc' := 85) (ls' := [some (.ref h.length), some (.int a1), some (.int a2), some (.int a3), some (.int a4), some (.int a5), some (.int (iI k))]) (st' := [.int (iI k), .int (iI 12), .ref (h.length + 10)]) rfl rfl ?_
    refine mi_add rfl ?_
    refine go_a (pc' := 88) (ls' := [some (.ref h.length), some (.int a1), some (.int a2), some (.int a3), some (.int a4), some (.int a5), some (.int (iI k))]) (st' := [.int a4, .int (iI (12 + k)), .ref (h.length + 10)]) rfl rfl ?_
    refine go_a (pc' := 90) (ls' := [some (.ref h.length), some (.int a1), some (.int a2), some (.int a3), some (.int a4), some (.int a5), some (.int (iI k))]) (st' := [.int (iI 24), .int a4, .int (iI (12 + k)), .ref (h.length + 10)]) rfl rfl ?_
    refine go_a (pc' := 92) (ls' := [some (.ref h.length), some (.int a1), some (.int a2), some (.int a3), some (.int a4), some (.int a5), some (.int (iI k))]) (st' := [.int (iI 8), .int (iI 24), .int a4, .int (iI (12 + k)), .ref (h.length + 10)]) rfl rfl ?_
    refine go_a (pc' := 94) (ls' := [some (.ref h.length), some (.int a1), some (.int a2), some (.int a3), some (.int a4), some (.int a5), some (.int (iI k))]) (st' := [.int (iI k), .int (iI 8), .int (iI 24), .int a4, .int (iI (12 + k)), .ref (h.length + 10)]) rfl rfl ?_
    refine mi_mul rfl ?_
    refine mi_sub rfl ?_
    refine go_a (pc' := 97) (ls' := [some (.ref h.length), some (.int a1), some (.int a2), some (.int a3), some (.int a4), some (.int a5), some (.int (iI k))]) (st' := [.int (a4 >>> (iI (24 - 8 * k) &&& 31)), .int (iI (12 + k)), .ref (h.length + 10)]) rfl rfl ?_
    refine go_a (pc' := 100) (ls' := [some (.ref h.length), some (.int a1), some (.int a2), some (.int a3), some (.int a4), some (.int a5), some (.int (iI k))]) (st' := [.int (iI 255), .int (a4 >>> (iI (24 - 8 * k) &&& 31)), .int (iI (12 + k)), .ref (h.length + 10)]) rfl rfl ?_
    refine go_a (pc' := 101) (ls' := [some (.ref h.length), some (.int a1), some (.int a2), some (.int a3), some (.int a4), some (.int a5), some (.int (iI k))]) (st' := [.int ((a4 >>> (iI (24 - 8 * k) &&& 31)) &&& iI 255), .int (iI (12 + k)), .ref (h.length + 10)]) rfl rfl ?_
    obtain ⟨x3, r3, e3⟩ := m255 (a4 >>> (iI (24 - 8 * k) &&& 31))
    rw [e3]
    refine mi_ist rfl mh_a10 (show 12 ≤ _ by omega) (show 0 ≤ 12 + k by omega) (show 12 + k < (20 : Nat) by omega) (by decide) ?_
    rw [mh_w10 (show 0 ≤ 12 + k by omega), sa_sw]
    refine go_a (pc' := 103) (ls' := [some (.ref h.length), some (.int a1), some (.int a2), some (.int a3), some (.int a4), some (.int a5), some (.int (iI k))]) (st' := [.ref h.length]) rfl rfl ?_
    refine go_get (v := .ref (h.length + 10)) rfl mh_o rfl rfl ?_
    refine go_a (pc' := 108) (ls' := [some (.ref h.length), some (.int a1), some (.int a2), some (.int a3), some (.int a4), some (.int a5), some (.int (iI k))]) (st' := [.int (iI 16), .ref (h.length + 10)]) rfl rfl ?_
    refine go_a (pc' := 110) (ls' := [some (.ref h.length), some (.int a1), some (.int a2), some (.int a3), some (.int a4), some (.int a5), some (.int (iI k))]) (st' := [.int (iI k), .int (iI 16), .ref (h.length + 10)]) rfl rfl ?_
    refine mi_add rfl ?_
    refine go_a (pc' := 113) (ls' := [some (.ref h.length), some (.int a1), some (.int a2), some (.int a3), some (.int a4), some (.int a5), some (.int (iI k))]) (st' := [.int a5, .int (iI (16 + k)), .ref (h.length + 10)]) rfl rfl ?_
    refine go_a (pc' := 115) (ls' := [some (.ref h.length), some (.int a1), some (.int a2), some (.int a3), some (.int a4), some (.int a5), some (.int (iI k))]) (st' := [.int (iI 24), .int a5, .int (iI (16 + k)), .ref (h.length + 10)]) rfl rfl ?_
    refine go_a (pc' := 117) (ls' := [some (.ref h.length), some (.int a1), some (.int a2), some (.int a3), some (.int a4), some (.int a5), some (.int (iI k))]) (st' := [.int (iI 8), .int (iI 24), .int a5, .int (iI (16 + k)), .ref (h.length + 10)]) rfl rfl ?_
    refine go_a (pc' := 119) (ls' := [some (.ref h.length), some (.int a1), some (.int a2), some (.int a3), some (.int a4), some (.int a5), some (.int (iI k))]) (st' := [.int (iI k), .int (iI 8), .int (iI 24), .int a5, .int (iI (16 + k)), .ref (h.length + 10)]) rfl rfl ?_
    refine mi_mul rfl ?_
    refine mi_sub rfl ?_
    refine go_a (pc' := 122) (ls' := [some (.ref h.length), some (.int a1), some (.int a2), some (.int a3), some (.int a4), some (.int a5), some (.int (iI k))]) (st' := [.int (a5 >>> (iI (24 - 8 * k) &&& 31)), .int (iI (16 + k)), .ref (h.length + 10)]) rfl rfl ?_
    refine go_a (pc' := 125) (ls' := [some (.ref h.length), some (.int a1), some (.int a2), some (.int a3), some (.int a4), some (.int a5), some (.int (iI k))]) (st' := [.int (iI 255), .int (a5 >>> (iI (24 - 8 * k) &&& 31)), .int (iI (16 + k)), .ref (h.length + 10)]) rfl rfl ?_
    refine go_a (pc' := 126) (ls' := [some (.ref h.length), some (.int a1), some (.int a2), some (.int a3), some (.int a4), some (.int a5), some (.int (iI k))]) (st' := [.int ((a5 >>> (iI (24 - 8 * k) &&& 31)) &&& iI 255), .int (iI (16 + k)), .ref (h.length + 10)]) rfl rfl ?_
    obtain ⟨x4, r4, e4⟩ := m255 (a5 >>> (iI (24 - 8 * k) &&& 31))
    rw [e4]
    refine mi_ist rfl mh_a10 (show 12 ≤ _ by omega) (show 0 ≤ 16 + k by omega) (show 16 + k < (20 : Nat) by omega) (by decide) ?_
    rw [mh_w10 (show 0 ≤ 16 + k by omega), sa_sw]
    refine go_a (pc' := 130) (ls' := [some (.ref h.length), some (.int a1), some (.int a2), some (.int a3), some (.int a4), some (.int a5), some (.int (iI (k + 1)))]) (st' := []) rfl (by rw [← iI_add k 1]; rfl) ?_
    refine go_a (pc' := 3) (ls' := [some (.ref h.length), some (.int a1), some (.int a2), some (.int a3), some (.int a4), some (.int a5), some (.int (iI (k + 1)))]) (st' := []) rfl rfl ?_
    exact ih (k + 1) _ (by omega) (by omega) (by omega) (sf_byte (sf_byte (sf_byte (sf_byte (sf_byte hg r0) r1) r2) r3) r4)
theorem mm_feed (z : Value) (d : Nat) (a1 a2 a3 a4 a5 : Int32) (h R : xx_H) (I : Nat → Int) (A : Nat → Int → Int) (N : Int → Int) (hc : 12 ≤ h.length) (hb : ∀ e : Int, 0 ≤ A 10 e ∧ A 10 e ≤ 255) : xx_cl (xt_P z) (d + 1) 66 [.ref h.length, .int a1, .int a2, .int a3, .int a4, .int a5] (mh h R I A N) (fun v h1 => v = none ∧ ∃ g : Int → Int, h1 = mh h R I (sw A 10 g) N ∧ ∀ e : Int, 0 ≤ g e ∧ g e ≤ 255) := by
  refine cl_go rfl ?_
  have L := mm_feed_loop z d a1 a2 a3 a4 a5 h R I A N hc 4 0 (A 10) (by decide) (by decide) (by decide) hb
  rw [sw_self] at L
  show xx_go (xt_P z) d 66 0 [some (.ref h.length), some (.int a1), some (.int a2), some (.int a3), some (.int a4), some (.int a5), none] [] (mh h R I A N) _
  refine go_a (pc' := 1) (ls' := [some (.ref h.length), some (.int a1), some (.int a2), some (.int a3), some (.int a4), some (.int a5), none]) (st' := [.int (iI 0)]) rfl rfl ?_
  refine go_a (pc' := 3) (ls' := [some (.ref h.length), some (.int a1), some (.int a2), some (.int a3), some (.int a4), some (.int a5), some (.int (iI 0))]) (st' := []) rfl rfl ?_
  exact L

