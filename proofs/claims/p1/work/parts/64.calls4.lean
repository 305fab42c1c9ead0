/-! the model on a new object: feed, end, run -/
theorem xn_feed_loop (z : Value) (d c : Nat) (a1 a2 a3 a4 a5 : Int32) (fs W0 : List Value) (hp : xx_H) (hc : 11 ≤ c) (hx : hp[c]? = some (.inr (13, fs))) (hf : fs[11]? = some (.ref (c + 10))) (hw : hp[c + 10]? = some (.inl (.int, W0))) : ∀ (n k : Nat) (W : List Value), k + n = 4 → W.length = 20 → xx_go (xt_P z) d 66 3 [some (.ref c), some (.int a1), some (.int a2), some (.int a3), some (.int a4), some (.int a5), some (.int (nI k))] [] (hp.set (c + 10) (.inl (.int, W))) (fun v h1 => v = none ∧ ∃ W1 : List Value, W1.length = 20 ∧ h1 = hp.set (c + 10) (.inl (.int, W1))) := by
  intro n
  induction n with
  | zero =>
    intro k W e hl
    have e : k = 4 := by omega
    subst e
    refine go_a (pc' := 5) (ls' := [some (.ref c), some (.int a1), some (.int a2), some (.int a3), some (.int a4), some (.int a5), some (.int (nI 4))]) (st' := [(.int (nI 4))]) rfl rfl ?_
    refine go_a (pc' := 6) (ls' := [some (.ref c), some (.int a1), some (.int a2), some (.int a3), some (.int a4), some (.int a5), some (.int (nI 4))]) (st' := [(.int 4), (.int (nI 4))]) rfl rfl ?_
    refine go_a (pc' := 133) (ls' := [some (.ref c), some (.int a1), some (.int a2), some (.int a3), some (.int a4), some (.int a5), some (.int (nI 4))]) (st' := []) rfl rfl ?_
    exact go_r rfl rfl rfl rfl rfl rfl ⟨rfl, W, hl, rfl⟩
  | succ n ih =>
    intro k W e hl
    refine go_a (pc' := 5) (ls' := [some (.ref c), some (.int a1), some (.int a2), some (.int a3), some (.int a4), some (.int a5), some (.int (nI k))]) (st' := [(.int (nI k))]) rfl rfl ?_
    refine go_a (pc' := 6) (ls' := [some (.ref c), some (.int a1), some (.int a2), some (.int a3), some (.int a4), some (.int a5), some (.int (nI k))]) (st' := [.int (nI 4), (.int (nI k))]) rfl rfl ?_
    refine go_if (t := 133) (off := 127) (r := []) rfl rfl rfl (fun hf2 => absurd (of_decide_eq_true hf2) (nI_ge (by omega) (by omega))) (fun _ => ?_)
    refine go_a (pc' := 10) (ls' := [some (.ref c), some (.int a1), some (.int a2), some (.int a3), some (.int a4), some (.int a5), some (.int (nI k))]) (st' := [(.ref c)]) rfl rfl ?_
    refine go_get rfl ((xs_ne (by omega)).trans hx) rfl hf ?_
    refine go_a (pc' := 15) (ls' := [some (.ref c), some (.int a1), some (.int a2), some (.int a3), some (.int a4), some (.int a5), some (.int (nI k))]) (st' := [(.int (nI k)), (.ref (c + 10))]) rfl rfl ?_
    refine go_a (pc' := 16) (ls' := [some (.ref c), some (.int a1), some (.int a2), some (.int a3), some (.int a4), some (.int a5), some (.int (nI k))]) (st' := [(.int a1), (.int (nI k)), (.ref (c + 10))]) rfl rfl ?_
    refine go_a (pc' := 18) (ls' := [some (.ref c), some (.int a1), some (.int a2), some (.int a3), some (.int a4), some (.int a5), some (.int (nI k))]) (st' := [(.int 24), (.int a1), (.int (nI k)), (.ref (c + 10))]) rfl rfl ?_
    refine go_a (pc' := 20) (ls' := [some (.ref c), some (.int a1), some (.int a2), some (.int a3), some (.int a4), some (.int a5), some (.int (nI k))]) (st' := [(.int 8), (.int 24), (.int a1), (.int (nI k)), (.ref (c + 10))]) rfl rfl ?_
    refine go_a (pc' := 22) (ls' := [some (.ref c), some (.int a1), some (.int a2), some (.int a3), some (.int a4), some (.int a5), some (.int (nI k))]) (st' := [(.int (nI k)), (.int 8), (.int 24), (.int a1), (.int (nI k)), (.ref (c + 10))]) rfl rfl ?_
    refine go_a (pc' := 23) (ls' := [some (.ref c), some (.int a1), some (.int a2), some (.int a3), some (.int a4), some (.int a5), some (.int (nI k))]) (st' := [(.int (8 * nI k)), (.int 24), (.int a1), (.int (nI k)), (.ref (c + 10))]) rfl rfl ?_
    refine go_a (pc' := 24) (ls' := [some (.ref c), some (.int a1), some (.int a2), some (.int a3), some (.int a4), some (.int a5), some (.int (nI k))]) (st' := [(.int (24 - 8 * nI k)), (.int a1), (.int (nI k)), (.ref (c + 10))]) rfl rfl ?_
    refine go_a (pc' := 25) (ls' := [some (.ref c), some (.int a1), some (.int a2), some (.int a3), some (.int a4), some (.int a5), some (.int (nI k))]) (st' := [(.int (a1 >>> ((24 - 8 * nI k) &&& 31))), (.int (nI k)), (.ref (c + 10))]) rfl rfl ?_
    refine go_a (pc' := 28) (ls' := [some (.ref c), some (.int a1), some (.int a2), some (.int a3), some (.int a4), some (.int a5), some (.int (nI k))]) (st' := [(.int 255), (.int (a1 >>> ((24 - 8 * nI k) &&& 31))), (.int (nI k)), (.ref (c + 10))]) rfl rfl ?_
    refine go_a (pc' := 29) (ls' := [some (.ref c), some (.int a1), some (.int a2), some (.int a3), some (.int a4), some (.int a5), some (.int (nI k))]) (st' := [(.int (a1 >>> ((24 - 8 * nI k) &&& 31) &&& 255)), (.int (nI k)), (.ref (c + 10))]) rfl rfl ?_
    refine go_ist (m := k) rfl (xs_self hw) (show 11 ≤ _ by omega) (nI_pos (by omega)) (nI_clamp (by omega)) (by rw [hl]; omega) ?_
    rw [List.set_set]
    refine go_a (pc' := 31) (ls' := [some (.ref c), some (.int a1), some (.int a2), some (.int a3), some (.int a4), some (.int a5), some (.int (nI k))]) (st' := [(.ref c)]) rfl rfl ?_
    refine go_get rfl ((xs_ne (by omega)).trans hx) rfl hf ?_
    refine go_a (pc' := 35) (ls' := [some (.ref c), some (.int a1), some (.int a2), some (.int a3), some (.int a4), some (.int a5), some (.int (nI k))]) (st' := [(.int 4), (.ref (c + 10))]) rfl rfl ?_
    refine go_a (pc' := 37) (ls' := [some (.ref c), some (.int a1), some (.int a2), some (.int a3), some (.int a4), some (.int a5), some (.int (nI k))]) (st' := [(.int (nI k)), (.int 4), (.ref (c + 10))]) rfl rfl ?_
    refine go_a (pc' := 38) (ls' := [some (.ref c), some (.int a1), some (.int a2), some (.int a3), some (.int a4), some (.int a5), some (.int (nI k))]) (st' := [(.int (nI (4 + k))), (.ref (c + 10))]) rfl (by rw [← nI_add]; rfl) ?_
    refine go_a (pc' := 39) (ls' := [some (.ref c), some (.int a1), some (.int a2), some (.int a3), some (.int a4), some (.int a5), some (.int (nI k))]) (st' := [(.int a2), (.int (nI (4 + k))), (.ref (c + 10))]) rfl rfl ?_
    refine go_a (pc' := 41) (ls' := [some (.ref c), some (.int a1), some (.int a2), some (.int a3), some (.int a4), some (.int a5), some (.int (nI k))]) (st' := [(.int 24), (.int a2), (.int (nI (4 + k))), (.ref (c + 10))]) rfl rfl ?_
    refine go_a (pc' := 43) (ls' := [some (.ref c), some (.int a1), some (.int a2), some (.int a3), some (.int a4), some (.int a5), some (.int (nI k))]) (st' := [(.int 8), (.int 24), (.int a2), (.int (nI (4 + k))), (.ref (c + 10))]) rfl rfl ?_
    refine go_a (pc' := 45) (ls' := [some (.ref c), some (.int a1), some (.int a2), some (.int a3), some (.int a4), some (.int a5), some (.int (nI k))]) (st' := [(.int (nI k)), (.int 8), (.int 24), (.int a2), (.int (nI (4 + k))), (.ref (c + 10))]) rfl rfl ?_
    refine go_a (pc' := 46) (ls' := [some (.ref c), some (.int a1), some (.int a2), some (.int a3), some (.int a4), some (.int a5), some (.int (nI k))]) (st' := [(.int (8 * nI k)), (.int 24), (.int a2), (.int (nI (4 + k))), (.ref (c + 10))]) rfl rfl ?_
    refine go_a (pc' := 47) (ls' := [some (.ref c), some (.int a1), some (.int a2), some (.int a3), some (.int a4), some (.int a5), some (.int (nI k))]) (st' := [(.int (24 - 8 * nI k)), (.int a2), (.int (nI (4 + k))), (.ref (c + 10))]) rfl rfl ?_
    refine go_a (pc' := 48) (ls' := [some (.ref c), some (.int a1), some (.int a2), some (.int a3), some (.int a4), some (.int a5), some (.int (nI k))]) (st' := [(.int (a2 >>> ((24 - 8 * nI k) &&& 31))), (.int (nI (4 + k))), (.ref (c + 10))]) rfl rfl ?_
    refine go_a (pc' := 51) (ls' := [some (.ref c), some (.int a1), some (.int a2), some (.int a3), some (.int a4), some (.int a5), some (.int (nI k))]) (st' := [(.int 255), (.int (a2 >>> ((24 - 8 * nI k) &&& 31))), (.int (nI (4 + k))), (.ref (c + 10))]) rfl rfl ?_
    refine go_a (pc' := 52) (ls' := [some (.ref c), some (.int a1), some (.int a2), some (.int a3), some (.int a4), some (.int a5), some (.int (nI k))]) (st' := [(.int (a2 >>> ((24 - 8 * nI k) &&& 31) &&& 255)), (.int (nI (4 + k))), (.ref (c + 10))]) rfl rfl ?_
    refine go_ist (m := (4 + k)) rfl (xs_self hw) (show 11 ≤ _ by omega) (nI_pos (by omega)) (nI_clamp (by omega)) (by simp only [List.length_set]; rw [hl]; omega) ?_
    rw [List.set_set]
    refine go_a (pc' := 54) (ls' := [some (.ref c), some (.int a1), some (.int a2), some (.int a3), some (.int a4), some (.int a5), some (.int (nI k))]) (st' := [(.ref c)]) rfl rfl ?_
    refine go_get rfl ((xs_ne (by omega)).trans hx) rfl hf ?_
    refine go_a (pc' := 59) (ls' := [some (.ref c), some (.int a1), some (.int a2), some (.int a3), some (.int a4), some (.int a5), some (.int (nI k))]) (st' := [(.int 8), (.ref (c + 10))]) rfl rfl ?_
    refine go_a (pc' := 61) (ls' := [some (.ref c), some (.int a1), some (.int a2), some (.int a3), some (.int a4), some (.int a5), some (.int (nI k))]) (st' := [(.int (nI k)), (.int 8), (.ref (c + 10))]) rfl rfl ?_
    refine go_a (pc' := 62) (ls' := [some (.ref c), some (.int a1), some (.int a2), some (.int a3), some (.int a4), some (.int a5), some (.int (nI k))]) (st' := [(.int (nI (8 + k))), (.ref (c + 10))]) rfl (by rw [← nI_add]; rfl) ?_
    refine go_a (pc' := 63) (ls' := [some (.ref c), some (.int a1), some (.int a2), some (.int a3), some (.int a4), some (.int a5), some (.int (nI k))]) (st' := [(.int a3), (.int (nI (8 + k))), (.ref (c + 10))]) rfl rfl ?_
    refine go_a (pc' := 65) (ls' := [some (.ref c), some (.int a1), some (.int a2), some (.int a3), some (.int a4), some (.int a5), some (.int (nI k))]) (st' := [(.int 24), (.int a3), (.int (nI (8 + k))), (.ref (c + 10))]) rfl rfl ?_
    refine go_a (pc' := 67) (ls' := [some (.ref c), some (.int a1), some (.int a2), some (.int a3), some (.int a4), some (.int a5), some (.int (nI k))]) (st' := [(.int 8), (.int 24), (.int a3), (.int (nI (8 + k))), (.ref (c + 10))]) rfl rfl ?_
    refine go_a (pc' := 69) (ls' := [some (.ref c), some (.int a1), some (.int a2), some (.int a3), some (.int a4), some (.int a5), some (.int (nI k))]) (st' := [(.int (nI k)), (.int 8), (.int 24), (.int a3), (.int (nI (8 + k))), (.ref (c + 10))]) rfl rfl ?_
    refine go_a (pc' := 70) (ls' := [some (.ref c), some (.int a1), some (.int a2), some (.int a3), some (.int a4), some (.int a5), some (.int (nI k))]) (st' := [(.int (8 * nI k)), (.int 24), (.int a3), (.int (nI (8 + k))), (.ref (c + 10))]) rfl rfl ?_
    refine go_a (pc' := 71) (ls' := [some (.ref c), some (.int a1), some (.int a2), some (.int a3), some (.int a4), some (.int a5), some (.int (nI k))]) (st' := [(.int (24 - 8 * nI k)), (.int a3), (.int (nI (8 + k))), (.ref (c + 10))]) rfl rfl ?_
    refine go_a (pc' := 72) (ls' := [some (.ref c), some (.int a1), some (.int a2), some (.int a3), some (.int a4), some (.int a5), some (.int (nI k))]) (st' := [(.int (a3 >>> ((24 - 8 * nI k) &&& 31))), (.int (nI (8 + k))), (.ref (c + 10))]) rfl rfl ?_
    refine go_a (pc' := 75) (ls' := [some (.ref c), some (.int a1), some (.int a2), some (.int a3), some (.int a4), some (.int a5), some (.int (nI k))]) (st' := [(.int 255), (.int (a3 >>> ((24 - 8 * nI k) &&& 31))), (.int (nI (8 + k))), (.ref (c + 10))]) rfl rfl ?_
    refine go_a (pc' := 76) (ls' := [some (.ref c), some (.int a1), some (.int a2), some (.int a3), some (.int a4), some (.int a5), some (.int (nI k))]) (st' := [(.int (a3 >>> ((24 - 8 * nI k) &&& 31) &&& 255)), (.int (nI (8 + k))), (.ref (c + 10))]) rfl rfl ?_
    refine go_ist (m := (8 + k)) rfl (xs_self hw) (show 11 ≤ _ by omega) (nI_pos (by omega)) (nI_clamp (by omega)) (by simp only [List.length_set]; rw [hl]; omega) ?_
    rw [List.set_set]
    refine go_a (pc' := 78) (ls' := [some (.ref c), some (.int a1), some (.int a2), some (.int a3), some (.int a4), some (.int a5), some (.int (nI k))]) (st' := [(.ref c)]) rfl rfl ?_
    refine go_get rfl ((xs_ne (by omega)).trans hx) rfl hf ?_
    refine go_a (pc' := 83) (ls' := [some (.ref c), some (.int a1), some (.int a2), some (.int a3), some (.int a4), some (.int a5), some (.int (nI k))]) (st' := [(.int 12), (.ref (c + 10))]) rfl rfl ?_
    refine go_a (pc' := 85) (ls' := [some (.ref c), some (.int a1), some (.int a2), some (.int a3), some (.int a4), some (.int a5), some (.int (nI k))]) (st' := [(.int (nI k)), (.int 12), (.ref (c + 10))]) rfl rfl ?_
    refine go_a (pc' := 86) (ls' := [some (.ref c), some (.int a1), some (.int a2), some (.int a3), some (.int a4), some (.int a5), some (.int (nI k))]) (st' := [(.int (nI (12 + k))), (.ref (c + 10))]) rfl (by rw [← nI_add]; rfl) ?_
    refine go_a (pc' := 88) (ls' := [some (.ref c), some (.int a1), some (.int a2), some (.int a3), some (.int a4), some (.int a5), some (.int (nI k))]) (st' := [(.int a4), (.int (nI (12 + k))), (.ref (c + 10))]) rfl rfl ?_
    refine go_a (pc' := 90) (ls' := [some (.ref c), some (.int a1), some (.int a2), some (.int a3), some (.int a4), some (.int a5), some (.int (nI k))]) (st' := [(.int 24), (.int a4), (.int (nI (12 + k))), (.ref (c + 10))]) rfl rfl ?_
    refine go_a (pc' := 92) (ls' := [some (.ref c), some (.int a1), some (.int a2), some (.int a3), some (.int a4), some (.int a5), some (.int (nI k))]) (st' := [(.int 8), (.int 24), (.int a4), (.int (nI (12 + k))), (.ref (c + 10))]) rfl rfl ?_
    refine go_a (pc' := 94) (ls' := [some (.ref c), some (.int a1), some (.int a2), some (.int a3), some (.int a4), some (.int a5), some (.int (nI k))]) (st' := [(.int (nI k)), (.int 8), (.int 24), (.int a4), (.int (nI (12 + k))), (.ref (c + 10))]) rfl rfl ?_
    refine go_a (pc' := 95) (ls' := [some (.ref c), some (.int a1), some (.int a2), some (.int a3), some (.int a4), some (.int a5), some (.int (nI k))]) (st' := [(.int (8 * nI k)), (.int 24), (.int a4), (.int (nI (12 + k))), (.ref (c + 10))]) rfl rfl ?_
    refine go_a (pc' := 96) (ls' := [some (.ref c), some (.int a1), some (.int a2), some (.int a3), some (.int a4), some (.int a5), some (.int (nI k))]) (st' := [(.int (24 - 8 * nI k)), (.int a4), (.int (nI (12 + k))), (.ref (c + 10))]) rfl rfl ?_
    refine go_a (pc' := 97) (ls' := [some (.ref c), some (.int a1), some (.int a2), some (.int a3), some (.int a4), some (.int a5), some (.int (nI k))]) (st' := [(.int (a4 >>> ((24 - 8 * nI k) &&& 31))), (.int (nI (12 + k))), (.ref (c + 10))]) rfl rfl ?_
    refine go_a (pc' := 100) (ls' := [some (.ref c), some (.int a1), some (.int a2), some (.int a3), some (.int a4), some (.int a5), some (.int (nI k))]) (st' := [(.int 255), (.int (a4 >>> ((24 - 8 * nI k) &&& 31))), (.int (nI (12 + k))), (.ref (c + 10))]) rfl rfl ?_
    refine go_a (pc' := 101) (ls' := [some (.ref c), some (.int a1), some (.int a2), some (.int a3), some (.int a4), some (.int a5), some (.int (nI k))]) (st' := [(.int (a4 >>> ((24 - 8 * nI k) &&& 31) &&& 255)), (.int (nI (12 + k))), (.ref (c + 10))]) rfl rfl ?_
    refine go_ist (m := (12 + k)) rfl (xs_self hw) (show 11 ≤ _ by omega) (nI_pos (by omega)) (nI_clamp (by omega)) (by simp only [List.length_set]; rw [hl]; omega) ?_
    rw [List.set_set]
    refine go_a (pc' := 103) (ls' := [some (.ref c), some (.int a1), some (.int a2), some (.int a3), some (.int a4), some (.int a5), some (.int (nI k))]) (st' := [(.ref c)]) rfl rfl ?_
    refine go_get rfl ((xs_ne (by omega)).trans hx) rfl hf ?_
    refine go_a (pc' := 108) (ls' := [some (.ref c), some (.int a1), some (.int a2), some (.int a3), some (.int a4), some (.int a5), some (.int (nI k))]) (st' := [(.int 16), (.ref (c + 10))]) rfl rfl ?_
    refine go_a (pc' := 110) (ls' := [some (.ref c), some (.int a1), some (.int a2), some (.int a3), some (.int a4), some (.int a5), some (.int (nI k))]) (st' := [(.int (nI k)), (.int 16), (.ref (c + 10))]) rfl rfl ?_
    refine go_a (pc' := 111) (ls' := [some (.ref c), some (.int a1), some (.int a2), some (.int a3), some (.int a4), some (.int a5), some (.int (nI k))]) (st' := [(.int (nI (16 + k))), (.ref (c + 10))]) rfl (by rw [← nI_add]; rfl) ?_
    refine go_a (pc' := 113) (ls' := [some (.ref c), some (.int a1), some (.int a2), some (.int a3), some (.int a4), some (.int a5), some (.int (nI k))]) (st' := [(.int a5), (.int (nI (16 + k))), (.ref (c + 10))]) rfl rfl ?_
    refine go_a (pc' := 115) (ls' := [some (.ref c), some (.int a1), some (.int a2), some (.int a3), some (.int a4), some (.int a5), some (.int (nI k))]) (st' := [(.int 24), (.int a5), (.int (nI (16 + k))), (.ref (c + 10))]) rfl rfl ?_
    refine go_a (pc' := 117) (ls' := [some (.ref c), some (.int a1), some (.int a2), some (.int a3), some (.int a4), some (.int a5), some (.int (nI k))]) (st' := [(.int 8), (.int 24), (.int a5), (.int (nI (16 + k))), (.ref (c + 10))]) rfl rfl ?_
    refine go_a (pc' := 119) (ls' := [some (.ref c), some (.int a1), some (.int a2), some (.int a3), some (.int a4), some (.int a5), some (.int (nI k))]) (st' := [(.int (nI k)), (.int 8), (.int 24), (.int a5), (.int (nI (16 + k))), (.ref (c + 10))]) rfl rfl ?_
    refine go_a (pc' := 120) (ls' := [some (.ref c), some (.int a1), some (.int a2), some (.int a3), some (.int a4), some (.int a5), some (.int (nI k))]) (st' := [(.int (8 * nI k)), (.int 24), (.int a5), (.int (nI (16 + k))), (.ref (c + 10))]) rfl rfl ?_
    refine go_a (pc' := 121) (ls' := [some (.ref c), some (.int a1), some (.int a2), some (.int a3), some (.int a4), some (.int a5), some (.int (nI k))]) (st' := [(.int (24 - 8 * nI k)), (.int a5), (.int (nI (16 + k))), (.ref (c + 10))]) rfl rfl ?_
    refine go_a (pc' := 122) (ls' := [some (.ref c), some (.int a1), some (.int a2), some (.int a3), some (.int a4), some (.int a5), some (.int (nI k))]) (st' := [(.int (a5 >>> ((24 - 8 * nI k) &&& 31))), (.int (nI (16 + k))), (.ref (c + 10))]) rfl rfl ?_
    refine go_a (pc' := 125) (ls' := [some (.ref c), some (.int a1), some (.int a2), some (.int a3), some (.int a4), some (.int a5), some (.int (nI k))]) (st' := [(.int 255), (.int (a5 >>> ((24 - 8 * nI k) &&& 31))), (.int (nI (16 + k))), (.ref (c + 10))]) rfl rfl ?_
    refine go_a (pc' := 126) (ls' := [some (.ref c), some (.int a1), some (.int a2), some (.int a3), some (.int a4), some (.int a5), some (.int (nI k))]) (st' := [(.int (a5 >>> ((24 - 8 * nI k) &&& 31) &&& 255)), (.int (nI (16 + k))), (.ref (c + 10))]) rfl rfl ?_
    refine go_ist (m := (16 + k)) rfl (xs_self hw) (show 11 ≤ _ by omega) (nI_pos (by omega)) (nI_clamp (by omega)) (by simp only [List.length_set]; rw [hl]; omega) ?_
    rw [List.set_set]
    refine go_a (pc' := 130) (ls' := [some (.ref c), some (.int a1), some (.int a2), some (.int a3), some (.int a4), some (.int a5), some (.int (nI (k + 1)))]) (st' := []) rfl (by rw [← nI_1 k]; rfl) ?_
    exact go_a (pc' := 3) rfl rfl (ih (k + 1) _ (by omega) (by simp only [List.length_set]; exact hl))
theorem xs_set_eta {h : xx_H} {i : Nat} {e : xx_E} (hi : h[i]? = some e) : h.set i e = h := by
  apply List.ext_getElem?
  intro j
  by_cases q : i = j
  · subst q
    rw [xs_self hi, hi]
  · rw [xs_ne q]
theorem xn_feed (z : Value) (d c : Nat) (a1 a2 a3 a4 a5 : Int32) (fs W : List Value) (hp : xx_H) (hc : 11 ≤ c) (hx : hp[c]? = some (.inr (13, fs))) (hf : fs[11]? = some (.ref (c + 10))) (hw : hp[c + 10]? = some (.inl (.int, W))) (hl : W.length = 20) : xx_cl (xt_P z) (d + 1) 66 [.ref c, .int a1, .int a2, .int a3, .int a4, .int a5] hp (fun v h1 => v = none ∧ xs_F hp h1 c 52) := by
  refine cl_go rfl ?_
  show xx_go (xt_P z) d 66 0 [some (.ref c), some (.int a1), some (.int a2), some (.int a3), some (.int a4), some (.int a5), none] [] (hp) _
  refine go_a (pc' := 1) (ls' := [some (.ref c), some (.int a1), some (.int a2), some (.int a3), some (.int a4), some (.int a5), none]) (st' := [(.int 0)]) rfl rfl ?_
  refine go_a (pc' := 3) (ls' := [some (.ref c), some (.int a1), some (.int a2), some (.int a3), some (.int a4), some (.int a5), some (.int (nI 0))]) (st' := []) rfl rfl ?_
  refine go_w (fun v h1 hq => ?_) (by
    have key := xn_feed_loop z d c a1 a2 a3 a4 a5 fs W hp hc hx hf hw 4 0 W (by omega) hl
    rw [xs_set_eta hw] at key
    exact key)
  obtain ⟨rfl, W1, hl1, rfl⟩ := hq
  exact ⟨rfl, xs_F_set hw (by simp only [xx_sz1]; omega) (by omega) (by omega)⟩
theorem xn_end_zero (z : Value) (d c m : Nat) (fs T T0 W0 : List Value) (hp : xx_H) (hc : 11 ≤ c) (hx : hp[c]? = some (.inr (13, fs))) (hl86 : 13 < fs.length) (f11 : (fs.set 13 (.int (nI m)))[11]? = some (.ref (c + 10))) (hw : hp[c + 10]? = some (.inl (.int, W0))) (ht : hp[c + 11]? = some (.inl (.int, T0))) (hT : T.length = T0.length) : ∀ (n k : Nat) (W : List Value), k + n = 20 → W.length = 20 → W0.length = 20 → xx_go (xt_P z) d 67 66 [some (.ref c), some (.int (nI m)), some (.int (nI k))] [] (((hp.set (c + 11) (.inl (.int, T))).set c (.inr (13, fs.set 13 (.int (nI m))))).set (c + 10) (.inl (.int, W))) (fun v h1 => xs_F hp h1 c 52 ∧ v = some (.int (nI m))) := by
  have x0 : ((hp.set (c + 11) (.inl (.int, T))).set c (.inr (13, fs.set 13 (.int (nI m)))))[c]? = some (.inr (13, fs.set 13 (.int (nI m)))) := xs_self ((xs_ne (by omega)).trans hx)
  have xw : ((hp.set (c + 11) (.inl (.int, T))).set c (.inr (13, fs.set 13 (.int (nI m)))))[c + 10]? = some (.inl (.int, W0)) := by rw [xs_ne (by omega), xs_ne (by omega)]; exact hw
  intro n
  induction n with
  | zero =>
    intro k W e hl hl0
    have e : k = 20 := by omega
    subst e
    refine go_a (pc' := 67) (ls' := [some (.ref c), some (.int (nI m)), some (.int (nI 20))]) (st' := [(.int (nI 20))]) rfl rfl ?_
    refine go_a (pc' := 69) (ls' := [some (.ref c), some (.int (nI m)), some (.int (nI 20))]) (st' := [(.int 20), (.int (nI 20))]) rfl rfl ?_
    refine go_a (pc' := 85) (ls' := [some (.ref c), some (.int (nI m)), some (.int (nI 20))]) (st' := []) rfl rfl ?_
    refine go_a (pc' := 86) (ls' := [some (.ref c), some (.int (nI m)), some (.int (nI 20))]) (st' := [(.ref c)]) rfl rfl ?_
    refine go_get rfl ((xs_ne (by omega)).trans x0) rfl (List.getElem?_set_self hl86) ?_
    exact go_r rfl rfl rfl rfl rfl rfl ⟨xs_F_tr (xs_F_tr (xs_F_set ht (by simp only [xx_sz1]; omega) (by omega) (by omega)) (xs_F_set ((xs_ne (by omega)).trans hx) (by simp only [xx_sz1, List.length_set]) (by omega) (by omega))) (xs_F_set xw (by simp only [xx_sz1]; omega) (by omega) (by omega)), rfl⟩
  | succ n ih =>
    intro k W e hl hl0
    refine go_a (pc' := 67) (ls' := [some (.ref c), some (.int (nI m)), some (.int (nI k))]) (st' := [(.int (nI k))]) rfl rfl ?_
    refine go_a (pc' := 69) (ls' := [some (.ref c), some (.int (nI m)), some (.int (nI k))]) (st' := [.int (nI 20), (.int (nI k))]) rfl rfl ?_
    refine go_if (t := 85) (off := 16) (r := []) rfl rfl rfl (fun hf2 => absurd (of_decide_eq_true hf2) (nI_ge (by omega) (by omega))) (fun _ => ?_)
    refine go_a (pc' := 73) (ls' := [some (.ref c), some (.int (nI m)), some (.int (nI k))]) (st' := [(.ref c)]) rfl rfl ?_
    refine go_get rfl ((xs_ne (by omega)).trans x0) rfl f11 ?_
    refine go_a (pc' := 77) (ls' := [some (.ref c), some (.int (nI m)), some (.int (nI k))]) (st' := [(.int (nI k)), (.ref (c + 10))]) rfl rfl ?_
    refine go_a (pc' := 78) (ls' := [some (.ref c), some (.int (nI m)), some (.int (nI k))]) (st' := [(.int 0), (.int (nI k)), (.ref (c + 10))]) rfl rfl ?_
    refine go_ist (m := k) rfl (xs_self xw) (show 11 ≤ _ by omega) (nI_pos (by omega)) (nI_clamp (by omega)) (by omega) ?_
    rw [List.set_set]
    refine go_a (pc' := 82) (ls' := [some (.ref c), some (.int (nI m)), some (.int (nI (k + 1)))]) (st' := []) rfl (by rw [← nI_1 k]; rfl) ?_
    exact go_a (pc' := 66) rfl rfl (ih (k + 1) _ (by omega) (by rw [List.length_set]; exact hl) hl0)
theorem xn_end_loop (z : Value) (d c m : Nat) (fs T0 W0 : List Value) (hp : xx_H) (hc : 11 ≤ c) (hm : m ≤ 20) (hx : hp[c]? = some (.inr (13, fs))) (hl86 : 13 < fs.length) (f13 : fs[13]? = some (.int 0)) (f12 : fs[12]? = some (.ref (c + 11))) (f11 : fs[11]? = some (.ref (c + 10))) (hw : hp[c + 10]? = some (.inl (.int, W0))) (lW : W0.length = 20) (iW : xs_i W0) (ht : hp[c + 11]? = some (.inl (.int, T0))) (lT : T0.length = 3000) : ∀ (n k : Nat) (T : List Value), k + n = m → T.length = 3000 → xx_go (xt_P z) d 67 26 [some (.ref c), some (.int (nI m)), some (.int (nI k))] [] (hp.set (c + 11) (.inl (.int, T))) (fun v h1 => xs_F hp h1 c 52 ∧ v = some (.int (nI m))) := by
  have f11' : (fs.set 13 (.int (nI m)))[11]? = some (.ref (c + 10)) := by rw [List.getElem?_set_ne (by decide)]; exact f11
  intro n
  induction n with
  | zero =>
    intro k T e hT
    have e : k = m := by omega
    subst e
    refine go_a (pc' := 27) (ls' := [some (.ref c), some (.int (nI k)), some (.int (nI k))]) (st' := [(.int (nI k))]) rfl rfl ?_
    refine go_a (pc' := 28) (ls' := [some (.ref c), some (.int (nI k)), some (.int (nI k))]) (st' := [(.int (nI k)), (.int (nI k))]) rfl rfl ?_
    refine go_if (t := 54) (off := 26) (r := []) rfl rfl rfl (fun _ => ?_) (fun hf => absurd (nI_le (Nat.le_refl _) (by omega)) (of_decide_eq_false hf))
    refine go_a (pc' := 55) (ls' := [some (.ref c), some (.int (nI k)), some (.int (nI k))]) (st' := [(.ref c)]) rfl rfl ?_
    refine go_a (pc' := 56) (ls' := [some (.ref c), some (.int (nI k)), some (.int (nI k))]) (st' := [(.ref c), (.ref c)]) rfl rfl ?_
    refine go_get rfl ((xs_ne (by omega)).trans hx) rfl f13 ?_
    refine go_a (pc' := 60) (ls' := [some (.ref c), some (.int (nI k)), some (.int (nI k))]) (st' := [(.int (nI k)), (.int (nI 0)), (.ref c)]) rfl rfl ?_
    refine go_a (pc' := 61) (ls' := [some (.ref c), some (.int (nI k)), some (.int (nI k))]) (st' := [(.int (nI k)), (.ref c)]) rfl (by show some (_, _, [Value.int (nI 0 + nI k), _]) = _; rw [nI_add, Nat.zero_add]) ?_
    refine go_put (j := 13) rfl ((xs_ne (by omega)).trans hx) rfl rfl (show 11 ≤ _ by omega) hl86 rfl rfl ?_
    refine go_a (pc' := 65) (ls' := [some (.ref c), some (.int (nI k)), some (.int (nI k))]) (st' := [(.int 0)]) rfl rfl ?_
    refine go_a (pc' := 66) (ls' := [some (.ref c), some (.int (nI k)), some (.int (nI 0))]) (st' := []) rfl rfl ?_
    have key := xn_end_zero z d c k fs T T0 W0 hp hc hx hl86 f11' hw ht (by omega) 20 0 W0 (by omega) lW lW
    rw [xs_set_eta (by rw [xs_ne (by omega), xs_ne (by omega)]; exact hw)] at key
    exact key
  | succ n ih =>
    intro k T e hT
    obtain ⟨y, hy⟩ := iW k (by omega)
    refine go_a (pc' := 27) (ls' := [some (.ref c), some (.int (nI m)), some (.int (nI k))]) (st' := [(.int (nI k))]) rfl rfl ?_
    refine go_a (pc' := 28) (ls' := [some (.ref c), some (.int (nI m)), some (.int (nI k))]) (st' := [(.int (nI m)), (.int (nI k))]) rfl rfl ?_
    refine go_if (t := 54) (off := 26) (r := []) rfl rfl rfl (fun hf2 => absurd (of_decide_eq_true hf2) (nI_ge (by omega) (by omega))) (fun _ => ?_)
    refine go_a (pc' := 32) (ls' := [some (.ref c), some (.int (nI m)), some (.int (nI k))]) (st' := [(.ref c)]) rfl rfl ?_
    refine go_get rfl ((xs_ne (by omega)).trans hx) rfl f12 ?_
    refine go_a (pc' := 36) (ls' := [some (.ref c), some (.int (nI m)), some (.int (nI k))]) (st' := [(.ref c), (.ref (c + 11))]) rfl rfl ?_
    refine go_get rfl ((xs_ne (by omega)).trans hx) rfl f13 ?_
    refine go_a (pc' := 40) (ls' := [some (.ref c), some (.int (nI m)), some (.int (nI k))]) (st' := [(.int (nI k)), (.int (nI 0)), (.ref (c + 11))]) rfl rfl ?_
    refine go_a (pc' := 41) (ls' := [some (.ref c), some (.int (nI m)), some (.int (nI k))]) (st' := [(.int (nI k)), (.ref (c + 11))]) rfl (by show some (_, _, [Value.int (nI 0 + nI k), _]) = _; rw [nI_add, Nat.zero_add]) ?_
    refine go_a (pc' := 42) (ls' := [some (.ref c), some (.int (nI m)), some (.int (nI k))]) (st' := [(.ref c), (.int (nI k)), (.ref (c + 11))]) rfl rfl ?_
    refine go_get rfl ((xs_ne (by omega)).trans hx) rfl f11 ?_
    refine go_a (pc' := 46) (ls' := [some (.ref c), some (.int (nI m)), some (.int (nI k))]) (st' := [(.int (nI k)), (.ref (c + 10)), (.int (nI k)), (.ref (c + 11))]) rfl rfl ?_
    refine go_ild (m := k) rfl ((xs_ne (by omega)).trans hw) (nI_pos (by omega)) (nI_clamp (by omega)) hy ?_
    refine go_ist (m := k) rfl (xs_self ht) (show 11 ≤ _ by omega) (nI_pos (by omega)) (nI_clamp (by omega)) (by omega) ?_
    rw [List.set_set]
    refine go_a (pc' := 51) (ls' := [some (.ref c), some (.int (nI m)), some (.int (nI (k + 1)))]) (st' := []) rfl (by rw [← nI_1 k]; rfl) ?_
    exact go_a (pc' := 26) rfl rfl (ih (k + 1) _ (by omega) (by rw [List.length_set]; exact hT))
theorem xn_end (z : Value) (d c : Nat) (n : Int32) (fs T0 W0 : List Value) (hp : xx_H) (hc : 11 ≤ c) (hx : hp[c]? = some (.inr (13, fs))) (hl86 : 13 < fs.length) (f13 : fs[13]? = some (.int 0)) (f12 : fs[12]? = some (.ref (c + 11))) (f11 : fs[11]? = some (.ref (c + 10))) (hw : hp[c + 10]? = some (.inl (.int, W0))) (lW : W0.length = 20) (iW : xs_i W0) (ht : hp[c + 11]? = some (.inl (.int, T0))) (lT : T0.length = 3000) : xx_cl (xt_P z) (d + 1) 67 [.ref c, .int n] hp (fun v h1 => xs_F hp h1 c 52 ∧ ((n < 0 ∨ 20 < n) ∧ v = some (.int (-1)) ∨ ¬ (n < 0 ∨ 20 < n) ∧ v = some (.int n))) := by
  have last : (n < 0 ∨ 20 < n) → xx_go (xt_P z) d 67 22 [some (.ref c), some (.int n), none] [] hp (fun v h1 => xs_F hp h1 c 52 ∧ ((n < 0 ∨ 20 < n) ∧ v = some (.int (-1)) ∨ ¬ (n < 0 ∨ 20 < n) ∧ v = some (.int n))) := by
    intro hn
    refine go_a (pc' := 23) (ls' := [some (.ref c), some (.int n), none]) (st' := [(.int (-1))]) rfl rfl ?_
    exact go_r rfl rfl rfl rfl rfl rfl ⟨xs_F_rf, Or.inl ⟨hn, rfl⟩⟩
  refine cl_go rfl ?_
  show xx_go (xt_P z) d 67 0 [some (.ref c), some (.int n), none] [] (hp) _
  refine go_a (pc' := 1) (ls' := [some (.ref c), some (.int n), none]) (st' := [(.int n)]) rfl rfl ?_
  refine go_if (t := 22) (off := 21) (r := []) rfl rfl rfl (fun hb => last (Or.inl (of_decide_eq_true hb))) (fun n1 => ?_)
  refine go_a (pc' := 5) (ls' := [some (.ref c), some (.int n), none]) (st' := [(.int n)]) rfl rfl ?_
  refine go_a (pc' := 7) (ls' := [some (.ref c), some (.int n), none]) (st' := [(.int 20), (.int n)]) rfl rfl ?_
  refine go_if (t := 22) (off := 15) (r := []) rfl rfl rfl (fun hb => last (Or.inr (of_decide_eq_true hb))) (fun n2 => ?_)
  replace n1 : ¬ n < 0 := of_decide_eq_false n1
  replace n2 : ¬ (20 : Int32) < n := of_decide_eq_false n2
  obtain ⟨m, hm, rfl⟩ := nI_of2 (M := 20) (n := 20) rfl n1 (Int32.not_lt.mp n2)
  refine go_a (pc' := 11) (ls' := [some (.ref c), some (.int (nI m)), none]) (st' := [(.ref c)]) rfl rfl ?_
  refine go_get rfl hx rfl f13 ?_
  refine go_a (pc' := 15) (ls' := [some (.ref c), some (.int (nI m)), none]) (st' := [(.int (nI m)), (.int (nI 0))]) rfl rfl ?_
  refine go_a (pc' := 16) (ls' := [some (.ref c), some (.int (nI m)), none]) (st' := [(.int (nI m))]) rfl (by show some (_, _, [Value.int (nI 0 + nI m)]) = _; rw [nI_add, Nat.zero_add]) ?_
  refine go_a (pc' := 19) (ls' := [some (.ref c), some (.int (nI m)), none]) (st' := [.int (nI 3000), (.int (nI m))]) rfl rfl ?_
  refine go_if (t := 24) (off := 5) (r := []) rfl rfl rfl (fun _ => ?_) (fun hf => absurd (nI_le (a := m) (b := 3000) (by omega) (by omega)) (of_decide_eq_false hf))
  refine go_a (pc' := 25) (ls' := [some (.ref c), some (.int (nI m)), none]) (st' := [(.int 0)]) rfl rfl ?_
  refine go_a (pc' := 26) (ls' := [some (.ref c), some (.int (nI m)), some (.int (nI 0))]) (st' := []) rfl rfl ?_
  have key := xn_end_loop z d c m fs T0 W0 hp hc hm hx hl86 f13 f12 f11 hw lW iW ht lT m 0 T0 (by omega) lT
  rw [xs_set_eta ht] at key
  refine go_w (fun v h1 hq => ⟨hq.1, Or.inr ⟨fun hn => ?_, hq.2⟩⟩) key
  rcases hn with hn | hn
  · exact n1 hn
  · exact n2 hn
theorem xn_skip0 (z : Value) (d x : Nat) (fs : List Value) (hp : xx_H) (hx : hp[x]? = some (.inr (13, fs))) (f20 : fs[20]? = some (.int 0)) (f13 : fs[13]? = some (.int 0)) : xx_cl (xt_P z) (d + 1) 71 [.ref x] hp (fun w h1 => w = none ∧ h1 = hp) := by
  refine cl_go rfl ?_
  show xx_go (xt_P z) d 71 0 [some (.ref x), none] [] (hp) _
  refine go_a (pc' := 1) (ls' := [some (.ref x), none]) (st' := [(.int 1)]) rfl rfl ?_
  refine go_a (pc' := 2) (ls' := [some (.ref x), some (.int 1)]) (st' := []) rfl rfl ?_
  refine go_a (pc' := 3) (ls' := [some (.ref x), some (.int 1)]) (st' := [(.int 1)]) rfl rfl ?_
  refine go_a (pc' := 6) (ls' := [some (.ref x), some (.int 1)]) (st' := []) rfl rfl ?_
  refine go_a (pc' := 7) (ls' := [some (.ref x), some (.int 1)]) (st' := [(.ref x)]) rfl rfl ?_
  refine go_get rfl hx rfl f20 ?_
  refine go_a (pc' := 11) (ls' := [some (.ref x), some (.int 1)]) (st' := [(.ref x), (.int 0)]) rfl rfl ?_
  refine go_get rfl hx rfl f13 ?_
  refine go_a (pc' := 115) (ls' := [some (.ref x), some (.int 1)]) (st' := []) rfl rfl ?_
  exact go_r rfl rfl rfl rfl rfl rfl ⟨rfl, rfl⟩
theorem xn_bad (z : Value) (d x : Nat) (a b : Int32) (fs : List Value) (hp : xx_H) (hc : 11 ≤ x) (hx : hp[x]? = some (.inr (13, fs))) (hl : fs.length = 86) (f21 : fs[21]? = some (.int 0)) : xx_cl (xt_P z) (d + 1) 72 [.ref x, .int a, .int b] hp (fun w h1 => w = none ∧ h1 = hp.set x (.inr (13, (fs.set 21 (.int a)).set 22 (.int b)))) := by
  refine cl_go rfl ?_
  show xx_go (xt_P z) d 72 0 [some (.ref x), some (.int a), some (.int b)] [] (hp) _
  refine go_a (pc' := 1) (ls' := [some (.ref x), some (.int a), some (.int b)]) (st' := [(.ref x)]) rfl rfl ?_
  refine go_get rfl hx rfl f21 ?_
  refine go_a (pc' := 8) (ls' := [some (.ref x), some (.int a), some (.int b)]) (st' := []) rfl rfl ?_
  refine go_a (pc' := 9) (ls' := [some (.ref x), some (.int a), some (.int b)]) (st' := [(.ref x)]) rfl rfl ?_
  refine go_a (pc' := 10) (ls' := [some (.ref x), some (.int a), some (.int b)]) (st' := [(.int a), (.ref x)]) rfl rfl ?_
  refine go_put (j := 21) rfl hx rfl rfl hc (by omega) rfl rfl ?_
  refine go_a (pc' := 14) (ls' := [some (.ref x), some (.int a), some (.int b)]) (st' := [(.ref x)]) rfl rfl ?_
  refine go_a (pc' := 15) (ls' := [some (.ref x), some (.int a), some (.int b)]) (st' := [(.int b), (.ref x)]) rfl rfl ?_
  refine go_put (j := 22) rfl (xs_self hx) rfl rfl hc (by rw [List.length_set]; omega) rfl rfl ?_
  rw [List.set_set]
  exact go_r rfl rfl rfl rfl rfl rfl ⟨rfl, rfl⟩
theorem xn_forget0 (z : Value) (d x o : Nat) (fs : List Value) (hp : xx_H) (ho : o < 2 ^ 31) (hx : hp[x]? = some (.inr (13, fs))) (f7 : fs[7]? = some (.int (nI o))) : xx_cl (xt_P z) (d + 1) 73 [.ref x, .int (nI o)] hp (fun w h1 => w = none ∧ h1 = hp) := by
  refine cl_go rfl ?_
  show xx_go (xt_P z) d 73 0 [some (.ref x), some (.int (nI o))] [] (hp) _
  refine go_a (pc' := 1) (ls' := [some (.ref x), some (.int (nI o))]) (st' := [(.ref x)]) rfl rfl ?_
  refine go_get rfl hx rfl f7 ?_
  refine go_a (pc' := 5) (ls' := [some (.ref x), some (.int (nI o))]) (st' := [(.int (nI o)), (.int (nI o))]) rfl rfl ?_
  refine go_if (t := 67) (off := 62) (r := []) rfl rfl rfl (fun _ => ?_) (fun hf => absurd (nI_le (Nat.le_refl _) ho) (of_decide_eq_false hf))
  exact go_r rfl rfl rfl rfl rfl rfl ⟨rfl, rfl⟩
def xn_F1 (c o w : Nat) : List Value := [.ref (c + 1), .ref (c + 2), .ref (c + 3), .ref (c + 4), .ref (c + 5), .ref (c + 6), .ref (c + 7), .int (nI o), .ref (c + 8), .ref (c + 9), .int (nI o), .ref (c + 10), .ref (c + 11), .int 0, .ref (c + 12), .int 0, .ref (c + 13), .int (nI w), .ref (c + 14), .int 0, .int 0, .int 0, .int (-1), .ref (c + 15), .ref (c + 16), .ref (c + 17), .ref (c + 18), .int 0, .ref (c + 19), .int 0, .int 0, .int 0, .int 0, .ref (c + 20), .ref (c + 21), .ref (c + 22), .ref (c + 23), .ref (c + 24), .int 0, .ref (c + 25), .ref (c + 26), .int 0, .ref (c + 27), .ref (c + 28), .int (-1), .int 0, .int (nI o), .int 1000, .int 0, .int 0, .int 0, .ref (c + 29), .ref (c + 30), .ref (c + 31), .int 0, .ref (c + 32), .int 0, .ref (c + 33), .ref (c + 34), .int 0, .ref (c + 35), .int 0, .ref (c + 36), .int 0, .ref (c + 37), .int 0, .ref (c + 38), .int 0, .ref (c + 39), .ref (c + 40), .ref (c + 41), .int 0, .ref (c + 42), .ref (c + 43), .ref (c + 44), .ref (c + 45), .int 0, .ref (c + 46), .ref (c + 47), .ref (c + 48), .ref (c + 49), .int 0, .ref (c + 50), .ref (c + 51), .int 0, .int 0]
def xn_F2 (c o w : Nat) : List Value := [.ref (c + 1), .ref (c + 2), .ref (c + 3), .ref (c + 4), .ref (c + 5), .ref (c + 6), .ref (c + 7), .int (nI o), .ref (c + 8), .ref (c + 9), .int (nI o), .ref (c + 10), .ref (c + 11), .int 0, .ref (c + 12), .int 0, .ref (c + 13), .int (nI w), .ref (c + 14), .int 0, .int 0, .int 0, .int (-1), .ref (c + 15), .ref (c + 16), .ref (c + 17), .ref (c + 18), .int 0, .ref (c + 19), .int 0, .int 0, .int 0, .int 0, .ref (c + 20), .ref (c + 21), .ref (c + 22), .ref (c + 23), .ref (c + 24), .int 0, .ref (c + 25), .ref (c + 26), .int 0, .ref (c + 27), .ref (c + 28), .int (-1), .int 0, .int (nI o), .int 1000, .int 0, .int 0, .int 0, .ref (c + 29), .ref (c + 30), .ref (c + 31), .int 0, .ref (c + 32), .int 0, .ref (c + 33), .ref (c + 34), .int 0, .ref (c + 35), .int 0, .ref (c + 36), .int 0, .ref (c + 37), .int 0, .ref (c + 38), .int 0, .ref (c + 39), .ref (c + 40), .ref (c + 41), .int 0, .ref (c + 42), .ref (c + 43), .ref (c + 44), .ref (c + 45), .int 0, .ref (c + 46), .ref (c + 47), .ref (c + 48), .ref (c + 49), .int 0, .ref (c + 50), .ref (c + 51), .int 0, .int 0]
def xn_F3 (c o w : Nat) : List Value := [.ref (c + 1), .ref (c + 2), .ref (c + 3), .ref (c + 4), .ref (c + 5), .ref (c + 6), .ref (c + 7), .int (nI o), .ref (c + 8), .ref (c + 9), .int (nI o), .ref (c + 10), .ref (c + 11), .int 0, .ref (c + 12), .int 0, .ref (c + 13), .int (nI w), .ref (c + 14), .int 0, .int 0, .int 3, .int 0, .ref (c + 15), .ref (c + 16), .ref (c + 17), .ref (c + 18), .int 0, .ref (c + 19), .int 0, .int 0, .int 0, .int 0, .ref (c + 20), .ref (c + 21), .ref (c + 22), .ref (c + 23), .ref (c + 24), .int 0, .ref (c + 25), .ref (c + 26), .int 0, .ref (c + 27), .ref (c + 28), .int (-1), .int 0, .int (nI o), .int 1000, .int 0, .int 0, .int 0, .ref (c + 29), .ref (c + 30), .ref (c + 31), .int 0, .ref (c + 32), .int 0, .ref (c + 33), .ref (c + 34), .int 0, .ref (c + 35), .int 0, .ref (c + 36), .int 0, .ref (c + 37), .int 0, .ref (c + 38), .int 0, .ref (c + 39), .ref (c + 40), .ref (c + 41), .int 0, .ref (c + 42), .ref (c + 43), .ref (c + 44), .ref (c + 45), .int 0, .ref (c + 46), .ref (c + 47), .ref (c + 48), .ref (c + 49), .int 0, .ref (c + 50), .ref (c + 51), .int 0, .int 0]
theorem xn_reads0 (z : Value) (d c o w : Nat) (hp : xx_H) (hc : 11 ≤ c) (hx : hp[c]? = some (.inr (13, xr_fs c (nI o) (nI o) (nI w)))) : xx_cl (xt_P z) (d + 2) 70 [.ref c] (hp.set c (.inr (13, xn_F1 c o w))) (fun v h1 => v = some (.int 0) ∧ h1 = hp.set c (.inr (13, xn_F3 c o w))) := by
  refine cl_go rfl ?_
  show xx_go (xt_P z) (d + 1) 70 0 [some (.ref c), none] [] (hp.set c (.inr (13, xn_F1 c o w))) _
  refine go_a (pc' := 1) (ls' := [some (.ref c), none]) (st' := [(.ref c)]) rfl rfl ?_
  refine go_a (pc' := 2) (ls' := [some (.ref c), none]) (st' := [(.int 0), (.ref c)]) rfl rfl ?_
  refine go_put (j := 20) rfl (xs_self hx) rfl rfl hc (show 20 < 86 by decide) rfl rfl ?_
  rw [List.set_set]
  refine go_a (pc' := 6) (ls' := [some (.ref c), none]) (st' := [(.ref c)]) rfl rfl ?_
  refine go_a (pc' := 7) (ls' := [some (.ref c), none]) (st' := [(.int 0), (.ref c)]) rfl rfl ?_
  refine go_put (j := 27) rfl (xs_self hx) rfl rfl hc (show 27 < 86 by decide) rfl rfl ?_
  rw [List.set_set]
  refine go_a (pc' := 11) (ls' := [some (.ref c), none]) (st' := [(.ref c)]) rfl rfl ?_
  refine go_a (pc' := 12) (ls' := [some (.ref c), none]) (st' := [(.int 0), (.ref c)]) rfl rfl ?_
  refine go_put (j := 29) rfl (xs_self hx) rfl rfl hc (show 29 < 86 by decide) rfl rfl ?_
  rw [List.set_set]
  refine go_a (pc' := 16) (ls' := [some (.ref c), none]) (st' := [(.ref c)]) rfl rfl ?_
  refine go_a (pc' := 17) (ls' := [some (.ref c), none]) (st' := [(.int 0), (.ref c)]) rfl rfl ?_
  refine go_put (j := 31) rfl (xs_self hx) rfl rfl hc (show 31 < 86 by decide) rfl rfl ?_
  rw [List.set_set]
  refine go_a (pc' := 21) (ls' := [some (.ref c), none]) (st' := [(.ref c)]) rfl rfl ?_
  refine go_a (pc' := 22) (ls' := [some (.ref c), none]) (st' := [(.int 0), (.ref c)]) rfl rfl ?_
  refine go_put (j := 21) rfl (xs_self hx) rfl rfl hc (show 21 < 86 by decide) rfl rfl ?_
  rw [List.set_set]
  refine go_a (pc' := 26) (ls' := [some (.ref c), none]) (st' := [(.ref c)]) rfl rfl ?_
  refine go_a (pc' := 27) (ls' := [some (.ref c), none]) (st' := [(.int (-1)), (.ref c)]) rfl rfl ?_
  refine go_put (j := 22) rfl (xs_self hx) rfl rfl hc (show 22 < 86 by decide) rfl rfl ?_
  rw [List.set_set]
  show xx_go (xt_P z) (d + 1) 70 30 [some (.ref c), none] [] (hp.set c (.inr (13, xn_F2 c o w))) _
  refine go_a (pc' := 31) (ls' := [some (.ref c), none]) (st' := [(.int 0)]) rfl rfl ?_
  refine go_a (pc' := 32) (ls' := [some (.ref c), some (.int 0)]) (st' := []) rfl rfl ?_
  refine go_a (pc' := 33) (ls' := [some (.ref c), some (.int 0)]) (st' := [(.ref c)]) rfl rfl ?_
  refine go_v (m := 71) (as := [.ref c]) (r := []) rfl rfl rfl (xs_self hx) rfl rfl (xn_skip0 z d c _ _ (xs_self hx) rfl rfl) (fun w h5 hq => ?_)
  obtain ⟨rfl, rfl⟩ := hq
  show xx_go (xt_P z) (d + 1) 70 36 [some (.ref c), some (.int 0)] [] (hp.set c (.inr (13, xn_F2 c o w))) _
  refine go_a (pc' := 37) (ls' := [some (.ref c), some (.int 0)]) (st' := [(.ref c)]) rfl rfl ?_
  refine go_get rfl (xs_self hx) rfl rfl ?_
  refine go_a (pc' := 43) (ls' := [some (.ref c), some (.int 0)]) (st' := []) rfl rfl ?_
  refine go_a (pc' := 44) (ls' := [some (.ref c), some (.int 0)]) (st' := [(.ref c)]) rfl rfl ?_
  refine go_get rfl (xs_self hx) rfl rfl ?_
  refine go_a (pc' := 48) (ls' := [some (.ref c), some (.int 0)]) (st' := [(.ref c), (.int 0)]) rfl rfl ?_
  refine go_get rfl (xs_self hx) rfl rfl ?_
  refine go_a (pc' := 69) (ls' := [some (.ref c), some (.int 0)]) (st' := []) rfl rfl ?_
  refine go_a (pc' := 70) (ls' := [some (.ref c), some (.int 0)]) (st' := [(.ref c)]) rfl rfl ?_
  refine go_get rfl (xs_self hx) rfl rfl ?_
  refine go_a (pc' := 76) (ls' := [some (.ref c), some (.int 0)]) (st' := []) rfl rfl ?_
  refine go_a (pc' := 77) (ls' := [some (.ref c), some (.int 0)]) (st' := [(.ref c)]) rfl rfl ?_
  refine go_get rfl (xs_self hx) rfl rfl ?_
  refine go_a (pc' := 83) (ls' := [some (.ref c), some (.int 0)]) (st' := []) rfl rfl ?_
  refine go_a (pc' := 84) (ls' := [some (.ref c), some (.int 0)]) (st' := [(.ref c)]) rfl rfl ?_
  refine go_a (pc' := 85) (ls' := [some (.ref c), some (.int 0)]) (st' := [(.int 3), (.ref c)]) rfl rfl ?_
  refine go_a (pc' := 86) (ls' := [some (.ref c), some (.int 0)]) (st' := [(.ref c), (.int 3), (.ref c)]) rfl rfl ?_
  refine go_get rfl (xs_self hx) rfl rfl ?_
  refine go_v (m := 72) (as := [.ref c, .int 3, .int 0]) (r := []) rfl rfl rfl (xs_self hx) rfl rfl (xn_bad z d c 3 0 _ _ hc (xs_self hx) rfl rfl) (fun w h5 hq => ?_)
  obtain ⟨rfl, hq⟩ := hq
  rw [List.set_set] at hq
  subst hq
  refine go_a (pc' := 93) (ls' := [some (.ref c), some (.int 0)]) (st' := [(.ref c)]) rfl rfl ?_
  refine go_a (pc' := 94) (ls' := [some (.ref c), some (.int 0)]) (st' := [(.int 0), (.ref c)]) rfl rfl ?_
  refine go_put (j := 13) rfl (xs_self hx) rfl rfl hc (show 13 < 86 by decide) rfl rfl ?_
  rw [List.set_set]
  show xx_go (xt_P z) (d + 1) 70 97 [some (.ref c), some (.int 0)] [] (hp.set c (.inr (13, xn_F3 c o w))) _
  refine go_a (pc' := 98) (ls' := [some (.ref c), some (.int 0)]) (st' := [(.ref c)]) rfl rfl ?_
  refine go_get rfl (xs_self hx) rfl rfl ?_
  refine go_a (pc' := 108) (ls' := [some (.ref c), some (.int 0)]) (st' := []) rfl rfl ?_
  refine go_a (pc' := 109) (ls' := [some (.ref c), some (.int 0)]) (st' := [(.int 0)]) rfl rfl ?_
  exact go_r rfl rfl rfl rfl rfl rfl ⟨rfl, rfl⟩
theorem xn_run (z : Value) (d c o w : Nat) (hp : xx_H) (hc : 11 ≤ c) (ho : o < 2 ^ 31) (hx : hp[c]? = some (.inr (13, xr_fs c (nI o) (nI o) (nI w)))) : xx_cl (xt_P z) (d + 3) 69 [.ref c] hp (fun v h1 => v = some (.int 1) ∧ xs_F hp h1 c 52) := by
  refine cl_go rfl ?_
  show xx_go (xt_P z) (d + 2) 69 0 [some (.ref c), none, none] [] (hp) _
  refine go_a (pc' := 1) (ls' := [some (.ref c), none, none]) (st' := [(.ref c)]) rfl rfl ?_
  refine go_a (pc' := 2) (ls' := [some (.ref c), none, none]) (st' := [(.int 0), (.ref c)]) rfl rfl ?_
  refine go_put (j := 48) rfl hx rfl rfl hc (show 48 < 86 by decide) rfl rfl ?_
  refine go_a (pc' := 6) (ls' := [some (.ref c), none, none]) (st' := [(.ref c)]) rfl rfl ?_
  refine go_a (pc' := 7) (ls' := [some (.ref c), none, none]) (st' := [(.int 0), (.ref c)]) rfl rfl ?_
  refine go_put (j := 49) rfl (xs_self hx) rfl rfl hc (show 49 < 86 by decide) rfl rfl ?_
  rw [List.set_set]
  refine go_a (pc' := 11) (ls' := [some (.ref c), none, none]) (st' := [(.ref c)]) rfl rfl ?_
  refine go_a (pc' := 12) (ls' := [some (.ref c), none, none]) (st' := [(.int 0), (.ref c)]) rfl rfl ?_
  refine go_put (j := 15) rfl (xs_self hx) rfl rfl hc (show 15 < 86 by decide) rfl rfl ?_
  rw [List.set_set]
  refine go_a (pc' := 16) (ls' := [some (.ref c), none, none]) (st' := [(.ref c)]) rfl rfl ?_
  refine go_a (pc' := 17) (ls' := [some (.ref c), none, none]) (st' := [(.ref c), (.ref c)]) rfl rfl ?_
  refine go_get rfl (xs_self hx) rfl rfl ?_
  refine go_put (j := 46) rfl (xs_self hx) rfl rfl hc (show 46 < 86 by decide) rfl rfl ?_
  rw [List.set_set]
  show xx_go (xt_P z) (d + 2) 69 23 [some (.ref c), none, none] [] (hp.set c (.inr (13, xn_F1 c o w))) _
  refine go_a (pc' := 24) (ls' := [some (.ref c), none, none]) (st' := [(.ref c)]) rfl rfl ?_
  refine go_v (m := 70) (as := [.ref c]) (r := []) rfl rfl rfl (xs_self hx) rfl rfl (xn_reads0 z d c o w hp hc hx) (fun w h5 hq => ?_)
  obtain ⟨rfl, rfl⟩ := hq
  show xx_go (xt_P z) (d + 2) 69 27 [some (.ref c), none, none] [(.int 0)] (hp.set c (.inr (13, xn_F3 c o w))) _
  refine go_a (pc' := 30) (ls' := [some (.ref c), none, none]) (st' := []) rfl rfl ?_
  refine go_a (pc' := 31) (ls' := [some (.ref c), none, none]) (st' := [(.ref c)]) rfl rfl ?_
  refine go_a (pc' := 32) (ls' := [some (.ref c), none, none]) (st' := [(.ref c), (.ref c)]) rfl rfl ?_
  refine go_get rfl (xs_self hx) rfl rfl ?_
  refine go_v (m := 73) (as := [.ref c, .int (nI o)]) (r := []) rfl rfl rfl (xs_self hx) rfl rfl (xn_forget0 z (d + 1) c o _ _ ho (xs_self hx) rfl) (fun w h5 hq => ?_)
  obtain ⟨rfl, rfl⟩ := hq
  show xx_go (xt_P z) (d + 2) 69 38 [some (.ref c), none, none] [] (hp.set c (.inr (13, xn_F3 c o w))) _
  refine go_a (pc' := 39) (ls' := [some (.ref c), none, none]) (st' := [(.int 1)]) rfl rfl ?_
  exact go_r rfl rfl rfl rfl rfl rfl ⟨rfl, xs_F_set hx rfl (by omega) (by omega)⟩
