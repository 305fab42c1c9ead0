/-! Cells.numberOf: its loop, its entry; symbol -/
theorem xm_num_loop (z : Value) (d c u s : Nat) (y : Int64) (g : Int32) (h : xx_H) (hc : 11 ≤ c) (hu : u < 64) (hs : s < 512) (hC : xs_C h c u) : ∀ (r n : Nat) (k : Int32), n + r = u → xx_go (xt_P z) d 14 18 [some (.ref c), some (.long y), none, some (.int g), some (.int (nI s)), some (.int k), some (.int (nI n))] [] h (fun w h1 => ∃ (x : Int32) (u1 : Nat), w = some (.int x) ∧ u ≤ u1 ∧ u1 ≤ u + 1 ∧ xs_C h1 c u1 ∧ xs_F h h1 c 5) := by
  have tail : ∀ (k n : Int32), xx_go (xt_P z) d 14 71 [some (.ref c), some (.long y), none, some (.int g), some (.int (nI s)), some (.int k), some (.int n)] [] h (fun w h1 => ∃ (x : Int32) (u1 : Nat), w = some (.int x) ∧ u ≤ u1 ∧ u1 ≤ u + 1 ∧ xs_C h1 c u1 ∧ xs_F h h1 c 5) := fun k n => go_w (fun w h1 hq => by
    obtain ⟨x, e1, e2, e3⟩ := hq
    exact ⟨x, u + 1, e1, by omega, by omega, e2, e3⟩) (xm_num_tail z d c u s y g k n h hc hu hs hC)
  have hC0 := hC
  obtain ⟨K, G, N, S, h0, h1, h2, h3, h4, l1, l2, l3, l4, t1, t3, t4⟩ := hC
  intro r
  induction r with
  | zero =>
    intro n k hn
    have hn : n = u := by omega
    subst hn
    refine go_a (pc' := 20) (ls' := [some (.ref c), some (.long y), none, some (.int g), some (.int (nI s)), some (.int k), some (.int (nI n))]) (st' := [(.int (nI n))]) rfl rfl ?_
    refine go_a (pc' := 21) (ls' := [some (.ref c), some (.long y), none, some (.int g), some (.int (nI s)), some (.int k), some (.int (nI n))]) (st' := [(.ref c), (.int (nI n))]) rfl rfl ?_
    refine go_get rfl h0 rfl rfl ?_
    refine go_if (t := 71) (off := 47) (b := decide (nI n ≤ nI n)) (r := []) rfl rfl rfl (fun _ => tail k (nI n)) (fun hf => absurd (nI_le (Nat.le_refl _) (by omega)) (of_decide_eq_false hf))
  | succ r ih =>
    intro n k hn
    refine go_a (pc' := 20) (ls' := [some (.ref c), some (.long y), none, some (.int g), some (.int (nI s)), some (.int k), some (.int (nI n))]) (st' := [(.int (nI n))]) rfl rfl ?_
    refine go_a (pc' := 21) (ls' := [some (.ref c), some (.long y), none, some (.int g), some (.int (nI s)), some (.int k), some (.int (nI n))]) (st' := [(.ref c), (.int (nI n))]) rfl rfl ?_
    refine go_get rfl h0 rfl rfl ?_
    refine go_if (t := 71) (off := 47) (b := decide (nI u ≤ nI n)) (r := []) rfl rfl rfl (fun _ => tail k (nI n)) (fun _ => ?_)
    refine go_a (pc' := 29) (ls' := [some (.ref c), some (.long y), none, some (.int g), some (.int (nI s)), some (.int k), some (.int (nI n))]) (st' := [(.int k)]) rfl rfl ?_
    refine go_if (t := 71) (off := 42) (b := decide (k < 0)) (r := []) rfl rfl rfl (fun _ => tail k (nI n)) (fun hk0 => ?_)
    refine go_a (pc' := 34) (ls' := [some (.ref c), some (.long y), none, some (.int g), some (.int (nI s)), some (.int k), some (.int (nI n))]) (st' := [(.int k)]) rfl rfl ?_
    refine go_a (pc' := 35) (ls' := [some (.ref c), some (.long y), none, some (.int g), some (.int (nI s)), some (.int k), some (.int (nI n))]) (st' := [(.ref c), (.int k)]) rfl rfl ?_
    refine go_get rfl h0 rfl rfl ?_
    refine go_if (t := 71) (off := 33) (b := decide (nI u ≤ k)) (r := []) rfl rfl rfl (fun _ => tail k (nI n)) (fun hk1 => ?_)
    obtain ⟨j, hj, rfl, -⟩ := pk_mu (of_decide_eq_false hk0) (of_decide_eq_false hk1) (by omega)
    obtain ⟨x, hx⟩ := t1 j (by omega)
    obtain ⟨nx, hnx⟩ := t3 j (by omega)
    refine go_a (pc' := 42) (ls' := [some (.ref c), some (.long y), none, some (.int g), some (.int (nI s)), some (.int (nI j)), some (.int (nI n))]) (st' := [(.ref c)]) rfl rfl ?_
    refine go_get rfl h0 rfl rfl ?_
    refine go_a (pc' := 47) (ls' := [some (.ref c), some (.long y), none, some (.int g), some (.int (nI s)), some (.int (nI j)), some (.int (nI n))]) (st' := [(.int (nI j)), (.ref (c + 1))]) rfl rfl ?_
    refine go_lld rfl h1 (nI_pos (by omega)) (nI_clamp (by omega)) hx ?_
    refine go_a (pc' := 49) (ls' := [some (.ref c), some (.long y), none, some (.int g), some (.int (nI s)), some (.int (nI j)), some (.int (nI n))]) (st' := [(.long y), (.long x)]) rfl rfl ?_
    refine go_a (pc' := 50) (ls' := [some (.ref c), some (.long y), none, some (.int g), some (.int (nI s)), some (.int (nI j)), some (.int (nI n))]) (st' := [.int (lg_cmp x y)]) rfl rfl ?_
    refine go_if (t := 56) (off := 6) (b := decide (¬ lg_cmp x y = 0)) (r := []) rfl rfl rfl (fun _ => ?_) (fun _ => ?_)
    · refine go_a (pc' := 57) (ls' := [some (.ref c), some (.long y), none, some (.int g), some (.int (nI s)), some (.int (nI j)), some (.int (nI n))]) (st' := [(.ref c)]) rfl rfl ?_
      refine go_get rfl h0 rfl rfl ?_
      refine go_a (pc' := 62) (ls' := [some (.ref c), some (.long y), none, some (.int g), some (.int (nI s)), some (.int (nI j)), some (.int (nI n))]) (st' := [(.int (nI j)), (.ref (c + 3))]) rfl rfl ?_
      refine go_ild rfl h3 (nI_pos (by omega)) (nI_clamp (by omega)) hnx ?_
      refine go_a (pc' := 65) (ls' := [some (.ref c), some (.long y), none, some (.int g), some (.int (nI s)), some (.int nx), some (.int (nI n))]) (st' := []) rfl rfl ?_
      refine go_a (pc' := 68) (ls' := [some (.ref c), some (.long y), none, some (.int g), some (.int (nI s)), some (.int nx), some (.int (nI (n + 1)))]) (st' := []) rfl (by rw [← nI_1 n]; rfl) ?_
      exact go_a (pc' := 18) rfl rfl (ih (n + 1) nx (by omega))
    · refine go_a (pc' := 55) (ls' := [some (.ref c), some (.long y), none, some (.int g), some (.int (nI s)), some (.int (nI j)), some (.int (nI n))]) (st' := [(.int (nI j))]) rfl rfl ?_
      exact go_r rfl rfl rfl rfl rfl rfl ⟨_, u, rfl, Nat.le_refl _, by omega, hC0, xs_F_rf⟩
theorem xm_number (z : Value) (d c u : Nat) (y : Int64) (g : Int32) (h : xx_H) (hc : 11 ≤ c) (hu : u < 64) (hC : xs_C h c u) : xx_cl (xt_P z) (d + 2) 14 [.ref c, .long y, .int g] h (fun w h1 => ∃ (x : Int32) (u1 : Nat), w = some (.int x) ∧ u ≤ u1 ∧ u1 ≤ u + 1 ∧ xs_C h1 c u1 ∧ xs_F h h1 c 5) := by
  have hC0 := hC
  obtain ⟨K, G, N, S, h0, h1, h2, h3, h4, l1, l2, l3, l4, t1, t3, t4⟩ := hC
  refine cl_go rfl ?_
  show xx_go (xt_P z) (d + 1) 14 0 [some (.ref c), some (.long y), none, some (.int g), none, none, none] [] h _
  refine go_a (pc' := 1) (ls' := [some (.ref c), some (.long y), none, some (.int g), none, none, none]) (st' := [(.long y)]) rfl rfl ?_
  refine go_s (m := 15) (as := [.long y]) (r := []) rfl rfl rfl rfl (xm_slot z d y h) (fun w h5 hq => ?_)
  obtain ⟨⟨s, hs, rfl⟩, rfl⟩ := hq
  obtain ⟨k, hk⟩ := t4 s (by omega)
  refine go_a (pc' := 6) (ls' := [some (.ref c), some (.long y), none, some (.int g), some (.int (nI s)), none, none]) (st' := []) rfl rfl ?_
  refine go_a (pc' := 7) (ls' := [some (.ref c), some (.long y), none, some (.int g), some (.int (nI s)), none, none]) (st' := [(.ref c)]) rfl rfl ?_
  refine go_get rfl h0 rfl rfl ?_
  refine go_a (pc' := 12) (ls' := [some (.ref c), some (.long y), none, some (.int g), some (.int (nI s)), none, none]) (st' := [(.int (nI s)), (.ref (c + 4))]) rfl rfl ?_
  refine go_ild rfl h4 (nI_pos (by omega)) (nI_clamp (by omega)) hk ?_
  refine go_a (pc' := 15) (ls' := [some (.ref c), some (.long y), none, some (.int g), some (.int (nI s)), some (.int k), none]) (st' := []) rfl rfl ?_
  refine go_a (pc' := 16) (ls' := [some (.ref c), some (.long y), none, some (.int g), some (.int (nI s)), some (.int k), none]) (st' := [(.int 0)]) rfl rfl ?_
  refine go_a (pc' := 18) (ls' := [some (.ref c), some (.long y), none, some (.int g), some (.int (nI s)), some (.int k), some (.int 0)]) (st' := []) rfl rfl ?_
  exact xm_num_loop z (d + 1) c u s y g h5 hc hu hs hC0 u 0 k (by omega)
theorem xm_symbol (z : Value) (d c u : Nat) (y : Int64) (h : xx_H) (hc : 11 ≤ c) (hu : u < 64) (hC : xs_C h c u) : xx_cl (xt_P z) (d + 3) 13 [.ref c, .long y] h (fun w h1 => ∃ (x : Int32) (u1 : Nat), w = some (.int x) ∧ u ≤ u1 ∧ u1 ≤ u + 1 ∧ xs_C h1 c u1 ∧ xs_F h h1 c 5) := by
  obtain ⟨K, G, N, S, h0, -⟩ := id hC
  refine cl_go rfl ?_
  show xx_go (xt_P z) (d + 2) 13 0 [some (.ref c), some (.long y), none] [] h _
  refine go_a (pc' := 1) (ls' := [some (.ref c), some (.long y), none]) (st' := [(.ref c)]) rfl rfl ?_
  refine go_a (pc' := 2) (ls' := [some (.ref c), some (.long y), none]) (st' := [(.long y), (.ref c)]) rfl rfl ?_
  refine go_b (pc' := 5) (st' := [.long 4611686018427387904, .long y, .ref c]) (h' := h) rfl rfl rfl ?_
  refine go_a (pc' := 6) (ls' := [some (.ref c), some (.long y), none]) (st' := [.long (y ||| 4611686018427387904), .ref c]) rfl rfl ?_
  generalize y ||| 4611686018427387904 = y2
  refine go_a (pc' := 7) (ls' := [some (.ref c), some (.long y), none]) (st' := [(.int 0), (.long y2), (.ref c)]) rfl rfl ?_
  refine go_v (m := 14) (as := [.ref c, .long y2, .int 0]) (r := []) rfl rfl rfl h0 rfl rfl (xm_number z d c u y2 0 h hc hu hC) (fun w h5 hq => ?_)
  obtain ⟨x, u1, rfl, e1, e2, e3, e4⟩ := hq
  exact go_r rfl rfl rfl rfl rfl rfl ⟨x, u1, rfl, e1, e2, e3, e4⟩
