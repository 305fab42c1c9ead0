def BKS (c : Nat) (hp : xx_H) (s : KS) (NM : Int → Int) : Nat → Int → Int → Int → Prop
  | 0, u, nf, nt => nf = 0 ∧ nt = 0 ∧ 38 ≤ u
  | t + 1, u, nf, nt => ∃ (a : Nat) (cb : Int), s.T 13 (t : Int) = some a ∧ (38 ≤ cb ∧ cb ≤ u) ∧ ((∃ (m : Int) (g : Int → Int) (n : Int) (f : Int → Int), FTH c hp s u a (nf - 1) (NM (nf - 1)) m g n f cb ∧ s.T 14 (nf - 1) = some a ∧ 1 ≤ nf ∧ (∀ i : Int, 0 ≤ i → i < nf - 1 → NM i ≠ NM (nf - 1)) ∧ BKS c hp s NM t cb (nf - 1) nt) ∨ (∃ (nm n : Int) (f : Int → Int), TTH c hp s u a nm n f cb ∧ s.T 15 (nt - 1) = some a ∧ 1 ≤ nt ∧ BKS c hp s NM t cb nf (nt - 1)))
def LI (k : Int) (s : KS) : Prop := (s.C 13 = 0 → ¬ 12 ≤ s.P 13) ∧ (s.C 14 = 0 → ¬ 12 ≤ s.P 14) ∧ (s.C 15 = 0 → ¬ 12 ≤ s.P 15) ∧ (0 ≤ s.I 29 ∧ s.I 29 ≤ k) ∧ (0 ≤ s.I 30 ∧ s.I 30 ≤ k) ∧ (0 ≤ s.I 31 ∧ s.I 31 ≤ k)
def BKF (s s1 : KS) : Prop := s1.A = s.A ∧ s1.N = s.N ∧ (∀ j : Nat, j ≤ 12 → s1.C j = s.C j ∧ s1.P j = s.P j) ∧ ∀ i : Nat, i < 26 → s1.I i = s.I i
section BKL
variable {c : Nat} {hp h1 : xx_H} {s s1 : KS} {NM NM1 : Int → Int} {u u1 nf nt α β k : Int} {t : Nat}
theorem BKF_rf : BKF s s := ⟨rfl, rfl, fun _ _ => ⟨rfl, rfl⟩, fun _ _ => rfl⟩
theorem BKF_tr {s2 : KS} (a : BKF s s1) (b : BKF s1 s2) : BKF s s2 := ⟨b.1.trans a.1, b.2.1.trans a.2.1, fun j h => ⟨(b.2.2.1 j h).1.trans (a.2.2.1 j h).1, (b.2.2.1 j h).2.trans (a.2.2.1 j h).2⟩, fun i h => (b.2.2.2 i h).trans (a.2.2.2 i h)⟩
theorem LFR_B {j a b : Nat} (h : LFR j a b s s1) (hj : 12 < j) (ha : 26 ≤ a) (hb : 26 ≤ b) : BKF s s1 := ⟨h.1, h.2.1, fun i q => (h.2.2.1 i (by omega)).2, fun i q => h.2.2.2 i (by omega) (by omega)⟩
theorem BKF_CI (h : BKF s s1) (hC : CI s) : CI s1 := KSA_CI ⟨h.2.1, by rw [h.1], h.2.2.2 8 (by decide)⟩ hC
theorem BKS_nn : ∀ {t : Nat} {u nf nt : Int}, BKS c hp s NM t u nf nt → 0 ≤ nf ∧ 0 ≤ nt ∧ nf + nt = t ∧ 38 ≤ u
  | 0, _, _, _, h => by
    obtain ⟨h1, h2, h3⟩ := h
    exact ⟨by omega, by omega, by omega, h3⟩
  | t + 1, _, _, _, h => by
    obtain ⟨a, cb, -, hc, ⟨m, g, n, f, -, -, n1, -, B⟩ | ⟨nm, n, f, -, -, n1, B⟩⟩ := h
    · have := BKS_nn B
      omega
    · have := BKS_nn B
      omega
theorem BKS_kx : ∀ {t : Nat} {u u1 nf nt : Int}, BKS c hp s NM t u nf nt → kx c hp s h1 s1 α β → u ≤ u1 → (∀ e : Int, 0 ≤ e → e < t → s1.T 13 e = s.T 13 e) → (∀ e : Int, 0 ≤ e → e < nf → s1.T 14 e = s.T 14 e) → (∀ e : Int, 0 ≤ e → e < nt → s1.T 15 e = s.T 15 e) → (∀ e : Int, 0 ≤ e → e < nf → NM1 e = NM e) → BKS c h1 s1 NM1 t u1 nf nt
  | 0, _, _, _, _, h, _, hu, _, _, _, _ => ⟨h.1, h.2.1, by have := h.2.2; omega⟩
  | t + 1, u, u1, nf, nt, h, X, hu, e3, e4, e5, en => by
    obtain ⟨a, cb, T, hc, ⟨m, g, n, f, F, T4, n1, nn, B⟩ | ⟨nm, n, f, F, T5, n1, B⟩⟩ := h
    · refine ⟨a, cb, (e3 t (by omega) (by omega)).trans T, ⟨hc.1, by omega⟩, Or.inl ⟨m, g, n, f, ?_, (e4 _ (by omega) (by omega)).trans T4, n1, fun i i0 i1 => ?_, BKS_kx B X (Int.le_refl _) (fun e e0 e1 => e3 e e0 (by omega)) (fun e e0 e1 => e4 e e0 (by omega)) e5 (fun e e0 e1 => en e e0 (by omega))⟩⟩
      · rw [en _ (by omega) (by omega)]
        exact FTH_kx F X hu
      · rw [en i i0 (by omega), en _ (by omega) (by omega)]
        exact nn i i0 i1
    · exact ⟨a, cb, (e3 t (by omega) (by omega)).trans T, ⟨hc.1, by omega⟩, Or.inr ⟨nm, n, f, TTH_kx F X hu, (e5 _ (by omega) (by omega)).trans T5, n1, BKS_kx B X (Int.le_refl _) (fun e e0 e1 => e3 e e0 (by omega)) e4 (fun e e0 e1 => e5 e e0 (by omega)) en⟩⟩
theorem BKS_up (h : BKS c hp s NM t u nf nt) (hu : u ≤ u1) : BKS c hp s NM t u1 nf nt := BKS_kx h kx_rf hu (fun _ _ _ => rfl) (fun _ _ _ => rfl) (fun _ _ _ => rfl) (fun _ _ _ => rfl)
theorem BKS_F : ∀ {t : Nat} {u nf nt : Int}, BKS c hp s NM t u nf nt → ∀ k : Int, 0 ≤ k → k < nf → ∃ (a : Nat) (m : Int) (g : Int → Int) (n : Int) (f : Int → Int) (cb : Int), s.T 14 k = some a ∧ FTH c hp s u a k (NM k) m g n f cb
  | 0, _, _, _, h, k, k0, k1 => absurd k1 (by have := h.1; omega)
  | t + 1, u, nf, nt, h, k, k0, k1 => by
    obtain ⟨a, cb, T, hc, ⟨m, g, n, f, F, T4, n1, nn, B⟩ | ⟨nm, n, f, F, T5, n1, B⟩⟩ := h
    · by_cases ck : k = nf - 1
      · rw [ck]
        exact ⟨a, m, g, n, f, cb, T4, F⟩
      · exact BKS_F (BKS_up B hc.2) k k0 (by omega)
    · exact BKS_F (BKS_up B hc.2) k k0 k1
theorem BKS_T : ∀ {t : Nat} {u nf nt : Int}, BKS c hp s NM t u nf nt → ∀ k : Int, 0 ≤ k → k < nt → ∃ (a : Nat) (nm n : Int) (f : Int → Int) (cb : Int), s.T 15 k = some a ∧ TTH c hp s u a nm n f cb
  | 0, _, _, _, h, k, k0, k1 => absurd k1 (by have := h.2.1; omega)
  | t + 1, u, nf, nt, h, k, k0, k1 => by
    obtain ⟨a, cb, T, hc, ⟨m, g, n, f, F, T4, n1, nn, B⟩ | ⟨nm, n, f, F, T5, n1, B⟩⟩ := h
    · exact BKS_T (BKS_up B hc.2) k k0 k1
    · by_cases ck : k = nt - 1
      · rw [ck]
        exact ⟨a, nm, n, f, cb, T5, F⟩
      · exact BKS_T (BKS_up B hc.2) k k0 (by omega)
theorem BKS_th : ∀ {t : Nat} {u nf nt : Int}, BKS c hp s NM t u nf nt → ∀ k : Int, 0 ≤ k → k < t → ∃ (a : Nat), s.T 13 k = some a ∧ ((∃ (i m : Int) (g : Int → Int) (n : Int) (f : Int → Int) (cb : Int), FTH c hp s u a i (NM i) m g n f cb) ∨ ∃ (nm n : Int) (f : Int → Int) (cb : Int), TTH c hp s u a nm n f cb)
  | 0, _, _, _, h, k, k0, k1 => absurd k1 (by omega)
  | t + 1, u, nf, nt, h, k, k0, k1 => by
    obtain ⟨a, cb, T, hc, ⟨m, g, n, f, F, T4, n1, nn, B⟩ | ⟨nm, n, f, F, T5, n1, B⟩⟩ := h
    · by_cases ck : k = t
      · rw [ck]
        exact ⟨a, T, Or.inl ⟨_, m, g, n, f, cb, F⟩⟩
      · exact BKS_th (BKS_up B hc.2) k k0 (by omega)
    · by_cases ck : k = t
      · rw [ck]
        exact ⟨a, T, Or.inr ⟨nm, n, f, cb, F⟩⟩
      · exact BKS_th (BKS_up B hc.2) k k0 (by omega)
theorem BKS_nm : ∀ {t : Nat} {u nf nt : Int}, BKS c hp s NM t u nf nt → (∀ i : Int, 0 ≤ i → i < nf → 17 ≤ NM i ∧ NM i < u) ∧ ∀ i j : Int, 0 ≤ i → i < j → j < nf → NM i ≠ NM j
  | 0, _, _, _, h => ⟨fun i i0 i1 => absurd i1 (by have := h.1; omega), fun i j i0 i1 i2 => absurd i2 (by have := h.1; omega)⟩
  | t + 1, u, nf, nt, h => by
    obtain ⟨a, cb, T, hc, ⟨m, g, n, f, F, T4, n1, nn, B⟩ | ⟨nm, n, f, F, T5, n1, B⟩⟩ := h
    · obtain ⟨b1, b2⟩ := BKS_nm B
      obtain ⟨_, _, _, _, _, _, _, _, F7, _⟩ := F
      refine ⟨fun i i0 i1 => ?_, fun i j i0 i1 i2 => ?_⟩
      · by_cases ci : i = nf - 1
        · rw [ci]
          exact F7
        · have := b1 i i0 (by omega)
          omega
      · by_cases cj : j = nf - 1
        · rw [cj]
          exact nn i i0 (by omega)
        · exact b2 i j i0 i1 (by omega)
    · obtain ⟨b1, b2⟩ := BKS_nm B
      exact ⟨fun i i0 i1 => by have := b1 i i0 i1; omega, b2⟩
theorem php : ∀ (w n : Nat) (f : Nat → Nat), (∀ i : Nat, i < n → f i < w) → (∀ i j : Nat, i < j → j < n → f i ≠ f j) → n ≤ w
  | 0, n, f, h, _ => by
    by_cases c : n = 0
    · omega
    · exact absurd (h 0 (by omega)) (by omega)
  | w + 1, n, f, h, hi => by
    by_cases ex : ∃ i : Nat, i < n ∧ f i = w
    · obtain ⟨i0, l0, e0⟩ := ex
      have := php w (n - 1) (fun i => if i < i0 then f i else f (i + 1)) (fun i li => by
        show (if i < i0 then f i else f (i + 1)) < w
        by_cases ci : i < i0
        · rw [if_pos ci]
          have := h i (by omega)
          have := hi i i0 ci l0
          omega
        · rw [if_neg ci]
          have := h (i + 1) (by omega)
          have := hi i0 (i + 1) (by omega) (by omega)
          omega) (fun i j lij lj => by
        show (if i < i0 then f i else f (i + 1)) ≠ (if j < i0 then f j else f (j + 1))
        by_cases ci : i < i0
        · rw [if_pos ci]
          by_cases cj : j < i0
          · rw [if_pos cj]
            exact hi i j lij (by omega)
          · rw [if_neg cj]
            exact hi i (j + 1) (by omega) (by omega)
        · rw [if_neg ci, if_neg (show ¬ j < i0 by omega)]
          exact hi (i + 1) (j + 1) (by omega) (by omega))
      omega
    · have := php w n f (fun i li => by
        have := h i li
        have : f i ≠ w := fun e => ex ⟨i, li, e⟩
        omega) hi
      omega
theorem BKS_17 (h : BKS c hp s NM t u nf nt) : 17 + nf ≤ u := by
  obtain ⟨b1, b2⟩ := BKS_nm h
  have n0 := BKS_nn h
  have := php (u - 17).toNat nf.toNat (fun i => (NM i - 17).toNat) (fun i li => by
    have := b1 i (by omega) (by omega)
    show (NM i - 17).toNat < _
    omega) (fun i j lij lj => by
    have p := b1 i (by omega) (by omega)
    have q := b1 j (by omega) (by omega)
    have r := b2 i j (by omega) (by omega) (by omega)
    show (NM i - 17).toNat ≠ (NM j - 17).toNat
    omega)
  omega
theorem BKS_18 {x : Int} (h : BKS c hp s NM t u nf nt) (hu : u ≤ u1) (x0 : 17 ≤ x) (x1 : x < u1) (hx : ∀ i : Int, 0 ≤ i → i < nf → NM i ≠ x) : 17 + nf < u1 := by
  obtain ⟨b1, b2⟩ := BKS_nm h
  have n0 := BKS_nn h
  have := php (u1 - 17).toNat (nf.toNat + 1) (fun i => if i < nf.toNat then (NM i - 17).toNat else (x - 17).toNat) (fun i li => by
    show (if i < nf.toNat then (NM i - 17).toNat else (x - 17).toNat) < _
    by_cases ci : i < nf.toNat
    · rw [if_pos ci]
      have := b1 i (by omega) (by omega)
      omega
    · rw [if_neg ci]
      omega) (fun i j lij lj => by
    show (if i < nf.toNat then (NM i - 17).toNat else (x - 17).toNat) ≠ (if j < nf.toNat then (NM j - 17).toNat else (x - 17).toNat)
    rw [if_pos (show i < nf.toNat by omega)]
    have p := b1 i (by omega) (by omega)
    by_cases cj : j < nf.toNat
    · rw [if_pos cj]
      have q := b1 j (by omega) (by omega)
      have r := b2 i j (by omega) (by omega) (by omega)
      omega
    · rw [if_neg cj]
      have := hx i (by omega) (by omega)
      omega)
  omega
theorem BKS_BF (h : BKS c hp s NM t u nf nt) (hu : u ≤ u1) (e : s.I 27 = nf) : BF c hp s u1 NM := by
  intro k k0 k1
  exact BKS_F (BKS_up h hu) k k0 (by omega)
theorem FTH_a {a : Nat} {i m n cb : Int} {y : Int} {g f : Int → Int} (F : FTH c hp s u a i y m g n f cb) : ∃ fs : List Value, hp[a]? = some (.inr (11, fs)) ∧ kn c s a := by
  obtain ⟨_, _, q, q2, _⟩ := F
  exact ⟨_, q, q2⟩
theorem TTH_a {a : Nat} {n cb : Int} {y : Int} {f : Int → Int} (F : TTH c hp s u a y n f cb) : ∃ fs : List Value, hp[a]? = some (.inr (11, fs)) ∧ kn c s a := by
  obtain ⟨_, _, _, q, q2, _⟩ := F
  exact ⟨_, q, q2⟩
theorem BKS_T13 (h : BKS c hp s NM t u nf nt) {k : Int} (hk : k = t) : TLS c hp s 13 k := by
  intro e e0 e1
  obtain ⟨a, T, ⟨_, _, _, _, _, _, F⟩ | ⟨_, _, _, _, F⟩⟩ := BKS_th h e e0 (by omega)
  · obtain ⟨fs, q1, q2⟩ := FTH_a F
    exact ⟨a, fs, T, q1, q2⟩
  · obtain ⟨fs, q1, q2⟩ := TTH_a F
    exact ⟨a, fs, T, q1, q2⟩
theorem BKS_T14 (h : BKS c hp s NM t u nf nt) : TLS c hp s 14 nf := by
  intro e e0 e1
  obtain ⟨a, _, _, _, _, _, T, F⟩ := BKS_F h e e0 e1
  obtain ⟨fs, q1, q2⟩ := FTH_a F
  exact ⟨a, fs, T, q1, q2⟩
theorem BKS_T15 (h : BKS c hp s NM t u nf nt) : TLS c hp s 15 nt := by
  intro e e0 e1
  obtain ⟨a, _, _, _, _, T, F⟩ := BKS_T h e e0 e1
  obtain ⟨fs, q1, q2⟩ := TTH_a F
  exact ⟨a, fs, T, q1, q2⟩
theorem BKS_BT (h : BKS c hp s NM t u nf nt) (hu : u ≤ u1) (e : s.I 28 = nt) : BT c hp s u1 := by
  intro k k0 k1
  exact BKS_T (BKS_up h hu) k k0 (by omega)
end BKL
theorem kf_thing (z : Value) (d c : Nat) (x : Int) (hp : xx_H) (s : KS) (hK : KI c hp s) (hB : KB s) (u : Int) (NM : Int → Int) (t : Nat) (nf nt : Int) (hS : BKS c hp s NM t u nf nt) (et : s.I 26 = t) (x0 : -2147483648 ≤ x) (x1 : x ≤ 2147483647) : xx_cl (xt_P z) (d + 4) 58 [.ref (c + 21), .int (iI x)] hp (fun v h1 => (v = some .null ∨ ∃ a : Nat, v = some (.ref a) ∧ ((∃ (i m : Int) (g : Int → Int) (n : Int) (f : Int → Int) (cb : Int), FTH c hp s u a i (NM i) m g n f cb) ∨ ∃ (nm n : Int) (f : Int → Int) (cb : Int), TTH c hp s u a nm n f cb)) ∧ h1 = hp) := by
  have b7 := hB.2.2.2.2.2.2.1
  refine cl_go rfl ?_
  show xx_go (xt_P z) (d + 3) 58 0 [some (.ref (c + 21)), some (.int (iI x))] [] hp _
  refine go_a (pc' := 1) (ls' := [some (.ref (c + 21)), some (.int (iI x))]) (st' := [.int (iI x)]) rfl rfl ?_
  have no : xx_go (xt_P z) (d + 3) 58 29 [some (.ref (c + 21)), some (.int (iI x))] [] hp (fun v h1 => (v = some .null ∨ ∃ a : Nat, v = some (.ref a) ∧ ((∃ (i m : Int) (g : Int → Int) (n : Int) (f : Int → Int) (cb : Int), FTH c hp s u a i (NM i) m g n f cb) ∨ ∃ (nm n : Int) (f : Int → Int) (cb : Int), TTH c hp s u a nm n f cb)) ∧ h1 = hp) := by
    refine go_a (pc' := 30) (ls' := [some (.ref (c + 21)), some (.int (iI x))]) (st' := [.null]) rfl rfl ?_
    exact go_r rfl rfl rfl rfl rfl rfl ⟨Or.inl rfl, rfl⟩
  refine mi_lt0 (t := 29) rfl rfl (by omega) (by omega) (fun _ => no) (fun w1 => ?_)
  refine go_a (pc' := 5) (ls' := [some (.ref (c + 21)), some (.int (iI x))]) (st' := [.int (iI x)]) rfl rfl ?_
  refine go_a (pc' := 6) (ls' := [some (.ref (c + 21)), some (.int (iI x))]) (st' := [.ref (c + 21), .int (iI x)]) rfl rfl ?_
  refine go_get (v := .ref (c + 22)) rfl (hK.1 12 (by decide)) rfl rfl ?_
  refine go_v (m := 47) (as := [.ref (c + 22)]) (r := [.int (iI x)]) rfl rfl rfl (hK.1 13 (by decide)) rfl rfl (kl_size_13 z (d + 2) c hp s hK) (fun v h3 hq => ?_)
  obtain ⟨rfl, e9⟩ := hq
  rw [e9]
  clear e9 h3
  show xx_go (xt_P z) (d + 3) 58 12 [some (.ref (c + 21)), some (.int (iI x))] [.int (iI (s.I 26)), .int (iI x)] hp _
  refine mi_ge (t := 29) rfl rfl (by omega) (by omega) (by omega) (by omega) (fun _ => no) (fun w2 => ?_)
  obtain ⟨a, ea, TH⟩ := BKS_th hS x (by omega) (by omega)
  have ca : ∃ fs : List Value, hp[a]? = some (.inr (11, fs)) := by
    rcases TH with ⟨_, _, _, _, _, _, _, _, F, _⟩ | ⟨_, _, _, _, _, _, _, F, _⟩
    · exact ⟨_, F⟩
    · exact ⟨_, F⟩
  obtain ⟨fs, ca⟩ := ca
  refine go_a (pc' := 16) (ls' := [some (.ref (c + 21)), some (.int (iI x))]) (st' := [.ref (c + 21)]) rfl rfl ?_
  refine go_get (v := .ref (c + 22)) rfl (hK.1 12 (by decide)) rfl rfl ?_
  refine go_a (pc' := 20) (ls' := [some (.ref (c + 21)), some (.int (iI x))]) (st' := [.int (iI x), .ref (c + 22)]) rfl rfl ?_
  refine go_v (m := 217) (as := [.ref (c + 22), .int (iI x)]) (r := []) rfl rfl rfl (hK.1 13 (by decide)) rfl rfl (kl_get_13 z d c x hp s hK hB (by omega) (by omega) a ea) (fun v h3 hq => ?_)
  obtain ⟨rfl, e9⟩ := hq
  rw [e9]
  clear e9 h3
  show xx_go (xt_P z) (d + 3) 58 23 [some (.ref (c + 21)), some (.int (iI x))] [.ref a] hp _
  refine go_cast rfl ca rfl ?_
  refine go_a (pc' := 30) (ls' := [some (.ref (c + 21)), some (.int (iI x))]) (st' := [.ref a]) rfl rfl ?_
  exact go_r rfl rfl rfl rfl rfl rfl ⟨Or.inr ⟨a, rfl, TH⟩, rfl⟩
theorem kf_takeF (z : Value) (d c a : Nat) (y : Int) (w0 w2 w3 w4 : Value) (k : Int) (hp : xx_H) (s : KS) (hK : KI c hp s) (hB : KB s) (hO : OC hp) (hT3 : TLS c hp s 13 (s.I 26)) (hT4 : TLS c hp s 14 (s.I 27)) (hL : LI k s) (lk : k ≤ 1000000) (l1 : s.I 26 ≤ 200) (l2 : s.I 27 ≤ 200) (ha : hp[a]? = some (.inr (11, [w0, .int (iI y), w2, w3, w4]))) (ka : kn c s a) (y0 : -2147483648 ≤ y) (y1 : y ≤ 2147483647) (hy : y ≠ -1) : xx_cl (xt_P z) (d + 6) 235 [.ref (c + 21), .ref a] hp (fun v h1 => v = none ∧ ∃ s1 : KS, KI c h1 s1 ∧ KB s1 ∧ kx c hp s h1 s1 2 2 ∧ BKF s s1 ∧ LI (k + 1) s1 ∧ (s1.I 26 = s.I 26 + 1 ∧ s1.I 27 = s.I 27 + 1 ∧ s1.I 28 = s.I 28 ∧ s1.T 15 = s.T 15) ∧ (∀ e : Int, 0 ≤ e → e < s.I 26 → s1.T 13 e = s.T 13 e) ∧ s1.T 13 (s.I 26) = some a ∧ (∀ e : Int, 0 ≤ e → e < s.I 27 → s1.T 14 e = s.T 14 e) ∧ s1.T 14 (s.I 27) = some a) := by
  refine cl_go rfl ?_
  show xx_go (xt_P z) (d + 5) 235 0 [some (.ref (c + 21)), some (.ref a)] [] hp _
  refine go_a (pc' := 1) (ls' := [some (.ref (c + 21)), some (.ref a)]) (st' := [.ref (c + 21)]) rfl rfl ?_
  refine go_get (v := .ref (c + 22)) rfl (hK.1 12 (by decide)) rfl rfl ?_
  refine go_a (pc' := 5) (ls' := [some (.ref (c + 21)), some (.ref a)]) (st' := [.ref a, .ref (c + 22)]) rfl rfl ?_
  refine go_v (m := 236) (as := [.ref (c + 22), .ref a]) (r := []) rfl rfl rfl (hK.1 13 (by decide)) rfl rfl (kl_add_13 z d c a _ hp s hK hB hO hT3 hL.1 l1 (by have := hL.2.2.2.1; omega) ha ka) (fun v h1 hq => ?_)
  obtain ⟨rfl, s1, K1, B1, X1, F1, e1, e2, e3, e4, e5⟩ := hq
  obtain ⟨ka1, ca1⟩ := X1.2.1 a (List.getElem?_eq_some_iff.mp ha).1 ka
  have ha1 := ca1.trans ha
  have fo := fun i p => F1.2.2.1 i p
  have fi := fun i p q => F1.2.2.2 i p q
  show xx_go (xt_P z) (d + 5) 235 8 [some (.ref (c + 21)), some (.ref a)] [.int (iI 1)] h1 _
  refine go_a (pc' := 9) (ls' := [some (.ref (c + 21)), some (.ref a)]) (st' := []) rfl rfl ?_
  refine go_a (pc' := 10) (ls' := [some (.ref (c + 21)), some (.ref a)]) (st' := [.ref a]) rfl rfl ?_
  refine go_v (m := 241) (as := [.ref a]) (r := []) rfl rfl rfl ha1 rfl rfl (kf_isFunction z (d + 4) a y w0 w2 w3 w4 h1 ha1 y0 y1) (fun v h3 hq => ?_)
  obtain ⟨hq, e9⟩ := hq
  rw [e9]
  clear e9 h3
  obtain rfl : v = some (.int (iI 1)) := by
    rcases hq with ⟨w, r⟩ | ⟨w, r⟩
    · exact r
    · exact absurd w hy
  show xx_go (xt_P z) (d + 5) 235 13 [some (.ref (c + 21)), some (.ref a)] [.int (iI 1)] h1 _
  refine mi_eq0 (t := 28) rfl rfl (by omega) (by omega) (fun q => absurd q (by decide)) (fun _ => ?_)
  have i2 : s1.I 27 = s.I 27 := fi 27 (by decide) (by decide)
  have i3 : s1.I 30 = s.I 30 := fi 30 (by decide) (by decide)
  have cp := fo 14 (by decide)
  refine go_a (pc' := 17) (ls' := [some (.ref (c + 21)), some (.ref a)]) (st' := [.ref (c + 21)]) rfl rfl ?_
  refine go_get (v := .ref (c + 23)) rfl (K1.1 12 (by decide)) rfl rfl ?_
  refine go_a (pc' := 21) (ls' := [some (.ref (c + 21)), some (.ref a)]) (st' := [.ref a, .ref (c + 23)]) rfl rfl ?_
  refine go_v (m := 236) (as := [.ref (c + 23), .ref a]) (r := []) rfl rfl rfl (K1.1 14 (by decide)) rfl rfl (kl_add_14 z d c a _ h1 s1 K1 B1 (OC_kx hO X1) (by rw [i2]; exact TLS_kx hT4 X1 (fun _ _ _ => by rw [cp.1])) (by rw [cp.2.1, cp.2.2]; exact hL.2.1) (by omega) (by have := hL; unfold LI at this; omega) ha1 ka1) (fun v h2 hq => ?_)
  obtain ⟨rfl, s2, K2, B2, X2, F2, f1, f2, f3, f4, f5⟩ := hq
  show xx_go (xt_P z) (d + 5) 235 24 [some (.ref (c + 21)), some (.ref a)] [.int (iI 1)] h2 _
  refine go_a (pc' := 25) (ls' := [some (.ref (c + 21)), some (.ref a)]) (st' := []) rfl rfl ?_
  refine go_a (pc' := 37) (ls' := [some (.ref (c + 21)), some (.ref a)]) (st' := []) rfl rfl ?_
  have go := fun i p => F2.2.2.1 i p
  have gi := fun i p q => F2.2.2.2 i p q
  have BF2 := BKF_tr (LFR_B F1 (by decide) (by decide) (by decide)) (LFR_B F2 (by decide) (by decide) (by decide))
  have q26 : s2.I 26 = s1.I 26 := gi 26 (by decide) (by decide)
  have q29 : s2.I 29 = s1.I 29 := gi 29 (by decide) (by decide)
  have qo : s2.I 28 = s.I 28 := (gi 28 (by decide) (by decide)).trans (fi 28 (by decide) (by decide))
  have qm : s2.I 31 = s.I 31 := (gi 31 (by decide) (by decide)).trans (fi 31 (by decide) (by decide))
  have qT : s2.T 15 = s.T 15 := ((go 15 (by decide)).1).trans (fo 15 (by decide)).1
  have qC : s2.C 15 = s.C 15 ∧ s2.P 15 = s.P 15 := ⟨((go 15 (by decide)).2.1).trans (fo 15 (by decide)).2.1, ((go 15 (by decide)).2.2).trans (fo 15 (by decide)).2.2⟩
  have q13 := go 13 (by decide)
  have p15 := fo 14 (by decide)
  have L2 : LI (k + 1) s2 := by
    obtain ⟨m1, m2, m3, m4, m5, m6⟩ := hL
    refine ⟨fun w => absurd (show s1.C 13 = 0 by rw [← q13.2.1]; exact w) (by omega), fun w => absurd w (by omega), fun w => by rw [qC.2]; exact m3 (by rw [← qC.1]; exact w), by omega, by omega, by omega⟩
  have kx2 := kx_w (kx_tr X1 X2) (show (1 : Int) + 1 ≤ 2 by decide) (show (1 : Int) + 1 ≤ 2 by decide)
  exact go_r rfl rfl rfl rfl rfl rfl ⟨rfl, s2, K2, B2, kx2, BF2, L2, ⟨by omega, by omega, qo, qT⟩, fun e e0 e1 => by rw [q13.1]; exact e4 e e0 e1, by rw [q13.1]; exact e5, fun e e0 e1 => (f4 e e0 (by omega)).trans (by rw [p15.1]), by rw [← i2]; exact f5⟩
theorem kf_takeT (z : Value) (d c a : Nat) (y : Int) (w0 w2 w3 w4 : Value) (k : Int) (hp : xx_H) (s : KS) (hK : KI c hp s) (hB : KB s) (hO : OC hp) (hT3 : TLS c hp s 13 (s.I 26)) (hT4 : TLS c hp s 15 (s.I 28)) (hL : LI k s) (lk : k ≤ 1000000) (l1 : s.I 26 ≤ 200) (l2 : s.I 28 ≤ 200) (ha : hp[a]? = some (.inr (11, [w0, .int (iI y), w2, w3, w4]))) (ka : kn c s a) (y0 : -2147483648 ≤ y) (y1 : y ≤ 2147483647) (hy : y = -1) : xx_cl (xt_P z) (d + 6) 235 [.ref (c + 21), .ref a] hp (fun v h1 => v = none ∧ ∃ s1 : KS, KI c h1 s1 ∧ KB s1 ∧ kx c hp s h1 s1 2 2 ∧ BKF s s1 ∧ LI (k + 1) s1 ∧ (s1.I 26 = s.I 26 + 1 ∧ s1.I 28 = s.I 28 + 1 ∧ s1.I 27 = s.I 27 ∧ s1.T 14 = s.T 14) ∧ (∀ e : Int, 0 ≤ e → e < s.I 26 → s1.T 13 e = s.T 13 e) ∧ s1.T 13 (s.I 26) = some a ∧ (∀ e : Int, 0 ≤ e → e < s.I 28 → s1.T 15 e = s.T 15 e) ∧ s1.T 15 (s.I 28) = some a) := by
  refine cl_go rfl ?_
  show xx_go (xt_P z) (d + 5) 235 0 [some (.ref (c + 21)), some (.ref a)] [] hp _
  refine go_a (pc' := 1) (ls' := [some (.ref (c + 21)), some (.ref a)]) (st' := [.ref (c + 21)]) rfl rfl ?_
  refine go_get (v := .ref (c + 22)) rfl (hK.1 12 (by decide)) rfl rfl ?_
  refine go_a (pc' := 5) (ls' := [some (.ref (c + 21)), some (.ref a)]) (st' := [.ref a, .ref (c + 22)]) rfl rfl ?_
  refine go_v (m := 236) (as := [.ref (c + 22), .ref a]) (r := []) rfl rfl rfl (hK.1 13 (by decide)) rfl rfl (kl_add_13 z d c a _ hp s hK hB hO hT3 hL.1 l1 (by have := hL.2.2.2.1; omega) ha ka) (fun v h1 hq => ?_)
  obtain ⟨rfl, s1, K1, B1, X1, F1, e1, e2, e3, e4, e5⟩ := hq
  obtain ⟨ka1, ca1⟩ := X1.2.1 a (List.getElem?_eq_some_iff.mp ha).1 ka
  have ha1 := ca1.trans ha
  have fo := fun i p => F1.2.2.1 i p
  have fi := fun i p q => F1.2.2.2 i p q
  show xx_go (xt_P z) (d + 5) 235 8 [some (.ref (c + 21)), some (.ref a)] [.int (iI 1)] h1 _
  refine go_a (pc' := 9) (ls' := [some (.ref (c + 21)), some (.ref a)]) (st' := []) rfl rfl ?_
  refine go_a (pc' := 10) (ls' := [some (.ref (c + 21)), some (.ref a)]) (st' := [.ref a]) rfl rfl ?_
  refine go_v (m := 241) (as := [.ref a]) (r := []) rfl rfl rfl ha1 rfl rfl (kf_isFunction z (d + 4) a y w0 w2 w3 w4 h1 ha1 y0 y1) (fun v h3 hq => ?_)
  obtain ⟨hq, e9⟩ := hq
  rw [e9]
  clear e9 h3
  obtain rfl : v = some (.int (iI 0)) := by
    rcases hq with ⟨w, r⟩ | ⟨w, r⟩
    · exact absurd hy w
    · exact r
  show xx_go (xt_P z) (d + 5) 235 13 [some (.ref (c + 21)), some (.ref a)] [.int (iI 0)] h1 _
  refine mi_eq0 (t := 28) rfl rfl (by omega) (by omega) (fun _ => ?_) (fun q => absurd rfl q)
  have i2 : s1.I 28 = s.I 28 := fi 28 (by decide) (by decide)
  have i3 : s1.I 31 = s.I 31 := fi 31 (by decide) (by decide)
  have cp := fo 15 (by decide)
  refine go_a (pc' := 29) (ls' := [some (.ref (c + 21)), some (.ref a)]) (st' := [.ref (c + 21)]) rfl rfl ?_
  refine go_get (v := .ref (c + 24)) rfl (K1.1 12 (by decide)) rfl rfl ?_
  refine go_a (pc' := 33) (ls' := [some (.ref (c + 21)), some (.ref a)]) (st' := [.ref a, .ref (c + 24)]) rfl rfl ?_
  refine go_v (m := 236) (as := [.ref (c + 24), .ref a]) (r := []) rfl rfl rfl (K1.1 15 (by decide)) rfl rfl (kl_add_15 z d c a _ h1 s1 K1 B1 (OC_kx hO X1) (by rw [i2]; exact TLS_kx hT4 X1 (fun _ _ _ => by rw [cp.1])) (by rw [cp.2.1, cp.2.2]; exact hL.2.2.1) (by omega) (by have := hL; unfold LI at this; omega) ha1 ka1) (fun v h2 hq => ?_)
  obtain ⟨rfl, s2, K2, B2, X2, F2, f1, f2, f3, f4, f5⟩ := hq
  show xx_go (xt_P z) (d + 5) 235 36 [some (.ref (c + 21)), some (.ref a)] [.int (iI 1)] h2 _
  refine go_a (pc' := 37) (ls' := [some (.ref (c + 21)), some (.ref a)]) (st' := []) rfl rfl ?_
  have go := fun i p => F2.2.2.1 i p
  have gi := fun i p q => F2.2.2.2 i p q
  have BF2 := BKF_tr (LFR_B F1 (by decide) (by decide) (by decide)) (LFR_B F2 (by decide) (by decide) (by decide))
  have q26 : s2.I 26 = s1.I 26 := gi 26 (by decide) (by decide)
  have q29 : s2.I 29 = s1.I 29 := gi 29 (by decide) (by decide)
  have qo : s2.I 27 = s.I 27 := (gi 27 (by decide) (by decide)).trans (fi 27 (by decide) (by decide))
  have qm : s2.I 30 = s.I 30 := (gi 30 (by decide) (by decide)).trans (fi 30 (by decide) (by decide))
  have qT : s2.T 14 = s.T 14 := ((go 14 (by decide)).1).trans (fo 14 (by decide)).1
  have qC : s2.C 14 = s.C 14 ∧ s2.P 14 = s.P 14 := ⟨((go 14 (by decide)).2.1).trans (fo 14 (by decide)).2.1, ((go 14 (by decide)).2.2).trans (fo 14 (by decide)).2.2⟩
  have q13 := go 13 (by decide)
  have p15 := fo 15 (by decide)
  have L2 : LI (k + 1) s2 := by
    obtain ⟨m1, m2, m3, m4, m5, m6⟩ := hL
    refine ⟨fun w => absurd (show s1.C 13 = 0 by rw [← q13.2.1]; exact w) (by omega), fun w => by rw [qC.2]; exact m2 (by rw [← qC.1]; exact w), fun w => absurd w (by omega), by omega, by omega, by omega⟩
  have kx2 := kx_w (kx_tr X1 X2) (show (1 : Int) + 1 ≤ 2 by decide) (show (1 : Int) + 1 ≤ 2 by decide)
  exact go_r rfl rfl rfl rfl rfl rfl ⟨rfl, s2, K2, B2, kx2, BF2, L2, ⟨by omega, by omega, qo, qT⟩, fun e e0 e1 => by rw [q13.1]; exact e4 e e0 e1, by rw [q13.1]; exact e5, fun e e0 e1 => (f4 e e0 (by omega)).trans (by rw [p15.1]), by rw [← i2]; exact f5⟩
