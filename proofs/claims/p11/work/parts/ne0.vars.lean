def sp_iv : ob_T → Bool
  | .var v => !(v == 31361) && !(v == 20)
  | _ => false
def sp_vs (n : Nat) (t : ob_T) : Prop := sp_pl t = true ∧ (sp_as t).length ≤ n ∧ (∀ x ∈ sp_as t, sp_iv x = true) ∧ (sp_as t).Nodup
theorem sp_iv_e {x : ob_T} (h : sp_iv x = true) : ∃ v : Nat, x = .var v ∧ v ≠ 31361 ∧ v ≠ 20 := by
  match x, h with
  | .var v, h =>
    have h : (!(v == 31361) && !(v == 20)) = true := h
    rw [Bool.and_eq_true, Bool.not_eq_true', Bool.not_eq_true', beq_eq_false_iff_ne, beq_eq_false_iff_ne] at h
    exact ⟨v, rfl, h.1, h.2⟩
theorem sp_iv_i {v : Nat} (h1 : v ≠ 31361) (h2 : v ≠ 20) : sp_iv (.var v) = true := by
  show (!(v == 31361) && !(v == 20)) = true
  rw [Bool.and_eq_true, Bool.not_eq_true', Bool.not_eq_true', beq_eq_false_iff_ne, beq_eq_false_iff_ne]
  exact ⟨h1, h2⟩
theorem ST_iva {A : Nat → Int → Int} {D : Int → ob_T} {U k : Int} (h : STo A D U) (k0 : 0 ≤ k) (k1 : k < U) : (A 1 k = -2 ∧ k ≠ 0 ∧ k ≠ 1) ↔ sp_iv (D k) = true := by
  have n0 := ST_0 h k0 k1
  have n1 := ST_1 h k0 k1
  constructor
  · intro w
    obtain ⟨v, e⟩ := ST_v h k0 k1 w.1
    rw [e] at n0 n1 ⊢
    exact sp_iv_i (fun q => w.2.1 (n0.mp (by rw [q]))) (fun q => w.2.2 (n1.mp (by rw [q])))
  · intro w
    obtain ⟨v, e, e1, e2⟩ := sp_iv_e w
    rw [e] at n0 n1
    refine ⟨ST_iv h k0 k1 e, fun q => ?_, fun q => ?_⟩
    · have := n0.mpr q
      injection this with this
      exact e1 this
    · have := n1.mpr q
      injection this with this
      exact e2 this
theorem TRS_of {N : Int → Int} {U : Int} {ft : Nat → Int} : ∀ (S : List ob_T) (L : List Int), L.length = S.length → (∀ i : Nat, i < S.length → ∃ (t : ob_T) (x : Int), S[i]? = some t ∧ L[i]? = some x ∧ TRT N U ft [x] (sp_nf t).1) → TRS N U ft L S
  | [], [], _, _ => rfl
  | [], x :: L, h, _ => by cases h
  | t :: S, [], h, _ => by cases h
  | t :: S, x :: L, h, q => by
    obtain ⟨t1, x1, e1, e2, e3⟩ := q 0 (Nat.succ_pos _)
    injection e1 with e1
    injection e2 with e2
    refine ⟨[x], L, rfl, ?_, TRS_of S L (by rw [List.length_cons, List.length_cons] at h; omega) (fun i hi => q (i + 1) (Nat.succ_lt_succ hi))⟩
    rw [e1, e2]
    exact e3
def VI (N : Int → Int) (U : Int) (T : ob_T) (m k : Int) (g : Int → Int) : Prop := (∀ i : Nat, (i : Int) < k → ∃ (y : Int) (v : Nat), (0 ≤ y ∧ y < U) ∧ (sp_as T)[i]? = some (.var v) ∧ DK N y = .var v ∧ v ≠ 31361 ∧ v ≠ 20 ∧ g i = y * 32) ∧ (∀ i j : Int, 0 ≤ i → i < j → j < k → g i ≠ g j) ∧ ∀ i : Int, k ≤ i → i < m → g i = -1
theorem VI_end {N : Int → Int} {U m : Int} {T : ob_T} {g : Int → Int} {A : Nat → Int → Int} (hS : STo A (DK N) U) (m0 : 0 ≤ m) (m6 : m ≤ 6) (pl : sp_pl T = true) (ln : (sp_as T).length = m.toNat) (h : VI N U T m m g) (ft : Nat → Int) : sp_vs 6 T ∧ TRS N U ft (rl m g) (sp_as T) := by
  obtain ⟨h1, h2, -⟩ := h
  refine ⟨⟨pl, by omega, fun x hx => ?_, ?_⟩, TRS_of _ _ (by rw [rl_len, ln]) (fun i hi => ?_)⟩
  · obtain ⟨i, hi, e⟩ := List.getElem_of_mem hx
    obtain ⟨y, v, y0, e1, e2, e3, e4, e5⟩ := h1 i (by omega)
    rw [List.getElem?_eq_getElem hi, e] at e1
    injection e1 with e1
    rw [e1]
    exact sp_iv_i e3 e4
  · refine List.pairwise_iff_getElem.mpr (fun i j hi hj ij e => ?_)
    obtain ⟨y, v, y0, e1, e2, e3, e4, e5⟩ := h1 i (by omega)
    obtain ⟨y', v', y0', e1', e2', e3', e4', e5'⟩ := h1 j (by omega)
    rw [List.getElem?_eq_getElem hi, e] at e1
    rw [List.getElem?_eq_getElem hj, e1] at e1'
    injection e1' with e1'
    rw [← e2, ← e2'] at e1'
    have := hS.2.1 y y' y0.1 y0.2 y0'.1 y0'.2 e1'
    exact h2 i j (by omega) (by omega) (by omega) (by rw [e5, e5', this])
  · obtain ⟨y, v, y0, e1, e2, e3, e4, e5⟩ := h1 i (by omega)
    refine ⟨_, g i, e1, rl_get (by omega), ?_⟩
    rw [e5]
    refine ⟨y, y0, e2, ?_⟩
    unfold sp_vt
    rw [if_neg (by omega)]
theorem xm_fill_loop (z : Value) (d : Nat) (hp : xx_H) (h12 : 12 ≤ hp.length) (n y : Int) (n1 : n ≤ 1000) : ∀ (q : Nat) (k : Int) (f : Int → Int), (n - k).toNat ≤ q → 0 ≤ k → k ≤ n → (∀ i : Int, 0 ≤ i → i < k → f i = y) → xx_go (xt_P z) d 4 5 [some (.ref hp.length), some (.int (iI y)), some (.int (iI k)), some (.int (iI n))] [] (hp ++ [.inl (.int, xa_f n.toNat f)]) (fun v h1 => v = none ∧ h1 = hp ++ [.inl (.int, xa_f n.toNat (fun _ => y))]) := by
  intro q
  induction q with
  | zero =>
    intro k f hq k0 k1 hf
    refine go_a (pc' := 6) (ls' := [some (.ref hp.length), some (.int (iI y)), some (.int (iI k)), some (.int (iI n))]) (st' := [.int (iI k)]) rfl rfl ?_
    refine go_a (pc' := 7) (ls' := [some (.ref hp.length), some (.int (iI y)), some (.int (iI k)), some (.int (iI n))]) (st' := [.int (iI n), .int (iI k)]) rfl rfl ?_
    refine mi_ge (t := 20) rfl rfl (by omega) (by omega) (by omega) (by omega) (fun _ => ?_) (fun w => absurd (show k ≥ n by omega) w)
    exact go_r rfl rfl rfl rfl rfl rfl ⟨rfl, by rw [xa_f_ext (f := f) (g := fun _ => y) (fun i hi => hf i (by omega) (by omega))]⟩
  | succ q ih =>
    intro k f hq k0 k1 hf
    refine go_a (pc' := 6) (ls' := [some (.ref hp.length), some (.int (iI y)), some (.int (iI k)), some (.int (iI n))]) (st' := [.int (iI k)]) rfl rfl ?_
    refine go_a (pc' := 7) (ls' := [some (.ref hp.length), some (.int (iI y)), some (.int (iI k)), some (.int (iI n))]) (st' := [.int (iI n), .int (iI k)]) rfl rfl ?_
    refine mi_ge (t := 20) rfl rfl (by omega) (by omega) (by omega) (by omega) (fun w1 => ?_) (fun w1 => ?_)
    · exact go_r rfl rfl rfl rfl rfl rfl ⟨rfl, by rw [xa_f_ext (f := f) (g := fun _ => y) (fun i hi => hf i (by omega) (by omega))]⟩
    · refine go_a (pc' := 11) (ls' := [some (.ref hp.length), some (.int (iI y)), some (.int (iI k)), some (.int (iI n))]) (st' := [.ref hp.length]) rfl rfl ?_
      refine go_a (pc' := 12) (ls' := [some (.ref hp.length), some (.int (iI y)), some (.int (iI k)), some (.int (iI n))]) (st' := [.int (iI k), .ref hp.length]) rfl rfl ?_
      refine go_a (pc' := 13) (ls' := [some (.ref hp.length), some (.int (iI y)), some (.int (iI k)), some (.int (iI n))]) (st' := [.int (iI y), .int (iI k), .ref hp.length]) rfl rfl ?_
      refine mi_ist rfl app_self h12 k0 (by omega) (by omega) ?_
      rw [app_set, xa_f_set k0]
      show xx_go (xt_P z) d 4 14 [some (.ref hp.length), some (.int (iI y)), some (.int (iI k)), some (.int (iI n))] [] (hp ++ [.inl (.int, xa_f n.toNat (sf f k y))]) _
      refine go_a (pc' := 17) (ls' := [some (.ref hp.length), some (.int (iI y)), some (.int (iI (k + 1))), some (.int (iI n))]) (st' := []) rfl (by rw [← iI_add k 1]; rfl) ?_
      refine go_a (pc' := 5) (ls' := [some (.ref hp.length), some (.int (iI y)), some (.int (iI (k + 1))), some (.int (iI n))]) (st' := []) rfl rfl ?_
      refine ih (k + 1) (sf f k y) (by omega) (by omega) (by omega) (fun i i0 i1 => ?_)
      by_cases ci : i = k
      · rw [ci, sf_self]
      · rw [sf_ne ci]
        exact hf i i0 (by omega)
theorem xm_fill (z : Value) (d : Nat) (hp : xx_H) (h12 : 12 ≤ hp.length) (n y : Int) (f : Int → Int) (n0 : 0 ≤ n) (n1 : n ≤ 1000) : xx_cl (xt_P z) (d + 1) 4 [.ref hp.length, .int (iI y)] (hp ++ [.inl (.int, xa_f n.toNat f)]) (fun v h1 => v = none ∧ h1 = hp ++ [.inl (.int, xa_f n.toNat (fun _ => y))]) := by
  refine cl_go rfl ?_
  show xx_go (xt_P z) d 4 0 [some (.ref hp.length), some (.int (iI y)), none, none] [] (hp ++ [.inl (.int, xa_f n.toNat f)]) _
  refine go_a (pc' := 1) (ls' := [some (.ref hp.length), some (.int (iI y)), none, none]) (st' := [.int (iI 0)]) rfl rfl ?_
  refine go_a (pc' := 2) (ls' := [some (.ref hp.length), some (.int (iI y)), some (.int (iI 0)), none]) (st' := []) rfl rfl ?_
  refine go_a (pc' := 3) (ls' := [some (.ref hp.length), some (.int (iI y)), some (.int (iI 0)), none]) (st' := [.ref hp.length]) rfl rfl ?_
  refine mk_len (n := n) rfl app_self (xa_f_len _ _) (by omega) (by omega) ?_
  refine go_a (pc' := 5) (ls' := [some (.ref hp.length), some (.int (iI y)), some (.int (iI 0)), some (.int (iI n))]) (st' := []) rfl rfl ?_
  exact xm_fill_loop z d hp h12 n y n1 _ 0 f (Nat.le_refl _) (by decide) n0 (fun i i0 i1 => absurd i1 (by omega))
def VRS (c : Nat) (hp : xx_H) (s : KS) (u : Int) (T : ob_T) (v : Option Value) (h1 : xx_H) : Prop := KI c h1 s ∧ kx c hp s h1 s 1 6 ∧ ((v = some .null ∧ ¬ sp_vs 6 T) ∨ ∃ (q : Nat) (m : Int) (g : Int → Int), v = some (.ref q) ∧ hp.length ≤ q ∧ KAL h1 q m g ∧ kn c s q ∧ m ≤ 6 ∧ (∀ i : Int, 0 ≤ i → i < m → TVx u (g i) ∧ g i % 4 = 0) ∧ sp_vs 6 T ∧ ∀ ft : Nat → Int, TRS s.N (s.I 8) ft (rl m g) (sp_as T))
theorem ki_arr {c : Nat} {hp : xx_H} {s : KS} (hK : KI c hp s) (m : Int) (g : Int → Int) (m0 : 0 ≤ m) (m1 : m ≤ 6) : KI c (hp ++ [(.inl (.int, xa_f m.toNat g) : xx_E)]) s ∧ kx c hp s (hp ++ [(.inl (.int, xa_f m.toNat g) : xx_E)]) s 1 6 ∧ kn c s hp.length := by
  obtain ⟨a1, a2, a3⟩ := ki_app (e := (.inl (.int, xa_f m.toNat g) : xx_E)) hK
  refine ⟨a1, kx_w a2 (by decide) ?_, a3⟩
  show ((xa_f m.toNat g).length : Int) ≤ 6
  rw [xa_f_len]
  omega
theorem kg_vars_loop (z : Value) (d c : Nat) (x u m : Int) (hp : xx_H) (s : KS) (hK : KI c hp s) (hB : KB s) (hC : CI s) (ho : OB s x) (hu : s.I 8 ≤ u) (um : u ≤ 67108864) (m1 : m ≤ 6) (hST : STo (SD s) (DK s.N) (s.I 8)) (hL : isL (SD s) m.toNat x) : ∀ (q : Nat) (k : Int) (y5 y6 : Option Value) (g : Int → Int), (m - k).toNat ≤ q → 0 ≤ k → k ≤ m → (∀ i : Int, -2147483648 ≤ g i ∧ g i ≤ 2147483647) → (∀ i : Int, 0 ≤ i → i < k → TVx u (g i) ∧ g i % 4 = 0) → VI s.N (s.I 8) (DK s.N x) m k g → xx_go (xt_P z) (d + 3) 203 33 [some (.ref (c + 25)), some (.int (iI x)), some (.int (iI m)), some (.ref hp.length), some (.int (iI k)), y5, y6] [] (hp ++ [.inl (.int, xa_f m.toNat g)]) (fun v h1 => VRS c hp s u (DK s.N x) v h1) := by
  intro q
  induction q with
  | zero =>
    intro k y5 y6 g hq k0 k1 gR hg hV
    have al := (ST_isL hST _ x ho.1 ho.2).mp hL
    obtain ⟨K1, X1, N1⟩ := ki_arr hK m g (by omega) m1
    refine go_a (pc' := 35) (ls' := [some (.ref (c + 25)), some (.int (iI x)), some (.int (iI m)), some (.ref hp.length), some (.int (iI k)), y5, y6]) (st' := [.int (iI k)]) rfl rfl ?_
    refine go_a (pc' := 36) (ls' := [some (.ref (c + 25)), some (.int (iI x)), some (.int (iI m)), some (.ref hp.length), some (.int (iI k)), y5, y6]) (st' := [.int (iI m), .int (iI k)]) rfl rfl ?_
    refine mi_ge (t := 94) rfl rfl (by omega) (by omega) (by omega) (by omega) (fun _ => ?_) (fun w => absurd (show k ≥ m by omega) w)
    refine go_a (pc' := 95) (ls' := [some (.ref (c + 25)), some (.int (iI x)), some (.int (iI m)), some (.ref hp.length), some (.int (iI k)), y5, y6]) (st' := [.ref hp.length]) rfl rfl ?_
    exact go_r rfl rfl rfl rfl rfl rfl ⟨K1, X1, Or.inr ⟨_, m, g, rfl, Nat.le_refl _, ⟨app_self, ⟨by omega, by omega⟩, gR⟩, N1, m1, (fun i i0 i1 => hg i i0 (by omega)), (VI_end hST (by omega) m1 al.1 al.2 (by rw [show k = m by omega] at hV; exact hV) (fun _ => 0)).1, fun ft => (VI_end hST (by omega) m1 al.1 al.2 (by rw [show k = m by omega] at hV; exact hV) ft).2⟩⟩
  | succ q ih =>
    intro k y5 y6 g hq k0 k1 gR hg hV
    have al := (ST_isL hST _ x ho.1 ho.2).mp hL
    obtain ⟨K1, X1, N1⟩ := ki_arr hK m g (by omega) m1
    refine go_a (pc' := 35) (ls' := [some (.ref (c + 25)), some (.int (iI x)), some (.int (iI m)), some (.ref hp.length), some (.int (iI k)), y5, y6]) (st' := [.int (iI k)]) rfl rfl ?_
    refine go_a (pc' := 36) (ls' := [some (.ref (c + 25)), some (.int (iI x)), some (.int (iI m)), some (.ref hp.length), some (.int (iI k)), y5, y6]) (st' := [.int (iI m), .int (iI k)]) rfl rfl ?_
    refine mi_ge (t := 94) rfl rfl (by omega) (by omega) (by omega) (by omega) (fun w1 => ?_) (fun w1 => ?_)
    · refine go_a (pc' := 95) (ls' := [some (.ref (c + 25)), some (.int (iI x)), some (.int (iI m)), some (.ref hp.length), some (.int (iI k)), y5, y6]) (st' := [.ref hp.length]) rfl rfl ?_
      exact go_r rfl rfl rfl rfl rfl rfl ⟨K1, X1, Or.inr ⟨_, m, g, rfl, Nat.le_refl _, ⟨app_self, ⟨by omega, by omega⟩, gR⟩, N1, m1, (fun i i0 i1 => hg i i0 (by omega)), (VI_end hST (by omega) m1 al.1 al.2 (by rw [show k = m by omega] at hV; exact hV) (fun _ => 0)).1, fun ft => (VI_end hST (by omega) m1 al.1 al.2 (by rw [show k = m by omega] at hV; exact hV) ft).2⟩⟩
    · refine go_a (pc' := 40) (ls' := [some (.ref (c + 25)), some (.int (iI x)), some (.int (iI m)), some (.ref hp.length), some (.int (iI k)), y5, y6]) (st' := [.ref (c + 25)]) rfl rfl ?_
      refine go_get (v := .ref (c + 4)) rfl (K1.1 16 (by decide)) rfl rfl ?_
      refine go_a (pc' := 44) (ls' := [some (.ref (c + 25)), some (.int (iI x)), some (.int (iI m)), some (.ref hp.length), some (.int (iI k)), y5, y6]) (st' := [.int (iI x), .ref (c + 4)]) rfl rfl ?_
      refine go_a (pc' := 46) (ls' := [some (.ref (c + 25)), some (.int (iI x)), some (.int (iI m)), some (.ref hp.length), some (.int (iI k)), y5, y6]) (st' := [.int (iI k), .int (iI x), .ref (c + 4)]) rfl rfl ?_
      refine go_v (m := 202) (as := [.ref (c + 4), .int (iI x), .int (iI k)]) (r := []) rfl rfl rfl (K1.1 3 (by decide)) rfl rfl (kc_part z (d + 1) c x k _ s K1 hB hC ho (by omega) (by omega)) (fun v h3 hq => ?_)
      obtain ⟨⟨y, rfl, oy, hy9⟩, e⟩ := hq
      rw [e]
      clear e h3
      have hy8 := hy9 _ hL (by omega)
      have rt9 := (ST_rt hST _ k.toNat x ho.1 ho.2 hL (by omega)).1
      rw [← hy8] at rt9
      have iva := ST_iva hST oy.1 oy.2
      have sv2 : SD s 1 y = -2 ↔ 4611686018427387904 ≤ s.N y := by
        show (if s.N y < 0 then sd1 (s.N y) else if 4611686018427387904 ≤ s.N y then -2 else -1) = -2 ↔ _
        by_cases c7 : s.N y < 0
        · have := (sd_R (s.N y)).1.1
          rw [if_pos c7]
          omega
        · rw [if_neg c7]
          split <;> omega
      have oyr := OB_R hB oy
      unfold OB at oy
      show xx_go (xt_P z) (d + 3) 203 49 [some (.ref (c + 25)), some (.int (iI x)), some (.int (iI m)), some (.ref hp.length), some (.int (iI k)), y5, y6] [.int (iI y)] (hp ++ [.inl (.int, xa_f m.toNat g)]) _
      refine go_a (pc' := 51) (ls' := [some (.ref (c + 25)), some (.int (iI x)), some (.int (iI m)), some (.ref hp.length), some (.int (iI k)), some (.int (iI y)), y6]) (st' := []) rfl rfl ?_
      refine go_a (pc' := 53) (ls' := [some (.ref (c + 25)), some (.int (iI x)), some (.int (iI m)), some (.ref hp.length), some (.int (iI k)), some (.int (iI y)), y6]) (st' := [.int (iI y)]) rfl rfl ?_
      refine go_s (m := 204) (as := [.int (iI y)]) (r := []) rfl rfl rfl rfl (kg_variable z (d + 2) y _ oy.1 (by omega)) (fun v h3 hq => ?_)
      obtain ⟨rfl, e⟩ := hq
      rw [e]
      clear e h3
      show xx_go (xt_P z) (d + 3) 203 56 [some (.ref (c + 25)), some (.int (iI x)), some (.int (iI m)), some (.ref hp.length), some (.int (iI k)), some (.int (iI y)), y6] [.int (iI (y * 32))] (hp ++ [.inl (.int, xa_f m.toNat g)]) _
      refine go_a (pc' := 58) (ls' := [some (.ref (c + 25)), some (.int (iI x)), some (.int (iI m)), some (.ref hp.length), some (.int (iI k)), some (.int (iI y)), some (.int (iI (y * 32)))]) (st' := []) rfl rfl ?_
      refine go_a (pc' := 59) (ls' := [some (.ref (c + 25)), some (.int (iI x)), some (.int (iI m)), some (.ref hp.length), some (.int (iI k)), some (.int (iI y)), some (.int (iI (y * 32)))]) (st' := [.ref (c + 25)]) rfl rfl ?_
      refine go_get (v := .ref (c + 4)) rfl (K1.1 16 (by decide)) rfl rfl ?_
      refine go_a (pc' := 64) (ls' := [some (.ref (c + 25)), some (.int (iI x)), some (.int (iI m)), some (.ref hp.length), some (.int (iI k)), some (.int (iI y)), some (.int (iI (y * 32)))]) (st' := [.int (iI y), .ref (c + 4)]) rfl rfl ?_
      have nul : ¬ sp_vs 6 (DK s.N x) → xx_go (xt_P z) (d + 3) 203 80 [some (.ref (c + 25)), some (.int (iI x)), some (.int (iI m)), some (.ref hp.length), some (.int (iI k)), some (.int (iI y)), some (.int (iI (y * 32)))] [] (hp ++ [.inl (.int, xa_f m.toNat g)]) (fun v h1 => VRS c hp s u (DK s.N x) v h1) := by
        intro nv9
        refine go_a (pc' := 81) (ls' := [some (.ref (c + 25)), some (.int (iI x)), some (.int (iI m)), some (.ref hp.length), some (.int (iI k)), some (.int (iI y)), some (.int (iI (y * 32)))]) (st' := [.null]) rfl rfl ?_
        exact go_r rfl rfl rfl rfl rfl rfl ⟨K1, X1, Or.inl ⟨rfl, nv9⟩⟩
      refine go_v (m := 205) (as := [.ref (c + 4), .int (iI y)]) (r := []) rfl rfl rfl (K1.1 3 (by decide)) rfl rfl (kc_isVariable z (d + 1) c y _ s K1 hB oyr.1 oyr.2) (fun v h3 hq => ?_)
      obtain ⟨hq, e⟩ := hq
      rw [e]
      clear e h3
      rcases hq with ⟨c1, rfl⟩ | ⟨c1, rfl⟩
      · show xx_go (xt_P z) (d + 3) 203 67 [some (.ref (c + 25)), some (.int (iI x)), some (.int (iI m)), some (.ref hp.length), some (.int (iI k)), some (.int (iI y)), some (.int (iI (y * 32)))] [.int (iI 1)] (hp ++ [.inl (.int, xa_f m.toNat g)]) _
        refine mi_eq0 (t := 80) rfl rfl (by omega) (by omega) (fun q => absurd q (by decide)) (fun _ => ?_)
        refine go_a (pc' := 72) (ls' := [some (.ref (c + 25)), some (.int (iI x)), some (.int (iI m)), some (.ref hp.length), some (.int (iI k)), some (.int (iI y)), some (.int (iI (y * 32)))]) (st' := [.int (iI (y * 32))]) rfl rfl ?_
        refine go_a (pc' := 73) (ls' := [some (.ref (c + 25)), some (.int (iI x)), some (.int (iI m)), some (.ref hp.length), some (.int (iI k)), some (.int (iI y)), some (.int (iI (y * 32)))]) (st' := [.ref hp.length, .int (iI (y * 32))]) rfl rfl ?_
        refine go_s (m := 207) (as := [.int (iI (y * 32)), .ref hp.length]) (r := []) rfl rfl rfl rfl (kg_placeOf z (d + 2) (y * 32) hp.length m g _ ⟨app_self, ⟨by omega, by omega⟩, gR⟩ (by omega) (by omega)) (fun v h3 hq => ?_)
        obtain ⟨⟨j, rfl, hj⟩, e⟩ := hq
        rw [e]
        clear e h3
        have jr : -1 ≤ j ∧ j ≤ 1000 := by
          rcases hj with ⟨hj, -⟩ | ⟨h1, h2, -⟩ <;> omega
        show xx_go (xt_P z) (d + 3) 203 76 [some (.ref (c + 25)), some (.int (iI x)), some (.int (iI m)), some (.ref hp.length), some (.int (iI k)), some (.int (iI y)), some (.int (iI (y * 32)))] [.int (iI j)] (hp ++ [.inl (.int, xa_f m.toNat g)]) _
        refine go_a (pc' := 77) (ls' := [some (.ref (c + 25)), some (.int (iI x)), some (.int (iI m)), some (.ref hp.length), some (.int (iI k)), some (.int (iI y)), some (.int (iI (y * 32)))]) (st' := [.int (iI ((-1))), .int (iI j)]) rfl rfl ?_
        refine mi_eq (t := 82) rfl rfl (by omega) (by omega) (by omega) (by omega) (fun w9 => ?_) (fun w9 => nul ?_)
        rotate_left
        · rcases hj with ⟨hj, -⟩ | ⟨j0, j1, j2, -⟩
          · omega
          · have jk : j < k := by
              by_cases c6 : j < k
              · exact c6
              · have := hV.2.2 j (by omega) j1
                omega
            obtain ⟨y2, v2, oy2, e1, e2, e3, e4, e5⟩ := hV.1 j.toNat (by omega)
            rw [show ((j.toNat : Nat) : Int) = j by omega] at e5
            have ey : y2 = y := by omega
            rw [ey] at e2
            rw [e2] at rt9
            intro hs9
            have lj : j.toNat < (sp_as (DK s.N x)).length := by
              rw [al.2]
              omega
            have lk : k.toNat < (sp_as (DK s.N x)).length := by
              rw [al.2]
              omega
            rw [List.getElem?_eq_getElem lj] at e1
            rw [List.getElem?_eq_getElem lk] at rt9
            have q9 := List.pairwise_iff_getElem.mp hs9.2.2.2 j.toNat k.toNat lj lk (by omega)
            injection e1 with e1
            injection rt9 with rt9
            exact q9 (e1.trans rt9.symm)
        refine go_a (pc' := 83) (ls' := [some (.ref (c + 25)), some (.int (iI x)), some (.int (iI m)), some (.ref hp.length), some (.int (iI k)), some (.int (iI y)), some (.int (iI (y * 32)))]) (st' := [.ref hp.length]) rfl rfl ?_
        refine go_a (pc' := 85) (ls' := [some (.ref (c + 25)), some (.int (iI x)), some (.int (iI m)), some (.ref hp.length), some (.int (iI k)), some (.int (iI y)), some (.int (iI (y * 32)))]) (st' := [.int (iI k), .ref hp.length]) rfl rfl ?_
        refine go_a (pc' := 87) (ls' := [some (.ref (c + 25)), some (.int (iI x)), some (.int (iI m)), some (.ref hp.length), some (.int (iI k)), some (.int (iI y)), some (.int (iI (y * 32)))]) (st' := [.int (iI (y * 32)), .int (iI k), .ref hp.length]) rfl rfl ?_
        refine mi_ist rfl app_self (ki_12 hK).2 k0 (by omega) (by omega) ?_
        rw [app_set, xa_f_set k0]
        show xx_go (xt_P z) (d + 3) 203 88 [some (.ref (c + 25)), some (.int (iI x)), some (.int (iI m)), some (.ref hp.length), some (.int (iI k)), some (.int (iI y)), some (.int (iI (y * 32)))] [] (hp ++ [.inl (.int, xa_f m.toNat (sf g k (y * 32)))]) _
        refine go_a (pc' := 91) (ls' := [some (.ref (c + 25)), some (.int (iI x)), some (.int (iI m)), some (.ref hp.length), some (.int (iI (k + 1))), some (.int (iI y)), some (.int (iI (y * 32)))]) (st' := []) rfl (by rw [← iI_add k 1]; rfl) ?_
        refine go_a (pc' := 33) (ls' := [some (.ref (c + 25)), some (.int (iI x)), some (.int (iI m)), some (.ref hp.length), some (.int (iI (k + 1))), some (.int (iI y)), some (.int (iI (y * 32)))]) (st' := []) rfl rfl ?_
        have lf := TVx_leaf (u := u) (w := y) (b := 0) oy.1 (by omega) um (Or.inl rfl)
        rw [Int.add_zero] at lf
        refine ih (k + 1) _ _ (sf g k (y * 32)) (by omega) (by omega) (by omega) (fun i => ?_) (fun i i0 i1 => ?_) ⟨fun i i1 => ?_, fun i j i0 ij j1 => ?_, fun i i0 i1 => ?_⟩
        · by_cases ci : i = k
          · rw [ci, sf_self]
            omega
          · rw [sf_ne ci]
            exact gR i
        · by_cases ci : i = k
          · rw [ci, sf_self]
            exact ⟨lf.1, by omega⟩
          · rw [sf_ne ci]
            exact hg i i0 (by omega)
        · by_cases ci : (i : Int) = k
          · obtain ⟨v3, e3, e4, e5⟩ := sp_iv_e (iva.mp ⟨sv2.mpr c1.1.2.2, c1.2⟩)
            refine ⟨y, v3, oy, ?_, e3, e4, e5, by rw [ci, sf_self]⟩
            rw [e3, show k.toNat = i by omega] at rt9
            exact rt9
          · obtain ⟨y2, v2, p1, p2, p3, p4, p5, p6⟩ := hV.1 i (by omega)
            exact ⟨y2, v2, p1, p2, p3, p4, p5, by rw [sf_ne ci]; exact p6⟩
        · rw [sf_ne (show i ≠ k by omega)]
          by_cases cj : j = k
          · rw [cj, sf_self]
            rcases hj with ⟨-, hj2⟩ | ⟨j0, -⟩
            · exact hj2 i i0 (by omega)
            · omega
          · rw [sf_ne cj]
            exact hV.2.1 i j i0 ij (by omega)
        · rw [sf_ne (show i ≠ k by omega)]
          exact hV.2.2 i (by omega) i1
      · show xx_go (xt_P z) (d + 3) 203 67 [some (.ref (c + 25)), some (.int (iI x)), some (.int (iI m)), some (.ref hp.length), some (.int (iI k)), some (.int (iI y)), some (.int (iI (y * 32)))] [.int (iI 0)] (hp ++ [.inl (.int, xa_f m.toNat g)]) _
        refine mi_eq0 (t := 80) rfl rfl (by omega) (by omega) (fun _ => nul ?_) (fun q => absurd rfl q)
        intro hs9
        have lk : k.toNat < (sp_as (DK s.N x)).length := by
          rw [al.2]
          omega
        rw [List.getElem?_eq_getElem lk] at rt9
        injection rt9 with rt9
        have q9 := hs9.2.2.1 _ (List.getElem_mem lk)
        rw [rt9] at q9
        have q8 := iva.mpr q9
        exact c1 ⟨⟨oy.1, oy.2, sv2.mp q8.1⟩, q8.2⟩
theorem kg_variables (z : Value) (d c : Nat) (x u : Int) (hp : xx_H) (s : KS) (hK : KI c hp s) (hB : KB s) (hC : CI s) (ho : OB s x) (hu : s.I 8 ≤ u) (um : u ≤ 67108864) (hST : STo (SD s) (DK s.N) (s.I 8)) : xx_cl (xt_P z) (d + 4) 203 [.ref (c + 25), .int (iI x)] hp (fun v h1 => VRS c hp s u (DK s.N x) v h1) := by
  refine cl_go rfl ?_
  show xx_go (xt_P z) (d + 3) 203 0 [some (.ref (c + 25)), some (.int (iI x)), none, none, none, none, none] [] hp _
  refine go_a (pc' := 1) (ls' := [some (.ref (c + 25)), some (.int (iI x)), none, none, none, none, none]) (st' := [.ref (c + 25)]) rfl rfl ?_
  refine go_get (v := .ref (c + 4)) rfl (hK.1 16 (by decide)) rfl rfl ?_
  refine go_a (pc' := 5) (ls' := [some (.ref (c + 25)), some (.int (iI x)), none, none, none, none, none]) (st' := [.int (iI x), .ref (c + 4)]) rfl rfl ?_
  refine go_v (m := 198) (as := [.ref (c + 4), .int (iI x)]) (r := []) rfl rfl rfl (hK.1 3 (by decide)) rfl rfl (kc_listLength z (d + 1) c x hp s hK hB hC ho) (fun v h3 hq => ?_)
  obtain ⟨⟨n, rfl, hn⟩, e⟩ := hq
  rw [e]
  clear e h3
  have nr : -1 ≤ n ∧ n ≤ 140000 := by
    rcases hn with ⟨q, -⟩ | ⟨m, q, hL⟩
    · omega
    · have := isL_len hC.1 _ m x (Nat.le_refl _) ho.1 ho.2 hL
      have l8 : s.I 8 ≤ 140000 := hC.1.1
      have := ho.2
      omega
  have ns9 : (n < 0 ∨ 6 < n) → ¬ sp_vs 6 (DK s.N x) := by
    intro c9 w9
    have iw := (ST_isL hST _ x ho.1 ho.2).mpr ⟨w9.1, rfl⟩
    rcases hn with ⟨q, hn⟩ | ⟨m, q, hL⟩
    · exact hn _ iw
    · have a9 := ((ST_isL hST _ x ho.1 ho.2).mp hL).2
      have b9 := w9.2.1
      omega
  have hL9 : 0 ≤ n → isL (SD s) n.toNat x := by
    intro c9
    rcases hn with ⟨q, hn⟩ | ⟨m, q, hL⟩
    · omega
    · rw [show n.toNat = m by omega]
      exact hL
  clear hn
  show xx_go (xt_P z) (d + 3) 203 8 [some (.ref (c + 25)), some (.int (iI x)), none, none, none, none, none] [.int (iI n)] hp _
  refine go_a (pc' := 9) (ls' := [some (.ref (c + 25)), some (.int (iI x)), some (.int (iI n)), none, none, none, none]) (st' := []) rfl rfl ?_
  refine go_a (pc' := 10) (ls' := [some (.ref (c + 25)), some (.int (iI x)), some (.int (iI n)), none, none, none, none]) (st' := [.int (iI n)]) rfl rfl ?_
  have nul : ¬ sp_vs 6 (DK s.N x) → xx_go (xt_P z) (d + 3) 203 19 [some (.ref (c + 25)), some (.int (iI x)), some (.int (iI n)), none, none, none, none] [] hp (fun v h1 => VRS c hp s u (DK s.N x) v h1) := by
    intro nv9
    refine go_a (pc' := 20) (ls' := [some (.ref (c + 25)), some (.int (iI x)), some (.int (iI n)), none, none, none, none]) (st' := [.null]) rfl rfl ?_
    exact go_r rfl rfl rfl rfl rfl rfl ⟨hK, kx_w kx_rf (by decide) (by decide), Or.inl ⟨rfl, nv9⟩⟩
  refine mi_lt0 (t := 19) rfl rfl (by omega) (by omega) (fun w1 => nul (ns9 (by omega))) (fun w1 => ?_)
  refine go_a (pc' := 14) (ls' := [some (.ref (c + 25)), some (.int (iI x)), some (.int (iI n)), none, none, none, none]) (st' := [.int (iI n)]) rfl rfl ?_
  refine go_a (pc' := 16) (ls' := [some (.ref (c + 25)), some (.int (iI x)), some (.int (iI n)), none, none, none, none]) (st' := [.int (iI 6), .int (iI n)]) rfl rfl ?_
  refine mi_le (t := 21) rfl rfl (by omega) (by omega) (by omega) (by omega) (fun w2 => ?_) (fun w2 => nul (ns9 (by omega)))
  refine go_a (pc' := 22) (ls' := [some (.ref (c + 25)), some (.int (iI x)), some (.int (iI n)), none, none, none, none]) (st' := [.int (iI n)]) rfl rfl ?_
  refine go_newa (m := n.toNat) rfl rfl (iI_nn (by omega) (by omega)) (iI_clamp (by omega) (by omega)) (by omega) ?_
  rw [show List.replicate n.toNat (defaultValue .int) = xa_f n.toNat (fun _ => 0) from rep_f n.toNat]
  show xx_go (xt_P z) (d + 3) 203 24 [some (.ref (c + 25)), some (.int (iI x)), some (.int (iI n)), none, none, none, none] [.ref hp.length] (hp ++ [.inl (.int, xa_f n.toNat (fun _ => 0))]) _
  refine go_a (pc' := 25) (ls' := [some (.ref (c + 25)), some (.int (iI x)), some (.int (iI n)), some (.ref hp.length), none, none, none]) (st' := []) rfl rfl ?_
  refine go_a (pc' := 26) (ls' := [some (.ref (c + 25)), some (.int (iI x)), some (.int (iI n)), some (.ref hp.length), none, none, none]) (st' := [.ref hp.length]) rfl rfl ?_
  refine go_a (pc' := 27) (ls' := [some (.ref (c + 25)), some (.int (iI x)), some (.int (iI n)), some (.ref hp.length), none, none, none]) (st' := [.int (iI ((-1))), .ref hp.length]) rfl rfl ?_
  refine go_s (m := 4) (as := [.ref hp.length, .int (iI ((-1)))]) (r := []) rfl rfl rfl rfl (xm_fill z (d + 2) hp (ki_12 hK).2 n (-1) (fun _ => 0) (by omega) (by omega)) (fun v h3 hq => ?_)
  obtain ⟨rfl, e⟩ := hq
  rw [e]
  clear e h3
  show xx_go (xt_P z) (d + 3) 203 30 [some (.ref (c + 25)), some (.int (iI x)), some (.int (iI n)), some (.ref hp.length), none, none, none] [] (hp ++ [.inl (.int, xa_f n.toNat (fun _ => (-1)))]) _
  refine go_a (pc' := 31) (ls' := [some (.ref (c + 25)), some (.int (iI x)), some (.int (iI n)), some (.ref hp.length), none, none, none]) (st' := [.int (iI 0)]) rfl rfl ?_
  refine go_a (pc' := 33) (ls' := [some (.ref (c + 25)), some (.int (iI x)), some (.int (iI n)), some (.ref hp.length), some (.int (iI 0)), none, none]) (st' := []) rfl rfl ?_
  exact kg_vars_loop z d c x u n hp s hK hB hC ho hu um w2 hST (hL9 (by omega)) _ 0 _ _ (fun _ => (-1)) (Nat.le_refl _) (by decide) (by omega) (fun _ => by decide) (fun i i0 i1 => absurd i1 (by omega)) ⟨fun i i1 => absurd i1 (by omega), fun i j i0 ij j1 => absurd j1 (by omega), fun _ _ _ => rfl⟩
theorem kg_readBody (z : Value) (d c : Nat) (x nm cl u : Int) (hp : xx_H) (s : KS) (hK : KI c hp s) (hB : KB s) (hC : CI s) (NM : BKM) (hF : BF c hp s u NM) (u0 : 38 ≤ u) (um : u ≤ 67108864) (hu : s.I 8 ≤ u) (hO : OC hp) (ft : Nat → Int) (hH : HFT ((s.wI 14 nm).wI 15 cl) NM ft) (fq : ft 85168940 = -1) (hST : STo (SD s) (DK s.N) (s.I 8)) (e14 : s.I 14 = -1) (e15 : s.I 15 = -1) (nm0 : 0 ≤ nm) (nm1 : nm ≤ 2147483647) (vc : TVx u cl) (hc : cl % 4 = 2) (ho : OB s x) (w1 : WD (SD s) x ≤ 1990) : xx_cl (xt_P z) (d + 8) 210 [.ref (c + 25), .int (iI x), .int (iI nm), .int (iI cl)] hp (fun v h1 => RDP c hp s u (WD (SD s) x) ft (DK s.N x) v h1) := by
  have hX := kx_rf (c := c) (hp := hp) (s := s)
  have c1 := vc.1
  have c2 := vc.2.1
  refine cl_go rfl ?_
  show xx_go (xt_P z) (d + 7) 210 0 [some (.ref (c + 25)), some (.int (iI x)), some (.int (iI nm)), some (.int (iI cl)), none] [] hp _
  refine go_a (pc' := 1) (ls' := [some (.ref (c + 25)), some (.int (iI x)), some (.int (iI nm)), some (.int (iI cl)), none]) (st' := [.ref (c + 25)]) rfl rfl ?_
  refine go_a (pc' := 2) (ls' := [some (.ref (c + 25)), some (.int (iI x)), some (.int (iI nm)), some (.int (iI cl)), none]) (st' := [.int (iI nm), .ref (c + 25)]) rfl rfl ?_
  refine kput_14 (x := nm) hK hX rfl rfl (fun hp1 hK hX => ?_)
  refine go_a (pc' := 6) (ls' := [some (.ref (c + 25)), some (.int (iI x)), some (.int (iI nm)), some (.int (iI cl)), none]) (st' := [.ref (c + 25)]) rfl rfl ?_
  refine go_a (pc' := 7) (ls' := [some (.ref (c + 25)), some (.int (iI x)), some (.int (iI nm)), some (.int (iI cl)), none]) (st' := [.int (iI cl), .ref (c + 25)]) rfl rfl ?_
  refine kput_15 (x := cl) hK hX rfl rfl (fun hp1 hK hX => ?_)
  refine go_a (pc' := 11) (ls' := [some (.ref (c + 25)), some (.int (iI x)), some (.int (iI nm)), some (.int (iI cl)), none]) (st' := [.ref (c + 25)]) rfl rfl ?_
  refine go_a (pc' := 12) (ls' := [some (.ref (c + 25)), some (.int (iI x)), some (.int (iI nm)), some (.int (iI cl)), none]) (st' := [.int (iI x), .ref (c + 25)]) rfl rfl ?_
  have B1 : KB ((s.wI 14 nm).wI 15 cl) := KB_wF (KB_wF hB (by omega) (by omega) (by decide)) (by omega) (by omega) (by decide)
  have A1 : KSA s ((s.wI 14 nm).wI 15 cl) := ⟨rfl, rfl, rfl⟩
  have eD : SD ((s.wI 14 nm).wI 15 cl) = SD s := rfl
  have hF1 : BF c hp1 ((s.wI 14 nm).wI 15 cl) u NM := BF_kx hF hX (Int.le_refl _) rfl rfl
  have hW1 : OWNc u ((s.wI 14 nm).wI 15 cl) := Or.inr ⟨nm0, vc, hc⟩
  refine go_v (m := 211) (as := [.ref (c + 25), .int (iI x)]) (r := []) rfl rfl rfl (hK.1 16 (by decide)) rfl rfl (kg_read z d c x u hp1 ((s.wI 14 nm).wI 15 cl) hK B1 (KSA_CI A1 hC) NM hF1 u0 um hu (OC_kx hO hX) hW1 ft hH fq hST (KSA_OB A1 ho) w1) (fun v h3 hq => ?_)
  obtain ⟨s1, K1, B2, F1, hq⟩ := hq
  have F9 : ∀ t : KS, t = (s1.wI 14 (-1)).wI 15 (-1) → TF s t := by
    intro t et
    rw [et]
    refine ⟨F1.1, F1.2.1, F1.2.2.1, fun j p q => ?_⟩
    show su (su s1.I 14 (-1)) 15 (-1) j = s.I j
    by_cases j15 : j = 15
    · rw [j15, e15]
      rfl
    · rw [su_ne j15]
      by_cases j14 : j = 14
      · rw [j14, e14]
        rfl
      · rw [su_ne j14, F1.2.2.2 j p q]
        show su (su s.I 14 nm) 15 cl j = s.I j
        rw [su_ne j15, su_ne j14]
  have B9 : KB ((s1.wI 14 (-1)).wI 15 (-1)) := KB_wF (KB_wF B2 (by decide) (by decide) (by decide)) (by decide) (by decide) (by decide)
  rcases hq with ⟨rfl, X1, nn9⟩ | ⟨a, n, f, rfl, n1, l1, X1, T1, tn9⟩
  · have hX := kx_tr hX X1
    show xx_go (xt_P z) (d + 7) 210 15 [some (.ref (c + 25)), some (.int (iI x)), some (.int (iI nm)), some (.int (iI cl)), none] [.null] h3 _
    refine go_a (pc' := 17) (ls' := [some (.ref (c + 25)), some (.int (iI x)), some (.int (iI nm)), some (.int (iI cl)), some (.null)]) (st' := []) rfl rfl ?_
    refine go_a (pc' := 18) (ls' := [some (.ref (c + 25)), some (.int (iI x)), some (.int (iI nm)), some (.int (iI cl)), some (.null)]) (st' := [.ref (c + 25)]) rfl rfl ?_
    refine go_a (pc' := 19) (ls' := [some (.ref (c + 25)), some (.int (iI x)), some (.int (iI nm)), some (.int (iI cl)), some (.null)]) (st' := [.int (iI ((-1))), .ref (c + 25)]) rfl rfl ?_
    refine kput_14 (x := (-1)) K1 hX rfl rfl (fun hp2 hK hX => ?_)
    refine go_a (pc' := 23) (ls' := [some (.ref (c + 25)), some (.int (iI x)), some (.int (iI nm)), some (.int (iI cl)), some (.null)]) (st' := [.ref (c + 25)]) rfl rfl ?_
    refine go_a (pc' := 24) (ls' := [some (.ref (c + 25)), some (.int (iI x)), some (.int (iI nm)), some (.int (iI cl)), some (.null)]) (st' := [.int (iI ((-1))), .ref (c + 25)]) rfl rfl ?_
    refine kput_15 (x := (-1)) hK hX rfl rfl (fun hp2 hK hX => ?_)
    refine go_a (pc' := 29) (ls' := [some (.ref (c + 25)), some (.int (iI x)), some (.int (iI nm)), some (.int (iI cl)), some (.null)]) (st' := [.null]) rfl rfl ?_
    exact go_r rfl rfl rfl rfl rfl rfl ⟨_, hK, B9, F9 _ rfl, Or.inl ⟨rfl, kx_w hX (by decide) (by decide), nn9⟩⟩
  · have l2 := hX.1
    have hX0 := kx_tr hX X1
    have hX := kx_rf (c := c) (hp := h3) (s := s1)
    show xx_go (xt_P z) (d + 7) 210 15 [some (.ref (c + 25)), some (.int (iI x)), some (.int (iI nm)), some (.int (iI cl)), none] [.ref a] h3 _
    refine go_a (pc' := 17) (ls' := [some (.ref (c + 25)), some (.int (iI x)), some (.int (iI nm)), some (.int (iI cl)), some (.ref a)]) (st' := []) rfl rfl ?_
    refine go_a (pc' := 18) (ls' := [some (.ref (c + 25)), some (.int (iI x)), some (.int (iI nm)), some (.int (iI cl)), some (.ref a)]) (st' := [.ref (c + 25)]) rfl rfl ?_
    refine go_a (pc' := 19) (ls' := [some (.ref (c + 25)), some (.int (iI x)), some (.int (iI nm)), some (.int (iI cl)), some (.ref a)]) (st' := [.int (iI ((-1))), .ref (c + 25)]) rfl rfl ?_
    refine kput_14 (x := (-1)) K1 hX rfl rfl (fun hp2 hK hX => ?_)
    refine go_a (pc' := 23) (ls' := [some (.ref (c + 25)), some (.int (iI x)), some (.int (iI nm)), some (.int (iI cl)), some (.ref a)]) (st' := [.ref (c + 25)]) rfl rfl ?_
    refine go_a (pc' := 24) (ls' := [some (.ref (c + 25)), some (.int (iI x)), some (.int (iI nm)), some (.int (iI cl)), some (.ref a)]) (st' := [.int (iI ((-1))), .ref (c + 25)]) rfl rfl ?_
    refine kput_15 (x := (-1)) hK hX rfl rfl (fun hp2 hK hX => ?_)
    refine go_a (pc' := 29) (ls' := [some (.ref (c + 25)), some (.int (iI x)), some (.int (iI nm)), some (.int (iI cl)), some (.ref a)]) (st' := [.ref a]) rfl rfl ?_
    exact go_r rfl rfl rfl rfl rfl rfl ⟨_, hK, B9, F9 _ rfl, Or.inr ⟨a, n, f, rfl, n1, by omega, kx_w (kx_tr hX0 hX) (by omega) (by omega), TM_kx T1 hX, tn9⟩⟩
