theorem kh_addC (z : Value) (d c : Nat) (hp : xx_H) (s : KS) (u : Int) (x : Nat) (b : Int) (Z : List (List Int)) (hC : CL c hp s u x b Z) (t : Nat) (nt : Int) (ft : Int → Int) (hT : TM c hp s u t nt ft) : xx_cl (xt_P z) (d + 3) 261 [.ref x, .ref t] hp (fun v h1 => v = none ∧ KFE x hp h1 ∧ ∃ (b1 : Int) (Z1 : List (List Int)), (b1, Z1) = clA (b, Z) (rl nt ft) ∧ CL c h1 s u x b1 Z1) := by
  obtain ⟨m, w, O, nO, fO, hC, rfl⟩ := hC
  exact kh_add z d c hp s u x m w b O nO fO hC t nt ft hT
theorem kh_addN (z : Value) (d c : Nat) (hp : xx_H) (s : KS) (u : Int) (x : Nat) (b : Int) (Z : List (List Int)) (hC : CL c hp s u x b Z) : xx_cl (xt_P z) (d + 3) 261 [.ref x, .null] hp (fun v h1 => v = none ∧ KFE x hp h1 ∧ CL c h1 s u x 1 Z) := by
  obtain ⟨m, w, O, nO, fO, hC, rfl⟩ := hC
  exact kh_add0 z d c hp s u x m w b O nO fO hC
theorem CL_cell {c : Nat} {hp : xx_H} {s : KS} {u b : Int} {x : Nat} {Z : List (List Int)} (h : CL c hp s u x b Z) : ∃ m w : Int, hp[x]? = some (CLo x m w b) := by
  obtain ⟨m, w, O, nO, fO, h, -⟩ := h
  exact ⟨m, w, h.1⟩
theorem kh_from_loop (z : Value) (d c : Nat) (p : Int) (s : KS) (u : Int) (x : Nat) (y : Nat) (m w b : Int) (O : Int → Option Nat) (nO : Int → Int) (fO : Int → Int → Int) (hp0 : xx_H) (ne : y ≠ x) (E9 : Int × List (List Int)) : ∀ (j : Nat) (k b0 : Int) (Z0 : List (List Int)) (hp : xx_H), (m - k).toNat ≤ j → 0 ≤ k → k ≤ 100 → CLS c hp s u y m w b O nO fO → CL c hp s u x b0 Z0 → KFE x hp0 hp → E9 = ((ol m nO fO).drop k.toNat).foldl clA (b0, Z0) → xx_go (xt_P z) (d + 3) 271 2 [some (.ref x), some (.ref y), some (.int (iI p)), some (.int (iI k))] [] hp (fun v h1 => v = none ∧ KFE x hp0 h1 ∧ ∃ (b1 : Int) (Z1 : List (List Int)), (b1, Z1) = E9 ∧ CL c h1 s u x b1 Z1) := by
  intro j
  induction j with
  | zero =>
    intro k b0 Z0 hp hj k0 k1 hY hC hF h9
    have mb := hY.2.2.2.1
    refine go_a (pc' := 3) (ls' := [some (.ref x), some (.ref y), some (.int (iI p)), some (.int (iI k))]) (st' := [.int (iI k)]) rfl rfl ?_
    refine go_a (pc' := 4) (ls' := [some (.ref x), some (.ref y), some (.int (iI p)), some (.int (iI k))]) (st' := [.ref y, .int (iI k)]) rfl rfl ?_
    refine go_get (v := .int (iI m)) rfl hY.1 rfl rfl ?_
    refine mi_ge (t := 25) rfl rfl (by omega) (by omega) (by omega) (by omega) (fun _ => ?_) (fun w => absurd (show k ≥ m by omega) w)
    exact go_r rfl rfl rfl rfl rfl rfl ⟨rfl, hF, b0, Z0, by rw [h9, List.drop_eq_nil_of_le (by rw [ol_len]; omega)]; rfl, hC⟩
  | succ j ih =>
    intro k b0 Z0 hp hj k0 k1 hY hC hF h9
    have mb := hY.2.2.2.1
    refine go_a (pc' := 3) (ls' := [some (.ref x), some (.ref y), some (.int (iI p)), some (.int (iI k))]) (st' := [.int (iI k)]) rfl rfl ?_
    refine go_a (pc' := 4) (ls' := [some (.ref x), some (.ref y), some (.int (iI p)), some (.int (iI k))]) (st' := [.ref y, .int (iI k)]) rfl rfl ?_
    refine go_get (v := .int (iI m)) rfl hY.1 rfl rfl ?_
    refine mi_ge (t := 25) rfl rfl (by omega) (by omega) (by omega) (by omega) (fun w1 => ?_) (fun w1 => ?_)
    · exact go_r rfl rfl rfl rfl rfl rfl ⟨rfl, hF, b0, Z0, by rw [h9, List.drop_eq_nil_of_le (by rw [ol_len]; omega)]; rfl, hC⟩
    · refine go_a (pc' := 11) (ls' := [some (.ref x), some (.ref y), some (.int (iI p)), some (.int (iI k))]) (st' := [.ref x]) rfl rfl ?_
      refine go_a (pc' := 12) (ls' := [some (.ref x), some (.ref y), some (.int (iI p)), some (.int (iI k))]) (st' := [.ref y, .ref x]) rfl rfl ?_
      refine go_a (pc' := 13) (ls' := [some (.ref x), some (.ref y), some (.int (iI p)), some (.int (iI k))]) (st' := [.int (iI k), .ref y, .ref x]) rfl rfl ?_
      refine go_v (m := 263) (as := [.ref y, .int (iI k)]) (r := [.ref x]) rfl rfl rfl hY.1 rfl rfl (kh_at z (d + 2) c k hp s u y m w b O nO fO hY (by omega) (by omega)) (fun v h1 hq => ?_)
      obtain ⟨hq, e⟩ := hq
      rw [e]
      clear e h1
      rcases hq with ⟨a, rfl, hk, ea, Ta⟩ | ⟨-, q⟩
      · show xx_go (xt_P z) (d + 3) 271 16 [some (.ref x), some (.ref y), some (.int (iI p)), some (.int (iI k))] [.ref a, .ref x] hp _
        obtain ⟨mx, wx, cx⟩ := CL_cell hC
        refine go_v (m := 261) (as := [.ref x, .ref a]) (r := []) rfl rfl rfl cx rfl rfl (kh_addC z d c hp s u x b0 Z0 hC a (nO k) (fO k) Ta) (fun v h1 hq => ?_)
        obtain ⟨rfl, F1, b1, Z1, e1, C1⟩ := hq
        show xx_go (xt_P z) (d + 3) 271 19 [some (.ref x), some (.ref y), some (.int (iI p)), some (.int (iI k))] [] h1 _
        refine go_a (pc' := 22) (ls' := [some (.ref x), some (.ref y), some (.int (iI p)), some (.int (iI (k + 1)))]) (st' := []) rfl (by rw [← iI_add k 1]; rfl) ?_
        refine go_a (pc' := 2) (ls' := [some (.ref x), some (.ref y), some (.int (iI p)), some (.int (iI (k + 1)))]) (st' := []) rfl rfl ?_
        obtain ⟨_, _, _, _, _, g, -⟩ := id hC
        rw [ol_drop (show ((k.toNat : Nat) : Int) < m by omega), List.foldl_cons, show ((k.toNat : Nat) : Int) = k by omega, ← e1, show k.toNat + 1 = (k + 1).toNat by omega] at h9
        exact ih (k + 1) b1 Z1 h1 (by omega) (by omega) (by omega) (KFE_CLS g.1 g.2.1 F1 ne hY) C1 (KFE_tr hF F1) h9
      · exact absurd (show 0 ≤ k ∧ k < m by omega) q
theorem kh_addFrom (z : Value) (d c : Nat) (p : Int) (hp : xx_H) (s : KS) (u : Int) (x : Nat) (b0 : Int) (Z0 : List (List Int)) (y : Nat) (m w b : Int) (O : Int → Option Nat) (nO : Int → Int) (fO : Int → Int → Int) (p0 : 0 ≤ p) (p1 : p ≤ 1) (ne : y ≠ x) (hY : CLS c hp s u y m w b O nO fO) (hC : CL c hp s u x b0 Z0) : xx_cl (xt_P z) (d + 4) 271 [.ref x, .ref y, .int (iI p)] hp (fun v h1 => v = none ∧ KFE x hp h1 ∧ ∃ (b1 : Int) (Z1 : List (List Int)), (b1, Z1) = ((ol m nO fO).drop p.toNat).foldl clA (b0, Z0) ∧ CL c h1 s u x b1 Z1) := by
  refine cl_go rfl ?_
  show xx_go (xt_P z) (d + 3) 271 0 [some (.ref x), some (.ref y), some (.int (iI p)), none] [] hp _
  refine go_a (pc' := 1) (ls' := [some (.ref x), some (.ref y), some (.int (iI p)), none]) (st' := [.int (iI p)]) rfl rfl ?_
  refine go_a (pc' := 2) (ls' := [some (.ref x), some (.ref y), some (.int (iI p)), some (.int (iI p))]) (st' := []) rfl rfl ?_
  exact kh_from_loop z d c p s u x y m w b O nO fO hp ne _ _ p b0 Z0 hp (Nat.le_refl _) p0 (by omega) hY hC KFE_rf rfl
theorem kh_but_loop (z : Value) (d c : Nat) (s : KS) (u : Int) (x : Nat) (y : Nat) (m w b : Int) (O : Int → Option Nat) (nO : Int → Int) (fO : Int → Int → Int) (t : Nat) (nt : Int) (ft : Int → Int) (hp0 : xx_H) (ne : y ≠ x) (E9 : Int × List (List Int)) : ∀ (j : Nat) (k b0 : Int) (Z0 : List (List Int)) (y4 : Option Value) (hp : xx_H), (m - k).toNat ≤ j → 0 ≤ k → k ≤ 100 → CLS c hp s u y m w b O nO fO → CL c hp s u x b0 Z0 → TM c hp s u t nt ft → KFE x hp0 hp → E9 = (((ol m nO fO).drop k.toNat).filter (fun r => decide (r ≠ rl nt ft))).foldl clA (b0, Z0) → xx_go (xt_P z) (d + 3) 278 2 [some (.ref x), some (.ref t), some (.ref y), some (.int (iI k)), y4] [] hp (fun v h1 => v = none ∧ KFE x hp0 h1 ∧ ∃ (b1 : Int) (Z1 : List (List Int)), (b1, Z1) = E9 ∧ CL c h1 s u x b1 Z1) := by
  intro j
  induction j with
  | zero =>
    intro k b0 Z0 y4 hp hj k0 k1 hY hC hT hF h9
    have mb := hY.2.2.2.1
    refine go_a (pc' := 3) (ls' := [some (.ref x), some (.ref t), some (.ref y), some (.int (iI k)), y4]) (st' := [.int (iI k)]) rfl rfl ?_
    refine go_a (pc' := 4) (ls' := [some (.ref x), some (.ref t), some (.ref y), some (.int (iI k)), y4]) (st' := [.ref y, .int (iI k)]) rfl rfl ?_
    refine go_get (v := .int (iI m)) rfl hY.1 rfl rfl ?_
    refine mi_ge (t := 43) rfl rfl (by omega) (by omega) (by omega) (by omega) (fun _ => ?_) (fun w => absurd (show k ≥ m by omega) w)
    exact go_r rfl rfl rfl rfl rfl rfl ⟨rfl, hF, b0, Z0, by rw [h9, List.drop_eq_nil_of_le (by rw [ol_len]; omega)]; rfl, hC⟩
  | succ j ih =>
    intro k b0 Z0 y4 hp hj k0 k1 hY hC hT hF h9
    have mb := hY.2.2.2.1
    refine go_a (pc' := 3) (ls' := [some (.ref x), some (.ref t), some (.ref y), some (.int (iI k)), y4]) (st' := [.int (iI k)]) rfl rfl ?_
    refine go_a (pc' := 4) (ls' := [some (.ref x), some (.ref t), some (.ref y), some (.int (iI k)), y4]) (st' := [.ref y, .int (iI k)]) rfl rfl ?_
    refine go_get (v := .int (iI m)) rfl hY.1 rfl rfl ?_
    refine mi_ge (t := 43) rfl rfl (by omega) (by omega) (by omega) (by omega) (fun w1 => ?_) (fun w1 => ?_)
    · exact go_r rfl rfl rfl rfl rfl rfl ⟨rfl, hF, b0, Z0, by rw [h9, List.drop_eq_nil_of_le (by rw [ol_len]; omega)]; rfl, hC⟩
    · refine go_a (pc' := 11) (ls' := [some (.ref x), some (.ref t), some (.ref y), some (.int (iI k)), y4]) (st' := [.ref y]) rfl rfl ?_
      refine go_a (pc' := 12) (ls' := [some (.ref x), some (.ref t), some (.ref y), some (.int (iI k)), y4]) (st' := [.int (iI k), .ref y]) rfl rfl ?_
      refine go_v (m := 263) (as := [.ref y, .int (iI k)]) (r := []) rfl rfl rfl hY.1 rfl rfl (kh_at z (d + 2) c k hp s u y m w b O nO fO hY (by omega) (by omega)) (fun v h1 hq => ?_)
      obtain ⟨hq, e⟩ := hq
      rw [e]
      clear e h1
      rcases hq with ⟨a, rfl, hk, ea, Ta⟩ | ⟨-, q⟩
      · show xx_go (xt_P z) (d + 3) 278 15 [some (.ref x), some (.ref t), some (.ref y), some (.int (iI k)), y4] [.ref a] hp _
        obtain ⟨qa, La, Laa, Laq⟩ := TMq Ta
        obtain ⟨qt, Lt, Lta, Ltq⟩ := TMq hT
        refine go_a (pc' := 17) (ls' := [some (.ref x), some (.ref t), some (.ref y), some (.int (iI k)), some (.ref a)]) (st' := []) rfl rfl ?_
        refine go_a (pc' := 19) (ls' := [some (.ref x), some (.ref t), some (.ref y), some (.int (iI k)), some (.ref a)]) (st' := [.ref a]) rfl rfl ?_
        refine go_a (pc' := 22) (ls' := [some (.ref x), some (.ref t), some (.ref y), some (.int (iI k)), some (.ref a)]) (st' := []) rfl rfl ?_
        refine go_a (pc' := 24) (ls' := [some (.ref x), some (.ref t), some (.ref y), some (.int (iI k)), some (.ref a)]) (st' := [.ref a]) rfl rfl ?_
        refine go_a (pc' := 25) (ls' := [some (.ref x), some (.ref t), some (.ref y), some (.int (iI k)), some (.ref a)]) (st' := [.ref t, .ref a]) rfl rfl ?_
        refine go_v (m := 264) (as := [.ref a, .ref t]) (r := []) rfl rfl rfl La.1 rfl rfl (kg_isSame z (d + 2) a qa (nO k) (fO k) hp La t qt nt ft Lt) (fun v h1 hq => ?_)
        obtain ⟨hq, e⟩ := hq
        rw [e]
        clear e h1
        rw [ol_drop (show ((k.toNat : Nat) : Int) < m by omega), show ((k.toNat : Nat) : Int) = k by omega, show k.toNat + 1 = (k + 1).toNat by omega] at h9
        rcases hq with ⟨rfl, hs⟩ | ⟨rfl, hs⟩
        · show xx_go (xt_P z) (d + 3) 278 28 [some (.ref x), some (.ref t), some (.ref y), some (.int (iI k)), some (.ref a)] [.int (iI 1)] hp _
          refine mi_ne0 (t := 37) rfl rfl (by omega) (by omega) (fun _ => ?_) (fun q => absurd (show (1 : Int) ≠ 0 by decide) q)
          refine go_a (pc' := 40) (ls' := [some (.ref x), some (.ref t), some (.ref y), some (.int (iI (k + 1))), some (.ref a)]) (st' := []) rfl (by rw [← iI_add k 1]; rfl) ?_
          refine go_a (pc' := 2) (ls' := [some (.ref x), some (.ref t), some (.ref y), some (.int (iI (k + 1))), some (.ref a)]) (st' := []) rfl rfl ?_
          rw [List.filter_cons_of_neg (by rw [hs]; simp)] at h9
          exact ih (k + 1) b0 Z0 _ hp (by omega) (by omega) (by omega) hY hC hT hF h9
        · show xx_go (xt_P z) (d + 3) 278 28 [some (.ref x), some (.ref t), some (.ref y), some (.int (iI k)), some (.ref a)] [.int (iI 0)] hp _
          refine mi_ne0 (t := 37) rfl rfl (by omega) (by omega) (fun q => absurd rfl q) (fun _ => ?_)
          obtain ⟨mx, wx, cx⟩ := CL_cell hC
          refine go_a (pc' := 32) (ls' := [some (.ref x), some (.ref t), some (.ref y), some (.int (iI k)), some (.ref a)]) (st' := [.ref x]) rfl rfl ?_
          refine go_a (pc' := 34) (ls' := [some (.ref x), some (.ref t), some (.ref y), some (.int (iI k)), some (.ref a)]) (st' := [.ref a, .ref x]) rfl rfl ?_
          refine go_v (m := 261) (as := [.ref x, .ref a]) (r := []) rfl rfl rfl cx rfl rfl (kh_addC z d c hp s u x b0 Z0 hC a (nO k) (fO k) Ta) (fun v h1 hq => ?_)
          obtain ⟨rfl, F1, b1, Z1, e1, C1⟩ := hq
          rw [List.filter_cons_of_pos (by simpa using hs), List.foldl_cons, ← e1] at h9
          show xx_go (xt_P z) (d + 3) 278 37 [some (.ref x), some (.ref t), some (.ref y), some (.int (iI k)), some (.ref a)] [] h1 _
          refine go_a (pc' := 40) (ls' := [some (.ref x), some (.ref t), some (.ref y), some (.int (iI (k + 1))), some (.ref a)]) (st' := []) rfl (by rw [← iI_add k 1]; rfl) ?_
          refine go_a (pc' := 2) (ls' := [some (.ref x), some (.ref t), some (.ref y), some (.int (iI (k + 1))), some (.ref a)]) (st' := []) rfl rfl ?_
          obtain ⟨_, _, _, _, _, g, -⟩ := id hC
          exact ih (k + 1) b1 Z1 _ h1 (by omega) (by omega) (by omega) (KFE_CLS g.1 g.2.1 F1 ne hY) C1 (KFE_TM g.1 g.2.1 F1 hT) (KFE_tr hF F1) h9
      · exact absurd (show 0 ≤ k ∧ k < m by omega) q
theorem kh_addAllBut (z : Value) (d c : Nat) (hp : xx_H) (s : KS) (u : Int) (x : Nat) (b0 : Int) (Z0 : List (List Int)) (y : Nat) (m w b : Int) (O : Int → Option Nat) (nO : Int → Int) (fO : Int → Int → Int) (t : Nat) (nt : Int) (ft : Int → Int) (ne : y ≠ x) (hY : CLS c hp s u y m w b O nO fO) (hC : CL c hp s u x b0 Z0) (hT : TM c hp s u t nt ft) : xx_cl (xt_P z) (d + 4) 278 [.ref x, .ref t, .ref y] hp (fun v h1 => v = none ∧ KFE x hp h1 ∧ ∃ (b1 : Int) (Z1 : List (List Int)), (b1, Z1) = ((ol m nO fO).filter (fun r => decide (r ≠ rl nt ft))).foldl clA (b0, Z0) ∧ CL c h1 s u x b1 Z1) := by
  refine cl_go rfl ?_
  show xx_go (xt_P z) (d + 3) 278 0 [some (.ref x), some (.ref t), some (.ref y), none, none] [] hp _
  refine go_a (pc' := 1) (ls' := [some (.ref x), some (.ref t), some (.ref y), none, none]) (st' := [.int (iI 0)]) rfl rfl ?_
  refine go_a (pc' := 2) (ls' := [some (.ref x), some (.ref t), some (.ref y), some (.int (iI 0)), none]) (st' := []) rfl rfl ?_
  exact kh_but_loop z d c s u x y m w b O nO fO t nt ft hp ne _ _ 0 b0 Z0 _ hp (Nat.le_refl _) (by decide) (by decide) hY hC hT KFE_rf rfl
theorem kh_in_loop (z : Value) (d c : Nat) (hp : xx_H) (s : KS) (u ux : Int) (y : Nat) (m w b : Int) (O : Int → Option Nat) (nO : Int → Int) (fO : Int → Int → Int) (x : Nat) (mx wx bx : Int) (Ox : Int → Option Nat) (nx : Int → Int) (fx : Int → Int → Int) (hY : CLS c hp s u y m w b O nO fO) (hX : CLS c hp s ux x mx wx bx Ox nx fx) : ∀ (j : Nat) (k : Int) (y3 : Option Value), (m - k).toNat ≤ j → 0 ≤ k → k ≤ 100 → (∀ i : Int, 0 ≤ i → i < k → rl (nO i) (fO i) ∈ ol mx nx fx) → xx_go (xt_P z) (d + 2) 292 2 [some (.ref y), some (.ref x), some (.int (iI k)), y3] [] hp (fun v h1 => ((v = some (.int (iI 1)) ∧ ∀ r ∈ ol m nO fO, r ∈ ol mx nx fx) ∨ (v = some (.int (iI 0)) ∧ ¬ ∀ r ∈ ol m nO fO, r ∈ ol mx nx fx)) ∧ h1 = hp) := by
  have mb := hY.2.2.2.1
  intro j
  induction j with
  | zero =>
    intro k y3 hj k0 k1 hk9
    refine go_a (pc' := 3) (ls' := [some (.ref y), some (.ref x), some (.int (iI k)), y3]) (st' := [.int (iI k)]) rfl rfl ?_
    refine go_a (pc' := 4) (ls' := [some (.ref y), some (.ref x), some (.int (iI k)), y3]) (st' := [.ref y, .int (iI k)]) rfl rfl ?_
    refine go_get (v := .int (iI m)) rfl hY.1 rfl rfl ?_
    refine mi_ge (t := 36) rfl rfl (by omega) (by omega) (by omega) (by omega) (fun _ => ?_) (fun w => absurd (show k ≥ m by omega) w)
    refine go_a (pc' := 37) (ls' := [some (.ref y), some (.ref x), some (.int (iI k)), y3]) (st' := [.int (iI 1)]) rfl rfl ?_
    exact go_r rfl rfl rfl rfl rfl rfl ⟨Or.inl ⟨rfl, fun r q => by obtain ⟨i, i0, i1, e⟩ := ol_mem.mp q; rw [← e]; exact hk9 i i0 (by omega)⟩, rfl⟩
  | succ j ih =>
    intro k y3 hj k0 k1 hk9
    refine go_a (pc' := 3) (ls' := [some (.ref y), some (.ref x), some (.int (iI k)), y3]) (st' := [.int (iI k)]) rfl rfl ?_
    refine go_a (pc' := 4) (ls' := [some (.ref y), some (.ref x), some (.int (iI k)), y3]) (st' := [.ref y, .int (iI k)]) rfl rfl ?_
    refine go_get (v := .int (iI m)) rfl hY.1 rfl rfl ?_
    refine mi_ge (t := 36) rfl rfl (by omega) (by omega) (by omega) (by omega) (fun w1 => ?_) (fun w1 => ?_)
    · refine go_a (pc' := 37) (ls' := [some (.ref y), some (.ref x), some (.int (iI k)), y3]) (st' := [.int (iI 1)]) rfl rfl ?_
      exact go_r rfl rfl rfl rfl rfl rfl ⟨Or.inl ⟨rfl, fun r q => by obtain ⟨i, i0, i1, e⟩ := ol_mem.mp q; rw [← e]; exact hk9 i i0 (by omega)⟩, rfl⟩
    · refine go_a (pc' := 11) (ls' := [some (.ref y), some (.ref x), some (.int (iI k)), y3]) (st' := [.ref y]) rfl rfl ?_
      refine go_a (pc' := 12) (ls' := [some (.ref y), some (.ref x), some (.int (iI k)), y3]) (st' := [.int (iI k), .ref y]) rfl rfl ?_
      refine go_v (m := 263) (as := [.ref y, .int (iI k)]) (r := []) rfl rfl rfl hY.1 rfl rfl (kh_at z (d + 1) c k hp s u y m w b O nO fO hY (by omega) (by omega)) (fun v h1 hq => ?_)
      obtain ⟨hq, e⟩ := hq
      rw [e]
      clear e h1
      rcases hq with ⟨a, rfl, hk, ea, Ta⟩ | ⟨-, q⟩
      · show xx_go (xt_P z) (d + 2) 292 15 [some (.ref y), some (.ref x), some (.int (iI k)), y3] [.ref a] hp _
        refine go_a (pc' := 16) (ls' := [some (.ref y), some (.ref x), some (.int (iI k)), some (.ref a)]) (st' := []) rfl rfl ?_
        refine go_a (pc' := 17) (ls' := [some (.ref y), some (.ref x), some (.int (iI k)), some (.ref a)]) (st' := [.ref a]) rfl rfl ?_
        refine go_a (pc' := 20) (ls' := [some (.ref y), some (.ref x), some (.int (iI k)), some (.ref a)]) (st' := []) rfl rfl ?_
        refine go_a (pc' := 21) (ls' := [some (.ref y), some (.ref x), some (.int (iI k)), some (.ref a)]) (st' := [.ref x]) rfl rfl ?_
        refine go_a (pc' := 22) (ls' := [some (.ref y), some (.ref x), some (.int (iI k)), some (.ref a)]) (st' := [.ref a, .ref x]) rfl rfl ?_
        refine go_v (m := 262) (as := [.ref x, .ref a]) (r := []) rfl rfl rfl hX.1 rfl rfl (kh_has z d c hp s ux x mx wx bx Ox nx fx hX u a (nO k) (fO k) Ta) (fun v h1 hq => ?_)
        obtain ⟨hq, e⟩ := hq
        rw [e]
        clear e h1
        rcases hq with ⟨rfl, hs⟩ | ⟨rfl, hs⟩
        · show xx_go (xt_P z) (d + 2) 292 25 [some (.ref y), some (.ref x), some (.int (iI k)), some (.ref a)] [.int (iI 1)] hp _
          refine mi_ne0 (t := 30) rfl rfl (by omega) (by omega) (fun _ => ?_) (fun q => absurd (show (1 : Int) ≠ 0 by decide) q)
          refine go_a (pc' := 33) (ls' := [some (.ref y), some (.ref x), some (.int (iI (k + 1))), some (.ref a)]) (st' := []) rfl (by rw [← iI_add k 1]; rfl) ?_
          refine go_a (pc' := 2) (ls' := [some (.ref y), some (.ref x), some (.int (iI (k + 1))), some (.ref a)]) (st' := []) rfl rfl ?_
          refine ih (k + 1) _ (by omega) (by omega) (by omega) (fun i i0 i1 => ?_)
          by_cases ci : i = k
          · rw [ci]
            exact hs
          · exact hk9 i i0 (by omega)
        · show xx_go (xt_P z) (d + 2) 292 25 [some (.ref y), some (.ref x), some (.int (iI k)), some (.ref a)] [.int (iI 0)] hp _
          refine mi_ne0 (t := 30) rfl rfl (by omega) (by omega) (fun q => absurd rfl q) (fun _ => ?_)
          refine go_a (pc' := 29) (ls' := [some (.ref y), some (.ref x), some (.int (iI k)), some (.ref a)]) (st' := [.int (iI 0)]) rfl rfl ?_
          exact go_r rfl rfl rfl rfl rfl rfl ⟨Or.inr ⟨rfl, fun q => hs (q _ (ol_mem.mpr ⟨k, k0, by omega, rfl⟩))⟩, rfl⟩
      · exact absurd (show 0 ≤ k ∧ k < m by omega) q
theorem kh_isWithin (z : Value) (d c : Nat) (hp : xx_H) (s : KS) (u ux : Int) (y : Nat) (m w b : Int) (O : Int → Option Nat) (nO : Int → Int) (fO : Int → Int → Int) (x : Nat) (mx wx bx : Int) (Ox : Int → Option Nat) (nx : Int → Int) (fx : Int → Int → Int) (hY : CLS c hp s u y m w b O nO fO) (hX : CLS c hp s ux x mx wx bx Ox nx fx) : xx_cl (xt_P z) (d + 3) 292 [.ref y, .ref x] hp (fun v h1 => ((v = some (.int (iI 1)) ∧ ∀ r ∈ ol m nO fO, r ∈ ol mx nx fx) ∨ (v = some (.int (iI 0)) ∧ ¬ ∀ r ∈ ol m nO fO, r ∈ ol mx nx fx)) ∧ h1 = hp) := by
  refine cl_go rfl ?_
  show xx_go (xt_P z) (d + 2) 292 0 [some (.ref y), some (.ref x), none, none] [] hp _
  refine go_a (pc' := 1) (ls' := [some (.ref y), some (.ref x), none, none]) (st' := [.int (iI 0)]) rfl rfl ?_
  refine go_a (pc' := 2) (ls' := [some (.ref y), some (.ref x), some (.int (iI 0)), none]) (st' := []) rfl rfl ?_
  exact kh_in_loop z d c hp s u ux y m w b O nO fO x mx wx bx Ox nx fx hY hX _ 0 _ (Nat.le_refl _) (by decide) (by decide) (fun i i0 i1 => absurd i1 (by omega))
