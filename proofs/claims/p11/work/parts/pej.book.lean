def BTF (s : KS) (u : Int) (NM : BKM) (i m : Int) (g : Int → Int) (n : Int) (f : Int → Int) (th : sp_Th) (t : List sp_Th) : Prop := BFR NM i m g n f ∧ ∃ (v : Nat) (ps : List Nat) (B : ob_T), th = (v, some ps, B) ∧ DK s.N (NM.1 i).1 = .var v ∧ VRG s.N u (rl m g) ps ∧ TRT s.N u (sp_ft (sp_FB (th :: t))) (rl n f) B
def BTT (s : KS) (u : Int) (NM : BKM) (i n : Int) (f : Int → Int) (th : sp_Th) (t : List sp_Th) : Prop := rl n f = (NM.2.1 i).2.2 ∧ ∃ (v : Nat) (B : ob_T), th = (v, none, B) ∧ DK s.N (NM.2.1 i).1 = .var v ∧ TRT s.N u (sp_ft (sp_FB t)) (rl n f) B
def BKS (c : Nat) (hp : xx_H) (s : KS) (NM : BKM) : List sp_Th → Int → Int → Int → Prop
  | [], u, nf, nt => nf = 0 ∧ nt = 0 ∧ 38 ≤ u
  | th :: t, u, nf, nt => ∃ (a : Nat) (cb : Int), s.T 13 (t.length : Int) = some a ∧ (38 ≤ cb ∧ cb ≤ u) ∧ ((∃ (m : Int) (g : Int → Int) (n : Int) (f : Int → Int), FTH c hp s u a (nf - 1) (NM.1 (nf - 1)).1 m g n f cb ∧ s.T 14 (nf - 1) = some a ∧ 1 ≤ nf ∧ (∀ i : Int, 0 ≤ i → i < nf - 1 → (NM.1 i).1 ≠ (NM.1 (nf - 1)).1) ∧ BTF s u NM (nf - 1) m g n f th t ∧ BKS c hp s NM t cb (nf - 1) nt) ∨ (∃ (n : Int) (f : Int → Int), TTH c hp s u a (NM.2.1 (nt - 1)).1 n f cb ∧ s.T 15 (nt - 1) = some a ∧ 1 ≤ nt ∧ (∀ i : Int, 0 ≤ i → i < nt - 1 → (NM.2.1 i).1 ≠ (NM.2.1 (nt - 1)).1) ∧ BTT s u NM (nt - 1) n f th t ∧ BKS c hp s NM t cb nf (nt - 1)))
def LI (k : Int) (s : KS) : Prop := (s.C 13 = 0 → ¬ 12 ≤ s.P 13) ∧ (s.C 14 = 0 → ¬ 12 ≤ s.P 14) ∧ (s.C 15 = 0 → ¬ 12 ≤ s.P 15) ∧ (0 ≤ s.I 29 ∧ s.I 29 ≤ k) ∧ (0 ≤ s.I 30 ∧ s.I 30 ≤ k) ∧ (0 ≤ s.I 31 ∧ s.I 31 ≤ k)
def BKF (s s1 : KS) : Prop := s1.A = s.A ∧ s1.N = s.N ∧ (∀ j : Nat, j ≤ 12 → s1.C j = s.C j ∧ s1.P j = s.P j) ∧ ∀ i : Nat, i < 26 → s1.I i = s.I i
section BKL
variable {c : Nat} {hp h1 : xx_H} {s s1 : KS} {NM NM1 : BKM} {u u1 nf nt α β k : Int} {t : List sp_Th}
theorem BKF_rf : BKF s s := ⟨rfl, rfl, fun _ _ => ⟨rfl, rfl⟩, fun _ _ => rfl⟩
theorem BKF_tr {s2 : KS} (a : BKF s s1) (b : BKF s1 s2) : BKF s s2 := ⟨b.1.trans a.1, b.2.1.trans a.2.1, fun j h => ⟨(b.2.2.1 j h).1.trans (a.2.2.1 j h).1, (b.2.2.1 j h).2.trans (a.2.2.1 j h).2⟩, fun i h => (b.2.2.2 i h).trans (a.2.2.2 i h)⟩
theorem LFR_B {j a b : Nat} (h : LFR j a b s s1) (hj : 12 < j) (ha : 26 ≤ a) (hb : 26 ≤ b) : BKF s s1 := ⟨h.1, h.2.1, fun i q => (h.2.2.1 i (by omega)).2, fun i q => h.2.2.2 i (by omega) (by omega)⟩
theorem BKF_CI (h : BKF s s1) (hC : CI s) : CI s1 := KSA_CI ⟨h.2.1, by rw [h.1], h.2.2.2 8 (by decide)⟩ hC
theorem BKS_nn : ∀ {t : List sp_Th} {u nf nt : Int}, BKS c hp s NM t u nf nt → 0 ≤ nf ∧ 0 ≤ nt ∧ nf + nt = (t.length : Int) ∧ 38 ≤ u
  | [], _, _, _, h => by
    obtain ⟨h1, h2, h3⟩ := h
    rw [List.length_nil]
    exact ⟨by omega, by omega, by omega, h3⟩
  | th :: t, _, _, _, h => by
    obtain ⟨a, cb, -, hc, ⟨m, g, n, f, -, -, n1, -, -, B⟩ | ⟨n, f, -, -, n1, -, -, B⟩⟩ := h
    · have := BKS_nn B
      rw [List.length_cons]
      omega
    · have := BKS_nn B
      rw [List.length_cons]
      omega
theorem BKS_len : ∀ {t : List sp_Th} {u nf nt : Int}, BKS c hp s NM t u nf nt → ((sp_FB t).length : Int) = nf ∧ ((sp_TB t).length : Int) = nt
  | [], _, _, _, h => ⟨h.1.symm, h.2.1.symm⟩
  | th :: t, _, nf, nt, h => by
    obtain ⟨a, cb, -, hc, ⟨m, g, n, f, -, -, n1, -, ⟨-, v, ps, B, e, -⟩, q⟩ | ⟨n, f, -, -, n1, -, ⟨-, v, B, e, -⟩, q⟩⟩ := h
    · have := BKS_len q
      rw [e]
      show ((sp_FB t ++ [(v, ps, B)]).length : Int) = nf ∧ ((sp_TB t).length : Int) = nt
      rw [List.length_append, List.length_singleton]
      omega
    · have := BKS_len q
      rw [e]
      show ((sp_FB t).length : Int) = nf ∧ ((sp_TB t ++ [(v, B)]).length : Int) = nt
      rw [List.length_append, List.length_singleton]
      omega
theorem BTF_mo {i m n : Int} {g f : Int → Int} {th : sp_Th} {t : List sp_Th} (h : BTF s u NM i m g n f th t) (hu : u ≤ u1) (hD : ∀ k : Int, 0 ≤ k → k < u → DK s1.N k = DK s.N k) (en : NM1.1 i = NM.1 i) (n0 : 0 ≤ (NM.1 i).1) (n1 : (NM.1 i).1 < u) : BTF s1 u1 NM1 i m g n f th t := by
  obtain ⟨h1, v, ps, B, e, d, V, T⟩ := h
  unfold BFR at h1
  refine ⟨by unfold BFR; rw [en]; exact h1, v, ps, B, e, by rw [en, hD _ n0 n1]; exact d, VRG_mono hu hD _ _ V, (TRT_mono hu hD (fun _ _ => rfl) B).1 _ T⟩
theorem BTT_mo {i n : Int} {f : Int → Int} {th : sp_Th} {t : List sp_Th} (h : BTT s u NM i n f th t) (hu : u ≤ u1) (hD : ∀ k : Int, 0 ≤ k → k < u → DK s1.N k = DK s.N k) (en : NM1.2.1 i = NM.2.1 i) (n0 : 0 ≤ (NM.2.1 i).1) (n1 : (NM.2.1 i).1 < u) : BTT s1 u1 NM1 i n f th t := by
  obtain ⟨h1, v, B, e, d, T⟩ := h
  refine ⟨by rw [en]; exact h1, v, B, e, by rw [en, hD _ n0 n1]; exact d, (TRT_mono hu hD (fun _ _ => rfl) B).1 _ T⟩
theorem FTH_nm {a : Nat} {k nm m n cb : Int} {g f : Int → Int} (F : FTH c hp s u a k nm m g n f cb) : 17 ≤ nm ∧ nm < u := by
  obtain ⟨_, _, _, _, _, _, _, _, q, _⟩ := F
  exact q
theorem TTH_nm {a : Nat} {nm n cb : Int} {f : Int → Int} (F : TTH c hp s u a nm n f cb) : 17 ≤ nm ∧ nm < u := by
  obtain ⟨_, _, _, _, _, _, _, _, q, _⟩ := F
  exact q
theorem BKS_kx : ∀ {t : List sp_Th} {u u1 nf nt : Int}, BKS c hp s NM t u nf nt → kx c hp s h1 s1 α β → u ≤ u1 → (∀ e : Int, 0 ≤ e → e < (t.length : Int) → s1.T 13 e = s.T 13 e) → (∀ e : Int, 0 ≤ e → e < nf → s1.T 14 e = s.T 14 e) → (∀ e : Int, 0 ≤ e → e < nt → s1.T 15 e = s.T 15 e) → (∀ e : Int, 0 ≤ e → e < nf → NM1.1 e = NM.1 e) → (∀ e : Int, 0 ≤ e → e < nt → NM1.2.1 e = NM.2.1 e) → (∀ k : Int, 0 ≤ k → k < u → DK s1.N k = DK s.N k) → BKS c h1 s1 NM1 t u1 nf nt
  | [], _, _, _, _, h, _, hu, _, _, _, _, _, _ => ⟨h.1, h.2.1, by have := h.2.2; omega⟩
  | th :: t, u, u1, nf, nt, h, X, hu, e3, e4, e5, en, em, hD => by
    rw [List.length_cons] at e3
    obtain ⟨a, cb, T, hc, ⟨m, g, n, f, F, T4, n1, nn, tf, B⟩ | ⟨n, f, F, T5, n1, nn, tf, B⟩⟩ := h
    · have fn := FTH_nm F
      refine ⟨a, cb, (e3 (t.length : Int) (by omega) (by omega)).trans T, ⟨hc.1, by omega⟩, Or.inl ⟨m, g, n, f, ?_, (e4 _ (by omega) (by omega)).trans T4, n1, fun i i0 i1 => ?_, BTF_mo tf hu hD (en _ (by omega) (by omega)) (by omega) fn.2, BKS_kx B X (Int.le_refl _) (fun e e0 e1 => e3 e e0 (by omega)) (fun e e0 e1 => e4 e e0 (by omega)) e5 (fun e e0 e1 => en e e0 (by omega)) em (fun k k0 k1 => hD k k0 (by omega))⟩⟩
      · rw [en _ (by omega) (by omega)]
        exact FTH_kx F X hu
      · rw [en i i0 (by omega), en _ (by omega) (by omega)]
        exact nn i i0 i1
    · have fn := TTH_nm F
      refine ⟨a, cb, (e3 (t.length : Int) (by omega) (by omega)).trans T, ⟨hc.1, by omega⟩, Or.inr ⟨n, f, ?_, (e5 _ (by omega) (by omega)).trans T5, n1, fun i i0 i1 => ?_, BTT_mo tf hu hD (em _ (by omega) (by omega)) (by omega) fn.2, BKS_kx B X (Int.le_refl _) (fun e e0 e1 => e3 e e0 (by omega)) e4 (fun e e0 e1 => e5 e e0 (by omega)) en (fun e e0 e1 => em e e0 (by omega)) (fun k k0 k1 => hD k k0 (by omega))⟩⟩
      · rw [em _ (by omega) (by omega)]
        exact TTH_kx F X hu
      · rw [em i i0 (by omega), em _ (by omega) (by omega)]
        exact nn i i0 i1
theorem BKS_up (h : BKS c hp s NM t u nf nt) (hu : u ≤ u1) : BKS c hp s NM t u1 nf nt := BKS_kx h kx_rf hu (fun _ _ _ => rfl) (fun _ _ _ => rfl) (fun _ _ _ => rfl) (fun _ _ _ => rfl) (fun _ _ _ => rfl) (fun _ _ _ => rfl)
theorem BKS_F : ∀ {t : List sp_Th} {u nf nt : Int}, BKS c hp s NM t u nf nt → ∀ k : Int, 0 ≤ k → k < nf → ∃ (a : Nat) (m : Int) (g : Int → Int) (n : Int) (f : Int → Int) (cb : Int) (v : Nat) (ps : List Nat) (B : ob_T), s.T 14 k = some a ∧ FTH c hp s u a k (NM.1 k).1 m g n f cb ∧ BFR NM k m g n f ∧ (sp_FB t)[k.toNat]? = some (v, ps, B) ∧ DK s.N (NM.1 k).1 = .var v ∧ VRG s.N u (rl m g) ps ∧ TRT s.N u (sp_ft (sp_FB t)) (rl n f) B
  | [], _, _, _, h, k, k0, k1 => absurd k1 (by have := h.1; omega)
  | th :: t, u, nf, nt, h, k, k0, k1 => by
    obtain ⟨a, cb, T, hc, ⟨m, g, n, f, F, T4, n1, nn, ⟨bf, v, ps, B, e, dv, V, TB⟩, q⟩ | ⟨n, f, F, T5, n1, nn, ⟨bt, v, B, e, dv, TB⟩, q⟩⟩ := h
    · have ln := (BKS_len q).1
      by_cases ck : k = nf - 1
      · rw [ck]
        refine ⟨a, m, g, n, f, cb, v, ps, B, T4, F, bf, ?_, dv, V, TB⟩
        rw [e]
        show (sp_FB t ++ [(v, ps, B)])[(nf - 1).toNat]? = _
        rw [List.getElem?_append_right (by omega), show (nf - 1).toNat - (sp_FB t).length = 0 by omega]
        rfl
      · obtain ⟨a1, m1, g1, n2, f1, cb1, v1, ps1, B1, q1, q2, q3, q4, q5, q6, q7⟩ := BKS_F (BKS_up q hc.2) k k0 (by omega)
        refine ⟨a1, m1, g1, n2, f1, cb1, v1, ps1, B1, q1, q2, q3, ?_, q5, q6, ?_⟩
        · rw [e]
          show (sp_FB t ++ [(v, ps, B)])[k.toNat]? = _
          rw [List.getElem?_append_left (by omega)]
          exact q4
        · rw [e]
          exact (TRT_mono (Int.le_refl _) (fun _ _ _ => rfl) (fun w hw => sp_ft_up _ hw) B1).1 _ q7
    · obtain ⟨a1, m1, g1, n2, f1, cb1, v1, ps1, B1, q1, q2, q3, q4, q5, q6, q7⟩ := BKS_F (BKS_up q hc.2) k k0 k1
      rw [e]
      exact ⟨a1, m1, g1, n2, f1, cb1, v1, ps1, B1, q1, q2, q3, q4, q5, q6, q7⟩
theorem BKS_T : ∀ {t : List sp_Th} {u nf nt : Int}, BKS c hp s NM t u nf nt → ∀ k : Int, 0 ≤ k → k < nt → ∃ (a : Nat) (n : Int) (f : Int → Int) (cb : Int) (v : Nat) (B : ob_T), s.T 15 k = some a ∧ TTH c hp s u a (NM.2.1 k).1 n f cb ∧ rl n f = (NM.2.1 k).2.2 ∧ (sp_TB t)[k.toNat]? = some (v, B) ∧ DK s.N (NM.2.1 k).1 = .var v ∧ TRT s.N u (sp_ft (sp_FB t)) (rl n f) B
  | [], _, _, _, h, k, k0, k1 => absurd k1 (by have := h.2.1; omega)
  | th :: t, u, nf, nt, h, k, k0, k1 => by
    obtain ⟨a, cb, T, hc, ⟨m, g, n, f, F, T4, n1, nn, ⟨bf, v, ps, B, e, dv, V, TB⟩, q⟩ | ⟨n, f, F, T5, n1, nn, ⟨bt, v, B, e, dv, TB⟩, q⟩⟩ := h
    · obtain ⟨a1, n2, f1, cb1, v1, B1, q1, q2, q3, q4, q5, q7⟩ := BKS_T (BKS_up q hc.2) k k0 k1
      rw [e]
      exact ⟨a1, n2, f1, cb1, v1, B1, q1, q2, q3, q4, q5, (TRT_mono (Int.le_refl _) (fun _ _ _ => rfl) (fun w hw => sp_ft_up _ hw) B1).1 _ q7⟩
    · have ln := (BKS_len q).2
      rw [e]
      by_cases ck : k = nt - 1
      · rw [ck]
        refine ⟨a, n, f, cb, v, B, T5, F, bt, ?_, dv, TB⟩
        show (sp_TB t ++ [(v, B)])[(nt - 1).toNat]? = _
        rw [List.getElem?_append_right (by omega), show (nt - 1).toNat - (sp_TB t).length = 0 by omega]
        rfl
      · obtain ⟨a1, n2, f1, cb1, v1, B1, q1, q2, q3, q4, q5, q7⟩ := BKS_T (BKS_up q hc.2) k k0 (by omega)
        refine ⟨a1, n2, f1, cb1, v1, B1, q1, q2, q3, ?_, q5, q7⟩
        show (sp_TB t ++ [(v, B)])[k.toNat]? = _
        rw [List.getElem?_append_left (by omega)]
        exact q4
theorem BKS_th : ∀ {t : List sp_Th} {u nf nt : Int}, BKS c hp s NM t u nf nt → ∀ k : Int, 0 ≤ k → k < (t.length : Int) → ∃ (a : Nat), s.T 13 k = some a ∧ ((∃ (i m : Int) (g : Int → Int) (n : Int) (f : Int → Int) (cb : Int), FTH c hp s u a i (NM.1 i).1 m g n f cb) ∨ ∃ (nm n : Int) (f : Int → Int) (cb : Int), TTH c hp s u a nm n f cb)
  | [], _, _, _, h, k, k0, k1 => absurd k1 (by rw [List.length_nil]; omega)
  | th :: t, u, nf, nt, h, k, k0, k1 => by
    rw [List.length_cons] at k1
    obtain ⟨a, cb, T, hc, ⟨m, g, n, f, F, T4, n1, nn, tf, B⟩ | ⟨n, f, F, T5, n1, nn, tf, B⟩⟩ := h
    · by_cases ck : k = (t.length : Int)
      · rw [ck]
        exact ⟨a, T, Or.inl ⟨_, m, g, n, f, cb, F⟩⟩
      · exact BKS_th (BKS_up B hc.2) k k0 (by omega)
    · by_cases ck : k = (t.length : Int)
      · rw [ck]
        exact ⟨a, T, Or.inr ⟨_, n, f, cb, F⟩⟩
      · exact BKS_th (BKS_up B hc.2) k k0 (by omega)
theorem BKS_nm : ∀ {t : List sp_Th} {u nf nt : Int}, BKS c hp s NM t u nf nt → (∀ i : Int, 0 ≤ i → i < nf → 17 ≤ (NM.1 i).1 ∧ (NM.1 i).1 < u) ∧ ∀ i j : Int, 0 ≤ i → i < j → j < nf → (NM.1 i).1 ≠ (NM.1 j).1
  | [], _, _, _, h => ⟨fun i i0 i1 => absurd i1 (by have := h.1; omega), fun i j i0 i1 i2 => absurd i2 (by have := h.1; omega)⟩
  | th :: t, u, nf, nt, h => by
    obtain ⟨a, cb, T, hc, ⟨m, g, n, f, F, T4, n1, nn, tf, B⟩ | ⟨n, f, F, T5, n1, nn, tf, B⟩⟩ := h
    · obtain ⟨b1, b2⟩ := BKS_nm B
      have F7 := FTH_nm F
      refine ⟨fun i i0 i1 => ?_, fun i j i0 i1 i2 => ?_⟩
      · by_cases ci : i = nf - 1
        · rw [ci]
          exact F7
        · have := b1 i i0 (by omega)
          omega
      · by_cases cj : j = nf - 1
        · rw [cj]
          exact nn i i0 (by omega)
        · exact b2 i j i0 i1 (by omega)
    · obtain ⟨b1, b2⟩ := BKS_nm B
      exact ⟨fun i i0 i1 => by have := b1 i i0 i1; omega, b2⟩
theorem BKS_tn : ∀ {t : List sp_Th} {u nf nt : Int}, BKS c hp s NM t u nf nt → (∀ i : Int, 0 ≤ i → i < nt → 17 ≤ (NM.2.1 i).1 ∧ (NM.2.1 i).1 < u) ∧ ∀ i j : Int, 0 ≤ i → i < j → j < nt → (NM.2.1 i).1 ≠ (NM.2.1 j).1
  | [], _, _, _, h => ⟨fun i i0 i1 => absurd i1 (by have := h.2.1; omega), fun i j i0 i1 i2 => absurd i2 (by have := h.2.1; omega)⟩
  | th :: t, u, nf, nt, h => by
    obtain ⟨a, cb, T, hc, ⟨m, g, n, f, F, T4, n1, nn, tf, B⟩ | ⟨n, f, F, T5, n1, nn, tf, B⟩⟩ := h
    · obtain ⟨b1, b2⟩ := BKS_tn B
      exact ⟨fun i i0 i1 => by have := b1 i i0 i1; omega, b2⟩
    · obtain ⟨b1, b2⟩ := BKS_tn B
      have F7 := TTH_nm F
      refine ⟨fun i i0 i1 => ?_, fun i j i0 i1 i2 => ?_⟩
      · by_cases ci : i = nt - 1
        · rw [ci]
          exact F7
        · have := b1 i i0 (by omega)
          omega
      · by_cases cj : j = nt - 1
        · rw [cj]
          exact nn i i0 (by omega)
        · exact b2 i j i0 i1 (by omega)
theorem php : ∀ (w n : Nat) (f : Nat → Nat), (∀ i : Nat, i < n → f i < w) → (∀ i j : Nat, i < j → j < n → f i ≠ f j) → n ≤ w
  | 0, n, f, h, _ => by
    by_cases c : n = 0
    · omega
    · exact absurd (h 0 (by omega)) (by omega)
  | w + 1, n, f, h, hi => by
    by_cases ex : ∃ i : Nat, i < n ∧ f i = w
    · obtain ⟨i0, l0, e0⟩ := ex
      have := php w (n - 1) (fun i => if i < i0 then f i else f (i + 1)) (fun i li => by
        show (if i < i0 then f i else f (i + 1)) < w
        by_cases ci : i < i0
        · rw [if_pos ci]
          have := h i (by omega)
          have := hi i i0 ci l0
          omega
        · rw [if_neg ci]
          have := h (i + 1) (by omega)
          have := hi i0 (i + 1) (by omega) (by omega)
          omega) (fun i j lij lj => by
        show (if i < i0 then f i else f (i + 1)) ≠ (if j < i0 then f j else f (j + 1))
        by_cases ci : i < i0
        · rw [if_pos ci]
          by_cases cj : j < i0
          · rw [if_pos cj]
            exact hi i j lij (by omega)
          · rw [if_neg cj]
            exact hi i (j + 1) (by omega) (by omega)
        · rw [if_neg ci, if_neg (show ¬ j < i0 by omega)]
          exact hi (i + 1) (j + 1) (by omega) (by omega))
      omega
    · have := php w n f (fun i li => by
        have := h i li
        have : f i ≠ w := fun e => ex ⟨i, li, e⟩
        omega) hi
      omega
theorem BKS_17 (h : BKS c hp s NM t u nf nt) : 17 + nf ≤ u := by
  obtain ⟨b1, b2⟩ := BKS_nm h
  have n0 := BKS_nn h
  have := php (u - 17).toNat nf.toNat (fun i => ((NM.1 i).1 - 17).toNat) (fun i li => by
    have := b1 i (by omega) (by omega)
    show ((NM.1 i).1 - 17).toNat < _
    omega) (fun i j lij lj => by
    have p := b1 i (by omega) (by omega)
    have q := b1 j (by omega) (by omega)
    have r := b2 i j (by omega) (by omega) (by omega)
    show ((NM.1 i).1 - 17).toNat ≠ ((NM.1 j).1 - 17).toNat
    omega)
  omega
theorem BKS_18 {x : Int} (h : BKS c hp s NM t u nf nt) (hu : u ≤ u1) (x0 : 17 ≤ x) (x1 : x < u1) (hx : ∀ i : Int, 0 ≤ i → i < nf → (NM.1 i).1 ≠ x) : 17 + nf < u1 := by
  obtain ⟨b1, b2⟩ := BKS_nm h
  have n0 := BKS_nn h
  have := php (u1 - 17).toNat (nf.toNat + 1) (fun i => if i < nf.toNat then ((NM.1 i).1 - 17).toNat else (x - 17).toNat) (fun i li => by
    show (if i < nf.toNat then ((NM.1 i).1 - 17).toNat else (x - 17).toNat) < _
    by_cases ci : i < nf.toNat
    · rw [if_pos ci]
      have := b1 i (by omega) (by omega)
      omega
    · rw [if_neg ci]
      omega) (fun i j lij lj => by
    show (if i < nf.toNat then ((NM.1 i).1 - 17).toNat else (x - 17).toNat) ≠ (if j < nf.toNat then ((NM.1 j).1 - 17).toNat else (x - 17).toNat)
    rw [if_pos (show i < nf.toNat by omega)]
    have p := b1 i (by omega) (by omega)
    by_cases cj : j < nf.toNat
    · rw [if_pos cj]
      have q := b1 j (by omega) (by omega)
      have r := b2 i j (by omega) (by omega) (by omega)
      omega
    · rw [if_neg cj]
      have := hx i (by omega) (by omega)
      omega)
  omega
theorem BKS_BF (h : BKS c hp s NM t u nf nt) (hu : u ≤ u1) (e : s.I 27 = nf) : BF c hp s u1 NM := by
  intro k k0 k1
  obtain ⟨a, m, g, n, f, cb, v, ps, B, q1, q2, q3, -⟩ := BKS_F (BKS_up h hu) k k0 (by omega)
  exact ⟨a, m, g, n, f, cb, q1, q2, q3⟩
theorem FTH_a {a : Nat} {i m n cb : Int} {y : Int} {g f : Int → Int} (F : FTH c hp s u a i y m g n f cb) : ∃ fs : List Value, hp[a]? = some (.inr (11, fs)) ∧ kn c s a := by
  obtain ⟨_, _, q, q2, _⟩ := F
  exact ⟨_, q, q2⟩
theorem TTH_a {a : Nat} {n cb : Int} {y : Int} {f : Int → Int} (F : TTH c hp s u a y n f cb) : ∃ fs : List Value, hp[a]? = some (.inr (11, fs)) ∧ kn c s a := by
  obtain ⟨_, _, _, q, q2, _⟩ := F
  exact ⟨_, q, q2⟩
theorem BKS_T13 (h : BKS c hp s NM t u nf nt) {k : Int} (hk : k = (t.length : Int)) : TLS c hp s 13 k := by
  intro e e0 e1
  obtain ⟨a, T, ⟨_, _, _, _, _, _, F⟩ | ⟨_, _, _, _, F⟩⟩ := BKS_th h e e0 (by omega)
  · obtain ⟨fs, q1, q2⟩ := FTH_a F
    exact ⟨a, fs, T, q1, q2⟩
  · obtain ⟨fs, q1, q2⟩ := TTH_a F
    exact ⟨a, fs, T, q1, q2⟩
theorem BKS_T14 (h : BKS c hp s NM t u nf nt) : TLS c hp s 14 nf := by
  intro e e0 e1
  obtain ⟨a, _, _, _, _, _, _, _, _, T, F, -⟩ := BKS_F h e e0 e1
  obtain ⟨fs, q1, q2⟩ := FTH_a F
  exact ⟨a, fs, T, q1, q2⟩
theorem BKS_T15 (h : BKS c hp s NM t u nf nt) : TLS c hp s 15 nt := by
  intro e e0 e1
  obtain ⟨a, _, _, _, _, _, T, F, -⟩ := BKS_T h e e0 e1
  obtain ⟨fs, q1, q2⟩ := TTH_a F
  exact ⟨a, fs, T, q1, q2⟩
theorem BKS_BT (h : BKS c hp s NM t u nf nt) (hu : u ≤ u1) (e : s.I 28 = nt) : BT c hp s u1 NM := by
  intro k k0 k1
  obtain ⟨a, n, f, cb, v, B, q1, q2, q3, -⟩ := BKS_T (BKS_up h hu) k k0 (by omega)
  exact ⟨a, n, f, cb, q1, q2, q3⟩
theorem VRG_ne : ∀ {N : Int → Int} {U : Int} {G : List Int} {ps : List Nat}, VRG N U G ps → (G.length = ps.length) ∧ ∀ w ∈ ps, w ≠ 31361 ∧ w ≠ 20
  | _, _, [], [], _ => ⟨rfl, fun w h => absurd h List.not_mem_nil⟩
  | _, _, [], _ :: _, h => absurd h id
  | _, _, _ :: _, [], h => absurd h id
  | _, _, _ :: G, v :: ps, h => by
    obtain ⟨⟨k, -, -, -, h3⟩, h2⟩ := h
    have ih := VRG_ne h2
    refine ⟨by rw [List.length_cons, List.length_cons, ih.1], fun w hw => ?_⟩
    rcases List.mem_cons.mp hw with q | q
    · rw [q]
      exact h3
    · exact ih.2 w q
theorem DK_mn {k : Int} {v : Nat} (hN : KNN s) (hB : KB s) (hX : KX s) (ok : OB s k) (k17 : 17 ≤ k) (e : DK s.N k = .var v) : sp_mn v ∧ sp_bt v < 0 := by
  have u38 := KB_38 hB
  have m : sp_mn v := by
    intro x hx w
    have d := KNN_D hN (i := x) (by omega)
    rw [← w, ← e] at d
    have := DK_inj hB hX (by omega) (by omega) ok.1 ok.2 d
    omega
  refine ⟨m, ?_⟩
  rcases sp_bt_m v with q | q
  · omega
  · obtain ⟨x, x0, x1, ev⟩ := sp_bt_i q
    exact absurd ev (m x x1)
theorem BKS_KNT (h : BKS c hp s NM t u (s.I 27) (s.I 28)) (hu : u ≤ s.I 8) (hQ : KQ s) (hN : KNN s) (hC : CI s) (hB : KB s) (e1 : NM.2.2.1 = sp_ft (sp_FB t)) (e2 : NM.2.2.2.1 = sp_FB t) (e3 : NM.2.2.2.2 = sp_TB t) : KNT s NM := by
  have hX : KX s := ⟨hC, hQ.1⟩
  have u38 := KB_38 hB
  have len := BKS_len h
  obtain ⟨n1, n2⟩ := BKS_nm h
  obtain ⟨m1, m2⟩ := BKS_tn h
  have nn := BKS_nn h
  have hF := fun (i : Int) (i0 : 0 ≤ i) (i1 : i < s.I 27) => BKS_F (BKS_up h hu) i i0 i1
  have hT := fun (i : Int) (i0 : 0 ≤ i) (i1 : i < s.I 28) => BKS_T (BKS_up h hu) i i0 i1
  have h6 : ∀ p ∈ sp_FB t, p.2.1.length ≤ 6 := by
    intro p hp
    obtain ⟨j, hj⟩ := List.getElem?_of_mem hp
    have lj := (List.getElem?_eq_some_iff.mp hj).1
    obtain ⟨a, m, g, n, f, cb, v, ps, B, q1, ⟨_, _, _, _, _, _, _, q2, _⟩, q3, q4, q5, q6, q7⟩ := hF (j : Int) (by omega) (by omega)
    rw [show ((j : Int)).toNat = j by omega, hj] at q4
    injection q4 with q4
    have l := (VRG_ne q6).1
    rw [rl_len] at l
    rw [q4]
    show ps.length ≤ 6
    omega
  have at0 : ∀ (i : Int) (i0 : 0 ≤ i) (i1 : i < s.I 27), sp_fv (sp_ft (sp_FB t)) (DK s.N (NM.1 i).1) = fcl i ((NM.1 i).2.1.length : Int) := by
    intro i i0 i1
    obtain ⟨a, m, g, n, f, cb, v, ps, B, q1, q2, q3, q4, q5, q6, q7⟩ := hF i i0 i1
    have b := n1 i i0 i1
    have mn := DK_mn hN hB hX ⟨by omega, by omega⟩ b.1 q5
    rw [q5]
    show sp_ft (sp_FB t) v = _
    have l := (VRG_ne q6).1
    rw [q3.1] at l
    rw [sp_ft_at mn.2 q4 rfl ?_, show ((i.toNat : Nat) : Int) = i by omega, l]
    intro k q hk hq e
    have lk := (List.getElem?_eq_some_iff.mp hq).1
    obtain ⟨a', m', g', n', f', cb', v', ps', B', p1, p2, p3, p4, p5, -⟩ := hF (k : Int) (by omega) (by omega)
    rw [show ((k : Int)).toNat = k by omega, hq] at p4
    injection p4 with p4
    rw [p4] at e
    have e : v' = v := e
    rw [e, ← q5] at p5
    have bk := n1 (k : Int) (by omega) (by omega)
    have := DK_inj hB hX (show 0 ≤ (NM.1 (k : Int)).1 by omega) (by omega) (show 0 ≤ (NM.1 i).1 by omega) (by omega) p5
    exact n2 (k : Int) i (by omega) (by omega) i1 this
  refine ⟨hQ, hN, ⟨?_, ?_, ?_⟩, ⟨⟨by rw [e2]; exact len.1, by rw [e3]; exact len.2, ?_⟩, ?_, ?_⟩, by rw [e1]; exact sp_ft_HI h6⟩
  · intro x x0 x1
    have d := KNN_D hN (i := x.toNat) (by omega)
    rw [show ((x.toNat : Nat) : Int) = x by omega] at d
    rw [e1, d]
    show sp_ft (sp_FB t) (cNm.getD x.toNat 0) = _
    rw [sp_ft_b x.toNat (by omega) (by omega), show ((x.toNat : Nat) : Int) = x by omega]
  · intro i i0 i1
    have b := n1 i i0 i1
    rw [e1]
    exact ⟨⟨by omega, by omega⟩, at0 i i0 i1⟩
  · intro v
    rw [e1]
    rcases sp_ft_m (FB := sp_FB t) v with q | q
    · exact Or.inl q
    · refine Or.inr ⟨q, ?_⟩
      rcases sp_ft_e q with ⟨q1, -⟩ | ⟨j, p, q1, q2, -⟩
      · obtain ⟨x, x0, x1, ev⟩ := sp_bt_i q1
        exact Or.inl ⟨(x : Int), by omega, by omega, by rw [ev]; exact KNN_D hN (by omega)⟩
      · have lj := (List.getElem?_eq_some_iff.mp q1).1
        obtain ⟨a, m, g, n, f, cb, v', ps, B, p1, p2, p3, p4, p5, -⟩ := hF (j : Int) (by omega) (by omega)
        rw [show ((j : Int)).toNat = j by omega, q1] at p4
        injection p4 with p4
        refine Or.inr ⟨(j : Int), by omega, by omega, ?_⟩
        rw [p5, ← q2, p4]
  · intro i j i0 i1 j0 j1 e
    by_cases c1 : i < j
    · exact absurd e (m2 i j i0 c1 j1)
    · by_cases c2 : j < i
      · exact absurd e.symm (m2 j i j0 c2 i1)
      · omega
  · intro i i1
    obtain ⟨a, m, g, n, f, cb, v, ps, B, q1, q2, q3, q4, q5, q6, q7⟩ := hF (i : Int) (by omega) i1
    rw [q3.1] at q6
    rw [q3.2] at q7
    rw [show ((i : Int)).toNat = i by omega] at q4
    exact ⟨v, ps, B, by rw [e2]; exact q4, q5, q6, by rw [e1]; exact q7, (VRG_ne q6).2⟩
  · intro i i1
    obtain ⟨a, n, f, cb, v, B, q1, q2, q3, q4, q5, q7⟩ := hT (i : Int) (by omega) i1
    have b := m1 (i : Int) (by omega) i1
    rw [q3] at q7
    rw [show ((i : Int)).toNat = i by omega] at q4
    exact ⟨v, B, by rw [e3]; exact q4, ⟨by omega, by omega⟩, q5, by rw [e1]; exact q7⟩
end BKL
theorem kf_thing (z : Value) (d c : Nat) (x : Int) (hp : xx_H) (s : KS) (hK : KI c hp s) (hB : KB s) (u : Int) (NM : BKM) (t : List sp_Th) (nf nt : Int) (hS : BKS c hp s NM t u nf nt) (et : s.I 26 = (t.length : Int)) (x0 : -2147483648 ≤ x) (x1 : x ≤ 2147483647) : xx_cl (xt_P z) (d + 4) 58 [.ref (c + 21), .int (iI x)] hp (fun v h1 => (v = some .null ∨ ∃ a : Nat, v = some (.ref a) ∧ ((∃ (i m : Int) (g : Int → Int) (n : Int) (f : Int → Int) (cb : Int), FTH c hp s u a i (NM.1 i).1 m g n f cb) ∨ ∃ (nm n : Int) (f : Int → Int) (cb : Int), TTH c hp s u a nm n f cb)) ∧ h1 = hp) := by
  have b7 := hB.2.2.2.2.2.2.1
  refine cl_go rfl ?_
  show xx_go (xt_P z) (d + 3) 58 0 [some (.ref (c + 21)), some (.int (iI x))] [] hp _
  refine go_a (pc' := 1) (ls' := [some (.ref (c + 21)), some (.int (iI x))]) (st' := [.int (iI x)]) rfl rfl ?_
  have no : xx_go (xt_P z) (d + 3) 58 29 [some (.ref (c + 21)), some (.int (iI x))] [] hp (fun v h1 => (v = some .null ∨ ∃ a : Nat, v = some (.ref a) ∧ ((∃ (i m : Int) (g : Int → Int) (n : Int) (f : Int → Int) (cb : Int), FTH c hp s u a i (NM.1 i).1 m g n f cb) ∨ ∃ (nm n : Int) (f : Int → Int) (cb : Int), TTH c hp s u a nm n f cb)) ∧ h1 = hp) := by
    refine go_a (pc' := 30) (ls' := [some (.ref (c + 21)), some (.int (iI x))]) (st' := [.null]) rfl rfl ?_
    exact go_r rfl rfl rfl rfl rfl rfl ⟨Or.inl rfl, rfl⟩
  refine mi_lt0 (t := 29) rfl rfl (by omega) (by omega) (fun _ => no) (fun w1 => ?_)
  refine go_a (pc' := 5) (ls' := [some (.ref (c + 21)), some (.int (iI x))]) (st' := [.int (iI x)]) rfl rfl ?_
  refine go_a (pc' := 6) (ls' := [some (.ref (c + 21)), some (.int (iI x))]) (st' := [.ref (c + 21), .int (iI x)]) rfl rfl ?_
  refine go_get (v := .ref (c + 22)) rfl (hK.1 12 (by decide)) rfl rfl ?_
  refine go_v (m := 47) (as := [.ref (c + 22)]) (r := [.int (iI x)]) rfl rfl rfl (hK.1 13 (by decide)) rfl rfl (kl_size_13 z (d + 2) c hp s hK) (fun v h3 hq => ?_)
  obtain ⟨rfl, e9⟩ := hq
  rw [e9]
  clear e9 h3
  show xx_go (xt_P z) (d + 3) 58 12 [some (.ref (c + 21)), some (.int (iI x))] [.int (iI (s.I 26)), .int (iI x)] hp _
  refine mi_ge (t := 29) rfl rfl (by omega) (by omega) (by omega) (by omega) (fun _ => no) (fun w2 => ?_)
  obtain ⟨a, ea, TH⟩ := BKS_th hS x (by omega) (by omega)
  have ca : ∃ fs : List Value, hp[a]? = some (.inr (11, fs)) := by
    rcases TH with ⟨_, _, _, _, _, _, _, _, F, _⟩ | ⟨_, _, _, _, _, _, _, F, _⟩
    · exact ⟨_, F⟩
    · exact ⟨_, F⟩
  obtain ⟨fs, ca⟩ := ca
  refine go_a (pc' := 16) (ls' := [some (.ref (c + 21)), some (.int (iI x))]) (st' := [.ref (c + 21)]) rfl rfl ?_
  refine go_get (v := .ref (c + 22)) rfl (hK.1 12 (by decide)) rfl rfl ?_
  refine go_a (pc' := 20) (ls' := [some (.ref (c + 21)), some (.int (iI x))]) (st' := [.int (iI x), .ref (c + 22)]) rfl rfl ?_
  refine go_v (m := 217) (as := [.ref (c + 22), .int (iI x)]) (r := []) rfl rfl rfl (hK.1 13 (by decide)) rfl rfl (kl_get_13 z d c x hp s hK hB (by omega) (by omega) a ea) (fun v h3 hq => ?_)
  obtain ⟨rfl, e9⟩ := hq
  rw [e9]
  clear e9 h3
  show xx_go (xt_P z) (d + 3) 58 23 [some (.ref (c + 21)), some (.int (iI x))] [.ref a] hp _
  refine go_cast rfl ca rfl ?_
  refine go_a (pc' := 30) (ls' := [some (.ref (c + 21)), some (.int (iI x))]) (st' := [.ref a]) rfl rfl ?_
  exact go_r rfl rfl rfl rfl rfl rfl ⟨Or.inr ⟨a, rfl, TH⟩, rfl⟩
theorem kf_takeF (z : Value) (d c a : Nat) (y : Int) (w0 w2 w3 w4 : Value) (k : Int) (hp : xx_H) (s : KS) (hK : KI c hp s) (hB : KB s) (hO : OC hp) (hT3 : TLS c hp s 13 (s.I 26)) (hT4 : TLS c hp s 14 (s.I 27)) (hL : LI k s) (lk : k ≤ 1000000) (l1 : s.I 26 ≤ 200) (l2 : s.I 27 ≤ 200) (ha : hp[a]? = some (.inr (11, [w0, .int (iI y), w2, w3, w4]))) (ka : kn c s a) (y0 : -2147483648 ≤ y) (y1 : y ≤ 2147483647) (hy : y ≠ -1) : xx_cl (xt_P z) (d + 6) 235 [.ref (c + 21), .ref a] hp (fun v h1 => v = none ∧ ∃ s1 : KS, KI c h1 s1 ∧ KB s1 ∧ kx c hp s h1 s1 2 2 ∧ BKF s s1 ∧ LI (k + 1) s1 ∧ (s1.I 26 = s.I 26 + 1 ∧ s1.I 27 = s.I 27 + 1 ∧ s1.I 28 = s.I 28 ∧ s1.T 15 = s.T 15) ∧ (∀ e : Int, 0 ≤ e → e < s.I 26 → s1.T 13 e = s.T 13 e) ∧ s1.T 13 (s.I 26) = some a ∧ (∀ e : Int, 0 ≤ e → e < s.I 27 → s1.T 14 e = s.T 14 e) ∧ s1.T 14 (s.I 27) = some a) := by
  refine cl_go rfl ?_
  show xx_go (xt_P z) (d + 5) 235 0 [some (.ref (c + 21)), some (.ref a)] [] hp _
  refine go_a (pc' := 1) (ls' := [some (.ref (c + 21)), some (.ref a)]) (st' := [.ref (c + 21)]) rfl rfl ?_
  refine go_get (v := .ref (c + 22)) rfl (hK.1 12 (by decide)) rfl rfl ?_
  refine go_a (pc' := 5) (ls' := [some (.ref (c + 21)), some (.ref a)]) (st' := [.ref a, .ref (c + 22)]) rfl rfl ?_
  refine go_v (m := 236) (as := [.ref (c + 22), .ref a]) (r := []) rfl rfl rfl (hK.1 13 (by decide)) rfl rfl (kl_add_13 z d c a _ hp s hK hB hO hT3 hL.1 l1 (by have := hL.2.2.2.1; omega) ha ka) (fun v h1 hq => ?_)
  obtain ⟨rfl, s1, K1, B1, X1, F1, e1, e2, e3, e4, e5⟩ := hq
  obtain ⟨ka1, ca1⟩ := X1.2.1 a (List.getElem?_eq_some_iff.mp ha).1 ka
  have ha1 := ca1.trans ha
  have fo := fun i p => F1.2.2.1 i p
  have fi := fun i p q => F1.2.2.2 i p q
  show xx_go (xt_P z) (d + 5) 235 8 [some (.ref (c + 21)), some (.ref a)] [.int (iI 1)] h1 _
  refine go_a (pc' := 9) (ls' := [some (.ref (c + 21)), some (.ref a)]) (st' := []) rfl rfl ?_
  refine go_a (pc' := 10) (ls' := [some (.ref (c + 21)), some (.ref a)]) (st' := [.ref a]) rfl rfl ?_
  refine go_v (m := 241) (as := [.ref a]) (r := []) rfl rfl rfl ha1 rfl rfl (kf_isFunction z (d + 4) a y w0 w2 w3 w4 h1 ha1 y0 y1) (fun v h3 hq => ?_)
  obtain ⟨hq, e9⟩ := hq
  rw [e9]
  clear e9 h3
  obtain rfl : v = some (.int (iI 1)) := by
    rcases hq with ⟨w, r⟩ | ⟨w, r⟩
    · exact r
    · exact absurd w hy
  show xx_go (xt_P z) (d + 5) 235 13 [some (.ref (c + 21)), some (.ref a)] [.int (iI 1)] h1 _
  refine mi_eq0 (t := 28) rfl rfl (by omega) (by omega) (fun q => absurd q (by decide)) (fun _ => ?_)
  have i2 : s1.I 27 = s.I 27 := fi 27 (by decide) (by decide)
  have i3 : s1.I 30 = s.I 30 := fi 30 (by decide) (by decide)
  have cp := fo 14 (by decide)
  refine go_a (pc' := 17) (ls' := [some (.ref (c + 21)), some (.ref a)]) (st' := [.ref (c + 21)]) rfl rfl ?_
  refine go_get (v := .ref (c + 23)) rfl (K1.1 12 (by decide)) rfl rfl ?_
  refine go_a (pc' := 21) (ls' := [some (.ref (c + 21)), some (.ref a)]) (st' := [.ref a, .ref (c + 23)]) rfl rfl ?_
  refine go_v (m := 236) (as := [.ref (c + 23), .ref a]) (r := []) rfl rfl rfl (K1.1 14 (by decide)) rfl rfl (kl_add_14 z d c a _ h1 s1 K1 B1 (OC_kx hO X1) (by rw [i2]; exact TLS_kx hT4 X1 (fun _ _ _ => by rw [cp.1])) (by rw [cp.2.1, cp.2.2]; exact hL.2.1) (by omega) (by have := hL; unfold LI at this; omega) ha1 ka1) (fun v h2 hq => ?_)
  obtain ⟨rfl, s2, K2, B2, X2, F2, f1, f2, f3, f4, f5⟩ := hq
  show xx_go (xt_P z) (d + 5) 235 24 [some (.ref (c + 21)), some (.ref a)] [.int (iI 1)] h2 _
  refine go_a (pc' := 25) (ls' := [some (.ref (c + 21)), some (.ref a)]) (st' := []) rfl rfl ?_
  refine go_a (pc' := 37) (ls' := [some (.ref (c + 21)), some (.ref a)]) (st' := []) rfl rfl ?_
  have go := fun i p => F2.2.2.1 i p
  have gi := fun i p q => F2.2.2.2 i p q
  have BF2 := BKF_tr (LFR_B F1 (by decide) (by decide) (by decide)) (LFR_B F2 (by decide) (by decide) (by decide))
  have q26 : s2.I 26 = s1.I 26 := gi 26 (by decide) (by decide)
  have q29 : s2.I 29 = s1.I 29 := gi 29 (by decide) (by decide)
  have qo : s2.I 28 = s.I 28 := (gi 28 (by decide) (by decide)).trans (fi 28 (by decide) (by decide))
  have qm : s2.I 31 = s.I 31 := (gi 31 (by decide) (by decide)).trans (fi 31 (by decide) (by decide))
  have qT : s2.T 15 = s.T 15 := ((go 15 (by decide)).1).trans (fo 15 (by decide)).1
  have qC : s2.C 15 = s.C 15 ∧ s2.P 15 = s.P 15 := ⟨((go 15 (by decide)).2.1).trans (fo 15 (by decide)).2.1, ((go 15 (by decide)).2.2).trans (fo 15 (by decide)).2.2⟩
  have q13 := go 13 (by decide)
  have p15 := fo 14 (by decide)
  have L2 : LI (k + 1) s2 := by
    obtain ⟨m1, m2, m3, m4, m5, m6⟩ := hL
    refine ⟨fun w => absurd (show s1.C 13 = 0 by rw [← q13.2.1]; exact w) (by omega), fun w => absurd w (by omega), fun w => by rw [qC.2]; exact m3 (by rw [← qC.1]; exact w), by omega, by omega, by omega⟩
  have kx2 := kx_w (kx_tr X1 X2) (show (1 : Int) + 1 ≤ 2 by decide) (show (1 : Int) + 1 ≤ 2 by decide)
  exact go_r rfl rfl rfl rfl rfl rfl ⟨rfl, s2, K2, B2, kx2, BF2, L2, ⟨by omega, by omega, qo, qT⟩, fun e e0 e1 => by rw [q13.1]; exact e4 e e0 e1, by rw [q13.1]; exact e5, fun e e0 e1 => (f4 e e0 (by omega)).trans (by rw [p15.1]), by rw [← i2]; exact f5⟩
theorem kf_takeT (z : Value) (d c a : Nat) (y : Int) (w0 w2 w3 w4 : Value) (k : Int) (hp : xx_H) (s : KS) (hK : KI c hp s) (hB : KB s) (hO : OC hp) (hT3 : TLS c hp s 13 (s.I 26)) (hT4 : TLS c hp s 15 (s.I 28)) (hL : LI k s) (lk : k ≤ 1000000) (l1 : s.I 26 ≤ 200) (l2 : s.I 28 ≤ 200) (ha : hp[a]? = some (.inr (11, [w0, .int (iI y), w2, w3, w4]))) (ka : kn c s a) (y0 : -2147483648 ≤ y) (y1 : y ≤ 2147483647) (hy : y = -1) : xx_cl (xt_P z) (d + 6) 235 [.ref (c + 21), .ref a] hp (fun v h1 => v = none ∧ ∃ s1 : KS, KI c h1 s1 ∧ KB s1 ∧ kx c hp s h1 s1 2 2 ∧ BKF s s1 ∧ LI (k + 1) s1 ∧ (s1.I 26 = s.I 26 + 1 ∧ s1.I 28 = s.I 28 + 1 ∧ s1.I 27 = s.I 27 ∧ s1.T 14 = s.T 14) ∧ (∀ e : Int, 0 ≤ e → e < s.I 26 → s1.T 13 e = s.T 13 e) ∧ s1.T 13 (s.I 26) = some a ∧ (∀ e : Int, 0 ≤ e → e < s.I 28 → s1.T 15 e = s.T 15 e) ∧ s1.T 15 (s.I 28) = some a) := by
  refine cl_go rfl ?_
  show xx_go (xt_P z) (d + 5) 235 0 [some (.ref (c + 21)), some (.ref a)] [] hp _
  refine go_a (pc' := 1) (ls' := [some (.ref (c + 21)), some (.ref a)]) (st' := [.ref (c + 21)]) rfl rfl ?_
  refine go_get (v := .ref (c + 22)) rfl (hK.1 12 (by decide)) rfl rfl ?_
  refine go_a (pc' := 5) (ls' := [some (.ref (c + 21)), some (.ref a)]) (st' := [.ref a, .ref (c + 22)]) rfl rfl ?_
  refine go_v (m := 236) (as := [.ref (c + 22), .ref a]) (r := []) rfl rfl rfl (hK.1 13 (by decide)) rfl rfl (kl_add_13 z d c a _ hp s hK hB hO hT3 hL.1 l1 (by have := hL.2.2.2.1; omega) ha ka) (fun v h1 hq => ?_)
  obtain ⟨rfl, s1, K1, B1, X1, F1, e1, e2, e3, e4, e5⟩ := hq
  obtain ⟨ka1, ca1⟩ := X1.2.1 a (List.getElem?_eq_some_iff.mp ha).1 ka
  have ha1 := ca1.trans ha
  have fo := fun i p => F1.2.2.1 i p
  have fi := fun i p q => F1.2.2.2 i p q
  show xx_go (xt_P z) (d + 5) 235 8 [some (.ref (c + 21)), some (.ref a)] [.int (iI 1)] h1 _
  refine go_a (pc' := 9) (ls' := [some (.ref (c + 21)), some (.ref a)]) (st' := []) rfl rfl ?_
  refine go_a (pc' := 10) (ls' := [some (.ref (c + 21)), some (.ref a)]) (st' := [.ref a]) rfl rfl ?_
  refine go_v (m := 241) (as := [.ref a]) (r := []) rfl rfl rfl ha1 rfl rfl (kf_isFunction z (d + 4) a y w0 w2 w3 w4 h1 ha1 y0 y1) (fun v h3 hq => ?_)
  obtain ⟨hq, e9⟩ := hq
  rw [e9]
  clear e9 h3
  obtain rfl : v = some (.int (iI 0)) := by
    rcases hq with ⟨w, r⟩ | ⟨w, r⟩
    · exact absurd hy w
    · exact r
  show xx_go (xt_P z) (d + 5) 235 13 [some (.ref (c + 21)), some (.ref a)] [.int (iI 0)] h1 _
  refine mi_eq0 (t := 28) rfl rfl (by omega) (by omega) (fun _ => ?_) (fun q => absurd rfl q)
  have i2 : s1.I 28 = s.I 28 := fi 28 (by decide) (by decide)
  have i3 : s1.I 31 = s.I 31 := fi 31 (by decide) (by decide)
  have cp := fo 15 (by decide)
  refine go_a (pc' := 29) (ls' := [some (.ref (c + 21)), some (.ref a)]) (st' := [.ref (c + 21)]) rfl rfl ?_
  refine go_get (v := .ref (c + 24)) rfl (K1.1 12 (by decide)) rfl rfl ?_
  refine go_a (pc' := 33) (ls' := [some (.ref (c + 21)), some (.ref a)]) (st' := [.ref a, .ref (c + 24)]) rfl rfl ?_
  refine go_v (m := 236) (as := [.ref (c + 24), .ref a]) (r := []) rfl rfl rfl (K1.1 15 (by decide)) rfl rfl (kl_add_15 z d c a _ h1 s1 K1 B1 (OC_kx hO X1) (by rw [i2]; exact TLS_kx hT4 X1 (fun _ _ _ => by rw [cp.1])) (by rw [cp.2.1, cp.2.2]; exact hL.2.2.1) (by omega) (by have := hL; unfold LI at this; omega) ha1 ka1) (fun v h2 hq => ?_)
  obtain ⟨rfl, s2, K2, B2, X2, F2, f1, f2, f3, f4, f5⟩ := hq
  show xx_go (xt_P z) (d + 5) 235 36 [some (.ref (c + 21)), some (.ref a)] [.int (iI 1)] h2 _
  refine go_a (pc' := 37) (ls' := [some (.ref (c + 21)), some (.ref a)]) (st' := []) rfl rfl ?_
  have go := fun i p => F2.2.2.1 i p
  have gi := fun i p q => F2.2.2.2 i p q
  have BF2 := BKF_tr (LFR_B F1 (by decide) (by decide) (by decide)) (LFR_B F2 (by decide) (by decide) (by decide))
  have q26 : s2.I 26 = s1.I 26 := gi 26 (by decide) (by decide)
  have q29 : s2.I 29 = s1.I 29 := gi 29 (by decide) (by decide)
  have qo : s2.I 27 = s.I 27 := (gi 27 (by decide) (by decide)).trans (fi 27 (by decide) (by decide))
  have qm : s2.I 30 = s.I 30 := (gi 30 (by decide) (by decide)).trans (fi 30 (by decide) (by decide))
  have qT : s2.T 14 = s.T 14 := ((go 14 (by decide)).1).trans (fo 14 (by decide)).1
  have qC : s2.C 14 = s.C 14 ∧ s2.P 14 = s.P 14 := ⟨((go 14 (by decide)).2.1).trans (fo 14 (by decide)).2.1, ((go 14 (by decide)).2.2).trans (fo 14 (by decide)).2.2⟩
  have q13 := go 13 (by decide)
  have p15 := fo 15 (by decide)
  have L2 : LI (k + 1) s2 := by
    obtain ⟨m1, m2, m3, m4, m5, m6⟩ := hL
    refine ⟨fun w => absurd (show s1.C 13 = 0 by rw [← q13.2.1]; exact w) (by omega), fun w => by rw [qC.2]; exact m2 (by rw [← qC.1]; exact w), fun w => absurd w (by omega), by omega, by omega, by omega⟩
  have kx2 := kx_w (kx_tr X1 X2) (show (1 : Int) + 1 ≤ 2 by decide) (show (1 : Int) + 1 ≤ 2 by decide)
  exact go_r rfl rfl rfl rfl rfl rfl ⟨rfl, s2, K2, B2, kx2, BF2, L2, ⟨by omega, by omega, qo, qT⟩, fun e e0 e1 => by rw [q13.1]; exact e4 e e0 e1, by rw [q13.1]; exact e5, fun e e0 e1 => (f4 e e0 (by omega)).trans (by rw [p15.1]), by rw [← i2]; exact f5⟩
