def tk (x : Int) : Int := x / 4 % 8
def sm (f : Int → Int) : Nat → Int
  | 0 => 0
  | k + 1 => sm f k + (tk (f (k : Int)) - 1)
theorem tk_R (x : Int) : 0 ≤ tk x ∧ tk x ≤ 7 := by
  unfold tk
  omega
theorem sm_ext {f g : Int → Int} : ∀ {n : Nat}, (∀ i : Int, 0 ≤ i → i < n → f i = g i) → sm f n = sm g n
  | 0, _ => rfl
  | n + 1, h => by
    show sm f n + (tk (f (n : Int)) - 1) = sm g n + (tk (g (n : Int)) - 1)
    rw [sm_ext (n := n) (fun i a b => h i a (by omega)), h (n : Int) (by omega) (by omega)]
theorem sm_cat {f g : Int → Int} {L : Nat} : ∀ {m : Nat}, (∀ i : Int, 0 ≤ i → i < m → g ((L : Int) + i) = f i) → sm g (L + m) = sm g L + sm f m
  | 0, _ => by
    show sm g L = sm g L + 0
    omega
  | m + 1, h => by
    show sm g (L + m) + (tk (g ((L + m : Nat) : Int)) - 1) = sm g L + (sm f m + (tk (f (m : Int)) - 1))
    rw [sm_cat (m := m) (fun i a b => h i a (by omega)), show ((L + m : Nat) : Int) = (L : Int) + (m : Int) by omega, h (m : Int) (by omega) (by omega)]
    omega
def WFT (n : Int) (f : Int → Int) : Prop := (∀ k : Nat, (k : Int) < n → 0 ≤ sm f k) ∧ sm f n.toNat = -1
theorem WFT_pos {n : Int} {f : Int → Int} (h : WFT n f) : 1 ≤ n := by
  by_cases c : 1 ≤ n
  · exact c
  · have := h.2
    rw [show n.toNat = 0 by omega] at this
    exact absurd this (show ¬ (0 : Int) = -1 by decide)
theorem WFT_lt {n : Int} {f : Int → Int} (h : WFT n f) {k : Nat} (hk : (k : Int) ≤ n) (h0 : 0 ≤ sm f k) : (k : Int) < n := by
  by_cases c : (k : Int) < n
  · exact c
  · have := h.2
    rw [show n.toNat = k by omega] at this
    omega
theorem bhf_W {n : Int} {f : Int → Int} (h : WFT n f) {p : Nat} (hp : (p : Int) < n) : ∀ (m : Nat) (o : Int) (k : Nat), n - k ≤ m → p ≤ k → (k : Int) ≤ n → o = sm f k - sm f p + 1 → 0 ≤ o → (∀ j : Nat, p ≤ j → j < k → sm f p ≤ sm f j) → ∃ e : Nat, bhf n f m o k = (e : Int) ∧ k ≤ e ∧ (e : Int) ≤ n ∧ sm f e = sm f p - 1 ∧ ∀ j : Nat, p ≤ j → j < e → sm f p ≤ sm f j
  | 0, o, k => by
    intro a b c e0 e1 e2
    have := h.2
    rw [show n.toNat = k by omega] at this
    have := h.1 p hp
    exact ⟨k, rfl, Nat.le_refl _, c, by omega, e2⟩
  | m + 1, o, k => by
    intro a b c e0 e1 e2
    have P := h.1 p hp
    show ∃ e : Nat, (if (k : Int) < n ∧ 0 < o then bhf n f m (o + (f k / 4 % 8 - 1)) (k + 1) else (k : Int)) = (e : Int) ∧ _
    by_cases w : (k : Int) < n ∧ 0 < o
    · rw [if_pos w]
      have E : sm f (k + 1) = sm f k + (tk (f (k : Int)) - 1) := rfl
      have T := tk_R (f (k : Int))
      obtain ⟨e, r1, r2, r3⟩ := bhf_W h hp m (o + (f k / 4 % 8 - 1)) (k + 1) (by omega) (by omega) (by omega) (by show o + (tk (f (k : Int)) - 1) = _; omega) (by show 0 ≤ o + (tk (f (k : Int)) - 1); omega) (fun j j0 j1 => by
        by_cases q : j < k
        · exact e2 j j0 q
        · rw [show j = k by omega]
          omega)
      exact ⟨e, r1, by omega, r3⟩
    · rw [if_neg w]
      refine ⟨k, rfl, Nat.le_refl _, c, ?_, e2⟩
      by_cases w2 : (k : Int) < n
      · omega
      · have := h.2
        rw [show n.toNat = k by omega] at this
        omega
theorem bh_W {n : Int} {f : Int → Int} (h : WFT n f) {p : Nat} (hp : (p : Int) < n) : ∃ e : Nat, bh n f (p : Int) = (e : Int) ∧ p < e ∧ (e : Int) ≤ n ∧ sm f e = sm f p - 1 ∧ ∀ j : Nat, p ≤ j → j < e → sm f p ≤ sm f j := by
  unfold bh
  rw [if_neg (by omega)]
  obtain ⟨e, r1, r2, r3, r4, r5⟩ := bhf_W h hp n.toNat 1 p (by omega) (Nat.le_refl _) (by omega) (by omega) (by decide) (fun j a b => absurd b (by omega))
  refine ⟨e, r1, ?_, r3, r4, r5⟩
  by_cases c : p = e
  · rw [← c] at r4
    omega
  · omega
theorem sm_sh (f : Int → Int) (p m : Nat) : sm (fun k => f (k + p)) m = sm f (p + m) - sm f p := by
  have := sm_cat (g := f) (f := fun k => f (k + p)) (L := p) (m := m) (fun i a b => by rw [Int.add_comm])
  omega
theorem part_W {n : Int} {f : Int → Int} (h : WFT n f) {p : Nat} (hp : (p : Int) < n) : WFT (bh n f p - p) (fun k => f (k + p)) := by
  obtain ⟨e, r1, r2, r3, r4, r5⟩ := bh_W h hp
  rw [r1]
  refine ⟨fun k hk => ?_, ?_⟩
  · rw [sm_sh]
    have := r5 (p + k) (by omega) (by omega)
    omega
  · rw [sm_sh, show p + ((e : Int) - p).toNat = e by omega]
    omega
def TVx (u x : Int) : Prop := 0 ≤ x ∧ x ≤ 2147483647 ∧ ((x % 4 = 2 ∧ (x / 32 = 3 → tk x = 3) ∧ (x / 32 = 5 → tk x = 2)) ∨ (x % 4 < 2 ∧ tk x = 0)) ∧ x / 32 < u
theorem TVx_u {u u1 x : Int} (h : TVx u x) (hu : u ≤ u1) : TVx u1 x := ⟨h.1, h.2.1, h.2.2.1, by have := h.2.2.2; omega⟩
def TM (c : Nat) (hp : xx_H) (s : KS) (u : Int) (a : Nat) (n : Int) (f : Int → Int) : Prop := (∃ q : Nat, KTL hp a q n f ∧ kn c s a ∧ kn c s q ∧ q = a + 1) ∧ WFT n f ∧ ∀ k : Int, 0 ≤ k → k < n → TVx u (f k)
theorem KTL_kx {c : Nat} {hp hp1 : xx_H} {s s1 : KS} {x y : Int} {a q : Nat} {n : Int} {f : Int → Int} (h : KTL hp a q n f) (k1 : kn c s a) (k2 : kn c s q) (X : kx c hp s hp1 s1 x y) : KTL hp1 a q n f ∧ kn c s1 a ∧ kn c s1 q := by
  have e1 := X.2.1 a (List.getElem?_eq_some_iff.mp h.1).1 k1
  have e2 := X.2.1 q (List.getElem?_eq_some_iff.mp h.2.1).1 k2
  exact ⟨⟨e1.2.trans h.1, e2.2.trans h.2.1, h.2.2⟩, e1.1, e2.1⟩
theorem TM_kx {c : Nat} {hp hp1 : xx_H} {s s1 : KS} {x y u : Int} {a : Nat} {n : Int} {f : Int → Int} (h : TM c hp s u a n f) (X : kx c hp s hp1 s1 x y) : TM c hp1 s1 u a n f := by
  obtain ⟨⟨q, h1, h2, h3, h5⟩, h4⟩ := h
  obtain ⟨g1, g2, g3⟩ := KTL_kx h1 h2 h3 X
  exact ⟨⟨q, g1, g2, g3, h5⟩, h4⟩
theorem TM_u {c : Nat} {hp : xx_H} {s : KS} {u u1 : Int} {a : Nat} {n : Int} {f : Int → Int} (h : TM c hp s u a n f) (hu : u ≤ u1) : TM c hp s u1 a n f := ⟨h.1, h.2.1, fun k a b => TVx_u (h.2.2 k a b) hu⟩
theorem TM_n {c : Nat} {hp : xx_H} {s : KS} {u : Int} {a : Nat} {n : Int} {f : Int → Int} (h : TM c hp s u a n f) : 1 ≤ n ∧ n ≤ 120 := by
  obtain ⟨⟨q, h1, -⟩, h4, -⟩ := h
  exact ⟨WFT_pos h4, h1.2.2.1.2⟩
def TF (s s1 : KS) : Prop := s1.N = s.N ∧ s1.T = s.T ∧ (∀ i : Nat, i ≠ 6 → i ≠ 7 → s1.A i = s.A i ∧ s1.C i = s.C i ∧ s1.P i = s.P i) ∧ ∀ j : Nat, j ≠ 6 → j ≠ 7 → s1.I j = s.I j
theorem TF_rf {s : KS} : TF s s := ⟨rfl, rfl, fun _ _ _ => ⟨rfl, rfl, rfl⟩, fun _ _ _ => rfl⟩
theorem TF_tr {s s1 s2 : KS} (a : TF s s1) (b : TF s1 s2) : TF s s2 := ⟨b.1.trans a.1, b.2.1.trans a.2.1, fun i p q => ⟨(b.2.2.1 i p q).1.trans (a.2.2.1 i p q).1, (b.2.2.1 i p q).2.1.trans (a.2.2.1 i p q).2.1, (b.2.2.1 i p q).2.2.trans (a.2.2.1 i p q).2.2⟩, fun j p q => (b.2.2.2 j p q).trans (a.2.2.2 j p q)⟩
theorem TF_wI {s : KS} {j : Nat} {x : Int} (hj : j = 6 ∨ j = 7) : TF s (s.wI j x) := ⟨rfl, rfl, fun _ _ _ => ⟨rfl, rfl, rfl⟩, fun i p q => su_ne (by omega)⟩
theorem TF_row {s s1 : KS} {j : Nat} {x : Int} (h : KRW j s s1) (hj : j = 6 ∨ j = 7) (e : s1.I = su s.I j x) : TF s s1 := ⟨h.1, h.2.1, fun i p q => h.2.2.1 i (by omega), fun i p q => by rw [e]; exact su_ne (by omega)⟩
theorem TF_SA {s s1 : KS} (h : TF s s1) : KSA s s1 := ⟨h.1, (h.2.2.1 9 (by decide) (by decide)).1, h.2.2.2 8 (by decide) (by decide)⟩
theorem TF_CI {s s1 : KS} (h : TF s s1) (hC : CI s) : CI s1 := KSA_CI (TF_SA h) hC
def RW6 (u : Int) (s : KS) (w : Int) (L : List Int) : Prop := (∀ k : Nat, (k : Int) < s.I 6 → 0 ≤ sm (s.A 6) k) ∧ sm (s.A 6) (s.I 6).toNat = w ∧ (∀ k : Int, 0 ≤ k → k < s.I 6 → TVx u (s.A 6 k)) ∧ rl (s.I 6) (s.A 6) = L
theorem RW6_0 {u : Int} {s : KS} (h : s.I 6 = 0) : RW6 u s 0 [] := ⟨fun k q => absurd q (by omega), by rw [h]; rfl, fun k p q => absurd q (by omega), rl_0 (by omega)⟩
theorem RW6_add {u x w : Int} {s s1 : KS} {L : List Int} (h : RW6 u s w L) (i0 : 0 ≤ s.I 6) (w0 : 0 ≤ w) (hx : TVx u x) (e1 : s1.I 6 = s.I 6 + 1) (e2 : s1.A 6 (s.I 6) = x) (e3 : ∀ e : Int, e < s.I 6 → s1.A 6 e = s.A 6 e) : RW6 u s1 (w + tk x - 1) (L ++ [x]) := by
  obtain ⟨h1, h2, h3, h4⟩ := h
  refine ⟨fun k q => ?_, ?_, fun k p q => ?_, by rw [e1, rl_s i0, e2, ← h4, rl_ext (g := s.A 6) (fun i a b => e3 i b)]⟩
  · rw [sm_ext (g := s.A 6) (fun i a b => e3 i (by omega))]
    by_cases c : (k : Int) < s.I 6
    · exact h1 k c
    · rw [show k = (s.I 6).toNat by omega, h2]
      exact w0
  · rw [e1, show (s.I 6 + 1).toNat = (s.I 6).toNat + 1 by omega]
    show sm (s1.A 6) (s.I 6).toNat + (tk (s1.A 6 ((s.I 6).toNat : Int)) - 1) = _
    rw [sm_ext (g := s.A 6) (fun i a b => e3 i (by omega)), h2, show (((s.I 6).toNat : Nat) : Int) = s.I 6 by omega, e2]
    omega
  · by_cases c : k < s.I 6
    · rw [e3 k c]
      exact h3 k p c
    · rw [show k = s.I 6 by omega, e2]
      exact hx
theorem RW6_all {u w n : Int} {f : Int → Int} {s s1 : KS} {L : List Int} (h : RW6 u s w L) (i0 : 0 ≤ s.I 6) (w0 : 0 ≤ w) (n0 : 0 ≤ n) (hW : WFT n f) (hV : ∀ k : Int, 0 ≤ k → k < n → TVx u (f k)) (e1 : s1.I 6 = s.I 6 + n) (e2 : ∀ e : Int, 0 ≤ e → e < n → s1.A 6 (s.I 6 + e) = f e) (e3 : ∀ e : Int, e < s.I 6 → s1.A 6 e = s.A 6 e) : RW6 u s1 (w - 1) (L ++ rl n f) := by
  obtain ⟨h1, h2, h3, h4⟩ := h
  have E : ∀ m : Nat, (m : Int) ≤ n → sm (s1.A 6) ((s.I 6).toNat + m) = w + sm f m := by
    intro m hm
    rw [sm_cat (f := f) (fun i a b => by rw [show (((s.I 6).toNat : Nat) : Int) + i = s.I 6 + i by omega]; exact e2 i a (by omega)), sm_ext (g := s.A 6) (fun i a b => e3 i (by omega)), h2]
  refine ⟨fun k q => ?_, ?_, fun k p q => ?_, by rw [e1, rl_app (g := f) i0 n0 e2, ← h4, rl_ext (g := s.A 6) (fun i a b => e3 i b)]⟩
  · by_cases c : (k : Int) < s.I 6
    · rw [sm_ext (g := s.A 6) (fun i a b => e3 i (by omega))]
      exact h1 k c
    · have := E (k - (s.I 6).toNat) (by omega)
      rw [show (s.I 6).toNat + (k - (s.I 6).toNat) = k by omega] at this
      have := hW.1 (k - (s.I 6).toNat) (by omega)
      omega
  · have := E n.toNat (by omega)
    rw [e1, show (s.I 6 + n).toNat = (s.I 6).toNat + n.toNat by omega, this, hW.2]
    omega
  · by_cases c : k < s.I 6
    · rw [e3 k c]
      exact h3 k p c
    · have := e2 (k - s.I 6) (by omega) (by omega)
      rw [show s.I 6 + (k - s.I 6) = k by omega] at this
      rw [this]
      exact hV _ (by omega) (by omega)
section RWC
variable (z : Value) (d c : Nat) (u : Int) (hp : xx_H) (s : KS)
theorem kb_cut (hK : KI c hp s) (hB : KB s) : xx_cl (xt_P z) (d + 1) 39 [.ref (c + 26), .int (iI 0)] hp (fun v h1 => v = none ∧ ∃ s1 : KS, KI c h1 s1 ∧ KB s1 ∧ kx c hp s h1 s1 0 0 ∧ TF s s1 ∧ s1.I 6 = 0 ∧ RW6 u s1 0 []) := by
  refine cl_w ?_ (kr_cut0_6 z d c hp s hK hB)
  intro v h1 q
  exact ⟨q.1, _, q.2.1, q.2.2.1, q.2.2.2, TF_wI (Or.inl rfl), rfl, RW6_0 rfl⟩
theorem kb_add {L : List Int} (x w : Int) (hK : KI c hp s) (hB : KB s) (hR : RW6 u s w L) (w0 : 0 ≤ w) (hx : TVx u x) (l : s.I 6 ≤ 240) : xx_cl (xt_P z) (d + 2) 35 [.ref (c + 26), .int (iI x)] hp (fun v h1 => v = none ∧ ∃ s1 : KS, KI c h1 s1 ∧ KB s1 ∧ kx c hp s h1 s1 0 0 ∧ TF s s1 ∧ s1.I 6 = s.I 6 + 1 ∧ RW6 u s1 (w + tk x - 1) (L ++ [x]) ∧ (∀ e : Int, e < s.I 6 → s1.A 6 e = s.A 6 e) ∧ s1.A 6 (s.I 6) = x ∧ s1.A 7 = s.A 7 ∧ s1.I 7 = s.I 7) := by
  have b4 := hB.2.2.2.1 6 (by decide)
  refine cl_w ?_ (kr_add_6 z d c x hp s hK hB (by omega) (by have := hx.1; omega) hx.2.1)
  rintro v h1 ⟨q1, s1, q2, q3, q4, q5, q6, q7, q8, q9⟩
  have e1 : s1.I 6 = s.I 6 + 1 := by rw [q6]; rfl
  exact ⟨q1, s1, q2, q3, q4, TF_row q5 (Or.inl rfl) q6, e1, RW6_add hR b4.2.2.1 w0 hx e1 q8 q9, q9, q8, (q5.2.2.1 7 (by decide)).1, by rw [q6]; exact su_ne (by decide)⟩
theorem kb_all {L : List Int} (q : Nat) (n w : Int) (f : Int → Int) (hK : KI c hp s) (hB : KB s) (hR : RW6 u s w L) (w0 : 0 ≤ w) (hA : KAL hp q n f) (hk : kn c s q) (n1 : n ≤ 120) (hW : WFT n f) (hV : ∀ k : Int, 0 ≤ k → k < n → TVx u (f k)) (l : s.I 6 ≤ 241) : xx_cl (xt_P z) (d + 2) 260 [.ref (c + 26), .ref q] hp (fun v h1 => v = none ∧ ∃ s1 : KS, KI c h1 s1 ∧ KB s1 ∧ kx c hp s h1 s1 0 0 ∧ TF s s1 ∧ s1.I 6 = s.I 6 + n ∧ RW6 u s1 (w - 1) (L ++ rl n f) ∧ (∀ e : Int, e < s.I 6 → s1.A 6 e = s.A 6 e) ∧ ∀ e : Int, 0 ≤ e → e < n → s1.A 6 (s.I 6 + e) = f e) := by
  have b4 := hB.2.2.2.1 6 (by decide)
  refine cl_w ?_ (kr_addAll_6 z d c q n f hp s hK hB hA hk n1 l)
  rintro v h1 ⟨q1, s1, q2, q3, q4, q5, q6, q7, q8⟩
  have e1 : s1.I 6 = s.I 6 + n := by rw [q6]; rfl
  exact ⟨q1, s1, q2, q3, q4, TF_row q5 (Or.inl rfl) q6, e1, RW6_all hR b4.2.2.1 w0 hA.2.1.1 hW hV e1 q8 q7, q7, q8⟩
theorem kb_made {L : List Int} (hK : KI c hp s) (hB : KB s) (hR : RW6 u s (-1) L) : xx_cl (xt_P z) (d + 3) 223 [.ref (c + 25)] hp (fun v h1 => (120 < s.I 6 ∧ v = some .null ∧ h1 = hp) ∨ (s.I 6 ≤ 120 ∧ v = some (.ref hp.length) ∧ KI c h1 s ∧ kx c hp s h1 s 2 (s.I 6 + 1) ∧ TM c h1 s u hp.length (s.I 6) (s.A 6))) := by
  have b4 := hB.2.2.2.1 6 (by decide)
  refine cl_w ?_ (kg_made z d c hp s hK hB)
  rintro v h1 (q | ⟨q1, q2, rfl⟩)
  · exact Or.inl q
  · obtain ⟨m1, m2, m3, m4⟩ := mkT_KI (n := s.I 6) (f := s.A 6) b4.2.2.1 hK
    exact Or.inr ⟨q1, q2, m1, m2, ⟨_, mkT_KTL b4.2.2.1 q1 (hB.1 6), m3, m4, rfl⟩, ⟨hR.1, hR.2.1⟩, hR.2.2.1⟩
end RWC
def MKT (c : Nat) (hp : xx_H) (s : KS) (u N : Int) (L : List Int) (v : Option Value) (h1 : xx_H) : Prop := ∃ s1 : KS, KI c h1 s1 ∧ KB s1 ∧ TF s s1 ∧ ((v = some .null ∧ 120 < N ∧ kx c hp s h1 s1 0 0 ∧ 120 < L.length) ∨ ∃ (a : Nat) (f : Int → Int), v = some (.ref a) ∧ N ≤ 120 ∧ hp.length ≤ a ∧ kx c hp s h1 s1 2 (N + 1) ∧ TM c h1 s1 u a N f ∧ rl N f = L)
theorem kb_part (z : Value) (d c a : Nat) (n u : Int) (p : Nat) (f : Int → Int) (hp : xx_H) (s : KS) (hK : KI c hp s) (hB : KB s) (hT : TM c hp s u a n f) (p0 : 1 ≤ p) (p1 : (p : Int) < n) : xx_cl (xt_P z) (d + 4) 274 [.ref a, .int (iI p)] hp (fun v h1 => v = some (.ref hp.length) ∧ KI c h1 s ∧ kx c hp s h1 s 2 (bh n f p - p + 1) ∧ TM c h1 s u hp.length (bh n f p - p) (fun k => f (k + p))) := by
  obtain ⟨⟨q, h1, h2, h3, -⟩, h4, h5⟩ := hT
  obtain ⟨e, r1, r2, r3, r4, r5⟩ := bh_W h4 p1
  have b := h1.2.2.1
  refine cl_w ?_ (kg_part z d a q n p f hp h1 (ki_12 hK).2 (by omega) (by omega))
  rintro v h1' ⟨q1, rfl⟩
  obtain ⟨m1, m2, m3, m4⟩ := mkT_KI (n := bh n f p - p) (f := fun k => f (k + p)) (by omega) hK
  exact ⟨q1, m1, m2, ⟨_, mkT_KTL (by omega) (by omega) (fun k => h1.2.2.2 _), m3, m4, rfl⟩, part_W h4 p1, fun k k0 k1 => h5 _ (by omega) (by omega)⟩
