def mkd (A : Nat → Int → Int) (k : Int) : Int := if A 1 k = -1 then 0 else if A 1 k = -2 then 1 else 2
def mka (A : Nat → Int → Int) (N : Int → Int) (k : Int) : Int := if A 1 k = -1 then N k else if A 1 k = -2 then wcf (A 8) (A 9 (A 2 k)).toNat (12 * A 2 k) 0 else A 1 k
def mkb (A : Nat → Int → Int) (k : Int) : Int := if A 1 k < 0 then 0 else A 2 k
def DM (A : Nat → Int → Int) (N : Int → Int) (k : Int) : ob_T := ob_D (mkd A) (mka A N) (mkb A) k
section MKS
variable {A : Nat → Int → Int} {N : Int → Int} {k : Int}
theorem mk_n (e : A 1 k = -1) : mkd A k = 0 ∧ mka A N k = N k ∧ mkb A k = 0 := by
  unfold mkd mka mkb
  rw [if_pos e, if_pos e, if_pos (by omega)]
  exact ⟨rfl, rfl, rfl⟩
theorem mk_s (e : A 1 k = -2) : mkd A k = 1 ∧ mka A N k = wcf (A 8) (A 9 (A 2 k)).toNat (12 * A 2 k) 0 ∧ mkb A k = 0 := by
  unfold mkd mka mkb
  rw [if_neg (by omega), if_pos e, if_neg (by omega), if_pos e, if_pos (by omega)]
  exact ⟨rfl, rfl, rfl⟩
theorem mk_p (e : 0 ≤ A 1 k) : mkd A k = 2 ∧ mka A N k = A 1 k ∧ mkb A k = A 2 k := by
  unfold mkd mka mkb
  rw [if_neg (by omega), if_neg (by omega), if_neg (by omega), if_neg (by omega), if_neg (by omega)]
  exact ⟨rfl, rfl, rfl⟩
end MKS
def ob_h : ob_T → Int
  | .add a b => 1 + (if ob_h b < ob_h a then ob_h a else ob_h b)
  | _ => 0
def MU (I : Nat → Int) (A : Nat → Int → Int) (N : Int → Int) : Prop := (∀ j k : Int, 0 ≤ j → j < k → k < I 7 → ¬ (A 1 j = -1 ∧ A 1 k = -1 ∧ N j = N k)) ∧ (∀ j k : Int, 0 ≤ j → j < k → k < I 7 → ¬ (A 1 j = -2 ∧ A 1 k = -2 ∧ mka A N j = mka A N k)) ∧ ∀ k : Int, 0 ≤ k → k < I 7 → A 1 k = -2 → ∀ q : Nat, (q : Int) < A 9 (A 2 k) → atc (A 8 (12 * A 2 k + q))
def MX (I : Nat → Int) (A : Nat → Int → Int) (N : Int → Int) : Prop := MST I A N ∧ MU I A N
section MXS
variable {I I1 I2 : Nat → Int} {A A1 A2 : Nat → Int → Int} {N N1 N2 : Int → Int} {k : Int}
theorem MX_W (h : MX I A N) : ob_W (mkd A) (mka A N) (mkb A) (I 7) := by
  obtain ⟨hS, u1, u2, u3⟩ := h
  have kinds : ∀ k : Int, 0 ≤ k → k < I 7 → A 1 k = -1 ∨ A 1 k = -2 ∨ 0 ≤ A 1 k := fun k k0 k1 => by
    have q := (hS.2.1 k k0 k1).1
    omega
  refine ⟨fun k k0 k1 => ?_, fun j k j0 jk k1 q => ?_⟩
  · have q := (hS.2.1 k k0 k1).1
    have n0 := hS.2.2.2.2.1.2.2 k
    unfold ob_V
    rcases kinds k k0 k1 with e | e | e
    · obtain ⟨e1, e2, e3⟩ := mk_n (N := N) e
      rw [e1, e2, e3]
      exact ⟨⟨by decide, by decide, n0.1⟩, fun x => absurd x (by decide), fun _ => rfl⟩
    · obtain ⟨e1, e2, e3⟩ := mk_s (N := N) e
      rw [e1, e2, e3]
      exact ⟨⟨by decide, by decide, wcf_nn _ _ _⟩, fun x => absurd x (by decide), fun _ => rfl⟩
    · obtain ⟨e1, e2, e3⟩ := mk_p (N := N) e
      rw [e1, e2, e3]
      exact ⟨⟨by decide, by decide, e⟩, fun _ => by omega, fun x => absurd rfl x⟩
  · obtain ⟨q1, q2, q3⟩ := q
    rcases kinds j j0 (by omega) with e | e | e
    · obtain ⟨e1, e2, e3⟩ := mk_n (N := N) e
      rcases kinds k (by omega) k1 with f | f | f
      · obtain ⟨f1, f2, f3⟩ := mk_n (N := N) f
        rw [e2, f2] at q2
        exact u1 j k j0 jk k1 ⟨e, f, q2⟩
      · rw [e1, (mk_s (N := N) f).1] at q1
        exact absurd q1 (by decide)
      · rw [e1, (mk_p (N := N) f).1] at q1
        exact absurd q1 (by decide)
    · obtain ⟨e1, e2, e3⟩ := mk_s (N := N) e
      rcases kinds k (by omega) k1 with f | f | f
      · rw [e1, (mk_n (N := N) f).1] at q1
        exact absurd q1 (by decide)
      · exact u2 j k j0 jk k1 ⟨e, f, q2⟩
      · rw [e1, (mk_p (N := N) f).1] at q1
        exact absurd q1 (by decide)
    · obtain ⟨e1, e2, e3⟩ := mk_p (N := N) e
      rcases kinds k (by omega) k1 with f | f | f
      · rw [e1, (mk_n (N := N) f).1] at q1
        exact absurd q1 (by decide)
      · rw [e1, (mk_s (N := N) f).1] at q1
        exact absurd q1 (by decide)
      · obtain ⟨f1, f2, f3⟩ := mk_p (N := N) f
        rw [e2, f2] at q2
        rw [e3, f3] at q3
        exact hS.2.2.2.2.2.2.1 j k j0 jk k1 f q2 q3
theorem DM_n (e : A 1 k = -1) : DM A N k = .num (N k) := by
  obtain ⟨e1, e2, e3⟩ := mk_n (N := N) e
  unfold DM
  rw [ob_D_n (by rw [e1]; decide) (by rw [e1]; decide), e2]
theorem DM_s (e : A 1 k = -2) : DM A N k = .var (wcf (A 8) (A 9 (A 2 k)).toNat (12 * A 2 k) 0).toNat := by
  obtain ⟨e1, e2, e3⟩ := mk_s (N := N) e
  unfold DM
  rw [ob_D_s e1, e2]
theorem DM_p (h : MX I A N) (k0 : 0 ≤ k) (k1 : k < I 7) (e : 0 ≤ A 1 k) : DM A N k = .add (DM A N (A 1 k)) (DM A N (A 2 k)) := by
  obtain ⟨e1, e2, e3⟩ := mk_p (N := N) e
  have w := ob_D_p (MX_W h) k0 k1 e1
  rw [e2, e3] at w
  exact w
theorem DM_inj (h : MX I A N) {j k : Int} (j0 : 0 ≤ j) (j1 : j < I 7) (k0 : 0 ≤ k) (k1 : k < I 7) (e : DM A N j = DM A N k) : j = k := ob_D_inj (MX_W h) j0 j1 k0 k1 e
def MKE (I : Nat → Int) (A : Nat → Int → Int) (N : Int → Int) (A1 : Nat → Int → Int) (N1 : Int → Int) : Prop := ∀ k : Int, 0 ≤ k → k < I 7 → mkd A1 k = mkd A k ∧ mka A1 N1 k = mka A N k ∧ mkb A1 k = mkb A k
def GX (I : Nat → Int) (A : Nat → Int → Int) (N : Int → Int) (I1 : Nat → Int) (A1 : Nat → Int → Int) (N1 : Int → Int) : Prop := MU I1 A1 N1 ∧ EX I A N I1 A1 N1 ∧ MKE I A N A1 N1
theorem GX_M (x : GX I A N I1 A1 N1) : MX I1 A1 N1 := ⟨x.2.1.1, x.1⟩
theorem GX_rf (h : MX I A N) : GX I A N I A N := ⟨h.2, EX_rf h.1, fun _ _ _ => ⟨rfl, rfl, rfl⟩⟩
theorem GX_tr (x : GX I A N I1 A1 N1) (y : GX I1 A1 N1 I2 A2 N2) : GX I A N I2 A2 N2 := by
  refine ⟨y.1, EX_tr x.2.1 y.2.1, fun k k0 k1 => ?_⟩
  have l := x.2.1.2.1
  obtain ⟨e1, e2, e3⟩ := x.2.2 k k0 k1
  obtain ⟨f1, f2, f3⟩ := y.2.2 k k0 (by omega)
  exact ⟨f1.trans e1, f2.trans e2, f3.trans e3⟩
theorem GX_D (h : MX I A N) (x : GX I A N I1 A1 N1) (k0 : 0 ≤ k) (k1 : k < I 7) : DM A1 N1 k = DM A N k := ob_D_ext (MX_W h) x.2.2 k0 k1
def MHT (I : Nat → Int) (A : Nat → Int → Int) (N : Int → Int) : Prop := ∀ k : Int, 0 ≤ k → k < I 7 → A 5 k = ob_h (DM A N k)
theorem MHT_g (hH : MHT I A N) (h : MX I A N) (x : GX I A N I1 A1 N1) (a5 : ∀ k : Int, 0 ≤ k → k < I 7 → A1 5 k = A 5 k) (e7 : I1 7 = I 7 + 1) (n5 : A1 5 (I 7) = ob_h (DM A1 N1 (I 7))) : MHT I1 A1 N1 := by
  intro k k0 k1
  by_cases e : k = I 7
  · rw [e]
    exact n5
  · rw [a5 k k0 (by omega), GX_D h x k0 (by omega)]
    exact hH k k0 (by omega)
theorem mk_addA {o l r q : Int} {v : Int} (hk : k ≠ o) : mkd (addA A o l r q) k = mkd A k ∧ mka (addA A o l r q) (sf N o v) k = mka A N k ∧ mkb (addA A o l r q) k = mkb A k := by
  unfold mkd mka mkb
  rw [addA_1, addA_2, addA_8, addA_9, sf_ne hk, sf_ne hk, sf_ne hk]
  exact ⟨rfl, rfl, rfl⟩
theorem mk_addA' {o l r q : Int} (hk : k ≠ o) : mkd (addA A o l r q) k = mkd A k ∧ mka (addA A o l r q) N k = mka A N k ∧ mkb (addA A o l r q) k = mkb A k := by
  unfold mkd mka mkb
  rw [addA_1, addA_2, addA_8, addA_9, sf_ne hk, sf_ne hk]
  exact ⟨rfl, rfl, rfl⟩
theorem MU_add {l r q : Int} (h : MX I A N) (l0 : 0 ≤ l) : MU (su I 7 (I 7 + 1)) (addA A (I 7) l r q) N := by
  obtain ⟨hS, u1, u2, u3⟩ := h
  have e7 : su I 7 (I 7 + 1) 7 = I 7 + 1 := rfl
  have n1 : addA A (I 7) l r q 1 (I 7) = l := by rw [addA_1, sf_self]
  refine ⟨fun j k j0 jk k1 e => ?_, fun j k j0 jk k1 e => ?_, fun k k0 k1 e p hp => ?_⟩
  · rw [e7] at k1
    by_cases ek : k = I 7
    · rw [ek, n1] at e
      omega
    · rw [addA_1, sf_ne (by omega), sf_ne ek] at e
      exact u1 j k j0 jk (by omega) e
  · rw [e7] at k1
    by_cases ek : k = I 7
    · rw [ek, n1] at e
      omega
    · rw [addA_1, sf_ne (by omega), sf_ne ek, (mk_addA' (N := N) (by omega : j ≠ I 7)).2.1, (mk_addA' (N := N) ek).2.1] at e
      exact u2 j k j0 jk (by omega) e
  · rw [e7] at k1
    by_cases ek : k = I 7
    · rw [ek, n1] at e
      omega
    · rw [addA_1, sf_ne ek] at e
      rw [addA_9, addA_2, sf_ne ek] at hp
      rw [addA_8, addA_2, sf_ne ek]
      exact u3 k k0 (by omega) e p hp
theorem MU_nat {q v : Int} (h : MX I A N) (hno : ∀ j : Int, 0 ≤ j → j < I 7 → ¬ (A 1 j = -1 ∧ N j = v)) : MU (su I 7 (I 7 + 1)) (addA A (I 7) (-1) 0 q) (sf N (I 7) v) := by
  obtain ⟨hS, u1, u2, u3⟩ := h
  have e7 : su I 7 (I 7 + 1) 7 = I 7 + 1 := rfl
  have n1 : addA A (I 7) (-1) 0 q 1 (I 7) = -1 := by rw [addA_1, sf_self]
  refine ⟨fun j k j0 jk k1 e => ?_, fun j k j0 jk k1 e => ?_, fun k k0 k1 e p hp => ?_⟩
  · rw [e7] at k1
    by_cases ek : k = I 7
    · rw [addA_1, sf_ne (by omega), sf_ne (by omega : j ≠ I 7), ek, sf_self, sf_self] at e
      exact hno j j0 (by omega) ⟨e.1, e.2.2⟩
    · rw [addA_1, sf_ne (by omega), sf_ne ek, sf_ne (by omega : j ≠ I 7), sf_ne ek] at e
      exact u1 j k j0 jk (by omega) e
  · rw [e7] at k1
    by_cases ek : k = I 7
    · rw [ek, n1] at e
      omega
    · rw [(mk_addA (N := N) (by omega : j ≠ I 7)).2.1, (mk_addA (N := N) ek).2.1, addA_1, sf_ne (by omega), sf_ne ek] at e
      exact u2 j k j0 jk (by omega) e
  · rw [e7] at k1
    by_cases ek : k = I 7
    · rw [ek, n1] at e
      omega
    · rw [addA_1, sf_ne ek] at e
      rw [addA_9, addA_2, sf_ne ek] at hp
      rw [addA_8, addA_2, sf_ne ek]
      exact u3 k k0 (by omega) e p hp
theorem mk_sym {w q : Int} {g : Int → Int} (hS : MST I A N) (hg : ∀ e : Int, e < 12 * I 10 → g e = A 8 e) (k0 : 0 ≤ k) (k1 : k < I 7) : mkd (addA (symA A (I 10) w g) (I 7) (-2) (I 10) q) k = mkd A k ∧ mka (addA (symA A (I 10) w g) (I 7) (-2) (I 10) q) N k = mka A N k ∧ mkb (addA (symA A (I 10) w g) (I 7) (-2) (I 10) q) k = mkb A k := by
  have m := (hS.2.1 k k0 k1).1
  unfold mkd mka mkb
  rw [addA_1, addA_2, addA_8, addA_9, symA_1, symA_2, symA_8, symA_9, sf_ne (by omega : k ≠ I 7), sf_ne (by omega : k ≠ I 7)]
  refine ⟨rfl, ?_, rfl⟩
  by_cases e1 : A 1 k = -1
  · rw [if_pos e1, if_pos e1]
  · rw [if_neg e1, if_neg e1]
    by_cases e2 : A 1 k = -2
    · rw [if_pos e2, if_pos e2]
      have q2 : 0 ≤ A 2 k ∧ A 2 k < I 10 := by omega
      rw [sf_ne (by omega)]
      have q3 := hS.2.2.2.2.1.1 (A 2 k) q2.1 q2.2
      exact wcf_congr _ _ _ _ (fun q hq => hg _ (by omega))
    · rw [if_neg e2, if_neg e2]
theorem MU_sym {q : Int} {g : Int → Int} (h : MX I A N) (w0 : 0 ≤ I 17) (hg : ∀ e : Int, e < 12 * I 10 → g e = A 8 e) (hw : ∀ q : Nat, (q : Int) < I 17 → g (12 * I 10 + q) = A 13 q) (aw : ∀ q : Nat, (q : Int) < I 17 → atc (A 13 q)) (hno : ∀ j : Int, 0 ≤ j → j < I 7 → A 1 j = -2 → ¬ (A 9 (A 2 j) = I 17 ∧ ∀ q : Nat, (q : Int) < I 17 → A 8 (12 * A 2 j + q) = A 13 q)) : MU (su (su I 10 (I 10 + 1)) 7 (I 7 + 1)) (addA (symA A (I 10) (I 17) g) (I 7) (-2) (I 10) q) N := by
  have MK : ∀ k : Int, 0 ≤ k → k < I 7 → _ := fun k k0 k1 => mk_sym (w := I 17) (q := q) h.1 hg k0 k1
  obtain ⟨hS, u1, u2, u3⟩ := h
  have e7 : su (su I 10 (I 10 + 1)) 7 (I 7 + 1) 7 = I 7 + 1 := rfl
  have n1 : addA (symA A (I 10) (I 17) g) (I 7) (-2) (I 10) q 1 (I 7) = -2 := by rw [addA_1, sf_self]
  have o1 : ∀ k : Int, k ≠ I 7 → addA (symA A (I 10) (I 17) g) (I 7) (-2) (I 10) q 1 k = A 1 k := fun k ek => by rw [addA_1, symA_1, sf_ne ek]
  have na : mka (addA (symA A (I 10) (I 17) g) (I 7) (-2) (I 10) q) N (I 7) = wcf (A 13) (I 17).toNat 0 0 := by
    rw [(mk_s (N := N) n1).2.1, addA_2, addA_8, addA_9, symA_8, symA_9, sf_self, sf_self]
    refine wcf_congr _ _ _ _ (fun q hq => ?_)
    rw [hw q (by omega), Int.zero_add]
  refine ⟨fun j k j0 jk k1 e => ?_, fun j k j0 jk k1 e => ?_, fun k k0 k1 e p hp => ?_⟩
  · rw [e7] at k1
    by_cases ek : k = I 7
    · rw [ek, n1] at e
      omega
    · rw [o1 j (by omega), o1 k ek] at e
      exact u1 j k j0 jk (by omega) e
  · rw [e7] at k1
    by_cases ek : k = I 7
    · rw [ek, na, (MK j j0 (by omega)).2.1, o1 j (by omega)] at e
      obtain ⟨e1, -, e3⟩ := e
      rw [(mk_s (N := N) e1).2.1] at e3
      have m := (hS.2.1 j j0 (by omega)).1
      have q2 : 0 ≤ A 2 j ∧ A 2 j < I 10 := by omega
      have q3 := hS.2.2.2.2.1.1 (A 2 j) q2.1 q2.2
      have w := wcf_inj (f := A 8) (g := A 13) (e := 12 * A 2 j) (e1 := 0) (A 9 (A 2 j)).toNat (I 17).toNat (fun p hp => u3 j j0 (by omega) e1 p (by omega)) (fun p hp => by rw [Int.zero_add]; exact aw p (by omega)) e3
      refine hno j j0 (by omega) e1 ⟨by omega, fun p hp => ?_⟩
      have w2 := w.2 p (by omega)
      rw [Int.zero_add] at w2
      exact w2
    · rw [o1 j (by omega), o1 k ek, (MK j j0 (by omega)).2.1, (MK k (by omega) (by omega)).2.1] at e
      exact u2 j k j0 jk (by omega) e
  · rw [e7] at k1
    by_cases ek : k = I 7
    · rw [ek, addA_9, addA_2, symA_9, sf_self, sf_self] at hp
      rw [ek, addA_8, addA_2, symA_8, sf_self, hw p hp]
      exact aw p hp
    · rw [o1 k ek] at e
      have m := (hS.2.1 k k0 (by omega)).1
      have q2 : 0 ≤ A 2 k ∧ A 2 k < I 10 := by omega
      have q3 := hS.2.2.2.2.1.1 (A 2 k) q2.1 q2.2
      rw [addA_9, addA_2, symA_9, symA_2, sf_ne ek, sf_ne (by omega)] at hp
      rw [addA_8, addA_2, symA_8, symA_2, sf_ne ek, hg _ (by omega)]
      exact u3 k k0 (by omega) e p hp
end MXS
theorem mt_pair (z : Value) (d : Nat) (l r : Int) (h R : xx_H) (I : Nat → Int) (A : Nat → Int → Int) (N : Int → Int) (hc : 12 ≤ h.length) (hS : MX I A N) (ho : I 7 < 140000) (l0 : 0 ≤ l) (l1 : l < I 7) (r0 : 0 ≤ r) (r1 : r < I 7) : xx_cl (xt_P z) (d + 2) 85 [.ref h.length, .int (iI l), .int (iI r)] (mh h R I A N) (fun v h1 => ∃ (k : Int) (I1 : Nat → Int) (A1 : Nat → Int → Int), v = some (.int (iI k)) ∧ h1 = mh h R I1 A1 N ∧ GX I A N I1 A1 N ∧ (0 ≤ k ∧ k < I1 7) ∧ A1 1 k = l ∧ A1 2 k = r ∧ DM A1 N k = .add (DM A N l) (DM A N r) ∧ I1 7 ≤ I 7 + 1 ∧ I1 10 = I 10 ∧ (MHT I A N → MHT I1 A1 N) ∧ ((∃ j : Int, 0 ≤ j ∧ j < I 7 ∧ A 1 j = l ∧ A 2 j = r) → I1 = I ∧ A1 = A)) := by
  refine cl_w (fun v h1 hq => ?_) (mm_pair z d l r h R I A N hc hS.1 ho l0 l1 r0 r1)
  obtain ⟨k, I1, A1, rfl, rfl, S1, k0, k1, e1, e2, e3⟩ := hq
  rcases e3 with ⟨rfl, rfl⟩ | ⟨rfl, rfl, rfl, e4⟩
  · refine ⟨k, _, _, rfl, rfl, GX_rf hS, ⟨k0, k1⟩, e1, e2, ?_, by omega, rfl, id, fun _ => ⟨rfl, rfl⟩⟩
    rw [DM_p hS k0 k1 (by omega), e1, e2]
  · have X : GX I A N (su I 7 (I 7 + 1)) (addA A (I 7) l r (msl l r)) N := ⟨MU_add hS l0, EX_add S1, fun k k0 k1 => mk_addA' (by omega)⟩
    refine ⟨_, _, _, rfl, rfl, X, ⟨k0, k1⟩, e1, e2, ?_, Int.le_refl _, rfl, fun hH => ?_, fun ⟨j, j0, j1, j2, j3⟩ => absurd ⟨j2, j3⟩ (e4 j j0 j1)⟩
    · rw [DM_p (GX_M X) k0 k1 (by omega), e1, e2, GX_D hS X l0 l1, GX_D hS X r0 r1]
    · refine MHT_g hH hS X (fun k _ k1 => by rw [addA_5, sf_ne (by omega)]) rfl ?_
      rw [DM_p (GX_M X) k0 k1 (by omega), e1, e2, GX_D hS X l0 l1, GX_D hS X r0 r1, addA_5, sf_self, if_neg (by omega), hH l l0 l1, hH r r0 r1]
      rfl
theorem mt_natural (z : Value) (d : Nat) (v : Int) (h R : xx_H) (I : Nat → Int) (A : Nat → Int → Int) (N : Int → Int) (hc : 12 ≤ h.length) (hS : MX I A N) (ho : I 7 < 140000) (v0 : 0 ≤ v) (v1 : v < 4611686018427387904) : xx_cl (xt_P z) (d + 2) 93 [.ref h.length, .long (Int64.ofInt v)] (mh h R I A N) (fun w h1 => ∃ (k : Int) (I1 : Nat → Int) (A1 : Nat → Int → Int) (N1 : Int → Int), w = some (.int (iI k)) ∧ h1 = mh h R I1 A1 N1 ∧ GX I A N I1 A1 N1 ∧ (0 ≤ k ∧ k < I1 7) ∧ A1 1 k = -1 ∧ DM A1 N1 k = .num v ∧ I1 7 ≤ I 7 + 1 ∧ I1 10 = I 10 ∧ (MHT I A N → MHT I1 A1 N1)) := by
  refine cl_w (fun w h1 hq => ?_) (mx_natural z d v h R I A N hc hS.1 ho v0 v1)
  obtain ⟨k, I1, A1, N1, rfl, rfl, S1, k0, k1, e1, e2, e3⟩ := hq
  rcases e3 with ⟨rfl, rfl, rfl⟩ | ⟨rfl, rfl, rfl, rfl, e4⟩
  · exact ⟨k, _, _, _, rfl, rfl, GX_rf hS, ⟨k0, k1⟩, e1, by rw [DM_n e1, e2], by omega, rfl, id⟩
  · have X : GX I A N (su I 7 (I 7 + 1)) (addA A (I 7) (-1) 0 (msl (nlo v) (nhi v))) (sf N (I 7) v) := by
      refine ⟨MU_nat hS e4, ⟨S1, (show I 7 ≤ I 7 + 1 by omega), fun k h0 h1 => ?_, fun j h7 _ => su_ne h7, fun a q1 q2 q3 q4 q5 q6 _ _ => addA_ne q1 q2 q3 q4 q5 q6, (show I 10 ≤ I 10 by omega), (show I 10 - I 10 ≤ I 7 + 1 - I 7 by omega), fun k _ p q => by have q : k < I 7 + 1 := q; rw [addA_4, show k = I 7 by omega]; exact sf_self⟩, fun k k0 k1 => mk_addA (by omega)⟩
      rw [addA_1, addA_2, addA_4, sf_ne (by omega), sf_ne (by omega), sf_ne (by omega), sf_ne (by omega)]
      exact ⟨rfl, rfl, rfl, rfl⟩
    refine ⟨_, _, _, _, rfl, rfl, X, ⟨k0, k1⟩, e1, by rw [DM_n e1, e2], Int.le_refl _, rfl, fun hH => ?_⟩
    refine MHT_g hH hS X (fun k _ k1 => by rw [addA_5, sf_ne (by omega)]) rfl ?_
    rw [DM_n e1, addA_5, sf_self]
    rfl
theorem mt_symbol (z : Value) (d : Nat) (h R : xx_H) (I : Nat → Int) (A : Nat → Int → Int) (N : Int → Int) (hc : 12 ≤ h.length) (hS : MX I A N) (ho : I 7 < 140000) (hs : I 10 < 4990) (w0 : 0 ≤ I 17) (w1 : I 17 ≤ 11) (r13 : ∀ e : Int, 0 ≤ A 13 e ∧ A 13 e ≤ 255) (aw : ∀ q : Nat, (q : Int) < I 17 → atc (A 13 q)) : xx_cl (xt_P z) (d + 2) 62 [.ref h.length] (mh h R I A N) (fun v h1 => ∃ (k : Int) (I1 : Nat → Int) (A1 : Nat → Int → Int), v = some (.int (iI k)) ∧ h1 = mh h R I1 A1 N ∧ GX I A N I1 A1 N ∧ (0 ≤ k ∧ k < I1 7) ∧ A1 1 k = -2 ∧ DM A1 N k = .var (wcf (A 13) (I 17).toNat 0 0).toNat ∧ I1 7 ≤ I 7 + 1 ∧ I1 10 ≤ I 10 + 1 ∧ (MHT I A N → MHT I1 A1 N)) := by
  refine cl_w (fun v h1 hq => ?_) (mx_symbol z d h R I A N hc hS.1 ho hs w0 w1 r13)
  obtain ⟨k, I1, A1, rfl, rfl, S1, k0, k1, e1, e3⟩ := hq
  rcases e3 with ⟨rfl, rfl, e4⟩ | ⟨rfl, rfl, g, rfl, g1, g2, e4⟩
  · refine ⟨k, _, _, rfl, rfl, GX_rf hS, ⟨k0, k1⟩, e1, ?_, by omega, by omega, id⟩
    rw [DM_s e1, e4.1, wcf_congr (f := A1 8) (g := A1 13) (I1 17).toNat (12 * A1 2 k) 0 0 (fun q hq => by rw [Int.zero_add]; exact e4.2 q (by omega))]
  · have X : GX I A N (su (su I 10 (I 10 + 1)) 7 (I 7 + 1)) (addA (symA A (I 10) (I 17) g) (I 7) (-2) (I 10) (mand (msp (A 13) (I 17).toNat 0 5))) N := by
      refine ⟨MU_sym hS w0 g1 g2 aw e4, ⟨S1, (show I 7 ≤ I 7 + 1 by omega), fun k h0 h1 => ?_, fun j h7 h10 => (su_ne h7).trans (su_ne h10), fun a q1 q2 q3 q4 q5 q6 q7 q8 => (addA_ne q1 q2 q3 q4 q5 q6).trans (symA_ne q7 q8), (show I 10 ≤ I 10 + 1 by omega), (show I 10 + 1 - I 10 ≤ I 7 + 1 - I 7 by omega), fun k _ p q => by have q : k < I 7 + 1 := q; rw [addA_4, show k = I 7 by omega]; exact sf_self⟩, fun k k0 k1 => mk_sym hS.1 g1 k0 k1⟩
      rw [addA_1, addA_2, addA_4, sf_ne (by omega), sf_ne (by omega), sf_ne (by omega)]
      exact ⟨rfl, rfl, rfl, rfl⟩
    refine ⟨_, _, _, rfl, rfl, X, ⟨k0, k1⟩, e1, ?_, Int.le_refl _, Int.le_refl _, fun hH => ?_⟩
    · rw [DM_s e1, addA_2, addA_8, addA_9, symA_8, symA_9, sf_self, sf_self, wcf_congr (f := g) (g := A 13) (I 17).toNat (12 * I 10) 0 0 (fun q hq => by rw [Int.zero_add]; exact g2 q (by omega))]
    · refine MHT_g hH hS X (fun k _ k1 => by rw [addA_5, symA_5, sf_ne (by omega)]) rfl ?_
      rw [DM_s e1, addA_5, sf_self]
      rfl
