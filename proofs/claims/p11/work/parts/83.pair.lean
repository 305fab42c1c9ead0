def mand (x : Int) : Int := (iI x &&& iI 8191).toInt
def msp (f : Int → Int) : Nat → Int → Int → Int
  | 0, _, acc => acc
  | n + 1, e, acc => msp f n (e + 1) (131 * acc + f e)
def nlo (v : Int) : Int := (Int64.ofInt v).toInt32.toInt
def nhi (v : Int) : Int := (Int64.ofInt v >>> ((iI 32).toInt64 &&& 63)).toInt32.toInt
def hsh (A : Nat → Int → Int) (N : Int → Int) (k : Int) : Int := if A 1 k = -1 then msl (nlo (N k)) (nhi (N k)) else if A 1 k = -2 then mand (msp (A 8) (A 9 (A 2 k)).toNat (12 * A 2 k) 5) else msl (A 1 k) (A 2 k)
theorem hsh_rng (A : Nat → Int → Int) (N : Int → Int) (k : Int) : 0 ≤ hsh A N k ∧ hsh A N k < 8192 := by
  unfold hsh
  split
  · exact msl_rng _ _
  · split
    · exact and_rng _
    · exact msl_rng _ _
def MOB (I : Nat → Int) (A : Nat → Int → Int) (N : Int → Int) (k : Int) : Prop := ((A 1 k = -1 ∧ A 2 k = 0) ∨ (A 1 k = -2 ∧ 0 ≤ A 2 k ∧ A 2 k < I 10) ∨ (0 ≤ A 1 k ∧ A 1 k < k ∧ 0 ≤ A 2 k ∧ A 2 k < k)) ∧ (-1 ≤ A 3 k ∧ A 3 k < k ∧ (0 ≤ A 3 k → hsh A N (A 3 k) = hsh A N k)) ∧ (0 ≤ A 4 k ∧ A 4 k ≤ 30000 ∧ 0 ≤ A 5 k ∧ A 5 k ≤ k)
def SC (f : Int → Int) : Nat → Int
  | 0 => 0
  | n + 1 => SC f n + if f (n : Int) = -2 then 1 else 0
theorem SC_ext {f g : Int → Int} : ∀ n : Nat, (∀ k : Int, 0 ≤ k → k < n → g k = f k) → SC g n = SC f n
  | 0, _ => rfl
  | n + 1, h => by
    show SC g n + _ = SC f n + _
    rw [SC_ext n (fun k a b => h k a (by omega)), h n (by omega) (by omega)]
theorem SC_s {f : Int → Int} {m : Int} (h : 0 ≤ m) : SC f (m + 1).toNat = SC f m.toNat + if f m = -2 then 1 else 0 := by
  rw [show (m + 1).toNat = m.toNat + 1 by omega]
  show SC f m.toNat + (if f (m.toNat : Int) = -2 then 1 else 0) = _
  rw [show ((m.toNat : Nat) : Int) = m by omega]
def MSC (c : Int) (I : Nat → Int) (A : Nat → Int → Int) (N : Int → Int) : Prop := (0 ≤ I 7 ∧ I 7 ≤ 140000 ∧ 0 ≤ I 10 ∧ I 10 ≤ 4990 ∧ I 10 = SC (A 1) (I 7).toNat + c) ∧ (∀ k : Int, 0 ≤ k → k < I 7 → MOB I A N k) ∧ (∀ s : Int, 0 ≤ s → s < 8192 → -1 ≤ A 7 s ∧ A 7 s < I 7 ∧ (0 ≤ A 7 s → hsh A N (A 7 s) = s)) ∧ ((∀ j k : Int, 0 ≤ j → j < k → k < I 7 → hsh A N j = hsh A N k → j ≤ A 3 k) ∧ ∀ j : Int, 0 ≤ j → j < I 7 → j ≤ A 7 (hsh A N j)) ∧ ((∀ s : Int, 0 ≤ s → s < I 10 → 0 ≤ A 9 s ∧ A 9 s ≤ 11) ∧ (∀ s : Int, 0 ≤ A 8 s ∧ A 8 s ≤ 255) ∧ ∀ k : Int, 0 ≤ N k ∧ N k < 4611686018427387904) ∧ (∀ j k : Int, 0 ≤ j → j < k → k < I 7 → A 1 j = -2 → A 1 k = -2 → A 2 j < A 2 k) ∧ (∀ j k : Int, 0 ≤ j → j < k → k < I 7 → 0 ≤ A 1 k → A 1 j = A 1 k → A 2 j = A 2 k → False) ∧ (∀ j k : Int, 0 ≤ j → j < k → k < I 7 → A 1 j = -1 → A 1 k = -1 → N j = N k → False) ∧ ∀ k : Int, 0 ≤ k → k < I 7 → A 5 k = (if A 1 k < 0 then 0 else 1 + (if A 5 (A 2 k) < A 5 (A 1 k) then A 5 (A 1 k) else A 5 (A 2 k)))
def MST (I : Nat → Int) (A : Nat → Int → Int) (N : Int → Int) : Prop := MSC 0 I A N
theorem MST_PW {I : Nat → Int} {A : Nat → Int → Int} {N : Int → Int} (hS : MST I A N) : PW I A := by
  refine ⟨hS.1.2.1, fun k h0 h1 => ?_⟩
  have q := (hS.2.1 k h0 h1).1
  have q1 := hS.1
  rcases q with q | q | q <;> omega
def addA (A : Nat → Int → Int) (o l r q : Int) : Nat → Int → Int := sa (sa (sa (sa (sa (sa A 1 o l) 2 o r) 3 o (A 7 q)) 4 o 0) 5 o (if l < 0 then 0 else 1 + (if A 5 r < A 5 l then A 5 l else A 5 r))) 7 q o
theorem sf_self {f : Int → Int} {e x : Int} : sf f e x e = x := by
  unfold sf
  rw [if_pos rfl]
theorem sf_ne {f : Int → Int} {e x k : Int} (h : k ≠ e) : sf f e x k = f k := by
  unfold sf
  rw [if_neg h]
section ADD
variable {A : Nat → Int → Int} {o l r q : Int}
theorem addA_1 : addA A o l r q 1 = sf (A 1) o l := rfl
theorem addA_2 : addA A o l r q 2 = sf (A 2) o r := rfl
theorem addA_3 : addA A o l r q 3 = sf (A 3) o (A 7 q) := rfl
theorem addA_4 : addA A o l r q 4 = sf (A 4) o 0 := rfl
theorem addA_5 : addA A o l r q 5 = sf (A 5) o (if l < 0 then 0 else 1 + (if A 5 r < A 5 l then A 5 l else A 5 r)) := rfl
theorem addA_7 : addA A o l r q 7 = sf (A 7) q o := rfl
theorem addA_8 : addA A o l r q 8 = A 8 := rfl
theorem addA_9 : addA A o l r q 9 = A 9 := rfl
theorem addA_h {N : Int → Int} {k : Int} (hk : k ≠ o) : hsh (addA A o l r q) N k = hsh A N k := by
  unfold hsh
  rw [addA_1, addA_2, addA_8, addA_9, sf_ne hk, sf_ne hk]
end ADD
theorem MST_add {I : Nat → Int} {A : Nat → Int → Int} {N : Int → Int} {l r q c0 : Int} (hS : MSC c0 I A N) (hc0 : c0 = if l = -2 then 1 else 0) (ho : I 7 < 140000) (hq : hsh (addA A (I 7) l r q) N (I 7) = q) (hk : (l = -1 ∧ r = 0 ∧ ∀ j : Int, 0 ≤ j → j < I 7 → ¬ (A 1 j = -1 ∧ N j = N (I 7))) ∨ (l = -2 ∧ 0 ≤ r ∧ r < I 10 ∧ ∀ j : Int, 0 ≤ j → j < I 7 → A 1 j = -2 → A 2 j < r) ∨ (0 ≤ l ∧ l < I 7 ∧ 0 ≤ r ∧ r < I 7 ∧ ∀ j : Int, 0 ≤ j → j < I 7 → ¬ (A 1 j = l ∧ A 2 j = r))) : MST (su I 7 (I 7 + 1)) (addA A (I 7) l r q) N := by
  obtain ⟨⟨a1, a2, a3, a4, a5⟩, b, c, ⟨e1, e2⟩, f, g, gu, gn, gh⟩ := hS
  have qr : 0 ≤ q ∧ q < 8192 := by rw [← hq]; exact hsh_rng _ _ _
  have cq := c q qr.1 qr.2
  have i7 : su I 7 (I 7 + 1) 7 = I 7 + 1 := rfl
  have i10 : su I 7 (I 7 + 1) 10 = I 10 := rfl
  have a6 : I 10 = SC (addA A (I 7) l r q 1) (I 7 + 1).toNat + 0 := by
    rw [SC_s a1, addA_1, SC_ext (f := A 1) (g := sf (A 1) (I 7) l) (I 7).toNat (fun k p q => sf_ne (by omega)), sf_self, ← hc0]
    omega
  refine ⟨by rw [i7, i10]; exact ⟨by omega, by omega, a3, a4, a6⟩, fun k h0 h1 => ?_, fun s h0 h1 => ?_, ⟨fun j k j0 jk k1 hh => ?_, fun j j0 j1 => ?_⟩, ⟨by rw [i10]; exact f.1, f.2⟩, fun j k j0 jk k1 lj lk => ?_, fun j k j0 jk k1 lk e3 e4 => ?_, fun j k j0 jk k1 lj lk e3 => ?_, fun k k0 k1 => ?_⟩
  · rw [i7] at h1
    unfold MOB
    rw [i10]
    by_cases e : k = I 7
    · subst e
      rw [hq, addA_1, addA_2, addA_3, addA_4, addA_5, sf_self, sf_self, sf_self, sf_self, sf_self]
      refine ⟨?_, ⟨cq.1, cq.2.1, fun hn => ?_⟩, by omega, by omega, ?_⟩
      · rcases hk with hk | hk | hk
        · exact Or.inl ⟨hk.1, hk.2.1⟩
        · exact Or.inr (Or.inl ⟨hk.1, hk.2.1, hk.2.2.1⟩)
        · exact Or.inr (Or.inr ⟨hk.1, hk.2.1, hk.2.2.1, hk.2.2.2.1⟩)
      · rw [addA_h (by omega)]
        exact cq.2.2 hn
      · by_cases hl : l < 0
        · rw [if_pos hl]; omega
        · rw [if_neg hl]
          have hl2 : 0 ≤ l ∧ l < I 7 ∧ 0 ≤ r ∧ r < I 7 := by
            rcases hk with hk | hk | hk
            · omega
            · omega
            · exact ⟨hk.1, hk.2.1, hk.2.2.1, hk.2.2.2.1⟩
          have p1 := (b l hl2.1 hl2.2.1).2.2
          have p2 := (b r hl2.2.2.1 hl2.2.2.2).2.2
          split <;> omega
    · have q1 := b k h0 (by omega)
      rw [addA_h e]
      unfold MOB at q1
      rw [addA_1, addA_2, addA_3, addA_4, addA_5, sf_ne e, sf_ne e, sf_ne e, sf_ne e, sf_ne e]
      refine ⟨q1.1, ⟨q1.2.1.1, q1.2.1.2.1, fun hn => ?_⟩, q1.2.2⟩
      rw [addA_h (by omega)]
      exact q1.2.1.2.2 hn
  · rw [i7, addA_7]
    by_cases e : s = q
    · subst e
      rw [sf_self]
      exact ⟨by omega, by omega, fun _ => hq⟩
    · rw [sf_ne e]
      have q1 := c s h0 h1
      refine ⟨q1.1, by omega, fun hn => ?_⟩
      rw [addA_h (by omega)]
      exact q1.2.2 hn
  · rw [i7] at k1
    rw [addA_3]
    rw [addA_h (by omega : j ≠ I 7)] at hh
    by_cases e : k = I 7
    · subst e
      rw [sf_self]
      rw [hq] at hh
      rw [← hh]
      exact e2 j j0 (by omega)
    · rw [sf_ne e]
      rw [addA_h e] at hh
      exact e1 j k j0 jk (by omega) hh
  · rw [i7] at j1
    rw [addA_7]
    by_cases e : j = I 7
    · subst e
      rw [hq, sf_self]
      omega
    · rw [addA_h e]
      by_cases e3 : hsh A N j = q
      · rw [e3, sf_self]; omega
      · rw [sf_ne e3]
        exact e2 j j0 (by omega)
  · rw [i7] at k1
    rw [addA_1] at lj lk
    rw [addA_2, sf_ne (by omega : j ≠ I 7)]
    rw [sf_ne (by omega : j ≠ I 7)] at lj
    by_cases e : k = I 7
    · subst e
      rw [sf_self]
      rw [sf_self] at lk
      rcases hk with hk | hk | hk
      · omega
      · exact hk.2.2.2 j j0 (by omega) lj
      · omega
    · rw [sf_ne e]
      rw [sf_ne e] at lk
      exact g j k j0 jk (by omega) lj lk
  · rw [i7] at k1
    rw [addA_1] at lk e3
    rw [addA_2] at e4
    rw [sf_ne (by omega : j ≠ I 7)] at e3 e4
    by_cases e : k = I 7
    · subst e
      rw [sf_self] at lk e3 e4
      rcases hk with hk | hk | hk
      · omega
      · omega
      · exact hk.2.2.2.2 j j0 (by omega) ⟨e3, e4⟩
    · rw [sf_ne e] at lk e3 e4
      exact gu j k j0 jk (by omega) lk e3 e4
  · rw [i7] at k1
    rw [addA_1] at lj lk
    rw [sf_ne (by omega : j ≠ I 7)] at lj
    by_cases e : k = I 7
    · subst e
      rw [sf_self] at lk
      rcases hk with hk | hk | hk
      · exact hk.2.2 j j0 (by omega) ⟨lj, e3⟩
      · omega
      · omega
    · rw [sf_ne e] at lk
      exact gn j k j0 jk (by omega) lj lk e3
  · rw [i7] at k1
    rw [addA_1, addA_2, addA_5]
    by_cases e : k = I 7
    · subst e
      rw [sf_self, sf_self, sf_self]
      by_cases hl : l < 0
      · rw [if_pos hl, if_pos hl]
      · have hl2 : l < I 7 ∧ r < I 7 := by
          rcases hk with hk | hk | hk
          · omega
          · omega
          · exact ⟨hk.2.1, hk.2.2.2.1⟩
        rw [if_neg hl, if_neg hl, sf_ne (by omega : l ≠ I 7), sf_ne (by omega : r ≠ I 7)]
    · rw [sf_ne e, sf_ne e, sf_ne e]
      have q1 := (b k k0 (by omega)).1
      by_cases hl : A 1 k < 0
      · rw [if_pos hl, gh k k0 (by omega), if_pos hl]
      · rw [if_neg hl, sf_ne (by omega : A 1 k ≠ I 7), sf_ne (by omega : A 2 k ≠ I 7), gh k k0 (by omega), if_neg hl]
theorem mm_added (z : Value) (d : Nat) (l r q : Int) (h R : xx_H) (I : Nat → Int) (A : Nat → Int → Int) (N : Int → Int) (hc : 12 ≤ h.length) (o0 : 0 ≤ I 7) (o1 : I 7 < 140000) (q0 : 0 ≤ q) (q1 : q < 8192) (l0 : -2 ≤ l) (l1 : l < 140000) (r0 : 0 ≤ r) (r1 : r < 140000) (g1 : 0 ≤ l → 0 ≤ A 5 l ∧ A 5 l ≤ 140000 ∧ 0 ≤ A 5 r ∧ A 5 r ≤ 140000) : xx_cl (xt_P z) (d + 1) 65 [.ref h.length, .int (iI l), .int (iI r), .int (iI q)] (mh h R I A N) (fun v h1 => v = some (.int (iI (I 7))) ∧ h1 = mh h R (su I 7 (I 7 + 1)) (addA A (I 7) l r q) N) := by
  refine cl_go rfl ?_
  show xx_go (xt_P z) d 65 0 [some (.ref h.length), some (.int (iI l)), some (.int (iI r)), some (.int (iI q))] [] (mh h R I A N) _
  refine go_a (pc' := 1) (ls' := [some (.ref h.length), some (.int (iI l)), some (.int (iI r)), some (.int (iI q))]) (st' := [.ref h.length]) rfl rfl ?_
  refine go_get rfl mh_o rfl rfl ?_
  refine go_a (pc' := 5) (ls' := [some (.ref h.length), some (.int (iI l)), some (.int (iI r)), some (.int (iI q))]) (st' := [.ref h.length, .ref (h.length + 1)]) rfl rfl ?_
  refine go_get (v := .int (iI (I 7))) rfl mh_o rfl rfl ?_
  refine go_a (pc' := 9) (ls' := [some (.ref h.length), some (.int (iI l)), some (.int (iI r)), some (.int (iI q))]) (st' := [.int (iI l), .int (iI (I 7)), .ref (h.length + 1)]) rfl rfl ?_
  refine mi_ist rfl mh_a1 (show 12 ≤ _ by omega) (by omega) (by omega) (by decide) ?_
  rw [mh_w1 (by omega)]
  refine go_a (pc' := 11) (ls' := [some (.ref h.length), some (.int (iI l)), some (.int (iI r)), some (.int (iI q))]) (st' := [.ref h.length]) rfl rfl ?_
  refine go_get rfl mh_o rfl rfl ?_
  refine go_a (pc' := 15) (ls' := [some (.ref h.length), some (.int (iI l)), some (.int (iI r)), some (.int (iI q))]) (st' := [.ref h.length, .ref (h.length + 2)]) rfl rfl ?_
  refine go_get (v := .int (iI (I 7))) rfl mh_o rfl rfl ?_
  refine go_a (pc' := 19) (ls' := [some (.ref h.length), some (.int (iI l)), some (.int (iI r)), some (.int (iI q))]) (st' := [.int (iI r), .int (iI (I 7)), .ref (h.length + 2)]) rfl rfl ?_
  refine mi_ist rfl mh_a2 (show 12 ≤ _ by omega) (by omega) (by omega) (by decide) ?_
  rw [mh_w2 (by omega)]
  refine go_a (pc' := 21) (ls' := [some (.ref h.length), some (.int (iI l)), some (.int (iI r)), some (.int (iI q))]) (st' := [.ref h.length]) rfl rfl ?_
  refine go_get rfl mh_o rfl rfl ?_
  refine go_a (pc' := 25) (ls' := [some (.ref h.length), some (.int (iI l)), some (.int (iI r)), some (.int (iI q))]) (st' := [.ref h.length, .ref (h.length + 3)]) rfl rfl ?_
  refine go_get (v := .int (iI (I 7))) rfl mh_o rfl rfl ?_
  refine go_a (pc' := 29) (ls' := [some (.ref h.length), some (.int (iI l)), some (.int (iI r)), some (.int (iI q))]) (st' := [.ref h.length, .int (iI (I 7)), .ref (h.length + 3)]) rfl rfl ?_
  refine go_get rfl mh_o rfl rfl ?_
  refine go_a (pc' := 33) (ls' := [some (.ref h.length), some (.int (iI l)), some (.int (iI r)), some (.int (iI q))]) (st' := [.int (iI q), .ref (h.length + 7), .int (iI (I 7)), .ref (h.length + 3)]) rfl rfl ?_
  refine mi_ild rfl mh_a7 (by omega) (by omega) (by decide) ?_
  show xx_go (xt_P z) d 65 34 [some (.ref h.length), some (.int (iI l)), some (.int (iI r)), some (.int (iI q))] [.int (iI (A 7 q)), .int (iI (I 7)), .ref (h.length + 3)] (mh h R I (sa (sa A 1 (I 7) l) 2 (I 7) r) N) _
  refine mi_ist rfl mh_a3 (show 12 ≤ _ by omega) (by omega) (by omega) (by decide) ?_
  rw [mh_w3 (by omega)]
  refine go_a (pc' := 36) (ls' := [some (.ref h.length), some (.int (iI l)), some (.int (iI r)), some (.int (iI q))]) (st' := [.ref h.length]) rfl rfl ?_
  refine go_get rfl mh_o rfl rfl ?_
  refine go_a (pc' := 40) (ls' := [some (.ref h.length), some (.int (iI l)), some (.int (iI r)), some (.int (iI q))]) (st' := [.ref h.length, .ref (h.length + 4)]) rfl rfl ?_
  refine go_get (v := .int (iI (I 7))) rfl mh_o rfl rfl ?_
  refine go_a (pc' := 44) (ls' := [some (.ref h.length), some (.int (iI l)), some (.int (iI r)), some (.int (iI q))]) (st' := [.int (iI 0), .int (iI (I 7)), .ref (h.length + 4)]) rfl rfl ?_
  refine mi_ist rfl mh_a4 (show 12 ≤ _ by omega) (by omega) (by omega) (by decide) ?_
  rw [mh_w4 (by omega)]
  refine go_a (pc' := 46) (ls' := [some (.ref h.length), some (.int (iI l)), some (.int (iI r)), some (.int (iI q))]) (st' := [.ref h.length]) rfl rfl ?_
  refine go_get rfl mh_o rfl rfl ?_
  refine go_a (pc' := 50) (ls' := [some (.ref h.length), some (.int (iI l)), some (.int (iI r)), some (.int (iI q))]) (st' := [.ref h.length, .ref (h.length + 5)]) rfl rfl ?_
  refine go_get (v := .int (iI (I 7))) rfl mh_o rfl rfl ?_
  refine go_a (pc' := 54) (ls' := [some (.ref h.length), some (.int (iI l)), some (.int (iI r)), some (.int (iI q))]) (st' := [.int (iI l), .int (iI (I 7)), .ref (h.length + 5)]) rfl rfl ?_
  refine mi_ge0 (t := 61) rfl rfl (by omega) (by omega) (fun hb => ?_) (fun hb => ?_)
  · have g2 := g1 hb
    refine go_a (pc' := 62) (ls' := [some (.ref h.length), some (.int (iI l)), some (.int (iI r)), some (.int (iI q))]) (st' := [.int (iI 1), .int (iI (I 7)), .ref (h.length + 5)]) rfl rfl ?_
    refine go_a (pc' := 63) (ls' := [some (.ref h.length), some (.int (iI l)), some (.int (iI r)), some (.int (iI q))]) (st' := [.ref h.length, .int (iI 1), .int (iI (I 7)), .ref (h.length + 5)]) rfl rfl ?_
    refine go_get rfl mh_o rfl rfl ?_
    refine go_a (pc' := 67) (ls' := [some (.ref h.length), some (.int (iI l)), some (.int (iI r)), some (.int (iI q))]) (st' := [.int (iI l), .ref (h.length + 5), .int (iI 1), .int (iI (I 7)), .ref (h.length + 5)]) rfl rfl ?_
    refine mi_ild rfl mh_a5 (by omega) (by omega) (by decide) ?_
    show xx_go (xt_P z) d 65 68 [some (.ref h.length), some (.int (iI l)), some (.int (iI r)), some (.int (iI q))] [.int (iI (A 5 l)), .int (iI 1), .int (iI (I 7)), .ref (h.length + 5)] (mh h R I (sa (sa (sa (sa A 1 (I 7) l) 2 (I 7) r) 3 (I 7) (A 7 q)) 4 (I 7) 0) N) _
    refine go_a (pc' := 69) (ls' := [some (.ref h.length), some (.int (iI l)), some (.int (iI r)), some (.int (iI q))]) (st' := [.ref h.length, .int (iI (A 5 l)), .int (iI 1), .int (iI (I 7)), .ref (h.length + 5)]) rfl rfl ?_
    refine go_get rfl mh_o rfl rfl ?_
    refine go_a (pc' := 73) (ls' := [some (.ref h.length), some (.int (iI l)), some (.int (iI r)), some (.int (iI q))]) (st' := [.int (iI r), .ref (h.length + 5), .int (iI (A 5 l)), .int (iI 1), .int (iI (I 7)), .ref (h.length + 5)]) rfl rfl ?_
    refine mi_ild rfl mh_a5 (by omega) (by omega) (by decide) ?_
    show xx_go (xt_P z) d 65 74 [some (.ref h.length), some (.int (iI l)), some (.int (iI r)), some (.int (iI q))] [.int (iI (A 5 r)), .int (iI (A 5 l)), .int (iI 1), .int (iI (I 7)), .ref (h.length + 5)] (mh h R I (sa (sa (sa (sa A 1 (I 7) l) 2 (I 7) r) 3 (I 7) (A 7 q)) 4 (I 7) 0) N) _
    refine mi_le (t := 86) rfl rfl (by omega) (by omega) (by omega) (by omega) (fun hb => ?_) (fun hb => ?_)
    · refine go_a (pc' := 87) (ls' := [some (.ref h.length), some (.int (iI l)), some (.int (iI r)), some (.int (iI q))]) (st' := [.ref h.length, .int (iI 1), .int (iI (I 7)), .ref (h.length + 5)]) rfl rfl ?_
      refine go_get rfl mh_o rfl rfl ?_
      refine go_a (pc' := 91) (ls' := [some (.ref h.length), some (.int (iI l)), some (.int (iI r)), some (.int (iI q))]) (st' := [.int (iI r), .ref (h.length + 5), .int (iI 1), .int (iI (I 7)), .ref (h.length + 5)]) rfl rfl ?_
      refine mi_ild rfl mh_a5 (by omega) (by omega) (by decide) ?_
      show xx_go (xt_P z) d 65 92 [some (.ref h.length), some (.int (iI l)), some (.int (iI r)), some (.int (iI q))] [.int (iI (A 5 r)), .int (iI 1), .int (iI (I 7)), .ref (h.length + 5)] (mh h R I (sa (sa (sa (sa A 1 (I 7) l) 2 (I 7) r) 3 (I 7) (A 7 q)) 4 (I 7) 0) N) _
      refine mi_add rfl ?_
      refine mi_ist rfl mh_a5 (show 12 ≤ _ by omega) (by omega) (by omega) (by decide) ?_
      rw [mh_w5 (by omega)]
      refine go_a (pc' := 95) (ls' := [some (.ref h.length), some (.int (iI l)), some (.int (iI r)), some (.int (iI q))]) (st' := [.ref h.length]) rfl rfl ?_
      refine go_get rfl mh_o rfl rfl ?_
      refine go_a (pc' := 99) (ls' := [some (.ref h.length), some (.int (iI l)), some (.int (iI r)), some (.int (iI q))]) (st' := [.int (iI q), .ref (h.length + 7)]) rfl rfl ?_
      refine go_a (pc' := 100) (ls' := [some (.ref h.length), some (.int (iI l)), some (.int (iI r)), some (.int (iI q))]) (st' := [.ref h.length, .int (iI q), .ref (h.length + 7)]) rfl rfl ?_
      refine go_get (v := .int (iI (I 7))) rfl mh_o rfl rfl ?_
      refine mi_ist rfl mh_a7 (show 12 ≤ _ by omega) (by omega) (by omega) (by decide) ?_
      rw [mh_w7 (by omega)]
      refine go_a (pc' := 105) (ls' := [some (.ref h.length), some (.int (iI l)), some (.int (iI r)), some (.int (iI q))]) (st' := [.ref h.length]) rfl rfl ?_
      refine go_a (pc' := 106) (ls' := [some (.ref h.length), some (.int (iI l)), some (.int (iI r)), some (.int (iI q))]) (st' := [.ref h.length, .ref h.length]) rfl rfl ?_
      refine go_get (v := .int (iI (I 7))) rfl mh_o rfl rfl ?_
      refine go_a (pc' := 110) (ls' := [some (.ref h.length), some (.int (iI l)), some (.int (iI r)), some (.int (iI q))]) (st' := [.int (iI 1), .int (iI (I 7)), .ref h.length]) rfl rfl ?_
      refine mi_add rfl ?_
      refine go_put (j := 7) rfl mh_o rfl rfl (show 12 ≤ _ from hc) (show 7 < 86 by decide) rfl rfl ?_
      rw [mh_p7]
      refine go_a (pc' := 115) (ls' := [some (.ref h.length), some (.int (iI l)), some (.int (iI r)), some (.int (iI q))]) (st' := [.ref h.length]) rfl rfl ?_
      refine go_get (v := .int (iI ((I 7) + 1))) rfl mh_o rfl rfl ?_
      refine go_a (pc' := 119) (ls' := [some (.ref h.length), some (.int (iI l)), some (.int (iI r)), some (.int (iI q))]) (st' := [.int (iI 1), .int (iI ((I 7) + 1))]) rfl rfl ?_
      refine mi_sub rfl ?_
      rw [show I 7 + 1 - 1 = I 7 by omega]
      refine go_r rfl rfl rfl rfl rfl rfl ⟨rfl, ?_⟩
      unfold addA
      rw [if_neg (by omega), if_neg (by omega)]
    · refine go_a (pc' := 78) (ls' := [some (.ref h.length), some (.int (iI l)), some (.int (iI r)), some (.int (iI q))]) (st' := [.ref h.length, .int (iI 1), .int (iI (I 7)), .ref (h.length + 5)]) rfl rfl ?_
      refine go_get rfl mh_o rfl rfl ?_
      refine go_a (pc' := 82) (ls' := [some (.ref h.length), some (.int (iI l)), some (.int (iI r)), some (.int (iI q))]) (st' := [.int (iI l), .ref (h.length + 5), .int (iI 1), .int (iI (I 7)), .ref (h.length + 5)]) rfl rfl ?_
      refine mi_ild rfl mh_a5 (by omega) (by omega) (by decide) ?_
      show xx_go (xt_P z) d 65 83 [some (.ref h.length), some (.int (iI l)), some (.int (iI r)), some (.int (iI q))] [.int (iI (A 5 l)), .int (iI 1), .int (iI (I 7)), .ref (h.length + 5)] (mh h R I (sa (sa (sa (sa A 1 (I 7) l) 2 (I 7) r) 3 (I 7) (A 7 q)) 4 (I 7) 0) N) _
      refine go_a (pc' := 92) (ls' := [some (.ref h.length), some (.int (iI l)), some (.int (iI r)), some (.int (iI q))]) (st' := [.int (iI (A 5 l)), .int (iI 1), .int (iI (I 7)), .ref (h.length + 5)]) rfl rfl ?_
      refine mi_add rfl ?_
      refine mi_ist rfl mh_a5 (show 12 ≤ _ by omega) (by omega) (by omega) (by decide) ?_
      rw [mh_w5 (by omega)]
      refine go_a (pc' := 95) (ls' := [some (.ref h.length), some (.int (iI l)), some (.int (iI r)), some (.int (iI q))]) (st' := [.ref h.length]) rfl rfl ?_
      refine go_get rfl mh_o rfl rfl ?_
      refine go_a (pc' := 99) (ls' := [some (.ref h.length), some (.int (iI l)), some (.int (iI r)), some (.int (iI q))]) (st' := [.int (iI q), .ref (h.length + 7)]) rfl rfl ?_
      refine go_a (pc' := 100) (ls' := [some (.ref h.length), some (.int (iI l)), some (.int (iI r)), some (.int (iI q))]) (st' := [.ref h.length, .int (iI q), .ref (h.length + 7)]) rfl rfl ?_
      refine go_get (v := .int (iI (I 7))) rfl mh_o rfl rfl ?_
      refine mi_ist rfl mh_a7 (show 12 ≤ _ by omega) (by omega) (by omega) (by decide) ?_
      rw [mh_w7 (by omega)]
      refine go_a (pc' := 105) (ls' := [some (.ref h.length), some (.int (iI l)), some (.int (iI r)), some (.int (iI q))]) (st' := [.ref h.length]) rfl rfl ?_
      refine go_a (pc' := 106) (ls' := [some (.ref h.length), some (.int (iI l)), some (.int (iI r)), some (.int (iI q))]) (st' := [.ref h.length, .ref h.length]) rfl rfl ?_
      refine go_get (v := .int (iI (I 7))) rfl mh_o rfl rfl ?_
      refine go_a (pc' := 110) (ls' := [some (.ref h.length), some (.int (iI l)), some (.int (iI r)), some (.int (iI q))]) (st' := [.int (iI 1), .int (iI (I 7)), .ref h.length]) rfl rfl ?_
      refine mi_add rfl ?_
      refine go_put (j := 7) rfl mh_o rfl rfl (show 12 ≤ _ from hc) (show 7 < 86 by decide) rfl rfl ?_
      rw [mh_p7]
      refine go_a (pc' := 115) (ls' := [some (.ref h.length), some (.int (iI l)), some (.int (iI r)), some (.int (iI q))]) (st' := [.ref h.length]) rfl rfl ?_
      refine go_get (v := .int (iI ((I 7) + 1))) rfl mh_o rfl rfl ?_
      refine go_a (pc' := 119) (ls' := [some (.ref h.length), some (.int (iI l)), some (.int (iI r)), some (.int (iI q))]) (st' := [.int (iI 1), .int (iI ((I 7) + 1))]) rfl rfl ?_
      refine mi_sub rfl ?_
      rw [show I 7 + 1 - 1 = I 7 by omega]
      refine go_r rfl rfl rfl rfl rfl rfl ⟨rfl, ?_⟩
      unfold addA
      rw [if_neg (by omega), if_pos (by omega)]
  · refine go_a (pc' := 58) (ls' := [some (.ref h.length), some (.int (iI l)), some (.int (iI r)), some (.int (iI q))]) (st' := [.int (iI 0), .int (iI (I 7)), .ref (h.length + 5)]) rfl rfl ?_
    refine go_a (pc' := 93) (ls' := [some (.ref h.length), some (.int (iI l)), some (.int (iI r)), some (.int (iI q))]) (st' := [.int (iI 0), .int (iI (I 7)), .ref (h.length + 5)]) rfl rfl ?_
    refine mi_ist rfl mh_a5 (show 12 ≤ _ by omega) (by omega) (by omega) (by decide) ?_
    rw [mh_w5 (by omega)]
    refine go_a (pc' := 95) (ls' := [some (.ref h.length), some (.int (iI l)), some (.int (iI r)), some (.int (iI q))]) (st' := [.ref h.length]) rfl rfl ?_
    refine go_get rfl mh_o rfl rfl ?_
    refine go_a (pc' := 99) (ls' := [some (.ref h.length), some (.int (iI l)), some (.int (iI r)), some (.int (iI q))]) (st' := [.int (iI q), .ref (h.length + 7)]) rfl rfl ?_
    refine go_a (pc' := 100) (ls' := [some (.ref h.length), some (.int (iI l)), some (.int (iI r)), some (.int (iI q))]) (st' := [.ref h.length, .int (iI q), .ref (h.length + 7)]) rfl rfl ?_
    refine go_get (v := .int (iI (I 7))) rfl mh_o rfl rfl ?_
    refine mi_ist rfl mh_a7 (show 12 ≤ _ by omega) (by omega) (by omega) (by decide) ?_
    rw [mh_w7 (by omega)]
    refine go_a (pc' := 105) (ls' := [some (.ref h.length), some (.int (iI l)), some (.int (iI r)), some (.int (iI q))]) (st' := [.ref h.length]) rfl rfl ?_
    refine go_a (pc' := 106) (ls' := [some (.ref h.length), some (.int (iI l)), some (.int (iI r)), some (.int (iI q))]) (st' := [.ref h.length, .ref h.length]) rfl rfl ?_
    refine go_get (v := .int (iI (I 7))) rfl mh_o rfl rfl ?_
    refine go_a (pc' := 110) (ls' := [some (.ref h.length), some (.int (iI l)), some (.int (iI r)), some (.int (iI q))]) (st' := [.int (iI 1), .int (iI (I 7)), .ref h.length]) rfl rfl ?_
    refine mi_add rfl ?_
    refine go_put (j := 7) rfl mh_o rfl rfl (show 12 ≤ _ from hc) (show 7 < 86 by decide) rfl rfl ?_
    rw [mh_p7]
    refine go_a (pc' := 115) (ls' := [some (.ref h.length), some (.int (iI l)), some (.int (iI r)), some (.int (iI q))]) (st' := [.ref h.length]) rfl rfl ?_
    refine go_get (v := .int (iI ((I 7) + 1))) rfl mh_o rfl rfl ?_
    refine go_a (pc' := 119) (ls' := [some (.ref h.length), some (.int (iI l)), some (.int (iI r)), some (.int (iI q))]) (st' := [.int (iI 1), .int (iI ((I 7) + 1))]) rfl rfl ?_
    refine mi_sub rfl ?_
    rw [show I 7 + 1 - 1 = I 7 by omega]
    refine go_r rfl rfl rfl rfl rfl rfl ⟨rfl, ?_⟩
    unfold addA
    rw [if_pos (by omega)]
theorem mm_pair_loop (z : Value) (d : Nat) (l r : Int) (h R : xx_H) (I : Nat → Int) (A : Nat → Int → Int) (N : Int → Int) (hc : 12 ≤ h.length) (hS : MST I A N) (ho : I 7 < 140000) (l0 : 0 ≤ l) (l1 : l < I 7) (r0 : 0 ≤ r) (r1 : r < I 7) : ∀ (f : Nat) (k : Int), (k + 1).toNat ≤ f → -1 ≤ k → k < I 7 → (0 ≤ k → hsh A N k = msl l r) → (∀ j : Int, k < j → 0 ≤ j → j < I 7 → ¬ (A 1 j = l ∧ A 2 j = r)) → xx_go (xt_P z) (d + 1) 85 14 [some (.ref h.length), some (.int (iI l)), some (.int (iI r)), some (.int (iI (msl l r))), some (.int (iI k))] [] (mh h R I A N) (fun v h1 => ∃ (k : Int) (I1 : Nat → Int) (A1 : Nat → Int → Int), v = some (.int (iI k)) ∧ h1 = mh h R I1 A1 N ∧ MST I1 A1 N ∧ 0 ≤ k ∧ k < I1 7 ∧ A1 1 k = l ∧ A1 2 k = r ∧ ((I1 = I ∧ A1 = A) ∨ (k = I 7 ∧ I1 = su I 7 (I 7 + 1) ∧ A1 = addA A (I 7) l r (msl l r) ∧ ∀ j : Int, 0 ≤ j → j < I 7 → ¬ (A 1 j = l ∧ A 2 j = r)))) := by
  have h1 := hS.1
  have sr := msl_rng l r
  have keyh : ∀ j : Int, A 1 j = l → A 2 j = r → hsh A N j = msl l r := fun j e1 e2 => by
    unfold hsh
    rw [if_neg (by omega), if_neg (by omega), e1, e2]
  have last : (∀ j : Int, -1 < j → 0 ≤ j → j < I 7 → ¬ (A 1 j = l ∧ A 2 j = r)) → xx_go (xt_P z) (d + 1) 85 14 [some (.ref h.length), some (.int (iI l)), some (.int (iI r)), some (.int (iI (msl l r))), some (.int (iI (-1)))] [] (mh h R I A N) (fun v h1 => ∃ (k : Int) (I1 : Nat → Int) (A1 : Nat → Int → Int), v = some (.int (iI k)) ∧ h1 = mh h R I1 A1 N ∧ MST I1 A1 N ∧ 0 ≤ k ∧ k < I1 7 ∧ A1 1 k = l ∧ A1 2 k = r ∧ ((I1 = I ∧ A1 = A) ∨ (k = I 7 ∧ I1 = su I 7 (I 7 + 1) ∧ A1 = addA A (I 7) l r (msl l r) ∧ ∀ j : Int, 0 ≤ j → j < I 7 → ¬ (A 1 j = l ∧ A 2 j = r)))) := by
    intro hn
    refine go_a (pc' := 16) (ls' := [some (.ref h.length), some (.int (iI l)), some (.int (iI r)), some (.int (iI (msl l r))), some (.int (iI ((-1))))]) (st' := [.int (iI ((-1)))]) rfl rfl ?_
    refine go_a (pc' := 17) (ls' := [some (.ref h.length), some (.int (iI l)), some (.int (iI r)), some (.int (iI (msl l r))), some (.int (iI ((-1))))]) (st' := [.int (iI ((-1))), .int (iI ((-1)))]) rfl rfl ?_
    refine mi_eq (t := 57) rfl rfl (by omega) (by omega) (by omega) (by omega) (fun hb => ?_) (fun hb => absurd rfl hb)
    refine go_a (pc' := 58) (ls' := [some (.ref h.length), some (.int (iI l)), some (.int (iI r)), some (.int (iI (msl l r))), some (.int (iI ((-1))))]) (st' := [.ref h.length]) rfl rfl ?_
    refine go_a (pc' := 59) (ls' := [some (.ref h.length), some (.int (iI l)), some (.int (iI r)), some (.int (iI (msl l r))), some (.int (iI ((-1))))]) (st' := [.int (iI l), .ref h.length]) rfl rfl ?_
    refine go_a (pc' := 60) (ls' := [some (.ref h.length), some (.int (iI l)), some (.int (iI r)), some (.int (iI (msl l r))), some (.int (iI ((-1))))]) (st' := [.int (iI r), .int (iI l), .ref h.length]) rfl rfl ?_
    refine go_a (pc' := 61) (ls' := [some (.ref h.length), some (.int (iI l)), some (.int (iI r)), some (.int (iI (msl l r))), some (.int (iI ((-1))))]) (st' := [.int (iI (msl l r)), .int (iI r), .int (iI l), .ref h.length]) rfl rfl ?_
    have p1 := (hS.2.1 l l0 l1).2.2
    have p2 := (hS.2.1 r r0 r1).2.2
    refine go_v (m := 65) (as := [.ref h.length, .int (iI l), .int (iI r), .int (iI (msl l r))]) (r := []) rfl rfl rfl mh_o rfl rfl (mm_added z d l r (msl l r) h R I A N hc h1.1 ho sr.1 sr.2 (by omega) (by omega) r0 (by omega) (fun _ => by omega)) (fun v h1 hq => ?_)
    obtain ⟨rfl, rfl⟩ := hq
    have hq : hsh (addA A (I 7) l r (msl l r)) N (I 7) = msl l r := by
      unfold hsh
      rw [addA_1, addA_2, sf_self, sf_self, if_neg (by omega), if_neg (by omega)]
    refine go_r rfl rfl rfl rfl rfl rfl ⟨I 7, _, _, rfl, rfl, MST_add hS (by rw [if_neg (by omega)]) ho hq (Or.inr (Or.inr ⟨l0, l1, r0, r1, fun j j0 j1 => hn j (by omega) j0 j1⟩)), h1.1, ?_, ?_, ?_, Or.inr ⟨rfl, rfl, rfl, fun j j0 j1 => hn j (by omega) j0 j1⟩⟩
    · show I 7 < I 7 + 1
      omega
    · rw [addA_1, sf_self]
    · rw [addA_2, sf_self]
  intro f
  induction f with
  | zero =>
    intro k hf k0 k1 hh hn
    have e : k = -1 := by omega
    subst e
    exact last hn
  | succ f ih =>
    intro k hf k0 k1 hh hn
    by_cases e : k = -1
    · subst e
      exact last hn
    have kk : 0 ≤ k := by omega
    have q := hS.2.1 k kk k1
    have qp := (MST_PW hS).2 k kk k1
    have nx : ¬ (A 1 k = l ∧ A 2 k = r) → xx_go (xt_P z) (d + 1) 85 45 [some (.ref h.length), some (.int (iI l)), some (.int (iI r)), some (.int (iI (msl l r))), some (.int (iI k))] [] (mh h R I A N) (fun v h1 => ∃ (k : Int) (I1 : Nat → Int) (A1 : Nat → Int → Int), v = some (.int (iI k)) ∧ h1 = mh h R I1 A1 N ∧ MST I1 A1 N ∧ 0 ≤ k ∧ k < I1 7 ∧ A1 1 k = l ∧ A1 2 k = r ∧ ((I1 = I ∧ A1 = A) ∨ (k = I 7 ∧ I1 = su I 7 (I 7 + 1) ∧ A1 = addA A (I 7) l r (msl l r) ∧ ∀ j : Int, 0 ≤ j → j < I 7 → ¬ (A 1 j = l ∧ A 2 j = r)))) := by
      intro hne
      have q3 := q.2.1
      refine go_a (pc' := 46) (ls' := [some (.ref h.length), some (.int (iI l)), some (.int (iI r)), some (.int (iI (msl l r))), some (.int (iI k))]) (st' := [.ref h.length]) rfl rfl ?_
      refine go_get rfl mh_o rfl rfl ?_
      refine go_a (pc' := 51) (ls' := [some (.ref h.length), some (.int (iI l)), some (.int (iI r)), some (.int (iI (msl l r))), some (.int (iI k))]) (st' := [.int (iI k), .ref (h.length + 3)]) rfl rfl ?_
      refine mi_ild rfl mh_a3 (by omega) (by omega) (by decide) ?_
      refine go_a (pc' := 54) (ls' := [some (.ref h.length), some (.int (iI l)), some (.int (iI r)), some (.int (iI (msl l r))), some (.int (iI (A 3 k)))]) (st' := []) rfl rfl ?_
      refine go_a (pc' := 14) (ls' := [some (.ref h.length), some (.int (iI l)), some (.int (iI r)), some (.int (iI (msl l r))), some (.int (iI (A 3 k)))]) (st' := []) rfl rfl ?_
      refine ih (A 3 k) (by omega) q3.1 (by omega) (fun hp => (q3.2.2 hp).trans (hh kk)) (fun j j1 j0 j2 hj => ?_)
      by_cases ej : j = k
      · subst ej
        exact hne hj
      · by_cases ej2 : k < j
        · exact hn j ej2 j0 j2 hj
        · have q4 := hS.2.2.2.1.1 j k j0 (by omega) k1 ((keyh j hj.1 hj.2).trans (hh kk).symm)
          omega
    refine go_a (pc' := 16) (ls' := [some (.ref h.length), some (.int (iI l)), some (.int (iI r)), some (.int (iI (msl l r))), some (.int (iI k))]) (st' := [.int (iI k)]) rfl rfl ?_
    refine go_a (pc' := 17) (ls' := [some (.ref h.length), some (.int (iI l)), some (.int (iI r)), some (.int (iI (msl l r))), some (.int (iI k))]) (st' := [.int (iI ((-1))), .int (iI k)]) rfl rfl ?_
    refine mi_eq (t := 57) rfl rfl (by omega) (by omega) (by omega) (by omega) (fun hb => absurd hb e) (fun hb => ?_)
    refine go_a (pc' := 21) (ls' := [some (.ref h.length), some (.int (iI l)), some (.int (iI r)), some (.int (iI (msl l r))), some (.int (iI k))]) (st' := [.ref h.length]) rfl rfl ?_
    refine go_get rfl mh_o rfl rfl ?_
    refine go_a (pc' := 26) (ls' := [some (.ref h.length), some (.int (iI l)), some (.int (iI r)), some (.int (iI (msl l r))), some (.int (iI k))]) (st' := [.int (iI k), .ref (h.length + 1)]) rfl rfl ?_
    refine mi_ild rfl mh_a1 (by omega) (by omega) (by decide) ?_
    refine go_a (pc' := 28) (ls' := [some (.ref h.length), some (.int (iI l)), some (.int (iI r)), some (.int (iI (msl l r))), some (.int (iI k))]) (st' := [.int (iI l), .int (iI (A 1 k))]) rfl rfl ?_
    refine mi_ne (t := 45) rfl rfl (by omega) (by omega) (by omega) (by omega) (fun hb => nx (fun q2 => hb q2.1)) (fun hb => ?_)
    refine go_a (pc' := 32) (ls' := [some (.ref h.length), some (.int (iI l)), some (.int (iI r)), some (.int (iI (msl l r))), some (.int (iI k))]) (st' := [.ref h.length]) rfl rfl ?_
    refine go_get rfl mh_o rfl rfl ?_
    refine go_a (pc' := 37) (ls' := [some (.ref h.length), some (.int (iI l)), some (.int (iI r)), some (.int (iI (msl l r))), some (.int (iI k))]) (st' := [.int (iI k), .ref (h.length + 2)]) rfl rfl ?_
    refine mi_ild rfl mh_a2 (by omega) (by omega) (by decide) ?_
    refine go_a (pc' := 39) (ls' := [some (.ref h.length), some (.int (iI l)), some (.int (iI r)), some (.int (iI (msl l r))), some (.int (iI k))]) (st' := [.int (iI r), .int (iI (A 2 k))]) rfl rfl ?_
    refine mi_ne (t := 45) rfl rfl (by omega) (by omega) (by omega) (by omega) (fun hb2 => nx (fun q2 => hb2 q2.2)) (fun hb2 => ?_)
    refine go_a (pc' := 44) (ls' := [some (.ref h.length), some (.int (iI l)), some (.int (iI r)), some (.int (iI (msl l r))), some (.int (iI k))]) (st' := [.int (iI k)]) rfl rfl ?_
    exact go_r rfl rfl rfl rfl rfl rfl ⟨k, I, A, rfl, rfl, hS, kk, k1, by omega, by omega, Or.inl ⟨rfl, rfl⟩⟩
theorem mm_pair (z : Value) (d : Nat) (l r : Int) (h R : xx_H) (I : Nat → Int) (A : Nat → Int → Int) (N : Int → Int) (hc : 12 ≤ h.length) (hS : MST I A N) (ho : I 7 < 140000) (l0 : 0 ≤ l) (l1 : l < I 7) (r0 : 0 ≤ r) (r1 : r < I 7) : xx_cl (xt_P z) (d + 2) 85 [.ref h.length, .int (iI l), .int (iI r)] (mh h R I A N) (fun v h1 => ∃ (k : Int) (I1 : Nat → Int) (A1 : Nat → Int → Int), v = some (.int (iI k)) ∧ h1 = mh h R I1 A1 N ∧ MST I1 A1 N ∧ 0 ≤ k ∧ k < I1 7 ∧ A1 1 k = l ∧ A1 2 k = r ∧ ((I1 = I ∧ A1 = A) ∨ (k = I 7 ∧ I1 = su I 7 (I 7 + 1) ∧ A1 = addA A (I 7) l r (msl l r) ∧ ∀ j : Int, 0 ≤ j → j < I 7 → ¬ (A 1 j = l ∧ A 2 j = r)))) := by
  have sr := msl_rng l r
  have c := hS.2.2.1 (msl l r) sr.1 sr.2
  refine cl_go rfl ?_
  show xx_go (xt_P z) (d + 1) 85 0 [some (.ref h.length), some (.int (iI l)), some (.int (iI r)), none, none] [] (mh h R I A N) _
  refine go_a (pc' := 1) (ls' := [some (.ref h.length), some (.int (iI l)), some (.int (iI r)), none, none]) (st' := [.int (iI l)]) rfl rfl ?_
  refine go_a (pc' := 2) (ls' := [some (.ref h.length), some (.int (iI l)), some (.int (iI r)), none, none]) (st' := [.int (iI r), .int (iI l)]) rfl rfl ?_
  refine go_s (m := 86) (as := [.int (iI l), .int (iI r)]) (r := []) rfl rfl rfl rfl (mm_slot z d l r _) (fun v h1 hq => ?_)
  obtain ⟨rfl, rfl⟩ := hq
  show xx_go (xt_P z) (d + 1) 85 5 [some (.ref h.length), some (.int (iI l)), some (.int (iI r)), none, none] [.int (iI (msl l r))] (mh h R I A N) _
  refine go_a (pc' := 6) (ls' := [some (.ref h.length), some (.int (iI l)), some (.int (iI r)), some (.int (iI (msl l r))), none]) (st' := []) rfl rfl ?_
  refine go_a (pc' := 7) (ls' := [some (.ref h.length), some (.int (iI l)), some (.int (iI r)), some (.int (iI (msl l r))), none]) (st' := [.ref h.length]) rfl rfl ?_
  refine go_get rfl mh_o rfl rfl ?_
  refine go_a (pc' := 11) (ls' := [some (.ref h.length), some (.int (iI l)), some (.int (iI r)), some (.int (iI (msl l r))), none]) (st' := [.int (iI (msl l r)), .ref (h.length + 7)]) rfl rfl ?_
  refine mi_ild rfl mh_a7 (by omega) (by omega) (by decide) ?_
  refine go_a (pc' := 14) (ls' := [some (.ref h.length), some (.int (iI l)), some (.int (iI r)), some (.int (iI (msl l r))), some (.int (iI (A 7 (msl l r))))]) (st' := []) rfl rfl ?_
  refine mm_pair_loop z d l r h R I A N hc hS ho l0 l1 r0 r1 (A 7 (msl l r) + 1).toNat (A 7 (msl l r)) (Nat.le_refl _) c.1 c.2.1 c.2.2 (fun j j1 j0 j2 hj => ?_)
  have e2 := hS.2.2.2.1.2 j j0 j2
  rw [show hsh A N j = msl l r by unfold hsh; rw [if_neg (by omega), if_neg (by omega), hj.1, hj.2]] at e2
  omega
