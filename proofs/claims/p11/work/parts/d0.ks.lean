def KS : Type := (Nat → Int) × (Nat → Int → Int) × (Int → Int) × (Nat → Int) × (Nat → Nat) × (Nat → Int → Option Nat)
def KS.I (s : KS) : Nat → Int := s.1
def KS.A (s : KS) : Nat → Int → Int := s.2.1
def KS.N (s : KS) : Int → Int := s.2.2.1
def KS.C (s : KS) : Nat → Int := s.2.2.2.1
def KS.P (s : KS) : Nat → Nat := s.2.2.2.2.1
def KS.T (s : KS) : Nat → Int → Option Nat := s.2.2.2.2.2
def xr_v (x : Option Nat) : Value := match x with
  | some a => .ref a
  | none => .null
def xa_r (n : Nat) (f : Int → Option Nat) : List Value := (List.range n).map (fun i : Nat => xr_v (f (i : Int)))
theorem xa_r_len (n : Nat) (f : Int → Option Nat) : (xa_r n f).length = n := by
  unfold xa_r
  rw [List.length_map, List.length_range]
theorem xa_r_get {n : Nat} {f : Int → Option Nat} {i : Nat} (h : i < n) : (xa_r n f)[i]? = some (xr_v (f (i : Int))) := by
  unfold xa_r
  rw [List.getElem?_map, List.getElem?_range h]
  rfl
def kp (c : Nat) (P : Nat → Nat) (i : Nat) : Nat := match i with
  | 0 => c + 0
  | 1 => c + 1
  | 2 => c + 3
  | 3 => c + 4
  | 4 => c + 8
  | 5 => c + 9
  | 6 => c + 10
  | 7 => c + 12
  | 8 => c + 14
  | 9 => c + 16
  | 10 => c + 17
  | 11 => c + 19
  | 12 => c + 21
  | 13 => c + 22
  | 14 => c + 23
  | 15 => c + 24
  | 16 => c + 25
  | 17 => c + 26
  | 18 => c + 28
  | 19 => c + 30
  | 20 => c + 31
  | 21 => P 0
  | 22 => P 1
  | 23 => P 2
  | 24 => P 3
  | 25 => P 4
  | 26 => P 5
  | 27 => P 6
  | 28 => P 7
  | 29 => P 8
  | 30 => P 9
  | 31 => P 10
  | 32 => P 13
  | 33 => P 14
  | 34 => P 15
  | _ => 10
def kc (c : Nat) (s : KS) (i : Nat) : xx_E := match i with
  | 0 => .inr (9, [.ref (c + 1), .ref (c + 3), .ref (c + 4), .ref (c + 9), .ref (c + 16), .ref (c + 21), .ref (c + 25), .ref (c + 30), .int (iI (s.I 20)), .int (iI (s.I 21)), .int (iI (s.I 22)), .int (iI (s.I 23)), .int (iI (s.I 24)), .int (iI (s.I 25))])
  | 1 => .inr (0, [.ref (s.P 0), .int (iI (s.I 0))])
  | 2 => .inl (.int, xa_f 5 (s.A 12))
  | 3 => .inr (1, [.ref (s.P 8), .ref (s.P 9), .ref (s.P 10), .ref (c + 8), .int (iI (s.I 8))])
  | 4 => .inl (.int, xa_f 512 (s.A 11))
  | 5 => .inr (2, [.ref (c + 4), .ref (c + 10), .ref (c + 12), .ref (c + 14), .int (iI (s.I 9)), .int (iI (s.I 10)), .int (iI (s.I 11)), .int (iI (s.I 12)), .int (iI (s.I 13))])
  | 6 => .inr (0, [.ref (s.P 1), .int (iI (s.I 1))])
  | 7 => .inr (0, [.ref (s.P 2), .int (iI (s.I 2))])
  | 8 => .inr (0, [.ref (s.P 3), .int (iI (s.I 3))])
  | 9 => .inr (3, [.ref (c + 4), .ref (c + 17), .ref (c + 19)])
  | 10 => .inr (0, [.ref (s.P 4), .int (iI (s.I 4))])
  | 11 => .inr (0, [.ref (s.P 5), .int (iI (s.I 5))])
  | 12 => .inr (5, [.ref (c + 22), .ref (c + 23), .ref (c + 24)])
  | 13 => .inr (4, [.ref (s.P 13), .int (iI (s.I 26)), .int (iI (s.I 29))])
  | 14 => .inr (4, [.ref (s.P 14), .int (iI (s.I 27)), .int (iI (s.I 30))])
  | 15 => .inr (4, [.ref (s.P 15), .int (iI (s.I 28)), .int (iI (s.I 31))])
  | 16 => .inr (6, [.ref (c + 4), .ref (c + 21), .ref (c + 26), .ref (c + 28), .int (iI (s.I 14)), .int (iI (s.I 15))])
  | 17 => .inr (0, [.ref (s.P 6), .int (iI (s.I 6))])
  | 18 => .inr (0, [.ref (s.P 7), .int (iI (s.I 7))])
  | 19 => .inr (8, [.ref (c + 4), .ref (c + 21), .ref (c + 25), .ref (c + 31), .int (iI (s.I 16)), .int (iI (s.I 17)), .int (iI (s.I 18)), .int (iI (s.I 19))])
  | 20 => .inr (7, [.ref (c + 25)])
  | 21 => .inl (.int, xa_f (s.C 0).toNat (s.A 0))
  | 22 => .inl (.int, xa_f (s.C 1).toNat (s.A 1))
  | 23 => .inl (.int, xa_f (s.C 2).toNat (s.A 2))
  | 24 => .inl (.int, xa_f (s.C 3).toNat (s.A 3))
  | 25 => .inl (.int, xa_f (s.C 4).toNat (s.A 4))
  | 26 => .inl (.int, xa_f (s.C 5).toNat (s.A 5))
  | 27 => .inl (.int, xa_f (s.C 6).toNat (s.A 6))
  | 28 => .inl (.int, xa_f (s.C 7).toNat (s.A 7))
  | 29 => .inl (.long, xa_l (s.C 8).toNat s.N)
  | 30 => .inl (.int, xa_f (s.C 9).toNat (s.A 9))
  | 31 => .inl (.int, xa_f (s.C 10).toNat (s.A 10))
  | 32 => .inl (.object "java/lang/Object", xa_r (s.C 13).toNat (s.T 13))
  | 33 => .inl (.object "java/lang/Object", xa_r (s.C 14).toNat (s.T 14))
  | 34 => .inl (.object "java/lang/Object", xa_r (s.C 15).toNat (s.T 15))
  | _ => .inl (.int, [])
def KI (c : Nat) (hp : xx_H) (s : KS) : Prop := (∀ i : Nat, i < 35 → hp[kp c s.P i]? = some (kc c s i)) ∧ (∀ i : Nat, i < 32 → 12 ≤ kp c s.P i) ∧ (∀ i j : Nat, i < 35 → j < 35 → i ≠ j → kp c s.P i ≠ kp c s.P j ∨ kp c s.P i = 10 ∧ kp c s.P j = 10) ∧ ∀ i : Nat, 32 ≤ i → i < 35 → 12 ≤ kp c s.P i ∨ kp c s.P i = 10
def kn (c : Nat) (s : KS) (p : Nat) : Prop := p < 12 ∨ ∀ i : Nat, i < 35 → kp c s.P i ≠ p
def kt (s : KS) : Int := s.C 0 + s.C 1 + s.C 2 + s.C 3 + s.C 4 + s.C 5 + s.C 6 + s.C 7 + s.C 8 + s.C 9 + s.C 10 + s.C 13 + s.C 14 + s.C 15
def kx (c : Nat) (hp : xx_H) (s : KS) (hp1 : xx_H) (s1 : KS) (a b : Int) : Prop := hp.length ≤ hp1.length ∧ (∀ p : Nat, p < hp.length → kn c s p → kn c s1 p ∧ hp1[p]? = hp[p]?) ∧ 20 * (hp1.length : Int) - kt s1 ≤ 20 * hp.length - kt s + 20 * a ∧ (xx_sz hp1 : Int) - 3 * kt s1 ≤ xx_sz hp - 3 * kt s + b
section KXS
variable {c : Nat} {hp hp1 hp2 : xx_H} {s s1 s2 : KS} {a b a1 b1 a2 b2 : Int}
theorem kx_rf : kx c hp s hp s 0 0 := ⟨Nat.le_refl _, fun _ _ q => ⟨q, rfl⟩, by omega, by omega⟩
theorem kx_tr (x : kx c hp s hp1 s1 a1 b1) (y : kx c hp1 s1 hp2 s2 a2 b2) : kx c hp s hp2 s2 (a1 + a2) (b1 + b2) := by
  obtain ⟨x1, x2, x3, x4⟩ := x
  obtain ⟨y1, y2, y3, y4⟩ := y
  refine ⟨by omega, fun p q r => ?_, by omega, by omega⟩
  have u := x2 p q r
  have w := y2 p (by omega) u.1
  exact ⟨w.1, w.2.trans u.2⟩
theorem kx_w (x : kx c hp s hp1 s1 a b) (ha : a ≤ a1) (hb : b ≤ b1) : kx c hp s hp1 s1 a1 b1 := ⟨x.1, x.2.1, by have := x.2.2.1; omega, by have := x.2.2.2; omega⟩
theorem ki_lt (h : KI c hp s) {i : Nat} (hi : i < 35) : kp c s.P i < hp.length := (List.getElem?_eq_some_iff.mp (h.1 i hi)).1
theorem ki_set {i : Nat} {e : xx_E} (h : KI c hp s) (hi : i < 35) (h12 : 12 ≤ kp c s.P i) (hP : s1.P = s.P) (hC : kt s1 = kt s) (he : kc c s1 i = e) (hj : ∀ j : Nat, j < 35 → j ≠ i → kc c s1 j = kc c s j) (hz : xx_sz1 e = xx_sz1 (kc c s i)) : KI c (hp.set (kp c s.P i) e) s1 ∧ kx c hp s (hp.set (kp c s.P i) e) s1 0 0 := by
  obtain ⟨h1, h2, h3, h4⟩ := h
  have lt := (List.getElem?_eq_some_iff.mp (h1 i hi)).1
  refine ⟨⟨fun j hj2 => ?_, by rw [hP]; exact h2, by rw [hP]; exact h3, by rw [hP]; exact h4⟩, by rw [List.length_set]; exact Nat.le_refl _, fun p q r => ⟨?_, ?_⟩, by rw [List.length_set, hC]; omega, by rw [xx_sz_set (h1 i hi) hz, hC]; omega⟩
  · rw [hP]
    by_cases ej : j = i
    · rw [ej, List.getElem?_set_self lt, he]
    · rw [List.getElem?_set_ne (by have := h3 i j hi hj2 (fun z => ej z.symm); omega), h1 j hj2, hj j hj2 ej]
  · unfold kn
    rw [hP]
    exact r
  · refine List.getElem?_set_ne ?_
    rcases r with r | r
    · omega
    · exact r i hi
theorem ki_app {e : xx_E} (h : KI c hp s) : KI c (hp ++ [e]) s ∧ kx c hp s (hp ++ [e]) s 1 (xx_sz1 e) ∧ kn c s hp.length := by
  have L : ∀ p : Nat, p < hp.length → (hp ++ [e])[p]? = hp[p]? := fun p q => List.getElem?_append_left q
  refine ⟨⟨fun i hi => by rw [L _ (ki_lt h hi)]; exact h.1 i hi, h.2⟩, ⟨by rw [List.length_append]; omega, fun p q r => ⟨r, L p q⟩, ?_, ?_⟩, Or.inr (fun i hi q => absurd (ki_lt h hi) (by omega))⟩
  · rw [List.length_append]
    show 20 * ((hp.length + 1 : Nat) : Int) - kt s ≤ _
    omega
  · rw [xx_sz_app]
    omega
end KXS
