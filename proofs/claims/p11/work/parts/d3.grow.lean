section KGS
variable {z : Value} {c : Nat} {hp hp0 : xx_H} {s s1 s0 : KS} {a b : Int} {d k pc n : Nat} {ls : xx_L} {r : List Value} {Q : Option Value → xx_H → Prop} {m : Int} {g : Int → Int}
theorem ki_12 (h : KI c hp s) : 12 ≤ c ∧ 12 ≤ hp.length := by
  have a : 12 ≤ c + 0 := h.2.1 0 (by decide)
  have b : c + 0 < hp.length := ki_lt h (i := 0) (by decide)
  omega
theorem ki_grow {i i0 : Nat} {e e0 : xx_E} (h : KI c hp s) (hi : i < 35) (hi0 : i0 < 35) (ne : i0 ≠ i) (h12 : 12 ≤ kp c s.P i0) (hP : ∀ j : Nat, j < 35 → j ≠ i → kp c s1.P j = kp c s.P j) (hPi : kp c s1.P i = hp.length) (he : kc c s1 i = e) (he0 : kc c s1 i0 = e0) (hj : ∀ j : Nat, j < 35 → j ≠ i → j ≠ i0 → kc c s1 j = kc c s j) (hz : xx_sz1 e0 = xx_sz1 (kc c s i0)) : KI c ((hp ++ [e]).set (kp c s.P i0) e0) s1 ∧ (∀ α β : Int, 20 + kt s - kt s1 ≤ 20 * α → (xx_sz1 e : Int) + 3 * kt s - 3 * kt s1 ≤ β → kx c hp s ((hp ++ [e]).set (kp c s.P i0) e0) s1 α β) := by
  have hl := (ki_12 h).2
  have lt : ∀ j : Nat, j < 35 → kp c s.P j < hp.length := fun j q => ki_lt h q
  obtain ⟨h1, h2, h3, h4⟩ := h
  have h10 : (hp ++ [e])[kp c s.P i0]? = some (kc c s i0) := by rw [List.getElem?_append_left (lt i0 hi0)]; exact h1 i0 hi0
  refine ⟨⟨fun j q => ?_, fun j q => ?_, fun j l q1 q2 q3 => ?_, fun j q1 q2 => ?_⟩, fun α β hα hβ => ⟨by rw [List.length_set, List.length_append]; omega, fun p q w => ⟨?_, ?_⟩, by rw [List.length_set, List.length_append]; show 20 * ((hp.length + 1 : Nat) : Int) - _ ≤ _; omega, by rw [xx_sz_set h10 hz, xx_sz_app]; omega⟩⟩
  · by_cases c1 : j = i
    · rw [c1, hPi, List.getElem?_set_ne (by have := lt i0 hi0; omega), app_self, he]
    · rw [hP j q c1]
      by_cases c2 : j = i0
      · rw [c2, List.getElem?_set_self (by rw [List.length_append]; have := lt i0 hi0; omega), he0]
      · rw [List.getElem?_set_ne (by have := h3 i0 j hi0 q (fun w => c2 w.symm); omega), List.getElem?_append_left (lt j q), h1 j q, hj j q c1 c2]
  · by_cases c1 : j = i
    · rw [c1, hPi]
      exact hl
    · rw [hP j (by omega) c1]
      exact h2 j q
  · by_cases c1 : j = i
    · have c2 : l ≠ i := fun w => q3 (c1.trans w.symm)
      have := lt l q2
      rw [c1, hPi, hP l q2 c2]
      omega
    · by_cases c2 : l = i
      · have := lt j q1
        rw [c2, hPi, hP j q1 c1]
        omega
      · rw [hP j q1 c1, hP l q2 c2]
        exact h3 j l q1 q2 q3
  · by_cases c1 : j = i
    · rw [c1, hPi]
      exact Or.inl hl
    · rw [hP j q2 c1]
      exact h4 j q1 q2
  · rcases w with w | w
    · exact Or.inl w
    · refine Or.inr (fun j q2 => ?_)
      by_cases c1 : j = i
      · rw [c1, hPi]
        omega
      · rw [hP j q2 c1]
        exact w j q2
  · rw [List.getElem?_set_ne ?_, List.getElem?_append_left q]
    rcases w with w | w
    · omega
    · exact w i0 hi0
def un (P : Nat → Nat) (j q : Nat) : Nat → Nat := fun i => match Nat.beq i j with
  | true => q
  | false => P i
def KS.wG (s : KS) (j : Nat) (m : Int) (g : Int → Int) (q : Nat) : KS := (s.I, sw s.A j g, s.N, su s.C j m, un s.P j q, s.T)
def KS.wH (s : KS) (m : Int) (g : Int → Int) (q : Nat) : KS := (s.I, s.A, g, su s.C 8 m, un s.P 8 q, s.T)
theorem kgrow_0 (hK : KI c hp s) (hX : kx c hp0 s0 hp s a b) (hc : xp_code (xt_P z) k pc = some (.putfield n)) (hf : xp_fld (xt_P z) (xp_own (xt_P z) k) n 0 = some 0) (m0 : 0 ≤ m) (hm : 3 * s.C 0 ≤ 2 * m) (hm2 : s.C 0 + 20 ≤ m) (hg : ∀ hp1 : xx_H, KI c hp1 (s.wG 0 m g hp.length) → kx c hp0 s0 hp1 (s.wG 0 m g hp.length) a b → xx_go (xt_P z) d k (pc + 3) ls r hp1 Q) : xx_go (xt_P z) d k pc ls (.ref hp.length :: .ref (c + 1) :: r) (hp ++ [.inl (.int, xa_f m.toNat g)]) Q := by
  have q := ki_grow (i := 21) (i0 := 1) (e := .inl (.int, xa_f m.toNat g)) (s1 := s.wG 0 m g hp.length) hK (by decide) (by decide) (by decide) (hK.2.1 1 (by decide)) (fun j hj n0 => match j, hj, n0 with
    | 0, _, _ => rfl
    | 1, _, _ => rfl
    | 2, _, _ => rfl
    | 3, _, _ => rfl
    | 4, _, _ => rfl
    | 5, _, _ => rfl
    | 6, _, _ => rfl
    | 7, _, _ => rfl
    | 8, _, _ => rfl
    | 9, _, _ => rfl
    | 10, _, _ => rfl
    | 11, _, _ => rfl
    | 12, _, _ => rfl
    | 13, _, _ => rfl
    | 14, _, _ => rfl
    | 15, _, _ => rfl
    | 16, _, _ => rfl
    | 17, _, _ => rfl
    | 18, _, _ => rfl
    | 19, _, _ => rfl
    | 20, _, _ => rfl
    | 21, _, ne => absurd rfl ne
    | 22, _, _ => rfl
    | 23, _, _ => rfl
    | 24, _, _ => rfl
    | 25, _, _ => rfl
    | 26, _, _ => rfl
    | 27, _, _ => rfl
    | 28, _, _ => rfl
    | 29, _, _ => rfl
    | 30, _, _ => rfl
    | 31, _, _ => rfl
    | 32, _, _ => rfl
    | 33, _, _ => rfl
    | 34, _, _ => rfl
    | j + 35, hj, _ => absurd hj (by omega)) rfl rfl rfl (fun j hj n0 n1 => match j, hj, n0, n1 with
    | 0, _, _, _ => rfl
    | 1, _, _, ne => absurd rfl ne
    | 2, _, _, _ => rfl
    | 3, _, _, _ => rfl
    | 4, _, _, _ => rfl
    | 5, _, _, _ => rfl
    | 6, _, _, _ => rfl
    | 7, _, _, _ => rfl
    | 8, _, _, _ => rfl
    | 9, _, _, _ => rfl
    | 10, _, _, _ => rfl
    | 11, _, _, _ => rfl
    | 12, _, _, _ => rfl
    | 13, _, _, _ => rfl
    | 14, _, _, _ => rfl
    | 15, _, _, _ => rfl
    | 16, _, _, _ => rfl
    | 17, _, _, _ => rfl
    | 18, _, _, _ => rfl
    | 19, _, _, _ => rfl
    | 20, _, _, _ => rfl
    | 21, _, ne, _ => absurd rfl ne
    | 22, _, _, _ => rfl
    | 23, _, _, _ => rfl
    | 24, _, _, _ => rfl
    | 25, _, _, _ => rfl
    | 26, _, _, _ => rfl
    | 27, _, _, _ => rfl
    | 28, _, _, _ => rfl
    | 29, _, _, _ => rfl
    | 30, _, _, _ => rfl
    | 31, _, _, _ => rfl
    | 32, _, _, _ => rfl
    | 33, _, _, _ => rfl
    | 34, _, _, _ => rfl
    | j + 35, hj, _, _ => absurd hj (by omega)) rfl
  have ct : kt (s.wG 0 m g hp.length) = kt s + m - s.C 0 := by
    show m + s.C 1 + s.C 2 + s.C 3 + s.C 4 + s.C 5 + s.C 6 + s.C 7 + s.C 8 + s.C 9 + s.C 10 + s.C 13 + s.C 14 + s.C 15 = kt s + m - s.C 0
    unfold kt
    omega
  refine go_put (j := 0) hc (app_old (hK.1 1 (by decide))) hf rfl (hK.2.1 1 (by decide)) (show 0 < 2 by decide) rfl rfl (hg _ q.1 (kx_w (kx_tr hX (q.2 0 0 (by rw [ct]; omega) ?_)) (by omega) (by omega)))
  rw [ct, show (xx_sz1 (.inl (.int, xa_f m.toNat g)) : Int) = (xa_f m.toNat g).length from rfl, xa_f_len]
  omega
theorem kgrow_1 (hK : KI c hp s) (hX : kx c hp0 s0 hp s a b) (hc : xp_code (xt_P z) k pc = some (.putfield n)) (hf : xp_fld (xt_P z) (xp_own (xt_P z) k) n 0 = some 0) (m0 : 0 ≤ m) (hm : 3 * s.C 1 ≤ 2 * m) (hm2 : s.C 1 + 20 ≤ m) (hg : ∀ hp1 : xx_H, KI c hp1 (s.wG 1 m g hp.length) → kx c hp0 s0 hp1 (s.wG 1 m g hp.length) a b → xx_go (xt_P z) d k (pc + 3) ls r hp1 Q) : xx_go (xt_P z) d k pc ls (.ref hp.length :: .ref (c + 10) :: r) (hp ++ [.inl (.int, xa_f m.toNat g)]) Q := by
  have q := ki_grow (i := 22) (i0 := 6) (e := .inl (.int, xa_f m.toNat g)) (s1 := s.wG 1 m g hp.length) hK (by decide) (by decide) (by decide) (hK.2.1 6 (by decide)) (fun j hj n0 => match j, hj, n0 with
    | 0, _, _ => rfl
    | 1, _, _ => rfl
    | 2, _, _ => rfl
    | 3, _, _ => rfl
    | 4, _, _ => rfl
    | 5, _, _ => rfl
    | 6, _, _ => rfl
    | 7, _, _ => rfl
    | 8, _, _ => rfl
    | 9, _, _ => rfl
    | 10, _, _ => rfl
    | 11, _, _ => rfl
    | 12, _, _ => rfl
    | 13, _, _ => rfl
    | 14, _, _ => rfl
    | 15, _, _ => rfl
    | 16, _, _ => rfl
    | 17, _, _ => rfl
    | 18, _, _ => rfl
    | 19, _, _ => rfl
    | 20, _, _ => rfl
    | 21, _, _ => rfl
    | 22, _, ne => absurd rfl ne
    | 23, _, _ => rfl
    | 24, _, _ => rfl
    | 25, _, _ => rfl
    | 26, _, _ => rfl
    | 27, _, _ => rfl
    | 28, _, _ => rfl
    | 29, _, _ => rfl
    | 30, _, _ => rfl
    | 31, _, _ => rfl
    | 32, _, _ => rfl
    | 33, _, _ => rfl
    | 34, _, _ => rfl
    | j + 35, hj, _ => absurd hj (by omega)) rfl rfl rfl (fun j hj n0 n1 => match j, hj, n0, n1 with
    | 0, _, _, _ => rfl
    | 1, _, _, _ => rfl
    | 2, _, _, _ => rfl
    | 3, _, _, _ => rfl
    | 4, _, _, _ => rfl
    | 5, _, _, _ => rfl
    | 6, _, _, ne => absurd rfl ne
    | 7, _, _, _ => rfl
    | 8, _, _, _ => rfl
    | 9, _, _, _ => rfl
    | 10, _, _, _ => rfl
    | 11, _, _, _ => rfl
    | 12, _, _, _ => rfl
    | 13, _, _, _ => rfl
    | 14, _, _, _ => rfl
    | 15, _, _, _ => rfl
    | 16, _, _, _ => rfl
    | 17, _, _, _ => rfl
    | 18, _, _, _ => rfl
    | 19, _, _, _ => rfl
    | 20, _, _, _ => rfl
    | 21, _, _, _ => rfl
    | 22, _, ne, _ => absurd rfl ne
    | 23, _, _, _ => rfl
    | 24, _, _, _ => rfl
    | 25, _, _, _ => rfl
    | 26, _, _, _ => rfl
    | 27, _, _, _ => rfl
    | 28, _, _, _ => rfl
    | 29, _, _, _ => rfl
    | 30, _, _, _ => rfl
    | 31, _, _, _ => rfl
    | 32, _, _, _ => rfl
    | 33, _, _, _ => rfl
    | 34, _, _, _ => rfl
    | j + 35, hj, _, _ => absurd hj (by omega)) rfl
  have ct : kt (s.wG 1 m g hp.length) = kt s + m - s.C 1 := by
    show s.C 0 + m + s.C 2 + s.C 3 + s.C 4 + s.C 5 + s.C 6 + s.C 7 + s.C 8 + s.C 9 + s.C 10 + s.C 13 + s.C 14 + s.C 15 = kt s + m - s.C 1
    unfold kt
    omega
  refine go_put (j := 0) hc (app_old (hK.1 6 (by decide))) hf rfl (hK.2.1 6 (by decide)) (show 0 < 2 by decide) rfl rfl (hg _ q.1 (kx_w (kx_tr hX (q.2 0 0 (by rw [ct]; omega) ?_)) (by omega) (by omega)))
  rw [ct, show (xx_sz1 (.inl (.int, xa_f m.toNat g)) : Int) = (xa_f m.toNat g).length from rfl, xa_f_len]
  omega
theorem kgrow_2 (hK : KI c hp s) (hX : kx c hp0 s0 hp s a b) (hc : xp_code (xt_P z) k pc = some (.putfield n)) (hf : xp_fld (xt_P z) (xp_own (xt_P z) k) n 0 = some 0) (m0 : 0 ≤ m) (hm : 3 * s.C 2 ≤ 2 * m) (hm2 : s.C 2 + 20 ≤ m) (hg : ∀ hp1 : xx_H, KI c hp1 (s.wG 2 m g hp.length) → kx c hp0 s0 hp1 (s.wG 2 m g hp.length) a b → xx_go (xt_P z) d k (pc + 3) ls r hp1 Q) : xx_go (xt_P z) d k pc ls (.ref hp.length :: .ref (c + 12) :: r) (hp ++ [.inl (.int, xa_f m.toNat g)]) Q := by
  have q := ki_grow (i := 23) (i0 := 7) (e := .inl (.int, xa_f m.toNat g)) (s1 := s.wG 2 m g hp.length) hK (by decide) (by decide) (by decide) (hK.2.1 7 (by decide)) (fun j hj n0 => match j, hj, n0 with
    | 0, _, _ => rfl
    | 1, _, _ => rfl
    | 2, _, _ => rfl
    | 3, _, _ => rfl
    | 4, _, _ => rfl
    | 5, _, _ => rfl
    | 6, _, _ => rfl
    | 7, _, _ => rfl
    | 8, _, _ => rfl
    | 9, _, _ => rfl
    | 10, _, _ => rfl
    | 11, _, _ => rfl
    | 12, _, _ => rfl
    | 13, _, _ => rfl
    | 14, _, _ => rfl
    | 15, _, _ => rfl
    | 16, _, _ => rfl
    | 17, _, _ => rfl
    | 18, _, _ => rfl
    | 19, _, _ => rfl
    | 20, _, _ => rfl
    | 21, _, _ => rfl
    | 22, _, _ => rfl
    | 23, _, ne => absurd rfl ne
    | 24, _, _ => rfl
    | 25, _, _ => rfl
    | 26, _, _ => rfl
    | 27, _, _ => rfl
    | 28, _, _ => rfl
    | 29, _, _ => rfl
    | 30, _, _ => rfl
    | 31, _, _ => rfl
    | 32, _, _ => rfl
    | 33, _, _ => rfl
    | 34, _, _ => rfl
    | j + 35, hj, _ => absurd hj (by omega)) rfl rfl rfl (fun j hj n0 n1 => match j, hj, n0, n1 with
    | 0, _, _, _ => rfl
    | 1, _, _, _ => rfl
    | 2, _, _, _ => rfl
    | 3, _, _, _ => rfl
    | 4, _, _, _ => rfl
    | 5, _, _, _ => rfl
    | 6, _, _, _ => rfl
    | 7, _, _, ne => absurd rfl ne
    | 8, _, _, _ => rfl
    | 9, _, _, _ => rfl
    | 10, _, _, _ => rfl
    | 11, _, _, _ => rfl
    | 12, _, _, _ => rfl
    | 13, _, _, _ => rfl
    | 14, _, _, _ => rfl
    | 15, _, _, _ => rfl
    | 16, _, _, _ => rfl
    | 17, _, _, _ => rfl
    | 18, _, _, _ => rfl
    | 19, _, _, _ => rfl
    | 20, _, _, _ => rfl
    | 21, _, _, _ => rfl
    | 22, _, _, _ => rfl
    | 23, _, ne, _ => absurd rfl ne
    | 24, _, _, _ => rfl
    | 25, _, _, _ => rfl
    | 26, _, _, _ => rfl
    | 27, _, _, _ => rfl
    | 28, _, _, _ => rfl
    | 29, _, _, _ => rfl
    | 30, _, _, _ => rfl
    | 31, _, _, _ => rfl
    | 32, _, _, _ => rfl
    | 33, _, _, _ => rfl
    | 34, _, _, _ => rfl
    | j + 35, hj, _, _ => absurd hj (by omega)) rfl
  have ct : kt (s.wG 2 m g hp.length) = kt s + m - s.C 2 := by
    show s.C 0 + s.C 1 + m + s.C 3 + s.C 4 + s.C 5 + s.C 6 + s.C 7 + s.C 8 + s.C 9 + s.C 10 + s.C 13 + s.C 14 + s.C 15 = kt s + m - s.C 2
    unfold kt
    omega
  refine go_put (j := 0) hc (app_old (hK.1 7 (by decide))) hf rfl (hK.2.1 7 (by decide)) (show 0 < 2 by decide) rfl rfl (hg _ q.1 (kx_w (kx_tr hX (q.2 0 0 (by rw [ct]; omega) ?_)) (by omega) (by omega)))
  rw [ct, show (xx_sz1 (.inl (.int, xa_f m.toNat g)) : Int) = (xa_f m.toNat g).length from rfl, xa_f_len]
  omega
theorem kgrow_3 (hK : KI c hp s) (hX : kx c hp0 s0 hp s a b) (hc : xp_code (xt_P z) k pc = some (.putfield n)) (hf : xp_fld (xt_P z) (xp_own (xt_P z) k) n 0 = some 0) (m0 : 0 ≤ m) (hm : 3 * s.C 3 ≤ 2 * m) (hm2 : s.C 3 + 20 ≤ m) (hg : ∀ hp1 : xx_H, KI c hp1 (s.wG 3 m g hp.length) → kx c hp0 s0 hp1 (s.wG 3 m g hp.length) a b → xx_go (xt_P z) d k (pc + 3) ls r hp1 Q) : xx_go (xt_P z) d k pc ls (.ref hp.length :: .ref (c + 14) :: r) (hp ++ [.inl (.int, xa_f m.toNat g)]) Q := by
  have q := ki_grow (i := 24) (i0 := 8) (e := .inl (.int, xa_f m.toNat g)) (s1 := s.wG 3 m g hp.length) hK (by decide) (by decide) (by decide) (hK.2.1 8 (by decide)) (fun j hj n0 => match j, hj, n0 with
    | 0, _, _ => rfl
    | 1, _, _ => rfl
    | 2, _, _ => rfl
    | 3, _, _ => rfl
    | 4, _, _ => rfl
    | 5, _, _ => rfl
    | 6, _, _ => rfl
    | 7, _, _ => rfl
    | 8, _, _ => rfl
    | 9, _, _ => rfl
    | 10, _, _ => rfl
    | 11, _, _ => rfl
    | 12, _, _ => rfl
    | 13, _, _ => rfl
    | 14, _, _ => rfl
    | 15, _, _ => rfl
    | 16, _, _ => rfl
    | 17, _, _ => rfl
    | 18, _, _ => rfl
    | 19, _, _ => rfl
    | 20, _, _ => rfl
    | 21, _, _ => rfl
    | 22, _, _ => rfl
    | 23, _, _ => rfl
    | 24, _, ne => absurd rfl ne
    | 25, _, _ => rfl
    | 26, _, _ => rfl
    | 27, _, _ => rfl
    | 28, _, _ => rfl
    | 29, _, _ => rfl
    | 30, _, _ => rfl
    | 31, _, _ => rfl
    | 32, _, _ => rfl
    | 33, _, _ => rfl
    | 34, _, _ => rfl
    | j + 35, hj, _ => absurd hj (by omega)) rfl rfl rfl (fun j hj n0 n1 => match j, hj, n0, n1 with
    | 0, _, _, _ => rfl
    | 1, _, _, _ => rfl
    | 2, _, _, _ => rfl
    | 3, _, _, _ => rfl
    | 4, _, _, _ => rfl
    | 5, _, _, _ => rfl
    | 6, _, _, _ => rfl
    | 7, _, _, _ => rfl
    | 8, _, _, ne => absurd rfl ne
    | 9, _, _, _ => rfl
    | 10, _, _, _ => rfl
    | 11, _, _, _ => rfl
    | 12, _, _, _ => rfl
    | 13, _, _, _ => rfl
    | 14, _, _, _ => rfl
    | 15, _, _, _ => rfl
    | 16, _, _, _ => rfl
    | 17, _, _, _ => rfl
    | 18, _, _, _ => rfl
    | 19, _, _, _ => rfl
    | 20, _, _, _ => rfl
    | 21, _, _, _ => rfl
    | 22, _, _, _ => rfl
    | 23, _, _, _ => rfl
    | 24, _, ne, _ => absurd rfl ne
    | 25, _, _, _ => rfl
    | 26, _, _, _ => rfl
    | 27, _, _, _ => rfl
    | 28, _, _, _ => rfl
    | 29, _, _, _ => rfl
    | 30, _, _, _ => rfl
    | 31, _, _, _ => rfl
    | 32, _, _, _ => rfl
    | 33, _, _, _ => rfl
    | 34, _, _, _ => rfl
    | j + 35, hj, _, _ => absurd hj (by omega)) rfl
  have ct : kt (s.wG 3 m g hp.length) = kt s + m - s.C 3 := by
    show s.C 0 + s.C 1 + s.C 2 + m + s.C 4 + s.C 5 + s.C 6 + s.C 7 + s.C 8 + s.C 9 + s.C 10 + s.C 13 + s.C 14 + s.C 15 = kt s + m - s.C 3
    unfold kt
    omega
  refine go_put (j := 0) hc (app_old (hK.1 8 (by decide))) hf rfl (hK.2.1 8 (by decide)) (show 0 < 2 by decide) rfl rfl (hg _ q.1 (kx_w (kx_tr hX (q.2 0 0 (by rw [ct]; omega) ?_)) (by omega) (by omega)))
  rw [ct, show (xx_sz1 (.inl (.int, xa_f m.toNat g)) : Int) = (xa_f m.toNat g).length from rfl, xa_f_len]
  omega
theorem kgrow_4 (hK : KI c hp s) (hX : kx c hp0 s0 hp s a b) (hc : xp_code (xt_P z) k pc = some (.putfield n)) (hf : xp_fld (xt_P z) (xp_own (xt_P z) k) n 0 = some 0) (m0 : 0 ≤ m) (hm : 3 * s.C 4 ≤ 2 * m) (hm2 : s.C 4 + 20 ≤ m) (hg : ∀ hp1 : xx_H, KI c hp1 (s.wG 4 m g hp.length) → kx c hp0 s0 hp1 (s.wG 4 m g hp.length) a b → xx_go (xt_P z) d k (pc + 3) ls r hp1 Q) : xx_go (xt_P z) d k pc ls (.ref hp.length :: .ref (c + 17) :: r) (hp ++ [.inl (.int, xa_f m.toNat g)]) Q := by
  have q := ki_grow (i := 25) (i0 := 10) (e := .inl (.int, xa_f m.toNat g)) (s1 := s.wG 4 m g hp.length) hK (by decide) (by decide) (by decide) (hK.2.1 10 (by decide)) (fun j hj n0 => match j, hj, n0 with
    | 0, _, _ => rfl
    | 1, _, _ => rfl
    | 2, _, _ => rfl
    | 3, _, _ => rfl
    | 4, _, _ => rfl
    | 5, _, _ => rfl
    | 6, _, _ => rfl
    | 7, _, _ => rfl
    | 8, _, _ => rfl
    | 9, _, _ => rfl
    | 10, _, _ => rfl
    | 11, _, _ => rfl
    | 12, _, _ => rfl
    | 13, _, _ => rfl
    | 14, _, _ => rfl
    | 15, _, _ => rfl
    | 16, _, _ => rfl
    | 17, _, _ => rfl
    | 18, _, _ => rfl
    | 19, _, _ => rfl
    | 20, _, _ => rfl
    | 21, _, _ => rfl
    | 22, _, _ => rfl
    | 23, _, _ => rfl
    | 24, _, _ => rfl
    | 25, _, ne => absurd rfl ne
    | 26, _, _ => rfl
    | 27, _, _ => rfl
    | 28, _, _ => rfl
    | 29, _, _ => rfl
    | 30, _, _ => rfl
    | 31, _, _ => rfl
    | 32, _, _ => rfl
    | 33, _, _ => rfl
    | 34, _, _ => rfl
    | j + 35, hj, _ => absurd hj (by omega)) rfl rfl rfl (fun j hj n0 n1 => match j, hj, n0, n1 with
    | 0, _, _, _ => rfl
    | 1, _, _, _ => rfl
    | 2, _, _, _ => rfl
    | 3, _, _, _ => rfl
    | 4, _, _, _ => rfl
    | 5, _, _, _ => rfl
    | 6, _, _, _ => rfl
    | 7, _, _, _ => rfl
    | 8, _, _, _ => rfl
    | 9, _, _, _ => rfl
    | 10, _, _, ne => absurd rfl ne
    | 11, _, _, _ => rfl
    | 12, _, _, _ => rfl
    | 13, _, _, _ => rfl
    | 14, _, _, _ => rfl
    | 15, _, _, _ => rfl
    | 16, _, _, _ => rfl
    | 17, _, _, _ => rfl
    | 18, _, _, _ => rfl
    | 19, _, _, _ => rfl
    | 20, _, _, _ => rfl
    | 21, _, _, _ => rfl
    | 22, _, _, _ => rfl
    | 23, _, _, _ => rfl
    | 24, _, _, _ => rfl
    | 25, _, ne, _ => absurd rfl ne
    | 26, _, _, _ => rfl
    | 27, _, _, _ => rfl
    | 28, _, _, _ => rfl
    | 29, _, _, _ => rfl
    | 30, _, _, _ => rfl
    | 31, _, _, _ => rfl
    | 32, _, _, _ => rfl
    | 33, _, _, _ => rfl
    | 34, _, _, _ => rfl
    | j + 35, hj, _, _ => absurd hj (by omega)) rfl
  have ct : kt (s.wG 4 m g hp.length) = kt s + m - s.C 4 := by
    show s.C 0 + s.C 1 + s.C 2 + s.C 3 + m + s.C 5 + s.C 6 + s.C 7 + s.C 8 + s.C 9 + s.C 10 + s.C 13 + s.C 14 + s.C 15 = kt s + m - s.C 4
    unfold kt
    omega
  refine go_put (j := 0) hc (app_old (hK.1 10 (by decide))) hf rfl (hK.2.1 10 (by decide)) (show 0 < 2 by decide) rfl rfl (hg _ q.1 (kx_w (kx_tr hX (q.2 0 0 (by rw [ct]; omega) ?_)) (by omega) (by omega)))
  rw [ct, show (xx_sz1 (.inl (.int, xa_f m.toNat g)) : Int) = (xa_f m.toNat g).length from rfl, xa_f_len]
  omega
theorem kgrow_5 (hK : KI c hp s) (hX : kx c hp0 s0 hp s a b) (hc : xp_code (xt_P z) k pc = some (.putfield n)) (hf : xp_fld (xt_P z) (xp_own (xt_P z) k) n 0 = some 0) (m0 : 0 ≤ m) (hm : 3 * s.C 5 ≤ 2 * m) (hm2 : s.C 5 + 20 ≤ m) (hg : ∀ hp1 : xx_H, KI c hp1 (s.wG 5 m g hp.length) → kx c hp0 s0 hp1 (s.wG 5 m g hp.length) a b → xx_go (xt_P z) d k (pc + 3) ls r hp1 Q) : xx_go (xt_P z) d k pc ls (.ref hp.length :: .ref (c + 19) :: r) (hp ++ [.inl (.int, xa_f m.toNat g)]) Q := by
  have q := ki_grow (i := 26) (i0 := 11) (e := .inl (.int, xa_f m.toNat g)) (s1 := s.wG 5 m g hp.length) hK (by decide) (by decide) (by decide) (hK.2.1 11 (by decide)) (fun j hj n0 => match j, hj, n0 with
    | 0, _, _ => rfl
    | 1, _, _ => rfl
    | 2, _, _ => rfl
    | 3, _, _ => rfl
    | 4, _, _ => rfl
    | 5, _, _ => rfl
    | 6, _, _ => rfl
    | 7, _, _ => rfl
    | 8, _, _ => rfl
    | 9, _, _ => rfl
    | 10, _, _ => rfl
    | 11, _, _ => rfl
    | 12, _, _ => rfl
    | 13, _, _ => rfl
    | 14, _, _ => rfl
    | 15, _, _ => rfl
    | 16, _, _ => rfl
    | 17, _, _ => rfl
    | 18, _, _ => rfl
    | 19, _, _ => rfl
    | 20, _, _ => rfl
    | 21, _, _ => rfl
    | 22, _, _ => rfl
    | 23, _, _ => rfl
    | 24, _, _ => rfl
    | 25, _, _ => rfl
    | 26, _, ne => absurd rfl ne
    | 27, _, _ => rfl
    | 28, _, _ => rfl
    | 29, _, _ => rfl
    | 30, _, _ => rfl
    | 31, _, _ => rfl
    | 32, _, _ => rfl
    | 33, _, _ => rfl
    | 34, _, _ => rfl
    | j + 35, hj, _ => absurd hj (by omega)) rfl rfl rfl (fun j hj n0 n1 => match j, hj, n0, n1 with
    | 0, _, _, _ => rfl
    | 1, _, _, _ => rfl
    | 2, _, _, _ => rfl
    | 3, _, _, _ => rfl
    | 4, _, _, _ => rfl
    | 5, _, _, _ => rfl
    | 6, _, _, _ => rfl
    | 7, _, _, _ => rfl
    | 8, _, _, _ => rfl
    | 9, _, _, _ => rfl
    | 10, _, _, _ => rfl
    | 11, _, _, ne => absurd rfl ne
    | 12, _, _, _ => rfl
    | 13, _, _, _ => rfl
    | 14, _, _, _ => rfl
    | 15, _, _, _ => rfl
    | 16, _, _, _ => rfl
    | 17, _, _, _ => rfl
    | 18, _, _, _ => rfl
    | 19, _, _, _ => rfl
    | 20, _, _, _ => rfl
    | 21, _, _, _ => rfl
    | 22, _, _, _ => rfl
    | 23, _, _, _ => rfl
    | 24, _, _, _ => rfl
    | 25, _, _, _ => rfl
    | 26, _, ne, _ => absurd rfl ne
    | 27, _, _, _ => rfl
    | 28, _, _, _ => rfl
    | 29, _, _, _ => rfl
    | 30, _, _, _ => rfl
    | 31, _, _, _ => rfl
    | 32, _, _, _ => rfl
    | 33, _, _, _ => rfl
    | 34, _, _, _ => rfl
    | j + 35, hj, _, _ => absurd hj (by omega)) rfl
  have ct : kt (s.wG 5 m g hp.length) = kt s + m - s.C 5 := by
    show s.C 0 + s.C 1 + s.C 2 + s.C 3 + s.C 4 + m + s.C 6 + s.C 7 + s.C 8 + s.C 9 + s.C 10 + s.C 13 + s.C 14 + s.C 15 = kt s + m - s.C 5
    unfold kt
    omega
  refine go_put (j := 0) hc (app_old (hK.1 11 (by decide))) hf rfl (hK.2.1 11 (by decide)) (show 0 < 2 by decide) rfl rfl (hg _ q.1 (kx_w (kx_tr hX (q.2 0 0 (by rw [ct]; omega) ?_)) (by omega) (by omega)))
  rw [ct, show (xx_sz1 (.inl (.int, xa_f m.toNat g)) : Int) = (xa_f m.toNat g).length from rfl, xa_f_len]
  omega
theorem kgrow_6 (hK : KI c hp s) (hX : kx c hp0 s0 hp s a b) (hc : xp_code (xt_P z) k pc = some (.putfield n)) (hf : xp_fld (xt_P z) (xp_own (xt_P z) k) n 0 = some 0) (m0 : 0 ≤ m) (hm : 3 * s.C 6 ≤ 2 * m) (hm2 : s.C 6 + 20 ≤ m) (hg : ∀ hp1 : xx_H, KI c hp1 (s.wG 6 m g hp.length) → kx c hp0 s0 hp1 (s.wG 6 m g hp.length) a b → xx_go (xt_P z) d k (pc + 3) ls r hp1 Q) : xx_go (xt_P z) d k pc ls (.ref hp.length :: .ref (c + 26) :: r) (hp ++ [.inl (.int, xa_f m.toNat g)]) Q := by
  have q := ki_grow (i := 27) (i0 := 17) (e := .inl (.int, xa_f m.toNat g)) (s1 := s.wG 6 m g hp.length) hK (by decide) (by decide) (by decide) (hK.2.1 17 (by decide)) (fun j hj n0 => match j, hj, n0 with
    | 0, _, _ => rfl
    | 1, _, _ => rfl
    | 2, _, _ => rfl
    | 3, _, _ => rfl
    | 4, _, _ => rfl
    | 5, _, _ => rfl
    | 6, _, _ => rfl
    | 7, _, _ => rfl
    | 8, _, _ => rfl
    | 9, _, _ => rfl
    | 10, _, _ => rfl
    | 11, _, _ => rfl
    | 12, _, _ => rfl
    | 13, _, _ => rfl
    | 14, _, _ => rfl
    | 15, _, _ => rfl
    | 16, _, _ => rfl
    | 17, _, _ => rfl
    | 18, _, _ => rfl
    | 19, _, _ => rfl
    | 20, _, _ => rfl
    | 21, _, _ => rfl
    | 22, _, _ => rfl
    | 23, _, _ => rfl
    | 24, _, _ => rfl
    | 25, _, _ => rfl
    | 26, _, _ => rfl
    | 27, _, ne => absurd rfl ne
    | 28, _, _ => rfl
    | 29, _, _ => rfl
    | 30, _, _ => rfl
    | 31, _, _ => rfl
    | 32, _, _ => rfl
    | 33, _, _ => rfl
    | 34, _, _ => rfl
    | j + 35, hj, _ => absurd hj (by omega)) rfl rfl rfl (fun j hj n0 n1 => match j, hj, n0, n1 with
    | 0, _, _, _ => rfl
    | 1, _, _, _ => rfl
    | 2, _, _, _ => rfl
    | 3, _, _, _ => rfl
    | 4, _, _, _ => rfl
    | 5, _, _, _ => rfl
    | 6, _, _, _ => rfl
    | 7, _, _, _ => rfl
    | 8, _, _, _ => rfl
    | 9, _, _, _ => rfl
    | 10, _, _, _ => rfl
    | 11, _, _, _ => rfl
    | 12, _, _, _ => rfl
    | 13, _, _, _ => rfl
    | 14, _, _, _ => rfl
    | 15, _, _, _ => rfl
    | 16, _, _, _ => rfl
    | 17, _, _, ne => absurd rfl ne
    | 18, _, _, _ => rfl
    | 19, _, _, _ => rfl
    | 20, _, _, _ => rfl
    | 21, _, _, _ => rfl
    | 22, _, _, _ => rfl
    | 23, _, _, _ => rfl
    | 24, _, _, _ => rfl
    | 25, _, _, _ => rfl
    | 26, _, _, _ => rfl
    | 27, _, ne, _ => absurd rfl ne
    | 28, _, _, _ => rfl
    | 29, _, _, _ => rfl
    | 30, _, _, _ => rfl
    | 31, _, _, _ => rfl
    | 32, _, _, _ => rfl
    | 33, _, _, _ => rfl
    | 34, _, _, _ => rfl
    | j + 35, hj, _, _ => absurd hj (by omega)) rfl
  have ct : kt (s.wG 6 m g hp.length) = kt s + m - s.C 6 := by
    show s.C 0 + s.C 1 + s.C 2 + s.C 3 + s.C 4 + s.C 5 + m + s.C 7 + s.C 8 + s.C 9 + s.C 10 + s.C 13 + s.C 14 + s.C 15 = kt s + m - s.C 6
    unfold kt
    omega
  refine go_put (j := 0) hc (app_old (hK.1 17 (by decide))) hf rfl (hK.2.1 17 (by decide)) (show 0 < 2 by decide) rfl rfl (hg _ q.1 (kx_w (kx_tr hX (q.2 0 0 (by rw [ct]; omega) ?_)) (by omega) (by omega)))
  rw [ct, show (xx_sz1 (.inl (.int, xa_f m.toNat g)) : Int) = (xa_f m.toNat g).length from rfl, xa_f_len]
  omega
theorem kgrow_7 (hK : KI c hp s) (hX : kx c hp0 s0 hp s a b) (hc : xp_code (xt_P z) k pc = some (.putfield n)) (hf : xp_fld (xt_P z) (xp_own (xt_P z) k) n 0 = some 0) (m0 : 0 ≤ m) (hm : 3 * s.C 7 ≤ 2 * m) (hm2 : s.C 7 + 20 ≤ m) (hg : ∀ hp1 : xx_H, KI c hp1 (s.wG 7 m g hp.length) → kx c hp0 s0 hp1 (s.wG 7 m g hp.length) a b → xx_go (xt_P z) d k (pc + 3) ls r hp1 Q) : xx_go (xt_P z) d k pc ls (.ref hp.length :: .ref (c + 28) :: r) (hp ++ [.inl (.int, xa_f m.toNat g)]) Q := by
  have q := ki_grow (i := 28) (i0 := 18) (e := .inl (.int, xa_f m.toNat g)) (s1 := s.wG 7 m g hp.length) hK (by decide) (by decide) (by decide) (hK.2.1 18 (by decide)) (fun j hj n0 => match j, hj, n0 with
    | 0, _, _ => rfl
    | 1, _, _ => rfl
    | 2, _, _ => rfl
    | 3, _, _ => rfl
    | 4, _, _ => rfl
    | 5, _, _ => rfl
    | 6, _, _ => rfl
    | 7, _, _ => rfl
    | 8, _, _ => rfl
    | 9, _, _ => rfl
    | 10, _, _ => rfl
    | 11, _, _ => rfl
    | 12, _, _ => rfl
    | 13, _, _ => rfl
    | 14, _, _ => rfl
    | 15, _, _ => rfl
    | 16, _, _ => rfl
    | 17, _, _ => rfl
    | 18, _, _ => rfl
    | 19, _, _ => rfl
    | 20, _, _ => rfl
    | 21, _, _ => rfl
    | 22, _, _ => rfl
    | 23, _, _ => rfl
    | 24, _, _ => rfl
    | 25, _, _ => rfl
    | 26, _, _ => rfl
    | 27, _, _ => rfl
    | 28, _, ne => absurd rfl ne
    | 29, _, _ => rfl
    | 30, _, _ => rfl
    | 31, _, _ => rfl
    | 32, _, _ => rfl
    | 33, _, _ => rfl
    | 34, _, _ => rfl
    | j + 35, hj, _ => absurd hj (by omega)) rfl rfl rfl (fun j hj n0 n1 => match j, hj, n0, n1 with
    | 0, _, _, _ => rfl
    | 1, _, _, _ => rfl
    | 2, _, _, _ => rfl
    | 3, _, _, _ => rfl
    | 4, _, _, _ => rfl
    | 5, _, _, _ => rfl
    | 6, _, _, _ => rfl
    | 7, _, _, _ => rfl
    | 8, _, _, _ => rfl
    | 9, _, _, _ => rfl
    | 10, _, _, _ => rfl
    | 11, _, _, _ => rfl
    | 12, _, _, _ => rfl
    | 13, _, _, _ => rfl
    | 14, _, _, _ => rfl
    | 15, _, _, _ => rfl
    | 16, _, _, _ => rfl
    | 17, _, _, _ => rfl
    | 18, _, _, ne => absurd rfl ne
    | 19, _, _, _ => rfl
    | 20, _, _, _ => rfl
    | 21, _, _, _ => rfl
    | 22, _, _, _ => rfl
    | 23, _, _, _ => rfl
    | 24, _, _, _ => rfl
    | 25, _, _, _ => rfl
    | 26, _, _, _ => rfl
    | 27, _, _, _ => rfl
    | 28, _, ne, _ => absurd rfl ne
    | 29, _, _, _ => rfl
    | 30, _, _, _ => rfl
    | 31, _, _, _ => rfl
    | 32, _, _, _ => rfl
    | 33, _, _, _ => rfl
    | 34, _, _, _ => rfl
    | j + 35, hj, _, _ => absurd hj (by omega)) rfl
  have ct : kt (s.wG 7 m g hp.length) = kt s + m - s.C 7 := by
    show s.C 0 + s.C 1 + s.C 2 + s.C 3 + s.C 4 + s.C 5 + s.C 6 + m + s.C 8 + s.C 9 + s.C 10 + s.C 13 + s.C 14 + s.C 15 = kt s + m - s.C 7
    unfold kt
    omega
  refine go_put (j := 0) hc (app_old (hK.1 18 (by decide))) hf rfl (hK.2.1 18 (by decide)) (show 0 < 2 by decide) rfl rfl (hg _ q.1 (kx_w (kx_tr hX (q.2 0 0 (by rw [ct]; omega) ?_)) (by omega) (by omega)))
  rw [ct, show (xx_sz1 (.inl (.int, xa_f m.toNat g)) : Int) = (xa_f m.toNat g).length from rfl, xa_f_len]
  omega
theorem kgrow_8 (hK : KI c hp s) (hX : kx c hp0 s0 hp s a b) (hc : xp_code (xt_P z) k pc = some (.putfield n)) (hf : xp_fld (xt_P z) (xp_own (xt_P z) k) n 1 = some 0) (m0 : 0 ≤ m) (hm : 3 * s.C 8 ≤ 2 * m) (hm2 : s.C 8 + 20 ≤ m) (hg : ∀ hp1 : xx_H, KI c hp1 (s.wH m g hp.length) → kx c hp0 s0 hp1 (s.wH m g hp.length) a b → xx_go (xt_P z) d k (pc + 3) ls r hp1 Q) : xx_go (xt_P z) d k pc ls (.ref hp.length :: .ref (c + 4) :: r) (hp ++ [.inl (.long, xa_l m.toNat g)]) Q := by
  have q := ki_grow (i := 29) (i0 := 3) (e := .inl (.long, xa_l m.toNat g)) (s1 := s.wH m g hp.length) hK (by decide) (by decide) (by decide) (hK.2.1 3 (by decide)) (fun j hj n0 => match j, hj, n0 with
    | 0, _, _ => rfl
    | 1, _, _ => rfl
    | 2, _, _ => rfl
    | 3, _, _ => rfl
    | 4, _, _ => rfl
    | 5, _, _ => rfl
    | 6, _, _ => rfl
    | 7, _, _ => rfl
    | 8, _, _ => rfl
    | 9, _, _ => rfl
    | 10, _, _ => rfl
    | 11, _, _ => rfl
    | 12, _, _ => rfl
    | 13, _, _ => rfl
    | 14, _, _ => rfl
    | 15, _, _ => rfl
    | 16, _, _ => rfl
    | 17, _, _ => rfl
    | 18, _, _ => rfl
    | 19, _, _ => rfl
    | 20, _, _ => rfl
    | 21, _, _ => rfl
    | 22, _, _ => rfl
    | 23, _, _ => rfl
    | 24, _, _ => rfl
    | 25, _, _ => rfl
    | 26, _, _ => rfl
    | 27, _, _ => rfl
    | 28, _, _ => rfl
    | 29, _, ne => absurd rfl ne
    | 30, _, _ => rfl
    | 31, _, _ => rfl
    | 32, _, _ => rfl
    | 33, _, _ => rfl
    | 34, _, _ => rfl
    | j + 35, hj, _ => absurd hj (by omega)) rfl rfl rfl (fun j hj n0 n1 => match j, hj, n0, n1 with
    | 0, _, _, _ => rfl
    | 1, _, _, _ => rfl
    | 2, _, _, _ => rfl
    | 3, _, _, ne => absurd rfl ne
    | 4, _, _, _ => rfl
    | 5, _, _, _ => rfl
    | 6, _, _, _ => rfl
    | 7, _, _, _ => rfl
    | 8, _, _, _ => rfl
    | 9, _, _, _ => rfl
    | 10, _, _, _ => rfl
    | 11, _, _, _ => rfl
    | 12, _, _, _ => rfl
    | 13, _, _, _ => rfl
    | 14, _, _, _ => rfl
    | 15, _, _, _ => rfl
    | 16, _, _, _ => rfl
    | 17, _, _, _ => rfl
    | 18, _, _, _ => rfl
    | 19, _, _, _ => rfl
    | 20, _, _, _ => rfl
    | 21, _, _, _ => rfl
    | 22, _, _, _ => rfl
    | 23, _, _, _ => rfl
    | 24, _, _, _ => rfl
    | 25, _, _, _ => rfl
    | 26, _, _, _ => rfl
    | 27, _, _, _ => rfl
    | 28, _, _, _ => rfl
    | 29, _, ne, _ => absurd rfl ne
    | 30, _, _, _ => rfl
    | 31, _, _, _ => rfl
    | 32, _, _, _ => rfl
    | 33, _, _, _ => rfl
    | 34, _, _, _ => rfl
    | j + 35, hj, _, _ => absurd hj (by omega)) rfl
  have ct : kt (s.wH m g hp.length) = kt s + m - s.C 8 := by
    show s.C 0 + s.C 1 + s.C 2 + s.C 3 + s.C 4 + s.C 5 + s.C 6 + s.C 7 + m + s.C 9 + s.C 10 + s.C 13 + s.C 14 + s.C 15 = kt s + m - s.C 8
    unfold kt
    omega
  refine go_put (j := 0) hc (app_old (hK.1 3 (by decide))) hf rfl (hK.2.1 3 (by decide)) (show 0 < 5 by decide) rfl rfl (hg _ q.1 (kx_w (kx_tr hX (q.2 0 0 (by rw [ct]; omega) ?_)) (by omega) (by omega)))
  rw [ct, show (xx_sz1 (.inl (.long, xa_l m.toNat g)) : Int) = (xa_l m.toNat g).length from rfl, xa_l_len]
  omega
theorem kgrow_9 (hK : KI c hp s) (hX : kx c hp0 s0 hp s a b) (hc : xp_code (xt_P z) k pc = some (.putfield n)) (hf : xp_fld (xt_P z) (xp_own (xt_P z) k) n 1 = some 1) (m0 : 0 ≤ m) (hm : 3 * s.C 9 ≤ 2 * m) (hm2 : s.C 9 + 20 ≤ m) (hg : ∀ hp1 : xx_H, KI c hp1 (s.wG 9 m g hp.length) → kx c hp0 s0 hp1 (s.wG 9 m g hp.length) a b → xx_go (xt_P z) d k (pc + 3) ls r hp1 Q) : xx_go (xt_P z) d k pc ls (.ref hp.length :: .ref (c + 4) :: r) (hp ++ [.inl (.int, xa_f m.toNat g)]) Q := by
  have q := ki_grow (i := 30) (i0 := 3) (e := .inl (.int, xa_f m.toNat g)) (s1 := s.wG 9 m g hp.length) hK (by decide) (by decide) (by decide) (hK.2.1 3 (by decide)) (fun j hj n0 => match j, hj, n0 with
    | 0, _, _ => rfl
    | 1, _, _ => rfl
    | 2, _, _ => rfl
    | 3, _, _ => rfl
    | 4, _, _ => rfl
    | 5, _, _ => rfl
    | 6, _, _ => rfl
    | 7, _, _ => rfl
    | 8, _, _ => rfl
    | 9, _, _ => rfl
    | 10, _, _ => rfl
    | 11, _, _ => rfl
    | 12, _, _ => rfl
    | 13, _, _ => rfl
    | 14, _, _ => rfl
    | 15, _, _ => rfl
    | 16, _, _ => rfl
    | 17, _, _ => rfl
    | 18, _, _ => rfl
    | 19, _, _ => rfl
    | 20, _, _ => rfl
    | 21, _, _ => rfl
    | 22, _, _ => rfl
    | 23, _, _ => rfl
    | 24, _, _ => rfl
    | 25, _, _ => rfl
    | 26, _, _ => rfl
    | 27, _, _ => rfl
    | 28, _, _ => rfl
    | 29, _, _ => rfl
    | 30, _, ne => absurd rfl ne
    | 31, _, _ => rfl
    | 32, _, _ => rfl
    | 33, _, _ => rfl
    | 34, _, _ => rfl
    | j + 35, hj, _ => absurd hj (by omega)) rfl rfl rfl (fun j hj n0 n1 => match j, hj, n0, n1 with
    | 0, _, _, _ => rfl
    | 1, _, _, _ => rfl
    | 2, _, _, _ => rfl
    | 3, _, _, ne => absurd rfl ne
    | 4, _, _, _ => rfl
    | 5, _, _, _ => rfl
    | 6, _, _, _ => rfl
    | 7, _, _, _ => rfl
    | 8, _, _, _ => rfl
    | 9, _, _, _ => rfl
    | 10, _, _, _ => rfl
    | 11, _, _, _ => rfl
    | 12, _, _, _ => rfl
    | 13, _, _, _ => rfl
    | 14, _, _, _ => rfl
    | 15, _, _, _ => rfl
    | 16, _, _, _ => rfl
    | 17, _, _, _ => rfl
    | 18, _, _, _ => rfl
    | 19, _, _, _ => rfl
    | 20, _, _, _ => rfl
    | 21, _, _, _ => rfl
    | 22, _, _, _ => rfl
    | 23, _, _, _ => rfl
    | 24, _, _, _ => rfl
    | 25, _, _, _ => rfl
    | 26, _, _, _ => rfl
    | 27, _, _, _ => rfl
    | 28, _, _, _ => rfl
    | 29, _, _, _ => rfl
    | 30, _, ne, _ => absurd rfl ne
    | 31, _, _, _ => rfl
    | 32, _, _, _ => rfl
    | 33, _, _, _ => rfl
    | 34, _, _, _ => rfl
    | j + 35, hj, _, _ => absurd hj (by omega)) rfl
  have ct : kt (s.wG 9 m g hp.length) = kt s + m - s.C 9 := by
    show s.C 0 + s.C 1 + s.C 2 + s.C 3 + s.C 4 + s.C 5 + s.C 6 + s.C 7 + s.C 8 + m + s.C 10 + s.C 13 + s.C 14 + s.C 15 = kt s + m - s.C 9
    unfold kt
    omega
  refine go_put (j := 1) hc (app_old (hK.1 3 (by decide))) hf rfl (hK.2.1 3 (by decide)) (show 1 < 5 by decide) rfl rfl (hg _ q.1 (kx_w (kx_tr hX (q.2 0 0 (by rw [ct]; omega) ?_)) (by omega) (by omega)))
  rw [ct, show (xx_sz1 (.inl (.int, xa_f m.toNat g)) : Int) = (xa_f m.toNat g).length from rfl, xa_f_len]
  omega
theorem kgrow_10 (hK : KI c hp s) (hX : kx c hp0 s0 hp s a b) (hc : xp_code (xt_P z) k pc = some (.putfield n)) (hf : xp_fld (xt_P z) (xp_own (xt_P z) k) n 1 = some 2) (m0 : 0 ≤ m) (hm : 3 * s.C 10 ≤ 2 * m) (hm2 : s.C 10 + 20 ≤ m) (hg : ∀ hp1 : xx_H, KI c hp1 (s.wG 10 m g hp.length) → kx c hp0 s0 hp1 (s.wG 10 m g hp.length) a b → xx_go (xt_P z) d k (pc + 3) ls r hp1 Q) : xx_go (xt_P z) d k pc ls (.ref hp.length :: .ref (c + 4) :: r) (hp ++ [.inl (.int, xa_f m.toNat g)]) Q := by
  have q := ki_grow (i := 31) (i0 := 3) (e := .inl (.int, xa_f m.toNat g)) (s1 := s.wG 10 m g hp.length) hK (by decide) (by decide) (by decide) (hK.2.1 3 (by decide)) (fun j hj n0 => match j, hj, n0 with
    | 0, _, _ => rfl
    | 1, _, _ => rfl
    | 2, _, _ => rfl
    | 3, _, _ => rfl
    | 4, _, _ => rfl
    | 5, _, _ => rfl
    | 6, _, _ => rfl
    | 7, _, _ => rfl
    | 8, _, _ => rfl
    | 9, _, _ => rfl
    | 10, _, _ => rfl
    | 11, _, _ => rfl
    | 12, _, _ => rfl
    | 13, _, _ => rfl
    | 14, _, _ => rfl
    | 15, _, _ => rfl
    | 16, _, _ => rfl
    | 17, _, _ => rfl
    | 18, _, _ => rfl
    | 19, _, _ => rfl
    | 20, _, _ => rfl
    | 21, _, _ => rfl
    | 22, _, _ => rfl
    | 23, _, _ => rfl
    | 24, _, _ => rfl
    | 25, _, _ => rfl
    | 26, _, _ => rfl
    | 27, _, _ => rfl
    | 28, _, _ => rfl
    | 29, _, _ => rfl
    | 30, _, _ => rfl
    | 31, _, ne => absurd rfl ne
    | 32, _, _ => rfl
    | 33, _, _ => rfl
    | 34, _, _ => rfl
    | j + 35, hj, _ => absurd hj (by omega)) rfl rfl rfl (fun j hj n0 n1 => match j, hj, n0, n1 with
    | 0, _, _, _ => rfl
    | 1, _, _, _ => rfl
    | 2, _, _, _ => rfl
    | 3, _, _, ne => absurd rfl ne
    | 4, _, _, _ => rfl
    | 5, _, _, _ => rfl
    | 6, _, _, _ => rfl
    | 7, _, _, _ => rfl
    | 8, _, _, _ => rfl
    | 9, _, _, _ => rfl
    | 10, _, _, _ => rfl
    | 11, _, _, _ => rfl
    | 12, _, _, _ => rfl
    | 13, _, _, _ => rfl
    | 14, _, _, _ => rfl
    | 15, _, _, _ => rfl
    | 16, _, _, _ => rfl
    | 17, _, _, _ => rfl
    | 18, _, _, _ => rfl
    | 19, _, _, _ => rfl
    | 20, _, _, _ => rfl
    | 21, _, _, _ => rfl
    | 22, _, _, _ => rfl
    | 23, _, _, _ => rfl
    | 24, _, _, _ => rfl
    | 25, _, _, _ => rfl
    | 26, _, _, _ => rfl
    | 27, _, _, _ => rfl
    | 28, _, _, _ => rfl
    | 29, _, _, _ => rfl
    | 30, _, _, _ => rfl
    | 31, _, ne, _ => absurd rfl ne
    | 32, _, _, _ => rfl
    | 33, _, _, _ => rfl
    | 34, _, _, _ => rfl
    | j + 35, hj, _, _ => absurd hj (by omega)) rfl
  have ct : kt (s.wG 10 m g hp.length) = kt s + m - s.C 10 := by
    show s.C 0 + s.C 1 + s.C 2 + s.C 3 + s.C 4 + s.C 5 + s.C 6 + s.C 7 + s.C 8 + s.C 9 + m + s.C 13 + s.C 14 + s.C 15 = kt s + m - s.C 10
    unfold kt
    omega
  refine go_put (j := 2) hc (app_old (hK.1 3 (by decide))) hf rfl (hK.2.1 3 (by decide)) (show 2 < 5 by decide) rfl rfl (hg _ q.1 (kx_w (kx_tr hX (q.2 0 0 (by rw [ct]; omega) ?_)) (by omega) (by omega)))
  rw [ct, show (xx_sz1 (.inl (.int, xa_f m.toNat g)) : Int) = (xa_f m.toNat g).length from rfl, xa_f_len]
  omega
end KGS
