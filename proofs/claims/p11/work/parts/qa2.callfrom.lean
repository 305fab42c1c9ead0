def NO (_ : Nat) : Prop := False
theorem isL_extB {F G : Nat → Prop} {I I1 : Nat → Int} {A A1 : Nat → Int → Int} {N N1 : Int → Int} (hP : PW I A) (x : BX F G I A N I1 A1 N1) : ∀ (m : Nat) (k : Int), 0 ≤ k → k < I 7 → isL A m k → isL A1 m k
  | 0, _, _, _, h => h
  | m + 1, k, h0, h1, h => by
    have p := x.2.2.1 k h0 h1
    have q := hP.2 k h0 h1
    have q2 := q.2.2.2.2 h.1
    refine ⟨by rw [p.1]; exact h.1, ?_⟩
    rw [p.2.1]
    exact isL_extB hP x m (A 2 k) (by omega) (by omega) h.2
theorem rt_extB {F G : Nat → Prop} {I I1 : Nat → Int} {A A1 : Nat → Int → Int} {N N1 : Int → Int} (hP : PW I A) (x : BX F G I A N I1 A1 N1) : ∀ (n j : Nat) (k : Int), 0 ≤ k → k < I 7 → isL A n k → j ≤ n → rt A1 j k = rt A j k
  | _, 0, _, _, _, _, _ => rfl
  | n + 1, j + 1, k, h0, h1, hL, hj => by
    have q := hP.2 k h0 h1
    have q2 := q.2.2.2.2 hL.1
    show rt A1 j (A1 2 k) = rt A j (A 2 k)
    rw [(x.2.2.1 k h0 h1).2.1]
    exact rt_extB hP x n j (A 2 k) (by omega) (by omega) hL.2 (by omega)
theorem isL_12a {A A1 : Nat → Int → Int} (h1 : A1 1 = A 1) (h2 : A1 2 = A 2) : ∀ (m : Nat) (k : Int), isL A m k → isL A1 m k
  | 0, _, h => h
  | m + 1, k, h => ⟨by rw [h1]; exact h.1, by rw [h2]; exact isL_12a h1 h2 m (A 2 k) h.2⟩
theorem rt_12a {A A1 : Nat → Int → Int} (h2 : A1 2 = A 2) : ∀ (n : Nat) (k : Int), rt A1 n k = rt A n k
  | 0, _ => rfl
  | n + 1, k => by
    show rt A1 n (A1 2 k) = rt A n (A 2 k)
    rw [h2]
    exact rt_12a h2 n (A 2 k)
def SL (A : Nat → Int → Int) (ar : Int → Int) (f : Int → Int) (hi : Int) : Nat → Int
  | 0 => 0
  | m + 1 => TZ A ar (f (hi - ((m : Int) + 1))) + SL A ar f hi m
theorem MST_4 {I : Nat → Int} {A : Nat → Int → Int} {N : Int → Int} {c x : Int} (hS : MST I A N) (x0 : 0 ≤ x) (x1 : x ≤ 30000) : MST I (sa A 4 c x) N := by
  obtain ⟨a1, a2, a3⟩ := hS
  refine ⟨a1, fun k k0 k1 => ?_, a3⟩
  have q := a2 k k0 k1
  refine ⟨q.1, q.2.1, ?_⟩
  show 0 ≤ sf (A 4) c x k ∧ sf (A 4) c x k ≤ 30000 ∧ 0 ≤ A 5 k ∧ A 5 k ≤ k
  by_cases e : k = c
  · rw [e, sf_self, ← e]
    exact ⟨x0, x1, q.2.2.2.2⟩
  · rw [sf_ne e]
    exact q.2.2
theorem BX_4 {F G : Nat → Prop} {I : Nat → Int} {A : Nat → Int → Int} {N : Int → Int} {c x : Int} (hS : MST I A N) (x0 : 1 ≤ x) (x1 : x ≤ 30000) : BX F G I A N I (sa A 4 c x) N := ⟨MST_4 hS (by omega) x1, Int.le_refl _, fun k _ _ => ⟨rfl, rfl, rfl, fun e => by
  show sf (A 4) c x k ≠ 0
  by_cases e2 : k = c
  · rw [e2, sf_self]
    omega
  · rw [sf_ne e2]
    exact e⟩, fun _ _ _ => rfl, fun a _ _ _ q4 _ _ _ => sa_ne q4⟩
theorem SZI_4 {I : Nat → Int} {A : Nat → Int → Int} {N : Int → Int} {ar : Int → Int} {c x : Int} (hS : MST I A N) (hZ : SZI ar I A) (c0 : 0 ≤ c) (c1 : c < I 7) (f0 : 0 ≤ A 1 c) (f2 : A 1 c ≠ 2) (hl : 0 ≤ LZ A ar (A 2 c)) (hn : CZ A ar (A 2 c) = ar (A 1 c)) (x0 : 1 ≤ x) (x1 : x ≤ 30000) (hx : x = 1 + LZ A ar (A 2 c) ∨ (x = 30000 ∧ 30000 ≤ 1 + LZ A ar (A 2 c))) : SZI ar I (sa A 4 c x) ∧ TZ (sa A 4 c x) ar c = 1 + LZ A ar (A 2 c) := by
  have hP := MST_PW hS
  have X : BX NO NO I A N I (sa A 4 c x) N := BX_4 hS x0 x1
  have hP1 := MST_PW X.1
  have q := hP.2 c c0 c1
  have q2 := q.2.2.2.2 f0
  have l2 := TZ_BX (ar := ar) hP X q.2.2.1 (by omega : A 2 c < I 7)
  have t : TZ (sa A 4 c x) ar c = 1 + LZ A ar (A 2 c) := by
    rw [TZ_call hP1 c0 c1 f0 f2]
    show (if 0 ≤ LZ (sa A 4 c x) ar (A 2 c) ∧ CZ (sa A 4 c x) ar (A 2 c) = ar (A 1 c) ∧ sf (A 4) c x c ≠ 0 then 1 + LZ (sa A 4 c x) ar (A 2 c) else 0) = _
    rw [l2.2.1 hl, l2.2.2, sf_self, if_pos ⟨hl, hn, by omega⟩]
  refine ⟨fun k k0 k1 d1 d2 => ?_, t⟩
  by_cases e : k = c
  · refine Or.inr ⟨ar, ?_⟩
    rw [e, t]
    show _ ∧ 1 ≤ sf (A 4) c x c ∧ ((sf (A 4) c x c = _ ∧ sf (A 4) c x c ≤ 30000) ∨ (sf (A 4) c x c = 30000 ∧ _))
    rw [sf_self]
    refine ⟨by omega, x0, ?_⟩
    rcases hx with hx | hx
    · exact Or.inl ⟨hx, x1⟩
    · exact Or.inr hx
  · show sf (A 4) c x k = 0 ∨ _
    rcases hZ k k0 k1 d1 d2 with z | ⟨a, z⟩
    · exact Or.inl (by rw [sf_ne e]; exact z)
    · refine Or.inr ⟨a, ?_⟩
      show _ ∧ 1 ≤ sf (A 4) c x k ∧ ((sf (A 4) c x k = _ ∧ sf (A 4) c x k ≤ 30000) ∨ (sf (A 4) c x k = 30000 ∧ _))
      rw [sf_ne e, (TZ_BX (ar := a) hP X k0 k1).1 z.1]
      exact z
theorem mm_callFrom_loop (z : Value) (d : Nat) (ar : Int → Int) (f e : Int) (h R : xx_H) (I : Nat → Int) (A : Nat → Int → Int) (N : Int → Int) (hc : 12 ≤ h.length) (hS : MST I A N) (hN : NM I A) (hZ : SZI ar I A) (f0 : 0 ≤ f) (f1 : f < I 7) (f2 : f ≠ 2) (e0 : 0 ≤ e) (e1 : e ≤ I 56) (b1 : I 56 ≤ 2400) (hb : ∀ q : Int, e ≤ q → q < I 56 → (0 ≤ A 32 q ∧ A 32 q < I 7) ∧ 1 ≤ TZ A ar (A 32 q)) (ha : I 56 - e = ar f) (ho : I 7 + (I 56 - e) + 1 ≤ 140000) : ∀ (m : Nat) (I1 : Nat → Int) (A1 : Nat → Int → Int) (v n k : Int), e - 1 + m = k → k < I 56 → BX NO NO I A N I1 A1 N → (∀ j : Nat, j ≠ 7 → I1 j = I j) → A1 32 = A 32 → SZI ar I1 A1 → I1 7 ≤ I 7 + (I 56 - 1 - k) → 0 ≤ v → v < I1 7 → 0 ≤ LZ A1 ar v → CZ A1 ar v = I 56 - 1 - k → 1 ≤ n → n ≤ 1 + 30000 * (I 56 - 1 - k) → (n = 1 + LZ A1 ar v ∨ (30000 ≤ n ∧ 30000 ≤ 1 + LZ A1 ar v)) → LZ A1 ar v = SL A ar (A 32) (I 56) (I 56 - 1 - k).toNat → (isL A1 (I 56 - 1 - k).toNat v ∧ ∀ j : Nat, j < (I 56 - 1 - k).toNat → A1 1 (rt A1 j v) = A 32 (k + 1 + j)) → (I1 7 = I 7 ∨ I 7 ≤ v) → xx_go (xt_P z) (d + 4) 114 13 [some (.ref h.length), some (.int (iI f)), some (.int (iI e)), some (.int (iI v)), some (.int (iI n)), some (.int (iI k))] [] (mh h R I1 A1 N) (fun w h1 => ∃ (c : Int) (I1 : Nat → Int) (A1 : Nat → Int → Int), w = some (.int (iI c)) ∧ h1 = mh h R I1 A1 N ∧ BX NO NO I A N I1 A1 N ∧ SZI ar I1 A1 ∧ 0 ≤ c ∧ c < I1 7 ∧ A1 1 c = f ∧ 1 ≤ TZ A1 ar c ∧ I1 7 ≤ I 7 + (I 56 - e) + 1 ∧ TZ A1 ar c = 1 + SL A ar (A 32) (I 56) (I 56 - e).toNat ∧ (isL A1 (I 56 - e).toNat (A1 2 c) ∧ ∀ j : Nat, j < (I 56 - e).toNat → A1 1 (rt A1 j (A1 2 c)) = A 32 (e + j)) ∧ (I1 7 = I 7 ∨ I 7 ≤ c)) := by
  have hP := MST_PW hS
  have n0 := hN.2 0 (by decide) (by decide)
  have nn := hN.1
  intro m
  induction m with
  | zero =>
    intro I1 A1 v n k ek kb X fi a32 hZ1 c7 v0 v1 hl hcz n1 n2 hn hsl hli hdi
    have hP1 := MST_PW X.1
    have x2 := X.2.1
    refine go_a (pc' := 15) (ls' := [some (.ref h.length), some (.int (iI f)), some (.int (iI e)), some (.int (iI v)), some (.int (iI n)), some (.int (iI k))]) (st' := [.int (iI k)]) rfl rfl ?_
    refine go_a (pc' := 16) (ls' := [some (.ref h.length), some (.int (iI f)), some (.int (iI e)), some (.int (iI v)), some (.int (iI n)), some (.int (iI k))]) (st' := [.int (iI e), .int (iI k)]) rfl rfl ?_
    refine mi_lt (t := 54) rfl rfl (by omega) (by omega) (by omega) (by omega) (fun _ => ?_) (fun q => absurd (show k < e by omega) q)
    refine go_a (pc' := 55) (ls' := [some (.ref h.length), some (.int (iI f)), some (.int (iI e)), some (.int (iI v)), some (.int (iI n)), some (.int (iI k))]) (st' := [.ref h.length]) rfl rfl ?_
    refine go_a (pc' := 56) (ls' := [some (.ref h.length), some (.int (iI f)), some (.int (iI e)), some (.int (iI v)), some (.int (iI n)), some (.int (iI k))]) (st' := [.int (iI f), .ref h.length]) rfl rfl ?_
    refine go_a (pc' := 57) (ls' := [some (.ref h.length), some (.int (iI f)), some (.int (iI e)), some (.int (iI v)), some (.int (iI n)), some (.int (iI k))]) (st' := [.int (iI v), .int (iI f), .ref h.length]) rfl rfl ?_
    refine go_v (m := 85) (as := [.ref h.length, .int (iI f), .int (iI v)]) (r := []) rfl rfl rfl mh_o rfl rfl (mm_pairB NO NO z (d + 2) f v h R I1 A1 N hc X.1 (by omega) f0 (by omega) v0 v1) (fun v h1 hq => ?_)
    obtain ⟨c, I2, A2, rfl, rfl, X2, c0, c1, g1, g2, g3, g4, g5, g6, g7, hk2⟩ := hq
    have X3 := BX_tr X X2
    have hP2 := MST_PW X2.1
    have y2 := X2.2.1
    have y3 := hP2.1
    have qc := (hP2.2 c c0 c1).2.2.2.2 (by omega)
    have dic : I2 7 = I 7 ∨ I 7 ≤ c := by
      have x2 := X.2.1
      rcases hdi with q | q
      · by_cases q9 : I1 7 < I2 7
        · have := hk2 q9
          omega
        · omega
      · omega
    have Z2 : SZI ar I2 A2 := SZI_grow hP1 hZ1 X2 g3 g6 g7 hk2
    have lv := TZ_BX (ar := ar) hP1 X2 v0 v1
    have LIF : ∀ A4 : Nat → Int → Int, A4 1 = A2 1 → A4 2 = A2 2 → (isL A4 (I 56 - e).toNat (A4 2 c) ∧ ∀ j : Nat, j < (I 56 - e).toNat → A4 1 (rt A4 j (A4 2 c)) = A 32 (e + j)) := fun A4 q1 q2 => by
      have en : (I 56 - 1 - k).toNat = (I 56 - e).toNat := by omega
      rw [en] at hli
      have i2 := isL_extB hP1 X2 _ v v0 v1 hli.1
      rw [show A4 2 c = v by rw [q2]; exact g2]
      refine ⟨isL_12a q1 q2 _ _ i2, fun j hj => ?_⟩
      have r := isL_rt hP1 _ j v v0 v1 hli.1 hj
      rw [rt_12a q2, rt_extB hP1 X2 _ j v v0 v1 hli.1 (by omega), q1, (X2.2.2.1 _ r.1 (by omega)).1, hli.2 j hj, show k + 1 = e by omega]
    have l1 : LZ A2 ar (A2 2 c) = LZ A1 ar v := by rw [g2]; exact lv.2.1 hl
    have l2 : CZ A2 ar (A2 2 c) = ar (A2 1 c) := by rw [g2, g1, lv.2.2, hcz]; omega
    show xx_go (xt_P z) (d + 4) 114 60 [some (.ref h.length), some (.int (iI f)), some (.int (iI e)), some (.int (iI v)), some (.int (iI n)), some (.int (iI k))] [.int (iI c)] (mh h R I2 A2 N) _
    refine go_a (pc' := 62) (ls' := [some (.ref h.length), some (.int (iI f)), some (.int (iI e)), some (.int (iI v)), some (.int (iI n)), some (.int (iI c))]) (st' := []) rfl rfl ?_
    refine go_a (pc' := 63) (ls' := [some (.ref h.length), some (.int (iI f)), some (.int (iI e)), some (.int (iI v)), some (.int (iI n)), some (.int (iI c))]) (st' := [.ref h.length]) rfl rfl ?_
    refine go_get rfl mh_o rfl rfl ?_
    refine go_a (pc' := 68) (ls' := [some (.ref h.length), some (.int (iI f)), some (.int (iI e)), some (.int (iI v)), some (.int (iI n)), some (.int (iI c))]) (st' := [.int (iI c), .ref (h.length + 4)]) rfl rfl ?_
    refine go_a (pc' := 70) (ls' := [some (.ref h.length), some (.int (iI f)), some (.int (iI e)), some (.int (iI v)), some (.int (iI n)), some (.int (iI c))]) (st' := [.int (iI n), .int (iI c), .ref (h.length + 4)]) rfl rfl ?_
    refine go_a (pc' := 73) (ls' := [some (.ref h.length), some (.int (iI f)), some (.int (iI e)), some (.int (iI v)), some (.int (iI n)), some (.int (iI c))]) (st' := [.int (iI 30000), .int (iI n), .int (iI c), .ref (h.length + 4)]) rfl rfl ?_
    refine mi_le (t := 82) rfl rfl (by omega) (by omega) (by omega) (by omega) (fun c3 => ?_) (fun c3 => ?_)
    · refine go_a (pc' := 84) (ls' := [some (.ref h.length), some (.int (iI f)), some (.int (iI e)), some (.int (iI v)), some (.int (iI n)), some (.int (iI c))]) (st' := [.int (iI n), .int (iI c), .ref (h.length + 4)]) rfl rfl ?_
      refine mi_ist rfl mh_a4 (show 12 ≤ _ by omega) (by omega) (by omega) (by decide) ?_
      rw [mh_w4 (by omega)]
      refine go_a (pc' := 87) (ls' := [some (.ref h.length), some (.int (iI f)), some (.int (iI e)), some (.int (iI v)), some (.int (iI n)), some (.int (iI c))]) (st' := [.int (iI c)]) rfl rfl ?_
      have S4 := SZI_4 (x := n) X2.1 Z2 c0 c1 (by omega) (by omega) (by omega) l2 (by omega) (by omega) (by rw [l1]; omega)
      exact go_r rfl rfl rfl rfl rfl rfl ⟨c, I2, _, rfl, rfl, BX_tr X3 (BX_4 X2.1 (by omega) (by omega)), S4.1, c0, c1, g1, by rw [S4.2]; omega, by omega, by rw [S4.2, l1, hsl, show (I 56 - 1 - k).toNat = (I 56 - e).toNat by omega], LIF _ rfl rfl, dic⟩
    · refine go_a (pc' := 79) (ls' := [some (.ref h.length), some (.int (iI f)), some (.int (iI e)), some (.int (iI v)), some (.int (iI n)), some (.int (iI c))]) (st' := [.int (iI 30000), .int (iI c), .ref (h.length + 4)]) rfl rfl ?_
      refine go_a (pc' := 84) (ls' := [some (.ref h.length), some (.int (iI f)), some (.int (iI e)), some (.int (iI v)), some (.int (iI n)), some (.int (iI c))]) (st' := [.int (iI 30000), .int (iI c), .ref (h.length + 4)]) rfl rfl ?_
      refine mi_ist rfl mh_a4 (show 12 ≤ _ by omega) (by omega) (by omega) (by decide) ?_
      rw [mh_w4 (by omega)]
      refine go_a (pc' := 87) (ls' := [some (.ref h.length), some (.int (iI f)), some (.int (iI e)), some (.int (iI v)), some (.int (iI n)), some (.int (iI c))]) (st' := [.int (iI c)]) rfl rfl ?_
      have S4 := SZI_4 (x := 30000) X2.1 Z2 c0 c1 (by omega) (by omega) (by omega) l2 (by omega) (by omega) (by rw [l1]; omega)
      exact go_r rfl rfl rfl rfl rfl rfl ⟨c, I2, _, rfl, rfl, BX_tr X3 (BX_4 X2.1 (by omega) (by omega)), S4.1, c0, c1, g1, by rw [S4.2]; omega, by omega, by rw [S4.2, l1, hsl, show (I 56 - 1 - k).toNat = (I 56 - e).toNat by omega], LIF _ rfl rfl, dic⟩
  | succ m ih =>
    intro I1 A1 v n k ek kb X fi a32 hZ1 c7 v0 v1 hl hcz n1 n2 hn hsl hli hdi
    have hP1 := MST_PW X.1
    have x2 := X.2.1
    have bk := hb k (by omega) (by omega)
    have i56 : I1 56 = I 56 := fi 56 (by decide)
    have tk := TZ_BX (ar := ar) hP X bk.1.1 bk.1.2
    have tk1 := tk.1 bk.2
    have e32 : A1 32 k = A 32 k := by rw [a32]
    refine go_a (pc' := 15) (ls' := [some (.ref h.length), some (.int (iI f)), some (.int (iI e)), some (.int (iI v)), some (.int (iI n)), some (.int (iI k))]) (st' := [.int (iI k)]) rfl rfl ?_
    refine go_a (pc' := 16) (ls' := [some (.ref h.length), some (.int (iI f)), some (.int (iI e)), some (.int (iI v)), some (.int (iI n)), some (.int (iI k))]) (st' := [.int (iI e), .int (iI k)]) rfl rfl ?_
    refine mi_lt (t := 54) rfl rfl (by omega) (by omega) (by omega) (by omega) (fun q => absurd q (by omega)) (fun _ => ?_)
    refine go_a (pc' := 21) (ls' := [some (.ref h.length), some (.int (iI f)), some (.int (iI e)), some (.int (iI v)), some (.int (iI n)), some (.int (iI k))]) (st' := [.int (iI n)]) rfl rfl ?_
    refine go_a (pc' := 22) (ls' := [some (.ref h.length), some (.int (iI f)), some (.int (iI e)), some (.int (iI v)), some (.int (iI n)), some (.int (iI k))]) (st' := [.ref h.length, .int (iI n)]) rfl rfl ?_
    refine go_a (pc' := 23) (ls' := [some (.ref h.length), some (.int (iI f)), some (.int (iI e)), some (.int (iI v)), some (.int (iI n)), some (.int (iI k))]) (st' := [.ref h.length, .ref h.length, .int (iI n)]) rfl rfl ?_
    refine go_get rfl mh_o rfl rfl ?_
    refine go_a (pc' := 28) (ls' := [some (.ref h.length), some (.int (iI f)), some (.int (iI e)), some (.int (iI v)), some (.int (iI n)), some (.int (iI k))]) (st' := [.int (iI k), .ref (h.length + 32), .ref h.length, .int (iI n)]) rfl rfl ?_
    refine mi_ild rfl mh_a32 (by omega) (by omega) (by decide) ?_
    rw [e32]
    refine go_v (m := 115) (as := [.ref h.length, .int (iI (A 32 k))]) (r := [.int (iI n)]) rfl rfl rfl mh_o rfl rfl (mm_sizeOf z (d + 1) (A 32 k) ar h R I1 A1 N hc hP1 bk.1.1 (by omega) hZ1 (by omega)) (fun v h1 hq => ?_)
    obtain ⟨⟨s, rfl, s0, hs⟩, rfl⟩ := hq
    show xx_go (xt_P z) (d + 4) 114 32 [some (.ref h.length), some (.int (iI f)), some (.int (iI e)), some (.int (iI v)), some (.int (iI n)), some (.int (iI k))] [.int (iI s), .int (iI n)] (mh h R I1 A1 N) _
    refine mi_add rfl ?_
    refine go_a (pc' := 35) (ls' := [some (.ref h.length), some (.int (iI f)), some (.int (iI e)), some (.int (iI v)), some (.int (iI (n + s))), some (.int (iI k))]) (st' := []) rfl rfl ?_
    refine go_a (pc' := 36) (ls' := [some (.ref h.length), some (.int (iI f)), some (.int (iI e)), some (.int (iI v)), some (.int (iI (n + s))), some (.int (iI k))]) (st' := [.ref h.length]) rfl rfl ?_
    refine go_a (pc' := 37) (ls' := [some (.ref h.length), some (.int (iI f)), some (.int (iI e)), some (.int (iI v)), some (.int (iI (n + s))), some (.int (iI k))]) (st' := [.ref h.length, .ref h.length]) rfl rfl ?_
    refine go_get rfl mh_o rfl rfl ?_
    refine go_a (pc' := 42) (ls' := [some (.ref h.length), some (.int (iI f)), some (.int (iI e)), some (.int (iI v)), some (.int (iI (n + s))), some (.int (iI k))]) (st' := [.int (iI k), .ref (h.length + 32), .ref h.length]) rfl rfl ?_
    refine mi_ild rfl mh_a32 (by omega) (by omega) (by decide) ?_
    refine go_a (pc' := 44) (ls' := [some (.ref h.length), some (.int (iI f)), some (.int (iI e)), some (.int (iI v)), some (.int (iI (n + s))), some (.int (iI k))]) (st' := [.int (iI v), .int (iI (A1 32 k)), .ref h.length]) rfl rfl ?_
    rw [e32]
    refine go_v (m := 85) (as := [.ref h.length, .int (iI (A 32 k)), .int (iI v)]) (r := []) rfl rfl rfl mh_o rfl rfl (mm_pairB NO NO z (d + 2) (A 32 k) v h R I1 A1 N hc X.1 (by omega) bk.1.1 (by omega) v0 v1) (fun v h1 hq => ?_)
    obtain ⟨c, I2, A2, rfl, rfl, X2, c0, c1, g1, g2, g3, g4, g5, g6, g7, hk2⟩ := hq
    have X3 := BX_tr X X2
    have hP2 := MST_PW X2.1
    have y2 := X2.2.1
    have qc := (hP2.2 c c0 c1).2.2.2.2 (by omega)
    have dic : I2 7 = I 7 ∨ I 7 ≤ c := by
      rcases hdi with q | q
      · by_cases q9 : I1 7 < I2 7
        · have := hk2 q9
          omega
        · omega
      · omega
    have Z2 : SZI ar I2 A2 := SZI_grow hP1 hZ1 X2 g3 g6 g7 hk2
    have lv := TZ_BX (ar := ar) hP1 X2 v0 v1
    have tc := (TZ_BX (ar := ar) hP1 X2 bk.1.1 (by omega : A 32 k < I1 7)).1 (by omega)
    have cp : 0 < c := by
      by_cases ec : c = 0
      · have := (X3.2.2.1 0 (by decide) (by omega)).1
        rw [ec] at g1
        omega
      · omega
    have LIN : isL A2 (I 56 - 1 - (k + (-1))).toNat c ∧ ∀ j : Nat, j < (I 56 - 1 - (k + (-1))).toNat → A2 1 (rt A2 j c) = A 32 (k + (-1) + 1 + j) := by
      rw [show (I 56 - 1 - (k + (-1))).toNat = (I 56 - 1 - k).toNat + 1 by omega, show k + (-1) + 1 = k by omega]
      have i2 := isL_extB hP1 X2 _ v v0 v1 hli.1
      refine ⟨⟨by omega, by rw [g2]; exact i2⟩, fun j hj => ?_⟩
      match j, hj with
      | 0, _ =>
        show A2 1 c = A 32 (k + ((0 : Nat) : Int))
        rw [g1, show k + ((0 : Nat) : Int) = k by omega]
      | j + 1, hj =>
        have r := isL_rt hP1 _ j v v0 v1 hli.1 (by omega)
        show A2 1 (rt A2 j (A2 2 c)) = _
        rw [g2, rt_extB hP1 X2 _ j v v0 v1 hli.1 (by omega), (X2.2.2.1 _ r.1 (by omega)).1, hli.2 j (by omega), show k + ((j + 1 : Nat) : Int) = k + 1 + j by omega]
    have lc := LZ_pair (ar := ar) hP2 cp c1 (by omega)
    rw [g1, g2, tc, lv.2.1 hl, lv.2.2, if_pos ⟨by omega, hl⟩] at lc
    show xx_go (xt_P z) (d + 4) 114 47 [some (.ref h.length), some (.int (iI f)), some (.int (iI e)), some (.int (iI v)), some (.int (iI (n + s))), some (.int (iI k))] [.int (iI c)] (mh h R I2 A2 N) _
    refine go_a (pc' := 48) (ls' := [some (.ref h.length), some (.int (iI f)), some (.int (iI e)), some (.int (iI c)), some (.int (iI (n + s))), some (.int (iI k))]) (st' := []) rfl rfl ?_
    refine go_a (pc' := 51) (ls' := [some (.ref h.length), some (.int (iI f)), some (.int (iI e)), some (.int (iI c)), some (.int (iI (n + s))), some (.int (iI (k + (-1))))]) (st' := []) rfl (by rw [← iI_add k (-1)]; rfl) ?_
    refine go_a (pc' := 13) (ls' := [some (.ref h.length), some (.int (iI f)), some (.int (iI e)), some (.int (iI c)), some (.int (iI (n + s))), some (.int (iI (k + (-1))))]) (st' := []) rfl rfl ?_
    exact ih I2 A2 c (n + s) (k + (-1)) (by omega) (by omega) X3 (fun j hj => (g4 j hj).trans (fi j hj)) ((g5 32 (by decide) (by decide) (by decide) (by decide) (by decide) (by decide)).trans a32) Z2 (by omega) c0 c1 (by omega) (by omega) (by omega) (by omega) (by omega) (by rw [lc.1, hsl, tk1, show (I 56 - 1 - (k + (-1))).toNat = (I 56 - 1 - k).toNat + 1 by omega]; show _ = TZ A ar (A 32 (I 56 - (((I 56 - 1 - k).toNat : Int) + 1))) + _; rw [show I 56 - (((I 56 - 1 - k).toNat : Int) + 1) = k by omega]) LIN dic
theorem mm_callFromD (z : Value) (d : Nat) (ar : Int → Int) (f e : Int) (h R : xx_H) (I : Nat → Int) (A : Nat → Int → Int) (N : Int → Int) (hc : 12 ≤ h.length) (hS : MST I A N) (hN : NM I A) (hZ : SZI ar I A) (f0 : 0 ≤ f) (f1 : f < I 7) (f2 : f ≠ 2) (e0 : 0 ≤ e) (e1 : e ≤ I 56) (b1 : I 56 ≤ 2400) (hb : ∀ q : Int, e ≤ q → q < I 56 → (0 ≤ A 32 q ∧ A 32 q < I 7) ∧ 1 ≤ TZ A ar (A 32 q)) (ha : I 56 - e = ar f) (ho : I 7 + (I 56 - e) + 1 ≤ 140000) : xx_cl (xt_P z) (d + 5) 114 [.ref h.length, .int (iI f), .int (iI e)] (mh h R I A N) (fun w h1 => ∃ (c : Int) (I1 : Nat → Int) (A1 : Nat → Int → Int), w = some (.int (iI c)) ∧ h1 = mh h R I1 A1 N ∧ BX NO NO I A N I1 A1 N ∧ SZI ar I1 A1 ∧ 0 ≤ c ∧ c < I1 7 ∧ A1 1 c = f ∧ 1 ≤ TZ A1 ar c ∧ I1 7 ≤ I 7 + (I 56 - e) + 1 ∧ TZ A1 ar c = 1 + SL A ar (A 32) (I 56) (I 56 - e).toNat ∧ (isL A1 (I 56 - e).toNat (A1 2 c) ∧ ∀ j : Nat, j < (I 56 - e).toNat → A1 1 (rt A1 j (A1 2 c)) = A 32 (e + j)) ∧ (I1 7 = I 7 ∨ I 7 ≤ c)) := by
  have n0 : A 1 0 < 0 := by rw [hN.2 0 (by decide) (by decide)]; decide
  have nn := hN.1
  have l0 := LZ_0 (ar := ar) n0
  refine cl_go rfl ?_
  show xx_go (xt_P z) (d + 4) 114 0 [some (.ref h.length), some (.int (iI f)), some (.int (iI e)), none, none, none] [] (mh h R I A N) _
  refine go_a (pc' := 1) (ls' := [some (.ref h.length), some (.int (iI f)), some (.int (iI e)), none, none, none]) (st' := [.int (iI 0)]) rfl rfl ?_
  refine go_a (pc' := 2) (ls' := [some (.ref h.length), some (.int (iI f)), some (.int (iI e)), some (.int (iI 0)), none, none]) (st' := []) rfl rfl ?_
  refine go_a (pc' := 3) (ls' := [some (.ref h.length), some (.int (iI f)), some (.int (iI e)), some (.int (iI 0)), none, none]) (st' := [.int (iI 1)]) rfl rfl ?_
  refine go_a (pc' := 5) (ls' := [some (.ref h.length), some (.int (iI f)), some (.int (iI e)), some (.int (iI 0)), some (.int (iI 1)), none]) (st' := []) rfl rfl ?_
  refine go_a (pc' := 6) (ls' := [some (.ref h.length), some (.int (iI f)), some (.int (iI e)), some (.int (iI 0)), some (.int (iI 1)), none]) (st' := [.ref h.length]) rfl rfl ?_
  refine go_get (v := .int (iI (I 56))) rfl mh_o rfl rfl ?_
  refine go_a (pc' := 10) (ls' := [some (.ref h.length), some (.int (iI f)), some (.int (iI e)), some (.int (iI 0)), some (.int (iI 1)), none]) (st' := [.int (iI 1), .int (iI (I 56))]) rfl rfl ?_
  refine mi_sub rfl ?_
  refine go_a (pc' := 13) (ls' := [some (.ref h.length), some (.int (iI f)), some (.int (iI e)), some (.int (iI 0)), some (.int (iI 1)), some (.int (iI ((I 56) - 1)))]) (st' := []) rfl rfl ?_
  exact mm_callFrom_loop z d ar f e h R I A N hc hS hN hZ f0 f1 f2 e0 e1 b1 hb ha ho (I 56 - e).toNat I A 0 1 (I 56 - 1) (by omega) (by omega) (BX_rf hS) (fun _ _ => rfl) rfl hZ (by omega) (Int.le_refl _) (by omega) (by omega) (by omega) (Int.le_refl _) (by omega) (by omega) (by rw [l0.1, show (I 56 - 1 - (I 56 - 1)).toNat = 0 by omega]; rfl) (by rw [show (I 56 - 1 - (I 56 - 1)).toNat = 0 by omega]; exact ⟨rfl, fun j hj => absurd hj (by omega)⟩) (Or.inl rfl)
theorem mm_callFrom (z : Value) (d : Nat) (ar : Int → Int) (f e : Int) (h R : xx_H) (I : Nat → Int) (A : Nat → Int → Int) (N : Int → Int) (hc : 12 ≤ h.length) (hS : MST I A N) (hN : NM I A) (hZ : SZI ar I A) (f0 : 0 ≤ f) (f1 : f < I 7) (f2 : f ≠ 2) (e0 : 0 ≤ e) (e1 : e ≤ I 56) (b1 : I 56 ≤ 2400) (hb : ∀ q : Int, e ≤ q → q < I 56 → (0 ≤ A 32 q ∧ A 32 q < I 7) ∧ 1 ≤ TZ A ar (A 32 q)) (ha : I 56 - e = ar f) (ho : I 7 + (I 56 - e) + 1 ≤ 140000) : xx_cl (xt_P z) (d + 5) 114 [.ref h.length, .int (iI f), .int (iI e)] (mh h R I A N) (fun w h1 => ∃ (c : Int) (I1 : Nat → Int) (A1 : Nat → Int → Int), w = some (.int (iI c)) ∧ h1 = mh h R I1 A1 N ∧ BX NO NO I A N I1 A1 N ∧ SZI ar I1 A1 ∧ 0 ≤ c ∧ c < I1 7 ∧ A1 1 c = f ∧ 1 ≤ TZ A1 ar c ∧ I1 7 ≤ I 7 + (I 56 - e) + 1 ∧ TZ A1 ar c = 1 + SL A ar (A 32) (I 56) (I 56 - e).toNat ∧ (isL A1 (I 56 - e).toNat (A1 2 c) ∧ ∀ j : Nat, j < (I 56 - e).toNat → A1 1 (rt A1 j (A1 2 c)) = A 32 (e + j))) := cl_w (fun v h1 q => by obtain ⟨c, I1, A1, a1, a2, a3, a4, a5, a6, a7, a8, a9, b1, b2, -⟩ := q; exact ⟨c, I1, A1, a1, a2, a3, a4, a5, a6, a7, a8, a9, b1, b2⟩) (mm_callFromD z d ar f e h R I A N hc hS hN hZ f0 f1 f2 e0 e1 b1 hb ha ho)

