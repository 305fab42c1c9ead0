def KQ (s : KS) : Prop := KCH s ∧ KHT s
def CX (s : KS) : Prop := CI s ∧ KQ s
theorem KQ_e {s s1 : KS} (eN : s1.N = s.N) (e9 : s1.A 9 = s.A 9) (e10 : s1.A 10 = s.A 10) (e11 : s1.A 11 = s.A 11) (e8 : s1.I 8 = s.I 8) (q : KQ s) : KQ s1 := by
  unfold KQ KCH KHT
  rw [eN, e9, e10, e11, e8]
  exact q
theorem TF_KQ {s s1 : KS} (h : TF s s1) (q : KQ s) : KQ s1 := KQ_e h.1 (h.2.2.1 9 (by decide) (by decide)).1 (h.2.2.1 10 (by decide) (by decide)).1 (h.2.2.1 11 (by decide) (by decide)).1 (h.2.2.2 8 (by decide) (by decide)) q
theorem TF_CX {s s1 : KS} (h : TF s s1) (q : CX s) : CX s1 := ⟨TF_CI h q.1, TF_KQ h q.2⟩
theorem kc_pairX (z : Value) (d c : Nat) (a b : Int) (hp : xx_H) (s : KS) (hK : KI c hp s) (hB : KB s) (hC : CX s) (lt : s.I 8 < 32768) (a0 : 0 ≤ a) (a1 : a < s.I 8) (b0 : 0 ≤ b) (b1 : b < s.I 8) : xx_cl (xt_P z) (d + 3) 194 [.ref (c + 4), .int (iI a), .int (iI b)] hp (fun v h1 => ∃ (k : Int) (s1 : KS), v = some (.int (iI k)) ∧ KI c h1 s1 ∧ KB s1 ∧ CX s1 ∧ kx c hp s h1 s1 0 0 ∧ KGR s s1 1 ∧ (0 ≤ k ∧ k < s1.I 8) ∧ s1.N k = kpair a b ∧ DK s1.N k = .add (DK s.N a) (DK s.N b)) := by
  refine cl_w (fun v h1 hq => ?_) (kz_pair z d c a b hp s hK hB ⟨hC.1, hC.2.1⟩ lt a0 a1 b0 b1)
  obtain ⟨k, s1, e1, K1, B1, X1, X2, G1, O1, N1, D1, H1, -⟩ := hq
  exact ⟨k, s1, e1, K1, B1, ⟨X1.1, X1.2, H1 hC.2.2⟩, X2, G1, O1, N1, D1⟩
theorem kc_naturalX (z : Value) (d c : Nat) (y : Int) (hp : xx_H) (s : KS) (hK : KI c hp s) (hB : KB s) (hC : CX s) (lt : s.I 8 < 32768) (y0 : 0 ≤ y) (y1 : y < 4611686018427387904) : xx_cl (xt_P z) (d + 3) 186 [.ref (c + 4), .long (Int64.ofInt y)] hp (fun v h1 => ∃ (k : Int) (s1 : KS), v = some (.int (iI k)) ∧ KI c h1 s1 ∧ KB s1 ∧ CX s1 ∧ kx c hp s h1 s1 0 0 ∧ KGR s s1 1 ∧ (0 ≤ k ∧ k < s1.I 8) ∧ s1.N k = y ∧ DK s1.N k = .num y) := by
  refine cl_w (fun v h1 hq => ?_) (kz_natural z d c y hp s hK hB ⟨hC.1, hC.2.1⟩ lt y0 y1)
  obtain ⟨k, s1, e1, K1, B1, X1, X2, G1, O1, N1, D1, H1, -⟩ := hq
  exact ⟨k, s1, e1, K1, B1, ⟨X1.1, X1.2, H1 hC.2.2⟩, X2, G1, O1, N1, D1⟩
