theorem TMq {c : Nat} {hp : xx_H} {s : KS} {u : Int} {a : Nat} {n : Int} {f : Int → Int} (h : TM c hp s u a n f) : ∃ q : Nat, KTL hp a q n f ∧ kn c s a ∧ kn c s q := by
  obtain ⟨⟨q, h1, h2, h3, -⟩, -⟩ := h
  exact ⟨q, h1, h2, h3⟩
theorem TMp {c : Nat} {hp : xx_H} {s : KS} {u : Int} {a : Nat} {n : Int} {f : Int → Int} (h : TM c hp s u a n f) : KTL hp a (a + 1) n f ∧ kn c s a ∧ kn c s (a + 1) := by
  obtain ⟨⟨q, h1, h2, h3, rfl⟩, -⟩ := h
  exact ⟨h1, h2, h3⟩
theorem tk_call {w t : Int} (t0 : 0 ≤ t) (t1 : t ≤ 7) : tk (w * 32 + t * 4 + 2) = t := by
  unfold tk
  omega
theorem MKT_fin {c : Nat} {hp h1 h2 : xx_H} {s s1 : KS} {u N : Int} {L : List Int} {v : Option Value} (hB : KB s1) (K : KI c h1 s1) (X : kx c hp s h1 s1 0 0) (F : TF s s1) (e : s1.I 6 = N) (h : (120 < s1.I 6 ∧ v = some .null ∧ h2 = h1) ∨ (s1.I 6 ≤ 120 ∧ v = some (.ref h1.length) ∧ KI c h2 s1 ∧ kx c h1 s1 h2 s1 2 (s1.I 6 + 1) ∧ TM c h2 s1 u h1.length (s1.I 6) (s1.A 6))) (hL : rl (s1.I 6) (s1.A 6) = L) : MKT c hp s u N L v h2 := by
  rcases h with ⟨a, b, rfl⟩ | ⟨a, b, c1, c2, c3⟩
  · exact ⟨s1, K, hB, F, Or.inl ⟨b, by omega, X, by have l9 := congrArg List.length hL; rw [rl_len] at l9; omega⟩⟩
  · rw [e] at c2 c3 a hL
    exact ⟨s1, c1, hB, F, Or.inr ⟨_, _, b, a, X.1, kx_w (kx_tr X c2) (by omega) (by omega), c3, hL⟩⟩
theorem kg_leaf (z : Value) (d c : Nat) (u x : Int) (hp : xx_H) (s : KS) (hK : KI c hp s) (hB : KB s) (hx : TVx u x) (ht : tk x = 0) : xx_cl (xt_P z) (d + 4) 258 [.ref (c + 25), .int (iI x)] hp (fun v h1 => MKT c hp s u 1 ([] ++ [x]) v h1) := by
  refine cl_go rfl ?_
  show xx_go (xt_P z) (d + 3) 258 0 [some (.ref (c + 25)), some (.int (iI x))] [] hp _
  refine go_a (pc' := 1) (ls' := [some (.ref (c + 25)), some (.int (iI x))]) (st' := [.ref (c + 25)]) rfl rfl ?_
  refine go_get (v := .ref (c + 26)) rfl (hK.1 16 (by decide)) rfl rfl ?_
  refine go_a (pc' := 5) (ls' := [some (.ref (c + 25)), some (.int (iI x))]) (st' := [.int (iI 0), .ref (c + 26)]) rfl rfl ?_
  refine go_v (m := 39) (as := [.ref (c + 26), .int (iI 0)]) (r := []) rfl rfl rfl (hK.1 17 (by decide)) rfl rfl (kb_cut z (d + 2) c u hp s hK hB) (fun v1 h1 hq => ?_)
  obtain ⟨rfl, s1, K1, B1, X1, F1, e1, R1⟩ := hq
  have X0_1 := X1
  have F0_1 := F1
  show xx_go (xt_P z) (d + 3) 258 8 [some (.ref (c + 25)), some (.int (iI x))] [] h1 _
  refine go_a (pc' := 9) (ls' := [some (.ref (c + 25)), some (.int (iI x))]) (st' := [.ref (c + 25)]) rfl rfl ?_
  refine go_get (v := .ref (c + 26)) rfl (K1.1 16 (by decide)) rfl rfl ?_
  refine go_a (pc' := 13) (ls' := [some (.ref (c + 25)), some (.int (iI x))]) (st' := [.int (iI x), .ref (c + 26)]) rfl rfl ?_
  refine go_v (m := 35) (as := [.ref (c + 26), .int (iI x)]) (r := []) rfl rfl rfl (K1.1 17 (by decide)) rfl rfl (kb_add z (d + 1) c u h1 s1 x 0 K1 B1 R1 (by omega) hx (by omega)) (fun v2 h2 hq => ?_)
  obtain ⟨rfl, s2, K2, B2, X2, F2, e2, R2, -⟩ := hq
  have X0_2 := kx_tr X0_1 X2
  have F0_2 := TF_tr F0_1 F2
  show xx_go (xt_P z) (d + 3) 258 16 [some (.ref (c + 25)), some (.int (iI x))] [] h2 _
  refine go_a (pc' := 17) (ls' := [some (.ref (c + 25)), some (.int (iI x))]) (st' := [.ref (c + 25)]) rfl rfl ?_
  have R := R2
  rw [show (0 + tk x - 1) = -1 by rw [ht]; omega] at R
  refine go_v (m := 223) (as := [.ref (c + 25)]) (r := []) rfl rfl rfl (K2.1 16 (by decide)) rfl rfl (kb_made z d c u h2 s2 K2 B2 R) (fun v h9 hq => ?_)
  have M := MKT_fin (hp := hp) (s := s) (N := 1) B2 K2 (kx_w X0_2 (by decide) (by decide)) F0_2 (by omega) hq R.2.2.2
  rcases hq with ⟨-, rfl, -⟩ | ⟨-, rfl, -⟩
  · show xx_go (xt_P z) (d + 3) 258 20 [some (.ref (c + 25)), some (.int (iI x))] [.null] h9 _
    exact go_r rfl rfl rfl rfl rfl rfl M
  · show xx_go (xt_P z) (d + 3) 258 20 [some (.ref (c + 25)), some (.int (iI x))] [.ref h2.length] h9 _
    exact go_r rfl rfl rfl rfl rfl rfl M
theorem kg_call1 (z : Value) (d c : Nat) (u w : Int) (hp : xx_H) (s : KS) (hK : KI c hp s) (hB : KB s) (w0 : 0 ≤ w) (w1 : w < 67108864) (a : Nat) (na : Int) (fa : Int → Int) (Ta : TM c hp s u a na fa) (hx : TVx u (w * 32 + 1 * 4 + 2)) : xx_cl (xt_P z) (d + 4) 294 [.ref (c + 25), .int (iI w), .ref a] hp (fun v h1 => MKT c hp s u (na + 1) ([] ++ [w * 32 + 1 * 4 + 2] ++ rl na fa) v h1) := by
  have na_ := TM_n Ta
  obtain ⟨qa, La, Laa, Laq⟩ := TMq Ta
  have tw : tk (w * 32 + 1 * 4 + 2) = 1 := tk_call (by decide) (by decide)
  refine cl_go rfl ?_
  show xx_go (xt_P z) (d + 3) 294 0 [some (.ref (c + 25)), some (.int (iI w)), some (.ref a)] [] hp _
  refine go_a (pc' := 1) (ls' := [some (.ref (c + 25)), some (.int (iI w)), some (.ref a)]) (st' := [.ref a]) rfl rfl ?_
  refine go_a (pc' := 6) (ls' := [some (.ref (c + 25)), some (.int (iI w)), some (.ref a)]) (st' := []) rfl rfl ?_
  refine go_a (pc' := 7) (ls' := [some (.ref (c + 25)), some (.int (iI w)), some (.ref a)]) (st' := [.ref (c + 25)]) rfl rfl ?_
  refine go_get (v := .ref (c + 26)) rfl (hK.1 16 (by decide)) rfl rfl ?_
  refine go_a (pc' := 11) (ls' := [some (.ref (c + 25)), some (.int (iI w)), some (.ref a)]) (st' := [.int (iI 0), .ref (c + 26)]) rfl rfl ?_
  refine go_v (m := 39) (as := [.ref (c + 26), .int (iI 0)]) (r := []) rfl rfl rfl (hK.1 17 (by decide)) rfl rfl (kb_cut z (d + 2) c u hp s hK hB) (fun v1 h1 hq => ?_)
  obtain ⟨rfl, s1, K1, B1, X1, F1, e1, R1⟩ := hq
  obtain ⟨La_1, Laa_1, Laq_1⟩ := KTL_kx La Laa Laq X1
  have X0_1 := X1
  have F0_1 := F1
  show xx_go (xt_P z) (d + 3) 294 14 [some (.ref (c + 25)), some (.int (iI w)), some (.ref a)] [] h1 _
  refine go_a (pc' := 15) (ls' := [some (.ref (c + 25)), some (.int (iI w)), some (.ref a)]) (st' := [.ref (c + 25)]) rfl rfl ?_
  refine go_get (v := .ref (c + 26)) rfl (K1.1 16 (by decide)) rfl rfl ?_
  refine go_a (pc' := 19) (ls' := [some (.ref (c + 25)), some (.int (iI w)), some (.ref a)]) (st' := [.int (iI w), .ref (c + 26)]) rfl rfl ?_
  refine go_a (pc' := 20) (ls' := [some (.ref (c + 25)), some (.int (iI w)), some (.ref a)]) (st' := [.int (iI 1), .int (iI w), .ref (c + 26)]) rfl rfl ?_
  refine go_s (m := 209) (as := [.int (iI w), .int (iI 1)]) (r := [.ref (c + 26)]) rfl rfl rfl rfl (kg_call z (d + 2) w 1 h1 w0 w1 (by decide) (by decide)) (fun v hh hq => ?_)
  obtain ⟨rfl, e⟩ := hq
  rw [e]
  clear e hh
  show xx_go (xt_P z) (d + 3) 294 23 [some (.ref (c + 25)), some (.int (iI w)), some (.ref a)] [.int (iI (w * 32 + 1 * 4 + 2)), .ref (c + 26)] h1 _
  refine go_v (m := 35) (as := [.ref (c + 26), .int (iI (w * 32 + 1 * 4 + 2))]) (r := []) rfl rfl rfl (K1.1 17 (by decide)) rfl rfl (kb_add z (d + 1) c u h1 s1 (w * 32 + 1 * 4 + 2) 0 K1 B1 R1 (by omega) hx (by omega)) (fun v2 h2 hq => ?_)
  obtain ⟨rfl, s2, K2, B2, X2, F2, e2, R2, -⟩ := hq
  obtain ⟨La_2, Laa_2, Laq_2⟩ := KTL_kx La_1 Laa_1 Laq_1 X2
  have X0_2 := kx_tr X0_1 X2
  have F0_2 := TF_tr F0_1 F2
  show xx_go (xt_P z) (d + 3) 294 26 [some (.ref (c + 25)), some (.int (iI w)), some (.ref a)] [] h2 _
  refine go_a (pc' := 27) (ls' := [some (.ref (c + 25)), some (.int (iI w)), some (.ref a)]) (st' := [.ref (c + 25)]) rfl rfl ?_
  refine go_get (v := .ref (c + 26)) rfl (K2.1 16 (by decide)) rfl rfl ?_
  refine go_a (pc' := 31) (ls' := [some (.ref (c + 25)), some (.int (iI w)), some (.ref a)]) (st' := [.ref a, .ref (c + 26)]) rfl rfl ?_
  refine go_get (v := .ref qa) rfl La_2.1 rfl rfl ?_
  refine go_v (m := 260) (as := [.ref (c + 26), .ref qa]) (r := []) rfl rfl rfl (K2.1 17 (by decide)) rfl rfl (kb_all z (d + 1) c u h2 s2 qa na ((0 + tk (w * 32 + 1 * 4 + 2) - 1)) fa K2 B2 R2 (by rw [tw]; omega) ⟨La_2.2.1, ⟨by omega, by omega⟩, La_2.2.2.2⟩ Laq_2 (by omega) Ta.2.1 Ta.2.2 (by omega)) (fun v3 h3 hq => ?_)
  obtain ⟨rfl, s3, K3, B3, X3, F3, e3, R3, -⟩ := hq
  obtain ⟨La_3, Laa_3, Laq_3⟩ := KTL_kx La_2 Laa_2 Laq_2 X3
  have X0_3 := kx_tr X0_2 X3
  have F0_3 := TF_tr F0_2 F3
  show xx_go (xt_P z) (d + 3) 294 37 [some (.ref (c + 25)), some (.int (iI w)), some (.ref a)] [] h3 _
  refine go_a (pc' := 38) (ls' := [some (.ref (c + 25)), some (.int (iI w)), some (.ref a)]) (st' := [.ref (c + 25)]) rfl rfl ?_
  have R := R3
  rw [show ((0 + tk (w * 32 + 1 * 4 + 2) - 1) - 1) = -1 by rw [tw]; omega] at R
  refine go_v (m := 223) (as := [.ref (c + 25)]) (r := []) rfl rfl rfl (K3.1 16 (by decide)) rfl rfl (kb_made z d c u h3 s3 K3 B3 R) (fun v h9 hq => ?_)
  have M := MKT_fin (hp := hp) (s := s) (N := na + 1) B3 K3 (kx_w X0_3 (by decide) (by decide)) F0_3 (by omega) hq R.2.2.2
  rcases hq with ⟨-, rfl, -⟩ | ⟨-, rfl, -⟩
  · show xx_go (xt_P z) (d + 3) 294 41 [some (.ref (c + 25)), some (.int (iI w)), some (.ref a)] [.null] h9 _
    exact go_r rfl rfl rfl rfl rfl rfl M
  · show xx_go (xt_P z) (d + 3) 294 41 [some (.ref (c + 25)), some (.int (iI w)), some (.ref a)] [.ref h3.length] h9 _
    exact go_r rfl rfl rfl rfl rfl rfl M
theorem kg_call2 (z : Value) (d c : Nat) (u w : Int) (hp : xx_H) (s : KS) (hK : KI c hp s) (hB : KB s) (w0 : 0 ≤ w) (w1 : w < 67108864) (a : Nat) (na : Int) (fa : Int → Int) (Ta : TM c hp s u a na fa) (b : Nat) (nb : Int) (fb : Int → Int) (Tb : TM c hp s u b nb fb) (hx : TVx u (w * 32 + 2 * 4 + 2)) : xx_cl (xt_P z) (d + 4) 259 [.ref (c + 25), .int (iI w), .ref a, .ref b] hp (fun v h1 => MKT c hp s u (na + nb + 1) ([] ++ [w * 32 + 2 * 4 + 2] ++ rl na fa ++ rl nb fb) v h1) := by
  have na_ := TM_n Ta
  obtain ⟨qa, La, Laa, Laq⟩ := TMq Ta
  have nb_ := TM_n Tb
  obtain ⟨qb, Lb, Lba, Lbq⟩ := TMq Tb
  have tw : tk (w * 32 + 2 * 4 + 2) = 2 := tk_call (by decide) (by decide)
  refine cl_go rfl ?_
  show xx_go (xt_P z) (d + 3) 259 0 [some (.ref (c + 25)), some (.int (iI w)), some (.ref a), some (.ref b)] [] hp _
  refine go_a (pc' := 1) (ls' := [some (.ref (c + 25)), some (.int (iI w)), some (.ref a), some (.ref b)]) (st' := [.ref a]) rfl rfl ?_
  refine go_a (pc' := 4) (ls' := [some (.ref (c + 25)), some (.int (iI w)), some (.ref a), some (.ref b)]) (st' := []) rfl rfl ?_
  refine go_a (pc' := 5) (ls' := [some (.ref (c + 25)), some (.int (iI w)), some (.ref a), some (.ref b)]) (st' := [.ref b]) rfl rfl ?_
  refine go_a (pc' := 10) (ls' := [some (.ref (c + 25)), some (.int (iI w)), some (.ref a), some (.ref b)]) (st' := []) rfl rfl ?_
  refine go_a (pc' := 11) (ls' := [some (.ref (c + 25)), some (.int (iI w)), some (.ref a), some (.ref b)]) (st' := [.ref (c + 25)]) rfl rfl ?_
  refine go_get (v := .ref (c + 26)) rfl (hK.1 16 (by decide)) rfl rfl ?_
  refine go_a (pc' := 15) (ls' := [some (.ref (c + 25)), some (.int (iI w)), some (.ref a), some (.ref b)]) (st' := [.int (iI 0), .ref (c + 26)]) rfl rfl ?_
  refine go_v (m := 39) (as := [.ref (c + 26), .int (iI 0)]) (r := []) rfl rfl rfl (hK.1 17 (by decide)) rfl rfl (kb_cut z (d + 2) c u hp s hK hB) (fun v1 h1 hq => ?_)
  obtain ⟨rfl, s1, K1, B1, X1, F1, e1, R1⟩ := hq
  obtain ⟨La_1, Laa_1, Laq_1⟩ := KTL_kx La Laa Laq X1
  obtain ⟨Lb_1, Lba_1, Lbq_1⟩ := KTL_kx Lb Lba Lbq X1
  have X0_1 := X1
  have F0_1 := F1
  show xx_go (xt_P z) (d + 3) 259 18 [some (.ref (c + 25)), some (.int (iI w)), some (.ref a), some (.ref b)] [] h1 _
  refine go_a (pc' := 19) (ls' := [some (.ref (c + 25)), some (.int (iI w)), some (.ref a), some (.ref b)]) (st' := [.ref (c + 25)]) rfl rfl ?_
  refine go_get (v := .ref (c + 26)) rfl (K1.1 16 (by decide)) rfl rfl ?_
  refine go_a (pc' := 23) (ls' := [some (.ref (c + 25)), some (.int (iI w)), some (.ref a), some (.ref b)]) (st' := [.int (iI w), .ref (c + 26)]) rfl rfl ?_
  refine go_a (pc' := 24) (ls' := [some (.ref (c + 25)), some (.int (iI w)), some (.ref a), some (.ref b)]) (st' := [.int (iI 2), .int (iI w), .ref (c + 26)]) rfl rfl ?_
  refine go_s (m := 209) (as := [.int (iI w), .int (iI 2)]) (r := [.ref (c + 26)]) rfl rfl rfl rfl (kg_call z (d + 2) w 2 h1 w0 w1 (by decide) (by decide)) (fun v hh hq => ?_)
  obtain ⟨rfl, e⟩ := hq
  rw [e]
  clear e hh
  show xx_go (xt_P z) (d + 3) 259 27 [some (.ref (c + 25)), some (.int (iI w)), some (.ref a), some (.ref b)] [.int (iI (w * 32 + 2 * 4 + 2)), .ref (c + 26)] h1 _
  refine go_v (m := 35) (as := [.ref (c + 26), .int (iI (w * 32 + 2 * 4 + 2))]) (r := []) rfl rfl rfl (K1.1 17 (by decide)) rfl rfl (kb_add z (d + 1) c u h1 s1 (w * 32 + 2 * 4 + 2) 0 K1 B1 R1 (by omega) hx (by omega)) (fun v2 h2 hq => ?_)
  obtain ⟨rfl, s2, K2, B2, X2, F2, e2, R2, -⟩ := hq
  obtain ⟨La_2, Laa_2, Laq_2⟩ := KTL_kx La_1 Laa_1 Laq_1 X2
  obtain ⟨Lb_2, Lba_2, Lbq_2⟩ := KTL_kx Lb_1 Lba_1 Lbq_1 X2
  have X0_2 := kx_tr X0_1 X2
  have F0_2 := TF_tr F0_1 F2
  show xx_go (xt_P z) (d + 3) 259 30 [some (.ref (c + 25)), some (.int (iI w)), some (.ref a), some (.ref b)] [] h2 _
  refine go_a (pc' := 31) (ls' := [some (.ref (c + 25)), some (.int (iI w)), some (.ref a), some (.ref b)]) (st' := [.ref (c + 25)]) rfl rfl ?_
  refine go_get (v := .ref (c + 26)) rfl (K2.1 16 (by decide)) rfl rfl ?_
  refine go_a (pc' := 35) (ls' := [some (.ref (c + 25)), some (.int (iI w)), some (.ref a), some (.ref b)]) (st' := [.ref a, .ref (c + 26)]) rfl rfl ?_
  refine go_get (v := .ref qa) rfl La_2.1 rfl rfl ?_
  refine go_v (m := 260) (as := [.ref (c + 26), .ref qa]) (r := []) rfl rfl rfl (K2.1 17 (by decide)) rfl rfl (kb_all z (d + 1) c u h2 s2 qa na ((0 + tk (w * 32 + 2 * 4 + 2) - 1)) fa K2 B2 R2 (by rw [tw]; omega) ⟨La_2.2.1, ⟨by omega, by omega⟩, La_2.2.2.2⟩ Laq_2 (by omega) Ta.2.1 Ta.2.2 (by omega)) (fun v3 h3 hq => ?_)
  obtain ⟨rfl, s3, K3, B3, X3, F3, e3, R3, -⟩ := hq
  obtain ⟨La_3, Laa_3, Laq_3⟩ := KTL_kx La_2 Laa_2 Laq_2 X3
  obtain ⟨Lb_3, Lba_3, Lbq_3⟩ := KTL_kx Lb_2 Lba_2 Lbq_2 X3
  have X0_3 := kx_tr X0_2 X3
  have F0_3 := TF_tr F0_2 F3
  show xx_go (xt_P z) (d + 3) 259 41 [some (.ref (c + 25)), some (.int (iI w)), some (.ref a), some (.ref b)] [] h3 _
  refine go_a (pc' := 42) (ls' := [some (.ref (c + 25)), some (.int (iI w)), some (.ref a), some (.ref b)]) (st' := [.ref (c + 25)]) rfl rfl ?_
  refine go_get (v := .ref (c + 26)) rfl (K3.1 16 (by decide)) rfl rfl ?_
  refine go_a (pc' := 46) (ls' := [some (.ref (c + 25)), some (.int (iI w)), some (.ref a), some (.ref b)]) (st' := [.ref b, .ref (c + 26)]) rfl rfl ?_
  refine go_get (v := .ref qb) rfl Lb_3.1 rfl rfl ?_
  refine go_v (m := 260) (as := [.ref (c + 26), .ref qb]) (r := []) rfl rfl rfl (K3.1 17 (by decide)) rfl rfl (kb_all z (d + 1) c u h3 s3 qb nb (((0 + tk (w * 32 + 2 * 4 + 2) - 1) - 1)) fb K3 B3 R3 (by rw [tw]; omega) ⟨Lb_3.2.1, ⟨by omega, by omega⟩, Lb_3.2.2.2⟩ Lbq_3 (by omega) Tb.2.1 Tb.2.2 (by omega)) (fun v4 h4 hq => ?_)
  obtain ⟨rfl, s4, K4, B4, X4, F4, e4, R4, -⟩ := hq
  obtain ⟨La_4, Laa_4, Laq_4⟩ := KTL_kx La_3 Laa_3 Laq_3 X4
  obtain ⟨Lb_4, Lba_4, Lbq_4⟩ := KTL_kx Lb_3 Lba_3 Lbq_3 X4
  have X0_4 := kx_tr X0_3 X4
  have F0_4 := TF_tr F0_3 F4
  show xx_go (xt_P z) (d + 3) 259 52 [some (.ref (c + 25)), some (.int (iI w)), some (.ref a), some (.ref b)] [] h4 _
  refine go_a (pc' := 53) (ls' := [some (.ref (c + 25)), some (.int (iI w)), some (.ref a), some (.ref b)]) (st' := [.ref (c + 25)]) rfl rfl ?_
  have R := R4
  rw [show (((0 + tk (w * 32 + 2 * 4 + 2) - 1) - 1) - 1) = -1 by rw [tw]; omega] at R
  refine go_v (m := 223) (as := [.ref (c + 25)]) (r := []) rfl rfl rfl (K4.1 16 (by decide)) rfl rfl (kb_made z d c u h4 s4 K4 B4 R) (fun v h9 hq => ?_)
  have M := MKT_fin (hp := hp) (s := s) (N := na + nb + 1) B4 K4 (kx_w X0_4 (by decide) (by decide)) F0_4 (by omega) hq R.2.2.2
  rcases hq with ⟨-, rfl, -⟩ | ⟨-, rfl, -⟩
  · show xx_go (xt_P z) (d + 3) 259 56 [some (.ref (c + 25)), some (.int (iI w)), some (.ref a), some (.ref b)] [.null] h9 _
    exact go_r rfl rfl rfl rfl rfl rfl M
  · show xx_go (xt_P z) (d + 3) 259 56 [some (.ref (c + 25)), some (.int (iI w)), some (.ref a), some (.ref b)] [.ref h4.length] h9 _
    exact go_r rfl rfl rfl rfl rfl rfl M
theorem kg_call3 (z : Value) (d c : Nat) (u w : Int) (hp : xx_H) (s : KS) (hK : KI c hp s) (hB : KB s) (w0 : 0 ≤ w) (w1 : w < 67108864) (a : Nat) (na : Int) (fa : Int → Int) (Ta : TM c hp s u a na fa) (b : Nat) (nb : Int) (fb : Int → Int) (Tb : TM c hp s u b nb fb) (e : Nat) (ne : Int) (fe : Int → Int) (Te : TM c hp s u e ne fe) (hx : TVx u (w * 32 + 3 * 4 + 2)) : xx_cl (xt_P z) (d + 4) 295 [.ref (c + 25), .int (iI w), .ref a, .ref b, .ref e] hp (fun v h1 => MKT c hp s u (na + nb + ne + 1) ([] ++ [w * 32 + 3 * 4 + 2] ++ rl na fa ++ rl nb fb ++ rl ne fe) v h1) := by
  have na_ := TM_n Ta
  obtain ⟨qa, La, Laa, Laq⟩ := TMq Ta
  have nb_ := TM_n Tb
  obtain ⟨qb, Lb, Lba, Lbq⟩ := TMq Tb
  have ne_ := TM_n Te
  obtain ⟨qe, Le, Lea, Leq⟩ := TMq Te
  have tw : tk (w * 32 + 3 * 4 + 2) = 3 := tk_call (by decide) (by decide)
  refine cl_go rfl ?_
  show xx_go (xt_P z) (d + 3) 295 0 [some (.ref (c + 25)), some (.int (iI w)), some (.ref a), some (.ref b), some (.ref e)] [] hp _
  refine go_a (pc' := 1) (ls' := [some (.ref (c + 25)), some (.int (iI w)), some (.ref a), some (.ref b), some (.ref e)]) (st' := [.ref a]) rfl rfl ?_
  refine go_a (pc' := 4) (ls' := [some (.ref (c + 25)), some (.int (iI w)), some (.ref a), some (.ref b), some (.ref e)]) (st' := []) rfl rfl ?_
  refine go_a (pc' := 5) (ls' := [some (.ref (c + 25)), some (.int (iI w)), some (.ref a), some (.ref b), some (.ref e)]) (st' := [.ref b]) rfl rfl ?_
  refine go_a (pc' := 8) (ls' := [some (.ref (c + 25)), some (.int (iI w)), some (.ref a), some (.ref b), some (.ref e)]) (st' := []) rfl rfl ?_
  refine go_a (pc' := 10) (ls' := [some (.ref (c + 25)), some (.int (iI w)), some (.ref a), some (.ref b), some (.ref e)]) (st' := [.ref e]) rfl rfl ?_
  refine go_a (pc' := 15) (ls' := [some (.ref (c + 25)), some (.int (iI w)), some (.ref a), some (.ref b), some (.ref e)]) (st' := []) rfl rfl ?_
  refine go_a (pc' := 16) (ls' := [some (.ref (c + 25)), some (.int (iI w)), some (.ref a), some (.ref b), some (.ref e)]) (st' := [.ref (c + 25)]) rfl rfl ?_
  refine go_get (v := .ref (c + 26)) rfl (hK.1 16 (by decide)) rfl rfl ?_
  refine go_a (pc' := 20) (ls' := [some (.ref (c + 25)), some (.int (iI w)), some (.ref a), some (.ref b), some (.ref e)]) (st' := [.int (iI 0), .ref (c + 26)]) rfl rfl ?_
  refine go_v (m := 39) (as := [.ref (c + 26), .int (iI 0)]) (r := []) rfl rfl rfl (hK.1 17 (by decide)) rfl rfl (kb_cut z (d + 2) c u hp s hK hB) (fun v1 h1 hq => ?_)
  obtain ⟨rfl, s1, K1, B1, X1, F1, e1, R1⟩ := hq
  obtain ⟨La_1, Laa_1, Laq_1⟩ := KTL_kx La Laa Laq X1
  obtain ⟨Lb_1, Lba_1, Lbq_1⟩ := KTL_kx Lb Lba Lbq X1
  obtain ⟨Le_1, Lea_1, Leq_1⟩ := KTL_kx Le Lea Leq X1
  have X0_1 := X1
  have F0_1 := F1
  show xx_go (xt_P z) (d + 3) 295 23 [some (.ref (c + 25)), some (.int (iI w)), some (.ref a), some (.ref b), some (.ref e)] [] h1 _
  refine go_a (pc' := 24) (ls' := [some (.ref (c + 25)), some (.int (iI w)), some (.ref a), some (.ref b), some (.ref e)]) (st' := [.ref (c + 25)]) rfl rfl ?_
  refine go_get (v := .ref (c + 26)) rfl (K1.1 16 (by decide)) rfl rfl ?_
  refine go_a (pc' := 28) (ls' := [some (.ref (c + 25)), some (.int (iI w)), some (.ref a), some (.ref b), some (.ref e)]) (st' := [.int (iI w), .ref (c + 26)]) rfl rfl ?_
  refine go_a (pc' := 29) (ls' := [some (.ref (c + 25)), some (.int (iI w)), some (.ref a), some (.ref b), some (.ref e)]) (st' := [.int (iI 3), .int (iI w), .ref (c + 26)]) rfl rfl ?_
  refine go_s (m := 209) (as := [.int (iI w), .int (iI 3)]) (r := [.ref (c + 26)]) rfl rfl rfl rfl (kg_call z (d + 2) w 3 h1 w0 w1 (by decide) (by decide)) (fun v hh hq => ?_)
  obtain ⟨rfl, e⟩ := hq
  rw [e]
  clear e hh
  show xx_go (xt_P z) (d + 3) 295 32 [some (.ref (c + 25)), some (.int (iI w)), some (.ref a), some (.ref b), some (.ref e)] [.int (iI (w * 32 + 3 * 4 + 2)), .ref (c + 26)] h1 _
  refine go_v (m := 35) (as := [.ref (c + 26), .int (iI (w * 32 + 3 * 4 + 2))]) (r := []) rfl rfl rfl (K1.1 17 (by decide)) rfl rfl (kb_add z (d + 1) c u h1 s1 (w * 32 + 3 * 4 + 2) 0 K1 B1 R1 (by omega) hx (by omega)) (fun v2 h2 hq => ?_)
  obtain ⟨rfl, s2, K2, B2, X2, F2, e2, R2, -⟩ := hq
  obtain ⟨La_2, Laa_2, Laq_2⟩ := KTL_kx La_1 Laa_1 Laq_1 X2
  obtain ⟨Lb_2, Lba_2, Lbq_2⟩ := KTL_kx Lb_1 Lba_1 Lbq_1 X2
  obtain ⟨Le_2, Lea_2, Leq_2⟩ := KTL_kx Le_1 Lea_1 Leq_1 X2
  have X0_2 := kx_tr X0_1 X2
  have F0_2 := TF_tr F0_1 F2
  show xx_go (xt_P z) (d + 3) 295 35 [some (.ref (c + 25)), some (.int (iI w)), some (.ref a), some (.ref b), some (.ref e)] [] h2 _
  refine go_a (pc' := 36) (ls' := [some (.ref (c + 25)), some (.int (iI w)), some (.ref a), some (.ref b), some (.ref e)]) (st' := [.ref (c + 25)]) rfl rfl ?_
  refine go_get (v := .ref (c + 26)) rfl (K2.1 16 (by decide)) rfl rfl ?_
  refine go_a (pc' := 40) (ls' := [some (.ref (c + 25)), some (.int (iI w)), some (.ref a), some (.ref b), some (.ref e)]) (st' := [.ref a, .ref (c + 26)]) rfl rfl ?_
  refine go_get (v := .ref qa) rfl La_2.1 rfl rfl ?_
  refine go_v (m := 260) (as := [.ref (c + 26), .ref qa]) (r := []) rfl rfl rfl (K2.1 17 (by decide)) rfl rfl (kb_all z (d + 1) c u h2 s2 qa na ((0 + tk (w * 32 + 3 * 4 + 2) - 1)) fa K2 B2 R2 (by rw [tw]; omega) ⟨La_2.2.1, ⟨by omega, by omega⟩, La_2.2.2.2⟩ Laq_2 (by omega) Ta.2.1 Ta.2.2 (by omega)) (fun v3 h3 hq => ?_)
  obtain ⟨rfl, s3, K3, B3, X3, F3, e3, R3, -⟩ := hq
  obtain ⟨La_3, Laa_3, Laq_3⟩ := KTL_kx La_2 Laa_2 Laq_2 X3
  obtain ⟨Lb_3, Lba_3, Lbq_3⟩ := KTL_kx Lb_2 Lba_2 Lbq_2 X3
  obtain ⟨Le_3, Lea_3, Leq_3⟩ := KTL_kx Le_2 Lea_2 Leq_2 X3
  have X0_3 := kx_tr X0_2 X3
  have F0_3 := TF_tr F0_2 F3
  show xx_go (xt_P z) (d + 3) 295 46 [some (.ref (c + 25)), some (.int (iI w)), some (.ref a), some (.ref b), some (.ref e)] [] h3 _
  refine go_a (pc' := 47) (ls' := [some (.ref (c + 25)), some (.int (iI w)), some (.ref a), some (.ref b), some (.ref e)]) (st' := [.ref (c + 25)]) rfl rfl ?_
  refine go_get (v := .ref (c + 26)) rfl (K3.1 16 (by decide)) rfl rfl ?_
  refine go_a (pc' := 51) (ls' := [some (.ref (c + 25)), some (.int (iI w)), some (.ref a), some (.ref b), some (.ref e)]) (st' := [.ref b, .ref (c + 26)]) rfl rfl ?_
  refine go_get (v := .ref qb) rfl Lb_3.1 rfl rfl ?_
  refine go_v (m := 260) (as := [.ref (c + 26), .ref qb]) (r := []) rfl rfl rfl (K3.1 17 (by decide)) rfl rfl (kb_all z (d + 1) c u h3 s3 qb nb (((0 + tk (w * 32 + 3 * 4 + 2) - 1) - 1)) fb K3 B3 R3 (by rw [tw]; omega) ⟨Lb_3.2.1, ⟨by omega, by omega⟩, Lb_3.2.2.2⟩ Lbq_3 (by omega) Tb.2.1 Tb.2.2 (by omega)) (fun v4 h4 hq => ?_)
  obtain ⟨rfl, s4, K4, B4, X4, F4, e4, R4, -⟩ := hq
  obtain ⟨La_4, Laa_4, Laq_4⟩ := KTL_kx La_3 Laa_3 Laq_3 X4
  obtain ⟨Lb_4, Lba_4, Lbq_4⟩ := KTL_kx Lb_3 Lba_3 Lbq_3 X4
  obtain ⟨Le_4, Lea_4, Leq_4⟩ := KTL_kx Le_3 Lea_3 Leq_3 X4
  have X0_4 := kx_tr X0_3 X4
  have F0_4 := TF_tr F0_3 F4
  show xx_go (xt_P z) (d + 3) 295 57 [some (.ref (c + 25)), some (.int (iI w)), some (.ref a), some (.ref b), some (.ref e)] [] h4 _
  refine go_a (pc' := 58) (ls' := [some (.ref (c + 25)), some (.int (iI w)), some (.ref a), some (.ref b), some (.ref e)]) (st' := [.ref (c + 25)]) rfl rfl ?_
  refine go_get (v := .ref (c + 26)) rfl (K4.1 16 (by decide)) rfl rfl ?_
  refine go_a (pc' := 63) (ls' := [some (.ref (c + 25)), some (.int (iI w)), some (.ref a), some (.ref b), some (.ref e)]) (st' := [.ref e, .ref (c + 26)]) rfl rfl ?_
  refine go_get (v := .ref qe) rfl Le_4.1 rfl rfl ?_
  refine go_v (m := 260) (as := [.ref (c + 26), .ref qe]) (r := []) rfl rfl rfl (K4.1 17 (by decide)) rfl rfl (kb_all z (d + 1) c u h4 s4 qe ne ((((0 + tk (w * 32 + 3 * 4 + 2) - 1) - 1) - 1)) fe K4 B4 R4 (by rw [tw]; omega) ⟨Le_4.2.1, ⟨by omega, by omega⟩, Le_4.2.2.2⟩ Leq_4 (by omega) Te.2.1 Te.2.2 (by omega)) (fun v5 h5 hq => ?_)
  obtain ⟨rfl, s5, K5, B5, X5, F5, e5, R5, -⟩ := hq
  obtain ⟨La_5, Laa_5, Laq_5⟩ := KTL_kx La_4 Laa_4 Laq_4 X5
  obtain ⟨Lb_5, Lba_5, Lbq_5⟩ := KTL_kx Lb_4 Lba_4 Lbq_4 X5
  obtain ⟨Le_5, Lea_5, Leq_5⟩ := KTL_kx Le_4 Lea_4 Leq_4 X5
  have X0_5 := kx_tr X0_4 X5
  have F0_5 := TF_tr F0_4 F5
  show xx_go (xt_P z) (d + 3) 295 69 [some (.ref (c + 25)), some (.int (iI w)), some (.ref a), some (.ref b), some (.ref e)] [] h5 _
  refine go_a (pc' := 70) (ls' := [some (.ref (c + 25)), some (.int (iI w)), some (.ref a), some (.ref b), some (.ref e)]) (st' := [.ref (c + 25)]) rfl rfl ?_
  have R := R5
  rw [show ((((0 + tk (w * 32 + 3 * 4 + 2) - 1) - 1) - 1) - 1) = -1 by rw [tw]; omega] at R
  refine go_v (m := 223) (as := [.ref (c + 25)]) (r := []) rfl rfl rfl (K5.1 16 (by decide)) rfl rfl (kb_made z d c u h5 s5 K5 B5 R) (fun v h9 hq => ?_)
  have M := MKT_fin (hp := hp) (s := s) (N := na + nb + ne + 1) B5 K5 (kx_w X0_5 (by decide) (by decide)) F0_5 (by omega) hq R.2.2.2
  rcases hq with ⟨-, rfl, -⟩ | ⟨-, rfl, -⟩
  · show xx_go (xt_P z) (d + 3) 295 73 [some (.ref (c + 25)), some (.int (iI w)), some (.ref a), some (.ref b), some (.ref e)] [.null] h9 _
    exact go_r rfl rfl rfl rfl rfl rfl M
  · show xx_go (xt_P z) (d + 3) 295 73 [some (.ref (c + 25)), some (.int (iI w)), some (.ref a), some (.ref b), some (.ref e)] [.ref h5.length] h9 _
    exact go_r rfl rfl rfl rfl rfl rfl M
theorem kg_call1n (z : Value) (d c : Nat) (w : Int) (hp : xx_H) (va : Value) (ha : va = .null ∨ ∃ k : Nat, va = .ref k) (hn : va = .null) : xx_cl (xt_P z) (d + 1) 294 [.ref (c + 25), .int (iI w), va] hp (fun v h1 => v = some .null ∧ h1 = hp) := by
  rcases ha with rfl | ⟨a, rfl⟩
  · refine cl_go rfl ?_
    show xx_go (xt_P z) d 294 0 [some (.ref (c + 25)), some (.int (iI w)), some (.null)] [] hp _
    refine go_a (pc' := 1) (ls' := [some (.ref (c + 25)), some (.int (iI w)), some (.null)]) (st' := [.null]) rfl rfl ?_
    refine go_a (pc' := 4) (ls' := [some (.ref (c + 25)), some (.int (iI w)), some (.null)]) (st' := []) rfl rfl ?_
    refine go_a (pc' := 5) (ls' := [some (.ref (c + 25)), some (.int (iI w)), some (.null)]) (st' := [.null]) rfl rfl ?_
    exact go_r rfl rfl rfl rfl rfl rfl ⟨rfl, rfl⟩
  · exact absurd hn (by simp)
theorem kg_call2n (z : Value) (d c : Nat) (w : Int) (hp : xx_H) (va : Value) (ha : va = .null ∨ ∃ k : Nat, va = .ref k) (vb : Value) (hb : vb = .null ∨ ∃ k : Nat, vb = .ref k) (hn : va = .null ∨ vb = .null) : xx_cl (xt_P z) (d + 1) 259 [.ref (c + 25), .int (iI w), va, vb] hp (fun v h1 => v = some .null ∧ h1 = hp) := by
  rcases ha with rfl | ⟨a, rfl⟩
  · rcases hb with rfl | ⟨b, rfl⟩
    · refine cl_go rfl ?_
      show xx_go (xt_P z) d 259 0 [some (.ref (c + 25)), some (.int (iI w)), some (.null), some (.null)] [] hp _
      refine go_a (pc' := 1) (ls' := [some (.ref (c + 25)), some (.int (iI w)), some (.null), some (.null)]) (st' := [.null]) rfl rfl ?_
      refine go_a (pc' := 8) (ls' := [some (.ref (c + 25)), some (.int (iI w)), some (.null), some (.null)]) (st' := []) rfl rfl ?_
      refine go_a (pc' := 9) (ls' := [some (.ref (c + 25)), some (.int (iI w)), some (.null), some (.null)]) (st' := [.null]) rfl rfl ?_
      exact go_r rfl rfl rfl rfl rfl rfl ⟨rfl, rfl⟩
    · refine cl_go rfl ?_
      show xx_go (xt_P z) d 259 0 [some (.ref (c + 25)), some (.int (iI w)), some (.null), some (.ref b)] [] hp _
      refine go_a (pc' := 1) (ls' := [some (.ref (c + 25)), some (.int (iI w)), some (.null), some (.ref b)]) (st' := [.null]) rfl rfl ?_
      refine go_a (pc' := 8) (ls' := [some (.ref (c + 25)), some (.int (iI w)), some (.null), some (.ref b)]) (st' := []) rfl rfl ?_
      refine go_a (pc' := 9) (ls' := [some (.ref (c + 25)), some (.int (iI w)), some (.null), some (.ref b)]) (st' := [.null]) rfl rfl ?_
      exact go_r rfl rfl rfl rfl rfl rfl ⟨rfl, rfl⟩
  · rcases hb with rfl | ⟨b, rfl⟩
    · refine cl_go rfl ?_
      show xx_go (xt_P z) d 259 0 [some (.ref (c + 25)), some (.int (iI w)), some (.ref a), some (.null)] [] hp _
      refine go_a (pc' := 1) (ls' := [some (.ref (c + 25)), some (.int (iI w)), some (.ref a), some (.null)]) (st' := [.ref a]) rfl rfl ?_
      refine go_a (pc' := 4) (ls' := [some (.ref (c + 25)), some (.int (iI w)), some (.ref a), some (.null)]) (st' := []) rfl rfl ?_
      refine go_a (pc' := 5) (ls' := [some (.ref (c + 25)), some (.int (iI w)), some (.ref a), some (.null)]) (st' := [.null]) rfl rfl ?_
      refine go_a (pc' := 8) (ls' := [some (.ref (c + 25)), some (.int (iI w)), some (.ref a), some (.null)]) (st' := []) rfl rfl ?_
      refine go_a (pc' := 9) (ls' := [some (.ref (c + 25)), some (.int (iI w)), some (.ref a), some (.null)]) (st' := [.null]) rfl rfl ?_
      exact go_r rfl rfl rfl rfl rfl rfl ⟨rfl, rfl⟩
    · exact absurd hn (by simp)
theorem kg_call3n (z : Value) (d c : Nat) (w : Int) (hp : xx_H) (va : Value) (ha : va = .null ∨ ∃ k : Nat, va = .ref k) (vb : Value) (hb : vb = .null ∨ ∃ k : Nat, vb = .ref k) (ve : Value) (he : ve = .null ∨ ∃ k : Nat, ve = .ref k) (hn : va = .null ∨ vb = .null ∨ ve = .null) : xx_cl (xt_P z) (d + 1) 295 [.ref (c + 25), .int (iI w), va, vb, ve] hp (fun v h1 => v = some .null ∧ h1 = hp) := by
  rcases ha with rfl | ⟨a, rfl⟩
  · rcases hb with rfl | ⟨b, rfl⟩
    · rcases he with rfl | ⟨e, rfl⟩
      · refine cl_go rfl ?_
        show xx_go (xt_P z) d 295 0 [some (.ref (c + 25)), some (.int (iI w)), some (.null), some (.null), some (.null)] [] hp _
        refine go_a (pc' := 1) (ls' := [some (.ref (c + 25)), some (.int (iI w)), some (.null), some (.null), some (.null)]) (st' := [.null]) rfl rfl ?_
        refine go_a (pc' := 13) (ls' := [some (.ref (c + 25)), some (.int (iI w)), some (.null), some (.null), some (.null)]) (st' := []) rfl rfl ?_
        refine go_a (pc' := 14) (ls' := [some (.ref (c + 25)), some (.int (iI w)), some (.null), some (.null), some (.null)]) (st' := [.null]) rfl rfl ?_
        exact go_r rfl rfl rfl rfl rfl rfl ⟨rfl, rfl⟩
      · refine cl_go rfl ?_
        show xx_go (xt_P z) d 295 0 [some (.ref (c + 25)), some (.int (iI w)), some (.null), some (.null), some (.ref e)] [] hp _
        refine go_a (pc' := 1) (ls' := [some (.ref (c + 25)), some (.int (iI w)), some (.null), some (.null), some (.ref e)]) (st' := [.null]) rfl rfl ?_
        refine go_a (pc' := 13) (ls' := [some (.ref (c + 25)), some (.int (iI w)), some (.null), some (.null), some (.ref e)]) (st' := []) rfl rfl ?_
        refine go_a (pc' := 14) (ls' := [some (.ref (c + 25)), some (.int (iI w)), some (.null), some (.null), some (.ref e)]) (st' := [.null]) rfl rfl ?_
        exact go_r rfl rfl rfl rfl rfl rfl ⟨rfl, rfl⟩
    · rcases he with rfl | ⟨e, rfl⟩
      · refine cl_go rfl ?_
        show xx_go (xt_P z) d 295 0 [some (.ref (c + 25)), some (.int (iI w)), some (.null), some (.ref b), some (.null)] [] hp _
        refine go_a (pc' := 1) (ls' := [some (.ref (c + 25)), some (.int (iI w)), some (.null), some (.ref b), some (.null)]) (st' := [.null]) rfl rfl ?_
        refine go_a (pc' := 13) (ls' := [some (.ref (c + 25)), some (.int (iI w)), some (.null), some (.ref b), some (.null)]) (st' := []) rfl rfl ?_
        refine go_a (pc' := 14) (ls' := [some (.ref (c + 25)), some (.int (iI w)), some (.null), some (.ref b), some (.null)]) (st' := [.null]) rfl rfl ?_
        exact go_r rfl rfl rfl rfl rfl rfl ⟨rfl, rfl⟩
      · refine cl_go rfl ?_
        show xx_go (xt_P z) d 295 0 [some (.ref (c + 25)), some (.int (iI w)), some (.null), some (.ref b), some (.ref e)] [] hp _
        refine go_a (pc' := 1) (ls' := [some (.ref (c + 25)), some (.int (iI w)), some (.null), some (.ref b), some (.ref e)]) (st' := [.null]) rfl rfl ?_
        refine go_a (pc' := 13) (ls' := [some (.ref (c + 25)), some (.int (iI w)), some (.null), some (.ref b), some (.ref e)]) (st' := []) rfl rfl ?_
        refine go_a (pc' := 14) (ls' := [some (.ref (c + 25)), some (.int (iI w)), some (.null), some (.ref b), some (.ref e)]) (st' := [.null]) rfl rfl ?_
        exact go_r rfl rfl rfl rfl rfl rfl ⟨rfl, rfl⟩
  · rcases hb with rfl | ⟨b, rfl⟩
    · rcases he with rfl | ⟨e, rfl⟩
      · refine cl_go rfl ?_
        show xx_go (xt_P z) d 295 0 [some (.ref (c + 25)), some (.int (iI w)), some (.ref a), some (.null), some (.null)] [] hp _
        refine go_a (pc' := 1) (ls' := [some (.ref (c + 25)), some (.int (iI w)), some (.ref a), some (.null), some (.null)]) (st' := [.ref a]) rfl rfl ?_
        refine go_a (pc' := 4) (ls' := [some (.ref (c + 25)), some (.int (iI w)), some (.ref a), some (.null), some (.null)]) (st' := []) rfl rfl ?_
        refine go_a (pc' := 5) (ls' := [some (.ref (c + 25)), some (.int (iI w)), some (.ref a), some (.null), some (.null)]) (st' := [.null]) rfl rfl ?_
        refine go_a (pc' := 13) (ls' := [some (.ref (c + 25)), some (.int (iI w)), some (.ref a), some (.null), some (.null)]) (st' := []) rfl rfl ?_
        refine go_a (pc' := 14) (ls' := [some (.ref (c + 25)), some (.int (iI w)), some (.ref a), some (.null), some (.null)]) (st' := [.null]) rfl rfl ?_
        exact go_r rfl rfl rfl rfl rfl rfl ⟨rfl, rfl⟩
      · refine cl_go rfl ?_
        show xx_go (xt_P z) d 295 0 [some (.ref (c + 25)), some (.int (iI w)), some (.ref a), some (.null), some (.ref e)] [] hp _
        refine go_a (pc' := 1) (ls' := [some (.ref (c + 25)), some (.int (iI w)), some (.ref a), some (.null), some (.ref e)]) (st' := [.ref a]) rfl rfl ?_
        refine go_a (pc' := 4) (ls' := [some (.ref (c + 25)), some (.int (iI w)), some (.ref a), some (.null), some (.ref e)]) (st' := []) rfl rfl ?_
        refine go_a (pc' := 5) (ls' := [some (.ref (c + 25)), some (.int (iI w)), some (.ref a), some (.null), some (.ref e)]) (st' := [.null]) rfl rfl ?_
        refine go_a (pc' := 13) (ls' := [some (.ref (c + 25)), some (.int (iI w)), some (.ref a), some (.null), some (.ref e)]) (st' := []) rfl rfl ?_
        refine go_a (pc' := 14) (ls' := [some (.ref (c + 25)), some (.int (iI w)), some (.ref a), some (.null), some (.ref e)]) (st' := [.null]) rfl rfl ?_
        exact go_r rfl rfl rfl rfl rfl rfl ⟨rfl, rfl⟩
    · rcases he with rfl | ⟨e, rfl⟩
      · refine cl_go rfl ?_
        show xx_go (xt_P z) d 295 0 [some (.ref (c + 25)), some (.int (iI w)), some (.ref a), some (.ref b), some (.null)] [] hp _
        refine go_a (pc' := 1) (ls' := [some (.ref (c + 25)), some (.int (iI w)), some (.ref a), some (.ref b), some (.null)]) (st' := [.ref a]) rfl rfl ?_
        refine go_a (pc' := 4) (ls' := [some (.ref (c + 25)), some (.int (iI w)), some (.ref a), some (.ref b), some (.null)]) (st' := []) rfl rfl ?_
        refine go_a (pc' := 5) (ls' := [some (.ref (c + 25)), some (.int (iI w)), some (.ref a), some (.ref b), some (.null)]) (st' := [.ref b]) rfl rfl ?_
        refine go_a (pc' := 8) (ls' := [some (.ref (c + 25)), some (.int (iI w)), some (.ref a), some (.ref b), some (.null)]) (st' := []) rfl rfl ?_
        refine go_a (pc' := 10) (ls' := [some (.ref (c + 25)), some (.int (iI w)), some (.ref a), some (.ref b), some (.null)]) (st' := [.null]) rfl rfl ?_
        refine go_a (pc' := 13) (ls' := [some (.ref (c + 25)), some (.int (iI w)), some (.ref a), some (.ref b), some (.null)]) (st' := []) rfl rfl ?_
        refine go_a (pc' := 14) (ls' := [some (.ref (c + 25)), some (.int (iI w)), some (.ref a), some (.ref b), some (.null)]) (st' := [.null]) rfl rfl ?_
        exact go_r rfl rfl rfl rfl rfl rfl ⟨rfl, rfl⟩
      · exact absurd hn (by simp)
def notR : List Int → List Int
  | [] => []
  | x :: r => if x = 518 then r else if x % 4 = 1 then (if x / 32 = 0 then [33] else [1]) else 518 :: x :: r
theorem notR_c (x : Int) (r : List Int) : notR (x :: r) = if x = 518 then r else if x % 4 = 1 then (if x / 32 = 0 then [33] else [1]) else 518 :: x :: r := rfl
theorem rl_cons {n : Int} {f : Int → Int} (h : 1 ≤ n) : rl n f = f 0 :: rl (n - 1) (fun k => f (k + 1)) := by
  have := rl_app (n := 1) (m := n - 1) (f := f) (g := fun k => f (k + 1)) (by decide) (by omega) (fun i _ _ => by rw [Int.add_comm])
  rw [show (1 : Int) + (n - 1) = n by omega] at this
  rw [this]
  rfl
theorem bh_1 {n : Int} {f : Int → Int} (h : WFT n f) (l : (1 : Int) < n) (e0 : tk (f 0) = 1) : bh n f ((1 : Nat) : Int) = n := by
  obtain ⟨e, r1, r2, r3, r4, r5⟩ := bh_W h (p := 1) l
  have s1 : sm f 1 = 0 := by
    show sm f 0 + (tk (f 0) - 1) = 0
    rw [e0]
    rfl
  rw [r1]
  by_cases c : (e : Int) < n
  · have := h.1 e c
    omega
  · omega
theorem kg_notn (z : Value) (d c : Nat) (hp : xx_H) : xx_cl (xt_P z) (d + 1) 273 [.ref (c + 25), .null] hp (fun v h1 => v = some .null ∧ h1 = hp) := by
  refine cl_go rfl ?_
  show xx_go (xt_P z) d 273 0 [some (.ref (c + 25)), some (.null), none] [] hp _
  refine go_a (pc' := 1) (ls' := [some (.ref (c + 25)), some (.null), none]) (st' := [.null]) rfl rfl ?_
  refine go_a (pc' := 4) (ls' := [some (.ref (c + 25)), some (.null), none]) (st' := []) rfl rfl ?_
  refine go_a (pc' := 5) (ls' := [some (.ref (c + 25)), some (.null), none]) (st' := [.null]) rfl rfl ?_
  exact go_r rfl rfl rfl rfl rfl rfl ⟨rfl, rfl⟩
theorem kg_not (z : Value) (d c : Nat) (u : Int) (hp : xx_H) (s : KS) (hK : KI c hp s) (hB : KB s) (u2 : 17 ≤ u) (a : Nat) (n : Int) (f : Int → Int) (Ta : TM c hp s u a n f) : xx_cl (xt_P z) (d + 5) 273 [.ref (c + 25), .ref a] hp (fun v h1 => ∃ N : Int, N ≤ n + 1 ∧ MKT c hp s u N (notR (rl n f)) v h1) := by
  have n_ := TM_n Ta
  obtain ⟨qa, La, Laa, Laq⟩ := TMq Ta
  have t0 : tat n f 0 = f 0 := if_pos (by omega)
  have V0 := Ta.2.2 0 (by decide) (by omega)
  refine cl_go rfl ?_
  show xx_go (xt_P z) (d + 4) 273 0 [some (.ref (c + 25)), some (.ref a), none] [] hp _
  refine go_a (pc' := 1) (ls' := [some (.ref (c + 25)), some (.ref a), none]) (st' := [.ref a]) rfl rfl ?_
  refine go_a (pc' := 6) (ls' := [some (.ref (c + 25)), some (.ref a), none]) (st' := []) rfl rfl ?_
  refine go_a (pc' := 7) (ls' := [some (.ref (c + 25)), some (.ref a), none]) (st' := [.ref a]) rfl rfl ?_
  refine go_a (pc' := 8) (ls' := [some (.ref (c + 25)), some (.ref a), none]) (st' := [.int (iI 0), .ref a]) rfl rfl ?_
  refine go_v (m := 230) (as := [.ref a, .int (iI 0)]) (r := []) rfl rfl rfl La.1 rfl rfl (kg_at z (d + 3) 0 a qa n f hp La (by decide) (by decide)) (fun v h3 hq => ?_)
  obtain ⟨rfl, e⟩ := hq
  rw [e, t0]
  clear e h3
  show xx_go (xt_P z) (d + 4) 273 11 [some (.ref (c + 25)), some (.ref a), none] [.int (iI (f 0))] hp _
  refine go_a (pc' := 12) (ls' := [some (.ref (c + 25)), some (.ref a), some (.int (iI (f 0)))]) (st' := []) rfl rfl ?_
  refine go_a (pc' := 13) (ls' := [some (.ref (c + 25)), some (.ref a), some (.int (iI (f 0)))]) (st' := [.int (iI (f 0))]) rfl rfl ?_
  refine go_a (pc' := 16) (ls' := [some (.ref (c + 25)), some (.ref a), some (.int (iI (f 0)))]) (st' := [.int (iI 518), .int (iI (f 0))]) rfl rfl ?_
  refine mi_ne (t := 25) rfl rfl (by have := V0.1; have := V0.2.1; omega) (by have := V0.1; have := V0.2.1; omega) (by have := V0.1; have := V0.2.1; omega) (by have := V0.1; have := V0.2.1; omega) (fun w => ?_) (fun w => ?_)
  · refine go_a (pc' := 26) (ls' := [some (.ref (c + 25)), some (.ref a), some (.int (iI (f 0)))]) (st' := [.ref (c + 25)]) rfl rfl ?_
    refine go_get (v := .ref (c + 26)) rfl (hK.1 16 (by decide)) rfl rfl ?_
    refine go_a (pc' := 30) (ls' := [some (.ref (c + 25)), some (.ref a), some (.int (iI (f 0)))]) (st' := [.int (iI 0), .ref (c + 26)]) rfl rfl ?_
    refine go_v (m := 39) (as := [.ref (c + 26), .int (iI 0)]) (r := []) rfl rfl rfl (hK.1 17 (by decide)) rfl rfl (kb_cut z (d + 3) c u hp s hK hB) (fun v1 h1 hq => ?_)
    obtain ⟨rfl, s1, K1, B1, X1, F1, e1, R1⟩ := hq
    obtain ⟨La_1, Laa_1, Laq_1⟩ := KTL_kx La Laa Laq X1
    have X0_1 := X1
    have F0_1 := F1
    show xx_go (xt_P z) (d + 4) 273 33 [some (.ref (c + 25)), some (.ref a), some (.int (iI (f 0)))] [] h1 _
    refine go_a (pc' := 34) (ls' := [some (.ref (c + 25)), some (.ref a), some (.int (iI (f 0)))]) (st' := [.int (iI (f 0))]) rfl rfl ?_
    refine go_s (m := 252) (as := [.int (iI (f 0))]) (r := []) rfl rfl rfl rfl (kg_isConstant z (d + 3) (f 0) h1) (fun v hh hq => ?_)
    obtain ⟨hq, e⟩ := hq
    rw [e]
    clear e hh
    rcases hq with ⟨c1, rfl⟩ | ⟨c1, rfl⟩
    · show xx_go (xt_P z) (d + 4) 273 37 [some (.ref (c + 25)), some (.ref a), some (.int (iI (f 0)))] [.int (iI 1)] h1 _
      refine mi_eq0 (t := 65) rfl rfl (by omega) (by omega) (fun q => absurd q (by decide)) (fun _ => ?_)
      refine go_a (pc' := 41) (ls' := [some (.ref (c + 25)), some (.ref a), some (.int (iI (f 0)))]) (st' := [.ref (c + 25)]) rfl rfl ?_
      refine go_get (v := .ref (c + 26)) rfl (K1.1 16 (by decide)) rfl rfl ?_
      refine go_a (pc' := 45) (ls' := [some (.ref (c + 25)), some (.ref a), some (.int (iI (f 0)))]) (st' := [.int (iI (f 0)), .ref (c + 26)]) rfl rfl ?_
      refine go_s (m := 251) (as := [.int (iI (f 0))]) (r := [.ref (c + 26)]) rfl rfl rfl rfl (kg_what z (d + 3) (f 0) h1 (by have := V0.1; omega) V0.2.1) (fun v hh hq => ?_)
      obtain ⟨rfl, e⟩ := hq
      rw [e]
      clear e hh
      show xx_go (xt_P z) (d + 4) 273 48 [some (.ref (c + 25)), some (.ref a), some (.int (iI (f 0)))] [.int (iI (f 0 / 32)), .ref (c + 26)] h1 _
      refine mi_ne0 (t := 55) rfl rfl (by have := V0.1; have := V0.2.1; omega) (by have := V0.1; have := V0.2.1; omega) (fun w5 => ?_) (fun w5 => ?_)
      · refine go_a (pc' := 56) (ls' := [some (.ref (c + 25)), some (.ref a), some (.int (iI (f 0)))]) (st' := [.int (iI 0), .ref (c + 26)]) rfl rfl ?_
        refine go_s (m := 213) (as := [.int (iI 0)]) (r := [.ref (c + 26)]) rfl rfl rfl rfl (kg_constant z (d + 3) 0 h1 (by decide) (by decide)) (fun v hh hq => ?_)
        obtain ⟨rfl, e⟩ := hq
        rw [e]
        clear e hh
        show xx_go (xt_P z) (d + 4) 273 59 [some (.ref (c + 25)), some (.ref a), some (.int (iI (f 0)))] [.int (iI (0 * 32 + 1)), .ref (c + 26)] h1 _
        refine go_v (m := 35) (as := [.ref (c + 26), .int (iI (0 * 32 + 1))]) (r := []) rfl rfl rfl (K1.1 17 (by decide)) rfl rfl (kb_add z (d + 2) c u h1 s1 (0 * 32 + 1) 0 K1 B1 R1 (by omega) ⟨by decide, by decide, Or.inr ⟨by decide, by decide⟩, by omega⟩ (by omega)) (fun v2 h2 hq => ?_)
        obtain ⟨rfl, s2, K2, B2, X2, F2, e2, R2, -⟩ := hq
        obtain ⟨La_2, Laa_2, Laq_2⟩ := KTL_kx La_1 Laa_1 Laq_1 X2
        have X0_2 := kx_tr X0_1 X2
        have F0_2 := TF_tr F0_1 F2
        show xx_go (xt_P z) (d + 4) 273 62 [some (.ref (c + 25)), some (.ref a), some (.int (iI (f 0)))] [] h2 _
        refine go_a (pc' := 86) (ls' := [some (.ref (c + 25)), some (.ref a), some (.int (iI (f 0)))]) (st' := []) rfl rfl ?_
        refine go_a (pc' := 87) (ls' := [some (.ref (c + 25)), some (.ref a), some (.int (iI (f 0)))]) (st' := [.ref (c + 25)]) rfl rfl ?_
        have tw : tk (0 * 32 + 1) = 0 := by decide
        have R := R2
        rw [show (0 + tk (0 * 32 + 1) - 1) = -1 by rw [tw]; omega] at R
        refine go_v (m := 223) (as := [.ref (c + 25)]) (r := []) rfl rfl rfl (K2.1 16 (by decide)) rfl rfl (kb_made z (d + 1) c u h2 s2 K2 B2 R) (fun v h9 hq => ?_)
        have M := MKT_fin (hp := hp) (s := s) (N := 1) B2 K2 (kx_w X0_2 (by decide) (by decide)) F0_2 (by omega) hq R.2.2.2
        rcases hq with ⟨-, rfl, -⟩ | ⟨-, rfl, -⟩
        · show xx_go (xt_P z) (d + 4) 273 90 [some (.ref (c + 25)), some (.ref a), some (.int (iI (f 0)))] [.null] h9 _
          exact go_r rfl rfl rfl rfl rfl rfl ⟨1, by omega, (show notR (rl n f) = [] ++ [0 * 32 + 1] by rw [rl_cons (n := n) (f := f) (by omega), notR_c, if_neg w, if_pos c1, if_neg w5]; rfl) ▸ M⟩
        · show xx_go (xt_P z) (d + 4) 273 90 [some (.ref (c + 25)), some (.ref a), some (.int (iI (f 0)))] [.ref h2.length] h9 _
          exact go_r rfl rfl rfl rfl rfl rfl ⟨1, by omega, (show notR (rl n f) = [] ++ [0 * 32 + 1] by rw [rl_cons (n := n) (f := f) (by omega), notR_c, if_neg w, if_pos c1, if_neg w5]; rfl) ▸ M⟩
      · refine go_a (pc' := 52) (ls' := [some (.ref (c + 25)), some (.ref a), some (.int (iI (f 0)))]) (st' := [.int (iI 1), .ref (c + 26)]) rfl rfl ?_
        refine go_a (pc' := 56) (ls' := [some (.ref (c + 25)), some (.ref a), some (.int (iI (f 0)))]) (st' := [.int (iI 1), .ref (c + 26)]) rfl rfl ?_
        refine go_s (m := 213) (as := [.int (iI 1)]) (r := [.ref (c + 26)]) rfl rfl rfl rfl (kg_constant z (d + 3) 1 h1 (by decide) (by decide)) (fun v hh hq => ?_)
        obtain ⟨rfl, e⟩ := hq
        rw [e]
        clear e hh
        show xx_go (xt_P z) (d + 4) 273 59 [some (.ref (c + 25)), some (.ref a), some (.int (iI (f 0)))] [.int (iI (1 * 32 + 1)), .ref (c + 26)] h1 _
        refine go_v (m := 35) (as := [.ref (c + 26), .int (iI (1 * 32 + 1))]) (r := []) rfl rfl rfl (K1.1 17 (by decide)) rfl rfl (kb_add z (d + 2) c u h1 s1 (1 * 32 + 1) 0 K1 B1 R1 (by omega) ⟨by decide, by decide, Or.inr ⟨by decide, by decide⟩, by omega⟩ (by omega)) (fun v2 h2 hq => ?_)
        obtain ⟨rfl, s2, K2, B2, X2, F2, e2, R2, -⟩ := hq
        obtain ⟨La_2, Laa_2, Laq_2⟩ := KTL_kx La_1 Laa_1 Laq_1 X2
        have X0_2 := kx_tr X0_1 X2
        have F0_2 := TF_tr F0_1 F2
        show xx_go (xt_P z) (d + 4) 273 62 [some (.ref (c + 25)), some (.ref a), some (.int (iI (f 0)))] [] h2 _
        refine go_a (pc' := 86) (ls' := [some (.ref (c + 25)), some (.ref a), some (.int (iI (f 0)))]) (st' := []) rfl rfl ?_
        refine go_a (pc' := 87) (ls' := [some (.ref (c + 25)), some (.ref a), some (.int (iI (f 0)))]) (st' := [.ref (c + 25)]) rfl rfl ?_
        have tw : tk (1 * 32 + 1) = 0 := by decide
        have R := R2
        rw [show (0 + tk (1 * 32 + 1) - 1) = -1 by rw [tw]; omega] at R
        refine go_v (m := 223) (as := [.ref (c + 25)]) (r := []) rfl rfl rfl (K2.1 16 (by decide)) rfl rfl (kb_made z (d + 1) c u h2 s2 K2 B2 R) (fun v h9 hq => ?_)
        have M := MKT_fin (hp := hp) (s := s) (N := 1) B2 K2 (kx_w X0_2 (by decide) (by decide)) F0_2 (by omega) hq R.2.2.2
        rcases hq with ⟨-, rfl, -⟩ | ⟨-, rfl, -⟩
        · show xx_go (xt_P z) (d + 4) 273 90 [some (.ref (c + 25)), some (.ref a), some (.int (iI (f 0)))] [.null] h9 _
          exact go_r rfl rfl rfl rfl rfl rfl ⟨1, by omega, (show notR (rl n f) = [] ++ [1 * 32 + 1] by rw [rl_cons (n := n) (f := f) (by omega), notR_c, if_neg w, if_pos c1, if_pos (by omega)]; rfl) ▸ M⟩
        · show xx_go (xt_P z) (d + 4) 273 90 [some (.ref (c + 25)), some (.ref a), some (.int (iI (f 0)))] [.ref h2.length] h9 _
          exact go_r rfl rfl rfl rfl rfl rfl ⟨1, by omega, (show notR (rl n f) = [] ++ [1 * 32 + 1] by rw [rl_cons (n := n) (f := f) (by omega), notR_c, if_neg w, if_pos c1, if_pos (by omega)]; rfl) ▸ M⟩
    · show xx_go (xt_P z) (d + 4) 273 37 [some (.ref (c + 25)), some (.ref a), some (.int (iI (f 0)))] [.int (iI 0)] h1 _
      refine mi_eq0 (t := 65) rfl rfl (by omega) (by omega) (fun _ => ?_) (fun q => absurd rfl q)
      refine go_a (pc' := 66) (ls' := [some (.ref (c + 25)), some (.ref a), some (.int (iI (f 0)))]) (st' := [.ref (c + 25)]) rfl rfl ?_
      refine go_get (v := .ref (c + 26)) rfl (K1.1 16 (by decide)) rfl rfl ?_
      refine go_a (pc' := 72) (ls' := [some (.ref (c + 25)), some (.ref a), some (.int (iI (f 0)))]) (st' := [.int (iI 518), .ref (c + 26)]) rfl rfl ?_
      refine go_v (m := 35) (as := [.ref (c + 26), .int (iI 518)]) (r := []) rfl rfl rfl (K1.1 17 (by decide)) rfl rfl (kb_add z (d + 2) c u h1 s1 518 0 K1 B1 R1 (by omega) ⟨by decide, by decide, Or.inl ⟨by decide, by decide, by decide⟩, by omega⟩ (by omega)) (fun v2 h2 hq => ?_)
      obtain ⟨rfl, s2, K2, B2, X2, F2, e2, R2, -⟩ := hq
      obtain ⟨La_2, Laa_2, Laq_2⟩ := KTL_kx La_1 Laa_1 Laq_1 X2
      have X0_2 := kx_tr X0_1 X2
      have F0_2 := TF_tr F0_1 F2
      show xx_go (xt_P z) (d + 4) 273 75 [some (.ref (c + 25)), some (.ref a), some (.int (iI (f 0)))] [] h2 _
      have tw : tk 518 = 1 := by decide
      refine go_a (pc' := 76) (ls' := [some (.ref (c + 25)), some (.ref a), some (.int (iI (f 0)))]) (st' := [.ref (c + 25)]) rfl rfl ?_
      refine go_get (v := .ref (c + 26)) rfl (K2.1 16 (by decide)) rfl rfl ?_
      refine go_a (pc' := 80) (ls' := [some (.ref (c + 25)), some (.ref a), some (.int (iI (f 0)))]) (st' := [.ref a, .ref (c + 26)]) rfl rfl ?_
      refine go_get (v := .ref qa) rfl La_2.1 rfl rfl ?_
      refine go_v (m := 260) (as := [.ref (c + 26), .ref qa]) (r := []) rfl rfl rfl (K2.1 17 (by decide)) rfl rfl (kb_all z (d + 2) c u h2 s2 qa n ((0 + tk 518 - 1)) f K2 B2 R2 (by rw [tw]; omega) ⟨La_2.2.1, ⟨by omega, by omega⟩, La_2.2.2.2⟩ Laq_2 (by omega) Ta.2.1 Ta.2.2 (by omega)) (fun v3 h3 hq => ?_)
      obtain ⟨rfl, s3, K3, B3, X3, F3, e3, R3, -⟩ := hq
      obtain ⟨La_3, Laa_3, Laq_3⟩ := KTL_kx La_2 Laa_2 Laq_2 X3
      have X0_3 := kx_tr X0_2 X3
      have F0_3 := TF_tr F0_2 F3
      show xx_go (xt_P z) (d + 4) 273 86 [some (.ref (c + 25)), some (.ref a), some (.int (iI (f 0)))] [] h3 _
      refine go_a (pc' := 87) (ls' := [some (.ref (c + 25)), some (.ref a), some (.int (iI (f 0)))]) (st' := [.ref (c + 25)]) rfl rfl ?_
      have R := R3
      rw [show ((0 + tk 518 - 1) - 1) = -1 by rw [tw]; omega] at R
      refine go_v (m := 223) (as := [.ref (c + 25)]) (r := []) rfl rfl rfl (K3.1 16 (by decide)) rfl rfl (kb_made z (d + 1) c u h3 s3 K3 B3 R) (fun v h9 hq => ?_)
      have M := MKT_fin (hp := hp) (s := s) (N := n + 1) B3 K3 (kx_w X0_3 (by decide) (by decide)) F0_3 (by omega) hq R.2.2.2
      rcases hq with ⟨-, rfl, -⟩ | ⟨-, rfl, -⟩
      · show xx_go (xt_P z) (d + 4) 273 90 [some (.ref (c + 25)), some (.ref a), some (.int (iI (f 0)))] [.null] h9 _
        exact go_r rfl rfl rfl rfl rfl rfl ⟨n + 1, by omega, (show notR (rl n f) = [] ++ [518] ++ rl n f by rw [rl_cons (n := n) (f := f) (by omega), notR_c, if_neg w, if_neg c1]; rfl) ▸ M⟩
      · show xx_go (xt_P z) (d + 4) 273 90 [some (.ref (c + 25)), some (.ref a), some (.int (iI (f 0)))] [.ref h3.length] h9 _
        exact go_r rfl rfl rfl rfl rfl rfl ⟨n + 1, by omega, (show notR (rl n f) = [] ++ [518] ++ rl n f by rw [rl_cons (n := n) (f := f) (by omega), notR_c, if_neg w, if_neg c1]; rfl) ▸ M⟩
  · have w9 : f 0 = 518 := by omega
    have s1_ : sm f 1 = 0 := by
      show sm f 0 + (tk (f 0) - 1) = 0
      rw [w9]
      rfl
    have lt := WFT_lt Ta.2.1 (k := 1) (by omega) (by omega)
    refine go_a (pc' := 20) (ls' := [some (.ref (c + 25)), some (.ref a), some (.int (iI (f 0)))]) (st' := [.ref a]) rfl rfl ?_
    refine go_a (pc' := 21) (ls' := [some (.ref (c + 25)), some (.ref a), some (.int (iI (f 0)))]) (st' := [.int (iI 1), .ref a]) rfl rfl ?_
    refine go_v (m := 274) (as := [.ref a, .int (iI 1)]) (r := []) rfl rfl rfl La.1 rfl rfl (kb_part z d c a n u 1 f hp s hK hB Ta (by decide) lt) (fun v h3 hq => ?_)
    obtain ⟨rfl, P1, P2, P3⟩ := hq
    show xx_go (xt_P z) (d + 4) 273 24 [some (.ref (c + 25)), some (.ref a), some (.int (iI (f 0)))] [.ref hp.length] h3 _
    obtain ⟨e, r1, r2, r3, -⟩ := bh_W Ta.2.1 lt
    exact go_r rfl rfl rfl rfl rfl rfl ⟨bh n f (1 : Nat) - (1 : Nat), by omega, s, P1, hB, TF_rf, Or.inr ⟨_, _, rfl, (TM_n P3).2, Nat.le_refl _, P2, P3, (by rw [bh_1 Ta.2.1 lt (by rw [w9]; rfl), rl_cons (n := n) (f := f) (by omega), notR_c, if_pos w9]; rfl)⟩⟩
