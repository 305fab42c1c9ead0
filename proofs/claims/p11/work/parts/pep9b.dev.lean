theorem ke_front (z : Value) (hz : z = .null ∨ ∃ k, z = .ref k) (d c : Nat) (k : Int) (hp : xx_H) (s : KS) (hK : KI c hp s) (hB : KB s) (hC : CI s) (hO : OC hp) (l4 : s.I 4 ≤ 2000) (l5 : s.I 5 < 4096) (k0 : -2147483648 ≤ k) (k1 : k ≤ 2147483647) : xx_cl (xt_P z) (d + 9) 309 [.ref (c + 16), .int (iI k)] hp (fun v h1 => ∃ (x : Int) (s1 : KS), v = some (.int (iI x)) ∧ (-1 ≤ x ∧ x ≤ 2147483647) ∧ KI c h1 s1 ∧ KB s1 ∧ kx c hp s h1 s1 0 0 ∧ TLF s s1 ∧ s1.I 5 ≤ s.I 5 + 1 ∧ s1.I 4 ≤ 2000) := by
  have b5 := hB.2.2.2.1 5 (by decide)
  have bc := hB.2.2.2.2.2.1
  refine cl_go rfl ?_
  show xx_go (xt_P z) (d + 8) 309 0 [some (.ref (c + 16)), some (.int (iI k))] [] hp _
  refine go_a (pc' := 1) (ls' := [some (.ref (c + 16)), some (.int (iI k))]) (st' := [.ref (c + 16)]) rfl rfl ?_
  refine go_get (v := .ref (c + 4)) rfl (hK.1 9 (by decide)) rfl rfl ?_
  refine go_a (pc' := 5) (ls' := [some (.ref (c + 16)), some (.int (iI k))]) (st' := [.int (iI k), .ref (c + 4)]) rfl rfl ?_
  refine go_v (m := 199) (as := [.ref (c + 4), .int (iI k)]) (r := []) rfl rfl rfl (hK.1 3 (by decide)) rfl rfl (kc_isPair z (d + 7) c k hp s hK hB k0 k1) (fun v h1 hq => ?_)
  obtain ⟨hq, e⟩ := hq
  rw [e]
  clear e h1
  rcases hq with ⟨q1, rfl⟩ | ⟨q1, rfl⟩
  · show xx_go (xt_P z) (d + 8) 309 8 [some (.ref (c + 16)), some (.int (iI k))] [.int (iI 1)] hp _
    refine mi_ne0 (t := 18) rfl rfl (by omega) (by omega) (fun _ => ?_) (fun q => absurd q (by decide))
    have ob : OB s k := ⟨q1.1, q1.2.1⟩
    refine go_a (pc' := 19) (ls' := [some (.ref (c + 16)), some (.int (iI k))]) (st' := [.ref (c + 16)]) rfl rfl ?_
    refine go_get (v := .ref (c + 4)) rfl (hK.1 9 (by decide)) rfl rfl ?_
    refine go_a (pc' := 23) (ls' := [some (.ref (c + 16)), some (.int (iI k))]) (st' := [.int (iI k), .ref (c + 4)]) rfl rfl ?_
    refine go_v (m := 214) (as := [.ref (c + 4), .int (iI k)]) (r := []) rfl rfl rfl (hK.1 3 (by decide)) rfl rfl (kc_isQuoted z (d + 6) c k hp s hK hB hC ob) (fun v h1 hq => ?_)
    obtain ⟨hq, e⟩ := hq
    rw [e]
    clear e h1
    rcases hq with ⟨q2, rfl⟩ | ⟨q2, rfl⟩
    · show xx_go (xt_P z) (d + 8) 309 26 [some (.ref (c + 16)), some (.int (iI k))] [.int (iI 1)] hp _
      refine mi_eq0 (t := 45) rfl rfl (by omega) (by omega) (fun q => absurd q (by decide)) (fun _ => ?_)
      refine go_a (pc' := 30) (ls' := [some (.ref (c + 16)), some (.int (iI k))]) (st' := [.ref (c + 16)]) rfl rfl ?_
      refine go_a (pc' := 32) (ls' := [some (.ref (c + 16)), some (.int (iI k))]) (st' := [.int (iI 39), .ref (c + 16)]) rfl rfl ?_
      refine go_v (m := 313) (as := [.ref (c + 16), .int (iI 39)]) (r := []) rfl rfl rfl (hK.1 9 (by decide)) rfl rfl (ke_put z (d + 5) c 39 hp s hK hB l4 (by decide) (by decide)) (fun v h1 hq => ?_)
      obtain ⟨rfl, t1, K1, B1, X1, F1, e5, e4⟩ := hq
      show xx_go (xt_P z) (d + 8) 309 35 [some (.ref (c + 16)), some (.int (iI k))] [] h1 _
      have SA := TLF_SA F1
      refine go_a (pc' := 36) (ls' := [some (.ref (c + 16)), some (.int (iI k))]) (st' := [.ref (c + 16)]) rfl rfl ?_
      refine go_get (v := .ref (c + 4)) rfl (K1.1 9 (by decide)) rfl rfl ?_
      refine go_a (pc' := 40) (ls' := [some (.ref (c + 16)), some (.int (iI k))]) (st' := [.int (iI k), .ref (c + 4)]) rfl rfl ?_
      refine go_a (pc' := 41) (ls' := [some (.ref (c + 16)), some (.int (iI k))]) (st' := [.int (iI 1), .int (iI k), .ref (c + 4)]) rfl rfl ?_
      refine go_v (m := 202) (as := [.ref (c + 4), .int (iI k), .int (iI 1)]) (r := []) rfl rfl rfl (K1.1 3 (by decide)) rfl rfl (kc_part z (d + 6) c k 1 h1 t1 K1 B1 (KSA_CI SA hC) (KSA_OB SA ob) (by decide) (by decide)) (fun v h2 hq => ?_)
      obtain ⟨⟨w, rfl, hw, -⟩, e⟩ := hq
      rw [e]
      clear e h2
      have b1 := OB_R B1 hw
      have hw0 := hw.1
      show xx_go (xt_P z) (d + 8) 309 44 [some (.ref (c + 16)), some (.int (iI k))] [.int (iI w)] h1 _
      exact go_r rfl rfl rfl rfl rfl rfl ⟨w, t1, rfl, ⟨by omega, b1.2⟩, K1, B1, X1, F1, by omega, e4⟩
    · show xx_go (xt_P z) (d + 8) 309 26 [some (.ref (c + 16)), some (.int (iI k))] [.int (iI 0)] hp _
      refine mi_eq0 (t := 45) rfl rfl (by omega) (by omega) (fun _ => ?_) (fun q => absurd rfl q)
      refine go_a (pc' := 46) (ls' := [some (.ref (c + 16)), some (.int (iI k))]) (st' := [.ref (c + 16)]) rfl rfl ?_
      refine go_a (pc' := 48) (ls' := [some (.ref (c + 16)), some (.int (iI k))]) (st' := [.int (iI 40), .ref (c + 16)]) rfl rfl ?_
      refine go_v (m := 313) (as := [.ref (c + 16), .int (iI 40)]) (r := []) rfl rfl rfl (hK.1 9 (by decide)) rfl rfl (ke_put z (d + 5) c 40 hp s hK hB l4 (by decide) (by decide)) (fun v h1 hq => ?_)
      obtain ⟨rfl, t1, K1, B1, X1, F1, e5, e4⟩ := hq
      show xx_go (xt_P z) (d + 8) 309 51 [some (.ref (c + 16)), some (.int (iI k))] [] h1 _
      have SA := TLF_SA F1
      have C1 := KSA_CI SA hC
      have r1 := (fst_OB C1 B1 k).2
      have f1 := (fst_OB C1 B1 k).1
      have rr := OB_R B1 r1
      have fr := OB_R B1 f1
      have f10 := f1.1
      refine go_a (pc' := 52) (ls' := [some (.ref (c + 16)), some (.int (iI k))]) (st' := [.ref (c + 16)]) rfl rfl ?_
      refine go_get (v := .ref (c + 19)) rfl (K1.1 9 (by decide)) rfl rfl ?_
      refine go_a (pc' := 56) (ls' := [some (.ref (c + 16)), some (.int (iI k))]) (st' := [.ref (c + 16), .ref (c + 19)]) rfl rfl ?_
      refine go_get (v := .ref (c + 4)) rfl (K1.1 9 (by decide)) rfl rfl ?_
      refine go_a (pc' := 60) (ls' := [some (.ref (c + 16)), some (.int (iI k))]) (st' := [.int (iI k), .ref (c + 4), .ref (c + 19)]) rfl rfl ?_
      refine go_v (m := 200) (as := [.ref (c + 4), .int (iI k)]) (r := [.ref (c + 19)]) rfl rfl rfl (K1.1 3 (by decide)) rfl rfl (kc_rest z (d + 7) c k h1 t1 K1 B1 k0 k1) (fun v h2 hq => ?_)
      obtain ⟨rfl, e⟩ := hq
      rw [e]
      clear e h2
      show xx_go (xt_P z) (d + 8) 309 63 [some (.ref (c + 16)), some (.int (iI k))] [.int (iI (rst t1 k)), .ref (c + 19)] h1 _
      refine go_v (m := 35) (as := [.ref (c + 19), .int (iI (rst t1 k))]) (r := []) rfl rfl rfl (K1.1 11 (by decide)) rfl rfl (kr_add_5 z (d + 6) c (rst t1 k) h1 t1 K1 B1 (by omega) rr.1 rr.2) (fun v h2 hq => ?_)
      obtain ⟨rfl, t2, K2, B2, X2, W2, I2, C2, E2, O2⟩ := hq
      show xx_go (xt_P z) (d + 8) 309 66 [some (.ref (c + 16)), some (.int (iI k))] [] h2 _
      have F2 := TLF_tr F1 (TLF_row W2 (by decide) I2)
      have i4 : t2.I 4 = t1.I 4 := by rw [I2]; rfl
      have i5 : t2.I 5 = t1.I 5 + 1 := by rw [I2]; rfl
      have f2 := (fst_OB (KSA_CI (TLF_SA F2) hC) B2 k).1
      have fr2 := OB_R B2 f2
      have f20 := f2.1
      refine go_a (pc' := 67) (ls' := [some (.ref (c + 16)), some (.int (iI k))]) (st' := [.ref (c + 16)]) rfl rfl ?_
      refine go_get (v := .ref (c + 4)) rfl (K2.1 9 (by decide)) rfl rfl ?_
      refine go_a (pc' := 71) (ls' := [some (.ref (c + 16)), some (.int (iI k))]) (st' := [.int (iI k), .ref (c + 4)]) rfl rfl ?_
      refine go_v (m := 197) (as := [.ref (c + 4), .int (iI k)]) (r := []) rfl rfl rfl (K2.1 3 (by decide)) rfl rfl (kc_first z (d + 7) c k h2 t2 K2 B2 k0 k1) (fun v h3 hq => ?_)
      obtain ⟨rfl, e⟩ := hq
      rw [e]
      clear e h3
      show xx_go (xt_P z) (d + 8) 309 74 [some (.ref (c + 16)), some (.int (iI k))] [.int (iI (fst t2 k))] h2 _
      exact go_r rfl rfl rfl rfl rfl rfl ⟨fst t2 k, t2, rfl, ⟨by omega, fr2.2⟩, K2, B2, kx_tr X1 X2, F2, by omega, by omega⟩
  · show xx_go (xt_P z) (d + 8) 309 8 [some (.ref (c + 16)), some (.int (iI k))] [.int (iI 0)] hp _
    refine mi_ne0 (t := 18) rfl rfl (by omega) (by omega) (fun q => absurd rfl q) (fun _ => ?_)
    refine go_a (pc' := 12) (ls' := [some (.ref (c + 16)), some (.int (iI k))]) (st' := [.ref (c + 16)]) rfl rfl ?_
    refine go_a (pc' := 13) (ls' := [some (.ref (c + 16)), some (.int (iI k))]) (st' := [.int (iI k), .ref (c + 16)]) rfl rfl ?_
    refine go_v (m := 310) (as := [.ref (c + 16), .int (iI k)]) (r := []) rfl rfl rfl (hK.1 9 (by decide)) rfl rfl (ke_atom z hz d c k hp s hK hB hO l4 k0 k1) (fun v h1 hq => ?_)
    obtain ⟨rfl, t1, K1, B1, X1, F1, e5, e4⟩ := hq
    show xx_go (xt_P z) (d + 8) 309 16 [some (.ref (c + 16)), some (.int (iI k))] [] h1 _
    refine go_a (pc' := 17) (ls' := [some (.ref (c + 16)), some (.int (iI k))]) (st' := [.int (iI ((-1)))]) rfl rfl ?_
    exact go_r rfl rfl rfl rfl rfl rfl ⟨-1, t1, rfl, by decide, K1, B1, X1, F1, by omega, e4⟩
set_option maxRecDepth 4000 in
theorem ke_behind_loop (z : Value) (hz : z = .null ∨ ∃ k, z = .ref k) (d c : Nat) (hp0 : xx_H) (s0 : KS) (hO : OC hp0) (hC : CI s0) (l5 : s0.I 5 < 4096) (l5b : 0 ≤ s0.I 5) : ∀ (f : Nat) (n : Int) (y2 : Option Value) (t : KS) (hp : xx_H), n.toNat ≤ f → n ≤ 4096 → 0 ≤ n → n ≤ t.I 5 → t.I 5 ≤ s0.I 5 → KI c hp t → KB t → kx c hp0 s0 hp t 0 0 → TLF s0 t → t.I 4 ≤ 2000 → xx_go (xt_P z) (d + 9) 315 8 [some (.ref (c + 16)), some (.int (iI n)), y2] [] hp (fun v h1 => ∃ (x : Int) (s1 : KS), v = some (.int (iI x)) ∧ (-1 ≤ x ∧ x ≤ 2147483647) ∧ KI c h1 s1 ∧ KB s1 ∧ kx c hp0 s0 h1 s1 0 0 ∧ TLF s0 s1 ∧ s1.I 5 ≤ s0.I 5 ∧ s1.I 4 ≤ 2000) := by
  intro f
  induction f with
  | zero =>
    intro n y2 t hp hf n1 n0 n2 t5 hK hB hX hF h4
    refine go_a (pc' := 9) (ls' := [some (.ref (c + 16)), some (.int (iI n)), y2]) (st' := [.int (iI n)]) rfl rfl ?_
    refine mi_le0 (t := 100) rfl rfl (by omega) (by omega) (fun _ => ?_) (fun q => absurd (show n ≤ 0 by omega) q)
    refine go_a (pc' := 101) (ls' := [some (.ref (c + 16)), some (.int (iI n)), y2]) (st' := [.int (iI ((-1)))]) rfl rfl ?_
    exact go_r rfl rfl rfl rfl rfl rfl ⟨-1, t, rfl, by decide, hK, hB, hX, hF, t5, h4⟩
  | succ f ih =>
    intro n y2 t hp hf n1 n0 n2 t5 hK hB hX hF h4
    refine go_a (pc' := 9) (ls' := [some (.ref (c + 16)), some (.int (iI n)), y2]) (st' := [.int (iI n)]) rfl rfl ?_
    refine mi_le0 (t := 100) rfl rfl (by omega) (by omega) (fun _ => ?_) (fun q => ?_)
    · refine go_a (pc' := 101) (ls' := [some (.ref (c + 16)), some (.int (iI n)), y2]) (st' := [.int (iI ((-1)))]) rfl rfl ?_
      exact go_r rfl rfl rfl rfl rfl rfl ⟨-1, t, rfl, by decide, hK, hB, hX, hF, t5, h4⟩
    · refine go_a (pc' := 13) (ls' := [some (.ref (c + 16)), some (.int (iI n)), y2]) (st' := [.ref (c + 16)]) rfl rfl ?_
      refine go_get (v := .ref (c + 19)) rfl (hK.1 9 (by decide)) rfl rfl ?_
      refine go_v (m := 192) (as := [.ref (c + 19)]) (r := []) rfl rfl rfl (hK.1 11 (by decide)) rfl rfl (kr_takeLast_5 z (d + 8) c hp t hK hB) (fun v h1 hq => ?_)
      have hq := hq.elim (fun q => absurd q.1 (by omega)) id
      obtain ⟨q5, rfl, K1, B1, X1⟩ := hq
      obtain ⟨r, hr⟩ : ∃ r, r = t.A 5 (t.I 5 - 1) := ⟨_, rfl⟩
      have rr := hB.1 5 (t.I 5 - 1)
      rw [← hr] at rr ⊢
      have F1 : TLF s0 (t.wI 5 (t.I 5 - 1)) := TLF_tr hF (TLF_wI (by decide))
      obtain ⟨t1, ht1⟩ : ∃ t1 : KS, t1 = t.wI 5 (t.I 5 - 1) := ⟨_, rfl⟩
      have i5 : t1.I 5 = t.I 5 - 1 := by rw [ht1]; rfl
      have i4 : t1.I 4 = t.I 4 := by rw [ht1]; rfl
      rw [← ht1] at K1 B1 X1 F1
      have hX1 := kx_tr hX X1
      have SA := TLF_SA F1
      have C1 := KSA_CI SA hC
      show xx_go (xt_P z) (d + 9) 315 19 [some (.ref (c + 16)), some (.int (iI n)), y2] [.int (iI r)] h1 _
      refine go_a (pc' := 20) (ls' := [some (.ref (c + 16)), some (.int (iI n)), some (.int (iI r))]) (st' := []) rfl rfl ?_
      refine go_a (pc' := 21) (ls' := [some (.ref (c + 16)), some (.int (iI n)), some (.int (iI r))]) (st' := [.ref (c + 16)]) rfl rfl ?_
      refine go_get (v := .ref (c + 4)) rfl (K1.1 9 (by decide)) rfl rfl ?_
      refine go_a (pc' := 25) (ls' := [some (.ref (c + 16)), some (.int (iI n)), some (.int (iI r))]) (st' := [.int (iI r), .ref (c + 4)]) rfl rfl ?_
      refine go_v (m := 199) (as := [.ref (c + 4), .int (iI r)]) (r := []) rfl rfl rfl (K1.1 3 (by decide)) rfl rfl (kc_isPair z (d + 8) c r h1 t1 K1 B1 rr.1 rr.2) (fun v h2 hq => ?_)
      obtain ⟨hq, e⟩ := hq
      rw [e]
      clear e h2
      rcases hq with ⟨q1, rfl⟩ | ⟨q1, rfl⟩
      · show xx_go (xt_P z) (d + 9) 315 28 [some (.ref (c + 16)), some (.int (iI n)), some (.int (iI r))] [.int (iI 1)] h1 _
        refine mi_eq0 (t := 61) rfl rfl (by omega) (by omega) (fun q => absurd q (by decide)) (fun _ => ?_)
        refine go_a (pc' := 32) (ls' := [some (.ref (c + 16)), some (.int (iI n)), some (.int (iI r))]) (st' := [.ref (c + 16)]) rfl rfl ?_
        refine go_a (pc' := 34) (ls' := [some (.ref (c + 16)), some (.int (iI n)), some (.int (iI r))]) (st' := [.int (iI 32), .ref (c + 16)]) rfl rfl ?_
        refine go_v (m := 313) (as := [.ref (c + 16), .int (iI 32)]) (r := []) rfl rfl rfl (K1.1 9 (by decide)) rfl rfl (ke_put z (d + 6) c 32 h1 t1 K1 B1 (by omega) (by decide) (by decide)) (fun v h2 hq => ?_)
        obtain ⟨rfl, t2, K2, B2, X2, F2, e5, e4⟩ := hq
        show xx_go (xt_P z) (d + 9) 315 37 [some (.ref (c + 16)), some (.int (iI n)), some (.int (iI r))] [] h2 _
        have C2 := KSA_CI (TLF_SA F2) C1
        have r2 := OB_R B2 (fst_OB C2 B2 r).2
        refine go_a (pc' := 38) (ls' := [some (.ref (c + 16)), some (.int (iI n)), some (.int (iI r))]) (st' := [.ref (c + 16)]) rfl rfl ?_
        refine go_get (v := .ref (c + 19)) rfl (K2.1 9 (by decide)) rfl rfl ?_
        refine go_a (pc' := 42) (ls' := [some (.ref (c + 16)), some (.int (iI n)), some (.int (iI r))]) (st' := [.ref (c + 16), .ref (c + 19)]) rfl rfl ?_
        refine go_get (v := .ref (c + 4)) rfl (K2.1 9 (by decide)) rfl rfl ?_
        refine go_a (pc' := 46) (ls' := [some (.ref (c + 16)), some (.int (iI n)), some (.int (iI r))]) (st' := [.int (iI r), .ref (c + 4), .ref (c + 19)]) rfl rfl ?_
        refine go_v (m := 200) (as := [.ref (c + 4), .int (iI r)]) (r := [.ref (c + 19)]) rfl rfl rfl (K2.1 3 (by decide)) rfl rfl (kc_rest z (d + 8) c r h2 t2 K2 B2 rr.1 rr.2) (fun v h3 hq => ?_)
        obtain ⟨rfl, e⟩ := hq
        rw [e]
        clear e h3
        show xx_go (xt_P z) (d + 9) 315 49 [some (.ref (c + 16)), some (.int (iI n)), some (.int (iI r))] [.int (iI (rst t2 r)), .ref (c + 19)] h2 _
        refine go_v (m := 35) (as := [.ref (c + 19), .int (iI (rst t2 r))]) (r := []) rfl rfl rfl (K2.1 11 (by decide)) rfl rfl (kr_add_5 z (d + 7) c (rst t2 r) h2 t2 K2 B2 (by omega) r2.1 r2.2) (fun v h3 hq => ?_)
        obtain ⟨rfl, t3, K3, B3, X3, W3, I3, C3, E3, O3⟩ := hq
        show xx_go (xt_P z) (d + 9) 315 52 [some (.ref (c + 16)), some (.int (iI n)), some (.int (iI r))] [] h3 _
        have F3 := TLF_tr F2 (TLF_row W3 (by decide) I3)
        have j4 : t3.I 4 = t2.I 4 := by rw [I3]; rfl
        have j5 : t3.I 5 = t2.I 5 + 1 := by rw [I3]; rfl
        have f3 := (fst_OB (KSA_CI (TLF_SA F3) C1) B3 r).1
        have fr := OB_R B3 f3
        have f30 := f3.1
        refine go_a (pc' := 53) (ls' := [some (.ref (c + 16)), some (.int (iI n)), some (.int (iI r))]) (st' := [.ref (c + 16)]) rfl rfl ?_
        refine go_get (v := .ref (c + 4)) rfl (K3.1 9 (by decide)) rfl rfl ?_
        refine go_a (pc' := 57) (ls' := [some (.ref (c + 16)), some (.int (iI n)), some (.int (iI r))]) (st' := [.int (iI r), .ref (c + 4)]) rfl rfl ?_
        refine go_v (m := 197) (as := [.ref (c + 4), .int (iI r)]) (r := []) rfl rfl rfl (K3.1 3 (by decide)) rfl rfl (kc_first z (d + 8) c r h3 t3 K3 B3 rr.1 rr.2) (fun v h4 hq => ?_)
        obtain ⟨rfl, e⟩ := hq
        rw [e]
        clear e h4
        show xx_go (xt_P z) (d + 9) 315 60 [some (.ref (c + 16)), some (.int (iI n)), some (.int (iI r))] [.int (iI (fst t3 r))] h3 _
        exact go_r rfl rfl rfl rfl rfl rfl ⟨fst t3 r, t3, rfl, ⟨by omega, fr.2⟩, K3, B3, kx_tr (kx_tr hX1 X2) X3, TLF_tr F1 F3, by omega, by omega⟩
      · show xx_go (xt_P z) (d + 9) 315 28 [some (.ref (c + 16)), some (.int (iI n)), some (.int (iI r))] [.int (iI 0)] h1 _
        refine mi_eq0 (t := 61) rfl rfl (by omega) (by omega) (fun _ => ?_) (fun q => absurd rfl q)
        have nx : ∀ (t2 : KS) (h2 : xx_H), KI c h2 t2 → KB t2 → kx c hp0 s0 h2 t2 0 0 → TLF s0 t2 → t2.I 5 = t1.I 5 → t2.I 4 ≤ 2000 → xx_go (xt_P z) (d + 9) 315 88 [some (.ref (c + 16)), some (.int (iI n)), some (.int (iI r))] [] h2 (fun v h1 => ∃ (x : Int) (s1 : KS), v = some (.int (iI x)) ∧ (-1 ≤ x ∧ x ≤ 2147483647) ∧ KI c h1 s1 ∧ KB s1 ∧ kx c hp0 s0 h1 s1 0 0 ∧ TLF s0 s1 ∧ s1.I 5 ≤ s0.I 5 ∧ s1.I 4 ≤ 2000) := by
          intro t2 h2 K2 B2 X2 F2 e5 e4
          refine go_a (pc' := 89) (ls' := [some (.ref (c + 16)), some (.int (iI n)), some (.int (iI r))]) (st' := [.ref (c + 16)]) rfl rfl ?_
          refine go_a (pc' := 91) (ls' := [some (.ref (c + 16)), some (.int (iI n)), some (.int (iI r))]) (st' := [.int (iI 41), .ref (c + 16)]) rfl rfl ?_
          refine go_v (m := 313) (as := [.ref (c + 16), .int (iI 41)]) (r := []) rfl rfl rfl (K2.1 9 (by decide)) rfl rfl (ke_put z (d + 6) c 41 h2 t2 K2 B2 e4 (by decide) (by decide)) (fun v h3 hq => ?_)
          obtain ⟨rfl, t3, K3, B3, X3, F3, g5, g4⟩ := hq
          show xx_go (xt_P z) (d + 9) 315 94 [some (.ref (c + 16)), some (.int (iI n)), some (.int (iI r))] [] h3 _
          refine go_a (pc' := 97) (ls' := [some (.ref (c + 16)), some (.int (iI (n + (-1)))), some (.int (iI r))]) (st' := []) rfl (by rw [← iI_add n (-1)]; rfl) ?_
          refine go_a (pc' := 8) (ls' := [some (.ref (c + 16)), some (.int (iI (n + (-1)))), some (.int (iI r))]) (st' := []) rfl rfl ?_
          exact ih (n + (-1)) _ t3 h3 (by omega) (by omega) (by omega) (by omega) (by omega) K3 B3 (kx_tr X2 X3) (TLF_tr F2 F3) g4
        refine go_a (pc' := 62) (ls' := [some (.ref (c + 16)), some (.int (iI n)), some (.int (iI r))]) (st' := [.int (iI r)]) rfl rfl ?_
        refine mi_eq0 (t := 88) rfl rfl (by omega) (by omega) (fun _ => nx t1 h1 K1 B1 hX1 F1 rfl (by omega)) (fun q2 => ?_)
        refine go_a (pc' := 66) (ls' := [some (.ref (c + 16)), some (.int (iI n)), some (.int (iI r))]) (st' := [.ref (c + 16)]) rfl rfl ?_
        refine go_a (pc' := 68) (ls' := [some (.ref (c + 16)), some (.int (iI n)), some (.int (iI r))]) (st' := [.int (iI 32), .ref (c + 16)]) rfl rfl ?_
        refine go_v (m := 313) (as := [.ref (c + 16), .int (iI 32)]) (r := []) rfl rfl rfl (K1.1 9 (by decide)) rfl rfl (ke_put z (d + 6) c 32 h1 t1 K1 B1 (by omega) (by decide) (by decide)) (fun v h5 hq => ?_)
        obtain ⟨rfl, t5, K5, B5, X5, F5, e50, e40⟩ := hq
        show xx_go (xt_P z) (d + 9) 315 71 [some (.ref (c + 16)), some (.int (iI n)), some (.int (iI r))] [] h5 _
        refine go_a (pc' := 72) (ls' := [some (.ref (c + 16)), some (.int (iI n)), some (.int (iI r))]) (st' := [.ref (c + 16)]) rfl rfl ?_
        refine go_a (pc' := 74) (ls' := [some (.ref (c + 16)), some (.int (iI n)), some (.int (iI r))]) (st' := [.int (iI 46), .ref (c + 16)]) rfl rfl ?_
        refine go_v (m := 313) (as := [.ref (c + 16), .int (iI 46)]) (r := []) rfl rfl rfl (K5.1 9 (by decide)) rfl rfl (ke_put z (d + 6) c 46 h5 t5 K5 B5 (by omega) (by decide) (by decide)) (fun v h6 hq => ?_)
        obtain ⟨rfl, t6, K6, B6, X6, F6, e51, e41⟩ := hq
        show xx_go (xt_P z) (d + 9) 315 77 [some (.ref (c + 16)), some (.int (iI n)), some (.int (iI r))] [] h6 _
        refine go_a (pc' := 78) (ls' := [some (.ref (c + 16)), some (.int (iI n)), some (.int (iI r))]) (st' := [.ref (c + 16)]) rfl rfl ?_
        refine go_a (pc' := 80) (ls' := [some (.ref (c + 16)), some (.int (iI n)), some (.int (iI r))]) (st' := [.int (iI 32), .ref (c + 16)]) rfl rfl ?_
        refine go_v (m := 313) (as := [.ref (c + 16), .int (iI 32)]) (r := []) rfl rfl rfl (K6.1 9 (by decide)) rfl rfl (ke_put z (d + 6) c 32 h6 t6 K6 B6 (by omega) (by decide) (by decide)) (fun v h7 hq => ?_)
        obtain ⟨rfl, t7, K7, B7, X7, F7, e52, e42⟩ := hq
        show xx_go (xt_P z) (d + 9) 315 83 [some (.ref (c + 16)), some (.int (iI n)), some (.int (iI r))] [] h7 _
        have hO2 : OC h7 := OC_kx hO (kx_tr (kx_tr (kx_tr hX1 X5) X6) X7)
        refine go_a (pc' := 84) (ls' := [some (.ref (c + 16)), some (.int (iI n)), some (.int (iI r))]) (st' := [.ref (c + 16)]) rfl rfl ?_
        refine go_a (pc' := 85) (ls' := [some (.ref (c + 16)), some (.int (iI n)), some (.int (iI r))]) (st' := [.int (iI r), .ref (c + 16)]) rfl rfl ?_
        refine go_v (m := 310) (as := [.ref (c + 16), .int (iI r)]) (r := []) rfl rfl rfl (K7.1 9 (by decide)) rfl rfl (ke_atom z hz (d + 1) c r h7 t7 K7 B7 hO2 (by omega) rr.1 rr.2) (fun v h9 hq => ?_)
        obtain ⟨rfl, t9, K9, B9, X9, F9, e59, e49⟩ := hq
        show xx_go (xt_P z) (d + 9) 315 88 [some (.ref (c + 16)), some (.int (iI n)), some (.int (iI r))] [] h9 _
        exact nx t9 h9 K9 B9 (kx_tr (kx_tr (kx_tr (kx_tr hX1 X5) X6) X7) X9) (TLF_tr (TLF_tr (TLF_tr (TLF_tr F1 F5) F6) F7) F9) (by omega) e49
theorem ke_behind (z : Value) (hz : z = .null ∨ ∃ k, z = .ref k) (d c : Nat) (hp : xx_H) (s : KS) (hK : KI c hp s) (hB : KB s) (hC : CI s) (hO : OC hp) (l4 : s.I 4 ≤ 2000) (l5 : s.I 5 < 4096) : xx_cl (xt_P z) (d + 10) 315 [.ref (c + 16)] hp (fun v h1 => ∃ (x : Int) (s1 : KS), v = some (.int (iI x)) ∧ (-1 ≤ x ∧ x ≤ 2147483647) ∧ KI c h1 s1 ∧ KB s1 ∧ kx c hp s h1 s1 0 0 ∧ TLF s s1 ∧ s1.I 5 ≤ s.I 5 ∧ s1.I 4 ≤ 2000) := by
  have b5 := hB.2.2.2.1 5 (by decide)
  refine cl_go rfl ?_
  show xx_go (xt_P z) (d + 9) 315 0 [some (.ref (c + 16)), none, none] [] hp _
  refine go_a (pc' := 1) (ls' := [some (.ref (c + 16)), none, none]) (st' := [.ref (c + 16)]) rfl rfl ?_
  refine go_get (v := .ref (c + 19)) rfl (hK.1 9 (by decide)) rfl rfl ?_
  refine go_v (m := 34) (as := [.ref (c + 19)]) (r := []) rfl rfl rfl (hK.1 11 (by decide)) rfl rfl (kr_length_5 z (d + 8) c hp s hK) (fun v h1 hq => ?_)
  obtain ⟨rfl, e⟩ := hq
  rw [e]
  clear e h1
  show xx_go (xt_P z) (d + 9) 315 7 [some (.ref (c + 16)), none, none] [.int (iI (s.I 5))] hp _
  refine go_a (pc' := 8) (ls' := [some (.ref (c + 16)), some (.int (iI (s.I 5))), none]) (st' := []) rfl rfl ?_
  exact ke_behind_loop z hz d c hp s hO hC l5 (by omega) _ (s.I 5) none s hp (Nat.le_refl _) (by omega) (by omega) (by omega) (by omega) hK hB kx_rf TLF_rf l4
theorem ke_obj_loop (z : Value) (hz : z = .null ∨ ∃ k, z = .ref k) (d c : Nat) (o : Int) (hp0 : xx_H) (s0 : KS) (hO : OC hp0) (hC : CI s0) : ∀ (f : Nat) (x n : Int) (y4 : Option Value) (t : KS) (hp : xx_H), (2001 - n).toNat ≤ f → 0 ≤ n → n ≤ 2001 → t.I 5 ≤ n → (-2147483648 ≤ x ∧ x ≤ 2147483647) → KI c hp t → KB t → kx c hp0 s0 hp t 0 0 → TLF s0 t → t.I 4 ≤ 2000 → xx_go (xt_P z) (d + 10) 308 12 [some (.ref (c + 16)), some (.int (iI o)), some (.int (iI x)), some (.int (iI n)), y4] [] hp (fun v h1 => v = none ∧ ∃ s1 : KS, KI c h1 s1 ∧ KB s1 ∧ kx c hp0 s0 h1 s1 0 0 ∧ TLF s0 s1 ∧ s1.I 4 ≤ 2000) := by
  intro f
  induction f with
  | zero =>
    intro x n y4 t hp hf n0 n1 t5 hx hK hB hX hF h4
    have fin : xx_go (xt_P z) (d + 10) 308 53 [some (.ref (c + 16)), some (.int (iI o)), some (.int (iI x)), some (.int (iI n)), y4] [] hp (fun v h1 => v = none ∧ ∃ s1 : KS, KI c h1 s1 ∧ KB s1 ∧ kx c hp0 s0 h1 s1 0 0 ∧ TLF s0 s1 ∧ s1.I 4 ≤ 2000) := by
      exact go_r rfl rfl rfl rfl rfl rfl ⟨rfl, t, hK, hB, hX, hF, h4⟩
    refine go_a (pc' := 13) (ls' := [some (.ref (c + 16)), some (.int (iI o)), some (.int (iI x)), some (.int (iI n)), y4]) (st' := [.int (iI n)]) rfl rfl ?_
    refine go_a (pc' := 16) (ls' := [some (.ref (c + 16)), some (.int (iI o)), some (.int (iI x)), some (.int (iI n)), y4]) (st' := [.int (iI 2000), .int (iI n)]) rfl rfl ?_
    refine mi_gt (t := 53) rfl rfl (by omega) (by omega) (by omega) (by omega) (fun _ => fin) (fun q => absurd (show n > 2000 by omega) q)
  | succ f ih =>
    intro x n y4 t hp hf n0 n1 t5 hx hK hB hX hF h4
    have fin : xx_go (xt_P z) (d + 10) 308 53 [some (.ref (c + 16)), some (.int (iI o)), some (.int (iI x)), some (.int (iI n)), y4] [] hp (fun v h1 => v = none ∧ ∃ s1 : KS, KI c h1 s1 ∧ KB s1 ∧ kx c hp0 s0 h1 s1 0 0 ∧ TLF s0 s1 ∧ s1.I 4 ≤ 2000) := by
      exact go_r rfl rfl rfl rfl rfl rfl ⟨rfl, t, hK, hB, hX, hF, h4⟩
    refine go_a (pc' := 13) (ls' := [some (.ref (c + 16)), some (.int (iI o)), some (.int (iI x)), some (.int (iI n)), y4]) (st' := [.int (iI n)]) rfl rfl ?_
    refine go_a (pc' := 16) (ls' := [some (.ref (c + 16)), some (.int (iI o)), some (.int (iI x)), some (.int (iI n)), y4]) (st' := [.int (iI 2000), .int (iI n)]) rfl rfl ?_
    refine mi_gt (t := 53) rfl rfl (by omega) (by omega) (by omega) (by omega) (fun _ => fin) (fun _ => ?_)
    refine go_a (pc' := 20) (ls' := [some (.ref (c + 16)), some (.int (iI o)), some (.int (iI x)), some (.int (iI n)), y4]) (st' := [.int (iI x)]) rfl rfl ?_
    refine go_a (pc' := 21) (ls' := [some (.ref (c + 16)), some (.int (iI o)), some (.int (iI x)), some (.int (iI n)), y4]) (st' := [.int (iI ((-1))), .int (iI x)]) rfl rfl ?_
    refine mi_eq (t := 53) rfl rfl (by omega) (by omega) (by omega) (by omega) (fun _ => fin) (fun _ => ?_)
    have C1 := KSA_CI (TLF_SA hF) hC
    have O1 := OC_kx hO hX
    refine go_a (pc' := 25) (ls' := [some (.ref (c + 16)), some (.int (iI o)), some (.int (iI x)), some (.int (iI n)), y4]) (st' := [.ref (c + 16)]) rfl rfl ?_
    refine go_a (pc' := 26) (ls' := [some (.ref (c + 16)), some (.int (iI o)), some (.int (iI x)), some (.int (iI n)), y4]) (st' := [.int (iI x), .ref (c + 16)]) rfl rfl ?_
    refine go_v (m := 309) (as := [.ref (c + 16), .int (iI x)]) (r := []) rfl rfl rfl (hK.1 9 (by decide)) rfl rfl (ke_front z hz (d + 1) c x hp t hK hB C1 O1 h4 (by omega) hx.1 hx.2) (fun v h1 hq => ?_)
    obtain ⟨w, t1, rfl, hw, K1, B1, X1, F1, e5, e4⟩ := hq
    show xx_go (xt_P z) (d + 10) 308 29 [some (.ref (c + 16)), some (.int (iI o)), some (.int (iI x)), some (.int (iI n)), y4] [.int (iI w)] h1 _
    refine go_a (pc' := 31) (ls' := [some (.ref (c + 16)), some (.int (iI o)), some (.int (iI x)), some (.int (iI n)), some (.int (iI w))]) (st' := []) rfl rfl ?_
    refine go_a (pc' := 33) (ls' := [some (.ref (c + 16)), some (.int (iI o)), some (.int (iI x)), some (.int (iI n)), some (.int (iI w))]) (st' := [.int (iI w)]) rfl rfl ?_
    refine go_a (pc' := 34) (ls' := [some (.ref (c + 16)), some (.int (iI o)), some (.int (iI x)), some (.int (iI n)), some (.int (iI w))]) (st' := [.int (iI ((-1))), .int (iI w)]) rfl rfl ?_
    refine mi_ne (t := 44) rfl rfl (by omega) (by omega) (by omega) (by omega) (fun q => ?_) (fun q => ?_)
    · refine go_a (pc' := 46) (ls' := [some (.ref (c + 16)), some (.int (iI o)), some (.int (iI x)), some (.int (iI n)), some (.int (iI w))]) (st' := [.int (iI w)]) rfl rfl ?_
      refine go_a (pc' := 47) (ls' := [some (.ref (c + 16)), some (.int (iI o)), some (.int (iI w)), some (.int (iI n)), some (.int (iI w))]) (st' := []) rfl rfl ?_
      refine go_a (pc' := 50) (ls' := [some (.ref (c + 16)), some (.int (iI o)), some (.int (iI w)), some (.int (iI (n + 1))), some (.int (iI w))]) (st' := []) rfl (by rw [← iI_add n 1]; rfl) ?_
      refine go_a (pc' := 12) (ls' := [some (.ref (c + 16)), some (.int (iI o)), some (.int (iI w)), some (.int (iI (n + 1))), some (.int (iI w))]) (st' := []) rfl rfl ?_
      exact ih w (n + 1) _ t1 h1 (by omega) (by omega) (by omega) (by omega) ⟨by omega, hw.2⟩ K1 B1 (kx_tr hX X1) (TLF_tr hF F1) e4
    · refine go_a (pc' := 38) (ls' := [some (.ref (c + 16)), some (.int (iI o)), some (.int (iI x)), some (.int (iI n)), some (.int (iI w))]) (st' := [.ref (c + 16)]) rfl rfl ?_
      refine go_v (m := 315) (as := [.ref (c + 16)]) (r := []) rfl rfl rfl (K1.1 9 (by decide)) rfl rfl (ke_behind z hz d c h1 t1 K1 B1 (KSA_CI (TLF_SA F1) C1) (OC_kx O1 X1) e4 (by omega)) (fun v h2 hq => ?_)
      obtain ⟨u, t2, rfl, hu, K2, B2, X2, F2, g5, g4⟩ := hq
      show xx_go (xt_P z) (d + 10) 308 41 [some (.ref (c + 16)), some (.int (iI o)), some (.int (iI x)), some (.int (iI n)), some (.int (iI w))] [.int (iI u)] h2 _
      refine go_a (pc' := 46) (ls' := [some (.ref (c + 16)), some (.int (iI o)), some (.int (iI x)), some (.int (iI n)), some (.int (iI w))]) (st' := [.int (iI u)]) rfl rfl ?_
      refine go_a (pc' := 47) (ls' := [some (.ref (c + 16)), some (.int (iI o)), some (.int (iI u)), some (.int (iI n)), some (.int (iI w))]) (st' := []) rfl rfl ?_
      refine go_a (pc' := 50) (ls' := [some (.ref (c + 16)), some (.int (iI o)), some (.int (iI u)), some (.int (iI (n + 1))), some (.int (iI w))]) (st' := []) rfl (by rw [← iI_add n 1]; rfl) ?_
      refine go_a (pc' := 12) (ls' := [some (.ref (c + 16)), some (.int (iI o)), some (.int (iI u)), some (.int (iI (n + 1))), some (.int (iI w))]) (st' := []) rfl rfl ?_
      exact ih u (n + 1) _ t2 h2 (by omega) (by omega) (by omega) (by omega) ⟨by omega, hu.2⟩ K2 B2 (kx_tr (kx_tr hX X1) X2) (TLF_tr (TLF_tr hF F1) F2) g4
theorem ke_tellObject (z : Value) (hz : z = .null ∨ ∃ k, z = .ref k) (d c : Nat) (o : Int) (hp : xx_H) (s : KS) (hK : KI c hp s) (hB : KB s) (hC : CI s) (hO : OC hp) (l4 : s.I 4 ≤ 2000) (o0 : -2147483648 ≤ o) (o1 : o ≤ 2147483647) : xx_cl (xt_P z) (d + 11) 308 [.ref (c + 16), .int (iI o)] hp (fun v h1 => v = none ∧ ∃ s1 : KS, KI c h1 s1 ∧ KB s1 ∧ kx c hp s h1 s1 0 0 ∧ TLF s s1 ∧ s1.I 4 ≤ 2000) := by
  refine cl_go rfl ?_
  show xx_go (xt_P z) (d + 10) 308 0 [some (.ref (c + 16)), some (.int (iI o)), none, none, none] [] hp _
  refine go_a (pc' := 1) (ls' := [some (.ref (c + 16)), some (.int (iI o)), none, none, none]) (st' := [.ref (c + 16)]) rfl rfl ?_
  refine go_get (v := .ref (c + 19)) rfl (hK.1 9 (by decide)) rfl rfl ?_
  refine go_a (pc' := 5) (ls' := [some (.ref (c + 16)), some (.int (iI o)), none, none, none]) (st' := [.int (iI 0), .ref (c + 19)]) rfl rfl ?_
  refine go_v (m := 39) (as := [.ref (c + 19), .int (iI 0)]) (r := []) rfl rfl rfl (hK.1 11 (by decide)) rfl rfl (kr_cut0_5 z (d + 9) c hp s hK hB) (fun v h1 hq => ?_)
  obtain ⟨rfl, K1, B1, X1⟩ := hq
  show xx_go (xt_P z) (d + 10) 308 8 [some (.ref (c + 16)), some (.int (iI o)), none, none, none] [] h1 _
  refine go_a (pc' := 9) (ls' := [some (.ref (c + 16)), some (.int (iI o)), none, none, none]) (st' := [.int (iI o)]) rfl rfl ?_
  refine go_a (pc' := 10) (ls' := [some (.ref (c + 16)), some (.int (iI o)), some (.int (iI o)), none, none]) (st' := []) rfl rfl ?_
  refine go_a (pc' := 11) (ls' := [some (.ref (c + 16)), some (.int (iI o)), some (.int (iI o)), none, none]) (st' := [.int (iI 0)]) rfl rfl ?_
  refine go_a (pc' := 12) (ls' := [some (.ref (c + 16)), some (.int (iI o)), some (.int (iI o)), some (.int (iI 0)), none]) (st' := []) rfl rfl ?_
  refine go_w (fun v h2 hq => ?_) (ke_obj_loop z hz d c o h1 (s.wI 5 0) (OC_kx hO X1) (KSA_CI ⟨rfl, rfl, rfl⟩ hC) _ o 0 none (s.wI 5 0) h1 (Nat.le_refl _) (by decide) (by decide) (Int.le_refl _) ⟨o0, o1⟩ K1 B1 kx_rf TLF_rf l4)
  obtain ⟨e, t, K2, B2, X2, F2, g4⟩ := hq
  exact ⟨e, t, K2, B2, kx_tr X1 X2, TLF_tr (TLF_wI (by decide)) F2, g4⟩
theorem ke_clear (z : Value) (d c : Nat) (hp : xx_H) (s : KS) (hK : KI c hp s) (hB : KB s) : xx_cl (xt_P z) (d + 2) 38 [.ref (c + 16)] hp (fun v h1 => v = none ∧ KI c h1 (s.wI 4 0) ∧ KB (s.wI 4 0) ∧ kx c hp s h1 (s.wI 4 0) 0 0) := by
  refine cl_go rfl ?_
  show xx_go (xt_P z) (d + 1) 38 0 [some (.ref (c + 16))] [] hp _
  refine go_a (pc' := 1) (ls' := [some (.ref (c + 16))]) (st' := [.ref (c + 16)]) rfl rfl ?_
  refine go_get (v := .ref (c + 17)) rfl (hK.1 9 (by decide)) rfl rfl ?_
  refine go_a (pc' := 5) (ls' := [some (.ref (c + 16))]) (st' := [.int (iI 0), .ref (c + 17)]) rfl rfl ?_
  refine go_v (m := 39) (as := [.ref (c + 17), .int (iI 0)]) (r := []) rfl rfl rfl (hK.1 10 (by decide)) rfl rfl (kr_cut0_4 z d c hp s hK hB) (fun v h1 hq => ?_)
  obtain ⟨rfl, K1, B1, X1⟩ := hq
  show xx_go (xt_P z) (d + 1) 38 8 [some (.ref (c + 16))] [] h1 _
  exact go_r rfl rfl rfl rfl rfl rfl ⟨rfl, K1, B1, X1⟩
theorem ke_length (z : Value) (d c : Nat) (hp : xx_H) (s : KS) (hK : KI c hp s) : xx_cl (xt_P z) (d + 2) 54 [.ref (c + 16)] hp (fun v h1 => v = some (.int (iI (s.I 4))) ∧ h1 = hp) := by
  refine cl_go rfl ?_
  show xx_go (xt_P z) (d + 1) 54 0 [some (.ref (c + 16))] [] hp _
  refine go_a (pc' := 1) (ls' := [some (.ref (c + 16))]) (st' := [.ref (c + 16)]) rfl rfl ?_
  refine go_get (v := .ref (c + 17)) rfl (hK.1 9 (by decide)) rfl rfl ?_
  refine go_v (m := 34) (as := [.ref (c + 17)]) (r := []) rfl rfl rfl (hK.1 10 (by decide)) rfl rfl (kr_length_4 z d c hp s hK) (fun v h1 hq => ?_)
  obtain ⟨rfl, e⟩ := hq
  rw [e]
  show xx_go (xt_P z) (d + 1) 54 7 [some (.ref (c + 16))] [.int (iI (s.I 4))] hp _
  exact go_r rfl rfl rfl rfl rfl rfl ⟨rfl, rfl⟩
theorem ke_at (z : Value) (d c : Nat) (k : Int) (hp : xx_H) (s : KS) (hK : KI c hp s) (hB : KB s) (k0 : -2147483648 ≤ k) (k1 : k < 2147483648) : xx_cl (xt_P z) (d + 2) 56 [.ref (c + 16), .int (iI k)] hp (fun v h1 => (∃ y : Int, v = some (.int (iI y))) ∧ h1 = hp) := by
  refine cl_go rfl ?_
  show xx_go (xt_P z) (d + 1) 56 0 [some (.ref (c + 16)), some (.int (iI k))] [] hp _
  refine go_a (pc' := 1) (ls' := [some (.ref (c + 16)), some (.int (iI k))]) (st' := [.ref (c + 16)]) rfl rfl ?_
  refine go_get (v := .ref (c + 17)) rfl (hK.1 9 (by decide)) rfl rfl ?_
  refine go_a (pc' := 5) (ls' := [some (.ref (c + 16)), some (.int (iI k))]) (st' := [.int (iI k), .ref (c + 17)]) rfl rfl ?_
  refine go_v (m := 43) (as := [.ref (c + 17), .int (iI k)]) (r := []) rfl rfl rfl (hK.1 10 (by decide)) rfl rfl (kr_at_4 z d c k hp s hK hB k0 k1) (fun v h1 hq => ?_)
  obtain ⟨hq, e⟩ := hq
  rw [e]
  have hq : ∃ y : Int, v = some (.int (iI y)) := hq.elim (fun q => ⟨_, q.2.2⟩) (fun q => ⟨_, q.2⟩)
  obtain ⟨y, rfl⟩ := hq
  show xx_go (xt_P z) (d + 1) 56 8 [some (.ref (c + 16)), some (.int (iI k))] [.int (iI y)] hp _
  exact go_r rfl rfl rfl rfl rfl rfl ⟨⟨y, rfl⟩, rfl⟩
