theorem RJ_word {u e g : Int} {s : KS} (h : RJ u e g s) (p : s.I 10 < 1000) : RJ u (e + 1) (g + 2) (s.wI 10 (s.I 10 + 1)) := by
  obtain ⟨h1, h2, h3, h4, h5, h6, h7, h8⟩ := h
  refine ⟨h1, ⟨h2.1, h2.2.1, show 0 ≤ s.I 10 + 1 by omega, show s.I 10 + 1 ≤ 1000 by omega⟩, h3, h4, h5, h6, ?_, ?_⟩
  · show SG (WD (SD s)) (s.A 3) (s.I 3).toNat + SG ow (s.A 1) (s.I 1).toNat + (e + 1) ≤ s.I 10 + 1
    omega
  · show s.I 8 + s.I 3 + SG oq (s.A 1) (s.I 1).toNat + (g + 2) ≤ u + 2 * (s.I 10 + 1)
    omega
theorem kd_accept (z : Value) (d c : Nat) (w u : Int) (hp : xx_H) (s : KS) (hK : KI c hp s) (hB : KB s) (hu : u ≤ 30000) (hJ : RJ u 0 (-1) s) (hJ2 : w ≠ 3 → RJ u 0 0 s) (hw : w = 3 ∨ w = 39 ∨ w = 40 ∨ w = 41 ∨ w = 46) (hm : MST2 w s) (ha : w = 3 → OB s (s.I 11) ∧ ¬ s.N (s.I 11) < 0) (p10 : s.I 10 < 1000) (p40 : (w = 40 ∨ w = 39) → s.I 1 ≤ 40) : xx_cl (xt_P z) (d + 7) 189 [.ref (c + 9), .int (iI w)] hp (fun v h1 => v = none ∧ ∃ s1 : KS, KI c h1 s1 ∧ KB s1 ∧ kx c hp s h1 s1 0 0 ∧ RFF (s.wI 10 (s.I 10 + 1)) s1 ∧ RI u s1) := by
  have hX : kx c hp s hp s 0 0 := kx_rf
  have j0 := hJ.2.1
  refine cl_go rfl ?_
  show xx_go (xt_P z) (d + 6) 189 0 [some (.ref (c + 9)), some (.int (iI w))] [] hp _
  refine go_a (pc' := 1) (ls' := [some (.ref (c + 9)), some (.int (iI w))]) (st' := [.ref (c + 9)]) rfl rfl ?_
  refine go_a (pc' := 2) (ls' := [some (.ref (c + 9)), some (.int (iI w))]) (st' := [.ref (c + 9), .ref (c + 9)]) rfl rfl ?_
  refine go_get (v := .int (iI (s.I 10))) rfl (hK.1 5 (by decide)) rfl rfl ?_
  refine go_a (pc' := 6) (ls' := [some (.ref (c + 9)), some (.int (iI w))]) (st' := [.int (iI 1), .int (iI (s.I 10)), .ref (c + 9)]) rfl rfl ?_
  refine mi_add rfl ?_
  refine kput_10 (x := (s.I 10) + 1) hK hX rfl rfl (fun hp1 hK hX => ?_)
  refine go_a (pc' := 11) (ls' := [some (.ref (c + 9)), some (.int (iI w))]) (st' := [.int (iI w)]) rfl rfl ?_
  have B1 : KB (s.wI 10 (s.I 10 + 1)) := KB_wF hB (by omega) (by omega) (by decide)
  have J1 := RJ_word hJ p10
  by_cases cb : w = 39
  · refine mi_ts (c := 39) (t := 64) rfl cb rfl ?_
    have J2 := RJ_word (hJ2 (by omega)) p10
    have tq : tps s ≠ 1 ∧ tps s ≠ 6 := by
      unfold MST2 at hm
      omega
    refine go_a (pc' := 65) (ls' := [some (.ref (c + 9)), some (.int (iI w))]) (st' := [.ref (c + 9)]) rfl rfl ?_
    refine go_a (pc' := 66) (ls' := [some (.ref (c + 9)), some (.int (iI w))]) (st' := [.int (iI 2), .ref (c + 9)]) rfl rfl ?_
    refine go_v (m := 190) (as := [.ref (c + 9), .int (iI 2)]) (r := []) rfl rfl rfl (hK.1 5 (by decide)) rfl rfl (kd_open z (d + 3) c 2 u hp1 (s.wI 10 (s.I 10 + 1)) hK B1 hu (RJ_w J2 (by decide) (by decide)) (by decide) (by decide) (p40 (by omega)) tq) (fun v h2 hq => ?_)
    obtain ⟨rfl, t2, K2, B2, X2, F2, J2⟩ := hq
    show xx_go (xt_P z) (d + 6) 189 69 [some (.ref (c + 9)), some (.int (iI w))] [] h2 _
    refine go_a (pc' := 95) (ls' := [some (.ref (c + 9)), some (.int (iI w))]) (st' := []) rfl rfl ?_
    exact go_r rfl rfl rfl rfl rfl rfl ⟨rfl, t2, K2, B2, kx_tr hX X2, F2, J2⟩
  by_cases ca : w = 40
  · refine mi_ts (c := 40) (t := 56) rfl ca rfl ?_
    have J2 := RJ_word (hJ2 (by omega)) p10
    have tq : tps s ≠ 1 ∧ tps s ≠ 6 := by
      unfold MST2 at hm
      omega
    refine go_a (pc' := 57) (ls' := [some (.ref (c + 9)), some (.int (iI w))]) (st' := [.ref (c + 9)]) rfl rfl ?_
    refine go_a (pc' := 58) (ls' := [some (.ref (c + 9)), some (.int (iI w))]) (st' := [.int (iI 3), .ref (c + 9)]) rfl rfl ?_
    refine go_v (m := 190) (as := [.ref (c + 9), .int (iI 3)]) (r := []) rfl rfl rfl (hK.1 5 (by decide)) rfl rfl (kd_open z (d + 3) c 3 u hp1 (s.wI 10 (s.I 10 + 1)) hK B1 hu (RJ_w J2 (by decide) (by decide)) (by decide) (by decide) (p40 (by omega)) tq) (fun v h2 hq => ?_)
    obtain ⟨rfl, t2, K2, B2, X2, F2, J2⟩ := hq
    show xx_go (xt_P z) (d + 6) 189 61 [some (.ref (c + 9)), some (.int (iI w))] [] h2 _
    refine go_a (pc' := 95) (ls' := [some (.ref (c + 9)), some (.int (iI w))]) (st' := []) rfl rfl ?_
    exact go_r rfl rfl rfl rfl rfl rfl ⟨rfl, t2, K2, B2, kx_tr hX X2, F2, J2⟩
  by_cases cc : w = 41
  · refine mi_ts (c := 41) (t := 80) rfl cc rfl ?_
    have J2 := RJ_word (hJ2 (by omega)) p10
    have tq : tps s = 3 ∨ tps s = 4 ∨ tps s = 6 := by
      unfold MST2 at hm
      omega
    refine go_a (pc' := 81) (ls' := [some (.ref (c + 9)), some (.int (iI w))]) (st' := [.ref (c + 9)]) rfl rfl ?_
    refine go_v (m := 193) (as := [.ref (c + 9)]) (r := []) rfl rfl rfl (hK.1 5 (by decide)) rfl rfl (kd_close z d c u hp1 (s.wI 10 (s.I 10 + 1)) hK B1 hu J2 tq) (fun v h2 hq => ?_)
    obtain ⟨rfl, t2, K2, B2, X2, F2, J2⟩ := hq
    show xx_go (xt_P z) (d + 6) 189 84 [some (.ref (c + 9)), some (.int (iI w))] [] h2 _
    refine go_a (pc' := 95) (ls' := [some (.ref (c + 9)), some (.int (iI w))]) (st' := []) rfl rfl ?_
    exact go_r rfl rfl rfl rfl rfl rfl ⟨rfl, t2, K2, B2, kx_tr hX X2, F2, J2⟩
  by_cases cd : w = 46
  · refine mi_ts (c := 46) (t := 72) rfl cd rfl ?_
    have J2 := RJ_word (hJ2 (by omega)) p10
    have tq : tps s = 4 := by
      unfold MST2 at hm
      omega
    refine go_a (pc' := 73) (ls' := [some (.ref (c + 9)), some (.int (iI w))]) (st' := [.ref (c + 9)]) rfl rfl ?_
    refine go_a (pc' := 74) (ls' := [some (.ref (c + 9)), some (.int (iI w))]) (st' := [.int (iI 5), .ref (c + 9)]) rfl rfl ?_
    refine go_v (m := 191) (as := [.ref (c + 9), .int (iI 5)]) (r := []) rfl rfl rfl (hK.1 5 (by decide)) rfl rfl (kd_become z (d + 3) c 5 hp1 (s.wI 10 (s.I 10 + 1)) hK B1 (show s.I 1 ≤ 41 by omega) (by decide) (by decide)) (fun v h2 hq => ?_)
    obtain ⟨rfl, t2, K2, B2, X2, W2, I2, E2, O2⟩ := hq
    have J3 := RJ_top J2 (by decide) (by decide) W2 I2 E2 O2
    rw [show tps (s.wI 10 (s.I 10 + 1)) = 4 from tq] at J3
    show xx_go (xt_P z) (d + 6) 189 77 [some (.ref (c + 9)), some (.int (iI w))] [] h2 _
    refine go_a (pc' := 95) (ls' := [some (.ref (c + 9)), some (.int (iI w))]) (st' := []) rfl rfl ?_
    exact go_r rfl rfl rfl rfl rfl rfl ⟨rfl, t2, K2, B2, kx_tr hX X2, RFF_row W2 (by decide) I2, RJ_w J3 (by decide) (by decide)⟩
  refine mi_tsd (t := 87) rfl (by omega) (by omega) (by omega) rfl ?_
  have w3 : w = 3 := by omega
  have tq : tps s ≠ 1 ∧ tps s ≠ 6 := by
    unfold MST2 at hm
    omega
  have h3 := ha w3
  have wa : WD (SD s) (s.I 11) = 1 := WD_atom (SD_at h3.2).1
  refine go_a (pc' := 88) (ls' := [some (.ref (c + 9)), some (.int (iI w))]) (st' := [.ref (c + 9)]) rfl rfl ?_
  refine go_a (pc' := 89) (ls' := [some (.ref (c + 9)), some (.int (iI w))]) (st' := [.ref (c + 9), .ref (c + 9)]) rfl rfl ?_
  refine go_get (v := .int (iI (s.I 11))) rfl (hK.1 5 (by decide)) rfl rfl ?_
  refine go_v (m := 196) (as := [.ref (c + 9), .int (iI (s.I 11))]) (r := []) rfl rfl rfl (hK.1 5 (by decide)) rfl rfl (kd_addObject z (d + 2) c (s.I 11) u hp1 (s.wI 10 (s.I 10 + 1)) hK B1 hu (RJ_w J1 (show WD (SD s) (s.I 11) ≤ 0 + 1 by omega) (by decide)) h3.1 tq) (fun v h2 hq => ?_)
  obtain ⟨rfl, t2, K2, B2, X2, F2, J2⟩ := hq
  show xx_go (xt_P z) (d + 6) 189 95 [some (.ref (c + 9)), some (.int (iI w))] [] h2 _
  exact go_r rfl rfl rfl rfl rfl rfl ⟨rfl, t2, K2, B2, kx_tr hX X2, F2, J2⟩
set_option maxRecDepth 4000 in
theorem kd_read_loop (z : Value) (d c : Nat) (hp0 : xx_H) (s0 : KS) (hO : OC hp0) (hT : TXI s0) (hu : s0.I 8 ≤ 30000) (l0 : 0 ≤ s0.I 0) (l1 : s0.I 0 ≤ 8192) : ∀ (f : Nat) (n : Int) (y3 y4 : Option Value) (t : KS) (hp : xx_H), (s0.I 0 - n).toNat ≤ f → 0 ≤ n → n ≤ 10000 → KI c hp t → KB t → kx c hp0 s0 hp t 0 0 → RDF s0 t → KGO s0 t → RJ (s0.I 8) 0 (-1) t → (t.I 12 = 0 → RJ (s0.I 8) 0 0 t) → (0 ≤ t.I 9 ∧ t.I 9 ≤ t.I 0) → (0 ≤ t.I 12 ∧ t.I 12 ≤ 5) → t.I 10 ≤ NZ (s0.A 0) (t.I 9).toNat → xx_go (xt_P z) (d + 9) 40 11 [some (.ref (c + 9)), some (.ref (c + 1)), some (.int (iI n)), y3, y4] [] hp (fun v h1 => ∃ (x : Int) (s1 : KS), v = some (.int (iI x)) ∧ KI c h1 s1 ∧ KB s1 ∧ CI s1 ∧ kx c hp0 s0 h1 s1 0 0 ∧ RDF s0 s1 ∧ KGO s0 s1 ∧ (0 ≤ s1.I 10 ∧ s1.I 10 ≤ 1000 ∧ s1.I 10 ≤ NZ (s0.A 0) (s0.I 0).toNat ∧ s1.I 8 ≤ s0.I 8 + 2 * s1.I 10 + 1) ∧ (x = -1 ∨ (OB s1 x ∧ WD (SD s1) x ≤ s1.I 10 + 1))) := by
  have fin : ∀ (n : Int) (y3 y4 : Option Value) (t : KS) (hp : xx_H), KI c hp t → KB t → kx c hp0 s0 hp t 0 0 → RDF s0 t → KGO s0 t → RJ (s0.I 8) 0 (-1) t → (t.I 12 = 0 → RJ (s0.I 8) 0 0 t) → (0 ≤ t.I 9 ∧ t.I 9 ≤ t.I 0) → (0 ≤ t.I 12 ∧ t.I 12 ≤ 5) → t.I 10 ≤ NZ (s0.A 0) (t.I 9).toNat → xx_go (xt_P z) (d + 9) 40 91 [some (.ref (c + 9)), some (.ref (c + 1)), some (.int (iI n)), y3, y4] [] hp (fun v h1 => ∃ (x : Int) (s1 : KS), v = some (.int (iI x)) ∧ KI c h1 s1 ∧ KB s1 ∧ CI s1 ∧ kx c hp0 s0 h1 s1 0 0 ∧ RDF s0 s1 ∧ KGO s0 s1 ∧ (0 ≤ s1.I 10 ∧ s1.I 10 ≤ 1000 ∧ s1.I 10 ≤ NZ (s0.A 0) (s0.I 0).toNat ∧ s1.I 8 ≤ s0.I 8 + 2 * s1.I 10 + 1) ∧ (x = -1 ∨ (OB s1 x ∧ WD (SD s1) x ≤ s1.I 10 + 1))) := by
    intro n y3 y4 t hp hK hB hX hD hG hJ hJ0 h9 h12 hz
    have i0 : t.I 0 = s0.I 0 := hD.2.2 0 (by omega)
    have b1 := hB.2.2.2.1 1 (by decide)
    have b3 := hB.2.2.2.1 3 (by decide)
    have jj := hJ.2.1
    have j8 := hJ.2.2.2.2.2.2.2
    have sq := SG_nn (g := oq) (f := t.A 1) (t.I 1).toNat (fun e _ => (oq_R _).1)
    have so := SG_nn (g := ow) (f := t.A 1) (t.I 1).toNat (fun e _ => (ow_R _).1)
    have nzm := NZ_mono (f := s0.A 0) (s0.I 0).toNat (t.I 9).toNat (by omega)
    have bad : ∀ (t2 : KS) (hp2 : xx_H), KI c hp2 t2 → KB t2 → kx c hp0 s0 hp2 t2 0 0 → (∃ a b : Int, t2 = (t.wI 12 a).wI 13 b ∧ a ≠ 0 ∧ 0 ≤ a ∧ a ≤ 5) → xx_go (xt_P z) (d + 9) 40 122 [some (.ref (c + 9)), some (.ref (c + 1)), some (.int (iI n)), y3, y4] [] hp2 (fun v h1 => ∃ (x : Int) (s1 : KS), v = some (.int (iI x)) ∧ KI c h1 s1 ∧ KB s1 ∧ CI s1 ∧ kx c hp0 s0 h1 s1 0 0 ∧ RDF s0 s1 ∧ KGO s0 s1 ∧ (0 ≤ s1.I 10 ∧ s1.I 10 ≤ 1000 ∧ s1.I 10 ≤ NZ (s0.A 0) (s0.I 0).toNat ∧ s1.I 8 ≤ s0.I 8 + 2 * s1.I 10 + 1) ∧ (x = -1 ∨ (OB s1 x ∧ WD (SD s1) x ≤ s1.I 10 + 1))) := by
      intro t2 hp2 K2 B2 X2 ht2
      obtain ⟨a, b, rfl, a0, a1, a2⟩ := ht2
      refine go_a (pc' := 123) (ls' := [some (.ref (c + 9)), some (.ref (c + 1)), some (.int (iI n)), y3, y4]) (st' := [.ref (c + 9)]) rfl rfl ?_
      refine go_get (v := .int (iI a)) rfl (K2.1 5 (by decide)) rfl rfl ?_
      refine mi_ne0 (t := 140) rfl rfl (by omega) (by omega) (fun _ => ?_) (fun q => absurd a0 q)
      refine go_a (pc' := 141) (ls' := [some (.ref (c + 9)), some (.ref (c + 1)), some (.int (iI n)), y3, y4]) (st' := [.int (iI ((-1)))]) rfl rfl ?_
      exact go_r rfl rfl rfl rfl rfl rfl ⟨-1, (t.wI 12 a).wI 13 b, rfl, K2, B2, hJ.1, X2, RDF_tr hD (RDF_tr (RDF_wI (by decide)) (RDF_wI (by decide))), hG, ⟨(show 0 ≤ t.I 10 by omega), (show t.I 10 ≤ 1000 by omega), (show t.I 10 ≤ _ by omega), (show t.I 8 ≤ s0.I 8 + 2 * t.I 10 + 1 by omega)⟩, Or.inl rfl⟩
    refine go_a (pc' := 92) (ls' := [some (.ref (c + 9)), some (.ref (c + 1)), some (.int (iI n)), y3, y4]) (st' := [.ref (c + 9)]) rfl rfl ?_
    refine go_get (v := .int (iI (t.I 12))) rfl (hK.1 5 (by decide)) rfl rfl ?_
    refine mi_ne0 (t := 122) rfl rfl (by omega) (by omega) (fun q => ?_) (fun q => ?_)
    · have e : (t.wI 12 (t.I 12)).wI 13 (t.I 13) = t := by rw [wI_eta (show t.I 12 = t.I 12 from rfl), wI_eta rfl]
      exact bad t hp hK hB hX ⟨t.I 12, t.I 13, e.symm, q, by omega, by omega⟩
    · have z12 : t.I 12 = 0 := by omega
      have J0 := hJ0 z12
      refine go_a (pc' := 99) (ls' := [some (.ref (c + 9)), some (.ref (c + 1)), some (.int (iI n)), y3, y4]) (st' := [.ref (c + 9)]) rfl rfl ?_
      refine go_get (v := .ref (c + 10)) rfl (hK.1 5 (by decide)) rfl rfl ?_
      refine go_v (m := 44) (as := [.ref (c + 10)]) (r := []) rfl rfl rfl (hK.1 6 (by decide)) rfl rfl (kr_last_1 z (d + 8) c hp t hK hB) (fun v h1 hq => ?_)
      obtain ⟨hq, e⟩ := hq
      rw [e]
      clear e h1
      have hq : v = some (.int (iI (tps t))) := by
        unfold tps
        rcases hq with ⟨q1, q2⟩ | ⟨q1, q2⟩
        · rw [if_pos q1]
          exact q2
        · rw [if_neg (by omega)]
          exact q2
      subst hq
      have tr := tps_R hJ
      show xx_go (xt_P z) (d + 9) 40 105 [some (.ref (c + 9)), some (.ref (c + 1)), some (.int (iI n)), y3, y4] [.int (iI (tps t))] hp _
      refine go_a (pc' := 106) (ls' := [some (.ref (c + 9)), some (.ref (c + 1)), some (.int (iI n)), y3, y4]) (st' := [.int (iI 1), .int (iI (tps t))]) rfl rfl ?_
      refine mi_eq (t := 122) rfl rfl (by omega) (by omega) (by omega) (by omega) (fun q2 => ?_) (fun q2 => ?_)
      · refine go_a (pc' := 123) (ls' := [some (.ref (c + 9)), some (.ref (c + 1)), some (.int (iI n)), y3, y4]) (st' := [.ref (c + 9)]) rfl rfl ?_
        refine go_get (v := .int (iI (t.I 12))) rfl (hK.1 5 (by decide)) rfl rfl ?_
        refine mi_ne0 (t := 140) rfl rfl (by omega) (by omega) (fun w => absurd z12 w) (fun _ => ?_)
        refine go_a (pc' := 130) (ls' := [some (.ref (c + 9)), some (.ref (c + 1)), some (.int (iI n)), y3, y4]) (st' := [.ref (c + 9)]) rfl rfl ?_
        refine go_get (v := .ref (c + 14)) rfl (hK.1 5 (by decide)) rfl rfl ?_
        refine go_a (pc' := 134) (ls' := [some (.ref (c + 9)), some (.ref (c + 1)), some (.int (iI n)), y3, y4]) (st' := [.int (iI 0), .ref (c + 14)]) rfl rfl ?_
        refine go_v (m := 43) (as := [.ref (c + 14), .int (iI 0)]) (r := []) rfl rfl rfl (hK.1 8 (by decide)) rfl rfl (kr_at_3 z (d + 8) c 0 hp t hK hB (by decide) (by decide)) (fun v h1 hq => ?_)
        obtain ⟨hq, e⟩ := hq
        rw [e]
        clear e h1
        have b8 := hB.2.2.2.2.2.1
        have hq : ∃ y : Int, v = some (.int (iI y)) ∧ OB t y ∧ WD (SD t) y ≤ t.I 10 + 1 := by
          rcases hq with ⟨-, p1, p2⟩ | ⟨p1, p2⟩
          · have ob := hJ.2.2.1 0 (by decide) p1
            have se := SG_each (g := WD (SD t)) (f := t.A 3) (t.I 3).toNat (fun e he => by have := WD_1c hJ.1 (hJ.2.2.1 e (by omega) (by omega)); omega) 0 (by omega)
            have j7 := J0.2.2.2.2.2.2.1
            have se : WD (SD t) (t.A 3 0) ≤ SG (WD (SD t)) (t.A 3) (t.I 3).toNat := se
            exact ⟨_, p2, ob, by omega⟩
          · refine ⟨0, p2, ⟨by decide, by omega⟩, ?_⟩
            rw [WD_atom (CI_n0 hJ.1)]
            omega
        obtain ⟨y, rfl, ob, wy⟩ := hq
        show xx_go (xt_P z) (d + 9) 40 137 [some (.ref (c + 9)), some (.ref (c + 1)), some (.int (iI n)), y3, y4] [.int (iI y)] hp _
        refine go_a (pc' := 141) (ls' := [some (.ref (c + 9)), some (.ref (c + 1)), some (.int (iI n)), y3, y4]) (st' := [.int (iI y)]) rfl rfl ?_
        exact go_r rfl rfl rfl rfl rfl rfl ⟨y, t, rfl, hK, hB, hJ.1, hX, hD, hG, ⟨by omega, by omega, by omega, by omega⟩, Or.inr ⟨ob, wy⟩⟩
      · refine go_a (pc' := 110) (ls' := [some (.ref (c + 9)), some (.ref (c + 1)), some (.int (iI n)), y3, y4]) (st' := [.ref (c + 9)]) rfl rfl ?_
        refine go_a (pc' := 111) (ls' := [some (.ref (c + 9)), some (.ref (c + 1)), some (.int (iI n)), y3, y4]) (st' := [.int (iI 3), .ref (c + 9)]) rfl rfl ?_
        refine kput_12 (x := 3) hK hX rfl rfl (fun hp1 hK hX => ?_)
        refine go_a (pc' := 115) (ls' := [some (.ref (c + 9)), some (.ref (c + 1)), some (.int (iI n)), y3, y4]) (st' := [.ref (c + 9)]) rfl rfl ?_
        refine go_a (pc' := 116) (ls' := [some (.ref (c + 9)), some (.ref (c + 1)), some (.int (iI n)), y3, y4]) (st' := [.ref (c + 1), .ref (c + 9)]) rfl rfl ?_
        have B1 : KB (t.wI 12 3) := KB_wF hB (by decide) (by decide) (by decide)
        refine go_v (m := 34) (as := [.ref (c + 1)]) (r := [.ref (c + 9)]) rfl rfl rfl (hK.1 1 (by decide)) rfl rfl (kr_length_0 z (d + 8) c hp1 (t.wI 12 3) hK) (fun v h1 hq => ?_)
        obtain ⟨rfl, e⟩ := hq
        rw [e]
        clear e h1
        show xx_go (xt_P z) (d + 9) 40 119 [some (.ref (c + 9)), some (.ref (c + 1)), some (.int (iI n)), y3, y4] [.int (iI (t.I 0)), .ref (c + 9)] hp1 _
        refine kput_13 (x := t.I 0) hK hX rfl rfl (fun hp2 hK hX => ?_)
        have b0 := hB.2.2.2.1 0 (by decide)
        exact bad _ hp2 hK (KB_wF B1 (by omega) (by omega) (by decide)) hX ⟨3, t.I 0, rfl, by decide, by decide, by decide⟩
  intro f
  induction f with
  | zero =>
    intro n y3 y4 t hp hf n0 n1 hK hB hX hD hG hJ hJ0 h9 h12 hz
    have i0 : t.I 0 = s0.I 0 := hD.2.2 0 (by omega)
    refine go_a (pc' := 12) (ls' := [some (.ref (c + 9)), some (.ref (c + 1)), some (.int (iI n)), y3, y4]) (st' := [.int (iI n)]) rfl rfl ?_
    refine go_a (pc' := 13) (ls' := [some (.ref (c + 9)), some (.ref (c + 1)), some (.int (iI n)), y3, y4]) (st' := [.ref (c + 1), .int (iI n)]) rfl rfl ?_
    refine go_v (m := 34) (as := [.ref (c + 1)]) (r := [.int (iI n)]) rfl rfl rfl (hK.1 1 (by decide)) rfl rfl (kr_length_0 z (d + 8) c hp t hK) (fun v h1 hq => ?_)
    obtain ⟨rfl, e⟩ := hq
    rw [e]
    clear e h1
    show xx_go (xt_P z) (d + 9) 40 16 [some (.ref (c + 9)), some (.ref (c + 1)), some (.int (iI n)), y3, y4] [.int (iI (t.I 0)), .int (iI n)] hp _
    refine mi_ge (t := 91) rfl rfl (by omega) (by omega) (by omega) (by omega) (fun _ => (fin n y3 y4 t hp hK hB hX hD hG hJ hJ0 h9 h12 hz)) (fun q => absurd (show n ≥ t.I 0 by omega) q)
  | succ f ih =>
    intro n y3 y4 t hp hf n0 n1 hK hB hX hD hG hJ hJ0 h9 h12 hz
    have i0 : t.I 0 = s0.I 0 := hD.2.2 0 (by omega)
    refine go_a (pc' := 12) (ls' := [some (.ref (c + 9)), some (.ref (c + 1)), some (.int (iI n)), y3, y4]) (st' := [.int (iI n)]) rfl rfl ?_
    refine go_a (pc' := 13) (ls' := [some (.ref (c + 9)), some (.ref (c + 1)), some (.int (iI n)), y3, y4]) (st' := [.ref (c + 1), .int (iI n)]) rfl rfl ?_
    refine go_v (m := 34) (as := [.ref (c + 1)]) (r := [.int (iI n)]) rfl rfl rfl (hK.1 1 (by decide)) rfl rfl (kr_length_0 z (d + 8) c hp t hK) (fun v h1 hq => ?_)
    obtain ⟨rfl, e⟩ := hq
    rw [e]
    clear e h1
    show xx_go (xt_P z) (d + 9) 40 16 [some (.ref (c + 9)), some (.ref (c + 1)), some (.int (iI n)), y3, y4] [.int (iI (t.I 0)), .int (iI n)] hp _
    refine mi_ge (t := 91) rfl rfl (by omega) (by omega) (by omega) (by omega) (fun _ => (fin n y3 y4 t hp hK hB hX hD hG hJ hJ0 h9 h12 hz)) (fun q1 => ?_)
    refine go_a (pc' := 20) (ls' := [some (.ref (c + 9)), some (.ref (c + 1)), some (.int (iI n)), y3, y4]) (st' := [.ref (c + 9)]) rfl rfl ?_
    refine go_get (v := .int (iI (t.I 9))) rfl (hK.1 5 (by decide)) rfl rfl ?_
    refine go_a (pc' := 24) (ls' := [some (.ref (c + 9)), some (.ref (c + 1)), some (.int (iI n)), y3, y4]) (st' := [.ref (c + 1), .int (iI (t.I 9))]) rfl rfl ?_
    refine go_v (m := 34) (as := [.ref (c + 1)]) (r := [.int (iI (t.I 9))]) rfl rfl rfl (hK.1 1 (by decide)) rfl rfl (kr_length_0 z (d + 8) c hp t hK) (fun v h1 hq => ?_)
    obtain ⟨rfl, e⟩ := hq
    rw [e]
    clear e h1
    show xx_go (xt_P z) (d + 9) 40 27 [some (.ref (c + 9)), some (.ref (c + 1)), some (.int (iI n)), y3, y4] [.int (iI (t.I 0)), .int (iI (t.I 9))] hp _
    refine mi_ge (t := 91) rfl rfl (by omega) (by omega) (by omega) (by omega) (fun _ => (fin n y3 y4 t hp hK hB hX hD hG hJ hJ0 h9 h12 hz)) (fun q2 => ?_)
    refine go_a (pc' := 31) (ls' := [some (.ref (c + 9)), some (.ref (c + 1)), some (.int (iI n)), y3, y4]) (st' := [.ref (c + 9)]) rfl rfl ?_
    refine go_get (v := .int (iI (t.I 12))) rfl (hK.1 5 (by decide)) rfl rfl ?_
    refine mi_ne0 (t := 91) rfl rfl (by omega) (by omega) (fun _ => (fin n y3 y4 t hp hK hB hX hD hG hJ hJ0 h9 h12 hz)) (fun q3 => ?_)
    have z12 : t.I 12 = 0 := by omega
    have J0 := hJ0 z12
    have hO1 : OC hp := OC_kx hO hX
    have a0 : t.A 0 = s0.A 0 := (hD.2.1 0 (by omega)).1
    have hT1 : TXI t := by unfold TXI; rw [a0, i0]; exact hT
    have rb := RJ_b J0 (by decide) (by decide) hu
    refine go_a (pc' := 38) (ls' := [some (.ref (c + 9)), some (.ref (c + 1)), some (.int (iI n)), y3, y4]) (st' := [.ref (c + 9)]) rfl rfl ?_
    refine go_get (v := .int (iI (t.I 9))) rfl (hK.1 5 (by decide)) rfl rfl ?_
    refine go_a (pc' := 42) (ls' := [some (.ref (c + 9)), some (.ref (c + 1)), some (.int (iI n)), some (.int (iI (t.I 9))), y4]) (st' := []) rfl rfl ?_
    refine go_a (pc' := 43) (ls' := [some (.ref (c + 9)), some (.ref (c + 1)), some (.int (iI n)), some (.int (iI (t.I 9))), y4]) (st' := [.ref (c + 9)]) rfl rfl ?_
    refine go_a (pc' := 44) (ls' := [some (.ref (c + 9)), some (.ref (c + 1)), some (.int (iI n)), some (.int (iI (t.I 9))), y4]) (st' := [.ref (c + 1), .ref (c + 9)]) rfl rfl ?_
    refine go_v (m := 184) (as := [.ref (c + 9), .ref (c + 1)]) (r := []) rfl rfl rfl (hK.1 5 (by decide)) rfl rfl (kd_takeWord z (d + 1) c hp t hK hB J0.1 (by omega) hO1 hT1 h9.1 (by omega)) (fun v h1 hq => ?_)
    obtain ⟨w, a, x, t1, rfl, K1, B1, C1, X1, G1, ha, hw⟩ := hq
    have wr : 1 ≤ w ∧ w ≤ 46 := by
      rcases hw with q | ⟨-, q | ⟨q, -⟩ | ⟨q, -⟩⟩ <;> omega
    have J9 : RJ (s0.I 8) 0 0 (t.wI 9 a) := J0
    have Jt : RJ (s0.I 8) 0 (0 - 1) t1 := RJ_store J9 G1 C1
    have J1 : RJ (s0.I 8) 0 (-1) (t1.wI 11 x) := RJ_w (show RJ (s0.I 8) 0 (0 - 1) (t1.wI 11 x) from Jt) (Int.le_refl _) (by decide)
    have hX1 := kx_tr hX X1
    have D1 : RDF s0 (t1.wI 11 x) := RDF_tr hD (RDF_tr (RDF_wI (by decide)) (RDF_tr (RDF_gr G1) (RDF_wI (by decide))))
    have GO : KGO s0 (t1.wI 11 x) := ⟨by have g1 : t.I 8 ≤ t1.I 8 := G1.2.1; have g2 := hG.1; exact Int.le_trans g2 g1, fun e q => ⟨((G1.2.2.2 e (Int.lt_of_lt_of_le q hG.1)).1).trans (hG.2 e q).1, ((G1.2.2.2 e (Int.lt_of_lt_of_le q hG.1)).2).trans (hG.2 e q).2⟩⟩
    have iq : ∀ j : Nat, j ≠ 8 → j ≠ 9 → j ≠ 11 → (t1.wI 11 x).I j = t.I j := fun j p1 p2 p3 => by
      show su t1.I 11 x j = t.I j
      rw [su_ne p3, G1.1.2.2.2 j p1]
      exact su_ne p2
    have i9 : (t1.wI 11 x).I 9 = a := by
      show su t1.I 11 x 9 = a
      rw [su_ne (by decide), G1.1.2.2.2 9 (by decide)]
      rfl
    have o11 : w = 3 → OB (t1.wI 11 x) ((t1.wI 11 x).I 11) ∧ ¬ (t1.wI 11 x).N ((t1.wI 11 x).I 11) < 0 := fun q => by
      have q2 : OB t1 x ∧ ¬ t1.N x < 0 := by
        rcases hw with p | ⟨-, p | ⟨-, p⟩ | ⟨p, -⟩⟩
        · omega
        · omega
        · exact p
        · omega
      exact q2
    have jw : w ≠ 1 → w ≠ 2 → w ≠ 3 → RJ (s0.I 8) 0 0 (t1.wI 11 x) := fun p1 p2 p3 => by
      have q2 : t1 = t.wI 9 a := by
        rcases hw with p | ⟨-, p | ⟨p, -⟩ | ⟨-, p⟩⟩
        · omega
        · omega
        · omega
        · exact p
      rw [q2]
      exact J0
    have nzw : w ≠ 1 → NZ (s0.A 0) (t.I 9).toNat + 1 ≤ NZ (s0.A 0) a.toNat := fun p1 => by
      have q2 : t.A 0 (t.I 9) ≠ 0 := by
        rcases hw with p | ⟨p, -⟩
        · omega
        · exact p
      rw [a0] at q2
      exact NZ_up h9.1 q2 ha.1
    obtain ⟨t2, ht2⟩ : ∃ t2 : KS, t2 = t1.wI 11 x := ⟨_, rfl⟩
    rw [← ht2] at K1 B1 J1 hX1 D1 GO iq i9 o11 jw
    have u1 : t2.I 1 = t.I 1 := iq 1 (by decide) (by decide) (by decide)
    have u0 : t2.I 0 = t.I 0 := iq 0 (by decide) (by decide) (by decide)
    have u10 : t2.I 10 = t.I 10 := iq 10 (by decide) (by decide) (by decide)
    show xx_go (xt_P z) (d + 9) 40 47 [some (.ref (c + 9)), some (.ref (c + 1)), some (.int (iI n)), some (.int (iI (t.I 9))), y4] [.int (iI w)] h1 _
    refine go_a (pc' := 49) (ls' := [some (.ref (c + 9)), some (.ref (c + 1)), some (.int (iI n)), some (.int (iI (t.I 9))), some (.int (iI w))]) (st' := []) rfl rfl ?_
    refine go_a (pc' := 50) (ls' := [some (.ref (c + 9)), some (.ref (c + 1)), some (.int (iI n)), some (.int (iI (t.I 9))), some (.int (iI w))]) (st' := [.ref (c + 9)]) rfl rfl ?_
    refine go_a (pc' := 51) (ls' := [some (.ref (c + 9)), some (.ref (c + 1)), some (.int (iI n)), some (.int (iI (t.I 9))), some (.int (iI w))]) (st' := [.ref (c + 9), .ref (c + 9)]) rfl rfl ?_
    refine go_a (pc' := 53) (ls' := [some (.ref (c + 9)), some (.ref (c + 1)), some (.int (iI n)), some (.int (iI (t.I 9))), some (.int (iI w))]) (st' := [.int (iI w), .ref (c + 9), .ref (c + 9)]) rfl rfl ?_
    refine go_v (m := 187) (as := [.ref (c + 9), .int (iI w)]) (r := [.ref (c + 9)]) rfl rfl rfl (K1.1 5 (by decide)) rfl rfl (kd_faultOf z (d + 6) c w h1 t2 K1 B1 (by omega) (by omega)) (fun v h2 hq => ?_)
    obtain ⟨⟨ft, rfl, hf1, hf2⟩, e⟩ := hq
    rw [e]
    clear e h2
    show xx_go (xt_P z) (d + 9) 40 56 [some (.ref (c + 9)), some (.ref (c + 1)), some (.int (iI n)), some (.int (iI (t.I 9))), some (.int (iI w))] [.int (iI ft), .ref (c + 9)] h1 _
    refine kput_12 (x := ft) K1 hX1 rfl rfl (fun h3 hK hX => ?_)
    refine go_a (pc' := 60) (ls' := [some (.ref (c + 9)), some (.ref (c + 1)), some (.int (iI n)), some (.int (iI (t.I 9))), some (.int (iI w))]) (st' := [.ref (c + 9)]) rfl rfl ?_
    refine go_get (v := .int (iI ft)) rfl (hK.1 5 (by decide)) rfl rfl ?_
    have B3 : KB (t2.wI 12 ft) := KB_wF B1 (by omega) (by omega) (by decide)
    refine mi_ne0 (t := 80) rfl rfl (by omega) (by omega) (fun q4 => ?_) (fun q4 => ?_)
    · refine go_a (pc' := 81) (ls' := [some (.ref (c + 9)), some (.ref (c + 1)), some (.int (iI n)), some (.int (iI (t.I 9))), some (.int (iI w))]) (st' := [.ref (c + 9)]) rfl rfl ?_
      refine go_a (pc' := 82) (ls' := [some (.ref (c + 9)), some (.ref (c + 1)), some (.int (iI n)), some (.int (iI (t.I 9))), some (.int (iI w))]) (st' := [.int (iI (t.I 9)), .ref (c + 9)]) rfl rfl ?_
      refine kput_13 (x := t.I 9) hK hX rfl rfl (fun h4 hK hX => ?_)
      refine go_a (pc' := 88) (ls' := [some (.ref (c + 9)), some (.ref (c + 1)), some (.int (iI (n + 1))), some (.int (iI (t.I 9))), some (.int (iI w))]) (st' := []) rfl (by rw [← iI_add n 1]; rfl) ?_
      refine go_a (pc' := 11) (ls' := [some (.ref (c + 9)), some (.ref (c + 1)), some (.int (iI (n + 1))), some (.int (iI (t.I 9))), some (.int (iI w))]) (st' := []) rfl rfl ?_
      have nz2 := NZ_mono (f := s0.A 0) a.toNat (t.I 9).toNat (by omega)
      refine ih (n + 1) _ _ ((t2.wI 12 ft).wI 13 (t.I 9)) h4 (by omega) (by omega) (by omega) hK (KB_wF B3 (by omega) (by omega) (by decide)) hX (RDF_tr D1 (RDF_tr (RDF_wI (by decide)) (RDF_wI (by decide)))) GO J1 (fun w => absurd (show ft = 0 from w) q4) (show 0 ≤ t2.I 9 ∧ t2.I 9 ≤ t2.I 0 by omega) (show 0 ≤ ft ∧ ft ≤ 5 from hf1) (show t2.I 10 ≤ NZ (s0.A 0) (t2.I 9).toNat by rw [i9]; omega)
    · have f0 : ft = 0 := by omega
      obtain ⟨m1, m2, m3, m4, m5⟩ := hf2 f0
      have nz2 := nzw m2
      refine go_a (pc' := 67) (ls' := [some (.ref (c + 9)), some (.ref (c + 1)), some (.int (iI n)), some (.int (iI (t.I 9))), some (.int (iI w))]) (st' := [.ref (c + 9)]) rfl rfl ?_
      refine go_a (pc' := 69) (ls' := [some (.ref (c + 9)), some (.ref (c + 1)), some (.int (iI n)), some (.int (iI (t.I 9))), some (.int (iI w))]) (st' := [.int (iI w), .ref (c + 9)]) rfl rfl ?_
      refine go_v (m := 189) (as := [.ref (c + 9), .int (iI w)]) (r := []) rfl rfl rfl (hK.1 5 (by decide)) rfl rfl (kd_accept z (d + 2) c w (s0.I 8) h3 (t2.wI 12 ft) hK B3 hu J1 (fun p => jw m2 m3 p) (by rcases hw with p | ⟨-, p | ⟨p, -⟩ | ⟨p, -⟩⟩ <;> omega) m1 o11 m4 m5) (fun v h4 hq => ?_)
      obtain ⟨rfl, t3, K3, B3, X3, F3, J3⟩ := hq
      have f9 : t3.I 9 = t2.I 9 := F3.2.1.1
      have f10 : t3.I 10 = t2.I 10 + 1 := F3.2.1.2.1
      have f12 : t3.I 12 = ft := F3.2.1.2.2.1
      have D3 : RDF s0 t3 := RDF_tr D1 (RDF_tr (RDF_wI (by decide)) (RDF_tr (RDF_wI (by decide)) F3.2.2))
      have d0 : t3.I 0 = s0.I 0 := D3.2.2 0 (by omega)
      have G3 : KGO s0 t3 := ⟨Int.le_trans GO.1 F3.1.1, fun e q => ⟨((F3.1.2 e (Int.lt_of_lt_of_le q GO.1)).1).trans (GO.2 e q).1, ((F3.1.2 e (Int.lt_of_lt_of_le q GO.1)).2).trans (GO.2 e q).2⟩⟩
      show xx_go (xt_P z) (d + 9) 40 72 [some (.ref (c + 9)), some (.ref (c + 1)), some (.int (iI n)), some (.int (iI (t.I 9))), some (.int (iI w))] [] h4 _
      refine go_a (pc' := 73) (ls' := [some (.ref (c + 9)), some (.ref (c + 1)), some (.int (iI n)), some (.int (iI (t.I 9))), some (.int (iI w))]) (st' := [.ref (c + 9)]) rfl rfl ?_
      refine go_a (pc' := 74) (ls' := [some (.ref (c + 9)), some (.ref (c + 1)), some (.int (iI n)), some (.int (iI (t.I 9))), some (.int (iI w))]) (st' := [.ref (c + 1), .ref (c + 9)]) rfl rfl ?_
      refine go_v (m := 42) (as := [.ref (c + 9), .ref (c + 1)]) (r := []) rfl rfl rfl (K3.1 5 (by decide)) rfl rfl (kd_skip z (d + 7) c h4 t3 K3 B3 (by omega) (by omega)) (fun v h5 hq => ?_)
      obtain ⟨rfl, a2, K4, B4, X4, s1, s2⟩ := hq
      have nz3 := NZ_mono (f := s0.A 0) a2.toNat a.toNat (by omega)
      show xx_go (xt_P z) (d + 9) 40 77 [some (.ref (c + 9)), some (.ref (c + 1)), some (.int (iI n)), some (.int (iI (t.I 9))), some (.int (iI w))] [] h5 _
      refine go_a (pc' := 85) (ls' := [some (.ref (c + 9)), some (.ref (c + 1)), some (.int (iI n)), some (.int (iI (t.I 9))), some (.int (iI w))]) (st' := []) rfl rfl ?_
      refine go_a (pc' := 88) (ls' := [some (.ref (c + 9)), some (.ref (c + 1)), some (.int (iI (n + 1))), some (.int (iI (t.I 9))), some (.int (iI w))]) (st' := []) rfl (by rw [← iI_add n 1]; rfl) ?_
      refine go_a (pc' := 11) (ls' := [some (.ref (c + 9)), some (.ref (c + 1)), some (.int (iI (n + 1))), some (.int (iI (t.I 9))), some (.int (iI w))]) (st' := []) rfl rfl ?_
      exact ih (n + 1) _ _ (t3.wI 9 a2) h5 (by omega) (by omega) (by omega) K4 B4 (kx_tr (kx_tr hX X3) X4) (RDF_tr D3 (RDF_wI (by decide))) G3 (RJ_w (show RJ (s0.I 8) 0 0 (t3.wI 9 a2) from J3) (Int.le_refl _) (by decide)) (fun _ => J3) (show 0 ≤ a2 ∧ a2 ≤ t3.I 0 by omega) (show 0 ≤ t3.I 12 ∧ t3.I 12 ≤ 5 by omega) (show t3.I 10 ≤ NZ (s0.A 0) a2.toNat by omega)
theorem kd_read (z : Value) (d c : Nat) (hp : xx_H) (s : KS) (hK : KI c hp s) (hB : KB s) (hC : CI s) (hO : OC hp) (hT : TXI s) (hu : s.I 8 ≤ 30000) : xx_cl (xt_P z) (d + 10) 40 [.ref (c + 9), .ref (c + 1)] hp (fun v h1 => ∃ (x : Int) (s1 : KS), v = some (.int (iI x)) ∧ KI c h1 s1 ∧ KB s1 ∧ CI s1 ∧ kx c hp s h1 s1 0 0 ∧ RDF s s1 ∧ KGO s s1 ∧ (0 ≤ s1.I 10 ∧ s1.I 10 ≤ 1000 ∧ s1.I 10 ≤ NZ (s.A 0) (s.I 0).toNat ∧ s1.I 8 ≤ s.I 8 + 2 * s1.I 10 + 1) ∧ (x = -1 ∨ (OB s1 x ∧ WD (SD s1) x ≤ s1.I 10 + 1))) := by
  have b := hB.2.2.2.1 0 (by decide)
  refine cl_go rfl ?_
  show xx_go (xt_P z) (d + 9) 40 0 [some (.ref (c + 9)), some (.ref (c + 1)), none, none, none] [] hp _
  refine go_a (pc' := 1) (ls' := [some (.ref (c + 9)), some (.ref (c + 1)), none, none, none]) (st' := [.ref (c + 9)]) rfl rfl ?_
  refine go_v (m := 41) (as := [.ref (c + 9)]) (r := []) rfl rfl rfl (hK.1 5 (by decide)) rfl rfl (kd_begin z (d + 6) c hp s hK hB hC) (fun v h1 hq => ?_)
  obtain ⟨rfl, t, K1, B1, X1, J1, e9, e10, e12, SA, D1⟩ := hq
  have i0 : t.I 0 = s.I 0 := D1.2.2 0 (by omega)
  show xx_go (xt_P z) (d + 9) 40 4 [some (.ref (c + 9)), some (.ref (c + 1)), none, none, none] [] h1 _
  refine go_a (pc' := 5) (ls' := [some (.ref (c + 9)), some (.ref (c + 1)), none, none, none]) (st' := [.ref (c + 9)]) rfl rfl ?_
  refine go_a (pc' := 6) (ls' := [some (.ref (c + 9)), some (.ref (c + 1)), none, none, none]) (st' := [.ref (c + 1), .ref (c + 9)]) rfl rfl ?_
  refine go_v (m := 42) (as := [.ref (c + 9), .ref (c + 1)]) (r := []) rfl rfl rfl (K1.1 5 (by decide)) rfl rfl (kd_skip z (d + 7) c h1 t K1 B1 (by omega) (by omega)) (fun v h2 hq => ?_)
  obtain ⟨rfl, a, K2, B2, X2, s1, s2⟩ := hq
  show xx_go (xt_P z) (d + 9) 40 9 [some (.ref (c + 9)), some (.ref (c + 1)), none, none, none] [] h2 _
  refine go_a (pc' := 10) (ls' := [some (.ref (c + 9)), some (.ref (c + 1)), none, none, none]) (st' := [.int (iI 0)]) rfl rfl ?_
  refine go_a (pc' := 11) (ls' := [some (.ref (c + 9)), some (.ref (c + 1)), some (.int (iI 0)), none, none]) (st' := []) rfl rfl ?_
  have n0 := NZ_nn (f := s.A 0) a.toNat
  exact kd_read_loop z d c hp s hO hT hu (by omega) (by omega) _ 0 _ _ (t.wI 9 a) h2 (Nat.le_refl _) (by decide) (by decide) K2 B2 (kx_tr X1 X2) (RDF_tr D1 (RDF_wI (by decide))) ⟨by rw [show (t.wI 9 a).I 8 = s.I 8 from SA.2.2]; exact Int.le_refl _, fun e _ => by rw [show (t.wI 9 a).N = s.N from SA.1, show (t.wI 9 a).A 9 = s.A 9 from SA.2.1]; exact ⟨rfl, rfl⟩⟩ (RJ_w (show RJ (s.I 8) 0 0 (t.wI 9 a) from J1) (Int.le_refl _) (by decide)) (fun _ => J1) (show 0 ≤ a ∧ a ≤ t.I 0 by omega) (show 0 ≤ t.I 12 ∧ t.I 12 ≤ 5 by omega) (show t.I 10 ≤ NZ (s.A 0) a.toNat by omega)
