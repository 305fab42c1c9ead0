section CLS
variable {s t t1 : KS} {u e g n x m : Int}
theorem su_comm {I : Nat → Int} {i j : Nat} {x y : Int} (h : i ≠ j) : su (su I i x) j y = su (su I j y) i x := by
  funext k
  rcases su_or (su I i x) j k y with a | ⟨a, b⟩
  · rcases su_or I i k x with p | ⟨p, q⟩
    · by_cases w : k = i
      · rw [w, su_ne h, show su (su I j y) i x i = x from (by
          rcases su_or (su I j y) i i x with r | ⟨-, r⟩
          · rw [r]
            have e1 : su I i x i = x := by unfold su; rw [show Nat.beq i i = true from Nat.beq_refl i]
            have e2 : su (su I j y) i x i = x := by unfold su; rw [show Nat.beq i i = true from Nat.beq_refl i]
            rw [← r, e2]
          · exact r)]
        unfold su
        rw [show Nat.beq i i = true from Nat.beq_refl i]
      · rw [su_ne w]
        by_cases w2 : k = j
        · rw [w2]
          unfold su
          rw [show Nat.beq j j = true from Nat.beq_refl j]
        · rw [su_ne w2, su_ne w2, su_ne w]
    · rw [p, su_ne h]
      unfold su
      rw [show Nat.beq i i = true from Nat.beq_refl i]
  · rw [b, a, su_ne (fun w => h w.symm)]
    unfold su
    rw [show Nat.beq j j = true from Nat.beq_refl j]
theorem wI_comm {i j : Nat} {x y : Int} (h : i ≠ j) : (s.wI i x).wI j y = (s.wI j y).wI i x := by
  show ((su (su s.I i x) j y, s.A, s.N, s.C, s.P, s.T) : KS) = (su (su s.I j y) i x, s.A, s.N, s.C, s.P, s.T)
  rw [su_comm h]
theorem KGR_wI {j : Nat} (G : KGR t t1 n) (hj : j ≠ 8) : KGR (t.wI j x) (t1.wI j x) n := by
  have e : ∀ y : KS, (y.wI j x).I 8 = y.I 8 := fun y => su_ne (fun q => hj q.symm)
  obtain ⟨⟨g1, g2, g3, g4⟩, g5, g6, g7⟩ := G
  refine ⟨⟨g1, g2, g3, fun i q => ?_⟩, by rw [e, e]; exact g5, by rw [e, e]; exact g6, by rw [e]; exact g7⟩
  show su t1.I j x i = su t.I j x i
  by_cases w : i = j
  · rw [w]
    unfold su
    rw [show Nat.beq j j = true from Nat.beq_refl j]
  · rw [su_ne w, su_ne w]
    exact g4 i q
theorem RJ_cut (h : RJ u e g (t.wI 3 m)) (p : 0 < m) : RJ u (e + WD (SD t) (t.A 3 (m - 1))) (g + 1) (t.wI 3 (m - 1)) := by
  obtain ⟨h1, h2, h3, h4, h5, h6, h7, h8⟩ := h
  have p1 := SG_pop (g := WD (SD t)) (f := t.A 3) p
  have h7 : SG (WD (SD t)) (t.A 3) m.toNat + SG ow (t.A 1) (t.I 1).toNat + e ≤ t.I 10 := h7
  have h8 : t.I 8 + m + SG oq (t.A 1) (t.I 1).toNat + g ≤ u + 2 * t.I 10 := h8
  refine ⟨h1, ⟨h2.1, show 0 ≤ m - 1 by omega, h2.2.2⟩, fun k k0 k1 => ?_, h4, h5, h6, ?_, ?_⟩
  · have k1 : k < m - 1 := k1
    exact h3 k k0 (show k < m by omega)
  · show SG (WD (SD t)) (t.A 3) (m - 1).toNat + SG ow (t.A 1) (t.I 1).toNat + (e + WD (SD t) (t.A 3 (m - 1))) ≤ t.I 10
    omega
  · show t.I 8 + (m - 1) + SG oq (t.A 1) (t.I 1).toNat + (g + 1) ≤ u + 2 * t.I 10
    omega
theorem WD_2V (hC : CI s) {k : Int} (h : OB s k) : WD (SD s) k ≤ 2 + VD (SD s) k ∧ VD (SD s) k ≤ WD (SD s) k + 1 := by
  have n0 := CI_n0 hC
  have n2 := CI_n2 hC
  refine ⟨?_, VD_le (I := UI s) hC.1 h.1 h.2 n0 n2⟩
  by_cases q : SD s 1 k < 0
  · rw [WD_atom q]
    have := VD_0 (I := UI s) hC.1 h.1 h.2
    omega
  · exact WD_le (I := UI s) hC.1 h.1 h.2 (by omega) n0 n2
end CLS
set_option maxRecDepth 4000 in
theorem kd_close_loop (z : Value) (d c : Nat) (u a : Int) (hp0 : xx_H) (s0 : KS) (hu : u ≤ 30000) (a0 : 0 ≤ a) (a1 : a ≤ 1000) : ∀ (f : Nat) (l k : Int) (t : KS) (hp : xx_H), (k + 1).toNat ≤ f → KI c hp t → KB t → kx c hp0 s0 hp t 0 0 → RFF s0 t → RJ u (2 + VD (SD t) l) 1 (t.wI 3 (k + 1)) → OB t l → (tps t ≠ 1 ∧ tps t ≠ 6) → -1 ≤ k → k + 1 ≤ t.I 3 → (a ≤ k + 1 ∨ k + 1 = t.I 3) → xx_go (xt_P z) (d + 5) 193 50 [some (.ref (c + 9)), some (.int (iI l)), some (.int (iI a)), some (.int (iI k))] [] hp (fun v h1 => v = none ∧ ∃ s1 : KS, KI c h1 s1 ∧ KB s1 ∧ kx c hp0 s0 h1 s1 0 0 ∧ RFF s0 s1 ∧ RI u s1) := by
  have fin : ∀ (l k : Int) (t : KS) (hp : xx_H), KI c hp t → KB t → kx c hp0 s0 hp t 0 0 → RFF s0 t → RJ u (2 + VD (SD t) l) 1 (t.wI 3 (k + 1)) → OB t l → (tps t ≠ 1 ∧ tps t ≠ 6) → -1 ≤ k → k + 1 ≤ t.I 3 → (a ≤ k + 1 ∨ k + 1 = t.I 3) → k < a → xx_go (xt_P z) (d + 5) 193 78 [some (.ref (c + 9)), some (.int (iI l)), some (.int (iI a)), some (.int (iI k))] [] hp (fun v h1 => v = none ∧ ∃ s1 : KS, KI c h1 s1 ∧ KB s1 ∧ kx c hp0 s0 h1 s1 0 0 ∧ RFF s0 s1 ∧ RI u s1) := by
    intro l k t hp hK hB hX hF hJ hl ht k0 k1 hs ka
    have b := hB.2.2.2.1 3 (by decide)
    refine go_a (pc' := 79) (ls' := [some (.ref (c + 9)), some (.int (iI l)), some (.int (iI a)), some (.int (iI k))]) (st' := [.ref (c + 9)]) rfl rfl ?_
    refine go_get (v := .ref (c + 14)) rfl (hK.1 5 (by decide)) rfl rfl ?_
    refine go_a (pc' := 83) (ls' := [some (.ref (c + 9)), some (.int (iI l)), some (.int (iI a)), some (.int (iI k))]) (st' := [.int (iI a), .ref (c + 14)]) rfl rfl ?_
    refine go_v (m := 39) (as := [.ref (c + 14), .int (iI a)]) (r := []) rfl rfl rfl (hK.1 8 (by decide)) rfl rfl (kr_cut_3 z (d + 4) c a hp t hK hB (by omega) (by omega)) (fun v h1 hq => ?_)
    obtain ⟨rfl, hq⟩ := hq
    have hq : KI c h1 (t.wI 3 (k + 1)) ∧ KB (t.wI 3 (k + 1)) ∧ kx c hp t h1 (t.wI 3 (k + 1)) 0 0 := by
      rcases hq with ⟨q0, q1, q2, q3, q4⟩ | ⟨q1, q2⟩
      · rw [show k + 1 = a by omega]
        exact ⟨q2, q3, q4⟩
      · rw [wI_eta (show t.I 3 = k + 1 by omega), q2]
        exact ⟨hK, hB, kx_rf⟩
    obtain ⟨K1, B1, X1⟩ := hq
    show xx_go (xt_P z) (d + 5) 193 86 [some (.ref (c + 9)), some (.int (iI l)), some (.int (iI a)), some (.int (iI k))] [] h1 _
    refine go_a (pc' := 87) (ls' := [some (.ref (c + 9)), some (.int (iI l)), some (.int (iI a)), some (.int (iI k))]) (st' := [.ref (c + 9)]) rfl rfl ?_
    refine go_a (pc' := 88) (ls' := [some (.ref (c + 9)), some (.int (iI l)), some (.int (iI a)), some (.int (iI k))]) (st' := [.int (iI l), .ref (c + 9)]) rfl rfl ?_
    have wv := (WD_2V (s := t.wI 3 (k + 1)) hJ.1 (show OB (t.wI 3 (k + 1)) l from hl)).1
    refine go_v (m := 196) (as := [.ref (c + 9), .int (iI l)]) (r := []) rfl rfl rfl (K1.1 5 (by decide)) rfl rfl (kd_addObject z (d + 1) c l u h1 (t.wI 3 (k + 1)) K1 B1 hu (RJ_w hJ wv (Int.le_refl _)) hl ht) (fun v h2 hq => ?_)
    obtain ⟨rfl, t2, K2, B2, X2, F2, J2⟩ := hq
    show xx_go (xt_P z) (d + 5) 193 91 [some (.ref (c + 9)), some (.int (iI l)), some (.int (iI a)), some (.int (iI k))] [] h2 _
    exact go_r rfl rfl rfl rfl rfl rfl ⟨rfl, t2, K2, B2, kx_tr (kx_tr hX X1) X2, RFF_tr (RFF_tr hF (RFF_wI (by decide))) F2, J2⟩
  intro f
  induction f with
  | zero =>
    intro l k t hp hf hK hB hX hF hJ hl ht k0 k1 hs
    have b := hB.2.2.2.1 3 (by decide)
    refine go_a (pc' := 51) (ls' := [some (.ref (c + 9)), some (.int (iI l)), some (.int (iI a)), some (.int (iI k))]) (st' := [.int (iI k)]) rfl rfl ?_
    refine go_a (pc' := 52) (ls' := [some (.ref (c + 9)), some (.int (iI l)), some (.int (iI a)), some (.int (iI k))]) (st' := [.int (iI a), .int (iI k)]) rfl rfl ?_
    refine mi_lt (t := 78) rfl rfl (by omega) (by omega) (by omega) (by omega) (fun q => fin l k t hp hK hB hX hF hJ hl ht k0 k1 hs q) (fun q => absurd (show k < a by omega) q)
  | succ f ih =>
    intro l k t hp hf hK hB hX hF hJ hl ht k0 k1 hs
    have b := hB.2.2.2.1 3 (by decide)
    refine go_a (pc' := 51) (ls' := [some (.ref (c + 9)), some (.int (iI l)), some (.int (iI a)), some (.int (iI k))]) (st' := [.int (iI k)]) rfl rfl ?_
    refine go_a (pc' := 52) (ls' := [some (.ref (c + 9)), some (.int (iI l)), some (.int (iI a)), some (.int (iI k))]) (st' := [.int (iI a), .int (iI k)]) rfl rfl ?_
    refine mi_lt (t := 78) rfl rfl (by omega) (by omega) (by omega) (by omega) (fun q => fin l k t hp hK hB hX hF hJ hl ht k0 k1 hs q) (fun q => ?_)
    have hC : CI t := hJ.1
    have v0 := VD_0 (I := UI t) hC.1 hl.1 hl.2
    have rb := (RJ_b hJ (by decide) (show 0 ≤ 2 + VD (SD t) l by omega) hu).1
    have rb : t.I 8 ≤ 32000 := rb
    have hx : OB t (t.A 3 k) := hJ.2.2.1 k (by omega) (show k < k + 1 by omega)
    refine go_a (pc' := 56) (ls' := [some (.ref (c + 9)), some (.int (iI l)), some (.int (iI a)), some (.int (iI k))]) (st' := [.ref (c + 9)]) rfl rfl ?_
    refine go_get (v := .ref (c + 4)) rfl (hK.1 5 (by decide)) rfl rfl ?_
    refine go_a (pc' := 60) (ls' := [some (.ref (c + 9)), some (.int (iI l)), some (.int (iI a)), some (.int (iI k))]) (st' := [.ref (c + 9), .ref (c + 4)]) rfl rfl ?_
    refine go_get (v := .ref (c + 14)) rfl (hK.1 5 (by decide)) rfl rfl ?_
    refine go_a (pc' := 64) (ls' := [some (.ref (c + 9)), some (.int (iI l)), some (.int (iI a)), some (.int (iI k))]) (st' := [.int (iI k), .ref (c + 14), .ref (c + 4)]) rfl rfl ?_
    refine go_v (m := 43) (as := [.ref (c + 14), .int (iI k)]) (r := [.ref (c + 4)]) rfl rfl rfl (hK.1 8 (by decide)) rfl rfl (kr_at_3 z (d + 4) c k hp t hK hB (by omega) (by omega)) (fun v h1 hq => ?_)
    obtain ⟨hq, e⟩ := hq
    rw [e]
    clear e h1
    have hq : v = some (.int (iI (t.A 3 k))) := hq.elim (fun q => q.2.2) (fun w => absurd ⟨show 0 ≤ k by omega, show k < t.I 3 by omega⟩ w.1)
    subst hq
    show xx_go (xt_P z) (d + 5) 193 67 [some (.ref (c + 9)), some (.int (iI l)), some (.int (iI a)), some (.int (iI k))] [.int (iI (t.A 3 k)), .ref (c + 4)] hp _
    refine go_a (pc' := 68) (ls' := [some (.ref (c + 9)), some (.int (iI l)), some (.int (iI a)), some (.int (iI k))]) (st' := [.int (iI l), .int (iI (t.A 3 k)), .ref (c + 4)]) rfl rfl ?_
    refine go_v (m := 194) (as := [.ref (c + 4), .int (iI (t.A 3 k)), .int (iI l)]) (r := []) rfl rfl rfl (hK.1 3 (by decide)) rfl rfl (kc_pair z (d + 2) c (t.A 3 k) l hp t hK hB hC (by omega) hx.1 hx.2 hl.1 hl.2) (fun v h1 hq => ?_)
    obtain ⟨j, t1, rfl, K1, B1, C1, X1, G1, O1, N1⟩ := hq
    show xx_go (xt_P z) (d + 5) 193 71 [some (.ref (c + 9)), some (.int (iI l)), some (.int (iI a)), some (.int (iI k))] [.int (iI j)] h1 _
    refine go_a (pc' := 72) (ls' := [some (.ref (c + 9)), some (.int (iI j)), some (.int (iI a)), some (.int (iI k))]) (st' := []) rfl rfl ?_
    refine go_a (pc' := 75) (ls' := [some (.ref (c + 9)), some (.int (iI j)), some (.int (iI a)), some (.int (iI (k + (-1))))]) (st' := []) rfl (by rw [← iI_add k (-1)]; rfl) ?_
    refine go_a (pc' := 50) (ls' := [some (.ref (c + 9)), some (.int (iI j)), some (.int (iI a)), some (.int (iI (k + (-1))))]) (st' := []) rfl rfl ?_
    have J1 := RJ_cut (m := k + 1) (t := t1) (RJ_store hJ (KGR_wI (j := 3) (x := k + 1) G1 (by decide)) (show CI (t1.wI 3 (k + 1)) from C1)) (by omega)
    have a3 : t1.A 3 = t.A 3 := G1.1.2.1 3 (by decide) (by decide) (by decide)
    have i3 : t1.I 3 = t.I 3 := G1.1.2.2.2 3 (by decide)
    rw [show k + 1 - 1 = k by omega, a3] at J1
    have gg : KGO t t1 := ⟨G1.2.1, G1.2.2.2⟩
    have g1 := G1.2.1
    have g2 := G1.2.2.1
    have hx2 := hx
    have hl2 := hl
    have O2 := O1
    unfold OB at hx2 hl2
    have sp := sd_pair (a := t.A 3 k) (b := l) hx2.1 (by omega) hl2.1 (by omega)
    have sj := SD_neg (s := t1) (k := j) (by rw [N1]; exact sp.2.2.1)
    rw [N1, sp.1, sp.2.1] at sj
    have vp := VD_pair (I := UI t1) C1.1 O1.1 O1.2 (by omega)
    rw [sj.1, sj.2, (WD_go gg hC hx).1, (WD_go gg hC hl).2] at vp
    rw [(WD_go gg hC hx).1] at J1
    refine ih j (k + (-1)) t1 h1 (by omega) K1 B1 (kx_tr hX X1) (RFF_tr hF (RFF_gr G1)) ?_ O1 (by rw [tps_gr G1]; exact ht) (by omega) (by omega) (by omega)
    rw [show k + (-1) + 1 = k by omega]
    exact RJ_w J1 (by omega) (by decide)
set_option maxRecDepth 4000 in
theorem kd_close (z : Value) (d c : Nat) (u : Int) (hp : xx_H) (s : KS) (hK : KI c hp s) (hB : KB s) (hu : u ≤ 30000) (hJ : RJ u 1 2 s) (ht : tps s = 3 ∨ tps s = 4 ∨ tps s = 6) : xx_cl (xt_P z) (d + 6) 193 [.ref (c + 9)] hp (fun v h1 => v = none ∧ ∃ s1 : KS, KI c h1 s1 ∧ KB s1 ∧ kx c hp s h1 s1 0 0 ∧ RFF s s1 ∧ RI u s1) := by
  have pos : 0 < s.I 1 := by
    by_cases w : 0 < s.I 1
    · exact w
    · unfold tps at ht
      rw [if_neg w] at ht
      omega
  have tp := tps_pos pos
  have b := hB.2.2.2.1 1 (by decide)
  have b3 := hB.2.2.2.1 3 (by decide)
  have j1 := hJ.2.1
  have rb := RJ_b hJ (by decide) (by decide) hu
  have rest : ∀ (l : Int) (t : KS) (h1 : xx_H), KI c h1 t → KB t → kx c hp s h1 t 0 0 → RFF s t → OB t l → t.I 1 = s.I 1 → t.A 1 = s.A 1 → t.I 2 = s.I 2 → (∀ j : Int, 0 ≤ j → j ≤ t.I 2 → j ≤ t.I 1 - 1 → RJ u (2 + VD (SD t) l) 1 ((t.wI 1 (t.I 1 - 1)).wI 2 j) ∧ (tps ((t.wI 1 (t.I 1 - 1)).wI 2 j) ≠ 1 ∧ tps ((t.wI 1 (t.I 1 - 1)).wI 2 j) ≠ 6)) → (∀ k : Int, 0 ≤ k → k < t.I 2 → 0 ≤ t.A 2 k ∧ t.A 2 k ≤ 1000) → 0 ≤ t.I 3 → t.I 3 ≤ 1000 → xx_go (xt_P z) (d + 5) 193 23 [some (.ref (c + 9)), none, none, none] [.int (iI l)] h1 (fun v h1 => v = none ∧ ∃ s1 : KS, KI c h1 s1 ∧ KB s1 ∧ kx c hp s h1 s1 0 0 ∧ RFF s s1 ∧ RI u s1) := by
    intro l t h1 hK hB hX hF hl e1 ea e2 hj hst i30 i31
    have b2 := hB.2.2.2.1 2 (by decide)
    refine go_a (pc' := 24) (ls' := [some (.ref (c + 9)), some (.int (iI l)), none, none]) (st' := []) rfl rfl ?_
    refine go_a (pc' := 25) (ls' := [some (.ref (c + 9)), some (.int (iI l)), none, none]) (st' := [.ref (c + 9)]) rfl rfl ?_
    refine go_get (v := .ref (c + 12)) rfl (hK.1 5 (by decide)) rfl rfl ?_
    refine go_v (m := 192) (as := [.ref (c + 12)]) (r := []) rfl rfl rfl (hK.1 7 (by decide)) rfl rfl (kr_takeLast_2 z (d + 4) c h1 t hK hB) (fun v h2 hq => ?_)
    have hq : ∃ (a j : Int), v = some (.int (iI a)) ∧ (0 ≤ a ∧ a ≤ 1000) ∧ (0 ≤ j ∧ j ≤ t.I 2 ∧ j ≤ t.I 1 - 1) ∧ KI c h2 (t.wI 2 j) ∧ KB (t.wI 2 j) ∧ kx c h1 t h2 (t.wI 2 j) 0 0 := by
      rcases hq with ⟨q3, e3, e4⟩ | ⟨q3, e3, k3, k4, k5⟩
      · refine ⟨0, 0, e3, by decide, ⟨by decide, by omega, by omega⟩, ?_⟩
        rw [wI_eta q3, e4]
        exact ⟨hK, hB, kx_rf⟩
      · have q4 := hst (t.I 2 - 1) (by omega) (by omega)
        exact ⟨_, t.I 2 - 1, e3, q4, ⟨by omega, by omega, by omega⟩, k3, k4, k5⟩
    obtain ⟨a, j, rfl, ha, hj3, K2, B2, X2⟩ := hq
    show xx_go (xt_P z) (d + 5) 193 31 [some (.ref (c + 9)), some (.int (iI l)), none, none] [.int (iI a)] h2 _
    refine go_a (pc' := 32) (ls' := [some (.ref (c + 9)), some (.int (iI l)), some (.int (iI a)), none]) (st' := []) rfl rfl ?_
    refine go_a (pc' := 33) (ls' := [some (.ref (c + 9)), some (.int (iI l)), some (.int (iI a)), none]) (st' := [.ref (c + 9)]) rfl rfl ?_
    refine go_get (v := .ref (c + 10)) rfl (K2.1 5 (by decide)) rfl rfl ?_
    refine go_v (m := 192) (as := [.ref (c + 10)]) (r := []) rfl rfl rfl (K2.1 6 (by decide)) rfl rfl (kr_takeLast_1 z (d + 4) c h2 (t.wI 2 j) K2 B2) (fun v h3 hq => ?_)
    have hq := hq.elim (fun q => absurd (show t.I 1 = 0 from q.1) (by omega)) id
    obtain ⟨-, rfl, K3, B3, X3⟩ := hq
    have K3 : KI c h3 ((t.wI 2 j).wI 1 (t.I 1 - 1)) := K3
    have B3 : KB ((t.wI 2 j).wI 1 (t.I 1 - 1)) := B3
    have X3 : kx c h2 (t.wI 2 j) h3 ((t.wI 2 j).wI 1 (t.I 1 - 1)) 0 0 := X3
    rw [wI_comm (by decide)] at K3 B3 X3
    have hJ3 := hj j hj3.1 hj3.2.1 hj3.2.2
    obtain ⟨t3, ht3⟩ : ∃ t3 : KS, t3 = (t.wI 1 (t.I 1 - 1)).wI 2 j := ⟨_, rfl⟩
    have sd3 : SD t3 = SD t := by rw [ht3]; rfl
    have i3 : t3.I 3 = t.I 3 := by rw [ht3]; rfl
    have i8 : t3.I 8 = t.I 8 := by rw [ht3]; rfl
    have F3 : RFF s t3 := by rw [ht3]; exact RFF_tr hF (RFF_tr (RFF_wI (by decide)) (RFF_wI (by decide)))
    rw [← ht3] at K3 B3 X3 hJ3
    have hl3 : OB t3 l := ⟨hl.1, by rw [i8]; exact hl.2⟩
    show xx_go (xt_P z) (d + 5) 193 39 [some (.ref (c + 9)), some (.int (iI l)), some (.int (iI a)), none] [.int (iI ((t.wI 2 j).A 1 ((t.wI 2 j).I 1 - 1)))] h3 _
    refine go_a (pc' := 40) (ls' := [some (.ref (c + 9)), some (.int (iI l)), some (.int (iI a)), none]) (st' := []) rfl rfl ?_
    refine go_a (pc' := 41) (ls' := [some (.ref (c + 9)), some (.int (iI l)), some (.int (iI a)), none]) (st' := [.ref (c + 9)]) rfl rfl ?_
    refine go_get (v := .ref (c + 14)) rfl (K3.1 5 (by decide)) rfl rfl ?_
    refine go_v (m := 34) (as := [.ref (c + 14)]) (r := []) rfl rfl rfl (K3.1 8 (by decide)) rfl rfl (kr_length_3 z (d + 4) c h3 t3 K3) (fun v h4 hq => ?_)
    obtain ⟨rfl, e⟩ := hq
    rw [e]
    clear e h4
    show xx_go (xt_P z) (d + 5) 193 47 [some (.ref (c + 9)), some (.int (iI l)), some (.int (iI a)), none] [.int (iI (t3.I 3))] h3 _
    refine go_a (pc' := 48) (ls' := [some (.ref (c + 9)), some (.int (iI l)), some (.int (iI a)), none]) (st' := [.int (iI 1), .int (iI (t3.I 3))]) rfl rfl ?_
    refine mi_sub rfl ?_
    refine go_a (pc' := 50) (ls' := [some (.ref (c + 9)), some (.int (iI l)), some (.int (iI a)), some (.int (iI ((t3.I 3) - 1)))]) (st' := []) rfl rfl ?_
    refine kd_close_loop z d c u a hp s hu ha.1 ha.2 _ l (t3.I 3 - 1) t3 h3 (Nat.le_refl _) K3 B3 (kx_tr (kx_tr hX X2) X3) F3 ?_ hl3 hJ3.2 (by omega) (by omega) (Or.inr (by omega))
    rw [wI_eta (show t3.I 3 = t3.I 3 - 1 + 1 by omega), sd3]
    exact hJ3.1
  have n0 := CI_n0 hJ.1
  have zero : OB s 0 := ⟨by decide, by have := hB.2.2.2.2.2.1; omega⟩
  have vz : VD (SD s) 0 = 0 := by rw [VD_atom n0, if_pos rfl]
  have owt : tps s = 3 ∨ tps s = 4 → ow (tps s) = 1 := fun q => by rcases q with q | q <;> rw [q] <;> decide
  refine cl_go rfl ?_
  show xx_go (xt_P z) (d + 5) 193 0 [some (.ref (c + 9)), none, none, none] [] hp _
  refine go_a (pc' := 1) (ls' := [some (.ref (c + 9)), none, none, none]) (st' := [.ref (c + 9)]) rfl rfl ?_
  refine go_get (v := .ref (c + 10)) rfl (hK.1 5 (by decide)) rfl rfl ?_
  refine go_v (m := 44) (as := [.ref (c + 10)]) (r := []) rfl rfl rfl (hK.1 6 (by decide)) rfl rfl (kr_last_1 z (d + 4) c hp s hK hB) (fun v h1 hq => ?_)
  obtain ⟨hq, e⟩ := hq
  rw [e]
  clear e h1
  have hq : v = some (.int (iI (tps s))) := by
    rw [tp]
    exact hq.elim (fun q => q.2) (fun q => absurd q.1 (by omega))
  subst hq
  show xx_go (xt_P z) (d + 5) 193 7 [some (.ref (c + 9)), none, none, none] [.int (iI (tps s))] hp _
  refine go_a (pc' := 9) (ls' := [some (.ref (c + 9)), none, none, none]) (st' := [.int (iI 6), .int (iI (tps s))]) rfl rfl ?_
  refine mi_ne (t := 22) rfl rfl (by omega) (by omega) (by omega) (by omega) (fun q => ?_) (fun q => ?_)
  · refine go_a (pc' := 23) (ls' := [some (.ref (c + 9)), none, none, none]) (st' := [.int (iI 0)]) rfl rfl ?_
    refine rest 0 s hp hK hB kx_rf RFF_rf zero rfl rfl rfl (fun j p1 p2 p3 => ⟨?_, tps_pop hJ pos⟩) hJ.2.2.2.2.2.1 (by omega) (by omega)
    have jp := RJ_pop hJ pos p1 p2 p3
    rw [← tp, owt (by omega)] at jp
    exact RJ_w jp (by rw [vz]; decide) (by have := (oq_R (tps s)).1; omega)
  · have q6 : tps s = 6 := by omega
    refine go_a (pc' := 13) (ls' := [some (.ref (c + 9)), none, none, none]) (st' := [.ref (c + 9)]) rfl rfl ?_
    refine go_get (v := .ref (c + 14)) rfl (hK.1 5 (by decide)) rfl rfl ?_
    refine go_v (m := 192) (as := [.ref (c + 14)]) (r := []) rfl rfl rfl (hK.1 8 (by decide)) rfl rfl (kr_takeLast_3 z (d + 4) c hp s hK hB) (fun v h1 hq => ?_)
    rcases hq with ⟨q3, rfl, e⟩ | ⟨q3, rfl, K1, B1, X1⟩
    · rw [e]
      clear e h1
      show xx_go (xt_P z) (d + 5) 193 19 [some (.ref (c + 9)), none, none, none] [.int (iI 0)] hp _
      refine go_a (pc' := 23) (ls' := [some (.ref (c + 9)), none, none, none]) (st' := [.int (iI 0)]) rfl rfl ?_
      refine rest 0 s hp hK hB kx_rf RFF_rf zero rfl rfl rfl (fun j p1 p2 p3 => ⟨?_, tps_pop hJ pos⟩) hJ.2.2.2.2.2.1 (by omega) (by omega)
      have jp := RJ_pop hJ pos p1 p2 p3
      rw [← tp, q6] at jp
      exact RJ_w jp (by rw [vz]; decide) (by decide)
    · show xx_go (xt_P z) (d + 5) 193 19 [some (.ref (c + 9)), none, none, none] [.int (iI (s.A 3 (s.I 3 - 1)))] h1 _
      refine go_a (pc' := 23) (ls' := [some (.ref (c + 9)), none, none, none]) (st' := [.int (iI (s.A 3 (s.I 3 - 1)))]) rfl rfl ?_
      have hx : OB s (s.A 3 (s.I 3 - 1)) := hJ.2.2.1 _ (by omega) (by omega)
      have wv := (WD_2V hJ.1 hx).2
      have jc := RJ_cut (t := s) (m := s.I 3) (by rw [wI_eta rfl]; exact hJ) q3
      refine rest _ (s.wI 3 (s.I 3 - 1)) h1 K1 B1 X1 (RFF_wI (by decide)) hx rfl rfl rfl (fun j p1 p2 p3 => ⟨?_, tps_pop jc pos⟩) jc.2.2.2.2.2.1 (show 0 ≤ s.I 3 - 1 by omega) (show s.I 3 - 1 ≤ 1000 by omega)
      have jp := RJ_pop jc pos p1 p2 p3
      have jp : RJ u (1 + WD (SD s) (s.A 3 (s.I 3 - 1)) + ow (s.A 1 (s.I 1 - 1))) (2 + 1 + oq (s.A 1 (s.I 1 - 1))) (((s.wI 3 (s.I 3 - 1)).wI 1 (s.I 1 - 1)).wI 2 j) := jp
      rw [← tp, q6] at jp
      refine RJ_w jp ?_ (by decide)
      show 2 + VD (SD s) (s.A 3 (s.I 3 - 1)) ≤ 1 + WD (SD s) (s.A 3 (s.I 3 - 1)) + 2
      omega
