set_option maxRecDepth 4000 in
theorem kz_close_loop (z : Value) (d c : Nat) (u a : Int) (hp0 : xx_H) (s0 : KS) (hu : u ≤ 30000) (a0 : 0 ≤ a) (a1 : a ≤ 1000) (r : sp_F) (V : ob_T) (wf : WFr r) (fn : r ≠ []) : ∀ (f : Nat) (l k : Int) (t : KS) (hp : xx_H) (m : List ob_T), (k + 1).toNat ≤ f → KI c hp t → KB t → kx c hp0 s0 hp t 0 0 → RFF s0 t → RJ u (2 + VD (SD t) l) 1 (t.wI 3 (k + 1)) → OB t l → (tps t ≠ 1 ∧ tps t ≠ 6) → -1 ≤ k → k + 1 ≤ t.I 3 → (KX t ∧ KNM t ∧ (KHT s0 → KHT t) ∧ t.I 2 = t.I 1 ∧ RRc t r (t.I 1) a ∧ RIt t m (k + 1) ∧ (m.length : Int) = k + 1 - a ∧ sp_ls m (DK t.N l) = V) → xx_go (xt_P z) (d + 5) 193 50 [some (.ref (c + 9)), some (.int (iI l)), some (.int (iI a)), some (.int (iI k))] [] hp (fun v h1 => v = none ∧ ∃ s1 : KS, KI c h1 s1 ∧ KB s1 ∧ kx c hp0 s0 h1 s1 0 0 ∧ RFF s0 s1 ∧ RI u s1 ∧ KX s1 ∧ KNM s1 ∧ (KHT s0 → KHT s1) ∧ s1.I 2 = s1.I 1 ∧ RRc s1 (sp_add r V) (s1.I 1) (s1.I 3) ∧ WFr (sp_add r V)) := by
  have fin : ∀ (l k : Int) (t : KS) (hp : xx_H) (m : List ob_T), KI c hp t → KB t → kx c hp0 s0 hp t 0 0 → RFF s0 t → RJ u (2 + VD (SD t) l) 1 (t.wI 3 (k + 1)) → OB t l → (tps t ≠ 1 ∧ tps t ≠ 6) → -1 ≤ k → k + 1 ≤ t.I 3 → (KX t ∧ KNM t ∧ (KHT s0 → KHT t) ∧ t.I 2 = t.I 1 ∧ RRc t r (t.I 1) a ∧ RIt t m (k + 1) ∧ (m.length : Int) = k + 1 - a ∧ sp_ls m (DK t.N l) = V) → k < a → xx_go (xt_P z) (d + 5) 193 78 [some (.ref (c + 9)), some (.int (iI l)), some (.int (iI a)), some (.int (iI k))] [] hp (fun v h1 => v = none ∧ ∃ s1 : KS, KI c h1 s1 ∧ KB s1 ∧ kx c hp0 s0 h1 s1 0 0 ∧ RFF s0 s1 ∧ RI u s1 ∧ KX s1 ∧ KNM s1 ∧ (KHT s0 → KHT s1) ∧ s1.I 2 = s1.I 1 ∧ RRc s1 (sp_add r V) (s1.I 1) (s1.I 3) ∧ WFr (sp_add r V)) := by
    intro l k t hp m hK hB hX hF hJ hl ht k0 k1 hE ka
    obtain ⟨eX, eM, eH, e21, er, ei, el, eV⟩ := hE
    have b := hB.2.2.2.1 3 (by decide)
    have ek : k + 1 = a := by omega
    have m0 : m = [] := List.length_eq_zero_iff.mp (by omega)
    rw [m0] at eV
    have eV : DK t.N l = V := eV
    refine go_a (pc' := 79) (ls' := [some (.ref (c + 9)), some (.int (iI l)), some (.int (iI a)), some (.int (iI k))]) (st' := [.ref (c + 9)]) rfl rfl ?_
    refine go_get (v := .ref (c + 14)) rfl (hK.1 5 (by decide)) rfl rfl ?_
    refine go_a (pc' := 83) (ls' := [some (.ref (c + 9)), some (.int (iI l)), some (.int (iI a)), some (.int (iI k))]) (st' := [.int (iI a), .ref (c + 14)]) rfl rfl ?_
    refine go_v (m := 39) (as := [.ref (c + 14), .int (iI a)]) (r := []) rfl rfl rfl (hK.1 8 (by decide)) rfl rfl (kr_cut_3 z (d + 4) c a hp t hK hB (by omega) (by omega)) (fun v h1 hq => ?_)
    obtain ⟨rfl, hq⟩ := hq
    have hq : KI c h1 (t.wI 3 (k + 1)) ∧ KB (t.wI 3 (k + 1)) ∧ kx c hp t h1 (t.wI 3 (k + 1)) 0 0 := by
      rcases hq with ⟨q0, q1, q2, q3, q4⟩ | ⟨q1, q2⟩
      · rw [show k + 1 = a by omega]
        exact ⟨q2, q3, q4⟩
      · rw [wI_eta (show t.I 3 = k + 1 by omega), q2]
        exact ⟨hK, hB, kx_rf⟩
    obtain ⟨K1, B1, X1⟩ := hq
    show xx_go (xt_P z) (d + 5) 193 86 [some (.ref (c + 9)), some (.int (iI l)), some (.int (iI a)), some (.int (iI k))] [] h1 _
    refine go_a (pc' := 87) (ls' := [some (.ref (c + 9)), some (.int (iI l)), some (.int (iI a)), some (.int (iI k))]) (st' := [.ref (c + 9)]) rfl rfl ?_
    refine go_a (pc' := 88) (ls' := [some (.ref (c + 9)), some (.int (iI l)), some (.int (iI a)), some (.int (iI k))]) (st' := [.int (iI l), .ref (c + 9)]) rfl rfl ?_
    have wv := (WD_2V (s := t.wI 3 (k + 1)) hJ.1 (show OB (t.wI 3 (k + 1)) l from hl)).1
    have er2 : RRc (t.wI 3 (k + 1)) r ((t.wI 3 (k + 1)).I 1) ((t.wI 3 (k + 1)).I 3) := by
      show RRc (t.wI 3 (k + 1)) r (t.I 1) (k + 1)
      rw [ek]
      exact RRc_ext (s := t) r _ _ (fun _ _ _ => ⟨rfl, rfl⟩) (fun _ _ _ => ⟨rfl, rfl⟩) er
    refine go_v (m := 196) (as := [.ref (c + 9), .int (iI l)]) (r := []) rfl rfl rfl (K1.1 5 (by decide)) rfl rfl (kz_addObject z (d + 1) c l u h1 (t.wI 3 (k + 1)) K1 B1 hu (RJ_w hJ wv (Int.le_refl _)) hl ht r (KX_wI eX (by decide)) eM e21 er2 wf fn) (fun v h2 hq => ?_)
    obtain ⟨rfl, t2, K2, B2, X2, F2, J2, x2, m2, y2, z2, r2, w2⟩ := hq
    have r2 : RRc t2 (sp_add r (DK t.N l)) (t2.I 1) (t2.I 3) := r2
    have w2 : WFr (sp_add r (DK t.N l)) := w2
    rw [eV] at r2 w2
    show xx_go (xt_P z) (d + 5) 193 91 [some (.ref (c + 9)), some (.int (iI l)), some (.int (iI a)), some (.int (iI k))] [] h2 _
    exact go_r rfl rfl rfl rfl rfl rfl ⟨rfl, t2, K2, B2, kx_tr (kx_tr hX X1) X2, RFF_tr (RFF_tr hF (RFF_wI (by decide))) F2, J2, x2, m2, fun q => y2 (eH q), z2, r2, w2⟩
  intro f
  induction f with
  | zero =>
    intro l k t hp m hf hK hB hX hF hJ hl ht k0 k1 hE
    have b := hB.2.2.2.1 3 (by decide)
    refine go_a (pc' := 51) (ls' := [some (.ref (c + 9)), some (.int (iI l)), some (.int (iI a)), some (.int (iI k))]) (st' := [.int (iI k)]) rfl rfl ?_
    refine go_a (pc' := 52) (ls' := [some (.ref (c + 9)), some (.int (iI l)), some (.int (iI a)), some (.int (iI k))]) (st' := [.int (iI a), .int (iI k)]) rfl rfl ?_
    refine mi_lt (t := 78) rfl rfl (by omega) (by omega) (by omega) (by omega) (fun q => fin l k t hp m hK hB hX hF hJ hl ht k0 k1 hE q) (fun q => absurd (show k < a by omega) q)
  | succ f ih =>
    intro l k t hp m hf hK hB hX hF hJ hl ht k0 k1 hE
    have b := hB.2.2.2.1 3 (by decide)
    refine go_a (pc' := 51) (ls' := [some (.ref (c + 9)), some (.int (iI l)), some (.int (iI a)), some (.int (iI k))]) (st' := [.int (iI k)]) rfl rfl ?_
    refine go_a (pc' := 52) (ls' := [some (.ref (c + 9)), some (.int (iI l)), some (.int (iI a)), some (.int (iI k))]) (st' := [.int (iI a), .int (iI k)]) rfl rfl ?_
    refine mi_lt (t := 78) rfl rfl (by omega) (by omega) (by omega) (by omega) (fun q => fin l k t hp m hK hB hX hF hJ hl ht k0 k1 hE q) (fun q => ?_)
    obtain ⟨eX, eM, eH, e21, er, ei, el, eV⟩ := hE
    obtain ⟨x, m1, rfl⟩ : ∃ (x : ob_T) (m1 : List ob_T), m = x :: m1 := by
      match m, el with
      | [], el =>
        have el : ((0 : Nat) : Int) = k + 1 - a := el
        omega
      | x :: m1, _ => exact ⟨x, m1, rfl⟩
    obtain ⟨ei1, ei2, ei3⟩ := ei
    rw [show k + 1 - 1 = k by omega] at ei2 ei3
    rw [List.length_cons] at el
    have hC : CI t := hJ.1
    have v0 := VD_0 (I := UI t) hC.1 hl.1 hl.2
    have rb := (RJ_b hJ (by decide) (show 0 ≤ 2 + VD (SD t) l by omega) hu).1
    have rb : t.I 8 ≤ 32000 := rb
    have hx : OB t (t.A 3 k) := hJ.2.2.1 k (by omega) (show k < k + 1 by omega)
    refine go_a (pc' := 56) (ls' := [some (.ref (c + 9)), some (.int (iI l)), some (.int (iI a)), some (.int (iI k))]) (st' := [.ref (c + 9)]) rfl rfl ?_
    refine go_get (v := .ref (c + 4)) rfl (hK.1 5 (by decide)) rfl rfl ?_
    refine go_a (pc' := 60) (ls' := [some (.ref (c + 9)), some (.int (iI l)), some (.int (iI a)), some (.int (iI k))]) (st' := [.ref (c + 9), .ref (c + 4)]) rfl rfl ?_
    refine go_get (v := .ref (c + 14)) rfl (hK.1 5 (by decide)) rfl rfl ?_
    refine go_a (pc' := 64) (ls' := [some (.ref (c + 9)), some (.int (iI l)), some (.int (iI a)), some (.int (iI k))]) (st' := [.int (iI k), .ref (c + 14), .ref (c + 4)]) rfl rfl ?_
    refine go_v (m := 43) (as := [.ref (c + 14), .int (iI k)]) (r := [.ref (c + 4)]) rfl rfl rfl (hK.1 8 (by decide)) rfl rfl (kr_at_3 z (d + 4) c k hp t hK hB (by omega) (by omega)) (fun v h1 hq => ?_)
    obtain ⟨hq, e⟩ := hq
    rw [e]
    clear e h1
    have hq : v = some (.int (iI (t.A 3 k))) := hq.elim (fun q => q.2.2) (fun w => absurd ⟨show 0 ≤ k by omega, show k < t.I 3 by omega⟩ w.1)
    subst hq
    show xx_go (xt_P z) (d + 5) 193 67 [some (.ref (c + 9)), some (.int (iI l)), some (.int (iI a)), some (.int (iI k))] [.int (iI (t.A 3 k)), .ref (c + 4)] hp _
    refine go_a (pc' := 68) (ls' := [some (.ref (c + 9)), some (.int (iI l)), some (.int (iI a)), some (.int (iI k))]) (st' := [.int (iI l), .int (iI (t.A 3 k)), .ref (c + 4)]) rfl rfl ?_
    refine go_v (m := 194) (as := [.ref (c + 4), .int (iI (t.A 3 k)), .int (iI l)]) (r := []) rfl rfl rfl (hK.1 3 (by decide)) rfl rfl (kz_pair z (d + 2) c (t.A 3 k) l hp t hK hB eX (by omega) hx.1 hx.2 hl.1 hl.2) (fun v h1 hq => ?_)
    obtain ⟨j, t1, rfl, K1, B1, x1, X1, G1, O1, N1, D1, H1, -⟩ := hq
    have C1 := x1.1
    show xx_go (xt_P z) (d + 5) 193 71 [some (.ref (c + 9)), some (.int (iI l)), some (.int (iI a)), some (.int (iI k))] [.int (iI j)] h1 _
    refine go_a (pc' := 72) (ls' := [some (.ref (c + 9)), some (.int (iI j)), some (.int (iI a)), some (.int (iI k))]) (st' := []) rfl rfl ?_
    refine go_a (pc' := 75) (ls' := [some (.ref (c + 9)), some (.int (iI j)), some (.int (iI a)), some (.int (iI (k + (-1))))]) (st' := []) rfl (by rw [← iI_add k (-1)]; rfl) ?_
    refine go_a (pc' := 50) (ls' := [some (.ref (c + 9)), some (.int (iI j)), some (.int (iI a)), some (.int (iI (k + (-1))))]) (st' := []) rfl rfl ?_
    have J1 := RJ_cut (m := k + 1) (t := t1) (RJ_store hJ (KGR_wI (j := 3) (x := k + 1) G1 (by decide)) (show CI (t1.wI 3 (k + 1)) from C1)) (by omega)
    have a3 : t1.A 3 = t.A 3 := G1.1.2.1 3 (by decide) (by decide) (by decide)
    have i3 : t1.I 3 = t.I 3 := G1.1.2.2.2 3 (by decide)
    have i1 : t1.I 1 = t.I 1 := G1.1.2.2.2 1 (by decide)
    have i2 : t1.I 2 = t.I 2 := G1.1.2.2.2 2 (by decide)
    have b1e : t1.A 1 = t.A 1 := G1.1.2.1 1 (by decide) (by decide) (by decide)
    have b2e : t1.A 2 = t.A 2 := G1.1.2.1 2 (by decide) (by decide) (by decide)
    have ob : ∀ q : Int, 0 ≤ q → q < k + 1 → OB t (t.A 3 q) := fun q q0 q1 => hJ.2.2.1 q q0 q1
    have dk : ∀ q : Int, 0 ≤ q → q < k + 1 → t1.A 3 q = t.A 3 q ∧ DK t1.N (t.A 3 q) = DK t.N (t.A 3 q) := fun q q0 q1 => ⟨by rw [a3], DK_gr hB eX G1 (ob q q0 q1).1 (ob q q0 q1).2⟩
    rw [show k + 1 - 1 = k by omega, a3] at J1
    have gg : KGO t t1 := ⟨G1.2.1, G1.2.2.2⟩
    have g1 := G1.2.1
    have g2 := G1.2.2.1
    have hx2 := hx
    have hl2 := hl
    have O2 := O1
    unfold OB at hx2 hl2
    have sp := sd_pair (a := t.A 3 k) (b := l) hx2.1 (by omega) hl2.1 (by omega)
    have sj := SD_neg (s := t1) (k := j) (by rw [N1]; exact sp.2.2.1)
    rw [N1, sp.1, sp.2.1] at sj
    have vp := VD_pair (I := UI t1) C1.1 O1.1 O1.2 (by omega)
    rw [sj.1, sj.2, (WD_go gg hC hx).1, (WD_go gg hC hl).2] at vp
    rw [(WD_go gg hC hx).1] at J1
    refine ih j (k + (-1)) t1 h1 m1 (by omega) K1 B1 (kx_tr hX X1) (RFF_tr hF (RFF_gr G1)) ?_ O1 (by rw [tps_gr G1]; exact ht) (by omega) (by omega) ⟨x1, KNM_gr hB eM G1, fun q => H1 (eH q), by omega, ?_, ?_, by omega, ?_⟩
    · rw [show k + (-1) + 1 = k by omega]
      exact RJ_w J1 (by omega) (by decide)
    · rw [i1]
      exact RRc_ext r _ _ (fun _ _ _ => ⟨by rw [b1e], by rw [b2e]⟩) (fun q q0 q1 => dk q q0 (by omega)) er
    · rw [show k + (-1) + 1 = k by omega]
      exact RIt_ext m1 k (fun q q0 q1 => dk q q0 (by omega)) ei3
    · rw [D1, ei2]
      exact eV
set_option maxRecDepth 4000 in
theorem kz_close (z : Value) (d c : Nat) (u : Int) (hp : xx_H) (s : KS) (hK : KI c hp s) (hB : KB s) (hu : u ≤ 30000) (hJ : RJ u 1 2 s) (ht : tps s = 3 ∨ tps s = 4 ∨ tps s = 6) (F : sp_F) (eX : KX s) (eM : KNM s) (e21 : s.I 2 = s.I 1) (rr : RRc s F (s.I 1) (s.I 3)) (wf : WFr F) : xx_cl (xt_P z) (d + 6) 193 [.ref (c + 9)] hp (fun v h1 => v = none ∧ ∃ s1 : KS, KI c h1 s1 ∧ KB s1 ∧ kx c hp s h1 s1 0 0 ∧ RFF s s1 ∧ RI u s1 ∧ KX s1 ∧ KNM s1 ∧ (KHT s → KHT s1) ∧ s1.I 2 = s1.I 1 ∧ RRc s1 (sp_cl F) (s1.I 1) (s1.I 3) ∧ WFr (sp_cl F)) := by
  have pos : 0 < s.I 1 := by
    by_cases w : 0 < s.I 1
    · exact w
    · unfold tps at ht
      rw [if_neg w] at ht
      omega
  have tp := tps_pos pos
  have b := hB.2.2.2.1 1 (by decide)
  have b3 := hB.2.2.2.1 3 (by decide)
  have j1 := hJ.2.1
  have rb := RJ_b hJ (by decide) (by decide) hu
  have tt := RRc_top F rr rfl
  obtain ⟨k0, l0, r, rfl⟩ : ∃ (k0 : Int) (l0 : List ob_T) (r : sp_F), F = (k0, l0) :: r := by
    match F, tt with
    | [], tt =>
      have tt : tps s = 0 := tt
      omega
    | (k9, l9) :: r9, _ => exact ⟨k9, l9, r9, rfl⟩
  have tt : tps s = k0 := tt
  have fn : r ≠ [] := fun q => absurd (wf.1.2.2.2.2.2.1 q) (by omega)
  obtain ⟨-, -, r3, ⟨r4, r5⟩, r6⟩ := rr
  have V : sp_cl ((k0, l0) :: r) = sp_add r (sp_cv k0 l0) := rfl
  rw [V]
  have rest : ∀ (l : Int) (t : KS) (h1 : xx_H) (m : List ob_T), KI c h1 t → KB t → kx c hp s h1 t 0 0 → RFF s t → OB t l → t.I 1 = s.I 1 → t.A 1 = s.A 1 → t.I 2 = s.I 2 → (∀ j : Int, 0 ≤ j → j ≤ t.I 2 → j ≤ t.I 1 - 1 → RJ u (2 + VD (SD t) l) 1 ((t.wI 1 (t.I 1 - 1)).wI 2 j) ∧ (tps ((t.wI 1 (t.I 1 - 1)).wI 2 j) ≠ 1 ∧ tps ((t.wI 1 (t.I 1 - 1)).wI 2 j) ≠ 6)) → (∀ k : Int, 0 ≤ k → k < t.I 2 → 0 ≤ t.A 2 k ∧ t.A 2 k ≤ 1000) → 0 ≤ t.I 3 → t.I 3 ≤ 1000 → (KX t ∧ KNM t ∧ (KHT s → KHT t) ∧ t.A 2 (t.I 2 - 1) = t.I 3 - m.length ∧ RIt t m (t.I 3) ∧ RRc t r (t.I 1 - 1) (t.I 3 - m.length) ∧ sp_ls m (DK t.N l) = sp_cv k0 l0) → xx_go (xt_P z) (d + 5) 193 23 [some (.ref (c + 9)), none, none, none] [.int (iI l)] h1 (fun v h1 => v = none ∧ ∃ s1 : KS, KI c h1 s1 ∧ KB s1 ∧ kx c hp s h1 s1 0 0 ∧ RFF s s1 ∧ RI u s1 ∧ KX s1 ∧ KNM s1 ∧ (KHT s → KHT s1) ∧ s1.I 2 = s1.I 1 ∧ RRc s1 (sp_add r (sp_cv k0 l0)) (s1.I 1) (s1.I 3) ∧ WFr (sp_add r (sp_cv k0 l0))) := by
    intro l t h1 m hK hB hX hF hl e1 ea e2 hj hst i30 i31 hE
    obtain ⟨fX, fM, fH, f2, fi, fr, fV⟩ := hE
    have b2 := hB.2.2.2.1 2 (by decide)
    refine go_a (pc' := 24) (ls' := [some (.ref (c + 9)), some (.int (iI l)), none, none]) (st' := []) rfl rfl ?_
    refine go_a (pc' := 25) (ls' := [some (.ref (c + 9)), some (.int (iI l)), none, none]) (st' := [.ref (c + 9)]) rfl rfl ?_
    refine go_get (v := .ref (c + 12)) rfl (hK.1 5 (by decide)) rfl rfl ?_
    refine go_v (m := 192) (as := [.ref (c + 12)]) (r := []) rfl rfl rfl (hK.1 7 (by decide)) rfl rfl (kr_takeLast_2 z (d + 4) c h1 t hK hB) (fun v h2 hq => ?_)
    have hq := hq.elim (fun q => absurd q.1 (by omega)) id
    obtain ⟨-, rfl, K2, B2, X2⟩ := hq
    have ha := hst (t.I 2 - 1) (by omega) (by omega)
    obtain ⟨a, hae⟩ : ∃ a : Int, a = t.A 2 (t.I 2 - 1) := ⟨_, rfl⟩
    obtain ⟨j, hje⟩ : ∃ j : Int, j = t.I 2 - 1 := ⟨_, rfl⟩
    rw [← hje] at K2 B2 X2 hae ha f2 ⊢
    rw [← hae] at ha f2 ⊢
    have hj3 : 0 ≤ j ∧ j ≤ t.I 2 ∧ j ≤ t.I 1 - 1 := by omega
    show xx_go (xt_P z) (d + 5) 193 31 [some (.ref (c + 9)), some (.int (iI l)), none, none] [.int (iI a)] h2 _
    refine go_a (pc' := 32) (ls' := [some (.ref (c + 9)), some (.int (iI l)), some (.int (iI a)), none]) (st' := []) rfl rfl ?_
    refine go_a (pc' := 33) (ls' := [some (.ref (c + 9)), some (.int (iI l)), some (.int (iI a)), none]) (st' := [.ref (c + 9)]) rfl rfl ?_
    refine go_get (v := .ref (c + 10)) rfl (K2.1 5 (by decide)) rfl rfl ?_
    refine go_v (m := 192) (as := [.ref (c + 10)]) (r := []) rfl rfl rfl (K2.1 6 (by decide)) rfl rfl (kr_takeLast_1 z (d + 4) c h2 (t.wI 2 j) K2 B2) (fun v h3 hq => ?_)
    have hq := hq.elim (fun q => absurd (show t.I 1 = 0 from q.1) (by omega)) id
    obtain ⟨-, rfl, K3, B3, X3⟩ := hq
    have K3 : KI c h3 ((t.wI 2 j).wI 1 (t.I 1 - 1)) := K3
    have B3 : KB ((t.wI 2 j).wI 1 (t.I 1 - 1)) := B3
    have X3 : kx c h2 (t.wI 2 j) h3 ((t.wI 2 j).wI 1 (t.I 1 - 1)) 0 0 := X3
    rw [wI_comm (by decide)] at K3 B3 X3
    have hJ3 := hj j hj3.1 hj3.2.1 hj3.2.2
    have y3 : KX ((t.wI 1 (t.I 1 - 1)).wI 2 j) := KX_wI (KX_wI fX (by decide)) (by decide)
    have z3 : RRc ((t.wI 1 (t.I 1 - 1)).wI 2 j) r (t.I 1 - 1) a := by
      rw [f2]
      exact RRc_ext (s := t) r _ _ (fun _ _ _ => ⟨rfl, rfl⟩) (fun _ _ _ => ⟨rfl, rfl⟩) fr
    have w3 : RIt ((t.wI 1 (t.I 1 - 1)).wI 2 j) m (t.I 3) := RIt_ext (s := t) m _ (fun _ _ _ => ⟨rfl, rfl⟩) fi
    have h3e : KHT s → KHT ((t.wI 1 (t.I 1 - 1)).wI 2 j) := fun q => fH q
    have m3 : KNM ((t.wI 1 (t.I 1 - 1)).wI 2 j) := fM
    obtain ⟨t3, ht3⟩ : ∃ t3 : KS, t3 = (t.wI 1 (t.I 1 - 1)).wI 2 j := ⟨_, rfl⟩
    have sd3 : SD t3 = SD t := by rw [ht3]; rfl
    have i3 : t3.I 3 = t.I 3 := by rw [ht3]; rfl
    have i8 : t3.I 8 = t.I 8 := by rw [ht3]; rfl
    have i1 : t3.I 1 = t.I 1 - 1 := by rw [ht3]; rfl
    have i2 : t3.I 2 = j := by rw [ht3]; rfl
    have n3 : t3.N = t.N := by rw [ht3]; rfl
    have F3 : RFF s t3 := by rw [ht3]; exact RFF_tr hF (RFF_tr (RFF_wI (by decide)) (RFF_wI (by decide)))
    rw [← ht3] at K3 B3 X3 hJ3 y3 z3 w3 h3e m3
    have hl3 : OB t3 l := ⟨hl.1, by rw [i8]; exact hl.2⟩
    show xx_go (xt_P z) (d + 5) 193 39 [some (.ref (c + 9)), some (.int (iI l)), some (.int (iI a)), none] [.int (iI ((t.wI 2 j).A 1 ((t.wI 2 j).I 1 - 1)))] h3 _
    refine go_a (pc' := 40) (ls' := [some (.ref (c + 9)), some (.int (iI l)), some (.int (iI a)), none]) (st' := []) rfl rfl ?_
    refine go_a (pc' := 41) (ls' := [some (.ref (c + 9)), some (.int (iI l)), some (.int (iI a)), none]) (st' := [.ref (c + 9)]) rfl rfl ?_
    refine go_get (v := .ref (c + 14)) rfl (K3.1 5 (by decide)) rfl rfl ?_
    refine go_v (m := 34) (as := [.ref (c + 14)]) (r := []) rfl rfl rfl (K3.1 8 (by decide)) rfl rfl (kr_length_3 z (d + 4) c h3 t3 K3) (fun v h4 hq => ?_)
    obtain ⟨rfl, e⟩ := hq
    rw [e]
    clear e h4
    show xx_go (xt_P z) (d + 5) 193 47 [some (.ref (c + 9)), some (.int (iI l)), some (.int (iI a)), none] [.int (iI (t3.I 3))] h3 _
    refine go_a (pc' := 48) (ls' := [some (.ref (c + 9)), some (.int (iI l)), some (.int (iI a)), none]) (st' := [.int (iI 1), .int (iI (t3.I 3))]) rfl rfl ?_
    refine mi_sub rfl ?_
    refine go_a (pc' := 50) (ls' := [some (.ref (c + 9)), some (.int (iI l)), some (.int (iI a)), some (.int (iI ((t3.I 3) - 1)))]) (st' := []) rfl rfl ?_
    refine kz_close_loop z d c u a hp s hu ha.1 ha.2 r _ wf.2 fn _ l (t3.I 3 - 1) t3 h3 m (Nat.le_refl _) K3 B3 (kx_tr (kx_tr hX X2) X3) F3 ?_ hl3 hJ3.2 (by omega) (by omega) ⟨y3, m3, h3e, by omega, by rw [i1]; exact z3, by rw [show t3.I 3 - 1 + 1 = t.I 3 by omega]; exact w3, by omega, by rw [n3]; exact fV⟩
    rw [wI_eta (show t3.I 3 = t3.I 3 - 1 + 1 by omega), sd3]
    exact hJ3.1
  have n0 := CI_n0 hJ.1
  have zero : OB s 0 := ⟨by decide, by have := hB.2.2.2.2.2.1; omega⟩
  have vz : VD (SD s) 0 = 0 := by rw [VD_atom n0, if_pos rfl]
  have owt : tps s = 3 ∨ tps s = 4 → ow (tps s) = 1 := fun q => by rcases q with q | q <;> rw [q] <;> decide
  refine cl_go rfl ?_
  show xx_go (xt_P z) (d + 5) 193 0 [some (.ref (c + 9)), none, none, none] [] hp _
  refine go_a (pc' := 1) (ls' := [some (.ref (c + 9)), none, none, none]) (st' := [.ref (c + 9)]) rfl rfl ?_
  refine go_get (v := .ref (c + 10)) rfl (hK.1 5 (by decide)) rfl rfl ?_
  refine go_v (m := 44) (as := [.ref (c + 10)]) (r := []) rfl rfl rfl (hK.1 6 (by decide)) rfl rfl (kr_last_1 z (d + 4) c hp s hK hB) (fun v h1 hq => ?_)
  obtain ⟨hq, e⟩ := hq
  rw [e]
  clear e h1
  have hq : v = some (.int (iI (tps s))) := by
    rw [tp]
    exact hq.elim (fun q => q.2) (fun q => absurd q.1 (by omega))
  subst hq
  show xx_go (xt_P z) (d + 5) 193 7 [some (.ref (c + 9)), none, none, none] [.int (iI (tps s))] hp _
  refine go_a (pc' := 9) (ls' := [some (.ref (c + 9)), none, none, none]) (st' := [.int (iI 6), .int (iI (tps s))]) rfl rfl ?_
  refine mi_ne (t := 22) rfl rfl (by omega) (by omega) (by omega) (by omega) (fun q => ?_) (fun q => ?_)
  · have cv : sp_ls l0 (DK s.N 0) = sp_cv k0 l0 := by
      unfold sp_cv
      rw [if_neg (by omega), KNM_nil eM]
    refine go_a (pc' := 23) (ls' := [some (.ref (c + 9)), none, none, none]) (st' := [.int (iI 0)]) rfl rfl ?_
    refine rest 0 s hp l0 hK hB kx_rf RFF_rf zero rfl rfl rfl (fun j p1 p2 p3 => ⟨?_, tps_pop hJ pos⟩) hJ.2.2.2.2.2.1 (by omega) (by omega) ⟨eX, eM, id, by rw [e21]; exact r3, r5, r6, cv⟩
    have jp := RJ_pop hJ pos p1 p2 p3
    rw [← tp, owt (by omega)] at jp
    exact RJ_w jp (by rw [vz]; decide) (by have := (oq_R (tps s)).1; omega)
  · have q6 : tps s = 6 := by omega
    obtain ⟨x0, l2, rfl⟩ : ∃ (x0 : ob_T) (l2 : List ob_T), l0 = x0 :: l2 := by
      match l0, wf.1.2.2.1 (by omega) with
      | [], w => exact absurd (show 2 ≤ 0 from w) (by decide)
      | x :: l, _ => exact ⟨x, l, rfl⟩
    obtain ⟨u1, u2, u3⟩ := r5
    rw [List.length_cons] at r3 r4 r6
    have cv : sp_ls l2 (DK s.N (s.A 3 (s.I 3 - 1))) = sp_cv k0 (x0 :: l2) := by
      unfold sp_cv
      rw [if_pos (by omega), u2]
    refine go_a (pc' := 13) (ls' := [some (.ref (c + 9)), none, none, none]) (st' := [.ref (c + 9)]) rfl rfl ?_
    refine go_get (v := .ref (c + 14)) rfl (hK.1 5 (by decide)) rfl rfl ?_
    refine go_v (m := 192) (as := [.ref (c + 14)]) (r := []) rfl rfl rfl (hK.1 8 (by decide)) rfl rfl (kr_takeLast_3 z (d + 4) c hp s hK hB) (fun v h1 hq => ?_)
    have hq := hq.elim (fun q => absurd q.1 (by omega)) id
    obtain ⟨q3, rfl, K1, B1, X1⟩ := hq
    show xx_go (xt_P z) (d + 5) 193 19 [some (.ref (c + 9)), none, none, none] [.int (iI (s.A 3 (s.I 3 - 1)))] h1 _
    refine go_a (pc' := 23) (ls' := [some (.ref (c + 9)), none, none, none]) (st' := [.int (iI (s.A 3 (s.I 3 - 1)))]) rfl rfl ?_
    have hx : OB s (s.A 3 (s.I 3 - 1)) := hJ.2.2.1 _ (by omega) (by omega)
    have wv := (WD_2V hJ.1 hx).2
    have jc := RJ_cut (t := s) (m := s.I 3) (by rw [wI_eta rfl]; exact hJ) q3
    have le : s.I 3 - 1 - (l2.length : Int) = s.I 3 - ((l2.length + 1 : Nat) : Int) := by omega
    refine rest _ (s.wI 3 (s.I 3 - 1)) h1 l2 K1 B1 X1 (RFF_wI (by decide)) hx rfl rfl rfl (fun j p1 p2 p3 => ⟨?_, tps_pop jc pos⟩) jc.2.2.2.2.2.1 (show 0 ≤ s.I 3 - 1 by omega) (show s.I 3 - 1 ≤ 1000 by omega) ⟨KX_wI eX (by decide), eM, id, ?_, ?_, ?_, cv⟩
    · have jp := RJ_pop jc pos p1 p2 p3
      have jp : RJ u (1 + WD (SD s) (s.A 3 (s.I 3 - 1)) + ow (s.A 1 (s.I 1 - 1))) (2 + 1 + oq (s.A 1 (s.I 1 - 1))) (((s.wI 3 (s.I 3 - 1)).wI 1 (s.I 1 - 1)).wI 2 j) := jp
      rw [← tp, q6] at jp
      refine RJ_w jp ?_ (by decide)
      show 2 + VD (SD s) (s.A 3 (s.I 3 - 1)) ≤ 1 + WD (SD s) (s.A 3 (s.I 3 - 1)) + 2
      omega
    · show s.A 2 (s.I 2 - 1) = s.I 3 - 1 - (l2.length : Int)
      rw [e21, r3, le]
    · exact RIt_ext (s := s) l2 _ (fun _ _ _ => ⟨rfl, rfl⟩) u3
    · show RRc (s.wI 3 (s.I 3 - 1)) r (s.I 1 - 1) (s.I 3 - 1 - (l2.length : Int))
      rw [le]
      exact RRc_ext (s := s) r _ _ (fun _ _ _ => ⟨rfl, rfl⟩) (fun _ _ _ => ⟨rfl, rfl⟩) r6
