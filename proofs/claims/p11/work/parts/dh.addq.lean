section RJS
variable {s t t1 : KS} {u e g e1 g1 n : Int}
theorem RJ_w (h : RJ u e g t) (he : e1 ≤ e) (hg : g1 ≤ g) : RJ u e1 g1 t := ⟨h.1, h.2.1, h.2.2.1, h.2.2.2.1, h.2.2.2.2.1, h.2.2.2.2.2.1, by have := h.2.2.2.2.2.2.1; omega, by have := h.2.2.2.2.2.2.2; omega⟩
theorem RJ_store (h : RJ u e g t) (G : KGR t t1 n) (C1 : CI t1) : RJ u e (g - n) t1 := by
  obtain ⟨h1, h2, h3, h4, h5, h6, h7, h8⟩ := h
  have G0 : KGO t t1 := ⟨G.2.1, G.2.2.2⟩
  have iI : ∀ j : Nat, j ≠ 8 → t1.I j = t.I j := G.1.2.2.2
  have a1 : t1.A 1 = t.A 1 := G.1.2.1 1 (by decide) (by decide) (by decide)
  have a2 : t1.A 2 = t.A 2 := G.1.2.1 2 (by decide) (by decide) (by decide)
  have a3 : t1.A 3 = t.A 3 := G.1.2.1 3 (by decide) (by decide) (by decide)
  have b := G.2.2.1
  unfold RJ
  rw [iI 1 (by decide), iI 2 (by decide), iI 3 (by decide), iI 10 (by decide), a1, a2, a3]
  refine ⟨C1, h2, fun k k0 k1 => OB_go G0 (h3 k k0 k1), h4, h5, h6, ?_, by omega⟩
  rw [SG_go G0 h1 (f := t.A 3) (t.I 3).toNat (fun e q => ⟨h3 e (by omega) (by omega), rfl⟩)]
  exact h7
theorem RJ_pop {j : Int} (h : RJ u e g t) (p : 0 < t.I 1) (j0 : 0 ≤ j) (j1 : j ≤ t.I 2) (j2 : j ≤ t.I 1 - 1) : RJ u (e + ow (t.A 1 (t.I 1 - 1))) (g + oq (t.A 1 (t.I 1 - 1))) ((t.wI 1 (t.I 1 - 1)).wI 2 j) := by
  obtain ⟨h1, h2, h3, h4, h5, h6, h7, h8⟩ := h
  have p1 := SG_pop (g := ow) (f := t.A 1) p
  have p2 := SG_pop (g := oq) (f := t.A 1) p
  refine ⟨KSA_CI ⟨rfl, rfl, rfl⟩ h1, ⟨⟨j0, j2, show t.I 1 - 1 ≤ 41 by omega⟩, h2.2⟩, h3, fun k k0 k1 => ?_, fun k k0 k1 => ?_, fun k k0 k1 => ?_, ?_, ?_⟩
  · have k1 : k < t.I 1 - 1 := k1
    exact h4 k k0 (by omega)
  · have k1 : k < t.I 1 - 1 - 1 := k1
    exact h5 k k0 (by omega)
  · have k1 : k < j := k1
    exact h6 k k0 (by omega)
  · show SG (WD (SD t)) (t.A 3) (t.I 3).toNat + SG ow (t.A 1) (t.I 1 - 1).toNat + (e + ow (t.A 1 (t.I 1 - 1))) ≤ t.I 10
    omega
  · show t.I 8 + t.I 3 + SG oq (t.A 1) (t.I 1 - 1).toNat + (g + oq (t.A 1 (t.I 1 - 1))) ≤ u + 2 * t.I 10
    omega
theorem tps_pop {j : Int} (h : RJ u e g t) (p : 0 < t.I 1) : tps ((t.wI 1 (t.I 1 - 1)).wI 2 j) ≠ 1 ∧ tps ((t.wI 1 (t.I 1 - 1)).wI 2 j) ≠ 6 := by
  show (if 0 < t.I 1 - 1 then t.A 1 (t.I 1 - 1 - 1) else 0) ≠ 1 ∧ (if 0 < t.I 1 - 1 then t.A 1 (t.I 1 - 1 - 1) else 0) ≠ 6
  by_cases q : 0 < t.I 1 - 1
  · rw [if_pos q]
    exact h.2.2.2.2.1 _ (by omega) (by omega)
  · rw [if_neg q]
    decide
theorem tps_gr (G : KGR t t1 n) : tps t1 = tps t := by
  unfold tps
  rw [G.1.2.2.2 1 (by decide), G.1.2.1 1 (by decide) (by decide) (by decide)]
theorem WD_quote {t2 t3 : KS} {w k1 k2 : Int} (hC : CI t) (C3 : CI t3) (ow : OB t w) (G1 : KGR t t2 1) (G2 : KGR t2 t3 1) (o1 : OB t2 k1) (n1 : t2.N k1 = kpair w 0) (o2 : OB t3 k2) (n2 : t3.N k2 = kpair 2 k1) (R : t3.I 8 < 100000) : WD (SD t3) k2 = 1 + WD (SD t) w := by
  have a8 : t.I 8 ≤ t2.I 8 := G1.2.1
  have b8 : t2.I 8 ≤ t3.I 8 := G2.2.1
  unfold OB at ow o1 o2
  have s1 := sd_pair (a := w) (b := 0) ow.1 (by omega) (by decide) (by decide)
  have s2 := sd_pair (a := 2) (b := k1) (by decide) (by decide) o1.1 (by omega)
  have m1 : t3.N k1 = kpair w 0 := ((G2.2.2.2 k1 o1.2).1).trans n1
  have e1 := SD_neg (s := t3) (k := k1) (by rw [m1]; exact s1.2.2.1)
  have e2 := SD_neg (s := t3) (k := k2) (by rw [n2]; exact s2.2.2.1)
  rw [m1, s1.1, s1.2.1] at e1
  rw [n2, s2.1, s2.2.1] at e2
  have wp := WD_pair (I := UI t3) C3.1 o2.1 o2.2 (by omega)
  rw [e2.1, e2.2, e1.1, e1.2, if_pos ⟨rfl, ow.1, rfl⟩] at wp
  have G0 : KGO t t3 := ⟨by omega, fun e q => ⟨((G2.2.2.2 e (by omega)).1).trans (G1.2.2.2 e q).1, ((G2.2.2.2 e (by omega)).2).trans (G1.2.2.2 e q).2⟩⟩
  rw [wp, (WD_go G0 hC ow).1]
end RJS
set_option maxRecDepth 4000 in
theorem kd_addq (z : Value) (d c : Nat) (o u : Int) (hp0 : xx_H) (s0 : KS) (hu : u ≤ 30000) (Q : Option Value → xx_H → Prop) (K : ∀ (w n : Int) (t : KS) (hp : xx_H), KI c hp t → KB t → kx c hp0 s0 hp t 0 0 → RFF s0 t → RJ u (WD (SD t) w) 1 t → OB t w → (tps t ≠ 1 ∧ tps t ≠ 6) → xx_go (xt_P z) (d + 3) 196 61 [some (.ref (c + 9)), some (.int (iI o)), some (.int (iI w)), some (.int (iI n))] [] hp Q) : ∀ (f : Nat) (w n : Int) (t : KS) (hp : xx_H), (40 - n).toNat ≤ f → 0 ≤ n → n ≤ 40 → KI c hp t → KB t → kx c hp0 s0 hp t 0 0 → RFF s0 t → RJ u (WD (SD t) w) 1 t → OB t w → (tps t ≠ 1 ∧ tps t ≠ 6) → xx_go (xt_P z) (d + 3) 196 4 [some (.ref (c + 9)), some (.int (iI o)), some (.int (iI w)), some (.int (iI n))] [] hp Q := by
  intro f
  induction f with
  | zero =>
    intro w n t hp hf n0 n1 hK hB hX hF hJ hw ht
    refine go_a (pc' := 5) (ls' := [some (.ref (c + 9)), some (.int (iI o)), some (.int (iI w)), some (.int (iI n))]) (st' := [.int (iI n)]) rfl rfl ?_
    refine go_a (pc' := 7) (ls' := [some (.ref (c + 9)), some (.int (iI o)), some (.int (iI w)), some (.int (iI n))]) (st' := [.int (iI 40), .int (iI n)]) rfl rfl ?_
    refine mi_ge (t := 61) rfl rfl (by omega) (by omega) (by omega) (by omega) (fun _ => K w n t hp hK hB hX hF hJ hw ht) (fun q => absurd (show n ≥ 40 by omega) q)
  | succ f ih =>
    intro w n t hp hf n0 n1 hK hB hX hF hJ hw ht
    refine go_a (pc' := 5) (ls' := [some (.ref (c + 9)), some (.int (iI o)), some (.int (iI w)), some (.int (iI n))]) (st' := [.int (iI n)]) rfl rfl ?_
    refine go_a (pc' := 7) (ls' := [some (.ref (c + 9)), some (.int (iI o)), some (.int (iI w)), some (.int (iI n))]) (st' := [.int (iI 40), .int (iI n)]) rfl rfl ?_
    refine mi_ge (t := 61) rfl rfl (by omega) (by omega) (by omega) (by omega) (fun _ => K w n t hp hK hB hX hF hJ hw ht) (fun _ => ?_)
    have b := hB.2.2.2.1 1 (by decide)
    have b2 := hB.2.2.2.1 2 (by decide)
    have rb := RJ_b hJ (by decide) (by have := WD_1c hJ.1 hw; omega) hu
    have bc := hB.2.2.2.2.2.1
    refine go_a (pc' := 11) (ls' := [some (.ref (c + 9)), some (.int (iI o)), some (.int (iI w)), some (.int (iI n))]) (st' := [.ref (c + 9)]) rfl rfl ?_
    refine go_get (v := .ref (c + 10)) rfl (hK.1 5 (by decide)) rfl rfl ?_
    refine go_v (m := 44) (as := [.ref (c + 10)]) (r := []) rfl rfl rfl (hK.1 6 (by decide)) rfl rfl (kr_last_1 z (d + 2) c hp t hK hB) (fun v h1 hq => ?_)
    obtain ⟨hq, e⟩ := hq
    rw [e]
    clear e h1
    have hq : v = some (.int (iI (tps t))) := by
      unfold tps
      rcases hq with ⟨q1, q2⟩ | ⟨q1, q2⟩
      · rw [if_pos q1]
        exact q2
      · rw [if_neg (by omega)]
        exact q2
    subst hq
    have rt : -2147483648 ≤ tps t ∧ tps t < 2147483648 := by
      unfold tps
      have := hB.1 1 (t.I 1 - 1)
      split <;> omega
    show xx_go (xt_P z) (d + 3) 196 17 [some (.ref (c + 9)), some (.int (iI o)), some (.int (iI w)), some (.int (iI n))] [.int (iI (tps t))] hp _
    refine go_a (pc' := 18) (ls' := [some (.ref (c + 9)), some (.int (iI o)), some (.int (iI w)), some (.int (iI n))]) (st' := [.int (iI 2), .int (iI (tps t))]) rfl rfl ?_
    refine mi_ne (t := 61) rfl rfl (by omega) (by omega) (by omega) (by omega) (fun _ => K w n t hp hK hB hX hF hJ hw ht) (fun q => ?_)
    have q2 : tps t = 2 := by omega
    have pos : 0 < t.I 1 := by
      by_cases w : 0 < t.I 1
      · exact w
      · unfold tps at q2
        rw [if_neg w] at q2
        exact absurd q2 (by decide)
    have tp := tps_pos pos
    rw [tp] at q2
    refine go_a (pc' := 22) (ls' := [some (.ref (c + 9)), some (.int (iI o)), some (.int (iI w)), some (.int (iI n))]) (st' := [.ref (c + 9)]) rfl rfl ?_
    refine go_get (v := .ref (c + 10)) rfl (hK.1 5 (by decide)) rfl rfl ?_
    refine go_v (m := 192) (as := [.ref (c + 10)]) (r := []) rfl rfl rfl (hK.1 6 (by decide)) rfl rfl (kr_takeLast_1 z (d + 2) c hp t hK hB) (fun v h1 hq => ?_)
    have hq := hq.elim (fun q => absurd q.1 (by omega)) id
    obtain ⟨-, rfl, K1, B1, X1⟩ := hq
    show xx_go (xt_P z) (d + 3) 196 28 [some (.ref (c + 9)), some (.int (iI o)), some (.int (iI w)), some (.int (iI n))] [.int (iI (t.A 1 (t.I 1 - 1)))] h1 _
    refine go_a (pc' := 29) (ls' := [some (.ref (c + 9)), some (.int (iI o)), some (.int (iI w)), some (.int (iI n))]) (st' := []) rfl rfl ?_
    refine go_a (pc' := 30) (ls' := [some (.ref (c + 9)), some (.int (iI o)), some (.int (iI w)), some (.int (iI n))]) (st' := [.ref (c + 9)]) rfl rfl ?_
    refine go_get (v := .ref (c + 12)) rfl (K1.1 5 (by decide)) rfl rfl ?_
    refine go_v (m := 192) (as := [.ref (c + 12)]) (r := []) rfl rfl rfl (K1.1 7 (by decide)) rfl rfl (kr_takeLast_2 z (d + 2) c h1 (t.wI 1 (t.I 1 - 1)) K1 B1) (fun v h2 hq => ?_)
    have hq : ∃ (y j : Int), v = some (.int (iI y)) ∧ (0 ≤ j ∧ j ≤ t.I 2 ∧ j ≤ t.I 1 - 1) ∧ KI c h2 ((t.wI 1 (t.I 1 - 1)).wI 2 j) ∧ KB ((t.wI 1 (t.I 1 - 1)).wI 2 j) ∧ kx c h1 (t.wI 1 (t.I 1 - 1)) h2 ((t.wI 1 (t.I 1 - 1)).wI 2 j) 0 0 := by
      have b1 := hJ.2.1.1
      rcases hq with ⟨q3, e3, e4⟩ | ⟨q3, e3, k3, k4, k5⟩
      · have q3 : t.I 2 = 0 := q3
        refine ⟨0, 0, e3, ⟨by decide, by omega, by omega⟩, ?_⟩
        rw [wI_eta (show (t.wI 1 (t.I 1 - 1)).I 2 = 0 from q3), e4]
        exact ⟨K1, B1, kx_rf⟩
      · have q3 : 0 < t.I 2 := q3
        exact ⟨_, t.I 2 - 1, e3, ⟨by omega, by omega, by omega⟩, k3, k4, k5⟩
    obtain ⟨y, j, rfl, hj, K2, B2, X2⟩ := hq
    have J2 := RJ_pop hJ pos hj.1 hj.2.1 hj.2.2
    have tp2 := tps_pop (j := j) hJ pos
    rw [q2] at J2
    have F2 : RFF s0 ((t.wI 1 (t.I 1 - 1)).wI 2 j) := RFF_tr hF (RFF_tr (RFF_wI (by decide)) (RFF_wI (by decide)))
    obtain ⟨t2, ht2⟩ : ∃ t2 : KS, t2 = (t.wI 1 (t.I 1 - 1)).wI 2 j := ⟨_, rfl⟩
    have sdt : SD t2 = SD t := by rw [ht2]; rfl
    have i8 : t2.I 8 = t.I 8 := by rw [ht2]; rfl
    rw [← ht2] at K2 B2 X2 J2 tp2 F2
    have hX2 := kx_tr (kx_tr hX X1) X2
    have w2 : OB t2 w := ⟨hw.1, by rw [i8]; exact hw.2⟩
    have ww := OB_R B2 w2
    show xx_go (xt_P z) (d + 3) 196 36 [some (.ref (c + 9)), some (.int (iI o)), some (.int (iI w)), some (.int (iI n))] [.int (iI y)] h2 _
    refine go_a (pc' := 37) (ls' := [some (.ref (c + 9)), some (.int (iI o)), some (.int (iI w)), some (.int (iI n))]) (st' := []) rfl rfl ?_
    refine go_a (pc' := 38) (ls' := [some (.ref (c + 9)), some (.int (iI o)), some (.int (iI w)), some (.int (iI n))]) (st' := [.ref (c + 9)]) rfl rfl ?_
    refine go_get (v := .ref (c + 4)) rfl (K2.1 5 (by decide)) rfl rfl ?_
    refine go_a (pc' := 42) (ls' := [some (.ref (c + 9)), some (.int (iI o)), some (.int (iI w)), some (.int (iI n))]) (st' := [.int (iI 2), .ref (c + 4)]) rfl rfl ?_
    refine go_a (pc' := 43) (ls' := [some (.ref (c + 9)), some (.int (iI o)), some (.int (iI w)), some (.int (iI n))]) (st' := [.ref (c + 9), .int (iI 2), .ref (c + 4)]) rfl rfl ?_
    refine go_get (v := .ref (c + 4)) rfl (K2.1 5 (by decide)) rfl rfl ?_
    refine go_a (pc' := 47) (ls' := [some (.ref (c + 9)), some (.int (iI o)), some (.int (iI w)), some (.int (iI n))]) (st' := [.int (iI w), .ref (c + 4), .int (iI 2), .ref (c + 4)]) rfl rfl ?_
    refine go_a (pc' := 48) (ls' := [some (.ref (c + 9)), some (.int (iI o)), some (.int (iI w)), some (.int (iI n))]) (st' := [.int (iI 0), .int (iI w), .ref (c + 4), .int (iI 2), .ref (c + 4)]) rfl rfl ?_
    refine go_v (m := 194) (as := [.ref (c + 4), .int (iI w), .int (iI 0)]) (r := [.int (iI 2), .ref (c + 4)]) rfl rfl rfl (K2.1 3 (by decide)) rfl rfl (kc_pair z d c w 0 h2 t2 K2 B2 J2.1 (by omega) w2.1 w2.2 (by decide) (by omega)) (fun v h3 hq => ?_)
    obtain ⟨k1, t3, rfl, K3, B3, C3, X3, G3, O3, N3⟩ := hq
    have g3 := G3.2.1
    have g3b := G3.2.2.1
    show xx_go (xt_P z) (d + 3) 196 51 [some (.ref (c + 9)), some (.int (iI o)), some (.int (iI w)), some (.int (iI n))] [.int (iI k1), .int (iI 2), .ref (c + 4)] h3 _
    refine go_v (m := 194) (as := [.ref (c + 4), .int (iI 2), .int (iI k1)]) (r := []) rfl rfl rfl (K3.1 3 (by decide)) rfl rfl (kc_pair z d c 2 k1 h3 t3 K3 B3 C3 (by omega) (by decide) (by omega) O3.1 O3.2) (fun v h4 hq => ?_)
    obtain ⟨k2, t4, rfl, K4, B4, C4, X4, G4, O4, N4⟩ := hq
    have g4 := G4.2.1
    have g4b := G4.2.2.1
    show xx_go (xt_P z) (d + 3) 196 54 [some (.ref (c + 9)), some (.int (iI o)), some (.int (iI w)), some (.int (iI n))] [.int (iI k2)] h4 _
    refine go_a (pc' := 55) (ls' := [some (.ref (c + 9)), some (.int (iI o)), some (.int (iI k2)), some (.int (iI n))]) (st' := []) rfl rfl ?_
    refine go_a (pc' := 58) (ls' := [some (.ref (c + 9)), some (.int (iI o)), some (.int (iI k2)), some (.int (iI (n + 1)))]) (st' := []) rfl (by rw [← iI_add n 1]; rfl) ?_
    refine go_a (pc' := 4) (ls' := [some (.ref (c + 9)), some (.int (iI o)), some (.int (iI k2)), some (.int (iI (n + 1)))]) (st' := []) rfl rfl ?_
    have wq := WD_quote J2.1 C4 w2 G3 G4 O3 N3 O4 N4 (by omega)
    rw [sdt] at wq
    refine ih k2 (n + 1) t4 h4 (by omega) (by omega) (by omega) K4 B4 (kx_tr (kx_tr hX2 X3) X4) (RFF_tr (RFF_tr F2 (RFF_gr G3)) (RFF_gr G4)) ?_ O4 (by rw [tps_gr G4, tps_gr G3]; exact tp2)
    refine RJ_w (RJ_store (RJ_store J2 G3 C3) G4 C4) ?_ (show (1 : Int) ≤ 1 + 2 - 1 - 1 by decide)
    show WD (SD t4) k2 ≤ WD (SD t) w + 1
    omega
