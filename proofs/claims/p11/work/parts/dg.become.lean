def KGO (s t : KS) : Prop := s.I 8 ≤ t.I 8 ∧ ∀ e : Int, e < s.I 8 → t.N e = s.N e ∧ t.A 9 e = s.A 9 e
def FLD (s t : KS) : Prop := t.I 9 = s.I 9 ∧ t.I 10 = s.I 10 ∧ t.I 12 = s.I 12 ∧ t.I 13 = s.I 13
def RFF (s t : KS) : Prop := KGO s t ∧ FLD s t ∧ RDF s t
section RFS
variable {s t t2 : KS}
theorem RFF_rf : RFF s s := ⟨⟨Int.le_refl _, fun _ _ => ⟨rfl, rfl⟩⟩, ⟨rfl, rfl, rfl, rfl⟩, RDF_rf⟩
theorem RFF_tr (a : RFF s t) (b : RFF t t2) : RFF s t2 := by
  obtain ⟨⟨a1, a2⟩, ⟨a3, a4, a5, a6⟩, a7⟩ := a
  obtain ⟨⟨b1, b2⟩, ⟨b3, b4, b5, b6⟩, b7⟩ := b
  refine ⟨⟨by omega, fun e q => ?_⟩, ⟨by omega, by omega, by omega, by omega⟩, RDF_tr a7 b7⟩
  have u := a2 e q
  have w := b2 e (by omega)
  exact ⟨w.1.trans u.1, w.2.trans u.2⟩
theorem RFF_SA (a : KSA s t) (f : FLD s t) (r : RDF s t) : RFF s t := ⟨⟨by rw [a.2.2]; exact Int.le_refl _, fun e _ => by rw [a.1, a.2.1]; exact ⟨rfl, rfl⟩⟩, f, r⟩
theorem RFF_row {j : Nat} {x : Int} (h : KRW j s t) (hj : j = 1 ∨ j = 2 ∨ j = 3) (e : t.I = su s.I j x) : RFF s t := RFF_SA (KRW_SA h (by omega) (by rw [e]; exact su_ne (by omega))) ⟨by rw [e]; exact su_ne (by omega), by rw [e]; exact su_ne (by omega), by rw [e]; exact su_ne (by omega), by rw [e]; exact su_ne (by omega)⟩ (RDF_row h hj e)
theorem RFF_gr {n : Int} (h : KGR s t n) : RFF s t := ⟨⟨h.2.1, h.2.2.2⟩, ⟨h.1.2.2.2 9 (by decide), h.1.2.2.2 10 (by decide), h.1.2.2.2 12 (by decide), h.1.2.2.2 13 (by decide)⟩, RDF_gr h⟩
theorem RFF_wI {j : Nat} {x : Int} (hj : j = 1 ∨ j = 2 ∨ j = 3) : RFF s (s.wI j x) := RFF_SA ⟨rfl, rfl, su_ne (by omega)⟩ ⟨su_ne (by omega), su_ne (by omega), su_ne (by omega), su_ne (by omega)⟩ (RDF_wI (by omega))
theorem SD_go (a : KGO s t) {k : Int} (h : k < s.I 8) : SD t 1 k = SD s 1 k ∧ SD t 2 k = SD s 2 k := by
  have e := (a.2 k h).1
  unfold SD
  rw [e]
  exact ⟨rfl, rfl⟩
theorem WD_go (a : KGO s t) (hC : CI s) {k : Int} (h : OB s k) : WD (SD t) k = WD (SD s) k ∧ VD (SD t) k = VD (SD s) k := WD_ext (I := UI s) hC.1 (fun j p q => SD_go a q) k h.1 h.2
theorem OB_go (a : KGO s t) {k : Int} (h : OB s k) : OB t k := ⟨h.1, Int.lt_of_lt_of_le h.2 a.1⟩
theorem WD_1c (hC : CI s) {k : Int} (h : OB s k) : 1 ≤ WD (SD s) k := WD_1 (I := UI s) hC.1 h.1 h.2
theorem CI_n2 (hC : CI s) : SD s 1 2 < 0 := by
  have q := hC.2.2 2 (by decide) (by decide)
  exact (SD_at (by omega)).1
theorem SG_go (a : KGO s t) (hC : CI s) {f g : Int → Int} (n : Nat) (h : ∀ e : Nat, e < n → OB s (f e) ∧ g e = f e) : SG (WD (SD t)) g n = SG (WD (SD s)) f n := SG_congr n (fun e q => by rw [(h e q).2, (WD_go a hC (h e q).1).1])
theorem tps_pos (h : 0 < s.I 1) : tps s = s.A 1 (s.I 1 - 1) := if_pos h
theorem ow_R (x : Int) : 0 ≤ ow x ∧ ow x ≤ 2 := by
  unfold ow
  split
  · decide
  · split <;> decide
theorem oq_R (x : Int) : 0 ≤ oq x ∧ oq x ≤ 2 := by
  unfold oq
  split <;> decide
theorem RJ_items {u e g : Int} (h : RJ u e g s) : s.I 3 ≤ SG (WD (SD s)) (s.A 3) (s.I 3).toNat := by
  have a := h.2.1.2.1
  have q := SG_cnt (g := WD (SD s)) (f := s.A 3) (s.I 3).toNat (fun e he => WD_1c h.1 (h.2.2.1 e (by omega) (by omega)))
  omega
theorem RJ_b {u e g : Int} (h : RJ u e g s) (g0 : 0 ≤ g) (e0 : 0 ≤ e) (hu : u ≤ 30000) : s.I 8 ≤ 32000 ∧ s.I 3 ≤ 1000 := by
  have a := h.2.1
  have i := RJ_items h
  have n1 := SG_nn (g := ow) (f := s.A 1) (s.I 1).toNat (fun e _ => (ow_R _).1)
  have n2 := SG_nn (g := oq) (f := s.A 1) (s.I 1).toNat (fun e _ => (oq_R _).1)
  have b := h.2.2.2.2.2.2
  omega
end RFS
theorem kd_become (z : Value) (d c : Nat) (x : Int) (hp : xx_H) (s : KS) (hK : KI c hp s) (hB : KB s) (lt : s.I 1 ≤ 41) (x0 : 0 ≤ x) (x1 : x ≤ 6) : xx_cl (xt_P z) (d + 3) 191 [.ref (c + 9), .int (iI x)] hp (fun v h1 => v = none ∧ ∃ s1 : KS, KI c h1 s1 ∧ KB s1 ∧ kx c hp s h1 s1 0 0 ∧ KRW 1 s s1 ∧ s1.I = su s.I 1 (if 0 < s.I 1 then s.I 1 else 1) ∧ s1.A 1 ((if 0 < s.I 1 then s.I 1 else 1) - 1) = x ∧ ∀ e : Int, e < (if 0 < s.I 1 then s.I 1 else 1) - 1 → s1.A 1 e = s.A 1 e) := by
  have b := hB.2.2.2.1 1 (by decide)
  refine cl_go rfl ?_
  show xx_go (xt_P z) (d + 2) 191 0 [some (.ref (c + 9)), some (.int (iI x))] [] hp _
  refine go_a (pc' := 1) (ls' := [some (.ref (c + 9)), some (.int (iI x))]) (st' := [.ref (c + 9)]) rfl rfl ?_
  refine go_get (v := .ref (c + 10)) rfl (hK.1 5 (by decide)) rfl rfl ?_
  refine go_v (m := 192) (as := [.ref (c + 10)]) (r := []) rfl rfl rfl (hK.1 6 (by decide)) rfl rfl (kr_takeLast_1 z (d + 1) c hp s hK hB) (fun v h1 hq => ?_)
  rcases hq with ⟨q1, rfl, e⟩ | ⟨q1, rfl, K1, B1, X1⟩
  · rw [e]
    clear e h1
    show xx_go (xt_P z) (d + 2) 191 7 [some (.ref (c + 9)), some (.int (iI x))] [.int (iI 0)] hp _
    refine go_a (pc' := 8) (ls' := [some (.ref (c + 9)), some (.int (iI x))]) (st' := []) rfl rfl ?_
    refine go_a (pc' := 9) (ls' := [some (.ref (c + 9)), some (.int (iI x))]) (st' := [.ref (c + 9)]) rfl rfl ?_
    refine go_get (v := .ref (c + 10)) rfl (hK.1 5 (by decide)) rfl rfl ?_
    refine go_a (pc' := 13) (ls' := [some (.ref (c + 9)), some (.int (iI x))]) (st' := [.int (iI x), .ref (c + 10)]) rfl rfl ?_
    refine go_v (m := 35) (as := [.ref (c + 10), .int (iI x)]) (r := []) rfl rfl rfl (hK.1 6 (by decide)) rfl rfl (kr_add_1 z d c x hp s hK hB (by omega) (by omega) (by omega)) (fun v h1 hq => ?_)
    obtain ⟨rfl, t, K2, B2, X2, W, Ie, Ce, Xe, Oe⟩ := hq
    show xx_go (xt_P z) (d + 2) 191 16 [some (.ref (c + 9)), some (.int (iI x))] [] h1 _
    rw [if_neg (show ¬ 0 < s.I 1 by omega)]
    exact go_r rfl rfl rfl rfl rfl rfl ⟨rfl, t, K2, B2, X2, W, by rw [Ie, q1]; rfl, by rw [← Xe, q1]; rfl, fun e q => Oe e (by omega)⟩
  · show xx_go (xt_P z) (d + 2) 191 7 [some (.ref (c + 9)), some (.int (iI x))] [.int (iI (s.A 1 (s.I 1 - 1)))] h1 _
    refine go_a (pc' := 8) (ls' := [some (.ref (c + 9)), some (.int (iI x))]) (st' := []) rfl rfl ?_
    refine go_a (pc' := 9) (ls' := [some (.ref (c + 9)), some (.int (iI x))]) (st' := [.ref (c + 9)]) rfl rfl ?_
    refine go_get (v := .ref (c + 10)) rfl (K1.1 5 (by decide)) rfl rfl ?_
    refine go_a (pc' := 13) (ls' := [some (.ref (c + 9)), some (.int (iI x))]) (st' := [.int (iI x), .ref (c + 10)]) rfl rfl ?_
    refine go_v (m := 35) (as := [.ref (c + 10), .int (iI x)]) (r := []) rfl rfl rfl (K1.1 6 (by decide)) rfl rfl (kr_add_1 z d c x h1 (s.wI 1 (s.I 1 - 1)) K1 B1 (show s.I 1 - 1 < 4096 by omega) (by omega) (by omega)) (fun v h2 hq => ?_)
    obtain ⟨rfl, t, K2, B2, X2, W, Ie, Ce, Xe, Oe⟩ := hq
    show xx_go (xt_P z) (d + 2) 191 16 [some (.ref (c + 9)), some (.int (iI x))] [] h2 _
    rw [if_pos q1]
    exact go_r rfl rfl rfl rfl rfl rfl ⟨rfl, t, K2, B2, kx_tr X1 X2, W, by rw [Ie]; show su (su s.I 1 (s.I 1 - 1)) 1 (s.I 1 - 1 + 1) = su s.I 1 (s.I 1); rw [su_su, show s.I 1 - 1 + 1 = s.I 1 by omega], Xe, Oe⟩
