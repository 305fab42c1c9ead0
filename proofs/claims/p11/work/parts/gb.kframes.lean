def RIt (s : KS) : List ob_T → Int → Prop
  | [], _ => True
  | x :: l, e => 1 ≤ e ∧ DK s.N (s.A 3 (e - 1)) = x ∧ RIt s l (e - 1)
def RRc (s : KS) : sp_F → Int → Int → Prop
  | [], i, e => i = 0 ∧ e = 0
  | (k, l) :: r, i, e => 1 ≤ i ∧ s.A 1 (i - 1) = k ∧ s.A 2 (i - 1) = e - l.length ∧ (0 ≤ e - l.length ∧ RIt s l e) ∧ RRc s r (i - 1) (e - l.length)
def sp_nm : List Int := [31361, 20, 85168940]
def KNM (s : KS) : Prop := s.N 0 = 4611686018427387904 + 31361 ∧ s.N 2 = 4611686018427387904 + 85168940
section RRS
variable {s s1 : KS}
theorem KNM_nil (h : KNM s) : DK s.N 0 = sp_nil := by
  have h1 := h.1
  rw [DK_s (by omega), h1]
  rfl
theorem KNM_q (h : KNM s) : DK s.N 2 = .var 85168940 := by
  have h1 := h.2
  rw [DK_s (by omega), h1]
  rfl
theorem KNM_e (h : KNM s) (e : ∀ e : Int, e < s.I 8 → s1.N e = s.N e) (i8 : 38 ≤ s.I 8) : KNM s1 := ⟨by rw [e 0 (by omega)]; exact h.1, by rw [e 2 (by omega)]; exact h.2⟩
theorem RIt_ext : ∀ (l : List ob_T) (e : Int), (∀ k : Int, 0 ≤ k → k < e → s1.A 3 k = s.A 3 k ∧ DK s1.N (s.A 3 k) = DK s.N (s.A 3 k)) → RIt s l e → RIt s1 l e
  | [], _, _, _ => trivial
  | x :: l, e, h, hr => by
    obtain ⟨h1, h2, h3⟩ := hr
    have q := h (e - 1) (by omega) (by omega)
    exact ⟨h1, by rw [q.1, q.2]; exact h2, RIt_ext l (e - 1) (fun k k0 k1 => h k k0 (by omega)) h3⟩
theorem RRc_ext : ∀ (F : sp_F) (i e : Int), (∀ k : Int, 0 ≤ k → k < i → s1.A 1 k = s.A 1 k ∧ s1.A 2 k = s.A 2 k) → (∀ k : Int, 0 ≤ k → k < e → s1.A 3 k = s.A 3 k ∧ DK s1.N (s.A 3 k) = DK s.N (s.A 3 k)) → RRc s F i e → RRc s1 F i e
  | [], _, _, _, _, h => h
  | (k, l) :: r, i, e, h1, h2, h => by
    obtain ⟨a1, a2, a3, ⟨a4, a5⟩, a6⟩ := h
    have q := h1 (i - 1) (by omega) (by omega)
    exact ⟨a1, by rw [q.1]; exact a2, by rw [q.2]; exact a3, ⟨a4, RIt_ext l e h2 a5⟩, RRc_ext r (i - 1) (e - l.length) (fun k k0 k1 => h1 k k0 (by omega)) (fun k k0 k1 => h2 k k0 (by omega)) a6⟩
theorem RRc_len : ∀ (F : sp_F) (i e : Int), RRc s F i e → (F.length : Int) = i
  | [], i, e, h => by
    have := h.1
    show ((0 : Nat) : Int) = i
    omega
  | (k, l) :: r, i, e, h => by
    have q := RRc_len r (i - 1) (e - l.length) h.2.2.2.2
    show ((r.length + 1 : Nat) : Int) = i
    omega
theorem RRc_top (F : sp_F) {i e : Int} (h : RRc s F i e) (i1 : i = s.I 1) : tps s = sp_top F := by
  match F, h with
  | [], h =>
    have := h.1
    show (if 0 < s.I 1 then s.A 1 (s.I 1 - 1) else 0) = 0
    rw [if_neg (by omega)]
  | (k, l) :: r, h =>
    have a1 := h.1
    have a2 := h.2.1
    show (if 0 < s.I 1 then s.A 1 (s.I 1 - 1) else 0) = k
    rw [if_pos (by omega), ← i1]
    exact a2
end RRS
section KXE
variable {s s1 : KS} {n : Int}
theorem KX_row {j : Nat} {x : Int} (h : KX s) (W : KRW j s s1) (hj : j < 8) (e : s1.I = su s.I j x) : KX s1 := KX_e h (by rw [e]; exact su_ne (by omega)) W.1 (W.2.2.1 9 (by omega)).1 (W.2.2.1 10 (by omega)).1 (W.2.2.1 11 (by omega)).1
theorem KX_wI {j : Nat} {x : Int} (h : KX s) (hj : j ≠ 8) : KX (s.wI j x) := KX_e h (su_ne (fun q => hj q.symm)) rfl rfl rfl rfl
theorem DK_gr (hB : KB s) (h : KX s) (G : KGR s s1 n) {k : Int} (k0 : 0 ≤ k) (k1 : k < s.I 8) : DK s1.N k = DK s.N k := DK_e hB h (fun e q => (G.2.2.2 e q).1) k0 k1
theorem KNM_gr (hB : KB s) (h : KNM s) (G : KGR s s1 n) : KNM s1 := KNM_e h (fun e q => (G.2.2.2 e q).1) hB.2.2.2.2.2.1.2.2.2.2.1
theorem RRc_gr {F : sp_F} (hB : KB s) (h : KX s) (G : KGR s s1 n) (ob : ∀ k : Int, 0 ≤ k → k < s.I 3 → OB s (s.A 3 k)) (r : RRc s F (s.I 1) (s.I 3)) : RRc s1 F (s1.I 1) (s1.I 3) := by
  have a1 : s1.A 1 = s.A 1 := G.1.2.1 1 (by decide) (by decide) (by decide)
  have a2 : s1.A 2 = s.A 2 := G.1.2.1 2 (by decide) (by decide) (by decide)
  have a3 : s1.A 3 = s.A 3 := G.1.2.1 3 (by decide) (by decide) (by decide)
  rw [G.1.2.2.2 1 (by decide), G.1.2.2.2 3 (by decide)]
  refine RRc_ext F _ _ (fun k _ _ => ⟨by rw [a1], by rw [a2]⟩) (fun k k0 k1 => ⟨by rw [a3], ?_⟩) r
  have q := ob k k0 k1
  exact DK_gr hB h G q.1 q.2
end KXE
set_option maxRecDepth 4000 in
theorem kz_addq (z : Value) (d c : Nat) (o u : Int) (hp0 : xx_H) (s0 : KS) (hu : u ≤ 30000) (G : sp_F) (Q : Option Value → xx_H → Prop) (K : ∀ (w n : Int) (t : KS) (hp : xx_H) (F : sp_F), KI c hp t → KB t → kx c hp0 s0 hp t 0 0 → RFF s0 t → RJ u (WD (SD t) w) 1 t → OB t w → (tps t ≠ 1 ∧ tps t ≠ 6) → (KX t ∧ KNM t ∧ (KHT s0 → KHT t) ∧ t.I 2 = t.I 1 ∧ RRc t F (t.I 1) (t.I 3) ∧ WFr F ∧ F ≠ [] ∧ sp_add F (DK t.N w) = G) → tps t ≠ 2 → xx_go (xt_P z) (d + 3) 196 61 [some (.ref (c + 9)), some (.int (iI o)), some (.int (iI w)), some (.int (iI n))] [] hp Q) : ∀ (f : Nat) (w n : Int) (t : KS) (hp : xx_H) (F : sp_F), (40 - n).toNat ≤ f → 0 ≤ n → n ≤ 40 → t.I 1 + n ≤ 41 → KI c hp t → KB t → kx c hp0 s0 hp t 0 0 → RFF s0 t → RJ u (WD (SD t) w) 1 t → OB t w → (tps t ≠ 1 ∧ tps t ≠ 6) → (KX t ∧ KNM t ∧ (KHT s0 → KHT t) ∧ t.I 2 = t.I 1 ∧ RRc t F (t.I 1) (t.I 3) ∧ WFr F ∧ F ≠ [] ∧ sp_add F (DK t.N w) = G) → xx_go (xt_P z) (d + 3) 196 4 [some (.ref (c + 9)), some (.int (iI o)), some (.int (iI w)), some (.int (iI n))] [] hp Q := by
  intro f
  induction f with
  | zero =>
    intro w n t hp F hf n0 n1 n2 hK hB hX hF hJ hw ht hE
    have t2n : n = 40 → tps t ≠ 2 := fun q => by
      obtain ⟨-, -, -, -, rr, wf, -⟩ := hE
      have tt := RRc_top F rr rfl
      have ll := RRc_len F _ _ rr
      rw [tt]
      match F, wf, ll with
      | [], _, _ => exact (by decide : (0 : Int) ≠ 2)
      | [(k9, l9)], wf, _ =>
        have := wf.1.2.2.2.2.2.1 rfl
        show k9 ≠ 2
        omega
      | _ :: _ :: r, _, ll =>
        have ll : ((r.length + 1 + 1 : Nat) : Int) = t.I 1 := ll
        omega
    refine go_a (pc' := 5) (ls' := [some (.ref (c + 9)), some (.int (iI o)), some (.int (iI w)), some (.int (iI n))]) (st' := [.int (iI n)]) rfl rfl ?_
    refine go_a (pc' := 7) (ls' := [some (.ref (c + 9)), some (.int (iI o)), some (.int (iI w)), some (.int (iI n))]) (st' := [.int (iI 40), .int (iI n)]) rfl rfl ?_
    refine mi_ge (t := 61) rfl rfl (by omega) (by omega) (by omega) (by omega) (fun _ => K w n t hp F hK hB hX hF hJ hw ht hE (t2n (by omega))) (fun q => absurd (show n ≥ 40 by omega) q)
  | succ f ih =>
    intro w n t hp F hf n0 n1 n2 hK hB hX hF hJ hw ht hE
    have t2n : n = 40 → tps t ≠ 2 := fun q => by
      obtain ⟨-, -, -, -, rr, wf, -⟩ := hE
      have tt := RRc_top F rr rfl
      have ll := RRc_len F _ _ rr
      rw [tt]
      match F, wf, ll with
      | [], _, _ => exact (by decide : (0 : Int) ≠ 2)
      | [(k9, l9)], wf, _ =>
        have := wf.1.2.2.2.2.2.1 rfl
        show k9 ≠ 2
        omega
      | _ :: _ :: r, _, ll =>
        have ll : ((r.length + 1 + 1 : Nat) : Int) = t.I 1 := ll
        omega
    refine go_a (pc' := 5) (ls' := [some (.ref (c + 9)), some (.int (iI o)), some (.int (iI w)), some (.int (iI n))]) (st' := [.int (iI n)]) rfl rfl ?_
    refine go_a (pc' := 7) (ls' := [some (.ref (c + 9)), some (.int (iI o)), some (.int (iI w)), some (.int (iI n))]) (st' := [.int (iI 40), .int (iI n)]) rfl rfl ?_
    refine mi_ge (t := 61) rfl rfl (by omega) (by omega) (by omega) (by omega) (fun _ => K w n t hp F hK hB hX hF hJ hw ht hE (t2n (by omega))) (fun _ => ?_)
    have b := hB.2.2.2.1 1 (by decide)
    have b2 := hB.2.2.2.1 2 (by decide)
    have rb := RJ_b hJ (by decide) (by have := WD_1c hJ.1 hw; omega) hu
    have bc := hB.2.2.2.2.2.1
    refine go_a (pc' := 11) (ls' := [some (.ref (c + 9)), some (.int (iI o)), some (.int (iI w)), some (.int (iI n))]) (st' := [.ref (c + 9)]) rfl rfl ?_
    refine go_get (v := .ref (c + 10)) rfl (hK.1 5 (by decide)) rfl rfl ?_
    refine go_v (m := 44) (as := [.ref (c + 10)]) (r := []) rfl rfl rfl (hK.1 6 (by decide)) rfl rfl (kr_last_1 z (d + 2) c hp t hK hB) (fun v h1 hq => ?_)
    obtain ⟨hq, e⟩ := hq
    rw [e]
    clear e h1
    have hq : v = some (.int (iI (tps t))) := by
      unfold tps
      rcases hq with ⟨q1, q2⟩ | ⟨q1, q2⟩
      · rw [if_pos q1]
        exact q2
      · rw [if_neg (by omega)]
        exact q2
    subst hq
    have rt : -2147483648 ≤ tps t ∧ tps t < 2147483648 := by
      unfold tps
      have := hB.1 1 (t.I 1 - 1)
      split <;> omega
    show xx_go (xt_P z) (d + 3) 196 17 [some (.ref (c + 9)), some (.int (iI o)), some (.int (iI w)), some (.int (iI n))] [.int (iI (tps t))] hp _
    refine go_a (pc' := 18) (ls' := [some (.ref (c + 9)), some (.int (iI o)), some (.int (iI w)), some (.int (iI n))]) (st' := [.int (iI 2), .int (iI (tps t))]) rfl rfl ?_
    refine mi_ne (t := 61) rfl rfl (by omega) (by omega) (by omega) (by omega) (fun q => K w n t hp F hK hB hX hF hJ hw ht hE (by omega)) (fun q => ?_)
    have q2 : tps t = 2 := by omega
    have pos : 0 < t.I 1 := by
      by_cases w : 0 < t.I 1
      · exact w
      · unfold tps at q2
        rw [if_neg w] at q2
        exact absurd q2 (by decide)
    obtain ⟨eX, eM, eH, e21, rr, wf, -, eG⟩ := hE
    have tt := RRc_top F rr rfl
    rw [q2] at tt
    obtain ⟨r, rfl⟩ : ∃ r : sp_F, F = (2, []) :: r := by
      match F, tt, wf with
      | [], tt, _ => exact absurd (show (2 : Int) = 0 from tt) (by decide)
      | (k9, l9) :: r, tt, wf =>
        have tt : (2 : Int) = k9 := tt
        have := wf.1.1 tt.symm
        exact ⟨r, by rw [this, ← tt]⟩
    have tp := tps_pos pos
    rw [tp] at q2
    refine go_a (pc' := 22) (ls' := [some (.ref (c + 9)), some (.int (iI o)), some (.int (iI w)), some (.int (iI n))]) (st' := [.ref (c + 9)]) rfl rfl ?_
    refine go_get (v := .ref (c + 10)) rfl (hK.1 5 (by decide)) rfl rfl ?_
    refine go_v (m := 192) (as := [.ref (c + 10)]) (r := []) rfl rfl rfl (hK.1 6 (by decide)) rfl rfl (kr_takeLast_1 z (d + 2) c hp t hK hB) (fun v h1 hq => ?_)
    have hq := hq.elim (fun q => absurd q.1 (by omega)) id
    obtain ⟨-, rfl, K1, B1, X1⟩ := hq
    show xx_go (xt_P z) (d + 3) 196 28 [some (.ref (c + 9)), some (.int (iI o)), some (.int (iI w)), some (.int (iI n))] [.int (iI (t.A 1 (t.I 1 - 1)))] h1 _
    refine go_a (pc' := 29) (ls' := [some (.ref (c + 9)), some (.int (iI o)), some (.int (iI w)), some (.int (iI n))]) (st' := []) rfl rfl ?_
    refine go_a (pc' := 30) (ls' := [some (.ref (c + 9)), some (.int (iI o)), some (.int (iI w)), some (.int (iI n))]) (st' := [.ref (c + 9)]) rfl rfl ?_
    refine go_get (v := .ref (c + 12)) rfl (K1.1 5 (by decide)) rfl rfl ?_
    refine go_v (m := 192) (as := [.ref (c + 12)]) (r := []) rfl rfl rfl (K1.1 7 (by decide)) rfl rfl (kr_takeLast_2 z (d + 2) c h1 (t.wI 1 (t.I 1 - 1)) K1 B1) (fun v h2 hq => ?_)
    have hq := hq.elim (fun q => absurd (show t.I 2 = 0 from q.1) (by omega)) id
    obtain ⟨-, rfl, K2, B2, X2⟩ := hq
    have K2 : KI c h2 ((t.wI 1 (t.I 1 - 1)).wI 2 (t.I 2 - 1)) := K2
    have B2 : KB ((t.wI 1 (t.I 1 - 1)).wI 2 (t.I 2 - 1)) := B2
    have X2 : kx c h1 (t.wI 1 (t.I 1 - 1)) h2 ((t.wI 1 (t.I 1 - 1)).wI 2 (t.I 2 - 1)) 0 0 := X2
    have J2 := RJ_pop (j := t.I 2 - 1) hJ pos (by omega) (by omega) (by omega)
    have tp2 := tps_pop (j := t.I 2 - 1) hJ pos
    rw [q2] at J2
    have F2 : RFF s0 ((t.wI 1 (t.I 1 - 1)).wI 2 (t.I 2 - 1)) := RFF_tr hF (RFF_tr (RFF_wI (by decide)) (RFF_wI (by decide)))
    have r2 : RRc ((t.wI 1 (t.I 1 - 1)).wI 2 (t.I 2 - 1)) r (t.I 1 - 1) (t.I 3) := by
      have q9 := rr.2.2.2.2
      rw [show t.I 3 - ((([] : List ob_T).length : Nat) : Int) = t.I 3 by show t.I 3 - ((0 : Nat) : Int) = t.I 3; omega] at q9
      exact RRc_ext (s := t) r _ _ (fun _ _ _ => ⟨rfl, rfl⟩) (fun _ _ _ => ⟨rfl, rfl⟩) q9
    have x2 : KX ((t.wI 1 (t.I 1 - 1)).wI 2 (t.I 2 - 1)) := KX_wI (KX_wI eX (by decide)) (by decide)
    have m2 : KNM ((t.wI 1 (t.I 1 - 1)).wI 2 (t.I 2 - 1)) := eM
    have ht9 : KHT s0 → KHT ((t.wI 1 (t.I 1 - 1)).wI 2 (t.I 2 - 1)) := fun q => eH q
    obtain ⟨t2, ht2⟩ : ∃ t2 : KS, t2 = (t.wI 1 (t.I 1 - 1)).wI 2 (t.I 2 - 1) := ⟨_, rfl⟩
    have sdt : SD t2 = SD t := by rw [ht2]; rfl
    have i8 : t2.I 8 = t.I 8 := by rw [ht2]; rfl
    have i1 : t2.I 1 = t.I 1 - 1 := by rw [ht2]; rfl
    have i2 : t2.I 2 = t.I 2 - 1 := by rw [ht2]; rfl
    have i3 : t2.I 3 = t.I 3 := by rw [ht2]; rfl
    have nn : t2.N = t.N := by rw [ht2]; rfl
    rw [← ht2] at K2 B2 X2 J2 tp2 F2 r2 x2 m2 ht9
    have hX2 := kx_tr (kx_tr hX X1) X2
    have w2 : OB t2 w := ⟨hw.1, by rw [i8]; exact hw.2⟩
    have ww := OB_R B2 w2
    rw [← i1, ← i3] at r2
    show xx_go (xt_P z) (d + 3) 196 36 [some (.ref (c + 9)), some (.int (iI o)), some (.int (iI w)), some (.int (iI n))] [.int (iI (t.A 2 (t.I 2 - 1)))] h2 _
    refine go_a (pc' := 37) (ls' := [some (.ref (c + 9)), some (.int (iI o)), some (.int (iI w)), some (.int (iI n))]) (st' := []) rfl rfl ?_
    refine go_a (pc' := 38) (ls' := [some (.ref (c + 9)), some (.int (iI o)), some (.int (iI w)), some (.int (iI n))]) (st' := [.ref (c + 9)]) rfl rfl ?_
    refine go_get (v := .ref (c + 4)) rfl (K2.1 5 (by decide)) rfl rfl ?_
    refine go_a (pc' := 42) (ls' := [some (.ref (c + 9)), some (.int (iI o)), some (.int (iI w)), some (.int (iI n))]) (st' := [.int (iI 2), .ref (c + 4)]) rfl rfl ?_
    refine go_a (pc' := 43) (ls' := [some (.ref (c + 9)), some (.int (iI o)), some (.int (iI w)), some (.int (iI n))]) (st' := [.ref (c + 9), .int (iI 2), .ref (c + 4)]) rfl rfl ?_
    refine go_get (v := .ref (c + 4)) rfl (K2.1 5 (by decide)) rfl rfl ?_
    refine go_a (pc' := 47) (ls' := [some (.ref (c + 9)), some (.int (iI o)), some (.int (iI w)), some (.int (iI n))]) (st' := [.int (iI w), .ref (c + 4), .int (iI 2), .ref (c + 4)]) rfl rfl ?_
    refine go_a (pc' := 48) (ls' := [some (.ref (c + 9)), some (.int (iI o)), some (.int (iI w)), some (.int (iI n))]) (st' := [.int (iI 0), .int (iI w), .ref (c + 4), .int (iI 2), .ref (c + 4)]) rfl rfl ?_
    refine go_v (m := 194) (as := [.ref (c + 4), .int (iI w), .int (iI 0)]) (r := [.int (iI 2), .ref (c + 4)]) rfl rfl rfl (K2.1 3 (by decide)) rfl rfl (kz_pair z d c w 0 h2 t2 K2 B2 x2 (by omega) w2.1 w2.2 (by decide) (by omega)) (fun v h3 hq => ?_)
    obtain ⟨k1, t3, rfl, K3, B3, x3, X3, G3, O3, N3, D3, H3, -⟩ := hq
    have C3 := x3.1
    have g3 := G3.2.1
    have g3b := G3.2.2.1
    have m3 := KNM_gr B2 m2 G3
    have J3 := RJ_store J2 G3 C3
    have r3 := RRc_gr B2 x2 G3 J2.2.2.1 r2
    show xx_go (xt_P z) (d + 3) 196 51 [some (.ref (c + 9)), some (.int (iI o)), some (.int (iI w)), some (.int (iI n))] [.int (iI k1), .int (iI 2), .ref (c + 4)] h3 _
    refine go_v (m := 194) (as := [.ref (c + 4), .int (iI 2), .int (iI k1)]) (r := []) rfl rfl rfl (K3.1 3 (by decide)) rfl rfl (kz_pair z d c 2 k1 h3 t3 K3 B3 x3 (by omega) (by decide) (by omega) O3.1 O3.2) (fun v h4 hq => ?_)
    obtain ⟨k2, t4, rfl, K4, B4, x4, X4, G4, O4, N4, D4, H4, -⟩ := hq
    have C4 := x4.1
    have g4 := G4.2.1
    have g4b := G4.2.2.1
    have r4 := RRc_gr B3 x3 G4 J3.2.2.1 r3
    show xx_go (xt_P z) (d + 3) 196 54 [some (.ref (c + 9)), some (.int (iI o)), some (.int (iI w)), some (.int (iI n))] [.int (iI k2)] h4 _
    refine go_a (pc' := 55) (ls' := [some (.ref (c + 9)), some (.int (iI o)), some (.int (iI k2)), some (.int (iI n))]) (st' := []) rfl rfl ?_
    refine go_a (pc' := 58) (ls' := [some (.ref (c + 9)), some (.int (iI o)), some (.int (iI k2)), some (.int (iI (n + 1)))]) (st' := []) rfl (by rw [← iI_add n 1]; rfl) ?_
    refine go_a (pc' := 4) (ls' := [some (.ref (c + 9)), some (.int (iI o)), some (.int (iI k2)), some (.int (iI (n + 1)))]) (st' := []) rfl rfl ?_
    have wq := WD_quote J2.1 C4 w2 G3 G4 O3 N3 O4 N4 (by omega)
    rw [sdt] at wq
    have j1 : t4.I 1 = t.I 1 - 1 := by rw [G4.1.2.2.2 1 (by decide), G3.1.2.2.2 1 (by decide), i1]
    have j2 : t4.I 2 = t.I 2 - 1 := by rw [G4.1.2.2.2 2 (by decide), G3.1.2.2.2 2 (by decide), i2]
    have dd : DK t4.N k2 = sp_q (DK t.N w) := by
      rw [D4, KNM_q m3, D3, KNM_nil m2, nn]
      rfl
    refine ih k2 (n + 1) t4 h4 r (by omega) (by omega) (by omega) (by omega) K4 B4 (kx_tr (kx_tr hX2 X3) X4) (RFF_tr (RFF_tr F2 (RFF_gr G3)) (RFF_gr G4)) ?_ O4 (by rw [tps_gr G4, tps_gr G3]; exact tp2) ⟨x4, KNM_gr B3 m3 G4, fun q => H4 (H3 (ht9 q)), by omega, r4, wf.2, fun q => absurd (wf.1.2.2.2.2.2.1 q) (by decide), ?_⟩
    · refine RJ_w (RJ_store J3 G4 C4) ?_ (show (1 : Int) ≤ 1 + 2 - 1 - 1 by decide)
      show WD (SD t4) k2 ≤ WD (SD t) w + 1
      omega
    · rw [dd, ← eG]
      rfl
section RRP
variable {t t1 : KS} {k w : Int} {l : List ob_T} {r : sp_F} {i e : Int}
theorem RRc_push (h : RRc t ((k, l) :: r) i e) (e0 : 0 ≤ e) (h1 : ∀ q : Int, 0 ≤ q → q < i → t1.A 1 q = t.A 1 q ∧ t1.A 2 q = t.A 2 q) (h2 : ∀ q : Int, 0 ≤ q → q < e → t1.A 3 q = t.A 3 q ∧ DK t1.N (t.A 3 q) = DK t.N (t.A 3 q)) (hw : t1.A 3 e = w) : RRc t1 ((k, DK t1.N w :: l) :: r) i (e + 1) := by
  obtain ⟨a1, a2, a3, ⟨a4, a5⟩, a6⟩ := h
  have q := h1 (i - 1) (by omega) (by omega)
  have el : e + 1 - ((DK t1.N w :: l).length : Int) = e - l.length := by
    rw [List.length_cons]
    omega
  refine ⟨a1, by rw [q.1]; exact a2, by rw [q.2, el]; exact a3, ⟨by rw [el]; exact a4, ?_⟩, ?_⟩
  · refine ⟨by omega, ?_, ?_⟩
    · rw [show e + 1 - 1 = e by omega, hw]
    · rw [show e + 1 - 1 = e by omega]
      exact RIt_ext l e h2 a5
  · rw [el]
    exact RRc_ext r (i - 1) (e - l.length) (fun k k0 k1 => h1 k k0 (by omega)) (fun k k0 k1 => h2 k k0 (by omega)) a6
theorem RRc_kind {k2 : Int} (h : RRc t ((k, l) :: r) i e) (h1 : ∀ q : Int, 0 ≤ q → q < i - 1 → t1.A 1 q = t.A 1 q) (hk : t1.A 1 (i - 1) = k2) (a2e : t1.A 2 = t.A 2) (a3e : t1.A 3 = t.A 3) (ne : t1.N = t.N) : RRc t1 ((k2, l) :: r) i e := by
  obtain ⟨a1, a2, a3, ⟨a4, a5⟩, a6⟩ := h
  have h3 : ∀ q : Int, t1.A 3 q = t.A 3 q ∧ DK t1.N (t.A 3 q) = DK t.N (t.A 3 q) := fun q => ⟨by rw [a3e], by rw [ne]⟩
  exact ⟨a1, hk, by rw [a2e]; exact a3, ⟨a4, RIt_ext l e (fun q _ _ => h3 q) a5⟩, RRc_ext r (i - 1) (e - l.length) (fun q q0 q1 => ⟨h1 q q0 q1, by rw [a2e]⟩) (fun q _ _ => h3 q) a6⟩
end RRP
theorem kz_addObject (z : Value) (d c : Nat) (o u : Int) (hp : xx_H) (s : KS) (hK : KI c hp s) (hB : KB s) (hu : u ≤ 30000) (hJ : RJ u (WD (SD s) o) 1 s) (ho : OB s o) (ht : tps s ≠ 1 ∧ tps s ≠ 6) (F : sp_F) (eX : KX s) (eM : KNM s) (e21 : s.I 2 = s.I 1) (rr : RRc s F (s.I 1) (s.I 3)) (wf : WFr F) (fn : F ≠ []) : xx_cl (xt_P z) (d + 4) 196 [.ref (c + 9), .int (iI o)] hp (fun v h1 => v = none ∧ ∃ s1 : KS, KI c h1 s1 ∧ KB s1 ∧ kx c hp s h1 s1 0 0 ∧ RFF s s1 ∧ RI u s1 ∧ KX s1 ∧ KNM s1 ∧ (KHT s → KHT s1) ∧ s1.I 2 = s1.I 1 ∧ RRc s1 (sp_add F (DK s.N o)) (s1.I 1) (s1.I 3) ∧ WFr (sp_add F (DK s.N o))) := by
  have i41 := hJ.2.1.1
  refine cl_go rfl ?_
  show xx_go (xt_P z) (d + 3) 196 0 [some (.ref (c + 9)), some (.int (iI o)), none, none] [] hp _
  refine go_a (pc' := 1) (ls' := [some (.ref (c + 9)), some (.int (iI o)), none, none]) (st' := [.int (iI o)]) rfl rfl ?_
  refine go_a (pc' := 2) (ls' := [some (.ref (c + 9)), some (.int (iI o)), some (.int (iI o)), none]) (st' := []) rfl rfl ?_
  refine go_a (pc' := 3) (ls' := [some (.ref (c + 9)), some (.int (iI o)), some (.int (iI o)), none]) (st' := [.int (iI 0)]) rfl rfl ?_
  refine go_a (pc' := 4) (ls' := [some (.ref (c + 9)), some (.int (iI o)), some (.int (iI o)), some (.int (iI 0))]) (st' := []) rfl rfl ?_
  refine kz_addq z d c o u hp s hu (sp_add F (DK s.N o)) _ (fun w n t hp1 F1 hK hB hX hF hJ hw ht hE tn2 => ?_) _ o 0 s hp F (Nat.le_refl _) (by decide) (by decide) (by omega) hK hB kx_rf RFF_rf hJ ho ht ⟨eX, eM, id, e21, rr, wf, fn, rfl⟩
  obtain ⟨fX, fM, fH, f21, fr, fw, fnn, fG⟩ := hE
  rw [← fG]
  have i3 := hJ.2.1.2.1
  obtain ⟨k0, l0, r0, rfl⟩ : ∃ (k0 : Int) (l0 : List ob_T) (r0 : sp_F), F1 = (k0, l0) :: r0 := by
    match F1, fnn with
    | [], fnn => exact absurd rfl fnn
    | (k9, l9) :: r9, _ => exact ⟨k9, l9, r9, rfl⟩
  have tk : tps t = k0 := RRc_top _ fr rfl
  have ea : sp_add ((k0, l0) :: r0) (DK t.N w) = (sp_nk k0, DK t.N w :: l0) :: r0 := by
    show (if k0 = 2 then _ else _) = _
    rw [if_neg (by omega)]
  rw [ea]
  have rb := RJ_b hJ (by decide) (by have := WD_1c hJ.1 hw; omega) hu
  have ww := OB_R hB hw
  refine go_a (pc' := 62) (ls' := [some (.ref (c + 9)), some (.int (iI o)), some (.int (iI w)), some (.int (iI n))]) (st' := [.ref (c + 9)]) rfl rfl ?_
  refine go_get (v := .ref (c + 14)) rfl (hK.1 5 (by decide)) rfl rfl ?_
  refine go_a (pc' := 66) (ls' := [some (.ref (c + 9)), some (.int (iI o)), some (.int (iI w)), some (.int (iI n))]) (st' := [.int (iI w), .ref (c + 14)]) rfl rfl ?_
  refine go_v (m := 35) (as := [.ref (c + 14), .int (iI w)]) (r := []) rfl rfl rfl (hK.1 8 (by decide)) rfl rfl (kr_add_3 z (d + 1) c w hp1 t hK hB (by omega) ww.1 ww.2) (fun v h1 hq => ?_)
  obtain ⟨rfl, t1, K1, B1, X1, W1, I1, C1, E1, O1⟩ := hq
  have J1 := RJ_item hJ hw W1 I1 E1 O1
  have J1 : RJ u 0 0 t1 := RJ_w J1 (by omega) (by decide)
  have F1 := RFF_tr hF (RFF_row W1 (by decide) I1)
  have hX1 := kx_tr hX X1
  have tp : tps t1 = tps t := by
    unfold tps
    rw [I1, (W1.2.2.1 1 (by decide)).1]
    rfl
  have tr := tps_R J1
  rw [← tp] at ht tk
  have n1 : t1.N = t.N := W1.1
  have p1 := RRc_push (t1 := t1) (w := w) fr i3 (fun q _ _ => ⟨by rw [(W1.2.2.1 1 (by decide)).1], by rw [(W1.2.2.1 2 (by decide)).1]⟩) (fun q _ q1 => ⟨O1 q q1, by rw [n1]⟩) E1
  rw [n1] at p1
  have X9 : KX t1 := KX_row fX W1 (by decide) I1
  have M9 : KNM t1 := by unfold KNM; rw [n1]; exact fM
  have H9 : KHT s → KHT t1 := fun q => by
    have h9 := fH q
    unfold KHT at h9 ⊢
    rw [n1, (W1.2.2.1 9 (by decide)).1, I1]
    exact h9
  show xx_go (xt_P z) (d + 3) 196 69 [some (.ref (c + 9)), some (.int (iI o)), some (.int (iI w)), some (.int (iI n))] [] h1 _
  have b := B1.2.2.2.1 1 (by decide)
  refine go_a (pc' := 70) (ls' := [some (.ref (c + 9)), some (.int (iI o)), some (.int (iI w)), some (.int (iI n))]) (st' := [.ref (c + 9)]) rfl rfl ?_
  refine go_get (v := .ref (c + 10)) rfl (K1.1 5 (by decide)) rfl rfl ?_
  refine go_v (m := 44) (as := [.ref (c + 10)]) (r := []) rfl rfl rfl (K1.1 6 (by decide)) rfl rfl (kr_last_1 z (d + 2) c h1 t1 K1 B1) (fun v h2 hq => ?_)
  obtain ⟨hq, e⟩ := hq
  rw [e]
  clear e h2
  have hq : v = some (.int (iI (tps t1))) := by
    unfold tps
    rcases hq with ⟨q1, q2⟩ | ⟨q1, q2⟩
    · rw [if_pos q1]
      exact q2
    · rw [if_neg (by omega)]
      exact q2
  subst hq
  show xx_go (xt_P z) (d + 3) 196 76 [some (.ref (c + 9)), some (.int (iI o)), some (.int (iI w)), some (.int (iI n))] [.int (iI (tps t1))] h1 _
  have j1 := J1.2.1.1
  have pos : 0 < t1.I 1 := by
    have := p1.1
    have e1 : t1.I 1 = t.I 1 := by rw [I1]; rfl
    omega
  have e1 : t1.I 1 = t.I 1 := by rw [I1]; rfl
  have e3 : t1.I 3 = t.I 3 + 1 := by rw [I1]; rfl
  have e2 : t1.I 2 = t.I 2 := by rw [I1]; rfl
  by_cases ca : tps t1 = 0
  · refine mi_lk (q := 28) (t := 104) rfl (by omega) (by omega) (by rw [ca]; rfl) rfl ?_
    refine go_a (pc' := 105) (ls' := [some (.ref (c + 9)), some (.int (iI o)), some (.int (iI w)), some (.int (iI n))]) (st' := [.ref (c + 9)]) rfl rfl ?_
    refine go_a (pc' := 106) (ls' := [some (.ref (c + 9)), some (.int (iI o)), some (.int (iI w)), some (.int (iI n))]) (st' := [.int (iI 1), .ref (c + 9)]) rfl rfl ?_
    refine go_v (m := 191) (as := [.ref (c + 9), .int (iI 1)]) (r := []) rfl rfl rfl (K1.1 5 (by decide)) rfl rfl (kd_become z d c 1 h1 t1 K1 B1 (by omega) (by decide) (by decide)) (fun v h2 hq => ?_)
    obtain ⟨rfl, t2, K2, B2, X2, W2, I2, E2, O2⟩ := hq
    have J2 := RJ_top J1 (by decide) (by decide) W2 I2 E2 O2
    show xx_go (xt_P z) (d + 3) 196 109 [some (.ref (c + 9)), some (.int (iI o)), some (.int (iI w)), some (.int (iI n))] [] h2 _
    refine go_a (pc' := 126) (ls' := [some (.ref (c + 9)), some (.int (iI o)), some (.int (iI w)), some (.int (iI n))]) (st' := []) rfl rfl ?_
    have J3 : RJ u 0 0 t2 := RJ_w J2 (by rw [ca]; decide) (by rw [ca]; decide)
    have nk : sp_nk k0 = 1 := by rw [← tk, ca]; rfl
    rw [if_pos pos] at I2 E2 O2
    rw [nk]
    have z1 : t2.I 1 = t1.I 1 := by rw [I2]; rfl
    have z2 : t2.I 2 = t1.I 2 := by rw [I2]; rfl
    have z3 : t2.I 3 = t1.I 3 := by rw [I2]; rfl
    have p2 : RRc t2 ((1, DK t.N w :: l0) :: r0) (t2.I 1) (t2.I 3) := by
      rw [z1, z3, e1, e3]
      rw [e1] at E2 O2
      exact RRc_kind p1 (fun q _ q1 => O2 q q1) E2 (W2.2.2.1 2 (by decide)).1 (W2.2.2.1 3 (by decide)).1 W2.1
    have H2 : KHT s → KHT t2 := fun q => by
      have h9 := H9 q
      unfold KHT at h9 ⊢
      rw [W2.1, (W2.2.2.1 9 (by decide)).1, I2]
      exact h9
    exact go_r rfl rfl rfl rfl rfl rfl ⟨rfl, t2, K2, B2, kx_tr hX1 X2, RFF_tr F1 (RFF_row W2 (by decide) I2), J3, KX_row X9 W2 (by decide) I2, by unfold KNM; rw [W2.1]; exact M9, H2, by omega, p2, ⟨⟨fun q => absurd q (by decide), fun q => absurd q (by decide), fun q => absurd q (by decide), fun q => absurd q (by decide), fun _ => ⟨by rw [(fw.1.2.2.2.1 (by omega)).1]; rfl, (fw.1.2.2.2.1 (by omega)).2⟩, fun _ => Or.inr rfl, fun q => absurd q (by decide), fun q => absurd q (by decide)⟩, fw.2⟩⟩
  by_cases cb : tps t1 = 5
  · refine mi_lk (q := 36) (t := 112) rfl (by omega) (by omega) (by rw [cb]; rfl) rfl ?_
    refine go_a (pc' := 113) (ls' := [some (.ref (c + 9)), some (.int (iI o)), some (.int (iI w)), some (.int (iI n))]) (st' := [.ref (c + 9)]) rfl rfl ?_
    refine go_a (pc' := 115) (ls' := [some (.ref (c + 9)), some (.int (iI o)), some (.int (iI w)), some (.int (iI n))]) (st' := [.int (iI 6), .ref (c + 9)]) rfl rfl ?_
    refine go_v (m := 191) (as := [.ref (c + 9), .int (iI 6)]) (r := []) rfl rfl rfl (K1.1 5 (by decide)) rfl rfl (kd_become z d c 6 h1 t1 K1 B1 (by omega) (by decide) (by decide)) (fun v h2 hq => ?_)
    obtain ⟨rfl, t2, K2, B2, X2, W2, I2, E2, O2⟩ := hq
    have J2 := RJ_top J1 (by decide) (by decide) W2 I2 E2 O2
    show xx_go (xt_P z) (d + 3) 196 118 [some (.ref (c + 9)), some (.int (iI o)), some (.int (iI w)), some (.int (iI n))] [] h2 _
    refine go_a (pc' := 126) (ls' := [some (.ref (c + 9)), some (.int (iI o)), some (.int (iI w)), some (.int (iI n))]) (st' := []) rfl rfl ?_
    have J3 : RJ u 0 0 t2 := RJ_w J2 (by rw [cb]; decide) (by rw [cb]; decide)
    have nk : sp_nk k0 = 6 := by rw [← tk, cb]; rfl
    rw [if_pos pos] at I2 E2 O2
    rw [nk]
    have z1 : t2.I 1 = t1.I 1 := by rw [I2]; rfl
    have z2 : t2.I 2 = t1.I 2 := by rw [I2]; rfl
    have z3 : t2.I 3 = t1.I 3 := by rw [I2]; rfl
    have p2 : RRc t2 ((6, DK t.N w :: l0) :: r0) (t2.I 1) (t2.I 3) := by
      rw [z1, z3, e1, e3]
      rw [e1] at E2 O2
      exact RRc_kind p1 (fun q _ q1 => O2 q q1) E2 (W2.2.2.1 2 (by decide)).1 (W2.2.2.1 3 (by decide)).1 W2.1
    have H2 : KHT s → KHT t2 := fun q => by
      have h9 := H9 q
      unfold KHT at h9 ⊢
      rw [W2.1, (W2.2.2.1 9 (by decide)).1, I2]
      exact h9
    exact go_r rfl rfl rfl rfl rfl rfl ⟨rfl, t2, K2, B2, kx_tr hX1 X2, RFF_tr F1 (RFF_row W2 (by decide) I2), J3, KX_row X9 W2 (by decide) I2, by unfold KNM; rw [W2.1]; exact M9, H2, by omega, p2, ⟨⟨fun q => absurd q (by decide), fun q => absurd q (by decide), fun _ => (by have := fw.1.2.2.2.2.2.2.2 (by omega); rw [List.length_cons]; omega), fun q => absurd q (by decide), fun q => absurd q (by decide), fun q => absurd (fw.1.2.2.2.2.2.1 q) (by omega), fun q => absurd q (by decide), fun q => absurd q (by decide)⟩, fw.2⟩⟩
  refine mi_lk (q := 45) (t := 121) rfl (by omega) (by omega) (by show (if (0 : Int) = tps t1 then (28 : Int) else if (5 : Int) = tps t1 then 36 else 45) = 45; rw [if_neg (fun q => ca q.symm), if_neg (fun q => cb q.symm)]) rfl ?_
  refine go_a (pc' := 122) (ls' := [some (.ref (c + 9)), some (.int (iI o)), some (.int (iI w)), some (.int (iI n))]) (st' := [.ref (c + 9)]) rfl rfl ?_
  refine go_a (pc' := 123) (ls' := [some (.ref (c + 9)), some (.int (iI o)), some (.int (iI w)), some (.int (iI n))]) (st' := [.int (iI 4), .ref (c + 9)]) rfl rfl ?_
  refine go_v (m := 191) (as := [.ref (c + 9), .int (iI 4)]) (r := []) rfl rfl rfl (K1.1 5 (by decide)) rfl rfl (kd_become z d c 4 h1 t1 K1 B1 (by omega) (by decide) (by decide)) (fun v h2 hq => ?_)
  obtain ⟨rfl, t2, K2, B2, X2, W2, I2, E2, O2⟩ := hq
  have J2 := RJ_top J1 (by decide) (by decide) W2 I2 E2 O2
  show xx_go (xt_P z) (d + 3) 196 126 [some (.ref (c + 9)), some (.int (iI o)), some (.int (iI w)), some (.int (iI n))] [] h2 _
  have J3 : RJ u 0 0 t2 := RJ_w J2 (ow4 (by omega)).1 (ow4 (by omega)).2
  have nk : sp_nk k0 = 4 := by unfold sp_nk; rw [if_neg (by omega), if_neg (by omega)]
  rw [if_pos pos] at I2 E2 O2
  rw [nk]
  have z1 : t2.I 1 = t1.I 1 := by rw [I2]; rfl
  have z2 : t2.I 2 = t1.I 2 := by rw [I2]; rfl
  have z3 : t2.I 3 = t1.I 3 := by rw [I2]; rfl
  have p2 : RRc t2 ((4, DK t.N w :: l0) :: r0) (t2.I 1) (t2.I 3) := by
    rw [z1, z3, e1, e3]
    rw [e1] at E2 O2
    exact RRc_kind p1 (fun q _ q1 => O2 q q1) E2 (W2.2.2.1 2 (by decide)).1 (W2.2.2.1 3 (by decide)).1 W2.1
  have H2 : KHT s → KHT t2 := fun q => by
    have h9 := H9 q
    unfold KHT at h9 ⊢
    rw [W2.1, (W2.2.2.1 9 (by decide)).1, I2]
    exact h9
  exact go_r rfl rfl rfl rfl rfl rfl ⟨rfl, t2, K2, B2, kx_tr hX1 X2, RFF_tr F1 (RFF_row W2 (by decide) I2), J3, KX_row X9 W2 (by decide) I2, by unfold KNM; rw [W2.1]; exact M9, H2, by omega, p2, ⟨⟨fun q => absurd q (by decide), fun q => absurd q (by decide), fun q => absurd q (by decide), fun q => absurd q (by decide), fun q => absurd q (by decide), fun q => absurd (fw.1.2.2.2.2.2.1 q) (by omega), fun _ => (by rw [List.length_cons]; omega), fun q => absurd q (by decide)⟩, fw.2⟩⟩
