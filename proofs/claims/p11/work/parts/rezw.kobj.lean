def ROB (s : KS) : Prop := ∀ e : Int, 0 ≤ e → e < s.I 5 → OB s (s.A 5 e)
def RSS (s : KS) : Int := SG (fun r => (sp_ln 1 (DK s.N r)).2.1) (s.A 5) (s.I 5).toNat
def WLX (s : KS) (x : Int) : Int := if x = -1 then 0 else (sp_ln 1 (DK s.N x)).1
def CPS (a b : Int) : Prop := ∀ T : Int, CP a T → CP b T
section LNS
variable {A : Nat → Int → Int} {D : Int → ob_T} {U k z : Int}
theorem lnS_pair (h : STo A D U) (k0 : 0 ≤ k) (k1 : k < U) (e : 0 ≤ A 1 k) (nq : ¬ (A 1 k = 2 ∧ 0 ≤ A 1 (A 2 k) ∧ A 2 (A 2 k) = 0)) : (sp_ln z (D k)).1 = 1 + (sp_ln z (D (A 1 k))).1 + (sp_ln z (D (A 2 k))).2.1 := by
  have p := ST_p h k0 k1 e
  rw [p.2]
  show (if sp_isq (D (A 1 k)) = true ∧ sp_one (D (A 2 k)) = true then _ else _) = _
  rw [if_neg]
  intro ⟨a, b⟩
  have e2 := (ST_2 h e (by omega)).mp a
  have o2 := (ST_one h p.1.2.1 (by omega)).mpr b
  exact nq ⟨e2, o2.1, o2.2⟩
theorem lnS_quo (h : STo A D U) (k0 : 0 ≤ k) (k1 : k < U) (q : A 1 k = 2 ∧ 0 ≤ A 1 (A 2 k) ∧ A 2 (A 2 k) = 0) : (sp_ln z (D k)).1 = 1 + (sp_ln z (D (A 1 (A 2 k)))).1 := by
  have p := ST_p h k0 k1 (by omega)
  have a := (ST_2 h (k := A 1 k) (by omega) (by omega)).mpr q.1
  have b := (ST_one h p.1.2.1 (by omega)).mp q.2
  have p2 := ST_p h p.1.2.1 (by omega) q.2.1
  rw [p.2]
  show (if sp_isq (D (A 1 k)) = true ∧ sp_one (D (A 2 k)) = true then 1 + (sp_ln z (D (A 2 k))).2.2 else _) = _
  rw [if_pos ⟨a, b⟩, p2.2]
  rfl
theorem lnS_rest (h : STo A D U) (k0 : 0 ≤ k) (k1 : k < U) (e : 0 ≤ A 1 k) : (sp_ln z (D k)).2.1 = 1 + (sp_ln z (D (A 1 k))).1 + (sp_ln z (D (A 2 k))).2.1 := by
  rw [(ST_p h k0 k1 e).2]
  rfl
theorem lnS_ratom (h : STo A D U) (k0 : 0 ≤ k) (k1 : k < U) (e : A 1 k < 0) (h0 : k ≠ 0) : (sp_ln z (D k)).2.1 = 4 + (sp_ln z (D k)).1 := by
  rcases h.1 k k0 k1 with ⟨-, n, q⟩ | ⟨-, v, q⟩ | q
  · rw [q]
    rfl
  · have nv : v ≠ 31361 := fun c => h0 ((ST_0 h k0 k1).mp (by rw [q, c]))
    rw [q]
    show (if v = 31361 then 1 else 4 + (if v = 0 then z else dgn 47 (v : Int))) = 4 + (if v = 0 then z else dgn 47 (v : Int))
    rw [if_neg nv]
  · omega
theorem lnS_at1 (h : STo A D U) (k0 : 0 ≤ k) (k1 : k < U) (hz : 1 ≤ z) (e : A 1 k < 0) : 1 ≤ (sp_ln z (D k)).1 := by
  rcases h.1 k k0 k1 with ⟨-, n, q⟩ | ⟨-, v, q⟩ | q
  · rw [q]
    exact dgn_1
  · rw [q]
    show 1 ≤ (if v = 0 then z else dgn 47 (v : Int))
    have := dgn_1 (b := 47) (y := (v : Int))
    split <;> omega
  · omega
end LNS
section TLS2
variable {s s1 : KS} {x k r : Int}
theorem ST_TL (h : STo (SD s) (DK s.N) (s.I 8)) (F : TLF s s1) : STo (SD s1) (DK s1.N) (s1.I 8) := by
  rw [SD_N F.1, F.1, F.2.2.2 8 (by decide) (by decide)]
  exact h
theorem KX_TL (h : KX s) (F : TLF s s1) : KX s1 := by
  refine ⟨KSA_CI (TLF_SA F) h.1, ?_⟩
  have a10 := (F.2.2.1 10 (by decide) (by decide)).1
  have a11 := (F.2.2.1 11 (by decide) (by decide)).1
  unfold KCH
  rw [F.1, a10, a11, F.2.2.2 8 (by decide) (by decide)]
  exact h.2
theorem fst_SD (q : 0 ≤ k ∧ k < s.I 8 ∧ s.N k < 0) : fst s k = SD s 1 k ∧ rst s k = SD s 2 k := by
  unfold fst rst
  rw [if_pos q, if_pos q]
  refine ⟨?_, ?_⟩
  · show _ = (if s.N k < 0 then sd1 (s.N k) else if 4611686018427387904 ≤ s.N k then -2 else -1)
    rw [if_pos q.2.2]
  · show _ = (if s.N k < 0 then sd2 (s.N k) else 0)
    rw [if_pos q.2.2]
theorem fst_e (eN : s1.N = s.N) (e8 : s1.I 8 = s.I 8) : fst s1 k = fst s k := by
  unfold fst
  rw [eN, e8]
theorem rst_e (eN : s1.N = s.N) (e8 : s1.I 8 = s.I 8) : rst s1 k = rst s k := by
  unfold rst
  rw [eN, e8]
theorem ROB_e (F : TLF s s1) (e5 : s1.I 5 = s.I 5) (e6 : s1.A 5 = s.A 5) (h : ROB s) : ROB s1 := fun e e0 e1 => by
  rw [e6]
  exact ⟨(h e e0 (by omega)).1, by rw [F.2.2.2 8 (by decide) (by decide)]; exact (h e e0 (by omega)).2⟩
theorem RSS_e (F : TLF s s1) (e5 : s1.I 5 = s.I 5) (e6 : s1.A 5 = s.A 5) : RSS s1 = RSS s := by
  unfold RSS
  rw [F.1, e5, e6]
theorem RSS_nn : 0 ≤ RSS s := SG_nn _ (fun _ _ => (ln_nn (by decide) _).2.1)
theorem RSS_0 (h : s.I 5 = 0) : RSS s = 0 := by
  unfold RSS
  rw [h]
  rfl
theorem RSS_push (p : 0 ≤ s.I 5) (eN : s1.N = s.N) (e5 : s1.I 5 = s.I 5 + 1) (ex : s1.A 5 (s.I 5) = x) (eo : ∀ e : Int, e < s.I 5 → s1.A 5 e = s.A 5 e) : RSS s1 = RSS s + (sp_ln 1 (DK s.N x)).2.1 := by
  unfold RSS
  rw [eN, e5, SG_pop (show 0 < s.I 5 + 1 by omega), show s.I 5 + 1 - 1 = s.I 5 by omega, ex]
  rw [SG_congr (g1 := fun r => (sp_ln 1 (DK s.N r)).2.1) (f1 := s.A 5) (s.I 5).toNat (fun e he => by rw [eo e (by omega)])]
theorem ROB_push (h : ROB s) (e8 : s1.I 8 = s.I 8) (e5 : s1.I 5 = s.I 5 + 1) (ex : s1.A 5 (s.I 5) = x) (eo : ∀ e : Int, e < s.I 5 → s1.A 5 e = s.A 5 e) (ox : OB s x) : ROB s1 := fun e e0 e1 => by
  by_cases c : e < s.I 5
  · rw [eo e c]
    exact ⟨(h e e0 c).1, by rw [e8]; exact (h e e0 c).2⟩
  · rw [show e = s.I 5 by omega, ex]
    exact ⟨ox.1, by rw [e8]; exact ox.2⟩
theorem RSS_pop (p : 0 < s.I 5) : RSS s = RSS (s.wI 5 (s.I 5 - 1)) + (sp_ln 1 (DK s.N (s.A 5 (s.I 5 - 1)))).2.1 := SG_pop p
theorem ROB_pop (h : ROB s) (p : 0 < s.I 5) : ROB (s.wI 5 (s.I 5 - 1)) := fun e e0 e1 => h e e0 (by have e1 : e < s.I 5 - 1 := e1; omega)
theorem WLX_n : WLX s (-1) = 0 := if_pos rfl
theorem WLX_o (h : x ≠ -1) : WLX s x = (sp_ln 1 (DK s.N x)).1 := if_neg h
theorem WLX_nn (x : Int) : 0 ≤ WLX s x := by
  unfold WLX
  split
  · decide
  · exact (ln_nn (by decide) _).1
end TLS2
theorem ke_frontX (z : Value) (hz : z = .null ∨ ∃ k, z = .ref k) (d c : Nat) (k : Int) (hp : xx_H) (s : KS) (hK : KI c hp s) (hB : KB s) (hC : CI s) (hO : OC hp) (l4 : s.I 4 ≤ 2000) (l5 : s.I 5 < 4096) (k0 : -2147483648 ≤ k) (k1 : k ≤ 2147483647) (hX : KX s) (hS : STo (SD s) (DK s.N) (s.I 8)) (ho : OB s k) (hR : ROB s) : xx_cl (xt_P z) (d + 9) 309 [.ref (c + 16), .int (iI k)] hp (fun v h1 => ∃ (x : Int) (s1 : KS), v = some (.int (iI x)) ∧ (-1 ≤ x ∧ x ≤ 2147483647) ∧ KI c h1 s1 ∧ KB s1 ∧ kx c hp s h1 s1 0 0 ∧ TLF s s1 ∧ s1.I 5 ≤ s.I 5 + 1 ∧ s1.I 4 ≤ 2000 ∧ ROB s1 ∧ (x = -1 ∧ s1.I 5 = s.I 5 ∨ OB s1 x) ∧ (s.I 4 + 1 ≤ s1.I 4 ∨ s1.I 4 = 2000) ∧ CPS (s.I 4 + (sp_ln 1 (DK s.N k)).1 + RSS s) (s1.I 4 + WLX s1 x + RSS s1)) := by
  have b5 := hB.2.2.2.1 5 (by decide)
  have bc := hB.2.2.2.2.2.1
  refine cl_go rfl ?_
  show xx_go (xt_P z) (d + 8) 309 0 [some (.ref (c + 16)), some (.int (iI k))] [] hp _
  refine go_a (pc' := 1) (ls' := [some (.ref (c + 16)), some (.int (iI k))]) (st' := [.ref (c + 16)]) rfl rfl ?_
  refine go_get (v := .ref (c + 4)) rfl (hK.1 9 (by decide)) rfl rfl ?_
  refine go_a (pc' := 5) (ls' := [some (.ref (c + 16)), some (.int (iI k))]) (st' := [.int (iI k), .ref (c + 4)]) rfl rfl ?_
  refine go_v (m := 199) (as := [.ref (c + 4), .int (iI k)]) (r := []) rfl rfl rfl (hK.1 3 (by decide)) rfl rfl (kc_isPair z (d + 7) c k hp s hK hB k0 k1) (fun v h1 hq => ?_)
  obtain ⟨hq, e⟩ := hq
  rw [e]
  clear e h1
  rcases hq with ⟨q1, rfl⟩ | ⟨q1, rfl⟩
  · show xx_go (xt_P z) (d + 8) 309 8 [some (.ref (c + 16)), some (.int (iI k))] [.int (iI 1)] hp _
    refine mi_ne0 (t := 18) rfl rfl (by omega) (by omega) (fun _ => ?_) (fun q => absurd q (by decide))
    have ob : OB s k := ⟨q1.1, q1.2.1⟩
    refine go_a (pc' := 19) (ls' := [some (.ref (c + 16)), some (.int (iI k))]) (st' := [.ref (c + 16)]) rfl rfl ?_
    refine go_get (v := .ref (c + 4)) rfl (hK.1 9 (by decide)) rfl rfl ?_
    refine go_a (pc' := 23) (ls' := [some (.ref (c + 16)), some (.int (iI k))]) (st' := [.int (iI k), .ref (c + 4)]) rfl rfl ?_
    refine go_v (m := 214) (as := [.ref (c + 4), .int (iI k)]) (r := []) rfl rfl rfl (hK.1 3 (by decide)) rfl rfl (kc_isQuoted z (d + 6) c k hp s hK hB hC ob) (fun v h1 hq => ?_)
    obtain ⟨hq, e⟩ := hq
    rw [e]
    clear e h1
    rcases hq with ⟨q2, rfl⟩ | ⟨q2, rfl⟩
    · show xx_go (xt_P z) (d + 8) 309 26 [some (.ref (c + 16)), some (.int (iI k))] [.int (iI 1)] hp _
      refine mi_eq0 (t := 45) rfl rfl (by omega) (by omega) (fun q => absurd q (by decide)) (fun _ => ?_)
      refine go_a (pc' := 30) (ls' := [some (.ref (c + 16)), some (.int (iI k))]) (st' := [.ref (c + 16)]) rfl rfl ?_
      refine go_a (pc' := 32) (ls' := [some (.ref (c + 16)), some (.int (iI k))]) (st' := [.int (iI 39), .ref (c + 16)]) rfl rfl ?_
      refine go_v (m := 313) (as := [.ref (c + 16), .int (iI 39)]) (r := []) rfl rfl rfl (hK.1 9 (by decide)) rfl rfl (ke_putX z (d + 5) c 39 hp s hK hB l4 (by decide) (by decide)) (fun v h1 hq => ?_)
      obtain ⟨rfl, t1, K1, B1, X1, F1, e5, e4, e6, e7⟩ := hq
      show xx_go (xt_P z) (d + 8) 309 35 [some (.ref (c + 16)), some (.int (iI k))] [] h1 _
      have SA := TLF_SA F1
      refine go_a (pc' := 36) (ls' := [some (.ref (c + 16)), some (.int (iI k))]) (st' := [.ref (c + 16)]) rfl rfl ?_
      refine go_get (v := .ref (c + 4)) rfl (K1.1 9 (by decide)) rfl rfl ?_
      refine go_a (pc' := 40) (ls' := [some (.ref (c + 16)), some (.int (iI k))]) (st' := [.int (iI k), .ref (c + 4)]) rfl rfl ?_
      refine go_a (pc' := 41) (ls' := [some (.ref (c + 16)), some (.int (iI k))]) (st' := [.int (iI 1), .int (iI k), .ref (c + 4)]) rfl rfl ?_
      refine go_v (m := 202) (as := [.ref (c + 4), .int (iI k), .int (iI 1)]) (r := []) rfl rfl rfl (K1.1 3 (by decide)) rfl rfl (kc_part z (d + 6) c k 1 h1 t1 K1 B1 (KSA_CI SA hC) (KSA_OB SA ob) (by decide) (by decide)) (fun v h2 hq => ?_)
      obtain ⟨⟨w, rfl, hw, ew⟩, e⟩ := hq
      rw [e]
      clear e h2
      have b1 := OB_R B1 hw
      have hw0 := hw.1
      show xx_go (xt_P z) (d + 8) 309 44 [some (.ref (c + 16)), some (.int (iI k))] [.int (iI w)] h1 _
      have R1 := ROB_e F1 e5 e6 hR
      have lw := lnS_quo (z := 1) hS ho.1 ho.2 q2
      have ew := ew 2 (by rw [SD_N F1.1]; exact ⟨by omega, q2.2.1, q2.2.2⟩) (by decide)
      have ew : w = SD s 1 (SD s 2 k) := by rw [ew, SD_N F1.1]; rfl
      have wx : WLX t1 w = (sp_ln 1 (DK s.N (SD s 1 (SD s 2 k)))).1 := by rw [WLX_o (by omega), F1.1, ew]
      have rs := RSS_e F1 e5 e6
      have n1 := ln_nn (z := 1) (by decide) (DK s.N (SD s 1 (SD s 2 k)))
      have n2 := RSS_nn (s := s)
      exact go_r rfl rfl rfl rfl rfl rfl ⟨w, t1, rfl, ⟨by omega, b1.2⟩, K1, B1, X1, F1, by omega, e4, R1, Or.inr hw, by unfold CP at e7; omega, fun T9 h9 => by rw [lw] at h9; rw [rs, wx]; unfold CP at h9 e7 ⊢; omega⟩
    · show xx_go (xt_P z) (d + 8) 309 26 [some (.ref (c + 16)), some (.int (iI k))] [.int (iI 0)] hp _
      refine mi_eq0 (t := 45) rfl rfl (by omega) (by omega) (fun _ => ?_) (fun q => absurd rfl q)
      refine go_a (pc' := 46) (ls' := [some (.ref (c + 16)), some (.int (iI k))]) (st' := [.ref (c + 16)]) rfl rfl ?_
      refine go_a (pc' := 48) (ls' := [some (.ref (c + 16)), some (.int (iI k))]) (st' := [.int (iI 40), .ref (c + 16)]) rfl rfl ?_
      refine go_v (m := 313) (as := [.ref (c + 16), .int (iI 40)]) (r := []) rfl rfl rfl (hK.1 9 (by decide)) rfl rfl (ke_putX z (d + 5) c 40 hp s hK hB l4 (by decide) (by decide)) (fun v h1 hq => ?_)
      obtain ⟨rfl, t1, K1, B1, X1, F1, e5, e4, e6, e7⟩ := hq
      show xx_go (xt_P z) (d + 8) 309 51 [some (.ref (c + 16)), some (.int (iI k))] [] h1 _
      have SA := TLF_SA F1
      have C1 := KSA_CI SA hC
      have r1 := (fst_OB C1 B1 k).2
      have f1 := (fst_OB C1 B1 k).1
      have rr := OB_R B1 r1
      have fr := OB_R B1 f1
      have f10 := f1.1
      refine go_a (pc' := 52) (ls' := [some (.ref (c + 16)), some (.int (iI k))]) (st' := [.ref (c + 16)]) rfl rfl ?_
      refine go_get (v := .ref (c + 19)) rfl (K1.1 9 (by decide)) rfl rfl ?_
      refine go_a (pc' := 56) (ls' := [some (.ref (c + 16)), some (.int (iI k))]) (st' := [.ref (c + 16), .ref (c + 19)]) rfl rfl ?_
      refine go_get (v := .ref (c + 4)) rfl (K1.1 9 (by decide)) rfl rfl ?_
      refine go_a (pc' := 60) (ls' := [some (.ref (c + 16)), some (.int (iI k))]) (st' := [.int (iI k), .ref (c + 4), .ref (c + 19)]) rfl rfl ?_
      refine go_v (m := 200) (as := [.ref (c + 4), .int (iI k)]) (r := [.ref (c + 19)]) rfl rfl rfl (K1.1 3 (by decide)) rfl rfl (kc_rest z (d + 7) c k h1 t1 K1 B1 k0 k1) (fun v h2 hq => ?_)
      obtain ⟨rfl, e⟩ := hq
      rw [e]
      clear e h2
      show xx_go (xt_P z) (d + 8) 309 63 [some (.ref (c + 16)), some (.int (iI k))] [.int (iI (rst t1 k)), .ref (c + 19)] h1 _
      refine go_v (m := 35) (as := [.ref (c + 19), .int (iI (rst t1 k))]) (r := []) rfl rfl rfl (K1.1 11 (by decide)) rfl rfl (kr_add_5 z (d + 6) c (rst t1 k) h1 t1 K1 B1 (by omega) rr.1 rr.2) (fun v h2 hq => ?_)
      obtain ⟨rfl, t2, K2, B2, X2, W2, I2, C2, E2, O2⟩ := hq
      show xx_go (xt_P z) (d + 8) 309 66 [some (.ref (c + 16)), some (.int (iI k))] [] h2 _
      have F2 := TLF_tr F1 (TLF_row W2 (by decide) I2)
      have i4 : t2.I 4 = t1.I 4 := by rw [I2]; rfl
      have i5 : t2.I 5 = t1.I 5 + 1 := by rw [I2]; rfl
      have f2 := (fst_OB (KSA_CI (TLF_SA F2) hC) B2 k).1
      have fr2 := OB_R B2 f2
      have f20 := f2.1
      refine go_a (pc' := 67) (ls' := [some (.ref (c + 16)), some (.int (iI k))]) (st' := [.ref (c + 16)]) rfl rfl ?_
      refine go_get (v := .ref (c + 4)) rfl (K2.1 9 (by decide)) rfl rfl ?_
      refine go_a (pc' := 71) (ls' := [some (.ref (c + 16)), some (.int (iI k))]) (st' := [.int (iI k), .ref (c + 4)]) rfl rfl ?_
      refine go_v (m := 197) (as := [.ref (c + 4), .int (iI k)]) (r := []) rfl rfl rfl (K2.1 3 (by decide)) rfl rfl (kc_first z (d + 7) c k h2 t2 K2 B2 k0 k1) (fun v h3 hq => ?_)
      obtain ⟨rfl, e⟩ := hq
      rw [e]
      clear e h3
      show xx_go (xt_P z) (d + 8) 309 74 [some (.ref (c + 16)), some (.int (iI k))] [.int (iI (fst t2 k))] h2 _
      have eN2 : t2.N = s.N := F2.1
      have fs := fst_SD q1
      have pr : 0 ≤ SD s 1 k := by rw [← fs.1]; exact (fst_OB hC hB k).1.1
      have lw := lnS_pair (z := 1) hS ho.1 ho.2 pr q2
      have e82 := F2.2.2.2 8 (by decide) (by decide)
      have e81 := F1.2.2.2 8 (by decide) (by decide)
      have fe : fst t2 k = SD s 1 k := (fst_e eN2 e82).trans fs.1
      have re : rst t1 k = SD s 2 k := (rst_e F1.1 e81).trans fs.2
      have ro := (fst_OB hC hB k).2
      have rs := RSS_push (s := s) (s1 := t2) (x := rst t1 k) b5.2.2.1 eN2 (by rw [i5, e5]) (by rw [← e5]; exact E2) (fun e he => by rw [← e6]; exact O2 e (by omega))
      rw [re] at rs
      have R2 := ROB_push (s := s) (s1 := t2) (x := rst t1 k) hR e82 (by rw [i5, e5]) (by rw [← e5]; exact E2) (fun e he => by rw [← e6]; exact O2 e (by omega)) (by rw [re, ← fs.2]; exact ro)
      have wx : WLX t2 (fst t2 k) = (sp_ln 1 (DK s.N (SD s 1 k))).1 := by rw [WLX_o (by omega), eN2, fe]
      have n1 := ln_nn (z := 1) (by decide) (DK s.N (SD s 1 k))
      have n3 := ln_nn (z := 1) (by decide) (DK s.N (SD s 2 k))
      have n2 := RSS_nn (s := s)
      exact go_r rfl rfl rfl rfl rfl rfl ⟨fst t2 k, t2, rfl, ⟨by omega, fr2.2⟩, K2, B2, kx_tr X1 X2, F2, by omega, by omega, R2, Or.inr f2, by unfold CP at e7; omega, fun T9 h9 => by rw [lw] at h9; rw [wx, rs, i4]; unfold CP at h9 e7 ⊢; omega⟩
  · show xx_go (xt_P z) (d + 8) 309 8 [some (.ref (c + 16)), some (.int (iI k))] [.int (iI 0)] hp _
    refine mi_ne0 (t := 18) rfl rfl (by omega) (by omega) (fun q => absurd rfl q) (fun _ => ?_)
    refine go_a (pc' := 12) (ls' := [some (.ref (c + 16)), some (.int (iI k))]) (st' := [.ref (c + 16)]) rfl rfl ?_
    refine go_a (pc' := 13) (ls' := [some (.ref (c + 16)), some (.int (iI k))]) (st' := [.int (iI k), .ref (c + 16)]) rfl rfl ?_
    refine go_v (m := 310) (as := [.ref (c + 16), .int (iI k)]) (r := []) rfl rfl rfl (hK.1 9 (by decide)) rfl rfl (ke_atomX z hz d c k hp s hK hB hO l4 k0 k1 hX ho (fun q9 => q1 ⟨ho.1, ho.2, q9⟩)) (fun v h1 hq => ?_)
    obtain ⟨rfl, t1, K1, B1, X1, F1, e5, e4, e6, e7⟩ := hq
    show xx_go (xt_P z) (d + 8) 309 16 [some (.ref (c + 16)), some (.int (iI k))] [] h1 _
    refine go_a (pc' := 17) (ls' := [some (.ref (c + 16)), some (.int (iI k))]) (st' := [.int (iI ((-1)))]) rfl rfl ?_
    have R1 := ROB_e F1 e5 e6 hR
    have rs := RSS_e F1 e5 e6
    have n2 := RSS_nn (s := s)
    have n1 := ln_nn (z := 1) (by decide) (DK s.N k)
    have l1 := lnS_at1 (z := 1) hS ho.1 ho.2 (by decide) (SD_at (fun q9 => q1 ⟨ho.1, ho.2, q9⟩)).1
    exact go_r rfl rfl rfl rfl rfl rfl ⟨-1, t1, rfl, by decide, K1, B1, X1, F1, by omega, e4, R1, Or.inl ⟨rfl, e5⟩, by unfold CP at e7; omega, fun T9 h9 => by rw [rs, WLX_n]; unfold CP at h9 e7 ⊢; omega⟩
set_option maxRecDepth 4000 in
theorem ke_behind_loopX (z : Value) (hz : z = .null ∨ ∃ k, z = .ref k) (d c : Nat) (hp0 : xx_H) (s0 : KS) (hO : OC hp0) (hC : CI s0) (l5 : s0.I 5 < 4096) (l5b : 0 ≤ s0.I 5) (hX0 : KX s0) (hS0 : STo (SD s0) (DK s0.N) (s0.I 8)) : ∀ (f : Nat) (n : Int) (y2 : Option Value) (t : KS) (hp : xx_H), n.toNat ≤ f → n ≤ 4096 → 0 ≤ n → n = t.I 5 → t.I 5 ≤ s0.I 5 → KI c hp t → KB t → kx c hp0 s0 hp t 0 0 → TLF s0 t → t.I 4 ≤ 2000 → ROB t → s0.I 4 ≤ t.I 4 → CPS (s0.I 4 + RSS s0) (t.I 4 + RSS t) → xx_go (xt_P z) (d + 9) 315 8 [some (.ref (c + 16)), some (.int (iI n)), y2] [] hp (fun v h1 => ∃ (x : Int) (s1 : KS), v = some (.int (iI x)) ∧ (-1 ≤ x ∧ x ≤ 2147483647) ∧ KI c h1 s1 ∧ KB s1 ∧ kx c hp0 s0 h1 s1 0 0 ∧ TLF s0 s1 ∧ s1.I 5 ≤ s0.I 5 ∧ s1.I 4 ≤ 2000 ∧ ROB s1 ∧ (x = -1 ∧ s1.I 5 = 0 ∨ OB s1 x) ∧ s0.I 4 ≤ s1.I 4 ∧ CPS (s0.I 4 + RSS s0) (s1.I 4 + WLX s1 x + RSS s1)) := by
  intro f
  induction f with
  | zero =>
    intro n y2 t hp hf n1 n0 n2 t5 hK hB hX hF h4 hR h9 hC9
    refine go_a (pc' := 9) (ls' := [some (.ref (c + 16)), some (.int (iI n)), y2]) (st' := [.int (iI n)]) rfl rfl ?_
    refine mi_le0 (t := 100) rfl rfl (by omega) (by omega) (fun _ => ?_) (fun q => absurd (show n ≤ 0 by omega) q)
    refine go_a (pc' := 101) (ls' := [some (.ref (c + 16)), some (.int (iI n)), y2]) (st' := [.int (iI ((-1)))]) rfl rfl ?_
    exact go_r rfl rfl rfl rfl rfl rfl ⟨-1, t, rfl, by decide, hK, hB, hX, hF, t5, h4, hR, Or.inl ⟨rfl, by omega⟩, h9, fun T9 k9 => by rw [WLX_n, Int.add_zero]; exact hC9 T9 k9⟩
  | succ f ih =>
    intro n y2 t hp hf n1 n0 n2 t5 hK hB hX hF h4 hR h9 hC9
    refine go_a (pc' := 9) (ls' := [some (.ref (c + 16)), some (.int (iI n)), y2]) (st' := [.int (iI n)]) rfl rfl ?_
    refine mi_le0 (t := 100) rfl rfl (by omega) (by omega) (fun _ => ?_) (fun q => ?_)
    · refine go_a (pc' := 101) (ls' := [some (.ref (c + 16)), some (.int (iI n)), y2]) (st' := [.int (iI ((-1)))]) rfl rfl ?_
      exact go_r rfl rfl rfl rfl rfl rfl ⟨-1, t, rfl, by decide, hK, hB, hX, hF, t5, h4, hR, Or.inl ⟨rfl, by omega⟩, h9, fun T9 k9 => by rw [WLX_n, Int.add_zero]; exact hC9 T9 k9⟩
    · refine go_a (pc' := 13) (ls' := [some (.ref (c + 16)), some (.int (iI n)), y2]) (st' := [.ref (c + 16)]) rfl rfl ?_
      refine go_get (v := .ref (c + 19)) rfl (hK.1 9 (by decide)) rfl rfl ?_
      refine go_v (m := 192) (as := [.ref (c + 19)]) (r := []) rfl rfl rfl (hK.1 11 (by decide)) rfl rfl (kr_takeLast_5 z (d + 8) c hp t hK hB) (fun v h1 hq => ?_)
      have hq := hq.elim (fun q => absurd q.1 (by omega)) id
      obtain ⟨q5, rfl, K1, B1, X1⟩ := hq
      obtain ⟨r, hr⟩ : ∃ r, r = t.A 5 (t.I 5 - 1) := ⟨_, rfl⟩
      have ro := hR (t.I 5 - 1) (by omega) (by omega)
      have hSt := ST_TL hS0 hF
      have hXt := KX_TL hX0 hF
      have hCt := KSA_CI (TLF_SA hF) hC
      have rp9 := RSS_pop (s := t) q5
      have Rp := ROB_pop hR q5
      have rr := hB.1 5 (t.I 5 - 1)
      rw [← hr] at rr ro rp9 ⊢
      have F1 : TLF s0 (t.wI 5 (t.I 5 - 1)) := TLF_tr hF (TLF_wI (by decide))
      obtain ⟨t1, ht1⟩ : ∃ t1 : KS, t1 = t.wI 5 (t.I 5 - 1) := ⟨_, rfl⟩
      have i5 : t1.I 5 = t.I 5 - 1 := by rw [ht1]; rfl
      have i4 : t1.I 4 = t.I 4 := by rw [ht1]; rfl
      have a5 : t1.A 5 = t.A 5 := by rw [ht1]; rfl
      have eNt : t1.N = t.N := by rw [ht1]; rfl
      have e8t : t1.I 8 = t.I 8 := by rw [ht1]; rfl
      rw [← ht1] at K1 B1 X1 F1 rp9 Rp
      have ro1 : OB t1 r := ⟨ro.1, by rw [e8t]; exact ro.2⟩
      have n2 := RSS_nn (s := t1)
      have hX1 := kx_tr hX X1
      have SA := TLF_SA F1
      have C1 := KSA_CI SA hC
      show xx_go (xt_P z) (d + 9) 315 19 [some (.ref (c + 16)), some (.int (iI n)), y2] [.int (iI r)] h1 _
      refine go_a (pc' := 20) (ls' := [some (.ref (c + 16)), some (.int (iI n)), some (.int (iI r))]) (st' := []) rfl rfl ?_
      refine go_a (pc' := 21) (ls' := [some (.ref (c + 16)), some (.int (iI n)), some (.int (iI r))]) (st' := [.ref (c + 16)]) rfl rfl ?_
      refine go_get (v := .ref (c + 4)) rfl (K1.1 9 (by decide)) rfl rfl ?_
      refine go_a (pc' := 25) (ls' := [some (.ref (c + 16)), some (.int (iI n)), some (.int (iI r))]) (st' := [.int (iI r), .ref (c + 4)]) rfl rfl ?_
      refine go_v (m := 199) (as := [.ref (c + 4), .int (iI r)]) (r := []) rfl rfl rfl (K1.1 3 (by decide)) rfl rfl (kc_isPair z (d + 8) c r h1 t1 K1 B1 rr.1 rr.2) (fun v h2 hq => ?_)
      obtain ⟨hq, e⟩ := hq
      rw [e]
      clear e h2
      rcases hq with ⟨q1, rfl⟩ | ⟨q1, rfl⟩
      · show xx_go (xt_P z) (d + 9) 315 28 [some (.ref (c + 16)), some (.int (iI n)), some (.int (iI r))] [.int (iI 1)] h1 _
        refine mi_eq0 (t := 61) rfl rfl (by omega) (by omega) (fun q => absurd q (by decide)) (fun _ => ?_)
        refine go_a (pc' := 32) (ls' := [some (.ref (c + 16)), some (.int (iI n)), some (.int (iI r))]) (st' := [.ref (c + 16)]) rfl rfl ?_
        refine go_a (pc' := 34) (ls' := [some (.ref (c + 16)), some (.int (iI n)), some (.int (iI r))]) (st' := [.int (iI 32), .ref (c + 16)]) rfl rfl ?_
        refine go_v (m := 313) (as := [.ref (c + 16), .int (iI 32)]) (r := []) rfl rfl rfl (K1.1 9 (by decide)) rfl rfl (ke_putX z (d + 6) c 32 h1 t1 K1 B1 (by omega) (by decide) (by decide)) (fun v h2 hq => ?_)
        obtain ⟨rfl, t2, K2, B2, X2, F2, e5, e4, e6, e7⟩ := hq
        show xx_go (xt_P z) (d + 9) 315 37 [some (.ref (c + 16)), some (.int (iI n)), some (.int (iI r))] [] h2 _
        have C2 := KSA_CI (TLF_SA F2) C1
        have r2 := OB_R B2 (fst_OB C2 B2 r).2
        refine go_a (pc' := 38) (ls' := [some (.ref (c + 16)), some (.int (iI n)), some (.int (iI r))]) (st' := [.ref (c + 16)]) rfl rfl ?_
        refine go_get (v := .ref (c + 19)) rfl (K2.1 9 (by decide)) rfl rfl ?_
        refine go_a (pc' := 42) (ls' := [some (.ref (c + 16)), some (.int (iI n)), some (.int (iI r))]) (st' := [.ref (c + 16), .ref (c + 19)]) rfl rfl ?_
        refine go_get (v := .ref (c + 4)) rfl (K2.1 9 (by decide)) rfl rfl ?_
        refine go_a (pc' := 46) (ls' := [some (.ref (c + 16)), some (.int (iI n)), some (.int (iI r))]) (st' := [.int (iI r), .ref (c + 4), .ref (c + 19)]) rfl rfl ?_
        refine go_v (m := 200) (as := [.ref (c + 4), .int (iI r)]) (r := [.ref (c + 19)]) rfl rfl rfl (K2.1 3 (by decide)) rfl rfl (kc_rest z (d + 8) c r h2 t2 K2 B2 rr.1 rr.2) (fun v h3 hq => ?_)
        obtain ⟨rfl, e⟩ := hq
        rw [e]
        clear e h3
        show xx_go (xt_P z) (d + 9) 315 49 [some (.ref (c + 16)), some (.int (iI n)), some (.int (iI r))] [.int (iI (rst t2 r)), .ref (c + 19)] h2 _
        refine go_v (m := 35) (as := [.ref (c + 19), .int (iI (rst t2 r))]) (r := []) rfl rfl rfl (K2.1 11 (by decide)) rfl rfl (kr_add_5 z (d + 7) c (rst t2 r) h2 t2 K2 B2 (by omega) r2.1 r2.2) (fun v h3 hq => ?_)
        obtain ⟨rfl, t3, K3, B3, X3, W3, I3, C3, E3, O3⟩ := hq
        show xx_go (xt_P z) (d + 9) 315 52 [some (.ref (c + 16)), some (.int (iI n)), some (.int (iI r))] [] h3 _
        have F3 := TLF_tr F2 (TLF_row W3 (by decide) I3)
        have j4 : t3.I 4 = t2.I 4 := by rw [I3]; rfl
        have j5 : t3.I 5 = t2.I 5 + 1 := by rw [I3]; rfl
        have f3 := (fst_OB (KSA_CI (TLF_SA F3) C1) B3 r).1
        have fr := OB_R B3 f3
        have f30 := f3.1
        refine go_a (pc' := 53) (ls' := [some (.ref (c + 16)), some (.int (iI n)), some (.int (iI r))]) (st' := [.ref (c + 16)]) rfl rfl ?_
        refine go_get (v := .ref (c + 4)) rfl (K3.1 9 (by decide)) rfl rfl ?_
        refine go_a (pc' := 57) (ls' := [some (.ref (c + 16)), some (.int (iI n)), some (.int (iI r))]) (st' := [.int (iI r), .ref (c + 4)]) rfl rfl ?_
        refine go_v (m := 197) (as := [.ref (c + 4), .int (iI r)]) (r := []) rfl rfl rfl (K3.1 3 (by decide)) rfl rfl (kc_first z (d + 8) c r h3 t3 K3 B3 rr.1 rr.2) (fun v h4 hq => ?_)
        obtain ⟨rfl, e⟩ := hq
        rw [e]
        clear e h4
        show xx_go (xt_P z) (d + 9) 315 60 [some (.ref (c + 16)), some (.int (iI n)), some (.int (iI r))] [.int (iI (fst t3 r))] h3 _
        have eN3 : t3.N = t.N := F3.1.trans eNt
        have e83 : t3.I 8 = t.I 8 := (F3.2.2.2 8 (by decide) (by decide)).trans e8t
        have q1t : 0 ≤ r ∧ r < t.I 8 ∧ t.N r < 0 := ⟨q1.1, by rw [← e8t]; exact q1.2.1, by rw [← eNt]; exact q1.2.2⟩
        have fs := fst_SD q1t
        have pr : 0 ≤ SD t 1 r := by rw [← fs.1]; exact (fst_OB hCt hB r).1.1
        have lw := lnS_rest (z := 1) hSt ro.1 ro.2 pr
        have fe : fst t3 r = SD t 1 r := (fst_e eN3 e83).trans fs.1
        have re : rst t2 r = SD t 2 r := (rst_e (F2.1.trans eNt) ((F2.2.2.2 8 (by decide) (by decide)).trans e8t)).trans fs.2
        have r3 := (fst_OB hCt hB r).2
        have rs := RSS_push (s := t1) (s1 := t3) (x := rst t2 r) (by omega) (F3.1) (by rw [j5, e5]) (by rw [← e5]; exact E3) (fun e he => by rw [← e6]; exact O3 e (by omega))
        rw [re, eNt] at rs
        have R3 := ROB_push (s := t1) (s1 := t3) (x := rst t2 r) Rp (F3.2.2.2 8 (by decide) (by decide)) (by rw [j5, e5]) (by rw [← e5]; exact E3) (fun e he => by rw [← e6]; exact O3 e (by omega)) (by rw [re, ← fs.2]; exact ⟨r3.1, by rw [e8t]; exact r3.2⟩)
        have wx : WLX t3 (fst t3 r) = (sp_ln 1 (DK t.N (SD t 1 r))).1 := by rw [WLX_o (by omega), eN3, fe]
        have m1 := ln_nn (z := 1) (by decide) (DK t.N (SD t 1 r))
        have m3 := ln_nn (z := 1) (by decide) (DK t.N (SD t 2 r))
        exact go_r rfl rfl rfl rfl rfl rfl ⟨fst t3 r, t3, rfl, ⟨by omega, fr.2⟩, K3, B3, kx_tr (kx_tr hX1 X2) X3, TLF_tr F1 F3, by omega, by omega, R3, Or.inr f3, by unfold CP at e7; omega, fun T9 k9 => by have k9 := hC9 T9 k9; rw [rp9, lw] at k9; rw [wx, rs, j4]; unfold CP at k9 e7 ⊢; omega⟩
      · show xx_go (xt_P z) (d + 9) 315 28 [some (.ref (c + 16)), some (.int (iI n)), some (.int (iI r))] [.int (iI 0)] h1 _
        refine mi_eq0 (t := 61) rfl rfl (by omega) (by omega) (fun _ => ?_) (fun q => absurd rfl q)
        have nx : ∀ (t2 : KS) (h2 : xx_H), KI c h2 t2 → KB t2 → kx c hp0 s0 h2 t2 0 0 → TLF s0 t2 → t2.I 5 = t1.I 5 → t2.I 4 ≤ 2000 → ROB t2 → s0.I 4 ≤ t2.I 4 → CPS (s0.I 4 + RSS s0) (t2.I 4 + 1 + RSS t2) → xx_go (xt_P z) (d + 9) 315 88 [some (.ref (c + 16)), some (.int (iI n)), some (.int (iI r))] [] h2 (fun v h1 => ∃ (x : Int) (s1 : KS), v = some (.int (iI x)) ∧ (-1 ≤ x ∧ x ≤ 2147483647) ∧ KI c h1 s1 ∧ KB s1 ∧ kx c hp0 s0 h1 s1 0 0 ∧ TLF s0 s1 ∧ s1.I 5 ≤ s0.I 5 ∧ s1.I 4 ≤ 2000 ∧ ROB s1 ∧ (x = -1 ∧ s1.I 5 = 0 ∨ OB s1 x) ∧ s0.I 4 ≤ s1.I 4 ∧ CPS (s0.I 4 + RSS s0) (s1.I 4 + WLX s1 x + RSS s1)) := by
          intro t2 h2 K2 B2 X2 F2 e5 e4 R2 o9 c9
          refine go_a (pc' := 89) (ls' := [some (.ref (c + 16)), some (.int (iI n)), some (.int (iI r))]) (st' := [.ref (c + 16)]) rfl rfl ?_
          refine go_a (pc' := 91) (ls' := [some (.ref (c + 16)), some (.int (iI n)), some (.int (iI r))]) (st' := [.int (iI 41), .ref (c + 16)]) rfl rfl ?_
          refine go_v (m := 313) (as := [.ref (c + 16), .int (iI 41)]) (r := []) rfl rfl rfl (K2.1 9 (by decide)) rfl rfl (ke_putX z (d + 6) c 41 h2 t2 K2 B2 e4 (by decide) (by decide)) (fun v h3 hq => ?_)
          obtain ⟨rfl, t3, K3, B3, X3, F3, g5, g4, g6, g7⟩ := hq
          have rs3 := RSS_e F3 g5 g6
          have R3 := ROB_e F3 g5 g6 R2
          have n3 := RSS_nn (s := t2)
          show xx_go (xt_P z) (d + 9) 315 94 [some (.ref (c + 16)), some (.int (iI n)), some (.int (iI r))] [] h3 _
          refine go_a (pc' := 97) (ls' := [some (.ref (c + 16)), some (.int (iI (n + (-1)))), some (.int (iI r))]) (st' := []) rfl (by rw [← iI_add n (-1)]; rfl) ?_
          refine go_a (pc' := 8) (ls' := [some (.ref (c + 16)), some (.int (iI (n + (-1)))), some (.int (iI r))]) (st' := []) rfl rfl ?_
          exact ih (n + (-1)) _ t3 h3 (by omega) (by omega) (by omega) (by omega) (by omega) K3 B3 (kx_tr X2 X3) (TLF_tr F2 F3) g4 R3 (by unfold CP at g7; omega) (fun T9 k9 => by have k9 := c9 T9 k9; rw [rs3]; unfold CP at k9 g7 ⊢; omega)
        refine go_a (pc' := 62) (ls' := [some (.ref (c + 16)), some (.int (iI n)), some (.int (iI r))]) (st' := [.int (iI r)]) rfl rfl ?_
        refine mi_eq0 (t := 88) rfl rfl (by omega) (by omega) (fun q2 => nx t1 h1 K1 B1 hX1 F1 rfl (by omega) Rp (by omega) (fun T9 k9 => by have k9 := hC9 T9 k9; rw [rp9, show r = 0 by omega, hSt.2.2.2.1] at k9; rw [i4]; have k9 : CP (t.I 4 + (RSS t1 + 1)) T9 := k9; unfold CP at k9 ⊢; omega)) (fun q2 => ?_)
        have q1t : ¬ t.N r < 0 := fun q9 => q1 ⟨ro1.1, ro1.2, by rw [eNt]; exact q9⟩
        have lw := lnS_ratom (z := 1) hSt ro.1 ro.2 (SD_at q1t).1 q2
        refine go_a (pc' := 66) (ls' := [some (.ref (c + 16)), some (.int (iI n)), some (.int (iI r))]) (st' := [.ref (c + 16)]) rfl rfl ?_
        refine go_a (pc' := 68) (ls' := [some (.ref (c + 16)), some (.int (iI n)), some (.int (iI r))]) (st' := [.int (iI 32), .ref (c + 16)]) rfl rfl ?_
        refine go_v (m := 313) (as := [.ref (c + 16), .int (iI 32)]) (r := []) rfl rfl rfl (K1.1 9 (by decide)) rfl rfl (ke_putX z (d + 6) c 32 h1 t1 K1 B1 (by omega) (by decide) (by decide)) (fun v h5 hq => ?_)
        obtain ⟨rfl, t5, K5, B5, X5, F5, e50, e40, e60, e70⟩ := hq
        show xx_go (xt_P z) (d + 9) 315 71 [some (.ref (c + 16)), some (.int (iI n)), some (.int (iI r))] [] h5 _
        refine go_a (pc' := 72) (ls' := [some (.ref (c + 16)), some (.int (iI n)), some (.int (iI r))]) (st' := [.ref (c + 16)]) rfl rfl ?_
        refine go_a (pc' := 74) (ls' := [some (.ref (c + 16)), some (.int (iI n)), some (.int (iI r))]) (st' := [.int (iI 46), .ref (c + 16)]) rfl rfl ?_
        refine go_v (m := 313) (as := [.ref (c + 16), .int (iI 46)]) (r := []) rfl rfl rfl (K5.1 9 (by decide)) rfl rfl (ke_putX z (d + 6) c 46 h5 t5 K5 B5 (by omega) (by decide) (by decide)) (fun v h6 hq => ?_)
        obtain ⟨rfl, t6, K6, B6, X6, F6, e51, e41, e61, e71⟩ := hq
        show xx_go (xt_P z) (d + 9) 315 77 [some (.ref (c + 16)), some (.int (iI n)), some (.int (iI r))] [] h6 _
        refine go_a (pc' := 78) (ls' := [some (.ref (c + 16)), some (.int (iI n)), some (.int (iI r))]) (st' := [.ref (c + 16)]) rfl rfl ?_
        refine go_a (pc' := 80) (ls' := [some (.ref (c + 16)), some (.int (iI n)), some (.int (iI r))]) (st' := [.int (iI 32), .ref (c + 16)]) rfl rfl ?_
        refine go_v (m := 313) (as := [.ref (c + 16), .int (iI 32)]) (r := []) rfl rfl rfl (K6.1 9 (by decide)) rfl rfl (ke_putX z (d + 6) c 32 h6 t6 K6 B6 (by omega) (by decide) (by decide)) (fun v h7 hq => ?_)
        obtain ⟨rfl, t7, K7, B7, X7, F7, e52, e42, e62, e72⟩ := hq
        show xx_go (xt_P z) (d + 9) 315 83 [some (.ref (c + 16)), some (.int (iI n)), some (.int (iI r))] [] h7 _
        have hO2 : OC h7 := OC_kx hO (kx_tr (kx_tr (kx_tr hX1 X5) X6) X7)
        refine go_a (pc' := 84) (ls' := [some (.ref (c + 16)), some (.int (iI n)), some (.int (iI r))]) (st' := [.ref (c + 16)]) rfl rfl ?_
        refine go_a (pc' := 85) (ls' := [some (.ref (c + 16)), some (.int (iI n)), some (.int (iI r))]) (st' := [.int (iI r), .ref (c + 16)]) rfl rfl ?_
        refine go_v (m := 310) (as := [.ref (c + 16), .int (iI r)]) (r := []) rfl rfl rfl (K7.1 9 (by decide)) rfl rfl (ke_atomX z hz (d + 1) c r h7 t7 K7 B7 hO2 (by omega) rr.1 rr.2 (KX_TL hX0 (TLF_tr (TLF_tr (TLF_tr F1 F5) F6) F7)) (KSA_OB (TLF_SA (TLF_tr (TLF_tr F5 F6) F7)) ro1) (by rw [show t7.N = t.N from (TLF_tr (TLF_tr F5 F6) F7).1.trans eNt]; exact q1t)) (fun v h9 hq => ?_)
        obtain ⟨rfl, t9, K9, B9, X9, F9, e59, e49, e69, e79⟩ := hq
        have FF := TLF_tr (TLF_tr (TLF_tr F5 F6) F7) F9
        have f5 : t9.I 5 = t1.I 5 := by omega
        have f6 : t9.A 5 = t1.A 5 := by rw [e69, e62, e61, e60]
        have rs9 := RSS_e FF f5 f6
        have R9 := ROB_e FF f5 f6 Rp
        rw [(TLF_tr (TLF_tr F5 F6) F7).1.trans eNt] at e79
        have m1 := ln_nn (z := 1) (by decide) (DK t.N r)
        show xx_go (xt_P z) (d + 9) 315 88 [some (.ref (c + 16)), some (.int (iI n)), some (.int (iI r))] [] h9 _
        exact nx t9 h9 K9 B9 (kx_tr (kx_tr (kx_tr (kx_tr hX1 X5) X6) X7) X9) (TLF_tr (TLF_tr (TLF_tr (TLF_tr F1 F5) F6) F7) F9) (by omega) e49 R9 (by unfold CP at e70 e71 e72 e79; omega) (fun T9 k9 => by have k9 := hC9 T9 k9; rw [rp9, lw] at k9; rw [rs9]; unfold CP at k9 e70 e71 e72 e79 ⊢; omega)
theorem ke_behindX (z : Value) (hz : z = .null ∨ ∃ k, z = .ref k) (d c : Nat) (hp : xx_H) (s : KS) (hK : KI c hp s) (hB : KB s) (hC : CI s) (hO : OC hp) (l4 : s.I 4 ≤ 2000) (l5 : s.I 5 < 4096) (hX : KX s) (hS : STo (SD s) (DK s.N) (s.I 8)) (hR : ROB s) : xx_cl (xt_P z) (d + 10) 315 [.ref (c + 16)] hp (fun v h1 => ∃ (x : Int) (s1 : KS), v = some (.int (iI x)) ∧ (-1 ≤ x ∧ x ≤ 2147483647) ∧ KI c h1 s1 ∧ KB s1 ∧ kx c hp s h1 s1 0 0 ∧ TLF s s1 ∧ s1.I 5 ≤ s.I 5 ∧ s1.I 4 ≤ 2000 ∧ ROB s1 ∧ (x = -1 ∧ s1.I 5 = 0 ∨ OB s1 x) ∧ s.I 4 ≤ s1.I 4 ∧ CPS (s.I 4 + RSS s) (s1.I 4 + WLX s1 x + RSS s1)) := by
  have b5 := hB.2.2.2.1 5 (by decide)
  refine cl_go rfl ?_
  show xx_go (xt_P z) (d + 9) 315 0 [some (.ref (c + 16)), none, none] [] hp _
  refine go_a (pc' := 1) (ls' := [some (.ref (c + 16)), none, none]) (st' := [.ref (c + 16)]) rfl rfl ?_
  refine go_get (v := .ref (c + 19)) rfl (hK.1 9 (by decide)) rfl rfl ?_
  refine go_v (m := 34) (as := [.ref (c + 19)]) (r := []) rfl rfl rfl (hK.1 11 (by decide)) rfl rfl (kr_length_5 z (d + 8) c hp s hK) (fun v h1 hq => ?_)
  obtain ⟨rfl, e⟩ := hq
  rw [e]
  clear e h1
  show xx_go (xt_P z) (d + 9) 315 7 [some (.ref (c + 16)), none, none] [.int (iI (s.I 5))] hp _
  refine go_a (pc' := 8) (ls' := [some (.ref (c + 16)), some (.int (iI (s.I 5))), none]) (st' := []) rfl rfl ?_
  exact ke_behind_loopX z hz d c hp s hO hC l5 (by omega) hX hS _ (s.I 5) none s hp (Nat.le_refl _) (by omega) (by omega) rfl (by omega) hK hB kx_rf TLF_rf l4 hR (Int.le_refl _) (fun _ q => q)
theorem ke_obj_loopX (z : Value) (hz : z = .null ∨ ∃ k, z = .ref k) (d c : Nat) (o Tt : Int) (hp0 : xx_H) (s0 : KS) (hO : OC hp0) (hC : CI s0) (hX0 : KX s0) (hS0 : STo (SD s0) (DK s0.N) (s0.I 8)) : ∀ (f : Nat) (x n : Int) (y4 : Option Value) (t : KS) (hp : xx_H), (2001 - n).toNat ≤ f → 0 ≤ n → n ≤ 2001 → t.I 5 ≤ n → (-2147483648 ≤ x ∧ x ≤ 2147483647) → KI c hp t → KB t → kx c hp0 s0 hp t 0 0 → TLF s0 t → t.I 4 ≤ 2000 → ROB t → (x = -1 ∧ t.I 5 = 0 ∨ OB t x) → (n ≤ t.I 4 ∨ t.I 4 = 2000) → CP (t.I 4 + WLX t x + RSS t) Tt → xx_go (xt_P z) (d + 10) 308 12 [some (.ref (c + 16)), some (.int (iI o)), some (.int (iI x)), some (.int (iI n)), y4] [] hp (fun v h1 => v = none ∧ ∃ s1 : KS, KI c h1 s1 ∧ KB s1 ∧ kx c hp0 s0 h1 s1 0 0 ∧ TLF s0 s1 ∧ s1.I 4 ≤ 2000 ∧ s1.I 4 = Tt) := by
  intro f
  induction f with
  | zero =>
    intro x n y4 t hp hf n0 n1 t5 hx hK hB hX hF h4 hR hx9 hn9 hC9
    have n2 := RSS_nn (s := t)
    have n1 := WLX_nn (s := t) x
    have b50 := (hB.2.2.2.1 5 (by decide)).2.2.1
    have fin : t.I 4 = Tt → xx_go (xt_P z) (d + 10) 308 53 [some (.ref (c + 16)), some (.int (iI o)), some (.int (iI x)), some (.int (iI n)), y4] [] hp (fun v h1 => v = none ∧ ∃ s1 : KS, KI c h1 s1 ∧ KB s1 ∧ kx c hp0 s0 h1 s1 0 0 ∧ TLF s0 s1 ∧ s1.I 4 ≤ 2000 ∧ s1.I 4 = Tt) := by
      intro e9
      exact go_r rfl rfl rfl rfl rfl rfl ⟨rfl, t, hK, hB, hX, hF, h4, e9⟩
    refine go_a (pc' := 13) (ls' := [some (.ref (c + 16)), some (.int (iI o)), some (.int (iI x)), some (.int (iI n)), y4]) (st' := [.int (iI n)]) rfl rfl ?_
    refine go_a (pc' := 16) (ls' := [some (.ref (c + 16)), some (.int (iI o)), some (.int (iI x)), some (.int (iI n)), y4]) (st' := [.int (iI 2000), .int (iI n)]) rfl rfl ?_
    refine mi_gt (t := 53) rfl rfl (by omega) (by omega) (by omega) (by omega) (fun q => fin (by unfold CP at hC9; omega)) (fun q => absurd (show n > 2000 by omega) q)
  | succ f ih =>
    intro x n y4 t hp hf n0 n1 t5 hx hK hB hX hF h4 hR hx9 hn9 hC9
    have n2 := RSS_nn (s := t)
    have n1 := WLX_nn (s := t) x
    have b50 := (hB.2.2.2.1 5 (by decide)).2.2.1
    have fin : t.I 4 = Tt → xx_go (xt_P z) (d + 10) 308 53 [some (.ref (c + 16)), some (.int (iI o)), some (.int (iI x)), some (.int (iI n)), y4] [] hp (fun v h1 => v = none ∧ ∃ s1 : KS, KI c h1 s1 ∧ KB s1 ∧ kx c hp0 s0 h1 s1 0 0 ∧ TLF s0 s1 ∧ s1.I 4 ≤ 2000 ∧ s1.I 4 = Tt) := by
      intro e9
      exact go_r rfl rfl rfl rfl rfl rfl ⟨rfl, t, hK, hB, hX, hF, h4, e9⟩
    refine go_a (pc' := 13) (ls' := [some (.ref (c + 16)), some (.int (iI o)), some (.int (iI x)), some (.int (iI n)), y4]) (st' := [.int (iI n)]) rfl rfl ?_
    refine go_a (pc' := 16) (ls' := [some (.ref (c + 16)), some (.int (iI o)), some (.int (iI x)), some (.int (iI n)), y4]) (st' := [.int (iI 2000), .int (iI n)]) rfl rfl ?_
    refine mi_gt (t := 53) rfl rfl (by omega) (by omega) (by omega) (by omega) (fun q => fin (by unfold CP at hC9; omega)) (fun _ => ?_)
    refine go_a (pc' := 20) (ls' := [some (.ref (c + 16)), some (.int (iI o)), some (.int (iI x)), some (.int (iI n)), y4]) (st' := [.int (iI x)]) rfl rfl ?_
    refine go_a (pc' := 21) (ls' := [some (.ref (c + 16)), some (.int (iI o)), some (.int (iI x)), some (.int (iI n)), y4]) (st' := [.int (iI ((-1))), .int (iI x)]) rfl rfl ?_
    refine mi_eq (t := 53) rfl rfl (by omega) (by omega) (by omega) (by omega) (fun q => fin (by rcases hx9 with w | w; rw [w.1, WLX_n, RSS_0 w.2] at hC9; unfold CP at hC9; omega; have := w.1; omega)) (fun nx9 => ?_)
    have ox : OB t x := by
      rcases hx9 with w | w
      · omega
      · exact w
    have hXt := KX_TL hX0 hF
    have hSt := ST_TL hS0 hF
    rw [WLX_o (by omega)] at hC9
    have C1 := KSA_CI (TLF_SA hF) hC
    have O1 := OC_kx hO hX
    refine go_a (pc' := 25) (ls' := [some (.ref (c + 16)), some (.int (iI o)), some (.int (iI x)), some (.int (iI n)), y4]) (st' := [.ref (c + 16)]) rfl rfl ?_
    refine go_a (pc' := 26) (ls' := [some (.ref (c + 16)), some (.int (iI o)), some (.int (iI x)), some (.int (iI n)), y4]) (st' := [.int (iI x), .ref (c + 16)]) rfl rfl ?_
    refine go_v (m := 309) (as := [.ref (c + 16), .int (iI x)]) (r := []) rfl rfl rfl (hK.1 9 (by decide)) rfl rfl (ke_frontX z hz (d + 1) c x hp t hK hB C1 O1 h4 (by omega) hx.1 hx.2 hXt hSt ox hR) (fun v h1 hq => ?_)
    obtain ⟨w, t1, rfl, hw, K1, B1, X1, F1, e5, e4, R1, w9, p9, c9⟩ := hq
    have hC1 := c9 Tt hC9
    show xx_go (xt_P z) (d + 10) 308 29 [some (.ref (c + 16)), some (.int (iI o)), some (.int (iI x)), some (.int (iI n)), y4] [.int (iI w)] h1 _
    refine go_a (pc' := 31) (ls' := [some (.ref (c + 16)), some (.int (iI o)), some (.int (iI x)), some (.int (iI n)), some (.int (iI w))]) (st' := []) rfl rfl ?_
    refine go_a (pc' := 33) (ls' := [some (.ref (c + 16)), some (.int (iI o)), some (.int (iI x)), some (.int (iI n)), some (.int (iI w))]) (st' := [.int (iI w)]) rfl rfl ?_
    refine go_a (pc' := 34) (ls' := [some (.ref (c + 16)), some (.int (iI o)), some (.int (iI x)), some (.int (iI n)), some (.int (iI w))]) (st' := [.int (iI ((-1))), .int (iI w)]) rfl rfl ?_
    refine mi_ne (t := 44) rfl rfl (by omega) (by omega) (by omega) (by omega) (fun q => ?_) (fun q => ?_)
    · refine go_a (pc' := 46) (ls' := [some (.ref (c + 16)), some (.int (iI o)), some (.int (iI x)), some (.int (iI n)), some (.int (iI w))]) (st' := [.int (iI w)]) rfl rfl ?_
      refine go_a (pc' := 47) (ls' := [some (.ref (c + 16)), some (.int (iI o)), some (.int (iI w)), some (.int (iI n)), some (.int (iI w))]) (st' := []) rfl rfl ?_
      refine go_a (pc' := 50) (ls' := [some (.ref (c + 16)), some (.int (iI o)), some (.int (iI w)), some (.int (iI (n + 1))), some (.int (iI w))]) (st' := []) rfl (by rw [← iI_add n 1]; rfl) ?_
      refine go_a (pc' := 12) (ls' := [some (.ref (c + 16)), some (.int (iI o)), some (.int (iI w)), some (.int (iI (n + 1))), some (.int (iI w))]) (st' := []) rfl rfl ?_
      exact ih w (n + 1) _ t1 h1 (by omega) (by omega) (by omega) (by omega) ⟨by omega, hw.2⟩ K1 B1 (kx_tr hX X1) (TLF_tr hF F1) e4 R1 (by rcases w9 with w9 | w9; exact absurd w9.1 q; exact Or.inr w9) (by omega) hC1
    · refine go_a (pc' := 38) (ls' := [some (.ref (c + 16)), some (.int (iI o)), some (.int (iI x)), some (.int (iI n)), some (.int (iI w))]) (st' := [.ref (c + 16)]) rfl rfl ?_
      refine go_v (m := 315) (as := [.ref (c + 16)]) (r := []) rfl rfl rfl (K1.1 9 (by decide)) rfl rfl (ke_behindX z hz d c h1 t1 K1 B1 (KSA_CI (TLF_SA F1) C1) (OC_kx O1 X1) e4 (by omega) (KX_TL hX0 (TLF_tr hF F1)) (ST_TL hS0 (TLF_tr hF F1)) R1) (fun v h2 hq => ?_)
      obtain ⟨u, t2, rfl, hu, K2, B2, X2, F2, g5, g4, R2, w2, o2, c2⟩ := hq
      rw [show w = -1 by omega, WLX_n, Int.add_zero] at hC1
      have hC2 := c2 Tt hC1
      show xx_go (xt_P z) (d + 10) 308 41 [some (.ref (c + 16)), some (.int (iI o)), some (.int (iI x)), some (.int (iI n)), some (.int (iI w))] [.int (iI u)] h2 _
      refine go_a (pc' := 46) (ls' := [some (.ref (c + 16)), some (.int (iI o)), some (.int (iI x)), some (.int (iI n)), some (.int (iI w))]) (st' := [.int (iI u)]) rfl rfl ?_
      refine go_a (pc' := 47) (ls' := [some (.ref (c + 16)), some (.int (iI o)), some (.int (iI u)), some (.int (iI n)), some (.int (iI w))]) (st' := []) rfl rfl ?_
      refine go_a (pc' := 50) (ls' := [some (.ref (c + 16)), some (.int (iI o)), some (.int (iI u)), some (.int (iI (n + 1))), some (.int (iI w))]) (st' := []) rfl (by rw [← iI_add n 1]; rfl) ?_
      refine go_a (pc' := 12) (ls' := [some (.ref (c + 16)), some (.int (iI o)), some (.int (iI u)), some (.int (iI (n + 1))), some (.int (iI w))]) (st' := []) rfl rfl ?_
      exact ih u (n + 1) _ t2 h2 (by omega) (by omega) (by omega) (by omega) ⟨by omega, hu.2⟩ K2 B2 (kx_tr (kx_tr hX X1) X2) (TLF_tr (TLF_tr hF F1) F2) g4 R2 w2 (by omega) hC2
theorem ke_tellObjectX (z : Value) (hz : z = .null ∨ ∃ k, z = .ref k) (d c : Nat) (o Tt : Int) (hp : xx_H) (s : KS) (hK : KI c hp s) (hB : KB s) (hC : CI s) (hO : OC hp) (l4 : s.I 4 ≤ 2000) (o0 : -2147483648 ≤ o) (o1 : o ≤ 2147483647) (hX : KX s) (hS : STo (SD s) (DK s.N) (s.I 8)) (ho : OB s o) (p4 : 0 ≤ s.I 4) (hT : CP (s.I 4 + (sp_ln 1 (DK s.N o)).1) Tt) : xx_cl (xt_P z) (d + 11) 308 [.ref (c + 16), .int (iI o)] hp (fun v h1 => v = none ∧ ∃ s1 : KS, KI c h1 s1 ∧ KB s1 ∧ kx c hp s h1 s1 0 0 ∧ TLF s s1 ∧ s1.I 4 ≤ 2000 ∧ s1.I 4 = Tt) := by
  refine cl_go rfl ?_
  show xx_go (xt_P z) (d + 10) 308 0 [some (.ref (c + 16)), some (.int (iI o)), none, none, none] [] hp _
  refine go_a (pc' := 1) (ls' := [some (.ref (c + 16)), some (.int (iI o)), none, none, none]) (st' := [.ref (c + 16)]) rfl rfl ?_
  refine go_get (v := .ref (c + 19)) rfl (hK.1 9 (by decide)) rfl rfl ?_
  refine go_a (pc' := 5) (ls' := [some (.ref (c + 16)), some (.int (iI o)), none, none, none]) (st' := [.int (iI 0), .ref (c + 19)]) rfl rfl ?_
  refine go_v (m := 39) (as := [.ref (c + 19), .int (iI 0)]) (r := []) rfl rfl rfl (hK.1 11 (by decide)) rfl rfl (kr_cut0_5 z (d + 9) c hp s hK hB) (fun v h1 hq => ?_)
  obtain ⟨rfl, K1, B1, X1⟩ := hq
  show xx_go (xt_P z) (d + 10) 308 8 [some (.ref (c + 16)), some (.int (iI o)), none, none, none] [] h1 _
  refine go_a (pc' := 9) (ls' := [some (.ref (c + 16)), some (.int (iI o)), none, none, none]) (st' := [.int (iI o)]) rfl rfl ?_
  refine go_a (pc' := 10) (ls' := [some (.ref (c + 16)), some (.int (iI o)), some (.int (iI o)), none, none]) (st' := []) rfl rfl ?_
  refine go_a (pc' := 11) (ls' := [some (.ref (c + 16)), some (.int (iI o)), some (.int (iI o)), none, none]) (st' := [.int (iI 0)]) rfl rfl ?_
  refine go_a (pc' := 12) (ls' := [some (.ref (c + 16)), some (.int (iI o)), some (.int (iI o)), some (.int (iI 0)), none]) (st' := []) rfl rfl ?_
  refine go_w (fun v h2 hq => ?_) (ke_obj_loopX z hz d c o Tt h1 (s.wI 5 0) (OC_kx hO X1) (KSA_CI (s := s) ⟨rfl, rfl, rfl⟩ hC) (KX_TL hX (TLF_wI (by decide))) (ST_TL hS (TLF_wI (by decide))) _ o 0 none (s.wI 5 0) h1 (Nat.le_refl _) (by decide) (by decide) (Int.le_refl _) ⟨o0, o1⟩ K1 B1 kx_rf TLF_rf l4 (fun e e0 e1 => absurd (show e < 0 from e1) (by omega)) (Or.inr ho) (Or.inl p4) (by rw [WLX_o (by have := ho.1; omega), RSS_0 rfl, Int.add_zero]; exact hT))
  obtain ⟨e, t, K2, B2, X2, F2, g4, g9⟩ := hq
  exact ⟨e, t, K2, B2, kx_tr X1 X2, TLF_tr (TLF_wI (by decide)) F2, g4, g9⟩
