theorem HFT_TF {s s1 : KS} {NM : BKM} {ft : Nat → Int} (h : HFT s NM ft) (F : TF s s1) : HFT s1 NM ft := by
  have e14 := F.2.2.2 14 (by decide) (by decide)
  have e15 := F.2.2.2 15 (by decide) (by decide)
  have e27 := F.2.2.2 27 (by decide) (by decide)
  have e8 := F.2.2.2 8 (by decide) (by decide)
  unfold HFT OB
  rw [e14, e15, e27, e8, F.1]
  exact h
theorem ST_TF {s s1 : KS} (h : STo (SD s) (DK s.N) (s.I 8)) (F : TF s s1) : STo (SD s1) (DK s1.N) (s1.I 8) := by
  rw [TF_SD F, F.1, F.2.2.2 8 (by decide) (by decide)]
  exact h
theorem sp_ts_nl {ft : Nat → Int} {v : Nat} {b : ob_T} {y : Int} (nq : sp_isq (.var v) = false) (e : ft v = y) (y0 : 0 ≤ y) (h : ¬ (sp_pl (.add (.var v) b) = true ∧ (sp_as (.add (.var v) b)).length = (y / 4 % 8 + 1).toNat)) : (sp_ts ft (.add (.var v) b)).1 = 0 := by
  have ar : sp_arT ft (.var v) = y / 4 % 8 := by
    show (if ft v < 0 then -1 else ft v / 4 % 8) = _
    rw [e, if_neg (by omega)]
  show (if sp_isq (.var v) = true then (if sp_one b = true then 1 else 0) else if 0 ≤ (sp_ts ft b).2.1 ∧ (sp_ts ft b).2.2 = sp_arT ft (.var v) then 1 + (sp_ts ft b).2.1 else 0) = 0
  rw [if_neg (by rw [nq]; decide), if_neg]
  intro q
  have pl := sp_pl_ts b q.1
  refine h ⟨pl, ?_⟩
  have l := (sp_ls_ts (ft := ft) b pl).1
  show (sp_as b).length + 1 = _
  omega
def RDP (c : Nat) (hp : xx_H) (s : KS) (u w : Int) (ft : Nat → Int) (t : ob_T) (v : Option Value) (h1 : xx_H) : Prop := ∃ s1 : KS, KI c h1 s1 ∧ KB s1 ∧ TF s s1 ∧ ((v = some .null ∧ kx c hp s h1 s1 0 0 ∧ ¬ (1 ≤ (sp_ts ft t).1 ∧ (sp_ts ft t).1 ≤ 120)) ∨ ∃ (a : Nat) (n : Int) (f : Int → Int), v = some (.ref a) ∧ n ≤ w ∧ hp.length ≤ a ∧ kx c hp s h1 s1 2 (n + 1) ∧ TM c h1 s1 u a n f ∧ (sp_ts ft t).1 = n ∧ TRT s.N (s.I 8) ft (rl n f) (sp_nf t).1)
theorem TD_pop {s : KS} (h : TD s) (i0 : 0 < s.I 7) : TD (s.wI 7 (s.I 7 - 1)) ∧ TDS s = TDS (s.wI 7 (s.I 7 - 1)) + WD (SD s) (s.A 7 (s.I 7 - 1)) := by
  constructor
  · intro k k0 k1
    have k2 : k < s.I 7 - 1 := k1
    exact h k k0 (by omega)
  · exact SG_pop i0
theorem kg_read_loop (z : Value) (d c : Nat) (x u w : Int) (NM : BKM) (hp0 : xx_H) (s0 : KS) (hC : CI s0) (w1 : w ≤ 1990) (u0 : 38 ≤ u) (um : u ≤ 67108864) (hu : s0.I 8 ≤ u) (hF0 : BF c hp0 s0 u NM) (hO0 : OC hp0) (hW0 : OWNc u s0) (ft : Nat → Int) (hH0 : HFT s0 NM ft) (fq : ft 85168940 = -1) (hST0 : STo (SD s0) (DK s0.N) (s0.I 8)) (T0 : ob_T) : ∀ (q : Nat) (i : Int) (y3 y4 : Option Value) (hp : xx_H) (s : KS) (L : List Int), (120 - i).toNat ≤ q → 0 ≤ i → i ≤ 120 → KI c hp s → KB s → kx c hp0 s0 hp s 0 0 → TF s0 s → TD s → RW6 u s (s.I 7 - 1) L → s.I 6 = i → TDS s + i ≤ w → RIV s0.N (s0.I 8) ft T0 L (tds s) → xx_go (xt_P z) (d + 6) 211 26 [some (.ref (c + 25)), some (.int (iI x)), some (.int (iI i)), y3, y4] [] hp (fun v h1 => RDP c hp0 s0 u w ft T0 v h1) := by
  intro q
  induction q with
  | zero =>
    intro i y3 y4 hp s L hq i0 i1 hK hB hX hT hD hR e6 hS hV9
    have l9 := congrArg List.length hR.2.2.2
    rw [rl_len] at l9
    have C1 := TF_CI hT hC
    have b7 := hB.2.2.2.1 7 (by decide)
    refine go_a (pc' := 27) (ls' := [some (.ref (c + 25)), some (.int (iI x)), some (.int (iI i)), y3, y4]) (st' := [.int (iI i)]) rfl rfl ?_
    refine go_a (pc' := 29) (ls' := [some (.ref (c + 25)), some (.int (iI x)), some (.int (iI i)), y3, y4]) (st' := [.int (iI 120), .int (iI i)]) rfl rfl ?_
    refine mi_ge (t := 101) rfl rfl (by omega) (by omega) (by omega) (by omega) (fun _ => ?_) (fun w => absurd (show i ≥ 120 by omega) w)
    refine go_a (pc' := 102) (ls' := [some (.ref (c + 25)), some (.int (iI x)), some (.int (iI i)), y3, y4]) (st' := [.ref (c + 25)]) rfl rfl ?_
    refine go_get (v := .ref (c + 28)) rfl (hK.1 16 (by decide)) rfl rfl ?_
    refine go_v (m := 34) (as := [.ref (c + 28)]) (r := []) rfl rfl rfl (hK.1 18 (by decide)) rfl rfl (kr_length_7 z (d + 5) c hp s hK) (fun v h3 hq => ?_)
    obtain ⟨rfl, e⟩ := hq
    rw [e]
    clear e h3
    show xx_go (xt_P z) (d + 6) 211 108 [some (.ref (c + 25)), some (.int (iI x)), some (.int (iI i)), y3, y4] [.int (iI (s.I 7))] hp _
    refine mi_ne0 (t := 118) rfl rfl (by omega) (by omega) (fun w5 => ?_) (fun w5 => ?_)
    · refine go_a (pc' := 119) (ls' := [some (.ref (c + 25)), some (.int (iI x)), some (.int (iI i)), y3, y4]) (st' := [.null]) rfl rfl ?_
      exact go_r rfl rfl rfl rfl rfl rfl ⟨s, hK, hB, hT, Or.inl ⟨rfl, hX, RIV_big hV9 (fun q => by have q9 := congrArg List.length q; unfold tds at q9; rw [List.length_reverse, List.length_map, rl_len] at q9; have q8 : (s.I 7).toNat = 0 := q9; omega) (by omega)⟩⟩
    · have t09 : tds s = [] := by
        unfold tds
        rw [show s.I 7 = 0 by omega]
        rfl
      rw [t09] at hV9
      have en9 := RIV_end hV9
      have R9 := hR
      rw [show s.I 7 - 1 = -1 by omega] at R9
      refine go_a (pc' := 112) (ls' := [some (.ref (c + 25)), some (.int (iI x)), some (.int (iI i)), y3, y4]) (st' := [.ref (c + 25)]) rfl rfl ?_
      refine go_v (m := 223) (as := [.ref (c + 25)]) (r := []) rfl rfl rfl (hK.1 16 (by decide)) rfl rfl (kb_made z (d + 3) c u hp s hK hB R9) (fun v h9 hq => ?_)
      have cn := SG_nn (g := WD (SD s)) (f := s.A 7) (s.I 7).toNat (fun e he => by rw [show s.I 7 = 0 by omega] at he; exact absurd he (by simp))
      rcases hq with ⟨c9, rfl, e9⟩ | ⟨c9, rfl, K9, X9, T9⟩
      · rw [e9]
        show xx_go (xt_P z) (d + 6) 211 115 [some (.ref (c + 25)), some (.int (iI x)), some (.int (iI i)), y3, y4] [.null] hp _
        refine go_a (pc' := 119) (ls' := [some (.ref (c + 25)), some (.int (iI x)), some (.int (iI i)), y3, y4]) (st' := [.null]) rfl rfl ?_
        exact go_r rfl rfl rfl rfl rfl rfl ⟨s, hK, hB, hT, Or.inl ⟨rfl, hX, fun _ => absurd c9 (by omega)⟩⟩
      · show xx_go (xt_P z) (d + 6) 211 115 [some (.ref (c + 25)), some (.int (iI x)), some (.int (iI i)), y3, y4] [.ref hp.length] h9 _
        refine go_a (pc' := 119) (ls' := [some (.ref (c + 25)), some (.int (iI x)), some (.int (iI i)), y3, y4]) (st' := [.ref hp.length]) rfl rfl ?_
        exact go_r rfl rfl rfl rfl rfl rfl ⟨s, K9, hB, hT, Or.inr ⟨_, _, _, rfl, by unfold TDS at hS; omega, hX.1, kx_w (kx_tr hX X9) (by omega) (by omega), T9, by rw [en9.1]; omega, by rw [hR.2.2.2]; exact en9.2⟩⟩
  | succ q ih =>
    intro i y3 y4 hp s L hq i0 i1 hK hB hX hT hD hR e6 hS hV9
    have l9 := congrArg List.length hR.2.2.2
    rw [rl_len] at l9
    have C1 := TF_CI hT hC
    have b7 := hB.2.2.2.1 7 (by decide)
    refine go_a (pc' := 27) (ls' := [some (.ref (c + 25)), some (.int (iI x)), some (.int (iI i)), y3, y4]) (st' := [.int (iI i)]) rfl rfl ?_
    refine go_a (pc' := 29) (ls' := [some (.ref (c + 25)), some (.int (iI x)), some (.int (iI i)), y3, y4]) (st' := [.int (iI 120), .int (iI i)]) rfl rfl ?_
    refine mi_ge (t := 101) rfl rfl (by omega) (by omega) (by omega) (by omega) (fun w2 => ?_) (fun w2 => ?_)
    · refine go_a (pc' := 102) (ls' := [some (.ref (c + 25)), some (.int (iI x)), some (.int (iI i)), y3, y4]) (st' := [.ref (c + 25)]) rfl rfl ?_
      refine go_get (v := .ref (c + 28)) rfl (hK.1 16 (by decide)) rfl rfl ?_
      refine go_v (m := 34) (as := [.ref (c + 28)]) (r := []) rfl rfl rfl (hK.1 18 (by decide)) rfl rfl (kr_length_7 z (d + 5) c hp s hK) (fun v h3 hq => ?_)
      obtain ⟨rfl, e⟩ := hq
      rw [e]
      clear e h3
      show xx_go (xt_P z) (d + 6) 211 108 [some (.ref (c + 25)), some (.int (iI x)), some (.int (iI i)), y3, y4] [.int (iI (s.I 7))] hp _
      refine mi_ne0 (t := 118) rfl rfl (by omega) (by omega) (fun w5 => ?_) (fun w5 => ?_)
      · refine go_a (pc' := 119) (ls' := [some (.ref (c + 25)), some (.int (iI x)), some (.int (iI i)), y3, y4]) (st' := [.null]) rfl rfl ?_
        exact go_r rfl rfl rfl rfl rfl rfl ⟨s, hK, hB, hT, Or.inl ⟨rfl, hX, RIV_big hV9 (fun q => by have q9 := congrArg List.length q; unfold tds at q9; rw [List.length_reverse, List.length_map, rl_len] at q9; have q8 : (s.I 7).toNat = 0 := q9; omega) (by omega)⟩⟩
      · have t09 : tds s = [] := by
          unfold tds
          rw [show s.I 7 = 0 by omega]
          rfl
        rw [t09] at hV9
        have en9 := RIV_end hV9
        have R9 := hR
        rw [show s.I 7 - 1 = -1 by omega] at R9
        refine go_a (pc' := 112) (ls' := [some (.ref (c + 25)), some (.int (iI x)), some (.int (iI i)), y3, y4]) (st' := [.ref (c + 25)]) rfl rfl ?_
        refine go_v (m := 223) (as := [.ref (c + 25)]) (r := []) rfl rfl rfl (hK.1 16 (by decide)) rfl rfl (kb_made z (d + 3) c u hp s hK hB R9) (fun v h9 hq => ?_)
        have cn := SG_nn (g := WD (SD s)) (f := s.A 7) (s.I 7).toNat (fun e he => by rw [show s.I 7 = 0 by omega] at he; exact absurd he (by simp))
        rcases hq with ⟨c9, rfl, e9⟩ | ⟨c9, rfl, K9, X9, T9⟩
        · rw [e9]
          show xx_go (xt_P z) (d + 6) 211 115 [some (.ref (c + 25)), some (.int (iI x)), some (.int (iI i)), y3, y4] [.null] hp _
          refine go_a (pc' := 119) (ls' := [some (.ref (c + 25)), some (.int (iI x)), some (.int (iI i)), y3, y4]) (st' := [.null]) rfl rfl ?_
          exact go_r rfl rfl rfl rfl rfl rfl ⟨s, hK, hB, hT, Or.inl ⟨rfl, hX, fun _ => absurd c9 (by omega)⟩⟩
        · show xx_go (xt_P z) (d + 6) 211 115 [some (.ref (c + 25)), some (.int (iI x)), some (.int (iI i)), y3, y4] [.ref hp.length] h9 _
          refine go_a (pc' := 119) (ls' := [some (.ref (c + 25)), some (.int (iI x)), some (.int (iI i)), y3, y4]) (st' := [.ref hp.length]) rfl rfl ?_
          exact go_r rfl rfl rfl rfl rfl rfl ⟨s, K9, hB, hT, Or.inr ⟨_, _, _, rfl, by unfold TDS at hS; omega, hX.1, kx_w (kx_tr hX X9) (by omega) (by omega), T9, by rw [en9.1]; omega, by rw [hR.2.2.2]; exact en9.2⟩⟩
    · refine go_a (pc' := 33) (ls' := [some (.ref (c + 25)), some (.int (iI x)), some (.int (iI i)), y3, y4]) (st' := [.ref (c + 25)]) rfl rfl ?_
      refine go_get (v := .ref (c + 28)) rfl (hK.1 16 (by decide)) rfl rfl ?_
      refine go_v (m := 34) (as := [.ref (c + 28)]) (r := []) rfl rfl rfl (hK.1 18 (by decide)) rfl rfl (kr_length_7 z (d + 5) c hp s hK) (fun v h3 hq => ?_)
      obtain ⟨rfl, e⟩ := hq
      rw [e]
      clear e h3
      show xx_go (xt_P z) (d + 6) 211 39 [some (.ref (c + 25)), some (.int (iI x)), some (.int (iI i)), y3, y4] [.int (iI (s.I 7))] hp _
      refine mi_le0 (t := 101) rfl rfl (by omega) (by omega) (fun w3 => ?_) (fun w3 => ?_)
      · refine go_a (pc' := 102) (ls' := [some (.ref (c + 25)), some (.int (iI x)), some (.int (iI i)), y3, y4]) (st' := [.ref (c + 25)]) rfl rfl ?_
        refine go_get (v := .ref (c + 28)) rfl (hK.1 16 (by decide)) rfl rfl ?_
        refine go_v (m := 34) (as := [.ref (c + 28)]) (r := []) rfl rfl rfl (hK.1 18 (by decide)) rfl rfl (kr_length_7 z (d + 5) c hp s hK) (fun v h3 hq => ?_)
        obtain ⟨rfl, e⟩ := hq
        rw [e]
        clear e h3
        show xx_go (xt_P z) (d + 6) 211 108 [some (.ref (c + 25)), some (.int (iI x)), some (.int (iI i)), y3, y4] [.int (iI (s.I 7))] hp _
        refine mi_ne0 (t := 118) rfl rfl (by omega) (by omega) (fun w5 => ?_) (fun w5 => ?_)
        · refine go_a (pc' := 119) (ls' := [some (.ref (c + 25)), some (.int (iI x)), some (.int (iI i)), y3, y4]) (st' := [.null]) rfl rfl ?_
          exact go_r rfl rfl rfl rfl rfl rfl ⟨s, hK, hB, hT, Or.inl ⟨rfl, hX, RIV_big hV9 (fun q => by have q9 := congrArg List.length q; unfold tds at q9; rw [List.length_reverse, List.length_map, rl_len] at q9; have q8 : (s.I 7).toNat = 0 := q9; omega) (by omega)⟩⟩
        · have t09 : tds s = [] := by
            unfold tds
            rw [show s.I 7 = 0 by omega]
            rfl
          rw [t09] at hV9
          have en9 := RIV_end hV9
          have R9 := hR
          rw [show s.I 7 - 1 = -1 by omega] at R9
          refine go_a (pc' := 112) (ls' := [some (.ref (c + 25)), some (.int (iI x)), some (.int (iI i)), y3, y4]) (st' := [.ref (c + 25)]) rfl rfl ?_
          refine go_v (m := 223) (as := [.ref (c + 25)]) (r := []) rfl rfl rfl (hK.1 16 (by decide)) rfl rfl (kb_made z (d + 3) c u hp s hK hB R9) (fun v h9 hq => ?_)
          have cn := SG_nn (g := WD (SD s)) (f := s.A 7) (s.I 7).toNat (fun e he => by rw [show s.I 7 = 0 by omega] at he; exact absurd he (by simp))
          rcases hq with ⟨c9, rfl, e9⟩ | ⟨c9, rfl, K9, X9, T9⟩
          · rw [e9]
            show xx_go (xt_P z) (d + 6) 211 115 [some (.ref (c + 25)), some (.int (iI x)), some (.int (iI i)), y3, y4] [.null] hp _
            refine go_a (pc' := 119) (ls' := [some (.ref (c + 25)), some (.int (iI x)), some (.int (iI i)), y3, y4]) (st' := [.null]) rfl rfl ?_
            exact go_r rfl rfl rfl rfl rfl rfl ⟨s, hK, hB, hT, Or.inl ⟨rfl, hX, fun _ => absurd c9 (by omega)⟩⟩
          · show xx_go (xt_P z) (d + 6) 211 115 [some (.ref (c + 25)), some (.int (iI x)), some (.int (iI i)), y3, y4] [.ref hp.length] h9 _
            refine go_a (pc' := 119) (ls' := [some (.ref (c + 25)), some (.int (iI x)), some (.int (iI i)), y3, y4]) (st' := [.ref hp.length]) rfl rfl ?_
            exact go_r rfl rfl rfl rfl rfl rfl ⟨s, K9, hB, hT, Or.inr ⟨_, _, _, rfl, by unfold TDS at hS; omega, hX.1, kx_w (kx_tr hX X9) (by omega) (by omega), T9, by rw [en9.1]; omega, by rw [hR.2.2.2]; exact en9.2⟩⟩
      · refine go_a (pc' := 43) (ls' := [some (.ref (c + 25)), some (.int (iI x)), some (.int (iI i)), y3, y4]) (st' := [.ref (c + 25)]) rfl rfl ?_
        refine go_get (v := .ref (c + 28)) rfl (hK.1 16 (by decide)) rfl rfl ?_
        refine go_v (m := 192) (as := [.ref (c + 28)]) (r := []) rfl rfl rfl (hK.1 18 (by decide)) rfl rfl (kr_takeLast_7 z (d + 5) c hp s hK hB) (fun v h3 hq => ?_)
        rcases hq with ⟨q, -⟩ | ⟨-, rfl, K1, B1, X1⟩
        · exact absurd q (by omega)
        obtain ⟨D1, S1⟩ := TD_pop hD (by omega)
        have oy := hD (s.I 7 - 1) (by omega) (by omega)
        have F1 : TF s (s.wI 7 (s.I 7 - 1)) := TF_wI (Or.inr rfl)
        have R1 : RW6 u (s.wI 7 (s.I 7 - 1)) (s.I 7 - 1) L := hR
        rw [tds_pop (by omega), hT.1] at hV9
        have X2 := kx_w (kx_tr hX X1) (a1 := 0) (b1 := 0) (by decide) (by decide)
        have F2 := TF_tr hT F1
        have C2 := TF_CI F1 C1
        have e62 : (s.wI 7 (s.I 7 - 1)).I 6 = i := e6
        have e72 : (s.wI 7 (s.I 7 - 1)).I 7 = s.I 7 - 1 := rfl
        have e82 : (s.wI 7 (s.I 7 - 1)).I 8 = s0.I 8 := F2.2.2.2 8 (by decide) (by decide)
        have oy2 : OB (s.wI 7 (s.I 7 - 1)) (s.A 7 (s.I 7 - 1)) := oy
        have W2 := WD_1 C1.1 oy.1 oy.2
        have V2 := VD_0 C1.1 oy.1 oy.2
        have eD : SD (s.wI 7 (s.I 7 - 1)) = SD s := rfl
        generalize s.A 7 (s.I 7 - 1) = y at oy oy2 S1 W2 V2 hV9 ⊢
        rw [← eD] at S1 W2 V2
        generalize es : s.wI 7 (s.I 7 - 1) = t at K1 B1 X1 D1 S1 F1 R1 X2 F2 C2 e62 e72 e82 oy2 eD W2 V2 hV9
        show xx_go (xt_P z) (d + 6) 211 49 [some (.ref (c + 25)), some (.int (iI x)), some (.int (iI i)), y3, y4] [.int (iI y)] h3 _
        refine go_a (pc' := 50) (ls' := [some (.ref (c + 25)), some (.int (iI x)), some (.int (iI i)), some (.int (iI y)), y4]) (st' := []) rfl rfl ?_
        refine go_a (pc' := 51) (ls' := [some (.ref (c + 25)), some (.int (iI x)), some (.int (iI i)), some (.int (iI y)), y4]) (st' := [.ref (c + 25)]) rfl rfl ?_
        refine go_a (pc' := 52) (ls' := [some (.ref (c + 25)), some (.int (iI x)), some (.int (iI i)), some (.int (iI y)), y4]) (st' := [.int (iI y), .ref (c + 25)]) rfl rfl ?_
        have hF2 := BF_kx hF0 X2 (Int.le_refl _) (F2.2.2.2 27 (by decide) (by decide)) (by rw [F2.2.1])
        have hO2 := OC_kx hO0 X2
        refine go_v (m := 212) (as := [.ref (c + 25), .int (iI y)]) (r := []) rfl rfl rfl (K1.1 16 (by decide)) rfl rfl (kg_tokenOf z d c y h3 t K1 B1 C2 u NM hF2 u0 um hO2 (OWNc_TF hW0 F2) ft (HFT_TF hH0 F2) (by omega) oy2 (ST_TF hST0 F2) fq) (fun v h4 hq => ?_)
        obtain ⟨⟨x4, rfl, h4x, tkx⟩, e⟩ := hq
        rw [F2.1, e82] at tkx
        rw [e]
        clear e h4
        have x4r : -1 ≤ x4 ∧ x4 ≤ 2147483647 := by
          rcases h4x with q | q
          · omega
          · have := q.1.1
            have := q.1.2.1
            omega
        show xx_go (xt_P z) (d + 6) 211 55 [some (.ref (c + 25)), some (.int (iI x)), some (.int (iI i)), some (.int (iI y)), y4] [.int (iI x4)] h3 _
        refine go_a (pc' := 57) (ls' := [some (.ref (c + 25)), some (.int (iI x)), some (.int (iI i)), some (.int (iI y)), some (.int (iI x4))]) (st' := []) rfl rfl ?_
        refine go_a (pc' := 59) (ls' := [some (.ref (c + 25)), some (.int (iI x)), some (.int (iI i)), some (.int (iI y)), some (.int (iI x4))]) (st' := [.int (iI x4)]) rfl rfl ?_
        refine go_a (pc' := 60) (ls' := [some (.ref (c + 25)), some (.int (iI x)), some (.int (iI i)), some (.int (iI y)), some (.int (iI x4))]) (st' := [.int (iI ((-1))), .int (iI x4)]) rfl rfl ?_
        have nul : (sp_ts ft (DK s0.N y)).1 = 0 → xx_go (xt_P z) (d + 6) 211 84 [some (.ref (c + 25)), some (.int (iI x)), some (.int (iI i)), some (.int (iI y)), some (.int (iI x4))] [] h3 (fun v h1 => RDP c hp0 s0 u w ft T0 v h1) := by
          intro hb
          refine go_a (pc' := 85) (ls' := [some (.ref (c + 25)), some (.int (iI x)), some (.int (iI i)), some (.int (iI y)), some (.int (iI x4))]) (st' := [.null]) rfl rfl ?_
          exact go_r rfl rfl rfl rfl rfl rfl ⟨t, K1, B1, F2, Or.inl ⟨rfl, X2, fun q => RIV_bad hV9 hb q.1⟩⟩
        have tail : ∀ (h5 : xx_H) (s2 : KS), TVx u x4 → KI c h5 s2 → KB s2 → kx c hp0 s0 h5 s2 0 0 → TF s0 s2 → TD s2 → RW6 u s2 (s.I 7 - 1) L → s2.I 6 = i → TDS s2 + i + 1 ≤ w → s2.I 7 = s.I 7 - 1 + tk x4 → RIV s0.N (s0.I 8) ft T0 (L ++ [x4]) (tds s2) → xx_go (xt_P z) (d + 6) 211 86 [some (.ref (c + 25)), some (.int (iI x)), some (.int (iI i)), some (.int (iI y)), some (.int (iI x4))] [] h5 (fun v h1 => RDP c hp0 s0 u w ft T0 v h1) := by
          intro h5 s2 vx K2 B2 X2 F2 D2 R2 e26 S2 e27 V9
          refine go_a (pc' := 87) (ls' := [some (.ref (c + 25)), some (.int (iI x)), some (.int (iI i)), some (.int (iI y)), some (.int (iI x4))]) (st' := [.ref (c + 25)]) rfl rfl ?_
          refine go_get (v := .ref (c + 26)) rfl (K2.1 16 (by decide)) rfl rfl ?_
          refine go_a (pc' := 92) (ls' := [some (.ref (c + 25)), some (.int (iI x)), some (.int (iI i)), some (.int (iI y)), some (.int (iI x4))]) (st' := [.int (iI x4), .ref (c + 26)]) rfl rfl ?_
          refine go_v (m := 35) (as := [.ref (c + 26), .int (iI x4)]) (r := []) rfl rfl rfl (K2.1 17 (by decide)) rfl rfl (kb_add z (d + 4) c u h5 s2 x4 (s.I 7 - 1) K2 B2 R2 (by omega) vx (by omega)) (fun v h6 hq => ?_)
          obtain ⟨rfl, s3, K3, B3, X3, F3, e3, R3, -, -, a37, k37⟩ := hq
          show xx_go (xt_P z) (d + 6) 211 95 [some (.ref (c + 25)), some (.int (iI x)), some (.int (iI i)), some (.int (iI y)), some (.int (iI x4))] [] h6 _
          refine go_a (pc' := 98) (ls' := [some (.ref (c + 25)), some (.int (iI x)), some (.int (iI (i + 1))), some (.int (iI y)), some (.int (iI x4))]) (st' := []) rfl (by rw [← iI_add i 1]; rfl) ?_
          refine go_a (pc' := 26) (ls' := [some (.ref (c + 25)), some (.int (iI x)), some (.int (iI (i + 1))), some (.int (iI y)), some (.int (iI x4))]) (st' := []) rfl rfl ?_
          have e7 : s3.I 7 = s2.I 7 := k37
          have D3 : TD s3 ∧ TDS s3 = TDS s2 := by
            refine ⟨fun k k0 k1 => ?_, ?_⟩
            · rw [a37]
              exact TF_OB F3 (D2 k k0 (by omega))
            · unfold TDS
              rw [a37, e7, TF_SD F3]
          have V8 := V9
          rw [← tds_eq F3.1 e7 a37] at V8
          refine ih (i + 1) _ _ h6 s3 (L ++ [x4]) (by omega) (by omega) (by omega) K3 B3 (kx_w (kx_tr X2 X3) (by decide) (by decide)) (TF_tr F2 F3) D3.1 ?_ (by omega) (by omega) V8
          rw [e7, e27, show s.I 7 - 1 + tk x4 - 1 = s.I 7 - 1 + tk x4 - 1 by rfl]
          exact R3
        refine mi_eq (t := 84) rfl rfl (by omega) (by omega) (by omega) (by omega) (fun w4 => nul (tkx.2.2 w4)) (fun w4 => ?_)
        rcases h4x with q | ⟨vx, h4c⟩
        · exact absurd q w4
        refine go_a (pc' := 65) (ls' := [some (.ref (c + 25)), some (.int (iI x)), some (.int (iI i)), some (.int (iI y)), some (.int (iI x4))]) (st' := [.int (iI x4)]) rfl rfl ?_
        refine go_s (m := 220) (as := [.int (iI x4)]) (r := []) rfl rfl rfl rfl (kg_isCall z (d + 5) x4 h3) (fun v h4 hq => ?_)
        obtain ⟨hq, e⟩ := hq
        rw [e]
        clear e h4
        rcases hq with ⟨c1, rfl⟩ | ⟨c1, rfl⟩
        · show xx_go (xt_P z) (d + 6) 211 68 [some (.ref (c + 25)), some (.int (iI x)), some (.int (iI i)), some (.int (iI y)), some (.int (iI x4))] [.int (iI 1)] h3 _
          have tr := tk_R x4
          obtain ⟨q1, q2⟩ := h4c c1
          obtain ⟨v9, b9, et9, nq9, ev9⟩ := tkx.2.1 c1
          have x40 := vx.1
          have iL9 := ST_isL (ST_TF hST0 F2) (tk x4 + 1).toNat y oy2.1 oy2.2
          rw [F2.1, et9] at iL9
          refine mi_eq0 (t := 86) rfl rfl (by omega) (by omega) (fun q => absurd q (by decide)) (fun _ => ?_)
          refine go_a (pc' := 72) (ls' := [some (.ref (c + 25)), some (.int (iI x)), some (.int (iI i)), some (.int (iI y)), some (.int (iI x4))]) (st' := [.ref (c + 25)]) rfl rfl ?_
          refine go_a (pc' := 73) (ls' := [some (.ref (c + 25)), some (.int (iI x)), some (.int (iI i)), some (.int (iI y)), some (.int (iI x4))]) (st' := [.int (iI y), .ref (c + 25)]) rfl rfl ?_
          refine go_a (pc' := 75) (ls' := [some (.ref (c + 25)), some (.int (iI x)), some (.int (iI i)), some (.int (iI y)), some (.int (iI x4))]) (st' := [.int (iI x4), .int (iI y), .ref (c + 25)]) rfl rfl ?_
          refine go_s (m := 221) (as := [.int (iI x4)]) (r := [.int (iI y), .ref (c + 25)]) rfl rfl rfl rfl (kg_takes z (d + 5) x4 h3 (by omega) (by omega)) (fun v h4 hq => ?_)
          obtain ⟨rfl, e⟩ := hq
          rw [e]
          clear e h4
          show xx_go (xt_P z) (d + 6) 211 78 [some (.ref (c + 25)), some (.int (iI x)), some (.int (iI i)), some (.int (iI y)), some (.int (iI x4))] [.int (iI (tk x4)), .int (iI y), .ref (c + 25)] h3 _
          refine go_v (m := 222) (as := [.ref (c + 25), .int (iI y), .int (iI (tk x4))]) (r := []) rfl rfl rfl (K1.1 16 (by decide)) rfl rfl (kg_putOff z (d + 2) c y (tk x4) h3 t K1 B1 C2 oy2 tr.1 tr.2 D1 (by omega) (ST_TF hST0 F2)) (fun v h4 hq => ?_)
          rcases hq with ⟨rfl, e, nl9⟩ | ⟨rfl, yl9, s2, td9, K2, B2, X3, T3, D3, e3, S3⟩
          · rw [e]
            show xx_go (xt_P z) (d + 6) 211 81 [some (.ref (c + 25)), some (.int (iI x)), some (.int (iI i)), some (.int (iI y)), some (.int (iI x4))] [.int (iI 0)] h3 _
            refine mi_ne0 (t := 86) rfl rfl (by omega) (by omega) (fun q => absurd rfl q) (fun _ => nul (by rw [et9]; exact sp_ts_nl nq9 ev9 x40 (fun q => nl9 (iL9.mpr q))))
          · show xx_go (xt_P z) (d + 6) 211 81 [some (.ref (c + 25)), some (.int (iI x)), some (.int (iI i)), some (.int (iI y)), some (.int (iI x4))] [.int (iI 1)] h4 _
            refine mi_ne0 (t := 86) rfl rfl (by omega) (by omega) (fun _ => ?_) (fun q => absurd (show (1 : Int) ≠ 0 by decide) q)
            refine tail h4 s2 vx K2 B2 (kx_w (kx_tr X2 X3) (by decide) (by decide)) (TF_tr F2 (T7_F T3)) D3 (T7_RW T3 R1) (by rw [T3.2.2.2 6 (by decide)]; exact e62) (by omega) (by omega) ?_
            rw [td9, F2.1, et9]
            have p9 := iL9.mp yl9
            rw [et9] at hV9
            have p8 : (sp_as b9).length + 1 = (tk x4 + 1).toNat := p9.2
            exact RIV_call hV9 nq9 ev9 x40 p9.1 (by show ((sp_as b9).length : Int) = tk x4; omega)
        · show xx_go (xt_P z) (d + 6) 211 68 [some (.ref (c + 25)), some (.int (iI x)), some (.int (iI i)), some (.int (iI y)), some (.int (iI x4))] [.int (iI 0)] h3 _
          refine mi_eq0 (t := 86) rfl rfl (by omega) (by omega) (fun _ => ?_) (fun q => absurd rfl q)
          have tz : tk x4 = 0 := by
            rcases vx.2.2.1 with q | q
            · exact absurd q.1 c1
            · exact q.2
          have lf9 := tkx.1 w4 c1
          exact tail h3 t vx K1 B1 X2 F2 D1 R1 e62 (by omega) (by omega) (RIV_leaf hV9 lf9.1 lf9.2)
theorem kg_read (z : Value) (d c : Nat) (x u : Int) (hp : xx_H) (s : KS) (hK : KI c hp s) (hB : KB s) (hC : CI s) (NM : BKM) (hF : BF c hp s u NM) (u0 : 38 ≤ u) (um : u ≤ 67108864) (hu : s.I 8 ≤ u) (hO : OC hp) (hW : OWNc u s) (ft : Nat → Int) (hH : HFT s NM ft) (fq : ft 85168940 = -1) (hST : STo (SD s) (DK s.N) (s.I 8)) (ho : OB s x) (w1 : WD (SD s) x ≤ 1990) : xx_cl (xt_P z) (d + 7) 211 [.ref (c + 25), .int (iI x)] hp (fun v h1 => RDP c hp s u (WD (SD s) x) ft (DK s.N x) v h1) := by
  have ox := OB_R hB ho
  refine cl_go rfl ?_
  show xx_go (xt_P z) (d + 6) 211 0 [some (.ref (c + 25)), some (.int (iI x)), none, none, none] [] hp _
  refine go_a (pc' := 1) (ls' := [some (.ref (c + 25)), some (.int (iI x)), none, none, none]) (st' := [.ref (c + 25)]) rfl rfl ?_
  refine go_get (v := .ref (c + 26)) rfl (hK.1 16 (by decide)) rfl rfl ?_
  refine go_a (pc' := 5) (ls' := [some (.ref (c + 25)), some (.int (iI x)), none, none, none]) (st' := [.int (iI 0), .ref (c + 26)]) rfl rfl ?_
  refine go_v (m := 39) (as := [.ref (c + 26), .int (iI 0)]) (r := []) rfl rfl rfl (hK.1 17 (by decide)) rfl rfl (kb_cut z (d + 5) c u hp s hK hB) (fun v h3 hq => ?_)
  obtain ⟨rfl, s1, K1, B1, X1, F1, e1, R1⟩ := hq
  show xx_go (xt_P z) (d + 6) 211 8 [some (.ref (c + 25)), some (.int (iI x)), none, none, none] [] h3 _
  refine go_a (pc' := 9) (ls' := [some (.ref (c + 25)), some (.int (iI x)), none, none, none]) (st' := [.ref (c + 25)]) rfl rfl ?_
  refine go_get (v := .ref (c + 28)) rfl (K1.1 16 (by decide)) rfl rfl ?_
  refine go_a (pc' := 13) (ls' := [some (.ref (c + 25)), some (.int (iI x)), none, none, none]) (st' := [.int (iI 0), .ref (c + 28)]) rfl rfl ?_
  refine go_v (m := 39) (as := [.ref (c + 28), .int (iI 0)]) (r := []) rfl rfl rfl (K1.1 18 (by decide)) rfl rfl (kr_cut0_7 z (d + 5) c h3 s1 K1 B1) (fun v h4 hq => ?_)
  obtain ⟨rfl, K2, B2, X2⟩ := hq
  show xx_go (xt_P z) (d + 6) 211 16 [some (.ref (c + 25)), some (.int (iI x)), none, none, none] [] h4 _
  refine go_a (pc' := 17) (ls' := [some (.ref (c + 25)), some (.int (iI x)), none, none, none]) (st' := [.ref (c + 25)]) rfl rfl ?_
  refine go_get (v := .ref (c + 28)) rfl (K2.1 16 (by decide)) rfl rfl ?_
  refine go_a (pc' := 21) (ls' := [some (.ref (c + 25)), some (.int (iI x)), none, none, none]) (st' := [.int (iI x), .ref (c + 28)]) rfl rfl ?_
  refine go_v (m := 35) (as := [.ref (c + 28), .int (iI x)]) (r := []) rfl rfl rfl (K2.1 18 (by decide)) rfl rfl (kr_add_7 z (d + 4) c x h4 (s1.wI 7 0) K2 B2 (show (0 : Int) < 4096 by decide) ox.1 ox.2) (fun v h5 hq => ?_)
  obtain ⟨rfl, s3, K3, B3, X3, W3, e3, e4, e5, e6⟩ := hq
  show xx_go (xt_P z) (d + 6) 211 24 [some (.ref (c + 25)), some (.int (iI x)), none, none, none] [] h5 _
  refine go_a (pc' := 25) (ls' := [some (.ref (c + 25)), some (.int (iI x)), none, none, none]) (st' := [.int (iI 0)]) rfl rfl ?_
  refine go_a (pc' := 26) (ls' := [some (.ref (c + 25)), some (.int (iI x)), some (.int (iI 0)), none, none]) (st' := []) rfl rfl ?_
  have F2 : TF s (s1.wI 7 0) := TF_tr F1 (TF_wI (Or.inr rfl))
  have F3 := T7_row W3 e3
  have i7 : s3.I 7 = 1 := by rw [e3]; rfl
  obtain ⟨D3, S3⟩ := TD_add (s := s1.wI 7 0) (fun k k0 k1 => absurd (show k < 0 from k1) (by omega)) (TF_OB F2 ho) (show (0 : Int) ≤ 0 by decide) F3 (by rw [e3]; rfl) e5 e6
  have S4 : TDS (s1.wI 7 0) = 0 := rfl
  rw [TF_SD F2] at S3
  have i6 : s3.I 6 = 0 := by
    rw [F3.2.2.2 6 (by decide)]
    exact e1
  refine kg_read_loop z d c x u (WD (SD s) x) NM hp s hC w1 u0 um hu hF hO hW ft hH fq hST (DK s.N x) _ 0 _ _ h5 s3 [] (Nat.le_refl _) (by decide) (by decide) K3 B3 (kx_w (kx_tr (kx_tr X1 X2) X3) (by decide) (by decide)) (TF_tr F2 (T7_F F3)) D3 ?_ i6 (by omega) ?_
  · rw [i7]
    exact T7_RW F3 (RW6_0 e1)
  · have t9 := tds_add (s := s1.wI 7 0) (s1 := s3) (show (0 : Int) ≤ 0 by decide) F3.1 (by rw [e3]; rfl) e5 e6
    rw [t9]
    show RIV s.N (s.I 8) ft (DK s.N x) [] (DK s1.N x :: [])
    rw [F1.1]
    exact RIV_0
