def cNm : List Nat := [31361, 20, 85168940, 429, 26209844, 345281, 100073763959, 37, 38, 41, 16228223, 6692, 6833, 1456687, 210602393640, 1860108727, 31651, 20052094, 15480824, 746742303, 2211412, 217445062396, 2079676, 1975462, 107484305, 30253168, 4382298804, 1663818, 55479, 673, 9077, 44569, 2399032, 7634, 966246, 2023507, 36351, 2132882439]
def KNN (s : KS) : Prop := ∀ i : Nat, i < 38 → s.N (i : Int) = 4611686018427387904 + ((cNm.getD i 0 : Nat) : Int)
def FTS (s : KS) (NM : BKM) : Prop := (∀ x : Int, 3 ≤ x → x ≤ 16 → sp_fv NM.2.2.1 (DK s.N x) = x * 32 + tkF (x - 3) * 4 + 2) ∧ (∀ i : Int, 0 ≤ i → i < s.I 27 → OB s (NM.1 i).1 ∧ sp_fv NM.2.2.1 (DK s.N (NM.1 i).1) = fcl i ((NM.1 i).2.1.length : Int)) ∧ ∀ v : Nat, NM.2.2.1 v = -1 ∨ (0 ≤ NM.2.2.1 v ∧ ((∃ x : Int, 3 ≤ x ∧ x ≤ 16 ∧ DK s.N x = .var v) ∨ ∃ i : Int, 0 ≤ i ∧ i < s.I 27 ∧ DK s.N (NM.1 i).1 = .var v))
def BKT (s : KS) (NM : BKM) : Prop := ((NM.2.2.2.1.length : Int) = s.I 27 ∧ (NM.2.2.2.2.length : Int) = s.I 28 ∧ ∀ i j : Int, 0 ≤ i → i < s.I 28 → 0 ≤ j → j < s.I 28 → (NM.2.1 i).1 = (NM.2.1 j).1 → i = j) ∧ (∀ i : Nat, (i : Int) < s.I 27 → ∃ (v : Nat) (ps : List Nat) (B : ob_T), NM.2.2.2.1[i]? = some (v, ps, B) ∧ DK s.N (NM.1 (i : Int)).1 = .var v ∧ VRG s.N (s.I 8) (NM.1 (i : Int)).2.1 ps ∧ TRT s.N (s.I 8) NM.2.2.1 (NM.1 (i : Int)).2.2 B ∧ ∀ w ∈ ps, w ≠ 31361 ∧ w ≠ 20) ∧ ∀ i : Nat, (i : Int) < s.I 28 → ∃ (v : Nat) (B : ob_T), NM.2.2.2.2[i]? = some (v, B) ∧ OB s (NM.2.1 (i : Int)).1 ∧ DK s.N (NM.2.1 (i : Int)).1 = .var v ∧ TRT s.N (s.I 8) NM.2.2.1 (NM.2.1 (i : Int)).2.2 B
def KNT (s : KS) (NM : BKM) : Prop := KQ s ∧ KNN s ∧ FTS s NM ∧ BKT s NM ∧ HI NM.2.2.1
theorem VRG_mono {N N1 : Int → Int} {U U1 : Int} (hU : U ≤ U1) (hN : ∀ k : Int, 0 ≤ k → k < U → DK N1 k = DK N k) : ∀ (G : List Int) (Vs : List Nat), VRG N U G Vs → VRG N1 U1 G Vs
  | [], [], _ => trivial
  | [], _ :: _, h => absurd h id
  | _ :: _, [], h => absurd h id
  | g :: G, v :: Vs, h => by
    obtain ⟨⟨k, k0, k1, k2⟩, h2⟩ := h
    exact ⟨⟨k, ⟨k0.1, by omega⟩, (hN k k0.1 k0.2).trans k1, k2⟩, VRG_mono hU hN G Vs h2⟩
theorem KNT_st {s s1 : KS} {NM : BKM} (h : KNT s NM) (hC : CI s) (hB : KB s) (F : PFR s s1) (q : KQ s1) : KNT s1 NM := by
  obtain ⟨h1, h2, h3, h4, h5⟩ := h
  have hX : KX s := ⟨hC, h1.1⟩
  have b8 := hB.2.2.2.2.2.1
  have e27 := F.2.2.1 27 (by decide) (by decide) (by decide) (by decide) (by decide) (by decide)
  have e28 := F.2.2.1 28 (by decide) (by decide) (by decide) (by decide) (by decide) (by decide)
  have le := F.2.2.2.1
  have hN : ∀ k : Int, 0 ≤ k → k < s.I 8 → DK s1.N k = DK s.N k := fun k k0 k1 => DK_e hB hX (fun e he => (F.2.2.2.2 e he).1) k0 k1
  refine ⟨q, fun i hi => ?_, ⟨fun x x0 x1 => ?_, fun i i0 i1 => ?_, fun v => ?_⟩, ⟨by rw [e27, e28]; exact h4.1, fun i hi => ?_, fun i hi => ?_⟩, h5⟩
  · rw [(F.2.2.2.2 (i : Int) (by omega)).1]
    exact h2 i hi
  · rw [hN x (by omega) (by omega)]
    exact h3.1 x x0 x1
  · obtain ⟨o, e⟩ := h3.2.1 i i0 (by omega)
    rw [hN _ o.1 o.2]
    exact ⟨PFR_OB F o, e⟩
  · rcases h3.2.2 v with e | ⟨e0, ⟨x, x0, x1, x2⟩ | ⟨i, i0, i1, i2⟩⟩
    · exact Or.inl e
    · exact Or.inr ⟨e0, Or.inl ⟨x, x0, x1, (hN x (by omega) (by omega)).trans x2⟩⟩
    · have o := (h3.2.1 i i0 i1).1
      exact Or.inr ⟨e0, Or.inr ⟨i, i0, by omega, (hN _ o.1 o.2).trans i2⟩⟩
  · obtain ⟨v, ps, B, a1, a2, a3, a4, a5⟩ := h4.2.1 i (by omega)
    have o := (h3.2.1 (i : Int) (by omega) (by omega)).1
    exact ⟨v, ps, B, a1, (hN _ o.1 o.2).trans a2, VRG_mono le hN _ _ a3, (TRT_mono le hN (fun _ _ => rfl) B).1 _ a4, a5⟩
  · obtain ⟨v, B, a1, a2, a3, a4⟩ := h4.2.2 i (by omega)
    exact ⟨v, B, a1, PFR_OB F a2, (hN _ a2.1 a2.2).trans a3, (TRT_mono le hN (fun _ _ => rfl) B).1 _ a4⟩
theorem KNN_D {s : KS} (h : KNN s) {i : Nat} (hi : i < 38) : DK s.N (i : Int) = .var (cNm.getD i 0) := by
  have e := h i hi
  rw [DK_s (by omega), e, show (4611686018427387904 + ((cNm.getD i 0 : Nat) : Int) - 4611686018427387904).toNat = cNm.getD i 0 by omega]
theorem KNT_ST {s : KS} {NM : BKM} (h : KNT s NM) (hC : CI s) (hB : KB s) : STo (SD s) (DK s.N) (s.I 8) ∧ HD s.N (s.I 8) := by
  have hX : KX s := ⟨hC, h.1.1⟩
  have b8 := hB.2.2.2.2.2.1
  have e0 := KNN_D h.2.1 (i := 0) (by decide)
  have e1 := KNN_D h.2.1 (i := 1) (by decide)
  have e2 := KNN_D h.2.1 (i := 2) (by decide)
  exact ⟨KX_ST hB hX e0 e1 e2 (by omega), ⟨fun j k j0 j1 k0 k1 e => DK_inj hB hX j0 j1 k0 k1 e, by omega, e0, e1⟩⟩
theorem KNT_HFT {s : KS} {NM : BKM} (h : KNT s NM) (hC : CI s) (hB : KB s) (e14 : s.I 14 = -1) (hno : ∀ i : Int, 0 ≤ i → i < s.I 27 → 2 ≠ (NM.1 i).1) : HFT s NM NM.2.2.1 ∧ NM.2.2.1 85168940 = -1 := by
  have hX : KX s := ⟨hC, h.1.1⟩
  have b8 := hB.2.2.2.2.2.1
  have fts := h.2.2.1
  have inj : ∀ j k : Int, OB s j → OB s k → DK s.N j = DK s.N k → j = k := fun j k a b e => DK_inj hB hX a.1 a.2 b.1 b.2 e
  refine ⟨⟨fun x ox ex => absurd ox.1 (by omega), fun x x0 x1 _ => fts.1 x x0 x1, fun i i0 i1 _ => (fts.2.1 i i0 i1).2, fun x ox _ nb nn => ?_⟩, ?_⟩
  · match hd : DK s.N x with
    | .var v =>
      show NM.2.2.1 v = -1
      rcases fts.2.2 v with e | ⟨-, ⟨y, y0, y1, y2⟩ | ⟨i, i0, i1, i2⟩⟩
      · exact e
      · have := inj x y ox ⟨by omega, by omega⟩ (by rw [hd, y2])
        exact absurd ⟨by omega, by omega⟩ nb
      · have := inj x _ ox (fts.2.1 i i0 i1).1 (by rw [hd, i2])
        exact absurd this.symm (nn i i0 i1)
    | .num _ => rfl
    | .add _ _ => rfl
    | .sub _ _ => rfl
    | .neg _ => rfl
    | .mulL _ _ => rfl
    | .mulR _ _ => rfl
  · have e2 := KNN_D h.2.1 (i := 2) (by decide)
    rcases fts.2.2 85168940 with e | ⟨-, ⟨y, y0, y1, y2⟩ | ⟨i, i0, i1, i2⟩⟩
    · exact e
    · have := inj 2 y ⟨by decide, by omega⟩ ⟨by omega, by omega⟩ (by rw [y2]; exact e2)
      omega
    · have o := (fts.2.1 i i0 i1)
      have t := inj 2 _ ⟨by decide, by omega⟩ o.1 (by rw [i2]; exact e2)
      exact absurd t (hno i i0 i1)
def KPS (c : Nat) (hp : xx_H) (s : KS) (NM : BKM) : Prop := KI c hp s ∧ KB s ∧ CI s ∧ OC hp ∧ BF c hp s (s.I 8) NM ∧ BT c hp s (s.I 8) NM ∧ s.I 14 = -1 ∧ s.I 8 ≤ 25000 ∧ KNT s NM
def KST (c : Nat) (hp : xx_H) (s : KS) (h1 : xx_H) (s1 : KS) (α β γ : Int) : Prop := KI c h1 s1 ∧ KB s1 ∧ CI s1 ∧ PFR s s1 ∧ kx c hp s h1 s1 α β ∧ s1.I 8 ≤ s.I 8 + γ ∧ (KQ s → KQ s1)
section STS
variable {c y : Nat} {hp h1 h2 : xx_H} {s s1 s2 : KS} {α β γ a b e α1 β1 γ1 u : Int} {NM : BKM}
theorem KST_rf (h : KPS c hp s NM) : KST c hp s hp s 0 0 0 := ⟨h.1, h.2.1, h.2.2.1, PFR_rf, kx_rf, by omega, id⟩
theorem KST_TF (S : KST c hp s h1 s1 α β γ) (K : KI c h2 s2) (B : KB s2) (F : TF s1 s2) (X : kx c h1 s1 h2 s2 a b) : KST c hp s h2 s2 (α + a) (β + b) γ := ⟨K, B, TF_CI F S.2.2.1, PFR_tr S.2.2.2.1 (TF_P F), kx_tr S.2.2.2.2.1 X, by rw [F.2.2.2 8 (by decide) (by decide)]; exact S.2.2.2.2.2.1, fun q => TF_KQ F (S.2.2.2.2.2.2 q)⟩
theorem KST_X (S : KST c hp s h1 s1 α β γ) (K : KI c h2 s1) (X : kx c h1 s1 h2 s1 a b) : KST c hp s h2 s1 (α + a) (β + b) γ := ⟨K, S.2.1, S.2.2.1, S.2.2.2.1, kx_tr S.2.2.2.2.1 X, S.2.2.2.2.2⟩
theorem KST_tr (S : KST c hp s h1 s1 α β γ) (T : KST c h1 s1 h2 s2 a b e) : KST c hp s h2 s2 (α + a) (β + b) (γ + e) := ⟨T.1, T.2.1, T.2.2.1, PFR_tr S.2.2.2.1 T.2.2.2.1, kx_tr S.2.2.2.2.1 T.2.2.2.2.1, by have := S.2.2.2.2.2.1; have := T.2.2.2.2.2.1; omega, fun q => T.2.2.2.2.2.2 (S.2.2.2.2.2.2 q)⟩
theorem KST_fe (S : KST c hp s h1 s1 α β γ) {Z : List (List Int)} (C : CL c h1 s1 u y e Z) (hy : hp.length ≤ y) (F : KFE y h1 h2) : KST c hp s h2 s1 α β γ := ⟨CL_KI C F S.1, S.2.1, S.2.2.1, S.2.2.2.1, KFE_kx S.2.2.2.2.1 hy F, S.2.2.2.2.2⟩
theorem KST_w (S : KST c hp s h1 s1 α β γ) (h1' : α ≤ α1) (h2' : β ≤ β1) (h3' : γ ≤ γ1) : KST c hp s h1 s1 α1 β1 γ1 := ⟨S.1, S.2.1, S.2.2.1, S.2.2.2.1, kx_w S.2.2.2.2.1 h1' h2', by have := S.2.2.2.2.2.1; omega, S.2.2.2.2.2.2⟩
theorem KST_PS (h : KPS c hp s NM) (S : KST c hp s h1 s1 α β γ) (l : s.I 8 + γ ≤ 25000) : KPS c h1 s1 NM := by
  obtain ⟨a1, a2, a3, a4, a5, a6, a7, a8, a9⟩ := h
  obtain ⟨b1, b2, b3, b4, b5, b6, b7⟩ := S
  have i := fun j p q r t u w => b4.2.2.1 j p q r t u w
  refine ⟨b1, b2, b3, OC_kx a4 b5, BF_kx a5 b5 b4.2.2.2.1 (i 27 (by decide) (by decide) (by decide) (by decide) (by decide) (by decide)) (by rw [b4.1]), BT_kx a6 b5 b4.2.2.2.1 (i 28 (by decide) (by decide) (by decide) (by decide) (by decide) (by decide)) (by rw [b4.1]), ?_, by omega, KNT_st a9 a3 a2 b4 (b7 a9.1)⟩
  rw [i 14 (by decide) (by decide) (by decide) (by decide) (by decide) (by decide)]
  exact a7
theorem KST_wI {j : Nat} {x : Int} (S : KST c hp s h1 s1 α β γ) (hj : 17 ≤ j ∧ j ≤ 19) (K : KI c h2 (s1.wI j x)) (X : kx c h1 s1 h2 (s1.wI j x) 0 0) (x0 : -2147483648 ≤ x) (x1 : x ≤ 2147483647) : KST c hp s h2 (s1.wI j x) α β γ := by
  have e8 : (s1.wI j x).I 8 = s1.I 8 := su_ne (by omega)
  refine ⟨K, KB_wF S.2.1 x0 x1 (by omega), KSA_CI (s := s1) ⟨rfl, rfl, e8⟩ S.2.2.1, PFR_tr S.2.2.2.1 (PFR_wI hj), kx_w (kx_tr S.2.2.2.2.1 X) (by omega) (by omega), by rw [e8]; exact S.2.2.2.2.2.1, fun q => KQ_e (s := s1) rfl rfl rfl rfl e8 (S.2.2.2.2.2.2 q)⟩
theorem KST_TM {n : Int} {f : Int → Int} {a0 : Nat} (S : KST c hp s h1 s1 α β γ) (T : TM c hp s u a0 n f) : TM c h1 s1 u a0 n f := TM_kx T S.2.2.2.2.1
end STS
theorem kq_failBy (z : Value) (d c : Nat) (x : Int) (hp : xx_H) (s : KS) (hK : KI c hp s) : xx_cl (xt_P z) (d + 1) 246 [.ref (c + 30), .int (iI x)] hp (fun v h1 => v = some .null ∧ KI c h1 (s.wI 18 x) ∧ kx c hp s h1 (s.wI 18 x) 0 0) := by
  have hX := kx_rf (c := c) (hp := hp) (s := s)
  refine cl_go rfl ?_
  show xx_go (xt_P z) d 246 0 [some (.ref (c + 30)), some (.int (iI x))] [] hp _
  refine go_a (pc' := 1) (ls' := [some (.ref (c + 30)), some (.int (iI x))]) (st' := [.ref (c + 30)]) rfl rfl ?_
  refine go_a (pc' := 2) (ls' := [some (.ref (c + 30)), some (.int (iI x))]) (st' := [.int (iI x), .ref (c + 30)]) rfl rfl ?_
  refine kput_18 (x := x) hK hX rfl rfl (fun hp1 hK hX => ?_)
  refine go_a (pc' := 6) (ls' := [some (.ref (c + 30)), some (.int (iI x))]) (st' := [.null]) rfl rfl ?_
  exact go_r rfl rfl rfl rfl rfl rfl ⟨rfl, hK, hX⟩
theorem kq_failAt (z : Value) (d c : Nat) (x : Int) (hp : xx_H) (s : KS) (hK : KI c hp s) : xx_cl (xt_P z) (d + 1) 248 [.ref (c + 30), .int (iI x)] hp (fun v h1 => v = some .null ∧ KI c h1 (s.wI 19 x) ∧ kx c hp s h1 (s.wI 19 x) 0 0) := by
  have hX := kx_rf (c := c) (hp := hp) (s := s)
  refine cl_go rfl ?_
  show xx_go (xt_P z) d 248 0 [some (.ref (c + 30)), some (.int (iI x))] [] hp _
  refine go_a (pc' := 1) (ls' := [some (.ref (c + 30)), some (.int (iI x))]) (st' := [.ref (c + 30)]) rfl rfl ?_
  refine go_a (pc' := 2) (ls' := [some (.ref (c + 30)), some (.int (iI x))]) (st' := [.int (iI x), .ref (c + 30)]) rfl rfl ?_
  refine kput_19 (x := x) hK hX rfl rfl (fun hp1 hK hX => ?_)
  refine go_a (pc' := 6) (ls' := [some (.ref (c + 30)), some (.int (iI x))]) (st' := [.null]) rfl rfl ?_
  exact go_r rfl rfl rfl rfl rfl rfl ⟨rfl, hK, hX⟩
theorem kq_finished (z : Value) (d c : Nat) (hp : xx_H) (s : KS) (u : Int) (x : Nat) (b : Int) (Z : List (List Int)) (hK : KI c hp s) (hC : CL c hp s u x b Z) : xx_cl (xt_P z) (d + 2) 265 [.ref (c + 30), .ref x] hp (fun v h1 => (v = some .null ∧ KI c h1 (s.wI 18 4) ∧ kx c hp s h1 (s.wI 18 4) 0 0 ∧ b = 1) ∨ (v = some (.ref x) ∧ b = 0 ∧ h1 = hp)) := by
  obtain ⟨m, w, O, nO, fO, hC, -⟩ := hC
  refine cl_go rfl ?_
  show xx_go (xt_P z) (d + 1) 265 0 [some (.ref (c + 30)), some (.ref x)] [] hp _
  refine go_a (pc' := 1) (ls' := [some (.ref (c + 30)), some (.ref x)]) (st' := [.ref x]) rfl rfl ?_
  refine go_v (m := 266) (as := [.ref x]) (r := []) rfl rfl rfl hC.1 rfl rfl (kh_isTooBig z d c hp s u x m w b O nO fO hC) (fun v h3 hq => ?_)
  obtain ⟨rfl, e9⟩ := hq
  rw [e9]
  clear e9 h3
  show xx_go (xt_P z) (d + 1) 265 4 [some (.ref (c + 30)), some (.ref x)] [.int (iI b)] hp _
  have b01 := hC.2.2.2.2.2.1
  refine mi_eq0 (t := 15) rfl rfl (by omega) (by omega) (fun w1 => ?_) (fun w1 => ?_)
  · refine go_a (pc' := 16) (ls' := [some (.ref (c + 30)), some (.ref x)]) (st' := [.ref x]) rfl rfl ?_
    exact go_r rfl rfl rfl rfl rfl rfl (Or.inr ⟨rfl, w1, rfl⟩)
  · refine go_a (pc' := 8) (ls' := [some (.ref (c + 30)), some (.ref x)]) (st' := [.ref (c + 30)]) rfl rfl ?_
    refine go_a (pc' := 9) (ls' := [some (.ref (c + 30)), some (.ref x)]) (st' := [.int (iI 4), .ref (c + 30)]) rfl rfl ?_
    refine go_v (m := 246) (as := [.ref (c + 30), .int (iI 4)]) (r := []) rfl rfl rfl (hK.1 19 (by decide)) rfl rfl (kq_failBy z d c 4 hp s hK) (fun v h3 hq => ?_)
    obtain ⟨rfl, K1, X1⟩ := hq
    show xx_go (xt_P z) (d + 1) 265 12 [some (.ref (c + 30)), some (.ref x)] [.null] h3 _
    refine go_a (pc' := 16) (ls' := [some (.ref (c + 30)), some (.ref x)]) (st' := [.null]) rfl rfl ?_
    exact go_r rfl rfl rfl rfl rfl rfl (Or.inl ⟨rfl, K1, X1, by omega⟩)
theorem kq_truth (z : Value) (d : Nat) (x : Int) (hp : xx_H) (x0 : -2147483648 ≤ x) (x1 : x ≤ 2147483647) : xx_cl (xt_P z) (d + 1) 254 [.int (iI x)] hp (fun v h1 => (∃ y : Int, v = some (.int (iI y)) ∧ (y = 0 ∨ y = 1) ∧ y = if x = 0 then 0 else 1) ∧ h1 = hp) := by
  refine cl_go rfl ?_
  show xx_go (xt_P z) d 254 0 [some (.int (iI x))] [] hp _
  refine go_a (pc' := 1) (ls' := [some (.int (iI x))]) (st' := [.int (iI x)]) rfl rfl ?_
  refine mi_eq0 (t := 8) rfl rfl (by omega) (by omega) (fun w1 => ?_) (fun w1 => ?_)
  · refine go_a (pc' := 9) (ls' := [some (.int (iI x))]) (st' := [.int (iI 0)]) rfl rfl ?_
    exact go_r rfl rfl rfl rfl rfl rfl ⟨⟨0, rfl, Or.inl rfl, by rw [if_pos w1]⟩, rfl⟩
  · refine go_a (pc' := 5) (ls' := [some (.int (iI x))]) (st' := [.int (iI 1)]) rfl rfl ?_
    refine go_a (pc' := 9) (ls' := [some (.int (iI x))]) (st' := [.int (iI 1)]) rfl rfl ?_
    exact go_r rfl rfl rfl rfl rfl rfl ⟨⟨1, rfl, Or.inr rfl, by rw [if_neg w1]⟩, rfl⟩
def LOF (r l : Int) : Prop := (r = 34 → 2 ≤ l) ∧ (r = 37 → 3 ≤ l) ∧ ((r = 28 ∨ r = 29 ∨ r = 33) → l = 4) ∧ ((r = 25 ∨ r = 26 ∨ r = 27 ∨ r = 32 ∨ r = 36) → l = 3) ∧ ((r = 22 ∨ r = 23 ∨ r = 24 ∨ r = 30 ∨ r = 31 ∨ r = 35) → l = 2)
theorem kq_isLengthOf (z : Value) (d : Nat) (r l : Int) (hp : xx_H) (r0 : 22 ≤ r) (r1 : r ≤ 37) (l0 : -1 ≤ l) (l1 : l ≤ 140000) : xx_cl (xt_P z) (d + 1) 247 [.int (iI r), .int (iI l)] hp (fun v h1 => ((v = some (.int (iI 1)) ∧ LOF r l) ∨ (v = some (.int (iI 0)) ∧ ¬ LOF r l)) ∧ h1 = hp) := by
  have hr : r = 22 ∨ r = 23 ∨ r = 24 ∨ r = 25 ∨ r = 26 ∨ r = 27 ∨ r = 28 ∨ r = 29 ∨ r = 30 ∨ r = 31 ∨ r = 32 ∨ r = 33 ∨ r = 34 ∨ r = 35 ∨ r = 36 ∨ r = 37 := by omega
  rcases hr with rfl | rfl | rfl | rfl | rfl | rfl | rfl | rfl | rfl | rfl | rfl | rfl | rfl | rfl | rfl | rfl
  · refine cl_go rfl ?_
    show xx_go (xt_P z) d 247 0 [some (.int (iI 22)), some (.int (iI l))] [] hp _
    refine go_a (pc' := 1) (ls' := [some (.int (iI 22)), some (.int (iI l))]) (st' := [.int (iI 22)]) rfl rfl ?_
    refine go_a (pc' := 112) (ls' := [some (.int (iI 22)), some (.int (iI l))]) (st' := []) rfl rfl ?_
    refine go_a (pc' := 113) (ls' := [some (.int (iI 22)), some (.int (iI l))]) (st' := [.int (iI l)]) rfl rfl ?_
    refine go_a (pc' := 114) (ls' := [some (.int (iI 22)), some (.int (iI l))]) (st' := [.int (iI 2), .int (iI l)]) rfl rfl ?_
    refine mi_ne (t := 121) rfl rfl (by omega) (by omega) (by omega) (by omega) (fun w1 => ?_) (fun w1 => ?_)
    · refine go_a (pc' := 122) (ls' := [some (.int (iI 22)), some (.int (iI l))]) (st' := [.int (iI 0)]) rfl rfl ?_
      exact go_r rfl rfl rfl rfl rfl rfl ⟨Or.inr ⟨rfl, by unfold LOF; omega⟩, rfl⟩
    · refine go_a (pc' := 118) (ls' := [some (.int (iI 22)), some (.int (iI l))]) (st' := [.int (iI 1)]) rfl rfl ?_
      refine go_a (pc' := 122) (ls' := [some (.int (iI 22)), some (.int (iI l))]) (st' := [.int (iI 1)]) rfl rfl ?_
      exact go_r rfl rfl rfl rfl rfl rfl ⟨Or.inl ⟨rfl, by unfold LOF; omega⟩, rfl⟩
  · refine cl_go rfl ?_
    show xx_go (xt_P z) d 247 0 [some (.int (iI 23)), some (.int (iI l))] [] hp _
    refine go_a (pc' := 1) (ls' := [some (.int (iI 23)), some (.int (iI l))]) (st' := [.int (iI 23)]) rfl rfl ?_
    refine go_a (pc' := 112) (ls' := [some (.int (iI 23)), some (.int (iI l))]) (st' := []) rfl rfl ?_
    refine go_a (pc' := 113) (ls' := [some (.int (iI 23)), some (.int (iI l))]) (st' := [.int (iI l)]) rfl rfl ?_
    refine go_a (pc' := 114) (ls' := [some (.int (iI 23)), some (.int (iI l))]) (st' := [.int (iI 2), .int (iI l)]) rfl rfl ?_
    refine mi_ne (t := 121) rfl rfl (by omega) (by omega) (by omega) (by omega) (fun w1 => ?_) (fun w1 => ?_)
    · refine go_a (pc' := 122) (ls' := [some (.int (iI 23)), some (.int (iI l))]) (st' := [.int (iI 0)]) rfl rfl ?_
      exact go_r rfl rfl rfl rfl rfl rfl ⟨Or.inr ⟨rfl, by unfold LOF; omega⟩, rfl⟩
    · refine go_a (pc' := 118) (ls' := [some (.int (iI 23)), some (.int (iI l))]) (st' := [.int (iI 1)]) rfl rfl ?_
      refine go_a (pc' := 122) (ls' := [some (.int (iI 23)), some (.int (iI l))]) (st' := [.int (iI 1)]) rfl rfl ?_
      exact go_r rfl rfl rfl rfl rfl rfl ⟨Or.inl ⟨rfl, by unfold LOF; omega⟩, rfl⟩
  · refine cl_go rfl ?_
    show xx_go (xt_P z) d 247 0 [some (.int (iI 24)), some (.int (iI l))] [] hp _
    refine go_a (pc' := 1) (ls' := [some (.int (iI 24)), some (.int (iI l))]) (st' := [.int (iI 24)]) rfl rfl ?_
    refine go_a (pc' := 112) (ls' := [some (.int (iI 24)), some (.int (iI l))]) (st' := []) rfl rfl ?_
    refine go_a (pc' := 113) (ls' := [some (.int (iI 24)), some (.int (iI l))]) (st' := [.int (iI l)]) rfl rfl ?_
    refine go_a (pc' := 114) (ls' := [some (.int (iI 24)), some (.int (iI l))]) (st' := [.int (iI 2), .int (iI l)]) rfl rfl ?_
    refine mi_ne (t := 121) rfl rfl (by omega) (by omega) (by omega) (by omega) (fun w1 => ?_) (fun w1 => ?_)
    · refine go_a (pc' := 122) (ls' := [some (.int (iI 24)), some (.int (iI l))]) (st' := [.int (iI 0)]) rfl rfl ?_
      exact go_r rfl rfl rfl rfl rfl rfl ⟨Or.inr ⟨rfl, by unfold LOF; omega⟩, rfl⟩
    · refine go_a (pc' := 118) (ls' := [some (.int (iI 24)), some (.int (iI l))]) (st' := [.int (iI 1)]) rfl rfl ?_
      refine go_a (pc' := 122) (ls' := [some (.int (iI 24)), some (.int (iI l))]) (st' := [.int (iI 1)]) rfl rfl ?_
      exact go_r rfl rfl rfl rfl rfl rfl ⟨Or.inl ⟨rfl, by unfold LOF; omega⟩, rfl⟩
  · refine cl_go rfl ?_
    show xx_go (xt_P z) d 247 0 [some (.int (iI 25)), some (.int (iI l))] [] hp _
    refine go_a (pc' := 1) (ls' := [some (.int (iI 25)), some (.int (iI l))]) (st' := [.int (iI 25)]) rfl rfl ?_
    refine go_a (pc' := 101) (ls' := [some (.int (iI 25)), some (.int (iI l))]) (st' := []) rfl rfl ?_
    refine go_a (pc' := 102) (ls' := [some (.int (iI 25)), some (.int (iI l))]) (st' := [.int (iI l)]) rfl rfl ?_
    refine go_a (pc' := 103) (ls' := [some (.int (iI 25)), some (.int (iI l))]) (st' := [.int (iI 3), .int (iI l)]) rfl rfl ?_
    refine mi_ne (t := 110) rfl rfl (by omega) (by omega) (by omega) (by omega) (fun w1 => ?_) (fun w1 => ?_)
    · refine go_a (pc' := 111) (ls' := [some (.int (iI 25)), some (.int (iI l))]) (st' := [.int (iI 0)]) rfl rfl ?_
      exact go_r rfl rfl rfl rfl rfl rfl ⟨Or.inr ⟨rfl, by unfold LOF; omega⟩, rfl⟩
    · refine go_a (pc' := 107) (ls' := [some (.int (iI 25)), some (.int (iI l))]) (st' := [.int (iI 1)]) rfl rfl ?_
      refine go_a (pc' := 111) (ls' := [some (.int (iI 25)), some (.int (iI l))]) (st' := [.int (iI 1)]) rfl rfl ?_
      exact go_r rfl rfl rfl rfl rfl rfl ⟨Or.inl ⟨rfl, by unfold LOF; omega⟩, rfl⟩
  · refine cl_go rfl ?_
    show xx_go (xt_P z) d 247 0 [some (.int (iI 26)), some (.int (iI l))] [] hp _
    refine go_a (pc' := 1) (ls' := [some (.int (iI 26)), some (.int (iI l))]) (st' := [.int (iI 26)]) rfl rfl ?_
    refine go_a (pc' := 101) (ls' := [some (.int (iI 26)), some (.int (iI l))]) (st' := []) rfl rfl ?_
    refine go_a (pc' := 102) (ls' := [some (.int (iI 26)), some (.int (iI l))]) (st' := [.int (iI l)]) rfl rfl ?_
    refine go_a (pc' := 103) (ls' := [some (.int (iI 26)), some (.int (iI l))]) (st' := [.int (iI 3), .int (iI l)]) rfl rfl ?_
    refine mi_ne (t := 110) rfl rfl (by omega) (by omega) (by omega) (by omega) (fun w1 => ?_) (fun w1 => ?_)
    · refine go_a (pc' := 111) (ls' := [some (.int (iI 26)), some (.int (iI l))]) (st' := [.int (iI 0)]) rfl rfl ?_
      exact go_r rfl rfl rfl rfl rfl rfl ⟨Or.inr ⟨rfl, by unfold LOF; omega⟩, rfl⟩
    · refine go_a (pc' := 107) (ls' := [some (.int (iI 26)), some (.int (iI l))]) (st' := [.int (iI 1)]) rfl rfl ?_
      refine go_a (pc' := 111) (ls' := [some (.int (iI 26)), some (.int (iI l))]) (st' := [.int (iI 1)]) rfl rfl ?_
      exact go_r rfl rfl rfl rfl rfl rfl ⟨Or.inl ⟨rfl, by unfold LOF; omega⟩, rfl⟩
  · refine cl_go rfl ?_
    show xx_go (xt_P z) d 247 0 [some (.int (iI 27)), some (.int (iI l))] [] hp _
    refine go_a (pc' := 1) (ls' := [some (.int (iI 27)), some (.int (iI l))]) (st' := [.int (iI 27)]) rfl rfl ?_
    refine go_a (pc' := 101) (ls' := [some (.int (iI 27)), some (.int (iI l))]) (st' := []) rfl rfl ?_
    refine go_a (pc' := 102) (ls' := [some (.int (iI 27)), some (.int (iI l))]) (st' := [.int (iI l)]) rfl rfl ?_
    refine go_a (pc' := 103) (ls' := [some (.int (iI 27)), some (.int (iI l))]) (st' := [.int (iI 3), .int (iI l)]) rfl rfl ?_
    refine mi_ne (t := 110) rfl rfl (by omega) (by omega) (by omega) (by omega) (fun w1 => ?_) (fun w1 => ?_)
    · refine go_a (pc' := 111) (ls' := [some (.int (iI 27)), some (.int (iI l))]) (st' := [.int (iI 0)]) rfl rfl ?_
      exact go_r rfl rfl rfl rfl rfl rfl ⟨Or.inr ⟨rfl, by unfold LOF; omega⟩, rfl⟩
    · refine go_a (pc' := 107) (ls' := [some (.int (iI 27)), some (.int (iI l))]) (st' := [.int (iI 1)]) rfl rfl ?_
      refine go_a (pc' := 111) (ls' := [some (.int (iI 27)), some (.int (iI l))]) (st' := [.int (iI 1)]) rfl rfl ?_
      exact go_r rfl rfl rfl rfl rfl rfl ⟨Or.inl ⟨rfl, by unfold LOF; omega⟩, rfl⟩
  · refine cl_go rfl ?_
    show xx_go (xt_P z) d 247 0 [some (.int (iI 28)), some (.int (iI l))] [] hp _
    refine go_a (pc' := 1) (ls' := [some (.int (iI 28)), some (.int (iI l))]) (st' := [.int (iI 28)]) rfl rfl ?_
    refine go_a (pc' := 90) (ls' := [some (.int (iI 28)), some (.int (iI l))]) (st' := []) rfl rfl ?_
    refine go_a (pc' := 91) (ls' := [some (.int (iI 28)), some (.int (iI l))]) (st' := [.int (iI l)]) rfl rfl ?_
    refine go_a (pc' := 92) (ls' := [some (.int (iI 28)), some (.int (iI l))]) (st' := [.int (iI 4), .int (iI l)]) rfl rfl ?_
    refine mi_ne (t := 99) rfl rfl (by omega) (by omega) (by omega) (by omega) (fun w1 => ?_) (fun w1 => ?_)
    · refine go_a (pc' := 100) (ls' := [some (.int (iI 28)), some (.int (iI l))]) (st' := [.int (iI 0)]) rfl rfl ?_
      exact go_r rfl rfl rfl rfl rfl rfl ⟨Or.inr ⟨rfl, by unfold LOF; omega⟩, rfl⟩
    · refine go_a (pc' := 96) (ls' := [some (.int (iI 28)), some (.int (iI l))]) (st' := [.int (iI 1)]) rfl rfl ?_
      refine go_a (pc' := 100) (ls' := [some (.int (iI 28)), some (.int (iI l))]) (st' := [.int (iI 1)]) rfl rfl ?_
      exact go_r rfl rfl rfl rfl rfl rfl ⟨Or.inl ⟨rfl, by unfold LOF; omega⟩, rfl⟩
  · refine cl_go rfl ?_
    show xx_go (xt_P z) d 247 0 [some (.int (iI 29)), some (.int (iI l))] [] hp _
    refine go_a (pc' := 1) (ls' := [some (.int (iI 29)), some (.int (iI l))]) (st' := [.int (iI 29)]) rfl rfl ?_
    refine go_a (pc' := 90) (ls' := [some (.int (iI 29)), some (.int (iI l))]) (st' := []) rfl rfl ?_
    refine go_a (pc' := 91) (ls' := [some (.int (iI 29)), some (.int (iI l))]) (st' := [.int (iI l)]) rfl rfl ?_
    refine go_a (pc' := 92) (ls' := [some (.int (iI 29)), some (.int (iI l))]) (st' := [.int (iI 4), .int (iI l)]) rfl rfl ?_
    refine mi_ne (t := 99) rfl rfl (by omega) (by omega) (by omega) (by omega) (fun w1 => ?_) (fun w1 => ?_)
    · refine go_a (pc' := 100) (ls' := [some (.int (iI 29)), some (.int (iI l))]) (st' := [.int (iI 0)]) rfl rfl ?_
      exact go_r rfl rfl rfl rfl rfl rfl ⟨Or.inr ⟨rfl, by unfold LOF; omega⟩, rfl⟩
    · refine go_a (pc' := 96) (ls' := [some (.int (iI 29)), some (.int (iI l))]) (st' := [.int (iI 1)]) rfl rfl ?_
      refine go_a (pc' := 100) (ls' := [some (.int (iI 29)), some (.int (iI l))]) (st' := [.int (iI 1)]) rfl rfl ?_
      exact go_r rfl rfl rfl rfl rfl rfl ⟨Or.inl ⟨rfl, by unfold LOF; omega⟩, rfl⟩
  · refine cl_go rfl ?_
    show xx_go (xt_P z) d 247 0 [some (.int (iI 30)), some (.int (iI l))] [] hp _
    refine go_a (pc' := 1) (ls' := [some (.int (iI 30)), some (.int (iI l))]) (st' := [.int (iI 30)]) rfl rfl ?_
    refine go_a (pc' := 112) (ls' := [some (.int (iI 30)), some (.int (iI l))]) (st' := []) rfl rfl ?_
    refine go_a (pc' := 113) (ls' := [some (.int (iI 30)), some (.int (iI l))]) (st' := [.int (iI l)]) rfl rfl ?_
    refine go_a (pc' := 114) (ls' := [some (.int (iI 30)), some (.int (iI l))]) (st' := [.int (iI 2), .int (iI l)]) rfl rfl ?_
    refine mi_ne (t := 121) rfl rfl (by omega) (by omega) (by omega) (by omega) (fun w1 => ?_) (fun w1 => ?_)
    · refine go_a (pc' := 122) (ls' := [some (.int (iI 30)), some (.int (iI l))]) (st' := [.int (iI 0)]) rfl rfl ?_
      exact go_r rfl rfl rfl rfl rfl rfl ⟨Or.inr ⟨rfl, by unfold LOF; omega⟩, rfl⟩
    · refine go_a (pc' := 118) (ls' := [some (.int (iI 30)), some (.int (iI l))]) (st' := [.int (iI 1)]) rfl rfl ?_
      refine go_a (pc' := 122) (ls' := [some (.int (iI 30)), some (.int (iI l))]) (st' := [.int (iI 1)]) rfl rfl ?_
      exact go_r rfl rfl rfl rfl rfl rfl ⟨Or.inl ⟨rfl, by unfold LOF; omega⟩, rfl⟩
  · refine cl_go rfl ?_
    show xx_go (xt_P z) d 247 0 [some (.int (iI 31)), some (.int (iI l))] [] hp _
    refine go_a (pc' := 1) (ls' := [some (.int (iI 31)), some (.int (iI l))]) (st' := [.int (iI 31)]) rfl rfl ?_
    refine go_a (pc' := 112) (ls' := [some (.int (iI 31)), some (.int (iI l))]) (st' := []) rfl rfl ?_
    refine go_a (pc' := 113) (ls' := [some (.int (iI 31)), some (.int (iI l))]) (st' := [.int (iI l)]) rfl rfl ?_
    refine go_a (pc' := 114) (ls' := [some (.int (iI 31)), some (.int (iI l))]) (st' := [.int (iI 2), .int (iI l)]) rfl rfl ?_
    refine mi_ne (t := 121) rfl rfl (by omega) (by omega) (by omega) (by omega) (fun w1 => ?_) (fun w1 => ?_)
    · refine go_a (pc' := 122) (ls' := [some (.int (iI 31)), some (.int (iI l))]) (st' := [.int (iI 0)]) rfl rfl ?_
      exact go_r rfl rfl rfl rfl rfl rfl ⟨Or.inr ⟨rfl, by unfold LOF; omega⟩, rfl⟩
    · refine go_a (pc' := 118) (ls' := [some (.int (iI 31)), some (.int (iI l))]) (st' := [.int (iI 1)]) rfl rfl ?_
      refine go_a (pc' := 122) (ls' := [some (.int (iI 31)), some (.int (iI l))]) (st' := [.int (iI 1)]) rfl rfl ?_
      exact go_r rfl rfl rfl rfl rfl rfl ⟨Or.inl ⟨rfl, by unfold LOF; omega⟩, rfl⟩
  · refine cl_go rfl ?_
    show xx_go (xt_P z) d 247 0 [some (.int (iI 32)), some (.int (iI l))] [] hp _
    refine go_a (pc' := 1) (ls' := [some (.int (iI 32)), some (.int (iI l))]) (st' := [.int (iI 32)]) rfl rfl ?_
    refine go_a (pc' := 101) (ls' := [some (.int (iI 32)), some (.int (iI l))]) (st' := []) rfl rfl ?_
    refine go_a (pc' := 102) (ls' := [some (.int (iI 32)), some (.int (iI l))]) (st' := [.int (iI l)]) rfl rfl ?_
    refine go_a (pc' := 103) (ls' := [some (.int (iI 32)), some (.int (iI l))]) (st' := [.int (iI 3), .int (iI l)]) rfl rfl ?_
    refine mi_ne (t := 110) rfl rfl (by omega) (by omega) (by omega) (by omega) (fun w1 => ?_) (fun w1 => ?_)
    · refine go_a (pc' := 111) (ls' := [some (.int (iI 32)), some (.int (iI l))]) (st' := [.int (iI 0)]) rfl rfl ?_
      exact go_r rfl rfl rfl rfl rfl rfl ⟨Or.inr ⟨rfl, by unfold LOF; omega⟩, rfl⟩
    · refine go_a (pc' := 107) (ls' := [some (.int (iI 32)), some (.int (iI l))]) (st' := [.int (iI 1)]) rfl rfl ?_
      refine go_a (pc' := 111) (ls' := [some (.int (iI 32)), some (.int (iI l))]) (st' := [.int (iI 1)]) rfl rfl ?_
      exact go_r rfl rfl rfl rfl rfl rfl ⟨Or.inl ⟨rfl, by unfold LOF; omega⟩, rfl⟩
  · refine cl_go rfl ?_
    show xx_go (xt_P z) d 247 0 [some (.int (iI 33)), some (.int (iI l))] [] hp _
    refine go_a (pc' := 1) (ls' := [some (.int (iI 33)), some (.int (iI l))]) (st' := [.int (iI 33)]) rfl rfl ?_
    refine go_a (pc' := 90) (ls' := [some (.int (iI 33)), some (.int (iI l))]) (st' := []) rfl rfl ?_
    refine go_a (pc' := 91) (ls' := [some (.int (iI 33)), some (.int (iI l))]) (st' := [.int (iI l)]) rfl rfl ?_
    refine go_a (pc' := 92) (ls' := [some (.int (iI 33)), some (.int (iI l))]) (st' := [.int (iI 4), .int (iI l)]) rfl rfl ?_
    refine mi_ne (t := 99) rfl rfl (by omega) (by omega) (by omega) (by omega) (fun w1 => ?_) (fun w1 => ?_)
    · refine go_a (pc' := 100) (ls' := [some (.int (iI 33)), some (.int (iI l))]) (st' := [.int (iI 0)]) rfl rfl ?_
      exact go_r rfl rfl rfl rfl rfl rfl ⟨Or.inr ⟨rfl, by unfold LOF; omega⟩, rfl⟩
    · refine go_a (pc' := 96) (ls' := [some (.int (iI 33)), some (.int (iI l))]) (st' := [.int (iI 1)]) rfl rfl ?_
      refine go_a (pc' := 100) (ls' := [some (.int (iI 33)), some (.int (iI l))]) (st' := [.int (iI 1)]) rfl rfl ?_
      exact go_r rfl rfl rfl rfl rfl rfl ⟨Or.inl ⟨rfl, by unfold LOF; omega⟩, rfl⟩
  · refine cl_go rfl ?_
    show xx_go (xt_P z) d 247 0 [some (.int (iI 34)), some (.int (iI l))] [] hp _
    refine go_a (pc' := 1) (ls' := [some (.int (iI 34)), some (.int (iI l))]) (st' := [.int (iI 34)]) rfl rfl ?_
    refine go_a (pc' := 68) (ls' := [some (.int (iI 34)), some (.int (iI l))]) (st' := []) rfl rfl ?_
    refine go_a (pc' := 69) (ls' := [some (.int (iI 34)), some (.int (iI l))]) (st' := [.int (iI l)]) rfl rfl ?_
    refine go_a (pc' := 70) (ls' := [some (.int (iI 34)), some (.int (iI l))]) (st' := [.int (iI 2), .int (iI l)]) rfl rfl ?_
    refine mi_lt (t := 77) rfl rfl (by omega) (by omega) (by omega) (by omega) (fun w1 => ?_) (fun w1 => ?_)
    · refine go_a (pc' := 78) (ls' := [some (.int (iI 34)), some (.int (iI l))]) (st' := [.int (iI 0)]) rfl rfl ?_
      exact go_r rfl rfl rfl rfl rfl rfl ⟨Or.inr ⟨rfl, by unfold LOF; omega⟩, rfl⟩
    · refine go_a (pc' := 74) (ls' := [some (.int (iI 34)), some (.int (iI l))]) (st' := [.int (iI 1)]) rfl rfl ?_
      refine go_a (pc' := 78) (ls' := [some (.int (iI 34)), some (.int (iI l))]) (st' := [.int (iI 1)]) rfl rfl ?_
      exact go_r rfl rfl rfl rfl rfl rfl ⟨Or.inl ⟨rfl, by unfold LOF; omega⟩, rfl⟩
  · refine cl_go rfl ?_
    show xx_go (xt_P z) d 247 0 [some (.int (iI 35)), some (.int (iI l))] [] hp _
    refine go_a (pc' := 1) (ls' := [some (.int (iI 35)), some (.int (iI l))]) (st' := [.int (iI 35)]) rfl rfl ?_
    refine go_a (pc' := 112) (ls' := [some (.int (iI 35)), some (.int (iI l))]) (st' := []) rfl rfl ?_
    refine go_a (pc' := 113) (ls' := [some (.int (iI 35)), some (.int (iI l))]) (st' := [.int (iI l)]) rfl rfl ?_
    refine go_a (pc' := 114) (ls' := [some (.int (iI 35)), some (.int (iI l))]) (st' := [.int (iI 2), .int (iI l)]) rfl rfl ?_
    refine mi_ne (t := 121) rfl rfl (by omega) (by omega) (by omega) (by omega) (fun w1 => ?_) (fun w1 => ?_)
    · refine go_a (pc' := 122) (ls' := [some (.int (iI 35)), some (.int (iI l))]) (st' := [.int (iI 0)]) rfl rfl ?_
      exact go_r rfl rfl rfl rfl rfl rfl ⟨Or.inr ⟨rfl, by unfold LOF; omega⟩, rfl⟩
    · refine go_a (pc' := 118) (ls' := [some (.int (iI 35)), some (.int (iI l))]) (st' := [.int (iI 1)]) rfl rfl ?_
      refine go_a (pc' := 122) (ls' := [some (.int (iI 35)), some (.int (iI l))]) (st' := [.int (iI 1)]) rfl rfl ?_
      exact go_r rfl rfl rfl rfl rfl rfl ⟨Or.inl ⟨rfl, by unfold LOF; omega⟩, rfl⟩
  · refine cl_go rfl ?_
    show xx_go (xt_P z) d 247 0 [some (.int (iI 36)), some (.int (iI l))] [] hp _
    refine go_a (pc' := 1) (ls' := [some (.int (iI 36)), some (.int (iI l))]) (st' := [.int (iI 36)]) rfl rfl ?_
    refine go_a (pc' := 101) (ls' := [some (.int (iI 36)), some (.int (iI l))]) (st' := []) rfl rfl ?_
    refine go_a (pc' := 102) (ls' := [some (.int (iI 36)), some (.int (iI l))]) (st' := [.int (iI l)]) rfl rfl ?_
    refine go_a (pc' := 103) (ls' := [some (.int (iI 36)), some (.int (iI l))]) (st' := [.int (iI 3), .int (iI l)]) rfl rfl ?_
    refine mi_ne (t := 110) rfl rfl (by omega) (by omega) (by omega) (by omega) (fun w1 => ?_) (fun w1 => ?_)
    · refine go_a (pc' := 111) (ls' := [some (.int (iI 36)), some (.int (iI l))]) (st' := [.int (iI 0)]) rfl rfl ?_
      exact go_r rfl rfl rfl rfl rfl rfl ⟨Or.inr ⟨rfl, by unfold LOF; omega⟩, rfl⟩
    · refine go_a (pc' := 107) (ls' := [some (.int (iI 36)), some (.int (iI l))]) (st' := [.int (iI 1)]) rfl rfl ?_
      refine go_a (pc' := 111) (ls' := [some (.int (iI 36)), some (.int (iI l))]) (st' := [.int (iI 1)]) rfl rfl ?_
      exact go_r rfl rfl rfl rfl rfl rfl ⟨Or.inl ⟨rfl, by unfold LOF; omega⟩, rfl⟩
  · refine cl_go rfl ?_
    show xx_go (xt_P z) d 247 0 [some (.int (iI 37)), some (.int (iI l))] [] hp _
    refine go_a (pc' := 1) (ls' := [some (.int (iI 37)), some (.int (iI l))]) (st' := [.int (iI 37)]) rfl rfl ?_
    refine go_a (pc' := 79) (ls' := [some (.int (iI 37)), some (.int (iI l))]) (st' := []) rfl rfl ?_
    refine go_a (pc' := 80) (ls' := [some (.int (iI 37)), some (.int (iI l))]) (st' := [.int (iI l)]) rfl rfl ?_
    refine go_a (pc' := 81) (ls' := [some (.int (iI 37)), some (.int (iI l))]) (st' := [.int (iI 3), .int (iI l)]) rfl rfl ?_
    refine mi_lt (t := 88) rfl rfl (by omega) (by omega) (by omega) (by omega) (fun w1 => ?_) (fun w1 => ?_)
    · refine go_a (pc' := 89) (ls' := [some (.int (iI 37)), some (.int (iI l))]) (st' := [.int (iI 0)]) rfl rfl ?_
      exact go_r rfl rfl rfl rfl rfl rfl ⟨Or.inr ⟨rfl, by unfold LOF; omega⟩, rfl⟩
    · refine go_a (pc' := 85) (ls' := [some (.int (iI 37)), some (.int (iI l))]) (st' := [.int (iI 1)]) rfl rfl ?_
      refine go_a (pc' := 89) (ls' := [some (.int (iI 37)), some (.int (iI l))]) (st' := [.int (iI 1)]) rfl rfl ?_
      exact go_r rfl rfl rfl rfl rfl rfl ⟨Or.inl ⟨rfl, by unfold LOF; omega⟩, rfl⟩
theorem kq_const_loop (z : Value) (d : Nat) (a q : Nat) (n : Int) (f : Int → Int) (hp : xx_H) (hT : KTL hp a q n f) (c2 : f 0 % 4 = 2) (c3 : f 0 / 32 < 17) : ∀ (x : Nat) (k : Int), (n - k).toNat ≤ x → 1 ≤ k → k ≤ 200 → (∀ i : Int, 1 ≤ i → i < k → f i % 4 = 1) → xx_go (xt_P z) (d + 1) 250 26 [some (.ref a), some (.int (iI (f 0))), some (.int (iI k))] [] hp (fun v h1 => ((v = some (.int (iI 1)) ∧ f 0 % 4 = 2 ∧ f 0 / 32 < 17 ∧ ∀ i : Int, 1 ≤ i → i < n → f i % 4 = 1) ∨ (v = some (.int (iI 0)) ∧ ¬ (f 0 % 4 = 2 ∧ f 0 / 32 < 17 ∧ ∀ i : Int, 1 ≤ i → i < n → f i % 4 = 1))) ∧ h1 = hp) := by
  have b := hT.2.2.1
  intro x
  induction x with
  | zero =>
    intro k hx k0 k1 hk
    refine go_a (pc' := 27) (ls' := [some (.ref a), some (.int (iI (f 0))), some (.int (iI k))]) (st' := [.int (iI k)]) rfl rfl ?_
    refine go_a (pc' := 28) (ls' := [some (.ref a), some (.int (iI (f 0))), some (.int (iI k))]) (st' := [.ref a, .int (iI k)]) rfl rfl ?_
    refine go_v (m := 229) (as := [.ref a]) (r := [.int (iI k)]) rfl rfl rfl hT.1 rfl rfl (kg_length z d a q n f hp hT) (fun v h3 hq => ?_)
    obtain ⟨rfl, e9⟩ := hq
    rw [e9]
    clear e9 h3
    show xx_go (xt_P z) (d + 1) 250 31 [some (.ref a), some (.int (iI (f 0))), some (.int (iI k))] [.int (iI n), .int (iI k)] hp _
    refine mi_ge (t := 53) rfl rfl (by omega) (by omega) (by omega) (by omega) (fun _ => ?_) (fun w => absurd (show k ≥ n by omega) w)
    refine go_a (pc' := 54) (ls' := [some (.ref a), some (.int (iI (f 0))), some (.int (iI k))]) (st' := [.int (iI 1)]) rfl rfl ?_
    exact go_r rfl rfl rfl rfl rfl rfl ⟨Or.inl ⟨rfl, c2, c3, fun i i0 i1 => hk i i0 (by omega)⟩, rfl⟩
  | succ x ih =>
    intro k hx k0 k1 hk
    refine go_a (pc' := 27) (ls' := [some (.ref a), some (.int (iI (f 0))), some (.int (iI k))]) (st' := [.int (iI k)]) rfl rfl ?_
    refine go_a (pc' := 28) (ls' := [some (.ref a), some (.int (iI (f 0))), some (.int (iI k))]) (st' := [.ref a, .int (iI k)]) rfl rfl ?_
    refine go_v (m := 229) (as := [.ref a]) (r := [.int (iI k)]) rfl rfl rfl hT.1 rfl rfl (kg_length z d a q n f hp hT) (fun v h3 hq => ?_)
    obtain ⟨rfl, e9⟩ := hq
    rw [e9]
    clear e9 h3
    show xx_go (xt_P z) (d + 1) 250 31 [some (.ref a), some (.int (iI (f 0))), some (.int (iI k))] [.int (iI n), .int (iI k)] hp _
    refine mi_ge (t := 53) rfl rfl (by omega) (by omega) (by omega) (by omega) (fun w1 => ?_) (fun w1 => ?_)
    · refine go_a (pc' := 54) (ls' := [some (.ref a), some (.int (iI (f 0))), some (.int (iI k))]) (st' := [.int (iI 1)]) rfl rfl ?_
      exact go_r rfl rfl rfl rfl rfl rfl ⟨Or.inl ⟨rfl, c2, c3, fun i i0 i1 => hk i i0 (by omega)⟩, rfl⟩
    · have t9 : tat n f k = f k := if_pos (by omega)
      refine go_a (pc' := 35) (ls' := [some (.ref a), some (.int (iI (f 0))), some (.int (iI k))]) (st' := [.ref a]) rfl rfl ?_
      refine go_a (pc' := 36) (ls' := [some (.ref a), some (.int (iI (f 0))), some (.int (iI k))]) (st' := [.int (iI k), .ref a]) rfl rfl ?_
      refine go_v (m := 230) (as := [.ref a, .int (iI k)]) (r := []) rfl rfl rfl hT.1 rfl rfl (kg_at z d k a q n f hp hT (by omega) (by omega)) (fun v h3 hq => ?_)
      obtain ⟨rfl, e9⟩ := hq
      rw [e9, t9]
      clear e9 h3
      show xx_go (xt_P z) (d + 1) 250 39 [some (.ref a), some (.int (iI (f 0))), some (.int (iI k))] [.int (iI (f k))] hp _
      refine go_s (m := 252) (as := [.int (iI (f k))]) (r := []) rfl rfl rfl rfl (kg_isConstant z d (f k) hp) (fun v h3 hq => ?_)
      obtain ⟨hq, e9⟩ := hq
      rw [e9]
      clear e9 h3
      rcases hq with ⟨c1, rfl⟩ | ⟨c1, rfl⟩
      · show xx_go (xt_P z) (d + 1) 250 42 [some (.ref a), some (.int (iI (f 0))), some (.int (iI k))] [.int (iI 1)] hp _
        refine mi_ne0 (t := 47) rfl rfl (by omega) (by omega) (fun _ => ?_) (fun q => absurd (show (1 : Int) ≠ 0 by decide) q)
        refine go_a (pc' := 50) (ls' := [some (.ref a), some (.int (iI (f 0))), some (.int (iI (k + 1)))]) (st' := []) rfl (by rw [← iI_add k 1]; rfl) ?_
        refine go_a (pc' := 26) (ls' := [some (.ref a), some (.int (iI (f 0))), some (.int (iI (k + 1)))]) (st' := []) rfl rfl ?_
        refine ih (k + 1) (by omega) (by omega) (by omega) (fun i i0 i1 => ?_)
        by_cases ci : i = k
        · rw [ci]
          exact c1
        · exact hk i i0 (by omega)
      · show xx_go (xt_P z) (d + 1) 250 42 [some (.ref a), some (.int (iI (f 0))), some (.int (iI k))] [.int (iI 0)] hp _
        refine mi_ne0 (t := 47) rfl rfl (by omega) (by omega) (fun q => absurd rfl q) (fun _ => ?_)
        refine go_a (pc' := 46) (ls' := [some (.ref a), some (.int (iI (f 0))), some (.int (iI k))]) (st' := [.int (iI 0)]) rfl rfl ?_
        exact go_r rfl rfl rfl rfl rfl rfl ⟨Or.inr ⟨rfl, fun q => c1 (q.2.2 k k0 (by omega))⟩, rfl⟩
theorem kq_isCallOfConstants (z : Value) (d : Nat) (a q : Nat) (n : Int) (f : Int → Int) (hp : xx_H) (hT : KTL hp a q n f) (n1 : 1 ≤ n) : xx_cl (xt_P z) (d + 2) 250 [.ref a] hp (fun v h1 => ((v = some (.int (iI 1)) ∧ f 0 % 4 = 2 ∧ f 0 / 32 < 17 ∧ ∀ i : Int, 1 ≤ i → i < n → f i % 4 = 1) ∨ (v = some (.int (iI 0)) ∧ ¬ (f 0 % 4 = 2 ∧ f 0 / 32 < 17 ∧ ∀ i : Int, 1 ≤ i → i < n → f i % 4 = 1))) ∧ h1 = hp) := by
  have fr := hT.2.2.2 0
  have t0 : tat n f 0 = f 0 := if_pos (by omega)
  refine cl_go rfl ?_
  show xx_go (xt_P z) (d + 1) 250 0 [some (.ref a), none, none] [] hp _
  refine go_a (pc' := 1) (ls' := [some (.ref a), none, none]) (st' := [.ref a]) rfl rfl ?_
  refine go_a (pc' := 2) (ls' := [some (.ref a), none, none]) (st' := [.int (iI 0), .ref a]) rfl rfl ?_
  refine go_v (m := 230) (as := [.ref a, .int (iI 0)]) (r := []) rfl rfl rfl hT.1 rfl rfl (kg_at z d 0 a q n f hp hT (by decide) (by decide)) (fun v h3 hq => ?_)
  obtain ⟨rfl, e9⟩ := hq
  rw [e9, t0]
  clear e9 h3
  show xx_go (xt_P z) (d + 1) 250 5 [some (.ref a), none, none] [.int (iI (f 0))] hp _
  refine go_a (pc' := 6) (ls' := [some (.ref a), some (.int (iI (f 0))), none]) (st' := []) rfl rfl ?_
  refine go_a (pc' := 7) (ls' := [some (.ref a), some (.int (iI (f 0))), none]) (st' := [.int (iI (f 0))]) rfl rfl ?_
  have no : ¬ (f 0 % 4 = 2 ∧ f 0 / 32 < 17 ∧ ∀ i : Int, 1 ≤ i → i < n → f i % 4 = 1) → xx_go (xt_P z) (d + 1) 250 22 [some (.ref a), some (.int (iI (f 0))), none] [] hp (fun v h1 => ((v = some (.int (iI 1)) ∧ f 0 % 4 = 2 ∧ f 0 / 32 < 17 ∧ ∀ i : Int, 1 ≤ i → i < n → f i % 4 = 1) ∨ (v = some (.int (iI 0)) ∧ ¬ (f 0 % 4 = 2 ∧ f 0 / 32 < 17 ∧ ∀ i : Int, 1 ≤ i → i < n → f i % 4 = 1))) ∧ h1 = hp) := by
    intro nc
    refine go_a (pc' := 23) (ls' := [some (.ref a), some (.int (iI (f 0))), none]) (st' := [.int (iI 0)]) rfl rfl ?_
    exact go_r rfl rfl rfl rfl rfl rfl ⟨Or.inr ⟨rfl, nc⟩, rfl⟩
  refine go_s (m := 220) (as := [.int (iI (f 0))]) (r := []) rfl rfl rfl rfl (kg_isCall z d (f 0) hp) (fun v h3 hq => ?_)
  obtain ⟨hq, e9⟩ := hq
  rw [e9]
  clear e9 h3
  rcases hq with ⟨c1, rfl⟩ | ⟨c1, rfl⟩
  · show xx_go (xt_P z) (d + 1) 250 10 [some (.ref a), some (.int (iI (f 0))), none] [.int (iI 1)] hp _
    refine mi_eq0 (t := 22) rfl rfl (by omega) (by omega) (fun q => absurd q (by decide)) (fun _ => ?_)
    refine go_a (pc' := 14) (ls' := [some (.ref a), some (.int (iI (f 0))), none]) (st' := [.int (iI (f 0))]) rfl rfl ?_
    refine go_s (m := 251) (as := [.int (iI (f 0))]) (r := []) rfl rfl rfl rfl (kg_what z d (f 0) hp fr.1 fr.2) (fun v h3 hq => ?_)
    obtain ⟨rfl, e9⟩ := hq
    rw [e9]
    clear e9 h3
    show xx_go (xt_P z) (d + 1) 250 17 [some (.ref a), some (.int (iI (f 0))), none] [.int (iI (f 0 / 32))] hp _
    refine go_a (pc' := 19) (ls' := [some (.ref a), some (.int (iI (f 0))), none]) (st' := [.int (iI 17), .int (iI (f 0 / 32))]) rfl rfl ?_
    refine mi_lt (t := 24) rfl rfl (by omega) (by omega) (by omega) (by omega) (fun w1 => ?_) (fun w1 => no (fun q => w1 q.2.1))
    refine go_a (pc' := 25) (ls' := [some (.ref a), some (.int (iI (f 0))), none]) (st' := [.int (iI 1)]) rfl rfl ?_
    refine go_a (pc' := 26) (ls' := [some (.ref a), some (.int (iI (f 0))), some (.int (iI 1))]) (st' := []) rfl rfl ?_
    exact kq_const_loop z d a q n f hp hT c1 w1 _ 1 (Nat.le_refl _) (by decide) (by decide) (fun i i0 i1 => absurd i1 (by omega))
  · show xx_go (xt_P z) (d + 1) 250 10 [some (.ref a), some (.int (iI (f 0))), none] [.int (iI 0)] hp _
    refine mi_eq0 (t := 22) rfl rfl (by omega) (by omega) (fun _ => no (fun q => c1 q.1)) (fun q => absurd rfl q)
