theorem wI_eta {s : KS} {j : Nat} {x : Int} (h : s.I j = x) : s.wI j x = s := by
  show ((su s.I j x, s.A, s.N, s.C, s.P, s.T) : KS) = s
  rw [su_eta h]
  rfl
theorem kr_cut0_0 (z : Value) (d c : Nat) (hp : xx_H) (s : KS) (hK : KI c hp s) (hB : KB s) : xx_cl (xt_P z) (d + 1) 39 [.ref (c + 1), .int (iI 0)] hp (fun v h1 => v = none ∧ KI c h1 (s.wI 0 0) ∧ KB (s.wI 0 0) ∧ kx c hp s h1 (s.wI 0 0) 0 0) := by
  have b := hB.2.2.2.1 0 (by decide)
  refine cl_w (fun v h1 hq => ?_) (kr_cut_0 z d c 0 hp s hK hB (by decide) (by decide))
  obtain ⟨e, hq⟩ := hq
  rcases hq with ⟨-, -, q1, q2, q3⟩ | ⟨q, e2⟩
  · exact ⟨e, q1, q2, q3⟩
  · rw [wI_eta (show s.I 0 = 0 by omega), e2]
    exact ⟨e, hK, hB, kx_rf⟩
theorem kr_cut0_1 (z : Value) (d c : Nat) (hp : xx_H) (s : KS) (hK : KI c hp s) (hB : KB s) : xx_cl (xt_P z) (d + 1) 39 [.ref (c + 10), .int (iI 0)] hp (fun v h1 => v = none ∧ KI c h1 (s.wI 1 0) ∧ KB (s.wI 1 0) ∧ kx c hp s h1 (s.wI 1 0) 0 0) := by
  have b := hB.2.2.2.1 1 (by decide)
  refine cl_w (fun v h1 hq => ?_) (kr_cut_1 z d c 0 hp s hK hB (by decide) (by decide))
  obtain ⟨e, hq⟩ := hq
  rcases hq with ⟨-, -, q1, q2, q3⟩ | ⟨q, e2⟩
  · exact ⟨e, q1, q2, q3⟩
  · rw [wI_eta (show s.I 1 = 0 by omega), e2]
    exact ⟨e, hK, hB, kx_rf⟩
theorem kr_cut0_2 (z : Value) (d c : Nat) (hp : xx_H) (s : KS) (hK : KI c hp s) (hB : KB s) : xx_cl (xt_P z) (d + 1) 39 [.ref (c + 12), .int (iI 0)] hp (fun v h1 => v = none ∧ KI c h1 (s.wI 2 0) ∧ KB (s.wI 2 0) ∧ kx c hp s h1 (s.wI 2 0) 0 0) := by
  have b := hB.2.2.2.1 2 (by decide)
  refine cl_w (fun v h1 hq => ?_) (kr_cut_2 z d c 0 hp s hK hB (by decide) (by decide))
  obtain ⟨e, hq⟩ := hq
  rcases hq with ⟨-, -, q1, q2, q3⟩ | ⟨q, e2⟩
  · exact ⟨e, q1, q2, q3⟩
  · rw [wI_eta (show s.I 2 = 0 by omega), e2]
    exact ⟨e, hK, hB, kx_rf⟩
theorem kr_cut0_3 (z : Value) (d c : Nat) (hp : xx_H) (s : KS) (hK : KI c hp s) (hB : KB s) : xx_cl (xt_P z) (d + 1) 39 [.ref (c + 14), .int (iI 0)] hp (fun v h1 => v = none ∧ KI c h1 (s.wI 3 0) ∧ KB (s.wI 3 0) ∧ kx c hp s h1 (s.wI 3 0) 0 0) := by
  have b := hB.2.2.2.1 3 (by decide)
  refine cl_w (fun v h1 hq => ?_) (kr_cut_3 z d c 0 hp s hK hB (by decide) (by decide))
  obtain ⟨e, hq⟩ := hq
  rcases hq with ⟨-, -, q1, q2, q3⟩ | ⟨q, e2⟩
  · exact ⟨e, q1, q2, q3⟩
  · rw [wI_eta (show s.I 3 = 0 by omega), e2]
    exact ⟨e, hK, hB, kx_rf⟩
theorem kr_cut0_4 (z : Value) (d c : Nat) (hp : xx_H) (s : KS) (hK : KI c hp s) (hB : KB s) : xx_cl (xt_P z) (d + 1) 39 [.ref (c + 17), .int (iI 0)] hp (fun v h1 => v = none ∧ KI c h1 (s.wI 4 0) ∧ KB (s.wI 4 0) ∧ kx c hp s h1 (s.wI 4 0) 0 0) := by
  have b := hB.2.2.2.1 4 (by decide)
  refine cl_w (fun v h1 hq => ?_) (kr_cut_4 z d c 0 hp s hK hB (by decide) (by decide))
  obtain ⟨e, hq⟩ := hq
  rcases hq with ⟨-, -, q1, q2, q3⟩ | ⟨q, e2⟩
  · exact ⟨e, q1, q2, q3⟩
  · rw [wI_eta (show s.I 4 = 0 by omega), e2]
    exact ⟨e, hK, hB, kx_rf⟩
theorem kr_cut0_5 (z : Value) (d c : Nat) (hp : xx_H) (s : KS) (hK : KI c hp s) (hB : KB s) : xx_cl (xt_P z) (d + 1) 39 [.ref (c + 19), .int (iI 0)] hp (fun v h1 => v = none ∧ KI c h1 (s.wI 5 0) ∧ KB (s.wI 5 0) ∧ kx c hp s h1 (s.wI 5 0) 0 0) := by
  have b := hB.2.2.2.1 5 (by decide)
  refine cl_w (fun v h1 hq => ?_) (kr_cut_5 z d c 0 hp s hK hB (by decide) (by decide))
  obtain ⟨e, hq⟩ := hq
  rcases hq with ⟨-, -, q1, q2, q3⟩ | ⟨q, e2⟩
  · exact ⟨e, q1, q2, q3⟩
  · rw [wI_eta (show s.I 5 = 0 by omega), e2]
    exact ⟨e, hK, hB, kx_rf⟩
theorem kr_cut0_6 (z : Value) (d c : Nat) (hp : xx_H) (s : KS) (hK : KI c hp s) (hB : KB s) : xx_cl (xt_P z) (d + 1) 39 [.ref (c + 26), .int (iI 0)] hp (fun v h1 => v = none ∧ KI c h1 (s.wI 6 0) ∧ KB (s.wI 6 0) ∧ kx c hp s h1 (s.wI 6 0) 0 0) := by
  have b := hB.2.2.2.1 6 (by decide)
  refine cl_w (fun v h1 hq => ?_) (kr_cut_6 z d c 0 hp s hK hB (by decide) (by decide))
  obtain ⟨e, hq⟩ := hq
  rcases hq with ⟨-, -, q1, q2, q3⟩ | ⟨q, e2⟩
  · exact ⟨e, q1, q2, q3⟩
  · rw [wI_eta (show s.I 6 = 0 by omega), e2]
    exact ⟨e, hK, hB, kx_rf⟩
theorem kr_cut0_7 (z : Value) (d c : Nat) (hp : xx_H) (s : KS) (hK : KI c hp s) (hB : KB s) : xx_cl (xt_P z) (d + 1) 39 [.ref (c + 28), .int (iI 0)] hp (fun v h1 => v = none ∧ KI c h1 (s.wI 7 0) ∧ KB (s.wI 7 0) ∧ kx c hp s h1 (s.wI 7 0) 0 0) := by
  have b := hB.2.2.2.1 7 (by decide)
  refine cl_w (fun v h1 hq => ?_) (kr_cut_7 z d c 0 hp s hK hB (by decide) (by decide))
  obtain ⟨e, hq⟩ := hq
  rcases hq with ⟨-, -, q1, q2, q3⟩ | ⟨q, e2⟩
  · exact ⟨e, q1, q2, q3⟩
  · rw [wI_eta (show s.I 7 = 0 by omega), e2]
    exact ⟨e, hK, hB, kx_rf⟩
def KSA (s s1 : KS) : Prop := s1.N = s.N ∧ s1.A 9 = s.A 9 ∧ s1.I 8 = s.I 8
theorem KSA_rf {s : KS} : KSA s s := ⟨rfl, rfl, rfl⟩
theorem KSA_tr {s s1 s2 : KS} (a : KSA s s1) (b : KSA s1 s2) : KSA s s2 := ⟨b.1.trans a.1, b.2.1.trans a.2.1, b.2.2.trans a.2.2⟩
theorem SD_N {s s1 : KS} (h : s1.N = s.N) : SD s1 = SD s := by
  unfold SD
  rw [h]
theorem KSA_CI {s s1 : KS} (h : KSA s s1) (hC : CI s) : CI s1 := by
  obtain ⟨h1, h2, h3⟩ := h
  unfold CI UI
  rw [SD_N h1, h1, h2, h3]
  exact hC
theorem KSA_OB {s s1 : KS} (h : KSA s s1) {k : Int} (ho : OB s k) : OB s1 k := by
  unfold OB
  rw [h.2.2]
  exact ho
theorem KRW_SA {s s1 : KS} {j : Nat} (h : KRW j s s1) (hj : j < 8) (e8 : s1.I 8 = s.I 8) : KSA s s1 := ⟨h.1, (h.2.2.1 9 (by omega)).1, e8⟩
def ow (x : Int) : Int := if x = 0 ∨ x = 1 then 0 else if x = 5 ∨ x = 6 then 2 else 1
def oq (x : Int) : Int := if x = 2 then 2 else 0
def RJ (u e g : Int) (s : KS) : Prop := CI s ∧ ((0 ≤ s.I 2 ∧ s.I 2 ≤ s.I 1 ∧ s.I 1 ≤ 41) ∧ 0 ≤ s.I 3 ∧ (0 ≤ s.I 10 ∧ s.I 10 ≤ 1000)) ∧ (∀ k : Int, 0 ≤ k → k < s.I 3 → OB s (s.A 3 k)) ∧ (∀ k : Int, 0 ≤ k → k < s.I 1 → 0 ≤ s.A 1 k ∧ s.A 1 k ≤ 6) ∧ (∀ k : Int, 0 ≤ k → k < s.I 1 - 1 → s.A 1 k ≠ 1 ∧ s.A 1 k ≠ 6) ∧ (∀ k : Int, 0 ≤ k → k < s.I 2 → 0 ≤ s.A 2 k ∧ s.A 2 k ≤ 1000) ∧ SG (WD (SD s)) (s.A 3) (s.I 3).toNat + SG ow (s.A 1) (s.I 1).toNat + e ≤ s.I 10 ∧ s.I 8 + s.I 3 + SG oq (s.A 1) (s.I 1).toNat + g ≤ u + 2 * s.I 10
def RI (u : Int) (s : KS) : Prop := RJ u 0 0 s
def RDF (s s1 : KS) : Prop := s1.T = s.T ∧ (∀ j : Nat, j = 0 ∨ j = 4 ∨ j = 5 ∨ j = 6 ∨ j = 7 ∨ 12 ≤ j → s1.A j = s.A j ∧ s1.C j = s.C j ∧ s1.P j = s.P j) ∧ ∀ j : Nat, j = 0 ∨ (4 ≤ j ∧ j ≤ 7) ∨ 14 ≤ j → s1.I j = s.I j
theorem RDF_rf {s : KS} : RDF s s := ⟨rfl, fun _ _ => ⟨rfl, rfl, rfl⟩, fun _ _ => rfl⟩
theorem RDF_tr {s s1 s2 : KS} (a : RDF s s1) (b : RDF s1 s2) : RDF s s2 := ⟨b.1.trans a.1, fun j q => ⟨(b.2.1 j q).1.trans (a.2.1 j q).1, (b.2.1 j q).2.1.trans (a.2.1 j q).2.1, (b.2.1 j q).2.2.trans (a.2.1 j q).2.2⟩, fun j q => (b.2.2 j q).trans (a.2.2 j q)⟩
theorem RDF_row {s s1 : KS} {j : Nat} {x : Int} (h : KRW j s s1) (hj : j = 1 ∨ j = 2 ∨ j = 3) (e : s1.I = su s.I j x) : RDF s s1 := ⟨h.2.1, fun i q => h.2.2.1 i (by omega), fun i q => by rw [e]; exact su_ne (by omega)⟩
theorem RDF_gr {s s1 : KS} {n : Int} (h : KGR s s1 n) : RDF s s1 := ⟨h.1.1, fun i q => ⟨h.1.2.1 i (by omega) (by omega) (by omega), h.1.2.2.1 i (by omega) (by omega) (by omega)⟩, fun i q => h.1.2.2.2 i (by omega)⟩
theorem RDF_wI {s : KS} {j : Nat} {x : Int} (hj : (1 ≤ j ∧ j ≤ 3) ∨ (9 ≤ j ∧ j ≤ 13)) : RDF s (s.wI j x) := ⟨rfl, fun _ _ => ⟨rfl, rfl, rfl⟩, fun i q => su_ne (by omega)⟩
theorem kd_begin (z : Value) (d c : Nat) (hp : xx_H) (s : KS) (hK : KI c hp s) (hB : KB s) (hC : CI s) : xx_cl (xt_P z) (d + 3) 41 [.ref (c + 9)] hp (fun v h1 => v = none ∧ ∃ s1 : KS, KI c h1 s1 ∧ KB s1 ∧ kx c hp s h1 s1 0 0 ∧ RI (s.I 8) s1 ∧ s1.I 9 = 0 ∧ s1.I 10 = 0 ∧ s1.I 12 = 0 ∧ KSA s s1 ∧ RDF s s1) := by
  have b := hB.2.2.2.2.2.1
  have hX : kx c hp s hp s 0 0 := kx_rf
  refine cl_go rfl ?_
  show xx_go (xt_P z) (d + 2) 41 0 [some (.ref (c + 9))] [] hp _
  refine go_a (pc' := 1) (ls' := [some (.ref (c + 9))]) (st' := [.ref (c + 9)]) rfl rfl ?_
  refine go_get (v := .ref (c + 10)) rfl (hK.1 5 (by decide)) rfl rfl ?_
  refine go_a (pc' := 5) (ls' := [some (.ref (c + 9))]) (st' := [.int (iI 0), .ref (c + 10)]) rfl rfl ?_
  refine go_v (m := 39) (as := [.ref (c + 10), .int (iI 0)]) (r := []) rfl rfl rfl (hK.1 6 (by decide)) rfl rfl (kr_cut0_1 z (d + 1) c _ (s) hK hB) (fun v hp hq => ?_)
  obtain ⟨rfl, hK, hB, hY⟩ := hq
  have hX := kx_tr hX hY
  show xx_go (xt_P z) (d + 2) 41 8 [some (.ref (c + 9))] [] hp _
  refine go_a (pc' := 9) (ls' := [some (.ref (c + 9))]) (st' := [.ref (c + 9)]) rfl rfl ?_
  refine go_get (v := .ref (c + 10)) rfl (hK.1 5 (by decide)) rfl rfl ?_
  refine go_a (pc' := 13) (ls' := [some (.ref (c + 9))]) (st' := [.int (iI 0), .ref (c + 10)]) rfl rfl ?_
  refine go_v (m := 35) (as := [.ref (c + 10), .int (iI 0)]) (r := []) rfl rfl rfl (hK.1 6 (by decide)) rfl rfl (kr_add_1 z d c (0) _ (s.wI 1 0) hK hB (show (0 : Int) < 4096 by decide) (by omega) (by omega)) (fun v hp hq => ?_)
  obtain ⟨rfl, t1, hK, hB, hY, Wt1, It1, Ct1, Xt1, Ot1⟩ := hq
  have hX := kx_tr hX hY
  show xx_go (xt_P z) (d + 2) 41 16 [some (.ref (c + 9))] [] hp _
  refine go_a (pc' := 17) (ls' := [some (.ref (c + 9))]) (st' := [.ref (c + 9)]) rfl rfl ?_
  refine go_get (v := .ref (c + 12)) rfl (hK.1 5 (by decide)) rfl rfl ?_
  refine go_a (pc' := 21) (ls' := [some (.ref (c + 9))]) (st' := [.int (iI 0), .ref (c + 12)]) rfl rfl ?_
  refine go_v (m := 39) (as := [.ref (c + 12), .int (iI 0)]) (r := []) rfl rfl rfl (hK.1 7 (by decide)) rfl rfl (kr_cut0_2 z (d + 1) c _ (t1) hK hB) (fun v hp hq => ?_)
  obtain ⟨rfl, hK, hB, hY⟩ := hq
  have hX := kx_tr hX hY
  show xx_go (xt_P z) (d + 2) 41 24 [some (.ref (c + 9))] [] hp _
  have i2 : (t1.wI 2 0).I 2 = 0 := rfl
  refine go_a (pc' := 25) (ls' := [some (.ref (c + 9))]) (st' := [.ref (c + 9)]) rfl rfl ?_
  refine go_get (v := .ref (c + 12)) rfl (hK.1 5 (by decide)) rfl rfl ?_
  refine go_a (pc' := 29) (ls' := [some (.ref (c + 9))]) (st' := [.int (iI 0), .ref (c + 12)]) rfl rfl ?_
  refine go_v (m := 35) (as := [.ref (c + 12), .int (iI 0)]) (r := []) rfl rfl rfl (hK.1 7 (by decide)) rfl rfl (kr_add_2 z d c (0) _ (t1.wI 2 0) hK hB (show (0 : Int) < 4096 by decide) (by omega) (by omega)) (fun v hp hq => ?_)
  obtain ⟨rfl, t2, hK, hB, hY, Wt2, It2, Ct2, Xt2, Ot2⟩ := hq
  have hX := kx_tr hX hY
  show xx_go (xt_P z) (d + 2) 41 32 [some (.ref (c + 9))] [] hp _
  refine go_a (pc' := 33) (ls' := [some (.ref (c + 9))]) (st' := [.ref (c + 9)]) rfl rfl ?_
  refine go_get (v := .ref (c + 14)) rfl (hK.1 5 (by decide)) rfl rfl ?_
  refine go_a (pc' := 37) (ls' := [some (.ref (c + 9))]) (st' := [.int (iI 0), .ref (c + 14)]) rfl rfl ?_
  refine go_v (m := 39) (as := [.ref (c + 14), .int (iI 0)]) (r := []) rfl rfl rfl (hK.1 8 (by decide)) rfl rfl (kr_cut0_3 z (d + 1) c _ (t2) hK hB) (fun v hp hq => ?_)
  obtain ⟨rfl, hK, hB, hY⟩ := hq
  have hX := kx_tr hX hY
  show xx_go (xt_P z) (d + 2) 41 40 [some (.ref (c + 9))] [] hp _
  refine go_a (pc' := 41) (ls' := [some (.ref (c + 9))]) (st' := [.ref (c + 9)]) rfl rfl ?_
  refine go_a (pc' := 42) (ls' := [some (.ref (c + 9))]) (st' := [.int (iI 0), .ref (c + 9)]) rfl rfl ?_
  refine kput_9 (x := 0) hK hX rfl rfl (fun hp hK hX => ?_)
  refine go_a (pc' := 46) (ls' := [some (.ref (c + 9))]) (st' := [.ref (c + 9)]) rfl rfl ?_
  refine go_a (pc' := 47) (ls' := [some (.ref (c + 9))]) (st' := [.int (iI 0), .ref (c + 9)]) rfl rfl ?_
  refine kput_10 (x := 0) hK hX rfl rfl (fun hp hK hX => ?_)
  refine go_a (pc' := 51) (ls' := [some (.ref (c + 9))]) (st' := [.ref (c + 9)]) rfl rfl ?_
  refine go_a (pc' := 52) (ls' := [some (.ref (c + 9))]) (st' := [.int (iI 0), .ref (c + 9)]) rfl rfl ?_
  refine kput_12 (x := 0) hK hX rfl rfl (fun hp hK hX => ?_)
  refine go_a (pc' := 56) (ls' := [some (.ref (c + 9))]) (st' := [.ref (c + 9)]) rfl rfl ?_
  refine go_a (pc' := 57) (ls' := [some (.ref (c + 9))]) (st' := [.int (iI ((-1))), .ref (c + 9)]) rfl rfl ?_
  refine kput_13 (x := (-1)) hK hX rfl rfl (fun hp hK hX => ?_)
  refine go_r rfl rfl rfl rfl rfl rfl ⟨rfl, _, hK, KB_wF (KB_wF (KB_wF (KB_wF hB (by decide) (by decide) (by decide)) (by decide) (by decide) (by decide)) (by decide) (by decide) (by decide)) (by decide) (by decide) (by decide), hX, ?_, rfl, rfl, rfl, ?_, ?_⟩
  · have SA : KSA s (((((t2.wI 3 0).wI 9 0).wI 10 0).wI 12 0).wI 13 (-1)) := KSA_tr (KSA_tr (KSA_tr (s1 := s.wI 1 0) ⟨rfl, rfl, rfl⟩ (KRW_SA Wt1 (by decide) (by rw [It1]; rfl))) (KSA_tr (s1 := t1.wI 2 0) ⟨rfl, rfl, rfl⟩ (KRW_SA Wt2 (by decide) (by rw [It2]; rfl)))) ⟨rfl, rfl, rfl⟩
    have e1 : t2.I 1 = 1 := by
      rw [It2]
      show t1.I 1 = 1
      rw [It1]
      rfl
    have e2 : t2.I 2 = 1 := by
      rw [It2]
      rfl
    have e8 : t2.I 8 = s.I 8 := SA.2.2
    have a1 : t2.A 1 0 = 0 := by
      rw [(Wt2.2.2.1 1 (by decide)).1]
      exact Xt1
    have a2 : t2.A 2 0 = 0 := Xt2
    refine ⟨KSA_CI SA hC, ⟨⟨show 0 ≤ t2.I 2 by omega, show t2.I 2 ≤ t2.I 1 by omega, show t2.I 1 ≤ 41 by omega⟩, show (0 : Int) ≤ 0 by decide, show (0 : Int) ≤ 0 by decide, show (0 : Int) ≤ 1000 by decide⟩, fun k k0 k1 => absurd (show k < 0 from k1) (by omega), fun k k0 k1 => ?_, fun k k0 k1 => ?_, fun k k0 k1 => ?_, ?_, ?_⟩
    · have k1 : k < t2.I 1 := k1
      show 0 ≤ t2.A 1 k ∧ t2.A 1 k ≤ 6
      rw [show k = 0 by omega, a1]
      decide
    · have k1 : k < t2.I 1 - 1 := k1
      omega
    · have k1 : k < t2.I 2 := k1
      show 0 ≤ t2.A 2 k ∧ t2.A 2 k ≤ 1000
      rw [show k = 0 by omega, a2]
      decide
    · show 0 + SG ow (t2.A 1) (t2.I 1).toNat + 0 ≤ 0
      rw [e1]
      show 0 + (0 + ow (t2.A 1 ((0 : Nat) : Int))) + 0 ≤ 0
      rw [show t2.A 1 ((0 : Nat) : Int) = 0 from a1]
      decide
    · show t2.I 8 + 0 + SG oq (t2.A 1) (t2.I 1).toNat + 0 ≤ s.I 8 + 2 * 0
      rw [e1]
      show t2.I 8 + 0 + (0 + oq (t2.A 1 ((0 : Nat) : Int))) + 0 ≤ s.I 8 + 2 * 0
      rw [show t2.A 1 ((0 : Nat) : Int) = 0 from a1, e8]
      show s.I 8 + 0 + (0 + 0) + 0 ≤ s.I 8 + 2 * 0
      omega
  · exact KSA_tr (KSA_tr (KSA_tr (s1 := s.wI 1 0) ⟨rfl, rfl, rfl⟩ (KRW_SA Wt1 (by decide) (by rw [It1]; rfl))) (KSA_tr (s1 := t1.wI 2 0) ⟨rfl, rfl, rfl⟩ (KRW_SA Wt2 (by decide) (by rw [It2]; rfl)))) ⟨rfl, rfl, rfl⟩
  · exact RDF_tr (RDF_tr (RDF_tr (RDF_wI (by decide)) (RDF_row Wt1 (by decide) It1)) (RDF_tr (RDF_wI (by decide)) (RDF_row Wt2 (by decide) It2))) (RDF_tr (RDF_wI (by decide)) (RDF_tr (RDF_wI (by decide)) (RDF_tr (RDF_wI (by decide)) (RDF_tr (RDF_wI (by decide)) (RDF_wI (by decide))))))
