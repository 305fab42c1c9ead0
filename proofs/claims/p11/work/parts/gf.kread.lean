theorem kz_begin (z : Value) (d c : Nat) (hp : xx_H) (s : KS) (hK : KI c hp s) (hB : KB s) (hC : CI s) : xx_cl (xt_P z) (d + 3) 41 [.ref (c + 9)] hp (fun v h1 => v = none ∧ ∃ s1 : KS, KI c h1 s1 ∧ KB s1 ∧ kx c hp s h1 s1 0 0 ∧ RI (s.I 8) s1 ∧ s1.I 9 = 0 ∧ s1.I 10 = 0 ∧ s1.I 12 = 0 ∧ KSA s s1 ∧ RDF s s1 ∧ s1.I 1 = 1 ∧ s1.I 3 = 0 ∧ s1.A 1 0 = 0 ∧ s1.A 2 0 = 0 ∧ s1.A 10 = s.A 10 ∧ s1.A 11 = s.A 11 ∧ s1.I 2 = 1) := by
  have b := hB.2.2.2.2.2.1
  have hX : kx c hp s hp s 0 0 := kx_rf
  refine cl_go rfl ?_
  show xx_go (xt_P z) (d + 2) 41 0 [some (.ref (c + 9))] [] hp _
  refine go_a (pc' := 1) (ls' := [some (.ref (c + 9))]) (st' := [.ref (c + 9)]) rfl rfl ?_
  refine go_get (v := .ref (c + 10)) rfl (hK.1 5 (by decide)) rfl rfl ?_
  refine go_a (pc' := 5) (ls' := [some (.ref (c + 9))]) (st' := [.int (iI 0), .ref (c + 10)]) rfl rfl ?_
  refine go_v (m := 39) (as := [.ref (c + 10), .int (iI 0)]) (r := []) rfl rfl rfl (hK.1 6 (by decide)) rfl rfl (kr_cut0_1 z (d + 1) c _ (s) hK hB) (fun v hp hq => ?_)
  obtain ⟨rfl, hK, hB, hY⟩ := hq
  have hX := kx_tr hX hY
  show xx_go (xt_P z) (d + 2) 41 8 [some (.ref (c + 9))] [] hp _
  refine go_a (pc' := 9) (ls' := [some (.ref (c + 9))]) (st' := [.ref (c + 9)]) rfl rfl ?_
  refine go_get (v := .ref (c + 10)) rfl (hK.1 5 (by decide)) rfl rfl ?_
  refine go_a (pc' := 13) (ls' := [some (.ref (c + 9))]) (st' := [.int (iI 0), .ref (c + 10)]) rfl rfl ?_
  refine go_v (m := 35) (as := [.ref (c + 10), .int (iI 0)]) (r := []) rfl rfl rfl (hK.1 6 (by decide)) rfl rfl (kr_add_1 z d c (0) _ (s.wI 1 0) hK hB (show (0 : Int) < 4096 by decide) (by omega) (by omega)) (fun v hp hq => ?_)
  obtain ⟨rfl, t1, hK, hB, hY, Wt1, It1, Ct1, Xt1, Ot1⟩ := hq
  have hX := kx_tr hX hY
  show xx_go (xt_P z) (d + 2) 41 16 [some (.ref (c + 9))] [] hp _
  refine go_a (pc' := 17) (ls' := [some (.ref (c + 9))]) (st' := [.ref (c + 9)]) rfl rfl ?_
  refine go_get (v := .ref (c + 12)) rfl (hK.1 5 (by decide)) rfl rfl ?_
  refine go_a (pc' := 21) (ls' := [some (.ref (c + 9))]) (st' := [.int (iI 0), .ref (c + 12)]) rfl rfl ?_
  refine go_v (m := 39) (as := [.ref (c + 12), .int (iI 0)]) (r := []) rfl rfl rfl (hK.1 7 (by decide)) rfl rfl (kr_cut0_2 z (d + 1) c _ (t1) hK hB) (fun v hp hq => ?_)
  obtain ⟨rfl, hK, hB, hY⟩ := hq
  have hX := kx_tr hX hY
  show xx_go (xt_P z) (d + 2) 41 24 [some (.ref (c + 9))] [] hp _
  have i2 : (t1.wI 2 0).I 2 = 0 := rfl
  refine go_a (pc' := 25) (ls' := [some (.ref (c + 9))]) (st' := [.ref (c + 9)]) rfl rfl ?_
  refine go_get (v := .ref (c + 12)) rfl (hK.1 5 (by decide)) rfl rfl ?_
  refine go_a (pc' := 29) (ls' := [some (.ref (c + 9))]) (st' := [.int (iI 0), .ref (c + 12)]) rfl rfl ?_
  refine go_v (m := 35) (as := [.ref (c + 12), .int (iI 0)]) (r := []) rfl rfl rfl (hK.1 7 (by decide)) rfl rfl (kr_add_2 z d c (0) _ (t1.wI 2 0) hK hB (show (0 : Int) < 4096 by decide) (by omega) (by omega)) (fun v hp hq => ?_)
  obtain ⟨rfl, t2, hK, hB, hY, Wt2, It2, Ct2, Xt2, Ot2⟩ := hq
  have hX := kx_tr hX hY
  show xx_go (xt_P z) (d + 2) 41 32 [some (.ref (c + 9))] [] hp _
  refine go_a (pc' := 33) (ls' := [some (.ref (c + 9))]) (st' := [.ref (c + 9)]) rfl rfl ?_
  refine go_get (v := .ref (c + 14)) rfl (hK.1 5 (by decide)) rfl rfl ?_
  refine go_a (pc' := 37) (ls' := [some (.ref (c + 9))]) (st' := [.int (iI 0), .ref (c + 14)]) rfl rfl ?_
  refine go_v (m := 39) (as := [.ref (c + 14), .int (iI 0)]) (r := []) rfl rfl rfl (hK.1 8 (by decide)) rfl rfl (kr_cut0_3 z (d + 1) c _ (t2) hK hB) (fun v hp hq => ?_)
  obtain ⟨rfl, hK, hB, hY⟩ := hq
  have hX := kx_tr hX hY
  show xx_go (xt_P z) (d + 2) 41 40 [some (.ref (c + 9))] [] hp _
  refine go_a (pc' := 41) (ls' := [some (.ref (c + 9))]) (st' := [.ref (c + 9)]) rfl rfl ?_
  refine go_a (pc' := 42) (ls' := [some (.ref (c + 9))]) (st' := [.int (iI 0), .ref (c + 9)]) rfl rfl ?_
  refine kput_9 (x := 0) hK hX rfl rfl (fun hp hK hX => ?_)
  refine go_a (pc' := 46) (ls' := [some (.ref (c + 9))]) (st' := [.ref (c + 9)]) rfl rfl ?_
  refine go_a (pc' := 47) (ls' := [some (.ref (c + 9))]) (st' := [.int (iI 0), .ref (c + 9)]) rfl rfl ?_
  refine kput_10 (x := 0) hK hX rfl rfl (fun hp hK hX => ?_)
  refine go_a (pc' := 51) (ls' := [some (.ref (c + 9))]) (st' := [.ref (c + 9)]) rfl rfl ?_
  refine go_a (pc' := 52) (ls' := [some (.ref (c + 9))]) (st' := [.int (iI 0), .ref (c + 9)]) rfl rfl ?_
  refine kput_12 (x := 0) hK hX rfl rfl (fun hp hK hX => ?_)
  refine go_a (pc' := 56) (ls' := [some (.ref (c + 9))]) (st' := [.ref (c + 9)]) rfl rfl ?_
  refine go_a (pc' := 57) (ls' := [some (.ref (c + 9))]) (st' := [.int (iI ((-1))), .ref (c + 9)]) rfl rfl ?_
  refine kput_13 (x := (-1)) hK hX rfl rfl (fun hp hK hX => ?_)
  refine go_r rfl rfl rfl rfl rfl rfl ⟨rfl, _, hK, KB_wF (KB_wF (KB_wF (KB_wF hB (by decide) (by decide) (by decide)) (by decide) (by decide) (by decide)) (by decide) (by decide) (by decide)) (by decide) (by decide) (by decide), hX, ?_, rfl, rfl, rfl, ?_, ?_, ?_, rfl, ?_, Xt2, ?_, ?_, ?_⟩
  · have SA : KSA s (((((t2.wI 3 0).wI 9 0).wI 10 0).wI 12 0).wI 13 (-1)) := KSA_tr (KSA_tr (KSA_tr (s1 := s.wI 1 0) ⟨rfl, rfl, rfl⟩ (KRW_SA Wt1 (by decide) (by rw [It1]; rfl))) (KSA_tr (s1 := t1.wI 2 0) ⟨rfl, rfl, rfl⟩ (KRW_SA Wt2 (by decide) (by rw [It2]; rfl)))) ⟨rfl, rfl, rfl⟩
    have e1 : t2.I 1 = 1 := by
      rw [It2]
      show t1.I 1 = 1
      rw [It1]
      rfl
    have e2 : t2.I 2 = 1 := by
      rw [It2]
      rfl
    have e8 : t2.I 8 = s.I 8 := SA.2.2
    have a1 : t2.A 1 0 = 0 := by
      rw [(Wt2.2.2.1 1 (by decide)).1]
      exact Xt1
    have a2 : t2.A 2 0 = 0 := Xt2
    refine ⟨KSA_CI SA hC, ⟨⟨show 0 ≤ t2.I 2 by omega, show t2.I 2 ≤ t2.I 1 by omega, show t2.I 1 ≤ 41 by omega⟩, show (0 : Int) ≤ 0 by decide, show (0 : Int) ≤ 0 by decide, show (0 : Int) ≤ 1000 by decide⟩, fun k k0 k1 => absurd (show k < 0 from k1) (by omega), fun k k0 k1 => ?_, fun k k0 k1 => ?_, fun k k0 k1 => ?_, ?_, ?_⟩
    · have k1 : k < t2.I 1 := k1
      show 0 ≤ t2.A 1 k ∧ t2.A 1 k ≤ 6
      rw [show k = 0 by omega, a1]
      decide
    · have k1 : k < t2.I 1 - 1 := k1
      omega
    · have k1 : k < t2.I 2 := k1
      show 0 ≤ t2.A 2 k ∧ t2.A 2 k ≤ 1000
      rw [show k = 0 by omega, a2]
      decide
    · show 0 + SG ow (t2.A 1) (t2.I 1).toNat + 0 ≤ 0
      rw [e1]
      show 0 + (0 + ow (t2.A 1 ((0 : Nat) : Int))) + 0 ≤ 0
      rw [show t2.A 1 ((0 : Nat) : Int) = 0 from a1]
      decide
    · show t2.I 8 + 0 + SG oq (t2.A 1) (t2.I 1).toNat + 0 ≤ s.I 8 + 2 * 0
      rw [e1]
      show t2.I 8 + 0 + (0 + oq (t2.A 1 ((0 : Nat) : Int))) + 0 ≤ s.I 8 + 2 * 0
      rw [show t2.A 1 ((0 : Nat) : Int) = 0 from a1, e8]
      show s.I 8 + 0 + (0 + 0) + 0 ≤ s.I 8 + 2 * 0
      omega
  · exact KSA_tr (KSA_tr (KSA_tr (s1 := s.wI 1 0) ⟨rfl, rfl, rfl⟩ (KRW_SA Wt1 (by decide) (by rw [It1]; rfl))) (KSA_tr (s1 := t1.wI 2 0) ⟨rfl, rfl, rfl⟩ (KRW_SA Wt2 (by decide) (by rw [It2]; rfl)))) ⟨rfl, rfl, rfl⟩
  · exact RDF_tr (RDF_tr (RDF_tr (RDF_wI (by decide)) (RDF_row Wt1 (by decide) It1)) (RDF_tr (RDF_wI (by decide)) (RDF_row Wt2 (by decide) It2))) (RDF_tr (RDF_wI (by decide)) (RDF_tr (RDF_wI (by decide)) (RDF_tr (RDF_wI (by decide)) (RDF_tr (RDF_wI (by decide)) (RDF_wI (by decide))))))
  · show t2.I 1 = 1
    rw [It2]
    show t1.I 1 = 1
    rw [It1]
    rfl
  · show t2.A 1 0 = 0
    rw [(Wt2.2.2.1 1 (by decide)).1]
    exact Xt1
  · show t2.A 10 = s.A 10
    rw [(Wt2.2.2.1 10 (by decide)).1]
    exact (Wt1.2.2.1 10 (by decide)).1
  · show t2.A 11 = s.A 11
    rw [(Wt2.2.2.1 11 (by decide)).1]
    exact (Wt1.2.2.1 11 (by decide)).1
  · show t2.I 2 = 1
    rw [It2]
    rfl
theorem sp_rd_s (f : Int → Int) (n : Int) (m : Nat) (p w : Int) (F : sp_F) : sp_rd f n (m + 1) p w F = if n ≤ p then sp_end F else match sp_wt f n p with
    | none => none
    | some x => if sp_ok w x.1 F then sp_rd f n m (sp_sk f (n - sp_wd f n p).toNat (sp_wd f n p) 0) (w + 1) (sp_acc x.1 x.2 F) else none := rfl
theorem sp_end_n {F : sp_F} (wf : WFr F) (fn : F ≠ []) (h : sp_top F ≠ 1) : sp_end F = none := by
  match F, fn, h with
  | [], fn, _ => exact absurd rfl fn
  | (k, l) :: r, _, h =>
    have h : k ≠ 1 := h
    unfold sp_end
    split
    · rename_i x e
      injection e with e1 e2
      injection e1 with e3 e4
      exact absurd e3 h
    · rfl
theorem sp_end_y {F : sp_F} (wf : WFr F) (fn : F ≠ []) (h : sp_top F = 1) : ∃ x : ob_T, F = [(1, [x])] ∧ sp_end F = some x := by
  match F, fn, h, wf with
  | [], fn, _, _ => exact absurd rfl fn
  | (k, l) :: r, _, h, wf =>
    have hk : k = 1 := h
    obtain ⟨h1, h2⟩ := wf.1.2.2.2.2.1 hk
    obtain ⟨x, rfl⟩ := List.length_eq_one_iff.mp h1
    rw [hk, h2]
    exact ⟨x, rfl, rfl⟩
theorem MST2_may {s : KS} {w : Int} {F : sp_F} {i e : Int} (h : RRc s F i e) (i1 : i = s.I 1) : MST2 w s ↔ sp_may w (sp_top F) := by
  have t := RRc_top F h i1
  unfold MST2
  rw [t]
theorem sp_add_ne : ∀ (F : sp_F) (x : ob_T), WFr F → F ≠ [] → sp_add F x ≠ []
  | [], _, _, h => absurd rfl h
  | (k, l) :: r, x, wf, _ => by
    show (if k = 2 then sp_add r (sp_q x) else (sp_nk k, x :: l) :: r) ≠ []
    by_cases e : k = 2
    · rw [if_pos e]
      exact sp_add_ne r _ wf.2 (fun q => absurd (wf.1.2.2.2.2.2.1 q) (by omega))
    · rw [if_neg e]
      exact fun q => by cases q
theorem sp_acc_ne {w : Int} {x : ob_T} {F : sp_F} (wf : WFr F) (fn : F ≠ []) (hm : sp_may w (sp_top F)) : sp_acc w x F ≠ [] := by
  match F, fn, wf, hm with
  | [], fn, _, _ => exact absurd rfl fn
  | (k, l) :: r, _, wf, hm =>
    have hm : sp_may w k := hm
    unfold sp_acc
    split
    · exact fun q => by cases q
    · split
      · exact fun q => by cases q
      · split
        · exact fun q => by cases q
        · split
          · refine sp_add_ne r _ wf.2 (fun q => absurd (wf.1.2.2.2.2.2.1 q) ?_)
            rcases hm with hm | hm | hm <;> omega
          · exact sp_add_ne _ _ wf (fun q => by cases q)
set_option maxHeartbeats 8000000 in
set_option maxRecDepth 4000 in
theorem kz_read_loop (z : Value) (d c : Nat) (hp0 : xx_H) (s0 : KS) (hO : OC hp0) (hT : TXI s0) (hu : s0.I 8 ≤ 30000) (l0 : 0 ≤ s0.I 0) (l1 : s0.I 0 ≤ 8192) (G : Option ob_T) : ∀ (f : Nat) (n : Int) (y3 y4 : Option Value) (t : KS) (hp : xx_H), (s0.I 0 - n).toNat ≤ f → 0 ≤ n → n ≤ 10000 → KI c hp t → KB t → kx c hp0 s0 hp t 0 0 → RDF s0 t → KGO s0 t → RJ (s0.I 8) 0 (-1) t → (t.I 12 = 0 → RJ (s0.I 8) 0 0 t) → (0 ≤ t.I 9 ∧ t.I 9 ≤ t.I 0) → (0 ≤ t.I 12 ∧ t.I 12 ≤ 5) → t.I 10 ≤ NZ (s0.A 0) (t.I 9).toNat → n ≤ t.I 9 → (KX t ∧ KNM t ∧ (KHT s0 → KHT t) ∧ (t.I 12 ≠ 0 → G = none) ∧ (t.I 12 = 0 → ∃ (F : sp_F) (m : Nat), t.I 2 = t.I 1 ∧ RRc t F (t.I 1) (t.I 3) ∧ WFr F ∧ F ≠ [] ∧ (s0.I 0 - t.I 9).toNat < m ∧ sp_rd (s0.A 0) (s0.I 0) m (t.I 9) (t.I 10) F = G)) → xx_go (xt_P z) (d + 9) 40 11 [some (.ref (c + 9)), some (.ref (c + 1)), some (.int (iI n)), y3, y4] [] hp (fun v h1 => ∃ (x : Int) (s1 : KS), v = some (.int (iI x)) ∧ KI c h1 s1 ∧ KB s1 ∧ KX s1 ∧ kx c hp0 s0 h1 s1 0 0 ∧ RDF s0 s1 ∧ KGO s0 s1 ∧ (0 ≤ s1.I 10 ∧ s1.I 10 ≤ 1000 ∧ s1.I 10 ≤ NZ (s0.A 0) (s0.I 0).toNat ∧ s1.I 8 ≤ s0.I 8 + 2 * s1.I 10 + 1) ∧ KNM s1 ∧ (KHT s0 → KHT s1) ∧ ((x = -1 ∧ G = none) ∨ (OB s1 x ∧ WD (SD s1) x ≤ s1.I 10 + 1 ∧ G = some (DK s1.N x)))) := by
  have fin : ∀ (n : Int) (y3 y4 : Option Value) (t : KS) (hp : xx_H), KI c hp t → KB t → kx c hp0 s0 hp t 0 0 → RDF s0 t → KGO s0 t → RJ (s0.I 8) 0 (-1) t → (t.I 12 = 0 → RJ (s0.I 8) 0 0 t) → (0 ≤ t.I 9 ∧ t.I 9 ≤ t.I 0) → (0 ≤ t.I 12 ∧ t.I 12 ≤ 5) → t.I 10 ≤ NZ (s0.A 0) (t.I 9).toNat → n ≤ t.I 9 → (KX t ∧ KNM t ∧ (KHT s0 → KHT t) ∧ (t.I 12 ≠ 0 → G = none) ∧ (t.I 12 = 0 → ∃ (F : sp_F) (m : Nat), t.I 2 = t.I 1 ∧ RRc t F (t.I 1) (t.I 3) ∧ WFr F ∧ F ≠ [] ∧ (s0.I 0 - t.I 9).toNat < m ∧ sp_rd (s0.A 0) (s0.I 0) m (t.I 9) (t.I 10) F = G)) → (t.I 12 ≠ 0 ∨ t.I 0 ≤ t.I 9) → xx_go (xt_P z) (d + 9) 40 91 [some (.ref (c + 9)), some (.ref (c + 1)), some (.int (iI n)), y3, y4] [] hp (fun v h1 => ∃ (x : Int) (s1 : KS), v = some (.int (iI x)) ∧ KI c h1 s1 ∧ KB s1 ∧ KX s1 ∧ kx c hp0 s0 h1 s1 0 0 ∧ RDF s0 s1 ∧ KGO s0 s1 ∧ (0 ≤ s1.I 10 ∧ s1.I 10 ≤ 1000 ∧ s1.I 10 ≤ NZ (s0.A 0) (s0.I 0).toNat ∧ s1.I 8 ≤ s0.I 8 + 2 * s1.I 10 + 1) ∧ KNM s1 ∧ (KHT s0 → KHT s1) ∧ ((x = -1 ∧ G = none) ∨ (OB s1 x ∧ WD (SD s1) x ≤ s1.I 10 + 1 ∧ G = some (DK s1.N x)))) := by
    intro n y3 y4 t hp hK hB hX hD hG hJ hJ0 h9 h12 hz hn hE hst
    obtain ⟨eX, eM, eH, eN, eF⟩ := hE
    have i0 : t.I 0 = s0.I 0 := hD.2.2 0 (by omega)
    have b1 := hB.2.2.2.1 1 (by decide)
    have b3 := hB.2.2.2.1 3 (by decide)
    have jj := hJ.2.1
    have j8 := hJ.2.2.2.2.2.2.2
    have sq := SG_nn (g := oq) (f := t.A 1) (t.I 1).toNat (fun e _ => (oq_R _).1)
    have so := SG_nn (g := ow) (f := t.A 1) (t.I 1).toNat (fun e _ => (ow_R _).1)
    have nzm := NZ_mono (f := s0.A 0) (s0.I 0).toNat (t.I 9).toNat (by omega)
    have bad : G = none → ∀ (t2 : KS) (hp2 : xx_H), KI c hp2 t2 → KB t2 → kx c hp0 s0 hp2 t2 0 0 → (∃ a b : Int, t2 = (t.wI 12 a).wI 13 b ∧ a ≠ 0 ∧ 0 ≤ a ∧ a ≤ 5) → xx_go (xt_P z) (d + 9) 40 122 [some (.ref (c + 9)), some (.ref (c + 1)), some (.int (iI n)), y3, y4] [] hp2 (fun v h1 => ∃ (x : Int) (s1 : KS), v = some (.int (iI x)) ∧ KI c h1 s1 ∧ KB s1 ∧ KX s1 ∧ kx c hp0 s0 h1 s1 0 0 ∧ RDF s0 s1 ∧ KGO s0 s1 ∧ (0 ≤ s1.I 10 ∧ s1.I 10 ≤ 1000 ∧ s1.I 10 ≤ NZ (s0.A 0) (s0.I 0).toNat ∧ s1.I 8 ≤ s0.I 8 + 2 * s1.I 10 + 1) ∧ KNM s1 ∧ (KHT s0 → KHT s1) ∧ ((x = -1 ∧ G = none) ∨ (OB s1 x ∧ WD (SD s1) x ≤ s1.I 10 + 1 ∧ G = some (DK s1.N x)))) := by
      intro gn t2 hp2 K2 B2 X2 ht2
      obtain ⟨a, b, rfl, a0, a1, a2⟩ := ht2
      refine go_a (pc' := 123) (ls' := [some (.ref (c + 9)), some (.ref (c + 1)), some (.int (iI n)), y3, y4]) (st' := [.ref (c + 9)]) rfl rfl ?_
      refine go_get (v := .int (iI a)) rfl (K2.1 5 (by decide)) rfl rfl ?_
      refine mi_ne0 (t := 140) rfl rfl (by omega) (by omega) (fun _ => ?_) (fun q => absurd a0 q)
      refine go_a (pc' := 141) (ls' := [some (.ref (c + 9)), some (.ref (c + 1)), some (.int (iI n)), y3, y4]) (st' := [.int (iI ((-1)))]) rfl rfl ?_
      exact go_r rfl rfl rfl rfl rfl rfl ⟨-1, (t.wI 12 a).wI 13 b, rfl, K2, B2, KX_wI (KX_wI eX (by decide)) (by decide), X2, RDF_tr hD (RDF_tr (RDF_wI (by decide)) (RDF_wI (by decide))), hG, ⟨(show 0 ≤ t.I 10 by omega), (show t.I 10 ≤ 1000 by omega), (show t.I 10 ≤ _ by omega), (show t.I 8 ≤ s0.I 8 + 2 * t.I 10 + 1 by omega)⟩, eM, eH, Or.inl ⟨rfl, gn⟩⟩
    refine go_a (pc' := 92) (ls' := [some (.ref (c + 9)), some (.ref (c + 1)), some (.int (iI n)), y3, y4]) (st' := [.ref (c + 9)]) rfl rfl ?_
    refine go_get (v := .int (iI (t.I 12))) rfl (hK.1 5 (by decide)) rfl rfl ?_
    refine mi_ne0 (t := 122) rfl rfl (by omega) (by omega) (fun q => ?_) (fun q => ?_)
    · have e : (t.wI 12 (t.I 12)).wI 13 (t.I 13) = t := by rw [wI_eta (show t.I 12 = t.I 12 from rfl), wI_eta rfl]
      exact bad (eN q) t hp hK hB hX ⟨t.I 12, t.I 13, e.symm, q, by omega, by omega⟩
    · have z12 : t.I 12 = 0 := by omega
      have J0 := hJ0 z12
      obtain ⟨F, m, e21, rr, wf, fn, hm, hG2⟩ := eF z12
      have tt := RRc_top F rr rfl
      have ge : sp_end F = G := by
        rw [← hG2]
        obtain ⟨m1, rfl⟩ : ∃ m1 : Nat, m = m1 + 1 := ⟨m - 1, by omega⟩
        rw [sp_rd_s, if_pos (by omega)]
      refine go_a (pc' := 99) (ls' := [some (.ref (c + 9)), some (.ref (c + 1)), some (.int (iI n)), y3, y4]) (st' := [.ref (c + 9)]) rfl rfl ?_
      refine go_get (v := .ref (c + 10)) rfl (hK.1 5 (by decide)) rfl rfl ?_
      refine go_v (m := 44) (as := [.ref (c + 10)]) (r := []) rfl rfl rfl (hK.1 6 (by decide)) rfl rfl (kr_last_1 z (d + 8) c hp t hK hB) (fun v h1 hq => ?_)
      obtain ⟨hq, e⟩ := hq
      rw [e]
      clear e h1
      have hq : v = some (.int (iI (tps t))) := by
        unfold tps
        rcases hq with ⟨q1, q2⟩ | ⟨q1, q2⟩
        · rw [if_pos q1]
          exact q2
        · rw [if_neg (by omega)]
          exact q2
      subst hq
      have tr := tps_R hJ
      show xx_go (xt_P z) (d + 9) 40 105 [some (.ref (c + 9)), some (.ref (c + 1)), some (.int (iI n)), y3, y4] [.int (iI (tps t))] hp _
      refine go_a (pc' := 106) (ls' := [some (.ref (c + 9)), some (.ref (c + 1)), some (.int (iI n)), y3, y4]) (st' := [.int (iI 1), .int (iI (tps t))]) rfl rfl ?_
      refine mi_eq (t := 122) rfl rfl (by omega) (by omega) (by omega) (by omega) (fun q2 => ?_) (fun q2 => ?_)
      · obtain ⟨x0, rfl, hx0⟩ := sp_end_y wf fn (by omega)
        refine go_a (pc' := 123) (ls' := [some (.ref (c + 9)), some (.ref (c + 1)), some (.int (iI n)), y3, y4]) (st' := [.ref (c + 9)]) rfl rfl ?_
        refine go_get (v := .int (iI (t.I 12))) rfl (hK.1 5 (by decide)) rfl rfl ?_
        refine mi_ne0 (t := 140) rfl rfl (by omega) (by omega) (fun w => absurd z12 w) (fun _ => ?_)
        refine go_a (pc' := 130) (ls' := [some (.ref (c + 9)), some (.ref (c + 1)), some (.int (iI n)), y3, y4]) (st' := [.ref (c + 9)]) rfl rfl ?_
        refine go_get (v := .ref (c + 14)) rfl (hK.1 5 (by decide)) rfl rfl ?_
        refine go_a (pc' := 134) (ls' := [some (.ref (c + 9)), some (.ref (c + 1)), some (.int (iI n)), y3, y4]) (st' := [.int (iI 0), .ref (c + 14)]) rfl rfl ?_
        refine go_v (m := 43) (as := [.ref (c + 14), .int (iI 0)]) (r := []) rfl rfl rfl (hK.1 8 (by decide)) rfl rfl (kr_at_3 z (d + 8) c 0 hp t hK hB (by decide) (by decide)) (fun v h1 hq => ?_)
        obtain ⟨hq, e⟩ := hq
        rw [e]
        clear e h1
        have b8 := hB.2.2.2.2.2.1
        obtain ⟨-, -, -, ⟨v4, v5⟩, v6⟩ := rr
        have v7 : t.I 3 - ((1 : Nat) : Int) = 0 := v6.2
        have v8 := v5.2.1
        rw [show t.I 3 - 1 = 0 by omega] at v8
        have hq : v = some (.int (iI (t.A 3 0))) ∧ OB t (t.A 3 0) ∧ WD (SD t) (t.A 3 0) ≤ t.I 10 + 1 := by
          rcases hq with ⟨-, p1, p2⟩ | ⟨p1, p2⟩
          · have ob := hJ.2.2.1 0 (by decide) p1
            have se := SG_each (g := WD (SD t)) (f := t.A 3) (t.I 3).toNat (fun e he => by have := WD_1c hJ.1 (hJ.2.2.1 e (by omega) (by omega)); omega) 0 (by omega)
            have j7 := J0.2.2.2.2.2.2.1
            have se : WD (SD t) (t.A 3 0) ≤ SG (WD (SD t)) (t.A 3) (t.I 3).toNat := se
            exact ⟨p2, ob, by omega⟩
          · omega
        obtain ⟨rfl, ob, wy⟩ := hq
        show xx_go (xt_P z) (d + 9) 40 137 [some (.ref (c + 9)), some (.ref (c + 1)), some (.int (iI n)), y3, y4] [.int (iI (t.A 3 0))] hp _
        refine go_a (pc' := 141) (ls' := [some (.ref (c + 9)), some (.ref (c + 1)), some (.int (iI n)), y3, y4]) (st' := [.int (iI (t.A 3 0))]) rfl rfl ?_
        exact go_r rfl rfl rfl rfl rfl rfl ⟨t.A 3 0, t, rfl, hK, hB, eX, hX, hD, hG, ⟨by omega, by omega, by omega, by omega⟩, eM, eH, Or.inr ⟨ob, wy, by rw [v8, ← ge]; exact hx0⟩⟩
      · have gn : G = none := by rw [← ge]; exact sp_end_n wf fn (by omega)
        refine go_a (pc' := 110) (ls' := [some (.ref (c + 9)), some (.ref (c + 1)), some (.int (iI n)), y3, y4]) (st' := [.ref (c + 9)]) rfl rfl ?_
        refine go_a (pc' := 111) (ls' := [some (.ref (c + 9)), some (.ref (c + 1)), some (.int (iI n)), y3, y4]) (st' := [.int (iI 3), .ref (c + 9)]) rfl rfl ?_
        refine kput_12 (x := 3) hK hX rfl rfl (fun hp1 hK hX => ?_)
        refine go_a (pc' := 115) (ls' := [some (.ref (c + 9)), some (.ref (c + 1)), some (.int (iI n)), y3, y4]) (st' := [.ref (c + 9)]) rfl rfl ?_
        refine go_a (pc' := 116) (ls' := [some (.ref (c + 9)), some (.ref (c + 1)), some (.int (iI n)), y3, y4]) (st' := [.ref (c + 1), .ref (c + 9)]) rfl rfl ?_
        have B1 : KB (t.wI 12 3) := KB_wF hB (by decide) (by decide) (by decide)
        refine go_v (m := 34) (as := [.ref (c + 1)]) (r := [.ref (c + 9)]) rfl rfl rfl (hK.1 1 (by decide)) rfl rfl (kr_length_0 z (d + 8) c hp1 (t.wI 12 3) hK) (fun v h1 hq => ?_)
        obtain ⟨rfl, e⟩ := hq
        rw [e]
        clear e h1
        show xx_go (xt_P z) (d + 9) 40 119 [some (.ref (c + 9)), some (.ref (c + 1)), some (.int (iI n)), y3, y4] [.int (iI (t.I 0)), .ref (c + 9)] hp1 _
        refine kput_13 (x := t.I 0) hK hX rfl rfl (fun hp2 hK hX => ?_)
        have b0 := hB.2.2.2.1 0 (by decide)
        exact bad gn _ hp2 hK (KB_wF B1 (by omega) (by omega) (by decide)) hX ⟨3, t.I 0, rfl, by decide, by decide, by decide⟩
  intro f
  induction f with
  | zero =>
    intro n y3 y4 t hp hf n0 n1 hK hB hX hD hG hJ hJ0 h9 h12 hz hn hE
    have i0 : t.I 0 = s0.I 0 := hD.2.2 0 (by omega)
    refine go_a (pc' := 12) (ls' := [some (.ref (c + 9)), some (.ref (c + 1)), some (.int (iI n)), y3, y4]) (st' := [.int (iI n)]) rfl rfl ?_
    refine go_a (pc' := 13) (ls' := [some (.ref (c + 9)), some (.ref (c + 1)), some (.int (iI n)), y3, y4]) (st' := [.ref (c + 1), .int (iI n)]) rfl rfl ?_
    refine go_v (m := 34) (as := [.ref (c + 1)]) (r := [.int (iI n)]) rfl rfl rfl (hK.1 1 (by decide)) rfl rfl (kr_length_0 z (d + 8) c hp t hK) (fun v h1 hq => ?_)
    obtain ⟨rfl, e⟩ := hq
    rw [e]
    clear e h1
    show xx_go (xt_P z) (d + 9) 40 16 [some (.ref (c + 9)), some (.ref (c + 1)), some (.int (iI n)), y3, y4] [.int (iI (t.I 0)), .int (iI n)] hp _
    refine mi_ge (t := 91) rfl rfl (by omega) (by omega) (by omega) (by omega) (fun _ => (fin n y3 y4 t hp hK hB hX hD hG hJ hJ0 h9 h12 hz hn hE (Or.inr (by omega)))) (fun q => absurd (show n ≥ t.I 0 by omega) q)
  | succ f ih =>
    intro n y3 y4 t hp hf n0 n1 hK hB hX hD hG hJ hJ0 h9 h12 hz hn hE
    have i0 : t.I 0 = s0.I 0 := hD.2.2 0 (by omega)
    refine go_a (pc' := 12) (ls' := [some (.ref (c + 9)), some (.ref (c + 1)), some (.int (iI n)), y3, y4]) (st' := [.int (iI n)]) rfl rfl ?_
    refine go_a (pc' := 13) (ls' := [some (.ref (c + 9)), some (.ref (c + 1)), some (.int (iI n)), y3, y4]) (st' := [.ref (c + 1), .int (iI n)]) rfl rfl ?_
    refine go_v (m := 34) (as := [.ref (c + 1)]) (r := [.int (iI n)]) rfl rfl rfl (hK.1 1 (by decide)) rfl rfl (kr_length_0 z (d + 8) c hp t hK) (fun v h1 hq => ?_)
    obtain ⟨rfl, e⟩ := hq
    rw [e]
    clear e h1
    show xx_go (xt_P z) (d + 9) 40 16 [some (.ref (c + 9)), some (.ref (c + 1)), some (.int (iI n)), y3, y4] [.int (iI (t.I 0)), .int (iI n)] hp _
    refine mi_ge (t := 91) rfl rfl (by omega) (by omega) (by omega) (by omega) (fun _ => (fin n y3 y4 t hp hK hB hX hD hG hJ hJ0 h9 h12 hz hn hE (Or.inr (by omega)))) (fun q1 => ?_)
    refine go_a (pc' := 20) (ls' := [some (.ref (c + 9)), some (.ref (c + 1)), some (.int (iI n)), y3, y4]) (st' := [.ref (c + 9)]) rfl rfl ?_
    refine go_get (v := .int (iI (t.I 9))) rfl (hK.1 5 (by decide)) rfl rfl ?_
    refine go_a (pc' := 24) (ls' := [some (.ref (c + 9)), some (.ref (c + 1)), some (.int (iI n)), y3, y4]) (st' := [.ref (c + 1), .int (iI (t.I 9))]) rfl rfl ?_
    refine go_v (m := 34) (as := [.ref (c + 1)]) (r := [.int (iI (t.I 9))]) rfl rfl rfl (hK.1 1 (by decide)) rfl rfl (kr_length_0 z (d + 8) c hp t hK) (fun v h1 hq => ?_)
    obtain ⟨rfl, e⟩ := hq
    rw [e]
    clear e h1
    show xx_go (xt_P z) (d + 9) 40 27 [some (.ref (c + 9)), some (.ref (c + 1)), some (.int (iI n)), y3, y4] [.int (iI (t.I 0)), .int (iI (t.I 9))] hp _
    refine mi_ge (t := 91) rfl rfl (by omega) (by omega) (by omega) (by omega) (fun _ => (fin n y3 y4 t hp hK hB hX hD hG hJ hJ0 h9 h12 hz hn hE (Or.inr (by omega)))) (fun q2 => ?_)
    refine go_a (pc' := 31) (ls' := [some (.ref (c + 9)), some (.ref (c + 1)), some (.int (iI n)), y3, y4]) (st' := [.ref (c + 9)]) rfl rfl ?_
    refine go_get (v := .int (iI (t.I 12))) rfl (hK.1 5 (by decide)) rfl rfl ?_
    refine mi_ne0 (t := 91) rfl rfl (by omega) (by omega) (fun _ => (fin n y3 y4 t hp hK hB hX hD hG hJ hJ0 h9 h12 hz hn hE (Or.inl (by omega)))) (fun q3 => ?_)
    have z12 : t.I 12 = 0 := by omega
    have J0 := hJ0 z12
    have hO1 : OC hp := OC_kx hO hX
    have a0 : t.A 0 = s0.A 0 := (hD.2.1 0 (by omega)).1
    have hT1 : TXI t := by unfold TXI; rw [a0, i0]; exact hT
    have rb := RJ_b J0 (by decide) (by decide) hu
    obtain ⟨eX, eM, eH, -, eF⟩ := hE
    obtain ⟨F, m, e21, rr, wf, fn, hm, hG2⟩ := eF z12
    clear eF fin
    obtain ⟨m1, rfl⟩ : ∃ m1 : Nat, m = m1 + 1 := ⟨m - 1, by omega⟩
    rw [sp_rd_s, if_neg (by omega)] at hG2
    refine go_a (pc' := 38) (ls' := [some (.ref (c + 9)), some (.ref (c + 1)), some (.int (iI n)), y3, y4]) (st' := [.ref (c + 9)]) rfl rfl ?_
    refine go_get (v := .int (iI (t.I 9))) rfl (hK.1 5 (by decide)) rfl rfl ?_
    refine go_a (pc' := 42) (ls' := [some (.ref (c + 9)), some (.ref (c + 1)), some (.int (iI n)), some (.int (iI (t.I 9))), y4]) (st' := []) rfl rfl ?_
    refine go_a (pc' := 43) (ls' := [some (.ref (c + 9)), some (.ref (c + 1)), some (.int (iI n)), some (.int (iI (t.I 9))), y4]) (st' := [.ref (c + 9)]) rfl rfl ?_
    refine go_a (pc' := 44) (ls' := [some (.ref (c + 9)), some (.ref (c + 1)), some (.int (iI n)), some (.int (iI (t.I 9))), y4]) (st' := [.ref (c + 1), .ref (c + 9)]) rfl rfl ?_
    refine go_v (m := 184) (as := [.ref (c + 9), .ref (c + 1)]) (r := []) rfl rfl rfl (hK.1 5 (by decide)) rfl rfl (kz_takeWord z (d + 1) c hp t hK hB eX (by omega) hO1 hT1 h9.1 (by omega)) (fun v h1 hq => ?_)
    obtain ⟨w, a, x, t1, rfl, K1, B1, x1, X1, G1, ha, H1, ea, hw⟩ := hq
    have C1 := x1.1
    rw [a0, i0] at ea hw
    have wr : 1 ≤ w ∧ w ≤ 46 := by
      rcases hw with ⟨q, -⟩ | ⟨-, ⟨q, -⟩ | ⟨q, -⟩ | ⟨q, -⟩⟩ <;> omega
    have J9 : RJ (s0.I 8) 0 0 (t.wI 9 a) := J0
    have Jt : RJ (s0.I 8) 0 (0 - 1) t1 := RJ_store J9 G1 C1
    have J1 : RJ (s0.I 8) 0 (-1) (t1.wI 11 x) := RJ_w (show RJ (s0.I 8) 0 (0 - 1) (t1.wI 11 x) from Jt) (Int.le_refl _) (by decide)
    have hX1 := kx_tr hX X1
    have D1 : RDF s0 (t1.wI 11 x) := RDF_tr hD (RDF_tr (RDF_wI (by decide)) (RDF_tr (RDF_gr G1) (RDF_wI (by decide))))
    have GO : KGO s0 (t1.wI 11 x) := ⟨by have g1 : t.I 8 ≤ t1.I 8 := G1.2.1; have g2 := hG.1; exact Int.le_trans g2 g1, fun e q => ⟨((G1.2.2.2 e (Int.lt_of_lt_of_le q hG.1)).1).trans (hG.2 e q).1, ((G1.2.2.2 e (Int.lt_of_lt_of_le q hG.1)).2).trans (hG.2 e q).2⟩⟩
    have iq : ∀ j : Nat, j ≠ 8 → j ≠ 9 → j ≠ 11 → (t1.wI 11 x).I j = t.I j := fun j p1 p2 p3 => by
      show su t1.I 11 x j = t.I j
      rw [su_ne p3, G1.1.2.2.2 j p1]
      exact su_ne p2
    have i9 : (t1.wI 11 x).I 9 = a := by
      show su t1.I 11 x 9 = a
      rw [su_ne (by decide), G1.1.2.2.2 9 (by decide)]
      rfl
    have o11 : w = 3 → OB (t1.wI 11 x) ((t1.wI 11 x).I 11) ∧ ¬ (t1.wI 11 x).N ((t1.wI 11 x).I 11) < 0 := fun q => by
      have q2 : OB t1 x ∧ ¬ t1.N x < 0 := by
        rcases hw with ⟨p, -⟩ | ⟨-, ⟨p, -⟩ | ⟨-, p1, p2, -⟩ | ⟨p, -⟩⟩
        · omega
        · omega
        · exact ⟨p1, p2⟩
        · omega
      exact q2
    have jw : w ≠ 1 → w ≠ 2 → w ≠ 3 → RJ (s0.I 8) 0 0 (t1.wI 11 x) := fun p1 p2 p3 => by
      have q2 : t1 = t.wI 9 a := by
        rcases hw with ⟨p, -⟩ | ⟨-, ⟨p, -⟩ | ⟨p, -⟩ | ⟨-, p, -⟩⟩
        · omega
        · omega
        · omega
        · exact p
      rw [q2]
      exact J0
    have nzw : w ≠ 1 → NZ (s0.A 0) (t.I 9).toNat + 1 ≤ NZ (s0.A 0) a.toNat := fun p1 => by
      have q2 : s0.A 0 (t.I 9) ≠ 0 := by
        rcases hw with ⟨p, -⟩ | ⟨p, -⟩
        · omega
        · exact p
      exact NZ_up h9.1 q2 ha.1
    have r1 : RRc (t1.wI 11 x) F ((t1.wI 11 x).I 1) ((t1.wI 11 x).I 3) := by
      have r9 : RRc (t.wI 9 a) F ((t.wI 9 a).I 1) ((t.wI 9 a).I 3) := RRc_ext (s := t) F _ _ (fun _ _ _ => ⟨rfl, rfl⟩) (fun _ _ _ => ⟨rfl, rfl⟩) rr
      have r8 := RRc_gr (KB_wF (j := 9) (x := a) hB (by omega) (by omega) (by decide)) (KX_wI (j := 9) (x := a) eX (by decide)) G1 J9.2.2.1 r9
      exact RRc_ext (s := t1) F _ _ (fun _ _ _ => ⟨rfl, rfl⟩) (fun _ _ _ => ⟨rfl, rfl⟩) r8
    have m1t : KNM t1 := KNM_gr (s := t.wI 9 a) (KB_wF (j := 9) (x := a) hB (by omega) (by omega) (by decide)) eM G1
    have m1e : KNM (t1.wI 11 x) := m1t
    have y1 : KX (t1.wI 11 x) := KX_wI x1 (by decide)
    have h1e : KHT s0 → KHT (t1.wI 11 x) := fun q => H1 (eH q)
    have wt : sp_wt (s0.A 0) (s0.I 0) (t.I 9) = if w = 1 ∨ w = 2 then none else some (w, if w = 3 then DK (t1.wI 11 x).N ((t1.wI 11 x).I 11) else .num 0) := by
      rcases hw with ⟨p, q⟩ | ⟨-, ⟨p, q⟩ | ⟨p, -, -, q⟩ | ⟨p, -, q⟩⟩
      · rw [if_pos (by omega), q]
      · rw [if_pos (by omega), q]
      · rw [if_neg (by omega), if_pos p, q, p]
        rfl
      · rw [if_neg (by omega), if_neg (by omega), q]
    obtain ⟨t2, ht2⟩ : ∃ t2 : KS, t2 = t1.wI 11 x := ⟨_, rfl⟩
    rw [← ht2] at K1 B1 J1 hX1 D1 GO iq i9 o11 jw r1 m1e y1 h1e wt
    have u1 : t2.I 1 = t.I 1 := iq 1 (by decide) (by decide) (by decide)
    have u2 : t2.I 2 = t.I 2 := iq 2 (by decide) (by decide) (by decide)
    have u0 : t2.I 0 = t.I 0 := iq 0 (by decide) (by decide) (by decide)
    have u10 : t2.I 10 = t.I 10 := iq 10 (by decide) (by decide) (by decide)
    have fl := RRc_len F _ _ r1
    have may := MST2_may (w := w) r1 rfl
    show xx_go (xt_P z) (d + 9) 40 47 [some (.ref (c + 9)), some (.ref (c + 1)), some (.int (iI n)), some (.int (iI (t.I 9))), y4] [.int (iI w)] h1 _
    refine go_a (pc' := 49) (ls' := [some (.ref (c + 9)), some (.ref (c + 1)), some (.int (iI n)), some (.int (iI (t.I 9))), some (.int (iI w))]) (st' := []) rfl rfl ?_
    refine go_a (pc' := 50) (ls' := [some (.ref (c + 9)), some (.ref (c + 1)), some (.int (iI n)), some (.int (iI (t.I 9))), some (.int (iI w))]) (st' := [.ref (c + 9)]) rfl rfl ?_
    refine go_a (pc' := 51) (ls' := [some (.ref (c + 9)), some (.ref (c + 1)), some (.int (iI n)), some (.int (iI (t.I 9))), some (.int (iI w))]) (st' := [.ref (c + 9), .ref (c + 9)]) rfl rfl ?_
    refine go_a (pc' := 53) (ls' := [some (.ref (c + 9)), some (.ref (c + 1)), some (.int (iI n)), some (.int (iI (t.I 9))), some (.int (iI w))]) (st' := [.int (iI w), .ref (c + 9), .ref (c + 9)]) rfl rfl ?_
    refine go_v (m := 187) (as := [.ref (c + 9), .int (iI w)]) (r := [.ref (c + 9)]) rfl rfl rfl (K1.1 5 (by decide)) rfl rfl (kz_faultOf z (d + 6) c w h1 t2 K1 B1 (by omega) (by omega)) (fun v h2 hq => ?_)
    obtain ⟨⟨ft, rfl, hf1, hf2⟩, e⟩ := hq
    rw [e]
    clear e h2
    show xx_go (xt_P z) (d + 9) 40 56 [some (.ref (c + 9)), some (.ref (c + 1)), some (.int (iI n)), some (.int (iI (t.I 9))), some (.int (iI w))] [.int (iI ft), .ref (c + 9)] h1 _
    refine kput_12 (x := ft) K1 hX1 rfl rfl (fun h3 hK hX => ?_)
    refine go_a (pc' := 60) (ls' := [some (.ref (c + 9)), some (.ref (c + 1)), some (.int (iI n)), some (.int (iI (t.I 9))), some (.int (iI w))]) (st' := [.ref (c + 9)]) rfl rfl ?_
    refine go_get (v := .int (iI ft)) rfl (hK.1 5 (by decide)) rfl rfl ?_
    have B3 : KB (t2.wI 12 ft) := KB_wF B1 (by omega) (by omega) (by decide)
    refine mi_ne0 (t := 80) rfl rfl (by omega) (by omega) (fun q4 => ?_) (fun q4 => ?_)
    · have gn : G = none := by
        rw [← hG2, wt]
        by_cases p : w = 1 ∨ w = 2
        · rw [if_pos p]
        · rw [if_neg p]
          refine if_neg (fun ok => q4 (hf2.mpr ⟨may.mpr ok.1, fun e => p (Or.inl e), fun e => p (Or.inr e), by rw [u10]; exact ok.2.1, fun e => ?_⟩))
          have := ok.2.2 e
          omega
      refine go_a (pc' := 81) (ls' := [some (.ref (c + 9)), some (.ref (c + 1)), some (.int (iI n)), some (.int (iI (t.I 9))), some (.int (iI w))]) (st' := [.ref (c + 9)]) rfl rfl ?_
      refine go_a (pc' := 82) (ls' := [some (.ref (c + 9)), some (.ref (c + 1)), some (.int (iI n)), some (.int (iI (t.I 9))), some (.int (iI w))]) (st' := [.int (iI (t.I 9)), .ref (c + 9)]) rfl rfl ?_
      refine kput_13 (x := t.I 9) hK hX rfl rfl (fun h4 hK hX => ?_)
      refine go_a (pc' := 88) (ls' := [some (.ref (c + 9)), some (.ref (c + 1)), some (.int (iI (n + 1))), some (.int (iI (t.I 9))), some (.int (iI w))]) (st' := []) rfl (by rw [← iI_add n 1]; rfl) ?_
      refine go_a (pc' := 11) (ls' := [some (.ref (c + 9)), some (.ref (c + 1)), some (.int (iI (n + 1))), some (.int (iI (t.I 9))), some (.int (iI w))]) (st' := []) rfl rfl ?_
      have nz2 := NZ_mono (f := s0.A 0) a.toNat (t.I 9).toNat (by omega)
      refine ih (n + 1) _ _ ((t2.wI 12 ft).wI 13 (t.I 9)) h4 (by omega) (by omega) (by omega) hK (KB_wF B3 (by omega) (by omega) (by decide)) hX (RDF_tr D1 (RDF_tr (RDF_wI (by decide)) (RDF_wI (by decide)))) GO J1 (fun w => absurd (show ft = 0 from w) q4) (show 0 ≤ t2.I 9 ∧ t2.I 9 ≤ t2.I 0 by omega) (show 0 ≤ ft ∧ ft ≤ 5 from hf1) (show t2.I 10 ≤ NZ (s0.A 0) (t2.I 9).toNat by rw [i9]; omega) (show n + 1 ≤ t2.I 9 by omega) ⟨KX_wI (KX_wI y1 (by decide)) (by decide), m1e, h1e, fun _ => gn, fun w => absurd (show ft = 0 from w) q4⟩
    · have f0 : ft = 0 := by omega
      have hok := hf2.mp f0
      obtain ⟨m1q, m2, m3, m4, m5⟩ := hok
      have nz2 := nzw m2
      have pw : ¬ (w = 1 ∨ w = 2) := by omega
      rw [wt, if_neg pw] at hG2
      have hG2 := hG2
      have okk : sp_ok (t.I 10) w F := ⟨may.mp m1q, by rw [← u10]; exact m4, fun e => by have := m5 e; omega⟩
      replace hG2 := (if_pos (c := sp_ok (t.I 10) w F) okk).symm.trans hG2
      refine go_a (pc' := 67) (ls' := [some (.ref (c + 9)), some (.ref (c + 1)), some (.int (iI n)), some (.int (iI (t.I 9))), some (.int (iI w))]) (st' := [.ref (c + 9)]) rfl rfl ?_
      refine go_a (pc' := 69) (ls' := [some (.ref (c + 9)), some (.ref (c + 1)), some (.int (iI n)), some (.int (iI (t.I 9))), some (.int (iI w))]) (st' := [.int (iI w), .ref (c + 9)]) rfl rfl ?_
      refine go_v (m := 189) (as := [.ref (c + 9), .int (iI w)]) (r := []) rfl rfl rfl (hK.1 5 (by decide)) rfl rfl (kz_accept z (d + 2) c w (s0.I 8) h3 (t2.wI 12 ft) hK B3 hu J1 (fun p => jw m2 m3 p) (by rcases hw with ⟨p, -⟩ | ⟨-, ⟨p, -⟩ | ⟨p, -⟩ | ⟨p, -⟩⟩ <;> omega) m1q o11 m4 m5 F (KX_wI y1 (by decide)) m1e (show t2.I 2 = t2.I 1 by omega) (RRc_ext (s := t2) F _ _ (fun _ _ _ => ⟨rfl, rfl⟩) (fun _ _ _ => ⟨rfl, rfl⟩) r1) wf fn) (fun v h4 hq => ?_)
      obtain ⟨rfl, t3, K3, B3, X3, F3, J3, x3, k3, y3e, z3, r3, w3⟩ := hq
      have f9 : t3.I 9 = t2.I 9 := F3.2.1.1
      have f10 : t3.I 10 = t2.I 10 + 1 := F3.2.1.2.1
      have f12 : t3.I 12 = ft := F3.2.1.2.2.1
      have D3 : RDF s0 t3 := RDF_tr D1 (RDF_tr (RDF_wI (by decide)) (RDF_tr (RDF_wI (by decide)) F3.2.2))
      have d0 : t3.I 0 = s0.I 0 := D3.2.2 0 (by omega)
      have d1 : t3.A 0 = s0.A 0 := (D3.2.1 0 (by omega)).1
      have G3 : KGO s0 t3 := ⟨Int.le_trans GO.1 F3.1.1, fun e q => ⟨((F3.1.2 e (Int.lt_of_lt_of_le q GO.1)).1).trans (GO.2 e q).1, ((F3.1.2 e (Int.lt_of_lt_of_le q GO.1)).2).trans (GO.2 e q).2⟩⟩
      have r3 : RRc t3 (sp_acc w (DK t2.N (t2.I 11)) F) (t3.I 1) (t3.I 3) := r3
      have w3 : WFr (sp_acc w (DK t2.N (t2.I 11)) F) := w3
      have ac : sp_acc w (if w = 3 then DK t2.N (t2.I 11) else .num 0) F = sp_acc w (DK t2.N (t2.I 11)) F := by
        by_cases p : w = 3
        · rw [if_pos p]
        · rw [if_neg p]
          unfold sp_acc
          by_cases p1 : w = 40
          · rw [if_pos p1, if_pos p1]
          · rw [if_neg p1, if_neg p1]
            by_cases p2 : w = 39
            · rw [if_pos p2, if_pos p2]
            · rw [if_neg p2, if_neg p2]
              by_cases p3 : w = 46
              · rw [if_pos p3, if_pos p3]
              · rw [if_neg p3, if_neg p3]
                by_cases p4 : w = 41
                · rw [if_pos p4, if_pos p4]
                · rcases hw with ⟨q, -⟩ | ⟨-, ⟨q, -⟩ | ⟨q, -⟩ | ⟨q, -⟩⟩ <;> omega
      have E8 : sp_acc w (DK t2.N (t2.I 11)) F ≠ [] := sp_acc_ne wf fn (may.mp m1q)
      clear hw may okk hf2 m5 wt o11 jw nzw m1q rr e21 iq pw m2 m3
      show xx_go (xt_P z) (d + 9) 40 72 [some (.ref (c + 9)), some (.ref (c + 1)), some (.int (iI n)), some (.int (iI (t.I 9))), some (.int (iI w))] [] h4 _
      refine go_a (pc' := 73) (ls' := [some (.ref (c + 9)), some (.ref (c + 1)), some (.int (iI n)), some (.int (iI (t.I 9))), some (.int (iI w))]) (st' := [.ref (c + 9)]) rfl rfl ?_
      refine go_a (pc' := 74) (ls' := [some (.ref (c + 9)), some (.ref (c + 1)), some (.int (iI n)), some (.int (iI (t.I 9))), some (.int (iI w))]) (st' := [.ref (c + 1), .ref (c + 9)]) rfl rfl ?_
      refine go_v (m := 42) (as := [.ref (c + 9), .ref (c + 1)]) (r := []) rfl rfl rfl (K3.1 5 (by decide)) rfl rfl (kz_skip z (d + 7) c h4 t3 K3 B3 (by omega) (by omega)) (fun v h5 hq => ?_)
      obtain ⟨rfl, a2, K4, B4, X4, sk⟩ := hq
      rw [d1, d0, f9, i9] at sk
      have skR := sp_sk_R (s0.A 0) (s0.I 0 - a).toNat a 0
      rw [← sk] at skR
      have nz3 := NZ_mono (f := s0.A 0) a2.toNat a.toNat (by omega)
      show xx_go (xt_P z) (d + 9) 40 77 [some (.ref (c + 9)), some (.ref (c + 1)), some (.int (iI n)), some (.int (iI (t.I 9))), some (.int (iI w))] [] h5 _
      refine go_a (pc' := 85) (ls' := [some (.ref (c + 9)), some (.ref (c + 1)), some (.int (iI n)), some (.int (iI (t.I 9))), some (.int (iI w))]) (st' := []) rfl rfl ?_
      refine go_a (pc' := 88) (ls' := [some (.ref (c + 9)), some (.ref (c + 1)), some (.int (iI (n + 1))), some (.int (iI (t.I 9))), some (.int (iI w))]) (st' := []) rfl (by rw [← iI_add n 1]; rfl) ?_
      refine go_a (pc' := 11) (ls' := [some (.ref (c + 9)), some (.ref (c + 1)), some (.int (iI (n + 1))), some (.int (iI (t.I 9))), some (.int (iI w))]) (st' := []) rfl rfl ?_
      have E1 : KX (t3.wI 9 a2) := KX_wI x3 (by decide)
      have E2 : KNM (t3.wI 9 a2) := k3
      have E6 : KHT s0 → KHT (t2.wI 12 ft) := fun q => h1e q
      have E7 : KHT t3 → KHT (t3.wI 9 a2) := fun q => q
      have E3 : KHT s0 → KHT (t3.wI 9 a2) := fun q => E7 (y3e (E6 q))
      have E4 : RRc (t3.wI 9 a2) (sp_acc w (DK t2.N (t2.I 11)) F) (t3.I 1) (t3.I 3) := RRc_ext (s := t3) _ _ _ (fun _ _ _ => ⟨rfl, rfl⟩) (fun _ _ _ => ⟨rfl, rfl⟩) r3
      have E5 : sp_rd (s0.A 0) (s0.I 0) m1 a2 (t3.I 10) (sp_acc w (DK t2.N (t2.I 11)) F) = G := by
        rw [f10, u10, ← ac, sk, ea]
        exact hG2
      have E9 : (s0.I 0 - a2).toNat < m1 := by omega
      have J5 : RJ (s0.I 8) 0 0 (t3.wI 9 a2) := J3
      have J6 : RJ (s0.I 8) 0 (-1) (t3.wI 9 a2) := RJ_w J5 (Int.le_refl _) (by decide)
      have G4 : KGO s0 (t3.wI 9 a2) := G3
      have Z0 : t3.I 12 = 0 := by omega
      have V1 : 0 ≤ a2 ∧ a2 ≤ t3.I 0 := by omega
      have V2 : 0 ≤ t3.I 12 ∧ t3.I 12 ≤ 5 := by omega
      have V3 : t3.I 10 ≤ NZ (s0.A 0) a2.toNat := by omega
      have V4 : n + 1 ≤ a2 := by omega
      have W1 : (t3.wI 9 a2).I 12 ≠ 0 → G = none := fun w9 => absurd Z0 w9
      have W2 : (t3.wI 9 a2).I 12 = 0 → ∃ (F : sp_F) (m : Nat), (t3.wI 9 a2).I 2 = (t3.wI 9 a2).I 1 ∧ RRc (t3.wI 9 a2) F ((t3.wI 9 a2).I 1) ((t3.wI 9 a2).I 3) ∧ WFr F ∧ F ≠ [] ∧ (s0.I 0 - (t3.wI 9 a2).I 9).toNat < m ∧ sp_rd (s0.A 0) (s0.I 0) m ((t3.wI 9 a2).I 9) ((t3.wI 9 a2).I 10) F = G := fun _ => ⟨_, m1, z3, E4, w3, E8, E9, E5⟩
      exact ih (n + 1) _ _ (t3.wI 9 a2) h5 (by omega) (by omega) (by omega) K4 B4 (kx_tr (kx_tr hX X3) X4) (RDF_tr D3 (RDF_wI (by decide))) G4 J6 (fun _ => J5) V1 V2 V3 V4 ⟨E1, E2, E3, W1, W2⟩
theorem kz_read (z : Value) (d c : Nat) (hp : xx_H) (s : KS) (hK : KI c hp s) (hB : KB s) (hC : KX s) (hM : KNM s) (hO : OC hp) (hT : TXI s) (hu : s.I 8 ≤ 30000) : xx_cl (xt_P z) (d + 10) 40 [.ref (c + 9), .ref (c + 1)] hp (fun v h1 => ∃ (x : Int) (s1 : KS), v = some (.int (iI x)) ∧ KI c h1 s1 ∧ KB s1 ∧ KX s1 ∧ kx c hp s h1 s1 0 0 ∧ RDF s s1 ∧ KGO s s1 ∧ (0 ≤ s1.I 10 ∧ s1.I 10 ≤ 1000 ∧ s1.I 10 ≤ NZ (s.A 0) (s.I 0).toNat ∧ s1.I 8 ≤ s.I 8 + 2 * s1.I 10 + 1) ∧ KNM s1 ∧ (KHT s → KHT s1) ∧ ((x = -1 ∧ sp_RD (s.A 0) (s.I 0) = none) ∨ (OB s1 x ∧ WD (SD s1) x ≤ s1.I 10 + 1 ∧ sp_RD (s.A 0) (s.I 0) = some (DK s1.N x)))) := by
  have b := hB.2.2.2.1 0 (by decide)
  refine cl_go rfl ?_
  show xx_go (xt_P z) (d + 9) 40 0 [some (.ref (c + 9)), some (.ref (c + 1)), none, none, none] [] hp _
  refine go_a (pc' := 1) (ls' := [some (.ref (c + 9)), some (.ref (c + 1)), none, none, none]) (st' := [.ref (c + 9)]) rfl rfl ?_
  refine go_v (m := 41) (as := [.ref (c + 9)]) (r := []) rfl rfl rfl (hK.1 5 (by decide)) rfl rfl (kz_begin z (d + 6) c hp s hK hB hC.1) (fun v h1 hq => ?_)
  obtain ⟨rfl, t, K1, B1, X1, J1, e9, e10, e12, SA, D1, q1, q2, q3, q4, q5, q6, q7⟩ := hq
  have i0 : t.I 0 = s.I 0 := D1.2.2 0 (by omega)
  have a0 : t.A 0 = s.A 0 := (D1.2.1 0 (by omega)).1
  show xx_go (xt_P z) (d + 9) 40 4 [some (.ref (c + 9)), some (.ref (c + 1)), none, none, none] [] h1 _
  refine go_a (pc' := 5) (ls' := [some (.ref (c + 9)), some (.ref (c + 1)), none, none, none]) (st' := [.ref (c + 9)]) rfl rfl ?_
  refine go_a (pc' := 6) (ls' := [some (.ref (c + 9)), some (.ref (c + 1)), none, none, none]) (st' := [.ref (c + 1), .ref (c + 9)]) rfl rfl ?_
  refine go_v (m := 42) (as := [.ref (c + 9), .ref (c + 1)]) (r := []) rfl rfl rfl (K1.1 5 (by decide)) rfl rfl (kz_skip z (d + 7) c h1 t K1 B1 (by omega) (by omega)) (fun v h2 hq => ?_)
  obtain ⟨rfl, a, K2, B2, X2, sk⟩ := hq
  rw [a0, i0, e9, show s.I 0 - 0 = s.I 0 by omega] at sk
  have skR := sp_sk_R (s.A 0) (s.I 0).toNat 0 0
  rw [← sk] at skR
  show xx_go (xt_P z) (d + 9) 40 9 [some (.ref (c + 9)), some (.ref (c + 1)), none, none, none] [] h2 _
  refine go_a (pc' := 10) (ls' := [some (.ref (c + 9)), some (.ref (c + 1)), none, none, none]) (st' := [.int (iI 0)]) rfl rfl ?_
  refine go_a (pc' := 11) (ls' := [some (.ref (c + 9)), some (.ref (c + 1)), some (.int (iI 0)), none, none]) (st' := []) rfl rfl ?_
  have n0 := NZ_nn (f := s.A 0) a.toNat
  have xt : KX t := KX_e hC SA.2.2 SA.1 SA.2.1 q5 q6
  have mt : KNM t := by unfold KNM; rw [SA.1]; exact hM
  have ht : KHT s → KHT t := fun q => by
    unfold KHT at q ⊢
    rw [SA.1, SA.2.1, SA.2.2]
    exact q
  have r0 : RRc t [(0, [])] (t.I 1) (t.I 3) := by
    rw [q1, q2]
    exact ⟨by decide, q3, (show t.A 2 0 = 0 - ((0 : Nat) : Int) by rw [q4]; rfl), ⟨by decide, trivial⟩, by decide, by decide⟩
  refine kz_read_loop z d c hp s hO hT hu (by omega) (by omega) (sp_RD (s.A 0) (s.I 0)) _ 0 _ _ (t.wI 9 a) h2 (Nat.le_refl _) (by decide) (by decide) K2 B2 (kx_tr X1 X2) (RDF_tr D1 (RDF_wI (by decide))) ⟨by rw [show (t.wI 9 a).I 8 = s.I 8 from SA.2.2]; exact Int.le_refl _, fun e _ => by rw [show (t.wI 9 a).N = s.N from SA.1, show (t.wI 9 a).A 9 = s.A 9 from SA.2.1]; exact ⟨rfl, rfl⟩⟩ (RJ_w (show RJ (s.I 8) 0 0 (t.wI 9 a) from J1) (Int.le_refl _) (by decide)) (fun _ => J1) (show 0 ≤ a ∧ a ≤ t.I 0 by omega) (show 0 ≤ t.I 12 ∧ t.I 12 ≤ 5 by omega) (show t.I 10 ≤ NZ (s.A 0) a.toNat by omega) (show 0 ≤ a by omega) ⟨KX_wI xt (by decide), mt, ht, fun w => absurd (show t.I 12 = 0 from e12) w, fun _ => ⟨[(0, [])], (s.I 0).toNat + 1, ?_, RRc_ext (s := t) _ _ _ (fun _ _ _ => ⟨rfl, rfl⟩) (fun _ _ _ => ⟨rfl, rfl⟩) r0, ?_, (fun q => by cases q), (show (s.I 0 - a).toNat < (s.I 0).toNat + 1 by omega), ?_⟩⟩
  · show t.I 2 = t.I 1
    rw [q1]
    exact q7
  · exact ⟨⟨fun q => absurd q (by decide), fun q => absurd q (by decide), fun q => absurd q (by decide), fun _ => ⟨rfl, rfl⟩, fun q => absurd q (by decide), fun _ => Or.inl rfl, fun q => absurd q (by decide), fun q => absurd q (by decide)⟩, trivial⟩
  · show sp_rd (s.A 0) (s.I 0) ((s.I 0).toNat + 1) a (t.I 10) [(0, [])] = _
    rw [e10, sk]
    rfl
