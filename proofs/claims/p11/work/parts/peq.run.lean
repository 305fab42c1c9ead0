section EQ
variable {c : Nat} {t : List sp_Th} {hp h1 : xx_H} {s s1 : KS} {NM : BKM} {k a b u : Int}
theorem KWS_tl (h : KWS c hp s NM t k) (K : KI c h1 s1) (B : KB s1) (X : kx c hp s h1 s1 a b) (F : TLF s s1) : KWS c h1 s1 NM t k := by
  have i := F.2.2.2
  refine KWS_fr h K B (KSA_CI (TLF_SA F) h.2.2.1) X F.2.1 (fun j hj => (F.2.2.1 j (by omega) (by omega)).2) (fun j hj => i j (by omega) (by omega)) ?_ ?_ (fun q => KQ_e F.1 (F.2.2.1 9 (by decide) (by decide)).1 (F.2.2.1 10 (by decide) (by decide)).1 (F.2.2.1 11 (by decide) (by decide)).1 (i 8 (by decide) (by decide)) q) (fun e _ => by rw [F.1])
  · rw [i 24 (by decide) (by decide), i 8 (by decide) (by decide)]
    exact h.2.2.2.2.2.2.2.2.1
  · rw [i 20 (by decide) (by decide)]
    exact h.2.2.2.2.2.2.2.2.2.2.1
theorem KWS_rl (h : KWS c hp s NM t k) (K : KI c h1 s1) (B : KB s1) (X : kx c hp s h1 s1 a b) (F : KRL s s1 u) (u1 : u = s.I 24) (hc : KCH s1) : KWS c h1 s1 NM t k ∧ s1.I 8 = s1.I 24 ∧ ∀ j : Nat, j ≠ 8 → s1.I j = s.I j := by
  have nn := BKS_nn h.2.2.2.2.1
  have l8 := h.2.2.2.2.2.2.2.2.1
  have i : ∀ j : Nat, j ≠ 8 → s1.I j = s.I j := fun j hj => by rw [F.2.2.2.2.1]; exact su_ne hj
  have i8 : s1.I 8 = u := by rw [F.2.2.2.2.1]; rfl
  have i24 := i 24 (by decide)
  refine ⟨KWS_fr h K B (KRL_CI F h.2.2.1 (by omega) (by omega)) X F.2.1 (fun j hj => ⟨by rw [F.2.2.1], by rw [F.2.2.2.1]⟩) (fun j hj => i j (by omega)) (by omega) ?_ (fun q => ⟨hc, fun k k0 k1 => ?_⟩) (fun e _ => by rw [F.1]), by omega, i⟩
  · rw [i 20 (by decide)]
    exact h.2.2.2.2.2.2.2.2.2.2.1
  · rw [F.1, F.2.2.2.2.2 9 (by decide)]
    exact q.2 k k0 (by omega)
end EQ
section CMDS
variable {s : KS} {NM : BKM} {t : List sp_Th} {lit fu x : Int} (h : KNT s NM) (hC : CI s) (hB : KB s) (ox : OB s x)
theorem CM_hd {q : Nat} {i : Nat} (h : KNT s NM) (hC : CI s) (hB : KB s) (ox : OB s x) (hL : isL (SD s) q x) (hq : 1 ≤ q) (hi : i < 38) (e : pi s 0 x = (i : Int)) : sp_pl (DK s.N x) = true ∧ (sp_as (DK s.N x)).length = q ∧ sp_hc (sp_p 0 (DK s.N x)) = cNm.getD i 0 := by
  have ST := (KNT_ST h hC hB).1
  have al := (ST_isL ST q x ox.1 ox.2).mp hL
  have r := (ST_rt ST q 0 x ox.1 ox.2 hL (by omega)).1
  have e0 : sp_p 0 (DK s.N x) = DK s.N (pi s 0 x) := by
    unfold sp_p
    rw [List.getD_eq_getElem?_getD, r]
    rfl
  refine ⟨al.1, al.2, ?_⟩
  rw [e0, e]
  exact HC_yes h hi
theorem CM_17 (h : KNT s NM) (hC : CI s) (hB : KB s) (ox : OB s x) (hL : isL (SD s) 4 x) (e : pi s 0 x = 17) : sp_cmd t lit fu (DK s.N x) = ((sp_def t (DK s.N x), lit), 0) := by
  obtain ⟨a, b, d⟩ := CM_hd (i := 17) h hC hB ox hL (by decide) (by decide) e
  unfold sp_cmd
  rw [if_neg (by rw [a]; decide), if_pos ⟨d, b⟩]
theorem CM_18 (h : KNT s NM) (hC : CI s) (hB : KB s) (ox : OB s x) (hL : isL (SD s) 4 x) (e : pi s 0 x = 18) : sp_cmd t lit fu (DK s.N x) = (((sp_chk t fu (DK s.N x)).1, lit), (sp_chk t fu (DK s.N x)).2) := by
  obtain ⟨a, b, d⟩ := CM_hd (i := 18) h hC hB ox hL (by decide) (by decide) e
  unfold sp_cmd
  rw [if_neg (by rw [a]; decide), if_neg (fun w => absurd (d.symm.trans w.1) (by decide)), if_pos ⟨d, b⟩]
theorem CM_19 (h : KNT s NM) (hC : CI s) (hB : KB s) (ox : OB s x) (hL : isL (SD s) 2 x) (e : pi s 0 x = 19) : sp_cmd t lit fu (DK s.N x) = sp_clz t lit fu (sp_p 1 (DK s.N x)) := by
  obtain ⟨a, b, d⟩ := CM_hd (i := 19) h hC hB ox hL (by decide) (by decide) e
  unfold sp_cmd
  rw [if_neg (by rw [a]; decide), if_neg (fun w => absurd (d.symm.trans w.1) (by decide)), if_neg (fun w => absurd (d.symm.trans w.1) (by decide)), if_pos ⟨d, b⟩]
  rfl
theorem CM_20 (h : KNT s NM) (hC : CI s) (hB : KB s) (ox : OB s x) (hL : isL (SD s) 1 x) (e : pi s 0 x = 20) : sp_cmd t lit fu (DK s.N x) = ((t.drop 1, lit), 0) := by
  obtain ⟨a, b, d⟩ := CM_hd (i := 20) h hC hB ox hL (by decide) (by decide) e
  unfold sp_cmd
  rw [if_neg (by rw [a]; decide), if_neg (fun w => absurd (d.symm.trans w.1) (by decide)), if_neg (fun w => absurd (d.symm.trans w.1) (by decide)), if_neg (fun w => absurd (d.symm.trans w.1) (by decide)), if_pos ⟨d, b⟩]
end CMDS
theorem kk_run2 (z : Value) (hz : z = .null ∨ ∃ k, z = .ref k) (d c : Nat) (x q : Int) (hp : xx_H) (s : KS) (NM : BKM) (t : List sp_Th) (k : Int) (W : KWS c hp s NM t k) (l4 : s.I 4 ≤ 2000) : xx_go (xt_P z) (d + 91) 37 140 [some (.ref (c + 0)), some (.int (iI x)), some (.int (iI q))] [] hp (fun v h1 => v = some (.int (iI q)) ∧ ∃ s1 : KS, KWS c h1 s1 NM t k ∧ s1.I 8 = s1.I 24 ∧ s1.I 24 = s.I 24 ∧ s1.I 0 = s.I 0 ∧ s1.I 4 ≤ 2000 ∧ s1.I 20 = s.I 20 ∧ s1.A 12 = s.A 12 ∧ kx c hp s h1 s1 0 0 ∧ s1.I 22 = s.I 22 ∧ s1.I 23 = s.I 23) := by
  have b25 := W.2.1.2.1 25
  refine go_a (pc' := 141) (ls' := [some (.ref (c + 0)), some (.int (iI x)), some (.int (iI q))]) (st' := [.ref (c + 0)]) rfl rfl ?_
  refine go_get (v := .int (iI (s.I 25))) rfl (W.1.1 0 (by decide)) rfl rfl ?_
  refine go_a (pc' := 145) (ls' := [some (.ref (c + 0)), some (.int (iI x)), some (.int (iI q))]) (st' := [.int (iI ((-1))), .int (iI (s.I 25))]) rfl rfl ?_
  refine mi_eq (t := 159) rfl rfl (by omega) (by omega) (by omega) (by omega) (fun w1 => ?_) (fun w1 => ?_)
  · have X0 := kx_rf (c := c) (hp := hp) (s := s)
    refine go_a (pc' := 160) (ls' := [some (.ref (c + 0)), some (.int (iI x)), some (.int (iI q))]) (st' := [.ref (c + 0)]) rfl rfl ?_
    refine go_get (v := .ref (c + 4)) rfl (W.1.1 0 (by decide)) rfl rfl ?_
    refine go_a (pc' := 164) (ls' := [some (.ref (c + 0)), some (.int (iI x)), some (.int (iI q))]) (st' := [.ref (c + 0), .ref (c + 4)]) rfl rfl ?_
    refine go_get (v := .int (iI (s.I 24))) rfl (W.1.1 0 (by decide)) rfl rfl ?_
    have n24 := BKS_nn W.2.2.2.2.1
    have m24 := W.2.2.2.2.2.2.2.2.1
    have b24 := W.2.1.2.1 24
    refine go_v (m := 49) (as := [.ref (c + 4), .int (iI (s.I 24))]) (r := []) rfl rfl rfl (W.1.1 3 (by decide)) rfl rfl (kz_release z (d + 89) c (s.I 24) hp s W.1 W.2.1 W.2.2.2.2.2.2.2.2.2.2.2.1.1 (by omega) (by omega)) (fun v h8 hq => ?_)
    obtain ⟨rfl, u8, s8, K8, B8, X8, F8, u1, u2, u3, ch8⟩ := hq
    obtain ⟨W8, e8, i8⟩ := KWS_rl W K8 B8 X8 F8 (u3 m24 (by omega)) ch8
    show xx_go (xt_P z) (d + 91) 37 170 [some (.ref (c + 0)), some (.int (iI x)), some (.int (iI q))] [] h8 _
    refine go_a (pc' := 171) (ls' := [some (.ref (c + 0)), some (.int (iI x)), some (.int (iI q))]) (st' := [.int (iI q)]) rfl rfl ?_
    exact go_r rfl rfl rfl rfl rfl rfl ⟨rfl, s8, W8, e8, (i8 24 (by decide)).trans rfl, (i8 0 (by decide)).trans rfl, by rw [i8 4 (by decide)]; exact l4, (i8 20 (by decide)).trans rfl, (F8.2.2.2.2.2 12 (by decide)).trans rfl, kx_w (kx_tr X0 X8) (by decide) (by decide), (i8 22 (by decide)).trans rfl, (i8 23 (by decide)).trans rfl⟩
  · refine go_a (pc' := 149) (ls' := [some (.ref (c + 0)), some (.int (iI x)), some (.int (iI q))]) (st' := [.ref (c + 0)]) rfl rfl ?_
    refine go_get (v := .ref (c + 16)) rfl (W.1.1 0 (by decide)) rfl rfl ?_
    refine go_a (pc' := 153) (ls' := [some (.ref (c + 0)), some (.int (iI x)), some (.int (iI q))]) (st' := [.ref (c + 0), .ref (c + 16)]) rfl rfl ?_
    refine go_get (v := .int (iI (s.I 25))) rfl (W.1.1 0 (by decide)) rfl rfl ?_
    refine go_v (m := 308) (as := [.ref (c + 16), .int (iI (s.I 25))]) (r := []) rfl rfl rfl (W.1.1 9 (by decide)) rfl rfl (ke_tellObject z hz (d + 80) c (s.I 25) hp s W.1 W.2.1 W.2.2.1 W.2.2.2.1 l4 b25.1 b25.2) (fun v h7 hq => ?_)
    obtain ⟨rfl, s7, K7, B7, X7, F7, l7⟩ := hq
    have W7 := KWS_tl W K7 B7 X7 F7
    show xx_go (xt_P z) (d + 91) 37 159 [some (.ref (c + 0)), some (.int (iI x)), some (.int (iI q))] [] h7 _
    refine go_a (pc' := 160) (ls' := [some (.ref (c + 0)), some (.int (iI x)), some (.int (iI q))]) (st' := [.ref (c + 0)]) rfl rfl ?_
    refine go_get (v := .ref (c + 4)) rfl (K7.1 0 (by decide)) rfl rfl ?_
    refine go_a (pc' := 164) (ls' := [some (.ref (c + 0)), some (.int (iI x)), some (.int (iI q))]) (st' := [.ref (c + 0), .ref (c + 4)]) rfl rfl ?_
    refine go_get (v := .int (iI (s7.I 24))) rfl (K7.1 0 (by decide)) rfl rfl ?_
    have n24 := BKS_nn W7.2.2.2.2.1
    have m24 := W7.2.2.2.2.2.2.2.2.1
    have b24 := B7.2.1 24
    refine go_v (m := 49) (as := [.ref (c + 4), .int (iI (s7.I 24))]) (r := []) rfl rfl rfl (K7.1 3 (by decide)) rfl rfl (kz_release z (d + 89) c (s7.I 24) h7 s7 K7 B7 W7.2.2.2.2.2.2.2.2.2.2.2.1.1 (by omega) (by omega)) (fun v h8 hq => ?_)
    obtain ⟨rfl, u8, s8, K8, B8, X8, F8, u1, u2, u3, ch8⟩ := hq
    obtain ⟨W8, e8, i8⟩ := KWS_rl W7 K8 B8 X8 F8 (u3 m24 (by omega)) ch8
    show xx_go (xt_P z) (d + 91) 37 170 [some (.ref (c + 0)), some (.int (iI x)), some (.int (iI q))] [] h8 _
    refine go_a (pc' := 171) (ls' := [some (.ref (c + 0)), some (.int (iI x)), some (.int (iI q))]) (st' := [.int (iI q)]) rfl rfl ?_
    exact go_r rfl rfl rfl rfl rfl rfl ⟨rfl, s8, W8, e8, (i8 24 (by decide)).trans (F7.2.2.2 24 (by decide) (by decide)), (i8 0 (by decide)).trans (F7.2.2.2 0 (by decide) (by decide)), by rw [i8 4 (by decide)]; exact l7, (i8 20 (by decide)).trans (F7.2.2.2 20 (by decide) (by decide)), (F8.2.2.2.2.2 12 (by decide)).trans (F7.2.2.1 12 (by decide) (by decide)).1, kx_w (kx_tr X7 X8) (by decide) (by decide), (i8 22 (by decide)).trans (F7.2.2.2 22 (by decide) (by decide)), (i8 23 (by decide)).trans (F7.2.2.2 23 (by decide) (by decide))⟩
theorem kk_run (z : Value) (hz : z = .null ∨ ∃ k, z = .ref k) (d c : Nat) (cc : Int) (hp0 : xx_H) (s0 : Int × Int) (hp : xx_H) (s : KS) (t : List sp_Th) (hI : KIC c hp0 s0 cc hp s t) (hc : cc ≤ 512) : xx_cl (xt_P z) (d + 92) 37 [.ref (c + 0)] hp (fun v h1 => ∃ (b : Int) (s1 : KS) (t1 : List sp_Th), v = some (.int (iI b)) ∧ KIC c hp0 s0 (cc + 1) h1 s1 t1 ∧ s1.I 0 = 0 ∧ s1.I 20 = s.I 20 ∧ s1.A 12 = s.A 12 ∧ ((t1, s1.I 23), s1.I 22) = sp_run t (s.I 23) (s.I 20) (sp_RD (s.A 0) (s.I 0))) := by
  have hb := KIC_b hI hc
  obtain ⟨⟨NM, W⟩, q1, q2, q3, w, α, β, hw, X, p1, p2, p3⟩ := hI
  have w01 : 0 ≤ w ∧ w ≤ 1 := by rcases hw with ⟨e, -⟩ | e <;> omega
  refine cl_go rfl ?_
  show xx_go (xt_P z) (d + 91) 37 0 [some (.ref (c + 0)), none, none] [] hp _
  refine go_a (pc' := 1) (ls' := [some (.ref (c + 0)), none, none]) (st' := [.ref (c + 0)]) rfl rfl ?_
  refine go_get (v := .ref (c + 16)) rfl (W.1.1 0 (by decide)) rfl rfl ?_
  refine go_v (m := 38) (as := [.ref (c + 16)]) (r := []) rfl rfl rfl (W.1.1 9 (by decide)) rfl rfl (ke_clear z (d + 89) c hp s W.1 W.2.1) (fun v h1 hq => ?_)
  obtain ⟨rfl, K1, B1, X1⟩ := hq
  have hX := X1
  show xx_go (xt_P z) (d + 91) 37 7 [some (.ref (c + 0)), none, none] [] h1 _
  refine go_a (pc' := 8) (ls' := [some (.ref (c + 0)), none, none]) (st' := [.ref (c + 0)]) rfl rfl ?_
  refine go_a (pc' := 9) (ls' := [some (.ref (c + 0)), none, none]) (st' := [.int (iI ((-1))), .ref (c + 0)]) rfl rfl ?_
  refine kput_25 (x := (-1)) K1 hX rfl rfl (fun hA hK hX => ?_)
  refine go_a (pc' := 13) (ls' := [some (.ref (c + 0)), none, none]) (st' := [.ref (c + 0)]) rfl rfl ?_
  refine go_a (pc' := 14) (ls' := [some (.ref (c + 0)), none, none]) (st' := [.int (iI 0), .ref (c + 0)]) rfl rfl ?_
  refine kput_21 (x := 0) hK hX rfl rfl (fun hA hK hX => ?_)
  refine go_a (pc' := 18) (ls' := [some (.ref (c + 0)), none, none]) (st' := [.ref (c + 0)]) rfl rfl ?_
  refine go_a (pc' := 19) (ls' := [some (.ref (c + 0)), none, none]) (st' := [.int (iI 0), .ref (c + 0)]) rfl rfl ?_
  refine kput_22 (x := 0) hK hX rfl rfl (fun hA hK hX => ?_)
  refine go_a (pc' := 23) (ls' := [some (.ref (c + 0)), none, none]) (st' := [.ref (c + 0)]) rfl rfl ?_
  refine go_get (v := .ref (c + 9)) rfl (hK.1 0 (by decide)) rfl rfl ?_
  refine go_a (pc' := 27) (ls' := [some (.ref (c + 0)), none, none]) (st' := [.ref (c + 0), .ref (c + 9)]) rfl rfl ?_
  refine go_get (v := .ref (c + 1)) rfl (hK.1 0 (by decide)) rfl rfl ?_
  have BA : KB ((((s.wI 4 0).wI 25 (-1)).wI 21 0).wI 22 0) := KB_wF (KB_wF (KB_wF B1 (by decide) (by decide) (by decide)) (by decide) (by decide) (by decide)) (by decide) (by decide) (by decide)
  have iA : ∀ j : Nat, j ≠ 4 → j ≠ 21 → j ≠ 22 → j ≠ 25 → ((((s.wI 4 0).wI 25 (-1)).wI 21 0).wI 22 0).I j = s.I j := fun j a b e f => by
    show su (su (su (su s.I 4 0) 25 (-1)) 21 0) 22 0 j = s.I j
    rw [su_ne e, su_ne b, su_ne f, su_ne a]
  have CA : CI ((((s.wI 4 0).wI 25 (-1)).wI 21 0).wI 22 0) := KSA_CI (s := s) ⟨rfl, rfl, rfl⟩ W.2.2.1
  have e8A : ((((s.wI 4 0).wI 25 (-1)).wI 21 0).wI 22 0).I 8 = s.I 8 := rfl
  have TA : TXI ((((s.wI 4 0).wI 25 (-1)).wI 21 0).wI 22 0) := q2.1
  have i4A : ((((s.wI 4 0).wI 25 (-1)).wI 21 0).wI 22 0).I 4 = 0 := rfl
  have aA : ((((s.wI 4 0).wI 25 (-1)).wI 21 0).wI 22 0).A = s.A := rfl
  have WA : KWS c hA ((((s.wI 4 0).wI 25 (-1)).wI 21 0).wI 22 0) NM t cc := KWS_fr W hK BA CA hX rfl (fun _ _ => ⟨rfl, rfl⟩) (fun j hj => iA j (by omega) (by omega) (by omega) (by omega)) W.2.2.2.2.2.2.2.2.1 W.2.2.2.2.2.2.2.2.2.2.1 (fun q => KQ_e (s := s) rfl rfl rfl rfl rfl q) (fun _ _ => rfl)
  have i22A : ((((s.wI 4 0).wI 25 (-1)).wI 21 0).wI 22 0).I 22 = 0 := rfl
  obtain ⟨sA, eA⟩ : ∃ q : KS, q = ((((s.wI 4 0).wI 25 (-1)).wI 21 0).wI 22 0) := ⟨_, rfl⟩
  rw [← eA] at hK hX BA iA CA e8A TA WA i4A aA i22A
  have QA := WA.2.2.2.2.2.2.2.2.2.2.2
  have NA := QA.2.1
  refine go_v (m := 40) (as := [.ref (c + 9), .ref (c + 1)]) (r := []) rfl rfl rfl (hK.1 5 (by decide)) rfl rfl (kz_read z (d + 81) c hA sA hK BA ⟨CA, QA.1.1⟩ ⟨NA 0 (by decide), NA 2 (by decide)⟩ WA.2.2.2.1 TA (by omega)) (fun v h2 hq => ?_)
  obtain ⟨x, s2, rfl, K2, B2, KX2, X2, R2, G2, ⟨n0, n1, n2, n3⟩, KN2, KH2, hx0⟩ := hq
  have C2 := KX2.1
  have hx : x = -1 ∨ (OB s2 x ∧ WD (SD s2) x ≤ s2.I 10 + 1) := Or.imp (fun q => q.1) (fun q => ⟨q.1, q.2.1⟩) hx0
  have g8 := G2.1
  rw [aA, iA 0 (by decide) (by decide) (by decide) (by decide)] at n2 hx0
  have i22 : s2.I 22 = 0 := (R2.2.2 22 (by decide)).trans i22A
  have i23 := (R2.2.2 23 (by decide)).trans (iA 23 (by decide) (by decide) (by decide) (by decide))
  have l24 := WA.2.2.2.2.2.2.2.2.1
  have i0 := (R2.2.2 0 (by decide)).trans (iA 0 (by decide) (by decide) (by decide) (by decide))
  have i4 : s2.I 4 = 0 := (R2.2.2 4 (by decide)).trans i4A
  have i20 := (R2.2.2 20 (by decide)).trans (iA 20 (by decide) (by decide) (by decide) (by decide))
  have i24 := (R2.2.2 24 (by decide)).trans (iA 24 (by decide) (by decide) (by decide) (by decide))
  have a12 : s2.A 12 = s.A 12 := by rw [(R2.2.1 12 (by decide)).1, aA]
  have W2 : KWS c h2 s2 NM t cc := KWS_fr WA K2 B2 C2 X2 R2.1 (fun j hj => (R2.2.1 j (by omega)).2) (fun j hj => R2.2.2 j (by omega)) (by omega) (by rw [i20]; exact W.2.2.2.2.2.2.2.2.2.2.1) (fun q => ⟨KX2.2, KH2 q.2⟩) (fun e he => (G2.2 e (by omega)).1)
  show xx_go (xt_P z) (d + 91) 37 33 [some (.ref (c + 0)), none, none] [.int (iI x)] h2 _
  refine go_a (pc' := 34) (ls' := [some (.ref (c + 0)), some (.int (iI x)), none]) (st' := []) rfl rfl ?_
  refine go_a (pc' := 35) (ls' := [some (.ref (c + 0)), some (.int (iI x)), none]) (st' := [.ref (c + 0)]) rfl rfl ?_
  refine go_get (v := .ref (c + 1)) rfl (K2.1 0 (by decide)) rfl rfl ?_
  refine go_a (pc' := 39) (ls' := [some (.ref (c + 0)), some (.int (iI x)), none]) (st' := [.int (iI 0), .ref (c + 1)]) rfl rfl ?_
  refine go_v (m := 39) (as := [.ref (c + 1), .int (iI 0)]) (r := []) rfl rfl rfl (K2.1 1 (by decide)) rfl rfl (kr_cut_0 z (d + 90) c 0 h2 s2 K2 B2 (by decide) (by decide)) (fun v h3 hq => ?_)
  have c0 := B2.2.2.2.1 0 (by decide)
  obtain ⟨rfl, hq⟩ := hq
  have HQ : ∃ s3 : KS, KI c h3 s3 ∧ KB s3 ∧ kx c h2 s2 h3 s3 0 0 ∧ (s3.T = s2.T ∧ s3.N = s2.N ∧ s3.A = s2.A ∧ s3.C = s2.C ∧ s3.P = s2.P) ∧ (∀ j : Nat, j ≠ 0 → s3.I j = s2.I j) ∧ s3.I 0 = 0 := by
    rcases hq with ⟨-, -, K, B, X⟩ | ⟨nq, e⟩
    · exact ⟨s2.wI 0 0, K, B, X, ⟨rfl, rfl, rfl, rfl, rfl⟩, fun j hj => su_ne hj, rfl⟩
    · rw [e]
      exact ⟨s2, K2, B2, kx_rf, ⟨rfl, rfl, rfl, rfl, rfl⟩, fun _ _ => rfl, by omega⟩
  clear hq
  obtain ⟨s3, K3, B3, X3, ⟨f1, f2, f3, f4, f5⟩, f6, f7⟩ := HQ
  have i83 := f6 8 (by decide)
  have C3 : CI s3 := KSA_CI ⟨f2, by rw [f3], i83⟩ C2
  have W3 : KWS c h3 s3 NM t cc := KWS_fr W2 K3 B3 C3 X3 f1 (fun j _ => ⟨by rw [f4], by rw [f5]⟩) (fun j hj => f6 j (by omega)) (by rw [f6 24 (by decide), i83]; exact W2.2.2.2.2.2.2.2.2.1) (by rw [f6 20 (by decide)]; exact W2.2.2.2.2.2.2.2.2.2.2.1) (fun q => KQ_e f2 (by rw [f3]) (by rw [f3]) (by rw [f3]) i83 q) (fun e _ => by rw [f2])
  have i223 := (f6 22 (by decide)).trans i22
  have i233 := (f6 23 (by decide)).trans i23
  have hP3 := KWS_PS W3 (by omega)
  have KN3 := hP3.2.2.2.2.2.2.2.2
  rw [← f2] at hx0
  have eS : SD s3 = SD s2 := SD_N f2
  have hx3 : x = -1 ∨ OB s3 x := Or.elim hx Or.inl (fun q => Or.inr ⟨q.1.1, by rw [i83]; exact q.1.2⟩)
  have XX := kx_tr (kx_tr hX X2) X3
  have lb3 : c + 84 ≤ h3.length := Nat.le_trans X.1 XX.1
  have i43 := (f6 4 (by decide)).trans i4
  have i203 := (f6 20 (by decide)).trans i20
  have i243 := (f6 24 (by decide)).trans i24
  have a123 : s3.A 12 = s.A 12 := by rw [f3, a12]
  have FIN : ∀ (q : Int) (h4 : xx_H) (s4 : KS) (NM4 : BKM) (t4 : List sp_Th) (ww : Int), KWS c h4 s4 NM4 t4 (cc + 1) → ((t4, s4.I 23), s4.I 22) = sp_run t (s.I 23) (s.I 20) (sp_RD (s.A 0) (s.I 0)) → CFR s3 s4 → kx c h3 s3 h4 s4 (100 * ww + 20) (700 * ww + 300) → s4.I 24 ≤ s3.I 8 + ww → 0 ≤ ww → ww ≤ s2.I 10 + 1 → xx_go (xt_P z) (d + 91) 37 140 [some (.ref (c + 0)), some (.int (iI x)), some (.int (iI q))] [] h4 (fun v h1 => ∃ (b : Int) (s1 : KS) (t1 : List sp_Th), v = some (.int (iI b)) ∧ KIC c hp0 s0 (cc + 1) h1 s1 t1 ∧ s1.I 0 = 0 ∧ s1.I 20 = s.I 20 ∧ s1.A 12 = s.A 12 ∧ ((t1, s1.I 23), s1.I 22) = sp_run t (s.I 23) (s.I 20) (sp_RD (s.A 0) (s.I 0))) := by
    intro q h4 s4 NM4 t4 ww W4 er4 F4 X4 l24 w0 w1
    refine go_w ?_ (kk_run2 z hz d c x q h4 s4 NM4 t4 (cc + 1) W4 (by have := F4.1.2.1; omega))
    rintro v h9 ⟨ev, s9, W9, e89, e249, e09, l49, e209, a129, X9, e229, e239⟩
    have z0 : s9.I 0 = 0 := by rw [e09, F4.1.1, f7]
    have nz0 : NZ (s9.A 0) (s9.I 0).toNat = 0 := by rw [z0]; rfl
    refine ⟨q, s9, t4, ev, ⟨⟨NM4, W9⟩, e89, ⟨fun e e0 e1 => absurd e1 (by omega), by omega⟩, l49, w, α + (0 + 0 + 0 + (100 * ww + 20) + 0), β + (0 + 0 + 0 + (700 * ww + 300) + 0), ?_, KXN_tr X (kx_tr (kx_tr XX X4) X9), ?_, ?_, ?_⟩, z0, ?_, ?_, ?_⟩
    · rcases hw with ⟨w0, hz⟩ | w0
      · refine Or.inl ⟨w0, ?_⟩
        unfold W5
        rw [a129, F4.2.1, a123]
        exact hz
      · exact Or.inr w0
    · rw [nz0]
      omega
    · rw [nz0]
      omega
    · rw [nz0]
      omega
    · rw [e209, F4.1.2.2, i203]
    · rw [a129, F4.2.1, a123]
    · rw [e239, e229]
      exact er4
  have FI0 : ∀ q : Int, sp_run t (s.I 23) (s.I 20) (sp_RD (s.A 0) (s.I 0)) = ((t, s.I 23), 0) → xx_go (xt_P z) (d + 91) 37 140 [some (.ref (c + 0)), some (.int (iI x)), some (.int (iI q))] [] h3 (fun v h1 => ∃ (b : Int) (s1 : KS) (t1 : List sp_Th), v = some (.int (iI b)) ∧ KIC c hp0 s0 (cc + 1) h1 s1 t1 ∧ s1.I 0 = 0 ∧ s1.I 20 = s.I 20 ∧ s1.A 12 = s.A 12 ∧ ((t1, s1.I 23), s1.I 22) = sp_run t (s.I 23) (s.I 20) (sp_RD (s.A 0) (s.I 0))) := fun q eq0 => FIN q h3 s3 NM t 0 (KWS_k W3 (by omega)) (by rw [eq0, i223, i233]) ⟨⟨rfl, rfl, rfl⟩, rfl, rfl⟩ (kx_w kx_rf (by decide) (by decide)) (by have := W3.2.2.2.2.2.2.2.2.1; omega) (by decide) (by omega)
  show xx_go (xt_P z) (d + 91) 37 42 [some (.ref (c + 0)), some (.int (iI x)), none] [] h3 _
  refine go_a (pc' := 43) (ls' := [some (.ref (c + 0)), some (.int (iI x)), none]) (st' := [.int (iI 2)]) rfl rfl ?_
  refine go_a (pc' := 44) (ls' := [some (.ref (c + 0)), some (.int (iI x)), some (.int (iI 2))]) (st' := []) rfl rfl ?_
  refine go_a (pc' := 45) (ls' := [some (.ref (c + 0)), some (.int (iI x)), some (.int (iI 2))]) (st' := [.ref (c + 0)]) rfl rfl ?_
  refine go_a (pc' := 46) (ls' := [some (.ref (c + 0)), some (.int (iI x)), some (.int (iI 2))]) (st' := [.int (iI x), .ref (c + 0)]) rfl rfl ?_
  refine go_v (m := 45) (as := [.ref (c + 0), .int (iI x)]) (r := []) rfl rfl rfl (K3.1 0 (by decide)) rfl rfl (kk_kindOf z (d + 88) c x h3 s3 K3 B3 C3 hx3) (fun v h4 hq => ?_)
  obtain ⟨⟨y, rfl, hy⟩, e9⟩ := hq
  rw [e9]
  clear e9 h4
  have WX : x ≠ -1 → OB s3 x ∧ WD (SD s3) x ≤ s2.I 10 + 1 ∧ 0 ≤ WD (SD s3) x := fun n => by
    have o3 := hx3.resolve_left n
    have := WD_1 (I := UI s3) C3.1 o3.1 o3.2
    exact ⟨o3, by rw [eS]; exact (hx.resolve_left n).2, by omega⟩
  have RX : x ≠ -1 → sp_run t (s.I 23) (s.I 20) (sp_RD (s.A 0) (s.I 0)) = sp_cmd t (s.I 23) (s.I 20) (DK s3.N x) := fun n => by
    rw [(hx0.resolve_left (fun q => n q.1)).2.2]
    rfl
  rcases hy with ⟨rfl, x1⟩ | ⟨rfl, xn, n9, hn9, no9⟩ | ⟨xn, er, hk⟩
  · refine go_a (pc' := 100) (ls' := [some (.ref (c + 0)), some (.int (iI x)), some (.int (iI 2))]) (st' := []) rfl rfl ?_
    refine go_a (pc' := 101) (ls' := [some (.ref (c + 0)), some (.int (iI x)), some (.int (iI 2))]) (st' := [.int (iI 1)]) rfl rfl ?_
    refine go_a (pc' := 102) (ls' := [some (.ref (c + 0)), some (.int (iI x)), some (.int (iI 1))]) (st' := []) rfl rfl ?_
    refine go_a (pc' := 140) (ls' := [some (.ref (c + 0)), some (.int (iI x)), some (.int (iI 1))]) (st' := []) rfl rfl ?_
    refine FI0 1 ?_
    rcases hx0 with ⟨-, q⟩ | ⟨q, -⟩
    · rw [q]
      rfl
    · have := q.1
      omega
  · refine go_a (pc' := 140) (ls' := [some (.ref (c + 0)), some (.int (iI x)), some (.int (iI 2))]) (st' := []) rfl rfl ?_
    refine FI0 2 ?_
    obtain ⟨ox, -, -⟩ := WX xn
    rw [RX xn]
    exact sp_cmd_no (KO_no KN3 C3 B3 ox hn9 no9)
  · obtain ⟨ox, wx, wx0⟩ := WX xn
    have l3 : s3.I 8 + WD (SD s3) x ≤ 25000 := by omega
    rcases hk with ⟨rfl | rfl, hL⟩ | ⟨rfl, hL⟩ | ⟨rfl, hL⟩
    · refine go_a (pc' := 105) (ls' := [some (.ref (c + 0)), some (.int (iI x)), some (.int (iI 2))]) (st' := []) rfl rfl ?_
      refine go_a (pc' := 106) (ls' := [some (.ref (c + 0)), some (.int (iI x)), some (.int (iI 2))]) (st' := [.ref (c + 0)]) rfl rfl ?_
      refine go_a (pc' := 107) (ls' := [some (.ref (c + 0)), some (.int (iI x)), some (.int (iI 2))]) (st' := [.int (iI x), .ref (c + 0)]) rfl rfl ?_
      refine go_v (m := 201) (as := [.ref (c + 0), .int (iI x)]) (r := []) rfl rfl rfl (K3.1 0 (by decide)) rfl rfl (kk_define z d c x h3 s3 NM t cc W3 ox (by omega) l3 lb3 (by omega) hL (by omega) i223) (fun v h4 hq => ?_)
      obtain ⟨q, s4, NM4, t4, rfl, er4, W4, F4, X4, l4⟩ := hq
      have cm := CM_17 (t := t) (lit := s.I 23) (fu := s.I 20) KN3 C3 B3 ox hL er
      rw [i233] at er4
      show xx_go (xt_P z) (d + 91) 37 110 [some (.ref (c + 0)), some (.int (iI x)), some (.int (iI 2))] [.int (iI q)] h4 _
      refine go_a (pc' := 111) (ls' := [some (.ref (c + 0)), some (.int (iI x)), some (.int (iI q))]) (st' := []) rfl rfl ?_
      refine go_a (pc' := 140) (ls' := [some (.ref (c + 0)), some (.int (iI x)), some (.int (iI q))]) (st' := []) rfl rfl ?_
      exact FIN q h4 s4 NM4 t4 _ W4 (by rw [er4, RX xn, cm]) F4 X4 l4 wx0 wx
    · refine go_a (pc' := 114) (ls' := [some (.ref (c + 0)), some (.int (iI x)), some (.int (iI 2))]) (st' := []) rfl rfl ?_
      refine go_a (pc' := 115) (ls' := [some (.ref (c + 0)), some (.int (iI x)), some (.int (iI 2))]) (st' := [.ref (c + 0)]) rfl rfl ?_
      refine go_a (pc' := 116) (ls' := [some (.ref (c + 0)), some (.int (iI x)), some (.int (iI 2))]) (st' := [.int (iI x), .ref (c + 0)]) rfl rfl ?_
      refine go_v (m := 242) (as := [.ref (c + 0), .int (iI x)]) (r := []) rfl rfl rfl (K3.1 0 (by decide)) rfl rfl (kk_check z d c x h3 s3 NM t cc W3 ox (by omega) l3 lb3 (by omega) hL (by omega) i223) (fun v h4 hq => ?_)
      obtain ⟨q, s4, NM4, t4, rfl, er4, W4, F4, X4, l4⟩ := hq
      have cm := CM_18 (t := t) (lit := s.I 23) (fu := s.I 20) KN3 C3 B3 ox hL er
      rw [i233, i203] at er4
      show xx_go (xt_P z) (d + 91) 37 119 [some (.ref (c + 0)), some (.int (iI x)), some (.int (iI 2))] [.int (iI q)] h4 _
      refine go_a (pc' := 120) (ls' := [some (.ref (c + 0)), some (.int (iI x)), some (.int (iI q))]) (st' := []) rfl rfl ?_
      refine go_a (pc' := 140) (ls' := [some (.ref (c + 0)), some (.int (iI x)), some (.int (iI q))]) (st' := []) rfl rfl ?_
      exact FIN q h4 s4 NM4 t4 _ W4 (by rw [er4, RX xn, cm]) F4 X4 l4 wx0 wx
    · refine go_a (pc' := 123) (ls' := [some (.ref (c + 0)), some (.int (iI x)), some (.int (iI 2))]) (st' := []) rfl rfl ?_
      refine go_a (pc' := 124) (ls' := [some (.ref (c + 0)), some (.int (iI x)), some (.int (iI 2))]) (st' := [.ref (c + 0)]) rfl rfl ?_
      refine go_a (pc' := 125) (ls' := [some (.ref (c + 0)), some (.int (iI x)), some (.int (iI 2))]) (st' := [.int (iI x), .ref (c + 0)]) rfl rfl ?_
      refine go_v (m := 302) (as := [.ref (c + 0), .int (iI x)]) (r := []) rfl rfl rfl (K3.1 0 (by decide)) rfl rfl (kk_clause z d c x h3 s3 NM t cc W3 ox (by omega) l3 hL (by omega)) (fun v h4 hq => ?_)
      obtain ⟨q, s4, NM4, t4, rfl, er4, W4, F4, X4, l4⟩ := hq
      have cm := CM_19 (t := t) (lit := s.I 23) (fu := s.I 20) KN3 C3 B3 ox hL er
      rw [i233, i203] at er4
      show xx_go (xt_P z) (d + 91) 37 128 [some (.ref (c + 0)), some (.int (iI x)), some (.int (iI 2))] [.int (iI q)] h4 _
      refine go_a (pc' := 129) (ls' := [some (.ref (c + 0)), some (.int (iI x)), some (.int (iI q))]) (st' := []) rfl rfl ?_
      refine go_a (pc' := 140) (ls' := [some (.ref (c + 0)), some (.int (iI x)), some (.int (iI q))]) (st' := []) rfl rfl ?_
      exact FIN q h4 s4 NM4 t4 _ W4 (by rw [er4, RX xn, cm]) F4 X4 l4 wx0 wx
    · refine go_a (pc' := 132) (ls' := [some (.ref (c + 0)), some (.int (iI x)), some (.int (iI 2))]) (st' := []) rfl rfl ?_
      refine go_a (pc' := 133) (ls' := [some (.ref (c + 0)), some (.int (iI x)), some (.int (iI 2))]) (st' := [.ref (c + 0)]) rfl rfl ?_
      have n24 := W3.2.1.2.1 24
      refine go_v (m := 303) (as := [.ref (c + 0)]) (r := []) rfl rfl rfl (K3.1 0 (by decide)) rfl rfl (kk_undo z (d + 86) c h3 s3 K3 B3 (s3.I 24) cc NM t (s3.I 27) (s3.I 28) W3.2.2.2.1 W3.2.2.2.2.1 W3.2.2.2.2.2.1 rfl rfl W3.2.2.2.2.2.2.1 (by omega) rfl n24.2) (fun v h4 hq => ?_)
      obtain ⟨q, s4, nf, nt, rfl, K4, B4, X4, ⟨g1, g2, g3⟩, g4, g5, L4, S4, j26, j27, j28, m1, m2⟩ := hq
      have cm := CM_20 (t := t) (lit := s.I 23) (fu := s.I 20) KN3 C3 B3 ox hL er
      have er4 : ((t.drop 1, s4.I 23), s4.I 22) = sp_run t (s.I 23) (s.I 20) (sp_RD (s.A 0) (s.I 0)) := by rw [RX xn, cm, g3 22 (by decide), g3 23 (by decide), i223, i233]
      have q12 := W3.2.2.2.2.2.2.2.2.2.2.2
      have r := W3.2.2.2.2.2.2.2
      have j8 := g3 8 (by decide)
      have j14 := g3 14 (by decide)
      have j15 := g3 15 (by decide)
      have j20 := g3 20 (by decide)
      have W4 : KWS c h4 s4 (NM.1, NM.2.1, sp_ft (sp_FB (t.drop 1)), sp_FB (t.drop 1), sp_TB (t.drop 1)) (t.drop 1) (cc + 1) := ⟨K4, B4, KSA_CI ⟨g2, by rw [g1], j8⟩ C3, OC_kx W3.2.2.2.1 X4, by rw [j27, j28]; exact BKS_kx S4 (kx_rf (c := c) (hp := h4) (s := s4)) (Int.le_refl _) (fun _ _ _ => rfl) (fun _ _ _ => rfl) (fun _ _ _ => rfl) (fun _ _ _ => rfl) (fun _ _ _ => rfl) (fun _ _ _ => rfl), j26, L4, ⟨by omega, by omega⟩, by omega, ⟨by omega, by omega⟩, by omega, KQ_e g2 (by rw [g1]) (by rw [g1]) (by rw [g1]) j8 q12.1, fun i hi => by rw [g2]; exact q12.2.1 i hi, rfl, rfl, rfl⟩
      show xx_go (xt_P z) (d + 91) 37 136 [some (.ref (c + 0)), some (.int (iI x)), some (.int (iI 2))] [.int (iI q)] h4 _
      refine go_a (pc' := 137) (ls' := [some (.ref (c + 0)), some (.int (iI x)), some (.int (iI q))]) (st' := []) rfl rfl ?_
      refine go_a (pc' := 140) (ls' := [some (.ref (c + 0)), some (.int (iI x)), some (.int (iI q))]) (st' := []) rfl rfl ?_
      exact FIN q h4 s4 _ (t.drop 1) 0 W4 er4 ⟨⟨g3 0 (by decide), g3 4 (by decide), j20⟩, by rw [g1], by rw [g1]⟩ (kx_w X4 (by decide) (by decide)) (by omega) (by decide) (by omega)
