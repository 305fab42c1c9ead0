set_option maxRecDepth 4000 in
theorem mm_defun (z : Value) (d : Nat) (ar : Int → Int) (bk : List sp_Th) (o : Int) (h R : xx_H) (I : Nat → Int) (A : Nat → Int → Int) (N : Int → Int) (hc : 12 ≤ h.length) (hB : BI ar I A N) (hs : STP I) (k0 : 0 ≤ o) (k1 : o < I 7) (h2 : A 1 o ≠ 2) (w : WD A o ≤ 1000) (hE2 : I 7 + 2622 ≤ 140000) (u15 : 0 ≤ I 15 ∧ I 15 ≤ 2000) (u50 : 0 ≤ I 50 ∧ I 50 ≤ 30) (t41 : I 41 = I 32 + I 38) (e44 : I 44 = -1) (h25 : ∀ e : Int, 0 ≤ e → e < I 38 → A 25 e < I 7) (u9 : I 49 = 0) (hX : BTX ar (sp_ft (sp_FB bk)) (sp_FB bk) (sp_TB bk) I A N) : xx_cl (xt_P z) (d + 10) 97 [.ref h.length, .int (iI o)] (mh h R I A N) (fun v h1 => ∃ (b : Int) (I1 : Nat → Int) (A1 : Nat → Int → Int), v = some (.int (iI b)) ∧ h1 = mh h R I1 A1 N ∧ (0 ≤ b ∧ b ≤ 8) ∧ ((CFL ar I A N I1 A1 N ∧ ((isL A 4 o → sp_def bk (DM A N o) = bk) ∧ I1 48 = I 48 ∧ I1 50 = I 50)) ∨ (CTK 1 o I A N I1 A1 N ∧ ((isL A 4 o ∧ ∃ (v : Nat) (ps : List Nat) (F : ob_T), sp_def bk (DM A N o) = (v, some ps, F) :: bk ∧ DM A1 N (A1 20 (I1 32 - 1)) = .var v ∧ ((ps.length : Int) = A1 21 (I1 32 - 1) ∧ ∀ k : Nat, k < ps.length → ∃ w : Nat, ps[k]? = some w ∧ DM A1 N (A1 22 (6 * (I1 32 - 1) + (k : Int))) = .var w ∧ w ≠ 31361 ∧ w ≠ 20) ∧ F = DM A1 N (A1 23 (I1 32 - 1)) ∧ (A1 24 (I1 32 - 1) ≠ 0 ↔ (sp_cc v F).1 ≠ []) ∧ 1 ≤ (sp_ts (sp_ft (sp_FB ((v, some ps, F) :: bk))) F).1) ∧ I1 48 = I 48 ∧ I1 50 = I 50 ∧ TRX I1 A1 N)))) := by
  have hP := BI_P hB
  have n0 := BI_n0 hB
  have i4 := hB.2.2.2.1
  have n2 : A 1 2 < 0 := by rw [hB.1.2.1.2 2 (by decide) (by decide)]; decide
  have p9 := hP.1
  have dd := hB.2.2.1.1
  refine cl_go rfl ?_
  show xx_go (xt_P z) (d + 9) 97 0 [some (.ref h.length), some (.int (iI o)), none, none, none, none, none, none] [] (mh h R I A N) _
  refine go_a (pc' := 1) (ls' := [some (.ref h.length), some (.int (iI o)), none, none, none, none, none, none]) (st' := [.ref h.length]) rfl rfl ?_
  refine go_a (pc' := 2) (ls' := [some (.ref h.length), some (.int (iI o)), none, none, none, none, none, none]) (st' := [.int (iI o), .ref h.length]) rfl rfl ?_
  refine go_v (m := 98) (as := [.ref h.length, .int (iI o)]) (r := []) rfl rfl rfl mh_o rfl rfl (mm_len2 z (d + 7) o h R I A N hc hP n0 k0 k1) (fun v h1 hq => ?_)
  obtain ⟨⟨n, rfl, hn⟩, rfl⟩ := hq
  have rn : -1 ≤ n ∧ n < 200000 := by
    rcases hn with ⟨hn, -⟩ | ⟨qq, hn, hl⟩
    · omega
    · have := isL_len hP o.toNat qq o (Nat.le_refl _) k0 k1 hl
      omega
  have bad : (isL A 4 o → sp_def bk (DM A N o) = bk) → xx_go (xt_P z) (d + 9) 97 37 [some (.ref h.length), some (.int (iI o)), none, none, none, none, none, none] [] (mh h R I A N) (fun v h1 => ∃ (b : Int) (I1 : Nat → Int) (A1 : Nat → Int → Int), v = some (.int (iI b)) ∧ h1 = mh h R I1 A1 N ∧ (0 ≤ b ∧ b ≤ 8) ∧ ((CFL ar I A N I1 A1 N ∧ ((isL A 4 o → sp_def bk (DM A N o) = bk) ∧ I1 48 = I 48 ∧ I1 50 = I 50)) ∨ (CTK 1 o I A N I1 A1 N ∧ ((isL A 4 o ∧ ∃ (v : Nat) (ps : List Nat) (F : ob_T), sp_def bk (DM A N o) = (v, some ps, F) :: bk ∧ DM A1 N (A1 20 (I1 32 - 1)) = .var v ∧ ((ps.length : Int) = A1 21 (I1 32 - 1) ∧ ∀ k : Nat, k < ps.length → ∃ w : Nat, ps[k]? = some w ∧ DM A1 N (A1 22 (6 * (I1 32 - 1) + (k : Int))) = .var w ∧ w ≠ 31361 ∧ w ≠ 20) ∧ F = DM A1 N (A1 23 (I1 32 - 1)) ∧ (A1 24 (I1 32 - 1) ≠ 0 ↔ (sp_cc v F).1 ≠ []) ∧ 1 ≤ (sp_ts (sp_ft (sp_FB ((v, some ps, F) :: bk))) F).1) ∧ I1 48 = I 48 ∧ I1 50 = I 50 ∧ TRX I1 A1 N)))) := by
    intro kn
    refine go_a (pc' := 38) (ls' := [some (.ref h.length), some (.int (iI o)), none, none, none, none, none, none]) (st' := [.int (iI 2)]) rfl rfl ?_
    exact go_r rfl rfl rfl rfl rfl rfl ⟨2, I, A, rfl, rfl, by decide, Or.inl ⟨CFL_BI (BX_rf hB.1.1) hB hs u15 u50, kn, rfl, rfl⟩⟩
  show xx_go (xt_P z) (d + 9) 97 5 [some (.ref h.length), some (.int (iI o)), none, none, none, none, none, none] [.int (iI n)] (mh h R I A N) _
  refine go_a (pc' := 6) (ls' := [some (.ref h.length), some (.int (iI o)), none, none, none, none, none, none]) (st' := [.int (iI 4), .int (iI n)]) rfl rfl ?_
  refine mi_ne (t := 37) rfl rfl (by omega) (by omega) (by omega) (by omega) (fun e => bad (fun l4 => absurd e (by rcases hn with ⟨-, hl⟩ | ⟨qq, hn, hl⟩; exact absurd l4 (hl 4); have := isL_uq n0 qq 4 o hl l4; omega))) (fun e => ?_)
  have hL : isL A 4 o := by
    rcases hn with ⟨hn, -⟩ | ⟨qq, hn, hl⟩
    · omega
    · rw [show qq = 4 by omega] at hl
      exact hl
  have v1 := VD_rt hP k0 k1 hL (by decide : 0 < 4)
  have v1e : VD A (o) = WD A (A 1 (o)) + VD A (rt A 1 o) := v1.1
  have v1w : 1 ≤ WD A (A 1 (o)) := v1.2.2.1
  have v1b : 0 ≤ A 1 (o) ∧ A 1 (o) < I 7 := v1.2.1
  have v2 := VD_rt hP k0 k1 hL (by decide : 1 < 4)
  have v2e : VD A (rt A 1 o) = WD A (A 1 (rt A 1 o)) + VD A (rt A 2 o) := v2.1
  have v2w : 1 ≤ WD A (A 1 (rt A 1 o)) := v2.2.2.1
  have v2b : 0 ≤ A 1 (rt A 1 o) ∧ A 1 (rt A 1 o) < I 7 := v2.2.1
  have v3 := VD_rt hP k0 k1 hL (by decide : 2 < 4)
  have v3e : VD A (rt A 2 o) = WD A (A 1 (rt A 2 o)) + VD A (rt A 3 o) := v3.1
  have v3w : 1 ≤ WD A (A 1 (rt A 2 o)) := v3.2.2.1
  have v3b : 0 ≤ A 1 (rt A 2 o) ∧ A 1 (rt A 2 o) < I 7 := v3.2.1
  have v4 := VD_rt hP k0 k1 hL (by decide : 3 < 4)
  have v4e : VD A (rt A 3 o) = WD A (A 1 (rt A 3 o)) + VD A (rt A 4 o) := v4.1
  have v4w : 1 ≤ WD A (A 1 (rt A 3 o)) := v4.2.2.1
  have v4b : 0 ≤ A 1 (rt A 3 o) ∧ A 1 (rt A 3 o) < I 7 := v4.2.1
  have sp1 : sp_p 1 (DM A N o) = DM A N (A 1 (rt A 1 o)) := L_p hB hX k0 k1 hL (by decide : 1 < 4)
  have sp2 : sp_p 2 (DM A N o) = DM A N (A 1 (rt A 2 o)) := L_p hB hX k0 k1 hL (by decide : 2 < 4)
  have sp3 : sp_p 3 (DM A N o) = DM A N (A 1 (rt A 3 o)) := L_p hB hX k0 k1 hL (by decide : 3 < 4)
  have vz : 0 ≤ VD A (rt A 4 o) := v4.2.2.2
  have wo := WD_pair hP k0 k1 hL.1
  rw [if_neg (fun c => h2 c.1)] at wo
  have r0 : 0 ≤ o ∧ o < I 7 := by
    have q := isL_rt hP 4 0 o k0 k1 hL (by decide)
    have q2 : 0 ≤ o ∧ o ≤ o := ⟨q.1, q.2.1⟩
    omega
  have pt0 : PT A (o) = 1 + PT A (A 1 (o)) + PT A (rt A 1 o) := PT_pair hP r0.1 r0.2 v1b.1
  have pb0 := PT_b hP n0 n2 v1b.1 v1b.2
  have r1 : 0 ≤ rt A 1 o ∧ rt A 1 o < I 7 := by
    have q := isL_rt hP 4 1 o k0 k1 hL (by decide)
    have q2 : 0 ≤ rt A 1 o ∧ rt A 1 o ≤ o := ⟨q.1, q.2.1⟩
    omega
  have pt1 : PT A (rt A 1 o) = 1 + PT A (A 1 (rt A 1 o)) + PT A (rt A 2 o) := PT_pair hP r1.1 r1.2 v2b.1
  have pb1 := PT_b hP n0 n2 v2b.1 v2b.2
  have r2 : 0 ≤ rt A 2 o ∧ rt A 2 o < I 7 := by
    have q := isL_rt hP 4 2 o k0 k1 hL (by decide)
    have q2 : 0 ≤ rt A 2 o ∧ rt A 2 o ≤ o := ⟨q.1, q.2.1⟩
    omega
  have pt2 : PT A (rt A 2 o) = 1 + PT A (A 1 (rt A 2 o)) + PT A (rt A 3 o) := PT_pair hP r2.1 r2.2 v3b.1
  have pb2 := PT_b hP n0 n2 v3b.1 v3b.2
  have r3 : 0 ≤ rt A 3 o ∧ rt A 3 o < I 7 := by
    have q := isL_rt hP 4 3 o k0 k1 hL (by decide)
    have q2 : 0 ≤ rt A 3 o ∧ rt A 3 o ≤ o := ⟨q.1, q.2.1⟩
    omega
  have pt3 : PT A (rt A 3 o) = 1 + PT A (A 1 (rt A 3 o)) + PT A (rt A 4 o) := PT_pair hP r3.1 r3.2 v4b.1
  have pb3 := PT_b hP n0 n2 v4b.1 v4b.2
  have pt4 : PT A (rt A 4 o) = 0 := by rw [isL_end 4 o hL]; exact PT_atom n0
  refine go_a (pc' := 10) (ls' := [some (.ref h.length), some (.int (iI o)), none, none, none, none, none, none]) (st' := [.ref h.length]) rfl rfl ?_
  refine go_a (pc' := 11) (ls' := [some (.ref h.length), some (.int (iI o)), none, none, none, none, none, none]) (st' := [.ref h.length, .ref h.length]) rfl rfl ?_
  refine go_a (pc' := 12) (ls' := [some (.ref h.length), some (.int (iI o)), none, none, none, none, none, none]) (st' := [.int (iI o), .ref h.length, .ref h.length]) rfl rfl ?_
  refine go_a (pc' := 13) (ls' := [some (.ref h.length), some (.int (iI o)), none, none, none, none, none, none]) (st' := [.int (iI 1), .int (iI o), .ref h.length, .ref h.length]) rfl rfl ?_
  refine go_v (m := 99) (as := [.ref h.length, .int (iI o), .int (iI 1)]) (r := [.ref h.length]) rfl rfl rfl mh_o rfl rfl (mm_nth z (d + 8) 1 4 o h R I A N hc hP (by decide) k0 k1 hL (by decide)) (fun v h1 hq => ?_)
  obtain ⟨rfl, rfl⟩ := hq
  show xx_go (xt_P z) (d + 9) 97 16 [some (.ref h.length), some (.int (iI o)), none, none, none, none, none, none] [.int (iI (A 1 (rt A 1 o))), .ref h.length] (mh h R I A N) _
  refine go_v (m := 100) (as := [.ref h.length, .int (iI (A 1 (rt A 1 o)))]) (r := []) rfl rfl rfl mh_o rfl rfl (mb_isNewName z (d + 7) (A 1 (rt A 1 o)) h R I A N hc hP v2b.1 v2b.2) (fun v h1 hq => ?_)
  obtain ⟨⟨b1, rfl, hb1⟩, rfl⟩ := hq
  show xx_go (xt_P z) (d + 9) 97 19 [some (.ref h.length), some (.int (iI o)), none, none, none, none, none, none] [.int (iI b1)] (mh h R I A N) _
  refine mi_eq0 (t := 37) rfl rfl (by omega) (by omega) (fun e1 => bad (fun _ => ?_)) (fun e1 => ?_)
  · by_cases a2 : A 1 (A 1 (rt A 1 o)) = -2
    · obtain ⟨v, ev⟩ := ST_v (STX hB hX) v2b.1 v2b.2 a2
      have nmn : ¬ sp_mn v := fun q => by
        have := (mn_iff hB hX v2b.1 v2b.2 ev).mp q
        omega
      exact def_no (by rw [sp1]; exact ev) (fun _ _ q => nmn q.1)
    · exact def_nv (fun v => by rw [sp1]; exact nv_iff hB hX v2b.1 v2b.2 a2 v)
  have nn : 16 < A 1 (rt A 1 o) ∧ A 1 (A 1 (rt A 1 o)) = -2 := by omega
  obtain ⟨fv, ev⟩ := ST_v (STX hB hX) v2b.1 v2b.2 nn.2
  have mn9 := (mn_iff hB hX v2b.1 v2b.2 ev).mpr nn.1
  have ev9 : sp_p 1 (DM A N o) = .var fv := by rw [sp1]; exact ev
  refine go_a (pc' := 23) (ls' := [some (.ref h.length), some (.int (iI o)), none, none, none, none, none, none]) (st' := [.ref h.length]) rfl rfl ?_
  refine go_a (pc' := 24) (ls' := [some (.ref h.length), some (.int (iI o)), none, none, none, none, none, none]) (st' := [.ref h.length, .ref h.length]) rfl rfl ?_
  refine go_a (pc' := 25) (ls' := [some (.ref h.length), some (.int (iI o)), none, none, none, none, none, none]) (st' := [.int (iI o), .ref h.length, .ref h.length]) rfl rfl ?_
  refine go_a (pc' := 26) (ls' := [some (.ref h.length), some (.int (iI o)), none, none, none, none, none, none]) (st' := [.int (iI 2), .int (iI o), .ref h.length, .ref h.length]) rfl rfl ?_
  refine go_v (m := 99) (as := [.ref h.length, .int (iI o), .int (iI 2)]) (r := [.ref h.length]) rfl rfl rfl mh_o rfl rfl (mm_nth z (d + 8) 2 4 o h R I A N hc hP (by decide) k0 k1 hL (by decide)) (fun v h1 hq => ?_)
  obtain ⟨rfl, rfl⟩ := hq
  show xx_go (xt_P z) (d + 9) 97 29 [some (.ref h.length), some (.int (iI o)), none, none, none, none, none, none] [.int (iI (A 1 (rt A 2 o))), .ref h.length] (mh h R I A N) _
  refine go_a (pc' := 31) (ls' := [some (.ref h.length), some (.int (iI o)), none, none, none, none, none, none]) (st' := [.int (iI 6), .int (iI (A 1 (rt A 2 o))), .ref h.length]) rfl rfl ?_
  refine go_v (m := 103) (as := [.ref h.length, .int (iI (A 1 (rt A 2 o))), .int (iI 6)]) (r := []) rfl rfl rfl mh_o rfl rfl (mm_areVariables z (d + 6) (A 1 (rt A 2 o)) 6 h R I A N hc hP n0 v3b.1 v3b.2 (by decide) (by decide)) (fun v h1 hq => ?_)
  obtain ⟨hv, rfl⟩ := hq
  rcases hv with ⟨rfl, nvs⟩ | ⟨rfl, m, hM, m6, hv, hd⟩
  · show xx_go (xt_P z) (d + 9) 97 34 [some (.ref h.length), some (.int (iI o)), none, none, none, none, none, none] [.int (iI 0)] (mh h R I A N) _
    refine mi_ne0 (t := 39) rfl rfl (by omega) (by omega) (fun q => absurd rfl q) (fun _ => bad (fun _ => def_no ev9 (fun B _ q => ?_)))
    have q2 := q.2.1
    rw [sp2] at q2
    have L2 := pl_L hB hX v3b.1 v3b.2 q2.1
    have r := (vs_iff hB hX v3b.1 v3b.2 L2).mp q2
    exact nvs ⟨_, L2, by omega, fun j hj => r.2.1 j (by omega), r.2.2⟩
  · clear bad
    have vs9 : sp_vs 6 (sp_p 2 (DM A N o)) := by
      rw [sp2]
      exact (vs_iff hB hX v3b.1 v3b.2 hM).mpr ⟨by omega, fun j hj => hv j (by omega), hd⟩
    have psE : (sp_as (sp_p 2 (DM A N o))).map sp_hc = (List.range m).map (fun j => sp_hc (DM A N (A 1 (rt A j (A 1 (rt A 2 o)))))) := by
      rw [sp2, L_as hB hX v3b.1 v3b.2 hM, List.map_map]
      rfl
    obtain ⟨ps, hps⟩ : ∃ ps : List Nat, ps = (sp_as (sp_p 2 (DM A N o))).map sp_hc := ⟨_, rfl⟩
    have pl9 : ps.length = m := by rw [hps, psE, List.length_map, List.length_range]
    rw [← hps] at psE
    show xx_go (xt_P z) (d + 9) 97 34 [some (.ref h.length), some (.int (iI o)), none, none, none, none, none, none] [.int (iI 1)] (mh h R I A N) _
    refine mi_ne0 (t := 39) rfl rfl (by omega) (by omega) (fun _ => ?_) (fun q => absurd q (by decide))
    obtain ⟨n, hnn⟩ : ∃ n, n = A 1 (rt A 1 o) := ⟨_, rfl⟩
    obtain ⟨l, hll⟩ : ∃ l, l = A 1 (rt A 2 o) := ⟨_, rfl⟩
    have m0 : (0 : Int) ≤ (m : Int) := by omega
    refine go_a (pc' := 40) (ls' := [some (.ref h.length), some (.int (iI o)), none, none, none, none, none, none]) (st' := [.ref h.length]) rfl rfl ?_
    refine go_a (pc' := 41) (ls' := [some (.ref h.length), some (.int (iI o)), none, none, none, none, none, none]) (st' := [.int (iI o), .ref h.length]) rfl rfl ?_
    refine go_a (pc' := 42) (ls' := [some (.ref h.length), some (.int (iI o)), none, none, none, none, none, none]) (st' := [.int (iI 1), .int (iI o), .ref h.length]) rfl rfl ?_
    refine go_v (m := 99) (as := [.ref h.length, .int (iI o), .int (iI 1)]) (r := []) rfl rfl rfl mh_o rfl rfl (mm_nth z (d + 8) 1 4 o h R I A N hc hP (by decide) k0 k1 hL (by decide)) (fun v h1 hq => ?_)
    obtain ⟨rfl, rfl⟩ := hq
    rw [← hnn]
    show xx_go (xt_P z) (d + 9) 97 45 [some (.ref h.length), some (.int (iI o)), none, none, none, none, none, none] [.int (iI n)] (mh h R I A N) _
    refine go_a (pc' := 46) (ls' := [some (.ref h.length), some (.int (iI o)), some (.int (iI n)), none, none, none, none, none]) (st' := []) rfl rfl ?_
    refine go_a (pc' := 47) (ls' := [some (.ref h.length), some (.int (iI o)), some (.int (iI n)), none, none, none, none, none]) (st' := [.ref h.length]) rfl rfl ?_
    refine go_a (pc' := 48) (ls' := [some (.ref h.length), some (.int (iI o)), some (.int (iI n)), none, none, none, none, none]) (st' := [.int (iI o), .ref h.length]) rfl rfl ?_
    refine go_a (pc' := 49) (ls' := [some (.ref h.length), some (.int (iI o)), some (.int (iI n)), none, none, none, none, none]) (st' := [.int (iI 2), .int (iI o), .ref h.length]) rfl rfl ?_
    refine go_v (m := 99) (as := [.ref h.length, .int (iI o), .int (iI 2)]) (r := []) rfl rfl rfl mh_o rfl rfl (mm_nth z (d + 8) 2 4 o h R I A N hc hP (by decide) k0 k1 hL (by decide)) (fun v h1 hq => ?_)
    obtain ⟨rfl, rfl⟩ := hq
    rw [← hll]
    show xx_go (xt_P z) (d + 9) 97 52 [some (.ref h.length), some (.int (iI o)), some (.int (iI n)), none, none, none, none, none] [.int (iI l)] (mh h R I A N) _
    rw [← hll] at hM hv hd psE
    rw [← hnn] at nn v2b ev
    rw [← hll] at v3b
    refine go_a (pc' := 53) (ls' := [some (.ref h.length), some (.int (iI o)), some (.int (iI n)), some (.int (iI l)), none, none, none, none]) (st' := []) rfl rfl ?_
    refine go_a (pc' := 54) (ls' := [some (.ref h.length), some (.int (iI o)), some (.int (iI n)), some (.int (iI l)), none, none, none, none]) (st' := [.ref h.length]) rfl rfl ?_
    refine go_a (pc' := 55) (ls' := [some (.ref h.length), some (.int (iI o)), some (.int (iI n)), some (.int (iI l)), none, none, none, none]) (st' := [.int (iI n), .ref h.length]) rfl rfl ?_
    refine go_put (j := 44) rfl mh_o rfl rfl (show 12 ≤ _ from hc) (show 44 < 86 by decide) rfl rfl ?_
    rw [mh_p44]
    refine go_a (pc' := 59) (ls' := [some (.ref h.length), some (.int (iI o)), some (.int (iI n)), some (.int (iI l)), none, none, none, none]) (st' := [.ref h.length]) rfl rfl ?_
    refine go_a (pc' := 60) (ls' := [some (.ref h.length), some (.int (iI o)), some (.int (iI n)), some (.int (iI l)), none, none, none, none]) (st' := [.ref h.length, .ref h.length]) rfl rfl ?_
    refine go_a (pc' := 61) (ls' := [some (.ref h.length), some (.int (iI o)), some (.int (iI n)), some (.int (iI l)), none, none, none, none]) (st' := [.int (iI l), .ref h.length, .ref h.length]) rfl rfl ?_
    refine go_v (m := 98) (as := [.ref h.length, .int (iI l)]) (r := [.ref h.length]) rfl rfl rfl mh_o rfl rfl (mm_lenL z (d + 7) m l h R (su I 44 n) A N hc hP n0 v3b.1 v3b.2 hM) (fun v h1 hq => ?_)
    obtain ⟨rfl, rfl⟩ := hq
    show xx_go (xt_P z) (d + 9) 97 64 [some (.ref h.length), some (.int (iI o)), some (.int (iI n)), some (.int (iI l)), none, none, none, none] [.int (iI (((m : Nat) : Int))), .ref h.length] (mh h R (su I 44 n) A N) _
    refine go_put (j := 45) rfl mh_o rfl rfl (show 12 ≤ _ from hc) (show 45 < 86 by decide) rfl rfl ?_
    rw [mh_p45]
    refine go_a (pc' := 68) (ls' := [some (.ref h.length), some (.int (iI o)), some (.int (iI n)), some (.int (iI l)), none, none, none, none]) (st' := [.ref h.length]) rfl rfl ?_
    refine go_a (pc' := 69) (ls' := [some (.ref h.length), some (.int (iI o)), some (.int (iI n)), some (.int (iI l)), none, none, none, none]) (st' := [.ref h.length, .ref h.length]) rfl rfl ?_
    refine go_a (pc' := 70) (ls' := [some (.ref h.length), some (.int (iI o)), some (.int (iI n)), some (.int (iI l)), none, none, none, none]) (st' := [.int (iI o), .ref h.length, .ref h.length]) rfl rfl ?_
    refine go_a (pc' := 71) (ls' := [some (.ref h.length), some (.int (iI o)), some (.int (iI n)), some (.int (iI l)), none, none, none, none]) (st' := [.int (iI 3), .int (iI o), .ref h.length, .ref h.length]) rfl rfl ?_
    refine go_v (m := 99) (as := [.ref h.length, .int (iI o), .int (iI 3)]) (r := [.ref h.length]) rfl rfl rfl mh_o rfl rfl (mm_nth z (d + 8) 3 4 o h R (su (su I 44 n) 45 (m : Int)) A N hc hP (by decide) k0 k1 hL (by decide)) (fun v h1 hq => ?_)
    obtain ⟨rfl, rfl⟩ := hq
    show xx_go (xt_P z) (d + 9) 97 74 [some (.ref h.length), some (.int (iI o)), some (.int (iI n)), some (.int (iI l)), none, none, none, none] [.int (iI (A 1 (rt A 3 o))), .ref h.length] (mh h R (su (su I 44 n) 45 (((m : Nat) : Int))) A N) _
    have B0 : BX (fun j => j = 44 ∨ j = 45) NO I A N (su (su I 44 n) 45 (m : Int)) A N := BX_of hB.1.1 (fun j q => by rw [su_ne (fun e => q (Or.inr e)), su_ne (fun e => q (Or.inl e))]) (fun a _ => rfl) rfl rfl rfl rfl rfl rfl rfl rfl rfl rfl
    refine go_v (m := 105) (as := [.ref h.length, .int (iI (A 1 (rt A 3 o)))]) (r := []) rfl rfl rfl mh_o rfl rfl (mm_termOf z (d + 1) (up ar n m) (A 1 (rt A 3 o)) h R (su (su I 44 n) 45 (m : Int)) A N hc hB.1.1 hB.1.2.1 (show SZI (up ar n m) I A from hB.1.2.2) (AR_new hB.2.1.1 e44 nn.1 (by omega) m0 m6) (ARF_new hB.2.1.2 e44 nn.1 v2b.2 nn.2) v4b.1 v4b.2 (show 0 ≤ I 54 by omega) (show I 54 + WD A (A 1 (rt A 3 o)) ≤ 1199 by omega) (show 0 ≤ I 56 by omega) (show I 56 + WD A (A 1 (rt A 3 o)) ≤ 2399 by omega) (show I 7 + 2 * WD A (A 1 (rt A 3 o)) ≤ 140000 by omega)) (fun v h1 hq => ?_)
    obtain ⟨t, I1, A1, rfl, rfl, X, Z, ⟨j4, j6⟩, c7, ht⟩ := hq
    show xx_go (xt_P z) (d + 9) 97 77 [some (.ref h.length), some (.int (iI o)), some (.int (iI n)), some (.int (iI l)), none, none, none, none] [.int (iI t)] (mh h R I1 A1 N) _
    have j4 : I1 54 = I 54 := j4
    have j6 : I1 56 = I 56 := j6
    have c7 : I1 7 ≤ I 7 + (2 * WD A (A 1 (rt A 3 o)) - 2 - PT A (A 1 (rt A 3 o))) := c7
    have x7 : I 7 ≤ I1 7 := X.2.1
    have P1 := MST_PW X.1
    have p91 := P1.1
    have tr : -1 ≤ t ∧ t < I1 7 := by
      rcases ht with h | h
      · omega
      · omega
    have B1 : BX (fun j => j = 44) NO I1 A1 N (su I1 44 (-1)) A1 N := BX_of X.1 (fun j q => su_ne q) (fun a _ => rfl) rfl rfl rfl rfl rfl rfl rfl rfl rfl rfl
    have X1 : BX FDE GDE I A N (su I1 44 (-1)) A1 N := BX_tr (BX_tr (BX_w2 (fun j q => by unfold FDE; omega) (fun a q => absurd q id) B0) (BX_w2 (fun j q => Or.inl q) (fun a q => Or.inl q) X)) (BX_w2 (fun j q => by unfold FDE; omega) (fun a q => absurd q id) B1)
    have e47 : I1 47 = I 47 := (X.2.2.2.1 47 (by decide) (by unfold FB; omega)).trans (B0.2.2.2.1 47 (by decide) (by omega))
    have e48 : I1 48 = I 48 := (X.2.2.2.1 48 (by decide) (by unfold FB; omega)).trans (B0.2.2.2.1 48 (by decide) (by omega))
    have e15 : I1 15 = I 15 := (X.2.2.2.1 15 (by decide) (by unfold FB; omega)).trans (B0.2.2.2.1 15 (by decide) (by omega))
    have e50 : I1 50 = I 50 := (X.2.2.2.1 50 (by decide) (by unfold FB; omega)).trans (B0.2.2.2.1 50 (by decide) (by omega))
    have e49 : I1 49 = I 49 := (X.2.2.2.1 49 (by decide) (by unfold FB; omega)).trans (B0.2.2.2.1 49 (by decide) (by omega))
    have e32 : I1 32 = I 32 := (X.2.2.2.1 32 (by decide) (by unfold FB; omega)).trans (B0.2.2.2.1 32 (by decide) (by omega))
    have e38 : I1 38 = I 38 := (X.2.2.2.1 38 (by decide) (by unfold FB; omega)).trans (B0.2.2.2.1 38 (by decide) (by omega))
    have e41 : I1 41 = I 41 := (X.2.2.2.1 41 (by decide) (by unfold FB; omega)).trans (B0.2.2.2.1 41 (by decide) (by omega))
    have e45 : I1 45 = (m : Int) := X.2.2.2.1 45 (by decide) (by unfold FB; omega)
    have S1 : STP (su I1 44 (-1)) := by
      show 0 ≤ I1 48 ∧ I1 48 ≤ I1 47 ∧ I1 47 ≤ 1000
      rw [e47, e48]
      exact hs
    have g15 : 0 ≤ I1 15 ∧ I1 15 ≤ 2000 := by omega
    have g50 : 0 ≤ I1 50 ∧ I1 50 ≤ 30 := by omega
    have g49 : 0 ≤ I1 49 ∧ I1 49 ≤ 4 := by rw [e49]; exact hB.2.2.2.2
    have g45 : 0 ≤ I1 45 ∧ I1 45 ≤ 6 := by omega
    have g5 : I1 54 = 0 ∧ I1 56 = 0 := by omega
    have T1 : TRX (su I1 44 (-1)) A1 N := TRX_BX hB.1.1 hB.1.2.1 hX.1 X1 (by unfold FDE FB; omega) (by unfold GDE GT; omega) (by unfold GDE GT; omega)
    have dd1 : ∀ k : Int, 0 ≤ k → k < I 7 → DM A1 N k = DM A N k := fun k k0 k1 => DM_BX hB.1.1 hX.1 X1 (by unfold FDE FB; omega) (by unfold GDE GT; omega) (by unfold GDE GT; omega) k0 k1
    have K1 : ART (up ar n m) (sp_fu (sp_ft (sp_FB bk)) fv m) (su I1 44 (-1)) A1 N := ART_up X1.1 T1 (ART_BX hB hX.1 hX.2.1 X1 (by unfold FDE FB; omega) (by unfold GDE GT; omega) (by unfold GDE GT; omega)) v2b.1 (show n < I1 7 by omega) (by rw [dd1 n v2b.1 v2b.2]; exact ev) m0 (by omega)
    have N1 : NM (su I1 44 (-1)) A1 := NM_BX2 hB.1.2.1 X1
    have cg : (∀ p ∈ sp_FB bk, p.1 ≠ fv) → ∀ y : ob_T, sp_tm (sp_ft (sp_FB bk ++ [(fv, (sp_as (sp_p 2 (DM A N o))).map sp_hc, .num 0)])) y = sp_tm (sp_fu (sp_ft (sp_FB bk)) fv m) y := fun q y => (tm_cg (fun w => by rw [← pl9, ← hps]; exact fu_ar (mn_bt mn9) q (by omega) w) y).symm
    have C1 : CFL ar I A N (su I1 44 (-1)) A1 N := ⟨BX_w2 FDE_D GDE_D X1, Z, g5, S1, g15, g50, g49, g45⟩
    refine go_a (pc' := 79) (ls' := [some (.ref h.length), some (.int (iI o)), some (.int (iI n)), some (.int (iI l)), some (.int (iI t)), none, none, none]) (st' := []) rfl rfl ?_
    refine go_a (pc' := 80) (ls' := [some (.ref h.length), some (.int (iI o)), some (.int (iI n)), some (.int (iI l)), some (.int (iI t)), none, none, none]) (st' := [.ref h.length]) rfl rfl ?_
    refine go_a (pc' := 81) (ls' := [some (.ref h.length), some (.int (iI o)), some (.int (iI n)), some (.int (iI l)), some (.int (iI t)), none, none, none]) (st' := [.int (iI ((-1))), .ref h.length]) rfl rfl ?_
    refine go_put (j := 44) rfl mh_o rfl rfl (show 12 ≤ _ from hc) (show 44 < 86 by decide) rfl rfl ?_
    rw [mh_p44]
    refine go_a (pc' := 86) (ls' := [some (.ref h.length), some (.int (iI o)), some (.int (iI n)), some (.int (iI l)), some (.int (iI t)), none, none, none]) (st' := [.int (iI t)]) rfl rfl ?_
    refine go_a (pc' := 87) (ls' := [some (.ref h.length), some (.int (iI o)), some (.int (iI n)), some (.int (iI l)), some (.int (iI t)), none, none, none]) (st' := [.int (iI ((-1))), .int (iI t)]) rfl rfl ?_
    have bad2 : ∀ (I2 : Nat → Int) (A2 : Nat → Int → Int), CFL ar I A N I2 A2 N → ((isL A 4 o → sp_def bk (DM A N o) = bk) ∧ I2 48 = I 48 ∧ I2 50 = I 50) → xx_go (xt_P z) (d + 9) 97 100 [some (.ref h.length), some (.int (iI o)), some (.int (iI n)), some (.int (iI l)), some (.int (iI t)), none, none, none] [] (mh h R I2 A2 N) (fun v h1 => ∃ (b : Int) (I1 : Nat → Int) (A1 : Nat → Int → Int), v = some (.int (iI b)) ∧ h1 = mh h R I1 A1 N ∧ (0 ≤ b ∧ b ≤ 8) ∧ ((CFL ar I A N I1 A1 N ∧ ((isL A 4 o → sp_def bk (DM A N o) = bk) ∧ I1 48 = I 48 ∧ I1 50 = I 50)) ∨ (CTK 1 o I A N I1 A1 N ∧ ((isL A 4 o ∧ ∃ (v : Nat) (ps : List Nat) (F : ob_T), sp_def bk (DM A N o) = (v, some ps, F) :: bk ∧ DM A1 N (A1 20 (I1 32 - 1)) = .var v ∧ ((ps.length : Int) = A1 21 (I1 32 - 1) ∧ ∀ k : Nat, k < ps.length → ∃ w : Nat, ps[k]? = some w ∧ DM A1 N (A1 22 (6 * (I1 32 - 1) + (k : Int))) = .var w ∧ w ≠ 31361 ∧ w ≠ 20) ∧ F = DM A1 N (A1 23 (I1 32 - 1)) ∧ (A1 24 (I1 32 - 1) ≠ 0 ↔ (sp_cc v F).1 ≠ []) ∧ 1 ≤ (sp_ts (sp_ft (sp_FB ((v, some ps, F) :: bk))) F).1) ∧ I1 48 = I 48 ∧ I1 50 = I 50 ∧ TRX I1 A1 N)))) := by
      intro I2 A2 C2 kn
      refine go_a (pc' := 101) (ls' := [some (.ref h.length), some (.int (iI o)), some (.int (iI n)), some (.int (iI l)), some (.int (iI t)), none, none, none]) (st' := [.int (iI 2)]) rfl rfl ?_
      exact go_r rfl rfl rfl rfl rfl rfl ⟨2, I2, A2, rfl, rfl, by decide, Or.inl ⟨C2, kn⟩⟩
    refine mi_eq (t := 100) rfl rfl (by omega) (by omega) (by omega) (by omega) (fun e2 => bad2 _ _ C1 ⟨fun _ => def_no ev9 (fun B q9 c => ?_), e48, e50⟩) (fun e2 => ?_)
    · rw [cg c.2.2.2.2.1] at q9
      have tn : sp_tm (sp_fu (sp_ft (sp_FB bk)) fv m) (DM A N (A 1 (rt A 3 o))) = none := by
        rcases ht with h | h
        · exact no_tm hB.1.1 hB.1.2.1 hX.1 (ART_up hB.1.1 hX.1 hX.2.1 v2b.1 v2b.2 ev m0 (by omega)) v4b.1 v4b.2 h.2
        · omega
      rw [sp3, tn] at q9
      cases q9
    have tn : sp_tm (sp_fu (sp_ft (sp_FB bk)) fv m) (sp_p 3 (DM A N o)) = some (DM A1 N t) := by
      rw [sp3]
      rcases ht with h | h
      · exact absurd h.1 e2
      · rw [← dd1 _ v4b.1 v4b.2]
        have x79 := X.2.1
        exact NFT_tm X1.1 N1 T1 K1 v4b.1 (show A 1 (rt A 3 o) < I1 7 by omega) h.1.1 h.1.2 h.2.2.2.2.2 (by rw [TS_BX hP X1 v4b.1 v4b.2]; omega) (by rw [TS_BX hP X1 v4b.1 v4b.2]; omega)
    obtain ⟨tF, etF⟩ : ∃ q : ob_T, DM A1 N t = q := ⟨_, rfl⟩
    rw [etF] at tn
    have ht : (0 ≤ t ∧ t < I1 7) ∧ 1 ≤ TZ A1 (up ar n m) t ∧ TZ A1 (up ar n m) t ≤ 120 := by
      rcases ht with h | h
      · exact absurd h.1 e2
      · exact ⟨h.1, h.2.1, h.2.2.1⟩
    have nn1 : A1 1 0 < 0 := by rw [(X.2.2.1 0 (by decide) (show 0 < I 7 by omega)).1]; exact n0
    have M1 := isL_extB hP X1 m l v3b.1 v3b.2 hM
    have rt1 : ∀ j : Nat, j < m → A1 1 (rt A1 j l) = A 1 (rt A j l) ∧ (0 ≤ A 1 (rt A j l) ∧ A 1 (rt A j l) < I 7) := fun j hj => by
      have r := isL_rt hP m j l v3b.1 v3b.2 hM hj
      have p := hP.2 (rt A j l) r.1 (by omega)
      rw [rt_extB hP X1 m j l v3b.1 v3b.2 hM (by omega), (X1.2.2.1 _ r.1 (by omega)).1]
      exact ⟨rfl, r.2.2, by omega⟩
    refine go_a (pc' := 91) (ls' := [some (.ref h.length), some (.int (iI o)), some (.int (iI n)), some (.int (iI l)), some (.int (iI t)), none, none, none]) (st' := [.ref h.length]) rfl rfl ?_
    refine go_a (pc' := 93) (ls' := [some (.ref h.length), some (.int (iI o)), some (.int (iI n)), some (.int (iI l)), some (.int (iI t)), none, none, none]) (st' := [.int (iI t), .ref h.length]) rfl rfl ?_
    refine go_a (pc' := 94) (ls' := [some (.ref h.length), some (.int (iI o)), some (.int (iI n)), some (.int (iI l)), some (.int (iI t)), none, none, none]) (st' := [.int (iI l), .int (iI t), .ref h.length]) rfl rfl ?_
    refine go_v (m := 117) (as := [.ref h.length, .int (iI t), .int (iI l)]) (r := []) rfl rfl rfl mh_o rfl rfl (mm_hasOnlyX z (d + 4) m (up ar n m) t l h R (su I1 44 (-1)) A1 N hc P1 nn1 ht.1.1 ht.1.2 ht.2.1 (by omega) v3b.1 (show l < I1 7 by omega) M1) (fun v h1 hq => ?_)
    obtain ⟨⟨b, hb, rfl⟩, I2, A2, rfl, V⟩ := hq
    rw [ho_ov (ps := ps) X1.1 N1 T1 ht.1.1 (show t < I1 7 from ht.1.2) v3b.1 (show l < I1 7 by omega) M1 (fun j hj => by rw [(rt1 j hj).1, (X1.2.2.1 _ (rt1 j hj).2.1 (rt1 j hj).2.2).1]; exact (hv j (by omega)).1) (by rw [psE]; exact List.map_congr_left (fun j hj => by have hj := List.mem_range.mp hj; rw [(rt1 j hj).1, dd1 _ (rt1 j hj).2.1 (rt1 j hj).2.2])), etF] at hb
    show xx_go (xt_P z) (d + 9) 97 97 [some (.ref h.length), some (.int (iI o)), some (.int (iI n)), some (.int (iI l)), some (.int (iI t)), none, none, none] [.int (iI b)] (mh h R I2 A2 N) _
    have V2 : BX FDE GDE (su I1 44 (-1)) A1 N I2 A2 N := BX_of X1.1 (fun j q => V.1 j (fun e => q (by unfold FDE; omega)) (fun e => q (by unfold FDE; omega))) (fun a q => V.2 a (fun e => q (Or.inr (Or.inl e))) (fun e => q (Or.inr (Or.inr e)))) (V.1 7 (by decide) (by decide)) (V.1 10 (by decide) (by decide)) (V.2 1 (by decide) (by decide)) (V.2 2 (by decide) (by decide)) (V.2 3 (by decide) (by decide)) (V.2 4 (by decide) (by decide)) (V.2 5 (by decide) (by decide)) (V.2 7 (by decide) (by decide)) (V.2 8 (by decide) (by decide)) (V.2 9 (by decide) (by decide))
    have X2 := BX_tr X1 V2
    have w7 : I2 7 = I1 7 := V.1 7 (by decide) (by decide)
    have w32 : I2 32 = I1 32 := V.1 32 (by decide) (by decide)
    have w38 : I2 38 = I1 38 := V.1 38 (by decide) (by decide)
    have w41 : I2 41 = I1 41 := V.1 41 (by decide) (by decide)
    have w45 : I2 45 = I1 45 := V.1 45 (by decide) (by decide)
    have w44 : I2 44 = -1 := V.1 44 (by decide) (by decide)
    have w49 : I2 49 = I1 49 := V.1 49 (by decide) (by decide)
    have w50 : I2 50 = I1 50 := V.1 50 (by decide) (by decide)
    have w15 : I2 15 = I1 15 := V.1 15 (by decide) (by decide)
    have w47 : I2 47 = I1 47 := V.1 47 (by decide) (by decide)
    have w48 : I2 48 = I1 48 := V.1 48 (by decide) (by decide)
    have w54 : I2 54 = I1 54 := V.1 54 (by decide) (by decide)
    have w56 : I2 56 = I1 56 := V.1 56 (by decide) (by decide)
    have Z2 : SZI (up ar n m) I2 A2 := SZI_124 (I := su I1 44 (-1)) (I1 := I2) (A := A1) (A1 := A2) (show SZI (up ar n m) (su I1 44 (-1)) A1 from Z) (V.2 1 (by decide) (by decide)) (V.2 2 (by decide) (by decide)) (V.2 4 (by decide) (by decide)) w7
    have S2 : STP I2 := by unfold STP; rw [w47, w48]; exact S1
    have C2 : CFL ar I A N I2 A2 N := ⟨BX_w2 FDE_D GDE_D X2, Z2, by omega, S2, by omega, by omega, by omega, by omega⟩
    refine mi_ne0 (t := 102) rfl rfl (by omega) (by omega) (fun e3 => ?_) (fun e3 => bad2 _ _ C2 ⟨fun _ => def_no ev9 (fun B q9 c => ?_), by omega, by omega⟩)
    rotate_left
    · rw [cg c.2.2.2.2.1, tn] at q9
      injection q9 with q9
      have c3 := c.2.2.1
      rw [← hps, ← q9] at c3
      rcases hb with hb | hb
      · exact hb.2 c3
      · omega
    clear bad2
    have ov9 : (sp_ov ps tF).1 := by
      rcases hb with hb | hb
      · omega
      · exact hb.2
    have tz2 : TZ A2 (up ar n m) t = TZ A1 (up ar n m) t := congrFun (TZ_124 (A := A1) (A1 := A2) (ar := up ar n m) (V.2 1 (by decide) (by decide)) (V.2 2 (by decide) (by decide)) (V.2 4 (by decide) (by decide))).1 t
    have ga2 : A2 20 = A 20 := X2.2.2.2.2 20 (by decide) (by decide) (by decide) (by decide) (by decide) (by decide) (by unfold GDE GT; omega)
    have aa := hB.2.1.1
    have T2 : TRX I2 A2 N := TRX_BX hB.1.1 hB.1.2.1 hX.1 X2 (by unfold FDE FB; omega) (by unfold GDE GT; omega) (by unfold GDE GT; omega)
    have N2 : NM I2 A2 := NM_BX2 hB.1.2.1 X2
    have d21 : DM A2 N = DM A1 N := DM_12 (A := A1) (A1 := A2) (V.2 1 (by decide) (by decide)) (V.2 2 (by decide) (by decide)) (V.2 8 (by decide) (by decide)) (V.2 9 (by decide) (by decide))
    have ev2 : DM A2 N n = .var fv := by rw [d21, dd1 n v2b.1 v2b.2]; exact ev
    have K2 : ART (up ar n m) (sp_fu (sp_ft (sp_FB bk)) fv m) I2 A2 N := ART_up X2.1 T2 (ART_BX hB hX.1 hX.2.1 X2 (by unfold FDE FB; omega) (by unfold GDE GT; omega) (by unfold GDE GT; omega)) v2b.1 (by omega) ev2 m0 (by omega)
    have hs2 : 1 ≤ TS A2 (up ar n m) t := by
      have q := congrArg (fun q => q.1) (TS_1 X2.1 N2 T2 K2 ht.1.1 (show t < I2 7 by omega))
      have q : (sp_ts (sp_fu (sp_ft (sp_FB bk)) fv m) (DM A2 N t)).1 = TS A2 (up ar n m) t := q
      rw [← q, d21, etF]
      exact tm_ts tn
    refine go_w (fun v h1 hq => ?_) (mm_defun_rest z d m (up ar n m) (sp_fu (sp_ft (sp_FB bk)) fv m) fv o n l t h R I2 A2 N hc X2.1 (NM_BX2 hB.1.2.1 X2) Z2 (by rw [up_n (by omega)]; exact aa.1.1) (by rw [up_n (by omega)]; exact aa.1.2.2 15 (by decide) (by decide)) (by omega) (by omega) (by omega) nn.1 (by omega) k0 v3b.1 (by omega) (isL_extB hP X2 m l v3b.1 v3b.2 hM) (by omega) ht.1.1 (by omega) (by omega) (by omega) (by omega) (by omega) (by omega) (fun e a b => by rw [ga2]; have q := (aa.2.2.2 e a (by omega)).1; omega) T2 K2 hs2 (by omega) ev2)
    obtain ⟨b9, I3, A3, rfl, rfl, b9r, hr⟩ := hq
    refine ⟨b9, I3, A3, rfl, rfl, b9r, ?_⟩
    have dt2 : DM A2 N t = tF := by rw [d21]; exact etF
    rw [dt2, ga2] at hr
    have fbl := hX.2.2.2.1.1
    rcases hr with ⟨hr, nl⟩ | ⟨hr, lw9, cc9⟩
    · refine Or.inl ?_
      have ce : ∀ j : Nat, j ≠ 7 → ¬ FE2 j → I3 j = I2 j := hr.1.2.2.2.1
      have q47 : I3 47 = I2 47 := ce 47 (by decide) (by unfold FE2; omega)
      have q48 : I3 48 = I2 48 := ce 48 (by decide) (by unfold FE2; omega)
      have q15 : I3 15 = I2 15 := ce 15 (by decide) (by unfold FE2; omega)
      have q50 : I3 50 = I2 50 := ce 50 (by decide) (by unfold FE2; omega)
      have q45 : I3 45 = I2 45 := ce 45 (by decide) (by unfold FE2; omega)
      have q54 : I3 54 = I2 54 := ce 54 (by decide) (by unfold FE2; omega)
      have q56 : I3 56 = I2 56 := ce 56 (by decide) (by unfold FE2; omega)
      refine ⟨⟨BX_tr (BX_w2 FDE_D GDE_D X2) (BX_w2 FE2_D GE2_D hr.1), hr.2.1, by omega, by unfold STP; rw [q47, q48]; exact S2, by omega, by omega, hr.2.2, by omega⟩, fun _ => def_no ev9 (fun B q9 c => ?_), by omega, by omega⟩
      rw [cg c.2.2.2.2.1, tn] at q9
      injection q9 with q9
      have c4 := c.2.2.2.1
      rw [← q9] at c4
      have c6 := c.2.2.2.2.2
      exact nl ⟨c4, fun e a b => (fbn_iff hB hX v2b.1 v2b.2 ev).mp c.2.2.2.2.1 e a (by omega), by omega⟩
    · have dn : (∀ e : Int, 0 ≤ e → e < I 32 → A 20 e ≠ n) ∧ I 32 < 40 := by
        obtain ⟨_, _, _, _, _, _, _, _, _, hn9, d9, _⟩ := hr
        rw [ga2] at hn9
        exact ⟨fun e a b => hn9 e a (by omega), by omega⟩
      have fn9 := (fbn_iff hB hX v2b.1 v2b.2 ev).mpr dn.1
      have sd := def_ok ev9 (by rw [cg fn9]; exact tn) ⟨mn9, vs9, by rw [← hps]; exact ov9, lw9, fn9, by omega⟩
      rw [← hps] at sd
      obtain ⟨TF, f20, f21, f22, f23, f48, f50⟩ := DDN_tr X2.1 N2 T2 v2b.1 (by omega) ht.1.1 (by omega) v3b.1 (by omega) (isL_extB hP X2 m l v3b.1 v3b.2 hM) hr
      refine Or.inr ⟨DDN_CTK hB e44 h25 X2 w44 (by omega) S2 (by omega) (by omega) (by omega) (by omega) (by omega) nn.1 v2b.2 nn.2 v3b.1 v3b.2 hM (by omega) (fun j q => (hv j q).1) ht.1.1 (by omega) (by omega) (by omega) hr, ⟨hL, fv, ps, tF, sd, by rw [f20]; exact ev2, ⟨by rw [f21]; omega, fun k hk => ?_⟩, by rw [f23]; exact dt2.symm, cc9, ?_⟩, by omega, by omega, TF⟩
      · have hk2 : k < m := by omega
        have rv := hv k (by omega)
        have rb := (rt1 k hk2).2
        obtain ⟨w, ew⟩ := ST_v (STX hB hX) rb.1 rb.2 rv.1
        have iv := (iv_iff hB hX rb.1 rb.2).mpr rv
        rw [ew] at iv
        obtain ⟨w2, e2, e3⟩ := sp_iv_e iv
        injection e2 with e2
        have r2 : A2 1 (rt A2 k l) = A 1 (rt A k l) := by
          have r := isL_rt hP m k l v3b.1 v3b.2 hM hk2
          rw [rt_extB hP X2 m k l v3b.1 v3b.2 hM (by omega), (X2.2.2.1 _ r.1 (by omega)).1]
        refine ⟨w, ?_, ?_, by rw [e2]; exact e3.1, by rw [e2]; exact e3.2⟩
        · rw [psE, List.getElem?_map, List.getElem?_range hk2]
          show some (sp_hc (DM A N (A 1 (rt A k l)))) = some w
          rw [ew]
          rfl
        · rw [f22 k hk2, r2, d21, dd1 _ rb.1 rb.2]
          exact ew
      · show 1 ≤ (sp_ts (sp_ft (sp_FB bk ++ [(fv, ps, tF)])) tF).1
        rw [ft_cg (B1 := .num 0)]
        have q := ts_cg (fun w => fu_ar (B := .num 0) (mn_bt mn9) fn9 (show ps.length ≤ 6 by omega) w) tF
        rw [pl9] at q
        rw [← q]
        exact tm_ts tn

