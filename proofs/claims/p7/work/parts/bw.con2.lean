theorem RU_EX {ar : Int → Int} {c : Int} {I I1 : Nat → Int} {A A1 : Nat → Int → Int} {N N1 : Int → Int} (hB : BI ar I A N) (x : EX I A N I1 A1 N1) (h10 : I1 10 = I 10) (hZ : SZI ar I1 A1) (h7 : I1 7 ≤ I 7 + c) : RU ar c I A N I1 A1 N1 ∧ ∀ m s v : Int, DR ar m s v I A → DR ar m s v I1 A1 := by
  have b : BX NO (fun a => a = 8 ∨ a = 9) I A N I1 A1 N1 := ⟨x.1, x.2.1, fun k p q => ⟨(x.2.2.1 k p q).1, (x.2.2.1 k p q).2.1, (x.2.2.1 k p q).2.2.1, fun e => by rw [(x.2.2.1 k p q).2.2.2]; exact e⟩, fun j p _ => by
    by_cases e : j = 10
    · rw [e]; exact h10
    · exact x.2.2.2.1 j p e, fun a p1 p2 p3 p4 p5 p7 q => x.2.2.2.2.1 a p1 p2 p3 p4 p5 p7 (fun e => q (Or.inl e)) (fun e => q (Or.inr e))⟩
  have f : ∀ j : Nat, j ≠ 7 → I1 j = I j := fun j p => b.2.2.2.1 j p (fun z => z)
  have r := RU_of (c := c) hB b (fun j q => absurd q (fun z => z)) (fun a q => by unfold GC; omega) hZ (f 54 (by decide)) (f 56 (by decide)) (by rw [f 49 (by decide)]; exact hB.2.2.2.2) h7 (fun _ => f 49 (by decide))
  exact ⟨r, fun m s v D => DR_BX (BI_P hB) D b (fun z => z) (by decide) (RU_z r)⟩
set_option maxRecDepth 4000 in
theorem mm_con_value (z : Value) (d : Nat) (ar : Int → Int) (k o c E dd : Int) (h R : xx_H) (I : Nat → Int) (A : Nat → Int → Int) (N : Int → Int) (hc : 12 ≤ h.length) (hB : BI ar I A N) (k0 : 0 ≤ k) (k1 : k < 40) (ek : A 47 k = o) (o0 : 0 ≤ o) (o1 : o < I 7) (hF : FORM ar I A N o) (ec : A 49 k = c) (c0 : 0 ≤ c) (w : WD A o ≤ 1000) (hE : E + 128 * WD A o ≤ 140000) (d0 : 0 ≤ dd) (d1 : dd ≤ 39) (c9 : Int) (hcf : CFX ar I A o c9) (ef : A 1 o = 31) (hU : I 7 ≤ E + c9) : xx_cl (xt_P z) (d + 11) 154 [.ref h.length, .int (iI k)] (mh h R I A N) (fun v h1 => ∃ (b : Int) (I1 : Nat → Int) (A1 : Nat → Int → Int) (N1 : Int → Int), v = some (.int (iI b)) ∧ h1 = mh h R I1 A1 N1 ∧ RU ar 140000 I A N I1 A1 N1 ∧ (b = 0 ∨ (b = 1 ∧ ∃ S V : Int, DR ar 1190 S V I1 A1 ∧ (I1 49 = 0 → I1 67 ≤ 30 → SG (TZ A1 ar) (A1 38) (I1 67).toNat ≤ 400 → I1 7 + KDR dd I1 A1 ar ≤ E + 128 * WD A o)))) := by
  have hP := BI_P hB
  have n0 := BI_n0 hB
  have p9 := hP.1
  have nm := hB.1.2.1.1
  have n2 : A 1 2 < 0 := by rw [hB.1.2.1.2 2 (by decide) (by decide)]; decide
  obtain ⟨n, hL, n1, hF⟩ := hF
  have en : n = 2 ∧ TOK A ar (A 1 (rt A 1 o)) := by
    rcases hF with q | q | q | q | q | q | q | q | q | q | q | q
    · omega
    · exact ⟨q.2.1, q.2.2.1⟩
    · omega
    · omega
    · omega
    · omega
    · omega
    · omega
    · omega
    · omega
    · omega
    · omega
  obtain ⟨tf, tf0, tf1, tf2, tf3⟩ : ∃ t : Int, (0 ≤ t ∧ t < I 7) ∧ 1 ≤ TZ A ar t ∧ NFT A (A 1 (rt A 1 o)) t ∧ TLD A N ar t := by
    rcases hF with q | q | q | q | q | q | q | q | q | q | q | q
    · omega
    · exact q.2.2.2
    · omega
    · omega
    · omega
    · omega
    · omega
    · omega
    · omega
    · omega
    · omega
    · omega
  obtain ⟨rfl, tk1⟩ := en
  have wo := WD_pair hP o0 o1 (by omega)
  rw [if_neg (fun q => absurd q.1 (by omega))] at wo
  have v0 := VD_rt hP o0 o1 hL (by decide : 0 < 2)
  have v0e : VD A o = WD A (A 1 o) + VD A (rt A 1 o) := v0.1
  have wr : WD A (A 1 o) = 1 := WD_atom (by rw [hB.1.2.1.2 _ (by omega) (by omega)]; decide)
  have v1 := VD_rt hP o0 o1 hL (by decide : 1 < 2)
  have v1e : VD A (rt A 1 o) = WD A (A 1 (rt A 1 o)) + VD A (rt A 2 o) := v1.1
  have vz : VD A (rt A 2 o) = 0 := by rw [isL_end 2 o hL, VD_atom n0, if_pos rfl]
  have cf := hcf.2 (by omega)
  have cf2 := cf.1 ef
  refine cl_go rfl ?_
  show xx_go (xt_P z) (d + 10) 154 0 [some (.ref h.length), some (.int (iI k)), none, none, none, none, none, none] [] (mh h R I A N) _
  refine go_a (pc' := 1) (ls' := [some (.ref h.length), some (.int (iI k)), none, none, none, none, none, none]) (st' := [.ref h.length]) rfl rfl ?_
  refine go_get rfl mh_o rfl rfl ?_
  refine go_a (pc' := 5) (ls' := [some (.ref h.length), some (.int (iI k)), none, none, none, none, none, none]) (st' := [.int (iI k), .ref (h.length + 47)]) rfl rfl ?_
  refine mi_ild rfl mh_a47 (by omega) (by omega) (by decide) ?_
  rw [ek]
  refine go_a (pc' := 7) (ls' := [some (.ref h.length), some (.int (iI k)), some (.int (iI o)), none, none, none, none, none]) (st' := []) rfl rfl ?_
  refine go_a (pc' := 8) (ls' := [some (.ref h.length), some (.int (iI k)), some (.int (iI o)), none, none, none, none, none]) (st' := [.ref h.length]) rfl rfl ?_
  refine go_get rfl mh_o rfl rfl ?_
  refine go_a (pc' := 12) (ls' := [some (.ref h.length), some (.int (iI k)), some (.int (iI o)), none, none, none, none, none]) (st' := [.int (iI k), .ref (h.length + 49)]) rfl rfl ?_
  refine mi_ild rfl mh_a49 (by omega) (by omega) (by decide) ?_
  rw [ec]
  refine go_a (pc' := 14) (ls' := [some (.ref h.length), some (.int (iI k)), some (.int (iI o)), some (.int (iI c)), none, none, none, none]) (st' := []) rfl rfl ?_
  refine go_a (pc' := 15) (ls' := [some (.ref h.length), some (.int (iI k)), some (.int (iI o)), some (.int (iI c)), none, none, none, none]) (st' := [.ref h.length]) rfl rfl ?_
  refine go_a (pc' := 16) (ls' := [some (.ref h.length), some (.int (iI k)), some (.int (iI o)), some (.int (iI c)), none, none, none, none]) (st' := [.int (iI 0), .ref h.length]) rfl rfl ?_
  refine go_put (j := 67) rfl mh_o rfl rfl (show 12 ≤ _ from hc) (show 67 < 86 by decide) rfl rfl ?_
  rw [mh_p67]
  obtain ⟨J, hJ⟩ : ∃ J : Nat → Int, J = su I 67 0 := ⟨_, rfl⟩
  rw [← hJ]
  have bJ : BX (fun j => j = 67) NO I A N J A N := by
    subst hJ
    exact BX_of hB.1.1 (fun j q => su_ne q) (fun a _ => rfl) rfl rfl rfl rfl rfl rfl rfl rfl rfl rfl
  have J7 : J 7 = I 7 := by subst hJ; rfl
  have J49 : J 49 = I 49 := by subst hJ; rfl
  have R0 : RU ar 0 I A N J A N := RU_of hB bJ (fun j q => by subst q; unfold FC; omega) (fun a q => absurd q (fun z => z)) (SZI_124 (A := A) (A1 := A) hB.1.2.2 rfl rfl rfl J7) (by subst hJ; rfl) (by subst hJ; rfl) (by rw [J49]; exact hB.2.2.2.2) (by omega) (fun _ => J49)
  have D0 : DR ar 0 0 0 J A := by subst hJ; exact DR_00
  have PJ := RU_P R0
  refine go_a (pc' := 20) (ls' := [some (.ref h.length), some (.int (iI k)), some (.int (iI o)), some (.int (iI c)), none, none, none, none]) (st' := [.ref h.length]) rfl rfl ?_
  refine go_a (pc' := 21) (ls' := [some (.ref h.length), some (.int (iI k)), some (.int (iI o)), some (.int (iI c)), none, none, none, none]) (st' := [.int (iI o), .ref h.length]) rfl rfl ?_
  refine go_v (m := 98) (as := [.ref h.length, .int (iI o)]) (r := []) rfl rfl rfl mh_o rfl rfl (mm_lenL z (d + 8) 2 o h R J A N hc PJ n0 o0 (by omega) hL) (fun v h1 hq => ?_)
  obtain ⟨rfl, rfl⟩ := hq
  show xx_go (xt_P z) (d + 10) 154 24 [some (.ref h.length), some (.int (iI k)), some (.int (iI o)), some (.int (iI c)), none, none, none, none] [.int (iI (((2 : Nat) : Int)))] (mh h R J A N) _
  refine go_a (pc' := 25) (ls' := [some (.ref h.length), some (.int (iI k)), some (.int (iI o)), some (.int (iI c)), none, none, none, none]) (st' := [.int (iI 1), .int (iI (((2 : Nat) : Int)))]) rfl rfl ?_
  refine mi_le (t := 107) rfl rfl (by omega) (by omega) (by omega) (by omega) (fun q => by omega) (fun _ => ?_)
  refine go_a (pc' := 29) (ls' := [some (.ref h.length), some (.int (iI k)), some (.int (iI o)), some (.int (iI c)), none, none, none, none]) (st' := [.ref h.length]) rfl rfl ?_
  refine go_get rfl mh_o rfl rfl ?_
  refine go_a (pc' := 33) (ls' := [some (.ref h.length), some (.int (iI k)), some (.int (iI o)), some (.int (iI c)), none, none, none, none]) (st' := [.int (iI o), .ref (h.length + 1)]) rfl rfl ?_
  refine mi_ild rfl mh_a1 (by omega) (by omega) (by decide) ?_
  refine go_a (pc' := 36) (ls' := [some (.ref h.length), some (.int (iI k)), some (.int (iI o)), some (.int (iI c)), none, none, none, none]) (st' := [.int (iI 37), .int (iI (A 1 o))]) rfl rfl ?_
  refine mi_eq (t := 107) rfl rfl (by omega) (by omega) (by omega) (by omega) (fun q => by omega) (fun _ => ?_)
  refine go_a (pc' := 40) (ls' := [some (.ref h.length), some (.int (iI k)), some (.int (iI o)), some (.int (iI c)), none, none, none, none]) (st' := [.ref h.length]) rfl rfl ?_
  refine go_get rfl mh_o rfl rfl ?_
  refine go_a (pc' := 44) (ls' := [some (.ref h.length), some (.int (iI k)), some (.int (iI o)), some (.int (iI c)), none, none, none, none]) (st' := [.int (iI o), .ref (h.length + 1)]) rfl rfl ?_
  refine mi_ild rfl mh_a1 (by omega) (by omega) (by decide) ?_
  refine go_a (pc' := 47) (ls' := [some (.ref h.length), some (.int (iI k)), some (.int (iI o)), some (.int (iI c)), none, none, none, none]) (st' := [.int (iI 38), .int (iI (A 1 o))]) rfl rfl ?_
  refine mi_eq (t := 107) rfl rfl (by omega) (by omega) (by omega) (by omega) (fun q => by omega) (fun _ => ?_)
  refine go_a (pc' := 51) (ls' := [some (.ref h.length), some (.int (iI k)), some (.int (iI o)), some (.int (iI c)), none, none, none, none]) (st' := [.ref h.length]) rfl rfl ?_
  refine go_get rfl mh_o rfl rfl ?_
  refine go_a (pc' := 55) (ls' := [some (.ref h.length), some (.int (iI k)), some (.int (iI o)), some (.int (iI c)), none, none, none, none]) (st' := [.int (iI o), .ref (h.length + 1)]) rfl rfl ?_
  refine mi_ild rfl mh_a1 (by omega) (by omega) (by decide) ?_
  refine go_a (pc' := 58) (ls' := [some (.ref h.length), some (.int (iI k)), some (.int (iI o)), some (.int (iI c)), none, none, none, none]) (st' := [.int (iI 39), .int (iI (A 1 o))]) rfl rfl ?_
  refine mi_eq (t := 107) rfl rfl (by omega) (by omega) (by omega) (by omega) (fun q => by omega) (fun _ => ?_)
  refine go_a (pc' := 62) (ls' := [some (.ref h.length), some (.int (iI k)), some (.int (iI o)), some (.int (iI c)), none, none, none, none]) (st' := [.ref h.length]) rfl rfl ?_
  refine go_get rfl mh_o rfl rfl ?_
  refine go_a (pc' := 66) (ls' := [some (.ref h.length), some (.int (iI k)), some (.int (iI o)), some (.int (iI c)), none, none, none, none]) (st' := [.int (iI o), .ref (h.length + 1)]) rfl rfl ?_
  refine mi_ild rfl mh_a1 (by omega) (by omega) (by decide) ?_
  refine go_a (pc' := 69) (ls' := [some (.ref h.length), some (.int (iI k)), some (.int (iI o)), some (.int (iI c)), none, none, none, none]) (st' := [.int (iI 41), .int (iI (A 1 o))]) rfl rfl ?_
  refine mi_eq (t := 107) rfl rfl (by omega) (by omega) (by omega) (by omega) (fun q => by omega) (fun _ => ?_)
  refine go_a (pc' := 73) (ls' := [some (.ref h.length), some (.int (iI k)), some (.int (iI o)), some (.int (iI c)), none, none, none, none]) (st' := [.ref h.length]) rfl rfl ?_
  refine go_get rfl mh_o rfl rfl ?_
  refine go_a (pc' := 77) (ls' := [some (.ref h.length), some (.int (iI k)), some (.int (iI o)), some (.int (iI c)), none, none, none, none]) (st' := [.int (iI o), .ref (h.length + 1)]) rfl rfl ?_
  refine mi_ild rfl mh_a1 (by omega) (by omega) (by decide) ?_
  refine go_a (pc' := 80) (ls' := [some (.ref h.length), some (.int (iI k)), some (.int (iI o)), some (.int (iI c)), none, none, none, none]) (st' := [.int (iI 42), .int (iI (A 1 o))]) rfl rfl ?_
  refine mi_eq (t := 107) rfl rfl (by omega) (by omega) (by omega) (by omega) (fun q => by omega) (fun _ => ?_)
  refine go_a (pc' := 84) (ls' := [some (.ref h.length), some (.int (iI k)), some (.int (iI o)), some (.int (iI c)), none, none, none, none]) (st' := [.ref h.length]) rfl rfl ?_
  refine go_get rfl mh_o rfl rfl ?_
  refine go_a (pc' := 88) (ls' := [some (.ref h.length), some (.int (iI k)), some (.int (iI o)), some (.int (iI c)), none, none, none, none]) (st' := [.int (iI o), .ref (h.length + 1)]) rfl rfl ?_
  refine mi_ild rfl mh_a1 (by omega) (by omega) (by decide) ?_
  refine go_a (pc' := 91) (ls' := [some (.ref h.length), some (.int (iI k)), some (.int (iI o)), some (.int (iI c)), none, none, none, none]) (st' := [.int (iI 43), .int (iI (A 1 o))]) rfl rfl ?_
  refine mi_eq (t := 107) rfl rfl (by omega) (by omega) (by omega) (by omega) (fun q => by omega) (fun _ => ?_)
  refine go_a (pc' := 95) (ls' := [some (.ref h.length), some (.int (iI k)), some (.int (iI o)), some (.int (iI c)), none, none, none, none]) (st' := [.ref h.length]) rfl rfl ?_
  refine go_a (pc' := 96) (ls' := [some (.ref h.length), some (.int (iI k)), some (.int (iI o)), some (.int (iI c)), none, none, none, none]) (st' := [.ref h.length, .ref h.length]) rfl rfl ?_
  refine go_a (pc' := 97) (ls' := [some (.ref h.length), some (.int (iI k)), some (.int (iI o)), some (.int (iI c)), none, none, none, none]) (st' := [.int (iI o), .ref h.length, .ref h.length]) rfl rfl ?_
  refine go_a (pc' := 98) (ls' := [some (.ref h.length), some (.int (iI k)), some (.int (iI o)), some (.int (iI c)), none, none, none, none]) (st' := [.int (iI 1), .int (iI o), .ref h.length, .ref h.length]) rfl rfl ?_
  have Lxl := isL_extB hP R0.1 2 o o0 o1 hL
  have ixl := it_BX hP R0.1 o0 o1 hL (by decide : 1 < 2)
  refine go_v (m := 99) (as := [.ref h.length, .int (iI o), .int (iI 1)]) (r := [.ref h.length]) rfl rfl rfl mh_o rfl rfl (mm_nth z (d + 9) 1 2 o h R J A N hc PJ (by decide) o0 (by omega) Lxl (by omega)) (fun v h1 hq => ?_)
  obtain ⟨rfl, rfl⟩ := hq
  rw [ixl]
  show xx_go (xt_P z) (d + 10) 154 101 [some (.ref h.length), some (.int (iI k)), some (.int (iI o)), some (.int (iI c)), none, none, none, none] [.int (iI (A 1 (rt A 1 o))), .ref h.length] (mh h R J A N) _
  have wxl := (WD_BX hP R0.1 v1.2.1.1 v1.2.1.2).1
  refine go_v (m := 105) (as := [.ref h.length, .int (iI (A 1 (rt A 1 o)))]) (r := []) rfl rfl rfl mh_o rfl rfl (mr_term z (d + 2) ar (A 1 (rt A 1 o)) h R J A N hc R0.2.1 v1.2.1.1 (by omega) (by omega) (by omega)) (fun v h1 hq => ?_)
  obtain ⟨l, I1, A1, rfl, rfl, R1, K1, ⟨u1, bb1⟩, ht1⟩ := hq
  have tt1 : ((0 ≤ l ∧ l < I1 7) ∧ TZ A1 ar l = TS A ar (A 1 (rt A 1 o))) ∧ (1 ≤ TS A ar (A 1 (rt A 1 o)) ∧ TS A ar (A 1 (rt A 1 o)) ≤ 120) ∧ TS A ar (A 1 (rt A 1 o)) ≤ WD A (A 1 (rt A 1 o)) ∧ NFT A1 (A 1 (rt A 1 o)) l := by
    have tk := TOK_BX hP R0.1 v1.2.1.1 v1.2.1.2 tk1
    rcases ht1 with q | q
    · exact absurd tk q.2
    · have ts := TS_BX (ar := ar) hP R0.1 v1.2.1.1 v1.2.1.2
      rw [ts, wxl] at q
      exact ⟨⟨q.1, q.2.2.2.1⟩, by omega, q.2.2.2.2.1, q.2.2.2.2.2⟩
  obtain ⟨h_l1, sb_l, sw_l, nf_l⟩ := tt1
  have s_l := sb_l.1
  rw [wxl] at R1
  have D1 := K1 _ _ _ D0
  have P1 := RU_P R1
  have X1 := RU_tr R0 R1 (Int.le_refl _)
  have y1 := X1.2.2.1
  have z1 : I1 7 ≤ 140000 := P1.1
  have x1 : I 7 ≤ I1 7 := X1.1.2.1
  have ex1 : A1 1 o = A 1 o := (X1.1.2.2.1 o o0 o1).1
  show xx_go (xt_P z) (d + 10) 154 104 [some (.ref h.length), some (.int (iI k)), some (.int (iI o)), some (.int (iI c)), none, none, none, none] [.int (iI l)] (mh h R I1 A1 N) _
  refine go_a (pc' := 108) (ls' := [some (.ref h.length), some (.int (iI k)), some (.int (iI o)), some (.int (iI c)), none, none, none, none]) (st' := [.int (iI l)]) rfl rfl ?_
  refine go_a (pc' := 110) (ls' := [some (.ref h.length), some (.int (iI k)), some (.int (iI o)), some (.int (iI c)), some (.int (iI l)), none, none, none]) (st' := []) rfl rfl ?_
  refine go_a (pc' := 111) (ls' := [some (.ref h.length), some (.int (iI k)), some (.int (iI o)), some (.int (iI c)), some (.int (iI l)), none, none, none]) (st' := [.ref h.length]) rfl rfl ?_
  refine go_get rfl mh_o rfl rfl ?_
  refine go_a (pc' := 115) (ls' := [some (.ref h.length), some (.int (iI k)), some (.int (iI o)), some (.int (iI c)), some (.int (iI l)), none, none, none]) (st' := [.int (iI o), .ref (h.length + 1)]) rfl rfl ?_
  refine mi_ild rfl mh_a1 (by omega) (by omega) (by decide) ?_
  refine go_a (pc' := 118) (ls' := [some (.ref h.length), some (.int (iI k)), some (.int (iI o)), some (.int (iI c)), some (.int (iI l)), none, none, none]) (st' := [.int (iI 32), .int (iI (A1 1 o))]) rfl rfl ?_
  refine mi_lt (t := 145) rfl rfl (by omega) (by omega) (by omega) (by omega) (fun _ => ?_) (fun q => by omega)
  refine go_a (pc' := 146) (ls' := [some (.ref h.length), some (.int (iI k)), some (.int (iI o)), some (.int (iI c)), some (.int (iI l)), none, none, none]) (st' := [.int (iI ((-1)))]) rfl rfl ?_
  refine go_a (pc' := 148) (ls' := [some (.ref h.length), some (.int (iI k)), some (.int (iI o)), some (.int (iI c)), some (.int (iI l)), some (.int (iI ((-1)))), none, none]) (st' := []) rfl rfl ?_
  refine go_a (pc' := 149) (ls' := [some (.ref h.length), some (.int (iI k)), some (.int (iI o)), some (.int (iI c)), some (.int (iI l)), some (.int (iI ((-1)))), none, none]) (st' := [.ref h.length]) rfl rfl ?_
  refine go_get rfl mh_o rfl rfl ?_
  refine go_a (pc' := 153) (ls' := [some (.ref h.length), some (.int (iI k)), some (.int (iI o)), some (.int (iI c)), some (.int (iI l)), some (.int (iI ((-1)))), none, none]) (st' := [.int (iI o), .ref (h.length + 1)]) rfl rfl ?_
  refine mi_ild rfl mh_a1 (by omega) (by omega) (by decide) ?_
  refine go_a (pc' := 156) (ls' := [some (.ref h.length), some (.int (iI k)), some (.int (iI o)), some (.int (iI c)), some (.int (iI l)), some (.int (iI ((-1)))), none, none]) (st' := [.int (iI 35), .int (iI (A1 1 o))]) rfl rfl ?_
  refine mi_eq (t := 170) rfl rfl (by omega) (by omega) (by omega) (by omega) (fun q => by omega) (fun _ => ?_)
  refine go_a (pc' := 160) (ls' := [some (.ref h.length), some (.int (iI k)), some (.int (iI o)), some (.int (iI c)), some (.int (iI l)), some (.int (iI ((-1)))), none, none]) (st' := [.ref h.length]) rfl rfl ?_
  refine go_get rfl mh_o rfl rfl ?_
  refine go_a (pc' := 164) (ls' := [some (.ref h.length), some (.int (iI k)), some (.int (iI o)), some (.int (iI c)), some (.int (iI l)), some (.int (iI ((-1)))), none, none]) (st' := [.int (iI o), .ref (h.length + 1)]) rfl rfl ?_
  refine mi_ild rfl mh_a1 (by omega) (by omega) (by decide) ?_
  refine go_a (pc' := 167) (ls' := [some (.ref h.length), some (.int (iI k)), some (.int (iI o)), some (.int (iI c)), some (.int (iI l)), some (.int (iI ((-1)))), none, none]) (st' := [.int (iI 36), .int (iI (A1 1 o))]) rfl rfl ?_
  refine mi_ne (t := 183) rfl rfl (by omega) (by omega) (by omega) (by omega) (fun _ => ?_) (fun q => by omega)
  refine go_a (pc' := 184) (ls' := [some (.ref h.length), some (.int (iI k)), some (.int (iI o)), some (.int (iI c)), some (.int (iI l)), some (.int (iI ((-1)))), none, none]) (st' := [.int (iI ((-1)))]) rfl rfl ?_
  refine go_a (pc' := 186) (ls' := [some (.ref h.length), some (.int (iI k)), some (.int (iI o)), some (.int (iI c)), some (.int (iI l)), some (.int (iI ((-1)))), some (.int (iI ((-1)))), none]) (st' := []) rfl rfl ?_
  refine go_a (pc' := 187) (ls' := [some (.ref h.length), some (.int (iI k)), some (.int (iI o)), some (.int (iI c)), some (.int (iI l)), some (.int (iI ((-1)))), some (.int (iI ((-1)))), none]) (st' := [.ref h.length]) rfl rfl ?_
  refine go_get rfl mh_o rfl rfl ?_
  refine go_a (pc' := 191) (ls' := [some (.ref h.length), some (.int (iI k)), some (.int (iI o)), some (.int (iI c)), some (.int (iI l)), some (.int (iI ((-1)))), some (.int (iI ((-1)))), none]) (st' := [.int (iI o), .ref (h.length + 1)]) rfl rfl ?_
  refine mi_ild rfl mh_a1 (by omega) (by omega) (by decide) ?_
  rw [ex1]
  refine mi_ts (c := 31) (t := 301) rfl ef rfl ?_
  refine go_a (pc' := 302) (ls' := [some (.ref h.length), some (.int (iI k)), some (.int (iI o)), some (.int (iI c)), some (.int (iI l)), some (.int (iI ((-1)))), some (.int (iI ((-1)))), none]) (st' := [.ref h.length]) rfl rfl ?_
  refine go_a (pc' := 303) (ls' := [some (.ref h.length), some (.int (iI k)), some (.int (iI o)), some (.int (iI c)), some (.int (iI l)), some (.int (iI ((-1)))), some (.int (iI ((-1)))), none]) (st' := [.ref h.length, .ref h.length]) rfl rfl ?_
  refine go_a (pc' := 304) (ls' := [some (.ref h.length), some (.int (iI k)), some (.int (iI o)), some (.int (iI c)), some (.int (iI l)), some (.int (iI ((-1)))), some (.int (iI ((-1)))), none]) (st' := [.int (iI 4), .ref h.length, .ref h.length]) rfl rfl ?_
  refine go_a (pc' := 306) (ls' := [some (.ref h.length), some (.int (iI k)), some (.int (iI o)), some (.int (iI c)), some (.int (iI l)), some (.int (iI ((-1)))), some (.int (iI ((-1)))), none]) (st' := [.int (iI l), .int (iI 4), .ref h.length, .ref h.length]) rfl rfl ?_
  refine go_a (pc' := 307) (ls' := [some (.ref h.length), some (.int (iI k)), some (.int (iI o)), some (.int (iI c)), some (.int (iI l)), some (.int (iI ((-1)))), some (.int (iI ((-1)))), none]) (st' := [.ref h.length, .int (iI l), .int (iI 4), .ref h.length, .ref h.length]) rfl rfl ?_
  refine go_a (pc' := 308) (ls' := [some (.ref h.length), some (.int (iI k)), some (.int (iI o)), some (.int (iI c)), some (.int (iI l)), some (.int (iI ((-1)))), some (.int (iI ((-1)))), none]) (st' := [.ref h.length, .ref h.length, .int (iI l), .int (iI 4), .ref h.length, .ref h.length]) rfl rfl ?_
  refine go_a (pc' := 310) (ls' := [some (.ref h.length), some (.int (iI k)), some (.int (iI o)), some (.int (iI c)), some (.int (iI l)), some (.int (iI ((-1)))), some (.int (iI ((-1)))), none]) (st' := [.int (iI l), .ref h.length, .ref h.length, .int (iI l), .int (iI 4), .ref h.length, .ref h.length]) rfl rfl ?_
  have lt : l = tf := (NF_uniq X1.2.1.1.1 _ _ l tf (Nat.lt_succ_self _) v1.2.1.1 (by omega) h_l1.1.1 h_l1.1.2 tf0.1 (by omega)).1 nf_l ((NF_ext hP P1 X1.1.2.1 (fun k a b => ⟨(X1.1.2.2.1 k a b).1, (X1.1.2.2.1 k a b).2.1⟩) _ _ _ (Nat.lt_succ_self _) v1.2.1.1 v1.2.1.2 tf0.1 tf0.2).1 tf2)
  have tl : TLD A1 N ar l := by
    rw [lt]
    exact TLD_BX hP hB.1.2.1 (hB.2.1.1.1.2.1 7 (by decide) (by decide)) X1.1 tf0.1 tf0.2 tf1 tf3
  refine go_v (m := 141) (as := [.ref h.length, .int (iI l)]) (r := [.ref h.length, .int (iI l), .int (iI 4), .ref h.length, .ref h.length]) rfl rfl rfl mh_o rfl rfl (mm_told z (d + 4) ar l h R I1 A1 N hc X1.2.1.1.1 X1.2.1.1.2.1 X1.2.1.1.2.2 X1.2.1.2.1.1 (ARF_01 X1.2.1.2.1.2) (by omega) h_l1.1.1 h_l1.1.2 (by rw [h_l1.2]; exact s_l)) (fun v h1 hq => ?_)
  obtain ⟨v, I2, A2, N2, rfl, rfl, bx2, zz2, c72, hv2⟩ := hq
  have vv : 0 ≤ v ∧ v < I2 7 := by
    rcases hv2 with q | q
    · exact absurd tl q.2
    · exact q.1
  have R2 : RU ar 1 I1 A1 N I2 A2 N2 := RU_of X1.2.1 bx2 (fun j q => by unfold FV at q; unfold FC; omega) (fun a q => by unfold GV at q; unfold GC; omega) zz2 (bx2.2.2.2.1 54 (by decide) (by unfold FV; omega)) (bx2.2.2.2.1 56 (by decide) (by unfold FV; omega)) (by rw [bx2.2.2.2.1 49 (by decide) (by unfold FV; omega)]; exact X1.2.1.2.2.2.2) c72 (fun _ => bx2.2.2.2.1 49 (by decide) (by unfold FV; omega))
  have D2 := DR_BX P1 D1 bx2 (by unfold FV; omega) (by unfold GV; omega) (RU_z R2)
  have P2 := RU_P R2
  have X2 := RU_tr X1 R2 (Int.le_refl _)
  have h_l2 := RU_carry P1 R2 h_l1 s_l
  have y2 := X2.2.2.1
  have z2 : I2 7 ≤ 140000 := P2.1
  have x2 : I 7 ≤ I2 7 := X2.1.2.1
  have ex2 : A2 1 o = A 1 o := (X2.1.2.2.1 o o0 o1).1
  clear h_l1 y1 z1 x1 ex1
  show xx_go (xt_P z) (d + 10) 154 313 [some (.ref h.length), some (.int (iI k)), some (.int (iI o)), some (.int (iI c)), some (.int (iI l)), some (.int (iI ((-1)))), some (.int (iI ((-1)))), none] [.int (iI v), .ref h.length, .int (iI l), .int (iI 4), .ref h.length, .ref h.length] (mh h R I2 A2 N2) _
  refine go_v (m := 109) (as := [.ref h.length, .int (iI v)]) (r := [.int (iI l), .int (iI 4), .ref h.length, .ref h.length]) rfl rfl rfl mh_o rfl rfl (mm_constantOf z (d + 5) ar v h R I2 A2 N2 hc X2.2.1.1.1 X2.2.1.1.2.1 X2.2.1.1.2.2 (by omega) vv.1 vv.2) (fun v h1 hq => ?_)
  obtain ⟨q, I3, A3, rfl, rfl, ex9, zz3, q0, q1, q2, q3, -⟩ := hq
  have re := RU_EX (c := 2) X2.2.1 ex9 q3 zz3 q2
  have R3 := re.1
  have D3 := re.2 _ _ _ D2
  have P3 := RU_P R3
  have X3 := RU_tr X2 R3 (Int.le_refl _)
  have h_l3 := RU_carry P2 R3 h_l2 s_l
  have y3 := X3.2.2.1
  have z3 : I3 7 ≤ 140000 := P3.1
  have x3 : I 7 ≤ I3 7 := X3.1.2.1
  have ex3 : A3 1 o = A 1 o := (X3.1.2.2.1 o o0 o1).1
  clear h_l2 y2 z2 x2 ex2
  have h_q3 : (0 ≤ q ∧ q < I3 7) ∧ TZ A3 ar q = 1 := ⟨q0, q1⟩
  have s_q : (1 : Int) ≤ 1 := by decide
  show xx_go (xt_P z) (d + 10) 154 316 [some (.ref h.length), some (.int (iI k)), some (.int (iI o)), some (.int (iI c)), some (.int (iI l)), some (.int (iI ((-1)))), some (.int (iI ((-1)))), none] [.int (iI q), .int (iI l), .int (iI 4), .ref h.length, .ref h.length] (mh h R I3 A3 N2) _
  refine go_v (m := 156) (as := [.ref h.length, .int (iI 4), .int (iI l), .int (iI q)]) (r := [.ref h.length]) rfl rfl rfl mh_o rfl rfl (mr_two z (d + 3) ar 4 l q h R I3 A3 N2 hc X3.2.1 (by decide) (by omega) (by decide) (by omega) h_l3.1.1 h_l3.1.2 (by rw [h_l3.2]; exact s_l) h_q3.1.1 h_q3.1.2 (by rw [h_q3.2]; exact s_q) (X3.2.1.2.1.1.1.2.1 4 (by decide) (by decide)).symm) (fun v h1 hq => ?_)
  obtain ⟨r, I4, A4, rfl, rfl, R4, K4, tv4, tb4, te4⟩ := hq
  rw [h_l3.2, h_q3.2] at te4
  have D4 := K4 _ _ _ D3
  have h_r4 : (0 ≤ r ∧ r < I4 7) ∧ TZ A4 ar r = 1 + TS A ar (A 1 (rt A 1 o)) + (1) := ⟨tv4.1, te4⟩
  have s_r : 1 ≤ 1 + TS A ar (A 1 (rt A 1 o)) + (1) := by rw [← te4]; exact tv4.2
  have P4 := RU_P R4
  have X4 := RU_tr X3 R4 (Int.le_refl _)
  have h_l4 := RU_carry P3 R4 h_l3 s_l
  have h_q4 := RU_carry P3 R4 h_q3 s_q
  have y4 := X4.2.2.1
  have z4 : I4 7 ≤ 140000 := P4.1
  have x4 : I 7 ≤ I4 7 := X4.1.2.1
  have ex4 : A4 1 o = A 1 o := (X4.1.2.2.1 o o0 o1).1
  clear h_l3 h_q3 y3 z3 x3 ex3
  show xx_go (xt_P z) (d + 10) 154 319 [some (.ref h.length), some (.int (iI k)), some (.int (iI o)), some (.int (iI c)), some (.int (iI l)), some (.int (iI ((-1)))), some (.int (iI ((-1)))), none] [.int (iI r), .ref h.length] (mh h R I4 A4 N2) _
  refine go_v (m := 155) (as := [.ref h.length, .int (iI r)]) (r := []) rfl rfl rfl mh_o rfl rfl (mr_put z (d + 9) ar 0 0 _ r h R I4 A4 N2 hc X4.2.1 D4 (by omega) h_r4.1.1 h_r4.1.2 (by rw [h_r4.2]; exact s_r) (fun b => by rw [h_r4.2]; have := tb4 b; rw [te4] at this; exact this)) (fun v h1 hq => ?_)
  obtain ⟨rfl, I5, A5, rfl, R5, D5, u5, e5⟩ := hq
  rw [h_r4.2] at D5
  have P5 := RU_P R5
  have X5 := RU_tr X4 R5 (Int.le_refl _)
  have h_l5 := RU_carry P4 R5 h_l4 s_l
  have h_q5 := RU_carry P4 R5 h_q4 s_q
  have h_r5 := RU_carry P4 R5 h_r4 s_r
  have y5 := X5.2.2.1
  have z5 : I5 7 ≤ 140000 := P5.1
  have x5 : I 7 ≤ I5 7 := X5.1.2.1
  have ex5 : A5 1 o = A 1 o := (X5.1.2.2.1 o o0 o1).1
  clear h_l4 h_q4 h_r4 y4 z4 x4 ex4
  show xx_go (xt_P z) (d + 10) 154 322 [some (.ref h.length), some (.int (iI k)), some (.int (iI o)), some (.int (iI c)), some (.int (iI l)), some (.int (iI ((-1)))), some (.int (iI ((-1)))), none] [] (mh h R I5 A5 N2) _
  refine go_a (pc' := 323) (ls' := [some (.ref h.length), some (.int (iI k)), some (.int (iI o)), some (.int (iI c)), some (.int (iI l)), some (.int (iI ((-1)))), some (.int (iI ((-1)))), none]) (st' := [.int (iI 1)]) rfl rfl ?_
  refine go_r rfl rfl rfl rfl rfl rfl ⟨1, I5, A5, N2, rfl, rfl, RU_w X5 (by omega), Or.inr ⟨rfl, _, _, DR_w D5 (by omega) (Int.le_refl _) (Int.le_refl _), fun b9 b30 b400 => ?_⟩⟩
  have dm := D5.1
  have ds := D5.2.2.1
  have dv := D5.2.2.2
  have kk : KDR dd I5 A5 ar ≤ E + 128 * WD A o - I5 7 := KK_one (by omega) (by omega)
  omega
set_option maxRecDepth 4000 in
theorem mm_con_def (z : Value) (d : Nat) (ar : Int → Int) (k o c E dd : Int) (h R : xx_H) (I : Nat → Int) (A : Nat → Int → Int) (N : Int → Int) (hc : 12 ≤ h.length) (hB : BI ar I A N) (k0 : 0 ≤ k) (k1 : k < 40) (ek : A 47 k = o) (o0 : 0 ≤ o) (o1 : o < I 7) (hF : FORM ar I A N o) (ec : A 49 k = c) (c0 : 0 ≤ c) (w : WD A o ≤ 1000) (hE : E + 128 * WD A o ≤ 140000) (d0 : 0 ≤ dd) (d1 : dd ≤ 39) (c9 : Int) (hcf : CFX ar I A o c9) (ef : A 1 o = 37) (hU : I 7 ≤ E + c9) : xx_cl (xt_P z) (d + 11) 154 [.ref h.length, .int (iI k)] (mh h R I A N) (fun v h1 => ∃ (b : Int) (I1 : Nat → Int) (A1 : Nat → Int → Int) (N1 : Int → Int), v = some (.int (iI b)) ∧ h1 = mh h R I1 A1 N1 ∧ RU ar 140000 I A N I1 A1 N1 ∧ (b = 0 ∨ (b = 1 ∧ ∃ S V : Int, DR ar 1190 S V I1 A1 ∧ (I1 49 = 0 → I1 67 ≤ 30 → SG (TZ A1 ar) (A1 38) (I1 67).toNat ≤ 400 → I1 7 + KDR dd I1 A1 ar ≤ E + 128 * WD A o)))) := by
  have hP := BI_P hB
  have n0 := BI_n0 hB
  have p9 := hP.1
  have nm := hB.1.2.1.1
  have n2 : A 1 2 < 0 := by rw [hB.1.2.1.2 2 (by decide) (by decide)]; decide
  obtain ⟨n, hL, n1, hF⟩ := hF
  have en : n = 2 ∧ ∃ e : Int, 0 ≤ e ∧ e < I 32 ∧ A 20 e = A 1 (rt A 1 o) := by
    rcases hF with q | q | q | q | q | q | q | q | q | q | q | q
    · omega
    · omega
    · omega
    · omega
    · exact ⟨q.2.1, q.2.2⟩
    · omega
    · omega
    · omega
    · omega
    · omega
    · omega
    · omega
  clear hF
  obtain ⟨rfl, ed, ed0, ed1, ed2⟩ := en
  have wo := WD_pair hP o0 o1 (by omega)
  rw [if_neg (fun q => absurd q.1 (by omega))] at wo
  have v0 := VD_rt hP o0 o1 hL (by decide : 0 < 2)
  have v0e : VD A o = WD A (A 1 o) + VD A (rt A 1 o) := v0.1
  have wr : WD A (A 1 o) = 1 := WD_atom (by rw [hB.1.2.1.2 _ (by omega) (by omega)]; decide)
  have v1 := VD_rt hP o0 o1 hL (by decide : 1 < 2)
  have v1e : VD A (rt A 1 o) = WD A (A 1 (rt A 1 o)) + VD A (rt A 2 o) := v1.1
  have vz : VD A (rt A 2 o) = 0 := by rw [isL_end 2 o hL, VD_atom n0, if_pos rfl]
  have cf := hcf.2 (by omega)
  have cf2 := cf.2.2.1 (by omega)
  have rd := DFS_rd hB
  refine cl_go rfl ?_
  show xx_go (xt_P z) (d + 10) 154 0 [some (.ref h.length), some (.int (iI k)), none, none, none, none, none, none] [] (mh h R I A N) _
  refine go_a (pc' := 1) (ls' := [some (.ref h.length), some (.int (iI k)), none, none, none, none, none, none]) (st' := [.ref h.length]) rfl rfl ?_
  refine go_get rfl mh_o rfl rfl ?_
  refine go_a (pc' := 5) (ls' := [some (.ref h.length), some (.int (iI k)), none, none, none, none, none, none]) (st' := [.int (iI k), .ref (h.length + 47)]) rfl rfl ?_
  refine mi_ild rfl mh_a47 (by omega) (by omega) (by decide) ?_
  rw [ek]
  refine go_a (pc' := 7) (ls' := [some (.ref h.length), some (.int (iI k)), some (.int (iI o)), none, none, none, none, none]) (st' := []) rfl rfl ?_
  refine go_a (pc' := 8) (ls' := [some (.ref h.length), some (.int (iI k)), some (.int (iI o)), none, none, none, none, none]) (st' := [.ref h.length]) rfl rfl ?_
  refine go_get rfl mh_o rfl rfl ?_
  refine go_a (pc' := 12) (ls' := [some (.ref h.length), some (.int (iI k)), some (.int (iI o)), none, none, none, none, none]) (st' := [.int (iI k), .ref (h.length + 49)]) rfl rfl ?_
  refine mi_ild rfl mh_a49 (by omega) (by omega) (by decide) ?_
  rw [ec]
  refine go_a (pc' := 14) (ls' := [some (.ref h.length), some (.int (iI k)), some (.int (iI o)), some (.int (iI c)), none, none, none, none]) (st' := []) rfl rfl ?_
  refine go_a (pc' := 15) (ls' := [some (.ref h.length), some (.int (iI k)), some (.int (iI o)), some (.int (iI c)), none, none, none, none]) (st' := [.ref h.length]) rfl rfl ?_
  refine go_a (pc' := 16) (ls' := [some (.ref h.length), some (.int (iI k)), some (.int (iI o)), some (.int (iI c)), none, none, none, none]) (st' := [.int (iI 0), .ref h.length]) rfl rfl ?_
  refine go_put (j := 67) rfl mh_o rfl rfl (show 12 ≤ _ from hc) (show 67 < 86 by decide) rfl rfl ?_
  rw [mh_p67]
  obtain ⟨J, hJ⟩ : ∃ J : Nat → Int, J = su I 67 0 := ⟨_, rfl⟩
  rw [← hJ]
  have bJ : BX (fun j => j = 67) NO I A N J A N := by
    subst hJ
    exact BX_of hB.1.1 (fun j q => su_ne q) (fun a _ => rfl) rfl rfl rfl rfl rfl rfl rfl rfl rfl rfl
  have J7 : J 7 = I 7 := by subst hJ; rfl
  have J49 : J 49 = I 49 := by subst hJ; rfl
  have R0 : RU ar 0 I A N J A N := RU_of hB bJ (fun j q => by subst q; unfold FC; omega) (fun a q => absurd q (fun z => z)) (SZI_124 (A := A) (A1 := A) hB.1.2.2 rfl rfl rfl J7) (by subst hJ; rfl) (by subst hJ; rfl) (by rw [J49]; exact hB.2.2.2.2) (by omega) (fun _ => J49)
  have D0 : DR ar 0 0 0 J A := by subst hJ; exact DR_00
  have PJ := RU_P R0
  refine go_a (pc' := 20) (ls' := [some (.ref h.length), some (.int (iI k)), some (.int (iI o)), some (.int (iI c)), none, none, none, none]) (st' := [.ref h.length]) rfl rfl ?_
  refine go_a (pc' := 21) (ls' := [some (.ref h.length), some (.int (iI k)), some (.int (iI o)), some (.int (iI c)), none, none, none, none]) (st' := [.int (iI o), .ref h.length]) rfl rfl ?_
  refine go_v (m := 98) (as := [.ref h.length, .int (iI o)]) (r := []) rfl rfl rfl mh_o rfl rfl (mm_lenL z (d + 8) 2 o h R J A N hc PJ n0 o0 (by omega) hL) (fun v h1 hq => ?_)
  obtain ⟨rfl, rfl⟩ := hq
  show xx_go (xt_P z) (d + 10) 154 24 [some (.ref h.length), some (.int (iI k)), some (.int (iI o)), some (.int (iI c)), none, none, none, none] [.int (iI (((2 : Nat) : Int)))] (mh h R J A N) _
  refine go_a (pc' := 25) (ls' := [some (.ref h.length), some (.int (iI k)), some (.int (iI o)), some (.int (iI c)), none, none, none, none]) (st' := [.int (iI 1), .int (iI (((2 : Nat) : Int)))]) rfl rfl ?_
  refine mi_le (t := 107) rfl rfl (by omega) (by omega) (by omega) (by omega) (fun q => by omega) (fun _ => ?_)
  refine go_a (pc' := 29) (ls' := [some (.ref h.length), some (.int (iI k)), some (.int (iI o)), some (.int (iI c)), none, none, none, none]) (st' := [.ref h.length]) rfl rfl ?_
  refine go_get rfl mh_o rfl rfl ?_
  refine go_a (pc' := 33) (ls' := [some (.ref h.length), some (.int (iI k)), some (.int (iI o)), some (.int (iI c)), none, none, none, none]) (st' := [.int (iI o), .ref (h.length + 1)]) rfl rfl ?_
  refine mi_ild rfl mh_a1 (by omega) (by omega) (by decide) ?_
  refine go_a (pc' := 36) (ls' := [some (.ref h.length), some (.int (iI k)), some (.int (iI o)), some (.int (iI c)), none, none, none, none]) (st' := [.int (iI 37), .int (iI (A 1 o))]) rfl rfl ?_
  refine mi_eq (t := 107) rfl rfl (by omega) (by omega) (by omega) (by omega) (fun _ => ?_) (fun q => by omega)
  refine go_a (pc' := 108) (ls' := [some (.ref h.length), some (.int (iI k)), some (.int (iI o)), some (.int (iI c)), none, none, none, none]) (st' := [.int (iI ((-1)))]) rfl rfl ?_
  refine go_a (pc' := 110) (ls' := [some (.ref h.length), some (.int (iI k)), some (.int (iI o)), some (.int (iI c)), some (.int (iI ((-1)))), none, none, none]) (st' := []) rfl rfl ?_
  refine go_a (pc' := 111) (ls' := [some (.ref h.length), some (.int (iI k)), some (.int (iI o)), some (.int (iI c)), some (.int (iI ((-1)))), none, none, none]) (st' := [.ref h.length]) rfl rfl ?_
  refine go_get rfl mh_o rfl rfl ?_
  refine go_a (pc' := 115) (ls' := [some (.ref h.length), some (.int (iI k)), some (.int (iI o)), some (.int (iI c)), some (.int (iI ((-1)))), none, none, none]) (st' := [.int (iI o), .ref (h.length + 1)]) rfl rfl ?_
  refine mi_ild rfl mh_a1 (by omega) (by omega) (by decide) ?_
  refine go_a (pc' := 118) (ls' := [some (.ref h.length), some (.int (iI k)), some (.int (iI o)), some (.int (iI c)), some (.int (iI ((-1)))), none, none, none]) (st' := [.int (iI 32), .int (iI (A 1 o))]) rfl rfl ?_
  refine mi_lt (t := 145) rfl rfl (by omega) (by omega) (by omega) (by omega) (fun q => by omega) (fun _ => ?_)
  refine go_a (pc' := 122) (ls' := [some (.ref h.length), some (.int (iI k)), some (.int (iI o)), some (.int (iI c)), some (.int (iI ((-1)))), none, none, none]) (st' := [.ref h.length]) rfl rfl ?_
  refine go_get rfl mh_o rfl rfl ?_
  refine go_a (pc' := 126) (ls' := [some (.ref h.length), some (.int (iI k)), some (.int (iI o)), some (.int (iI c)), some (.int (iI ((-1)))), none, none, none]) (st' := [.int (iI o), .ref (h.length + 1)]) rfl rfl ?_
  refine mi_ild rfl mh_a1 (by omega) (by omega) (by decide) ?_
  refine go_a (pc' := 129) (ls' := [some (.ref h.length), some (.int (iI k)), some (.int (iI o)), some (.int (iI c)), some (.int (iI ((-1)))), none, none, none]) (st' := [.int (iI 36), .int (iI (A 1 o))]) rfl rfl ?_
  refine mi_gt (t := 145) rfl rfl (by omega) (by omega) (by omega) (by omega) (fun _ => ?_) (fun q => by omega)
  refine go_a (pc' := 146) (ls' := [some (.ref h.length), some (.int (iI k)), some (.int (iI o)), some (.int (iI c)), some (.int (iI ((-1)))), none, none, none]) (st' := [.int (iI ((-1)))]) rfl rfl ?_
  refine go_a (pc' := 148) (ls' := [some (.ref h.length), some (.int (iI k)), some (.int (iI o)), some (.int (iI c)), some (.int (iI ((-1)))), some (.int (iI ((-1)))), none, none]) (st' := []) rfl rfl ?_
  refine go_a (pc' := 149) (ls' := [some (.ref h.length), some (.int (iI k)), some (.int (iI o)), some (.int (iI c)), some (.int (iI ((-1)))), some (.int (iI ((-1)))), none, none]) (st' := [.ref h.length]) rfl rfl ?_
  refine go_get rfl mh_o rfl rfl ?_
  refine go_a (pc' := 153) (ls' := [some (.ref h.length), some (.int (iI k)), some (.int (iI o)), some (.int (iI c)), some (.int (iI ((-1)))), some (.int (iI ((-1)))), none, none]) (st' := [.int (iI o), .ref (h.length + 1)]) rfl rfl ?_
  refine mi_ild rfl mh_a1 (by omega) (by omega) (by decide) ?_
  refine go_a (pc' := 156) (ls' := [some (.ref h.length), some (.int (iI k)), some (.int (iI o)), some (.int (iI c)), some (.int (iI ((-1)))), some (.int (iI ((-1)))), none, none]) (st' := [.int (iI 35), .int (iI (A 1 o))]) rfl rfl ?_
  refine mi_eq (t := 170) rfl rfl (by omega) (by omega) (by omega) (by omega) (fun q => by omega) (fun _ => ?_)
  refine go_a (pc' := 160) (ls' := [some (.ref h.length), some (.int (iI k)), some (.int (iI o)), some (.int (iI c)), some (.int (iI ((-1)))), some (.int (iI ((-1)))), none, none]) (st' := [.ref h.length]) rfl rfl ?_
  refine go_get rfl mh_o rfl rfl ?_
  refine go_a (pc' := 164) (ls' := [some (.ref h.length), some (.int (iI k)), some (.int (iI o)), some (.int (iI c)), some (.int (iI ((-1)))), some (.int (iI ((-1)))), none, none]) (st' := [.int (iI o), .ref (h.length + 1)]) rfl rfl ?_
  refine mi_ild rfl mh_a1 (by omega) (by omega) (by decide) ?_
  refine go_a (pc' := 167) (ls' := [some (.ref h.length), some (.int (iI k)), some (.int (iI o)), some (.int (iI c)), some (.int (iI ((-1)))), some (.int (iI ((-1)))), none, none]) (st' := [.int (iI 36), .int (iI (A 1 o))]) rfl rfl ?_
  refine mi_ne (t := 183) rfl rfl (by omega) (by omega) (by omega) (by omega) (fun _ => ?_) (fun q => by omega)
  refine go_a (pc' := 184) (ls' := [some (.ref h.length), some (.int (iI k)), some (.int (iI o)), some (.int (iI c)), some (.int (iI ((-1)))), some (.int (iI ((-1)))), none, none]) (st' := [.int (iI ((-1)))]) rfl rfl ?_
  refine go_a (pc' := 186) (ls' := [some (.ref h.length), some (.int (iI k)), some (.int (iI o)), some (.int (iI c)), some (.int (iI ((-1)))), some (.int (iI ((-1)))), some (.int (iI ((-1)))), none]) (st' := []) rfl rfl ?_
  refine go_a (pc' := 187) (ls' := [some (.ref h.length), some (.int (iI k)), some (.int (iI o)), some (.int (iI c)), some (.int (iI ((-1)))), some (.int (iI ((-1)))), some (.int (iI ((-1)))), none]) (st' := [.ref h.length]) rfl rfl ?_
  refine go_get rfl mh_o rfl rfl ?_
  refine go_a (pc' := 191) (ls' := [some (.ref h.length), some (.int (iI k)), some (.int (iI o)), some (.int (iI c)), some (.int (iI ((-1)))), some (.int (iI ((-1)))), some (.int (iI ((-1)))), none]) (st' := [.int (iI o), .ref (h.length + 1)]) rfl rfl ?_
  refine mi_ild rfl mh_a1 (by omega) (by omega) (by decide) ?_
  refine mi_ts (c := 37) (t := 471) rfl ef rfl ?_
  refine go_a (pc' := 472) (ls' := [some (.ref h.length), some (.int (iI k)), some (.int (iI o)), some (.int (iI c)), some (.int (iI ((-1)))), some (.int (iI ((-1)))), some (.int (iI ((-1)))), none]) (st' := [.ref h.length]) rfl rfl ?_
  refine go_a (pc' := 473) (ls' := [some (.ref h.length), some (.int (iI k)), some (.int (iI o)), some (.int (iI c)), some (.int (iI ((-1)))), some (.int (iI ((-1)))), some (.int (iI ((-1)))), none]) (st' := [.ref h.length, .ref h.length]) rfl rfl ?_
  refine go_a (pc' := 474) (ls' := [some (.ref h.length), some (.int (iI k)), some (.int (iI o)), some (.int (iI c)), some (.int (iI ((-1)))), some (.int (iI ((-1)))), some (.int (iI ((-1)))), none]) (st' := [.ref h.length, .ref h.length, .ref h.length]) rfl rfl ?_
  refine go_a (pc' := 475) (ls' := [some (.ref h.length), some (.int (iI k)), some (.int (iI o)), some (.int (iI c)), some (.int (iI ((-1)))), some (.int (iI ((-1)))), some (.int (iI ((-1)))), none]) (st' := [.int (iI o), .ref h.length, .ref h.length, .ref h.length]) rfl rfl ?_
  refine go_a (pc' := 476) (ls' := [some (.ref h.length), some (.int (iI k)), some (.int (iI o)), some (.int (iI c)), some (.int (iI ((-1)))), some (.int (iI ((-1)))), some (.int (iI ((-1)))), none]) (st' := [.int (iI 1), .int (iI o), .ref h.length, .ref h.length, .ref h.length]) rfl rfl ?_
  refine go_v (m := 99) (as := [.ref h.length, .int (iI o), .int (iI 1)]) (r := [.ref h.length, .ref h.length]) rfl rfl rfl mh_o rfl rfl (mm_nth z (d + 9) 1 2 o h R J A N hc PJ (by decide) o0 (by omega) hL (by omega)) (fun v h1 hq => ?_)
  obtain ⟨rfl, rfl⟩ := hq
  show xx_go (xt_P z) (d + 10) 154 479 [some (.ref h.length), some (.int (iI k)), some (.int (iI o)), some (.int (iI c)), some (.int (iI ((-1)))), some (.int (iI ((-1)))), some (.int (iI ((-1)))), none] [.int (iI (A 1 (rt A 1 o))), .ref h.length, .ref h.length] (mh h R J A N) _
  have J32 : J 32 = I 32 := by subst hJ; rfl
  refine go_v (m := 132) (as := [.ref h.length, .int (iI (A 1 (rt A 1 o)))]) (r := [.ref h.length]) rfl rfl rfl mh_o rfl rfl (mm_definitionF z (d + 9) (A 1 (rt A 1 o)) h R J A N hc (by omega) (by omega) (by omega) (by omega) (fun e a b => rd.2 e a (by omega))) (fun v h1 hq => ?_)
  obtain ⟨⟨x, rfl, hx⟩, rfl⟩ := hq
  have xv : 0 ≤ x ∧ x < J 32 := by
    rcases hx with ⟨-, q⟩ | ⟨x0, x1, x2, x3⟩
    · exact absurd ed2 (q ed ed0 (by omega))
    · exact ⟨x0, x1⟩
  show xx_go (xt_P z) (d + 10) 154 482 [some (.ref h.length), some (.int (iI k)), some (.int (iI o)), some (.int (iI c)), some (.int (iI ((-1)))), some (.int (iI ((-1)))), some (.int (iI ((-1)))), none] [.int (iI x), .ref h.length] (mh h R J A N) _
  refine go_v (m := 157) (as := [.ref h.length, .int (iI x)]) (r := []) rfl rfl rfl mh_o rfl rfl (mm_defined z (d + 2) ar x h R J A N hc R0.2.1 xv.1 xv.2 0 0 0 D0 (by decide) (by omega)) (fun v h1 hq => ?_)
  obtain ⟨rfl, I1, A1, rfl, R1, S9, V9, D1⟩ := hq
  have P1 := RU_P R1
  have X1 := RU_tr R0 R1 (Int.le_refl _)
  have y1 := X1.2.2.1
  have z1 : I1 7 ≤ 140000 := P1.1
  have x1 : I 7 ≤ I1 7 := X1.1.2.1
  have ex1 : A1 1 o = A 1 o := (X1.1.2.2.1 o o0 o1).1
  show xx_go (xt_P z) (d + 10) 154 485 [some (.ref h.length), some (.int (iI k)), some (.int (iI o)), some (.int (iI c)), some (.int (iI ((-1)))), some (.int (iI ((-1)))), some (.int (iI ((-1)))), none] [] (mh h R I1 A1 N) _
  refine go_a (pc' := 486) (ls' := [some (.ref h.length), some (.int (iI k)), some (.int (iI o)), some (.int (iI c)), some (.int (iI ((-1)))), some (.int (iI ((-1)))), some (.int (iI ((-1)))), none]) (st' := [.int (iI 1)]) rfl rfl ?_
  refine go_r rfl rfl rfl rfl rfl rfl ⟨1, I1, A1, N, rfl, rfl, RU_w X1 (by omega), Or.inr ⟨rfl, _, _, DR_w D1 (by omega) (Int.le_refl _) (Int.le_refl _), fun b9 b30 b400 => ?_⟩⟩
  have dm := D1.1
  have ds := D1.2.2.1
  have dv := D1.2.2.2
  have kk : KDR dd I1 A1 ar ≤ E + 128 * WD A o - I1 7 := KK_one (by omega) (by omega)
  omega
set_option maxRecDepth 4000 in
theorem mm_con_thm (z : Value) (d : Nat) (ar : Int → Int) (k o c E dd : Int) (h R : xx_H) (I : Nat → Int) (A : Nat → Int → Int) (N : Int → Int) (hc : 12 ≤ h.length) (hB : BI ar I A N) (k0 : 0 ≤ k) (k1 : k < 40) (ek : A 47 k = o) (o0 : 0 ≤ o) (o1 : o < I 7) (hF : FORM ar I A N o) (ec : A 49 k = c) (c0 : 0 ≤ c) (w : WD A o ≤ 1000) (hE : E + 128 * WD A o ≤ 140000) (d0 : 0 ≤ dd) (d1 : dd ≤ 39) (c9 : Int) (hcf : CFX ar I A o c9) (ef : A 1 o = 38) (hU : I 7 ≤ E + c9) : xx_cl (xt_P z) (d + 11) 154 [.ref h.length, .int (iI k)] (mh h R I A N) (fun v h1 => ∃ (b : Int) (I1 : Nat → Int) (A1 : Nat → Int → Int) (N1 : Int → Int), v = some (.int (iI b)) ∧ h1 = mh h R I1 A1 N1 ∧ RU ar 140000 I A N I1 A1 N1 ∧ (b = 0 ∨ (b = 1 ∧ ∃ S V : Int, DR ar 1190 S V I1 A1 ∧ (I1 49 = 0 → I1 67 ≤ 30 → SG (TZ A1 ar) (A1 38) (I1 67).toNat ≤ 400 → I1 7 + KDR dd I1 A1 ar ≤ E + 128 * WD A o)))) := by
  have hP := BI_P hB
  have n0 := BI_n0 hB
  have p9 := hP.1
  have nm := hB.1.2.1.1
  have n2 : A 1 2 < 0 := by rw [hB.1.2.1.2 2 (by decide) (by decide)]; decide
  obtain ⟨n, hL, n1, hF⟩ := hF
  have en : n = 2 ∧ ∃ e : Int, 0 ≤ e ∧ e < I 38 ∧ A 25 e = A 1 (rt A 1 o) := by
    rcases hF with q | q | q | q | q | q | q | q | q | q | q | q
    · omega
    · omega
    · omega
    · omega
    · omega
    · exact ⟨q.2.1, q.2.2⟩
    · omega
    · omega
    · omega
    · omega
    · omega
    · omega
  clear hF
  obtain ⟨rfl, ed, ed0, ed1, ed2⟩ := en
  have wo := WD_pair hP o0 o1 (by omega)
  rw [if_neg (fun q => absurd q.1 (by omega))] at wo
  have v0 := VD_rt hP o0 o1 hL (by decide : 0 < 2)
  have v0e : VD A o = WD A (A 1 o) + VD A (rt A 1 o) := v0.1
  have wr : WD A (A 1 o) = 1 := WD_atom (by rw [hB.1.2.1.2 _ (by omega) (by omega)]; decide)
  have v1 := VD_rt hP o0 o1 hL (by decide : 1 < 2)
  have v1e : VD A (rt A 1 o) = WD A (A 1 (rt A 1 o)) + VD A (rt A 2 o) := v1.1
  have vz : VD A (rt A 2 o) = 0 := by rw [isL_end 2 o hL, VD_atom n0, if_pos rfl]
  have cf := hcf.2 (by omega)
  have cf2 := cf.2.2.1 (by omega)
  have rd := hB.2.2.1
  have rd1 := rd.1.2
  refine cl_go rfl ?_
  show xx_go (xt_P z) (d + 10) 154 0 [some (.ref h.length), some (.int (iI k)), none, none, none, none, none, none] [] (mh h R I A N) _
  refine go_a (pc' := 1) (ls' := [some (.ref h.length), some (.int (iI k)), none, none, none, none, none, none]) (st' := [.ref h.length]) rfl rfl ?_
  refine go_get rfl mh_o rfl rfl ?_
  refine go_a (pc' := 5) (ls' := [some (.ref h.length), some (.int (iI k)), none, none, none, none, none, none]) (st' := [.int (iI k), .ref (h.length + 47)]) rfl rfl ?_
  refine mi_ild rfl mh_a47 (by omega) (by omega) (by decide) ?_
  rw [ek]
  refine go_a (pc' := 7) (ls' := [some (.ref h.length), some (.int (iI k)), some (.int (iI o)), none, none, none, none, none]) (st' := []) rfl rfl ?_
  refine go_a (pc' := 8) (ls' := [some (.ref h.length), some (.int (iI k)), some (.int (iI o)), none, none, none, none, none]) (st' := [.ref h.length]) rfl rfl ?_
  refine go_get rfl mh_o rfl rfl ?_
  refine go_a (pc' := 12) (ls' := [some (.ref h.length), some (.int (iI k)), some (.int (iI o)), none, none, none, none, none]) (st' := [.int (iI k), .ref (h.length + 49)]) rfl rfl ?_
  refine mi_ild rfl mh_a49 (by omega) (by omega) (by decide) ?_
  rw [ec]
  refine go_a (pc' := 14) (ls' := [some (.ref h.length), some (.int (iI k)), some (.int (iI o)), some (.int (iI c)), none, none, none, none]) (st' := []) rfl rfl ?_
  refine go_a (pc' := 15) (ls' := [some (.ref h.length), some (.int (iI k)), some (.int (iI o)), some (.int (iI c)), none, none, none, none]) (st' := [.ref h.length]) rfl rfl ?_
  refine go_a (pc' := 16) (ls' := [some (.ref h.length), some (.int (iI k)), some (.int (iI o)), some (.int (iI c)), none, none, none, none]) (st' := [.int (iI 0), .ref h.length]) rfl rfl ?_
  refine go_put (j := 67) rfl mh_o rfl rfl (show 12 ≤ _ from hc) (show 67 < 86 by decide) rfl rfl ?_
  rw [mh_p67]
  obtain ⟨J, hJ⟩ : ∃ J : Nat → Int, J = su I 67 0 := ⟨_, rfl⟩
  rw [← hJ]
  have bJ : BX (fun j => j = 67) NO I A N J A N := by
    subst hJ
    exact BX_of hB.1.1 (fun j q => su_ne q) (fun a _ => rfl) rfl rfl rfl rfl rfl rfl rfl rfl rfl rfl
  have J7 : J 7 = I 7 := by subst hJ; rfl
  have J49 : J 49 = I 49 := by subst hJ; rfl
  have R0 : RU ar 0 I A N J A N := RU_of hB bJ (fun j q => by subst q; unfold FC; omega) (fun a q => absurd q (fun z => z)) (SZI_124 (A := A) (A1 := A) hB.1.2.2 rfl rfl rfl J7) (by subst hJ; rfl) (by subst hJ; rfl) (by rw [J49]; exact hB.2.2.2.2) (by omega) (fun _ => J49)
  have D0 : DR ar 0 0 0 J A := by subst hJ; exact DR_00
  have PJ := RU_P R0
  refine go_a (pc' := 20) (ls' := [some (.ref h.length), some (.int (iI k)), some (.int (iI o)), some (.int (iI c)), none, none, none, none]) (st' := [.ref h.length]) rfl rfl ?_
  refine go_a (pc' := 21) (ls' := [some (.ref h.length), some (.int (iI k)), some (.int (iI o)), some (.int (iI c)), none, none, none, none]) (st' := [.int (iI o), .ref h.length]) rfl rfl ?_
  refine go_v (m := 98) (as := [.ref h.length, .int (iI o)]) (r := []) rfl rfl rfl mh_o rfl rfl (mm_lenL z (d + 8) 2 o h R J A N hc PJ n0 o0 (by omega) hL) (fun v h1 hq => ?_)
  obtain ⟨rfl, rfl⟩ := hq
  show xx_go (xt_P z) (d + 10) 154 24 [some (.ref h.length), some (.int (iI k)), some (.int (iI o)), some (.int (iI c)), none, none, none, none] [.int (iI (((2 : Nat) : Int)))] (mh h R J A N) _
  refine go_a (pc' := 25) (ls' := [some (.ref h.length), some (.int (iI k)), some (.int (iI o)), some (.int (iI c)), none, none, none, none]) (st' := [.int (iI 1), .int (iI (((2 : Nat) : Int)))]) rfl rfl ?_
  refine mi_le (t := 107) rfl rfl (by omega) (by omega) (by omega) (by omega) (fun q => by omega) (fun _ => ?_)
  refine go_a (pc' := 29) (ls' := [some (.ref h.length), some (.int (iI k)), some (.int (iI o)), some (.int (iI c)), none, none, none, none]) (st' := [.ref h.length]) rfl rfl ?_
  refine go_get rfl mh_o rfl rfl ?_
  refine go_a (pc' := 33) (ls' := [some (.ref h.length), some (.int (iI k)), some (.int (iI o)), some (.int (iI c)), none, none, none, none]) (st' := [.int (iI o), .ref (h.length + 1)]) rfl rfl ?_
  refine mi_ild rfl mh_a1 (by omega) (by omega) (by decide) ?_
  refine go_a (pc' := 36) (ls' := [some (.ref h.length), some (.int (iI k)), some (.int (iI o)), some (.int (iI c)), none, none, none, none]) (st' := [.int (iI 37), .int (iI (A 1 o))]) rfl rfl ?_
  refine mi_eq (t := 107) rfl rfl (by omega) (by omega) (by omega) (by omega) (fun q => by omega) (fun _ => ?_)
  refine go_a (pc' := 40) (ls' := [some (.ref h.length), some (.int (iI k)), some (.int (iI o)), some (.int (iI c)), none, none, none, none]) (st' := [.ref h.length]) rfl rfl ?_
  refine go_get rfl mh_o rfl rfl ?_
  refine go_a (pc' := 44) (ls' := [some (.ref h.length), some (.int (iI k)), some (.int (iI o)), some (.int (iI c)), none, none, none, none]) (st' := [.int (iI o), .ref (h.length + 1)]) rfl rfl ?_
  refine mi_ild rfl mh_a1 (by omega) (by omega) (by decide) ?_
  refine go_a (pc' := 47) (ls' := [some (.ref h.length), some (.int (iI k)), some (.int (iI o)), some (.int (iI c)), none, none, none, none]) (st' := [.int (iI 38), .int (iI (A 1 o))]) rfl rfl ?_
  refine mi_eq (t := 107) rfl rfl (by omega) (by omega) (by omega) (by omega) (fun _ => ?_) (fun q => by omega)
  refine go_a (pc' := 108) (ls' := [some (.ref h.length), some (.int (iI k)), some (.int (iI o)), some (.int (iI c)), none, none, none, none]) (st' := [.int (iI ((-1)))]) rfl rfl ?_
  refine go_a (pc' := 110) (ls' := [some (.ref h.length), some (.int (iI k)), some (.int (iI o)), some (.int (iI c)), some (.int (iI ((-1)))), none, none, none]) (st' := []) rfl rfl ?_
  refine go_a (pc' := 111) (ls' := [some (.ref h.length), some (.int (iI k)), some (.int (iI o)), some (.int (iI c)), some (.int (iI ((-1)))), none, none, none]) (st' := [.ref h.length]) rfl rfl ?_
  refine go_get rfl mh_o rfl rfl ?_
  refine go_a (pc' := 115) (ls' := [some (.ref h.length), some (.int (iI k)), some (.int (iI o)), some (.int (iI c)), some (.int (iI ((-1)))), none, none, none]) (st' := [.int (iI o), .ref (h.length + 1)]) rfl rfl ?_
  refine mi_ild rfl mh_a1 (by omega) (by omega) (by decide) ?_
  refine go_a (pc' := 118) (ls' := [some (.ref h.length), some (.int (iI k)), some (.int (iI o)), some (.int (iI c)), some (.int (iI ((-1)))), none, none, none]) (st' := [.int (iI 32), .int (iI (A 1 o))]) rfl rfl ?_
  refine mi_lt (t := 145) rfl rfl (by omega) (by omega) (by omega) (by omega) (fun q => by omega) (fun _ => ?_)
  refine go_a (pc' := 122) (ls' := [some (.ref h.length), some (.int (iI k)), some (.int (iI o)), some (.int (iI c)), some (.int (iI ((-1)))), none, none, none]) (st' := [.ref h.length]) rfl rfl ?_
  refine go_get rfl mh_o rfl rfl ?_
  refine go_a (pc' := 126) (ls' := [some (.ref h.length), some (.int (iI k)), some (.int (iI o)), some (.int (iI c)), some (.int (iI ((-1)))), none, none, none]) (st' := [.int (iI o), .ref (h.length + 1)]) rfl rfl ?_
  refine mi_ild rfl mh_a1 (by omega) (by omega) (by decide) ?_
  refine go_a (pc' := 129) (ls' := [some (.ref h.length), some (.int (iI k)), some (.int (iI o)), some (.int (iI c)), some (.int (iI ((-1)))), none, none, none]) (st' := [.int (iI 36), .int (iI (A 1 o))]) rfl rfl ?_
  refine mi_gt (t := 145) rfl rfl (by omega) (by omega) (by omega) (by omega) (fun _ => ?_) (fun q => by omega)
  refine go_a (pc' := 146) (ls' := [some (.ref h.length), some (.int (iI k)), some (.int (iI o)), some (.int (iI c)), some (.int (iI ((-1)))), none, none, none]) (st' := [.int (iI ((-1)))]) rfl rfl ?_
  refine go_a (pc' := 148) (ls' := [some (.ref h.length), some (.int (iI k)), some (.int (iI o)), some (.int (iI c)), some (.int (iI ((-1)))), some (.int (iI ((-1)))), none, none]) (st' := []) rfl rfl ?_
  refine go_a (pc' := 149) (ls' := [some (.ref h.length), some (.int (iI k)), some (.int (iI o)), some (.int (iI c)), some (.int (iI ((-1)))), some (.int (iI ((-1)))), none, none]) (st' := [.ref h.length]) rfl rfl ?_
  refine go_get rfl mh_o rfl rfl ?_
  refine go_a (pc' := 153) (ls' := [some (.ref h.length), some (.int (iI k)), some (.int (iI o)), some (.int (iI c)), some (.int (iI ((-1)))), some (.int (iI ((-1)))), none, none]) (st' := [.int (iI o), .ref (h.length + 1)]) rfl rfl ?_
  refine mi_ild rfl mh_a1 (by omega) (by omega) (by decide) ?_
  refine go_a (pc' := 156) (ls' := [some (.ref h.length), some (.int (iI k)), some (.int (iI o)), some (.int (iI c)), some (.int (iI ((-1)))), some (.int (iI ((-1)))), none, none]) (st' := [.int (iI 35), .int (iI (A 1 o))]) rfl rfl ?_
  refine mi_eq (t := 170) rfl rfl (by omega) (by omega) (by omega) (by omega) (fun q => by omega) (fun _ => ?_)
  refine go_a (pc' := 160) (ls' := [some (.ref h.length), some (.int (iI k)), some (.int (iI o)), some (.int (iI c)), some (.int (iI ((-1)))), some (.int (iI ((-1)))), none, none]) (st' := [.ref h.length]) rfl rfl ?_
  refine go_get rfl mh_o rfl rfl ?_
  refine go_a (pc' := 164) (ls' := [some (.ref h.length), some (.int (iI k)), some (.int (iI o)), some (.int (iI c)), some (.int (iI ((-1)))), some (.int (iI ((-1)))), none, none]) (st' := [.int (iI o), .ref (h.length + 1)]) rfl rfl ?_
  refine mi_ild rfl mh_a1 (by omega) (by omega) (by decide) ?_
  refine go_a (pc' := 167) (ls' := [some (.ref h.length), some (.int (iI k)), some (.int (iI o)), some (.int (iI c)), some (.int (iI ((-1)))), some (.int (iI ((-1)))), none, none]) (st' := [.int (iI 36), .int (iI (A 1 o))]) rfl rfl ?_
  refine mi_ne (t := 183) rfl rfl (by omega) (by omega) (by omega) (by omega) (fun _ => ?_) (fun q => by omega)
  refine go_a (pc' := 184) (ls' := [some (.ref h.length), some (.int (iI k)), some (.int (iI o)), some (.int (iI c)), some (.int (iI ((-1)))), some (.int (iI ((-1)))), none, none]) (st' := [.int (iI ((-1)))]) rfl rfl ?_
  refine go_a (pc' := 186) (ls' := [some (.ref h.length), some (.int (iI k)), some (.int (iI o)), some (.int (iI c)), some (.int (iI ((-1)))), some (.int (iI ((-1)))), some (.int (iI ((-1)))), none]) (st' := []) rfl rfl ?_
  refine go_a (pc' := 187) (ls' := [some (.ref h.length), some (.int (iI k)), some (.int (iI o)), some (.int (iI c)), some (.int (iI ((-1)))), some (.int (iI ((-1)))), some (.int (iI ((-1)))), none]) (st' := [.ref h.length]) rfl rfl ?_
  refine go_get rfl mh_o rfl rfl ?_
  refine go_a (pc' := 191) (ls' := [some (.ref h.length), some (.int (iI k)), some (.int (iI o)), some (.int (iI c)), some (.int (iI ((-1)))), some (.int (iI ((-1)))), some (.int (iI ((-1)))), none]) (st' := [.int (iI o), .ref (h.length + 1)]) rfl rfl ?_
  refine mi_ild rfl mh_a1 (by omega) (by omega) (by decide) ?_
  refine mi_ts (c := 38) (t := 487) rfl ef rfl ?_
  refine go_a (pc' := 488) (ls' := [some (.ref h.length), some (.int (iI k)), some (.int (iI o)), some (.int (iI c)), some (.int (iI ((-1)))), some (.int (iI ((-1)))), some (.int (iI ((-1)))), none]) (st' := [.ref h.length]) rfl rfl ?_
  refine go_a (pc' := 489) (ls' := [some (.ref h.length), some (.int (iI k)), some (.int (iI o)), some (.int (iI c)), some (.int (iI ((-1)))), some (.int (iI ((-1)))), some (.int (iI ((-1)))), none]) (st' := [.ref h.length, .ref h.length]) rfl rfl ?_
  refine go_get rfl mh_o rfl rfl ?_
  refine go_a (pc' := 493) (ls' := [some (.ref h.length), some (.int (iI k)), some (.int (iI o)), some (.int (iI c)), some (.int (iI ((-1)))), some (.int (iI ((-1)))), some (.int (iI ((-1)))), none]) (st' := [.ref h.length, .ref (h.length + 26), .ref h.length]) rfl rfl ?_
  refine go_a (pc' := 494) (ls' := [some (.ref h.length), some (.int (iI k)), some (.int (iI o)), some (.int (iI c)), some (.int (iI ((-1)))), some (.int (iI ((-1)))), some (.int (iI ((-1)))), none]) (st' := [.ref h.length, .ref h.length, .ref (h.length + 26), .ref h.length]) rfl rfl ?_
  refine go_a (pc' := 495) (ls' := [some (.ref h.length), some (.int (iI k)), some (.int (iI o)), some (.int (iI c)), some (.int (iI ((-1)))), some (.int (iI ((-1)))), some (.int (iI ((-1)))), none]) (st' := [.int (iI o), .ref h.length, .ref h.length, .ref (h.length + 26), .ref h.length]) rfl rfl ?_
  refine go_a (pc' := 496) (ls' := [some (.ref h.length), some (.int (iI k)), some (.int (iI o)), some (.int (iI c)), some (.int (iI ((-1)))), some (.int (iI ((-1)))), some (.int (iI ((-1)))), none]) (st' := [.int (iI 1), .int (iI o), .ref h.length, .ref h.length, .ref (h.length + 26), .ref h.length]) rfl rfl ?_
  refine go_v (m := 99) (as := [.ref h.length, .int (iI o), .int (iI 1)]) (r := [.ref h.length, .ref (h.length + 26), .ref h.length]) rfl rfl rfl mh_o rfl rfl (mm_nth z (d + 9) 1 2 o h R J A N hc PJ (by decide) o0 (by omega) hL (by omega)) (fun v h1 hq => ?_)
  obtain ⟨rfl, rfl⟩ := hq
  show xx_go (xt_P z) (d + 10) 154 499 [some (.ref h.length), some (.int (iI k)), some (.int (iI o)), some (.int (iI c)), some (.int (iI ((-1)))), some (.int (iI ((-1)))), some (.int (iI ((-1)))), none] [.int (iI (A 1 (rt A 1 o))), .ref h.length, .ref (h.length + 26), .ref h.length] (mh h R J A N) _
  have J38 : J 38 = I 38 := by subst hJ; rfl
  refine go_v (m := 135) (as := [.ref h.length, .int (iI (A 1 (rt A 1 o)))]) (r := [.ref (h.length + 26), .ref h.length]) rfl rfl rfl mh_o rfl rfl (mm_theoremOfF z (d + 9) (A 1 (rt A 1 o)) h R J A N hc (by omega) (by omega) (by omega) (by omega) (fun e a b => (rd.2.2 e a (by omega)).1)) (fun v h1 hq => ?_)
  obtain ⟨⟨x, rfl, hx⟩, rfl⟩ := hq
  have xv : 0 ≤ x ∧ x < J 38 := by
    rcases hx with ⟨-, q⟩ | ⟨x0, x1, x2, x3⟩
    · exact absurd ed2 (q ed ed0 (by omega))
    · exact ⟨x0, x1⟩
  show xx_go (xt_P z) (d + 10) 154 502 [some (.ref h.length), some (.int (iI k)), some (.int (iI o)), some (.int (iI c)), some (.int (iI ((-1)))), some (.int (iI ((-1)))), some (.int (iI ((-1)))), none] [.int (iI x), .ref (h.length + 26), .ref h.length] (mh h R J A N) _
  have th := rd.2.2 x xv.1 (by omega)
  unfold THM at th
  have thb := th.2.2
  refine mi_ild rfl mh_a26 (by omega) (by omega) (by decide) ?_
  obtain ⟨t, ht⟩ : ∃ t : Int, A 26 x = t := ⟨_, rfl⟩
  rw [ht]
  rw [ht] at th thb
  have h_t0 : (0 ≤ t ∧ t < J 7) ∧ TZ A ar t = TZ A ar t := ⟨⟨th.2.1.1, by omega⟩, rfl⟩
  have s_t := thb.1
  show xx_go (xt_P z) (d + 10) 154 503 [some (.ref h.length), some (.int (iI k)), some (.int (iI o)), some (.int (iI c)), some (.int (iI ((-1)))), some (.int (iI ((-1)))), some (.int (iI ((-1)))), none] [.int (iI t), .ref h.length] (mh h R J A N) _
  refine go_v (m := 155) (as := [.ref h.length, .int (iI t)]) (r := []) rfl rfl rfl mh_o rfl rfl (mr_put z (d + 9) ar 0 0 _ t h R J A N hc R0.2.1 D0 (by omega) h_t0.1.1 h_t0.1.2 (by rw [h_t0.2]; exact s_t) (fun _ => thb.2)) (fun v h1 hq => ?_)
  obtain ⟨rfl, I1, A1, rfl, R1, D1, u1, e1⟩ := hq
  rw [h_t0.2] at D1
  have P1 := RU_P R1
  have X1 := RU_tr R0 R1 (Int.le_refl _)
  have h_t1 := RU_carry PJ R1 h_t0 s_t
  have y1 := X1.2.2.1
  have z1 : I1 7 ≤ 140000 := P1.1
  have x1 : I 7 ≤ I1 7 := X1.1.2.1
  have ex1 : A1 1 o = A 1 o := (X1.1.2.2.1 o o0 o1).1
  clear h_t0
  show xx_go (xt_P z) (d + 10) 154 506 [some (.ref h.length), some (.int (iI k)), some (.int (iI o)), some (.int (iI c)), some (.int (iI ((-1)))), some (.int (iI ((-1)))), some (.int (iI ((-1)))), none] [] (mh h R I1 A1 N) _
  refine go_a (pc' := 507) (ls' := [some (.ref h.length), some (.int (iI k)), some (.int (iI o)), some (.int (iI c)), some (.int (iI ((-1)))), some (.int (iI ((-1)))), some (.int (iI ((-1)))), none]) (st' := [.int (iI 1)]) rfl rfl ?_
  refine go_r rfl rfl rfl rfl rfl rfl ⟨1, I1, A1, N, rfl, rfl, RU_w X1 (by omega), Or.inr ⟨rfl, _, _, DR_w D1 (by omega) (Int.le_refl _) (Int.le_refl _), fun b9 b30 b400 => ?_⟩⟩
  have dm := D1.1
  have ds := D1.2.2.1
  have dv := D1.2.2.2
  have kk : KDR dd I1 A1 ar ≤ E + 128 * WD A o - I1 7 := KK_one (by omega) (by omega)
  omega
