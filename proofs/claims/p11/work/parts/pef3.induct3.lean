section INDK
variable {c : Nat} {hp h1 : xx_H} {s s1 : KS} {a b g : Int} {NM : BKM} {ft : Nat → Int}
theorem KST_TRTb {L : List Int} {t : ob_T} (P : KPS c hp s NM) (S : KST c hp s h1 s1 a b g) (e : s1.I 8 = s.I 8) (h : TRT s1.N (s1.I 8) ft L t) : TRT s.N (s.I 8) ft L t := (TRT_mono (by omega) (fun k k0 k1 => (KST_D P S ⟨k0, by omega⟩).symm) (fun _ _ => rfl) t).1 L h
theorem KST_VRGb {G : List Int} {Vs : List Nat} (P : KPS c hp s NM) (S : KST c hp s h1 s1 a b g) (e : s1.I 8 = s.I 8) (h : VRG s1.N (s1.I 8) G Vs) : VRG s.N (s.I 8) G Vs := VRG_mono (by omega) (fun k k0 k1 => (KST_D P S ⟨k0, by omega⟩).symm) G Vs h
theorem KST_TROb (P : KPS c hp s NM) (S : KST c hp s h1 s1 a b g) (e : s1.I 8 = s.I 8) : ∀ {Z : List (List Int)} {D : List ob_T}, TRO s1.N (s1.I 8) ft Z D → TRO s.N (s.I 8) ft Z D
  | [], [], _ => trivial
  | [], _ :: _, h => absurd h id
  | _ :: _, [], h => absurd h id
  | _ :: _, _ :: _, h => ⟨KST_TRTb P S e h.1, KST_TROb P S e h.2⟩
theorem KST_27 (S : KST c hp s h1 s1 a b g) : s1.I 27 = s.I 27 := S.2.2.2.1.2.2.1 27 (by decide) (by decide) (by decide) (by decide) (by decide) (by decide)
theorem RST_D {X : Int} {q : Nat} (P : KPS c hp s NM) (S : KST c hp s h1 s1 a b g) (ho : OB s X) (hL : isL (SD s) q X) (hq : 1 ≤ q) : DK s1.N (rst s1 X) = sp_cd (DK s.N X) := by
  obtain ⟨r, rfl⟩ : ∃ r : Nat, q = r + 1 := ⟨q - 1, by omega⟩
  have F := S.2.2.2.1
  have g3 := PFR_SD F ho.2
  have g4 := hL.1
  have g5 := F.2.2.2.1
  have g6 := ho.2
  have e1 := (fst_eq (s := s1) ho.1 (by omega) (by omega)).2
  have p := ST_p (KNT_ST P.2.2.2.2.2.2.2.2 P.2.2.1 P.2.1).1 ho.1 ho.2 hL.1
  rw [e1, g3.2, p.2, KST_D P S ⟨p.1.2.1, by omega⟩]
  rfl
theorem FB_nil (P : KPS c hp s NM) : sp_fb NM.2.2.2.1 (.var 31361) = none := by
  have ST := (KNT_ST P.2.2.2.2.2.2.2.2 P.2.2.1 P.2.1).1
  have u := ST.2.2.1
  have e : DK s.N 0 = .var 31361 := ST.2.2.2.1
  rw [← e]
  refine FB_none P ⟨by decide, by omega⟩ (fun i i0 i1 w => ?_)
  obtain ⟨a, m, g, n, f, cb, -, ⟨pq, ta, -, -, -, -, -, -, q, -⟩, -⟩ := P.2.2.2.2.1 i i0 i1
  omega
theorem fd_len {x n : Int} {X : ob_T} (P : KPS c hp s NM) (ho : OB s x) (ex : DK s.N x = sp_p 2 X) (hn : (n = -1 ∧ sp_pl (DK s.N x) = false) ∨ ∃ q : Nat, n = q ∧ isL (SD s) q x) (n0 : n ≤ 0) : ¬ sp_fd ft NM.2.2.2.1 X := by
  rintro ⟨-, fn, h1, h2, -⟩
  rcases hn with ⟨-, w⟩ | ⟨q, w, L⟩
  · rw [ex, h2] at w
    cases w
  · have q0 : q = 0 := by omega
    subst q0
    have e := (AS_len P ho L).2
    rw [ex] at e
    have e2 : sp_p 0 (sp_p 2 X) = .var 31361 := by
      show (sp_as (sp_p 2 X)).getD 0 _ = _
      rw [List.length_eq_zero_iff.mp e]
      rfl
    rw [e2, FB_nil P] at h1
    cases h1
end INDK
theorem kq_induct (z : Value) (d c : Nat) (o : Int) (q : Nat) (hp : xx_H) (s : KS) (NM : BKM) (hP : KPS c hp s NM) (ho : OB s o) (hL : isL (SD s) q o) (r2 : pi s 0 o ≠ 2) (w9 : WD (SD s) o ≤ 1000) (l25 : s.I 8 + WD (SD s) o ≤ 25000) (e fu : Int) (F : ob_T → Int → Option (List ob_T × Int)) (G : ob_T → Int → Int) (R : PRC z (d + 8) c (e + 1) NM fu F G) (hf : s.I 16 = fu) (M : Nat) (hq : q = M + 3) : xx_cl (xt_P z) (d + 9) 286 [.ref (c + 30), .int (iI o), .int (iI (M : Int)), .int (iI e)] hp (fun v h1 => PRP c hp s (WD (SD s) o) NM.2.2.1 (sp_ind NM.2.2.1 NM.2.2.2.1 F (DK s.N o) (s.I 17)) (sp_sg F G (ifc (sp_fd NM.2.2.1 NM.2.2.2.1 (DK s.N o)) ((sp_as (DK s.N o)).drop 3) []) (s.I 17)) v h1) := by
  have S0 := KST_rf hP
  have e0 : s.I 8 = s.I 8 := rfl
  have lu : s.I 8 ≤ 25000 := hP.2.2.2.2.2.2.2.1
  have u38 := KB_38 hP.2.1
  have J0 : s.I 17 = s.I 17 := rfl
  have fB := KNT_FTB hP.2.2.2.2.2.2.2.2
  have oR := OB_R hP.2.1 ho
  have W := PI_W hP.2.2.1 ho hL (by omega) r2
  have p0 : VD (SD s) (rt (SD s) 0 o) = WD (SD s) (pi s 0 o) + VD (SD s) (rt (SD s) 1 o) ∧ OB s (pi s 0 o) ∧ 1 ≤ WD (SD s) (pi s 0 o) ∧ 0 ≤ VD (SD s) (rt (SD s) 1 o) := PI_w hP.2.2.1 ho hL (j := 0) (by omega)
  have p1 : VD (SD s) (rt (SD s) 1 o) = WD (SD s) (pi s 1 o) + VD (SD s) (rt (SD s) 2 o) ∧ OB s (pi s 1 o) ∧ 1 ≤ WD (SD s) (pi s 1 o) ∧ 0 ≤ VD (SD s) (rt (SD s) 2 o) := PI_w hP.2.2.1 ho hL (j := 1) (by omega)
  have p2 : VD (SD s) (rt (SD s) 2 o) = WD (SD s) (pi s 2 o) + VD (SD s) (rt (SD s) 3 o) ∧ OB s (pi s 2 o) ∧ 1 ≤ WD (SD s) (pi s 2 o) ∧ 0 ≤ VD (SD s) (rt (SD s) 3 o) := PI_w hP.2.2.1 ho hL (j := 2) (by omega)
  obtain ⟨p0, o0, i0, j0⟩ := p0
  obtain ⟨p1, o1, i1, j1⟩ := p1
  obtain ⟨p2, o2, i2, j2⟩ := p2
  have mq := isL_VD (I := UI s) hP.2.2.1.1 (CI_n0 hP.2.2.1) q o ho.1 ho.2 hL
  have v0 : VD (SD s) (rt (SD s) 0 o) = VD (SD s) o := rfl
  have h12 := KST_12 S0
  have sR := OB_R hP.2.1 o2
  have D2 := PI_D hP ho hL (j := 2) (by omega)
  have lenX := (AS_len hP ho hL).2
  refine cl_go rfl ?_
  show xx_go (xt_P z) (d + 8) 286 0 [some (.ref (c + 30)), some (.int (iI o)), some (.int (iI ((M : Int)))), some (.int (iI e)), none, none, none, none, none, none, none, none] [] hp _
  refine go_a (pc' := 1) (ls' := [some (.ref (c + 30)), some (.int (iI o)), some (.int (iI ((M : Int)))), some (.int (iI e)), none, none, none, none, none, none, none, none]) (st' := [.ref (c + 30)]) rfl rfl ?_
  refine go_get (v := .ref (c + 25)) rfl (S0.1.1 19 (by decide)) rfl rfl ?_
  refine go_a (pc' := 5) (ls' := [some (.ref (c + 30)), some (.int (iI o)), some (.int (iI ((M : Int)))), some (.int (iI e)), none, none, none, none, none, none, none, none]) (st' := [.ref (c + 30), .ref (c + 25)]) rfl rfl ?_
  refine go_get (v := .ref (c + 4)) rfl (S0.1.1 19 (by decide)) rfl rfl ?_
  refine go_a (pc' := 9) (ls' := [some (.ref (c + 30)), some (.int (iI o)), some (.int (iI ((M : Int)))), some (.int (iI e)), none, none, none, none, none, none, none, none]) (st' := [.int (iI o), .ref (c + 4), .ref (c + 25)]) rfl rfl ?_
  refine go_a (pc' := 10) (ls' := [some (.ref (c + 30)), some (.int (iI o)), some (.int (iI ((M : Int)))), some (.int (iI e)), none, none, none, none, none, none, none, none]) (st' := [.int (iI 1), .int (iI o), .ref (c + 4), .ref (c + 25)]) rfl rfl ?_
  refine go_v (m := 202) (as := [.ref (c + 4), .int (iI o), .int (iI 1)]) (r := [.ref (c + 25)]) rfl rfl rfl (S0.1.1 3 (by decide)) rfl rfl (kq_part z (d + 6) S0 hP.2.2.1 ho hL (by omega) (by omega) (by omega)) (fun v1 h1 hq => ?_)
  obtain ⟨rfl, eq1⟩ := hq
  rw [eq1]
  clear eq1 h1
  show xx_go (xt_P z) (d + 8) 286 13 [some (.ref (c + 30)), some (.int (iI o)), some (.int (iI ((M : Int)))), some (.int (iI e)), none, none, none, none, none, none, none, none] [.int (iI (pi s 1 o)), .ref (c + 25)] hp _
  refine go_v (m := 211) (as := [.ref (c + 25), .int (iI (pi s 1 o))]) (r := []) rfl rfl rfl (S0.1.1 16 (by decide)) rfl rfl (kq_read z (d + 1) hP S0 e0 lu o1 (by omega)) (fun v2 h2 hq => ?_)
  obtain ⟨s2, E2, hv2⟩ := hq
  have S2 := KST_STE S0 E2
  have e2 := (STE_8 E2).trans e0
  have J2 := STE_17 E2 J0
  rcases hv2 with ⟨rfl, nu2⟩ | ⟨a2, n2, f2, rfl, l2, b2, T2, t2, et2, Ot2⟩
  · rw [PI_D hP ho hL (j := 1) (by omega)] at nu2
    show xx_go (xt_P z) (d + 8) 286 16 [some (.ref (c + 30)), some (.int (iI o)), some (.int (iI ((M : Int)))), some (.int (iI e)), none, none, none, none, none, none, none, none] [.null] h2 _
    have nf1 : ¬ sp_fd NM.2.2.1 NM.2.2.2.1 (DK s.N o) := fun w => w.1 nu2
    refine go_a (pc' := 18) (ls' := [some (.ref (c + 30)), some (.int (iI o)), some (.int (iI ((M : Int)))), some (.int (iI e)), some (.null), none, none, none, none, none, none, none]) (st' := []) rfl rfl ?_
    refine go_a (pc' := 19) (ls' := [some (.ref (c + 30)), some (.int (iI o)), some (.int (iI ((M : Int)))), some (.int (iI e)), some (.null), none, none, none, none, none, none, none]) (st' := [.ref (c + 30)]) rfl rfl ?_
    refine go_get (v := .ref (c + 4)) rfl (S2.1.1 19 (by decide)) rfl rfl ?_
    refine go_a (pc' := 23) (ls' := [some (.ref (c + 30)), some (.int (iI o)), some (.int (iI ((M : Int)))), some (.int (iI e)), some (.null), none, none, none, none, none, none, none]) (st' := [.int (iI o), .ref (c + 4)]) rfl rfl ?_
    refine go_a (pc' := 24) (ls' := [some (.ref (c + 30)), some (.int (iI o)), some (.int (iI ((M : Int)))), some (.int (iI e)), some (.null), none, none, none, none, none, none, none]) (st' := [.int (iI 2), .int (iI o), .ref (c + 4)]) rfl rfl ?_
    refine go_v (m := 202) (as := [.ref (c + 4), .int (iI o), .int (iI 2)]) (r := []) rfl rfl rfl (S2.1.1 3 (by decide)) rfl rfl (kq_part z (d + 6) S2 hP.2.2.1 ho hL (by omega) (by omega) (by omega)) (fun v3 h3 hq => ?_)
    obtain ⟨rfl, eq3⟩ := hq
    rw [eq3]
    clear eq3 h3
    show xx_go (xt_P z) (d + 8) 286 27 [some (.ref (c + 30)), some (.int (iI o)), some (.int (iI ((M : Int)))), some (.int (iI e)), some (.null), none, none, none, none, none, none, none] [.int (iI (pi s 2 o))] h2 _
    refine go_a (pc' := 29) (ls' := [some (.ref (c + 30)), some (.int (iI o)), some (.int (iI ((M : Int)))), some (.int (iI e)), some (.null), some (.int (iI (pi s 2 o))), none, none, none, none, none, none]) (st' := []) rfl rfl ?_
    refine go_a (pc' := 30) (ls' := [some (.ref (c + 30)), some (.int (iI o)), some (.int (iI ((M : Int)))), some (.int (iI e)), some (.null), some (.int (iI (pi s 2 o))), none, none, none, none, none, none]) (st' := [.ref (c + 30)]) rfl rfl ?_
    refine go_get (v := .ref (c + 4)) rfl (S2.1.1 19 (by decide)) rfl rfl ?_
    refine go_a (pc' := 35) (ls' := [some (.ref (c + 30)), some (.int (iI o)), some (.int (iI ((M : Int)))), some (.int (iI e)), some (.null), some (.int (iI (pi s 2 o))), none, none, none, none, none, none]) (st' := [.int (iI (pi s 2 o)), .ref (c + 4)]) rfl rfl ?_
    refine go_v (m := 198) (as := [.ref (c + 4), .int (iI (pi s 2 o))]) (r := []) rfl rfl rfl (S2.1.1 3 (by decide)) rfl rfl (kq_len z (d + 6) hP S2 o2) (fun v h3 hq => ?_)
    obtain ⟨⟨n9, rfl, nR, hn⟩, e9⟩ := hq
    rw [e9]
    clear e9 h3
    show xx_go (xt_P z) (d + 8) 286 38 [some (.ref (c + 30)), some (.int (iI o)), some (.int (iI ((M : Int)))), some (.int (iI e)), some (.null), some (.int (iI (pi s 2 o))), none, none, none, none, none, none] [.int (iI n9)] h2 _
    refine mi_le0 (t := 60) rfl rfl (by omega) (by omega) (fun w1 => ?_) (fun w1 => ?_)
    · clear hn
      refine go_a (pc' := 61) (ls' := [some (.ref (c + 30)), some (.int (iI o)), some (.int (iI ((M : Int)))), some (.int (iI e)), some (.null), some (.int (iI (pi s 2 o))), none, none, none, none, none, none]) (st' := [.null]) rfl rfl ?_
      show xx_go (xt_P z) (d + 8) 286 61 [some (.ref (c + 30)), some (.int (iI o)), some (.int (iI ((M : Int)))), some (.int (iI e)), some (.null), some (.int (iI (pi s 2 o))), none, none, none, none, none, none] [.null] h2 _
      refine go_a (pc' := 63) (ls' := [some (.ref (c + 30)), some (.int (iI o)), some (.int (iI ((M : Int)))), some (.int (iI e)), some (.null), some (.int (iI (pi s 2 o))), some (.null), none, none, none, none, none]) (st' := []) rfl rfl ?_
      refine go_a (pc' := 64) (ls' := [some (.ref (c + 30)), some (.int (iI o)), some (.int (iI ((M : Int)))), some (.int (iI e)), some (.null), some (.int (iI (pi s 2 o))), some (.null), none, none, none, none, none]) (st' := [.ref (c + 30)]) rfl rfl ?_
      refine go_get (v := .ref (c + 25)) rfl (S2.1.1 19 (by decide)) rfl rfl ?_
      refine go_a (pc' := 68) (ls' := [some (.ref (c + 30)), some (.int (iI o)), some (.int (iI ((M : Int)))), some (.int (iI e)), some (.null), some (.int (iI (pi s 2 o))), some (.null), none, none, none, none, none]) (st' := [.ref (c + 30), .ref (c + 25)]) rfl rfl ?_
      refine go_get (v := .ref (c + 4)) rfl (S2.1.1 19 (by decide)) rfl rfl ?_
      refine go_a (pc' := 73) (ls' := [some (.ref (c + 30)), some (.int (iI o)), some (.int (iI ((M : Int)))), some (.int (iI e)), some (.null), some (.int (iI (pi s 2 o))), some (.null), none, none, none, none, none]) (st' := [.int (iI (pi s 2 o)), .ref (c + 4), .ref (c + 25)]) rfl rfl ?_
      have rf := (fst_OB S2.2.2.1 S2.2.1 (pi s 2 o)).2
      refine go_v (m := 200) (as := [.ref (c + 4), .int (iI (pi s 2 o))]) (r := [.ref (c + 25)]) rfl rfl rfl (S2.1.1 3 (by decide)) rfl rfl (kc_rest z (d + 7) c (pi s 2 o) h2 s2 S2.1 S2.2.1 (by omega) (by omega)) (fun v4 h4 hq => ?_)
      obtain ⟨rfl, eq4⟩ := hq
      rw [eq4]
      clear eq4 h4
      show xx_go (xt_P z) (d + 8) 286 76 [some (.ref (c + 30)), some (.int (iI o)), some (.int (iI ((M : Int)))), some (.int (iI e)), some (.null), some (.int (iI (pi s 2 o))), some (.null), none, none, none, none, none] [.int (iI (rst s2 (pi s 2 o))), .ref (c + 25)] h2 _
      refine go_v (m := 203) (as := [.ref (c + 25), .int (iI (rst s2 (pi s 2 o)))]) (r := []) rfl rfl rfl (S2.1.1 16 (by decide)) rfl rfl (kg_variables z (d + 4) c (rst s2 (pi s 2 o)) (s.I 8) h2 s2 S2.1 S2.2.1 S2.2.2.1 rf (by omega) (by omega) (KNT_ST (KST_KNT hP S2) S2.2.2.1 S2.2.1).1) (fun v5 h5 hq => ?_)
      obtain ⟨K5, X5, hv⟩ := hq
      have E5 : STE c h2 s2 h5 s2 1 6 := ⟨K5, S2.2.1, TF_rf, X5⟩
      have S5 := KST_STE S2 E5
      rcases hv with ⟨rfl, nvs⟩ | ⟨q7, mq, gq, rfl, l7, A7, k7, m7, g7, vs7, tr7⟩
      · show xx_go (xt_P z) (d + 8) 286 79 [some (.ref (c + 30)), some (.int (iI o)), some (.int (iI ((M : Int)))), some (.int (iI e)), some (.null), some (.int (iI (pi s 2 o))), some (.null), none, none, none, none, none] [.null] h5 _
        refine go_a (pc' := 81) (ls' := [some (.ref (c + 30)), some (.int (iI o)), some (.int (iI ((M : Int)))), some (.int (iI e)), some (.null), some (.int (iI (pi s 2 o))), some (.null), some (.null), none, none, none, none]) (st' := []) rfl rfl ?_
        refine go_a (pc' := 83) (ls' := [some (.ref (c + 30)), some (.int (iI o)), some (.int (iI ((M : Int)))), some (.int (iI e)), some (.null), some (.int (iI (pi s 2 o))), some (.null), some (.null), none, none, none, none]) (st' := [.null]) rfl rfl ?_
        refine go_a (pc' := 133) (ls' := [some (.ref (c + 30)), some (.int (iI o)), some (.int (iI ((M : Int)))), some (.int (iI e)), some (.null), some (.int (iI (pi s 2 o))), some (.null), some (.null), none, none, none, none]) (st' := []) rfl rfl ?_
        refine go_a (pc' := 134) (ls' := [some (.ref (c + 30)), some (.int (iI o)), some (.int (iI ((M : Int)))), some (.int (iI e)), some (.null), some (.int (iI (pi s 2 o))), some (.null), some (.null), none, none, none, none]) (st' := [.ref (c + 30)]) rfl rfl ?_
        refine go_a (pc' := 135) (ls' := [some (.ref (c + 30)), some (.int (iI o)), some (.int (iI ((M : Int)))), some (.int (iI e)), some (.null), some (.int (iI (pi s 2 o))), some (.null), some (.null), none, none, none, none]) (st' := [.int (iI o), .ref (c + 30)]) rfl rfl ?_
        refine go_v (m := 248) (as := [.ref (c + 30), .int (iI o)]) (r := []) rfl rfl rfl (S5.1.1 19 (by decide)) rfl rfl (kq_failAtP z (d + 7) (w := WD (SD s) o) S5 (by omega) (by omega) (by omega) (by omega) (by omega) (ft := NM.2.2.1) (ρ := (sp_ind NM.2.2.1 NM.2.2.2.1 F (DK s.N o) (s.I 17))) (σ := (sp_sg F G (ifc (sp_fd NM.2.2.1 NM.2.2.2.1 (DK s.N o)) ((sp_as (DK s.N o)).drop 3) []) (s.I 17))) (sp_ind_n _ _ nf1) (by rw [ifc_neg nf1]; exact J2)) (fun v6 h6 hq => ?_)
        obtain ⟨rfl, R6⟩ := hq
        show xx_go (xt_P z) (d + 8) 286 138 [some (.ref (c + 30)), some (.int (iI o)), some (.int (iI ((M : Int)))), some (.int (iI e)), some (.null), some (.int (iI (pi s 2 o))), some (.null), some (.null), none, none, none, none] [.null] h6 _
        exact go_r rfl rfl rfl rfl rfl rfl R6
      · show xx_go (xt_P z) (d + 8) 286 79 [some (.ref (c + 30)), some (.int (iI o)), some (.int (iI ((M : Int)))), some (.int (iI e)), some (.null), some (.int (iI (pi s 2 o))), some (.null), none, none, none, none, none] [.ref q7] h5 _
        refine go_a (pc' := 81) (ls' := [some (.ref (c + 30)), some (.int (iI o)), some (.int (iI ((M : Int)))), some (.int (iI e)), some (.null), some (.int (iI (pi s 2 o))), some (.null), some (.ref q7), none, none, none, none]) (st' := []) rfl rfl ?_
        refine go_a (pc' := 83) (ls' := [some (.ref (c + 30)), some (.int (iI o)), some (.int (iI ((M : Int)))), some (.int (iI e)), some (.null), some (.int (iI (pi s 2 o))), some (.null), some (.ref q7), none, none, none, none]) (st' := [.null]) rfl rfl ?_
        refine go_a (pc' := 133) (ls' := [some (.ref (c + 30)), some (.int (iI o)), some (.int (iI ((M : Int)))), some (.int (iI e)), some (.null), some (.int (iI (pi s 2 o))), some (.null), some (.ref q7), none, none, none, none]) (st' := []) rfl rfl ?_
        refine go_a (pc' := 134) (ls' := [some (.ref (c + 30)), some (.int (iI o)), some (.int (iI ((M : Int)))), some (.int (iI e)), some (.null), some (.int (iI (pi s 2 o))), some (.null), some (.ref q7), none, none, none, none]) (st' := [.ref (c + 30)]) rfl rfl ?_
        refine go_a (pc' := 135) (ls' := [some (.ref (c + 30)), some (.int (iI o)), some (.int (iI ((M : Int)))), some (.int (iI e)), some (.null), some (.int (iI (pi s 2 o))), some (.null), some (.ref q7), none, none, none, none]) (st' := [.int (iI o), .ref (c + 30)]) rfl rfl ?_
        refine go_v (m := 248) (as := [.ref (c + 30), .int (iI o)]) (r := []) rfl rfl rfl (S5.1.1 19 (by decide)) rfl rfl (kq_failAtP z (d + 7) (w := WD (SD s) o) S5 (by omega) (by omega) (by omega) (by omega) (by omega) (ft := NM.2.2.1) (ρ := (sp_ind NM.2.2.1 NM.2.2.2.1 F (DK s.N o) (s.I 17))) (σ := (sp_sg F G (ifc (sp_fd NM.2.2.1 NM.2.2.2.1 (DK s.N o)) ((sp_as (DK s.N o)).drop 3) []) (s.I 17))) (sp_ind_n _ _ nf1) (by rw [ifc_neg nf1]; exact J2)) (fun v6 h6 hq => ?_)
        obtain ⟨rfl, R6⟩ := hq
        show xx_go (xt_P z) (d + 8) 286 138 [some (.ref (c + 30)), some (.int (iI o)), some (.int (iI ((M : Int)))), some (.int (iI e)), some (.null), some (.int (iI (pi s 2 o))), some (.null), some (.ref q7), none, none, none, none] [.null] h6 _
        exact go_r rfl rfl rfl rfl rfl rfl R6
    · obtain ⟨q9, en, hL2⟩ := hn.resolve_left (by omega)
      clear hn
      have i2 := PI_w hP.2.2.1 o2 hL2 (j := 0) (by omega)
      have D0 := PI_D hP o2 hL2 (j := 0) (by omega)
      rw [D2] at D0
      have k27 := KST_27 S2
      obtain ⟨bF, -, -, -⟩ := KST_BF hP S2 e2
      refine go_a (pc' := 42) (ls' := [some (.ref (c + 30)), some (.int (iI o)), some (.int (iI ((M : Int)))), some (.int (iI e)), some (.null), some (.int (iI (pi s 2 o))), none, none, none, none, none, none]) (st' := [.ref (c + 30)]) rfl rfl ?_
      refine go_get (v := .ref (c + 21)) rfl (S2.1.1 19 (by decide)) rfl rfl ?_
      refine go_a (pc' := 46) (ls' := [some (.ref (c + 30)), some (.int (iI o)), some (.int (iI ((M : Int)))), some (.int (iI e)), some (.null), some (.int (iI (pi s 2 o))), none, none, none, none, none, none]) (st' := [.ref (c + 30), .ref (c + 21)]) rfl rfl ?_
      refine go_get (v := .ref (c + 4)) rfl (S2.1.1 19 (by decide)) rfl rfl ?_
      refine go_a (pc' := 51) (ls' := [some (.ref (c + 30)), some (.int (iI o)), some (.int (iI ((M : Int)))), some (.int (iI e)), some (.null), some (.int (iI (pi s 2 o))), none, none, none, none, none, none]) (st' := [.int (iI (pi s 2 o)), .ref (c + 4), .ref (c + 21)]) rfl rfl ?_
      refine go_v (m := 197) (as := [.ref (c + 4), .int (iI (pi s 2 o))]) (r := [.ref (c + 21)]) rfl rfl rfl (S2.1.1 3 (by decide)) rfl rfl (kq_first z (d + 7) S2 hP.2.2.1 o2 hL2 (j := 0) (by omega)) (fun v4 h4 hq => ?_)
      obtain ⟨rfl, eq4⟩ := hq
      rw [eq4]
      clear eq4 h4
      show xx_go (xt_P z) (d + 8) 286 54 [some (.ref (c + 30)), some (.int (iI o)), some (.int (iI ((M : Int)))), some (.int (iI e)), some (.null), some (.int (iI (pi s 2 o))), none, none, none, none, none, none] [.int (iI (pi s 0 (pi s 2 o))), .ref (c + 21)] h2 _
      have fR := OB_R hP.2.1 i2.2.1
      refine go_v (m := 216) (as := [.ref (c + 21), .int (iI (pi s 0 (pi s 2 o)))]) (r := []) rfl rfl rfl (S2.1.1 12 (by decide)) rfl rfl (kf_function z (d + 4) c (pi s 0 (pi s 2 o)) h2 s2 S2.1 S2.2.1 (s.I 8) NM bF (by omega) fR.1 fR.2) (fun v5 h5 hq => ?_)
      obtain ⟨hq, eq5⟩ := hq
      rw [eq5]
      clear eq5 h5
      rcases hq with ⟨rfl, hno⟩ | ⟨fn, i, m, gp, n, f, cb, rfl, hi, F0⟩
      · show xx_go (xt_P z) (d + 8) 286 57 [some (.ref (c + 30)), some (.int (iI o)), some (.int (iI ((M : Int)))), some (.int (iI e)), some (.null), some (.int (iI (pi s 2 o))), none, none, none, none, none, none] [.null] h2 _
        refine go_a (pc' := 61) (ls' := [some (.ref (c + 30)), some (.int (iI o)), some (.int (iI ((M : Int)))), some (.int (iI e)), some (.null), some (.int (iI (pi s 2 o))), none, none, none, none, none, none]) (st' := [.null]) rfl rfl ?_
        show xx_go (xt_P z) (d + 8) 286 61 [some (.ref (c + 30)), some (.int (iI o)), some (.int (iI ((M : Int)))), some (.int (iI e)), some (.null), some (.int (iI (pi s 2 o))), none, none, none, none, none, none] [.null] h2 _
        refine go_a (pc' := 63) (ls' := [some (.ref (c + 30)), some (.int (iI o)), some (.int (iI ((M : Int)))), some (.int (iI e)), some (.null), some (.int (iI (pi s 2 o))), some (.null), none, none, none, none, none]) (st' := []) rfl rfl ?_
        refine go_a (pc' := 64) (ls' := [some (.ref (c + 30)), some (.int (iI o)), some (.int (iI ((M : Int)))), some (.int (iI e)), some (.null), some (.int (iI (pi s 2 o))), some (.null), none, none, none, none, none]) (st' := [.ref (c + 30)]) rfl rfl ?_
        refine go_get (v := .ref (c + 25)) rfl (S2.1.1 19 (by decide)) rfl rfl ?_
        refine go_a (pc' := 68) (ls' := [some (.ref (c + 30)), some (.int (iI o)), some (.int (iI ((M : Int)))), some (.int (iI e)), some (.null), some (.int (iI (pi s 2 o))), some (.null), none, none, none, none, none]) (st' := [.ref (c + 30), .ref (c + 25)]) rfl rfl ?_
        refine go_get (v := .ref (c + 4)) rfl (S2.1.1 19 (by decide)) rfl rfl ?_
        refine go_a (pc' := 73) (ls' := [some (.ref (c + 30)), some (.int (iI o)), some (.int (iI ((M : Int)))), some (.int (iI e)), some (.null), some (.int (iI (pi s 2 o))), some (.null), none, none, none, none, none]) (st' := [.int (iI (pi s 2 o)), .ref (c + 4), .ref (c + 25)]) rfl rfl ?_
        have rf := (fst_OB S2.2.2.1 S2.2.1 (pi s 2 o)).2
        refine go_v (m := 200) (as := [.ref (c + 4), .int (iI (pi s 2 o))]) (r := [.ref (c + 25)]) rfl rfl rfl (S2.1.1 3 (by decide)) rfl rfl (kc_rest z (d + 7) c (pi s 2 o) h2 s2 S2.1 S2.2.1 (by omega) (by omega)) (fun v6 h6 hq => ?_)
        obtain ⟨rfl, eq6⟩ := hq
        rw [eq6]
        clear eq6 h6
        show xx_go (xt_P z) (d + 8) 286 76 [some (.ref (c + 30)), some (.int (iI o)), some (.int (iI ((M : Int)))), some (.int (iI e)), some (.null), some (.int (iI (pi s 2 o))), some (.null), none, none, none, none, none] [.int (iI (rst s2 (pi s 2 o))), .ref (c + 25)] h2 _
        refine go_v (m := 203) (as := [.ref (c + 25), .int (iI (rst s2 (pi s 2 o)))]) (r := []) rfl rfl rfl (S2.1.1 16 (by decide)) rfl rfl (kg_variables z (d + 4) c (rst s2 (pi s 2 o)) (s.I 8) h2 s2 S2.1 S2.2.1 S2.2.2.1 rf (by omega) (by omega) (KNT_ST (KST_KNT hP S2) S2.2.2.1 S2.2.1).1) (fun v7 h7 hq => ?_)
        obtain ⟨K7, X7, hv⟩ := hq
        have E7 : STE c h2 s2 h7 s2 1 6 := ⟨K7, S2.2.1, TF_rf, X7⟩
        have S7 := KST_STE S2 E7
        rcases hv with ⟨rfl, nvs⟩ | ⟨q7, mq, gq, rfl, l7, A7, k7, m7, g7, vs7, tr7⟩
        · show xx_go (xt_P z) (d + 8) 286 79 [some (.ref (c + 30)), some (.int (iI o)), some (.int (iI ((M : Int)))), some (.int (iI e)), some (.null), some (.int (iI (pi s 2 o))), some (.null), none, none, none, none, none] [.null] h7 _
          refine go_a (pc' := 81) (ls' := [some (.ref (c + 30)), some (.int (iI o)), some (.int (iI ((M : Int)))), some (.int (iI e)), some (.null), some (.int (iI (pi s 2 o))), some (.null), some (.null), none, none, none, none]) (st' := []) rfl rfl ?_
          refine go_a (pc' := 83) (ls' := [some (.ref (c + 30)), some (.int (iI o)), some (.int (iI ((M : Int)))), some (.int (iI e)), some (.null), some (.int (iI (pi s 2 o))), some (.null), some (.null), none, none, none, none]) (st' := [.null]) rfl rfl ?_
          refine go_a (pc' := 133) (ls' := [some (.ref (c + 30)), some (.int (iI o)), some (.int (iI ((M : Int)))), some (.int (iI e)), some (.null), some (.int (iI (pi s 2 o))), some (.null), some (.null), none, none, none, none]) (st' := []) rfl rfl ?_
          refine go_a (pc' := 134) (ls' := [some (.ref (c + 30)), some (.int (iI o)), some (.int (iI ((M : Int)))), some (.int (iI e)), some (.null), some (.int (iI (pi s 2 o))), some (.null), some (.null), none, none, none, none]) (st' := [.ref (c + 30)]) rfl rfl ?_
          refine go_a (pc' := 135) (ls' := [some (.ref (c + 30)), some (.int (iI o)), some (.int (iI ((M : Int)))), some (.int (iI e)), some (.null), some (.int (iI (pi s 2 o))), some (.null), some (.null), none, none, none, none]) (st' := [.int (iI o), .ref (c + 30)]) rfl rfl ?_
          refine go_v (m := 248) (as := [.ref (c + 30), .int (iI o)]) (r := []) rfl rfl rfl (S7.1.1 19 (by decide)) rfl rfl (kq_failAtP z (d + 7) (w := WD (SD s) o) S7 (by omega) (by omega) (by omega) (by omega) (by omega) (ft := NM.2.2.1) (ρ := (sp_ind NM.2.2.1 NM.2.2.2.1 F (DK s.N o) (s.I 17))) (σ := (sp_sg F G (ifc (sp_fd NM.2.2.1 NM.2.2.2.1 (DK s.N o)) ((sp_as (DK s.N o)).drop 3) []) (s.I 17))) (sp_ind_n _ _ nf1) (by rw [ifc_neg nf1]; exact J2)) (fun v8 h8 hq => ?_)
          obtain ⟨rfl, R8⟩ := hq
          show xx_go (xt_P z) (d + 8) 286 138 [some (.ref (c + 30)), some (.int (iI o)), some (.int (iI ((M : Int)))), some (.int (iI e)), some (.null), some (.int (iI (pi s 2 o))), some (.null), some (.null), none, none, none, none] [.null] h8 _
          exact go_r rfl rfl rfl rfl rfl rfl R8
        · show xx_go (xt_P z) (d + 8) 286 79 [some (.ref (c + 30)), some (.int (iI o)), some (.int (iI ((M : Int)))), some (.int (iI e)), some (.null), some (.int (iI (pi s 2 o))), some (.null), none, none, none, none, none] [.ref q7] h7 _
          refine go_a (pc' := 81) (ls' := [some (.ref (c + 30)), some (.int (iI o)), some (.int (iI ((M : Int)))), some (.int (iI e)), some (.null), some (.int (iI (pi s 2 o))), some (.null), some (.ref q7), none, none, none, none]) (st' := []) rfl rfl ?_
          refine go_a (pc' := 83) (ls' := [some (.ref (c + 30)), some (.int (iI o)), some (.int (iI ((M : Int)))), some (.int (iI e)), some (.null), some (.int (iI (pi s 2 o))), some (.null), some (.ref q7), none, none, none, none]) (st' := [.null]) rfl rfl ?_
          refine go_a (pc' := 133) (ls' := [some (.ref (c + 30)), some (.int (iI o)), some (.int (iI ((M : Int)))), some (.int (iI e)), some (.null), some (.int (iI (pi s 2 o))), some (.null), some (.ref q7), none, none, none, none]) (st' := []) rfl rfl ?_
          refine go_a (pc' := 134) (ls' := [some (.ref (c + 30)), some (.int (iI o)), some (.int (iI ((M : Int)))), some (.int (iI e)), some (.null), some (.int (iI (pi s 2 o))), some (.null), some (.ref q7), none, none, none, none]) (st' := [.ref (c + 30)]) rfl rfl ?_
          refine go_a (pc' := 135) (ls' := [some (.ref (c + 30)), some (.int (iI o)), some (.int (iI ((M : Int)))), some (.int (iI e)), some (.null), some (.int (iI (pi s 2 o))), some (.null), some (.ref q7), none, none, none, none]) (st' := [.int (iI o), .ref (c + 30)]) rfl rfl ?_
          refine go_v (m := 248) (as := [.ref (c + 30), .int (iI o)]) (r := []) rfl rfl rfl (S7.1.1 19 (by decide)) rfl rfl (kq_failAtP z (d + 7) (w := WD (SD s) o) S7 (by omega) (by omega) (by omega) (by omega) (by omega) (ft := NM.2.2.1) (ρ := (sp_ind NM.2.2.1 NM.2.2.2.1 F (DK s.N o) (s.I 17))) (σ := (sp_sg F G (ifc (sp_fd NM.2.2.1 NM.2.2.2.1 (DK s.N o)) ((sp_as (DK s.N o)).drop 3) []) (s.I 17))) (sp_ind_n _ _ nf1) (by rw [ifc_neg nf1]; exact J2)) (fun v8 h8 hq => ?_)
          obtain ⟨rfl, R8⟩ := hq
          show xx_go (xt_P z) (d + 8) 286 138 [some (.ref (c + 30)), some (.int (iI o)), some (.int (iI ((M : Int)))), some (.int (iI e)), some (.null), some (.int (iI (pi s 2 o))), some (.null), some (.ref q7), none, none, none, none] [.null] h8 _
          exact go_r rfl rfl rfl rfl rfl rfl R8
      · show xx_go (xt_P z) (d + 8) 286 57 [some (.ref (c + 30)), some (.int (iI o)), some (.int (iI ((M : Int)))), some (.int (iI e)), some (.null), some (.int (iI (pi s 2 o))), none, none, none, none, none, none] [.ref fn] h2 _
        refine go_a (pc' := 61) (ls' := [some (.ref (c + 30)), some (.int (iI o)), some (.int (iI ((M : Int)))), some (.int (iI e)), some (.null), some (.int (iI (pi s 2 o))), none, none, none, none, none, none]) (st' := [.ref fn]) rfl rfl ?_
        show xx_go (xt_P z) (d + 8) 286 61 [some (.ref (c + 30)), some (.int (iI o)), some (.int (iI ((M : Int)))), some (.int (iI e)), some (.null), some (.int (iI (pi s 2 o))), none, none, none, none, none, none] [.ref fn] h2 _
        refine go_a (pc' := 63) (ls' := [some (.ref (c + 30)), some (.int (iI o)), some (.int (iI ((M : Int)))), some (.int (iI e)), some (.null), some (.int (iI (pi s 2 o))), some (.ref fn), none, none, none, none, none]) (st' := []) rfl rfl ?_
        refine go_a (pc' := 64) (ls' := [some (.ref (c + 30)), some (.int (iI o)), some (.int (iI ((M : Int)))), some (.int (iI e)), some (.null), some (.int (iI (pi s 2 o))), some (.ref fn), none, none, none, none, none]) (st' := [.ref (c + 30)]) rfl rfl ?_
        refine go_get (v := .ref (c + 25)) rfl (S2.1.1 19 (by decide)) rfl rfl ?_
        refine go_a (pc' := 68) (ls' := [some (.ref (c + 30)), some (.int (iI o)), some (.int (iI ((M : Int)))), some (.int (iI e)), some (.null), some (.int (iI (pi s 2 o))), some (.ref fn), none, none, none, none, none]) (st' := [.ref (c + 30), .ref (c + 25)]) rfl rfl ?_
        refine go_get (v := .ref (c + 4)) rfl (S2.1.1 19 (by decide)) rfl rfl ?_
        refine go_a (pc' := 73) (ls' := [some (.ref (c + 30)), some (.int (iI o)), some (.int (iI ((M : Int)))), some (.int (iI e)), some (.null), some (.int (iI (pi s 2 o))), some (.ref fn), none, none, none, none, none]) (st' := [.int (iI (pi s 2 o)), .ref (c + 4), .ref (c + 25)]) rfl rfl ?_
        have rf := (fst_OB S2.2.2.1 S2.2.1 (pi s 2 o)).2
        refine go_v (m := 200) (as := [.ref (c + 4), .int (iI (pi s 2 o))]) (r := [.ref (c + 25)]) rfl rfl rfl (S2.1.1 3 (by decide)) rfl rfl (kc_rest z (d + 7) c (pi s 2 o) h2 s2 S2.1 S2.2.1 (by omega) (by omega)) (fun v6 h6 hq => ?_)
        obtain ⟨rfl, eq6⟩ := hq
        rw [eq6]
        clear eq6 h6
        show xx_go (xt_P z) (d + 8) 286 76 [some (.ref (c + 30)), some (.int (iI o)), some (.int (iI ((M : Int)))), some (.int (iI e)), some (.null), some (.int (iI (pi s 2 o))), some (.ref fn), none, none, none, none, none] [.int (iI (rst s2 (pi s 2 o))), .ref (c + 25)] h2 _
        refine go_v (m := 203) (as := [.ref (c + 25), .int (iI (rst s2 (pi s 2 o)))]) (r := []) rfl rfl rfl (S2.1.1 16 (by decide)) rfl rfl (kg_variables z (d + 4) c (rst s2 (pi s 2 o)) (s.I 8) h2 s2 S2.1 S2.2.1 S2.2.2.1 rf (by omega) (by omega) (KNT_ST (KST_KNT hP S2) S2.2.2.1 S2.2.1).1) (fun v7 h7 hq => ?_)
        obtain ⟨K7, X7, hv⟩ := hq
        have E7 : STE c h2 s2 h7 s2 1 6 := ⟨K7, S2.2.1, TF_rf, X7⟩
        have S7 := KST_STE S2 E7
        have Ffn_7 := FTH_kx F0 X7 (Int.le_refl _)
        rcases hv with ⟨rfl, nvs⟩ | ⟨q7, mq, gq, rfl, l7, A7, k7, m7, g7, vs7, tr7⟩
        · show xx_go (xt_P z) (d + 8) 286 79 [some (.ref (c + 30)), some (.int (iI o)), some (.int (iI ((M : Int)))), some (.int (iI e)), some (.null), some (.int (iI (pi s 2 o))), some (.ref fn), none, none, none, none, none] [.null] h7 _
          refine go_a (pc' := 81) (ls' := [some (.ref (c + 30)), some (.int (iI o)), some (.int (iI ((M : Int)))), some (.int (iI e)), some (.null), some (.int (iI (pi s 2 o))), some (.ref fn), some (.null), none, none, none, none]) (st' := []) rfl rfl ?_
          refine go_a (pc' := 83) (ls' := [some (.ref (c + 30)), some (.int (iI o)), some (.int (iI ((M : Int)))), some (.int (iI e)), some (.null), some (.int (iI (pi s 2 o))), some (.ref fn), some (.null), none, none, none, none]) (st' := [.null]) rfl rfl ?_
          refine go_a (pc' := 133) (ls' := [some (.ref (c + 30)), some (.int (iI o)), some (.int (iI ((M : Int)))), some (.int (iI e)), some (.null), some (.int (iI (pi s 2 o))), some (.ref fn), some (.null), none, none, none, none]) (st' := []) rfl rfl ?_
          refine go_a (pc' := 134) (ls' := [some (.ref (c + 30)), some (.int (iI o)), some (.int (iI ((M : Int)))), some (.int (iI e)), some (.null), some (.int (iI (pi s 2 o))), some (.ref fn), some (.null), none, none, none, none]) (st' := [.ref (c + 30)]) rfl rfl ?_
          refine go_a (pc' := 135) (ls' := [some (.ref (c + 30)), some (.int (iI o)), some (.int (iI ((M : Int)))), some (.int (iI e)), some (.null), some (.int (iI (pi s 2 o))), some (.ref fn), some (.null), none, none, none, none]) (st' := [.int (iI o), .ref (c + 30)]) rfl rfl ?_
          refine go_v (m := 248) (as := [.ref (c + 30), .int (iI o)]) (r := []) rfl rfl rfl (S7.1.1 19 (by decide)) rfl rfl (kq_failAtP z (d + 7) (w := WD (SD s) o) S7 (by omega) (by omega) (by omega) (by omega) (by omega) (ft := NM.2.2.1) (ρ := (sp_ind NM.2.2.1 NM.2.2.2.1 F (DK s.N o) (s.I 17))) (σ := (sp_sg F G (ifc (sp_fd NM.2.2.1 NM.2.2.2.1 (DK s.N o)) ((sp_as (DK s.N o)).drop 3) []) (s.I 17))) (sp_ind_n _ _ nf1) (by rw [ifc_neg nf1]; exact J2)) (fun v8 h8 hq => ?_)
          obtain ⟨rfl, R8⟩ := hq
          show xx_go (xt_P z) (d + 8) 286 138 [some (.ref (c + 30)), some (.int (iI o)), some (.int (iI ((M : Int)))), some (.int (iI e)), some (.null), some (.int (iI (pi s 2 o))), some (.ref fn), some (.null), none, none, none, none] [.null] h8 _
          exact go_r rfl rfl rfl rfl rfl rfl R8
        · show xx_go (xt_P z) (d + 8) 286 79 [some (.ref (c + 30)), some (.int (iI o)), some (.int (iI ((M : Int)))), some (.int (iI e)), some (.null), some (.int (iI (pi s 2 o))), some (.ref fn), none, none, none, none, none] [.ref q7] h7 _
          refine go_a (pc' := 81) (ls' := [some (.ref (c + 30)), some (.int (iI o)), some (.int (iI ((M : Int)))), some (.int (iI e)), some (.null), some (.int (iI (pi s 2 o))), some (.ref fn), some (.ref q7), none, none, none, none]) (st' := []) rfl rfl ?_
          refine go_a (pc' := 83) (ls' := [some (.ref (c + 30)), some (.int (iI o)), some (.int (iI ((M : Int)))), some (.int (iI e)), some (.null), some (.int (iI (pi s 2 o))), some (.ref fn), some (.ref q7), none, none, none, none]) (st' := [.null]) rfl rfl ?_
          refine go_a (pc' := 133) (ls' := [some (.ref (c + 30)), some (.int (iI o)), some (.int (iI ((M : Int)))), some (.int (iI e)), some (.null), some (.int (iI (pi s 2 o))), some (.ref fn), some (.ref q7), none, none, none, none]) (st' := []) rfl rfl ?_
          refine go_a (pc' := 134) (ls' := [some (.ref (c + 30)), some (.int (iI o)), some (.int (iI ((M : Int)))), some (.int (iI e)), some (.null), some (.int (iI (pi s 2 o))), some (.ref fn), some (.ref q7), none, none, none, none]) (st' := [.ref (c + 30)]) rfl rfl ?_
          refine go_a (pc' := 135) (ls' := [some (.ref (c + 30)), some (.int (iI o)), some (.int (iI ((M : Int)))), some (.int (iI e)), some (.null), some (.int (iI (pi s 2 o))), some (.ref fn), some (.ref q7), none, none, none, none]) (st' := [.int (iI o), .ref (c + 30)]) rfl rfl ?_
          refine go_v (m := 248) (as := [.ref (c + 30), .int (iI o)]) (r := []) rfl rfl rfl (S7.1.1 19 (by decide)) rfl rfl (kq_failAtP z (d + 7) (w := WD (SD s) o) S7 (by omega) (by omega) (by omega) (by omega) (by omega) (ft := NM.2.2.1) (ρ := (sp_ind NM.2.2.1 NM.2.2.2.1 F (DK s.N o) (s.I 17))) (σ := (sp_sg F G (ifc (sp_fd NM.2.2.1 NM.2.2.2.1 (DK s.N o)) ((sp_as (DK s.N o)).drop 3) []) (s.I 17))) (sp_ind_n _ _ nf1) (by rw [ifc_neg nf1]; exact J2)) (fun v8 h8 hq => ?_)
          obtain ⟨rfl, R8⟩ := hq
          show xx_go (xt_P z) (d + 8) 286 138 [some (.ref (c + 30)), some (.int (iI o)), some (.int (iI ((M : Int)))), some (.int (iI e)), some (.null), some (.int (iI (pi s 2 o))), some (.ref fn), some (.ref q7), none, none, none, none] [.null] h8 _
          exact go_r rfl rfl rfl rfl rfl rfl R8
  · rw [PI_D hP ho hL (j := 1) (by omega)] at et2
    have Oa2 : OTR s2.N (s2.I 8) NM.2.2.1 (some (rl n2 f2)) (some t2) := Ot2
    have nn2 := TM_n T2
    show xx_go (xt_P z) (d + 8) 286 16 [some (.ref (c + 30)), some (.int (iI o)), some (.int (iI ((M : Int)))), some (.int (iI e)), none, none, none, none, none, none, none, none] [.ref a2] h2 _
    refine go_a (pc' := 18) (ls' := [some (.ref (c + 30)), some (.int (iI o)), some (.int (iI ((M : Int)))), some (.int (iI e)), some (.ref a2), none, none, none, none, none, none, none]) (st' := []) rfl rfl ?_
    refine go_a (pc' := 19) (ls' := [some (.ref (c + 30)), some (.int (iI o)), some (.int (iI ((M : Int)))), some (.int (iI e)), some (.ref a2), none, none, none, none, none, none, none]) (st' := [.ref (c + 30)]) rfl rfl ?_
    refine go_get (v := .ref (c + 4)) rfl (S2.1.1 19 (by decide)) rfl rfl ?_
    refine go_a (pc' := 23) (ls' := [some (.ref (c + 30)), some (.int (iI o)), some (.int (iI ((M : Int)))), some (.int (iI e)), some (.ref a2), none, none, none, none, none, none, none]) (st' := [.int (iI o), .ref (c + 4)]) rfl rfl ?_
    refine go_a (pc' := 24) (ls' := [some (.ref (c + 30)), some (.int (iI o)), some (.int (iI ((M : Int)))), some (.int (iI e)), some (.ref a2), none, none, none, none, none, none, none]) (st' := [.int (iI 2), .int (iI o), .ref (c + 4)]) rfl rfl ?_
    refine go_v (m := 202) (as := [.ref (c + 4), .int (iI o), .int (iI 2)]) (r := []) rfl rfl rfl (S2.1.1 3 (by decide)) rfl rfl (kq_part z (d + 6) S2 hP.2.2.1 ho hL (by omega) (by omega) (by omega)) (fun v3 h3 hq => ?_)
    obtain ⟨rfl, eq3⟩ := hq
    rw [eq3]
    clear eq3 h3
    show xx_go (xt_P z) (d + 8) 286 27 [some (.ref (c + 30)), some (.int (iI o)), some (.int (iI ((M : Int)))), some (.int (iI e)), some (.ref a2), none, none, none, none, none, none, none] [.int (iI (pi s 2 o))] h2 _
    refine go_a (pc' := 29) (ls' := [some (.ref (c + 30)), some (.int (iI o)), some (.int (iI ((M : Int)))), some (.int (iI e)), some (.ref a2), some (.int (iI (pi s 2 o))), none, none, none, none, none, none]) (st' := []) rfl rfl ?_
    refine go_a (pc' := 30) (ls' := [some (.ref (c + 30)), some (.int (iI o)), some (.int (iI ((M : Int)))), some (.int (iI e)), some (.ref a2), some (.int (iI (pi s 2 o))), none, none, none, none, none, none]) (st' := [.ref (c + 30)]) rfl rfl ?_
    refine go_get (v := .ref (c + 4)) rfl (S2.1.1 19 (by decide)) rfl rfl ?_
    refine go_a (pc' := 35) (ls' := [some (.ref (c + 30)), some (.int (iI o)), some (.int (iI ((M : Int)))), some (.int (iI e)), some (.ref a2), some (.int (iI (pi s 2 o))), none, none, none, none, none, none]) (st' := [.int (iI (pi s 2 o)), .ref (c + 4)]) rfl rfl ?_
    refine go_v (m := 198) (as := [.ref (c + 4), .int (iI (pi s 2 o))]) (r := []) rfl rfl rfl (S2.1.1 3 (by decide)) rfl rfl (kq_len z (d + 6) hP S2 o2) (fun v h3 hq => ?_)
    obtain ⟨⟨n9, rfl, nR, hn⟩, e9⟩ := hq
    rw [e9]
    clear e9 h3
    show xx_go (xt_P z) (d + 8) 286 38 [some (.ref (c + 30)), some (.int (iI o)), some (.int (iI ((M : Int)))), some (.int (iI e)), some (.ref a2), some (.int (iI (pi s 2 o))), none, none, none, none, none, none] [.int (iI n9)] h2 _
    refine mi_le0 (t := 60) rfl rfl (by omega) (by omega) (fun w1 => ?_) (fun w1 => ?_)
    · have nf2 : ¬ sp_fd NM.2.2.1 NM.2.2.2.1 (DK s.N o) := fd_len hP o2 D2 hn (by omega)
      clear hn
      refine go_a (pc' := 61) (ls' := [some (.ref (c + 30)), some (.int (iI o)), some (.int (iI ((M : Int)))), some (.int (iI e)), some (.ref a2), some (.int (iI (pi s 2 o))), none, none, none, none, none, none]) (st' := [.null]) rfl rfl ?_
      show xx_go (xt_P z) (d + 8) 286 61 [some (.ref (c + 30)), some (.int (iI o)), some (.int (iI ((M : Int)))), some (.int (iI e)), some (.ref a2), some (.int (iI (pi s 2 o))), none, none, none, none, none, none] [.null] h2 _
      refine go_a (pc' := 63) (ls' := [some (.ref (c + 30)), some (.int (iI o)), some (.int (iI ((M : Int)))), some (.int (iI e)), some (.ref a2), some (.int (iI (pi s 2 o))), some (.null), none, none, none, none, none]) (st' := []) rfl rfl ?_
      refine go_a (pc' := 64) (ls' := [some (.ref (c + 30)), some (.int (iI o)), some (.int (iI ((M : Int)))), some (.int (iI e)), some (.ref a2), some (.int (iI (pi s 2 o))), some (.null), none, none, none, none, none]) (st' := [.ref (c + 30)]) rfl rfl ?_
      refine go_get (v := .ref (c + 25)) rfl (S2.1.1 19 (by decide)) rfl rfl ?_
      refine go_a (pc' := 68) (ls' := [some (.ref (c + 30)), some (.int (iI o)), some (.int (iI ((M : Int)))), some (.int (iI e)), some (.ref a2), some (.int (iI (pi s 2 o))), some (.null), none, none, none, none, none]) (st' := [.ref (c + 30), .ref (c + 25)]) rfl rfl ?_
      refine go_get (v := .ref (c + 4)) rfl (S2.1.1 19 (by decide)) rfl rfl ?_
      refine go_a (pc' := 73) (ls' := [some (.ref (c + 30)), some (.int (iI o)), some (.int (iI ((M : Int)))), some (.int (iI e)), some (.ref a2), some (.int (iI (pi s 2 o))), some (.null), none, none, none, none, none]) (st' := [.int (iI (pi s 2 o)), .ref (c + 4), .ref (c + 25)]) rfl rfl ?_
      have rf := (fst_OB S2.2.2.1 S2.2.1 (pi s 2 o)).2
      refine go_v (m := 200) (as := [.ref (c + 4), .int (iI (pi s 2 o))]) (r := [.ref (c + 25)]) rfl rfl rfl (S2.1.1 3 (by decide)) rfl rfl (kc_rest z (d + 7) c (pi s 2 o) h2 s2 S2.1 S2.2.1 (by omega) (by omega)) (fun v4 h4 hq => ?_)
      obtain ⟨rfl, eq4⟩ := hq
      rw [eq4]
      clear eq4 h4
      show xx_go (xt_P z) (d + 8) 286 76 [some (.ref (c + 30)), some (.int (iI o)), some (.int (iI ((M : Int)))), some (.int (iI e)), some (.ref a2), some (.int (iI (pi s 2 o))), some (.null), none, none, none, none, none] [.int (iI (rst s2 (pi s 2 o))), .ref (c + 25)] h2 _
      refine go_v (m := 203) (as := [.ref (c + 25), .int (iI (rst s2 (pi s 2 o)))]) (r := []) rfl rfl rfl (S2.1.1 16 (by decide)) rfl rfl (kg_variables z (d + 4) c (rst s2 (pi s 2 o)) (s.I 8) h2 s2 S2.1 S2.2.1 S2.2.2.1 rf (by omega) (by omega) (KNT_ST (KST_KNT hP S2) S2.2.2.1 S2.2.1).1) (fun v5 h5 hq => ?_)
      obtain ⟨K5, X5, hv⟩ := hq
      have E5 : STE c h2 s2 h5 s2 1 6 := ⟨K5, S2.2.1, TF_rf, X5⟩
      have S5 := KST_STE S2 E5
      have Ta2_5 := TM_kx T2 X5
      rcases hv with ⟨rfl, nvs⟩ | ⟨q7, mq, gq, rfl, l7, A7, k7, m7, g7, vs7, tr7⟩
      · show xx_go (xt_P z) (d + 8) 286 79 [some (.ref (c + 30)), some (.int (iI o)), some (.int (iI ((M : Int)))), some (.int (iI e)), some (.ref a2), some (.int (iI (pi s 2 o))), some (.null), none, none, none, none, none] [.null] h5 _
        refine go_a (pc' := 81) (ls' := [some (.ref (c + 30)), some (.int (iI o)), some (.int (iI ((M : Int)))), some (.int (iI e)), some (.ref a2), some (.int (iI (pi s 2 o))), some (.null), some (.null), none, none, none, none]) (st' := []) rfl rfl ?_
        refine go_a (pc' := 83) (ls' := [some (.ref (c + 30)), some (.int (iI o)), some (.int (iI ((M : Int)))), some (.int (iI e)), some (.ref a2), some (.int (iI (pi s 2 o))), some (.null), some (.null), none, none, none, none]) (st' := [.ref a2]) rfl rfl ?_
        refine go_a (pc' := 86) (ls' := [some (.ref (c + 30)), some (.int (iI o)), some (.int (iI ((M : Int)))), some (.int (iI e)), some (.ref a2), some (.int (iI (pi s 2 o))), some (.null), some (.null), none, none, none, none]) (st' := []) rfl rfl ?_
        refine go_a (pc' := 88) (ls' := [some (.ref (c + 30)), some (.int (iI o)), some (.int (iI ((M : Int)))), some (.int (iI e)), some (.ref a2), some (.int (iI (pi s 2 o))), some (.null), some (.null), none, none, none, none]) (st' := [.null]) rfl rfl ?_
        refine go_a (pc' := 133) (ls' := [some (.ref (c + 30)), some (.int (iI o)), some (.int (iI ((M : Int)))), some (.int (iI e)), some (.ref a2), some (.int (iI (pi s 2 o))), some (.null), some (.null), none, none, none, none]) (st' := []) rfl rfl ?_
        refine go_a (pc' := 134) (ls' := [some (.ref (c + 30)), some (.int (iI o)), some (.int (iI ((M : Int)))), some (.int (iI e)), some (.ref a2), some (.int (iI (pi s 2 o))), some (.null), some (.null), none, none, none, none]) (st' := [.ref (c + 30)]) rfl rfl ?_
        refine go_a (pc' := 135) (ls' := [some (.ref (c + 30)), some (.int (iI o)), some (.int (iI ((M : Int)))), some (.int (iI e)), some (.ref a2), some (.int (iI (pi s 2 o))), some (.null), some (.null), none, none, none, none]) (st' := [.int (iI o), .ref (c + 30)]) rfl rfl ?_
        refine go_v (m := 248) (as := [.ref (c + 30), .int (iI o)]) (r := []) rfl rfl rfl (S5.1.1 19 (by decide)) rfl rfl (kq_failAtP z (d + 7) (w := WD (SD s) o) S5 (by omega) (by omega) (by omega) (by omega) (by omega) (ft := NM.2.2.1) (ρ := (sp_ind NM.2.2.1 NM.2.2.2.1 F (DK s.N o) (s.I 17))) (σ := (sp_sg F G (ifc (sp_fd NM.2.2.1 NM.2.2.2.1 (DK s.N o)) ((sp_as (DK s.N o)).drop 3) []) (s.I 17))) (sp_ind_n _ _ nf2) (by rw [ifc_neg nf2]; exact J2)) (fun v6 h6 hq => ?_)
        obtain ⟨rfl, R6⟩ := hq
        show xx_go (xt_P z) (d + 8) 286 138 [some (.ref (c + 30)), some (.int (iI o)), some (.int (iI ((M : Int)))), some (.int (iI e)), some (.ref a2), some (.int (iI (pi s 2 o))), some (.null), some (.null), none, none, none, none] [.null] h6 _
        exact go_r rfl rfl rfl rfl rfl rfl R6
      · show xx_go (xt_P z) (d + 8) 286 79 [some (.ref (c + 30)), some (.int (iI o)), some (.int (iI ((M : Int)))), some (.int (iI e)), some (.ref a2), some (.int (iI (pi s 2 o))), some (.null), none, none, none, none, none] [.ref q7] h5 _
        refine go_a (pc' := 81) (ls' := [some (.ref (c + 30)), some (.int (iI o)), some (.int (iI ((M : Int)))), some (.int (iI e)), some (.ref a2), some (.int (iI (pi s 2 o))), some (.null), some (.ref q7), none, none, none, none]) (st' := []) rfl rfl ?_
        refine go_a (pc' := 83) (ls' := [some (.ref (c + 30)), some (.int (iI o)), some (.int (iI ((M : Int)))), some (.int (iI e)), some (.ref a2), some (.int (iI (pi s 2 o))), some (.null), some (.ref q7), none, none, none, none]) (st' := [.ref a2]) rfl rfl ?_
        refine go_a (pc' := 86) (ls' := [some (.ref (c + 30)), some (.int (iI o)), some (.int (iI ((M : Int)))), some (.int (iI e)), some (.ref a2), some (.int (iI (pi s 2 o))), some (.null), some (.ref q7), none, none, none, none]) (st' := []) rfl rfl ?_
        refine go_a (pc' := 88) (ls' := [some (.ref (c + 30)), some (.int (iI o)), some (.int (iI ((M : Int)))), some (.int (iI e)), some (.ref a2), some (.int (iI (pi s 2 o))), some (.null), some (.ref q7), none, none, none, none]) (st' := [.null]) rfl rfl ?_
        refine go_a (pc' := 133) (ls' := [some (.ref (c + 30)), some (.int (iI o)), some (.int (iI ((M : Int)))), some (.int (iI e)), some (.ref a2), some (.int (iI (pi s 2 o))), some (.null), some (.ref q7), none, none, none, none]) (st' := []) rfl rfl ?_
        refine go_a (pc' := 134) (ls' := [some (.ref (c + 30)), some (.int (iI o)), some (.int (iI ((M : Int)))), some (.int (iI e)), some (.ref a2), some (.int (iI (pi s 2 o))), some (.null), some (.ref q7), none, none, none, none]) (st' := [.ref (c + 30)]) rfl rfl ?_
        refine go_a (pc' := 135) (ls' := [some (.ref (c + 30)), some (.int (iI o)), some (.int (iI ((M : Int)))), some (.int (iI e)), some (.ref a2), some (.int (iI (pi s 2 o))), some (.null), some (.ref q7), none, none, none, none]) (st' := [.int (iI o), .ref (c + 30)]) rfl rfl ?_
        refine go_v (m := 248) (as := [.ref (c + 30), .int (iI o)]) (r := []) rfl rfl rfl (S5.1.1 19 (by decide)) rfl rfl (kq_failAtP z (d + 7) (w := WD (SD s) o) S5 (by omega) (by omega) (by omega) (by omega) (by omega) (ft := NM.2.2.1) (ρ := (sp_ind NM.2.2.1 NM.2.2.2.1 F (DK s.N o) (s.I 17))) (σ := (sp_sg F G (ifc (sp_fd NM.2.2.1 NM.2.2.2.1 (DK s.N o)) ((sp_as (DK s.N o)).drop 3) []) (s.I 17))) (sp_ind_n _ _ nf2) (by rw [ifc_neg nf2]; exact J2)) (fun v6 h6 hq => ?_)
        obtain ⟨rfl, R6⟩ := hq
        show xx_go (xt_P z) (d + 8) 286 138 [some (.ref (c + 30)), some (.int (iI o)), some (.int (iI ((M : Int)))), some (.int (iI e)), some (.ref a2), some (.int (iI (pi s 2 o))), some (.null), some (.ref q7), none, none, none, none] [.null] h6 _
        exact go_r rfl rfl rfl rfl rfl rfl R6
    · obtain ⟨q9, en, hL2⟩ := hn.resolve_left (by omega)
      clear hn
      have i2 := PI_w hP.2.2.1 o2 hL2 (j := 0) (by omega)
      have D0 := PI_D hP o2 hL2 (j := 0) (by omega)
      rw [D2] at D0
      have k27 := KST_27 S2
      obtain ⟨bF, -, -, -⟩ := KST_BF hP S2 e2
      refine go_a (pc' := 42) (ls' := [some (.ref (c + 30)), some (.int (iI o)), some (.int (iI ((M : Int)))), some (.int (iI e)), some (.ref a2), some (.int (iI (pi s 2 o))), none, none, none, none, none, none]) (st' := [.ref (c + 30)]) rfl rfl ?_
      refine go_get (v := .ref (c + 21)) rfl (S2.1.1 19 (by decide)) rfl rfl ?_
      refine go_a (pc' := 46) (ls' := [some (.ref (c + 30)), some (.int (iI o)), some (.int (iI ((M : Int)))), some (.int (iI e)), some (.ref a2), some (.int (iI (pi s 2 o))), none, none, none, none, none, none]) (st' := [.ref (c + 30), .ref (c + 21)]) rfl rfl ?_
      refine go_get (v := .ref (c + 4)) rfl (S2.1.1 19 (by decide)) rfl rfl ?_
      refine go_a (pc' := 51) (ls' := [some (.ref (c + 30)), some (.int (iI o)), some (.int (iI ((M : Int)))), some (.int (iI e)), some (.ref a2), some (.int (iI (pi s 2 o))), none, none, none, none, none, none]) (st' := [.int (iI (pi s 2 o)), .ref (c + 4), .ref (c + 21)]) rfl rfl ?_
      refine go_v (m := 197) (as := [.ref (c + 4), .int (iI (pi s 2 o))]) (r := [.ref (c + 21)]) rfl rfl rfl (S2.1.1 3 (by decide)) rfl rfl (kq_first z (d + 7) S2 hP.2.2.1 o2 hL2 (j := 0) (by omega)) (fun v4 h4 hq => ?_)
      obtain ⟨rfl, eq4⟩ := hq
      rw [eq4]
      clear eq4 h4
      show xx_go (xt_P z) (d + 8) 286 54 [some (.ref (c + 30)), some (.int (iI o)), some (.int (iI ((M : Int)))), some (.int (iI e)), some (.ref a2), some (.int (iI (pi s 2 o))), none, none, none, none, none, none] [.int (iI (pi s 0 (pi s 2 o))), .ref (c + 21)] h2 _
      have fR := OB_R hP.2.1 i2.2.1
      refine go_v (m := 216) (as := [.ref (c + 21), .int (iI (pi s 0 (pi s 2 o)))]) (r := []) rfl rfl rfl (S2.1.1 12 (by decide)) rfl rfl (kf_function z (d + 4) c (pi s 0 (pi s 2 o)) h2 s2 S2.1 S2.2.1 (s.I 8) NM bF (by omega) fR.1 fR.2) (fun v5 h5 hq => ?_)
      obtain ⟨hq, eq5⟩ := hq
      rw [eq5]
      clear eq5 h5
      rcases hq with ⟨rfl, hno⟩ | ⟨fn, i, m, gp, n, f, cb, rfl, hi, F0⟩
      · have nf3 : ¬ sp_fd NM.2.2.1 NM.2.2.2.1 (DK s.N o) := by
          rintro ⟨-, fn9, w91, -⟩
          have fbn := FB_none hP i2.2.1 (fun i i0 i1 => hno i i0 (by omega))
          rw [D0, w91] at fbn
          cases fbn
        show xx_go (xt_P z) (d + 8) 286 57 [some (.ref (c + 30)), some (.int (iI o)), some (.int (iI ((M : Int)))), some (.int (iI e)), some (.ref a2), some (.int (iI (pi s 2 o))), none, none, none, none, none, none] [.null] h2 _
        refine go_a (pc' := 61) (ls' := [some (.ref (c + 30)), some (.int (iI o)), some (.int (iI ((M : Int)))), some (.int (iI e)), some (.ref a2), some (.int (iI (pi s 2 o))), none, none, none, none, none, none]) (st' := [.null]) rfl rfl ?_
        show xx_go (xt_P z) (d + 8) 286 61 [some (.ref (c + 30)), some (.int (iI o)), some (.int (iI ((M : Int)))), some (.int (iI e)), some (.ref a2), some (.int (iI (pi s 2 o))), none, none, none, none, none, none] [.null] h2 _
        refine go_a (pc' := 63) (ls' := [some (.ref (c + 30)), some (.int (iI o)), some (.int (iI ((M : Int)))), some (.int (iI e)), some (.ref a2), some (.int (iI (pi s 2 o))), some (.null), none, none, none, none, none]) (st' := []) rfl rfl ?_
        refine go_a (pc' := 64) (ls' := [some (.ref (c + 30)), some (.int (iI o)), some (.int (iI ((M : Int)))), some (.int (iI e)), some (.ref a2), some (.int (iI (pi s 2 o))), some (.null), none, none, none, none, none]) (st' := [.ref (c + 30)]) rfl rfl ?_
        refine go_get (v := .ref (c + 25)) rfl (S2.1.1 19 (by decide)) rfl rfl ?_
        refine go_a (pc' := 68) (ls' := [some (.ref (c + 30)), some (.int (iI o)), some (.int (iI ((M : Int)))), some (.int (iI e)), some (.ref a2), some (.int (iI (pi s 2 o))), some (.null), none, none, none, none, none]) (st' := [.ref (c + 30), .ref (c + 25)]) rfl rfl ?_
        refine go_get (v := .ref (c + 4)) rfl (S2.1.1 19 (by decide)) rfl rfl ?_
        refine go_a (pc' := 73) (ls' := [some (.ref (c + 30)), some (.int (iI o)), some (.int (iI ((M : Int)))), some (.int (iI e)), some (.ref a2), some (.int (iI (pi s 2 o))), some (.null), none, none, none, none, none]) (st' := [.int (iI (pi s 2 o)), .ref (c + 4), .ref (c + 25)]) rfl rfl ?_
        have rf := (fst_OB S2.2.2.1 S2.2.1 (pi s 2 o)).2
        refine go_v (m := 200) (as := [.ref (c + 4), .int (iI (pi s 2 o))]) (r := [.ref (c + 25)]) rfl rfl rfl (S2.1.1 3 (by decide)) rfl rfl (kc_rest z (d + 7) c (pi s 2 o) h2 s2 S2.1 S2.2.1 (by omega) (by omega)) (fun v6 h6 hq => ?_)
        obtain ⟨rfl, eq6⟩ := hq
        rw [eq6]
        clear eq6 h6
        show xx_go (xt_P z) (d + 8) 286 76 [some (.ref (c + 30)), some (.int (iI o)), some (.int (iI ((M : Int)))), some (.int (iI e)), some (.ref a2), some (.int (iI (pi s 2 o))), some (.null), none, none, none, none, none] [.int (iI (rst s2 (pi s 2 o))), .ref (c + 25)] h2 _
        refine go_v (m := 203) (as := [.ref (c + 25), .int (iI (rst s2 (pi s 2 o)))]) (r := []) rfl rfl rfl (S2.1.1 16 (by decide)) rfl rfl (kg_variables z (d + 4) c (rst s2 (pi s 2 o)) (s.I 8) h2 s2 S2.1 S2.2.1 S2.2.2.1 rf (by omega) (by omega) (KNT_ST (KST_KNT hP S2) S2.2.2.1 S2.2.1).1) (fun v7 h7 hq => ?_)
        obtain ⟨K7, X7, hv⟩ := hq
        have E7 : STE c h2 s2 h7 s2 1 6 := ⟨K7, S2.2.1, TF_rf, X7⟩
        have S7 := KST_STE S2 E7
        have Ta2_7 := TM_kx T2 X7
        rcases hv with ⟨rfl, nvs⟩ | ⟨q7, mq, gq, rfl, l7, A7, k7, m7, g7, vs7, tr7⟩
        · show xx_go (xt_P z) (d + 8) 286 79 [some (.ref (c + 30)), some (.int (iI o)), some (.int (iI ((M : Int)))), some (.int (iI e)), some (.ref a2), some (.int (iI (pi s 2 o))), some (.null), none, none, none, none, none] [.null] h7 _
          refine go_a (pc' := 81) (ls' := [some (.ref (c + 30)), some (.int (iI o)), some (.int (iI ((M : Int)))), some (.int (iI e)), some (.ref a2), some (.int (iI (pi s 2 o))), some (.null), some (.null), none, none, none, none]) (st' := []) rfl rfl ?_
          refine go_a (pc' := 83) (ls' := [some (.ref (c + 30)), some (.int (iI o)), some (.int (iI ((M : Int)))), some (.int (iI e)), some (.ref a2), some (.int (iI (pi s 2 o))), some (.null), some (.null), none, none, none, none]) (st' := [.ref a2]) rfl rfl ?_
          refine go_a (pc' := 86) (ls' := [some (.ref (c + 30)), some (.int (iI o)), some (.int (iI ((M : Int)))), some (.int (iI e)), some (.ref a2), some (.int (iI (pi s 2 o))), some (.null), some (.null), none, none, none, none]) (st' := []) rfl rfl ?_
          refine go_a (pc' := 88) (ls' := [some (.ref (c + 30)), some (.int (iI o)), some (.int (iI ((M : Int)))), some (.int (iI e)), some (.ref a2), some (.int (iI (pi s 2 o))), some (.null), some (.null), none, none, none, none]) (st' := [.null]) rfl rfl ?_
          refine go_a (pc' := 133) (ls' := [some (.ref (c + 30)), some (.int (iI o)), some (.int (iI ((M : Int)))), some (.int (iI e)), some (.ref a2), some (.int (iI (pi s 2 o))), some (.null), some (.null), none, none, none, none]) (st' := []) rfl rfl ?_
          refine go_a (pc' := 134) (ls' := [some (.ref (c + 30)), some (.int (iI o)), some (.int (iI ((M : Int)))), some (.int (iI e)), some (.ref a2), some (.int (iI (pi s 2 o))), some (.null), some (.null), none, none, none, none]) (st' := [.ref (c + 30)]) rfl rfl ?_
          refine go_a (pc' := 135) (ls' := [some (.ref (c + 30)), some (.int (iI o)), some (.int (iI ((M : Int)))), some (.int (iI e)), some (.ref a2), some (.int (iI (pi s 2 o))), some (.null), some (.null), none, none, none, none]) (st' := [.int (iI o), .ref (c + 30)]) rfl rfl ?_
          refine go_v (m := 248) (as := [.ref (c + 30), .int (iI o)]) (r := []) rfl rfl rfl (S7.1.1 19 (by decide)) rfl rfl (kq_failAtP z (d + 7) (w := WD (SD s) o) S7 (by omega) (by omega) (by omega) (by omega) (by omega) (ft := NM.2.2.1) (ρ := (sp_ind NM.2.2.1 NM.2.2.2.1 F (DK s.N o) (s.I 17))) (σ := (sp_sg F G (ifc (sp_fd NM.2.2.1 NM.2.2.2.1 (DK s.N o)) ((sp_as (DK s.N o)).drop 3) []) (s.I 17))) (sp_ind_n _ _ nf3) (by rw [ifc_neg nf3]; exact J2)) (fun v8 h8 hq => ?_)
          obtain ⟨rfl, R8⟩ := hq
          show xx_go (xt_P z) (d + 8) 286 138 [some (.ref (c + 30)), some (.int (iI o)), some (.int (iI ((M : Int)))), some (.int (iI e)), some (.ref a2), some (.int (iI (pi s 2 o))), some (.null), some (.null), none, none, none, none] [.null] h8 _
          exact go_r rfl rfl rfl rfl rfl rfl R8
        · show xx_go (xt_P z) (d + 8) 286 79 [some (.ref (c + 30)), some (.int (iI o)), some (.int (iI ((M : Int)))), some (.int (iI e)), some (.ref a2), some (.int (iI (pi s 2 o))), some (.null), none, none, none, none, none] [.ref q7] h7 _
          refine go_a (pc' := 81) (ls' := [some (.ref (c + 30)), some (.int (iI o)), some (.int (iI ((M : Int)))), some (.int (iI e)), some (.ref a2), some (.int (iI (pi s 2 o))), some (.null), some (.ref q7), none, none, none, none]) (st' := []) rfl rfl ?_
          refine go_a (pc' := 83) (ls' := [some (.ref (c + 30)), some (.int (iI o)), some (.int (iI ((M : Int)))), some (.int (iI e)), some (.ref a2), some (.int (iI (pi s 2 o))), some (.null), some (.ref q7), none, none, none, none]) (st' := [.ref a2]) rfl rfl ?_
          refine go_a (pc' := 86) (ls' := [some (.ref (c + 30)), some (.int (iI o)), some (.int (iI ((M : Int)))), some (.int (iI e)), some (.ref a2), some (.int (iI (pi s 2 o))), some (.null), some (.ref q7), none, none, none, none]) (st' := []) rfl rfl ?_
          refine go_a (pc' := 88) (ls' := [some (.ref (c + 30)), some (.int (iI o)), some (.int (iI ((M : Int)))), some (.int (iI e)), some (.ref a2), some (.int (iI (pi s 2 o))), some (.null), some (.ref q7), none, none, none, none]) (st' := [.null]) rfl rfl ?_
          refine go_a (pc' := 133) (ls' := [some (.ref (c + 30)), some (.int (iI o)), some (.int (iI ((M : Int)))), some (.int (iI e)), some (.ref a2), some (.int (iI (pi s 2 o))), some (.null), some (.ref q7), none, none, none, none]) (st' := []) rfl rfl ?_
          refine go_a (pc' := 134) (ls' := [some (.ref (c + 30)), some (.int (iI o)), some (.int (iI ((M : Int)))), some (.int (iI e)), some (.ref a2), some (.int (iI (pi s 2 o))), some (.null), some (.ref q7), none, none, none, none]) (st' := [.ref (c + 30)]) rfl rfl ?_
          refine go_a (pc' := 135) (ls' := [some (.ref (c + 30)), some (.int (iI o)), some (.int (iI ((M : Int)))), some (.int (iI e)), some (.ref a2), some (.int (iI (pi s 2 o))), some (.null), some (.ref q7), none, none, none, none]) (st' := [.int (iI o), .ref (c + 30)]) rfl rfl ?_
          refine go_v (m := 248) (as := [.ref (c + 30), .int (iI o)]) (r := []) rfl rfl rfl (S7.1.1 19 (by decide)) rfl rfl (kq_failAtP z (d + 7) (w := WD (SD s) o) S7 (by omega) (by omega) (by omega) (by omega) (by omega) (ft := NM.2.2.1) (ρ := (sp_ind NM.2.2.1 NM.2.2.2.1 F (DK s.N o) (s.I 17))) (σ := (sp_sg F G (ifc (sp_fd NM.2.2.1 NM.2.2.2.1 (DK s.N o)) ((sp_as (DK s.N o)).drop 3) []) (s.I 17))) (sp_ind_n _ _ nf3) (by rw [ifc_neg nf3]; exact J2)) (fun v8 h8 hq => ?_)
          obtain ⟨rfl, R8⟩ := hq
          show xx_go (xt_P z) (d + 8) 286 138 [some (.ref (c + 30)), some (.int (iI o)), some (.int (iI ((M : Int)))), some (.int (iI e)), some (.ref a2), some (.int (iI (pi s 2 o))), some (.null), some (.ref q7), none, none, none, none] [.null] h8 _
          exact go_r rfl rfl rfl rfl rfl rfl R8
      · obtain ⟨-, -, -, -, -, -, -, d6, d7, -⟩ := id F0
        obtain ⟨vn, ps, Bt, fbS, fb2, fb3, fb4, fb5⟩ := FB_some hP hi.1 (by have := hi.2.1; omega) hi.2.2.1 hi.2.2.2 d6 d7.1
        rw [D0] at fbS
        show xx_go (xt_P z) (d + 8) 286 57 [some (.ref (c + 30)), some (.int (iI o)), some (.int (iI ((M : Int)))), some (.int (iI e)), some (.ref a2), some (.int (iI (pi s 2 o))), none, none, none, none, none, none] [.ref fn] h2 _
        refine go_a (pc' := 61) (ls' := [some (.ref (c + 30)), some (.int (iI o)), some (.int (iI ((M : Int)))), some (.int (iI e)), some (.ref a2), some (.int (iI (pi s 2 o))), none, none, none, none, none, none]) (st' := [.ref fn]) rfl rfl ?_
        show xx_go (xt_P z) (d + 8) 286 61 [some (.ref (c + 30)), some (.int (iI o)), some (.int (iI ((M : Int)))), some (.int (iI e)), some (.ref a2), some (.int (iI (pi s 2 o))), none, none, none, none, none, none] [.ref fn] h2 _
        refine go_a (pc' := 63) (ls' := [some (.ref (c + 30)), some (.int (iI o)), some (.int (iI ((M : Int)))), some (.int (iI e)), some (.ref a2), some (.int (iI (pi s 2 o))), some (.ref fn), none, none, none, none, none]) (st' := []) rfl rfl ?_
        refine go_a (pc' := 64) (ls' := [some (.ref (c + 30)), some (.int (iI o)), some (.int (iI ((M : Int)))), some (.int (iI e)), some (.ref a2), some (.int (iI (pi s 2 o))), some (.ref fn), none, none, none, none, none]) (st' := [.ref (c + 30)]) rfl rfl ?_
        refine go_get (v := .ref (c + 25)) rfl (S2.1.1 19 (by decide)) rfl rfl ?_
        refine go_a (pc' := 68) (ls' := [some (.ref (c + 30)), some (.int (iI o)), some (.int (iI ((M : Int)))), some (.int (iI e)), some (.ref a2), some (.int (iI (pi s 2 o))), some (.ref fn), none, none, none, none, none]) (st' := [.ref (c + 30), .ref (c + 25)]) rfl rfl ?_
        refine go_get (v := .ref (c + 4)) rfl (S2.1.1 19 (by decide)) rfl rfl ?_
        refine go_a (pc' := 73) (ls' := [some (.ref (c + 30)), some (.int (iI o)), some (.int (iI ((M : Int)))), some (.int (iI e)), some (.ref a2), some (.int (iI (pi s 2 o))), some (.ref fn), none, none, none, none, none]) (st' := [.int (iI (pi s 2 o)), .ref (c + 4), .ref (c + 25)]) rfl rfl ?_
        have rf := (fst_OB S2.2.2.1 S2.2.1 (pi s 2 o)).2
        refine go_v (m := 200) (as := [.ref (c + 4), .int (iI (pi s 2 o))]) (r := [.ref (c + 25)]) rfl rfl rfl (S2.1.1 3 (by decide)) rfl rfl (kc_rest z (d + 7) c (pi s 2 o) h2 s2 S2.1 S2.2.1 (by omega) (by omega)) (fun v6 h6 hq => ?_)
        obtain ⟨rfl, eq6⟩ := hq
        rw [eq6]
        clear eq6 h6
        show xx_go (xt_P z) (d + 8) 286 76 [some (.ref (c + 30)), some (.int (iI o)), some (.int (iI ((M : Int)))), some (.int (iI e)), some (.ref a2), some (.int (iI (pi s 2 o))), some (.ref fn), none, none, none, none, none] [.int (iI (rst s2 (pi s 2 o))), .ref (c + 25)] h2 _
        have RD := RST_D hP S2 o2 hL2 (by omega)
        rw [D2] at RD
        refine go_v (m := 203) (as := [.ref (c + 25), .int (iI (rst s2 (pi s 2 o)))]) (r := []) rfl rfl rfl (S2.1.1 16 (by decide)) rfl rfl (kg_variables z (d + 4) c (rst s2 (pi s 2 o)) (s.I 8) h2 s2 S2.1 S2.2.1 S2.2.2.1 rf (by omega) (by omega) (KNT_ST (KST_KNT hP S2) S2.2.2.1 S2.2.1).1) (fun v7 h7 hq => ?_)
        obtain ⟨K7, X7, hv⟩ := hq
        have E7 : STE c h2 s2 h7 s2 1 6 := ⟨K7, S2.2.1, TF_rf, X7⟩
        have S7 := KST_STE S2 E7
        have Ta2_7 := TM_kx T2 X7
        have Ffn_7 := FTH_kx F0 X7 (Int.le_refl _)
        rcases hv with ⟨rfl, nvs⟩ | ⟨q7, mq, gq, rfl, l7, A7, k7, m7, g7, vs7, tr7⟩
        · rw [RD] at nvs
          have nf4 : ¬ sp_fd NM.2.2.1 NM.2.2.2.1 (DK s.N o) := by
            rintro ⟨-, fn9, -, -, w93, -⟩
            exact nvs w93
          show xx_go (xt_P z) (d + 8) 286 79 [some (.ref (c + 30)), some (.int (iI o)), some (.int (iI ((M : Int)))), some (.int (iI e)), some (.ref a2), some (.int (iI (pi s 2 o))), some (.ref fn), none, none, none, none, none] [.null] h7 _
          refine go_a (pc' := 81) (ls' := [some (.ref (c + 30)), some (.int (iI o)), some (.int (iI ((M : Int)))), some (.int (iI e)), some (.ref a2), some (.int (iI (pi s 2 o))), some (.ref fn), some (.null), none, none, none, none]) (st' := []) rfl rfl ?_
          refine go_a (pc' := 83) (ls' := [some (.ref (c + 30)), some (.int (iI o)), some (.int (iI ((M : Int)))), some (.int (iI e)), some (.ref a2), some (.int (iI (pi s 2 o))), some (.ref fn), some (.null), none, none, none, none]) (st' := [.ref a2]) rfl rfl ?_
          refine go_a (pc' := 86) (ls' := [some (.ref (c + 30)), some (.int (iI o)), some (.int (iI ((M : Int)))), some (.int (iI e)), some (.ref a2), some (.int (iI (pi s 2 o))), some (.ref fn), some (.null), none, none, none, none]) (st' := []) rfl rfl ?_
          refine go_a (pc' := 88) (ls' := [some (.ref (c + 30)), some (.int (iI o)), some (.int (iI ((M : Int)))), some (.int (iI e)), some (.ref a2), some (.int (iI (pi s 2 o))), some (.ref fn), some (.null), none, none, none, none]) (st' := [.ref fn]) rfl rfl ?_
          refine go_a (pc' := 91) (ls' := [some (.ref (c + 30)), some (.int (iI o)), some (.int (iI ((M : Int)))), some (.int (iI e)), some (.ref a2), some (.int (iI (pi s 2 o))), some (.ref fn), some (.null), none, none, none, none]) (st' := []) rfl rfl ?_
          refine go_a (pc' := 93) (ls' := [some (.ref (c + 30)), some (.int (iI o)), some (.int (iI ((M : Int)))), some (.int (iI e)), some (.ref a2), some (.int (iI (pi s 2 o))), some (.ref fn), some (.null), none, none, none, none]) (st' := [.null]) rfl rfl ?_
          refine go_a (pc' := 133) (ls' := [some (.ref (c + 30)), some (.int (iI o)), some (.int (iI ((M : Int)))), some (.int (iI e)), some (.ref a2), some (.int (iI (pi s 2 o))), some (.ref fn), some (.null), none, none, none, none]) (st' := []) rfl rfl ?_
          refine go_a (pc' := 134) (ls' := [some (.ref (c + 30)), some (.int (iI o)), some (.int (iI ((M : Int)))), some (.int (iI e)), some (.ref a2), some (.int (iI (pi s 2 o))), some (.ref fn), some (.null), none, none, none, none]) (st' := [.ref (c + 30)]) rfl rfl ?_
          refine go_a (pc' := 135) (ls' := [some (.ref (c + 30)), some (.int (iI o)), some (.int (iI ((M : Int)))), some (.int (iI e)), some (.ref a2), some (.int (iI (pi s 2 o))), some (.ref fn), some (.null), none, none, none, none]) (st' := [.int (iI o), .ref (c + 30)]) rfl rfl ?_
          refine go_v (m := 248) (as := [.ref (c + 30), .int (iI o)]) (r := []) rfl rfl rfl (S7.1.1 19 (by decide)) rfl rfl (kq_failAtP z (d + 7) (w := WD (SD s) o) S7 (by omega) (by omega) (by omega) (by omega) (by omega) (ft := NM.2.2.1) (ρ := (sp_ind NM.2.2.1 NM.2.2.2.1 F (DK s.N o) (s.I 17))) (σ := (sp_sg F G (ifc (sp_fd NM.2.2.1 NM.2.2.2.1 (DK s.N o)) ((sp_as (DK s.N o)).drop 3) []) (s.I 17))) (sp_ind_n _ _ nf4) (by rw [ifc_neg nf4]; exact J2)) (fun v8 h8 hq => ?_)
          obtain ⟨rfl, R8⟩ := hq
          show xx_go (xt_P z) (d + 8) 286 138 [some (.ref (c + 30)), some (.int (iI o)), some (.int (iI ((M : Int)))), some (.int (iI e)), some (.ref a2), some (.int (iI (pi s 2 o))), some (.ref fn), some (.null), none, none, none, none] [.null] h8 _
          exact go_r rfl rfl rfl rfl rfl rfl R8
        · show xx_go (xt_P z) (d + 8) 286 79 [some (.ref (c + 30)), some (.int (iI o)), some (.int (iI ((M : Int)))), some (.int (iI e)), some (.ref a2), some (.int (iI (pi s 2 o))), some (.ref fn), none, none, none, none, none] [.ref q7] h7 _
          refine go_a (pc' := 81) (ls' := [some (.ref (c + 30)), some (.int (iI o)), some (.int (iI ((M : Int)))), some (.int (iI e)), some (.ref a2), some (.int (iI (pi s 2 o))), some (.ref fn), some (.ref q7), none, none, none, none]) (st' := []) rfl rfl ?_
          refine go_a (pc' := 83) (ls' := [some (.ref (c + 30)), some (.int (iI o)), some (.int (iI ((M : Int)))), some (.int (iI e)), some (.ref a2), some (.int (iI (pi s 2 o))), some (.ref fn), some (.ref q7), none, none, none, none]) (st' := [.ref a2]) rfl rfl ?_
          refine go_a (pc' := 86) (ls' := [some (.ref (c + 30)), some (.int (iI o)), some (.int (iI ((M : Int)))), some (.int (iI e)), some (.ref a2), some (.int (iI (pi s 2 o))), some (.ref fn), some (.ref q7), none, none, none, none]) (st' := []) rfl rfl ?_
          refine go_a (pc' := 88) (ls' := [some (.ref (c + 30)), some (.int (iI o)), some (.int (iI ((M : Int)))), some (.int (iI e)), some (.ref a2), some (.int (iI (pi s 2 o))), some (.ref fn), some (.ref q7), none, none, none, none]) (st' := [.ref fn]) rfl rfl ?_
          refine go_a (pc' := 91) (ls' := [some (.ref (c + 30)), some (.int (iI o)), some (.int (iI ((M : Int)))), some (.int (iI e)), some (.ref a2), some (.int (iI (pi s 2 o))), some (.ref fn), some (.ref q7), none, none, none, none]) (st' := []) rfl rfl ?_
          refine go_a (pc' := 93) (ls' := [some (.ref (c + 30)), some (.int (iI o)), some (.int (iI ((M : Int)))), some (.int (iI e)), some (.ref a2), some (.int (iI (pi s 2 o))), some (.ref fn), some (.ref q7), none, none, none, none]) (st' := [.ref q7]) rfl rfl ?_
          refine go_a (pc' := 96) (ls' := [some (.ref (c + 30)), some (.int (iI o)), some (.int (iI ((M : Int)))), some (.int (iI e)), some (.ref a2), some (.int (iI (pi s 2 o))), some (.ref fn), some (.ref q7), none, none, none, none]) (st' := []) rfl rfl ?_
          refine go_a (pc' := 98) (ls' := [some (.ref (c + 30)), some (.int (iI o)), some (.int (iI ((M : Int)))), some (.int (iI e)), some (.ref a2), some (.int (iI (pi s 2 o))), some (.ref fn), some (.ref q7), none, none, none, none]) (st' := [.ref fn]) rfl rfl ?_
          obtain ⟨pq, ta, c1, c2, c3, c4, c5, c6, c7, c8, c9, c10, c11⟩ := id Ffn_7
          have n120 := TM_n c5
          have mq7 := A7.2.1
          have TVs := TRS_VRG vs7.2.2.1 (tr7 NM.2.2.1)
          rw [rl_len] at TVs
          have lps := (VRG_TRL (ft := NM.2.2.1) _ _ fb3).2.2
          rw [rl_len] at lps
          rw [RD] at vs7 TVs
          have ccm := (cc_mem hP.2.2.2.2.2.2.2.2.2.2.2.2 fb2 (show 0 ≤ fcl i m by unfold fcl; omega) Bt).1 _ fb5
          refine go_v (m := 287) (as := [.ref fn]) (r := []) rfl rfl rfl c1 rfl rfl (kf_callsItself z (d + 5) c _ h7 s2 fn i (NM.1 i).1 m gp n f cb Ffn_7) (fun v8 h8 hq => ?_)
          obtain ⟨hq, eq8⟩ := hq
          rw [eq8]
          clear eq8 h8
          rcases hq with ⟨rfl, ci⟩ | ⟨rfl, ci⟩
          · show xx_go (xt_P z) (d + 8) 286 101 [some (.ref (c + 30)), some (.int (iI o)), some (.int (iI ((M : Int)))), some (.int (iI e)), some (.ref a2), some (.int (iI (pi s 2 o))), some (.ref fn), some (.ref q7), none, none, none, none] [.int (iI 1)] h7 _
            refine mi_eq0 (t := 133) rfl rfl (by omega) (by omega) (fun q => absurd q (by decide)) (fun _ => ?_)
            refine go_a (pc' := 106) (ls' := [some (.ref (c + 30)), some (.int (iI o)), some (.int (iI ((M : Int)))), some (.int (iI e)), some (.ref a2), some (.int (iI (pi s 2 o))), some (.ref fn), some (.ref q7), none, none, none, none]) (st' := [.ref q7]) rfl rfl ?_
            refine mk_len (n := mq) rfl A7.1 (xa_f_len _ _) (by omega) (by omega) ?_
            refine go_a (pc' := 109) (ls' := [some (.ref (c + 30)), some (.int (iI o)), some (.int (iI ((M : Int)))), some (.int (iI e)), some (.ref a2), some (.int (iI (pi s 2 o))), some (.ref fn), some (.ref q7), none, none, none, none]) (st' := [.ref fn, .int (iI mq)]) rfl rfl ?_
            refine go_get (v := .ref pq) rfl c1 rfl rfl ?_
            refine mk_len (n := m) rfl c3.1 (xa_f_len _ _) (by omega) (by omega) ?_
            refine mi_ne (t := 133) rfl rfl (by omega) (by omega) (by omega) (by omega) (fun w2 => ?_) (fun w2 => ?_)
            · have nf9 : ¬ sp_fd NM.2.2.1 NM.2.2.2.1 (DK s.N o) := by
                rintro ⟨-, fn9, w91, w92, w93, w94, w95, w96⟩
                rw [fbS] at w91
                injection w91 with w91
                rw [← w91] at w94 w95 w96
                have w95 : (sp_as (sp_cd (sp_p 2 (DK s.N o)))).length = ps.length := w95
                omega
              refine go_a (pc' := 134) (ls' := [some (.ref (c + 30)), some (.int (iI o)), some (.int (iI ((M : Int)))), some (.int (iI e)), some (.ref a2), some (.int (iI (pi s 2 o))), some (.ref fn), some (.ref q7), none, none, none, none]) (st' := [.ref (c + 30)]) rfl rfl ?_
              refine go_a (pc' := 135) (ls' := [some (.ref (c + 30)), some (.int (iI o)), some (.int (iI ((M : Int)))), some (.int (iI e)), some (.ref a2), some (.int (iI (pi s 2 o))), some (.ref fn), some (.ref q7), none, none, none, none]) (st' := [.int (iI o), .ref (c + 30)]) rfl rfl ?_
              refine go_v (m := 248) (as := [.ref (c + 30), .int (iI o)]) (r := []) rfl rfl rfl (S7.1.1 19 (by decide)) rfl rfl (kq_failAtP z (d + 7) (w := WD (SD s) o) S7 (by omega) (by omega) (by omega) (by omega) (by omega) (ft := NM.2.2.1) (ρ := (sp_ind NM.2.2.1 NM.2.2.2.1 F (DK s.N o) (s.I 17))) (σ := (sp_sg F G (ifc (sp_fd NM.2.2.1 NM.2.2.2.1 (DK s.N o)) ((sp_as (DK s.N o)).drop 3) []) (s.I 17))) (sp_ind_n _ _ nf9) (by rw [ifc_neg nf9]; exact J2)) (fun v9 h9 hq => ?_)
              obtain ⟨rfl, R9⟩ := hq
              show xx_go (xt_P z) (d + 8) 286 138 [some (.ref (c + 30)), some (.int (iI o)), some (.int (iI ((M : Int)))), some (.int (iI e)), some (.ref a2), some (.int (iI (pi s 2 o))), some (.ref fn), some (.ref q7), none, none, none, none] [.null] h9 _
              exact go_r rfl rfl rfl rfl rfl rfl R9
            · refine go_a (pc' := 117) (ls' := [some (.ref (c + 30)), some (.int (iI o)), some (.int (iI ((M : Int)))), some (.int (iI e)), some (.ref a2), some (.int (iI (pi s 2 o))), some (.ref fn), some (.ref q7), none, none, none, none]) (st' := [.int (iI ((M : Int)))]) rfl rfl ?_
              refine mi_lt0 (t := 133) rfl rfl (by omega) (by omega) (fun q => absurd q (by omega)) (fun _ => ?_)
              refine go_a (pc' := 121) (ls' := [some (.ref (c + 30)), some (.int (iI o)), some (.int (iI ((M : Int)))), some (.int (iI e)), some (.ref a2), some (.int (iI (pi s 2 o))), some (.ref fn), some (.ref q7), none, none, none, none]) (st' := [.int (iI ((M : Int)))]) rfl rfl ?_
              refine go_a (pc' := 123) (ls' := [some (.ref (c + 30)), some (.int (iI o)), some (.int (iI ((M : Int)))), some (.int (iI e)), some (.ref a2), some (.int (iI (pi s 2 o))), some (.ref fn), some (.ref q7), none, none, none, none]) (st' := [.ref fn, .int (iI ((M : Int)))]) rfl rfl ?_
              refine go_get (v := .ref ta) rfl c1 rfl rfl ?_
              refine go_a (pc' := 127) (ls' := [some (.ref (c + 30)), some (.int (iI o)), some (.int (iI ((M : Int)))), some (.int (iI e)), some (.ref a2), some (.int (iI (pi s 2 o))), some (.ref fn), some (.ref q7), none, none, none, none]) (st' := [.int (iI 0), .ref ta, .int (iI ((M : Int)))]) rfl rfl ?_
              refine go_s (m := 288) (as := [.ref ta, .int (iI 0)]) (r := [.int (iI ((M : Int)))]) rfl rfl rfl rfl (kp_ends z (d + 6) 0 ta (ta + 1) n f h7 (TMp c5).1 c5.2.1 (by omega)) (fun v9 h9 hq => ?_)
              obtain ⟨⟨E, rfl, hE, E1⟩, eq9⟩ := hq
              rw [eq9]
              clear eq9 h9
              have EP := SCN_ph1 c5.2.1 hP.2.2.2.2.2.2.2.2.2.2.2.2 fB.1 (TRA_0 fb5) hE
              rw [bp_n c5.2.1] at hE
              show xx_go (xt_P z) (d + 8) 286 130 [some (.ref (c + 30)), some (.int (iI o)), some (.int (iI ((M : Int)))), some (.int (iI e)), some (.ref a2), some (.int (iI (pi s 2 o))), some (.ref fn), some (.ref q7), none, none, none, none] [.int (iI ((E : Int))), .int (iI ((M : Int)))] h7 _
              refine mi_eq (t := 139) rfl rfl (by omega) (by omega) (by omega) (by omega) (fun w3 => ?_) (fun w3 => ?_)
              · refine go_a (pc' := 140) (ls' := [some (.ref (c + 30)), some (.int (iI o)), some (.int (iI ((M : Int)))), some (.int (iI e)), some (.ref a2), some (.int (iI (pi s 2 o))), some (.ref fn), some (.ref q7), none, none, none, none]) (st' := [.int (iI ((M : Int)))]) rfl rfl ?_
                obtain rfl : M = E := by omega
                obtain rfl : mq = m := by omega
                refine go_newr (m := (M : Int).toNat) rfl rfl (iI_nn (by omega) (by omega)) (iI_clamp (by omega) (by omega)) (by omega) ?_
                rw [rep_r]
                obtain ⟨K9, X9, P9⟩ := ki_arrC S7.1 (s.I 8) (M : Int) (by omega) (by omega)
                have S9 := KST_X S7 K9 X9
                have l12 := KST_12 S7
                have ll := KST_len S7
                obtain ⟨t8, et⟩ : ∃ q : Nat, q = h7.length := ⟨_, rfl⟩
                have T9 := TM_kx Ta2_7 X9
                have F9 := FTH_kx Ffn_7 X9 (Int.le_refl _)
                obtain ⟨A9, N9⟩ := KAL_kx A7 k7 X9
                rw [← et] at P9
                obtain ⟨h9, e9⟩ : ∃ q : xx_H, q = h7 ++ [.inl (.object "ClauseKernel$Clause", xa_r (M : Int).toNat (fun _ => none))] := ⟨_, rfl⟩
                rw [← e9] at S9 P9 T9 F9 A9
                rw [← e9, ← et]
                show xx_go (xt_P z) (d + 8) 286 143 [some (.ref (c + 30)), some (.int (iI o)), some (.int (iI ((M : Int)))), some (.int (iI e)), some (.ref a2), some (.int (iI (pi s 2 o))), some (.ref fn), some (.ref q7), none, none, none, none] [.ref t8] h9 _
                refine go_a (pc' := 145) (ls' := [some (.ref (c + 30)), some (.int (iI o)), some (.int (iI ((M : Int)))), some (.int (iI e)), some (.ref a2), some (.int (iI (pi s 2 o))), some (.ref fn), some (.ref q7), some (.ref t8), none, none, none]) (st' := []) rfl rfl ?_
                refine go_a (pc' := 146) (ls' := [some (.ref (c + 30)), some (.int (iI o)), some (.int (iI ((M : Int)))), some (.int (iI e)), some (.ref a2), some (.int (iI (pi s 2 o))), some (.ref fn), some (.ref q7), some (.ref t8), none, none, none]) (st' := [.int (iI 0)]) rfl rfl ?_
                refine go_a (pc' := 148) (ls' := [some (.ref (c + 30)), some (.int (iI o)), some (.int (iI ((M : Int)))), some (.int (iI e)), some (.ref a2), some (.int (iI (pi s 2 o))), some (.ref fn), some (.ref q7), some (.ref t8), some (.int (iI 0)), none, none]) (st' := []) rfl rfl ?_
                have wS : 3 ≤ WD (SD s) (pi s 2 o) := by
                  have W2 := PI_W hP.2.2.1 o2 hL2 (by omega) (by have := hi.2.2.1; have := c7.1; omega)
                  obtain ⟨w21, -, w23, w24⟩ := PI_w hP.2.2.1 o2 hL2 (j := 0) (by omega)
                  omega
                have cD : sp_cD (vn, ps, Bt) (DK s.N o) := ⟨by rw [← D2]; exact (AS_len hP o2 hL2).1, vs7, ccm.mp ci, show (sp_as (sp_cd (sp_p 2 (DK s.N o)))).length = ps.length by omega, show (sp_as (DK s.N o)).length = (sp_ph Bt).length + 3 by omega⟩
                obtain ⟨fd, ei⟩ := sp_ind_p F (s.I 17) et2 fbS cD
                have e8 := e2
                have OFb := KST_TRTb hP S9 e8 Oa2
                have VGb := KST_VRGb hP S9 e8 TVs.1
                have TVb := KST_TROb (ft := NM.2.2.1) hP S9 e8 (TVs.2.1 NM.2.2.1)
                rw [← e8] at T9 F9 P9 g7
                exact kq_ind_l1 z d c o q hp s NM hP ho hL r2 w9 l25 e fu F G R hf M a2 fn q7 t8 hq (by omega) (by omega) n2 f2 i (NM.1 i).1 _ gp n f cb gq hE wS (by omega) _ _ vn ps t2 Bt fb2 OFb fb5 fb3 VGb TVb EP.symm ei (by rw [ifc_pos fd]) M 0 _ _ _ _ [] (by omega) (Nat.zero_le _) (KST_w S9 (by show _ ≤ 4 + 100 * (VD (SD s) (rt (SD s) 3 o) - VD (SD s) (rt (SD s) 3 o)) - 386 * 0; omega) (by show _ ≤ _ + 7 + (M : Int) + 700 * (VD (SD s) (rt (SD s) 3 o) - VD (SD s) (rt (SD s) 3 o)) - 2390 * 0; omega) (by show _ ≤ VD (SD s) (rt (SD s) 3 o) - VD (SD s) (rt (SD s) 3 o); omega)) T9 F9 A9 N9 g7 P9 ⟨rfl, fun j hj => absurd hj (Nat.not_lt_zero _)⟩ (by rw [List.take_zero, J2]; rfl)
              · have nf9 : ¬ sp_fd NM.2.2.1 NM.2.2.2.1 (DK s.N o) := by
                  rintro ⟨-, fn9, w91, w92, w93, w94, w95, w96⟩
                  rw [fbS] at w91
                  injection w91 with w91
                  rw [← w91] at w94 w95 w96
                  have w96 : (sp_as (DK s.N o)).length = (sp_ph Bt).length + 3 := w96
                  omega
                refine go_a (pc' := 134) (ls' := [some (.ref (c + 30)), some (.int (iI o)), some (.int (iI ((M : Int)))), some (.int (iI e)), some (.ref a2), some (.int (iI (pi s 2 o))), some (.ref fn), some (.ref q7), none, none, none, none]) (st' := [.ref (c + 30)]) rfl rfl ?_
                refine go_a (pc' := 135) (ls' := [some (.ref (c + 30)), some (.int (iI o)), some (.int (iI ((M : Int)))), some (.int (iI e)), some (.ref a2), some (.int (iI (pi s 2 o))), some (.ref fn), some (.ref q7), none, none, none, none]) (st' := [.int (iI o), .ref (c + 30)]) rfl rfl ?_
                refine go_v (m := 248) (as := [.ref (c + 30), .int (iI o)]) (r := []) rfl rfl rfl (S7.1.1 19 (by decide)) rfl rfl (kq_failAtP z (d + 7) (w := WD (SD s) o) S7 (by omega) (by omega) (by omega) (by omega) (by omega) (ft := NM.2.2.1) (ρ := (sp_ind NM.2.2.1 NM.2.2.2.1 F (DK s.N o) (s.I 17))) (σ := (sp_sg F G (ifc (sp_fd NM.2.2.1 NM.2.2.2.1 (DK s.N o)) ((sp_as (DK s.N o)).drop 3) []) (s.I 17))) (sp_ind_n _ _ nf9) (by rw [ifc_neg nf9]; exact J2)) (fun v10 h10 hq => ?_)
                obtain ⟨rfl, R10⟩ := hq
                show xx_go (xt_P z) (d + 8) 286 138 [some (.ref (c + 30)), some (.int (iI o)), some (.int (iI ((M : Int)))), some (.int (iI e)), some (.ref a2), some (.int (iI (pi s 2 o))), some (.ref fn), some (.ref q7), none, none, none, none] [.null] h10 _
                exact go_r rfl rfl rfl rfl rfl rfl R10
          · have nf9 : ¬ sp_fd NM.2.2.1 NM.2.2.2.1 (DK s.N o) := by
              rintro ⟨-, fn9, w91, w92, w93, w94, w95, w96⟩
              rw [fbS] at w91
              injection w91 with w91
              rw [← w91] at w94 w95 w96
              exact ci (ccm.mpr w94)
            show xx_go (xt_P z) (d + 8) 286 101 [some (.ref (c + 30)), some (.int (iI o)), some (.int (iI ((M : Int)))), some (.int (iI e)), some (.ref a2), some (.int (iI (pi s 2 o))), some (.ref fn), some (.ref q7), none, none, none, none] [.int (iI 0)] h7 _
            refine mi_eq0 (t := 133) rfl rfl (by omega) (by omega) (fun _ => ?_) (fun q => absurd rfl q)
            refine go_a (pc' := 134) (ls' := [some (.ref (c + 30)), some (.int (iI o)), some (.int (iI ((M : Int)))), some (.int (iI e)), some (.ref a2), some (.int (iI (pi s 2 o))), some (.ref fn), some (.ref q7), none, none, none, none]) (st' := [.ref (c + 30)]) rfl rfl ?_
            refine go_a (pc' := 135) (ls' := [some (.ref (c + 30)), some (.int (iI o)), some (.int (iI ((M : Int)))), some (.int (iI e)), some (.ref a2), some (.int (iI (pi s 2 o))), some (.ref fn), some (.ref q7), none, none, none, none]) (st' := [.int (iI o), .ref (c + 30)]) rfl rfl ?_
            refine go_v (m := 248) (as := [.ref (c + 30), .int (iI o)]) (r := []) rfl rfl rfl (S7.1.1 19 (by decide)) rfl rfl (kq_failAtP z (d + 7) (w := WD (SD s) o) S7 (by omega) (by omega) (by omega) (by omega) (by omega) (ft := NM.2.2.1) (ρ := (sp_ind NM.2.2.1 NM.2.2.2.1 F (DK s.N o) (s.I 17))) (σ := (sp_sg F G (ifc (sp_fd NM.2.2.1 NM.2.2.2.1 (DK s.N o)) ((sp_as (DK s.N o)).drop 3) []) (s.I 17))) (sp_ind_n _ _ nf9) (by rw [ifc_neg nf9]; exact J2)) (fun v9 h9 hq => ?_)
            obtain ⟨rfl, R9⟩ := hq
            show xx_go (xt_P z) (d + 8) 286 138 [some (.ref (c + 30)), some (.int (iI o)), some (.int (iI ((M : Int)))), some (.int (iI e)), some (.ref a2), some (.int (iI (pi s 2 o))), some (.ref fn), some (.ref q7), none, none, none, none] [.null] h9 _
            exact go_r rfl rfl rfl rfl rfl rfl R9
