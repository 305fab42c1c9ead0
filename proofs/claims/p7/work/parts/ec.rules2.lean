def PRC (z : Value) (D c : Nat) (e : Int) : Prop := ∀ (hp : xx_H) (s : KS) (NM : Int → Int) (x : Int), KPS c hp s NM → OB s x → WD (SD s) x ≤ 1000 → s.I 8 + WD (SD s) x ≤ 25000 → xx_cl (xt_P z) D 245 [.ref (c + 30), .int (iI x), .int (iI e)] hp (fun v h1 => PRP c hp s (WD (SD s) x) v h1)
section EC
variable {c x y : Nat} {hp h1 h2 : xx_H} {s s1 s2 : KS} {α β γ u w b β0 : Int} {NM : Int → Int} {v : Value} {z : Value} {D : Nat} {e o : Int} {m : Int} {O : Int → Option Nat} {nO : Int → Int} {fO : Int → Int → Int}
theorem kq_sub (R : PRC z D c e) (P : KPS c hp s NM) (S : KST c hp s h1 s1 α β γ) (ho : OB s o) (w1 : WD (SD s) o ≤ 1000) (l : s.I 8 + γ + WD (SD s) o ≤ 25000) : xx_cl (xt_P z) D 245 [.ref (c + 30), .int (iI o), .int (iI e)] h1 (fun v h2 => ∃ s2 : KS, (v = some .null ∧ KST c hp s h2 s2 (α + 100 * WD (SD s) o) (β + 700 * WD (SD s) o) (γ + WD (SD s) o) ∧ kx c h1 s1 h2 s2 (100 * WD (SD s) o) (700 * WD (SD s) o)) ∨ ∃ y : Nat, v = some (.ref y) ∧ h1.length ≤ y ∧ CL c h2 s2 (s2.I 8) y 0 ∧ KST c hp s h2 s2 (α + (100 * WD (SD s) o - 386)) (β + (700 * WD (SD s) o - 2390)) (γ + WD (SD s) o) ∧ s1.I 8 ≤ s2.I 8 ∧ kx c h1 s1 h2 s2 (100 * WD (SD s) o - 386) (700 * WD (SD s) o - 2390)) := by
  have F := S.2.2.2.1
  have ew := (PFR_WD F P.2.2.1 ho).1
  have l8 := S.2.2.2.2.2
  have w0 := WD_1 (I := UI s) P.2.2.1.1 ho.1 ho.2
  refine cl_w ?_ (R h1 s1 NM o (KST_PS P S (by omega)) (PFR_OB F ho) (by omega) (by omega))
  rw [ew]
  rintro v h2 ⟨s2, ⟨e1, S2⟩ | ⟨y, e1, hy, C, S2⟩⟩
  · exact ⟨s2, Or.inl ⟨e1, KST_tr S S2, S2.2.2.2.2.1⟩⟩
  · exact ⟨s2, Or.inr ⟨y, e1, hy, C, KST_tr S S2, S2.2.2.2.1.2.2.2.1, S2.2.2.2.2.1⟩⟩
theorem CLS_fe (hy : CL c hp s w y β0) (F : KFE y hp h1) (ne : x ≠ y) (h : CLS c hp s u x m α b O nO fO) : CLS c h1 s u x m α b O nO fO := by
  obtain ⟨_, _, _, _, _, g⟩ := hy
  exact KFE_CLS g.1 g.2.1 F ne h
theorem kq_partT (z : Value) (d : Nat) {a : Nat} {n p : Int} {f : Int → Int} (K : KI c h1 s1) (B : KB s1) (T : TM c h1 s1 u a n f) (p0 : 1 ≤ p) (p1 : p < n) : xx_cl (xt_P z) (d + 4) 274 [.ref a, .int (iI p)] h1 (fun v h2 => ∃ (a1 : Nat) (n1 : Int) (f1 : Int → Int), v = some (.ref a1) ∧ STE c h1 s1 h2 s1 2 121 ∧ TM c h2 s1 u a1 n1 f1) := by
  obtain ⟨k, rfl⟩ : ∃ k : Nat, p = (k : Int) := ⟨p.toNat, by omega⟩
  refine cl_w ?_ (kb_part z d c a n u k f h1 s1 K B T (by omega) p1)
  rintro v h2 ⟨e, K2, X, T2⟩
  have := TM_n T2
  exact ⟨_, _, _, e, ⟨K2, B, TF_rf, kx_w X (by omega) (by omega)⟩, T2⟩
theorem eq_parts {a : Nat} {n : Int} {f : Int → Int} (T : TM c h1 s1 u a n f) (e : f 0 = 138) : 1 < n ∧ 1 ≤ bh n f 1 ∧ bh n f 1 < n := by
  have hW := T.2.1
  have n1 := WFT_pos hW
  have e1 : sm f 1 = 1 := by
    show 0 + (tk (f 0) - 1) = 1
    rw [e]
    decide
  have l1 := WFT_lt hW (k := 1) (by omega) (by omega)
  obtain ⟨q1, q2, q3, q4, -⟩ := bp_W hW (p := 1) l1
  have l2 := WFT_lt hW (k := bp n f 1) q3 (by omega)
  have q5 : bh n f 1 = (bp n f 1 : Int) := q1
  omega
theorem RPL_M {v : Option Value} (h : RPL c hp s u v h1) : ∃ (v1 : Value) (s2 : KS), v = some v1 ∧ STE c hp s h1 s2 2 121 ∧ MTM c h1 s2 u v1 := by
  obtain ⟨s2, K, B, F, ⟨e, X⟩ | ⟨a1, N, g, e, l, -, X, T⟩⟩ := h
  · exact ⟨.null, s2, e, ⟨K, B, F, kx_w X (by decide) (by decide)⟩, Or.inl rfl⟩
  · exact ⟨.ref a1, s2, e, ⟨K, B, F, kx_w X (by omega) (by omega)⟩, MTM_T T⟩
end EC
theorem kq_cut (z : Value) (d c : Nat) (o : Int) (q : Nat) (hp : xx_H) (s : KS) (NM : Int → Int) (hP : KPS c hp s NM) (ho : OB s o) (hL : isL (SD s) q o) (r2 : pi s 0 o ≠ 2) (w9 : WD (SD s) o ≤ 1000) (l25 : s.I 8 + WD (SD s) o ≤ 25000) (e : Int) (R : PRC z (d + 8) c (e + 1)) (hq : q = 4) : xx_cl (xt_P z) (d + 9) 272 [.ref (c + 30), .int (iI o), .int (iI e)] hp (fun v h1 => PRP c hp s (WD (SD s) o) v h1) := by
  have S0 := KST_rf hP
  have e0 : s.I 8 = s.I 8 := rfl
  have lu : s.I 8 ≤ 25000 := hP.2.2.2.2.2.2.2
  have u38 := KB_38 hP.2.1
  have oR := OB_R hP.2.1 ho
  have W := PI_W hP.2.2.1 ho hL (by omega) r2
  have p0 : VD (SD s) (rt (SD s) 0 o) = WD (SD s) (pi s 0 o) + VD (SD s) (rt (SD s) 1 o) ∧ OB s (pi s 0 o) ∧ 1 ≤ WD (SD s) (pi s 0 o) ∧ 0 ≤ VD (SD s) (rt (SD s) 1 o) := PI_w hP.2.2.1 ho hL (j := 0) (by omega)
  have p1 : VD (SD s) (rt (SD s) 1 o) = WD (SD s) (pi s 1 o) + VD (SD s) (rt (SD s) 2 o) ∧ OB s (pi s 1 o) ∧ 1 ≤ WD (SD s) (pi s 1 o) ∧ 0 ≤ VD (SD s) (rt (SD s) 2 o) := PI_w hP.2.2.1 ho hL (j := 1) (by omega)
  have p2 : VD (SD s) (rt (SD s) 2 o) = WD (SD s) (pi s 2 o) + VD (SD s) (rt (SD s) 3 o) ∧ OB s (pi s 2 o) ∧ 1 ≤ WD (SD s) (pi s 2 o) ∧ 0 ≤ VD (SD s) (rt (SD s) 3 o) := PI_w hP.2.2.1 ho hL (j := 2) (by omega)
  have p3 : VD (SD s) (rt (SD s) 3 o) = WD (SD s) (pi s 3 o) + VD (SD s) (rt (SD s) 4 o) ∧ OB s (pi s 3 o) ∧ 1 ≤ WD (SD s) (pi s 3 o) ∧ 0 ≤ VD (SD s) (rt (SD s) 4 o) := PI_w hP.2.2.1 ho hL (j := 3) (by omega)
  obtain ⟨p0, o0, i0, j0⟩ := p0
  obtain ⟨p1, o1, i1, j1⟩ := p1
  obtain ⟨p2, o2, i2, j2⟩ := p2
  obtain ⟨p3, o3, i3, j3⟩ := p3
  refine cl_go rfl ?_
  show xx_go (xt_P z) (d + 8) 272 0 [some (.ref (c + 30)), some (.int (iI o)), some (.int (iI e)), none, none, none, none, none] [] hp _
  refine go_a (pc' := 1) (ls' := [some (.ref (c + 30)), some (.int (iI o)), some (.int (iI e)), none, none, none, none, none]) (st' := [.ref (c + 30)]) rfl rfl ?_
  refine go_get (v := .ref (c + 25)) rfl (S0.1.1 19 (by decide)) rfl rfl ?_
  refine go_a (pc' := 5) (ls' := [some (.ref (c + 30)), some (.int (iI o)), some (.int (iI e)), none, none, none, none, none]) (st' := [.ref (c + 30), .ref (c + 25)]) rfl rfl ?_
  refine go_get (v := .ref (c + 4)) rfl (S0.1.1 19 (by decide)) rfl rfl ?_
  refine go_a (pc' := 9) (ls' := [some (.ref (c + 30)), some (.int (iI o)), some (.int (iI e)), none, none, none, none, none]) (st' := [.int (iI o), .ref (c + 4), .ref (c + 25)]) rfl rfl ?_
  refine go_a (pc' := 10) (ls' := [some (.ref (c + 30)), some (.int (iI o)), some (.int (iI e)), none, none, none, none, none]) (st' := [.int (iI 1), .int (iI o), .ref (c + 4), .ref (c + 25)]) rfl rfl ?_
  refine go_v (m := 202) (as := [.ref (c + 4), .int (iI o), .int (iI 1)]) (r := [.ref (c + 25)]) rfl rfl rfl (S0.1.1 3 (by decide)) rfl rfl (kq_part z (d + 6) S0 hP.2.2.1 ho hL (by omega) (by omega) (by omega)) (fun v1 h1 hq => ?_)
  obtain ⟨rfl, eq1⟩ := hq
  rw [eq1]
  clear eq1 h1
  show xx_go (xt_P z) (d + 8) 272 13 [some (.ref (c + 30)), some (.int (iI o)), some (.int (iI e)), none, none, none, none, none] [.int (iI (pi s 1 o)), .ref (c + 25)] hp _
  refine go_v (m := 211) (as := [.ref (c + 25), .int (iI (pi s 1 o))]) (r := []) rfl rfl rfl (S0.1.1 16 (by decide)) rfl rfl (kq_read z (d + 1) hP S0 e0 lu o1 (by omega)) (fun v2 h2 hq => ?_)
  obtain ⟨s2, E2, hv2⟩ := hq
  have S2 := KST_STE S0 E2
  have e2 := (STE_8 E2).trans e0
  rcases hv2 with rfl | ⟨a2, n2, f2, rfl, l2, b2, T2⟩
  · show xx_go (xt_P z) (d + 8) 272 16 [some (.ref (c + 30)), some (.int (iI o)), some (.int (iI e)), none, none, none, none, none] [.null] h2 _
    refine go_a (pc' := 17) (ls' := [some (.ref (c + 30)), some (.int (iI o)), some (.int (iI e)), some (.null), none, none, none, none]) (st' := []) rfl rfl ?_
    refine go_a (pc' := 18) (ls' := [some (.ref (c + 30)), some (.int (iI o)), some (.int (iI e)), some (.null), none, none, none, none]) (st' := [.null]) rfl rfl ?_
    refine go_a (pc' := 21) (ls' := [some (.ref (c + 30)), some (.int (iI o)), some (.int (iI e)), some (.null), none, none, none, none]) (st' := []) rfl rfl ?_
    refine go_a (pc' := 22) (ls' := [some (.ref (c + 30)), some (.int (iI o)), some (.int (iI e)), some (.null), none, none, none, none]) (st' := [.ref (c + 30)]) rfl rfl ?_
    refine go_a (pc' := 23) (ls' := [some (.ref (c + 30)), some (.int (iI o)), some (.int (iI e)), some (.null), none, none, none, none]) (st' := [.int (iI o), .ref (c + 30)]) rfl rfl ?_
    refine go_v (m := 248) (as := [.ref (c + 30), .int (iI o)]) (r := []) rfl rfl rfl (S2.1.1 19 (by decide)) rfl rfl (kq_failAtP z (d + 7) (w := WD (SD s) o) S2 (by omega) (by omega) (by omega) (by omega) (by omega)) (fun v3 h3 hq => ?_)
    obtain ⟨rfl, R3⟩ := hq
    show xx_go (xt_P z) (d + 8) 272 26 [some (.ref (c + 30)), some (.int (iI o)), some (.int (iI e)), some (.null), none, none, none, none] [.null] h3 _
    exact go_r rfl rfl rfl rfl rfl rfl R3
  · have nn2 := TM_n T2
    show xx_go (xt_P z) (d + 8) 272 16 [some (.ref (c + 30)), some (.int (iI o)), some (.int (iI e)), none, none, none, none, none] [.ref a2] h2 _
    refine go_a (pc' := 17) (ls' := [some (.ref (c + 30)), some (.int (iI o)), some (.int (iI e)), some (.ref a2), none, none, none, none]) (st' := []) rfl rfl ?_
    refine go_a (pc' := 18) (ls' := [some (.ref (c + 30)), some (.int (iI o)), some (.int (iI e)), some (.ref a2), none, none, none, none]) (st' := [.ref a2]) rfl rfl ?_
    refine go_a (pc' := 27) (ls' := [some (.ref (c + 30)), some (.int (iI o)), some (.int (iI e)), some (.ref a2), none, none, none, none]) (st' := []) rfl rfl ?_
    refine go_a (pc' := 28) (ls' := [some (.ref (c + 30)), some (.int (iI o)), some (.int (iI e)), some (.ref a2), none, none, none, none]) (st' := [.ref (c + 30)]) rfl rfl ?_
    refine go_a (pc' := 29) (ls' := [some (.ref (c + 30)), some (.int (iI o)), some (.int (iI e)), some (.ref a2), none, none, none, none]) (st' := [.ref (c + 30), .ref (c + 30)]) rfl rfl ?_
    refine go_get (v := .ref (c + 4)) rfl (S2.1.1 19 (by decide)) rfl rfl ?_
    refine go_a (pc' := 33) (ls' := [some (.ref (c + 30)), some (.int (iI o)), some (.int (iI e)), some (.ref a2), none, none, none, none]) (st' := [.int (iI o), .ref (c + 4), .ref (c + 30)]) rfl rfl ?_
    refine go_a (pc' := 34) (ls' := [some (.ref (c + 30)), some (.int (iI o)), some (.int (iI e)), some (.ref a2), none, none, none, none]) (st' := [.int (iI 2), .int (iI o), .ref (c + 4), .ref (c + 30)]) rfl rfl ?_
    refine go_v (m := 202) (as := [.ref (c + 4), .int (iI o), .int (iI 2)]) (r := [.ref (c + 30)]) rfl rfl rfl (S2.1.1 3 (by decide)) rfl rfl (kq_part z (d + 6) S2 hP.2.2.1 ho hL (by omega) (by omega) (by omega)) (fun v3 h3 hq => ?_)
    obtain ⟨rfl, eq3⟩ := hq
    rw [eq3]
    clear eq3 h3
    show xx_go (xt_P z) (d + 8) 272 37 [some (.ref (c + 30)), some (.int (iI o)), some (.int (iI e)), some (.ref a2), none, none, none, none] [.int (iI (pi s 2 o)), .ref (c + 30)] h2 _
    refine go_a (pc' := 38) (ls' := [some (.ref (c + 30)), some (.int (iI o)), some (.int (iI e)), some (.ref a2), none, none, none, none]) (st' := [.int (iI e), .int (iI (pi s 2 o)), .ref (c + 30)]) rfl rfl ?_
    refine go_a (pc' := 39) (ls' := [some (.ref (c + 30)), some (.int (iI o)), some (.int (iI e)), some (.ref a2), none, none, none, none]) (st' := [.int (iI 1), .int (iI e), .int (iI (pi s 2 o)), .ref (c + 30)]) rfl rfl ?_
    refine mi_add rfl ?_
    refine go_v (m := 245) (as := [.ref (c + 30), .int (iI (pi s 2 o)), .int (iI (e + 1))]) (r := []) rfl rfl rfl (S2.1.1 19 (by decide)) rfl rfl (kq_sub R hP S2 o2 (by omega) (by omega)) (fun v4 h4 hq => ?_)
    obtain ⟨s4, hv⟩ := hq
    rcases hv with ⟨rfl, S4, X4n⟩ | ⟨y4, rfl, l4, C4, S4, g4, X4⟩
    · show xx_go (xt_P z) (d + 8) 272 43 [some (.ref (c + 30)), some (.int (iI o)), some (.int (iI e)), some (.ref a2), none, none, none, none] [.null] h4 _
      refine go_a (pc' := 45) (ls' := [some (.ref (c + 30)), some (.int (iI o)), some (.int (iI e)), some (.ref a2), some (.null), none, none, none]) (st' := []) rfl rfl ?_
      refine go_a (pc' := 47) (ls' := [some (.ref (c + 30)), some (.int (iI o)), some (.int (iI e)), some (.ref a2), some (.null), none, none, none]) (st' := [.null]) rfl rfl ?_
      refine go_a (pc' := 50) (ls' := [some (.ref (c + 30)), some (.int (iI o)), some (.int (iI e)), some (.ref a2), some (.null), none, none, none]) (st' := []) rfl rfl ?_
      refine go_a (pc' := 51) (ls' := [some (.ref (c + 30)), some (.int (iI o)), some (.int (iI e)), some (.ref a2), some (.null), none, none, none]) (st' := [.null]) rfl rfl ?_
      refine go_a (pc' := 70) (ls' := [some (.ref (c + 30)), some (.int (iI o)), some (.int (iI e)), some (.ref a2), some (.null), none, none, none]) (st' := [.null]) rfl rfl ?_
      refine go_a (pc' := 72) (ls' := [some (.ref (c + 30)), some (.int (iI o)), some (.int (iI e)), some (.ref a2), some (.null), some (.null), none, none]) (st' := []) rfl rfl ?_
      refine go_a (pc' := 74) (ls' := [some (.ref (c + 30)), some (.int (iI o)), some (.int (iI e)), some (.ref a2), some (.null), some (.null), none, none]) (st' := [.null]) rfl rfl ?_
      refine go_a (pc' := 82) (ls' := [some (.ref (c + 30)), some (.int (iI o)), some (.int (iI e)), some (.ref a2), some (.null), some (.null), none, none]) (st' := []) rfl rfl ?_
      refine go_a (pc' := 83) (ls' := [some (.ref (c + 30)), some (.int (iI o)), some (.int (iI e)), some (.ref a2), some (.null), some (.null), none, none]) (st' := [.null]) rfl rfl ?_
      exact go_r rfl rfl rfl rfl rfl rfl ⟨_, Or.inl ⟨rfl, KST_w S4 (by omega) (by omega) (by omega)⟩⟩
    · have z4 := S4.2.2.2.2.2
      have lu4 : s4.I 8 ≤ 25000 := by omega
      have e4 : s4.I 8 = s4.I 8 := rfl
      have u38 := KB_38 S4.2.1
      have Ta2_4 := TM_u (TM_kx T2 X4) (show _ ≤ s4.I 8 by omega)
      obtain ⟨mC4, wC4, cC4⟩ := CL_cell C4
      show xx_go (xt_P z) (d + 8) 272 43 [some (.ref (c + 30)), some (.int (iI o)), some (.int (iI e)), some (.ref a2), none, none, none, none] [.ref y4] h4 _
      refine go_a (pc' := 45) (ls' := [some (.ref (c + 30)), some (.int (iI o)), some (.int (iI e)), some (.ref a2), some (.ref y4), none, none, none]) (st' := []) rfl rfl ?_
      refine go_a (pc' := 47) (ls' := [some (.ref (c + 30)), some (.int (iI o)), some (.int (iI e)), some (.ref a2), some (.ref y4), none, none, none]) (st' := [.ref y4]) rfl rfl ?_
      refine go_a (pc' := 54) (ls' := [some (.ref (c + 30)), some (.int (iI o)), some (.int (iI e)), some (.ref a2), some (.ref y4), none, none, none]) (st' := []) rfl rfl ?_
      refine go_a (pc' := 55) (ls' := [some (.ref (c + 30)), some (.int (iI o)), some (.int (iI e)), some (.ref a2), some (.ref y4), none, none, none]) (st' := [.ref (c + 30)]) rfl rfl ?_
      refine go_a (pc' := 56) (ls' := [some (.ref (c + 30)), some (.int (iI o)), some (.int (iI e)), some (.ref a2), some (.ref y4), none, none, none]) (st' := [.ref (c + 30), .ref (c + 30)]) rfl rfl ?_
      refine go_get (v := .ref (c + 4)) rfl (S4.1.1 19 (by decide)) rfl rfl ?_
      refine go_a (pc' := 60) (ls' := [some (.ref (c + 30)), some (.int (iI o)), some (.int (iI e)), some (.ref a2), some (.ref y4), none, none, none]) (st' := [.int (iI o), .ref (c + 4), .ref (c + 30)]) rfl rfl ?_
      refine go_a (pc' := 61) (ls' := [some (.ref (c + 30)), some (.int (iI o)), some (.int (iI e)), some (.ref a2), some (.ref y4), none, none, none]) (st' := [.int (iI 3), .int (iI o), .ref (c + 4), .ref (c + 30)]) rfl rfl ?_
      refine go_v (m := 202) (as := [.ref (c + 4), .int (iI o), .int (iI 3)]) (r := [.ref (c + 30)]) rfl rfl rfl (S4.1.1 3 (by decide)) rfl rfl (kq_part z (d + 6) S4 hP.2.2.1 ho hL (by omega) (by omega) (by omega)) (fun v5 h5 hq => ?_)
      obtain ⟨rfl, eq5⟩ := hq
      rw [eq5]
      clear eq5 h5
      show xx_go (xt_P z) (d + 8) 272 64 [some (.ref (c + 30)), some (.int (iI o)), some (.int (iI e)), some (.ref a2), some (.ref y4), none, none, none] [.int (iI (pi s 3 o)), .ref (c + 30)] h4 _
      refine go_a (pc' := 65) (ls' := [some (.ref (c + 30)), some (.int (iI o)), some (.int (iI e)), some (.ref a2), some (.ref y4), none, none, none]) (st' := [.int (iI e), .int (iI (pi s 3 o)), .ref (c + 30)]) rfl rfl ?_
      refine go_a (pc' := 66) (ls' := [some (.ref (c + 30)), some (.int (iI o)), some (.int (iI e)), some (.ref a2), some (.ref y4), none, none, none]) (st' := [.int (iI 1), .int (iI e), .int (iI (pi s 3 o)), .ref (c + 30)]) rfl rfl ?_
      refine mi_add rfl ?_
      refine go_v (m := 245) (as := [.ref (c + 30), .int (iI (pi s 3 o)), .int (iI (e + 1))]) (r := []) rfl rfl rfl (S4.1.1 19 (by decide)) rfl rfl (kq_sub R hP S4 o3 (by omega) (by omega)) (fun v6 h6 hq => ?_)
      obtain ⟨s6, hv⟩ := hq
      rcases hv with ⟨rfl, S6, X6n⟩ | ⟨y6, rfl, l6, C6, S6, g6, X6⟩
      · show xx_go (xt_P z) (d + 8) 272 70 [some (.ref (c + 30)), some (.int (iI o)), some (.int (iI e)), some (.ref a2), some (.ref y4), none, none, none] [.null] h6 _
        refine go_a (pc' := 72) (ls' := [some (.ref (c + 30)), some (.int (iI o)), some (.int (iI e)), some (.ref a2), some (.ref y4), some (.null), none, none]) (st' := []) rfl rfl ?_
        refine go_a (pc' := 74) (ls' := [some (.ref (c + 30)), some (.int (iI o)), some (.int (iI e)), some (.ref a2), some (.ref y4), some (.null), none, none]) (st' := [.ref y4]) rfl rfl ?_
        refine go_a (pc' := 77) (ls' := [some (.ref (c + 30)), some (.int (iI o)), some (.int (iI e)), some (.ref a2), some (.ref y4), some (.null), none, none]) (st' := []) rfl rfl ?_
        refine go_a (pc' := 79) (ls' := [some (.ref (c + 30)), some (.int (iI o)), some (.int (iI e)), some (.ref a2), some (.ref y4), some (.null), none, none]) (st' := [.null]) rfl rfl ?_
        refine go_a (pc' := 82) (ls' := [some (.ref (c + 30)), some (.int (iI o)), some (.int (iI e)), some (.ref a2), some (.ref y4), some (.null), none, none]) (st' := []) rfl rfl ?_
        refine go_a (pc' := 83) (ls' := [some (.ref (c + 30)), some (.int (iI o)), some (.int (iI e)), some (.ref a2), some (.ref y4), some (.null), none, none]) (st' := [.null]) rfl rfl ?_
        exact go_r rfl rfl rfl rfl rfl rfl ⟨_, Or.inl ⟨rfl, KST_w S6 (by omega) (by omega) (by omega)⟩⟩
      · have z6 := S6.2.2.2.2.2
        have lu6 : s6.I 8 ≤ 25000 := by omega
        have e6 : s6.I 8 = s6.I 8 := rfl
        have u38 := KB_38 S6.2.1
        have Ta2_6 := TM_u (TM_kx Ta2_4 X6) (show _ ≤ s6.I 8 by omega)
        have Cy4_6 := CL_u (CL_kx C4 X6) (show _ ≤ s6.I 8 by omega)
        obtain ⟨mCy4_6, wCy4_6, cCy4_6⟩ := CL_cell Cy4_6
        obtain ⟨mC6, wC6, cC6⟩ := CL_cell C6
        show xx_go (xt_P z) (d + 8) 272 70 [some (.ref (c + 30)), some (.int (iI o)), some (.int (iI e)), some (.ref a2), some (.ref y4), none, none, none] [.ref y6] h6 _
        refine go_a (pc' := 72) (ls' := [some (.ref (c + 30)), some (.int (iI o)), some (.int (iI e)), some (.ref a2), some (.ref y4), some (.ref y6), none, none]) (st' := []) rfl rfl ?_
        refine go_a (pc' := 74) (ls' := [some (.ref (c + 30)), some (.int (iI o)), some (.int (iI e)), some (.ref a2), some (.ref y4), some (.ref y6), none, none]) (st' := [.ref y4]) rfl rfl ?_
        refine go_a (pc' := 77) (ls' := [some (.ref (c + 30)), some (.int (iI o)), some (.int (iI e)), some (.ref a2), some (.ref y4), some (.ref y6), none, none]) (st' := []) rfl rfl ?_
        refine go_a (pc' := 79) (ls' := [some (.ref (c + 30)), some (.int (iI o)), some (.int (iI e)), some (.ref a2), some (.ref y4), some (.ref y6), none, none]) (st' := [.ref y6]) rfl rfl ?_
        refine go_a (pc' := 84) (ls' := [some (.ref (c + 30)), some (.int (iI o)), some (.int (iI e)), some (.ref a2), some (.ref y4), some (.ref y6), none, none]) (st' := []) rfl rfl ?_
        refine go_a (pc' := 86) (ls' := [some (.ref (c + 30)), some (.int (iI o)), some (.int (iI e)), some (.ref a2), some (.ref y4), some (.ref y6), none, none]) (st' := [.ref y4]) rfl rfl ?_
        refine go_a (pc' := 87) (ls' := [some (.ref (c + 30)), some (.int (iI o)), some (.int (iI e)), some (.ref a2), some (.ref y4), some (.ref y6), none, none]) (st' := [.ref a2, .ref y4]) rfl rfl ?_
        obtain ⟨mD7, wD7, OD7, nD7, fD7, D7⟩ := id Cy4_6
        refine go_v (m := 262) (as := [.ref y4, .ref a2]) (r := []) rfl rfl rfl cCy4_6 rfl rfl (kh_has z (d + 6) c h6 s6 _ y4 mD7 wD7 _ OD7 nD7 fD7 D7 _ a2 n2 f2 Ta2_6) (fun v8 h8 hq => ?_)
        obtain ⟨hq, eq8⟩ := hq
        rw [eq8]
        clear eq8 h8
        rcases hq with rfl | rfl
        · show xx_go (xt_P z) (d + 8) 272 90 [some (.ref (c + 30)), some (.int (iI o)), some (.int (iI e)), some (.ref a2), some (.ref y4), some (.ref y6), none, none] [.int (iI 1)] h6 _
          refine mi_ne0 (t := 99) rfl rfl (by omega) (by omega) (fun _ => ?_) (fun q => absurd (show (1 : Int) ≠ 0 by decide) q)
          refine go_a (pc' := 100) (ls' := [some (.ref (c + 30)), some (.int (iI o)), some (.int (iI e)), some (.ref a2), some (.ref y4), some (.ref y6), none, none]) (st' := [.ref (c + 30)]) rfl rfl ?_
          refine go_get (v := .ref (c + 25)) rfl (S6.1.1 19 (by decide)) rfl rfl ?_
          refine go_a (pc' := 104) (ls' := [some (.ref (c + 30)), some (.int (iI o)), some (.int (iI e)), some (.ref a2), some (.ref y4), some (.ref y6), none, none]) (st' := [.ref a2, .ref (c + 25)]) rfl rfl ?_
          refine go_v (m := 273) (as := [.ref (c + 25), .ref a2]) (r := []) rfl rfl rfl (S6.1.1 16 (by decide)) rfl rfl (kq_mkn z (d + 3) S6.1 S6.2.1 (by omega) (MTM_T Ta2_6)) (fun v9 h9 hq => ?_)
          obtain ⟨w9, s9, rfl, E9, M9⟩ := hq
          have S9 := KST_STE S6 E9
          have e9 := (STE_8 E9).trans e6
          have Ta2_9 := TM_kx Ta2_6 E9.2.2.2
          have Cy4_9 := CL_kx Cy4_6 E9.2.2.2
          obtain ⟨mCy4_9, wCy4_9, cCy4_9⟩ := CL_cell Cy4_9
          have Cy6_9 := CL_kx C6 E9.2.2.2
          obtain ⟨mCy6_9, wCy6_9, cCy6_9⟩ := CL_cell Cy6_9
          show xx_go (xt_P z) (d + 8) 272 107 [some (.ref (c + 30)), some (.int (iI o)), some (.int (iI e)), some (.ref a2), some (.ref y4), some (.ref y6), none, none] [w9] h9 _
          refine go_a (pc' := 109) (ls' := [some (.ref (c + 30)), some (.int (iI o)), some (.int (iI e)), some (.ref a2), some (.ref y4), some (.ref y6), some (w9), none]) (st' := []) rfl (by rcases MTM_r M9 with rfl | ⟨_, rfl⟩ <;> rfl) ?_
          refine go_a (pc' := 111) (ls' := [some (.ref (c + 30)), some (.int (iI o)), some (.int (iI e)), some (.ref a2), some (.ref y4), some (.ref y6), some (w9), none]) (st' := [w9]) rfl (by rcases MTM_r M9 with rfl | ⟨_, rfl⟩ <;> rfl) ?_
          rcases M9 with rfl | ⟨a10, n10, f10, rfl, T10⟩
          · show xx_go (xt_P z) (d + 8) 272 111 [some (.ref (c + 30)), some (.int (iI o)), some (.int (iI e)), some (.ref a2), some (.ref y4), some (.ref y6), some (.null), none] [.null] h9 _
            refine go_a (pc' := 114) (ls' := [some (.ref (c + 30)), some (.int (iI o)), some (.int (iI e)), some (.ref a2), some (.ref y4), some (.ref y6), some (.null), none]) (st' := []) rfl rfl ?_
            refine go_a (pc' := 115) (ls' := [some (.ref (c + 30)), some (.int (iI o)), some (.int (iI e)), some (.ref a2), some (.ref y4), some (.ref y6), some (.null), none]) (st' := [.ref (c + 30)]) rfl rfl ?_
            refine go_a (pc' := 116) (ls' := [some (.ref (c + 30)), some (.int (iI o)), some (.int (iI e)), some (.ref a2), some (.ref y4), some (.ref y6), some (.null), none]) (st' := [.int (iI 4), .ref (c + 30)]) rfl rfl ?_
            refine go_v (m := 246) (as := [.ref (c + 30), .int (iI 4)]) (r := []) rfl rfl rfl (S9.1.1 19 (by decide)) rfl rfl (kq_failByP z (d + 7) (w := WD (SD s) o) S9 (by omega) (by omega) (by omega) (by omega) (by omega)) (fun v11 h11 hq => ?_)
            obtain ⟨rfl, R11⟩ := hq
            show xx_go (xt_P z) (d + 8) 272 119 [some (.ref (c + 30)), some (.int (iI o)), some (.int (iI e)), some (.ref a2), some (.ref y4), some (.ref y6), some (.null), none] [.null] h11 _
            exact go_r rfl rfl rfl rfl rfl rfl R11
          · show xx_go (xt_P z) (d + 8) 272 111 [some (.ref (c + 30)), some (.int (iI o)), some (.int (iI e)), some (.ref a2), some (.ref y4), some (.ref y6), some (.ref a10), none] [.ref a10] h9 _
            refine go_a (pc' := 120) (ls' := [some (.ref (c + 30)), some (.int (iI o)), some (.int (iI e)), some (.ref a2), some (.ref y4), some (.ref y6), some (.ref a10), none]) (st' := []) rfl rfl ?_
            refine go_a (pc' := 122) (ls' := [some (.ref (c + 30)), some (.int (iI o)), some (.int (iI e)), some (.ref a2), some (.ref y4), some (.ref y6), some (.ref a10), none]) (st' := [.ref y6]) rfl rfl ?_
            refine go_a (pc' := 124) (ls' := [some (.ref (c + 30)), some (.int (iI o)), some (.int (iI e)), some (.ref a2), some (.ref y4), some (.ref y6), some (.ref a10), none]) (st' := [.ref a10, .ref y6]) rfl rfl ?_
            obtain ⟨mD11, wD11, OD11, nD11, fD11, D11⟩ := id Cy6_9
            refine go_v (m := 262) (as := [.ref y6, .ref a10]) (r := []) rfl rfl rfl cCy6_9 rfl rfl (kh_has z (d + 6) c h9 s9 _ y6 mD11 wD11 _ OD11 nD11 fD11 D11 _ a10 n10 f10 T10) (fun v12 h12 hq => ?_)
            obtain ⟨hq, eq12⟩ := hq
            rw [eq12]
            clear eq12 h12
            rcases hq with rfl | rfl
            · show xx_go (xt_P z) (d + 8) 272 127 [some (.ref (c + 30)), some (.int (iI o)), some (.int (iI e)), some (.ref a2), some (.ref y4), some (.ref y6), some (.ref a10), none] [.int (iI 1)] h9 _
              refine mi_ne0 (t := 136) rfl rfl (by omega) (by omega) (fun _ => ?_) (fun q => absurd (show (1 : Int) ≠ 0 by decide) q)
              have l12_13 : 12 ≤ h9.length := by have := ki_lt S9.1 (i := 0) (by decide); have := S9.1.2.1 0 (by decide); omega
              refine go_new (ci := 12) (fs := [.null, .int 0, .int 0, .int 0]) rfl rfl rfl ?_
              show xx_go (xt_P z) (d + 8) 272 139 [some (.ref (c + 30)), some (.int (iI o)), some (.int (iI e)), some (.ref a2), some (.ref y4), some (.ref y6), some (.ref a10), none] [.ref h9.length] (h9 ++ [.inr (12, [.null, .int 0, .int 0, .int 0])]) _
              refine go_a (pc' := 140) (ls' := [some (.ref (c + 30)), some (.int (iI o)), some (.int (iI e)), some (.ref a2), some (.ref y4), some (.ref y6), some (.ref a10), none]) (st' := [.ref h9.length, .ref h9.length]) rfl rfl ?_
              refine go_i (m := 257) (as := [.ref h9.length]) (r := [.ref h9.length]) rfl rfl rfl rfl rfl (kh_init z (d + 7) h9 l12_13) (fun v13 h13 hq => ?_)
              obtain ⟨rfl, rfl⟩ := hq
              obtain ⟨K13, X13, B13⟩ := mkC_CL (u := (s6.I 8)) S9.1
              have C13 : CL c (mkC h9) s9 (s6.I 8) h9.length 0 := ⟨_, _, _, _, _, B13⟩
              have S13 := KST_X S9 K13 X13
              obtain ⟨x13, ex13⟩ : ∃ q : Nat, q = h9.length := ⟨_, rfl⟩
              have ne_y4_x13 : y4 ≠ x13 := by have := (List.getElem?_eq_some_iff.mp cCy4_9).1; omega
              have ne_y6_x13 : y6 ≠ x13 := by have := (List.getElem?_eq_some_iff.mp cCy6_9).1; omega
              have Ta2_13 := TM_kx Ta2_9 X13
              have Ta10_13 := TM_kx T10 X13
              have Cy4_13 := CL_kx Cy4_9 X13
              obtain ⟨mCy4_13, wCy4_13, cCy4_13⟩ := CL_cell Cy4_13
              have Cy6_13 := CL_kx Cy6_9 X13
              obtain ⟨mCy6_13, wCy6_13, cCy6_13⟩ := CL_cell Cy6_13
              obtain ⟨hM13, eM13⟩ : ∃ q : xx_H, q = mkC h9 := ⟨_, rfl⟩
              have hx13 : hp.length ≤ x13 := by rw [ex13]; exact KST_len S9
              rw [← ex13] at C13
              rw [← eM13, ← ex13]
              obtain ⟨mC13, wC13, cC13⟩ := CL_cell C13
              rw [← eM13] at S13 C13 cC13 Ta2_13 Ta10_13 Cy4_13 cCy4_13 Cy6_13 cCy6_13
              clear B13 K13 X13
              show xx_go (xt_P z) (d + 8) 272 143 [some (.ref (c + 30)), some (.int (iI o)), some (.int (iI e)), some (.ref a2), some (.ref y4), some (.ref y6), some (.ref a10), none] [.ref x13] hM13 _
              refine go_a (pc' := 145) (ls' := [some (.ref (c + 30)), some (.int (iI o)), some (.int (iI e)), some (.ref a2), some (.ref y4), some (.ref y6), some (.ref a10), some (.ref x13)]) (st' := []) rfl rfl ?_
              refine go_a (pc' := 147) (ls' := [some (.ref (c + 30)), some (.int (iI o)), some (.int (iI e)), some (.ref a2), some (.ref y4), some (.ref y6), some (.ref a10), some (.ref x13)]) (st' := [.ref x13]) rfl rfl ?_
              refine go_a (pc' := 148) (ls' := [some (.ref (c + 30)), some (.int (iI o)), some (.int (iI e)), some (.ref a2), some (.ref y4), some (.ref y6), some (.ref a10), some (.ref x13)]) (st' := [.ref a2, .ref x13]) rfl rfl ?_
              refine go_a (pc' := 150) (ls' := [some (.ref (c + 30)), some (.int (iI o)), some (.int (iI e)), some (.ref a2), some (.ref y4), some (.ref y6), some (.ref a10), some (.ref x13)]) (st' := [.ref y4, .ref a2, .ref x13]) rfl rfl ?_
              obtain ⟨mD14, wD14, OD14, nD14, fD14, D14⟩ := id Cy4_13
              refine go_v (m := 278) (as := [.ref x13, .ref a2, .ref y4]) (r := []) rfl rfl rfl cC13 rfl rfl (kh_addAllBut z (d + 4) c hM13 s9 _ x13 _ y4 mD14 wD14 _ OD14 nD14 fD14 a2 n2 f2 ne_y4_x13 D14 C13 Ta2_13) (fun v15 h15 hq => ?_)
              obtain ⟨rfl, F15, b15, C15⟩ := hq
              have S15 := KST_fe S13 C13 hx13 F15
              have Ta2_15 := TM_fe C13 F15 Ta2_13
              have Ta10_15 := TM_fe C13 F15 Ta10_13
              have Cy4_15 := CL_fe C13 F15 ne_y4_x13 Cy4_13
              obtain ⟨mCy4_15, wCy4_15, cCy4_15⟩ := CL_cell Cy4_15
              have Cy6_15 := CL_fe C13 F15 ne_y6_x13 Cy6_13
              obtain ⟨mCy6_15, wCy6_15, cCy6_15⟩ := CL_cell Cy6_15
              obtain ⟨mC15, wC15, cC15⟩ := CL_cell C15
              show xx_go (xt_P z) (d + 8) 272 153 [some (.ref (c + 30)), some (.int (iI o)), some (.int (iI e)), some (.ref a2), some (.ref y4), some (.ref y6), some (.ref a10), some (.ref x13)] [] h15 _
              refine go_a (pc' := 155) (ls' := [some (.ref (c + 30)), some (.int (iI o)), some (.int (iI e)), some (.ref a2), some (.ref y4), some (.ref y6), some (.ref a10), some (.ref x13)]) (st' := [.ref x13]) rfl rfl ?_
              refine go_a (pc' := 157) (ls' := [some (.ref (c + 30)), some (.int (iI o)), some (.int (iI e)), some (.ref a2), some (.ref y4), some (.ref y6), some (.ref a10), some (.ref x13)]) (st' := [.ref a10, .ref x13]) rfl rfl ?_
              refine go_a (pc' := 159) (ls' := [some (.ref (c + 30)), some (.int (iI o)), some (.int (iI e)), some (.ref a2), some (.ref y4), some (.ref y6), some (.ref a10), some (.ref x13)]) (st' := [.ref y6, .ref a10, .ref x13]) rfl rfl ?_
              obtain ⟨mD16, wD16, OD16, nD16, fD16, D16⟩ := id Cy6_15
              refine go_v (m := 278) (as := [.ref x13, .ref a10, .ref y6]) (r := []) rfl rfl rfl cC15 rfl rfl (kh_addAllBut z (d + 4) c h15 s9 _ x13 _ y6 mD16 wD16 _ OD16 nD16 fD16 a10 n10 f10 ne_y6_x13 D16 C15 Ta10_15) (fun v17 h17 hq => ?_)
              obtain ⟨rfl, F17, b17, C17⟩ := hq
              have S17 := KST_fe S15 C15 hx13 F17
              have Ta2_17 := TM_fe C15 F17 Ta2_15
              have Ta10_17 := TM_fe C15 F17 Ta10_15
              have Cy4_17 := CL_fe C15 F17 ne_y4_x13 Cy4_15
              obtain ⟨mCy4_17, wCy4_17, cCy4_17⟩ := CL_cell Cy4_17
              have Cy6_17 := CL_fe C15 F17 ne_y6_x13 Cy6_15
              obtain ⟨mCy6_17, wCy6_17, cCy6_17⟩ := CL_cell Cy6_17
              obtain ⟨mC17, wC17, cC17⟩ := CL_cell C17
              show xx_go (xt_P z) (d + 8) 272 162 [some (.ref (c + 30)), some (.int (iI o)), some (.int (iI e)), some (.ref a2), some (.ref y4), some (.ref y6), some (.ref a10), some (.ref x13)] [] h17 _
              refine go_a (pc' := 163) (ls' := [some (.ref (c + 30)), some (.int (iI o)), some (.int (iI e)), some (.ref a2), some (.ref y4), some (.ref y6), some (.ref a10), some (.ref x13)]) (st' := [.ref (c + 30)]) rfl rfl ?_
              refine go_a (pc' := 165) (ls' := [some (.ref (c + 30)), some (.int (iI o)), some (.int (iI e)), some (.ref a2), some (.ref y4), some (.ref y6), some (.ref a10), some (.ref x13)]) (st' := [.ref x13, .ref (c + 30)]) rfl rfl ?_
              refine go_v (m := 265) (as := [.ref (c + 30), .ref x13]) (r := []) rfl rfl rfl (S17.1.1 19 (by decide)) rfl rfl (kq_fin z (d + 6) (w := WD (SD s) o) S17 C17 e9 hx13 (by omega) (by omega) (by omega)) (fun v18 h18 hq => ?_)
              rcases hq with ⟨rfl, R18⟩ | ⟨r18, rfl, R18⟩
              · exact go_r rfl rfl rfl rfl rfl rfl R18
              · exact go_r rfl rfl rfl rfl rfl rfl R18
            · show xx_go (xt_P z) (d + 8) 272 127 [some (.ref (c + 30)), some (.int (iI o)), some (.int (iI e)), some (.ref a2), some (.ref y4), some (.ref y6), some (.ref a10), none] [.int (iI 0)] h9 _
              refine mi_ne0 (t := 136) rfl rfl (by omega) (by omega) (fun q => absurd rfl q) (fun _ => ?_)
              refine go_a (pc' := 131) (ls' := [some (.ref (c + 30)), some (.int (iI o)), some (.int (iI e)), some (.ref a2), some (.ref y4), some (.ref y6), some (.ref a10), none]) (st' := [.ref (c + 30)]) rfl rfl ?_
              refine go_a (pc' := 132) (ls' := [some (.ref (c + 30)), some (.int (iI o)), some (.int (iI e)), some (.ref a2), some (.ref y4), some (.ref y6), some (.ref a10), none]) (st' := [.int (iI o), .ref (c + 30)]) rfl rfl ?_
              refine go_v (m := 248) (as := [.ref (c + 30), .int (iI o)]) (r := []) rfl rfl rfl (S9.1.1 19 (by decide)) rfl rfl (kq_failAtP z (d + 7) (w := WD (SD s) o) S9 (by omega) (by omega) (by omega) (by omega) (by omega)) (fun v13 h13 hq => ?_)
              obtain ⟨rfl, R13⟩ := hq
              show xx_go (xt_P z) (d + 8) 272 135 [some (.ref (c + 30)), some (.int (iI o)), some (.int (iI e)), some (.ref a2), some (.ref y4), some (.ref y6), some (.ref a10), none] [.null] h13 _
              exact go_r rfl rfl rfl rfl rfl rfl R13
        · show xx_go (xt_P z) (d + 8) 272 90 [some (.ref (c + 30)), some (.int (iI o)), some (.int (iI e)), some (.ref a2), some (.ref y4), some (.ref y6), none, none] [.int (iI 0)] h6 _
          refine mi_ne0 (t := 99) rfl rfl (by omega) (by omega) (fun q => absurd rfl q) (fun _ => ?_)
          refine go_a (pc' := 94) (ls' := [some (.ref (c + 30)), some (.int (iI o)), some (.int (iI e)), some (.ref a2), some (.ref y4), some (.ref y6), none, none]) (st' := [.ref (c + 30)]) rfl rfl ?_
          refine go_a (pc' := 95) (ls' := [some (.ref (c + 30)), some (.int (iI o)), some (.int (iI e)), some (.ref a2), some (.ref y4), some (.ref y6), none, none]) (st' := [.int (iI o), .ref (c + 30)]) rfl rfl ?_
          refine go_v (m := 248) (as := [.ref (c + 30), .int (iI o)]) (r := []) rfl rfl rfl (S6.1.1 19 (by decide)) rfl rfl (kq_failAtP z (d + 7) (w := WD (SD s) o) S6 (by omega) (by omega) (by omega) (by omega) (by omega)) (fun v9 h9 hq => ?_)
          obtain ⟨rfl, R9⟩ := hq
          show xx_go (xt_P z) (d + 8) 272 98 [some (.ref (c + 30)), some (.int (iI o)), some (.int (iI e)), some (.ref a2), some (.ref y4), some (.ref y6), none, none] [.null] h9 _
          exact go_r rfl rfl rfl rfl rfl rfl R9
theorem kq_swap (z : Value) (d c : Nat) (o : Int) (q : Nat) (hp : xx_H) (s : KS) (NM : Int → Int) (hP : KPS c hp s NM) (ho : OB s o) (hL : isL (SD s) q o) (r2 : pi s 0 o ≠ 2) (w9 : WD (SD s) o ≤ 1000) (l25 : s.I 8 + WD (SD s) o ≤ 25000) (e : Int) (R : PRC z (d + 8) c (e + 1)) (hq : q = 2) : xx_cl (xt_P z) (d + 9) 282 [.ref (c + 30), .int (iI o), .int (iI e)] hp (fun v h1 => PRP c hp s (WD (SD s) o) v h1) := by
  have S0 := KST_rf hP
  have e0 : s.I 8 = s.I 8 := rfl
  have lu : s.I 8 ≤ 25000 := hP.2.2.2.2.2.2.2
  have u38 := KB_38 hP.2.1
  have oR := OB_R hP.2.1 ho
  have W := PI_W hP.2.2.1 ho hL (by omega) r2
  have p0 : VD (SD s) (rt (SD s) 0 o) = WD (SD s) (pi s 0 o) + VD (SD s) (rt (SD s) 1 o) ∧ OB s (pi s 0 o) ∧ 1 ≤ WD (SD s) (pi s 0 o) ∧ 0 ≤ VD (SD s) (rt (SD s) 1 o) := PI_w hP.2.2.1 ho hL (j := 0) (by omega)
  have p1 : VD (SD s) (rt (SD s) 1 o) = WD (SD s) (pi s 1 o) + VD (SD s) (rt (SD s) 2 o) ∧ OB s (pi s 1 o) ∧ 1 ≤ WD (SD s) (pi s 1 o) ∧ 0 ≤ VD (SD s) (rt (SD s) 2 o) := PI_w hP.2.2.1 ho hL (j := 1) (by omega)
  obtain ⟨p0, o0, i0, j0⟩ := p0
  obtain ⟨p1, o1, i1, j1⟩ := p1
  refine cl_go rfl ?_
  show xx_go (xt_P z) (d + 8) 282 0 [some (.ref (c + 30)), some (.int (iI o)), some (.int (iI e)), none, none, none] [] hp _
  refine go_a (pc' := 1) (ls' := [some (.ref (c + 30)), some (.int (iI o)), some (.int (iI e)), none, none, none]) (st' := [.ref (c + 30)]) rfl rfl ?_
  refine go_a (pc' := 2) (ls' := [some (.ref (c + 30)), some (.int (iI o)), some (.int (iI e)), none, none, none]) (st' := [.ref (c + 30), .ref (c + 30)]) rfl rfl ?_
  refine go_get (v := .ref (c + 4)) rfl (S0.1.1 19 (by decide)) rfl rfl ?_
  refine go_a (pc' := 6) (ls' := [some (.ref (c + 30)), some (.int (iI o)), some (.int (iI e)), none, none, none]) (st' := [.int (iI o), .ref (c + 4), .ref (c + 30)]) rfl rfl ?_
  refine go_a (pc' := 7) (ls' := [some (.ref (c + 30)), some (.int (iI o)), some (.int (iI e)), none, none, none]) (st' := [.int (iI 1), .int (iI o), .ref (c + 4), .ref (c + 30)]) rfl rfl ?_
  refine go_v (m := 202) (as := [.ref (c + 4), .int (iI o), .int (iI 1)]) (r := [.ref (c + 30)]) rfl rfl rfl (S0.1.1 3 (by decide)) rfl rfl (kq_part z (d + 6) S0 hP.2.2.1 ho hL (by omega) (by omega) (by omega)) (fun v1 h1 hq => ?_)
  obtain ⟨rfl, eq1⟩ := hq
  rw [eq1]
  clear eq1 h1
  show xx_go (xt_P z) (d + 8) 282 10 [some (.ref (c + 30)), some (.int (iI o)), some (.int (iI e)), none, none, none] [.int (iI (pi s 1 o)), .ref (c + 30)] hp _
  refine go_a (pc' := 11) (ls' := [some (.ref (c + 30)), some (.int (iI o)), some (.int (iI e)), none, none, none]) (st' := [.int (iI e), .int (iI (pi s 1 o)), .ref (c + 30)]) rfl rfl ?_
  refine go_a (pc' := 12) (ls' := [some (.ref (c + 30)), some (.int (iI o)), some (.int (iI e)), none, none, none]) (st' := [.int (iI 1), .int (iI e), .int (iI (pi s 1 o)), .ref (c + 30)]) rfl rfl ?_
  refine mi_add rfl ?_
  refine go_v (m := 245) (as := [.ref (c + 30), .int (iI (pi s 1 o)), .int (iI (e + 1))]) (r := []) rfl rfl rfl (S0.1.1 19 (by decide)) rfl rfl (kq_sub R hP S0 o1 (by omega) (by omega)) (fun v2 h2 hq => ?_)
  obtain ⟨s2, hv⟩ := hq
  rcases hv with ⟨rfl, S2, X2n⟩ | ⟨y2, rfl, l2, C2, S2, g2, X2⟩
  · show xx_go (xt_P z) (d + 8) 282 16 [some (.ref (c + 30)), some (.int (iI o)), some (.int (iI e)), none, none, none] [.null] h2 _
    refine go_a (pc' := 17) (ls' := [some (.ref (c + 30)), some (.int (iI o)), some (.int (iI e)), some (.null), none, none]) (st' := []) rfl rfl ?_
    refine go_a (pc' := 18) (ls' := [some (.ref (c + 30)), some (.int (iI o)), some (.int (iI e)), some (.null), none, none]) (st' := [.null]) rfl rfl ?_
    refine go_a (pc' := 21) (ls' := [some (.ref (c + 30)), some (.int (iI o)), some (.int (iI e)), some (.null), none, none]) (st' := []) rfl rfl ?_
    refine go_a (pc' := 22) (ls' := [some (.ref (c + 30)), some (.int (iI o)), some (.int (iI e)), some (.null), none, none]) (st' := [.null]) rfl rfl ?_
    exact go_r rfl rfl rfl rfl rfl rfl ⟨_, Or.inl ⟨rfl, KST_w S2 (by omega) (by omega) (by omega)⟩⟩
  · have z2 := S2.2.2.2.2.2
    have lu2 : s2.I 8 ≤ 25000 := by omega
    have e2 : s2.I 8 = s2.I 8 := rfl
    have u38 := KB_38 S2.2.1
    obtain ⟨mC2, wC2, cC2⟩ := CL_cell C2
    show xx_go (xt_P z) (d + 8) 282 16 [some (.ref (c + 30)), some (.int (iI o)), some (.int (iI e)), none, none, none] [.ref y2] h2 _
    refine go_a (pc' := 17) (ls' := [some (.ref (c + 30)), some (.int (iI o)), some (.int (iI e)), some (.ref y2), none, none]) (st' := []) rfl rfl ?_
    refine go_a (pc' := 18) (ls' := [some (.ref (c + 30)), some (.int (iI o)), some (.int (iI e)), some (.ref y2), none, none]) (st' := [.ref y2]) rfl rfl ?_
    refine go_a (pc' := 23) (ls' := [some (.ref (c + 30)), some (.int (iI o)), some (.int (iI e)), some (.ref y2), none, none]) (st' := []) rfl rfl ?_
    refine go_a (pc' := 24) (ls' := [some (.ref (c + 30)), some (.int (iI o)), some (.int (iI e)), some (.ref y2), none, none]) (st' := [.ref y2]) rfl rfl ?_
    refine go_a (pc' := 25) (ls' := [some (.ref (c + 30)), some (.int (iI o)), some (.int (iI e)), some (.ref y2), none, none]) (st' := [.int (iI 0), .ref y2]) rfl rfl ?_
    obtain ⟨mD3, wD3, OD3, nD3, fD3, D3⟩ := id C2
    refine go_v (m := 263) (as := [.ref y2, .int (iI 0)]) (r := []) rfl rfl rfl cC2 rfl rfl (kh_at z (d + 7) c 0 h2 s2 _ y2 mD3 wD3 _ OD3 nD3 fD3 D3 (by decide) (by decide)) (fun v4 h4 hq => ?_)
    obtain ⟨hq, eq4⟩ := hq
    rw [eq4]
    clear eq4 h4
    rcases hq with ⟨a4, rfl, -, -, T4⟩ | ⟨rfl, -⟩
    · show xx_go (xt_P z) (d + 8) 282 28 [some (.ref (c + 30)), some (.int (iI o)), some (.int (iI e)), some (.ref y2), none, none] [.ref a4] h2 _
      have nn := TM_n T4
      have t0 : tat (nD3 0) (fD3 0) 0 = (fD3 0) 0 := if_pos (by omega)
      have tR := (TMp T4).1.2.2.2 0
      refine go_a (pc' := 30) (ls' := [some (.ref (c + 30)), some (.int (iI o)), some (.int (iI e)), some (.ref y2), some (.ref a4), none]) (st' := []) rfl rfl ?_
      refine go_a (pc' := 32) (ls' := [some (.ref (c + 30)), some (.int (iI o)), some (.int (iI e)), some (.ref y2), some (.ref a4), none]) (st' := [.ref a4]) rfl rfl ?_
      refine go_a (pc' := 35) (ls' := [some (.ref (c + 30)), some (.int (iI o)), some (.int (iI e)), some (.ref y2), some (.ref a4), none]) (st' := []) rfl rfl ?_
      refine go_a (pc' := 37) (ls' := [some (.ref (c + 30)), some (.int (iI o)), some (.int (iI e)), some (.ref y2), some (.ref a4), none]) (st' := [.ref a4]) rfl rfl ?_
      refine go_a (pc' := 38) (ls' := [some (.ref (c + 30)), some (.int (iI o)), some (.int (iI e)), some (.ref y2), some (.ref a4), none]) (st' := [.int (iI 0), .ref a4]) rfl rfl ?_
      refine go_v (m := 230) (as := [.ref a4, .int (iI 0)]) (r := []) rfl rfl rfl (TMp T4).1.1 rfl rfl (kg_at z (d + 7) 0 a4 (a4 + 1) (nD3 0) (fD3 0) h2 (TMp T4).1 (by decide) (by decide)) (fun v5 h5 hq => ?_)
      obtain ⟨rfl, eq5⟩ := hq
      rw [eq5, t0]
      clear eq5 h5
      show xx_go (xt_P z) (d + 8) 282 41 [some (.ref (c + 30)), some (.int (iI o)), some (.int (iI e)), some (.ref y2), some (.ref a4), none] [.int (iI ((fD3 0) 0))] h2 _
      refine go_a (pc' := 44) (ls' := [some (.ref (c + 30)), some (.int (iI o)), some (.int (iI e)), some (.ref y2), some (.ref a4), none]) (st' := [.int (iI 138), .int (iI ((fD3 0) 0))]) rfl rfl ?_
      refine mi_eq (t := 53) rfl rfl (by omega) (by omega) (by omega) (by omega) (fun w1 => ?_) (fun w1 => ?_)
      · obtain ⟨q1, q2, q3⟩ := eq_parts T4 w1
        have l12_6 : 12 ≤ h2.length := by have := ki_lt S2.1 (i := 0) (by decide); have := S2.1.2.1 0 (by decide); omega
        refine go_new (ci := 12) (fs := [.null, .int 0, .int 0, .int 0]) rfl rfl rfl ?_
        show xx_go (xt_P z) (d + 8) 282 56 [some (.ref (c + 30)), some (.int (iI o)), some (.int (iI e)), some (.ref y2), some (.ref a4), none] [.ref h2.length] (h2 ++ [.inr (12, [.null, .int 0, .int 0, .int 0])]) _
        refine go_a (pc' := 57) (ls' := [some (.ref (c + 30)), some (.int (iI o)), some (.int (iI e)), some (.ref y2), some (.ref a4), none]) (st' := [.ref h2.length, .ref h2.length]) rfl rfl ?_
        refine go_i (m := 257) (as := [.ref h2.length]) (r := [.ref h2.length]) rfl rfl rfl rfl rfl (kh_init z (d + 7) h2 l12_6) (fun v6 h6 hq => ?_)
        obtain ⟨rfl, rfl⟩ := hq
        obtain ⟨K6, X6, B6⟩ := mkC_CL (u := (s2.I 8)) S2.1
        have C6 : CL c (mkC h2) s2 (s2.I 8) h2.length 0 := ⟨_, _, _, _, _, B6⟩
        have S6 := KST_X S2 K6 X6
        obtain ⟨x6, ex6⟩ : ∃ q : Nat, q = h2.length := ⟨_, rfl⟩
        have ne_y2_x6 : y2 ≠ x6 := by have := (List.getElem?_eq_some_iff.mp cC2).1; omega
        have Ta4_6 := TM_kx T4 X6
        have Cy2_6 := CL_kx C2 X6
        obtain ⟨mCy2_6, wCy2_6, cCy2_6⟩ := CL_cell Cy2_6
        obtain ⟨hM6, eM6⟩ : ∃ q : xx_H, q = mkC h2 := ⟨_, rfl⟩
        have hx6 : hp.length ≤ x6 := by rw [ex6]; exact KST_len S2
        rw [← ex6] at C6
        rw [← eM6, ← ex6]
        obtain ⟨mC6, wC6, cC6⟩ := CL_cell C6
        rw [← eM6] at S6 C6 cC6 Ta4_6 Cy2_6 cCy2_6
        clear B6 K6 X6
        show xx_go (xt_P z) (d + 8) 282 60 [some (.ref (c + 30)), some (.int (iI o)), some (.int (iI e)), some (.ref y2), some (.ref a4), none] [.ref x6] hM6 _
        refine go_a (pc' := 62) (ls' := [some (.ref (c + 30)), some (.int (iI o)), some (.int (iI e)), some (.ref y2), some (.ref a4), some (.ref x6)]) (st' := []) rfl rfl ?_
        refine go_a (pc' := 64) (ls' := [some (.ref (c + 30)), some (.int (iI o)), some (.int (iI e)), some (.ref y2), some (.ref a4), some (.ref x6)]) (st' := [.ref x6]) rfl rfl ?_
        refine go_a (pc' := 65) (ls' := [some (.ref (c + 30)), some (.int (iI o)), some (.int (iI e)), some (.ref y2), some (.ref a4), some (.ref x6)]) (st' := [.ref (c + 30), .ref x6]) rfl rfl ?_
        refine go_get (v := .ref (c + 25)) rfl (S6.1.1 19 (by decide)) rfl rfl ?_
        refine go_a (pc' := 69) (ls' := [some (.ref (c + 30)), some (.int (iI o)), some (.int (iI e)), some (.ref y2), some (.ref a4), some (.ref x6)]) (st' := [.int (iI 4), .ref (c + 25), .ref x6]) rfl rfl ?_
        refine go_a (pc' := 71) (ls' := [some (.ref (c + 30)), some (.int (iI o)), some (.int (iI e)), some (.ref y2), some (.ref a4), some (.ref x6)]) (st' := [.ref a4, .int (iI 4), .ref (c + 25), .ref x6]) rfl rfl ?_
        refine go_a (pc' := 73) (ls' := [some (.ref (c + 30)), some (.int (iI o)), some (.int (iI e)), some (.ref y2), some (.ref a4), some (.ref x6)]) (st' := [.ref a4, .ref a4, .int (iI 4), .ref (c + 25), .ref x6]) rfl rfl ?_
        refine go_a (pc' := 74) (ls' := [some (.ref (c + 30)), some (.int (iI o)), some (.int (iI e)), some (.ref y2), some (.ref a4), some (.ref x6)]) (st' := [.int (iI 1), .ref a4, .ref a4, .int (iI 4), .ref (c + 25), .ref x6]) rfl rfl ?_
        refine go_v (m := 231) (as := [.ref a4, .int (iI 1)]) (r := [.ref a4, .int (iI 4), .ref (c + 25), .ref x6]) rfl rfl rfl (TMp Ta4_6).1.1 rfl rfl (kg_behind z (d + 7) 1 a4 (a4 + 1) (nD3 0) (fD3 0) hM6 (TMp Ta4_6).1 (by decide) (by decide)) (fun v7 h7 hq => ?_)
        obtain ⟨rfl, eq7⟩ := hq
        rw [eq7]
        clear eq7 h7
        show xx_go (xt_P z) (d + 8) 282 77 [some (.ref (c + 30)), some (.int (iI o)), some (.int (iI e)), some (.ref y2), some (.ref a4), some (.ref x6)] [.int (iI (bh (nD3 0) (fD3 0) 1)), .ref a4, .int (iI 4), .ref (c + 25), .ref x6] hM6 _
        refine go_v (m := 274) (as := [.ref a4, .int (iI (bh (nD3 0) (fD3 0) 1))]) (r := [.int (iI 4), .ref (c + 25), .ref x6]) rfl rfl rfl (TMp Ta4_6).1.1 rfl rfl (kq_partT z (d + 4) S6.1 S6.2.1 Ta4_6 (by omega) (by omega)) (fun v8 h8 hq => ?_)
        obtain ⟨a8, n8, f8, rfl, E8, T8⟩ := hq
        have S8 := KST_STE S6 E8
        have Ta4_8 := TM_kx Ta4_6 E8.2.2.2
        have Cy2_8 := CL_kx Cy2_6 E8.2.2.2
        obtain ⟨mCy2_8, wCy2_8, cCy2_8⟩ := CL_cell Cy2_8
        have Cx6_8 := CL_kx C6 E8.2.2.2
        obtain ⟨mCx6_8, wCx6_8, cCx6_8⟩ := CL_cell Cx6_8
        show xx_go (xt_P z) (d + 8) 282 80 [some (.ref (c + 30)), some (.int (iI o)), some (.int (iI e)), some (.ref y2), some (.ref a4), some (.ref x6)] [.ref a8, .int (iI 4), .ref (c + 25), .ref x6] h8 _
        refine go_a (pc' := 82) (ls' := [some (.ref (c + 30)), some (.int (iI o)), some (.int (iI e)), some (.ref y2), some (.ref a4), some (.ref x6)]) (st' := [.ref a4, .ref a8, .int (iI 4), .ref (c + 25), .ref x6]) rfl rfl ?_
        refine go_a (pc' := 83) (ls' := [some (.ref (c + 30)), some (.int (iI o)), some (.int (iI e)), some (.ref y2), some (.ref a4), some (.ref x6)]) (st' := [.int (iI 1), .ref a4, .ref a8, .int (iI 4), .ref (c + 25), .ref x6]) rfl rfl ?_
        refine go_v (m := 274) (as := [.ref a4, .int (iI 1)]) (r := [.ref a8, .int (iI 4), .ref (c + 25), .ref x6]) rfl rfl rfl (TMp Ta4_8).1.1 rfl rfl (kq_partT z (d + 4) S8.1 S8.2.1 Ta4_8 (by omega) (by omega)) (fun v9 h9 hq => ?_)
        obtain ⟨a9, n9, f9, rfl, E9, T9⟩ := hq
        have S9 := KST_STE S8 E9
        have Ta4_9 := TM_kx Ta4_8 E9.2.2.2
        have Ta8_9 := TM_kx T8 E9.2.2.2
        have Cy2_9 := CL_kx Cy2_8 E9.2.2.2
        obtain ⟨mCy2_9, wCy2_9, cCy2_9⟩ := CL_cell Cy2_9
        have Cx6_9 := CL_kx Cx6_8 E9.2.2.2
        obtain ⟨mCx6_9, wCx6_9, cCx6_9⟩ := CL_cell Cx6_9
        show xx_go (xt_P z) (d + 8) 282 86 [some (.ref (c + 30)), some (.int (iI o)), some (.int (iI e)), some (.ref y2), some (.ref a4), some (.ref x6)] [.ref a9, .ref a8, .int (iI 4), .ref (c + 25), .ref x6] h9 _
        refine go_v (m := 259) (as := [.ref (c + 25), .int (iI 4), .ref a8, .ref a9]) (r := [.ref x6]) rfl rfl rfl (S9.1.1 16 (by decide)) rfl rfl (kq_mk2 z (d + 4) (t := 4) S9.1 S9.2.1 (by decide) (by decide) (MTM_T Ta8_9) (MTM_T T9) (TVx_k (n := 2) u38 lu2 (by decide) (by decide) (by decide) (by decide) (by decide) (by decide))) (fun v10 h10 hq => ?_)
        obtain ⟨w10, s10, rfl, E10, M10⟩ := hq
        have S10 := KST_STE S9 E10
        have e10 := (STE_8 E10).trans e2
        have Ta4_10 := TM_kx Ta4_9 E10.2.2.2
        have Ta8_10 := TM_kx Ta8_9 E10.2.2.2
        have Ta9_10 := TM_kx T9 E10.2.2.2
        have Cy2_10 := CL_kx Cy2_9 E10.2.2.2
        obtain ⟨mCy2_10, wCy2_10, cCy2_10⟩ := CL_cell Cy2_10
        have Cx6_10 := CL_kx Cx6_9 E10.2.2.2
        obtain ⟨mCx6_10, wCx6_10, cCx6_10⟩ := CL_cell Cx6_10
        show xx_go (xt_P z) (d + 8) 282 89 [some (.ref (c + 30)), some (.int (iI o)), some (.int (iI e)), some (.ref y2), some (.ref a4), some (.ref x6)] [w10, .ref x6] h10 _
        refine go_v (m := 261) (as := [.ref x6, w10]) (r := []) rfl rfl rfl cCx6_10 rfl rfl (kq_addC z (d + 5) Cx6_10 M10) (fun v11 h11 hq => ?_)
        obtain ⟨rfl, F11, b11, C11⟩ := hq
        have S11 := KST_fe S10 Cx6_10 hx6 F11
        have Ta4_11 := TM_fe Cx6_10 F11 Ta4_10
        have Ta8_11 := TM_fe Cx6_10 F11 Ta8_10
        have Ta9_11 := TM_fe Cx6_10 F11 Ta9_10
        have Mw10_11 := MTM_fe Cx6_10 F11 M10
        have Cy2_11 := CL_fe Cx6_10 F11 ne_y2_x6 Cy2_10
        obtain ⟨mCy2_11, wCy2_11, cCy2_11⟩ := CL_cell Cy2_11
        obtain ⟨mC11, wC11, cC11⟩ := CL_cell C11
        show xx_go (xt_P z) (d + 8) 282 92 [some (.ref (c + 30)), some (.int (iI o)), some (.int (iI e)), some (.ref y2), some (.ref a4), some (.ref x6)] [] h11 _
        refine go_a (pc' := 94) (ls' := [some (.ref (c + 30)), some (.int (iI o)), some (.int (iI e)), some (.ref y2), some (.ref a4), some (.ref x6)]) (st' := [.ref x6]) rfl rfl ?_
        refine go_a (pc' := 95) (ls' := [some (.ref (c + 30)), some (.int (iI o)), some (.int (iI e)), some (.ref y2), some (.ref a4), some (.ref x6)]) (st' := [.ref y2, .ref x6]) rfl rfl ?_
        refine go_a (pc' := 96) (ls' := [some (.ref (c + 30)), some (.int (iI o)), some (.int (iI e)), some (.ref y2), some (.ref a4), some (.ref x6)]) (st' := [.int (iI 1), .ref y2, .ref x6]) rfl rfl ?_
        obtain ⟨mD12, wD12, OD12, nD12, fD12, D12⟩ := id Cy2_11
        refine go_v (m := 271) (as := [.ref x6, .ref y2, .int (iI 1)]) (r := []) rfl rfl rfl cC11 rfl rfl (kh_addFrom z (d + 4) c 1 h11 s10 _ x6 _ y2 mD12 wD12 _ OD12 nD12 fD12 (by decide) (by decide) ne_y2_x6 D12 C11) (fun v13 h13 hq => ?_)
        obtain ⟨rfl, F13, b13, C13⟩ := hq
        have S13 := KST_fe S11 C11 hx6 F13
        have Ta4_13 := TM_fe C11 F13 Ta4_11
        have Ta8_13 := TM_fe C11 F13 Ta8_11
        have Ta9_13 := TM_fe C11 F13 Ta9_11
        have Mw10_13 := MTM_fe C11 F13 Mw10_11
        have Cy2_13 := CL_fe C11 F13 ne_y2_x6 Cy2_11
        obtain ⟨mCy2_13, wCy2_13, cCy2_13⟩ := CL_cell Cy2_13
        obtain ⟨mC13, wC13, cC13⟩ := CL_cell C13
        show xx_go (xt_P z) (d + 8) 282 99 [some (.ref (c + 30)), some (.int (iI o)), some (.int (iI e)), some (.ref y2), some (.ref a4), some (.ref x6)] [] h13 _
        refine go_a (pc' := 100) (ls' := [some (.ref (c + 30)), some (.int (iI o)), some (.int (iI e)), some (.ref y2), some (.ref a4), some (.ref x6)]) (st' := [.ref (c + 30)]) rfl rfl ?_
        refine go_a (pc' := 102) (ls' := [some (.ref (c + 30)), some (.int (iI o)), some (.int (iI e)), some (.ref y2), some (.ref a4), some (.ref x6)]) (st' := [.ref x6, .ref (c + 30)]) rfl rfl ?_
        refine go_v (m := 265) (as := [.ref (c + 30), .ref x6]) (r := []) rfl rfl rfl (S13.1.1 19 (by decide)) rfl rfl (kq_fin z (d + 6) (w := WD (SD s) o) S13 C13 e10 hx6 (by omega) (by omega) (by omega)) (fun v14 h14 hq => ?_)
        rcases hq with ⟨rfl, R14⟩ | ⟨r14, rfl, R14⟩
        · exact go_r rfl rfl rfl rfl rfl rfl R14
        · exact go_r rfl rfl rfl rfl rfl rfl R14
      · refine go_a (pc' := 48) (ls' := [some (.ref (c + 30)), some (.int (iI o)), some (.int (iI e)), some (.ref y2), some (.ref a4), none]) (st' := [.ref (c + 30)]) rfl rfl ?_
        refine go_a (pc' := 49) (ls' := [some (.ref (c + 30)), some (.int (iI o)), some (.int (iI e)), some (.ref y2), some (.ref a4), none]) (st' := [.int (iI o), .ref (c + 30)]) rfl rfl ?_
        refine go_v (m := 248) (as := [.ref (c + 30), .int (iI o)]) (r := []) rfl rfl rfl (S2.1.1 19 (by decide)) rfl rfl (kq_failAtP z (d + 7) (w := WD (SD s) o) S2 (by omega) (by omega) (by omega) (by omega) (by omega)) (fun v6 h6 hq => ?_)
        obtain ⟨rfl, R6⟩ := hq
        show xx_go (xt_P z) (d + 8) 282 52 [some (.ref (c + 30)), some (.int (iI o)), some (.int (iI e)), some (.ref y2), some (.ref a4), none] [.null] h6 _
        exact go_r rfl rfl rfl rfl rfl rfl R6
    · show xx_go (xt_P z) (d + 8) 282 28 [some (.ref (c + 30)), some (.int (iI o)), some (.int (iI e)), some (.ref y2), none, none] [.null] h2 _
      refine go_a (pc' := 30) (ls' := [some (.ref (c + 30)), some (.int (iI o)), some (.int (iI e)), some (.ref y2), some (.null), none]) (st' := []) rfl rfl ?_
      refine go_a (pc' := 32) (ls' := [some (.ref (c + 30)), some (.int (iI o)), some (.int (iI e)), some (.ref y2), some (.null), none]) (st' := [.null]) rfl rfl ?_
      refine go_a (pc' := 47) (ls' := [some (.ref (c + 30)), some (.int (iI o)), some (.int (iI e)), some (.ref y2), some (.null), none]) (st' := []) rfl rfl ?_
      refine go_a (pc' := 48) (ls' := [some (.ref (c + 30)), some (.int (iI o)), some (.int (iI e)), some (.ref y2), some (.null), none]) (st' := [.ref (c + 30)]) rfl rfl ?_
      refine go_a (pc' := 49) (ls' := [some (.ref (c + 30)), some (.int (iI o)), some (.int (iI e)), some (.ref y2), some (.null), none]) (st' := [.int (iI o), .ref (c + 30)]) rfl rfl ?_
      refine go_v (m := 248) (as := [.ref (c + 30), .int (iI o)]) (r := []) rfl rfl rfl (S2.1.1 19 (by decide)) rfl rfl (kq_failAtP z (d + 7) (w := WD (SD s) o) S2 (by omega) (by omega) (by omega) (by omega) (by omega)) (fun v5 h5 hq => ?_)
      obtain ⟨rfl, R5⟩ := hq
      show xx_go (xt_P z) (d + 8) 282 52 [some (.ref (c + 30)), some (.int (iI o)), some (.int (iI e)), some (.ref y2), some (.null), none] [.null] h5 _
      exact go_r rfl rfl rfl rfl rfl rfl R5
theorem kq_put_loop (z : Value) (d c : Nat) (o e w : Int) (hp : xx_H) (s : KS) (y1 y2 a b x : Nat) (u : Int) (x5 : Option Value) (m wq bq : Int) (O : Int → Option Nat) (nO : Int → Int) (fO : Int → Int → Int) (na : Int) (fa : Int → Int) (nb : Int) (fb : Int → Int) (α β γ : Int) (hx : hp.length ≤ x) (ne_y1_x : y1 ≠ x) (ne_y2_x : y2 ≠ x) (lw : α + 60 ≤ 100 * w - 386) (lb : β + 3630 ≤ 700 * w - 2390) (lg : γ ≤ w) : ∀ (j : Nat) (k b0 b1 : Int) (h0 : xx_H) (s1 : KS), (m - k).toNat ≤ j → 0 ≤ k → k ≤ m → KST c hp s h0 s1 (α + 2 * k) (β + 121 * k) γ → s1.I 8 = u → CL c h0 s1 u y1 b1 → CLS c h0 s1 u y2 m wq bq O nO fO → TM c h0 s1 u a na fa → TM c h0 s1 u b nb fb → CL c h0 s1 u x b0 → xx_go (xt_P z) (d + 8) 283 117 [some (.ref (c + 30)), some (.int (iI o)), some (.int (iI e)), some (.ref y1), some (.ref y2), x5, some (.ref a), some (.ref b), some (.ref x), some (.int (iI k))] [] h0 (fun v h1 => PRP c hp s w v h1) := by
  intro j
  induction j with
  | zero =>
    intro k b0 b1 h0 s1 hj k0 k1 S1 e1 C1 DQ Ta Tb Cx
    have mR := DQ.2.2.2.1
    obtain ⟨mCx, wCx, cCx⟩ := CL_cell Cx
    obtain ⟨mC1, wC1, cC1⟩ := CL_cell C1
    refine go_a (pc' := 119) (ls' := [some (.ref (c + 30)), some (.int (iI o)), some (.int (iI e)), some (.ref y1), some (.ref y2), x5, some (.ref a), some (.ref b), some (.ref x), some (.int (iI k))]) (st' := [.int (iI k)]) rfl rfl ?_
    refine go_a (pc' := 121) (ls' := [some (.ref (c + 30)), some (.int (iI o)), some (.int (iI e)), some (.ref y1), some (.ref y2), x5, some (.ref a), some (.ref b), some (.ref x), some (.int (iI k))]) (st' := [.ref y2, .int (iI k)]) rfl rfl ?_
    refine go_v (m := 280) (as := [.ref y2]) (r := [.int (iI k)]) rfl rfl rfl DQ.1 rfl rfl (kh_length z (d + 7) c h0 s1 u y2 m wq bq O nO fO DQ) (fun v1 h1 hq => ?_)
    obtain ⟨rfl, eq1⟩ := hq
    rw [eq1]
    clear eq1 h1
    show xx_go (xt_P z) (d + 8) 283 124 [some (.ref (c + 30)), some (.int (iI o)), some (.int (iI e)), some (.ref y1), some (.ref y2), x5, some (.ref a), some (.ref b), some (.ref x), some (.int (iI k))] [.int (iI m), .int (iI k)] h0 _
    refine mi_ge (t := 156) rfl rfl (by omega) (by omega) (by omega) (by omega) (fun w1 => ?_) (fun w1 => absurd (show k ≥ m by omega) w1)
    refine go_a (pc' := 158) (ls' := [some (.ref (c + 30)), some (.int (iI o)), some (.int (iI e)), some (.ref y1), some (.ref y2), x5, some (.ref a), some (.ref b), some (.ref x), some (.int (iI k))]) (st' := [.ref x]) rfl rfl ?_
    refine go_a (pc' := 159) (ls' := [some (.ref (c + 30)), some (.int (iI o)), some (.int (iI e)), some (.ref y1), some (.ref y2), x5, some (.ref a), some (.ref b), some (.ref x), some (.int (iI k))]) (st' := [.ref y1, .ref x]) rfl rfl ?_
    refine go_a (pc' := 160) (ls' := [some (.ref (c + 30)), some (.int (iI o)), some (.int (iI e)), some (.ref y1), some (.ref y2), x5, some (.ref a), some (.ref b), some (.ref x), some (.int (iI k))]) (st' := [.int (iI 1), .ref y1, .ref x]) rfl rfl ?_
    obtain ⟨mD2, wD2, OD2, nD2, fD2, D2⟩ := id C1
    refine go_v (m := 271) (as := [.ref x, .ref y1, .int (iI 1)]) (r := []) rfl rfl rfl cCx rfl rfl (kh_addFrom z (d + 4) c 1 h0 s1 _ x _ y1 mD2 wD2 _ OD2 nD2 fD2 (by decide) (by decide) ne_y1_x D2 Cx) (fun v3 h3 hq => ?_)
    obtain ⟨rfl, F3, b3, C3⟩ := hq
    have S3 := KST_fe S1 Cx hx F3
    have Ta_3 := TM_fe Cx F3 Ta
    have Tb_3 := TM_fe Cx F3 Tb
    have Cy1_3 := CL_fe Cx F3 ne_y1_x C1
    obtain ⟨mCy1_3, wCy1_3, cCy1_3⟩ := CL_cell Cy1_3
    have Dy2_3 := CLS_fe Cx F3 ne_y2_x DQ
    obtain ⟨mC3, wC3, cC3⟩ := CL_cell C3
    show xx_go (xt_P z) (d + 8) 283 163 [some (.ref (c + 30)), some (.int (iI o)), some (.int (iI e)), some (.ref y1), some (.ref y2), x5, some (.ref a), some (.ref b), some (.ref x), some (.int (iI k))] [] h3 _
    refine go_a (pc' := 164) (ls' := [some (.ref (c + 30)), some (.int (iI o)), some (.int (iI e)), some (.ref y1), some (.ref y2), x5, some (.ref a), some (.ref b), some (.ref x), some (.int (iI k))]) (st' := [.ref (c + 30)]) rfl rfl ?_
    refine go_a (pc' := 166) (ls' := [some (.ref (c + 30)), some (.int (iI o)), some (.int (iI e)), some (.ref y1), some (.ref y2), x5, some (.ref a), some (.ref b), some (.ref x), some (.int (iI k))]) (st' := [.ref x, .ref (c + 30)]) rfl rfl ?_
    refine go_v (m := 265) (as := [.ref (c + 30), .ref x]) (r := []) rfl rfl rfl (S3.1.1 19 (by decide)) rfl rfl (kq_fin z (d + 6) (w := w) S3 C3 e1 hx (by omega) (by omega) (by omega)) (fun v4 h4 hq => ?_)
    rcases hq with ⟨rfl, R4⟩ | ⟨r4, rfl, R4⟩
    · exact go_r rfl rfl rfl rfl rfl rfl R4
    · exact go_r rfl rfl rfl rfl rfl rfl R4
  | succ j ih =>
    intro k b0 b1 h0 s1 hj k0 k1 S1 e1 C1 DQ Ta Tb Cx
    have mR := DQ.2.2.2.1
    obtain ⟨mCx, wCx, cCx⟩ := CL_cell Cx
    obtain ⟨mC1, wC1, cC1⟩ := CL_cell C1
    refine go_a (pc' := 119) (ls' := [some (.ref (c + 30)), some (.int (iI o)), some (.int (iI e)), some (.ref y1), some (.ref y2), x5, some (.ref a), some (.ref b), some (.ref x), some (.int (iI k))]) (st' := [.int (iI k)]) rfl rfl ?_
    refine go_a (pc' := 121) (ls' := [some (.ref (c + 30)), some (.int (iI o)), some (.int (iI e)), some (.ref y1), some (.ref y2), x5, some (.ref a), some (.ref b), some (.ref x), some (.int (iI k))]) (st' := [.ref y2, .int (iI k)]) rfl rfl ?_
    refine go_v (m := 280) (as := [.ref y2]) (r := [.int (iI k)]) rfl rfl rfl DQ.1 rfl rfl (kh_length z (d + 7) c h0 s1 u y2 m wq bq O nO fO DQ) (fun v1 h1 hq => ?_)
    obtain ⟨rfl, eq1⟩ := hq
    rw [eq1]
    clear eq1 h1
    show xx_go (xt_P z) (d + 8) 283 124 [some (.ref (c + 30)), some (.int (iI o)), some (.int (iI e)), some (.ref y1), some (.ref y2), x5, some (.ref a), some (.ref b), some (.ref x), some (.int (iI k))] [.int (iI m), .int (iI k)] h0 _
    refine mi_ge (t := 156) rfl rfl (by omega) (by omega) (by omega) (by omega) (fun w1 => ?_) (fun w1 => ?_)
    · refine go_a (pc' := 158) (ls' := [some (.ref (c + 30)), some (.int (iI o)), some (.int (iI e)), some (.ref y1), some (.ref y2), x5, some (.ref a), some (.ref b), some (.ref x), some (.int (iI k))]) (st' := [.ref x]) rfl rfl ?_
      refine go_a (pc' := 159) (ls' := [some (.ref (c + 30)), some (.int (iI o)), some (.int (iI e)), some (.ref y1), some (.ref y2), x5, some (.ref a), some (.ref b), some (.ref x), some (.int (iI k))]) (st' := [.ref y1, .ref x]) rfl rfl ?_
      refine go_a (pc' := 160) (ls' := [some (.ref (c + 30)), some (.int (iI o)), some (.int (iI e)), some (.ref y1), some (.ref y2), x5, some (.ref a), some (.ref b), some (.ref x), some (.int (iI k))]) (st' := [.int (iI 1), .ref y1, .ref x]) rfl rfl ?_
      obtain ⟨mD2, wD2, OD2, nD2, fD2, D2⟩ := id C1
      refine go_v (m := 271) (as := [.ref x, .ref y1, .int (iI 1)]) (r := []) rfl rfl rfl cCx rfl rfl (kh_addFrom z (d + 4) c 1 h0 s1 _ x _ y1 mD2 wD2 _ OD2 nD2 fD2 (by decide) (by decide) ne_y1_x D2 Cx) (fun v3 h3 hq => ?_)
      obtain ⟨rfl, F3, b3, C3⟩ := hq
      have S3 := KST_fe S1 Cx hx F3
      have Ta_3 := TM_fe Cx F3 Ta
      have Tb_3 := TM_fe Cx F3 Tb
      have Cy1_3 := CL_fe Cx F3 ne_y1_x C1
      obtain ⟨mCy1_3, wCy1_3, cCy1_3⟩ := CL_cell Cy1_3
      have Dy2_3 := CLS_fe Cx F3 ne_y2_x DQ
      obtain ⟨mC3, wC3, cC3⟩ := CL_cell C3
      show xx_go (xt_P z) (d + 8) 283 163 [some (.ref (c + 30)), some (.int (iI o)), some (.int (iI e)), some (.ref y1), some (.ref y2), x5, some (.ref a), some (.ref b), some (.ref x), some (.int (iI k))] [] h3 _
      refine go_a (pc' := 164) (ls' := [some (.ref (c + 30)), some (.int (iI o)), some (.int (iI e)), some (.ref y1), some (.ref y2), x5, some (.ref a), some (.ref b), some (.ref x), some (.int (iI k))]) (st' := [.ref (c + 30)]) rfl rfl ?_
      refine go_a (pc' := 166) (ls' := [some (.ref (c + 30)), some (.int (iI o)), some (.int (iI e)), some (.ref y1), some (.ref y2), x5, some (.ref a), some (.ref b), some (.ref x), some (.int (iI k))]) (st' := [.ref x, .ref (c + 30)]) rfl rfl ?_
      refine go_v (m := 265) (as := [.ref (c + 30), .ref x]) (r := []) rfl rfl rfl (S3.1.1 19 (by decide)) rfl rfl (kq_fin z (d + 6) (w := w) S3 C3 e1 hx (by omega) (by omega) (by omega)) (fun v4 h4 hq => ?_)
      rcases hq with ⟨rfl, R4⟩ | ⟨r4, rfl, R4⟩
      · exact go_r rfl rfl rfl rfl rfl rfl R4
      · exact go_r rfl rfl rfl rfl rfl rfl R4
    · refine go_a (pc' := 129) (ls' := [some (.ref (c + 30)), some (.int (iI o)), some (.int (iI e)), some (.ref y1), some (.ref y2), x5, some (.ref a), some (.ref b), some (.ref x), some (.int (iI k))]) (st' := [.ref x]) rfl rfl ?_
      refine go_a (pc' := 130) (ls' := [some (.ref (c + 30)), some (.int (iI o)), some (.int (iI e)), some (.ref y1), some (.ref y2), x5, some (.ref a), some (.ref b), some (.ref x), some (.int (iI k))]) (st' := [.ref (c + 30), .ref x]) rfl rfl ?_
      refine go_get (v := .ref (c + 25)) rfl (S1.1.1 19 (by decide)) rfl rfl ?_
      refine go_a (pc' := 135) (ls' := [some (.ref (c + 30)), some (.int (iI o)), some (.int (iI e)), some (.ref y1), some (.ref y2), x5, some (.ref a), some (.ref b), some (.ref x), some (.int (iI k))]) (st' := [.ref y2, .ref (c + 25), .ref x]) rfl rfl ?_
      refine go_a (pc' := 137) (ls' := [some (.ref (c + 30)), some (.int (iI o)), some (.int (iI e)), some (.ref y1), some (.ref y2), x5, some (.ref a), some (.ref b), some (.ref x), some (.int (iI k))]) (st' := [.int (iI k), .ref y2, .ref (c + 25), .ref x]) rfl rfl ?_
      refine go_v (m := 263) (as := [.ref y2, .int (iI k)]) (r := [.ref (c + 25), .ref x]) rfl rfl rfl DQ.1 rfl rfl (kh_at z (d + 7) c k h0 s1 u y2 m wq bq O nO fO DQ (by omega) (by omega)) (fun v h3 hq => ?_)
      obtain ⟨hq, e9⟩ := hq
      rw [e9]
      clear e9 h3
      rcases hq with ⟨t, rfl, -, -, Tt⟩ | ⟨-, q⟩
      · show xx_go (xt_P z) (d + 8) 283 140 [some (.ref (c + 30)), some (.int (iI o)), some (.int (iI e)), some (.ref y1), some (.ref y2), x5, some (.ref a), some (.ref b), some (.ref x), some (.int (iI k))] [.ref t, .ref (c + 25), .ref x] h0 _
        refine go_a (pc' := 142) (ls' := [some (.ref (c + 30)), some (.int (iI o)), some (.int (iI e)), some (.ref y1), some (.ref y2), x5, some (.ref a), some (.ref b), some (.ref x), some (.int (iI k))]) (st' := [.ref a, .ref t, .ref (c + 25), .ref x]) rfl rfl ?_
        refine go_a (pc' := 144) (ls' := [some (.ref (c + 30)), some (.int (iI o)), some (.int (iI e)), some (.ref y1), some (.ref y2), x5, some (.ref a), some (.ref b), some (.ref x), some (.int (iI k))]) (st' := [.ref b, .ref a, .ref t, .ref (c + 25), .ref x]) rfl rfl ?_
        refine go_v (m := 284) (as := [.ref (c + 25), .ref t, .ref a, .ref b]) (r := [.ref x]) rfl rfl rfl (S1.1.1 16 (by decide)) rfl rfl (kg_replaced z (d + 4) c u t (nO k) (fO k) a na fa b nb fb h0 s1 S1.1 S1.2.1 Tt Ta Tb) (fun v3 h3 hq => ?_)
        obtain ⟨w3, s3, rfl, E3, M3⟩ := RPL_M hq
        have S3 := KST_STE S1 E3
        have e3 := (STE_8 E3).trans e1
        have Ta_3 := TM_kx Ta E3.2.2.2
        have Tb_3 := TM_kx Tb E3.2.2.2
        have Tt_3 := TM_kx Tt E3.2.2.2
        have Cx_3 := CL_kx Cx E3.2.2.2
        obtain ⟨mCx_3, wCx_3, cCx_3⟩ := CL_cell Cx_3
        have Cy1_3 := CL_kx C1 E3.2.2.2
        obtain ⟨mCy1_3, wCy1_3, cCy1_3⟩ := CL_cell Cy1_3
        have Dy2_3 := CLS_kx DQ E3.2.2.2
        show xx_go (xt_P z) (d + 8) 283 147 [some (.ref (c + 30)), some (.int (iI o)), some (.int (iI e)), some (.ref y1), some (.ref y2), x5, some (.ref a), some (.ref b), some (.ref x), some (.int (iI k))] [w3, .ref x] h3 _
        refine go_v (m := 261) (as := [.ref x, w3]) (r := []) rfl rfl rfl cCx_3 rfl rfl (kq_addC z (d + 5) Cx_3 M3) (fun v4 h4 hq => ?_)
        obtain ⟨rfl, F4, b4, C4⟩ := hq
        have S4 := KST_fe S3 Cx_3 hx F4
        have Ta_4 := TM_fe Cx_3 F4 Ta_3
        have Tb_4 := TM_fe Cx_3 F4 Tb_3
        have Tt_4 := TM_fe Cx_3 F4 Tt_3
        have Mw3_4 := MTM_fe Cx_3 F4 M3
        have Cy1_4 := CL_fe Cx_3 F4 ne_y1_x Cy1_3
        obtain ⟨mCy1_4, wCy1_4, cCy1_4⟩ := CL_cell Cy1_4
        have Dy2_4 := CLS_fe Cx_3 F4 ne_y2_x Dy2_3
        obtain ⟨mC4, wC4, cC4⟩ := CL_cell C4
        show xx_go (xt_P z) (d + 8) 283 150 [some (.ref (c + 30)), some (.int (iI o)), some (.int (iI e)), some (.ref y1), some (.ref y2), x5, some (.ref a), some (.ref b), some (.ref x), some (.int (iI k))] [] h4 _
        refine go_a (pc' := 153) (ls' := [some (.ref (c + 30)), some (.int (iI o)), some (.int (iI e)), some (.ref y1), some (.ref y2), x5, some (.ref a), some (.ref b), some (.ref x), some (.int (iI (k + 1)))]) (st' := []) rfl (by rw [← iI_add k 1]; rfl) ?_
        refine go_a (pc' := 117) (ls' := [some (.ref (c + 30)), some (.int (iI o)), some (.int (iI e)), some (.ref y1), some (.ref y2), x5, some (.ref a), some (.ref b), some (.ref x), some (.int (iI (k + 1)))]) (st' := []) rfl rfl ?_
        exact ih (k + 1) _ _ _ _ (by omega) (by omega) (by omega) (KST_w S4 (by omega) (by omega) (by omega)) e3 Cy1_4 Dy2_4 Ta_4 Tb_4 C4
      · exact absurd (show 0 ≤ k ∧ k < m by omega) q
theorem kq_put (z : Value) (d c : Nat) (o : Int) (q : Nat) (hp : xx_H) (s : KS) (NM : Int → Int) (hP : KPS c hp s NM) (ho : OB s o) (hL : isL (SD s) q o) (r2 : pi s 0 o ≠ 2) (w9 : WD (SD s) o ≤ 1000) (l25 : s.I 8 + WD (SD s) o ≤ 25000) (e : Int) (R : PRC z (d + 8) c (e + 1)) (hq : q = 3) : xx_cl (xt_P z) (d + 9) 283 [.ref (c + 30), .int (iI o), .int (iI e)] hp (fun v h1 => PRP c hp s (WD (SD s) o) v h1) := by
  have S0 := KST_rf hP
  have e0 : s.I 8 = s.I 8 := rfl
  have lu : s.I 8 ≤ 25000 := hP.2.2.2.2.2.2.2
  have u38 := KB_38 hP.2.1
  have oR := OB_R hP.2.1 ho
  have W := PI_W hP.2.2.1 ho hL (by omega) r2
  have p0 : VD (SD s) (rt (SD s) 0 o) = WD (SD s) (pi s 0 o) + VD (SD s) (rt (SD s) 1 o) ∧ OB s (pi s 0 o) ∧ 1 ≤ WD (SD s) (pi s 0 o) ∧ 0 ≤ VD (SD s) (rt (SD s) 1 o) := PI_w hP.2.2.1 ho hL (j := 0) (by omega)
  have p1 : VD (SD s) (rt (SD s) 1 o) = WD (SD s) (pi s 1 o) + VD (SD s) (rt (SD s) 2 o) ∧ OB s (pi s 1 o) ∧ 1 ≤ WD (SD s) (pi s 1 o) ∧ 0 ≤ VD (SD s) (rt (SD s) 2 o) := PI_w hP.2.2.1 ho hL (j := 1) (by omega)
  have p2 : VD (SD s) (rt (SD s) 2 o) = WD (SD s) (pi s 2 o) + VD (SD s) (rt (SD s) 3 o) ∧ OB s (pi s 2 o) ∧ 1 ≤ WD (SD s) (pi s 2 o) ∧ 0 ≤ VD (SD s) (rt (SD s) 3 o) := PI_w hP.2.2.1 ho hL (j := 2) (by omega)
  obtain ⟨p0, o0, i0, j0⟩ := p0
  obtain ⟨p1, o1, i1, j1⟩ := p1
  obtain ⟨p2, o2, i2, j2⟩ := p2
  refine cl_go rfl ?_
  show xx_go (xt_P z) (d + 8) 283 0 [some (.ref (c + 30)), some (.int (iI o)), some (.int (iI e)), none, none, none, none, none, none, none] [] hp _
  refine go_a (pc' := 1) (ls' := [some (.ref (c + 30)), some (.int (iI o)), some (.int (iI e)), none, none, none, none, none, none, none]) (st' := [.ref (c + 30)]) rfl rfl ?_
  refine go_a (pc' := 2) (ls' := [some (.ref (c + 30)), some (.int (iI o)), some (.int (iI e)), none, none, none, none, none, none, none]) (st' := [.ref (c + 30), .ref (c + 30)]) rfl rfl ?_
  refine go_get (v := .ref (c + 4)) rfl (S0.1.1 19 (by decide)) rfl rfl ?_
  refine go_a (pc' := 6) (ls' := [some (.ref (c + 30)), some (.int (iI o)), some (.int (iI e)), none, none, none, none, none, none, none]) (st' := [.int (iI o), .ref (c + 4), .ref (c + 30)]) rfl rfl ?_
  refine go_a (pc' := 7) (ls' := [some (.ref (c + 30)), some (.int (iI o)), some (.int (iI e)), none, none, none, none, none, none, none]) (st' := [.int (iI 1), .int (iI o), .ref (c + 4), .ref (c + 30)]) rfl rfl ?_
  refine go_v (m := 202) (as := [.ref (c + 4), .int (iI o), .int (iI 1)]) (r := [.ref (c + 30)]) rfl rfl rfl (S0.1.1 3 (by decide)) rfl rfl (kq_part z (d + 6) S0 hP.2.2.1 ho hL (by omega) (by omega) (by omega)) (fun v1 h1 hq => ?_)
  obtain ⟨rfl, eq1⟩ := hq
  rw [eq1]
  clear eq1 h1
  show xx_go (xt_P z) (d + 8) 283 10 [some (.ref (c + 30)), some (.int (iI o)), some (.int (iI e)), none, none, none, none, none, none, none] [.int (iI (pi s 1 o)), .ref (c + 30)] hp _
  refine go_a (pc' := 11) (ls' := [some (.ref (c + 30)), some (.int (iI o)), some (.int (iI e)), none, none, none, none, none, none, none]) (st' := [.int (iI e), .int (iI (pi s 1 o)), .ref (c + 30)]) rfl rfl ?_
  refine go_a (pc' := 12) (ls' := [some (.ref (c + 30)), some (.int (iI o)), some (.int (iI e)), none, none, none, none, none, none, none]) (st' := [.int (iI 1), .int (iI e), .int (iI (pi s 1 o)), .ref (c + 30)]) rfl rfl ?_
  refine mi_add rfl ?_
  refine go_v (m := 245) (as := [.ref (c + 30), .int (iI (pi s 1 o)), .int (iI (e + 1))]) (r := []) rfl rfl rfl (S0.1.1 19 (by decide)) rfl rfl (kq_sub R hP S0 o1 (by omega) (by omega)) (fun v2 h2 hq => ?_)
  obtain ⟨s2, hv⟩ := hq
  rcases hv with ⟨rfl, S2, X2n⟩ | ⟨y2, rfl, l2, C2, S2, g2, X2⟩
  · show xx_go (xt_P z) (d + 8) 283 16 [some (.ref (c + 30)), some (.int (iI o)), some (.int (iI e)), none, none, none, none, none, none, none] [.null] h2 _
    refine go_a (pc' := 17) (ls' := [some (.ref (c + 30)), some (.int (iI o)), some (.int (iI e)), some (.null), none, none, none, none, none, none]) (st' := []) rfl rfl ?_
    refine go_a (pc' := 18) (ls' := [some (.ref (c + 30)), some (.int (iI o)), some (.int (iI e)), some (.null), none, none, none, none, none, none]) (st' := [.null]) rfl rfl ?_
    refine go_a (pc' := 21) (ls' := [some (.ref (c + 30)), some (.int (iI o)), some (.int (iI e)), some (.null), none, none, none, none, none, none]) (st' := []) rfl rfl ?_
    refine go_a (pc' := 22) (ls' := [some (.ref (c + 30)), some (.int (iI o)), some (.int (iI e)), some (.null), none, none, none, none, none, none]) (st' := [.null]) rfl rfl ?_
    refine go_a (pc' := 41) (ls' := [some (.ref (c + 30)), some (.int (iI o)), some (.int (iI e)), some (.null), none, none, none, none, none, none]) (st' := [.null]) rfl rfl ?_
    refine go_a (pc' := 43) (ls' := [some (.ref (c + 30)), some (.int (iI o)), some (.int (iI e)), some (.null), some (.null), none, none, none, none, none]) (st' := []) rfl rfl ?_
    refine go_a (pc' := 44) (ls' := [some (.ref (c + 30)), some (.int (iI o)), some (.int (iI e)), some (.null), some (.null), none, none, none, none, none]) (st' := [.null]) rfl rfl ?_
    refine go_a (pc' := 52) (ls' := [some (.ref (c + 30)), some (.int (iI o)), some (.int (iI e)), some (.null), some (.null), none, none, none, none, none]) (st' := []) rfl rfl ?_
    refine go_a (pc' := 53) (ls' := [some (.ref (c + 30)), some (.int (iI o)), some (.int (iI e)), some (.null), some (.null), none, none, none, none, none]) (st' := [.null]) rfl rfl ?_
    exact go_r rfl rfl rfl rfl rfl rfl ⟨_, Or.inl ⟨rfl, KST_w S2 (by omega) (by omega) (by omega)⟩⟩
  · have z2 := S2.2.2.2.2.2
    have lu2 : s2.I 8 ≤ 25000 := by omega
    have e2 : s2.I 8 = s2.I 8 := rfl
    have u38 := KB_38 S2.2.1
    obtain ⟨mC2, wC2, cC2⟩ := CL_cell C2
    show xx_go (xt_P z) (d + 8) 283 16 [some (.ref (c + 30)), some (.int (iI o)), some (.int (iI e)), none, none, none, none, none, none, none] [.ref y2] h2 _
    refine go_a (pc' := 17) (ls' := [some (.ref (c + 30)), some (.int (iI o)), some (.int (iI e)), some (.ref y2), none, none, none, none, none, none]) (st' := []) rfl rfl ?_
    refine go_a (pc' := 18) (ls' := [some (.ref (c + 30)), some (.int (iI o)), some (.int (iI e)), some (.ref y2), none, none, none, none, none, none]) (st' := [.ref y2]) rfl rfl ?_
    refine go_a (pc' := 25) (ls' := [some (.ref (c + 30)), some (.int (iI o)), some (.int (iI e)), some (.ref y2), none, none, none, none, none, none]) (st' := []) rfl rfl ?_
    refine go_a (pc' := 26) (ls' := [some (.ref (c + 30)), some (.int (iI o)), some (.int (iI e)), some (.ref y2), none, none, none, none, none, none]) (st' := [.ref (c + 30)]) rfl rfl ?_
    refine go_a (pc' := 27) (ls' := [some (.ref (c + 30)), some (.int (iI o)), some (.int (iI e)), some (.ref y2), none, none, none, none, none, none]) (st' := [.ref (c + 30), .ref (c + 30)]) rfl rfl ?_
    refine go_get (v := .ref (c + 4)) rfl (S2.1.1 19 (by decide)) rfl rfl ?_
    refine go_a (pc' := 31) (ls' := [some (.ref (c + 30)), some (.int (iI o)), some (.int (iI e)), some (.ref y2), none, none, none, none, none, none]) (st' := [.int (iI o), .ref (c + 4), .ref (c + 30)]) rfl rfl ?_
    refine go_a (pc' := 32) (ls' := [some (.ref (c + 30)), some (.int (iI o)), some (.int (iI e)), some (.ref y2), none, none, none, none, none, none]) (st' := [.int (iI 2), .int (iI o), .ref (c + 4), .ref (c + 30)]) rfl rfl ?_
    refine go_v (m := 202) (as := [.ref (c + 4), .int (iI o), .int (iI 2)]) (r := [.ref (c + 30)]) rfl rfl rfl (S2.1.1 3 (by decide)) rfl rfl (kq_part z (d + 6) S2 hP.2.2.1 ho hL (by omega) (by omega) (by omega)) (fun v3 h3 hq => ?_)
    obtain ⟨rfl, eq3⟩ := hq
    rw [eq3]
    clear eq3 h3
    show xx_go (xt_P z) (d + 8) 283 35 [some (.ref (c + 30)), some (.int (iI o)), some (.int (iI e)), some (.ref y2), none, none, none, none, none, none] [.int (iI (pi s 2 o)), .ref (c + 30)] h2 _
    refine go_a (pc' := 36) (ls' := [some (.ref (c + 30)), some (.int (iI o)), some (.int (iI e)), some (.ref y2), none, none, none, none, none, none]) (st' := [.int (iI e), .int (iI (pi s 2 o)), .ref (c + 30)]) rfl rfl ?_
    refine go_a (pc' := 37) (ls' := [some (.ref (c + 30)), some (.int (iI o)), some (.int (iI e)), some (.ref y2), none, none, none, none, none, none]) (st' := [.int (iI 1), .int (iI e), .int (iI (pi s 2 o)), .ref (c + 30)]) rfl rfl ?_
    refine mi_add rfl ?_
    refine go_v (m := 245) (as := [.ref (c + 30), .int (iI (pi s 2 o)), .int (iI (e + 1))]) (r := []) rfl rfl rfl (S2.1.1 19 (by decide)) rfl rfl (kq_sub R hP S2 o2 (by omega) (by omega)) (fun v4 h4 hq => ?_)
    obtain ⟨s4, hv⟩ := hq
    rcases hv with ⟨rfl, S4, X4n⟩ | ⟨y4, rfl, l4, C4, S4, g4, X4⟩
    · show xx_go (xt_P z) (d + 8) 283 41 [some (.ref (c + 30)), some (.int (iI o)), some (.int (iI e)), some (.ref y2), none, none, none, none, none, none] [.null] h4 _
      refine go_a (pc' := 43) (ls' := [some (.ref (c + 30)), some (.int (iI o)), some (.int (iI e)), some (.ref y2), some (.null), none, none, none, none, none]) (st' := []) rfl rfl ?_
      refine go_a (pc' := 44) (ls' := [some (.ref (c + 30)), some (.int (iI o)), some (.int (iI e)), some (.ref y2), some (.null), none, none, none, none, none]) (st' := [.ref y2]) rfl rfl ?_
      refine go_a (pc' := 47) (ls' := [some (.ref (c + 30)), some (.int (iI o)), some (.int (iI e)), some (.ref y2), some (.null), none, none, none, none, none]) (st' := []) rfl rfl ?_
      refine go_a (pc' := 49) (ls' := [some (.ref (c + 30)), some (.int (iI o)), some (.int (iI e)), some (.ref y2), some (.null), none, none, none, none, none]) (st' := [.null]) rfl rfl ?_
      refine go_a (pc' := 52) (ls' := [some (.ref (c + 30)), some (.int (iI o)), some (.int (iI e)), some (.ref y2), some (.null), none, none, none, none, none]) (st' := []) rfl rfl ?_
      refine go_a (pc' := 53) (ls' := [some (.ref (c + 30)), some (.int (iI o)), some (.int (iI e)), some (.ref y2), some (.null), none, none, none, none, none]) (st' := [.null]) rfl rfl ?_
      exact go_r rfl rfl rfl rfl rfl rfl ⟨_, Or.inl ⟨rfl, KST_w S4 (by omega) (by omega) (by omega)⟩⟩
    · have z4 := S4.2.2.2.2.2
      have lu4 : s4.I 8 ≤ 25000 := by omega
      have e4 : s4.I 8 = s4.I 8 := rfl
      have u38 := KB_38 S4.2.1
      have Cy2_4 := CL_u (CL_kx C2 X4) (show _ ≤ s4.I 8 by omega)
      obtain ⟨mCy2_4, wCy2_4, cCy2_4⟩ := CL_cell Cy2_4
      obtain ⟨mC4, wC4, cC4⟩ := CL_cell C4
      show xx_go (xt_P z) (d + 8) 283 41 [some (.ref (c + 30)), some (.int (iI o)), some (.int (iI e)), some (.ref y2), none, none, none, none, none, none] [.ref y4] h4 _
      refine go_a (pc' := 43) (ls' := [some (.ref (c + 30)), some (.int (iI o)), some (.int (iI e)), some (.ref y2), some (.ref y4), none, none, none, none, none]) (st' := []) rfl rfl ?_
      refine go_a (pc' := 44) (ls' := [some (.ref (c + 30)), some (.int (iI o)), some (.int (iI e)), some (.ref y2), some (.ref y4), none, none, none, none, none]) (st' := [.ref y2]) rfl rfl ?_
      refine go_a (pc' := 47) (ls' := [some (.ref (c + 30)), some (.int (iI o)), some (.int (iI e)), some (.ref y2), some (.ref y4), none, none, none, none, none]) (st' := []) rfl rfl ?_
      refine go_a (pc' := 49) (ls' := [some (.ref (c + 30)), some (.int (iI o)), some (.int (iI e)), some (.ref y2), some (.ref y4), none, none, none, none, none]) (st' := [.ref y4]) rfl rfl ?_
      refine go_a (pc' := 54) (ls' := [some (.ref (c + 30)), some (.int (iI o)), some (.int (iI e)), some (.ref y2), some (.ref y4), none, none, none, none, none]) (st' := []) rfl rfl ?_
      refine go_a (pc' := 55) (ls' := [some (.ref (c + 30)), some (.int (iI o)), some (.int (iI e)), some (.ref y2), some (.ref y4), none, none, none, none, none]) (st' := [.ref y2]) rfl rfl ?_
      refine go_a (pc' := 56) (ls' := [some (.ref (c + 30)), some (.int (iI o)), some (.int (iI e)), some (.ref y2), some (.ref y4), none, none, none, none, none]) (st' := [.int (iI 0), .ref y2]) rfl rfl ?_
      obtain ⟨mD5, wD5, OD5, nD5, fD5, D5⟩ := id Cy2_4
      refine go_v (m := 263) (as := [.ref y2, .int (iI 0)]) (r := []) rfl rfl rfl cCy2_4 rfl rfl (kh_at z (d + 7) c 0 h4 s4 _ y2 mD5 wD5 _ OD5 nD5 fD5 D5 (by decide) (by decide)) (fun v6 h6 hq => ?_)
      obtain ⟨hq, eq6⟩ := hq
      rw [eq6]
      clear eq6 h6
      rcases hq with ⟨a6, rfl, -, -, T6⟩ | ⟨rfl, -⟩
      · show xx_go (xt_P z) (d + 8) 283 59 [some (.ref (c + 30)), some (.int (iI o)), some (.int (iI e)), some (.ref y2), some (.ref y4), none, none, none, none, none] [.ref a6] h4 _
        have nn := TM_n T6
        have t0 : tat (nD5 0) (fD5 0) 0 = (fD5 0) 0 := if_pos (by omega)
        have tR := (TMp T6).1.2.2.2 0
        refine go_a (pc' := 61) (ls' := [some (.ref (c + 30)), some (.int (iI o)), some (.int (iI e)), some (.ref y2), some (.ref y4), some (.ref a6), none, none, none, none]) (st' := []) rfl rfl ?_
        refine go_a (pc' := 63) (ls' := [some (.ref (c + 30)), some (.int (iI o)), some (.int (iI e)), some (.ref y2), some (.ref y4), some (.ref a6), none, none, none, none]) (st' := [.ref a6]) rfl rfl ?_
        refine go_a (pc' := 66) (ls' := [some (.ref (c + 30)), some (.int (iI o)), some (.int (iI e)), some (.ref y2), some (.ref y4), some (.ref a6), none, none, none, none]) (st' := []) rfl rfl ?_
        refine go_a (pc' := 68) (ls' := [some (.ref (c + 30)), some (.int (iI o)), some (.int (iI e)), some (.ref y2), some (.ref y4), some (.ref a6), none, none, none, none]) (st' := [.ref a6]) rfl rfl ?_
        refine go_a (pc' := 69) (ls' := [some (.ref (c + 30)), some (.int (iI o)), some (.int (iI e)), some (.ref y2), some (.ref y4), some (.ref a6), none, none, none, none]) (st' := [.int (iI 0), .ref a6]) rfl rfl ?_
        refine go_v (m := 230) (as := [.ref a6, .int (iI 0)]) (r := []) rfl rfl rfl (TMp T6).1.1 rfl rfl (kg_at z (d + 7) 0 a6 (a6 + 1) (nD5 0) (fD5 0) h4 (TMp T6).1 (by decide) (by decide)) (fun v7 h7 hq => ?_)
        obtain ⟨rfl, eq7⟩ := hq
        rw [eq7, t0]
        clear eq7 h7
        show xx_go (xt_P z) (d + 8) 283 72 [some (.ref (c + 30)), some (.int (iI o)), some (.int (iI e)), some (.ref y2), some (.ref y4), some (.ref a6), none, none, none, none] [.int (iI ((fD5 0) 0))] h4 _
        refine go_a (pc' := 75) (ls' := [some (.ref (c + 30)), some (.int (iI o)), some (.int (iI e)), some (.ref y2), some (.ref y4), some (.ref a6), none, none, none, none]) (st' := [.int (iI 138), .int (iI ((fD5 0) 0))]) rfl rfl ?_
        refine mi_eq (t := 84) rfl rfl (by omega) (by omega) (by omega) (by omega) (fun w1 => ?_) (fun w1 => ?_)
        · obtain ⟨q1, q2, q3⟩ := eq_parts T6 w1
          refine go_a (pc' := 86) (ls' := [some (.ref (c + 30)), some (.int (iI o)), some (.int (iI e)), some (.ref y2), some (.ref y4), some (.ref a6), none, none, none, none]) (st' := [.ref a6]) rfl rfl ?_
          refine go_a (pc' := 87) (ls' := [some (.ref (c + 30)), some (.int (iI o)), some (.int (iI e)), some (.ref y2), some (.ref y4), some (.ref a6), none, none, none, none]) (st' := [.int (iI 1), .ref a6]) rfl rfl ?_
          refine go_v (m := 274) (as := [.ref a6, .int (iI 1)]) (r := []) rfl rfl rfl (TMp T6).1.1 rfl rfl (kq_partT z (d + 4) S4.1 S4.2.1 T6 (by omega) (by omega)) (fun v8 h8 hq => ?_)
          obtain ⟨a8, n8, f8, rfl, E8, T8⟩ := hq
          have S8 := KST_STE S4 E8
          have Ta6_8 := TM_kx T6 E8.2.2.2
          have Cy2_8 := CL_kx Cy2_4 E8.2.2.2
          obtain ⟨mCy2_8, wCy2_8, cCy2_8⟩ := CL_cell Cy2_8
          have Cy4_8 := CL_kx C4 E8.2.2.2
          obtain ⟨mCy4_8, wCy4_8, cCy4_8⟩ := CL_cell Cy4_8
          show xx_go (xt_P z) (d + 8) 283 90 [some (.ref (c + 30)), some (.int (iI o)), some (.int (iI e)), some (.ref y2), some (.ref y4), some (.ref a6), none, none, none, none] [.ref a8] h8 _
          refine go_a (pc' := 92) (ls' := [some (.ref (c + 30)), some (.int (iI o)), some (.int (iI e)), some (.ref y2), some (.ref y4), some (.ref a6), some (.ref a8), none, none, none]) (st' := []) rfl rfl ?_
          refine go_a (pc' := 94) (ls' := [some (.ref (c + 30)), some (.int (iI o)), some (.int (iI e)), some (.ref y2), some (.ref y4), some (.ref a6), some (.ref a8), none, none, none]) (st' := [.ref a6]) rfl rfl ?_
          refine go_a (pc' := 96) (ls' := [some (.ref (c + 30)), some (.int (iI o)), some (.int (iI e)), some (.ref y2), some (.ref y4), some (.ref a6), some (.ref a8), none, none, none]) (st' := [.ref a6, .ref a6]) rfl rfl ?_
          refine go_a (pc' := 97) (ls' := [some (.ref (c + 30)), some (.int (iI o)), some (.int (iI e)), some (.ref y2), some (.ref y4), some (.ref a6), some (.ref a8), none, none, none]) (st' := [.int (iI 1), .ref a6, .ref a6]) rfl rfl ?_
          refine go_v (m := 231) (as := [.ref a6, .int (iI 1)]) (r := [.ref a6]) rfl rfl rfl (TMp Ta6_8).1.1 rfl rfl (kg_behind z (d + 7) 1 a6 (a6 + 1) (nD5 0) (fD5 0) h8 (TMp Ta6_8).1 (by decide) (by decide)) (fun v9 h9 hq => ?_)
          obtain ⟨rfl, eq9⟩ := hq
          rw [eq9]
          clear eq9 h9
          show xx_go (xt_P z) (d + 8) 283 100 [some (.ref (c + 30)), some (.int (iI o)), some (.int (iI e)), some (.ref y2), some (.ref y4), some (.ref a6), some (.ref a8), none, none, none] [.int (iI (bh (nD5 0) (fD5 0) 1)), .ref a6] h8 _
          refine go_v (m := 274) (as := [.ref a6, .int (iI (bh (nD5 0) (fD5 0) 1))]) (r := []) rfl rfl rfl (TMp Ta6_8).1.1 rfl rfl (kq_partT z (d + 4) S8.1 S8.2.1 Ta6_8 (by omega) (by omega)) (fun v10 h10 hq => ?_)
          obtain ⟨a10, n10, f10, rfl, E10, T10⟩ := hq
          have S10 := KST_STE S8 E10
          have Ta6_10 := TM_kx Ta6_8 E10.2.2.2
          have Ta8_10 := TM_kx T8 E10.2.2.2
          have Cy2_10 := CL_kx Cy2_8 E10.2.2.2
          obtain ⟨mCy2_10, wCy2_10, cCy2_10⟩ := CL_cell Cy2_10
          have Cy4_10 := CL_kx Cy4_8 E10.2.2.2
          obtain ⟨mCy4_10, wCy4_10, cCy4_10⟩ := CL_cell Cy4_10
          show xx_go (xt_P z) (d + 8) 283 103 [some (.ref (c + 30)), some (.int (iI o)), some (.int (iI e)), some (.ref y2), some (.ref y4), some (.ref a6), some (.ref a8), none, none, none] [.ref a10] h10 _
          refine go_a (pc' := 105) (ls' := [some (.ref (c + 30)), some (.int (iI o)), some (.int (iI e)), some (.ref y2), some (.ref y4), some (.ref a6), some (.ref a8), some (.ref a10), none, none]) (st' := []) rfl rfl ?_
          have l12_11 : 12 ≤ h10.length := by have := ki_lt S10.1 (i := 0) (by decide); have := S10.1.2.1 0 (by decide); omega
          refine go_new (ci := 12) (fs := [.null, .int 0, .int 0, .int 0]) rfl rfl rfl ?_
          show xx_go (xt_P z) (d + 8) 283 108 [some (.ref (c + 30)), some (.int (iI o)), some (.int (iI e)), some (.ref y2), some (.ref y4), some (.ref a6), some (.ref a8), some (.ref a10), none, none] [.ref h10.length] (h10 ++ [.inr (12, [.null, .int 0, .int 0, .int 0])]) _
          refine go_a (pc' := 109) (ls' := [some (.ref (c + 30)), some (.int (iI o)), some (.int (iI e)), some (.ref y2), some (.ref y4), some (.ref a6), some (.ref a8), some (.ref a10), none, none]) (st' := [.ref h10.length, .ref h10.length]) rfl rfl ?_
          refine go_i (m := 257) (as := [.ref h10.length]) (r := [.ref h10.length]) rfl rfl rfl rfl rfl (kh_init z (d + 7) h10 l12_11) (fun v11 h11 hq => ?_)
          obtain ⟨rfl, rfl⟩ := hq
          obtain ⟨K11, X11, B11⟩ := mkC_CL (u := (s4.I 8)) S10.1
          have C11 : CL c (mkC h10) s4 (s4.I 8) h10.length 0 := ⟨_, _, _, _, _, B11⟩
          have S11 := KST_X S10 K11 X11
          obtain ⟨x11, ex11⟩ : ∃ q : Nat, q = h10.length := ⟨_, rfl⟩
          have ne_y2_x11 : y2 ≠ x11 := by have := (List.getElem?_eq_some_iff.mp cCy2_10).1; omega
          have ne_y4_x11 : y4 ≠ x11 := by have := (List.getElem?_eq_some_iff.mp cCy4_10).1; omega
          have Ta6_11 := TM_kx Ta6_10 X11
          have Ta8_11 := TM_kx Ta8_10 X11
          have Ta10_11 := TM_kx T10 X11
          have Cy2_11 := CL_kx Cy2_10 X11
          obtain ⟨mCy2_11, wCy2_11, cCy2_11⟩ := CL_cell Cy2_11
          have Cy4_11 := CL_kx Cy4_10 X11
          obtain ⟨mCy4_11, wCy4_11, cCy4_11⟩ := CL_cell Cy4_11
          obtain ⟨hM11, eM11⟩ : ∃ q : xx_H, q = mkC h10 := ⟨_, rfl⟩
          have hx11 : hp.length ≤ x11 := by rw [ex11]; exact KST_len S10
          rw [← ex11] at C11
          rw [← eM11, ← ex11]
          obtain ⟨mC11, wC11, cC11⟩ := CL_cell C11
          rw [← eM11] at S11 C11 cC11 Ta6_11 Ta8_11 Ta10_11 Cy2_11 cCy2_11 Cy4_11 cCy4_11
          clear B11 K11 X11
          show xx_go (xt_P z) (d + 8) 283 112 [some (.ref (c + 30)), some (.int (iI o)), some (.int (iI e)), some (.ref y2), some (.ref y4), some (.ref a6), some (.ref a8), some (.ref a10), none, none] [.ref x11] hM11 _
          refine go_a (pc' := 114) (ls' := [some (.ref (c + 30)), some (.int (iI o)), some (.int (iI e)), some (.ref y2), some (.ref y4), some (.ref a6), some (.ref a8), some (.ref a10), some (.ref x11), none]) (st' := []) rfl rfl ?_
          refine go_a (pc' := 115) (ls' := [some (.ref (c + 30)), some (.int (iI o)), some (.int (iI e)), some (.ref y2), some (.ref y4), some (.ref a6), some (.ref a8), some (.ref a10), some (.ref x11), none]) (st' := [.int (iI 0)]) rfl rfl ?_
          refine go_a (pc' := 117) (ls' := [some (.ref (c + 30)), some (.int (iI o)), some (.int (iI e)), some (.ref y2), some (.ref y4), some (.ref a6), some (.ref a8), some (.ref a10), some (.ref x11), some (.int (iI 0))]) (st' := []) rfl rfl ?_
          obtain ⟨mD12, wD12, OD12, nD12, fD12, D12⟩ := id Cy4_11
          exact kq_put_loop z d c o e (WD (SD s) o) hp s y2 y4 a8 a10 x11 _ _ mD12 wD12 _ OD12 nD12 fD12 n8 f8 n10 f10 (100 * WD (SD s) o - 446) (700 * WD (SD s) o - 6020) (WD (SD s) o) hx11 ne_y2_x11 ne_y4_x11 (by omega) (by omega) (by omega) _ 0 _ _ _ _ (Nat.le_refl _) (by decide) D12.2.2.2.1.1 (KST_w S11 (by omega) (by omega) (by omega)) e4 Cy2_11 D12 Ta8_11 Ta10_11 C11
        · refine go_a (pc' := 79) (ls' := [some (.ref (c + 30)), some (.int (iI o)), some (.int (iI e)), some (.ref y2), some (.ref y4), some (.ref a6), none, none, none, none]) (st' := [.ref (c + 30)]) rfl rfl ?_
          refine go_a (pc' := 80) (ls' := [some (.ref (c + 30)), some (.int (iI o)), some (.int (iI e)), some (.ref y2), some (.ref y4), some (.ref a6), none, none, none, none]) (st' := [.int (iI o), .ref (c + 30)]) rfl rfl ?_
          refine go_v (m := 248) (as := [.ref (c + 30), .int (iI o)]) (r := []) rfl rfl rfl (S4.1.1 19 (by decide)) rfl rfl (kq_failAtP z (d + 7) (w := WD (SD s) o) S4 (by omega) (by omega) (by omega) (by omega) (by omega)) (fun v8 h8 hq => ?_)
          obtain ⟨rfl, R8⟩ := hq
          show xx_go (xt_P z) (d + 8) 283 83 [some (.ref (c + 30)), some (.int (iI o)), some (.int (iI e)), some (.ref y2), some (.ref y4), some (.ref a6), none, none, none, none] [.null] h8 _
          exact go_r rfl rfl rfl rfl rfl rfl R8
      · show xx_go (xt_P z) (d + 8) 283 59 [some (.ref (c + 30)), some (.int (iI o)), some (.int (iI e)), some (.ref y2), some (.ref y4), none, none, none, none, none] [.null] h4 _
        refine go_a (pc' := 61) (ls' := [some (.ref (c + 30)), some (.int (iI o)), some (.int (iI e)), some (.ref y2), some (.ref y4), some (.null), none, none, none, none]) (st' := []) rfl rfl ?_
        refine go_a (pc' := 63) (ls' := [some (.ref (c + 30)), some (.int (iI o)), some (.int (iI e)), some (.ref y2), some (.ref y4), some (.null), none, none, none, none]) (st' := [.null]) rfl rfl ?_
        refine go_a (pc' := 78) (ls' := [some (.ref (c + 30)), some (.int (iI o)), some (.int (iI e)), some (.ref y2), some (.ref y4), some (.null), none, none, none, none]) (st' := []) rfl rfl ?_
        refine go_a (pc' := 79) (ls' := [some (.ref (c + 30)), some (.int (iI o)), some (.int (iI e)), some (.ref y2), some (.ref y4), some (.null), none, none, none, none]) (st' := [.ref (c + 30)]) rfl rfl ?_
        refine go_a (pc' := 80) (ls' := [some (.ref (c + 30)), some (.int (iI o)), some (.int (iI e)), some (.ref y2), some (.ref y4), some (.null), none, none, none, none]) (st' := [.int (iI o), .ref (c + 30)]) rfl rfl ?_
        refine go_v (m := 248) (as := [.ref (c + 30), .int (iI o)]) (r := []) rfl rfl rfl (S4.1.1 19 (by decide)) rfl rfl (kq_failAtP z (d + 7) (w := WD (SD s) o) S4 (by omega) (by omega) (by omega) (by omega) (by omega)) (fun v7 h7 hq => ?_)
        obtain ⟨rfl, R7⟩ := hq
        show xx_go (xt_P z) (d + 8) 283 83 [some (.ref (c + 30)), some (.int (iI o)), some (.int (iI e)), some (.ref y2), some (.ref y4), some (.null), none, none, none, none] [.null] h7 _
        exact go_r rfl rfl rfl rfl rfl rfl R7
