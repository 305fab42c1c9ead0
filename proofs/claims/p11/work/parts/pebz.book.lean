theorem sp_ish_e {c : Nat} {x : ob_T} (h : sp_ish c x = true) : x = .var c := by
  match x with
  | .var v =>
    have e : v = c := by simpa [sp_ish] using h
    rw [e]
  | .num _ => exact absurd h Bool.false_ne_true
  | .add _ _ => exact absurd h Bool.false_ne_true
  | .sub _ _ => exact absurd h Bool.false_ne_true
  | .neg _ => exact absurd h Bool.false_ne_true
  | .mulL _ _ => exact absurd h Bool.false_ne_true
  | .mulR _ _ => exact absurd h Bool.false_ne_true
theorem sp_ish_r (c : Nat) : sp_ish c (.var c) = true := by
  show (c == c) = true
  exact beq_self_eq_true c
theorem VRG_TRL {N : Int → Int} {U : Int} {ft : Nat → Int} : ∀ (G : List Int) (Vs : List Nat), VRG N U G Vs → TRL N U ft G (sp_li (Vs.map .var)) ∧ (sp_ts ft (sp_li (Vs.map .var))).2.2 = (Vs.length : Int) ∧ G.length = Vs.length
  | [], [], _ => ⟨⟨rfl, rfl⟩, rfl, rfl⟩
  | [], _ :: _, h => absurd h id
  | _ :: _, [], h => absurd h id
  | g :: G, v :: Vs, h => by
    obtain ⟨⟨k, k0, k1, k2, k3, k4⟩, h2⟩ := h
    have ih := VRG_TRL (ft := ft) G Vs h2
    refine ⟨⟨[g], G, rfl, ⟨k, k0, k1, ?_⟩, ih.1⟩, ?_, congrArg (· + 1) ih.2.2⟩
    · rw [k2]
      unfold sp_vt
      rw [if_neg (by omega)]
    · show 1 + (sp_ts ft (sp_li (Vs.map .var))).2.2 = ((Vs.length + 1 : Nat) : Int)
      rw [ih.2.1]
      omega
section FBK
variable {c : Nat} {hp : xx_H} {s : KS} {NM : BKM} {x i : Int}
theorem FB_none (P : KPS c hp s NM) (ox : OB s x) (h : ∀ i : Int, 0 ≤ i → i < s.I 27 → (NM.1 i).1 ≠ x) : sp_fb NM.2.2.2.1 (DK s.N x) = none := by
  have KN := P.2.2.2.2.2.2.2.2
  have hX : KX s := ⟨P.2.2.1, KN.1.1⟩
  refine List.find?_eq_none.mpr (fun p hm q => ?_)
  obtain ⟨j, hj⟩ := List.getElem?_of_mem hm
  have lj := (List.getElem?_eq_some_iff.mp hj).1
  have le := KN.2.2.2.1.1.1
  obtain ⟨v, ps, B, a1, a2, -⟩ := KN.2.2.2.1.2.1 j (by omega)
  rw [hj] at a1
  cases a1
  have o1 := (KN.2.2.1.2.1 (j : Int) (by omega) (by omega)).1
  exact h (j : Int) (by omega) (by omega) (DK_inj P.2.1 hX o1.1 o1.2 ox.1 ox.2 (a2.trans (sp_ish_e q).symm))
theorem FB_some (P : KPS c hp s NM) (i0 : 0 ≤ i) (i1 : i < s.I 27) (i2 : (NM.1 i).1 = x) {m n : Int} {g f : Int → Int} (hR : BFR NM i m g n f) (m0 : 0 ≤ m ∧ m ≤ 6) (nm : 17 ≤ (NM.1 i).1) : ∃ (v : Nat) (ps : List Nat) (B : ob_T), sp_fb NM.2.2.2.1 (DK s.N x) = some (v, ps, B) ∧ NM.2.2.1 v = fcl i m ∧ VRG s.N (s.I 8) (rl m g) ps ∧ TRT s.N (s.I 8) NM.2.2.1 ([] ++ [fcl i m] ++ rl m g) (.add (.var v) (sp_li (ps.map .var))) ∧ TRT s.N (s.I 8) NM.2.2.1 (rl n f) B := by
  have KN := P.2.2.2.2.2.2.2.2
  have hX : KX s := ⟨P.2.2.1, KN.1.1⟩
  have b8 := P.2.1.2.2.2.2.2.1
  have le := KN.2.2.2.1.1.1
  obtain ⟨v, ps, B, a1, a2, a3, a4, -⟩ := KN.2.2.2.1.2.1 i.toNat (by omega)
  rw [show ((i.toNat : Nat) : Int) = i by omega] at a2 a3 a4
  have F := KN.2.2.1.2.1 i i0 i1
  have lm : ((NM.1 i).2.1.length : Int) = m := by
    rw [← hR.1, rl_len]
    omega
  have fv : NM.2.2.1 v = fcl i m := by
    have e := F.2
    rw [a2, lm] at e
    exact e
  have hit : sp_fb NM.2.2.2.1 (DK s.N x) = some (v, ps, B) := by
    rw [← i2, a2]
    match hf : sp_fb NM.2.2.2.1 (.var v) with
    | none =>
      have q := List.find?_eq_none.mp hf (v, ps, B) (List.mem_of_getElem? a1)
      exact absurd (sp_ish_r v) q
    | some p =>
      have q1 := sp_ish_e (c := p.1) (x := .var v) (List.find?_some (p := fun p : Nat × List Nat × ob_T => sp_ish p.1 (.var v)) hf)
      obtain ⟨j, hj⟩ := List.getElem?_of_mem (List.mem_of_find?_eq_some hf)
      have lj := (List.getElem?_eq_some_iff.mp hj).1
      obtain ⟨v2, ps2, B2, c1, c2, -⟩ := KN.2.2.2.1.2.1 j (by omega)
      rw [hj] at c1
      cases c1
      have G := KN.2.2.1.2.1 (j : Int) (by omega) (by omega)
      have e := G.2
      obtain ⟨aj, mj, gj, nj, fj, cj, -, ⟨pq, ta, -, -, -, -, -, mb, -⟩, hRj⟩ := P.2.2.2.2.1 (j : Int) (by omega) (by omega)
      rw [c2, ← q1] at e
      have e2 : fcl i m = fcl (j : Int) ((NM.1 (j : Int)).2.1.length : Int) := fv.symm.trans e
      have lj2 : ((NM.1 (j : Int)).2.1.length : Int) = mj := by
        rw [← hRj.1, rl_len]
        omega
      have ij : i.toNat = j := by
        rw [lj2] at e2
        unfold fcl at e2
        omega
      rw [ij, hj] at a1
      exact a1
  have nq : sp_isq (.var v) = false := by
    by_cases w : v = 85168940
    · have e2 := KNN_D KN.2.1 (i := 2) (by decide)
      have := DK_inj P.2.1 hX F.1.1 F.1.2 (k := 2) (by decide) (by omega) (by rw [a2, w]; exact e2.symm)
      omega
    · show (v == 85168940) = false
      simpa using w
  rw [← hR.1] at a3
  rw [← hR.2] at a4
  have L := VRG_TRL (ft := NM.2.2.1) _ _ a3
  refine ⟨v, ps, B, hit, fv, a3, Or.inr ⟨v, rl m g, rfl, nq, ?_, by rw [fv]; rfl, L.1, ?_⟩, a4⟩
  · rw [fv]
    unfold fcl
    omega
  · rw [L.2.1, ← L.2.2, rl_len, fv]
    unfold fcl
    omega
theorem TB_none (P : KPS c hp s NM) (ox : OB s x) (h : ∀ i : Int, 0 ≤ i → i < s.I 28 → (NM.2.1 i).1 ≠ x) : sp_tb NM.2.2.2.2 (DK s.N x) = none := by
  have KN := P.2.2.2.2.2.2.2.2
  have hX : KX s := ⟨P.2.2.1, KN.1.1⟩
  refine List.find?_eq_none.mpr (fun p hm q => ?_)
  obtain ⟨j, hj⟩ := List.getElem?_of_mem hm
  have lj := (List.getElem?_eq_some_iff.mp hj).1
  have le := KN.2.2.2.1.1.2.1
  obtain ⟨v, B, a1, o1, a2, -⟩ := KN.2.2.2.1.2.2 j (by omega)
  rw [hj] at a1
  cases a1
  exact h (j : Int) (by omega) (by omega) (DK_inj P.2.1 hX o1.1 o1.2 ox.1 ox.2 (a2.trans (sp_ish_e q).symm))
theorem TB_some (P : KPS c hp s NM) (i0 : 0 ≤ i) (i1 : i < s.I 28) (i2 : (NM.2.1 i).1 = x) {n : Int} {f : Int → Int} (hR : rl n f = (NM.2.1 i).2.2) : ∃ (v : Nat) (B : ob_T), sp_tb NM.2.2.2.2 (DK s.N x) = some (v, B) ∧ TRT s.N (s.I 8) NM.2.2.1 (rl n f) B := by
  have KN := P.2.2.2.2.2.2.2.2
  have hX : KX s := ⟨P.2.2.1, KN.1.1⟩
  have le := KN.2.2.2.1.1.2.1
  obtain ⟨v, B, a1, o1, a2, a3⟩ := KN.2.2.2.1.2.2 i.toNat (by omega)
  rw [show ((i.toNat : Nat) : Int) = i by omega] at a2 a3 o1
  rw [hR]
  refine ⟨v, B, ?_, a3⟩
  rw [← i2, a2]
  match hf : sp_tb NM.2.2.2.2 (.var v) with
  | none =>
    have q := List.find?_eq_none.mp hf (v, B) (List.mem_of_getElem? a1)
    exact absurd (sp_ish_r v) q
  | some p =>
    have q1 := sp_ish_e (c := p.1) (x := .var v) (List.find?_some (p := fun p : Nat × ob_T => sp_ish p.1 (.var v)) hf)
    obtain ⟨j, hj⟩ := List.getElem?_of_mem (List.mem_of_find?_eq_some hf)
    have lj := (List.getElem?_eq_some_iff.mp hj).1
    obtain ⟨v2, B2, c1, o2, c2, -⟩ := KN.2.2.2.1.2.2 j (by omega)
    rw [hj] at c1
    cases c1
    have ij := KN.2.2.2.1.1.2.2 i (j : Int) i0 i1 (by omega) (by omega) (DK_inj P.2.1 hX o1.1 o1.2 o2.1 o2.2 ((a2.trans q1).trans c2.symm))
    rw [show i.toNat = j by omega, hj] at a1
    exact a1
end FBK
theorem kq_definition (z : Value) (d c : Nat) (o : Int) (q : Nat) (hp : xx_H) (s : KS) (NM : BKM) (hP : KPS c hp s NM) (ho : OB s o) (hL : isL (SD s) q o) (r2 : pi s 0 o ≠ 2) (w9 : WD (SD s) o ≤ 1000) (l25 : s.I 8 + WD (SD s) o ≤ 25000) (hq : q = 2) : xx_cl (xt_P z) (d + 9) 267 [.ref (c + 30), .int (iI o)] hp (fun v h1 => PRP c hp s (WD (SD s) o) NM.2.2.1 (sp_cs2 ((sp_fb NM.2.2.2.1 (sp_p 1 (DK s.N o))).bind (fun p => sp_cz [sp_opO (sp_eq (.add (.var p.1) (sp_li (p.2.1.map .var))) p.2.2)])) (s.I 17)) (s.I 17) v h1) := by
  have S0 := KST_rf hP
  have e0 : s.I 8 = s.I 8 := rfl
  have lu : s.I 8 ≤ 25000 := hP.2.2.2.2.2.2.2.1
  have u38 := KB_38 hP.2.1
  have J0 : s.I 17 = s.I 17 := rfl
  have fB := KNT_FTB hP.2.2.2.2.2.2.2.2
  have oR := OB_R hP.2.1 ho
  have W := PI_W hP.2.2.1 ho hL (by omega) r2
  have p0 : VD (SD s) (rt (SD s) 0 o) = WD (SD s) (pi s 0 o) + VD (SD s) (rt (SD s) 1 o) ∧ OB s (pi s 0 o) ∧ 1 ≤ WD (SD s) (pi s 0 o) ∧ 0 ≤ VD (SD s) (rt (SD s) 1 o) := PI_w hP.2.2.1 ho hL (j := 0) (by omega)
  have p1 : VD (SD s) (rt (SD s) 1 o) = WD (SD s) (pi s 1 o) + VD (SD s) (rt (SD s) 2 o) ∧ OB s (pi s 1 o) ∧ 1 ≤ WD (SD s) (pi s 1 o) ∧ 0 ≤ VD (SD s) (rt (SD s) 2 o) := PI_w hP.2.2.1 ho hL (j := 1) (by omega)
  obtain ⟨p0, o0, i0, j0⟩ := p0
  obtain ⟨p1, o1, i1, j1⟩ := p1
  refine cl_go rfl ?_
  show xx_go (xt_P z) (d + 8) 267 0 [some (.ref (c + 30)), some (.int (iI o)), none, none] [] hp _
  refine go_a (pc' := 1) (ls' := [some (.ref (c + 30)), some (.int (iI o)), none, none]) (st' := [.ref (c + 30)]) rfl rfl ?_
  refine go_get (v := .ref (c + 21)) rfl (S0.1.1 19 (by decide)) rfl rfl ?_
  refine go_a (pc' := 5) (ls' := [some (.ref (c + 30)), some (.int (iI o)), none, none]) (st' := [.ref (c + 30), .ref (c + 21)]) rfl rfl ?_
  refine go_get (v := .ref (c + 4)) rfl (S0.1.1 19 (by decide)) rfl rfl ?_
  refine go_a (pc' := 9) (ls' := [some (.ref (c + 30)), some (.int (iI o)), none, none]) (st' := [.int (iI o), .ref (c + 4), .ref (c + 21)]) rfl rfl ?_
  refine go_a (pc' := 10) (ls' := [some (.ref (c + 30)), some (.int (iI o)), none, none]) (st' := [.int (iI 1), .int (iI o), .ref (c + 4), .ref (c + 21)]) rfl rfl ?_
  refine go_v (m := 202) (as := [.ref (c + 4), .int (iI o), .int (iI 1)]) (r := [.ref (c + 21)]) rfl rfl rfl (S0.1.1 3 (by decide)) rfl rfl (kq_part z (d + 6) S0 hP.2.2.1 ho hL (by omega) (by omega) (by omega)) (fun v1 h1 hq => ?_)
  obtain ⟨rfl, eq1⟩ := hq
  rw [eq1]
  clear eq1 h1
  show xx_go (xt_P z) (d + 8) 267 13 [some (.ref (c + 30)), some (.int (iI o)), none, none] [.int (iI (pi s 1 o)), .ref (c + 21)] hp _
  obtain ⟨bF, bT, bO, -⟩ := KST_BF hP S0 e0
  have pd := PI_D hP ho hL (j := 1) (by omega)
  refine go_v (m := 216) (as := [.ref (c + 21), .int (iI (pi s 1 o))]) (r := []) rfl rfl rfl (S0.1.1 12 (by decide)) rfl rfl (kf_function z (d + 4) c (pi s 1 o) hp s hP.1 hP.2.1 (s.I 8) NM bF (by omega) (OB_R hP.2.1 o1).1 (OB_R hP.2.1 o1).2) (fun v h1 hq => ?_)
  obtain ⟨hq, e9⟩ := hq
  rw [e9]
  clear e9 h1
  rcases hq with ⟨rfl, nn⟩ | ⟨a, i, m, gg, n, f, cb, rfl, ⟨b0, b1, b2, b3⟩, F0⟩
  · have nu := FB_none hP o1 nn
    rw [pd] at nu
    show xx_go (xt_P z) (d + 8) 267 16 [some (.ref (c + 30)), some (.int (iI o)), none, none] [.null] hp _
    refine go_a (pc' := 17) (ls' := [some (.ref (c + 30)), some (.int (iI o)), some (.null), none]) (st' := []) rfl rfl ?_
    refine go_a (pc' := 18) (ls' := [some (.ref (c + 30)), some (.int (iI o)), some (.null), none]) (st' := [.null]) rfl rfl ?_
    refine go_a (pc' := 21) (ls' := [some (.ref (c + 30)), some (.int (iI o)), some (.null), none]) (st' := []) rfl rfl ?_
    refine go_a (pc' := 22) (ls' := [some (.ref (c + 30)), some (.int (iI o)), some (.null), none]) (st' := [.ref (c + 30)]) rfl rfl ?_
    refine go_a (pc' := 23) (ls' := [some (.ref (c + 30)), some (.int (iI o)), some (.null), none]) (st' := [.int (iI o), .ref (c + 30)]) rfl rfl ?_
    refine go_v (m := 248) (as := [.ref (c + 30), .int (iI o)]) (r := []) rfl rfl rfl (S0.1.1 19 (by decide)) rfl rfl (kq_failAtP z (d + 7) (w := WD (SD s) o) S0 (by omega) (by omega) (by omega) (by omega) (by omega) (ft := NM.2.2.1) (ρ := (sp_cs2 ((sp_fb NM.2.2.2.1 (sp_p 1 (DK s.N o))).bind (fun p => sp_cz [sp_opO (sp_eq (.add (.var p.1) (sp_li (p.2.1.map .var))) p.2.2)])) (s.I 17))) (σ := (s.I 17)) (by rw [nu]; rfl) J0) (fun v2 h2 hq => ?_)
    obtain ⟨rfl, R2⟩ := hq
    show xx_go (xt_P z) (d + 8) 267 26 [some (.ref (c + 30)), some (.int (iI o)), some (.null), none] [.null] h2 _
    exact go_r rfl rfl rfl rfl rfl rfl R2
  · obtain ⟨bv, ps, BB, et, -, -, TRc, TRb⟩ := FB_some hP b0 b1 b2 b3 (by obtain ⟨_, _, -, -, -, -, -, q, -⟩ := F0; exact q) (by obtain ⟨_, _, -, -, -, -, -, -, q, -⟩ := F0; exact q.1)
    have Oc := OTR_op TRc
    rw [pd] at et
    have Ob : OTR s.N (s.I 8) NM.2.2.1 (some (rl n f)) (some BB) := TRb
    show xx_go (xt_P z) (d + 8) 267 16 [some (.ref (c + 30)), some (.int (iI o)), none, none] [.ref a] hp _
    refine go_a (pc' := 17) (ls' := [some (.ref (c + 30)), some (.int (iI o)), some (.ref a), none]) (st' := []) rfl rfl ?_
    refine go_a (pc' := 18) (ls' := [some (.ref (c + 30)), some (.int (iI o)), some (.ref a), none]) (st' := [.ref a]) rfl rfl ?_
    refine go_a (pc' := 27) (ls' := [some (.ref (c + 30)), some (.int (iI o)), some (.ref a), none]) (st' := []) rfl rfl ?_
    have l12_2 : 12 ≤ hp.length := by have := ki_lt S0.1 (i := 0) (by decide); have := S0.1.2.1 0 (by decide); omega
    refine go_new (ci := 12) (fs := [.null, .int 0, .int 0, .int 0]) rfl rfl rfl ?_
    show xx_go (xt_P z) (d + 8) 267 30 [some (.ref (c + 30)), some (.int (iI o)), some (.ref a), none] [.ref hp.length] (hp ++ [.inr (12, [.null, .int 0, .int 0, .int 0])]) _
    refine go_a (pc' := 31) (ls' := [some (.ref (c + 30)), some (.int (iI o)), some (.ref a), none]) (st' := [.ref hp.length, .ref hp.length]) rfl rfl ?_
    refine go_i (m := 257) (as := [.ref hp.length]) (r := [.ref hp.length]) rfl rfl rfl rfl rfl (kh_init z (d + 7) hp l12_2) (fun v2 h2 hq => ?_)
    obtain ⟨rfl, rfl⟩ := hq
    obtain ⟨K2, X2, B2⟩ := mkC_CL (u := (s.I 8)) S0.1
    have C2 : CL c (mkC hp) s (s.I 8) hp.length 0 [] := ⟨_, _, _, _, _, B2, rfl⟩
    have S2 := KST_X S0 K2 X2
    obtain ⟨x2, ex2⟩ : ∃ q : Nat, q = hp.length := ⟨_, rfl⟩
    have Fa_2 := FTH_kx F0 X2 (Int.le_refl _)
    obtain ⟨hM2, eM2⟩ : ∃ q : xx_H, q = mkC hp := ⟨_, rfl⟩
    have hx2 : hp.length ≤ x2 := by rw [ex2]; exact KST_len S0
    rw [← ex2] at C2
    rw [← eM2, ← ex2]
    obtain ⟨mC2, wC2, cC2⟩ := CL_cell C2
    rw [← eM2] at S2 C2 cC2 Fa_2
    clear B2 K2 X2
    show xx_go (xt_P z) (d + 8) 267 34 [some (.ref (c + 30)), some (.int (iI o)), some (.ref a), none] [.ref x2] hM2 _
    refine go_a (pc' := 35) (ls' := [some (.ref (c + 30)), some (.int (iI o)), some (.ref a), some (.ref x2)]) (st' := []) rfl rfl ?_
    refine go_a (pc' := 36) (ls' := [some (.ref (c + 30)), some (.int (iI o)), some (.ref a), some (.ref x2)]) (st' := [.ref x2]) rfl rfl ?_
    refine go_a (pc' := 37) (ls' := [some (.ref (c + 30)), some (.int (iI o)), some (.ref a), some (.ref x2)]) (st' := [.ref (c + 30), .ref x2]) rfl rfl ?_
    refine go_get (v := .ref (c + 25)) rfl (S2.1.1 19 (by decide)) rfl rfl ?_
    refine go_a (pc' := 41) (ls' := [some (.ref (c + 30)), some (.int (iI o)), some (.ref a), some (.ref x2)]) (st' := [.int (iI 4), .ref (c + 25), .ref x2]) rfl rfl ?_
    refine go_a (pc' := 42) (ls' := [some (.ref (c + 30)), some (.int (iI o)), some (.ref a), some (.ref x2)]) (st' := [.ref (c + 30), .int (iI 4), .ref (c + 25), .ref x2]) rfl rfl ?_
    refine go_get (v := .ref (c + 25)) rfl (S2.1.1 19 (by decide)) rfl rfl ?_
    refine go_a (pc' := 46) (ls' := [some (.ref (c + 30)), some (.int (iI o)), some (.ref a), some (.ref x2)]) (st' := [.ref a, .ref (c + 25), .int (iI 4), .ref (c + 25), .ref x2]) rfl rfl ?_
    obtain ⟨pq0, ta0, c0, -⟩ := id Fa_2
    refine go_v (m := 268) (as := [.ref (c + 25), .ref a]) (r := [.int (iI 4), .ref (c + 25), .ref x2]) rfl rfl rfl (S2.1.1 16 (by decide)) rfl rfl (kg_callOfItself z (d + 4) c _ hM2 s S2.1 S2.2.1 a i (NM.1 i).1 m gg n f cb (by omega) Fa_2) (fun v3 h3 hq => ?_)
    obtain ⟨w3, s3, rfl, E3, M3⟩ := hq
    have S3 := KST_STE S2 E3
    have e3 := (STE_8 E3).trans e0
    have Cx2_3 := CL_kx C2 E3.2.2.2
    obtain ⟨mCx2_3, wCx2_3, cCx2_3⟩ := CL_cell Cx2_3
    have Fa_3 := FTH_kx Fa_2 E3.2.2.2 (Int.le_refl _)
    have J3 := STE_17 E3 J0
    have OB_3 := STE_OTR E3 Ob
    have Ow3_3 := STE_OTR E3 Oc
    show xx_go (xt_P z) (d + 8) 267 49 [some (.ref (c + 30)), some (.int (iI o)), some (.ref a), some (.ref x2)] [w3, .int (iI 4), .ref (c + 25), .ref x2] h3 _
    obtain ⟨pq4, ta4, c1_4, c2_4, c3_4, c4_4, T4, c5_4⟩ := id Fa_3
    refine go_a (pc' := 50) (ls' := [some (.ref (c + 30)), some (.int (iI o)), some (.ref a), some (.ref x2)]) (st' := [.ref a, w3, .int (iI 4), .ref (c + 25), .ref x2]) rfl rfl ?_
    refine go_get (v := .ref ta4) rfl c1_4 rfl rfl ?_
    have Om5 := OTQ_2 (v := 26209844) (show sp_isq (.var 26209844) = false by decide) fB.2.1 (by decide) (by decide) Ow3_3 (OTQ_t OB_3 (by rw [rl_len]; have := TM_n T4; omega))
    refine go_v (m := 259) (as := [.ref (c + 25), .int (iI 4), w3, .ref ta4]) (r := [.ref x2]) rfl rfl rfl (S3.1.1 16 (by decide)) rfl rfl (kq_mk2 z (d + 4) (t := 4) S3.1 S3.2.1 (by decide) (by decide) M3 (MTM_T T4) (TVx_k (n := 2) u38 lu (by decide) (by decide) (by decide) (by decide) (by decide) (by decide))) (fun v5 h5 hq => ?_)
    obtain ⟨w5, s5, rfl, E5, M5⟩ := hq
    have S5 := KST_STE S3 E5
    have e5 := (STE_8 E5).trans e3
    have Tta4_5 := TM_kx T4 E5.2.2.2
    have Mw3_5 := MTM_kx M3 E5.2.2.2
    have Cx2_5 := CL_kx Cx2_3 E5.2.2.2
    obtain ⟨mCx2_5, wCx2_5, cCx2_5⟩ := CL_cell Cx2_5
    have Fa_5 := FTH_kx Fa_3 E5.2.2.2 (Int.le_refl _)
    have J5 := STE_17 E5 J3
    have OB_5 := STE_OTR E5 OB_3
    have Ow3_5 := STE_OTR E5 Ow3_3
    have Ota4_5 := STE_OTR E5 OB_3
    have Ow5_5 := STE_OTR E5 Om5
    show xx_go (xt_P z) (d + 8) 267 56 [some (.ref (c + 30)), some (.int (iI o)), some (.ref a), some (.ref x2)] [w5, .ref x2] h5 _
    refine go_v (m := 261) (as := [.ref x2, w5]) (r := []) rfl rfl rfl cCx2_5 rfl rfl (kq_addC z (d + 5) Cx2_5 M5) (fun v6 h6 hq => ?_)
    obtain ⟨rfl, F6, b6, Z6, q6, C6⟩ := hq
    have hz6 := q6
    have S6 := KST_fe S5 Cx2_5 hx2 F6
    have Tta4_6 := TM_fe Cx2_5 F6 Tta4_5
    have Mw3_6 := MTM_fe Cx2_5 F6 Mw3_5
    have Mw5_6 := MTM_fe Cx2_5 F6 M5
    obtain ⟨mC6, wC6, cC6⟩ := CL_cell C6
    show xx_go (xt_P z) (d + 8) 267 59 [some (.ref (c + 30)), some (.int (iI o)), some (.ref a), some (.ref x2)] [] h6 _
    refine go_a (pc' := 60) (ls' := [some (.ref (c + 30)), some (.int (iI o)), some (.ref a), some (.ref x2)]) (st' := [.ref (c + 30)]) rfl rfl ?_
    refine go_a (pc' := 61) (ls' := [some (.ref (c + 30)), some (.int (iI o)), some (.ref a), some (.ref x2)]) (st' := [.ref x2, .ref (c + 30)]) rfl rfl ?_
    refine go_v (m := 265) (as := [.ref (c + 30), .ref x2]) (r := []) rfl rfl rfl (S6.1.1 19 (by decide)) rfl rfl (kq_fin z (d + 6) (w := WD (SD s) o) (ρ := (sp_cs2 ((sp_fb NM.2.2.2.1 (sp_p 1 (DK s.N o))).bind (fun p => sp_cz [sp_opO (sp_eq (.add (.var p.1) (sp_li (p.2.1.map .var))) p.2.2)])) (s.I 17))) (σ := (s.I 17)) hP S6 C6 (ITR_one Ow5_5 ITR_nil) hz6 (by rw [et, J5]; rfl) J5 e5 hx2 (by omega) (by omega) (by omega)) (fun v7 h7 hq => ?_)
    rcases hq with ⟨rfl, R7⟩ | ⟨r7, rfl, R7⟩
    · exact go_r rfl rfl rfl rfl rfl rfl R7
    · exact go_r rfl rfl rfl rfl rfl rfl R7
theorem kq_theorem (z : Value) (d c : Nat) (o : Int) (q : Nat) (hp : xx_H) (s : KS) (NM : BKM) (hP : KPS c hp s NM) (ho : OB s o) (hL : isL (SD s) q o) (r2 : pi s 0 o ≠ 2) (w9 : WD (SD s) o ≤ 1000) (l25 : s.I 8 + WD (SD s) o ≤ 25000) (hq : q = 2) : xx_cl (xt_P z) (d + 9) 269 [.ref (c + 30), .int (iI o)] hp (fun v h1 => PRP c hp s (WD (SD s) o) NM.2.2.1 (sp_cs2 ((sp_tb NM.2.2.2.2 (sp_p 1 (DK s.N o))).bind (fun p => sp_cz [some p.2])) (s.I 17)) (s.I 17) v h1) := by
  have S0 := KST_rf hP
  have e0 : s.I 8 = s.I 8 := rfl
  have lu : s.I 8 ≤ 25000 := hP.2.2.2.2.2.2.2.1
  have u38 := KB_38 hP.2.1
  have J0 : s.I 17 = s.I 17 := rfl
  have fB := KNT_FTB hP.2.2.2.2.2.2.2.2
  have oR := OB_R hP.2.1 ho
  have W := PI_W hP.2.2.1 ho hL (by omega) r2
  have p0 : VD (SD s) (rt (SD s) 0 o) = WD (SD s) (pi s 0 o) + VD (SD s) (rt (SD s) 1 o) ∧ OB s (pi s 0 o) ∧ 1 ≤ WD (SD s) (pi s 0 o) ∧ 0 ≤ VD (SD s) (rt (SD s) 1 o) := PI_w hP.2.2.1 ho hL (j := 0) (by omega)
  have p1 : VD (SD s) (rt (SD s) 1 o) = WD (SD s) (pi s 1 o) + VD (SD s) (rt (SD s) 2 o) ∧ OB s (pi s 1 o) ∧ 1 ≤ WD (SD s) (pi s 1 o) ∧ 0 ≤ VD (SD s) (rt (SD s) 2 o) := PI_w hP.2.2.1 ho hL (j := 1) (by omega)
  obtain ⟨p0, o0, i0, j0⟩ := p0
  obtain ⟨p1, o1, i1, j1⟩ := p1
  refine cl_go rfl ?_
  show xx_go (xt_P z) (d + 8) 269 0 [some (.ref (c + 30)), some (.int (iI o)), none, none] [] hp _
  refine go_a (pc' := 1) (ls' := [some (.ref (c + 30)), some (.int (iI o)), none, none]) (st' := [.ref (c + 30)]) rfl rfl ?_
  refine go_get (v := .ref (c + 21)) rfl (S0.1.1 19 (by decide)) rfl rfl ?_
  refine go_a (pc' := 5) (ls' := [some (.ref (c + 30)), some (.int (iI o)), none, none]) (st' := [.ref (c + 30), .ref (c + 21)]) rfl rfl ?_
  refine go_get (v := .ref (c + 4)) rfl (S0.1.1 19 (by decide)) rfl rfl ?_
  refine go_a (pc' := 9) (ls' := [some (.ref (c + 30)), some (.int (iI o)), none, none]) (st' := [.int (iI o), .ref (c + 4), .ref (c + 21)]) rfl rfl ?_
  refine go_a (pc' := 10) (ls' := [some (.ref (c + 30)), some (.int (iI o)), none, none]) (st' := [.int (iI 1), .int (iI o), .ref (c + 4), .ref (c + 21)]) rfl rfl ?_
  refine go_v (m := 202) (as := [.ref (c + 4), .int (iI o), .int (iI 1)]) (r := [.ref (c + 21)]) rfl rfl rfl (S0.1.1 3 (by decide)) rfl rfl (kq_part z (d + 6) S0 hP.2.2.1 ho hL (by omega) (by omega) (by omega)) (fun v1 h1 hq => ?_)
  obtain ⟨rfl, eq1⟩ := hq
  rw [eq1]
  clear eq1 h1
  show xx_go (xt_P z) (d + 8) 269 13 [some (.ref (c + 30)), some (.int (iI o)), none, none] [.int (iI (pi s 1 o)), .ref (c + 21)] hp _
  obtain ⟨bF, bT, bO, -⟩ := KST_BF hP S0 e0
  have pd := PI_D hP ho hL (j := 1) (by omega)
  refine go_v (m := 243) (as := [.ref (c + 21), .int (iI (pi s 1 o))]) (r := []) rfl rfl rfl (S0.1.1 12 (by decide)) rfl rfl (kf_theorem z (d + 4) c (pi s 1 o) hp s hP.1 hP.2.1 (s.I 8) NM bT (by omega) (OB_R hP.2.1 o1).1 (OB_R hP.2.1 o1).2) (fun v h1 hq => ?_)
  obtain ⟨hq, e9⟩ := hq
  rw [e9]
  clear e9 h1
  rcases hq with ⟨rfl, nn⟩ | ⟨a, i, n, f, cb, rfl, ⟨b0, b1, b2, b3⟩, F0⟩
  · have nu := TB_none hP o1 nn
    rw [pd] at nu
    show xx_go (xt_P z) (d + 8) 269 16 [some (.ref (c + 30)), some (.int (iI o)), none, none] [.null] hp _
    refine go_a (pc' := 17) (ls' := [some (.ref (c + 30)), some (.int (iI o)), some (.null), none]) (st' := []) rfl rfl ?_
    refine go_a (pc' := 18) (ls' := [some (.ref (c + 30)), some (.int (iI o)), some (.null), none]) (st' := [.null]) rfl rfl ?_
    refine go_a (pc' := 21) (ls' := [some (.ref (c + 30)), some (.int (iI o)), some (.null), none]) (st' := []) rfl rfl ?_
    refine go_a (pc' := 22) (ls' := [some (.ref (c + 30)), some (.int (iI o)), some (.null), none]) (st' := [.ref (c + 30)]) rfl rfl ?_
    refine go_a (pc' := 23) (ls' := [some (.ref (c + 30)), some (.int (iI o)), some (.null), none]) (st' := [.int (iI o), .ref (c + 30)]) rfl rfl ?_
    refine go_v (m := 248) (as := [.ref (c + 30), .int (iI o)]) (r := []) rfl rfl rfl (S0.1.1 19 (by decide)) rfl rfl (kq_failAtP z (d + 7) (w := WD (SD s) o) S0 (by omega) (by omega) (by omega) (by omega) (by omega) (ft := NM.2.2.1) (ρ := (sp_cs2 ((sp_tb NM.2.2.2.2 (sp_p 1 (DK s.N o))).bind (fun p => sp_cz [some p.2])) (s.I 17))) (σ := (s.I 17)) (by rw [nu]; rfl) J0) (fun v2 h2 hq => ?_)
    obtain ⟨rfl, R2⟩ := hq
    show xx_go (xt_P z) (d + 8) 269 26 [some (.ref (c + 30)), some (.int (iI o)), some (.null), none] [.null] h2 _
    exact go_r rfl rfl rfl rfl rfl rfl R2
  · obtain ⟨bv, BB, et, TRb⟩ := TB_some hP b0 b1 b2 b3
    rw [pd] at et
    have Ob : OTR s.N (s.I 8) NM.2.2.1 (some (rl n f)) (some BB) := TRb
    show xx_go (xt_P z) (d + 8) 269 16 [some (.ref (c + 30)), some (.int (iI o)), none, none] [.ref a] hp _
    refine go_a (pc' := 17) (ls' := [some (.ref (c + 30)), some (.int (iI o)), some (.ref a), none]) (st' := []) rfl rfl ?_
    refine go_a (pc' := 18) (ls' := [some (.ref (c + 30)), some (.int (iI o)), some (.ref a), none]) (st' := [.ref a]) rfl rfl ?_
    refine go_a (pc' := 27) (ls' := [some (.ref (c + 30)), some (.int (iI o)), some (.ref a), none]) (st' := []) rfl rfl ?_
    have l12_2 : 12 ≤ hp.length := by have := ki_lt S0.1 (i := 0) (by decide); have := S0.1.2.1 0 (by decide); omega
    refine go_new (ci := 12) (fs := [.null, .int 0, .int 0, .int 0]) rfl rfl rfl ?_
    show xx_go (xt_P z) (d + 8) 269 30 [some (.ref (c + 30)), some (.int (iI o)), some (.ref a), none] [.ref hp.length] (hp ++ [.inr (12, [.null, .int 0, .int 0, .int 0])]) _
    refine go_a (pc' := 31) (ls' := [some (.ref (c + 30)), some (.int (iI o)), some (.ref a), none]) (st' := [.ref hp.length, .ref hp.length]) rfl rfl ?_
    refine go_i (m := 257) (as := [.ref hp.length]) (r := [.ref hp.length]) rfl rfl rfl rfl rfl (kh_init z (d + 7) hp l12_2) (fun v2 h2 hq => ?_)
    obtain ⟨rfl, rfl⟩ := hq
    obtain ⟨K2, X2, B2⟩ := mkC_CL (u := (s.I 8)) S0.1
    have C2 : CL c (mkC hp) s (s.I 8) hp.length 0 [] := ⟨_, _, _, _, _, B2, rfl⟩
    have S2 := KST_X S0 K2 X2
    obtain ⟨x2, ex2⟩ : ∃ q : Nat, q = hp.length := ⟨_, rfl⟩
    have Fa_2 := TTH_kx F0 X2 (Int.le_refl _)
    obtain ⟨hM2, eM2⟩ : ∃ q : xx_H, q = mkC hp := ⟨_, rfl⟩
    have hx2 : hp.length ≤ x2 := by rw [ex2]; exact KST_len S0
    rw [← ex2] at C2
    rw [← eM2, ← ex2]
    obtain ⟨mC2, wC2, cC2⟩ := CL_cell C2
    rw [← eM2] at S2 C2 cC2 Fa_2
    clear B2 K2 X2
    show xx_go (xt_P z) (d + 8) 269 34 [some (.ref (c + 30)), some (.int (iI o)), some (.ref a), none] [.ref x2] hM2 _
    refine go_a (pc' := 35) (ls' := [some (.ref (c + 30)), some (.int (iI o)), some (.ref a), some (.ref x2)]) (st' := []) rfl rfl ?_
    refine go_a (pc' := 36) (ls' := [some (.ref (c + 30)), some (.int (iI o)), some (.ref a), some (.ref x2)]) (st' := [.ref x2]) rfl rfl ?_
    refine go_a (pc' := 37) (ls' := [some (.ref (c + 30)), some (.int (iI o)), some (.ref a), some (.ref x2)]) (st' := [.ref a, .ref x2]) rfl rfl ?_
    obtain ⟨pq3, ta3, g3, c1_3, c2_3, c3_3, c4_3, T3, c5_3⟩ := id Fa_2
    refine go_get (v := .ref ta3) rfl c1_3 rfl rfl ?_
    refine go_v (m := 261) (as := [.ref x2, .ref ta3]) (r := []) rfl rfl rfl cC2 rfl rfl (kq_addC z (d + 5) C2 (MTM_T T3)) (fun v4 h4 hq => ?_)
    obtain ⟨rfl, F4, b4, Z4, q4, C4⟩ := hq
    have hz4 := q4
    have S4 := KST_fe S2 C2 hx2 F4
    have Tta3_4 := TM_fe C2 F4 T3
    obtain ⟨mC4, wC4, cC4⟩ := CL_cell C4
    show xx_go (xt_P z) (d + 8) 269 43 [some (.ref (c + 30)), some (.int (iI o)), some (.ref a), some (.ref x2)] [] h4 _
    refine go_a (pc' := 44) (ls' := [some (.ref (c + 30)), some (.int (iI o)), some (.ref a), some (.ref x2)]) (st' := [.ref (c + 30)]) rfl rfl ?_
    refine go_a (pc' := 45) (ls' := [some (.ref (c + 30)), some (.int (iI o)), some (.ref a), some (.ref x2)]) (st' := [.ref x2, .ref (c + 30)]) rfl rfl ?_
    refine go_v (m := 265) (as := [.ref (c + 30), .ref x2]) (r := []) rfl rfl rfl (S4.1.1 19 (by decide)) rfl rfl (kq_fin z (d + 6) (w := WD (SD s) o) (ρ := (sp_cs2 ((sp_tb NM.2.2.2.2 (sp_p 1 (DK s.N o))).bind (fun p => sp_cz [some p.2])) (s.I 17))) (σ := (s.I 17)) hP S4 C4 (ITR_one Ob ITR_nil) hz4 (by rw [et, J0]; rfl) J0 e0 hx2 (by omega) (by omega) (by omega)) (fun v5 h5 hq => ?_)
    rcases hq with ⟨rfl, R5⟩ | ⟨r5, rfl, R5⟩
    · exact go_r rfl rfl rfl rfl rfl rfl R5
    · exact go_r rfl rfl rfl rfl rfl rfl R5
