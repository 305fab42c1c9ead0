theorem PE_le {A : Nat → Int → Int} {c b x k : Int} (h : 0 ≤ x) : 0 ≤ PE A c b x k ∧ PE A c b x k ≤ x := by
  rcases PE_nn A c b x k with q | q <;> rw [q] <;> omega
theorem CLA_120 {ar : Int → Int} {I : Nat → Int} {A : Nat → Int → Int} {c : Int} (h : CLA ar I A c) : SG (TZ A ar) (fun k => A 50 (30 * c + k)) (A 51 c).toNat ≤ 120 * A 51 c ∧ A 51 c ≤ SG (TZ A ar) (fun k => A 50 (30 * c + k)) (A 51 c).toNat := by
  have h1 := h.1
  have key : ∀ n : Nat, (n : Int) ≤ A 51 c → SG (TZ A ar) (fun k => A 50 (30 * c + k)) n ≤ 120 * n ∧ (n : Int) ≤ SG (TZ A ar) (fun k => A 50 (30 * c + k)) n := by
    intro n
    induction n with
    | zero => intro _; exact ⟨(show (0 : Int) ≤ 120 * 0 by decide), (show (0 : Int) ≤ 0 by decide)⟩
    | succ n ih =>
      intro hn
      have a := ih (by omega)
      have b := h.2.1 n (by omega) (by omega)
      have s : SG (TZ A ar) (fun k => A 50 (30 * c + k)) (n + 1) = SG (TZ A ar) (fun k => A 50 (30 * c + k)) n + TZ A ar (A 50 (30 * c + n)) := by
        have q := SG_pop (g := TZ A ar) (f := fun k => A 50 (30 * c + k)) (m := ((n + 1 : Nat) : Int)) (by omega)
        rw [show (((n + 1 : Nat) : Int)).toNat = n + 1 by omega, show (((n + 1 : Nat) : Int) - 1).toNat = n by omega, show ((n + 1 : Nat) : Int) - 1 = (n : Int) by omega] at q
        exact q
      rw [s]
      omega
  have := key (A 51 c).toNat (by omega)
  omega
theorem isL_VD {I : Nat → Int} {A : Nat → Int → Int} (hP : PW I A) (n0 : A 1 0 < 0) : ∀ (m : Nat) (k : Int), 0 ≤ k → k < I 7 → isL A m k → (m : Int) ≤ VD A k
  | 0, k, h0, h1, _ => VD_0 hP h0 h1
  | m + 1, k, h0, h1, hL => by
    have q := hP.2 k h0 h1
    have q2 := q.2.2.2.2 hL.1
    have v := VD_pair hP h0 h1 hL.1
    have w := WD_1 hP hL.1 (by omega : A 1 k < I 7)
    have r := isL_VD hP n0 m (A 2 k) q.2.2.1 (by omega) hL.2
    omega
set_option maxRecDepth 4000 in
theorem mm_weak_loop (z : Value) (d m : Nat) (ar : Int → Int) (k o c C q9 S0 : Int) (h R : xx_H) (I : Nat → Int) (A : Nat → Int → Int) (N : Int → Int) (hc : 12 ≤ h.length) (hB : BI ar I A N) (C0 : 0 ≤ C) (C1 : C < I 7) (hL : isL A m C) (hT : ∀ j : Nat, j < m → TOK A ar (A 1 (rt A j C))) (w : VD A C ≤ 1000) (ho : I 7 + 2 * VD A C ≤ 140000) (q0 : 0 ≤ q9) (q1 : q9 ≤ 30) (Q : Option Value → xx_H → Prop) (K : ∀ (I1 : Nat → Int) (A1 : Nat → Int → Int) (V : Int), RU ar (2 * VD A C) I A N I1 A1 N → DR ar (q9 + m) (S0 + VD A C) V I1 A1 → xx_go (xt_P z) (d + 10) 154 554 [some (.ref h.length), some (.int (iI k)), some (.int (iI o)), some (.int (iI c)), some (.int (iI ((-1)))), some (.int (iI ((-1)))), some (.int (iI ((-1)))), some (.int (iI 0))] [] (mh h R I1 A1 N) Q) : ∀ (n j : Nat) (I1 : Nat → Int) (A1 : Nat → Int → Int) (V : Int), m - j ≤ n → j ≤ m → RU ar (2 * (VD A C - VD A (rt A j C))) I A N I1 A1 N → DR ar (q9 + j) (S0 + (VD A C - VD A (rt A j C))) V I1 A1 → xx_go (xt_P z) (d + 10) 154 522 [some (.ref h.length), some (.int (iI k)), some (.int (iI o)), some (.int (iI c)), some (.int (iI ((-1)))), some (.int (iI ((-1)))), some (.int (iI ((-1)))), some (.int (iI (rt A j C)))] [] (mh h R I1 A1 N) Q := by
  have hP := BI_P hB
  have n0 := BI_n0 hB
  have mv : (m : Int) ≤ VD A C := isL_VD hP n0 m C C0 C1 hL
  have fin : ∀ (j : Nat) (I1 : Nat → Int) (A1 : Nat → Int → Int) (V : Int), j = m → RU ar (2 * (VD A C - VD A (rt A j C))) I A N I1 A1 N → DR ar (q9 + j) (S0 + (VD A C - VD A (rt A j C))) V I1 A1 → xx_go (xt_P z) (d + 10) 154 522 [some (.ref h.length), some (.int (iI k)), some (.int (iI o)), some (.int (iI c)), some (.int (iI ((-1)))), some (.int (iI ((-1)))), some (.int (iI ((-1)))), some (.int (iI (rt A j C)))] [] (mh h R I1 A1 N) Q := by
    intro j I1 A1 V ej X D
    subst ej
    have ez := isL_end j C hL
    have vz : VD A 0 = 0 := by rw [VD_atom n0, if_pos rfl]
    rw [ez, vz, Int.sub_zero] at X D
    rw [ez]
    refine go_a (pc' := 524) (ls' := [some (.ref h.length), some (.int (iI k)), some (.int (iI o)), some (.int (iI c)), some (.int (iI ((-1)))), some (.int (iI ((-1)))), some (.int (iI ((-1)))), some (.int (iI 0))]) (st' := [.int (iI 0)]) rfl rfl ?_
    exact mi_eq0 (t := 554) rfl rfl (by omega) (by omega) (fun _ => K I1 A1 V X D) (fun q => absurd rfl q)
  intro n
  induction n with
  | zero =>
    intro j I1 A1 V hn jm X D
    exact fin j I1 A1 V (by omega) X D
  | succ n ih =>
    intro j I1 A1 V hn jm X D
    by_cases ej : j = m
    · exact fin j I1 A1 V ej X D
    have rj := isL_rt hP m j C C0 C1 hL (by omega)
    have jz : rt A j C ≠ 0 := by
      intro ez
      rw [ez] at rj
      omega
    have vr := VD_rt hP C0 C1 hL (by omega : j < m)
    have vl : VD A (rt A j C) ≤ VD A C := VD_rtl hP C0 C1 hL j (by omega)
    have x7 := X.1.2.1
    have P1 := RU_P X
    have i9 := P1.1
    have c7 := X.2.2.1
    have e1 := X.1.2.2.1 (rt A j C) rj.1 (by omega)
    have wt := (WD_BX hP X.1 vr.2.1.1 vr.2.1.2).1
    refine go_a (pc' := 524) (ls' := [some (.ref h.length), some (.int (iI k)), some (.int (iI o)), some (.int (iI c)), some (.int (iI ((-1)))), some (.int (iI ((-1)))), some (.int (iI ((-1)))), some (.int (iI (rt A j C)))]) (st' := [.int (iI (rt A j C))]) rfl rfl ?_
    refine mi_eq0 (t := 554) rfl rfl (by omega) (by omega) (fun q => absurd q jz) (fun _ => ?_)
    refine go_a (pc' := 528) (ls' := [some (.ref h.length), some (.int (iI k)), some (.int (iI o)), some (.int (iI c)), some (.int (iI ((-1)))), some (.int (iI ((-1)))), some (.int (iI ((-1)))), some (.int (iI (rt A j C)))]) (st' := [.ref h.length]) rfl rfl ?_
    refine go_a (pc' := 529) (ls' := [some (.ref h.length), some (.int (iI k)), some (.int (iI o)), some (.int (iI c)), some (.int (iI ((-1)))), some (.int (iI ((-1)))), some (.int (iI ((-1)))), some (.int (iI (rt A j C)))]) (st' := [.ref h.length, .ref h.length]) rfl rfl ?_
    refine go_a (pc' := 530) (ls' := [some (.ref h.length), some (.int (iI k)), some (.int (iI o)), some (.int (iI c)), some (.int (iI ((-1)))), some (.int (iI ((-1)))), some (.int (iI ((-1)))), some (.int (iI (rt A j C)))]) (st' := [.ref h.length, .ref h.length, .ref h.length]) rfl rfl ?_
    refine go_get rfl mh_o rfl rfl ?_
    refine go_a (pc' := 535) (ls' := [some (.ref h.length), some (.int (iI k)), some (.int (iI o)), some (.int (iI c)), some (.int (iI ((-1)))), some (.int (iI ((-1)))), some (.int (iI ((-1)))), some (.int (iI (rt A j C)))]) (st' := [.int (iI (rt A j C)), .ref (h.length + 1), .ref h.length, .ref h.length]) rfl rfl ?_
    refine mi_ild rfl mh_a1 (by omega) (by omega) (by decide) ?_
    rw [e1.1]
    show xx_go (xt_P z) (d + 10) 154 536 [some (.ref h.length), some (.int (iI k)), some (.int (iI o)), some (.int (iI c)), some (.int (iI ((-1)))), some (.int (iI ((-1)))), some (.int (iI ((-1)))), some (.int (iI (rt A j C)))] [.int (iI (A 1 (rt A j C))), .ref h.length, .ref h.length] (mh h R I1 A1 N) _
    refine go_v (m := 105) (as := [.ref h.length, .int (iI (A 1 (rt A j C)))]) (r := [.ref h.length]) rfl rfl rfl mh_o rfl rfl (mr_term z (d + 2) ar (A 1 (rt A j C)) h R I1 A1 N hc X.2.1 vr.2.1.1 (by omega) (by omega) (by omega)) (fun v h1 hq => ?_)
    obtain ⟨t, I2, A2, rfl, rfl, R2, K2, -, ht⟩ := hq
    have tt : (0 ≤ t ∧ t < I2 7) ∧ (1 ≤ TZ A2 ar t ∧ TZ A2 ar t ≤ 120) ∧ TZ A2 ar t ≤ WD A (A 1 (rt A j C)) := by
      rcases ht with q | q
      · exact absurd (TOK_BX hP X.1 vr.2.1.1 vr.2.1.2 (hT j (by omega))) q.2
      · rw [wt] at q
        exact ⟨q.1, q.2.1, by omega⟩
    rw [wt] at R2
    show xx_go (xt_P z) (d + 10) 154 539 [some (.ref h.length), some (.int (iI k)), some (.int (iI o)), some (.int (iI c)), some (.int (iI ((-1)))), some (.int (iI ((-1)))), some (.int (iI ((-1)))), some (.int (iI (rt A j C)))] [.int (iI t), .ref h.length] (mh h R I2 A2 N) _
    refine go_v (m := 155) (as := [.ref h.length, .int (iI t)]) (r := []) rfl rfl rfl mh_o rfl rfl (mr_put z (d + 9) ar _ _ _ t h R I2 A2 N hc R2.2.1 (K2 _ _ _ D) (by omega) tt.1.1 tt.1.2 tt.2.1.1 (fun _ => tt.2.1.2)) (fun v h1 hq => ?_)
    obtain ⟨rfl, I3, A3, rfl, R3, D3, -, -⟩ := hq
    show xx_go (xt_P z) (d + 10) 154 542 [some (.ref h.length), some (.int (iI k)), some (.int (iI o)), some (.int (iI c)), some (.int (iI ((-1)))), some (.int (iI ((-1)))), some (.int (iI ((-1)))), some (.int (iI (rt A j C)))] [] (mh h R I3 A3 N) _
    have X3 := RU_tr (RU_tr X R2 (Int.le_refl _)) R3 (Int.le_refl _)
    have e3 := X3.1.2.2.1 (rt A j C) rj.1 (by omega)
    refine go_a (pc' := 543) (ls' := [some (.ref h.length), some (.int (iI k)), some (.int (iI o)), some (.int (iI c)), some (.int (iI ((-1)))), some (.int (iI ((-1)))), some (.int (iI ((-1)))), some (.int (iI (rt A j C)))]) (st' := [.ref h.length]) rfl rfl ?_
    refine go_get rfl mh_o rfl rfl ?_
    refine go_a (pc' := 548) (ls' := [some (.ref h.length), some (.int (iI k)), some (.int (iI o)), some (.int (iI c)), some (.int (iI ((-1)))), some (.int (iI ((-1)))), some (.int (iI ((-1)))), some (.int (iI (rt A j C)))]) (st' := [.int (iI (rt A j C)), .ref (h.length + 2)]) rfl rfl ?_
    refine mi_ild rfl mh_a2 (by omega) (by omega) (by decide) ?_
    refine go_a (pc' := 551) (ls' := [some (.ref h.length), some (.int (iI k)), some (.int (iI o)), some (.int (iI c)), some (.int (iI ((-1)))), some (.int (iI ((-1)))), some (.int (iI ((-1)))), some (.int (iI (A3 2 (rt A j C))))]) (st' := []) rfl rfl ?_
    refine go_a (pc' := 522) (ls' := [some (.ref h.length), some (.int (iI k)), some (.int (iI o)), some (.int (iI c)), some (.int (iI ((-1)))), some (.int (iI ((-1)))), some (.int (iI ((-1)))), some (.int (iI (A3 2 (rt A j C))))]) (st' := []) rfl rfl ?_
    rw [e3.2.1, ← rt_succ A j C]
    exact ih (j + 1) I3 A3 _ (by omega) (by omega) (RU_w X3 (by omega)) (DR_w D3 (by omega) (by omega) (Int.le_refl _))
theorem VD_LE {I : Nat → Int} {A : Nat → Int → Int} {m : Nat} {k : Int} (hP : PW I A) (n0 : A 1 0 < 0) (n2 : A 1 2 < 0) (h0 : 0 ≤ k) (h1 : k < I 7) (hL : isL A m k) : VD A k ≤ WD A k ∧ (VD A k = 0 ∨ 2 ≤ WD A k) := by
  match m, hL with
  | 0, hL =>
    have e : k = 0 := hL
    subst e
    rw [VD_atom n0, if_pos rfl, WD_atom n0]
    omega
  | m + 1, hL =>
    have q := hP.2 k h0 h1
    have q2 := q.2.2.2.2 hL.1
    have v := VD_pair hP h0 h1 hL.1
    have wp := WD_pair hP h0 h1 hL.1
    split at wp
    · rename_i c
      have r := hP.2 (A 2 k) q.2.2.1 (by omega)
      have r2 := r.2.2.2.2 c.2.1
      have v2 := VD_pair hP q.2.2.1 (by omega : A 2 k < I 7) c.2.1
      rw [c.2.2, VD_atom n0, if_pos rfl] at v2
      rw [c.1, WD_atom n2] at v
      have w1 := WD_1 hP c.2.1 (by omega : A 1 (A 2 k) < I 7)
      omega
    · have w1 := WD_1 hP hL.1 (by omega : A 1 k < I 7)
      have v0 := VD_0 hP q.2.2.1 (by omega : A 2 k < I 7)
      omega
set_option maxRecDepth 4000 in
theorem mm_con_weak (z : Value) (d : Nat) (ar : Int → Int) (k o c E dd : Int) (h R : xx_H) (I : Nat → Int) (A : Nat → Int → Int) (N : Int → Int) (hc : 12 ≤ h.length) (hB : BI ar I A N) (k0 : 0 ≤ k) (k1 : k < 40) (ek : A 47 k = o) (o0 : 0 ≤ o) (o1 : o < I 7) (hF : FORM ar I A N o) (ec : A 49 k = c) (c0 : 0 ≤ c) (w : WD A o ≤ 1000) (hE : E + 128 * WD A o ≤ 140000) (d0 : 0 ≤ dd) (d1 : dd ≤ 39) (c9 : Int) (hcf : CFX ar I A o c9) (ef : A 1 o = 39) (hU : I 7 ≤ E + c9 + (128 * WD A (A 1 (rt A 2 o)) - KC (dd + 1) A ar c)) (d38 : dd ≤ 38) (c1 : c < 350) (hC : CLA ar I A c) : xx_cl (xt_P z) (d + 11) 154 [.ref h.length, .int (iI k)] (mh h R I A N) (fun v h1 => ∃ (b : Int) (I1 : Nat → Int) (A1 : Nat → Int → Int) (N1 : Int → Int), v = some (.int (iI b)) ∧ h1 = mh h R I1 A1 N1 ∧ RU ar 140000 I A N I1 A1 N1 ∧ (b = 0 ∨ (b = 1 ∧ ∃ S V : Int, DR ar 1190 S V I1 A1 ∧ (I1 49 = 0 → I1 67 ≤ 30 → SG (TZ A1 ar) (A1 38) (I1 67).toNat ≤ 400 → I1 7 + KDR dd I1 A1 ar ≤ E + 128 * WD A o)))) := by
  have hP := BI_P hB
  have n0 := BI_n0 hB
  have p9 := hP.1
  have nm := hB.1.2.1.1
  have n2 : A 1 2 < 0 := by rw [hB.1.2.1.2 2 (by decide) (by decide)]; decide
  obtain ⟨n, hL, n1, hF⟩ := hF
  have en : n = 3 ∧ ∃ m : Nat, isL A m (A 1 (rt A 1 o)) ∧ ∀ j : Nat, j < m → TOK A ar (A 1 (rt A j (A 1 (rt A 1 o)))) := by
    rcases hF with q | q | q | q | q | q | q | q | q | q | q | q
    · omega
    · omega
    · omega
    · omega
    · omega
    · omega
    · exact ⟨q.2.1, q.2.2⟩
    · omega
    · omega
    · omega
    · omega
    · omega
  clear hF
  obtain ⟨rfl, m, lm, tm⟩ := en
  have wo := WD_pair hP o0 o1 (by omega)
  rw [if_neg (fun q => absurd q.1 (by omega))] at wo
  have v0 := VD_rt hP o0 o1 hL (by decide : 0 < 3)
  have v0e : VD A o = WD A (A 1 o) + VD A (rt A 1 o) := v0.1
  have wr : WD A (A 1 o) = 1 := WD_atom (by rw [hB.1.2.1.2 _ (by omega) (by omega)]; decide)
  have v1 := VD_rt hP o0 o1 hL (by decide : 1 < 3)
  have v1e : VD A (rt A 1 o) = WD A (A 1 (rt A 1 o)) + VD A (rt A 2 o) := v1.1
  have v2 := VD_rt hP o0 o1 hL (by decide : 2 < 3)
  have v2e : VD A (rt A 2 o) = WD A (A 1 (rt A 2 o)) + VD A (rt A 3 o) := v2.1
  have vz : VD A (rt A 3 o) = 0 := by rw [isL_end 3 o hL, VD_atom n0, if_pos rfl]
  have cf := hcf.2 (by omega)
  have cf2 := cf.2.2.2.1 ef
  have h1 := hC.1
  have c120 := CLA_120 hC
  have kc := KK_ge (d := dd + 1) (n := A 51 c) (s := SG (TZ A ar) (fun k => A 50 (30 * c + k)) (A 51 c).toNat) (v := SG (NT A wq) (fun k => A 50 (30 * c + k)) (A 51 c).toNat) (by omega) (by omega)
  have kce : KC (dd + 1) A ar c = KK (dd + 1) (A 51 c) (SG (TZ A ar) (fun k => A 50 (30 * c + k)) (A 51 c).toNat) (SG (NT A wq) (fun k => A 50 (30 * c + k)) (A 51 c).toNat) := rfl
  have vl := VD_LE hP n0 n2 v1.2.1.1 v1.2.1.2 lm
  have vn := VD_nn A (A 1 (rt A 1 o))
  have mv := isL_VD hP n0 m _ v1.2.1.1 v1.2.1.2 lm
  refine cl_go rfl ?_
  show xx_go (xt_P z) (d + 10) 154 0 [some (.ref h.length), some (.int (iI k)), none, none, none, none, none, none] [] (mh h R I A N) _
  refine go_a (pc' := 1) (ls' := [some (.ref h.length), some (.int (iI k)), none, none, none, none, none, none]) (st' := [.ref h.length]) rfl rfl ?_
  refine go_get rfl mh_o rfl rfl ?_
  refine go_a (pc' := 5) (ls' := [some (.ref h.length), some (.int (iI k)), none, none, none, none, none, none]) (st' := [.int (iI k), .ref (h.length + 47)]) rfl rfl ?_
  refine mi_ild rfl mh_a47 (by omega) (by omega) (by decide) ?_
  rw [ek]
  refine go_a (pc' := 7) (ls' := [some (.ref h.length), some (.int (iI k)), some (.int (iI o)), none, none, none, none, none]) (st' := []) rfl rfl ?_
  refine go_a (pc' := 8) (ls' := [some (.ref h.length), some (.int (iI k)), some (.int (iI o)), none, none, none, none, none]) (st' := [.ref h.length]) rfl rfl ?_
  refine go_get rfl mh_o rfl rfl ?_
  refine go_a (pc' := 12) (ls' := [some (.ref h.length), some (.int (iI k)), some (.int (iI o)), none, none, none, none, none]) (st' := [.int (iI k), .ref (h.length + 49)]) rfl rfl ?_
  refine mi_ild rfl mh_a49 (by omega) (by omega) (by decide) ?_
  rw [ec]
  refine go_a (pc' := 14) (ls' := [some (.ref h.length), some (.int (iI k)), some (.int (iI o)), some (.int (iI c)), none, none, none, none]) (st' := []) rfl rfl ?_
  refine go_a (pc' := 15) (ls' := [some (.ref h.length), some (.int (iI k)), some (.int (iI o)), some (.int (iI c)), none, none, none, none]) (st' := [.ref h.length]) rfl rfl ?_
  refine go_a (pc' := 16) (ls' := [some (.ref h.length), some (.int (iI k)), some (.int (iI o)), some (.int (iI c)), none, none, none, none]) (st' := [.int (iI 0), .ref h.length]) rfl rfl ?_
  refine go_put (j := 67) rfl mh_o rfl rfl (show 12 ≤ _ from hc) (show 67 < 86 by decide) rfl rfl ?_
  rw [mh_p67]
  obtain ⟨J, hJ⟩ : ∃ J : Nat → Int, J = su I 67 0 := ⟨_, rfl⟩
  rw [← hJ]
  have bJ : BX (fun j => j = 67) NO I A N J A N := by
    subst hJ
    exact BX_of hB.1.1 (fun j q => su_ne q) (fun a _ => rfl) rfl rfl rfl rfl rfl rfl rfl rfl rfl rfl
  have J7 : J 7 = I 7 := by subst hJ; rfl
  have J49 : J 49 = I 49 := by subst hJ; rfl
  have R0 : RU ar 0 I A N J A N := RU_of hB bJ (fun j q => by subst q; unfold FC; omega) (fun a q => absurd q (fun z => z)) (SZI_124 (A := A) (A1 := A) hB.1.2.2 rfl rfl rfl J7) (by subst hJ; rfl) (by subst hJ; rfl) (by rw [J49]; exact hB.2.2.2.2) (by omega) (fun _ => J49)
  have D0 : DR ar 0 0 0 J A := by subst hJ; exact DR_00
  have PJ := RU_P R0
  refine go_a (pc' := 20) (ls' := [some (.ref h.length), some (.int (iI k)), some (.int (iI o)), some (.int (iI c)), none, none, none, none]) (st' := [.ref h.length]) rfl rfl ?_
  refine go_a (pc' := 21) (ls' := [some (.ref h.length), some (.int (iI k)), some (.int (iI o)), some (.int (iI c)), none, none, none, none]) (st' := [.int (iI o), .ref h.length]) rfl rfl ?_
  refine go_v (m := 98) (as := [.ref h.length, .int (iI o)]) (r := []) rfl rfl rfl mh_o rfl rfl (mm_lenL z (d + 8) 3 o h R J A N hc PJ n0 o0 (by omega) hL) (fun v h1 hq => ?_)
  obtain ⟨rfl, rfl⟩ := hq
  show xx_go (xt_P z) (d + 10) 154 24 [some (.ref h.length), some (.int (iI k)), some (.int (iI o)), some (.int (iI c)), none, none, none, none] [.int (iI (((3 : Nat) : Int)))] (mh h R J A N) _
  refine go_a (pc' := 25) (ls' := [some (.ref h.length), some (.int (iI k)), some (.int (iI o)), some (.int (iI c)), none, none, none, none]) (st' := [.int (iI 1), .int (iI (((3 : Nat) : Int)))]) rfl rfl ?_
  refine mi_le (t := 107) rfl rfl (by omega) (by omega) (by omega) (by omega) (fun q => by omega) (fun _ => ?_)
  refine go_a (pc' := 29) (ls' := [some (.ref h.length), some (.int (iI k)), some (.int (iI o)), some (.int (iI c)), none, none, none, none]) (st' := [.ref h.length]) rfl rfl ?_
  refine go_get rfl mh_o rfl rfl ?_
  refine go_a (pc' := 33) (ls' := [some (.ref h.length), some (.int (iI k)), some (.int (iI o)), some (.int (iI c)), none, none, none, none]) (st' := [.int (iI o), .ref (h.length + 1)]) rfl rfl ?_
  refine mi_ild rfl mh_a1 (by omega) (by omega) (by decide) ?_
  refine go_a (pc' := 36) (ls' := [some (.ref h.length), some (.int (iI k)), some (.int (iI o)), some (.int (iI c)), none, none, none, none]) (st' := [.int (iI 37), .int (iI (A 1 o))]) rfl rfl ?_
  refine mi_eq (t := 107) rfl rfl (by omega) (by omega) (by omega) (by omega) (fun q => by omega) (fun _ => ?_)
  refine go_a (pc' := 40) (ls' := [some (.ref h.length), some (.int (iI k)), some (.int (iI o)), some (.int (iI c)), none, none, none, none]) (st' := [.ref h.length]) rfl rfl ?_
  refine go_get rfl mh_o rfl rfl ?_
  refine go_a (pc' := 44) (ls' := [some (.ref h.length), some (.int (iI k)), some (.int (iI o)), some (.int (iI c)), none, none, none, none]) (st' := [.int (iI o), .ref (h.length + 1)]) rfl rfl ?_
  refine mi_ild rfl mh_a1 (by omega) (by omega) (by decide) ?_
  refine go_a (pc' := 47) (ls' := [some (.ref h.length), some (.int (iI k)), some (.int (iI o)), some (.int (iI c)), none, none, none, none]) (st' := [.int (iI 38), .int (iI (A 1 o))]) rfl rfl ?_
  refine mi_eq (t := 107) rfl rfl (by omega) (by omega) (by omega) (by omega) (fun q => by omega) (fun _ => ?_)
  refine go_a (pc' := 51) (ls' := [some (.ref h.length), some (.int (iI k)), some (.int (iI o)), some (.int (iI c)), none, none, none, none]) (st' := [.ref h.length]) rfl rfl ?_
  refine go_get rfl mh_o rfl rfl ?_
  refine go_a (pc' := 55) (ls' := [some (.ref h.length), some (.int (iI k)), some (.int (iI o)), some (.int (iI c)), none, none, none, none]) (st' := [.int (iI o), .ref (h.length + 1)]) rfl rfl ?_
  refine mi_ild rfl mh_a1 (by omega) (by omega) (by decide) ?_
  refine go_a (pc' := 58) (ls' := [some (.ref h.length), some (.int (iI k)), some (.int (iI o)), some (.int (iI c)), none, none, none, none]) (st' := [.int (iI 39), .int (iI (A 1 o))]) rfl rfl ?_
  refine mi_eq (t := 107) rfl rfl (by omega) (by omega) (by omega) (by omega) (fun _ => ?_) (fun q => by omega)
  refine go_a (pc' := 108) (ls' := [some (.ref h.length), some (.int (iI k)), some (.int (iI o)), some (.int (iI c)), none, none, none, none]) (st' := [.int (iI ((-1)))]) rfl rfl ?_
  refine go_a (pc' := 110) (ls' := [some (.ref h.length), some (.int (iI k)), some (.int (iI o)), some (.int (iI c)), some (.int (iI ((-1)))), none, none, none]) (st' := []) rfl rfl ?_
  refine go_a (pc' := 111) (ls' := [some (.ref h.length), some (.int (iI k)), some (.int (iI o)), some (.int (iI c)), some (.int (iI ((-1)))), none, none, none]) (st' := [.ref h.length]) rfl rfl ?_
  refine go_get rfl mh_o rfl rfl ?_
  refine go_a (pc' := 115) (ls' := [some (.ref h.length), some (.int (iI k)), some (.int (iI o)), some (.int (iI c)), some (.int (iI ((-1)))), none, none, none]) (st' := [.int (iI o), .ref (h.length + 1)]) rfl rfl ?_
  refine mi_ild rfl mh_a1 (by omega) (by omega) (by decide) ?_
  refine go_a (pc' := 118) (ls' := [some (.ref h.length), some (.int (iI k)), some (.int (iI o)), some (.int (iI c)), some (.int (iI ((-1)))), none, none, none]) (st' := [.int (iI 32), .int (iI (A 1 o))]) rfl rfl ?_
  refine mi_lt (t := 145) rfl rfl (by omega) (by omega) (by omega) (by omega) (fun q => by omega) (fun _ => ?_)
  refine go_a (pc' := 122) (ls' := [some (.ref h.length), some (.int (iI k)), some (.int (iI o)), some (.int (iI c)), some (.int (iI ((-1)))), none, none, none]) (st' := [.ref h.length]) rfl rfl ?_
  refine go_get rfl mh_o rfl rfl ?_
  refine go_a (pc' := 126) (ls' := [some (.ref h.length), some (.int (iI k)), some (.int (iI o)), some (.int (iI c)), some (.int (iI ((-1)))), none, none, none]) (st' := [.int (iI o), .ref (h.length + 1)]) rfl rfl ?_
  refine mi_ild rfl mh_a1 (by omega) (by omega) (by decide) ?_
  refine go_a (pc' := 129) (ls' := [some (.ref h.length), some (.int (iI k)), some (.int (iI o)), some (.int (iI c)), some (.int (iI ((-1)))), none, none, none]) (st' := [.int (iI 36), .int (iI (A 1 o))]) rfl rfl ?_
  refine mi_gt (t := 145) rfl rfl (by omega) (by omega) (by omega) (by omega) (fun _ => ?_) (fun q => by omega)
  refine go_a (pc' := 146) (ls' := [some (.ref h.length), some (.int (iI k)), some (.int (iI o)), some (.int (iI c)), some (.int (iI ((-1)))), none, none, none]) (st' := [.int (iI ((-1)))]) rfl rfl ?_
  refine go_a (pc' := 148) (ls' := [some (.ref h.length), some (.int (iI k)), some (.int (iI o)), some (.int (iI c)), some (.int (iI ((-1)))), some (.int (iI ((-1)))), none, none]) (st' := []) rfl rfl ?_
  refine go_a (pc' := 149) (ls' := [some (.ref h.length), some (.int (iI k)), some (.int (iI o)), some (.int (iI c)), some (.int (iI ((-1)))), some (.int (iI ((-1)))), none, none]) (st' := [.ref h.length]) rfl rfl ?_
  refine go_get rfl mh_o rfl rfl ?_
  refine go_a (pc' := 153) (ls' := [some (.ref h.length), some (.int (iI k)), some (.int (iI o)), some (.int (iI c)), some (.int (iI ((-1)))), some (.int (iI ((-1)))), none, none]) (st' := [.int (iI o), .ref (h.length + 1)]) rfl rfl ?_
  refine mi_ild rfl mh_a1 (by omega) (by omega) (by decide) ?_
  refine go_a (pc' := 156) (ls' := [some (.ref h.length), some (.int (iI k)), some (.int (iI o)), some (.int (iI c)), some (.int (iI ((-1)))), some (.int (iI ((-1)))), none, none]) (st' := [.int (iI 35), .int (iI (A 1 o))]) rfl rfl ?_
  refine mi_eq (t := 170) rfl rfl (by omega) (by omega) (by omega) (by omega) (fun q => by omega) (fun _ => ?_)
  refine go_a (pc' := 160) (ls' := [some (.ref h.length), some (.int (iI k)), some (.int (iI o)), some (.int (iI c)), some (.int (iI ((-1)))), some (.int (iI ((-1)))), none, none]) (st' := [.ref h.length]) rfl rfl ?_
  refine go_get rfl mh_o rfl rfl ?_
  refine go_a (pc' := 164) (ls' := [some (.ref h.length), some (.int (iI k)), some (.int (iI o)), some (.int (iI c)), some (.int (iI ((-1)))), some (.int (iI ((-1)))), none, none]) (st' := [.int (iI o), .ref (h.length + 1)]) rfl rfl ?_
  refine mi_ild rfl mh_a1 (by omega) (by omega) (by decide) ?_
  refine go_a (pc' := 167) (ls' := [some (.ref h.length), some (.int (iI k)), some (.int (iI o)), some (.int (iI c)), some (.int (iI ((-1)))), some (.int (iI ((-1)))), none, none]) (st' := [.int (iI 36), .int (iI (A 1 o))]) rfl rfl ?_
  refine mi_ne (t := 183) rfl rfl (by omega) (by omega) (by omega) (by omega) (fun _ => ?_) (fun q => by omega)
  refine go_a (pc' := 184) (ls' := [some (.ref h.length), some (.int (iI k)), some (.int (iI o)), some (.int (iI c)), some (.int (iI ((-1)))), some (.int (iI ((-1)))), none, none]) (st' := [.int (iI ((-1)))]) rfl rfl ?_
  refine go_a (pc' := 186) (ls' := [some (.ref h.length), some (.int (iI k)), some (.int (iI o)), some (.int (iI c)), some (.int (iI ((-1)))), some (.int (iI ((-1)))), some (.int (iI ((-1)))), none]) (st' := []) rfl rfl ?_
  refine go_a (pc' := 187) (ls' := [some (.ref h.length), some (.int (iI k)), some (.int (iI o)), some (.int (iI c)), some (.int (iI ((-1)))), some (.int (iI ((-1)))), some (.int (iI ((-1)))), none]) (st' := [.ref h.length]) rfl rfl ?_
  refine go_get rfl mh_o rfl rfl ?_
  refine go_a (pc' := 191) (ls' := [some (.ref h.length), some (.int (iI k)), some (.int (iI o)), some (.int (iI c)), some (.int (iI ((-1)))), some (.int (iI ((-1)))), some (.int (iI ((-1)))), none]) (st' := [.int (iI o), .ref (h.length + 1)]) rfl rfl ?_
  refine mi_ild rfl mh_a1 (by omega) (by omega) (by decide) ?_
  refine mi_ts (c := 39) (t := 508) rfl ef rfl ?_
  refine go_a (pc' := 509) (ls' := [some (.ref h.length), some (.int (iI k)), some (.int (iI o)), some (.int (iI c)), some (.int (iI ((-1)))), some (.int (iI ((-1)))), some (.int (iI ((-1)))), none]) (st' := [.ref h.length]) rfl rfl ?_
  refine go_a (pc' := 510) (ls' := [some (.ref h.length), some (.int (iI k)), some (.int (iI o)), some (.int (iI c)), some (.int (iI ((-1)))), some (.int (iI ((-1)))), some (.int (iI ((-1)))), none]) (st' := [.int (iI c), .ref h.length]) rfl rfl ?_
  refine go_a (pc' := 511) (ls' := [some (.ref h.length), some (.int (iI k)), some (.int (iI o)), some (.int (iI c)), some (.int (iI ((-1)))), some (.int (iI ((-1)))), some (.int (iI ((-1)))), none]) (st' := [.int (iI ((-1))), .int (iI c), .ref h.length]) rfl rfl ?_
  refine go_v (m := 158) (as := [.ref h.length, .int (iI c), .int (iI ((-1)))]) (r := []) rfl rfl rfl mh_o rfl rfl (mr_pour z (d + 8) ar 0 0 0 c (-1) h R J A N hc R0.2.1 D0 (by decide) c0 c1 (CLA_RU hP R0 hC) (by decide) (by decide)) (fun v h1 hq => ?_)
  obtain ⟨rfl, I1, A1, rfl, R1, -, D1⟩ := hq
  have pe1 := PE_le (A := A) (c := c) (b := -1) (x := 1) (k := A 51 c) (by decide)
  have pe2 : 0 ≤ PE A c (-1) (TZ A ar (A 50 (30 * c))) (A 51 c) := by
    rcases PE_nn A c (-1) (TZ A ar (A 50 (30 * c))) (A 51 c) with q | q
    · rw [q]; exact Int.le_refl _
    · rw [q]; exact tz_1nn A ar _ _
  have D1b := DR_w (m1 := A 51 c) (s1 := SG (TZ A ar) (fun k => A 50 (30 * c + k)) (A 51 c).toNat) D1 (by omega) (by omega) (Int.le_refl _)
  have P1 := RU_P R1
  have X1 := RU_tr R0 R1 (Int.le_refl _)
  have y1 := X1.2.2.1
  have z1 : I1 7 ≤ 140000 := P1.1
  have x1 : I 7 ≤ I1 7 := X1.1.2.1
  have ex1 : A1 1 o = A 1 o := (X1.1.2.2.1 o o0 o1).1
  show xx_go (xt_P z) (d + 10) 154 514 [some (.ref h.length), some (.int (iI k)), some (.int (iI o)), some (.int (iI c)), some (.int (iI ((-1)))), some (.int (iI ((-1)))), some (.int (iI ((-1)))), none] [] (mh h R I1 A1 N) _
  refine go_a (pc' := 515) (ls' := [some (.ref h.length), some (.int (iI k)), some (.int (iI o)), some (.int (iI c)), some (.int (iI ((-1)))), some (.int (iI ((-1)))), some (.int (iI ((-1)))), none]) (st' := [.ref h.length]) rfl rfl ?_
  refine go_a (pc' := 516) (ls' := [some (.ref h.length), some (.int (iI k)), some (.int (iI o)), some (.int (iI c)), some (.int (iI ((-1)))), some (.int (iI ((-1)))), some (.int (iI ((-1)))), none]) (st' := [.int (iI o), .ref h.length]) rfl rfl ?_
  refine go_a (pc' := 517) (ls' := [some (.ref h.length), some (.int (iI k)), some (.int (iI o)), some (.int (iI c)), some (.int (iI ((-1)))), some (.int (iI ((-1)))), some (.int (iI ((-1)))), none]) (st' := [.int (iI 1), .int (iI o), .ref h.length]) rfl rfl ?_
  have L1 := isL_extB hP X1.1 3 o o0 o1 hL
  have i1 := it_BX hP X1.1 o0 o1 hL (by decide : 1 < 3)
  refine go_v (m := 99) (as := [.ref h.length, .int (iI o), .int (iI 1)]) (r := []) rfl rfl rfl mh_o rfl rfl (mm_nth z (d + 9) 1 3 o h R I1 A1 N hc P1 (by decide) o0 (by omega) L1 (by omega)) (fun v h1 hq => ?_)
  obtain ⟨rfl, rfl⟩ := hq
  rw [i1]
  show xx_go (xt_P z) (d + 10) 154 520 [some (.ref h.length), some (.int (iI k)), some (.int (iI o)), some (.int (iI c)), some (.int (iI ((-1)))), some (.int (iI ((-1)))), some (.int (iI ((-1)))), none] [.int (iI (A 1 (rt A 1 o)))] (mh h R I1 A1 N) _
  refine go_a (pc' := 522) (ls' := [some (.ref h.length), some (.int (iI k)), some (.int (iI o)), some (.int (iI c)), some (.int (iI ((-1)))), some (.int (iI ((-1)))), some (.int (iI ((-1)))), some (.int (iI (A 1 (rt A 1 o))))]) (st' := []) rfl rfl ?_
  have vx := (WD_BX hP X1.1 v1.2.1.1 v1.2.1.2).2
  refine mm_weak_loop z d m ar k o c (A 1 (rt A 1 o)) (A 51 c) (SG (TZ A ar) (fun k => A 50 (30 * c + k)) (A 51 c).toNat) h R I1 A1 N hc X1.2.1 v1.2.1.1 (by omega) (isL_extB hP X1.1 m _ v1.2.1.1 v1.2.1.2 lm) (fun j hj => by rw [it_BX hP X1.1 v1.2.1.1 v1.2.1.2 lm hj]; have b := (VD_rt hP v1.2.1.1 v1.2.1.2 lm hj).2.1; exact TOK_BX hP X1.1 b.1 b.2 (tm j hj)) (by rw [vx]; omega) (by rw [vx]; omega) h1.1 h1.2 _ ?_ m 0 I1 A1 _ (by omega) (by omega) (RU_rf X1.2.1 (by show 0 ≤ 2 * (_ - _); rw [show rt A1 0 (A 1 (rt A 1 o)) = A 1 (rt A 1 o) from rfl]; omega)) (DR_w D1b (by omega) (by rw [show rt A1 0 (A 1 (rt A 1 o)) = A 1 (rt A 1 o) from rfl]; omega) (Int.le_refl _))
  intro I2 A2 V9 R2 D2
  rw [vx] at R2 D2
  have P2 := RU_P R2
  have X2 := RU_tr X1 R2 (Int.le_refl _)
  have y2 := X2.2.2.1
  have z2 : I2 7 ≤ 140000 := P2.1
  have x2 : I 7 ≤ I2 7 := X2.1.2.1
  have ex2 : A2 1 o = A 1 o := (X2.1.2.2.1 o o0 o1).1
  clear y1 z1 x1 ex1
  refine go_a (pc' := 555) (ls' := [some (.ref h.length), some (.int (iI k)), some (.int (iI o)), some (.int (iI c)), some (.int (iI ((-1)))), some (.int (iI ((-1)))), some (.int (iI ((-1)))), some (.int (iI 0))]) (st' := [.int (iI 1)]) rfl rfl ?_
  refine go_r rfl rfl rfl rfl rfl rfl ⟨1, I2, A2, N, rfl, rfl, RU_w X2 (by omega), Or.inr ⟨rfl, _, _, DR_w D2 (by omega) (Int.le_refl _) (Int.le_refl _), fun b9 b30 b400 => ?_⟩⟩
  have dm := D2.1
  have ds := D2.2.2.1
  have dv := D2.2.2.2
  have kk : KDR dd I2 A2 ar ≤ E + 128 * WD A o - I2 7 := by have kw := KK_weak (d := dd) (n := A 51 c) (s := SG (TZ A ar) (fun k => A 50 (30 * c + k)) (A 51 c).toNat) (v := SG (NT A wq) (fun k => A 50 (30 * c + k)) (A 51 c).toNat) (n2 := I2 67) (s2 := SG (TZ A2 ar) (A2 38) (I2 67).toNat) (v2 := SG (NT A2 wq) (A2 38) (I2 67).toNat) (wd := WD A (A 1 (rt A 1 o))) (vd := VD A (A 1 (rt A 1 o))) d0 d38 (by omega) (by omega) (by omega) (by omega) v1.2.2.1 vn vl.1 vl.2; unfold KDR; omega
  omega
theorem CLA_SG {ar : Int → Int} {x : Int} {I I1 : Nat → Int} {A A1 : Nat → Int → Int} {N N1 : Int → Int} {c : Int} (hP : PW I A) (X : RU ar x I A N I1 A1 N1) (h : CLA ar I A c) : SG (TZ A1 ar) (fun k => A1 50 (30 * c + k)) (A1 51 c).toNat = SG (TZ A ar) (fun k => A 50 (30 * c + k)) (A 51 c).toNat := by
  have e50 : A1 50 = A 50 := X.1.2.2.2.2 50 (by decide) (by decide) (by decide) (by decide) (by decide) (by decide) (by unfold GC; omega)
  have e51 : A1 51 = A 51 := X.1.2.2.2.2 51 (by decide) (by decide) (by decide) (by decide) (by decide) (by decide) (by unfold GC; omega)
  have h1 := h.1
  rw [e50, e51]
  refine SG_congr _ (fun e he => ?_)
  have g := h.2.1 e (by omega) (by omega)
  exact RU_t hP X g.1.1 g.1.2 g.2.1
set_option maxRecDepth 4000 in
theorem mm_con_cut (z : Value) (d : Nat) (ar : Int → Int) (k o c E dd : Int) (h R : xx_H) (I : Nat → Int) (A : Nat → Int → Int) (N : Int → Int) (hc : 12 ≤ h.length) (hB : BI ar I A N) (k0 : 0 ≤ k) (k1 : k < 40) (ek : A 47 k = o) (o0 : 0 ≤ o) (o1 : o < I 7) (hF : FORM ar I A N o) (ec : A 49 k = c) (c0 : 0 ≤ c) (w : WD A o ≤ 1000) (hE : E + 128 * WD A o ≤ 140000) (d0 : 0 ≤ dd) (d1 : dd ≤ 39) (c9 : Int) (hcf : CFX ar I A o c9) (ef : A 1 o = 40) (hU : I 7 ≤ E + c9 + (128 * WD A (A 1 (rt A 2 o)) - KC (dd + 1) A ar c + (128 * WD A (A 1 (rt A 3 o)) - KC (dd + 1) A ar (c + 1)))) (d38 : dd ≤ 38) (c1 : c + 1 < 350) (hC : CLA ar I A c) (hC1 : CLA ar I A (c + 1)) : xx_cl (xt_P z) (d + 11) 154 [.ref h.length, .int (iI k)] (mh h R I A N) (fun v h1 => ∃ (b : Int) (I1 : Nat → Int) (A1 : Nat → Int → Int) (N1 : Int → Int), v = some (.int (iI b)) ∧ h1 = mh h R I1 A1 N1 ∧ RU ar 140000 I A N I1 A1 N1 ∧ (b = 0 ∨ (b = 1 ∧ ∃ S V : Int, DR ar 1190 S V I1 A1 ∧ (I1 49 = 0 → I1 67 ≤ 30 → SG (TZ A1 ar) (A1 38) (I1 67).toNat ≤ 400 → I1 7 + KDR dd I1 A1 ar ≤ E + 128 * WD A o)))) := by
  have hP := BI_P hB
  have n0 := BI_n0 hB
  have p9 := hP.1
  have nm := hB.1.2.1.1
  have n2 : A 1 2 < 0 := by rw [hB.1.2.1.2 2 (by decide) (by decide)]; decide
  obtain ⟨n, hL, n1, hF⟩ := hF
  have en : n = 4 ∧ TOK A ar (A 1 (rt A 1 o)) := by
    rcases hF with q | q | q | q | q | q | q | q | q | q | q | q
    · omega
    · omega
    · omega
    · omega
    · omega
    · omega
    · omega
    · exact ⟨q.2.1, q.2.2⟩
    · omega
    · omega
    · omega
    · omega
  clear hF
  obtain ⟨rfl, tk1⟩ := en
  have wo := WD_pair hP o0 o1 (by omega)
  rw [if_neg (fun q => absurd q.1 (by omega))] at wo
  have v0 := VD_rt hP o0 o1 hL (by decide : 0 < 4)
  have v0e : VD A o = WD A (A 1 o) + VD A (rt A 1 o) := v0.1
  have wr : WD A (A 1 o) = 1 := WD_atom (by rw [hB.1.2.1.2 _ (by omega) (by omega)]; decide)
  have v1 := VD_rt hP o0 o1 hL (by decide : 1 < 4)
  have v1e : VD A (rt A 1 o) = WD A (A 1 (rt A 1 o)) + VD A (rt A 2 o) := v1.1
  have v2 := VD_rt hP o0 o1 hL (by decide : 2 < 4)
  have v2e : VD A (rt A 2 o) = WD A (A 1 (rt A 2 o)) + VD A (rt A 3 o) := v2.1
  have v3 := VD_rt hP o0 o1 hL (by decide : 3 < 4)
  have v3e : VD A (rt A 3 o) = WD A (A 1 (rt A 3 o)) + VD A (rt A 4 o) := v3.1
  have vz : VD A (rt A 4 o) = 0 := by rw [isL_end 4 o hL, VD_atom n0, if_pos rfl]
  have cf := hcf.2 (by omega)
  have cf2 := cf.2.2.2.2.1 ef
  have h1 := hC.1
  have h2 := hC1.1
  have ca := CLA_120 hC
  have cb := CLA_120 hC1
  have ka := KK_ge (d := dd + 1) (n := A 51 c) (s := SG (TZ A ar) (fun k => A 50 (30 * c + k)) (A 51 c).toNat) (v := SG (NT A wq) (fun k => A 50 (30 * c + k)) (A 51 c).toNat) (by omega) (by omega)
  have kb := KK_ge (d := dd + 1) (n := A 51 (c + 1)) (s := SG (TZ A ar) (fun k => A 50 (30 * (c + 1) + k)) (A 51 (c + 1)).toNat) (v := SG (NT A wq) (fun k => A 50 (30 * (c + 1) + k)) (A 51 (c + 1)).toNat) (by omega) (by omega)
  have kae : KC (dd + 1) A ar c = KK (dd + 1) (A 51 c) (SG (TZ A ar) (fun k => A 50 (30 * c + k)) (A 51 c).toNat) (SG (NT A wq) (fun k => A 50 (30 * c + k)) (A 51 c).toNat) := rfl
  have kbe : KC (dd + 1) A ar (c + 1) = KK (dd + 1) (A 51 (c + 1)) (SG (TZ A ar) (fun k => A 50 (30 * (c + 1) + k)) (A 51 (c + 1)).toNat) (SG (NT A wq) (fun k => A 50 (30 * (c + 1) + k)) (A 51 (c + 1)).toNat) := rfl
  refine cl_go rfl ?_
  show xx_go (xt_P z) (d + 10) 154 0 [some (.ref h.length), some (.int (iI k)), none, none, none, none, none, none] [] (mh h R I A N) _
  refine go_a (pc' := 1) (ls' := [some (.ref h.length), some (.int (iI k)), none, none, none, none, none, none]) (st' := [.ref h.length]) rfl rfl ?_
  refine go_get rfl mh_o rfl rfl ?_
  refine go_a (pc' := 5) (ls' := [some (.ref h.length), some (.int (iI k)), none, none, none, none, none, none]) (st' := [.int (iI k), .ref (h.length + 47)]) rfl rfl ?_
  refine mi_ild rfl mh_a47 (by omega) (by omega) (by decide) ?_
  rw [ek]
  refine go_a (pc' := 7) (ls' := [some (.ref h.length), some (.int (iI k)), some (.int (iI o)), none, none, none, none, none]) (st' := []) rfl rfl ?_
  refine go_a (pc' := 8) (ls' := [some (.ref h.length), some (.int (iI k)), some (.int (iI o)), none, none, none, none, none]) (st' := [.ref h.length]) rfl rfl ?_
  refine go_get rfl mh_o rfl rfl ?_
  refine go_a (pc' := 12) (ls' := [some (.ref h.length), some (.int (iI k)), some (.int (iI o)), none, none, none, none, none]) (st' := [.int (iI k), .ref (h.length + 49)]) rfl rfl ?_
  refine mi_ild rfl mh_a49 (by omega) (by omega) (by decide) ?_
  rw [ec]
  refine go_a (pc' := 14) (ls' := [some (.ref h.length), some (.int (iI k)), some (.int (iI o)), some (.int (iI c)), none, none, none, none]) (st' := []) rfl rfl ?_
  refine go_a (pc' := 15) (ls' := [some (.ref h.length), some (.int (iI k)), some (.int (iI o)), some (.int (iI c)), none, none, none, none]) (st' := [.ref h.length]) rfl rfl ?_
  refine go_a (pc' := 16) (ls' := [some (.ref h.length), some (.int (iI k)), some (.int (iI o)), some (.int (iI c)), none, none, none, none]) (st' := [.int (iI 0), .ref h.length]) rfl rfl ?_
  refine go_put (j := 67) rfl mh_o rfl rfl (show 12 ≤ _ from hc) (show 67 < 86 by decide) rfl rfl ?_
  rw [mh_p67]
  obtain ⟨J, hJ⟩ : ∃ J : Nat → Int, J = su I 67 0 := ⟨_, rfl⟩
  rw [← hJ]
  have bJ : BX (fun j => j = 67) NO I A N J A N := by
    subst hJ
    exact BX_of hB.1.1 (fun j q => su_ne q) (fun a _ => rfl) rfl rfl rfl rfl rfl rfl rfl rfl rfl rfl
  have J7 : J 7 = I 7 := by subst hJ; rfl
  have J49 : J 49 = I 49 := by subst hJ; rfl
  have R0 : RU ar 0 I A N J A N := RU_of hB bJ (fun j q => by subst q; unfold FC; omega) (fun a q => absurd q (fun z => z)) (SZI_124 (A := A) (A1 := A) hB.1.2.2 rfl rfl rfl J7) (by subst hJ; rfl) (by subst hJ; rfl) (by rw [J49]; exact hB.2.2.2.2) (by omega) (fun _ => J49)
  have D0 : DR ar 0 0 0 J A := by subst hJ; exact DR_00
  have PJ := RU_P R0
  refine go_a (pc' := 20) (ls' := [some (.ref h.length), some (.int (iI k)), some (.int (iI o)), some (.int (iI c)), none, none, none, none]) (st' := [.ref h.length]) rfl rfl ?_
  refine go_a (pc' := 21) (ls' := [some (.ref h.length), some (.int (iI k)), some (.int (iI o)), some (.int (iI c)), none, none, none, none]) (st' := [.int (iI o), .ref h.length]) rfl rfl ?_
  refine go_v (m := 98) (as := [.ref h.length, .int (iI o)]) (r := []) rfl rfl rfl mh_o rfl rfl (mm_lenL z (d + 8) 4 o h R J A N hc PJ n0 o0 (by omega) hL) (fun v h1 hq => ?_)
  obtain ⟨rfl, rfl⟩ := hq
  show xx_go (xt_P z) (d + 10) 154 24 [some (.ref h.length), some (.int (iI k)), some (.int (iI o)), some (.int (iI c)), none, none, none, none] [.int (iI (((4 : Nat) : Int)))] (mh h R J A N) _
  refine go_a (pc' := 25) (ls' := [some (.ref h.length), some (.int (iI k)), some (.int (iI o)), some (.int (iI c)), none, none, none, none]) (st' := [.int (iI 1), .int (iI (((4 : Nat) : Int)))]) rfl rfl ?_
  refine mi_le (t := 107) rfl rfl (by omega) (by omega) (by omega) (by omega) (fun q => by omega) (fun _ => ?_)
  refine go_a (pc' := 29) (ls' := [some (.ref h.length), some (.int (iI k)), some (.int (iI o)), some (.int (iI c)), none, none, none, none]) (st' := [.ref h.length]) rfl rfl ?_
  refine go_get rfl mh_o rfl rfl ?_
  refine go_a (pc' := 33) (ls' := [some (.ref h.length), some (.int (iI k)), some (.int (iI o)), some (.int (iI c)), none, none, none, none]) (st' := [.int (iI o), .ref (h.length + 1)]) rfl rfl ?_
  refine mi_ild rfl mh_a1 (by omega) (by omega) (by decide) ?_
  refine go_a (pc' := 36) (ls' := [some (.ref h.length), some (.int (iI k)), some (.int (iI o)), some (.int (iI c)), none, none, none, none]) (st' := [.int (iI 37), .int (iI (A 1 o))]) rfl rfl ?_
  refine mi_eq (t := 107) rfl rfl (by omega) (by omega) (by omega) (by omega) (fun q => by omega) (fun _ => ?_)
  refine go_a (pc' := 40) (ls' := [some (.ref h.length), some (.int (iI k)), some (.int (iI o)), some (.int (iI c)), none, none, none, none]) (st' := [.ref h.length]) rfl rfl ?_
  refine go_get rfl mh_o rfl rfl ?_
  refine go_a (pc' := 44) (ls' := [some (.ref h.length), some (.int (iI k)), some (.int (iI o)), some (.int (iI c)), none, none, none, none]) (st' := [.int (iI o), .ref (h.length + 1)]) rfl rfl ?_
  refine mi_ild rfl mh_a1 (by omega) (by omega) (by decide) ?_
  refine go_a (pc' := 47) (ls' := [some (.ref h.length), some (.int (iI k)), some (.int (iI o)), some (.int (iI c)), none, none, none, none]) (st' := [.int (iI 38), .int (iI (A 1 o))]) rfl rfl ?_
  refine mi_eq (t := 107) rfl rfl (by omega) (by omega) (by omega) (by omega) (fun q => by omega) (fun _ => ?_)
  refine go_a (pc' := 51) (ls' := [some (.ref h.length), some (.int (iI k)), some (.int (iI o)), some (.int (iI c)), none, none, none, none]) (st' := [.ref h.length]) rfl rfl ?_
  refine go_get rfl mh_o rfl rfl ?_
  refine go_a (pc' := 55) (ls' := [some (.ref h.length), some (.int (iI k)), some (.int (iI o)), some (.int (iI c)), none, none, none, none]) (st' := [.int (iI o), .ref (h.length + 1)]) rfl rfl ?_
  refine mi_ild rfl mh_a1 (by omega) (by omega) (by decide) ?_
  refine go_a (pc' := 58) (ls' := [some (.ref h.length), some (.int (iI k)), some (.int (iI o)), some (.int (iI c)), none, none, none, none]) (st' := [.int (iI 39), .int (iI (A 1 o))]) rfl rfl ?_
  refine mi_eq (t := 107) rfl rfl (by omega) (by omega) (by omega) (by omega) (fun q => by omega) (fun _ => ?_)
  refine go_a (pc' := 62) (ls' := [some (.ref h.length), some (.int (iI k)), some (.int (iI o)), some (.int (iI c)), none, none, none, none]) (st' := [.ref h.length]) rfl rfl ?_
  refine go_get rfl mh_o rfl rfl ?_
  refine go_a (pc' := 66) (ls' := [some (.ref h.length), some (.int (iI k)), some (.int (iI o)), some (.int (iI c)), none, none, none, none]) (st' := [.int (iI o), .ref (h.length + 1)]) rfl rfl ?_
  refine mi_ild rfl mh_a1 (by omega) (by omega) (by decide) ?_
  refine go_a (pc' := 69) (ls' := [some (.ref h.length), some (.int (iI k)), some (.int (iI o)), some (.int (iI c)), none, none, none, none]) (st' := [.int (iI 41), .int (iI (A 1 o))]) rfl rfl ?_
  refine mi_eq (t := 107) rfl rfl (by omega) (by omega) (by omega) (by omega) (fun q => by omega) (fun _ => ?_)
  refine go_a (pc' := 73) (ls' := [some (.ref h.length), some (.int (iI k)), some (.int (iI o)), some (.int (iI c)), none, none, none, none]) (st' := [.ref h.length]) rfl rfl ?_
  refine go_get rfl mh_o rfl rfl ?_
  refine go_a (pc' := 77) (ls' := [some (.ref h.length), some (.int (iI k)), some (.int (iI o)), some (.int (iI c)), none, none, none, none]) (st' := [.int (iI o), .ref (h.length + 1)]) rfl rfl ?_
  refine mi_ild rfl mh_a1 (by omega) (by omega) (by decide) ?_
  refine go_a (pc' := 80) (ls' := [some (.ref h.length), some (.int (iI k)), some (.int (iI o)), some (.int (iI c)), none, none, none, none]) (st' := [.int (iI 42), .int (iI (A 1 o))]) rfl rfl ?_
  refine mi_eq (t := 107) rfl rfl (by omega) (by omega) (by omega) (by omega) (fun q => by omega) (fun _ => ?_)
  refine go_a (pc' := 84) (ls' := [some (.ref h.length), some (.int (iI k)), some (.int (iI o)), some (.int (iI c)), none, none, none, none]) (st' := [.ref h.length]) rfl rfl ?_
  refine go_get rfl mh_o rfl rfl ?_
  refine go_a (pc' := 88) (ls' := [some (.ref h.length), some (.int (iI k)), some (.int (iI o)), some (.int (iI c)), none, none, none, none]) (st' := [.int (iI o), .ref (h.length + 1)]) rfl rfl ?_
  refine mi_ild rfl mh_a1 (by omega) (by omega) (by decide) ?_
  refine go_a (pc' := 91) (ls' := [some (.ref h.length), some (.int (iI k)), some (.int (iI o)), some (.int (iI c)), none, none, none, none]) (st' := [.int (iI 43), .int (iI (A 1 o))]) rfl rfl ?_
  refine mi_eq (t := 107) rfl rfl (by omega) (by omega) (by omega) (by omega) (fun q => by omega) (fun _ => ?_)
  refine go_a (pc' := 95) (ls' := [some (.ref h.length), some (.int (iI k)), some (.int (iI o)), some (.int (iI c)), none, none, none, none]) (st' := [.ref h.length]) rfl rfl ?_
  refine go_a (pc' := 96) (ls' := [some (.ref h.length), some (.int (iI k)), some (.int (iI o)), some (.int (iI c)), none, none, none, none]) (st' := [.ref h.length, .ref h.length]) rfl rfl ?_
  refine go_a (pc' := 97) (ls' := [some (.ref h.length), some (.int (iI k)), some (.int (iI o)), some (.int (iI c)), none, none, none, none]) (st' := [.int (iI o), .ref h.length, .ref h.length]) rfl rfl ?_
  refine go_a (pc' := 98) (ls' := [some (.ref h.length), some (.int (iI k)), some (.int (iI o)), some (.int (iI c)), none, none, none, none]) (st' := [.int (iI 1), .int (iI o), .ref h.length, .ref h.length]) rfl rfl ?_
  have Lxl := isL_extB hP R0.1 4 o o0 o1 hL
  have ixl := it_BX hP R0.1 o0 o1 hL (by decide : 1 < 4)
  refine go_v (m := 99) (as := [.ref h.length, .int (iI o), .int (iI 1)]) (r := [.ref h.length]) rfl rfl rfl mh_o rfl rfl (mm_nth z (d + 9) 1 4 o h R J A N hc PJ (by decide) o0 (by omega) Lxl (by omega)) (fun v h1 hq => ?_)
  obtain ⟨rfl, rfl⟩ := hq
  rw [ixl]
  show xx_go (xt_P z) (d + 10) 154 101 [some (.ref h.length), some (.int (iI k)), some (.int (iI o)), some (.int (iI c)), none, none, none, none] [.int (iI (A 1 (rt A 1 o))), .ref h.length] (mh h R J A N) _
  have wxl := (WD_BX hP R0.1 v1.2.1.1 v1.2.1.2).1
  refine go_v (m := 105) (as := [.ref h.length, .int (iI (A 1 (rt A 1 o)))]) (r := []) rfl rfl rfl mh_o rfl rfl (mr_term z (d + 2) ar (A 1 (rt A 1 o)) h R J A N hc R0.2.1 v1.2.1.1 (by omega) (by omega) (by omega)) (fun v h1 hq => ?_)
  obtain ⟨l, I1, A1, rfl, rfl, R1, K1, ⟨u1, bb1⟩, ht1⟩ := hq
  have tt1 : ((0 ≤ l ∧ l < I1 7) ∧ TZ A1 ar l = TS A ar (A 1 (rt A 1 o))) ∧ (1 ≤ TS A ar (A 1 (rt A 1 o)) ∧ TS A ar (A 1 (rt A 1 o)) ≤ 120) ∧ TS A ar (A 1 (rt A 1 o)) ≤ WD A (A 1 (rt A 1 o)) ∧ NFT A1 (A 1 (rt A 1 o)) l := by
    have tk := TOK_BX hP R0.1 v1.2.1.1 v1.2.1.2 tk1
    rcases ht1 with q | q
    · exact absurd tk q.2
    · have ts := TS_BX (ar := ar) hP R0.1 v1.2.1.1 v1.2.1.2
      rw [ts, wxl] at q
      exact ⟨⟨q.1, q.2.2.2.1⟩, by omega, q.2.2.2.2.1, q.2.2.2.2.2⟩
  obtain ⟨h_l1, sb_l, sw_l, nf_l⟩ := tt1
  have s_l := sb_l.1
  rw [wxl] at R1
  have D1 := K1 _ _ _ D0
  have P1 := RU_P R1
  have X1 := RU_tr R0 R1 (Int.le_refl _)
  have y1 := X1.2.2.1
  have z1 : I1 7 ≤ 140000 := P1.1
  have x1 : I 7 ≤ I1 7 := X1.1.2.1
  have ex1 : A1 1 o = A 1 o := (X1.1.2.2.1 o o0 o1).1
  show xx_go (xt_P z) (d + 10) 154 104 [some (.ref h.length), some (.int (iI k)), some (.int (iI o)), some (.int (iI c)), none, none, none, none] [.int (iI l)] (mh h R I1 A1 N) _
  refine go_a (pc' := 108) (ls' := [some (.ref h.length), some (.int (iI k)), some (.int (iI o)), some (.int (iI c)), none, none, none, none]) (st' := [.int (iI l)]) rfl rfl ?_
  refine go_a (pc' := 110) (ls' := [some (.ref h.length), some (.int (iI k)), some (.int (iI o)), some (.int (iI c)), some (.int (iI l)), none, none, none]) (st' := []) rfl rfl ?_
  refine go_a (pc' := 111) (ls' := [some (.ref h.length), some (.int (iI k)), some (.int (iI o)), some (.int (iI c)), some (.int (iI l)), none, none, none]) (st' := [.ref h.length]) rfl rfl ?_
  refine go_get rfl mh_o rfl rfl ?_
  refine go_a (pc' := 115) (ls' := [some (.ref h.length), some (.int (iI k)), some (.int (iI o)), some (.int (iI c)), some (.int (iI l)), none, none, none]) (st' := [.int (iI o), .ref (h.length + 1)]) rfl rfl ?_
  refine mi_ild rfl mh_a1 (by omega) (by omega) (by decide) ?_
  refine go_a (pc' := 118) (ls' := [some (.ref h.length), some (.int (iI k)), some (.int (iI o)), some (.int (iI c)), some (.int (iI l)), none, none, none]) (st' := [.int (iI 32), .int (iI (A1 1 o))]) rfl rfl ?_
  refine mi_lt (t := 145) rfl rfl (by omega) (by omega) (by omega) (by omega) (fun q => by omega) (fun _ => ?_)
  refine go_a (pc' := 122) (ls' := [some (.ref h.length), some (.int (iI k)), some (.int (iI o)), some (.int (iI c)), some (.int (iI l)), none, none, none]) (st' := [.ref h.length]) rfl rfl ?_
  refine go_get rfl mh_o rfl rfl ?_
  refine go_a (pc' := 126) (ls' := [some (.ref h.length), some (.int (iI k)), some (.int (iI o)), some (.int (iI c)), some (.int (iI l)), none, none, none]) (st' := [.int (iI o), .ref (h.length + 1)]) rfl rfl ?_
  refine mi_ild rfl mh_a1 (by omega) (by omega) (by decide) ?_
  refine go_a (pc' := 129) (ls' := [some (.ref h.length), some (.int (iI k)), some (.int (iI o)), some (.int (iI c)), some (.int (iI l)), none, none, none]) (st' := [.int (iI 36), .int (iI (A1 1 o))]) rfl rfl ?_
  refine mi_gt (t := 145) rfl rfl (by omega) (by omega) (by omega) (by omega) (fun _ => ?_) (fun q => by omega)
  refine go_a (pc' := 146) (ls' := [some (.ref h.length), some (.int (iI k)), some (.int (iI o)), some (.int (iI c)), some (.int (iI l)), none, none, none]) (st' := [.int (iI ((-1)))]) rfl rfl ?_
  refine go_a (pc' := 148) (ls' := [some (.ref h.length), some (.int (iI k)), some (.int (iI o)), some (.int (iI c)), some (.int (iI l)), some (.int (iI ((-1)))), none, none]) (st' := []) rfl rfl ?_
  refine go_a (pc' := 149) (ls' := [some (.ref h.length), some (.int (iI k)), some (.int (iI o)), some (.int (iI c)), some (.int (iI l)), some (.int (iI ((-1)))), none, none]) (st' := [.ref h.length]) rfl rfl ?_
  refine go_get rfl mh_o rfl rfl ?_
  refine go_a (pc' := 153) (ls' := [some (.ref h.length), some (.int (iI k)), some (.int (iI o)), some (.int (iI c)), some (.int (iI l)), some (.int (iI ((-1)))), none, none]) (st' := [.int (iI o), .ref (h.length + 1)]) rfl rfl ?_
  refine mi_ild rfl mh_a1 (by omega) (by omega) (by decide) ?_
  refine go_a (pc' := 156) (ls' := [some (.ref h.length), some (.int (iI k)), some (.int (iI o)), some (.int (iI c)), some (.int (iI l)), some (.int (iI ((-1)))), none, none]) (st' := [.int (iI 35), .int (iI (A1 1 o))]) rfl rfl ?_
  refine mi_eq (t := 170) rfl rfl (by omega) (by omega) (by omega) (by omega) (fun q => by omega) (fun _ => ?_)
  refine go_a (pc' := 160) (ls' := [some (.ref h.length), some (.int (iI k)), some (.int (iI o)), some (.int (iI c)), some (.int (iI l)), some (.int (iI ((-1)))), none, none]) (st' := [.ref h.length]) rfl rfl ?_
  refine go_get rfl mh_o rfl rfl ?_
  refine go_a (pc' := 164) (ls' := [some (.ref h.length), some (.int (iI k)), some (.int (iI o)), some (.int (iI c)), some (.int (iI l)), some (.int (iI ((-1)))), none, none]) (st' := [.int (iI o), .ref (h.length + 1)]) rfl rfl ?_
  refine mi_ild rfl mh_a1 (by omega) (by omega) (by decide) ?_
  refine go_a (pc' := 167) (ls' := [some (.ref h.length), some (.int (iI k)), some (.int (iI o)), some (.int (iI c)), some (.int (iI l)), some (.int (iI ((-1)))), none, none]) (st' := [.int (iI 36), .int (iI (A1 1 o))]) rfl rfl ?_
  refine mi_ne (t := 183) rfl rfl (by omega) (by omega) (by omega) (by omega) (fun _ => ?_) (fun q => by omega)
  refine go_a (pc' := 184) (ls' := [some (.ref h.length), some (.int (iI k)), some (.int (iI o)), some (.int (iI c)), some (.int (iI l)), some (.int (iI ((-1)))), none, none]) (st' := [.int (iI ((-1)))]) rfl rfl ?_
  refine go_a (pc' := 186) (ls' := [some (.ref h.length), some (.int (iI k)), some (.int (iI o)), some (.int (iI c)), some (.int (iI l)), some (.int (iI ((-1)))), some (.int (iI ((-1)))), none]) (st' := []) rfl rfl ?_
  refine go_a (pc' := 187) (ls' := [some (.ref h.length), some (.int (iI k)), some (.int (iI o)), some (.int (iI c)), some (.int (iI l)), some (.int (iI ((-1)))), some (.int (iI ((-1)))), none]) (st' := [.ref h.length]) rfl rfl ?_
  refine go_get rfl mh_o rfl rfl ?_
  refine go_a (pc' := 191) (ls' := [some (.ref h.length), some (.int (iI k)), some (.int (iI o)), some (.int (iI c)), some (.int (iI l)), some (.int (iI ((-1)))), some (.int (iI ((-1)))), none]) (st' := [.int (iI o), .ref (h.length + 1)]) rfl rfl ?_
  refine mi_ild rfl mh_a1 (by omega) (by omega) (by decide) ?_
  rw [ex1]
  refine mi_ts (c := 40) (t := 556) rfl ef rfl ?_
  refine go_a (pc' := 557) (ls' := [some (.ref h.length), some (.int (iI k)), some (.int (iI o)), some (.int (iI c)), some (.int (iI l)), some (.int (iI ((-1)))), some (.int (iI ((-1)))), none]) (st' := [.ref h.length]) rfl rfl ?_
  refine go_a (pc' := 559) (ls' := [some (.ref h.length), some (.int (iI k)), some (.int (iI o)), some (.int (iI c)), some (.int (iI l)), some (.int (iI ((-1)))), some (.int (iI ((-1)))), none]) (st' := [.int (iI l), .ref h.length]) rfl rfl ?_
  refine go_v (m := 125) (as := [.ref h.length, .int (iI l)]) (r := []) rfl rfl rfl mh_o rfl rfl (mr_not z (d + 3) ar l h R I1 A1 N hc X1.2.1 h_l1.1.1 h_l1.1.2 (by rw [h_l1.2]; exact s_l) (Or.inl (by rw [h_l1.2]; omega)) (by omega)) (fun v h1 hq => ?_)
  obtain ⟨q, I2, A2, rfl, rfl, R2, K2, tv2, tb2, te2⟩ := hq
  rw [h_l1.2] at te2
  have D2 := K2 _ _ _ D1
  obtain ⟨szq, hszq⟩ : ∃ x : Int, TZ A2 ar q = x := ⟨_, rfl⟩
  have h_q2 : (0 ≤ q ∧ q < I2 7) ∧ TZ A2 ar q = szq := ⟨tv2.1, hszq⟩
  have s_q : 1 ≤ szq := by rw [← hszq]; exact tv2.2
  rw [hszq] at te2 tb2
  have P2 := RU_P R2
  have X2 := RU_tr X1 R2 (Int.le_refl _)
  have h_l2 := RU_carry P1 R2 h_l1 s_l
  have y2 := X2.2.2.1
  have z2 : I2 7 ≤ 140000 := P2.1
  have x2 : I 7 ≤ I2 7 := X2.1.2.1
  have ex2 : A2 1 o = A 1 o := (X2.1.2.2.1 o o0 o1).1
  clear h_l1 y1 z1 x1 ex1
  show xx_go (xt_P z) (d + 10) 154 562 [some (.ref h.length), some (.int (iI k)), some (.int (iI o)), some (.int (iI c)), some (.int (iI l)), some (.int (iI ((-1)))), some (.int (iI ((-1)))), none] [.int (iI q)] (mh h R I2 A2 N) _
  refine go_a (pc' := 564) (ls' := [some (.ref h.length), some (.int (iI k)), some (.int (iI o)), some (.int (iI c)), some (.int (iI l)), some (.int (iI ((-1)))), some (.int (iI ((-1)))), some (.int (iI q))]) (st' := []) rfl rfl ?_
  refine go_a (pc' := 565) (ls' := [some (.ref h.length), some (.int (iI k)), some (.int (iI o)), some (.int (iI c)), some (.int (iI l)), some (.int (iI ((-1)))), some (.int (iI ((-1)))), some (.int (iI q))]) (st' := [.ref h.length]) rfl rfl ?_
  refine go_a (pc' := 566) (ls' := [some (.ref h.length), some (.int (iI k)), some (.int (iI o)), some (.int (iI c)), some (.int (iI l)), some (.int (iI ((-1)))), some (.int (iI ((-1)))), some (.int (iI q))]) (st' := [.int (iI c), .ref h.length]) rfl rfl ?_
  refine go_a (pc' := 568) (ls' := [some (.ref h.length), some (.int (iI k)), some (.int (iI o)), some (.int (iI c)), some (.int (iI l)), some (.int (iI ((-1)))), some (.int (iI ((-1)))), some (.int (iI q))]) (st' := [.int (iI l), .int (iI c), .ref h.length]) rfl rfl ?_
  have f50 : A2 50 = A 50 := X2.1.2.2.2.2 50 (by decide) (by decide) (by decide) (by decide) (by decide) (by decide) (by unfold GC; omega)
  have f51 : A2 51 = A 51 := X2.1.2.2.2.2 51 (by decide) (by decide) (by decide) (by decide) (by decide) (by decide) (by unfold GC; omega)
  have Ca := CLA_RU hP X2 hC
  have Cb := CLA_RU hP X2 hC1
  refine go_v (m := 159) (as := [.ref h.length, .int (iI c), .int (iI l)]) (r := []) rfl rfl rfl mh_o rfl rfl (mm_has z (d + 9) ar c l h R I2 A2 N hc c0 (by omega) Ca (by omega) (by omega) (by omega)) (fun v h1 hq => ?_)
  obtain ⟨⟨b1, hb1, rfl⟩, rfl⟩ := hq
  show xx_go (xt_P z) (d + 10) 154 571 [some (.ref h.length), some (.int (iI k)), some (.int (iI o)), some (.int (iI c)), some (.int (iI l)), some (.int (iI ((-1)))), some (.int (iI ((-1)))), some (.int (iI q))] [.int (iI b1)] (mh h R I2 A2 N) _
  refine mi_eq0 (t := 586) rfl rfl (by omega) (by omega) (fun e1 => ?_) (fun e1 => ?_)
  · refine go_a (pc' := 587) (ls' := [some (.ref h.length), some (.int (iI k)), some (.int (iI o)), some (.int (iI c)), some (.int (iI l)), some (.int (iI ((-1)))), some (.int (iI ((-1)))), some (.int (iI q))]) (st' := [.int (iI 0)]) rfl rfl ?_
    exact go_r rfl rfl rfl rfl rfl rfl ⟨0, I2, A2, N, rfl, rfl, RU_w X2 (by omega), Or.inl rfl⟩
  refine go_a (pc' := 575) (ls' := [some (.ref h.length), some (.int (iI k)), some (.int (iI o)), some (.int (iI c)), some (.int (iI l)), some (.int (iI ((-1)))), some (.int (iI ((-1)))), some (.int (iI q))]) (st' := [.ref h.length]) rfl rfl ?_
  refine go_a (pc' := 576) (ls' := [some (.ref h.length), some (.int (iI k)), some (.int (iI o)), some (.int (iI c)), some (.int (iI l)), some (.int (iI ((-1)))), some (.int (iI ((-1)))), some (.int (iI q))]) (st' := [.int (iI c), .ref h.length]) rfl rfl ?_
  refine go_a (pc' := 577) (ls' := [some (.ref h.length), some (.int (iI k)), some (.int (iI o)), some (.int (iI c)), some (.int (iI l)), some (.int (iI ((-1)))), some (.int (iI ((-1)))), some (.int (iI q))]) (st' := [.int (iI 1), .int (iI c), .ref h.length]) rfl rfl ?_
  refine mi_add rfl ?_
  refine go_a (pc' := 580) (ls' := [some (.ref h.length), some (.int (iI k)), some (.int (iI o)), some (.int (iI c)), some (.int (iI l)), some (.int (iI ((-1)))), some (.int (iI ((-1)))), some (.int (iI q))]) (st' := [.int (iI q), .int (iI (c + 1)), .ref h.length]) rfl rfl ?_
  refine go_v (m := 159) (as := [.ref h.length, .int (iI (c + 1)), .int (iI q)]) (r := []) rfl rfl rfl mh_o rfl rfl (mm_has z (d + 9) ar (c + 1) q h R I2 A2 N hc (by omega) (by omega) Cb (by omega) (by omega) (by omega)) (fun v h1 hq => ?_)
  obtain ⟨⟨b2, hb2, rfl⟩, rfl⟩ := hq
  show xx_go (xt_P z) (d + 10) 154 583 [some (.ref h.length), some (.int (iI k)), some (.int (iI o)), some (.int (iI c)), some (.int (iI l)), some (.int (iI ((-1)))), some (.int (iI ((-1)))), some (.int (iI q))] [.int (iI b2)] (mh h R I2 A2 N) _
  refine mi_ne0 (t := 588) rfl rfl (by omega) (by omega) (fun e2 => ?_) (fun e2 => ?_)
  rotate_left
  · refine go_a (pc' := 587) (ls' := [some (.ref h.length), some (.int (iI k)), some (.int (iI o)), some (.int (iI c)), some (.int (iI l)), some (.int (iI ((-1)))), some (.int (iI ((-1)))), some (.int (iI q))]) (st' := [.int (iI 0)]) rfl rfl ?_
    exact go_r rfl rfl rfl rfl rfl rfl ⟨0, I2, A2, N, rfl, rfl, RU_w X2 (by omega), Or.inl rfl⟩
  refine go_a (pc' := 589) (ls' := [some (.ref h.length), some (.int (iI k)), some (.int (iI o)), some (.int (iI c)), some (.int (iI l)), some (.int (iI ((-1)))), some (.int (iI ((-1)))), some (.int (iI q))]) (st' := [.ref h.length]) rfl rfl ?_
  refine go_a (pc' := 590) (ls' := [some (.ref h.length), some (.int (iI k)), some (.int (iI o)), some (.int (iI c)), some (.int (iI l)), some (.int (iI ((-1)))), some (.int (iI ((-1)))), some (.int (iI q))]) (st' := [.int (iI c), .ref h.length]) rfl rfl ?_
  refine go_a (pc' := 592) (ls' := [some (.ref h.length), some (.int (iI k)), some (.int (iI o)), some (.int (iI c)), some (.int (iI l)), some (.int (iI ((-1)))), some (.int (iI ((-1)))), some (.int (iI q))]) (st' := [.int (iI l), .int (iI c), .ref h.length]) rfl rfl ?_
  refine go_v (m := 158) (as := [.ref h.length, .int (iI c), .int (iI l)]) (r := []) rfl rfl rfl mh_o rfl rfl (mr_pour z (d + 8) ar 0 0 _ c l h R I2 A2 N hc X2.2.1 D2 (by omega) (by omega) (by omega) Ca (by omega) (by omega)) (fun v h1 hq => ?_)
  obtain ⟨rfl, I3, A3, rfl, R3, -, D3⟩ := hq
  have pa3 := PE_le (A := A2) (c := c) (b := l) (x := 1) (k := A2 51 c) (by decide)
  have pb3 : 0 ≤ PE A2 c l (TZ A2 ar (A2 50 (30 * c))) (A2 51 c) := by
    rcases PE_nn A2 c l (TZ A2 ar (A2 50 (30 * c))) (A2 51 c) with q | q
    · rw [q]; exact Int.le_refl _
    · rw [q]; exact tz_1nn A2 ar _ _
  have sg3 : SG (TZ A2 ar) (fun k => A2 50 (30 * c + k)) (A2 51 c).toNat = SG (TZ A ar) (fun k => A 50 (30 * c + k)) (A 51 c).toNat := CLA_SG hP X2 hC
  have m53 : A2 51 c = A 51 c := by rw [X2.1.2.2.2.2 51 (by decide) (by decide) (by decide) (by decide) (by decide) (by decide) (by unfold GC; omega)]
  have D3b := DR_w (m1 := 0 + A 51 c) (s1 := 0 + SG (TZ A ar) (fun k => A 50 (30 * c + k)) (A 51 c).toNat) D3 (by omega) (by omega) (Int.le_refl _)
  have P3 := RU_P R3
  have X3 := RU_tr X2 R3 (Int.le_refl _)
  have h_l3 := RU_carry P2 R3 h_l2 s_l
  have h_q3 := RU_carry P2 R3 h_q2 s_q
  have y3 := X3.2.2.1
  have z3 : I3 7 ≤ 140000 := P3.1
  have x3 : I 7 ≤ I3 7 := X3.1.2.1
  have ex3 : A3 1 o = A 1 o := (X3.1.2.2.1 o o0 o1).1
  clear h_l2 h_q2 y2 z2 x2 ex2
  show xx_go (xt_P z) (d + 10) 154 595 [some (.ref h.length), some (.int (iI k)), some (.int (iI o)), some (.int (iI c)), some (.int (iI l)), some (.int (iI ((-1)))), some (.int (iI ((-1)))), some (.int (iI q))] [] (mh h R I3 A3 N) _
  refine go_a (pc' := 596) (ls' := [some (.ref h.length), some (.int (iI k)), some (.int (iI o)), some (.int (iI c)), some (.int (iI l)), some (.int (iI ((-1)))), some (.int (iI ((-1)))), some (.int (iI q))]) (st' := [.ref h.length]) rfl rfl ?_
  refine go_a (pc' := 597) (ls' := [some (.ref h.length), some (.int (iI k)), some (.int (iI o)), some (.int (iI c)), some (.int (iI l)), some (.int (iI ((-1)))), some (.int (iI ((-1)))), some (.int (iI q))]) (st' := [.int (iI c), .ref h.length]) rfl rfl ?_
  refine go_a (pc' := 598) (ls' := [some (.ref h.length), some (.int (iI k)), some (.int (iI o)), some (.int (iI c)), some (.int (iI l)), some (.int (iI ((-1)))), some (.int (iI ((-1)))), some (.int (iI q))]) (st' := [.int (iI 1), .int (iI c), .ref h.length]) rfl rfl ?_
  refine mi_add rfl ?_
  refine go_a (pc' := 601) (ls' := [some (.ref h.length), some (.int (iI k)), some (.int (iI o)), some (.int (iI c)), some (.int (iI l)), some (.int (iI ((-1)))), some (.int (iI ((-1)))), some (.int (iI q))]) (st' := [.int (iI q), .int (iI (c + 1)), .ref h.length]) rfl rfl ?_
  refine go_v (m := 158) (as := [.ref h.length, .int (iI (c + 1)), .int (iI q)]) (r := []) rfl rfl rfl mh_o rfl rfl (mr_pour z (d + 8) ar ((0 + A 51 c)) ((0 + SG (TZ A ar) (fun k => A 50 (30 * c + k)) (A 51 c).toNat)) _ (c + 1) q h R I3 A3 N hc X3.2.1 D3b (by omega) (by omega) (by omega) (CLA_RU hP X3 hC1) (by omega) (by omega)) (fun v h1 hq => ?_)
  obtain ⟨rfl, I4, A4, rfl, R4, -, D4⟩ := hq
  have pa4 := PE_le (A := A3) (c := (c + 1)) (b := q) (x := 1) (k := A3 51 (c + 1)) (by decide)
  have pb4 : 0 ≤ PE A3 (c + 1) q (TZ A3 ar (A3 50 (30 * (c + 1)))) (A3 51 (c + 1)) := by
    rcases PE_nn A3 (c + 1) q (TZ A3 ar (A3 50 (30 * (c + 1)))) (A3 51 (c + 1)) with q | q
    · rw [q]; exact Int.le_refl _
    · rw [q]; exact tz_1nn A3 ar _ _
  have sg4 : SG (TZ A3 ar) (fun k => A3 50 (30 * (c + 1) + k)) (A3 51 (c + 1)).toNat = SG (TZ A ar) (fun k => A 50 (30 * (c + 1) + k)) (A 51 (c + 1)).toNat := CLA_SG hP X3 hC1
  have m54 : A3 51 (c + 1) = A 51 (c + 1) := by rw [X3.1.2.2.2.2 51 (by decide) (by decide) (by decide) (by decide) (by decide) (by decide) (by unfold GC; omega)]
  have D4b := DR_w (m1 := (0 + A 51 c) + A 51 (c + 1)) (s1 := (0 + SG (TZ A ar) (fun k => A 50 (30 * c + k)) (A 51 c).toNat) + SG (TZ A ar) (fun k => A 50 (30 * (c + 1) + k)) (A 51 (c + 1)).toNat) D4 (by omega) (by omega) (Int.le_refl _)
  have P4 := RU_P R4
  have X4 := RU_tr X3 R4 (Int.le_refl _)
  have h_l4 := RU_carry P3 R4 h_l3 s_l
  have h_q4 := RU_carry P3 R4 h_q3 s_q
  have y4 := X4.2.2.1
  have z4 : I4 7 ≤ 140000 := P4.1
  have x4 : I 7 ≤ I4 7 := X4.1.2.1
  have ex4 : A4 1 o = A 1 o := (X4.1.2.2.1 o o0 o1).1
  clear h_l3 h_q3 y3 z3 x3 ex3
  show xx_go (xt_P z) (d + 10) 154 604 [some (.ref h.length), some (.int (iI k)), some (.int (iI o)), some (.int (iI c)), some (.int (iI l)), some (.int (iI ((-1)))), some (.int (iI ((-1)))), some (.int (iI q))] [] (mh h R I4 A4 N) _
  refine go_a (pc' := 605) (ls' := [some (.ref h.length), some (.int (iI k)), some (.int (iI o)), some (.int (iI c)), some (.int (iI l)), some (.int (iI ((-1)))), some (.int (iI ((-1)))), some (.int (iI q))]) (st' := [.int (iI 1)]) rfl rfl ?_
  refine go_r rfl rfl rfl rfl rfl rfl ⟨1, I4, A4, N, rfl, rfl, RU_w X4 (by omega), Or.inr ⟨rfl, _, _, DR_w D4b (by omega) (Int.le_refl _) (Int.le_refl _), fun b9 b30 b400 => ?_⟩⟩
  have dm := D4b.1
  have ds := D4b.2.2.1
  have dv := D4b.2.2.2
  have kk : KDR dd I4 A4 ar ≤ E + 128 * WD A o - I4 7 := by have kw := KK_cut (d := dd) (n := A 51 c) (s := SG (TZ A ar) (fun k => A 50 (30 * c + k)) (A 51 c).toNat) (v := SG (NT A wq) (fun k => A 50 (30 * c + k)) (A 51 c).toNat) (m := A 51 (c + 1)) (t := SG (TZ A ar) (fun k => A 50 (30 * (c + 1) + k)) (A 51 (c + 1)).toNat) (u := SG (NT A wq) (fun k => A 50 (30 * (c + 1) + k)) (A 51 (c + 1)).toNat) (n2 := I4 67) (s2 := SG (TZ A4 ar) (A4 38) (I4 67).toNat) (v2 := SG (NT A4 wq) (A4 38) (I4 67).toNat) (x := 128 * (3 + WD A (A 1 (rt A 1 o))) - 4 * WD A (A 1 (rt A 1 o)) + 2) d0 d38 (by omega) (by omega) (by omega) (by omega) (by omega) (by omega) (by omega) (by omega) (by omega); unfold KDR; omega
  omega
