def PTK (c : Nat) (hp : xx_H) (s : KS) (u : Int) (t : Nat) (m k : Int) (O : Int → Option Nat) (ZF : Int → List (List Int)) : Prop := hp[t]? = some (.inl (.object "ClauseKernel$Clause", xa_r m.toNat O)) ∧ kn c s t ∧ (0 ≤ m ∧ m ≤ 1000) ∧ ∀ j : Int, 0 ≤ j → j < k → ∃ y : Nat, O j = some y ∧ CL c hp s u y 0 (ZF j)
section EF
variable {c x y t : Nat} {hp h1 h2 : xx_H} {s s1 s2 : KS} {α β γ u u1 w b a1 b1 m k n : Int} {NM : BKM} {Z : List (List Int)} {ZF : Int → List (List Int)} {v : Value} {o : Int} {q B : Nat} {O : Int → Option Nat} {f : Int → Int} {vs : List Value}
theorem PTK_kx (h : PTK c hp s u t m k O ZF) (X : kx c hp s h1 s1 a1 b1) : PTK c h1 s1 u t m k O ZF := by
  obtain ⟨p1, p2, p3, p4⟩ := h
  obtain ⟨k1, e1⟩ := X.2.1 t (List.getElem?_eq_some_iff.mp p1).1 p2
  refine ⟨e1.trans p1, k1, p3, fun j j0 j1 => ?_⟩
  obtain ⟨y, e, C⟩ := p4 j j0 j1
  exact ⟨y, e, CL_kx C X⟩
theorem PTK_u (h : PTK c hp s u t m k O ZF) (hu : u ≤ u1) : PTK c hp s u1 t m k O ZF := by
  obtain ⟨p1, p2, p3, p4⟩ := h
  refine ⟨p1, p2, p3, fun j j0 j1 => ?_⟩
  obtain ⟨y, e, C⟩ := p4 j j0 j1
  exact ⟨y, e, CL_u C hu⟩
theorem KF1_CL (ht : hp[t]? = some (.inl (.object "ClauseKernel$Clause", vs))) (F : KF1 t hp h1) (h : CL c hp s u y b Z) : CL c h1 s u y b Z := by
  obtain ⟨m, w, O, nO, fO, ⟨g1, g2, g3, g4, g5, g6, g7⟩, gz⟩ := h
  have n1 : y ≠ t := by
    intro e
    rw [e] at g1
    cases ht.symm.trans g1
  have n2 : y + 1 ≠ t := by
    intro e
    rw [e] at g2
    have := ht.symm.trans g2
    simp at this
  refine ⟨m, w, O, nO, fO, ⟨(F.2.2 y n1).trans g1, (F.2.2 (y + 1) n2).trans g2, g3, g4, g5, g6, fun j j0 j1 => ?_⟩, gz⟩
  obtain ⟨a, e, T⟩ := g7 j j0 j1
  exact ⟨a, e, KF1_TMr ht F T⟩
theorem KAL_F1r {C : String} (ht : hp[t]? = some (.inl (.object C, vs))) (F : KF1 t hp h1) (h : KAL hp q n f) : KAL h1 q n f := by
  refine ⟨(F.2.2 q (fun e => ?_)).trans h.1, h.2⟩
  rw [e] at h
  have := ht.symm.trans h.1
  simp at this
theorem FTH_F1r {C : String} {a : Nat} {k nm m : Int} {g : Int → Int} {cb : Int} (ht : hp[t]? = some (.inl (.object C, vs))) (F : KF1 t hp h1) (h : FTH c hp s u a k nm m g n f cb) : FTH c h1 s u a k nm m g n f cb := by
  obtain ⟨pq, ta, F1, F2, F3, F4, F5, F6⟩ := h
  refine ⟨pq, ta, (F.2.2 a (fun e => ?_)).trans F1, F2, KAL_F1r ht F F3, F4, KF1_TMr ht F F5, F6⟩
  rw [e] at F1
  cases ht.symm.trans F1
theorem PTK_put (h : PTK c hp s u t m k O ZF) (C : CL c hp s u y 0 Z) : KF1 t hp (hp.set t (.inl (.object "ClauseKernel$Clause", xa_r m.toNat (so O k (some y))))) ∧ PTK c (hp.set t (.inl (.object "ClauseKernel$Clause", xa_r m.toNat (so O k (some y))))) s u t m (k + 1) (so O k (some y)) (so ZF k Z) := by
  obtain ⟨p1, p2, p3, p4⟩ := h
  have F : KF1 t hp (hp.set t (.inl (.object "ClauseKernel$Clause", xa_r m.toNat (so O k (some y))))) := KF1_set p1 (by show (xa_r _ _).length = (xa_r _ _).length; rw [xa_r_len, xa_r_len])
  refine ⟨F, List.getElem?_set_self (List.getElem?_eq_some_iff.mp p1).1, p2, p3, fun j a e => ?_⟩
  by_cases cj : j = k
  · rw [cj, so_self, so_self]
    exact ⟨y, rfl, KF1_CL p1 F C⟩
  · rw [so_ne cj, so_ne cj]
    obtain ⟨w, p, q⟩ := p4 j a (by omega)
    exact ⟨w, p, KF1_CL p1 F q⟩
theorem PTK_nul (h : PTK c hp s u t m k O ZF) (j : Int) : KF1 t hp (hp.set t (.inl (.object "ClauseKernel$Clause", xa_r m.toNat (so O j none)))) := KF1_set h.1 (by show (xa_r _ _).length = (xa_r _ _).length; rw [xa_r_len, xa_r_len])
theorem ki_arrC (hK : KI c hp s) (u m : Int) (m0 : 0 ≤ m) (m1 : m ≤ 1000) : KI c (hp ++ [(.inl (.object "ClauseKernel$Clause", xa_r m.toNat (fun _ => none)) : xx_E)]) s ∧ kx c hp s (hp ++ [(.inl (.object "ClauseKernel$Clause", xa_r m.toNat (fun _ => none)) : xx_E)]) s 1 m ∧ PTK c (hp ++ [(.inl (.object "ClauseKernel$Clause", xa_r m.toNat (fun _ => none)) : xx_E)]) s u hp.length m 0 (fun _ => none) (fun _ => []) := by
  obtain ⟨a1, a2, a3⟩ := ki_app (e := (.inl (.object "ClauseKernel$Clause", xa_r m.toNat (fun _ => none)) : xx_E)) hK
  refine ⟨a1, kx_w a2 (by decide) ?_, app_self, a3, ⟨m0, m1⟩, fun j p q => absurd q (by omega)⟩
  show ((xa_r m.toNat (fun _ => none)).length : Int) ≤ m
  rw [xa_r_len]
  omega
theorem bp_n {n : Int} {f : Int → Int} (h : WFT n f) : bp n f 0 = n.toNat := by
  have n1 := WFT_pos h
  have e0 : sm f 0 = 0 := rfl
  refine bp_uq h (by omega) (by omega) (by rw [h.2, e0]; rfl) (fun j j0 j1 => ?_)
  have := h.1 j (by omega)
  omega
end EF

def QTR (N : Int → Int) (U : Int) (ft : Nat → Int) (k : Nat) (ZF : Int → List (List Int)) (Q : List (List ob_T)) : Prop := Q.length = k ∧ ∀ j : Nat, j < k → ∃ D : List ob_T, Q[j]? = some D ∧ TRO N U ft (ZF (j : Int)) D
theorem QTR_s {N : Int → Int} {U : Int} {ft : Nat → Int} {k : Nat} {ZF : Int → List (List Int)} {Q : List (List ob_T)} {Z : List (List Int)} {D : List ob_T} (h : QTR N U ft k ZF Q) (hD : TRO N U ft Z D) : QTR N U ft (k + 1) (so ZF k Z) (Q ++ [D]) := by
  refine ⟨by rw [List.length_append, h.1]; rfl, fun j hj => ?_⟩
  by_cases c : j = k
  · rw [c]
    refine ⟨D, ?_, by rw [so_self]; exact hD⟩
    rw [List.getElem?_append_right (by rw [h.1]; exact Nat.le_refl _), h.1, Nat.sub_self]
    rfl
  · obtain ⟨D1, a, b⟩ := h.2 j (by omega)
    refine ⟨D1, ?_, by rw [so_ne (by omega)]; exact b⟩
    rw [List.getElem?_append_left (by rw [h.1]; omega)]
    exact a
theorem KST_QTR {c : Nat} {hp h1 : xx_H} {s s1 : KS} {a b g : Int} {NM : BKM} {ft : Nat → Int} {k : Nat} {ZF : Int → List (List Int)} {Q : List (List ob_T)} (P : KPS c hp s NM) (S : KST c hp s h1 s1 a b g) (h : QTR s.N (s.I 8) ft k ZF Q) : QTR s1.N (s1.I 8) ft k ZF Q := by
  refine ⟨h.1, fun j hj => ?_⟩
  obtain ⟨D, e, T⟩ := h.2 j hj
  exact ⟨D, e, KST_TRO P S T⟩
theorem STE_QTR {c : Nat} {hp h1 : xx_H} {s s1 : KS} {a b : Int} {ft : Nat → Int} {k : Nat} {ZF : Int → List (List Int)} {Q : List (List ob_T)} (E : STE c hp s h1 s1 a b) (h : QTR s.N (s.I 8) ft k ZF Q) : QTR s1.N (s1.I 8) ft k ZF Q := by
  rw [E.2.2.1.1, STE_8 E]
  exact h
theorem kf_callsItself (z : Value) (d c : Nat) (u : Int) (hp : xx_H) (s : KS) (a : Nat) (k nm m : Int) (g : Int → Int) (n : Int) (f : Int → Int) (cb : Int) (hF : FTH c hp s u a k nm m g n f cb) : xx_cl (xt_P z) (d + 3) 287 [.ref a] hp (fun v h1 => ((v = some (.int (iI 1)) ∧ fcl k m ∈ rl n f) ∨ (v = some (.int (iI 0)) ∧ ¬ fcl k m ∈ rl n f)) ∧ h1 = hp) := by
  obtain ⟨pq, ta, F1, F2, F3, F4, F5, F6, F7, F8, F9, F10, F11⟩ := hF
  have n_ := TM_n F5
  have Tp := (TMp F5).1
  have fr : 0 ≤ fcl k m ∧ fcl k m ≤ 2147483647 := ⟨by unfold fcl; omega, by unfold fcl; omega⟩
  refine cl_go rfl ?_
  show xx_go (xt_P z) (d + 2) 287 0 [some (.ref a)] [] hp _
  refine go_a (pc' := 1) (ls' := [some (.ref a)]) (st' := [.ref a]) rfl rfl ?_
  refine go_get (v := .ref ta) rfl F1 rfl rfl ?_
  refine go_a (pc' := 5) (ls' := [some (.ref a)]) (st' := [.ref a, .ref ta]) rfl rfl ?_
  refine go_get (v := .int (iI (fcl k m))) rfl F1 rfl rfl ?_
  refine go_a (pc' := 9) (ls' := [some (.ref a)]) (st' := [.int (iI 0), .int (iI (fcl k m)), .ref ta]) rfl rfl ?_
  refine go_a (pc' := 10) (ls' := [some (.ref a)]) (st' := [.ref a, .int (iI 0), .int (iI (fcl k m)), .ref ta]) rfl rfl ?_
  refine go_get (v := .ref ta) rfl F1 rfl rfl ?_
  refine go_v (m := 229) (as := [.ref ta]) (r := [.int (iI 0), .int (iI (fcl k m)), .ref ta]) rfl rfl rfl Tp.1 rfl rfl (kg_length z (d + 1) ta (ta + 1) n f hp Tp) (fun v h3 hq => ?_)
  obtain ⟨rfl, e9⟩ := hq
  rw [e9]
  clear e9 h3
  show xx_go (xt_P z) (d + 2) 287 16 [some (.ref a)] [.int (iI n), .int (iI 0), .int (iI (fcl k m)), .ref ta] hp _
  refine go_v (m := 232) (as := [.ref ta, .int (iI (fcl k m)), .int (iI 0), .int (iI n)]) (r := []) rfl rfl rfl Tp.1 rfl rfl (kg_has z d (fcl k m) 0 n ta (ta + 1) n f hp Tp (by omega) (by omega) (by decide) (by decide) (by omega) (by omega)) (fun v h3 hq => ?_)
  obtain ⟨hq, e9⟩ := hq
  rw [e9]
  clear e9 h3
  rcases hq with ⟨rfl, i, i0, i1, i2⟩ | ⟨rfl, no⟩
  · refine go_r rfl rfl rfl rfl rfl rfl ⟨Or.inl ⟨rfl, ?_⟩, rfl⟩
    have t0 : tat n f i = f i := if_pos ⟨i0, i1⟩
    rw [← i2, t0]
    exact rl_mem2 i0 i1
  · refine go_r rfl rfl rfl rfl rfl rfl ⟨Or.inr ⟨rfl, fun w => ?_⟩, rfl⟩
    obtain ⟨i, i0, i1, i2⟩ := rl_mem w
    have t0 : tat n f i = f i := if_pos ⟨i0, i1⟩
    exact no i i0 i1 (t0.trans i2)
theorem kq_ind_l2 (z : Value) (d c : Nat) (o e X5 w u α β γ A : Int) (hp : xx_H) (s : KS) (NM : BKM) (hP : KPS c hp s NM) (M a4 fn q7 t8 b9 : Nat) (G : Int) (fg : Int → Int) (n : Int) (gb : Int → Int) (i nm m : Int) (gp f : Int → Int) (cb : Int) (gq : Int → Int) (O : Int → Option Nat) (oR : -2147483648 ≤ o ∧ o ≤ 2147483647) (lu : u ≤ 25000) (u38 : 38 ≤ u) (A0 : 0 ≤ A) (hA : ∀ y : Int, y ≤ 240 → y ≤ 2 + 6 * ((M : Int) - 1) → y ≤ A) (hE : SCN n gb 0 M n.toNat) (hLw : LAW n gb (fcl i m)) (hW : WFT n gb) (lw : α + A * M + 602 ≤ 100 * w - 386) (lb : β + 754 * M + (3 + 2 * G) * 120 + 34 ≤ 700 * w - 2390) (lg : γ ≤ w) (ρ : Option (List ob_T × Int)) (σ st : Int) (vn : Nat) (Vs : List Nat) (Ft Bt : ob_T) (Q : List (List ob_T)) (ZF : Int → List (List Int)) (ef : NM.2.2.1 vn = fcl i m) (hσ : σ = st) (hρ : ρ = ifc (∀ k : Nat, k < M → sp_oi vn Vs Ft Bt Q k) (sp_cs2 (sp_cz [some Ft]) st) none) : ∀ (j k P : Nat) (x11 : Option Value) (h0 : xx_H) (s1 : KS), M - k ≤ j → k ≤ M → (P : Int) ≤ n → SCN n gb 0 k P → KST c hp s h0 s1 (α + A * k + 5 * XE n gb (fcl i m) P) (β + 754 * k + (3 + 2 * G) * XE n gb (fcl i m) P) γ → s1.I 8 = u → TM c h0 s1 u a4 G fg → TM c h0 s1 u b9 n gb → FTH c h0 s1 u fn i nm m gp n f cb → KAL h0 q7 m gq → kn c s1 q7 → PTK c h0 s1 u t8 M M O ZF → OTR s1.N (s1.I 8) NM.2.2.1 (some (rl G fg)) (some Ft) → OTR s1.N (s1.I 8) NM.2.2.1 (some (rl n gb)) (some Bt) → VRG s1.N (s1.I 8) (rl m gq) Vs → QTR s1.N (s1.I 8) NM.2.2.1 M ZF Q → (∀ j : Nat, j < k → sp_oi vn Vs Ft Bt Q j) → s1.I 17 = st → xx_go (xt_P z) (d + 8) 286 221 [some (.ref (c + 30)), some (.int (iI o)), some (.int (iI ((M : Int)))), some (.int (iI e)), some (.ref a4), some (.int (iI X5)), some (.ref fn), some (.ref q7), some (.ref t8), some (.ref b9), some (.int (iI ((k : Int)))), x11] [] h0 (fun v h1 => PRP c hp s w NM.2.2.1 ρ σ v h1) := by
  have xn := XE_le hW hLw
  have f3 := (KNT_FTB hP.2.2.2.2.2.2.2.2).1
  intro j
  induction j with
  | zero =>
    intro k P x11 h0 s1 hj k1 Pn SP S1 e1 Tg Tb Ff A7 K7 PT OF OB9 VG QT hok J1
    have gn := TM_n Tg
    have bn := TM_n Tb
    have mR := PT.2.2.1
    have xP0 := XE_mono hW (fcl i m) (Nat.zero_le P) Pn
    have x00 : XE n gb (fcl i m) 0 = 0 := rfl
    have xP1 := XE_mono hW (fcl i m) (a := P) (b := n.toNat) (by omega) (by omega)
    have mm1 := Int.mul_le_mul_of_nonneg_left (show XE n gb (fcl i m) P ≤ 120 by omega) (show 0 ≤ 3 + 2 * G by omega)
    have mm2 := Int.mul_le_mul_of_nonneg_left (show (k : Int) ≤ M by omega) A0
    refine go_a (pc' := 223) (ls' := [some (.ref (c + 30)), some (.int (iI o)), some (.int (iI ((M : Int)))), some (.int (iI e)), some (.ref a4), some (.int (iI X5)), some (.ref fn), some (.ref q7), some (.ref t8), some (.ref b9), some (.int (iI ((k : Int)))), x11]) (st' := [.int (iI ((k : Int)))]) rfl rfl ?_
    refine go_a (pc' := 224) (ls' := [some (.ref (c + 30)), some (.int (iI o)), some (.int (iI ((M : Int)))), some (.int (iI e)), some (.ref a4), some (.int (iI X5)), some (.ref fn), some (.ref q7), some (.ref t8), some (.ref b9), some (.int (iI ((k : Int)))), x11]) (st' := [.int (iI ((M : Int))), .int (iI ((k : Int)))]) rfl rfl ?_
    refine mi_ge (t := 296) rfl rfl (by omega) (by omega) (by omega) (by omega) (fun w1 => ?_) (fun w1 => absurd (show (k : Int) ≥ M by omega) w1)
    have em : (k : Int) = M := by omega
    have em2 : k = M := by omega
    rw [em2] at hok
    rw [em] at mm2
    rw [em] at S1
    have l12_21 : 12 ≤ h0.length := by have := ki_lt S1.1 (i := 0) (by decide); have := S1.1.2.1 0 (by decide); omega
    refine go_new (ci := 12) (fs := [.null, .int 0, .int 0, .int 0]) rfl rfl rfl ?_
    show xx_go (xt_P z) (d + 8) 286 299 [some (.ref (c + 30)), some (.int (iI o)), some (.int (iI ((M : Int)))), some (.int (iI e)), some (.ref a4), some (.int (iI X5)), some (.ref fn), some (.ref q7), some (.ref t8), some (.ref b9), some (.int (iI ((k : Int)))), x11] [.ref h0.length] (h0 ++ [.inr (12, [.null, .int 0, .int 0, .int 0])]) _
    refine go_a (pc' := 300) (ls' := [some (.ref (c + 30)), some (.int (iI o)), some (.int (iI ((M : Int)))), some (.int (iI e)), some (.ref a4), some (.int (iI X5)), some (.ref fn), some (.ref q7), some (.ref t8), some (.ref b9), some (.int (iI ((k : Int)))), x11]) (st' := [.ref h0.length, .ref h0.length]) rfl rfl ?_
    refine go_i (m := 257) (as := [.ref h0.length]) (r := [.ref h0.length]) rfl rfl rfl rfl rfl (kh_init z (d + 7) h0 l12_21) (fun v21 h21 hq => ?_)
    obtain ⟨rfl, rfl⟩ := hq
    obtain ⟨K21, X21, B21⟩ := mkC_CL (u := u) S1.1
    have C21 : CL c (mkC h0) s1 u h0.length 0 [] := ⟨_, _, _, _, _, B21, rfl⟩
    have S21 := KST_X S1 K21 X21
    obtain ⟨x21, ex21⟩ : ∃ q : Nat, q = h0.length := ⟨_, rfl⟩
    have Ta4_21 := TM_kx Tg X21
    have Tb9_21 := TM_kx Tb X21
    have Ffn_21 := FTH_kx Ff X21 (Int.le_refl _)
    obtain ⟨Aq7_21, kAq7_21⟩ := KAL_kx A7 K7 X21
    obtain ⟨hM21, eM21⟩ : ∃ q : xx_H, q = mkC h0 := ⟨_, rfl⟩
    have hx21 : hp.length ≤ x21 := by rw [ex21]; exact KST_len S1
    rw [← ex21] at C21
    rw [← eM21, ← ex21]
    obtain ⟨mC21, wC21, cC21⟩ := CL_cell C21
    rw [← eM21] at S21 C21 cC21 Ta4_21 Tb9_21 Aq7_21 Ffn_21
    clear B21 K21 X21
    show xx_go (xt_P z) (d + 8) 286 303 [some (.ref (c + 30)), some (.int (iI o)), some (.int (iI ((M : Int)))), some (.int (iI e)), some (.ref a4), some (.int (iI X5)), some (.ref fn), some (.ref q7), some (.ref t8), some (.ref b9), some (.int (iI ((k : Int)))), x11] [.ref x21] hM21 _
    refine go_a (pc' := 305) (ls' := [some (.ref (c + 30)), some (.int (iI o)), some (.int (iI ((M : Int)))), some (.int (iI e)), some (.ref a4), some (.int (iI X5)), some (.ref fn), some (.ref q7), some (.ref t8), some (.ref b9), some (.ref x21), x11]) (st' := []) rfl rfl ?_
    refine go_a (pc' := 307) (ls' := [some (.ref (c + 30)), some (.int (iI o)), some (.int (iI ((M : Int)))), some (.int (iI e)), some (.ref a4), some (.int (iI X5)), some (.ref fn), some (.ref q7), some (.ref t8), some (.ref b9), some (.ref x21), x11]) (st' := [.ref x21]) rfl rfl ?_
    refine go_a (pc' := 309) (ls' := [some (.ref (c + 30)), some (.int (iI o)), some (.int (iI ((M : Int)))), some (.int (iI e)), some (.ref a4), some (.int (iI X5)), some (.ref fn), some (.ref q7), some (.ref t8), some (.ref b9), some (.ref x21), x11]) (st' := [.ref a4, .ref x21]) rfl rfl ?_
    refine go_v (m := 261) (as := [.ref x21, .ref a4]) (r := []) rfl rfl rfl cC21 rfl rfl (kq_addC z (d + 5) C21 (MTM_T Ta4_21)) (fun v22 h22 hq => ?_)
    obtain ⟨rfl, F22, b22, Z22, q22, C22⟩ := hq
    have hz22 := q22
    have S22 := KST_fe S21 C21 hx21 F22
    have Ta4_22 := TM_fe C21 F22 Ta4_21
    have Tb9_22 := TM_fe C21 F22 Tb9_21
    have Aq7_22 := KAL_fe C21 F22 Aq7_21
    have kAq7_22 := kAq7_21
    obtain ⟨mC22, wC22, cC22⟩ := CL_cell C22
    show xx_go (xt_P z) (d + 8) 286 312 [some (.ref (c + 30)), some (.int (iI o)), some (.int (iI ((M : Int)))), some (.int (iI e)), some (.ref a4), some (.int (iI X5)), some (.ref fn), some (.ref q7), some (.ref t8), some (.ref b9), some (.ref x21), x11] [] h22 _
    refine go_a (pc' := 313) (ls' := [some (.ref (c + 30)), some (.int (iI o)), some (.int (iI ((M : Int)))), some (.int (iI e)), some (.ref a4), some (.int (iI X5)), some (.ref fn), some (.ref q7), some (.ref t8), some (.ref b9), some (.ref x21), x11]) (st' := [.ref (c + 30)]) rfl rfl ?_
    refine go_a (pc' := 315) (ls' := [some (.ref (c + 30)), some (.int (iI o)), some (.int (iI ((M : Int)))), some (.int (iI e)), some (.ref a4), some (.int (iI X5)), some (.ref fn), some (.ref q7), some (.ref t8), some (.ref b9), some (.ref x21), x11]) (st' := [.ref x21, .ref (c + 30)]) rfl rfl ?_
    refine go_v (m := 265) (as := [.ref (c + 30), .ref x21]) (r := []) rfl rfl rfl (S22.1.1 19 (by decide)) rfl rfl (kq_fin z (d + 6) (w := w) (ρ := ρ) (σ := σ) hP S22 C22 (ITR_one OF ITR_nil) hz22 (by rw [hρ, ifc_pos hok, J1]) (by rw [hσ]; exact J1) e1 hx21 (by omega) (by omega) (by omega)) (fun v23 h23 hq => ?_)
    rcases hq with ⟨rfl, R23⟩ | ⟨r23, rfl, R23⟩
    · exact go_r rfl rfl rfl rfl rfl rfl R23
    · exact go_r rfl rfl rfl rfl rfl rfl R23
  | succ j ih =>
    intro k P x11 h0 s1 hj k1 Pn SP S1 e1 Tg Tb Ff A7 K7 PT OF OB9 VG QT hok J1
    have gn := TM_n Tg
    have bn := TM_n Tb
    have mR := PT.2.2.1
    have xP0 := XE_mono hW (fcl i m) (Nat.zero_le P) Pn
    have x00 : XE n gb (fcl i m) 0 = 0 := rfl
    have xP1 := XE_mono hW (fcl i m) (a := P) (b := n.toNat) (by omega) (by omega)
    have mm1 := Int.mul_le_mul_of_nonneg_left (show XE n gb (fcl i m) P ≤ 120 by omega) (show 0 ≤ 3 + 2 * G by omega)
    have mm2 := Int.mul_le_mul_of_nonneg_left (show (k : Int) ≤ M by omega) A0
    refine go_a (pc' := 223) (ls' := [some (.ref (c + 30)), some (.int (iI o)), some (.int (iI ((M : Int)))), some (.int (iI e)), some (.ref a4), some (.int (iI X5)), some (.ref fn), some (.ref q7), some (.ref t8), some (.ref b9), some (.int (iI ((k : Int)))), x11]) (st' := [.int (iI ((k : Int)))]) rfl rfl ?_
    refine go_a (pc' := 224) (ls' := [some (.ref (c + 30)), some (.int (iI o)), some (.int (iI ((M : Int)))), some (.int (iI e)), some (.ref a4), some (.int (iI X5)), some (.ref fn), some (.ref q7), some (.ref t8), some (.ref b9), some (.int (iI ((k : Int)))), x11]) (st' := [.int (iI ((M : Int))), .int (iI ((k : Int)))]) rfl rfl ?_
    refine mi_ge (t := 296) rfl rfl (by omega) (by omega) (by omega) (by omega) (fun w1 => ?_) (fun w1 => ?_)
    · have em : (k : Int) = M := by omega
      have em2 : k = M := by omega
      rw [em2] at hok
      rw [em] at mm2
      rw [em] at S1
      have l12_21 : 12 ≤ h0.length := by have := ki_lt S1.1 (i := 0) (by decide); have := S1.1.2.1 0 (by decide); omega
      refine go_new (ci := 12) (fs := [.null, .int 0, .int 0, .int 0]) rfl rfl rfl ?_
      show xx_go (xt_P z) (d + 8) 286 299 [some (.ref (c + 30)), some (.int (iI o)), some (.int (iI ((M : Int)))), some (.int (iI e)), some (.ref a4), some (.int (iI X5)), some (.ref fn), some (.ref q7), some (.ref t8), some (.ref b9), some (.int (iI ((k : Int)))), x11] [.ref h0.length] (h0 ++ [.inr (12, [.null, .int 0, .int 0, .int 0])]) _
      refine go_a (pc' := 300) (ls' := [some (.ref (c + 30)), some (.int (iI o)), some (.int (iI ((M : Int)))), some (.int (iI e)), some (.ref a4), some (.int (iI X5)), some (.ref fn), some (.ref q7), some (.ref t8), some (.ref b9), some (.int (iI ((k : Int)))), x11]) (st' := [.ref h0.length, .ref h0.length]) rfl rfl ?_
      refine go_i (m := 257) (as := [.ref h0.length]) (r := [.ref h0.length]) rfl rfl rfl rfl rfl (kh_init z (d + 7) h0 l12_21) (fun v21 h21 hq => ?_)
      obtain ⟨rfl, rfl⟩ := hq
      obtain ⟨K21, X21, B21⟩ := mkC_CL (u := u) S1.1
      have C21 : CL c (mkC h0) s1 u h0.length 0 [] := ⟨_, _, _, _, _, B21, rfl⟩
      have S21 := KST_X S1 K21 X21
      obtain ⟨x21, ex21⟩ : ∃ q : Nat, q = h0.length := ⟨_, rfl⟩
      have Ta4_21 := TM_kx Tg X21
      have Tb9_21 := TM_kx Tb X21
      have Ffn_21 := FTH_kx Ff X21 (Int.le_refl _)
      obtain ⟨Aq7_21, kAq7_21⟩ := KAL_kx A7 K7 X21
      obtain ⟨hM21, eM21⟩ : ∃ q : xx_H, q = mkC h0 := ⟨_, rfl⟩
      have hx21 : hp.length ≤ x21 := by rw [ex21]; exact KST_len S1
      rw [← ex21] at C21
      rw [← eM21, ← ex21]
      obtain ⟨mC21, wC21, cC21⟩ := CL_cell C21
      rw [← eM21] at S21 C21 cC21 Ta4_21 Tb9_21 Aq7_21 Ffn_21
      clear B21 K21 X21
      show xx_go (xt_P z) (d + 8) 286 303 [some (.ref (c + 30)), some (.int (iI o)), some (.int (iI ((M : Int)))), some (.int (iI e)), some (.ref a4), some (.int (iI X5)), some (.ref fn), some (.ref q7), some (.ref t8), some (.ref b9), some (.int (iI ((k : Int)))), x11] [.ref x21] hM21 _
      refine go_a (pc' := 305) (ls' := [some (.ref (c + 30)), some (.int (iI o)), some (.int (iI ((M : Int)))), some (.int (iI e)), some (.ref a4), some (.int (iI X5)), some (.ref fn), some (.ref q7), some (.ref t8), some (.ref b9), some (.ref x21), x11]) (st' := []) rfl rfl ?_
      refine go_a (pc' := 307) (ls' := [some (.ref (c + 30)), some (.int (iI o)), some (.int (iI ((M : Int)))), some (.int (iI e)), some (.ref a4), some (.int (iI X5)), some (.ref fn), some (.ref q7), some (.ref t8), some (.ref b9), some (.ref x21), x11]) (st' := [.ref x21]) rfl rfl ?_
      refine go_a (pc' := 309) (ls' := [some (.ref (c + 30)), some (.int (iI o)), some (.int (iI ((M : Int)))), some (.int (iI e)), some (.ref a4), some (.int (iI X5)), some (.ref fn), some (.ref q7), some (.ref t8), some (.ref b9), some (.ref x21), x11]) (st' := [.ref a4, .ref x21]) rfl rfl ?_
      refine go_v (m := 261) (as := [.ref x21, .ref a4]) (r := []) rfl rfl rfl cC21 rfl rfl (kq_addC z (d + 5) C21 (MTM_T Ta4_21)) (fun v22 h22 hq => ?_)
      obtain ⟨rfl, F22, b22, Z22, q22, C22⟩ := hq
      have hz22 := q22
      have S22 := KST_fe S21 C21 hx21 F22
      have Ta4_22 := TM_fe C21 F22 Ta4_21
      have Tb9_22 := TM_fe C21 F22 Tb9_21
      have Aq7_22 := KAL_fe C21 F22 Aq7_21
      have kAq7_22 := kAq7_21
      obtain ⟨mC22, wC22, cC22⟩ := CL_cell C22
      show xx_go (xt_P z) (d + 8) 286 312 [some (.ref (c + 30)), some (.int (iI o)), some (.int (iI ((M : Int)))), some (.int (iI e)), some (.ref a4), some (.int (iI X5)), some (.ref fn), some (.ref q7), some (.ref t8), some (.ref b9), some (.ref x21), x11] [] h22 _
      refine go_a (pc' := 313) (ls' := [some (.ref (c + 30)), some (.int (iI o)), some (.int (iI ((M : Int)))), some (.int (iI e)), some (.ref a4), some (.int (iI X5)), some (.ref fn), some (.ref q7), some (.ref t8), some (.ref b9), some (.ref x21), x11]) (st' := [.ref (c + 30)]) rfl rfl ?_
      refine go_a (pc' := 315) (ls' := [some (.ref (c + 30)), some (.int (iI o)), some (.int (iI ((M : Int)))), some (.int (iI e)), some (.ref a4), some (.int (iI X5)), some (.ref fn), some (.ref q7), some (.ref t8), some (.ref b9), some (.ref x21), x11]) (st' := [.ref x21, .ref (c + 30)]) rfl rfl ?_
      refine go_v (m := 265) (as := [.ref (c + 30), .ref x21]) (r := []) rfl rfl rfl (S22.1.1 19 (by decide)) rfl rfl (kq_fin z (d + 6) (w := w) (ρ := ρ) (σ := σ) hP S22 C22 (ITR_one OF ITR_nil) hz22 (by rw [hρ, ifc_pos hok, J1]) (by rw [hσ]; exact J1) e1 hx21 (by omega) (by omega) (by omega)) (fun v23 h23 hq => ?_)
      rcases hq with ⟨rfl, R23⟩ | ⟨r23, rfl, R23⟩
      · exact go_r rfl rfl rfl rfl rfl rfl R23
      · exact go_r rfl rfl rfl rfl rfl rfl R23
    · obtain ⟨pq, ta, c1, c2, c3, c4, c5, c6, c7, c8, c9⟩ := id Ff
      have fx0 : 0 ≤ fcl i m ∧ fcl i m ≤ 2147483647 := ⟨by unfold fcl; omega, by unfold fcl; omega⟩
      have tkm : tk (fcl i m) = m := tk_call (by omega) (by omega)
      refine go_a (pc' := 228) (ls' := [some (.ref (c + 30)), some (.int (iI o)), some (.int (iI ((M : Int)))), some (.int (iI e)), some (.ref a4), some (.int (iI X5)), some (.ref fn), some (.ref q7), some (.ref t8), some (.ref b9), some (.int (iI ((k : Int)))), x11]) (st' := [.ref (c + 30)]) rfl rfl ?_
      refine go_get (v := .ref (c + 31)) rfl (S1.1.1 19 (by decide)) rfl rfl ?_
      refine go_a (pc' := 233) (ls' := [some (.ref (c + 30)), some (.int (iI o)), some (.int (iI ((M : Int)))), some (.int (iI e)), some (.ref a4), some (.int (iI X5)), some (.ref fn), some (.ref q7), some (.ref t8), some (.ref b9), some (.int (iI ((k : Int)))), x11]) (st' := [.ref a4, .ref (c + 31)]) rfl rfl ?_
      refine go_a (pc' := 235) (ls' := [some (.ref (c + 30)), some (.int (iI o)), some (.int (iI ((M : Int)))), some (.int (iI e)), some (.ref a4), some (.int (iI X5)), some (.ref fn), some (.ref q7), some (.ref t8), some (.ref b9), some (.int (iI ((k : Int)))), x11]) (st' := [.ref b9, .ref a4, .ref (c + 31)]) rfl rfl ?_
      refine go_a (pc' := 237) (ls' := [some (.ref (c + 30)), some (.int (iI o)), some (.int (iI ((M : Int)))), some (.int (iI e)), some (.ref a4), some (.int (iI X5)), some (.ref fn), some (.ref q7), some (.ref t8), some (.ref b9), some (.int (iI ((k : Int)))), x11]) (st' := [.ref fn, .ref b9, .ref a4, .ref (c + 31)]) rfl rfl ?_
      refine go_get (v := .int (iI (fcl i m))) rfl c1 rfl rfl ?_
      refine go_a (pc' := 242) (ls' := [some (.ref (c + 30)), some (.int (iI o)), some (.int (iI ((M : Int)))), some (.int (iI e)), some (.ref a4), some (.int (iI X5)), some (.ref fn), some (.ref q7), some (.ref t8), some (.ref b9), some (.int (iI ((k : Int)))), x11]) (st' := [.ref q7, .int (iI (fcl i m)), .ref b9, .ref a4, .ref (c + 31)]) rfl rfl ?_
      refine go_a (pc' := 244) (ls' := [some (.ref (c + 30)), some (.int (iI o)), some (.int (iI ((M : Int)))), some (.int (iI e)), some (.ref a4), some (.int (iI X5)), some (.ref fn), some (.ref q7), some (.ref t8), some (.ref b9), some (.int (iI ((k : Int)))), x11]) (st' := [.int (iI ((k : Int))), .ref q7, .int (iI (fcl i m)), .ref b9, .ref a4, .ref (c + 31)]) rfl rfl ?_
      refine go_v (m := 290) (as := [.ref (c + 31), .ref a4, .ref b9, .int (iI (fcl i m)), .ref q7, .int (iI ((k : Int)))]) (r := []) rfl rfl rfl (S1.1.1 20 (by decide)) rfl rfl (kp_induction z (d + 2) c u k M a4 G fg b9 n gb (fcl i m) q7 m gq h0 s1 S1.1 S1.2.1 (by omega) tkm fx0.1 fx0.2 Tg Tb A7 K7 hE (by omega) (by omega)) (fun v2 h2 hq => ?_)
      obtain ⟨s2, y2, t, b2, Z2, its, rfl, K2, B2, F2, l2, ⟨C2, PH, ez2⟩, St, tn, tf, a2, a21, a22, X2⟩ := hq
      have E2 : STE c h0 s1 h2 s2 _ _ := ⟨K2, B2, F2, X2⟩
      have Pt := SCN_nx hW SP St tn tf
      obtain ⟨-, bt1, bt2, -⟩ := bp_W hW tn
      have xP2 := XE_mono hW (fcl i m) Pt (by omega)
      have xP3 := XE_mono hW (fcl i m) (a := bp n gb t) (b := n.toNat) (by omega) (by omega)
      have xP4 := XE_mono hW (fcl i m) (a := t) (b := bp n gb t) (by omega) (by omega)
      have a23 := hA a2 a21 a22
      have mm3 := Int.mul_le_mul_of_nonneg_left (show XE n gb (fcl i m) P + (XE n gb (fcl i m) (bp n gb t) - XE n gb (fcl i m) t) ≤ XE n gb (fcl i m) (bp n gb t) by omega) (show 0 ≤ 3 + 2 * G by omega)
      rw [Int.mul_add] at mm3
      have mm4 := Int.mul_le_mul_of_nonneg_left (show XE n gb (fcl i m) (bp n gb t) ≤ 120 by omega) (show 0 ≤ 3 + 2 * G by omega)
      have mm5 : A * ((k + 1 : Nat) : Int) = A * k + A := by rw [show ((k + 1 : Nat) : Int) = (k : Int) + 1 by omega, Int.mul_add, Int.mul_one]
      have mm6 := Int.mul_le_mul_of_nonneg_left (show ((k + 1 : Nat) : Int) ≤ M by omega) A0
      have PT2 := PTK_kx PT X2
      have VG2 := STE_VRG E2 VG
      have QT2 := STE_QTR E2 QT
      have S2 := KST_STE S1 E2
      have e2 := (STE_8 E2).trans e1
      have Ta4_2 := TM_kx Tg E2.2.2.2
      have Tb9_2 := TM_kx Tb E2.2.2.2
      have Ffn_2 := FTH_kx Ff E2.2.2.2 (Int.le_refl _)
      obtain ⟨Aq7_2, kAq7_2⟩ := KAL_kx A7 K7 E2.2.2.2
      have J2 := STE_17 E2 J1
      have Oa4_2 := STE_OTR E2 OF
      have Ob9_2 := STE_OTR E2 OB9
      have S3 := KST_w S2 (show _ ≤ α + A * ((k + 1 : Nat) : Int) + 5 * XE n gb (fcl i m) (bp n gb t) by omega) (show _ ≤ β + 754 * ((k + 1 : Nat) : Int) + (3 + 2 * G) * XE n gb (fcl i m) (bp n gb t) by omega) (Int.le_refl _)
      obtain ⟨mC, wC, cC⟩ := CL_cell C2
      have KN2 := KST_KNT hP S3
      have HD2 := (KNT_ST KN2 S3.2.2.1 S3.2.1).2
      obtain ⟨pp, pp1, pp2⟩ := INDZ_tr hW HD2 KN2.2.2.2.2 f3 ef fx0.1 (by omega) tkm VG2 Oa4_2 Ob9_2 PH
      rw [← ez2] at pp2
      show xx_go (xt_P z) (d + 8) 286 247 [some (.ref (c + 30)), some (.int (iI o)), some (.int (iI ((M : Int)))), some (.int (iI e)), some (.ref a4), some (.int (iI X5)), some (.ref fn), some (.ref q7), some (.ref t8), some (.ref b9), some (.int (iI ((k : Int)))), x11] [.ref y2] h2 _
      refine go_a (pc' := 249) (ls' := [some (.ref (c + 30)), some (.int (iI o)), some (.int (iI ((M : Int)))), some (.int (iI e)), some (.ref a4), some (.int (iI X5)), some (.ref fn), some (.ref q7), some (.ref t8), some (.ref b9), some (.int (iI ((k : Int)))), some (.ref y2)]) (st' := []) rfl rfl ?_
      refine go_a (pc' := 251) (ls' := [some (.ref (c + 30)), some (.int (iI o)), some (.int (iI ((M : Int)))), some (.int (iI e)), some (.ref a4), some (.int (iI X5)), some (.ref fn), some (.ref q7), some (.ref t8), some (.ref b9), some (.int (iI ((k : Int)))), some (.ref y2)]) (st' := [.ref y2]) rfl rfl ?_
      obtain ⟨mD30, wD30, OD30, nD30, fD30, DD30, eZ30⟩ := id C2
      refine go_v (m := 266) (as := [.ref y2]) (r := []) rfl rfl rfl cC rfl rfl (kh_isTooBig z (d + 7) c h2 s2 u y2 mD30 wD30 b2 OD30 nD30 fD30 DD30) (fun v31 h31 hq => ?_)
      obtain ⟨rfl, eq31⟩ := hq
      rw [eq31]
      clear eq31 h31
      show xx_go (xt_P z) (d + 8) 286 254 [some (.ref (c + 30)), some (.int (iI o)), some (.int (iI ((M : Int)))), some (.int (iI e)), some (.ref a4), some (.int (iI X5)), some (.ref fn), some (.ref q7), some (.ref t8), some (.ref b9), some (.int (iI ((k : Int)))), some (.ref y2)] [.int (iI b2)] h2 _
      have b01 := DD30.2.2.2.2.2.1
      refine mi_eq0 (t := 263) rfl rfl (by omega) (by omega) (fun w2 => ?_) (fun w2 => ?_)
      · obtain ⟨yk, eO, Ck⟩ := PT2.2.2.2 (k : Int) (by omega) (by omega)
        obtain ⟨mk, wk, ck⟩ := CL_cell Ck
        obtain ⟨D9, q91, q92⟩ : ∃ D1 : List ob_T, sp_cz (sp_du vn Vs Ft pp) = some D1 ∧ TRO s2.N (s2.I 8) NM.2.2.1 Z2 D1 := by
          rcases pp2 with ⟨-, q⟩ | ⟨q, -⟩
          · exact q
          · exact absurd (show b2 = 1 from q) (by omega)
        obtain ⟨P9, q93, q94⟩ := QT2.2 k (by omega)
        refine go_a (pc' := 265) (ls' := [some (.ref (c + 30)), some (.int (iI o)), some (.int (iI ((M : Int)))), some (.int (iI e)), some (.ref a4), some (.int (iI X5)), some (.ref fn), some (.ref q7), some (.ref t8), some (.ref b9), some (.int (iI ((k : Int)))), some (.ref y2)]) (st' := [.ref t8]) rfl rfl ?_
        refine go_a (pc' := 267) (ls' := [some (.ref (c + 30)), some (.int (iI o)), some (.int (iI ((M : Int)))), some (.int (iI e)), some (.ref a4), some (.int (iI X5)), some (.ref fn), some (.ref q7), some (.ref t8), some (.ref b9), some (.int (iI ((k : Int)))), some (.ref y2)]) (st' := [.int (iI ((k : Int))), .ref t8]) rfl rfl ?_
        refine mk_ald rfl PT2.1 rfl (by omega) (by omega) (by omega) ?_
        rw [eO]
        show xx_go (xt_P z) (d + 8) 286 268 [some (.ref (c + 30)), some (.int (iI o)), some (.int (iI ((M : Int)))), some (.int (iI e)), some (.ref a4), some (.int (iI X5)), some (.ref fn), some (.ref q7), some (.ref t8), some (.ref b9), some (.int (iI ((k : Int)))), some (.ref y2)] [.ref yk] h2 _
        refine go_a (pc' := 271) (ls' := [some (.ref (c + 30)), some (.int (iI o)), some (.int (iI ((M : Int)))), some (.int (iI e)), some (.ref a4), some (.int (iI X5)), some (.ref fn), some (.ref q7), some (.ref t8), some (.ref b9), some (.int (iI ((k : Int)))), some (.ref y2)]) (st' := []) rfl rfl ?_
        refine go_a (pc' := 273) (ls' := [some (.ref (c + 30)), some (.int (iI o)), some (.int (iI ((M : Int)))), some (.int (iI e)), some (.ref a4), some (.int (iI X5)), some (.ref fn), some (.ref q7), some (.ref t8), some (.ref b9), some (.int (iI ((k : Int)))), some (.ref y2)]) (st' := [.ref t8]) rfl rfl ?_
        refine go_a (pc' := 275) (ls' := [some (.ref (c + 30)), some (.int (iI o)), some (.int (iI ((M : Int)))), some (.int (iI e)), some (.ref a4), some (.int (iI X5)), some (.ref fn), some (.ref q7), some (.ref t8), some (.ref b9), some (.int (iI ((k : Int)))), some (.ref y2)]) (st' := [.int (iI ((k : Int))), .ref t8]) rfl rfl ?_
        refine mk_ald rfl PT2.1 rfl (by omega) (by omega) (by omega) ?_
        rw [eO]
        show xx_go (xt_P z) (d + 8) 286 276 [some (.ref (c + 30)), some (.int (iI o)), some (.int (iI ((M : Int)))), some (.int (iI e)), some (.ref a4), some (.int (iI X5)), some (.ref fn), some (.ref q7), some (.ref t8), some (.ref b9), some (.int (iI ((k : Int)))), some (.ref y2)] [.ref yk] h2 _
        refine go_a (pc' := 278) (ls' := [some (.ref (c + 30)), some (.int (iI o)), some (.int (iI ((M : Int)))), some (.int (iI e)), some (.ref a4), some (.int (iI X5)), some (.ref fn), some (.ref q7), some (.ref t8), some (.ref b9), some (.int (iI ((k : Int)))), some (.ref y2)]) (st' := [.ref y2, .ref yk]) rfl rfl ?_
        obtain ⟨mD32, wD32, OD32, nD32, fD32, DD32, eZ32⟩ := id Ck
        have sb := TRO_sub HD2 KN2.2.2.2.2 q94 q92
        rw [← eZ32, ← eZ30] at sb
        refine go_v (m := 292) (as := [.ref yk, .ref y2]) (r := []) rfl rfl rfl ck rfl rfl (kh_isWithin z (d + 5) c h2 s2 u u yk mD32 wD32 0 OD32 nD32 fD32 y2 mD30 wD30 b2 OD30 nD30 fD30 DD32 DD30) (fun v33 h33 hq => ?_)
        obtain ⟨hq, eq33⟩ := hq
        rw [eq33]
        clear eq33 h33
        rcases hq with ⟨rfl, hw⟩ | ⟨rfl, hw⟩
        · have hok9 : ∀ j : Nat, j < k + 1 → sp_oi vn Vs Ft Bt Q j := by
            intro j hj
            by_cases cj : j = k
            · rw [cj]
              exact ⟨pp, D9, P9, pp1, q91, q93, sb.mp hw⟩
            · exact hok j (by omega)
          show xx_go (xt_P z) (d + 8) 286 281 [some (.ref (c + 30)), some (.int (iI o)), some (.int (iI ((M : Int)))), some (.int (iI e)), some (.ref a4), some (.int (iI X5)), some (.ref fn), some (.ref q7), some (.ref t8), some (.ref b9), some (.int (iI ((k : Int)))), some (.ref y2)] [.int (iI 1)] h2 _
          refine mi_ne0 (t := 290) rfl rfl (by omega) (by omega) (fun _ => ?_) (fun q => absurd (show (1 : Int) ≠ 0 by decide) q)
          refine go_a (pc' := 293) (ls' := [some (.ref (c + 30)), some (.int (iI o)), some (.int (iI ((M : Int)))), some (.int (iI e)), some (.ref a4), some (.int (iI X5)), some (.ref fn), some (.ref q7), some (.ref t8), some (.ref b9), some (.int (iI (((k : Int)) + 1))), some (.ref y2)]) (st' := []) rfl (by rw [← iI_add ((k : Int)) 1]; rfl) ?_
          refine go_a (pc' := 221) (ls' := [some (.ref (c + 30)), some (.int (iI o)), some (.int (iI ((M : Int)))), some (.int (iI e)), some (.ref a4), some (.int (iI X5)), some (.ref fn), some (.ref q7), some (.ref t8), some (.ref b9), some (.int (iI (((k : Int)) + 1))), some (.ref y2)]) (st' := []) rfl rfl ?_
          rw [show (k : Int) + 1 = ((k + 1 : Nat) : Int) by omega]
          exact ih (k + 1) (bp n gb t) _ _ _ (by omega) (by omega) bt2 (SCN_tr St (SCN.fin t 0 _ tn tf (SCN.nil _))) S3 e2 Ta4_2 Tb9_2 Ffn_2 Aq7_2 kAq7_2 PT2 Oa4_2 Ob9_2 VG2 QT2 hok9 J2
        · have nok : ¬ ∀ k : Nat, k < M → sp_oi vn Vs Ft Bt Q k := by
            intro w
            obtain ⟨p8, D8, P8, p81, p82, p83, p84⟩ := w k (by omega)
            rw [pp1] at p81
            injection p81 with p81
            rw [← p81, q91] at p82
            injection p82 with p82
            rw [q93] at p83
            injection p83 with p83
            rw [← p82, ← p83] at p84
            exact hw (sb.mpr p84)
          show xx_go (xt_P z) (d + 8) 286 281 [some (.ref (c + 30)), some (.int (iI o)), some (.int (iI ((M : Int)))), some (.int (iI e)), some (.ref a4), some (.int (iI X5)), some (.ref fn), some (.ref q7), some (.ref t8), some (.ref b9), some (.int (iI ((k : Int)))), some (.ref y2)] [.int (iI 0)] h2 _
          refine mi_ne0 (t := 290) rfl rfl (by omega) (by omega) (fun q => absurd rfl q) (fun _ => ?_)
          refine go_a (pc' := 285) (ls' := [some (.ref (c + 30)), some (.int (iI o)), some (.int (iI ((M : Int)))), some (.int (iI e)), some (.ref a4), some (.int (iI X5)), some (.ref fn), some (.ref q7), some (.ref t8), some (.ref b9), some (.int (iI ((k : Int)))), some (.ref y2)]) (st' := [.ref (c + 30)]) rfl rfl ?_
          refine go_a (pc' := 286) (ls' := [some (.ref (c + 30)), some (.int (iI o)), some (.int (iI ((M : Int)))), some (.int (iI e)), some (.ref a4), some (.int (iI X5)), some (.ref fn), some (.ref q7), some (.ref t8), some (.ref b9), some (.int (iI ((k : Int)))), some (.ref y2)]) (st' := [.int (iI o), .ref (c + 30)]) rfl rfl ?_
          refine go_v (m := 248) (as := [.ref (c + 30), .int (iI o)]) (r := []) rfl rfl rfl (S3.1.1 19 (by decide)) rfl rfl (kq_failAtP z (d + 7) (w := w) S3 (by omega) (by omega) (by omega) (by omega) (by omega) (ft := NM.2.2.1) (ρ := ρ) (σ := σ) (by rw [hρ, ifc_neg nok]) (by rw [hσ]; exact J2)) (fun v34 h34 hq => ?_)
          obtain ⟨rfl, R34⟩ := hq
          show xx_go (xt_P z) (d + 8) 286 289 [some (.ref (c + 30)), some (.int (iI o)), some (.int (iI ((M : Int)))), some (.int (iI e)), some (.ref a4), some (.int (iI X5)), some (.ref fn), some (.ref q7), some (.ref t8), some (.ref b9), some (.int (iI ((k : Int)))), some (.ref y2)] [.null] h34 _
          exact go_r rfl rfl rfl rfl rfl rfl R34
      · have nok : ¬ ∀ k : Nat, k < M → sp_oi vn Vs Ft Bt Q k := by
          intro w
          obtain ⟨p8, D8, P8, p81, p82, -, -⟩ := w k (by omega)
          rw [pp1] at p81
          injection p81 with p81
          rcases pp2 with ⟨q, -⟩ | ⟨-, q⟩
          · exact absurd (show b2 = 0 from q) (by omega)
          · rw [← p81, q] at p82
            cases p82
        refine go_a (pc' := 258) (ls' := [some (.ref (c + 30)), some (.int (iI o)), some (.int (iI ((M : Int)))), some (.int (iI e)), some (.ref a4), some (.int (iI X5)), some (.ref fn), some (.ref q7), some (.ref t8), some (.ref b9), some (.int (iI ((k : Int)))), some (.ref y2)]) (st' := [.ref (c + 30)]) rfl rfl ?_
        refine go_a (pc' := 259) (ls' := [some (.ref (c + 30)), some (.int (iI o)), some (.int (iI ((M : Int)))), some (.int (iI e)), some (.ref a4), some (.int (iI X5)), some (.ref fn), some (.ref q7), some (.ref t8), some (.ref b9), some (.int (iI ((k : Int)))), some (.ref y2)]) (st' := [.int (iI 4), .ref (c + 30)]) rfl rfl ?_
        refine go_v (m := 246) (as := [.ref (c + 30), .int (iI 4)]) (r := []) rfl rfl rfl (S3.1.1 19 (by decide)) rfl rfl (kq_failByP z (d + 7) (w := w) S3 (by omega) (by omega) (by omega) (by omega) (by omega) (ft := NM.2.2.1) (ρ := ρ) (σ := σ) (by rw [hρ, ifc_neg nok]) (by rw [hσ]; exact J2)) (fun v32 h32 hq => ?_)
        obtain ⟨rfl, R32⟩ := hq
        show xx_go (xt_P z) (d + 8) 286 262 [some (.ref (c + 30)), some (.int (iI o)), some (.int (iI ((M : Int)))), some (.int (iI e)), some (.ref a4), some (.int (iI X5)), some (.ref fn), some (.ref q7), some (.ref t8), some (.ref b9), some (.int (iI ((k : Int)))), some (.ref y2)] [.null] h32 _
        exact go_r rfl rfl rfl rfl rfl rfl R32
