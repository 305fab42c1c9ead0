theorem rt_rt {A : Nat → Int → Int} : ∀ (a b : Nat) (k : Int), rt A b (rt A a k) = rt A (a + b) k
  | 0, b, k => by rw [show 0 + b = b by omega]; rfl
  | a + 1, b, k => by
    rw [show a + 1 + b = (a + b) + 1 by omega]
    show rt A b (rt A a (A 2 k)) = rt A (a + b) (A 2 k)
    exact rt_rt a b _
theorem isL_rt3 {s : KS} {o : Int} {q : Nat} (hC : CI s) (ho : OB s o) (hL : isL (SD s) q o) {j : Nat} (hj : j + 1 ≤ q) : 0 ≤ rt (SD s) (j + 1) o ∧ rt (SD s) (j + 1) o < s.I 8 := by
  have h := isL_rt (I := UI s) hC.1 q j o ho.1 ho.2 hL (by omega)
  have w := hC.1.2 (rt (SD s) j o) h.1 (by have := ho.2; show _ < s.I 8; omega)
  rw [rt_succ]
  exact ⟨w.2.2.1, by have := w.2.2.2.2 h.2.2; have := ho.2; omega⟩
theorem kq_ind_l1 (z : Value) (d c : Nat) (o : Int) (q : Nat) (hp : xx_H) (s : KS) (NM : BKM) (hP : KPS c hp s NM) (ho : OB s o) (hL : isL (SD s) q o) (r2 : pi s 0 o ≠ 2) (w9 : WD (SD s) o ≤ 1000) (l25 : s.I 8 + WD (SD s) o ≤ 25000) (e fu : Int) (F : ob_T → Int → Option (List ob_T × Int)) (G : ob_T → Int → Int) (R : PRC z (d + 8) c (e + 1) NM fu F G) (hf : s.I 16 = fu) (M a4 fn q7 t8 : Nat) (hq : q = M + 3) (h12 : 12 ≤ t8) (ht : hp.length ≤ t8) (Gn : Int) (fg : Int → Int) (i nm m : Int) (gp : Int → Int) (n : Int) (f : Int → Int) (cb : Int) (gq : Int → Int) (hE : SCN n f 0 M n.toNat) (wS : 3 ≤ WD (SD s) (pi s 2 o)) (wG : Gn ≤ WD (SD s) (pi s 1 o)) (ρ : Option (List ob_T × Int)) (σ : Int) (vn : Nat) (ps : List Nat) (Ft Bt : ob_T) (ef : NM.2.2.1 vn = fcl i m) (OF : TRT s.N (s.I 8) NM.2.2.1 (rl Gn fg) Ft) (OBt : TRT s.N (s.I 8) NM.2.2.1 (rl n f) Bt) (VP : VRG s.N (s.I 8) (rl m gp) ps) (VG : VRG s.N (s.I 8) (rl m gq) ((sp_as (sp_cd (sp_p 2 (DK s.N o)))).map sp_hc)) (TV : TRO s.N (s.I 8) NM.2.2.1 ((rl m gq).map (fun x => [x])) (sp_as (sp_cd (sp_p 2 (DK s.N o))))) (hM : (sp_ph Bt).length = M) (hρ : ρ = (sp_sq F ((sp_as (DK s.N o)).drop 3) (s.I 17)).bind (fun Q => (sp_opO (sp_in ps (sp_as (sp_cd (sp_p 2 (DK s.N o)))) Bt).1).bind (fun B => ifc (∀ k : Nat, k < (sp_ph Bt).length → sp_oi vn ((sp_as (sp_cd (sp_p 2 (DK s.N o)))).map sp_hc) Ft B Q.1 k) (sp_cs2 (sp_cz [some Ft]) Q.2) none))) (hσ : σ = sp_sg F G ((sp_as (DK s.N o)).drop 3) (s.I 17)) : ∀ (j k : Nat) (O : Int → Option Nat) (h0 : xx_H) (s1 : KS) (ZF : Int → List (List Int)) (Q : List (List ob_T)), M - k ≤ j → k ≤ M → KST c hp s h0 s1 (4 + 100 * (VD (SD s) (rt (SD s) 3 o) - VD (SD s) (rt (SD s) (k + 3) o)) - 386 * k) (WD (SD s) (pi s 1 o) + 7 + M + 700 * (VD (SD s) (rt (SD s) 3 o) - VD (SD s) (rt (SD s) (k + 3) o)) - 2390 * k) (VD (SD s) (rt (SD s) 3 o) - VD (SD s) (rt (SD s) (k + 3) o)) → TM c h0 s1 (s1.I 8) a4 Gn fg → FTH c h0 s1 (s1.I 8) fn i nm m gp n f cb → KAL h0 q7 m gq → kn c s1 q7 → (∀ i : Int, 0 ≤ i → i < m → TVx (s1.I 8) (gq i) ∧ gq i % 4 = 0) → PTK c h0 s1 (s1.I 8) t8 M k O ZF → QTR s1.N (s1.I 8) NM.2.2.1 k ZF Q → sp_sq F (((sp_as (DK s.N o)).drop 3).take k) (s.I 17) = some (Q, s1.I 17) → xx_go (xt_P z) (d + 8) 286 148 [some (.ref (c + 30)), some (.int (iI o)), some (.int (iI ((M : Int)))), some (.int (iI e)), some (.ref a4), some (.int (iI (pi s 2 o))), some (.ref fn), some (.ref q7), some (.ref t8), some (.int (iI ((k : Int)))), none, none] [] h0 (fun v h1 => PRP c hp s (WD (SD s) o) NM.2.2.1 ρ σ v h1) := by
  have fB := KNT_FTB hP.2.2.2.2.2.2.2.2
  have oR := OB_R hP.2.1 ho
  have W := PI_W hP.2.2.1 ho hL (by omega) r2
  have p0 : VD (SD s) (rt (SD s) 0 o) = WD (SD s) (pi s 0 o) + VD (SD s) (rt (SD s) 1 o) ∧ OB s (pi s 0 o) ∧ 1 ≤ WD (SD s) (pi s 0 o) ∧ 0 ≤ VD (SD s) (rt (SD s) 1 o) := PI_w hP.2.2.1 ho hL (j := 0) (by omega)
  have p1 : VD (SD s) (rt (SD s) 1 o) = WD (SD s) (pi s 1 o) + VD (SD s) (rt (SD s) 2 o) ∧ OB s (pi s 1 o) ∧ 1 ≤ WD (SD s) (pi s 1 o) ∧ 0 ≤ VD (SD s) (rt (SD s) 2 o) := PI_w hP.2.2.1 ho hL (j := 1) (by omega)
  have p2 : VD (SD s) (rt (SD s) 2 o) = WD (SD s) (pi s 2 o) + VD (SD s) (rt (SD s) 3 o) ∧ OB s (pi s 2 o) ∧ 1 ≤ WD (SD s) (pi s 2 o) ∧ 0 ≤ VD (SD s) (rt (SD s) 3 o) := PI_w hP.2.2.1 ho hL (j := 2) (by omega)
  obtain ⟨p0, o0, i0, j0⟩ := p0
  obtain ⟨p1, o1, i1, j1⟩ := p1
  obtain ⟨p2, o2, i2, j2⟩ := p2
  have lenY := (AS_len hP ho hL).2
  intro j
  induction j with
  | zero =>
    intro k O h0 s1 ZF Q hj k1 S1 Tg Ff A7 K7 hg PT QT SQ
    have J1 : s1.I 17 = s1.I 17 := rfl
    have e1 : s1.I 8 = s1.I 8 := rfl
    have z1 := S1.2.2.2.2.2.1
    have mR := PT.2.2.1
    have vk : 0 ≤ VD (SD s) (rt (SD s) (k + 3) o) := (PI_w hP.2.2.1 ho hL (j := k + 2) (by omega)).2.2.2
    have vq : VD (SD s) (rt (SD s) (k + 3) o) ≤ VD (SD s) (rt (SD s) 3 o) := by
      have := VD_rtl (I := UI s) hP.2.2.1.1 (k := rt (SD s) 3 o) (n := M) (isL_rt3 hP.2.2.1 ho hL (by omega)).1 (isL_rt3 hP.2.2.1 ho hL (by omega)).2 (isL_split 3 M o (by rw [show 3 + M = q by omega]; exact hL)) k k1
      rw [rt_rt] at this
      rw [show k + 3 = 3 + k by omega]
      exact this
    have lu1 : s1.I 8 ≤ 25000 := by omega
    have u38 := KB_38 S1.2.1
    refine go_a (pc' := 150) (ls' := [some (.ref (c + 30)), some (.int (iI o)), some (.int (iI ((M : Int)))), some (.int (iI e)), some (.ref a4), some (.int (iI (pi s 2 o))), some (.ref fn), some (.ref q7), some (.ref t8), some (.int (iI ((k : Int)))), none, none]) (st' := [.int (iI ((k : Int)))]) rfl rfl ?_
    refine go_a (pc' := 151) (ls' := [some (.ref (c + 30)), some (.int (iI o)), some (.int (iI ((M : Int)))), some (.int (iI e)), some (.ref a4), some (.int (iI (pi s 2 o))), some (.ref fn), some (.ref q7), some (.ref t8), some (.int (iI ((k : Int)))), none, none]) (st' := [.int (iI ((M : Int))), .int (iI ((k : Int)))]) rfl rfl ?_
    refine mi_ge (t := 194) rfl rfl (by omega) (by omega) (by omega) (by omega) (fun w1 => ?_) (fun w1 => absurd (show (k : Int) ≥ M by omega) w1)
    refine go_a (pc' := 195) (ls' := [some (.ref (c + 30)), some (.int (iI o)), some (.int (iI ((M : Int)))), some (.int (iI e)), some (.ref a4), some (.int (iI (pi s 2 o))), some (.ref fn), some (.ref q7), some (.ref t8), some (.int (iI ((k : Int)))), none, none]) (st' := [.ref (c + 30)]) rfl rfl ?_
    refine go_get (v := .ref (c + 31)) rfl (S1.1.1 19 (by decide)) rfl rfl ?_
    refine go_a (pc' := 200) (ls' := [some (.ref (c + 30)), some (.int (iI o)), some (.int (iI ((M : Int)))), some (.int (iI e)), some (.ref a4), some (.int (iI (pi s 2 o))), some (.ref fn), some (.ref q7), some (.ref t8), some (.int (iI ((k : Int)))), none, none]) (st' := [.ref q7, .ref (c + 31)]) rfl rfl ?_
    refine go_a (pc' := 202) (ls' := [some (.ref (c + 30)), some (.int (iI o)), some (.int (iI ((M : Int)))), some (.int (iI e)), some (.ref a4), some (.int (iI (pi s 2 o))), some (.ref fn), some (.ref q7), some (.ref t8), some (.int (iI ((k : Int)))), none, none]) (st' := [.ref fn, .ref q7, .ref (c + 31)]) rfl rfl ?_
    have n_ := WFT_pos (show WFT n f by obtain ⟨_, _, _, _, _, _, T, _⟩ := id Ff; exact T.2.1)
    refine go_v (m := 289) (as := [.ref (c + 31), .ref q7, .ref fn]) (r := []) rfl rfl rfl (S1.1.1 20 (by decide)) rfl rfl (kp_bodyWith z (d + 3) c q7 fn _ gq i nm m gp n f cb h0 s1 S1.1 S1.2.1 A7 K7 hg Ff) (fun v2 h2 hq => ?_)
    obtain ⟨s2, b9, gb, rfl, K2, B2, F2, X2, T2, hb, rb⟩ := hq
    have E2 : STE c h0 s1 h2 s2 _ _ := ⟨K2, B2, F2, X2⟩
    obtain ⟨pq, ta, c1, c2, c3, c4, c5, c6, c7, c8, c9, c10, c11⟩ := id Ff
    have n120 := TM_n c5
    have PT2 := PTK_kx PT X2
    have QT2 := STE_QTR E2 QT
    have S2 := KST_STE S1 E2
    have e2 := (STE_8 E2).trans e1
    have Ta4_2 := TM_kx Tg E2.2.2.2
    have Ffn_2 := FTH_kx Ff E2.2.2.2 (Int.le_refl _)
    obtain ⟨Aq7_2, kAq7_2⟩ := KAL_kx A7 K7 E2.2.2.2
    have J2 := STE_17 E2 J1
    show xx_go (xt_P z) (d + 8) 286 205 [some (.ref (c + 30)), some (.int (iI o)), some (.int (iI ((M : Int)))), some (.int (iI e)), some (.ref a4), some (.int (iI (pi s 2 o))), some (.ref fn), some (.ref q7), some (.ref t8), some (.int (iI ((k : Int)))), none, none] [.ref b9] h2 _
    refine go_a (pc' := 207) (ls' := [some (.ref (c + 30)), some (.int (iI o)), some (.int (iI ((M : Int)))), some (.int (iI e)), some (.ref a4), some (.int (iI (pi s 2 o))), some (.ref fn), some (.ref q7), some (.ref t8), some (.ref b9), none, none]) (st' := []) rfl rfl ?_
    refine go_a (pc' := 209) (ls' := [some (.ref (c + 30)), some (.int (iI o)), some (.int (iI ((M : Int)))), some (.int (iI e)), some (.ref a4), some (.int (iI (pi s 2 o))), some (.ref fn), some (.ref q7), some (.ref t8), some (.ref b9), none, none]) (st' := [.ref b9]) rfl rfl ?_
    refine go_a (pc' := 218) (ls' := [some (.ref (c + 30)), some (.int (iI o)), some (.int (iI ((M : Int)))), some (.int (iI e)), some (.ref a4), some (.int (iI (pi s 2 o))), some (.ref fn), some (.ref q7), some (.ref t8), some (.ref b9), none, none]) (st' := []) rfl rfl ?_
    refine go_a (pc' := 219) (ls' := [some (.ref (c + 30)), some (.int (iI o)), some (.int (iI ((M : Int)))), some (.int (iI e)), some (.ref a4), some (.int (iI (pi s 2 o))), some (.ref fn), some (.ref q7), some (.ref t8), some (.ref b9), none, none]) (st' := [.int (iI 0)]) rfl rfl ?_
    refine go_a (pc' := 221) (ls' := [some (.ref (c + 30)), some (.int (iI o)), some (.int (iI ((M : Int)))), some (.int (iI e)), some (.ref a4), some (.int (iI (pi s 2 o))), some (.ref fn), some (.ref q7), some (.ref t8), some (.ref b9), some (.int (iI 0)), none]) (st' := []) rfl rfl ?_
    have KN2 := KST_KNT hP S2
    have HD2 := (KNT_ST KN2 S2.2.2.1 S2.2.1).2
    have TB2 := (TRT_ins HD2 KN2.2.2.2.2 (KST_VRG hP S2 VP) (KST_TRO hP S2 TV) Bt).1 _ (KST_TRT hP S2 OBt)
    rw [← rb] at TB2
    have oB := TRT_o TB2 (by rw [rl_len]; omega)
    have dr : ((sp_as (DK s.N o)).drop 3).take k = ((sp_as (DK s.N o)).drop 3) := List.take_of_length_le (by rw [List.length_drop, lenY]; omega)
    rw [dr] at SQ
    rw [SQ, Option.bind_some, oB, Option.bind_some, hM] at hρ
    have sa := sp_sg_app (g := G) SQ []
    rw [List.append_nil] at sa
    rw [sa] at hσ
    have htk := BRL_tk hb c5.2.2 T2.2.2
    have fx : fcl i m % 4 = 2 := by unfold fcl; omega
    have em : (k : Int) = M := by omega
    have em2 : k = M := by omega
    have E1 : 1 ≤ M := SCN_one c5.2.1 (x := 0) (by omega) (by rw [bp_n c5.2.1]; exact hE)
    have AM : ∃ A : Int, 0 ≤ A ∧ (∀ y : Int, y ≤ 240 → y ≤ 2 + 6 * ((M : Int) - 1) → y ≤ A) ∧ 307 + A * M ≤ 386 * M := by
      by_cases m1 : M = 1
      · exact ⟨2, by decide, fun y _ h => by omega, by omega⟩
      · by_cases m2 : M = 2
        · exact ⟨8, by decide, fun y _ h => by omega, by omega⟩
        · exact ⟨240, by decide, fun y h _ => h, by omega⟩
    obtain ⟨A, A0, A1, A2⟩ := AM
    have x00 : XE n gb (fcl i m) 0 = 0 := rfl
    rw [em] at S2
    exact kq_ind_l2 z d c o e _ (WD (SD s) o) _ (100 * WD (SD s) o - 386 - 602 - A * M) (700 * WD (SD s) o - 2390 - 34 - (3 + 2 * Gn) * 120 - 754 * M) (WD (SD s) o) A hp s NM hP M a4 fn q7 t8 b9 Gn fg n gb i nm m gp f cb gq O oR lu1 (by omega) A0 A1 (SCN_ext hb htk hE) (LAW_ext c5.2.1 hb htk fx c10) T2.2.1 (by omega) (by omega) (by omega) ρ σ (s1.I 17) vn _ Ft _ Q ZF ef hσ hρ M 0 0 _ _ _ (by omega) (by omega) (by omega) (SCN.nil _) (KST_w S2 (by rw [x00]; omega) (by rw [x00, Int.mul_zero]; omega) (by omega)) e2 Ta4_2 T2 Ffn_2 Aq7_2 kAq7_2 (by rw [em] at PT2; exact PT2) (KST_TRT hP S2 OF) TB2 (KST_VRG hP S2 VG) (by rw [em2] at QT2; exact QT2) (fun j hj => absurd hj (Nat.not_lt_zero _)) J2
  | succ j ih =>
    intro k O h0 s1 ZF Q hj k1 S1 Tg Ff A7 K7 hg PT QT SQ
    have J1 : s1.I 17 = s1.I 17 := rfl
    have e1 : s1.I 8 = s1.I 8 := rfl
    have z1 := S1.2.2.2.2.2.1
    have mR := PT.2.2.1
    have vk : 0 ≤ VD (SD s) (rt (SD s) (k + 3) o) := (PI_w hP.2.2.1 ho hL (j := k + 2) (by omega)).2.2.2
    have vq : VD (SD s) (rt (SD s) (k + 3) o) ≤ VD (SD s) (rt (SD s) 3 o) := by
      have := VD_rtl (I := UI s) hP.2.2.1.1 (k := rt (SD s) 3 o) (n := M) (isL_rt3 hP.2.2.1 ho hL (by omega)).1 (isL_rt3 hP.2.2.1 ho hL (by omega)).2 (isL_split 3 M o (by rw [show 3 + M = q by omega]; exact hL)) k k1
      rw [rt_rt] at this
      rw [show k + 3 = 3 + k by omega]
      exact this
    have lu1 : s1.I 8 ≤ 25000 := by omega
    have u38 := KB_38 S1.2.1
    refine go_a (pc' := 150) (ls' := [some (.ref (c + 30)), some (.int (iI o)), some (.int (iI ((M : Int)))), some (.int (iI e)), some (.ref a4), some (.int (iI (pi s 2 o))), some (.ref fn), some (.ref q7), some (.ref t8), some (.int (iI ((k : Int)))), none, none]) (st' := [.int (iI ((k : Int)))]) rfl rfl ?_
    refine go_a (pc' := 151) (ls' := [some (.ref (c + 30)), some (.int (iI o)), some (.int (iI ((M : Int)))), some (.int (iI e)), some (.ref a4), some (.int (iI (pi s 2 o))), some (.ref fn), some (.ref q7), some (.ref t8), some (.int (iI ((k : Int)))), none, none]) (st' := [.int (iI ((M : Int))), .int (iI ((k : Int)))]) rfl rfl ?_
    refine mi_ge (t := 194) rfl rfl (by omega) (by omega) (by omega) (by omega) (fun w1 => ?_) (fun w1 => ?_)
    · refine go_a (pc' := 195) (ls' := [some (.ref (c + 30)), some (.int (iI o)), some (.int (iI ((M : Int)))), some (.int (iI e)), some (.ref a4), some (.int (iI (pi s 2 o))), some (.ref fn), some (.ref q7), some (.ref t8), some (.int (iI ((k : Int)))), none, none]) (st' := [.ref (c + 30)]) rfl rfl ?_
      refine go_get (v := .ref (c + 31)) rfl (S1.1.1 19 (by decide)) rfl rfl ?_
      refine go_a (pc' := 200) (ls' := [some (.ref (c + 30)), some (.int (iI o)), some (.int (iI ((M : Int)))), some (.int (iI e)), some (.ref a4), some (.int (iI (pi s 2 o))), some (.ref fn), some (.ref q7), some (.ref t8), some (.int (iI ((k : Int)))), none, none]) (st' := [.ref q7, .ref (c + 31)]) rfl rfl ?_
      refine go_a (pc' := 202) (ls' := [some (.ref (c + 30)), some (.int (iI o)), some (.int (iI ((M : Int)))), some (.int (iI e)), some (.ref a4), some (.int (iI (pi s 2 o))), some (.ref fn), some (.ref q7), some (.ref t8), some (.int (iI ((k : Int)))), none, none]) (st' := [.ref fn, .ref q7, .ref (c + 31)]) rfl rfl ?_
      have n_ := WFT_pos (show WFT n f by obtain ⟨_, _, _, _, _, _, T, _⟩ := id Ff; exact T.2.1)
      refine go_v (m := 289) (as := [.ref (c + 31), .ref q7, .ref fn]) (r := []) rfl rfl rfl (S1.1.1 20 (by decide)) rfl rfl (kp_bodyWith z (d + 3) c q7 fn _ gq i nm m gp n f cb h0 s1 S1.1 S1.2.1 A7 K7 hg Ff) (fun v2 h2 hq => ?_)
      obtain ⟨s2, b9, gb, rfl, K2, B2, F2, X2, T2, hb, rb⟩ := hq
      have E2 : STE c h0 s1 h2 s2 _ _ := ⟨K2, B2, F2, X2⟩
      obtain ⟨pq, ta, c1, c2, c3, c4, c5, c6, c7, c8, c9, c10, c11⟩ := id Ff
      have n120 := TM_n c5
      have PT2 := PTK_kx PT X2
      have QT2 := STE_QTR E2 QT
      have S2 := KST_STE S1 E2
      have e2 := (STE_8 E2).trans e1
      have Ta4_2 := TM_kx Tg E2.2.2.2
      have Ffn_2 := FTH_kx Ff E2.2.2.2 (Int.le_refl _)
      obtain ⟨Aq7_2, kAq7_2⟩ := KAL_kx A7 K7 E2.2.2.2
      have J2 := STE_17 E2 J1
      show xx_go (xt_P z) (d + 8) 286 205 [some (.ref (c + 30)), some (.int (iI o)), some (.int (iI ((M : Int)))), some (.int (iI e)), some (.ref a4), some (.int (iI (pi s 2 o))), some (.ref fn), some (.ref q7), some (.ref t8), some (.int (iI ((k : Int)))), none, none] [.ref b9] h2 _
      refine go_a (pc' := 207) (ls' := [some (.ref (c + 30)), some (.int (iI o)), some (.int (iI ((M : Int)))), some (.int (iI e)), some (.ref a4), some (.int (iI (pi s 2 o))), some (.ref fn), some (.ref q7), some (.ref t8), some (.ref b9), none, none]) (st' := []) rfl rfl ?_
      refine go_a (pc' := 209) (ls' := [some (.ref (c + 30)), some (.int (iI o)), some (.int (iI ((M : Int)))), some (.int (iI e)), some (.ref a4), some (.int (iI (pi s 2 o))), some (.ref fn), some (.ref q7), some (.ref t8), some (.ref b9), none, none]) (st' := [.ref b9]) rfl rfl ?_
      refine go_a (pc' := 218) (ls' := [some (.ref (c + 30)), some (.int (iI o)), some (.int (iI ((M : Int)))), some (.int (iI e)), some (.ref a4), some (.int (iI (pi s 2 o))), some (.ref fn), some (.ref q7), some (.ref t8), some (.ref b9), none, none]) (st' := []) rfl rfl ?_
      refine go_a (pc' := 219) (ls' := [some (.ref (c + 30)), some (.int (iI o)), some (.int (iI ((M : Int)))), some (.int (iI e)), some (.ref a4), some (.int (iI (pi s 2 o))), some (.ref fn), some (.ref q7), some (.ref t8), some (.ref b9), none, none]) (st' := [.int (iI 0)]) rfl rfl ?_
      refine go_a (pc' := 221) (ls' := [some (.ref (c + 30)), some (.int (iI o)), some (.int (iI ((M : Int)))), some (.int (iI e)), some (.ref a4), some (.int (iI (pi s 2 o))), some (.ref fn), some (.ref q7), some (.ref t8), some (.ref b9), some (.int (iI 0)), none]) (st' := []) rfl rfl ?_
      have KN2 := KST_KNT hP S2
      have HD2 := (KNT_ST KN2 S2.2.2.1 S2.2.1).2
      have TB2 := (TRT_ins HD2 KN2.2.2.2.2 (KST_VRG hP S2 VP) (KST_TRO hP S2 TV) Bt).1 _ (KST_TRT hP S2 OBt)
      rw [← rb] at TB2
      have oB := TRT_o TB2 (by rw [rl_len]; omega)
      have dr : ((sp_as (DK s.N o)).drop 3).take k = ((sp_as (DK s.N o)).drop 3) := List.take_of_length_le (by rw [List.length_drop, lenY]; omega)
      rw [dr] at SQ
      rw [SQ, Option.bind_some, oB, Option.bind_some, hM] at hρ
      have sa := sp_sg_app (g := G) SQ []
      rw [List.append_nil] at sa
      rw [sa] at hσ
      have htk := BRL_tk hb c5.2.2 T2.2.2
      have fx : fcl i m % 4 = 2 := by unfold fcl; omega
      have em : (k : Int) = M := by omega
      have em2 : k = M := by omega
      have E1 : 1 ≤ M := SCN_one c5.2.1 (x := 0) (by omega) (by rw [bp_n c5.2.1]; exact hE)
      have AM : ∃ A : Int, 0 ≤ A ∧ (∀ y : Int, y ≤ 240 → y ≤ 2 + 6 * ((M : Int) - 1) → y ≤ A) ∧ 307 + A * M ≤ 386 * M := by
        by_cases m1 : M = 1
        · exact ⟨2, by decide, fun y _ h => by omega, by omega⟩
        · by_cases m2 : M = 2
          · exact ⟨8, by decide, fun y _ h => by omega, by omega⟩
          · exact ⟨240, by decide, fun y h _ => h, by omega⟩
      obtain ⟨A, A0, A1, A2⟩ := AM
      have x00 : XE n gb (fcl i m) 0 = 0 := rfl
      rw [em] at S2
      exact kq_ind_l2 z d c o e _ (WD (SD s) o) _ (100 * WD (SD s) o - 386 - 602 - A * M) (700 * WD (SD s) o - 2390 - 34 - (3 + 2 * Gn) * 120 - 754 * M) (WD (SD s) o) A hp s NM hP M a4 fn q7 t8 b9 Gn fg n gb i nm m gp f cb gq O oR lu1 (by omega) A0 A1 (SCN_ext hb htk hE) (LAW_ext c5.2.1 hb htk fx c10) T2.2.1 (by omega) (by omega) (by omega) ρ σ (s1.I 17) vn _ Ft _ Q ZF ef hσ hρ M 0 0 _ _ _ (by omega) (by omega) (by omega) (SCN.nil _) (KST_w S2 (by rw [x00]; omega) (by rw [x00, Int.mul_zero]; omega) (by omega)) e2 Ta4_2 T2 Ffn_2 Aq7_2 kAq7_2 (by rw [em] at PT2; exact PT2) (KST_TRT hP S2 OF) TB2 (KST_VRG hP S2 VG) (by rw [em2] at QT2; exact QT2) (fun j hj => absurd hj (Nat.not_lt_zero _)) J2
    · have yk : ((sp_as (DK s.N o)).drop 3)[k]? = some (DK s.N (pi s (k + 3) o)) := by rw [List.getElem?_drop, Nat.add_comm 3 k]; exact AS_get hP ho hL (by omega)
      have ys0 := List.take_append_drop k ((sp_as (DK s.N o)).drop 3)
      rw [drop_get yk] at ys0
      obtain ⟨p1, p2, p3, p4⟩ := PI_w hP.2.2.1 ho hL (j := k + 3) (by omega)
      have p1 : VD (SD s) (rt (SD s) (k + 3) o) = WD (SD s) (pi s (k + 3) o) + VD (SD s) (rt (SD s) (k + 1 + 3) o) := p1
      have p4 : 0 ≤ VD (SD s) (rt (SD s) (k + 1 + 3) o) := p4
      refine go_a (pc' := 156) (ls' := [some (.ref (c + 30)), some (.int (iI o)), some (.int (iI ((M : Int)))), some (.int (iI e)), some (.ref a4), some (.int (iI (pi s 2 o))), some (.ref fn), some (.ref q7), some (.ref t8), some (.int (iI ((k : Int)))), none, none]) (st' := [.ref t8]) rfl rfl ?_
      refine go_a (pc' := 158) (ls' := [some (.ref (c + 30)), some (.int (iI o)), some (.int (iI ((M : Int)))), some (.int (iI e)), some (.ref a4), some (.int (iI (pi s 2 o))), some (.ref fn), some (.ref q7), some (.ref t8), some (.int (iI ((k : Int)))), none, none]) (st' := [.int (iI ((k : Int))), .ref t8]) rfl rfl ?_
      refine go_a (pc' := 159) (ls' := [some (.ref (c + 30)), some (.int (iI o)), some (.int (iI ((M : Int)))), some (.int (iI e)), some (.ref a4), some (.int (iI (pi s 2 o))), some (.ref fn), some (.ref q7), some (.ref t8), some (.int (iI ((k : Int)))), none, none]) (st' := [.ref (c + 30), .int (iI ((k : Int))), .ref t8]) rfl rfl ?_
      refine go_a (pc' := 160) (ls' := [some (.ref (c + 30)), some (.int (iI o)), some (.int (iI ((M : Int)))), some (.int (iI e)), some (.ref a4), some (.int (iI (pi s 2 o))), some (.ref fn), some (.ref q7), some (.ref t8), some (.int (iI ((k : Int)))), none, none]) (st' := [.ref (c + 30), .ref (c + 30), .int (iI ((k : Int))), .ref t8]) rfl rfl ?_
      refine go_get (v := .ref (c + 4)) rfl (S1.1.1 19 (by decide)) rfl rfl ?_
      refine go_a (pc' := 164) (ls' := [some (.ref (c + 30)), some (.int (iI o)), some (.int (iI ((M : Int)))), some (.int (iI e)), some (.ref a4), some (.int (iI (pi s 2 o))), some (.ref fn), some (.ref q7), some (.ref t8), some (.int (iI ((k : Int)))), none, none]) (st' := [.int (iI o), .ref (c + 4), .ref (c + 30), .int (iI ((k : Int))), .ref t8]) rfl rfl ?_
      refine go_a (pc' := 166) (ls' := [some (.ref (c + 30)), some (.int (iI o)), some (.int (iI ((M : Int)))), some (.int (iI e)), some (.ref a4), some (.int (iI (pi s 2 o))), some (.ref fn), some (.ref q7), some (.ref t8), some (.int (iI ((k : Int)))), none, none]) (st' := [.int (iI ((k : Int))), .int (iI o), .ref (c + 4), .ref (c + 30), .int (iI ((k : Int))), .ref t8]) rfl rfl ?_
      refine go_a (pc' := 167) (ls' := [some (.ref (c + 30)), some (.int (iI o)), some (.int (iI ((M : Int)))), some (.int (iI e)), some (.ref a4), some (.int (iI (pi s 2 o))), some (.ref fn), some (.ref q7), some (.ref t8), some (.int (iI ((k : Int)))), none, none]) (st' := [.int (iI 3), .int (iI ((k : Int))), .int (iI o), .ref (c + 4), .ref (c + 30), .int (iI ((k : Int))), .ref t8]) rfl rfl ?_
      refine mi_add rfl ?_
      refine go_v (m := 202) (as := [.ref (c + 4), .int (iI o), .int (iI (((k : Int)) + 3))]) (r := [.ref (c + 30), .int (iI ((k : Int))), .ref t8]) rfl rfl rfl (S1.1.1 3 (by decide)) rfl rfl (kq_part z (d + 6) S1 hP.2.2.1 ho hL (by omega) (by omega) (by omega)) (fun v21 h21 hq => ?_)
      obtain ⟨rfl, eq21⟩ := hq
      rw [eq21, show ((k : Int) + 3).toNat = k + 3 by omega]
      clear eq21 h21
      show xx_go (xt_P z) (d + 8) 286 171 [some (.ref (c + 30)), some (.int (iI o)), some (.int (iI ((M : Int)))), some (.int (iI e)), some (.ref a4), some (.int (iI (pi s 2 o))), some (.ref fn), some (.ref q7), some (.ref t8), some (.int (iI ((k : Int)))), none, none] [.int (iI (pi s (k + 3) o)), .ref (c + 30), .int (iI ((k : Int))), .ref t8] h0 _
      refine go_a (pc' := 172) (ls' := [some (.ref (c + 30)), some (.int (iI o)), some (.int (iI ((M : Int)))), some (.int (iI e)), some (.ref a4), some (.int (iI (pi s 2 o))), some (.ref fn), some (.ref q7), some (.ref t8), some (.int (iI ((k : Int)))), none, none]) (st' := [.int (iI e), .int (iI (pi s (k + 3) o)), .ref (c + 30), .int (iI ((k : Int))), .ref t8]) rfl rfl ?_
      refine go_a (pc' := 173) (ls' := [some (.ref (c + 30)), some (.int (iI o)), some (.int (iI ((M : Int)))), some (.int (iI e)), some (.ref a4), some (.int (iI (pi s 2 o))), some (.ref fn), some (.ref q7), some (.ref t8), some (.int (iI ((k : Int)))), none, none]) (st' := [.int (iI 1), .int (iI e), .int (iI (pi s (k + 3) o)), .ref (c + 30), .int (iI ((k : Int))), .ref t8]) rfl rfl ?_
      refine mi_add rfl ?_
      refine go_v (m := 245) (as := [.ref (c + 30), .int (iI (pi s (k + 3) o)), .int (iI (e + 1))]) (r := [.int (iI ((k : Int))), .ref t8]) rfl rfl rfl (S1.1.1 19 (by decide)) rfl rfl (kq_sub R hP S1 hf p2 (by omega) (by omega)) (fun v22 h22 hq => ?_)
      obtain ⟨s22, hv⟩ := hq
      rcases hv with ⟨rfl, en22, eg22, S22, Q22⟩ | ⟨y22, Z22, D22, rfl, l22, C22, ⟨TO22, es22⟩, S22, g22, PS22, Q22⟩
      · rw [show DK s.N (pi s (k + 3) o) = DK s.N (pi s (k + 3) o) from rfl, J1] at en22 eg22
        show xx_go (xt_P z) (d + 8) 286 177 [some (.ref (c + 30)), some (.int (iI o)), some (.int (iI ((M : Int)))), some (.int (iI e)), some (.ref a4), some (.int (iI (pi s 2 o))), some (.ref fn), some (.ref q7), some (.ref t8), some (.int (iI ((k : Int)))), none, none] [.null, .int (iI ((k : Int))), .ref t8] h22 _
        have hr9 : ρ = none := by
          rw [hρ, ← ys0, sp_sq_none SQ en22]
          rfl
        have hs9 : σ = G (DK s.N (pi s (k + 3) o)) (s1.I 17) := by
          rw [hσ, ← ys0, sp_sg_app SQ, sp_sg_n en22]
        have PTn := PTK_kx PT Q22.2.2.2.2.1
        have F9 := PTK_nul PTn (k : Int)
        have S9 := KST_F1 S22 PTn.2.1 h12 ht F9
        have g9 : (h22.set t8 (.inl (.object "ClauseKernel$Clause", xa_r (M : Int).toNat (so O k none))))[t8]? = _ := List.getElem?_set_self (List.getElem?_eq_some_iff.mp PTn.1).1
        refine mk_astN rfl PTn.1 h12 (by omega) (by omega) (by omega) ?_
        obtain ⟨h9, e9⟩ : ∃ q : xx_H, q = h22.set t8 (.inl (.object "ClauseKernel$Clause", xa_r (M : Int).toNat (so O k none))) := ⟨_, rfl⟩
        rw [← e9] at F9 S9 g9
        rw [← e9]
        show xx_go (xt_P z) (d + 8) 286 178 [some (.ref (c + 30)), some (.int (iI o)), some (.int (iI ((M : Int)))), some (.int (iI e)), some (.ref a4), some (.int (iI (pi s 2 o))), some (.ref fn), some (.ref q7), some (.ref t8), some (.int (iI ((k : Int)))), none, none] [] h9 _
        refine go_a (pc' := 180) (ls' := [some (.ref (c + 30)), some (.int (iI o)), some (.int (iI ((M : Int)))), some (.int (iI e)), some (.ref a4), some (.int (iI (pi s 2 o))), some (.ref fn), some (.ref q7), some (.ref t8), some (.int (iI ((k : Int)))), none, none]) (st' := [.ref t8]) rfl rfl ?_
        refine go_a (pc' := 182) (ls' := [some (.ref (c + 30)), some (.int (iI o)), some (.int (iI ((M : Int)))), some (.int (iI e)), some (.ref a4), some (.int (iI (pi s 2 o))), some (.ref fn), some (.ref q7), some (.ref t8), some (.int (iI ((k : Int)))), none, none]) (st' := [.int (iI ((k : Int))), .ref t8]) rfl rfl ?_
        refine mk_ald rfl g9 rfl (by omega) (by omega) (by omega) ?_
        rw [so_self]
        show xx_go (xt_P z) (d + 8) 286 183 [some (.ref (c + 30)), some (.int (iI o)), some (.int (iI ((M : Int)))), some (.int (iI e)), some (.ref a4), some (.int (iI (pi s 2 o))), some (.ref fn), some (.ref q7), some (.ref t8), some (.int (iI ((k : Int)))), none, none] [.null] h9 _
        refine go_a (pc' := 186) (ls' := [some (.ref (c + 30)), some (.int (iI o)), some (.int (iI ((M : Int)))), some (.int (iI e)), some (.ref a4), some (.int (iI (pi s 2 o))), some (.ref fn), some (.ref q7), some (.ref t8), some (.int (iI ((k : Int)))), none, none]) (st' := []) rfl rfl ?_
        refine go_a (pc' := 187) (ls' := [some (.ref (c + 30)), some (.int (iI o)), some (.int (iI ((M : Int)))), some (.int (iI e)), some (.ref a4), some (.int (iI (pi s 2 o))), some (.ref fn), some (.ref q7), some (.ref t8), some (.int (iI ((k : Int)))), none, none]) (st' := [.null]) rfl rfl ?_
        exact go_r rfl rfl rfl rfl rfl rfl ⟨_, Or.inl ⟨rfl, hr9, (by rw [hs9]; exact eg22), KST_w S9 (by omega) (by omega) (by omega)⟩⟩
      · rw [show DK s.N (pi s (k + 3) o) = DK s.N (pi s (k + 3) o) from rfl, J1] at es22
        have J22 : s22.I 17 = s22.I 17 := rfl
        have z22 := S22.2.2.2.2.2.1
        have lu22 : s22.I 8 ≤ 25000 := by omega
        have e22 : s22.I 8 = s22.I 8 := rfl
        have u38 := KB_38 S22.2.1
        have Ta4_22 := TM_u (TM_kx Tg Q22.2.2.2.2.1) (show _ ≤ s22.I 8 by omega)
        obtain ⟨Aq7_22, kAq7_22⟩ := KAL_kx A7 K7 Q22.2.2.2.2.1
        have Ffn_22 := FTH_kx Ff Q22.2.2.2.2.1 (show _ ≤ s22.I 8 by omega)
        obtain ⟨mC22, wC22, cC22⟩ := CL_cell C22
        show xx_go (xt_P z) (d + 8) 286 177 [some (.ref (c + 30)), some (.int (iI o)), some (.int (iI ((M : Int)))), some (.int (iI e)), some (.ref a4), some (.int (iI (pi s 2 o))), some (.ref fn), some (.ref q7), some (.ref t8), some (.int (iI ((k : Int)))), none, none] [.ref y22, .int (iI ((k : Int))), .ref t8] h22 _
        have PT2 := PTK_u (PTK_kx PT Q22.2.2.2.2.1) (show s1.I 8 ≤ s22.I 8 by omega)
        have QT9 := QTR_s (KST_QTR PS22 Q22 QT) TO22
        have SQ9 : sp_sq F (((sp_as (DK s.N o)).drop 3).take (k + 1)) (s.I 17) = some (Q ++ [D22], s22.I 17) := by
          rw [take_s yk]
          exact sp_sq_one SQ es22
        obtain ⟨F9, PT9⟩ := PTK_put PT2 C22
        have S9 := KST_F1 S22 PT2.2.1 h12 ht F9
        have T9 := KF1_TMr PT2.1 F9 Ta4_22
        have Ff9 := FTH_F1r PT2.1 F9 Ffn_22
        have A9 := KAL_F1r PT2.1 F9 Aq7_22
        have hg9 : ∀ i : Int, 0 ≤ i → i < m → TVx (s22.I 8) (gq i) ∧ gq i % 4 = 0 := fun i i0 i1 => ⟨TVx_u (hg i i0 i1).1 (by omega), (hg i i0 i1).2⟩
        refine mk_ast rfl PT2.1 h12 cC22 rfl (by omega) (by omega) (by omega) ?_
        obtain ⟨h9, e9⟩ : ∃ q : xx_H, q = h22.set t8 (.inl (.object "ClauseKernel$Clause", xa_r (M : Int).toNat (so O k (some y22)))) := ⟨_, rfl⟩
        rw [← e9] at F9 S9 PT9 T9 Ff9 A9
        rw [← e9]
        show xx_go (xt_P z) (d + 8) 286 178 [some (.ref (c + 30)), some (.int (iI o)), some (.int (iI ((M : Int)))), some (.int (iI e)), some (.ref a4), some (.int (iI (pi s 2 o))), some (.ref fn), some (.ref q7), some (.ref t8), some (.int (iI ((k : Int)))), none, none] [] h9 _
        refine go_a (pc' := 180) (ls' := [some (.ref (c + 30)), some (.int (iI o)), some (.int (iI ((M : Int)))), some (.int (iI e)), some (.ref a4), some (.int (iI (pi s 2 o))), some (.ref fn), some (.ref q7), some (.ref t8), some (.int (iI ((k : Int)))), none, none]) (st' := [.ref t8]) rfl rfl ?_
        refine go_a (pc' := 182) (ls' := [some (.ref (c + 30)), some (.int (iI o)), some (.int (iI ((M : Int)))), some (.int (iI e)), some (.ref a4), some (.int (iI (pi s 2 o))), some (.ref fn), some (.ref q7), some (.ref t8), some (.int (iI ((k : Int)))), none, none]) (st' := [.int (iI ((k : Int))), .ref t8]) rfl rfl ?_
        refine mk_ald rfl PT9.1 rfl (by omega) (by omega) (by omega) ?_
        rw [so_self]
        show xx_go (xt_P z) (d + 8) 286 183 [some (.ref (c + 30)), some (.int (iI o)), some (.int (iI ((M : Int)))), some (.int (iI e)), some (.ref a4), some (.int (iI (pi s 2 o))), some (.ref fn), some (.ref q7), some (.ref t8), some (.int (iI ((k : Int)))), none, none] [.ref y22] h9 _
        refine go_a (pc' := 188) (ls' := [some (.ref (c + 30)), some (.int (iI o)), some (.int (iI ((M : Int)))), some (.int (iI e)), some (.ref a4), some (.int (iI (pi s 2 o))), some (.ref fn), some (.ref q7), some (.ref t8), some (.int (iI ((k : Int)))), none, none]) (st' := []) rfl rfl ?_
        refine go_a (pc' := 191) (ls' := [some (.ref (c + 30)), some (.int (iI o)), some (.int (iI ((M : Int)))), some (.int (iI e)), some (.ref a4), some (.int (iI (pi s 2 o))), some (.ref fn), some (.ref q7), some (.ref t8), some (.int (iI (((k : Int)) + 1))), none, none]) (st' := []) rfl (by rw [← iI_add ((k : Int)) 1]; rfl) ?_
        refine go_a (pc' := 148) (ls' := [some (.ref (c + 30)), some (.int (iI o)), some (.int (iI ((M : Int)))), some (.int (iI e)), some (.ref a4), some (.int (iI (pi s 2 o))), some (.ref fn), some (.ref q7), some (.ref t8), some (.int (iI (((k : Int)) + 1))), none, none]) (st' := []) rfl rfl ?_
        rw [show (k : Int) + 1 = ((k + 1 : Nat) : Int) by omega]
        rw [show (k : Int) + 1 = ((k + 1 : Nat) : Int) by omega] at PT9
        exact ih (k + 1) _ _ _ _ _ (by omega) (by omega) (KST_w S9 (by omega) (by omega) (by omega)) T9 Ff9 A9 kAq7_22 hg9 PT9 QT9 SQ9
