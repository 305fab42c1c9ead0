def STE (c : Nat) (hp : xx_H) (s : KS) (h1 : xx_H) (s1 : KS) (a b : Int) : Prop := KI c h1 s1 ∧ KB s1 ∧ TF s s1 ∧ kx c hp s h1 s1 a b
def MTM (c : Nat) (hp : xx_H) (s : KS) (u : Int) (v : Value) (R : Option (List Int)) : Prop := (v = .null ∧ R = none) ∨ ∃ (a : Nat) (n : Int) (f : Int → Int), v = .ref a ∧ TM c hp s u a n f ∧ R = some (rl n f)
def PRP (c : Nat) (hp : xx_H) (s : KS) (w : Int) (ft : Nat → Int) (ρ : Option (List ob_T × Int)) (σ : Int) (v : Option Value) (h1 : xx_H) : Prop := ∃ s1 : KS, (v = some .null ∧ ρ = none ∧ s1.I 17 = σ ∧ KST c hp s h1 s1 (100 * w) (700 * w) w) ∨ ∃ (y : Nat) (Z : List (List Int)) (D : List ob_T), v = some (.ref y) ∧ hp.length ≤ y ∧ CL c h1 s1 (s1.I 8) y 0 Z ∧ (TRO s1.N (s1.I 8) ft Z D ∧ ρ = some (D, s1.I 17)) ∧ KST c hp s h1 s1 (100 * w - 386) (700 * w - 2390) w
def pi (s : KS) (m : Nat) (o : Int) : Int := SD s 1 (rt (SD s) m o)
section EA
variable {c x y : Nat} {hp h1 h2 : xx_H} {s s1 s2 : KS} {α β γ a b u w b1 : Int} {NM : BKM} {v : Value} {o : Int} {q : Nat} {R Ra Rb Re : Option (List Int)} {Z : List (List Int)} {ft : Nat → Int} {ρ : Option (List ob_T × Int)} {σ : Int}
theorem STE_rf (K : KI c hp s) (B : KB s) : STE c hp s hp s 0 0 := ⟨K, B, TF_rf, kx_rf⟩
theorem STE_w {a1 b1 : Int} (h : STE c hp s h1 s1 a b) (ha : a ≤ a1) (hb : b ≤ b1) : STE c hp s h1 s1 a1 b1 := ⟨h.1, h.2.1, h.2.2.1, kx_w h.2.2.2 ha hb⟩
theorem STE_8 (h : STE c hp s h1 s1 a b) : s1.I 8 = s.I 8 := h.2.2.1.2.2.2 8 (by decide) (by decide)
theorem KST_STE (S : KST c hp s h1 s1 α β γ) (E : STE c h1 s1 h2 s2 a b) : KST c hp s h2 s2 (α + a) (β + b) γ := KST_TF S E.1 E.2.1 E.2.2.1 E.2.2.2
theorem KST_rf' (K : KI c hp s) (B : KB s) (C : CI s) : KST c hp s hp s 0 0 0 := ⟨K, B, C, PFR_rf, kx_rf, by omega, id⟩
theorem KST_len (S : KST c hp s h1 s1 α β γ) : hp.length ≤ h1.length := S.2.2.2.2.1.1
theorem MTM_kx (h : MTM c hp s u v R) (X : kx c hp s h1 s1 a b) : MTM c h1 s1 u v R := by
  rcases h with h | ⟨a1, n, f, e, T, r⟩
  · exact Or.inl h
  · exact Or.inr ⟨a1, n, f, e, TM_kx T X, r⟩
theorem MTM_fe (C : CL c hp s w y b Z) (F : KFE y hp h1) (h : MTM c hp s u v R) : MTM c h1 s u v R := by
  rcases h with h | ⟨a1, n, f, e, T, r⟩
  · exact Or.inl h
  · exact Or.inr ⟨a1, n, f, e, TM_fe C F T, r⟩
theorem MTM_T {a1 : Nat} {n : Int} {f : Int → Int} (T : TM c hp s u a1 n f) : MTM c hp s u (.ref a1) (some (rl n f)) := Or.inr ⟨a1, n, f, rfl, T, rfl⟩
theorem MTM_n : MTM c hp s u .null none := Or.inl ⟨rfl, rfl⟩
theorem MTM_r (h : MTM c hp s u v R) : v = .null ∨ ∃ k : Nat, v = .ref k := by
  rcases h with h | ⟨a1, n, f, e, T, r⟩
  · exact Or.inl h.1
  · exact Or.inr ⟨a1, e⟩
theorem MKT_M {N : Int} {L : List Int} {v : Option Value} (h : MKT c hp s u N L v h1) : ∃ (v1 : Value) (s2 : KS), v = some v1 ∧ STE c hp s h1 s2 2 121 ∧ MTM c h1 s2 u v1 (opR L) := by
  obtain ⟨s2, K, B, F, ⟨e, -, X, lL⟩ | ⟨a1, f, e, l, -, X, T, rL⟩⟩ := h
  · exact ⟨.null, s2, e, ⟨K, B, F, kx_w X (by decide) (by decide)⟩, Or.inl ⟨rfl, opR_n lL⟩⟩
  · exact ⟨.ref a1, s2, e, ⟨K, B, F, kx_w X (by omega) (by omega)⟩, by rw [opR_s rL l]; exact MTM_T T⟩
theorem PFR_rt (h : PFR s s1) (hC : CI s) {n : Nat} {k : Int} (ho : OB s k) (hL : isL (SD s) n k) : ∀ j : Nat, j ≤ n → rt (SD s1) j k = rt (SD s) j k
  | 0, _ => rfl
  | j + 1, hj => by
    rw [rt_succ, rt_succ, PFR_rt h hC ho hL j (by omega)]
    have := isL_rt (I := UI s) hC.1 n j k ho.1 ho.2 hL (by omega)
    exact (PFR_SD h (by have := ho.2; omega)).2
theorem PFR_isL (h : PFR s s1) (hC : CI s) {n : Nat} {k : Int} (ho : OB s k) (hL : isL (SD s) n k) : isL (SD s1) n k := isL_ext (I := UI s) hC.1 (fun k _ k1 => PFR_SD h k1) n k ho.1 ho.2 hL
theorem PI_w (hC : CI s) (ho : OB s o) (hL : isL (SD s) q o) {j : Nat} (hj : j < q) : VD (SD s) (rt (SD s) j o) = WD (SD s) (pi s j o) + VD (SD s) (rt (SD s) (j + 1) o) ∧ OB s (pi s j o) ∧ 1 ≤ WD (SD s) (pi s j o) ∧ 0 ≤ VD (SD s) (rt (SD s) (j + 1) o) := by
  have h := VD_rt (I := UI s) hC.1 ho.1 ho.2 hL hj
  exact ⟨h.1, h.2.1, h.2.2.1, h.2.2.2⟩
theorem PI_p (hC : CI s) (ho : OB s o) (hL : isL (SD s) q o) {j : Nat} (hj : j < q) (F : PFR s s1) : pi s1 j o = pi s j o := by
  unfold pi
  rw [PFR_rt F hC ho hL _ (by omega)]
  have := isL_rt (I := UI s) hC.1 q j o ho.1 ho.2 hL hj
  exact (PFR_SD F (by have := ho.2; omega)).1
theorem PI_W (hC : CI s) (ho : OB s o) (hL : isL (SD s) q o) (hq : 0 < q) (h2 : pi s 0 o ≠ 2) : WD (SD s) o = 2 + VD (SD s) (rt (SD s) 0 o) := by
  have h := isL_rt (I := UI s) hC.1 q 0 o ho.1 ho.2 hL hq
  exact (WD_pair (I := UI s) hC.1 ho.1 ho.2 h.2.2).trans (if_neg (fun q => h2 q.1))
theorem kq_part (z : Value) (d : Nat) {o m : Int} (S : KST c hp s h1 s1 α β γ) (hC : CI s) (ho : OB s o) (hL : isL (SD s) q o) (m0 : 0 ≤ m) (m1 : m < q) (m2 : m < 140000) : xx_cl (xt_P z) (d + 2) 202 [.ref (c + 4), .int (iI o), .int (iI m)] h1 (fun v h2 => v = some (.int (iI (pi s m.toNat o))) ∧ h2 = h1) := by
  have F := S.2.2.2.1
  refine cl_w ?_ (kc_part z d c o m h1 s1 S.1 S.2.1 S.2.2.1 (PFR_OB F ho) m0 m2)
  rintro v h2 ⟨⟨y, rfl, _, e⟩, e2⟩
  have e3 := e q (PFR_isL F hC ho hL) m1
  have e4 := PI_p hC ho hL (j := m.toNat) (by omega) F
  exact ⟨by rw [e3, ← e4]; rfl, e2⟩
theorem KST_BF (P : KPS c hp s NM) (S : KST c hp s h1 s1 α β γ) (hu : s1.I 8 = u) : BF c h1 s1 u NM ∧ BT c h1 s1 u NM ∧ OC h1 ∧ s1.I 14 = -1 := by
  obtain ⟨a1, a2, a3, a4, a5, a6, a7, a8, -⟩ := P
  obtain ⟨b1, b2, b3, b4, b5, b6, -⟩ := S
  have i := fun j p q r t u w => b4.2.2.1 j p q r t u w
  have l := b4.2.2.2.1
  refine ⟨BF_kx a5 b5 (by omega) (i 27 (by decide) (by decide) (by decide) (by decide) (by decide) (by decide)) (by rw [b4.1]), BT_kx a6 b5 (by omega) (i 28 (by decide) (by decide) (by decide) (by decide) (by decide) (by decide)) (by rw [b4.1]), OC_kx a4 b5, ?_⟩
  rw [i 14 (by decide) (by decide) (by decide) (by decide) (by decide) (by decide)]
  exact a7
theorem KB_38 (B : KB s) : 38 ≤ s.I 8 := by
  have := B.2.2.2.2.2.1
  omega
theorem KST_KNT (P : KPS c hp s NM) (S : KST c hp s h1 s1 α β γ) : KNT s1 NM := KNT_st P.2.2.2.2.2.2.2.2 P.2.2.1 P.2.1 S.2.2.2.1 (S.2.2.2.2.2.2 P.2.2.2.2.2.2.2.2.1)
theorem KST_D {k : Int} (P : KPS c hp s NM) (S : KST c hp s h1 s1 α β γ) (ho : OB s k) : DK s1.N k = DK s.N k := DK_e P.2.1 ⟨P.2.2.1, P.2.2.2.2.2.2.2.2.1.1⟩ (fun e he => (S.2.2.2.1.2.2.2.2 e he).1) ho.1 ho.2
theorem PI_D (P : KPS c hp s NM) (ho : OB s o) (hL : isL (SD s) q o) {j : Nat} (hj : j < q) : DK s.N (pi s j o) = sp_p j (DK s.N o) := by
  have h := (ST_rt (KNT_ST P.2.2.2.2.2.2.2.2 P.2.2.1 P.2.1).1 q j o ho.1 ho.2 hL hj).1
  unfold sp_p
  rw [List.getD_eq_getElem?_getD, h]
  rfl
theorem KST_TRT {L : List Int} {t : ob_T} (P : KPS c hp s NM) (S : KST c hp s h1 s1 α β γ) (h : TRT s.N (s.I 8) ft L t) : TRT s1.N (s1.I 8) ft L t := (TRT_mono S.2.2.2.1.2.2.2.1 (fun k k0 k1 => KST_D P S ⟨k0, k1⟩) (fun _ _ => rfl) t).1 L h
theorem kq_read (z : Value) (d : Nat) {o : Int} (P : KPS c hp s NM) (S : KST c hp s h1 s1 α β γ) (hu : s1.I 8 = u) (l : u ≤ 25000) (ho : OB s o) (w1 : WD (SD s) o ≤ 1990) : xx_cl (xt_P z) (d + 7) 211 [.ref (c + 25), .int (iI o)] h1 (fun v h2 => ∃ s2 : KS, STE c h1 s1 h2 s2 2 (WD (SD s) o + 1) ∧ ((v = some .null ∧ sp_tm NM.2.2.1 (DK s.N o) = none) ∨ ∃ (a : Nat) (n : Int) (f : Int → Int), v = some (.ref a) ∧ n ≤ WD (SD s) o ∧ h1.length ≤ a ∧ TM c h2 s2 u a n f ∧ ∃ t : ob_T, sp_tm NM.2.2.1 (DK s.N o) = some t ∧ TRT s2.N (s2.I 8) NM.2.2.1 (rl n f) t)) := by
  obtain ⟨b1, b2, b3, b4⟩ := KST_BF P S hu
  have F := S.2.2.2.1
  have e := (PFR_WD F P.2.2.1 ho).1
  have u38 := KB_38 S.2.1
  have w0 := WD_1 (I := UI s) P.2.2.1.1 ho.1 ho.2
  have KN := KST_KNT P S
  have D8 := KST_D P S ho
  have hno : ∀ i : Int, 0 ≤ i → i < s1.I 27 → 2 ≠ (NM.1 i).1 := by
    intro i i0 i1
    obtain ⟨a, m, g, n, f, cb, -, ⟨pq, ta, -, -, -, -, -, -, q, -⟩, -⟩ := b1 i i0 i1
    omega
  obtain ⟨hH, fq⟩ := KNT_HFT KN S.2.2.1 S.2.1 b4 hno
  refine cl_w ?_ (kg_read z d c o u h1 s1 S.1 S.2.1 S.2.2.1 NM b1 (by omega) (by omega) (by omega) b3 (Or.inl b4) NM.2.2.1 hH fq (KNT_ST KN S.2.2.1 S.2.1).1 (PFR_OB F ho) (by omega))
  rintro v h2 ⟨s2, K, B, F2, ⟨e2, X, ns⟩ | ⟨a1, n, f, e2, l2, l3, X, T, en, TR⟩⟩
  · rw [D8] at ns
    exact ⟨s2, ⟨K, B, F2, kx_w X (by decide) (by omega)⟩, Or.inl ⟨e2, if_neg ns⟩⟩
  · rw [e] at l2
    rw [D8] at en TR
    have nn := TM_n T
    exact ⟨s2, ⟨K, B, F2, kx_w X (by omega) (by omega)⟩, Or.inr ⟨a1, n, f, e2, l2, l3, T, _, if_pos (by omega), by rw [F2.1, F2.2.2.2 8 (by decide) (by decide)]; exact TR⟩⟩
theorem kq_readM (z : Value) (d : Nat) {o : Int} (P : KPS c hp s NM) (S : KST c hp s h1 s1 α β γ) (hu : s1.I 8 = u) (l : u ≤ 25000) (ho : OB s o) (w1 : WD (SD s) o ≤ 1990) : xx_cl (xt_P z) (d + 7) 211 [.ref (c + 25), .int (iI o)] h1 (fun v h2 => ∃ (v1 : Value) (s2 : KS), v = some v1 ∧ STE c h1 s1 h2 s2 2 (WD (SD s) o + 1) ∧ ∃ R : Option (List Int), MTM c h2 s2 u v1 R ∧ OTR s2.N (s2.I 8) NM.2.2.1 R (sp_tm NM.2.2.1 (DK s.N o))) := by
  refine cl_w ?_ (kq_read z d P S hu l ho w1)
  rintro v h2 ⟨s2, E, ⟨e, ns⟩ | ⟨a1, n, f, e, -, -, T, t, et, TR⟩⟩
  · exact ⟨.null, s2, e, E, none, MTM_n, by rw [ns]; trivial⟩
  · exact ⟨.ref a1, s2, e, E, _, MTM_T T, by rw [et]; exact TR⟩
theorem KST_GR {g : Int} (S : KST c hp s h1 s1 α β γ) (K : KI c h2 s2) (B : KB s2) (C : CI s2) (X : kx c h1 s1 h2 s2 0 0) (G : KGR s1 s2 g) (Q : KQ s1 → KQ s2) : KST c hp s h2 s2 α β (γ + g) := ⟨K, B, C, PFR_tr S.2.2.2.1 (KGR_P G), kx_w (kx_tr S.2.2.2.2.1 X) (by omega) (by omega), by have := S.2.2.2.2.2.1; have := G.2.2.1; omega, fun q => Q (S.2.2.2.2.2.2 q)⟩
theorem kq_leafM (z : Value) (d : Nat) {t : Int} (K : KI c h1 s1) (B : KB s1) (hx : TVx u t) (ht : tk t = 0) : xx_cl (xt_P z) (d + 4) 258 [.ref (c + 25), .int (iI t)] h1 (fun v h2 => ∃ (v1 : Value) (s2 : KS), v = some v1 ∧ STE c h1 s1 h2 s2 2 121 ∧ MTM c h2 s2 u v1 (opR ([] ++ [t]))) := by
  refine cl_w ?_ (kg_leaf z d c u t h1 s1 K B hx ht)
  intro v h2 hq
  exact MKT_M hq
theorem MTM_0 (h : MTM c hp s u v R) (n : v = .null) : R = none := by
  rcases h with h | ⟨a1, n1, f1, rfl, -⟩
  · exact h.2
  · cases n
theorem mk2_n {F : List Int → List Int → Option (List Int)} (h : Ra = none ∨ Rb = none) : (Ra.bind (fun a => Rb.bind (fun b => F a b))) = none := by
  rcases h with rfl | rfl
  · rfl
  · cases Ra <;> rfl
theorem mk3_n {F : List Int → List Int → List Int → Option (List Int)} (h : Ra = none ∨ Rb = none ∨ Re = none) : (Ra.bind (fun a => Rb.bind (fun b => Re.bind (fun e => F a b e)))) = none := by
  rcases h with rfl | rfl | rfl
  · rfl
  · cases Ra <;> rfl
  · cases Ra <;> cases Rb <;> rfl
theorem kq_mk1 (z : Value) (d : Nat) {t : Int} {va : Value} (K : KI c h1 s1) (B : KB s1) (w0 : 0 ≤ t) (w1 : t < 67108864) (Va : MTM c h1 s1 u va Ra) (hx : TVx u (t * 32 + 1 * 4 + 2)) : xx_cl (xt_P z) (d + 4) 294 [.ref (c + 25), .int (iI t), va] h1 (fun v h2 => ∃ (v1 : Value) (s2 : KS), v = some v1 ∧ STE c h1 s1 h2 s2 2 121 ∧ MTM c h2 s2 u v1 (Ra.bind (fun a => opR ([] ++ [t * 32 + 1 * 4 + 2] ++ a)))) := by
  have Z := STE_w (STE_rf K B) (show 0 ≤ 2 by decide) (show 0 ≤ 121 by decide)
  by_cases n : va = .null
  · refine cl_w ?_ (kg_call1n z (d + 3) c t h1 va (MTM_r Va) n)
    rintro v h2 ⟨e, rfl⟩
    exact ⟨.null, s1, e, Z, Or.inl ⟨rfl, by rw [MTM_0 Va n]; rfl⟩⟩
  · obtain ⟨a1, n1, f1, rfl, T1, rfl⟩ := Va.resolve_left (fun q => n q.1)
    refine cl_w ?_ (kg_call1 z d c u t h1 s1 K B w0 w1 a1 n1 f1 T1 hx)
    intro v h2 hq
    exact MKT_M hq
theorem kq_mk2 (z : Value) (d : Nat) {t : Int} {va vb : Value} (K : KI c h1 s1) (B : KB s1) (w0 : 0 ≤ t) (w1 : t < 67108864) (Va : MTM c h1 s1 u va Ra) (Vb : MTM c h1 s1 u vb Rb) (hx : TVx u (t * 32 + 2 * 4 + 2)) : xx_cl (xt_P z) (d + 4) 259 [.ref (c + 25), .int (iI t), va, vb] h1 (fun v h2 => ∃ (v1 : Value) (s2 : KS), v = some v1 ∧ STE c h1 s1 h2 s2 2 121 ∧ MTM c h2 s2 u v1 (Ra.bind (fun a => Rb.bind (fun b => opR ([] ++ [t * 32 + 2 * 4 + 2] ++ a ++ b))))) := by
  have Z := STE_w (STE_rf K B) (show 0 ≤ 2 by decide) (show 0 ≤ 121 by decide)
  by_cases n : va = .null ∨ vb = .null
  · refine cl_w ?_ (kg_call2n z (d + 3) c t h1 va (MTM_r Va) vb (MTM_r Vb) n)
    rintro v h2 ⟨e, rfl⟩
    exact ⟨.null, s1, e, Z, Or.inl ⟨rfl, mk2_n (n.imp (MTM_0 Va) (MTM_0 Vb))⟩⟩
  · obtain ⟨a1, n1, f1, rfl, T1, rfl⟩ := Va.resolve_left (fun q => n (Or.inl q.1))
    obtain ⟨a2, n2, f2, rfl, T2, rfl⟩ := Vb.resolve_left (fun q => n (Or.inr q.1))
    refine cl_w ?_ (kg_call2 z d c u t h1 s1 K B w0 w1 a1 n1 f1 T1 a2 n2 f2 T2 hx)
    intro v h2 hq
    exact MKT_M hq
theorem kq_mk3 (z : Value) (d : Nat) {t : Int} {va vb ve : Value} (K : KI c h1 s1) (B : KB s1) (w0 : 0 ≤ t) (w1 : t < 67108864) (Va : MTM c h1 s1 u va Ra) (Vb : MTM c h1 s1 u vb Rb) (Ve : MTM c h1 s1 u ve Re) (hx : TVx u (t * 32 + 3 * 4 + 2)) : xx_cl (xt_P z) (d + 4) 295 [.ref (c + 25), .int (iI t), va, vb, ve] h1 (fun v h2 => ∃ (v1 : Value) (s2 : KS), v = some v1 ∧ STE c h1 s1 h2 s2 2 121 ∧ MTM c h2 s2 u v1 (Ra.bind (fun a => Rb.bind (fun b => Re.bind (fun e => opR ([] ++ [t * 32 + 3 * 4 + 2] ++ a ++ b ++ e)))))) := by
  have Z := STE_w (STE_rf K B) (show 0 ≤ 2 by decide) (show 0 ≤ 121 by decide)
  by_cases n : va = .null ∨ vb = .null ∨ ve = .null
  · refine cl_w ?_ (kg_call3n z (d + 3) c t h1 va (MTM_r Va) vb (MTM_r Vb) ve (MTM_r Ve) n)
    rintro v h2 ⟨e, rfl⟩
    exact ⟨.null, s1, e, Z, Or.inl ⟨rfl, mk3_n (n.imp (MTM_0 Va) (Or.imp (MTM_0 Vb) (MTM_0 Ve)))⟩⟩
  · obtain ⟨a1, n1, f1, rfl, T1, rfl⟩ := Va.resolve_left (fun q => n (Or.inl q.1))
    obtain ⟨a2, n2, f2, rfl, T2, rfl⟩ := Vb.resolve_left (fun q => n (Or.inr (Or.inl q.1)))
    obtain ⟨a3, n3, f3, rfl, T3, rfl⟩ := Ve.resolve_left (fun q => n (Or.inr (Or.inr q.1)))
    refine cl_w ?_ (kg_call3 z d c u t h1 s1 K B w0 w1 a1 n1 f1 T1 a2 n2 f2 T2 a3 n3 f3 T3 hx)
    intro v h2 hq
    exact MKT_M hq
theorem kq_mkn (z : Value) (d : Nat) {va : Value} (K : KI c h1 s1) (B : KB s1) (u2 : 17 ≤ u) (Va : MTM c h1 s1 u va Ra) : xx_cl (xt_P z) (d + 5) 273 [.ref (c + 25), va] h1 (fun v h2 => ∃ (v1 : Value) (s2 : KS), v = some v1 ∧ STE c h1 s1 h2 s2 2 121 ∧ MTM c h2 s2 u v1 (ntO Ra)) := by
  have Z := STE_w (STE_rf K B) (show 0 ≤ 2 by decide) (show 0 ≤ 121 by decide)
  rcases Va with ⟨rfl, rfl⟩ | ⟨a1, n1, f1, rfl, T1, rfl⟩
  · refine cl_w ?_ (kg_notn z (d + 4) c h1)
    rintro v h2 ⟨e, rfl⟩
    exact ⟨.null, s1, e, Z, Or.inl ⟨rfl, rfl⟩⟩
  · refine cl_w ?_ (kg_not z d c u h1 s1 K B u2 a1 n1 f1 T1)
    rintro v h2 ⟨N, -, hq⟩
    exact MKT_M hq
theorem kq_addC (z : Value) (d : Nat) (C : CL c h1 s1 u x b Z) (V : MTM c h1 s1 u v R) : xx_cl (xt_P z) (d + 3) 261 [.ref x, v] h1 (fun r h2 => r = none ∧ KFE x h1 h2 ∧ ∃ (b1 : Int) (Z1 : List (List Int)), (b1, Z1) = clO (b, Z) R ∧ CL c h2 s1 u x b1 Z1) := by
  rcases V with ⟨rfl, rfl⟩ | ⟨a1, n1, f1, rfl, T1, rfl⟩
  · refine cl_w ?_ (kh_addN z d c h1 s1 u x b Z C)
    rintro v h2 ⟨e, F, C1⟩
    exact ⟨e, F, _, _, rfl, C1⟩
  · exact kh_addC z d c h1 s1 u x b Z C a1 n1 f1 T1
theorem kq_fail (z : Value) (d : Nat) {j : Nat} {p : Int} (S : KST c hp s h1 s1 α β γ) (hj : j = 18 ∨ j = 19) (K : KI c h2 (s1.wI j p)) (X : kx c h1 s1 h2 (s1.wI j p) 0 0) (p0 : -2147483648 ≤ p) (p1 : p ≤ 2147483647) (l1 : α ≤ 100 * w) (l2 : β ≤ 700 * w) (l3 : γ ≤ w) (hρ : ρ = none) (hσ : s1.I 17 = σ) : PRP c hp s w ft ρ σ (some .null) h2 := ⟨_, Or.inl ⟨rfl, hρ, (by rcases hj with rfl | rfl <;> exact hσ), KST_w (KST_wI S (by omega) K X p0 p1) l1 l2 l3⟩⟩
theorem kq_failAtP (z : Value) (d : Nat) {p : Int} (S : KST c hp s h1 s1 α β γ) (p0 : -2147483648 ≤ p) (p1 : p ≤ 2147483647) (l1 : α ≤ 100 * w) (l2 : β ≤ 700 * w) (l3 : γ ≤ w) (hρ : ρ = none) (hσ : s1.I 17 = σ) : xx_cl (xt_P z) (d + 1) 248 [.ref (c + 30), .int (iI p)] h1 (fun v h2 => v = some .null ∧ PRP c hp s w ft ρ σ (some .null) h2) := by
  refine cl_w ?_ (kq_failAt z d c p h1 s1 S.1)
  rintro v h2 ⟨e, K, X⟩
  exact ⟨e, kq_fail z d S (Or.inr rfl) K X p0 p1 l1 l2 l3 hρ hσ⟩
theorem kq_failByP (z : Value) (d : Nat) {p : Int} (S : KST c hp s h1 s1 α β γ) (p0 : -2147483648 ≤ p) (p1 : p ≤ 2147483647) (l1 : α ≤ 100 * w) (l2 : β ≤ 700 * w) (l3 : γ ≤ w) (hρ : ρ = none) (hσ : s1.I 17 = σ) : xx_cl (xt_P z) (d + 1) 246 [.ref (c + 30), .int (iI p)] h1 (fun v h2 => v = some .null ∧ PRP c hp s w ft ρ σ (some .null) h2) := by
  refine cl_w ?_ (kq_failBy z d c p h1 s1 S.1)
  rintro v h2 ⟨e, K, X⟩
  exact ⟨e, kq_fail z d S (Or.inl rfl) K X p0 p1 l1 l2 l3 hρ hσ⟩
theorem kq_fin (z : Value) (d : Nat) (P : KPS c hp s NM) (S : KST c hp s h1 s1 α β γ) {Rs : List (Option (List Int))} {Ts : List (Option ob_T)} (C : CL c h1 s1 u x b Z) (hi : ITR s1.N (s1.I 8) NM.2.2.1 Rs Ts) (hz : (b, Z) = Rs.foldl clO (0, [])) (hρ : ρ = sp_cs2 (sp_cz Ts) (s1.I 17)) (hσ : s1.I 17 = σ) (hu : s1.I 8 = u) (hx : hp.length ≤ x) (l1 : α ≤ 100 * w - 386) (l2 : β ≤ 700 * w - 2390) (l3 : γ ≤ w) : xx_cl (xt_P z) (d + 2) 265 [.ref (c + 30), .ref x] h1 (fun v h2 => (v = some .null ∧ PRP c hp s w NM.2.2.1 ρ σ (some .null) h2) ∨ ∃ y : Nat, v = some (.ref y) ∧ PRP c hp s w NM.2.2.1 ρ σ (some (.ref y)) h2) := by
  have KN := KST_KNT P S
  have hD := (KNT_ST KN S.2.2.1 S.2.1).2
  have cf := CLF_cl hD KN.2.2.2.2 hi
  rw [← hz] at cf
  refine cl_w ?_ (kq_finished z d c h1 s1 u x b Z S.1 C)
  rintro v h2 (⟨e, K, X, b1⟩ | ⟨e, b0, rfl⟩)
  · rcases cf with ⟨b2, -⟩ | ⟨-, cn⟩
    · exact absurd (show b = 0 from b2) (by omega)
    · exact Or.inl ⟨e, kq_fail z d S (Or.inl rfl) K X (by decide) (by decide) (by omega) (by omega) l3 (by rw [hρ, cn]; rfl) hσ⟩
  · subst b0
    rcases cf with ⟨-, D1, cn, TR⟩ | ⟨b2, -⟩
    · exact Or.inr ⟨x, e, s1, Or.inr ⟨x, Z, D1, rfl, hx, by rw [hu]; exact C, ⟨TR, by rw [hρ, cn]; rfl⟩, KST_w S l1 l2 l3⟩⟩
    · exact absurd (show (0 : Int) = 1 from b2) (by decide)
theorem TVx_k {t n : Int} (u38 : 38 ≤ u) (um : u ≤ 25000) (t0 : 0 ≤ t) (t1 : t < 17) (n0 : 0 ≤ n) (n1 : n ≤ 7) (h3 : t = 3 → n = 3) (h5 : t = 5 → n = 2) : TVx u (t * 32 + n * 4 + 2) := (TVx_call t0 (by omega) n0 n1 h3 h5 (by omega)).1
end EA
theorem sm_lv {f : Int → Int} : ∀ {m : Nat}, (∀ i : Int, 0 ≤ i → i < m → tk (f i) = 0) → sm f m = -(m : Int)
  | 0, _ => rfl
  | m + 1, h => by
    show sm f m + (tk (f (m : Int)) - 1) = _
    rw [sm_lv (fun i a b => h i a (by omega)), h (m : Int) (by omega) (by omega)]
    omega
theorem RW6_lv {u w n : Int} {f : Int → Int} {s s1 : KS} {L : List Int} (h : RW6 u s w L) (i0 : 0 ≤ s.I 6) (w0 : n ≤ w + 1) (n0 : 0 ≤ n) (hV : ∀ k : Int, 0 ≤ k → k < n → TVx u (f k) ∧ tk (f k) = 0) (e1 : s1.I 6 = s.I 6 + n) (e2 : ∀ e : Int, 0 ≤ e → e < n → s1.A 6 (s.I 6 + e) = f e) (e3 : ∀ e : Int, e < s.I 6 → s1.A 6 e = s.A 6 e) : RW6 u s1 (w - n) (L ++ rl n f) := by
  obtain ⟨h1, h2, h3, h4⟩ := h
  have E : ∀ m : Nat, (m : Int) ≤ n → sm (s1.A 6) ((s.I 6).toNat + m) = w - m := by
    intro m hm
    rw [sm_cat (f := f) (fun i a b => by rw [show (((s.I 6).toNat : Nat) : Int) + i = s.I 6 + i by omega]; exact e2 i a (by omega)), sm_ext (g := s.A 6) (fun i a b => e3 i (by omega)), h2, sm_lv (fun i a b => (hV i a (by omega)).2)]
    omega
  refine ⟨fun k q => ?_, ?_, fun k p q => ?_, by rw [e1, rl_app (g := f) i0 n0 e2, ← h4, rl_ext (g := s.A 6) (fun i a b => e3 i b)]⟩
  · by_cases c : (k : Int) < s.I 6
    · rw [sm_ext (g := s.A 6) (fun i a b => e3 i (by omega))]
      exact h1 k c
    · have := E (k - (s.I 6).toNat) (by omega)
      rw [show (s.I 6).toNat + (k - (s.I 6).toNat) = k by omega] at this
      omega
  · have := E n.toNat (by omega)
    rw [e1, show (s.I 6 + n).toNat = (s.I 6).toNat + n.toNat by omega, this]
    omega
  · by_cases c : k < s.I 6
    · rw [e3 k c]
      exact h3 k p c
    · have := e2 (k - s.I 6) (by omega) (by omega)
      rw [show s.I 6 + (k - s.I 6) = k by omega] at this
      rw [this]
      exact (hV _ (by omega) (by omega)).1
theorem kb_row (z : Value) (d c : Nat) (u : Int) (hp : xx_H) (s : KS) (q : Nat) (n w : Int) (f : Int → Int) {L : List Int} (hK : KI c hp s) (hB : KB s) (hR : RW6 u s w L) (w0 : n ≤ w + 1) (hA : KAL hp q n f) (hk : kn c s q) (n1 : n ≤ 120) (hV : ∀ k : Int, 0 ≤ k → k < n → TVx u (f k) ∧ tk (f k) = 0) (l : s.I 6 ≤ 241) : xx_cl (xt_P z) (d + 2) 260 [.ref (c + 26), .ref q] hp (fun v h1 => v = none ∧ ∃ s1 : KS, KI c h1 s1 ∧ KB s1 ∧ kx c hp s h1 s1 0 0 ∧ TF s s1 ∧ s1.I 6 = s.I 6 + n ∧ RW6 u s1 (w - n) (L ++ rl n f)) := by
  have b4 := hB.2.2.2.1 6 (by decide)
  refine cl_w ?_ (kr_addAll_6 z d c q n f hp s hK hB hA hk n1 l)
  rintro v h1 ⟨q1, s1, q2, q3, q4, q5, q6, q7, q8⟩
  have e1 : s1.I 6 = s.I 6 + n := by rw [q6]; rfl
  exact ⟨q1, s1, q2, q3, q4, TF_row q5 (Or.inl rfl) q6, e1, RW6_lv hR b4.2.2.1 w0 hA.2.1.1 hV e1 q8 q7⟩
theorem kg_callOfItself (z : Value) (d c : Nat) (u : Int) (hp : xx_H) (s : KS) (hK : KI c hp s) (hB : KB s) (a : Nat) (k nm m : Int) (g : Int → Int) (n : Int) (f : Int → Int) (cb : Int) (um : u ≤ 67108864) (hF : FTH c hp s u a k nm m g n f cb) : xx_cl (xt_P z) (d + 4) 268 [.ref (c + 25), .ref a] hp (fun v h1 => ∃ (v1 : Value) (s2 : KS), v = some v1 ∧ STE c hp s h1 s2 2 121 ∧ MTM c h1 s2 u v1 (opR ([] ++ [fcl k m] ++ rl m g))) := by
  obtain ⟨pq, ta, F1, F2, F3, F4, F5, F6, F7, F8, F9, F10, F11⟩ := hF
  have V := TVx_call (u := u) (w := 17 + k) (t := m) (by omega) (by omega) (by omega) (by omega) (by omega) (by omega) um
  have tkm : tk (fcl k m) = m := tk_call (by omega) (by omega)
  have fr : -2147483648 ≤ fcl k m ∧ fcl k m ≤ 2147483647 := ⟨by unfold fcl; omega, by unfold fcl; omega⟩
  have hV : ∀ i : Int, 0 ≤ i → i < m → TVx u (g i) ∧ tk (g i) = 0 := by
    intro i i0 i1
    have h := F9 i i0 i1
    refine ⟨h.1, ?_⟩
    rcases h.1.2.2.1 with w | w
    · omega
    · exact w.2
  refine cl_go rfl ?_
  show xx_go (xt_P z) (d + 3) 268 0 [some (.ref (c + 25)), some (.ref a)] [] hp _
  refine go_a (pc' := 1) (ls' := [some (.ref (c + 25)), some (.ref a)]) (st' := [.ref (c + 25)]) rfl rfl ?_
  refine go_get (v := .ref (c + 26)) rfl (hK.1 16 (by decide)) rfl rfl ?_
  refine go_a (pc' := 5) (ls' := [some (.ref (c + 25)), some (.ref a)]) (st' := [.int (iI 0), .ref (c + 26)]) rfl rfl ?_
  refine go_v (m := 39) (as := [.ref (c + 26), .int (iI 0)]) (r := []) rfl rfl rfl (hK.1 17 (by decide)) rfl rfl (kb_cut z (d + 2) c u hp s hK hB) (fun v h1 hq => ?_)
  obtain ⟨rfl, s1, K1, B1, X1, G1, I1, R1⟩ := hq
  have f1 := (X1.2.1 a (List.getElem?_eq_some_iff.mp F1).1 F2).2.trans F1
  have k1 := (X1.2.1 a (List.getElem?_eq_some_iff.mp F1).1 F2).1
  obtain ⟨p1, pk1⟩ := KAL_kx F3 F4 X1
  show xx_go (xt_P z) (d + 3) 268 8 [some (.ref (c + 25)), some (.ref a)] [] h1 _
  refine go_a (pc' := 9) (ls' := [some (.ref (c + 25)), some (.ref a)]) (st' := [.ref (c + 25)]) rfl rfl ?_
  refine go_get (v := .ref (c + 26)) rfl (K1.1 16 (by decide)) rfl rfl ?_
  refine go_a (pc' := 13) (ls' := [some (.ref (c + 25)), some (.ref a)]) (st' := [.ref a, .ref (c + 26)]) rfl rfl ?_
  refine go_get (v := .int (iI (fcl k m))) rfl f1 rfl rfl ?_
  refine go_v (m := 35) (as := [.ref (c + 26), .int (iI (fcl k m))]) (r := []) rfl rfl rfl (K1.1 17 (by decide)) rfl rfl (kb_add z (d + 1) c u h1 s1 (fcl k m) 0 K1 B1 R1 (by decide) V.1 (by omega)) (fun v h2 hq => ?_)
  obtain ⟨rfl, s2, K2, B2, X2, G2, I2, R2, -⟩ := hq
  have f2 := (X2.2.1 a (List.getElem?_eq_some_iff.mp f1).1 k1).2.trans f1
  have k2 := (X2.2.1 a (List.getElem?_eq_some_iff.mp f1).1 k1).1
  obtain ⟨p2, pk2⟩ := KAL_kx p1 pk1 X2
  show xx_go (xt_P z) (d + 3) 268 19 [some (.ref (c + 25)), some (.ref a)] [] h2 _
  rw [tkm] at R2
  refine go_a (pc' := 20) (ls' := [some (.ref (c + 25)), some (.ref a)]) (st' := [.ref (c + 25)]) rfl rfl ?_
  refine go_get (v := .ref (c + 26)) rfl (K2.1 16 (by decide)) rfl rfl ?_
  refine go_a (pc' := 24) (ls' := [some (.ref (c + 25)), some (.ref a)]) (st' := [.ref a, .ref (c + 26)]) rfl rfl ?_
  refine go_get (v := .ref pq) rfl f2 rfl rfl ?_
  refine go_v (m := 260) (as := [.ref (c + 26), .ref pq]) (r := []) rfl rfl rfl (K2.1 17 (by decide)) rfl rfl (kb_row z (d + 1) c u h2 s2 pq m (0 + m - 1) g K2 B2 R2 (by omega) p2 pk2 (by omega) hV (by omega)) (fun v h3 hq => ?_)
  obtain ⟨rfl, s3, K3, B3, X3, G3, I3, R3⟩ := hq
  rw [show 0 + m - 1 - m = -1 by omega] at R3
  show xx_go (xt_P z) (d + 3) 268 30 [some (.ref (c + 25)), some (.ref a)] [] h3 _
  refine go_a (pc' := 31) (ls' := [some (.ref (c + 25)), some (.ref a)]) (st' := [.ref (c + 25)]) rfl rfl ?_
  refine go_v (m := 223) (as := [.ref (c + 25)]) (r := []) rfl rfl rfl (K3.1 16 (by decide)) rfl rfl (kb_made z d c u h3 s3 K3 B3 R3) (fun v h4 hq => ?_)
  obtain ⟨v1, s4, rfl, E4, M4⟩ := MKT_M (MKT_fin (N := m + 1) B3 K3 (kx_tr (kx_tr X1 X2) X3) (TF_tr (TF_tr G1 G2) G3) (by omega) hq R3.2.2.2)
  show xx_go (xt_P z) (d + 3) 268 34 [some (.ref (c + 25)), some (.ref a)] [v1] h4 _
  rcases MTM_r M4 with rfl | ⟨k4, rfl⟩
  · exact go_r rfl rfl rfl rfl rfl rfl ⟨_, s4, rfl, E4, M4⟩
  · exact go_r rfl rfl rfl rfl rfl rfl ⟨_, s4, rfl, E4, M4⟩
