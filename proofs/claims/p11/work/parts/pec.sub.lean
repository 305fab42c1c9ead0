def PRC (z : Value) (D c : Nat) (e : Int) (NM : BKM) (fu : Int) (F : ob_T → Int → Option (List ob_T × Int)) (G : ob_T → Int → Int) : Prop := ∀ (hp : xx_H) (s : KS) (x : Int), KPS c hp s NM → s.I 16 = fu → OB s x → WD (SD s) x ≤ 1000 → s.I 8 + WD (SD s) x ≤ 25000 → xx_cl (xt_P z) D 245 [.ref (c + 30), .int (iI x), .int (iI e)] hp (fun v h1 => PRP c hp s (WD (SD s) x) NM.2.2.1 (F (DK s.N x) (s.I 17)) (G (DK s.N x) (s.I 17)) v h1)
section EC
variable {c x y : Nat} {hp h1 h2 : xx_H} {s s1 s2 : KS} {α β γ u w b β0 : Int} {NM : BKM} {v : Value} {z : Value} {D : Nat} {e o fu : Int} {m : Int} {O : Int → Option Nat} {nO : Int → Int} {fO : Int → Int → Int} {F : ob_T → Int → Option (List ob_T × Int)} {G : ob_T → Int → Int} {Z : List (List Int)} {ft : Nat → Int}
theorem KST_16 (S : KST c hp s h1 s1 α β γ) (h : s.I 16 = fu) : s1.I 16 = fu := (S.2.2.2.1.2.2.1 16 (by decide) (by decide) (by decide) (by decide) (by decide) (by decide)).trans h
theorem KST_TRO (P : KPS c hp s NM) (S : KST c hp s h1 s1 α β γ) : ∀ {Z : List (List Int)} {D : List ob_T}, TRO s.N (s.I 8) ft Z D → TRO s1.N (s1.I 8) ft Z D
  | [], [], _ => trivial
  | [], _ :: _, h => absurd h id
  | _ :: _, [], h => absurd h id
  | _ :: _, _ :: _, h => ⟨KST_TRT P S h.1, KST_TRO P S h.2⟩
theorem KST_OTR (P : KPS c hp s NM) (S : KST c hp s h1 s1 α β γ) : ∀ {R : Option (List Int)} {X : Option ob_T}, OTR s.N (s.I 8) ft R X → OTR s1.N (s1.I 8) ft R X
  | none, none, _ => trivial
  | some _, none, h => absurd h id
  | none, some _, h => absurd h id
  | some _, some _, h => KST_TRT P S h
theorem KST_ITR (P : KPS c hp s NM) (S : KST c hp s h1 s1 α β γ) : ∀ {R : List (Option (List Int))} {T : List (Option ob_T)}, ITR s.N (s.I 8) ft R T → ITR s1.N (s1.I 8) ft R T
  | [], [], _ => trivial
  | [], _ :: _, h => absurd h id
  | none :: _, [], h => absurd h id
  | some _ :: _, [], h => absurd h id
  | none :: R, none :: T, h => KST_ITR P S (R := R) (T := T) h
  | some _ :: R, some _ :: T, h => ⟨KST_TRT P S h.1, KST_ITR P S (R := R) (T := T) h.2⟩
  | none :: _, some _ :: _, h => absurd h id
  | some _ :: _, none :: _, h => absurd h id
theorem kq_sub (R : PRC z D c e NM fu F G) (P : KPS c hp s NM) (S : KST c hp s h1 s1 α β γ) (hf : s.I 16 = fu) (ho : OB s o) (w1 : WD (SD s) o ≤ 1000) (l : s.I 8 + γ + WD (SD s) o ≤ 25000) : xx_cl (xt_P z) D 245 [.ref (c + 30), .int (iI o), .int (iI e)] h1 (fun v h2 => ∃ s2 : KS, (v = some .null ∧ F (DK s.N o) (s1.I 17) = none ∧ s2.I 17 = G (DK s.N o) (s1.I 17) ∧ KST c hp s h2 s2 (α + 100 * WD (SD s) o) (β + 700 * WD (SD s) o) (γ + WD (SD s) o) ∧ KST c h1 s1 h2 s2 (100 * WD (SD s) o) (700 * WD (SD s) o) (WD (SD s) o)) ∨ ∃ (y : Nat) (Z : List (List Int)) (D1 : List ob_T), v = some (.ref y) ∧ h1.length ≤ y ∧ CL c h2 s2 (s2.I 8) y 0 Z ∧ (TRO s2.N (s2.I 8) NM.2.2.1 Z D1 ∧ F (DK s.N o) (s1.I 17) = some (D1, s2.I 17)) ∧ KST c hp s h2 s2 (α + (100 * WD (SD s) o - 386)) (β + (700 * WD (SD s) o - 2390)) (γ + WD (SD s) o) ∧ s1.I 8 ≤ s2.I 8 ∧ KPS c h1 s1 NM ∧ KST c h1 s1 h2 s2 (100 * WD (SD s) o - 386) (700 * WD (SD s) o - 2390) (WD (SD s) o)) := by
  have GF := S.2.2.2.1
  have ew := (PFR_WD GF P.2.2.1 ho).1
  have l8 := S.2.2.2.2.2.1
  have w0 := WD_1 (I := UI s) P.2.2.1.1 ho.1 ho.2
  have P1 := KST_PS P S (by omega)
  refine cl_w ?_ (R h1 s1 o P1 (KST_16 S hf) (PFR_OB GF ho) (by omega) (by omega))
  rw [ew, KST_D P S ho]
  rintro v h2 ⟨s2, ⟨e1, en, eg, S2⟩ | ⟨y, Z, D1, e1, hy, C, ⟨TR, es⟩, S2⟩⟩
  · exact ⟨s2, Or.inl ⟨e1, en, eg, KST_tr S S2, S2⟩⟩
  · exact ⟨s2, Or.inr ⟨y, Z, D1, e1, hy, C, ⟨TR, es⟩, KST_tr S S2, S2.2.2.2.1.2.2.2.1, P1, S2⟩⟩
theorem CLS_fe (hy : CL c hp s w y β0 Z) (F : KFE y hp h1) (ne : x ≠ y) (h : CLS c hp s u x m α b O nO fO) : CLS c h1 s u x m α b O nO fO := by
  obtain ⟨_, _, _, _, _, g, -⟩ := hy
  exact KFE_CLS g.1 g.2.1 F ne h
theorem kq_partT (z : Value) (d : Nat) {a : Nat} {n p : Int} {f : Int → Int} (K : KI c h1 s1) (B : KB s1) (T : TM c h1 s1 u a n f) (p0 : 1 ≤ p) (p1 : p < n) : xx_cl (xt_P z) (d + 4) 274 [.ref a, .int (iI p)] h1 (fun v h2 => ∃ (a1 : Nat) (n1 : Int) (f1 : Int → Int), v = some (.ref a1) ∧ STE c h1 s1 h2 s1 2 121 ∧ TM c h2 s1 u a1 n1 f1 ∧ n1 = bh n f p - p ∧ f1 = fun k => f (k + p)) := by
  obtain ⟨k, rfl⟩ : ∃ k : Nat, p = (k : Int) := ⟨p.toNat, by omega⟩
  refine cl_w ?_ (kb_part z d c a n u k f h1 s1 K B T (by omega) p1)
  rintro v h2 ⟨e, K2, X, T2⟩
  have := TM_n T2
  exact ⟨_, _, _, e, ⟨K2, B, TF_rf, kx_w X (by omega) (by omega)⟩, T2, rfl, rfl⟩
theorem RPL_M {V : List Int} {v : Option Value} (h : RPL c hp s u V v h1) : ∃ (v1 : Value) (s2 : KS), v = some v1 ∧ STE c hp s h1 s2 2 121 ∧ MTM c h1 s2 u v1 (opR V) := by
  obtain ⟨s2, K, B, F, ⟨e, X, lV⟩ | ⟨a1, N, g, e, l, -, X, T, rV⟩⟩ := h
  · exact ⟨.null, s2, e, ⟨K, B, F, kx_w X (by decide) (by decide)⟩, Or.inl ⟨rfl, opR_n lV⟩⟩
  · exact ⟨.ref a1, s2, e, ⟨K, B, F, kx_w X (by omega) (by omega)⟩, by rw [opR_s rV l]; exact MTM_T T⟩
end EC
section EQP
variable {N : Int → Int} {U : Int} {ft : Nat → Int} {n : Int} {f : Int → Int}
theorem TRT_eqp (hI : HI ft) (f4 : ft 26209844 = 138) {r : List Int} {t : ob_T} (h : TRT N U ft (138 :: r) t) : ∃ (x y : ob_T) (Rx Ry : List Int), t = sp_eq x y ∧ r = Rx ++ Ry ∧ TRT N U ft Rx x ∧ TRT N U ft Ry y := by
  rcases TRT_hd h with ⟨k, k0, e1, e2⟩ | ⟨k, v, k0, e1, e2, e3, e4, e5⟩ | ⟨v, b, r', e1, e2, e3, e4, e5, e6⟩
  · injection e1 with e1 e9
    omega
  · injection e1 with e1 e9
    omega
  · injection e4 with e4 e9
    have ev : v = 26209844 := hI.2.1 v 26209844 e3 (by rw [f4]; exact e4.symm)
    rw [ev, f4] at e6
    rw [ev] at e1
    rcases TRL_ct e5 with ⟨a1, -⟩ | ⟨x, b2, L1, L2, a1, a2, a3, a4⟩
    · rw [a1] at e6
      exact absurd e6 (show ¬ (0 : Int) = 138 / 4 % 8 by decide)
    · rcases TRL_ct a4 with ⟨d1, -⟩ | ⟨y, b3, L3, L4, d1, d2, d3, d4⟩
      · rw [a1, d1] at e6
        exact absurd e6 (show ¬ (1 + 0 : Int) = 138 / 4 % 8 by decide)
      · rcases TRL_ct d4 with ⟨i1, i2⟩ | ⟨w, b5, L7, L8, i1, -⟩
        · refine ⟨x, y, L1, L3, ?_, ?_, a3, d3⟩
          · rw [e1, a1, d1, i1]
            rfl
          · rw [e9, a2, d2, i2, List.append_nil]
        · rw [a1, d1, i1] at e6
          have e6 : 1 + (1 + (1 + (sp_ts ft b5).2.2)) = (138 : Int) / 4 % 8 := e6
          have := (sp_ts_nn (ft := ft) b5).2.2
          omega
theorem TRT_neq (hI : HI ft) (f4 : ft 26209844 = 138) {x : Int} {r : List Int} {t : ob_T} (h : TRT N U ft (x :: r) t) (ne : x ≠ 138) : sp_eqp t = none := by
  rcases TRT_hd h with ⟨k, k0, e1, e2⟩ | ⟨k, v, k0, e1, e2, e3, e4, e5⟩ | ⟨v, b, r', e1, e2, e3, e4, e5, e6⟩
  · rw [e2]
    unfold sp_cs
    split
    · rename_i hb
      match hd : DK N k with
      | .num _ => rfl
      | .var _ => rfl
      | .sub _ _ => rfl
      | .neg _ => rfl
      | .mulL _ _ => rfl
      | .mulR _ _ => rfl
      | .add _ _ => rw [hd] at hb; exact absurd hb Bool.false_ne_true
    · rfl
  · rw [e3]
    rfl
  · injection e4 with e4 e9
    rw [e1]
    have nv : v ≠ 26209844 := fun q => ne (by rw [e4, q, f4])
    match b with
    | .add a (.add b1 c1) => exact if_neg nv
    | .add a (.num _) => rfl
    | .add a (.var _) => rfl
    | .add a (.sub _ _) => rfl
    | .add a (.neg _) => rfl
    | .add a (.mulL _ _) => rfl
    | .add a (.mulR _ _) => rfl
    | .num _ => rfl
    | .var _ => rfl
    | .sub _ _ => rfl
    | .neg _ => rfl
    | .mulL _ _ => rfl
    | .mulR _ _ => rfl
theorem eq_tr (hW : WFT n f) (n1 : 1 ≤ n) (hI : HI ft) (f4 : ft 26209844 = 138) {t : ob_T} (h : TRT N U ft (rl n f) t) (e : f 0 = 138) : ∃ x y : ob_T, t = sp_eq x y ∧ TRT N U ft (rl (bh n f 1 - 1) (fun k => f (k + 1))) x ∧ TRT N U ft (rl (bh n f (bh n f 1) - bh n f 1) (fun k => f (k + bh n f 1))) y ∧ (1 < n ∧ 1 ≤ bh n f 1 ∧ bh n f 1 < n) := by
  have rc := rl_cons (f := f) n1
  rw [e] at rc
  have h' := h
  rw [rc] at h'
  obtain ⟨x, y, Rx, Ry, e1, e2, e3, e4⟩ := TRT_eqp hI f4 h'
  have A0 := TRA_0 h
  have Ax := TRA_sub A0 (R1 := [138]) (R2 := Rx) (R3 := Ry) (by rw [rc, e2]; rfl) e3
  have Ay := TRA_sub A0 (R1 := 138 :: Rx) (R2 := Ry) (R3 := []) (by rw [rc, e2, List.append_nil]; rfl) e4
  have lx := TRA_lt Ax
  have ly := TRA_lt Ay
  have bx := TRA_bp hW Ax
  have by' := TRA_bp hW Ay
  have px : ((0 + [(138 : Int)].length : Nat) : Int) = 1 := rfl
  simp only [List.length_cons, List.length_nil, Nat.zero_add] at lx ly bx by' Ax Ay
  obtain ⟨q1, -⟩ := bp_W hW (p := 1) (by omega)
  obtain ⟨q2, -⟩ := bp_W hW (p := Rx.length + 1) (by omega)
  have b1 : bh n f 1 = ((Rx.length + 1 : Nat) : Int) := by
    have q1' : bh n f 1 = (bp n f 1 : Int) := q1
    rw [q1', bx]
    omega
  have rx := TRA_row Ax
  have ry := TRA_row Ay
  refine ⟨x, y, e1, ?_, ?_, by omega⟩
  · have p := rl_part (n := n) (f := f) (p := 1) (e := 1 + Rx.length) (by omega) (by omega)
    rw [show 1 + Rx.length - 1 = Rx.length by omega, rx] at p
    rw [b1, show ((Rx.length + 1 : Nat) : Int) = ((1 + Rx.length : Nat) : Int) by omega]
    have g : rl (((1 + Rx.length : Nat) : Int) - 1) (fun k => f (k + 1)) = Rx := p
    rw [g]
    exact e3
  · have p := rl_part (n := n) (f := f) (p := Rx.length + 1) (e := Rx.length + 1 + Ry.length) (by omega) (by omega)
    rw [show Rx.length + 1 + Ry.length - (Rx.length + 1) = Ry.length by omega, ry] at p
    rw [b1, q2, by']
    rw [p]
    exact e4
end EQP
