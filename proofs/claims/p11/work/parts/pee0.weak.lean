section ED
variable {c x y t : Nat} {hp h1 h2 : xx_H} {s s1 s2 : KS} {α β γ u u1 w b β0 : Int} {NM : BKM} {Z : List (List Int)} {v : Value} {o m k : Int} {q B : Nat} {O : Int → Option Nat} {nO : Int → Int} {fO : Int → Int → Int}
theorem KST_F1 (S : KST c hp s h1 s1 α β γ) (kt : kn c s1 t) (h12 : 12 ≤ t) (ht : hp.length ≤ t) (F : KF1 t h1 h2) : KST c hp s h2 s1 α β γ := ⟨KF1_KI S.1 kt h12 F, S.2.1, S.2.2.1, S.2.2.2.1, KF1_kx S.2.2.2.2.1 ht F, S.2.2.2.2.2⟩
theorem KST_12 (S : KST c hp s h1 s1 α β γ) : 12 ≤ h1.length := (ki_12 S.1).2
theorem OTK_u (h : OTK c hp s u t m k B O nO fO) (hu : u ≤ u1) : OTK c hp s u1 t m k B O nO fO := by
  obtain ⟨a1, a2, a3, a4⟩ := h
  refine ⟨a1, a2, a3, fun j j0 j1 => ?_⟩
  obtain ⟨a, p, q, r⟩ := a4 j j0 j1
  exact ⟨a, p, q, TM_u r hu⟩
theorem OTK_fe (hy : CL c hp s w y β0 Z) (F : KFE y hp h1) (ne : t ≠ y ∧ t ≠ y + 1) (h : OTK c hp s u t m k B O nO fO) : OTK c h1 s u t m k B O nO fO := by
  obtain ⟨a1, a2, a3, a4⟩ := h
  refine ⟨(F.2.2 t ne.1 ne.2).trans a1, a2, a3, fun j j0 j1 => ?_⟩
  obtain ⟨a, p, q, r⟩ := a4 j j0 j1
  exact ⟨a, p, q, TM_fe hy F r⟩
theorem OTK_F1 {t4 : Nat} (F : KF1 t4 hp h1) (ne : t ≠ t4) (hB : t4 < B) (h : OTK c hp s u t m k B O nO fO) : OTK c h1 s u t m k B O nO fO := by
  obtain ⟨a1, a2, a3, a4⟩ := h
  refine ⟨(F.2.2 t ne).trans a1, a2, a3, fun j j0 j1 => ?_⟩
  obtain ⟨a, p, q, r⟩ := a4 j j0 j1
  exact ⟨a, p, q, KF1_TM F r (by omega) (by omega)⟩
theorem KAL_fe {n : Int} {f : Int → Int} (hy : CL c hp s w y β0 Z) (F : KFE y hp h1) (h : KAL hp t n f) : KAL h1 t n f := by
  obtain ⟨_, _, _, _, _, g, -⟩ := hy
  refine ⟨(F.2.2 t (fun e => ?_) (fun e => ?_)).trans h.1, h.2⟩
  · rw [e] at h
    have := h.1.symm.trans g.1
    cases this
  · rw [e] at h
    have := h.1.symm.trans g.2.1
    cases this
theorem OTK_nul (h : OTK c hp s u t m k B O nO fO) (j : Int) : KF1 t hp (hp.set t (.inl (.object "ClauseKernel$Term", xa_r m.toNat (so O j none)))) := KF1_set h.1 (by show (xa_r _ _).length = (xa_r _ _).length; rw [xa_r_len, xa_r_len])
theorem kq_first (z : Value) (d : Nat) {o : Int} (S : KST c hp s h1 s1 α β γ) (hC : CI s) (ho : OB s o) (hL : isL (SD s) q o) {j : Nat} (hj : j < q) : xx_cl (xt_P z) (d + 1) 197 [.ref (c + 4), .int (iI (rt (SD s) j o))] h1 (fun v h2 => v = some (.int (iI (pi s j o))) ∧ h2 = h1) := by
  have F := S.2.2.2.1
  have l := isL_rt (I := UI s) hC.1 q j o ho.1 ho.2 hL hj
  have l8 := F.2.2.2.1
  have o2 := ho.2
  have i8 := S.2.1.2.1 8
  have e1 := (PFR_SD F (k := rt (SD s) j o) (by omega)).1
  have e2 := (fst_eq (s := s1) (k := rt (SD s) j o) (by omega) (by omega) (by omega)).1
  refine cl_w ?_ (kc_first z d c (rt (SD s) j o) h1 s1 S.1 S.2.1 (by omega) (by omega))
  rintro v h2 ⟨e, e3⟩
  rw [e2, e1] at e
  exact ⟨e, e3⟩
theorem kq_rest (z : Value) (d : Nat) {o : Int} (S : KST c hp s h1 s1 α β γ) (hC : CI s) (ho : OB s o) (hL : isL (SD s) q o) {j : Nat} (hj : j < q) : xx_cl (xt_P z) (d + 1) 200 [.ref (c + 4), .int (iI (rt (SD s) j o))] h1 (fun v h2 => v = some (.int (iI (rt (SD s) (j + 1) o))) ∧ h2 = h1) := by
  have F := S.2.2.2.1
  have l := isL_rt (I := UI s) hC.1 q j o ho.1 ho.2 hL hj
  have l8 := F.2.2.2.1
  have o2 := ho.2
  have i8 := S.2.1.2.1 8
  have e0 := PFR_SD F (k := rt (SD s) j o) (by omega)
  have e1 := e0.1
  have e2 := (fst_eq (s := s1) (k := rt (SD s) j o) (by omega) (by omega) (by omega)).2
  refine cl_w ?_ (kc_rest z d c (rt (SD s) j o) h1 s1 S.1 S.2.1 (by omega) (by omega))
  rintro v h2 ⟨e, e3⟩
  rw [e2, e0.2] at e
  exact ⟨by rw [rt_succ]; exact e, e3⟩
theorem PFR_isLb (h : PFR s s1) (hC : CI s) : ∀ {n : Nat} {k : Int}, OB s k → isL (SD s1) n k → isL (SD s) n k
  | 0, _, _, hL => hL
  | n + 1, k, ho, hL => by
    have e := PFR_SD h ho.2
    obtain ⟨a1, a2⟩ := hL
    rw [e.1] at a1
    rw [e.2] at a2
    have w := hC.1.2 k ho.1 ho.2
    exact ⟨a1, PFR_isLb h hC ⟨w.2.2.1, by have := w.2.2.2.2 a1; have := ho.2; omega⟩ a2⟩
theorem kq_len (z : Value) (d : Nat) {o : Int} (P : KPS c hp s NM) (S : KST c hp s h1 s1 α β γ) (ho : OB s o) : xx_cl (xt_P z) (d + 2) 198 [.ref (c + 4), .int (iI o)] h1 (fun v h2 => (∃ n : Int, v = some (.int (iI n)) ∧ (-1 ≤ n ∧ n ≤ 140000) ∧ ((n = -1 ∧ sp_pl (DK s.N o) = false) ∨ ∃ q : Nat, n = q ∧ isL (SD s) q o)) ∧ h2 = h1) := by
  have hC := P.2.2.1
  have F := S.2.2.2.1
  refine cl_w ?_ (kc_listLength z d c o h1 s1 S.1 S.2.1 S.2.2.1 (PFR_OB F ho))
  rintro v h2 ⟨⟨n, e, hn⟩, e2⟩
  refine ⟨⟨n, e, ?_⟩, e2⟩
  rcases hn with ⟨w, wn⟩ | ⟨m, w, hL⟩
  · refine ⟨by omega, Or.inl ⟨w, ?_⟩⟩
    have KN := KST_KNT P S
    have ob := PFR_OB F ho
    have q := ST_isL (KNT_ST KN S.2.2.1 S.2.1).1 (sp_as (DK s1.N o)).length o ob.1 ob.2
    rw [← KST_D P S ho]
    cases hb : sp_pl (DK s1.N o) with
    | false => rfl
    | true => exact absurd (q.mpr ⟨hb, rfl⟩) (wn _)
  · have L := PFR_isLb F hC ho hL
    have l := isL_len (I := UI s) hC.1 _ m o (Nat.le_refl _) ho.1 ho.2 L
    have l8 : s.I 8 ≤ 140000 := hC.1.1
    have := ho.2
    exact ⟨by omega, Or.inr ⟨m, w, L⟩⟩
theorem VD_W (hC : CI s) (ho : OB s o) : VD (SD s) o ≤ WD (SD s) o + 1 := VD_le (I := UI s) hC.1 ho.1 ho.2 (CI_n0 hC) (by have := hC.2.2 2 (by decide) (by decide); exact (SD_at (by omega)).1)
theorem KAL_set {n : Int} {g : Int → Int} {e x : Int} (h : KAL hp t n g) (e0 : 0 ≤ e) (x0 : -2147483648 ≤ x) (x1 : x ≤ 2147483647) : KF1 t hp (hp.set t (.inl (.int, (xa_f n.toNat g).set e.toNat (.int (iI x))))) ∧ KAL (hp.set t (.inl (.int, (xa_f n.toNat g).set e.toNat (.int (iI x))))) t n (sf g e x) := by
  refine ⟨KF1_set h.1 (sz_set _ _ _), ?_, h.2.1, fun k => ?_⟩
  · rw [xa_f_set e0]
    exact List.getElem?_set_self (List.getElem?_eq_some_iff.mp h.1).1
  · by_cases ck : k = e
    · rw [ck, sf_self]
      exact ⟨x0, x1⟩
    · rw [sf_ne ck]
      exact h.2.2 k
end ED

theorem drop_get {α : Type} {l : List α} {k : Nat} {a : α} (h : l[k]? = some a) : l.drop k = a :: l.drop (k + 1) := by
  obtain ⟨hk, e⟩ := List.getElem?_eq_some_iff.mp h
  rw [List.drop_eq_getElem_cons hk, e]
theorem AS_drop {c : Nat} {hp : xx_H} {s : KS} {NM : BKM} {o : Int} {q : Nat} (P : KPS c hp s NM) (ho : OB s o) (hL : isL (SD s) q o) {k : Nat} (hk : k < q) : (sp_as (DK s.N o)).drop k = DK s.N (pi s k o) :: (sp_as (DK s.N o)).drop (k + 1) := drop_get (ST_rt (KNT_ST P.2.2.2.2.2.2.2.2 P.2.2.1 P.2.1).1 q k o ho.1 ho.2 hL hk).1
theorem AS_len {c : Nat} {hp : xx_H} {s : KS} {NM : BKM} {o : Int} {q : Nat} (P : KPS c hp s NM) (ho : OB s o) (hL : isL (SD s) q o) : sp_pl (DK s.N o) = true ∧ (sp_as (DK s.N o)).length = q := (ST_isL (KNT_ST P.2.2.2.2.2.2.2.2 P.2.2.1 P.2.1).1 q o ho.1 ho.2).mp hL
theorem sp_all_c {α : Type} {a : α} {r : List (Option α)} : sp_all (some a :: r) = (sp_all r).map (fun q => a :: q) := rfl
theorem sp_all_app {α : Type} : ∀ {A : List (Option α)} {As : List α} (_ : sp_all A = some As) (B : List (Option α)), sp_all (A ++ B) = (sp_all B).map (fun q => As ++ q)
  | [], As, h, B => by
    injection h with h
    rw [← h]
    show sp_all B = _
    cases sp_all B <;> rfl
  | some a :: r, As, h, B => by
    have h : (sp_all r).map (fun q => a :: q) = some As := h
    match hr : sp_all r, h with
    | some q, h =>
      injection h with h
      show (sp_all (r ++ B)).map (fun q => a :: q) = _
      rw [sp_all_app hr B, ← h]
      cases sp_all B <;> rfl
  | none :: _, _, h, _ => by cases h
theorem ol_so {k : Nat} {nO : Int → Int} {fO : Int → Int → Int} {n : Int} {f : Int → Int} : ol ((k + 1 : Nat) : Int) (so nO k n) (so fO k f) = ol k nO fO ++ [rl n f] := by
  rw [show ((k + 1 : Nat) : Int) = (k : Int) + 1 by omega, ol_s (by omega), so_self, so_self, ol_ext (n2 := nO) (f2 := fO) (fun i i0 i1 => ⟨so_ne (by omega), so_ne (by omega)⟩)]
theorem kq_weak_l2 (z : Value) (d c : Nat) (o e l m r6 w u α β γ : Int) (hp : xx_H) (s s1 : KS) (NM : BKM) (hP : KPS c hp s NM) (t y7 x B : Nat) (O : Int → Option Nat) (nO : Int → Int) (fO : Int → Int → Int) (hx : hp.length ≤ x) (ne_t_x : t ≠ x ∧ t ≠ x + 1) (e1 : s1.I 8 = u) (lw : α ≤ 100 * w - 386) (lb : β ≤ 700 * w - 2390) (lg : γ ≤ w) (ρ : Option (List ob_T × Int)) (σ : Int) (ZP : List (List Int)) (D1 Ds : List ob_T) (hσ : s1.I 17 = σ) (hρ : ρ = sp_cs2 (sp_cz (D1.map some ++ Ds.map some)) (s1.I 17)) (T1 : TRO s1.N (s1.I 8) NM.2.2.1 ZP D1) (Ts : TRO s1.N (s1.I 8) NM.2.2.1 (ol m nO fO) Ds) : ∀ (j : Nat) (k b0 : Int) (Z0 : List (List Int)) (h0 : xx_H), (m - k).toNat ≤ j → 0 ≤ k → k ≤ m → KST c hp s h0 s1 α β γ → OTK c h0 s1 u t m m B O nO fO → CL c h0 s1 u x b0 Z0 → (b0, Z0) = (ZP.map some ++ ((ol m nO fO).take k.toNat).map some).foldl clO (0, []) → xx_go (xt_P z) (d + 8) 270 148 [some (.ref (c + 30)), some (.int (iI o)), some (.int (iI e)), some (.int (iI l)), some (.int (iI m)), some (.ref t), some (.int (iI r6)), some (.ref y7), some (.ref x), some (.int (iI k))] [] h0 (fun v h1 => PRP c hp s w NM.2.2.1 ρ σ v h1) := by
  intro j
  induction j with
  | zero =>
    intro k b0 Z0 h0 hj k0 k1 S1 OT Cx hz
    have mR := OT.2.2.1
    obtain ⟨mCx, wCx, cCx⟩ := CL_cell Cx
    refine go_a (pc' := 150) (ls' := [some (.ref (c + 30)), some (.int (iI o)), some (.int (iI e)), some (.int (iI l)), some (.int (iI m)), some (.ref t), some (.int (iI r6)), some (.ref y7), some (.ref x), some (.int (iI k))]) (st' := [.int (iI k)]) rfl rfl ?_
    refine go_a (pc' := 152) (ls' := [some (.ref (c + 30)), some (.int (iI o)), some (.int (iI e)), some (.int (iI l)), some (.int (iI m)), some (.ref t), some (.int (iI r6)), some (.ref y7), some (.ref x), some (.int (iI k))]) (st' := [.int (iI m), .int (iI k)]) rfl rfl ?_
    refine mi_ge (t := 171) rfl rfl (by omega) (by omega) (by omega) (by omega) (fun w1 => ?_) (fun w1 => absurd (show k ≥ m by omega) w1)
    rw [show k = m by omega, List.take_of_length_le (by simp [ol])] at hz
    refine go_a (pc' := 172) (ls' := [some (.ref (c + 30)), some (.int (iI o)), some (.int (iI e)), some (.int (iI l)), some (.int (iI m)), some (.ref t), some (.int (iI r6)), some (.ref y7), some (.ref x), some (.int (iI k))]) (st' := [.ref (c + 30)]) rfl rfl ?_
    refine go_a (pc' := 174) (ls' := [some (.ref (c + 30)), some (.int (iI o)), some (.int (iI e)), some (.int (iI l)), some (.int (iI m)), some (.ref t), some (.int (iI r6)), some (.ref y7), some (.ref x), some (.int (iI k))]) (st' := [.ref x, .ref (c + 30)]) rfl rfl ?_
    refine go_v (m := 265) (as := [.ref (c + 30), .ref x]) (r := []) rfl rfl rfl (S1.1.1 19 (by decide)) rfl rfl (kq_fin z (d + 6) (w := w) (ρ := ρ) (σ := σ) hP S1 Cx (ITR_app _ _ (ITR_of T1) (ITR_of Ts)) hz hρ hσ e1 hx (by omega) (by omega) (by omega)) (fun v1 h1 hq => ?_)
    rcases hq with ⟨rfl, R1⟩ | ⟨r1, rfl, R1⟩
    · exact go_r rfl rfl rfl rfl rfl rfl R1
    · exact go_r rfl rfl rfl rfl rfl rfl R1
  | succ j ih =>
    intro k b0 Z0 h0 hj k0 k1 S1 OT Cx hz
    have mR := OT.2.2.1
    obtain ⟨mCx, wCx, cCx⟩ := CL_cell Cx
    refine go_a (pc' := 150) (ls' := [some (.ref (c + 30)), some (.int (iI o)), some (.int (iI e)), some (.int (iI l)), some (.int (iI m)), some (.ref t), some (.int (iI r6)), some (.ref y7), some (.ref x), some (.int (iI k))]) (st' := [.int (iI k)]) rfl rfl ?_
    refine go_a (pc' := 152) (ls' := [some (.ref (c + 30)), some (.int (iI o)), some (.int (iI e)), some (.int (iI l)), some (.int (iI m)), some (.ref t), some (.int (iI r6)), some (.ref y7), some (.ref x), some (.int (iI k))]) (st' := [.int (iI m), .int (iI k)]) rfl rfl ?_
    refine mi_ge (t := 171) rfl rfl (by omega) (by omega) (by omega) (by omega) (fun w1 => ?_) (fun w1 => ?_)
    · rw [show k = m by omega, List.take_of_length_le (by simp [ol])] at hz
      refine go_a (pc' := 172) (ls' := [some (.ref (c + 30)), some (.int (iI o)), some (.int (iI e)), some (.int (iI l)), some (.int (iI m)), some (.ref t), some (.int (iI r6)), some (.ref y7), some (.ref x), some (.int (iI k))]) (st' := [.ref (c + 30)]) rfl rfl ?_
      refine go_a (pc' := 174) (ls' := [some (.ref (c + 30)), some (.int (iI o)), some (.int (iI e)), some (.int (iI l)), some (.int (iI m)), some (.ref t), some (.int (iI r6)), some (.ref y7), some (.ref x), some (.int (iI k))]) (st' := [.ref x, .ref (c + 30)]) rfl rfl ?_
      refine go_v (m := 265) (as := [.ref (c + 30), .ref x]) (r := []) rfl rfl rfl (S1.1.1 19 (by decide)) rfl rfl (kq_fin z (d + 6) (w := w) (ρ := ρ) (σ := σ) hP S1 Cx (ITR_app _ _ (ITR_of T1) (ITR_of Ts)) hz hρ hσ e1 hx (by omega) (by omega) (by omega)) (fun v1 h1 hq => ?_)
      rcases hq with ⟨rfl, R1⟩ | ⟨r1, rfl, R1⟩
      · exact go_r rfl rfl rfl rfl rfl rfl R1
      · exact go_r rfl rfl rfl rfl rfl rfl R1
    · obtain ⟨a, eO, -, Ta⟩ := OT.2.2.2 k k0 (by omega)
      refine go_a (pc' := 157) (ls' := [some (.ref (c + 30)), some (.int (iI o)), some (.int (iI e)), some (.int (iI l)), some (.int (iI m)), some (.ref t), some (.int (iI r6)), some (.ref y7), some (.ref x), some (.int (iI k))]) (st' := [.ref x]) rfl rfl ?_
      refine go_a (pc' := 159) (ls' := [some (.ref (c + 30)), some (.int (iI o)), some (.int (iI e)), some (.int (iI l)), some (.int (iI m)), some (.ref t), some (.int (iI r6)), some (.ref y7), some (.ref x), some (.int (iI k))]) (st' := [.ref t, .ref x]) rfl rfl ?_
      refine go_a (pc' := 161) (ls' := [some (.ref (c + 30)), some (.int (iI o)), some (.int (iI e)), some (.int (iI l)), some (.int (iI m)), some (.ref t), some (.int (iI r6)), some (.ref y7), some (.ref x), some (.int (iI k))]) (st' := [.int (iI k), .ref t, .ref x]) rfl rfl ?_
      refine mk_ald rfl OT.1 rfl k0 (by omega) (by omega) ?_
      rw [eO]
      show xx_go (xt_P z) (d + 8) 270 162 [some (.ref (c + 30)), some (.int (iI o)), some (.int (iI e)), some (.int (iI l)), some (.int (iI m)), some (.ref t), some (.int (iI r6)), some (.ref y7), some (.ref x), some (.int (iI k))] [.ref a, .ref x] h0 _
      refine go_v (m := 261) (as := [.ref x, .ref a]) (r := []) rfl rfl rfl cCx rfl rfl (kq_addC z (d + 5) Cx (MTM_T Ta)) (fun v1 h1 hq => ?_)
      obtain ⟨rfl, F1, b1, Z1, q1, C1⟩ := hq
      have hz1 := q1
      have S1 := KST_fe S1 Cx hx F1
      have Ta_1 := TM_fe Cx F1 Ta
      have Ot_1 := OTK_fe Cx F1 ne_t_x OT
      obtain ⟨mC1, wC1, cC1⟩ := CL_cell C1
      show xx_go (xt_P z) (d + 8) 270 165 [some (.ref (c + 30)), some (.int (iI o)), some (.int (iI e)), some (.int (iI l)), some (.int (iI m)), some (.ref t), some (.int (iI r6)), some (.ref y7), some (.ref x), some (.int (iI k))] [] h1 _
      refine go_a (pc' := 168) (ls' := [some (.ref (c + 30)), some (.int (iI o)), some (.int (iI e)), some (.int (iI l)), some (.int (iI m)), some (.ref t), some (.int (iI r6)), some (.ref y7), some (.ref x), some (.int (iI (k + 1)))]) (st' := []) rfl (by rw [← iI_add k 1]; rfl) ?_
      refine go_a (pc' := 148) (ls' := [some (.ref (c + 30)), some (.int (iI o)), some (.int (iI e)), some (.int (iI l)), some (.int (iI m)), some (.ref t), some (.int (iI r6)), some (.ref y7), some (.ref x), some (.int (iI (k + 1)))]) (st' := []) rfl rfl ?_
      have hz9 := hz_one hz hz1
      have tk9 := ol_take (nO := nO) (fO := fO) (m := m) (k := k.toNat) (by omega)
      rw [show ((k.toNat : Nat) : Int) = k by omega] at tk9
      have hz8 : (b1, Z1) = (ZP.map some ++ ((ol m nO fO).take (k + 1).toNat).map some).foldl clO (0, []) := by rw [show (k + 1).toNat = k.toNat + 1 by omega, tk9, List.map_append, ← List.append_assoc]; exact hz9
      exact ih (k + 1) _ _ _ (by omega) (by omega) (by omega) S1 Ot_1 C1 hz8
theorem kq_weak_l1 (z : Value) (d c : Nat) (o : Int) (q : Nat) (hp : xx_H) (s : KS) (NM : BKM) (hP : KPS c hp s NM) (ho : OB s o) (hL : isL (SD s) q o) (r2 : pi s 0 o ≠ 2) (w9 : WD (SD s) o ≤ 1000) (l25 : s.I 8 + WD (SD s) o ≤ 25000) (e fu : Int) (F : ob_T → Int → Option (List ob_T × Int)) (G : ob_T → Int → Int) (R : PRC z (d + 8) c (e + 1) NM fu F G) (hf : s.I 16 = fu) (hq : q = 3) (l : Int) (M t : Nat) (ol1 : OB s l) (hM : isL (SD s) M l) (h12 : 12 ≤ t) (ht : hp.length ≤ t) (hw : WD (SD s) l + WD (SD s) (pi s 2 o) + 3 ≤ WD (SD s) o) (ρ : Option (List ob_T × Int)) (σ : Int) : ∀ (j k : Nat) (O : Int → Option Nat) (nO : Int → Int) (fO : Int → Int → Int) (h0 : xx_H) (s1 : KS) (Ds : List ob_T), M - k ≤ j → k ≤ M → KST c hp s h0 s1 (1 + 2 * k) (M + k + (VD (SD s) l - VD (SD s) (rt (SD s) k l))) 0 → s1.I 8 = s.I 8 → OTK c h0 s1 (s.I 8) t M k hp.length O nO fO → TRO s1.N (s1.I 8) NM.2.2.1 (ol k nO fO) Ds → s1.I 17 = s.I 17 → ρ = (sp_all (((sp_as (DK s.N l)).drop k).map (sp_tm NM.2.2.1))).bind (fun os => (F (sp_p 2 (DK s.N o)) (s.I 17)).bind (fun p => sp_cs2 (sp_cz (p.1.map some ++ (Ds ++ os).map some)) p.2)) → σ = sp_sg F G (ifc (sp_all (((sp_as (DK s.N l)).drop k).map (sp_tm NM.2.2.1)) ≠ none) [(sp_p 2 (DK s.N o))] []) (s.I 17) → xx_go (xt_P z) (d + 8) 270 44 [some (.ref (c + 30)), some (.int (iI o)), some (.int (iI e)), some (.int (iI l)), some (.int (iI ((M : Int)))), some (.ref t), some (.int (iI (rt (SD s) k l))), some (.int (iI ((k : Int)))), none, none] [] h0 (fun v h1 => PRP c hp s (WD (SD s) o) NM.2.2.1 ρ σ v h1) := by
  have lu : s.I 8 ≤ 25000 := hP.2.2.2.2.2.2.2.1
  have u38 := KB_38 hP.2.1
  have oR := OB_R hP.2.1 ho
  have vl := VD_W hP.2.2.1 ol1
  have ml := isL_VD (I := UI s) hP.2.2.1.1 (CI_n0 hP.2.2.1) M l ol1.1 ol1.2 hM
  have o2 := (PI_w hP.2.2.1 ho hL (j := 2) (by omega)).2
  obtain ⟨o2, i2, -⟩ := o2
  intro j
  induction j with
  | zero =>
    intro k O nO fO h0 s1 Ds hj k1 S1 e1 OT TOs J1 hρ hσ
    have mR := OT.2.2.1
    have vq := VD_rtl (I := UI s) hP.2.2.1.1 ol1.1 ol1.2 hM k k1
    have vk : 0 ≤ VD (SD s) (rt (SD s) k l) := by
      by_cases ck : k = 0
      · rw [ck]
        exact VD_0 (I := UI s) hP.2.2.1.1 ol1.1 ol1.2
      · obtain ⟨k9, rfl⟩ : ∃ k9 : Nat, k = k9 + 1 := ⟨k - 1, by omega⟩
        exact (PI_w hP.2.2.1 ol1 hM (j := k9) (by omega)).2.2.2
    refine go_a (pc' := 46) (ls' := [some (.ref (c + 30)), some (.int (iI o)), some (.int (iI e)), some (.int (iI l)), some (.int (iI ((M : Int)))), some (.ref t), some (.int (iI (rt (SD s) k l))), some (.int (iI ((k : Int)))), none, none]) (st' := [.int (iI ((k : Int)))]) rfl rfl ?_
    refine go_a (pc' := 48) (ls' := [some (.ref (c + 30)), some (.int (iI o)), some (.int (iI e)), some (.int (iI l)), some (.int (iI ((M : Int)))), some (.ref t), some (.int (iI (rt (SD s) k l))), some (.int (iI ((k : Int)))), none, none]) (st' := [.int (iI ((M : Int))), .int (iI ((k : Int)))]) rfl rfl ?_
    refine mi_ge (t := 103) rfl rfl (by omega) (by omega) (by omega) (by omega) (fun w1 => ?_) (fun w1 => absurd (show (k : Int) ≥ M by omega) w1)
    have dr : (sp_as (DK s.N l)).drop k = [] := List.drop_eq_nil_of_le (by rw [(AS_len hP ol1 hM).2]; omega)
    rw [dr] at hρ hσ
    replace hρ : ρ = (F (sp_p 2 (DK s.N o)) (s.I 17)).bind (fun p => sp_cs2 (sp_cz (p.1.map some ++ Ds.map some)) p.2) := by rw [hρ]; show (F _ _).bind (fun p => sp_cs2 (sp_cz (p.1.map some ++ (Ds ++ []).map some)) p.2) = _; rw [List.append_nil]
    replace hσ : σ = sp_sg F G [(sp_p 2 (DK s.N o))] (s.I 17) := by rw [hσ, ifc_pos (fun w => by cases w)]
    refine go_a (pc' := 104) (ls' := [some (.ref (c + 30)), some (.int (iI o)), some (.int (iI e)), some (.int (iI l)), some (.int (iI ((M : Int)))), some (.ref t), some (.int (iI (rt (SD s) k l))), some (.int (iI ((k : Int)))), none, none]) (st' := [.ref (c + 30)]) rfl rfl ?_
    refine go_a (pc' := 105) (ls' := [some (.ref (c + 30)), some (.int (iI o)), some (.int (iI e)), some (.int (iI l)), some (.int (iI ((M : Int)))), some (.ref t), some (.int (iI (rt (SD s) k l))), some (.int (iI ((k : Int)))), none, none]) (st' := [.ref (c + 30), .ref (c + 30)]) rfl rfl ?_
    refine go_get (v := .ref (c + 4)) rfl (S1.1.1 19 (by decide)) rfl rfl ?_
    refine go_a (pc' := 109) (ls' := [some (.ref (c + 30)), some (.int (iI o)), some (.int (iI e)), some (.int (iI l)), some (.int (iI ((M : Int)))), some (.ref t), some (.int (iI (rt (SD s) k l))), some (.int (iI ((k : Int)))), none, none]) (st' := [.int (iI o), .ref (c + 4), .ref (c + 30)]) rfl rfl ?_
    refine go_a (pc' := 110) (ls' := [some (.ref (c + 30)), some (.int (iI o)), some (.int (iI e)), some (.int (iI l)), some (.int (iI ((M : Int)))), some (.ref t), some (.int (iI (rt (SD s) k l))), some (.int (iI ((k : Int)))), none, none]) (st' := [.int (iI 2), .int (iI o), .ref (c + 4), .ref (c + 30)]) rfl rfl ?_
    refine go_v (m := 202) (as := [.ref (c + 4), .int (iI o), .int (iI 2)]) (r := [.ref (c + 30)]) rfl rfl rfl (S1.1.1 3 (by decide)) rfl rfl (kq_part z (d + 6) S1 hP.2.2.1 ho hL (by omega) (by omega) (by omega)) (fun v1 h1 hq => ?_)
    obtain ⟨rfl, eq1⟩ := hq
    rw [eq1]
    clear eq1 h1
    show xx_go (xt_P z) (d + 8) 270 113 [some (.ref (c + 30)), some (.int (iI o)), some (.int (iI e)), some (.int (iI l)), some (.int (iI ((M : Int)))), some (.ref t), some (.int (iI (rt (SD s) k l))), some (.int (iI ((k : Int)))), none, none] [.int (iI (pi s 2 o)), .ref (c + 30)] h0 _
    refine go_a (pc' := 114) (ls' := [some (.ref (c + 30)), some (.int (iI o)), some (.int (iI e)), some (.int (iI l)), some (.int (iI ((M : Int)))), some (.ref t), some (.int (iI (rt (SD s) k l))), some (.int (iI ((k : Int)))), none, none]) (st' := [.int (iI e), .int (iI (pi s 2 o)), .ref (c + 30)]) rfl rfl ?_
    refine go_a (pc' := 115) (ls' := [some (.ref (c + 30)), some (.int (iI o)), some (.int (iI e)), some (.int (iI l)), some (.int (iI ((M : Int)))), some (.ref t), some (.int (iI (rt (SD s) k l))), some (.int (iI ((k : Int)))), none, none]) (st' := [.int (iI 1), .int (iI e), .int (iI (pi s 2 o)), .ref (c + 30)]) rfl rfl ?_
    refine mi_add rfl ?_
    refine go_v (m := 245) (as := [.ref (c + 30), .int (iI (pi s 2 o)), .int (iI (e + 1))]) (r := []) rfl rfl rfl (S1.1.1 19 (by decide)) rfl rfl (kq_sub R hP S1 hf o2 (by omega) (by omega)) (fun v2 h2 hq => ?_)
    obtain ⟨s2, hv⟩ := hq
    rcases hv with ⟨rfl, en2, eg2, S2, Q2⟩ | ⟨y2, Z2, D2, rfl, l2, C2, ⟨TO2, es2⟩, S2, g2, PS2, Q2⟩
    · rw [PI_D hP ho hL (j := 2) (by omega), J1] at en2 eg2
      show xx_go (xt_P z) (d + 8) 270 119 [some (.ref (c + 30)), some (.int (iI o)), some (.int (iI e)), some (.int (iI l)), some (.int (iI ((M : Int)))), some (.ref t), some (.int (iI (rt (SD s) k l))), some (.int (iI ((k : Int)))), none, none] [.null] h2 _
      refine go_a (pc' := 121) (ls' := [some (.ref (c + 30)), some (.int (iI o)), some (.int (iI e)), some (.int (iI l)), some (.int (iI ((M : Int)))), some (.ref t), some (.int (iI (rt (SD s) k l))), some (.null), none, none]) (st' := []) rfl rfl ?_
      refine go_a (pc' := 123) (ls' := [some (.ref (c + 30)), some (.int (iI o)), some (.int (iI e)), some (.int (iI l)), some (.int (iI ((M : Int)))), some (.ref t), some (.int (iI (rt (SD s) k l))), some (.null), none, none]) (st' := [.null]) rfl rfl ?_
      refine go_a (pc' := 126) (ls' := [some (.ref (c + 30)), some (.int (iI o)), some (.int (iI e)), some (.int (iI l)), some (.int (iI ((M : Int)))), some (.ref t), some (.int (iI (rt (SD s) k l))), some (.null), none, none]) (st' := []) rfl rfl ?_
      refine go_a (pc' := 127) (ls' := [some (.ref (c + 30)), some (.int (iI o)), some (.int (iI e)), some (.int (iI l)), some (.int (iI ((M : Int)))), some (.ref t), some (.int (iI (rt (SD s) k l))), some (.null), none, none]) (st' := [.null]) rfl rfl ?_
      exact go_r rfl rfl rfl rfl rfl rfl ⟨_, Or.inl ⟨rfl, (by rw [hρ, en2]; rfl), (by rw [hσ]; rw [sp_sg_n en2]; exact eg2), KST_w S2 (by omega) (by omega) (by omega)⟩⟩
    · rw [PI_D hP ho hL (j := 2) (by omega), J1] at es2
      have J2 : s2.I 17 = s2.I 17 := rfl
      have TOos_2 := KST_TRO PS2 Q2 TOs
      have z2 := S2.2.2.2.2.2.1
      have lu2 : s2.I 8 ≤ 25000 := by omega
      have e2 : s2.I 8 = s2.I 8 := rfl
      have u38 := KB_38 S2.2.1
      have Ot_2 := OTK_u (OTK_kx OT Q2.2.2.2.2.1) (show _ ≤ s2.I 8 by omega)
      obtain ⟨mC2, wC2, cC2⟩ := CL_cell C2
      show xx_go (xt_P z) (d + 8) 270 119 [some (.ref (c + 30)), some (.int (iI o)), some (.int (iI e)), some (.int (iI l)), some (.int (iI ((M : Int)))), some (.ref t), some (.int (iI (rt (SD s) k l))), some (.int (iI ((k : Int)))), none, none] [.ref y2] h2 _
      refine go_a (pc' := 121) (ls' := [some (.ref (c + 30)), some (.int (iI o)), some (.int (iI e)), some (.int (iI l)), some (.int (iI ((M : Int)))), some (.ref t), some (.int (iI (rt (SD s) k l))), some (.ref y2), none, none]) (st' := []) rfl rfl ?_
      refine go_a (pc' := 123) (ls' := [some (.ref (c + 30)), some (.int (iI o)), some (.int (iI e)), some (.int (iI l)), some (.int (iI ((M : Int)))), some (.ref t), some (.int (iI (rt (SD s) k l))), some (.ref y2), none, none]) (st' := [.ref y2]) rfl rfl ?_
      refine go_a (pc' := 128) (ls' := [some (.ref (c + 30)), some (.int (iI o)), some (.int (iI e)), some (.int (iI l)), some (.int (iI ((M : Int)))), some (.ref t), some (.int (iI (rt (SD s) k l))), some (.ref y2), none, none]) (st' := []) rfl rfl ?_
      have l12_3 : 12 ≤ h2.length := by have := ki_lt S2.1 (i := 0) (by decide); have := S2.1.2.1 0 (by decide); omega
      refine go_new (ci := 12) (fs := [.null, .int 0, .int 0, .int 0]) rfl rfl rfl ?_
      show xx_go (xt_P z) (d + 8) 270 131 [some (.ref (c + 30)), some (.int (iI o)), some (.int (iI e)), some (.int (iI l)), some (.int (iI ((M : Int)))), some (.ref t), some (.int (iI (rt (SD s) k l))), some (.ref y2), none, none] [.ref h2.length] (h2 ++ [.inr (12, [.null, .int 0, .int 0, .int 0])]) _
      refine go_a (pc' := 132) (ls' := [some (.ref (c + 30)), some (.int (iI o)), some (.int (iI e)), some (.int (iI l)), some (.int (iI ((M : Int)))), some (.ref t), some (.int (iI (rt (SD s) k l))), some (.ref y2), none, none]) (st' := [.ref h2.length, .ref h2.length]) rfl rfl ?_
      refine go_i (m := 257) (as := [.ref h2.length]) (r := [.ref h2.length]) rfl rfl rfl rfl rfl (kh_init z (d + 7) h2 l12_3) (fun v3 h3 hq => ?_)
      obtain ⟨rfl, rfl⟩ := hq
      obtain ⟨K3, X3, B3⟩ := mkC_CL (u := (s2.I 8)) S2.1
      have C3 : CL c (mkC h2) s2 (s2.I 8) h2.length 0 [] := ⟨_, _, _, _, _, B3, rfl⟩
      have S3 := KST_X S2 K3 X3
      obtain ⟨x3, ex3⟩ : ∃ q : Nat, q = h2.length := ⟨_, rfl⟩
      have ne_y2_x3 : y2 ≠ x3 := by have := (List.getElem?_eq_some_iff.mp cC2).1; omega
      have ne_t_x3 : t ≠ x3 := by have := (List.getElem?_eq_some_iff.mp Ot_2.1).1; omega
      have ne1_t_x3 : t ≠ x3 + 1 := by have := (List.getElem?_eq_some_iff.mp Ot_2.1).1; omega
      have Cy2_3 := CL_kx C2 X3
      obtain ⟨mCy2_3, wCy2_3, cCy2_3⟩ := CL_cell Cy2_3
      have Ot_3 := OTK_kx Ot_2 X3
      obtain ⟨hM3, eM3⟩ : ∃ q : xx_H, q = mkC h2 := ⟨_, rfl⟩
      have hx3 : hp.length ≤ x3 := by rw [ex3]; exact KST_len S2
      rw [← ex3] at C3
      rw [← eM3, ← ex3]
      obtain ⟨mC3, wC3, cC3⟩ := CL_cell C3
      rw [← eM3] at S3 C3 cC3 Cy2_3 cCy2_3 Ot_3
      clear B3 K3 X3
      show xx_go (xt_P z) (d + 8) 270 135 [some (.ref (c + 30)), some (.int (iI o)), some (.int (iI e)), some (.int (iI l)), some (.int (iI ((M : Int)))), some (.ref t), some (.int (iI (rt (SD s) k l))), some (.ref y2), none, none] [.ref x3] hM3 _
      have ne_t_x3 : t ≠ x3 ∧ t ≠ x3 + 1 := ⟨ne_t_x3, ne1_t_x3⟩
      refine go_a (pc' := 137) (ls' := [some (.ref (c + 30)), some (.int (iI o)), some (.int (iI e)), some (.int (iI l)), some (.int (iI ((M : Int)))), some (.ref t), some (.int (iI (rt (SD s) k l))), some (.ref y2), some (.ref x3), none]) (st' := []) rfl rfl ?_
      refine go_a (pc' := 139) (ls' := [some (.ref (c + 30)), some (.int (iI o)), some (.int (iI e)), some (.int (iI l)), some (.int (iI ((M : Int)))), some (.ref t), some (.int (iI (rt (SD s) k l))), some (.ref y2), some (.ref x3), none]) (st' := [.ref x3]) rfl rfl ?_
      refine go_a (pc' := 141) (ls' := [some (.ref (c + 30)), some (.int (iI o)), some (.int (iI e)), some (.int (iI l)), some (.int (iI ((M : Int)))), some (.ref t), some (.int (iI (rt (SD s) k l))), some (.ref y2), some (.ref x3), none]) (st' := [.ref y2, .ref x3]) rfl rfl ?_
      refine go_a (pc' := 142) (ls' := [some (.ref (c + 30)), some (.int (iI o)), some (.int (iI e)), some (.int (iI l)), some (.int (iI ((M : Int)))), some (.ref t), some (.int (iI (rt (SD s) k l))), some (.ref y2), some (.ref x3), none]) (st' := [.int (iI 0), .ref y2, .ref x3]) rfl rfl ?_
      obtain ⟨mD4, wD4, OD4, nD4, fD4, DD4, eZ4⟩ := id Cy2_3
      refine go_v (m := 271) (as := [.ref x3, .ref y2, .int (iI 0)]) (r := []) rfl rfl rfl cC3 rfl rfl (kh_addFrom z (d + 4) c 0 hM3 s2 _ x3 _ _ y2 mD4 wD4 _ OD4 nD4 fD4 (by decide) (by decide) ne_y2_x3 DD4 C3) (fun v5 h5 hq => ?_)
      obtain ⟨rfl, F5, b5, Z5, q5, C5⟩ := hq
      have hz5 := q5
      have S5 := KST_fe S3 C3 hx3 F5
      have Cy2_5 := CL_fe C3 F5 ne_y2_x3 Cy2_3
      obtain ⟨mCy2_5, wCy2_5, cCy2_5⟩ := CL_cell Cy2_5
      have Ot_5 := OTK_fe C3 F5 ne_t_x3 Ot_3
      obtain ⟨mC5, wC5, cC5⟩ := CL_cell C5
      show xx_go (xt_P z) (d + 8) 270 145 [some (.ref (c + 30)), some (.int (iI o)), some (.int (iI e)), some (.int (iI l)), some (.int (iI ((M : Int)))), some (.ref t), some (.int (iI (rt (SD s) k l))), some (.ref y2), some (.ref x3), none] [] h5 _
      refine go_a (pc' := 146) (ls' := [some (.ref (c + 30)), some (.int (iI o)), some (.int (iI e)), some (.int (iI l)), some (.int (iI ((M : Int)))), some (.ref t), some (.int (iI (rt (SD s) k l))), some (.ref y2), some (.ref x3), none]) (st' := [.int (iI 0)]) rfl rfl ?_
      refine go_a (pc' := 148) (ls' := [some (.ref (c + 30)), some (.int (iI o)), some (.int (iI e)), some (.int (iI l)), some (.int (iI ((M : Int)))), some (.ref t), some (.int (iI (rt (SD s) k l))), some (.ref y2), some (.ref x3), some (.int (iI 0))]) (st' := []) rfl rfl ?_
      have hz9 := hz_app (R1 := []) rfl hz5
      rw [show Int.toNat 0 = 0 from rfl, List.drop_zero, List.nil_append, eZ4] at hz9
      have em : (M : Int) = k := by omega
      rw [em]
      rw [em] at Ot_5
      exact kq_weak_l2 z d c o e l k _ (WD (SD s) o) _ (100 * WD (SD s) o - 386) (700 * WD (SD s) o - 2390) (WD (SD s) o) hp s _ NM hP t y2 x3 _ O nO fO hx3 ne_t_x3 e2 (Int.le_refl _) (Int.le_refl _) (Int.le_refl _) ρ σ _ D2 Ds (by rw [hσ]; rw [sp_sg_s es2]; exact J2) (by rw [hρ, es2, J2]; rfl) TO2 TOos_2 _ 0 _ _ _ (Nat.le_refl _) (by decide) (by omega) (KST_w S5 (by omega) (by omega) (by omega)) Ot_5 C5 (by rw [hz9]; show _ = (_ ++ ((ol _ _ _).take 0).map some).foldl clO (0, []); rw [List.take_zero, List.map_nil, List.append_nil])
  | succ j ih =>
    intro k O nO fO h0 s1 Ds hj k1 S1 e1 OT TOs J1 hρ hσ
    have mR := OT.2.2.1
    have vq := VD_rtl (I := UI s) hP.2.2.1.1 ol1.1 ol1.2 hM k k1
    have vk : 0 ≤ VD (SD s) (rt (SD s) k l) := by
      by_cases ck : k = 0
      · rw [ck]
        exact VD_0 (I := UI s) hP.2.2.1.1 ol1.1 ol1.2
      · obtain ⟨k9, rfl⟩ : ∃ k9 : Nat, k = k9 + 1 := ⟨k - 1, by omega⟩
        exact (PI_w hP.2.2.1 ol1 hM (j := k9) (by omega)).2.2.2
    refine go_a (pc' := 46) (ls' := [some (.ref (c + 30)), some (.int (iI o)), some (.int (iI e)), some (.int (iI l)), some (.int (iI ((M : Int)))), some (.ref t), some (.int (iI (rt (SD s) k l))), some (.int (iI ((k : Int)))), none, none]) (st' := [.int (iI ((k : Int)))]) rfl rfl ?_
    refine go_a (pc' := 48) (ls' := [some (.ref (c + 30)), some (.int (iI o)), some (.int (iI e)), some (.int (iI l)), some (.int (iI ((M : Int)))), some (.ref t), some (.int (iI (rt (SD s) k l))), some (.int (iI ((k : Int)))), none, none]) (st' := [.int (iI ((M : Int))), .int (iI ((k : Int)))]) rfl rfl ?_
    refine mi_ge (t := 103) rfl rfl (by omega) (by omega) (by omega) (by omega) (fun w1 => ?_) (fun w1 => ?_)
    · have dr : (sp_as (DK s.N l)).drop k = [] := List.drop_eq_nil_of_le (by rw [(AS_len hP ol1 hM).2]; omega)
      rw [dr] at hρ hσ
      replace hρ : ρ = (F (sp_p 2 (DK s.N o)) (s.I 17)).bind (fun p => sp_cs2 (sp_cz (p.1.map some ++ Ds.map some)) p.2) := by rw [hρ]; show (F _ _).bind (fun p => sp_cs2 (sp_cz (p.1.map some ++ (Ds ++ []).map some)) p.2) = _; rw [List.append_nil]
      replace hσ : σ = sp_sg F G [(sp_p 2 (DK s.N o))] (s.I 17) := by rw [hσ, ifc_pos (fun w => by cases w)]
      refine go_a (pc' := 104) (ls' := [some (.ref (c + 30)), some (.int (iI o)), some (.int (iI e)), some (.int (iI l)), some (.int (iI ((M : Int)))), some (.ref t), some (.int (iI (rt (SD s) k l))), some (.int (iI ((k : Int)))), none, none]) (st' := [.ref (c + 30)]) rfl rfl ?_
      refine go_a (pc' := 105) (ls' := [some (.ref (c + 30)), some (.int (iI o)), some (.int (iI e)), some (.int (iI l)), some (.int (iI ((M : Int)))), some (.ref t), some (.int (iI (rt (SD s) k l))), some (.int (iI ((k : Int)))), none, none]) (st' := [.ref (c + 30), .ref (c + 30)]) rfl rfl ?_
      refine go_get (v := .ref (c + 4)) rfl (S1.1.1 19 (by decide)) rfl rfl ?_
      refine go_a (pc' := 109) (ls' := [some (.ref (c + 30)), some (.int (iI o)), some (.int (iI e)), some (.int (iI l)), some (.int (iI ((M : Int)))), some (.ref t), some (.int (iI (rt (SD s) k l))), some (.int (iI ((k : Int)))), none, none]) (st' := [.int (iI o), .ref (c + 4), .ref (c + 30)]) rfl rfl ?_
      refine go_a (pc' := 110) (ls' := [some (.ref (c + 30)), some (.int (iI o)), some (.int (iI e)), some (.int (iI l)), some (.int (iI ((M : Int)))), some (.ref t), some (.int (iI (rt (SD s) k l))), some (.int (iI ((k : Int)))), none, none]) (st' := [.int (iI 2), .int (iI o), .ref (c + 4), .ref (c + 30)]) rfl rfl ?_
      refine go_v (m := 202) (as := [.ref (c + 4), .int (iI o), .int (iI 2)]) (r := [.ref (c + 30)]) rfl rfl rfl (S1.1.1 3 (by decide)) rfl rfl (kq_part z (d + 6) S1 hP.2.2.1 ho hL (by omega) (by omega) (by omega)) (fun v1 h1 hq => ?_)
      obtain ⟨rfl, eq1⟩ := hq
      rw [eq1]
      clear eq1 h1
      show xx_go (xt_P z) (d + 8) 270 113 [some (.ref (c + 30)), some (.int (iI o)), some (.int (iI e)), some (.int (iI l)), some (.int (iI ((M : Int)))), some (.ref t), some (.int (iI (rt (SD s) k l))), some (.int (iI ((k : Int)))), none, none] [.int (iI (pi s 2 o)), .ref (c + 30)] h0 _
      refine go_a (pc' := 114) (ls' := [some (.ref (c + 30)), some (.int (iI o)), some (.int (iI e)), some (.int (iI l)), some (.int (iI ((M : Int)))), some (.ref t), some (.int (iI (rt (SD s) k l))), some (.int (iI ((k : Int)))), none, none]) (st' := [.int (iI e), .int (iI (pi s 2 o)), .ref (c + 30)]) rfl rfl ?_
      refine go_a (pc' := 115) (ls' := [some (.ref (c + 30)), some (.int (iI o)), some (.int (iI e)), some (.int (iI l)), some (.int (iI ((M : Int)))), some (.ref t), some (.int (iI (rt (SD s) k l))), some (.int (iI ((k : Int)))), none, none]) (st' := [.int (iI 1), .int (iI e), .int (iI (pi s 2 o)), .ref (c + 30)]) rfl rfl ?_
      refine mi_add rfl ?_
      refine go_v (m := 245) (as := [.ref (c + 30), .int (iI (pi s 2 o)), .int (iI (e + 1))]) (r := []) rfl rfl rfl (S1.1.1 19 (by decide)) rfl rfl (kq_sub R hP S1 hf o2 (by omega) (by omega)) (fun v2 h2 hq => ?_)
      obtain ⟨s2, hv⟩ := hq
      rcases hv with ⟨rfl, en2, eg2, S2, Q2⟩ | ⟨y2, Z2, D2, rfl, l2, C2, ⟨TO2, es2⟩, S2, g2, PS2, Q2⟩
      · rw [PI_D hP ho hL (j := 2) (by omega), J1] at en2 eg2
        show xx_go (xt_P z) (d + 8) 270 119 [some (.ref (c + 30)), some (.int (iI o)), some (.int (iI e)), some (.int (iI l)), some (.int (iI ((M : Int)))), some (.ref t), some (.int (iI (rt (SD s) k l))), some (.int (iI ((k : Int)))), none, none] [.null] h2 _
        refine go_a (pc' := 121) (ls' := [some (.ref (c + 30)), some (.int (iI o)), some (.int (iI e)), some (.int (iI l)), some (.int (iI ((M : Int)))), some (.ref t), some (.int (iI (rt (SD s) k l))), some (.null), none, none]) (st' := []) rfl rfl ?_
        refine go_a (pc' := 123) (ls' := [some (.ref (c + 30)), some (.int (iI o)), some (.int (iI e)), some (.int (iI l)), some (.int (iI ((M : Int)))), some (.ref t), some (.int (iI (rt (SD s) k l))), some (.null), none, none]) (st' := [.null]) rfl rfl ?_
        refine go_a (pc' := 126) (ls' := [some (.ref (c + 30)), some (.int (iI o)), some (.int (iI e)), some (.int (iI l)), some (.int (iI ((M : Int)))), some (.ref t), some (.int (iI (rt (SD s) k l))), some (.null), none, none]) (st' := []) rfl rfl ?_
        refine go_a (pc' := 127) (ls' := [some (.ref (c + 30)), some (.int (iI o)), some (.int (iI e)), some (.int (iI l)), some (.int (iI ((M : Int)))), some (.ref t), some (.int (iI (rt (SD s) k l))), some (.null), none, none]) (st' := [.null]) rfl rfl ?_
        exact go_r rfl rfl rfl rfl rfl rfl ⟨_, Or.inl ⟨rfl, (by rw [hρ, en2]; rfl), (by rw [hσ]; rw [sp_sg_n en2]; exact eg2), KST_w S2 (by omega) (by omega) (by omega)⟩⟩
      · rw [PI_D hP ho hL (j := 2) (by omega), J1] at es2
        have J2 : s2.I 17 = s2.I 17 := rfl
        have TOos_2 := KST_TRO PS2 Q2 TOs
        have z2 := S2.2.2.2.2.2.1
        have lu2 : s2.I 8 ≤ 25000 := by omega
        have e2 : s2.I 8 = s2.I 8 := rfl
        have u38 := KB_38 S2.2.1
        have Ot_2 := OTK_u (OTK_kx OT Q2.2.2.2.2.1) (show _ ≤ s2.I 8 by omega)
        obtain ⟨mC2, wC2, cC2⟩ := CL_cell C2
        show xx_go (xt_P z) (d + 8) 270 119 [some (.ref (c + 30)), some (.int (iI o)), some (.int (iI e)), some (.int (iI l)), some (.int (iI ((M : Int)))), some (.ref t), some (.int (iI (rt (SD s) k l))), some (.int (iI ((k : Int)))), none, none] [.ref y2] h2 _
        refine go_a (pc' := 121) (ls' := [some (.ref (c + 30)), some (.int (iI o)), some (.int (iI e)), some (.int (iI l)), some (.int (iI ((M : Int)))), some (.ref t), some (.int (iI (rt (SD s) k l))), some (.ref y2), none, none]) (st' := []) rfl rfl ?_
        refine go_a (pc' := 123) (ls' := [some (.ref (c + 30)), some (.int (iI o)), some (.int (iI e)), some (.int (iI l)), some (.int (iI ((M : Int)))), some (.ref t), some (.int (iI (rt (SD s) k l))), some (.ref y2), none, none]) (st' := [.ref y2]) rfl rfl ?_
        refine go_a (pc' := 128) (ls' := [some (.ref (c + 30)), some (.int (iI o)), some (.int (iI e)), some (.int (iI l)), some (.int (iI ((M : Int)))), some (.ref t), some (.int (iI (rt (SD s) k l))), some (.ref y2), none, none]) (st' := []) rfl rfl ?_
        have l12_3 : 12 ≤ h2.length := by have := ki_lt S2.1 (i := 0) (by decide); have := S2.1.2.1 0 (by decide); omega
        refine go_new (ci := 12) (fs := [.null, .int 0, .int 0, .int 0]) rfl rfl rfl ?_
        show xx_go (xt_P z) (d + 8) 270 131 [some (.ref (c + 30)), some (.int (iI o)), some (.int (iI e)), some (.int (iI l)), some (.int (iI ((M : Int)))), some (.ref t), some (.int (iI (rt (SD s) k l))), some (.ref y2), none, none] [.ref h2.length] (h2 ++ [.inr (12, [.null, .int 0, .int 0, .int 0])]) _
        refine go_a (pc' := 132) (ls' := [some (.ref (c + 30)), some (.int (iI o)), some (.int (iI e)), some (.int (iI l)), some (.int (iI ((M : Int)))), some (.ref t), some (.int (iI (rt (SD s) k l))), some (.ref y2), none, none]) (st' := [.ref h2.length, .ref h2.length]) rfl rfl ?_
        refine go_i (m := 257) (as := [.ref h2.length]) (r := [.ref h2.length]) rfl rfl rfl rfl rfl (kh_init z (d + 7) h2 l12_3) (fun v3 h3 hq => ?_)
        obtain ⟨rfl, rfl⟩ := hq
        obtain ⟨K3, X3, B3⟩ := mkC_CL (u := (s2.I 8)) S2.1
        have C3 : CL c (mkC h2) s2 (s2.I 8) h2.length 0 [] := ⟨_, _, _, _, _, B3, rfl⟩
        have S3 := KST_X S2 K3 X3
        obtain ⟨x3, ex3⟩ : ∃ q : Nat, q = h2.length := ⟨_, rfl⟩
        have ne_y2_x3 : y2 ≠ x3 := by have := (List.getElem?_eq_some_iff.mp cC2).1; omega
        have ne_t_x3 : t ≠ x3 := by have := (List.getElem?_eq_some_iff.mp Ot_2.1).1; omega
        have ne1_t_x3 : t ≠ x3 + 1 := by have := (List.getElem?_eq_some_iff.mp Ot_2.1).1; omega
        have Cy2_3 := CL_kx C2 X3
        obtain ⟨mCy2_3, wCy2_3, cCy2_3⟩ := CL_cell Cy2_3
        have Ot_3 := OTK_kx Ot_2 X3
        obtain ⟨hM3, eM3⟩ : ∃ q : xx_H, q = mkC h2 := ⟨_, rfl⟩
        have hx3 : hp.length ≤ x3 := by rw [ex3]; exact KST_len S2
        rw [← ex3] at C3
        rw [← eM3, ← ex3]
        obtain ⟨mC3, wC3, cC3⟩ := CL_cell C3
        rw [← eM3] at S3 C3 cC3 Cy2_3 cCy2_3 Ot_3
        clear B3 K3 X3
        show xx_go (xt_P z) (d + 8) 270 135 [some (.ref (c + 30)), some (.int (iI o)), some (.int (iI e)), some (.int (iI l)), some (.int (iI ((M : Int)))), some (.ref t), some (.int (iI (rt (SD s) k l))), some (.ref y2), none, none] [.ref x3] hM3 _
        have ne_t_x3 : t ≠ x3 ∧ t ≠ x3 + 1 := ⟨ne_t_x3, ne1_t_x3⟩
        refine go_a (pc' := 137) (ls' := [some (.ref (c + 30)), some (.int (iI o)), some (.int (iI e)), some (.int (iI l)), some (.int (iI ((M : Int)))), some (.ref t), some (.int (iI (rt (SD s) k l))), some (.ref y2), some (.ref x3), none]) (st' := []) rfl rfl ?_
        refine go_a (pc' := 139) (ls' := [some (.ref (c + 30)), some (.int (iI o)), some (.int (iI e)), some (.int (iI l)), some (.int (iI ((M : Int)))), some (.ref t), some (.int (iI (rt (SD s) k l))), some (.ref y2), some (.ref x3), none]) (st' := [.ref x3]) rfl rfl ?_
        refine go_a (pc' := 141) (ls' := [some (.ref (c + 30)), some (.int (iI o)), some (.int (iI e)), some (.int (iI l)), some (.int (iI ((M : Int)))), some (.ref t), some (.int (iI (rt (SD s) k l))), some (.ref y2), some (.ref x3), none]) (st' := [.ref y2, .ref x3]) rfl rfl ?_
        refine go_a (pc' := 142) (ls' := [some (.ref (c + 30)), some (.int (iI o)), some (.int (iI e)), some (.int (iI l)), some (.int (iI ((M : Int)))), some (.ref t), some (.int (iI (rt (SD s) k l))), some (.ref y2), some (.ref x3), none]) (st' := [.int (iI 0), .ref y2, .ref x3]) rfl rfl ?_
        obtain ⟨mD4, wD4, OD4, nD4, fD4, DD4, eZ4⟩ := id Cy2_3
        refine go_v (m := 271) (as := [.ref x3, .ref y2, .int (iI 0)]) (r := []) rfl rfl rfl cC3 rfl rfl (kh_addFrom z (d + 4) c 0 hM3 s2 _ x3 _ _ y2 mD4 wD4 _ OD4 nD4 fD4 (by decide) (by decide) ne_y2_x3 DD4 C3) (fun v5 h5 hq => ?_)
        obtain ⟨rfl, F5, b5, Z5, q5, C5⟩ := hq
        have hz5 := q5
        have S5 := KST_fe S3 C3 hx3 F5
        have Cy2_5 := CL_fe C3 F5 ne_y2_x3 Cy2_3
        obtain ⟨mCy2_5, wCy2_5, cCy2_5⟩ := CL_cell Cy2_5
        have Ot_5 := OTK_fe C3 F5 ne_t_x3 Ot_3
        obtain ⟨mC5, wC5, cC5⟩ := CL_cell C5
        show xx_go (xt_P z) (d + 8) 270 145 [some (.ref (c + 30)), some (.int (iI o)), some (.int (iI e)), some (.int (iI l)), some (.int (iI ((M : Int)))), some (.ref t), some (.int (iI (rt (SD s) k l))), some (.ref y2), some (.ref x3), none] [] h5 _
        refine go_a (pc' := 146) (ls' := [some (.ref (c + 30)), some (.int (iI o)), some (.int (iI e)), some (.int (iI l)), some (.int (iI ((M : Int)))), some (.ref t), some (.int (iI (rt (SD s) k l))), some (.ref y2), some (.ref x3), none]) (st' := [.int (iI 0)]) rfl rfl ?_
        refine go_a (pc' := 148) (ls' := [some (.ref (c + 30)), some (.int (iI o)), some (.int (iI e)), some (.int (iI l)), some (.int (iI ((M : Int)))), some (.ref t), some (.int (iI (rt (SD s) k l))), some (.ref y2), some (.ref x3), some (.int (iI 0))]) (st' := []) rfl rfl ?_
        have hz9 := hz_app (R1 := []) rfl hz5
        rw [show Int.toNat 0 = 0 from rfl, List.drop_zero, List.nil_append, eZ4] at hz9
        have em : (M : Int) = k := by omega
        rw [em]
        rw [em] at Ot_5
        exact kq_weak_l2 z d c o e l k _ (WD (SD s) o) _ (100 * WD (SD s) o - 386) (700 * WD (SD s) o - 2390) (WD (SD s) o) hp s _ NM hP t y2 x3 _ O nO fO hx3 ne_t_x3 e2 (Int.le_refl _) (Int.le_refl _) (Int.le_refl _) ρ σ _ D2 Ds (by rw [hσ]; rw [sp_sg_s es2]; exact J2) (by rw [hρ, es2, J2]; rfl) TO2 TOos_2 _ 0 _ _ _ (Nat.le_refl _) (by decide) (by omega) (KST_w S5 (by omega) (by omega) (by omega)) Ot_5 C5 (by rw [hz9]; show _ = (_ ++ ((ol _ _ _).take 0).map some).foldl clO (0, []); rw [List.take_zero, List.map_nil, List.append_nil])
    · obtain ⟨p1, p2, p3, p4⟩ := PI_w hP.2.2.1 ol1 hM (j := k) (by omega)
      rw [AS_drop hP ol1 hM (k := k) (by omega), List.map_cons] at hρ hσ
      refine go_a (pc' := 53) (ls' := [some (.ref (c + 30)), some (.int (iI o)), some (.int (iI e)), some (.int (iI l)), some (.int (iI ((M : Int)))), some (.ref t), some (.int (iI (rt (SD s) k l))), some (.int (iI ((k : Int)))), none, none]) (st' := [.ref t]) rfl rfl ?_
      refine go_a (pc' := 55) (ls' := [some (.ref (c + 30)), some (.int (iI o)), some (.int (iI e)), some (.int (iI l)), some (.int (iI ((M : Int)))), some (.ref t), some (.int (iI (rt (SD s) k l))), some (.int (iI ((k : Int)))), none, none]) (st' := [.int (iI ((k : Int))), .ref t]) rfl rfl ?_
      refine go_a (pc' := 56) (ls' := [some (.ref (c + 30)), some (.int (iI o)), some (.int (iI e)), some (.int (iI l)), some (.int (iI ((M : Int)))), some (.ref t), some (.int (iI (rt (SD s) k l))), some (.int (iI ((k : Int)))), none, none]) (st' := [.ref (c + 30), .int (iI ((k : Int))), .ref t]) rfl rfl ?_
      refine go_get (v := .ref (c + 25)) rfl (S1.1.1 19 (by decide)) rfl rfl ?_
      refine go_a (pc' := 60) (ls' := [some (.ref (c + 30)), some (.int (iI o)), some (.int (iI e)), some (.int (iI l)), some (.int (iI ((M : Int)))), some (.ref t), some (.int (iI (rt (SD s) k l))), some (.int (iI ((k : Int)))), none, none]) (st' := [.ref (c + 30), .ref (c + 25), .int (iI ((k : Int))), .ref t]) rfl rfl ?_
      refine go_get (v := .ref (c + 4)) rfl (S1.1.1 19 (by decide)) rfl rfl ?_
      refine go_a (pc' := 65) (ls' := [some (.ref (c + 30)), some (.int (iI o)), some (.int (iI e)), some (.int (iI l)), some (.int (iI ((M : Int)))), some (.ref t), some (.int (iI (rt (SD s) k l))), some (.int (iI ((k : Int)))), none, none]) (st' := [.int (iI (rt (SD s) k l)), .ref (c + 4), .ref (c + 25), .int (iI ((k : Int))), .ref t]) rfl rfl ?_
      refine go_v (m := 197) (as := [.ref (c + 4), .int (iI (rt (SD s) k l))]) (r := [.ref (c + 25), .int (iI ((k : Int))), .ref t]) rfl rfl rfl (S1.1.1 3 (by decide)) rfl rfl (kq_first z (d + 7) S1 hP.2.2.1 ol1 hM (by omega)) (fun v1 h1 hq => ?_)
      obtain ⟨rfl, eq1⟩ := hq
      rw [eq1]
      clear eq1 h1
      show xx_go (xt_P z) (d + 8) 270 68 [some (.ref (c + 30)), some (.int (iI o)), some (.int (iI e)), some (.int (iI l)), some (.int (iI ((M : Int)))), some (.ref t), some (.int (iI (rt (SD s) k l))), some (.int (iI ((k : Int)))), none, none] [.int (iI (pi s k l)), .ref (c + 25), .int (iI ((k : Int))), .ref t] h0 _
      refine go_v (m := 211) (as := [.ref (c + 25), .int (iI (pi s k l))]) (r := [.int (iI ((k : Int))), .ref t]) rfl rfl rfl (S1.1.1 16 (by decide)) rfl rfl (kq_read z (d + 1) hP S1 e1 lu p2 (by omega)) (fun v2 h2 hq => ?_)
      obtain ⟨s2, E2, hv2⟩ := hq
      have S2 := KST_STE S1 E2
      have e2 := (STE_8 E2).trans e1
      have Ot_2 := OTK_kx OT E2.2.2.2
      have J2 := STE_17 E2 J1
      have TOos_2 := STE_TRO E2 TOs
      rcases hv2 with ⟨rfl, nu2⟩ | ⟨a2, n2, f2, rfl, l2, b2, T2, t2, et2, Ot2⟩
      · rw [show DK s.N (pi s k l) = DK s.N (pi s k l) from rfl] at nu2
        show xx_go (xt_P z) (d + 8) 270 71 [some (.ref (c + 30)), some (.int (iI o)), some (.int (iI e)), some (.int (iI l)), some (.int (iI ((M : Int)))), some (.ref t), some (.int (iI (rt (SD s) k l))), some (.int (iI ((k : Int)))), none, none] [.null, .int (iI ((k : Int))), .ref t] h2 _
        have F9 := OTK_nul Ot_2 (k : Int)
        have S9 := KST_F1 S2 Ot_2.2.1 h12 ht F9
        have g9 : (h2.set t (.inl (.object "ClauseKernel$Term", xa_r (M : Int).toNat (so O k none))))[t]? = _ := List.getElem?_set_self (List.getElem?_eq_some_iff.mp Ot_2.1).1
        refine mk_astN rfl Ot_2.1 h12 (by omega) (by omega) (by omega) ?_
        obtain ⟨h9, e9⟩ : ∃ q : xx_H, q = h2.set t (.inl (.object "ClauseKernel$Term", xa_r (M : Int).toNat (so O k none))) := ⟨_, rfl⟩
        rw [← e9] at F9 S9 g9
        rw [← e9]
        show xx_go (xt_P z) (d + 8) 270 72 [some (.ref (c + 30)), some (.int (iI o)), some (.int (iI e)), some (.int (iI l)), some (.int (iI ((M : Int)))), some (.ref t), some (.int (iI (rt (SD s) k l))), some (.int (iI ((k : Int)))), none, none] [] h9 _
        refine go_a (pc' := 74) (ls' := [some (.ref (c + 30)), some (.int (iI o)), some (.int (iI e)), some (.int (iI l)), some (.int (iI ((M : Int)))), some (.ref t), some (.int (iI (rt (SD s) k l))), some (.int (iI ((k : Int)))), none, none]) (st' := [.ref t]) rfl rfl ?_
        refine go_a (pc' := 76) (ls' := [some (.ref (c + 30)), some (.int (iI o)), some (.int (iI e)), some (.int (iI l)), some (.int (iI ((M : Int)))), some (.ref t), some (.int (iI (rt (SD s) k l))), some (.int (iI ((k : Int)))), none, none]) (st' := [.int (iI ((k : Int))), .ref t]) rfl rfl ?_
        refine mk_ald rfl g9 rfl (by omega) (by omega) (by omega) ?_
        rw [so_self]
        show xx_go (xt_P z) (d + 8) 270 77 [some (.ref (c + 30)), some (.int (iI o)), some (.int (iI e)), some (.int (iI l)), some (.int (iI ((M : Int)))), some (.ref t), some (.int (iI (rt (SD s) k l))), some (.int (iI ((k : Int)))), none, none] [.null] h9 _
        refine go_a (pc' := 80) (ls' := [some (.ref (c + 30)), some (.int (iI o)), some (.int (iI e)), some (.int (iI l)), some (.int (iI ((M : Int)))), some (.ref t), some (.int (iI (rt (SD s) k l))), some (.int (iI ((k : Int)))), none, none]) (st' := []) rfl rfl ?_
        refine go_a (pc' := 81) (ls' := [some (.ref (c + 30)), some (.int (iI o)), some (.int (iI e)), some (.int (iI l)), some (.int (iI ((M : Int)))), some (.ref t), some (.int (iI (rt (SD s) k l))), some (.int (iI ((k : Int)))), none, none]) (st' := [.ref (c + 30)]) rfl rfl ?_
        refine go_a (pc' := 82) (ls' := [some (.ref (c + 30)), some (.int (iI o)), some (.int (iI e)), some (.int (iI l)), some (.int (iI ((M : Int)))), some (.ref t), some (.int (iI (rt (SD s) k l))), some (.int (iI ((k : Int)))), none, none]) (st' := [.int (iI o), .ref (c + 30)]) rfl rfl ?_
        refine go_v (m := 248) (as := [.ref (c + 30), .int (iI o)]) (r := []) rfl rfl rfl (S9.1.1 19 (by decide)) rfl rfl (kq_failAtP z (d + 7) (w := WD (SD s) o) S9 (by omega) (by omega) (by omega) (by omega) (by omega) (ft := NM.2.2.1) (ρ := ρ) (σ := σ) (by rw [hρ, nu2]; rfl) (by rw [hσ, nu2, ifc_neg (fun w => w rfl)]; exact J2)) (fun v3 h3 hq => ?_)
        obtain ⟨rfl, R3⟩ := hq
        show xx_go (xt_P z) (d + 8) 270 85 [some (.ref (c + 30)), some (.int (iI o)), some (.int (iI e)), some (.int (iI l)), some (.int (iI ((M : Int)))), some (.ref t), some (.int (iI (rt (SD s) k l))), some (.int (iI ((k : Int)))), none, none] [.null] h3 _
        exact go_r rfl rfl rfl rfl rfl rfl R3
      · rw [show DK s.N (pi s k l) = DK s.N (pi s k l) from rfl] at et2
        have Oa2 : OTR s2.N (s2.I 8) NM.2.2.1 (some (rl n2 f2)) (some t2) := Ot2
        have nn2 := TM_n T2
        show xx_go (xt_P z) (d + 8) 270 71 [some (.ref (c + 30)), some (.int (iI o)), some (.int (iI e)), some (.int (iI l)), some (.int (iI ((M : Int)))), some (.ref t), some (.int (iI (rt (SD s) k l))), some (.int (iI ((k : Int)))), none, none] [.ref a2, .int (iI ((k : Int))), .ref t] h2 _
        obtain ⟨F9, O9⟩ := OTK_put Ot_2 T2 (Nat.le_trans (KST_len S1) b2)
        have S9 := KST_F1 S2 Ot_2.2.1 h12 ht F9
        refine mk_ast rfl Ot_2.1 h12 (TMp T2).1.1 rfl (by omega) (by omega) (by omega) ?_
        obtain ⟨h9, e9⟩ : ∃ q : xx_H, q = h2.set t (.inl (.object "ClauseKernel$Term", xa_r (M : Int).toNat (so O k (some a2)))) := ⟨_, rfl⟩
        rw [← e9] at F9 S9 O9
        rw [← e9]
        show xx_go (xt_P z) (d + 8) 270 72 [some (.ref (c + 30)), some (.int (iI o)), some (.int (iI e)), some (.int (iI l)), some (.int (iI ((M : Int)))), some (.ref t), some (.int (iI (rt (SD s) k l))), some (.int (iI ((k : Int)))), none, none] [] h9 _
        refine go_a (pc' := 74) (ls' := [some (.ref (c + 30)), some (.int (iI o)), some (.int (iI e)), some (.int (iI l)), some (.int (iI ((M : Int)))), some (.ref t), some (.int (iI (rt (SD s) k l))), some (.int (iI ((k : Int)))), none, none]) (st' := [.ref t]) rfl rfl ?_
        refine go_a (pc' := 76) (ls' := [some (.ref (c + 30)), some (.int (iI o)), some (.int (iI e)), some (.int (iI l)), some (.int (iI ((M : Int)))), some (.ref t), some (.int (iI (rt (SD s) k l))), some (.int (iI ((k : Int)))), none, none]) (st' := [.int (iI ((k : Int))), .ref t]) rfl rfl ?_
        refine mk_ald rfl O9.1 rfl (by omega) (by omega) (by omega) ?_
        rw [so_self]
        show xx_go (xt_P z) (d + 8) 270 77 [some (.ref (c + 30)), some (.int (iI o)), some (.int (iI e)), some (.int (iI l)), some (.int (iI ((M : Int)))), some (.ref t), some (.int (iI (rt (SD s) k l))), some (.int (iI ((k : Int)))), none, none] [.ref a2] h9 _
        refine go_a (pc' := 86) (ls' := [some (.ref (c + 30)), some (.int (iI o)), some (.int (iI e)), some (.int (iI l)), some (.int (iI ((M : Int)))), some (.ref t), some (.int (iI (rt (SD s) k l))), some (.int (iI ((k : Int)))), none, none]) (st' := []) rfl rfl ?_
        refine go_a (pc' := 87) (ls' := [some (.ref (c + 30)), some (.int (iI o)), some (.int (iI e)), some (.int (iI l)), some (.int (iI ((M : Int)))), some (.ref t), some (.int (iI (rt (SD s) k l))), some (.int (iI ((k : Int)))), none, none]) (st' := [.ref (c + 30)]) rfl rfl ?_
        refine go_get (v := .ref (c + 4)) rfl (S9.1.1 19 (by decide)) rfl rfl ?_
        refine go_a (pc' := 92) (ls' := [some (.ref (c + 30)), some (.int (iI o)), some (.int (iI e)), some (.int (iI l)), some (.int (iI ((M : Int)))), some (.ref t), some (.int (iI (rt (SD s) k l))), some (.int (iI ((k : Int)))), none, none]) (st' := [.int (iI (rt (SD s) k l)), .ref (c + 4)]) rfl rfl ?_
        refine go_v (m := 200) (as := [.ref (c + 4), .int (iI (rt (SD s) k l))]) (r := []) rfl rfl rfl (S9.1.1 3 (by decide)) rfl rfl (kq_rest z (d + 7) S9 hP.2.2.1 ol1 hM (by omega)) (fun v3 h3 hq => ?_)
        obtain ⟨rfl, eq3⟩ := hq
        rw [eq3]
        clear eq3 h3
        show xx_go (xt_P z) (d + 8) 270 95 [some (.ref (c + 30)), some (.int (iI o)), some (.int (iI e)), some (.int (iI l)), some (.int (iI ((M : Int)))), some (.ref t), some (.int (iI (rt (SD s) k l))), some (.int (iI ((k : Int)))), none, none] [.int (iI (rt (SD s) (k + 1) l))] h9 _
        refine go_a (pc' := 97) (ls' := [some (.ref (c + 30)), some (.int (iI o)), some (.int (iI e)), some (.int (iI l)), some (.int (iI ((M : Int)))), some (.ref t), some (.int (iI (rt (SD s) (k + 1) l))), some (.int (iI ((k : Int)))), none, none]) (st' := []) rfl rfl ?_
        refine go_a (pc' := 100) (ls' := [some (.ref (c + 30)), some (.int (iI o)), some (.int (iI e)), some (.int (iI l)), some (.int (iI ((M : Int)))), some (.ref t), some (.int (iI (rt (SD s) (k + 1) l))), some (.int (iI (((k : Int)) + 1))), none, none]) (st' := []) rfl (by rw [← iI_add ((k : Int)) 1]; rfl) ?_
        refine go_a (pc' := 44) (ls' := [some (.ref (c + 30)), some (.int (iI o)), some (.int (iI e)), some (.int (iI l)), some (.int (iI ((M : Int)))), some (.ref t), some (.int (iI (rt (SD s) (k + 1) l))), some (.int (iI (((k : Int)) + 1))), none, none]) (st' := []) rfl rfl ?_
        rw [show (k : Int) + 1 = ((k + 1 : Nat) : Int) by omega]
        rw [show (k : Int) + 1 = ((k + 1 : Nat) : Int) by omega] at O9
        rw [et2, sp_all_c] at hρ hσ
        exact ih (k + 1) _ _ _ _ _ (Ds ++ [t2]) (by omega) (by omega) (KST_w S9 (by omega) (by omega) (by omega)) e2 O9 (by rw [ol_so]; exact TRO_app Oa2 _ _ TOos_2) J2 (by rw [hρ]; cases sp_all (List.map (sp_tm NM.2.2.1) ((sp_as (DK s.N l)).drop (k + 1))) with | none => rfl | some os => show (F _ _).bind (fun p => sp_cs2 (sp_cz (p.1.map some ++ (Ds ++ t2 :: os).map some)) p.2) = (F _ _).bind (fun p => sp_cs2 (sp_cz (p.1.map some ++ (Ds ++ [t2] ++ os).map some)) p.2); rw [List.append_assoc]; rfl) (by rw [hσ]; cases sp_all (List.map (sp_tm NM.2.2.1) ((sp_as (DK s.N l)).drop (k + 1))) with | none => rfl | some os => rw [ifc_pos (fun w => by cases w), ifc_pos (fun w => by cases w)])
theorem kq_weak (z : Value) (d c : Nat) (o : Int) (q : Nat) (hp : xx_H) (s : KS) (NM : BKM) (hP : KPS c hp s NM) (ho : OB s o) (hL : isL (SD s) q o) (r2 : pi s 0 o ≠ 2) (w9 : WD (SD s) o ≤ 1000) (l25 : s.I 8 + WD (SD s) o ≤ 25000) (e fu : Int) (F : ob_T → Int → Option (List ob_T × Int)) (G : ob_T → Int → Int) (R : PRC z (d + 8) c (e + 1) NM fu F G) (hf : s.I 16 = fu) (hq : q = 3) : xx_cl (xt_P z) (d + 9) 270 [.ref (c + 30), .int (iI o), .int (iI e)] hp (fun v h1 => PRP c hp s (WD (SD s) o) NM.2.2.1 (sp_weak NM.2.2.1 F (DK s.N o) (s.I 17)) (sp_sg F G (ifc (sp_fw NM.2.2.1 (DK s.N o)) [sp_p 2 (DK s.N o)] []) (s.I 17)) v h1) := by
  have S0 := KST_rf hP
  have e0 : s.I 8 = s.I 8 := rfl
  have lu : s.I 8 ≤ 25000 := hP.2.2.2.2.2.2.2.1
  have u38 := KB_38 hP.2.1
  have J0 : s.I 17 = s.I 17 := rfl
  have fB := KNT_FTB hP.2.2.2.2.2.2.2.2
  have oR := OB_R hP.2.1 ho
  have W := PI_W hP.2.2.1 ho hL (by omega) r2
  have p0 : VD (SD s) (rt (SD s) 0 o) = WD (SD s) (pi s 0 o) + VD (SD s) (rt (SD s) 1 o) ∧ OB s (pi s 0 o) ∧ 1 ≤ WD (SD s) (pi s 0 o) ∧ 0 ≤ VD (SD s) (rt (SD s) 1 o) := PI_w hP.2.2.1 ho hL (j := 0) (by omega)
  have p1 : VD (SD s) (rt (SD s) 1 o) = WD (SD s) (pi s 1 o) + VD (SD s) (rt (SD s) 2 o) ∧ OB s (pi s 1 o) ∧ 1 ≤ WD (SD s) (pi s 1 o) ∧ 0 ≤ VD (SD s) (rt (SD s) 2 o) := PI_w hP.2.2.1 ho hL (j := 1) (by omega)
  have p2 : VD (SD s) (rt (SD s) 2 o) = WD (SD s) (pi s 2 o) + VD (SD s) (rt (SD s) 3 o) ∧ OB s (pi s 2 o) ∧ 1 ≤ WD (SD s) (pi s 2 o) ∧ 0 ≤ VD (SD s) (rt (SD s) 3 o) := PI_w hP.2.2.1 ho hL (j := 2) (by omega)
  obtain ⟨p0, o0, i0, j0⟩ := p0
  obtain ⟨p1, o1, i1, j1⟩ := p1
  obtain ⟨p2, o2, i2, j2⟩ := p2
  have D1 := PI_D hP ho hL (j := 1) (by omega)
  refine cl_go rfl ?_
  show xx_go (xt_P z) (d + 8) 270 0 [some (.ref (c + 30)), some (.int (iI o)), some (.int (iI e)), none, none, none, none, none, none, none] [] hp _
  refine go_a (pc' := 1) (ls' := [some (.ref (c + 30)), some (.int (iI o)), some (.int (iI e)), none, none, none, none, none, none, none]) (st' := [.ref (c + 30)]) rfl rfl ?_
  refine go_get (v := .ref (c + 4)) rfl (S0.1.1 19 (by decide)) rfl rfl ?_
  refine go_a (pc' := 5) (ls' := [some (.ref (c + 30)), some (.int (iI o)), some (.int (iI e)), none, none, none, none, none, none, none]) (st' := [.int (iI o), .ref (c + 4)]) rfl rfl ?_
  refine go_a (pc' := 6) (ls' := [some (.ref (c + 30)), some (.int (iI o)), some (.int (iI e)), none, none, none, none, none, none, none]) (st' := [.int (iI 1), .int (iI o), .ref (c + 4)]) rfl rfl ?_
  refine go_v (m := 202) (as := [.ref (c + 4), .int (iI o), .int (iI 1)]) (r := []) rfl rfl rfl (S0.1.1 3 (by decide)) rfl rfl (kq_part z (d + 6) S0 hP.2.2.1 ho hL (by omega) (by omega) (by omega)) (fun v1 h1 hq => ?_)
  obtain ⟨rfl, eq1⟩ := hq
  rw [eq1]
  clear eq1 h1
  show xx_go (xt_P z) (d + 8) 270 9 [some (.ref (c + 30)), some (.int (iI o)), some (.int (iI e)), none, none, none, none, none, none, none] [.int (iI (pi s 1 o))] hp _
  refine go_a (pc' := 10) (ls' := [some (.ref (c + 30)), some (.int (iI o)), some (.int (iI e)), some (.int (iI (pi s 1 o))), none, none, none, none, none, none]) (st' := []) rfl rfl ?_
  refine go_a (pc' := 11) (ls' := [some (.ref (c + 30)), some (.int (iI o)), some (.int (iI e)), some (.int (iI (pi s 1 o))), none, none, none, none, none, none]) (st' := [.ref (c + 30)]) rfl rfl ?_
  refine go_get (v := .ref (c + 4)) rfl (S0.1.1 19 (by decide)) rfl rfl ?_
  refine go_a (pc' := 15) (ls' := [some (.ref (c + 30)), some (.int (iI o)), some (.int (iI e)), some (.int (iI (pi s 1 o))), none, none, none, none, none, none]) (st' := [.int (iI (pi s 1 o)), .ref (c + 4)]) rfl rfl ?_
  refine go_v (m := 198) (as := [.ref (c + 4), .int (iI (pi s 1 o))]) (r := []) rfl rfl rfl (S0.1.1 3 (by decide)) rfl rfl (kq_len z (d + 6) hP S0 o1) (fun v h3 hq => ?_)
  obtain ⟨⟨n, rfl, nR, hn⟩, e9⟩ := hq
  rw [e9]
  clear e9 h3
  show xx_go (xt_P z) (d + 8) 270 18 [some (.ref (c + 30)), some (.int (iI o)), some (.int (iI e)), some (.int (iI (pi s 1 o))), none, none, none, none, none, none] [.int (iI n)] hp _
  refine go_a (pc' := 20) (ls' := [some (.ref (c + 30)), some (.int (iI o)), some (.int (iI e)), some (.int (iI (pi s 1 o))), some (.int (iI n)), none, none, none, none, none]) (st' := []) rfl rfl ?_
  refine go_a (pc' := 22) (ls' := [some (.ref (c + 30)), some (.int (iI o)), some (.int (iI e)), some (.int (iI (pi s 1 o))), some (.int (iI n)), none, none, none, none, none]) (st' := [.int (iI n)]) rfl rfl ?_
  refine mi_ge0 (t := 31) rfl rfl (by omega) (by omega) (fun w1 => ?_) (fun w1 => ?_)
  · obtain ⟨M, en, hM⟩ := hn.resolve_left (by omega)
    have vl := VD_W hP.2.2.1 o1
    have ml := isL_VD (I := UI s) hP.2.2.1.1 (CI_n0 hP.2.2.1) M (pi s 1 o) o1.1 o1.2 hM
    refine go_a (pc' := 33) (ls' := [some (.ref (c + 30)), some (.int (iI o)), some (.int (iI e)), some (.int (iI (pi s 1 o))), some (.int (iI n)), none, none, none, none, none]) (st' := [.int (iI n)]) rfl rfl ?_
    rw [en]
    refine go_newr (m := (M : Int).toNat) rfl rfl (iI_nn (by omega) (by omega)) (iI_clamp (by omega) (by omega)) (by omega) ?_
    rw [rep_r]
    obtain ⟨K1, X1, O1⟩ := ki_arrT hP.1 (s.I 8) (M : Int) hp.length (fun _ => 0) (fun _ _ => 0) (by omega) (by omega)
    have S1 := KST_X S0 K1 X1
    have h12 := KST_12 S0
    obtain ⟨t, et⟩ : ∃ q : Nat, q = hp.length := ⟨_, rfl⟩
    obtain ⟨h9, e9⟩ : ∃ q : xx_H, q = hp ++ [.inl (.object "ClauseKernel$Term", xa_r (M : Int).toNat (fun _ => none))] := ⟨_, rfl⟩
    rw [← e9] at S1 O1
    rw [← e9, ← et]
    have O2 : OTK c h9 s (s.I 8) t M 0 hp.length (fun _ => none) (fun _ => 0) (fun _ _ => 0) := by rw [et]; exact O1
    show xx_go (xt_P z) (d + 8) 270 36 [some (.ref (c + 30)), some (.int (iI o)), some (.int (iI e)), some (.int (iI (pi s 1 o))), some (.int (iI ((M : Int)))), none, none, none, none, none] [.ref t] h9 _
    refine go_a (pc' := 38) (ls' := [some (.ref (c + 30)), some (.int (iI o)), some (.int (iI e)), some (.int (iI (pi s 1 o))), some (.int (iI ((M : Int)))), some (.ref t), none, none, none, none]) (st' := []) rfl rfl ?_
    refine go_a (pc' := 39) (ls' := [some (.ref (c + 30)), some (.int (iI o)), some (.int (iI e)), some (.int (iI (pi s 1 o))), some (.int (iI ((M : Int)))), some (.ref t), none, none, none, none]) (st' := [.int (iI (pi s 1 o))]) rfl rfl ?_
    refine go_a (pc' := 41) (ls' := [some (.ref (c + 30)), some (.int (iI o)), some (.int (iI e)), some (.int (iI (pi s 1 o))), some (.int (iI ((M : Int)))), some (.ref t), some (.int (iI (pi s 1 o))), none, none, none]) (st' := []) rfl rfl ?_
    refine go_a (pc' := 42) (ls' := [some (.ref (c + 30)), some (.int (iI o)), some (.int (iI e)), some (.int (iI (pi s 1 o))), some (.int (iI ((M : Int)))), some (.ref t), some (.int (iI (pi s 1 o))), none, none, none]) (st' := [.int (iI 0)]) rfl rfl ?_
    refine go_a (pc' := 44) (ls' := [some (.ref (c + 30)), some (.int (iI o)), some (.int (iI e)), some (.int (iI (pi s 1 o))), some (.int (iI ((M : Int)))), some (.ref t), some (.int (iI (pi s 1 o))), some (.int (iI 0)), none, none]) (st' := []) rfl rfl ?_
    have pl := (AS_len hP o1 hM).1
    have hs9 : (sp_sg F G (ifc (sp_fw NM.2.2.1 (DK s.N o)) [sp_p 2 (DK s.N o)] []) (s.I 17)) = sp_sg F G (ifc (sp_all (((sp_as (DK s.N (pi s 1 o))).drop 0).map (sp_tm NM.2.2.1)) ≠ none) [sp_p 2 (DK s.N o)] []) (s.I 17) := by
      rw [D1] at pl ⊢
      rw [List.drop_zero]
      unfold sp_fw
      by_cases c9 : sp_all (List.map (sp_tm NM.2.2.1) (sp_as (sp_p 1 (DK s.N o)))) = none
      · rw [ifc_neg (fun w => w.2 c9), ifc_neg (fun w => w c9)]
      · rw [ifc_pos ⟨pl, c9⟩, ifc_pos c9]
    exact kq_weak_l1 z d c o q hp s NM hP ho hL r2 w9 l25 e fu F G R hf hq (pi s 1 o) M t o1 hM (by omega) (by omega) (by omega) _ _ _ 0 _ _ _ _ _ [] (Nat.le_refl _) (Nat.zero_le _) (KST_w S1 (by omega) (by show _ ≤ _ + _ + (VD (SD s) (pi s 1 o) - VD (SD s) (pi s 1 o)); omega) (by omega)) rfl O2 trivial rfl (by unfold sp_weak; rw [D1] at pl ⊢; rw [if_pos pl]; rfl) hs9
  · have pn : sp_pl (sp_p 1 (DK s.N o)) = false := by
      rcases hn with ⟨-, h⟩ | ⟨M, h, -⟩
      · rw [D1] at h
        exact h
      · omega
    refine go_a (pc' := 26) (ls' := [some (.ref (c + 30)), some (.int (iI o)), some (.int (iI e)), some (.int (iI (pi s 1 o))), some (.int (iI n)), none, none, none, none, none]) (st' := [.ref (c + 30)]) rfl rfl ?_
    refine go_a (pc' := 27) (ls' := [some (.ref (c + 30)), some (.int (iI o)), some (.int (iI e)), some (.int (iI (pi s 1 o))), some (.int (iI n)), none, none, none, none, none]) (st' := [.int (iI o), .ref (c + 30)]) rfl rfl ?_
    refine go_v (m := 248) (as := [.ref (c + 30), .int (iI o)]) (r := []) rfl rfl rfl (S0.1.1 19 (by decide)) rfl rfl (kq_failAtP z (d + 7) (w := WD (SD s) o) S0 (by omega) (by omega) (by omega) (by omega) (by omega) (ft := NM.2.2.1) (ρ := (sp_weak NM.2.2.1 F (DK s.N o) (s.I 17))) (σ := (sp_sg F G (ifc (sp_fw NM.2.2.1 (DK s.N o)) [sp_p 2 (DK s.N o)] []) (s.I 17))) (by unfold sp_weak; rw [if_neg (by rw [pn]; decide)]) (by rw [ifc_neg (fun w => by have := w.1; rw [pn] at this; cases this)]; exact J0)) (fun v3 h3 hq => ?_)
    obtain ⟨rfl, R3⟩ := hq
    show xx_go (xt_P z) (d + 8) 270 30 [some (.ref (c + 30)), some (.int (iI o)), some (.int (iI e)), some (.int (iI (pi s 1 o))), some (.int (iI n)), none, none, none, none, none] [.null] h3 _
    exact go_r rfl rfl rfl rfl rfl rfl R3
