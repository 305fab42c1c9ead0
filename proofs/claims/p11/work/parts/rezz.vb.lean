def VB (bk : List sp_Th) : Prop := ∀ th ∈ bk, sp_vp (sp_tx th)
def VF (F : sp_F) : Prop := ∀ kl ∈ F, ∀ x ∈ kl.2, sp_vp x
section VPS
variable {f : Int → Int} {n p : Int} {t x : ob_T}
theorem wcf_p : ∀ (m : Nat) (p a : Int), 1 ≤ a → 1 ≤ wcf f m p a
  | 0, _, _, h => h
  | m + 1, p, a, h => by
    have r := LIX_R (f p)
    exact wcf_p m (p + 1) (47 * a + (LIX (f p) + 1)) (by omega)
theorem at_vp {m : Nat} (l : 0 ≤ LIX (f p)) (m1 : 1 ≤ m) (h : sp_at f p m = some t) : sp_vp t := by
  unfold sp_at at h
  by_cases c : sp_dg f p m = 1
  · rw [if_pos c] at h
    cases q : sp_nv f p m with
    | none =>
      rw [q] at h
      cases h
    | some a =>
      rw [q] at h
      injection h with h
      rw [← h]
      exact trivial
  · rw [if_neg c] at h
    by_cases c2 : m ≤ 11
    · rw [if_pos c2] at h
      injection h with h
      rw [← h]
      show (wcf f m p 0).toNat ≠ 0
      obtain ⟨k, rfl⟩ : ∃ k : Nat, m = k + 1 := ⟨m - 1, by omega⟩
      have q := wcf_p (f := f) k (p + 1) (47 * 0 + (LIX (f p) + 1)) (by omega)
      have q : 1 ≤ wcf f (k + 1) p 0 := q
      omega
    · rw [if_neg c2] at h
      cases h
theorem wt_vp {y : Int × ob_T} (pn : p < n) (h : sp_wt f n p = some y) : sp_vp y.2 := by
  unfold sp_wt at h
  by_cases c : 0 ≤ LIX (f p)
  · rw [if_pos c] at h
    have g : p + 1 ≤ sp_ae f (n - p).toNat p := by
      obtain ⟨k, e⟩ : ∃ k : Nat, (n - p).toNat = k + 1 := ⟨(n - p).toNat - 1, by omega⟩
      rw [e]
      show p + 1 ≤ (if 0 ≤ LIX (f p) then sp_ae f k (p + 1) else p)
      rw [if_pos c]
      exact (ae_R (f := f) k (p + 1)).1
    cases q : sp_at f p (sp_ae f (n - p).toNat p - p).toNat with
    | none =>
      rw [q] at h
      cases h
    | some t =>
      rw [q] at h
      injection h with h
      rw [← h]
      exact at_vp c (by omega) q
  · rw [if_neg c] at h
    by_cases c2 : f p = 40 ∨ f p = 41 ∨ f p = 39 ∨ f p = 46
    · rw [if_pos c2] at h
      injection h with h
      rw [← h]
      exact trivial
    · rw [if_neg c2] at h
      cases h
theorem nil_vp : sp_vp sp_nil := show (31361 : Nat) ≠ 0 by decide
theorem q_vp (h : sp_vp x) : sp_vp (sp_q x) := ⟨show (85168940 : Nat) ≠ 0 by decide, h, nil_vp⟩
theorem vf_add : ∀ (F : sp_F) (x : ob_T), VF F → sp_vp x → VF (sp_add F x)
  | [], _, h, _ => h
  | (k, l) :: r, x, h, hx => by
    have hr : VF r := fun kl q => h kl (List.mem_cons_of_mem _ q)
    show VF (if k = 2 then sp_add r (sp_q x) else (sp_nk k, x :: l) :: r)
    by_cases c : k = 2
    · rw [if_pos c]
      exact vf_add r (sp_q x) hr (q_vp hx)
    · rw [if_neg c]
      intro kl q y hy
      rcases List.mem_cons.mp q with rfl | q
      · rcases List.mem_cons.mp hy with rfl | hy
        · exact hx
        · exact h (k, l) (List.mem_cons_self ..) y hy
      · exact hr kl q y hy
theorem ls_vp : ∀ (l : List ob_T) (v : ob_T), (∀ x ∈ l, sp_vp x) → sp_vp v → sp_vp (sp_ls l v)
  | [], _, _, h => h
  | x :: l, v, hl, h => ls_vp l (.add x v) (fun y q => hl y (List.mem_cons_of_mem _ q)) ⟨hl x (List.mem_cons_self ..), h⟩
theorem cv_vp {k : Int} {l : List ob_T} (hl : ∀ x ∈ l, sp_vp x) : sp_vp (sp_cv k l) := by
  unfold sp_cv
  by_cases c : k = 6
  · rw [if_pos c]
    cases l with
    | nil => exact nil_vp
    | cons v l2 => exact ls_vp l2 v (fun y q => hl y (List.mem_cons_of_mem _ q)) (hl v (List.mem_cons_self ..))
  · rw [if_neg c]
    exact ls_vp l sp_nil hl nil_vp
theorem cl_vp : ∀ F : sp_F, VF F → VF (sp_cl F)
  | [], h => h
  | (k, l) :: r, h => vf_add r (sp_cv k l) (fun kl q => h kl (List.mem_cons_of_mem _ q)) (cv_vp (h (k, l) (List.mem_cons_self ..)))
theorem dot_vp : ∀ F : sp_F, VF F → VF (sp_dot F)
  | [], h => h
  | (k, l) :: r, h => fun kl q => by
    have q : kl ∈ (5, l) :: r := q
    rcases List.mem_cons.mp q with rfl | q
    · exact h (k, l) (List.mem_cons_self ..)
    · exact h kl (List.mem_cons_of_mem _ q)
theorem nw_vp {k : Int} {F : sp_F} (h : VF F) : VF ((k, []) :: F) := fun kl q => by
  rcases List.mem_cons.mp q with rfl | q
  · intro y hy
    cases hy
  · exact h kl q
theorem acc_vp {w : Int} {F : sp_F} (h : VF F) (hx : sp_vp x) : VF (sp_acc w x F) := by
  unfold sp_acc
  by_cases c1 : w = 40
  · rw [if_pos c1]
    exact nw_vp h
  · rw [if_neg c1]
    by_cases c2 : w = 39
    · rw [if_pos c2]
      exact nw_vp h
    · rw [if_neg c2]
      by_cases c3 : w = 46
      · rw [if_pos c3]
        exact dot_vp F h
      · rw [if_neg c3]
        by_cases c4 : w = 41
        · rw [if_pos c4]
          exact cl_vp F h
        · rw [if_neg c4]
          exact vf_add F x h hx
theorem end_vp {F : sp_F} (h : VF F) (e : sp_end F = some t) : sp_vp t := by
  unfold sp_end at e
  split at e
  · injection e with e
    rw [← e]
    exact h _ (List.mem_cons_self ..) _ (List.mem_cons_self ..)
  · cases e
theorem rd_vp : ∀ (m : Nat) (p w : Int) (F : sp_F), VF F → sp_rd f n m p w F = some t → sp_vp t
  | 0, _, _, _, _, h => by cases h
  | m + 1, p, w, F, hF, h => by
    have h : (if n ≤ p then sp_end F else match sp_wt f n p with
      | none => none
      | some x => if sp_ok w x.1 F then sp_rd f n m (sp_sk f (n - sp_wd f n p).toNat (sp_wd f n p) 0) (w + 1) (sp_acc x.1 x.2 F) else none) = some t := h
    by_cases c : n ≤ p
    · rw [if_pos c] at h
      exact end_vp hF h
    · rw [if_neg c] at h
      cases q : sp_wt f n p with
      | none =>
        rw [q] at h
        cases h
      | some x =>
        rw [q] at h
        have h : (if sp_ok w x.1 F then sp_rd f n m (sp_sk f (n - sp_wd f n p).toNat (sp_wd f n p) 0) (w + 1) (sp_acc x.1 x.2 F) else none) = some t := h
        by_cases c2 : sp_ok w x.1 F
        · rw [if_pos c2] at h
          exact rd_vp m _ _ _ (acc_vp hF (wt_vp (by omega) q)) h
        · rw [if_neg c2] at h
          cases h
theorem RD_vp (h : sp_RD f n = some t) : sp_vp t := rd_vp _ _ _ _ (nw_vp (fun kl q => (by cases q))) h
theorem as_vp : ∀ t : ob_T, sp_vp t → ∀ x ∈ sp_as t, sp_vp x
  | .add a b, h, x, hx => by
    rcases List.mem_cons.mp (show x ∈ a :: sp_as b from hx) with rfl | q
    · exact h.1
    · exact as_vp b h.2 x q
  | .num _, _, x, hx => (by have hx : x ∈ ([] : List ob_T) := hx; cases hx)
  | .var _, _, x, hx => (by have hx : x ∈ ([] : List ob_T) := hx; cases hx)
  | .sub _ _, _, x, hx => (by have hx : x ∈ ([] : List ob_T) := hx; cases hx)
  | .neg _, _, x, hx => (by have hx : x ∈ ([] : List ob_T) := hx; cases hx)
  | .mulL _ _, _, x, hx => (by have hx : x ∈ ([] : List ob_T) := hx; cases hx)
  | .mulR _ _, _, x, hx => (by have hx : x ∈ ([] : List ob_T) := hx; cases hx)
theorem p_vp (h : sp_vp t) (j : Nat) : sp_vp (sp_p j t) := by
  show sp_vp ((sp_as t).getD j (.var 31361))
  rw [List.getD_eq_getElem?_getD]
  cases q : (sp_as t)[j]? with
  | none => exact nil_vp
  | some y => exact as_vp t h y (List.mem_of_getElem? q)
theorem fst_vp : ∀ b : ob_T, sp_vp b → sp_vp (sp_fst b)
  | .add _ _, h => h.1
  | .num _, h => h
  | .var _, h => h
  | .sub _ _, h => h
  | .neg _, h => h
  | .mulL _ _, h => h
  | .mulR _ _, h => h
theorem nf_vp : ∀ t : ob_T, sp_vp t → sp_vp (sp_nf t).1 ∧ sp_vp (sp_nf t).2
  | .add a b, h => by
    have ia := nf_vp a h.1
    have ib := nf_vp b h.2
    refine ⟨?_, ia.1, ib.2⟩
    show sp_vp (if sp_isq a = true then (if sp_ba (sp_fst b) = true then sp_fst b else .add a b) else .add a (sp_nf b).2)
    by_cases c : sp_isq a = true
    · rw [if_pos c]
      by_cases c2 : sp_ba (sp_fst b) = true
      · rw [if_pos c2]
        exact fst_vp b h.2
      · rw [if_neg c2]
        exact h
    · rw [if_neg c]
      exact ⟨h.1, ib.2⟩
  | .num _, h => ⟨h, h⟩
  | .var _, h => ⟨h, h⟩
  | .sub _ _, h => ⟨h, h⟩
  | .neg _, h => ⟨h, h⟩
  | .mulL _ _, h => ⟨h, h⟩
  | .mulR _ _, h => ⟨h, h⟩
theorem tm_vp {ft : Nat → Int} {B : ob_T} (h : sp_tm ft x = some B) (hx : sp_vp x) : sp_vp B := by
  unfold sp_tm at h
  split at h
  · injection h with h
    rw [← h]
    exact (nf_vp x hx).1
  · cases h
theorem li_vp : ∀ l : List ob_T, (∀ x ∈ l, sp_vp x) → sp_vp (sp_li l)
  | [], _ => nil_vp
  | a :: r, h => ⟨h a (List.mem_cons_self ..), li_vp r (fun y q => h y (List.mem_cons_of_mem _ q))⟩
theorem tx_F {v : Nat} {ps : List Nat} {B : ob_T} (hv : v ≠ 0) (hp : ∀ w ∈ ps, w ≠ 0) (hB : sp_vp B) : sp_vp (sp_tx (v, some ps, B)) := by
  refine ⟨show (20052094 : Nat) ≠ 0 by decide, hv, li_vp _ (fun y hy => ?_), hB, nil_vp⟩
  obtain ⟨w, hw, rfl⟩ := List.mem_map.mp hy
  exact hp w hw
theorem tx_T {v : Nat} {B : ob_T} (hv : v ≠ 0) (hB : sp_vp B) : sp_vp (sp_tx (v, none, B)) := ⟨show (217445062396 : Nat) ≠ 0 by decide, hv, hB, nil_vp⟩
theorem hc_vp {y : ob_T} (h : sp_vp y) (hi : ∀ x ∈ sp_as y, sp_iv x = true) : ∀ w ∈ (sp_as y).map sp_hc, w ≠ 0 := by
  intro w hw
  obtain ⟨x, hx, e⟩ := List.mem_map.mp hw
  obtain ⟨v, ev, -⟩ := sp_iv_e (hi x hx)
  have q := as_vp y h x hx
  rw [ev] at q e
  rw [← e]
  exact q
theorem VB_cons {bk : List sp_Th} {th : sp_Th} (h : VB bk) (ht : sp_vp (sp_tx th)) : VB (th :: bk) := fun y hy => by
  rcases List.mem_cons.mp hy with rfl | q
  · exact ht
  · exact h y q
theorem def_vp {bk : List sp_Th} (h : VB bk) (hx : sp_vp x) : VB (sp_def bk x) := by
  have p1 := p_vp hx 1
  unfold sp_def
  split
  · rename_i v e
    rw [e] at p1
    split
    · rename_i B e2
      unfold ifc
      split
      · rename_i c
        exact VB_cons h (tx_F p1 (hc_vp (p_vp hx 2) c.2.1.2.2.1) (tm_vp e2 (p_vp hx 3)))
      · exact h
    · exact h
  · exact h
theorem chk_vp {bk : List sp_Th} {fuel : Int} (h : VB bk) (hx : sp_vp x) : VB (sp_chk bk fuel x).1 := by
  have p1 := p_vp hx 1
  unfold sp_chk
  split
  · rename_i v e
    rw [e] at p1
    split
    · rename_i B e2
      unfold ifc
      split
      · split
        · exact h
        · dsimp only
          split
          · exact VB_cons h (tx_T p1 (tm_vp e2 (p_vp hx 2)))
          · exact h
      · exact h
    · exact h
  · exact h
theorem cmd_vp {bk : List sp_Th} {lit fuel : Int} (h : VB bk) (hx : sp_vp x) : VB (sp_cmd bk lit fuel x).1.1 := by
  unfold sp_cmd
  split
  · exact h
  · split
    · exact def_vp h hx
    · split
      · exact chk_vp h hx
      · split
        · split <;> exact h
        · split
          · exact fun y hy => h y (List.mem_of_mem_drop hy)
          · exact h
theorem VB_run {bk t1 : List sp_Th} {lit fuel a b : Int} (er : ((t1, a), b) = sp_run bk lit fuel (sp_RD f n)) (h : VB bk) : VB t1 := by
  have q : VB (sp_run bk lit fuel (sp_RD f n)).1.1 := by
    cases e : sp_RD f n with
    | none => exact h
    | some x => exact cmd_vp h (RD_vp e)
  rw [← er] at q
  exact q
end VPS
def TLX (A : Nat → Int → Int) (N : Int → Int) (x : Int) : ob_T := if A 27 x = 0 then (sp_li [DM A N 18, DM A N (A 25 (CNT (A 27) (A 27 x) x.toNat)), DM A N (A 26 (CNT (A 27) (A 27 x) x.toNat))]) else (sp_li [DM A N 17, DM A N (A 20 (CNT (A 27) (A 27 x) x.toNat)), sp_li ((List.range (A 21 (CNT (A 27) (A 27 x) x.toNat)).toNat).map (fun j : Nat => DM A N (A 22 (6 * CNT (A 27) (A 27 x) x.toNat + (j : Int))))), DM A N (A 23 (CNT (A 27) (A 27 x) x.toNat))])
def TLB (t : List sp_Th) (x b : Int) : Prop := (¬ (0 ≤ x ∧ x < (t.length : Int)) ∧ b = -1) ∨ (0 ≤ x ∧ x < (t.length : Int)) ∧ ∃ th : sp_Th, t[t.length - 1 - x.toNat]? = some th ∧ CP (sp_ln 0 (sp_tx th)).1 b
theorem TL_R {t : List sp_Th} {x b : Int} (h : TLA t x b) : -1 ≤ b ∧ b ≤ 2000 := by
  rcases h with ⟨-, h⟩ | ⟨-, th, -, h⟩
  · omega
  · have q := (ln_nn (z := 1) (by decide) (sp_tx th)).1
    unfold CP at h
    omega
theorem TL_eq {t : List sp_Th} {x a b : Int} (hv : VB t) (h : TLA t x a) (g : TLB t x b) : a = b := by
  rcases h with ⟨n1, h⟩ | ⟨r1, th, e1, h⟩
  · rcases g with ⟨n2, g⟩ | ⟨r2, -⟩
    · omega
    · exact absurd r2 n1
  · rcases g with ⟨n2, g⟩ | ⟨r2, th2, e2, g⟩
    · exact absurd r1 n2
    · rw [e1] at e2
      injection e2 with e2
      rw [← e2, ln_z (y := 0) (z := 1) (sp_tx th) (hv th (List.mem_of_getElem? e1))] at g
      unfold CP at h g
      omega
section TXR
variable {A : Nat → Int → Int} {N : Int → Int}
theorem TX_up {t : List sp_Th} {x : Int} {T : ob_T} (th : sp_Th) (x0 : 0 ≤ x) (x1 : x < (t.length : Int)) (h : ∃ th1 : sp_Th, t[t.length - 1 - x.toNat]? = some th1 ∧ T = sp_tx th1) : ∃ th1 : sp_Th, (th :: t)[(th :: t).length - 1 - x.toNat]? = some th1 ∧ T = sp_tx th1 := by
  obtain ⟨th1, e, q⟩ := h
  refine ⟨th1, ?_, q⟩
  rw [List.length_cons, show t.length + 1 - 1 - x.toNat = (t.length - 1 - x.toNat) + 1 by omega]
  exact e
theorem TX_row (d17 : DM A N 17 = .var 20052094) (d18 : DM A N 18 = .var 217445062396) : ∀ bk : List sp_Th, KND (A 27) bk → ROWS bk A N → ∀ x : Int, 0 ≤ x → x < (bk.length : Int) → ∃ th : sp_Th, bk[bk.length - 1 - x.toNat]? = some th ∧ TLX A N x = sp_tx th
  | [], _, _, x, x0, x1 => absurd x1 (by rw [List.length_nil]; omega)
  | (v, some ps, B) :: r, k, w, x, x0, x1 => by
    rw [List.length_cons] at x1
    by_cases c : x = (r.length : Int)
    · refine ⟨(v, some ps, B), ?_, ?_⟩
      · rw [List.length_cons, show r.length + 1 - 1 - x.toNat = 0 by omega]
        rfl
      · have a := k.1
        have cn := (KND_cnt r k.2).1
        obtain ⟨v1, ps1, B1, q1, q2⟩ := w.1 (sp_FB r).length (by show _ < (sp_FB r ++ [(v, ps, B)]).length; rw [List.length_append, List.length_singleton]; omega)
        have q1 : (sp_FB r ++ [(v, ps, B)])[(sp_FB r).length]? = some (v1, ps1, B1) := q1
        rw [List.getElem?_append_right (Nat.le_refl _), Nat.sub_self] at q1
        have q1 : some (v, ps, B) = some (v1, ps1, B1) := q1
        injection q1 with q1
        injection q1 with e1 q1
        injection q1 with e2 e3
        subst e1
        subst e2
        subst e3
        obtain ⟨r1, ⟨r2, r3⟩, r4, -⟩ := q2
        have mp : (List.range ps.length).map (fun j : Nat => DM A N (A 22 (6 * ((sp_FB r).length : Int) + (j : Int)))) = ps.map .var := by
          apply List.ext_getElem?
          intro i
          by_cases ci : i < ps.length
          · obtain ⟨w1, e1, e2, -⟩ := r3 i ci
            rw [List.getElem?_map, List.getElem?_map, List.getElem?_range ci, e1]
            show some (DM A N (A 22 (6 * ((sp_FB r).length : Int) + (i : Int)))) = some (.var w1)
            rw [e2]
          · rw [List.getElem?_eq_none (by rw [List.length_map, List.length_range]; omega), List.getElem?_eq_none (by rw [List.length_map]; omega)]
        unfold TLX
        rw [c, a, if_neg (by decide), Int.toNat_natCast, cn, r1, ← r4, d17, ← r2, Int.toNat_natCast, mp]
        rfl
    · exact TX_up _ x0 (by omega) (TX_row d17 d18 r k.2 (ROWS_tl w) x x0 (by omega))
  | (v, none, B) :: r, k, w, x, x0, x1 => by
    rw [List.length_cons] at x1
    by_cases c : x = (r.length : Int)
    · refine ⟨(v, none, B), ?_, ?_⟩
      · rw [List.length_cons, show r.length + 1 - 1 - x.toNat = 0 by omega]
        rfl
      · have a := k.1
        have cn := (KND_cnt r k.2).2
        obtain ⟨v1, B1, q1, q2⟩ := w.2 (sp_TB r).length (by show _ < (sp_TB r ++ [(v, B)]).length; rw [List.length_append, List.length_singleton]; omega)
        have q1 : (sp_TB r ++ [(v, B)])[(sp_TB r).length]? = some (v1, B1) := q1
        rw [List.getElem?_append_right (Nat.le_refl _), Nat.sub_self] at q1
        have q1 : some (v, B) = some (v1, B1) := q1
        injection q1 with q1
        injection q1 with e1 e3
        subst e1
        subst e3
        obtain ⟨r1, r4⟩ := q2
        unfold TLX
        rw [c, a, if_pos rfl, Int.toNat_natCast, cn, r1, ← r4, d18]
        rfl
    · exact TX_up _ x0 (by omega) (TX_row d17 d18 r k.2 (ROWS_tl w) x x0 (by omega))
end TXR
theorem mc_tellX (z : Value) (d : Nat) (c x : Int) (h R : xx_H) (I : Nat → Int) (A : Nat → Int → Int) (N : Int → Int) (hc : 12 ≤ h.length) (bk : List sp_Th) (hI : MIC c I A N) (hT : TBK bk I A N) (hc2 : c ≤ 512) (x0 : -2147483648 ≤ x) (x1 : x < 2147483648) : xx_cl (xt_P z) (d + 7) 79 [.ref h.length, .int (iI x)] (mh h R I A N) (fun v h1 => ∃ (b : Int) (I1 : Nat → Int) (A1 : Nat → Int → Int), v = some (.int (iI b)) ∧ h1 = mh h R I1 A1 N ∧ MIC (c + 1) I1 A1 N ∧ I1 13 = I 13 ∧ I1 47 = I 47 ∧ (TBK bk I1 A1 N ∧ I1 48 = I 48 ∧ I1 50 = I 50) ∧ A1 10 = A 10 ∧ A1 11 = A 11 ∧ TLB bk x b) := by
  have h0 := hI
  obtain ⟨D, w, hw, p, q⟩ := hI
  have nz := NZ_nn (f := A 11) (I 13).toNat
  have tk := D.2.1
  have nm := D.1.2.1.1
  have hS := D.1.1
  have v := D.2.2.1
  refine cl_w (fun v h1 hq => ?_) (mm_tellY z d x h R I A N hc hS D.1.2.1 hT.1 (by omega) (by omega) (TKN_TLI tk) x0 x1)
  have l41 := hT.2.1
  rcases hq with ⟨rfl, rfl, nx⟩ | ⟨xr, I1, A1, rfl, rfl, X, e7, e10, e15, z4, k8, cp⟩
  · exact ⟨-1, I, A, rfl, rfl, MIC_same h0 D (Int.le_refl _) (Int.le_refl _) rfl rfl rfl, rfl, rfl, ⟨hT, rfl, rfl⟩, rfl, rfl, Or.inl ⟨by rw [l41]; exact nx, rfl⟩⟩
  · obtain ⟨th, th1, th2⟩ := TX_row (A := A) (N := N) (hT.1.2 17 (by decide)) (hT.1.2 18 (by decide)) bk hT.2.2.1 hT.2.2.2.2 x xr.1 (by rw [l41]; exact xr.2)
    have fj : ∀ j : Nat, j ≠ 7 → j ≠ 10 → j ≠ 15 → j ≠ 19 → I1 j = I j := fun j a b c d => X.2.2.2.1 j a (by unfold FTL; omega)
    have ga : ∀ a : Nat, a = 10 ∨ a = 11 ∨ a = 13 ∨ (20 ≤ a ∧ a ≤ 28) → A1 a = A a := fun a p => X.2.2.2.2 a (by omega) (by omega) (by omega) (by omega) (by omega) (by omega) (by unfold GTL; omega)
    have f41 : I1 41 = I 41 := fj 41 (by decide) (by decide) (by decide) (by decide)
    have f32 : I1 32 = I 32 := fj 32 (by decide) (by decide) (by decide) (by decide)
    have f38 : I1 38 = I 38 := fj 38 (by decide) (by decide) (by decide) (by decide)
    have f44 : I1 44 = I 44 := fj 44 (by decide) (by decide) (by decide) (by decide)
    have f45 : I1 45 = I 45 := fj 45 (by decide) (by decide) (by decide) (by decide)
    have f54 : I1 54 = I 54 := fj 54 (by decide) (by decide) (by decide) (by decide)
    have f56 : I1 56 = I 56 := fj 56 (by decide) (by decide) (by decide) (by decide)
    have f47 : I1 47 = I 47 := fj 47 (by decide) (by decide) (by decide) (by decide)
    have f50 : I1 50 = I 50 := fj 50 (by decide) (by decide) (by decide) (by decide)
    have f49 : I1 49 = I 49 := fj 49 (by decide) (by decide) (by decide) (by decide)
    have f13 : I1 13 = I 13 := fj 13 (by decide) (by decide) (by decide) (by decide)
    have f48 : I1 48 = I 48 := fj 48 (by decide) (by decide) (by decide) (by decide)
    have D1 := IDL_back (T := I 41) (I3 := I1) (A3 := A1) (N2 := N) D tk.1 (Int.le_refl _) X.1 (SZI_pre (MST_PW hS) D.1.2.2 e7 (fun k a b => ⟨(X.2.2.1 k a b).1, (X.2.2.1 k a b).2.1, z4 k a b⟩)) (by rw [LIM_T]; exact e7) f41 (by rw [f32]; exact tk.2.2.1.1) (by rw [f38]; exact tk.2.2.1.2) (fun k a b => ⟨(X.2.2.1 k a b).1, (X.2.2.1 k a b).2.1, (X.2.2.1 k a b).2.2.2⟩) (fun a p q => ga a (by omega)) (by omega) (by omega) (by omega) f47 e15 (by omega) (by omega) (by omega) (ga 10 (by omega)) (ga 11 (by omega)) (by rw [ga 13 (by omega)]; exact D.2.2.2.2.2)
    obtain ⟨T9, dm9⟩ := TRX_px (I1 := I1) (A1 := A1) (N1 := N) hS hT.1 (by omega) (by omega) (fun k a b => ⟨(X.2.2.1 k a (by omega)).1, (X.2.2.1 k a (by omega)).2.1, rfl⟩) k8.1 k8.2
    exact ⟨I1 15, I1, A1, rfl, rfl, MIC_same h0 D1 (by omega) e10 f13 (ga 11 (by omega)) (ga 10 (by omega)), f13, f47, ⟨TBK_same hT tk T9 f41 (fun k a b => dm9 k a (by omega)) (fun a p q => ga a (by omega)), f48, f50⟩, ga 10 (by omega), ga 11 (by omega), Or.inr ⟨by rw [l41]; exact xr, th, th1, by rw [← th2]; exact cp⟩⟩
