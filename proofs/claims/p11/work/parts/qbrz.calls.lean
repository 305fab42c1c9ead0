section CCS
variable {fn : Nat} {Vs : List Nat} {Os : List ob_T} {ft : Nat → Int}
theorem cc_add (a b : ob_T) : sp_cc fn (.add a b) = (if sp_isq a = true then [] else (if sp_ish fn a = true then [b] else []) ++ (sp_cc fn b).2, (sp_cc fn a).1 ++ (sp_cc fn b).2) := rfl
theorem cc_in (h : RNV Os) : ∀ t : ob_T, (sp_cc fn (sp_in Vs Os t).1).1 = (sp_cc fn t).1.map (fun b => (sp_in Vs Os b).2) ∧ (sp_cc fn (sp_in Vs Os t).2).2 = (sp_cc fn t).2.map (fun b => (sp_in Vs Os b).2)
  | .add a b => by
    have ra := cc_in h a
    have rb := cc_in h b
    refine ⟨?_, ?_⟩
    · rw [in_add]
      by_cases q : sp_isq a = true
      · rw [if_pos q, cc_add, if_pos q]
        rfl
      · rw [if_neg q, cc_add, cc_add, if_neg q, if_neg q, List.map_append, rb.2]
        by_cases c : sp_ish fn a = true
        · rw [if_pos c, if_pos c]
          rfl
        · rw [if_neg c, if_neg c]
          rfl
    · rw [in_l, cc_add, cc_add, List.map_append, ra.1, rb.2]
  | .var v => by
    refine ⟨?_, rfl⟩
    rcases in_var (Vs := Vs) h v with ⟨-, e⟩ | ⟨-, w, e, -⟩
    · rw [e]
      rfl
    · rw [e]
      rfl
  | .num n => ⟨rfl, rfl⟩
  | .sub _ _ => ⟨rfl, rfl⟩
  | .neg _ => ⟨rfl, rfl⟩
  | .mulL _ _ => ⟨rfl, rfl⟩
  | .mulR _ _ => ⟨rfl, rfl⟩
theorem as_in : ∀ t : ob_T, sp_as (sp_in Vs Os t).2 = (sp_as t).map (fun b => (sp_in Vs Os b).1)
  | .add a b => by
    rw [in_l]
    show (sp_in Vs Os a).1 :: sp_as (sp_in Vs Os b).2 = _
    rw [as_in b]
    rfl
  | .var v => rfl
  | .num n => rfl
  | .sub _ _ => rfl
  | .neg _ => rfl
  | .mulL _ _ => rfl
  | .mulR _ _ => rfl
theorem cc_ts : ∀ t : ob_T, (1 ≤ (sp_ts ft t).1 → ∀ b ∈ (sp_cc fn t).1, 0 ≤ (sp_ts ft b).2.1) ∧ (0 ≤ (sp_ts ft t).2.1 → ∀ b ∈ (sp_cc fn t).2, 0 ≤ (sp_ts ft b).2.1)
  | .add a b => by
    have ra := cc_ts a
    have rb := cc_ts b
    refine ⟨fun h x hx => ?_, fun h x hx => ?_⟩
    · rw [cc_add] at hx
      rw [ts_1] at h
      by_cases q : sp_isq a = true
      · rw [if_pos q] at hx
        cases hx
      · rw [if_neg q] at hx h
        have h2 : 0 ≤ (sp_ts ft b).2.1 := by
          by_cases c : 0 ≤ (sp_ts ft b).2.1 ∧ (sp_ts ft b).2.2 = sp_arT ft a
          · exact c.1
          · rw [if_neg c] at h
            exact absurd h (by decide)
        rcases List.mem_append.mp hx with hx | hx
        · by_cases c : sp_ish fn a = true
          · rw [if_pos c] at hx
            rw [List.mem_singleton.mp hx]
            exact h2
          · rw [if_neg c] at hx
            cases hx
        · exact rb.2 h2 x hx
    · rw [cc_add] at hx
      rw [ts_2] at h
      have h2 : 1 ≤ (sp_ts ft a).1 ∧ 0 ≤ (sp_ts ft b).2.1 := by
        by_cases c : 1 ≤ (sp_ts ft a).1 ∧ 0 ≤ (sp_ts ft b).2.1
        · exact c
        · rw [if_neg c] at h
          exact absurd h (by decide)
      rcases List.mem_append.mp hx with hx | hx
      · exact ra.1 h2.1 x hx
      · exact rb.2 h2.2 x hx
  | .var v => ⟨fun _ x hx => (by cases hx), fun _ x hx => (by cases hx)⟩
  | .num n => ⟨fun _ x hx => (by cases hx), fun _ x hx => (by cases hx)⟩
  | .sub _ _ => ⟨fun _ x hx => (by cases hx), fun _ x hx => (by cases hx)⟩
  | .neg _ => ⟨fun _ x hx => (by cases hx), fun _ x hx => (by cases hx)⟩
  | .mulL _ _ => ⟨fun _ x hx => (by cases hx), fun _ x hx => (by cases hx)⟩
  | .mulR _ _ => ⟨fun _ x hx => (by cases hx), fun _ x hx => (by cases hx)⟩
theorem ts_as : ∀ t : ob_T, 0 ≤ (sp_ts ft t).2.1 → ∀ x ∈ sp_as t, 1 ≤ (sp_ts ft x).1
  | .add a b, h, x, hx => by
    rw [ts_2] at h
    have h2 : 1 ≤ (sp_ts ft a).1 ∧ 0 ≤ (sp_ts ft b).2.1 := by
      by_cases c : 1 ≤ (sp_ts ft a).1 ∧ 0 ≤ (sp_ts ft b).2.1
      · exact c
      · rw [if_neg c] at h
        exact absurd h (by decide)
    rcases List.mem_cons.mp hx with hx | hx
    · rw [hx]
      exact h2.1
    · exact ts_as b h2.2 x hx
  | .var v, _, x, hx => by cases hx
  | .num n, _, x, hx => by cases hx
  | .sub _ _, _, x, hx => by cases hx
  | .neg _, _, x, hx => by cases hx
  | .mulL _ _, _, x, hx => by cases hx
  | .mulR _ _, _, x, hx => by cases hx
end CCS
section FCS
variable {I : Nat → Int} {A : Nat → Int → Int} {N : Int → Int} {f : Int} {fn : Nat} {b : ob_T}
noncomputable def wcc (A : Nat → Int → Int) (N : Int → Int) (f : Int) (b : ob_T) (k : Int) : Int := ifc (A 1 k = f ∧ DM A N (A 2 k) = b) 1 0
theorem wcc_nn (k : Int) : 0 ≤ wcc A N f b k := by
  unfold wcc
  by_cases c : A 1 k = f ∧ DM A N (A 2 k) = b
  · rw [ifc_pos c]
    decide
  · rw [ifc_neg c]
    exact Int.le_refl _
theorem NL_at {w : Int → Int} {k : Int} (e : A 1 k < 0) : NL A w k = 0 := by
  show (nt A w (k.toNat + 1) k).2 = 0
  rw [nt_succ]
  exact if_pos (Or.inr e)
theorem NT_cc (hS : MST I A N) (hN : NM I A) (hT : TRX I A N) (f0 : 0 ≤ f) (f1 : f < I 7) (ff : DM A N f = .var fn) (fq : f ≠ 2) : ∀ (n : Nat) (k : Int), k.toNat < n → 0 ≤ k → k < I 7 → (0 ≤ NT A (wcc A N f b) k ∧ (0 < NT A (wcc A N f b) k ↔ b ∈ (sp_cc fn (DM A N k)).1)) ∧ (0 ≤ NL A (wcc A N f b) k ∧ (0 < NL A (wcc A N f b) k ↔ b ∈ (sp_cc fn (DM A N k)).2))
  | n + 1, k, hn, k0, k1 => by
    have hP := MST_PW hS
    have n0 : A 1 0 < 0 := by rw [hN.2 0 (by decide) (by decide)]; decide
    by_cases e : A 1 k < 0
    · rw [NT_leaf hP k0 k1 (Or.inl e), NL_at e]
      have w0 : wcc A N f b k = 0 := ifc_neg (fun q => by omega)
      rw [w0]
      rcases DM_at hS k0 k1 e with ⟨-, m, q⟩ | ⟨-, v, q⟩
      · rw [q]
        exact ⟨⟨Int.le_refl _, fun z => absurd z (by decide), fun z => (by cases z)⟩, Int.le_refl _, fun z => absurd z (by decide), fun z => (by cases z)⟩
      · rw [q]
        exact ⟨⟨Int.le_refl _, fun z => absurd z (by decide), fun z => (by cases z)⟩, Int.le_refl _, fun z => absurd z (by decide), fun z => (by cases z)⟩
    · have kp : 0 < k := by
        by_cases z : k = 0
        · rw [z] at e
          omega
        · omega
      have q0 := hP.2 k k0 k1
      have q := q0.2.2.2.2 (by omega)
      have ra := NT_cc hS hN hT f0 f1 ff fq n (A 1 k) (by omega) (by omega) (by omega)
      have rb := NT_cc hS hN hT f0 f1 ff fq n (A 2 k) (by omega) (by omega) (by omega)
      rw [DM_pr hS hT k0 k1 (by omega), cc_add, NL_pair hP kp k1 (by omega)]
      refine ⟨?_, by have := ra.1.1; have := rb.2.1; omega, ?_⟩
      · by_cases e2 : A 1 k = 2
        · have w0 : wcc A N f b k = 0 := ifc_neg (fun z => fq (z.1.symm.trans e2))
          rw [NT_leaf hP k0 k1 (Or.inr e2), w0, e2, if_pos ((isq_2 hS hN hT (by decide) (by omega)).mpr rfl)]
          exact ⟨Int.le_refl _, fun z => absurd z (by decide), fun z => (by cases z)⟩
        · rw [NT_call hP k0 k1 (by omega) e2, if_neg (by rw [isq_f hS hN hT (by omega) (by omega) e2]; decide)]
          have nn := wcc_nn (A := A) (N := N) (f := f) (b := b) k
          have nb := rb.2.1
          refine ⟨by omega, fun z => ?_, fun z => ?_⟩
          · by_cases c : A 1 k = f ∧ DM A N (A 2 k) = b
            · rw [c.1, ff, if_pos (sp_ish_r fn), c.2]
              exact List.mem_append_left _ (List.mem_singleton.mpr rfl)
            · have w0 : wcc A N f b k = 0 := ifc_neg c
              exact List.mem_append_right _ (rb.2.2.mp (by omega))
          · rcases List.mem_append.mp z with z | z
            · by_cases c : sp_ish fn (DM A N (A 1 k)) = true
              · rw [if_pos c] at z
                have ef : A 1 k = f := DM_inj ⟨hS, hT.1⟩ (by omega) (by omega) f0 f1 ((sp_ish_e c).trans ff.symm)
                have w1 : wcc A N f b k = 1 := ifc_pos ⟨ef, (List.mem_singleton.mp z).symm⟩
                omega
              · rw [if_neg c] at z
                cases z
            · have := rb.2.2.mpr z
              omega
      · have na := ra.1.1
        have nb := rb.2.1
        refine ⟨fun z => ?_, fun z => ?_⟩
        · by_cases c : 0 < NT A (wcc A N f b) (A 1 k)
          · exact List.mem_append_left _ (ra.1.2.mp c)
          · exact List.mem_append_right _ (rb.2.2.mp (by omega))
        · rcases List.mem_append.mp z with z | z
          · have := ra.1.2.mpr z
            omega
          · have := rb.2.2.mpr z
            omega
theorem SG_pos {w g : Int → Int} (hw : ∀ k : Int, 0 ≤ w k) : ∀ n : Nat, 0 < SG w g n ↔ ∃ e : Nat, e < n ∧ 0 < w (g e)
  | 0 => ⟨fun z => absurd (show (0 : Int) < 0 from z) (by decide), fun ⟨_, h, _⟩ => absurd h (by omega)⟩
  | n + 1 => by
    have r := SG_pos hw (g := g) n
    have a := hw (g n)
    have b : 0 ≤ SG w g n := SG_nn n (fun e _ => hw _)
    show 0 < SG w g n + w (g n) ↔ _
    refine ⟨fun z => ?_, fun ⟨e, h1, h2⟩ => ?_⟩
    · by_cases c : 0 < w (g n)
      · exact ⟨n, by omega, c⟩
      · obtain ⟨e, h1, h2⟩ := r.mp (by omega)
        exact ⟨e, by omega, h2⟩
    · by_cases c : e = n
      · rw [c] at h2
        omega
      · have := r.mpr ⟨e, by omega, h2⟩
        omega
theorem FD_mem {A1 : Nat → Int → Int} {n o : Int} (hS : MST I A N) (hN : NM I A) (hT : TRX I A N) (f0 : 0 ≤ f) (f1 : f < I 7) (ff : DM A N f = .var fn) (fq : f ≠ 2) (o0 : 0 ≤ o) (o1 : o < I 7) (hw : ∀ w : Int → Int, (∀ k : Int, A 1 k ≠ f → w k = 0) → SG w (A1 45) n.toNat = NT A w o) : b ∈ (sp_cc fn (DM A N o)).1 ↔ ∃ e : Int, (0 ≤ e ∧ e < n) ∧ A 1 (A1 45 e) = f ∧ DM A N (A 2 (A1 45 e)) = b := by
  have r := (NT_cc (b := b) hS hN hT f0 f1 ff fq (o.toNat + 1) o (by omega) o0 o1).1.2
  rw [← r, ← hw (wcc A N f b) (fun k hk => ifc_neg (fun q => hk q.1)), SG_pos (fun k => wcc_nn k)]
  refine ⟨fun ⟨e, h1, h2⟩ => ⟨e, ⟨by omega, by omega⟩, ?_⟩, fun ⟨e, h1, h2⟩ => ⟨e.toNat, by omega, ?_⟩⟩
  · by_cases c : A 1 (A1 45 e) = f ∧ DM A N (A 2 (A1 45 e)) = b
    · exact c
    · have w0 : wcc A N f b (A1 45 e) = 0 := ifc_neg c
      omega
  · rw [show ((e.toNat : Nat) : Int) = e by omega]
    have w1 : wcc A N f b (A1 45 e) = 1 := ifc_pos h2
    omega
end FCS
theorem pu_mem {D : List ob_T} {x y : ob_T} : y ∈ sp_pu D x ↔ y ∈ D ∨ y = x := by
  unfold sp_pu
  by_cases c : x ∈ D
  · rw [ifc_pos c]
    exact ⟨Or.inl, fun h => h.elim id (fun q => q ▸ c)⟩
  · rw [ifc_neg c, List.mem_append, List.mem_singleton]
theorem pu_nd {D : List ob_T} {x : ob_T} (h : D.Nodup) : (sp_pu D x).Nodup := by
  unfold sp_pu
  by_cases c : x ∈ D
  · rw [ifc_pos c]
    exact h
  · rw [ifc_neg c]
    refine List.nodup_append.mpr ⟨h, List.pairwise_singleton _ x, fun a ha b hb => ?_⟩
    rw [List.mem_singleton.mp hb]
    exact fun q => c (q ▸ ha)
theorem cf_mem : ∀ (its : List (Option ob_T)) (D E : List ob_T), sp_cf D its = some E → ∀ y : ob_T, y ∈ E ↔ y ∈ D ∨ some y ∈ its
  | [], D, E, h, y => by
    injection h with h
    rw [← h]
    exact ⟨Or.inl, fun q => q.elim id (fun z => by cases z)⟩
  | none :: r, D, E, h, y => by cases h
  | some x :: r, D, E, h, y => by
    rw [cf_mem r (sp_pu D x) E h y, pu_mem, List.mem_cons]
    refine ⟨fun q => ?_, fun q => ?_⟩
    · rcases q with (q | q) | q
      · exact Or.inl q
      · exact Or.inr (Or.inl (by rw [q]))
      · exact Or.inr (Or.inr q)
    · rcases q with q | q | q
      · exact Or.inl (Or.inl q)
      · injection q with q
        exact Or.inl (Or.inr q)
      · exact Or.inr q
theorem cf_nd : ∀ (its : List (Option ob_T)) (D E : List ob_T), sp_cf D its = some E → D.Nodup → E.Nodup
  | [], D, E, h, nd => by
    injection h with h
    rw [← h]
    exact nd
  | none :: r, D, E, h, _ => by cases h
  | some x :: r, D, E, h, nd => cf_nd r (sp_pu D x) E h (pu_nd nd)
theorem cf_nn : ∀ (its : List (Option ob_T)) (D : List ob_T), sp_cf D its = none ↔ none ∈ its
  | [], D => ⟨fun h => (by cases h), fun h => (by cases h)⟩
  | none :: r, D => ⟨fun _ => List.mem_cons_self, fun _ => rfl⟩
  | some x :: r, D => by
    have e := cf_nn r (sp_pu D x)
    refine ⟨fun h => List.mem_cons_of_mem _ (e.mp h), fun h => ?_⟩
    rcases List.mem_cons.mp h with h | h
    · cases h
    · exact e.mpr h
theorem zz_perm {D E : List ob_T} (h : D.Perm E) : sp_zz D = sp_zz E := by
  induction h with
  | nil => rfl
  | cons x _ ih =>
    show (sp_sz x).1 + _ = (sp_sz x).1 + _
    rw [ih]
  | swap x y l =>
    show (sp_sz y).1 + ((sp_sz x).1 + sp_zz l) = (sp_sz x).1 + ((sp_sz y).1 + sp_zz l)
    omega
  | trans _ _ h1 h2 => exact h1.trans h2
theorem cz_set {its jts : List (Option ob_T)} (h : ∀ x : Option ob_T, x ∈ its ↔ x ∈ jts) : (sp_cz its = none ∧ sp_cz jts = none) ∨ ∃ D E : List ob_T, sp_cz its = some D ∧ sp_cz jts = some E ∧ D.Perm E := by
  unfold sp_cz
  cases e1 : sp_cf [] its with
  | none =>
    rw [(cf_nn jts []).mpr ((h none).mp ((cf_nn its []).mp e1))]
    exact Or.inl ⟨rfl, rfl⟩
  | some D =>
    cases e2 : sp_cf [] jts with
    | none =>
      rw [(cf_nn its []).mpr ((h none).mpr ((cf_nn jts []).mp e2))] at e1
      cases e1
    | some E =>
      have pm : D.Perm E := (List.perm_ext_iff_of_nodup (cf_nd its [] D e1 List.nodup_nil) (cf_nd jts [] E e2 List.nodup_nil)).mpr (fun y => by
        rw [cf_mem its [] D e1 y, cf_mem jts [] E e2 y, h (some y)])
      have bn : sp_bn D ↔ sp_bn E := by
        unfold sp_bn
        rw [pm.length_eq, zz_perm pm]
      dsimp only
      by_cases c : sp_bn D
      · rw [ifc_pos c, ifc_pos (bn.mp c)]
        exact Or.inr ⟨D, E, rfl, rfl, pm⟩
      · rw [ifc_neg c, ifc_neg (fun q => c (bn.mpr q))]
        exact Or.inl ⟨rfl, rfl⟩
section ROWB
variable {F G : Nat → Prop} {I I1 : Nat → Int} {A A1 : Nat → Int → Int} {N N1 : Int → Int} {e l : Int} {m : Nat}
theorem VsP_BX (hS : MST I A N) (hT : TRX I A N) (x : BX F G I A N I1 A1 N1) (f10 : ¬ F 10) (g8 : ¬ G 8) (g9 : ¬ G 9) (g22 : ¬ G 22) (hv : ∀ k : Int, 0 ≤ k → k < m → 0 ≤ A 22 (6 * e + k) ∧ A 22 (6 * e + k) < I 7) : VsP A1 N1 e m = VsP A N e m := by
  unfold VsP
  refine List.map_congr_left (fun j hj => ?_)
  have b := hv j (by omega) (by have := List.mem_range.mp hj; omega)
  rw [x.2.2.2.2 22 (by decide) (by decide) (by decide) (by decide) (by decide) (by decide) g22, DM_BX hS hT x f10 g8 g9 b.1 b.2]
theorem OsP_BX (hS : MST I A N) (hT : TRX I A N) (x : BX F G I A N I1 A1 N1) (f10 : ¬ F 10) (g8 : ¬ G 8) (g9 : ¬ G 9) (l0 : 0 ≤ l) (l1 : l < I 7) (hL : isL A m l) : OsP A1 N1 l m = OsP A N l m ∧ VlP A1 N1 l m = VlP A N l m := by
  have hP := MST_PW hS
  refine ⟨?_, ?_⟩
  · unfold OsP
    refine List.map_congr_left (fun j hj => ?_)
    have hj := List.mem_range.mp hj
    have b := (VD_rt hP l0 l1 hL hj).2.1
    rw [it_BX hP x l0 l1 hL hj, DM_BX hS hT x f10 g8 g9 b.1 b.2]
  · unfold VlP
    refine List.map_congr_left (fun j hj => ?_)
    have hj := List.mem_range.mp hj
    have b := (VD_rt hP l0 l1 hL hj).2.1
    rw [it_BX hP x l0 l1 hL hj, DM_BX hS hT x f10 g8 g9 b.1 b.2]
theorem itD_cI {Vs Vl : List Nat} {Os : List ob_T} {Fo : ob_T} {x : Int} (hS : MST I A N) (hT : TRX I A N) (l0 : 0 ≤ A 2 x) (l1 : A 2 x < I 7) (hL : isL A m (A 2 x)) : itD (sp_in Vs Os) Vl Fo A N m x = sp_cI Vl Fo (sp_in Vs Os (DM A N (A 2 x))).2 := by
  unfold itD sp_cI
  rw [as_in, DM_li hS hT m _ l0 l1 hL, as_li, List.map_map]
  rfl
theorem DIM_have {its : List (Option ob_T)} {x : Int} (h : DIT its I A N) : DIM its (some (DM A N x)) x I A N := by
  rcases h with ⟨a, b⟩ | ⟨a, b⟩
  · exact Or.inl ⟨a, b, rfl⟩
  · exact Or.inr ⟨a, cf_none b⟩
end ROWB
