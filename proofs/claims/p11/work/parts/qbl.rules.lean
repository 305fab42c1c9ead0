def FC (j : Nat) : Prop := j = 49 ∨ j = 54 ∨ j = 56 ∨ j = 59 ∨ j = 61 ∨ j = 63 ∨ j = 65 ∨ j = 67 ∨ j = 71 ∨ j = 76
def GC (a : Nat) : Prop := 29 ≤ a ∧ a ≤ 46
def RU (ar : Int → Int) (c : Int) (I : Nat → Int) (A : Nat → Int → Int) (N : Int → Int) (I1 : Nat → Int) (A1 : Nat → Int → Int) (N1 : Int → Int) : Prop := BX FC GC I A N I1 A1 N1 ∧ BI ar I1 A1 N1 ∧ I1 7 ≤ I 7 + c ∧ (¬ I 49 = 0 → I1 49 = I 49)
section RUS
variable {ar : Int → Int} {I I1 I2 : Nat → Int} {A A1 A2 : Nat → Int → Int} {N N1 N2 : Int → Int} {c d e : Int}
theorem RU_rf (hB : BI ar I A N) (h : 0 ≤ c) : RU ar c I A N I A N := ⟨BX_rf hB.1.1, hB, by omega, fun _ => rfl⟩
theorem RU_tr (x : RU ar c I A N I1 A1 N1) (y : RU ar d I1 A1 N1 I2 A2 N2) (h : c + d ≤ e) : RU ar e I A N I2 A2 N2 := ⟨BX_tr x.1 y.1, y.2.1, by have := x.2.2.1; have := y.2.2.1; omega, fun q => (y.2.2.2 (by rw [x.2.2.2 q]; exact q)).trans (x.2.2.2 q)⟩
theorem RU_w (x : RU ar c I A N I1 A1 N1) (h : c ≤ d) : RU ar d I A N I1 A1 N1 := ⟨x.1, x.2.1, by have := x.2.2.1; omega, x.2.2.2⟩
theorem FC_FQ : ∀ j, FC j → FQ j := fun j h => by unfold FC at h; unfold FQ; omega
theorem GC_GQ : ∀ j, GC j → GQ j := fun j h => by unfold GC at h; unfold GQ; omega
theorem RU_of {F G : Nat → Prop} (hB : BI ar I A N) (x : BX F G I A N I1 A1 N1) (hF : ∀ j, F j → FC j) (hG : ∀ a, G a → GC a) (hZ : SZI ar I1 A1) (e54 : I1 54 = I 54) (e56 : I1 56 = I 56) (u : 0 ≤ I1 49 ∧ I1 49 ≤ 4) (h7 : I1 7 ≤ I 7 + c) (h9 : ¬ I 49 = 0 → I1 49 = I 49) : RU ar c I A N I1 A1 N1 := by
  have y := BX_w2 hF hG x
  exact ⟨y, BI_QX hB (BX_w2 FC_FQ GC_GQ y) hZ (by rw [e54]; exact hB.2.2.2.1.1) (by rw [e56]; exact hB.2.2.2.1.2) u, h7, h9⟩
theorem RU_z (x : RU ar c I A N I1 A1 N1) (h : I1 49 = 0) : I 49 = 0 := by
  by_cases q : I 49 = 0
  · exact q
  · rw [x.2.2.2 q] at h
    exact absurd h q
theorem BX_of {F G : Nat → Prop} (hS : MST I A N) (hf : ∀ j : Nat, ¬ F j → I1 j = I j) (ha : ∀ a : Nat, ¬ G a → A1 a = A a) (f7 : I1 7 = I 7) (f10 : I1 10 = I 10) (a1 : A1 1 = A 1) (a2 : A1 2 = A 2) (a3 : A1 3 = A 3) (a4 : A1 4 = A 4) (a5 : A1 5 = A 5) (a7 : A1 7 = A 7) (a8 : A1 8 = A 8) (a9 : A1 9 = A 9) : BX F G I A N I1 A1 N :=
  ⟨MST_congr hS f7 f10 a1 a2 a3 a4 a5 a7 a8 a9, by omega, fun k _ _ => ⟨by rw [a1], by rw [a2], rfl, fun e => by rw [a4]; exact e⟩, fun j _ q => hf j q, fun a _ _ _ _ _ _ q => ha a q⟩
theorem RU_DX (hB : BI ar I A N) (x : DX I A I1 A1) : RU ar 0 I A N I1 A1 N := by
  have b : BX (fun j => j = 67) (fun a => a = 38) I A N I1 A1 N := BX_of hB.1.1 (fun j q => x.1 j q) (fun a q => x.2 a q) (x.1 7 (by decide)) (x.1 10 (by decide)) (x.2 1 (by decide)) (x.2 2 (by decide)) (x.2 3 (by decide)) (x.2 4 (by decide)) (x.2 5 (by decide)) (x.2 7 (by decide)) (x.2 8 (by decide)) (x.2 9 (by decide))
  refine RU_of hB b (fun j q => by subst q; unfold FC; omega) (fun a q => by subst q; unfold GC; omega) (SZI_124 hB.1.2.2 (x.2 1 (by decide)) (x.2 2 (by decide)) (x.2 4 (by decide)) (x.1 7 (by decide))) (x.1 54 (by decide)) (x.1 56 (by decide)) ?_ (by rw [x.1 7 (by decide)]; omega) (fun _ => x.1 49 (by decide))
  rw [x.1 49 (by decide)]
  exact hB.2.2.2.2
theorem RU_P (x : RU ar c I A N I1 A1 N1) : PW I1 A1 := BI_P x.2.1
theorem RU_7 (x : RU ar c I A N I1 A1 N1) : I 7 ≤ I1 7 := x.1.2.1
theorem RU_t (hP : PW I A) (x : RU ar c I A N I1 A1 N1) {k : Int} (h0 : 0 ≤ k) (h1 : k < I 7) (t : 1 ≤ TZ A ar k) : TZ A1 ar k = TZ A ar k := (TZ_BX hP x.1 h0 h1).1 t
theorem NT_BX {F G : Nat → Prop} {w : Int → Int} (hP : PW I A) (x : BX F G I A N I1 A1 N1) {k : Int} (h0 : 0 ≤ k) (h1 : k < I 7) : NT A1 w k = NT A w k := (NT_ext hP (fun k a b => ⟨(x.2.2.1 k a b).1, (x.2.2.1 k a b).2.1⟩) (fun _ _ _ => rfl) h0 h1).1
theorem CLA_RU (hP : PW I A) (x : RU ar c I A N I1 A1 N1) {q : Int} (h : CLA ar I A q) : CLA ar I1 A1 q := by
  have e50 : A1 50 = A 50 := x.1.2.2.2.2 50 (by decide) (by decide) (by decide) (by decide) (by decide) (by decide) (by unfold GC; omega)
  have e51 : A1 51 = A 51 := x.1.2.2.2.2 51 (by decide) (by decide) (by decide) (by decide) (by decide) (by decide) (by unfold GC; omega)
  have x7 := x.1.2.1
  unfold CLA
  rw [e50, e51]
  refine ⟨h.1, fun k k0 k1 => ?_, ?_⟩
  · have g := h.2.1 k k0 k1
    rw [RU_t hP x g.1.1 g.1.2 g.2.1]
    exact ⟨⟨g.1.1, by omega⟩, g.2⟩
  · have h1 := h.1.1
    rw [SG_congr (g1 := TZ A ar) (f1 := fun k => A 50 (30 * q + k)) _ (fun e he => ?_)]
    · exact h.2.2
    · have g := h.2.1 e (by omega) (by omega)
      exact RU_t hP x g.1.1 g.1.2 g.2.1
end RUS
def DIT (its : List (Option ob_T)) (I : Nat → Int) (A : Nat → Int → Int) (N : Int → Int) : Prop := (I 49 = 0 ∧ sp_cf [] its = some ((ixl (A 38) (I 67)).map (DM A N))) ∨ (¬ I 49 = 0 ∧ sp_cf [] its = none)
def DIM (its : List (Option ob_T)) (opt : Option ob_T) (t : Int) (I : Nat → Int) (A : Nat → Int → Int) (N : Int → Int) : Prop := (I 49 = 0 ∧ sp_cf [] its = some ((ixl (A 38) (I 67)).map (DM A N)) ∧ opt = some (DM A N t)) ∨ (¬ I 49 = 0 ∧ sp_cf [] (its ++ [opt]) = none)
theorem cf_app : ∀ (its : List (Option ob_T)) (D : List ob_T) (opt : Option ob_T), sp_cf D (its ++ [opt]) = match sp_cf D its with
    | none => none
    | some E => (match opt with
      | none => none
      | some x => some (sp_pu E x))
  | [], D, none => rfl
  | [], D, some x => rfl
  | none :: r, D, opt => rfl
  | some y :: r, D, opt => by
    show sp_cf (sp_pu D y) (r ++ [opt]) = _
    rw [cf_app r (sp_pu D y) opt]
    rfl
theorem cf_some {its : List (Option ob_T)} {D : List ob_T} {x : ob_T} (h : sp_cf [] its = some D) : sp_cf [] (its ++ [some x]) = some (sp_pu D x) := by
  rw [cf_app, h]
theorem cf_none {its : List (Option ob_T)} {opt : Option ob_T} (h : sp_cf [] its = none) : sp_cf [] (its ++ [opt]) = none := by
  rw [cf_app, h]
theorem cf_last {its : List (Option ob_T)} : sp_cf [] (its ++ [none]) = none := by
  rw [cf_app]
  cases sp_cf [] its <;> rfl
section DTS
variable {F G : Nat → Prop} {ar : Int → Int} {I I1 : Nat → Int} {A A1 : Nat → Int → Int} {N N1 : Int → Int} {its : List (Option ob_T)} {opt : Option ob_T} {m s v x t : Int}
theorem DR_in (hD : DR ar m s v I A) {y : Int} (h : y ∈ ixl (A 38) (I 67)) : 0 ≤ y ∧ y < I 7 := by
  obtain ⟨e, e0, e1, e2⟩ := ixl_mem.mp h
  rw [← e2]
  exact (hD.2.1 e e0 e1).1
theorem map_pui (hS : MST I A N) (hT : TRX I A N) {L : List Int} (hL : ∀ y ∈ L, 0 ≤ y ∧ y < I 7) (x0 : 0 ≤ x) (x1 : x < I 7) : (pui L x).map (DM A N) = sp_pu (L.map (DM A N)) (DM A N x) := by
  unfold pui sp_pu
  by_cases c : x ∈ L
  · rw [if_pos c, ifc_pos (List.mem_map.mpr ⟨x, c, rfl⟩)]
  · rw [if_neg c, ifc_neg (fun q => ?_), List.map_append]
    · rfl
    · obtain ⟨y, hy, e⟩ := List.mem_map.mp q
      have r := hL y hy
      exact c ((DM_inj ⟨hS, hT.1⟩ r.1 r.2 x0 x1 e) ▸ hy)
theorem DIM_put (hB : BI ar I A N) (hT : TRX I A N) (hD : DR ar m s v I A) (X : DX I A I1 A1) (J : ixl (A1 38) (I1 67) = pui (ixl (A 38) (I 67)) x) (x0 : 0 ≤ x) (x1 : x < I 7) (h : DIM its opt x I A N) : DIT (its ++ [opt]) I1 A1 N := by
  unfold DIT
  rw [X.1 49 (by decide), J, DM_12 (A := A) (A1 := A1) (X.2 1 (by decide)) (X.2 2 (by decide)) (X.2 8 (by decide)) (X.2 9 (by decide)), map_pui hB.1.1 hT (fun y hy => DR_in hD hy) x0 x1]
  rcases h with ⟨a, b, c⟩ | ⟨a, b⟩
  · rw [c]
    exact Or.inl ⟨a, cf_some b⟩
  · exact Or.inr ⟨a, b⟩
theorem DIT_BX (hB : BI ar I A N) (hT : TRX I A N) (hD : DR ar m s v I A) (x : BX F G I A N I1 A1 N1) (f10 : ¬ F 10) (g8 : ¬ G 8) (g9 : ¬ G 9) (f67 : ¬ F 67) (g38 : ¬ G 38) (e49 : I1 49 = I 49) (h : DIT its I A N) : DIT its I1 A1 N1 := by
  unfold DIT
  rw [e49, x.2.2.2.1 67 (by decide) f67, x.2.2.2.2 38 (by decide) (by decide) (by decide) (by decide) (by decide) (by decide) g38]
  rw [show (ixl (A 38) (I 67)).map (DM A1 N1) = (ixl (A 38) (I 67)).map (DM A N) from List.map_congr_left (fun y hy => DM_BX hB.1.1 hT x f10 g8 g9 (DR_in hD hy).1 (DR_in hD hy).2)]
  exact h
theorem DIM_made {τ : ob_T} (hB : BI ar I A N) (hT : TRX I A N) (hD : DR ar m s v I A) (x : BX F G I A N I1 A1 N1) (f10 : ¬ F 10) (g8 : ¬ G 8) (g9 : ¬ G 9) (f67 : ¬ F 67) (g38 : ¬ G 38) (w2 : ¬ I 49 = 0 → I1 49 = I 49) (w3 : I1 49 = 0 → TZ A1 ar t ≤ 120) (cv : I 49 = 0 → TZ A1 ar t ≤ 120 → I1 49 = 0) (dt : DM A1 N1 t = τ) (sz : (sp_sz τ).1 = TZ A1 ar t) (h : DIT its I A N) : DIM its (sp_opO τ) t I1 A1 N1 := by
  rcases h with ⟨a, b⟩ | ⟨a, b⟩
  · by_cases c : TZ A1 ar t ≤ 120
    · refine Or.inl ⟨cv a c, ?_, ?_⟩
      · rw [x.2.2.2.1 67 (by decide) f67, x.2.2.2.2 38 (by decide) (by decide) (by decide) (by decide) (by decide) (by decide) g38, show (ixl (A 38) (I 67)).map (DM A1 N1) = (ixl (A 38) (I 67)).map (DM A N) from List.map_congr_left (fun y hy => DM_BX hB.1.1 hT x f10 g8 g9 (DR_in hD hy).1 (DR_in hD hy).2)]
        exact b
      · unfold sp_opO
        rw [if_neg (by omega), dt]
    · refine Or.inr ⟨fun q => c (w3 q), ?_⟩
      unfold sp_opO
      rw [if_pos (by omega)]
      exact cf_last
  · exact Or.inr ⟨by rw [w2 a]; exact a, cf_none b⟩
theorem DIM_not {u : Int} {I2 : Nat → Int} {A2 : Nat → Int → Int} (hB : BI ar I A N) (hT : TRX I A N) (hD : DR ar m s v I A) (x : BX F G I A N I2 A2 N1) (f10 : ¬ F 10) (g8 : ¬ G 8) (g9 : ¬ G 9) (f67 : ¬ F 67) (g38 : ¬ G 38) (w2 : ¬ I 49 = 0 → I2 49 = I 49) (w3 : I2 49 = 0 → TZ A2 ar u ≤ 120) (cv : I 49 = 0 → TZ A2 ar u ≤ 120 → I2 49 = 0) (dt : DM A2 N1 u = sp_not (DM A N t)) (sz : (sp_sz (sp_not (DM A N t))).1 = TZ A2 ar u) (h : DIM its opt t I A N) : DIM its (sp_ntO opt) u I2 A2 N1 := by
  rcases h with ⟨a, b, c⟩ | ⟨a, b⟩
  · rw [c]
    exact DIM_made hB hT hD x f10 g8 g9 f67 g38 w2 w3 cv dt sz (Or.inl ⟨a, b⟩)
  · refine Or.inr ⟨by rw [w2 a]; exact a, ?_⟩
    rw [cf_app] at b ⊢
    cases e : sp_cf [] its with
    | none => rfl
    | some E =>
      rw [e] at b
      cases opt with
      | none => rfl
      | some y => exact absurd b (by simp)
end DTS
theorem mr_put (z : Value) (d : Nat) (ar : Int → Int) (m s v9 x : Int) (h R : xx_H) (I : Nat → Int) (A : Nat → Int → Int) (N : Int → Int) (hc : 12 ≤ h.length) (hB : BI ar I A N) (hT : TRX I A N) (hD : DR ar m s v9 I A) (m1 : m < 1200) (x0 : 0 ≤ x) (x1 : x < I 7) (x2 : 1 ≤ TZ A ar x) (x3 : I 49 = 0 → TZ A ar x ≤ 120) : xx_cl (xt_P z) (d + 1) 155 [.ref h.length, .int (iI x)] (mh h R I A N) (fun v h1 => v = none ∧ ∃ (I1 : Nat → Int) (A1 : Nat → Int → Int), h1 = mh h R I1 A1 N ∧ RU ar 0 I A N I1 A1 N ∧ DR ar (m + 1) (s + TZ A ar x) (v9 + NT A wq x) I1 A1 ∧ I1 49 = I 49 ∧ I1 7 = I 7 ∧ ∀ (its : List (Option ob_T)) (opt : Option ob_T), DIM its opt x I A N → DIT (its ++ [opt]) I1 A1 N) := by
  refine cl_w (fun v h1 q => ?_) (mm_put z d ar m s v9 x h R I A N hc (BI_P hB) hD m1 x0 x1 x2 x3 (BI_P hB).1)
  obtain ⟨rfl, I1, A1, rfl, X, D, J⟩ := q
  exact ⟨rfl, I1, A1, rfl, RU_DX hB X, D, X.1 49 (by decide), X.1 7 (by decide), fun its opt q => DIM_put hB hT hD X J x0 x1 q⟩
theorem mr_term (z : Value) (d : Nat) (ar : Int → Int) (o : Int) (h R : xx_H) (I : Nat → Int) (A : Nat → Int → Int) (N : Int → Int) (hc : 12 ≤ h.length) (hB : BI ar I A N) (k0 : 0 ≤ o) (k1 : o < I 7) (w : WD A o ≤ 1000) (ho : I 7 + 2 * WD A o ≤ 140000) : xx_cl (xt_P z) (d + 8) 105 [.ref h.length, .int (iI o)] (mh h R I A N) (fun v h1 => ∃ (t : Int) (I1 : Nat → Int) (A1 : Nat → Int → Int), v = some (.int (iI t)) ∧ h1 = mh h R I1 A1 N ∧ RU ar (2 * WD A o - 2) I A N I1 A1 N ∧ (∀ m s v : Int, DR ar m s v I A → DR ar m s v I1 A1) ∧ (I1 49 = I 49 ∧ BX FB GT I A N I1 A1 N) ∧ (t = -1 ∧ ¬ TOK A ar o ∨ (0 ≤ t ∧ t < I1 7) ∧ (1 ≤ TZ A1 ar t ∧ TZ A1 ar t ≤ 120) ∧ TOK A ar o ∧ TZ A1 ar t = TS A ar o ∧ TS A ar o ≤ WD A o ∧ NFT A1 o t)) := by
  refine cl_w (fun v h1 q => ?_) (mm_termQ z d ar o h R I A N hc hB k0 k1 w ho)
  obtain ⟨t, I1, A1, rfl, rfl, Q⟩ := q
  have b := Q.2.1
  refine ⟨t, I1, A1, rfl, rfl, RU_of hB Q.1 (fun j q => by unfold FB at q; unfold FC; omega) (fun j q => by unfold GT at q; unfold GC; omega) b.1.2.2 (by rw [b.2.2.2.1.1, hB.2.2.2.1.1]) (by rw [b.2.2.2.1.2, hB.2.2.2.1.2]) b.2.2.2.2 (by have := Q.2.2.1; omega) (fun _ => Q.2.2.2.1), fun m s v D => DR_BX (BI_P hB) D Q.1 (by unfold FB; omega) (by unfold GT; omega) (fun e => by rw [← Q.2.2.2.1]; exact e), ⟨Q.2.2.2.1, Q.1⟩, Q.2.2.2.2⟩
theorem RU_MD {ar : Int → Int} {n t m : Int} {I I1 : Nat → Int} {A A1 : Nat → Int → Int} {N : Int → Int} (hB : BI ar I A N) (q : MD ar n t m I A N I1 A1) : RU ar n I A N I1 A1 N ∧ (∀ m s v : Int, DR ar m s v I A → DR ar m s v I1 A1) ∧ ((0 ≤ t ∧ t < I1 7) ∧ 1 ≤ TZ A1 ar t) ∧ (I1 49 = 0 → TZ A1 ar t ≤ m) := by
  have R := RU_of (c := n) hB q.1 (fun j q => by unfold FW at q; unfold FC; omega) (fun j q => by unfold GB at q; unfold GC; omega) q.2.1 q.2.2.1.1 q.2.2.1.2 q.2.2.2.2.2.1.1 q.2.2.2.2.1 q.2.2.2.2.2.1.2.1
  exact ⟨R, fun m s v D => DR_BX (BI_P hB) D q.1 (by unfold FW; omega) (by unfold GB; omega) (RU_z R), q.2.2.2.1, q.2.2.2.2.2.1.2.2⟩
theorem RU_MK {ar : Int → Int} {n t : Int} {I I1 : Nat → Int} {A A1 : Nat → Int → Int} {N : Int → Int} (hB : BI ar I A N) (q : MK ar n t I A N I1 A1) : RU ar n I A N I1 A1 N ∧ (∀ m s v : Int, DR ar m s v I A → DR ar m s v I1 A1) ∧ ((0 ≤ t ∧ t < I1 7) ∧ 1 ≤ TZ A1 ar t) ∧ (I1 49 = 0 → TZ A1 ar t ≤ 120) := by
  have R := RU_of (c := n) hB q.1 (fun j q => by unfold FW at q; unfold FC; omega) (fun j q => by unfold GB at q; unfold GC; omega) q.2.1 q.2.2.1.1 q.2.2.1.2 q.2.2.2.2.2.1.1 q.2.2.2.2.1 q.2.2.2.2.2.1.2.1
  exact ⟨R, fun m s v D => DR_BX (BI_P hB) D q.1 (by unfold FW; omega) (by unfold GB; omega) (RU_z R), q.2.2.2.1, q.2.2.2.2.2.1.2.2⟩

