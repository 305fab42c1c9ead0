def FC (j : Nat) : Prop := j = 49 ∨ j = 54 ∨ j = 56 ∨ j = 59 ∨ j = 61 ∨ j = 63 ∨ j = 65 ∨ j = 67 ∨ j = 71 ∨ j = 76
def GC (a : Nat) : Prop := (29 ≤ a ∧ a ≤ 46) ∨ a = 8 ∨ a = 9
def RU (ar : Int → Int) (c : Int) (I : Nat → Int) (A : Nat → Int → Int) (N : Int → Int) (I1 : Nat → Int) (A1 : Nat → Int → Int) (N1 : Int → Int) : Prop := BX FC GC I A N I1 A1 N1 ∧ BI ar I1 A1 N1 ∧ I1 7 ≤ I 7 + c ∧ (¬ I 49 = 0 → I1 49 = I 49)
section RUS
variable {ar : Int → Int} {I I1 I2 : Nat → Int} {A A1 A2 : Nat → Int → Int} {N N1 N2 : Int → Int} {c d e : Int}
theorem RU_rf (hB : BI ar I A N) (h : 0 ≤ c) : RU ar c I A N I A N := ⟨BX_rf hB.1.1, hB, by omega, fun _ => rfl⟩
theorem RU_tr (x : RU ar c I A N I1 A1 N1) (y : RU ar d I1 A1 N1 I2 A2 N2) (h : c + d ≤ e) : RU ar e I A N I2 A2 N2 := ⟨BX_tr x.1 y.1, y.2.1, by have := x.2.2.1; have := y.2.2.1; omega, fun q => (y.2.2.2 (by rw [x.2.2.2 q]; exact q)).trans (x.2.2.2 q)⟩
theorem RU_w (x : RU ar c I A N I1 A1 N1) (h : c ≤ d) : RU ar d I A N I1 A1 N1 := ⟨x.1, x.2.1, by have := x.2.2.1; omega, x.2.2.2⟩
theorem FC_FQ : ∀ j, FC j → FQ j := fun j h => by unfold FC at h; unfold FQ; omega
theorem GC_GQ : ∀ j, GC j → GQ j := fun j h => by unfold GC at h; unfold GQ; omega
theorem RU_of {F G : Nat → Prop} (hB : BI ar I A N) (x : BX F G I A N I1 A1 N1) (hF : ∀ j, F j → FC j) (hG : ∀ a, G a → GC a) (hZ : SZI ar I1 A1) (e54 : I1 54 = I 54) (e56 : I1 56 = I 56) (u : 0 ≤ I1 49 ∧ I1 49 ≤ 4) (h7 : I1 7 ≤ I 7 + c) (h9 : ¬ I 49 = 0 → I1 49 = I 49) : RU ar c I A N I1 A1 N1 := by
  have y := BX_w2 hF hG x
  exact ⟨y, BI_QX hB (BX_w2 FC_FQ GC_GQ y) hZ (by rw [e54]; exact hB.2.2.2.1.1) (by rw [e56]; exact hB.2.2.2.1.2) u, h7, h9⟩
theorem RU_z (x : RU ar c I A N I1 A1 N1) (h : I1 49 = 0) : I 49 = 0 := by
  by_cases q : I 49 = 0
  · exact q
  · rw [x.2.2.2 q] at h
    exact absurd h q
theorem BX_of {F G : Nat → Prop} (hS : MST I A N) (hf : ∀ j : Nat, ¬ F j → I1 j = I j) (ha : ∀ a : Nat, ¬ G a → A1 a = A a) (f7 : I1 7 = I 7) (f10 : I1 10 = I 10) (a1 : A1 1 = A 1) (a2 : A1 2 = A 2) (a3 : A1 3 = A 3) (a4 : A1 4 = A 4) (a5 : A1 5 = A 5) (a7 : A1 7 = A 7) (a8 : A1 8 = A 8) (a9 : A1 9 = A 9) : BX F G I A N I1 A1 N :=
  ⟨MST_congr hS f7 f10 a1 a2 a3 a4 a5 a7 a8 a9, by omega, fun k _ _ => ⟨by rw [a1], by rw [a2], rfl, fun e => by rw [a4]; exact e⟩, fun j _ q => hf j q, fun a _ _ _ _ _ _ q => ha a q⟩
theorem RU_DX (hB : BI ar I A N) (x : DX I A I1 A1) : RU ar 0 I A N I1 A1 N := by
  have b : BX (fun j => j = 67) (fun a => a = 38) I A N I1 A1 N := BX_of hB.1.1 (fun j q => x.1 j q) (fun a q => x.2 a q) (x.1 7 (by decide)) (x.1 10 (by decide)) (x.2 1 (by decide)) (x.2 2 (by decide)) (x.2 3 (by decide)) (x.2 4 (by decide)) (x.2 5 (by decide)) (x.2 7 (by decide)) (x.2 8 (by decide)) (x.2 9 (by decide))
  refine RU_of hB b (fun j q => by subst q; unfold FC; omega) (fun a q => by subst q; unfold GC; omega) (SZI_124 hB.1.2.2 (x.2 1 (by decide)) (x.2 2 (by decide)) (x.2 4 (by decide)) (x.1 7 (by decide))) (x.1 54 (by decide)) (x.1 56 (by decide)) ?_ (by rw [x.1 7 (by decide)]; omega) (fun _ => x.1 49 (by decide))
  rw [x.1 49 (by decide)]
  exact hB.2.2.2.2
theorem RU_P (x : RU ar c I A N I1 A1 N1) : PW I1 A1 := BI_P x.2.1
theorem RU_7 (x : RU ar c I A N I1 A1 N1) : I 7 ≤ I1 7 := x.1.2.1
theorem RU_t (hP : PW I A) (x : RU ar c I A N I1 A1 N1) {k : Int} (h0 : 0 ≤ k) (h1 : k < I 7) (t : 1 ≤ TZ A ar k) : TZ A1 ar k = TZ A ar k := (TZ_BX hP x.1 h0 h1).1 t
theorem NT_BX {F G : Nat → Prop} {w : Int → Int} (hP : PW I A) (x : BX F G I A N I1 A1 N1) {k : Int} (h0 : 0 ≤ k) (h1 : k < I 7) : NT A1 w k = NT A w k := (NT_ext hP (fun k a b => ⟨(x.2.2.1 k a b).1, (x.2.2.1 k a b).2.1⟩) (fun _ _ _ => rfl) h0 h1).1
theorem CLA_RU (hP : PW I A) (x : RU ar c I A N I1 A1 N1) {q : Int} (h : CLA ar I A q) : CLA ar I1 A1 q := by
  have e50 : A1 50 = A 50 := x.1.2.2.2.2 50 (by decide) (by decide) (by decide) (by decide) (by decide) (by decide) (by unfold GC; omega)
  have e51 : A1 51 = A 51 := x.1.2.2.2.2 51 (by decide) (by decide) (by decide) (by decide) (by decide) (by decide) (by unfold GC; omega)
  have x7 := x.1.2.1
  unfold CLA
  rw [e50, e51]
  refine ⟨h.1, fun k k0 k1 => ?_, ?_⟩
  · have g := h.2.1 k k0 k1
    rw [RU_t hP x g.1.1 g.1.2 g.2.1]
    exact ⟨⟨g.1.1, by omega⟩, g.2⟩
  · have h1 := h.1.1
    rw [SG_congr (g1 := TZ A ar) (f1 := fun k => A 50 (30 * q + k)) _ (fun e he => ?_)]
    · exact h.2.2
    · have g := h.2.1 e (by omega) (by omega)
      exact RU_t hP x g.1.1 g.1.2 g.2.1
end RUS
theorem mr_put (z : Value) (d : Nat) (ar : Int → Int) (m s v9 x : Int) (h R : xx_H) (I : Nat → Int) (A : Nat → Int → Int) (N : Int → Int) (hc : 12 ≤ h.length) (hB : BI ar I A N) (hD : DR ar m s v9 I A) (m1 : m < 1200) (x0 : 0 ≤ x) (x1 : x < I 7) (x2 : 1 ≤ TZ A ar x) (x3 : I 49 = 0 → TZ A ar x ≤ 120) : xx_cl (xt_P z) (d + 1) 155 [.ref h.length, .int (iI x)] (mh h R I A N) (fun v h1 => v = none ∧ ∃ (I1 : Nat → Int) (A1 : Nat → Int → Int), h1 = mh h R I1 A1 N ∧ RU ar 0 I A N I1 A1 N ∧ DR ar (m + 1) (s + TZ A ar x) (v9 + NT A wq x) I1 A1 ∧ I1 49 = I 49 ∧ I1 7 = I 7) := by
  refine cl_w (fun v h1 q => ?_) (mm_put z d ar m s v9 x h R I A N hc (BI_P hB) hD m1 x0 x1 x2 x3 (BI_P hB).1)
  obtain ⟨rfl, I1, A1, rfl, X, D⟩ := q
  exact ⟨rfl, I1, A1, rfl, RU_DX hB X, D, X.1 49 (by decide), X.1 7 (by decide)⟩
theorem mr_term (z : Value) (d : Nat) (ar : Int → Int) (o : Int) (h R : xx_H) (I : Nat → Int) (A : Nat → Int → Int) (N : Int → Int) (hc : 12 ≤ h.length) (hB : BI ar I A N) (k0 : 0 ≤ o) (k1 : o < I 7) (w : WD A o ≤ 1000) (ho : I 7 + 2 * WD A o ≤ 140000) : xx_cl (xt_P z) (d + 8) 105 [.ref h.length, .int (iI o)] (mh h R I A N) (fun v h1 => ∃ (t : Int) (I1 : Nat → Int) (A1 : Nat → Int → Int), v = some (.int (iI t)) ∧ h1 = mh h R I1 A1 N ∧ RU ar (2 * WD A o - 2) I A N I1 A1 N ∧ (∀ m s v : Int, DR ar m s v I A → DR ar m s v I1 A1) ∧ (I1 49 = I 49 ∧ BX FB GT I A N I1 A1 N) ∧ (t = -1 ∧ ¬ TOK A ar o ∨ (0 ≤ t ∧ t < I1 7) ∧ (1 ≤ TZ A1 ar t ∧ TZ A1 ar t ≤ 120) ∧ TOK A ar o ∧ TZ A1 ar t = TS A ar o ∧ TS A ar o ≤ WD A o ∧ NFT A1 o t)) := by
  refine cl_w (fun v h1 q => ?_) (mm_termQ z d ar o h R I A N hc hB k0 k1 w ho)
  obtain ⟨t, I1, A1, rfl, rfl, Q⟩ := q
  have b := Q.2.1
  refine ⟨t, I1, A1, rfl, rfl, RU_of hB Q.1 (fun j q => by unfold FB at q; unfold FC; omega) (fun j q => by unfold GT at q; unfold GC; omega) b.1.2.2 (by rw [b.2.2.2.1.1, hB.2.2.2.1.1]) (by rw [b.2.2.2.1.2, hB.2.2.2.1.2]) b.2.2.2.2 (by have := Q.2.2.1; omega) (fun _ => Q.2.2.2.1), fun m s v D => DR_BX (BI_P hB) D Q.1 (by unfold FB; omega) (by unfold GT; omega) (fun e => by rw [← Q.2.2.2.1]; exact e), ⟨Q.2.2.2.1, Q.1⟩, Q.2.2.2.2⟩
theorem RU_MD {ar : Int → Int} {n t m : Int} {I I1 : Nat → Int} {A A1 : Nat → Int → Int} {N : Int → Int} (hB : BI ar I A N) (q : MD ar n t m I A N I1 A1) : RU ar n I A N I1 A1 N ∧ (∀ m s v : Int, DR ar m s v I A → DR ar m s v I1 A1) ∧ ((0 ≤ t ∧ t < I1 7) ∧ 1 ≤ TZ A1 ar t) ∧ (I1 49 = 0 → TZ A1 ar t ≤ m) := by
  have R := RU_of (c := n) hB q.1 (fun j q => by unfold FW at q; unfold FC; omega) (fun j q => by unfold GB at q; unfold GC; omega) q.2.1 q.2.2.1.1 q.2.2.1.2 q.2.2.2.2.2.1.1 q.2.2.2.2.1 q.2.2.2.2.2.1.2.1
  exact ⟨R, fun m s v D => DR_BX (BI_P hB) D q.1 (by unfold FW; omega) (by unfold GB; omega) (RU_z R), q.2.2.2.1, q.2.2.2.2.2.1.2.2⟩
theorem RU_MK {ar : Int → Int} {n t : Int} {I I1 : Nat → Int} {A A1 : Nat → Int → Int} {N : Int → Int} (hB : BI ar I A N) (q : MK ar n t I A N I1 A1) : RU ar n I A N I1 A1 N ∧ (∀ m s v : Int, DR ar m s v I A → DR ar m s v I1 A1) ∧ ((0 ≤ t ∧ t < I1 7) ∧ 1 ≤ TZ A1 ar t) ∧ (I1 49 = 0 → TZ A1 ar t ≤ 120) := by
  have R := RU_of (c := n) hB q.1 (fun j q => by unfold FW at q; unfold FC; omega) (fun j q => by unfold GB at q; unfold GC; omega) q.2.1 q.2.2.1.1 q.2.2.1.2 q.2.2.2.2.2.1.1 q.2.2.2.2.1 q.2.2.2.2.2.1.2.1
  exact ⟨R, fun m s v D => DR_BX (BI_P hB) D q.1 (by unfold FW; omega) (by unfold GB; omega) (RU_z R), q.2.2.2.1, q.2.2.2.2.2.1.2.2⟩
