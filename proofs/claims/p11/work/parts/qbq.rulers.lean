def RZ (F G : Nat → Prop) (ar : Int → Int) (c : Int) (I : Nat → Int) (A : Nat → Int → Int) (N : Int → Int) (I1 : Nat → Int) (A1 : Nat → Int → Int) (N1 : Int → Int) : Prop := BX F G I A N I1 A1 N1 ∧ BI ar I1 A1 N1 ∧ I1 7 ≤ I 7 + c ∧ (¬ I 49 = 0 → I1 49 = I 49)
def FE (j : Nat) : Prop := j = 49 ∨ j = 54 ∨ j = 56 ∨ j = 59 ∨ j = 67
def GE (a : Nat) : Prop := (29 ≤ a ∧ a ≤ 34) ∨ a = 38 ∨ a = 46
section RGS
variable {F G : Nat → Prop} {ar : Int → Int} {I I1 I2 : Nat → Int} {A A1 A2 : Nat → Int → Int} {N N1 N2 : Int → Int} {c d e : Int}
theorem RZ_rf (hB : BI ar I A N) (h : 0 ≤ c) : RZ F G ar c I A N I A N := ⟨BX_rf hB.1.1, hB, by omega, fun _ => rfl⟩
theorem RZ_tr (x : RZ F G ar c I A N I1 A1 N1) (y : RZ F G ar d I1 A1 N1 I2 A2 N2) (h : c + d ≤ e) : RZ F G ar e I A N I2 A2 N2 := ⟨BX_tr x.1 y.1, y.2.1, by have := x.2.2.1; have := y.2.2.1; omega, fun q => (y.2.2.2 (by rw [x.2.2.2 q]; exact q)).trans (x.2.2.2 q)⟩
theorem RZ_w (x : RZ F G ar c I A N I1 A1 N1) (h : c ≤ d) : RZ F G ar d I A N I1 A1 N1 := ⟨x.1, x.2.1, by have := x.2.2.1; omega, x.2.2.2⟩
theorem RZ_of {F0 G0 : Nat → Prop} (hB : BI ar I A N) (x : BX F0 G0 I A N I1 A1 N1) (hF : ∀ j, F0 j → F j) (hG : ∀ a, G0 a → G a) (hFQ : ∀ j, F j → FQ j) (hGQ : ∀ a, G a → GQ a) (hZ : SZI ar I1 A1) (e54 : I1 54 = I 54) (e56 : I1 56 = I 56) (u : 0 ≤ I1 49 ∧ I1 49 ≤ 4) (h7 : I1 7 ≤ I 7 + c) (h9 : ¬ I 49 = 0 → I1 49 = I 49) : RZ F G ar c I A N I1 A1 N1 := by
  have y := BX_w2 hF hG x
  exact ⟨y, BI_QX hB (BX_w2 hFQ hGQ y) hZ (by rw [e54]; exact hB.2.2.2.1.1) (by rw [e56]; exact hB.2.2.2.1.2) u, h7, h9⟩
theorem RZ_z (x : RZ F G ar c I A N I1 A1 N1) (h : I1 49 = 0) : I 49 = 0 := by
  by_cases q : I 49 = 0
  · exact q
  · rw [x.2.2.2 q] at h
    exact absurd h q
theorem RZ_RU (x : RZ F G ar c I A N I1 A1 N1) (hF : ∀ j, F j → FC j) (hG : ∀ a, G a → GC a) : RU ar c I A N I1 A1 N1 := ⟨BX_w2 hF hG x.1, x.2⟩
theorem RZ_P (x : RZ F G ar c I A N I1 A1 N1) : PW I1 A1 := BI_P x.2.1
theorem RZ_t (hP : PW I A) (x : RZ F G ar c I A N I1 A1 N1) {k : Int} (h0 : 0 ≤ k) (h1 : k < I 7) (t : 1 ≤ TZ A ar k) : TZ A1 ar k = TZ A ar k := (TZ_BX hP x.1 h0 h1).1 t
theorem FE_FQ : ∀ j, FE j → FQ j := fun j h => by unfold FE at h; unfold FQ; omega
theorem GE_GQ : ∀ j, GE j → GQ j := fun j h => by unfold GE at h; unfold GQ; omega
theorem FE_FC : ∀ j, FE j → FC j := fun j h => by unfold FE at h; unfold FC; omega
theorem GE_GC : ∀ j, GE j → GC j := fun j h => by unfold GE at h; unfold GC; omega
theorem RE_DX (hB : BI ar I A N) (x : DX I A I1 A1) : RZ FE GE ar 0 I A N I1 A1 N := by
  have b : BX (fun j => j = 67) (fun a => a = 38) I A N I1 A1 N := BX_of hB.1.1 (fun j q => x.1 j q) (fun a q => x.2 a q) (x.1 7 (by decide)) (x.1 10 (by decide)) (x.2 1 (by decide)) (x.2 2 (by decide)) (x.2 3 (by decide)) (x.2 4 (by decide)) (x.2 5 (by decide)) (x.2 7 (by decide)) (x.2 8 (by decide)) (x.2 9 (by decide))
  refine RZ_of hB b (fun j q => by subst q; unfold FE; omega) (fun a q => by subst q; unfold GE; omega) FE_FQ GE_GQ (SZI_124 hB.1.2.2 (x.2 1 (by decide)) (x.2 2 (by decide)) (x.2 4 (by decide)) (x.1 7 (by decide))) (x.1 54 (by decide)) (x.1 56 (by decide)) ?_ (by rw [x.1 7 (by decide)]; omega) (fun _ => x.1 49 (by decide))
  rw [x.1 49 (by decide)]
  exact hB.2.2.2.2
theorem RE_MD {n t m : Int} (hB : BI ar I A N) (q : MD ar n t m I A N I1 A1) : RZ FE GE ar n I A N I1 A1 N := RZ_of (c := n) hB q.1 (fun j q => by unfold FW at q; unfold FE; omega) (fun j q => by unfold GB at q; unfold GE; omega) FE_FQ GE_GQ q.2.1 q.2.2.1.1 q.2.2.1.2 q.2.2.2.2.2.1.1 q.2.2.2.2.1 q.2.2.2.2.2.1.2.1
theorem RE_MK {n t : Int} (hB : BI ar I A N) (q : MK ar n t I A N I1 A1) : RZ FE GE ar n I A N I1 A1 N := RZ_of (c := n) hB q.1 (fun j q => by unfold FW at q; unfold FE; omega) (fun j q => by unfold GB at q; unfold GE; omega) FE_FQ GE_GQ q.2.1 q.2.2.1.1 q.2.2.1.2 q.2.2.2.2.2.1.1 q.2.2.2.2.1 q.2.2.2.2.2.1.2.1
end RGS
def PTP (ar : Int → Int) (I : Nat → Int) (A : Nat → Int → Int) (f p : Int) : Prop := ((0 ≤ A 39 p ∧ A 39 p < I 7) ∧ 1 ≤ TZ A ar (A 39 p)) ∧ (0 ≤ A 41 p ∧ A 41 p ≤ 59) ∧ (∀ k : Int, 0 ≤ k → k < A 41 p → (0 ≤ A 40 (64 * p + k) ∧ A 40 (64 * p + k) < I 7) ∧ 1 ≤ TZ A ar (A 40 (64 * p + k))) ∧ SG (fun x => TZ A ar x + 1) (fun k => A 40 (64 * p + k)) (A 41 p).toNat + TZ A ar (A 39 p) ≤ 120 ∧ NT A (wy A ar f) (A 39 p) = 0
theorem PTP_BX {F G : Nat → Prop} {ar : Int → Int} {I I1 : Nat → Int} {A A1 : Nat → Int → Int} {N N1 : Int → Int} {f p : Int} (f3 : 3 ≤ f) (hP : PW I A) (x : BX F G I A N I1 A1 N1) (g : ∀ a : Nat, 39 ≤ a → a ≤ 41 → ¬ G a) (h : PTP ar I A f p) : PTP ar I1 A1 f p := by
  have ga : ∀ a : Nat, 39 ≤ a → a ≤ 41 → A1 a = A a := fun a p q => x.2.2.2.2 a (by omega) (by omega) (by omega) (by omega) (by omega) (by omega) (g a p q)
  have x7 := x.2.1
  obtain ⟨h1, h2, h3, h4, h5⟩ := h
  unfold PTP
  rw [ga 39 (by decide) (by decide), ga 40 (by decide) (by decide), ga 41 (by decide) (by decide), (TZ_BX hP x h1.1.1 h1.1.2).1 h1.2]
  refine ⟨⟨⟨h1.1.1, by omega⟩, h1.2⟩, h2, fun k k0 k1 => ?_, ?_, ?_⟩
  · have q := h3 k k0 k1
    rw [(TZ_BX hP x q.1.1 q.1.2).1 q.2]
    exact ⟨⟨q.1.1, by omega⟩, q.2⟩
  · rw [SG_congr (g1 := fun x => TZ A ar x + 1) (f1 := fun k => A 40 (64 * p + k)) _ (fun e he => ?_)]
    · exact h4
    · have q := h3 e (by omega) (by omega)
      show TZ A1 ar (A 40 (64 * p + e)) + 1 = TZ A ar (A 40 (64 * p + e)) + 1
      rw [(TZ_BX hP x q.1.1 q.1.2).1 q.2]
  · rw [(NT_extT (ar := ar) hP (MST_PW x.1) x7 (fun k a b => ⟨(x.2.2.1 k a b).1, (x.2.2.1 k a b).2.1⟩) (fun k a b c => wy_BX f3 hP x k a b c) _ _ (Nat.lt_succ_self _) h1.1.1 h1.1.2).1 h1.2]
    exact h5
def VsP (A : Nat → Int → Int) (N : Int → Int) (e : Int) (m : Nat) : List Nat := (List.range m).map (fun (j : Nat) => sp_hc (DM A N (A 22 (6 * e + j))))
def OsP (A : Nat → Int → Int) (N : Int → Int) (l : Int) (m : Nat) : List ob_T := (List.range m).map (fun j => DM A N (A 1 (rt A j l)))
def itR (im : ob_T → ob_T × ob_T) (A : Nat → Int → Int) (N : Int → Int) (p k : Int) : List (Option ob_T) := (ixl (fun q => A 40 (64 * p + q)) k).map (fun x => sp_ntO (sp_opO (im (DM A N x)).1))
theorem itR_s {im : ob_T → ob_T × ob_T} {A : Nat → Int → Int} {N : Int → Int} {p k : Int} (h : 0 ≤ k) : itR im A N p (k + 1) = itR im A N p k ++ [sp_ntO (sp_opO (im (DM A N (A 40 (64 * p + k)))).1)] := by
  unfold itR
  rw [ixl_s h, List.map_append]
  rfl
theorem mm_row_rulers (z : Value) (d m : Nat) (ar : Int → Int) (ft : Nat → Int) (e lv p fo : Int) (h R : xx_H) (I : Nat → Int) (A : Nat → Int → Int) (N : Int → Int) (hc : 12 ≤ h.length) (hB : BI ar I A N) (e0 : 0 ≤ e) (e1 : e < I 32) (em : A 21 e = m) (p0 : 0 ≤ p) (p1 : p < 120) (l0 : 0 ≤ lv) (l1 : lv < I 7) (hL : isL A m lv) (hV : ∀ j : Nat, j < m → A 1 (A 1 (rt A j lv)) = -2 ∧ 1 < A 1 (rt A j lv)) (hT : PTP ar I A (A 20 e) p) (hX : TRX I A N) (hK : ART ar ft I A N) (hs : ∀ k : Int, 0 ≤ k → k < A 41 p → 1 ≤ TS A ar (A 40 (64 * p + k))) (ho : I 7 + 2 * SG (fun x => TZ A ar x + 1) (fun k => A 40 (64 * p + k)) (A 41 p).toNat + 4 ≤ 140000) (Q : Option Value → xx_H → Prop) (K : ∀ (k : Int) (I1 : Nat → Int) (A1 : Nat → Int → Int) (S V : Int) (y6 : Option Value), RZ FE GE ar (2 * SG (fun x => TZ A ar x + 1) (fun k => A 40 (64 * p + k)) (A 41 p).toNat) I A N I1 A1 N → DR ar (A 41 p) S V I1 A1 → (DIT [] I A N → DIT (itR (sp_in (VsP A N e m) (OsP A N lv m)) A N p (A 41 p)) I1 A1 N) → xx_go (xt_P z) (d + 8) 168 50 [some (.ref h.length), some (.int (iI e)), some (.int (iI lv)), some (.int (iI p)), some (.int (iI fo)), some (.int (iI k)), y6] [] (mh h R I1 A1 N) Q) : ∀ (n : Nat) (k : Int) (I1 : Nat → Int) (A1 : Nat → Int → Int) (S V : Int) (y6 : Option Value), (A 41 p - k).toNat ≤ n → 0 ≤ k → k ≤ A 41 p → RZ FE GE ar (2 * SG (fun x => TZ A ar x + 1) (fun k => A 40 (64 * p + k)) k.toNat) I A N I1 A1 N → DR ar k S V I1 A1 → (DIT [] I A N → DIT (itR (sp_in (VsP A N e m) (OsP A N lv m)) A N p k) I1 A1 N) → xx_go (xt_P z) (d + 8) 168 3 [some (.ref h.length), some (.int (iI e)), some (.int (iI lv)), some (.int (iI p)), some (.int (iI fo)), some (.int (iI k)), y6] [] (mh h R I1 A1 N) Q := by
  have hP := BI_P hB
  have i40 := hB.2.2.1.1.1
  have De := hB.2.2.1.2.1 e e0 e1
  have m6 : m ≤ 6 := by have := De.2.1.2.1; omega
  have t41 := hT.2.1
  intro n
  induction n with
  | zero =>
    intro k I1 A1 S V y6 hn h0 hk X D hJ
    have ek : k = A 41 p := by omega
    have f41 : A1 41 p = A 41 p := by rw [X.1.2.2.2.2 41 (by decide) (by decide) (by decide) (by decide) (by decide) (by decide) (by unfold GE; omega)]
    rw [ek] at X D hJ
    refine go_a (pc' := 5) (ls' := [some (.ref h.length), some (.int (iI e)), some (.int (iI lv)), some (.int (iI p)), some (.int (iI fo)), some (.int (iI k)), y6]) (st' := [.int (iI k)]) rfl rfl ?_
    refine go_a (pc' := 6) (ls' := [some (.ref h.length), some (.int (iI e)), some (.int (iI lv)), some (.int (iI p)), some (.int (iI fo)), some (.int (iI k)), y6]) (st' := [.ref h.length, .int (iI k)]) rfl rfl ?_
    refine go_get rfl mh_o rfl rfl ?_
    refine go_a (pc' := 10) (ls' := [some (.ref h.length), some (.int (iI e)), some (.int (iI lv)), some (.int (iI p)), some (.int (iI fo)), some (.int (iI k)), y6]) (st' := [.int (iI p), .ref (h.length + 41), .int (iI k)]) rfl rfl ?_
    refine mi_ild rfl mh_a41 (by omega) (by omega) (by decide) ?_
    refine mi_ge (t := 50) rfl rfl (by omega) (by omega) (by omega) (by omega) (fun _ => ?_) (fun q => absurd (show A1 41 p ≤ k by omega) q)
    exact K k I1 A1 S V y6 X D hJ
  | succ n ih =>
    intro k I1 A1 S V y6 hn h0 hk X D hJ
    have f41 : A1 41 p = A 41 p := by rw [X.1.2.2.2.2 41 (by decide) (by decide) (by decide) (by decide) (by decide) (by decide) (by unfold GE; omega)]
    by_cases ek : k = A 41 p
    · rw [ek] at X D hJ
      refine go_a (pc' := 5) (ls' := [some (.ref h.length), some (.int (iI e)), some (.int (iI lv)), some (.int (iI p)), some (.int (iI fo)), some (.int (iI k)), y6]) (st' := [.int (iI k)]) rfl rfl ?_
      refine go_a (pc' := 6) (ls' := [some (.ref h.length), some (.int (iI e)), some (.int (iI lv)), some (.int (iI p)), some (.int (iI fo)), some (.int (iI k)), y6]) (st' := [.ref h.length, .int (iI k)]) rfl rfl ?_
      refine go_get rfl mh_o rfl rfl ?_
      refine go_a (pc' := 10) (ls' := [some (.ref h.length), some (.int (iI e)), some (.int (iI lv)), some (.int (iI p)), some (.int (iI fo)), some (.int (iI k)), y6]) (st' := [.int (iI p), .ref (h.length + 41), .int (iI k)]) rfl rfl ?_
      refine mi_ild rfl mh_a41 (by omega) (by omega) (by decide) ?_
      refine mi_ge (t := 50) rfl rfl (by omega) (by omega) (by omega) (by omega) (fun _ => ?_) (fun q => absurd (show A1 41 p ≤ k by omega) q)
      exact K k I1 A1 S V y6 X D hJ
    have rk := hT.2.2.1 k h0 (by omega)
    have sk : SG (fun x => TZ A ar x + 1) (fun k => A 40 (64 * p + k)) (k + 1).toNat = SG (fun x => TZ A ar x + 1) (fun k => A 40 (64 * p + k)) k.toNat + (TZ A ar (A 40 (64 * p + k)) + 1) := by
      rw [SG_pop (by omega : 0 < k + 1), show k + 1 - 1 = k by omega]
    have sm : SG (fun x => TZ A ar x + 1) (fun k => A 40 (64 * p + k)) (k + 1).toNat ≤ SG (fun x => TZ A ar x + 1) (fun k => A 40 (64 * p + k)) (A 41 p).toNat := SG_mono (fun e e0 e1 => by have := (hT.2.2.1 e e0 e1).2; show 0 ≤ TZ A ar (A 40 (64 * p + e)) + 1; omega) (by omega) (by omega)
    have s9 := hT.2.2.2.1
    have s0 : 0 ≤ SG (fun x => TZ A ar x + 1) (fun k => A 40 (64 * p + k)) k.toNat := SG_nn _ (fun e he => by have := (hT.2.2.1 e (by omega) (by omega)).2; show 0 ≤ TZ A ar (A 40 (64 * p + e)) + 1; omega)
    have f40 : A1 40 = A 40 := X.1.2.2.2.2 40 (by decide) (by decide) (by decide) (by decide) (by decide) (by decide) (by unfold GE; omega)
    have te := hT.1.2
    have tk1 := RZ_t hP X rk.1.1 rk.1.2 rk.2
    have c7 := X.2.2.1
    refine go_a (pc' := 5) (ls' := [some (.ref h.length), some (.int (iI e)), some (.int (iI lv)), some (.int (iI p)), some (.int (iI fo)), some (.int (iI k)), y6]) (st' := [.int (iI k)]) rfl rfl ?_
    refine go_a (pc' := 6) (ls' := [some (.ref h.length), some (.int (iI e)), some (.int (iI lv)), some (.int (iI p)), some (.int (iI fo)), some (.int (iI k)), y6]) (st' := [.ref h.length, .int (iI k)]) rfl rfl ?_
    refine go_get rfl mh_o rfl rfl ?_
    refine go_a (pc' := 10) (ls' := [some (.ref h.length), some (.int (iI e)), some (.int (iI lv)), some (.int (iI p)), some (.int (iI fo)), some (.int (iI k)), y6]) (st' := [.int (iI p), .ref (h.length + 41), .int (iI k)]) rfl rfl ?_
    refine mi_ild rfl mh_a41 (by omega) (by omega) (by decide) ?_
    refine mi_ge (t := 50) rfl rfl (by omega) (by omega) (by omega) (by omega) (fun q => absurd q (by omega)) (fun _ => ?_)
    have BJ2 := X.2.1
    have PJ2 := RZ_P X
    have iJ2 := PJ2.1
    have xJ2 := X.1.2.1
    have g212 : A1 21 = A 21 := X.1.2.2.2.2 21 (by decide) (by decide) (by decide) (by decide) (by decide) (by decide) (by unfold GE; omega)
    have g322 : I1 32 = I 32 := X.1.2.2.2.1 32 (by decide) (by unfold FE; omega)
    have De2 := BJ2.2.2.1.2.1 e e0 (by omega)
    have LJ2 := isL_extB hP X.1 m lv l0 l1 hL
    have VJ2 : ∀ j : Nat, j < m → A1 1 (A1 1 (rt A1 j lv)) = -2 ∧ 1 < A1 1 (rt A1 j lv) := by
      intro j hj
      have b := (VD_rt hP l0 l1 hL hj).2.1
      rw [it_BX hP X.1 l0 l1 hL hj, (X.1.2.2.1 _ b.1 b.2).1]
      exact hV j hj
    refine go_a (pc' := 15) (ls' := [some (.ref h.length), some (.int (iI e)), some (.int (iI lv)), some (.int (iI p)), some (.int (iI fo)), some (.int (iI k)), y6]) (st' := [.ref h.length]) rfl rfl ?_
    refine go_a (pc' := 16) (ls' := [some (.ref h.length), some (.int (iI e)), some (.int (iI lv)), some (.int (iI p)), some (.int (iI fo)), some (.int (iI k)), y6]) (st' := [.int (iI e), .ref h.length]) rfl rfl ?_
    refine go_a (pc' := 17) (ls' := [some (.ref h.length), some (.int (iI e)), some (.int (iI lv)), some (.int (iI p)), some (.int (iI fo)), some (.int (iI k)), y6]) (st' := [.int (iI lv), .int (iI e), .ref h.length]) rfl rfl ?_
    refine go_v (m := 169) (as := [.ref h.length, .int (iI e), .int (iI lv)]) (r := []) rfl rfl rfl mh_o rfl rfl (mm_takeParameters z (d + 6) m ar e lv h R I1 A1 N hc PJ2 e0 (by omega) (by rw [g212]; exact em) m6 l0 (by omega) LJ2 VJ2 (fun k q0 q1 => (De2.2.2.1 k q0 q1).1)) (fun v h1 hq => ?_)
    obtain ⟨rfl, I2, A2, rfl, PX2, e592, PR2, PV2⟩ := hq
    have BX2 : BX (fun j => j = 59) (fun a => a = 33 ∨ a = 34) I1 A1 N I2 A2 N := BX_of BJ2.1.1 (fun j q => PX2.1 j q) (fun a q => PX2.2 a (fun e => q (Or.inl e)) (fun e => q (Or.inr e))) (PX2.1 7 (by decide)) (PX2.1 10 (by decide)) (PX2.2 1 (by decide) (by decide)) (PX2.2 2 (by decide) (by decide)) (PX2.2 3 (by decide) (by decide)) (PX2.2 4 (by decide) (by decide)) (PX2.2 5 (by decide) (by decide)) (PX2.2 7 (by decide) (by decide)) (PX2.2 8 (by decide) (by decide)) (PX2.2 9 (by decide) (by decide))
    have R2 : RZ FE GE ar 0 I1 A1 N I2 A2 N := RZ_of BJ2 BX2 (fun j q => by subst q; unfold FE; omega) (fun a q => by unfold GE; omega) FE_FQ GE_GQ (SZI_124 BJ2.1.2.2 (PX2.2 1 (by decide) (by decide)) (PX2.2 2 (by decide) (by decide)) (PX2.2 4 (by decide) (by decide)) (PX2.1 7 (by decide))) (PX2.1 54 (by decide)) (PX2.1 56 (by decide)) (by rw [PX2.1 49 (by decide)]; exact BJ2.2.2.2.2) (by rw [PX2.1 7 (by decide)]; omega) (fun _ => PX2.1 49 (by decide))
    have e72 : I2 7 = I1 7 := PX2.1 7 (by decide)
    show xx_go (xt_P z) (d + 8) 168 20 [some (.ref h.length), some (.int (iI e)), some (.int (iI lv)), some (.int (iI p)), some (.int (iI fo)), some (.int (iI k)), y6] [] (mh h R I2 A2 N) _
    have g40 : A2 40 (64 * p + k) = A 40 (64 * p + k) := by rw [PX2.2 40 (by decide) (by decide), f40]
    have tk2 := RZ_t PJ2 R2 rk.1.1 (by omega) (by rw [tk1]; exact rk.2)
    rw [tk1] at tk2
    have z54 := R2.2.1.2.2.2.1
    have T1 : TRX I1 A1 N := TRX_BX hB.1.1 hB.1.2.1 hX X.1 (by unfold FE; omega) (by unfold GE; omega) (by unfold GE; omega)
    have T2 : TRX I2 A2 N := TRX_BX BJ2.1.1 BJ2.1.2.1 T1 R2.1 (by unfold FE; omega) (by unfold GE; omega) (by unfold GE; omega)
    have X02 := RZ_tr X R2 (Int.le_refl _)
    have dd : ∀ x : Int, 0 ≤ x → x < I 7 → DM A2 N x = DM A N x := fun x x0 x1 => DM_BX hB.1.1 hX X02.1 (by unfold FE; omega) (by unfold GE; omega) (by unfold GE; omega) x0 x1
    have g22 : A1 22 = A 22 := X.1.2.2.2.2 22 (by decide) (by decide) (by decide) (by decide) (by decide) (by decide) (by unfold GE; omega)
    have hPU : PCU (-1) (-1) False False False (sp_in (VsP A N e m) (OsP A N lv m)) N I2 A2 := by
      refine ⟨T2, ⟨fun q => q.elim, fun q => q.elim, fun q => q.elim⟩, Or.inl ⟨rfl, _, _, rfl, ?_, fun q hq => ?_⟩, fun q => absurd q (by decide)⟩
      · unfold VsP
        rw [List.length_map, List.length_range]
        exact e592.symm
      · have hq : q < m := by
          unfold VsP at hq
          rw [List.length_map, List.length_range] at hq
          exact hq
        have s := PV2 q (by omega) (by omega)
        rw [Int.toNat_natCast, g22, it_BX hP X.1 l0 l1 hL hq] at s
        have v := De.2.2.1 q (by omega) (by omega)
        have b := (VD_rt hP l0 l1 hL hq).2.1
        refine ⟨⟨by rw [s.1]; omega, by rw [s.1]; omega⟩, ⟨by rw [s.2]; omega, by rw [s.2]; omega⟩, ⟨sp_hc (DM A N (A 22 (6 * e + q))), ?_, ?_⟩, ?_⟩
        · unfold VsP
          rw [List.getElem?_map, List.getElem?_range hq]
          rfl
        · rw [s.1, dd _ v.1.1 v.1.2, DM_s v.2]
          rfl
        · unfold OsP
          rw [List.getElem?_map, List.getElem?_range hq, s.2, dd _ b.1 b.2]
          rfl
    refine go_a (pc' := 21) (ls' := [some (.ref h.length), some (.int (iI e)), some (.int (iI lv)), some (.int (iI p)), some (.int (iI fo)), some (.int (iI k)), y6]) (st' := [.ref h.length]) rfl rfl ?_
    refine go_a (pc' := 22) (ls' := [some (.ref h.length), some (.int (iI e)), some (.int (iI lv)), some (.int (iI p)), some (.int (iI fo)), some (.int (iI k)), y6]) (st' := [.ref h.length, .ref h.length]) rfl rfl ?_
    refine go_a (pc' := 23) (ls' := [some (.ref h.length), some (.int (iI e)), some (.int (iI lv)), some (.int (iI p)), some (.int (iI fo)), some (.int (iI k)), y6]) (st' := [.ref h.length, .ref h.length, .ref h.length]) rfl rfl ?_
    refine go_a (pc' := 24) (ls' := [some (.ref h.length), some (.int (iI e)), some (.int (iI lv)), some (.int (iI p)), some (.int (iI fo)), some (.int (iI k)), y6]) (st' := [.ref h.length, .ref h.length, .ref h.length, .ref h.length]) rfl rfl ?_
    refine go_get rfl mh_o rfl rfl ?_
    refine go_a (pc' := 29) (ls' := [some (.ref h.length), some (.int (iI e)), some (.int (iI lv)), some (.int (iI p)), some (.int (iI fo)), some (.int (iI k)), y6]) (st' := [.int (iI 64), .ref (h.length + 40), .ref h.length, .ref h.length, .ref h.length]) rfl rfl ?_
    refine go_a (pc' := 30) (ls' := [some (.ref h.length), some (.int (iI e)), some (.int (iI lv)), some (.int (iI p)), some (.int (iI fo)), some (.int (iI k)), y6]) (st' := [.int (iI p), .int (iI 64), .ref (h.length + 40), .ref h.length, .ref h.length, .ref h.length]) rfl rfl ?_
    refine mi_mul rfl ?_
    refine go_a (pc' := 33) (ls' := [some (.ref h.length), some (.int (iI e)), some (.int (iI lv)), some (.int (iI p)), some (.int (iI fo)), some (.int (iI k)), y6]) (st' := [.int (iI k), .int (iI (64 * p)), .ref (h.length + 40), .ref h.length, .ref h.length, .ref h.length]) rfl rfl ?_
    refine mi_add rfl ?_
    refine mi_ild rfl mh_a40 (by omega) (by omega) (by decide) ?_
    rw [g40]
    show xx_go (xt_P z) (d + 8) 168 35 [some (.ref h.length), some (.int (iI e)), some (.int (iI lv)), some (.int (iI p)), some (.int (iI fo)), some (.int (iI k)), y6] [.int (iI (A 40 (64 * p + k))), .ref h.length, .ref h.length, .ref h.length] (mh h R I2 A2 N) _
    refine go_v (m := 161) (as := [.ref h.length, .int (iI (A 40 (64 * p + k)))]) (r := [.ref h.length, .ref h.length]) rfl rfl rfl mh_o rfl rfl (mm_instanceR z d ar False False False (sp_in (VsP A N e m) (OsP A N lv m)) (A 40 (64 * p + k)) h R I2 A2 N hc R2.2.1.1.1 R2.2.1.1.2.1 R2.2.1.1.2.2 PR2 rk.1.1 (by omega) (by rw [tk2]; exact rk.2) hPU (by omega) (by omega) (by omega) (by omega) (by omega) R2.2.1.2.2.2.2.1 R2.2.1.2.2.2.2.2) (fun v h1 hq => ?_)
    obtain ⟨t, I3, A3, rfl, rfl, M3, RQU, -, cv3⟩ := hq
    rw [tk2] at M3
    have R3 := RE_MK R2.2.1 M3
    have r3 := RU_MK R2.2.1 M3
    have c73 := R3.2.2.1
    show xx_go (xt_P z) (d + 8) 168 38 [some (.ref h.length), some (.int (iI e)), some (.int (iI lv)), some (.int (iI p)), some (.int (iI fo)), some (.int (iI k)), y6] [.int (iI t), .ref h.length, .ref h.length] (mh h R I3 A3 N) _
    have T3 : TRX I3 A3 N := TRX_BX R2.2.1.1.1 R2.2.1.1.2.1 T2 R3.1 (by unfold FE; omega) (by unfold GE; omega) (by unfold GE; omega)
    have dt3 := RQU.2
    rw [DM_BX R2.2.1.1.1 T2 R3.1 (by unfold FE; omega) (by unfold GE; omega) (by unfold GE; omega) rk.1.1 (by omega), dd _ rk.1.1 rk.1.2] at dt3
    have K3 : ART ar ft I3 A3 N := ART_BX hB hX hK (BX_tr X02.1 R3.1) (by unfold FE; omega) (by unfold GE; omega) (by unfold GE; omega)
    have hO : ∀ x ∈ OsP A N lv m, 1 ≤ (sp_ts ft x).1 := fun x hx => by
      obtain ⟨j, hj, rfl⟩ := List.mem_map.mp hx
      rw [DM_s (hV j (List.mem_range.mp hj)).1]
      exact Int.le_refl _
    have ts3 : 1 ≤ TS A3 ar t := by
      have a := (ts_in (ft := ft) (Vs := VsP A N e m) hO (DM A N (A 40 (64 * p + k)))).1 (by rw [TS_1 hB.1.1 hB.1.2.1 hX hK rk.1.1 rk.1.2]; exact hs k h0 (by omega))
      rw [← dt3, TS_1 R3.2.1.1.1 R3.2.1.1.2.1 T3 K3 r3.2.2.1.1.1 r3.2.2.1.1.2] at a
      exact a
    have z3 := R3.2.1.2.2.2.1
    refine go_v (m := 125) (as := [.ref h.length, .int (iI t)]) (r := [.ref h.length]) rfl rfl rfl mh_o rfl rfl (mm_notOf2 z (d + 1) ar t h R I3 A3 N hc R3.2.1.1.1 R3.2.1.1.2.1 R3.2.1.1.2.2 T3 (TS_pq ts3) r3.2.2.1.2 r3.2.2.1.1.1 r3.2.2.1.1.2 (R3.2.1.2.1.1.1.2.2 15 (by decide) (by decide)) (by omega) (by omega) (by omega) R3.2.1.2.2.2.2.1 R3.2.1.2.2.2.2.2) (fun v h1 hq => ?_)
    obtain ⟨u, I4, A4, rfl, rfl, M4, -, dt4, cv4⟩ := hq
    have R4 := RE_MD R3.2.1 M4
    have r4 := RU_MD R3.2.1 M4
    show xx_go (xt_P z) (d + 8) 168 41 [some (.ref h.length), some (.int (iI e)), some (.int (iI lv)), some (.int (iI p)), some (.int (iI fo)), some (.int (iI k)), y6] [.int (iI u), .ref h.length] (mh h R I4 A4 N) _
    have u4 : I4 49 = 0 → TZ A4 ar u ≤ 120 := by
      intro q
      have a := r4.2.2.2 q
      have b := r3.2.2.2 (RZ_z R4 q)
      rw [if_pos b] at a
      exact a
    have D4 : DR ar k S V I4 A4 := r4.2.1 _ _ _ (r3.2.1 _ _ _ (DR_BX PJ2 D BX2 (by decide) (by decide) (fun q => by rw [← PX2.1 49 (by decide)]; exact q)))
    refine go_v (m := 155) (as := [.ref h.length, .int (iI u)]) (r := []) rfl rfl rfl mh_o rfl rfl (mm_put z (d + 7) ar k S V u h R I4 A4 N hc (RZ_P R4) D4 (by omega) r4.2.2.1.1.1 r4.2.2.1.1.2 r4.2.2.1.2 u4 (RZ_P R4).1) (fun v h1 hq => ?_)
    obtain ⟨rfl, I5, A5, rfl, X5, D5, J5⟩ := hq
    have R5 := RE_DX R4.2.1 X5
    show xx_go (xt_P z) (d + 8) 168 44 [some (.ref h.length), some (.int (iI e)), some (.int (iI lv)), some (.int (iI p)), some (.int (iI fo)), some (.int (iI k)), y6] [] (mh h R I5 A5 N) _
    refine go_a (pc' := 47) (ls' := [some (.ref h.length), some (.int (iI e)), some (.int (iI lv)), some (.int (iI p)), some (.int (iI fo)), some (.int (iI (k + 1))), y6]) (st' := []) rfl (by rw [← iI_add k 1]; rfl) ?_
    refine go_a (pc' := 3) (ls' := [some (.ref h.length), some (.int (iI e)), some (.int (iI lv)), some (.int (iI p)), some (.int (iI fo)), some (.int (iI (k + 1))), y6]) (st' := []) rfl rfl ?_
    have T4 : TRX I4 A4 N := TRX_BX R3.2.1.1.1 R3.2.1.1.2.1 T3 R4.1 (by unfold FE; omega) (by unfold GE; omega) (by unfold GE; omega)
    have hJ5 : DIT [] I A N → DIT (itR (sp_in (VsP A N e m) (OsP A N lv m)) A N p (k + 1)) I5 A5 N := fun h9 => by
      have D2 := DR_BX PJ2 D BX2 (by decide) (by decide) (fun q => by rw [← PX2.1 49 (by decide)]; exact q)
      have h2 := DIT_BX BJ2 T1 D BX2 (by decide) (by decide) (by decide) (by decide) (by decide) (PX2.1 49 (by decide)) (hJ h9)
      have sz3 := TZ_1 (ar := ar) M3.1.1 R3.2.1.1.2.1 T3 r3.2.2.1.1.1 r3.2.2.1.1.2 r3.2.2.1.2
      rw [dt3] at sz3
      have h3 := DIM_made R2.2.1 T2 D2 M3.1 (by unfold FW; omega) (by unfold GB; omega) (by unfold GB; omega) (by unfold FW; omega) (by unfold GB; omega) M3.2.2.2.2.2.1.2.1 r3.2.2.2 cv3 dt3 sz3 h2
      have sz4 := TZ_1 (ar := ar) M4.1.1 R4.2.1.1.2.1 T4 r4.2.2.1.1.1 r4.2.2.1.1.2 r4.2.2.1.2
      rw [dt4] at sz4
      have h4 := DIM_not R3.2.1 T3 (r3.2.1 _ _ _ D2) M4.1 (by unfold FW; omega) (by unfold GB; omega) (by unfold GB; omega) (by unfold FW; omega) (by unfold GB; omega) M4.2.2.2.2.2.1.2.1 u4 cv4 dt4 sz4 h3
      rw [itR_s h0]
      exact DIM_put R4.2.1 T4 D4 X5 J5 r4.2.2.1.1.1 r4.2.2.1.1.2 h4
    exact ih (k + 1) I5 A5 _ _ _ (by omega) (by omega) (by omega) (RZ_tr (RZ_tr X (RZ_tr R2 (RZ_tr R3 R4 (Int.le_refl _)) (Int.le_refl _)) (Int.le_refl _)) R5 (by omega)) D5 hJ5

