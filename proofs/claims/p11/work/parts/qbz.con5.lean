section FINS
variable {ar : Int → Int} {ft : Nat → Int} {Fb : List (Nat × List Nat × ob_T)} {Tb : List (Nat × ob_T)} {I I1 : Nat → Int} {A A1 : Nat → Int → Int} {N : Int → Int} {o c e x9 : Int} {fn : Nat} {F : ob_T}
theorem INC_RU (hB : BI ar I A N) (h : BTX ar ft Fb Tb I A N) (x : RU ar x9 I A N I1 A1 N) (hI : IND ar I A o e) (o0 : 0 ≤ o) (o1 : o < I 7) (hC : ∀ p : Int, 0 ≤ p → p < PS A (fun _ => 1) (A 23 e) → CLA ar I A (c + p)) : (∀ p : Int, 0 ≤ p → p < PS A1 (fun _ => 1) (A1 23 e) → RNC fn (VsP A1 N e (A1 21 e).toNat) (VlP A1 N (A1 2 (A1 1 (rt A1 2 o))) (A1 21 e).toNat) (OsP A1 N (A1 2 (A1 1 (rt A1 2 o))) (A1 21 e).toNat) F (DM A1 N (A1 23 e)) A1 N c p) ↔ ∀ p : Int, 0 ≤ p → p < PS A (fun _ => 1) (A 23 e) → RNC fn (VsP A N e (A 21 e).toNat) (VlP A N (A 2 (A 1 (rt A 2 o))) (A 21 e).toNat) (OsP A N (A 2 (A 1 (rt A 2 o))) (A 21 e).toNat) F (DM A N (A 23 e)) A N c p := by
  have hP := BI_P hB
  have n0 := BI_n0 hB
  obtain ⟨n, hL, n3, -, ⟨cp, e0, e1, -, -⟩, ⟨lL, -⟩, -⟩ := hI
  have De := hB.2.2.1.2.1 e e0 e1
  have ga : ∀ a : Nat, 20 ≤ a → a ≤ 26 → A1 a = A a := fun a p q => x.1.2.2.2.2 a (by omega) (by omega) (by omega) (by omega) (by omega) (by omega) (by unfold GC; omega)
  have h50 : A1 50 = A 50 := x.1.2.2.2.2 50 (by decide) (by decide) (by decide) (by decide) (by decide) (by decide) (by unfold GC; omega)
  have h51 : A1 51 = A 51 := x.1.2.2.2.2 51 (by decide) (by decide) (by decide) (by decide) (by decide) (by decide) (by unfold GC; omega)
  have b2 := (VD_rt hP o0 o1 hL (by omega : 2 < n)).2.1
  have i2 := it_BX hP x.1 o0 o1 hL (by omega : 2 < n)
  have c2 := (x.1.2.2.1 _ b2.1 b2.2).2.1
  have qc := hP.2 _ b2.1 b2.2
  have qc2 := qc.2.2.2.2 cp
  have ps : PS A1 (fun _ => 1) (A 23 e) = PS A (fun _ => 1) (A 23 e) := PS_extT hP n0 hB.2.1.1.1.1 (fun k a b => ⟨(x.1.2.2.1 k a b).1, (x.1.2.2.1 k a b).2.1⟩) (fun _ _ _ _ => rfl) _ (A 23 e) De.2.2.2.1.1 De.2.2.2.1.2 De.2.2.2.2.1.1
  have ev : VsP A1 N e (A 21 e).toNat = VsP A N e (A 21 e).toNat := VsP_BX hB.1.1 h.1 x.1 (by unfold FC; omega) (by unfold GC; omega) (by unfold GC; omega) (by unfold GC; omega) (fun k a b => (De.2.2.1 k a (by have := De.2.1.1; omega)).1)
  have eo := OsP_BX hB.1.1 h.1 x.1 (by unfold FC; omega) (by unfold GC; omega) (by unfold GC; omega) qc.2.2.1 (by omega) lL
  rw [ga 23 (by decide) (by decide), ga 21 (by decide) (by decide), ps, i2, c2, ev, eo.1, eo.2, DM_RU hB h x De.2.2.2.1.1 De.2.2.2.1.2]
  refine ⟨fun H p p0 p1 => ?_, fun H p p0 p1 => ?_⟩
  · obtain ⟨q, D, a, b, d⟩ := H p p0 p1
    rw [h50, h51] at d
    refine ⟨q, D, a, b, fun k k0 k1 => ?_⟩
    have bb := ((hC p p0 p1).2.1 k k0 k1).1
    rw [← DM_RU hB h x bb.1 bb.2]
    exact d k k0 k1
  · obtain ⟨q, D, a, b, d⟩ := H p p0 p1
    refine ⟨q, D, a, b, fun k k0 k1 => ?_⟩
    rw [h51] at k1
    have bb := ((hC p p0 p1).2.1 k k0 k1).1
    rw [h50, DM_RU hB h x bb.1 bb.2]
    exact d k k0 k1
theorem form_n (hF : FORM ar I A N o) (n0 : A 1 0 < 0) : ∃ n : Nat, isL A n o ∧ 1 ≤ n ∧ ((A 1 o = 29 ∨ A 1 o = 30 ∨ A 1 o = 31 ∨ A 1 o = 37 ∨ A 1 o = 38 ∨ A 1 o = 42) → n = 2) ∧ ((A 1 o = 32 ∨ A 1 o = 33 ∨ A 1 o = 34 ∨ A 1 o = 39 ∨ A 1 o = 43) → n = 3) ∧ ((A 1 o = 35 ∨ A 1 o = 36 ∨ A 1 o = 40) → n = 4) ∧ (A 1 o = 41 → 2 ≤ n) := by
  obtain ⟨n, hL, n1, hF⟩ := hF
  refine ⟨n, hL, n1, ?_⟩
  rcases hF with ⟨a, b, -⟩ | ⟨a, b, -⟩ | ⟨a, b, -⟩ | ⟨a, b, -⟩ | ⟨a, b, -⟩ | ⟨a, b, -⟩ | ⟨a, b, -⟩ | ⟨a, b, -⟩ | ⟨a, b, -⟩ | ⟨a, b⟩ | ⟨a, b⟩ | ⟨a, -⟩
  all_goals refine ⟨fun q => ?_, fun q => ?_, fun q => ?_, fun q => ?_⟩ <;> omega
theorem fin_inst {m : Nat} {n : Nat} {Ps : List (List ob_T)} (hB : BI ar I A N) (h : BTX ar ft Fb Tb I A N) (o0 : 0 ≤ o) (o1 : o < I 7) (hL : isL A n o) (n2 : 2 ≤ n) (lm : isL A m (A 2 (A 2 o))) (qm : ∀ j : Nat, j < m → PQ A ar (A 1 (rt A j (A 2 (A 2 o))))) : sp_fin ft Fb Tb 966246 (DM A N o) Ps = sp_cz ((Ps.getD 0 []).map (fun t => sp_opO (sp_in (VsL A N (A 2 (A 2 o)) m) (OsL A N (A 2 (A 2 o)) m) t).1)) := by
  have hP := BI_P hB
  obtain ⟨l9, -, ed⟩ := two_as hB h o0 o1 hL n2
  have bj : ∀ j : Nat, j < m → 0 ≤ A 1 (rt A j (A 2 (A 2 o))) ∧ A 1 (rt A j (A 2 (A 2 o))) < I 7 := fun j hj => (VD_rt hP l9.1 l9.2 lm hj).2.1
  have ea : sp_all (((sp_as (DM A N o)).drop 2).map (fun y => sp_tm ft (sp_p 1 y))) = some (OsL A N (A 2 (A 2 o)) m) := by
    rw [ed, L_as hB h l9.1 l9.2 lm, List.map_map]
    refine all_map _ (fun j hj => ?_)
    have hj := List.mem_range.mp hj
    have b := bj j hj
    have q := qm j hj
    have b1 := (VD_rt hP b.1 b.2 q.1 (by decide : 1 < 2)).2.1
    show sp_tm ft (sp_p 1 (DM A N (A 1 (rt A j (A 2 (A 2 o)))))) = _
    rw [L_p hB h b.1 b.2 q.1 (by decide : 1 < 2)]
    exact tok_tm hB h b1.1 b1.2 q.2.2
  have ev : ((sp_as (DM A N o)).drop 2).map (fun y => sp_hc (sp_p 0 y)) = VsL A N (A 2 (A 2 o)) m := by
    rw [ed, L_as hB h l9.1 l9.2 lm, List.map_map]
    refine List.map_congr_left (fun j hj => ?_)
    have hj := List.mem_range.mp hj
    have b := bj j hj
    have q := qm j hj
    show sp_hc (sp_p 0 (DM A N (A 1 (rt A j (A 2 (A 2 o)))))) = _
    rw [L_p hB h b.1 b.2 q.1 (by decide : 0 < 2)]
    rfl
  rw [fe_3, ea, ev]
  rfl
theorem fin_ind {P n : Nat} (hB : BI ar I A N) (h : BTX ar ft Fb Tb I A N) (o0 : 0 ≤ o) (o1 : o < I 7) (hI : IND ar I A o e) (ff : DM A N (A 20 e) = .var fn) (eP : PS A (fun _ => 1) (A 23 e) = P) (h1 : sp_tm ft (DM A N (A 1 (rt A 1 o))) = some F) : sp_fin ft Fb Tb 2132882439 (DM A N o) ((List.range P).map (fun (i : Nat) => CLD A N (c + i))) = ifc (∀ p : Int, 0 ≤ p → p < PS A (fun _ => 1) (A 23 e) → RNC fn (VsP A N e (A 21 e).toNat) (VlP A N (A 2 (A 1 (rt A 2 o))) (A 21 e).toNat) (OsP A N (A 2 (A 1 (rt A 2 o))) (A 21 e).toNat) F (DM A N (A 23 e)) A N c p) (sp_cz [some F]) none := by
  have hP := BI_P hB
  obtain ⟨n, hL, n3, -, ⟨cp, e0, e1, ee, eu⟩, ⟨lL, lV⟩, -⟩ := hI
  have De := hB.2.2.1.2.1 e e0 e1
  have b2 := (VD_rt hP o0 o1 hL (by omega : 2 < n)).2.1
  have qc := hP.2 _ b2.1 b2.2
  have qc2 := qc.2.2.2.2 cp
  obtain ⟨v, ps, B, f1, f2, f3, f4, f5, f6, f7⟩ := fb_at hB h e0 e1 cp (by omega) ee eu
  have ev : v = fn := by
    rw [f2] at ff
    injection ff
  have eas : sp_as (DM A N (A 2 (A 1 (rt A 2 o)))) = OsP A N (A 2 (A 1 (rt A 2 o))) (A 21 e).toNat := L_as hB h qc.2.2.1 (by omega) lL
  have hO : RNV (OsP A N (A 2 (A 1 (rt A 2 o))) (A 21 e).toNat) := OsP_RNV hB.1.1 hB.1.2.1 h.1 hP qc.2.2.1 (by omega) lL (fun j hj => lV j (by omega))
  have cnt := PS_ph (ar := ar) hB.1.1 hB.1.2.1 h.1 hB.2.1.1.1.1 _ (A 23 e) (Nat.lt_succ_self _) De.2.2.2.1.1 De.2.2.2.1.2 De.2.2.2.2.1.1
  have szb : (sp_sz B).1 ≤ 120 := by
    rw [← f4, TZ_1 (ar := ar) hB.1.1 hB.1.2.1 h.1 De.2.2.2.1.1 De.2.2.2.1.2 De.2.2.2.2.1.1]
    exact De.2.2.2.2.1.2
  rw [fe_6, L_p hB h o0 o1 hL (by omega : 1 < n), L_p hB h o0 o1 hL (by omega : 2 < n), h1, DM_pr hB.1.1 h.1 b2.1 b2.2 cp]
  show (sp_fb Fb (DM A N (A 1 (A 1 (rt A 2 o))))).bind (fun fn => (sp_opO (sp_in fn.2.1 (sp_as (DM A N (A 2 (A 1 (rt A 2 o))))) fn.2.2).1).bind (fun B => ifc (∀ k : Nat, k < (sp_ph fn.2.2).length → ∃ (p : List (Bool × ob_T) × ob_T) (D P9 : List ob_T), (sp_ph B)[k]? = some p ∧ sp_cz (sp_du fn.1 ((sp_as (DM A N (A 2 (A 1 (rt A 2 o))))).map sp_hc) F p) = some D ∧ ((List.range P).map (fun (i : Nat) => CLD A N (c + i)))[k]? = some P9 ∧ ∀ t ∈ P9, t ∈ D) (sp_cz [some F]) none)) = _
  rw [f1, eas]
  show (sp_opO (sp_in ps (OsP A N (A 2 (A 1 (rt A 2 o))) (A 21 e).toNat) B).1).bind (fun B1 => ifc (∀ k : Nat, k < (sp_ph B).length → ∃ (p : List (Bool × ob_T) × ob_T) (D P9 : List ob_T), (sp_ph B1)[k]? = some p ∧ sp_cz (sp_du v ((OsP A N (A 2 (A 1 (rt A 2 o))) (A 21 e).toNat).map sp_hc) F p) = some D ∧ ((List.range P).map (fun (i : Nat) => CLD A N (c + i)))[k]? = some P9 ∧ ∀ t ∈ P9, t ∈ D) (sp_cz [some F]) none) = _
  rw [sp_opO_s (by rw [(sz_in hO B).1]; exact szb)]
  show ifc (∀ k : Nat, k < (sp_ph B).length → ∃ (p : List (Bool × ob_T) × ob_T) (D P9 : List ob_T), (sp_ph (sp_in ps (OsP A N (A 2 (A 1 (rt A 2 o))) (A 21 e).toNat) B).1)[k]? = some p ∧ sp_cz (sp_du v ((OsP A N (A 2 (A 1 (rt A 2 o))) (A 21 e).toNat).map sp_hc) F p) = some D ∧ ((List.range P).map (fun (i : Nat) => CLD A N (c + i)))[k]? = some P9 ∧ ∀ t ∈ P9, t ∈ D) (sp_cz [some F]) none = _
  have evl : (OsP A N (A 2 (A 1 (rt A 2 o))) (A 21 e).toNat).map sp_hc = VlP A N (A 2 (A 1 (rt A 2 o))) (A 21 e).toNat := by
    unfold OsP VlP
    rw [List.map_map]
    rfl
  rw [evl, f5, ← f4, ev]
  rw [f4] at cnt
  have key : (∀ k : Nat, k < (sp_ph (DM A N (A 23 e))).length → ∃ (p : List (Bool × ob_T) × ob_T) (D P9 : List ob_T), (sp_ph (sp_in (VsP A N e (A 21 e).toNat) (OsP A N (A 2 (A 1 (rt A 2 o))) (A 21 e).toNat) (DM A N (A 23 e))).1)[k]? = some p ∧ sp_cz (sp_du fn (VlP A N (A 2 (A 1 (rt A 2 o))) (A 21 e).toNat) F p) = some D ∧ ((List.range P).map (fun (i : Nat) => CLD A N (c + i)))[k]? = some P9 ∧ ∀ t ∈ P9, t ∈ D) ↔ ∀ p : Int, 0 ≤ p → p < PS A (fun _ => 1) (A 23 e) → RNC fn (VsP A N e (A 21 e).toNat) (VlP A N (A 2 (A 1 (rt A 2 o))) (A 21 e).toNat) (OsP A N (A 2 (A 1 (rt A 2 o))) (A 21 e).toNat) F (DM A N (A 23 e)) A N c p := by
    rw [f4]
    refine ⟨fun H p p0 p1 => ?_, fun H k hk => ?_⟩
    · obtain ⟨q, D, P9, a, b, d, g⟩ := H p.toNat (by omega)
      rw [List.getElem?_map, List.getElem?_range (by omega)] at d
      injection d with d
      refine ⟨q, D, a, b, fun k k0 k1 => g _ ?_⟩
      have d : CLD A N (c + ((p.toNat : Nat) : Int)) = P9 := d
      rw [← d, show c + ((p.toNat : Nat) : Int) = c + p by omega]
      exact List.mem_map.mpr ⟨_, ixl_mem.mpr ⟨k, k0, k1, rfl⟩, rfl⟩
    · obtain ⟨q, D, a, b, d⟩ := H k (by omega) (by omega)
      rw [Int.toNat_natCast] at a
      refine ⟨q, D, CLD A N (c + k), a, b, ?_, fun t ht => ?_⟩
      · rw [List.getElem?_map, List.getElem?_range (by omega)]
        rfl
      · obtain ⟨y, hy, rfl⟩ := List.mem_map.mp ht
        obtain ⟨q9, a0, a1, a2⟩ := ixl_mem.mp hy
        rw [← a2]
        exact d q9 a0 a1
  by_cases cc : ∀ p : Int, 0 ≤ p → p < PS A (fun _ => 1) (A 23 e) → RNC fn (VsP A N e (A 21 e).toNat) (VlP A N (A 2 (A 1 (rt A 2 o))) (A 21 e).toNat) (OsP A N (A 2 (A 1 (rt A 2 o))) (A 21 e).toNat) F (DM A N (A 23 e)) A N c p
  · rw [ifc_pos cc, ifc_pos (key.mpr cc)]
  · rw [ifc_neg cc, ifc_neg (fun q => cc (key.mp q))]
end FINS
theorem KC_ge {ar : Int → Int} {I : Nat → Int} {A : Nat → Int → Int} {d c : Int} (d0 : 0 ≤ d) (h : CLA ar I A c) : 502 ≤ KC d A ar c := by
  have a := CLA_120 h
  have b := h.1
  exact KK_ge d0 (by omega)
theorem SPR_le {ar : Int → Int} {I : Nat → Int} {A : Nat → Int → Int} {d o c : Int} {f n : Nat} (hP : PW I A) (o0 : 0 ≤ o) (o1 : o < I 7) (hL : isL A n o) (d0 : 0 ≤ d) : ∀ P : Nat, f + P ≤ n → (∀ i : Nat, i < P → CLA ar I A (c + i)) → SPR A ar d o c f P ≤ 128 * (VD A (rt A f o) - VD A (rt A (f + P) o)) - 502 * P
  | 0, _, _ => by
    show (0 : Int) ≤ 128 * (VD A (rt A f o) - VD A (rt A f o)) - 502 * 0
    omega
  | P + 1, h, hC => by
    have a := SPR_le (c := c) (f := f) hP o0 o1 hL d0 P (by omega) (fun i hi => hC i (by omega))
    have b := KC_ge (d := d) d0 (hC P (by omega))
    have v := (VD_rt hP o0 o1 hL (by omega : f + P < n)).1
    show SPR A ar d o c f P + (128 * WD A (A 1 (rt A (f + P) o)) - KC d A ar (c + P)) ≤ _
    have e : rt A (f + (P + 1)) o = rt A (f + P + 1) o := rfl
    rw [e]
    omega
theorem PS_pos {I : Nat → Int} {A : Nat → Int → Int} {ar : Int → Int} (hP : PW I A) (n0 : A 1 0 < 0) (ha : ar 3 = 3) : ∀ (n : Nat) (k : Int), k.toNat < n → 0 ≤ k → k < I 7 → 1 ≤ TZ A ar k → 1 ≤ PS A (fun _ => 1) k
  | 0, _, h, _, _, _ => absurd h (by omega)
  | n + 1, k, h, h0, h1, t => by
    by_cases e : A 1 k = 3
    · have t3 := TZ_three (ar := ar) hP n0 h0 h1 (by omega) (by omega) (by rw [e]; exact ha) t
      have q2 := hP.2 (A 2 (A 2 k)) (by omega) (by omega)
      have q3 := hP.2 (A 2 (A 2 (A 2 k))) (by omega) (by omega)
      rw [PS_if hP n0 ha h0 h1 e t]
      have a := PS_pos hP n0 ha n (A 1 (A 2 (A 2 k))) (by omega) (by omega) (by omega) t3.2.2.1.2.1
      have b := PS_pos hP n0 ha n (A 1 (A 2 (A 2 (A 2 k)))) (by omega) (by omega) (by omega) t3.2.2.1.2.2
      omega
    · rw [PS_end e]
      exact Int.le_refl _
set_option maxRecDepth 4000 in
theorem mm_con_induct (z : Value) (d : Nat) (ar : Int → Int) (ft : Nat → Int) (Fb : List (Nat × List Nat × ob_T)) (Tb : List (Nat × ob_T)) (ρ : Option (List ob_T)) (k o c E dd : Int) (h R : xx_H) (I : Nat → Int) (A : Nat → Int → Int) (N : Int → Int) (hc : 12 ≤ h.length) (hB : BI ar I A N) (k0 : 0 ≤ k) (k1 : k < 40) (ek : A 47 k = o) (o0 : 0 ≤ o) (o1 : o < I 7) (hF : FORM ar I A N o) (ec : A 49 k = c) (c0 : 0 ≤ c) (w : WD A o ≤ 1000) (hE : E + 128 * WD A o ≤ 140000) (d0 : 0 ≤ dd) (d1 : dd ≤ 39) (c9 : Int) (hcf : CFX ar I A o c9) (hX : BTX ar ft Fb Tb I A N) (w0 : I 49 = 0) (ef : A 1 o = 27) (P : Nat) (e : Int) (hI : IND ar I A o e) (hc9 : c9 ≤ 2 * WD A (A 1 (rt A 1 o)) - 2 + 4 * (PS A (fun _ => 1) (A 23 e) - 1)) (hLP : isL A (3 + P) o) (hU : I 7 ≤ E + c9 + SPR A ar (dd + 1) o c 3 P) (c1 : c + P ≤ 350) (hC : ∀ i : Nat, i < P → CLA ar I A (c + i)) (fn : Nat) (ff : DM A N (A 20 e) = .var fn) (hb9 : 1 ≤ TS A ar (A 23 e)) (hρ : ∀ F : ob_T, sp_tm ft (DM A N (A 1 (rt A 1 o))) = some F → ρ = ifc (∀ p : Int, 0 ≤ p → p < PS A (fun _ => 1) (A 23 e) → RNC fn (VsP A N e (A 21 e).toNat) (VlP A N (A 2 (A 1 (rt A 2 o))) (A 21 e).toNat) (OsP A N (A 2 (A 1 (rt A 2 o))) (A 21 e).toNat) F (DM A N (A 23 e)) A N c p) (sp_cz [some F]) none) : xx_cl (xt_P z) (d + 11) 154 [.ref h.length, .int (iI k)] (mh h R I A N) (fun v h1 => ∃ (b : Int) (I1 : Nat → Int) (A1 : Nat → Int → Int) (N1 : Int → Int), v = some (.int (iI b)) ∧ h1 = mh h R I1 A1 N1 ∧ RU ar 140000 I A N I1 A1 N1 ∧ ((b = 0 ∧ ρ = none) ∨ (b = 1 ∧ (∃ its : List (Option ob_T), DIT its I1 A1 N1 ∧ ρ = sp_cz its) ∧ ∃ S V : Int, DR ar 1190 S V I1 A1 ∧ (I1 49 = 0 → I1 67 ≤ 30 → SG (TZ A1 ar) (A1 38) (I1 67).toNat ≤ 400 → I1 7 + KDR dd I1 A1 ar ≤ E + 128 * WD A o)))) := by
  have hP := BI_P hB
  have n0 := BI_n0 hB
  have p9 := hP.1
  have nm := hB.1.2.1.1
  have n2 : A 1 2 < 0 := by rw [hB.1.2.1.2 2 (by decide) (by decide)]; decide
  obtain ⟨n, hL, n1, hF⟩ := hF
  have en : True := by
    rcases hF with q | q | q | q | q | q | q | q | q | q | q | q
    · omega
    · omega
    · omega
    · omega
    · omega
    · omega
    · omega
    · omega
    · omega
    · omega
    · omega
    · exact trivial
  clear hF
  clear en
  have hI9 := hI
  obtain ⟨n', hL', n3, tk1, ⟨cp, e0, e1, ee, eu⟩, ⟨lL, lV⟩, nn⟩ := hI9
  have en := isL_uq n0 n' (3 + P) o hL' hLP
  have en2 := isL_uq n0 n (3 + P) o hL hLP
  subst en2
  have eP : PS A (fun _ => 1) (A 23 e) = P := by omega
  rw [eP] at hc9
  have nl := isL_len hP o.toNat (3 + P) o (Nat.le_refl _) o0 o1 hL
  have P0 : 1 ≤ P := by
    have De := hB.2.2.1.2.1 e e0 e1
    have bd := De.2.2.2.1
    have bt := De.2.2.2.2.1
    have := PS_pos hP n0 hB.2.1.1.1.1 _ (A 23 e) (Nat.lt_succ_self _) bd.1 bd.2 bt.1
    omega
  have wo := WD_pair hP o0 o1 (by omega)
  rw [if_neg (fun q => absurd q.1 (by omega))] at wo
  have v0 := VD_rt hP o0 o1 hL (by omega : 0 < 3 + P)
  have v0e : VD A o = WD A (A 1 o) + VD A (rt A 1 o) := v0.1
  have wr : WD A (A 1 o) = 1 := WD_atom (by rw [hB.1.2.1.2 _ (by omega) (by omega)]; decide)
  have v1 := VD_rt hP o0 o1 hL (by omega : 1 < 3 + P)
  have v1e : VD A (rt A 1 o) = WD A (A 1 (rt A 1 o)) + VD A (rt A 2 o) := v1.1
  have v2 := VD_rt hP o0 o1 hL (by omega : 2 < 3 + P)
  have v2e : VD A (rt A 2 o) = WD A (A 1 (rt A 2 o)) + VD A (rt A 3 o) := v2.1
  have sp := SPR_le (ar := ar) (d := dd + 1) (c := c) (f := 3) hP o0 o1 hL (by omega) P (Nat.le_refl _) hC
  have ve := VD_nn A (rt A (3 + P) o)
  have De := hB.2.2.1.2.1 e e0 e1
  have d17 := De.1
  have wc := WD_pair hP v2.2.1.1 v2.2.1.2 cp
  rw [if_neg (fun q => absurd q.1 (by omega))] at wc
  have vc := VD_pair hP v2.2.1.1 v2.2.1.2 cp
  have qc := hP.2 _ v2.2.1.1 v2.2.1.2
  have qc2 := qc.2.2.2.2 cp
  have wc1 := WD_1 hP cp (by omega : A 1 (A 1 (rt A 2 o)) < I 7)
  have vc1 := VD_nn A (A 2 (A 1 (rt A 2 o)))
  refine cl_go rfl ?_
  show xx_go (xt_P z) (d + 10) 154 0 [some (.ref h.length), some (.int (iI k)), none, none, none, none, none, none] [] (mh h R I A N) _
  refine go_a (pc' := 1) (ls' := [some (.ref h.length), some (.int (iI k)), none, none, none, none, none, none]) (st' := [.ref h.length]) rfl rfl ?_
  refine go_get rfl mh_o rfl rfl ?_
  refine go_a (pc' := 5) (ls' := [some (.ref h.length), some (.int (iI k)), none, none, none, none, none, none]) (st' := [.int (iI k), .ref (h.length + 47)]) rfl rfl ?_
  refine mi_ild rfl mh_a47 (by omega) (by omega) (by decide) ?_
  rw [ek]
  refine go_a (pc' := 7) (ls' := [some (.ref h.length), some (.int (iI k)), some (.int (iI o)), none, none, none, none, none]) (st' := []) rfl rfl ?_
  refine go_a (pc' := 8) (ls' := [some (.ref h.length), some (.int (iI k)), some (.int (iI o)), none, none, none, none, none]) (st' := [.ref h.length]) rfl rfl ?_
  refine go_get rfl mh_o rfl rfl ?_
  refine go_a (pc' := 12) (ls' := [some (.ref h.length), some (.int (iI k)), some (.int (iI o)), none, none, none, none, none]) (st' := [.int (iI k), .ref (h.length + 49)]) rfl rfl ?_
  refine mi_ild rfl mh_a49 (by omega) (by omega) (by decide) ?_
  rw [ec]
  refine go_a (pc' := 14) (ls' := [some (.ref h.length), some (.int (iI k)), some (.int (iI o)), some (.int (iI c)), none, none, none, none]) (st' := []) rfl rfl ?_
  refine go_a (pc' := 15) (ls' := [some (.ref h.length), some (.int (iI k)), some (.int (iI o)), some (.int (iI c)), none, none, none, none]) (st' := [.ref h.length]) rfl rfl ?_
  refine go_a (pc' := 16) (ls' := [some (.ref h.length), some (.int (iI k)), some (.int (iI o)), some (.int (iI c)), none, none, none, none]) (st' := [.int (iI 0), .ref h.length]) rfl rfl ?_
  refine go_put (j := 67) rfl mh_o rfl rfl (show 12 ≤ _ from hc) (show 67 < 86 by decide) rfl rfl ?_
  rw [mh_p67]
  obtain ⟨J, hJ⟩ : ∃ J : Nat → Int, J = su I 67 0 := ⟨_, rfl⟩
  rw [← hJ]
  have bJ : BX (fun j => j = 67) NO I A N J A N := by
    subst hJ
    exact BX_of hB.1.1 (fun j q => su_ne q) (fun a _ => rfl) rfl rfl rfl rfl rfl rfl rfl rfl rfl rfl
  have J7 : J 7 = I 7 := by subst hJ; rfl
  have J49 : J 49 = I 49 := by subst hJ; rfl
  have R0 : RU ar 0 I A N J A N := RU_of hB bJ (fun j q => by subst q; unfold FC; omega) (fun a q => absurd q (fun z => z)) (SZI_124 (A := A) (A1 := A) hB.1.2.2 rfl rfl rfl J7) (by subst hJ; rfl) (by subst hJ; rfl) (by rw [J49]; exact hB.2.2.2.2) (by omega) (fun _ => J49)
  have D0 : DR ar 0 0 0 J A := by subst hJ; exact DR_00
  have PJ := RU_P R0
  have T0 : BTX ar ft Fb Tb J A N := BTX_RU hB hX R0
  have di0 : DIT [] J A N := by
    subst hJ
    exact Or.inl ⟨w0, rfl⟩
  refine go_a (pc' := 20) (ls' := [some (.ref h.length), some (.int (iI k)), some (.int (iI o)), some (.int (iI c)), none, none, none, none]) (st' := [.ref h.length]) rfl rfl ?_
  refine go_a (pc' := 21) (ls' := [some (.ref h.length), some (.int (iI k)), some (.int (iI o)), some (.int (iI c)), none, none, none, none]) (st' := [.int (iI o), .ref h.length]) rfl rfl ?_
  refine go_v (m := 98) (as := [.ref h.length, .int (iI o)]) (r := []) rfl rfl rfl mh_o rfl rfl (mm_lenL z (d + 8) (3 + P) o h R J A N hc PJ n0 o0 (by omega) hL) (fun v h1 hq => ?_)
  obtain ⟨rfl, rfl⟩ := hq
  show xx_go (xt_P z) (d + 10) 154 24 [some (.ref h.length), some (.int (iI k)), some (.int (iI o)), some (.int (iI c)), none, none, none, none] [.int (iI ((((3 + P) : Nat) : Int)))] (mh h R J A N) _
  refine go_a (pc' := 25) (ls' := [some (.ref h.length), some (.int (iI k)), some (.int (iI o)), some (.int (iI c)), none, none, none, none]) (st' := [.int (iI 1), .int (iI ((((3 + P) : Nat) : Int)))]) rfl rfl ?_
  refine mi_le (t := 107) rfl rfl (by omega) (by omega) (by omega) (by omega) (fun q => by omega) (fun _ => ?_)
  refine go_a (pc' := 29) (ls' := [some (.ref h.length), some (.int (iI k)), some (.int (iI o)), some (.int (iI c)), none, none, none, none]) (st' := [.ref h.length]) rfl rfl ?_
  refine go_get rfl mh_o rfl rfl ?_
  refine go_a (pc' := 33) (ls' := [some (.ref h.length), some (.int (iI k)), some (.int (iI o)), some (.int (iI c)), none, none, none, none]) (st' := [.int (iI o), .ref (h.length + 1)]) rfl rfl ?_
  refine mi_ild rfl mh_a1 (by omega) (by omega) (by decide) ?_
  refine go_a (pc' := 36) (ls' := [some (.ref h.length), some (.int (iI k)), some (.int (iI o)), some (.int (iI c)), none, none, none, none]) (st' := [.int (iI 37), .int (iI (A 1 o))]) rfl rfl ?_
  refine mi_eq (t := 107) rfl rfl (by omega) (by omega) (by omega) (by omega) (fun q => by omega) (fun _ => ?_)
  refine go_a (pc' := 40) (ls' := [some (.ref h.length), some (.int (iI k)), some (.int (iI o)), some (.int (iI c)), none, none, none, none]) (st' := [.ref h.length]) rfl rfl ?_
  refine go_get rfl mh_o rfl rfl ?_
  refine go_a (pc' := 44) (ls' := [some (.ref h.length), some (.int (iI k)), some (.int (iI o)), some (.int (iI c)), none, none, none, none]) (st' := [.int (iI o), .ref (h.length + 1)]) rfl rfl ?_
  refine mi_ild rfl mh_a1 (by omega) (by omega) (by decide) ?_
  refine go_a (pc' := 47) (ls' := [some (.ref h.length), some (.int (iI k)), some (.int (iI o)), some (.int (iI c)), none, none, none, none]) (st' := [.int (iI 38), .int (iI (A 1 o))]) rfl rfl ?_
  refine mi_eq (t := 107) rfl rfl (by omega) (by omega) (by omega) (by omega) (fun q => by omega) (fun _ => ?_)
  refine go_a (pc' := 51) (ls' := [some (.ref h.length), some (.int (iI k)), some (.int (iI o)), some (.int (iI c)), none, none, none, none]) (st' := [.ref h.length]) rfl rfl ?_
  refine go_get rfl mh_o rfl rfl ?_
  refine go_a (pc' := 55) (ls' := [some (.ref h.length), some (.int (iI k)), some (.int (iI o)), some (.int (iI c)), none, none, none, none]) (st' := [.int (iI o), .ref (h.length + 1)]) rfl rfl ?_
  refine mi_ild rfl mh_a1 (by omega) (by omega) (by decide) ?_
  refine go_a (pc' := 58) (ls' := [some (.ref h.length), some (.int (iI k)), some (.int (iI o)), some (.int (iI c)), none, none, none, none]) (st' := [.int (iI 39), .int (iI (A 1 o))]) rfl rfl ?_
  refine mi_eq (t := 107) rfl rfl (by omega) (by omega) (by omega) (by omega) (fun q => by omega) (fun _ => ?_)
  refine go_a (pc' := 62) (ls' := [some (.ref h.length), some (.int (iI k)), some (.int (iI o)), some (.int (iI c)), none, none, none, none]) (st' := [.ref h.length]) rfl rfl ?_
  refine go_get rfl mh_o rfl rfl ?_
  refine go_a (pc' := 66) (ls' := [some (.ref h.length), some (.int (iI k)), some (.int (iI o)), some (.int (iI c)), none, none, none, none]) (st' := [.int (iI o), .ref (h.length + 1)]) rfl rfl ?_
  refine mi_ild rfl mh_a1 (by omega) (by omega) (by decide) ?_
  refine go_a (pc' := 69) (ls' := [some (.ref h.length), some (.int (iI k)), some (.int (iI o)), some (.int (iI c)), none, none, none, none]) (st' := [.int (iI 41), .int (iI (A 1 o))]) rfl rfl ?_
  refine mi_eq (t := 107) rfl rfl (by omega) (by omega) (by omega) (by omega) (fun q => by omega) (fun _ => ?_)
  refine go_a (pc' := 73) (ls' := [some (.ref h.length), some (.int (iI k)), some (.int (iI o)), some (.int (iI c)), none, none, none, none]) (st' := [.ref h.length]) rfl rfl ?_
  refine go_get rfl mh_o rfl rfl ?_
  refine go_a (pc' := 77) (ls' := [some (.ref h.length), some (.int (iI k)), some (.int (iI o)), some (.int (iI c)), none, none, none, none]) (st' := [.int (iI o), .ref (h.length + 1)]) rfl rfl ?_
  refine mi_ild rfl mh_a1 (by omega) (by omega) (by decide) ?_
  refine go_a (pc' := 80) (ls' := [some (.ref h.length), some (.int (iI k)), some (.int (iI o)), some (.int (iI c)), none, none, none, none]) (st' := [.int (iI 42), .int (iI (A 1 o))]) rfl rfl ?_
  refine mi_eq (t := 107) rfl rfl (by omega) (by omega) (by omega) (by omega) (fun q => by omega) (fun _ => ?_)
  refine go_a (pc' := 84) (ls' := [some (.ref h.length), some (.int (iI k)), some (.int (iI o)), some (.int (iI c)), none, none, none, none]) (st' := [.ref h.length]) rfl rfl ?_
  refine go_get rfl mh_o rfl rfl ?_
  refine go_a (pc' := 88) (ls' := [some (.ref h.length), some (.int (iI k)), some (.int (iI o)), some (.int (iI c)), none, none, none, none]) (st' := [.int (iI o), .ref (h.length + 1)]) rfl rfl ?_
  refine mi_ild rfl mh_a1 (by omega) (by omega) (by decide) ?_
  refine go_a (pc' := 91) (ls' := [some (.ref h.length), some (.int (iI k)), some (.int (iI o)), some (.int (iI c)), none, none, none, none]) (st' := [.int (iI 43), .int (iI (A 1 o))]) rfl rfl ?_
  refine mi_eq (t := 107) rfl rfl (by omega) (by omega) (by omega) (by omega) (fun q => by omega) (fun _ => ?_)
  refine go_a (pc' := 95) (ls' := [some (.ref h.length), some (.int (iI k)), some (.int (iI o)), some (.int (iI c)), none, none, none, none]) (st' := [.ref h.length]) rfl rfl ?_
  refine go_a (pc' := 96) (ls' := [some (.ref h.length), some (.int (iI k)), some (.int (iI o)), some (.int (iI c)), none, none, none, none]) (st' := [.ref h.length, .ref h.length]) rfl rfl ?_
  refine go_a (pc' := 97) (ls' := [some (.ref h.length), some (.int (iI k)), some (.int (iI o)), some (.int (iI c)), none, none, none, none]) (st' := [.int (iI o), .ref h.length, .ref h.length]) rfl rfl ?_
  refine go_a (pc' := 98) (ls' := [some (.ref h.length), some (.int (iI k)), some (.int (iI o)), some (.int (iI c)), none, none, none, none]) (st' := [.int (iI 1), .int (iI o), .ref h.length, .ref h.length]) rfl rfl ?_
  have Lxl := isL_extB hP R0.1 (3 + P) o o0 o1 hL
  have Lxl := isL_extB hP R0.1 (3 + P) o o0 o1 hL
  have ixl := it_BX hP R0.1 o0 o1 hL (by omega : 1 < (3 + P))
  refine go_v (m := 99) (as := [.ref h.length, .int (iI o), .int (iI 1)]) (r := [.ref h.length]) rfl rfl rfl mh_o rfl rfl (mm_nth z (d + 9) 1 (3 + P) o h R J A N hc PJ (by decide) o0 (by omega) Lxl (by omega)) (fun v h1 hq => ?_)
  obtain ⟨rfl, rfl⟩ := hq
  rw [ixl]
  show xx_go (xt_P z) (d + 10) 154 101 [some (.ref h.length), some (.int (iI k)), some (.int (iI o)), some (.int (iI c)), none, none, none, none] [.int (iI (A 1 (rt A 1 o))), .ref h.length] (mh h R J A N) _
  have wxl := (WD_BX hP R0.1 v1.2.1.1 v1.2.1.2).1
  refine go_v (m := 105) (as := [.ref h.length, .int (iI (A 1 (rt A 1 o)))]) (r := []) rfl rfl rfl mh_o rfl rfl (mr_term z (d + 2) ar (A 1 (rt A 1 o)) h R J A N hc R0.2.1 v1.2.1.1 (by omega) (by omega) (by omega)) (fun v h1 hq => ?_)
  obtain ⟨l, I1, A1, rfl, rfl, R1, K1, ⟨u1, bb1⟩, ht1⟩ := hq
  have tt1 : ((0 ≤ l ∧ l < I1 7) ∧ TZ A1 ar l = TS A ar (A 1 (rt A 1 o))) ∧ (1 ≤ TS A ar (A 1 (rt A 1 o)) ∧ TS A ar (A 1 (rt A 1 o)) ≤ 120) ∧ TS A ar (A 1 (rt A 1 o)) ≤ WD A (A 1 (rt A 1 o)) ∧ NFT A1 (A 1 (rt A 1 o)) l := by
    have tk := TOK_BX hP R0.1 v1.2.1.1 v1.2.1.2 tk1
    rcases ht1 with q | q
    · exact absurd tk q.2
    · have ts := TS_BX (ar := ar) hP R0.1 v1.2.1.1 v1.2.1.2
      rw [ts, wxl] at q
      exact ⟨⟨q.1, q.2.2.2.1⟩, by omega, q.2.2.2.2.1, q.2.2.2.2.2⟩
  obtain ⟨h_l1, sb_l, sw_l, nf_l⟩ := tt1
  have s_l := sb_l.1
  have tm_l := (TQ_tm R0.2.1 T0 v1.2.1.1 (by omega) (show TQ ar (A 1 (rt A 1 o)) l J A N I1 A1 from ⟨bb1, R1.2.1, by have := R1.2.2.1; omega, u1, ht1⟩)).2 (by omega)
  rw [DM_RU hB hX R0 v1.2.1.1 v1.2.1.2] at tm_l
  obtain ⟨tl, et_l1⟩ : ∃ q : ob_T, DM A1 N l = q := ⟨_, rfl⟩
  rw [et_l1] at tm_l
  have tt_l := tm_ts tm_l
  have di1 := DIT_BX R0.2.1 T0.1 D0 bb1 (by unfold FB; omega) (by unfold GT; omega) (by unfold GT; omega) (by unfold FB; omega) (by unfold GT; omega) u1 di0
  clear bb1 ht1
  rw [wxl] at R1
  have D1 := K1 _ _ _ D0
  have P1 := RU_P R1
  have X1 := RU_tr R0 R1 (Int.le_refl _)
  have T1 := BTX_RU R0.2.1 T0 R1
  have y1 := X1.2.2.1
  have z1 : I1 7 ≤ 140000 := P1.1
  have x1 : I 7 ≤ I1 7 := X1.1.2.1
  have ex1 : A1 1 o = A 1 o := (X1.1.2.2.1 o o0 o1).1
  clear T0
  show xx_go (xt_P z) (d + 10) 154 104 [some (.ref h.length), some (.int (iI k)), some (.int (iI o)), some (.int (iI c)), none, none, none, none] [.int (iI l)] (mh h R I1 A1 N) _
  refine go_a (pc' := 108) (ls' := [some (.ref h.length), some (.int (iI k)), some (.int (iI o)), some (.int (iI c)), none, none, none, none]) (st' := [.int (iI l)]) rfl rfl ?_
  refine go_a (pc' := 110) (ls' := [some (.ref h.length), some (.int (iI k)), some (.int (iI o)), some (.int (iI c)), some (.int (iI l)), none, none, none]) (st' := []) rfl rfl ?_
  refine go_a (pc' := 111) (ls' := [some (.ref h.length), some (.int (iI k)), some (.int (iI o)), some (.int (iI c)), some (.int (iI l)), none, none, none]) (st' := [.ref h.length]) rfl rfl ?_
  refine go_get rfl mh_o rfl rfl ?_
  refine go_a (pc' := 115) (ls' := [some (.ref h.length), some (.int (iI k)), some (.int (iI o)), some (.int (iI c)), some (.int (iI l)), none, none, none]) (st' := [.int (iI o), .ref (h.length + 1)]) rfl rfl ?_
  refine mi_ild rfl mh_a1 (by omega) (by omega) (by decide) ?_
  refine go_a (pc' := 118) (ls' := [some (.ref h.length), some (.int (iI k)), some (.int (iI o)), some (.int (iI c)), some (.int (iI l)), none, none, none]) (st' := [.int (iI 32), .int (iI (A1 1 o))]) rfl rfl ?_
  refine mi_lt (t := 145) rfl rfl (by omega) (by omega) (by omega) (by omega) (fun _ => ?_) (fun q => by omega)
  refine go_a (pc' := 146) (ls' := [some (.ref h.length), some (.int (iI k)), some (.int (iI o)), some (.int (iI c)), some (.int (iI l)), none, none, none]) (st' := [.int (iI ((-1)))]) rfl rfl ?_
  refine go_a (pc' := 148) (ls' := [some (.ref h.length), some (.int (iI k)), some (.int (iI o)), some (.int (iI c)), some (.int (iI l)), some (.int (iI ((-1)))), none, none]) (st' := []) rfl rfl ?_
  refine go_a (pc' := 149) (ls' := [some (.ref h.length), some (.int (iI k)), some (.int (iI o)), some (.int (iI c)), some (.int (iI l)), some (.int (iI ((-1)))), none, none]) (st' := [.ref h.length]) rfl rfl ?_
  refine go_get rfl mh_o rfl rfl ?_
  refine go_a (pc' := 153) (ls' := [some (.ref h.length), some (.int (iI k)), some (.int (iI o)), some (.int (iI c)), some (.int (iI l)), some (.int (iI ((-1)))), none, none]) (st' := [.int (iI o), .ref (h.length + 1)]) rfl rfl ?_
  refine mi_ild rfl mh_a1 (by omega) (by omega) (by decide) ?_
  refine go_a (pc' := 156) (ls' := [some (.ref h.length), some (.int (iI k)), some (.int (iI o)), some (.int (iI c)), some (.int (iI l)), some (.int (iI ((-1)))), none, none]) (st' := [.int (iI 35), .int (iI (A1 1 o))]) rfl rfl ?_
  refine mi_eq (t := 170) rfl rfl (by omega) (by omega) (by omega) (by omega) (fun q => by omega) (fun _ => ?_)
  refine go_a (pc' := 160) (ls' := [some (.ref h.length), some (.int (iI k)), some (.int (iI o)), some (.int (iI c)), some (.int (iI l)), some (.int (iI ((-1)))), none, none]) (st' := [.ref h.length]) rfl rfl ?_
  refine go_get rfl mh_o rfl rfl ?_
  refine go_a (pc' := 164) (ls' := [some (.ref h.length), some (.int (iI k)), some (.int (iI o)), some (.int (iI c)), some (.int (iI l)), some (.int (iI ((-1)))), none, none]) (st' := [.int (iI o), .ref (h.length + 1)]) rfl rfl ?_
  refine mi_ild rfl mh_a1 (by omega) (by omega) (by decide) ?_
  refine go_a (pc' := 167) (ls' := [some (.ref h.length), some (.int (iI k)), some (.int (iI o)), some (.int (iI c)), some (.int (iI l)), some (.int (iI ((-1)))), none, none]) (st' := [.int (iI 36), .int (iI (A1 1 o))]) rfl rfl ?_
  refine mi_ne (t := 183) rfl rfl (by omega) (by omega) (by omega) (by omega) (fun _ => ?_) (fun q => by omega)
  refine go_a (pc' := 184) (ls' := [some (.ref h.length), some (.int (iI k)), some (.int (iI o)), some (.int (iI c)), some (.int (iI l)), some (.int (iI ((-1)))), none, none]) (st' := [.int (iI ((-1)))]) rfl rfl ?_
  refine go_a (pc' := 186) (ls' := [some (.ref h.length), some (.int (iI k)), some (.int (iI o)), some (.int (iI c)), some (.int (iI l)), some (.int (iI ((-1)))), some (.int (iI ((-1)))), none]) (st' := []) rfl rfl ?_
  refine go_a (pc' := 187) (ls' := [some (.ref h.length), some (.int (iI k)), some (.int (iI o)), some (.int (iI c)), some (.int (iI l)), some (.int (iI ((-1)))), some (.int (iI ((-1)))), none]) (st' := [.ref h.length]) rfl rfl ?_
  refine go_get rfl mh_o rfl rfl ?_
  refine go_a (pc' := 191) (ls' := [some (.ref h.length), some (.int (iI k)), some (.int (iI o)), some (.int (iI c)), some (.int (iI l)), some (.int (iI ((-1)))), some (.int (iI ((-1)))), none]) (st' := [.int (iI o), .ref (h.length + 1)]) rfl rfl ?_
  refine mi_ild rfl mh_a1 (by omega) (by omega) (by decide) ?_
  rw [ex1]
  refine mi_tsd (t := 682) rfl (by omega) (by omega) (by omega) rfl ?_
  refine go_a (pc' := 683) (ls' := [some (.ref h.length), some (.int (iI k)), some (.int (iI o)), some (.int (iI c)), some (.int (iI l)), some (.int (iI ((-1)))), some (.int (iI ((-1)))), none]) (st' := [.ref h.length]) rfl rfl ?_
  refine go_a (pc' := 684) (ls' := [some (.ref h.length), some (.int (iI k)), some (.int (iI o)), some (.int (iI c)), some (.int (iI l)), some (.int (iI ((-1)))), some (.int (iI ((-1)))), none]) (st' := [.int (iI o), .ref h.length]) rfl rfl ?_
  refine go_a (pc' := 685) (ls' := [some (.ref h.length), some (.int (iI k)), some (.int (iI o)), some (.int (iI c)), some (.int (iI l)), some (.int (iI ((-1)))), some (.int (iI ((-1)))), none]) (st' := [.int (iI c), .int (iI o), .ref h.length]) rfl rfl ?_
  refine go_a (pc' := 687) (ls' := [some (.ref h.length), some (.int (iI k)), some (.int (iI o)), some (.int (iI c)), some (.int (iI l)), some (.int (iI ((-1)))), some (.int (iI ((-1)))), none]) (st' := [.int (iI l), .int (iI c), .int (iI o), .ref h.length]) rfl rfl ?_
  have g23 : A1 23 = A 23 := X1.1.2.2.2.2 23 (by decide) (by decide) (by decide) (by decide) (by decide) (by decide) (by unfold GC; omega)
  have bd := De.2.2.2.1
  have bt := De.2.2.2.2.1
  have pe : PS A1 (fun _ => 1) (A1 23 e) = P := by
    rw [g23, ← eP]
    exact PS_extT hP n0 hB.2.1.1.1.1 (fun k a b => ⟨(X1.1.2.2.1 k a b).1, (X1.1.2.2.1 k a b).2.1⟩) (fun _ _ _ _ => rfl) _ (A 23 e) bd.1 bd.2 bt.1
  have g20 : A1 20 = A 20 := X1.1.2.2.2.2 20 (by decide) (by decide) (by decide) (by decide) (by decide) (by decide) (by unfold GC; omega)
  have hρ1 := hρ tl tm_l
  have hCp : ∀ p : Int, 0 ≤ p → p < PS A (fun _ => 1) (A 23 e) → CLA ar I A (c + p) := fun p a b => by
    have q := hC p.toNat (by omega)
    rw [show ((p.toNat : Nat) : Int) = p by omega] at q
    exact q
  have inc := INC_RU (c := c) (fn := fn) (F := tl) hB hX X1 hI o0 o1 hCp
  refine go_v (m := 167) (as := [.ref h.length, .int (iI o), .int (iI c), .int (iI l)]) (r := []) rfl rfl rfl mh_o rfl rfl (mm_inducts z d ar ft fn o c l e h R I1 A1 N hc X1.2.1 o0 (by omega) (IND_BX hB X1.1 (by unfold FC; omega) (fun a p q => by unfold GC; omega) o0 o1 hI) h_l1.1.1 h_l1.1.2 (by rw [h_l1.2]; exact s_l) (by rw [h_l1.2]; omega) c0 (by rw [pe]; exact c1) (fun p a b => by rw [pe] at b; have q := CLA_RU hP X1 (hC p.toNat (by omega)); rw [show ((p.toNat : Nat) : Int) = p by omega] at q; exact q) (by rw [pe, h_l1.2]; omega) T1.1 T1.2.1 (TS_of X1.2.1 T1 h_l1.1.1 h_l1.1.2 et_l1 tt_l) (by rw [g23]; exact TS_of X1.2.1 T1 bd.1 (by omega) (DM_RU hB hX X1 bd.1 bd.2) (by rw [TS_1 hB.1.1 hB.1.2.1 hX.1 hX.2.1 bd.1 bd.2]; exact hb9)) (by rw [g20, DM_RU hB hX X1 (by omega) (by omega)]; exact ff) (by omega)) (fun v h1 hq => ?_)
  obtain ⟨b, I2, A2, rfl, rfl, R2, hb⟩ := hq
  rw [et_l1, inc] at hb
  rw [pe, h_l1.2] at R2
  clear inc
  have P2 := RU_P R2
  have X2 := RU_tr X1 R2 (Int.le_refl _)
  have T2 := BTX_RU X1.2.1 T1 R2
  have et_l2 := (DM_RU X1.2.1 T1 R2 h_l1.1.1 h_l1.1.2).trans et_l1
  have h_l2 := RU_carry P1 R2 h_l1 s_l
  have y2 := X2.2.2.1
  have z2 : I2 7 ≤ 140000 := P2.1
  have x2 : I 7 ≤ I2 7 := X2.1.2.1
  have ex2 : A2 1 o = A 1 o := (X2.1.2.2.1 o o0 o1).1
  clear et_l1 T1 h_l1 y1 z1 x1 ex1
  show xx_go (xt_P z) (d + 10) 154 690 [some (.ref h.length), some (.int (iI k)), some (.int (iI o)), some (.int (iI c)), some (.int (iI l)), some (.int (iI ((-1)))), some (.int (iI ((-1)))), none] [.int (iI b)] (mh h R I2 A2 N) _
  rcases hb with ⟨rfl, ni⟩ | ⟨rfl, ⟨S, V, D⟩, hcc⟩
  · show xx_go (xt_P z) (d + 10) 154 690 [some (.ref h.length), some (.int (iI k)), some (.int (iI o)), some (.int (iI c)), some (.int (iI l)), some (.int (iI ((-1)))), some (.int (iI ((-1)))), none] [.int (iI 0)] (mh h R I2 A2 N) _
    exact go_r rfl rfl rfl rfl rfl rfl ⟨0, I2, A2, N, rfl, rfl, RU_w X2 (by omega), Or.inl ⟨rfl, by rw [hρ1]; exact ifc_neg ni⟩⟩
  · show xx_go (xt_P z) (d + 10) 154 690 [some (.ref h.length), some (.int (iI k)), some (.int (iI o)), some (.int (iI c)), some (.int (iI l)), some (.int (iI ((-1)))), some (.int (iI ((-1)))), none] [.int (iI 1)] (mh h R I2 A2 N) _
    have fin9 : ∃ its : List (Option ob_T), DIT its I2 A2 N ∧ ρ = sp_cz its := by
      rcases hcc with ⟨w, yes, dt⟩ | ⟨w, no⟩
      · exact ⟨_, dt, by rw [hρ1, ifc_pos yes]⟩
      · exact ⟨[none], Or.inr ⟨w, rfl⟩, by rw [hρ1, ifc_neg no]; rfl⟩
    clear hcc
    refine go_r rfl rfl rfl rfl rfl rfl ⟨1, I2, A2, N, rfl, rfl, RU_w X2 (by omega), Or.inr ⟨rfl, fin9, _, _, DR_w D (by omega) (Int.le_refl _) (Int.le_refl _), fun b9 b30 b400 => ?_⟩⟩
    have dm := D.1
    have kw : KDR dd I2 A2 ar ≤ 502 := KK_one (by omega) (by omega)
    omega
def PFT (A : Nat → Int → Int) (o : Int) (f P : Nat) : Prop := (29 ≤ A 1 o ∧ A 1 o ≤ 38 ∧ f = 0 ∧ P = 0) ∨ (A 1 o = 39 ∧ f = 2 ∧ P = 1) ∨ (A 1 o = 40 ∧ f = 2 ∧ P = 2) ∨ ((A 1 o = 41 ∨ A 1 o = 42) ∧ f = 1 ∧ P = 1) ∨ (A 1 o = 43 ∧ f = 1 ∧ P = 2) ∨ (A 1 o = 27 ∧ f = 3 ∧ isL A (3 + P) o)
theorem mm_concludes (z : Value) (d : Nat) (ar : Int → Int) (ft : Nat → Int) (Fb : List (Nat × List Nat × ob_T)) (Tb : List (Nat × ob_T)) (k o c E dd : Int) (f P : Nat) (h R : xx_H) (I : Nat → Int) (A : Nat → Int → Int) (N : Int → Int) (hc : 12 ≤ h.length) (hB : BI ar I A N) (k0 : 0 ≤ k) (k1 : k < 40) (ek : A 47 k = o) (o0 : 0 ≤ o) (o1 : o < I 7) (hF : FORM ar I A N o) (ec : A 49 k = c) (c0 : 0 ≤ c) (w : WD A o ≤ 1000) (hE : E + 128 * WD A o ≤ 140000) (d0 : 0 ≤ dd) (d1 : dd ≤ 39) (c9 : Int) (hcf : CFX ar I A o c9) (hX : BTX ar ft Fb Tb I A N) (w0 : I 49 = 0) (hPF : PFT A o f P) (hU : I 7 ≤ E + c9 + SPR A ar (dd + 1) o c f P) (d38 : 1 ≤ P → dd ≤ 38) (c1 : c + P ≤ 350) (hC : ∀ i : Nat, i < P → CLA ar I A (c + i)) (hnd : ∀ i : Nat, i < P → (CLD A N (c + i)).Nodup) : xx_cl (xt_P z) (d + 11) 154 [.ref h.length, .int (iI k)] (mh h R I A N) (fun v h1 => ∃ (b : Int) (I1 : Nat → Int) (A1 : Nat → Int → Int) (N1 : Int → Int), v = some (.int (iI b)) ∧ h1 = mh h R I1 A1 N1 ∧ RU ar 140000 I A N I1 A1 N1 ∧ ((b = 0 ∧ (sp_fin ft Fb Tb (sp_hc (DM A N (A 1 o))) (DM A N o) ((List.range P).map (fun (i : Nat) => CLD A N (c + i)))) = none) ∨ (b = 1 ∧ (∃ its : List (Option ob_T), DIT its I1 A1 N1 ∧ (sp_fin ft Fb Tb (sp_hc (DM A N (A 1 o))) (DM A N o) ((List.range P).map (fun (i : Nat) => CLD A N (c + i)))) = sp_cz its) ∧ ∃ S V : Int, DR ar 1190 S V I1 A1 ∧ (I1 49 = 0 → I1 67 ≤ 30 → SG (TZ A1 ar) (A1 38) (I1 67).toNat ≤ 400 → I1 7 + KDR dd I1 A1 ar ≤ E + 128 * WD A o)))) := by
  obtain ⟨n, hL, n1, f2, f3, f4, f5⟩ := form_n hF (BI_n0 hB)
  have len := L_len hB hX o0 o1 hL
  have pj : ∀ j : Nat, j < n → sp_p j (DM A N o) = DM A N (A 1 (rt A j o)) := fun j hj => L_p hB hX o0 o1 hL hj
  have c0e : CLD A N (c + ((0 : Nat) : Int)) = CLD A N c := by rw [show c + ((0 : Nat) : Int) = c by omega]
  have n0d : 1 ≤ P → (CLD A N c).Nodup := fun q => by
    have := hnd 0 (by omega)
    rw [c0e] at this
    exact this
  have s1 : ∀ f : Nat, SPR A ar (dd + 1) o c f 1 = 128 * WD A (A 1 (rt A f o)) - KC (dd + 1) A ar c := fun f => by
    show 0 + (128 * WD A (A 1 (rt A (f + 0) o)) - KC (dd + 1) A ar (c + ((0 : Nat) : Int))) = _
    rw [show c + ((0 : Nat) : Int) = c by omega, Int.zero_add]
    rfl
  have s2 : ∀ f : Nat, SPR A ar (dd + 1) o c f 2 = 128 * WD A (A 1 (rt A f o)) - KC (dd + 1) A ar c + (128 * WD A (A 1 (rt A (f + 1) o)) - KC (dd + 1) A ar (c + 1)) := fun f => by
    show SPR A ar (dd + 1) o c f 1 + (128 * WD A (A 1 (rt A (f + 1) o)) - KC (dd + 1) A ar (c + ((1 : Nat) : Int))) = _
    rw [s1]
    rfl
  have h0 : 1 ≤ P → CLA ar I A c := fun q => by
    have r := hC 0 (by omega)
    rw [show c + ((0 : Nat) : Int) = c by omega] at r
    exact r
  have h1 : 2 ≤ P → CLA ar I A (c + 1) := fun q => hC 1 (by omega)
  rcases hPF with ⟨r1, r2, rfl, rfl⟩ | ⟨ef, rfl, rfl⟩ | ⟨ef, rfl, rfl⟩ | ⟨ef, rfl, rfl⟩ | ⟨ef, rfl, rfl⟩ | ⟨ef, rfl, hLP⟩
  · have hU : I 7 ≤ E + c9 := by
      have : SPR A ar (dd + 1) o c 0 0 = 0 := rfl
      omega
    have cs : A 1 o = 29 ∨ A 1 o = 30 ∨ A 1 o = 31 ∨ A 1 o = 32 ∨ A 1 o = 33 ∨ A 1 o = 34 ∨ A 1 o = 35 ∨ A 1 o = 36 ∨ A 1 o = 37 ∨ A 1 o = 38 := by omega
    rcases cs with ef | ef | ef | ef | ef | ef | ef | ef | ef | ef
    · have n2 : n = 2 := f2 (by omega)
      have er : sp_hc (DM A N (A 1 o)) = 2079676 := hd_of hX (x := 29) (by decide) ef
      rw [er]
      exact mm_con_taut z d ar ft Fb Tb _ k o c E dd h R I A N hc hB k0 k1 ek o0 o1 hF ec c0 w hE d0 d1 c9 hcf hX w0 ef hU (fun l e1 => fin_ax (r := 2079676) (l := l) (m := l) (n := l) ⟨by decide, by decide, by decide, by decide, by decide, by decide⟩ (by decide) (by decide) (by decide) (by rw [len, n2]; rfl) (by decide) (by rw [pj 1 (by omega)]; exact e1) (by rw [if_neg (by decide), pj 1 (by omega)]; exact e1) (by rw [if_neg (by decide), pj 1 (by omega)]; exact e1))
    · have n2 : n = 2 := f2 (by omega)
      have er : sp_hc (DM A N (A 1 o)) = 1975462 := hd_of hX (x := 30) (by decide) ef
      rw [er]
      exact mm_con_same z d ar ft Fb Tb _ k o c E dd h R I A N hc hB k0 k1 ek o0 o1 hF ec c0 w hE d0 d1 c9 hcf hX w0 ef hU (fun l e1 => fin_ax (r := 1975462) (l := l) (m := l) (n := l) ⟨by decide, by decide, by decide, by decide, by decide, by decide⟩ (by decide) (by decide) (by decide) (by rw [len, n2]; rfl) (by decide) (by rw [pj 1 (by omega)]; exact e1) (by rw [if_neg (by decide), pj 1 (by omega)]; exact e1) (by rw [if_neg (by decide), pj 1 (by omega)]; exact e1))
    · have n2 : n = 2 := f2 (by omega)
      have er : sp_hc (DM A N (A 1 o)) = 107484305 := hd_of hX (x := 31) (by decide) ef
      rw [er]
      exact mm_con_value z d ar ft Fb Tb _ k o c E dd h R I A N hc hB k0 k1 ek o0 o1 hF ec c0 w hE d0 d1 c9 hcf hX w0 ef hU (fun l w9 e1 e2 => fin_value (by rw [len, n2]) (by rw [pj 1 (by omega)]; exact e1) e2)
    · have n2 : n = 3 := f3 (by omega)
      have er : sp_hc (DM A N (A 1 o)) = 30253168 := hd_of hX (x := 32) (by decide) ef
      rw [er]
      exact mm_con_first z d ar ft Fb Tb _ k o c E dd h R I A N hc hB k0 k1 ek o0 o1 hF ec c0 w hE d0 d1 c9 hcf hX w0 ef hU (fun l m e1 e2 => fin_ax (r := 30253168) (l := l) (m := m) (n := l) ⟨by decide, by decide, by decide, by decide, by decide, by decide⟩ (by decide) (by decide) (by decide) (by rw [len, n2]; rfl) (by decide) (by rw [pj 1 (by omega)]; exact e1) (by rw [if_pos (by decide), pj 2 (by omega)]; exact e2) (by rw [if_neg (by decide), pj 1 (by omega)]; exact e1))
    · have n2 : n = 3 := f3 (by omega)
      have er : sp_hc (DM A N (A 1 o)) = 4382298804 := hd_of hX (x := 33) (by decide) ef
      rw [er]
      exact mm_con_second z d ar ft Fb Tb _ k o c E dd h R I A N hc hB k0 k1 ek o0 o1 hF ec c0 w hE d0 d1 c9 hcf hX w0 ef hU (fun l m e1 e2 => fin_ax (r := 4382298804) (l := l) (m := m) (n := l) ⟨by decide, by decide, by decide, by decide, by decide, by decide⟩ (by decide) (by decide) (by decide) (by rw [len, n2]; rfl) (by decide) (by rw [pj 1 (by omega)]; exact e1) (by rw [if_pos (by decide), pj 2 (by omega)]; exact e2) (by rw [if_neg (by decide), pj 1 (by omega)]; exact e1))
    · have n2 : n = 3 := f3 (by omega)
      have er : sp_hc (DM A N (A 1 o)) = 1663818 := hd_of hX (x := 34) (by decide) ef
      rw [er]
      exact mm_con_pair z d ar ft Fb Tb _ k o c E dd h R I A N hc hB k0 k1 ek o0 o1 hF ec c0 w hE d0 d1 c9 hcf hX w0 ef hU (fun l m e1 e2 => fin_ax (r := 1663818) (l := l) (m := m) (n := l) ⟨by decide, by decide, by decide, by decide, by decide, by decide⟩ (by decide) (by decide) (by decide) (by rw [len, n2]; rfl) (by decide) (by rw [pj 1 (by omega)]; exact e1) (by rw [if_pos (by decide), pj 2 (by omega)]; exact e2) (by rw [if_neg (by decide), pj 1 (by omega)]; exact e1))
    · have n2 : n = 4 := f4 (by omega)
      have er : sp_hc (DM A N (A 1 o)) = 55479 := hd_of hX (x := 35) (by decide) ef
      rw [er]
      exact mm_con_yes z d ar ft Fb Tb _ k o c E dd h R I A N hc hB k0 k1 ek o0 o1 hF ec c0 w hE d0 d1 c9 hcf hX w0 ef hU (fun l m n9 e1 e2 e3 => fin_ax (r := 55479) (l := l) (m := m) (n := n9) ⟨by decide, by decide, by decide, by decide, by decide, by decide⟩ (by decide) (by decide) (by decide) (by rw [len, n2]; rfl) (by decide) (by rw [pj 1 (by omega)]; exact e1) (by rw [if_pos (by decide), pj 2 (by omega)]; exact e2) (by rw [if_pos (by decide), pj 3 (by omega)]; exact e3))
    · have n2 : n = 4 := f4 (by omega)
      have er : sp_hc (DM A N (A 1 o)) = 673 := hd_of hX (x := 36) (by decide) ef
      rw [er]
      exact mm_con_no z d ar ft Fb Tb _ k o c E dd h R I A N hc hB k0 k1 ek o0 o1 hF ec c0 w hE d0 d1 c9 hcf hX w0 ef hU (fun l m n9 e1 e2 e3 => fin_ax (r := 673) (l := l) (m := m) (n := n9) ⟨by decide, by decide, by decide, by decide, by decide, by decide⟩ (by decide) (by decide) (by decide) (by rw [len, n2]; rfl) (by decide) (by rw [pj 1 (by omega)]; exact e1) (by rw [if_pos (by decide), pj 2 (by omega)]; exact e2) (by rw [if_pos (by decide), pj 3 (by omega)]; exact e3))
    · have n2 : n = 2 := f2 (by omega)
      have er : sp_hc (DM A N (A 1 o)) = 9077 := hd_of hX (x := 37) (by decide) ef
      rw [er]
      exact mm_con_def z d ar ft Fb Tb _ k o c E dd h R I A N hc hB k0 k1 ek o0 o1 hF ec c0 w hE d0 d1 c9 hcf hX w0 ef hU (fun p e1 => fin_def (by rw [len, n2]) (by rw [pj 1 (by omega)]; exact e1))
    · have n2 : n = 2 := f2 (by omega)
      have er : sp_hc (DM A N (A 1 o)) = 44569 := hd_of hX (x := 38) (by decide) ef
      rw [er]
      exact mm_con_thm z d ar ft Fb Tb _ k o c E dd h R I A N hc hB k0 k1 ek o0 o1 hF ec c0 w hE d0 d1 c9 hcf hX w0 ef hU (fun p e1 => fin_thm (by rw [len, n2]) (by rw [pj 1 (by omega)]; exact e1))
  · rw [s1] at hU
    have n2 : n = 3 := f3 (by omega)
    have er : sp_hc (DM A N (A 1 o)) = 2399032 := hd_of hX (x := 39) (by decide) ef
    rw [er]
    exact mm_con_weak z d ar ft Fb Tb _ k o c E dd h R I A N hc hB k0 k1 ek o0 o1 hF ec c0 w hE d0 d1 c9 hcf hX w0 ef hU (d38 (by decide)) (by omega) (h0 (by decide)) (fun os ho => by rw [fe_1, pj 1 (by omega), ho]; show sp_cz ((CLD A N (c + ((0 : Nat) : Int))).map some ++ os.map some) = _; rw [c0e])
  · rw [s2] at hU
    have n2 : n = 4 := f4 (by omega)
    have er : sp_hc (DM A N (A 1 o)) = 7634 := hd_of hX (x := 40) (by decide) ef
    rw [er]
    exact mm_con_cut z d ar ft Fb Tb _ k o c E dd h R I A N hc hB k0 k1 ek o0 o1 hF ec c0 w hE d0 d1 c9 hcf hX w0 ef hU (d38 (by decide)) (by omega) (h0 (by decide)) (h1 (by decide)) (fun l e1 => by rw [fe_2, pj 1 (by omega), e1]; show (sp_ntO (some l)).bind (fun nl => ifc (l ∈ CLD A N (c + ((0 : Nat) : Int)) ∧ nl ∈ CLD A N (c + ((1 : Nat) : Int))) (sp_cz ((sp_rm l (CLD A N (c + ((0 : Nat) : Int)))).map some ++ (sp_rm nl (CLD A N (c + ((1 : Nat) : Int)))).map some)) none) = _; rw [c0e]; rfl)
  · rw [s1] at hU
    rcases ef with ef | ef
    · have n2 := f5 ef
      have er : sp_hc (DM A N (A 1 o)) = 966246 := hd_of hX (x := 41) (by decide) ef
      rw [er]
      exact mm_con_inst z d ar ft Fb Tb _ k o c E dd h R I A N hc hB k0 k1 ek o0 o1 hF ec c0 w hE d0 d1 c9 hcf hX w0 ef hU (d38 (by decide)) (by omega) (h0 (by decide)) (fun m lm qm => by rw [fin_inst hB hX o0 o1 hL n2 lm qm]; show sp_cz ((CLD A N (c + ((0 : Nat) : Int))).map _) = _; rw [c0e])
    · have n2 : n = 2 := f2 (by omega)
      have er : sp_hc (DM A N (A 1 o)) = 2023507 := hd_of hX (x := 42) (by decide) ef
      rw [er]
      exact mm_con_swap z d ar ft Fb Tb _ k o c E dd h R I A N hc hB k0 k1 ek o0 o1 hF ec c0 w hE d0 d1 c9 hcf hX w0 ef hU (d38 (by decide)) (by omega) (h0 (by decide)) (n0d (by decide)) (by rw [fe_4]; show ((CLD A N (c + ((0 : Nat) : Int))).head?.bind sp_eqp).bind (fun e => sp_cz (sp_opO (sp_eq e.2 e.1) :: ((CLD A N (c + ((0 : Nat) : Int))).drop 1).map some)) = _; rw [c0e])
  · rw [s2] at hU
    have n2 : n = 3 := f3 (by omega)
    have er : sp_hc (DM A N (A 1 o)) = 36351 := hd_of hX (x := 43) (by decide) ef
    rw [er]
    exact mm_con_put z d ar ft Fb Tb _ k o c E dd h R I A N hc hB k0 k1 ek o0 o1 hF ec c0 w hE d0 d1 c9 hcf hX w0 ef hU (d38 (by decide)) (by omega) (h0 (by decide)) (h1 (by decide)) (n0d (by decide)) (by rw [fe_5]; show ((CLD A N (c + ((0 : Nat) : Int))).head?.bind sp_eqp).bind (fun e => sp_cz ((CLD A N (c + ((1 : Nat) : Int))).map (fun t => sp_opO (sp_re e.1 e.2 t).1) ++ ((CLD A N (c + ((0 : Nat) : Int))).drop 1).map some)) = _; rw [c0e]; rfl)
  · obtain ⟨e, hI, hc9⟩ := hcf.1 ef
    obtain ⟨n', hL', n3', -, ⟨cp, e0, e1, ee, eu⟩, -, nn⟩ := id hI
    have eP : PS A (fun _ => 1) (A 23 e) = P := by
      have := isL_uq (BI_n0 hB) n' (3 + P) o hL' hLP
      omega
    have b2 := (VD_rt (BI_P hB) o0 o1 hL' (by omega : 2 < n')).2.1
    have qc := (BI_P hB).2 _ b2.1 b2.2
    have qc2 := qc.2.2.2.2 cp
    obtain ⟨v, ps, B, f1', f2', f3', f4', f5', f6', -⟩ := fb_at hB hX e0 e1 cp (by omega) ee eu
    have er : sp_hc (DM A N (A 1 o)) = 2132882439 := hd_of hX (x := 27) (by decide) ef
    rw [er]
    exact mm_con_induct z d ar ft Fb Tb _ k o c E dd h R I A N hc hB k0 k1 ek o0 o1 hF ec c0 w hE d0 d1 c9 hcf hX w0 ef P e hI hc9 hLP hU (by omega) hC v f2' f6' (fun F hF9 => fin_ind (n := n) hB hX o0 o1 hI f2' eP hF9)

