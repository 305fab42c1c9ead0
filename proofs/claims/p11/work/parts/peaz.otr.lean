section OTQ
variable {N : Int → Int} {U : Int} {ft : Nat → Int} {Ra Rb Re : Option (List Int)} {a b e : ob_T} {v : Nat} {x : Int} {r : List Int} {X : Option ob_T}
theorem OTR_nn : ∀ {X : Option ob_T}, OTR N U ft none X → X = none
  | none, _ => rfl
  | some _, h => absurd h id
theorem OTR_n2 : ∀ {R : Option (List Int)}, OTR N U ft R none → R = none
  | none, _ => rfl
  | some _, h => absurd h id
theorem OTR_ss : ∀ {X : Option ob_T}, OTR N U ft (some r) X → ∃ t : ob_T, X = some t ∧ TRT N U ft r t
  | none, h => absurd h id
  | some t, h => ⟨t, rfl, h⟩
theorem OTR_s2 {t : ob_T} : ∀ {R : Option (List Int)}, OTR N U ft R (some t) → ∃ r : List Int, R = some r ∧ TRT N U ft r t
  | none, h => absurd h id
  | some r, h => ⟨r, rfl, h⟩
theorem OTQ_t {t : ob_T} (h : TRT N U ft r t) (l : r.length ≤ 120) : OTR N U ft (some r) (sp_opO t) := by
  have q := ((TRT_len t).1 r h).1
  unfold sp_opO
  rw [if_neg (by omega)]
  exact h
theorem OTQ_c (h : OTR N U ft Ra (sp_opO a)) : (Ra = none ∧ 120 < (sp_sz a).1) ∨ ∃ r : List Int, Ra = some r ∧ TRT N U ft r a := by
  by_cases c : 120 < (sp_sz a).1
  · unfold sp_opO at h
    rw [if_pos c] at h
    exact Or.inl ⟨OTR_n2 h, c⟩
  · unfold sp_opO at h
    rw [if_neg c] at h
    exact Or.inr (OTR_s2 h)
theorem OTQ_n {R : Option (List Int)} (e1 : R = none) (c : 120 < (sp_sz a).1) : OTR N U ft R (sp_opO a) := by
  unfold sp_opO
  rw [if_pos c, e1]
  exact trivial
theorem sz_c1 (nq : sp_isq (.var v) = false) : (sp_sz (sp_c1 v a)).1 = 1 + ((sp_sz a).1 + 0) := by
  show (if sp_isq (.var v) = true then (1 : Int) else _) = _
  rw [if_neg (by rw [nq]; decide)]
  rfl
theorem sz_c2 (nq : sp_isq (.var v) = false) : (sp_sz (sp_c2 v a b)).1 = 1 + ((sp_sz a).1 + ((sp_sz b).1 + 0)) := by
  show (if sp_isq (.var v) = true then (1 : Int) else _) = _
  rw [if_neg (by rw [nq]; decide)]
  rfl
theorem sz_c3 (nq : sp_isq (.var v) = false) : (sp_sz (sp_c3 v a b e)).1 = 1 + ((sp_sz a).1 + ((sp_sz b).1 + ((sp_sz e).1 + 0))) := by
  show (if sp_isq (.var v) = true then (1 : Int) else _) = _
  rw [if_neg (by rw [nq]; decide)]
  rfl
theorem OTQ_1 (nq : sp_isq (.var v) = false) (ev : ft v = x) (x0 : 0 ≤ x) (xa : x / 4 % 8 = 1) (h : OTR N U ft Ra (sp_opO a)) : OTR N U ft (Ra.bind (fun r => opR ([] ++ [x] ++ r))) (sp_opO (sp_c1 v a)) := by
  subst ev
  rcases OTQ_c h with ⟨rfl, c⟩ | ⟨r, rfl, t⟩
  · exact OTQ_n rfl (by rw [sz_c1 nq]; omega)
  · exact OTR_op (TRT_c1 nq t x0 xa)
theorem OTQ_2 (nq : sp_isq (.var v) = false) (ev : ft v = x) (x0 : 0 ≤ x) (xa : x / 4 % 8 = 2) (h : OTR N U ft Ra (sp_opO a)) (h2 : OTR N U ft Rb (sp_opO b)) : OTR N U ft (Ra.bind (fun r => Rb.bind (fun r2 => opR ([] ++ [x] ++ r ++ r2)))) (sp_opO (sp_c2 v a b)) := by
  subst ev
  have ga := (sp_sz_1 a).1
  have gb := (sp_sz_1 b).1
  rcases OTQ_c h with ⟨rfl, c⟩ | ⟨r, rfl, t⟩
  · exact OTQ_n rfl (by rw [sz_c2 nq]; omega)
  · rcases OTQ_c h2 with ⟨rfl, c⟩ | ⟨r2, rfl, t2⟩
    · exact OTQ_n rfl (by rw [sz_c2 nq]; omega)
    · exact OTR_op (TRT_c2 nq t t2 x0 xa)
theorem OTQ_3 (nq : sp_isq (.var v) = false) (ev : ft v = x) (x0 : 0 ≤ x) (xa : x / 4 % 8 = 3) (h : OTR N U ft Ra (sp_opO a)) (h2 : OTR N U ft Rb (sp_opO b)) (h3 : OTR N U ft Re (sp_opO e)) : OTR N U ft (Ra.bind (fun r => Rb.bind (fun r2 => Re.bind (fun r3 => opR ([] ++ [x] ++ r ++ r2 ++ r3))))) (sp_opO (sp_c3 v a b e)) := by
  subst ev
  have ga := (sp_sz_1 a).1
  have gb := (sp_sz_1 b).1
  have ge := (sp_sz_1 e).1
  rcases OTQ_c h with ⟨rfl, c⟩ | ⟨r, rfl, t⟩
  · exact OTQ_n rfl (by rw [sz_c3 nq]; omega)
  · rcases OTQ_c h2 with ⟨rfl, c⟩ | ⟨r2, rfl, t2⟩
    · exact OTQ_n rfl (by rw [sz_c3 nq]; omega)
    · rcases OTQ_c h3 with ⟨rfl, c⟩ | ⟨r3, rfl, t3⟩
      · exact OTQ_n rfl (by rw [sz_c3 nq]; omega)
      · exact OTR_op (TRT_c3 nq t t2 t3 x0 xa)
theorem sp_opO_s {t : ob_T} (h : (sp_sz t).1 ≤ 120) : sp_opO t = some t := if_neg (by omega)
theorem TRT_o {t : ob_T} (h : TRT N U ft r t) (l : r.length ≤ 120) : sp_opO t = some t := by
  have q := ((TRT_len t).1 r h).1
  exact sp_opO_s (by omega)
end OTQ
theorem STE_OTR {c : Nat} {hp h1 : xx_H} {s s1 : KS} {a b : Int} {ft : Nat → Int} {R : Option (List Int)} {X : Option ob_T} (E : STE c hp s h1 s1 a b) (h : OTR s.N (s.I 8) ft R X) : OTR s1.N (s1.I 8) ft R X := by
  rw [E.2.2.1.1, STE_8 E]
  exact h
theorem STE_17 {c : Nat} {hp h1 : xx_H} {s s1 : KS} {a b x : Int} (E : STE c hp s h1 s1 a b) (h : s.I 17 = x) : s1.I 17 = x := (E.2.2.1.2.2.2 17 (by decide) (by decide)).trans h
theorem KNT_ft {s : KS} {NM : BKM} (h : KNT s NM) {x : Nat} (x0 : 3 ≤ x) (x1 : x ≤ 16) : NM.2.2.1 (cNm.getD x 0) = (x : Int) * 32 + tkF ((x : Int) - 3) * 4 + 2 := by
  have e := h.2.2.1.1 (x : Int) (by omega) (by omega)
  rw [KNN_D h.2.1 (i := x) (by omega)] at e
  exact e
def FTB (ft : Nat → Int) : Prop := ft 429 = 3 * 32 + 3 * 4 + 2 ∧ ft 26209844 = 4 * 32 + 2 * 4 + 2 ∧ ft 345281 = 5 * 32 + 2 * 4 + 2 ∧ ft 16228223 = 10 * 32 + 1 * 4 + 2 ∧ ft 6692 = 11 * 32 + 1 * 4 + 2 ∧ ft 6833 = 12 * 32 + 1 * 4 + 2
theorem KNT_FTB {s : KS} {NM : BKM} (h : KNT s NM) : FTB NM.2.2.1 := ⟨(KNT_ft h (x := 3) (by decide) (by decide)).trans (by decide), (KNT_ft h (x := 4) (by decide) (by decide)).trans (by decide), (KNT_ft h (x := 5) (by decide) (by decide)).trans (by decide), (KNT_ft h (x := 10) (by decide) (by decide)).trans (by decide), (KNT_ft h (x := 11) (by decide) (by decide)).trans (by decide), (KNT_ft h (x := 12) (by decide) (by decide)).trans (by decide)⟩
