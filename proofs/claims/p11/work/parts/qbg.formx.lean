theorem IND_BX {F G : Nat → Prop} {I I1 : Nat → Int} {A A1 : Nat → Int → Int} {N N1 : Int → Int} {ar : Int → Int} {o e : Int} (hB : BI ar I A N) (x : BX F G I A N I1 A1 N1) (f32 : ¬ F 32) (g : ∀ a : Nat, 20 ≤ a → a ≤ 26 → ¬ G a) (k0 : 0 ≤ o) (k1 : o < I 7) (h : IND ar I A o e) : IND ar I1 A1 o e := by
  have hP := BI_P hB
  have n0 := BI_n0 hB
  have a3 : ar 3 = 3 := hB.2.1.1.1.1
  have ga : ∀ a : Nat, 20 ≤ a → a ≤ 26 → A1 a = A a := fun a p q => x.2.2.2.2 a (by omega) (by omega) (by omega) (by omega) (by omega) (by omega) (g a p q)
  obtain ⟨n, hL, n3, tk, ⟨pc, e0, e1, e2, e3⟩, ⟨lv, vv⟩, hn⟩ := h
  have v2 := VD_rt hP k0 k1 hL (by omega : 1 < n)
  have v3 := VD_rt hP k0 k1 hL (by omega : 2 < n)
  have i1 := it_BX hP x k0 k1 hL (by omega : 1 < n)
  have i2 := it_BX hP x k0 k1 hL (by omega : 2 < n)
  have ec := x.2.2.1 (A 1 (rt A 2 o)) v3.2.1.1 v3.2.1.2
  have qc := hP.2 (A 1 (rt A 2 o)) v3.2.1.1 v3.2.1.2
  have qd := qc.2.2.2.2 pc
  have df := hB.2.2.1.2.1 e e0 e1
  unfold IND
  rw [i1, i2, ec.1, ec.2.1, x.2.2.2.1 32 (by decide) f32, ga 20 (by decide) (by decide), ga 21 (by decide) (by decide), ga 23 (by decide) (by decide)]
  refine ⟨n, isL_extB hP x n o k0 k1 hL, n3, TOK_BX hP x v2.2.1.1 v2.2.1.2 tk, ⟨pc, e0, e1, e2, e3⟩, ⟨isL_extB hP x _ _ qc.2.2.1 (by omega) lv, fun j hj => ?_⟩, ?_⟩
  · have rj := isL_rt hP _ j (A 2 (A 1 (rt A 2 o))) qc.2.2.1 (by omega) lv (by omega)
    have qj := hP.2 _ rj.1 (by omega : rt A j (A 2 (A 1 (rt A 2 o))) < I 7)
    rw [it_BX hP x qc.2.2.1 (by omega) lv (by omega : j < _), (x.2.2.1 _ rj.2.2 (by omega)).1]
    exact vv j hj
  · have ps : PS A1 (fun _ => 1) (A 23 e) = PS A (fun _ => 1) (A 23 e) := PS_extT hP n0 a3 (fun k a b => ⟨(x.2.2.1 k a b).1, (x.2.2.1 k a b).2.1⟩) (fun _ _ _ _ => rfl) _ _ df.2.2.2.1.1 df.2.2.2.1.2 df.2.2.2.2.1.1
    rw [ps]
    exact hn
theorem PQ_BX {F G : Nat → Prop} {I I1 : Nat → Int} {A A1 : Nat → Int → Int} {N N1 : Int → Int} {ar : Int → Int} {p : Int} (hP : PW I A) (x : BX F G I A N I1 A1 N1) (k0 : 0 ≤ p) (k1 : p < I 7) (h : PQ A ar p) : PQ A1 ar p := by
  obtain ⟨hL, hv, ht⟩ := h
  have p1 := hL.1
  have p2 := hL.2.1
  have q := hP.2 p k0 k1
  have q2 := q.2.2.2.2 p1
  have q3 := hP.2 (A 2 p) (by omega) (by omega)
  have ep := x.2.2.1 p k0 k1
  have e1 := x.2.2.1 (A 1 p) p1 (by omega)
  have e2 := x.2.2.1 (A 2 p) (by omega) (by omega)
  refine ⟨isL_extB hP x 2 p k0 k1 hL, ?_, ?_⟩
  · rw [ep.1, e1.1]
    exact hv
  · rw [ep.2.1, e2.1]
    exact TOK_BX hP x p2 (by omega) ht
theorem PD_BX {F G : Nat → Prop} {I I1 : Nat → Int} {A A1 : Nat → Int → Int} {N N1 : Int → Int} {ar : Int → Int} {m : Nat} {l : Int} (hP : PW I A) (x : BX F G I A N I1 A1 N1) (k0 : 0 ≤ l) (k1 : l < I 7) (lm : isL A m l) (hm : ∀ j : Nat, j < m → PQ A ar (A 1 (rt A j l))) (h : PD A m l) : PD A1 m l := by
  intro i j ij jm
  have bi := (VD_rt hP k0 k1 lm (by omega : i < m)).2.1
  have bj := (VD_rt hP k0 k1 lm jm).2.1
  rw [it_BX hP x k0 k1 lm (by omega : i < m), it_BX hP x k0 k1 lm jm, (x.2.2.1 _ bi.1 bi.2).1, (x.2.2.1 _ bj.1 bj.2).1]
  exact h i j ij jm
theorem FORM_BX {F G : Nat → Prop} {I I1 : Nat → Int} {A A1 : Nat → Int → Int} {N N1 : Int → Int} {ar : Int → Int} {o : Int} (hB : BI ar I A N) (x : BX F G I A N I1 A1 N1) (f32 : ¬ F 32) (f38 : ¬ F 38) (g : ∀ a : Nat, 20 ≤ a → a ≤ 26 → ¬ G a) (k0 : 0 ≤ o) (k1 : o < I 7) (h : FORM ar I A N o) : FORM ar I1 A1 N1 o := by
  have hP := BI_P hB
  have x7 := x.2.1
  have a7 : ar 7 = 2 := hB.2.1.1.1.2.1 7 (by decide) (by decide)
  have ga : ∀ a : Nat, 20 ≤ a → a ≤ 26 → A1 a = A a := fun a p q => x.2.2.2.2 a (by omega) (by omega) (by omega) (by omega) (by omega) (by omega) (g a p q)
  obtain ⟨n, hL, n1, h⟩ := h
  have eo := x.2.2.1 o k0 k1
  have qo := hP.2 o k0 k1
  have vb : ∀ j : Nat, j < n → 0 ≤ A 1 (rt A j o) ∧ A 1 (rt A j o) < I 7 := fun j hj => (VD_rt hP k0 k1 hL hj).2.1
  have im : ∀ j : Nat, j < n → A1 1 (rt A1 j o) = A 1 (rt A j o) := fun j hj => it_BX hP x k0 k1 hL hj
  have tk : ∀ j : Nat, j < n → TOK A ar (A 1 (rt A j o)) → TOK A1 ar (A1 1 (rt A1 j o)) := fun j hj t => by
    rw [im j hj]
    exact TOK_BX hP x (vb j hj).1 (vb j hj).2 t
  refine ⟨n, isL_extB hP x n o k0 k1 hL, n1, ?_⟩
  rw [eo.1, x.2.2.2.1 32 (by decide) f32, x.2.2.2.1 38 (by decide) f38, ga 20 (by decide) (by decide), ga 25 (by decide) (by decide)]
  rcases h with ⟨r, en, t1⟩ | ⟨r, en, t1, t, tb, tz, tn, tl⟩ | ⟨r, en, t1, t2⟩ | ⟨r, en, t1, t2, t3⟩ | ⟨r, en, e, e0, e1, e2⟩ | ⟨r, en, e, e0, e1, e2⟩ | ⟨r, en, m, lm, hm⟩ | ⟨r, en, t1⟩ | ⟨r, en, m, lm, hm, pm⟩ | ⟨r, en⟩ | ⟨r, en⟩ | ⟨r, e, he⟩
  · exact Or.inl ⟨r, en, tk 1 (by omega) t1⟩
  · refine Or.inr (Or.inl ⟨r, en, tk 1 (by omega) t1, t, ⟨tb.1, by omega⟩, ?_, ?_, TLD_BX hP hB.1.2.1 a7 x tb.1 tb.2 tz tl⟩)
    · rw [(TZ_BX hP x tb.1 tb.2).1 tz]
      exact tz
    · rw [im 1 (by omega)]
      exact (NF_ext hP (MST_PW x.1) x7 (fun k a b => ⟨(x.2.2.1 k a b).1, (x.2.2.1 k a b).2.1⟩) _ _ _ (Nat.lt_succ_self _) (vb 1 (by omega)).1 (vb 1 (by omega)).2 tb.1 tb.2).1 tn
  · exact Or.inr (Or.inr (Or.inl ⟨r, en, tk 1 (by omega) t1, tk 2 (by omega) t2⟩))
  · exact Or.inr (Or.inr (Or.inr (Or.inl ⟨r, en, tk 1 (by omega) t1, tk 2 (by omega) t2, tk 3 (by omega) t3⟩)))
  · exact Or.inr (Or.inr (Or.inr (Or.inr (Or.inl ⟨r, en, e, e0, e1, by rw [im 1 (by omega)]; exact e2⟩))))
  · exact Or.inr (Or.inr (Or.inr (Or.inr (Or.inr (Or.inl ⟨r, en, e, e0, e1, by rw [im 1 (by omega)]; exact e2⟩)))))
  · refine Or.inr (Or.inr (Or.inr (Or.inr (Or.inr (Or.inr (Or.inl ⟨r, en, m, ?_, fun j hj => ?_⟩))))))
    · rw [im 1 (by omega)]
      exact isL_extB hP x m _ (vb 1 (by omega)).1 (vb 1 (by omega)).2 lm
    · have b := (VD_rt hP (vb 1 (by omega)).1 (vb 1 (by omega)).2 lm hj).2.1
      rw [im 1 (by omega), it_BX hP x (vb 1 (by omega)).1 (vb 1 (by omega)).2 lm hj]
      exact TOK_BX hP x b.1 b.2 (hm j hj)
  · exact Or.inr (Or.inr (Or.inr (Or.inr (Or.inr (Or.inr (Or.inr (Or.inl ⟨r, en, tk 1 (by omega) t1⟩)))))))
  · have q2 := qo.2.2.2.2 (by omega)
    have r1 := isL_rt hP n 1 o k0 k1 hL (by omega)
    have r1 : 0 ≤ A 2 o ∧ A 2 o ≤ o ∧ 0 ≤ A 1 (A 2 o) := r1
    have e2 := x.2.2.1 (A 2 o) r1.1 (by omega)
    have q3 := hP.2 (A 2 o) r1.1 (by omega)
    have q4 := q3.2.2.2.2 r1.2.2
    rw [eo.2.1, e2.2.1]
    refine Or.inr (Or.inr (Or.inr (Or.inr (Or.inr (Or.inr (Or.inr (Or.inr (Or.inl ⟨r, en, m, isL_extB hP x m _ q3.2.2.1 (by omega) lm, fun j hj => ?_, PD_BX hP x q3.2.2.1 (by omega) lm hm pm⟩))))))))
    have b := (VD_rt hP q3.2.2.1 (by omega) lm hj).2.1
    rw [it_BX hP x q3.2.2.1 (by omega) lm hj]
    exact PQ_BX hP x b.1 b.2 (hm j hj)
  · exact Or.inr (Or.inr (Or.inr (Or.inr (Or.inr (Or.inr (Or.inr (Or.inr (Or.inr (Or.inl ⟨r, en⟩)))))))))
  · exact Or.inr (Or.inr (Or.inr (Or.inr (Or.inr (Or.inr (Or.inr (Or.inr (Or.inr (Or.inr (Or.inl ⟨r, en⟩))))))))))
  · exact Or.inr (Or.inr (Or.inr (Or.inr (Or.inr (Or.inr (Or.inr (Or.inr (Or.inr (Or.inr (Or.inr ⟨r, e, IND_BX hB x f32 g k0 k1 he⟩))))))))))

