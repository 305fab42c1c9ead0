theorem IM_MD {ar : Int → Int} {n t m : Int} {τ : ob_T} {I I1 : Nat → Int} {A A1 : Nat → Int → Int} {N : Int → Int} (hB : BI ar I A N) (hT : TRX I A N) (q : MD ar n t m I A N I1 A1) (w3 : I1 49 = 0 → TZ A1 ar t ≤ 120) (cv : I 49 = 0 → TZ A1 ar t ≤ 120 → I1 49 = 0) (dt : DM A1 N t = τ) (its : List (Option ob_T)) (m1 s1 v1 : Int) (hD : DR ar m1 s1 v1 I A) (h : DIT its I A N) : DIM its (sp_opO τ) t I1 A1 N := by
  have T1 := TRX_BX hB.1.1 hB.1.2.1 hT q.1 (by unfold FW; omega) (by unfold GB; omega) (by unfold GB; omega)
  have sz := TZ_1 (ar := ar) q.1.1 (NM_BX hB.1.2.1 q.1) T1 q.2.2.2.1.1.1 q.2.2.2.1.1.2 q.2.2.2.1.2
  rw [dt] at sz
  exact DIM_made hB hT hD q.1 (by unfold FW; omega) (by unfold GB; omega) (by unfold GB; omega) (by unfold FW; omega) (by unfold GB; omega) q.2.2.2.2.2.1.2.1 w3 cv dt sz h
theorem mr_two (z : Value) (d : Nat) (ar : Int → Int) (f a b : Int) (h R : xx_H) (I : Nat → Int) (A : Nat → Int → Int) (N : Int → Int) (hc : 12 ≤ h.length) (hB : BI ar I A N) (hT : TRX I A N) (f0 : 0 ≤ f) (f1 : f < I 7) (f2 : f ≠ 2) (ho : I 7 + 4 ≤ 140000) (a0 : 0 ≤ a) (a1 : a < I 7) (a2 : 1 ≤ TZ A ar a) (b0 : 0 ≤ b) (b1 : b < I 7) (b2 : 1 ≤ TZ A ar b) (ha : 2 = ar f) : xx_cl (xt_P z) (d + 7) 156 [.ref h.length, .int (iI f), .int (iI a), .int (iI b)] (mh h R I A N) (fun v h1 => ∃ (t : Int) (I1 : Nat → Int) (A1 : Nat → Int → Int), v = some (.int (iI t)) ∧ h1 = mh h R I1 A1 N ∧ RU ar 3 I A N I1 A1 N ∧ (∀ m s v : Int, DR ar m s v I A → DR ar m s v I1 A1) ∧ ((0 ≤ t ∧ t < I1 7) ∧ 1 ≤ TZ A1 ar t) ∧ (I1 49 = 0 → TZ A1 ar t ≤ 120) ∧ TZ A1 ar t = 1 + TZ A ar a + TZ A ar b ∧ DM A1 N t = .add (DM A N f) (.add (DM A N a) (.add (DM A N b) (.var 31361))) ∧ (∀ (its : List (Option ob_T)) (m s v : Int), DR ar m s v I A → DIT its I A N → DIM its (sp_opO (.add (DM A N f) (.add (DM A N a) (.add (DM A N b) (.var 31361))))) t I1 A1 N)) := by
  have e0 : 0 ≤ I 56 := by rw [hB.2.2.2.1.2]; decide
  have e1 : I 56 ≤ 2390 := by rw [hB.2.2.2.1.2]; decide
  refine cl_w (fun v h1 q => ?_) (mm_madeTwo z d ar f a b h R I A N hc hB.1.1 hB.1.2.1 hB.1.2.2 hT f0 f1 f2 e0 e1 ho hB.2.2.2.2.1 hB.2.2.2.2.2 a0 a1 a2 b0 b1 b2 ha)
  obtain ⟨t, I1, A1, rfl, rfl, M, e, dt, cv⟩ := q
  have r := RU_MD hB M
  exact ⟨t, I1, A1, rfl, rfl, r.1, r.2.1, r.2.2.1, r.2.2.2, e, dt, IM_MD hB hT M r.2.2.2 cv dt⟩
theorem mr_one (z : Value) (d : Nat) (ar : Int → Int) (f a : Int) (h R : xx_H) (I : Nat → Int) (A : Nat → Int → Int) (N : Int → Int) (hc : 12 ≤ h.length) (hB : BI ar I A N) (hT : TRX I A N) (f0 : 0 ≤ f) (f1 : f < I 7) (f2 : f ≠ 2) (ho : I 7 + 4 ≤ 140000) (a0 : 0 ≤ a) (a1 : a < I 7) (a2 : 1 ≤ TZ A ar a) (ha : 1 = ar f) : xx_cl (xt_P z) (d + 6) 127 [.ref h.length, .int (iI f), .int (iI a), .int (iI (-1)), .int (iI (-1))] (mh h R I A N) (fun v h1 => ∃ (t : Int) (I1 : Nat → Int) (A1 : Nat → Int → Int), v = some (.int (iI t)) ∧ h1 = mh h R I1 A1 N ∧ RU ar 2 I A N I1 A1 N ∧ (∀ m s v : Int, DR ar m s v I A → DR ar m s v I1 A1) ∧ ((0 ≤ t ∧ t < I1 7) ∧ 1 ≤ TZ A1 ar t) ∧ (I1 49 = 0 → TZ A1 ar t ≤ 120) ∧ TZ A1 ar t = 1 + TZ A ar a ∧ DM A1 N t = .add (DM A N f) (.add (DM A N a) (.var 31361)) ∧ (∀ (its : List (Option ob_T)) (m s v : Int), DR ar m s v I A → DIT its I A N → DIM its (sp_opO (.add (DM A N f) (.add (DM A N a) (.var 31361)))) t I1 A1 N)) := by
  have e0 : 0 ≤ I 56 := by rw [hB.2.2.2.1.2]; decide
  have e1 : I 56 ≤ 2390 := by rw [hB.2.2.2.1.2]; decide
  refine cl_w (fun v h1 q => ?_) (mm_made1 z d ar f a h R I A N hc hB.1.1 hB.1.2.1 hB.1.2.2 hT f0 f1 f2 e0 e1 ho hB.2.2.2.2.1 hB.2.2.2.2.2 a0 a1 a2 ha)
  obtain ⟨t, I1, A1, rfl, rfl, M, e, dt, cv⟩ := q
  have r := RU_MD hB M
  exact ⟨t, I1, A1, rfl, rfl, r.1, r.2.1, r.2.2.1, r.2.2.2, e, dt, IM_MD hB hT M r.2.2.2 cv dt⟩
theorem mr_three (z : Value) (d : Nat) (ar : Int → Int) (f a b c : Int) (h R : xx_H) (I : Nat → Int) (A : Nat → Int → Int) (N : Int → Int) (hc : 12 ≤ h.length) (hB : BI ar I A N) (hT : TRX I A N) (f0 : 0 ≤ f) (f1 : f < I 7) (f2 : f ≠ 2) (ho : I 7 + 4 ≤ 140000) (a0 : 0 ≤ a) (a1 : a < I 7) (a2 : 1 ≤ TZ A ar a) (b0 : 0 ≤ b) (b1 : b < I 7) (b2 : 1 ≤ TZ A ar b) (c0 : 0 ≤ c) (c1 : c < I 7) (c2 : 1 ≤ TZ A ar c) (ha : 3 = ar f) : xx_cl (xt_P z) (d + 6) 127 [.ref h.length, .int (iI f), .int (iI a), .int (iI b), .int (iI c)] (mh h R I A N) (fun v h1 => ∃ (t : Int) (I1 : Nat → Int) (A1 : Nat → Int → Int), v = some (.int (iI t)) ∧ h1 = mh h R I1 A1 N ∧ RU ar 4 I A N I1 A1 N ∧ (∀ m s v : Int, DR ar m s v I A → DR ar m s v I1 A1) ∧ ((0 ≤ t ∧ t < I1 7) ∧ 1 ≤ TZ A1 ar t) ∧ (I1 49 = 0 → TZ A1 ar t ≤ 120) ∧ TZ A1 ar t = 1 + TZ A ar a + TZ A ar b + TZ A ar c ∧ DM A1 N t = .add (DM A N f) (.add (DM A N a) (.add (DM A N b) (.add (DM A N c) (.var 31361)))) ∧ (∀ (its : List (Option ob_T)) (m s v : Int), DR ar m s v I A → DIT its I A N → DIM its (sp_opO (.add (DM A N f) (.add (DM A N a) (.add (DM A N b) (.add (DM A N c) (.var 31361)))))) t I1 A1 N)) := by
  have e0 : 0 ≤ I 56 := by rw [hB.2.2.2.1.2]; decide
  have e1 : I 56 ≤ 2390 := by rw [hB.2.2.2.1.2]; decide
  refine cl_w (fun v h1 q => ?_) (mm_made3 z d ar f a b c h R I A N hc hB.1.1 hB.1.2.1 hB.1.2.2 hT f0 f1 f2 e0 e1 ho hB.2.2.2.2.1 hB.2.2.2.2.2 a0 a1 a2 b0 b1 b2 c0 c1 c2 ha)
  obtain ⟨t, I1, A1, rfl, rfl, M, e, dt, cv⟩ := q
  have r := RU_MD hB M
  exact ⟨t, I1, A1, rfl, rfl, r.1, r.2.1, r.2.2.1, r.2.2.2, e, dt, IM_MD hB hT M r.2.2.2 cv dt⟩
theorem mr_not (z : Value) (d : Nat) (ar : Int → Int) (k : Int) (h R : xx_H) (I : Nat → Int) (A : Nat → Int → Int) (N : Int → Int) (hc : 12 ≤ h.length) (hB : BI ar I A N) (hT : TRX I A N) (hp : A 1 k = 2 → 0 ≤ A 1 (A 2 k) ∧ A 2 (A 2 k) = 0) (k0 : 0 ≤ k) (k1 : k < I 7) (hk : 1 ≤ TZ A ar k) (hk2 : TZ A ar k ≤ 120 ∨ ¬ I 49 = 0) (ho : I 7 + 4 ≤ 140000) : xx_cl (xt_P z) (d + 7) 125 [.ref h.length, .int (iI k)] (mh h R I A N) (fun v h1 => ∃ (t : Int) (I1 : Nat → Int) (A1 : Nat → Int → Int), v = some (.int (iI t)) ∧ h1 = mh h R I1 A1 N ∧ RU ar 2 I A N I1 A1 N ∧ (∀ m s v : Int, DR ar m s v I A → DR ar m s v I1 A1) ∧ ((0 ≤ t ∧ t < I1 7) ∧ 1 ≤ TZ A1 ar t) ∧ (I1 49 = 0 → TZ A1 ar t ≤ 120) ∧ TZ A1 ar t ≤ TZ A ar k + 1 ∧ DM A1 N t = sp_not (DM A N k) ∧ (∀ (its : List (Option ob_T)) (m s v : Int), DR ar m s v I A → DIT its I A N → DIM its (sp_opO (sp_not (DM A N k))) t I1 A1 N)) := by
  have e0 : 0 ≤ I 56 := by rw [hB.2.2.2.1.2]; decide
  have e1 : I 56 ≤ 2390 := by rw [hB.2.2.2.1.2]; decide
  refine cl_w (fun v h1 q => ?_) (mm_notOf2 z d ar k h R I A N hc hB.1.1 hB.1.2.1 hB.1.2.2 hT hp hk k0 k1 (hB.2.1.1.1.2.2 15 (by decide) (by decide)) e0 e1 ho hB.2.2.2.2.1 hB.2.2.2.2.2)
  obtain ⟨t, I1, A1, rfl, rfl, M, e, dt, cv⟩ := q
  have r := RU_MD hB M
  have w3 : I1 49 = 0 → TZ A1 ar t ≤ 120 := fun q => by
    have g := r.2.2.2 q
    rcases hk2 with b | b
    · rw [if_pos b] at g
      exact g
    · exact absurd (RU_z r.1 q) b
  exact ⟨t, I1, A1, rfl, rfl, r.1, r.2.1, r.2.2.1, w3, e, dt, IM_MD hB hT M w3 cv dt⟩
theorem mm_defined_loop (z : Value) (d m : Nat) (ar : Int → Int) (e : Int) (h R : xx_H) (I : Nat → Int) (A : Nat → Int → Int) (N : Int → Int) (hc : 12 ≤ h.length) (e0 : 0 ≤ e) (e1 : e < 40) (em : A 21 e = m) (m6 : m ≤ 6) (Q : Option Value → xx_H → Prop) (K : ∀ (I1 : Nat → Int) (A1 : Nat → Int → Int) (k : Nat), k = m → (∀ j : Nat, j ≠ 56 → I1 j = I j) → I1 56 = k → (∀ a : Nat, a ≠ 32 → A1 a = A a) → (∀ q : Int, 0 ≤ q → q < k → A1 32 q = A 22 (6 * e + q)) → xx_go (xt_P z) (d + 7) 157 38 [some (.ref h.length), some (.int (iI e)), some (.int (iI 0)), some (.int (iI ((k : Int))))] [] (mh h R I1 A1 N) Q) : ∀ (n k : Nat) (I1 : Nat → Int) (A1 : Nat → Int → Int), m - k ≤ n → k ≤ m → (∀ j : Nat, j ≠ 56 → I1 j = I j) → I1 56 = k → (∀ a : Nat, a ≠ 32 → A1 a = A a) → (∀ q : Int, 0 ≤ q → q < k → A1 32 q = A 22 (6 * e + q)) → xx_go (xt_P z) (d + 7) 157 7 [some (.ref h.length), some (.int (iI e)), some (.int (iI 0)), some (.int (iI ((k : Int))))] [] (mh h R I1 A1 N) Q := by
  intro n
  induction n with
  | zero =>
    intro k I1 A1 hn km f1 f2 f3 f4
    have e21 : A1 21 e = m := by rw [f3 21 (by decide)]; exact em
    refine go_a (pc' := 8) (ls' := [some (.ref h.length), some (.int (iI e)), some (.int (iI 0)), some (.int (iI ((k : Int))))]) (st' := [.int (iI ((k : Int)))]) rfl rfl ?_
    refine go_a (pc' := 9) (ls' := [some (.ref h.length), some (.int (iI e)), some (.int (iI 0)), some (.int (iI ((k : Int))))]) (st' := [.ref h.length, .int (iI ((k : Int)))]) rfl rfl ?_
    refine go_get rfl mh_o rfl rfl ?_
    refine go_a (pc' := 13) (ls' := [some (.ref h.length), some (.int (iI e)), some (.int (iI 0)), some (.int (iI ((k : Int))))]) (st' := [.int (iI e), .ref (h.length + 21), .int (iI ((k : Int)))]) rfl rfl ?_
    refine mi_ild rfl mh_a21 (by omega) (by omega) (by decide) ?_
    refine mi_ge (t := 38) rfl rfl (by omega) (by omega) (by omega) (by omega) (fun _ => ?_) (fun q => absurd (show A1 21 e ≤ (k : Int) by omega) q)
    exact K I1 A1 k (by omega) f1 f2 f3 f4
  | succ n ih =>
    intro k I1 A1 hn km f1 f2 f3 f4
    have e21 : A1 21 e = m := by rw [f3 21 (by decide)]; exact em
    refine go_a (pc' := 8) (ls' := [some (.ref h.length), some (.int (iI e)), some (.int (iI 0)), some (.int (iI ((k : Int))))]) (st' := [.int (iI ((k : Int)))]) rfl rfl ?_
    refine go_a (pc' := 9) (ls' := [some (.ref h.length), some (.int (iI e)), some (.int (iI 0)), some (.int (iI ((k : Int))))]) (st' := [.ref h.length, .int (iI ((k : Int)))]) rfl rfl ?_
    refine go_get rfl mh_o rfl rfl ?_
    refine go_a (pc' := 13) (ls' := [some (.ref h.length), some (.int (iI e)), some (.int (iI 0)), some (.int (iI ((k : Int))))]) (st' := [.int (iI e), .ref (h.length + 21), .int (iI ((k : Int)))]) rfl rfl ?_
    refine mi_ild rfl mh_a21 (by omega) (by omega) (by decide) ?_
    refine mi_ge (t := 38) rfl rfl (by omega) (by omega) (by omega) (by omega) (fun q => ?_) (fun q => ?_)
    · exact K I1 A1 k (by omega) f1 f2 f3 f4
    · refine go_a (pc' := 18) (ls' := [some (.ref h.length), some (.int (iI e)), some (.int (iI 0)), some (.int (iI ((k : Int))))]) (st' := [.ref h.length]) rfl rfl ?_
      refine go_a (pc' := 19) (ls' := [some (.ref h.length), some (.int (iI e)), some (.int (iI 0)), some (.int (iI ((k : Int))))]) (st' := [.ref h.length, .ref h.length]) rfl rfl ?_
      refine go_get rfl mh_o rfl rfl ?_
      refine go_a (pc' := 24) (ls' := [some (.ref h.length), some (.int (iI e)), some (.int (iI 0)), some (.int (iI ((k : Int))))]) (st' := [.int (iI 6), .ref (h.length + 22), .ref h.length]) rfl rfl ?_
      refine go_a (pc' := 25) (ls' := [some (.ref h.length), some (.int (iI e)), some (.int (iI 0)), some (.int (iI ((k : Int))))]) (st' := [.int (iI e), .int (iI 6), .ref (h.length + 22), .ref h.length]) rfl rfl ?_
      refine mi_mul rfl ?_
      refine go_a (pc' := 27) (ls' := [some (.ref h.length), some (.int (iI e)), some (.int (iI 0)), some (.int (iI ((k : Int))))]) (st' := [.int (iI ((k : Int))), .int (iI (6 * e)), .ref (h.length + 22), .ref h.length]) rfl rfl ?_
      refine mi_add rfl ?_
      refine mi_ild rfl mh_a22 (by omega) (by omega) (by decide) ?_
      refine go_v (m := 107) (as := [.ref h.length, .int (iI (A1 22 ((6 * e) + ((k : Int)))))]) (r := []) rfl rfl rfl mh_o rfl rfl (mm_build z (d + 6) (A1 22 (6 * e + k)) h R I1 A1 N hc (by omega) (by omega)) (fun v h1 hq => ?_)
      obtain ⟨rfl, rfl⟩ := hq
      show xx_go (xt_P z) (d + 7) 157 32 [some (.ref h.length), some (.int (iI e)), some (.int (iI 0)), some (.int (iI ((k : Int))))] [] (mh h R (su I1 56 (I1 56 + 1)) (sa A1 32 (I1 56) (A1 22 (6 * e + k))) N) _
      refine go_a (pc' := 35) (ls' := [some (.ref h.length), some (.int (iI e)), some (.int (iI 0)), some (.int (iI (((k : Int)) + 1)))]) (st' := []) rfl (by rw [← iI_add ((k : Int)) 1]; rfl) ?_
      refine go_a (pc' := 7) (ls' := [some (.ref h.length), some (.int (iI e)), some (.int (iI 0)), some (.int (iI (((k : Int)) + 1)))]) (st' := []) rfl rfl ?_
      refine ih (k + 1) (su I1 56 (I1 56 + 1)) (sa A1 32 (I1 56) (A1 22 (6 * e + k))) (by omega) (by omega) (fun j p => (su_ne p).trans (f1 j p)) (by show I1 56 + 1 = _; omega) (fun a p => (sa_ne p).trans (f3 a p)) (fun q q0 q1 => ?_)
      show sf (A1 32) (I1 56) (A1 22 (6 * e + k)) q = _
      by_cases u : q = k
      · rw [show q = I1 56 by omega, sf_self, f2, f3 22 (by decide)]
      · rw [sf_ne (by omega)]
        exact f4 q q0 (by omega)
theorem mm_defined (z : Value) (d : Nat) (ar : Int → Int) (e : Int) (h R : xx_H) (I : Nat → Int) (A : Nat → Int → Int) (N : Int → Int) (hc : 12 ≤ h.length) (hB : BI ar I A N) (hT : TRX I A N) (e0 : 0 ≤ e) (e1 : e < I 32) (m s v9 : Int) (hD : DR ar m s v9 I A) (m1 : m < 1200) (ho : I 7 + 14 ≤ 140000) : xx_cl (xt_P z) (d + 8) 157 [.ref h.length, .int (iI e)] (mh h R I A N) (fun v h1 => v = none ∧ ∃ (I1 : Nat → Int) (A1 : Nat → Int → Int), h1 = mh h R I1 A1 N ∧ RU ar 10 I A N I1 A1 N ∧ (∃ s v, DR ar (m + 1) s v I1 A1) ∧ ∀ its : List (Option ob_T), DIT its I A N → DIT (its ++ [sp_opO (sp_eq (.add (DM A N (A 20 e)) (sp_li ((List.range (A 21 e).toNat).map (fun (j : Nat) => DM A N (A 22 (6 * e + j)))))) (DM A N (A 23 e)))]) I1 A1 N) := by
  have hP := BI_P hB
  have df := hB.2.2.1
  have d40 := df.1.1
  have De := df.2.1 e e0 e1
  have z56 := hB.2.2.2.1.2
  have De1 := De.1
  obtain ⟨q, hq⟩ : ∃ q : Nat, A 21 e = q := ⟨(A 21 e).toNat, by have := De.2.1.1; omega⟩
  have q6 : q ≤ 6 := by have := De.2.1.2.1; omega
  refine cl_go rfl ?_
  show xx_go (xt_P z) (d + 7) 157 0 [some (.ref h.length), some (.int (iI e)), none, none] [] (mh h R I A N) _
  refine go_a (pc' := 1) (ls' := [some (.ref h.length), some (.int (iI e)), none, none]) (st' := [.ref h.length]) rfl rfl ?_
  refine go_get (v := .int (iI (I 56))) rfl mh_o rfl rfl ?_
  rw [z56]
  refine go_a (pc' := 5) (ls' := [some (.ref h.length), some (.int (iI e)), some (.int (iI 0)), none]) (st' := []) rfl rfl ?_
  refine go_a (pc' := 6) (ls' := [some (.ref h.length), some (.int (iI e)), some (.int (iI 0)), none]) (st' := [.int (iI 0)]) rfl rfl ?_
  refine go_a (pc' := 7) (ls' := [some (.ref h.length), some (.int (iI e)), some (.int (iI 0)), some (.int (iI 0))]) (st' := []) rfl rfl ?_
  show xx_go (xt_P z) (d + 7) 157 7 [some (.ref h.length), some (.int (iI e)), some (.int (iI 0)), some (.int (iI (((0 : Nat) : Int))))] [] (mh h R I A N) _
  refine mm_defined_loop z d q ar e h R I A N hc e0 (by omega) hq q6 _ ?_ q 0 I A (by omega) (by omega) (fun _ _ => rfl) z56 (fun _ _ => rfl) (fun q q0 q1 => absurd q1 (by omega))
  intro I1 A1 k ek f1 f2 f3 f4
  subst ek
  have e7 : I1 7 = I 7 := f1 7 (by decide)
  have b1 : BX (fun j => j = 56) (fun a => a = 32) I A N I1 A1 N := BX_of hB.1.1 (fun j q => f1 j q) (fun a q => f3 a q) e7 (f1 10 (by decide)) (f3 1 (by decide)) (f3 2 (by decide)) (f3 3 (by decide)) (f3 4 (by decide)) (f3 5 (by decide)) (f3 7 (by decide)) (f3 8 (by decide)) (f3 9 (by decide))
  have S1 := b1.1
  have Z1 : SZI ar I1 A1 := SZI_124 hB.1.2.2 (f3 1 (by decide)) (f3 2 (by decide)) (f3 4 (by decide)) e7
  have N1 : NM I1 A1 := NM_BX2 hB.1.2.1 b1
  have t1 : TZ A1 ar = TZ A ar := (TZ_124 (f3 1 (by decide)) (f3 2 (by decide)) (f3 4 (by decide))).1
  have g20 : A1 20 e = A 20 e := by rw [f3 20 (by decide)]
  have vr : ∀ q : Int, 0 ≤ q → q < k → (0 ≤ A1 32 q ∧ A1 32 q < I1 7) ∧ 1 ≤ TZ A1 ar (A1 32 q) := by
    intro q q0 q1
    have v := De.2.2.1 q q0 (by omega)
    rw [f4 q q0 q1, e7, t1, TZ_atom (by rw [v.2]; decide)]
    exact ⟨v.1, Int.le_refl _⟩
  refine go_a (pc' := 39) (ls' := [some (.ref h.length), some (.int (iI e)), some (.int (iI 0)), some (.int (iI ((k : Int))))]) (st' := [.ref h.length]) rfl rfl ?_
  refine go_a (pc' := 40) (ls' := [some (.ref h.length), some (.int (iI e)), some (.int (iI 0)), some (.int (iI ((k : Int))))]) (st' := [.ref h.length, .ref h.length]) rfl rfl ?_
  refine go_get rfl mh_o rfl rfl ?_
  refine go_a (pc' := 44) (ls' := [some (.ref h.length), some (.int (iI e)), some (.int (iI 0)), some (.int (iI ((k : Int))))]) (st' := [.int (iI e), .ref (h.length + 20), .ref h.length]) rfl rfl ?_
  refine mi_ild rfl mh_a20 (by omega) (by omega) (by decide) ?_
  refine go_a (pc' := 46) (ls' := [some (.ref h.length), some (.int (iI e)), some (.int (iI 0)), some (.int (iI ((k : Int))))]) (st' := [.int (iI 0), .int (iI (A1 20 e)), .ref h.length]) rfl rfl ?_
  refine go_v (m := 114) (as := [.ref h.length, .int (iI (A1 20 e)), .int (iI 0)]) (r := []) rfl rfl rfl mh_o rfl rfl (mm_callFrom z (d + 2) ar (A1 20 e) 0 h R I1 A1 N hc S1 N1 Z1 (by omega) (by omega) (by omega) (by decide) (by omega) (by omega) (fun q q0 q1 => vr q q0 (by omega)) (by rw [g20, De.2.1.2.2]; omega) (by omega)) (fun v h1 hq => ?_)
  obtain ⟨c, I2, A2, rfl, rfl, b2, Z2, c0, c1, cf, ct, c7, -, cl9⟩ := hq
  show xx_go (xt_P z) (d + 7) 157 49 [some (.ref h.length), some (.int (iI e)), some (.int (iI 0)), some (.int (iI ((k : Int))))] [.int (iI c)] (mh h R I2 A2 N) _
  refine go_a (pc' := 50) (ls' := [some (.ref h.length), some (.int (iI e)), some (.int (iI 0)), some (.int (iI c))]) (st' := []) rfl rfl ?_
  refine go_a (pc' := 51) (ls' := [some (.ref h.length), some (.int (iI e)), some (.int (iI 0)), some (.int (iI c))]) (st' := [.ref h.length]) rfl rfl ?_
  refine go_a (pc' := 52) (ls' := [some (.ref h.length), some (.int (iI e)), some (.int (iI 0)), some (.int (iI c))]) (st' := [.int (iI 0), .ref h.length]) rfl rfl ?_
  refine go_put (j := 56) rfl mh_o rfl rfl (show 12 ≤ _ from hc) (show 56 < 86 by decide) rfl rfl ?_
  rw [mh_p56]
  have b3 : BX (fun j => j = 56) (fun a => a = 32) I1 A1 N (su I2 56 0) A2 N := ⟨b2.1, b2.2.1, b2.2.2.1, fun j p q => (su_ne q).trans (b2.2.2.2.1 j p (fun z => z)), fun a p1 p2 p3 p4 p5 p6 q => b2.2.2.2.2 a p1 p2 p3 p4 p5 p6 (fun z => z)⟩
  have b4 := BX_tr b1 b3
  have h49 : I2 49 = I 49 := (b2.2.2.2.1 49 (by decide) (fun z => z)).trans (f1 49 (by decide))
  have R4 : RU ar 7 I A N (su I2 56 0) A2 N := RU_of hB b4 (fun j q => by subst q; unfold FC; omega) (fun a q => by subst q; unfold GC; omega) (SZI_124 (I := I2) (I1 := su I2 56 0) Z2 rfl rfl rfl rfl) ((b2.2.2.2.1 54 (by decide) (fun z => z)).trans (f1 54 (by decide))) z56.symm (by show 0 ≤ I2 49 ∧ I2 49 ≤ 4; rw [h49]; exact hB.2.2.2.2) (by show I2 7 ≤ _; omega) (fun _ => h49)
  have D4 : DR ar m s v9 (su I2 56 0) A2 := DR_BX hP hD b4 (by decide) (by decide) (fun q => by rw [← h49]; exact q)
  have x7 : I 7 ≤ I2 7 := R4.1.2.1
  have T4 : TRX (su I2 56 0) A2 N := TRX_BX hB.1.1 hB.1.2.1 hT b4 (by decide) (by decide) (by decide)
  have dd : ∀ x : Int, 0 ≤ x → x < I 7 → DM A2 N x = DM A N x := fun x x0 x1 => DM_BX hB.1.1 hT b4 (by decide) (by decide) (by decide) x0 x1
  have qc := (MST_PW b2.1).2 c c0 c1
  have pc9 : 0 ≤ A2 1 c := by rw [cf, g20]; omega
  have qc2 := qc.2.2.2.2 pc9
  have T2 : TRX I2 A2 N := TRX_12 T4 rfl rfl rfl rfl rfl
  have dc : DM A2 N c = .add (DM A N (A 20 e)) (sp_li ((List.range (A 21 e).toNat).map (fun (j : Nat) => DM A N (A 22 (6 * e + j))))) := by
    rw [show (I1 56 - 0).toNat = (A 21 e).toNat by omega] at cl9
    rw [DM_pr b2.1 T2 c0 c1 pc9, cf, g20, dd _ (by omega) De1.2, DM_li b2.1 T2 (A 21 e).toNat (A2 2 c) (by omega) (by omega) cl9.1]
    refine congrArg (fun x => Int.Internal.Linear.Expr.add (DM A N (A 20 e)) (sp_li x)) (List.map_congr_left (fun j hj => ?_))
    have hj := List.mem_range.mp hj
    have vj := De.2.2.1 j (by omega) (by omega)
    show DM A2 N (A2 1 (rt A2 j (A2 2 c))) = _
    rw [cl9.2 j hj, Int.zero_add, f4 j (by omega) (by omega), dd _ vj.1.1 vj.1.2]
  have body : TZ A2 ar (A 23 e) = TZ A ar (A 23 e) := RU_t hP R4 De.2.2.2.1.1 De.2.2.2.1.2 De.2.2.2.2.1.1
  have g23 : A2 23 e = A 23 e := by rw [b2.2.2.2.2 23 (by decide) (by decide) (by decide) (by decide) (by decide) (by decide) (fun z => z), f3 23 (by decide)]
  have nm := R4.2.1.1.2.1.1
  have nm : 44 ≤ I2 7 := nm
  have bd := De.2.2.2.1
  have bt := De.2.2.2.2.1
  have c7b : I2 7 ≤ I 7 + 7 := R4.2.2.1
  refine go_a (pc' := 56) (ls' := [some (.ref h.length), some (.int (iI e)), some (.int (iI 0)), some (.int (iI c))]) (st' := [.ref h.length]) rfl rfl ?_
  refine go_a (pc' := 57) (ls' := [some (.ref h.length), some (.int (iI e)), some (.int (iI 0)), some (.int (iI c))]) (st' := [.ref h.length, .ref h.length]) rfl rfl ?_
  refine go_a (pc' := 58) (ls' := [some (.ref h.length), some (.int (iI e)), some (.int (iI 0)), some (.int (iI c))]) (st' := [.int (iI 4), .ref h.length, .ref h.length]) rfl rfl ?_
  refine go_a (pc' := 59) (ls' := [some (.ref h.length), some (.int (iI e)), some (.int (iI 0)), some (.int (iI c))]) (st' := [.int (iI c), .int (iI 4), .ref h.length, .ref h.length]) rfl rfl ?_
  refine go_a (pc' := 60) (ls' := [some (.ref h.length), some (.int (iI e)), some (.int (iI 0)), some (.int (iI c))]) (st' := [.ref h.length, .int (iI c), .int (iI 4), .ref h.length, .ref h.length]) rfl rfl ?_
  refine go_get rfl mh_o rfl rfl ?_
  refine go_a (pc' := 64) (ls' := [some (.ref h.length), some (.int (iI e)), some (.int (iI 0)), some (.int (iI c))]) (st' := [.int (iI e), .ref (h.length + 23), .int (iI c), .int (iI 4), .ref h.length, .ref h.length]) rfl rfl ?_
  refine mi_ild rfl mh_a23 (by omega) (by omega) (by decide) ?_
  rw [g23]
  show xx_go (xt_P z) (d + 7) 157 65 [some (.ref h.length), some (.int (iI e)), some (.int (iI 0)), some (.int (iI c))] [.int (iI (A 23 e)), .int (iI c), .int (iI 4), .ref h.length, .ref h.length] (mh h R (su I2 56 0) A2 N) _
  refine go_v (m := 156) (as := [.ref h.length, .int (iI 4), .int (iI c), .int (iI (A 23 e))]) (r := [.ref h.length]) rfl rfl rfl mh_o rfl rfl (mr_two z d ar 4 c (A 23 e) h R (su I2 56 0) A2 N hc R4.2.1 T4 (by decide) (by show 4 < I2 7; omega) (by decide) (by show I2 7 + 4 ≤ _; omega) c0 c1 ct bd.1 (by show A 23 e < I2 7; omega) (by rw [body]; exact bt.1) (R4.2.1.2.1.1.1.2.1 4 (by decide) (by decide)).symm) (fun v h1 hq => ?_)
  obtain ⟨t, I3, A3, rfl, rfl, R5, D5, t0, t1, -, dt, im⟩ := hq
  show xx_go (xt_P z) (d + 7) 157 68 [some (.ref h.length), some (.int (iI e)), some (.int (iI 0)), some (.int (iI c))] [.int (iI t), .ref h.length] (mh h R I3 A3 N) _
  refine go_v (m := 155) (as := [.ref h.length, .int (iI t)]) (r := []) rfl rfl rfl mh_o rfl rfl (mr_put z (d + 6) ar m s v9 t h R I3 A3 N hc R5.2.1 (TRX_BX R4.2.1.1.1 R4.2.1.1.2.1 T4 R5.1 (by unfold FC; omega) (by unfold GC; omega) (by unfold GC; omega)) (D5 m s v9 D4) m1 t0.1.1 t0.1.2 t0.2 t1) (fun v h1 hq => ?_)
  obtain ⟨rfl, I4, A4, rfl, R6, D6, -, -, ip⟩ := hq
  have FIN9 : ∀ its : List (Option ob_T), DIT its I A N → DIT (its ++ [sp_opO (sp_eq (.add (DM A N (A 20 e)) (sp_li ((List.range (A 21 e).toNat).map (fun (j : Nat) => DM A N (A 22 (6 * e + j)))))) (DM A N (A 23 e)))]) I4 A4 N := fun its h9 => by
    have h8 := DIT_BX hB hT hD b4 (by decide) (by decide) (by decide) (by decide) (by decide) h49 h9
    have h7 := ip its _ (im its m s v9 D4 h8)
    rw [show DM A2 N 4 = .var 26209844 from T4.2 4 (by decide), dc, dd _ bd.1 bd.2] at h7
    exact h7
  show xx_go (xt_P z) (d + 7) 157 71 [some (.ref h.length), some (.int (iI e)), some (.int (iI 0)), some (.int (iI c))] [] (mh h R I4 A4 N) _
  exact go_r rfl rfl rfl rfl rfl rfl ⟨rfl, I4, A4, rfl, RU_tr (RU_tr R4 R5 (Int.le_refl _)) R6 (by decide), ⟨_, _, D6⟩, fun its h9 => FIN9 its h9⟩

