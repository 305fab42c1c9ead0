theorem find_ex {α : Type} {p : α → Bool} {L : List α} (h : L.find? p ≠ none) : ∃ (j : Nat) (b : α), L[j]? = some b ∧ p b = true := by
  by_cases c : ∀ (j : Nat) (b : α), L[j]? = some b → p b = false
  · exact absurd (find_no L c) h
  · obtain ⟨j, c⟩ := Classical.not_forall.mp c
    obtain ⟨b, c⟩ := Classical.not_forall.mp c
    obtain ⟨e, c⟩ := Classical.not_imp.mp c
    refine ⟨j, b, e, ?_⟩
    cases q : p b with
    | true => rfl
    | false => exact absurd q c
theorem find_ne {α : Type} {p : α → Bool} {L : List α} {j : Nat} {b : α} (h : L[j]? = some b) (hb : p b = true) : L.find? p ≠ none := by
  intro q
  have := List.find?_eq_none.mp q b (List.mem_of_getElem? h)
  exact this hb
theorem all_ne {α β : Type} {f : α → Option β} : ∀ L : List α, sp_all (L.map f) ≠ none ↔ ∀ x ∈ L, f x ≠ none
  | [] => ⟨fun _ x hx => (by cases hx), fun _ => by simp [sp_all]⟩
  | a :: L => by
    have r := all_ne (f := f) L
    rw [List.map_cons]
    cases e : f a with
    | none =>
      refine ⟨fun h => absurd rfl h, fun h => absurd e (h a List.mem_cons_self)⟩
    | some b =>
      show (sp_all (L.map f)).map (fun q => b :: q) ≠ none ↔ _
      refine ⟨fun h x hx => ?_, fun h => ?_⟩
      · rcases List.mem_cons.mp hx with hx | hx
        · rw [hx, e]
          simp
        · exact r.mp (fun q => h (by rw [q]; rfl)) x hx
      · obtain ⟨c, ec⟩ := opt_ex (r.mpr (fun x hx => h x (List.mem_cons_of_mem _ hx)))
        rw [ec]
        simp
theorem nodup_rg {α : Type} {g : Nat → α} {m : Nat} : ((List.range m).map g).Nodup ↔ ∀ i j : Nat, i < j → j < m → g i ≠ g j := by
  unfold List.Nodup
  rw [List.pairwise_map, List.pairwise_iff_getElem]
  refine ⟨fun h i j a b => ?_, fun h i j hi hj a => ?_⟩
  · have := h i j (by rw [List.length_range]; omega) (by rw [List.length_range]; omega) a
    rw [List.getElem_range, List.getElem_range] at this
    exact this
  · rw [List.length_range] at hi hj
    rw [List.getElem_range, List.getElem_range]
    exact h i j a hj
section FXS
variable {ar : Int → Int} {ft : Nat → Int} {Fb : List (Nat × List Nat × ob_T)} {Tb : List (Nat × ob_T)} {I : Nat → Int} {A : Nat → Int → Int} {N : Int → Int} {k o : Int} {n : Nat}
theorem STX (hB : BI ar I A N) (h : BTX ar ft Fb Tb I A N) : STo A (DM A N) (I 7) := MX_ST ⟨hB.1.1, h.1.1⟩ ⟨DM_0 h.1, DM_2 h.1⟩ (DM_1 h.1) (by have := hB.1.2.1.1; omega)
theorem L_as (hB : BI ar I A N) (h : BTX ar ft Fb Tb I A N) (k0 : 0 ≤ k) (k1 : k < I 7) (hL : isL A n k) : sp_as (DM A N k) = (List.range n).map (fun j => DM A N (A 1 (rt A j k))) := by
  rw [DM_li hB.1.1 h.1 n k k0 k1 hL, as_li]
theorem L_len (hB : BI ar I A N) (h : BTX ar ft Fb Tb I A N) (k0 : 0 ≤ k) (k1 : k < I 7) (hL : isL A n k) : (sp_as (DM A N k)).length = n := by
  rw [L_as hB h k0 k1 hL, List.length_map, List.length_range]
theorem L_p (hB : BI ar I A N) (h : BTX ar ft Fb Tb I A N) (k0 : 0 ≤ k) (k1 : k < I 7) (hL : isL A n k) {j : Nat} (hj : j < n) : sp_p j (DM A N k) = DM A N (A 1 (rt A j k)) := by
  unfold sp_p
  rw [L_as hB h k0 k1 hL, List.getD_eq_getElem?_getD, List.getElem?_map, List.getElem?_range hj]
  rfl
theorem L_pl (hB : BI ar I A N) (h : BTX ar ft Fb Tb I A N) (k0 : 0 ≤ k) (k1 : k < I 7) (hL : isL A n k) : sp_pl (DM A N k) = true := ((ST_isL (STX hB h) n k k0 k1).mp hL).1
theorem pl_L (hB : BI ar I A N) (h : BTX ar ft Fb Tb I A N) (k0 : 0 ≤ k) (k1 : k < I 7) (p : sp_pl (DM A N k) = true) : isL A (sp_as (DM A N k)).length k := (ST_isL (STX hB h) _ k k0 k1).mpr ⟨p, rfl⟩
theorem tm_iff (hB : BI ar I A N) (h : BTX ar ft Fb Tb I A N) (k0 : 0 ≤ k) (k1 : k < I 7) : sp_tm ft (DM A N k) ≠ none ↔ TOK A ar k := by
  refine ⟨fun q => ?_, fun t => by rw [tok_tm hB h k0 k1 t]; simp⟩
  unfold sp_tm at q
  rw [TS_1 hB.1.1 hB.1.2.1 h.1 h.2.1 k0 k1] at q
  by_cases c : TOK A ar k
  · exact c
  · exact absurd (if_neg c) q
theorem iv_iff (hB : BI ar I A N) (h : BTX ar ft Fb Tb I A N) (k0 : 0 ≤ k) (k1 : k < I 7) : sp_iv (DM A N k) = true ↔ A 1 k = -2 ∧ 1 < k := by
  have n7 := hB.1.2.1.1
  refine ⟨fun q => ?_, fun q => ?_⟩
  · obtain ⟨v, e, v1, v2⟩ := sp_iv_e q
    refine ⟨ST_iv (STX hB h) k0 k1 e, ?_⟩
    by_cases c0 : k = 0
    · rw [c0, DM_0 h.1] at e
      injection e with e
      exact absurd e.symm v1
    · by_cases c1 : k = 1
      · rw [c1, DM_1 h.1] at e
        injection e with e
        exact absurd e.symm v2
      · omega
  · obtain ⟨v, e⟩ := ST_v (STX hB h) k0 k1 q.1
    rw [e]
    show (!(v == 31361) && !(v == 20)) = true
    have v1 : v ≠ 31361 := fun c => by
      rw [c] at e
      have := DM_inj ⟨hB.1.1, h.1.1⟩ k0 k1 (by decide : (0 : Int) ≤ 0) (by omega) (e.trans (DM_0 h.1).symm)
      omega
    have v2 : v ≠ 20 := fun c => by
      rw [c] at e
      have := DM_inj ⟨hB.1.1, h.1.1⟩ k0 k1 (by decide : (0 : Int) ≤ 1) (by omega) (e.trans (DM_1 h.1).symm)
      omega
    simp [v1, v2]
theorem hd_num (hB : BI ar I A N) (h : BTX ar ft Fb Tb I A N) (k0 : 0 ≤ k) (k1 : k < I 7) {x : Nat} (hx : x < 44) (h0 : mNm.getD x 0 ≠ 0) (e : sp_hc (DM A N k) = mNm.getD x 0) : k = x := by
  refine (DM_nm hB.1.1 hB.1.2.1 h.1 k0 k1 hx).mp ?_
  cases q : DM A N k with
  | var v =>
    rw [q] at e
    have e : v = mNm.getD x 0 := e
    rw [e]
  | num _ => rw [q] at e; exact absurd e.symm h0
  | add _ _ => rw [q] at e; exact absurd e.symm h0
  | sub _ _ => rw [q] at e; exact absurd e.symm h0
  | neg _ => rw [q] at e; exact absurd e.symm h0
  | mulL _ _ => rw [q] at e; exact absurd e.symm h0
  | mulR _ _ => rw [q] at e; exact absurd e.symm h0
theorem hd_of (h : BTX ar ft Fb Tb I A N) {x : Nat} (hx : x < 44) (e : k = x) : sp_hc (DM A N k) = mNm.getD x 0 := by
  rw [e, h.1.2 x hx]
  rfl
theorem fb_iff (hB : BI ar I A N) (h : BTX ar ft Fb Tb I A N) (k0 : 0 ≤ k) (k1 : k < I 7) : sp_fb Fb (DM A N k) ≠ none ↔ ∃ e : Int, 0 ≤ e ∧ e < I 32 ∧ A 20 e = k := by
  obtain ⟨⟨l1, -⟩, bk, -⟩ := h.2.2.2
  refine ⟨fun q => ?_, fun ⟨e, e0, e1, e2⟩ => ?_⟩
  · obtain ⟨j, b, f1, f2⟩ := find_ex q
    obtain ⟨v, ps, B, g1, g2, -⟩ := bk j (fb_len f1)
    rw [f1] at g1
    injection g1 with g1
    rw [g1] at f2
    refine ⟨j, by omega, by have := fb_len f1; omega, DM_inj ⟨hB.1.1, h.1.1⟩ g2.1.1 g2.1.2 k0 k1 (g2.2.trans (sp_ish_e f2).symm)⟩
  · obtain ⟨v, ps, B, g1, g2, -⟩ := bk e.toNat (by omega)
    rw [show ((e.toNat : Nat) : Int) = e by omega, e2] at g2
    refine find_ne g1 ?_
    show sp_ish v (DM A N k) = true
    rw [g2.2]
    exact sp_ish_r v
theorem tb_iff (hB : BI ar I A N) (h : BTX ar ft Fb Tb I A N) (k0 : 0 ≤ k) (k1 : k < I 7) : sp_tb Tb (DM A N k) ≠ none ↔ ∃ e : Int, 0 ≤ e ∧ e < I 38 ∧ A 25 e = k := by
  obtain ⟨⟨-, l2⟩, -, bk⟩ := h.2.2.2
  refine ⟨fun q => ?_, fun ⟨e, e0, e1, e2⟩ => ?_⟩
  · obtain ⟨j, b, f1, f2⟩ := find_ex q
    obtain ⟨v, B, g1, g2, -⟩ := bk j (tb_len f1)
    rw [f1] at g1
    injection g1 with g1
    rw [g1] at f2
    refine ⟨j, by omega, by have := tb_len f1; omega, DM_inj ⟨hB.1.1, h.1.1⟩ g2.1.1 g2.1.2 k0 k1 (g2.2.trans (sp_ish_e f2).symm)⟩
  · obtain ⟨v, B, g1, g2, -⟩ := bk e.toNat (by omega)
    rw [show ((e.toNat : Nat) : Int) = e by omega, e2] at g2
    refine find_ne g1 ?_
    show sp_ish v (DM A N k) = true
    rw [g2.2]
    exact sp_ish_r v
theorem fb_1st (hB : BI ar I A N) (h : BTX ar ft Fb Tb I A N) (k0 : 0 ≤ k) (k1 : k < I 7) (q : sp_fb Fb (DM A N k) ≠ none) : ∃ e : Int, 0 ≤ e ∧ e < I 32 ∧ A 20 e = k ∧ ∀ u : Int, 0 ≤ u → u < e → A 20 u ≠ k := by
  obtain ⟨e, e0, e1, e2⟩ := (fb_iff hB h k0 k1).mp q
  have key : ∀ (m : Nat) (e : Int), e.toNat < m → 0 ≤ e → e < I 32 → A 20 e = k → ∃ e : Int, 0 ≤ e ∧ e < I 32 ∧ A 20 e = k ∧ ∀ u : Int, 0 ≤ u → u < e → A 20 u ≠ k := by
    intro m
    induction m with
    | zero => intro e hm; omega
    | succ m ih =>
      intro e hm a b c
      by_cases d : ∃ u : Int, (0 ≤ u ∧ u < e) ∧ A 20 u = k
      · obtain ⟨u, hu, eu⟩ := d
        exact ih u (by omega) hu.1 (by omega) eu
      · exact ⟨e, a, b, c, fun u u0 u1 eu => d ⟨u, ⟨u0, u1⟩, eu⟩⟩
  exact key (e.toNat + 1) e (by omega) e0 e1 e2
theorem fw_iff (hB : BI ar I A N) (h : BTX ar ft Fb Tb I A N) (k0 : 0 ≤ k) (k1 : k < I 7) : (sp_pl (DM A N k) = true ∧ sp_all ((sp_as (DM A N k)).map (sp_tm ft)) ≠ none) ↔ ∃ m : Nat, isL A m k ∧ ∀ j : Nat, j < m → TOK A ar (A 1 (rt A j k)) := by
  have hP := BI_P hB
  refine ⟨fun ⟨p, q⟩ => ?_, fun ⟨m, lm, q⟩ => ⟨L_pl hB h k0 k1 lm, ?_⟩⟩
  · have lm := pl_L hB h k0 k1 p
    refine ⟨_, lm, fun j hj => ?_⟩
    have b := (VD_rt hP k0 k1 lm hj).2.1
    refine (tm_iff hB h b.1 b.2).mp ((all_ne _).mp q _ ?_)
    rw [L_as hB h k0 k1 lm]
    exact List.mem_map.mpr ⟨j, List.mem_range.mpr hj, rfl⟩
  · rw [all_ne, L_as hB h k0 k1 lm]
    intro x hx
    obtain ⟨j, hj, rfl⟩ := List.mem_map.mp hx
    have hj := List.mem_range.mp hj
    have b := (VD_rt hP k0 k1 lm hj).2.1
    exact (tm_iff hB h b.1 b.2).mpr (q j hj)
theorem pq_iff (hB : BI ar I A N) (h : BTX ar ft Fb Tb I A N) (k0 : 0 ≤ k) (k1 : k < I 7) : (sp_pl (DM A N k) = true ∧ (sp_as (DM A N k)).length = 2 ∧ sp_iv (sp_p 0 (DM A N k)) = true ∧ sp_tm ft (sp_p 1 (DM A N k)) ≠ none) ↔ PQ A ar k := by
  have hP := BI_P hB
  have key : isL A 2 k → ((sp_iv (sp_p 0 (DM A N k)) = true ∧ sp_tm ft (sp_p 1 (DM A N k)) ≠ none) ↔ (A 1 (A 1 k) = -2 ∧ 1 < A 1 k) ∧ TOK A ar (A 1 (A 2 k))) := fun lm => by
    have b0 := (VD_rt hP k0 k1 lm (by decide : 0 < 2)).2.1
    have b1 := (VD_rt hP k0 k1 lm (by decide : 1 < 2)).2.1
    rw [L_p hB h k0 k1 lm (by decide : 0 < 2), L_p hB h k0 k1 lm (by decide : 1 < 2), iv_iff hB h b0.1 b0.2, tm_iff hB h b1.1 b1.2]
    exact Iff.rfl
  refine ⟨fun ⟨p, q, r, s⟩ => ?_, fun q => ⟨L_pl hB h k0 k1 q.1, L_len hB h k0 k1 q.1, (key q.1).mpr q.2⟩⟩
  have lm := pl_L hB h k0 k1 p
  rw [q] at lm
  exact ⟨lm, (key lm).mp ⟨r, s⟩⟩
theorem two_as (hB : BI ar I A N) (h : BTX ar ft Fb Tb I A N) (k0 : 0 ≤ k) (k1 : k < I 7) (hL : isL A n k) (n2 : 2 ≤ n) : (0 ≤ A 2 (A 2 k) ∧ A 2 (A 2 k) < I 7) ∧ isL A (n - 2) (A 2 (A 2 k)) ∧ (sp_as (DM A N k)).drop 2 = sp_as (DM A N (A 2 (A 2 k))) := by
  have hP := BI_P hB
  obtain ⟨m, rfl⟩ : ∃ m : Nat, n = m + 2 := ⟨n - 2, by omega⟩
  have l1 : 0 ≤ A 1 k ∧ isL A (m + 1) (A 2 k) := hL
  have l2 : 0 ≤ A 1 (A 2 k) ∧ isL A m (A 2 (A 2 k)) := l1.2
  have q1 := hP.2 k k0 k1
  have q2 := q1.2.2.2.2 l1.1
  have q3 := hP.2 (A 2 k) q1.2.2.1 (by omega)
  have q4 := q3.2.2.2.2 l2.1
  refine ⟨⟨q3.2.2.1, by omega⟩, l2.2, ?_⟩
  rw [DM_pr hB.1.1 h.1 k0 k1 l1.1, DM_pr hB.1.1 h.1 (k := A 2 k) q1.2.2.1 (by omega) l2.1]
  rfl
theorem fi_iff (hB : BI ar I A N) (h : BTX ar ft Fb Tb I A N) (k0 : 0 ≤ k) (k1 : k < I 7) (hL : isL A n k) (n2 : 2 ≤ n) : sp_fi ft (DM A N k) ↔ ∃ m : Nat, isL A m (A 2 (A 2 k)) ∧ (∀ j : Nat, j < m → PQ A ar (A 1 (rt A j (A 2 (A 2 k))))) ∧ PD A m (A 2 (A 2 k)) := by
  have hP := BI_P hB
  obtain ⟨l9, lm, ed⟩ := two_as hB h k0 k1 hL n2
  have bj : ∀ j : Nat, j < n - 2 → 0 ≤ A 1 (rt A j (A 2 (A 2 k))) ∧ A 1 (rt A j (A 2 (A 2 k))) < I 7 := fun j hj => (VD_rt hP l9.1 l9.2 lm hj).2.1
  unfold sp_fi
  rw [ed, L_as hB h l9.1 l9.2 lm, all_ne]
  refine ⟨fun ⟨⟨a, b⟩, c⟩ => ?_, fun ⟨m, lm2, a, b⟩ => ?_⟩
  · have pq : ∀ j : Nat, j < n - 2 → PQ A ar (A 1 (rt A j (A 2 (A 2 k)))) := fun j hj => by
      have mj : DM A N (A 1 (rt A j (A 2 (A 2 k)))) ∈ (List.range (n - 2)).map (fun j => DM A N (A 1 (rt A j (A 2 (A 2 k))))) := List.mem_map.mpr ⟨j, List.mem_range.mpr hj, rfl⟩
      have x := a _ mj
      exact (pq_iff hB h (bj j hj).1 (bj j hj).2).mp ⟨x.1, x.2.1, x.2.2, c _ mj⟩
    refine ⟨n - 2, lm, pq, fun i j ij hj e => ?_⟩
    rw [List.map_map] at b
    refine nodup_rg.mp b i j ij hj ?_
    show sp_p 0 (DM A N (A 1 (rt A i (A 2 (A 2 k))))) = sp_p 0 (DM A N (A 1 (rt A j (A 2 (A 2 k)))))
    rw [L_p hB h (bj i (by omega)).1 (bj i (by omega)).2 (pq i (by omega)).1 (by decide : 0 < 2), L_p hB h (bj j hj).1 (bj j hj).2 (pq j hj).1 (by decide : 0 < 2)]
    exact congrArg (DM A N) e
  · have em : m = n - 2 := isL_uq (BI_n0 hB) m (n - 2) _ lm2 lm
    subst em
    refine ⟨⟨fun y hy => ?_, ?_⟩, fun y hy => ?_⟩
    · obtain ⟨j, hj, rfl⟩ := List.mem_map.mp hy
      have hj := List.mem_range.mp hj
      have x := (pq_iff hB h (bj j hj).1 (bj j hj).2).mpr (a j hj)
      exact ⟨x.1, x.2.1, x.2.2.1⟩
    · rw [List.map_map]
      refine nodup_rg.mpr (fun i j ij hj e => b i j ij hj ?_)
      have e : sp_p 0 (DM A N (A 1 (rt A i (A 2 (A 2 k))))) = sp_p 0 (DM A N (A 1 (rt A j (A 2 (A 2 k))))) := e
      have bi := bj i (by omega)
      have pi := (a i (by omega)).1
      have pj := (a j hj).1
      rw [L_p hB h bi.1 bi.2 pi (by decide : 0 < 2), L_p hB h (bj j hj).1 (bj j hj).2 pj (by decide : 0 < 2)] at e
      have c1 := (VD_rt hP bi.1 bi.2 pi (by decide : 0 < 2)).2.1
      have c2 := (VD_rt hP (bj j hj).1 (bj j hj).2 pj (by decide : 0 < 2)).2.1
      exact DM_inj ⟨hB.1.1, h.1.1⟩ c1.1 c1.2 c2.1 c2.2 e
    · obtain ⟨j, hj, rfl⟩ := List.mem_map.mp hy
      have hj := List.mem_range.mp hj
      exact ((pq_iff hB h (bj j hj).1 (bj j hj).2).mpr (a j hj)).2.2.2
theorem vs_iff (hB : BI ar I A N) (h : BTX ar ft Fb Tb I A N) (k0 : 0 ≤ k) (k1 : k < I 7) (hL : isL A n k) : sp_vs 6 (DM A N k) ↔ n ≤ 6 ∧ (∀ j : Nat, j < n → A 1 (A 1 (rt A j k)) = -2 ∧ 1 < A 1 (rt A j k)) ∧ ∀ i j : Nat, i < j → j < n → A 1 (rt A i k) ≠ A 1 (rt A j k) := by
  have hP := BI_P hB
  have bj : ∀ j : Nat, j < n → 0 ≤ A 1 (rt A j k) ∧ A 1 (rt A j k) < I 7 := fun j hj => (VD_rt hP k0 k1 hL hj).2.1
  unfold sp_vs
  rw [L_len hB h k0 k1 hL, L_as hB h k0 k1 hL, nodup_rg]
  refine ⟨fun ⟨_, a, b, c⟩ => ⟨a, fun j hj => ?_, fun i j ij hj e => c i j ij hj (congrArg (DM A N) e)⟩, fun ⟨a, b, c⟩ => ⟨L_pl hB h k0 k1 hL, a, fun x hx => ?_, fun i j ij hj e => c i j ij hj (DM_inj ⟨hB.1.1, h.1.1⟩ (bj i (by omega)).1 (bj i (by omega)).2 (bj j hj).1 (bj j hj).2 e)⟩⟩
  · exact (iv_iff hB h (bj j hj).1 (bj j hj).2).mp (b _ (List.mem_map.mpr ⟨j, List.mem_range.mpr hj, rfl⟩))
  · obtain ⟨j, hj, rfl⟩ := List.mem_map.mp hx
    have hj := List.mem_range.mp hj
    exact (iv_iff hB h (bj j hj).1 (bj j hj).2).mpr (b j hj)
theorem fd_iff (hB : BI ar I A N) (h : BTX ar ft Fb Tb I A N) (k0 : 0 ≤ k) (k1 : k < I 7) (hL : isL A n k) (n3 : 3 ≤ n) : sp_fd ft Fb (DM A N k) ↔ ∃ e : Int, IND ar I A k e ∧ IDX A k e := by
  have hP := BI_P hB
  have n0 := BI_n0 hB
  have b1 := (VD_rt hP k0 k1 hL (by omega : 1 < n)).2.1
  have b2 := (VD_rt hP k0 k1 hL (by omega : 2 < n)).2.1
  have qc := hP.2 _ b2.1 b2.2
  unfold sp_fd
  rw [L_p hB h k0 k1 hL (by omega : 1 < n), L_p hB h k0 k1 hL (by omega : 2 < n), L_len hB h k0 k1 hL, tm_iff hB h b1.1 b1.2]
  have pr : 0 ≤ A 1 (A 1 (rt A 2 k)) → DM A N (A 1 (rt A 2 k)) = .add (DM A N (A 1 (A 1 (rt A 2 k)))) (DM A N (A 2 (A 1 (rt A 2 k)))) := fun q => DM_pr hB.1.1 h.1 b2.1 b2.2 q
  refine ⟨fun ⟨tk, fn, ef, pl, vs, cc, lp, ln⟩ => ?_, fun ⟨e, hI, hx⟩ => ?_⟩
  · have cp : 0 ≤ A 1 (A 1 (rt A 2 k)) := by
      by_cases c : 0 ≤ A 1 (A 1 (rt A 2 k))
      · exact c
      · have lz := pl_L hB h b2.1 b2.2 pl
        rcases DM_at hB.1.1 b2.1 b2.2 (by omega) with ⟨-, m, q⟩ | ⟨-, v, q⟩
        · rw [q] at pl
          cases pl
        · rw [q] at ef
          have z : sp_fb Fb (.var 31361) = some fn := ef
          have w := (fb_iff (k := 0) hB h (by decide) (by have := hB.1.2.1.1; omega)).mp (by rw [DM_0 h.1, z]; simp)
          obtain ⟨e, e0, e1, e2⟩ := w
          have := (hB.2.2.1.2.1 e e0 e1).1
          omega
    have qc2 := qc.2.2.2.2 cp
    rw [pr cp] at ef vs lp pl
    have ef : sp_fb Fb (DM A N (A 1 (A 1 (rt A 2 k)))) = some fn := ef
    have vs : sp_vs 6 (DM A N (A 2 (A 1 (rt A 2 k)))) := vs
    have lp : (sp_as (DM A N (A 2 (A 1 (rt A 2 k))))).length = fn.2.1.length := lp
    obtain ⟨e, e0, e1, e2, e3⟩ := fb_1st hB h (k := A 1 (A 1 (rt A 2 k))) cp (by omega) (by rw [ef]; simp)
    obtain ⟨v, ps, B, f1, f2, f3, f4, f5, f6, f7⟩ := fb_at hB h e0 e1 cp (by omega) e2 e3
    rw [ef] at f1
    injection f1 with f1
    rw [f1] at cc lp ln
    have cc : (sp_cc v B).1 ≠ [] := cc
    have lp : (sp_as (DM A N (A 2 (A 1 (rt A 2 k))))).length = ps.length := lp
    have ln : n = (sp_ph B).length + 3 := ln
    have De := hB.2.2.1.2.1 e e0 e1
    have pl2 : ps.length = (A 21 e).toNat := by
      rw [f5]
      unfold VsP
      rw [List.length_map, List.length_range]
    have lv := pl_L hB h (k := A 2 (A 1 (rt A 2 k))) qc.2.2.1 (by omega) vs.1
    rw [lp, pl2] at lv
    have vv := (vs_iff hB h qc.2.2.1 (by omega) lv).mp vs
    have cnt := PS_ph (ar := ar) hB.1.1 hB.1.2.1 h.1 hB.2.1.1.1.1 _ (A 23 e) (Nat.lt_succ_self _) De.2.2.2.1.1 De.2.2.2.1.2 De.2.2.2.2.1.1
    rw [f4] at cnt
    refine ⟨e, ⟨n, hL, n3, tk, ⟨cp, e0, e1, e2, e3⟩, ⟨lv, fun j hj => vv.2.1 j (by omega)⟩, by omega⟩, fun i j ij hj => vv.2.2 i j ij hj, f7.mpr cc⟩
  · obtain ⟨n', hL', n3', tk, ⟨cp, e0, e1, e2, e3⟩, ⟨lv, lV⟩, nn⟩ := hI
    have en := isL_uq n0 n' n k hL' hL
    subst en
    have qc2 := qc.2.2.2.2 cp
    have De := hB.2.2.1.2.1 e e0 e1
    obtain ⟨v, ps, B, f1, f2, f3, f4, f5, f6, f7⟩ := fb_at hB h e0 e1 cp (by omega) e2 e3
    have pl2 : ps.length = (A 21 e).toNat := by
      rw [f5]
      unfold VsP
      rw [List.length_map, List.length_range]
    have cnt := PS_ph (ar := ar) hB.1.1 hB.1.2.1 h.1 hB.2.1.1.1.1 _ (A 23 e) (Nat.lt_succ_self _) De.2.2.2.1.1 De.2.2.2.1.2 De.2.2.2.2.1.1
    rw [f4] at cnt
    have vs := (vs_iff hB h qc.2.2.1 (by omega) lv).mpr ⟨by have := De.2.1.2.1; omega, fun j hj => lV j (by omega), fun i j ij hj => hx.1 i j ij hj⟩
    rw [pr cp]
    refine ⟨tk, (v, ps, B), f1, vs.1, vs, f7.mp hx.2, ?_, ?_⟩
    · show (sp_as (DM A N (A 2 (A 1 (rt A 2 k))))).length = ps.length
      rw [L_len hB h qc.2.2.1 (by omega) lv, pl2]
    · show n' = (sp_ph B).length + 3
      omega
theorem fox_gd (hB : BI ar I A N) (h : BTX ar ft Fb Tb I A N) (k0 : 0 ≤ o) (k1 : o < I 7) (hF : FOX ar ft I A N o) : sp_gd ft Fb (sp_hc (DM A N (A 1 o))) (DM A N o) := by
  have hP := BI_P hB
  obtain ⟨n, hL, n1, hF⟩ := hF
  have ln := L_len hB h k0 k1 hL
  have p0 := isL_step n 0 o hL (by omega)
  have p0 : 0 ≤ A 1 o := p0
  have qo := hP.2 o k0 k1
  have qo2 := qo.2.2.2.2 p0
  have hd : ∀ x : Nat, x < 44 → mNm.getD x 0 ≠ 0 → sp_hc (DM A N (A 1 o)) = mNm.getD x 0 → A 1 o = x := fun x hx h0 e => hd_num hB h p0 (by omega) hx h0 e
  refine ⟨fun e => ?_, fun e => ?_, fun e => ?_, fun e => ?_, fun e => ?_, fun e => ?_⟩
  · have a := hd 39 (by decide) (by decide) e
    rcases hF with q | q | q | q | q | q | ⟨-, q, r⟩ | q | q | q | q | q
    · omega
    · omega
    · omega
    · omega
    · omega
    · omega
    · have b := (VD_rt hP k0 k1 hL (by omega : 1 < n)).2.1
      refine ⟨by omega, ?_⟩
      unfold sp_fw
      rw [L_p hB h k0 k1 hL (by omega : 1 < n)]
      exact (fw_iff hB h b.1 b.2).mpr r
    · omega
    · omega
    · omega
    · omega
    · omega
  · have a := hd 40 (by decide) (by decide) e
    rcases hF with q | q | q | q | q | q | q | ⟨-, q, r⟩ | q | q | q | q
    · omega
    · omega
    · omega
    · omega
    · omega
    · omega
    · omega
    · have b := (VD_rt hP k0 k1 hL (by omega : 1 < n)).2.1
      rw [L_p hB h k0 k1 hL (by omega : 1 < n)]
      exact ⟨by omega, (tm_iff hB h b.1 b.2).mpr r⟩
    · omega
    · omega
    · omega
    · omega
  · have a := hd 41 (by decide) (by decide) e
    rcases hF with q | q | q | q | q | q | q | q | ⟨-, q, r⟩ | q | q | q
    · omega
    · omega
    · omega
    · omega
    · omega
    · omega
    · omega
    · omega
    · exact ⟨by omega, (fi_iff hB h k0 k1 hL q).mpr r⟩
    · omega
    · omega
    · omega
  · have a := hd 42 (by decide) (by decide) e
    rcases hF with q | q | q | q | q | q | q | q | q | q | q | q
    all_goals omega
  · have a := hd 43 (by decide) (by decide) e
    rcases hF with q | q | q | q | q | q | q | q | q | q | q | q
    all_goals omega
  · have a := hd 27 (by decide) (by decide) e
    rcases hF with q | q | q | q | q | q | q | q | q | q | q | ⟨-, r⟩
    · omega
    · omega
    · omega
    · omega
    · omega
    · omega
    · omega
    · omega
    · omega
    · omega
    · omega
    · have n3 : 3 ≤ n := by
        obtain ⟨e, ⟨n', hL', n3, -⟩, -⟩ := r
        rw [isL_uq (BI_n0 hB) n n' o hL hL']
        exact n3
      exact ⟨by omega, (fd_iff hB h k0 k1 hL n3).mpr r⟩
end FXS
