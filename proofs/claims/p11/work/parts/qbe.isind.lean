theorem mi_zld {P : xx_P} {d k pc a n : Nat} {ls : xx_L} {r : List Value} {hp : xx_H} {Q : Option Value → xx_H → Prop} {e : Int} {f : Int → Int} (hc : xp_code P k pc = some .baload) (hh : hp[a]? = some (.inl (.boolean, xa_f n f))) (h1 : 0 ≤ e) (h2 : e < n) (hn : n ≤ 1000000) (hg : xx_go P d k (pc + 1) ls (.int (iI (f e)) :: r) hp Q) : xx_go P d k pc ls (.int (iI e) :: .ref a :: r) hp Q := go_zld hc hh (iI_nn h1 (by omega)) (iI_clamp h1 (by omega)) (xa_f_get h1 h2) hg
theorem mm_definitionF_loop (z : Value) (d : Nat) (n : Int) (h R : xx_H) (I : Nat → Int) (A : Nat → Int → Int) (N : Int → Int) (hc : 12 ≤ h.length) (n0 : -1 ≤ n) (n1 : n < 140000) (d0 : 0 ≤ I 32) (d1 : I 32 ≤ 40) (rd : ∀ e : Int, 0 ≤ e → e < I 32 → 0 ≤ A 20 e ∧ A 20 e < 140000) : ∀ (f : Nat) (j : Int), (I 32 - j).toNat ≤ f → 0 ≤ j → j ≤ I 32 → (∀ e : Int, 0 ≤ e → e < j → A 20 e ≠ n) → xx_go (xt_P z) d 132 2 [some (.ref h.length), some (.int (iI n)), some (.int (iI j))] [] (mh h R I A N) (fun v h1 => (∃ x : Int, v = some (.int (iI x)) ∧ ((x = -1 ∧ ∀ e : Int, 0 ≤ e → e < I 32 → A 20 e ≠ n) ∨ (0 ≤ x ∧ x < I 32 ∧ A 20 x = n ∧ ∀ e : Int, 0 ≤ e → e < x → A 20 e ≠ n))) ∧ h1 = mh h R I A N) := by
  intro f
  induction f with
  | zero =>
    intro j hf j0 j9 hj
    refine go_a (pc' := 3) (ls' := [some (.ref h.length), some (.int (iI n)), some (.int (iI j))]) (st' := [.int (iI j)]) rfl rfl ?_
    refine go_a (pc' := 4) (ls' := [some (.ref h.length), some (.int (iI n)), some (.int (iI j))]) (st' := [.ref h.length, .int (iI j)]) rfl rfl ?_
    refine go_get (v := .int (iI (I 32))) rfl mh_o rfl rfl ?_
    refine mi_ge (t := 28) rfl rfl (by omega) (by omega) (by omega) (by omega) (fun _ => ?_) (fun q => absurd (show I 32 ≤ j by omega) q)
    refine go_a (pc' := 29) (ls' := [some (.ref h.length), some (.int (iI n)), some (.int (iI j))]) (st' := [.int (iI ((-1)))]) rfl rfl ?_
    exact go_r rfl rfl rfl rfl rfl rfl ⟨⟨-1, rfl, Or.inl ⟨rfl, fun e e0 e1 => hj e e0 (by omega)⟩⟩, rfl⟩
  | succ f ih =>
    intro j hf j0 j9 hj
    refine go_a (pc' := 3) (ls' := [some (.ref h.length), some (.int (iI n)), some (.int (iI j))]) (st' := [.int (iI j)]) rfl rfl ?_
    refine go_a (pc' := 4) (ls' := [some (.ref h.length), some (.int (iI n)), some (.int (iI j))]) (st' := [.ref h.length, .int (iI j)]) rfl rfl ?_
    refine go_get (v := .int (iI (I 32))) rfl mh_o rfl rfl ?_
    refine mi_ge (t := 28) rfl rfl (by omega) (by omega) (by omega) (by omega) (fun q => ?_) (fun q => ?_)
    · refine go_a (pc' := 29) (ls' := [some (.ref h.length), some (.int (iI n)), some (.int (iI j))]) (st' := [.int (iI ((-1)))]) rfl rfl ?_
      exact go_r rfl rfl rfl rfl rfl rfl ⟨⟨-1, rfl, Or.inl ⟨rfl, fun e e0 e1 => hj e e0 (by omega)⟩⟩, rfl⟩
    · have r := rd j j0 (by omega)
      refine go_a (pc' := 11) (ls' := [some (.ref h.length), some (.int (iI n)), some (.int (iI j))]) (st' := [.ref h.length]) rfl rfl ?_
      refine go_get rfl mh_o rfl rfl ?_
      refine go_a (pc' := 15) (ls' := [some (.ref h.length), some (.int (iI n)), some (.int (iI j))]) (st' := [.int (iI j), .ref (h.length + 20)]) rfl rfl ?_
      refine mi_ild rfl mh_a20 (by omega) (by omega) (by decide) ?_
      refine go_a (pc' := 17) (ls' := [some (.ref h.length), some (.int (iI n)), some (.int (iI j))]) (st' := [.int (iI n), .int (iI (A 20 j))]) rfl rfl ?_
      refine mi_ne (t := 22) rfl rfl (by omega) (by omega) (by omega) (by omega) (fun e => ?_) (fun e => ?_)
      · refine go_a (pc' := 25) (ls' := [some (.ref h.length), some (.int (iI n)), some (.int (iI (j + 1)))]) (st' := []) rfl (by rw [← iI_add j 1]; rfl) ?_
        refine go_a (pc' := 2) (ls' := [some (.ref h.length), some (.int (iI n)), some (.int (iI (j + 1)))]) (st' := []) rfl rfl ?_
        refine ih (j + 1) (by omega) (by omega) (by omega) (fun u u0 u1 => ?_)
        by_cases v : u = j
        · rw [v]
          omega
        · exact hj u u0 (by omega)
      · refine go_a (pc' := 21) (ls' := [some (.ref h.length), some (.int (iI n)), some (.int (iI j))]) (st' := [.int (iI j)]) rfl rfl ?_
        exact go_r rfl rfl rfl rfl rfl rfl ⟨⟨j, rfl, Or.inr ⟨j0, by omega, by omega, hj⟩⟩, rfl⟩
theorem mm_definitionF (z : Value) (d : Nat) (n : Int) (h R : xx_H) (I : Nat → Int) (A : Nat → Int → Int) (N : Int → Int) (hc : 12 ≤ h.length) (n0 : -1 ≤ n) (n1 : n < 140000) (d0 : 0 ≤ I 32) (d1 : I 32 ≤ 40) (rd : ∀ e : Int, 0 ≤ e → e < I 32 → 0 ≤ A 20 e ∧ A 20 e < 140000) : xx_cl (xt_P z) (d + 1) 132 [.ref h.length, .int (iI n)] (mh h R I A N) (fun v h1 => (∃ x : Int, v = some (.int (iI x)) ∧ ((x = -1 ∧ ∀ e : Int, 0 ≤ e → e < I 32 → A 20 e ≠ n) ∨ (0 ≤ x ∧ x < I 32 ∧ A 20 x = n ∧ ∀ e : Int, 0 ≤ e → e < x → A 20 e ≠ n))) ∧ h1 = mh h R I A N) := by
  refine cl_go rfl ?_
  show xx_go (xt_P z) d 132 0 [some (.ref h.length), some (.int (iI n)), none] [] (mh h R I A N) _
  refine go_a (pc' := 1) (ls' := [some (.ref h.length), some (.int (iI n)), none]) (st' := [.int (iI 0)]) rfl rfl ?_
  refine go_a (pc' := 2) (ls' := [some (.ref h.length), some (.int (iI n)), some (.int (iI 0))]) (st' := []) rfl rfl ?_
  exact mm_definitionF_loop z d n h R I A N hc n0 n1 d0 d1 rd _ 0 (Nat.le_refl _) (Int.le_refl _) d0 (fun e e0 e1 => absurd e1 (by omega))
theorem mm_theoremOfF_loop (z : Value) (d : Nat) (n : Int) (h R : xx_H) (I : Nat → Int) (A : Nat → Int → Int) (N : Int → Int) (hc : 12 ≤ h.length) (n0 : -1 ≤ n) (n1 : n < 140000) (d0 : 0 ≤ I 38) (d1 : I 38 ≤ 60) (rd : ∀ e : Int, 0 ≤ e → e < I 38 → 0 ≤ A 25 e ∧ A 25 e < 140000) : ∀ (f : Nat) (j : Int), (I 38 - j).toNat ≤ f → 0 ≤ j → j ≤ I 38 → (∀ e : Int, 0 ≤ e → e < j → A 25 e ≠ n) → xx_go (xt_P z) d 135 2 [some (.ref h.length), some (.int (iI n)), some (.int (iI j))] [] (mh h R I A N) (fun v h1 => (∃ x : Int, v = some (.int (iI x)) ∧ ((x = -1 ∧ ∀ e : Int, 0 ≤ e → e < I 38 → A 25 e ≠ n) ∨ (0 ≤ x ∧ x < I 38 ∧ A 25 x = n ∧ ∀ e : Int, 0 ≤ e → e < x → A 25 e ≠ n))) ∧ h1 = mh h R I A N) := by
  intro f
  induction f with
  | zero =>
    intro j hf j0 j9 hj
    refine go_a (pc' := 3) (ls' := [some (.ref h.length), some (.int (iI n)), some (.int (iI j))]) (st' := [.int (iI j)]) rfl rfl ?_
    refine go_a (pc' := 4) (ls' := [some (.ref h.length), some (.int (iI n)), some (.int (iI j))]) (st' := [.ref h.length, .int (iI j)]) rfl rfl ?_
    refine go_get (v := .int (iI (I 38))) rfl mh_o rfl rfl ?_
    refine mi_ge (t := 28) rfl rfl (by omega) (by omega) (by omega) (by omega) (fun _ => ?_) (fun q => absurd (show I 38 ≤ j by omega) q)
    refine go_a (pc' := 29) (ls' := [some (.ref h.length), some (.int (iI n)), some (.int (iI j))]) (st' := [.int (iI ((-1)))]) rfl rfl ?_
    exact go_r rfl rfl rfl rfl rfl rfl ⟨⟨-1, rfl, Or.inl ⟨rfl, fun e e0 e1 => hj e e0 (by omega)⟩⟩, rfl⟩
  | succ f ih =>
    intro j hf j0 j9 hj
    refine go_a (pc' := 3) (ls' := [some (.ref h.length), some (.int (iI n)), some (.int (iI j))]) (st' := [.int (iI j)]) rfl rfl ?_
    refine go_a (pc' := 4) (ls' := [some (.ref h.length), some (.int (iI n)), some (.int (iI j))]) (st' := [.ref h.length, .int (iI j)]) rfl rfl ?_
    refine go_get (v := .int (iI (I 38))) rfl mh_o rfl rfl ?_
    refine mi_ge (t := 28) rfl rfl (by omega) (by omega) (by omega) (by omega) (fun q => ?_) (fun q => ?_)
    · refine go_a (pc' := 29) (ls' := [some (.ref h.length), some (.int (iI n)), some (.int (iI j))]) (st' := [.int (iI ((-1)))]) rfl rfl ?_
      exact go_r rfl rfl rfl rfl rfl rfl ⟨⟨-1, rfl, Or.inl ⟨rfl, fun e e0 e1 => hj e e0 (by omega)⟩⟩, rfl⟩
    · have r := rd j j0 (by omega)
      refine go_a (pc' := 11) (ls' := [some (.ref h.length), some (.int (iI n)), some (.int (iI j))]) (st' := [.ref h.length]) rfl rfl ?_
      refine go_get rfl mh_o rfl rfl ?_
      refine go_a (pc' := 15) (ls' := [some (.ref h.length), some (.int (iI n)), some (.int (iI j))]) (st' := [.int (iI j), .ref (h.length + 25)]) rfl rfl ?_
      refine mi_ild rfl mh_a25 (by omega) (by omega) (by decide) ?_
      refine go_a (pc' := 17) (ls' := [some (.ref h.length), some (.int (iI n)), some (.int (iI j))]) (st' := [.int (iI n), .int (iI (A 25 j))]) rfl rfl ?_
      refine mi_ne (t := 22) rfl rfl (by omega) (by omega) (by omega) (by omega) (fun e => ?_) (fun e => ?_)
      · refine go_a (pc' := 25) (ls' := [some (.ref h.length), some (.int (iI n)), some (.int (iI (j + 1)))]) (st' := []) rfl (by rw [← iI_add j 1]; rfl) ?_
        refine go_a (pc' := 2) (ls' := [some (.ref h.length), some (.int (iI n)), some (.int (iI (j + 1)))]) (st' := []) rfl rfl ?_
        refine ih (j + 1) (by omega) (by omega) (by omega) (fun u u0 u1 => ?_)
        by_cases v : u = j
        · rw [v]
          omega
        · exact hj u u0 (by omega)
      · refine go_a (pc' := 21) (ls' := [some (.ref h.length), some (.int (iI n)), some (.int (iI j))]) (st' := [.int (iI j)]) rfl rfl ?_
        exact go_r rfl rfl rfl rfl rfl rfl ⟨⟨j, rfl, Or.inr ⟨j0, by omega, by omega, hj⟩⟩, rfl⟩
theorem mm_theoremOfF (z : Value) (d : Nat) (n : Int) (h R : xx_H) (I : Nat → Int) (A : Nat → Int → Int) (N : Int → Int) (hc : 12 ≤ h.length) (n0 : -1 ≤ n) (n1 : n < 140000) (d0 : 0 ≤ I 38) (d1 : I 38 ≤ 60) (rd : ∀ e : Int, 0 ≤ e → e < I 38 → 0 ≤ A 25 e ∧ A 25 e < 140000) : xx_cl (xt_P z) (d + 1) 135 [.ref h.length, .int (iI n)] (mh h R I A N) (fun v h1 => (∃ x : Int, v = some (.int (iI x)) ∧ ((x = -1 ∧ ∀ e : Int, 0 ≤ e → e < I 38 → A 25 e ≠ n) ∨ (0 ≤ x ∧ x < I 38 ∧ A 25 x = n ∧ ∀ e : Int, 0 ≤ e → e < x → A 25 e ≠ n))) ∧ h1 = mh h R I A N) := by
  refine cl_go rfl ?_
  show xx_go (xt_P z) d 135 0 [some (.ref h.length), some (.int (iI n)), none] [] (mh h R I A N) _
  refine go_a (pc' := 1) (ls' := [some (.ref h.length), some (.int (iI n)), none]) (st' := [.int (iI 0)]) rfl rfl ?_
  refine go_a (pc' := 2) (ls' := [some (.ref h.length), some (.int (iI n)), some (.int (iI 0))]) (st' := []) rfl rfl ?_
  exact mm_theoremOfF_loop z d n h R I A N hc n0 n1 d0 d1 rd _ 0 (Nat.le_refl _) (Int.le_refl _) d0 (fun e e0 e1 => absurd e1 (by omega))
def FI (j : Nat) : Prop := j = 54 ∨ j = 56 ∨ j = 71 ∨ j = 49
def GI (a : Nat) : Prop := (29 ≤ a ∧ a ≤ 32) ∨ (39 ≤ a ∧ a ≤ 44)
def IND (ar : Int → Int) (I : Nat → Int) (A : Nat → Int → Int) (o e : Int) : Prop := ∃ n : Nat, isL A n o ∧ 3 ≤ n ∧ TOK A ar (A 1 (rt A 1 o)) ∧ (0 ≤ A 1 (A 1 (rt A 2 o)) ∧ (0 ≤ e ∧ e < I 32 ∧ A 20 e = A 1 (A 1 (rt A 2 o)) ∧ ∀ u : Int, 0 ≤ u → u < e → A 20 u ≠ A 1 (A 1 (rt A 2 o)))) ∧ (isL A (A 21 e).toNat (A 2 (A 1 (rt A 2 o))) ∧ ∀ j : Nat, (j : Int) < A 21 e → A 1 (A 1 (rt A j (A 2 (A 1 (rt A 2 o))))) = -2 ∧ 1 < A 1 (rt A j (A 2 (A 1 (rt A 2 o))))) ∧ (n : Int) = 3 + PS A (fun _ => 1) (A 23 e)
def IDX (A : Nat → Int → Int) (o e : Int) : Prop := (∀ i j : Nat, i < j → j < (A 21 e).toNat → A 1 (rt A i (A 2 (A 1 (rt A 2 o)))) ≠ A 1 (rt A j (A 2 (A 1 (rt A 2 o))))) ∧ A 24 e ≠ 0
theorem VSQ_ext {F G : Nat → Prop} {I I1 : Nat → Int} {A A1 : Nat → Int → Int} {N N1 : Int → Int} {l u : Int} (hP : PW I A) (x : BX F G I A N I1 A1 N1) (l0 : 0 ≤ l) (l1 : l < I 7) (h : VSQ A l u) : VSQ A1 l u := by
  obtain ⟨m, hL, mu, hv, hd⟩ := h
  have it : ∀ j : Nat, j < m → A1 1 (rt A1 j l) = A 1 (rt A j l) ∧ (0 ≤ A 1 (rt A j l) ∧ A 1 (rt A j l) < I 7) := fun j hj => by
    have r := isL_rt hP m j l l0 l1 hL hj
    have q := hP.2 _ r.1 (by omega : rt A j l < I 7)
    refine ⟨?_, r.2.2, by omega⟩
    rw [rt_ext hP x m j l l0 l1 hL (by omega), (x.2.2.1 _ r.1 (by omega)).1]
  refine ⟨m, isL_ext hP (fun k a b => ⟨(x.2.2.1 k a b).1, (x.2.2.1 k a b).2.1⟩) m l l0 l1 hL, mu, fun j hj => ?_, fun i j ij jm => ?_⟩
  · have a := it j (by omega)
    rw [a.1, (x.2.2.1 _ a.2.1 a.2.2).1]
    exact hv j hj
  · rw [(it i (by omega)).1, (it j jm).1]
    exact hd i j ij jm
theorem DFS_rd {ar : Int → Int} {I : Nat → Int} {A : Nat → Int → Int} {N : Int → Int} (hB : BI ar I A N) : (0 ≤ I 32 ∧ I 32 ≤ 40) ∧ ∀ e : Int, 0 ≤ e → e < I 32 → 0 ≤ A 20 e ∧ A 20 e < 140000 := by
  have d := hB.2.2.1
  have p := (BI_P hB).1
  refine ⟨d.1.1, fun e e0 e1 => ?_⟩
  have q := (d.2.1 e e0 e1).1
  omega
theorem SG_one {f : Int → Int} : ∀ n : Nat, SG (fun _ => 1) f n = n
  | 0 => rfl
  | n + 1 => by
    show SG (fun _ => 1) f n + 1 = _
    rw [SG_one n]
    omega
theorem isL_back {F G : Nat → Prop} {I I1 : Nat → Int} {A A1 : Nat → Int → Int} {N N1 : Int → Int} (hP : PW I A) (x : BX F G I A N I1 A1 N1) : ∀ (m : Nat) (k : Int), 0 ≤ k → k < I 7 → isL A1 m k → isL A m k
  | 0, _, _, _, h => h
  | m + 1, k, h0, h1, h => by
    have p := x.2.2.1 k h0 h1
    have q := hP.2 k h0 h1
    have a := h.1
    have b := h.2
    rw [p.1] at a
    rw [p.2.1] at b
    have q2 := q.2.2.2.2 a
    exact ⟨a, isL_back hP x m (A 2 k) (by omega) (by omega) b⟩
theorem mm_isInduction (z : Value) (d : Nat) (ar : Int → Int) (ft : Nat → Int) (FB9 : List (Nat × List Nat × ob_T)) (TB9 : List (Nat × ob_T)) (o : Int) (h R : xx_H) (I : Nat → Int) (A : Nat → Int → Int) (N : Int → Int) (hc : 12 ≤ h.length) (hB : BI ar I A N) (hT : BTX ar ft FB9 TB9 I A N) (k0 : 0 ≤ o) (k1 : o < I 7) (w : VD A o ≤ 1000) (ho : I 7 + 2 * VD A o + 600 ≤ 140000) : xx_cl (xt_P z) (d + 10) 150 [.ref h.length, .int (iI o)] (mh h R I A N) (fun v h1 => ∃ (I1 : Nat → Int) (A1 : Nat → Int → Int), h1 = mh h R I1 A1 N ∧ BX FI GI I A N I1 A1 N ∧ BI ar I1 A1 N ∧ (True → I1 49 = I 49) ∧ ((v = some (.int (iI 0)) ∧ I1 7 ≤ I 7 + 2 * VD A o + 480 ∧ ¬ ∃ e : Int, IND ar I A o e ∧ IDX A o e) ∨ (v = some (.int (iI 1)) ∧ ∃ e : Int, IND ar I A o e ∧ I1 7 ≤ I 7 + 2 * WD A (A 1 (rt A 1 o)) - 2 + 4 * (PS A (fun _ => 1) (A 23 e) - 1) ∧ IDX A o e))) := by
  have hP := BI_P hB
  have p1 := hP.1
  have n0 := BI_n0 hB
  have v0 := VD_nn A o
  have bad : ∀ (I1 : Nat → Int) (A1 : Nat → Int → Int), SX ar (2 * WD A (A 1 (rt A 1 o)) - 2) I A N I1 A1 → BX FI GI I A N I1 A1 N := fun I1 A1 X => BX_w2 (fun j q => by unfold FB at q; unfold FI; omega) (fun j q => by unfold GT at q; unfold GI; omega) X.1
  refine cl_go rfl ?_
  show xx_go (xt_P z) (d + 9) 150 0 [some (.ref h.length), some (.int (iI o)), none, none, none] [] (mh h R I A N) _
  refine go_a (pc' := 1) (ls' := [some (.ref h.length), some (.int (iI o)), none, none, none]) (st' := [.ref h.length]) rfl rfl ?_
  refine go_a (pc' := 2) (ls' := [some (.ref h.length), some (.int (iI o)), none, none, none]) (st' := [.int (iI o), .ref h.length]) rfl rfl ?_
  refine go_v (m := 98) (as := [.ref h.length, .int (iI o)]) (r := []) rfl rfl rfl mh_o rfl rfl (mm_len2 z (d + 7) o h R I A N hc hP n0 k0 k1) (fun v h1 hq => ?_)
  obtain ⟨⟨c, rfl, hcc⟩, rfl⟩ := hq
  have cr : -1 ≤ c ∧ c < 140000 := by
    rcases hcc with ⟨q, -⟩ | ⟨q, hq, hl⟩
    · omega
    · have := isL_len hP o.toNat q o (Nat.le_refl _) k0 k1 hl
      omega
  have wn : 0 ≤ WD A (A 1 (rt A 1 o)) := (wv_nn A _ _).1
  show xx_go (xt_P z) (d + 9) 150 5 [some (.ref h.length), some (.int (iI o)), none, none, none] [.int (iI c)] (mh h R I A N) _
  refine go_a (pc' := 6) (ls' := [some (.ref h.length), some (.int (iI o)), some (.int (iI c)), none, none]) (st' := []) rfl rfl ?_
  refine go_a (pc' := 7) (ls' := [some (.ref h.length), some (.int (iI o)), some (.int (iI c)), none, none]) (st' := [.int (iI c)]) rfl rfl ?_
  refine go_a (pc' := 8) (ls' := [some (.ref h.length), some (.int (iI o)), some (.int (iI c)), none, none]) (st' := [.int (iI 3), .int (iI c)]) rfl rfl ?_
  refine mi_lt (t := 25) rfl rfl (by omega) (by omega) (by omega) (by omega) (fun e => ?_) (fun e => ?_)
  · refine go_a (pc' := 26) (ls' := [some (.ref h.length), some (.int (iI o)), some (.int (iI c)), none, none]) (st' := [.int (iI 0)]) rfl rfl ?_
    have bnd : I 7 ≤ I 7 + 2 * VD A o + 480 := by omega
    exact go_r rfl rfl rfl rfl rfl rfl ⟨I, A, rfl, BX_rf hB.1.1, hB, fun _ => rfl, Or.inl ⟨rfl, bnd, fun ⟨e0, ⟨n2, l2, n3, t2, ⟨p2, i0, i1, i2, i3⟩, ⟨va, vb⟩, nn⟩, dj, rc⟩ => by rcases hcc with ⟨-, hn⟩ | ⟨q, hq, hl⟩; exact hn n2 l2; have := isL_uq n0 n2 q o l2 hl; omega⟩⟩
  · obtain ⟨n, rfl, hL⟩ : ∃ q : Nat, c = q ∧ isL A q o := by
      rcases hcc with ⟨q, -⟩ | q
      · omega
      · exact q
    have v1 := VD_rt hP k0 k1 hL (by omega : 0 < n)
    have v2 := VD_rt hP k0 k1 hL (by omega : 1 < n)
    have v3 := VD_rt hP k0 k1 hL (by omega : 2 < n)
    have v1e : VD A o = WD A (A 1 (rt A 0 o)) + VD A (rt A 1 o) := v1.1
    refine go_a (pc' := 12) (ls' := [some (.ref h.length), some (.int (iI o)), some (.int (iI ((n : Int)))), none, none]) (st' := [.ref h.length]) rfl rfl ?_
    refine go_a (pc' := 13) (ls' := [some (.ref h.length), some (.int (iI o)), some (.int (iI ((n : Int)))), none, none]) (st' := [.ref h.length, .ref h.length]) rfl rfl ?_
    refine go_a (pc' := 14) (ls' := [some (.ref h.length), some (.int (iI o)), some (.int (iI ((n : Int)))), none, none]) (st' := [.int (iI o), .ref h.length, .ref h.length]) rfl rfl ?_
    refine go_a (pc' := 15) (ls' := [some (.ref h.length), some (.int (iI o)), some (.int (iI ((n : Int)))), none, none]) (st' := [.int (iI 1), .int (iI o), .ref h.length, .ref h.length]) rfl rfl ?_
    refine go_v (m := 99) (as := [.ref h.length, .int (iI o), .int (iI 1)]) (r := [.ref h.length]) rfl rfl rfl mh_o rfl rfl (mm_nth z (d + 8) 1 n o h R I A N hc hP (by decide) k0 k1 hL (by omega)) (fun v h1 hq => ?_)
    obtain ⟨rfl, rfl⟩ := hq
    show xx_go (xt_P z) (d + 9) 150 18 [some (.ref h.length), some (.int (iI o)), some (.int (iI ((n : Int)))), none, none] [.int (iI (A 1 (rt A 1 o))), .ref h.length] (mh h R I A N) _
    refine go_v (m := 105) (as := [.ref h.length, .int (iI (A 1 (rt A 1 o)))]) (r := []) rfl rfl rfl mh_o rfl rfl (mm_termQ z (d + 1) ar (A 1 (rt A 1 o)) h R I A N hc hB v2.2.1.1 v2.2.1.2 (by omega) (by omega)) (fun v h1 hq => ?_)
    obtain ⟨t, I1, A1, rfl, rfl, Q⟩ := hq
    have X := TQ_SX Q
    have P1 := BI_P X.2.1
    have i9 := P1.1
    have x7 := X.1.2.1
    have c7 := X.2.2.2
    have bnd : I1 7 ≤ I 7 + 2 * VD A o + 480 := by omega
    have tr : -1 ≤ t ∧ t < 140000 := by
      rcases Q.2.2.2.2 with q | q
      · omega
      · omega
    show xx_go (xt_P z) (d + 9) 150 21 [some (.ref h.length), some (.int (iI o)), some (.int (iI ((n : Int)))), none, none] [.int (iI t)] (mh h R I1 A1 N) _
    refine go_a (pc' := 22) (ls' := [some (.ref h.length), some (.int (iI o)), some (.int (iI ((n : Int)))), none, none]) (st' := [.int (iI ((-1))), .int (iI t)]) rfl rfl ?_
    refine mi_ne (t := 27) rfl rfl (by omega) (by omega) (by omega) (by omega) (fun e2 => ?_) (fun e2 => ?_)
    · have tk : TOK A ar (A 1 (rt A 1 o)) := by
        rcases Q.2.2.2.2 with q | q
        · exact absurd q.1 e2
        · exact q.2.2.1
      have L1 := isL_ext hP (fun k a b => ⟨(X.1.2.2.1 k a b).1, (X.1.2.2.1 k a b).2.1⟩) n o k0 k1 hL
      have r2 := isL_rt hP n 2 o k0 k1 hL (by omega)
      have rx : A1 1 (rt A1 2 o) = (A 1 (rt A 2 o)) := by
        rw [rt_ext hP X.1 n 2 o k0 k1 hL (by omega), (X.1.2.2.1 _ r2.1 (by omega)).1]
      have cp := v3.2.1
      have ec := X.1.2.2.1 (A 1 (rt A 2 o)) cp.1 cp.2
      have qc := hP.2 (A 1 (rt A 2 o)) cp.1 cp.2
      refine go_a (pc' := 28) (ls' := [some (.ref h.length), some (.int (iI o)), some (.int (iI ((n : Int)))), none, none]) (st' := [.ref h.length]) rfl rfl ?_
      refine go_a (pc' := 29) (ls' := [some (.ref h.length), some (.int (iI o)), some (.int (iI ((n : Int)))), none, none]) (st' := [.int (iI o), .ref h.length]) rfl rfl ?_
      refine go_a (pc' := 30) (ls' := [some (.ref h.length), some (.int (iI o)), some (.int (iI ((n : Int)))), none, none]) (st' := [.int (iI 2), .int (iI o), .ref h.length]) rfl rfl ?_
      refine go_v (m := 99) (as := [.ref h.length, .int (iI o), .int (iI 2)]) (r := []) rfl rfl rfl mh_o rfl rfl (mm_nth z (d + 8) 2 n o h R I1 A1 N hc P1 (by decide) k0 (by omega) L1 (by omega)) (fun v h1 hq => ?_)
      obtain ⟨rfl, rfl⟩ := hq
      rw [rx]
      show xx_go (xt_P z) (d + 9) 150 33 [some (.ref h.length), some (.int (iI o)), some (.int (iI ((n : Int)))), none, none] [.int (iI (A 1 (rt A 2 o)))] (mh h R I1 A1 N) _
      refine go_a (pc' := 34) (ls' := [some (.ref h.length), some (.int (iI o)), some (.int (iI ((n : Int)))), some (.int (iI (A 1 (rt A 2 o)))), none]) (st' := []) rfl rfl ?_
      refine go_a (pc' := 35) (ls' := [some (.ref h.length), some (.int (iI o)), some (.int (iI ((n : Int)))), some (.int (iI (A 1 (rt A 2 o)))), none]) (st' := [.ref h.length]) rfl rfl ?_
      refine go_a (pc' := 36) (ls' := [some (.ref h.length), some (.int (iI o)), some (.int (iI ((n : Int)))), some (.int (iI (A 1 (rt A 2 o)))), none]) (st' := [.int (iI (A 1 (rt A 2 o))), .ref h.length]) rfl rfl ?_
      refine go_v (m := 96) (as := [.ref h.length, .int (iI (A 1 (rt A 2 o)))]) (r := []) rfl rfl rfl mh_o rfl rfl (mb_isPair z (d + 8) (A 1 (rt A 2 o)) h R I1 A1 N hc P1 cp.1 (by omega)) (fun v h1 hq => ?_)
      obtain ⟨⟨b, rfl, hb⟩, rfl⟩ := hq
      show xx_go (xt_P z) (d + 9) 150 39 [some (.ref h.length), some (.int (iI o)), some (.int (iI ((n : Int)))), some (.int (iI (A 1 (rt A 2 o)))), none] [.int (iI b)] (mh h R I1 A1 N) _
      refine mi_eq0 (t := 71) rfl rfl (by omega) (by omega) (fun e3 => ?_) (fun e3 => ?_)
      · refine go_a (pc' := 72) (ls' := [some (.ref h.length), some (.int (iI o)), some (.int (iI ((n : Int)))), some (.int (iI (A 1 (rt A 2 o)))), none]) (st' := [.int (iI 0)]) rfl rfl ?_
        exact go_r rfl rfl rfl rfl rfl rfl ⟨I1, A1, rfl, bad I1 A1 X, X.2.1, fun _ => X.2.2.1, Or.inl ⟨rfl, bnd, fun ⟨e0, ⟨n2, l2, n3, t2, ⟨p2, i0, i1, i2, i3⟩, ⟨va, vb⟩, nn⟩, dj, rc⟩ => by rw [ec.1] at hb; omega⟩⟩
      · have pc : 0 ≤ A 1 (A 1 (rt A 2 o)) := by
          rw [ec.1] at hb
          omega
        have qd := qc.2.2.2.2 pc
        refine go_a (pc' := 43) (ls' := [some (.ref h.length), some (.int (iI o)), some (.int (iI ((n : Int)))), some (.int (iI (A 1 (rt A 2 o)))), none]) (st' := [.ref h.length]) rfl rfl ?_
        refine go_a (pc' := 44) (ls' := [some (.ref h.length), some (.int (iI o)), some (.int (iI ((n : Int)))), some (.int (iI (A 1 (rt A 2 o)))), none]) (st' := [.ref h.length, .ref h.length]) rfl rfl ?_
        refine go_get rfl mh_o rfl rfl ?_
        refine go_a (pc' := 48) (ls' := [some (.ref h.length), some (.int (iI o)), some (.int (iI ((n : Int)))), some (.int (iI (A 1 (rt A 2 o)))), none]) (st' := [.int (iI (A 1 (rt A 2 o))), .ref (h.length + 1), .ref h.length]) rfl rfl ?_
        refine mi_ild rfl mh_a1 (by omega) (by omega) (by decide) ?_
        rw [ec.1]
        show xx_go (xt_P z) (d + 9) 150 49 [some (.ref h.length), some (.int (iI o)), some (.int (iI ((n : Int)))), some (.int (iI (A 1 (rt A 2 o)))), none] [.int (iI (A 1 (A 1 (rt A 2 o)))), .ref h.length] (mh h R I1 A1 N) _
        refine go_v (m := 100) (as := [.ref h.length, .int (iI (A 1 (A 1 (rt A 2 o))))]) (r := []) rfl rfl rfl mh_o rfl rfl (mb_isNewName z (d + 7) (A 1 (A 1 (rt A 2 o))) h R I1 A1 N hc P1 pc (by omega)) (fun v h1 hq => ?_)
        obtain ⟨⟨b2, rfl, hb2⟩, rfl⟩ := hq
        show xx_go (xt_P z) (d + 9) 150 52 [some (.ref h.length), some (.int (iI o)), some (.int (iI ((n : Int)))), some (.int (iI (A 1 (rt A 2 o)))), none] [.int (iI b2)] (mh h R I1 A1 N) _
        refine mi_eq0 (t := 71) rfl rfl (by omega) (by omega) (fun e4 => ?_) (fun e4 => ?_)
        · have eh := X.1.2.2.1 (A 1 (A 1 (rt A 2 o))) pc (by omega)
          refine go_a (pc' := 72) (ls' := [some (.ref h.length), some (.int (iI o)), some (.int (iI ((n : Int)))), some (.int (iI (A 1 (rt A 2 o)))), none]) (st' := [.int (iI 0)]) rfl rfl ?_
          exact go_r rfl rfl rfl rfl rfl rfl ⟨I1, A1, rfl, bad I1 A1 X, X.2.1, fun _ => X.2.2.1, Or.inl ⟨rfl, bnd, fun ⟨e0, ⟨n2, l2, n3, t2, ⟨p2, i0, i1, i2, i3⟩, ⟨va, vb⟩, nn⟩, dj, rc⟩ => by have df := hB.2.2.1.2.1 e0 i0 i1; have a1 := (hB.2.1.2 (A 20 e0) (by have := df.1; omega) (by have := df.2.1; omega)).2.1; have a2 := df.1; rw [eh.1] at hb2; rw [i2] at a1 a2; omega⟩⟩
        · refine go_a (pc' := 56) (ls' := [some (.ref h.length), some (.int (iI o)), some (.int (iI ((n : Int)))), some (.int (iI (A 1 (rt A 2 o)))), none]) (st' := [.ref h.length]) rfl rfl ?_
          refine go_a (pc' := 57) (ls' := [some (.ref h.length), some (.int (iI o)), some (.int (iI ((n : Int)))), some (.int (iI (A 1 (rt A 2 o)))), none]) (st' := [.ref h.length, .ref h.length]) rfl rfl ?_
          refine go_get rfl mh_o rfl rfl ?_
          refine go_a (pc' := 61) (ls' := [some (.ref h.length), some (.int (iI o)), some (.int (iI ((n : Int)))), some (.int (iI (A 1 (rt A 2 o)))), none]) (st' := [.int (iI (A 1 (rt A 2 o))), .ref (h.length + 2), .ref h.length]) rfl rfl ?_
          refine mi_ild rfl mh_a2 (by omega) (by omega) (by decide) ?_
          refine go_a (pc' := 65) (ls' := [some (.ref h.length), some (.int (iI o)), some (.int (iI ((n : Int)))), some (.int (iI (A 1 (rt A 2 o)))), none]) (st' := [.int (iI 1000), .int (iI (A1 2 (A 1 (rt A 2 o)))), .ref h.length]) rfl rfl ?_
          rw [ec.2.1]
          show xx_go (xt_P z) (d + 9) 150 65 [some (.ref h.length), some (.int (iI o)), some (.int (iI ((n : Int)))), some (.int (iI (A 1 (rt A 2 o)))), none] [.int (iI 1000), .int (iI (A 2 (A 1 (rt A 2 o)))), .ref h.length] (mh h R I1 A1 N) _
          refine go_v (m := 103) (as := [.ref h.length, .int (iI (A 2 (A 1 (rt A 2 o)))), .int (iI 1000)]) (r := []) rfl rfl rfl mh_o rfl rfl (mm_areVariables z (d + 6) (A 2 (A 1 (rt A 2 o))) 1000 h R I1 A1 N hc P1 (BI_n0 X.2.1) (by omega) (by omega) (by decide) (by decide)) (fun v h1 hq => ?_)
          obtain ⟨hv, rfl⟩ := hq
          rcases hv with ⟨rfl, nv⟩ | ⟨rfl, m, hLm, hm9, hvar, hdj⟩
          · show xx_go (xt_P z) (d + 9) 150 68 [some (.ref h.length), some (.int (iI o)), some (.int (iI ((n : Int)))), some (.int (iI (A 1 (rt A 2 o)))), none] [.int (iI 0)] (mh h R I1 A1 N) _
            refine mi_ne0 (t := 73) rfl rfl (by omega) (by omega) (fun q => absurd rfl q) (fun _ => ?_)
            have l0 : 0 ≤ A 2 (A 1 (rt A 2 o)) ∧ A 2 (A 1 (rt A 2 o)) < I 7 := by omega
            refine go_a (pc' := 72) (ls' := [some (.ref h.length), some (.int (iI o)), some (.int (iI ((n : Int)))), some (.int (iI (A 1 (rt A 2 o)))), none]) (st' := [.int (iI 0)]) rfl rfl ?_
            exact go_r rfl rfl rfl rfl rfl rfl ⟨I1, A1, rfl, bad I1 A1 X, X.2.1, fun _ => X.2.2.1, Or.inl ⟨rfl, bnd, fun ⟨e0, ⟨n2, l2, n3, t2, ⟨p2, i0, i1, i2, i3⟩, ⟨va, vb⟩, nn⟩, dj, rc⟩ => by have df := (hB.2.2.1.2.1 e0 i0 i1).2.1; exact nv (VSQ_ext hP X.1 l0.1 l0.2 ⟨_, va, by omega, fun j hj => vb j (by omega), dj⟩)⟩⟩
          · show xx_go (xt_P z) (d + 9) 150 68 [some (.ref h.length), some (.int (iI o)), some (.int (iI ((n : Int)))), some (.int (iI (A 1 (rt A 2 o)))), none] [.int (iI 1)] (mh h R I1 A1 N) _
            refine mi_ne0 (t := 73) rfl rfl (by omega) (by omega) (fun _ => ?_) (fun q => absurd (show ¬ (1 : Int) = 0 by decide) q)
            have rd := DFS_rd X.2.1
            refine go_a (pc' := 74) (ls' := [some (.ref h.length), some (.int (iI o)), some (.int (iI ((n : Int)))), some (.int (iI (A 1 (rt A 2 o)))), none]) (st' := [.ref h.length]) rfl rfl ?_
            refine go_a (pc' := 75) (ls' := [some (.ref h.length), some (.int (iI o)), some (.int (iI ((n : Int)))), some (.int (iI (A 1 (rt A 2 o)))), none]) (st' := [.ref h.length, .ref h.length]) rfl rfl ?_
            refine go_get rfl mh_o rfl rfl ?_
            refine go_a (pc' := 79) (ls' := [some (.ref h.length), some (.int (iI o)), some (.int (iI ((n : Int)))), some (.int (iI (A 1 (rt A 2 o)))), none]) (st' := [.int (iI (A 1 (rt A 2 o))), .ref (h.length + 1), .ref h.length]) rfl rfl ?_
            refine mi_ild rfl mh_a1 (by omega) (by omega) (by decide) ?_
            rw [ec.1]
            show xx_go (xt_P z) (d + 9) 150 80 [some (.ref h.length), some (.int (iI o)), some (.int (iI ((n : Int)))), some (.int (iI (A 1 (rt A 2 o)))), none] [.int (iI (A 1 (A 1 (rt A 2 o)))), .ref h.length] (mh h R I1 A1 N) _
            refine go_v (m := 132) (as := [.ref h.length, .int (iI (A 1 (A 1 (rt A 2 o))))]) (r := []) rfl rfl rfl mh_o rfl rfl (mm_definitionF z (d + 8) (A 1 (A 1 (rt A 2 o))) h R I1 A1 N hc (by omega) (by omega) rd.1.1 rd.1.2 rd.2) (fun v h1 hq => ?_)
            obtain ⟨⟨e9, rfl, he⟩, rfl⟩ := hq
            show xx_go (xt_P z) (d + 9) 150 83 [some (.ref h.length), some (.int (iI o)), some (.int (iI ((n : Int)))), some (.int (iI (A 1 (rt A 2 o)))), none] [.int (iI e9)] (mh h R I1 A1 N) _
            refine go_a (pc' := 85) (ls' := [some (.ref h.length), some (.int (iI o)), some (.int (iI ((n : Int)))), some (.int (iI (A 1 (rt A 2 o)))), some (.int (iI e9))]) (st' := []) rfl rfl ?_
            refine go_a (pc' := 87) (ls' := [some (.ref h.length), some (.int (iI o)), some (.int (iI ((n : Int)))), some (.int (iI (A 1 (rt A 2 o)))), some (.int (iI e9))]) (st' := [.int (iI e9)]) rfl rfl ?_
            refine go_a (pc' := 88) (ls' := [some (.ref h.length), some (.int (iI o)), some (.int (iI ((n : Int)))), some (.int (iI (A 1 (rt A 2 o)))), some (.int (iI e9))]) (st' := [.int (iI ((-1))), .int (iI e9)]) rfl rfl ?_
            have er : -1 ≤ e9 ∧ e9 < 40 := by
              rcases he with q | q
              · omega
              · omega
            refine mi_eq (t := 121) rfl rfl (by omega) (by omega) (by omega) (by omega) (fun e5 => ?_) (fun e5 => ?_)
            · have j32 : I1 32 = I 32 := X.1.2.2.2.1 32 (by decide) (by unfold FB; omega)
              have a20 : A1 20 = A 20 := X.1.2.2.2.2 20 (by decide) (by decide) (by decide) (by decide) (by decide) (by decide) (by unfold GT; omega)
              refine go_a (pc' := 122) (ls' := [some (.ref h.length), some (.int (iI o)), some (.int (iI ((n : Int)))), some (.int (iI (A 1 (rt A 2 o)))), some (.int (iI e9))]) (st' := [.int (iI 0)]) rfl rfl ?_
              exact go_r rfl rfl rfl rfl rfl rfl ⟨I1, A1, rfl, bad I1 A1 X, X.2.1, fun _ => X.2.2.1, Or.inl ⟨rfl, bnd, fun ⟨e0, ⟨n2, l2, n3, t2, ⟨p2, i0, i1, i2, i3⟩, ⟨va, vb⟩, nn⟩, dj, rc⟩ => by rcases he with ⟨-, hn⟩ | hq; exact hn e0 i0 (by rw [j32]; exact i1) (by rw [a20]; exact i2); omega⟩⟩
            · have he2 : 0 ≤ e9 ∧ e9 < I1 32 ∧ A1 20 e9 = A 1 (A 1 (rt A 2 o)) ∧ ∀ u : Int, 0 ≤ u → u < e9 → A1 20 u ≠ A 1 (A 1 (rt A 2 o)) := by
                rcases he with q | q
                · exact absurd q.1 e5
                · exact q
              have df := X.2.1.2.2.1.2.1 e9 he2.1 he2.2.1
              obtain ⟨d1, d2, d3, d4, d5, d6, d7⟩ := df
              have d7r : -1 ≤ A1 24 e9 ∧ A1 24 e9 ≤ 1 := by omega
              have j32x : I1 32 = I 32 := X.1.2.2.2.1 32 (by decide) (by unfold FB; omega)
              have a20x : A1 20 = A 20 := X.1.2.2.2.2 20 (by decide) (by decide) (by decide) (by decide) (by decide) (by decide) (by unfold GT; omega)
              have a21x : A1 21 = A 21 := X.1.2.2.2.2 21 (by decide) (by decide) (by decide) (by decide) (by decide) (by decide) (by unfold GT; omega)
              have a24x : A1 24 = A 24 := X.1.2.2.2.2 24 (by decide) (by decide) (by decide) (by decide) (by decide) (by decide) (by unfold GT; omega)
              have ue : ∀ e : Int, 0 ≤ e → e < I 32 → A 20 e = A 1 (A 1 (rt A 2 o)) → (∀ u : Int, 0 ≤ u → u < e → A 20 u ≠ A 1 (A 1 (rt A 2 o))) → e = e9 := fun e u0 u1 u2 u3 => by
                by_cases c1 : e < e9
                · exact absurd (by rw [a20x]; exact u2) (he2.2.2.2 e u0 c1)
                · by_cases c2 : e9 < e
                  · exact absurd (by rw [← a20x]; exact he2.2.2.1) (u3 e9 he2.1 c2)
                  · omega
              refine go_a (pc' := 92) (ls' := [some (.ref h.length), some (.int (iI o)), some (.int (iI ((n : Int)))), some (.int (iI (A 1 (rt A 2 o)))), some (.int (iI e9))]) (st' := [.ref h.length]) rfl rfl ?_
              refine go_get rfl mh_o rfl rfl ?_
              refine go_a (pc' := 97) (ls' := [some (.ref h.length), some (.int (iI o)), some (.int (iI ((n : Int)))), some (.int (iI (A 1 (rt A 2 o)))), some (.int (iI e9))]) (st' := [.int (iI e9), .ref (h.length + 24)]) rfl rfl ?_
              refine mi_zld rfl mh_a24 (by omega) (by omega) (by decide) ?_
              show xx_go (xt_P z) (d + 9) 150 98 [some (.ref h.length), some (.int (iI o)), some (.int (iI ((n : Int)))), some (.int (iI (A 1 (rt A 2 o)))), some (.int (iI e9))] [.int (iI (A1 24 e9))] (mh h R I1 A1 N) _
              refine mi_eq0 (t := 121) rfl rfl (by omega) (by omega) (fun e6 => ?_) (fun e6 => ?_)
              · refine go_a (pc' := 122) (ls' := [some (.ref h.length), some (.int (iI o)), some (.int (iI ((n : Int)))), some (.int (iI (A 1 (rt A 2 o)))), some (.int (iI e9))]) (st' := [.int (iI 0)]) rfl rfl ?_
                exact go_r rfl rfl rfl rfl rfl rfl ⟨I1, A1, rfl, bad I1 A1 X, X.2.1, fun _ => X.2.2.1, Or.inl ⟨rfl, bnd, fun ⟨e0, ⟨n2, l2, n3, t2, ⟨p2, i0, i1, i2, i3⟩, ⟨va, vb⟩, nn⟩, dj, rc⟩ => by have ee := ue e0 i0 i1 i2 i3; rw [ee, ← a24x] at rc; omega⟩⟩
              · refine go_a (pc' := 102) (ls' := [some (.ref h.length), some (.int (iI o)), some (.int (iI ((n : Int)))), some (.int (iI (A 1 (rt A 2 o)))), some (.int (iI e9))]) (st' := [.ref h.length]) rfl rfl ?_
                refine go_a (pc' := 103) (ls' := [some (.ref h.length), some (.int (iI o)), some (.int (iI ((n : Int)))), some (.int (iI (A 1 (rt A 2 o)))), some (.int (iI e9))]) (st' := [.ref h.length, .ref h.length]) rfl rfl ?_
                refine go_get rfl mh_o rfl rfl ?_
                refine go_a (pc' := 107) (ls' := [some (.ref h.length), some (.int (iI o)), some (.int (iI ((n : Int)))), some (.int (iI (A 1 (rt A 2 o)))), some (.int (iI e9))]) (st' := [.int (iI (A 1 (rt A 2 o))), .ref (h.length + 2), .ref h.length]) rfl rfl ?_
                refine mi_ild rfl mh_a2 (by omega) (by omega) (by decide) ?_
                rw [ec.2.1]
                show xx_go (xt_P z) (d + 9) 150 108 [some (.ref h.length), some (.int (iI o)), some (.int (iI ((n : Int)))), some (.int (iI (A 1 (rt A 2 o)))), some (.int (iI e9))] [.int (iI (A 2 (A 1 (rt A 2 o)))), .ref h.length] (mh h R I1 A1 N) _
                refine go_v (m := 98) (as := [.ref h.length, .int (iI (A 2 (A 1 (rt A 2 o))))]) (r := []) rfl rfl rfl mh_o rfl rfl (mm_lenL z (d + 7) m (A 2 (A 1 (rt A 2 o))) h R I1 A1 N hc P1 (BI_n0 X.2.1) (by omega) (by omega) hLm) (fun v h1 hq => ?_)
                obtain ⟨rfl, rfl⟩ := hq
                have ml := isL_len P1 (A 2 (A 1 (rt A 2 o))).toNat m _ (Nat.le_refl _) (by omega) (by omega) hLm
                show xx_go (xt_P z) (d + 9) 150 111 [some (.ref h.length), some (.int (iI o)), some (.int (iI ((n : Int)))), some (.int (iI (A 1 (rt A 2 o)))), some (.int (iI e9))] [.int (iI ((m : Int)))] (mh h R I1 A1 N) _
                refine go_a (pc' := 112) (ls' := [some (.ref h.length), some (.int (iI o)), some (.int (iI ((n : Int)))), some (.int (iI (A 1 (rt A 2 o)))), some (.int (iI e9))]) (st' := [.ref h.length, .int (iI ((m : Int)))]) rfl rfl ?_
                refine go_get rfl mh_o rfl rfl ?_
                refine go_a (pc' := 117) (ls' := [some (.ref h.length), some (.int (iI o)), some (.int (iI ((n : Int)))), some (.int (iI (A 1 (rt A 2 o)))), some (.int (iI e9))]) (st' := [.int (iI e9), .ref (h.length + 21), .int (iI ((m : Int)))]) rfl rfl ?_
                refine mi_ild rfl mh_a21 (by omega) (by omega) (by decide) ?_
                refine mi_eq (t := 123) rfl rfl (by omega) (by omega) (by omega) (by omega) (fun e7 => ?_) (fun e7 => ?_)
                · have b4 := X.2.1.2.2.2.1
                  have ar3 : ar 3 = 3 := hB.2.1.1.1.1
                  have ar15 : ar 15 = 1 := hB.2.1.1.1.2.2 15 (by decide) (by decide)
                  have T1 := BTX_BX hB hT X.1 FB_FQ GT_GQ
                  have fl := T1.2.2.2.1.1
                  obtain ⟨_, _, _, _, _, _, _, hs9, -⟩ := T1.2.2.2.2.1 e9.toNat (by omega)
                  rw [show ((e9.toNat : Nat) : Int) = e9 by omega] at hs9
                  refine go_a (pc' := 124) (ls' := [some (.ref h.length), some (.int (iI o)), some (.int (iI ((n : Int)))), some (.int (iI (A 1 (rt A 2 o)))), some (.int (iI e9))]) (st' := [.ref h.length]) rfl rfl ?_
                  refine go_a (pc' := 125) (ls' := [some (.ref h.length), some (.int (iI o)), some (.int (iI ((n : Int)))), some (.int (iI (A 1 (rt A 2 o)))), some (.int (iI e9))]) (st' := [.ref h.length, .ref h.length]) rfl rfl ?_
                  refine go_get rfl mh_o rfl rfl ?_
                  refine go_a (pc' := 130) (ls' := [some (.ref h.length), some (.int (iI o)), some (.int (iI ((n : Int)))), some (.int (iI (A 1 (rt A 2 o)))), some (.int (iI e9))]) (st' := [.int (iI e9), .ref (h.length + 23), .ref h.length]) rfl rfl ?_
                  refine mi_ild rfl mh_a23 (by omega) (by omega) (by decide) ?_
                  refine go_v (m := 122) (as := [.ref h.length, .int (iI (A1 23 e9))]) (r := []) rfl rfl rfl mh_o rfl rfl (mm_pathsOf z d ar (A1 23 e9) (TZ A1 ar (A1 23 e9)) h R I1 A1 N hc X.2.1.1.1 X.2.1.1.2.1 T1.1 ar3 ar15 (by omega) (by omega) (by omega) d5.2 X.2.1.1.2.2 hs9 d4.1 d4.2 d5.1 rfl X.2.1.2.2.2.2.1 X.2.1.2.2.2.2.2) (fun v h1 hq => ?_)
                  obtain ⟨rfl, I2, A2, rfl, PT, PX⟩ := hq
                  have cnt := PTI_cnt PT
                  obtain ⟨⟨Y, Z2⟩, ⟨u1, u2⟩, ⟨-, pp, p7⟩, hE, -, hG, -⟩ := id PT
                  have g1 := hG (fun _ => 1)
                  have g1 : SG (fun _ => 1) (A2 39) (I2 71).toNat + 0 = PS A1 (fun _ => 1) (A1 23 e9) := g1
                  rw [SG_one] at g1
                  have j32 : I1 32 = I 32 := X.1.2.2.2.1 32 (by decide) (by unfold FB; omega)
                  have a20 : A1 20 = A 20 := X.1.2.2.2.2 20 (by decide) (by decide) (by decide) (by decide) (by decide) (by decide) (by unfold GT; omega)
                  have a21 : A1 21 = A 21 := X.1.2.2.2.2 21 (by decide) (by decide) (by decide) (by decide) (by decide) (by decide) (by unfold GT; omega)
                  have a23 : A1 23 = A 23 := X.1.2.2.2.2 23 (by decide) (by decide) (by decide) (by decide) (by decide) (by decide) (by unfold GT; omega)
                  have dfA := hB.2.2.1.2.1 e9 he2.1 (by omega)
                  have psx : PS A1 (fun _ => 1) (A1 23 e9) = PS A (fun _ => 1) (A 23 e9) := by
                    rw [a23]
                    exact PS_extT hP n0 ar3 (fun k a b => ⟨(X.1.2.2.1 k a b).1, (X.1.2.2.1 k a b).2.1⟩) (fun _ _ _ _ => rfl) _ _ dfA.2.2.2.1.1 dfA.2.2.2.1.2 dfA.2.2.2.2.1.1
                  have BZ : BX FI GI I A N I2 A2 N := BX_tr (bad I1 A1 X) (BX_w2 (fun j q => by unfold FP at q; unfold FI; omega) (fun j q => by unfold GP at q; unfold GI; omega) Y)
                  have B2 : BI ar I2 A2 N := BI_QX X.2.1 (BX_w2 (fun j q => by unfold FP at q; unfold FQ; omega) (fun j q => by unfold GP at q; unfold GQ; omega) Y) Z2 (by rw [Y.2.2.2.1 54 (by decide) (by unfold FP; omega)]; exact b4.1) (by rw [Y.2.2.2.1 56 (by decide) (by unfold FP; omega)]; exact b4.2) u1
                  have nn9 : ∀ n2 : Nat, isL A n2 o → n2 = n := fun n2 l2 => isL_uq n0 n2 n o l2 hL
                  have bnd : I2 7 ≤ I 7 + 2 * VD A o + 480 := by omega
                  have hn9 : sp_arT ft (.var 31651) = 1 := by
                    have q := hT.2.1 15 (by decide) (by have := hB.1.2.1.1; omega)
                    rw [ar15, show DM A N 15 = .var 31651 from hT.1.2 15 (by decide)] at q
                    exact q.symm
                  have ww : True → I2 49 = I 49 := fun _ => by
                    by_cases q : I 49 = 0
                    · rw [q]
                      refine PXI_w PX (wok_all (ft := ft) hn9 ?_ ?_) (by rw [X.2.2.1]; exact q)
                      · rw [TS_1 X.2.1.1.1 X.2.1.1.2.1 T1.1 T1.2.1 d4.1 d4.2]
                        exact hs9
                      · rw [TZ_1 (ar := ar) X.2.1.1.1 X.2.1.1.2.1 T1.1 d4.1 d4.2 d5.1]
                        exact d5.2
                    · exact (u2 (by rw [X.2.2.1]; exact q)).trans X.2.2.1
                  have ww9 : ¬ I 49 = 0 → I2 49 = I 49 := fun q => (u2 (by rw [X.2.2.1]; exact q)).trans X.2.2.1
                  show xx_go (xt_P z) (d + 9) 150 134 [some (.ref h.length), some (.int (iI o)), some (.int (iI ((n : Int)))), some (.int (iI (A 1 (rt A 2 o)))), some (.int (iI e9))] [] (mh h R I2 A2 N) _
                  refine go_a (pc' := 135) (ls' := [some (.ref h.length), some (.int (iI o)), some (.int (iI ((n : Int)))), some (.int (iI (A 1 (rt A 2 o)))), some (.int (iI e9))]) (st' := [.int (iI ((n : Int)))]) rfl rfl ?_
                  refine go_a (pc' := 136) (ls' := [some (.ref h.length), some (.int (iI o)), some (.int (iI ((n : Int)))), some (.int (iI (A 1 (rt A 2 o)))), some (.int (iI e9))]) (st' := [.int (iI 3), .int (iI ((n : Int)))]) rfl rfl ?_
                  refine go_a (pc' := 137) (ls' := [some (.ref h.length), some (.int (iI o)), some (.int (iI ((n : Int)))), some (.int (iI (A 1 (rt A 2 o)))), some (.int (iI e9))]) (st' := [.ref h.length, .int (iI 3), .int (iI ((n : Int)))]) rfl rfl ?_
                  refine go_get (v := .int (iI (I2 71))) rfl mh_o rfl rfl ?_
                  refine mi_add rfl ?_
                  refine mi_ne (t := 148) rfl rfl (by omega) (by omega) (by omega) (by omega) (fun e8 => ?_) (fun e8 => ?_)
                  · refine go_a (pc' := 149) (ls' := [some (.ref h.length), some (.int (iI o)), some (.int (iI ((n : Int)))), some (.int (iI (A 1 (rt A 2 o)))), some (.int (iI e9))]) (st' := [.int (iI 0)]) rfl rfl ?_
                    exact go_r rfl rfl rfl rfl rfl rfl ⟨I2, A2, rfl, BZ, B2, ww, Or.inl ⟨rfl, bnd, fun ⟨e0, ⟨n2, l2, n3, t2, ⟨p2, i0, i1, i2, i3⟩, ⟨va, vb⟩, nn⟩, dj, rc⟩ => by have ee := ue e0 i0 i1 i2 i3; have en := nn9 n2 l2; rw [ee, ← psx] at nn; omega⟩⟩
                  · have LA : isL A m (A 2 (A 1 (rt A 2 o))) := isL_back hP X.1 m _ (by omega) (by omega) hLm
                    have em : (A 21 e9).toNat = m := by
                      rw [a21] at e7
                      omega
                    have ID : IND ar I A o e9 := by
                      refine ⟨n, hL, by omega, tk, ⟨pc, ⟨he2.1, by omega, by rw [← a20]; exact he2.2.2.1, fun u u0 u1 => by rw [← a20]; exact he2.2.2.2 u u0 u1⟩⟩, ⟨by rw [em]; exact LA, fun j hj => ?_⟩, by omega⟩
                      have hj2 : (j : Int) < (m : Int) := by omega
                      have q := hvar j hj2
                      rw [rt_ext hP X.1 m j (A 2 (A 1 (rt A 2 o))) (by omega) (by omega) LA (by omega)] at q
                      have rj := isL_rt hP m j (A 2 (A 1 (rt A 2 o))) (by omega) (by omega) LA (by omega)
                      have qj := hP.2 _ rj.1 (by omega : rt A j (A 2 (A 1 (rt A 2 o))) < I 7)
                      rw [(X.1.2.2.1 _ rj.1 (by omega)).1, (X.1.2.2.1 _ rj.2.2 (by omega)).1] at q
                      exact q
                    have IX : IDX A o e9 := by
                      refine ⟨fun i j ij jm => ?_, by rw [← a24x]; omega⟩
                      rw [em] at jm
                      have q := hdj i j ij jm
                      have ri := isL_rt hP m i (A 2 (A 1 (rt A 2 o))) (by omega) (by omega) LA (by omega)
                      have rj := isL_rt hP m j (A 2 (A 1 (rt A 2 o))) (by omega) (by omega) LA jm
                      rw [rt_ext hP X.1 m i (A 2 (A 1 (rt A 2 o))) (by omega) (by omega) LA (by omega), rt_ext hP X.1 m j (A 2 (A 1 (rt A 2 o))) (by omega) (by omega) LA (by omega), (X.1.2.2.1 _ ri.1 (by omega)).1, (X.1.2.2.1 _ rj.1 (by omega)).1] at q
                      exact q
                    refine go_a (pc' := 145) (ls' := [some (.ref h.length), some (.int (iI o)), some (.int (iI ((n : Int)))), some (.int (iI (A 1 (rt A 2 o)))), some (.int (iI e9))]) (st' := [.int (iI 1)]) rfl rfl ?_
                    refine go_a (pc' := 149) (ls' := [some (.ref h.length), some (.int (iI o)), some (.int (iI ((n : Int)))), some (.int (iI (A 1 (rt A 2 o)))), some (.int (iI e9))]) (st' := [.int (iI 1)]) rfl rfl ?_
                    exact go_r rfl rfl rfl rfl rfl rfl ⟨I2, A2, rfl, BZ, B2, ww, Or.inr ⟨rfl, e9, ID, by omega, IX⟩⟩
                · have LA : isL A m (A 2 (A 1 (rt A 2 o))) := isL_back hP X.1 m _ (by omega) (by omega) hLm
                  refine go_a (pc' := 122) (ls' := [some (.ref h.length), some (.int (iI o)), some (.int (iI ((n : Int)))), some (.int (iI (A 1 (rt A 2 o)))), some (.int (iI e9))]) (st' := [.int (iI 0)]) rfl rfl ?_
                  exact go_r rfl rfl rfl rfl rfl rfl ⟨I1, A1, rfl, bad I1 A1 X, X.2.1, fun _ => X.2.2.1, Or.inl ⟨rfl, bnd, fun ⟨e0, ⟨n2, l2, n3, t2, ⟨p2, i0, i1, i2, i3⟩, ⟨va, vb⟩, nn⟩, dj, rc⟩ => by have ee := ue e0 i0 i1 i2 i3; have df := (hB.2.2.1.2.1 e0 i0 i1).2.1; have em := isL_uq n0 _ m _ va LA; rw [a21x] at e7; rw [ee] at em df; omega⟩⟩
    · have nk : ¬ TOK A ar (A 1 (rt A 1 o)) := by
        rcases Q.2.2.2.2 with q | q
        · exact q.2
        · omega
      refine go_a (pc' := 26) (ls' := [some (.ref h.length), some (.int (iI o)), some (.int (iI ((n : Int)))), none, none]) (st' := [.int (iI 0)]) rfl rfl ?_
      exact go_r rfl rfl rfl rfl rfl rfl ⟨I1, A1, rfl, bad I1 A1 X, X.2.1, fun _ => X.2.2.1, Or.inl ⟨rfl, bnd, fun ⟨e0, ⟨n2, l2, n3, t2, ⟨p2, i0, i1, i2, i3⟩, ⟨va, vb⟩, nn⟩, dj, rc⟩ => by exact nk t2⟩⟩

