theorem PDV {I : Nat → Int} {A : Nat → Int → Int} {ar : Int → Int} (hP : PW I A) (n0 : A 1 0 < 0) (n2 : A 1 2 < 0) : ∀ (m : Nat) (l : Int), 0 ≤ l → l < I 7 → isL A m l → (∀ j : Nat, j < m → PQ A ar (A 1 (rt A j l))) → PD A m l → ∃ q : Int, ((q = 0 ∧ ∀ j : Nat, j < m → A 1 (A 1 (rt A j l)) ≠ 2) ∨ (q = 1 ∧ ∃ j : Nat, j < m ∧ A 1 (A 1 (rt A j l)) = 2)) ∧ VD A l = uw A m l + 4 * m - 2 * q ∧ 0 ≤ uw A m l
  | 0, l, _, _, hL, _, _ => by
    have e : l = 0 := hL
    subst e
    refine ⟨0, Or.inl ⟨rfl, fun j hj => absurd hj (by omega)⟩, ?_, Int.le_refl _⟩
    rw [VD_atom n0, if_pos rfl]
    rfl
  | m + 1, l, h0, h1, hL, hQ, hD => by
    have q := hP.2 l h0 h1
    have q2 := q.2.2.2.2 hL.1
    have p := hQ 0 (by omega)
    have p : isL A 2 (A 1 l) ∧ (A 1 (A 1 (A 1 l)) = -2 ∧ 1 < A 1 (A 1 l)) ∧ TOK A ar (A 1 (A 2 (A 1 l))) := p
    have l2 := p.1
    have p0 := hL.1
    have a1 := l2.1
    have a2 : 0 ≤ A 1 (A 2 (A 1 l)) := l2.2.1
    have a3 : A 2 (A 2 (A 1 l)) = 0 := l2.2.2
    have r := hP.2 (A 1 l) (by omega) (by omega)
    have r2 := r.2.2.2.2 a1
    have r3 := hP.2 (A 2 (A 1 l)) (by omega) (by omega)
    have v1 := VD_pair hP h0 h1 hL.1
    have w1 := WD_pair hP (by omega : 0 ≤ A 1 l) (by omega) a1
    have v2 := VD_pair hP (by omega : 0 ≤ A 1 l) (by omega) a1
    have v3 := VD_pair hP (by omega : 0 ≤ A 2 (A 1 l)) (by omega) a2
    have v4 : VD A 0 = 0 := by rw [VD_atom n0, if_pos rfl]
    have w2 : WD A (A 1 (A 1 l)) = 1 := WD_atom (by omega)
    have w3 := WD_1 hP a2 (by omega : A 1 (A 2 (A 1 l)) < I 7)
    rw [a3, v4] at v3
    obtain ⟨b, hb, hv, hu⟩ := PDV hP n0 n2 m (A 2 l) q.2.2.1 (by omega) hL.2 (fun j hj => hQ (j + 1) (by omega)) (fun i j ij jm => hD (i + 1) (j + 1) (by omega) (by omega))
    have ue : uw A (m + 1) l = (WD A (A 1 (A 2 (A 1 l))) - 1) + uw A m (A 2 l) := rfl
    by_cases c : A 1 (A 1 l) = 2
    · have cq : A 1 (A 1 l) = 2 ∧ 0 ≤ A 1 (A 2 (A 1 l)) ∧ A 2 (A 2 (A 1 l)) = 0 := ⟨c, a2, a3⟩
      rw [if_pos cq] at w1
      have bz : b = 0 := by
        rcases hb with hb | ⟨-, j, hj, e⟩
        · exact hb.1
        · exact absurd (c.trans e.symm) (hD 0 (j + 1) (by omega) (by omega))
      refine ⟨1, Or.inr ⟨rfl, 0, by omega, c⟩, ?_, by omega⟩
      rw [ue]
      omega
    · rw [if_neg (fun z => c z.1)] at w1
      refine ⟨b, ?_, by rw [ue]; omega, by omega⟩
      rcases hb with ⟨e, hb⟩ | ⟨e, j, hj, hb⟩
      · refine Or.inl ⟨e, fun j hj => ?_⟩
        match j with
        | 0 => exact c
        | j + 1 => exact hb j (by omega)
      · exact Or.inr ⟨e, j + 1, by omega, hb⟩
def PRS (ar : Int → Int) (A0 : Nat → Int → Int) (l : Int) (j : Nat) (I : Nat → Int) (A : Nat → Int → Int) : Prop := ∀ q : Int, 0 ≤ q → q < j → A 33 q = A0 1 (A0 1 (rt A0 q.toNat l)) ∧ (0 ≤ A 34 q ∧ A 34 q < I 7) ∧ 1 ≤ TZ A ar (A 34 q) ∧ NFT A (A0 1 (A0 2 (A0 1 (rt A0 q.toNat l)))) (A 34 q)
theorem PRS_BX {F G : Nat → Prop} {ar : Int → Int} {A0 A A1 : Nat → Int → Int} {I I0 I1 : Nat → Int} {N N1 : Int → Int} {l : Int} {m j : Nat} (P0 : PW I0 A0) (x0 : I0 7 ≤ I 7) (l0 : 0 ≤ l) (l1 : l < I0 7) (lm : isL A0 m l) (hQ : ∀ j : Nat, j < m → PQ A0 ar (A0 1 (rt A0 j l))) (jm : j ≤ m) (hP : PW I A) (x : BX F G I A N I1 A1 N1) (g33 : ¬ G 33) (g34 : ¬ G 34) (h : PRS ar A0 l j I A) : PRS ar A0 l j I1 A1 := by
  have x7 := x.2.1
  have e33 : A1 33 = A 33 := x.2.2.2.2 33 (by decide) (by decide) (by decide) (by decide) (by decide) (by decide) g33
  have e34 : A1 34 = A 34 := x.2.2.2.2 34 (by decide) (by decide) (by decide) (by decide) (by decide) (by decide) g34
  intro q q0 q1
  have g := h q q0 q1
  have b := (VD_rt P0 l0 l1 lm (by omega : q.toNat < m)).2.1
  have p := (hQ q.toNat (by omega)).1
  have r := P0.2 _ b.1 b.2
  have r2 := r.2.2.2.2 p.1
  have p2 : 0 ≤ A0 1 (A0 2 (A0 1 (rt A0 q.toNat l))) := p.2.1
  have r3 := P0.2 _ (by omega : 0 ≤ A0 2 (A0 1 (rt A0 q.toNat l))) (by omega)
  rw [e33, e34, (TZ_BX hP x g.2.1.1 g.2.1.2).1 g.2.2.1]
  exact ⟨g.1, ⟨g.2.1.1, by omega⟩, g.2.2.1, (NF_ext hP (MST_PW x.1) x7 (fun k a b => ⟨(x.2.2.1 k a b).1, (x.2.2.1 k a b).2.1⟩) _ _ _ (Nat.lt_succ_self _) p2 (by omega) g.2.1.1 g.2.1.2).1 g.2.2.2⟩
theorem mm_ins_pairs (z : Value) (d m : Nat) (ar : Int → Int) (l o c ii : Int) (h R : xx_H) (I : Nat → Int) (A : Nat → Int → Int) (N : Int → Int) (hc : 12 ≤ h.length) (hB : BI ar I A N) (l0 : 0 ≤ l) (l1 : l < I 7) (hL : isL A m l) (hQ : ∀ j : Nat, j < m → PQ A ar (A 1 (rt A j l))) (m4 : m ≤ 400) (w : VD A l ≤ 1000) (hu : ∀ j : Nat, j ≤ m → uw A j l ≤ uw A m l) (ho : I 7 + 2 * uw A m l + 2 ≤ 140000) (Q : Option Value → xx_H → Prop) (K : ∀ (I1 : Nat → Int) (A1 : Nat → Int → Int) (y5 : Option Value), RU ar (2 * uw A m l) I A N I1 A1 N → (∀ m s v : Int, DR ar m s v I A → DR ar m s v I1 A1) → (I1 49 = I 49 ∧ A1 38 = A 38 ∧ I1 67 = I 67) → I1 59 = m → PRS ar A l m I1 A1 → xx_go (xt_P z) (d + 8) 160 107 [some (.ref h.length), some (.int (iI o)), some (.int (iI c)), some (.int (iI ii)), some (.int (iI 0)), y5] [] (mh h R I1 A1 N) Q) : ∀ (n j : Nat) (I1 : Nat → Int) (A1 : Nat → Int → Int) (y5 : Option Value), m - j ≤ n → j ≤ m → RU ar (2 * uw A j l) I A N I1 A1 N → (∀ m s v : Int, DR ar m s v I A → DR ar m s v I1 A1) → (I1 49 = I 49 ∧ A1 38 = A 38 ∧ I1 67 = I 67) → I1 59 = j → PRS ar A l j I1 A1 → xx_go (xt_P z) (d + 8) 160 30 [some (.ref h.length), some (.int (iI o)), some (.int (iI c)), some (.int (iI ii)), some (.int (iI (rt A j l))), y5] [] (mh h R I1 A1 N) Q := by
  have hP := BI_P hB
  have p1 := hP.1
  have fin : ∀ (j : Nat) (I1 : Nat → Int) (A1 : Nat → Int → Int) (y5 : Option Value), j = m → RU ar (2 * uw A j l) I A N I1 A1 N → (∀ m s v : Int, DR ar m s v I A → DR ar m s v I1 A1) → (I1 49 = I 49 ∧ A1 38 = A 38 ∧ I1 67 = I 67) → I1 59 = j → PRS ar A l j I1 A1 → xx_go (xt_P z) (d + 8) 160 30 [some (.ref h.length), some (.int (iI o)), some (.int (iI c)), some (.int (iI ii)), some (.int (iI (rt A j l))), y5] [] (mh h R I1 A1 N) Q := by
    intro j I1 A1 y5 e X D e9 e59 S
    subst e
    have ez := isL_end j l hL
    rw [ez]
    refine go_a (pc' := 32) (ls' := [some (.ref h.length), some (.int (iI o)), some (.int (iI c)), some (.int (iI ii)), some (.int (iI 0)), y5]) (st' := [.int (iI 0)]) rfl rfl ?_
    exact mi_eq0 (t := 107) rfl rfl (by omega) (by omega) (fun _ => K I1 A1 y5 X D e9 e59 S) (fun q => absurd rfl q)
  intro n
  induction n with
  | zero =>
    intro j I1 A1 y5 hn jm X D e9 e59 S
    exact fin j I1 A1 y5 (by omega) X D e9 e59 S
  | succ n ih =>
    intro j I1 A1 y5 hn jm X D e9 e59 S
    by_cases e : j = m
    · exact fin j I1 A1 y5 e X D e9 e59 S
    have rj := isL_rt hP m j l l0 l1 hL (by omega)
    have qj := hP.2 _ rj.1 (by omega : rt A j l < I 7)
    have q2 := qj.2.2.2.2 rj.2.2
    have jz : rt A j l ≠ 0 := by
      intro ez
      rw [ez] at rj
      omega
    have vr := VD_rt hP l0 l1 hL (by omega : j < m)
    have x7 := X.1.2.1
    have P1 := RU_P X
    have i9 := P1.1
    have hx : ∀ k : Int, 0 ≤ k → k < I 7 → A1 1 k = A 1 k ∧ A1 2 k = A 2 k := fun k a b => ⟨(X.1.2.2.1 k a b).1, (X.1.2.2.1 k a b).2.1⟩
    have e1 := hx (rt A j l) rj.1 (by omega)
    have pn := vr.2.1
    have p := hQ j (by omega)
    have L2 := p.1
    have qp := hP.2 _ pn.1 pn.2
    have qq := qp.2.2.2.2 L2.1
    have f1 := hx (A 1 (rt A j l)) pn.1 pn.2
    have f2 := hx (A 2 (A 1 (rt A j l))) (by omega) (by omega)
    have px : 0 ≤ A 1 (A 2 (A 1 (rt A j l))) := L2.2.1
    have qx := hP.2 (A 2 (A 1 (rt A j l))) (by omega) (by omega)
    have L21 := isL_extB hP X.1 2 _ pn.1 pn.2 L2
    have wt := (WD_BX hP X.1 px (by omega : A 1 (A 2 (A 1 (rt A j l))) < I 7)).1
    have w1 := WD_1 hP px (by omega : A 1 (A 2 (A 1 (rt A j l))) < I 7)
    have us := uw_succ A j l
    have um := hu (j + 1) (by omega)
    have c7 := X.2.2.1
    have wp : WD A (A 1 (A 2 (A 1 (rt A j l)))) + 1 ≤ WD A (A 1 (rt A j l)) := WD_two hP (BI_n0 hB) pn.1 pn.2 L2
    have vl : VD A (rt A j l) ≤ VD A l := VD_rtl hP l0 l1 hL j (by omega)
    refine go_a (pc' := 32) (ls' := [some (.ref h.length), some (.int (iI o)), some (.int (iI c)), some (.int (iI ii)), some (.int (iI (rt A j l))), y5]) (st' := [.int (iI (rt A j l))]) rfl rfl ?_
    refine mi_eq0 (t := 107) rfl rfl (by omega) (by omega) (fun q => absurd q jz) (fun _ => ?_)
    refine go_a (pc' := 36) (ls' := [some (.ref h.length), some (.int (iI o)), some (.int (iI c)), some (.int (iI ii)), some (.int (iI (rt A j l))), y5]) (st' := [.ref h.length]) rfl rfl ?_
    refine go_a (pc' := 37) (ls' := [some (.ref h.length), some (.int (iI o)), some (.int (iI c)), some (.int (iI ii)), some (.int (iI (rt A j l))), y5]) (st' := [.ref h.length, .ref h.length]) rfl rfl ?_
    refine go_a (pc' := 38) (ls' := [some (.ref h.length), some (.int (iI o)), some (.int (iI c)), some (.int (iI ii)), some (.int (iI (rt A j l))), y5]) (st' := [.ref h.length, .ref h.length, .ref h.length]) rfl rfl ?_
    refine go_get rfl mh_o rfl rfl ?_
    refine go_a (pc' := 43) (ls' := [some (.ref h.length), some (.int (iI o)), some (.int (iI c)), some (.int (iI ii)), some (.int (iI (rt A j l))), y5]) (st' := [.int (iI (rt A j l)), .ref (h.length + 1), .ref h.length, .ref h.length]) rfl rfl ?_
    refine mi_ild rfl mh_a1 (by omega) (by omega) (by decide) ?_
    refine go_a (pc' := 45) (ls' := [some (.ref h.length), some (.int (iI o)), some (.int (iI c)), some (.int (iI ii)), some (.int (iI (rt A j l))), y5]) (st' := [.int (iI 1), .int (iI (A1 1 (rt A j l))), .ref h.length, .ref h.length]) rfl rfl ?_
    rw [e1.1]
    show xx_go (xt_P z) (d + 8) 160 45 [some (.ref h.length), some (.int (iI o)), some (.int (iI c)), some (.int (iI ii)), some (.int (iI (rt A j l))), y5] [.int (iI 1), .int (iI (A 1 (rt A j l))), .ref h.length, .ref h.length] (mh h R I1 A1 N) _
    refine go_v (m := 99) (as := [.ref h.length, .int (iI (A 1 (rt A j l))), .int (iI 1)]) (r := [.ref h.length]) rfl rfl rfl mh_o rfl rfl (mm_nth z (d + 7) 1 2 (A 1 (rt A j l)) h R I1 A1 N hc P1 (by decide) pn.1 (by omega) L21 (by decide)) (fun v h1 hq => ?_)
    obtain ⟨rfl, rfl⟩ := hq
    rw [show A1 1 (rt A1 1 (A 1 (rt A j l))) = A 1 (A 2 (A 1 (rt A j l))) by show A1 1 (A1 2 (A 1 (rt A j l))) = _; rw [f1.2, f2.1]]
    show xx_go (xt_P z) (d + 8) 160 48 [some (.ref h.length), some (.int (iI o)), some (.int (iI c)), some (.int (iI ii)), some (.int (iI (rt A j l))), y5] [.int (iI (A 1 (A 2 (A 1 (rt A j l))))), .ref h.length] (mh h R I1 A1 N) _
    refine go_v (m := 105) (as := [.ref h.length, .int (iI (A 1 (A 2 (A 1 (rt A j l)))))]) (r := []) rfl rfl rfl mh_o rfl rfl (mr_term z d ar (A 1 (A 2 (A 1 (rt A j l)))) h R I1 A1 N hc X.2.1 px (by omega) (by omega) (by omega)) (fun v h1 hq => ?_)
    obtain ⟨t, I2, A2, rfl, rfl, Y, D2, ⟨y9, yb⟩, ht⟩ := hq
    have tt : (0 ≤ t ∧ t < I2 7) ∧ 1 ≤ TZ A2 ar t ∧ NFT A2 (A 1 (A 2 (A 1 (rt A j l)))) t := by
      rcases ht with q | q
      · exact absurd (TOK_BX hP X.1 px (by omega) p.2.2) q.2
      · exact ⟨q.1, q.2.1.1, q.2.2.2.2.2⟩
    have y7 := Y.1.2.1
    have P2 := RU_P Y
    have i92 := P2.1
    have hy : ∀ k : Int, 0 ≤ k → k < I 7 → A2 1 k = A 1 k ∧ A2 2 k = A 2 k := fun k a b => ⟨((Y.1.2.2.1 k a (by omega)).1).trans (hx k a b).1, ((Y.1.2.2.1 k a (by omega)).2.1).trans (hx k a b).2⟩
    have e59b : I2 59 = j := (yb.2.2.2.1 59 (by decide) (by unfold FB; omega)).trans e59
    have S2 : PRS ar A l j I2 A2 := PRS_BX hP x7 l0 l1 hL hQ jm P1 yb (by unfold GT; omega) (by unfold GT; omega) S
    have h1 := hy (rt A j l) rj.1 (by omega)
    have h2 := hy (A 1 (rt A j l)) pn.1 pn.2
    have h3 : A2 1 (A2 1 (rt A j l)) = A 1 (A 1 (rt A j l)) := by rw [h1.1, h2.1]
    show xx_go (xt_P z) (d + 8) 160 51 [some (.ref h.length), some (.int (iI o)), some (.int (iI c)), some (.int (iI ii)), some (.int (iI (rt A j l))), y5] [.int (iI t)] (mh h R I2 A2 N) _
    refine go_a (pc' := 53) (ls' := [some (.ref h.length), some (.int (iI o)), some (.int (iI c)), some (.int (iI ii)), some (.int (iI (rt A j l))), some (.int (iI t))]) (st' := []) rfl rfl ?_
    refine go_a (pc' := 54) (ls' := [some (.ref h.length), some (.int (iI o)), some (.int (iI c)), some (.int (iI ii)), some (.int (iI (rt A j l))), some (.int (iI t))]) (st' := [.ref h.length]) rfl rfl ?_
    refine go_get rfl mh_o rfl rfl ?_
    refine go_a (pc' := 58) (ls' := [some (.ref h.length), some (.int (iI o)), some (.int (iI c)), some (.int (iI ii)), some (.int (iI (rt A j l))), some (.int (iI t))]) (st' := [.ref h.length, .ref (h.length + 33)]) rfl rfl ?_
    refine go_get (v := .int (iI (I2 59))) rfl mh_o rfl rfl ?_
    refine go_a (pc' := 62) (ls' := [some (.ref h.length), some (.int (iI o)), some (.int (iI c)), some (.int (iI ii)), some (.int (iI (rt A j l))), some (.int (iI t))]) (st' := [.ref h.length, .int (iI (I2 59)), .ref (h.length + 33)]) rfl rfl ?_
    refine go_get rfl mh_o rfl rfl ?_
    refine go_a (pc' := 66) (ls' := [some (.ref h.length), some (.int (iI o)), some (.int (iI c)), some (.int (iI ii)), some (.int (iI (rt A j l))), some (.int (iI t))]) (st' := [.ref h.length, .ref (h.length + 1), .int (iI (I2 59)), .ref (h.length + 33)]) rfl rfl ?_
    refine go_get rfl mh_o rfl rfl ?_
    refine go_a (pc' := 71) (ls' := [some (.ref h.length), some (.int (iI o)), some (.int (iI c)), some (.int (iI ii)), some (.int (iI (rt A j l))), some (.int (iI t))]) (st' := [.int (iI (rt A j l)), .ref (h.length + 1), .ref (h.length + 1), .int (iI (I2 59)), .ref (h.length + 33)]) rfl rfl ?_
    refine mi_ild rfl mh_a1 (by omega) (by omega) (by decide) ?_
    refine mi_ild rfl mh_a1 (by omega) (by omega) (by decide) ?_
    refine mi_ist rfl mh_a33 (show 12 ≤ _ by omega) (by omega) (by omega) (by decide) ?_
    rw [mh_w33 (by omega)]
    refine go_a (pc' := 75) (ls' := [some (.ref h.length), some (.int (iI o)), some (.int (iI c)), some (.int (iI ii)), some (.int (iI (rt A j l))), some (.int (iI t))]) (st' := [.ref h.length]) rfl rfl ?_
    refine go_get rfl mh_o rfl rfl ?_
    refine go_a (pc' := 79) (ls' := [some (.ref h.length), some (.int (iI o)), some (.int (iI c)), some (.int (iI ii)), some (.int (iI (rt A j l))), some (.int (iI t))]) (st' := [.ref h.length, .ref (h.length + 34)]) rfl rfl ?_
    refine go_get (v := .int (iI (I2 59))) rfl mh_o rfl rfl ?_
    refine go_a (pc' := 84) (ls' := [some (.ref h.length), some (.int (iI o)), some (.int (iI c)), some (.int (iI ii)), some (.int (iI (rt A j l))), some (.int (iI t))]) (st' := [.int (iI t), .int (iI (I2 59)), .ref (h.length + 34)]) rfl rfl ?_
    refine mi_ist rfl mh_a34 (show 12 ≤ _ by omega) (by omega) (by omega) (by decide) ?_
    rw [mh_w34 (by omega)]
    refine go_a (pc' := 86) (ls' := [some (.ref h.length), some (.int (iI o)), some (.int (iI c)), some (.int (iI ii)), some (.int (iI (rt A j l))), some (.int (iI t))]) (st' := [.ref h.length]) rfl rfl ?_
    refine go_a (pc' := 87) (ls' := [some (.ref h.length), some (.int (iI o)), some (.int (iI c)), some (.int (iI ii)), some (.int (iI (rt A j l))), some (.int (iI t))]) (st' := [.ref h.length, .ref h.length]) rfl rfl ?_
    refine go_get (v := .int (iI (I2 59))) rfl mh_o rfl rfl ?_
    refine go_a (pc' := 91) (ls' := [some (.ref h.length), some (.int (iI o)), some (.int (iI c)), some (.int (iI ii)), some (.int (iI (rt A j l))), some (.int (iI t))]) (st' := [.int (iI 1), .int (iI (I2 59)), .ref h.length]) rfl rfl ?_
    refine mi_add rfl ?_
    refine go_put (j := 59) rfl mh_o rfl rfl (show 12 ≤ _ from hc) (show 59 < 86 by decide) rfl rfl ?_
    rw [mh_p59]
    refine go_a (pc' := 96) (ls' := [some (.ref h.length), some (.int (iI o)), some (.int (iI c)), some (.int (iI ii)), some (.int (iI (rt A j l))), some (.int (iI t))]) (st' := [.ref h.length]) rfl rfl ?_
    refine go_get rfl mh_o rfl rfl ?_
    refine go_a (pc' := 101) (ls' := [some (.ref h.length), some (.int (iI o)), some (.int (iI c)), some (.int (iI ii)), some (.int (iI (rt A j l))), some (.int (iI t))]) (st' := [.int (iI (rt A j l)), .ref (h.length + 2)]) rfl rfl ?_
    refine mi_ild rfl mh_a2 (by omega) (by omega) (by decide) ?_
    show xx_go (xt_P z) (d + 8) 160 102 [some (.ref h.length), some (.int (iI o)), some (.int (iI c)), some (.int (iI ii)), some (.int (iI (rt A j l))), some (.int (iI t))] [.int (iI (A2 2 (rt A j l)))] (mh h R (su I2 59 ((I2 59) + 1)) (sa (sa A2 33 (I2 59) (A2 1 (A2 1 (rt A j l)))) 34 (I2 59) t) N) _
    refine go_a (pc' := 104) (ls' := [some (.ref h.length), some (.int (iI o)), some (.int (iI c)), some (.int (iI ii)), some (.int (iI (A2 2 (rt A j l)))), some (.int (iI t))]) (st' := []) rfl rfl ?_
    refine go_a (pc' := 30) (ls' := [some (.ref h.length), some (.int (iI o)), some (.int (iI c)), some (.int (iI ii)), some (.int (iI (A2 2 (rt A j l)))), some (.int (iI t))]) (st' := []) rfl rfl ?_
    rw [h1.2, ← rt_succ A j l]
    have h4 : sa (sa A2 33 (I2 59) (A2 1 (A2 1 (rt A j l)))) 34 (I2 59) t 33 = sf (A2 33) (I2 59) (A2 1 (A2 1 (rt A j l))) := rfl
    have h5 : sa (sa A2 33 (I2 59) (A2 1 (A2 1 (rt A j l)))) 34 (I2 59) t 34 = sf (A2 34) (I2 59) t := rfl
    have bx : BX (fun j => j = 59) (fun a => a = 33 ∨ a = 34) I2 A2 N (su I2 59 ((I2 59) + 1)) (sa (sa A2 33 (I2 59) (A2 1 (A2 1 (rt A j l)))) 34 (I2 59) t) N := BX_of Y.2.1.1.1 (fun j q => su_ne q) (fun a q => (sa_ne (fun e => q (Or.inr e))).trans (sa_ne (fun e => q (Or.inl e)))) rfl rfl rfl rfl rfl rfl rfl rfl rfl rfl
    have R3 : RU ar 0 I2 A2 N (su I2 59 ((I2 59) + 1)) (sa (sa A2 33 (I2 59) (A2 1 (A2 1 (rt A j l)))) 34 (I2 59) t) N := RU_of Y.2.1 bx (fun j q => by subst q; unfold FC; omega) (fun a q => by unfold GC; omega) (SZI_124 (I := I2) (I1 := su I2 59 ((I2 59) + 1)) (A := A2) (A1 := sa (sa A2 33 (I2 59) (A2 1 (A2 1 (rt A j l)))) 34 (I2 59) t) Y.2.1.1.2.2 rfl rfl rfl rfl) rfl rfl Y.2.1.2.2.2.2 (show I2 7 ≤ I2 7 + 0 by omega) (fun _ => rfl)
    have t3 : TZ (sa (sa A2 33 (I2 59) (A2 1 (A2 1 (rt A j l)))) 34 (I2 59) t) ar = TZ A2 ar := (TZ_124 (A := A2) (A1 := sa (sa A2 33 (I2 59) (A2 1 (A2 1 (rt A j l)))) 34 (I2 59) t) rfl rfl rfl).1
    have n3 : NFT (sa (sa A2 33 (I2 59) (A2 1 (A2 1 (rt A j l)))) 34 (I2 59) t) = NFT A2 := NFT_12 (A := A2) (A1 := sa (sa A2 33 (I2 59) (A2 1 (A2 1 (rt A j l)))) 34 (I2 59) t) rfl rfl
    refine ih (j + 1) (su I2 59 ((I2 59) + 1)) (sa (sa A2 33 (I2 59) (A2 1 (A2 1 (rt A j l)))) 34 (I2 59) t) _ (by omega) (by omega) (RU_tr (RU_tr X Y (Int.le_refl _)) R3 (by rw [us]; omega)) (fun m s v q => ?_) ⟨(by show I2 49 = _; rw [y9]; exact e9.1), (yb.2.2.2.2 38 (by decide) (by decide) (by decide) (by decide) (by decide) (by decide) (by unfold GT; omega)).trans e9.2.1, (yb.2.2.2.1 67 (by decide) (by unfold FB; omega)).trans e9.2.2⟩ (by show I2 59 + 1 = _; omega) (fun q q0 q1 => ?_)
    · exact DR_BX P2 (D2 m s v (D m s v q)) bx (by decide) (by decide) (fun e => e)
    · rw [h4, h5, t3, n3]
      by_cases u : q = j
      · rw [show q = I2 59 by omega, sf_self, sf_self, h3, show (I2 59).toNat = j by omega]
        exact ⟨rfl, tt⟩
      · rw [sf_ne (by omega), sf_ne (by omega)]
        exact S2 q q0 (by omega)

