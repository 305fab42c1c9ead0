def repR (a b : List Int) : Nat → List Int → List Int
  | 0, _ => []
  | _ + 1, [] => []
  | m + 1, x :: r => if (x :: r).take a.length = a then b ++ repR a b m ((x :: r).drop a.length) else x :: repR a b m r
theorem repR_y {a b row : List Int} {m : Nat} (ne : row ≠ []) (h : row.take a.length = a) : repR a b (m + 1) row = b ++ repR a b m (row.drop a.length) := by
  match row, ne with
  | [], ne => exact absurd rfl ne
  | x :: r, _ => exact if_pos h
theorem repR_n {a b row : List Int} {m : Nat} {x : Int} {r : List Int} (e : row = x :: r) (h : row.take a.length ≠ a) : repR a b (m + 1) row = x :: repR a b m r := by
  subst e
  exact if_neg h
theorem repR_z {a b : List Int} : ∀ m : Nat, repR a b m [] = []
  | 0 => rfl
  | _ + 1 => rfl
theorem rl_drop {n : Int} {f : Int → Int} {p : Nat} (h : (p : Int) < n) : (rl n f).drop p = f p :: (rl n f).drop (p + 1) := by
  rw [List.drop_eq_getElem_cons (by rw [rl_len]; omega)]
  congr 1
  have := rl_get (f := f) h
  rw [List.getElem?_eq_getElem (by rw [rl_len]; omega)] at this
  injection this
theorem st_iff {n n2 : Int} {f f2 : Int → Int} {p : Nat} (n20 : 0 ≤ n2) (hV : ∀ k : Int, 0 ≤ k → k < n2 → 0 ≤ f2 k) : (∀ i : Int, 0 ≤ i → i < n2 → tat n f ((p : Int) + i) = f2 i) ↔ ((rl n f).drop p).take (rl n2 f2).length = rl n2 f2 := by
  rw [rl_len]
  constructor
  · intro h
    apply List.ext_getElem?
    intro i
    by_cases c : i < n2.toNat
    · have q := h i (by omega) (by omega)
      have v := hV i (by omega) (by omega)
      unfold tat at q
      by_cases c2 : 0 ≤ (p : Int) + i ∧ (p : Int) + i < n
      · rw [if_pos c2] at q
        rw [List.getElem?_take_of_lt c, List.getElem?_drop, rl_get (by omega), rl_get (by omega), show ((p + i : Nat) : Int) = (p : Int) + i by omega, q]
      · rw [if_neg c2] at q
        omega
    · rw [List.getElem?_eq_none (by rw [List.length_take]; omega), List.getElem?_eq_none (by rw [rl_len]; omega)]
  · intro h i i0 i1
    have q : (((rl n f).drop p).take n2.toNat)[i.toNat]? = some (f2 i) := by
      rw [h, rl_get (by omega), show ((i.toNat : Nat) : Int) = i by omega]
    rw [List.getElem?_take_of_lt (by omega), List.getElem?_drop] at q
    have l : p + i.toNat < n.toNat := by
      by_cases c : p + i.toNat < n.toNat
      · exact c
      · rw [List.getElem?_eq_none (by rw [rl_len]; omega)] at q
        cases q
    rw [rl_get (by omega), show ((p + i.toNat : Nat) : Int) = (p : Int) + i by omega] at q
    injection q with q
    unfold tat
    rw [if_pos (by omega)]
    exact q
def RPL (c : Nat) (hp : xx_H) (s : KS) (u : Int) (V : List Int) (v : Option Value) (h1 : xx_H) : Prop := ∃ s1 : KS, KI c h1 s1 ∧ KB s1 ∧ TF s s1 ∧ ((v = some .null ∧ kx c hp s h1 s1 0 0 ∧ 120 < V.length) ∨ ∃ (a : Nat) (N : Int) (g : Int → Int), v = some (.ref a) ∧ N ≤ 120 ∧ hp.length ≤ a ∧ kx c hp s h1 s1 2 (N + 1) ∧ TM c h1 s1 u a N g ∧ rl N g = V)
theorem sm_st {n n2 : Int} {f f2 : Int → Int} {p : Nat} {u : Int} (h : ∀ i : Int, 0 ≤ i → i < n2 → tat n f ((p : Int) + i) = f2 i) (hW : WFT n2 f2) (hV : ∀ k : Int, 0 ≤ k → k < n2 → TVx u (f2 k)) : p + n2 ≤ n ∧ sm f (p + n2.toNat) = sm f p - 1 := by
  have n1 := WFT_pos hW
  have A : ∀ i : Int, 0 ≤ i → i < n2 → (p + i < n ∧ f ((p : Int) + i) = f2 i) := by
    intro i i0 i1
    have := h i i0 i1
    have v := (hV i i0 i1).1
    unfold tat at this
    split at this
    · exact ⟨by omega, this⟩
    · omega
  refine ⟨by have := (A (n2 - 1) (by omega) (by omega)).1; omega, ?_⟩
  rw [sm_cat (f := f2) (fun i i0 i1 => (A i i0 (by omega)).2), hW.2]
  omega
theorem kg_rep_loop (z : Value) (d c : Nat) (u : Int) (a : Nat) (n : Int) (f : Int → Int) (a2 : Nat) (n2 : Int) (f2 : Int → Int) (a3 : Nat) (n3 : Int) (f3 : Int → Int) (hp0 : xx_H) (s0 : KS) (V : List Int) : ∀ (x : Nat) (p : Nat) (i : Int) (hp : xx_H) (s : KS) (W : List Int) (e9 : Nat), n - p ≤ x → (p : Int) ≤ n → 0 ≤ i → i ≤ p → KI c hp s → KB s → kx c hp0 s0 hp s 0 0 → TF s0 s → TM c hp s u a n f → TM c hp s u a2 n2 f2 → TM c hp s u a3 n3 f3 → RW6 u s (sm f p) W → s.I 6 ≤ 240 → n - p ≤ e9 → V = W ++ repR (rl n2 f2) (rl n3 f3) e9 ((rl n f).drop p) → xx_go (xt_P z) (d + 3) 284 20 [some (.ref (c + 25)), some (.ref a), some (.ref a2), some (.ref a3), some (.int (iI ((p : Int)))), some (.int (iI i))] [] hp (fun v h1 => RPL c hp0 s0 u V v h1) := by
  intro x
  induction x with
  | zero =>
    intro p i hp s W e9 hx hk i0 i1 hK hB hX hF hT hT2 hT3 R1 h240 he9 hV9
    have n_ := TM_n hT
    obtain ⟨qa, La, Laa, Laq⟩ := TMq hT
    obtain ⟨qb, Lb, Lba, Lbq⟩ := TMq hT2
    have n2_ := TM_n hT2
    obtain ⟨qe, Le, Lea, Leq⟩ := TMq hT3
    have n3_ := TM_n hT3
    have b4 := hB.2.2.2.1 6 (by decide)
    refine go_a (pc' := 22) (ls' := [some (.ref (c + 25)), some (.ref a), some (.ref a2), some (.ref a3), some (.int (iI ((p : Int)))), some (.int (iI i))]) (st' := [.int (iI i)]) rfl rfl ?_
    refine go_a (pc' := 24) (ls' := [some (.ref (c + 25)), some (.ref a), some (.ref a2), some (.ref a3), some (.int (iI ((p : Int)))), some (.int (iI i))]) (st' := [.int (iI 120), .int (iI i)]) rfl rfl ?_
    refine mi_ge (t := 103) rfl rfl (by omega) (by omega) (by omega) (by omega) (fun w1 => ?_) (fun w1 => ?_)
    · refine go_a (pc' := 104) (ls' := [some (.ref (c + 25)), some (.ref a), some (.ref a2), some (.ref a3), some (.int (iI ((p : Int)))), some (.int (iI i))]) (st' := [.ref (c + 25)]) rfl rfl ?_
      have en : (p : Int) = n := by omega
      have ev : V = W := by rw [hV9, List.drop_eq_nil_of_le (by rw [rl_len]; omega), repR_z, List.append_nil]
      have W1 := hT.2.1.2
      rw [show n.toNat = p by omega] at W1
      rw [W1] at R1
      refine go_v (m := 223) (as := [.ref (c + 25)]) (r := []) rfl rfl rfl (hK.1 16 (by decide)) rfl rfl (kb_made z d c u hp s hK hB R1) (fun v h9 hq => ?_)
      rcases hq with ⟨c9, rfl, e9⟩ | ⟨c9, rfl, K9, X9, T9⟩
      · rw [e9]
        show xx_go (xt_P z) (d + 3) 284 107 [some (.ref (c + 25)), some (.ref a), some (.ref a2), some (.ref a3), some (.int (iI ((p : Int)))), some (.int (iI i))] [.null] hp _
        exact go_r rfl rfl rfl rfl rfl rfl ⟨s, hK, hB, hF, Or.inl ⟨rfl, hX, by have l9 := congrArg List.length R1.2.2.2; rw [rl_len] at l9; rw [ev]; omega⟩⟩
      · show xx_go (xt_P z) (d + 3) 284 107 [some (.ref (c + 25)), some (.ref a), some (.ref a2), some (.ref a3), some (.int (iI ((p : Int)))), some (.int (iI i))] [.ref hp.length] h9 _
        exact go_r rfl rfl rfl rfl rfl rfl ⟨s, K9, hB, hF, Or.inr ⟨_, _, _, rfl, c9, hX.1, kx_w (kx_tr hX X9) (by omega) (by omega), T9, by rw [ev]; exact R1.2.2.2⟩⟩
    · refine go_a (pc' := 29) (ls' := [some (.ref (c + 25)), some (.ref a), some (.ref a2), some (.ref a3), some (.int (iI ((p : Int)))), some (.int (iI i))]) (st' := [.int (iI ((p : Int)))]) rfl rfl ?_
      refine go_a (pc' := 30) (ls' := [some (.ref (c + 25)), some (.ref a), some (.ref a2), some (.ref a3), some (.int (iI ((p : Int)))), some (.int (iI i))]) (st' := [.ref a, .int (iI ((p : Int)))]) rfl rfl ?_
      refine go_v (m := 229) (as := [.ref a]) (r := [.int (iI ((p : Int)))]) rfl rfl rfl La.1 rfl rfl (kg_length z (d + 2) a qa n f hp La) (fun v h3 hq => ?_)
      obtain ⟨rfl, e⟩ := hq
      rw [e]
      clear e h3
      show xx_go (xt_P z) (d + 3) 284 33 [some (.ref (c + 25)), some (.ref a), some (.ref a2), some (.ref a3), some (.int (iI ((p : Int)))), some (.int (iI i))] [.int (iI n), .int (iI ((p : Int)))] hp _
      refine mi_ge (t := 103) rfl rfl (by omega) (by omega) (by omega) (by omega) (fun _ => ?_) (fun w => absurd (show (p : Int) ≥ n by omega) w)
      refine go_a (pc' := 104) (ls' := [some (.ref (c + 25)), some (.ref a), some (.ref a2), some (.ref a3), some (.int (iI ((p : Int)))), some (.int (iI i))]) (st' := [.ref (c + 25)]) rfl rfl ?_
      have en : (p : Int) = n := by omega
      have ev : V = W := by rw [hV9, List.drop_eq_nil_of_le (by rw [rl_len]; omega), repR_z, List.append_nil]
      have W1 := hT.2.1.2
      rw [show n.toNat = p by omega] at W1
      rw [W1] at R1
      refine go_v (m := 223) (as := [.ref (c + 25)]) (r := []) rfl rfl rfl (hK.1 16 (by decide)) rfl rfl (kb_made z d c u hp s hK hB R1) (fun v h9 hq => ?_)
      rcases hq with ⟨c9, rfl, e9⟩ | ⟨c9, rfl, K9, X9, T9⟩
      · rw [e9]
        show xx_go (xt_P z) (d + 3) 284 107 [some (.ref (c + 25)), some (.ref a), some (.ref a2), some (.ref a3), some (.int (iI ((p : Int)))), some (.int (iI i))] [.null] hp _
        exact go_r rfl rfl rfl rfl rfl rfl ⟨s, hK, hB, hF, Or.inl ⟨rfl, hX, by have l9 := congrArg List.length R1.2.2.2; rw [rl_len] at l9; rw [ev]; omega⟩⟩
      · show xx_go (xt_P z) (d + 3) 284 107 [some (.ref (c + 25)), some (.ref a), some (.ref a2), some (.ref a3), some (.int (iI ((p : Int)))), some (.int (iI i))] [.ref hp.length] h9 _
        exact go_r rfl rfl rfl rfl rfl rfl ⟨s, K9, hB, hF, Or.inr ⟨_, _, _, rfl, c9, hX.1, kx_w (kx_tr hX X9) (by omega) (by omega), T9, by rw [ev]; exact R1.2.2.2⟩⟩
  | succ x ih =>
    intro p i hp s W e9 hx hk i0 i1 hK hB hX hF hT hT2 hT3 R1 h240 he9 hV9
    have n_ := TM_n hT
    obtain ⟨qa, La, Laa, Laq⟩ := TMq hT
    obtain ⟨qb, Lb, Lba, Lbq⟩ := TMq hT2
    have n2_ := TM_n hT2
    obtain ⟨qe, Le, Lea, Leq⟩ := TMq hT3
    have n3_ := TM_n hT3
    have b4 := hB.2.2.2.1 6 (by decide)
    refine go_a (pc' := 22) (ls' := [some (.ref (c + 25)), some (.ref a), some (.ref a2), some (.ref a3), some (.int (iI ((p : Int)))), some (.int (iI i))]) (st' := [.int (iI i)]) rfl rfl ?_
    refine go_a (pc' := 24) (ls' := [some (.ref (c + 25)), some (.ref a), some (.ref a2), some (.ref a3), some (.int (iI ((p : Int)))), some (.int (iI i))]) (st' := [.int (iI 120), .int (iI i)]) rfl rfl ?_
    refine mi_ge (t := 103) rfl rfl (by omega) (by omega) (by omega) (by omega) (fun w1 => ?_) (fun w1 => ?_)
    · refine go_a (pc' := 104) (ls' := [some (.ref (c + 25)), some (.ref a), some (.ref a2), some (.ref a3), some (.int (iI ((p : Int)))), some (.int (iI i))]) (st' := [.ref (c + 25)]) rfl rfl ?_
      have en : (p : Int) = n := by omega
      have ev : V = W := by rw [hV9, List.drop_eq_nil_of_le (by rw [rl_len]; omega), repR_z, List.append_nil]
      have W1 := hT.2.1.2
      rw [show n.toNat = p by omega] at W1
      rw [W1] at R1
      refine go_v (m := 223) (as := [.ref (c + 25)]) (r := []) rfl rfl rfl (hK.1 16 (by decide)) rfl rfl (kb_made z d c u hp s hK hB R1) (fun v h9 hq => ?_)
      rcases hq with ⟨c9, rfl, e9⟩ | ⟨c9, rfl, K9, X9, T9⟩
      · rw [e9]
        show xx_go (xt_P z) (d + 3) 284 107 [some (.ref (c + 25)), some (.ref a), some (.ref a2), some (.ref a3), some (.int (iI ((p : Int)))), some (.int (iI i))] [.null] hp _
        exact go_r rfl rfl rfl rfl rfl rfl ⟨s, hK, hB, hF, Or.inl ⟨rfl, hX, by have l9 := congrArg List.length R1.2.2.2; rw [rl_len] at l9; rw [ev]; omega⟩⟩
      · show xx_go (xt_P z) (d + 3) 284 107 [some (.ref (c + 25)), some (.ref a), some (.ref a2), some (.ref a3), some (.int (iI ((p : Int)))), some (.int (iI i))] [.ref hp.length] h9 _
        exact go_r rfl rfl rfl rfl rfl rfl ⟨s, K9, hB, hF, Or.inr ⟨_, _, _, rfl, c9, hX.1, kx_w (kx_tr hX X9) (by omega) (by omega), T9, by rw [ev]; exact R1.2.2.2⟩⟩
    · refine go_a (pc' := 29) (ls' := [some (.ref (c + 25)), some (.ref a), some (.ref a2), some (.ref a3), some (.int (iI ((p : Int)))), some (.int (iI i))]) (st' := [.int (iI ((p : Int)))]) rfl rfl ?_
      refine go_a (pc' := 30) (ls' := [some (.ref (c + 25)), some (.ref a), some (.ref a2), some (.ref a3), some (.int (iI ((p : Int)))), some (.int (iI i))]) (st' := [.ref a, .int (iI ((p : Int)))]) rfl rfl ?_
      refine go_v (m := 229) (as := [.ref a]) (r := [.int (iI ((p : Int)))]) rfl rfl rfl La.1 rfl rfl (kg_length z (d + 2) a qa n f hp La) (fun v h3 hq => ?_)
      obtain ⟨rfl, e⟩ := hq
      rw [e]
      clear e h3
      show xx_go (xt_P z) (d + 3) 284 33 [some (.ref (c + 25)), some (.ref a), some (.ref a2), some (.ref a3), some (.int (iI ((p : Int)))), some (.int (iI i))] [.int (iI n), .int (iI ((p : Int)))] hp _
      refine mi_ge (t := 103) rfl rfl (by omega) (by omega) (by omega) (by omega) (fun w2 => ?_) (fun w2 => ?_)
      · refine go_a (pc' := 104) (ls' := [some (.ref (c + 25)), some (.ref a), some (.ref a2), some (.ref a3), some (.int (iI ((p : Int)))), some (.int (iI i))]) (st' := [.ref (c + 25)]) rfl rfl ?_
        have en : (p : Int) = n := by omega
        have ev : V = W := by rw [hV9, List.drop_eq_nil_of_le (by rw [rl_len]; omega), repR_z, List.append_nil]
        have W1 := hT.2.1.2
        rw [show n.toNat = p by omega] at W1
        rw [W1] at R1
        refine go_v (m := 223) (as := [.ref (c + 25)]) (r := []) rfl rfl rfl (hK.1 16 (by decide)) rfl rfl (kb_made z d c u hp s hK hB R1) (fun v h9 hq => ?_)
        rcases hq with ⟨c9, rfl, e9⟩ | ⟨c9, rfl, K9, X9, T9⟩
        · rw [e9]
          show xx_go (xt_P z) (d + 3) 284 107 [some (.ref (c + 25)), some (.ref a), some (.ref a2), some (.ref a3), some (.int (iI ((p : Int)))), some (.int (iI i))] [.null] hp _
          exact go_r rfl rfl rfl rfl rfl rfl ⟨s, hK, hB, hF, Or.inl ⟨rfl, hX, by have l9 := congrArg List.length R1.2.2.2; rw [rl_len] at l9; rw [ev]; omega⟩⟩
        · show xx_go (xt_P z) (d + 3) 284 107 [some (.ref (c + 25)), some (.ref a), some (.ref a2), some (.ref a3), some (.int (iI ((p : Int)))), some (.int (iI i))] [.ref hp.length] h9 _
          exact go_r rfl rfl rfl rfl rfl rfl ⟨s, K9, hB, hF, Or.inr ⟨_, _, _, rfl, c9, hX.1, kx_w (kx_tr hX X9) (by omega) (by omega), T9, by rw [ev]; exact R1.2.2.2⟩⟩
      · refine go_a (pc' := 37) (ls' := [some (.ref (c + 25)), some (.ref a), some (.ref a2), some (.ref a3), some (.int (iI ((p : Int)))), some (.int (iI i))]) (st' := [.ref (c + 25)]) rfl rfl ?_
        refine go_get (v := .ref (c + 26)) rfl (hK.1 16 (by decide)) rfl rfl ?_
        refine go_v (m := 34) (as := [.ref (c + 26)]) (r := []) rfl rfl rfl (hK.1 17 (by decide)) rfl rfl (kr_length_6 z (d + 2) c hp s hK) (fun v h3 hq => ?_)
        obtain ⟨rfl, e⟩ := hq
        rw [e]
        clear e h3
        show xx_go (xt_P z) (d + 3) 284 43 [some (.ref (c + 25)), some (.ref a), some (.ref a2), some (.ref a3), some (.int (iI ((p : Int)))), some (.int (iI i))] [.int (iI (s.I 6))] hp _
        refine go_a (pc' := 45) (ls' := [some (.ref (c + 25)), some (.ref a), some (.ref a2), some (.ref a3), some (.int (iI ((p : Int)))), some (.int (iI i))]) (st' := [.int (iI 120), .int (iI (s.I 6))]) rfl rfl ?_
        refine mi_gt (t := 103) rfl rfl (by omega) (by omega) (by omega) (by omega) (fun w3 => ?_) (fun w3 => ?_)
        · refine go_a (pc' := 104) (ls' := [some (.ref (c + 25)), some (.ref a), some (.ref a2), some (.ref a3), some (.int (iI ((p : Int)))), some (.int (iI i))]) (st' := [.ref (c + 25)]) rfl rfl ?_
          refine go_v (m := 223) (as := [.ref (c + 25)]) (r := []) rfl rfl rfl (hK.1 16 (by decide)) rfl rfl (kg_made z d c hp s hK hB) (fun v h9 hq => ?_)
          rcases hq with ⟨-, rfl, e9⟩ | ⟨c9, -⟩
          · rw [e9]
            show xx_go (xt_P z) (d + 3) 284 107 [some (.ref (c + 25)), some (.ref a), some (.ref a2), some (.ref a3), some (.int (iI ((p : Int)))), some (.int (iI i))] [.null] hp _
            exact go_r rfl rfl rfl rfl rfl rfl ⟨s, hK, hB, hF, Or.inl ⟨rfl, hX, by have l9 := congrArg List.length R1.2.2.2; rw [rl_len] at l9; rw [hV9, List.length_append]; omega⟩⟩
          · exact absurd c9 (by omega)
        · have S0 := hT.2.1.1 p (by omega)
          refine go_a (pc' := 49) (ls' := [some (.ref (c + 25)), some (.ref a), some (.ref a2), some (.ref a3), some (.int (iI ((p : Int)))), some (.int (iI i))]) (st' := [.ref a]) rfl rfl ?_
          refine go_a (pc' := 50) (ls' := [some (.ref (c + 25)), some (.ref a), some (.ref a2), some (.ref a3), some (.int (iI ((p : Int)))), some (.int (iI i))]) (st' := [.ref a2, .ref a]) rfl rfl ?_
          refine go_a (pc' := 52) (ls' := [some (.ref (c + 25)), some (.ref a), some (.ref a2), some (.ref a3), some (.int (iI ((p : Int)))), some (.int (iI i))]) (st' := [.int (iI ((p : Int))), .ref a2, .ref a]) rfl rfl ?_
          refine go_v (m := 285) (as := [.ref a, .ref a2, .int (iI ((p : Int)))]) (r := []) rfl rfl rfl La.1 rfl rfl (kg_stands z (d + 1) (p : Int) a qa n f hp La a2 qb n2 f2 Lb (by omega) (by omega)) (fun v h3 hq => ?_)
          obtain ⟨hq, e⟩ := hq
          rw [e]
          clear e h3
          rw [st_iff (by omega) (fun k a b => (hT2.2.2 k a b).1)] at hq
          have dp := rl_drop (f := f) (show (p : Int) < n by omega)
          obtain ⟨e8, rfl⟩ : ∃ e8 : Nat, e9 = e8 + 1 := ⟨e9 - 1, by omega⟩
          rcases hq with ⟨rfl, c1⟩ | ⟨rfl, c1⟩
          · show xx_go (xt_P z) (d + 3) 284 55 [some (.ref (c + 25)), some (.ref a), some (.ref a2), some (.ref a3), some (.int (iI ((p : Int)))), some (.int (iI i))] [.int (iI 1)] hp _
            rw [repR_y (by rw [dp]; exact List.cons_ne_nil _ _) c1, rl_len, List.drop_drop] at hV9
            rw [← st_iff (by omega) (fun k a b => (hT2.2.2 k a b).1)] at c1
            obtain ⟨g1, g2⟩ := sm_st c1 hT2.2.1 hT2.2.2
            refine mi_eq0 (t := 81) rfl rfl (by omega) (by omega) (fun q => absurd q (by decide)) (fun _ => ?_)
            refine go_a (pc' := 59) (ls' := [some (.ref (c + 25)), some (.ref a), some (.ref a2), some (.ref a3), some (.int (iI ((p : Int)))), some (.int (iI i))]) (st' := [.ref (c + 25)]) rfl rfl ?_
            refine go_get (v := .ref (c + 26)) rfl (hK.1 16 (by decide)) rfl rfl ?_
            refine go_a (pc' := 63) (ls' := [some (.ref (c + 25)), some (.ref a), some (.ref a2), some (.ref a3), some (.int (iI ((p : Int)))), some (.int (iI i))]) (st' := [.ref a3, .ref (c + 26)]) rfl rfl ?_
            refine go_get (v := .ref qe) rfl Le.1 rfl rfl ?_
            refine go_v (m := 260) (as := [.ref (c + 26), .ref qe]) (r := []) rfl rfl rfl (hK.1 17 (by decide)) rfl rfl (kb_all z (d + 1) c u hp s qe n3 (sm f p) f3 hK hB R1 S0 ⟨Le.2.1, ⟨by omega, by omega⟩, Le.2.2.2⟩ Leq n3_.2 hT3.2.1 hT3.2.2 (by omega)) (fun v h3 hq => ?_)
            obtain ⟨rfl, s1, K1, B1, X1, F1, e1, R5, -⟩ := hq
            obtain ⟨Lb1, -, -⟩ := KTL_kx Lb Lba Lbq X1
            show xx_go (xt_P z) (d + 3) 284 69 [some (.ref (c + 25)), some (.ref a), some (.ref a2), some (.ref a3), some (.int (iI ((p : Int)))), some (.int (iI i))] [] h3 _
            refine go_a (pc' := 71) (ls' := [some (.ref (c + 25)), some (.ref a), some (.ref a2), some (.ref a3), some (.int (iI ((p : Int)))), some (.int (iI i))]) (st' := [.int (iI ((p : Int)))]) rfl rfl ?_
            refine go_a (pc' := 72) (ls' := [some (.ref (c + 25)), some (.ref a), some (.ref a2), some (.ref a3), some (.int (iI ((p : Int)))), some (.int (iI i))]) (st' := [.ref a2, .int (iI ((p : Int)))]) rfl rfl ?_
            refine go_v (m := 229) (as := [.ref a2]) (r := [.int (iI ((p : Int)))]) rfl rfl rfl Lb1.1 rfl rfl (kg_length z (d + 2) a2 qb n2 f2 h3 Lb1) (fun v h4 hq => ?_)
            obtain ⟨rfl, e⟩ := hq
            rw [e]
            clear e h4
            show xx_go (xt_P z) (d + 3) 284 75 [some (.ref (c + 25)), some (.ref a), some (.ref a2), some (.ref a3), some (.int (iI ((p : Int)))), some (.int (iI i))] [.int (iI n2), .int (iI ((p : Int)))] h3 _
            refine mi_add rfl ?_
            refine go_a (pc' := 78) (ls' := [some (.ref (c + 25)), some (.ref a), some (.ref a2), some (.ref a3), some (.int (iI (((p : Int)) + n2))), some (.int (iI i))]) (st' := []) rfl rfl ?_
            refine go_a (pc' := 97) (ls' := [some (.ref (c + 25)), some (.ref a), some (.ref a2), some (.ref a3), some (.int (iI (((p : Int)) + n2))), some (.int (iI i))]) (st' := []) rfl rfl ?_
            refine go_a (pc' := 100) (ls' := [some (.ref (c + 25)), some (.ref a), some (.ref a2), some (.ref a3), some (.int (iI (((p : Int)) + n2))), some (.int (iI (i + 1)))]) (st' := []) rfl (by rw [← iI_add i 1]; rfl) ?_
            refine go_a (pc' := 20) (ls' := [some (.ref (c + 25)), some (.ref a), some (.ref a2), some (.ref a3), some (.int (iI (((p : Int)) + n2))), some (.int (iI (i + 1)))]) (st' := []) rfl rfl ?_
            rw [show (p : Int) + n2 = ((p + n2.toNat : Nat) : Int) by omega]
            refine ih (p + n2.toNat) (i + 1) h3 s1 (W ++ rl n3 f3) e8 (by omega) (by omega) (by omega) (by omega) K1 B1 (kx_w (kx_tr hX X1) (by decide) (by decide)) (TF_tr hF F1) (TM_kx hT X1) (TM_kx hT2 X1) (TM_kx hT3 X1) ?_ (by omega) (by omega) (by rw [hV9, List.append_assoc])
            rw [g2]
            exact R5
          · show xx_go (xt_P z) (d + 3) 284 55 [some (.ref (c + 25)), some (.ref a), some (.ref a2), some (.ref a3), some (.int (iI ((p : Int)))), some (.int (iI i))] [.int (iI 0)] hp _
            refine mi_eq0 (t := 81) rfl rfl (by omega) (by omega) (fun _ => ?_) (fun q => absurd rfl q)
            have t0 : tat n f (p : Int) = f (p : Int) := if_pos (by omega)
            have V0 := hT.2.2 (p : Int) (by omega) (by omega)
            refine go_a (pc' := 82) (ls' := [some (.ref (c + 25)), some (.ref a), some (.ref a2), some (.ref a3), some (.int (iI ((p : Int)))), some (.int (iI i))]) (st' := [.ref (c + 25)]) rfl rfl ?_
            refine go_get (v := .ref (c + 26)) rfl (hK.1 16 (by decide)) rfl rfl ?_
            refine go_a (pc' := 86) (ls' := [some (.ref (c + 25)), some (.ref a), some (.ref a2), some (.ref a3), some (.int (iI ((p : Int)))), some (.int (iI i))]) (st' := [.ref a, .ref (c + 26)]) rfl rfl ?_
            refine go_a (pc' := 88) (ls' := [some (.ref (c + 25)), some (.ref a), some (.ref a2), some (.ref a3), some (.int (iI ((p : Int)))), some (.int (iI i))]) (st' := [.int (iI ((p : Int))), .ref a, .ref (c + 26)]) rfl rfl ?_
            refine go_v (m := 230) (as := [.ref a, .int (iI ((p : Int)))]) (r := [.ref (c + 26)]) rfl rfl rfl La.1 rfl rfl (kg_at z (d + 2) (p : Int) a qa n f hp La (by omega) (by omega)) (fun v h3 hq => ?_)
            obtain ⟨rfl, e⟩ := hq
            rw [e, t0]
            clear e h3
            show xx_go (xt_P z) (d + 3) 284 91 [some (.ref (c + 25)), some (.ref a), some (.ref a2), some (.ref a3), some (.int (iI ((p : Int)))), some (.int (iI i))] [.int (iI (f (p : Int))), .ref (c + 26)] hp _
            refine go_v (m := 35) (as := [.ref (c + 26), .int (iI (f (p : Int)))]) (r := []) rfl rfl rfl (hK.1 17 (by decide)) rfl rfl (kb_add z (d + 1) c u hp s (f (p : Int)) (sm f p) hK hB R1 S0 V0 h240) (fun v h3 hq => ?_)
            obtain ⟨rfl, s1, K1, B1, X1, F1, e1, R5, -⟩ := hq
            show xx_go (xt_P z) (d + 3) 284 94 [some (.ref (c + 25)), some (.ref a), some (.ref a2), some (.ref a3), some (.int (iI ((p : Int)))), some (.int (iI i))] [] h3 _
            refine go_a (pc' := 97) (ls' := [some (.ref (c + 25)), some (.ref a), some (.ref a2), some (.ref a3), some (.int (iI (((p : Int)) + 1))), some (.int (iI i))]) (st' := []) rfl (by rw [← iI_add ((p : Int)) 1]; rfl) ?_
            refine go_a (pc' := 100) (ls' := [some (.ref (c + 25)), some (.ref a), some (.ref a2), some (.ref a3), some (.int (iI (((p : Int)) + 1))), some (.int (iI (i + 1)))]) (st' := []) rfl (by rw [← iI_add i 1]; rfl) ?_
            refine go_a (pc' := 20) (ls' := [some (.ref (c + 25)), some (.ref a), some (.ref a2), some (.ref a3), some (.int (iI (((p : Int)) + 1))), some (.int (iI (i + 1)))]) (st' := []) rfl rfl ?_
            rw [repR_n dp c1] at hV9
            refine ih (p + 1) (i + 1) h3 s1 (W ++ [f (p : Int)]) e8 (by omega) (by omega) (by omega) (by omega) K1 B1 (kx_w (kx_tr hX X1) (by decide) (by decide)) (TF_tr hF F1) (TM_kx hT X1) (TM_kx hT2 X1) (TM_kx hT3 X1) ?_ (by omega) (by omega) (by rw [hV9, List.append_assoc]; rfl)
            show RW6 u s1 (sm f p + (tk (f (p : Int)) - 1)) _
            rw [show sm f p + (tk (f (p : Int)) - 1) = sm f p + tk (f (p : Int)) - 1 by omega]
            exact R5
theorem kg_replaced (z : Value) (d c : Nat) (u : Int) (a : Nat) (n : Int) (f : Int → Int) (a2 : Nat) (n2 : Int) (f2 : Int → Int) (a3 : Nat) (n3 : Int) (f3 : Int → Int) (hp : xx_H) (s : KS) (hK : KI c hp s) (hB : KB s) (hT : TM c hp s u a n f) (hT2 : TM c hp s u a2 n2 f2) (hT3 : TM c hp s u a3 n3 f3) : xx_cl (xt_P z) (d + 4) 284 [.ref (c + 25), .ref a, .ref a2, .ref a3] hp (fun v h1 => RPL c hp s u (repR (rl n2 f2) (rl n3 f3) n.toNat (rl n f)) v h1) := by
  have n_ := TM_n hT
  refine cl_go rfl ?_
  show xx_go (xt_P z) (d + 3) 284 0 [some (.ref (c + 25)), some (.ref a), some (.ref a2), some (.ref a3), none, none] [] hp _
  refine go_a (pc' := 1) (ls' := [some (.ref (c + 25)), some (.ref a), some (.ref a2), some (.ref a3), none, none]) (st' := [.ref a]) rfl rfl ?_
  refine go_a (pc' := 6) (ls' := [some (.ref (c + 25)), some (.ref a), some (.ref a2), some (.ref a3), none, none]) (st' := []) rfl rfl ?_
  refine go_a (pc' := 7) (ls' := [some (.ref (c + 25)), some (.ref a), some (.ref a2), some (.ref a3), none, none]) (st' := [.ref (c + 25)]) rfl rfl ?_
  refine go_get (v := .ref (c + 26)) rfl (hK.1 16 (by decide)) rfl rfl ?_
  refine go_a (pc' := 11) (ls' := [some (.ref (c + 25)), some (.ref a), some (.ref a2), some (.ref a3), none, none]) (st' := [.int (iI 0), .ref (c + 26)]) rfl rfl ?_
  refine go_v (m := 39) (as := [.ref (c + 26), .int (iI 0)]) (r := []) rfl rfl rfl (hK.1 17 (by decide)) rfl rfl (kb_cut z (d + 2) c u hp s hK hB) (fun v h3 hq => ?_)
  obtain ⟨rfl, s1, K1, B1, X1, F1, e1, R1⟩ := hq
  show xx_go (xt_P z) (d + 3) 284 14 [some (.ref (c + 25)), some (.ref a), some (.ref a2), some (.ref a3), none, none] [] h3 _
  refine go_a (pc' := 15) (ls' := [some (.ref (c + 25)), some (.ref a), some (.ref a2), some (.ref a3), none, none]) (st' := [.int (iI 0)]) rfl rfl ?_
  refine go_a (pc' := 17) (ls' := [some (.ref (c + 25)), some (.ref a), some (.ref a2), some (.ref a3), some (.int (iI 0)), none]) (st' := []) rfl rfl ?_
  refine go_a (pc' := 18) (ls' := [some (.ref (c + 25)), some (.ref a), some (.ref a2), some (.ref a3), some (.int (iI 0)), none]) (st' := [.int (iI 0)]) rfl rfl ?_
  refine go_a (pc' := 20) (ls' := [some (.ref (c + 25)), some (.ref a), some (.ref a2), some (.ref a3), some (.int (iI 0)), some (.int (iI 0))]) (st' := []) rfl rfl ?_
  exact kg_rep_loop z d c u a n f a2 n2 f2 a3 n3 f3 hp s _ n.toNat 0 0 h3 s1 [] n.toNat (by omega) (by omega) (by decide) (by decide) K1 B1 X1 F1 (TM_kx hT X1) (TM_kx hT2 X1) (TM_kx hT3 X1) R1 (by omega) (by omega) rfl
