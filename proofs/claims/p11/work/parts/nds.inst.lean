def insT : List Int → List (List Int) → Int → List Int
  | v :: G, r :: O, x => if v = x then r else insT G O x
  | _, _, x => [x]
def insF (G : List Int) (O : List (List Int)) (x : Int) : List Int := if x % 4 = 0 then insT G O x else [x]
def insR (G : List Int) (O : List (List Int)) (row : List Int) : List Int := row.flatMap (insF G O)
def ol (m : Int) (nO : Int → Int) (fO : Int → Int → Int) : List (List Int) := (List.range m.toNat).map (fun j : Nat => rl (nO (j : Int)) (fO (j : Int)))
theorem insT_n : ∀ (G : List Int) (O : List (List Int)) (x : Int), (∀ i : Nat, G[i]? ≠ some x) → insT G O x = [x]
  | [], _, _, _ => rfl
  | v :: G, [], _, _ => rfl
  | v :: G, r :: O, x, h => by
    show (if v = x then r else insT G O x) = [x]
    have h0 := h 0
    rw [if_neg (fun e => h0 (by rw [e]; rfl))]
    exact insT_n G O x (fun i => h (i + 1))
theorem insT_o : ∀ (G : List Int) (O : List (List Int)) (x : Int) (j : Nat), (∀ i : Nat, i < j → G[i]? ≠ some x) → O.length ≤ j → insT G O x = [x]
  | [], _, _, _, _, _ => rfl
  | v :: G, [], _, _, _, _ => rfl
  | v :: G, r :: O, x, 0, _, h => absurd h (Nat.not_succ_le_zero _)
  | v :: G, r :: O, x, j + 1, h, l => by
    show (if v = x then r else insT G O x) = [x]
    have h0 := h 0 (Nat.succ_pos _)
    rw [if_neg (fun e => h0 (by rw [e]; rfl))]
    exact insT_o G O x j (fun i hi => h (i + 1) (by omega)) (by rw [List.length_cons] at l; omega)
theorem insT_y : ∀ (G : List Int) (O : List (List Int)) (x : Int) (j : Nat) (q : List Int), (∀ i : Nat, i < j → G[i]? ≠ some x) → G[j]? = some x → O[j]? = some q → insT G O x = q
  | [], _, _, _, _, _, h, _ => by cases h
  | v :: G, [], _, _, _, _, _, h => by cases h
  | v :: G, r :: O, x, 0, q, _, h1, h2 => by
    injection h1 with h1
    injection h2 with h2
    show (if v = x then r else insT G O x) = q
    rw [if_pos h1]
    exact h2
  | v :: G, r :: O, x, j + 1, q, h, h1, h2 => by
    show (if v = x then r else insT G O x) = q
    have h0 := h 0 (Nat.succ_pos _)
    rw [if_neg (fun e => h0 (by rw [e]; rfl))]
    exact insT_y G O x j q (fun i hi => h (i + 1) (by omega)) h1 h2
theorem rl_none {m2 : Int} {g : Int → Int} {x : Int} {j : Nat} (h : ∀ i : Int, 0 ≤ i → i < j → i < m2 → g i ≠ x) : ∀ i : Nat, i < j → (rl m2 g)[i]? ≠ some x := by
  intro i hi e
  by_cases c : (i : Int) < m2
  · rw [rl_get c] at e
    injection e with e
    exact h i (by omega) (by omega) c e
  · rw [List.getElem?_eq_none (by rw [rl_len]; omega)] at e
    cases e
theorem insF_v {m2 m j x : Int} {g : Int → Int} {nO : Int → Int} {fO : Int → Int → Int} (c : x % 4 = 0) (hj : (j = -1 ∧ ∀ i : Int, 0 ≤ i → i < m2 → g i ≠ x) ∨ (0 ≤ j ∧ j < m2 ∧ g j = x ∧ ∀ i : Int, 0 ≤ i → i < j → g i ≠ x)) : insF (rl m2 g) (ol m nO fO) x = if 0 ≤ j ∧ j < m then rl (nO j) (fO j) else [x] := by
  unfold insF
  rw [if_pos c]
  rcases hj with ⟨h1, h2⟩ | ⟨h1, h2, h3, h4⟩
  · rw [if_neg (by omega)]
    exact insT_n _ _ _ (fun i => rl_none (j := i + 1) (fun i a b e => h2 i a e) i (Nat.lt_succ_self i))
  · have nn : ∀ i : Nat, i < j.toNat → (rl m2 g)[i]? ≠ some x := rl_none (fun i a b _ => h4 i a (by omega))
    by_cases l : j < m
    · rw [if_pos ⟨h1, l⟩]
      refine insT_y _ _ _ j.toNat _ nn ?_ ?_
      · rw [rl_get (by omega), show ((j.toNat : Nat) : Int) = j by omega, h3]
      · unfold ol
        rw [List.getElem?_map, List.getElem?_range (by omega)]
        show some (rl (nO ((j.toNat : Nat) : Int)) (fO ((j.toNat : Nat) : Int))) = _
        rw [show ((j.toNat : Nat) : Int) = j by omega]
    · rw [if_neg (by omega)]
      refine insT_o _ _ _ j.toNat nn ?_
      unfold ol
      rw [List.length_map, List.length_range]
      omega
theorem rl_split {n : Int} {f : Int → Int} {k : Nat} (h : (k : Int) ≤ n) : rl n f = rl k f ++ rl (n - k) (fun i => f (i + k)) := by
  have := rl_app (n := (k : Int)) (m := n - k) (f := f) (g := fun i => f (i + k)) (by omega) (by omega) (fun i _ _ => by rw [Int.add_comm])
  rw [show (k : Int) + (n - k) = n by omega] at this
  exact this
theorem insR_s {G : List Int} {O : List (List Int)} {f : Int → Int} {k : Nat} : insR G O (rl ((k + 1 : Nat) : Int) f) = insR G O (rl k f) ++ insF G O (f k) := by
  unfold insR
  rw [show ((k + 1 : Nat) : Int) = (k : Int) + 1 by omega, rl_s (by omega), List.flatMap_append]
  congr 1
  show insF G O (f k) ++ [] = _
  rw [List.append_nil]
theorem insR_le {G : List Int} {O : List (List Int)} {n : Int} {f : Int → Int} {k : Nat} (h : (k : Int) ≤ n) : (insR G O (rl k f)).length ≤ (insR G O (rl n f)).length := by
  unfold insR
  rw [rl_split h, List.flatMap_append, List.length_append]
  omega
def OTH (c : Nat) (hp : xx_H) (s : KS) (u : Int) (t : Nat) (m : Int) (O : Int → Option Nat) (nO : Int → Int) (fO : Int → Int → Int) : Prop := hp[t]? = some (.inl (.object "ClauseKernel$Term", xa_r m.toNat O)) ∧ kn c s t ∧ (0 ≤ m ∧ m ≤ 1000) ∧ ∀ j : Int, 0 ≤ j → j < m → ∃ a : Nat, O j = some a ∧ TM c hp s u a (nO j) (fO j)
theorem OTH_kx {c : Nat} {hp hp1 : xx_H} {s s1 : KS} {x y u m : Int} {t : Nat} {O : Int → Option Nat} {nO : Int → Int} {fO : Int → Int → Int} (h : OTH c hp s u t m O nO fO) (X : kx c hp s hp1 s1 x y) : OTH c hp1 s1 u t m O nO fO := by
  obtain ⟨h1, h2, h3, h4⟩ := h
  have e := X.2.1 t (List.getElem?_eq_some_iff.mp h1).1 h2
  refine ⟨e.2.trans h1, e.1, h3, fun j a b => ?_⟩
  obtain ⟨w, p, q⟩ := h4 j a b
  exact ⟨w, p, TM_kx q X⟩
theorem KAL_kx {c : Nat} {hp hp1 : xx_H} {s s1 : KS} {x y n : Int} {q : Nat} {f : Int → Int} (h : KAL hp q n f) (k : kn c s q) (X : kx c hp s hp1 s1 x y) : KAL hp1 q n f ∧ kn c s1 q := by
  have e := X.2.1 q (List.getElem?_eq_some_iff.mp h.1).1 k
  exact ⟨⟨e.2.trans h.1, h.2⟩, e.1⟩
theorem mk_ald {P : xx_P} {d k pc a n : Nat} {ls : xx_L} {r : List Value} {hp : xx_H} {Q : Option Value → xx_H → Prop} {O : Int → Option Nat} {e : Int} {ty : FieldType} (hc : xp_code P k pc = some .aaload) (hh : hp[a]? = some (.inl (ty, xa_r n O))) (ht : xx_isr ty = true) (h0 : 0 ≤ e) (h1 : e < n) (h2 : n ≤ 1000000) (hg : xx_go P d k (pc + 1) ls (xr_v (O e) :: r) hp Q) : xx_go P d k pc ls (.int (iI e) :: .ref a :: r) hp Q := by
  refine go_ald (m := e.toNat) hc hh ht (iI_nn h0 (by omega)) (iI_clamp h0 (by omega)) ?_ hg
  rw [xa_r_get (by omega), show ((e.toNat : Nat) : Int) = e by omega]
def INS (c : Nat) (hp : xx_H) (s : KS) (u n : Int) (f : Int → Int) (M m : Int) (fO : Int → Int → Int) (V : List Int) (v : Option Value) (h1 : xx_H) : Prop := ∃ s1 : KS, KI c h1 s1 ∧ KB s1 ∧ TF s s1 ∧ ((v = some .null ∧ kx c hp s h1 s1 0 0 ∧ M ≠ 1 ∧ 120 < V.length) ∨ ∃ (a : Nat) (N : Int) (g : Int → Int), v = some (.ref a) ∧ N ≤ n * M ∧ N ≤ 120 ∧ hp.length ≤ a ∧ kx c hp s h1 s1 2 (N + 1) ∧ TM c h1 s1 u a N g ∧ (M = 1 → N = n ∧ ∀ i : Int, 0 ≤ i → i < n → g i = f i ∨ (f i % 4 = 0 ∧ ∃ j : Int, 0 ≤ j ∧ j < m ∧ g i = fO j 0)) ∧ rl N g = V)
def INR (u n : Int) (f : Int → Int) (M m : Int) (fO : Int → Int → Int) (W : List Int) (k : Nat) (s : KS) : Prop := RW6 u s (sm f k) W ∧ (k : Int) ≤ s.I 6 ∧ s.I 6 ≤ k * M ∧ (M = 1 → ∀ i : Int, 0 ≤ i → i < k → s.A 6 i = f i ∨ (f i % 4 = 0 ∧ ∃ j : Int, 0 ≤ j ∧ j < m ∧ s.A 6 i = fO j 0))
theorem kg_inst_loop (z : Value) (d c : Nat) (u M : Int) (a : Nat) (n : Int) (f : Int → Int) (w : Nat) (m2 : Int) (g : Int → Int) (t : Nat) (m : Int) (O : Int → Option Nat) (nO : Int → Int) (fO : Int → Int → Int) (hp0 : xx_H) (s0 : KS) (M1 : 1 ≤ M) (hM : ∀ j : Int, 0 ≤ j → j < m → nO j ≤ M) : ∀ (x : Nat) (k : Nat) (y5 y6 y7 : Option Value) (hp : xx_H) (s : KS), n - k ≤ x → (k : Int) ≤ n → KI c hp s → KB s → kx c hp0 s0 hp s 0 0 → TF s0 s → TM c hp s u a n f → KAL hp w m2 g → kn c s w → OTH c hp s u t m O nO fO → INR u n f M m fO (insR (rl m2 g) (ol m nO fO) (rl k f)) k s → s.I 6 ≤ 240 → xx_go (xt_P z) (d + 3) 281 17 [some (.ref (c + 25)), some (.ref a), some (.ref w), some (.ref t), some (.int (iI (k : Int))), y5, y6, y7] [] hp (fun v h1 => INS c hp0 s0 u n f M m fO (insR (rl m2 g) (ol m nO fO) (rl n f)) v h1) := by
  intro x
  induction x with
  | zero =>
    intro k y5 y6 y7 hp s hx hk hK hB hX hF hT hA kw hO hR h240
    have n_ := TM_n hT
    obtain ⟨qa, La, Laa, Laq⟩ := TMq hT
    obtain ⟨R1, R2, R3, R4⟩ := hR
    have b4 := hB.2.2.2.1 6 (by decide)
    refine go_a (pc' := 19) (ls' := [some (.ref (c + 25)), some (.ref a), some (.ref w), some (.ref t), some (.int (iI ((k : Int)))), y5, y6, y7]) (st' := [.int (iI ((k : Int)))]) rfl rfl ?_
    refine go_a (pc' := 20) (ls' := [some (.ref (c + 25)), some (.ref a), some (.ref w), some (.ref t), some (.int (iI ((k : Int)))), y5, y6, y7]) (st' := [.ref a, .int (iI ((k : Int)))]) rfl rfl ?_
    refine go_v (m := 229) (as := [.ref a]) (r := [.int (iI ((k : Int)))]) rfl rfl rfl La.1 rfl rfl (kg_length z (d + 2) a qa n f hp La) (fun v h3 hq => ?_)
    obtain ⟨rfl, e⟩ := hq
    rw [e]
    clear e h3
    show xx_go (xt_P z) (d + 3) 281 23 [some (.ref (c + 25)), some (.ref a), some (.ref w), some (.ref t), some (.int (iI ((k : Int)))), y5, y6, y7] [.int (iI n), .int (iI ((k : Int)))] hp _
    refine mi_ge (t := 123) rfl rfl (by omega) (by omega) (by omega) (by omega) (fun _ => ?_) (fun w => absurd (show (k : Int) ≥ n by omega) w)
    refine go_a (pc' := 124) (ls' := [some (.ref (c + 25)), some (.ref a), some (.ref w), some (.ref t), some (.int (iI ((k : Int)))), y5, y6, y7]) (st' := [.ref (c + 25)]) rfl rfl ?_
    have en : (k : Int) = n := by omega
    have W1 := hT.2.1.2
    rw [show n.toNat = k by omega] at W1
    rw [W1] at R1
    refine go_v (m := 223) (as := [.ref (c + 25)]) (r := []) rfl rfl rfl (hK.1 16 (by decide)) rfl rfl (kb_made z d c u hp s hK hB R1) (fun v h9 hq => ?_)
    rcases hq with ⟨c9, rfl, e9⟩ | ⟨c9, rfl, K9, X9, T9⟩
    · rw [e9]
      show xx_go (xt_P z) (d + 3) 281 127 [some (.ref (c + 25)), some (.ref a), some (.ref w), some (.ref t), some (.int (iI ((k : Int)))), y5, y6, y7] [.null] hp _
      exact go_r rfl rfl rfl rfl rfl rfl ⟨s, hK, hB, hF, Or.inl ⟨rfl, hX, fun e => by rw [e] at R3; omega, by have l9 := congrArg List.length R1.2.2.2; rw [rl_len, en] at l9; omega⟩⟩
    · show xx_go (xt_P z) (d + 3) 281 127 [some (.ref (c + 25)), some (.ref a), some (.ref w), some (.ref t), some (.int (iI ((k : Int)))), y5, y6, y7] [.ref hp.length] h9 _
      exact go_r rfl rfl rfl rfl rfl rfl ⟨s, K9, hB, hF, Or.inr ⟨_, _, _, rfl, by rw [← en]; exact R3, c9, hX.1, kx_w (kx_tr hX X9) (by omega) (by omega), T9, fun e => ⟨by rw [e] at R3; omega, fun i i0 i1 => R4 e i i0 (by omega)⟩, by rw [R1.2.2.2, en]⟩⟩
  | succ x ih =>
    intro k y5 y6 y7 hp s hx hk hK hB hX hF hT hA kw hO hR h240
    have n_ := TM_n hT
    obtain ⟨qa, La, Laa, Laq⟩ := TMq hT
    obtain ⟨R1, R2, R3, R4⟩ := hR
    have b4 := hB.2.2.2.1 6 (by decide)
    refine go_a (pc' := 19) (ls' := [some (.ref (c + 25)), some (.ref a), some (.ref w), some (.ref t), some (.int (iI ((k : Int)))), y5, y6, y7]) (st' := [.int (iI ((k : Int)))]) rfl rfl ?_
    refine go_a (pc' := 20) (ls' := [some (.ref (c + 25)), some (.ref a), some (.ref w), some (.ref t), some (.int (iI ((k : Int)))), y5, y6, y7]) (st' := [.ref a, .int (iI ((k : Int)))]) rfl rfl ?_
    refine go_v (m := 229) (as := [.ref a]) (r := [.int (iI ((k : Int)))]) rfl rfl rfl La.1 rfl rfl (kg_length z (d + 2) a qa n f hp La) (fun v h3 hq => ?_)
    obtain ⟨rfl, e⟩ := hq
    rw [e]
    clear e h3
    show xx_go (xt_P z) (d + 3) 281 23 [some (.ref (c + 25)), some (.ref a), some (.ref w), some (.ref t), some (.int (iI ((k : Int)))), y5, y6, y7] [.int (iI n), .int (iI ((k : Int)))] hp _
    refine mi_ge (t := 123) rfl rfl (by omega) (by omega) (by omega) (by omega) (fun w1 => ?_) (fun w1 => ?_)
    · refine go_a (pc' := 124) (ls' := [some (.ref (c + 25)), some (.ref a), some (.ref w), some (.ref t), some (.int (iI ((k : Int)))), y5, y6, y7]) (st' := [.ref (c + 25)]) rfl rfl ?_
      have en : (k : Int) = n := by omega
      have W1 := hT.2.1.2
      rw [show n.toNat = k by omega] at W1
      rw [W1] at R1
      refine go_v (m := 223) (as := [.ref (c + 25)]) (r := []) rfl rfl rfl (hK.1 16 (by decide)) rfl rfl (kb_made z d c u hp s hK hB R1) (fun v h9 hq => ?_)
      rcases hq with ⟨c9, rfl, e9⟩ | ⟨c9, rfl, K9, X9, T9⟩
      · rw [e9]
        show xx_go (xt_P z) (d + 3) 281 127 [some (.ref (c + 25)), some (.ref a), some (.ref w), some (.ref t), some (.int (iI ((k : Int)))), y5, y6, y7] [.null] hp _
        exact go_r rfl rfl rfl rfl rfl rfl ⟨s, hK, hB, hF, Or.inl ⟨rfl, hX, fun e => by rw [e] at R3; omega, by have l9 := congrArg List.length R1.2.2.2; rw [rl_len, en] at l9; omega⟩⟩
      · show xx_go (xt_P z) (d + 3) 281 127 [some (.ref (c + 25)), some (.ref a), some (.ref w), some (.ref t), some (.int (iI ((k : Int)))), y5, y6, y7] [.ref hp.length] h9 _
        exact go_r rfl rfl rfl rfl rfl rfl ⟨s, K9, hB, hF, Or.inr ⟨_, _, _, rfl, by rw [← en]; exact R3, c9, hX.1, kx_w (kx_tr hX X9) (by omega) (by omega), T9, fun e => ⟨by rw [e] at R3; omega, fun i i0 i1 => R4 e i i0 (by omega)⟩, by rw [R1.2.2.2, en]⟩⟩
    · refine go_a (pc' := 27) (ls' := [some (.ref (c + 25)), some (.ref a), some (.ref w), some (.ref t), some (.int (iI ((k : Int)))), y5, y6, y7]) (st' := [.ref (c + 25)]) rfl rfl ?_
      refine go_get (v := .ref (c + 26)) rfl (hK.1 16 (by decide)) rfl rfl ?_
      refine go_v (m := 34) (as := [.ref (c + 26)]) (r := []) rfl rfl rfl (hK.1 17 (by decide)) rfl rfl (kr_length_6 z (d + 2) c hp s hK) (fun v h3 hq => ?_)
      obtain ⟨rfl, e⟩ := hq
      rw [e]
      clear e h3
      show xx_go (xt_P z) (d + 3) 281 33 [some (.ref (c + 25)), some (.ref a), some (.ref w), some (.ref t), some (.int (iI ((k : Int)))), y5, y6, y7] [.int (iI (s.I 6))] hp _
      refine go_a (pc' := 35) (ls' := [some (.ref (c + 25)), some (.ref a), some (.ref w), some (.ref t), some (.int (iI ((k : Int)))), y5, y6, y7]) (st' := [.int (iI 120), .int (iI (s.I 6))]) rfl rfl ?_
      refine mi_gt (t := 123) rfl rfl (by omega) (by omega) (by omega) (by omega) (fun w2 => ?_) (fun w2 => ?_)
      · refine go_a (pc' := 124) (ls' := [some (.ref (c + 25)), some (.ref a), some (.ref w), some (.ref t), some (.int (iI ((k : Int)))), y5, y6, y7]) (st' := [.ref (c + 25)]) rfl rfl ?_
        refine go_v (m := 223) (as := [.ref (c + 25)]) (r := []) rfl rfl rfl (hK.1 16 (by decide)) rfl rfl (kg_made z d c hp s hK hB) (fun v h9 hq => ?_)
        rcases hq with ⟨-, rfl, e9⟩ | ⟨c9, -⟩
        · rw [e9]
          show xx_go (xt_P z) (d + 3) 281 127 [some (.ref (c + 25)), some (.ref a), some (.ref w), some (.ref t), some (.int (iI ((k : Int)))), y5, y6, y7] [.null] hp _
          exact go_r rfl rfl rfl rfl rfl rfl ⟨s, hK, hB, hF, Or.inl ⟨rfl, hX, fun e => by rw [e] at R3; omega, by have l9 := congrArg List.length R1.2.2.2; have l8 := insR_le (G := rl m2 g) (O := ol m nO fO) (f := f) hk; rw [rl_len] at l9; omega⟩⟩
        · exact absurd c9 (by omega)
      · have t0 : tat n f (k : Int) = f (k : Int) := if_pos (by omega)
        have V0 := hT.2.2 (k : Int) (by omega) (by omega)
        have V1 := V0.1
        have V2 := V0.2.1
        have S0 := hT.2.1.1 k (by omega)
        have KM1 : ((k + 1 : Nat) : Int) * M = k * M + M := by rw [show ((k + 1 : Nat) : Int) = (k : Int) + 1 by omega, Int.add_mul, Int.one_mul]
        refine go_a (pc' := 39) (ls' := [some (.ref (c + 25)), some (.ref a), some (.ref w), some (.ref t), some (.int (iI ((k : Int)))), y5, y6, y7]) (st' := [.ref a]) rfl rfl ?_
        refine go_a (pc' := 41) (ls' := [some (.ref (c + 25)), some (.ref a), some (.ref w), some (.ref t), some (.int (iI ((k : Int)))), y5, y6, y7]) (st' := [.int (iI ((k : Int))), .ref a]) rfl rfl ?_
        refine go_v (m := 230) (as := [.ref a, .int (iI ((k : Int)))]) (r := []) rfl rfl rfl La.1 rfl rfl (kg_at z (d + 2) (k : Int) a qa n f hp La (by omega) (by omega)) (fun v h3 hq => ?_)
        obtain ⟨rfl, e⟩ := hq
        rw [e, t0]
        clear e h3
        show xx_go (xt_P z) (d + 3) 281 44 [some (.ref (c + 25)), some (.ref a), some (.ref w), some (.ref t), some (.int (iI ((k : Int)))), y5, y6, y7] [.int (iI (f (k : Int)))] hp _
        refine go_a (pc' := 46) (ls' := [some (.ref (c + 25)), some (.ref a), some (.ref w), some (.ref t), some (.int (iI ((k : Int)))), some (.int (iI (f (k : Int)))), y6, y7]) (st' := []) rfl rfl ?_
        refine go_a (pc' := 48) (ls' := [some (.ref (c + 25)), some (.ref a), some (.ref w), some (.ref t), some (.int (iI ((k : Int)))), some (.int (iI (f (k : Int)))), y6, y7]) (st' := [.int (iI (f (k : Int)))]) rfl rfl ?_
        have nul : insF (rl m2 g) (ol m nO fO) (f (k : Int)) = [f (k : Int)] → ∀ p6 : Option Value, xx_go (xt_P z) (d + 3) 281 88 [some (.ref (c + 25)), some (.ref a), some (.ref w), some (.ref t), some (.int (iI ((k : Int)))), some (.int (iI (f (k : Int)))), p6, some (.null)] [] hp (fun v h1 => INS c hp0 s0 u n f M m fO (insR (rl m2 g) (ol m nO fO) (rl n f)) v h1) := by
          intro hF1 p6
          refine go_a (pc' := 90) (ls' := [some (.ref (c + 25)), some (.ref a), some (.ref w), some (.ref t), some (.int (iI ((k : Int)))), some (.int (iI (f (k : Int)))), p6, some (.null)]) (st' := [.null]) rfl rfl ?_
          refine go_a (pc' := 93) (ls' := [some (.ref (c + 25)), some (.ref a), some (.ref w), some (.ref t), some (.int (iI ((k : Int)))), some (.int (iI (f (k : Int)))), p6, some (.null)]) (st' := []) rfl rfl ?_
          refine go_a (pc' := 94) (ls' := [some (.ref (c + 25)), some (.ref a), some (.ref w), some (.ref t), some (.int (iI ((k : Int)))), some (.int (iI (f (k : Int)))), p6, some (.null)]) (st' := [.ref (c + 25)]) rfl rfl ?_
          refine go_get (v := .ref (c + 26)) rfl (hK.1 16 (by decide)) rfl rfl ?_
          refine go_a (pc' := 99) (ls' := [some (.ref (c + 25)), some (.ref a), some (.ref w), some (.ref t), some (.int (iI ((k : Int)))), some (.int (iI (f (k : Int)))), p6, some (.null)]) (st' := [.int (iI (f (k : Int))), .ref (c + 26)]) rfl rfl ?_
          refine go_v (m := 35) (as := [.ref (c + 26), .int (iI (f (k : Int)))]) (r := []) rfl rfl rfl (hK.1 17 (by decide)) rfl rfl (kb_add z (d + 1) c u hp s (f (k : Int)) (sm f k) hK hB R1 S0 V0 h240) (fun v h3 hq => ?_)
          obtain ⟨rfl, s1, K1, B1, X1, F1, e1, R5⟩ := hq
          show xx_go (xt_P z) (d + 3) 281 102 [some (.ref (c + 25)), some (.ref a), some (.ref w), some (.ref t), some (.int (iI ((k : Int)))), some (.int (iI (f (k : Int)))), p6, some (.null)] [] h3 _
          refine go_a (pc' := 117) (ls' := [some (.ref (c + 25)), some (.ref a), some (.ref w), some (.ref t), some (.int (iI ((k : Int)))), some (.int (iI (f (k : Int)))), p6, some (.null)]) (st' := []) rfl rfl ?_
          refine go_a (pc' := 120) (ls' := [some (.ref (c + 25)), some (.ref a), some (.ref w), some (.ref t), some (.int (iI (((k : Int)) + 1))), some (.int (iI (f (k : Int)))), p6, some (.null)]) (st' := []) rfl (by rw [← iI_add ((k : Int)) 1]; rfl) ?_
          refine go_a (pc' := 17) (ls' := [some (.ref (c + 25)), some (.ref a), some (.ref w), some (.ref t), some (.int (iI (((k : Int)) + 1))), some (.int (iI (f (k : Int)))), p6, some (.null)]) (st' := []) rfl rfl ?_
          obtain ⟨LA, kw1⟩ := KAL_kx hA kw X1
          refine ih (k + 1) _ _ _ h3 s1 (by omega) (by omega) K1 B1 (kx_w (kx_tr hX X1) (by decide) (by decide)) (TF_tr hF F1) (TM_kx hT X1) LA kw1 (OTH_kx hO X1) ⟨?_, by omega, by omega, fun e i i0 i1 => ?_⟩ (by omega)
          · rw [insR_s, hF1]
            show RW6 u s1 (sm f k + (tk (f (k : Int)) - 1)) _
            rw [show sm f k + (tk (f (k : Int)) - 1) = sm f k + tk (f (k : Int)) - 1 by omega]
            exact R5.1
          · rw [e] at R3
            by_cases ci : i < k
            · rw [R5.2.1 i (by omega)]
              exact R4 e i i0 ci
            · refine Or.inl ?_
              rw [show i = s.I 6 by omega, R5.2.2.1]
              rw [show s.I 6 = (k : Int) by omega]
        refine go_s (m := 227) (as := [.int (iI (f (k : Int)))]) (r := []) rfl rfl rfl rfl (kg_isVariable z (d + 2) (f (k : Int)) hp) (fun v h3 hq => ?_)
        obtain ⟨hq, e⟩ := hq
        rw [e]
        clear e h3
        rcases hq with ⟨c1, rfl⟩ | ⟨c1, rfl⟩
        · show xx_go (xt_P z) (d + 3) 281 51 [some (.ref (c + 25)), some (.ref a), some (.ref w), some (.ref t), some (.int (iI ((k : Int)))), some (.int (iI (f (k : Int)))), y6, y7] [.int (iI 1)] hp _
          refine mi_eq0 (t := 63) rfl rfl (by omega) (by omega) (fun q => absurd q (by decide)) (fun _ => ?_)
          refine go_a (pc' := 56) (ls' := [some (.ref (c + 25)), some (.ref a), some (.ref w), some (.ref t), some (.int (iI ((k : Int)))), some (.int (iI (f (k : Int)))), y6, y7]) (st' := [.int (iI (f (k : Int)))]) rfl rfl ?_
          refine go_a (pc' := 57) (ls' := [some (.ref (c + 25)), some (.ref a), some (.ref w), some (.ref t), some (.int (iI ((k : Int)))), some (.int (iI (f (k : Int)))), y6, y7]) (st' := [.ref w, .int (iI (f (k : Int)))]) rfl rfl ?_
          refine go_s (m := 207) (as := [.int (iI (f (k : Int))), .ref w]) (r := []) rfl rfl rfl rfl (kg_placeOf z (d + 2) (f (k : Int)) w m2 g hp hA (by omega) (by omega)) (fun v h3 hq => ?_)
          obtain ⟨⟨j, rfl, hj⟩, e⟩ := hq
          rw [e]
          clear e h3
          have mb := hA.2.1
          have jr : -1 ≤ j ∧ j ≤ 1000 := by
            rcases hj with ⟨hj, -⟩ | ⟨h1, h2, -⟩ <;> omega
          show xx_go (xt_P z) (d + 3) 281 60 [some (.ref (c + 25)), some (.ref a), some (.ref w), some (.ref t), some (.int (iI ((k : Int)))), some (.int (iI (f (k : Int)))), y6, y7] [.int (iI j)] hp _
          refine go_a (pc' := 64) (ls' := [some (.ref (c + 25)), some (.ref a), some (.ref w), some (.ref t), some (.int (iI ((k : Int)))), some (.int (iI (f (k : Int)))), y6, y7]) (st' := [.int (iI j)]) rfl rfl ?_
          refine go_a (pc' := 66) (ls' := [some (.ref (c + 25)), some (.ref a), some (.ref w), some (.ref t), some (.int (iI ((k : Int)))), some (.int (iI (f (k : Int)))), some (.int (iI j)), y7]) (st' := []) rfl rfl ?_
          refine go_a (pc' := 68) (ls' := [some (.ref (c + 25)), some (.ref a), some (.ref w), some (.ref t), some (.int (iI ((k : Int)))), some (.int (iI (f (k : Int)))), some (.int (iI j)), y7]) (st' := [.int (iI j)]) rfl rfl ?_
          refine mi_lt0 (t := 85) rfl rfl (by omega) (by omega) (fun w5 => ?_) (fun w5 => ?_)
          · refine go_a (pc' := 86) (ls' := [some (.ref (c + 25)), some (.ref a), some (.ref w), some (.ref t), some (.int (iI ((k : Int)))), some (.int (iI (f (k : Int)))), some (.int (iI j)), y7]) (st' := [.null]) rfl rfl ?_
            refine go_a (pc' := 88) (ls' := [some (.ref (c + 25)), some (.ref a), some (.ref w), some (.ref t), some (.int (iI ((k : Int)))), some (.int (iI (f (k : Int)))), some (.int (iI j)), some (.null)]) (st' := []) rfl rfl ?_
            exact nul (by rw [insF_v c1 hj, if_neg (by omega)]) _
          · have mo := hO.2.2.1
            refine go_a (pc' := 73) (ls' := [some (.ref (c + 25)), some (.ref a), some (.ref w), some (.ref t), some (.int (iI ((k : Int)))), some (.int (iI (f (k : Int)))), some (.int (iI j)), y7]) (st' := [.int (iI j)]) rfl rfl ?_
            refine go_a (pc' := 74) (ls' := [some (.ref (c + 25)), some (.ref a), some (.ref w), some (.ref t), some (.int (iI ((k : Int)))), some (.int (iI (f (k : Int)))), some (.int (iI j)), y7]) (st' := [.ref t, .int (iI j)]) rfl rfl ?_
            refine mk_len (n := m) rfl hO.1 (xa_r_len _ _) (by omega) (by omega) ?_
            refine mi_ge (t := 85) rfl rfl (by omega) (by omega) (by omega) (by omega) (fun w6 => ?_) (fun w6 => ?_)
            · refine go_a (pc' := 86) (ls' := [some (.ref (c + 25)), some (.ref a), some (.ref w), some (.ref t), some (.int (iI ((k : Int)))), some (.int (iI (f (k : Int)))), some (.int (iI j)), y7]) (st' := [.null]) rfl rfl ?_
              refine go_a (pc' := 88) (ls' := [some (.ref (c + 25)), some (.ref a), some (.ref w), some (.ref t), some (.int (iI ((k : Int)))), some (.int (iI (f (k : Int)))), some (.int (iI j)), some (.null)]) (st' := []) rfl rfl ?_
              exact nul (by rw [insF_v c1 hj, if_neg (by omega)]) _
            · refine go_a (pc' := 79) (ls' := [some (.ref (c + 25)), some (.ref a), some (.ref w), some (.ref t), some (.int (iI ((k : Int)))), some (.int (iI (f (k : Int)))), some (.int (iI j)), y7]) (st' := [.ref t]) rfl rfl ?_
              refine go_a (pc' := 81) (ls' := [some (.ref (c + 25)), some (.ref a), some (.ref w), some (.ref t), some (.int (iI ((k : Int)))), some (.int (iI (f (k : Int)))), some (.int (iI j)), y7]) (st' := [.int (iI j), .ref t]) rfl rfl ?_
              refine mk_ald rfl hO.1 rfl (by omega) (by omega) (by omega) ?_
              obtain ⟨b, eb, Tb⟩ := hO.2.2.2 j (by omega) (by omega)
              rw [eb]
              show xx_go (xt_P z) (d + 3) 281 82 [some (.ref (c + 25)), some (.ref a), some (.ref w), some (.ref t), some (.int (iI ((k : Int)))), some (.int (iI (f (k : Int)))), some (.int (iI j)), y7] [.ref b] hp _
              have nb := TM_n Tb
              have Mb := hM j (by omega) (by omega)
              obtain ⟨qb, Lb, Lba, Lbq⟩ := TMq Tb
              have tz : tk (f (k : Int)) = 0 := by
                rcases V0.2.2.1 with q | q
                · exact absurd q.1 (by omega)
                · exact q.2
              refine go_a (pc' := 86) (ls' := [some (.ref (c + 25)), some (.ref a), some (.ref w), some (.ref t), some (.int (iI ((k : Int)))), some (.int (iI (f (k : Int)))), some (.int (iI j)), y7]) (st' := [.ref b]) rfl rfl ?_
              refine go_a (pc' := 88) (ls' := [some (.ref (c + 25)), some (.ref a), some (.ref w), some (.ref t), some (.int (iI ((k : Int)))), some (.int (iI (f (k : Int)))), some (.int (iI j)), some (.ref b)]) (st' := []) rfl rfl ?_
              refine go_a (pc' := 90) (ls' := [some (.ref (c + 25)), some (.ref a), some (.ref w), some (.ref t), some (.int (iI ((k : Int)))), some (.int (iI (f (k : Int)))), some (.int (iI j)), some (.ref b)]) (st' := [.ref b]) rfl rfl ?_
              refine go_a (pc' := 105) (ls' := [some (.ref (c + 25)), some (.ref a), some (.ref w), some (.ref t), some (.int (iI ((k : Int)))), some (.int (iI (f (k : Int)))), some (.int (iI j)), some (.ref b)]) (st' := []) rfl rfl ?_
              refine go_a (pc' := 106) (ls' := [some (.ref (c + 25)), some (.ref a), some (.ref w), some (.ref t), some (.int (iI ((k : Int)))), some (.int (iI (f (k : Int)))), some (.int (iI j)), some (.ref b)]) (st' := [.ref (c + 25)]) rfl rfl ?_
              refine go_get (v := .ref (c + 26)) rfl (hK.1 16 (by decide)) rfl rfl ?_
              refine go_a (pc' := 111) (ls' := [some (.ref (c + 25)), some (.ref a), some (.ref w), some (.ref t), some (.int (iI ((k : Int)))), some (.int (iI (f (k : Int)))), some (.int (iI j)), some (.ref b)]) (st' := [.ref b, .ref (c + 26)]) rfl rfl ?_
              refine go_get (v := .ref qb) rfl Lb.1 rfl rfl ?_
              refine go_v (m := 260) (as := [.ref (c + 26), .ref qb]) (r := []) rfl rfl rfl (hK.1 17 (by decide)) rfl rfl (kb_all z (d + 1) c u hp s qb (nO j) (sm f k) (fO j) hK hB R1 S0 ⟨Lb.2.1, ⟨by omega, by omega⟩, Lb.2.2.2⟩ Lbq nb.2 Tb.2.1 Tb.2.2 (by omega)) (fun v h3 hq => ?_)
              obtain ⟨rfl, s1, K1, B1, X1, F1, e1, R5⟩ := hq
              show xx_go (xt_P z) (d + 3) 281 117 [some (.ref (c + 25)), some (.ref a), some (.ref w), some (.ref t), some (.int (iI ((k : Int)))), some (.int (iI (f (k : Int)))), some (.int (iI j)), some (.ref b)] [] h3 _
              refine go_a (pc' := 120) (ls' := [some (.ref (c + 25)), some (.ref a), some (.ref w), some (.ref t), some (.int (iI (((k : Int)) + 1))), some (.int (iI (f (k : Int)))), some (.int (iI j)), some (.ref b)]) (st' := []) rfl (by rw [← iI_add ((k : Int)) 1]; rfl) ?_
              refine go_a (pc' := 17) (ls' := [some (.ref (c + 25)), some (.ref a), some (.ref w), some (.ref t), some (.int (iI (((k : Int)) + 1))), some (.int (iI (f (k : Int)))), some (.int (iI j)), some (.ref b)]) (st' := []) rfl rfl ?_
              obtain ⟨LA, kw1⟩ := KAL_kx hA kw X1
              refine ih (k + 1) _ _ _ h3 s1 (by omega) (by omega) K1 B1 (kx_w (kx_tr hX X1) (by decide) (by decide)) (TF_tr hF F1) (TM_kx hT X1) LA kw1 (OTH_kx hO X1) ⟨?_, by omega, by omega, fun e i i0 i1 => ?_⟩ (by omega)
              · rw [insR_s, insF_v c1 hj, if_pos ⟨by omega, by omega⟩]
                show RW6 u s1 (sm f k + (tk (f (k : Int)) - 1)) _
                rw [tz, show sm f k + (0 - 1) = sm f k - 1 by omega]
                exact R5.1
              · rw [e] at R3 Mb
                by_cases ci : i < k
                · rw [R5.2.1 i (by omega)]
                  exact R4 e i i0 ci
                · rw [show i = (k : Int) by omega]
                  refine Or.inr ⟨c1, j, by omega, by omega, ?_⟩
                  have := R5.2.2 0 (by decide) (by omega)
                  rw [show s.I 6 + 0 = (k : Int) by omega] at this
                  exact this
        · show xx_go (xt_P z) (d + 3) 281 51 [some (.ref (c + 25)), some (.ref a), some (.ref w), some (.ref t), some (.int (iI ((k : Int)))), some (.int (iI (f (k : Int)))), y6, y7] [.int (iI 0)] hp _
          refine mi_eq0 (t := 63) rfl rfl (by omega) (by omega) (fun _ => ?_) (fun q => absurd rfl q)
          refine go_a (pc' := 64) (ls' := [some (.ref (c + 25)), some (.ref a), some (.ref w), some (.ref t), some (.int (iI ((k : Int)))), some (.int (iI (f (k : Int)))), y6, y7]) (st' := [.int (iI ((-1)))]) rfl rfl ?_
          refine go_a (pc' := 66) (ls' := [some (.ref (c + 25)), some (.ref a), some (.ref w), some (.ref t), some (.int (iI ((k : Int)))), some (.int (iI (f (k : Int)))), some (.int (iI ((-1)))), y7]) (st' := []) rfl rfl ?_
          refine go_a (pc' := 68) (ls' := [some (.ref (c + 25)), some (.ref a), some (.ref w), some (.ref t), some (.int (iI ((k : Int)))), some (.int (iI (f (k : Int)))), some (.int (iI ((-1)))), y7]) (st' := [.int (iI ((-1)))]) rfl rfl ?_
          refine mi_lt0 (t := 85) rfl rfl (by omega) (by omega) (fun _ => ?_) (fun q => absurd (show (-1 : Int) < 0 by decide) q)
          refine go_a (pc' := 86) (ls' := [some (.ref (c + 25)), some (.ref a), some (.ref w), some (.ref t), some (.int (iI ((k : Int)))), some (.int (iI (f (k : Int)))), some (.int (iI ((-1)))), y7]) (st' := [.null]) rfl rfl ?_
          refine go_a (pc' := 88) (ls' := [some (.ref (c + 25)), some (.ref a), some (.ref w), some (.ref t), some (.int (iI ((k : Int)))), some (.int (iI (f (k : Int)))), some (.int (iI ((-1)))), some (.null)]) (st' := []) rfl rfl ?_
          exact nul (if_neg c1) _
theorem kg_instance (z : Value) (d c : Nat) (u M : Int) (a : Nat) (n : Int) (f : Int → Int) (w : Nat) (m2 : Int) (g : Int → Int) (t : Nat) (m : Int) (O : Int → Option Nat) (nO : Int → Int) (fO : Int → Int → Int) (hp : xx_H) (s : KS) (hK : KI c hp s) (hB : KB s) (M1 : 1 ≤ M) (hM : ∀ j : Int, 0 ≤ j → j < m → nO j ≤ M) (hT : TM c hp s u a n f) (hA : KAL hp w m2 g) (kw : kn c s w) (hO : OTH c hp s u t m O nO fO) : xx_cl (xt_P z) (d + 4) 281 [.ref (c + 25), .ref a, .ref w, .ref t] hp (fun v h1 => INS c hp s u n f M m fO (insR (rl m2 g) (ol m nO fO) (rl n f)) v h1) := by
  have n_ := TM_n hT
  refine cl_go rfl ?_
  show xx_go (xt_P z) (d + 3) 281 0 [some (.ref (c + 25)), some (.ref a), some (.ref w), some (.ref t), none, none, none, none] [] hp _
  refine go_a (pc' := 1) (ls' := [some (.ref (c + 25)), some (.ref a), some (.ref w), some (.ref t), none, none, none, none]) (st' := [.ref a]) rfl rfl ?_
  refine go_a (pc' := 6) (ls' := [some (.ref (c + 25)), some (.ref a), some (.ref w), some (.ref t), none, none, none, none]) (st' := []) rfl rfl ?_
  refine go_a (pc' := 7) (ls' := [some (.ref (c + 25)), some (.ref a), some (.ref w), some (.ref t), none, none, none, none]) (st' := [.ref (c + 25)]) rfl rfl ?_
  refine go_get (v := .ref (c + 26)) rfl (hK.1 16 (by decide)) rfl rfl ?_
  refine go_a (pc' := 11) (ls' := [some (.ref (c + 25)), some (.ref a), some (.ref w), some (.ref t), none, none, none, none]) (st' := [.int (iI 0), .ref (c + 26)]) rfl rfl ?_
  refine go_v (m := 39) (as := [.ref (c + 26), .int (iI 0)]) (r := []) rfl rfl rfl (hK.1 17 (by decide)) rfl rfl (kb_cut z (d + 2) c u hp s hK hB) (fun v h3 hq => ?_)
  obtain ⟨rfl, s1, K1, B1, X1, F1, e1, R1⟩ := hq
  show xx_go (xt_P z) (d + 3) 281 14 [some (.ref (c + 25)), some (.ref a), some (.ref w), some (.ref t), none, none, none, none] [] h3 _
  refine go_a (pc' := 15) (ls' := [some (.ref (c + 25)), some (.ref a), some (.ref w), some (.ref t), none, none, none, none]) (st' := [.int (iI 0)]) rfl rfl ?_
  refine go_a (pc' := 17) (ls' := [some (.ref (c + 25)), some (.ref a), some (.ref w), some (.ref t), some (.int (iI 0)), none, none, none]) (st' := []) rfl rfl ?_
  obtain ⟨LA, kw1⟩ := KAL_kx hA kw X1
  exact kg_inst_loop z d c u M a n f w m2 g t m O nO fO hp s M1 hM n.toNat 0 _ _ _ h3 s1 (by omega) (by omega) K1 B1 X1 F1 (TM_kx hT X1) LA kw1 (OTH_kx hO X1) ⟨R1, by rw [e1]; decide, by rw [e1]; exact Int.le_of_eq (Int.zero_mul M).symm, fun e i i0 i1 => absurd i1 (show ¬ i < ((0 : Nat) : Int) by omega)⟩ (by omega)
theorem kg_instancen (z : Value) (d c : Nat) (w t : Nat) (hp : xx_H) : xx_cl (xt_P z) (d + 1) 281 [.ref (c + 25), .null, .ref w, .ref t] hp (fun v h1 => v = some .null ∧ h1 = hp) := by
  refine cl_go rfl ?_
  show xx_go (xt_P z) d 281 0 [some (.ref (c + 25)), some (.null), some (.ref w), some (.ref t), none, none, none, none] [] hp _
  refine go_a (pc' := 1) (ls' := [some (.ref (c + 25)), some (.null), some (.ref w), some (.ref t), none, none, none, none]) (st' := [.null]) rfl rfl ?_
  refine go_a (pc' := 4) (ls' := [some (.ref (c + 25)), some (.null), some (.ref w), some (.ref t), none, none, none, none]) (st' := []) rfl rfl ?_
  refine go_a (pc' := 5) (ls' := [some (.ref (c + 25)), some (.null), some (.ref w), some (.ref t), none, none, none, none]) (st' := [.null]) rfl rfl ?_
  exact go_r rfl rfl rfl rfl rfl rfl ⟨rfl, rfl⟩
