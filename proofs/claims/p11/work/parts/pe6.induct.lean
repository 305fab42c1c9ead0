section BRS
variable {n : Int} {f g : Int → Int}
theorem bhf_ext (h : ∀ i : Int, 0 ≤ i → i < n → tk (f i) = tk (g i)) : ∀ (m : Nat) (o k : Int), 0 ≤ k → bhf n f m o k = bhf n g m o k
  | 0, _, _, _ => rfl
  | m + 1, o, k, k0 => by
    show (if k < n ∧ 0 < o then bhf n f m (o + (tk (f k) - 1)) (k + 1) else k) = (if k < n ∧ 0 < o then bhf n g m (o + (tk (g k) - 1)) (k + 1) else k)
    by_cases c : k < n ∧ 0 < o
    · rw [if_pos c, if_pos c, h k k0 c.1]
      exact bhf_ext h m _ (k + 1) (by omega)
    · rw [if_neg c, if_neg c]
theorem bh_ext (h : ∀ i : Int, 0 ≤ i → i < n → tk (f i) = tk (g i)) (p : Int) : bh n f p = bh n g p := by
  unfold bh
  exact bhf_ext h _ _ _ (by split <;> omega)
theorem BRL_tk {u : Int} (hb : BRL n f g) (v1 : ∀ k : Int, 0 ≤ k → k < n → TVx u (f k)) (v2 : ∀ k : Int, 0 ≤ k → k < n → TVx u (g k)) : ∀ i : Int, 0 ≤ i → i < n → tk (f i) = tk (g i) := by
  intro i i0 i1
  rcases hb i i0 i1 with q | ⟨q1, q2⟩
  · rw [q]
  · have e1 : tk (f i) = 0 := by
      rcases (v1 i i0 i1).2.2.1 with q | q
      · omega
      · exact q.2
    have e2 : tk (g i) = 0 := by
      rcases (v2 i i0 i1).2.2.1 with q | q
      · omega
      · exact q.2
    rw [e1, e2]
theorem BRL_iff (hb : BRL n f g) {x : Int} (hx : x % 4 = 2) {i : Int} (i0 : 0 ≤ i) (i1 : i < n) : g i = x ↔ f i = x := by
  rcases hb i i0 i1 with q | ⟨q1, q2⟩
  · rw [q]
  · exact ⟨fun e => by omega, fun e => by omega⟩
theorem SCN_ext (hb : BRL n f g) (ht : ∀ i : Int, 0 ≤ i → i < n → tk (f i) = tk (g i)) {x c y : Nat} (a : SCN n f x c y) : SCN n g x c y := by
  have e : ∀ p : Nat, bp n f p = bp n g p := fun p => by
    unfold bp
    rw [bh_ext ht]
  exact a (fun x c y => SCN n g x c y) (fun x => SCN.nil x) (fun x c y h1 h2 ih => SCN.iff x c y h1 ((BRL_iff hb (by decide) (by omega) h1).mpr h2) (by rw [← e]; exact ih)) (fun x c y h1 h2 ih => SCN.fin x c y h1 (fun q => h2 ((BRL_iff hb (by decide) (by omega) h1).mp q)) (by rw [← e]; exact ih))
theorem LAW_ext (hW : WFT n f) (hb : BRL n f g) (ht : ∀ i : Int, 0 ≤ i → i < n → tk (f i) = tk (g i)) {x : Int} (hx : x % 4 = 2) (h : LAW n f x) : LAW n g x := by
  intro k k1 e j j0 j1
  rw [← bh_ext ht] at j1
  have w := bp_W hW k1
  have q := h k k1 ((BRL_iff hb hx (by omega) k1).mp e) j j0 j1
  exact fun r => q ((BRL_iff hb hx (by omega) (by omega)).mp r)
end BRS
def opR (r : List Int) : Option (List Int) := if 120 < r.length then none else some r
def ntO : Option (List Int) → Option (List Int)
  | none => none
  | some r => opR (notR r)
theorem opR_n {r : List Int} (h : 120 < r.length) : opR r = none := if_pos h
theorem opR_s {n : Int} {f : Int → Int} {r : List Int} (e : rl n f = r) (h : n ≤ 120) : opR r = some (rl n f) := by
  have l := congrArg List.length e
  rw [rl_len] at l
  unfold opR
  rw [if_neg (by omega), e]
def slr (n : Int) (f : Int → Int) (p : Nat) : List Int := ((rl n f).drop p).take (bp n f p - p)
def itm (n : Int) (f : Int → Int) (G : Int) (fg : Int → Int) (m : Int) (g : Int → Int) (k : Nat) : Option (List Int) := ntO (opR (insR (rl m g) ((List.range m.toNat).map (fun j : Nat => yr n f k j)) (rl G fg)))
theorem ol_yr {n m : Int} {f : Int → Int} {k : Nat} {nO : Int → Int} {fO : Int → Int → Int} (h : ∀ j : Int, 0 ≤ j → j < m → rl (nO j) (fO j) = yr n f k j.toNat) : ol m nO fO = (List.range m.toNat).map (fun j : Nat => yr n f k j) := by
  unfold ol
  refine List.map_congr_left (fun i hi => ?_)
  have := List.mem_range.mp hi
  have q := h i (by omega) (by omega)
  rw [show ((i : Nat) : Int).toNat = i by omega] at q
  exact q
def cit (f : Int → Int) (x : Int) (it : Nat → Option (List Int)) : Nat → Nat → List (Option (List Int))
  | _, 0 => []
  | k, m + 1 => if f (k : Int) = x then it k :: cit f x it (k + 1) m else cit f x it (k + 1) m
theorem cit_y {f : Int → Int} {x : Int} {it : Nat → Option (List Int)} {k e : Nat} (h : k < e) (q : f (k : Int) = x) : cit f x it k (e - k) = it k :: cit f x it (k + 1) (e - (k + 1)) := by
  rw [show e - k = (e - (k + 1)) + 1 by omega]
  exact if_pos q
theorem cit_n {f : Int → Int} {x : Int} {it : Nat → Option (List Int)} {k e : Nat} (h : k < e) (q : f (k : Int) ≠ x) : cit f x it k (e - k) = cit f x it (k + 1) (e - (k + 1)) := by
  rw [show e - k = (e - (k + 1)) + 1 by omega]
  exact if_neg q
def PTH (n : Int) (f : Int → Int) (t l : Nat) (its : List (Option (List Int))) (T : Nat) : Prop := ∀ P : Nat → Nat → List (Option (List Int)) → Nat → Prop, (∀ t : Nat, (t : Int) < n → f (t : Int) ≠ 110 → P t 0 [] t) → (∀ (t l E : Nat) (its : List (Option (List Int))) (T : Nat), (t : Int) < n → f (t : Int) = 110 → SCN n f (bp n f (t + 1)) E (bp n f (bp n f (t + 1))) → l < E → P (bp n f (t + 1)) l its T → P t l (ntO (some (slr n f (t + 1))) :: its) T) → (∀ (t l E : Nat) (its : List (Option (List Int))) (T : Nat), (t : Int) < n → f (t : Int) = 110 → SCN n f (bp n f (t + 1)) E (bp n f (bp n f (t + 1))) → E ≤ l → P (bp n f (bp n f (t + 1))) (l - E) its T → P t l (ntO (ntO (some (slr n f (t + 1)))) :: its) T) → P t l its T
theorem PTH_e {n : Int} {f : Int → Int} {t : Nat} (h1 : (t : Int) < n) (h2 : f (t : Int) ≠ 110) : PTH n f t 0 [] t := fun _ p1 _ _ => p1 t h1 h2
theorem PTH_s {n : Int} {f : Int → Int} {t l E : Nat} {its : List (Option (List Int))} {T : Nat} (h1 : (t : Int) < n) (h2 : f (t : Int) = 110) (h3 : SCN n f (bp n f (t + 1)) E (bp n f (bp n f (t + 1)))) (h4 : l < E) (h : PTH n f (bp n f (t + 1)) l its T) : PTH n f t l (ntO (some (slr n f (t + 1))) :: its) T := fun P p1 p2 p3 => p2 t l E its T h1 h2 h3 h4 (h P p1 p2 p3)
theorem PTH_t {n : Int} {f : Int → Int} {t l E : Nat} {its : List (Option (List Int))} {T : Nat} (h1 : (t : Int) < n) (h2 : f (t : Int) = 110) (h3 : SCN n f (bp n f (t + 1)) E (bp n f (bp n f (t + 1)))) (h4 : E ≤ l) (h : PTH n f (bp n f (bp n f (t + 1))) (l - E) its T) : PTH n f t l (ntO (ntO (some (slr n f (t + 1)))) :: its) T := fun P p1 p2 p3 => p3 t l E its T h1 h2 h3 h4 (h P p1 p2 p3)
def INDZ (n : Int) (f : Int → Int) (x : Int) (G : Int) (fg : Int → Int) (m : Int) (g : Int → Int) (t : Nat) (its : List (Option (List Int))) : Int × List (List Int) := (its ++ (cit f x (itm n f G fg m g) t (bp n f t - t) ++ [some (rl G fg)])).foldl clO (0, [])
theorem mm_ext {n : Int} {f : Int → Int} (hW : WFT n f) {k : Nat} (hk : (k : Int) < n) {m : Int} (hm : tk (f (k : Int)) = m) : m + 1 ≤ bh n f (k : Int) - k := by
  obtain ⟨r1, r2, r3, r4, r5⟩ := bp_W hW hk
  have e1 : sm f (k + 1) = sm f k + m - 1 := by
    show sm f k + (tk (f (k : Int)) - 1) = _
    omega
  have A : ∀ i : Nat, sm f (k + 1) - i ≤ sm f (k + 1 + i) := by
    intro i
    induction i with
    | zero =>
      rw [Nat.add_zero]
      omega
    | succ i ih =>
      have t := tk_R (f ((k + 1 + i : Nat) : Int))
      have e : sm f (k + 1 + (i + 1)) = sm f (k + 1 + i) + (tk (f ((k + 1 + i : Nat) : Int)) - 1) := rfl
      omega
  have := A (bp n f k - (k + 1))
  rw [show k + 1 + (bp n f k - (k + 1)) = bp n f k by omega] at this
  omega
def INDP (c : Nat) (hp : xx_H) (s : KS) (u G n : Int) (f : Int → Int) (x : Int) (E K : Nat) (fg : Int → Int) (m : Int) (g : Int → Int) (v : Option Value) (h1 : xx_H) : Prop := ∃ (s1 : KS) (y t : Nat) (b1 : Int) (Z1 : List (List Int)) (its : List (Option (List Int))), v = some (.ref y) ∧ KI c h1 s1 ∧ KB s1 ∧ TF s s1 ∧ hp.length ≤ y ∧ (CL c h1 s1 u y b1 Z1 ∧ PTH n f 0 K its t ∧ (b1, Z1) = INDZ n f x G fg m g t its) ∧ SCN n f 0 K t ∧ (t : Int) < n ∧ f (t : Int) ≠ 110 ∧ ∃ α : Int, α ≤ 240 ∧ α ≤ 2 + 6 * ((E : Int) - 1) ∧ kx c hp s h1 s1 (α + 5 * (XE n f x (bp n f t) - XE n f x t)) (754 + (3 + 2 * G) * (XE n f x (bp n f t) - XE n f x t))
theorem kp_ind2 (z : Value) (d c : Nat) (u : Int) (K y t : Nat) (l : Int) (a : Nat) (G : Int) (fg : Int → Int) (b : Nat) (n : Int) (f : Int → Int) (x : Int) (q : Nat) (m : Int) (g : Int → Int) (hp0 : xx_H) (s0 : KS) (u17 : 17 ≤ u) (hx : tk x = m) (x0 : 0 ≤ x) (x1 : x ≤ 2147483647) (hW : WFT n f) (ht : (t : Int) < n) (hS : SCN n f 0 K t) (hn : f (t : Int) ≠ 110) (hy : hp0.length ≤ y) (E : Nat) (α : Int) (hα : α ≤ 240 ∧ α ≤ 2 + 6 * ((E : Int) - 1)) (its : List (Option (List Int))) (hPT : PTH n f 0 K its t) : ∀ (w : Nat) (k : Nat) (b0 : Int) (Z0 : List (List Int)) (y11 y12 y13 : Option Value) (hp : xx_H) (s : KS), bp n f t - k ≤ w → t ≤ k → k ≤ bp n f t → KI c hp s → KB s → TF s0 s → CL c hp s u y b0 Z0 → TM c hp s u a G fg → TM c hp s u b n f → KAL hp q m g → kn c s q → kx c hp0 s0 hp s (α + 5 * (XE n f x k - XE n f x t)) (754 + (3 + 2 * G) * (XE n f x k - XE n f x t)) → INDZ n f x G fg m g t its = (cit f x (itm n f G fg m g) k (bp n f t - k) ++ [some (rl G fg)]).foldl clO (b0, Z0) → xx_go (xt_P z) (d + 5) 290 162 [some (.ref (c + 31)), some (.ref a), some (.ref b), some (.int (iI x)), some (.ref q), some (.int (iI ((K : Int)))), some (.ref y), some (.int (iI ((t : Int)))), some (.int (iI l)), some (.int (iI ((bp n f t : Int)))), some (.int (iI ((k : Int)))), y11, y12, y13] [] hp (fun v h1 => INDP c hp0 s0 u G n f x E K fg m g v h1) := by
  obtain ⟨b1, b2, b3, b4, b5⟩ := bp_W hW ht
  intro w
  induction w with
  | zero =>
    intro k b0 Z0 y11 y12 y13 hp s hw k0 k1 hK hB hT hC hG hF hA kq hX h9
    have n_ := TM_n hF
    refine go_a (pc' := 164) (ls' := [some (.ref (c + 31)), some (.ref a), some (.ref b), some (.int (iI x)), some (.ref q), some (.int (iI ((K : Int)))), some (.ref y), some (.int (iI ((t : Int)))), some (.int (iI l)), some (.int (iI ((bp n f t : Int)))), some (.int (iI ((k : Int)))), y11, y12, y13]) (st' := [.int (iI ((k : Int)))]) rfl rfl ?_
    refine go_a (pc' := 166) (ls' := [some (.ref (c + 31)), some (.ref a), some (.ref b), some (.int (iI x)), some (.ref q), some (.int (iI ((K : Int)))), some (.ref y), some (.int (iI ((t : Int)))), some (.int (iI l)), some (.int (iI ((bp n f t : Int)))), some (.int (iI ((k : Int)))), y11, y12, y13]) (st' := [.int (iI ((bp n f t : Int))), .int (iI ((k : Int)))]) rfl rfl ?_
    refine mi_ge (t := 220) rfl rfl (by omega) (by omega) (by omega) (by omega) (fun _ => ?_) (fun w => absurd (show (k : Int) ≥ (bp n f t : Int) by omega) w)
    have ek : k = bp n f t := by omega
    rw [ek] at hX h9
    rw [Nat.sub_self] at h9
    have h9 : INDZ n f x G fg m g t its = clA (b0, Z0) (rl G fg) := h9
    obtain ⟨mx, wx, cx⟩ := CL_cell hC
    refine go_a (pc' := 222) (ls' := [some (.ref (c + 31)), some (.ref a), some (.ref b), some (.int (iI x)), some (.ref q), some (.int (iI ((K : Int)))), some (.ref y), some (.int (iI ((t : Int)))), some (.int (iI l)), some (.int (iI ((bp n f t : Int)))), some (.int (iI ((k : Int)))), y11, y12, y13]) (st' := [.ref y]) rfl rfl ?_
    refine go_a (pc' := 223) (ls' := [some (.ref (c + 31)), some (.ref a), some (.ref b), some (.int (iI x)), some (.ref q), some (.int (iI ((K : Int)))), some (.ref y), some (.int (iI ((t : Int)))), some (.int (iI l)), some (.int (iI ((bp n f t : Int)))), some (.int (iI ((k : Int)))), y11, y12, y13]) (st' := [.ref a, .ref y]) rfl rfl ?_
    refine go_v (m := 261) (as := [.ref y, .ref a]) (r := []) rfl rfl rfl cx rfl rfl (kh_addC z (d + 2) c hp s u y b0 Z0 hC a G fg hG) (fun v h3 hq => ?_)
    obtain ⟨rfl, F1, b9, Z9, e9, C1⟩ := hq
    show xx_go (xt_P z) (d + 5) 290 226 [some (.ref (c + 31)), some (.ref a), some (.ref b), some (.int (iI x)), some (.ref q), some (.int (iI ((K : Int)))), some (.ref y), some (.int (iI ((t : Int)))), some (.int (iI l)), some (.int (iI ((bp n f t : Int)))), some (.int (iI ((k : Int)))), y11, y12, y13] [] h3 _
    refine go_a (pc' := 228) (ls' := [some (.ref (c + 31)), some (.ref a), some (.ref b), some (.int (iI x)), some (.ref q), some (.int (iI ((K : Int)))), some (.ref y), some (.int (iI ((t : Int)))), some (.int (iI l)), some (.int (iI ((bp n f t : Int)))), some (.int (iI ((k : Int)))), y11, y12, y13]) (st' := [.ref y]) rfl rfl ?_
    exact go_r rfl rfl rfl rfl rfl rfl ⟨s, y, t, b9, Z9, its, rfl, CL_KI hC F1 hK, hB, hT, hy, ⟨C1, hPT, by rw [h9]; exact e9⟩, hS, ht, hn, α, hα.1, hα.2, KFE_kx hX hy F1⟩
  | succ w ih =>
    intro k b0 Z0 y11 y12 y13 hp s hw k0 k1 hK hB hT hC hG hF hA kq hX h9
    have n_ := TM_n hF
    refine go_a (pc' := 164) (ls' := [some (.ref (c + 31)), some (.ref a), some (.ref b), some (.int (iI x)), some (.ref q), some (.int (iI ((K : Int)))), some (.ref y), some (.int (iI ((t : Int)))), some (.int (iI l)), some (.int (iI ((bp n f t : Int)))), some (.int (iI ((k : Int)))), y11, y12, y13]) (st' := [.int (iI ((k : Int)))]) rfl rfl ?_
    refine go_a (pc' := 166) (ls' := [some (.ref (c + 31)), some (.ref a), some (.ref b), some (.int (iI x)), some (.ref q), some (.int (iI ((K : Int)))), some (.ref y), some (.int (iI ((t : Int)))), some (.int (iI l)), some (.int (iI ((bp n f t : Int)))), some (.int (iI ((k : Int)))), y11, y12, y13]) (st' := [.int (iI ((bp n f t : Int))), .int (iI ((k : Int)))]) rfl rfl ?_
    refine mi_ge (t := 220) rfl rfl (by omega) (by omega) (by omega) (by omega) (fun w1 => ?_) (fun w1 => ?_)
    · have ek : k = bp n f t := by omega
      rw [ek] at hX h9
      rw [Nat.sub_self] at h9
      have h9 : INDZ n f x G fg m g t its = clA (b0, Z0) (rl G fg) := h9
      obtain ⟨mx, wx, cx⟩ := CL_cell hC
      refine go_a (pc' := 222) (ls' := [some (.ref (c + 31)), some (.ref a), some (.ref b), some (.int (iI x)), some (.ref q), some (.int (iI ((K : Int)))), some (.ref y), some (.int (iI ((t : Int)))), some (.int (iI l)), some (.int (iI ((bp n f t : Int)))), some (.int (iI ((k : Int)))), y11, y12, y13]) (st' := [.ref y]) rfl rfl ?_
      refine go_a (pc' := 223) (ls' := [some (.ref (c + 31)), some (.ref a), some (.ref b), some (.int (iI x)), some (.ref q), some (.int (iI ((K : Int)))), some (.ref y), some (.int (iI ((t : Int)))), some (.int (iI l)), some (.int (iI ((bp n f t : Int)))), some (.int (iI ((k : Int)))), y11, y12, y13]) (st' := [.ref a, .ref y]) rfl rfl ?_
      refine go_v (m := 261) (as := [.ref y, .ref a]) (r := []) rfl rfl rfl cx rfl rfl (kh_addC z (d + 2) c hp s u y b0 Z0 hC a G fg hG) (fun v h3 hq => ?_)
      obtain ⟨rfl, F1, b9, Z9, e9, C1⟩ := hq
      show xx_go (xt_P z) (d + 5) 290 226 [some (.ref (c + 31)), some (.ref a), some (.ref b), some (.int (iI x)), some (.ref q), some (.int (iI ((K : Int)))), some (.ref y), some (.int (iI ((t : Int)))), some (.int (iI l)), some (.int (iI ((bp n f t : Int)))), some (.int (iI ((k : Int)))), y11, y12, y13] [] h3 _
      refine go_a (pc' := 228) (ls' := [some (.ref (c + 31)), some (.ref a), some (.ref b), some (.int (iI x)), some (.ref q), some (.int (iI ((K : Int)))), some (.ref y), some (.int (iI ((t : Int)))), some (.int (iI l)), some (.int (iI ((bp n f t : Int)))), some (.int (iI ((k : Int)))), y11, y12, y13]) (st' := [.ref y]) rfl rfl ?_
      exact go_r rfl rfl rfl rfl rfl rfl ⟨s, y, t, b9, Z9, its, rfl, CL_KI hC F1 hK, hB, hT, hy, ⟨C1, hPT, by rw [h9]; exact e9⟩, hS, ht, hn, α, hα.1, hα.2, KFE_kx hX hy F1⟩
    · obtain ⟨qb, Lb, Lba, Lbq⟩ := TMq hF
      have t9 : tat n f (k : Int) = f (k : Int) := if_pos (by omega)
      have fr := Lb.2.2.2 (k : Int)
      have kn9 : (k : Int) < n := by omega
      have xs := XE_step n f x k
      refine go_a (pc' := 170) (ls' := [some (.ref (c + 31)), some (.ref a), some (.ref b), some (.int (iI x)), some (.ref q), some (.int (iI ((K : Int)))), some (.ref y), some (.int (iI ((t : Int)))), some (.int (iI l)), some (.int (iI ((bp n f t : Int)))), some (.int (iI ((k : Int)))), y11, y12, y13]) (st' := [.ref b]) rfl rfl ?_
      refine go_a (pc' := 172) (ls' := [some (.ref (c + 31)), some (.ref a), some (.ref b), some (.int (iI x)), some (.ref q), some (.int (iI ((K : Int)))), some (.ref y), some (.int (iI ((t : Int)))), some (.int (iI l)), some (.int (iI ((bp n f t : Int)))), some (.int (iI ((k : Int)))), y11, y12, y13]) (st' := [.int (iI ((k : Int))), .ref b]) rfl rfl ?_
      refine go_v (m := 230) (as := [.ref b, .int (iI ((k : Int)))]) (r := []) rfl rfl rfl Lb.1 rfl rfl (kg_at z (d + 4) (k : Int) b qb n f hp Lb (by omega) (by omega)) (fun v h3 hq => ?_)
      obtain ⟨rfl, e9⟩ := hq
      rw [e9, t9]
      clear e9 h3
      show xx_go (xt_P z) (d + 5) 290 175 [some (.ref (c + 31)), some (.ref a), some (.ref b), some (.int (iI x)), some (.ref q), some (.int (iI ((K : Int)))), some (.ref y), some (.int (iI ((t : Int)))), some (.int (iI l)), some (.int (iI ((bp n f t : Int)))), some (.int (iI ((k : Int)))), y11, y12, y13] [.int (iI (f (k : Int)))] hp _
      refine go_a (pc' := 176) (ls' := [some (.ref (c + 31)), some (.ref a), some (.ref b), some (.int (iI x)), some (.ref q), some (.int (iI ((K : Int)))), some (.ref y), some (.int (iI ((t : Int)))), some (.int (iI l)), some (.int (iI ((bp n f t : Int)))), some (.int (iI ((k : Int)))), y11, y12, y13]) (st' := [.int (iI x), .int (iI (f (k : Int)))]) rfl rfl ?_
      refine mi_ne (t := 214) rfl rfl (by omega) (by omega) (by omega) (by omega) (fun w2 => ?_) (fun w2 => ?_)
      · rw [if_neg w2, Int.add_zero] at xs
        refine go_a (pc' := 217) (ls' := [some (.ref (c + 31)), some (.ref a), some (.ref b), some (.int (iI x)), some (.ref q), some (.int (iI ((K : Int)))), some (.ref y), some (.int (iI ((t : Int)))), some (.int (iI l)), some (.int (iI ((bp n f t : Int)))), some (.int (iI (((k : Int)) + 1))), y11, y12, y13]) (st' := []) rfl (by rw [← iI_add ((k : Int)) 1]; rfl) ?_
        refine go_a (pc' := 162) (ls' := [some (.ref (c + 31)), some (.ref a), some (.ref b), some (.int (iI x)), some (.ref q), some (.int (iI ((K : Int)))), some (.ref y), some (.int (iI ((t : Int)))), some (.int (iI l)), some (.int (iI ((bp n f t : Int)))), some (.int (iI (((k : Int)) + 1))), y11, y12, y13]) (st' := []) rfl rfl ?_
        rw [show (k : Int) + 1 = ((k + 1 : Nat) : Int) by omega]
        exact ih (k + 1) b0 Z0 _ _ _ hp s (by omega) (by omega) (by omega) hK hB hT hC hG hF hA kq (by rw [xs]; exact hX) (by rw [h9, cit_n (by omega) w2])
      · have w3 : f (k : Int) = x := by omega
        rw [cit_y (by omega) w3] at h9
        rw [if_pos w3] at xs
        obtain ⟨r1, r2, r3, r4, r5⟩ := bp_W hW kn9
        have mb := hA.2.1
        have tr := tk_R x
        refine go_a (pc' := 180) (ls' := [some (.ref (c + 31)), some (.ref a), some (.ref b), some (.int (iI x)), some (.ref q), some (.int (iI ((K : Int)))), some (.ref y), some (.int (iI ((t : Int)))), some (.int (iI l)), some (.int (iI ((bp n f t : Int)))), some (.int (iI ((k : Int)))), y11, y12, y13]) (st' := [.ref b]) rfl rfl ?_
        refine go_a (pc' := 182) (ls' := [some (.ref (c + 31)), some (.ref a), some (.ref b), some (.int (iI x)), some (.ref q), some (.int (iI ((K : Int)))), some (.ref y), some (.int (iI ((t : Int)))), some (.int (iI l)), some (.int (iI ((bp n f t : Int)))), some (.int (iI ((k : Int)))), y11, y12, y13]) (st' := [.int (iI ((k : Int))), .ref b]) rfl rfl ?_
        refine go_a (pc' := 184) (ls' := [some (.ref (c + 31)), some (.ref a), some (.ref b), some (.int (iI x)), some (.ref q), some (.int (iI ((K : Int)))), some (.ref y), some (.int (iI ((t : Int)))), some (.int (iI l)), some (.int (iI ((bp n f t : Int)))), some (.int (iI ((k : Int)))), y11, y12, y13]) (st' := [.ref q, .int (iI ((k : Int))), .ref b]) rfl rfl ?_
        refine mk_len (n := m) rfl hA.1 (xa_f_len _ _) (by omega) (by omega) ?_
        refine go_s (m := 291) (as := [.ref b, .int (iI ((k : Int))), .int (iI m)]) (r := []) rfl rfl rfl rfl (kp_termsOfCall z d c b n u m f k hp s hK hB hF kn9 (by rw [w3]; exact hx)) (fun v h3 hq => ?_)
        obtain ⟨K1, X1, t1, O1, nO, fO, rfl, H1, hN⟩ := hq
        show xx_go (xt_P z) (d + 5) 290 188 [some (.ref (c + 31)), some (.ref a), some (.ref b), some (.int (iI x)), some (.ref q), some (.int (iI ((K : Int)))), some (.ref y), some (.int (iI ((t : Int)))), some (.int (iI l)), some (.int (iI ((bp n f t : Int)))), some (.int (iI ((k : Int)))), y11, y12, y13] [.ref t1] h3 _
        obtain ⟨mx, wx, cx⟩ := CL_cell (CL_kx hC X1)
        obtain ⟨A1, kq1⟩ := KAL_kx hA kq X1
        have em := mm_ext (m := m) hW kn9 (by rw [w3]; exact hx)
        refine go_a (pc' := 190) (ls' := [some (.ref (c + 31)), some (.ref a), some (.ref b), some (.int (iI x)), some (.ref q), some (.int (iI ((K : Int)))), some (.ref y), some (.int (iI ((t : Int)))), some (.int (iI l)), some (.int (iI ((bp n f t : Int)))), some (.int (iI ((k : Int)))), some (.ref t1), y12, y13]) (st' := []) rfl rfl ?_
        refine go_a (pc' := 192) (ls' := [some (.ref (c + 31)), some (.ref a), some (.ref b), some (.int (iI x)), some (.ref q), some (.int (iI ((K : Int)))), some (.ref y), some (.int (iI ((t : Int)))), some (.int (iI l)), some (.int (iI ((bp n f t : Int)))), some (.int (iI ((k : Int)))), some (.ref t1), y12, y13]) (st' := [.ref y]) rfl rfl ?_
        refine go_a (pc' := 193) (ls' := [some (.ref (c + 31)), some (.ref a), some (.ref b), some (.int (iI x)), some (.ref q), some (.int (iI ((K : Int)))), some (.ref y), some (.int (iI ((t : Int)))), some (.int (iI l)), some (.int (iI ((bp n f t : Int)))), some (.int (iI ((k : Int)))), some (.ref t1), y12, y13]) (st' := [.ref (c + 31), .ref y]) rfl rfl ?_
        refine go_get (v := .ref (c + 25)) rfl (K1.1 20 (by decide)) rfl rfl ?_
        refine go_a (pc' := 197) (ls' := [some (.ref (c + 31)), some (.ref a), some (.ref b), some (.int (iI x)), some (.ref q), some (.int (iI ((K : Int)))), some (.ref y), some (.int (iI ((t : Int)))), some (.int (iI l)), some (.int (iI ((bp n f t : Int)))), some (.int (iI ((k : Int)))), some (.ref t1), y12, y13]) (st' := [.ref (c + 31), .ref (c + 25), .ref y]) rfl rfl ?_
        refine go_get (v := .ref (c + 25)) rfl (K1.1 20 (by decide)) rfl rfl ?_
        refine go_a (pc' := 201) (ls' := [some (.ref (c + 31)), some (.ref a), some (.ref b), some (.int (iI x)), some (.ref q), some (.int (iI ((K : Int)))), some (.ref y), some (.int (iI ((t : Int)))), some (.int (iI l)), some (.int (iI ((bp n f t : Int)))), some (.int (iI ((k : Int)))), some (.ref t1), y12, y13]) (st' := [.ref a, .ref (c + 25), .ref (c + 25), .ref y]) rfl rfl ?_
        refine go_a (pc' := 203) (ls' := [some (.ref (c + 31)), some (.ref a), some (.ref b), some (.int (iI x)), some (.ref q), some (.int (iI ((K : Int)))), some (.ref y), some (.int (iI ((t : Int)))), some (.int (iI l)), some (.int (iI ((bp n f t : Int)))), some (.int (iI ((k : Int)))), some (.ref t1), y12, y13]) (st' := [.ref q, .ref a, .ref (c + 25), .ref (c + 25), .ref y]) rfl rfl ?_
        refine go_a (pc' := 205) (ls' := [some (.ref (c + 31)), some (.ref a), some (.ref b), some (.int (iI x)), some (.ref q), some (.int (iI ((K : Int)))), some (.ref y), some (.int (iI ((t : Int)))), some (.int (iI l)), some (.int (iI ((bp n f t : Int)))), some (.int (iI ((k : Int)))), some (.ref t1), y12, y13]) (st' := [.ref t1, .ref q, .ref a, .ref (c + 25), .ref (c + 25), .ref y]) rfl rfl ?_
        refine go_v (m := 281) (as := [.ref (c + 25), .ref a, .ref q, .ref t1]) (r := [.ref (c + 25), .ref y]) rfl rfl rfl (K1.1 16 (by decide)) rfl rfl (kg_instance z (d + 1) c u (bh n f (k : Int) - k) a G fg q m g t1 m O1 nO fO h3 s K1 hB (by omega) (fun j a1 b1 => (hN j a1 b1).1) (TM_kx hG X1) A1 kq1 H1) (fun v h4 hq => ?_)
        obtain ⟨s2, K2, B2, F2, hq⟩ := hq
        rw [ol_yr (fun j a1 b1 => (hN j a1 b1).2)] at hq
        generalize eW : G * (bh n f (k : Int) - k) = W at hq
        have eV : (3 + 2 * G) * (XE n f x (k + 1) - XE n f x t) = (3 + 2 * G) * (XE n f x k - XE n f x t) + (3 * (bh n f (k : Int) - k) + 2 * W) := by
          rw [xs, ← eW, show XE n f x k + (bh n f (k : Int) - k) - XE n f x t = (XE n f x k - XE n f x t) + (bh n f (k : Int) - k) by omega, Int.mul_add, Int.add_mul 3 (2 * G) (bh n f (k : Int) - k), Int.mul_assoc]
        have nul : ∀ (h5 : xx_H) (s3 : KS), itm n f G fg m g k = none → KI c h5 s3 → KB s3 → TF s0 s3 → kx c hp s h5 s3 (5 + 2 * m) (3 * (bh n f (k : Int) - k) + 2 * W) → xx_go (xt_P z) (d + 5) 290 211 [some (.ref (c + 31)), some (.ref a), some (.ref b), some (.int (iI x)), some (.ref q), some (.int (iI ((K : Int)))), some (.ref y), some (.int (iI ((t : Int)))), some (.int (iI l)), some (.int (iI ((bp n f t : Int)))), some (.int (iI ((k : Int)))), some (.ref t1), y12, y13] [.null, .ref y] h5 (fun v h1 => INDP c hp0 s0 u G n f x E K fg m g v h1) := by
          intro h5 s3 hi9 K5 B5 F5 X5
          have C5 := CL_kx hC X5
          obtain ⟨mx, wx, cx⟩ := CL_cell C5
          refine go_v (m := 261) (as := [.ref y, .null]) (r := []) rfl rfl rfl cx rfl rfl (kh_addN z (d + 2) c h5 s3 u y b0 Z0 C5) (fun v h6 hq => ?_)
          obtain ⟨rfl, F6, C6⟩ := hq
          show xx_go (xt_P z) (d + 5) 290 214 [some (.ref (c + 31)), some (.ref a), some (.ref b), some (.int (iI x)), some (.ref q), some (.int (iI ((K : Int)))), some (.ref y), some (.int (iI ((t : Int)))), some (.int (iI l)), some (.int (iI ((bp n f t : Int)))), some (.int (iI ((k : Int)))), some (.ref t1), y12, y13] [] h6 _
          refine go_a (pc' := 217) (ls' := [some (.ref (c + 31)), some (.ref a), some (.ref b), some (.int (iI x)), some (.ref q), some (.int (iI ((K : Int)))), some (.ref y), some (.int (iI ((t : Int)))), some (.int (iI l)), some (.int (iI ((bp n f t : Int)))), some (.int (iI (((k : Int)) + 1))), some (.ref t1), y12, y13]) (st' := []) rfl (by rw [← iI_add ((k : Int)) 1]; rfl) ?_
          refine go_a (pc' := 162) (ls' := [some (.ref (c + 31)), some (.ref a), some (.ref b), some (.int (iI x)), some (.ref q), some (.int (iI ((K : Int)))), some (.ref y), some (.int (iI ((t : Int)))), some (.int (iI l)), some (.int (iI ((bp n f t : Int)))), some (.int (iI (((k : Int)) + 1))), some (.ref t1), y12, y13]) (st' := []) rfl rfl ?_
          rw [show (k : Int) + 1 = ((k + 1 : Nat) : Int) by omega]
          obtain ⟨A5, kq5⟩ := KAL_kx hA kq X5
          obtain ⟨_, _, _, _, _, gc, -⟩ := id C5
          have A6 : KAL h6 q m g := ⟨(F6.2.2 q (fun e => by have := A5.1; rw [e, gc.1] at this; simp [CLo] at this) (fun e => by have := A5.1; rw [e, gc.2.1] at this; simp at this)).trans A5.1, A5.2⟩
          exact ih (k + 1) 1 Z0 _ _ _ h6 s3 (by omega) (by omega) (by omega) (CL_KI C5 F6 K5) B5 F5 C6 (TM_fe C5 F6 (TM_kx hG X5)) (TM_fe C5 F6 (TM_kx hF X5)) A6 kq5 (KFE_kx (kx_w (kx_tr hX X5) (by rw [xs]; omega) (by omega)) hy F6) (by rw [h9, hi9]; rfl)
        have ref : ∀ (h5 : xx_H) (s3 : KS) (a5 : Nat) (n5 : Int) (f5 : Int → Int), TM c h5 s3 u a5 n5 f5 → itm n f G fg m g k = some (rl n5 f5) → KI c h5 s3 → KB s3 → TF s0 s3 → kx c hp s h5 s3 (5 + 2 * m) (3 * (bh n f (k : Int) - k) + 2 * W) → xx_go (xt_P z) (d + 5) 290 211 [some (.ref (c + 31)), some (.ref a), some (.ref b), some (.int (iI x)), some (.ref q), some (.int (iI ((K : Int)))), some (.ref y), some (.int (iI ((t : Int)))), some (.int (iI l)), some (.int (iI ((bp n f t : Int)))), some (.int (iI ((k : Int)))), some (.ref t1), y12, y13] [.ref a5, .ref y] h5 (fun v h1 => INDP c hp0 s0 u G n f x E K fg m g v h1) := by
          intro h5 s3 a5 n5 f5 T5 hi9 K5 B5 F5 X5
          have C5 := CL_kx hC X5
          obtain ⟨mx, wx, cx⟩ := CL_cell C5
          refine go_v (m := 261) (as := [.ref y, .ref a5]) (r := []) rfl rfl rfl cx rfl rfl (kh_addC z (d + 2) c h5 s3 u y b0 Z0 C5 a5 n5 f5 T5) (fun v h6 hq => ?_)
          obtain ⟨rfl, F6, b6, Z6, e6, C6⟩ := hq
          show xx_go (xt_P z) (d + 5) 290 214 [some (.ref (c + 31)), some (.ref a), some (.ref b), some (.int (iI x)), some (.ref q), some (.int (iI ((K : Int)))), some (.ref y), some (.int (iI ((t : Int)))), some (.int (iI l)), some (.int (iI ((bp n f t : Int)))), some (.int (iI ((k : Int)))), some (.ref t1), y12, y13] [] h6 _
          refine go_a (pc' := 217) (ls' := [some (.ref (c + 31)), some (.ref a), some (.ref b), some (.int (iI x)), some (.ref q), some (.int (iI ((K : Int)))), some (.ref y), some (.int (iI ((t : Int)))), some (.int (iI l)), some (.int (iI ((bp n f t : Int)))), some (.int (iI (((k : Int)) + 1))), some (.ref t1), y12, y13]) (st' := []) rfl (by rw [← iI_add ((k : Int)) 1]; rfl) ?_
          refine go_a (pc' := 162) (ls' := [some (.ref (c + 31)), some (.ref a), some (.ref b), some (.int (iI x)), some (.ref q), some (.int (iI ((K : Int)))), some (.ref y), some (.int (iI ((t : Int)))), some (.int (iI l)), some (.int (iI ((bp n f t : Int)))), some (.int (iI (((k : Int)) + 1))), some (.ref t1), y12, y13]) (st' := []) rfl rfl ?_
          rw [show (k : Int) + 1 = ((k + 1 : Nat) : Int) by omega]
          obtain ⟨A5, kq5⟩ := KAL_kx hA kq X5
          obtain ⟨_, _, _, _, _, gc, -⟩ := id C5
          have A6 : KAL h6 q m g := ⟨(F6.2.2 q (fun e => by have := A5.1; rw [e, gc.1] at this; simp [CLo] at this) (fun e => by have := A5.1; rw [e, gc.2.1] at this; simp at this)).trans A5.1, A5.2⟩
          exact ih (k + 1) b6 Z6 _ _ _ h6 s3 (by omega) (by omega) (by omega) (CL_KI C5 F6 K5) B5 F5 C6 (TM_fe C5 F6 (TM_kx hG X5)) (TM_fe C5 F6 (TM_kx hF X5)) A6 kq5 (KFE_kx (kx_w (kx_tr hX X5) (by rw [xs]; omega) (by omega)) hy F6) (by rw [h9, hi9, List.cons_append, List.foldl_cons, e6]; rfl)
        rcases hq with ⟨rfl, X2, -, nl2⟩ | ⟨a2, N2, g2, rfl, N21, N22, l2, X2, T2, -, rw2⟩
        · show xx_go (xt_P z) (d + 5) 290 208 [some (.ref (c + 31)), some (.ref a), some (.ref b), some (.int (iI x)), some (.ref q), some (.int (iI ((K : Int)))), some (.ref y), some (.int (iI ((t : Int)))), some (.int (iI l)), some (.int (iI ((bp n f t : Int)))), some (.int (iI ((k : Int)))), some (.ref t1), y12, y13] [.null, .ref (c + 25), .ref y] h4 _
          refine go_v (m := 273) (as := [.ref (c + 25), .null]) (r := [.ref y]) rfl rfl rfl (K2.1 16 (by decide)) rfl rfl (kg_notn z (d + 4) c h4) (fun v h5 hq => ?_)
          obtain ⟨rfl, e9⟩ := hq
          rw [e9]
          clear e9 h5
          show xx_go (xt_P z) (d + 5) 290 211 [some (.ref (c + 31)), some (.ref a), some (.ref b), some (.int (iI x)), some (.ref q), some (.int (iI ((K : Int)))), some (.ref y), some (.int (iI ((t : Int)))), some (.int (iI l)), some (.int (iI ((bp n f t : Int)))), some (.int (iI ((k : Int)))), some (.ref t1), y12, y13] [.null, .ref y] h4 _
          have W0 : 0 ≤ W := by
            rw [← eW]
            exact Int.mul_nonneg (by have := (TM_n hG).1; omega) (by omega)
          exact nul h4 s2 (by unfold itm; rw [opR_n nl2]; rfl) K2 B2 (TF_tr hT F2) (kx_w (kx_tr X1 X2) (by omega) (by omega))
        · show xx_go (xt_P z) (d + 5) 290 208 [some (.ref (c + 31)), some (.ref a), some (.ref b), some (.int (iI x)), some (.ref q), some (.int (iI ((K : Int)))), some (.ref y), some (.int (iI ((t : Int)))), some (.int (iI l)), some (.int (iI ((bp n f t : Int)))), some (.int (iI ((k : Int)))), some (.ref t1), y12, y13] [.ref a2, .ref (c + 25), .ref y] h4 _
          refine go_v (m := 273) (as := [.ref (c + 25), .ref a2]) (r := [.ref y]) rfl rfl rfl (K2.1 16 (by decide)) rfl rfl (kg_not z d c u h4 s2 K2 B2 u17 a2 N2 g2 T2) (fun v h5 hq => ?_)
          obtain ⟨N3, N31, s3, K3, B3, F3, hq⟩ := hq
          have X12 := kx_tr X1 X2
          have it9 : itm n f G fg m g k = opR (notR (rl N2 g2)) := by
            unfold itm
            rw [opR_s rw2 N22]
            rfl
          rcases hq with ⟨rfl, -, X3, nl3⟩ | ⟨a3, f3, rfl, N32, l3, X3, T3, rw3⟩
          · show xx_go (xt_P z) (d + 5) 290 211 [some (.ref (c + 31)), some (.ref a), some (.ref b), some (.int (iI x)), some (.ref q), some (.int (iI ((K : Int)))), some (.ref y), some (.int (iI ((t : Int)))), some (.int (iI l)), some (.int (iI ((bp n f t : Int)))), some (.int (iI ((k : Int)))), some (.ref t1), y12, y13] [.null, .ref y] h5 _
            have nn := (TM_n T2).1
            exact nul h5 s3 (by rw [it9, opR_n nl3]) K3 B3 (TF_tr hT (TF_tr F2 F3)) (kx_w (kx_tr X12 X3) (by omega) (by omega))
          · show xx_go (xt_P z) (d + 5) 290 211 [some (.ref (c + 31)), some (.ref a), some (.ref b), some (.int (iI x)), some (.ref q), some (.int (iI ((K : Int)))), some (.ref y), some (.int (iI ((t : Int)))), some (.int (iI l)), some (.int (iI ((bp n f t : Int)))), some (.int (iI ((k : Int)))), some (.ref t1), y12, y13] [.ref a3, .ref y] h5 _
            exact ref h5 s3 a3 N3 f3 T3 (by rw [it9, opR_s rw3 N32]) K3 B3 (TF_tr hT (TF_tr F2 F3)) (kx_w (kx_tr X12 X3) (by omega) (by omega))
