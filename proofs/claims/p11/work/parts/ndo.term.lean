def rl (n : Int) (f : Int → Int) : List Int := (List.range n.toNat).map (fun i : Nat => f (i : Int))
section RLS
variable {n m n2 : Int} {f g f2 : Int → Int}
theorem rl_len : (rl n f).length = n.toNat := by
  unfold rl
  rw [List.length_map, List.length_range]
theorem rl_get {k : Nat} (h : (k : Int) < n) : (rl n f)[k]? = some (f k) := by
  unfold rl
  rw [List.getElem?_map, List.getElem?_range (by omega)]
  rfl
theorem rl_ext (h : ∀ i : Int, 0 ≤ i → i < n → f i = g i) : rl n f = rl n g := by
  unfold rl
  refine List.map_congr_left (fun i hi => ?_)
  have := List.mem_range.mp hi
  exact h i (by omega) (by omega)
theorem rl_eq (e : rl n f = rl n2 f2) (n0 : 0 ≤ n) (m0 : 0 ≤ n2) : n = n2 ∧ ∀ i : Int, 0 ≤ i → i < n → f i = f2 i := by
  have l := congrArg List.length e
  rw [rl_len, rl_len] at l
  refine ⟨by omega, fun i i0 i1 => ?_⟩
  have q := rl_get (f := f) (k := i.toNat) (show ((i.toNat : Nat) : Int) < n by omega)
  rw [e, rl_get (by omega), show ((i.toNat : Nat) : Int) = i by omega] at q
  injection q with q
  exact q.symm
theorem rl_s (n0 : 0 ≤ n) : rl (n + 1) f = rl n f ++ [f n] := by
  unfold rl
  rw [show (n + 1).toNat = n.toNat + 1 by omega, List.range_succ, List.map_append]
  show _ ++ [f ((n.toNat : Nat) : Int)] = _
  rw [show ((n.toNat : Nat) : Int) = n by omega]
theorem rl_app (n0 : 0 ≤ n) (m0 : 0 ≤ m) (h : ∀ i : Int, 0 ≤ i → i < m → f (n + i) = g i) : rl (n + m) f = rl n f ++ rl m g := by
  unfold rl
  rw [show (n + m).toNat = n.toNat + m.toNat by omega, List.range_add, List.map_append, List.map_map]
  congr 1
  refine List.map_congr_left (fun i hi => ?_)
  have := List.mem_range.mp hi
  show f ((n.toNat + i : Nat) : Int) = g i
  rw [show ((n.toNat + i : Nat) : Int) = n + i by omega]
  exact h i (by omega) (by omega)
theorem rl_0 (h : n ≤ 0) : rl n f = [] := by
  unfold rl
  rw [show n.toNat = 0 by omega]
  rfl
theorem rl_mem {x : Int} (h : x ∈ rl n f) : ∃ i : Int, 0 ≤ i ∧ i < n ∧ f i = x := by
  unfold rl at h
  obtain ⟨i, hi, e⟩ := List.mem_map.mp h
  have := List.mem_range.mp hi
  exact ⟨i, by omega, by omega, e⟩
theorem rl_mem2 {i : Int} (h0 : 0 ≤ i) (h1 : i < n) : f i ∈ rl n f := by
  unfold rl
  refine List.mem_map.mpr ⟨i.toNat, List.mem_range.mpr (by omega), ?_⟩
  show f ((i.toNat : Nat) : Int) = f i
  rw [show ((i.toNat : Nat) : Int) = i by omega]
theorem rl_part {p e : Nat} (pe : p ≤ e) (en : (e : Int) ≤ n) : rl ((e : Int) - p) (fun k => f (k + p)) = ((rl n f).drop p).take (e - p) := by
  apply List.ext_getElem?
  intro i
  by_cases c : i < e - p
  · rw [rl_get (by omega), List.getElem?_take_of_lt c, List.getElem?_drop, rl_get (by omega)]
    show some (f ((i : Int) + p)) = some (f ((p + i : Nat) : Int))
    rw [show ((p + i : Nat) : Int) = (i : Int) + p by omega]
  · rw [List.getElem?_eq_none (by rw [rl_len]; omega), List.getElem?_eq_none (by rw [List.length_take, List.length_drop, rl_len]; omega)]
end RLS
def KTL (hp : xx_H) (a q : Nat) (n : Int) (f : Int → Int) : Prop := hp[a]? = some (.inr (10, [.ref q])) ∧ hp[q]? = some (.inl (.int, xa_f n.toNat f)) ∧ (0 ≤ n ∧ n ≤ 120) ∧ ∀ k : Int, -2147483648 ≤ f k ∧ f k ≤ 2147483647
def KAL (hp : xx_H) (q : Nat) (n : Int) (f : Int → Int) : Prop := hp[q]? = some (.inl (.int, xa_f n.toNat f)) ∧ (0 ≤ n ∧ n ≤ 1000) ∧ ∀ k : Int, -2147483648 ≤ f k ∧ f k ≤ 2147483647
def tat (n : Int) (f : Int → Int) (k : Int) : Int := if 0 ≤ k ∧ k < n then f k else -1
theorem tat_R {n : Int} {f : Int → Int} (h : ∀ k : Int, -2147483648 ≤ f k ∧ f k ≤ 2147483647) (k : Int) : -2147483648 ≤ tat n f k ∧ tat n f k ≤ 2147483647 := by
  unfold tat
  split
  · exact h k
  · decide
theorem tat_in {n : Int} {f : Int → Int} {k : Int} (h0 : 0 ≤ k) (h1 : k < n) : tat n f k = f k := if_pos ⟨h0, h1⟩
def bhf (n : Int) (f : Int → Int) : Nat → Int → Int → Int
  | 0, _, k => k
  | m + 1, o, k => if k < n ∧ 0 < o then bhf n f m (o + (f k / 4 % 8 - 1)) (k + 1) else k
def bh (n : Int) (f : Int → Int) (p : Int) : Int := bhf n f n.toNat 1 (if p < 0 then 0 else p)
theorem bhf_R (n : Int) (f : Int → Int) : ∀ (m : Nat) (o k : Int), k ≤ bhf n f m o k ∧ (k ≤ n → bhf n f m o k ≤ n) ∧ (n ≤ k → bhf n f m o k = k)
  | 0, o, k => ⟨Int.le_refl _, id, fun _ => rfl⟩
  | m + 1, o, k => by
    have r := bhf_R n f m (o + (f k / 4 % 8 - 1)) (k + 1)
    show k ≤ (if k < n ∧ 0 < o then bhf n f m (o + (f k / 4 % 8 - 1)) (k + 1) else k) ∧ (k ≤ n → (if k < n ∧ 0 < o then bhf n f m (o + (f k / 4 % 8 - 1)) (k + 1) else k) ≤ n) ∧ (n ≤ k → (if k < n ∧ 0 < o then bhf n f m (o + (f k / 4 % 8 - 1)) (k + 1) else k) = k)
    by_cases c : k < n ∧ 0 < o
    · rw [if_pos c]
      exact ⟨by omega, fun _ => r.2.1 (by omega), fun q => by omega⟩
    · rw [if_neg c]
      exact ⟨Int.le_refl _, id, fun _ => rfl⟩
theorem kg_length (z : Value) (d : Nat) (a q : Nat) (n : Int) (f : Int → Int) (hp : xx_H) (hT : KTL hp a q n f) : xx_cl (xt_P z) (d + 1) 229 [.ref a] hp (fun v h1 => v = some (.int (iI n)) ∧ h1 = hp) := by
  have b := hT.2.2.1
  refine cl_go rfl ?_
  show xx_go (xt_P z) d 229 0 [some (.ref a)] [] hp _
  refine go_a (pc' := 1) (ls' := [some (.ref a)]) (st' := [.ref a]) rfl rfl ?_
  refine go_get (v := .ref q) rfl hT.1 rfl rfl ?_
  refine mk_len (n := n) rfl hT.2.1 (xa_f_len _ _) (by omega) (by omega) ?_
  exact go_r rfl rfl rfl rfl rfl rfl ⟨rfl, rfl⟩
theorem kg_at (z : Value) (d : Nat) (k : Int) (a q : Nat) (n : Int) (f : Int → Int) (hp : xx_H) (hT : KTL hp a q n f) (k0 : -2147483648 ≤ k) (k1 : k ≤ 2147483647) : xx_cl (xt_P z) (d + 1) 230 [.ref a, .int (iI k)] hp (fun v h1 => v = some (.int (iI (tat n f k))) ∧ h1 = hp) := by
  have b := hT.2.2.1
  have no : ¬ (0 ≤ k ∧ k < n) → xx_go (xt_P z) d 230 22 [some (.ref a), some (.int (iI k))] [] hp (fun v h1 => v = some (.int (iI (tat n f k))) ∧ h1 = hp) := by
    intro w
    unfold tat
    rw [if_neg w]
    refine go_a (pc' := 23) (ls' := [some (.ref a), some (.int (iI k))]) (st' := [.int (iI ((-1)))]) rfl rfl ?_
    exact go_r rfl rfl rfl rfl rfl rfl ⟨rfl, rfl⟩
  refine cl_go rfl ?_
  show xx_go (xt_P z) d 230 0 [some (.ref a), some (.int (iI k))] [] hp _
  refine go_a (pc' := 1) (ls' := [some (.ref a), some (.int (iI k))]) (st' := [.int (iI k)]) rfl rfl ?_
  refine mi_lt0 (t := 22) rfl rfl (by omega) (by omega) (fun w => no (by omega)) (fun w1 => ?_)
  refine go_a (pc' := 5) (ls' := [some (.ref a), some (.int (iI k))]) (st' := [.int (iI k)]) rfl rfl ?_
  refine go_a (pc' := 6) (ls' := [some (.ref a), some (.int (iI k))]) (st' := [.ref a, .int (iI k)]) rfl rfl ?_
  refine go_get (v := .ref q) rfl hT.1 rfl rfl ?_
  refine mk_len (n := n) rfl hT.2.1 (xa_f_len _ _) (by omega) (by omega) ?_
  refine mi_ge (t := 22) rfl rfl (by omega) (by omega) (by omega) (by omega) (fun w => no (by omega)) (fun w2 => ?_)
  rw [tat_in (f := f) (show 0 ≤ k by omega) (show k < n by omega)]
  refine go_a (pc' := 14) (ls' := [some (.ref a), some (.int (iI k))]) (st' := [.ref a]) rfl rfl ?_
  refine go_get (v := .ref q) rfl hT.1 rfl rfl ?_
  refine go_a (pc' := 18) (ls' := [some (.ref a), some (.int (iI k))]) (st' := [.int (iI k), .ref q]) rfl rfl ?_
  refine mi_ild (n := (n).toNat) (f := f) rfl hT.2.1 (by omega) (by omega) (by omega) ?_
  refine go_a (pc' := 23) (ls' := [some (.ref a), some (.int (iI k))]) (st' := [.int (iI (f k))]) rfl rfl ?_
  exact go_r rfl rfl rfl rfl rfl rfl ⟨rfl, rfl⟩
theorem kg_behind_loop (z : Value) (d : Nat) (p : Int) (a q : Nat) (n : Int) (f : Int → Int) (hp : xx_H) (hT : KTL hp a q n f) : ∀ (m : Nat) (o k : Int), (n - k).toNat ≤ m → 0 ≤ k → k ≤ 2147483647 → -1 ≤ o → o ≤ 7 * k + 1 → (k < n ∨ o ≤ 900 ∨ n ≤ k) → xx_go (xt_P z) d 231 8 [some (.ref a), some (.int (iI p)), some (.int (iI o)), some (.int (iI k))] [] hp (fun v h1 => v = some (.int (iI (bhf n f m o k))) ∧ h1 = hp) := by
  have b := hT.2.2.1
  intro m
  induction m with
  | zero =>
    intro o k hm k0 k1 o0 o1 ho
    refine go_a (pc' := 9) (ls' := [some (.ref a), some (.int (iI p)), some (.int (iI o)), some (.int (iI k))]) (st' := [.int (iI k)]) rfl rfl ?_
    refine go_a (pc' := 10) (ls' := [some (.ref a), some (.int (iI p)), some (.int (iI o)), some (.int (iI k))]) (st' := [.ref a, .int (iI k)]) rfl rfl ?_
    refine go_get (v := .ref q) rfl hT.1 rfl rfl ?_
    refine mk_len (n := n) rfl hT.2.1 (xa_f_len _ _) (by omega) (by omega) ?_
    refine mi_ge (t := 43) rfl rfl (by omega) (by omega) (by omega) (by omega) (fun _ => ?_) (fun w => absurd (show k ≥ n by omega) w)
    refine go_a (pc' := 44) (ls' := [some (.ref a), some (.int (iI p)), some (.int (iI o)), some (.int (iI k))]) (st' := [.int (iI k)]) rfl rfl ?_
    exact go_r rfl rfl rfl rfl rfl rfl ⟨rfl, rfl⟩
  | succ m ih =>
    intro o k hm k0 k1 o0 o1 ho
    refine go_a (pc' := 9) (ls' := [some (.ref a), some (.int (iI p)), some (.int (iI o)), some (.int (iI k))]) (st' := [.int (iI k)]) rfl rfl ?_
    refine go_a (pc' := 10) (ls' := [some (.ref a), some (.int (iI p)), some (.int (iI o)), some (.int (iI k))]) (st' := [.ref a, .int (iI k)]) rfl rfl ?_
    refine go_get (v := .ref q) rfl hT.1 rfl rfl ?_
    refine mk_len (n := n) rfl hT.2.1 (xa_f_len _ _) (by omega) (by omega) ?_
    refine mi_ge (t := 43) rfl rfl (by omega) (by omega) (by omega) (by omega) (fun w => ?_) (fun w => ?_)
    · show xx_go _ _ _ _ _ _ _ (fun v h1 => v = some (.int (iI (if k < n ∧ 0 < o then bhf n f m (o + (f k / 4 % 8 - 1)) (k + 1) else k))) ∧ h1 = hp)
      rw [if_neg (by omega)]
      refine go_a (pc' := 44) (ls' := [some (.ref a), some (.int (iI p)), some (.int (iI o)), some (.int (iI k))]) (st' := [.int (iI k)]) rfl rfl ?_
      exact go_r rfl rfl rfl rfl rfl rfl ⟨rfl, rfl⟩
    · have fr := hT.2.2.2 k
      show xx_go _ _ _ _ _ _ _ (fun v h1 => v = some (.int (iI (if k < n ∧ 0 < o then bhf n f m (o + (f k / 4 % 8 - 1)) (k + 1) else k))) ∧ h1 = hp)
      refine go_a (pc' := 18) (ls' := [some (.ref a), some (.int (iI p)), some (.int (iI o)), some (.int (iI k))]) (st' := [.int (iI o)]) rfl rfl ?_
      refine mi_le0 (t := 43) rfl rfl (by omega) (by omega) (fun w2 => ?_) (fun w2 => ?_)
      · rw [if_neg (by omega)]
        refine go_a (pc' := 44) (ls' := [some (.ref a), some (.int (iI p)), some (.int (iI o)), some (.int (iI k))]) (st' := [.int (iI k)]) rfl rfl ?_
        exact go_r rfl rfl rfl rfl rfl rfl ⟨rfl, rfl⟩
      · rw [if_pos (by omega)]
        refine go_a (pc' := 22) (ls' := [some (.ref a), some (.int (iI p)), some (.int (iI o)), some (.int (iI k))]) (st' := [.int (iI o)]) rfl rfl ?_
        refine go_a (pc' := 23) (ls' := [some (.ref a), some (.int (iI p)), some (.int (iI o)), some (.int (iI k))]) (st' := [.ref a, .int (iI o)]) rfl rfl ?_
        refine go_get (v := .ref q) rfl hT.1 rfl rfl ?_
        refine go_a (pc' := 27) (ls' := [some (.ref a), some (.int (iI p)), some (.int (iI o)), some (.int (iI k))]) (st' := [.int (iI k), .ref q, .int (iI o)]) rfl rfl ?_
        refine mi_ild (n := (n).toNat) (f := f) rfl hT.2.1 (by omega) (by omega) (by omega) ?_
        refine go_a (pc' := 29) (ls' := [some (.ref a), some (.int (iI p)), some (.int (iI o)), some (.int (iI k))]) (st' := [.int (iI 2), .int (iI (f k)), .int (iI o)]) rfl rfl ?_
        refine go_a (pc' := 30) (ls' := [some (.ref a), some (.int (iI p)), some (.int (iI o)), some (.int (iI k))]) (st' := [.int (iI (f k / 4)), .int (iI o)]) rfl (by rw [← shr2 fr.1 fr.2]; rfl) ?_
        refine go_a (pc' := 32) (ls' := [some (.ref a), some (.int (iI p)), some (.int (iI o)), some (.int (iI k))]) (st' := [.int (iI 7), .int (iI (f k / 4)), .int (iI o)]) rfl rfl ?_
        refine go_a (pc' := 33) (ls' := [some (.ref a), some (.int (iI p)), some (.int (iI o)), some (.int (iI k))]) (st' := [.int (iI (f k / 4 % 8)), .int (iI o)]) rfl (by rw [← and7]; rfl) ?_
        refine go_a (pc' := 34) (ls' := [some (.ref a), some (.int (iI p)), some (.int (iI o)), some (.int (iI k))]) (st' := [.int (iI 1), .int (iI (f k / 4 % 8)), .int (iI o)]) rfl rfl ?_
        refine mi_sub rfl ?_
        refine mi_add rfl ?_
        refine go_a (pc' := 37) (ls' := [some (.ref a), some (.int (iI p)), some (.int (iI (o + ((f k / 4 % 8) - 1)))), some (.int (iI k))]) (st' := []) rfl rfl ?_
        refine go_a (pc' := 40) (ls' := [some (.ref a), some (.int (iI p)), some (.int (iI (o + ((f k / 4 % 8) - 1)))), some (.int (iI (k + 1)))]) (st' := []) rfl (by rw [← iI_add k 1]; rfl) ?_
        refine go_a (pc' := 8) (ls' := [some (.ref a), some (.int (iI p)), some (.int (iI (o + ((f k / 4 % 8) - 1)))), some (.int (iI (k + 1)))]) (st' := []) rfl rfl ?_
        exact ih (o + (f k / 4 % 8 - 1)) (k + 1) (by omega) (by omega) (by omega) (by omega) (by omega) (by omega)
theorem kg_behind (z : Value) (d : Nat) (p : Int) (a q : Nat) (n : Int) (f : Int → Int) (hp : xx_H) (hT : KTL hp a q n f) (p0 : -2147483648 ≤ p) (p1 : p ≤ 2147483647) : xx_cl (xt_P z) (d + 1) 231 [.ref a, .int (iI p)] hp (fun v h1 => v = some (.int (iI (bh n f p))) ∧ h1 = hp) := by
  have b := hT.2.2.1
  refine cl_go rfl ?_
  show xx_go (xt_P z) d 231 0 [some (.ref a), some (.int (iI p)), none, none] [] hp _
  refine go_a (pc' := 1) (ls' := [some (.ref a), some (.int (iI p)), none, none]) (st' := [.int (iI 1)]) rfl rfl ?_
  refine go_a (pc' := 2) (ls' := [some (.ref a), some (.int (iI p)), some (.int (iI 1)), none]) (st' := []) rfl rfl ?_
  refine go_a (pc' := 3) (ls' := [some (.ref a), some (.int (iI p)), some (.int (iI 1)), none]) (st' := [.int (iI p)]) rfl rfl ?_
  refine go_a (pc' := 4) (ls' := [some (.ref a), some (.int (iI p)), some (.int (iI 1)), none]) (st' := [.int (iI 0), .int (iI p)]) rfl rfl ?_
  refine go_o (st' := [.int (iI (if p < 0 then 0 else p))]) (h' := hp) rfl rfl rfl (by rw [iI_max (by omega) (by omega) (by decide) (by decide)]; rfl) ?_
  refine go_a (pc' := 8) (ls' := [some (.ref a), some (.int (iI p)), some (.int (iI 1)), some (.int (iI (if p < 0 then 0 else p)))]) (st' := []) rfl rfl ?_
  have c : 0 ≤ (if p < 0 then 0 else p) ∧ (if p < 0 then 0 else p) ≤ 2147483647 := by split <;> omega
  unfold bh
  exact kg_behind_loop z d p a q n f hp hT _ 1 _ (by omega) c.1 c.2 (by decide) (by omega) (by omega)
theorem kg_place_loop (z : Value) (d : Nat) (x : Int) (q : Nat) (n : Int) (f : Int → Int) (hp : xx_H) (hA : KAL hp q n f) (x0 : -2147483648 ≤ x) (x1 : x ≤ 2147483647) : ∀ (m : Nat) (k : Int), (n - k).toNat ≤ m → 0 ≤ k → k ≤ 2000 → (∀ i : Int, 0 ≤ i → i < k → f i ≠ x) → xx_go (xt_P z) d 207 2 [some (.int (iI x)), some (.ref q), some (.int (iI k))] [] hp (fun v h1 => (∃ j : Int, v = some (.int (iI j)) ∧ ((j = -1 ∧ ∀ i : Int, 0 ≤ i → i < n → f i ≠ x) ∨ (0 ≤ j ∧ j < n ∧ f j = x ∧ ∀ i : Int, 0 ≤ i → i < j → f i ≠ x))) ∧ h1 = hp) := by
  have b := hA.2.1
  intro m
  induction m with
  | zero =>
    intro k hm k0 k1 hk
    refine go_a (pc' := 3) (ls' := [some (.int (iI x)), some (.ref q), some (.int (iI k))]) (st' := [.int (iI k)]) rfl rfl ?_
    refine go_a (pc' := 4) (ls' := [some (.int (iI x)), some (.ref q), some (.int (iI k))]) (st' := [.ref q, .int (iI k)]) rfl rfl ?_
    refine mk_len (n := n) rfl hA.1 (xa_f_len _ _) (by omega) (by omega) ?_
    refine mi_ge (t := 23) rfl rfl (by omega) (by omega) (by omega) (by omega) (fun _ => ?_) (fun w => absurd (show k ≥ n by omega) w)
    refine go_a (pc' := 24) (ls' := [some (.int (iI x)), some (.ref q), some (.int (iI k))]) (st' := [.int (iI ((-1)))]) rfl rfl ?_
    exact go_r rfl rfl rfl rfl rfl rfl ⟨⟨-1, rfl, Or.inl ⟨rfl, fun i i0 i1 => hk i i0 (by omega)⟩⟩, rfl⟩
  | succ m ih =>
    intro k hm k0 k1 hk
    refine go_a (pc' := 3) (ls' := [some (.int (iI x)), some (.ref q), some (.int (iI k))]) (st' := [.int (iI k)]) rfl rfl ?_
    refine go_a (pc' := 4) (ls' := [some (.int (iI x)), some (.ref q), some (.int (iI k))]) (st' := [.ref q, .int (iI k)]) rfl rfl ?_
    refine mk_len (n := n) rfl hA.1 (xa_f_len _ _) (by omega) (by omega) ?_
    refine mi_ge (t := 23) rfl rfl (by omega) (by omega) (by omega) (by omega) (fun w => ?_) (fun w => ?_)
    · refine go_a (pc' := 24) (ls' := [some (.int (iI x)), some (.ref q), some (.int (iI k))]) (st' := [.int (iI ((-1)))]) rfl rfl ?_
      exact go_r rfl rfl rfl rfl rfl rfl ⟨⟨-1, rfl, Or.inl ⟨rfl, fun i i0 i1 => hk i i0 (by omega)⟩⟩, rfl⟩
    · have fr := hA.2.2 k
      refine go_a (pc' := 9) (ls' := [some (.int (iI x)), some (.ref q), some (.int (iI k))]) (st' := [.ref q]) rfl rfl ?_
      refine go_a (pc' := 10) (ls' := [some (.int (iI x)), some (.ref q), some (.int (iI k))]) (st' := [.int (iI k), .ref q]) rfl rfl ?_
      refine mi_ild (n := (n).toNat) (f := f) rfl hA.1 (by omega) (by omega) (by omega) ?_
      refine go_a (pc' := 12) (ls' := [some (.int (iI x)), some (.ref q), some (.int (iI k))]) (st' := [.int (iI x), .int (iI (f k))]) rfl rfl ?_
      refine mi_ne (t := 17) rfl rfl (by omega) (by omega) (by omega) (by omega) (fun w2 => ?_) (fun w2 => ?_)
      · refine go_a (pc' := 20) (ls' := [some (.int (iI x)), some (.ref q), some (.int (iI (k + 1)))]) (st' := []) rfl (by rw [← iI_add k 1]; rfl) ?_
        refine go_a (pc' := 2) (ls' := [some (.int (iI x)), some (.ref q), some (.int (iI (k + 1)))]) (st' := []) rfl rfl ?_
        refine ih (k + 1) (by omega) (by omega) (by omega) (fun i i0 i1 => ?_)
        by_cases c : i = k
        · rw [c]
          exact w2
        · exact hk i i0 (by omega)
      · refine go_a (pc' := 16) (ls' := [some (.int (iI x)), some (.ref q), some (.int (iI k))]) (st' := [.int (iI k)]) rfl rfl ?_
        exact go_r rfl rfl rfl rfl rfl rfl ⟨⟨k, rfl, Or.inr ⟨k0, by omega, by omega, hk⟩⟩, rfl⟩
theorem kg_placeOf (z : Value) (d : Nat) (x : Int) (q : Nat) (n : Int) (f : Int → Int) (hp : xx_H) (hA : KAL hp q n f) (x0 : -2147483648 ≤ x) (x1 : x ≤ 2147483647) : xx_cl (xt_P z) (d + 1) 207 [.int (iI x), .ref q] hp (fun v h1 => (∃ j : Int, v = some (.int (iI j)) ∧ ((j = -1 ∧ ∀ i : Int, 0 ≤ i → i < n → f i ≠ x) ∨ (0 ≤ j ∧ j < n ∧ f j = x ∧ ∀ i : Int, 0 ≤ i → i < j → f i ≠ x))) ∧ h1 = hp) := by
  refine cl_go rfl ?_
  show xx_go (xt_P z) d 207 0 [some (.int (iI x)), some (.ref q), none] [] hp _
  refine go_a (pc' := 1) (ls' := [some (.int (iI x)), some (.ref q), none]) (st' := [.int (iI 0)]) rfl rfl ?_
  refine go_a (pc' := 2) (ls' := [some (.int (iI x)), some (.ref q), some (.int (iI 0))]) (st' := []) rfl rfl ?_
  exact kg_place_loop z d x q n f hp hA x0 x1 _ 0 (Nat.le_refl _) (by decide) (by decide) (fun i i0 i1 => absurd i1 (by omega))
theorem kg_has_loop (z : Value) (d : Nat) (x p r : Int) (a q : Nat) (n : Int) (f : Int → Int) (hp : xx_H) (hT : KTL hp a q n f) (x0 : -2147483648 ≤ x) (x1 : x ≤ 2147483647) (p0 : -1000000 ≤ p) (r0 : -1 ≤ r) (r1 : r ≤ 1000000) : ∀ (m : Nat) (k : Int), (r - k).toNat ≤ m → p ≤ k → k ≤ 1000001 + p + 1000000 → (∀ i : Int, p ≤ i → i < k → tat n f i ≠ x) → k ≤ 2000000 → xx_go (xt_P z) (d + 1) 232 3 [some (.ref a), some (.int (iI x)), some (.int (iI p)), some (.int (iI r)), some (.int (iI k))] [] hp (fun v h1 => ((v = some (.int (iI 1)) ∧ ∃ i : Int, p ≤ i ∧ i < r ∧ tat n f i = x) ∨ (v = some (.int (iI 0)) ∧ ∀ i : Int, p ≤ i → i < r → tat n f i ≠ x)) ∧ h1 = hp) := by
  intro m
  induction m with
  | zero =>
    intro k hm k0 k1 hk k2
    refine go_a (pc' := 5) (ls' := [some (.ref a), some (.int (iI x)), some (.int (iI p)), some (.int (iI r)), some (.int (iI k))]) (st' := [.int (iI k)]) rfl rfl ?_
    refine go_a (pc' := 6) (ls' := [some (.ref a), some (.int (iI x)), some (.int (iI p)), some (.int (iI r)), some (.int (iI k))]) (st' := [.int (iI r), .int (iI k)]) rfl rfl ?_
    refine mi_ge (t := 27) rfl rfl (by omega) (by omega) (by omega) (by omega) (fun _ => ?_) (fun w => absurd (show k ≥ r by omega) w)
    refine go_a (pc' := 28) (ls' := [some (.ref a), some (.int (iI x)), some (.int (iI p)), some (.int (iI r)), some (.int (iI k))]) (st' := [.int (iI 0)]) rfl rfl ?_
    exact go_r rfl rfl rfl rfl rfl rfl ⟨Or.inr ⟨rfl, fun i i0 i1 => hk i i0 (by omega)⟩, rfl⟩
  | succ m ih =>
    intro k hm k0 k1 hk k2
    refine go_a (pc' := 5) (ls' := [some (.ref a), some (.int (iI x)), some (.int (iI p)), some (.int (iI r)), some (.int (iI k))]) (st' := [.int (iI k)]) rfl rfl ?_
    refine go_a (pc' := 6) (ls' := [some (.ref a), some (.int (iI x)), some (.int (iI p)), some (.int (iI r)), some (.int (iI k))]) (st' := [.int (iI r), .int (iI k)]) rfl rfl ?_
    refine mi_ge (t := 27) rfl rfl (by omega) (by omega) (by omega) (by omega) (fun w => ?_) (fun w => ?_)
    · refine go_a (pc' := 28) (ls' := [some (.ref a), some (.int (iI x)), some (.int (iI p)), some (.int (iI r)), some (.int (iI k))]) (st' := [.int (iI 0)]) rfl rfl ?_
      exact go_r rfl rfl rfl rfl rfl rfl ⟨Or.inr ⟨rfl, fun i i0 i1 => hk i i0 (by omega)⟩, rfl⟩
    · have tr := tat_R (n := n) hT.2.2.2 k
      refine go_a (pc' := 10) (ls' := [some (.ref a), some (.int (iI x)), some (.int (iI p)), some (.int (iI r)), some (.int (iI k))]) (st' := [.ref a]) rfl rfl ?_
      refine go_a (pc' := 12) (ls' := [some (.ref a), some (.int (iI x)), some (.int (iI p)), some (.int (iI r)), some (.int (iI k))]) (st' := [.int (iI k), .ref a]) rfl rfl ?_
      refine go_v (m := 230) (as := [.ref a, .int (iI k)]) (r := []) rfl rfl rfl hT.1 rfl rfl (kg_at z d k a q n f hp hT (by omega) (by omega)) (fun v h1 hq => ?_)
      obtain ⟨rfl, e⟩ := hq
      rw [e]
      clear e h1
      show xx_go (xt_P z) (d + 1) 232 15 [some (.ref a), some (.int (iI x)), some (.int (iI p)), some (.int (iI r)), some (.int (iI k))] [.int (iI (tat n f k))] hp _
      refine go_a (pc' := 16) (ls' := [some (.ref a), some (.int (iI x)), some (.int (iI p)), some (.int (iI r)), some (.int (iI k))]) (st' := [.int (iI x), .int (iI (tat n f k))]) rfl rfl ?_
      refine mi_ne (t := 21) rfl rfl (by omega) (by omega) (by omega) (by omega) (fun w2 => ?_) (fun w2 => ?_)
      · refine go_a (pc' := 24) (ls' := [some (.ref a), some (.int (iI x)), some (.int (iI p)), some (.int (iI r)), some (.int (iI (k + 1)))]) (st' := []) rfl (by rw [← iI_add k 1]; rfl) ?_
        refine go_a (pc' := 3) (ls' := [some (.ref a), some (.int (iI x)), some (.int (iI p)), some (.int (iI r)), some (.int (iI (k + 1)))]) (st' := []) rfl rfl ?_
        refine ih (k + 1) (by omega) (by omega) (by omega) (fun i i0 i1 => ?_) (by omega)
        by_cases c : i = k
        · rw [c]
          exact w2
        · exact hk i i0 (by omega)
      · refine go_a (pc' := 20) (ls' := [some (.ref a), some (.int (iI x)), some (.int (iI p)), some (.int (iI r)), some (.int (iI k))]) (st' := [.int (iI 1)]) rfl rfl ?_
        exact go_r rfl rfl rfl rfl rfl rfl ⟨Or.inl ⟨rfl, k, k0, by omega, by omega⟩, rfl⟩
theorem kg_has (z : Value) (d : Nat) (x p r : Int) (a q : Nat) (n : Int) (f : Int → Int) (hp : xx_H) (hT : KTL hp a q n f) (x0 : -2147483648 ≤ x) (x1 : x ≤ 2147483647) (p0 : -1 ≤ p) (p1 : p ≤ 1000000) (r0 : -1 ≤ r) (r1 : r ≤ 1000000) : xx_cl (xt_P z) (d + 2) 232 [.ref a, .int (iI x), .int (iI p), .int (iI r)] hp (fun v h1 => ((v = some (.int (iI 1)) ∧ ∃ i : Int, p ≤ i ∧ i < r ∧ tat n f i = x) ∨ (v = some (.int (iI 0)) ∧ ∀ i : Int, p ≤ i → i < r → tat n f i ≠ x)) ∧ h1 = hp) := by
  refine cl_go rfl ?_
  show xx_go (xt_P z) (d + 1) 232 0 [some (.ref a), some (.int (iI x)), some (.int (iI p)), some (.int (iI r)), none] [] hp _
  refine go_a (pc' := 1) (ls' := [some (.ref a), some (.int (iI x)), some (.int (iI p)), some (.int (iI r)), none]) (st' := [.int (iI p)]) rfl rfl ?_
  refine go_a (pc' := 3) (ls' := [some (.ref a), some (.int (iI x)), some (.int (iI p)), some (.int (iI r)), some (.int (iI p))]) (st' := []) rfl rfl ?_
  exact kg_has_loop z d x p r a q n f hp hT x0 x1 (by omega) r0 r1 _ p (Nat.le_refl _) (Int.le_refl _) (by omega) (fun i i0 i1 => absurd i1 (by omega)) (by omega)
theorem kg_same_loop (z : Value) (d : Nat) (a q : Nat) (n : Int) (f : Int → Int) (hp : xx_H) (hT : KTL hp a q n f) (a2 q2 : Nat) (n2 : Int) (f2 : Int → Int) (hU : KTL hp a2 q2 n2 f2) (en : n2 = n) : ∀ (m : Nat) (k : Int), (n - k).toNat ≤ m → 0 ≤ k → k ≤ 200 → (∀ i : Int, 0 ≤ i → i < k → f i = f2 i) → xx_go (xt_P z) d 264 17 [some (.ref a), some (.ref a2), some (.int (iI k))] [] hp (fun v h1 => ((v = some (.int (iI 1)) ∧ rl n f = rl n2 f2) ∨ (v = some (.int (iI 0)) ∧ rl n f ≠ rl n2 f2)) ∧ h1 = hp) := by
  have b := hT.2.2.1
  have b2 := hU.2.2.1
  intro m
  induction m with
  | zero =>
    intro k hm k0 k1 hk
    refine go_a (pc' := 18) (ls' := [some (.ref a), some (.ref a2), some (.int (iI k))]) (st' := [.int (iI k)]) rfl rfl ?_
    refine go_a (pc' := 19) (ls' := [some (.ref a), some (.ref a2), some (.int (iI k))]) (st' := [.ref a, .int (iI k)]) rfl rfl ?_
    refine go_get (v := .ref q) rfl hT.1 rfl rfl ?_
    refine mk_len (n := n) rfl hT.2.1 (xa_f_len _ _) (by omega) (by omega) ?_
    refine mi_ge (t := 49) rfl rfl (by omega) (by omega) (by omega) (by omega) (fun _ => ?_) (fun w => absurd (show k ≥ n by omega) w)
    refine go_a (pc' := 50) (ls' := [some (.ref a), some (.ref a2), some (.int (iI k))]) (st' := [.int (iI 1)]) rfl rfl ?_
    exact go_r rfl rfl rfl rfl rfl rfl ⟨Or.inl ⟨rfl, by rw [en]; exact rl_ext (fun i i0 i1 => hk i i0 (by omega))⟩, rfl⟩
  | succ m ih =>
    intro k hm k0 k1 hk
    refine go_a (pc' := 18) (ls' := [some (.ref a), some (.ref a2), some (.int (iI k))]) (st' := [.int (iI k)]) rfl rfl ?_
    refine go_a (pc' := 19) (ls' := [some (.ref a), some (.ref a2), some (.int (iI k))]) (st' := [.ref a, .int (iI k)]) rfl rfl ?_
    refine go_get (v := .ref q) rfl hT.1 rfl rfl ?_
    refine mk_len (n := n) rfl hT.2.1 (xa_f_len _ _) (by omega) (by omega) ?_
    refine mi_ge (t := 49) rfl rfl (by omega) (by omega) (by omega) (by omega) (fun w => ?_) (fun w => ?_)
    · refine go_a (pc' := 50) (ls' := [some (.ref a), some (.ref a2), some (.int (iI k))]) (st' := [.int (iI 1)]) rfl rfl ?_
      exact go_r rfl rfl rfl rfl rfl rfl ⟨Or.inl ⟨rfl, by rw [en]; exact rl_ext (fun i i0 i1 => hk i i0 (by omega))⟩, rfl⟩
    · have fr := hT.2.2.2 k
      have fr2 := hU.2.2.2 k
      refine go_a (pc' := 27) (ls' := [some (.ref a), some (.ref a2), some (.int (iI k))]) (st' := [.ref a]) rfl rfl ?_
      refine go_get (v := .ref q) rfl hT.1 rfl rfl ?_
      refine go_a (pc' := 31) (ls' := [some (.ref a), some (.ref a2), some (.int (iI k))]) (st' := [.int (iI k), .ref q]) rfl rfl ?_
      refine mi_ild (n := (n).toNat) (f := f) rfl hT.2.1 (by omega) (by omega) (by omega) ?_
      refine go_a (pc' := 33) (ls' := [some (.ref a), some (.ref a2), some (.int (iI k))]) (st' := [.ref a2, .int (iI (f k))]) rfl rfl ?_
      refine go_get (v := .ref q2) rfl hU.1 rfl rfl ?_
      refine go_a (pc' := 37) (ls' := [some (.ref a), some (.ref a2), some (.int (iI k))]) (st' := [.int (iI k), .ref q2, .int (iI (f k))]) rfl rfl ?_
      refine mi_ild (n := (n2).toNat) (f := f2) rfl hU.2.1 (by omega) (by omega) (by omega) ?_
      refine mi_eq (t := 43) rfl rfl (by omega) (by omega) (by omega) (by omega) (fun w2 => ?_) (fun w2 => ?_)
      · refine go_a (pc' := 46) (ls' := [some (.ref a), some (.ref a2), some (.int (iI (k + 1)))]) (st' := []) rfl (by rw [← iI_add k 1]; rfl) ?_
        refine go_a (pc' := 17) (ls' := [some (.ref a), some (.ref a2), some (.int (iI (k + 1)))]) (st' := []) rfl rfl ?_
        refine ih (k + 1) (by omega) (by omega) (by omega) (fun i i0 i1 => ?_)
        by_cases c : i = k
        · rw [c]
          omega
        · exact hk i i0 (by omega)
      · refine go_a (pc' := 42) (ls' := [some (.ref a), some (.ref a2), some (.int (iI k))]) (st' := [.int (iI 0)]) rfl rfl ?_
        exact go_r rfl rfl rfl rfl rfl rfl ⟨Or.inr ⟨rfl, fun q => absurd ((rl_eq q (by omega) (by omega)).2 k k0 (by omega)) (by omega)⟩, rfl⟩
theorem kg_isSame (z : Value) (d : Nat) (a q : Nat) (n : Int) (f : Int → Int) (hp : xx_H) (hT : KTL hp a q n f) (a2 q2 : Nat) (n2 : Int) (f2 : Int → Int) (hU : KTL hp a2 q2 n2 f2) : xx_cl (xt_P z) (d + 1) 264 [.ref a, .ref a2] hp (fun v h1 => ((v = some (.int (iI 1)) ∧ rl n f = rl n2 f2) ∨ (v = some (.int (iI 0)) ∧ rl n f ≠ rl n2 f2)) ∧ h1 = hp) := by
  have b := hT.2.2.1
  have b2 := hU.2.2.1
  refine cl_go rfl ?_
  show xx_go (xt_P z) d 264 0 [some (.ref a), some (.ref a2), none] [] hp _
  refine go_a (pc' := 1) (ls' := [some (.ref a), some (.ref a2), none]) (st' := [.ref a2]) rfl rfl ?_
  refine go_get (v := .ref q2) rfl hU.1 rfl rfl ?_
  refine mk_len (n := n2) rfl hU.2.1 (xa_f_len _ _) (by omega) (by omega) ?_
  refine go_a (pc' := 6) (ls' := [some (.ref a), some (.ref a2), none]) (st' := [.ref a, .int (iI n2)]) rfl rfl ?_
  refine go_get (v := .ref q) rfl hT.1 rfl rfl ?_
  refine mk_len (n := n) rfl hT.2.1 (xa_f_len _ _) (by omega) (by omega) ?_
  refine mi_eq (t := 15) rfl rfl (by omega) (by omega) (by omega) (by omega) (fun w => ?_) (fun w => ?_)
  · refine go_a (pc' := 16) (ls' := [some (.ref a), some (.ref a2), none]) (st' := [.int (iI 0)]) rfl rfl ?_
    refine go_a (pc' := 17) (ls' := [some (.ref a), some (.ref a2), some (.int (iI 0))]) (st' := []) rfl rfl ?_
    exact kg_same_loop z d a q n f hp hT a2 q2 n2 f2 hU w _ 0 (Nat.le_refl _) (by decide) (by decide) (fun i i0 i1 => absurd i1 (by omega))
  · refine go_a (pc' := 14) (ls' := [some (.ref a), some (.ref a2), none]) (st' := [.int (iI 0)]) rfl rfl ?_
    exact go_r rfl rfl rfl rfl rfl rfl ⟨Or.inr ⟨rfl, fun q => absurd (rl_eq q (by omega) (by omega)).1 (by omega)⟩, rfl⟩
theorem kg_stands_loop (z : Value) (d : Nat) (p : Int) (a q : Nat) (n : Int) (f : Int → Int) (hp : xx_H) (hT : KTL hp a q n f) (a2 q2 : Nat) (n2 : Int) (f2 : Int → Int) (hU : KTL hp a2 q2 n2 f2) (p0 : 0 ≤ p) (p1 : p ≤ 1000) : ∀ (m : Nat) (k : Int), (n2 - k).toNat ≤ m → 0 ≤ k → k ≤ 200 → (∀ i : Int, 0 ≤ i → i < k → tat n f (p + i) = f2 i) → xx_go (xt_P z) (d + 1) 285 2 [some (.ref a), some (.ref a2), some (.int (iI p)), some (.int (iI k))] [] hp (fun v h1 => ((v = some (.int (iI 1)) ∧ ∀ i : Int, 0 ≤ i → i < n2 → tat n f (p + i) = f2 i) ∨ (v = some (.int (iI 0)) ∧ ¬ ∀ i : Int, 0 ≤ i → i < n2 → tat n f (p + i) = f2 i)) ∧ h1 = hp) := by
  have b2 := hU.2.2.1
  intro m
  induction m with
  | zero =>
    intro k hm k0 k1 hk
    refine go_a (pc' := 3) (ls' := [some (.ref a), some (.ref a2), some (.int (iI p)), some (.int (iI k))]) (st' := [.int (iI k)]) rfl rfl ?_
    refine go_a (pc' := 4) (ls' := [some (.ref a), some (.ref a2), some (.int (iI p)), some (.int (iI k))]) (st' := [.ref a2, .int (iI k)]) rfl rfl ?_
    refine go_get (v := .ref q2) rfl hU.1 rfl rfl ?_
    refine mk_len (n := n2) rfl hU.2.1 (xa_f_len _ _) (by omega) (by omega) ?_
    refine mi_ge (t := 35) rfl rfl (by omega) (by omega) (by omega) (by omega) (fun _ => ?_) (fun w => absurd (show k ≥ n2 by omega) w)
    refine go_a (pc' := 36) (ls' := [some (.ref a), some (.ref a2), some (.int (iI p)), some (.int (iI k))]) (st' := [.int (iI 1)]) rfl rfl ?_
    exact go_r rfl rfl rfl rfl rfl rfl ⟨Or.inl ⟨rfl, fun i i0 i1 => hk i i0 (by omega)⟩, rfl⟩
  | succ m ih =>
    intro k hm k0 k1 hk
    refine go_a (pc' := 3) (ls' := [some (.ref a), some (.ref a2), some (.int (iI p)), some (.int (iI k))]) (st' := [.int (iI k)]) rfl rfl ?_
    refine go_a (pc' := 4) (ls' := [some (.ref a), some (.ref a2), some (.int (iI p)), some (.int (iI k))]) (st' := [.ref a2, .int (iI k)]) rfl rfl ?_
    refine go_get (v := .ref q2) rfl hU.1 rfl rfl ?_
    refine mk_len (n := n2) rfl hU.2.1 (xa_f_len _ _) (by omega) (by omega) ?_
    refine mi_ge (t := 35) rfl rfl (by omega) (by omega) (by omega) (by omega) (fun w => ?_) (fun w => ?_)
    · refine go_a (pc' := 36) (ls' := [some (.ref a), some (.ref a2), some (.int (iI p)), some (.int (iI k))]) (st' := [.int (iI 1)]) rfl rfl ?_
      exact go_r rfl rfl rfl rfl rfl rfl ⟨Or.inl ⟨rfl, fun i i0 i1 => hk i i0 (by omega)⟩, rfl⟩
    · have tr := tat_R (n := n) hT.2.2.2 (p + k)
      have fr2 := hU.2.2.2 k
      refine go_a (pc' := 12) (ls' := [some (.ref a), some (.ref a2), some (.int (iI p)), some (.int (iI k))]) (st' := [.ref a]) rfl rfl ?_
      refine go_a (pc' := 13) (ls' := [some (.ref a), some (.ref a2), some (.int (iI p)), some (.int (iI k))]) (st' := [.int (iI p), .ref a]) rfl rfl ?_
      refine go_a (pc' := 14) (ls' := [some (.ref a), some (.ref a2), some (.int (iI p)), some (.int (iI k))]) (st' := [.int (iI k), .int (iI p), .ref a]) rfl rfl ?_
      refine mi_add rfl ?_
      refine go_v (m := 230) (as := [.ref a, .int (iI (p + k))]) (r := []) rfl rfl rfl hT.1 rfl rfl (kg_at z d (p + k) a q n f hp hT (by omega) (by omega)) (fun v h1 hq => ?_)
      obtain ⟨rfl, e⟩ := hq
      rw [e]
      clear e h1
      show xx_go (xt_P z) (d + 1) 285 18 [some (.ref a), some (.ref a2), some (.int (iI p)), some (.int (iI k))] [.int (iI (tat n f (p + k)))] hp _
      refine go_a (pc' := 19) (ls' := [some (.ref a), some (.ref a2), some (.int (iI p)), some (.int (iI k))]) (st' := [.ref a2, .int (iI (tat n f (p + k)))]) rfl rfl ?_
      refine go_get (v := .ref q2) rfl hU.1 rfl rfl ?_
      refine go_a (pc' := 23) (ls' := [some (.ref a), some (.ref a2), some (.int (iI p)), some (.int (iI k))]) (st' := [.int (iI k), .ref q2, .int (iI (tat n f (p + k)))]) rfl rfl ?_
      refine mi_ild (n := (n2).toNat) (f := f2) rfl hU.2.1 (by omega) (by omega) (by omega) ?_
      refine mi_eq (t := 29) rfl rfl (by omega) (by omega) (by omega) (by omega) (fun w2 => ?_) (fun w2 => ?_)
      · refine go_a (pc' := 32) (ls' := [some (.ref a), some (.ref a2), some (.int (iI p)), some (.int (iI (k + 1)))]) (st' := []) rfl (by rw [← iI_add k 1]; rfl) ?_
        refine go_a (pc' := 2) (ls' := [some (.ref a), some (.ref a2), some (.int (iI p)), some (.int (iI (k + 1)))]) (st' := []) rfl rfl ?_
        refine ih (k + 1) (by omega) (by omega) (by omega) (fun i i0 i1 => ?_)
        by_cases c : i = k
        · rw [c]
          omega
        · exact hk i i0 (by omega)
      · refine go_a (pc' := 28) (ls' := [some (.ref a), some (.ref a2), some (.int (iI p)), some (.int (iI k))]) (st' := [.int (iI 0)]) rfl rfl ?_
        exact go_r rfl rfl rfl rfl rfl rfl ⟨Or.inr ⟨rfl, fun q => absurd (q k k0 (by omega)) (by omega)⟩, rfl⟩
theorem kg_stands (z : Value) (d : Nat) (p : Int) (a q : Nat) (n : Int) (f : Int → Int) (hp : xx_H) (hT : KTL hp a q n f) (a2 q2 : Nat) (n2 : Int) (f2 : Int → Int) (hU : KTL hp a2 q2 n2 f2) (p0 : 0 ≤ p) (p1 : p ≤ 1000) : xx_cl (xt_P z) (d + 2) 285 [.ref a, .ref a2, .int (iI p)] hp (fun v h1 => ((v = some (.int (iI 1)) ∧ ∀ i : Int, 0 ≤ i → i < n2 → tat n f (p + i) = f2 i) ∨ (v = some (.int (iI 0)) ∧ ¬ ∀ i : Int, 0 ≤ i → i < n2 → tat n f (p + i) = f2 i)) ∧ h1 = hp) := by
  refine cl_go rfl ?_
  show xx_go (xt_P z) (d + 1) 285 0 [some (.ref a), some (.ref a2), some (.int (iI p)), none] [] hp _
  refine go_a (pc' := 1) (ls' := [some (.ref a), some (.ref a2), some (.int (iI p)), none]) (st' := [.int (iI 0)]) rfl rfl ?_
  refine go_a (pc' := 2) (ls' := [some (.ref a), some (.ref a2), some (.int (iI p)), some (.int (iI 0))]) (st' := []) rfl rfl ?_
  exact kg_stands_loop z d p a q n f hp hT a2 q2 n2 f2 hU p0 p1 _ 0 (Nat.le_refl _) (by decide) (by decide) (fun i i0 i1 => absurd i1 (by omega))
theorem kg_but_loop (z : Value) (d : Nat) (a q : Nat) (n : Int) (f : Int → Int) (hp : xx_H) (hT : KTL hp a q n f) (w : Nat) (m2 : Int) (g : Int → Int) (hW : KAL hp w m2 g) : ∀ (m : Nat) (k : Int), (n - k).toNat ≤ m → 0 ≤ k → k ≤ 200 → (∀ i : Int, 0 ≤ i → i < k → f i % 4 = 0 → ∃ j : Int, 0 ≤ j ∧ j < m2 ∧ g j = f i) → xx_go (xt_P z) (d + 1) 226 2 [some (.ref a), some (.ref w), some (.int (iI k))] [] hp (fun v h1 => ((v = some (.int (iI 1)) ∧ ∀ i : Int, 0 ≤ i → i < n → f i % 4 = 0 → ∃ j : Int, 0 ≤ j ∧ j < m2 ∧ g j = f i) ∨ (v = some (.int (iI 0)) ∧ ∃ i : Int, 0 ≤ i ∧ i < n ∧ f i % 4 = 0 ∧ ∀ j : Int, 0 ≤ j → j < m2 → g j ≠ f i)) ∧ h1 = hp) := by
  have b := hT.2.2.1
  have b2 := hW.2.1
  intro m
  induction m with
  | zero =>
    intro k hm k0 k1 hk
    refine go_a (pc' := 3) (ls' := [some (.ref a), some (.ref w), some (.int (iI k))]) (st' := [.int (iI k)]) rfl rfl ?_
    refine go_a (pc' := 4) (ls' := [some (.ref a), some (.ref w), some (.int (iI k))]) (st' := [.ref a, .int (iI k)]) rfl rfl ?_
    refine go_get (v := .ref q) rfl hT.1 rfl rfl ?_
    refine mk_len (n := n) rfl hT.2.1 (xa_f_len _ _) (by omega) (by omega) ?_
    refine mi_ge (t := 45) rfl rfl (by omega) (by omega) (by omega) (by omega) (fun _ => ?_) (fun w => absurd (show k ≥ n by omega) w)
    refine go_a (pc' := 46) (ls' := [some (.ref a), some (.ref w), some (.int (iI k))]) (st' := [.int (iI 1)]) rfl rfl ?_
    exact go_r rfl rfl rfl rfl rfl rfl ⟨Or.inl ⟨rfl, fun i i0 i1 => hk i i0 (by omega)⟩, rfl⟩
  | succ m ih =>
    intro k hm k0 k1 hk
    refine go_a (pc' := 3) (ls' := [some (.ref a), some (.ref w), some (.int (iI k))]) (st' := [.int (iI k)]) rfl rfl ?_
    refine go_a (pc' := 4) (ls' := [some (.ref a), some (.ref w), some (.int (iI k))]) (st' := [.ref a, .int (iI k)]) rfl rfl ?_
    refine go_get (v := .ref q) rfl hT.1 rfl rfl ?_
    refine mk_len (n := n) rfl hT.2.1 (xa_f_len _ _) (by omega) (by omega) ?_
    refine mi_ge (t := 45) rfl rfl (by omega) (by omega) (by omega) (by omega) (fun c => ?_) (fun c => ?_)
    · refine go_a (pc' := 46) (ls' := [some (.ref a), some (.ref w), some (.int (iI k))]) (st' := [.int (iI 1)]) rfl rfl ?_
      exact go_r rfl rfl rfl rfl rfl rfl ⟨Or.inl ⟨rfl, fun i i0 i1 => hk i i0 (by omega)⟩, rfl⟩
    · have fr := hT.2.2.2 k
      have nx : (f k % 4 = 0 → ∃ j : Int, 0 ≤ j ∧ j < m2 ∧ g j = f k) → xx_go (xt_P z) (d + 1) 226 39 [some (.ref a), some (.ref w), some (.int (iI k))] [] hp (fun v h1 => ((v = some (.int (iI 1)) ∧ ∀ i : Int, 0 ≤ i → i < n → f i % 4 = 0 → ∃ j : Int, 0 ≤ j ∧ j < m2 ∧ g j = f i) ∨ (v = some (.int (iI 0)) ∧ ∃ i : Int, 0 ≤ i ∧ i < n ∧ f i % 4 = 0 ∧ ∀ j : Int, 0 ≤ j → j < m2 → g j ≠ f i)) ∧ h1 = hp) := by
        intro hx
        refine go_a (pc' := 42) (ls' := [some (.ref a), some (.ref w), some (.int (iI (k + 1)))]) (st' := []) rfl (by rw [← iI_add k 1]; rfl) ?_
        refine go_a (pc' := 2) (ls' := [some (.ref a), some (.ref w), some (.int (iI (k + 1)))]) (st' := []) rfl rfl ?_
        refine ih (k + 1) (by omega) (by omega) (by omega) (fun i i0 i1 => ?_)
        by_cases c : i = k
        · rw [c]
          exact hx
        · exact hk i i0 (by omega)
      refine go_a (pc' := 12) (ls' := [some (.ref a), some (.ref w), some (.int (iI k))]) (st' := [.ref a]) rfl rfl ?_
      refine go_get (v := .ref q) rfl hT.1 rfl rfl ?_
      refine go_a (pc' := 16) (ls' := [some (.ref a), some (.ref w), some (.int (iI k))]) (st' := [.int (iI k), .ref q]) rfl rfl ?_
      refine mi_ild (n := (n).toNat) (f := f) rfl hT.2.1 (by omega) (by omega) (by omega) ?_
      refine go_s (m := 227) (as := [.int (iI (f k))]) (r := []) rfl rfl rfl rfl (kg_isVariable z d (f k) hp) (fun v h1 hq => ?_)
      obtain ⟨hq, e⟩ := hq
      rw [e]
      clear e h1
      rcases hq with ⟨q1, rfl⟩ | ⟨q1, rfl⟩
      · show xx_go (xt_P z) (d + 1) 226 20 [some (.ref a), some (.ref w), some (.int (iI k))] [.int (iI 1)] hp _
        refine mi_eq0 (t := 39) rfl rfl (by omega) (by omega) (fun q => absurd q (by decide)) (fun _ => ?_)
        refine go_a (pc' := 24) (ls' := [some (.ref a), some (.ref w), some (.int (iI k))]) (st' := [.ref a]) rfl rfl ?_
        refine go_get (v := .ref q) rfl hT.1 rfl rfl ?_
        refine go_a (pc' := 28) (ls' := [some (.ref a), some (.ref w), some (.int (iI k))]) (st' := [.int (iI k), .ref q]) rfl rfl ?_
        refine mi_ild (n := (n).toNat) (f := f) rfl hT.2.1 (by omega) (by omega) (by omega) ?_
        refine go_a (pc' := 30) (ls' := [some (.ref a), some (.ref w), some (.int (iI k))]) (st' := [.ref w, .int (iI (f k))]) rfl rfl ?_
        refine go_s (m := 207) (as := [.int (iI (f k)), .ref w]) (r := []) rfl rfl rfl rfl (kg_placeOf z d (f k) w m2 g hp hW fr.1 fr.2) (fun v h1 hq => ?_)
        obtain ⟨⟨j, rfl, hj⟩, e⟩ := hq
        rw [e]
        clear e h1
        have jr : -1 ≤ j ∧ j ≤ 1000 := by
          rcases hj with ⟨hj, -⟩ | ⟨h1, h2, -⟩ <;> omega
        show xx_go (xt_P z) (d + 1) 226 33 [some (.ref a), some (.ref w), some (.int (iI k))] [.int (iI j)] hp _
        refine go_a (pc' := 34) (ls' := [some (.ref a), some (.ref w), some (.int (iI k))]) (st' := [.int (iI ((-1))), .int (iI j)]) rfl rfl ?_
        refine mi_ne (t := 39) rfl rfl (by omega) (by omega) (by omega) (by omega) (fun w9 => nx (fun _ => ?_)) (fun w9 => ?_)
        · rcases hj with ⟨hj, -⟩ | ⟨h1, h2, h3, -⟩
          · omega
          · exact ⟨j, h1, h2, h3⟩
        refine go_a (pc' := 38) (ls' := [some (.ref a), some (.ref w), some (.int (iI k))]) (st' := [.int (iI 0)]) rfl rfl ?_
        have hj9 : ∀ j2 : Int, 0 ≤ j2 → j2 < m2 → g j2 ≠ f k := by
          rcases hj with ⟨hj, hj2⟩ | ⟨h1, h2, -⟩
          · exact hj2
          · omega
        exact go_r rfl rfl rfl rfl rfl rfl ⟨Or.inr ⟨rfl, k, k0, by omega, q1, hj9⟩, rfl⟩
      · show xx_go (xt_P z) (d + 1) 226 20 [some (.ref a), some (.ref w), some (.int (iI k))] [.int (iI 0)] hp _
        refine mi_eq0 (t := 39) rfl rfl (by omega) (by omega) (fun _ => nx (fun q => absurd q q1)) (fun q => absurd rfl q)
theorem kg_hasBut (z : Value) (d : Nat) (a q : Nat) (n : Int) (f : Int → Int) (hp : xx_H) (hT : KTL hp a q n f) (w : Nat) (m2 : Int) (g : Int → Int) (hW : KAL hp w m2 g) : xx_cl (xt_P z) (d + 2) 226 [.ref a, .ref w] hp (fun v h1 => ((v = some (.int (iI 1)) ∧ ∀ i : Int, 0 ≤ i → i < n → f i % 4 = 0 → ∃ j : Int, 0 ≤ j ∧ j < m2 ∧ g j = f i) ∨ (v = some (.int (iI 0)) ∧ ∃ i : Int, 0 ≤ i ∧ i < n ∧ f i % 4 = 0 ∧ ∀ j : Int, 0 ≤ j → j < m2 → g j ≠ f i)) ∧ h1 = hp) := by
  refine cl_go rfl ?_
  show xx_go (xt_P z) (d + 1) 226 0 [some (.ref a), some (.ref w), none] [] hp _
  refine go_a (pc' := 1) (ls' := [some (.ref a), some (.ref w), none]) (st' := [.int (iI 0)]) rfl rfl ?_
  refine go_a (pc' := 2) (ls' := [some (.ref a), some (.ref w), some (.int (iI 0))]) (st' := []) rfl rfl ?_
  exact kg_but_loop z d a q n f hp hT w m2 g hW _ 0 (Nat.le_refl _) (by decide) (by decide) (fun i i0 i1 => absurd i1 (by omega))
