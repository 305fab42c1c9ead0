/-! Cells.numberOf, as far as safety goes: an int, and the table still a table -/
def xs_i (l : List Value) : Prop := ∀ j, j < l.length → ∃ x : Int32, l[j]? = some (.int x)
def xs_l (l : List Value) : Prop := ∀ j, j < l.length → ∃ x : Int64, l[j]? = some (.long x)
theorem xs_i_set {l : List Value} (h : xs_i l) (k : Nat) (y : Int32) : xs_i (l.set k (.int y)) := by
  intro j hj
  rw [List.length_set] at hj
  rw [List.getElem?_set]
  split
  · exact ⟨y, by rw [if_pos (by omega)]⟩
  · exact h j hj
theorem xs_l_set {l : List Value} (h : xs_l l) (k : Nat) (y : Int64) : xs_l (l.set k (.long y)) := by
  intro j hj
  rw [List.length_set] at hj
  rw [List.getElem?_set]
  split
  · exact ⟨y, by rw [if_pos (by omega)]⟩
  · exact h j hj
/-- the object of class Cells at c, its arrays behind it -/
def xs_C (h : xx_H) (c u : Nat) : Prop := ∃ K G N S : List Value, h[c]? = some (.inr (1, [.ref (c + 1), .ref (c + 2), .ref (c + 3), .ref (c + 4), .int (nI u)])) ∧ h[c + 1]? = some (.inl (.long, K)) ∧ h[c + 2]? = some (.inl (.int, G)) ∧ h[c + 3]? = some (.inl (.int, N)) ∧ h[c + 4]? = some (.inl (.int, S)) ∧ K.length = 64 ∧ G.length = 64 ∧ N.length = 64 ∧ S.length = 512 ∧ xs_l K ∧ xs_i N ∧ xs_i S
/-- what else is there stays -/
def xs_F (h h1 : xx_H) (c n : Nat) : Prop := h1.length = h.length ∧ xx_sz h1 = xx_sz h ∧ ∀ i, (i < c ∨ c + n ≤ i) → h1[i]? = h[i]?
theorem xs_F_rf {h : xx_H} {c n : Nat} : xs_F h h c n := ⟨rfl, rfl, fun _ _ => rfl⟩
theorem xs_F_tr {h h1 h2 : xx_H} {c n : Nat} (a : xs_F h h1 c n) (b : xs_F h1 h2 c n) : xs_F h h2 c n := ⟨b.1.trans a.1, b.2.1.trans a.2.1, fun i hi => (b.2.2 i hi).trans (a.2.2 i hi)⟩
theorem xs_F_set {h : xx_H} {c n i : Nat} {e e1 : xx_E} (hi : h[i]? = some e1) (hs : xx_sz1 e = xx_sz1 e1) (hc : c ≤ i) (hn : i < c + n) : xs_F h (h.set i e) c n := ⟨List.length_set .., xx_sz_set hi hs, fun j hj => List.getElem?_set_ne (by omega)⟩
theorem xs_ne {h : xx_H} {i j : Nat} {e : xx_E} (hne : i ≠ j) : (h.set i e)[j]? = h[j]? := List.getElem?_set_ne hne
theorem xs_self {h : xx_H} {i : Nat} {e e1 : xx_E} (hi : h[i]? = some e1) : (h.set i e)[i]? = some e := List.getElem?_set_self (List.getElem?_eq_some_iff.mp hi).1
set_option maxHeartbeats 1000000 in
theorem xm_num_tail (z : Value) (d c u s : Nat) (y : Int64) (g k n : Int32) (h : xx_H) (hc : 11 ≤ c) (hu : u < 64) (hs : s < 512) (hC : xs_C h c u) : xx_go (xt_P z) d 14 71 [some (.ref c), some (.long y), none, some (.int g), some (.int (nI s)), some (.int k), some (.int n)] [] h (fun w h1 => ∃ x : Int32, w = some (.int x) ∧ xs_C h1 c (u + 1) ∧ xs_F h h1 c 5) := by
  obtain ⟨K, G, N, S, h0, h1, h2, h3, h4, l1, l2, l3, l4, t1, t3, t4⟩ := hC
  obtain ⟨sv, hsv⟩ := t4 s (by omega)
  refine go_a (pc' := 72) (ls' := [some (.ref c), some (.long y), none, some (.int g), some (.int (nI s)), some (.int k), some (.int n)]) (st' := [(.ref c)]) rfl rfl ?_
  refine go_get rfl h0 rfl rfl ?_
  refine go_b (pc' := 77) (st' := [.int 1048576, .int (nI u)]) (h' := h) rfl rfl rfl ?_
  refine go_if (t := 82) (off := 5) (b := decide (nI u < 1048576)) (r := []) rfl rfl rfl (fun _ => ?_) (fun hf => absurd (show nI u < 1048576 from nI_lt (b := 1048576) (by omega) (by decide)) (of_decide_eq_false hf))
  refine go_a (pc' := 83) (ls' := [some (.ref c), some (.long y), none, some (.int g), some (.int (nI s)), some (.int k), some (.int n)]) (st' := [(.ref c)]) rfl rfl ?_
  refine go_get rfl h0 rfl rfl ?_
  refine go_a (pc' := 87) (ls' := [some (.ref c), some (.long y), none, some (.int g), some (.int (nI s)), some (.int k), some (.int n)]) (st' := [(.ref c), (.int (nI u))]) rfl rfl ?_
  refine go_get rfl h0 rfl rfl ?_
  refine go_len rfl h1 ?_
  rw [l1]
  refine go_if (t := 145) (off := 54) (b := decide (nI u < 64)) (r := []) rfl rfl rfl (fun _ => ?_) (fun hf => absurd (show nI u < 64 from nI_lt (b := 64) (by omega) (by decide)) (of_decide_eq_false hf))
  refine go_a (pc' := 146) (ls' := [some (.ref c), some (.long y), none, some (.int g), some (.int (nI s)), some (.int k), some (.int n)]) (st' := [(.ref c)]) rfl rfl ?_
  refine go_get rfl h0 rfl rfl ?_
  refine go_a (pc' := 150) (ls' := [some (.ref c), some (.long y), none, some (.int g), some (.int (nI s)), some (.int k), some (.int n)]) (st' := [(.ref c), (.ref (c + 1))]) rfl rfl ?_
  refine go_get rfl h0 rfl rfl ?_
  refine go_a (pc' := 154) (ls' := [some (.ref c), some (.long y), none, some (.int g), some (.int (nI s)), some (.int k), some (.int n)]) (st' := [(.long y), (.int (nI u)), (.ref (c + 1))]) rfl rfl ?_
  refine go_lst (m := u) rfl h1 (by show 11 ≤ c + 1; omega) (nI_pos (by omega)) (nI_clamp (by omega)) (by omega) ?_
  have f1 : xs_F h (h.set (c + 1) (.inl (.long, K.set u (.long y)))) c 5 := xs_F_set h1 (by simp [xx_sz1]) (by omega) (by omega)
  have k1 := xs_self (e := .inl (.long, K.set u (.long y))) h1
  have k0 := (xs_ne (h := h) (e := .inl (.long, K.set u (.long y))) (show c + 1 ≠ c by omega)).trans h0
  have k2 := (xs_ne (h := h) (e := .inl (.long, K.set u (.long y))) (show c + 1 ≠ c + 2 by omega)).trans h2
  have k3 := (xs_ne (h := h) (e := .inl (.long, K.set u (.long y))) (show c + 1 ≠ c + 3 by omega)).trans h3
  have k4 := (xs_ne (h := h) (e := .inl (.long, K.set u (.long y))) (show c + 1 ≠ c + 4 by omega)).trans h4
  generalize h.set (c + 1) (.inl (.long, K.set u (.long y))) = a1 at f1 k0 k1 k2 k3 k4 ⊢
  refine go_a (pc' := 156) (ls' := [some (.ref c), some (.long y), none, some (.int g), some (.int (nI s)), some (.int k), some (.int n)]) (st' := [(.ref c)]) rfl rfl ?_
  refine go_get rfl k0 rfl rfl ?_
  refine go_a (pc' := 160) (ls' := [some (.ref c), some (.long y), none, some (.int g), some (.int (nI s)), some (.int k), some (.int n)]) (st' := [(.ref c), (.ref (c + 2))]) rfl rfl ?_
  refine go_get rfl k0 rfl rfl ?_
  refine go_a (pc' := 164) (ls' := [some (.ref c), some (.long y), none, some (.int g), some (.int (nI s)), some (.int k), some (.int n)]) (st' := [(.int g), (.int (nI u)), (.ref (c + 2))]) rfl rfl ?_
  refine go_ist (m := u) rfl k2 (by show 11 ≤ c + 2; omega) (nI_pos (by omega)) (nI_clamp (by omega)) (by omega) ?_
  have f2 := xs_F_tr f1 (xs_F_set (e := .inl (.int, G.set u (.int g))) k2 (by simp [xx_sz1]) (by omega) (by omega))
  have m2 := xs_self (e := .inl (.int, G.set u (.int g))) k2
  have m0 := (xs_ne (h := a1) (e := .inl (.int, G.set u (.int g))) (show c + 2 ≠ c by omega)).trans k0
  have m1 := (xs_ne (h := a1) (e := .inl (.int, G.set u (.int g))) (show c + 2 ≠ c + 1 by omega)).trans k1
  have m3 := (xs_ne (h := a1) (e := .inl (.int, G.set u (.int g))) (show c + 2 ≠ c + 3 by omega)).trans k3
  have m4 := (xs_ne (h := a1) (e := .inl (.int, G.set u (.int g))) (show c + 2 ≠ c + 4 by omega)).trans k4
  generalize a1.set (c + 2) (.inl (.int, G.set u (.int g))) = a2 at f2 m0 m1 m2 m3 m4 ⊢
  refine go_a (pc' := 166) (ls' := [some (.ref c), some (.long y), none, some (.int g), some (.int (nI s)), some (.int k), some (.int n)]) (st' := [(.ref c)]) rfl rfl ?_
  refine go_get rfl m0 rfl rfl ?_
  refine go_a (pc' := 170) (ls' := [some (.ref c), some (.long y), none, some (.int g), some (.int (nI s)), some (.int k), some (.int n)]) (st' := [(.ref c), (.ref (c + 3))]) rfl rfl ?_
  refine go_get rfl m0 rfl rfl ?_
  refine go_a (pc' := 174) (ls' := [some (.ref c), some (.long y), none, some (.int g), some (.int (nI s)), some (.int k), some (.int n)]) (st' := [(.ref c), (.int (nI u)), (.ref (c + 3))]) rfl rfl ?_
  refine go_get rfl m0 rfl rfl ?_
  refine go_a (pc' := 179) (ls' := [some (.ref c), some (.long y), none, some (.int g), some (.int (nI s)), some (.int k), some (.int n)]) (st' := [(.int (nI s)), (.ref (c + 4)), (.int (nI u)), (.ref (c + 3))]) rfl rfl ?_
  refine go_ild rfl m4 (nI_pos (by omega)) (nI_clamp (by omega)) hsv ?_
  refine go_ist (m := u) rfl m3 (by show 11 ≤ c + 3; omega) (nI_pos (by omega)) (nI_clamp (by omega)) (by omega) ?_
  have f3 := xs_F_tr f2 (xs_F_set (e := .inl (.int, N.set u (.int sv))) m3 (by simp [xx_sz1]) (by omega) (by omega))
  have p3 := xs_self (e := .inl (.int, N.set u (.int sv))) m3
  have p0 := (xs_ne (h := a2) (e := .inl (.int, N.set u (.int sv))) (show c + 3 ≠ c by omega)).trans m0
  have p1 := (xs_ne (h := a2) (e := .inl (.int, N.set u (.int sv))) (show c + 3 ≠ c + 1 by omega)).trans m1
  have p2 := (xs_ne (h := a2) (e := .inl (.int, N.set u (.int sv))) (show c + 3 ≠ c + 2 by omega)).trans m2
  have p4 := (xs_ne (h := a2) (e := .inl (.int, N.set u (.int sv))) (show c + 3 ≠ c + 4 by omega)).trans m4
  generalize a2.set (c + 3) (.inl (.int, N.set u (.int sv))) = a3 at f3 p0 p1 p2 p3 p4 ⊢
  refine go_a (pc' := 182) (ls' := [some (.ref c), some (.long y), none, some (.int g), some (.int (nI s)), some (.int k), some (.int n)]) (st' := [(.ref c)]) rfl rfl ?_
  refine go_get rfl p0 rfl rfl ?_
  refine go_a (pc' := 187) (ls' := [some (.ref c), some (.long y), none, some (.int g), some (.int (nI s)), some (.int k), some (.int n)]) (st' := [(.int (nI s)), (.ref (c + 4))]) rfl rfl ?_
  refine go_a (pc' := 188) (ls' := [some (.ref c), some (.long y), none, some (.int g), some (.int (nI s)), some (.int k), some (.int n)]) (st' := [(.ref c), (.int (nI s)), (.ref (c + 4))]) rfl rfl ?_
  refine go_get rfl p0 rfl rfl ?_
  refine go_ist (m := s) rfl p4 (by show 11 ≤ c + 4; omega) (nI_pos (by omega)) (nI_clamp (by omega)) (by omega) ?_
  have f4 := xs_F_tr f3 (xs_F_set (e := .inl (.int, S.set s (.int (nI u)))) p4 (by simp [xx_sz1]) (by omega) (by omega))
  have r4 := xs_self (e := .inl (.int, S.set s (.int (nI u)))) p4
  have r0 := (xs_ne (h := a3) (e := .inl (.int, S.set s (.int (nI u)))) (show c + 4 ≠ c by omega)).trans p0
  have r1 := (xs_ne (h := a3) (e := .inl (.int, S.set s (.int (nI u)))) (show c + 4 ≠ c + 1 by omega)).trans p1
  have r2 := (xs_ne (h := a3) (e := .inl (.int, S.set s (.int (nI u)))) (show c + 4 ≠ c + 2 by omega)).trans p2
  have r3 := (xs_ne (h := a3) (e := .inl (.int, S.set s (.int (nI u)))) (show c + 4 ≠ c + 3 by omega)).trans p3
  generalize a3.set (c + 4) (.inl (.int, S.set s (.int (nI u)))) = a4 at f4 r0 r1 r2 r3 r4 ⊢
  refine go_a (pc' := 193) (ls' := [some (.ref c), some (.long y), none, some (.int g), some (.int (nI s)), some (.int k), some (.int n)]) (st' := [(.ref c)]) rfl rfl ?_
  refine go_a (pc' := 194) (ls' := [some (.ref c), some (.long y), none, some (.int g), some (.int (nI s)), some (.int k), some (.int n)]) (st' := [(.ref c), (.ref c)]) rfl rfl ?_
  refine go_get rfl r0 rfl rfl ?_
  refine go_a (pc' := 198) (ls' := [some (.ref c), some (.long y), none, some (.int g), some (.int (nI s)), some (.int k), some (.int n)]) (st' := [(.int 1), (.int (nI u)), (.ref c)]) rfl rfl ?_
  refine go_a (pc' := 199) (ls' := [some (.ref c), some (.long y), none, some (.int g), some (.int (nI s)), some (.int k), some (.int n)]) (st' := [.int (nI (u + 1)), .ref c]) rfl (by rw [← nI_1 u]; rfl) ?_
  refine go_put (j := 4) rfl r0 rfl rfl hc (Nat.lt_of_sub_pos (by simp)) rfl rfl ?_
  have f5 := xs_F_tr f4 (xs_F_set (e := .inr (1, [.ref (c + 1), .ref (c + 2), .ref (c + 3), .ref (c + 4), .int (nI (u + 1))])) r0 (by simp [xx_sz1]) (by omega) (by omega))
  have q0 := xs_self (e := .inr (1, [.ref (c + 1), .ref (c + 2), .ref (c + 3), .ref (c + 4), .int (nI (u + 1))])) r0
  have q1 := (xs_ne (h := a4) (e := .inr (1, [.ref (c + 1), .ref (c + 2), .ref (c + 3), .ref (c + 4), .int (nI (u + 1))])) (show c ≠ c + 1 by omega)).trans r1
  have q2 := (xs_ne (h := a4) (e := .inr (1, [.ref (c + 1), .ref (c + 2), .ref (c + 3), .ref (c + 4), .int (nI (u + 1))])) (show c ≠ c + 2 by omega)).trans r2
  have q3 := (xs_ne (h := a4) (e := .inr (1, [.ref (c + 1), .ref (c + 2), .ref (c + 3), .ref (c + 4), .int (nI (u + 1))])) (show c ≠ c + 3 by omega)).trans r3
  have q4 := (xs_ne (h := a4) (e := .inr (1, [.ref (c + 1), .ref (c + 2), .ref (c + 3), .ref (c + 4), .int (nI (u + 1))])) (show c ≠ c + 4 by omega)).trans r4
  show xx_go (xt_P z) d 14 202 [some (.ref c), some (.long y), none, some (.int g), some (.int (nI s)), some (.int k), some (.int n)] [] (a4.set c (.inr (1, [.ref (c + 1), .ref (c + 2), .ref (c + 3), .ref (c + 4), .int (nI (u + 1))]))) _
  generalize a4.set c (.inr (1, [.ref (c + 1), .ref (c + 2), .ref (c + 3), .ref (c + 4), .int (nI (u + 1))])) = a5 at f5 q0 q1 q2 q3 q4 ⊢
  refine go_a (pc' := 203) (ls' := [some (.ref c), some (.long y), none, some (.int g), some (.int (nI s)), some (.int k), some (.int n)]) (st' := [(.ref c)]) rfl rfl ?_
  refine go_get rfl q0 rfl rfl ?_
  refine go_a (pc' := 207) (ls' := [some (.ref c), some (.long y), none, some (.int g), some (.int (nI s)), some (.int k), some (.int n)]) (st' := [(.int 1), (.int (nI (u + 1)))]) rfl rfl ?_
  refine go_a (pc' := 208) (ls' := [some (.ref c), some (.long y), none, some (.int g), some (.int (nI s)), some (.int k), some (.int n)]) (st' := [.int (nI (u + 1) - 1)]) rfl rfl ?_
  exact go_r rfl rfl rfl rfl rfl rfl ⟨_, rfl, ⟨_, _, _, _, q0, q1, q2, q3, q4, by simp [l1], by simp [l2], by simp [l3], by simp [l4], xs_l_set t1 u y, xs_i_set t3 u sv, xs_i_set t4 s (nI u)⟩, f5⟩
