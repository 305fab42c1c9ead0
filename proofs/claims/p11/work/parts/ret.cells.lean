def CF5 (c : Nat) (h h1 : xx_H) : Prop := h1.length = h.length ∧ xx_sz h1 = xx_sz h ∧ ∀ i : Nat, i < c ∨ c + 5 ≤ i → h1[i]? = h[i]?
def CZ5 (h : xx_H) (c : Nat) (u : Int) (N G X S : Int → Int) : Prop := h[c]? = some (.inr (1, [.ref (c + 1), .ref (c + 2), .ref (c + 3), .ref (c + 4), .int (iI u)])) ∧ h[c + 1]? = some (.inl (.long, xa_l 64 N)) ∧ h[c + 2]? = some (.inl (.int, xa_f 64 G)) ∧ h[c + 3]? = some (.inl (.int, xa_f 64 X)) ∧ h[c + 4]? = some (.inl (.int, xa_f 512 S)) ∧ (∀ e : Int, -9223372036854775808 ≤ N e ∧ N e ≤ 9223372036854775807) ∧ (∀ e : Int, -2147483648 ≤ G e ∧ G e ≤ 2147483647) ∧ (∀ e : Int, -2147483648 ≤ X e ∧ X e ≤ 2147483647) ∧ ∀ e : Int, -2147483648 ≤ S e ∧ S e ≤ 2147483647
section CZS
variable {c : Nat} {h h1 h2 : xx_H} {u e x : Int} {N G X S : Int → Int}
theorem CF5_rf : CF5 c h h := ⟨rfl, rfl, fun _ _ => rfl⟩
theorem CF5_tr (a : CF5 c h h1) (b : CF5 c h1 h2) : CF5 c h h2 := ⟨b.1.trans a.1, b.2.1.trans a.2.1, fun i hi => (b.2.2 i hi).trans (a.2.2 i hi)⟩
theorem CF5_set {i : Nat} {n o : xx_E} (hi : h[i]? = some o) (hs : xx_sz1 n = xx_sz1 o) (i0 : c ≤ i) (i1 : i < c + 5) : CF5 c h (h.set i n) := ⟨List.length_set .., xx_sz_set hi hs, fun j hj => List.getElem?_set_ne (by omega)⟩
theorem sf_R {lo hi : Int} {f : Int → Int} (hf : ∀ e : Int, lo ≤ f e ∧ f e ≤ hi) (x0 : lo ≤ x) (x1 : x ≤ hi) : ∀ q : Int, lo ≤ sf f e x q ∧ sf f e x q ≤ hi := by
  intro q
  by_cases cq : q = e
  · rw [cq, sf_self]
    exact ⟨x0, x1⟩
  · rw [sf_ne cq]
    exact hf q
theorem CZ_N (hC : CZ5 h c u N G X S) (e0 : 0 ≤ e) (x0 : -9223372036854775808 ≤ x) (x1 : x ≤ 9223372036854775807) : CZ5 (h.set (c + 1) (.inl (.long, (xa_l 64 N).set e.toNat (.long (Int64.ofInt x))))) c u (sf N e x) G X S ∧ CF5 c h (h.set (c + 1) (.inl (.long, (xa_l 64 N).set e.toNat (.long (Int64.ofInt x))))) := by
  obtain ⟨a1, a2, a3, a4, a5, a6, a7, a8, a9⟩ := hC
  refine ⟨⟨(List.getElem?_set_ne (by omega)).trans a1, ?_, (List.getElem?_set_ne (by omega)).trans a3, (List.getElem?_set_ne (by omega)).trans a4, (List.getElem?_set_ne (by omega)).trans a5, sf_R a6 x0 x1, a7, a8, a9⟩, CF5_set a2 (sz_set _ _ _) (by omega) (by omega)⟩
  rw [xa_l_set e0]
  exact List.getElem?_set_self (List.getElem?_eq_some_iff.mp a2).1
theorem CZ_G (hC : CZ5 h c u N G X S) (e0 : 0 ≤ e) (x0 : -2147483648 ≤ x) (x1 : x ≤ 2147483647) : CZ5 (h.set (c + 2) (.inl (.int, (xa_f 64 G).set e.toNat (.int (iI x))))) c u N (sf G e x) X S ∧ CF5 c h (h.set (c + 2) (.inl (.int, (xa_f 64 G).set e.toNat (.int (iI x))))) := by
  obtain ⟨a1, a2, a3, a4, a5, a6, a7, a8, a9⟩ := hC
  refine ⟨⟨(List.getElem?_set_ne (by omega)).trans a1, (List.getElem?_set_ne (by omega)).trans a2, ?_, (List.getElem?_set_ne (by omega)).trans a4, (List.getElem?_set_ne (by omega)).trans a5, a6, sf_R a7 x0 x1, a8, a9⟩, CF5_set a3 (sz_set _ _ _) (by omega) (by omega)⟩
  rw [xa_f_set e0]
  exact List.getElem?_set_self (List.getElem?_eq_some_iff.mp a3).1
theorem CZ_X (hC : CZ5 h c u N G X S) (e0 : 0 ≤ e) (x0 : -2147483648 ≤ x) (x1 : x ≤ 2147483647) : CZ5 (h.set (c + 3) (.inl (.int, (xa_f 64 X).set e.toNat (.int (iI x))))) c u N G (sf X e x) S ∧ CF5 c h (h.set (c + 3) (.inl (.int, (xa_f 64 X).set e.toNat (.int (iI x))))) := by
  obtain ⟨a1, a2, a3, a4, a5, a6, a7, a8, a9⟩ := hC
  refine ⟨⟨(List.getElem?_set_ne (by omega)).trans a1, (List.getElem?_set_ne (by omega)).trans a2, (List.getElem?_set_ne (by omega)).trans a3, ?_, (List.getElem?_set_ne (by omega)).trans a5, a6, a7, sf_R a8 x0 x1, a9⟩, CF5_set a4 (sz_set _ _ _) (by omega) (by omega)⟩
  rw [xa_f_set e0]
  exact List.getElem?_set_self (List.getElem?_eq_some_iff.mp a4).1
theorem CZ_S (hC : CZ5 h c u N G X S) (e0 : 0 ≤ e) (x0 : -2147483648 ≤ x) (x1 : x ≤ 2147483647) : CZ5 (h.set (c + 4) (.inl (.int, (xa_f 512 S).set e.toNat (.int (iI x))))) c u N G X (sf S e x) ∧ CF5 c h (h.set (c + 4) (.inl (.int, (xa_f 512 S).set e.toNat (.int (iI x))))) := by
  obtain ⟨a1, a2, a3, a4, a5, a6, a7, a8, a9⟩ := hC
  refine ⟨⟨(List.getElem?_set_ne (by omega)).trans a1, (List.getElem?_set_ne (by omega)).trans a2, (List.getElem?_set_ne (by omega)).trans a3, (List.getElem?_set_ne (by omega)).trans a4, ?_, a6, a7, a8, sf_R a9 x0 x1⟩, CF5_set a5 (sz_set _ _ _) (by omega) (by omega)⟩
  rw [xa_f_set e0]
  exact List.getElem?_set_self (List.getElem?_eq_some_iff.mp a5).1
theorem CZ_u (hC : CZ5 h c u N G X S) : CZ5 (h.set c (.inr (1, [.ref (c + 1), .ref (c + 2), .ref (c + 3), .ref (c + 4), .int (iI x)]))) c x N G X S ∧ CF5 c h (h.set c (.inr (1, [.ref (c + 1), .ref (c + 2), .ref (c + 3), .ref (c + 4), .int (iI x)]))) := by
  obtain ⟨a1, a2, a3, a4, a5, a6⟩ := hC
  exact ⟨⟨List.getElem?_set_self (List.getElem?_eq_some_iff.mp a1).1, (List.getElem?_set_ne (by omega)).trans a2, (List.getElem?_set_ne (by omega)).trans a3, (List.getElem?_set_ne (by omega)).trans a4, (List.getElem?_set_ne (by omega)).trans a5, a6⟩, CF5_set a1 rfl (by omega) (by omega)⟩
end CZS
def CHN (u : Int) (N X S : Int → Int) : Prop := KCH ((su (fun _ => 0) 8 u, fun j => match j with
    | 10 => X
    | 11 => S
    | _ => fun _ => 0, N, fun _ => 0, fun _ => 0, fun _ _ => none) : KS)
theorem CHN_add {u y : Int} {N X S : Int → Int} (h : CHN u N X S) (u0 : 0 ≤ u) (y0 : 0 ≤ y) (new : ∀ e : Int, 0 ≤ e → e < u → N e ≠ y) : CHN (u + 1) (sf N u y) (sf X u (S (ksl y))) (sf S (ksl y) u) := by
  refine KCH_add (y := y) (g := 0) (k := u) h u0 ⟨rfl, ?_, ?_, fun e he => ⟨?_, rfl⟩, rfl, fun e he => ?_, ?_, rfl⟩ new (fun q => by omega)
  · exact su_su.symm
  · show sf N u y u = y
    exact sf_self
  · have he : e < u := he
    show sf N u y e = N e
    exact sf_ne (by omega)
  · have he : e < u := he
    show sf X u (S (ksl y)) e = X e
    exact sf_ne (by omega)
  · show sf X u (S (ksl y)) u = S (ksl y)
    exact sf_self
theorem CHN_0 : CHN 0 (fun _ => 0) (fun _ => 0) (fun _ => (-1)) := by
  refine ⟨fun k k0 k1 => absurd (show k < 0 from k1) (by omega), fun t _ _ => ⟨Int.le_refl _, show (-1 : Int) < 0 by decide, fun q => absurd (show (0 : Int) ≤ -1 from q) (by decide)⟩, fun j k j0 jk k1 => absurd (show k < 0 from k1) (by omega), fun j j0 j1 => absurd (show j < 0 from j1) (by omega), fun j k j0 jk k1 => absurd (show k < 0 from k1) (by omega), fun k k0 k1 => absurd (show k < 0 from k1) (by omega)⟩
theorem cz_tail (z : Value) (d c : Nat) (u y t k n : Int) (N G X S : Int → Int) (h : xx_H) (hc : 12 ≤ c) (u0 : 0 ≤ u) (u1 : u < 64) (hC : CZ5 h c u N G X S) (y0 : -9223372036854775808 ≤ y) (y1 : y ≤ 9223372036854775807) (t0 : 0 ≤ t) (t1 : t < 512) : xx_go (xt_P z) d 14 71 [some (.ref c), some (.long (Int64.ofInt y)), none, some (.int (iI 0)), some (.int (iI t)), some (.int (iI k)), some (.int (iI n))] [] h (fun v h1 => v = some (.int (iI u)) ∧ CF5 c h h1 ∧ CZ5 h1 c (u + 1) (sf N u y) (sf G u 0) (sf X u (S t)) (sf S t u)) := by
  refine go_a (pc' := 72) (ls' := [some (.ref c), some (.long (Int64.ofInt y)), none, some (.int (iI 0)), some (.int (iI t)), some (.int (iI k)), some (.int (iI n))]) (st' := [.ref c]) rfl rfl ?_
  refine go_get (v := .int (iI u)) rfl hC.1 rfl rfl ?_
  refine go_b (pc' := 77) (st' := [.int (iI 1048576), .int (iI u)]) (h' := h) rfl rfl rfl ?_
  refine mi_lt (t := 82) rfl rfl (by omega) (by omega) (by omega) (by omega) (fun _ => ?_) (fun w => absurd (show u < 1048576 by omega) w)
  refine go_a (pc' := 83) (ls' := [some (.ref c), some (.long (Int64.ofInt y)), none, some (.int (iI 0)), some (.int (iI t)), some (.int (iI k)), some (.int (iI n))]) (st' := [.ref c]) rfl rfl ?_
  refine go_get (v := .int (iI u)) rfl hC.1 rfl rfl ?_
  refine go_a (pc' := 87) (ls' := [some (.ref c), some (.long (Int64.ofInt y)), none, some (.int (iI 0)), some (.int (iI t)), some (.int (iI k)), some (.int (iI n))]) (st' := [.ref c, .int (iI u)]) rfl rfl ?_
  refine go_get (v := .ref (c + 1)) rfl hC.1 rfl rfl ?_
  refine mk_len (n := 64) rfl hC.2.1 (xa_l_len _ _) (by decide) (by decide) ?_
  refine mi_lt (t := 145) rfl rfl (by omega) (by omega) (by omega) (by omega) (fun _ => ?_) (fun w => absurd (show u < 64 by omega) w)
  refine go_a (pc' := 146) (ls' := [some (.ref c), some (.long (Int64.ofInt y)), none, some (.int (iI 0)), some (.int (iI t)), some (.int (iI k)), some (.int (iI n))]) (st' := [.ref c]) rfl rfl ?_
  refine go_get (v := .ref (c + 1)) rfl hC.1 rfl rfl ?_
  refine go_a (pc' := 150) (ls' := [some (.ref c), some (.long (Int64.ofInt y)), none, some (.int (iI 0)), some (.int (iI t)), some (.int (iI k)), some (.int (iI n))]) (st' := [.ref c, .ref (c + 1)]) rfl rfl ?_
  refine go_get (v := .int (iI u)) rfl hC.1 rfl rfl ?_
  refine go_a (pc' := 154) (ls' := [some (.ref c), some (.long (Int64.ofInt y)), none, some (.int (iI 0)), some (.int (iI t)), some (.int (iI k)), some (.int (iI n))]) (st' := [.long (Int64.ofInt y), .int (iI u), .ref (c + 1)]) rfl rfl ?_
  refine mi_lst rfl hC.2.1 (show 12 ≤ c + 1 by omega) u0 (by omega) (by decide) ?_
  obtain ⟨C1, F1⟩ := CZ_N (e := u) (x := y) hC u0 y0 y1
  obtain ⟨h1, e1⟩ : ∃ q : xx_H, q = h.set (c + 1) (.inl (.long, (xa_l 64 N).set u.toNat (.long (Int64.ofInt y)))) := ⟨_, rfl⟩
  rw [← e1] at C1 F1
  rw [← e1]
  show xx_go (xt_P z) d 14 155 [some (.ref c), some (.long (Int64.ofInt y)), none, some (.int (iI 0)), some (.int (iI t)), some (.int (iI k)), some (.int (iI n))] [] h1 _
  refine go_a (pc' := 156) (ls' := [some (.ref c), some (.long (Int64.ofInt y)), none, some (.int (iI 0)), some (.int (iI t)), some (.int (iI k)), some (.int (iI n))]) (st' := [.ref c]) rfl rfl ?_
  refine go_get (v := .ref (c + 2)) rfl C1.1 rfl rfl ?_
  refine go_a (pc' := 160) (ls' := [some (.ref c), some (.long (Int64.ofInt y)), none, some (.int (iI 0)), some (.int (iI t)), some (.int (iI k)), some (.int (iI n))]) (st' := [.ref c, .ref (c + 2)]) rfl rfl ?_
  refine go_get (v := .int (iI u)) rfl C1.1 rfl rfl ?_
  refine go_a (pc' := 164) (ls' := [some (.ref c), some (.long (Int64.ofInt y)), none, some (.int (iI 0)), some (.int (iI t)), some (.int (iI k)), some (.int (iI n))]) (st' := [.int (iI 0), .int (iI u), .ref (c + 2)]) rfl rfl ?_
  refine mi_ist rfl C1.2.2.1 (show 12 ≤ c + 2 by omega) u0 (by omega) (by decide) ?_
  obtain ⟨C2, F2⟩ := CZ_G (e := u) (x := 0) C1 u0 (by decide) (by decide)
  obtain ⟨h2, e2⟩ : ∃ q : xx_H, q = h1.set (c + 2) (.inl (.int, (xa_f 64 G).set u.toNat (.int (iI 0)))) := ⟨_, rfl⟩
  rw [← e2] at C2 F2
  rw [← e2]
  show xx_go (xt_P z) d 14 165 [some (.ref c), some (.long (Int64.ofInt y)), none, some (.int (iI 0)), some (.int (iI t)), some (.int (iI k)), some (.int (iI n))] [] h2 _
  refine go_a (pc' := 166) (ls' := [some (.ref c), some (.long (Int64.ofInt y)), none, some (.int (iI 0)), some (.int (iI t)), some (.int (iI k)), some (.int (iI n))]) (st' := [.ref c]) rfl rfl ?_
  refine go_get (v := .ref (c + 3)) rfl C2.1 rfl rfl ?_
  refine go_a (pc' := 170) (ls' := [some (.ref c), some (.long (Int64.ofInt y)), none, some (.int (iI 0)), some (.int (iI t)), some (.int (iI k)), some (.int (iI n))]) (st' := [.ref c, .ref (c + 3)]) rfl rfl ?_
  refine go_get (v := .int (iI u)) rfl C2.1 rfl rfl ?_
  refine go_a (pc' := 174) (ls' := [some (.ref c), some (.long (Int64.ofInt y)), none, some (.int (iI 0)), some (.int (iI t)), some (.int (iI k)), some (.int (iI n))]) (st' := [.ref c, .int (iI u), .ref (c + 3)]) rfl rfl ?_
  refine go_get (v := .ref (c + 4)) rfl C2.1 rfl rfl ?_
  refine go_a (pc' := 179) (ls' := [some (.ref c), some (.long (Int64.ofInt y)), none, some (.int (iI 0)), some (.int (iI t)), some (.int (iI k)), some (.int (iI n))]) (st' := [.int (iI t), .ref (c + 4), .int (iI u), .ref (c + 3)]) rfl rfl ?_
  refine mi_ild (n := 512) (f := S) rfl C2.2.2.2.2.1 t0 (by omega) (by decide) ?_
  have sR := C2.2.2.2.2.2.2.2.2 t
  refine mi_ist rfl C2.2.2.2.1 (show 12 ≤ c + 3 by omega) u0 (by omega) (by decide) ?_
  obtain ⟨C3, F3⟩ := CZ_X (e := u) (x := S t) C2 u0 sR.1 sR.2
  obtain ⟨h3, e3⟩ : ∃ q : xx_H, q = h2.set (c + 3) (.inl (.int, (xa_f 64 X).set u.toNat (.int (iI (S t))))) := ⟨_, rfl⟩
  rw [← e3] at C3 F3
  rw [← e3]
  show xx_go (xt_P z) d 14 181 [some (.ref c), some (.long (Int64.ofInt y)), none, some (.int (iI 0)), some (.int (iI t)), some (.int (iI k)), some (.int (iI n))] [] h3 _
  refine go_a (pc' := 182) (ls' := [some (.ref c), some (.long (Int64.ofInt y)), none, some (.int (iI 0)), some (.int (iI t)), some (.int (iI k)), some (.int (iI n))]) (st' := [.ref c]) rfl rfl ?_
  refine go_get (v := .ref (c + 4)) rfl C3.1 rfl rfl ?_
  refine go_a (pc' := 187) (ls' := [some (.ref c), some (.long (Int64.ofInt y)), none, some (.int (iI 0)), some (.int (iI t)), some (.int (iI k)), some (.int (iI n))]) (st' := [.int (iI t), .ref (c + 4)]) rfl rfl ?_
  refine go_a (pc' := 188) (ls' := [some (.ref c), some (.long (Int64.ofInt y)), none, some (.int (iI 0)), some (.int (iI t)), some (.int (iI k)), some (.int (iI n))]) (st' := [.ref c, .int (iI t), .ref (c + 4)]) rfl rfl ?_
  refine go_get (v := .int (iI u)) rfl C3.1 rfl rfl ?_
  refine mi_ist rfl C3.2.2.2.2.1 (show 12 ≤ c + 4 by omega) t0 (by omega) (by decide) ?_
  obtain ⟨C4, F4⟩ := CZ_S (e := t) (x := u) C3 t0 (by omega) (by omega)
  obtain ⟨h4, e4⟩ : ∃ q : xx_H, q = h3.set (c + 4) (.inl (.int, (xa_f 512 S).set t.toNat (.int (iI u)))) := ⟨_, rfl⟩
  rw [← e4] at C4 F4
  rw [← e4]
  show xx_go (xt_P z) d 14 192 [some (.ref c), some (.long (Int64.ofInt y)), none, some (.int (iI 0)), some (.int (iI t)), some (.int (iI k)), some (.int (iI n))] [] h4 _
  refine go_a (pc' := 193) (ls' := [some (.ref c), some (.long (Int64.ofInt y)), none, some (.int (iI 0)), some (.int (iI t)), some (.int (iI k)), some (.int (iI n))]) (st' := [.ref c]) rfl rfl ?_
  refine go_a (pc' := 194) (ls' := [some (.ref c), some (.long (Int64.ofInt y)), none, some (.int (iI 0)), some (.int (iI t)), some (.int (iI k)), some (.int (iI n))]) (st' := [.ref c, .ref c]) rfl rfl ?_
  refine go_get (v := .int (iI u)) rfl C4.1 rfl rfl ?_
  refine go_a (pc' := 198) (ls' := [some (.ref c), some (.long (Int64.ofInt y)), none, some (.int (iI 0)), some (.int (iI t)), some (.int (iI k)), some (.int (iI n))]) (st' := [.int (iI 1), .int (iI u), .ref c]) rfl rfl ?_
  refine mi_add rfl ?_
  refine go_put rfl C4.1 rfl rfl hc (show 4 < 5 by decide) rfl rfl ?_
  obtain ⟨C5, F5⟩ := CZ_u (x := u + 1) C4
  obtain ⟨h5, e5⟩ : ∃ q : xx_H, q = h4.set c (.inr (1, [.ref (c + 1), .ref (c + 2), .ref (c + 3), .ref (c + 4), .int (iI (u + 1))])) := ⟨_, rfl⟩
  rw [← e5] at C5 F5
  show xx_go (xt_P z) d 14 202 [some (.ref c), some (.long (Int64.ofInt y)), none, some (.int (iI 0)), some (.int (iI t)), some (.int (iI k)), some (.int (iI n))] [] (h4.set c (.inr (1, [.ref (c + 1), .ref (c + 2), .ref (c + 3), .ref (c + 4), .int (iI (u + 1))]))) _
  rw [← e5]
  refine go_a (pc' := 203) (ls' := [some (.ref c), some (.long (Int64.ofInt y)), none, some (.int (iI 0)), some (.int (iI t)), some (.int (iI k)), some (.int (iI n))]) (st' := [.ref c]) rfl rfl ?_
  refine go_get (v := .int (iI (u + 1))) rfl C5.1 rfl rfl ?_
  refine go_a (pc' := 207) (ls' := [some (.ref c), some (.long (Int64.ofInt y)), none, some (.int (iI 0)), some (.int (iI t)), some (.int (iI k)), some (.int (iI n))]) (st' := [.int (iI 1), .int (iI (u + 1))]) rfl rfl ?_
  refine mi_sub rfl ?_
  rw [show u + 1 - 1 = u by omega]
  exact go_r rfl rfl rfl rfl rfl rfl ⟨rfl, CF5_tr (CF5_tr (CF5_tr (CF5_tr F1 F2) F3) F4) F5, C5⟩
theorem cz_loop (z : Value) (d c : Nat) (u y t : Int) (N G X S : Int → Int) (h : xx_H) (hc : 12 ≤ c) (u0 : 0 ≤ u) (u1 : u < 64) (hC : CZ5 h c u N G X S) (y0 : -9223372036854775808 ≤ y) (y1 : y ≤ 9223372036854775807) (t0 : 0 ≤ t) (t1 : t < 512) (new : ∀ e : Int, 0 ≤ e → e < u → N e ≠ y) : ∀ (j : Nat) (k n : Int), (u - n).toNat ≤ j → 0 ≤ n → n ≤ u → -2147483648 ≤ k → k ≤ 2147483647 → xx_go (xt_P z) d 14 18 [some (.ref c), some (.long (Int64.ofInt y)), none, some (.int (iI 0)), some (.int (iI t)), some (.int (iI k)), some (.int (iI n))] [] h (fun v h1 => v = some (.int (iI u)) ∧ CF5 c h h1 ∧ CZ5 h1 c (u + 1) (sf N u y) (sf G u 0) (sf X u (S t)) (sf S t u)) := by
  intro j
  induction j with
  | zero =>
    intro k n hj n0 n1 k0 k1
    refine go_a (pc' := 20) (ls' := [some (.ref c), some (.long (Int64.ofInt y)), none, some (.int (iI 0)), some (.int (iI t)), some (.int (iI k)), some (.int (iI n))]) (st' := [.int (iI n)]) rfl rfl ?_
    refine go_a (pc' := 21) (ls' := [some (.ref c), some (.long (Int64.ofInt y)), none, some (.int (iI 0)), some (.int (iI t)), some (.int (iI k)), some (.int (iI n))]) (st' := [.ref c, .int (iI n)]) rfl rfl ?_
    refine go_get (v := .int (iI u)) rfl hC.1 rfl rfl ?_
    refine mi_ge (t := 71) rfl rfl (by omega) (by omega) (by omega) (by omega) (fun _ => cz_tail z d c u y t k n N G X S h hc u0 u1 hC y0 y1 t0 t1) (fun w => absurd (show n ≥ u by omega) w)
  | succ j ih =>
    intro k n hj n0 n1 k0 k1
    refine go_a (pc' := 20) (ls' := [some (.ref c), some (.long (Int64.ofInt y)), none, some (.int (iI 0)), some (.int (iI t)), some (.int (iI k)), some (.int (iI n))]) (st' := [.int (iI n)]) rfl rfl ?_
    refine go_a (pc' := 21) (ls' := [some (.ref c), some (.long (Int64.ofInt y)), none, some (.int (iI 0)), some (.int (iI t)), some (.int (iI k)), some (.int (iI n))]) (st' := [.ref c, .int (iI n)]) rfl rfl ?_
    refine go_get (v := .int (iI u)) rfl hC.1 rfl rfl ?_
    refine mi_ge (t := 71) rfl rfl (by omega) (by omega) (by omega) (by omega) (fun _ => cz_tail z d c u y t k n N G X S h hc u0 u1 hC y0 y1 t0 t1) (fun w1 => ?_)
    refine go_a (pc' := 29) (ls' := [some (.ref c), some (.long (Int64.ofInt y)), none, some (.int (iI 0)), some (.int (iI t)), some (.int (iI k)), some (.int (iI n))]) (st' := [.int (iI k)]) rfl rfl ?_
    refine mi_lt0 (t := 71) rfl rfl (by omega) (by omega) (fun _ => cz_tail z d c u y t k n N G X S h hc u0 u1 hC y0 y1 t0 t1) (fun w2 => ?_)
    refine go_a (pc' := 34) (ls' := [some (.ref c), some (.long (Int64.ofInt y)), none, some (.int (iI 0)), some (.int (iI t)), some (.int (iI k)), some (.int (iI n))]) (st' := [.int (iI k)]) rfl rfl ?_
    refine go_a (pc' := 35) (ls' := [some (.ref c), some (.long (Int64.ofInt y)), none, some (.int (iI 0)), some (.int (iI t)), some (.int (iI k)), some (.int (iI n))]) (st' := [.ref c, .int (iI k)]) rfl rfl ?_
    refine go_get (v := .int (iI u)) rfl hC.1 rfl rfl ?_
    refine mi_ge (t := 71) rfl rfl (by omega) (by omega) (by omega) (by omega) (fun _ => cz_tail z d c u y t k n N G X S h hc u0 u1 hC y0 y1 t0 t1) (fun w3 => ?_)
    refine go_a (pc' := 42) (ls' := [some (.ref c), some (.long (Int64.ofInt y)), none, some (.int (iI 0)), some (.int (iI t)), some (.int (iI k)), some (.int (iI n))]) (st' := [.ref c]) rfl rfl ?_
    refine go_get (v := .ref (c + 1)) rfl hC.1 rfl rfl ?_
    refine go_a (pc' := 47) (ls' := [some (.ref c), some (.long (Int64.ofInt y)), none, some (.int (iI 0)), some (.int (iI t)), some (.int (iI k)), some (.int (iI n))]) (st' := [.int (iI k), .ref (c + 1)]) rfl rfl ?_
    have nR := hC.2.2.2.2.2.1 k
    have xR := hC.2.2.2.2.2.2.2.1 k
    refine mi_lld (n := 64) (f := N) rfl hC.2.1 (by omega) (by omega) (by decide) ?_
    refine go_a (pc' := 49) (ls' := [some (.ref c), some (.long (Int64.ofInt y)), none, some (.int (iI 0)), some (.int (iI t)), some (.int (iI k)), some (.int (iI n))]) (st' := [.long (Int64.ofInt y), .long (Int64.ofInt (N k))]) rfl rfl ?_
    refine mi_lc_ne (t := 56) rfl rfl rfl (by omega) (by omega) (by omega) (by omega) (fun w4 => ?_) (fun w4 => absurd (show N k = y by omega) (new k (by omega) (by omega)))
    refine go_a (pc' := 57) (ls' := [some (.ref c), some (.long (Int64.ofInt y)), none, some (.int (iI 0)), some (.int (iI t)), some (.int (iI k)), some (.int (iI n))]) (st' := [.ref c]) rfl rfl ?_
    refine go_get (v := .ref (c + 3)) rfl hC.1 rfl rfl ?_
    refine go_a (pc' := 62) (ls' := [some (.ref c), some (.long (Int64.ofInt y)), none, some (.int (iI 0)), some (.int (iI t)), some (.int (iI k)), some (.int (iI n))]) (st' := [.int (iI k), .ref (c + 3)]) rfl rfl ?_
    refine mi_ild (n := 64) (f := X) rfl hC.2.2.2.1 (by omega) (by omega) (by decide) ?_
    refine go_a (pc' := 65) (ls' := [some (.ref c), some (.long (Int64.ofInt y)), none, some (.int (iI 0)), some (.int (iI t)), some (.int (iI (X k))), some (.int (iI n))]) (st' := []) rfl rfl ?_
    refine go_a (pc' := 68) (ls' := [some (.ref c), some (.long (Int64.ofInt y)), none, some (.int (iI 0)), some (.int (iI t)), some (.int (iI (X k))), some (.int (iI (n + 1)))]) (st' := []) rfl (by rw [← iI_add n 1]; rfl) ?_
    refine go_a (pc' := 18) (ls' := [some (.ref c), some (.long (Int64.ofInt y)), none, some (.int (iI 0)), some (.int (iI t)), some (.int (iI (X k))), some (.int (iI (n + 1)))]) (st' := []) rfl rfl ?_
    exact ih (X k) (n + 1) (by omega) (by omega) (by omega) xR.1 xR.2
theorem cz_number (z : Value) (d c : Nat) (u y : Int) (N G X S : Int → Int) (h : xx_H) (hc : 12 ≤ c) (u0 : 0 ≤ u) (u1 : u < 64) (hC : CZ5 h c u N G X S) (y0 : -9223372036854775808 ≤ y) (y1 : y ≤ 9223372036854775807) (new : ∀ e : Int, 0 ≤ e → e < u → N e ≠ y) : xx_cl (xt_P z) (d + 2) 14 [.ref c, .long (Int64.ofInt y), .int (iI 0)] h (fun v h1 => v = some (.int (iI u)) ∧ CF5 c h h1 ∧ CZ5 h1 c (u + 1) (sf N u y) (sf G u 0) (sf X u (S (ksl y))) (sf S (ksl y) u)) := by
  refine cl_go rfl ?_
  show xx_go (xt_P z) (d + 1) 14 0 [some (.ref c), some (.long (Int64.ofInt y)), none, some (.int (iI 0)), none, none, none] [] h _
  refine go_a (pc' := 1) (ls' := [some (.ref c), some (.long (Int64.ofInt y)), none, some (.int (iI 0)), none, none, none]) (st' := [.long (Int64.ofInt y)]) rfl rfl ?_
  refine go_s (m := 15) (as := [.long (Int64.ofInt y)]) (r := []) rfl rfl rfl rfl (kz_slot z d y h) (fun v h3 hq => ?_)
  obtain ⟨rfl, e9⟩ := hq
  rw [e9]
  clear e9 h3
  have tR := ksl_R y
  show xx_go (xt_P z) (d + 1) 14 4 [some (.ref c), some (.long (Int64.ofInt y)), none, some (.int (iI 0)), none, none, none] [.int (iI (ksl y))] h _
  refine go_a (pc' := 6) (ls' := [some (.ref c), some (.long (Int64.ofInt y)), none, some (.int (iI 0)), some (.int (iI (ksl y))), none, none]) (st' := []) rfl rfl ?_
  refine go_a (pc' := 7) (ls' := [some (.ref c), some (.long (Int64.ofInt y)), none, some (.int (iI 0)), some (.int (iI (ksl y))), none, none]) (st' := [.ref c]) rfl rfl ?_
  refine go_get (v := .ref (c + 4)) rfl hC.1 rfl rfl ?_
  refine go_a (pc' := 12) (ls' := [some (.ref c), some (.long (Int64.ofInt y)), none, some (.int (iI 0)), some (.int (iI (ksl y))), none, none]) (st' := [.int (iI (ksl y)), .ref (c + 4)]) rfl rfl ?_
  have sR := hC.2.2.2.2.2.2.2.2 (ksl y)
  refine mi_ild (n := 512) (f := S) rfl hC.2.2.2.2.1 tR.1 (by omega) (by decide) ?_
  refine go_a (pc' := 15) (ls' := [some (.ref c), some (.long (Int64.ofInt y)), none, some (.int (iI 0)), some (.int (iI (ksl y))), some (.int (iI (S (ksl y)))), none]) (st' := []) rfl rfl ?_
  refine go_a (pc' := 16) (ls' := [some (.ref c), some (.long (Int64.ofInt y)), none, some (.int (iI 0)), some (.int (iI (ksl y))), some (.int (iI (S (ksl y)))), none]) (st' := [.int (iI 0)]) rfl rfl ?_
  refine go_a (pc' := 18) (ls' := [some (.ref c), some (.long (Int64.ofInt y)), none, some (.int (iI 0)), some (.int (iI (ksl y))), some (.int (iI (S (ksl y)))), some (.int (iI 0))]) (st' := []) rfl rfl ?_
  exact cz_loop z (d + 1) c u y (ksl y) N G X S h hc u0 u1 hC y0 y1 tR.1 tR.2 new u.toNat (S (ksl y)) 0 (by omega) (by decide) u0 sR.1 sR.2
theorem cz_symbol (z : Value) (d c : Nat) (u y : Int) (N G X S : Int → Int) (h : xx_H) (hc : 12 ≤ c) (u0 : 0 ≤ u) (u1 : u < 64) (hC : CZ5 h c u N G X S) (y0 : 0 ≤ y) (y1 : y < 4611686018427387904) (new : ∀ e : Int, 0 ≤ e → e < u → N e ≠ y + 4611686018427387904) : xx_cl (xt_P z) (d + 3) 13 [.ref c, .long (Int64.ofInt y)] h (fun v h1 => v = some (.int (iI u)) ∧ CF5 c h h1 ∧ CZ5 h1 c (u + 1) (sf N u (y + 4611686018427387904)) (sf G u 0) (sf X u (S (ksl (y + 4611686018427387904)))) (sf S (ksl (y + 4611686018427387904)) u)) := by
  refine cl_go rfl ?_
  show xx_go (xt_P z) (d + 2) 13 0 [some (.ref c), some (.long (Int64.ofInt y)), none] [] h _
  refine go_a (pc' := 1) (ls' := [some (.ref c), some (.long (Int64.ofInt y)), none]) (st' := [.ref c]) rfl rfl ?_
  refine go_a (pc' := 2) (ls' := [some (.ref c), some (.long (Int64.ofInt y)), none]) (st' := [.long (Int64.ofInt y), .ref c]) rfl rfl ?_
  refine go_b (pc' := 5) (st' := [.long (Int64.ofInt 4611686018427387904), .long (Int64.ofInt y), .ref c]) (h' := h) rfl rfl rfl ?_
  refine go_a (pc' := 6) (ls' := [some (.ref c), some (.long (Int64.ofInt y)), none]) (st' := [.long (Int64.ofInt (y + 4611686018427387904)), .ref c]) rfl (by rw [← key_sym y0 y1]; rfl) ?_
  refine go_a (pc' := 7) (ls' := [some (.ref c), some (.long (Int64.ofInt y)), none]) (st' := [.int (iI 0), .long (Int64.ofInt (y + 4611686018427387904)), .ref c]) rfl rfl ?_
  refine go_v (m := 14) (as := [.ref c, .long (Int64.ofInt (y + 4611686018427387904)), .int (iI 0)]) (r := []) rfl rfl rfl hC.1 rfl rfl (cz_number z d c u (y + 4611686018427387904) N G X S h hc u0 u1 hC (by omega) (by omega) new) (fun v h3 hq => ?_)
  obtain ⟨rfl, F, C1⟩ := hq
  show xx_go (xt_P z) (d + 2) 13 10 [some (.ref c), some (.long (Int64.ofInt y)), none] [.int (iI u)] h3 _
  exact go_r rfl rfl rfl rfl rfl rfl ⟨rfl, F, C1⟩

