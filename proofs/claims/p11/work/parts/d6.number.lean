def KCF (s s1 : KS) : Prop := s1.T = s.T ∧ (∀ j : Nat, j ≠ 9 → j ≠ 10 → j ≠ 11 → s1.A j = s.A j) ∧ (∀ j : Nat, j ≠ 8 → j ≠ 9 → j ≠ 10 → s1.C j = s.C j ∧ s1.P j = s.P j) ∧ (∀ j : Nat, j ≠ 8 → s1.I j = s.I j)
theorem KCF_rf {s : KS} : KCF s s := ⟨rfl, fun _ _ _ _ => rfl, fun _ _ _ _ => ⟨rfl, rfl⟩, fun _ _ => rfl⟩
theorem KCF_tr {s s1 s2 : KS} (a : KCF s s1) (b : KCF s1 s2) : KCF s s2 := ⟨b.1.trans a.1, fun j p q r => (b.2.1 j p q r).trans (a.2.1 j p q r), fun j p q r => ⟨(b.2.2.1 j p q r).1.trans (a.2.2.1 j p q r).1, (b.2.2.1 j p q r).2.trans (a.2.2.1 j p q r).2⟩, fun j p => (b.2.2.2 j p).trans (a.2.2.2 j p)⟩
theorem KB_wN {s : KS} {e x : Int} (h : KB s) (x0 : -9223372036854775808 ≤ x) (x1 : x ≤ 9223372036854775807) : KB (s.wN e x) := by
  refine ⟨h.1, h.2.1, fun k => ?_, h.2.2.2⟩
  show -9223372036854775808 ≤ sf s.N e x k ∧ sf s.N e x k ≤ 9223372036854775807
  by_cases q : k = e
  · rw [q, sf_self]
    exact ⟨x0, x1⟩
  · rw [sf_ne q]
    exact h.2.2.1 k
def KNW (y g : Int) (k : Int) (s s1 : KS) : Prop := (s1 = s ∧ (0 ≤ k ∧ k < s.I 8) ∧ s.N k = y) ∨ (k = s.I 8 ∧ s1.I = su s.I 8 (s.I 8 + 1) ∧ s1.N k = y ∧ (∀ e : Int, e < s.I 8 → s1.N e = s.N e ∧ s1.A 9 e = s.A 9 e) ∧ s1.A 9 k = g)
theorem kc_num_tail (z : Value) (d c : Nat) (y g t k n : Int) (hp0 : xx_H) (s0 : KS) (hp : xx_H) (s : KS) (hK : KI c hp s) (hX : kx c hp0 s0 hp s 0 0) (hB : KB s) (lt : s.I 8 < s.C 8) (y0 : -9223372036854775808 ≤ y) (y1 : y ≤ 9223372036854775807) (g0 : -2147483648 ≤ g) (g1 : g ≤ 2147483647) (t0 : 0 ≤ t) (t1 : t < 512) : xx_go (xt_P z) d 14 145 [some (.ref (c + 4)), some (.long (Int64.ofInt y)), none, some (.int (iI g)), some (.int (iI t)), some (.int (iI k)), some (.int (iI n))] [] hp (fun v h1 => ∃ (k : Int) (s1 : KS), v = some (.int (iI k)) ∧ KI c h1 s1 ∧ KB s1 ∧ kx c hp0 s0 h1 s1 0 0 ∧ KCF s s1 ∧ k = s.I 8 ∧ s1.I = su s.I 8 (s.I 8 + 1) ∧ s1.N k = y ∧ (∀ e : Int, e < s.I 8 → s1.N e = s.N e ∧ s1.A 9 e = s.A 9 e) ∧ s1.A 9 k = g) := by
  have b := hB.2.2.2.2.2.1
  have r11 := hB.1 11 t
  refine go_a (pc' := 146) (ls' := [some (.ref (c + 4)), some (.long (Int64.ofInt y)), none, some (.int (iI g)), some (.int (iI t)), some (.int (iI k)), some (.int (iI n))]) (st' := [.ref (c + 4)]) rfl rfl ?_
  refine go_get (v := .ref (s.P 8)) rfl (hK.1 3 (by decide)) rfl rfl ?_
  refine go_a (pc' := 150) (ls' := [some (.ref (c + 4)), some (.long (Int64.ofInt y)), none, some (.int (iI g)), some (.int (iI t)), some (.int (iI k)), some (.int (iI n))]) (st' := [.ref (c + 4), .ref (s.P 8)]) rfl rfl ?_
  refine go_get (v := .int (iI (s.I 8))) rfl (hK.1 3 (by decide)) rfl rfl ?_
  refine go_a (pc' := 154) (ls' := [some (.ref (c + 4)), some (.long (Int64.ofInt y)), none, some (.int (iI g)), some (.int (iI t)), some (.int (iI k)), some (.int (iI n))]) (st' := [.long (Int64.ofInt y), .int (iI (s.I 8)), .ref (s.P 8)]) rfl rfl ?_
  refine klst_8 (s := s) (x := y) (e := s.I 8) hK hX rfl (by omega) (show _ < s.C 8 by omega) (show s.C 8 ≤ 1000000 by omega) (fun hp hK hX => ?_)
  refine go_a (pc' := 156) (ls' := [some (.ref (c + 4)), some (.long (Int64.ofInt y)), none, some (.int (iI g)), some (.int (iI t)), some (.int (iI k)), some (.int (iI n))]) (st' := [.ref (c + 4)]) rfl rfl ?_
  refine go_get (v := .ref (s.P 9)) rfl (hK.1 3 (by decide)) rfl rfl ?_
  refine go_a (pc' := 160) (ls' := [some (.ref (c + 4)), some (.long (Int64.ofInt y)), none, some (.int (iI g)), some (.int (iI t)), some (.int (iI k)), some (.int (iI n))]) (st' := [.ref (c + 4), .ref (s.P 9)]) rfl rfl ?_
  refine go_get (v := .int (iI (s.I 8))) rfl (hK.1 3 (by decide)) rfl rfl ?_
  refine go_a (pc' := 164) (ls' := [some (.ref (c + 4)), some (.long (Int64.ofInt y)), none, some (.int (iI g)), some (.int (iI t)), some (.int (iI k)), some (.int (iI n))]) (st' := [.int (iI g), .int (iI (s.I 8)), .ref (s.P 9)]) rfl rfl ?_
  refine kist_9 (s := s.wN (s.I 8) y) (x := g) (e := s.I 8) hK hX rfl (by omega) (show _ < s.C 9 by omega) (show s.C 9 ≤ 1000000 by omega) (fun hp hK hX => ?_)
  refine go_a (pc' := 166) (ls' := [some (.ref (c + 4)), some (.long (Int64.ofInt y)), none, some (.int (iI g)), some (.int (iI t)), some (.int (iI k)), some (.int (iI n))]) (st' := [.ref (c + 4)]) rfl rfl ?_
  refine go_get (v := .ref (s.P 10)) rfl (hK.1 3 (by decide)) rfl rfl ?_
  refine go_a (pc' := 170) (ls' := [some (.ref (c + 4)), some (.long (Int64.ofInt y)), none, some (.int (iI g)), some (.int (iI t)), some (.int (iI k)), some (.int (iI n))]) (st' := [.ref (c + 4), .ref (s.P 10)]) rfl rfl ?_
  refine go_get (v := .int (iI (s.I 8))) rfl (hK.1 3 (by decide)) rfl rfl ?_
  refine go_a (pc' := 174) (ls' := [some (.ref (c + 4)), some (.long (Int64.ofInt y)), none, some (.int (iI g)), some (.int (iI t)), some (.int (iI k)), some (.int (iI n))]) (st' := [.ref (c + 4), .int (iI (s.I 8)), .ref (s.P 10)]) rfl rfl ?_
  refine go_get (v := .ref (c + 8)) rfl (hK.1 3 (by decide)) rfl rfl ?_
  refine go_a (pc' := 179) (ls' := [some (.ref (c + 4)), some (.long (Int64.ofInt y)), none, some (.int (iI g)), some (.int (iI t)), some (.int (iI k)), some (.int (iI n))]) (st' := [.int (iI t), .ref (c + 8), .int (iI (s.I 8)), .ref (s.P 10)]) rfl rfl ?_
  refine mi_ild (n := 512) (f := ((s.wN (s.I 8) y).wA 9 (s.I 8) g).A 11) rfl (hK.1 4 (by decide)) (by omega) (by omega) (by omega) ?_
  refine kist_10 (s := (s.wN (s.I 8) y).wA 9 (s.I 8) g) (x := ((s.wN (s.I 8) y).wA 9 (s.I 8) g).A 11 t) (e := s.I 8) hK hX rfl (by omega) (show _ < s.C 10 by omega) (show s.C 10 ≤ 1000000 by omega) (fun hp hK hX => ?_)
  refine go_a (pc' := 182) (ls' := [some (.ref (c + 4)), some (.long (Int64.ofInt y)), none, some (.int (iI g)), some (.int (iI t)), some (.int (iI k)), some (.int (iI n))]) (st' := [.ref (c + 4)]) rfl rfl ?_
  refine go_get (v := .ref (c + 8)) rfl (hK.1 3 (by decide)) rfl rfl ?_
  refine go_a (pc' := 187) (ls' := [some (.ref (c + 4)), some (.long (Int64.ofInt y)), none, some (.int (iI g)), some (.int (iI t)), some (.int (iI k)), some (.int (iI n))]) (st' := [.int (iI t), .ref (c + 8)]) rfl rfl ?_
  refine go_a (pc' := 188) (ls' := [some (.ref (c + 4)), some (.long (Int64.ofInt y)), none, some (.int (iI g)), some (.int (iI t)), some (.int (iI k)), some (.int (iI n))]) (st' := [.ref (c + 4), .int (iI t), .ref (c + 8)]) rfl rfl ?_
  refine go_get (v := .int (iI (s.I 8))) rfl (hK.1 3 (by decide)) rfl rfl ?_
  refine kist_11 (s := ((s.wN (s.I 8) y).wA 9 (s.I 8) g).wA 10 (s.I 8) (((s.wN (s.I 8) y).wA 9 (s.I 8) g).A 11 t)) (x := s.I 8) (e := t) hK hX rfl (by omega) (by omega) (fun hp hK hX => ?_)
  refine go_a (pc' := 193) (ls' := [some (.ref (c + 4)), some (.long (Int64.ofInt y)), none, some (.int (iI g)), some (.int (iI t)), some (.int (iI k)), some (.int (iI n))]) (st' := [.ref (c + 4)]) rfl rfl ?_
  refine go_a (pc' := 194) (ls' := [some (.ref (c + 4)), some (.long (Int64.ofInt y)), none, some (.int (iI g)), some (.int (iI t)), some (.int (iI k)), some (.int (iI n))]) (st' := [.ref (c + 4), .ref (c + 4)]) rfl rfl ?_
  refine go_get (v := .int (iI (s.I 8))) rfl (hK.1 3 (by decide)) rfl rfl ?_
  refine go_a (pc' := 198) (ls' := [some (.ref (c + 4)), some (.long (Int64.ofInt y)), none, some (.int (iI g)), some (.int (iI t)), some (.int (iI k)), some (.int (iI n))]) (st' := [.int (iI 1), .int (iI (s.I 8)), .ref (c + 4)]) rfl rfl ?_
  refine mi_add rfl ?_
  refine kput_8 (x := (s.I 8) + 1) hK hX rfl rfl (fun hp hK hX => ?_)
  refine go_a (pc' := 203) (ls' := [some (.ref (c + 4)), some (.long (Int64.ofInt y)), none, some (.int (iI g)), some (.int (iI t)), some (.int (iI k)), some (.int (iI n))]) (st' := [.ref (c + 4)]) rfl rfl ?_
  refine go_get (v := .int (iI ((s.I 8) + 1))) rfl (hK.1 3 (by decide)) rfl rfl ?_
  refine go_a (pc' := 207) (ls' := [some (.ref (c + 4)), some (.long (Int64.ofInt y)), none, some (.int (iI g)), some (.int (iI t)), some (.int (iI k)), some (.int (iI n))]) (st' := [.int (iI 1), .int (iI ((s.I 8) + 1))]) rfl rfl ?_
  refine mi_sub rfl ?_
  exact go_r rfl rfl rfl rfl rfl rfl ⟨s.I 8 + 1 - 1, _, rfl, hK, KB_wI (KB_wA (KB_wA (KB_wA (KB_wN hB y0 y1) g0 g1) r11.1 r11.2) (by omega) (by omega)) (by omega) (by omega) (fun q => absurd q (by decide)) (fun _ => (show 38 ≤ s.I 8 + 1 ∧ s.I 8 + 1 ≤ s.C 8 by omega)) (by decide), hX, ⟨rfl, fun j a b c => (show sa (sa (sa s.A 9 (s.I 8) g) 10 (s.I 8) (s.A 11 t)) 11 t (s.I 8) j = s.A j from ((sa_ne c).trans (sa_ne b)).trans (sa_ne a)), fun _ _ _ _ => ⟨rfl, rfl⟩, fun j a => su_ne a⟩, by omega, rfl, (show sf s.N (s.I 8) y (s.I 8 + 1 - 1) = y by rw [show s.I 8 + 1 - 1 = s.I 8 by omega]; exact sf_self), fun e q => ⟨sf_ne (by omega), (show sf (s.A 9) (s.I 8) g e = s.A 9 e from sf_ne (by omega))⟩, (show sf (s.A 9) (s.I 8) g (s.I 8 + 1 - 1) = g by rw [show s.I 8 + 1 - 1 = s.I 8 by omega]; exact sf_self)⟩
theorem kc_num_new (z : Value) (d c : Nat) (y g t k n : Int) (hp : xx_H) (s : KS) (hK : KI c hp s) (hB : KB s) (lt : s.I 8 < 32768) (y0 : -9223372036854775808 ≤ y) (y1 : y ≤ 9223372036854775807) (g0 : -2147483648 ≤ g) (g1 : g ≤ 2147483647) (t0 : 0 ≤ t) (t1 : t < 512) : xx_go (xt_P z) (d + 1) 14 71 [some (.ref (c + 4)), some (.long (Int64.ofInt y)), none, some (.int (iI g)), some (.int (iI t)), some (.int (iI k)), some (.int (iI n))] [] hp (fun v h1 => ∃ (k : Int) (s1 : KS), v = some (.int (iI k)) ∧ KI c h1 s1 ∧ KB s1 ∧ kx c hp s h1 s1 0 0 ∧ KCF s s1 ∧ KNW y g k s s1) := by
  have b := hB.2.2.2.2.2.1
  have hX : kx c hp s hp s 0 0 := kx_rf
  refine go_a (pc' := 72) (ls' := [some (.ref (c + 4)), some (.long (Int64.ofInt y)), none, some (.int (iI g)), some (.int (iI t)), some (.int (iI k)), some (.int (iI n))]) (st' := [.ref (c + 4)]) rfl rfl ?_
  refine go_get (v := .int (iI (s.I 8))) rfl (hK.1 3 (by decide)) rfl rfl ?_
  refine go_b (pc' := 77) (st' := [.int (iI 1048576), .int (iI (s.I 8))]) (h' := hp) rfl rfl rfl ?_
  refine mi_lt (t := 82) rfl rfl (by omega) (by omega) (by omega) (by omega) (fun _ => ?_) (fun q => absurd (show s.I 8 < 1048576 by omega) q)
  refine go_a (pc' := 83) (ls' := [some (.ref (c + 4)), some (.long (Int64.ofInt y)), none, some (.int (iI g)), some (.int (iI t)), some (.int (iI k)), some (.int (iI n))]) (st' := [.ref (c + 4)]) rfl rfl ?_
  refine go_get (v := .int (iI (s.I 8))) rfl (hK.1 3 (by decide)) rfl rfl ?_
  refine go_a (pc' := 87) (ls' := [some (.ref (c + 4)), some (.long (Int64.ofInt y)), none, some (.int (iI g)), some (.int (iI t)), some (.int (iI k)), some (.int (iI n))]) (st' := [.ref (c + 4), .int (iI (s.I 8))]) rfl rfl ?_
  refine go_get (v := .ref (s.P 8)) rfl (hK.1 3 (by decide)) rfl rfl ?_
  refine mk_len (n := s.C 8) rfl (hK.1 29 (by decide)) (xa_l_len _ _) (by omega) (by omega) ?_
  refine mi_lt (t := 145) rfl rfl (by omega) (by omega) (by omega) (by omega) (fun q => ?_) (fun q => ?_)
  · refine go_w (fun v h1 hq => ?_) (kc_num_tail z (d + 1) c y g t k n hp s hp s hK hX hB q y0 y1 g0 g1 t0 t1)
    obtain ⟨w, s1, e1, e2, e3, e4, e5, e6, e7, e8, e9, e10⟩ := hq
    exact ⟨w, s1, e1, e2, e3, e4, e5, Or.inr ⟨e6, e7, e8, e9, e10⟩⟩
  · have eC : s.I 8 = s.C 8 := by omega
    refine go_a (pc' := 95) (ls' := [some (.ref (c + 4)), some (.long (Int64.ofInt y)), none, some (.int (iI g)), some (.int (iI t)), some (.int (iI k)), some (.int (iI n))]) (st' := [.ref (c + 4)]) rfl rfl ?_
    refine go_a (pc' := 96) (ls' := [some (.ref (c + 4)), some (.long (Int64.ofInt y)), none, some (.int (iI g)), some (.int (iI t)), some (.int (iI k)), some (.int (iI n))]) (st' := [.ref (c + 4), .ref (c + 4)]) rfl rfl ?_
    refine go_get (v := .ref (s.P 8)) rfl (hK.1 3 (by decide)) rfl rfl ?_
    refine go_a (pc' := 100) (ls' := [some (.ref (c + 4)), some (.long (Int64.ofInt y)), none, some (.int (iI g)), some (.int (iI t)), some (.int (iI k)), some (.int (iI n))]) (st' := [.ref (c + 4), .ref (s.P 8), .ref (c + 4)]) rfl rfl ?_
    refine go_get (v := .int (iI (s.I 8))) rfl (hK.1 3 (by decide)) rfl rfl ?_
    refine go_a (pc' := 104) (ls' := [some (.ref (c + 4)), some (.long (Int64.ofInt y)), none, some (.int (iI g)), some (.int (iI t)), some (.int (iI k)), some (.int (iI n))]) (st' := [.int (iI 2), .int (iI (s.I 8)), .ref (s.P 8), .ref (c + 4)]) rfl rfl ?_
    refine mi_mul rfl ?_
    refine go_s (m := 182) (as := [.ref (s.P 8), .int (iI ((s.I 8) * 2))]) (r := [.ref (c + 4)]) rfl rfl rfl rfl (xm_copyOf_long z d (s.P 8) (s.C 8) (s.I 8 * 2) s.N hp (ki_12 hK).2 (hK.1 29 (by decide)) (by omega) (by omega) (by omega) (by omega) (by omega)) (fun v h1 hq => ?_)
    obtain ⟨rfl, rfl⟩ := hq
    show xx_go (xt_P z) (d + 1) 14 108 [some (.ref (c + 4)), some (.long (Int64.ofInt y)), none, some (.int (iI g)), some (.int (iI t)), some (.int (iI k)), some (.int (iI n))] [.ref hp.length, .ref (c + 4)] ((hp ++ [.inl (.long, xa_l (s.I 8 * 2).toNat (cf (s.C 8) s.N))])) _
    refine kgrow_8 (m := s.I 8 * 2) (g := cf (s.C 8) s.N) hK hX rfl rfl (by omega) (by omega) (by omega) (fun hp1 hK hX => ?_)
    obtain ⟨s1, hs1⟩ : ∃ s1 : KS, s1 = s.wH (s.I 8 * 2) (cf (s.C 8) s.N) hp.length := ⟨_, rfl⟩
    rw [← hs1] at hK hX
    have F1 : s1.I = s.I ∧ s1.A = s.A ∧ s1.T = s.T ∧ s1.N = cf (s.C 8) s.N ∧ s1.C 8 = s.I 8 * 2 ∧ (∀ j : Nat, j ≠ 8 → s1.C j = s.C j ∧ s1.P j = s.P j) := by
      rw [hs1]
      exact ⟨rfl, rfl, rfl, rfl, rfl, fun j e => ⟨su_ne e, un_ne e⟩⟩
    obtain ⟨fI, fA, fT, fN, fC, fr⟩ := F1
    have i8 : s1.I 8 = s.I 8 := by rw [fI]
    have c9 : s1.C 9 = s.C 9 := (fr 9 (by decide)).1
    have c10 : s1.C 10 = s.C 10 := (fr 10 (by decide)).1
    refine go_a (pc' := 112) (ls' := [some (.ref (c + 4)), some (.long (Int64.ofInt y)), none, some (.int (iI g)), some (.int (iI t)), some (.int (iI k)), some (.int (iI n))]) (st' := [.ref (c + 4)]) rfl rfl ?_
    refine go_a (pc' := 113) (ls' := [some (.ref (c + 4)), some (.long (Int64.ofInt y)), none, some (.int (iI g)), some (.int (iI t)), some (.int (iI k)), some (.int (iI n))]) (st' := [.ref (c + 4), .ref (c + 4)]) rfl rfl ?_
    refine go_get (v := .ref (s1.P 9)) rfl (hK.1 3 (by decide)) rfl rfl ?_
    refine go_a (pc' := 117) (ls' := [some (.ref (c + 4)), some (.long (Int64.ofInt y)), none, some (.int (iI g)), some (.int (iI t)), some (.int (iI k)), some (.int (iI n))]) (st' := [.ref (c + 4), .ref (s1.P 9), .ref (c + 4)]) rfl rfl ?_
    refine go_get (v := .int (iI (s1.I 8))) rfl (hK.1 3 (by decide)) rfl rfl ?_
    refine go_a (pc' := 121) (ls' := [some (.ref (c + 4)), some (.long (Int64.ofInt y)), none, some (.int (iI g)), some (.int (iI t)), some (.int (iI k)), some (.int (iI n))]) (st' := [.int (iI 2), .int (iI (s1.I 8)), .ref (s1.P 9), .ref (c + 4)]) rfl rfl ?_
    refine mi_mul rfl ?_
    refine go_s (m := 183) (as := [.ref (s1.P 9), .int (iI ((s1.I 8) * 2))]) (r := [.ref (c + 4)]) rfl rfl rfl rfl (xm_copyOf_int z d (s1.P 9) (s1.C 9) (s1.I 8 * 2) (s1.A 9) hp1 (ki_12 hK).2 (hK.1 30 (by decide)) (by omega) (by omega) (by omega) (by omega) (by omega)) (fun v h1 hq => ?_)
    obtain ⟨rfl, rfl⟩ := hq
    show xx_go (xt_P z) (d + 1) 14 125 [some (.ref (c + 4)), some (.long (Int64.ofInt y)), none, some (.int (iI g)), some (.int (iI t)), some (.int (iI k)), some (.int (iI n))] [.ref hp1.length, .ref (c + 4)] ((hp1 ++ [.inl (.int, xa_f (s1.I 8 * 2).toNat (cf (s1.C 9) (s1.A 9)))])) _
    refine kgrow_9 (m := s1.I 8 * 2) (g := cf (s1.C 9) (s1.A 9)) hK hX rfl rfl (by omega) (by omega) (by omega) (fun hp2 hK hX => ?_)
    obtain ⟨s2, hs2⟩ : ∃ s2 : KS, s2 = s1.wG 9 (s1.I 8 * 2) (cf (s1.C 9) (s1.A 9)) hp1.length := ⟨_, rfl⟩
    rw [← hs2] at hK hX
    have F2 : s2.I = s1.I ∧ s2.N = s1.N ∧ s2.T = s1.T ∧ s2.A 9 = cf (s1.C 9) (s1.A 9) ∧ s2.C 9 = s1.I 8 * 2 ∧ (∀ j : Nat, j ≠ 9 → s2.A j = s1.A j ∧ s2.C j = s1.C j ∧ s2.P j = s1.P j) := by
      rw [hs2]
      exact ⟨rfl, rfl, rfl, rfl, rfl, fun j e => ⟨sw_ne e, su_ne e, un_ne e⟩⟩
    obtain ⟨gI, gN, gT, gA, gC, gr⟩ := F2
    have j8 : s2.I 8 = s.I 8 := by rw [gI]; exact i8
    have d10 : s2.C 10 = s.C 10 := ((gr 10 (by decide)).2.1).trans c10
    have d8 : s2.C 8 = s.I 8 * 2 := ((gr 8 (by decide)).2.1).trans fC
    refine go_a (pc' := 129) (ls' := [some (.ref (c + 4)), some (.long (Int64.ofInt y)), none, some (.int (iI g)), some (.int (iI t)), some (.int (iI k)), some (.int (iI n))]) (st' := [.ref (c + 4)]) rfl rfl ?_
    refine go_a (pc' := 130) (ls' := [some (.ref (c + 4)), some (.long (Int64.ofInt y)), none, some (.int (iI g)), some (.int (iI t)), some (.int (iI k)), some (.int (iI n))]) (st' := [.ref (c + 4), .ref (c + 4)]) rfl rfl ?_
    refine go_get (v := .ref (s2.P 10)) rfl (hK.1 3 (by decide)) rfl rfl ?_
    refine go_a (pc' := 134) (ls' := [some (.ref (c + 4)), some (.long (Int64.ofInt y)), none, some (.int (iI g)), some (.int (iI t)), some (.int (iI k)), some (.int (iI n))]) (st' := [.ref (c + 4), .ref (s2.P 10), .ref (c + 4)]) rfl rfl ?_
    refine go_get (v := .int (iI (s2.I 8))) rfl (hK.1 3 (by decide)) rfl rfl ?_
    refine go_a (pc' := 138) (ls' := [some (.ref (c + 4)), some (.long (Int64.ofInt y)), none, some (.int (iI g)), some (.int (iI t)), some (.int (iI k)), some (.int (iI n))]) (st' := [.int (iI 2), .int (iI (s2.I 8)), .ref (s2.P 10), .ref (c + 4)]) rfl rfl ?_
    refine mi_mul rfl ?_
    refine go_s (m := 183) (as := [.ref (s2.P 10), .int (iI ((s2.I 8) * 2))]) (r := [.ref (c + 4)]) rfl rfl rfl rfl (xm_copyOf_int z d (s2.P 10) (s2.C 10) (s2.I 8 * 2) (s2.A 10) hp2 (ki_12 hK).2 (hK.1 31 (by decide)) (by omega) (by omega) (by omega) (by omega) (by omega)) (fun v h1 hq => ?_)
    obtain ⟨rfl, rfl⟩ := hq
    show xx_go (xt_P z) (d + 1) 14 142 [some (.ref (c + 4)), some (.long (Int64.ofInt y)), none, some (.int (iI g)), some (.int (iI t)), some (.int (iI k)), some (.int (iI n))] [.ref hp2.length, .ref (c + 4)] ((hp2 ++ [.inl (.int, xa_f (s2.I 8 * 2).toNat (cf (s2.C 10) (s2.A 10)))])) _
    refine kgrow_10 (m := s2.I 8 * 2) (g := cf (s2.C 10) (s2.A 10)) hK hX rfl rfl (by omega) (by omega) (by omega) (fun hp3 hK hX => ?_)
    obtain ⟨s3, hs3⟩ : ∃ s3 : KS, s3 = s2.wG 10 (s2.I 8 * 2) (cf (s2.C 10) (s2.A 10)) hp2.length := ⟨_, rfl⟩
    rw [← hs3] at hK hX
    have F3 : s3.I = s2.I ∧ s3.N = s2.N ∧ s3.T = s2.T ∧ s3.A 10 = cf (s2.C 10) (s2.A 10) ∧ s3.C 10 = s2.I 8 * 2 ∧ (∀ j : Nat, j ≠ 10 → s3.A j = s2.A j ∧ s3.C j = s2.C j ∧ s3.P j = s2.P j) := by
      rw [hs3]
      exact ⟨rfl, rfl, rfl, rfl, rfl, fun j e => ⟨sw_ne e, su_ne e, un_ne e⟩⟩
    obtain ⟨hI, hN, hT, hA, hC, hr⟩ := F3
    have k8 : s3.I 8 = s.I 8 := by rw [hI]; exact j8
    have E8 : s3.C 8 = s.I 8 * 2 := ((hr 8 (by decide)).2.1).trans d8
    have E9 : s3.C 9 = s.I 8 * 2 := by rw [(hr 9 (by decide)).2.1, gC, i8]
    have E10 : s3.C 10 = s.I 8 * 2 := by rw [hC, j8]
    have II : s3.I = s.I := by rw [hI, gI, fI]
    have NN : s3.N = cf (s.C 8) s.N := by rw [hN, gN, fN]
    have A9 : s3.A 9 = cf (s.C 9) (s.A 9) := by rw [(hr 9 (by decide)).1, gA, fA, c9]
    have A10 : s3.A 10 = cf (s.C 10) (s.A 10) := by rw [hA, (gr 10 (by decide)).1, fA, d10]
    have AJ : ∀ j : Nat, j ≠ 9 → j ≠ 10 → s3.A j = s.A j := fun j p q => by rw [(hr j q).1, (gr j p).1, fA]
    have CJ : ∀ j : Nat, j ≠ 8 → j ≠ 9 → j ≠ 10 → s3.C j = s.C j ∧ s3.P j = s.P j := fun j p q w => ⟨by rw [(hr j w).2.1, (gr j q).2.1, (fr j p).1], by rw [(hr j w).2.2, (gr j q).2.2, (fr j p).2]⟩
    have B3 : KB s3 := by
      obtain ⟨a1, a2, a3, a4, a5, a6, a7, a8, a9⟩ := hB
      refine ⟨fun j e => ?_, by rw [II]; exact a2, by rw [NN]; exact fun e => (by unfold cf; split <;> first | exact a3 e | decide), fun j hj => ?_, ?_, ?_, ?_, ?_, ?_⟩
      · by_cases p : j = 9
        · rw [p, A9]
          exact cf_R (a1 9) e
        · by_cases p2 : j = 10
          · rw [p2, A10]
            exact cf_R (a1 10) e
          · rw [AJ j p p2]
            exact a1 j e
      · rw [II, (CJ j (by omega) (by omega) (by omega)).1]
        exact a4 j hj
      · rw [(CJ 6 (by decide) (by decide) (by decide)).1]
        exact a5
      · rw [II, E8, E9, E10]
        omega
      · rw [II, (CJ 13 (by decide) (by decide) (by decide)).1]
        exact a7
      · rw [II, (CJ 14 (by decide) (by decide) (by decide)).1]
        exact a8
      · rw [II, (CJ 15 (by decide) (by decide) (by decide)).1]
        exact a9
    refine go_w (fun v h1 hq => ?_) (kc_num_tail z (d + 1) c y g t k n hp s hp3 s3 hK hX B3 (by omega) y0 y1 g0 g1 t0 t1)
    obtain ⟨w, s4, e1, e2, e3, e4, e5, e6, e7, e8, e9, e10⟩ := hq
    have K3 : KCF s s3 := ⟨by rw [hT, gT, fT], fun j p q w => AJ j p q, CJ, fun j p => by rw [II]⟩
    refine ⟨w, s4, e1, e2, e3, e4, KCF_tr K3 e5, Or.inr ⟨by omega, by rw [e7, II], e8, fun e q => ?_, e10⟩⟩
    have u := e9 e (by omega)
    rw [u.1, u.2, NN, A9]
    exact ⟨if_pos (by omega), if_pos (by omega)⟩
theorem kc_num_loop (z : Value) (d c : Nat) (y g t : Int) (hp : xx_H) (s : KS) (hK : KI c hp s) (hB : KB s) (lt : s.I 8 < 32768) (y0 : -9223372036854775808 ≤ y) (y1 : y ≤ 9223372036854775807) (g0 : -2147483648 ≤ g) (g1 : g ≤ 2147483647) (t0 : 0 ≤ t) (t1 : t < 512) : ∀ (f : Nat) (k n : Int), (s.I 8 - n).toNat ≤ f → 0 ≤ n → n ≤ 40000 → -2147483648 ≤ k → k ≤ 2147483647 → xx_go (xt_P z) (d + 1) 14 18 [some (.ref (c + 4)), some (.long (Int64.ofInt y)), none, some (.int (iI g)), some (.int (iI t)), some (.int (iI k)), some (.int (iI n))] [] hp (fun v h1 => ∃ (k : Int) (s1 : KS), v = some (.int (iI k)) ∧ KI c h1 s1 ∧ KB s1 ∧ kx c hp s h1 s1 0 0 ∧ KCF s s1 ∧ KNW y g k s s1) := by
  have b := hB.2.2.2.2.2.1
  have nw : ∀ k n : Int, xx_go (xt_P z) (d + 1) 14 71 [some (.ref (c + 4)), some (.long (Int64.ofInt y)), none, some (.int (iI g)), some (.int (iI t)), some (.int (iI k)), some (.int (iI n))] [] hp (fun v h1 => ∃ (k : Int) (s1 : KS), v = some (.int (iI k)) ∧ KI c h1 s1 ∧ KB s1 ∧ kx c hp s h1 s1 0 0 ∧ KCF s s1 ∧ KNW y g k s s1) := fun k n => kc_num_new z d c y g t k n hp s hK hB lt y0 y1 g0 g1 t0 t1
  intro f
  induction f with
  | zero =>
    intro k n hf n0 n1 k0 k1
    refine go_a (pc' := 20) (ls' := [some (.ref (c + 4)), some (.long (Int64.ofInt y)), none, some (.int (iI g)), some (.int (iI t)), some (.int (iI k)), some (.int (iI n))]) (st' := [.int (iI n)]) rfl rfl ?_
    refine go_a (pc' := 21) (ls' := [some (.ref (c + 4)), some (.long (Int64.ofInt y)), none, some (.int (iI g)), some (.int (iI t)), some (.int (iI k)), some (.int (iI n))]) (st' := [.ref (c + 4), .int (iI n)]) rfl rfl ?_
    refine go_get (v := .int (iI (s.I 8))) rfl (hK.1 3 (by decide)) rfl rfl ?_
    refine mi_ge (t := 71) rfl rfl (by omega) (by omega) (by omega) (by omega) (fun _ => nw k n) (fun q => absurd (show n ≥ s.I 8 by omega) q)
  | succ f ih =>
    intro k n hf n0 n1 k0 k1
    refine go_a (pc' := 20) (ls' := [some (.ref (c + 4)), some (.long (Int64.ofInt y)), none, some (.int (iI g)), some (.int (iI t)), some (.int (iI k)), some (.int (iI n))]) (st' := [.int (iI n)]) rfl rfl ?_
    refine go_a (pc' := 21) (ls' := [some (.ref (c + 4)), some (.long (Int64.ofInt y)), none, some (.int (iI g)), some (.int (iI t)), some (.int (iI k)), some (.int (iI n))]) (st' := [.ref (c + 4), .int (iI n)]) rfl rfl ?_
    refine go_get (v := .int (iI (s.I 8))) rfl (hK.1 3 (by decide)) rfl rfl ?_
    refine mi_ge (t := 71) rfl rfl (by omega) (by omega) (by omega) (by omega) (fun _ => nw k n) (fun q1 => ?_)
    refine go_a (pc' := 29) (ls' := [some (.ref (c + 4)), some (.long (Int64.ofInt y)), none, some (.int (iI g)), some (.int (iI t)), some (.int (iI k)), some (.int (iI n))]) (st' := [.int (iI k)]) rfl rfl ?_
    refine mi_lt0 (t := 71) rfl rfl (by omega) (by omega) (fun _ => nw k n) (fun q2 => ?_)
    refine go_a (pc' := 34) (ls' := [some (.ref (c + 4)), some (.long (Int64.ofInt y)), none, some (.int (iI g)), some (.int (iI t)), some (.int (iI k)), some (.int (iI n))]) (st' := [.int (iI k)]) rfl rfl ?_
    refine go_a (pc' := 35) (ls' := [some (.ref (c + 4)), some (.long (Int64.ofInt y)), none, some (.int (iI g)), some (.int (iI t)), some (.int (iI k)), some (.int (iI n))]) (st' := [.ref (c + 4), .int (iI k)]) rfl rfl ?_
    refine go_get (v := .int (iI (s.I 8))) rfl (hK.1 3 (by decide)) rfl rfl ?_
    refine mi_ge (t := 71) rfl rfl (by omega) (by omega) (by omega) (by omega) (fun _ => nw k n) (fun q3 => ?_)
    have rk := hB.2.2.1 k
    have r10 := hB.1 10 k
    refine go_a (pc' := 42) (ls' := [some (.ref (c + 4)), some (.long (Int64.ofInt y)), none, some (.int (iI g)), some (.int (iI t)), some (.int (iI k)), some (.int (iI n))]) (st' := [.ref (c + 4)]) rfl rfl ?_
    refine go_get (v := .ref (s.P 8)) rfl (hK.1 3 (by decide)) rfl rfl ?_
    refine go_a (pc' := 47) (ls' := [some (.ref (c + 4)), some (.long (Int64.ofInt y)), none, some (.int (iI g)), some (.int (iI t)), some (.int (iI k)), some (.int (iI n))]) (st' := [.int (iI k), .ref (s.P 8)]) rfl rfl ?_
    refine mi_lld (n := (s.C 8).toNat) (f := s.N) rfl (hK.1 29 (by decide)) (by omega) (by omega) (by omega) ?_
    refine go_a (pc' := 49) (ls' := [some (.ref (c + 4)), some (.long (Int64.ofInt y)), none, some (.int (iI g)), some (.int (iI t)), some (.int (iI k)), some (.int (iI n))]) (st' := [.long (Int64.ofInt y), .long (Int64.ofInt (s.N k))]) rfl rfl ?_
    refine mi_lc_ne (t := 56) rfl rfl rfl (by omega) (by omega) (by omega) (by omega) (fun q4 => ?_) (fun q4 => ?_)
    · refine go_a (pc' := 57) (ls' := [some (.ref (c + 4)), some (.long (Int64.ofInt y)), none, some (.int (iI g)), some (.int (iI t)), some (.int (iI k)), some (.int (iI n))]) (st' := [.ref (c + 4)]) rfl rfl ?_
      refine go_get (v := .ref (s.P 10)) rfl (hK.1 3 (by decide)) rfl rfl ?_
      refine go_a (pc' := 62) (ls' := [some (.ref (c + 4)), some (.long (Int64.ofInt y)), none, some (.int (iI g)), some (.int (iI t)), some (.int (iI k)), some (.int (iI n))]) (st' := [.int (iI k), .ref (s.P 10)]) rfl rfl ?_
      refine mi_ild (n := (s.C 10).toNat) (f := s.A 10) rfl (hK.1 31 (by decide)) (by omega) (by omega) (by omega) ?_
      refine go_a (pc' := 65) (ls' := [some (.ref (c + 4)), some (.long (Int64.ofInt y)), none, some (.int (iI g)), some (.int (iI t)), some (.int (iI (s.A 10 k))), some (.int (iI n))]) (st' := []) rfl rfl ?_
      refine go_a (pc' := 68) (ls' := [some (.ref (c + 4)), some (.long (Int64.ofInt y)), none, some (.int (iI g)), some (.int (iI t)), some (.int (iI (s.A 10 k))), some (.int (iI (n + 1)))]) (st' := []) rfl (by rw [← iI_add n 1]; rfl) ?_
      refine go_a (pc' := 18) (ls' := [some (.ref (c + 4)), some (.long (Int64.ofInt y)), none, some (.int (iI g)), some (.int (iI t)), some (.int (iI (s.A 10 k))), some (.int (iI (n + 1)))]) (st' := []) rfl rfl ?_
      exact ih _ _ (by omega) (by omega) (by omega) r10.1 r10.2
    · refine go_a (pc' := 55) (ls' := [some (.ref (c + 4)), some (.long (Int64.ofInt y)), none, some (.int (iI g)), some (.int (iI t)), some (.int (iI k)), some (.int (iI n))]) (st' := [.int (iI k)]) rfl rfl ?_
      exact go_r rfl rfl rfl rfl rfl rfl ⟨k, s, rfl, hK, hB, kx_rf, KCF_rf, Or.inl ⟨rfl, ⟨by omega, by omega⟩, by omega⟩⟩
theorem kc_numberOf (z : Value) (d c : Nat) (y g : Int) (hp : xx_H) (s : KS) (hK : KI c hp s) (hB : KB s) (lt : s.I 8 < 32768) (y0 : -9223372036854775808 ≤ y) (y1 : y ≤ 9223372036854775807) (g0 : -2147483648 ≤ g) (g1 : g ≤ 2147483647) : xx_cl (xt_P z) (d + 2) 14 [.ref (c + 4), .long (Int64.ofInt y), .int (iI g)] hp (fun v h1 => ∃ (k : Int) (s1 : KS), v = some (.int (iI k)) ∧ KI c h1 s1 ∧ KB s1 ∧ kx c hp s h1 s1 0 0 ∧ KCF s s1 ∧ KNW y g k s s1) := by
  refine cl_go rfl ?_
  show xx_go (xt_P z) (d + 1) 14 0 [some (.ref (c + 4)), some (.long (Int64.ofInt y)), none, some (.int (iI g)), none, none, none] [] hp _
  refine go_a (pc' := 1) (ls' := [some (.ref (c + 4)), some (.long (Int64.ofInt y)), none, some (.int (iI g)), none, none, none]) (st' := [.long (Int64.ofInt y)]) rfl rfl ?_
  refine go_s (m := 15) (as := [.long (Int64.ofInt y)]) (r := []) rfl rfl rfl rfl (kc_slot z d (Int64.ofInt y) hp) (fun v h1 hq => ?_)
  obtain ⟨⟨t, ⟨t0, t1⟩, rfl⟩, eh⟩ := hq
  rw [eh]
  show xx_go (xt_P z) (d + 1) 14 4 [some (.ref (c + 4)), some (.long (Int64.ofInt y)), none, some (.int (iI g)), none, none, none] [.int (iI t)] hp _
  refine go_a (pc' := 6) (ls' := [some (.ref (c + 4)), some (.long (Int64.ofInt y)), none, some (.int (iI g)), some (.int (iI t)), none, none]) (st' := []) rfl rfl ?_
  refine go_a (pc' := 7) (ls' := [some (.ref (c + 4)), some (.long (Int64.ofInt y)), none, some (.int (iI g)), some (.int (iI t)), none, none]) (st' := [.ref (c + 4)]) rfl rfl ?_
  refine go_get (v := .ref (c + 8)) rfl (hK.1 3 (by decide)) rfl rfl ?_
  refine go_a (pc' := 12) (ls' := [some (.ref (c + 4)), some (.long (Int64.ofInt y)), none, some (.int (iI g)), some (.int (iI t)), none, none]) (st' := [.int (iI t), .ref (c + 8)]) rfl rfl ?_
  refine mi_ild (n := 512) (f := s.A 11) rfl (hK.1 4 (by decide)) (by omega) (by omega) (by omega) ?_
  refine go_a (pc' := 15) (ls' := [some (.ref (c + 4)), some (.long (Int64.ofInt y)), none, some (.int (iI g)), some (.int (iI t)), some (.int (iI (s.A 11 t))), none]) (st' := []) rfl rfl ?_
  refine go_a (pc' := 16) (ls' := [some (.ref (c + 4)), some (.long (Int64.ofInt y)), none, some (.int (iI g)), some (.int (iI t)), some (.int (iI (s.A 11 t))), none]) (st' := [.int (iI 0)]) rfl rfl ?_
  refine go_a (pc' := 18) (ls' := [some (.ref (c + 4)), some (.long (Int64.ofInt y)), none, some (.int (iI g)), some (.int (iI t)), some (.int (iI (s.A 11 t))), some (.int (iI 0))]) (st' := []) rfl rfl ?_
  have r := hB.1 11 t
  exact kc_num_loop z d c y g t hp s hK hB lt y0 y1 g0 g1 t0 t1 _ _ 0 (Nat.le_refl _) (by decide) (by decide) r.1 r.2
