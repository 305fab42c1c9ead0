def KGR (s s1 : KS) (n : Int) : Prop := KCF s s1 ∧ s.I 8 ≤ s1.I 8 ∧ s1.I 8 ≤ s.I 8 + n ∧ ∀ e : Int, e < s.I 8 → s1.N e = s.N e ∧ s1.A 9 e = s.A 9 e
section GRS
variable {s s1 s2 : KS} {n m : Int}
theorem KGR_rf : KGR s s 0 := ⟨KCF_rf, Int.le_refl _, by omega, fun _ _ => ⟨rfl, rfl⟩⟩
theorem KGR_tr (a : KGR s s1 n) (b : KGR s1 s2 m) : KGR s s2 (n + m) := by
  obtain ⟨a1, a2, a3, a4⟩ := a
  obtain ⟨b1, b2, b3, b4⟩ := b
  refine ⟨KCF_tr a1 b1, by omega, by omega, fun e q => ?_⟩
  have u := a4 e q
  have w := b4 e (by omega)
  exact ⟨w.1.trans u.1, w.2.trans u.2⟩
theorem KGR_w (a : KGR s s1 n) (h : n ≤ m) : KGR s s1 m := ⟨a.1, a.2.1, by have := a.2.2.1; omega, a.2.2.2⟩
theorem SD_gr (a : KGR s s1 n) {k : Int} (h : k < s.I 8) : SD s1 1 k = SD s 1 k ∧ SD s1 2 k = SD s 2 k := by
  have e := (a.2.2.2 k h).1
  unfold SD
  rw [e]
  exact ⟨rfl, rfl⟩
theorem KNW_gr {y g k : Int} (hB : KB s) (K : KCF s s1) (h : KNW y g k s s1) : KGR s s1 1 ∧ (0 ≤ k ∧ k < s1.I 8) ∧ s1.N k = y := by
  have b := hB.2.2.2.2.2.1
  rcases h with ⟨rfl, h1, h2⟩ | ⟨h1, h2, h3, h4, h5⟩
  · exact ⟨KGR_w KGR_rf (by decide), h1, h2⟩
  · have e : s1.I 8 = s.I 8 + 1 := by rw [h2]; rfl
    exact ⟨⟨K, by omega, by omega, h4⟩, by omega, h3⟩
theorem CI_new {y g k : Int} (hB : KB s) (B1 : KB s1) (K : KCF s s1) (h : KNW y g k s s1) (hC : CI s) (hy : y < 0 → sd1 y < s.I 8 ∧ sd2 y < s.I 8) (g0 : 0 ≤ g) (g1 : g ≤ s.I 8) : CI s1 := by
  have G := (KNW_gr hB K h).1
  have b := hB.2.2.2.2.2.1
  have b1 := B1.2.2.2.2.2.1
  rcases h with ⟨rfl, -⟩ | ⟨h1, h2, h3, h4, h5⟩
  · exact hC
  · have e : s1.I 8 = s.I 8 + 1 := by rw [h2]; rfl
    refine ⟨⟨show s1.I 8 ≤ 140000 by omega, fun j j0 j1 => ?_⟩, fun j j0 j1 => ?_, fun j j0 j1 => ?_⟩
    · have j1 : j < s1.I 8 := j1
      by_cases q : j < s.I 8
      · rw [(SD_gr G q).1, (SD_gr G q).2]
        exact hC.1.2 j j0 q
      · have ej : j = k := by omega
        rw [ej]
        have r := sd_R y
        by_cases n : y < 0
        · have n1 : s1.N k < 0 := by omega
          rw [(SD_neg n1).1, (SD_neg n1).2, h3]
          have := hy n
          omega
        · have n1 : ¬ s1.N k < 0 := by omega
          have u := SD_at n1
          have lo : -2 ≤ SD s1 1 k := by
            show -2 ≤ (if s1.N k < 0 then sd1 (s1.N k) else if 4611686018427387904 ≤ s1.N k then -2 else -1)
            rw [if_neg n1]
            split <;> decide
          rw [u.2]
          omega
    · by_cases q : j < s.I 8
      · rw [(h4 j q).2]
        exact hC.2.1 j j0 q
      · rw [show j = k by omega, h5]
        omega
    · rw [(h4 j (by omega)).1]
      exact hC.2.2 j j0 j1
end GRS
theorem kc_natural (z : Value) (d c : Nat) (y : Int) (hp : xx_H) (s : KS) (hK : KI c hp s) (hB : KB s) (hC : CI s) (lt : s.I 8 < 32768) (y0 : 0 ≤ y) (y1 : y < 4611686018427387904) : xx_cl (xt_P z) (d + 3) 186 [.ref (c + 4), .long (Int64.ofInt y)] hp (fun v h1 => ∃ (k : Int) (s1 : KS), v = some (.int (iI k)) ∧ KI c h1 s1 ∧ KB s1 ∧ CI s1 ∧ kx c hp s h1 s1 0 0 ∧ KGR s s1 1 ∧ (0 ≤ k ∧ k < s1.I 8) ∧ s1.N k = y) := by
  refine cl_go rfl ?_
  show xx_go (xt_P z) (d + 2) 186 0 [some (.ref (c + 4)), some (.long (Int64.ofInt y)), none] [] hp _
  refine go_a (pc' := 1) (ls' := [some (.ref (c + 4)), some (.long (Int64.ofInt y)), none]) (st' := [.ref (c + 4)]) rfl rfl ?_
  refine go_a (pc' := 2) (ls' := [some (.ref (c + 4)), some (.long (Int64.ofInt y)), none]) (st' := [.long (Int64.ofInt y), .ref (c + 4)]) rfl rfl ?_
  refine go_a (pc' := 3) (ls' := [some (.ref (c + 4)), some (.long (Int64.ofInt y)), none]) (st' := [.int (iI 0), .long (Int64.ofInt y), .ref (c + 4)]) rfl rfl ?_
  refine go_v (m := 14) (as := [.ref (c + 4), .long (Int64.ofInt y), .int (iI 0)]) (r := []) rfl rfl rfl (hK.1 3 (by decide)) rfl rfl (kc_numberOf z d c y 0 hp s hK hB lt (by omega) (by omega) (by decide) (by decide)) (fun v h1 hq => ?_)
  obtain ⟨k, s1, rfl, K1, B1, X1, F1, N1⟩ := hq
  have G := KNW_gr hB F1 N1
  show xx_go (xt_P z) (d + 2) 186 6 [some (.ref (c + 4)), some (.long (Int64.ofInt y)), none] [.int (iI k)] h1 _
  exact go_r rfl rfl rfl rfl rfl rfl ⟨k, s1, rfl, K1, B1, CI_new hB B1 F1 N1 hC (fun q => absurd q (by omega)) (by decide) (by have := hB.2.2.2.2.2.1; omega), X1, G⟩
theorem kc_symbol (z : Value) (d c : Nat) (y : Int) (hp : xx_H) (s : KS) (hK : KI c hp s) (hB : KB s) (hC : CI s) (lt : s.I 8 < 32768) (y0 : 0 ≤ y) (y1 : y < 4611686018427387904) : xx_cl (xt_P z) (d + 3) 13 [.ref (c + 4), .long (Int64.ofInt y)] hp (fun v h1 => ∃ (k : Int) (s1 : KS), v = some (.int (iI k)) ∧ KI c h1 s1 ∧ KB s1 ∧ CI s1 ∧ kx c hp s h1 s1 0 0 ∧ KGR s s1 1 ∧ (0 ≤ k ∧ k < s1.I 8) ∧ s1.N k = (y + 4611686018427387904)) := by
  refine cl_go rfl ?_
  show xx_go (xt_P z) (d + 2) 13 0 [some (.ref (c + 4)), some (.long (Int64.ofInt y)), none] [] hp _
  refine go_a (pc' := 1) (ls' := [some (.ref (c + 4)), some (.long (Int64.ofInt y)), none]) (st' := [.ref (c + 4)]) rfl rfl ?_
  refine go_a (pc' := 2) (ls' := [some (.ref (c + 4)), some (.long (Int64.ofInt y)), none]) (st' := [.long (Int64.ofInt y), .ref (c + 4)]) rfl rfl ?_
  refine go_b (pc' := 5) (st' := [.long (Int64.ofInt 4611686018427387904), .long (Int64.ofInt y), .ref (c + 4)]) (h' := hp) rfl rfl rfl ?_
  refine go_a (pc' := 6) (ls' := [some (.ref (c + 4)), some (.long (Int64.ofInt y)), none]) (st' := [.long (Int64.ofInt (y + 4611686018427387904)), .ref (c + 4)]) rfl (by rw [← key_sym y0 y1]; rfl) ?_
  refine go_a (pc' := 7) (ls' := [some (.ref (c + 4)), some (.long (Int64.ofInt y)), none]) (st' := [.int (iI 0), .long (Int64.ofInt (y + 4611686018427387904)), .ref (c + 4)]) rfl rfl ?_
  refine go_v (m := 14) (as := [.ref (c + 4), .long (Int64.ofInt (y + 4611686018427387904)), .int (iI 0)]) (r := []) rfl rfl rfl (hK.1 3 (by decide)) rfl rfl (kc_numberOf z d c (y + 4611686018427387904) 0 hp s hK hB lt (by omega) (by omega) (by decide) (by decide)) (fun v h1 hq => ?_)
  obtain ⟨k, s1, rfl, K1, B1, X1, F1, N1⟩ := hq
  have G := KNW_gr hB F1 N1
  show xx_go (xt_P z) (d + 2) 13 10 [some (.ref (c + 4)), some (.long (Int64.ofInt y)), none] [.int (iI k)] h1 _
  exact go_r rfl rfl rfl rfl rfl rfl ⟨k, s1, rfl, K1, B1, CI_new hB B1 F1 N1 hC (fun q => absurd q (by omega)) (by decide) (by have := hB.2.2.2.2.2.1; omega), X1, G⟩
theorem kc_pair (z : Value) (d c : Nat) (a b : Int) (hp : xx_H) (s : KS) (hK : KI c hp s) (hB : KB s) (hC : CI s) (lt : s.I 8 < 32768) (a0 : 0 ≤ a) (a1 : a < s.I 8) (b0 : 0 ≤ b) (b1 : b < s.I 8) : xx_cl (xt_P z) (d + 3) 194 [.ref (c + 4), .int (iI a), .int (iI b)] hp (fun v h1 => ∃ (k : Int) (s1 : KS), v = some (.int (iI k)) ∧ KI c h1 s1 ∧ KB s1 ∧ CI s1 ∧ kx c hp s h1 s1 0 0 ∧ KGR s s1 1 ∧ (0 ≤ k ∧ k < s1.I 8) ∧ s1.N k = kpair a b) := by
  have ha := hC.2.1 a a0 a1
  have hb := hC.2.1 b b0 b1
  have bb := hB.2.2.2.2.2.1
  refine cl_go rfl ?_
  show xx_go (xt_P z) (d + 2) 194 0 [some (.ref (c + 4)), some (.int (iI a)), some (.int (iI b)), none] [] hp _
  refine go_a (pc' := 1) (ls' := [some (.ref (c + 4)), some (.int (iI a)), some (.int (iI b)), none]) (st' := [.int (iI 1)]) rfl rfl ?_
  refine go_a (pc' := 2) (ls' := [some (.ref (c + 4)), some (.int (iI a)), some (.int (iI b)), none]) (st' := [.ref (c + 4), .int (iI 1)]) rfl rfl ?_
  refine go_a (pc' := 3) (ls' := [some (.ref (c + 4)), some (.int (iI a)), some (.int (iI b)), none]) (st' := [.int (iI a), .ref (c + 4), .int (iI 1)]) rfl rfl ?_
  refine go_v (m := 195) (as := [.ref (c + 4), .int (iI a)]) (r := [.int (iI 1)]) rfl rfl rfl (hK.1 3 (by decide)) rfl rfl (kc_height z (d + 1) c a hp s hK hB (by omega) (by omega)) (fun v h1 hq => ?_)
  obtain ⟨hq, e⟩ := hq
  rw [e]
  have hq : v = some (.int (iI (s.A 9 a))) := hq.elim (fun q => q.2) (fun q => absurd ⟨a0, a1⟩ q.1)
  subst hq
  clear e h1
  show xx_go (xt_P z) (d + 2) 194 6 [some (.ref (c + 4)), some (.int (iI a)), some (.int (iI b)), none] [.int (iI (s.A 9 a)), .int (iI 1)] hp _
  refine go_a (pc' := 7) (ls' := [some (.ref (c + 4)), some (.int (iI a)), some (.int (iI b)), none]) (st' := [.ref (c + 4), .int (iI (s.A 9 a)), .int (iI 1)]) rfl rfl ?_
  refine go_a (pc' := 8) (ls' := [some (.ref (c + 4)), some (.int (iI a)), some (.int (iI b)), none]) (st' := [.int (iI b), .ref (c + 4), .int (iI (s.A 9 a)), .int (iI 1)]) rfl rfl ?_
  refine go_v (m := 195) (as := [.ref (c + 4), .int (iI b)]) (r := [.int (iI (s.A 9 a)), .int (iI 1)]) rfl rfl rfl (hK.1 3 (by decide)) rfl rfl (kc_height z (d + 1) c b hp s hK hB (by omega) (by omega)) (fun v h1 hq => ?_)
  obtain ⟨hq, e⟩ := hq
  rw [e]
  have hq : v = some (.int (iI (s.A 9 b))) := hq.elim (fun q => q.2) (fun q => absurd ⟨b0, b1⟩ q.1)
  subst hq
  clear e h1
  show xx_go (xt_P z) (d + 2) 194 11 [some (.ref (c + 4)), some (.int (iI a)), some (.int (iI b)), none] [.int (iI (s.A 9 b)), .int (iI (s.A 9 a)), .int (iI 1)] hp _
  refine go_o (st' := [.int (iI (if s.A 9 a < s.A 9 b then s.A 9 b else s.A 9 a)), .int (iI 1)]) (h' := hp) rfl rfl rfl (by rw [iI_max (by omega) (by omega) (by omega) (by omega)]; rfl) ?_
  have hm : 0 ≤ (if s.A 9 a < s.A 9 b then s.A 9 b else s.A 9 a) ∧ 1 + (if s.A 9 a < s.A 9 b then s.A 9 b else s.A 9 a) ≤ s.I 8 := by split <;> omega
  obtain ⟨m, em⟩ : ∃ m, m = (if s.A 9 a < s.A 9 b then s.A 9 b else s.A 9 a) := ⟨_, rfl⟩
  rw [← em] at hm ⊢
  refine mi_add rfl ?_
  refine go_a (pc' := 16) (ls' := [some (.ref (c + 4)), some (.int (iI a)), some (.int (iI b)), some (.int (iI (1 + m)))]) (st' := []) rfl rfl ?_
  refine go_a (pc' := 17) (ls' := [some (.ref (c + 4)), some (.int (iI a)), some (.int (iI b)), some (.int (iI (1 + m)))]) (st' := [.ref (c + 4)]) rfl rfl ?_
  refine go_b (pc' := 20) (st' := [.long (Int64.ofInt ((-9223372036854775808))), .ref (c + 4)]) (h' := hp) rfl rfl rfl ?_
  refine go_a (pc' := 21) (ls' := [some (.ref (c + 4)), some (.int (iI a)), some (.int (iI b)), some (.int (iI (1 + m)))]) (st' := [.int (iI a), .long (Int64.ofInt ((-9223372036854775808))), .ref (c + 4)]) rfl rfl ?_
  refine mi_i2l rfl (by omega) (by omega) ?_
  refine go_a (pc' := 24) (ls' := [some (.ref (c + 4)), some (.int (iI a)), some (.int (iI b)), some (.int (iI (1 + m)))]) (st' := [.int (iI 31), .long (Int64.ofInt a), .long (Int64.ofInt ((-9223372036854775808))), .ref (c + 4)]) rfl rfl ?_
  refine go_a (pc' := 25) (ls' := [some (.ref (c + 4)), some (.int (iI a)), some (.int (iI b)), some (.int (iI (1 + m)))]) (st' := [.long (Int64.ofInt (a * 2147483648)), .long (Int64.ofInt ((-9223372036854775808))), .ref (c + 4)]) rfl (by rw [← shl31 a0 (by omega)]; rfl) ?_
  refine go_a (pc' := 26) (ls' := [some (.ref (c + 4)), some (.int (iI a)), some (.int (iI b)), some (.int (iI (1 + m)))]) (st' := [.long (Int64.ofInt (-9223372036854775808) ||| Int64.ofInt (a * 2147483648)), .ref (c + 4)]) rfl rfl ?_
  refine go_a (pc' := 27) (ls' := [some (.ref (c + 4)), some (.int (iI a)), some (.int (iI b)), some (.int (iI (1 + m)))]) (st' := [.int (iI b), .long (Int64.ofInt (-9223372036854775808) ||| Int64.ofInt (a * 2147483648)), .ref (c + 4)]) rfl rfl ?_
  refine mi_i2l rfl (by omega) (by omega) ?_
  refine go_a (pc' := 29) (ls' := [some (.ref (c + 4)), some (.int (iI a)), some (.int (iI b)), some (.int (iI (1 + m)))]) (st' := [.long (Int64.ofInt (kpair a b)), .ref (c + 4)]) rfl (by rw [← key_pair a0 (by omega) b0 (by omega)]; rfl) ?_
  refine go_a (pc' := 30) (ls' := [some (.ref (c + 4)), some (.int (iI a)), some (.int (iI b)), some (.int (iI (1 + m)))]) (st' := [.int (iI (1 + m)), .long (Int64.ofInt (kpair a b)), .ref (c + 4)]) rfl rfl ?_
  have sp := sd_pair a0 (by omega) b0 (show b < 2147483648 by omega)
  refine go_v (m := 14) (as := [.ref (c + 4), .long (Int64.ofInt (kpair a b)), .int (iI (1 + m))]) (r := []) rfl rfl rfl (hK.1 3 (by decide)) rfl rfl (kc_numberOf z d c (kpair a b) (1 + m) hp s hK hB lt sp.2.2.2 (by omega) (by omega) (by omega)) (fun v h1 hq => ?_)
  obtain ⟨k, s1, rfl, K1, B1, X1, F1, N1⟩ := hq
  have G := KNW_gr hB F1 N1
  show xx_go (xt_P z) (d + 2) 194 33 [some (.ref (c + 4)), some (.int (iI a)), some (.int (iI b)), some (.int (iI (1 + m)))] [.int (iI k)] h1 _
  exact go_r rfl rfl rfl rfl rfl rfl ⟨k, s1, rfl, K1, B1, CI_new hB B1 F1 N1 hC (fun _ => by rw [sp.1, sp.2.1]; exact ⟨a1, b1⟩) (by omega) (by omega), X1, G⟩
