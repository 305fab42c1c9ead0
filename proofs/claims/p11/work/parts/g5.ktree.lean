def ckd (N : Int → Int) (k : Int) : Int := if N k < 0 then 2 else if 4611686018427387904 ≤ N k then 1 else 0
def cka (N : Int → Int) (k : Int) : Int := if N k < 0 then sd1 (N k) else if 4611686018427387904 ≤ N k then N k - 4611686018427387904 else N k
def ckb (N : Int → Int) (k : Int) : Int := if N k < 0 then sd2 (N k) else 0
def DK (N : Int → Int) (k : Int) : ob_T := ob_D (ckd N) (cka N) (ckb N) k
section CKS
variable {N N1 : Int → Int} {k : Int} {s s1 s2 : KS}
theorem ck_n (e0 : 0 ≤ N k) (e1 : N k < 4611686018427387904) : ckd N k = 0 ∧ cka N k = N k ∧ ckb N k = 0 := by
  unfold ckd cka ckb
  rw [if_neg (by omega), if_neg (by omega), if_neg (by omega), if_neg (by omega), if_neg (by omega)]
  exact ⟨rfl, rfl, rfl⟩
theorem ck_s (e : 4611686018427387904 ≤ N k) : ckd N k = 1 ∧ cka N k = N k - 4611686018427387904 ∧ ckb N k = 0 := by
  unfold ckd cka ckb
  rw [if_neg (by omega), if_pos e, if_neg (by omega), if_pos e, if_neg (by omega)]
  exact ⟨rfl, rfl, rfl⟩
theorem ck_p (e : N k < 0) : ckd N k = 2 ∧ cka N k = sd1 (N k) ∧ ckb N k = sd2 (N k) := by
  unfold ckd cka ckb
  rw [if_pos e, if_pos e, if_pos e]
  exact ⟨rfl, rfl, rfl⟩
theorem ck_e (e : N1 k = N k) : ckd N1 k = ckd N k ∧ cka N1 k = cka N k ∧ ckb N1 k = ckb N k := by
  unfold ckd cka ckb
  rw [e]
  exact ⟨rfl, rfl, rfl⟩
theorem sd_back {x : Int} (h0 : -9223372036854775808 ≤ x) (h1 : x < -4611686018427387904) : x = kpair (sd1 x) (sd2 x) := by
  unfold kpair sd1 sd2
  omega
def KX (s : KS) : Prop := CI s ∧ KCH s
theorem KX_W (hB : KB s) (h : KX s) : ob_W (ckd s.N) (cka s.N) (ckb s.N) (s.I 8) := by
  obtain ⟨hC, hH⟩ := h
  refine ⟨fun k k0 k1 => ?_, fun j k j0 jk k1 q => ?_⟩
  · have w := hC.1.2 k k0 k1
    unfold ob_V
    by_cases e : s.N k < 0
    · obtain ⟨e1, e2, e3⟩ := ck_p e
      have r := sd_R (s.N k)
      rw [(SD_neg e).1, (SD_neg e).2] at w
      rw [e1, e2, e3]
      exact ⟨⟨by decide, by decide, r.1.1⟩, fun _ => by omega, fun x => absurd rfl x⟩
    · by_cases f : 4611686018427387904 ≤ s.N k
      · obtain ⟨e1, e2, e3⟩ := ck_s f
        rw [e1, e2, e3]
        exact ⟨⟨by decide, by decide, by omega⟩, fun x => absurd x (by decide), fun _ => rfl⟩
      · obtain ⟨e1, e2, e3⟩ := ck_n (N := s.N) (k := k) (by omega) (by omega)
        rw [e1, e2, e3]
        exact ⟨⟨by decide, by decide, by omega⟩, fun x => absurd x (by decide), fun _ => rfl⟩
  · obtain ⟨q1, q2, q3⟩ := q
    have u := hH.2.2.2.2.1 j k j0 jk k1
    apply u
    by_cases e : s.N j < 0
    · obtain ⟨e1, e2, e3⟩ := ck_p e
      by_cases f : s.N k < 0
      · obtain ⟨f1, f2, f3⟩ := ck_p f
        rw [e2, f2] at q2
        rw [e3, f3] at q3
        rw [sd_back (hB.2.2.1 j).1 (hH.2.2.2.2.2 j j0 (by omega) e), sd_back (hB.2.2.1 k).1 (hH.2.2.2.2.2 k (by omega) k1 f), q2, q3]
      · exfalso
        rw [e1] at q1
        by_cases f2 : 4611686018427387904 ≤ s.N k
        · rw [(ck_s f2).1] at q1
          exact absurd q1 (by decide)
        · rw [(ck_n (N := s.N) (k := k) (by omega) (by omega)).1] at q1
          exact absurd q1 (by decide)
    · by_cases e9 : 4611686018427387904 ≤ s.N j
      · obtain ⟨e1, e2, e3⟩ := ck_s e9
        rw [e1] at q1
        by_cases f : s.N k < 0
        · rw [(ck_p f).1] at q1
          exact absurd q1 (by decide)
        · by_cases f2 : 4611686018427387904 ≤ s.N k
          · rw [e2, (ck_s f2).2.1] at q2
            omega
          · rw [(ck_n (N := s.N) (k := k) (by omega) (by omega)).1] at q1
            exact absurd q1 (by decide)
      · obtain ⟨e1, e2, e3⟩ := ck_n (N := s.N) (k := j) (by omega) (by omega)
        rw [e1] at q1
        by_cases f : s.N k < 0
        · rw [(ck_p f).1] at q1
          exact absurd q1 (by decide)
        · by_cases f2 : 4611686018427387904 ≤ s.N k
          · rw [(ck_s f2).1] at q1
            exact absurd q1 (by decide)
          · rw [e2, (ck_n (N := s.N) (k := k) (by omega) (by omega)).2.1] at q2
            exact q2
theorem DK_n (e0 : 0 ≤ N k) (e1 : N k < 4611686018427387904) : DK N k = .num (N k) := by
  obtain ⟨f1, f2, f3⟩ := ck_n e0 e1
  unfold DK
  rw [ob_D_n (by rw [f1]; decide) (by rw [f1]; decide), f2]
theorem DK_s (e : 4611686018427387904 ≤ N k) : DK N k = .var (N k - 4611686018427387904).toNat := by
  obtain ⟨f1, f2, f3⟩ := ck_s e
  unfold DK
  rw [ob_D_s f1, f2]
theorem DK_p (hB : KB s) (h : KX s) (k0 : 0 ≤ k) (k1 : k < s.I 8) (e : s.N k < 0) : DK s.N k = .add (DK s.N (sd1 (s.N k))) (DK s.N (sd2 (s.N k))) := by
  obtain ⟨e1, e2, e3⟩ := ck_p e
  have w := ob_D_p (KX_W hB h) k0 k1 e1
  rw [e2, e3] at w
  exact w
theorem DK_inj (hB : KB s) (h : KX s) {j k : Int} (j0 : 0 ≤ j) (j1 : j < s.I 8) (k0 : 0 ≤ k) (k1 : k < s.I 8) (e : DK s.N j = DK s.N k) : j = k := ob_D_inj (KX_W hB h) j0 j1 k0 k1 e
theorem DK_e (hB : KB s) (h : KX s) (e : ∀ e : Int, e < s.I 8 → N1 e = s.N e) (k0 : 0 ≤ k) (k1 : k < s.I 8) : DK N1 k = DK s.N k := ob_D_ext (KX_W hB h) (fun j _ j1 => ck_e (e j j1)) k0 k1
def KHT (s : KS) : Prop := ∀ k : Int, 0 ≤ k → k < s.I 8 → s.A 9 k = ob_h (DK s.N k)
theorem KHT_new {y g : Int} (hH : KHT s) (hB : KB s) (h : KX s) (K : KNW y g k s s1) (n : k = s.I 8 → s1.A 9 k = g → g = ob_h (DK s1.N k)) : KHT s1 := by
  rcases K with ⟨rfl, -⟩ | ⟨h1, h2, h3, h4, h5⟩
  · exact hH
  · have e8 : s1.I 8 = s.I 8 + 1 := by rw [h2]; rfl
    intro j j0 j1
    by_cases e : j = k
    · rw [e, h5]
      exact n h1 h5
    · rw [(h4 j (by omega)).2, DK_e hB h (fun e q => (h4 e q).1) j0 (by omega)]
      exact hH j j0 (by omega)
end CKS
theorem kz_natural (z : Value) (d c : Nat) (y : Int) (hp : xx_H) (s : KS) (hK : KI c hp s) (hB : KB s) (hC : KX s) (lt : s.I 8 < 32768) (y0 : 0 ≤ y) (y1 : y < 4611686018427387904) : xx_cl (xt_P z) (d + 3) 186 [.ref (c + 4), .long (Int64.ofInt y)] hp (fun v h1 => ∃ (k : Int) (s1 : KS), v = some (.int (iI k)) ∧ KI c h1 s1 ∧ KB s1 ∧ KX s1 ∧ kx c hp s h1 s1 0 0 ∧ KGR s s1 1 ∧ (0 ≤ k ∧ k < s1.I 8) ∧ s1.N k = y ∧ DK s1.N k = .num y ∧ (KHT s → KHT s1) ∧ (s1 = s ∨ k = s.I 8)) := by
  refine cl_go rfl ?_
  show xx_go (xt_P z) (d + 2) 186 0 [some (.ref (c + 4)), some (.long (Int64.ofInt y)), none] [] hp _
  refine go_a (pc' := 1) (ls' := [some (.ref (c + 4)), some (.long (Int64.ofInt y)), none]) (st' := [.ref (c + 4)]) rfl rfl ?_
  refine go_a (pc' := 2) (ls' := [some (.ref (c + 4)), some (.long (Int64.ofInt y)), none]) (st' := [.long (Int64.ofInt y), .ref (c + 4)]) rfl rfl ?_
  refine go_a (pc' := 3) (ls' := [some (.ref (c + 4)), some (.long (Int64.ofInt y)), none]) (st' := [.int (iI 0), .long (Int64.ofInt y), .ref (c + 4)]) rfl rfl ?_
  refine go_v (m := 14) (as := [.ref (c + 4), .long (Int64.ofInt y), .int (iI 0)]) (r := []) rfl rfl rfl (hK.1 3 (by decide)) rfl rfl (kz_numberOf z d c y 0 hp s hK hB hC.2 (fun q => absurd q (by omega)) lt (by omega) (by omega) (by decide) (by decide)) (fun v h1 hq => ?_)
  obtain ⟨k, s1, rfl, K1, B1, X1, F1, H1, N1⟩ := hq
  have G := KNW_gr hB F1 N1
  have C1 : KX s1 := ⟨CI_new hB B1 F1 N1 hC.1 (fun q => absurd q (by omega)) (by decide) (by have := hB.2.2.2.2.2.1; omega), H1⟩
  have L : s1 = s ∨ k = s.I 8 := N1.elim (fun q => Or.inl q.1) (fun q => Or.inr q.1)
  have D : DK s1.N k = .num y := by
    have e := G.2.2
    rw [DK_n (by omega) (by omega), e]
  show xx_go (xt_P z) (d + 2) 186 6 [some (.ref (c + 4)), some (.long (Int64.ofInt y)), none] [.int (iI k)] h1 _
  exact go_r rfl rfl rfl rfl rfl rfl ⟨k, s1, rfl, K1, B1, C1, X1, G.1, G.2.1, G.2.2, D, fun hH => KHT_new hH hB hC N1 (fun _ _ => by rw [D]; rfl), L⟩
theorem kz_symbol (z : Value) (d c : Nat) (y : Int) (hp : xx_H) (s : KS) (hK : KI c hp s) (hB : KB s) (hC : KX s) (lt : s.I 8 < 32768) (y0 : 0 ≤ y) (y1 : y < 4611686018427387904) : xx_cl (xt_P z) (d + 3) 13 [.ref (c + 4), .long (Int64.ofInt y)] hp (fun v h1 => ∃ (k : Int) (s1 : KS), v = some (.int (iI k)) ∧ KI c h1 s1 ∧ KB s1 ∧ KX s1 ∧ kx c hp s h1 s1 0 0 ∧ KGR s s1 1 ∧ (0 ≤ k ∧ k < s1.I 8) ∧ s1.N k = (y + 4611686018427387904) ∧ DK s1.N k = .var y.toNat ∧ (KHT s → KHT s1) ∧ (s1 = s ∨ k = s.I 8)) := by
  refine cl_go rfl ?_
  show xx_go (xt_P z) (d + 2) 13 0 [some (.ref (c + 4)), some (.long (Int64.ofInt y)), none] [] hp _
  refine go_a (pc' := 1) (ls' := [some (.ref (c + 4)), some (.long (Int64.ofInt y)), none]) (st' := [.ref (c + 4)]) rfl rfl ?_
  refine go_a (pc' := 2) (ls' := [some (.ref (c + 4)), some (.long (Int64.ofInt y)), none]) (st' := [.long (Int64.ofInt y), .ref (c + 4)]) rfl rfl ?_
  refine go_b (pc' := 5) (st' := [.long (Int64.ofInt 4611686018427387904), .long (Int64.ofInt y), .ref (c + 4)]) (h' := hp) rfl rfl rfl ?_
  refine go_a (pc' := 6) (ls' := [some (.ref (c + 4)), some (.long (Int64.ofInt y)), none]) (st' := [.long (Int64.ofInt (y + 4611686018427387904)), .ref (c + 4)]) rfl (by rw [← key_sym y0 y1]; rfl) ?_
  refine go_a (pc' := 7) (ls' := [some (.ref (c + 4)), some (.long (Int64.ofInt y)), none]) (st' := [.int (iI 0), .long (Int64.ofInt (y + 4611686018427387904)), .ref (c + 4)]) rfl rfl ?_
  refine go_v (m := 14) (as := [.ref (c + 4), .long (Int64.ofInt (y + 4611686018427387904)), .int (iI 0)]) (r := []) rfl rfl rfl (hK.1 3 (by decide)) rfl rfl (kz_numberOf z d c (y + 4611686018427387904) 0 hp s hK hB hC.2 (fun q => absurd q (by omega)) lt (by omega) (by omega) (by decide) (by decide)) (fun v h1 hq => ?_)
  obtain ⟨k, s1, rfl, K1, B1, X1, F1, H1, N1⟩ := hq
  have G := KNW_gr hB F1 N1
  have C1 : KX s1 := ⟨CI_new hB B1 F1 N1 hC.1 (fun q => absurd q (by omega)) (by decide) (by have := hB.2.2.2.2.2.1; omega), H1⟩
  have L : s1 = s ∨ k = s.I 8 := N1.elim (fun q => Or.inl q.1) (fun q => Or.inr q.1)
  have D : DK s1.N k = .var y.toNat := by
    have e := G.2.2
    rw [DK_s (by omega), e, show y + 4611686018427387904 - 4611686018427387904 = y by omega]
  show xx_go (xt_P z) (d + 2) 13 10 [some (.ref (c + 4)), some (.long (Int64.ofInt y)), none] [.int (iI k)] h1 _
  exact go_r rfl rfl rfl rfl rfl rfl ⟨k, s1, rfl, K1, B1, C1, X1, G.1, G.2.1, G.2.2, D, fun hH => KHT_new hH hB hC N1 (fun _ _ => by rw [D]; rfl), L⟩
theorem kz_pair (z : Value) (d c : Nat) (a b : Int) (hp : xx_H) (s : KS) (hK : KI c hp s) (hB : KB s) (hC : KX s) (lt : s.I 8 < 32768) (a0 : 0 ≤ a) (a1 : a < s.I 8) (b0 : 0 ≤ b) (b1 : b < s.I 8) : xx_cl (xt_P z) (d + 3) 194 [.ref (c + 4), .int (iI a), .int (iI b)] hp (fun v h1 => ∃ (k : Int) (s1 : KS), v = some (.int (iI k)) ∧ KI c h1 s1 ∧ KB s1 ∧ KX s1 ∧ kx c hp s h1 s1 0 0 ∧ KGR s s1 1 ∧ (0 ≤ k ∧ k < s1.I 8) ∧ s1.N k = kpair a b ∧ DK s1.N k = .add (DK s.N a) (DK s.N b) ∧ (KHT s → KHT s1) ∧ (s1 = s ∨ k = s.I 8)) := by
  have ha := hC.1.2.1 a a0 a1
  have hb := hC.1.2.1 b b0 b1
  have bb := hB.2.2.2.2.2.1
  refine cl_go rfl ?_
  show xx_go (xt_P z) (d + 2) 194 0 [some (.ref (c + 4)), some (.int (iI a)), some (.int (iI b)), none] [] hp _
  refine go_a (pc' := 1) (ls' := [some (.ref (c + 4)), some (.int (iI a)), some (.int (iI b)), none]) (st' := [.int (iI 1)]) rfl rfl ?_
  refine go_a (pc' := 2) (ls' := [some (.ref (c + 4)), some (.int (iI a)), some (.int (iI b)), none]) (st' := [.ref (c + 4), .int (iI 1)]) rfl rfl ?_
  refine go_a (pc' := 3) (ls' := [some (.ref (c + 4)), some (.int (iI a)), some (.int (iI b)), none]) (st' := [.int (iI a), .ref (c + 4), .int (iI 1)]) rfl rfl ?_
  refine go_v (m := 195) (as := [.ref (c + 4), .int (iI a)]) (r := [.int (iI 1)]) rfl rfl rfl (hK.1 3 (by decide)) rfl rfl (kc_height z (d + 1) c a hp s hK hB (by omega) (by omega)) (fun v h1 hq => ?_)
  obtain ⟨hq, e⟩ := hq
  rw [e]
  have hq : v = some (.int (iI (s.A 9 a))) := hq.elim (fun q => q.2) (fun q => absurd ⟨a0, a1⟩ q.1)
  subst hq
  clear e h1
  show xx_go (xt_P z) (d + 2) 194 6 [some (.ref (c + 4)), some (.int (iI a)), some (.int (iI b)), none] [.int (iI (s.A 9 a)), .int (iI 1)] hp _
  refine go_a (pc' := 7) (ls' := [some (.ref (c + 4)), some (.int (iI a)), some (.int (iI b)), none]) (st' := [.ref (c + 4), .int (iI (s.A 9 a)), .int (iI 1)]) rfl rfl ?_
  refine go_a (pc' := 8) (ls' := [some (.ref (c + 4)), some (.int (iI a)), some (.int (iI b)), none]) (st' := [.int (iI b), .ref (c + 4), .int (iI (s.A 9 a)), .int (iI 1)]) rfl rfl ?_
  refine go_v (m := 195) (as := [.ref (c + 4), .int (iI b)]) (r := [.int (iI (s.A 9 a)), .int (iI 1)]) rfl rfl rfl (hK.1 3 (by decide)) rfl rfl (kc_height z (d + 1) c b hp s hK hB (by omega) (by omega)) (fun v h1 hq => ?_)
  obtain ⟨hq, e⟩ := hq
  rw [e]
  have hq : v = some (.int (iI (s.A 9 b))) := hq.elim (fun q => q.2) (fun q => absurd ⟨b0, b1⟩ q.1)
  subst hq
  clear e h1
  show xx_go (xt_P z) (d + 2) 194 11 [some (.ref (c + 4)), some (.int (iI a)), some (.int (iI b)), none] [.int (iI (s.A 9 b)), .int (iI (s.A 9 a)), .int (iI 1)] hp _
  refine go_o (st' := [.int (iI (if s.A 9 a < s.A 9 b then s.A 9 b else s.A 9 a)), .int (iI 1)]) (h' := hp) rfl rfl rfl (by rw [iI_max (by omega) (by omega) (by omega) (by omega)]; rfl) ?_
  have hm : 0 ≤ (if s.A 9 a < s.A 9 b then s.A 9 b else s.A 9 a) ∧ 1 + (if s.A 9 a < s.A 9 b then s.A 9 b else s.A 9 a) ≤ s.I 8 := by split <;> omega
  obtain ⟨m, em⟩ : ∃ m, m = (if s.A 9 a < s.A 9 b then s.A 9 b else s.A 9 a) := ⟨_, rfl⟩
  rw [← em] at hm ⊢
  refine mi_add rfl ?_
  refine go_a (pc' := 16) (ls' := [some (.ref (c + 4)), some (.int (iI a)), some (.int (iI b)), some (.int (iI (1 + m)))]) (st' := []) rfl rfl ?_
  refine go_a (pc' := 17) (ls' := [some (.ref (c + 4)), some (.int (iI a)), some (.int (iI b)), some (.int (iI (1 + m)))]) (st' := [.ref (c + 4)]) rfl rfl ?_
  refine go_b (pc' := 20) (st' := [.long (Int64.ofInt ((-9223372036854775808))), .ref (c + 4)]) (h' := hp) rfl rfl rfl ?_
  refine go_a (pc' := 21) (ls' := [some (.ref (c + 4)), some (.int (iI a)), some (.int (iI b)), some (.int (iI (1 + m)))]) (st' := [.int (iI a), .long (Int64.ofInt ((-9223372036854775808))), .ref (c + 4)]) rfl rfl ?_
  refine mi_i2l rfl (by omega) (by omega) ?_
  refine go_a (pc' := 24) (ls' := [some (.ref (c + 4)), some (.int (iI a)), some (.int (iI b)), some (.int (iI (1 + m)))]) (st' := [.int (iI 31), .long (Int64.ofInt a), .long (Int64.ofInt ((-9223372036854775808))), .ref (c + 4)]) rfl rfl ?_
  refine go_a (pc' := 25) (ls' := [some (.ref (c + 4)), some (.int (iI a)), some (.int (iI b)), some (.int (iI (1 + m)))]) (st' := [.long (Int64.ofInt (a * 2147483648)), .long (Int64.ofInt ((-9223372036854775808))), .ref (c + 4)]) rfl (by rw [← shl31 a0 (by omega)]; rfl) ?_
  refine go_a (pc' := 26) (ls' := [some (.ref (c + 4)), some (.int (iI a)), some (.int (iI b)), some (.int (iI (1 + m)))]) (st' := [.long (Int64.ofInt (-9223372036854775808) ||| Int64.ofInt (a * 2147483648)), .ref (c + 4)]) rfl rfl ?_
  refine go_a (pc' := 27) (ls' := [some (.ref (c + 4)), some (.int (iI a)), some (.int (iI b)), some (.int (iI (1 + m)))]) (st' := [.int (iI b), .long (Int64.ofInt (-9223372036854775808) ||| Int64.ofInt (a * 2147483648)), .ref (c + 4)]) rfl rfl ?_
  refine mi_i2l rfl (by omega) (by omega) ?_
  refine go_a (pc' := 29) (ls' := [some (.ref (c + 4)), some (.int (iI a)), some (.int (iI b)), some (.int (iI (1 + m)))]) (st' := [.long (Int64.ofInt (kpair a b)), .ref (c + 4)]) rfl (by rw [← key_pair a0 (by omega) b0 (by omega)]; rfl) ?_
  refine go_a (pc' := 30) (ls' := [some (.ref (c + 4)), some (.int (iI a)), some (.int (iI b)), some (.int (iI (1 + m)))]) (st' := [.int (iI (1 + m)), .long (Int64.ofInt (kpair a b)), .ref (c + 4)]) rfl rfl ?_
  have sp := sd_pair a0 (by omega) b0 (show b < 2147483648 by omega)
  have kb : kpair a b < -4611686018427387904 := by
    unfold kpair
    omega
  refine go_v (m := 14) (as := [.ref (c + 4), .long (Int64.ofInt (kpair a b)), .int (iI (1 + m))]) (r := []) rfl rfl rfl (hK.1 3 (by decide)) rfl rfl (kz_numberOf z d c (kpair a b) (1 + m) hp s hK hB hC.2 (fun _ => kb) lt sp.2.2.2 (by omega) (by omega) (by omega)) (fun v h1 hq => ?_)
  obtain ⟨k, s1, rfl, K1, B1, X1, F1, H1, N1⟩ := hq
  have G := KNW_gr hB F1 N1
  have C1 : KX s1 := ⟨CI_new hB B1 F1 N1 hC.1 (fun _ => by rw [sp.1, sp.2.1]; exact ⟨a1, b1⟩) (by omega) (by omega), H1⟩
  have L : s1 = s ∨ k = s.I 8 := N1.elim (fun q => Or.inl q.1) (fun q => Or.inr q.1)
  have D : DK s1.N k = .add (DK s.N a) (DK s.N b) := by
    have e := G.2.2
    rw [DK_p B1 C1 G.2.1.1 G.2.1.2 (by omega), e, sp.1, sp.2.1, DK_e hB hC (fun e q => (G.1.2.2.2 e q).1) a0 a1, DK_e hB hC (fun e q => (G.1.2.2.2 e q).1) b0 b1]
  show xx_go (xt_P z) (d + 2) 194 33 [some (.ref (c + 4)), some (.int (iI a)), some (.int (iI b)), some (.int (iI (1 + m)))] [.int (iI k)] h1 _
  refine go_r rfl rfl rfl rfl rfl rfl ⟨k, s1, rfl, K1, B1, C1, X1, G.1, G.2.1, G.2.2, D, fun hH => KHT_new hH hB hC N1 (fun _ _ => ?_), L⟩
  rw [D]
  show 1 + m = 1 + (if ob_h (DK s.N b) < ob_h (DK s.N a) then ob_h (DK s.N a) else ob_h (DK s.N b))
  rw [← hH a a0 a1, ← hH b b0 b1, em]
  split <;> split <;> omega
