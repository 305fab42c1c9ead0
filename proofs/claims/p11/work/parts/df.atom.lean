def TXI (s : KS) : Prop := ∀ e : Int, 0 ≤ e → e < s.I 0 → 0 ≤ s.A 0 e ∧ s.A 0 e ≤ 255
def cb : Nat → Int
  | 0 => 1
  | n + 1 => 47 * cb n
theorem cb_1 : ∀ n : Nat, 1 ≤ cb n
  | 0 => Int.le_refl _
  | n + 1 => by
    have := cb_1 n
    show 1 ≤ 47 * cb n
    omega
theorem cb_11 : ∀ n : Nat, n ≤ 11 → cb n < 4611686018427387904 := by decide
def cbn (n : Int) : Int := cb (if n < 11 then n.toNat else 11)
theorem cbn_s {n : Int} (h0 : 0 ≤ n) (h : n < 11) : cbn (n + 1) = 47 * cbn n := by
  unfold cbn
  rw [if_pos h]
  by_cases q : n + 1 < 11
  · rw [if_pos q, show (n + 1).toNat = n.toNat + 1 by omega]
    rfl
  · rw [if_neg q, show n.toNat = 10 by omega]
    rfl
theorem cbn_t {n : Int} (h : ¬ n < 11) : cbn (n + 1) = cbn n := by
  unfold cbn
  rw [if_neg h, if_neg (by omega)]
theorem cbn_b {n : Int} : 1 ≤ cbn n ∧ cbn n < 4611686018427387904 := by
  unfold cbn
  refine ⟨cb_1 _, cb_11 _ ?_⟩
  split <;> omega
theorem kd_atom_loop (z : Value) (d c : Nat) (p : Int) (hp0 : xx_H) (s0 s : KS) (hO : OC hp0) (hT : TXI s) (p0 : 0 ≤ p) (l0 : s.I 0 ≤ 8192) (Q : Option Value → xx_H → Prop) (K : ∀ (a dg gr nt cd : Int) (y9 : Option Value) (hp : xx_H), (p ≤ a ∧ a ≤ s.I 0) → (dg = 0 ∨ dg = 1) → (gr = 0 ∨ gr = 1) → (0 ≤ nt ∧ nt < 4611686018427387904) → (0 ≤ cd ∧ cd < cbn (a - p)) → KI c hp (s.wI 9 a) → KB (s.wI 9 a) → kx c hp0 s0 hp (s.wI 9 a) 0 0 → (a = p → a = s.I 0 ∨ LIX (s.A 0 p) < 0) → xx_go (xt_P z) (d + 6) 185 157 [some (.ref (c + 9)), some (.ref (c + 1)), some (.int (iI p)), some (.int (iI dg)), some (.int (iI gr)), some (.long (Int64.ofInt nt)), none, some (.long (Int64.ofInt cd)), none, y9] [] hp Q) : ∀ (f : Nat) (a dg gr nt cd : Int) (y9 : Option Value) (hp : xx_H), (s.I 0 - a).toNat ≤ f → (p ≤ a ∧ a ≤ s.I 0) → (dg = 0 ∨ dg = 1) → (gr = 0 ∨ gr = 1) → (0 ≤ nt ∧ nt < 4611686018427387904) → (0 ≤ cd ∧ cd < cbn (a - p)) → KI c hp (s.wI 9 a) → KB (s.wI 9 a) → kx c hp0 s0 hp (s.wI 9 a) 0 0 → xx_go (xt_P z) (d + 6) 185 16 [some (.ref (c + 9)), some (.ref (c + 1)), some (.int (iI p)), some (.int (iI dg)), some (.int (iI gr)), some (.long (Int64.ofInt nt)), none, some (.long (Int64.ofInt cd)), none, y9] [] hp Q := by
  intro f
  induction f with
  | zero =>
    intro a dg gr nt cd y9 hp hf ha hd hg hn hc hK hB hX
    refine go_a (pc' := 17) (ls' := [some (.ref (c + 9)), some (.ref (c + 1)), some (.int (iI p)), some (.int (iI dg)), some (.int (iI gr)), some (.long (Int64.ofInt nt)), none, some (.long (Int64.ofInt cd)), none, y9]) (st' := [.ref (c + 9)]) rfl rfl ?_
    refine go_get (v := .int (iI a)) rfl (hK.1 5 (by decide)) rfl rfl ?_
    refine go_a (pc' := 21) (ls' := [some (.ref (c + 9)), some (.ref (c + 1)), some (.int (iI p)), some (.int (iI dg)), some (.int (iI gr)), some (.long (Int64.ofInt nt)), none, some (.long (Int64.ofInt cd)), none, y9]) (st' := [.ref (c + 1), .int (iI a)]) rfl rfl ?_
    refine go_v (m := 34) (as := [.ref (c + 1)]) (r := [.int (iI a)]) rfl rfl rfl (hK.1 1 (by decide)) rfl rfl (kr_length_0 z (d + 5) c hp (s.wI 9 a) hK) (fun v h1 hq => ?_)
    obtain ⟨rfl, e⟩ := hq
    rw [e]
    clear e h1
    show xx_go (xt_P z) (d + 6) 185 24 [some (.ref (c + 9)), some (.ref (c + 1)), some (.int (iI p)), some (.int (iI dg)), some (.int (iI gr)), some (.long (Int64.ofInt nt)), none, some (.long (Int64.ofInt cd)), none, y9] [.int (iI (s.I 0)), .int (iI a)] hp _
    refine mi_ge (t := 157) rfl rfl (by omega) (by omega) (by omega) (by omega) (fun _ => (K a dg gr nt cd y9 hp ha hd hg hn hc hK hB hX (fun q => Or.inl (by omega)))) (fun q => absurd (show a ≥ s.I 0 by omega) q)
  | succ f ih =>
    intro a dg gr nt cd y9 hp hf ha hd hg hn hc hK hB hX
    refine go_a (pc' := 17) (ls' := [some (.ref (c + 9)), some (.ref (c + 1)), some (.int (iI p)), some (.int (iI dg)), some (.int (iI gr)), some (.long (Int64.ofInt nt)), none, some (.long (Int64.ofInt cd)), none, y9]) (st' := [.ref (c + 9)]) rfl rfl ?_
    refine go_get (v := .int (iI a)) rfl (hK.1 5 (by decide)) rfl rfl ?_
    refine go_a (pc' := 21) (ls' := [some (.ref (c + 9)), some (.ref (c + 1)), some (.int (iI p)), some (.int (iI dg)), some (.int (iI gr)), some (.long (Int64.ofInt nt)), none, some (.long (Int64.ofInt cd)), none, y9]) (st' := [.ref (c + 1), .int (iI a)]) rfl rfl ?_
    refine go_v (m := 34) (as := [.ref (c + 1)]) (r := [.int (iI a)]) rfl rfl rfl (hK.1 1 (by decide)) rfl rfl (kr_length_0 z (d + 5) c hp (s.wI 9 a) hK) (fun v h1 hq => ?_)
    obtain ⟨rfl, e⟩ := hq
    rw [e]
    clear e h1
    show xx_go (xt_P z) (d + 6) 185 24 [some (.ref (c + 9)), some (.ref (c + 1)), some (.int (iI p)), some (.int (iI dg)), some (.int (iI gr)), some (.long (Int64.ofInt nt)), none, some (.long (Int64.ofInt cd)), none, y9] [.int (iI (s.I 0)), .int (iI a)] hp _
    refine mi_ge (t := 157) rfl rfl (by omega) (by omega) (by omega) (by omega) (fun q => (K a dg gr nt cd y9 hp ha hd hg hn hc hK hB hX (fun _ => Or.inl (by omega)))) (fun q1 => ?_)
    have tb := hT a (by omega) (by omega)
    have lr := LIX_R (s.A 0 a)
    have hO1 : OC hp := OC_kx hO hX
    refine go_b (pc' := 29) (st' := [.ref 7]) (h' := hp) rfl rfl rfl ?_
    refine go_a (pc' := 30) (ls' := [some (.ref (c + 9)), some (.ref (c + 1)), some (.int (iI p)), some (.int (iI dg)), some (.int (iI gr)), some (.long (Int64.ofInt nt)), none, some (.long (Int64.ofInt cd)), none, y9]) (st' := [.ref (c + 1), .ref 7]) rfl rfl ?_
    refine go_a (pc' := 31) (ls' := [some (.ref (c + 9)), some (.ref (c + 1)), some (.int (iI p)), some (.int (iI dg)), some (.int (iI gr)), some (.long (Int64.ofInt nt)), none, some (.long (Int64.ofInt cd)), none, y9]) (st' := [.ref (c + 9), .ref (c + 1), .ref 7]) rfl rfl ?_
    refine go_get (v := .int (iI a)) rfl (hK.1 5 (by decide)) rfl rfl ?_
    refine go_v (m := 43) (as := [.ref (c + 1), .int (iI a)]) (r := [.ref 7]) rfl rfl rfl (hK.1 1 (by decide)) rfl rfl (kr_at_0 z (d + 5) c a hp (s.wI 9 a) hK hB (by omega) (by omega)) (fun v h1 hq => ?_)
    obtain ⟨hq, e⟩ := hq
    rw [e]
    clear e h1
    have hq : v = some (.int (iI (s.A 0 a))) := hq.elim (fun q => q.2.2) (fun q => absurd ⟨show 0 ≤ a by omega, show a < s.I 0 by omega⟩ q.1)
    subst hq
    show xx_go (xt_P z) (d + 6) 185 37 [some (.ref (c + 9)), some (.ref (c + 1)), some (.int (iI p)), some (.int (iI dg)), some (.int (iI gr)), some (.long (Int64.ofInt nt)), none, some (.long (Int64.ofInt cd)), none, y9] [.int (iI (s.A 0 a)), .ref 7] hp _
    refine go_a (pc' := 38) (ls' := [some (.ref (c + 9)), some (.ref (c + 1)), some (.int (iI p)), some (.int (iI dg)), some (.int (iI gr)), some (.long (Int64.ofInt nt)), none, some (.long (Int64.ofInt cd)), none, y9]) (st' := [.int (iI (s.A 0 a)), .ref 7]) rfl (by show some (_, _, Value.int ((iI (s.A 0 a)).toUInt32 % 65536).toInt32 :: _) = _; rw [i2c_id tb.1 (by omega)]) ?_
    refine go_v (m := 17) (as := [.ref 7, .int (iI (s.A 0 a))]) (r := []) rfl rfl rfl hO1.1 rfl rfl (kt_indexOf z (d + 2) (s.A 0 a) hp hO1 tb.1 tb.2) (fun v h1 hq => ?_)
    obtain ⟨rfl, e⟩ := hq
    rw [e]
    clear e h1
    show xx_go (xt_P z) (d + 6) 185 41 [some (.ref (c + 9)), some (.ref (c + 1)), some (.int (iI p)), some (.int (iI dg)), some (.int (iI gr)), some (.long (Int64.ofInt nt)), none, some (.long (Int64.ofInt cd)), none, y9] [.int (iI (LIX (s.A 0 a)))] hp _
    refine mi_lt0 (t := 157) rfl rfl (by omega) (by omega) (fun q => (K a dg gr nt cd y9 hp ha hd hg hn hc hK hB hX (fun w => Or.inr (by rw [← w]; exact q)))) (fun q2 => ?_)
    refine go_a (pc' := 45) (ls' := [some (.ref (c + 9)), some (.ref (c + 1)), some (.int (iI p)), some (.int (iI dg)), some (.int (iI gr)), some (.long (Int64.ofInt nt)), none, some (.long (Int64.ofInt cd)), none, y9]) (st' := [.ref (c + 1)]) rfl rfl ?_
    refine go_a (pc' := 46) (ls' := [some (.ref (c + 9)), some (.ref (c + 1)), some (.int (iI p)), some (.int (iI dg)), some (.int (iI gr)), some (.long (Int64.ofInt nt)), none, some (.long (Int64.ofInt cd)), none, y9]) (st' := [.ref (c + 9), .ref (c + 1)]) rfl rfl ?_
    refine go_get (v := .int (iI a)) rfl (hK.1 5 (by decide)) rfl rfl ?_
    refine go_v (m := 43) (as := [.ref (c + 1), .int (iI a)]) (r := []) rfl rfl rfl (hK.1 1 (by decide)) rfl rfl (kr_at_0 z (d + 5) c a hp (s.wI 9 a) hK hB (by omega) (by omega)) (fun v h1 hq => ?_)
    obtain ⟨hq, e⟩ := hq
    rw [e]
    clear e h1
    have hq : v = some (.int (iI (s.A 0 a))) := hq.elim (fun q => q.2.2) (fun q => absurd ⟨show 0 ≤ a by omega, show a < s.I 0 by omega⟩ q.1)
    subst hq
    show xx_go (xt_P z) (d + 6) 185 52 [some (.ref (c + 9)), some (.ref (c + 1)), some (.int (iI p)), some (.int (iI dg)), some (.int (iI gr)), some (.long (Int64.ofInt nt)), none, some (.long (Int64.ofInt cd)), none, y9] [.int (iI (s.A 0 a))] hp _
    refine go_a (pc' := 54) (ls' := [some (.ref (c + 9)), some (.ref (c + 1)), some (.int (iI p)), some (.int (iI dg)), some (.int (iI gr)), some (.long (Int64.ofInt nt)), none, some (.long (Int64.ofInt cd)), none, y9]) (st' := [.int (iI 48), .int (iI (s.A 0 a))]) rfl rfl ?_
    refine mi_sub rfl ?_
    refine go_a (pc' := 57) (ls' := [some (.ref (c + 9)), some (.ref (c + 1)), some (.int (iI p)), some (.int (iI dg)), some (.int (iI gr)), some (.long (Int64.ofInt nt)), none, some (.long (Int64.ofInt cd)), none, some (.int (iI ((s.A 0 a) - 48)))]) (st' := []) rfl rfl ?_
    have hc0 := hc
    have j144 : ∀ (dg gr nt cd : Int), (dg = 0 ∨ dg = 1) → (gr = 0 ∨ gr = 1) → (0 ≤ nt ∧ nt < 4611686018427387904) → (0 ≤ cd ∧ cd < cbn (a + 1 - p)) → xx_go (xt_P z) (d + 6) 185 144 [some (.ref (c + 9)), some (.ref (c + 1)), some (.int (iI p)), some (.int (iI dg)), some (.int (iI gr)), some (.long (Int64.ofInt nt)), none, some (.long (Int64.ofInt cd)), none, some (.int (iI (s.A 0 a - 48)))] [] hp Q := by
      intro dg gr nt cd hd hg hn hc
      refine go_a (pc' := 145) (ls' := [some (.ref (c + 9)), some (.ref (c + 1)), some (.int (iI p)), some (.int (iI dg)), some (.int (iI gr)), some (.long (Int64.ofInt nt)), none, some (.long (Int64.ofInt cd)), none, some (.int (iI (s.A 0 a - 48)))]) (st' := [.ref (c + 9)]) rfl rfl ?_
      refine go_a (pc' := 146) (ls' := [some (.ref (c + 9)), some (.ref (c + 1)), some (.int (iI p)), some (.int (iI dg)), some (.int (iI gr)), some (.long (Int64.ofInt nt)), none, some (.long (Int64.ofInt cd)), none, some (.int (iI (s.A 0 a - 48)))]) (st' := [.ref (c + 9), .ref (c + 9)]) rfl rfl ?_
      refine go_get (v := .int (iI a)) rfl (hK.1 5 (by decide)) rfl rfl ?_
      refine go_a (pc' := 150) (ls' := [some (.ref (c + 9)), some (.ref (c + 1)), some (.int (iI p)), some (.int (iI dg)), some (.int (iI gr)), some (.long (Int64.ofInt nt)), none, some (.long (Int64.ofInt cd)), none, some (.int (iI (s.A 0 a - 48)))]) (st' := [.int (iI 1), .int (iI a), .ref (c + 9)]) rfl rfl ?_
      refine mi_add rfl ?_
      refine kput_9 (x := a + 1) hK hX rfl rfl (fun hp hK hX => ?_)
      refine go_a (pc' := 16) (ls' := [some (.ref (c + 9)), some (.ref (c + 1)), some (.int (iI p)), some (.int (iI dg)), some (.int (iI gr)), some (.long (Int64.ofInt nt)), none, some (.long (Int64.ofInt cd)), none, some (.int (iI (s.A 0 a - 48)))]) (st' := []) rfl rfl ?_
      rw [wI_wI] at hK hX
      exact ih (a + 1) dg gr nt cd _ hp (by omega) (by omega) hd hg hn hc hK (by have := KB_wF (j := 9) (x := a + 1) hB (by omega) (by omega) (by decide); rw [wI_wI] at this; exact this) hX
    have j118 : ∀ (dg gr nt : Int), (dg = 0 ∨ dg = 1) → (gr = 0 ∨ gr = 1) → (0 ≤ nt ∧ nt < 4611686018427387904) → xx_go (xt_P z) (d + 6) 185 118 [some (.ref (c + 9)), some (.ref (c + 1)), some (.int (iI p)), some (.int (iI dg)), some (.int (iI gr)), some (.long (Int64.ofInt nt)), none, some (.long (Int64.ofInt cd)), none, some (.int (iI (s.A 0 a - 48)))] [] hp Q := by
      intro dg gr nt hd hg hn
      refine go_a (pc' := 119) (ls' := [some (.ref (c + 9)), some (.ref (c + 1)), some (.int (iI p)), some (.int (iI dg)), some (.int (iI gr)), some (.long (Int64.ofInt nt)), none, some (.long (Int64.ofInt cd)), none, some (.int (iI (s.A 0 a - 48)))]) (st' := [.ref (c + 9)]) rfl rfl ?_
      refine go_get (v := .int (iI a)) rfl (hK.1 5 (by decide)) rfl rfl ?_
      refine go_a (pc' := 123) (ls' := [some (.ref (c + 9)), some (.ref (c + 1)), some (.int (iI p)), some (.int (iI dg)), some (.int (iI gr)), some (.long (Int64.ofInt nt)), none, some (.long (Int64.ofInt cd)), none, some (.int (iI (s.A 0 a - 48)))]) (st' := [.int (iI p), .int (iI a)]) rfl rfl ?_
      refine mi_sub rfl ?_
      refine go_a (pc' := 126) (ls' := [some (.ref (c + 9)), some (.ref (c + 1)), some (.int (iI p)), some (.int (iI dg)), some (.int (iI gr)), some (.long (Int64.ofInt nt)), none, some (.long (Int64.ofInt cd)), none, some (.int (iI (s.A 0 a - 48)))]) (st' := [.int (iI 11), .int (iI (a - p))]) rfl rfl ?_
      refine mi_ge (t := 144) rfl rfl (by omega) (by omega) (by omega) (by omega) (fun q => ?_) (fun q => ?_)
      · refine j144 dg gr nt cd hd hg hn ?_
        rw [show a + 1 - p = (a - p) + 1 by omega, cbn_t (by omega)]
        exact hc0
      · refine go_a (pc' := 131) (ls' := [some (.ref (c + 9)), some (.ref (c + 1)), some (.int (iI p)), some (.int (iI dg)), some (.int (iI gr)), some (.long (Int64.ofInt nt)), none, some (.long (Int64.ofInt cd)), none, some (.int (iI (s.A 0 a - 48)))]) (st' := [.long (Int64.ofInt cd)]) rfl rfl ?_
        refine go_a (pc' := 132) (ls' := [some (.ref (c + 9)), some (.ref (c + 1)), some (.int (iI p)), some (.int (iI dg)), some (.int (iI gr)), some (.long (Int64.ofInt nt)), none, some (.long (Int64.ofInt cd)), none, some (.int (iI (s.A 0 a - 48)))]) (st' := [.ref (c + 1), .long (Int64.ofInt cd)]) rfl rfl ?_
        refine go_a (pc' := 133) (ls' := [some (.ref (c + 9)), some (.ref (c + 1)), some (.int (iI p)), some (.int (iI dg)), some (.int (iI gr)), some (.long (Int64.ofInt nt)), none, some (.long (Int64.ofInt cd)), none, some (.int (iI (s.A 0 a - 48)))]) (st' := [.ref (c + 9), .ref (c + 1), .long (Int64.ofInt cd)]) rfl rfl ?_
        refine go_get (v := .int (iI a)) rfl (hK.1 5 (by decide)) rfl rfl ?_
        refine go_v (m := 43) (as := [.ref (c + 1), .int (iI a)]) (r := [.long (Int64.ofInt cd)]) rfl rfl rfl (hK.1 1 (by decide)) rfl rfl (kr_at_0 z (d + 5) c a hp (s.wI 9 a) hK hB (by omega) (by omega)) (fun v h1 hq => ?_)
        obtain ⟨hq, e⟩ := hq
        rw [e]
        clear e h1
        have hq : v = some (.int (iI (s.A 0 a))) := hq.elim (fun q => q.2.2) (fun q => absurd ⟨show 0 ≤ a by omega, show a < s.I 0 by omega⟩ q.1)
        subst hq
        show xx_go (xt_P z) (d + 6) 185 139 [some (.ref (c + 9)), some (.ref (c + 1)), some (.int (iI p)), some (.int (iI dg)), some (.int (iI gr)), some (.long (Int64.ofInt nt)), none, some (.long (Int64.ofInt cd)), none, some (.int (iI (s.A 0 a - 48)))] [.int (iI (s.A 0 a)), .long (Int64.ofInt cd)] hp _
        refine go_s (m := 16) (as := [.long (Int64.ofInt cd), .int (iI (s.A 0 a))]) (r := []) rfl rfl rfl rfl (kt_longer z (d + 1) cd (s.A 0 a) hp hO1 tb.1 tb.2) (fun v h1 hq => ?_)
        obtain ⟨rfl, e⟩ := hq
        rw [e]
        clear e h1
        show xx_go (xt_P z) (d + 6) 185 142 [some (.ref (c + 9)), some (.ref (c + 1)), some (.int (iI p)), some (.int (iI dg)), some (.int (iI gr)), some (.long (Int64.ofInt nt)), none, some (.long (Int64.ofInt cd)), none, some (.int (iI (s.A 0 a - 48)))] [.long (Int64.ofInt (cd * 47 + LIX (s.A 0 a) + 1))] hp _
        refine go_a (pc' := 144) (ls' := [some (.ref (c + 9)), some (.ref (c + 1)), some (.int (iI p)), some (.int (iI dg)), some (.int (iI gr)), some (.long (Int64.ofInt nt)), none, some (.long (Int64.ofInt (cd * 47 + LIX (s.A 0 a) + 1))), none, some (.int (iI (s.A 0 a - 48)))]) (st' := []) rfl rfl ?_
        refine j144 dg gr nt _ hd hg hn ?_
        rw [show a + 1 - p = (a - p) + 1 by omega, cbn_s (by omega) (by omega)]
        omega
    have j79 : ∀ dg : Int, (dg = 0 ∨ (dg = 1 ∧ 0 ≤ s.A 0 a - 48 ∧ s.A 0 a - 48 ≤ 9)) → xx_go (xt_P z) (d + 6) 185 79 [some (.ref (c + 9)), some (.ref (c + 1)), some (.int (iI p)), some (.int (iI dg)), some (.int (iI gr)), some (.long (Int64.ofInt nt)), none, some (.long (Int64.ofInt cd)), none, some (.int (iI (s.A 0 a - 48)))] [] hp Q := by
      intro dg hdd
      have gt : xx_go (xt_P z) (d + 6) 185 115 [some (.ref (c + 9)), some (.ref (c + 1)), some (.int (iI p)), some (.int (iI dg)), some (.int (iI gr)), some (.long (Int64.ofInt nt)), none, some (.long (Int64.ofInt cd)), none, some (.int (iI (s.A 0 a - 48)))] [] hp Q := by
        refine go_a (pc' := 116) (ls' := [some (.ref (c + 9)), some (.ref (c + 1)), some (.int (iI p)), some (.int (iI dg)), some (.int (iI gr)), some (.long (Int64.ofInt nt)), none, some (.long (Int64.ofInt cd)), none, some (.int (iI (s.A 0 a - 48)))]) (st' := [.int (iI 1)]) rfl rfl ?_
        refine go_a (pc' := 118) (ls' := [some (.ref (c + 9)), some (.ref (c + 1)), some (.int (iI p)), some (.int (iI dg)), some (.int (iI 1)), some (.long (Int64.ofInt nt)), none, some (.long (Int64.ofInt cd)), none, some (.int (iI (s.A 0 a - 48)))]) (st' := []) rfl rfl ?_
        exact j118 dg 1 nt (by omega) (Or.inr rfl) hn
      refine go_a (pc' := 80) (ls' := [some (.ref (c + 9)), some (.ref (c + 1)), some (.int (iI p)), some (.int (iI dg)), some (.int (iI gr)), some (.long (Int64.ofInt nt)), none, some (.long (Int64.ofInt cd)), none, some (.int (iI (s.A 0 a - 48)))]) (st' := [.int (iI dg)]) rfl rfl ?_
      refine mi_eq0 (t := 115) rfl rfl (by omega) (by omega) (fun _ => gt) (fun q3 => ?_)
      refine go_a (pc' := 85) (ls' := [some (.ref (c + 9)), some (.ref (c + 1)), some (.int (iI p)), some (.int (iI dg)), some (.int (iI gr)), some (.long (Int64.ofInt nt)), none, some (.long (Int64.ofInt cd)), none, some (.int (iI (s.A 0 a - 48)))]) (st' := [.long (Int64.ofInt nt)]) rfl rfl ?_
      refine go_b (pc' := 88) (st' := [.long (Int64.ofInt 4611686018427387903), .long (Int64.ofInt nt)]) (h' := hp) rfl rfl rfl ?_
      refine go_a (pc' := 90) (ls' := [some (.ref (c + 9)), some (.ref (c + 1)), some (.int (iI p)), some (.int (iI dg)), some (.int (iI gr)), some (.long (Int64.ofInt nt)), none, some (.long (Int64.ofInt cd)), none, some (.int (iI (s.A 0 a - 48)))]) (st' := [.int (iI (s.A 0 a - 48)), .long (Int64.ofInt 4611686018427387903), .long (Int64.ofInt nt)]) rfl rfl ?_
      refine mi_i2l rfl (by omega) (by omega) ?_
      refine mi_lsub rfl ?_
      refine go_b (pc' := 95) (st' := [.long (Int64.ofInt 10), .long (Int64.ofInt (4611686018427387903 - (s.A 0 a - 48))), .long (Int64.ofInt nt)]) (h' := hp) rfl rfl rfl ?_
      refine mi_ldiv rfl (by omega) (by omega) (by omega) (by omega) ?_
      refine mi_lc_gt (t := 115) rfl rfl rfl (by omega) (by omega) (by omega) (by omega) (fun _ => gt) (fun q4 => ?_)
      refine go_a (pc' := 102) (ls' := [some (.ref (c + 9)), some (.ref (c + 1)), some (.int (iI p)), some (.int (iI dg)), some (.int (iI gr)), some (.long (Int64.ofInt nt)), none, some (.long (Int64.ofInt cd)), none, some (.int (iI (s.A 0 a - 48)))]) (st' := [.long (Int64.ofInt nt)]) rfl rfl ?_
      refine go_b (pc' := 105) (st' := [.long (Int64.ofInt 10), .long (Int64.ofInt nt)]) (h' := hp) rfl rfl rfl ?_
      refine mi_lmul rfl ?_
      refine go_a (pc' := 108) (ls' := [some (.ref (c + 9)), some (.ref (c + 1)), some (.int (iI p)), some (.int (iI dg)), some (.int (iI gr)), some (.long (Int64.ofInt nt)), none, some (.long (Int64.ofInt cd)), none, some (.int (iI (s.A 0 a - 48)))]) (st' := [.int (iI (s.A 0 a - 48)), .long (Int64.ofInt (nt * 10))]) rfl rfl ?_
      refine mi_i2l rfl (by omega) (by omega) ?_
      refine mi_ladd rfl ?_
      refine go_a (pc' := 112) (ls' := [some (.ref (c + 9)), some (.ref (c + 1)), some (.int (iI p)), some (.int (iI dg)), some (.int (iI gr)), some (.long (Int64.ofInt ((nt * 10) + (s.A 0 a - 48)))), none, some (.long (Int64.ofInt cd)), none, some (.int (iI (s.A 0 a - 48)))]) (st' := []) rfl rfl ?_
      refine go_a (pc' := 118) (ls' := [some (.ref (c + 9)), some (.ref (c + 1)), some (.int (iI p)), some (.int (iI dg)), some (.int (iI gr)), some (.long (Int64.ofInt ((nt * 10) + (s.A 0 a - 48)))), none, some (.long (Int64.ofInt cd)), none, some (.int (iI (s.A 0 a - 48)))]) (st' := []) rfl rfl ?_
      exact j118 dg gr _ (by omega) hg (by omega)
    have no : xx_go (xt_P z) (d + 6) 185 77 [some (.ref (c + 9)), some (.ref (c + 1)), some (.int (iI p)), some (.int (iI dg)), some (.int (iI gr)), some (.long (Int64.ofInt nt)), none, some (.long (Int64.ofInt cd)), none, some (.int (iI ((s.A 0 a) - 48)))] [] hp Q := by
      refine go_a (pc' := 78) (ls' := [some (.ref (c + 9)), some (.ref (c + 1)), some (.int (iI p)), some (.int (iI dg)), some (.int (iI gr)), some (.long (Int64.ofInt nt)), none, some (.long (Int64.ofInt cd)), none, some (.int (iI ((s.A 0 a) - 48)))]) (st' := [.int (iI 0)]) rfl rfl ?_
      refine go_a (pc' := 79) (ls' := [some (.ref (c + 9)), some (.ref (c + 1)), some (.int (iI p)), some (.int (iI 0)), some (.int (iI gr)), some (.long (Int64.ofInt nt)), none, some (.long (Int64.ofInt cd)), none, some (.int (iI ((s.A 0 a) - 48)))]) (st' := []) rfl rfl ?_
      exact j79 0 (Or.inl rfl)
    refine go_a (pc' := 58) (ls' := [some (.ref (c + 9)), some (.ref (c + 1)), some (.int (iI p)), some (.int (iI dg)), some (.int (iI gr)), some (.long (Int64.ofInt nt)), none, some (.long (Int64.ofInt cd)), none, some (.int (iI ((s.A 0 a) - 48)))]) (st' := [.int (iI dg)]) rfl rfl ?_
    refine mi_eq0 (t := 77) rfl rfl (by omega) (by omega) (fun _ => no) (fun q3 => ?_)
    refine go_a (pc' := 63) (ls' := [some (.ref (c + 9)), some (.ref (c + 1)), some (.int (iI p)), some (.int (iI dg)), some (.int (iI gr)), some (.long (Int64.ofInt nt)), none, some (.long (Int64.ofInt cd)), none, some (.int (iI ((s.A 0 a) - 48)))]) (st' := [.int (iI ((s.A 0 a) - 48))]) rfl rfl ?_
    refine mi_lt0 (t := 77) rfl rfl (by omega) (by omega) (fun _ => no) (fun q4 => ?_)
    refine go_a (pc' := 68) (ls' := [some (.ref (c + 9)), some (.ref (c + 1)), some (.int (iI p)), some (.int (iI dg)), some (.int (iI gr)), some (.long (Int64.ofInt nt)), none, some (.long (Int64.ofInt cd)), none, some (.int (iI ((s.A 0 a) - 48)))]) (st' := [.int (iI ((s.A 0 a) - 48))]) rfl rfl ?_
    refine go_a (pc' := 70) (ls' := [some (.ref (c + 9)), some (.ref (c + 1)), some (.int (iI p)), some (.int (iI dg)), some (.int (iI gr)), some (.long (Int64.ofInt nt)), none, some (.long (Int64.ofInt cd)), none, some (.int (iI ((s.A 0 a) - 48)))]) (st' := [.int (iI 9), .int (iI ((s.A 0 a) - 48))]) rfl rfl ?_
    refine mi_gt (t := 77) rfl rfl (by omega) (by omega) (by omega) (by omega) (fun _ => no) (fun q5 => ?_)
    refine go_a (pc' := 74) (ls' := [some (.ref (c + 9)), some (.ref (c + 1)), some (.int (iI p)), some (.int (iI dg)), some (.int (iI gr)), some (.long (Int64.ofInt nt)), none, some (.long (Int64.ofInt cd)), none, some (.int (iI ((s.A 0 a) - 48)))]) (st' := [.int (iI 1)]) rfl rfl ?_
    refine go_a (pc' := 78) (ls' := [some (.ref (c + 9)), some (.ref (c + 1)), some (.int (iI p)), some (.int (iI dg)), some (.int (iI gr)), some (.long (Int64.ofInt nt)), none, some (.long (Int64.ofInt cd)), none, some (.int (iI ((s.A 0 a) - 48)))]) (st' := [.int (iI 1)]) rfl rfl ?_
    refine go_a (pc' := 79) (ls' := [some (.ref (c + 9)), some (.ref (c + 1)), some (.int (iI p)), some (.int (iI 1)), some (.int (iI gr)), some (.long (Int64.ofInt nt)), none, some (.long (Int64.ofInt cd)), none, some (.int (iI ((s.A 0 a) - 48)))]) (st' := []) rfl rfl ?_
    exact j79 1 (Or.inr ⟨rfl, by omega, by omega⟩)
theorem kd_takeAtom (z : Value) (d c : Nat) (hp : xx_H) (s : KS) (hK : KI c hp s) (hB : KB s) (hC : CI s) (lt : s.I 8 < 32768) (hO : OC hp) (hT : TXI s) (p0 : 0 ≤ s.I 9) (p1 : s.I 9 < s.I 0) (lp : 0 ≤ LIX (s.A 0 (s.I 9))) : xx_cl (xt_P z) (d + 7) 185 [.ref (c + 9), .ref (c + 1)] hp (fun v h1 => ∃ (w a x : Int) (s1 : KS), v = some (.int (iI w)) ∧ KI c h1 (s1.wI 11 x) ∧ KB (s1.wI 11 x) ∧ CI s1 ∧ kx c hp s h1 (s1.wI 11 x) 0 0 ∧ KGR (s.wI 9 a) s1 1 ∧ (s.I 9 < a ∧ a ≤ s.I 0) ∧ (w = 2 ∨ (w = 3 ∧ OB s1 x ∧ ¬ s1.N x < 0))) := by
  have b := hB.2.2.2.1 0 (by decide)
  have b8 := hB.2.2.2.2.2.1
  refine cl_go rfl ?_
  show xx_go (xt_P z) (d + 6) 185 0 [some (.ref (c + 9)), some (.ref (c + 1)), none, none, none, none, none, none, none, none] [] hp _
  refine go_a (pc' := 1) (ls' := [some (.ref (c + 9)), some (.ref (c + 1)), none, none, none, none, none, none, none, none]) (st' := [.ref (c + 9)]) rfl rfl ?_
  refine go_get (v := .int (iI (s.I 9))) rfl (hK.1 5 (by decide)) rfl rfl ?_
  refine go_a (pc' := 5) (ls' := [some (.ref (c + 9)), some (.ref (c + 1)), some (.int (iI (s.I 9))), none, none, none, none, none, none, none]) (st' := []) rfl rfl ?_
  refine go_a (pc' := 6) (ls' := [some (.ref (c + 9)), some (.ref (c + 1)), some (.int (iI (s.I 9))), none, none, none, none, none, none, none]) (st' := [.int (iI 1)]) rfl rfl ?_
  refine go_a (pc' := 7) (ls' := [some (.ref (c + 9)), some (.ref (c + 1)), some (.int (iI (s.I 9))), some (.int (iI 1)), none, none, none, none, none, none]) (st' := []) rfl rfl ?_
  refine go_a (pc' := 8) (ls' := [some (.ref (c + 9)), some (.ref (c + 1)), some (.int (iI (s.I 9))), some (.int (iI 1)), none, none, none, none, none, none]) (st' := [.int (iI 0)]) rfl rfl ?_
  refine go_a (pc' := 10) (ls' := [some (.ref (c + 9)), some (.ref (c + 1)), some (.int (iI (s.I 9))), some (.int (iI 1)), some (.int (iI 0)), none, none, none, none, none]) (st' := []) rfl rfl ?_
  refine go_a (pc' := 11) (ls' := [some (.ref (c + 9)), some (.ref (c + 1)), some (.int (iI (s.I 9))), some (.int (iI 1)), some (.int (iI 0)), none, none, none, none, none]) (st' := [.long (Int64.ofInt 0)]) rfl rfl ?_
  refine go_a (pc' := 13) (ls' := [some (.ref (c + 9)), some (.ref (c + 1)), some (.int (iI (s.I 9))), some (.int (iI 1)), some (.int (iI 0)), some (.long (Int64.ofInt 0)), none, none, none, none]) (st' := []) rfl rfl ?_
  refine go_a (pc' := 14) (ls' := [some (.ref (c + 9)), some (.ref (c + 1)), some (.int (iI (s.I 9))), some (.int (iI 1)), some (.int (iI 0)), some (.long (Int64.ofInt 0)), none, none, none, none]) (st' := [.long (Int64.ofInt 0)]) rfl rfl ?_
  refine go_a (pc' := 16) (ls' := [some (.ref (c + 9)), some (.ref (c + 1)), some (.int (iI (s.I 9))), some (.int (iI 1)), some (.int (iI 0)), some (.long (Int64.ofInt 0)), none, some (.long (Int64.ofInt 0)), none, none]) (st' := []) rfl rfl ?_
  have e : s.wI 9 (s.I 9) = s := wI_eta rfl
  refine kd_atom_loop z d c (s.I 9) hp s s hO hT p0 (by omega) _ (fun a dg gr nt cd y9 hp1 ha hd hg hn hc hK hB hX hst => ?_) _ (s.I 9) 1 0 0 0 none hp (Nat.le_refl _) (by omega) (Or.inr rfl) (Or.inl rfl) (by decide) (by rw [show s.I 9 - s.I 9 = 0 by omega]; decide) (by rw [e]; exact hK) (by rw [e]; exact hB) (by rw [e]; exact kx_rf)
  have ap : s.I 9 < a := by
    by_cases q : a = s.I 9
    · have := hst q
      omega
    · omega
  have C1 : CI (s.wI 9 a) := KSA_CI ⟨rfl, rfl, rfl⟩ hC
  have cbb := cbn_b (n := a - s.I 9)
  have long : xx_go (xt_P z) (d + 6) 185 180 [some (.ref (c + 9)), some (.ref (c + 1)), some (.int (iI (s.I 9))), some (.int (iI dg)), some (.int (iI gr)), some (.long (Int64.ofInt nt)), none, some (.long (Int64.ofInt cd)), none, y9] [] hp1 (fun v h1 => ∃ (w a x : Int) (s1 : KS), v = some (.int (iI w)) ∧ KI c h1 (s1.wI 11 x) ∧ KB (s1.wI 11 x) ∧ CI s1 ∧ kx c hp s h1 (s1.wI 11 x) 0 0 ∧ KGR (s.wI 9 a) s1 1 ∧ (s.I 9 < a ∧ a ≤ s.I 0) ∧ (w = 2 ∨ (w = 3 ∧ OB s1 x ∧ ¬ s1.N x < 0))) := by
    refine go_a (pc' := 181) (ls' := [some (.ref (c + 9)), some (.ref (c + 1)), some (.int (iI (s.I 9))), some (.int (iI dg)), some (.int (iI gr)), some (.long (Int64.ofInt nt)), none, some (.long (Int64.ofInt cd)), none, y9]) (st' := [.int (iI 2)]) rfl rfl ?_
    exact go_r rfl rfl rfl rfl rfl rfl ⟨2, a, (s.wI 9 a).I 11, s.wI 9 a, rfl, by rw [wI_eta rfl]; exact hK, by rw [wI_eta rfl]; exact hB, C1, by rw [wI_eta rfl]; exact hX, KGR_w KGR_rf (by decide), ⟨ap, ha.2⟩, Or.inl rfl⟩
  have good : xx_go (xt_P z) (d + 6) 185 182 [some (.ref (c + 9)), some (.ref (c + 1)), some (.int (iI (s.I 9))), some (.int (iI dg)), some (.int (iI gr)), some (.long (Int64.ofInt nt)), none, some (.long (Int64.ofInt cd)), none, y9] [] hp1 (fun v h1 => ∃ (w a x : Int) (s1 : KS), v = some (.int (iI w)) ∧ KI c h1 (s1.wI 11 x) ∧ KB (s1.wI 11 x) ∧ CI s1 ∧ kx c hp s h1 (s1.wI 11 x) 0 0 ∧ KGR (s.wI 9 a) s1 1 ∧ (s.I 9 < a ∧ a ≤ s.I 0) ∧ (w = 2 ∨ (w = 3 ∧ OB s1 x ∧ ¬ s1.N x < 0))) := by
    refine go_a (pc' := 183) (ls' := [some (.ref (c + 9)), some (.ref (c + 1)), some (.int (iI (s.I 9))), some (.int (iI dg)), some (.int (iI gr)), some (.long (Int64.ofInt nt)), none, some (.long (Int64.ofInt cd)), none, y9]) (st' := [.ref (c + 9)]) rfl rfl ?_
    refine go_a (pc' := 184) (ls' := [some (.ref (c + 9)), some (.ref (c + 1)), some (.int (iI (s.I 9))), some (.int (iI dg)), some (.int (iI gr)), some (.long (Int64.ofInt nt)), none, some (.long (Int64.ofInt cd)), none, y9]) (st' := [.int (iI dg), .ref (c + 9)]) rfl rfl ?_
    refine mi_eq0 (t := 199) rfl rfl (by omega) (by omega) (fun q => ?_) (fun q => ?_)
    · refine go_a (pc' := 200) (ls' := [some (.ref (c + 9)), some (.ref (c + 1)), some (.int (iI (s.I 9))), some (.int (iI dg)), some (.int (iI gr)), some (.long (Int64.ofInt nt)), none, some (.long (Int64.ofInt cd)), none, y9]) (st' := [.ref (c + 9), .ref (c + 9)]) rfl rfl ?_
      refine go_get (v := .ref (c + 4)) rfl (hK.1 5 (by decide)) rfl rfl ?_
      refine go_a (pc' := 205) (ls' := [some (.ref (c + 9)), some (.ref (c + 1)), some (.int (iI (s.I 9))), some (.int (iI dg)), some (.int (iI gr)), some (.long (Int64.ofInt nt)), none, some (.long (Int64.ofInt cd)), none, y9]) (st' := [.long (Int64.ofInt cd), .ref (c + 4), .ref (c + 9)]) rfl rfl ?_
      refine go_v (m := 13) (as := [.ref (c + 4), .long (Int64.ofInt cd)]) (r := [.ref (c + 9)]) rfl rfl rfl (hK.1 3 (by decide)) rfl rfl (kc_symbol z (d + 3) c cd hp1 (s.wI 9 a) hK hB C1 lt (by omega) (by omega)) (fun v h1 hq => ?_)
      obtain ⟨x, s1, rfl, K1, B1, D1, X1, G1, O1, N1⟩ := hq
      have hX := kx_tr hX X1
      show xx_go (xt_P z) (d + 6) 185 208 [some (.ref (c + 9)), some (.ref (c + 1)), some (.int (iI (s.I 9))), some (.int (iI dg)), some (.int (iI gr)), some (.long (Int64.ofInt nt)), none, some (.long (Int64.ofInt cd)), none, y9] [.int (iI x), .ref (c + 9)] h1 _
      refine kput_11 (x := x) K1 hX rfl rfl (fun hp hK hX => ?_)
      refine go_a (pc' := 212) (ls' := [some (.ref (c + 9)), some (.ref (c + 1)), some (.int (iI (s.I 9))), some (.int (iI dg)), some (.int (iI gr)), some (.long (Int64.ofInt nt)), none, some (.long (Int64.ofInt cd)), none, y9]) (st' := [.int (iI 3)]) rfl rfl ?_
      have b1 := B1.2.2.2.2.2.1
      exact go_r rfl rfl rfl rfl rfl rfl ⟨3, a, x, s1, rfl, hK, KB_wF B1 (by omega) (by omega) (by decide), D1, hX, G1, ⟨ap, ha.2⟩, Or.inr ⟨rfl, O1, by omega⟩⟩
    · refine go_a (pc' := 188) (ls' := [some (.ref (c + 9)), some (.ref (c + 1)), some (.int (iI (s.I 9))), some (.int (iI dg)), some (.int (iI gr)), some (.long (Int64.ofInt nt)), none, some (.long (Int64.ofInt cd)), none, y9]) (st' := [.ref (c + 9), .ref (c + 9)]) rfl rfl ?_
      refine go_get (v := .ref (c + 4)) rfl (hK.1 5 (by decide)) rfl rfl ?_
      refine go_a (pc' := 193) (ls' := [some (.ref (c + 9)), some (.ref (c + 1)), some (.int (iI (s.I 9))), some (.int (iI dg)), some (.int (iI gr)), some (.long (Int64.ofInt nt)), none, some (.long (Int64.ofInt cd)), none, y9]) (st' := [.long (Int64.ofInt nt), .ref (c + 4), .ref (c + 9)]) rfl rfl ?_
      refine go_v (m := 186) (as := [.ref (c + 4), .long (Int64.ofInt nt)]) (r := [.ref (c + 9)]) rfl rfl rfl (hK.1 3 (by decide)) rfl rfl (kc_natural z (d + 3) c nt hp1 (s.wI 9 a) hK hB C1 lt (by omega) (by omega)) (fun v h1 hq => ?_)
      obtain ⟨x, s1, rfl, K1, B1, D1, X1, G1, O1, N1⟩ := hq
      have hX := kx_tr hX X1
      show xx_go (xt_P z) (d + 6) 185 196 [some (.ref (c + 9)), some (.ref (c + 1)), some (.int (iI (s.I 9))), some (.int (iI dg)), some (.int (iI gr)), some (.long (Int64.ofInt nt)), none, some (.long (Int64.ofInt cd)), none, y9] [.int (iI x), .ref (c + 9)] h1 _
      refine go_a (pc' := 208) (ls' := [some (.ref (c + 9)), some (.ref (c + 1)), some (.int (iI (s.I 9))), some (.int (iI dg)), some (.int (iI gr)), some (.long (Int64.ofInt nt)), none, some (.long (Int64.ofInt cd)), none, y9]) (st' := [.int (iI x), .ref (c + 9)]) rfl rfl ?_
      refine kput_11 (x := x) K1 hX rfl rfl (fun hp hK hX => ?_)
      refine go_a (pc' := 212) (ls' := [some (.ref (c + 9)), some (.ref (c + 1)), some (.int (iI (s.I 9))), some (.int (iI dg)), some (.int (iI gr)), some (.long (Int64.ofInt nt)), none, some (.long (Int64.ofInt cd)), none, y9]) (st' := [.int (iI 3)]) rfl rfl ?_
      have b1 := B1.2.2.2.2.2.1
      exact go_r rfl rfl rfl rfl rfl rfl ⟨3, a, x, s1, rfl, hK, KB_wF B1 (by omega) (by omega) (by decide), D1, hX, G1, ⟨ap, ha.2⟩, Or.inr ⟨rfl, O1, by omega⟩⟩
  refine go_a (pc' := 158) (ls' := [some (.ref (c + 9)), some (.ref (c + 1)), some (.int (iI (s.I 9))), some (.int (iI dg)), some (.int (iI gr)), some (.long (Int64.ofInt nt)), none, some (.long (Int64.ofInt cd)), none, y9]) (st' := [.int (iI dg)]) rfl rfl ?_
  refine mi_eq0 (t := 169) rfl rfl (by omega) (by omega) (fun q => ?_) (fun q => ?_)
  · refine go_a (pc' := 170) (ls' := [some (.ref (c + 9)), some (.ref (c + 1)), some (.int (iI (s.I 9))), some (.int (iI dg)), some (.int (iI gr)), some (.long (Int64.ofInt nt)), none, some (.long (Int64.ofInt cd)), none, y9]) (st' := [.ref (c + 9)]) rfl rfl ?_
    refine go_get (v := .int (iI a)) rfl (hK.1 5 (by decide)) rfl rfl ?_
    refine go_a (pc' := 174) (ls' := [some (.ref (c + 9)), some (.ref (c + 1)), some (.int (iI (s.I 9))), some (.int (iI dg)), some (.int (iI gr)), some (.long (Int64.ofInt nt)), none, some (.long (Int64.ofInt cd)), none, y9]) (st' := [.int (iI (s.I 9)), .int (iI a)]) rfl rfl ?_
    refine mi_sub rfl ?_
    refine go_a (pc' := 177) (ls' := [some (.ref (c + 9)), some (.ref (c + 1)), some (.int (iI (s.I 9))), some (.int (iI dg)), some (.int (iI gr)), some (.long (Int64.ofInt nt)), none, some (.long (Int64.ofInt cd)), none, y9]) (st' := [.int (iI 11), .int (iI (a - (s.I 9)))]) rfl rfl ?_
    refine mi_le (t := 182) rfl rfl (by omega) (by omega) (by omega) (by omega) (fun _ => good) (fun _ => long)
  · refine go_a (pc' := 163) (ls' := [some (.ref (c + 9)), some (.ref (c + 1)), some (.int (iI (s.I 9))), some (.int (iI dg)), some (.int (iI gr)), some (.long (Int64.ofInt nt)), none, some (.long (Int64.ofInt cd)), none, y9]) (st' := [.int (iI gr)]) rfl rfl ?_
    refine mi_eq0 (t := 182) rfl rfl (by omega) (by omega) (fun _ => good) (fun _ => ?_)
    refine go_a (pc' := 180) (ls' := [some (.ref (c + 9)), some (.ref (c + 1)), some (.int (iI (s.I 9))), some (.int (iI dg)), some (.int (iI gr)), some (.long (Int64.ofInt nt)), none, some (.long (Int64.ofInt cd)), none, y9]) (st' := []) rfl rfl ?_
    exact long
theorem kd_takeWord (z : Value) (d c : Nat) (hp : xx_H) (s : KS) (hK : KI c hp s) (hB : KB s) (hC : CI s) (lt : s.I 8 < 32768) (hO : OC hp) (hT : TXI s) (p0 : 0 ≤ s.I 9) (p1 : s.I 9 < s.I 0) : xx_cl (xt_P z) (d + 8) 184 [.ref (c + 9), .ref (c + 1)] hp (fun v h1 => ∃ (w a x : Int) (s1 : KS), v = some (.int (iI w)) ∧ KI c h1 (s1.wI 11 x) ∧ KB (s1.wI 11 x) ∧ CI s1 ∧ kx c hp s h1 (s1.wI 11 x) 0 0 ∧ KGR (s.wI 9 a) s1 1 ∧ (s.I 9 < a ∧ a ≤ s.I 0) ∧ (w = 1 ∨ (s.A 0 (s.I 9) ≠ 0 ∧ (w = 2 ∨ (w = 3 ∧ OB s1 x ∧ ¬ s1.N x < 0) ∨ ((w = 40 ∨ w = 41 ∨ w = 39 ∨ w = 46) ∧ s1 = s.wI 9 a))))) := by
  have b := hB.2.2.2.1 0 (by decide)
  have tb := hT (s.I 9) p0 p1
  have lr := LIX_R (s.A 0 (s.I 9))
  have hX : kx c hp s hp s 0 0 := kx_rf
  refine cl_go rfl ?_
  show xx_go (xt_P z) (d + 7) 184 0 [some (.ref (c + 9)), some (.ref (c + 1)), none] [] hp _
  refine go_a (pc' := 1) (ls' := [some (.ref (c + 9)), some (.ref (c + 1)), none]) (st' := [.ref (c + 1)]) rfl rfl ?_
  refine go_a (pc' := 2) (ls' := [some (.ref (c + 9)), some (.ref (c + 1)), none]) (st' := [.ref (c + 9), .ref (c + 1)]) rfl rfl ?_
  refine go_get (v := .int (iI (s.I 9))) rfl (hK.1 5 (by decide)) rfl rfl ?_
  refine go_v (m := 43) (as := [.ref (c + 1), .int (iI (s.I 9))]) (r := []) rfl rfl rfl (hK.1 1 (by decide)) rfl rfl (kr_at_0 z (d + 6) c (s.I 9) hp s hK hB (by omega) (by omega)) (fun v h1 hq => ?_)
  obtain ⟨hq, e⟩ := hq
  rw [e]
  clear e h1
  have hq : v = some (.int (iI (s.A 0 (s.I 9)))) := hq.elim (fun q => q.2.2) (fun q => absurd ⟨p0, p1⟩ q.1)
  subst hq
  show xx_go (xt_P z) (d + 7) 184 8 [some (.ref (c + 9)), some (.ref (c + 1)), none] [.int (iI (s.A 0 (s.I 9)))] hp _
  refine go_a (pc' := 9) (ls' := [some (.ref (c + 9)), some (.ref (c + 1)), some (.int (iI (s.A 0 (s.I 9))))]) (st' := []) rfl rfl ?_
  refine go_b (pc' := 11) (st' := [.ref 7]) (h' := hp) rfl rfl rfl ?_
  refine go_a (pc' := 12) (ls' := [some (.ref (c + 9)), some (.ref (c + 1)), some (.int (iI (s.A 0 (s.I 9))))]) (st' := [.int (iI (s.A 0 (s.I 9))), .ref 7]) rfl rfl ?_
  refine go_a (pc' := 13) (ls' := [some (.ref (c + 9)), some (.ref (c + 1)), some (.int (iI (s.A 0 (s.I 9))))]) (st' := [.int (iI (s.A 0 (s.I 9))), .ref 7]) rfl (by show some (_, _, Value.int ((iI (s.A 0 (s.I 9))).toUInt32 % 65536).toInt32 :: _) = _; rw [i2c_id tb.1 (by omega)]) ?_
  refine go_v (m := 17) (as := [.ref 7, .int (iI (s.A 0 (s.I 9)))]) (r := []) rfl rfl rfl hO.1 rfl rfl (kt_indexOf z (d + 3) (s.A 0 (s.I 9)) hp hO tb.1 tb.2) (fun v h1 hq => ?_)
  obtain ⟨rfl, e⟩ := hq
  rw [e]
  clear e h1
  show xx_go (xt_P z) (d + 7) 184 16 [some (.ref (c + 9)), some (.ref (c + 1)), some (.int (iI (s.A 0 (s.I 9))))] [.int (iI (LIX (s.A 0 (s.I 9))))] hp _
  refine mi_lt0 (t := 25) rfl rfl (by omega) (by omega) (fun q => ?_) (fun q => ?_)
  · refine go_a (pc' := 26) (ls' := [some (.ref (c + 9)), some (.ref (c + 1)), some (.int (iI (s.A 0 (s.I 9))))]) (st' := [.ref (c + 9)]) rfl rfl ?_
    refine go_a (pc' := 27) (ls' := [some (.ref (c + 9)), some (.ref (c + 1)), some (.int (iI (s.A 0 (s.I 9))))]) (st' := [.ref (c + 9), .ref (c + 9)]) rfl rfl ?_
    refine go_get (v := .int (iI (s.I 9))) rfl (hK.1 5 (by decide)) rfl rfl ?_
    refine go_a (pc' := 31) (ls' := [some (.ref (c + 9)), some (.ref (c + 1)), some (.int (iI (s.A 0 (s.I 9))))]) (st' := [.int (iI 1), .int (iI (s.I 9)), .ref (c + 9)]) rfl rfl ?_
    refine mi_add rfl ?_
    refine kput_9 (x := (s.I 9) + 1) hK hX rfl rfl (fun hp1 hK hX => ?_)
    have C1 : CI (s.wI 9 (s.I 9 + 1)) := KSA_CI ⟨rfl, rfl, rfl⟩ hC
    have B1 : KB (s.wI 9 (s.I 9 + 1)) := KB_wF hB (by omega) (by omega) (by decide)
    have yes : (s.A 0 (s.I 9) = 40 ∨ s.A 0 (s.I 9) = 41 ∨ s.A 0 (s.I 9) = 39 ∨ s.A 0 (s.I 9) = 46) → xx_go (xt_P z) (d + 7) 184 59 [some (.ref (c + 9)), some (.ref (c + 1)), some (.int (iI (s.A 0 (s.I 9))))] [] hp1 (fun v h1 => ∃ (w a x : Int) (s1 : KS), v = some (.int (iI w)) ∧ KI c h1 (s1.wI 11 x) ∧ KB (s1.wI 11 x) ∧ CI s1 ∧ kx c hp s h1 (s1.wI 11 x) 0 0 ∧ KGR (s.wI 9 a) s1 1 ∧ (s.I 9 < a ∧ a ≤ s.I 0) ∧ (w = 1 ∨ (s.A 0 (s.I 9) ≠ 0 ∧ (w = 2 ∨ (w = 3 ∧ OB s1 x ∧ ¬ s1.N x < 0) ∨ ((w = 40 ∨ w = 41 ∨ w = 39 ∨ w = 46) ∧ s1 = s.wI 9 a))))) := by
      intro ht2
      refine go_a (pc' := 60) (ls' := [some (.ref (c + 9)), some (.ref (c + 1)), some (.int (iI (s.A 0 (s.I 9))))]) (st' := [.int (iI (s.A 0 (s.I 9)))]) rfl rfl ?_
      refine go_a (pc' := 64) (ls' := [some (.ref (c + 9)), some (.ref (c + 1)), some (.int (iI (s.A 0 (s.I 9))))]) (st' := [.int (iI (s.A 0 (s.I 9)))]) rfl rfl ?_
      exact go_r rfl rfl rfl rfl rfl rfl ⟨s.A 0 (s.I 9), s.I 9 + 1, (s.wI 9 (s.I 9 + 1)).I 11, s.wI 9 (s.I 9 + 1), rfl, by rw [wI_eta rfl]; exact hK, by rw [wI_eta rfl]; exact B1, C1, by rw [wI_eta rfl]; exact hX, KGR_w KGR_rf (by decide), ⟨by omega, by omega⟩, Or.inr ⟨by omega, Or.inr (Or.inr ⟨ht2, rfl⟩)⟩⟩
    refine go_a (pc' := 36) (ls' := [some (.ref (c + 9)), some (.ref (c + 1)), some (.int (iI (s.A 0 (s.I 9))))]) (st' := [.int (iI (s.A 0 (s.I 9)))]) rfl rfl ?_
    refine go_a (pc' := 38) (ls' := [some (.ref (c + 9)), some (.ref (c + 1)), some (.int (iI (s.A 0 (s.I 9))))]) (st' := [.int (iI 40), .int (iI (s.A 0 (s.I 9)))]) rfl rfl ?_
    refine mi_eq (t := 59) rfl rfl (by omega) (by omega) (by omega) (by omega) (fun q => yes (by omega)) (fun _ => ?_)
    refine go_a (pc' := 42) (ls' := [some (.ref (c + 9)), some (.ref (c + 1)), some (.int (iI (s.A 0 (s.I 9))))]) (st' := [.int (iI (s.A 0 (s.I 9)))]) rfl rfl ?_
    refine go_a (pc' := 44) (ls' := [some (.ref (c + 9)), some (.ref (c + 1)), some (.int (iI (s.A 0 (s.I 9))))]) (st' := [.int (iI 41), .int (iI (s.A 0 (s.I 9)))]) rfl rfl ?_
    refine mi_eq (t := 59) rfl rfl (by omega) (by omega) (by omega) (by omega) (fun q => yes (by omega)) (fun _ => ?_)
    refine go_a (pc' := 48) (ls' := [some (.ref (c + 9)), some (.ref (c + 1)), some (.int (iI (s.A 0 (s.I 9))))]) (st' := [.int (iI (s.A 0 (s.I 9)))]) rfl rfl ?_
    refine go_a (pc' := 50) (ls' := [some (.ref (c + 9)), some (.ref (c + 1)), some (.int (iI (s.A 0 (s.I 9))))]) (st' := [.int (iI 39), .int (iI (s.A 0 (s.I 9)))]) rfl rfl ?_
    refine mi_eq (t := 59) rfl rfl (by omega) (by omega) (by omega) (by omega) (fun q => yes (by omega)) (fun _ => ?_)
    refine go_a (pc' := 54) (ls' := [some (.ref (c + 9)), some (.ref (c + 1)), some (.int (iI (s.A 0 (s.I 9))))]) (st' := [.int (iI (s.A 0 (s.I 9)))]) rfl rfl ?_
    refine go_a (pc' := 56) (ls' := [some (.ref (c + 9)), some (.ref (c + 1)), some (.int (iI (s.A 0 (s.I 9))))]) (st' := [.int (iI 46), .int (iI (s.A 0 (s.I 9)))]) rfl rfl ?_
    refine mi_ne (t := 63) rfl rfl (by omega) (by omega) (by omega) (by omega) (fun _ => ?_) (fun q => yes (by omega))
    refine go_a (pc' := 64) (ls' := [some (.ref (c + 9)), some (.ref (c + 1)), some (.int (iI (s.A 0 (s.I 9))))]) (st' := [.int (iI 1)]) rfl rfl ?_
    exact go_r rfl rfl rfl rfl rfl rfl ⟨1, s.I 9 + 1, (s.wI 9 (s.I 9 + 1)).I 11, s.wI 9 (s.I 9 + 1), rfl, by rw [wI_eta rfl]; exact hK, by rw [wI_eta rfl]; exact B1, C1, by rw [wI_eta rfl]; exact hX, KGR_w KGR_rf (by decide), ⟨by omega, by omega⟩, Or.inl rfl⟩
  · have nz : s.A 0 (s.I 9) ≠ 0 := fun w => by rw [w, LIX_0] at q; exact q (by decide)
    refine go_a (pc' := 20) (ls' := [some (.ref (c + 9)), some (.ref (c + 1)), some (.int (iI (s.A 0 (s.I 9))))]) (st' := [.ref (c + 9)]) rfl rfl ?_
    refine go_a (pc' := 21) (ls' := [some (.ref (c + 9)), some (.ref (c + 1)), some (.int (iI (s.A 0 (s.I 9))))]) (st' := [.ref (c + 1), .ref (c + 9)]) rfl rfl ?_
    refine go_v (m := 185) (as := [.ref (c + 9), .ref (c + 1)]) (r := []) rfl rfl rfl (hK.1 5 (by decide)) rfl rfl (kd_takeAtom z d c hp s hK hB hC lt hO hT p0 p1 (by omega)) (fun v h1 hq => ?_)
    obtain ⟨w, a, x, s1, rfl, K1, B1, D1, X1, G1, O1, N1⟩ := hq
    show xx_go (xt_P z) (d + 7) 184 24 [some (.ref (c + 9)), some (.ref (c + 1)), some (.int (iI (s.A 0 (s.I 9))))] [.int (iI w)] h1 _
    exact go_r rfl rfl rfl rfl rfl rfl ⟨w, a, x, s1, rfl, K1, B1, D1, X1, G1, O1, Or.inr ⟨nz, N1.elim Or.inl (fun u => Or.inr (Or.inl u))⟩⟩
