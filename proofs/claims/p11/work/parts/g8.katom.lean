def sp_ae (f : Int → Int) : Nat → Int → Int
  | 0, p => p
  | m + 1, p => if 0 ≤ LIX (f p) then sp_ae f m (p + 1) else p
theorem sp_ae_eq (f : Int → Int) : ∀ (m : Nat) (p a : Int), p ≤ a → a ≤ p + m → (∀ e : Int, p ≤ e → e < a → 0 ≤ LIX (f e)) → (a = p + m ∨ LIX (f a) < 0) → sp_ae f m p = a
  | 0, p, a, h1, h2, _, _ => by
    show p = a
    have h2 : a ≤ p + ((0 : Nat) : Int) := h2
    omega
  | m + 1, p, a, h1, h2, h3, h4 => by
    show (if 0 ≤ LIX (f p) then sp_ae f m (p + 1) else p) = a
    by_cases q : p = a
    · rw [q]
      rcases h4 with h4 | h4
      · rw [q] at h4
        omega
      · rw [if_neg (by omega)]
    · rw [if_pos (h3 p (Int.le_refl _) (by omega))]
      refine sp_ae_eq f m (p + 1) a (by omega) (by omega) (fun e e0 e1 => h3 e (by omega) e1) ?_
      rcases h4 with h4 | h4
      · exact Or.inl (by omega)
      · exact Or.inr h4
def sp_dg (f : Int → Int) (p : Int) : Nat → Int
  | 0 => 1
  | n + 1 => if 48 ≤ f (p + n) ∧ f (p + n) ≤ 57 then sp_dg f p n else 0
def sp_nv (f : Int → Int) (p : Int) : Nat → Option Int
  | 0 => some 0
  | n + 1 => match sp_nv f p n with
    | none => none
    | some v => if v ≤ (4611686018427387903 - (f (p + n) - 48)) / 10 then some (v * 10 + (f (p + n) - 48)) else none
def sp_at (f : Int → Int) (p : Int) (n : Nat) : Option ob_T := if sp_dg f p n = 1 then (sp_nv f p n).map Int.Internal.Linear.Expr.num else if n ≤ 11 then some (.var (wcf f n p 0).toNat) else none
theorem sp_dg_s (f : Int → Int) (p : Int) (n : Nat) : sp_dg f p (n + 1) = if 48 ≤ f (p + n) ∧ f (p + n) ≤ 57 then sp_dg f p n else 0 := rfl
theorem sp_dg_R (f : Int → Int) (p : Int) : ∀ n : Nat, sp_dg f p n = 0 ∨ sp_dg f p n = 1
  | 0 => Or.inr rfl
  | n + 1 => by
    rw [sp_dg_s]
    split
    · exact sp_dg_R f p n
    · exact Or.inl rfl
theorem sp_nv_n {f : Int → Int} {p : Int} {n : Nat} (h : sp_nv f p n = none) : sp_nv f p (n + 1) = none := by
  show (match sp_nv f p n with
    | none => none
    | some v => if v ≤ (4611686018427387903 - (f (p + n) - 48)) / 10 then some (v * 10 + (f (p + n) - 48)) else none) = none
  rw [h]
theorem sp_nv_s {f : Int → Int} {p v : Int} {n : Nat} (h : sp_nv f p n = some v) : sp_nv f p (n + 1) = if v ≤ (4611686018427387903 - (f (p + n) - 48)) / 10 then some (v * 10 + (f (p + n) - 48)) else none := by
  show (match sp_nv f p n with
    | none => none
    | some v => if v ≤ (4611686018427387903 - (f (p + n) - 48)) / 10 then some (v * 10 + (f (p + n) - 48)) else none) = _
  rw [h]
def ATD (f : Int → Int) (p a dg gr nt : Int) : Prop := dg = sp_dg f p (a - p).toNat ∧ (dg = 1 → (sp_nv f p (a - p).toNat = some nt ∧ gr = 0) ∨ (sp_nv f p (a - p).toNat = none ∧ gr = 1))
def ATI (f : Int → Int) (p a dg gr nt cd : Int) : Prop := (∀ e : Int, p ≤ e → e < a → 0 ≤ LIX (f e)) ∧ ATD f p a dg gr nt ∧ cd = wcf f (if a - p < 11 then (a - p).toNat else 11) p 0
theorem wcf_11 {f : Int → Int} {p a : Int} (h : p ≤ a) (q : a - p < 11) : wcf f (if a + 1 - p < 11 then (a + 1 - p).toNat else 11) p 0 = wcf f (if a - p < 11 then (a - p).toNat else 11) p 0 * 47 + LIX (f a) + 1 := by
  have e : (if a + 1 - p < 11 then (a + 1 - p).toNat else 11) = (a - p).toNat + 1 := by
    split <;> omega
  rw [e, if_pos q, wcf_last, show p + ((a - p).toNat : Int) = a by omega]
  omega
theorem wcf_12 {f : Int → Int} {p a : Int} (q : ¬ a - p < 11) : wcf f (if a + 1 - p < 11 then (a + 1 - p).toNat else 11) p 0 = wcf f (if a - p < 11 then (a - p).toNat else 11) p 0 := by
  rw [if_neg q, if_neg (by omega)]
theorem ATD_no {f : Int → Int} {p a dg gr nt nt1 gr1 : Int} (h : ATD f p a dg gr nt) (pa : p ≤ a) (no : dg = 0 ∨ ¬ (48 ≤ f a ∧ f a ≤ 57)) : ATD f p (a + 1) 0 gr1 nt1 := by
  refine ⟨?_, fun q => absurd q (by decide)⟩
  rw [show (a + 1 - p).toNat = (a - p).toNat + 1 by omega, sp_dg_s, show p + ((a - p).toNat : Int) = a by omega]
  have h1 := h.1
  split
  · omega
  · rfl
theorem ATD_dg {f : Int → Int} {p a dg gr nt : Int} (h : ATD f p a dg gr nt) (pa : p ≤ a) (e : dg = 1) (q : 48 ≤ f a ∧ f a ≤ 57) : 1 = sp_dg f p (a + 1 - p).toNat := by
  rw [show (a + 1 - p).toNat = (a - p).toNat + 1 by omega, sp_dg_s, show p + ((a - p).toNat : Int) = a by omega, if_pos q, ← h.1, e]
theorem ATD_gt {f : Int → Int} {p a dg gr nt : Int} (h : ATD f p a dg gr nt) (pa : p ≤ a) (e : dg = 1) (q : ¬ nt ≤ (4611686018427387903 - (f a - 48)) / 10) : sp_nv f p (a + 1 - p).toNat = none := by
  rw [show (a + 1 - p).toNat = (a - p).toNat + 1 by omega]
  rcases h.2 e with h2 | h2
  · rw [sp_nv_s h2.1, show p + ((a - p).toNat : Int) = a by omega, if_neg q]
  · exact sp_nv_n h2.1
theorem ATD_le {f : Int → Int} {p a dg gr nt : Int} (h : ATD f p a dg gr nt) (pa : p ≤ a) (e : dg = 1) (q : nt ≤ (4611686018427387903 - (f a - 48)) / 10) : (sp_nv f p (a + 1 - p).toNat = some (nt * 10 + (f a - 48)) ∧ gr = 0) ∨ (sp_nv f p (a + 1 - p).toNat = none ∧ gr = 1) := by
  rw [show (a + 1 - p).toNat = (a - p).toNat + 1 by omega]
  rcases h.2 e with h2 | h2
  · rw [sp_nv_s h2.1, show p + ((a - p).toNat : Int) = a by omega, if_pos q]
    exact Or.inl ⟨rfl, h2.2⟩
  · exact Or.inr ⟨sp_nv_n h2.1, h2.2⟩
theorem kz_atom_loop (z : Value) (d c : Nat) (p : Int) (hp0 : xx_H) (s0 s : KS) (hO : OC hp0) (hT : TXI s) (p0 : 0 ≤ p) (l0 : s.I 0 ≤ 8192) (Q : Option Value → xx_H → Prop) (K : ∀ (a dg gr nt cd : Int) (y9 : Option Value) (hp : xx_H), (p ≤ a ∧ a ≤ s.I 0) → (dg = 0 ∨ dg = 1) → (gr = 0 ∨ gr = 1) → (0 ≤ nt ∧ nt < 4611686018427387904) → (0 ≤ cd ∧ cd < cbn (a - p)) → KI c hp (s.wI 9 a) → KB (s.wI 9 a) → kx c hp0 s0 hp (s.wI 9 a) 0 0 → ATI (s.A 0) p a dg gr nt cd → (a = s.I 0 ∨ LIX (s.A 0 a) < 0) → xx_go (xt_P z) (d + 6) 185 157 [some (.ref (c + 9)), some (.ref (c + 1)), some (.int (iI p)), some (.int (iI dg)), some (.int (iI gr)), some (.long (Int64.ofInt nt)), none, some (.long (Int64.ofInt cd)), none, y9] [] hp Q) : ∀ (f : Nat) (a dg gr nt cd : Int) (y9 : Option Value) (hp : xx_H), (s.I 0 - a).toNat ≤ f → (p ≤ a ∧ a ≤ s.I 0) → (dg = 0 ∨ dg = 1) → (gr = 0 ∨ gr = 1) → (0 ≤ nt ∧ nt < 4611686018427387904) → (0 ≤ cd ∧ cd < cbn (a - p)) → KI c hp (s.wI 9 a) → KB (s.wI 9 a) → kx c hp0 s0 hp (s.wI 9 a) 0 0 → ATI (s.A 0) p a dg gr nt cd → xx_go (xt_P z) (d + 6) 185 16 [some (.ref (c + 9)), some (.ref (c + 1)), some (.int (iI p)), some (.int (iI dg)), some (.int (iI gr)), some (.long (Int64.ofInt nt)), none, some (.long (Int64.ofInt cd)), none, y9] [] hp Q := by
  intro f
  induction f with
  | zero =>
    intro a dg gr nt cd y9 hp hf ha hd hg hn hc hK hB hX hI
    refine go_a (pc' := 17) (ls' := [some (.ref (c + 9)), some (.ref (c + 1)), some (.int (iI p)), some (.int (iI dg)), some (.int (iI gr)), some (.long (Int64.ofInt nt)), none, some (.long (Int64.ofInt cd)), none, y9]) (st' := [.ref (c + 9)]) rfl rfl ?_
    refine go_get (v := .int (iI a)) rfl (hK.1 5 (by decide)) rfl rfl ?_
    refine go_a (pc' := 21) (ls' := [some (.ref (c + 9)), some (.ref (c + 1)), some (.int (iI p)), some (.int (iI dg)), some (.int (iI gr)), some (.long (Int64.ofInt nt)), none, some (.long (Int64.ofInt cd)), none, y9]) (st' := [.ref (c + 1), .int (iI a)]) rfl rfl ?_
    refine go_v (m := 34) (as := [.ref (c + 1)]) (r := [.int (iI a)]) rfl rfl rfl (hK.1 1 (by decide)) rfl rfl (kr_length_0 z (d + 5) c hp (s.wI 9 a) hK) (fun v h1 hq => ?_)
    obtain ⟨rfl, e⟩ := hq
    rw [e]
    clear e h1
    show xx_go (xt_P z) (d + 6) 185 24 [some (.ref (c + 9)), some (.ref (c + 1)), some (.int (iI p)), some (.int (iI dg)), some (.int (iI gr)), some (.long (Int64.ofInt nt)), none, some (.long (Int64.ofInt cd)), none, y9] [.int (iI (s.I 0)), .int (iI a)] hp _
    refine mi_ge (t := 157) rfl rfl (by omega) (by omega) (by omega) (by omega) (fun _ => (K a dg gr nt cd y9 hp ha hd hg hn hc hK hB hX hI (Or.inl (by omega)))) (fun q => absurd (show a ≥ s.I 0 by omega) q)
  | succ f ih =>
    intro a dg gr nt cd y9 hp hf ha hd hg hn hc hK hB hX hI
    refine go_a (pc' := 17) (ls' := [some (.ref (c + 9)), some (.ref (c + 1)), some (.int (iI p)), some (.int (iI dg)), some (.int (iI gr)), some (.long (Int64.ofInt nt)), none, some (.long (Int64.ofInt cd)), none, y9]) (st' := [.ref (c + 9)]) rfl rfl ?_
    refine go_get (v := .int (iI a)) rfl (hK.1 5 (by decide)) rfl rfl ?_
    refine go_a (pc' := 21) (ls' := [some (.ref (c + 9)), some (.ref (c + 1)), some (.int (iI p)), some (.int (iI dg)), some (.int (iI gr)), some (.long (Int64.ofInt nt)), none, some (.long (Int64.ofInt cd)), none, y9]) (st' := [.ref (c + 1), .int (iI a)]) rfl rfl ?_
    refine go_v (m := 34) (as := [.ref (c + 1)]) (r := [.int (iI a)]) rfl rfl rfl (hK.1 1 (by decide)) rfl rfl (kr_length_0 z (d + 5) c hp (s.wI 9 a) hK) (fun v h1 hq => ?_)
    obtain ⟨rfl, e⟩ := hq
    rw [e]
    clear e h1
    show xx_go (xt_P z) (d + 6) 185 24 [some (.ref (c + 9)), some (.ref (c + 1)), some (.int (iI p)), some (.int (iI dg)), some (.int (iI gr)), some (.long (Int64.ofInt nt)), none, some (.long (Int64.ofInt cd)), none, y9] [.int (iI (s.I 0)), .int (iI a)] hp _
    refine mi_ge (t := 157) rfl rfl (by omega) (by omega) (by omega) (by omega) (fun q => (K a dg gr nt cd y9 hp ha hd hg hn hc hK hB hX hI (Or.inl (by omega)))) (fun q1 => ?_)
    have tb := hT a (by omega) (by omega)
    have lr := LIX_R (s.A 0 a)
    have hO1 : OC hp := OC_kx hO hX
    refine go_b (pc' := 29) (st' := [.ref 7]) (h' := hp) rfl rfl rfl ?_
    refine go_a (pc' := 30) (ls' := [some (.ref (c + 9)), some (.ref (c + 1)), some (.int (iI p)), some (.int (iI dg)), some (.int (iI gr)), some (.long (Int64.ofInt nt)), none, some (.long (Int64.ofInt cd)), none, y9]) (st' := [.ref (c + 1), .ref 7]) rfl rfl ?_
    refine go_a (pc' := 31) (ls' := [some (.ref (c + 9)), some (.ref (c + 1)), some (.int (iI p)), some (.int (iI dg)), some (.int (iI gr)), some (.long (Int64.ofInt nt)), none, some (.long (Int64.ofInt cd)), none, y9]) (st' := [.ref (c + 9), .ref (c + 1), .ref 7]) rfl rfl ?_
    refine go_get (v := .int (iI a)) rfl (hK.1 5 (by decide)) rfl rfl ?_
    refine go_v (m := 43) (as := [.ref (c + 1), .int (iI a)]) (r := [.ref 7]) rfl rfl rfl (hK.1 1 (by decide)) rfl rfl (kr_at_0 z (d + 5) c a hp (s.wI 9 a) hK hB (by omega) (by omega)) (fun v h1 hq => ?_)
    obtain ⟨hq, e⟩ := hq
    rw [e]
    clear e h1
    have hq : v = some (.int (iI (s.A 0 a))) := hq.elim (fun q => q.2.2) (fun q => absurd ⟨show 0 ≤ a by omega, show a < s.I 0 by omega⟩ q.1)
    subst hq
    show xx_go (xt_P z) (d + 6) 185 37 [some (.ref (c + 9)), some (.ref (c + 1)), some (.int (iI p)), some (.int (iI dg)), some (.int (iI gr)), some (.long (Int64.ofInt nt)), none, some (.long (Int64.ofInt cd)), none, y9] [.int (iI (s.A 0 a)), .ref 7] hp _
    refine go_a (pc' := 38) (ls' := [some (.ref (c + 9)), some (.ref (c + 1)), some (.int (iI p)), some (.int (iI dg)), some (.int (iI gr)), some (.long (Int64.ofInt nt)), none, some (.long (Int64.ofInt cd)), none, y9]) (st' := [.int (iI (s.A 0 a)), .ref 7]) rfl (by show some (_, _, Value.int ((iI (s.A 0 a)).toUInt32 % 65536).toInt32 :: _) = _; rw [i2c_id tb.1 (by omega)]) ?_
    refine go_v (m := 17) (as := [.ref 7, .int (iI (s.A 0 a))]) (r := []) rfl rfl rfl hO1.1 rfl rfl (kt_indexOf z (d + 2) (s.A 0 a) hp hO1 tb.1 tb.2) (fun v h1 hq => ?_)
    obtain ⟨rfl, e⟩ := hq
    rw [e]
    clear e h1
    show xx_go (xt_P z) (d + 6) 185 41 [some (.ref (c + 9)), some (.ref (c + 1)), some (.int (iI p)), some (.int (iI dg)), some (.int (iI gr)), some (.long (Int64.ofInt nt)), none, some (.long (Int64.ofInt cd)), none, y9] [.int (iI (LIX (s.A 0 a)))] hp _
    refine mi_lt0 (t := 157) rfl rfl (by omega) (by omega) (fun q => (K a dg gr nt cd y9 hp ha hd hg hn hc hK hB hX hI (Or.inr q))) (fun q2 => ?_)
    refine go_a (pc' := 45) (ls' := [some (.ref (c + 9)), some (.ref (c + 1)), some (.int (iI p)), some (.int (iI dg)), some (.int (iI gr)), some (.long (Int64.ofInt nt)), none, some (.long (Int64.ofInt cd)), none, y9]) (st' := [.ref (c + 1)]) rfl rfl ?_
    refine go_a (pc' := 46) (ls' := [some (.ref (c + 9)), some (.ref (c + 1)), some (.int (iI p)), some (.int (iI dg)), some (.int (iI gr)), some (.long (Int64.ofInt nt)), none, some (.long (Int64.ofInt cd)), none, y9]) (st' := [.ref (c + 9), .ref (c + 1)]) rfl rfl ?_
    refine go_get (v := .int (iI a)) rfl (hK.1 5 (by decide)) rfl rfl ?_
    refine go_v (m := 43) (as := [.ref (c + 1), .int (iI a)]) (r := []) rfl rfl rfl (hK.1 1 (by decide)) rfl rfl (kr_at_0 z (d + 5) c a hp (s.wI 9 a) hK hB (by omega) (by omega)) (fun v h1 hq => ?_)
    obtain ⟨hq, e⟩ := hq
    rw [e]
    clear e h1
    have hq : v = some (.int (iI (s.A 0 a))) := hq.elim (fun q => q.2.2) (fun q => absurd ⟨show 0 ≤ a by omega, show a < s.I 0 by omega⟩ q.1)
    subst hq
    show xx_go (xt_P z) (d + 6) 185 52 [some (.ref (c + 9)), some (.ref (c + 1)), some (.int (iI p)), some (.int (iI dg)), some (.int (iI gr)), some (.long (Int64.ofInt nt)), none, some (.long (Int64.ofInt cd)), none, y9] [.int (iI (s.A 0 a))] hp _
    refine go_a (pc' := 54) (ls' := [some (.ref (c + 9)), some (.ref (c + 1)), some (.int (iI p)), some (.int (iI dg)), some (.int (iI gr)), some (.long (Int64.ofInt nt)), none, some (.long (Int64.ofInt cd)), none, y9]) (st' := [.int (iI 48), .int (iI (s.A 0 a))]) rfl rfl ?_
    refine mi_sub rfl ?_
    refine go_a (pc' := 57) (ls' := [some (.ref (c + 9)), some (.ref (c + 1)), some (.int (iI p)), some (.int (iI dg)), some (.int (iI gr)), some (.long (Int64.ofInt nt)), none, some (.long (Int64.ofInt cd)), none, some (.int (iI ((s.A 0 a) - 48)))]) (st' := []) rfl rfl ?_
    have hc0 := hc
    obtain ⟨hi1, hi2, hi3⟩ := hI
    have hl : ∀ e : Int, p ≤ e → e < a + 1 → 0 ≤ LIX (s.A 0 e) := fun e e0 e1 => by
      by_cases ee : e = a
      · rw [ee]
        omega
      · exact hi1 e e0 (by omega)
    have j144 : ∀ (dg gr nt cd : Int), (dg = 0 ∨ dg = 1) → (gr = 0 ∨ gr = 1) → (0 ≤ nt ∧ nt < 4611686018427387904) → (0 ≤ cd ∧ cd < cbn (a + 1 - p)) → ATI (s.A 0) p (a + 1) dg gr nt cd → xx_go (xt_P z) (d + 6) 185 144 [some (.ref (c + 9)), some (.ref (c + 1)), some (.int (iI p)), some (.int (iI dg)), some (.int (iI gr)), some (.long (Int64.ofInt nt)), none, some (.long (Int64.ofInt cd)), none, some (.int (iI (s.A 0 a - 48)))] [] hp Q := by
      intro dg gr nt cd hd hg hn hc hI
      refine go_a (pc' := 145) (ls' := [some (.ref (c + 9)), some (.ref (c + 1)), some (.int (iI p)), some (.int (iI dg)), some (.int (iI gr)), some (.long (Int64.ofInt nt)), none, some (.long (Int64.ofInt cd)), none, some (.int (iI (s.A 0 a - 48)))]) (st' := [.ref (c + 9)]) rfl rfl ?_
      refine go_a (pc' := 146) (ls' := [some (.ref (c + 9)), some (.ref (c + 1)), some (.int (iI p)), some (.int (iI dg)), some (.int (iI gr)), some (.long (Int64.ofInt nt)), none, some (.long (Int64.ofInt cd)), none, some (.int (iI (s.A 0 a - 48)))]) (st' := [.ref (c + 9), .ref (c + 9)]) rfl rfl ?_
      refine go_get (v := .int (iI a)) rfl (hK.1 5 (by decide)) rfl rfl ?_
      refine go_a (pc' := 150) (ls' := [some (.ref (c + 9)), some (.ref (c + 1)), some (.int (iI p)), some (.int (iI dg)), some (.int (iI gr)), some (.long (Int64.ofInt nt)), none, some (.long (Int64.ofInt cd)), none, some (.int (iI (s.A 0 a - 48)))]) (st' := [.int (iI 1), .int (iI a), .ref (c + 9)]) rfl rfl ?_
      refine mi_add rfl ?_
      refine kput_9 (x := a + 1) hK hX rfl rfl (fun hp hK hX => ?_)
      refine go_a (pc' := 16) (ls' := [some (.ref (c + 9)), some (.ref (c + 1)), some (.int (iI p)), some (.int (iI dg)), some (.int (iI gr)), some (.long (Int64.ofInt nt)), none, some (.long (Int64.ofInt cd)), none, some (.int (iI (s.A 0 a - 48)))]) (st' := []) rfl rfl ?_
      rw [wI_wI] at hK hX
      exact ih (a + 1) dg gr nt cd _ hp (by omega) (by omega) hd hg hn hc hK (by have := KB_wF (j := 9) (x := a + 1) hB (by omega) (by omega) (by decide); rw [wI_wI] at this; exact this) hX hI
    have j118 : ∀ (dg gr nt : Int), (dg = 0 ∨ dg = 1) → (gr = 0 ∨ gr = 1) → (0 ≤ nt ∧ nt < 4611686018427387904) → ATD (s.A 0) p (a + 1) dg gr nt → xx_go (xt_P z) (d + 6) 185 118 [some (.ref (c + 9)), some (.ref (c + 1)), some (.int (iI p)), some (.int (iI dg)), some (.int (iI gr)), some (.long (Int64.ofInt nt)), none, some (.long (Int64.ofInt cd)), none, some (.int (iI (s.A 0 a - 48)))] [] hp Q := by
      intro dg gr nt hd hg hn hD
      refine go_a (pc' := 119) (ls' := [some (.ref (c + 9)), some (.ref (c + 1)), some (.int (iI p)), some (.int (iI dg)), some (.int (iI gr)), some (.long (Int64.ofInt nt)), none, some (.long (Int64.ofInt cd)), none, some (.int (iI (s.A 0 a - 48)))]) (st' := [.ref (c + 9)]) rfl rfl ?_
      refine go_get (v := .int (iI a)) rfl (hK.1 5 (by decide)) rfl rfl ?_
      refine go_a (pc' := 123) (ls' := [some (.ref (c + 9)), some (.ref (c + 1)), some (.int (iI p)), some (.int (iI dg)), some (.int (iI gr)), some (.long (Int64.ofInt nt)), none, some (.long (Int64.ofInt cd)), none, some (.int (iI (s.A 0 a - 48)))]) (st' := [.int (iI p), .int (iI a)]) rfl rfl ?_
      refine mi_sub rfl ?_
      refine go_a (pc' := 126) (ls' := [some (.ref (c + 9)), some (.ref (c + 1)), some (.int (iI p)), some (.int (iI dg)), some (.int (iI gr)), some (.long (Int64.ofInt nt)), none, some (.long (Int64.ofInt cd)), none, some (.int (iI (s.A 0 a - 48)))]) (st' := [.int (iI 11), .int (iI (a - p))]) rfl rfl ?_
      refine mi_ge (t := 144) rfl rfl (by omega) (by omega) (by omega) (by omega) (fun q => ?_) (fun q => ?_)
      · refine j144 dg gr nt cd hd hg hn ?_ ⟨hl, hD, ?_⟩
        · rw [show a + 1 - p = (a - p) + 1 by omega, cbn_t (by omega)]
          exact hc0
        · rw [wcf_12 (by omega)]
          exact hi3
      · refine go_a (pc' := 131) (ls' := [some (.ref (c + 9)), some (.ref (c + 1)), some (.int (iI p)), some (.int (iI dg)), some (.int (iI gr)), some (.long (Int64.ofInt nt)), none, some (.long (Int64.ofInt cd)), none, some (.int (iI (s.A 0 a - 48)))]) (st' := [.long (Int64.ofInt cd)]) rfl rfl ?_
        refine go_a (pc' := 132) (ls' := [some (.ref (c + 9)), some (.ref (c + 1)), some (.int (iI p)), some (.int (iI dg)), some (.int (iI gr)), some (.long (Int64.ofInt nt)), none, some (.long (Int64.ofInt cd)), none, some (.int (iI (s.A 0 a - 48)))]) (st' := [.ref (c + 1), .long (Int64.ofInt cd)]) rfl rfl ?_
        refine go_a (pc' := 133) (ls' := [some (.ref (c + 9)), some (.ref (c + 1)), some (.int (iI p)), some (.int (iI dg)), some (.int (iI gr)), some (.long (Int64.ofInt nt)), none, some (.long (Int64.ofInt cd)), none, some (.int (iI (s.A 0 a - 48)))]) (st' := [.ref (c + 9), .ref (c + 1), .long (Int64.ofInt cd)]) rfl rfl ?_
        refine go_get (v := .int (iI a)) rfl (hK.1 5 (by decide)) rfl rfl ?_
        refine go_v (m := 43) (as := [.ref (c + 1), .int (iI a)]) (r := [.long (Int64.ofInt cd)]) rfl rfl rfl (hK.1 1 (by decide)) rfl rfl (kr_at_0 z (d + 5) c a hp (s.wI 9 a) hK hB (by omega) (by omega)) (fun v h1 hq => ?_)
        obtain ⟨hq, e⟩ := hq
        rw [e]
        clear e h1
        have hq : v = some (.int (iI (s.A 0 a))) := hq.elim (fun q => q.2.2) (fun q => absurd ⟨show 0 ≤ a by omega, show a < s.I 0 by omega⟩ q.1)
        subst hq
        show xx_go (xt_P z) (d + 6) 185 139 [some (.ref (c + 9)), some (.ref (c + 1)), some (.int (iI p)), some (.int (iI dg)), some (.int (iI gr)), some (.long (Int64.ofInt nt)), none, some (.long (Int64.ofInt cd)), none, some (.int (iI (s.A 0 a - 48)))] [.int (iI (s.A 0 a)), .long (Int64.ofInt cd)] hp _
        refine go_s (m := 16) (as := [.long (Int64.ofInt cd), .int (iI (s.A 0 a))]) (r := []) rfl rfl rfl rfl (kt_longer z (d + 1) cd (s.A 0 a) hp hO1 tb.1 tb.2) (fun v h1 hq => ?_)
        obtain ⟨rfl, e⟩ := hq
        rw [e]
        clear e h1
        show xx_go (xt_P z) (d + 6) 185 142 [some (.ref (c + 9)), some (.ref (c + 1)), some (.int (iI p)), some (.int (iI dg)), some (.int (iI gr)), some (.long (Int64.ofInt nt)), none, some (.long (Int64.ofInt cd)), none, some (.int (iI (s.A 0 a - 48)))] [.long (Int64.ofInt (cd * 47 + LIX (s.A 0 a) + 1))] hp _
        refine go_a (pc' := 144) (ls' := [some (.ref (c + 9)), some (.ref (c + 1)), some (.int (iI p)), some (.int (iI dg)), some (.int (iI gr)), some (.long (Int64.ofInt nt)), none, some (.long (Int64.ofInt (cd * 47 + LIX (s.A 0 a) + 1))), none, some (.int (iI (s.A 0 a - 48)))]) (st' := []) rfl rfl ?_
        refine j144 dg gr nt _ hd hg hn ?_ ⟨hl, hD, ?_⟩
        · rw [show a + 1 - p = (a - p) + 1 by omega, cbn_s (by omega) (by omega)]
          omega
        · rw [wcf_11 (by omega) (by omega), ← hi3]
    have j79 : ∀ dg9 : Int, (dg9 = 0 ∨ (dg9 = 1 ∧ 0 ≤ s.A 0 a - 48 ∧ s.A 0 a - 48 ≤ 9)) → (dg9 = 1 → dg = 1) → (dg9 = 0 → dg = 0 ∨ ¬ (48 ≤ s.A 0 a ∧ s.A 0 a ≤ 57)) → xx_go (xt_P z) (d + 6) 185 79 [some (.ref (c + 9)), some (.ref (c + 1)), some (.int (iI p)), some (.int (iI dg9)), some (.int (iI gr)), some (.long (Int64.ofInt nt)), none, some (.long (Int64.ofInt cd)), none, some (.int (iI (s.A 0 a - 48)))] [] hp Q := by
      intro dg9 hdd hd1 hd0
      have gt : (dg9 = 1 → sp_nv (s.A 0) p (a + 1 - p).toNat = none) → xx_go (xt_P z) (d + 6) 185 115 [some (.ref (c + 9)), some (.ref (c + 1)), some (.int (iI p)), some (.int (iI dg9)), some (.int (iI gr)), some (.long (Int64.ofInt nt)), none, some (.long (Int64.ofInt cd)), none, some (.int (iI (s.A 0 a - 48)))] [] hp Q := by
        intro hng
        refine go_a (pc' := 116) (ls' := [some (.ref (c + 9)), some (.ref (c + 1)), some (.int (iI p)), some (.int (iI dg9)), some (.int (iI gr)), some (.long (Int64.ofInt nt)), none, some (.long (Int64.ofInt cd)), none, some (.int (iI (s.A 0 a - 48)))]) (st' := [.int (iI 1)]) rfl rfl ?_
        refine go_a (pc' := 118) (ls' := [some (.ref (c + 9)), some (.ref (c + 1)), some (.int (iI p)), some (.int (iI dg9)), some (.int (iI 1)), some (.long (Int64.ofInt nt)), none, some (.long (Int64.ofInt cd)), none, some (.int (iI (s.A 0 a - 48)))]) (st' := []) rfl rfl ?_
        refine j118 dg9 1 nt (by omega) (Or.inr rfl) hn ?_
        rcases hdd with rfl | ⟨rfl, hr⟩
        · exact ATD_no hi2 ha.1 (hd0 rfl)
        · exact ⟨ATD_dg hi2 ha.1 (hd1 rfl) (by omega), fun _ => Or.inr ⟨hng rfl, rfl⟩⟩
      refine go_a (pc' := 80) (ls' := [some (.ref (c + 9)), some (.ref (c + 1)), some (.int (iI p)), some (.int (iI dg9)), some (.int (iI gr)), some (.long (Int64.ofInt nt)), none, some (.long (Int64.ofInt cd)), none, some (.int (iI (s.A 0 a - 48)))]) (st' := [.int (iI dg9)]) rfl rfl ?_
      refine mi_eq0 (t := 115) rfl rfl (by omega) (by omega) (fun w => gt (fun w2 => absurd w2 (by omega))) (fun q3 => ?_)
      refine go_a (pc' := 85) (ls' := [some (.ref (c + 9)), some (.ref (c + 1)), some (.int (iI p)), some (.int (iI dg9)), some (.int (iI gr)), some (.long (Int64.ofInt nt)), none, some (.long (Int64.ofInt cd)), none, some (.int (iI (s.A 0 a - 48)))]) (st' := [.long (Int64.ofInt nt)]) rfl rfl ?_
      refine go_b (pc' := 88) (st' := [.long (Int64.ofInt 4611686018427387903), .long (Int64.ofInt nt)]) (h' := hp) rfl rfl rfl ?_
      refine go_a (pc' := 90) (ls' := [some (.ref (c + 9)), some (.ref (c + 1)), some (.int (iI p)), some (.int (iI dg9)), some (.int (iI gr)), some (.long (Int64.ofInt nt)), none, some (.long (Int64.ofInt cd)), none, some (.int (iI (s.A 0 a - 48)))]) (st' := [.int (iI (s.A 0 a - 48)), .long (Int64.ofInt 4611686018427387903), .long (Int64.ofInt nt)]) rfl rfl ?_
      refine mi_i2l rfl (by omega) (by omega) ?_
      refine mi_lsub rfl ?_
      refine go_b (pc' := 95) (st' := [.long (Int64.ofInt 10), .long (Int64.ofInt (4611686018427387903 - (s.A 0 a - 48))), .long (Int64.ofInt nt)]) (h' := hp) rfl rfl rfl ?_
      refine mi_ldiv rfl (by omega) (by omega) (by omega) (by omega) ?_
      refine mi_lc_gt (t := 115) rfl rfl rfl (by omega) (by omega) (by omega) (by omega) (fun w => gt (fun w2 => ATD_gt hi2 ha.1 (hd1 w2) (by omega))) (fun q4 => ?_)
      refine go_a (pc' := 102) (ls' := [some (.ref (c + 9)), some (.ref (c + 1)), some (.int (iI p)), some (.int (iI dg9)), some (.int (iI gr)), some (.long (Int64.ofInt nt)), none, some (.long (Int64.ofInt cd)), none, some (.int (iI (s.A 0 a - 48)))]) (st' := [.long (Int64.ofInt nt)]) rfl rfl ?_
      refine go_b (pc' := 105) (st' := [.long (Int64.ofInt 10), .long (Int64.ofInt nt)]) (h' := hp) rfl rfl rfl ?_
      refine mi_lmul rfl ?_
      refine go_a (pc' := 108) (ls' := [some (.ref (c + 9)), some (.ref (c + 1)), some (.int (iI p)), some (.int (iI dg9)), some (.int (iI gr)), some (.long (Int64.ofInt nt)), none, some (.long (Int64.ofInt cd)), none, some (.int (iI (s.A 0 a - 48)))]) (st' := [.int (iI (s.A 0 a - 48)), .long (Int64.ofInt (nt * 10))]) rfl rfl ?_
      refine mi_i2l rfl (by omega) (by omega) ?_
      refine mi_ladd rfl ?_
      refine go_a (pc' := 112) (ls' := [some (.ref (c + 9)), some (.ref (c + 1)), some (.int (iI p)), some (.int (iI dg9)), some (.int (iI gr)), some (.long (Int64.ofInt ((nt * 10) + (s.A 0 a - 48)))), none, some (.long (Int64.ofInt cd)), none, some (.int (iI (s.A 0 a - 48)))]) (st' := []) rfl rfl ?_
      refine go_a (pc' := 118) (ls' := [some (.ref (c + 9)), some (.ref (c + 1)), some (.int (iI p)), some (.int (iI dg9)), some (.int (iI gr)), some (.long (Int64.ofInt ((nt * 10) + (s.A 0 a - 48)))), none, some (.long (Int64.ofInt cd)), none, some (.int (iI (s.A 0 a - 48)))]) (st' := []) rfl rfl ?_
      refine j118 dg9 gr _ (by omega) hg (by omega) ?_
      rcases hdd with rfl | ⟨rfl, hr⟩
      · exact absurd rfl q3
      · exact ⟨ATD_dg hi2 ha.1 (hd1 rfl) (by omega), fun _ => ATD_le hi2 ha.1 (hd1 rfl) (by omega)⟩
    have no : (dg = 0 ∨ ¬ (48 ≤ s.A 0 a ∧ s.A 0 a ≤ 57)) → xx_go (xt_P z) (d + 6) 185 77 [some (.ref (c + 9)), some (.ref (c + 1)), some (.int (iI p)), some (.int (iI dg)), some (.int (iI gr)), some (.long (Int64.ofInt nt)), none, some (.long (Int64.ofInt cd)), none, some (.int (iI ((s.A 0 a) - 48)))] [] hp Q := by
      intro hno
      refine go_a (pc' := 78) (ls' := [some (.ref (c + 9)), some (.ref (c + 1)), some (.int (iI p)), some (.int (iI dg)), some (.int (iI gr)), some (.long (Int64.ofInt nt)), none, some (.long (Int64.ofInt cd)), none, some (.int (iI ((s.A 0 a) - 48)))]) (st' := [.int (iI 0)]) rfl rfl ?_
      refine go_a (pc' := 79) (ls' := [some (.ref (c + 9)), some (.ref (c + 1)), some (.int (iI p)), some (.int (iI 0)), some (.int (iI gr)), some (.long (Int64.ofInt nt)), none, some (.long (Int64.ofInt cd)), none, some (.int (iI ((s.A 0 a) - 48)))]) (st' := []) rfl rfl ?_
      exact j79 0 (Or.inl rfl) (fun w => absurd w (by decide)) (fun _ => hno)
    refine go_a (pc' := 58) (ls' := [some (.ref (c + 9)), some (.ref (c + 1)), some (.int (iI p)), some (.int (iI dg)), some (.int (iI gr)), some (.long (Int64.ofInt nt)), none, some (.long (Int64.ofInt cd)), none, some (.int (iI ((s.A 0 a) - 48)))]) (st' := [.int (iI dg)]) rfl rfl ?_
    refine mi_eq0 (t := 77) rfl rfl (by omega) (by omega) (fun w => no (Or.inl (by omega))) (fun q3 => ?_)
    refine go_a (pc' := 63) (ls' := [some (.ref (c + 9)), some (.ref (c + 1)), some (.int (iI p)), some (.int (iI dg)), some (.int (iI gr)), some (.long (Int64.ofInt nt)), none, some (.long (Int64.ofInt cd)), none, some (.int (iI ((s.A 0 a) - 48)))]) (st' := [.int (iI ((s.A 0 a) - 48))]) rfl rfl ?_
    refine mi_lt0 (t := 77) rfl rfl (by omega) (by omega) (fun w => no (Or.inr (by omega))) (fun q4 => ?_)
    refine go_a (pc' := 68) (ls' := [some (.ref (c + 9)), some (.ref (c + 1)), some (.int (iI p)), some (.int (iI dg)), some (.int (iI gr)), some (.long (Int64.ofInt nt)), none, some (.long (Int64.ofInt cd)), none, some (.int (iI ((s.A 0 a) - 48)))]) (st' := [.int (iI ((s.A 0 a) - 48))]) rfl rfl ?_
    refine go_a (pc' := 70) (ls' := [some (.ref (c + 9)), some (.ref (c + 1)), some (.int (iI p)), some (.int (iI dg)), some (.int (iI gr)), some (.long (Int64.ofInt nt)), none, some (.long (Int64.ofInt cd)), none, some (.int (iI ((s.A 0 a) - 48)))]) (st' := [.int (iI 9), .int (iI ((s.A 0 a) - 48))]) rfl rfl ?_
    refine mi_gt (t := 77) rfl rfl (by omega) (by omega) (by omega) (by omega) (fun w => no (Or.inr (by omega))) (fun q5 => ?_)
    refine go_a (pc' := 74) (ls' := [some (.ref (c + 9)), some (.ref (c + 1)), some (.int (iI p)), some (.int (iI dg)), some (.int (iI gr)), some (.long (Int64.ofInt nt)), none, some (.long (Int64.ofInt cd)), none, some (.int (iI ((s.A 0 a) - 48)))]) (st' := [.int (iI 1)]) rfl rfl ?_
    refine go_a (pc' := 78) (ls' := [some (.ref (c + 9)), some (.ref (c + 1)), some (.int (iI p)), some (.int (iI dg)), some (.int (iI gr)), some (.long (Int64.ofInt nt)), none, some (.long (Int64.ofInt cd)), none, some (.int (iI ((s.A 0 a) - 48)))]) (st' := [.int (iI 1)]) rfl rfl ?_
    refine go_a (pc' := 79) (ls' := [some (.ref (c + 9)), some (.ref (c + 1)), some (.int (iI p)), some (.int (iI 1)), some (.int (iI gr)), some (.long (Int64.ofInt nt)), none, some (.long (Int64.ofInt cd)), none, some (.int (iI ((s.A 0 a) - 48)))]) (st' := []) rfl rfl ?_
    exact j79 1 (Or.inr ⟨rfl, by omega, by omega⟩) (fun _ => by omega) (fun w => absurd w (by decide))
theorem KX_e {s s1 : KS} (h : KX s) (e8 : s1.I 8 = s.I 8) (eN : s1.N = s.N) (e9 : s1.A 9 = s.A 9) (e10 : s1.A 10 = s.A 10) (e11 : s1.A 11 = s.A 11) : KX s1 := by
  refine ⟨KSA_CI ⟨eN, e9, e8⟩ h.1, ?_⟩
  have h2 := h.2
  unfold KCH at h2 ⊢
  rw [e8, eN, e10, e11]
  exact h2
theorem kz_takeAtom (z : Value) (d c : Nat) (hp : xx_H) (s : KS) (hK : KI c hp s) (hB : KB s) (hC : KX s) (lt : s.I 8 < 32768) (hO : OC hp) (hT : TXI s) (p0 : 0 ≤ s.I 9) (p1 : s.I 9 < s.I 0) (lp : 0 ≤ LIX (s.A 0 (s.I 9))) : xx_cl (xt_P z) (d + 7) 185 [.ref (c + 9), .ref (c + 1)] hp (fun v h1 => ∃ (w a x : Int) (s1 : KS), v = some (.int (iI w)) ∧ KI c h1 (s1.wI 11 x) ∧ KB (s1.wI 11 x) ∧ KX s1 ∧ kx c hp s h1 (s1.wI 11 x) 0 0 ∧ KGR (s.wI 9 a) s1 1 ∧ (s.I 9 < a ∧ a ≤ s.I 0) ∧ (KHT s → KHT s1) ∧ a = sp_ae (s.A 0) (s.I 0 - s.I 9).toNat (s.I 9) ∧ ((w = 2 ∧ sp_at (s.A 0) (s.I 9) (a - s.I 9).toNat = none) ∨ (w = 3 ∧ OB s1 x ∧ ¬ s1.N x < 0 ∧ sp_at (s.A 0) (s.I 9) (a - s.I 9).toNat = some (DK s1.N x)))) := by
  have b := hB.2.2.2.1 0 (by decide)
  have b8 := hB.2.2.2.2.2.1
  refine cl_go rfl ?_
  show xx_go (xt_P z) (d + 6) 185 0 [some (.ref (c + 9)), some (.ref (c + 1)), none, none, none, none, none, none, none, none] [] hp _
  refine go_a (pc' := 1) (ls' := [some (.ref (c + 9)), some (.ref (c + 1)), none, none, none, none, none, none, none, none]) (st' := [.ref (c + 9)]) rfl rfl ?_
  refine go_get (v := .int (iI (s.I 9))) rfl (hK.1 5 (by decide)) rfl rfl ?_
  refine go_a (pc' := 5) (ls' := [some (.ref (c + 9)), some (.ref (c + 1)), some (.int (iI (s.I 9))), none, none, none, none, none, none, none]) (st' := []) rfl rfl ?_
  refine go_a (pc' := 6) (ls' := [some (.ref (c + 9)), some (.ref (c + 1)), some (.int (iI (s.I 9))), none, none, none, none, none, none, none]) (st' := [.int (iI 1)]) rfl rfl ?_
  refine go_a (pc' := 7) (ls' := [some (.ref (c + 9)), some (.ref (c + 1)), some (.int (iI (s.I 9))), some (.int (iI 1)), none, none, none, none, none, none]) (st' := []) rfl rfl ?_
  refine go_a (pc' := 8) (ls' := [some (.ref (c + 9)), some (.ref (c + 1)), some (.int (iI (s.I 9))), some (.int (iI 1)), none, none, none, none, none, none]) (st' := [.int (iI 0)]) rfl rfl ?_
  refine go_a (pc' := 10) (ls' := [some (.ref (c + 9)), some (.ref (c + 1)), some (.int (iI (s.I 9))), some (.int (iI 1)), some (.int (iI 0)), none, none, none, none, none]) (st' := []) rfl rfl ?_
  refine go_a (pc' := 11) (ls' := [some (.ref (c + 9)), some (.ref (c + 1)), some (.int (iI (s.I 9))), some (.int (iI 1)), some (.int (iI 0)), none, none, none, none, none]) (st' := [.long (Int64.ofInt 0)]) rfl rfl ?_
  refine go_a (pc' := 13) (ls' := [some (.ref (c + 9)), some (.ref (c + 1)), some (.int (iI (s.I 9))), some (.int (iI 1)), some (.int (iI 0)), some (.long (Int64.ofInt 0)), none, none, none, none]) (st' := []) rfl rfl ?_
  refine go_a (pc' := 14) (ls' := [some (.ref (c + 9)), some (.ref (c + 1)), some (.int (iI (s.I 9))), some (.int (iI 1)), some (.int (iI 0)), some (.long (Int64.ofInt 0)), none, none, none, none]) (st' := [.long (Int64.ofInt 0)]) rfl rfl ?_
  refine go_a (pc' := 16) (ls' := [some (.ref (c + 9)), some (.ref (c + 1)), some (.int (iI (s.I 9))), some (.int (iI 1)), some (.int (iI 0)), some (.long (Int64.ofInt 0)), none, some (.long (Int64.ofInt 0)), none, none]) (st' := []) rfl rfl ?_
  have e : s.wI 9 (s.I 9) = s := wI_eta rfl
  refine kz_atom_loop z d c (s.I 9) hp s s hO hT p0 (by omega) _ (fun a dg gr nt cd y9 hp1 ha hd hg hn hc hK hB hX hI hst => ?_) _ (s.I 9) 1 0 0 0 none hp (Nat.le_refl _) (by omega) (Or.inr rfl) (Or.inl rfl) (by decide) (by rw [show s.I 9 - s.I 9 = 0 by omega]; decide) (by rw [e]; exact hK) (by rw [e]; exact hB) (by rw [e]; exact kx_rf) ?_
  · obtain ⟨hi1, ⟨hi2, hi4⟩, hi3⟩ := hI
    have ap : s.I 9 < a := by
      by_cases q : a = s.I 9
      · rw [q] at hst
        omega
      · omega
    have ae : a = sp_ae (s.A 0) (s.I 0 - s.I 9).toNat (s.I 9) := (sp_ae_eq (s.A 0) _ _ _ (by omega) (by omega) hi1 (by omega)).symm
    have C1 : KX (s.wI 9 a) := KX_e hC rfl rfl rfl rfl rfl
    have cbb := cbn_b (n := a - s.I 9)
    have long : sp_at (s.A 0) (s.I 9) (a - s.I 9).toNat = none → xx_go (xt_P z) (d + 6) 185 180 [some (.ref (c + 9)), some (.ref (c + 1)), some (.int (iI (s.I 9))), some (.int (iI dg)), some (.int (iI gr)), some (.long (Int64.ofInt nt)), none, some (.long (Int64.ofInt cd)), none, y9] [] hp1 (fun v h1 => ∃ (w a x : Int) (s1 : KS), v = some (.int (iI w)) ∧ KI c h1 (s1.wI 11 x) ∧ KB (s1.wI 11 x) ∧ KX s1 ∧ kx c hp s h1 (s1.wI 11 x) 0 0 ∧ KGR (s.wI 9 a) s1 1 ∧ (s.I 9 < a ∧ a ≤ s.I 0) ∧ (KHT s → KHT s1) ∧ a = sp_ae (s.A 0) (s.I 0 - s.I 9).toNat (s.I 9) ∧ ((w = 2 ∧ sp_at (s.A 0) (s.I 9) (a - s.I 9).toNat = none) ∨ (w = 3 ∧ OB s1 x ∧ ¬ s1.N x < 0 ∧ sp_at (s.A 0) (s.I 9) (a - s.I 9).toNat = some (DK s1.N x)))) := by
      intro hno
      refine go_a (pc' := 181) (ls' := [some (.ref (c + 9)), some (.ref (c + 1)), some (.int (iI (s.I 9))), some (.int (iI dg)), some (.int (iI gr)), some (.long (Int64.ofInt nt)), none, some (.long (Int64.ofInt cd)), none, y9]) (st' := [.int (iI 2)]) rfl rfl ?_
      exact go_r rfl rfl rfl rfl rfl rfl ⟨2, a, (s.wI 9 a).I 11, s.wI 9 a, rfl, by rw [wI_eta rfl]; exact hK, by rw [wI_eta rfl]; exact hB, C1, by rw [wI_eta rfl]; exact hX, KGR_w KGR_rf (by decide), ⟨ap, ha.2⟩, id, ae, Or.inl ⟨rfl, hno⟩⟩
    have good : (dg = 1 ∧ gr = 0 ∨ dg = 0 ∧ a - s.I 9 ≤ 11) → xx_go (xt_P z) (d + 6) 185 182 [some (.ref (c + 9)), some (.ref (c + 1)), some (.int (iI (s.I 9))), some (.int (iI dg)), some (.int (iI gr)), some (.long (Int64.ofInt nt)), none, some (.long (Int64.ofInt cd)), none, y9] [] hp1 (fun v h1 => ∃ (w a x : Int) (s1 : KS), v = some (.int (iI w)) ∧ KI c h1 (s1.wI 11 x) ∧ KB (s1.wI 11 x) ∧ KX s1 ∧ kx c hp s h1 (s1.wI 11 x) 0 0 ∧ KGR (s.wI 9 a) s1 1 ∧ (s.I 9 < a ∧ a ≤ s.I 0) ∧ (KHT s → KHT s1) ∧ a = sp_ae (s.A 0) (s.I 0 - s.I 9).toNat (s.I 9) ∧ ((w = 2 ∧ sp_at (s.A 0) (s.I 9) (a - s.I 9).toNat = none) ∨ (w = 3 ∧ OB s1 x ∧ ¬ s1.N x < 0 ∧ sp_at (s.A 0) (s.I 9) (a - s.I 9).toNat = some (DK s1.N x)))) := by
      intro hyes
      refine go_a (pc' := 183) (ls' := [some (.ref (c + 9)), some (.ref (c + 1)), some (.int (iI (s.I 9))), some (.int (iI dg)), some (.int (iI gr)), some (.long (Int64.ofInt nt)), none, some (.long (Int64.ofInt cd)), none, y9]) (st' := [.ref (c + 9)]) rfl rfl ?_
      refine go_a (pc' := 184) (ls' := [some (.ref (c + 9)), some (.ref (c + 1)), some (.int (iI (s.I 9))), some (.int (iI dg)), some (.int (iI gr)), some (.long (Int64.ofInt nt)), none, some (.long (Int64.ofInt cd)), none, y9]) (st' := [.int (iI dg), .ref (c + 9)]) rfl rfl ?_
      refine mi_eq0 (t := 199) rfl rfl (by omega) (by omega) (fun q => ?_) (fun q => ?_)
      · refine go_a (pc' := 200) (ls' := [some (.ref (c + 9)), some (.ref (c + 1)), some (.int (iI (s.I 9))), some (.int (iI dg)), some (.int (iI gr)), some (.long (Int64.ofInt nt)), none, some (.long (Int64.ofInt cd)), none, y9]) (st' := [.ref (c + 9), .ref (c + 9)]) rfl rfl ?_
        refine go_get (v := .ref (c + 4)) rfl (hK.1 5 (by decide)) rfl rfl ?_
        refine go_a (pc' := 205) (ls' := [some (.ref (c + 9)), some (.ref (c + 1)), some (.int (iI (s.I 9))), some (.int (iI dg)), some (.int (iI gr)), some (.long (Int64.ofInt nt)), none, some (.long (Int64.ofInt cd)), none, y9]) (st' := [.long (Int64.ofInt cd), .ref (c + 4), .ref (c + 9)]) rfl rfl ?_
        refine go_v (m := 13) (as := [.ref (c + 4), .long (Int64.ofInt cd)]) (r := [.ref (c + 9)]) rfl rfl rfl (hK.1 3 (by decide)) rfl rfl (kz_symbol z (d + 3) c cd hp1 (s.wI 9 a) hK hB C1 lt (by omega) (by omega)) (fun v h1 hq => ?_)
        obtain ⟨x, s1, rfl, K1, B1, D1, X1, G1, O1, N1, T1, H1, -⟩ := hq
        have hX := kx_tr hX X1
        show xx_go (xt_P z) (d + 6) 185 208 [some (.ref (c + 9)), some (.ref (c + 1)), some (.int (iI (s.I 9))), some (.int (iI dg)), some (.int (iI gr)), some (.long (Int64.ofInt nt)), none, some (.long (Int64.ofInt cd)), none, y9] [.int (iI x), .ref (c + 9)] h1 _
        refine kput_11 (x := x) K1 hX rfl rfl (fun hp hK hX => ?_)
        refine go_a (pc' := 212) (ls' := [some (.ref (c + 9)), some (.ref (c + 1)), some (.int (iI (s.I 9))), some (.int (iI dg)), some (.int (iI gr)), some (.long (Int64.ofInt nt)), none, some (.long (Int64.ofInt cd)), none, y9]) (st' := [.int (iI 3)]) rfl rfl ?_
        have b1 := B1.2.2.2.2.2.1
        have sa9 : sp_at (s.A 0) (s.I 9) (a - s.I 9).toNat = some (DK s1.N x) := by
          unfold sp_at
          rw [if_neg (by omega), if_pos (by omega), T1, hi3]
          have e9 : (if a - s.I 9 < 11 then (a - s.I 9).toNat else 11) = (a - s.I 9).toNat := by split <;> omega
          rw [e9]
        exact go_r rfl rfl rfl rfl rfl rfl ⟨3, a, x, s1, rfl, hK, KB_wF B1 (by omega) (by omega) (by decide), D1, hX, G1, ⟨ap, ha.2⟩, H1, ae, Or.inr ⟨rfl, O1, by omega, sa9⟩⟩
      · refine go_a (pc' := 188) (ls' := [some (.ref (c + 9)), some (.ref (c + 1)), some (.int (iI (s.I 9))), some (.int (iI dg)), some (.int (iI gr)), some (.long (Int64.ofInt nt)), none, some (.long (Int64.ofInt cd)), none, y9]) (st' := [.ref (c + 9), .ref (c + 9)]) rfl rfl ?_
        refine go_get (v := .ref (c + 4)) rfl (hK.1 5 (by decide)) rfl rfl ?_
        refine go_a (pc' := 193) (ls' := [some (.ref (c + 9)), some (.ref (c + 1)), some (.int (iI (s.I 9))), some (.int (iI dg)), some (.int (iI gr)), some (.long (Int64.ofInt nt)), none, some (.long (Int64.ofInt cd)), none, y9]) (st' := [.long (Int64.ofInt nt), .ref (c + 4), .ref (c + 9)]) rfl rfl ?_
        refine go_v (m := 186) (as := [.ref (c + 4), .long (Int64.ofInt nt)]) (r := [.ref (c + 9)]) rfl rfl rfl (hK.1 3 (by decide)) rfl rfl (kz_natural z (d + 3) c nt hp1 (s.wI 9 a) hK hB C1 lt (by omega) (by omega)) (fun v h1 hq => ?_)
        obtain ⟨x, s1, rfl, K1, B1, D1, X1, G1, O1, N1, T1, H1, -⟩ := hq
        have hX := kx_tr hX X1
        show xx_go (xt_P z) (d + 6) 185 196 [some (.ref (c + 9)), some (.ref (c + 1)), some (.int (iI (s.I 9))), some (.int (iI dg)), some (.int (iI gr)), some (.long (Int64.ofInt nt)), none, some (.long (Int64.ofInt cd)), none, y9] [.int (iI x), .ref (c + 9)] h1 _
        refine go_a (pc' := 208) (ls' := [some (.ref (c + 9)), some (.ref (c + 1)), some (.int (iI (s.I 9))), some (.int (iI dg)), some (.int (iI gr)), some (.long (Int64.ofInt nt)), none, some (.long (Int64.ofInt cd)), none, y9]) (st' := [.int (iI x), .ref (c + 9)]) rfl rfl ?_
        refine kput_11 (x := x) K1 hX rfl rfl (fun hp hK hX => ?_)
        refine go_a (pc' := 212) (ls' := [some (.ref (c + 9)), some (.ref (c + 1)), some (.int (iI (s.I 9))), some (.int (iI dg)), some (.int (iI gr)), some (.long (Int64.ofInt nt)), none, some (.long (Int64.ofInt cd)), none, y9]) (st' := [.int (iI 3)]) rfl rfl ?_
        have b1 := B1.2.2.2.2.2.1
        have sa9 : sp_at (s.A 0) (s.I 9) (a - s.I 9).toNat = some (DK s1.N x) := by
          unfold sp_at
          rcases hi4 (by omega) with h4 | h4
          · rw [if_pos (by omega), T1, h4.1]
            rfl
          · omega
        exact go_r rfl rfl rfl rfl rfl rfl ⟨3, a, x, s1, rfl, hK, KB_wF B1 (by omega) (by omega) (by decide), D1, hX, G1, ⟨ap, ha.2⟩, H1, ae, Or.inr ⟨rfl, O1, by omega, sa9⟩⟩
    refine go_a (pc' := 158) (ls' := [some (.ref (c + 9)), some (.ref (c + 1)), some (.int (iI (s.I 9))), some (.int (iI dg)), some (.int (iI gr)), some (.long (Int64.ofInt nt)), none, some (.long (Int64.ofInt cd)), none, y9]) (st' := [.int (iI dg)]) rfl rfl ?_
    refine mi_eq0 (t := 169) rfl rfl (by omega) (by omega) (fun q => ?_) (fun q => ?_)
    · refine go_a (pc' := 170) (ls' := [some (.ref (c + 9)), some (.ref (c + 1)), some (.int (iI (s.I 9))), some (.int (iI dg)), some (.int (iI gr)), some (.long (Int64.ofInt nt)), none, some (.long (Int64.ofInt cd)), none, y9]) (st' := [.ref (c + 9)]) rfl rfl ?_
      refine go_get (v := .int (iI a)) rfl (hK.1 5 (by decide)) rfl rfl ?_
      refine go_a (pc' := 174) (ls' := [some (.ref (c + 9)), some (.ref (c + 1)), some (.int (iI (s.I 9))), some (.int (iI dg)), some (.int (iI gr)), some (.long (Int64.ofInt nt)), none, some (.long (Int64.ofInt cd)), none, y9]) (st' := [.int (iI (s.I 9)), .int (iI a)]) rfl rfl ?_
      refine mi_sub rfl ?_
      refine go_a (pc' := 177) (ls' := [some (.ref (c + 9)), some (.ref (c + 1)), some (.int (iI (s.I 9))), some (.int (iI dg)), some (.int (iI gr)), some (.long (Int64.ofInt nt)), none, some (.long (Int64.ofInt cd)), none, y9]) (st' := [.int (iI 11), .int (iI (a - (s.I 9)))]) rfl rfl ?_
      refine mi_le (t := 182) rfl rfl (by omega) (by omega) (by omega) (by omega) (fun w => good (Or.inr ⟨by omega, by omega⟩)) (fun w => long (by unfold sp_at; rw [if_neg (by omega), if_neg (by omega)]))
    · refine go_a (pc' := 163) (ls' := [some (.ref (c + 9)), some (.ref (c + 1)), some (.int (iI (s.I 9))), some (.int (iI dg)), some (.int (iI gr)), some (.long (Int64.ofInt nt)), none, some (.long (Int64.ofInt cd)), none, y9]) (st' := [.int (iI gr)]) rfl rfl ?_
      refine mi_eq0 (t := 182) rfl rfl (by omega) (by omega) (fun w => good (Or.inl ⟨by omega, by omega⟩)) (fun w => ?_)
      refine go_a (pc' := 180) (ls' := [some (.ref (c + 9)), some (.ref (c + 1)), some (.int (iI (s.I 9))), some (.int (iI dg)), some (.int (iI gr)), some (.long (Int64.ofInt nt)), none, some (.long (Int64.ofInt cd)), none, y9]) (st' := []) rfl rfl ?_
      refine long ?_
      unfold sp_at
      rcases hi4 (by omega) with h4 | h4
      · omega
      · rw [if_pos (by omega), h4.1]
        rfl
  · refine ⟨fun e e0 e1 => absurd e1 (by omega), ⟨?_, fun _ => Or.inl ⟨?_, rfl⟩⟩, ?_⟩
    · rw [show s.I 9 - s.I 9 = 0 by omega]
      rfl
    · rw [show s.I 9 - s.I 9 = 0 by omega]
      rfl
    · rw [show s.I 9 - s.I 9 = 0 by omega]
      rfl
