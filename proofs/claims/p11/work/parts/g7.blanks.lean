def sp_sk (f : Int → Int) : Nat → Int → Int → Int
  | 0, p, _ => p
  | m + 1, p, r => if f p = 10 then sp_sk f m (p + 1) 0 else if f p = 59 then sp_sk f m (p + 1) 1 else if f p = 32 ∨ r = 1 then sp_sk f m (p + 1) r else p
theorem sp_sk_s (f : Int → Int) (m : Nat) (p r : Int) : sp_sk f (m + 1) p r = if f p = 10 then sp_sk f m (p + 1) 0 else if f p = 59 then sp_sk f m (p + 1) 1 else if f p = 32 ∨ r = 1 then sp_sk f m (p + 1) r else p := rfl
theorem sp_sk_R (f : Int → Int) : ∀ (m : Nat) (p r : Int), p ≤ sp_sk f m p r ∧ sp_sk f m p r ≤ p + m
  | 0, p, r => by
    show p ≤ p ∧ p ≤ p + ((0 : Nat) : Int)
    omega
  | m + 1, p, r => by
    have h0 := sp_sk_R f m (p + 1) 0
    have h1 := sp_sk_R f m (p + 1) 1
    have h2 := sp_sk_R f m (p + 1) r
    rw [sp_sk_s]
    split
    · omega
    · split
      · omega
      · split <;> omega
theorem kz_skip_loop (z : Value) (d c : Nat) (hp0 : xx_H) (s0 s : KS) : ∀ (f : Nat) (p m : Int) (y : Option Value) (hp : xx_H), (s.I 0 - p).toNat = f → 0 ≤ p → p ≤ s.I 0 → s.I 0 ≤ 8192 → (m = 0 ∨ m = 1) → KI c hp (s.wI 9 p) → KB (s.wI 9 p) → kx c hp0 s0 hp (s.wI 9 p) 0 0 → xx_go (xt_P z) (d + 1) 42 2 [some (.ref (c + 9)), some (.ref (c + 1)), some (.int (iI m)), y] [] hp (fun v h1 => v = none ∧ ∃ a : Int, KI c h1 (s.wI 9 a) ∧ KB (s.wI 9 a) ∧ kx c hp0 s0 h1 (s.wI 9 a) 0 0 ∧ a = sp_sk (s.A 0) f p m) := by
  intro f
  induction f with
  | zero =>
    intro p m y hp hf p0 p1 l0 hm hK hB hX
    refine go_a (pc' := 3) (ls' := [some (.ref (c + 9)), some (.ref (c + 1)), some (.int (iI m)), y]) (st' := [.ref (c + 9)]) rfl rfl ?_
    refine go_get (v := .int (iI p)) rfl (hK.1 5 (by decide)) rfl rfl ?_
    refine go_a (pc' := 7) (ls' := [some (.ref (c + 9)), some (.ref (c + 1)), some (.int (iI m)), y]) (st' := [.ref (c + 1), .int (iI p)]) rfl rfl ?_
    refine go_v (m := 34) (as := [.ref (c + 1)]) (r := [.int (iI p)]) rfl rfl rfl (hK.1 1 (by decide)) rfl rfl (kr_length_0 z d c hp (s.wI 9 p) hK) (fun v h1 hq => ?_)
    obtain ⟨rfl, e⟩ := hq
    rw [e]
    clear e h1
    show xx_go (xt_P z) (d + 1) 42 10 [some (.ref (c + 9)), some (.ref (c + 1)), some (.int (iI m)), y] [.int (iI (s.I 0)), .int (iI p)] hp _
    refine mi_ge (t := 68) rfl rfl (by omega) (by omega) (by omega) (by omega) (fun _ => ?_) (fun q => absurd (show p ≥ s.I 0 by omega) q)
    exact go_r rfl rfl rfl rfl rfl rfl ⟨rfl, p, hK, hB, hX, rfl⟩
  | succ f ih =>
    intro p m y hp hf p0 p1 l0 hm hK hB hX
    refine go_a (pc' := 3) (ls' := [some (.ref (c + 9)), some (.ref (c + 1)), some (.int (iI m)), y]) (st' := [.ref (c + 9)]) rfl rfl ?_
    refine go_get (v := .int (iI p)) rfl (hK.1 5 (by decide)) rfl rfl ?_
    refine go_a (pc' := 7) (ls' := [some (.ref (c + 9)), some (.ref (c + 1)), some (.int (iI m)), y]) (st' := [.ref (c + 1), .int (iI p)]) rfl rfl ?_
    refine go_v (m := 34) (as := [.ref (c + 1)]) (r := [.int (iI p)]) rfl rfl rfl (hK.1 1 (by decide)) rfl rfl (kr_length_0 z d c hp (s.wI 9 p) hK) (fun v h1 hq => ?_)
    obtain ⟨rfl, e⟩ := hq
    rw [e]
    clear e h1
    show xx_go (xt_P z) (d + 1) 42 10 [some (.ref (c + 9)), some (.ref (c + 1)), some (.int (iI m)), y] [.int (iI (s.I 0)), .int (iI p)] hp _
    refine mi_ge (t := 68) rfl rfl (by omega) (by omega) (by omega) (by omega) (fun q => absurd (show s.I 0 ≤ p from q) (by omega)) (fun q1 => ?_)
    have nx : ∀ (m9 : Int) (w : Option Value), (m9 = 0 ∨ m9 = 1) → sp_sk (s.A 0) (f + 1) p m = sp_sk (s.A 0) f (p + 1) m9 → xx_go (xt_P z) (d + 1) 42 55 [some (.ref (c + 9)), some (.ref (c + 1)), some (.int (iI m9)), w] [] hp (fun v h1 => v = none ∧ ∃ a : Int, KI c h1 (s.wI 9 a) ∧ KB (s.wI 9 a) ∧ kx c hp0 s0 h1 (s.wI 9 a) 0 0 ∧ a = sp_sk (s.A 0) (f + 1) p m) := by
      intro m9 w hm em
      refine go_a (pc' := 56) (ls' := [some (.ref (c + 9)), some (.ref (c + 1)), some (.int (iI m9)), w]) (st' := [.ref (c + 9)]) rfl rfl ?_
      refine go_a (pc' := 57) (ls' := [some (.ref (c + 9)), some (.ref (c + 1)), some (.int (iI m9)), w]) (st' := [.ref (c + 9), .ref (c + 9)]) rfl rfl ?_
      refine go_get (v := .int (iI p)) rfl (hK.1 5 (by decide)) rfl rfl ?_
      refine go_a (pc' := 61) (ls' := [some (.ref (c + 9)), some (.ref (c + 1)), some (.int (iI m9)), w]) (st' := [.int (iI 1), .int (iI p), .ref (c + 9)]) rfl rfl ?_
      refine mi_add rfl ?_
      refine kput_9 (x := p + 1) hK hX rfl rfl (fun hp hK hX => ?_)
      refine go_a (pc' := 2) (ls' := [some (.ref (c + 9)), some (.ref (c + 1)), some (.int (iI m9)), w]) (st' := []) rfl rfl ?_
      rw [wI_wI] at hK hX
      refine go_w (fun v h1 hq => ?_) (ih (p + 1) m9 w hp (by omega) (by omega) (by omega) l0 hm hK (by have := KB_wF (j := 9) (x := p + 1) hB (by omega) (by omega) (by decide); rw [wI_wI] at this; exact this) hX)
      obtain ⟨e1, a, a1, a2, a3, a4⟩ := hq
      exact ⟨e1, a, a1, a2, a3, by rw [em]; exact a4⟩
    refine go_a (pc' := 14) (ls' := [some (.ref (c + 9)), some (.ref (c + 1)), some (.int (iI m)), y]) (st' := [.ref (c + 1)]) rfl rfl ?_
    refine go_a (pc' := 15) (ls' := [some (.ref (c + 9)), some (.ref (c + 1)), some (.int (iI m)), y]) (st' := [.ref (c + 9), .ref (c + 1)]) rfl rfl ?_
    refine go_get (v := .int (iI p)) rfl (hK.1 5 (by decide)) rfl rfl ?_
    refine go_v (m := 43) (as := [.ref (c + 1), .int (iI p)]) (r := []) rfl rfl rfl (hK.1 1 (by decide)) rfl rfl (kr_at_0 z d c p hp (s.wI 9 p) hK hB (by omega) (by omega)) (fun v h1 hq => ?_)
    obtain ⟨hq, e⟩ := hq
    rw [e]
    clear e h1
    have rc := hB.1 0 p
    have rc2 : -2147483648 ≤ s.A 0 p ∧ s.A 0 p ≤ 2147483647 := rc
    have hq : v = some (.int (iI (s.A 0 p))) := hq.elim (fun q => q.2.2) (fun q => absurd ⟨p0, show p < s.I 0 by omega⟩ q.1)
    subst hq
    show xx_go (xt_P z) (d + 1) 42 21 [some (.ref (c + 9)), some (.ref (c + 1)), some (.int (iI m)), y] [.int (iI (s.A 0 p))] hp _
    refine go_a (pc' := 22) (ls' := [some (.ref (c + 9)), some (.ref (c + 1)), some (.int (iI m)), some (.int (iI (s.A 0 p)))]) (st' := []) rfl rfl ?_
    refine go_a (pc' := 23) (ls' := [some (.ref (c + 9)), some (.ref (c + 1)), some (.int (iI m)), some (.int (iI (s.A 0 p)))]) (st' := [.int (iI (s.A 0 p))]) rfl rfl ?_
    refine go_a (pc' := 25) (ls' := [some (.ref (c + 9)), some (.ref (c + 1)), some (.int (iI m)), some (.int (iI (s.A 0 p)))]) (st' := [.int (iI 10), .int (iI (s.A 0 p))]) rfl rfl ?_
    refine mi_ne (t := 33) rfl rfl (by omega) (by omega) (by omega) (by omega) (fun q2 => ?_) (fun q2 => ?_)
    · refine go_a (pc' := 34) (ls' := [some (.ref (c + 9)), some (.ref (c + 1)), some (.int (iI m)), some (.int (iI (s.A 0 p)))]) (st' := [.int (iI (s.A 0 p))]) rfl rfl ?_
      refine go_a (pc' := 36) (ls' := [some (.ref (c + 9)), some (.ref (c + 1)), some (.int (iI m)), some (.int (iI (s.A 0 p)))]) (st' := [.int (iI 59), .int (iI (s.A 0 p))]) rfl rfl ?_
      refine mi_ne (t := 44) rfl rfl (by omega) (by omega) (by omega) (by omega) (fun q3 => ?_) (fun q3 => ?_)
      · refine go_a (pc' := 45) (ls' := [some (.ref (c + 9)), some (.ref (c + 1)), some (.int (iI m)), some (.int (iI (s.A 0 p)))]) (st' := [.int (iI (s.A 0 p))]) rfl rfl ?_
        refine go_a (pc' := 47) (ls' := [some (.ref (c + 9)), some (.ref (c + 1)), some (.int (iI m)), some (.int (iI (s.A 0 p)))]) (st' := [.int (iI 32), .int (iI (s.A 0 p))]) rfl rfl ?_
        refine mi_eq (t := 55) rfl rfl (by omega) (by omega) (by omega) (by omega) (fun q4 => nx m _ hm (by rw [sp_sk_s, if_neg (by omega), if_neg (by omega), if_pos (by omega)])) (fun q4 => ?_)
        refine go_a (pc' := 51) (ls' := [some (.ref (c + 9)), some (.ref (c + 1)), some (.int (iI m)), some (.int (iI (s.A 0 p)))]) (st' := [.int (iI m)]) rfl rfl ?_
        refine mi_ne0 (t := 55) rfl rfl (by omega) (by omega) (fun q5 => nx m _ hm (by rw [sp_sk_s, if_neg (by omega), if_neg (by omega), if_pos (by omega)])) (fun q5 => ?_)
        exact go_r rfl rfl rfl rfl rfl rfl ⟨rfl, p, hK, hB, hX, by rw [sp_sk_s, if_neg (by omega), if_neg (by omega), if_neg (by omega)]⟩
      · refine go_a (pc' := 40) (ls' := [some (.ref (c + 9)), some (.ref (c + 1)), some (.int (iI m)), some (.int (iI (s.A 0 p)))]) (st' := [.int (iI 1)]) rfl rfl ?_
        refine go_a (pc' := 41) (ls' := [some (.ref (c + 9)), some (.ref (c + 1)), some (.int (iI 1)), some (.int (iI (s.A 0 p)))]) (st' := []) rfl rfl ?_
        refine go_a (pc' := 55) (ls' := [some (.ref (c + 9)), some (.ref (c + 1)), some (.int (iI 1)), some (.int (iI (s.A 0 p)))]) (st' := []) rfl rfl ?_
        exact nx 1 _ (Or.inr rfl) (by rw [sp_sk_s, if_neg (by omega), if_pos (by omega)])
    · refine go_a (pc' := 29) (ls' := [some (.ref (c + 9)), some (.ref (c + 1)), some (.int (iI m)), some (.int (iI (s.A 0 p)))]) (st' := [.int (iI 0)]) rfl rfl ?_
      refine go_a (pc' := 30) (ls' := [some (.ref (c + 9)), some (.ref (c + 1)), some (.int (iI 0)), some (.int (iI (s.A 0 p)))]) (st' := []) rfl rfl ?_
      refine go_a (pc' := 55) (ls' := [some (.ref (c + 9)), some (.ref (c + 1)), some (.int (iI 0)), some (.int (iI (s.A 0 p)))]) (st' := []) rfl rfl ?_
      exact nx 0 _ (Or.inl rfl) (by rw [sp_sk_s, if_pos (by omega)])
theorem kz_skip (z : Value) (d c : Nat) (hp : xx_H) (s : KS) (hK : KI c hp s) (hB : KB s) (p0 : 0 ≤ s.I 9) (p1 : s.I 9 ≤ s.I 0) : xx_cl (xt_P z) (d + 2) 42 [.ref (c + 9), .ref (c + 1)] hp (fun v h1 => v = none ∧ ∃ a : Int, KI c h1 (s.wI 9 a) ∧ KB (s.wI 9 a) ∧ kx c hp s h1 (s.wI 9 a) 0 0 ∧ a = sp_sk (s.A 0) (s.I 0 - s.I 9).toNat (s.I 9) 0) := by
  have b := hB.2.2.2.1 0 (by decide)
  refine cl_go rfl ?_
  show xx_go (xt_P z) (d + 1) 42 0 [some (.ref (c + 9)), some (.ref (c + 1)), none, none] [] hp _
  refine go_a (pc' := 1) (ls' := [some (.ref (c + 9)), some (.ref (c + 1)), none, none]) (st' := [.int (iI 0)]) rfl rfl ?_
  refine go_a (pc' := 2) (ls' := [some (.ref (c + 9)), some (.ref (c + 1)), some (.int (iI 0)), none]) (st' := []) rfl rfl ?_
  have e : s.wI 9 (s.I 9) = s := wI_eta rfl
  exact kz_skip_loop z d c hp s s _ (s.I 9) 0 none hp rfl p0 p1 (by omega) (Or.inl rfl) (by rw [e]; exact hK) (by rw [e]; exact hB) (by rw [e]; exact kx_rf)
theorem mx_skip_loop (z : Value) (d : Nat) (h R : xx_H) (I : Nat → Int) (A : Nat → Int → Int) (N : Int → Int) (hc : 12 ≤ h.length) (t0 : 0 ≤ I 13) (t1 : I 13 ≤ 3000) (rt11 : ∀ e : Int, 0 ≤ A 11 e ∧ A 11 e ≤ 255) : ∀ (f : Nat) (a : Int), (I 13 - a).toNat = f → 0 ≤ a → a ≤ I 13 → (xx_go (xt_P z) d 71 2 [some (.ref h.length), some (.int (iI 1))] [] (mh h R (su I 20 a) A N) (fun v h1 => v = none ∧ h1 = mh h R (su I 20 (sp_sk (A 11) f a 0)) A N)) ∧ (xx_go (xt_P z) d 71 31 [some (.ref h.length), some (.int (iI 1))] [] (mh h R (su I 20 a) A N) (fun v h1 => v = none ∧ h1 = mh h R (su I 20 (sp_sk (A 11) f a 1)) A N)) := by
  intro f
  induction f with
  | zero =>
    intro a hf a0 a1
    have ea : a = I 13 := by omega
    have fin : xx_go (xt_P z) d 71 2 [some (.ref h.length), some (.int (iI 1))] [] (mh h R (su I 20 a) A N) (fun v h1 => v = none ∧ h1 = mh h R (su I 20 (sp_sk (A 11) 0 a 0)) A N) := by
      refine go_a (pc' := 3) (ls' := [some (.ref h.length), some (.int (iI 1))]) (st' := [.int (iI 1)]) rfl rfl ?_
      refine mi_eq0 (t := 115) rfl rfl (by omega) (by omega) (fun q => absurd q (by decide)) (fun _ => ?_)
      refine go_a (pc' := 7) (ls' := [some (.ref h.length), some (.int (iI 1))]) (st' := [.ref h.length]) rfl rfl ?_
      refine go_get (v := .int (iI a)) rfl mh_o rfl rfl ?_
      refine go_a (pc' := 11) (ls' := [some (.ref h.length), some (.int (iI 1))]) (st' := [.ref h.length, .int (iI a)]) rfl rfl ?_
      refine go_get (v := .int (iI (I 13))) rfl mh_o rfl rfl ?_
      refine mi_ge (t := 115) rfl rfl (by omega) (by omega) (by omega) (by omega) (fun _ => ?_) (fun q => absurd (show I 13 ≤ a by omega) q)
      exact go_r rfl rfl rfl rfl rfl rfl ⟨rfl, rfl⟩
    refine ⟨fin, ?_⟩
    refine go_a (pc' := 32) (ls' := [some (.ref h.length), some (.int (iI 1))]) (st' := [.ref h.length]) rfl rfl ?_
    refine go_get (v := .int (iI a)) rfl mh_o rfl rfl ?_
    refine go_a (pc' := 36) (ls' := [some (.ref h.length), some (.int (iI 1))]) (st' := [.ref h.length, .int (iI a)]) rfl rfl ?_
    refine go_get (v := .int (iI (I 13))) rfl mh_o rfl rfl ?_
    refine mi_ge (t := 2) rfl rfl (by omega) (by omega) (by omega) (by omega) (fun _ => ?_) (fun q => absurd (show I 13 ≤ a by omega) q)
    exact fin
  | succ f ih =>
    intro a hf a0 a1
    have r := rt11 a
    have nx := ih (a + 1) (by omega) (by omega) (by omega)
    have two : xx_go (xt_P z) d 71 2 [some (.ref h.length), some (.int (iI 1))] [] (mh h R (su I 20 a) A N) (fun v h1 => v = none ∧ h1 = mh h R (su I 20 (sp_sk (A 11) (f + 1) a 0)) A N) := by
      refine go_a (pc' := 3) (ls' := [some (.ref h.length), some (.int (iI 1))]) (st' := [.int (iI 1)]) rfl rfl ?_
      refine mi_eq0 (t := 115) rfl rfl (by omega) (by omega) (fun q => absurd q (by decide)) (fun _ => ?_)
      refine go_a (pc' := 7) (ls' := [some (.ref h.length), some (.int (iI 1))]) (st' := [.ref h.length]) rfl rfl ?_
      refine go_get (v := .int (iI a)) rfl mh_o rfl rfl ?_
      refine go_a (pc' := 11) (ls' := [some (.ref h.length), some (.int (iI 1))]) (st' := [.ref h.length, .int (iI a)]) rfl rfl ?_
      refine go_get (v := .int (iI (I 13))) rfl mh_o rfl rfl ?_
      refine mi_ge (t := 115) rfl rfl (by omega) (by omega) (by omega) (by omega) (fun q => absurd q (by omega)) (fun _ => ?_)
      refine go_a (pc' := 18) (ls' := [some (.ref h.length), some (.int (iI 1))]) (st' := [.ref h.length]) rfl rfl ?_
      refine go_get rfl mh_o rfl rfl ?_
      refine go_a (pc' := 22) (ls' := [some (.ref h.length), some (.int (iI 1))]) (st' := [.ref h.length, .ref (h.length + 11)]) rfl rfl ?_
      refine go_get (v := .int (iI a)) rfl mh_o rfl rfl ?_
      refine mi_ild rfl mh_a11 (by omega) (by omega) (by decide) ?_
      refine go_a (pc' := 28) (ls' := [some (.ref h.length), some (.int (iI 1))]) (st' := [.int (iI 59), .int (iI (A 11 a))]) rfl rfl ?_
      refine mi_ne (t := 69) rfl rfl (by omega) (by omega) (by omega) (by omega) (fun b59 => ?_) (fun b59 => ?_)
      · refine go_a (pc' := 70) (ls' := [some (.ref h.length), some (.int (iI 1))]) (st' := [.ref h.length]) rfl rfl ?_
        refine go_get rfl mh_o rfl rfl ?_
        refine go_a (pc' := 74) (ls' := [some (.ref h.length), some (.int (iI 1))]) (st' := [.ref h.length, .ref (h.length + 11)]) rfl rfl ?_
        refine go_get (v := .int (iI a)) rfl mh_o rfl rfl ?_
        refine mi_ild rfl mh_a11 (by omega) (by omega) (by decide) ?_
        refine go_a (pc' := 80) (ls' := [some (.ref h.length), some (.int (iI 1))]) (st' := [.int (iI 32), .int (iI (A 11 a))]) rfl rfl ?_
        refine mi_eq (t := 97) rfl rfl (by omega) (by omega) (by omega) (by omega) (fun b32 => ?_) (fun b32 => ?_)
        · refine go_a (pc' := 98) (ls' := [some (.ref h.length), some (.int (iI 1))]) (st' := [.ref h.length]) rfl rfl ?_
          refine go_a (pc' := 99) (ls' := [some (.ref h.length), some (.int (iI 1))]) (st' := [.ref h.length, .ref h.length]) rfl rfl ?_
          refine go_get (v := .int (iI a)) rfl mh_o rfl rfl ?_
          refine go_a (pc' := 103) (ls' := [some (.ref h.length), some (.int (iI 1))]) (st' := [.int (iI 1), .int (iI a), .ref h.length]) rfl rfl ?_
          refine mi_add rfl ?_
          refine go_put (j := 20) rfl mh_o rfl rfl (show 12 ≤ _ from hc) (show 20 < 86 by decide) rfl rfl ?_
          rw [mh_p20]
          refine go_a (pc' := 2) (ls' := [some (.ref h.length), some (.int (iI 1))]) (st' := []) rfl rfl ?_
          rw [su_su, sp_sk_s, if_neg (by omega), if_neg (by omega), if_pos (by omega)]
          exact nx.1
        · refine go_a (pc' := 84) (ls' := [some (.ref h.length), some (.int (iI 1))]) (st' := [.ref h.length]) rfl rfl ?_
          refine go_get rfl mh_o rfl rfl ?_
          refine go_a (pc' := 88) (ls' := [some (.ref h.length), some (.int (iI 1))]) (st' := [.ref h.length, .ref (h.length + 11)]) rfl rfl ?_
          refine go_get (v := .int (iI a)) rfl mh_o rfl rfl ?_
          refine mi_ild rfl mh_a11 (by omega) (by omega) (by decide) ?_
          refine go_a (pc' := 94) (ls' := [some (.ref h.length), some (.int (iI 1))]) (st' := [.int (iI 10), .int (iI (A 11 a))]) rfl rfl ?_
          refine mi_ne (t := 110) rfl rfl (by omega) (by omega) (by omega) (by omega) (fun b10 => ?_) (fun b10 => ?_)
          · refine go_a (pc' := 111) (ls' := [some (.ref h.length), some (.int (iI 1))]) (st' := [.int (iI 0)]) rfl rfl ?_
            refine go_a (pc' := 112) (ls' := [some (.ref h.length), some (.int (iI 0))]) (st' := []) rfl rfl ?_
            refine go_a (pc' := 2) (ls' := [some (.ref h.length), some (.int (iI 0))]) (st' := []) rfl rfl ?_
            refine go_a (pc' := 3) (ls' := [some (.ref h.length), some (.int (iI 0))]) (st' := [.int (iI 0)]) rfl rfl ?_
            refine mi_eq0 (t := 115) rfl rfl (by omega) (by omega) (fun _ => ?_) (fun q => absurd rfl q)
            rw [sp_sk_s, if_neg (by omega), if_neg (by omega), if_neg (by omega)]
            exact go_r rfl rfl rfl rfl rfl rfl ⟨rfl, rfl⟩
          · refine go_a (pc' := 98) (ls' := [some (.ref h.length), some (.int (iI 1))]) (st' := [.ref h.length]) rfl rfl ?_
            refine go_a (pc' := 99) (ls' := [some (.ref h.length), some (.int (iI 1))]) (st' := [.ref h.length, .ref h.length]) rfl rfl ?_
            refine go_get (v := .int (iI a)) rfl mh_o rfl rfl ?_
            refine go_a (pc' := 103) (ls' := [some (.ref h.length), some (.int (iI 1))]) (st' := [.int (iI 1), .int (iI a), .ref h.length]) rfl rfl ?_
            refine mi_add rfl ?_
            refine go_put (j := 20) rfl mh_o rfl rfl (show 12 ≤ _ from hc) (show 20 < 86 by decide) rfl rfl ?_
            rw [mh_p20]
            refine go_a (pc' := 2) (ls' := [some (.ref h.length), some (.int (iI 1))]) (st' := []) rfl rfl ?_
            rw [su_su, sp_sk_s, if_pos (by omega)]
            exact nx.1
      · show xx_go (xt_P z) d 71 31 [some (.ref h.length), some (.int (iI 1))] [] (mh h R (su I 20 a) A N) _
        refine go_a (pc' := 32) (ls' := [some (.ref h.length), some (.int (iI 1))]) (st' := [.ref h.length]) rfl rfl ?_
        refine go_get (v := .int (iI a)) rfl mh_o rfl rfl ?_
        refine go_a (pc' := 36) (ls' := [some (.ref h.length), some (.int (iI 1))]) (st' := [.ref h.length, .int (iI a)]) rfl rfl ?_
        refine go_get (v := .int (iI (I 13))) rfl mh_o rfl rfl ?_
        refine mi_ge (t := 2) rfl rfl (by omega) (by omega) (by omega) (by omega) (fun q => absurd q (by omega)) (fun _ => ?_)
        refine go_a (pc' := 43) (ls' := [some (.ref h.length), some (.int (iI 1))]) (st' := [.ref h.length]) rfl rfl ?_
        refine go_get rfl mh_o rfl rfl ?_
        refine go_a (pc' := 47) (ls' := [some (.ref h.length), some (.int (iI 1))]) (st' := [.ref h.length, .ref (h.length + 11)]) rfl rfl ?_
        refine go_get (v := .int (iI a)) rfl mh_o rfl rfl ?_
        refine mi_ild rfl mh_a11 (by omega) (by omega) (by decide) ?_
        refine go_a (pc' := 53) (ls' := [some (.ref h.length), some (.int (iI 1))]) (st' := [.int (iI 10), .int (iI (A 11 a))]) rfl rfl ?_
        refine mi_eq (t := 2) rfl rfl (by omega) (by omega) (by omega) (by omega) (fun q => absurd q (by omega)) (fun _ => ?_)
        refine go_a (pc' := 57) (ls' := [some (.ref h.length), some (.int (iI 1))]) (st' := [.ref h.length]) rfl rfl ?_
        refine go_a (pc' := 58) (ls' := [some (.ref h.length), some (.int (iI 1))]) (st' := [.ref h.length, .ref h.length]) rfl rfl ?_
        refine go_get (v := .int (iI a)) rfl mh_o rfl rfl ?_
        refine go_a (pc' := 62) (ls' := [some (.ref h.length), some (.int (iI 1))]) (st' := [.int (iI 1), .int (iI a), .ref h.length]) rfl rfl ?_
        refine mi_add rfl ?_
        refine go_put (j := 20) rfl mh_o rfl rfl (show 12 ≤ _ from hc) (show 20 < 86 by decide) rfl rfl ?_
        rw [mh_p20]
        refine go_a (pc' := 31) (ls' := [some (.ref h.length), some (.int (iI 1))]) (st' := []) rfl rfl ?_
        rw [su_su, sp_sk_s, if_neg (by omega), if_pos (by omega)]
        exact nx.2
    refine ⟨two, ?_⟩
    refine go_a (pc' := 32) (ls' := [some (.ref h.length), some (.int (iI 1))]) (st' := [.ref h.length]) rfl rfl ?_
    refine go_get (v := .int (iI a)) rfl mh_o rfl rfl ?_
    refine go_a (pc' := 36) (ls' := [some (.ref h.length), some (.int (iI 1))]) (st' := [.ref h.length, .int (iI a)]) rfl rfl ?_
    refine go_get (v := .int (iI (I 13))) rfl mh_o rfl rfl ?_
    refine mi_ge (t := 2) rfl rfl (by omega) (by omega) (by omega) (by omega) (fun q => absurd q (by omega)) (fun _ => ?_)
    refine go_a (pc' := 43) (ls' := [some (.ref h.length), some (.int (iI 1))]) (st' := [.ref h.length]) rfl rfl ?_
    refine go_get rfl mh_o rfl rfl ?_
    refine go_a (pc' := 47) (ls' := [some (.ref h.length), some (.int (iI 1))]) (st' := [.ref h.length, .ref (h.length + 11)]) rfl rfl ?_
    refine go_get (v := .int (iI a)) rfl mh_o rfl rfl ?_
    refine mi_ild rfl mh_a11 (by omega) (by omega) (by decide) ?_
    refine go_a (pc' := 53) (ls' := [some (.ref h.length), some (.int (iI 1))]) (st' := [.int (iI 10), .int (iI (A 11 a))]) rfl rfl ?_
    refine mi_eq (t := 2) rfl rfl (by omega) (by omega) (by omega) (by omega) (fun b10 => ?_) (fun b10 => ?_)
    · rw [sp_sk_s, if_pos (by omega)]
      rw [sp_sk_s, if_pos (by omega)] at two
      exact two
    · refine go_a (pc' := 57) (ls' := [some (.ref h.length), some (.int (iI 1))]) (st' := [.ref h.length]) rfl rfl ?_
      refine go_a (pc' := 58) (ls' := [some (.ref h.length), some (.int (iI 1))]) (st' := [.ref h.length, .ref h.length]) rfl rfl ?_
      refine go_get (v := .int (iI a)) rfl mh_o rfl rfl ?_
      refine go_a (pc' := 62) (ls' := [some (.ref h.length), some (.int (iI 1))]) (st' := [.int (iI 1), .int (iI a), .ref h.length]) rfl rfl ?_
      refine mi_add rfl ?_
      refine go_put (j := 20) rfl mh_o rfl rfl (show 12 ≤ _ from hc) (show 20 < 86 by decide) rfl rfl ?_
      rw [mh_p20]
      refine go_a (pc' := 31) (ls' := [some (.ref h.length), some (.int (iI 1))]) (st' := []) rfl rfl ?_
      have e : sp_sk (A 11) (f + 1) a 1 = sp_sk (A 11) f (a + 1) 1 := by
        rw [sp_sk_s, if_neg (by omega)]
        split
        · rfl
        · rw [if_pos (Or.inr rfl)]
      rw [su_su, e]
      exact nx.2
theorem mx_skip (z : Value) (d : Nat) (h R : xx_H) (I : Nat → Int) (A : Nat → Int → Int) (N : Int → Int) (hc : 12 ≤ h.length) (t0 : 0 ≤ I 13) (t1 : I 13 ≤ 3000) (rt11 : ∀ e : Int, 0 ≤ A 11 e ∧ A 11 e ≤ 255) (a0 : 0 ≤ I 20) (a1 : I 20 ≤ I 13) : xx_cl (xt_P z) (d + 1) 71 [.ref h.length] (mh h R I A N) (fun v h1 => v = none ∧ h1 = mh h R (su I 20 (sp_sk (A 11) (I 13 - I 20).toNat (I 20) 0)) A N) := by
  refine cl_go rfl ?_
  show xx_go (xt_P z) d 71 0 [some (.ref h.length), none] [] (mh h R I A N) _
  refine go_a (pc' := 1) (ls' := [some (.ref h.length), none]) (st' := [.int (iI 1)]) rfl rfl ?_
  refine go_a (pc' := 2) (ls' := [some (.ref h.length), some (.int (iI 1))]) (st' := []) rfl rfl ?_
  have key := (mx_skip_loop z d h R I A N hc t0 t1 rt11 _ (I 20) rfl a0 a1).1
  rw [su_eta rfl] at key
  exact key
