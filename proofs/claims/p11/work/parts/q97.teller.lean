section MD
variable {P : xx_P} {d k pc : Nat} {ls : xx_L} {r : List Value} {hp : xx_H} {Q : Option Value → xx_H → Prop} {x y : Int}
end MD
def TX (I : Nat → Int) (A : Nat → Int → Int) (I1 : Nat → Int) (A1 : Nat → Int → Int) : Prop := (∀ j : Nat, j ≠ 15 → j ≠ 19 → I1 j = I j) ∧ ∀ a : Nat, a ≠ 12 → a ≠ 14 → A1 a = A a
def TL (I : Nat → Int) (A : Nat → Int → Int) (I1 : Nat → Int) (A1 : Nat → Int → Int) : Prop := TX I A I1 A1 ∧ I1 19 = I 19 ∧ A1 14 = A 14 ∧ I 15 ≤ I1 15 ∧ I1 15 ≤ 2000
section TXS
variable {I I1 I2 : Nat → Int} {A A1 A2 : Nat → Int → Int} {N : Int → Int}
theorem TX_rf : TX I A I A := ⟨fun _ _ _ => rfl, fun _ _ _ => rfl⟩
theorem TX_tr (a : TX I A I1 A1) (b : TX I1 A1 I2 A2) : TX I A I2 A2 := ⟨fun j p q => (b.1 j p q).trans (a.1 j p q), fun x p q => (b.2 x p q).trans (a.2 x p q)⟩
theorem TL_rf (h : I 15 ≤ 2000) : TL I A I A := ⟨TX_rf, rfl, rfl, Int.le_refl _, h⟩
theorem TL_tr (a : TL I A I1 A1) (b : TL I1 A1 I2 A2) : TL I A I2 A2 := ⟨TX_tr a.1 b.1, b.2.1.trans a.2.1, b.2.2.1.trans a.2.2.1, by have := a.2.2.2.1; have := b.2.2.2.1; omega, b.2.2.2.2⟩
theorem MST_congr (hS : MST I A N) (h7 : I1 7 = I 7) (h10 : I1 10 = I 10) (a1 : A1 1 = A 1) (a2 : A1 2 = A 2) (a3 : A1 3 = A 3) (a4 : A1 4 = A 4) (a5 : A1 5 = A 5) (a7 : A1 7 = A 7) (a8 : A1 8 = A 8) (a9 : A1 9 = A 9) : MST I1 A1 N := by
  have eh : hsh A1 N = hsh A N := by
    funext k
    unfold hsh
    rw [a1, a2, a8, a9]
  have eo : ∀ k, MOB I1 A1 N k = MOB I A N k := fun k => by
    unfold MOB
    rw [eh, h10, a1, a2, a3, a4, a5]
  unfold MST MSC
  rw [h7, h10, eh, a1, a2, a3, a5, a7, a8, a9]
  obtain ⟨x1, x2, x3⟩ := hS
  exact ⟨x1, fun k k0 k1 => by rw [eo]; exact x2 k k0 k1, x3⟩
theorem MST_TX (hS : MST I A N) (x : TX I A I1 A1) : MST I1 A1 N := MST_congr hS (x.1 7 (by decide) (by decide)) (x.1 10 (by decide) (by decide)) (x.2 1 (by decide) (by decide)) (x.2 2 (by decide) (by decide)) (x.2 3 (by decide) (by decide)) (x.2 4 (by decide) (by decide)) (x.2 5 (by decide) (by decide)) (x.2 7 (by decide) (by decide)) (x.2 8 (by decide) (by decide)) (x.2 9 (by decide) (by decide))
end TXS
theorem mm_tellLetter (z : Value) (d : Nat) (c : Int) (h R : xx_H) (I : Nat → Int) (A : Nat → Int → Int) (N : Int → Int) (hc : 12 ≤ h.length) (u0 : 0 ≤ I 15) (u1 : I 15 ≤ 2000) : xx_cl (xt_P z) (d + 1) 176 [.ref h.length, .int (iI c)] (mh h R I A N) (fun v h1 => v = none ∧ ∃ (I1 : Nat → Int) (A1 : Nat → Int → Int), h1 = mh h R I1 A1 N ∧ TL I A I1 A1 ∧ (I 15 < 2000 → I1 15 = I 15 + 1)) := by
  refine cl_go rfl ?_
  show xx_go (xt_P z) d 176 0 [some (.ref h.length), some (.int (iI c))] [] (mh h R I A N) _
  refine go_a (pc' := 1) (ls' := [some (.ref h.length), some (.int (iI c))]) (st' := [.ref h.length]) rfl rfl ?_
  refine go_get (v := .int (iI (I 15))) rfl mh_o rfl rfl ?_
  refine go_a (pc' := 7) (ls' := [some (.ref h.length), some (.int (iI c))]) (st' := [.int (iI 2000), .int (iI (I 15))]) rfl rfl ?_
  refine mi_ge (t := 30) rfl rfl (by omega) (by omega) (by omega) (by omega) (fun q => ?_) (fun q => ?_)
  · exact go_r rfl rfl rfl rfl rfl rfl ⟨rfl, I, A, rfl, TL_rf u1, fun q2 => absurd q2 (by omega)⟩
  · refine go_a (pc' := 11) (ls' := [some (.ref h.length), some (.int (iI c))]) (st' := [.ref h.length]) rfl rfl ?_
    refine go_get rfl mh_o rfl rfl ?_
    refine go_a (pc' := 15) (ls' := [some (.ref h.length), some (.int (iI c))]) (st' := [.ref h.length, .ref (h.length + 12)]) rfl rfl ?_
    refine go_get (v := .int (iI (I 15))) rfl mh_o rfl rfl ?_
    refine go_a (pc' := 19) (ls' := [some (.ref h.length), some (.int (iI c))]) (st' := [.int (iI c), .int (iI (I 15)), .ref (h.length + 12)]) rfl rfl ?_
    refine mi_ist rfl mh_a12 (show 12 ≤ _ by omega) (by omega) (by omega) (by decide) ?_
    rw [mh_w12 (by omega)]
    refine go_a (pc' := 21) (ls' := [some (.ref h.length), some (.int (iI c))]) (st' := [.ref h.length]) rfl rfl ?_
    refine go_a (pc' := 22) (ls' := [some (.ref h.length), some (.int (iI c))]) (st' := [.ref h.length, .ref h.length]) rfl rfl ?_
    refine go_get (v := .int (iI (I 15))) rfl mh_o rfl rfl ?_
    refine go_a (pc' := 26) (ls' := [some (.ref h.length), some (.int (iI c))]) (st' := [.int (iI 1), .int (iI (I 15)), .ref h.length]) rfl rfl ?_
    refine mi_add rfl ?_
    refine go_put (j := 15) rfl mh_o rfl rfl (show 12 ≤ _ from hc) (show 15 < 86 by decide) rfl rfl ?_
    rw [mh_p15]
    exact go_r rfl rfl rfl rfl rfl rfl ⟨rfl, _, _, rfl, ⟨⟨fun j p _ => su_ne p, fun a p _ => sa_ne p⟩, rfl, rfl, (show I 15 ≤ I 15 + 1 by omega), (show I 15 + 1 ≤ 2000 by omega)⟩, fun _ => rfl⟩
theorem mm_isFull (z : Value) (d : Nat) (h R : xx_H) (I : Nat → Int) (A : Nat → Int → Int) (N : Int → Int) (hc : 12 ≤ h.length) (u0 : 0 ≤ I 15) (u1 : I 15 ≤ 2000) : xx_cl (xt_P z) (d + 1) 174 [.ref h.length] (mh h R I A N) (fun v h1 => (∃ b : Int, v = some (.int (iI b)) ∧ ((b = 1 ∧ I 15 = 2000) ∨ (b = 0 ∧ I 15 < 2000))) ∧ h1 = mh h R I A N) := by
  refine cl_go rfl ?_
  show xx_go (xt_P z) d 174 0 [some (.ref h.length)] [] (mh h R I A N) _
  refine go_a (pc' := 1) (ls' := [some (.ref h.length)]) (st' := [.ref h.length]) rfl rfl ?_
  refine go_get (v := .int (iI (I 15))) rfl mh_o rfl rfl ?_
  refine go_a (pc' := 7) (ls' := [some (.ref h.length)]) (st' := [.int (iI 2000), .int (iI (I 15))]) rfl rfl ?_
  refine mi_ne (t := 14) rfl rfl (by omega) (by omega) (by omega) (by omega) (fun q => ?_) (fun q => ?_)
  · refine go_a (pc' := 15) (ls' := [some (.ref h.length)]) (st' := [.int (iI 0)]) rfl rfl ?_
    exact go_r rfl rfl rfl rfl rfl rfl ⟨⟨0, rfl, Or.inr ⟨rfl, by omega⟩⟩, rfl⟩
  · refine go_a (pc' := 11) (ls' := [some (.ref h.length)]) (st' := [.int (iI 1)]) rfl rfl ?_
    refine go_a (pc' := 15) (ls' := [some (.ref h.length)]) (st' := [.int (iI 1)]) rfl rfl ?_
    exact go_r rfl rfl rfl rfl rfl rfl ⟨⟨1, rfl, Or.inl ⟨rfl, by omega⟩⟩, rfl⟩
theorem mm_later (z : Value) (d : Nat) (c : Int) (h R : xx_H) (I : Nat → Int) (A : Nat → Int → Int) (N : Int → Int) (hc : 12 ≤ h.length) (u0 : 0 ≤ I 19) (u1 : I 19 < 4000) : xx_cl (xt_P z) (d + 1) 173 [.ref h.length, .int (iI c)] (mh h R I A N) (fun v h1 => v = none ∧ h1 = mh h R (su I 19 (I 19 + 1)) (sa A 14 (I 19) c) N) := by
  refine cl_go rfl ?_
  show xx_go (xt_P z) d 173 0 [some (.ref h.length), some (.int (iI c))] [] (mh h R I A N) _
  refine go_a (pc' := 1) (ls' := [some (.ref h.length), some (.int (iI c))]) (st' := [.ref h.length]) rfl rfl ?_
  refine go_get rfl mh_o rfl rfl ?_
  refine go_a (pc' := 5) (ls' := [some (.ref h.length), some (.int (iI c))]) (st' := [.ref h.length, .ref (h.length + 14)]) rfl rfl ?_
  refine go_get (v := .int (iI (I 19))) rfl mh_o rfl rfl ?_
  refine go_a (pc' := 9) (ls' := [some (.ref h.length), some (.int (iI c))]) (st' := [.int (iI c), .int (iI (I 19)), .ref (h.length + 14)]) rfl rfl ?_
  refine mi_ist rfl mh_a14 (show 12 ≤ _ by omega) (by omega) (by omega) (by decide) ?_
  rw [mh_w14 (by omega)]
  refine go_a (pc' := 11) (ls' := [some (.ref h.length), some (.int (iI c))]) (st' := [.ref h.length]) rfl rfl ?_
  refine go_a (pc' := 12) (ls' := [some (.ref h.length), some (.int (iI c))]) (st' := [.ref h.length, .ref h.length]) rfl rfl ?_
  refine go_get (v := .int (iI (I 19))) rfl mh_o rfl rfl ?_
  refine go_a (pc' := 16) (ls' := [some (.ref h.length), some (.int (iI c))]) (st' := [.int (iI 1), .int (iI (I 19)), .ref h.length]) rfl rfl ?_
  refine mi_add rfl ?_
  refine go_put (j := 19) rfl mh_o rfl rfl (show 12 ≤ _ from hc) (show 19 < 86 by decide) rfl rfl ?_
  rw [mh_p19]
  exact go_r rfl rfl rfl rfl rfl rfl ⟨rfl, rfl⟩
theorem mm_isQuoted (z : Value) (d : Nat) (k : Int) (h R : xx_H) (I : Nat → Int) (A : Nat → Int → Int) (N : Int → Int) (hc : 12 ≤ h.length) (hP : PW I A) (k0 : 0 ≤ k) (k1 : k < I 7) : xx_cl (xt_P z) (d + 2) 108 [.ref h.length, .int (iI k)] (mh h R I A N) (fun v h1 => (∃ b : Int, v = some (.int (iI b)) ∧ ((b = 1 ∧ (A 1 k = 2 ∧ 0 ≤ A 1 (A 2 k) ∧ A 2 (A 2 k) = 0)) ∨ (b = 0 ∧ ¬ (A 1 k = 2 ∧ 0 ≤ A 1 (A 2 k) ∧ A 2 (A 2 k) = 0)))) ∧ h1 = mh h R I A N) := by
  have p1 := hP.1
  have q := hP.2 k k0 k1
  refine cl_go rfl ?_
  show xx_go (xt_P z) (d + 1) 108 0 [some (.ref h.length), some (.int (iI k))] [] (mh h R I A N) _
  refine go_a (pc' := 1) (ls' := [some (.ref h.length), some (.int (iI k))]) (st' := [.ref h.length]) rfl rfl ?_
  refine go_a (pc' := 2) (ls' := [some (.ref h.length), some (.int (iI k))]) (st' := [.int (iI k), .ref h.length]) rfl rfl ?_
  refine go_v (m := 96) (as := [.ref h.length, .int (iI k)]) (r := []) rfl rfl rfl mh_o rfl rfl (mm_isPair z d k h R I A N hc k0 (by omega) (by omega) (by omega)) (fun v h1 hq => ?_)
  obtain ⟨rfl, rfl⟩ := hq
  by_cases e1 : 0 ≤ A 1 k
  · have q2 := q.2.2.2.2 e1
    have q3 := hP.2 (A 2 k) (by omega) (by omega)
    rw [if_pos e1]
    show xx_go (xt_P z) (d + 1) 108 5 [some (.ref h.length), some (.int (iI k))] [.int (iI 1)] (mh h R I A N) _
    refine mi_eq0 (t := 49) rfl rfl (by omega) (by omega) (fun q => absurd q (by decide)) (fun _ => ?_)
    refine go_a (pc' := 9) (ls' := [some (.ref h.length), some (.int (iI k))]) (st' := [.ref h.length]) rfl rfl ?_
    refine go_get rfl mh_o rfl rfl ?_
    refine go_a (pc' := 13) (ls' := [some (.ref h.length), some (.int (iI k))]) (st' := [.int (iI k), .ref (h.length + 1)]) rfl rfl ?_
    refine mi_ild rfl mh_a1 (by omega) (by omega) (by decide) ?_
    refine go_a (pc' := 15) (ls' := [some (.ref h.length), some (.int (iI k))]) (st' := [.int (iI 2), .int (iI (A 1 k))]) rfl rfl ?_
    refine mi_ne (t := 49) rfl rfl (by omega) (by omega) (by omega) (by omega) (fun e2 => ?_) (fun e2 => ?_)
    · refine go_a (pc' := 50) (ls' := [some (.ref h.length), some (.int (iI k))]) (st' := [.int (iI 0)]) rfl rfl ?_
      exact go_r rfl rfl rfl rfl rfl rfl ⟨⟨0, rfl, Or.inr ⟨rfl, by omega⟩⟩, rfl⟩
    · refine go_a (pc' := 19) (ls' := [some (.ref h.length), some (.int (iI k))]) (st' := [.ref h.length]) rfl rfl ?_
      refine go_a (pc' := 20) (ls' := [some (.ref h.length), some (.int (iI k))]) (st' := [.ref h.length, .ref h.length]) rfl rfl ?_
      refine go_get rfl mh_o rfl rfl ?_
      refine go_a (pc' := 24) (ls' := [some (.ref h.length), some (.int (iI k))]) (st' := [.int (iI k), .ref (h.length + 2), .ref h.length]) rfl rfl ?_
      refine mi_ild rfl mh_a2 (by omega) (by omega) (by decide) ?_
      refine go_v (m := 96) (as := [.ref h.length, .int (iI (A 2 k))]) (r := []) rfl rfl rfl mh_o rfl rfl (mm_isPair z d (A 2 k) h R I A N hc (by omega) (by omega) (by omega) (by omega)) (fun v h1 hq => ?_)
      obtain ⟨rfl, rfl⟩ := hq
      by_cases e3 : 0 ≤ A 1 (A 2 k)
      · rw [if_pos e3]
        show xx_go (xt_P z) (d + 1) 108 28 [some (.ref h.length), some (.int (iI k))] [.int (iI 1)] (mh h R I A N) _
        refine mi_eq0 (t := 49) rfl rfl (by omega) (by omega) (fun q => absurd q (by decide)) (fun _ => ?_)
        refine go_a (pc' := 32) (ls' := [some (.ref h.length), some (.int (iI k))]) (st' := [.ref h.length]) rfl rfl ?_
        refine go_get rfl mh_o rfl rfl ?_
        refine go_a (pc' := 36) (ls' := [some (.ref h.length), some (.int (iI k))]) (st' := [.ref h.length, .ref (h.length + 2)]) rfl rfl ?_
        refine go_get rfl mh_o rfl rfl ?_
        refine go_a (pc' := 40) (ls' := [some (.ref h.length), some (.int (iI k))]) (st' := [.int (iI k), .ref (h.length + 2), .ref (h.length + 2)]) rfl rfl ?_
        refine mi_ild rfl mh_a2 (by omega) (by omega) (by decide) ?_
        refine mi_ild rfl mh_a2 (by omega) (by omega) (by decide) ?_
        refine mi_ne0 (t := 49) rfl rfl (by omega) (by omega) (fun e4 => ?_) (fun e4 => ?_)
        · refine go_a (pc' := 50) (ls' := [some (.ref h.length), some (.int (iI k))]) (st' := [.int (iI 0)]) rfl rfl ?_
          exact go_r rfl rfl rfl rfl rfl rfl ⟨⟨0, rfl, Or.inr ⟨rfl, by omega⟩⟩, rfl⟩
        · refine go_a (pc' := 46) (ls' := [some (.ref h.length), some (.int (iI k))]) (st' := [.int (iI 1)]) rfl rfl ?_
          refine go_a (pc' := 50) (ls' := [some (.ref h.length), some (.int (iI k))]) (st' := [.int (iI 1)]) rfl rfl ?_
          exact go_r rfl rfl rfl rfl rfl rfl ⟨⟨1, rfl, Or.inl ⟨rfl, by omega, e3, by omega⟩⟩, rfl⟩
      · rw [if_neg e3]
        show xx_go (xt_P z) (d + 1) 108 28 [some (.ref h.length), some (.int (iI k))] [.int (iI 0)] (mh h R I A N) _
        refine mi_eq0 (t := 49) rfl rfl (by omega) (by omega) (fun _ => ?_) (fun q => absurd rfl q)
        refine go_a (pc' := 50) (ls' := [some (.ref h.length), some (.int (iI k))]) (st' := [.int (iI 0)]) rfl rfl ?_
        exact go_r rfl rfl rfl rfl rfl rfl ⟨⟨0, rfl, Or.inr ⟨rfl, by omega⟩⟩, rfl⟩
  · rw [if_neg e1]
    show xx_go (xt_P z) (d + 1) 108 5 [some (.ref h.length), some (.int (iI k))] [.int (iI 0)] (mh h R I A N) _
    refine mi_eq0 (t := 49) rfl rfl (by omega) (by omega) (fun _ => ?_) (fun q => absurd rfl q)
    refine go_a (pc' := 50) (ls' := [some (.ref h.length), some (.int (iI k))]) (st' := [.int (iI 0)]) rfl rfl ?_
    exact go_r rfl rfl rfl rfl rfl rfl ⟨⟨0, rfl, Or.inr ⟨rfl, by omega⟩⟩, rfl⟩

