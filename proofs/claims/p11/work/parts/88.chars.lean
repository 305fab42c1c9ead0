def atc (c : Int) : Prop := (97 ≤ c ∧ c ≤ 122) ∨ (48 ≤ c ∧ c ≤ 57) ∨ c = 43 ∨ c = 45 ∨ c = 42 ∨ c = 47 ∨ c = 60 ∨ c = 62 ∨ c = 61 ∨ c = 63 ∨ c = 33 ∨ c = 95
theorem mm_isDigit (z : Value) (d : Nat) (c : Int) (hp : xx_H) (c0 : 0 ≤ c) (c1 : c ≤ 255) : xx_cl (xt_P z) (d + 1) 91 [.int (iI c)] hp (fun v h1 => (∃ b : Int, v = some (.int (iI b)) ∧ ((b = 1 ∧ 48 ≤ c ∧ c ≤ 57) ∨ (b = 0 ∧ ¬ (48 ≤ c ∧ c ≤ 57)))) ∧ h1 = hp) := by
  refine cl_go rfl ?_
  show xx_go (xt_P z) d 91 0 [some (.int (iI c))] [] (hp) _
  refine go_a (pc' := 1) (ls' := [some (.int (iI c))]) (st' := [.int (iI c)]) rfl rfl ?_
  refine go_a (pc' := 3) (ls' := [some (.int (iI c))]) (st' := [.int (iI 48), .int (iI c)]) rfl rfl ?_
  refine mi_lt (t := 16) rfl rfl (by omega) (by omega) (by omega) (by omega) (fun b1 => ?_) (fun b1 => ?_)
  · refine go_a (pc' := 17) (ls' := [some (.int (iI c))]) (st' := [.int (iI 0)]) rfl rfl ?_
    exact go_r rfl rfl rfl rfl rfl rfl ⟨⟨0, rfl, Or.inr ⟨rfl, by omega⟩⟩, rfl⟩
  · refine go_a (pc' := 7) (ls' := [some (.int (iI c))]) (st' := [.int (iI c)]) rfl rfl ?_
    refine go_a (pc' := 9) (ls' := [some (.int (iI c))]) (st' := [.int (iI 57), .int (iI c)]) rfl rfl ?_
    refine mi_gt (t := 16) rfl rfl (by omega) (by omega) (by omega) (by omega) (fun b2 => ?_) (fun b2 => ?_)
    · refine go_a (pc' := 17) (ls' := [some (.int (iI c))]) (st' := [.int (iI 0)]) rfl rfl ?_
      exact go_r rfl rfl rfl rfl rfl rfl ⟨⟨0, rfl, Or.inr ⟨rfl, by omega⟩⟩, rfl⟩
    · refine go_a (pc' := 13) (ls' := [some (.int (iI c))]) (st' := [.int (iI 1)]) rfl rfl ?_
      refine go_a (pc' := 17) (ls' := [some (.int (iI c))]) (st' := [.int (iI 1)]) rfl rfl ?_
      exact go_r rfl rfl rfl rfl rfl rfl ⟨⟨1, rfl, Or.inl ⟨rfl, by omega, by omega⟩⟩, rfl⟩
theorem mm_isAtom (z : Value) (d : Nat) (c : Int) (hp : xx_H) (c0 : 0 ≤ c) (c1 : c ≤ 255) : xx_cl (xt_P z) (d + 2) 90 [.int (iI c)] hp (fun v h1 => (∃ b : Int, v = some (.int (iI b)) ∧ ((b = 1 ∧ atc c) ∨ (b = 0 ∧ ¬ atc c))) ∧ h1 = hp) := by
  have yes : atc c → xx_go (xt_P z) (d + 1) 90 79 [some (.int (iI c))] [] hp (fun v h1 => (∃ b : Int, v = some (.int (iI b)) ∧ ((b = 1 ∧ atc c) ∨ (b = 0 ∧ ¬ atc c))) ∧ h1 = hp) := by
    intro hy
    refine go_a (pc' := 80) (ls' := [some (.int (iI c))]) (st' := [.int (iI 1)]) rfl rfl ?_
    refine go_a (pc' := 84) (ls' := [some (.int (iI c))]) (st' := [.int (iI 1)]) rfl rfl ?_
    exact go_r rfl rfl rfl rfl rfl rfl ⟨⟨1, rfl, Or.inl ⟨rfl, hy⟩⟩, rfl⟩
  have no : ¬ atc c → xx_go (xt_P z) (d + 1) 90 83 [some (.int (iI c))] [] hp (fun v h1 => (∃ b : Int, v = some (.int (iI b)) ∧ ((b = 1 ∧ atc c) ∨ (b = 0 ∧ ¬ atc c))) ∧ h1 = hp) := by
    intro hy
    refine go_a (pc' := 84) (ls' := [some (.int (iI c))]) (st' := [.int (iI 0)]) rfl rfl ?_
    exact go_r rfl rfl rfl rfl rfl rfl ⟨⟨0, rfl, Or.inr ⟨rfl, hy⟩⟩, rfl⟩
  have dig : ¬ (97 ≤ c ∧ c ≤ 122) → xx_go (xt_P z) (d + 1) 90 12 [some (.int (iI c))] [] hp (fun v h1 => (∃ b : Int, v = some (.int (iI b)) ∧ ((b = 1 ∧ atc c) ∨ (b = 0 ∧ ¬ atc c))) ∧ h1 = hp) := by
    intro n1
    refine go_a (pc' := 13) (ls' := [some (.int (iI c))]) (st' := [.int (iI c)]) rfl rfl ?_
    refine go_s (m := 91) (as := [.int (iI c)]) (r := []) rfl rfl rfl rfl (mm_isDigit z d c hp c0 c1) (fun v h1 hq => ?_)
    obtain ⟨⟨b, rfl, hb⟩, hq⟩ := hq
    rw [hq]
    show xx_go (xt_P z) (d + 1) 90 16 [some (.int (iI c))] [.int (iI b)] (hp) _
    refine mi_ne0 (t := 79) rfl rfl (by omega) (by omega) (fun b2 => yes (Or.inr (Or.inl (by omega)))) (fun b2 => ?_)
    refine go_a (pc' := 20) (ls' := [some (.int (iI c))]) (st' := [.int (iI c)]) rfl rfl ?_
    refine go_a (pc' := 22) (ls' := [some (.int (iI c))]) (st' := [.int (iI 43), .int (iI c)]) rfl rfl ?_
    refine mi_eq (t := 79) rfl rfl (by omega) (by omega) (by omega) (by omega) (fun e43 => yes (by unfold atc; omega)) (fun e43 => ?_)
    refine go_a (pc' := 26) (ls' := [some (.int (iI c))]) (st' := [.int (iI c)]) rfl rfl ?_
    refine go_a (pc' := 28) (ls' := [some (.int (iI c))]) (st' := [.int (iI 45), .int (iI c)]) rfl rfl ?_
    refine mi_eq (t := 79) rfl rfl (by omega) (by omega) (by omega) (by omega) (fun e45 => yes (by unfold atc; omega)) (fun e45 => ?_)
    refine go_a (pc' := 32) (ls' := [some (.int (iI c))]) (st' := [.int (iI c)]) rfl rfl ?_
    refine go_a (pc' := 34) (ls' := [some (.int (iI c))]) (st' := [.int (iI 42), .int (iI c)]) rfl rfl ?_
    refine mi_eq (t := 79) rfl rfl (by omega) (by omega) (by omega) (by omega) (fun e42 => yes (by unfold atc; omega)) (fun e42 => ?_)
    refine go_a (pc' := 38) (ls' := [some (.int (iI c))]) (st' := [.int (iI c)]) rfl rfl ?_
    refine go_a (pc' := 40) (ls' := [some (.int (iI c))]) (st' := [.int (iI 47), .int (iI c)]) rfl rfl ?_
    refine mi_eq (t := 79) rfl rfl (by omega) (by omega) (by omega) (by omega) (fun e47 => yes (by unfold atc; omega)) (fun e47 => ?_)
    refine go_a (pc' := 44) (ls' := [some (.int (iI c))]) (st' := [.int (iI c)]) rfl rfl ?_
    refine go_a (pc' := 46) (ls' := [some (.int (iI c))]) (st' := [.int (iI 60), .int (iI c)]) rfl rfl ?_
    refine mi_eq (t := 79) rfl rfl (by omega) (by omega) (by omega) (by omega) (fun e60 => yes (by unfold atc; omega)) (fun e60 => ?_)
    refine go_a (pc' := 50) (ls' := [some (.int (iI c))]) (st' := [.int (iI c)]) rfl rfl ?_
    refine go_a (pc' := 52) (ls' := [some (.int (iI c))]) (st' := [.int (iI 62), .int (iI c)]) rfl rfl ?_
    refine mi_eq (t := 79) rfl rfl (by omega) (by omega) (by omega) (by omega) (fun e62 => yes (by unfold atc; omega)) (fun e62 => ?_)
    refine go_a (pc' := 56) (ls' := [some (.int (iI c))]) (st' := [.int (iI c)]) rfl rfl ?_
    refine go_a (pc' := 58) (ls' := [some (.int (iI c))]) (st' := [.int (iI 61), .int (iI c)]) rfl rfl ?_
    refine mi_eq (t := 79) rfl rfl (by omega) (by omega) (by omega) (by omega) (fun e61 => yes (by unfold atc; omega)) (fun e61 => ?_)
    refine go_a (pc' := 62) (ls' := [some (.int (iI c))]) (st' := [.int (iI c)]) rfl rfl ?_
    refine go_a (pc' := 64) (ls' := [some (.int (iI c))]) (st' := [.int (iI 63), .int (iI c)]) rfl rfl ?_
    refine mi_eq (t := 79) rfl rfl (by omega) (by omega) (by omega) (by omega) (fun e63 => yes (by unfold atc; omega)) (fun e63 => ?_)
    refine go_a (pc' := 68) (ls' := [some (.int (iI c))]) (st' := [.int (iI c)]) rfl rfl ?_
    refine go_a (pc' := 70) (ls' := [some (.int (iI c))]) (st' := [.int (iI 33), .int (iI c)]) rfl rfl ?_
    refine mi_eq (t := 79) rfl rfl (by omega) (by omega) (by omega) (by omega) (fun e33 => yes (by unfold atc; omega)) (fun e33 => ?_)
    refine go_a (pc' := 74) (ls' := [some (.int (iI c))]) (st' := [.int (iI c)]) rfl rfl ?_
    refine go_a (pc' := 76) (ls' := [some (.int (iI c))]) (st' := [.int (iI 95), .int (iI c)]) rfl rfl ?_
    exact mi_ne (t := 83) rfl rfl (by omega) (by omega) (by omega) (by omega) (fun e95 => no (by unfold atc; omega)) (fun e95 => yes (by unfold atc; omega))
  refine cl_go rfl ?_
  show xx_go (xt_P z) (d + 1) 90 0 [some (.int (iI c))] [] (hp) _
  refine go_a (pc' := 1) (ls' := [some (.int (iI c))]) (st' := [.int (iI c)]) rfl rfl ?_
  refine go_a (pc' := 3) (ls' := [some (.int (iI c))]) (st' := [.int (iI 97), .int (iI c)]) rfl rfl ?_
  refine mi_lt (t := 12) rfl rfl (by omega) (by omega) (by omega) (by omega) (fun b1 => dig (by omega)) (fun b1 => ?_)
  refine go_a (pc' := 7) (ls' := [some (.int (iI c))]) (st' := [.int (iI c)]) rfl rfl ?_
  refine go_a (pc' := 9) (ls' := [some (.int (iI c))]) (st' := [.int (iI 122), .int (iI c)]) rfl rfl ?_
  exact mi_le (t := 79) rfl rfl (by omega) (by omega) (by omega) (by omega) (fun b2 => yes (Or.inl (by omega))) (fun b2 => dig (by omega))
theorem mm_bad (z : Value) (d : Nat) (f w : Int) (h R : xx_H) (I : Nat → Int) (A : Nat → Int → Int) (N : Int → Int) (hc : 12 ≤ h.length) (f0 : 0 ≤ I 21) (f1 : I 21 ≤ 5) : xx_cl (xt_P z) (d + 1) 72 [.ref h.length, .int (iI f), .int (iI w)] (mh h R I A N) (fun v h1 => v = none ∧ ((¬ I 21 = 0 ∧ h1 = mh h R I A N) ∨ (I 21 = 0 ∧ h1 = mh h R (su (su I 21 f) 22 w) A N))) := by
  refine cl_go rfl ?_
  show xx_go (xt_P z) d 72 0 [some (.ref h.length), some (.int (iI f)), some (.int (iI w))] [] (mh h R I A N) _
  refine go_a (pc' := 1) (ls' := [some (.ref h.length), some (.int (iI f)), some (.int (iI w))]) (st' := [.ref h.length]) rfl rfl ?_
  refine go_get (v := .int (iI (I 21))) rfl mh_o rfl rfl ?_
  refine mi_eq0 (t := 8) rfl rfl (by omega) (by omega) (fun b1 => ?_) (fun b1 => ?_)
  · refine go_a (pc' := 9) (ls' := [some (.ref h.length), some (.int (iI f)), some (.int (iI w))]) (st' := [.ref h.length]) rfl rfl ?_
    refine go_a (pc' := 10) (ls' := [some (.ref h.length), some (.int (iI f)), some (.int (iI w))]) (st' := [.int (iI f), .ref h.length]) rfl rfl ?_
    refine go_put (j := 21) rfl mh_o rfl rfl (show 12 ≤ _ from hc) (show 21 < 86 by decide) rfl rfl ?_
    rw [mh_p21]
    refine go_a (pc' := 14) (ls' := [some (.ref h.length), some (.int (iI f)), some (.int (iI w))]) (st' := [.ref h.length]) rfl rfl ?_
    refine go_a (pc' := 15) (ls' := [some (.ref h.length), some (.int (iI f)), some (.int (iI w))]) (st' := [.int (iI w), .ref h.length]) rfl rfl ?_
    refine go_put (j := 22) rfl mh_o rfl rfl (show 12 ≤ _ from hc) (show 22 < 86 by decide) rfl rfl ?_
    rw [mh_p22]
    exact go_r rfl rfl rfl rfl rfl rfl ⟨rfl, Or.inr ⟨b1, rfl⟩⟩
  · exact go_r rfl rfl rfl rfl rfl rfl ⟨rfl, Or.inl ⟨b1, rfl⟩⟩
theorem su_su {I : Nat → Int} {j : Nat} {x y : Int} : su (su I j x) j y = su I j y := by
  funext i
  unfold su
  cases hb : Nat.beq i j <;> rfl
theorem mm_skip_loop (z : Value) (d : Nat) (h R : xx_H) (I : Nat → Int) (A : Nat → Int → Int) (N : Int → Int) (hc : 12 ≤ h.length) (t0 : 0 ≤ I 13) (t1 : I 13 ≤ 3000) (rt11 : ∀ e : Int, 0 ≤ A 11 e ∧ A 11 e ≤ 255) : ∀ (f : Nat) (a : Int), (I 13 - a).toNat ≤ f → 0 ≤ a → a ≤ I 13 → (xx_go (xt_P z) d 71 2 [some (.ref h.length), some (.int (iI 1))] [] (mh h R (su I 20 a) A N) (fun v h1 => v = none ∧ ∃ p : Int, h1 = mh h R (su I 20 p) A N ∧ a ≤ p ∧ p ≤ I 13 ∧ (p = I 13 ∨ (A 11 p ≠ 59 ∧ A 11 p ≠ 32 ∧ A 11 p ≠ 10)) ∧ (p = a ∨ A 11 a ≠ 0))) ∧ (xx_go (xt_P z) d 71 31 [some (.ref h.length), some (.int (iI 1))] [] (mh h R (su I 20 a) A N) (fun v h1 => v = none ∧ ∃ p : Int, h1 = mh h R (su I 20 p) A N ∧ a ≤ p ∧ p ≤ I 13 ∧ (p = I 13 ∨ (A 11 p ≠ 59 ∧ A 11 p ≠ 32 ∧ A 11 p ≠ 10)))) := by
  have dr : ∀ (a : Int) (v : Option Value) (h1 : xx_H), (v = none ∧ ∃ p : Int, h1 = mh h R (su I 20 p) A N ∧ a ≤ p ∧ p ≤ I 13 ∧ (p = I 13 ∨ (A 11 p ≠ 59 ∧ A 11 p ≠ 32 ∧ A 11 p ≠ 10)) ∧ (p = a ∨ A 11 a ≠ 0)) → (v = none ∧ ∃ p : Int, h1 = mh h R (su I 20 p) A N ∧ a ≤ p ∧ p ≤ I 13 ∧ (p = I 13 ∨ (A 11 p ≠ 59 ∧ A 11 p ≠ 32 ∧ A 11 p ≠ 10))) := fun a v h1 ⟨q1, p, q2, q3, q4, q5, _⟩ => ⟨q1, p, q2, q3, q4, q5⟩
  have fin : ∀ a : Int, 0 ≤ a → a = I 13 → xx_go (xt_P z) d 71 2 [some (.ref h.length), some (.int (iI 1))] [] (mh h R (su I 20 a) A N) (fun v h1 => v = none ∧ ∃ p : Int, h1 = mh h R (su I 20 p) A N ∧ a ≤ p ∧ p ≤ I 13 ∧ (p = I 13 ∨ (A 11 p ≠ 59 ∧ A 11 p ≠ 32 ∧ A 11 p ≠ 10)) ∧ (p = a ∨ A 11 a ≠ 0)) := by
    intro a a0 ea
    refine go_a (pc' := 3) (ls' := [some (.ref h.length), some (.int (iI 1))]) (st' := [.int (iI 1)]) rfl rfl ?_
    refine mi_eq0 (t := 115) rfl rfl (by omega) (by omega) (fun q => absurd q (by decide)) (fun _ => ?_)
    refine go_a (pc' := 7) (ls' := [some (.ref h.length), some (.int (iI 1))]) (st' := [.ref h.length]) rfl rfl ?_
    refine go_get (v := .int (iI a)) rfl mh_o rfl rfl ?_
    refine go_a (pc' := 11) (ls' := [some (.ref h.length), some (.int (iI 1))]) (st' := [.ref h.length, .int (iI a)]) rfl rfl ?_
    refine go_get (v := .int (iI (I 13))) rfl mh_o rfl rfl ?_
    refine mi_ge (t := 115) rfl rfl (by omega) (by omega) (by omega) (by omega) (fun _ => ?_) (fun q => absurd (show I 13 ≤ a by omega) q)
    exact go_r rfl rfl rfl rfl rfl rfl ⟨rfl, a, rfl, Int.le_refl _, by omega, Or.inl ea, Or.inl rfl⟩
  intro f
  induction f with
  | zero =>
    intro a hf a0 a1
    have ea : a = I 13 := by omega
    refine ⟨fin a a0 ea, ?_⟩
    refine go_a (pc' := 32) (ls' := [some (.ref h.length), some (.int (iI 1))]) (st' := [.ref h.length]) rfl rfl ?_
    refine go_get (v := .int (iI a)) rfl mh_o rfl rfl ?_
    refine go_a (pc' := 36) (ls' := [some (.ref h.length), some (.int (iI 1))]) (st' := [.ref h.length, .int (iI a)]) rfl rfl ?_
    refine go_get (v := .int (iI (I 13))) rfl mh_o rfl rfl ?_
    refine mi_ge (t := 2) rfl rfl (by omega) (by omega) (by omega) (by omega) (fun _ => ?_) (fun q => absurd (show I 13 ≤ a by omega) q)
    exact go_w (dr a) (fin a a0 ea)
  | succ f ih =>
    intro a hf a0 a1
    by_cases ea : a = I 13
    · refine ⟨fin a a0 ea, ?_⟩
      refine go_a (pc' := 32) (ls' := [some (.ref h.length), some (.int (iI 1))]) (st' := [.ref h.length]) rfl rfl ?_
      refine go_get (v := .int (iI a)) rfl mh_o rfl rfl ?_
      refine go_a (pc' := 36) (ls' := [some (.ref h.length), some (.int (iI 1))]) (st' := [.ref h.length, .int (iI a)]) rfl rfl ?_
      refine go_get (v := .int (iI (I 13))) rfl mh_o rfl rfl ?_
      refine mi_ge (t := 2) rfl rfl (by omega) (by omega) (by omega) (by omega) (fun _ => ?_) (fun q => absurd (show I 13 ≤ a by omega) q)
      exact go_w (dr a) (fin a a0 ea)
    have r := rt11 a
    have nx := ih (a + 1) (by omega) (by omega) (by omega)
    have wk : ∀ (v : Option Value) (h1 : xx_H), (v = none ∧ ∃ p : Int, h1 = mh h R (su I 20 p) A N ∧ a + 1 ≤ p ∧ p ≤ I 13 ∧ (p = I 13 ∨ (A 11 p ≠ 59 ∧ A 11 p ≠ 32 ∧ A 11 p ≠ 10))) → (v = none ∧ ∃ p : Int, h1 = mh h R (su I 20 p) A N ∧ a ≤ p ∧ p ≤ I 13 ∧ (p = I 13 ∨ (A 11 p ≠ 59 ∧ A 11 p ≠ 32 ∧ A 11 p ≠ 10))) := fun v h1 ⟨q1, p, q2, q3, q4, q5⟩ => ⟨q1, p, q2, by omega, q4, q5⟩
    have wn : A 11 a ≠ 0 → ∀ (v : Option Value) (h1 : xx_H), (v = none ∧ ∃ p : Int, h1 = mh h R (su I 20 p) A N ∧ a + 1 ≤ p ∧ p ≤ I 13 ∧ (p = I 13 ∨ (A 11 p ≠ 59 ∧ A 11 p ≠ 32 ∧ A 11 p ≠ 10))) → (v = none ∧ ∃ p : Int, h1 = mh h R (su I 20 p) A N ∧ a ≤ p ∧ p ≤ I 13 ∧ (p = I 13 ∨ (A 11 p ≠ 59 ∧ A 11 p ≠ 32 ∧ A 11 p ≠ 10)) ∧ (p = a ∨ A 11 a ≠ 0)) := fun nz v h1 ⟨q1, p, q2, q3, q4, q5⟩ => ⟨q1, p, q2, by omega, q4, q5, Or.inr nz⟩
    have inner : (xx_go (xt_P z) d 71 2 [some (.ref h.length), some (.int (iI 1))] [] (mh h R (su I 20 a) A N) (fun v h1 => v = none ∧ ∃ p : Int, h1 = mh h R (su I 20 p) A N ∧ a ≤ p ∧ p ≤ I 13 ∧ (p = I 13 ∨ (A 11 p ≠ 59 ∧ A 11 p ≠ 32 ∧ A 11 p ≠ 10)) ∧ (p = a ∨ A 11 a ≠ 0))) → xx_go (xt_P z) d 71 31 [some (.ref h.length), some (.int (iI 1))] [] (mh h R (su I 20 a) A N) (fun v h1 => v = none ∧ ∃ p : Int, h1 = mh h R (su I 20 p) A N ∧ a ≤ p ∧ p ≤ I 13 ∧ (p = I 13 ∨ (A 11 p ≠ 59 ∧ A 11 p ≠ 32 ∧ A 11 p ≠ 10))) := by
      intro two
      refine go_a (pc' := 32) (ls' := [some (.ref h.length), some (.int (iI 1))]) (st' := [.ref h.length]) rfl rfl ?_
      refine go_get (v := .int (iI a)) rfl mh_o rfl rfl ?_
      refine go_a (pc' := 36) (ls' := [some (.ref h.length), some (.int (iI 1))]) (st' := [.ref h.length, .int (iI a)]) rfl rfl ?_
      refine go_get (v := .int (iI (I 13))) rfl mh_o rfl rfl ?_
      refine mi_ge (t := 2) rfl rfl (by omega) (by omega) (by omega) (by omega) (fun q => absurd q (by omega)) (fun _ => ?_)
      refine go_a (pc' := 43) (ls' := [some (.ref h.length), some (.int (iI 1))]) (st' := [.ref h.length]) rfl rfl ?_
      refine go_get rfl mh_o rfl rfl ?_
      refine go_a (pc' := 47) (ls' := [some (.ref h.length), some (.int (iI 1))]) (st' := [.ref h.length, .ref (h.length + 11)]) rfl rfl ?_
      refine go_get (v := .int (iI a)) rfl mh_o rfl rfl ?_
      refine mi_ild rfl mh_a11 (by omega) (by omega) (by decide) ?_
      refine go_a (pc' := 53) (ls' := [some (.ref h.length), some (.int (iI 1))]) (st' := [.int (iI 10), .int (iI (A 11 a))]) rfl rfl ?_
      refine mi_eq (t := 2) rfl rfl (by omega) (by omega) (by omega) (by omega) (fun _ => go_w (dr a) two) (fun _ => ?_)
      refine go_a (pc' := 57) (ls' := [some (.ref h.length), some (.int (iI 1))]) (st' := [.ref h.length]) rfl rfl ?_
      refine go_a (pc' := 58) (ls' := [some (.ref h.length), some (.int (iI 1))]) (st' := [.ref h.length, .ref h.length]) rfl rfl ?_
      refine go_get (v := .int (iI a)) rfl mh_o rfl rfl ?_
      refine go_a (pc' := 62) (ls' := [some (.ref h.length), some (.int (iI 1))]) (st' := [.int (iI 1), .int (iI a), .ref h.length]) rfl rfl ?_
      refine mi_add rfl ?_
      refine go_put (j := 20) rfl mh_o rfl rfl (show 12 ≤ _ from hc) (show 20 < 86 by decide) rfl rfl ?_
      rw [mh_p20]
      refine go_a (pc' := 31) (ls' := [some (.ref h.length), some (.int (iI 1))]) (st' := []) rfl rfl ?_
      rw [su_su]
      exact go_w wk nx.2
    have two : xx_go (xt_P z) d 71 2 [some (.ref h.length), some (.int (iI 1))] [] (mh h R (su I 20 a) A N) (fun v h1 => v = none ∧ ∃ p : Int, h1 = mh h R (su I 20 p) A N ∧ a ≤ p ∧ p ≤ I 13 ∧ (p = I 13 ∨ (A 11 p ≠ 59 ∧ A 11 p ≠ 32 ∧ A 11 p ≠ 10)) ∧ (p = a ∨ A 11 a ≠ 0)) := by
      refine go_a (pc' := 3) (ls' := [some (.ref h.length), some (.int (iI 1))]) (st' := [.int (iI 1)]) rfl rfl ?_
      refine mi_eq0 (t := 115) rfl rfl (by omega) (by omega) (fun q => absurd q (by decide)) (fun _ => ?_)
      refine go_a (pc' := 7) (ls' := [some (.ref h.length), some (.int (iI 1))]) (st' := [.ref h.length]) rfl rfl ?_
      refine go_get (v := .int (iI a)) rfl mh_o rfl rfl ?_
      refine go_a (pc' := 11) (ls' := [some (.ref h.length), some (.int (iI 1))]) (st' := [.ref h.length, .int (iI a)]) rfl rfl ?_
      refine go_get (v := .int (iI (I 13))) rfl mh_o rfl rfl ?_
      refine mi_ge (t := 115) rfl rfl (by omega) (by omega) (by omega) (by omega) (fun q => absurd q (by omega)) (fun _ => ?_)
      refine go_a (pc' := 18) (ls' := [some (.ref h.length), some (.int (iI 1))]) (st' := [.ref h.length]) rfl rfl ?_
      refine go_get rfl mh_o rfl rfl ?_
      refine go_a (pc' := 22) (ls' := [some (.ref h.length), some (.int (iI 1))]) (st' := [.ref h.length, .ref (h.length + 11)]) rfl rfl ?_
      refine go_get (v := .int (iI a)) rfl mh_o rfl rfl ?_
      refine mi_ild rfl mh_a11 (by omega) (by omega) (by decide) ?_
      refine go_a (pc' := 28) (ls' := [some (.ref h.length), some (.int (iI 1))]) (st' := [.int (iI 59), .int (iI (A 11 a))]) rfl rfl ?_
      refine mi_ne (t := 69) rfl rfl (by omega) (by omega) (by omega) (by omega) (fun b59 => ?_) (fun b59 => ?_)
      · refine go_a (pc' := 70) (ls' := [some (.ref h.length), some (.int (iI 1))]) (st' := [.ref h.length]) rfl rfl ?_
        refine go_get rfl mh_o rfl rfl ?_
        refine go_a (pc' := 74) (ls' := [some (.ref h.length), some (.int (iI 1))]) (st' := [.ref h.length, .ref (h.length + 11)]) rfl rfl ?_
        refine go_get (v := .int (iI a)) rfl mh_o rfl rfl ?_
        refine mi_ild rfl mh_a11 (by omega) (by omega) (by decide) ?_
        refine go_a (pc' := 80) (ls' := [some (.ref h.length), some (.int (iI 1))]) (st' := [.int (iI 32), .int (iI (A 11 a))]) rfl rfl ?_
        refine mi_eq (t := 97) rfl rfl (by omega) (by omega) (by omega) (by omega) (fun b32 => ?_) (fun b32 => ?_)
        · refine go_a (pc' := 98) (ls' := [some (.ref h.length), some (.int (iI 1))]) (st' := [.ref h.length]) rfl rfl ?_
          refine go_a (pc' := 99) (ls' := [some (.ref h.length), some (.int (iI 1))]) (st' := [.ref h.length, .ref h.length]) rfl rfl ?_
          refine go_get (v := .int (iI a)) rfl mh_o rfl rfl ?_
          refine go_a (pc' := 103) (ls' := [some (.ref h.length), some (.int (iI 1))]) (st' := [.int (iI 1), .int (iI a), .ref h.length]) rfl rfl ?_
          refine mi_add rfl ?_
          refine go_put (j := 20) rfl mh_o rfl rfl (show 12 ≤ _ from hc) (show 20 < 86 by decide) rfl rfl ?_
          rw [mh_p20]
          refine go_a (pc' := 2) (ls' := [some (.ref h.length), some (.int (iI 1))]) (st' := []) rfl rfl ?_
          rw [su_su]
          exact go_w (wn (by omega)) (go_w (dr (a + 1)) nx.1)
        · refine go_a (pc' := 84) (ls' := [some (.ref h.length), some (.int (iI 1))]) (st' := [.ref h.length]) rfl rfl ?_
          refine go_get rfl mh_o rfl rfl ?_
          refine go_a (pc' := 88) (ls' := [some (.ref h.length), some (.int (iI 1))]) (st' := [.ref h.length, .ref (h.length + 11)]) rfl rfl ?_
          refine go_get (v := .int (iI a)) rfl mh_o rfl rfl ?_
          refine mi_ild rfl mh_a11 (by omega) (by omega) (by decide) ?_
          refine go_a (pc' := 94) (ls' := [some (.ref h.length), some (.int (iI 1))]) (st' := [.int (iI 10), .int (iI (A 11 a))]) rfl rfl ?_
          refine mi_ne (t := 110) rfl rfl (by omega) (by omega) (by omega) (by omega) (fun b10 => ?_) (fun b10 => ?_)
          · refine go_a (pc' := 111) (ls' := [some (.ref h.length), some (.int (iI 1))]) (st' := [.int (iI 0)]) rfl rfl ?_
            refine go_a (pc' := 112) (ls' := [some (.ref h.length), some (.int (iI 0))]) (st' := []) rfl rfl ?_
            refine go_a (pc' := 2) (ls' := [some (.ref h.length), some (.int (iI 0))]) (st' := []) rfl rfl ?_
            refine go_a (pc' := 3) (ls' := [some (.ref h.length), some (.int (iI 0))]) (st' := [.int (iI 0)]) rfl rfl ?_
            refine mi_eq0 (t := 115) rfl rfl (by omega) (by omega) (fun _ => ?_) (fun q => absurd rfl q)
            exact go_r rfl rfl rfl rfl rfl rfl ⟨rfl, a, rfl, Int.le_refl _, by omega, Or.inr ⟨b59, b32, b10⟩, Or.inl rfl⟩
          · refine go_a (pc' := 98) (ls' := [some (.ref h.length), some (.int (iI 1))]) (st' := [.ref h.length]) rfl rfl ?_
            refine go_a (pc' := 99) (ls' := [some (.ref h.length), some (.int (iI 1))]) (st' := [.ref h.length, .ref h.length]) rfl rfl ?_
            refine go_get (v := .int (iI a)) rfl mh_o rfl rfl ?_
            refine go_a (pc' := 103) (ls' := [some (.ref h.length), some (.int (iI 1))]) (st' := [.int (iI 1), .int (iI a), .ref h.length]) rfl rfl ?_
            refine mi_add rfl ?_
            refine go_put (j := 20) rfl mh_o rfl rfl (show 12 ≤ _ from hc) (show 20 < 86 by decide) rfl rfl ?_
            rw [mh_p20]
            refine go_a (pc' := 2) (ls' := [some (.ref h.length), some (.int (iI 1))]) (st' := []) rfl rfl ?_
            rw [su_su]
            exact go_w (wn (by omega)) (go_w (dr (a + 1)) nx.1)
      · show xx_go (xt_P z) d 71 31 [some (.ref h.length), some (.int (iI 1))] [] (mh h R (su I 20 a) A N) _
        refine go_a (pc' := 32) (ls' := [some (.ref h.length), some (.int (iI 1))]) (st' := [.ref h.length]) rfl rfl ?_
        refine go_get (v := .int (iI a)) rfl mh_o rfl rfl ?_
        refine go_a (pc' := 36) (ls' := [some (.ref h.length), some (.int (iI 1))]) (st' := [.ref h.length, .int (iI a)]) rfl rfl ?_
        refine go_get (v := .int (iI (I 13))) rfl mh_o rfl rfl ?_
        refine mi_ge (t := 2) rfl rfl (by omega) (by omega) (by omega) (by omega) (fun q => absurd q (by omega)) (fun _ => ?_)
        refine go_a (pc' := 43) (ls' := [some (.ref h.length), some (.int (iI 1))]) (st' := [.ref h.length]) rfl rfl ?_
        refine go_get rfl mh_o rfl rfl ?_
        refine go_a (pc' := 47) (ls' := [some (.ref h.length), some (.int (iI 1))]) (st' := [.ref h.length, .ref (h.length + 11)]) rfl rfl ?_
        refine go_get (v := .int (iI a)) rfl mh_o rfl rfl ?_
        refine mi_ild rfl mh_a11 (by omega) (by omega) (by decide) ?_
        refine go_a (pc' := 53) (ls' := [some (.ref h.length), some (.int (iI 1))]) (st' := [.int (iI 10), .int (iI (A 11 a))]) rfl rfl ?_
        refine mi_eq (t := 2) rfl rfl (by omega) (by omega) (by omega) (by omega) (fun q => absurd q (by omega)) (fun _ => ?_)
        refine go_a (pc' := 57) (ls' := [some (.ref h.length), some (.int (iI 1))]) (st' := [.ref h.length]) rfl rfl ?_
        refine go_a (pc' := 58) (ls' := [some (.ref h.length), some (.int (iI 1))]) (st' := [.ref h.length, .ref h.length]) rfl rfl ?_
        refine go_get (v := .int (iI a)) rfl mh_o rfl rfl ?_
        refine go_a (pc' := 62) (ls' := [some (.ref h.length), some (.int (iI 1))]) (st' := [.int (iI 1), .int (iI a), .ref h.length]) rfl rfl ?_
        refine mi_add rfl ?_
        refine go_put (j := 20) rfl mh_o rfl rfl (show 12 ≤ _ from hc) (show 20 < 86 by decide) rfl rfl ?_
        rw [mh_p20]
        refine go_a (pc' := 31) (ls' := [some (.ref h.length), some (.int (iI 1))]) (st' := []) rfl rfl ?_
        rw [su_su]
        exact go_w (wn (by omega)) nx.2
    exact ⟨two, inner two⟩
theorem mm_skip (z : Value) (d : Nat) (h R : xx_H) (I : Nat → Int) (A : Nat → Int → Int) (N : Int → Int) (hc : 12 ≤ h.length) (t0 : 0 ≤ I 13) (t1 : I 13 ≤ 3000) (rt11 : ∀ e : Int, 0 ≤ A 11 e ∧ A 11 e ≤ 255) (a0 : 0 ≤ I 20) (a1 : I 20 ≤ I 13) : xx_cl (xt_P z) (d + 1) 71 [.ref h.length] (mh h R I A N) (fun v h1 => v = none ∧ ∃ p : Int, h1 = mh h R (su I 20 p) A N ∧ I 20 ≤ p ∧ p ≤ I 13 ∧ (p = I 13 ∨ (A 11 p ≠ 59 ∧ A 11 p ≠ 32 ∧ A 11 p ≠ 10)) ∧ (p = I 20 ∨ A 11 (I 20) ≠ 0)) := by
  refine cl_go rfl ?_
  show xx_go (xt_P z) d 71 0 [some (.ref h.length), none] [] (mh h R I A N) _
  refine go_a (pc' := 1) (ls' := [some (.ref h.length), none]) (st' := [.int (iI 1)]) rfl rfl ?_
  refine go_a (pc' := 2) (ls' := [some (.ref h.length), some (.int (iI 1))]) (st' := []) rfl rfl ?_
  have key := (mm_skip_loop z d h R I A N hc t0 t1 rt11 _ (I 20) (Nat.le_refl _) a0 a1).1
  rw [su_eta rfl] at key
  exact key
