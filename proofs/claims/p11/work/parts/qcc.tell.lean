def CNT (f : Int → Int) (x : Int) : Nat → Int
  | 0 => 0
  | n + 1 => CNT f x n + (if f n = x then 1 else 0)
theorem CNT_le {f : Int → Int} {x : Int} : ∀ n : Nat, 0 ≤ CNT f x n ∧ CNT f x n ≤ n
  | 0 => ⟨Int.le_refl _, Int.le_refl _⟩
  | n + 1 => by
    have r := CNT_le (f := f) (x := x) n
    show 0 ≤ CNT f x n + (if f n = x then 1 else 0) ∧ CNT f x n + (if f n = x then 1 else 0) ≤ ((n + 1 : Nat) : Int)
    split <;> omega
theorem CNT_s {f : Int → Int} {x k : Int} (h : 0 ≤ k) : CNT f x (k + 1).toNat = CNT f x k.toNat + (if f k = x then 1 else 0) := by
  rw [show (k + 1).toNat = k.toNat + 1 by omega]
  show CNT f x k.toNat + (if f (k.toNat : Int) = x then 1 else 0) = _
  rw [show (k.toNat : Int) = k by omega]
theorem mm_tell_loop (z : Value) (d : Nat) (x m : Int) (y5 : Option Value) (h R : xx_H) (I : Nat → Int) (A : Nat → Int → Int) (N : Int → Int) (hc : 12 ≤ h.length) (Q : Option Value → xx_H → Prop) (x0 : 0 ≤ x) (x1 : x < 100) (b0 : ∀ e : Int, 0 ≤ A 27 e ∧ A 27 e ≤ 1) (K : xx_go (xt_P z) d 79 60 [some (.ref h.length), some (.int (iI x)), some (.int (iI m)), some (.int (iI (CNT (A 27) (A 27 x) x.toNat))), some (.int (iI x)), y5] [] (mh h R I A N) Q) : ∀ (n : Nat) (k : Int), x - k = n → 0 ≤ k → k ≤ x → xx_go (xt_P z) d 79 24 [some (.ref h.length), some (.int (iI x)), some (.int (iI m)), some (.int (iI (CNT (A 27) (A 27 x) k.toNat))), some (.int (iI k)), y5] [] (mh h R I A N) Q := by
  intro n
  induction n with
  | zero =>
    intro k em k0 k1
    have ek : k = x := by omega
    subst ek
    refine go_a (pc' := 26) (ls' := [some (.ref h.length), some (.int (iI k)), some (.int (iI m)), some (.int (iI (CNT (A 27) (A 27 k) k.toNat))), some (.int (iI k)), y5]) (st' := [.int (iI k)]) rfl rfl ?_
    refine go_a (pc' := 27) (ls' := [some (.ref h.length), some (.int (iI k)), some (.int (iI m)), some (.int (iI (CNT (A 27) (A 27 k) k.toNat))), some (.int (iI k)), y5]) (st' := [.int (iI k), .int (iI k)]) rfl rfl ?_
    exact mi_ge (t := 60) rfl rfl (by omega) (by omega) (by omega) (by omega) (fun _ => K) (fun q => absurd (Int.le_refl k) q)
  | succ n ih =>
    intro k em k0 k1
    have cn := CNT_le (f := A 27) (x := A 27 x) k.toNat
    have bk := b0 k
    have bx := b0 x
    have nx := CNT_s (f := A 27) (x := A 27 x) k0
    refine go_a (pc' := 26) (ls' := [some (.ref h.length), some (.int (iI x)), some (.int (iI m)), some (.int (iI (CNT (A 27) (A 27 x) k.toNat))), some (.int (iI k)), y5]) (st' := [.int (iI k)]) rfl rfl ?_
    refine go_a (pc' := 27) (ls' := [some (.ref h.length), some (.int (iI x)), some (.int (iI m)), some (.int (iI (CNT (A 27) (A 27 x) k.toNat))), some (.int (iI k)), y5]) (st' := [.int (iI x), .int (iI k)]) rfl rfl ?_
    refine mi_ge (t := 60) rfl rfl (by omega) (by omega) (by omega) (by omega) (fun q => absurd q (by omega)) (fun _ => ?_)
    refine go_a (pc' := 31) (ls' := [some (.ref h.length), some (.int (iI x)), some (.int (iI m)), some (.int (iI (CNT (A 27) (A 27 x) k.toNat))), some (.int (iI k)), y5]) (st' := [.int (iI (CNT (A 27) (A 27 x) k.toNat))]) rfl rfl ?_
    refine go_a (pc' := 32) (ls' := [some (.ref h.length), some (.int (iI x)), some (.int (iI m)), some (.int (iI (CNT (A 27) (A 27 x) k.toNat))), some (.int (iI k)), y5]) (st' := [.ref h.length, .int (iI (CNT (A 27) (A 27 x) k.toNat))]) rfl rfl ?_
    refine go_get rfl mh_o rfl rfl ?_
    refine go_a (pc' := 37) (ls' := [some (.ref h.length), some (.int (iI x)), some (.int (iI m)), some (.int (iI (CNT (A 27) (A 27 x) k.toNat))), some (.int (iI k)), y5]) (st' := [.int (iI k), .ref (h.length + 27), .int (iI (CNT (A 27) (A 27 x) k.toNat))]) rfl rfl ?_
    refine mi_zld rfl mh_a27 k0 (show k < (100 : Nat) by omega) (by decide) ?_
    refine go_a (pc' := 39) (ls' := [some (.ref h.length), some (.int (iI x)), some (.int (iI m)), some (.int (iI (CNT (A 27) (A 27 x) k.toNat))), some (.int (iI k)), y5]) (st' := [.ref h.length, .int (iI (A 27 k)), .int (iI (CNT (A 27) (A 27 x) k.toNat))]) rfl rfl ?_
    refine go_get rfl mh_o rfl rfl ?_
    refine go_a (pc' := 43) (ls' := [some (.ref h.length), some (.int (iI x)), some (.int (iI m)), some (.int (iI (CNT (A 27) (A 27 x) k.toNat))), some (.int (iI k)), y5]) (st' := [.int (iI x), .ref (h.length + 27), .int (iI (A 27 k)), .int (iI (CNT (A 27) (A 27 x) k.toNat))]) rfl rfl ?_
    refine mi_zld rfl mh_a27 x0 (show x < (100 : Nat) by omega) (by decide) ?_
    show xx_go (xt_P z) d 79 44 [some (.ref h.length), some (.int (iI x)), some (.int (iI m)), some (.int (iI (CNT (A 27) (A 27 x) k.toNat))), some (.int (iI k)), y5] [.int (iI (A 27 x)), .int (iI (A 27 k)), .int (iI (CNT (A 27) (A 27 x) k.toNat))] (mh h R I A N) _
    refine mi_ne (t := 51) rfl rfl (by omega) (by omega) (by omega) (by omega) (fun q => ?_) (fun q => ?_)
    · rw [if_neg q] at nx
      refine go_a (pc' := 52) (ls' := [some (.ref h.length), some (.int (iI x)), some (.int (iI m)), some (.int (iI (CNT (A 27) (A 27 x) k.toNat))), some (.int (iI k)), y5]) (st' := [.int (iI 0), .int (iI (CNT (A 27) (A 27 x) k.toNat))]) rfl rfl ?_
      refine mi_add rfl ?_
      refine go_a (pc' := 54) (ls' := [some (.ref h.length), some (.int (iI x)), some (.int (iI m)), some (.int (iI ((CNT (A 27) (A 27 x) k.toNat) + 0))), some (.int (iI k)), y5]) (st' := []) rfl rfl ?_
      refine go_a (pc' := 57) (ls' := [some (.ref h.length), some (.int (iI x)), some (.int (iI m)), some (.int (iI ((CNT (A 27) (A 27 x) k.toNat) + 0))), some (.int (iI (k + 1))), y5]) (st' := []) rfl (by rw [← iI_add k 1]; rfl) ?_
      refine go_a (pc' := 24) (ls' := [some (.ref h.length), some (.int (iI x)), some (.int (iI m)), some (.int (iI ((CNT (A 27) (A 27 x) k.toNat) + 0))), some (.int (iI (k + 1))), y5]) (st' := []) rfl rfl ?_
      have e := ih (k + 1) (by omega) (by omega) (by omega)
      rw [nx] at e
      exact e
    · have q : A 27 k = A 27 x := by omega
      rw [if_pos q] at nx
      refine go_a (pc' := 48) (ls' := [some (.ref h.length), some (.int (iI x)), some (.int (iI m)), some (.int (iI (CNT (A 27) (A 27 x) k.toNat))), some (.int (iI k)), y5]) (st' := [.int (iI 1), .int (iI (CNT (A 27) (A 27 x) k.toNat))]) rfl rfl ?_
      refine go_a (pc' := 52) (ls' := [some (.ref h.length), some (.int (iI x)), some (.int (iI m)), some (.int (iI (CNT (A 27) (A 27 x) k.toNat))), some (.int (iI k)), y5]) (st' := [.int (iI 1), .int (iI (CNT (A 27) (A 27 x) k.toNat))]) rfl rfl ?_
      refine mi_add rfl ?_
      refine go_a (pc' := 54) (ls' := [some (.ref h.length), some (.int (iI x)), some (.int (iI m)), some (.int (iI ((CNT (A 27) (A 27 x) k.toNat) + 1))), some (.int (iI k)), y5]) (st' := []) rfl rfl ?_
      refine go_a (pc' := 57) (ls' := [some (.ref h.length), some (.int (iI x)), some (.int (iI m)), some (.int (iI ((CNT (A 27) (A 27 x) k.toNat) + 1))), some (.int (iI (k + 1))), y5]) (st' := []) rfl (by rw [← iI_add k 1]; rfl) ?_
      refine go_a (pc' := 24) (ls' := [some (.ref h.length), some (.int (iI x)), some (.int (iI m)), some (.int (iI ((CNT (A 27) (A 27 x) k.toNat) + 1))), some (.int (iI (k + 1))), y5]) (st' := []) rfl rfl ?_
      have e := ih (k + 1) (by omega) (by omega) (by omega)
      rw [nx] at e
      exact e

