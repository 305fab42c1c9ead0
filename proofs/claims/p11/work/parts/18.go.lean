def xx_go (P : xx_P) (d k pc : Nat) (ls : xx_L) (st : List Value) (h : xx_H) (Q : Option Value → xx_H → Prop) : Prop := ∃ (F : Nat) (v : Option Value) (h1 : xx_H), (∀ f g : Nat, F ≤ f → F ≤ g → xx_run P (xx_call P g d) f k pc ls st h = some (v, h1)) ∧ Q v h1
def xx_cl (P : xx_P) (d q : Nat) (as : List Value) (h : xx_H) (Q : Option Value → xx_H → Prop) : Prop := ∃ (F : Nat) (v : Option Value) (h1 : xx_H), (∀ g : Nat, F ≤ g → xx_call P g d q as h = some (v, h1)) ∧ Q v h1
theorem go_w {P : xx_P} {d k pc : Nat} {ls : xx_L} {st : List Value} {h : xx_H} {Q Q' : Option Value → xx_H → Prop} (hw : ∀ v h1, Q v h1 → Q' v h1) (hg : xx_go P d k pc ls st h Q) : xx_go P d k pc ls st h Q' := by
  obtain ⟨F, v, h1, a, b⟩ := hg
  exact ⟨F, v, h1, a, hw v h1 b⟩
theorem cl_w {P : xx_P} {d q : Nat} {as : List Value} {h : xx_H} {Q Q' : Option Value → xx_H → Prop} (hw : ∀ v h1, Q v h1 → Q' v h1) (hg : xx_cl P d q as h Q) : xx_cl P d q as h Q' := by
  obtain ⟨F, v, h1, a, b⟩ := hg
  exact ⟨F, v, h1, a, hw v h1 b⟩
theorem cl_go {P : xx_P} {d q : Nat} {as : List Value} {h : xx_H} {Q : Option Value → xx_H → Prop} (hn : Nat.ble (xx_args as).length (xp_nl P q) = true) (hg : xx_go P d q 0 (xx_ent (xp_nl P q) as) [] h Q) : xx_cl P (d + 1) q as h Q := by
  obtain ⟨F, v, h1, a, b⟩ := hg
  refine ⟨F, v, h1, fun g hF => ?_, b⟩
  unfold xx_call
  rw [hn]
  exact a g g hF hF
theorem go_a {P : xx_P} {d k pc pc' : Nat} {ls ls' : xx_L} {st st' : List Value} {h : xx_H} {Q : Option Value → xx_H → Prop} {i : Instr} (hc : xp_code P k pc = some i) (hs : xa_step i pc ls st = some (pc', ls', st')) (hg : xx_go P d k pc' ls' st' h Q) : xx_go P d k pc ls st h Q := by
  obtain ⟨F, v, h1, a, b⟩ := hg
  refine ⟨F + 1, v, h1, fun f g hF hG => ?_, b⟩
  obtain ⟨f', rfl⟩ : ∃ f', f = f' + 1 := ⟨f - 1, by omega⟩
  unfold xx_run
  rw [hc]
  dsimp only
  rw [hs]
  exact a f' g (by omega) (by omega)
theorem go_b {P : xx_P} {d k pc pc' : Nat} {ls : xx_L} {st st' : List Value} {h h' : xx_H} {Q : Option Value → xx_H → Prop} {i : Instr} (hc : xp_code P k pc = some i) (ha : xa_step i pc ls st = none) (hs : xb_step P k i pc st h = some (pc', st', h')) (hg : xx_go P d k pc' ls st' h' Q) : xx_go P d k pc ls st h Q := by
  obtain ⟨F, v, h1, a, b⟩ := hg
  refine ⟨F + 1, v, h1, fun f g hF hG => ?_, b⟩
  obtain ⟨f', rfl⟩ : ∃ f', f = f' + 1 := ⟨f - 1, by omega⟩
  unfold xx_run
  rw [hc]
  dsimp only
  rw [ha, hs]
  exact a f' g (by omega) (by omega)
theorem go_o {P : xx_P} {d k pc : Nat} {ls : xx_L} {st st' : List Value} {h h' : xx_H} {Q : Option Value → xx_H → Prop} {i : Instr} (hc : xp_code P k pc = some i) (ha : xa_step i pc ls st = none) (hb : xb_step P k i pc st h = none) (hs : xo_step P k i st h = some (st', h')) (hg : xx_go P d k (pc + 3) ls st' h' Q) : xx_go P d k pc ls st h Q := by
  obtain ⟨F, v, h1, a, b⟩ := hg
  refine ⟨F + 1, v, h1, fun f g hF hG => ?_, b⟩
  obtain ⟨f', rfl⟩ : ∃ f', f = f' + 1 := ⟨f - 1, by omega⟩
  unfold xx_run
  rw [hc]
  dsimp only
  rw [ha, hb, hs]
  exact a f' g (by omega) (by omega)
theorem go_c {P : xx_P} {d k pc q : Nat} {ls : xx_L} {st as r : List Value} {h : xx_H} {Q Q1 : Option Value → xx_H → Prop} {i : Instr} (hc : xp_code P k pc = some i) (ha : xa_step i pc ls st = none) (hb : xb_step P k i pc st h = none) (ho : xo_step P k i st h = none) (hs : xc_step P k i st h = some (q, as, r)) (hcl : xx_cl P d q as h Q1) (hg : ∀ v h1, Q1 v h1 → xx_go P d k (pc + 3) ls (v.toList ++ r) h1 Q) : xx_go P d k pc ls st h Q := by
  obtain ⟨F1, v1, h1, a1, b1⟩ := hcl
  obtain ⟨F, v, h2, a, b⟩ := hg v1 h1 b1
  refine ⟨F + F1 + 1, v, h2, fun f g hF hG => ?_, b⟩
  obtain ⟨f', rfl⟩ : ∃ f', f = f' + 1 := ⟨f - 1, by omega⟩
  unfold xx_run
  rw [hc]
  dsimp only
  rw [ha, hb, ho, hs]
  dsimp only
  rw [a1 g (by omega)]
  exact a f' g (by omega) (by omega)
theorem go_r {P : xx_P} {d k pc : Nat} {ls : xx_L} {st : List Value} {h : xx_H} {Q : Option Value → xx_H → Prop} {i : Instr} {v : Option Value} (hc : xp_code P k pc = some i) (ha : xa_step i pc ls st = none) (hb : xb_step P k i pc st h = none) (ho : xo_step P k i st h = none) (hs0 : xc_step P k i st h = none) (hs : xr_step (xp_ret P k) i st = some v) (hq : Q v h) : xx_go P d k pc ls st h Q := by
  refine ⟨1, v, h, fun f g hF hG => ?_, hq⟩
  obtain ⟨f', rfl⟩ : ∃ f', f = f' + 1 := ⟨f - 1, by omega⟩
  unfold xx_run
  rw [hc]
  dsimp only
  rw [ha, hb, ho, hs0, hs]
theorem go_if {P : xx_P} {d k pc t : Nat} {ls : xx_L} {st r : List Value} {h : xx_H} {Q : Option Value → xx_H → Prop} {i : Instr} {b : Bool} {off : Int} (hc : xp_code P k pc = some i) (hs : xa_step i pc ls st = xa_if b pc off ls r) (ht : xa_br pc off = some t) (h1 : b = true → xx_go P d k t ls r h Q) (h2 : b = false → xx_go P d k (pc + 3) ls r h Q) : xx_go P d k pc ls st h Q := by
  cases b with
  | true => exact go_a hc (hs.trans (by unfold xa_if; rw [ht])) (h1 rfl)
  | false => exact go_a hc (hs.trans (by unfold xa_if; rw [ht])) (h2 rfl)
