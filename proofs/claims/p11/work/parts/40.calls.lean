theorem go_v {P : xx_P} {d k pc n q m a ci : Nat} {lst : List (Nat × Nat)} {ls : xx_L} {st as r fs : List Value} {h : xx_H} {Q Q1 : Option Value → xx_H → Prop} (hc : xp_code P k pc = some (.invokevirtual n)) (hm : xp_vmt P (xp_own P k) n = some (q, lst)) (hr : st[q - 1]? = some (.ref a)) (hh : h[a]? = some (.inr (ci, fs))) (hl : lst.lookup ci = some m) (hcut : xc_cut m q st = some (m, as, r)) (hcl : xx_cl P d m as h Q1) (hg : ∀ v h1, Q1 v h1 → xx_go P d k (pc + 3) ls (v.toList ++ r) h1 Q) : xx_go P d k pc ls st h Q := by
  refine go_c hc rfl rfl rfl ?_ hcl hg
  show (match xp_vmt P (xp_own P k) n with
    | some (q, l) => match xc_recv q st h with
      | some ci => match l.lookup ci with
        | some m => xc_cut m q st
        | none => none
      | none => none
    | none => none) = _
  rw [hm]
  dsimp only
  unfold xc_recv
  rw [hr]
  dsimp only
  rw [hh]
  dsimp only
  rw [hl]
  exact hcut
theorem go_s {P : xx_P} {d k pc n q m : Nat} {ls : xx_L} {st as r : List Value} {h : xx_H} {Q Q1 : Option Value → xx_H → Prop} (hc : xp_code P k pc = some (.invokestatic n)) (ho : xo_step P k (.invokestatic n) st h = none) (hm : xp_smt P (xp_own P k) n = some (m, q)) (hcut : xc_cut m q st = some (m, as, r)) (hcl : xx_cl P d m as h Q1) (hg : ∀ v h1, Q1 v h1 → xx_go P d k (pc + 3) ls (v.toList ++ r) h1 Q) : xx_go P d k pc ls st h Q := by
  refine go_c hc rfl rfl ho ?_ hcl hg
  show (match xp_smt P (xp_own P k) n with
    | some (m, q) => xc_cut m q st
    | none => none) = _
  rw [hm]
  exact hcut
theorem go_i {P : xx_P} {d k pc n q m a : Nat} {ls : xx_L} {st as r : List Value} {h : xx_H} {Q Q1 : Option Value → xx_H → Prop} (hc : xp_code P k pc = some (.invokespecial n)) (ho : xo_step P k (.invokespecial n) st h = none) (hm : xp_pmt P (xp_own P k) n = some (m, q)) (hr : st[q - 1]? = some (.ref a)) (hcut : xc_cut m q st = some (m, as, r)) (hcl : xx_cl P d m as h Q1) (hg : ∀ v h1, Q1 v h1 → xx_go P d k (pc + 3) ls (v.toList ++ r) h1 Q) : xx_go P d k pc ls st h Q := by
  refine go_c hc rfl rfl ho ?_ hcl hg
  show (match xp_pmt P (xp_own P k) n with
    | some (m, q) => match st[q - 1]? with
      | some (.ref _) => xc_cut m q st
      | _ => none
    | none => none) = _
  rw [hm]
  dsimp only
  rw [hr]
  exact hcut
