theorem lI_toInt {a : Int} (h1 : -9223372036854775808 ≤ a) (h2 : a < 9223372036854775808) : (Int64.ofInt a).toInt = a := Int64.toInt_ofInt_of_le h1 h2
theorem lI_div {a b : Int} (a0 : 0 ≤ a) (a1 : a < 9223372036854775808) (b0 : 0 < b) (b1 : b < 9223372036854775808) : Int64.ofInt a / Int64.ofInt b = Int64.ofInt (a / b) := by
  apply Int64.toInt_inj.mp
  have q : a / b ≤ a := Int.ediv_le_self b a0
  have q0 : 0 ≤ a / b := Int.ediv_nonneg a0 (by omega)
  rw [Int64.toInt_div, lI_toInt (by omega) a1, lI_toInt (by omega) b1, lI_toInt (by omega) (by omega), Int.tdiv_eq_ediv_of_nonneg a0]
  exact Int.bmod_eq_of_le (by omega) (by omega)
theorem lI_rem {a b : Int} (a0 : 0 ≤ a) (a1 : a < 9223372036854775808) (b0 : 0 < b) (b1 : b < 9223372036854775808) : Int64.ofInt a - Int64.ofInt a / Int64.ofInt b * Int64.ofInt b = Int64.ofInt (a % b) := by
  rw [lI_div a0 a1 b0 b1, ← Int64.ofInt_mul, ← Int64.ofInt_sub]
  congr 1
  have := Int.emod_add_mul_ediv a b
  rw [Int.mul_comm (a / b) b]
  omega
theorem iI_l {a : Int} (h1 : -2147483648 ≤ a) (h2 : a < 2147483648) : (iI a).toInt64 = Int64.ofInt a := by
  apply Int64.toInt_inj.mp
  rw [Int32.toInt_toInt64, iI_toInt h1 h2, lI_toInt (by omega) (by omega)]
section ML
variable {P : xx_P} {d k pc : Nat} {ls : xx_L} {r : List Value} {hp : xx_H} {Q : Option Value → xx_H → Prop} {x y : Int}
theorem mi_i2l (hc : xp_code P k pc = some .i2l) (h1 : -2147483648 ≤ x) (h2 : x < 2147483648) (hg : xx_go P d k (pc + 1) ls (.long (Int64.ofInt x) :: r) hp Q) : xx_go P d k pc ls (.int (iI x) :: r) hp Q := go_a hc (by show some (pc + 1, ls, Value.long (iI x).toInt64 :: r) = _; rw [iI_l h1 h2]) hg
theorem mi_ladd (hc : xp_code P k pc = some .ladd) (hg : xx_go P d k (pc + 1) ls (.long (Int64.ofInt (x + y)) :: r) hp Q) : xx_go P d k pc ls (.long (Int64.ofInt y) :: .long (Int64.ofInt x) :: r) hp Q := go_a hc (by show some (pc + 1, ls, Value.long (Int64.ofInt x + Int64.ofInt y) :: r) = _; rw [← Int64.ofInt_add]) hg
theorem mi_lsub (hc : xp_code P k pc = some .lsub) (hg : xx_go P d k (pc + 1) ls (.long (Int64.ofInt (x - y)) :: r) hp Q) : xx_go P d k pc ls (.long (Int64.ofInt y) :: .long (Int64.ofInt x) :: r) hp Q := go_a hc (by show some (pc + 1, ls, Value.long (Int64.ofInt x - Int64.ofInt y) :: r) = _; rw [← Int64.ofInt_sub]) hg
theorem mi_lmul (hc : xp_code P k pc = some .lmul) (hg : xx_go P d k (pc + 1) ls (.long (Int64.ofInt (x * y)) :: r) hp Q) : xx_go P d k pc ls (.long (Int64.ofInt y) :: .long (Int64.ofInt x) :: r) hp Q := go_a hc (by show some (pc + 1, ls, Value.long (Int64.ofInt x * Int64.ofInt y) :: r) = _; rw [← Int64.ofInt_mul]) hg
theorem lI_nz {y : Int} (y0 : 0 < y) (y1 : y < 9223372036854775808) : ¬ Int64.ofInt y = 0 := by
  intro h
  have h2 := congrArg Int64.toInt h
  rw [lI_toInt (by omega) y1, show (0 : Int64).toInt = 0 from rfl] at h2
  omega
theorem mi_ldiv (hc : xp_code P k pc = some .ldiv) (x0 : 0 ≤ x) (x1 : x < 9223372036854775808) (y0 : 0 < y) (y1 : y < 9223372036854775808) (hg : xx_go P d k (pc + 1) ls (.long (Int64.ofInt (x / y)) :: r) hp Q) : xx_go P d k pc ls (.long (Int64.ofInt y) :: .long (Int64.ofInt x) :: r) hp Q := go_a hc (by
  show xa_g (decide (¬ Int64.ofInt y = 0)) (some (pc + 1, ls, Value.long (Int64.ofInt x / Int64.ofInt y) :: r)) = _
  rw [decide_eq_true (lI_nz y0 y1), lI_div x0 x1 y0 y1]
  rfl) hg
theorem mi_lrem (hc : xp_code P k pc = some .lrem) (x0 : 0 ≤ x) (x1 : x < 9223372036854775808) (y0 : 0 < y) (y1 : y < 9223372036854775808) (hg : xx_go P d k (pc + 1) ls (.long (Int64.ofInt (x % y)) :: r) hp Q) : xx_go P d k pc ls (.long (Int64.ofInt y) :: .long (Int64.ofInt x) :: r) hp Q := go_a hc (by
  show xa_g (decide (¬ Int64.ofInt y = 0)) (some (pc + 1, ls, Value.long (Int64.ofInt x - Int64.ofInt x / Int64.ofInt y * Int64.ofInt y) :: r)) = _
  rw [decide_eq_true (lI_nz y0 y1), lI_rem x0 x1 y0 y1]
  rfl) hg
theorem lI_le {a b : Int} (h1 : -9223372036854775808 ≤ a) (h2 : a < 9223372036854775808) (h3 : -9223372036854775808 ≤ b) (h4 : b < 9223372036854775808) : Int64.ofInt a ≤ Int64.ofInt b ↔ a ≤ b := by
  rw [Int64.le_iff_toInt_le, lI_toInt h1 h2, lI_toInt h3 h4]
theorem lI_lt {a b : Int} (h1 : -9223372036854775808 ≤ a) (h2 : a < 9223372036854775808) (h3 : -9223372036854775808 ≤ b) (h4 : b < 9223372036854775808) : Int64.ofInt a < Int64.ofInt b ↔ a < b := by
  rw [Int64.lt_iff_toInt_lt, lI_toInt h1 h2, lI_toInt h3 h4]
theorem lI_eq {a b : Int} (h1 : -9223372036854775808 ≤ a) (h2 : a < 9223372036854775808) (h3 : -9223372036854775808 ≤ b) (h4 : b < 9223372036854775808) : Int64.ofInt a = Int64.ofInt b ↔ a = b := by
  rw [← Int64.toInt_inj, lI_toInt h1 h2, lI_toInt h3 h4]
theorem mi_lc_le {off : Int} {t : Nat} (hc1 : xp_code P k pc = some .lcmp) (hc2 : xp_code P k (pc + 1) = some (.ifCond .le off)) (ht : xa_br (pc + 1) off = some t) (x1 : -9223372036854775808 ≤ x) (x2 : x < 9223372036854775808) (y1 : -9223372036854775808 ≤ y) (y2 : y < 9223372036854775808) (h1 : x ≤ y → xx_go P d k t ls r hp Q) (h2 : ¬ (x ≤ y) → xx_go P d k (pc + 4) ls r hp Q) : xx_go P d k pc ls (.long (Int64.ofInt y) :: .long (Int64.ofInt x) :: r) hp Q := by
  refine go_a (pc' := pc + 1) (ls' := ls) (st' := .int (lg_cmp (Int64.ofInt x) (Int64.ofInt y)) :: r) hc1 rfl ?_
  have e := (lg_cmp_le _ _).trans (lI_le x1 x2 y1 y2)
  exact go_if (b := xa_ci .le (lg_cmp (Int64.ofInt x) (Int64.ofInt y)) 0) hc2 rfl ht (fun hb => h1 (e.mp (of_decide_eq_true hb))) (fun hb => h2 (fun q => of_decide_eq_false hb (e.mpr q)))
theorem mi_lc_gt {off : Int} {t : Nat} (hc1 : xp_code P k pc = some .lcmp) (hc2 : xp_code P k (pc + 1) = some (.ifCond .gt off)) (ht : xa_br (pc + 1) off = some t) (x1 : -9223372036854775808 ≤ x) (x2 : x < 9223372036854775808) (y1 : -9223372036854775808 ≤ y) (y2 : y < 9223372036854775808) (h1 : y < x → xx_go P d k t ls r hp Q) (h2 : ¬ (y < x) → xx_go P d k (pc + 4) ls r hp Q) : xx_go P d k pc ls (.long (Int64.ofInt y) :: .long (Int64.ofInt x) :: r) hp Q := by
  refine go_a (pc' := pc + 1) (ls' := ls) (st' := .int (lg_cmp (Int64.ofInt x) (Int64.ofInt y)) :: r) hc1 rfl ?_
  have e := (lg_cmp_gt _ _).trans (lI_lt y1 y2 x1 x2)
  exact go_if (b := xa_ci .gt (lg_cmp (Int64.ofInt x) (Int64.ofInt y)) 0) hc2 rfl ht (fun hb => h1 (e.mp (of_decide_eq_true hb))) (fun hb => h2 (fun q => of_decide_eq_false hb (e.mpr q)))
theorem mi_lc_lt {off : Int} {t : Nat} (hc1 : xp_code P k pc = some .lcmp) (hc2 : xp_code P k (pc + 1) = some (.ifCond .lt off)) (ht : xa_br (pc + 1) off = some t) (x1 : -9223372036854775808 ≤ x) (x2 : x < 9223372036854775808) (y1 : -9223372036854775808 ≤ y) (y2 : y < 9223372036854775808) (h1 : x < y → xx_go P d k t ls r hp Q) (h2 : ¬ (x < y) → xx_go P d k (pc + 4) ls r hp Q) : xx_go P d k pc ls (.long (Int64.ofInt y) :: .long (Int64.ofInt x) :: r) hp Q := by
  refine go_a (pc' := pc + 1) (ls' := ls) (st' := .int (lg_cmp (Int64.ofInt x) (Int64.ofInt y)) :: r) hc1 rfl ?_
  have e := (lg_cmp_lt _ _).trans (lI_lt x1 x2 y1 y2)
  exact go_if (b := xa_ci .lt (lg_cmp (Int64.ofInt x) (Int64.ofInt y)) 0) hc2 rfl ht (fun hb => h1 (e.mp (of_decide_eq_true hb))) (fun hb => h2 (fun q => of_decide_eq_false hb (e.mpr q)))
theorem mi_lc_ge {off : Int} {t : Nat} (hc1 : xp_code P k pc = some .lcmp) (hc2 : xp_code P k (pc + 1) = some (.ifCond .ge off)) (ht : xa_br (pc + 1) off = some t) (x1 : -9223372036854775808 ≤ x) (x2 : x < 9223372036854775808) (y1 : -9223372036854775808 ≤ y) (y2 : y < 9223372036854775808) (h1 : y ≤ x → xx_go P d k t ls r hp Q) (h2 : ¬ (y ≤ x) → xx_go P d k (pc + 4) ls r hp Q) : xx_go P d k pc ls (.long (Int64.ofInt y) :: .long (Int64.ofInt x) :: r) hp Q := by
  refine go_a (pc' := pc + 1) (ls' := ls) (st' := .int (lg_cmp (Int64.ofInt x) (Int64.ofInt y)) :: r) hc1 rfl ?_
  have e := (lg_cmp_ge _ _).trans (lI_le y1 y2 x1 x2)
  exact go_if (b := xa_ci .ge (lg_cmp (Int64.ofInt x) (Int64.ofInt y)) 0) hc2 rfl ht (fun hb => h1 (e.mp (of_decide_eq_true hb))) (fun hb => h2 (fun q => of_decide_eq_false hb (e.mpr q)))
theorem mi_lc_eq {off : Int} {t : Nat} (hc1 : xp_code P k pc = some .lcmp) (hc2 : xp_code P k (pc + 1) = some (.ifCond .eq off)) (ht : xa_br (pc + 1) off = some t) (x1 : -9223372036854775808 ≤ x) (x2 : x < 9223372036854775808) (y1 : -9223372036854775808 ≤ y) (y2 : y < 9223372036854775808) (h1 : x = y → xx_go P d k t ls r hp Q) (h2 : ¬ (x = y) → xx_go P d k (pc + 4) ls r hp Q) : xx_go P d k pc ls (.long (Int64.ofInt y) :: .long (Int64.ofInt x) :: r) hp Q := by
  refine go_a (pc' := pc + 1) (ls' := ls) (st' := .int (lg_cmp (Int64.ofInt x) (Int64.ofInt y)) :: r) hc1 rfl ?_
  have e := (lg_cmp_eq _ _).trans (lI_eq x1 x2 y1 y2)
  exact go_if (b := xa_ci .eq (lg_cmp (Int64.ofInt x) (Int64.ofInt y)) 0) hc2 rfl ht (fun hb => h1 (e.mp (of_decide_eq_true hb))) (fun hb => h2 (fun q => of_decide_eq_false hb (e.mpr q)))
theorem mi_lc_ne {off : Int} {t : Nat} (hc1 : xp_code P k pc = some .lcmp) (hc2 : xp_code P k (pc + 1) = some (.ifCond .ne off)) (ht : xa_br (pc + 1) off = some t) (x1 : -9223372036854775808 ≤ x) (x2 : x < 9223372036854775808) (y1 : -9223372036854775808 ≤ y) (y2 : y < 9223372036854775808) (h1 : ¬ x = y → xx_go P d k t ls r hp Q) (h2 : ¬ (¬ x = y) → xx_go P d k (pc + 4) ls r hp Q) : xx_go P d k pc ls (.long (Int64.ofInt y) :: .long (Int64.ofInt x) :: r) hp Q := by
  refine go_a (pc' := pc + 1) (ls' := ls) (st' := .int (lg_cmp (Int64.ofInt x) (Int64.ofInt y)) :: r) hc1 rfl ?_
  have e := not_congr ((lg_cmp_eq _ _).trans (lI_eq x1 x2 y1 y2))
  exact go_if (b := xa_ci .ne (lg_cmp (Int64.ofInt x) (Int64.ofInt y)) 0) hc2 rfl ht (fun hb => h1 (e.mp (of_decide_eq_true hb))) (fun hb => h2 (fun q => of_decide_eq_false hb (e.mpr q)))
end ML
