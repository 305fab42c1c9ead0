section SW
variable {P : xx_P} {d k pc : Nat} {ls : xx_L} {r : List Value} {hp : xx_H} {Q : Option Value → xx_H → Prop}
theorem mi_ts {df lo hi : Int} {offs : Array Int} {x c : Int} {t : Nat} (hc : xp_code P k pc = some (.tableswitch df lo hi offs)) (hx : x = c) (ht : xa_table df lo hi offs pc ls (.int (iI c) :: r) = some (t, ls, r)) (hg : xx_go P d k t ls r hp Q) : xx_go P d k pc ls (.int (iI x) :: r) hp Q := by
  subst hx
  exact go_a hc ht hg
theorem mi_tsd {df lo hi : Int} {offs : Array Int} {x : Int} {t : Nat} (hc : xp_code P k pc = some (.tableswitch df lo hi offs)) (x1 : -2147483648 ≤ x) (x2 : x < 2147483648) (hx : x < lo ∨ hi < x) (ht : xa_jmp pc df ls r = some (t, ls, r)) (hg : xx_go P d k t ls r hp Q) : xx_go P d k pc ls (.int (iI x) :: r) hp Q := by
  refine go_a hc ?_ hg
  show xa_table df lo hi offs pc ls (.int (iI x) :: r) = _
  unfold xa_table
  dsimp only
  rw [iI_toInt x1 x2, if_pos hx]
  exact ht
end SW
