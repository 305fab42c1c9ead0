def xs_i (l : List Value) : Prop := ∀ j, j < l.length → ∃ x : Int32, l[j]? = some (.int x)
theorem xq_get0 {h l : xx_H} {e : xx_E} : (h ++ e :: l)[h.length]? = some e := by simp
theorem xq_set0 {h l : xx_H} {e e1 : xx_E} : (h ++ e :: l).set h.length e1 = h ++ e1 :: l := by simp
theorem xq_get {h l : xx_H} (i : Nat) : (h ++ l)[h.length + i]? = l[i]? := by
  rw [List.getElem?_append_right (by omega)]
  congr 1
  omega
theorem xq_set {h l : xx_H} {e : xx_E} (i : Nat) : (h ++ l).set (h.length + i) e = h ++ l.set i e := by
  rw [List.set_append_right _ _ (by omega)]
  congr 2
  omega
theorem xq_set00 {h L : xx_H} {e : xx_E} : (h ++ L).set h.length e = h ++ L.set 0 e := xq_set 0
theorem xq_get00 {h L : xx_H} : (h ++ L)[h.length]? = L[0]? := xq_get 0

