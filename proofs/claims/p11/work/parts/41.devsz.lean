def xx_sz1 (e : xx_E) : Nat := match e with
  | .inl q => q.2.length
  | .inr o => o.2.length
def xx_sz (h : xx_H) : Nat := (h.map xx_sz1).sum
theorem xx_sz_app (h : xx_H) (e : xx_E) : xx_sz (h ++ [e]) = xx_sz h + xx_sz1 e := by simp [xx_sz]
theorem xx_sz_set {h : xx_H} {i : Nat} {e e1 : xx_E} (hi : h[i]? = some e1) (hs : xx_sz1 e = xx_sz1 e1) : xx_sz (h.set i e) = xx_sz h := by
  induction h generalizing i with
  | nil => rfl
  | cons x l ih =>
    cases i with
    | zero =>
      simp at hi
      subst hi
      simp [xx_sz, hs]
    | succ i =>
      simp at hi
      have := ih hi
      simp [xx_sz] at this ⊢
      exact this
