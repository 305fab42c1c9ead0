/-! indexOf on our constants: it answers an int (which one: not said here) -/
theorem xm_ixloop (z : Value) (d v N : Nat) (c f b : Int32) (h : xx_H) (bs : List Value) (hv : h[v]? = some (.inl (.byte, bs))) (hN : N ≤ bs.length) (hb : bs.length < 2 ^ 31) (hbs : ∀ j, j < bs.length → ∃ x : Int32, bs[j]? = some (.int x)) (Q : Option Value → xx_H → Prop) (hQ : ∀ x : Int32, Q (some (.int x)) h) : ∀ (n i : Nat), i + n = N → xx_go (xt_P z) d 21 7 [some (.ref v), some (.int c), some (.int f), some (.int (nI N)), some (.int b), some (.int (nI i))] [] h Q := by
  intro n
  induction n with
  | zero =>
    intro i hi
    have hi : i = N := by omega
    subst hi
    refine go_a (pc' := 9) (ls' := [some (.ref v), some (.int c), some (.int f), some (.int (nI i)), some (.int b), some (.int (nI i))]) (st' := [(.int (nI i))]) rfl rfl ?_
    refine go_a (pc' := 10) (ls' := [some (.ref v), some (.int c), some (.int f), some (.int (nI i)), some (.int b), some (.int (nI i))]) (st' := [(.int (nI i)), (.int (nI i))]) rfl rfl ?_
    refine go_if (t := 31) (off := 21) (b := decide (nI i ≤ nI i)) (r := []) rfl rfl rfl (fun _ => ?_) (fun hf => absurd (nI_le (Nat.le_refl _) (by omega)) (of_decide_eq_false hf))
    refine go_a (pc' := 32) (ls' := [some (.ref v), some (.int c), some (.int f), some (.int (nI i)), some (.int b), some (.int (nI i))]) (st' := [(.int (-1))]) rfl rfl ?_
    exact go_r rfl rfl rfl rfl rfl rfl (hQ _)
  | succ n ih =>
    intro i hi
    obtain ⟨x, hx⟩ := hbs i (by omega)
    refine go_a (pc' := 9) (ls' := [some (.ref v), some (.int c), some (.int f), some (.int (nI N)), some (.int b), some (.int (nI i))]) (st' := [(.int (nI i))]) rfl rfl ?_
    refine go_a (pc' := 10) (ls' := [some (.ref v), some (.int c), some (.int f), some (.int (nI N)), some (.int b), some (.int (nI i))]) (st' := [(.int (nI N)), (.int (nI i))]) rfl rfl ?_
    refine go_if (t := 31) (off := 21) (b := decide (nI N ≤ nI i)) (r := []) rfl rfl rfl (fun hf => absurd (of_decide_eq_true hf) (nI_ge (by omega) (by omega))) (fun _ => ?_)
    refine go_a (pc' := 14) (ls' := [some (.ref v), some (.int c), some (.int f), some (.int (nI N)), some (.int b), some (.int (nI i))]) (st' := [(.ref v)]) rfl rfl ?_
    refine go_a (pc' := 16) (ls' := [some (.ref v), some (.int c), some (.int f), some (.int (nI N)), some (.int b), some (.int (nI i))]) (st' := [(.int (nI i)), (.ref v)]) rfl rfl ?_
    refine go_bld rfl hv (nI_pos (by omega)) (nI_clamp (by omega)) hx ?_
    refine go_a (pc' := 19) (ls' := [some (.ref v), some (.int c), some (.int f), some (.int (nI N)), some (.int b), some (.int (nI i))]) (st' := [(.int b), (.int x)]) rfl rfl ?_
    refine go_if (t := 25) (off := 6) (b := decide (¬ x = b)) (r := []) rfl rfl rfl (fun _ => ?_) (fun _ => ?_)
    · refine go_a (pc' := 28) (ls' := [some (.ref v), some (.int c), some (.int f), some (.int (nI N)), some (.int b), some (.int (nI (i + 1)))]) (st' := []) rfl (by rw [← nI_1 i]; rfl) ?_
      exact go_a (pc' := 7) rfl rfl (ih (i + 1) (by omega))
    · refine go_a (pc' := 24) (ls' := [some (.ref v), some (.int c), some (.int f), some (.int (nI N)), some (.int b), some (.int (nI i))]) (st' := [(.int (nI i))]) rfl rfl ?_
      exact go_r rfl rfl rfl rfl rfl rfl (hQ _)
theorem xm_ixchar (z : Value) (d v N : Nat) (c : Int32) (h : xx_H) (bs : List Value) (hv : h[v]? = some (.inl (.byte, bs))) (hN : N ≤ bs.length) (hb : bs.length < 2 ^ 31) (hbs : ∀ j, j < bs.length → ∃ x : Int32, bs[j]? = some (.int x)) : xx_cl (xt_P z) (d + 1) 21 [.ref v, .int c, .int 0, .int (nI N)] h (fun w h1 => ∃ x : Int32, w = some (.int x) ∧ h1 = h) := by
  refine cl_go rfl ?_
  show xx_go (xt_P z) d 21 0 [some (.ref v), some (.int c), some (.int 0), some (.int (nI N)), none, none] [] h _
  refine go_a (pc' := 1) (ls' := [some (.ref v), some (.int c), some (.int 0), some (.int (nI N)), none, none]) (st' := [(.int c)]) rfl rfl ?_
  refine go_a (pc' := 2) (ls' := [some (.ref v), some (.int c), some (.int 0), some (.int (nI N)), none, none]) (st' := [.int c.toInt8.toInt32]) rfl rfl ?_
  refine go_a (pc' := 4) (ls' := [some (.ref v), some (.int c), some (.int 0), some (.int (nI N)), some (.int c.toInt8.toInt32), none]) (st' := []) rfl rfl ?_
  refine go_a (pc' := 5) (ls' := [some (.ref v), some (.int c), some (.int 0), some (.int (nI N)), some (.int c.toInt8.toInt32), none]) (st' := [(.int 0)]) rfl rfl ?_
  refine go_a (pc' := 7) (ls' := [some (.ref v), some (.int c), some (.int 0), some (.int (nI N)), some (.int c.toInt8.toInt32), some (.int 0)]) (st' := []) rfl rfl ?_
  exact xm_ixloop z d v N c 0 c.toInt8.toInt32 h bs hv hN hb hbs _ (fun x => ⟨x, rfl, rfl⟩) N 0 (by omega)
theorem xm_canenc (z : Value) (d c : Nat) (h : xx_H) (hc : c < 128) : xx_cl (xt_P z) (d + 1) 20 [.int (nI c)] h (fun w h1 => w = some (.int 1) ∧ h1 = h) := by
  refine cl_go rfl ?_
  show xx_go (xt_P z) d 20 0 [some (.int (nI c))] [] h _
  refine go_a (pc' := 1) (ls' := [some (.int (nI c))]) (st' := [(.int (nI c))]) rfl rfl ?_
  refine go_if (t := 15) (off := 14) (b := decide (nI c < 0)) (r := []) rfl rfl rfl (fun hf => absurd (of_decide_eq_true hf) (nI_pos (by omega))) (fun _ => ?_)
  refine go_a (pc' := 5) (ls' := [some (.int (nI c))]) (st' := [(.int (nI c))]) rfl rfl ?_
  refine go_a (pc' := 8) (ls' := [some (.int (nI c))]) (st' := [(.int 255), (.int (nI c))]) rfl rfl ?_
  refine go_if (t := 15) (off := 7) (b := decide ((255 : Int32) < nI c)) (r := []) rfl rfl rfl (fun hf => absurd (of_decide_eq_true hf) (nI_nlt (a := 255) (by omega) (by decide))) (fun _ => ?_)
  refine go_a (pc' := 12) (ls' := [some (.int (nI c))]) (st' := [(.int 1)]) rfl rfl ?_
  refine go_a (pc' := 16) (ls' := [some (.int (nI c))]) (st' := [(.int 1)]) rfl rfl ?_
  exact go_r rfl rfl rfl rfl rfl rfl ⟨rfl, rfl⟩
