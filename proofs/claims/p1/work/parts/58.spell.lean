/-! ClauseKernelModel: spell, spelled, isWord, added -/
theorem xr_wLa {h : xx_H} {o s w : Int32} {La Lb Lc Ld Le Lf Lg Lh Li q : List Value} : (h ++ xr_B h.length o s w La Lb Lc Ld Le Lf Lg Lh Li).set (h.length + 1) (.inl (.int, q)) = h ++ xr_B h.length o s w q Lb Lc Ld Le Lf Lg Lh Li := xq_set 1
theorem xr_wLb {h : xx_H} {o s w : Int32} {La Lb Lc Ld Le Lf Lg Lh Li q : List Value} : (h ++ xr_B h.length o s w La Lb Lc Ld Le Lf Lg Lh Li).set (h.length + 2) (.inl (.int, q)) = h ++ xr_B h.length o s w La q Lc Ld Le Lf Lg Lh Li := xq_set 2
theorem xr_wLc {h : xx_H} {o s w : Int32} {La Lb Lc Ld Le Lf Lg Lh Li q : List Value} : (h ++ xr_B h.length o s w La Lb Lc Ld Le Lf Lg Lh Li).set (h.length + 3) (.inl (.int, q)) = h ++ xr_B h.length o s w La Lb q Ld Le Lf Lg Lh Li := xq_set 3
theorem xr_wLd {h : xx_H} {o s w : Int32} {La Lb Lc Ld Le Lf Lg Lh Li q : List Value} : (h ++ xr_B h.length o s w La Lb Lc Ld Le Lf Lg Lh Li).set (h.length + 4) (.inl (.int, q)) = h ++ xr_B h.length o s w La Lb Lc q Le Lf Lg Lh Li := xq_set 4
theorem xr_wLe {h : xx_H} {o s w : Int32} {La Lb Lc Ld Le Lf Lg Lh Li q : List Value} : (h ++ xr_B h.length o s w La Lb Lc Ld Le Lf Lg Lh Li).set (h.length + 5) (.inl (.int, q)) = h ++ xr_B h.length o s w La Lb Lc Ld q Lf Lg Lh Li := xq_set 5
theorem xr_wLf {h : xx_H} {o s w : Int32} {La Lb Lc Ld Le Lf Lg Lh Li q : List Value} : (h ++ xr_B h.length o s w La Lb Lc Ld Le Lf Lg Lh Li).set (h.length + 7) (.inl (.int, q)) = h ++ xr_B h.length o s w La Lb Lc Ld Le q Lg Lh Li := xq_set 7
theorem xr_wLg {h : xx_H} {o s w : Int32} {La Lb Lc Ld Le Lf Lg Lh Li q : List Value} : (h ++ xr_B h.length o s w La Lb Lc Ld Le Lf Lg Lh Li).set (h.length + 8) (.inl (.int, q)) = h ++ xr_B h.length o s w La Lb Lc Ld Le Lf q Lh Li := xq_set 8
theorem xr_wLh {h : xx_H} {o s w : Int32} {La Lb Lc Ld Le Lf Lg Lh Li q : List Value} : (h ++ xr_B h.length o s w La Lb Lc Ld Le Lf Lg Lh Li).set (h.length + 9) (.inl (.int, q)) = h ++ xr_B h.length o s w La Lb Lc Ld Le Lf Lg q Li := xq_set 9
theorem xr_wLi {h : xx_H} {o s w : Int32} {La Lb Lc Ld Le Lf Lg Lh Li q : List Value} : (h ++ xr_B h.length o s w La Lb Lc Ld Le Lf Lg Lh Li).set (h.length + 13) (.inl (.int, q)) = h ++ xr_B h.length o s w La Lb Lc Ld Le Lf Lg Lh q := xq_set 13
theorem xr_po {h : xx_H} {o s w x : Int32} {La Lb Lc Ld Le Lf Lg Lh Li : List Value} : (h ++ xr_B h.length o s w La Lb Lc Ld Le Lf Lg Lh Li).set h.length (.inr (13, (xr_fs h.length o s w).set 7 (.int x))) = h ++ xr_B h.length x s w La Lb Lc Ld Le Lf Lg Lh Li := xq_set0
theorem xr_ps {h : xx_H} {o s w x : Int32} {La Lb Lc Ld Le Lf Lg Lh Li : List Value} : (h ++ xr_B h.length o s w La Lb Lc Ld Le Lf Lg Lh Li).set h.length (.inr (13, (xr_fs h.length o s w).set 10 (.int x))) = h ++ xr_B h.length o x w La Lb Lc Ld Le Lf Lg Lh Li := xq_set0
theorem xr_pw {h : xx_H} {o s w x : Int32} {La Lb Lc Ld Le Lf Lg Lh Li : List Value} : (h ++ xr_B h.length o s w La Lb Lc Ld Le Lf Lg Lh Li).set h.length (.inr (13, (xr_fs h.length o s w).set 17 (.int x))) = h ++ xr_B h.length o s x La Lb Lc Ld Le Lf Lg Lh Li := xq_set0
theorem xr_and (x : Int32) : ∃ j : Nat, j < 8192 ∧ x &&& 8191 = nI j := by
  refine ⟨(x.toBitVec &&& 8191#32).toNat, ?_, ?_⟩
  · rw [BitVec.toNat_and]
    exact Nat.lt_of_le_of_lt Nat.and_le_right (by decide)
  · apply Int32.toBitVec_inj.mp
    show x.toBitVec &&& 8191#32 = BitVec.ofNat 32 _
    rw [BitVec.ofNat_toNat, BitVec.setWidth_eq]
theorem xr_m1 {j : Nat} (hj : j < 2 ^ 31) : ¬ nI j = -1 := by
  intro h
  have h1 := congrArg Int32.toInt h
  rw [nI_toInt hj, show (-1 : Int32).toInt = -1 from rfl] at h1
  omega
theorem xm_spell (z : Value) (d : Nat) (h : xx_H) (x o s : Int32) (w : Nat) (La Lb Lc Ld Le Lf Lg Lh Li : List Value) (hc : 11 ≤ h.length) (hw : w < 12) (h9 : Li.length = 12) (i9 : xs_i Li) : xx_cl (xt_P z) (d + 1) 61 [.ref h.length, .int x] (h ++ xr_B h.length o s (nI w) La Lb Lc Ld Le Lf Lg Lh Li) (fun v h1 => v = none ∧ ∃ (w1 : Nat) (L1 : List Value), w1 ≤ w + 1 ∧ L1.length = 12 ∧ xs_i L1 ∧ h1 = h ++ xr_B h.length o s (nI w1) La Lb Lc Ld Le Lf Lg Lh L1) := by
  refine cl_go rfl ?_
  show xx_go (xt_P z) d 61 0 [some (.ref h.length), some (.int x)] [] (h ++ xr_B h.length o s (nI w) La Lb Lc Ld Le Lf Lg Lh Li) _
  refine go_a (pc' := 1) (ls' := [some (.ref h.length), some (.int x)]) (st' := [(.int x)]) rfl rfl ?_
  refine go_if (t := 5) (off := 4) (r := []) rfl rfl rfl (fun _ => ?_) (fun _ => ?_)
  rotate_left
  exact go_r rfl rfl rfl rfl rfl rfl ⟨rfl, w, Li, by omega, h9, i9, rfl⟩
  refine go_a (pc' := 6) (ls' := [some (.ref h.length), some (.int x)]) (st' := [(.ref h.length)]) rfl rfl ?_
  refine go_get rfl xq_get0 rfl rfl ?_
  refine go_a (pc' := 10) (ls' := [some (.ref h.length), some (.int x)]) (st' := [(.ref h.length), (.ref (h.length + 13))]) rfl rfl ?_
  refine go_get rfl xq_get0 rfl rfl ?_
  refine go_a (pc' := 14) (ls' := [some (.ref h.length), some (.int x)]) (st' := [(.int x), (.int (nI w)), (.ref (h.length + 13))]) rfl rfl ?_
  refine go_ist (m := w) rfl (xq_get 13) (show 11 ≤ _ by omega) (nI_pos (by omega)) (nI_clamp (by omega)) (by rw [h9]; exact hw) ?_
  rw [xr_wLi]
  refine go_a (pc' := 16) (ls' := [some (.ref h.length), some (.int x)]) (st' := [(.ref h.length)]) rfl rfl ?_
  refine go_a (pc' := 17) (ls' := [some (.ref h.length), some (.int x)]) (st' := [(.ref h.length), (.ref h.length)]) rfl rfl ?_
  refine go_get rfl xq_get0 rfl rfl ?_
  refine go_a (pc' := 21) (ls' := [some (.ref h.length), some (.int x)]) (st' := [(.int 1), (.int (nI w)), (.ref h.length)]) rfl rfl ?_
  refine go_a (pc' := 22) (ls' := [some (.ref h.length), some (.int x)]) (st' := [(.int (nI (w + 1))), (.ref h.length)]) rfl (by rw [← nI_1]; rfl) ?_
  refine go_put (j := 17) rfl xq_get0 rfl rfl hc (show 17 < 86 by decide) rfl rfl ?_
  rw [xr_pw]
  exact go_r rfl rfl rfl rfl rfl rfl ⟨rfl, w + 1, Li.set w (.int x), Nat.le_refl _, by rw [List.length_set]; exact h9, xs_i_set i9 w x, rfl⟩
theorem xm_spelled_loop (z : Value) (d : Nat) (h : xx_H) (o s : Int32) (w : Nat) (La Lb Lc Ld Le Lf Lg Lh Li : List Value) (hw : w ≤ 12) (h9 : Li.length = 12) (i9 : xs_i Li) : ∀ (n j : Nat) (acc : Int32), j + n = w → xx_go (xt_P z) d 63 6 [some (.ref h.length), some (.int 0), some (.int (nI w)), some (.int 1), some (.int acc), some (.int (nI j))] [] (h ++ xr_B h.length o s (nI w) La Lb Lc Ld Le Lf Lg Lh Li) (fun v h1 => (∃ j : Nat, j < 8192 ∧ v = some (.int (nI j))) ∧ h1 = h ++ xr_B h.length o s (nI w) La Lb Lc Ld Le Lf Lg Lh Li) := by
  intro n
  induction n with
  | zero =>
    intro j acc hj
    have hj : j = w := by omega
    subst hj
    refine go_a (pc' := 8) (ls' := [some (.ref h.length), some (.int 0), some (.int (nI j)), some (.int 1), some (.int acc), some (.int (nI j))]) (st' := [(.int (nI j))]) rfl rfl ?_
    refine go_a (pc' := 9) (ls' := [some (.ref h.length), some (.int 0), some (.int (nI j)), some (.int 1), some (.int acc), some (.int (nI j))]) (st' := [(.int (nI j)), (.int (nI j))]) rfl rfl ?_
    refine go_if (t := 50) (off := 41) (r := []) rfl rfl rfl (fun _ => ?_) (fun hf => absurd (nI_le (Nat.le_refl _) (by omega)) (of_decide_eq_false hf))
    refine go_a (pc' := 52) (ls' := [some (.ref h.length), some (.int 0), some (.int (nI j)), some (.int 1), some (.int acc), some (.int (nI j))]) (st' := [(.int acc)]) rfl rfl ?_
    refine go_a (pc' := 55) (ls' := [some (.ref h.length), some (.int 0), some (.int (nI j)), some (.int 1), some (.int acc), some (.int (nI j))]) (st' := [(.int 8191), (.int acc)]) rfl rfl ?_
    obtain ⟨q, hq, e⟩ := xr_and acc
    refine go_a (pc' := 56) (ls' := [some (.ref h.length), some (.int 0), some (.int (nI j)), some (.int 1), some (.int acc), some (.int (nI j))]) (st' := [(.int (nI q))]) rfl (by rw [← e]; rfl) ?_
    exact go_r rfl rfl rfl rfl rfl rfl ⟨⟨q, hq, rfl⟩, rfl⟩
  | succ n ih =>
    intro j acc hj
    obtain ⟨y, hy⟩ := i9 j (by omega)
    refine go_a (pc' := 8) (ls' := [some (.ref h.length), some (.int 0), some (.int (nI w)), some (.int 1), some (.int acc), some (.int (nI j))]) (st' := [(.int (nI j))]) rfl rfl ?_
    refine go_a (pc' := 9) (ls' := [some (.ref h.length), some (.int 0), some (.int (nI w)), some (.int 1), some (.int acc), some (.int (nI j))]) (st' := [(.int (nI w)), (.int (nI j))]) rfl rfl ?_
    refine go_if (t := 50) (off := 41) (r := []) rfl rfl rfl (fun hf => absurd (of_decide_eq_true hf) (nI_ge (by omega) (by omega))) (fun _ => ?_)
    refine go_a (pc' := 15) (ls' := [some (.ref h.length), some (.int 0), some (.int (nI w)), some (.int 1), some (.int acc), some (.int (nI j))]) (st' := [(.int 131)]) rfl rfl ?_
    refine go_a (pc' := 17) (ls' := [some (.ref h.length), some (.int 0), some (.int (nI w)), some (.int 1), some (.int acc), some (.int (nI j))]) (st' := [(.int acc), (.int 131)]) rfl rfl ?_
    refine go_a (pc' := 18) (ls' := [some (.ref h.length), some (.int 0), some (.int (nI w)), some (.int 1), some (.int acc), some (.int (nI j))]) (st' := [(.int (131 * acc))]) rfl rfl ?_
    refine go_a (pc' := 19) (ls' := [some (.ref h.length), some (.int 0), some (.int (nI w)), some (.int 1), some (.int acc), some (.int (nI j))]) (st' := [(.int 1), (.int (131 * acc))]) rfl rfl ?_
    refine go_a (pc' := 22) (ls' := [some (.ref h.length), some (.int 0), some (.int (nI w)), some (.int 1), some (.int acc), some (.int (nI j))]) (st' := [(.int (131 * acc))]) rfl rfl ?_
    refine go_a (pc' := 23) (ls' := [some (.ref h.length), some (.int 0), some (.int (nI w)), some (.int 1), some (.int acc), some (.int (nI j))]) (st' := [(.ref h.length), (.int (131 * acc))]) rfl rfl ?_
    refine go_get rfl xq_get0 rfl rfl ?_
    refine go_a (pc' := 28) (ls' := [some (.ref h.length), some (.int 0), some (.int (nI w)), some (.int 1), some (.int acc), some (.int (nI j))]) (st' := [(.int (nI j)), (.ref (h.length + 13)), (.int (131 * acc))]) rfl rfl ?_
    refine go_ild (m := j) rfl (xq_get 13) (nI_pos (by omega)) (nI_clamp (by omega)) hy ?_
    refine go_a (pc' := 41) (ls' := [some (.ref h.length), some (.int 0), some (.int (nI w)), some (.int 1), some (.int acc), some (.int (nI j))]) (st' := [(.int y), (.int (131 * acc))]) rfl rfl ?_
    refine go_a (pc' := 42) (ls' := [some (.ref h.length), some (.int 0), some (.int (nI w)), some (.int 1), some (.int acc), some (.int (nI j))]) (st' := [(.int (131 * acc + y))]) rfl rfl ?_
    refine go_a (pc' := 44) (ls' := [some (.ref h.length), some (.int 0), some (.int (nI w)), some (.int 1), some (.int (131 * acc + y)), some (.int (nI j))]) (st' := []) rfl rfl ?_
    refine go_a (pc' := 47) (ls' := [some (.ref h.length), some (.int 0), some (.int (nI w)), some (.int 1), some (.int (131 * acc + y)), some (.int (nI (j + 1)))]) (st' := []) rfl (by rw [← nI_1]; rfl) ?_
    exact go_a (pc' := 6) rfl rfl (ih (j + 1) _ (by omega))
theorem xm_spelled (z : Value) (d : Nat) (h : xx_H) (o s : Int32) (w : Nat) (La Lb Lc Ld Le Lf Lg Lh Li : List Value) (hw : w ≤ 12) (h9 : Li.length = 12) (i9 : xs_i Li) : xx_cl (xt_P z) (d + 1) 63 [.ref h.length, .int 0, .int (nI w), .int 1] (h ++ xr_B h.length o s (nI w) La Lb Lc Ld Le Lf Lg Lh Li) (fun v h1 => (∃ j : Nat, j < 8192 ∧ v = some (.int (nI j))) ∧ h1 = h ++ xr_B h.length o s (nI w) La Lb Lc Ld Le Lf Lg Lh Li) := by
  refine cl_go rfl ?_
  show xx_go (xt_P z) d 63 0 [some (.ref h.length), some (.int 0), some (.int (nI w)), some (.int 1), none, none] [] (h ++ xr_B h.length o s (nI w) La Lb Lc Ld Le Lf Lg Lh Li) _
  refine go_a (pc' := 1) (ls' := [some (.ref h.length), some (.int 0), some (.int (nI w)), some (.int 1), none, none]) (st' := [(.int 5)]) rfl rfl ?_
  refine go_a (pc' := 3) (ls' := [some (.ref h.length), some (.int 0), some (.int (nI w)), some (.int 1), some (.int 5), none]) (st' := []) rfl rfl ?_
  refine go_a (pc' := 4) (ls' := [some (.ref h.length), some (.int 0), some (.int (nI w)), some (.int 1), some (.int 5), none]) (st' := [(.int 0)]) rfl rfl ?_
  refine go_a (pc' := 6) (ls' := [some (.ref h.length), some (.int 0), some (.int (nI w)), some (.int 1), some (.int 5), some (.int 0)]) (st' := []) rfl rfl ?_
  exact xm_spelled_loop z d h o s w La Lb Lc Ld Le Lf Lg Lh Li hw h9 i9 w 0 _ (by omega)
theorem xm_isWord_loop (z : Value) (d : Nat) (h : xx_H) (o s : Int32) (w q : Nat) (La Lb Lc Ld Le Lf Lg Lh Li : List Value) (hw : w ≤ 12) (hq : q < 4000) (h7 : Lg.length = 60000) (i7 : xs_i Lg) (h9 : Li.length = 12) (i9 : xs_i Li) : ∀ (n j : Nat) (b : Int32), (b = 0 ∨ b = 1) → j + n = w → xx_go (xt_P z) d 64 21 [some (.ref h.length), some (.int (nI q)), some (.int b), some (.int (nI j))] [] (h ++ xr_B h.length o s (nI w) La Lb Lc Ld Le Lf Lg Lh Li) (fun v h1 => (∃ b : Int32, (b = 0 ∨ b = 1) ∧ v = some (.int b)) ∧ h1 = h ++ xr_B h.length o s (nI w) La Lb Lc Ld Le Lf Lg Lh Li) := by
  have last : ∀ (b : Int32) (y : Value), (b = 0 ∨ b = 1) → xx_go (xt_P z) d 64 65 [some (.ref h.length), some (.int (nI q)), some (.int b), some y] [] (h ++ xr_B h.length o s (nI w) La Lb Lc Ld Le Lf Lg Lh Li) (fun v h1 => (∃ b : Int32, (b = 0 ∨ b = 1) ∧ v = some (.int b)) ∧ h1 = h ++ xr_B h.length o s (nI w) La Lb Lc Ld Le Lf Lg Lh Li) := by
    intro b y hb
    refine go_a (pc' := 66) (ls' := [some (.ref h.length), some (.int (nI q)), some (.int b), some (y)]) (st' := [(.int b)]) rfl rfl ?_
    rcases hb with rfl | rfl
    · exact go_r rfl rfl rfl rfl rfl rfl ⟨⟨0, Or.inl rfl, rfl⟩, rfl⟩
    · exact go_r rfl rfl rfl rfl rfl rfl ⟨⟨1, Or.inr rfl, rfl⟩, rfl⟩
  intro n
  induction n with
  | zero =>
    intro j b hb hj
    have hj : j = w := by omega
    subst hj
    refine go_a (pc' := 22) (ls' := [some (.ref h.length), some (.int (nI q)), some (.int b), some (.int (nI j))]) (st' := [(.int (nI j))]) rfl rfl ?_
    refine go_a (pc' := 23) (ls' := [some (.ref h.length), some (.int (nI q)), some (.int b), some (.int (nI j))]) (st' := [(.ref h.length), (.int (nI j))]) rfl rfl ?_
    refine go_get rfl xq_get0 rfl rfl ?_
    exact go_if (t := 65) (off := 39) (r := []) rfl rfl rfl (fun _ => last b _ hb) (fun hf => absurd (nI_le (Nat.le_refl _) (by omega)) (of_decide_eq_false hf))
  | succ n ih =>
    intro j b hb hj
    obtain ⟨y, hy⟩ := i9 j (by omega)
    obtain ⟨x, hx⟩ := i7 (12 * q + j) (by omega)
    refine go_a (pc' := 22) (ls' := [some (.ref h.length), some (.int (nI q)), some (.int b), some (.int (nI j))]) (st' := [(.int (nI j))]) rfl rfl ?_
    refine go_a (pc' := 23) (ls' := [some (.ref h.length), some (.int (nI q)), some (.int b), some (.int (nI j))]) (st' := [(.ref h.length), (.int (nI j))]) rfl rfl ?_
    refine go_get rfl xq_get0 rfl rfl ?_
    refine go_if (t := 65) (off := 39) (r := []) rfl rfl rfl (fun hf => absurd (of_decide_eq_true hf) (nI_ge (by omega) (by omega))) (fun _ => ?_)
    refine go_a (pc' := 30) (ls' := [some (.ref h.length), some (.int (nI q)), some (.int b), some (.int (nI j))]) (st' := [(.int b)]) rfl rfl ?_
    refine go_if (t := 65) (off := 35) (r := []) rfl rfl rfl (fun _ => last b _ hb) (fun _ => ?_)
    refine go_a (pc' := 34) (ls' := [some (.ref h.length), some (.int (nI q)), some (.int b), some (.int (nI j))]) (st' := [(.ref h.length)]) rfl rfl ?_
    refine go_get rfl xq_get0 rfl rfl ?_
    refine go_a (pc' := 39) (ls' := [some (.ref h.length), some (.int (nI q)), some (.int b), some (.int (nI j))]) (st' := [(.int 12), (.ref (h.length + 8))]) rfl rfl ?_
    refine go_a (pc' := 40) (ls' := [some (.ref h.length), some (.int (nI q)), some (.int b), some (.int (nI j))]) (st' := [(.int (nI q)), (.int 12), (.ref (h.length + 8))]) rfl rfl ?_
    refine go_a (pc' := 41) (ls' := [some (.ref h.length), some (.int (nI q)), some (.int b), some (.int (nI j))]) (st' := [(.int (nI (12 * q))), (.ref (h.length + 8))]) rfl (by rw [← pk_mul]; rfl) ?_
    refine go_a (pc' := 42) (ls' := [some (.ref h.length), some (.int (nI q)), some (.int b), some (.int (nI j))]) (st' := [(.int (nI j)), (.int (nI (12 * q))), (.ref (h.length + 8))]) rfl rfl ?_
    refine go_a (pc' := 43) (ls' := [some (.ref h.length), some (.int (nI q)), some (.int b), some (.int (nI j))]) (st' := [(.int (nI (12 * q + j))), (.ref (h.length + 8))]) rfl (by rw [← nI_add]; rfl) ?_
    refine go_ild (m := (12 * q + j)) rfl (xq_get 8) (nI_pos (by omega)) (nI_clamp (by omega)) hx ?_
    refine go_a (pc' := 45) (ls' := [some (.ref h.length), some (.int (nI q)), some (.int b), some (.int (nI j))]) (st' := [(.ref h.length), (.int x)]) rfl rfl ?_
    refine go_get rfl xq_get0 rfl rfl ?_
    refine go_a (pc' := 49) (ls' := [some (.ref h.length), some (.int (nI q)), some (.int b), some (.int (nI j))]) (st' := [(.int (nI j)), (.ref (h.length + 13)), (.int x)]) rfl rfl ?_
    refine go_ild (m := j) rfl (xq_get 13) (nI_pos (by omega)) (nI_clamp (by omega)) hy ?_
    refine go_if (t := 57) (off := 7) (r := []) rfl rfl rfl (fun _ => ?_) (fun _ => ?_)
    · refine go_a (pc' := 58) (ls' := [some (.ref h.length), some (.int (nI q)), some (.int b), some (.int (nI j))]) (st' := [(.int 0)]) rfl rfl ?_
      refine go_a (pc' := 59) (ls' := [some (.ref h.length), some (.int (nI q)), some (.int 0), some (.int (nI j))]) (st' := []) rfl rfl ?_
      refine go_a (pc' := 62) (ls' := [some (.ref h.length), some (.int (nI q)), some (.int 0), some (.int (nI (j + 1)))]) (st' := []) rfl (by rw [← nI_1]; rfl) ?_
      exact go_a (pc' := 21) rfl rfl (ih (j + 1) _ (by first | exact Or.inl rfl | exact Or.inr rfl) (by omega))
    · refine go_a (pc' := 54) (ls' := [some (.ref h.length), some (.int (nI q)), some (.int b), some (.int (nI j))]) (st' := [(.int 1)]) rfl rfl ?_
      refine go_a (pc' := 58) (ls' := [some (.ref h.length), some (.int (nI q)), some (.int b), some (.int (nI j))]) (st' := [(.int 1)]) rfl rfl ?_
      refine go_a (pc' := 59) (ls' := [some (.ref h.length), some (.int (nI q)), some (.int 1), some (.int (nI j))]) (st' := []) rfl rfl ?_
      refine go_a (pc' := 62) (ls' := [some (.ref h.length), some (.int (nI q)), some (.int 1), some (.int (nI (j + 1)))]) (st' := []) rfl (by rw [← nI_1]; rfl) ?_
      exact go_a (pc' := 21) rfl rfl (ih (j + 1) _ (by first | exact Or.inl rfl | exact Or.inr rfl) (by omega))
theorem xm_isWord (z : Value) (d : Nat) (h : xx_H) (o s : Int32) (w q : Nat) (La Lb Lc Ld Le Lf Lg Lh Li : List Value) (hw : w ≤ 12) (hq : q < 4000) (h7 : Lg.length = 60000) (i7 : xs_i Lg) (h8 : Lh.length = 5000) (i8 : xs_i Lh) (h9 : Li.length = 12) (i9 : xs_i Li) : xx_cl (xt_P z) (d + 1) 64 [.ref h.length, .int (nI q)] (h ++ xr_B h.length o s (nI w) La Lb Lc Ld Le Lf Lg Lh Li) (fun v h1 => (∃ b : Int32, (b = 0 ∨ b = 1) ∧ v = some (.int b)) ∧ h1 = h ++ xr_B h.length o s (nI w) La Lb Lc Ld Le Lf Lg Lh Li) := by
  obtain ⟨y, hy⟩ := i8 q (by omega)
  refine cl_go rfl ?_
  show xx_go (xt_P z) d 64 0 [some (.ref h.length), some (.int (nI q)), none, none] [] (h ++ xr_B h.length o s (nI w) La Lb Lc Ld Le Lf Lg Lh Li) _
  refine go_a (pc' := 1) (ls' := [some (.ref h.length), some (.int (nI q)), none, none]) (st' := [(.ref h.length)]) rfl rfl ?_
  refine go_get rfl xq_get0 rfl rfl ?_
  refine go_a (pc' := 5) (ls' := [some (.ref h.length), some (.int (nI q)), none, none]) (st' := [(.int (nI q)), (.ref (h.length + 9))]) rfl rfl ?_
  refine go_ild (m := q) rfl (xq_get 9) (nI_pos (by omega)) (nI_clamp (by omega)) hy ?_
  refine go_a (pc' := 7) (ls' := [some (.ref h.length), some (.int (nI q)), none, none]) (st' := [(.ref h.length), (.int y)]) rfl rfl ?_
  refine go_get rfl xq_get0 rfl rfl ?_
  refine go_if (t := 17) (off := 7) (r := []) rfl rfl rfl (fun _ => ?_) (fun _ => ?_)
  · refine go_a (pc' := 18) (ls' := [some (.ref h.length), some (.int (nI q)), none, none]) (st' := [(.int 0)]) rfl rfl ?_
    refine go_a (pc' := 19) (ls' := [some (.ref h.length), some (.int (nI q)), some (.int 0), none]) (st' := []) rfl rfl ?_
    refine go_a (pc' := 20) (ls' := [some (.ref h.length), some (.int (nI q)), some (.int 0), none]) (st' := [(.int 0)]) rfl rfl ?_
    refine go_a (pc' := 21) (ls' := [some (.ref h.length), some (.int (nI q)), some (.int 0), some (.int 0)]) (st' := []) rfl rfl ?_
    exact xm_isWord_loop z d h o s w q La Lb Lc Ld Le Lf Lg Lh Li hw hq h7 i7 h9 i9 w 0 _ (by first | exact Or.inl rfl | exact Or.inr rfl) (by omega)
  · refine go_a (pc' := 14) (ls' := [some (.ref h.length), some (.int (nI q)), none, none]) (st' := [(.int 1)]) rfl rfl ?_
    refine go_a (pc' := 18) (ls' := [some (.ref h.length), some (.int (nI q)), none, none]) (st' := [(.int 1)]) rfl rfl ?_
    refine go_a (pc' := 19) (ls' := [some (.ref h.length), some (.int (nI q)), some (.int 1), none]) (st' := []) rfl rfl ?_
    refine go_a (pc' := 20) (ls' := [some (.ref h.length), some (.int (nI q)), some (.int 1), none]) (st' := [(.int 0)]) rfl rfl ?_
    refine go_a (pc' := 21) (ls' := [some (.ref h.length), some (.int (nI q)), some (.int 1), some (.int 0)]) (st' := []) rfl rfl ?_
    exact xm_isWord_loop z d h o s w q La Lb Lc Ld Le Lf Lg Lh Li hw hq h7 i7 h9 i9 w 0 _ (by first | exact Or.inl rfl | exact Or.inr rfl) (by omega)
theorem xm_added (z : Value) (d : Nat) (h : xx_H) (r y s w : Int32) (o q : Nat) (La Lb Lc Ld Le Lf Lg Lh Li : List Value) (hc : 11 ≤ h.length) (ho : o < 140000) (h1 : La.length = 140000) (h2 : Lb.length = 140000) (h3 : Lc.length = 140000) (h4 : Ld.length = 140000) (h5 : Le.length = 140000) (h6 : Lf.length = 8192) (hq : q < 8192) (hy : Lf[q]? = some (.int y)) : xx_cl (xt_P z) (d + 1) 65 [.ref h.length, .int (-2), .int r, .int (nI q)] (h ++ xr_B h.length (nI o) s w La Lb Lc Ld Le Lf Lg Lh Li) (fun v h1 => v = some (.int (nI o)) ∧ h1 = h ++ xr_B h.length (nI (o + 1)) s w (La.set o (.int (-2))) (Lb.set o (.int r)) (Lc.set o (.int y)) (Ld.set o (.int 0)) (Le.set o (.int 0)) (Lf.set q (.int (nI o))) Lg Lh Li) := by
  refine cl_go rfl ?_
  show xx_go (xt_P z) d 65 0 [some (.ref h.length), some (.int (-2)), some (.int r), some (.int (nI q))] [] (h ++ xr_B h.length (nI o) s w La Lb Lc Ld Le Lf Lg Lh Li) _
  refine go_a (pc' := 1) (ls' := [some (.ref h.length), some (.int (-2)), some (.int r), some (.int (nI q))]) (st' := [(.ref h.length)]) rfl rfl ?_
  refine go_get rfl xq_get0 rfl rfl ?_
  refine go_a (pc' := 5) (ls' := [some (.ref h.length), some (.int (-2)), some (.int r), some (.int (nI q))]) (st' := [(.ref h.length), (.ref (h.length + 1))]) rfl rfl ?_
  refine go_get rfl xq_get0 rfl rfl ?_
  refine go_a (pc' := 9) (ls' := [some (.ref h.length), some (.int (-2)), some (.int r), some (.int (nI q))]) (st' := [(.int (-2)), (.int (nI o)), (.ref (h.length + 1))]) rfl rfl ?_
  refine go_ist (m := o) rfl (xq_get 1) (show 11 ≤ _ by omega) (nI_pos (by omega)) (nI_clamp (by omega)) (by omega) ?_
  rw [xr_wLa]
  refine go_a (pc' := 11) (ls' := [some (.ref h.length), some (.int (-2)), some (.int r), some (.int (nI q))]) (st' := [(.ref h.length)]) rfl rfl ?_
  refine go_get rfl xq_get0 rfl rfl ?_
  refine go_a (pc' := 15) (ls' := [some (.ref h.length), some (.int (-2)), some (.int r), some (.int (nI q))]) (st' := [(.ref h.length), (.ref (h.length + 2))]) rfl rfl ?_
  refine go_get rfl xq_get0 rfl rfl ?_
  refine go_a (pc' := 19) (ls' := [some (.ref h.length), some (.int (-2)), some (.int r), some (.int (nI q))]) (st' := [(.int r), (.int (nI o)), (.ref (h.length + 2))]) rfl rfl ?_
  refine go_ist (m := o) rfl (xq_get 2) (show 11 ≤ _ by omega) (nI_pos (by omega)) (nI_clamp (by omega)) (by omega) ?_
  rw [xr_wLb]
  refine go_a (pc' := 21) (ls' := [some (.ref h.length), some (.int (-2)), some (.int r), some (.int (nI q))]) (st' := [(.ref h.length)]) rfl rfl ?_
  refine go_get rfl xq_get0 rfl rfl ?_
  refine go_a (pc' := 25) (ls' := [some (.ref h.length), some (.int (-2)), some (.int r), some (.int (nI q))]) (st' := [(.ref h.length), (.ref (h.length + 3))]) rfl rfl ?_
  refine go_get rfl xq_get0 rfl rfl ?_
  refine go_a (pc' := 29) (ls' := [some (.ref h.length), some (.int (-2)), some (.int r), some (.int (nI q))]) (st' := [(.ref h.length), (.int (nI o)), (.ref (h.length + 3))]) rfl rfl ?_
  refine go_get rfl xq_get0 rfl rfl ?_
  refine go_a (pc' := 33) (ls' := [some (.ref h.length), some (.int (-2)), some (.int r), some (.int (nI q))]) (st' := [(.int (nI q)), (.ref (h.length + 7)), (.int (nI o)), (.ref (h.length + 3))]) rfl rfl ?_
  refine go_ild (m := q) rfl (xq_get 7) (nI_pos (by omega)) (nI_clamp (by omega)) hy ?_
  refine go_ist (m := o) rfl (xq_get 3) (show 11 ≤ _ by omega) (nI_pos (by omega)) (nI_clamp (by omega)) (by omega) ?_
  rw [xr_wLc]
  refine go_a (pc' := 36) (ls' := [some (.ref h.length), some (.int (-2)), some (.int r), some (.int (nI q))]) (st' := [(.ref h.length)]) rfl rfl ?_
  refine go_get rfl xq_get0 rfl rfl ?_
  refine go_a (pc' := 40) (ls' := [some (.ref h.length), some (.int (-2)), some (.int r), some (.int (nI q))]) (st' := [(.ref h.length), (.ref (h.length + 4))]) rfl rfl ?_
  refine go_get rfl xq_get0 rfl rfl ?_
  refine go_a (pc' := 44) (ls' := [some (.ref h.length), some (.int (-2)), some (.int r), some (.int (nI q))]) (st' := [(.int 0), (.int (nI o)), (.ref (h.length + 4))]) rfl rfl ?_
  refine go_ist (m := o) rfl (xq_get 4) (show 11 ≤ _ by omega) (nI_pos (by omega)) (nI_clamp (by omega)) (by omega) ?_
  rw [xr_wLd]
  refine go_a (pc' := 46) (ls' := [some (.ref h.length), some (.int (-2)), some (.int r), some (.int (nI q))]) (st' := [(.ref h.length)]) rfl rfl ?_
  refine go_get rfl xq_get0 rfl rfl ?_
  refine go_a (pc' := 50) (ls' := [some (.ref h.length), some (.int (-2)), some (.int r), some (.int (nI q))]) (st' := [(.ref h.length), (.ref (h.length + 5))]) rfl rfl ?_
  refine go_get rfl xq_get0 rfl rfl ?_
  refine go_a (pc' := 54) (ls' := [some (.ref h.length), some (.int (-2)), some (.int r), some (.int (nI q))]) (st' := [(.int (-2)), (.int (nI o)), (.ref (h.length + 5))]) rfl rfl ?_
  refine go_a (pc' := 57) (ls' := [some (.ref h.length), some (.int (-2)), some (.int r), some (.int (nI q))]) (st' := [(.int (nI o)), (.ref (h.length + 5))]) rfl rfl ?_
  refine go_a (pc' := 58) (ls' := [some (.ref h.length), some (.int (-2)), some (.int r), some (.int (nI q))]) (st' := [(.int 0), (.int (nI o)), (.ref (h.length + 5))]) rfl rfl ?_
  refine go_a (pc' := 93) (ls' := [some (.ref h.length), some (.int (-2)), some (.int r), some (.int (nI q))]) (st' := [(.int 0), (.int (nI o)), (.ref (h.length + 5))]) rfl rfl ?_
  refine go_ist (m := o) rfl (xq_get 5) (show 11 ≤ _ by omega) (nI_pos (by omega)) (nI_clamp (by omega)) (by omega) ?_
  rw [xr_wLe]
  refine go_a (pc' := 95) (ls' := [some (.ref h.length), some (.int (-2)), some (.int r), some (.int (nI q))]) (st' := [(.ref h.length)]) rfl rfl ?_
  refine go_get rfl xq_get0 rfl rfl ?_
  refine go_a (pc' := 99) (ls' := [some (.ref h.length), some (.int (-2)), some (.int r), some (.int (nI q))]) (st' := [(.int (nI q)), (.ref (h.length + 7))]) rfl rfl ?_
  refine go_a (pc' := 100) (ls' := [some (.ref h.length), some (.int (-2)), some (.int r), some (.int (nI q))]) (st' := [(.ref h.length), (.int (nI q)), (.ref (h.length + 7))]) rfl rfl ?_
  refine go_get rfl xq_get0 rfl rfl ?_
  refine go_ist (m := q) rfl (xq_get 7) (show 11 ≤ _ by omega) (nI_pos (by omega)) (nI_clamp (by omega)) (by omega) ?_
  rw [xr_wLf]
  refine go_a (pc' := 105) (ls' := [some (.ref h.length), some (.int (-2)), some (.int r), some (.int (nI q))]) (st' := [(.ref h.length)]) rfl rfl ?_
  refine go_a (pc' := 106) (ls' := [some (.ref h.length), some (.int (-2)), some (.int r), some (.int (nI q))]) (st' := [(.ref h.length), (.ref h.length)]) rfl rfl ?_
  refine go_get rfl xq_get0 rfl rfl ?_
  refine go_a (pc' := 110) (ls' := [some (.ref h.length), some (.int (-2)), some (.int r), some (.int (nI q))]) (st' := [(.int 1), (.int (nI o)), (.ref h.length)]) rfl rfl ?_
  refine go_a (pc' := 111) (ls' := [some (.ref h.length), some (.int (-2)), some (.int r), some (.int (nI q))]) (st' := [(.int (nI (o + 1))), (.ref h.length)]) rfl (by rw [← nI_1]; rfl) ?_
  refine go_put (j := 7) rfl xq_get0 rfl rfl hc (show 7 < 86 by decide) rfl rfl ?_
  rw [xr_po]
  refine go_a (pc' := 115) (ls' := [some (.ref h.length), some (.int (-2)), some (.int r), some (.int (nI q))]) (st' := [(.ref h.length)]) rfl rfl ?_
  refine go_get rfl xq_get0 rfl rfl ?_
  refine go_a (pc' := 119) (ls' := [some (.ref h.length), some (.int (-2)), some (.int r), some (.int (nI q))]) (st' := [(.int 1), (.int (nI (o + 1)))]) rfl rfl ?_
  refine go_a (pc' := 120) (ls' := [some (.ref h.length), some (.int (-2)), some (.int r), some (.int (nI q))]) (st' := [(.int (nI o))]) rfl (by rw [← nI_pred o]; rfl) ?_
  exact go_r rfl rfl rfl rfl rfl rfl ⟨rfl, rfl⟩
