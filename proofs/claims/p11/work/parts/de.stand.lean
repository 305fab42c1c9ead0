theorem mi_lk {P : xx_P} {d k pc t : Nat} {ls : xx_L} {r : List Value} {hp : xx_H} {Q : Option Value → xx_H → Prop} {df x q : Int} {ps : Array (Int × Int)} (hc : xp_code P k pc = some (.lookupswitch df ps)) (x1 : -2147483648 ≤ x) (x2 : x < 2147483648) (ho : Op.lookupswitch.offset ps.toList df x = q) (ht : xa_g ((ps.toList.zip (ps.toList.drop 1)).all (fun (a, next) => a.1 < next.1)) (xa_jmp pc q ls r) = some (t, ls, r)) (hg : xx_go P d k t ls r hp Q) : xx_go P d k pc ls (.int (iI x) :: r) hp Q := by
  refine go_a hc ?_ hg
  show xa_look df ps pc ls (.int (iI x) :: r) = _
  unfold xa_look
  dsimp only
  rw [iI_toInt x1 x2, ho]
  exact ht
theorem wI_wI {s : KS} {j : Nat} {x y : Int} : (s.wI j x).wI j y = s.wI j y := by
  show ((su (su s.I j x) j y, s.A, s.N, s.C, s.P, s.T) : KS) = (su s.I j y, s.A, s.N, s.C, s.P, s.T)
  rw [su_su]
theorem kd_skip_loop (z : Value) (d c : Nat) (hp0 : xx_H) (s0 s : KS) : ∀ (f : Nat) (p m : Int) (y : Option Value) (hp : xx_H), (s.I 0 - p).toNat ≤ f → 0 ≤ p → p ≤ s.I 0 → s.I 0 ≤ 8192 → (m = 0 ∨ m = 1) → KI c hp (s.wI 9 p) → KB (s.wI 9 p) → kx c hp0 s0 hp (s.wI 9 p) 0 0 → xx_go (xt_P z) (d + 1) 42 2 [some (.ref (c + 9)), some (.ref (c + 1)), some (.int (iI m)), y] [] hp (fun v h1 => v = none ∧ ∃ a : Int, KI c h1 (s.wI 9 a) ∧ KB (s.wI 9 a) ∧ kx c hp0 s0 h1 (s.wI 9 a) 0 0 ∧ p ≤ a ∧ a ≤ s.I 0) := by
  intro f
  induction f with
  | zero =>
    intro p m y hp hf p0 p1 l0 hm hK hB hX
    refine go_a (pc' := 3) (ls' := [some (.ref (c + 9)), some (.ref (c + 1)), some (.int (iI m)), y]) (st' := [.ref (c + 9)]) rfl rfl ?_
    refine go_get (v := .int (iI p)) rfl (hK.1 5 (by decide)) rfl rfl ?_
    refine go_a (pc' := 7) (ls' := [some (.ref (c + 9)), some (.ref (c + 1)), some (.int (iI m)), y]) (st' := [.ref (c + 1), .int (iI p)]) rfl rfl ?_
    refine go_v (m := 34) (as := [.ref (c + 1)]) (r := [.int (iI p)]) rfl rfl rfl (hK.1 1 (by decide)) rfl rfl (kr_length_0 z d c hp (s.wI 9 p) hK) (fun v h1 hq => ?_)
    obtain ⟨rfl, e⟩ := hq
    rw [e]
    clear e h1
    show xx_go (xt_P z) (d + 1) 42 10 [some (.ref (c + 9)), some (.ref (c + 1)), some (.int (iI m)), y] [.int (iI (s.I 0)), .int (iI p)] hp _
    refine mi_ge (t := 68) rfl rfl (by omega) (by omega) (by omega) (by omega) (fun _ => ?_) (fun q => absurd (show p ≥ s.I 0 by omega) q)
    exact go_r rfl rfl rfl rfl rfl rfl ⟨rfl, p, hK, hB, hX, by omega, by omega⟩
  | succ f ih =>
    intro p m y hp hf p0 p1 l0 hm hK hB hX
    refine go_a (pc' := 3) (ls' := [some (.ref (c + 9)), some (.ref (c + 1)), some (.int (iI m)), y]) (st' := [.ref (c + 9)]) rfl rfl ?_
    refine go_get (v := .int (iI p)) rfl (hK.1 5 (by decide)) rfl rfl ?_
    refine go_a (pc' := 7) (ls' := [some (.ref (c + 9)), some (.ref (c + 1)), some (.int (iI m)), y]) (st' := [.ref (c + 1), .int (iI p)]) rfl rfl ?_
    refine go_v (m := 34) (as := [.ref (c + 1)]) (r := [.int (iI p)]) rfl rfl rfl (hK.1 1 (by decide)) rfl rfl (kr_length_0 z d c hp (s.wI 9 p) hK) (fun v h1 hq => ?_)
    obtain ⟨rfl, e⟩ := hq
    rw [e]
    clear e h1
    show xx_go (xt_P z) (d + 1) 42 10 [some (.ref (c + 9)), some (.ref (c + 1)), some (.int (iI m)), y] [.int (iI (s.I 0)), .int (iI p)] hp _
    refine mi_ge (t := 68) rfl rfl (by omega) (by omega) (by omega) (by omega) (fun _ => ?_) (fun q1 => ?_)
    · exact go_r rfl rfl rfl rfl rfl rfl ⟨rfl, p, hK, hB, hX, by omega, by omega⟩
    · have nx : ∀ (m : Int) (w : Option Value), (m = 0 ∨ m = 1) → xx_go (xt_P z) (d + 1) 42 55 [some (.ref (c + 9)), some (.ref (c + 1)), some (.int (iI m)), w] [] hp (fun v h1 => v = none ∧ ∃ a : Int, KI c h1 (s.wI 9 a) ∧ KB (s.wI 9 a) ∧ kx c hp0 s0 h1 (s.wI 9 a) 0 0 ∧ p ≤ a ∧ a ≤ s.I 0) := by
        intro m w hm
        refine go_a (pc' := 56) (ls' := [some (.ref (c + 9)), some (.ref (c + 1)), some (.int (iI m)), w]) (st' := [.ref (c + 9)]) rfl rfl ?_
        refine go_a (pc' := 57) (ls' := [some (.ref (c + 9)), some (.ref (c + 1)), some (.int (iI m)), w]) (st' := [.ref (c + 9), .ref (c + 9)]) rfl rfl ?_
        refine go_get (v := .int (iI p)) rfl (hK.1 5 (by decide)) rfl rfl ?_
        refine go_a (pc' := 61) (ls' := [some (.ref (c + 9)), some (.ref (c + 1)), some (.int (iI m)), w]) (st' := [.int (iI 1), .int (iI p), .ref (c + 9)]) rfl rfl ?_
        refine mi_add rfl ?_
        refine kput_9 (x := p + 1) hK hX rfl rfl (fun hp hK hX => ?_)
        refine go_a (pc' := 2) (ls' := [some (.ref (c + 9)), some (.ref (c + 1)), some (.int (iI m)), w]) (st' := []) rfl rfl ?_
        rw [wI_wI] at hK hX
        refine go_w (fun v h1 hq => ?_) (ih (p + 1) m w hp (by omega) (by omega) (by omega) l0 hm hK (by have := KB_wF (j := 9) (x := p + 1) hB (by omega) (by omega) (by decide); rw [wI_wI] at this; exact this) hX)
        obtain ⟨e1, a, a1, a2, a3, a4, a5⟩ := hq
        exact ⟨e1, a, a1, a2, a3, by omega, a5⟩
      refine go_a (pc' := 14) (ls' := [some (.ref (c + 9)), some (.ref (c + 1)), some (.int (iI m)), y]) (st' := [.ref (c + 1)]) rfl rfl ?_
      refine go_a (pc' := 15) (ls' := [some (.ref (c + 9)), some (.ref (c + 1)), some (.int (iI m)), y]) (st' := [.ref (c + 9), .ref (c + 1)]) rfl rfl ?_
      refine go_get (v := .int (iI p)) rfl (hK.1 5 (by decide)) rfl rfl ?_
      refine go_v (m := 43) (as := [.ref (c + 1), .int (iI p)]) (r := []) rfl rfl rfl (hK.1 1 (by decide)) rfl rfl (kr_at_0 z d c p hp (s.wI 9 p) hK hB (by omega) (by omega)) (fun v h1 hq => ?_)
      obtain ⟨hq, e⟩ := hq
      rw [e]
      clear e h1
      have rc := hB.1 0 p
      have rc2 : -2147483648 ≤ s.A 0 p ∧ s.A 0 p ≤ 2147483647 := rc
      have hq : v = some (.int (iI (s.A 0 p))) := hq.elim (fun q => q.2.2) (fun q => absurd ⟨p0, show p < s.I 0 by omega⟩ q.1)
      subst hq
      show xx_go (xt_P z) (d + 1) 42 21 [some (.ref (c + 9)), some (.ref (c + 1)), some (.int (iI m)), y] [.int (iI (s.A 0 p))] hp _
      refine go_a (pc' := 22) (ls' := [some (.ref (c + 9)), some (.ref (c + 1)), some (.int (iI m)), some (.int (iI (s.A 0 p)))]) (st' := []) rfl rfl ?_
      refine go_a (pc' := 23) (ls' := [some (.ref (c + 9)), some (.ref (c + 1)), some (.int (iI m)), some (.int (iI (s.A 0 p)))]) (st' := [.int (iI (s.A 0 p))]) rfl rfl ?_
      refine go_a (pc' := 25) (ls' := [some (.ref (c + 9)), some (.ref (c + 1)), some (.int (iI m)), some (.int (iI (s.A 0 p)))]) (st' := [.int (iI 10), .int (iI (s.A 0 p))]) rfl rfl ?_
      refine mi_ne (t := 33) rfl rfl (by omega) (by omega) (by omega) (by omega) (fun q2 => ?_) (fun q2 => ?_)
      · refine go_a (pc' := 34) (ls' := [some (.ref (c + 9)), some (.ref (c + 1)), some (.int (iI m)), some (.int (iI (s.A 0 p)))]) (st' := [.int (iI (s.A 0 p))]) rfl rfl ?_
        refine go_a (pc' := 36) (ls' := [some (.ref (c + 9)), some (.ref (c + 1)), some (.int (iI m)), some (.int (iI (s.A 0 p)))]) (st' := [.int (iI 59), .int (iI (s.A 0 p))]) rfl rfl ?_
        refine mi_ne (t := 44) rfl rfl (by omega) (by omega) (by omega) (by omega) (fun q3 => ?_) (fun q3 => ?_)
        · refine go_a (pc' := 45) (ls' := [some (.ref (c + 9)), some (.ref (c + 1)), some (.int (iI m)), some (.int (iI (s.A 0 p)))]) (st' := [.int (iI (s.A 0 p))]) rfl rfl ?_
          refine go_a (pc' := 47) (ls' := [some (.ref (c + 9)), some (.ref (c + 1)), some (.int (iI m)), some (.int (iI (s.A 0 p)))]) (st' := [.int (iI 32), .int (iI (s.A 0 p))]) rfl rfl ?_
          refine mi_eq (t := 55) rfl rfl (by omega) (by omega) (by omega) (by omega) (fun _ => nx m _ hm) (fun q4 => ?_)
          refine go_a (pc' := 51) (ls' := [some (.ref (c + 9)), some (.ref (c + 1)), some (.int (iI m)), some (.int (iI (s.A 0 p)))]) (st' := [.int (iI m)]) rfl rfl ?_
          refine mi_ne0 (t := 55) rfl rfl (by omega) (by omega) (fun _ => nx m _ hm) (fun _ => ?_)
          exact go_r rfl rfl rfl rfl rfl rfl ⟨rfl, p, hK, hB, hX, by omega, by omega⟩
        · refine go_a (pc' := 40) (ls' := [some (.ref (c + 9)), some (.ref (c + 1)), some (.int (iI m)), some (.int (iI (s.A 0 p)))]) (st' := [.int (iI 1)]) rfl rfl ?_
          refine go_a (pc' := 41) (ls' := [some (.ref (c + 9)), some (.ref (c + 1)), some (.int (iI 1)), some (.int (iI (s.A 0 p)))]) (st' := []) rfl rfl ?_
          refine go_a (pc' := 55) (ls' := [some (.ref (c + 9)), some (.ref (c + 1)), some (.int (iI 1)), some (.int (iI (s.A 0 p)))]) (st' := []) rfl rfl ?_
          exact nx 1 _ (Or.inr rfl)
      · refine go_a (pc' := 29) (ls' := [some (.ref (c + 9)), some (.ref (c + 1)), some (.int (iI m)), some (.int (iI (s.A 0 p)))]) (st' := [.int (iI 0)]) rfl rfl ?_
        refine go_a (pc' := 30) (ls' := [some (.ref (c + 9)), some (.ref (c + 1)), some (.int (iI 0)), some (.int (iI (s.A 0 p)))]) (st' := []) rfl rfl ?_
        refine go_a (pc' := 55) (ls' := [some (.ref (c + 9)), some (.ref (c + 1)), some (.int (iI 0)), some (.int (iI (s.A 0 p)))]) (st' := []) rfl rfl ?_
        exact nx 0 _ (Or.inl rfl)
theorem kd_skip (z : Value) (d c : Nat) (hp : xx_H) (s : KS) (hK : KI c hp s) (hB : KB s) (p0 : 0 ≤ s.I 9) (p1 : s.I 9 ≤ s.I 0) : xx_cl (xt_P z) (d + 2) 42 [.ref (c + 9), .ref (c + 1)] hp (fun v h1 => v = none ∧ ∃ a : Int, KI c h1 (s.wI 9 a) ∧ KB (s.wI 9 a) ∧ kx c hp s h1 (s.wI 9 a) 0 0 ∧ s.I 9 ≤ a ∧ a ≤ s.I 0) := by
  have b := hB.2.2.2.1 0 (by decide)
  refine cl_go rfl ?_
  show xx_go (xt_P z) (d + 1) 42 0 [some (.ref (c + 9)), some (.ref (c + 1)), none, none] [] hp _
  refine go_a (pc' := 1) (ls' := [some (.ref (c + 9)), some (.ref (c + 1)), none, none]) (st' := [.int (iI 0)]) rfl rfl ?_
  refine go_a (pc' := 2) (ls' := [some (.ref (c + 9)), some (.ref (c + 1)), some (.int (iI 0)), none]) (st' := []) rfl rfl ?_
  have e : s.wI 9 (s.I 9) = s := wI_eta rfl
  exact kd_skip_loop z d c hp s s _ (s.I 9) 0 none hp (Nat.le_refl _) p0 p1 (by omega) (Or.inl rfl) (by rw [e]; exact hK) (by rw [e]; exact hB) (by rw [e]; exact kx_rf)
def tps (s : KS) : Int := if 0 < s.I 1 then s.A 1 (s.I 1 - 1) else 0
def MST2 (w : Int) (s : KS) : Prop := (w = 41 ∧ (tps s = 3 ∨ tps s = 4 ∨ tps s = 6)) ∨ (w = 46 ∧ tps s = 4) ∨ (w ≠ 41 ∧ w ≠ 46 ∧ tps s ≠ 1 ∧ tps s ≠ 6)
theorem kd_mayStand (z : Value) (d c : Nat) (w : Int) (hp : xx_H) (s : KS) (hK : KI c hp s) (hB : KB s) (w0 : -2147483648 ≤ w) (w1 : w < 2147483648) : xx_cl (xt_P z) (d + 2) 188 [.ref (c + 9), .int (iI w)] hp (fun v h1 => ((MST2 w s ∧ v = some (.int (iI 1))) ∨ v = some (.int (iI 0))) ∧ h1 = hp) := by
  have b := hB.2.2.2.1 1 (by decide)
  refine cl_go rfl ?_
  show xx_go (xt_P z) (d + 1) 188 0 [some (.ref (c + 9)), some (.int (iI w)), none] [] hp _
  refine go_a (pc' := 1) (ls' := [some (.ref (c + 9)), some (.int (iI w)), none]) (st' := [.ref (c + 9)]) rfl rfl ?_
  refine go_get (v := .ref (c + 10)) rfl (hK.1 5 (by decide)) rfl rfl ?_
  refine go_v (m := 44) (as := [.ref (c + 10)]) (r := []) rfl rfl rfl (hK.1 6 (by decide)) rfl rfl (kr_last_1 z d c hp s hK hB) (fun v h1 hq => ?_)
  obtain ⟨hq, e⟩ := hq
  rw [e]
  clear e h1
  have hq : v = some (.int (iI (tps s))) := by
    unfold tps
    rcases hq with ⟨q1, q2⟩ | ⟨q1, q2⟩
    · rw [if_pos q1]
      exact q2
    · rw [if_neg (by omega)]
      exact q2
  subst hq
  have rt : -2147483648 ≤ tps s ∧ tps s < 2147483648 := by
    unfold tps
    have := hB.1 1 (s.I 1 - 1)
    split <;> omega
  show xx_go (xt_P z) (d + 1) 188 7 [some (.ref (c + 9)), some (.int (iI w)), none] [.int (iI (tps s))] hp _
  refine go_a (pc' := 8) (ls' := [some (.ref (c + 9)), some (.int (iI w)), some (.int (iI (tps s)))]) (st' := []) rfl rfl ?_
  refine go_a (pc' := 9) (ls' := [some (.ref (c + 9)), some (.int (iI w)), some (.int (iI (tps s)))]) (st' := [.int (iI w)]) rfl rfl ?_
  by_cases ca : w = 41
  · refine mi_lk (q := 27) (t := 36) rfl w0 w1 (by rw [ca]; rfl) rfl ?_
    have no : xx_go (xt_P z) (d + 1) 188 56 [some (.ref (c + 9)), some (.int (iI w)), some (.int (iI (tps s)))] [] hp (fun v h1 => ((MST2 w s ∧ v = some (.int (iI 1))) ∨ v = some (.int (iI 0))) ∧ h1 = hp) := by
      refine go_a (pc' := 57) (ls' := [some (.ref (c + 9)), some (.int (iI w)), some (.int (iI (tps s)))]) (st' := [.int (iI 0)]) rfl rfl ?_
      exact go_r rfl rfl rfl rfl rfl rfl ⟨Or.inr rfl, rfl⟩
    refine go_a (pc' := 37) (ls' := [some (.ref (c + 9)), some (.int (iI w)), some (.int (iI (tps s)))]) (st' := [.int (iI (tps s))]) rfl rfl ?_
    refine go_a (pc' := 38) (ls' := [some (.ref (c + 9)), some (.int (iI w)), some (.int (iI (tps s)))]) (st' := [.int (iI 3), .int (iI (tps s))]) rfl rfl ?_
    have yes : (tps s = 3 ∨ tps s = 4 ∨ tps s = 6) → xx_go (xt_P z) (d + 1) 188 52 [some (.ref (c + 9)), some (.int (iI w)), some (.int (iI (tps s)))] [] hp (fun v h1 => ((MST2 w s ∧ v = some (.int (iI 1))) ∨ v = some (.int (iI 0))) ∧ h1 = hp) := by
      intro q
      refine go_a (pc' := 53) (ls' := [some (.ref (c + 9)), some (.int (iI w)), some (.int (iI (tps s)))]) (st' := [.int (iI 1)]) rfl rfl ?_
      refine go_a (pc' := 57) (ls' := [some (.ref (c + 9)), some (.int (iI w)), some (.int (iI (tps s)))]) (st' := [.int (iI 1)]) rfl rfl ?_
      exact go_r rfl rfl rfl rfl rfl rfl ⟨Or.inl ⟨Or.inl ⟨ca, q⟩, rfl⟩, rfl⟩
    refine mi_eq (t := 52) rfl rfl (by omega) (by omega) (by omega) (by omega) (fun q => yes (Or.inl (by omega))) (fun _ => ?_)
    refine go_a (pc' := 42) (ls' := [some (.ref (c + 9)), some (.int (iI w)), some (.int (iI (tps s)))]) (st' := [.int (iI (tps s))]) rfl rfl ?_
    refine go_a (pc' := 43) (ls' := [some (.ref (c + 9)), some (.int (iI w)), some (.int (iI (tps s)))]) (st' := [.int (iI 4), .int (iI (tps s))]) rfl rfl ?_
    refine mi_eq (t := 52) rfl rfl (by omega) (by omega) (by omega) (by omega) (fun q => yes (Or.inr (Or.inl (by omega)))) (fun _ => ?_)
    refine go_a (pc' := 47) (ls' := [some (.ref (c + 9)), some (.int (iI w)), some (.int (iI (tps s)))]) (st' := [.int (iI (tps s))]) rfl rfl ?_
    refine go_a (pc' := 49) (ls' := [some (.ref (c + 9)), some (.int (iI w)), some (.int (iI (tps s)))]) (st' := [.int (iI 6), .int (iI (tps s))]) rfl rfl ?_
    refine mi_ne (t := 56) rfl rfl (by omega) (by omega) (by omega) (by omega) (fun _ => no) (fun q => yes (Or.inr (Or.inr (by omega))))
  by_cases cb : w = 46
  · refine mi_lk (q := 49) (t := 58) rfl w0 w1 (by rw [cb]; rfl) rfl ?_
    have no : xx_go (xt_P z) (d + 1) 188 67 [some (.ref (c + 9)), some (.int (iI w)), some (.int (iI (tps s)))] [] hp (fun v h1 => ((MST2 w s ∧ v = some (.int (iI 1))) ∨ v = some (.int (iI 0))) ∧ h1 = hp) := by
      refine go_a (pc' := 68) (ls' := [some (.ref (c + 9)), some (.int (iI w)), some (.int (iI (tps s)))]) (st' := [.int (iI 0)]) rfl rfl ?_
      exact go_r rfl rfl rfl rfl rfl rfl ⟨Or.inr rfl, rfl⟩
    refine go_a (pc' := 59) (ls' := [some (.ref (c + 9)), some (.int (iI w)), some (.int (iI (tps s)))]) (st' := [.int (iI (tps s))]) rfl rfl ?_
    refine go_a (pc' := 60) (ls' := [some (.ref (c + 9)), some (.int (iI w)), some (.int (iI (tps s)))]) (st' := [.int (iI 4), .int (iI (tps s))]) rfl rfl ?_
    refine mi_ne (t := 67) rfl rfl (by omega) (by omega) (by omega) (by omega) (fun _ => no) (fun q => ?_)
    refine go_a (pc' := 64) (ls' := [some (.ref (c + 9)), some (.int (iI w)), some (.int (iI (tps s)))]) (st' := [.int (iI 1)]) rfl rfl ?_
    refine go_a (pc' := 68) (ls' := [some (.ref (c + 9)), some (.int (iI w)), some (.int (iI (tps s)))]) (st' := [.int (iI 1)]) rfl rfl ?_
    exact go_r rfl rfl rfl rfl rfl rfl ⟨Or.inl ⟨Or.inr (Or.inl ⟨cb, by omega⟩), rfl⟩, rfl⟩
  refine mi_lk (q := 60) (t := 69) rfl w0 w1 (by show (if (41 : Int) = w then (27 : Int) else if (46 : Int) = w then 49 else 60) = 60; rw [if_neg (fun q => ca q.symm), if_neg (fun q => cb q.symm)]) rfl ?_
  have no : xx_go (xt_P z) (d + 1) 188 84 [some (.ref (c + 9)), some (.int (iI w)), some (.int (iI (tps s)))] [] hp (fun v h1 => ((MST2 w s ∧ v = some (.int (iI 1))) ∨ v = some (.int (iI 0))) ∧ h1 = hp) := by
    refine go_a (pc' := 85) (ls' := [some (.ref (c + 9)), some (.int (iI w)), some (.int (iI (tps s)))]) (st' := [.int (iI 0)]) rfl rfl ?_
    exact go_r rfl rfl rfl rfl rfl rfl ⟨Or.inr rfl, rfl⟩
  refine go_a (pc' := 70) (ls' := [some (.ref (c + 9)), some (.int (iI w)), some (.int (iI (tps s)))]) (st' := [.int (iI (tps s))]) rfl rfl ?_
  refine go_a (pc' := 71) (ls' := [some (.ref (c + 9)), some (.int (iI w)), some (.int (iI (tps s)))]) (st' := [.int (iI 1), .int (iI (tps s))]) rfl rfl ?_
  refine mi_eq (t := 84) rfl rfl (by omega) (by omega) (by omega) (by omega) (fun _ => no) (fun q1 => ?_)
  refine go_a (pc' := 75) (ls' := [some (.ref (c + 9)), some (.int (iI w)), some (.int (iI (tps s)))]) (st' := [.int (iI (tps s))]) rfl rfl ?_
  refine go_a (pc' := 77) (ls' := [some (.ref (c + 9)), some (.int (iI w)), some (.int (iI (tps s)))]) (st' := [.int (iI 6), .int (iI (tps s))]) rfl rfl ?_
  refine mi_eq (t := 84) rfl rfl (by omega) (by omega) (by omega) (by omega) (fun _ => no) (fun q2 => ?_)
  refine go_a (pc' := 81) (ls' := [some (.ref (c + 9)), some (.int (iI w)), some (.int (iI (tps s)))]) (st' := [.int (iI 1)]) rfl rfl ?_
  refine go_a (pc' := 85) (ls' := [some (.ref (c + 9)), some (.int (iI w)), some (.int (iI (tps s)))]) (st' := [.int (iI 1)]) rfl rfl ?_
  exact go_r rfl rfl rfl rfl rfl rfl ⟨Or.inl ⟨Or.inr (Or.inr ⟨ca, cb, q1, q2⟩), rfl⟩, rfl⟩
theorem kd_faultOf (z : Value) (d c : Nat) (w : Int) (hp : xx_H) (s : KS) (hK : KI c hp s) (hB : KB s) (w0 : -2147483648 ≤ w) (w1 : w < 2147483648) : xx_cl (xt_P z) (d + 3) 187 [.ref (c + 9), .int (iI w)] hp (fun v h1 => (∃ f : Int, v = some (.int (iI f)) ∧ (0 ≤ f ∧ f ≤ 5) ∧ (f = 0 → MST2 w s ∧ w ≠ 1 ∧ w ≠ 2 ∧ s.I 10 < 1000 ∧ ((w = 40 ∨ w = 39) → s.I 1 ≤ 40))) ∧ h1 = hp) := by
  have b := hB.2.2.2.1 1 (by decide)
  have r10 := hB.2.1 10
  refine cl_go rfl ?_
  show xx_go (xt_P z) (d + 2) 187 0 [some (.ref (c + 9)), some (.int (iI w))] [] hp _
  have bad : (w = 1 ∨ w = 2) → xx_go (xt_P z) (d + 2) 187 10 [some (.ref (c + 9)), some (.int (iI w))] [] hp (fun v h1 => (∃ f : Int, v = some (.int (iI f)) ∧ (0 ≤ f ∧ f ≤ 5) ∧ (f = 0 → MST2 w s ∧ w ≠ 1 ∧ w ≠ 2 ∧ s.I 10 < 1000 ∧ ((w = 40 ∨ w = 39) → s.I 1 ≤ 40))) ∧ h1 = hp) := by
    intro hw
    refine go_a (pc' := 11) (ls' := [some (.ref (c + 9)), some (.int (iI w))]) (st' := [.int (iI w)]) rfl rfl ?_
    exact go_r rfl rfl rfl rfl rfl rfl ⟨⟨w, rfl, by omega, fun q => by omega⟩, rfl⟩
  refine go_a (pc' := 1) (ls' := [some (.ref (c + 9)), some (.int (iI w))]) (st' := [.int (iI w)]) rfl rfl ?_
  refine go_a (pc' := 2) (ls' := [some (.ref (c + 9)), some (.int (iI w))]) (st' := [.int (iI 1), .int (iI w)]) rfl rfl ?_
  refine mi_eq (t := 10) rfl rfl (by omega) (by omega) (by omega) (by omega) (fun q => bad (Or.inl q)) (fun q1 => ?_)
  refine go_a (pc' := 6) (ls' := [some (.ref (c + 9)), some (.int (iI w))]) (st' := [.int (iI w)]) rfl rfl ?_
  refine go_a (pc' := 7) (ls' := [some (.ref (c + 9)), some (.int (iI w))]) (st' := [.int (iI 2), .int (iI w)]) rfl rfl ?_
  refine mi_ne (t := 12) rfl rfl (by omega) (by omega) (by omega) (by omega) (fun q2 => ?_) (fun q => bad (Or.inr (by omega)))
  refine go_a (pc' := 13) (ls' := [some (.ref (c + 9)), some (.int (iI w))]) (st' := [.ref (c + 9)]) rfl rfl ?_
  refine go_a (pc' := 14) (ls' := [some (.ref (c + 9)), some (.int (iI w))]) (st' := [.int (iI w), .ref (c + 9)]) rfl rfl ?_
  refine go_v (m := 188) (as := [.ref (c + 9), .int (iI w)]) (r := []) rfl rfl rfl (hK.1 5 (by decide)) rfl rfl (kd_mayStand z d c w hp s hK hB w0 w1) (fun v h1 hq => ?_)
  obtain ⟨hq, e⟩ := hq
  rw [e]
  clear e h1
  rcases hq with ⟨hm, rfl⟩ | rfl
  · show xx_go (xt_P z) (d + 2) 187 17 [some (.ref (c + 9)), some (.int (iI w))] [.int (iI 1)] hp _
    refine mi_ne0 (t := 22) rfl rfl (by omega) (by omega) (fun _ => ?_) (fun q => absurd q (by decide))
    have last : ((w = 40 ∨ w = 39) → s.I 1 ≤ 40) → xx_go (xt_P z) (d + 2) 187 48 [some (.ref (c + 9)), some (.int (iI w))] [] hp (fun v h1 => (∃ f : Int, v = some (.int (iI f)) ∧ (0 ≤ f ∧ f ≤ 5) ∧ (f = 0 → MST2 w s ∧ w ≠ 1 ∧ w ≠ 2 ∧ s.I 10 < 1000 ∧ ((w = 40 ∨ w = 39) → s.I 1 ≤ 40))) ∧ h1 = hp) := by
      intro h40
      refine go_a (pc' := 49) (ls' := [some (.ref (c + 9)), some (.int (iI w))]) (st' := [.ref (c + 9)]) rfl rfl ?_
      refine go_get (v := .int (iI (s.I 10))) rfl (hK.1 5 (by decide)) rfl rfl ?_
      refine go_a (pc' := 55) (ls' := [some (.ref (c + 9)), some (.int (iI w))]) (st' := [.int (iI 1000), .int (iI (s.I 10))]) rfl rfl ?_
      refine mi_lt (t := 62) rfl rfl (by omega) (by omega) (by omega) (by omega) (fun q => ?_) (fun q => ?_)
      · refine go_a (pc' := 63) (ls' := [some (.ref (c + 9)), some (.int (iI w))]) (st' := [.int (iI 0)]) rfl rfl ?_
        exact go_r rfl rfl rfl rfl rfl rfl ⟨⟨0, rfl, by decide, fun _ => ⟨hm, q1, q2, q, h40⟩⟩, rfl⟩
      · refine go_a (pc' := 59) (ls' := [some (.ref (c + 9)), some (.int (iI w))]) (st' := [.int (iI 5)]) rfl rfl ?_
        refine go_a (pc' := 63) (ls' := [some (.ref (c + 9)), some (.int (iI w))]) (st' := [.int (iI 5)]) rfl rfl ?_
        exact go_r rfl rfl rfl rfl rfl rfl ⟨⟨5, rfl, by decide, fun q => absurd q (by decide)⟩, rfl⟩
    have opn : xx_go (xt_P z) (d + 2) 187 34 [some (.ref (c + 9)), some (.int (iI w))] [] hp (fun v h1 => (∃ f : Int, v = some (.int (iI f)) ∧ (0 ≤ f ∧ f ≤ 5) ∧ (f = 0 → MST2 w s ∧ w ≠ 1 ∧ w ≠ 2 ∧ s.I 10 < 1000 ∧ ((w = 40 ∨ w = 39) → s.I 1 ≤ 40))) ∧ h1 = hp) := by
      refine go_a (pc' := 35) (ls' := [some (.ref (c + 9)), some (.int (iI w))]) (st' := [.ref (c + 9)]) rfl rfl ?_
      refine go_get (v := .ref (c + 10)) rfl (hK.1 5 (by decide)) rfl rfl ?_
      refine go_v (m := 34) (as := [.ref (c + 10)]) (r := []) rfl rfl rfl (hK.1 6 (by decide)) rfl rfl (kr_length_1 z (d + 1) c hp s hK) (fun v h1 hq => ?_)
      obtain ⟨rfl, e⟩ := hq
      rw [e]
      clear e h1
      show xx_go (xt_P z) (d + 2) 187 41 [some (.ref (c + 9)), some (.int (iI w))] [.int (iI (s.I 1))] hp _
      refine go_a (pc' := 43) (ls' := [some (.ref (c + 9)), some (.int (iI w))]) (st' := [.int (iI 40), .int (iI (s.I 1))]) rfl rfl ?_
      refine mi_le (t := 48) rfl rfl (by omega) (by omega) (by omega) (by omega) (fun q => last (fun _ => by omega)) (fun q => ?_)
      refine go_a (pc' := 47) (ls' := [some (.ref (c + 9)), some (.int (iI w))]) (st' := [.int (iI 4)]) rfl rfl ?_
      exact go_r rfl rfl rfl rfl rfl rfl ⟨⟨4, rfl, by decide, fun q => absurd q (by decide)⟩, rfl⟩
    refine go_a (pc' := 23) (ls' := [some (.ref (c + 9)), some (.int (iI w))]) (st' := [.int (iI w)]) rfl rfl ?_
    refine go_a (pc' := 25) (ls' := [some (.ref (c + 9)), some (.int (iI w))]) (st' := [.int (iI 40), .int (iI w)]) rfl rfl ?_
    refine mi_eq (t := 34) rfl rfl (by omega) (by omega) (by omega) (by omega) (fun _ => opn) (fun q3 => ?_)
    refine go_a (pc' := 29) (ls' := [some (.ref (c + 9)), some (.int (iI w))]) (st' := [.int (iI w)]) rfl rfl ?_
    refine go_a (pc' := 31) (ls' := [some (.ref (c + 9)), some (.int (iI w))]) (st' := [.int (iI 39), .int (iI w)]) rfl rfl ?_
    refine mi_ne (t := 48) rfl rfl (by omega) (by omega) (by omega) (by omega) (fun q4 => last (fun q => by omega)) (fun _ => opn)
  · show xx_go (xt_P z) (d + 2) 187 17 [some (.ref (c + 9)), some (.int (iI w))] [.int (iI 0)] hp _
    refine mi_ne0 (t := 22) rfl rfl (by omega) (by omega) (fun q => absurd rfl q) (fun _ => ?_)
    refine go_a (pc' := 21) (ls' := [some (.ref (c + 9)), some (.int (iI w))]) (st' := [.int (iI 3)]) rfl rfl ?_
    exact go_r rfl rfl rfl rfl rfl rfl ⟨⟨3, rfl, by decide, fun q => absurd q (by decide)⟩, rfl⟩
