theorem kz_mayStand (z : Value) (d c : Nat) (w : Int) (hp : xx_H) (s : KS) (hK : KI c hp s) (hB : KB s) (w0 : -2147483648 ≤ w) (w1 : w < 2147483648) : xx_cl (xt_P z) (d + 2) 188 [.ref (c + 9), .int (iI w)] hp (fun v h1 => ((MST2 w s ∧ v = some (.int (iI 1))) ∨ (¬ MST2 w s ∧ v = some (.int (iI 0)))) ∧ h1 = hp) := by
  have b := hB.2.2.2.1 1 (by decide)
  refine cl_go rfl ?_
  show xx_go (xt_P z) (d + 1) 188 0 [some (.ref (c + 9)), some (.int (iI w)), none] [] hp _
  refine go_a (pc' := 1) (ls' := [some (.ref (c + 9)), some (.int (iI w)), none]) (st' := [.ref (c + 9)]) rfl rfl ?_
  refine go_get (v := .ref (c + 10)) rfl (hK.1 5 (by decide)) rfl rfl ?_
  refine go_v (m := 44) (as := [.ref (c + 10)]) (r := []) rfl rfl rfl (hK.1 6 (by decide)) rfl rfl (kr_last_1 z d c hp s hK hB) (fun v h1 hq => ?_)
  obtain ⟨hq, e⟩ := hq
  rw [e]
  clear e h1
  have hq : v = some (.int (iI (tps s))) := by
    unfold tps
    rcases hq with ⟨q1, q2⟩ | ⟨q1, q2⟩
    · rw [if_pos q1]
      exact q2
    · rw [if_neg (by omega)]
      exact q2
  subst hq
  have rt : -2147483648 ≤ tps s ∧ tps s < 2147483648 := by
    unfold tps
    have := hB.1 1 (s.I 1 - 1)
    split <;> omega
  show xx_go (xt_P z) (d + 1) 188 7 [some (.ref (c + 9)), some (.int (iI w)), none] [.int (iI (tps s))] hp _
  refine go_a (pc' := 8) (ls' := [some (.ref (c + 9)), some (.int (iI w)), some (.int (iI (tps s)))]) (st' := []) rfl rfl ?_
  refine go_a (pc' := 9) (ls' := [some (.ref (c + 9)), some (.int (iI w)), some (.int (iI (tps s)))]) (st' := [.int (iI w)]) rfl rfl ?_
  by_cases ca : w = 41
  · refine mi_lk (q := 27) (t := 36) rfl w0 w1 (by rw [ca]; rfl) rfl ?_
    have no : ¬ MST2 w s → xx_go (xt_P z) (d + 1) 188 56 [some (.ref (c + 9)), some (.int (iI w)), some (.int (iI (tps s)))] [] hp (fun v h1 => ((MST2 w s ∧ v = some (.int (iI 1))) ∨ (¬ MST2 w s ∧ v = some (.int (iI 0)))) ∧ h1 = hp) := by
      intro nm
      refine go_a (pc' := 57) (ls' := [some (.ref (c + 9)), some (.int (iI w)), some (.int (iI (tps s)))]) (st' := [.int (iI 0)]) rfl rfl ?_
      exact go_r rfl rfl rfl rfl rfl rfl ⟨Or.inr ⟨nm, rfl⟩, rfl⟩
    refine go_a (pc' := 37) (ls' := [some (.ref (c + 9)), some (.int (iI w)), some (.int (iI (tps s)))]) (st' := [.int (iI (tps s))]) rfl rfl ?_
    refine go_a (pc' := 38) (ls' := [some (.ref (c + 9)), some (.int (iI w)), some (.int (iI (tps s)))]) (st' := [.int (iI 3), .int (iI (tps s))]) rfl rfl ?_
    have yes : (tps s = 3 ∨ tps s = 4 ∨ tps s = 6) → xx_go (xt_P z) (d + 1) 188 52 [some (.ref (c + 9)), some (.int (iI w)), some (.int (iI (tps s)))] [] hp (fun v h1 => ((MST2 w s ∧ v = some (.int (iI 1))) ∨ (¬ MST2 w s ∧ v = some (.int (iI 0)))) ∧ h1 = hp) := by
      intro q
      refine go_a (pc' := 53) (ls' := [some (.ref (c + 9)), some (.int (iI w)), some (.int (iI (tps s)))]) (st' := [.int (iI 1)]) rfl rfl ?_
      refine go_a (pc' := 57) (ls' := [some (.ref (c + 9)), some (.int (iI w)), some (.int (iI (tps s)))]) (st' := [.int (iI 1)]) rfl rfl ?_
      exact go_r rfl rfl rfl rfl rfl rfl ⟨Or.inl ⟨Or.inl ⟨ca, q⟩, rfl⟩, rfl⟩
    refine mi_eq (t := 52) rfl rfl (by omega) (by omega) (by omega) (by omega) (fun q => yes (Or.inl (by omega))) (fun n1 => ?_)
    refine go_a (pc' := 42) (ls' := [some (.ref (c + 9)), some (.int (iI w)), some (.int (iI (tps s)))]) (st' := [.int (iI (tps s))]) rfl rfl ?_
    refine go_a (pc' := 43) (ls' := [some (.ref (c + 9)), some (.int (iI w)), some (.int (iI (tps s)))]) (st' := [.int (iI 4), .int (iI (tps s))]) rfl rfl ?_
    refine mi_eq (t := 52) rfl rfl (by omega) (by omega) (by omega) (by omega) (fun q => yes (Or.inr (Or.inl (by omega)))) (fun n2 => ?_)
    refine go_a (pc' := 47) (ls' := [some (.ref (c + 9)), some (.int (iI w)), some (.int (iI (tps s)))]) (st' := [.int (iI (tps s))]) rfl rfl ?_
    refine go_a (pc' := 49) (ls' := [some (.ref (c + 9)), some (.int (iI w)), some (.int (iI (tps s)))]) (st' := [.int (iI 6), .int (iI (tps s))]) rfl rfl ?_
    refine mi_ne (t := 56) rfl rfl (by omega) (by omega) (by omega) (by omega) (fun n3 => no (by unfold MST2; omega)) (fun q => yes (Or.inr (Or.inr (by omega))))
  by_cases cb : w = 46
  · refine mi_lk (q := 49) (t := 58) rfl w0 w1 (by rw [cb]; rfl) rfl ?_
    have no : ¬ MST2 w s → xx_go (xt_P z) (d + 1) 188 67 [some (.ref (c + 9)), some (.int (iI w)), some (.int (iI (tps s)))] [] hp (fun v h1 => ((MST2 w s ∧ v = some (.int (iI 1))) ∨ (¬ MST2 w s ∧ v = some (.int (iI 0)))) ∧ h1 = hp) := by
      intro nm
      refine go_a (pc' := 68) (ls' := [some (.ref (c + 9)), some (.int (iI w)), some (.int (iI (tps s)))]) (st' := [.int (iI 0)]) rfl rfl ?_
      exact go_r rfl rfl rfl rfl rfl rfl ⟨Or.inr ⟨nm, rfl⟩, rfl⟩
    refine go_a (pc' := 59) (ls' := [some (.ref (c + 9)), some (.int (iI w)), some (.int (iI (tps s)))]) (st' := [.int (iI (tps s))]) rfl rfl ?_
    refine go_a (pc' := 60) (ls' := [some (.ref (c + 9)), some (.int (iI w)), some (.int (iI (tps s)))]) (st' := [.int (iI 4), .int (iI (tps s))]) rfl rfl ?_
    refine mi_ne (t := 67) rfl rfl (by omega) (by omega) (by omega) (by omega) (fun n1 => no (by unfold MST2; omega)) (fun q => ?_)
    refine go_a (pc' := 64) (ls' := [some (.ref (c + 9)), some (.int (iI w)), some (.int (iI (tps s)))]) (st' := [.int (iI 1)]) rfl rfl ?_
    refine go_a (pc' := 68) (ls' := [some (.ref (c + 9)), some (.int (iI w)), some (.int (iI (tps s)))]) (st' := [.int (iI 1)]) rfl rfl ?_
    exact go_r rfl rfl rfl rfl rfl rfl ⟨Or.inl ⟨Or.inr (Or.inl ⟨cb, by omega⟩), rfl⟩, rfl⟩
  refine mi_lk (q := 60) (t := 69) rfl w0 w1 (by show (if (41 : Int) = w then (27 : Int) else if (46 : Int) = w then 49 else 60) = 60; rw [if_neg (fun q => ca q.symm), if_neg (fun q => cb q.symm)]) rfl ?_
  have no : ¬ MST2 w s → xx_go (xt_P z) (d + 1) 188 84 [some (.ref (c + 9)), some (.int (iI w)), some (.int (iI (tps s)))] [] hp (fun v h1 => ((MST2 w s ∧ v = some (.int (iI 1))) ∨ (¬ MST2 w s ∧ v = some (.int (iI 0)))) ∧ h1 = hp) := by
    intro nm
    refine go_a (pc' := 85) (ls' := [some (.ref (c + 9)), some (.int (iI w)), some (.int (iI (tps s)))]) (st' := [.int (iI 0)]) rfl rfl ?_
    exact go_r rfl rfl rfl rfl rfl rfl ⟨Or.inr ⟨nm, rfl⟩, rfl⟩
  refine go_a (pc' := 70) (ls' := [some (.ref (c + 9)), some (.int (iI w)), some (.int (iI (tps s)))]) (st' := [.int (iI (tps s))]) rfl rfl ?_
  refine go_a (pc' := 71) (ls' := [some (.ref (c + 9)), some (.int (iI w)), some (.int (iI (tps s)))]) (st' := [.int (iI 1), .int (iI (tps s))]) rfl rfl ?_
  refine mi_eq (t := 84) rfl rfl (by omega) (by omega) (by omega) (by omega) (fun n1 => no (by unfold MST2; omega)) (fun q1 => ?_)
  refine go_a (pc' := 75) (ls' := [some (.ref (c + 9)), some (.int (iI w)), some (.int (iI (tps s)))]) (st' := [.int (iI (tps s))]) rfl rfl ?_
  refine go_a (pc' := 77) (ls' := [some (.ref (c + 9)), some (.int (iI w)), some (.int (iI (tps s)))]) (st' := [.int (iI 6), .int (iI (tps s))]) rfl rfl ?_
  refine mi_eq (t := 84) rfl rfl (by omega) (by omega) (by omega) (by omega) (fun n2 => no (by unfold MST2; omega)) (fun q2 => ?_)
  refine go_a (pc' := 81) (ls' := [some (.ref (c + 9)), some (.int (iI w)), some (.int (iI (tps s)))]) (st' := [.int (iI 1)]) rfl rfl ?_
  refine go_a (pc' := 85) (ls' := [some (.ref (c + 9)), some (.int (iI w)), some (.int (iI (tps s)))]) (st' := [.int (iI 1)]) rfl rfl ?_
  exact go_r rfl rfl rfl rfl rfl rfl ⟨Or.inl ⟨Or.inr (Or.inr ⟨ca, cb, q1, q2⟩), rfl⟩, rfl⟩
theorem kz_faultOf (z : Value) (d c : Nat) (w : Int) (hp : xx_H) (s : KS) (hK : KI c hp s) (hB : KB s) (w0 : -2147483648 ≤ w) (w1 : w < 2147483648) : xx_cl (xt_P z) (d + 3) 187 [.ref (c + 9), .int (iI w)] hp (fun v h1 => (∃ f : Int, v = some (.int (iI f)) ∧ (0 ≤ f ∧ f ≤ 5) ∧ (f = 0 ↔ (MST2 w s ∧ w ≠ 1 ∧ w ≠ 2 ∧ s.I 10 < 1000 ∧ ((w = 40 ∨ w = 39) → s.I 1 ≤ 40)))) ∧ h1 = hp) := by
  have b := hB.2.2.2.1 1 (by decide)
  have r10 := hB.2.1 10
  refine cl_go rfl ?_
  show xx_go (xt_P z) (d + 2) 187 0 [some (.ref (c + 9)), some (.int (iI w))] [] hp _
  have bad : (w = 1 ∨ w = 2) → xx_go (xt_P z) (d + 2) 187 10 [some (.ref (c + 9)), some (.int (iI w))] [] hp (fun v h1 => (∃ f : Int, v = some (.int (iI f)) ∧ (0 ≤ f ∧ f ≤ 5) ∧ (f = 0 ↔ (MST2 w s ∧ w ≠ 1 ∧ w ≠ 2 ∧ s.I 10 < 1000 ∧ ((w = 40 ∨ w = 39) → s.I 1 ≤ 40)))) ∧ h1 = hp) := by
    intro hw
    refine go_a (pc' := 11) (ls' := [some (.ref (c + 9)), some (.int (iI w))]) (st' := [.int (iI w)]) rfl rfl ?_
    exact go_r rfl rfl rfl rfl rfl rfl ⟨⟨w, rfl, by omega, ⟨fun q => by omega, fun q => absurd q.2.1 (by have := q.2.2.1; omega)⟩⟩, rfl⟩
  refine go_a (pc' := 1) (ls' := [some (.ref (c + 9)), some (.int (iI w))]) (st' := [.int (iI w)]) rfl rfl ?_
  refine go_a (pc' := 2) (ls' := [some (.ref (c + 9)), some (.int (iI w))]) (st' := [.int (iI 1), .int (iI w)]) rfl rfl ?_
  refine mi_eq (t := 10) rfl rfl (by omega) (by omega) (by omega) (by omega) (fun q => bad (Or.inl q)) (fun q1 => ?_)
  refine go_a (pc' := 6) (ls' := [some (.ref (c + 9)), some (.int (iI w))]) (st' := [.int (iI w)]) rfl rfl ?_
  refine go_a (pc' := 7) (ls' := [some (.ref (c + 9)), some (.int (iI w))]) (st' := [.int (iI 2), .int (iI w)]) rfl rfl ?_
  refine mi_ne (t := 12) rfl rfl (by omega) (by omega) (by omega) (by omega) (fun q2 => ?_) (fun q => bad (Or.inr (by omega)))
  refine go_a (pc' := 13) (ls' := [some (.ref (c + 9)), some (.int (iI w))]) (st' := [.ref (c + 9)]) rfl rfl ?_
  refine go_a (pc' := 14) (ls' := [some (.ref (c + 9)), some (.int (iI w))]) (st' := [.int (iI w), .ref (c + 9)]) rfl rfl ?_
  refine go_v (m := 188) (as := [.ref (c + 9), .int (iI w)]) (r := []) rfl rfl rfl (hK.1 5 (by decide)) rfl rfl (kz_mayStand z d c w hp s hK hB w0 w1) (fun v h1 hq => ?_)
  obtain ⟨hq, e⟩ := hq
  rw [e]
  clear e h1
  rcases hq with ⟨hm, rfl⟩ | ⟨hm, rfl⟩
  · show xx_go (xt_P z) (d + 2) 187 17 [some (.ref (c + 9)), some (.int (iI w))] [.int (iI 1)] hp _
    refine mi_ne0 (t := 22) rfl rfl (by omega) (by omega) (fun _ => ?_) (fun q => absurd q (by decide))
    have last : ((w = 40 ∨ w = 39) → s.I 1 ≤ 40) → xx_go (xt_P z) (d + 2) 187 48 [some (.ref (c + 9)), some (.int (iI w))] [] hp (fun v h1 => (∃ f : Int, v = some (.int (iI f)) ∧ (0 ≤ f ∧ f ≤ 5) ∧ (f = 0 ↔ (MST2 w s ∧ w ≠ 1 ∧ w ≠ 2 ∧ s.I 10 < 1000 ∧ ((w = 40 ∨ w = 39) → s.I 1 ≤ 40)))) ∧ h1 = hp) := by
      intro h40
      refine go_a (pc' := 49) (ls' := [some (.ref (c + 9)), some (.int (iI w))]) (st' := [.ref (c + 9)]) rfl rfl ?_
      refine go_get (v := .int (iI (s.I 10))) rfl (hK.1 5 (by decide)) rfl rfl ?_
      refine go_a (pc' := 55) (ls' := [some (.ref (c + 9)), some (.int (iI w))]) (st' := [.int (iI 1000), .int (iI (s.I 10))]) rfl rfl ?_
      refine mi_lt (t := 62) rfl rfl (by omega) (by omega) (by omega) (by omega) (fun q => ?_) (fun q => ?_)
      · refine go_a (pc' := 63) (ls' := [some (.ref (c + 9)), some (.int (iI w))]) (st' := [.int (iI 0)]) rfl rfl ?_
        exact go_r rfl rfl rfl rfl rfl rfl ⟨⟨0, rfl, by decide, ⟨fun _ => ⟨hm, q1, q2, q, h40⟩, fun _ => rfl⟩⟩, rfl⟩
      · refine go_a (pc' := 59) (ls' := [some (.ref (c + 9)), some (.int (iI w))]) (st' := [.int (iI 5)]) rfl rfl ?_
        refine go_a (pc' := 63) (ls' := [some (.ref (c + 9)), some (.int (iI w))]) (st' := [.int (iI 5)]) rfl rfl ?_
        exact go_r rfl rfl rfl rfl rfl rfl ⟨⟨5, rfl, by decide, ⟨fun q => absurd q (by decide), fun w9 => absurd w9.2.2.2.1 (by omega)⟩⟩, rfl⟩
    have opn : (w = 40 ∨ w = 39) → xx_go (xt_P z) (d + 2) 187 34 [some (.ref (c + 9)), some (.int (iI w))] [] hp (fun v h1 => (∃ f : Int, v = some (.int (iI f)) ∧ (0 ≤ f ∧ f ≤ 5) ∧ (f = 0 ↔ (MST2 w s ∧ w ≠ 1 ∧ w ≠ 2 ∧ s.I 10 < 1000 ∧ ((w = 40 ∨ w = 39) → s.I 1 ≤ 40)))) ∧ h1 = hp) := by
      intro h34
      refine go_a (pc' := 35) (ls' := [some (.ref (c + 9)), some (.int (iI w))]) (st' := [.ref (c + 9)]) rfl rfl ?_
      refine go_get (v := .ref (c + 10)) rfl (hK.1 5 (by decide)) rfl rfl ?_
      refine go_v (m := 34) (as := [.ref (c + 10)]) (r := []) rfl rfl rfl (hK.1 6 (by decide)) rfl rfl (kr_length_1 z (d + 1) c hp s hK) (fun v h1 hq => ?_)
      obtain ⟨rfl, e⟩ := hq
      rw [e]
      clear e h1
      show xx_go (xt_P z) (d + 2) 187 41 [some (.ref (c + 9)), some (.int (iI w))] [.int (iI (s.I 1))] hp _
      refine go_a (pc' := 43) (ls' := [some (.ref (c + 9)), some (.int (iI w))]) (st' := [.int (iI 40), .int (iI (s.I 1))]) rfl rfl ?_
      refine mi_le (t := 48) rfl rfl (by omega) (by omega) (by omega) (by omega) (fun q => last (fun _ => by omega)) (fun q => ?_)
      refine go_a (pc' := 47) (ls' := [some (.ref (c + 9)), some (.int (iI w))]) (st' := [.int (iI 4)]) rfl rfl ?_
      exact go_r rfl rfl rfl rfl rfl rfl ⟨⟨4, rfl, by decide, ⟨fun q => absurd q (by decide), fun w9 => absurd (w9.2.2.2.2 h34) (by omega)⟩⟩, rfl⟩
    refine go_a (pc' := 23) (ls' := [some (.ref (c + 9)), some (.int (iI w))]) (st' := [.int (iI w)]) rfl rfl ?_
    refine go_a (pc' := 25) (ls' := [some (.ref (c + 9)), some (.int (iI w))]) (st' := [.int (iI 40), .int (iI w)]) rfl rfl ?_
    refine mi_eq (t := 34) rfl rfl (by omega) (by omega) (by omega) (by omega) (fun q => opn (by omega)) (fun q3 => ?_)
    refine go_a (pc' := 29) (ls' := [some (.ref (c + 9)), some (.int (iI w))]) (st' := [.int (iI w)]) rfl rfl ?_
    refine go_a (pc' := 31) (ls' := [some (.ref (c + 9)), some (.int (iI w))]) (st' := [.int (iI 39), .int (iI w)]) rfl rfl ?_
    refine mi_ne (t := 48) rfl rfl (by omega) (by omega) (by omega) (by omega) (fun q4 => last (fun q => by omega)) (fun q => opn (by omega))
  · show xx_go (xt_P z) (d + 2) 187 17 [some (.ref (c + 9)), some (.int (iI w))] [.int (iI 0)] hp _
    refine mi_ne0 (t := 22) rfl rfl (by omega) (by omega) (fun q => absurd rfl q) (fun _ => ?_)
    refine go_a (pc' := 21) (ls' := [some (.ref (c + 9)), some (.int (iI w))]) (st' := [.int (iI 3)]) rfl rfl ?_
    exact go_r rfl rfl rfl rfl rfl rfl ⟨⟨3, rfl, by decide, ⟨fun q => absurd q (by decide), fun w9 => absurd w9.1 hm⟩⟩, rfl⟩
theorem RJ_wordz {u e g : Int} {s : KS} (h : RJ u e g s) (p : s.I 10 < 1000) : RJ u (e + 1) (g + 2) (s.wI 10 (s.I 10 + 1)) := by
  obtain ⟨h1, h2, h3, h4, h5, h6, h7, h8⟩ := h
  refine ⟨h1, ⟨h2.1, h2.2.1, show 0 ≤ s.I 10 + 1 by omega, show s.I 10 + 1 ≤ 1000 by omega⟩, h3, h4, h5, h6, ?_, ?_⟩
  · show SG (WD (SD s)) (s.A 3) (s.I 3).toNat + SG ow (s.A 1) (s.I 1).toNat + (e + 1) ≤ s.I 10 + 1
    omega
  · show s.I 8 + s.I 3 + SG oq (s.A 1) (s.I 1).toNat + (g + 2) ≤ u + 2 * (s.I 10 + 1)
    omega
theorem kz_accept (z : Value) (d c : Nat) (w u : Int) (hp : xx_H) (s : KS) (hK : KI c hp s) (hB : KB s) (hu : u ≤ 30000) (hJ : RJ u 0 (-1) s) (hJ2 : w ≠ 3 → RJ u 0 0 s) (hw : w = 3 ∨ w = 39 ∨ w = 40 ∨ w = 41 ∨ w = 46) (hm : MST2 w s) (ha : w = 3 → OB s (s.I 11) ∧ ¬ s.N (s.I 11) < 0) (p10 : s.I 10 < 1000) (p40 : (w = 40 ∨ w = 39) → s.I 1 ≤ 40) (F : sp_F) (eX : KX s) (eM : KNM s) (e21 : s.I 2 = s.I 1) (rr : RRc s F (s.I 1) (s.I 3)) (wf : WFr F) (fn : F ≠ []) : xx_cl (xt_P z) (d + 7) 189 [.ref (c + 9), .int (iI w)] hp (fun v h1 => v = none ∧ ∃ s1 : KS, KI c h1 s1 ∧ KB s1 ∧ kx c hp s h1 s1 0 0 ∧ RFF (s.wI 10 (s.I 10 + 1)) s1 ∧ RI u s1 ∧ KX s1 ∧ KNM s1 ∧ (KHT s → KHT s1) ∧ s1.I 2 = s1.I 1 ∧ RRc s1 (sp_acc w (DK s.N (s.I 11)) F) (s1.I 1) (s1.I 3) ∧ WFr (sp_acc w (DK s.N (s.I 11)) F)) := by
  have hX : kx c hp s hp s 0 0 := kx_rf
  have j0 := hJ.2.1
  have rr2 : RRc (s.wI 10 (s.I 10 + 1)) F ((s.wI 10 (s.I 10 + 1)).I 1) ((s.wI 10 (s.I 10 + 1)).I 3) := RRc_ext (s := s) F _ _ (fun _ _ _ => ⟨rfl, rfl⟩) (fun _ _ _ => ⟨rfl, rfl⟩) rr
  have eX2 : KX (s.wI 10 (s.I 10 + 1)) := KX_wI eX (by decide)
  refine cl_go rfl ?_
  show xx_go (xt_P z) (d + 6) 189 0 [some (.ref (c + 9)), some (.int (iI w))] [] hp _
  refine go_a (pc' := 1) (ls' := [some (.ref (c + 9)), some (.int (iI w))]) (st' := [.ref (c + 9)]) rfl rfl ?_
  refine go_a (pc' := 2) (ls' := [some (.ref (c + 9)), some (.int (iI w))]) (st' := [.ref (c + 9), .ref (c + 9)]) rfl rfl ?_
  refine go_get (v := .int (iI (s.I 10))) rfl (hK.1 5 (by decide)) rfl rfl ?_
  refine go_a (pc' := 6) (ls' := [some (.ref (c + 9)), some (.int (iI w))]) (st' := [.int (iI 1), .int (iI (s.I 10)), .ref (c + 9)]) rfl rfl ?_
  refine mi_add rfl ?_
  refine kput_10 (x := (s.I 10) + 1) hK hX rfl rfl (fun hp1 hK hX => ?_)
  refine go_a (pc' := 11) (ls' := [some (.ref (c + 9)), some (.int (iI w))]) (st' := [.int (iI w)]) rfl rfl ?_
  have B1 : KB (s.wI 10 (s.I 10 + 1)) := KB_wF hB (by omega) (by omega) (by decide)
  have J1 := RJ_wordz hJ p10
  by_cases cb : w = 39
  · refine mi_ts (c := 39) (t := 64) rfl cb rfl ?_
    have J2 := RJ_wordz (hJ2 (by omega)) p10
    have tq : tps s ≠ 1 ∧ tps s ≠ 6 := by
      unfold MST2 at hm
      omega
    refine go_a (pc' := 65) (ls' := [some (.ref (c + 9)), some (.int (iI w))]) (st' := [.ref (c + 9)]) rfl rfl ?_
    refine go_a (pc' := 66) (ls' := [some (.ref (c + 9)), some (.int (iI w))]) (st' := [.int (iI 2), .ref (c + 9)]) rfl rfl ?_
    refine go_v (m := 190) (as := [.ref (c + 9), .int (iI 2)]) (r := []) rfl rfl rfl (hK.1 5 (by decide)) rfl rfl (kz_open z (d + 3) c 2 u hp1 (s.wI 10 (s.I 10 + 1)) hK B1 hu (RJ_w J2 (by decide) (by decide)) (by decide) (by decide) (p40 (by omega)) tq F eX2 eM e21 rr2 wf fn) (fun v h2 hq => ?_)
    obtain ⟨rfl, t2, K2, B2, X2, F2, J2, x2, m2, y2, z2, r2, w2⟩ := hq
    show xx_go (xt_P z) (d + 6) 189 69 [some (.ref (c + 9)), some (.int (iI w))] [] h2 _
    refine go_a (pc' := 95) (ls' := [some (.ref (c + 9)), some (.int (iI w))]) (st' := []) rfl rfl ?_
    rw [show sp_acc w (DK s.N (s.I 11)) F = (2, []) :: F by unfold sp_acc; rw [if_neg (by omega), if_pos (by omega)]]
    exact go_r rfl rfl rfl rfl rfl rfl ⟨rfl, t2, K2, B2, kx_tr hX X2, F2, J2, x2, m2, y2, z2, r2, w2⟩
  by_cases ca : w = 40
  · refine mi_ts (c := 40) (t := 56) rfl ca rfl ?_
    have J2 := RJ_wordz (hJ2 (by omega)) p10
    have tq : tps s ≠ 1 ∧ tps s ≠ 6 := by
      unfold MST2 at hm
      omega
    refine go_a (pc' := 57) (ls' := [some (.ref (c + 9)), some (.int (iI w))]) (st' := [.ref (c + 9)]) rfl rfl ?_
    refine go_a (pc' := 58) (ls' := [some (.ref (c + 9)), some (.int (iI w))]) (st' := [.int (iI 3), .ref (c + 9)]) rfl rfl ?_
    refine go_v (m := 190) (as := [.ref (c + 9), .int (iI 3)]) (r := []) rfl rfl rfl (hK.1 5 (by decide)) rfl rfl (kz_open z (d + 3) c 3 u hp1 (s.wI 10 (s.I 10 + 1)) hK B1 hu (RJ_w J2 (by decide) (by decide)) (by decide) (by decide) (p40 (by omega)) tq F eX2 eM e21 rr2 wf fn) (fun v h2 hq => ?_)
    obtain ⟨rfl, t2, K2, B2, X2, F2, J2, x2, m2, y2, z2, r2, w2⟩ := hq
    show xx_go (xt_P z) (d + 6) 189 61 [some (.ref (c + 9)), some (.int (iI w))] [] h2 _
    refine go_a (pc' := 95) (ls' := [some (.ref (c + 9)), some (.int (iI w))]) (st' := []) rfl rfl ?_
    rw [show sp_acc w (DK s.N (s.I 11)) F = (3, []) :: F by unfold sp_acc; rw [if_pos (by omega)]]
    exact go_r rfl rfl rfl rfl rfl rfl ⟨rfl, t2, K2, B2, kx_tr hX X2, F2, J2, x2, m2, y2, z2, r2, w2⟩
  by_cases cc : w = 41
  · refine mi_ts (c := 41) (t := 80) rfl cc rfl ?_
    have J2 := RJ_wordz (hJ2 (by omega)) p10
    have tq : tps s = 3 ∨ tps s = 4 ∨ tps s = 6 := by
      unfold MST2 at hm
      omega
    refine go_a (pc' := 81) (ls' := [some (.ref (c + 9)), some (.int (iI w))]) (st' := [.ref (c + 9)]) rfl rfl ?_
    refine go_v (m := 193) (as := [.ref (c + 9)]) (r := []) rfl rfl rfl (hK.1 5 (by decide)) rfl rfl (kz_close z d c u hp1 (s.wI 10 (s.I 10 + 1)) hK B1 hu J2 tq F eX2 eM e21 rr2 wf) (fun v h2 hq => ?_)
    obtain ⟨rfl, t2, K2, B2, X2, F2, J2, x2, m2, y2, z2, r2, w2⟩ := hq
    show xx_go (xt_P z) (d + 6) 189 84 [some (.ref (c + 9)), some (.int (iI w))] [] h2 _
    refine go_a (pc' := 95) (ls' := [some (.ref (c + 9)), some (.int (iI w))]) (st' := []) rfl rfl ?_
    rw [show sp_acc w (DK s.N (s.I 11)) F = sp_cl F by unfold sp_acc; rw [if_neg (by omega), if_neg (by omega), if_neg (by omega), if_pos (by omega)]]
    exact go_r rfl rfl rfl rfl rfl rfl ⟨rfl, t2, K2, B2, kx_tr hX X2, F2, J2, x2, m2, y2, z2, r2, w2⟩
  by_cases cd : w = 46
  · refine mi_ts (c := 46) (t := 72) rfl cd rfl ?_
    have J2 := RJ_wordz (hJ2 (by omega)) p10
    have tq : tps s = 4 := by
      unfold MST2 at hm
      omega
    refine go_a (pc' := 73) (ls' := [some (.ref (c + 9)), some (.int (iI w))]) (st' := [.ref (c + 9)]) rfl rfl ?_
    refine go_a (pc' := 74) (ls' := [some (.ref (c + 9)), some (.int (iI w))]) (st' := [.int (iI 5), .ref (c + 9)]) rfl rfl ?_
    refine go_v (m := 191) (as := [.ref (c + 9), .int (iI 5)]) (r := []) rfl rfl rfl (hK.1 5 (by decide)) rfl rfl (kd_become z (d + 3) c 5 hp1 (s.wI 10 (s.I 10 + 1)) hK B1 (show s.I 1 ≤ 41 by omega) (by decide) (by decide)) (fun v h2 hq => ?_)
    obtain ⟨rfl, t2, K2, B2, X2, W2, I2, E2, O2⟩ := hq
    have J3 := RJ_top J2 (by decide) (by decide) W2 I2 E2 O2
    rw [show tps (s.wI 10 (s.I 10 + 1)) = 4 from tq] at J3
    show xx_go (xt_P z) (d + 6) 189 77 [some (.ref (c + 9)), some (.int (iI w))] [] h2 _
    refine go_a (pc' := 95) (ls' := [some (.ref (c + 9)), some (.int (iI w))]) (st' := []) rfl rfl ?_
    rw [show sp_acc w (DK s.N (s.I 11)) F = sp_dot F by unfold sp_acc; rw [if_neg (by omega), if_neg (by omega), if_pos (by omega)]]
    have tt := RRc_top F rr rfl
    obtain ⟨k0, l0, r, rfl⟩ : ∃ (k0 : Int) (l0 : List ob_T) (r : sp_F), F = (k0, l0) :: r := by
      match F, fn with
      | [], fn => exact absurd rfl fn
      | (k9, l9) :: r9, _ => exact ⟨k9, l9, r9, rfl⟩
    have tt : tps s = k0 := tt
    have pos : 0 < s.I 1 := by
      have := rr.1
      omega
    have I2 : t2.I = su (s.wI 10 (s.I 10 + 1)).I 1 (s.I 1) := by rw [I2, if_pos (show 0 < (s.wI 10 (s.I 10 + 1)).I 1 from pos)]; rfl
    rw [if_pos (show 0 < (s.wI 10 (s.I 10 + 1)).I 1 from pos)] at E2 O2
    have z1 : t2.I 1 = s.I 1 := by rw [I2]; rfl
    have z2 : t2.I 2 = s.I 2 := by rw [I2]; rfl
    have z3 : t2.I 3 = s.I 3 := by rw [I2]; rfl
    have p2 : RRc t2 ((5, l0) :: r) (t2.I 1) (t2.I 3) := by
      rw [z1, z3]
      exact RRc_kind rr2 (fun q _ q1 => O2 q q1) E2 (W2.2.2.1 2 (by decide)).1 (W2.2.2.1 3 (by decide)).1 W2.1
    have H2 : KHT s → KHT t2 := fun q => by
      unfold KHT at q ⊢
      rw [W2.1, (W2.2.2.1 9 (by decide)).1, I2]
      exact q
    have w9 : WFr ((5, l0) :: r) := ⟨⟨fun q => absurd q (by decide), fun q => absurd q (by decide), fun q => absurd q (by decide), fun q => absurd q (by decide), fun q => absurd q (by decide), fun q => absurd (wf.1.2.2.2.2.2.1 q) (by omega), fun q => absurd q (by decide), fun _ => wf.1.2.2.2.2.2.2.1 (by omega)⟩, wf.2⟩
    exact go_r rfl rfl rfl rfl rfl rfl ⟨rfl, t2, K2, B2, kx_tr hX X2, RFF_row W2 (by decide) I2, RJ_w J3 (by decide) (by decide), KX_row eX2 W2 (by decide) I2, by unfold KNM; rw [W2.1]; exact eM, H2, by omega, p2, w9⟩
  refine mi_tsd (t := 87) rfl (by omega) (by omega) (by omega) rfl ?_
  have w3 : w = 3 := by omega
  have tq : tps s ≠ 1 ∧ tps s ≠ 6 := by
    unfold MST2 at hm
    omega
  have h3 := ha w3
  have wa : WD (SD s) (s.I 11) = 1 := WD_atom (SD_at h3.2).1
  refine go_a (pc' := 88) (ls' := [some (.ref (c + 9)), some (.int (iI w))]) (st' := [.ref (c + 9)]) rfl rfl ?_
  refine go_a (pc' := 89) (ls' := [some (.ref (c + 9)), some (.int (iI w))]) (st' := [.ref (c + 9), .ref (c + 9)]) rfl rfl ?_
  refine go_get (v := .int (iI (s.I 11))) rfl (hK.1 5 (by decide)) rfl rfl ?_
  refine go_v (m := 196) (as := [.ref (c + 9), .int (iI (s.I 11))]) (r := []) rfl rfl rfl (hK.1 5 (by decide)) rfl rfl (kz_addObject z (d + 2) c (s.I 11) u hp1 (s.wI 10 (s.I 10 + 1)) hK B1 hu (RJ_w J1 (show WD (SD s) (s.I 11) ≤ 0 + 1 by omega) (by decide)) h3.1 tq F eX2 eM e21 rr2 wf fn) (fun v h2 hq => ?_)
  obtain ⟨rfl, t2, K2, B2, X2, F2, J2, x2, m2, y2, z2, r2, w2⟩ := hq
  show xx_go (xt_P z) (d + 6) 189 95 [some (.ref (c + 9)), some (.int (iI w))] [] h2 _
  rw [show sp_acc w (DK s.N (s.I 11)) F = sp_add F (DK s.N (s.I 11)) by unfold sp_acc; rw [if_neg (by omega), if_neg (by omega), if_neg (by omega), if_neg (by omega)]]
  exact go_r rfl rfl rfl rfl rfl rfl ⟨rfl, t2, K2, B2, kx_tr hX X2, F2, J2, x2, m2, y2, z2, r2, w2⟩
