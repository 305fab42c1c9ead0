section CIS
variable {s : KS} {k : Int}
theorem CI_n0 (h : CI s) : SD s 1 0 < 0 := by
  have q := h.2.2 0 (by decide) (by decide)
  exact (SD_at (by omega)).1
theorem fst_eq (h0 : 0 ≤ k) (h1 : k < s.I 8) (hp : 0 ≤ SD s 1 k) : fst s k = SD s 1 k ∧ rst s k = SD s 2 k := by
  have n := SD_nn.mp hp
  unfold fst rst
  rw [if_pos ⟨h0, h1, n⟩, if_pos ⟨h0, h1, n⟩, (SD_neg n).1, (SD_neg n).2]
  exact ⟨rfl, rfl⟩
theorem fst_OB (h : CI s) (hB : KB s) (k : Int) : OB s (fst s k) ∧ OB s (rst s k) := by
  have b := hB.2.2.2.2.2.1
  unfold fst rst OB
  by_cases q : 0 ≤ k ∧ k < s.I 8 ∧ s.N k < 0
  · rw [if_pos q, if_pos q]
    have p := h.1.2 k q.1 q.2.1
    have r := sd_R (s.N k)
    rw [(SD_neg q.2.2).1, (SD_neg q.2.2).2] at p
    have := p.2.2.2.2 r.1.1
    omega
  · rw [if_neg q, if_neg q]
    omega
theorem OB_R (hB : KB s) (h : OB s k) : -2147483648 ≤ k ∧ k ≤ 2147483647 := by
  have b := hB.2.2.2.2.2.1
  unfold OB at h
  omega
end CIS
theorem kc_len_loop (z : Value) (d c : Nat) (o : Int) (hp : xx_H) (s : KS) (hK : KI c hp s) (hB : KB s) (hC : CI s) : ∀ (f : Nat) (r l n : Int), r.toNat ≤ f → OB s r → 0 ≤ l → l + r < 140000 → n = l → n + r < s.I 8 → xx_go (xt_P z) (d + 1) 198 7 [some (.ref (c + 4)), some (.int (iI o)), some (.int (iI r)), some (.int (iI l)), some (.int (iI n))] [] hp (fun v h1 => (∃ n : Int, v = some (.int (iI n)) ∧ ((n = -1 ∧ ∀ q : Nat, ¬ isL (SD s) q r) ∨ ∃ q : Nat, n = l + q ∧ isL (SD s) q r)) ∧ h1 = hp) := by
  have b := hB.2.2.2.2.2.1
  have n0 := CI_n0 hC
  have fin : ∀ r l n : Int, OB s r → 0 ≤ l → l < 140000 → ¬ (0 ≤ SD s 1 r) → xx_go (xt_P z) (d + 1) 198 39 [some (.ref (c + 4)), some (.int (iI o)), some (.int (iI r)), some (.int (iI l)), some (.int (iI n))] [] hp (fun v h1 => (∃ n : Int, v = some (.int (iI n)) ∧ ((n = -1 ∧ ∀ q : Nat, ¬ isL (SD s) q r) ∨ ∃ q : Nat, n = l + q ∧ isL (SD s) q r)) ∧ h1 = hp) := by
    intro r l n hr l0 l1 np
    unfold OB at hr
    refine go_a (pc' := 40) (ls' := [some (.ref (c + 4)), some (.int (iI o)), some (.int (iI r)), some (.int (iI l)), some (.int (iI n))]) (st' := [.int (iI r)]) rfl rfl ?_
    refine mi_ne0 (t := 47) rfl rfl (by omega) (by omega) (fun q => ?_) (fun q => ?_)
    · refine go_a (pc' := 48) (ls' := [some (.ref (c + 4)), some (.int (iI o)), some (.int (iI r)), some (.int (iI l)), some (.int (iI n))]) (st' := [.int (iI ((-1)))]) rfl rfl ?_
      refine go_r rfl rfl rfl rfl rfl rfl ⟨⟨-1, rfl, Or.inl ⟨rfl, fun m hm => ?_⟩⟩, rfl⟩
      cases m with
      | zero => exact q hm
      | succ m => exact np hm.1
    · refine go_a (pc' := 44) (ls' := [some (.ref (c + 4)), some (.int (iI o)), some (.int (iI r)), some (.int (iI l)), some (.int (iI n))]) (st' := [.int (iI l)]) rfl rfl ?_
      refine go_a (pc' := 48) (ls' := [some (.ref (c + 4)), some (.int (iI o)), some (.int (iI r)), some (.int (iI l)), some (.int (iI n))]) (st' := [.int (iI l)]) rfl rfl ?_
      exact go_r rfl rfl rfl rfl rfl rfl ⟨⟨l, rfl, Or.inr ⟨0, by omega, (show r = 0 by omega)⟩⟩, rfl⟩
  intro f
  induction f with
  | zero =>
    intro r l n hf hr l0 l1 en nr
    have hr2 := hr
    unfold OB at hr2
    refine go_a (pc' := 9) (ls' := [some (.ref (c + 4)), some (.int (iI o)), some (.int (iI r)), some (.int (iI l)), some (.int (iI n))]) (st' := [.int (iI n)]) rfl rfl ?_
    refine go_a (pc' := 10) (ls' := [some (.ref (c + 4)), some (.int (iI o)), some (.int (iI r)), some (.int (iI l)), some (.int (iI n))]) (st' := [.ref (c + 4), .int (iI n)]) rfl rfl ?_
    refine go_get (v := .int (iI (s.I 8))) rfl (hK.1 3 (by decide)) rfl rfl ?_
    refine mi_ge (t := 39) rfl rfl (by omega) (by omega) (by omega) (by omega) (fun q => absurd q (by omega)) (fun _ => ?_)
    refine go_a (pc' := 17) (ls' := [some (.ref (c + 4)), some (.int (iI o)), some (.int (iI r)), some (.int (iI l)), some (.int (iI n))]) (st' := [.ref (c + 4)]) rfl rfl ?_
    refine go_a (pc' := 18) (ls' := [some (.ref (c + 4)), some (.int (iI o)), some (.int (iI r)), some (.int (iI l)), some (.int (iI n))]) (st' := [.int (iI r), .ref (c + 4)]) rfl rfl ?_
    refine go_v (m := 199) (as := [.ref (c + 4), .int (iI r)]) (r := []) rfl rfl rfl (hK.1 3 (by decide)) rfl rfl (kc_isPair z d c r hp s hK hB (by omega) (by omega)) (fun v h1 hq => ?_)
    obtain ⟨hq, e⟩ := hq
    rw [e]
    rcases hq with ⟨q1, rfl⟩ | ⟨q1, rfl⟩
    · show xx_go (xt_P z) (d + 1) 198 21 [some (.ref (c + 4)), some (.int (iI o)), some (.int (iI r)), some (.int (iI l)), some (.int (iI n))] [.int (iI 1)] hp _
      refine mi_eq0 (t := 39) rfl rfl (by omega) (by omega) (fun q => absurd q (by decide)) (fun _ => ?_)
      have np : 0 ≤ SD s 1 r := SD_nn.mpr q1.2.2
      have pw := hC.1.2 r hr2.1 hr2.2
      have lt := pw.2.2.2.2 np
      exact absurd pw.2.1 (by omega)
    · show xx_go (xt_P z) (d + 1) 198 21 [some (.ref (c + 4)), some (.int (iI o)), some (.int (iI r)), some (.int (iI l)), some (.int (iI n))] [.int (iI 0)] hp _
      refine mi_eq0 (t := 39) rfl rfl (by omega) (by omega) (fun _ => ?_) (fun q => absurd rfl q)
      exact fin r l n hr l0 (by omega) (fun w => q1 ⟨hr2.1, hr2.2, SD_nn.mp w⟩)
  | succ f ih =>
    intro r l n hf hr l0 l1 en nr
    have hr2 := hr
    unfold OB at hr2
    refine go_a (pc' := 9) (ls' := [some (.ref (c + 4)), some (.int (iI o)), some (.int (iI r)), some (.int (iI l)), some (.int (iI n))]) (st' := [.int (iI n)]) rfl rfl ?_
    refine go_a (pc' := 10) (ls' := [some (.ref (c + 4)), some (.int (iI o)), some (.int (iI r)), some (.int (iI l)), some (.int (iI n))]) (st' := [.ref (c + 4), .int (iI n)]) rfl rfl ?_
    refine go_get (v := .int (iI (s.I 8))) rfl (hK.1 3 (by decide)) rfl rfl ?_
    refine mi_ge (t := 39) rfl rfl (by omega) (by omega) (by omega) (by omega) (fun q => absurd q (by omega)) (fun _ => ?_)
    refine go_a (pc' := 17) (ls' := [some (.ref (c + 4)), some (.int (iI o)), some (.int (iI r)), some (.int (iI l)), some (.int (iI n))]) (st' := [.ref (c + 4)]) rfl rfl ?_
    refine go_a (pc' := 18) (ls' := [some (.ref (c + 4)), some (.int (iI o)), some (.int (iI r)), some (.int (iI l)), some (.int (iI n))]) (st' := [.int (iI r), .ref (c + 4)]) rfl rfl ?_
    refine go_v (m := 199) (as := [.ref (c + 4), .int (iI r)]) (r := []) rfl rfl rfl (hK.1 3 (by decide)) rfl rfl (kc_isPair z d c r hp s hK hB (by omega) (by omega)) (fun v h1 hq => ?_)
    obtain ⟨hq, e⟩ := hq
    rw [e]
    rcases hq with ⟨q1, rfl⟩ | ⟨q1, rfl⟩
    · show xx_go (xt_P z) (d + 1) 198 21 [some (.ref (c + 4)), some (.int (iI o)), some (.int (iI r)), some (.int (iI l)), some (.int (iI n))] [.int (iI 1)] hp _
      refine mi_eq0 (t := 39) rfl rfl (by omega) (by omega) (fun q => absurd q (by decide)) (fun _ => ?_)
      have np : 0 ≤ SD s 1 r := SD_nn.mpr q1.2.2
      have pw := hC.1.2 r hr2.1 hr2.2
      have lt := pw.2.2.2.2 np
      clear e h1
      refine go_a (pc' := 25) (ls' := [some (.ref (c + 4)), some (.int (iI o)), some (.int (iI r)), some (.int (iI l)), some (.int (iI n))]) (st' := [.ref (c + 4)]) rfl rfl ?_
      refine go_a (pc' := 26) (ls' := [some (.ref (c + 4)), some (.int (iI o)), some (.int (iI r)), some (.int (iI l)), some (.int (iI n))]) (st' := [.int (iI r), .ref (c + 4)]) rfl rfl ?_
      refine go_v (m := 200) (as := [.ref (c + 4), .int (iI r)]) (r := []) rfl rfl rfl (hK.1 3 (by decide)) rfl rfl (kc_rest z d c r hp s hK hB (by omega) (by omega)) (fun v h1 hq => ?_)
      obtain ⟨rfl, e⟩ := hq
      rw [e, (fst_eq hr2.1 hr2.2 np).2]
      show xx_go (xt_P z) (d + 1) 198 29 [some (.ref (c + 4)), some (.int (iI o)), some (.int (iI r)), some (.int (iI l)), some (.int (iI n))] [.int (iI (SD s 2 r))] hp _
      refine go_a (pc' := 30) (ls' := [some (.ref (c + 4)), some (.int (iI o)), some (.int (iI (SD s 2 r))), some (.int (iI l)), some (.int (iI n))]) (st' := []) rfl rfl ?_
      refine go_a (pc' := 33) (ls' := [some (.ref (c + 4)), some (.int (iI o)), some (.int (iI (SD s 2 r))), some (.int (iI (l + 1))), some (.int (iI n))]) (st' := []) rfl (by rw [← iI_add l 1]; rfl) ?_
      refine go_a (pc' := 36) (ls' := [some (.ref (c + 4)), some (.int (iI o)), some (.int (iI (SD s 2 r))), some (.int (iI (l + 1))), some (.int (iI (n + 1)))]) (st' := []) rfl (by rw [← iI_add n 1]; rfl) ?_
      refine go_a (pc' := 7) (ls' := [some (.ref (c + 4)), some (.int (iI o)), some (.int (iI (SD s 2 r))), some (.int (iI (l + 1))), some (.int (iI (n + 1)))]) (st' := []) rfl rfl ?_
      refine go_w (fun v h1 hq => ?_) (ih (SD s 2 r) (l + 1) (n + 1) (by omega) ⟨pw.2.2.1, by omega⟩ (by omega) (by omega) (by omega) (by omega))
      obtain ⟨⟨m, e1, hm⟩, e2⟩ := hq
      refine ⟨⟨m, e1, ?_⟩, e2⟩
      rcases hm with ⟨w, hm⟩ | ⟨w, w2, hm⟩
      · refine Or.inl ⟨w, fun u hu => ?_⟩
        cases u with
        | zero =>
          have hu : r = 0 := hu
          rw [hu] at np
          omega
        | succ u => exact hm u hu.2
      · exact Or.inr ⟨w + 1, by omega, np, hm⟩
    · show xx_go (xt_P z) (d + 1) 198 21 [some (.ref (c + 4)), some (.int (iI o)), some (.int (iI r)), some (.int (iI l)), some (.int (iI n))] [.int (iI 0)] hp _
      refine mi_eq0 (t := 39) rfl rfl (by omega) (by omega) (fun _ => ?_) (fun q => absurd rfl q)
      exact fin r l n hr l0 (by omega) (fun w => q1 ⟨hr2.1, hr2.2, SD_nn.mp w⟩)
theorem kc_listLength (z : Value) (d c : Nat) (o : Int) (hp : xx_H) (s : KS) (hK : KI c hp s) (hB : KB s) (hC : CI s) (ho : OB s o) : xx_cl (xt_P z) (d + 2) 198 [.ref (c + 4), .int (iI o)] hp (fun v h1 => (∃ n : Int, v = some (.int (iI n)) ∧ ((n = -1 ∧ ∀ q : Nat, ¬ isL (SD s) q o) ∨ ∃ q : Nat, n = q ∧ isL (SD s) q o)) ∧ h1 = hp) := by
  have b := hB.2.2.2.2.2.1
  have ho2 := ho
  unfold OB at ho2
  refine cl_go rfl ?_
  show xx_go (xt_P z) (d + 1) 198 0 [some (.ref (c + 4)), some (.int (iI o)), none, none, none] [] hp _
  refine go_a (pc' := 1) (ls' := [some (.ref (c + 4)), some (.int (iI o)), none, none, none]) (st' := [.int (iI o)]) rfl rfl ?_
  refine go_a (pc' := 2) (ls' := [some (.ref (c + 4)), some (.int (iI o)), some (.int (iI o)), none, none]) (st' := []) rfl rfl ?_
  refine go_a (pc' := 3) (ls' := [some (.ref (c + 4)), some (.int (iI o)), some (.int (iI o)), none, none]) (st' := [.int (iI 0)]) rfl rfl ?_
  refine go_a (pc' := 4) (ls' := [some (.ref (c + 4)), some (.int (iI o)), some (.int (iI o)), some (.int (iI 0)), none]) (st' := []) rfl rfl ?_
  refine go_a (pc' := 5) (ls' := [some (.ref (c + 4)), some (.int (iI o)), some (.int (iI o)), some (.int (iI 0)), none]) (st' := [.int (iI 0)]) rfl rfl ?_
  refine go_a (pc' := 7) (ls' := [some (.ref (c + 4)), some (.int (iI o)), some (.int (iI o)), some (.int (iI 0)), some (.int (iI 0))]) (st' := []) rfl rfl ?_
  refine go_w (fun v h1 hq => ?_) (kc_len_loop z d c o hp s hK hB hC o.toNat o 0 0 (Nat.le_refl _) ho (by decide) (by omega) rfl (by omega))
  obtain ⟨⟨m, e1, hm⟩, e2⟩ := hq
  refine ⟨⟨m, e1, ?_⟩, e2⟩
  rcases hm with hm | ⟨w, w2, hm⟩
  · exact Or.inl hm
  · exact Or.inr ⟨w, by omega, hm⟩
theorem kc_part_loop (z : Value) (d c : Nat) (o m : Int) (hp : xx_H) (s : KS) (hK : KI c hp s) (hB : KB s) (hC : CI s) (m1 : m < 140000) : ∀ (f : Nat) (r j : Int), (m - j).toNat ≤ f → OB s r → 0 ≤ j → j ≤ m → xx_go (xt_P z) (d + 1) 202 5 [some (.ref (c + 4)), some (.int (iI o)), some (.int (iI m)), some (.int (iI r)), some (.int (iI j))] [] hp (fun v h1 => (∃ y : Int, v = some (.int (iI y)) ∧ OB s y ∧ ∀ q : Nat, isL (SD s) q r → m - j < q → y = SD s 1 (rt (SD s) (m - j).toNat r)) ∧ h1 = hp) := by
  have b := hB.2.2.2.2.2.1
  have fin : ∀ r j : Int, OB s r → 0 ≤ j → j ≤ m → (j = m ∨ ¬ 0 ≤ SD s 1 r) → xx_go (xt_P z) (d + 1) 202 31 [some (.ref (c + 4)), some (.int (iI o)), some (.int (iI m)), some (.int (iI r)), some (.int (iI j))] [] hp (fun v h1 => (∃ y : Int, v = some (.int (iI y)) ∧ OB s y ∧ ∀ q : Nat, isL (SD s) q r → m - j < q → y = SD s 1 (rt (SD s) (m - j).toNat r)) ∧ h1 = hp) := by
    intro r j hr j0 j1 hj
    have hr2 := hr
    unfold OB at hr2
    refine go_a (pc' := 32) (ls' := [some (.ref (c + 4)), some (.int (iI o)), some (.int (iI m)), some (.int (iI r)), some (.int (iI j))]) (st' := [.ref (c + 4)]) rfl rfl ?_
    refine go_a (pc' := 33) (ls' := [some (.ref (c + 4)), some (.int (iI o)), some (.int (iI m)), some (.int (iI r)), some (.int (iI j))]) (st' := [.int (iI r), .ref (c + 4)]) rfl rfl ?_
    refine go_v (m := 197) (as := [.ref (c + 4), .int (iI r)]) (r := []) rfl rfl rfl (hK.1 3 (by decide)) rfl rfl (kc_first z d c r hp s hK hB (by omega) (by omega)) (fun v h1 hq => ?_)
    obtain ⟨rfl, e⟩ := hq
    rw [e]
    show xx_go (xt_P z) (d + 1) 202 36 [some (.ref (c + 4)), some (.int (iI o)), some (.int (iI m)), some (.int (iI r)), some (.int (iI j))] [.int (iI (fst s r))] hp _
    refine go_r rfl rfl rfl rfl rfl rfl ⟨⟨_, rfl, (fst_OB hC hB r).1, fun q hl hq => ?_⟩, rfl⟩
    cases q with
    | zero => omega
    | succ q =>
      have np : 0 ≤ SD s 1 r := hl.1
      rcases hj with hj | hj
      · rw [(fst_eq hr2.1 hr2.2 np).1, show (m - j).toNat = 0 by omega]
        rfl
      · exact absurd np hj
  intro f
  induction f with
  | zero =>
    intro r j hf hr j0 j1
    have hr2 := hr
    unfold OB at hr2
    refine go_a (pc' := 7) (ls' := [some (.ref (c + 4)), some (.int (iI o)), some (.int (iI m)), some (.int (iI r)), some (.int (iI j))]) (st' := [.int (iI j)]) rfl rfl ?_
    refine go_a (pc' := 8) (ls' := [some (.ref (c + 4)), some (.int (iI o)), some (.int (iI m)), some (.int (iI r)), some (.int (iI j))]) (st' := [.int (iI m), .int (iI j)]) rfl rfl ?_
    refine mi_ge (t := 31) rfl rfl (by omega) (by omega) (by omega) (by omega) (fun _ => fin r j hr j0 j1 (Or.inl (by omega))) (fun q => absurd (show j ≥ m by omega) q)
  | succ f ih =>
    intro r j hf hr j0 j1
    have hr2 := hr
    unfold OB at hr2
    refine go_a (pc' := 7) (ls' := [some (.ref (c + 4)), some (.int (iI o)), some (.int (iI m)), some (.int (iI r)), some (.int (iI j))]) (st' := [.int (iI j)]) rfl rfl ?_
    refine go_a (pc' := 8) (ls' := [some (.ref (c + 4)), some (.int (iI o)), some (.int (iI m)), some (.int (iI r)), some (.int (iI j))]) (st' := [.int (iI m), .int (iI j)]) rfl rfl ?_
    refine mi_ge (t := 31) rfl rfl (by omega) (by omega) (by omega) (by omega) (fun _ => fin r j hr j0 j1 (Or.inl (by omega))) (fun _ => ?_)
    refine go_a (pc' := 12) (ls' := [some (.ref (c + 4)), some (.int (iI o)), some (.int (iI m)), some (.int (iI r)), some (.int (iI j))]) (st' := [.ref (c + 4)]) rfl rfl ?_
    refine go_a (pc' := 13) (ls' := [some (.ref (c + 4)), some (.int (iI o)), some (.int (iI m)), some (.int (iI r)), some (.int (iI j))]) (st' := [.int (iI r), .ref (c + 4)]) rfl rfl ?_
    refine go_v (m := 199) (as := [.ref (c + 4), .int (iI r)]) (r := []) rfl rfl rfl (hK.1 3 (by decide)) rfl rfl (kc_isPair z d c r hp s hK hB (by omega) (by omega)) (fun v h1 hq => ?_)
    obtain ⟨hq, e⟩ := hq
    rw [e]
    rcases hq with ⟨q1, rfl⟩ | ⟨q1, rfl⟩
    · show xx_go (xt_P z) (d + 1) 202 16 [some (.ref (c + 4)), some (.int (iI o)), some (.int (iI m)), some (.int (iI r)), some (.int (iI j))] [.int (iI 1)] hp _
      refine mi_eq0 (t := 31) rfl rfl (by omega) (by omega) (fun q => absurd q (by decide)) (fun _ => ?_)
      have np : 0 ≤ SD s 1 r := SD_nn.mpr q1.2.2
      have pw := hC.1.2 r hr2.1 hr2.2
      have lt := pw.2.2.2.2 np
      clear e h1
      refine go_a (pc' := 20) (ls' := [some (.ref (c + 4)), some (.int (iI o)), some (.int (iI m)), some (.int (iI r)), some (.int (iI j))]) (st' := [.ref (c + 4)]) rfl rfl ?_
      refine go_a (pc' := 21) (ls' := [some (.ref (c + 4)), some (.int (iI o)), some (.int (iI m)), some (.int (iI r)), some (.int (iI j))]) (st' := [.int (iI r), .ref (c + 4)]) rfl rfl ?_
      refine go_v (m := 200) (as := [.ref (c + 4), .int (iI r)]) (r := []) rfl rfl rfl (hK.1 3 (by decide)) rfl rfl (kc_rest z d c r hp s hK hB (by omega) (by omega)) (fun v h1 hq => ?_)
      obtain ⟨rfl, e⟩ := hq
      rw [e, (fst_eq hr2.1 hr2.2 np).2]
      show xx_go (xt_P z) (d + 1) 202 24 [some (.ref (c + 4)), some (.int (iI o)), some (.int (iI m)), some (.int (iI r)), some (.int (iI j))] [.int (iI (SD s 2 r))] hp _
      refine go_a (pc' := 25) (ls' := [some (.ref (c + 4)), some (.int (iI o)), some (.int (iI m)), some (.int (iI (SD s 2 r))), some (.int (iI j))]) (st' := []) rfl rfl ?_
      refine go_a (pc' := 28) (ls' := [some (.ref (c + 4)), some (.int (iI o)), some (.int (iI m)), some (.int (iI (SD s 2 r))), some (.int (iI (j + 1)))]) (st' := []) rfl (by rw [← iI_add j 1]; rfl) ?_
      refine go_a (pc' := 5) (ls' := [some (.ref (c + 4)), some (.int (iI o)), some (.int (iI m)), some (.int (iI (SD s 2 r))), some (.int (iI (j + 1)))]) (st' := []) rfl rfl ?_
      refine go_w (fun v h1 hq => ?_) (ih (SD s 2 r) (j + 1) (by omega) ⟨pw.2.2.1, by omega⟩ (by omega) (by omega))
      obtain ⟨⟨y, e1, hy, hm⟩, e2⟩ := hq
      refine ⟨⟨y, e1, hy, fun q hl hq => ?_⟩, e2⟩
      cases q with
      | zero => omega
      | succ q =>
        rw [hm q hl.2 (by omega), show (m - j).toNat = (m - (j + 1)).toNat + 1 by omega]
        rfl
    · show xx_go (xt_P z) (d + 1) 202 16 [some (.ref (c + 4)), some (.int (iI o)), some (.int (iI m)), some (.int (iI r)), some (.int (iI j))] [.int (iI 0)] hp _
      refine mi_eq0 (t := 31) rfl rfl (by omega) (by omega) (fun _ => ?_) (fun q => absurd rfl q)
      exact fin r j hr j0 (by omega) (Or.inr (fun w => q1 ⟨hr2.1, hr2.2, SD_nn.mp w⟩))
theorem kc_part (z : Value) (d c : Nat) (o m : Int) (hp : xx_H) (s : KS) (hK : KI c hp s) (hB : KB s) (hC : CI s) (ho : OB s o) (m0 : 0 ≤ m) (m1 : m < 140000) : xx_cl (xt_P z) (d + 2) 202 [.ref (c + 4), .int (iI o), .int (iI m)] hp (fun v h1 => (∃ y : Int, v = some (.int (iI y)) ∧ OB s y ∧ ∀ q : Nat, isL (SD s) q o → m < q → y = SD s 1 (rt (SD s) m.toNat o)) ∧ h1 = hp) := by
  refine cl_go rfl ?_
  show xx_go (xt_P z) (d + 1) 202 0 [some (.ref (c + 4)), some (.int (iI o)), some (.int (iI m)), none, none] [] hp _
  refine go_a (pc' := 1) (ls' := [some (.ref (c + 4)), some (.int (iI o)), some (.int (iI m)), none, none]) (st' := [.int (iI o)]) rfl rfl ?_
  refine go_a (pc' := 2) (ls' := [some (.ref (c + 4)), some (.int (iI o)), some (.int (iI m)), some (.int (iI o)), none]) (st' := []) rfl rfl ?_
  refine go_a (pc' := 3) (ls' := [some (.ref (c + 4)), some (.int (iI o)), some (.int (iI m)), some (.int (iI o)), none]) (st' := [.int (iI 0)]) rfl rfl ?_
  refine go_a (pc' := 5) (ls' := [some (.ref (c + 4)), some (.int (iI o)), some (.int (iI m)), some (.int (iI o)), some (.int (iI 0))]) (st' := []) rfl rfl ?_
  refine go_w (fun v h1 hq => ?_) (kc_part_loop z d c o m hp s hK hB hC m1 m.toNat o 0 (by omega) ho (by decide) m0)
  rw [show m - 0 = m by omega] at hq
  exact hq
theorem kc_isQuoted (z : Value) (d c : Nat) (o : Int) (hp : xx_H) (s : KS) (hK : KI c hp s) (hB : KB s) (hC : CI s) (ho : OB s o) : xx_cl (xt_P z) (d + 2) 214 [.ref (c + 4), .int (iI o)] hp (fun v h1 => (((SD s 1 o = 2 ∧ 0 ≤ SD s 1 (SD s 2 o) ∧ SD s 2 (SD s 2 o) = 0) ∧ v = some (.int (iI 1))) ∨ (¬ (SD s 1 o = 2 ∧ 0 ≤ SD s 1 (SD s 2 o) ∧ SD s 2 (SD s 2 o) = 0) ∧ v = some (.int (iI 0)))) ∧ h1 = hp) := by
  have b := hB.2.2.2.2.2.1
  have ho2 := ho
  unfold OB at ho2
  have f1 := (fst_OB hC hB o).1
  have f2 := (fst_OB hC hB o).2
  unfold OB at f1 f2
  have no : ¬ (SD s 1 o = 2 ∧ 0 ≤ SD s 1 (SD s 2 o) ∧ SD s 2 (SD s 2 o) = 0) → xx_go (xt_P z) (d + 1) 214 35 [some (.ref (c + 4)), some (.int (iI o)), some (.int (iI (rst s o)))] [] hp (fun v h1 => (((SD s 1 o = 2 ∧ 0 ≤ SD s 1 (SD s 2 o) ∧ SD s 2 (SD s 2 o) = 0) ∧ v = some (.int (iI 1))) ∨ (¬ (SD s 1 o = 2 ∧ 0 ≤ SD s 1 (SD s 2 o) ∧ SD s 2 (SD s 2 o) = 0) ∧ v = some (.int (iI 0)))) ∧ h1 = hp) := by
    intro q
    refine go_a (pc' := 36) (ls' := [some (.ref (c + 4)), some (.int (iI o)), some (.int (iI (rst s o)))]) (st' := [.int (iI 0)]) rfl rfl ?_
    exact go_r rfl rfl rfl rfl rfl rfl ⟨Or.inr ⟨q, rfl⟩, rfl⟩
  have pe : fst s o = 2 → 0 ≤ SD s 1 o := fun q => by
    unfold fst at q
    by_cases w : 0 ≤ o ∧ o < s.I 8 ∧ s.N o < 0
    · exact SD_nn.mpr w.2.2
    · rw [if_neg w] at q
      omega
  refine cl_go rfl ?_
  show xx_go (xt_P z) (d + 1) 214 0 [some (.ref (c + 4)), some (.int (iI o)), none] [] hp _
  refine go_a (pc' := 1) (ls' := [some (.ref (c + 4)), some (.int (iI o)), none]) (st' := [.ref (c + 4)]) rfl rfl ?_
  refine go_a (pc' := 2) (ls' := [some (.ref (c + 4)), some (.int (iI o)), none]) (st' := [.int (iI o), .ref (c + 4)]) rfl rfl ?_
  refine go_v (m := 200) (as := [.ref (c + 4), .int (iI o)]) (r := []) rfl rfl rfl (hK.1 3 (by decide)) rfl rfl (kc_rest z d c o hp s hK hB (by omega) (by omega)) (fun v h1 hq => ?_)
  obtain ⟨rfl, e⟩ := hq
  rw [e]
  clear e h1
  show xx_go (xt_P z) (d + 1) 214 5 [some (.ref (c + 4)), some (.int (iI o)), none] [.int (iI (rst s o))] hp _
  refine go_a (pc' := 6) (ls' := [some (.ref (c + 4)), some (.int (iI o)), some (.int (iI (rst s o)))]) (st' := []) rfl rfl ?_
  refine go_a (pc' := 7) (ls' := [some (.ref (c + 4)), some (.int (iI o)), some (.int (iI (rst s o)))]) (st' := [.ref (c + 4)]) rfl rfl ?_
  refine go_a (pc' := 8) (ls' := [some (.ref (c + 4)), some (.int (iI o)), some (.int (iI (rst s o)))]) (st' := [.int (iI o), .ref (c + 4)]) rfl rfl ?_
  refine go_v (m := 197) (as := [.ref (c + 4), .int (iI o)]) (r := []) rfl rfl rfl (hK.1 3 (by decide)) rfl rfl (kc_first z d c o hp s hK hB (by omega) (by omega)) (fun v h1 hq => ?_)
  obtain ⟨rfl, e⟩ := hq
  rw [e]
  clear e h1
  show xx_go (xt_P z) (d + 1) 214 11 [some (.ref (c + 4)), some (.int (iI o)), some (.int (iI (rst s o)))] [.int (iI (fst s o))] hp _
  refine go_a (pc' := 12) (ls' := [some (.ref (c + 4)), some (.int (iI o)), some (.int (iI (rst s o)))]) (st' := [.int (iI 2), .int (iI (fst s o))]) rfl rfl ?_
  refine mi_ne (t := 35) rfl rfl (by omega) (by omega) (by omega) (by omega) (fun q => no (fun w => q ((fst_eq ho2.1 ho2.2 (by omega)).1.trans w.1))) (fun q => ?_)
  have q : fst s o = 2 := by omega
  have np := pe q
  have fe := fst_eq ho2.1 ho2.2 np
  rw [fe.2] at no f2 ⊢
  refine go_a (pc' := 16) (ls' := [some (.ref (c + 4)), some (.int (iI o)), some (.int (iI (SD s 2 o)))]) (st' := [.ref (c + 4)]) rfl rfl ?_
  refine go_a (pc' := 17) (ls' := [some (.ref (c + 4)), some (.int (iI o)), some (.int (iI (SD s 2 o)))]) (st' := [.int (iI (SD s 2 o)), .ref (c + 4)]) rfl rfl ?_
  refine go_v (m := 199) (as := [.ref (c + 4), .int (iI (SD s 2 o))]) (r := []) rfl rfl rfl (hK.1 3 (by decide)) rfl rfl (kc_isPair z d c (SD s 2 o) hp s hK hB (by omega) (by omega)) (fun v h1 hq => ?_)
  obtain ⟨hq, e⟩ := hq
  rw [e]
  rcases hq with ⟨q1, rfl⟩ | ⟨q1, rfl⟩
  · show xx_go (xt_P z) (d + 1) 214 20 [some (.ref (c + 4)), some (.int (iI o)), some (.int (iI (SD s 2 o)))] [.int (iI 1)] hp _
    refine mi_eq0 (t := 35) rfl rfl (by omega) (by omega) (fun q => absurd q (by decide)) (fun _ => ?_)
    have np2 := SD_nn.mpr q1.2.2
    clear e h1
    refine go_a (pc' := 24) (ls' := [some (.ref (c + 4)), some (.int (iI o)), some (.int (iI (SD s 2 o)))]) (st' := [.ref (c + 4)]) rfl rfl ?_
    refine go_a (pc' := 25) (ls' := [some (.ref (c + 4)), some (.int (iI o)), some (.int (iI (SD s 2 o)))]) (st' := [.int (iI (SD s 2 o)), .ref (c + 4)]) rfl rfl ?_
    refine go_v (m := 200) (as := [.ref (c + 4), .int (iI (SD s 2 o))]) (r := []) rfl rfl rfl (hK.1 3 (by decide)) rfl rfl (kc_rest z d c (SD s 2 o) hp s hK hB (by omega) (by omega)) (fun v h1 hq => ?_)
    obtain ⟨rfl, e⟩ := hq
    rw [e, (fst_eq f2.1 f2.2 np2).2]
    have pw := hC.1.2 (SD s 2 o) f2.1 f2.2
    show xx_go (xt_P z) (d + 1) 214 28 [some (.ref (c + 4)), some (.int (iI o)), some (.int (iI (SD s 2 o)))] [.int (iI (SD s 2 (SD s 2 o)))] hp _
    refine mi_ne0 (t := 35) rfl rfl (by omega) (by omega) (fun q => no (fun w => q w.2.2)) (fun q2 => ?_)
    refine go_a (pc' := 32) (ls' := [some (.ref (c + 4)), some (.int (iI o)), some (.int (iI (SD s 2 o)))]) (st' := [.int (iI 1)]) rfl rfl ?_
    refine go_a (pc' := 36) (ls' := [some (.ref (c + 4)), some (.int (iI o)), some (.int (iI (SD s 2 o)))]) (st' := [.int (iI 1)]) rfl rfl ?_
    exact go_r rfl rfl rfl rfl rfl rfl ⟨Or.inl ⟨⟨fe.1.symm.trans q, np2, by omega⟩, rfl⟩, rfl⟩
  · show xx_go (xt_P z) (d + 1) 214 20 [some (.ref (c + 4)), some (.int (iI o)), some (.int (iI (SD s 2 o)))] [.int (iI 0)] hp _
    refine mi_eq0 (t := 35) rfl rfl (by omega) (by omega) (fun _ => no (fun w => q1 ⟨f2.1, f2.2, SD_nn.mp w.2.1⟩)) (fun q => absurd rfl q)
