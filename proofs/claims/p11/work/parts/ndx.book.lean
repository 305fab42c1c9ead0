abbrev BKM : Type := (Int → Int × List Int × List Int) × (Int → Int × List Int × List Int) × (Nat → Int) × List (Nat × List Nat × ob_T) × List (Nat × ob_T)
def BFR (NM : BKM) (k m : Int) (g : Int → Int) (n : Int) (f : Int → Int) : Prop := rl m g = (NM.1 k).2.1 ∧ rl n f = (NM.1 k).2.2
def fcl (k m : Int) : Int := (17 + k) * 32 + m * 4 + 2
def LAW (n : Int) (f : Int → Int) (x : Int) : Prop := ∀ k : Nat, (k : Int) < n → f (k : Int) = x → ∀ j : Int, (k : Int) < j → j < bh n f (k : Int) → f j ≠ x
def FTH (c : Nat) (hp : xx_H) (s : KS) (u : Int) (a : Nat) (k nm m : Int) (g : Int → Int) (n : Int) (f : Int → Int) (cb : Int) : Prop := ∃ pq ta : Nat, hp[a]? = some (.inr (11, [.int (iI nm), .int (iI (fcl k m)), .ref pq, .ref ta, .int (iI cb)])) ∧ kn c s a ∧ KAL hp pq m g ∧ kn c s pq ∧ TM c hp s u ta n f ∧ (0 ≤ m ∧ m ≤ 6) ∧ (17 ≤ nm ∧ nm < u) ∧ (0 ≤ k ∧ k ≤ 39 ∧ 17 + k < u) ∧ (∀ i : Int, 0 ≤ i → i < m → TVx u (g i) ∧ g i % 4 = 0) ∧ LAW n f (fcl k m) ∧ ((-2147483648 ≤ cb ∧ cb ≤ 2147483647) ∧ c + 84 ≤ pq)
def TTH (c : Nat) (hp : xx_H) (s : KS) (u : Int) (a : Nat) (nm n : Int) (f : Int → Int) (cb : Int) : Prop := ∃ (pq ta : Nat) (g : Int → Int), hp[a]? = some (.inr (11, [.int (iI nm), .int (iI (-1)), .ref pq, .ref ta, .int (iI cb)])) ∧ kn c s a ∧ KAL hp pq 0 g ∧ kn c s pq ∧ TM c hp s u ta n f ∧ (17 ≤ nm ∧ nm < u) ∧ ((-2147483648 ≤ cb ∧ cb ≤ 2147483647) ∧ c + 84 ≤ pq)
def BF (c : Nat) (hp : xx_H) (s : KS) (u : Int) (NM : BKM) : Prop := ∀ k : Int, 0 ≤ k → k < s.I 27 → ∃ (a : Nat) (m : Int) (g : Int → Int) (n : Int) (f : Int → Int) (cb : Int), s.T 14 k = some a ∧ FTH c hp s u a k (NM.1 k).1 m g n f cb ∧ BFR NM k m g n f
def BT (c : Nat) (hp : xx_H) (s : KS) (u : Int) (NM : BKM) : Prop := ∀ k : Int, 0 ≤ k → k < s.I 28 → ∃ (a : Nat) (n : Int) (f : Int → Int) (cb : Int), s.T 15 k = some a ∧ TTH c hp s u a (NM.2.1 k).1 n f cb ∧ rl n f = (NM.2.1 k).2.2
theorem FTH_kx {c : Nat} {hp h1 : xx_H} {s s1 : KS} {u u1 α β : Int} {a : Nat} {k nm m : Int} {g : Int → Int} {n : Int} {f : Int → Int} {cb : Int} (h : FTH c hp s u a k nm m g n f cb) (X : kx c hp s h1 s1 α β) (hu : u ≤ u1) : FTH c h1 s1 u1 a k nm m g n f cb := by
  obtain ⟨pq, ta, a1, a2, a3, a4, a5, a6, a7, a8, a9, a10, a11⟩ := h
  have e1 := X.2.1 a (List.getElem?_eq_some_iff.mp a1).1 a2
  obtain ⟨b3, b4⟩ := KAL_kx a3 a4 X
  exact ⟨pq, ta, e1.2.trans a1, e1.1, b3, b4, TM_u (TM_kx a5 X) hu, a6, ⟨a7.1, by omega⟩, ⟨a8.1, a8.2.1, by omega⟩, fun i p q => ⟨TVx_u (a9 i p q).1 hu, (a9 i p q).2⟩, a10, a11⟩
theorem TTH_kx {c : Nat} {hp h1 : xx_H} {s s1 : KS} {u u1 α β : Int} {a : Nat} {nm n : Int} {f : Int → Int} {cb : Int} (h : TTH c hp s u a nm n f cb) (X : kx c hp s h1 s1 α β) (hu : u ≤ u1) : TTH c h1 s1 u1 a nm n f cb := by
  obtain ⟨pq, ta, g, a1, a2, a3, a4, a5, a7, a11⟩ := h
  have e1 := X.2.1 a (List.getElem?_eq_some_iff.mp a1).1 a2
  obtain ⟨b3, b4⟩ := KAL_kx a3 a4 X
  exact ⟨pq, ta, g, e1.2.trans a1, e1.1, b3, b4, TM_u (TM_kx a5 X) hu, ⟨a7.1, by omega⟩, a11⟩
theorem BF_kx {c : Nat} {hp h1 : xx_H} {s s1 : KS} {u u1 α β : Int} {NM : BKM} (h : BF c hp s u NM) (X : kx c hp s h1 s1 α β) (hu : u ≤ u1) (e1 : s1.I 27 = s.I 27) (e2 : s1.T 14 = s.T 14) : BF c h1 s1 u1 NM := by
  intro k k0 k1
  obtain ⟨a, m, g, n, f, cb, p, q, r⟩ := h k k0 (by omega)
  exact ⟨a, m, g, n, f, cb, by rw [e2]; exact p, FTH_kx q X hu, r⟩
theorem BT_kx {c : Nat} {hp h1 : xx_H} {s s1 : KS} {u u1 α β : Int} {NM : BKM} (h : BT c hp s u NM) (X : kx c hp s h1 s1 α β) (hu : u ≤ u1) (e1 : s1.I 28 = s.I 28) (e2 : s1.T 15 = s.T 15) : BT c h1 s1 u1 NM := by
  intro k k0 k1
  obtain ⟨a, n, f, cb, p, q, r⟩ := h k k0 (by omega)
  exact ⟨a, n, f, cb, by rw [e2]; exact p, TTH_kx q X hu, r⟩
theorem kf_functions (z : Value) (d c : Nat) (hp : xx_H) (s : KS) (hK : KI c hp s) : xx_cl (xt_P z) (d + 2) 46 [.ref (c + 21)] hp (fun v h1 => v = some (.int (iI (s.I 27))) ∧ h1 = hp) := by
  refine cl_go rfl ?_
  show xx_go (xt_P z) (d + 1) 46 0 [some (.ref (c + 21))] [] hp _
  refine go_a (pc' := 1) (ls' := [some (.ref (c + 21))]) (st' := [.ref (c + 21)]) rfl rfl ?_
  refine go_get (v := .ref (c + 23)) rfl (hK.1 12 (by decide)) rfl rfl ?_
  refine go_v (m := 47) (as := [.ref (c + 23)]) (r := []) rfl rfl rfl (hK.1 14 (by decide)) rfl rfl (kl_size_14 z d c hp s hK) (fun v h3 hq => ?_)
  obtain ⟨rfl, e⟩ := hq
  rw [e]
  clear e h3
  show xx_go (xt_P z) (d + 1) 46 7 [some (.ref (c + 21))] [.int (iI (s.I 27))] hp _
  exact go_r rfl rfl rfl rfl rfl rfl ⟨rfl, rfl⟩
theorem kf_theorems (z : Value) (d c : Nat) (hp : xx_H) (s : KS) (hK : KI c hp s) : xx_cl (xt_P z) (d + 2) 48 [.ref (c + 21)] hp (fun v h1 => v = some (.int (iI (s.I 28))) ∧ h1 = hp) := by
  refine cl_go rfl ?_
  show xx_go (xt_P z) (d + 1) 48 0 [some (.ref (c + 21))] [] hp _
  refine go_a (pc' := 1) (ls' := [some (.ref (c + 21))]) (st' := [.ref (c + 21)]) rfl rfl ?_
  refine go_get (v := .ref (c + 24)) rfl (hK.1 12 (by decide)) rfl rfl ?_
  refine go_v (m := 47) (as := [.ref (c + 24)]) (r := []) rfl rfl rfl (hK.1 15 (by decide)) rfl rfl (kl_size_15 z d c hp s hK) (fun v h3 hq => ?_)
  obtain ⟨rfl, e⟩ := hq
  rw [e]
  clear e h3
  show xx_go (xt_P z) (d + 1) 48 7 [some (.ref (c + 21))] [.int (iI (s.I 28))] hp _
  exact go_r rfl rfl rfl rfl rfl rfl ⟨rfl, rfl⟩
theorem kf_function_loop (z : Value) (d c : Nat) (x : Int) (hp : xx_H) (s : KS) (hK : KI c hp s) (hB : KB s) (u : Int) (NM : BKM) (hF : BF c hp s u NM) (u1 : u ≤ 67108864) (x0 : -2147483648 ≤ x) (x1 : x ≤ 2147483647) : ∀ (y : Nat) (k : Int), (s.I 27 - k).toNat ≤ y → 0 ≤ k → k ≤ 2000 → (∀ i : Int, 0 ≤ i → i < k → (NM.1 i).1 ≠ x) → xx_go (xt_P z) (d + 3) 216 2 [some (.ref (c + 21)), some (.int (iI x)), some (.int (iI k))] [] hp (fun v h1 => ((v = some .null ∧ ∀ i : Int, 0 ≤ i → i < s.I 27 → (NM.1 i).1 ≠ x) ∨ ∃ (a : Nat) (i m : Int) (g : Int → Int) (n : Int) (f : Int → Int) (cb : Int), v = some (.ref a) ∧ (0 ≤ i ∧ i < s.I 27 ∧ (NM.1 i).1 = x ∧ BFR NM i m g n f) ∧ FTH c hp s u a i (NM.1 i).1 m g n f cb) ∧ h1 = hp) := by
  have b7 := hB.2.2.2.2.2.2.2.1
  intro y
  induction y with
  | zero =>
    intro k hy k0 k1 hk
    refine go_a (pc' := 3) (ls' := [some (.ref (c + 21)), some (.int (iI x)), some (.int (iI k))]) (st' := [.int (iI k)]) rfl rfl ?_
    refine go_a (pc' := 4) (ls' := [some (.ref (c + 21)), some (.int (iI x)), some (.int (iI k))]) (st' := [.ref (c + 21), .int (iI k)]) rfl rfl ?_
    refine go_get (v := .ref (c + 23)) rfl (hK.1 12 (by decide)) rfl rfl ?_
    refine go_v (m := 47) (as := [.ref (c + 23)]) (r := [.int (iI k)]) rfl rfl rfl (hK.1 14 (by decide)) rfl rfl (kl_size_14 z (d + 2) c hp s hK) (fun v h3 hq => ?_)
    obtain ⟨rfl, e⟩ := hq
    rw [e]
    clear e h3
    show xx_go (xt_P z) (d + 3) 216 10 [some (.ref (c + 21)), some (.int (iI x)), some (.int (iI k))] [.int (iI (s.I 27)), .int (iI k)] hp _
    refine mi_ge (t := 49) rfl rfl (by omega) (by omega) (by omega) (by omega) (fun _ => ?_) (fun w => absurd (show k ≥ s.I 27 by omega) w)
    refine go_a (pc' := 50) (ls' := [some (.ref (c + 21)), some (.int (iI x)), some (.int (iI k))]) (st' := [.null]) rfl rfl ?_
    exact go_r rfl rfl rfl rfl rfl rfl ⟨Or.inl ⟨rfl, fun i i0 i1 => hk i i0 (by omega)⟩, rfl⟩
  | succ y ih =>
    intro k hy k0 k1 hk
    refine go_a (pc' := 3) (ls' := [some (.ref (c + 21)), some (.int (iI x)), some (.int (iI k))]) (st' := [.int (iI k)]) rfl rfl ?_
    refine go_a (pc' := 4) (ls' := [some (.ref (c + 21)), some (.int (iI x)), some (.int (iI k))]) (st' := [.ref (c + 21), .int (iI k)]) rfl rfl ?_
    refine go_get (v := .ref (c + 23)) rfl (hK.1 12 (by decide)) rfl rfl ?_
    refine go_v (m := 47) (as := [.ref (c + 23)]) (r := [.int (iI k)]) rfl rfl rfl (hK.1 14 (by decide)) rfl rfl (kl_size_14 z (d + 2) c hp s hK) (fun v h3 hq => ?_)
    obtain ⟨rfl, e⟩ := hq
    rw [e]
    clear e h3
    show xx_go (xt_P z) (d + 3) 216 10 [some (.ref (c + 21)), some (.int (iI x)), some (.int (iI k))] [.int (iI (s.I 27)), .int (iI k)] hp _
    refine mi_ge (t := 49) rfl rfl (by omega) (by omega) (by omega) (by omega) (fun w1 => ?_) (fun w1 => ?_)
    · refine go_a (pc' := 50) (ls' := [some (.ref (c + 21)), some (.int (iI x)), some (.int (iI k))]) (st' := [.null]) rfl rfl ?_
      exact go_r rfl rfl rfl rfl rfl rfl ⟨Or.inl ⟨rfl, fun i i0 i1 => hk i i0 (by omega)⟩, rfl⟩
    · obtain ⟨a, m, g, n, f, cb, ea, TH, RR⟩ := hF k k0 (by omega)
      obtain ⟨pq, ta, a1, a2, a3, a4, a5, a6, a7, a8, a9, a10, a11⟩ := id TH
      refine go_a (pc' := 14) (ls' := [some (.ref (c + 21)), some (.int (iI x)), some (.int (iI k))]) (st' := [.ref (c + 21)]) rfl rfl ?_
      refine go_get (v := .ref (c + 23)) rfl (hK.1 12 (by decide)) rfl rfl ?_
      refine go_a (pc' := 18) (ls' := [some (.ref (c + 21)), some (.int (iI x)), some (.int (iI k))]) (st' := [.int (iI k), .ref (c + 23)]) rfl rfl ?_
      refine go_v (m := 217) (as := [.ref (c + 23), .int (iI k)]) (r := []) rfl rfl rfl (hK.1 14 (by decide)) rfl rfl (kl_get_14 z d c k hp s hK hB k0 (by omega) a ea) (fun v h3 hq => ?_)
      obtain ⟨rfl, e⟩ := hq
      rw [e]
      clear e h3
      show xx_go (xt_P z) (d + 3) 216 21 [some (.ref (c + 21)), some (.int (iI x)), some (.int (iI k))] [.ref a] hp _
      refine go_cast rfl a1 rfl ?_
      refine go_get (v := .int (iI ((NM.1 k).1))) rfl a1 rfl rfl ?_
      refine go_a (pc' := 28) (ls' := [some (.ref (c + 21)), some (.int (iI x)), some (.int (iI k))]) (st' := [.int (iI x), .int (iI ((NM.1 k).1))]) rfl rfl ?_
      refine mi_ne (t := 43) rfl rfl (by omega) (by omega) (by omega) (by omega) (fun w2 => ?_) (fun w2 => ?_)
      · refine go_a (pc' := 46) (ls' := [some (.ref (c + 21)), some (.int (iI x)), some (.int (iI (k + 1)))]) (st' := []) rfl (by rw [← iI_add k 1]; rfl) ?_
        refine go_a (pc' := 2) (ls' := [some (.ref (c + 21)), some (.int (iI x)), some (.int (iI (k + 1)))]) (st' := []) rfl rfl ?_
        exact ih (k + 1) (by omega) (by omega) (by omega) (fun i i0 i1 => by
          by_cases ci : i = k
          · rw [ci]
            exact w2
          · exact hk i i0 (by omega))
      · refine go_a (pc' := 32) (ls' := [some (.ref (c + 21)), some (.int (iI x)), some (.int (iI k))]) (st' := [.ref (c + 21)]) rfl rfl ?_
        refine go_get (v := .ref (c + 23)) rfl (hK.1 12 (by decide)) rfl rfl ?_
        refine go_a (pc' := 36) (ls' := [some (.ref (c + 21)), some (.int (iI x)), some (.int (iI k))]) (st' := [.int (iI k), .ref (c + 23)]) rfl rfl ?_
        refine go_v (m := 217) (as := [.ref (c + 23), .int (iI k)]) (r := []) rfl rfl rfl (hK.1 14 (by decide)) rfl rfl (kl_get_14 z d c k hp s hK hB k0 (by omega) a ea) (fun v h3 hq => ?_)
        obtain ⟨rfl, e⟩ := hq
        rw [e]
        clear e h3
        show xx_go (xt_P z) (d + 3) 216 39 [some (.ref (c + 21)), some (.int (iI x)), some (.int (iI k))] [.ref a] hp _
        refine go_cast rfl a1 rfl ?_
        exact go_r rfl rfl rfl rfl rfl rfl ⟨Or.inr ⟨a, k, m, g, n, f, cb, rfl, ⟨by omega, by omega, by omega, RR⟩, TH⟩, rfl⟩
theorem kf_function (z : Value) (d c : Nat) (x : Int) (hp : xx_H) (s : KS) (hK : KI c hp s) (hB : KB s) (u : Int) (NM : BKM) (hF : BF c hp s u NM) (u1 : u ≤ 67108864) (x0 : -2147483648 ≤ x) (x1 : x ≤ 2147483647) : xx_cl (xt_P z) (d + 4) 216 [.ref (c + 21), .int (iI x)] hp (fun v h1 => ((v = some .null ∧ ∀ i : Int, 0 ≤ i → i < s.I 27 → (NM.1 i).1 ≠ x) ∨ ∃ (a : Nat) (i m : Int) (g : Int → Int) (n : Int) (f : Int → Int) (cb : Int), v = some (.ref a) ∧ (0 ≤ i ∧ i < s.I 27 ∧ (NM.1 i).1 = x ∧ BFR NM i m g n f) ∧ FTH c hp s u a i (NM.1 i).1 m g n f cb) ∧ h1 = hp) := by
  refine cl_go rfl ?_
  show xx_go (xt_P z) (d + 3) 216 0 [some (.ref (c + 21)), some (.int (iI x)), none] [] hp _
  refine go_a (pc' := 1) (ls' := [some (.ref (c + 21)), some (.int (iI x)), none]) (st' := [.int (iI 0)]) rfl rfl ?_
  refine go_a (pc' := 2) (ls' := [some (.ref (c + 21)), some (.int (iI x)), some (.int (iI 0))]) (st' := []) rfl rfl ?_
  exact kf_function_loop z d c x hp s hK hB u NM hF u1 x0 x1 _ 0 (Nat.le_refl _) (by decide) (by decide) (fun i i0 i1 => absurd i1 (by omega))
theorem kf_theorem_loop (z : Value) (d c : Nat) (x : Int) (hp : xx_H) (s : KS) (hK : KI c hp s) (hB : KB s) (u : Int) (NM : BKM) (hT : BT c hp s u NM) (u1 : u ≤ 67108864) (x0 : -2147483648 ≤ x) (x1 : x ≤ 2147483647) : ∀ (y : Nat) (k : Int), (s.I 28 - k).toNat ≤ y → 0 ≤ k → k ≤ 2000 → (∀ i : Int, 0 ≤ i → i < k → (NM.2.1 i).1 ≠ x) → xx_go (xt_P z) (d + 3) 243 2 [some (.ref (c + 21)), some (.int (iI x)), some (.int (iI k))] [] hp (fun v h1 => ((v = some .null ∧ ∀ i : Int, 0 ≤ i → i < s.I 28 → (NM.2.1 i).1 ≠ x) ∨ ∃ (a : Nat) (i n : Int) (f : Int → Int) (cb : Int), v = some (.ref a) ∧ (0 ≤ i ∧ i < s.I 28 ∧ (NM.2.1 i).1 = x ∧ rl n f = (NM.2.1 i).2.2) ∧ TTH c hp s u a (NM.2.1 i).1 n f cb) ∧ h1 = hp) := by
  have b7 := hB.2.2.2.2.2.2.2.2
  intro y
  induction y with
  | zero =>
    intro k hy k0 k1 hk
    refine go_a (pc' := 3) (ls' := [some (.ref (c + 21)), some (.int (iI x)), some (.int (iI k))]) (st' := [.int (iI k)]) rfl rfl ?_
    refine go_a (pc' := 4) (ls' := [some (.ref (c + 21)), some (.int (iI x)), some (.int (iI k))]) (st' := [.ref (c + 21), .int (iI k)]) rfl rfl ?_
    refine go_get (v := .ref (c + 24)) rfl (hK.1 12 (by decide)) rfl rfl ?_
    refine go_v (m := 47) (as := [.ref (c + 24)]) (r := [.int (iI k)]) rfl rfl rfl (hK.1 15 (by decide)) rfl rfl (kl_size_15 z (d + 2) c hp s hK) (fun v h3 hq => ?_)
    obtain ⟨rfl, e⟩ := hq
    rw [e]
    clear e h3
    show xx_go (xt_P z) (d + 3) 243 10 [some (.ref (c + 21)), some (.int (iI x)), some (.int (iI k))] [.int (iI (s.I 28)), .int (iI k)] hp _
    refine mi_ge (t := 49) rfl rfl (by omega) (by omega) (by omega) (by omega) (fun _ => ?_) (fun w => absurd (show k ≥ s.I 28 by omega) w)
    refine go_a (pc' := 50) (ls' := [some (.ref (c + 21)), some (.int (iI x)), some (.int (iI k))]) (st' := [.null]) rfl rfl ?_
    exact go_r rfl rfl rfl rfl rfl rfl ⟨Or.inl ⟨rfl, fun i i0 i1 => hk i i0 (by omega)⟩, rfl⟩
  | succ y ih =>
    intro k hy k0 k1 hk
    refine go_a (pc' := 3) (ls' := [some (.ref (c + 21)), some (.int (iI x)), some (.int (iI k))]) (st' := [.int (iI k)]) rfl rfl ?_
    refine go_a (pc' := 4) (ls' := [some (.ref (c + 21)), some (.int (iI x)), some (.int (iI k))]) (st' := [.ref (c + 21), .int (iI k)]) rfl rfl ?_
    refine go_get (v := .ref (c + 24)) rfl (hK.1 12 (by decide)) rfl rfl ?_
    refine go_v (m := 47) (as := [.ref (c + 24)]) (r := [.int (iI k)]) rfl rfl rfl (hK.1 15 (by decide)) rfl rfl (kl_size_15 z (d + 2) c hp s hK) (fun v h3 hq => ?_)
    obtain ⟨rfl, e⟩ := hq
    rw [e]
    clear e h3
    show xx_go (xt_P z) (d + 3) 243 10 [some (.ref (c + 21)), some (.int (iI x)), some (.int (iI k))] [.int (iI (s.I 28)), .int (iI k)] hp _
    refine mi_ge (t := 49) rfl rfl (by omega) (by omega) (by omega) (by omega) (fun w1 => ?_) (fun w1 => ?_)
    · refine go_a (pc' := 50) (ls' := [some (.ref (c + 21)), some (.int (iI x)), some (.int (iI k))]) (st' := [.null]) rfl rfl ?_
      exact go_r rfl rfl rfl rfl rfl rfl ⟨Or.inl ⟨rfl, fun i i0 i1 => hk i i0 (by omega)⟩, rfl⟩
    · obtain ⟨a, n, f, cb, ea, TH, RR⟩ := hT k k0 (by omega)
      obtain ⟨pq, ta, g, a1, a2, a3, a4, a5, a7, a11⟩ := id TH
      refine go_a (pc' := 14) (ls' := [some (.ref (c + 21)), some (.int (iI x)), some (.int (iI k))]) (st' := [.ref (c + 21)]) rfl rfl ?_
      refine go_get (v := .ref (c + 24)) rfl (hK.1 12 (by decide)) rfl rfl ?_
      refine go_a (pc' := 18) (ls' := [some (.ref (c + 21)), some (.int (iI x)), some (.int (iI k))]) (st' := [.int (iI k), .ref (c + 24)]) rfl rfl ?_
      refine go_v (m := 217) (as := [.ref (c + 24), .int (iI k)]) (r := []) rfl rfl rfl (hK.1 15 (by decide)) rfl rfl (kl_get_15 z d c k hp s hK hB k0 (by omega) a ea) (fun v h3 hq => ?_)
      obtain ⟨rfl, e⟩ := hq
      rw [e]
      clear e h3
      show xx_go (xt_P z) (d + 3) 243 21 [some (.ref (c + 21)), some (.int (iI x)), some (.int (iI k))] [.ref a] hp _
      refine go_cast rfl a1 rfl ?_
      refine go_get (v := .int (iI ((NM.2.1 k).1))) rfl a1 rfl rfl ?_
      refine go_a (pc' := 28) (ls' := [some (.ref (c + 21)), some (.int (iI x)), some (.int (iI k))]) (st' := [.int (iI x), .int (iI ((NM.2.1 k).1))]) rfl rfl ?_
      refine mi_ne (t := 43) rfl rfl (by omega) (by omega) (by omega) (by omega) (fun w2 => ?_) (fun w2 => ?_)
      · refine go_a (pc' := 46) (ls' := [some (.ref (c + 21)), some (.int (iI x)), some (.int (iI (k + 1)))]) (st' := []) rfl (by rw [← iI_add k 1]; rfl) ?_
        refine go_a (pc' := 2) (ls' := [some (.ref (c + 21)), some (.int (iI x)), some (.int (iI (k + 1)))]) (st' := []) rfl rfl ?_
        exact ih (k + 1) (by omega) (by omega) (by omega) (fun i i0 i1 => by
          by_cases ci : i = k
          · rw [ci]
            exact w2
          · exact hk i i0 (by omega))
      · refine go_a (pc' := 32) (ls' := [some (.ref (c + 21)), some (.int (iI x)), some (.int (iI k))]) (st' := [.ref (c + 21)]) rfl rfl ?_
        refine go_get (v := .ref (c + 24)) rfl (hK.1 12 (by decide)) rfl rfl ?_
        refine go_a (pc' := 36) (ls' := [some (.ref (c + 21)), some (.int (iI x)), some (.int (iI k))]) (st' := [.int (iI k), .ref (c + 24)]) rfl rfl ?_
        refine go_v (m := 217) (as := [.ref (c + 24), .int (iI k)]) (r := []) rfl rfl rfl (hK.1 15 (by decide)) rfl rfl (kl_get_15 z d c k hp s hK hB k0 (by omega) a ea) (fun v h3 hq => ?_)
        obtain ⟨rfl, e⟩ := hq
        rw [e]
        clear e h3
        show xx_go (xt_P z) (d + 3) 243 39 [some (.ref (c + 21)), some (.int (iI x)), some (.int (iI k))] [.ref a] hp _
        refine go_cast rfl a1 rfl ?_
        exact go_r rfl rfl rfl rfl rfl rfl ⟨Or.inr ⟨a, k, n, f, cb, rfl, ⟨by omega, by omega, by omega, RR⟩, TH⟩, rfl⟩
theorem kf_theorem (z : Value) (d c : Nat) (x : Int) (hp : xx_H) (s : KS) (hK : KI c hp s) (hB : KB s) (u : Int) (NM : BKM) (hT : BT c hp s u NM) (u1 : u ≤ 67108864) (x0 : -2147483648 ≤ x) (x1 : x ≤ 2147483647) : xx_cl (xt_P z) (d + 4) 243 [.ref (c + 21), .int (iI x)] hp (fun v h1 => ((v = some .null ∧ ∀ i : Int, 0 ≤ i → i < s.I 28 → (NM.2.1 i).1 ≠ x) ∨ ∃ (a : Nat) (i n : Int) (f : Int → Int) (cb : Int), v = some (.ref a) ∧ (0 ≤ i ∧ i < s.I 28 ∧ (NM.2.1 i).1 = x ∧ rl n f = (NM.2.1 i).2.2) ∧ TTH c hp s u a (NM.2.1 i).1 n f cb) ∧ h1 = hp) := by
  refine cl_go rfl ?_
  show xx_go (xt_P z) (d + 3) 243 0 [some (.ref (c + 21)), some (.int (iI x)), none] [] hp _
  refine go_a (pc' := 1) (ls' := [some (.ref (c + 21)), some (.int (iI x)), none]) (st' := [.int (iI 0)]) rfl rfl ?_
  refine go_a (pc' := 2) (ls' := [some (.ref (c + 21)), some (.int (iI x)), some (.int (iI 0))]) (st' := []) rfl rfl ?_
  exact kf_theorem_loop z d c x hp s hK hB u NM hT u1 x0 x1 _ 0 (Nat.le_refl _) (by decide) (by decide) (fun i i0 i1 => absurd i1 (by omega))
theorem kf_nameOf (z : Value) (d c : Nat) (x : Int) (hp : xx_H) (s : KS) (hK : KI c hp s) (hB : KB s) (u : Int) (NM : BKM) (hF : BF c hp s u NM) (u1 : u ≤ 67108864) (x0 : 0 ≤ x) (x1 : x < u) : xx_cl (xt_P z) (d + 4) 300 [.ref (c + 21), .int (iI x)] hp (fun v h1 => (∃ y : Int, v = some (.int (iI y)) ∧ (0 ≤ y ∧ y < u) ∧ y = if 17 ≤ x ∧ x - 17 < s.I 27 then (NM.1 (x - 17)).1 else x) ∧ h1 = hp) := by
  have b7 := hB.2.2.2.2.2.2.2.1
  have no : ¬ (17 ≤ x ∧ x - 17 < s.I 27) → xx_go (xt_P z) (d + 3) 300 37 [some (.ref (c + 21)), some (.int (iI x)), some (.int (iI (x - 17)))] [] hp (fun v h1 => (∃ y : Int, v = some (.int (iI y)) ∧ (0 ≤ y ∧ y < u) ∧ y = if 17 ≤ x ∧ x - 17 < s.I 27 then (NM.1 (x - 17)).1 else x) ∧ h1 = hp) := by
    intro nx
    refine go_a (pc' := 38) (ls' := [some (.ref (c + 21)), some (.int (iI x)), some (.int (iI (x - 17)))]) (st' := [.int (iI x)]) rfl rfl ?_
    exact go_r rfl rfl rfl rfl rfl rfl ⟨⟨x, rfl, ⟨x0, x1⟩, by rw [if_neg nx]⟩, rfl⟩
  refine cl_go rfl ?_
  show xx_go (xt_P z) (d + 3) 300 0 [some (.ref (c + 21)), some (.int (iI x)), none] [] hp _
  refine go_a (pc' := 1) (ls' := [some (.ref (c + 21)), some (.int (iI x)), none]) (st' := [.int (iI x)]) rfl rfl ?_
  refine go_a (pc' := 3) (ls' := [some (.ref (c + 21)), some (.int (iI x)), none]) (st' := [.int (iI 17), .int (iI x)]) rfl rfl ?_
  refine mi_sub rfl ?_
  refine go_a (pc' := 5) (ls' := [some (.ref (c + 21)), some (.int (iI x)), some (.int (iI (x - 17)))]) (st' := []) rfl rfl ?_
  refine go_a (pc' := 6) (ls' := [some (.ref (c + 21)), some (.int (iI x)), some (.int (iI (x - 17)))]) (st' := [.int (iI (x - 17))]) rfl rfl ?_
  refine mi_lt0 (t := 37) rfl rfl (by omega) (by omega) (fun w => no (by omega)) (fun w1 => ?_)
  refine go_a (pc' := 10) (ls' := [some (.ref (c + 21)), some (.int (iI x)), some (.int (iI (x - 17)))]) (st' := [.int (iI (x - 17))]) rfl rfl ?_
  refine go_a (pc' := 11) (ls' := [some (.ref (c + 21)), some (.int (iI x)), some (.int (iI (x - 17)))]) (st' := [.ref (c + 21), .int (iI (x - 17))]) rfl rfl ?_
  refine go_get (v := .ref (c + 23)) rfl (hK.1 12 (by decide)) rfl rfl ?_
  refine go_v (m := 47) (as := [.ref (c + 23)]) (r := [.int (iI (x - 17))]) rfl rfl rfl (hK.1 14 (by decide)) rfl rfl (kl_size_14 z (d + 2) c hp s hK) (fun v h3 hq => ?_)
  obtain ⟨rfl, e⟩ := hq
  rw [e]
  clear e h3
  show xx_go (xt_P z) (d + 3) 300 17 [some (.ref (c + 21)), some (.int (iI x)), some (.int (iI (x - 17)))] [.int (iI (s.I 27)), .int (iI (x - 17))] hp _
  refine mi_ge (t := 37) rfl rfl (by omega) (by omega) (by omega) (by omega) (fun w => no (by omega)) (fun w2 => ?_)
  obtain ⟨a, m, g, n, f, cb, ea, TH, RR⟩ := hF (x - 17) (by omega) (by omega)
  obtain ⟨pq, ta, a1, a2, a3, a4, a5, a6, a7, a8, a9, a10, a11⟩ := id TH
  refine go_a (pc' := 21) (ls' := [some (.ref (c + 21)), some (.int (iI x)), some (.int (iI (x - 17)))]) (st' := [.ref (c + 21)]) rfl rfl ?_
  refine go_get (v := .ref (c + 23)) rfl (hK.1 12 (by decide)) rfl rfl ?_
  refine go_a (pc' := 25) (ls' := [some (.ref (c + 21)), some (.int (iI x)), some (.int (iI (x - 17)))]) (st' := [.int (iI (x - 17)), .ref (c + 23)]) rfl rfl ?_
  refine go_v (m := 217) (as := [.ref (c + 23), .int (iI (x - 17))]) (r := []) rfl rfl rfl (hK.1 14 (by decide)) rfl rfl (kl_get_14 z d c (x - 17) hp s hK hB (by omega) (by omega) a ea) (fun v h3 hq => ?_)
  obtain ⟨rfl, e⟩ := hq
  rw [e]
  clear e h3
  show xx_go (xt_P z) (d + 3) 300 28 [some (.ref (c + 21)), some (.int (iI x)), some (.int (iI (x - 17)))] [.ref a] hp _
  refine go_cast rfl a1 rfl ?_
  refine go_get (v := .int (iI ((NM.1 (x - 17)).1))) rfl a1 rfl rfl ?_
  refine go_a (pc' := 38) (ls' := [some (.ref (c + 21)), some (.int (iI x)), some (.int (iI (x - 17)))]) (st' := [.int (iI ((NM.1 (x - 17)).1))]) rfl rfl ?_
  exact go_r rfl rfl rfl rfl rfl rfl ⟨⟨(NM.1 (x - 17)).1, rfl, ⟨by omega, a7.2⟩, by rw [if_pos ⟨by omega, by omega⟩]⟩, rfl⟩
theorem kf_isFunction (z : Value) (d a : Nat) (y : Int) (w0 w2 w3 w4 : Value) (hp : xx_H) (ha : hp[a]? = some (.inr (11, [w0, .int (iI y), w2, w3, w4]))) (y0 : -2147483648 ≤ y) (y1 : y ≤ 2147483647) : xx_cl (xt_P z) (d + 1) 241 [.ref a] hp (fun v h1 => ((y ≠ -1 ∧ v = some (.int (iI 1))) ∨ (y = -1 ∧ v = some (.int (iI 0)))) ∧ h1 = hp) := by
  refine cl_go rfl ?_
  show xx_go (xt_P z) d 241 0 [some (.ref a)] [] hp _
  refine go_a (pc' := 1) (ls' := [some (.ref a)]) (st' := [.ref a]) rfl rfl ?_
  refine go_get (v := .int (iI y)) rfl ha rfl rfl ?_
  refine go_a (pc' := 5) (ls' := [some (.ref a)]) (st' := [.int (iI ((-1))), .int (iI y)]) rfl rfl ?_
  refine mi_eq (t := 12) rfl rfl (by omega) (by omega) (by omega) (by omega) (fun w => ?_) (fun w => ?_)
  · refine go_a (pc' := 13) (ls' := [some (.ref a)]) (st' := [.int (iI 0)]) rfl rfl ?_
    exact go_r rfl rfl rfl rfl rfl rfl ⟨Or.inr ⟨w, rfl⟩, rfl⟩
  · refine go_a (pc' := 9) (ls' := [some (.ref a)]) (st' := [.int (iI 1)]) rfl rfl ?_
    refine go_a (pc' := 13) (ls' := [some (.ref a)]) (st' := [.int (iI 1)]) rfl rfl ?_
    exact go_r rfl rfl rfl rfl rfl rfl ⟨Or.inl ⟨w, rfl⟩, rfl⟩
theorem kf_init (z : Value) (d pq ta : Nat) (nm cl cb : Int) (hp : xx_H) (h12 : 12 ≤ hp.length) : xx_cl (xt_P z) (d + 1) 233 [.ref hp.length, .int (iI nm), .int (iI cl), .ref pq, .ref ta, .int (iI cb)] (hp ++ [.inr (11, [.int 0, .int 0, .null, .null, .int 0])]) (fun v h1 => v = none ∧ h1 = hp ++ [.inr (11, [.int (iI nm), .int (iI cl), .ref pq, .ref ta, .int (iI cb)])]) := by
  refine cl_go rfl ?_
  show xx_go (xt_P z) d 233 0 [some (.ref hp.length), some (.int (iI nm)), some (.int (iI cl)), some (.ref pq), some (.ref ta), some (.int (iI cb))] [] (hp ++ [.inr (11, [.int 0, .int 0, .null, .null, .int 0])]) _
  refine go_a (pc' := 1) (ls' := [some (.ref hp.length), some (.int (iI nm)), some (.int (iI cl)), some (.ref pq), some (.ref ta), some (.int (iI cb))]) (st' := [.ref hp.length]) rfl rfl ?_
  refine go_o (st' := []) (h' := (hp ++ [.inr (11, [.int 0, .int 0, .null, .null, .int 0])])) rfl rfl rfl rfl ?_
  refine go_a (pc' := 5) (ls' := [some (.ref hp.length), some (.int (iI nm)), some (.int (iI cl)), some (.ref pq), some (.ref ta), some (.int (iI cb))]) (st' := [.ref hp.length]) rfl rfl ?_
  refine go_a (pc' := 6) (ls' := [some (.ref hp.length), some (.int (iI nm)), some (.int (iI cl)), some (.ref pq), some (.ref ta), some (.int (iI cb))]) (st' := [.int (iI nm), .ref hp.length]) rfl rfl ?_
  refine go_put rfl app_self rfl rfl h12 (show 0 < 5 by decide) rfl rfl ?_
  rw [app_set]
  show xx_go (xt_P z) d 233 9 [some (.ref hp.length), some (.int (iI nm)), some (.int (iI cl)), some (.ref pq), some (.ref ta), some (.int (iI cb))] [] (hp ++ [.inr (11, [.int (iI nm), .int 0, .null, .null, .int 0])]) _
  refine go_a (pc' := 10) (ls' := [some (.ref hp.length), some (.int (iI nm)), some (.int (iI cl)), some (.ref pq), some (.ref ta), some (.int (iI cb))]) (st' := [.ref hp.length]) rfl rfl ?_
  refine go_a (pc' := 11) (ls' := [some (.ref hp.length), some (.int (iI nm)), some (.int (iI cl)), some (.ref pq), some (.ref ta), some (.int (iI cb))]) (st' := [.int (iI cl), .ref hp.length]) rfl rfl ?_
  refine go_put rfl app_self rfl rfl h12 (show 1 < 5 by decide) rfl rfl ?_
  rw [app_set]
  show xx_go (xt_P z) d 233 14 [some (.ref hp.length), some (.int (iI nm)), some (.int (iI cl)), some (.ref pq), some (.ref ta), some (.int (iI cb))] [] (hp ++ [.inr (11, [.int (iI nm), .int (iI cl), .null, .null, .int 0])]) _
  refine go_a (pc' := 15) (ls' := [some (.ref hp.length), some (.int (iI nm)), some (.int (iI cl)), some (.ref pq), some (.ref ta), some (.int (iI cb))]) (st' := [.ref hp.length]) rfl rfl ?_
  refine go_a (pc' := 16) (ls' := [some (.ref hp.length), some (.int (iI nm)), some (.int (iI cl)), some (.ref pq), some (.ref ta), some (.int (iI cb))]) (st' := [.ref pq, .ref hp.length]) rfl rfl ?_
  refine go_put rfl app_self rfl rfl h12 (show 2 < 5 by decide) rfl rfl ?_
  rw [app_set]
  show xx_go (xt_P z) d 233 19 [some (.ref hp.length), some (.int (iI nm)), some (.int (iI cl)), some (.ref pq), some (.ref ta), some (.int (iI cb))] [] (hp ++ [.inr (11, [.int (iI nm), .int (iI cl), .ref pq, .null, .int 0])]) _
  refine go_a (pc' := 20) (ls' := [some (.ref hp.length), some (.int (iI nm)), some (.int (iI cl)), some (.ref pq), some (.ref ta), some (.int (iI cb))]) (st' := [.ref hp.length]) rfl rfl ?_
  refine go_a (pc' := 22) (ls' := [some (.ref hp.length), some (.int (iI nm)), some (.int (iI cl)), some (.ref pq), some (.ref ta), some (.int (iI cb))]) (st' := [.ref ta, .ref hp.length]) rfl rfl ?_
  refine go_put rfl app_self rfl rfl h12 (show 3 < 5 by decide) rfl rfl ?_
  rw [app_set]
  show xx_go (xt_P z) d 233 25 [some (.ref hp.length), some (.int (iI nm)), some (.int (iI cl)), some (.ref pq), some (.ref ta), some (.int (iI cb))] [] (hp ++ [.inr (11, [.int (iI nm), .int (iI cl), .ref pq, .ref ta, .int 0])]) _
  refine go_a (pc' := 26) (ls' := [some (.ref hp.length), some (.int (iI nm)), some (.int (iI cl)), some (.ref pq), some (.ref ta), some (.int (iI cb))]) (st' := [.ref hp.length]) rfl rfl ?_
  refine go_a (pc' := 28) (ls' := [some (.ref hp.length), some (.int (iI nm)), some (.int (iI cl)), some (.ref pq), some (.ref ta), some (.int (iI cb))]) (st' := [.int (iI cb), .ref hp.length]) rfl rfl ?_
  refine go_put rfl app_self rfl rfl h12 (show 4 < 5 by decide) rfl rfl ?_
  rw [app_set]
  show xx_go (xt_P z) d 233 31 [some (.ref hp.length), some (.int (iI nm)), some (.int (iI cl)), some (.ref pq), some (.ref ta), some (.int (iI cb))] [] (hp ++ [.inr (11, [.int (iI nm), .int (iI cl), .ref pq, .ref ta, .int (iI cb)])]) _
  exact go_r rfl rfl rfl rfl rfl rfl ⟨rfl, rfl⟩
