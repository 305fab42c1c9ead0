def xk_tc (ci : Nat) : Bool := match xt_cl[ci]? with
  | some r => (List.range r.2.2).all (fun k => decide (parseFieldDescriptor (r.2.1 k).2.2.1 = some (xt_ts ci k)) && (List.range r.2.2).all (fun b => Nat.beq k b || !((r.2.1 k).2.1 == (r.2.1 b).2.1)))
  | none => true
theorem xk_tc_0 : xk_tc 0 = true := by decide +kernel
theorem xk_tc_1 : xk_tc 1 = true := by decide +kernel
theorem xk_tc_2 : xk_tc 2 = true := by decide +kernel
theorem xk_tc_3 : xk_tc 3 = true := by decide +kernel
theorem xk_tc_4 : xk_tc 4 = true := by decide +kernel
theorem xk_tc_5 : xk_tc 5 = true := by decide +kernel
theorem xk_tc_6 : xk_tc 6 = true := by decide +kernel
theorem xk_tc_7 : xk_tc 7 = true := by decide +kernel
theorem xk_tc_8 : xk_tc 8 = true := by decide +kernel
theorem xk_tc_9 : xk_tc 9 = true := by decide +kernel
theorem xk_tc_10 : xk_tc 10 = true := by decide +kernel
theorem xk_tc_11 : xk_tc 11 = true := by decide +kernel
theorem xk_tc_12 : xk_tc 12 = true := by decide +kernel
theorem xk_tc_13 : xk_tc 13 = true := by decide +kernel
theorem xk_tcs (ci : Nat) : xk_tc ci = true := by
  match ci with
  | 0 => exact xk_tc_0
  | 1 => exact xk_tc_1
  | 2 => exact xk_tc_2
  | 3 => exact xk_tc_3
  | 4 => exact xk_tc_4
  | 5 => exact xk_tc_5
  | 6 => exact xk_tc_6
  | 7 => exact xk_tc_7
  | 8 => exact xk_tc_8
  | 9 => exact xk_tc_9
  | 10 => exact xk_tc_10
  | 11 => exact xk_tc_11
  | 12 => exact xk_tc_12
  | 13 => exact xk_tc_13
  | c + 14 => rfl
theorem xk_ts {ci : Nat} {r : vw_C} (h : xt_cl[ci]? = some r) : (∀ k, k < r.2.2 → parseFieldDescriptor (r.2.1 k).2.2.1 = some (xt_ts ci k)) ∧ ∀ a, a < r.2.2 → ∀ b, b < r.2.2 → a ≠ b → (r.2.1 a).2.1 ≠ (r.2.1 b).2.1 := by
  have hc := xk_tcs ci
  unfold xk_tc at hc
  rw [h] at hc
  have hc := List.all_eq_true.mp hc
  refine ⟨fun k hk => ?_, fun a ha b hb hab => ?_⟩
  · have h1 := hc k (List.mem_range.mpr hk)
    rw [Bool.and_eq_true] at h1
    exact of_decide_eq_true h1.1
  · have h1 := hc a (List.mem_range.mpr ha)
    rw [Bool.and_eq_true] at h1
    have h2 := List.all_eq_true.mp h1.2 b (List.mem_range.mpr hb)
    intro e
    rw [Bool.or_eq_true] at h2
    rcases h2 with z | z
    · exact hab (Nat.eq_of_beq_eq_true z)
    · simp [e] at z
theorem xk_fty_of {ci j : Nat} {ty : FieldType} {fin : Option Nat} (h : xt_ftyF ci j = some (ty, fin)) : ∃ r, xt_cl[ci]? = some r ∧ j < r.2.2 ∧ ty = xt_ts ci j ∧ fin = (match (r.2.1 j).2.2.2 with
      | true => some (xt_co ci)
      | false => none) := by
  unfold xt_ftyF at h
  split at h
  · rename_i r hr
    split at h
    · rename_i hj
      cases h
      exact ⟨r, hr, by simpa [Nat.blt_eq] using hj, rfl, rfl⟩
    · cases h
  · cases h
theorem xk_okt (z : Value) : xx_okt (xt_P z) xt_cl := by
  intro ci j ty fin h
  obtain ⟨⟨C, T, N⟩, hr, hj, rfl, rfl⟩ := xk_fty_of h
  obtain ⟨h1, h2⟩ := xk_ts hr
  exact ⟨C, T, N, xt_ts ci, hr, h1, h2, h1 j hj, by dsimp only; cases (T j).2.2.2 <;> rfl⟩
def xk_p (e : Nat × Nat × Nat × Nat × String × Option String × (Nat × Nat) × (Nat × Nat)) : Bool := match xt_cl[e.2.2.1]? with
  | some r => !((r.2.1 e.2.2.2.1).2.2.2 && Nat.beq (xt_co e.2.2.1) e.1) || ((r.2.1 e.2.2.2.1).1 == xt_on e.1 && xk_w e.2.2.2.2.2.2.1 (.fieldLink (xt_on e.1) e.2.1 (xt_on e.1) (r.2.1 e.2.2.2.1).2.1 (r.2.1 e.2.2.2.1).2.2.1))
  | none => true
theorem xk_ps : xt_fld.all xk_p = true := by decide +kernel
theorem xk_okp (z : Value) : xx_okp (xt_P z) xt_cl xt_Ts xt_on := by
  intro o idx ci j ty h h2
  obtain ⟨e, he, rfl, rfl, rfl, rfl⟩ := xk_fld_of h
  obtain ⟨⟨C, T, N⟩, hr, hj, -, hf⟩ := xk_fty_of h2
  have hk := List.all_eq_true.mp xk_ps e he
  unfold xk_p at hk
  rw [hr] at hk
  dsimp only at hk hf
  cases hfin : (T e.2.2.2.1).2.2.2 with
  | false => rw [hfin] at hf; cases hf
  | true =>
    rw [hfin] at hf hk
    have hco : xt_co e.2.2.1 = e.1 := (Option.some.inj hf).symm
    rw [hco, Nat.beq_refl] at hk
    have hk : ((T e.2.2.2.1).1 == xt_on e.1 && xk_w e.2.2.2.2.2.2.1 (.fieldLink (xt_on e.1) e.2.1 (xt_on e.1) (T e.2.2.2.1).2.1 (T e.2.2.2.1).2.2.1)) = true := hk
    rw [Bool.and_eq_true] at hk
    exact ⟨C, T, N, hr, by simpa using hk.1, xk_w_ok hk.2⟩
def xk_new (e : Nat × Nat × Nat × (Nat × Nat) × (Nat × Nat) × (Nat × Nat)) : Bool := match xt_cl[e.2.2.1]? with
  | some r => xk_w e.2.2.2.1 (.classLink (xt_on e.1) e.2.1 r.1) && (xk_w e.2.2.2.2.1 (.instantiable r.1 r.2.2) && xk_w e.2.2.2.2.2 (.initialized r.1))
  | none => false
theorem xk_news : xt_cls.all xk_new = true := by decide +kernel
theorem xk_okn (z : Value) : xx_okn (xt_P z) xt_Ts xt_cl xt_on := by
  intro o idx ci h
  have h : xt_clsF o idx = some ci := h
  unfold xt_clsF at h
  obtain ⟨e, he, rfl⟩ := Option.map_eq_some_iff.mp h
  have h1 := List.find?_some he
  rw [Bool.and_eq_true] at h1
  obtain rfl := Nat.eq_of_beq_eq_true h1.1
  obtain rfl := Nat.eq_of_beq_eq_true h1.2
  have hk := List.all_eq_true.mp xk_news e (List.mem_of_find?_eq_some he)
  unfold xk_new at hk
  split at hk
  · rename_i r hr
    rw [Bool.and_eq_true, Bool.and_eq_true] at hk
    obtain ⟨C, T, N⟩ := r
    refine ⟨C, T, N, xt_ts e.2.2.1, hr, xk_w_ok hk.1, xk_w_ok hk.2.1, xk_w_ok hk.2.2, xk_cl hr, (xk_ts hr).1, ?_⟩
    show xt_dfl e.2.2.1 = _
    unfold xt_dfl
    rw [hr]
  · cases hk
def xk_con (e : Nat × Nat × Value × (Nat × Nat)) : Bool := match e.2.2.1 with
  | .int x => xk_w e.2.2.2 (.constant (xt_on e.1) e.2.1 x)
  | .long x => xk_w e.2.2.2 (.constantLong (xt_on e.1) e.2.1 x)
  | .ref i => xt_strs.any (fun q => q.1 == xt_on e.1 && (Nat.beq q.2.1 e.2.1 && Nat.beq q.2.2.2 i))
  | _ => false
theorem xk_cons : xt_con.all xk_con = true := by decide +kernel
theorem xk_okc (z : Value) : xx_okc (xt_P z) xt_Ts xt_on xt_strs := by
  intro o idx v h
  have h : xt_conF o idx = some v := h
  unfold xt_conF at h
  obtain ⟨e, he, rfl⟩ := Option.map_eq_some_iff.mp h
  have h1 := List.find?_some he
  rw [Bool.and_eq_true] at h1
  obtain rfl := Nat.eq_of_beq_eq_true h1.1
  obtain rfl := Nat.eq_of_beq_eq_true h1.2
  have hk := List.all_eq_true.mp xk_cons e (List.mem_of_find?_eq_some he)
  unfold xk_con at hk
  split at hk
  · rename_i x hx
    exact Or.inl ⟨x, hx, xk_w_ok hk⟩
  · rename_i x hx
    exact Or.inr (Or.inl ⟨x, hx, xk_w_ok hk⟩)
  · rename_i i hx
    obtain ⟨⟨q1, q2, q3, q4⟩, hq, hb⟩ := List.any_eq_true.mp hk
    rw [Bool.and_eq_true, Bool.and_eq_true] at hb
    have e1 : q1 = xt_on e.1 := by simpa using hb.1
    have e2 : q2 = e.2.1 := Nat.eq_of_beq_eq_true hb.2.1
    have e3 : q4 = i := Nat.eq_of_beq_eq_true hb.2.2
    subst e1 e2 e3
    exact Or.inr (Or.inr ⟨q4, q3, hx, hq⟩)
  · cases hk
def xk_sta (e : Nat × Nat × Nat × (Nat × Nat)) : Bool := match (xt_stv .null)[e.2.2.1]? with
  | some q => xk_w e.2.2.2 (.fieldLink (xt_on e.1) e.2.1 q.1 q.2.1 q.2.2.1) || xk_n e.2.2.2 (.fieldLinkNest (xt_on e.1) e.2.1 q.1 q.2.1 q.2.2.1 "ClauseKernel")
  | none => false
theorem xk_stas : xt_sta.all xk_sta = true := by decide +kernel
theorem xk_oks (z : Value) : xx_oks (xt_P z) xt_Ts xt_nst xt_on (xt_stv z) := by
  intro o idx v h
  have h0 : xt_staF z o idx = some v := h
  clear h
  unfold xt_staF at h0
  split at h0
  · rename_i e he
    have h1 := List.find?_some he
    rw [Bool.and_eq_true] at h1
    obtain rfl := Nat.eq_of_beq_eq_true h1.1
    obtain rfl := Nat.eq_of_beq_eq_true h1.2
    obtain ⟨q, hq, rfl⟩ := Option.map_eq_some_iff.mp h0
    have hk := List.all_eq_true.mp xk_stas e (List.mem_of_find?_eq_some he)
    unfold xk_sta at hk
    split at hk
    · rename_i q' hq'
      have hs : q'.1 = q.1 ∧ q'.2.1 = q.2.1 ∧ q'.2.2.1 = q.2.2.1 := by
        match hi : e.2.2.1 with
        | 0 => rw [hi] at hq hq'; cases hq; cases hq'; exact ⟨rfl, rfl, rfl⟩
        | 1 => rw [hi] at hq hq'; cases hq; cases hq'; exact ⟨rfl, rfl, rfl⟩
        | 2 => rw [hi] at hq hq'; cases hq; cases hq'; exact ⟨rfl, rfl, rfl⟩
        | 3 => rw [hi] at hq hq'; cases hq; cases hq'; exact ⟨rfl, rfl, rfl⟩
        | n + 4 => rw [hi] at hq; simp [xt_stv] at hq
      rw [hs.1, hs.2.1, hs.2.2] at hk
      rcases Bool.or_eq_true .. |>.mp hk with hk | hk
      · exact ⟨q.1, q.2.1, q.2.2.1, q.1, List.mem_of_getElem? hq, Or.inl rfl, Or.inl (xk_w_ok hk)⟩
      · exact ⟨q.1, q.2.1, q.2.2.1, q.1, List.mem_of_getElem? hq, Or.inl rfl, Or.inr ⟨_, xk_n_ok hk⟩⟩
    · cases hk
  · cases h0
theorem xk_once : (xk_w (xt_once.getD 0 (0, 0)) (.instanceMethod objectInit) && (xk_w (xt_once.getD 1 (0, 0)) (.code objectInit ⟨#[0xb1]⟩ 1 none) && (xk_w (xt_once.getD 2 (0, 0)) (.arrayClass .int) && (xk_w (xt_once.getD 3 (0, 0)) (.arrayClass .long) && xk_w (xt_once.getD 4 (0, 0)) (.arrayClass .boolean))))) = true := by decide +kernel
def xk_ao (C : String) : Nat × Nat := match C with
  | "java/lang/Object" => (4, 112)
  | "ClauseKernel$Term" => (4, 205)
  | "ClauseKernel$Clause" => (5, 126)
  | _ => (0, 0)
def xk_ac (e : Nat × Nat × FieldType × (Nat × Nat)) : Bool := match e.2.2.1 with
  | .object C => xk_w e.2.2.2 (.classLink (xt_on e.1) e.2.1 C) && xk_n (xk_ao C) (.arrayOver (.object C))
  | _ => false
theorem xk_acs : xt_acl.all xk_ac = true := by decide +kernel
theorem xk_okr (z : Value) : xx_okr (xt_P z) xt_Ts xt_nst xt_on := by
  intro o idx ty h
  have h : xt_aclF o idx = some ty := h
  unfold xt_aclF at h
  obtain ⟨e, he, rfl⟩ := Option.map_eq_some_iff.mp h
  have h1 := List.find?_some he
  rw [Bool.and_eq_true] at h1
  obtain rfl := Nat.eq_of_beq_eq_true h1.1
  obtain rfl := Nat.eq_of_beq_eq_true h1.2
  have hk := List.all_eq_true.mp xk_acs e (List.mem_of_find?_eq_some he)
  unfold xk_ac at hk
  split at hk
  · rename_i C hC
    rw [Bool.and_eq_true] at hk
    exact ⟨C, hC, xk_w_ok hk.1, xk_n_ok hk.2⟩
  · cases hk
theorem xk_cTO : xk_n (9, 125) (.castable "ClauseKernel$Thing" "java/lang/Object") = true := by decide +kernel
theorem xk_cTT : xk_n (9, 110) (.castable "ClauseKernel$Thing" "ClauseKernel$Thing") = true := by decide +kernel
theorem xk_okg (z : Value) : xx_okg (xt_P z) xt_nst xt_cl := by
  intro C ci h
  have h : xt_asg C ci = true := h
  unfold xt_asg at h
  split at h
  · rename_i r hr
    refine ⟨r, hr, ?_⟩
    rw [Bool.or_eq_true, Bool.and_eq_true] at h
    rcases h with h | ⟨h1, h2⟩
    · have e : C = r.1 := by simpa using h
      exact Or.inl e.symm
    · have e1 : C = "java/lang/Object" := by simpa using h1
      have e2 : r.1 = "ClauseKernel$Thing" := by simpa using h2
      rw [e1, e2]
      exact Or.inr (xk_n_ok xk_cTO)
  · cases h
def xk_ca (e : Nat × Nat × Nat × (Nat × Nat)) : Bool := match xt_cl[e.2.2.1]? with
  | some r => r.1 == "ClauseKernel$Thing" && xk_w e.2.2.2 (.classLink (xt_on e.1) e.2.1 "ClauseKernel$Thing")
  | none => false
theorem xk_cas : xt_cst.all xk_ca = true := by decide +kernel
theorem xk_okk (z : Value) : xx_okk (xt_P z) xt_Ts xt_nst xt_cl xt_on := by
  intro o idx ci h
  have h : xt_cstF o idx ci = true := h
  unfold xt_cstF at h
  obtain ⟨e, he⟩ := Option.isSome_iff_exists.mp h
  have h1 := List.find?_some he
  rw [Bool.and_eq_true, Bool.and_eq_true] at h1
  obtain rfl := Nat.eq_of_beq_eq_true h1.1
  obtain rfl := Nat.eq_of_beq_eq_true h1.2.1
  obtain rfl := Nat.eq_of_beq_eq_true h1.2.2
  have hk := List.all_eq_true.mp xk_cas e (List.mem_of_find?_eq_some he)
  unfold xk_ca at hk
  split at hk
  · rename_i r hr
    rw [Bool.and_eq_true] at hk
    have e2 : r.1 = "ClauseKernel$Thing" := by simpa using hk.1
    exact ⟨r, "ClauseKernel$Thing", hr, xk_w_ok hk.2, by rw [e2]; exact xk_n_ok xk_cTT⟩
  · cases hk
theorem xk_OKb (z : Value) : xx_OKb (xt_P z) xt_Ts xt_nst xt_cl xt_ol xt_on xt_strs (xt_stv z) := by
  have h := xk_once
  rw [Bool.and_eq_true, Bool.and_eq_true, Bool.and_eq_true, Bool.and_eq_true] at h
  exact ⟨xk_okf z, xk_okt z, xk_okp z, xk_okn z, xk_okc z, xk_oks z, ⟨xk_w_ok h.2.2.1, xk_w_ok h.2.2.2.1, xk_w_ok h.2.2.2.2⟩, xk_okg z, xk_okr z, xk_okk z, xk_nest⟩

