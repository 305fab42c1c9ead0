theorem xa_len {i : Instr} {pc pc' : Nat} {ls ls' : xx_L} {st st' : List Value} (hs : xa_step i pc ls st = some (pc', ls', st')) : ls'.length = ls.length := by
  have s1 : ∀ (j : Nat) (v : Value), (xx_set1 ls j v).length = ls.length := fun j v => xx_set1_len ls j v
  have s2 : ∀ (j : Nat) (v : Value), (xx_set2 ls j v).length = ls.length := fun j v => by simp [xx_set2, xx_set1_len]
  have j1 : ∀ {off : Int} {r : List Value}, xa_jmp pc off ls r = some (pc', ls', st') → ls'.length = ls.length := fun z => by rw [(xa_jmp_some z).2.1]
  have j2 : ∀ {b : Bool} {off : Int} {r : List Value}, xa_if b pc off ls r = some (pc', ls', st') → ls'.length = ls.length := fun z => by
    obtain ⟨t, -, -, e1, -⟩ := xa_if_some z
    rw [e1]
  cases i <;> simp only [xa_step, xa_ild, xa_lld, xa_ald, xa_ist, xa_lst, xa_ast, xa_inc, xa_ii, xa_iid, xa_ll, xa_lld0, xa_li, xa_i, xa_icmp, xa_ifc, xa_table, xa_look] at hs <;>
    (repeat' split at hs) <;>
    first
      | (cases hs; done)
      | (cases hs; rfl)
      | exact j1 hs
      | exact j2 hs
      | (obtain ⟨-, hs⟩ := xa_g_some hs; cases hs; rfl)
      | (obtain ⟨-, hs⟩ := xa_g_some hs; exact j1 hs)
      | (obtain ⟨-, hs⟩ := xa_g_some hs; cases hs; exact s1 _ _)
      | (obtain ⟨-, hs⟩ := xa_g_some hs; cases hs; exact s2 _ _)
      | (cases hs; exact s1 _ _)
theorem xo_mono {P : xx_P} {k : Nat} {i : Instr} {st st' : List Value} {h h' : xx_H} (hs : xo_step P k i st h = some (st', h')) : h.length ≤ h'.length ∧ xx_sz h ≤ xx_sz h' := by
  have e0 : h' = h → h.length ≤ h'.length ∧ xx_sz h ≤ xx_sz h' := fun z => by rw [z]; exact ⟨Nat.le_refl _, Nat.le_refl _⟩
  unfold xo_step at hs
  split at hs
  · split at hs
    · split at hs
      · split at hs
        · cases hs; exact e0 rfl
        · cases hs
      · cases hs
    · cases hs
  · split at hs
    · split at hs
      · split at hs
        · cases hs; exact e0 rfl
        · cases hs
      · cases hs
    · split at hs
      · split at hs
        · cases hs; exact e0 rfl
        · cases hs
      · cases hs
    · split at hs
      · split at hs
        · cases hs; exact e0 rfl
        · cases hs
      · cases hs
    · unfold xo_copy at hs
      split at hs
      · split at hs
        · split at hs
          · rename_i hb
            split at hs
            · rename_i hg
              simp only [Bool.and_eq_true] at hg
              cases hs
              rw [xx_sz_set hb (by
                show (xo_over _ _ _ _ _).length = _
                rw [xo_over_len (Nat.le_of_ble_eq_true hg.2.2.2.2.2.2.2.1) (Nat.le_of_ble_eq_true hg.2.2.2.2.2.2.2.2.1)]
                rfl)]
              simp
            · cases hs
          · cases hs
        · cases hs
      · cases hs
    · unfold xo_copyO at hs
      split at hs
      · split at hs
        · split at hs
          · cases hs
            rw [xx_sz_app]
            simp
          · cases hs
        · cases hs
      · cases hs
    · cases hs
  · cases hs
theorem xx_run_mono {P : xx_P} {Rc : Nat → List Value → xx_H → xx_R} (hR : ∀ q as h v h1, Rc q as h = some (v, h1) → h.length ≤ h1.length ∧ xx_sz h ≤ xx_sz h1) : ∀ (f k pc : Nat) (ls : xx_L) (st : List Value) (h : xx_H) (v : Option Value) (h1 : xx_H), xx_run P Rc f k pc ls st h = some (v, h1) → h.length ≤ h1.length ∧ xx_sz h ≤ xx_sz h1 := by
  intro f
  induction f with
  | zero => intro k pc ls st h v h1 hs; cases hs
  | succ f ih =>
    intro k pc ls st h v h1 hs
    unfold xx_run at hs
    split at hs
    · cases hs
    · split at hs
      · exact ih _ _ _ _ _ _ _ hs
      · split at hs
        · rename_i hb
          have e1 := xb_mono hb
          have e2 := ih _ _ _ _ _ _ _ hs
          exact ⟨Nat.le_trans e1.1 e2.1, Nat.le_trans e1.2 e2.2⟩
        · split at hs
          · rename_i ho
            have e1 := xo_mono ho
            have e2 := ih _ _ _ _ _ _ _ hs
            exact ⟨Nat.le_trans e1.1 e2.1, Nat.le_trans e1.2 e2.2⟩
          · split at hs
            · split at hs
              · rename_i hc
                have e1 := hR _ _ _ _ _ hc
                have e2 := ih _ _ _ _ _ _ _ hs
                exact ⟨Nat.le_trans e1.1 e2.1, Nat.le_trans e1.2 e2.2⟩
              · cases hs
            · split at hs
              · cases hs
                exact ⟨Nat.le_refl _, Nat.le_refl _⟩
              · cases hs
theorem xx_call_mono {P : xx_P} {F : Nat} : ∀ (d q : Nat) (as : List Value) (h : xx_H) (v : Option Value) (h1 : xx_H), xx_call P F d q as h = some (v, h1) → h.length ≤ h1.length ∧ xx_sz h ≤ xx_sz h1 := by
  intro d
  induction d with
  | zero => intro q as h v h1 hs; cases hs
  | succ d ih =>
    intro q as h v h1 hs
    unfold xx_call at hs
    split at hs
    · exact xx_run_mono ih _ _ _ _ _ _ _ _ hs
    · cases hs
theorem xc_okm {P : xx_P} {Ts nst : List Cond} {cl ol : List vw_C} {on : Nat → String} {nm : Nat → MethodName} {bt : Nat → ByteArray} {k q : Nat} {i : Instr} {st as r : List Value} {h : xx_H} (hok : xx_OKc P Ts nst cl ol on nm bt) (hs : xc_step P k i st h = some (q, as, r)) : xx_okm P Ts on nm bt q := by
  obtain ⟨-, -, oksm, okpm, okp0, okvm, -⟩ := hok
  cases i with
  | invokestatic n =>
    simp only [xc_step] at hs
    split at hs
    · rename_i q' n' hq
      obtain ⟨rfl, -⟩ := xc_cut_some hs
      exact (oksm _ _ _ _ hq).1
    · cases hs
  | invokespecial n =>
    simp only [xc_step] at hs
    split at hs
    · rename_i q' n' hq
      split at hs
      · obtain ⟨rfl, -⟩ := xc_cut_some hs
        have hpos := okp0 _ _ _ _ hq
        obtain ⟨n2, rfl⟩ : ∃ n2, n' = n2 + 1 := ⟨n' - 1, by omega⟩
        exact (okpm _ _ _ _ hq).1
      · cases hs
    · cases hs
  | invokevirtual n =>
    simp only [xc_step] at hs
    split at hs
    · rename_i n' lst hq
      split at hs
      · rename_i ci hci
        split at hs
        · rename_i q' hlook
          obtain ⟨rfl, -⟩ := xc_cut_some hs
          exact (okvm _ _ _ _ _ _ hq hlook).2.1
        · cases hs
      · cases hs
    · cases hs
  | _ => cases hs
theorem xx_args_len {ad : Nat → Nat} (as : List Value) : (lg_sl (as.map (xx_v ad))).length = (xx_args as).length := by
  induction as with
  | nil => rfl
  | cons v l ih => cases v <;> simp_all [lg_sl, xx_args, xx_v, Value.category]
theorem xx_args_at {ad : Nat → Nat} (as : List Value) : ∀ (n i : Nat) (v : Value), (xx_args as)[i]? = some (some v) → (n + i, xx_v ad v) ∈ lv_args n (as.map (xx_v ad)) := by
  induction as with
  | nil => intro n i v h; simp [xx_args] at h
  | cons a l ih =>
    intro n i v h
    by_cases hc : a.category = 2
    · have e1 : xx_args (a :: l) = some a :: none :: xx_args l := by cases a <;> first | rfl | cases hc
      rw [e1] at h
      have e2 : lv_args n ((a :: l).map (xx_v ad)) = (n, xx_v ad a) :: lv_args (n + 2) (l.map (xx_v ad)) := by
        show (n, xx_v ad a) :: lv_args (if (xx_v ad a).category = 2 then n + 2 else n + 1) (l.map (xx_v ad)) = _
        rw [xx_v_cat, if_pos hc]
      rw [e2]
      match i, h with
      | 0, h => simp at h; subst h; exact List.mem_cons_self
      | 1, h => simp at h
      | i + 2, h =>
        have h2 := ih (n + 2) i v (by simpa using h)
        rw [show n + (i + 2) = n + 2 + i by omega]
        exact List.mem_cons_of_mem _ h2
    · have e1 : xx_args (a :: l) = some a :: xx_args l := by cases a <;> first | rfl | exact absurd rfl hc
      rw [e1] at h
      have e2 : lv_args n ((a :: l).map (xx_v ad)) = (n, xx_v ad a) :: lv_args (n + 1) (l.map (xx_v ad)) := by
        show (n, xx_v ad a) :: lv_args (if (xx_v ad a).category = 2 then n + 2 else n + 1) (l.map (xx_v ad)) = _
        rw [xx_v_cat, if_neg hc]
      rw [e2]
      match i, h with
      | 0, h => simp at h; subst h; exact List.mem_cons_self
      | i + 1, h =>
        have h2 := ih (n + 1) i v (by simpa using h)
        rw [show n + (i + 1) = n + 1 + i by omega]
        exact List.mem_cons_of_mem _ h2
theorem xx_ent_len {n : Nat} {as : List Value} (h : (xx_args as).length ≤ n) : (xx_ent n as).length = n := by simp [xx_ent]; omega
theorem xx_ent_has {ad : Nat → Nat} {n : Nat} {as : List Value} {L : Array Slot} (hn : (xx_args as).length ≤ n) (h : lv_has L n (lv_args 0 (as.map (xx_v ad)))) : xx_has ad (xx_ent n as) L := by
  refine ⟨by rw [xx_ent_len hn]; exact h.1, h.2.1, fun i v hv => ?_⟩
  unfold xx_ent at hv
  by_cases hi : i < (xx_args as).length
  · rw [List.getElem?_append_left hi] at hv
    have := xx_args_at (ad := ad) as 0 i v hv
    rw [Nat.zero_add] at this
    exact h.2.2 _ this
  · rw [List.getElem?_append_right (Nat.le_of_not_lt hi)] at hv
    have := List.mem_of_getElem? hv
    rw [List.mem_replicate] at this
    cases this.2

