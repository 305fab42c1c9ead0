theorem xx_v_cat (ad : Nat → Nat) (v : Value) : (xx_v ad v).category = v.category := by cases v <;> rfl
def xx_has (ad : Nat → Nat) (ls : xx_L) (L : Array Slot) : Prop := L.size = ls.length ∧ lv_wf L ∧ ∀ (i : Nat) (v : Value), ls[i]? = some (some v) → L[i]? = some (.val (xx_v ad v))
def xx_prs (ad : Nat → Nat) (ls : xx_L) : List (Nat × Value) := (List.range ls.length).filterMap (fun i => match ls[i]? with
  | some (some v) => some (i, xx_v ad v)
  | _ => none)
theorem xx_prs_mem {ad : Nat → Nat} {ls : xx_L} {q : Nat × Value} : q ∈ xx_prs ad ls ↔ ∃ v, ls[q.1]? = some (some v) ∧ q.2 = xx_v ad v := by
  obtain ⟨i, w⟩ := q
  unfold xx_prs
  rw [List.mem_filterMap]
  constructor
  · rintro ⟨j, hj, h⟩
    split at h
    · rename_i v hv
      cases h
      exact ⟨v, hv, rfl⟩
    · cases h
  · rintro ⟨v, h1, h2⟩
    refine ⟨i, List.mem_range.mpr (List.getElem?_eq_some_iff.mp h1).1, ?_⟩
    dsimp only at h1 h2
    rw [h1, h2]
theorem xx_has_lv {ad : Nat → Nat} {ls : xx_L} {L : Array Slot} (h : xx_has ad ls L) : lv_has L ls.length (xx_prs ad ls) := ⟨h.1, h.2.1, fun q hq => by
  obtain ⟨v, h1, h2⟩ := xx_prs_mem.mp hq
  rw [h2]
  exact h.2.2 q.1 v h1⟩
theorem xx_set1_len (ls : xx_L) (i : Nat) (v : Value) : (xx_set1 ls i v).length = ls.length := by
  induction ls generalizing i with
  | nil => rfl
  | cons x l ih =>
    match i with
    | 0 => rfl
    | 1 => simp [xx_set1, ih]
    | i + 2 => simp [xx_set1, ih]
theorem xx_set1_get {ls : xx_L} {i : Nat} (v : Value) (hi : i < ls.length) (j : Nat) : (xx_set1 ls i v)[j]? = if j = i then some (some v) else if j + 1 = i then ls[j]?.map xx_kill else ls[j]? := by
  induction ls generalizing i j with
  | nil => simp at hi
  | cons x l ih =>
    match i, hi with
    | 0, _ => cases j with
      | zero => simp [xx_set1]
      | succ j => simp [xx_set1]
    | 1, hi => cases j with
      | zero => simp [xx_set1]
      | succ j =>
        have h := ih (i := 0) (by simpa using hi) j
        simp [xx_set1, h]
    | i + 2, hi => cases j with
      | zero => simp [xx_set1]
      | succ j =>
        have h := ih (i := i + 1) (by simp at hi; omega) j
        simp [xx_set1, h]
theorem xx_kill_some {x : Option Value} {w : Value} (h : xx_kill x = some w) : x = some w ∧ w.category = 1 := by
  cases x with
  | none => cases h
  | some v => cases v <;> first | (cases h; exact ⟨rfl, rfl⟩) | cases h
theorem xx_has_set1 {ad : Nat → Nat} {ls : xx_L} {L' : Array Slot} {j : Nat} {v : Value} (hj : j < ls.length)
    (h : lv_has L' ls.length ((j, xx_v ad v) :: (xx_prs ad ls).filter (fun q => !(q.1 == j) && !(q.1 + 1 == j && q.2.category == 2)))) : xx_has ad (xx_set1 ls j v) L' := by
  refine ⟨h.1.trans (xx_set1_len ls j v).symm, h.2.1, fun i w hw => ?_⟩
  rw [xx_set1_get v hj] at hw
  split at hw
  · rename_i e
    subst e
    cases hw
    exact h.2.2 (i, xx_v ad v) List.mem_cons_self
  · rename_i e
    refine h.2.2 (i, xx_v ad w) (List.mem_cons_of_mem _ (List.mem_filter.mpr ?_))
    split at hw
    · rename_i e2
      obtain ⟨x, hx, hk⟩ := Option.map_eq_some_iff.mp hw
      obtain ⟨rfl, hc⟩ := xx_kill_some hk
      exact ⟨xx_prs_mem.mpr ⟨w, hx, rfl⟩, by simp [e, xx_v_cat, hc]⟩
    · rename_i e2
      exact ⟨xx_prs_mem.mpr ⟨w, hw, rfl⟩, by simp [e, e2]⟩
theorem xx_has_set2 {ad : Nat → Nat} {ls : xx_L} {L' : Array Slot} {j : Nat} {v : Value} (hj : j + 1 < ls.length)
    (h : lv_has L' ls.length ((j, xx_v ad v) :: (xx_prs ad ls).filter (fun q => !(q.1 == j) && (!(q.1 == j + 1) && !(q.1 + 1 == j && q.2.category == 2))))) : xx_has ad (xx_set2 ls j v) L' := by
  refine ⟨h.1.trans (by simp [xx_set2, xx_set1_len]), h.2.1, fun i w hw => ?_⟩
  unfold xx_set2 at hw
  rw [List.getElem?_set] at hw
  split at hw
  · rename_i e
    split at hw
    · cases hw
    · cases hw
  · rename_i e0
    rw [xx_set1_get v (Nat.lt_of_succ_lt hj)] at hw
    split at hw
    · rename_i e
      subst e
      cases hw
      exact h.2.2 (i, xx_v ad v) List.mem_cons_self
    · rename_i e
      refine h.2.2 (i, xx_v ad w) (List.mem_cons_of_mem _ (List.mem_filter.mpr ?_))
      have e0' : ¬ i = j + 1 := fun z => e0 z.symm
      split at hw
      · rename_i e2
        obtain ⟨x, hx, hk⟩ := Option.map_eq_some_iff.mp hw
        obtain ⟨rfl, hc⟩ := xx_kill_some hk
        exact ⟨xx_prs_mem.mpr ⟨w, hx, rfl⟩, by simp [e, e0', xx_v_cat, hc]⟩
      · rename_i e2
        exact ⟨xx_prs_mem.mpr ⟨w, hw, rfl⟩, by simp [e, e0', e2]⟩
theorem xa_g_some {α : Type} {b : Bool} {x : Option α} {y : α} (h : xa_g b x = some y) : b = true ∧ x = some y := by
  cases b with
  | true => exact ⟨rfl, h⟩
  | false => cases h
theorem xa_br_some {pc t : Nat} {off : Int} (h : xa_br pc off = some t) : (pc : Int) + off = (t : Int) := by
  unfold xa_br at h
  split at h
  · rename_i a ha
    cases h
    exact ha
  · cases h
theorem xa_jmp_some {pc pc' : Nat} {off : Int} {ls ls' : xx_L} {st st' : List Value} (h : xa_jmp pc off ls st = some (pc', ls', st')) : (pc : Int) + off = (pc' : Int) ∧ ls' = ls ∧ st' = st := by
  unfold xa_jmp at h
  split at h
  · rename_i t ht
    cases h
    exact ⟨xa_br_some ht, rfl, rfl⟩
  · cases h
theorem xa_if_some {b : Bool} {pc pc' : Nat} {off : Int} {ls ls' : xx_L} {st st' : List Value} (h : xa_if b pc off ls st = some (pc', ls', st')) :
    ∃ t : Nat, (pc : Int) + off = (t : Int) ∧ ((b = true ∧ pc' = t) ∨ (b = false ∧ pc' = pc + 3)) ∧ ls' = ls ∧ st' = st := by
  unfold xa_if at h
  split at h
  · cases h
  · rename_i t ht
    refine ⟨t, xa_br_some ht, ?_⟩
    cases b with
    | true => cases h; exact ⟨Or.inl ⟨rfl, rfl⟩, rfl, rfl⟩
    | false => cases h; exact ⟨Or.inr ⟨rfl, rfl⟩, rfl, rfl⟩
section XXA
variable {p : Program} {l : Launch} {e : Env} {R : Room} {s : State} {m : MethodId} {args : Array Value} {below : List Frame} {meth : Method} {c : Code} {H : Heap} {locs : List Loc} {cells slots : Nat} {Q : State → Prop}
variable {cc : ByteArray} {pc pc' : Nat} {ls ls' : xx_L} {st st' : List Value} {L : Array Slot} {ad : Nat → Nat}
theorem xa_ild_ok {j n : Nat} (hs : xa_ild j n pc ls st = some (pc', ls', st')) (row : ∀ x : Int32, L[j]? = some (.val (.int x)) → W p l e R s m args below meth c H locs cells slots Q (F0 m (pc + n) L (.int x :: st.map (xx_v ad))) → W p l e R s m args below meth c H locs cells slots Q (F0 m pc L (st.map (xx_v ad)))) (hL : xx_has ad ls L) (kk : ∀ L1 : Array Slot, xx_has ad ls' L1 → W p l e R s m args below meth c H locs cells slots Q (F0 m pc' L1 (st'.map (xx_v ad)))) : W p l e R s m args below meth c H locs cells slots Q (F0 m pc L (st.map (xx_v ad))) := by
  unfold xa_ild at hs
  split at hs
  · rename_i x hx
    cases hs
    exact row x (hL.2.2 _ _ hx) (kk L hL)
  · cases hs
theorem xa_lld_ok {j n : Nat} (hs : xa_lld j n pc ls st = some (pc', ls', st')) (row : ∀ x : Int64, L[j]? = some (.val (.long x)) → W p l e R s m args below meth c H locs cells slots Q (F0 m (pc + n) L (.long x :: st.map (xx_v ad))) → W p l e R s m args below meth c H locs cells slots Q (F0 m pc L (st.map (xx_v ad)))) (hL : xx_has ad ls L) (kk : ∀ L1 : Array Slot, xx_has ad ls' L1 → W p l e R s m args below meth c H locs cells slots Q (F0 m pc' L1 (st'.map (xx_v ad)))) : W p l e R s m args below meth c H locs cells slots Q (F0 m pc L (st.map (xx_v ad))) := by
  unfold xa_lld at hs
  split at hs
  · rename_i x hx
    cases hs
    exact row x (hL.2.2 _ _ hx) (kk L hL)
  · cases hs
theorem xa_ald_ok {j n : Nat} (hs : xa_ald j n pc ls st = some (pc', ls', st')) (row : ∀ x : Nat, L[j]? = some (.val (.ref x)) → W p l e R s m args below meth c H locs cells slots Q (F0 m (pc + n) L (.ref x :: st.map (xx_v ad))) → W p l e R s m args below meth c H locs cells slots Q (F0 m pc L (st.map (xx_v ad)))) (rowN : L[j]? = some (.val .null) → W p l e R s m args below meth c H locs cells slots Q (F0 m (pc + n) L (.null :: st.map (xx_v ad))) → W p l e R s m args below meth c H locs cells slots Q (F0 m pc L (st.map (xx_v ad)))) (hL : xx_has ad ls L) (kk : ∀ L1 : Array Slot, xx_has ad ls' L1 → W p l e R s m args below meth c H locs cells slots Q (F0 m pc' L1 (st'.map (xx_v ad)))) : W p l e R s m args below meth c H locs cells slots Q (F0 m pc L (st.map (xx_v ad))) := by
  unfold xa_ald at hs
  split at hs
  · rename_i x hx
    cases hs
    exact row (ad x) (hL.2.2 _ _ hx) (kk L hL)
  · rename_i hx
    cases hs
    exact rowN (hL.2.2 _ _ hx) (kk L hL)
  · cases hs
theorem xa_ist_ok {j n : Nat} (hs : xa_ist j n pc ls st = some (pc', ls', st')) (row : ∀ (x : Int32) (rest : List Value), j < ls.length → (∀ L1 : Array Slot, lv_has L1 ls.length ((j, .int x) :: (xx_prs ad ls).filter (fun q => !(q.1 == j) && !(q.1 + 1 == j && q.2.category == 2))) → W p l e R s m args below meth c H locs cells slots Q (F0 m (pc + n) L1 rest)) → W p l e R s m args below meth c H locs cells slots Q (F0 m pc L (.int x :: rest))) (hL : xx_has ad ls L) (kk : ∀ L1 : Array Slot, xx_has ad ls' L1 → W p l e R s m args below meth c H locs cells slots Q (F0 m pc' L1 (st'.map (xx_v ad)))) : W p l e R s m args below meth c H locs cells slots Q (F0 m pc L (st.map (xx_v ad))) := by
  unfold xa_ist at hs
  split at hs
  · rename_i x r
    obtain ⟨hj, hs⟩ := xa_g_some hs
    have hj : j < ls.length := by simpa [Nat.blt_eq] using hj
    cases hs
    exact row x _ hj (fun L1 h => kk L1 (xx_has_set1 (v := .int x) hj h))
  · cases hs
theorem xa_lst_ok {j n : Nat} (hs : xa_lst j n pc ls st = some (pc', ls', st')) (row : ∀ (x : Int64) (rest : List Value), j + 1 < ls.length → (∀ L1 : Array Slot, lv_has L1 ls.length ((j, .long x) :: (xx_prs ad ls).filter (fun q => !(q.1 == j) && (!(q.1 == j + 1) && !(q.1 + 1 == j && q.2.category == 2)))) → W p l e R s m args below meth c H locs cells slots Q (F0 m (pc + n) L1 rest)) → W p l e R s m args below meth c H locs cells slots Q (F0 m pc L (.long x :: rest))) (hL : xx_has ad ls L) (kk : ∀ L1 : Array Slot, xx_has ad ls' L1 → W p l e R s m args below meth c H locs cells slots Q (F0 m pc' L1 (st'.map (xx_v ad)))) : W p l e R s m args below meth c H locs cells slots Q (F0 m pc L (st.map (xx_v ad))) := by
  unfold xa_lst at hs
  split at hs
  · rename_i x r
    obtain ⟨hj, hs⟩ := xa_g_some hs
    have hj : j + 1 < ls.length := by simpa [Nat.blt_eq] using hj
    cases hs
    exact row x _ hj (fun L1 h => kk L1 (xx_has_set2 (v := .long x) hj h))
  · cases hs
theorem xa_ast_ok {j n : Nat} (hs : xa_ast j n pc ls st = some (pc', ls', st')) (row : ∀ (x : Nat) (rest : List Value), j < ls.length → (∀ L1 : Array Slot, lv_has L1 ls.length ((j, .ref x) :: (xx_prs ad ls).filter (fun q => !(q.1 == j) && !(q.1 + 1 == j && q.2.category == 2))) → W p l e R s m args below meth c H locs cells slots Q (F0 m (pc + n) L1 rest)) → W p l e R s m args below meth c H locs cells slots Q (F0 m pc L (.ref x :: rest))) (rowN : ∀ (rest : List Value), j < ls.length → (∀ L1 : Array Slot, lv_has L1 ls.length ((j, .null) :: (xx_prs ad ls).filter (fun q => !(q.1 == j) && !(q.1 + 1 == j && q.2.category == 2))) → W p l e R s m args below meth c H locs cells slots Q (F0 m (pc + n) L1 rest)) → W p l e R s m args below meth c H locs cells slots Q (F0 m pc L (.null :: rest))) (hL : xx_has ad ls L) (kk : ∀ L1 : Array Slot, xx_has ad ls' L1 → W p l e R s m args below meth c H locs cells slots Q (F0 m pc' L1 (st'.map (xx_v ad)))) : W p l e R s m args below meth c H locs cells slots Q (F0 m pc L (st.map (xx_v ad))) := by
  unfold xa_ast at hs
  split at hs
  · rename_i x r
    obtain ⟨hj, hs⟩ := xa_g_some hs
    have hj : j < ls.length := by simpa [Nat.blt_eq] using hj
    cases hs
    exact row (ad x) _ hj (fun L1 h => kk L1 (xx_has_set1 (v := .ref x) hj h))
  · rename_i r
    obtain ⟨hj, hs⟩ := xa_g_some hs
    have hj : j < ls.length := by simpa [Nat.blt_eq] using hj
    cases hs
    exact rowN _ hj (fun L1 h => kk L1 (xx_has_set1 (v := .null) hj h))
  · cases hs
theorem xa_inc_ok {j : Nat} {n : Int} (hexec : p.tables.exec = Jvm.exec) (hb : c.code = cc) (hdg : decode cc pc = .ok (.iinc j n, 3)) (hs : xa_inc j n pc ls st = some (pc', ls', st')) (hL : xx_has ad ls L) (kk : ∀ L1 : Array Slot, xx_has ad ls' L1 → W p l e R s m args below meth c H locs cells slots Q (F0 m pc' L1 (st'.map (xx_v ad)))) : W p l e R s m args below meth c H locs cells slots Q (F0 m pc L (st.map (xx_v ad))) := by
  unfold xa_inc at hs
  split at hs
  · rename_i x hx
    cases hs
    have hj : j < ls.length := (List.getElem?_eq_some_iff.mp hx).1
    obtain ⟨k, hk⟩ := List.getElem?_of_mem (xx_prs_mem (q := (j, .int x)).mpr ⟨.int x, hx, rfl⟩)
    exact lv_iinc hexec hb hdg (xx_has_lv hL) hk rfl hj rfl (fun L1 h => kk L1 (xx_has_set1 (v := .int (x + Int32.ofInt n)) hj h))
  · cases hs
theorem xa_ii_ok {f : Int32 → Int32 → Int32} (hs : xa_ii pc ls st f = some (pc', ls', st')) (row : ∀ (x y : Int32) (rest : List Value), W p l e R s m args below meth c H locs cells slots Q (F0 m (pc + 1) L (.int (f x y) :: rest)) → W p l e R s m args below meth c H locs cells slots Q (F0 m pc L (.int y :: .int x :: rest))) (hL : xx_has ad ls L) (kk : ∀ L1 : Array Slot, xx_has ad ls' L1 → W p l e R s m args below meth c H locs cells slots Q (F0 m pc' L1 (st'.map (xx_v ad)))) : W p l e R s m args below meth c H locs cells slots Q (F0 m pc L (st.map (xx_v ad))) := by
  unfold xa_ii at hs
  split at hs
  · rename_i y x r
    cases hs
    exact row x y (r.map (xx_v ad)) (kk L hL)
  · cases hs
theorem xa_iid_ok {f : Int32 → Int32 → Int32} (hs : xa_iid pc ls st f = some (pc', ls', st')) (row : ∀ (x y : Int32) (rest : List Value), ¬ y = 0 → W p l e R s m args below meth c H locs cells slots Q (F0 m (pc + 1) L (.int (f x y) :: rest)) → W p l e R s m args below meth c H locs cells slots Q (F0 m pc L (.int y :: .int x :: rest))) (hL : xx_has ad ls L) (kk : ∀ L1 : Array Slot, xx_has ad ls' L1 → W p l e R s m args below meth c H locs cells slots Q (F0 m pc' L1 (st'.map (xx_v ad)))) : W p l e R s m args below meth c H locs cells slots Q (F0 m pc L (st.map (xx_v ad))) := by
  unfold xa_iid at hs
  split at hs
  · rename_i y x r
    obtain ⟨h0, hs⟩ := xa_g_some hs
    have h0 : ¬ y = 0 := of_decide_eq_true h0
    cases hs
    exact row x y (r.map (xx_v ad)) h0 (kk L hL)
  · cases hs
theorem xa_ll_ok {f : Int64 → Int64 → Int64} (hs : xa_ll pc ls st f = some (pc', ls', st')) (row : ∀ (x y : Int64) (rest : List Value), W p l e R s m args below meth c H locs cells slots Q (F0 m (pc + 1) L (.long (f x y) :: rest)) → W p l e R s m args below meth c H locs cells slots Q (F0 m pc L (.long y :: .long x :: rest))) (hL : xx_has ad ls L) (kk : ∀ L1 : Array Slot, xx_has ad ls' L1 → W p l e R s m args below meth c H locs cells slots Q (F0 m pc' L1 (st'.map (xx_v ad)))) : W p l e R s m args below meth c H locs cells slots Q (F0 m pc L (st.map (xx_v ad))) := by
  unfold xa_ll at hs
  split at hs
  · rename_i y x r
    cases hs
    exact row x y (r.map (xx_v ad)) (kk L hL)
  · cases hs
theorem xa_lld0_ok {f : Int64 → Int64 → Int64} (hs : xa_lld0 pc ls st f = some (pc', ls', st')) (row : ∀ (x y : Int64) (rest : List Value), ¬ y = 0 → W p l e R s m args below meth c H locs cells slots Q (F0 m (pc + 1) L (.long (f x y) :: rest)) → W p l e R s m args below meth c H locs cells slots Q (F0 m pc L (.long y :: .long x :: rest))) (hL : xx_has ad ls L) (kk : ∀ L1 : Array Slot, xx_has ad ls' L1 → W p l e R s m args below meth c H locs cells slots Q (F0 m pc' L1 (st'.map (xx_v ad)))) : W p l e R s m args below meth c H locs cells slots Q (F0 m pc L (st.map (xx_v ad))) := by
  unfold xa_lld0 at hs
  split at hs
  · rename_i y x r
    obtain ⟨h0, hs⟩ := xa_g_some hs
    have h0 : ¬ y = 0 := of_decide_eq_true h0
    cases hs
    exact row x y (r.map (xx_v ad)) h0 (kk L hL)
  · cases hs
theorem xa_li_ok {f : Int64 → Int32 → Int64} (hs : xa_li pc ls st f = some (pc', ls', st')) (row : ∀ (x : Int64) (y : Int32) (rest : List Value), W p l e R s m args below meth c H locs cells slots Q (F0 m (pc + 1) L (.long (f x y) :: rest)) → W p l e R s m args below meth c H locs cells slots Q (F0 m pc L (.int y :: .long x :: rest))) (hL : xx_has ad ls L) (kk : ∀ L1 : Array Slot, xx_has ad ls' L1 → W p l e R s m args below meth c H locs cells slots Q (F0 m pc' L1 (st'.map (xx_v ad)))) : W p l e R s m args below meth c H locs cells slots Q (F0 m pc L (st.map (xx_v ad))) := by
  unfold xa_li at hs
  split at hs
  · rename_i y x r
    cases hs
    exact row x y (r.map (xx_v ad)) (kk L hL)
  · cases hs
theorem xa_i_ok {f : Int32 → Int32} (hs : xa_i pc ls st f = some (pc', ls', st')) (row : ∀ (x : Int32) (rest : List Value), W p l e R s m args below meth c H locs cells slots Q (F0 m (pc + 1) L (.int (f x) :: rest)) → W p l e R s m args below meth c H locs cells slots Q (F0 m pc L (.int x :: rest))) (hL : xx_has ad ls L) (kk : ∀ L1 : Array Slot, xx_has ad ls' L1 → W p l e R s m args below meth c H locs cells slots Q (F0 m pc' L1 (st'.map (xx_v ad)))) : W p l e R s m args below meth c H locs cells slots Q (F0 m pc L (st.map (xx_v ad))) := by
  unfold xa_i at hs
  split at hs
  · rename_i x r
    cases hs
    exact row x (r.map (xx_v ad)) (kk L hL)
  · cases hs
theorem xa_two {P : Prop} [Decidable P] {t : Nat} {rest : List Value} (h : (decide P = true ∧ pc' = t) ∨ (decide P = false ∧ pc' = pc + 3)) (k : W p l e R s m args below meth c H locs cells slots Q (F0 m pc' L rest)) : (P → W p l e R s m args below meth c H locs cells slots Q (F0 m t L rest)) ∧ (¬ P → W p l e R s m args below meth c H locs cells slots Q (F0 m (pc + 3) L rest)) := by
  rcases h with ⟨h1, h2⟩ | ⟨h1, h2⟩
  · subst h2
    exact ⟨fun _ => k, fun h => absurd (of_decide_eq_true h1) h⟩
  · subst h2
    exact ⟨fun h => absurd h (of_decide_eq_false h1), fun _ => k⟩
theorem xa_icmp_ok {c0 : Jvm.ClassFile.Cond} {off : Int} (hexec : p.tables.exec = Jvm.exec) (hb : c.code = cc) (hdg : decode cc pc = .ok (.if_icmp c0 off, 3)) (hs : xa_icmp c0 off pc ls st = some (pc', ls', st')) (hL : xx_has ad ls L) (kk : ∀ L1 : Array Slot, xx_has ad ls' L1 → W p l e R s m args below meth c H locs cells slots Q (F0 m pc' L1 (st'.map (xx_v ad)))) : W p l e R s m args below meth c H locs cells slots Q (F0 m pc L (st.map (xx_v ad))) := by
  unfold xa_icmp at hs
  split at hs
  · rename_i y x r
    obtain ⟨t, ht, hc, rfl, rfl⟩ := xa_if_some hs
    have k := kk L hL
    cases c0 with
    | eq => exact lv_icmp_eq hexec hb hdg ht (xa_two hc k).1 (xa_two hc k).2
    | ne => exact lv_icmp_ne hexec hb hdg ht (xa_two hc k).1 (fun h => (xa_two hc k).2 (fun z => z h))
    | lt => exact lv_icmp_lt hexec hb hdg ht (xa_two hc k).1 (xa_two hc k).2
    | ge => exact lv_icmp_ge hexec hb hdg ht (xa_two hc k).1 (xa_two hc k).2
    | gt => exact lv_icmp_gt hexec hb hdg ht (xa_two hc k).1 (xa_two hc k).2
    | le => exact lv_icmp_le hexec hb hdg ht (xa_two hc k).1 (xa_two hc k).2
  · cases hs
theorem xa_ifc_ok {c0 : Jvm.ClassFile.Cond} {off : Int} (hexec : p.tables.exec = Jvm.exec) (hb : c.code = cc) (hdg : decode cc pc = .ok (.ifCond c0 off, 3)) (hs : xa_ifc c0 off pc ls st = some (pc', ls', st')) (hL : xx_has ad ls L) (kk : ∀ L1 : Array Slot, xx_has ad ls' L1 → W p l e R s m args below meth c H locs cells slots Q (F0 m pc' L1 (st'.map (xx_v ad)))) : W p l e R s m args below meth c H locs cells slots Q (F0 m pc L (st.map (xx_v ad))) := by
  unfold xa_ifc at hs
  split at hs
  · rename_i x r
    obtain ⟨t, ht, hc, rfl, rfl⟩ := xa_if_some hs
    have k := kk L hL
    cases c0 with
    | eq => exact lv_if_eq hexec hb hdg ht (xa_two hc k).1 (xa_two hc k).2
    | ne => exact lv_if_ne hexec hb hdg ht (xa_two hc k).1 (fun h => (xa_two hc k).2 (fun z => z h))
    | lt => exact lv_if_lt hexec hb hdg ht (xa_two hc k).1 (xa_two hc k).2
    | ge => exact lv_if_ge hexec hb hdg ht (xa_two hc k).1 (xa_two hc k).2
    | gt => exact lv_if_gt hexec hb hdg ht (xa_two hc k).1 (xa_two hc k).2
    | le => exact lv_if_le hexec hb hdg ht (xa_two hc k).1 (xa_two hc k).2
  · cases hs
theorem xa_table_ok {d lo hi : Int} {offs : Array Int} (hexec : p.tables.exec = Jvm.exec) (hb : c.code = cc) {len : Nat} (hdg : decode cc pc = .ok (.tableswitch d lo hi offs, len)) (hs : xa_table d lo hi offs pc ls st = some (pc', ls', st')) (hL : xx_has ad ls L) (kk : ∀ L1 : Array Slot, xx_has ad ls' L1 → W p l e R s m args below meth c H locs cells slots Q (F0 m pc' L1 (st'.map (xx_v ad)))) : W p l e R s m args below meth c H locs cells slots Q (F0 m pc L (st.map (xx_v ad))) := by
  unfold xa_table at hs
  split at hs
  · rename_i x r
    split at hs
    · rename_i h
      obtain ⟨ht, rfl, rfl⟩ := xa_jmp_some hs
      exact lv_tableOut hexec hb hdg h ht (kk L hL)
    · rename_i h
      split at hs
      · rename_i off ho
        obtain ⟨ht, rfl, rfl⟩ := xa_jmp_some hs
        exact lv_tableIn hexec hb hdg (fun z => h (Or.inl z)) (fun z => h (Or.inr z)) ho ht (kk L hL)
      · cases hs
  · cases hs
theorem xa_look_ok {d : Int} {ps : Array (Int × Int)} (hexec : p.tables.exec = Jvm.exec) (hb : c.code = cc) {len : Nat} (hdg : decode cc pc = .ok (.lookupswitch d ps, len)) (hs : xa_look d ps pc ls st = some (pc', ls', st')) (hL : xx_has ad ls L) (kk : ∀ L1 : Array Slot, xx_has ad ls' L1 → W p l e R s m args below meth c H locs cells slots Q (F0 m pc' L1 (st'.map (xx_v ad)))) : W p l e R s m args below meth c H locs cells slots Q (F0 m pc L (st.map (xx_v ad))) := by
  unfold xa_look at hs
  split at hs
  · rename_i x r
    obtain ⟨hp, hs⟩ := xa_g_some hs
    obtain ⟨ht, rfl, rfl⟩ := xa_jmp_some hs
    exact lv_lookup hexec hb hdg hp rfl ht (kk L hL)
  · cases hs
set_option maxHeartbeats 4000000 in
theorem xa_sound {i : Instr} (hexec : p.tables.exec = Jvm.exec) (hb : c.code = cc) (hdg : xx_dec cc pc i) (hs : xa_step i pc ls st = some (pc', ls', st')) (hL : xx_has ad ls L) (kk : ∀ L1 : Array Slot, xx_has ad ls' L1 → W p l e R s m args below meth c H locs cells slots Q (F0 m pc' L1 (st'.map (xx_v ad)))) : W p l e R s m args below meth c H locs cells slots Q (F0 m pc L (st.map (xx_v ad))) := by
  cases i with
  | aconst_null => cases hs; exact lv_null hexec hb (xx_dec1 hdg rfl) (kk L hL)
  | iconst n => cases hs; exact lv_iconst hexec hb (xx_dec1 hdg rfl) rfl (kk L hL)
  | lconst n => cases hs; exact lv_lconst hexec hb (xx_dec1 hdg rfl) rfl (kk L hL)
  | bipush n => cases hs; exact lv_bipush hexec hb (xx_dec1 hdg rfl) rfl (kk L hL)
  | sipush n => cases hs; exact lv_sipush hexec hb (xx_dec1 hdg rfl) rfl (kk L hL)
  | iload j => exact xa_ild_ok hs (fun x h k => lv_iload hexec hb (xx_dec1 hdg rfl) h k) hL kk
  | iload_n j => exact xa_ild_ok hs (fun x h k => lv_iload_n hexec hb (xx_dec1 hdg rfl) rfl h k) hL kk
  | lload j => exact xa_lld_ok hs (fun x h k => lv_lload hexec hb (xx_dec1 hdg rfl) h k) hL kk
  | lload_n j => exact xa_lld_ok hs (fun x h k => lv_lload_n hexec hb (xx_dec1 hdg rfl) rfl h k) hL kk
  | aload j => exact xa_ald_ok hs (fun x h k => lv_aload hexec hb (xx_dec1 hdg rfl) h k) (fun h k => lv_aloadN hexec hb (xx_dec1 hdg rfl) h k) hL kk
  | aload_n j => exact xa_ald_ok hs (fun x h k => lv_aload_n hexec hb (xx_dec1 hdg rfl) rfl h k) (fun h k => lv_aload_nN hexec hb (xx_dec1 hdg rfl) rfl h k) hL kk
  | istore j => exact xa_ist_ok hs (fun x rest hj k => lv_istore hexec hb (xx_dec1 hdg rfl) (xx_has_lv hL) hj rfl k) hL kk
  | istore_n j => exact xa_ist_ok hs (fun x rest hj k => lv_istore_n hexec hb (xx_dec1 hdg rfl) rfl (xx_has_lv hL) hj rfl k) hL kk
  | lstore j => exact xa_lst_ok hs (fun x rest hj k => lv_lstore hexec hb (xx_dec1 hdg rfl) (xx_has_lv hL) hj rfl k) hL kk
  | lstore_n j => exact xa_lst_ok hs (fun x rest hj k => lv_lstore_n hexec hb (xx_dec1 hdg rfl) rfl (xx_has_lv hL) hj rfl k) hL kk
  | astore j => exact xa_ast_ok hs (fun x rest hj k => lv_astore hexec hb (xx_dec1 hdg rfl) (xx_has_lv hL) hj rfl k) (fun rest hj k => lv_astoreN hexec hb (xx_dec1 hdg rfl) (xx_has_lv hL) hj rfl k) hL kk
  | astore_n j => exact xa_ast_ok hs (fun x rest hj k => lv_astore_n hexec hb (xx_dec1 hdg rfl) rfl (xx_has_lv hL) hj rfl k) (fun rest hj k => lv_astore_nN hexec hb (xx_dec1 hdg rfl) rfl (xx_has_lv hL) hj rfl k) hL kk
  | iinc j n => exact xa_inc_ok hexec hb (xx_dec1 hdg rfl) hs hL kk
  | iadd => exact xa_ii_ok hs (fun x y rest k => lv_iadd hexec hb (xx_dec1 hdg rfl) k) hL kk
  | isub => exact xa_ii_ok hs (fun x y rest k => lv_isub hexec hb (xx_dec1 hdg rfl) k) hL kk
  | imul => exact xa_ii_ok hs (fun x y rest k => lv_imul hexec hb (xx_dec1 hdg rfl) k) hL kk
  | iand => exact xa_ii_ok hs (fun x y rest k => lv_iand hexec hb (xx_dec1 hdg rfl) k) hL kk
  | ior => exact xa_ii_ok hs (fun x y rest k => lv_ior hexec hb (xx_dec1 hdg rfl) k) hL kk
  | ixor => exact xa_ii_ok hs (fun x y rest k => lv_ixor hexec hb (xx_dec1 hdg rfl) k) hL kk
  | ishl => exact xa_ii_ok hs (fun x y rest k => lv_ishl hexec hb (xx_dec1 hdg rfl) k) hL kk
  | ishr => exact xa_ii_ok hs (fun x y rest k => lv_ishr hexec hb (xx_dec1 hdg rfl) k) hL kk
  | iushr => exact xa_ii_ok hs (fun x y rest k => lv_iushr hexec hb (xx_dec1 hdg rfl) rfl k) hL kk
  | idiv => exact xa_iid_ok hs (fun x y rest h0 k => lv_idiv hexec hb (xx_dec1 hdg rfl) h0 k) hL kk
  | irem => exact xa_iid_ok hs (fun x y rest h0 k => lv_irem hexec hb (xx_dec1 hdg rfl) h0 k) hL kk
  | ladd => exact xa_ll_ok hs (fun x y rest k => lv_ladd hexec hb (xx_dec1 hdg rfl) k) hL kk
  | lsub => exact xa_ll_ok hs (fun x y rest k => lv_lsub hexec hb (xx_dec1 hdg rfl) k) hL kk
  | lmul => exact xa_ll_ok hs (fun x y rest k => lv_lmul hexec hb (xx_dec1 hdg rfl) k) hL kk
  | land => exact xa_ll_ok hs (fun x y rest k => lv_land hexec hb (xx_dec1 hdg rfl) k) hL kk
  | lor => exact xa_ll_ok hs (fun x y rest k => lv_lor hexec hb (xx_dec1 hdg rfl) k) hL kk
  | lxor => exact xa_ll_ok hs (fun x y rest k => lv_lxor hexec hb (xx_dec1 hdg rfl) k) hL kk
  | ldiv => exact xa_lld0_ok hs (fun x y rest h0 k => lv_ldiv hexec hb (xx_dec1 hdg rfl) h0 k) hL kk
  | lrem => exact xa_lld0_ok hs (fun x y rest h0 k => lv_lrem hexec hb (xx_dec1 hdg rfl) h0 k) hL kk
  | lshl => exact xa_li_ok hs (fun x y rest k => lv_lshl hexec hb (xx_dec1 hdg rfl) rfl k) hL kk
  | lshr => exact xa_li_ok hs (fun x y rest k => lv_lshr hexec hb (xx_dec1 hdg rfl) rfl k) hL kk
  | lushr => exact xa_li_ok hs (fun x y rest k => lv_lushr hexec hb (xx_dec1 hdg rfl) rfl k) hL kk
  | ineg => exact xa_i_ok hs (fun x rest k => lv_ineg hexec hb (xx_dec1 hdg rfl) k) hL kk
  | i2b => exact xa_i_ok hs (fun x rest k => lv_i2b hexec hb (xx_dec1 hdg rfl) rfl k) hL kk
  | i2c => exact xa_i_ok hs (fun x rest k => lv_i2c hexec hb (xx_dec1 hdg rfl) rfl k) hL kk
  | i2s => exact xa_i_ok hs (fun x rest k => lv_i2s hexec hb (xx_dec1 hdg rfl) rfl k) hL kk
  | i2l => 
    simp only [xa_step] at hs
    split at hs
    · cases hs; exact lv_i2l hexec hb (xx_dec1 hdg rfl) rfl (kk L hL)
    · cases hs
  | l2i => 
    simp only [xa_step] at hs
    split at hs
    · cases hs; exact lv_l2i hexec hb (xx_dec1 hdg rfl) rfl (kk L hL)
    · cases hs
  | lcmp => 
    simp only [xa_step] at hs
    split at hs
    · cases hs; exact W.lcmp hexec hb (xx_dec1 hdg rfl) (kk L hL)
    · cases hs
  | dup => 
    simp only [xa_step] at hs
    split at hs
    · obtain ⟨h1, hs⟩ := xa_g_some hs
      cases hs
      exact lv_dup hexec hb (xx_dec1 hdg rfl) (by rw [xx_v_cat]; exact Nat.eq_of_beq_eq_true h1) (kk L hL)
    · cases hs
  | pop => 
    simp only [xa_step] at hs
    split at hs
    · obtain ⟨h1, hs⟩ := xa_g_some hs
      cases hs
      exact lv_pop hexec hb (xx_dec1 hdg rfl) (by rw [xx_v_cat]; exact Nat.eq_of_beq_eq_true h1) (kk L hL)
    · cases hs
  | dup_x1 => 
    simp only [xa_step] at hs
    split at hs
    · obtain ⟨h1, hs⟩ := xa_g_some hs
      rw [Bool.and_eq_true] at h1
      cases hs
      exact lv_dup_x1 hexec hb (xx_dec1 hdg rfl) (by rw [xx_v_cat]; exact Nat.eq_of_beq_eq_true h1.1) (by rw [xx_v_cat]; exact Nat.eq_of_beq_eq_true h1.2) (kk L hL)
    · cases hs
  | dup_x2 => 
    simp only [xa_step] at hs
    split at hs
    · obtain ⟨h1, hs⟩ := xa_g_some hs
      rw [Bool.and_eq_true, Bool.and_eq_true] at h1
      cases hs
      exact lv_dup_x2 hexec hb (xx_dec1 hdg rfl) (by rw [xx_v_cat]; exact Nat.eq_of_beq_eq_true h1.1) (by rw [xx_v_cat]; exact Nat.eq_of_beq_eq_true h1.2.1) (by rw [xx_v_cat]; exact Nat.eq_of_beq_eq_true h1.2.2) (kk L hL)
    · cases hs
  | dup2 => 
    simp only [xa_step] at hs
    split at hs
    · cases hs; exact lv_dup2_2 hexec hb (xx_dec1 hdg rfl) rfl (kk L hL)
    · obtain ⟨h1, hs⟩ := xa_g_some hs
      rw [Bool.and_eq_true] at h1
      cases hs
      exact lv_dup2_11 hexec hb (xx_dec1 hdg rfl) (by rw [xx_v_cat]; exact Nat.eq_of_beq_eq_true h1.1) (by rw [xx_v_cat]; exact Nat.eq_of_beq_eq_true h1.2) (kk L hL)
    · cases hs
  | dup2_x1 => 
    simp only [xa_step] at hs
    split at hs
    · obtain ⟨h1, hs⟩ := xa_g_some hs
      cases hs
      exact lv_dup2_x1_2 hexec hb (xx_dec1 hdg rfl) rfl (by rw [xx_v_cat]; exact Nat.eq_of_beq_eq_true h1) (kk L hL)
    · cases hs
  | ifCond c0 off => exact xa_ifc_ok hexec hb (xx_dec1 hdg rfl) hs hL kk
  | if_icmp c0 off => exact xa_icmp_ok hexec hb (xx_dec1 hdg rfl) hs hL kk
  | ifnull off => 
    simp only [xa_step] at hs
    split at hs
    · obtain ⟨ht, rfl, rfl⟩ := xa_jmp_some hs
      exact lv_ifnullN hexec hb (xx_dec1 hdg rfl) ht (kk L hL)
    · cases hs; exact lv_ifnull hexec hb (xx_dec1 hdg rfl) (kk L hL)
    · cases hs
  | ifnonnull off => 
    simp only [xa_step] at hs
    split at hs
    · cases hs; exact lv_ifnonnullN hexec hb (xx_dec1 hdg rfl) (kk L hL)
    · obtain ⟨ht, rfl, rfl⟩ := xa_jmp_some hs
      exact lv_ifnonnull hexec hb (xx_dec1 hdg rfl) ht (kk L hL)
    · cases hs
  | goto off => obtain ⟨ht, rfl, rfl⟩ := xa_jmp_some hs; exact lv_goto hexec hb (xx_dec1 hdg rfl) ht (kk L hL)
  | tableswitch d lo hi offs => obtain ⟨len, hd, -⟩ := hdg; exact xa_table_ok hexec hb hd hs hL kk
  | lookupswitch d ps => obtain ⟨len, hd, -⟩ := hdg; exact xa_look_ok hexec hb hd hs hL kk
  | _ => cases hs
end XXA

