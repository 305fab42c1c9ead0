def xx_ra (U : State) (cA : ClassId) (C : String) : Prop := ∃ (kA : Class) (comp : ClassId), U.vm.classes[cA]? = some kA ∧ kA.kind = .array comp (.object C) ∧ U.vm.findClass C = some comp ∧ U.vm.findClass ("[" ++ (FieldType.object C).toString) = some cA
theorem xx_ra.moved {u U : State} {cA : ClassId} {C : String} (hvm : u.vm.Alike U.vm) (h : xx_ra u cA C) : xx_ra U cA C := by
  obtain ⟨kA, comp, r1, r2, r3, r4⟩ := h
  obtain ⟨k', hk', he⟩ := hvm.2.2 _ _ r1
  exact ⟨k', comp, hk', by rw [he]; exact r2, by rw [hvm.findClass]; exact r3, by rw [hvm.findClass]; exact r4⟩
def xx_at (D : va_G) (cl ol : List vw_C) (ad : Nat → Nat) (base : Nat) (U : State) (a : Nat) (e : xx_E) (H : Heap) : Prop := match e with
  | .inl q => ∃ cell : Cell, H[a]? = some cell ∧ U.isArrayOf cell q.1 ∧ cell.vm ≠ .unknown ∧ q.2.length ≤ cell.slots.size ∧ cell.slots.size.toInt32 = Int32.ofNat q.2.length ∧ (∀ (j : Nat) (v : Value), q.2[j]? = some v → cell.slots[j]? = some (xx_v ad v)) ∧ (base ≤ a → ∀ C : String, q.1 = .object C → xx_ra U cell.cls C)
  | .inr o => (cl.length + ol.length ≤ o.1 ∧ a < base) ∨ (cl.length ≤ o.1 ∧ a < base ∧ ∃ r : vw_C, ol[o.1 - cl.length]? = some r ∧ (∃ cell : Cell, H[a]? = some cell ∧ cell.vm.isStatics = false ∧ U.vm.findClass r.1 = some cell.cls) ∧ ∀ (j : Nat) (v : Value), o.2[j]? = some v → va_OF (r.2.1 j).1 (r.2.1 j).2.1 (r.2.1 j).2.2.1 (xx_v ad v) a (fun q => base ≤ q) U H) ∨ ∃ r : vw_C, cl[o.1]? = some r ∧ o.2.length = r.2.2 ∧ ∃ cell : Cell, H[a]? = some cell ∧ cell.cls = D.1 o.1 ∧ cell.vm ≠ .unknown ∧ cell.vm.isStatics = false ∧ (base ≤ a → cell.vm = .none) ∧ ∀ k, k < r.2.2 → cell.slots[D.2 o.1 k]? = some (vp_V (o.2.map (xx_v ad)) k)
def xx_ad (n0 base : Nat) (ad : Nat → Nat) : Prop := (∀ i, n0 ≤ i → ad i = base + (i - n0)) ∧ ∀ i, i < n0 → ad i < base
def xx_rep (D : va_G) (cl ol : List vw_C) (ad : Nat → Nat) (n0 base : Nat) (U : State) (h : xx_H) (H : Heap) : Prop := n0 ≤ h.length ∧ H.size = base + (h.length - n0) ∧ ∀ (i : Nat) (e : xx_E), h[i]? = some e → xx_at D cl ol ad base U (ad i) e H
theorem xx_at_kept {D : va_G} {cl ol : List vw_C} {ad : Nat → Nat} {base : Nat} {U : State} {a : Nat} {e : xx_E} {H H1 : Heap} (h : xx_at D cl ol ad base U a e H) (hq : H1[a]? = H[a]?) : xx_at D cl ol ad base U a e H1 := by
  cases e with
  | inl q =>
    obtain ⟨cell, h1, h2⟩ := h
    exact ⟨cell, hq.trans h1, h2⟩
  | inr o =>
    rcases h with h | ⟨h1, h2, r, h3, ⟨cell, h4, h5⟩, h6⟩ | ⟨r, h1, h2, cell, h3, h4⟩
    · exact Or.inl h
    · refine Or.inr (Or.inl ⟨h1, h2, r, h3, ⟨cell, hq.trans h4, h5⟩, fun j v hv => ?_⟩)
      obtain ⟨cf, k, i, f, c1, g1, g2, g3, g4⟩ := h6 j v hv
      exact ⟨cf, k, i, f, c1, g1, g2, hq.trans g3, g4⟩
    · exact Or.inr (Or.inr ⟨r, h1, h2, cell, hq.trans h3, h4⟩)
theorem xx_at_moved {D : va_G} {cl ol : List vw_C} {ad : Nat → Nat} {base : Nat} {u U : State} {a : Nat} {e : xx_E} {H : Heap} (hvm : u.vm.Alike U.vm) (h : xx_at D cl ol ad base u a e H) : xx_at D cl ol ad base U a e H := by
  cases e with
  | inl q =>
    obtain ⟨cell, h1, h2, h3, h4, h5, h6, h7⟩ := h
    exact ⟨cell, h1, State.isArrayOf_alike hvm h2, h3, h4, h5, h6, fun b C e => xx_ra.moved hvm (h7 b C e)⟩
  | inr o =>
    rcases h with h | ⟨h1, h2, r, h3, ⟨cell, h4, h5, h7⟩, h6⟩ | h
    · exact Or.inl h
    · exact Or.inr (Or.inl ⟨h1, h2, r, h3, ⟨cell, h4, h5, by rw [hvm.findClass]; exact h7⟩, fun j v hv => va_OF.moved hvm (h6 j v hv)⟩)
    · exact Or.inr (Or.inr h)
theorem xx_rep_moved {D : va_G} {cl ol : List vw_C} {ad : Nat → Nat} {n0 base : Nat} {u U : State} {h : xx_H} {H : Heap} (hvm : u.vm.Alike U.vm) (r : xx_rep D cl ol ad n0 base u h H) : xx_rep D cl ol ad n0 base U h H := ⟨r.1, r.2.1, fun i e q => xx_at_moved hvm (r.2.2 i e q)⟩
theorem xx_ad_ne {n0 base : Nat} {ad : Nat → Nat} (ha : xx_ad n0 base ad) {i j : Nat} (hi : n0 ≤ i) (hij : j ≠ i) : ad j ≠ ad i := by
  intro e
  by_cases hj : n0 ≤ j
  · rw [ha.1 i hi, ha.1 j hj] at e
    omega
  · have h1 := ha.2 j (Nat.lt_of_not_le hj)
    rw [e, ha.1 i hi] at h1
    omega
theorem xx_rep_set {D : va_G} {cl ol : List vw_C} {ad : Nat → Nat} {n0 base : Nat} {U : State} {h : xx_H} {H H1 : Heap} {i : Nat} {e : xx_E} (ha : xx_ad n0 base ad) (r : xx_rep D cl ol ad n0 base U h H) (hi : n0 ≤ i) (hz : H1.size = H.size) (ho : ∀ q : Nat, q ≠ ad i → H1[q]? = H[q]?) (he : xx_at D cl ol ad base U (ad i) e H1) : xx_rep D cl ol ad n0 base U (h.set i e) H1 := by
  refine ⟨by rw [List.length_set]; exact r.1, by rw [List.length_set, hz]; exact r.2.1, fun j x hj => ?_⟩
  rw [List.getElem?_set] at hj
  split at hj
  · rename_i e1
    subst e1
    split at hj
    · cases hj
      exact he
    · cases hj
  · rename_i e1
    exact xx_at_kept (r.2.2 j x hj) (ho _ (xx_ad_ne ha hi (fun z => e1 z.symm)))
theorem xx_rep_new {D : va_G} {cl ol : List vw_C} {ad : Nat → Nat} {n0 base : Nat} {U : State} {h : xx_H} {H H1 : Heap} {e : xx_E} (ha : xx_ad n0 base ad) (r : xx_rep D cl ol ad n0 base U h H) (hz : H1.size = H.size + 1) (ho : ∀ q : Nat, q < H.size → H1[q]? = H[q]?) (he : xx_at D cl ol ad base U H.size e H1) : xx_rep D cl ol ad n0 base U (h ++ [e]) H1 := by
  have h1 := r.1
  have h2 := r.2.1
  have hn : ad h.length = H.size := by rw [ha.1 _ h1, h2]
  refine ⟨by simp; omega, by rw [hz, h2]; simp; omega, fun j x hj => ?_⟩
  by_cases hjl : j < h.length
  · rw [List.getElem?_append_left hjl] at hj
    refine xx_at_kept (r.2.2 j x hj) (ho _ ?_)
    by_cases hj0 : n0 ≤ j
    · rw [ha.1 j hj0, h2]; omega
    · have := ha.2 j (Nat.lt_of_not_le hj0); omega
  · have hje : j = h.length := by
      have := (List.getElem?_eq_some_iff.mp hj).1
      simp at this
      omega
    subst hje
    simp at hj
    subst hj
    rw [hn]
    exact he
def xx_S (D : va_G) (cl ol : List vw_C) (ad : Nat → Nat) (n0 base : Nat) (s : State) (h : xx_H) (H : Heap) (locs : List Loc) : Prop := xx_rep D cl ol ad n0 base s h H ∧ (∀ q : Nat, q < base → H[q]? = s.heap[q]?) ∧ (∀ l ∈ locs, base ≤ l.base) ∧ s.heap.size ≤ H.size
theorem xx_fit_ok {ad : Nat → Nat} {ty : FieldType} {v : Value} (h : xx_fit ty v = true) : narrow ty (xx_v ad v) = xx_v ad v ∧ fits ty (xx_v ad v) = true := by
  cases ty <;> cases v <;> first
    | (simp [xx_fit] at h; done)
    | exact ⟨rfl, rfl⟩
    | skip
  · rename_i x
    have h : (decide (x.toInt8.toInt32 = x) && fits .byte (.int x)) = true := h
    rw [Bool.and_eq_true] at h
    exact ⟨congrArg Value.int (of_decide_eq_true h.1), h.2⟩
  · rename_i x
    have h : (decide (x.toUInt32.toUInt16.toUInt32.toInt32 = x) && fits .char (.int x)) = true := h
    rw [Bool.and_eq_true] at h
    exact ⟨congrArg Value.int (of_decide_eq_true h.1), h.2⟩
  · rename_i x
    have h : (x == 0 || x == 1) = true := h
    rw [Bool.or_eq_true, beq_iff_eq, beq_iff_eq] at h
    rcases h with rfl | rfl
    · exact ⟨rfl, rfl⟩
    · exact ⟨rfl, rfl⟩
def xx_lnk (Ts nst : List Cond) (on : String) (idx : Nat) (ref : String) (t : String × String × String × Bool) : Prop := Cond.fieldLink on idx ref t.2.1 t.2.2.1 ∈ Ts ∨ ∃ host, Cond.fieldLinkNest on idx ref t.2.1 t.2.2.1 host ∈ nst
def xx_okf (P : xx_P) (Ts nst : List Cond) (cl ol : List vw_C) (on : Nat → String) : Prop := ∀ o idx ci j, xp_fld P o idx ci = some j → (cl.length ≤ ci → ∃ (r : vw_C) (ref : String), ol[ci - cl.length]? = some r ∧ (ref = (r.2.1 j).1 ∨ Cond.sameField ref (r.2.1 j).1 (r.2.1 j).2.1 (r.2.1 j).2.2.1 ∈ Ts) ∧ Cond.fieldLink (on o) idx ref (r.2.1 j).2.1 (r.2.1 j).2.2.1 ∈ Ts) ∧ (ci < cl.length → ∃ (C : String) (T : u_T) (N : Nat) (ref : String), cl[ci]? = some (C, T, N) ∧ j < N ∧ (∀ w ∈ u_ws C T N, w ∈ Ts) ∧ (ref = (T j).1 ∨ Cond.sameField ref (T j).1 (T j).2.1 (T j).2.2.1 ∈ Ts) ∧ xx_lnk Ts nst (on o) idx ref (T j))
def xx_okt (P : xx_P) (cl : List vw_C) : Prop := ∀ ci j ty fin, xp_fty P ci j = some (ty, fin) → ∃ (C : String) (T : u_T) (N : Nat) (ts : Nat → FieldType), cl[ci]? = some (C, T, N) ∧ (∀ k, k < N → parseFieldDescriptor (T k).2.2.1 = some (ts k)) ∧ (∀ a, a < N → ∀ b, b < N → a ≠ b → (T a).2.1 ≠ (T b).2.1) ∧ parseFieldDescriptor (T j).2.2.1 = some ty ∧ (T j).2.2.2 = fin.isSome
def xx_okp (P : xx_P) (cl : List vw_C) (Ts : List Cond) (on : Nat → String) : Prop := ∀ o idx ci j ty, xp_fld P o idx ci = some j → xp_fty P ci j = some (ty, some o) → ∃ (C : String) (T : u_T) (N : Nat), cl[ci]? = some (C, T, N) ∧ (T j).1 = on o ∧ Cond.fieldLink (on o) idx (on o) (T j).2.1 (T j).2.2.1 ∈ Ts
section XXB
variable {p : Program} {l : Launch} {e : Env} {R : Room} {s : State} {m : MethodId} {args : Array Value} {below : List Frame} {meth : Method} {c : Code} {H : Heap} {locs : List Loc} {cells slots : Nat} {Q : State → Prop}
variable {cc : ByteArray} {pc pc' : Nat} {st st' : List Value} {h h' : xx_H} {L : Array Slot} {ad : Nat → Nat} {n0 base : Nat} {D : va_G} {cl ol : List vw_C} {P : xx_P} {Ts nst : List Cond} {on : Nat → String} {o idx : Nat}
theorem xx_same {ref : String} {t : String × String × String × Bool} (hts : ∀ w ∈ Ts, w.before args s = true) (hr : ref = t.1 ∨ Cond.sameField ref t.1 t.2.1 t.2.2.1 ∈ Ts) : ∀ x, s.fieldFound? t.1 t.2.1 t.2.2.1 = some x → s.fieldFound? ref t.2.1 t.2.2.1 = some x := by
  intro x hx
  rcases hr with rfl | hr
  · exact hx
  · exact u_same (hts _ hr) x hx
theorem xx_V_at {fs : List Value} {j : Nat} {v : Value} (hv : fs[j]? = some v) : vp_V (fs.map (xx_v ad)) j = xx_v ad v := by simp [vp_V, hv]
theorem xb_get_ok (hexec : p.tables.exec = Jvm.exec) (hb : c.code = cc) (hts : ∀ w ∈ Ts, w.before args s = true) (hn : ∀ w ∈ nst, va_Nw w s) (hK : va_K D cl [] s) (hown : s.vm.findClass (on o) = some m.cls) (hok : xx_okf P Ts nst cl ol on) (hdg : decode cc pc = .ok (.getfield idx, 3)) (hs : xb_get P o idx pc st h = some (pc', st', h')) (hr : xx_rep D cl ol ad n0 base s h H)
    (kk : h' = h → W p l e R s m args below meth c H locs cells slots Q (F0 m pc' L (st'.map (xx_v ad)))) : W p l e R s m args below meth c H locs cells slots Q (F0 m pc L (st.map (xx_v ad))) := by
  unfold xb_get at hs
  split at hs
  · rename_i a r
    split at hs
    · rename_i ci fs ha
      split at hs
      · rename_i j hj
        split at hs
        · rename_i v hv
          cases hs
          rcases hr.2.2 a _ ha with ⟨h1, -⟩ | ⟨h1, h2, r0, h3, -, h6⟩ | hat
          · obtain ⟨r1, ref, g1, -⟩ := (hok o idx ci j hj).1 (by omega)
            have := (List.getElem?_eq_some_iff.mp g1).1
            omega
          · obtain ⟨r1, ref, g1, g2, g3⟩ := (hok o idx ci j hj).1 h1
            cases g1.symm.trans h3
            obtain ⟨cf, kf, fi, f, cell, q1, q2, q3, q4, q5, -⟩ := h6 j v hv
            exact W.getf hexec hb hown (hts _ g3) (xx_same hts g2 _ q1) q2 q3 q4 q5 rfl rfl hdg (kk rfl)
          obtain ⟨r0, h1, h2, cell, h3, h4, h5, h6, h7, h8⟩ := hat
          obtain ⟨C, T, N, ref, hc, hjN, hin, hsame, hlink⟩ := (hok o idx ci j hj).2 (List.getElem?_eq_some_iff.mp h1).1
          have hr0 : r0 = (C, T, N) := Option.some.inj (h1.symm.trans hc)
          subst hr0
          obtain ⟨hS, hfc, kC, hkC, hkind⟩ := hK.1 ci _ hc
          obtain ⟨cf, kf, fi, f, hi, hsl⟩ := hS j hjN
          have hst := (u_facts hfc hkC (u_lays hts hin hjN) hi).1
          have hslot : cell.slots[f.slot]? = some (xx_v ad v) := by rw [hsl, h8 j hjN, xx_V_at hv]
          rcases hlink with hlink | ⟨host, hlink⟩
          · exact W.getf hexec hb hown (hts _ hlink) (xx_same hts hsame _ hi) hst h3 h5 hslot rfl rfl hdg (kk rfl)
          · exact va_Wgetf hexec hb hown (va_Nw.use rfl (hn _ hlink)) (xx_same hts hsame _ hi) hst h3 h5 hslot rfl rfl hdg (kk rfl)
        · cases hs
      · cases hs
    · cases hs
  · cases hs
end XXB

