theorem xw_pairs : ∀ (vs : List Value) (i at_ : Nat) (cd : Cell) (j : Nat), at_ + i + vs.length ≤ cd.slots.size → (cd.storePairs at_ (vs.zipIdx i)).slots[j]? = if at_ + i ≤ j ∧ j < at_ + i + vs.length then vs[j - (at_ + i)]? else cd.slots[j]?
  | [], i, at_, cd, j, h => by
    show cd.slots[j]? = _
    rw [if_neg (by simp only [List.length_nil]; omega)]
  | x :: xs, i, at_, cd, j, h => by
    rw [List.zipIdx_cons]
    show ((cd.setSlot (at_ + i) x).storePairs at_ (xs.zipIdx (i + 1))).slots[j]? = _
    have hz : (cd.setSlot (at_ + i) x).slots.size = cd.slots.size := by simp [Cell.setSlot]
    simp only [List.length_cons] at h ⊢
    rw [xw_pairs xs (i + 1) at_ (cd.setSlot (at_ + i) x) j (by rw [hz]; omega)]
    have hset : (cd.setSlot (at_ + i) x).slots[j]? = if at_ + i = j then some x else cd.slots[j]? := by
      show (cd.slots.setIfInBounds (at_ + i) x)[j]? = _
      rw [Array.getElem?_setIfInBounds]
      split
      · rw [if_pos (by omega)]
      · rfl
    by_cases h1 : at_ + (i + 1) ≤ j ∧ j < at_ + (i + 1) + xs.length
    · rw [if_pos h1, if_pos (by omega)]
      rw [show j - (at_ + i) = (j - (at_ + (i + 1))) + 1 by omega, List.getElem?_cons_succ]
    · rw [if_neg h1, hset]
      by_cases h2 : at_ + i = j
      · rw [if_pos h2, if_pos (by omega), show j - (at_ + i) = 0 by omega]
        rfl
      · rw [if_neg h2, if_neg (by omega)]
theorem xw_copied_at {cs cd : Cell} {sp dp n : Int32} (h : dp.toNatClampNeg + n.toNatClampNeg ≤ cd.slots.size) (j : Nat) : (copied cs cd sp dp n).slots[j]? = if dp.toNatClampNeg ≤ j ∧ j < dp.toNatClampNeg + n.toNatClampNeg then some (cs.slots.getD (sp.toNatClampNeg + (j - dp.toNatClampNeg)) .null) else cd.slots[j]? := by
  have hl : (cs.stretch sp.toNatClampNeg n.toNatClampNeg).length = n.toNatClampNeg := by simp [Cell.stretch]
  have h1 := xw_pairs (cs.stretch sp.toNatClampNeg n.toNatClampNeg) 0 dp.toNatClampNeg cd j (by rw [hl]; omega)
  rw [hl, Nat.add_zero] at h1
  refine Eq.trans h1 ?_
  split
  · rename_i hj
    simp only [Cell.stretch]
    rw [List.getElem?_map, List.getElem?_range (by omega)]
    rfl
  · rfl
theorem xw_copied_facts (cs cd : Cell) (sp dp n : Int32) : (copied cs cd sp dp n).cls = cd.cls ∧ (copied cs cd sp dp n).vm = cd.vm ∧ (copied cs cd sp dp n).slots.size = cd.slots.size := by
  obtain ⟨h1, h2, h3, -⟩ := Cell.storePairs_facts cd dp.toNatClampNeg (cs.stretch sp.toNatClampNeg n.toNatClampNeg).zipIdx
  exact ⟨h1, h2, h3⟩
theorem xo_over_len {vs ws : List Value} {sp dp n : Nat} (h4 : sp + n ≤ vs.length) (h5 : dp + n ≤ ws.length) : (xo_over vs ws sp dp n).length = ws.length := by
  simp [xo_over]
  omega
theorem xo_over_at {vs ws : List Value} {sp dp n : Nat} (h4 : sp + n ≤ vs.length) (h5 : dp + n ≤ ws.length) (j : Nat) : (xo_over vs ws sp dp n)[j]? = if dp ≤ j ∧ j < dp + n then vs[sp + (j - dp)]? else ws[j]? := by
  unfold xo_over
  have e1 : (ws.take dp).length = dp := by rw [List.length_take]; omega
  have e2 : ((vs.drop sp).take n).length = n := by rw [List.length_take, List.length_drop]; omega
  by_cases h1 : j < dp
  · rw [if_neg (by omega), List.getElem?_append_left (by omega), List.getElem?_take_of_lt h1]
  · rw [List.getElem?_append_right (by omega), e1]
    by_cases h2 : j < dp + n
    · rw [if_pos ⟨by omega, h2⟩, List.getElem?_append_left (by omega), List.getElem?_take_of_lt (by omega), List.getElem?_drop]
    · rw [if_neg (by omega), List.getElem?_append_right (by omega), e2, List.getElem?_drop, show dp + n + (j - dp - n) = j by omega]
theorem xw_nn {z : Int32} (hz : ¬ z < 0) : z.toInt = (z.toNatClampNeg : Int) := by
  have hz0 : (0 : Int) ≤ z.toInt := by
    have := Int32.not_lt.mp hz
    simpa using Int32.le_iff_toInt_le.mp this
  show z.toInt = ((z.toInt.toNat : Nat) : Int)
  omega
section XXE
variable {p : Program} {l : Launch} {e : Env} {R : Room} {s : State} {m : MethodId} {args : Array Value} {below : List Frame} {meth : Method} {c : Code} {H : Heap} {locs : List Loc} {cells slots : Nat} {Q : State → Prop}
variable {cc : ByteArray} {pc n0 : Nat} {st st' : List Value} {h h' : xx_H} {L : Array Slot} {ad : Nat → Nat} {base : Nat} {D : va_G} {cl ol : List vw_C} {P : xx_P} {Ts nst : List Cond} {on : Nat → String} {strs : List (String × Nat × String × Nat)} {stv : List (String × String × String × Value)} {k : Nat}
set_option maxHeartbeats 1000000 in
theorem xo_acopy_ok {own : String} {index a b : Nat} {ty : FieldType} {vs ws rest : List Value} {sp dp n : Int32} (hexec : p.tables.exec = Jvm.exec) (hb0 : c.code = cc) (hml : c.maxLocals = L.size) (hown : s.vm.findClass own = some m.cls) (hlink : (Cond.methodLink own index arraycopyName).before args s = true) (hnat : (Cond.native arraycopyName).before args s = true) (hstat : (Cond.static arraycopyName).before args s = true) (hini : (Cond.initialized "java/lang/System").before args s = true)
    (ha : xx_ad n0 base ad) (hS : xx_S D cl ol ad n0 base s h H locs) (hA : h[a]? = some (.inl (ty, vs))) (hB : h[b]? = some (.inl (ty, ws))) (hn : n0 ≤ b) (h1 : ¬ sp < 0) (h2 : ¬ dp < 0) (h3 : ¬ n < 0) (h4 : sp.toNatClampNeg + n.toNatClampNeg ≤ vs.length) (h5 : dp.toNatClampNeg + n.toNatClampNeg ≤ ws.length)
    (hel : ∀ v ∈ vs, fits ty (xx_v ad v) = true ∧ ∀ (kd : Class) (dC : ClassId) (cd : Cell), H[ad b]? = some cd → s.vm.classes[cd.cls]? = some kd → kd.kind = .array dC ty → ∀ (vm' : Vm) (T : State), T.heap = H → s.vm.Alike vm' → (T.setVm vm').takes dC (xx_v ad v))
    (hframes : 1 ≤ R.frames) (hlocals : (rest.map fun v => v.category).sum + 18 ≤ R.locals) (hdg : decode cc pc = .ok (.invokestatic index, 3))
    (kk : ∀ (H' : Heap) (locs' : List Loc), xx_S D cl ol ad n0 base s (h.set b (.inl (ty, xo_over vs ws sp.toNatClampNeg dp.toNatClampNeg n.toNatClampNeg))) H' locs' → W p l e R s m args below meth c H' locs' cells slots Q (F0 m (pc + 3) L rest)) : W p l e R s m args below meth c H locs cells slots Q (F0 m pc L (.int n :: .int dp :: .ref (ad b) :: .int sp :: .ref (ad a) :: rest)) := by
  obtain ⟨cs, a1, ⟨a2, ks, aks, sC, ak⟩, a3, a4, a5, a6, a7⟩ := hS.1.2.2 a _ hA
  obtain ⟨cd, b1, ⟨b2, kd, bkd, dC, bk⟩, b3, b4, b5, b6, b7⟩ := hS.1.2.2 b _ hB
  dsimp only at a4 a5 a6 b4 b5 b6 ak bk
  have hge := xx_ad_ge ha hn
  intro T hT X
  have hvs : ∀ i : Nat, i < n.toNatClampNeg → ∃ v, v ∈ vs ∧ vs[sp.toNatClampNeg + i]? = some v ∧ cs.slots.getD (sp.toNatClampNeg + i) .null = xx_v ad v := by
    intro i hi
    have hlt : sp.toNatClampNeg + i < vs.length := by omega
    refine ⟨vs[sp.toNatClampNeg + i], List.getElem_mem hlt, List.getElem?_eq_getElem hlt, ?_⟩
    rw [Array.getD_eq_getD_getElem?, a6 _ _ (List.getElem?_eq_getElem hlt)]
    rfl
  obtain ⟨vm', X', step⟩ := X.arraycopy hexec hown hlink hnat hstat hini (src := ad a) (dst := ad b) (cs := cs) (cd := cd) (srcPos := sp) (destPos := dp) (n := n) (by rw [hT]; exact a1) (by rw [hT]; exact b1)
    a2 b2 a3 b3 aks bkd ak bk (by simp) h1 h2 h3
    (by rw [xw_nn h1, xw_nn h3]; omega)
    (by rw [xw_nn h2, xw_nn h3]; omega)
    (fun vm₁ hal i hi => by
      obtain ⟨v, v1, v2, v3⟩ := hvs i hi
      rw [v3]
      exact ⟨(hel v v1).1, (hel v v1).2 kd dC cd b1 bkd bk vm₁ T hT hal⟩)
    (g := F0 m pc L (.int n :: .int dp :: .ref (ad b) :: .int sp :: .ref (ad a) :: rest)) rfl (by rw [hml]) (rest := rest) rfl (by rw [hb0]; exact hdg) hframes (by
      show 2 * 0 + _ + _ ≤ _
      have hw : nativeFrameWords "java/lang/System" "arraycopy" 5 = 7 := by decide
      omega)
  obtain ⟨f1, f2, f3⟩ := xw_copied_facts cs cd sp dp n
  have fat := fun j => xw_copied_at (cs := cs) (cd := cd) (sp := sp) (dp := dp) (n := n) (by omega) j
  generalize copied cs cd sp dp n = cn at f1 f2 f3 fat X' step
  have hl : ad b < H.size := (Array.getElem?_eq_some_iff.mp b1).1
  have hheap : ((T.setVm vm').setCell (ad b) cn).heap = H.setIfInBounds (ad b) cn := by rw [← hT]; rfl
  have oq : ∀ q : Nat, q ≠ ad b → (H.setIfInBounds (ad b) cn)[q]? = H[q]? := fun q hq => by simp [Array.getElem?_setIfInBounds, Ne.symm hq]
  have eq : (H.setIfInBounds (ad b) cn)[ad b]? = some cn := by simp [Array.getElem?_setIfInBounds, hl]
  obtain ⟨t, t1, t2⟩ := kk _ _ ⟨xx_rep_set ha hS.1 hn (by simp) oq ⟨cn, eq, ⟨fun q => by rw [f2]; exact b2 q, kd, by rw [f1]; exact bkd, dC, bk⟩, by rw [f2]; exact b3, by
      rw [f3]
      show (xo_over vs ws _ _ _).length ≤ _
      rw [xo_over_len h4 h5]
      exact b4, by
      rw [f3]
      show _ = Int32.ofNat (xo_over vs ws _ _ _).length
      rw [xo_over_len h4 h5]
      exact b5, fun j w hw => by
      have hw : (xo_over vs ws sp.toNatClampNeg dp.toNatClampNeg n.toNatClampNeg)[j]? = some w := hw
      rw [xo_over_at h4 h5] at hw
      rw [fat]
      split at hw
      · rename_i hj
        rw [if_pos hj]
        obtain ⟨v, v1, v2, v3⟩ := hvs (j - dp.toNatClampNeg) (by omega)
        cases v2.symm.trans hw
        rw [v3]
      · rename_i hj
        rw [if_neg hj]
        exact b6 j w hw, fun q C ec => by rw [f1]; exact b7 q C ec⟩, fun q hq => by
      rw [oq q (by omega)]
      exact hS.2.1 q hq, fun x hx => by
      rcases List.mem_append.mp hx with z | z
      · exact hS.2.2.1 x z
      · obtain ⟨y, -, hy⟩ := List.mem_map.mp z
        rw [← hy]
        exact hge, by simp; exact hS.2.2.2⟩ _ hheap X'
  exact ⟨t, step t t1, t2⟩
end XXE

