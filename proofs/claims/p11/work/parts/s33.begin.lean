def xi_ins (c : Nat) : Nat × Nat := match c with
  | 0 => (1, 36)
  | 1 => (1, 53)
  | 2 => (1, 232)
  | 3 => (2, 30)
  | 4 => (2, 54)
  | 5 => (2, 48)
  | 6 => (2, 90)
  | 7 => (2, 123)
  | 8 => (2, 117)
  | 9 => (1, 28)
  | 10 => (3, 217)
  | 11 => (4, 22)
  | 12 => (4, 199)
  | 13 => (6, 77)
  | _ => (0, 0)
def xi_insB (c : Nat) : Bool := match xt_cl[c]? with
  | some r => xk_w (xi_ins c) (.instantiable r.1 r.2.2)
  | none => true
theorem xi_ins_0 : xi_insB 0 = true := by decide +kernel
theorem xi_ins_1 : xi_insB 1 = true := by decide +kernel
theorem xi_ins_2 : xi_insB 2 = true := by decide +kernel
theorem xi_ins_3 : xi_insB 3 = true := by decide +kernel
theorem xi_ins_4 : xi_insB 4 = true := by decide +kernel
theorem xi_ins_5 : xi_insB 5 = true := by decide +kernel
theorem xi_ins_6 : xi_insB 6 = true := by decide +kernel
theorem xi_ins_7 : xi_insB 7 = true := by decide +kernel
theorem xi_ins_8 : xi_insB 8 = true := by decide +kernel
theorem xi_ins_9 : xi_insB 9 = true := by decide +kernel
theorem xi_ins_10 : xi_insB 10 = true := by decide +kernel
theorem xi_ins_11 : xi_insB 11 = true := by decide +kernel
theorem xi_ins_12 : xi_insB 12 = true := by decide +kernel
theorem xi_ins_13 : xi_insB 13 = true := by decide +kernel
theorem xi_inss (c : Nat) : xi_insB c = true := by
  match c with
  | 0 => exact xi_ins_0
  | 1 => exact xi_ins_1
  | 2 => exact xi_ins_2
  | 3 => exact xi_ins_3
  | 4 => exact xi_ins_4
  | 5 => exact xi_ins_5
  | 6 => exact xi_ins_6
  | 7 => exact xi_ins_7
  | 8 => exact xi_ins_8
  | 9 => exact xi_ins_9
  | 10 => exact xi_ins_10
  | 11 => exact xi_ins_11
  | 12 => exact xi_ins_12
  | 13 => exact xi_ins_13
  | c + 14 => rfl
theorem xi_sr_0 : Cond.stringRef "ClauseKernel$Cells" 31 "nil t quote if equal cons implies + - < consp car cdr natp symbolp height not " ∈ lw_tbl := xk_blk_in (b := 1) (List.mem_of_getElem? (i := 61) (by decide +kernel))
theorem xi_sr_1 : Cond.stringRef "ClauseKernel$Cells" 37 "defun check clause undo theorem " ∈ lw_tbl := xk_blk_in (b := 1) (List.mem_of_getElem? (i := 211) (by decide +kernel))
theorem xi_sr_2 : Cond.stringRef "ClauseKernel$Cells" 39 "taut same value first second pair yes no def thm weak cut inst swap put induct " ∈ lw_tbl := xk_blk_in (b := 1) (List.mem_of_getElem? (i := 212) (by decide +kernel))
theorem xi_sr_3 : Cond.stringRef "ClauseKernel$Cells" 59 "abcdefghijklmnopqrstuvwxyz0123456789+-*/<>=?!_" ∈ lw_tbl := xk_blk_in (b := 1) (List.mem_of_getElem? (i := 155) (by decide +kernel))
theorem xi_ls_0 : Cond.laysStatic "java/lang/String" "COMPACT_STRINGS" "Z" ∈ lw_tbl := xk_blk_in (b := 1) (List.mem_of_getElem? (i := 75) (by decide +kernel))
theorem xi_in_0 : Cond.initialized "java/lang/String" ∈ lw_tbl := xk_blk_in (b := 1) (List.mem_of_getElem? (i := 6) (by decide +kernel))
theorem xi_ls_1 : Cond.laysStatic "jdk/internal/util/Preconditions" "SIOOBE_FORMATTER" "Ljava/util/function/BiFunction;" ∈ lw_tbl := xk_blk_in (b := 1) (List.mem_of_getElem? (i := 91) (by decide +kernel))
theorem xi_in_1 : Cond.initialized "jdk/internal/util/Preconditions" ∈ lw_tbl := xk_blk_in (b := 1) (List.mem_of_getElem? (i := 8) (by decide +kernel))
theorem xi_ls_2 : Cond.laysStatic "java/util/ArrayList" "DEFAULTCAPACITY_EMPTY_ELEMENTDATA" "[Ljava/lang/Object;" ∈ lw_tbl := xk_blk_in (b := 2) (List.mem_of_getElem? (i := 66) (by decide +kernel))
theorem xi_in_2 : Cond.initialized "java/util/ArrayList" ∈ lw_tbl := xk_blk_in (b := 1) (List.mem_of_getElem? (i := 17) (by decide +kernel))
theorem xi_ls_3 : Cond.laysStatic "ClauseKernel" "TAKES" "[I" ∈ lw_tbl := xk_blk_in (b := 3) (List.mem_of_getElem? (i := 183) (by decide +kernel))
theorem xi_in_3 : Cond.initialized "ClauseKernel" ∈ lw_tbl := xk_blk_in (b := 1) (List.mem_of_getElem? (i := 1) (by decide +kernel))
theorem xi_f0 : xi_fl[4]? = some (Cond.eq (.static "java/lang/String" "COMPACT_STRINGS" "Z") (.int 1)) := by decide +kernel
theorem xi_f1 : xi_fl[5]? = some (Cond.isRef (.static "jdk/internal/util/Preconditions" "SIOOBE_FORMATTER" "Ljava/util/function/BiFunction;")) := by decide +kernel
theorem xi_f2 : xi_fl[10]? = some (Cond.arrayOf (.static "java/util/ArrayList" "DEFAULTCAPACITY_EMPTY_ELEMENTDATA" "[Ljava/lang/Object;") (.object "java/lang/Object")) := by decide +kernel
theorem xi_f3 : xi_fl[12]? = some (Cond.eq (.length (.static "java/util/ArrayList" "DEFAULTCAPACITY_EMPTY_ELEMENTDATA" "[Ljava/lang/Object;")) (.int 0)) := by decide +kernel
theorem xi_f4 : xi_fl[14]? = some (Cond.arrayOf (.static "ClauseKernel" "TAKES" "[I") .int) := by decide +kernel
theorem xi_f5 : xi_fl[15]? = some (Cond.eq (.length (.static "ClauseKernel" "TAKES" "[I")) (.int 14)) := by decide +kernel
theorem xi_f6 : xi_fl[30]? = some (Cond.isRef (.mirror "[Ljava/lang/Object;")) := by decide +kernel
def xi_tk : List Int32 := [3, 2, 2, 2, 2, 2, 2, 1, 1, 1, 1, 1, 1, 1]
def xi_tp : List Nat := [16, 17, 18, 19, 20, 21, 22, 23, 24, 25, 26, 27, 28, 29]
theorem xi_tks : ∀ j, j < 14 → xi_fl[xi_tp.getD j 0]? = some (Cond.eq (.elem (.static "ClauseKernel" "TAKES" "[I") (.int (Int32.ofNat j))) (.int (xi_tk.getD j 0))) := by decide +kernel
theorem xi_sx_0 : Cond.stringRef "ClauseKernel$Reader" 76 "abcdefghijklmnopqrstuvwxyz0123456789+-*/<>=?!_" ∈ lw_tbl := xk_blk_in (b := 3) (List.mem_of_getElem? (i := 25) (by decide +kernel))
theorem xi_sq_0 : xi_fl[339]? = some (Cond.eq (xi_tm 3) (.string "ClauseKernel$Reader" 76)) := by decide +kernel
theorem xi_sx_1 : Cond.stringRef "ClauseKernel$Teller" 89 "abcdefghijklmnopqrstuvwxyz0123456789+-*/<>=?!_" ∈ lw_tbl := xk_blk_in (b := 6) (List.mem_of_getElem? (i := 5) (by decide +kernel))
theorem xi_sq_1 : xi_fl[393]? = some (Cond.eq (xi_tm 3) (.string "ClauseKernel$Teller" 89)) := by decide +kernel
def xi_h0 (L : Nat) (xs : Nat → Int32) : xx_H := [.inl (.int, (List.range L).map (fun j => .int (xs j))), .inr (14, [.ref 2, .int 0]), .inl (.byte, (xi_byt.getD 0 []).map .int), .inr (14, [.ref 4, .int 0]), .inl (.byte, (xi_byt.getD 1 []).map .int), .inr (14, [.ref 6, .int 0]), .inl (.byte, (xi_byt.getD 2 []).map .int), .inr (14, [.ref 8, .int 0]), .inl (.byte, (xi_byt.getD 3 []).map .int), .inr (15, []), .inl (.object "java/lang/Object", []), .inl (.int, xi_tk.map .int)]
def xi_ad (b sz zt dt tt : Nat) (adK adV : Nat → Nat) (i : Nat) : Nat := match i with
  | 0 => b
  | 1 => adK 0
  | 2 => adV 0
  | 3 => adK 1
  | 4 => adV 1
  | 5 => adK 2
  | 6 => adV 2
  | 7 => adK 3
  | 8 => adV 3
  | 9 => zt
  | 10 => dt
  | 11 => tt
  | i + 12 => sz + i
theorem xi_arr {D : va_G} {cl ol : List vw_C} {ad : Nat → Nat} {base : Nat} {s : State} {H : Heap} {ty : FieldType} {a N : Nat} {f : Nat → Value} {A : Nat → Prop} {vs : List Value} (h : va_T ty a N f A s H) (hlb : a < base) (hl : vs.length = N) (hv : ∀ (j : Nat) (v : Value), vs[j]? = some v → xx_v ad v = f j) : xx_at D cl ol ad base s a (.inl (ty, vs)) H := by
  obtain ⟨cell, h1, h2, h3, h4, h5, h6, -⟩ := h
  refine ⟨cell, h1, h2, h3, by dsimp only; omega, by dsimp only; rw [hl]; exact h5, fun j v hj => ?_, fun q => absurd q (Nat.not_le.mpr hlb)⟩
  have hlt := (List.getElem?_eq_some_iff.mp hj).1
  dsimp only at hlt hj
  rw [h6 j (by omega), hv j v hj]
theorem xi_str {D : va_G} {ad : Nat → Nat} {s : State} {H : Heap} {a v : Nat} (ha : a < s.heap.size) (hO : va_O "java/lang/String" a (fun q => s.heap.size ≤ q) s H) (hc : va_OF "java/lang/String" "coder" "B" (.int 0) a (fun q => s.heap.size ≤ q) s H) (hv : va_OF "java/lang/String" "value" "[B" (.ref (ad v)) a (fun q => s.heap.size ≤ q) s H) : xx_at D xt_cl xt_ol ad s.heap.size s a (.inr (14, [.ref v, .int 0])) H := by
  refine Or.inr (Or.inl ⟨(by show xt_cl.length ≤ 14; decide), ha, ("java/lang/String", xt_U0, 2), rfl, ?_, fun j w hw => ?_⟩)
  · obtain ⟨cell, h1, h2, h3, -⟩ := hO
    exact ⟨cell, h1, h2, h3⟩
  · match j, hw with
    | 0, hw => cases hw; exact hv
    | 1, hw => cases hw; exact hc
    | j + 2, hw => simp at hw
set_option maxHeartbeats 1000000 in
theorem xi_start {args : Array Value} {s : State} {b L : Nat} {xs : Nat → Int32} (hts : ∀ w ∈ lw_tbl, w.before args s = true) (hX : va_X b L xs s s.heap) (hbl : b < s.heap.size) (hgv : (Jvm.Cond.and given_1 narrow_1).before args s = true) : ∃ (z : Value) (ad : Nat → Nat) (D : va_G), (z = .null ∨ ∃ k, z = .ref k) ∧ xx_ad 12 s.heap.size ad ∧ ad 0 = b ∧ xx_rep D xt_cl xt_ol ad 12 s.heap.size s (xi_h0 L xs) s.heap ∧ xx_K D xt_cl xt_nst xt_strs (xt_stv z) ad s.heap.size s s.heap := by
  have hA : ∀ a : Nat, a < s.heap.size → ¬ (fun q => s.heap.size ≤ q) a := fun a h => Nat.not_le.mpr h
  obtain ⟨adK, adV, hV, hTm⟩ := xi_strs (A := fun q => s.heap.size ≤ q) hgv hA
  have hKlt : ∀ i, i < 4 → adK i < s.heap.size := fun i hi => by
    obtain ⟨cell, h1, -⟩ := (hV.1 i hi).1
    exact (Array.getElem?_eq_some_iff.mp h1).1
  have hVlt : ∀ i, i < 4 → adV i < s.heap.size := fun i hi => by
    obtain ⟨cell, h1, -⟩ := (hV.1 i hi).2.2.2
    exact (Array.getElem?_eq_some_iff.mp h1).1
  have hZ0 : va_Z "java/lang/String" "COMPACT_STRINGS" "Z" (.int 1) (fun q => s.heap.size ≤ q) s s.heap := va_Zof (hts _ xi_ls_0) (hts _ xi_in_0) (va_eqi (xi_at hgv _ xi_f0)) hA
  obtain ⟨dt, hdv, hT⟩ := va_Tof (f := fun _ => .null) (A := fun q => s.heap.size ≤ q) (N := 0) (by decide) (xi_at hgv _ xi_f2) (va_eqt (xi_at hgv _ xi_f3)) (fun j hj => absurd hj (Nat.not_lt_zero j)) hA
  have hZ2 := va_Zref (A := fun q => s.heap.size ≤ q) (hts _ xi_ls_2) (hts _ xi_in_2) hdv hA
  have hdt : dt < s.heap.size := by
    obtain ⟨cell, h1, -⟩ := hT
    exact (Array.getElem?_eq_some_iff.mp h1).1
  obtain ⟨tt, htv, hTt⟩ := va_Tof (f := fun j => .int (xi_tk.getD j 0)) (A := fun q => s.heap.size ≤ q) (N := 14) (by decide) (xi_at hgv _ xi_f4) (va_eqt (xi_at hgv _ xi_f5)) (fun j hj => va_eqt (xi_at hgv _ (xi_tks j hj))) hA
  have hZ3 := va_Zref (A := fun q => s.heap.size ≤ q) (hts _ xi_ls_3) (hts _ xi_in_3) htv hA
  have htt : tt < s.heap.size := by
    obtain ⟨cell, h1, -⟩ := hTt
    exact (Array.getElem?_eq_some_iff.mp h1).1
  have htkv : ∀ {ad : Nat → Nat} (j : Nat) (v : Value), (xi_tk.map Value.int)[j]? = some v → xx_v ad v = .int (xi_tk.getD j 0) := by
    intro ad j v hj
    rw [List.getElem?_map] at hj
    obtain ⟨x, hx, rfl⟩ := Option.map_eq_some_iff.mp hj
    rw [List.getD_eq_getElem?_getD, hx]
    rfl
  obtain ⟨z, zt, hz, hzt, hZ1⟩ : ∃ (z : Value) (zt : Nat), (z = .null ∨ ∃ k, z = .ref k) ∧ zt < s.heap.size ∧ ∀ ad : Nat → Nat, ad 9 = zt → (∀ i, ad (i + 12) = s.heap.size + i) → va_Z "jdk/internal/util/Preconditions" "SIOOBE_FORMATTER" "Ljava/util/function/BiFunction;" (xx_v ad z) (fun q => s.heap.size ≤ q) s s.heap := by
    rcases va_Zqof (A := fun q => s.heap.size ≤ q) (hts _ xi_ls_1) (hts _ xi_in_1) (xi_at hgv _ xi_f1) hA with h | ⟨t, h⟩
    · exact ⟨.null, b, Or.inl rfl, hbl, fun ad _ _ => h⟩
    · by_cases ht : t < s.heap.size
      · exact ⟨.ref 9, t, Or.inr ⟨_, rfl⟩, ht, fun ad e _ => by rw [show xx_v ad (.ref 9) = .ref (ad 9) from rfl, e]; exact h⟩
      · refine ⟨.ref (t - s.heap.size + 12), b, Or.inr ⟨_, rfl⟩, hbl, fun ad _ e => ?_⟩
        rw [show xx_v ad (.ref (t - s.heap.size + 12)) = .ref (ad (t - s.heap.size + 12)) from rfl, e, show s.heap.size + (t - s.heap.size) = t by omega]
        exact h
  have hD0 : ∀ c : Nat, ∃ q : ClassId × (Nat → Nat), ∀ r : vw_C, xt_cl[c]? = some r → u_Kn s r.1 r.2.1 r.2.2 q.1 q.2 := by
    intro c
    cases hr : xt_cl[c]? with
    | none => exact ⟨(0, fun _ => 0), fun r h => by cases h⟩
    | some r =>
      have hi := xi_inss c
      unfold xi_insB at hi
      rw [hr] at hi
      have hw := (List.mem_filter.mp (xk_w_ok hi)).1
      obtain ⟨cC, iS, hk⟩ := u_known (C := r.1) (T := r.2.1) (N := r.2.2) hts (fun w hw => (List.mem_filter.mp (xk_cl hr w hw)).1) (hts _ hw)
      exact ⟨(cC, iS), fun r' h => by cases h; exact hk⟩
  obtain ⟨dd, hdd⟩ := Classical.axiomOfChoice hD0
  have hscr : xx_at (fun c => (dd c).1, fun c => (dd c).2) xt_cl xt_ol (xi_ad b s.heap.size zt dt tt adK adV) s.heap.size s b (.inl (.int, (List.range L).map (fun j => .int (xs j)))) s.heap := by
    obtain ⟨scr, h1, h2, h3, h4, h5⟩ := hX
    refine ⟨scr, h1, h2, h3, by simp [h4], by simp [h4], fun j v hj => ?_, fun q => absurd q (Nat.not_le.mpr hbl)⟩
    have hlt := (List.getElem?_eq_some_iff.mp hj).1
    simp at hlt
    simp [hlt] at hj
    subst hj
    exact h5 j hlt
  have hbyt : ∀ (i j : Nat) (v : Value), ((xi_byt.getD i []).map Value.int)[j]? = some v → xx_v (xi_ad b s.heap.size zt dt tt adK adV) v = .int ((xi_byt.getD i []).getD j 0) := by
    intro i j v hj
    rw [List.getElem?_map] at hj
    obtain ⟨x, hx, rfl⟩ := Option.map_eq_some_iff.mp hj
    rw [List.getD_eq_getElem?_getD, hx]
    rfl
  refine ⟨z, xi_ad b s.heap.size zt dt tt adK adV, (fun c => (dd c).1, fun c => (dd c).2), hz, ⟨fun i hi => ?_, fun i hi => ?_⟩, rfl, ⟨Nat.le_refl _, by show s.heap.size = s.heap.size + (12 - 12); omega, fun i e he => ?_⟩, ⟨fun c r hc => hdd c r hc, fun k q h => by simp at h⟩, fun w hw => ?_, fun q hq => ?_, fun q hq => ?_, va_Mi.of (xi_at hgv _ xi_f6)⟩
  · obtain ⟨i', rfl⟩ : ∃ i', i = i' + 12 := ⟨i - 12, by omega⟩
    show s.heap.size + i' = s.heap.size + (i' + 12 - 12)
    omega
  · match i, hi with
    | 0, _ => exact hbl
    | 1, _ => exact hKlt 0 (by decide)
    | 2, _ => exact hVlt 0 (by decide)
    | 3, _ => exact hKlt 1 (by decide)
    | 4, _ => exact hVlt 1 (by decide)
    | 5, _ => exact hKlt 2 (by decide)
    | 6, _ => exact hVlt 2 (by decide)
    | 7, _ => exact hKlt 3 (by decide)
    | 8, _ => exact hVlt 3 (by decide)
    | 9, _ => exact hzt
    | 10, _ => exact hdt
    | 11, _ => exact htt
    | i + 12, h => exact absurd h (by omega)
  · match i, he with
    | 0, he => cases he; exact hscr
    | 1, he => cases he; exact xi_str (hKlt 0 (by decide)) (hV.1 0 (by decide)).1 (hV.1 0 (by decide)).2.1 (hV.1 0 (by decide)).2.2.1
    | 2, he => cases he; exact xi_arr (hV.1 0 (by decide)).2.2.2 (hVlt 0 (by decide)) (by decide) (fun j v hj => hbyt 0 j v hj)
    | 3, he => cases he; exact xi_str (hKlt 1 (by decide)) (hV.1 1 (by decide)).1 (hV.1 1 (by decide)).2.1 (hV.1 1 (by decide)).2.2.1
    | 4, he => cases he; exact xi_arr (hV.1 1 (by decide)).2.2.2 (hVlt 1 (by decide)) (by decide) (fun j v hj => hbyt 1 j v hj)
    | 5, he => cases he; exact xi_str (hKlt 2 (by decide)) (hV.1 2 (by decide)).1 (hV.1 2 (by decide)).2.1 (hV.1 2 (by decide)).2.2.1
    | 6, he => cases he; exact xi_arr (hV.1 2 (by decide)).2.2.2 (hVlt 2 (by decide)) (by decide) (fun j v hj => hbyt 2 j v hj)
    | 7, he => cases he; exact xi_str (hKlt 3 (by decide)) (hV.1 3 (by decide)).1 (hV.1 3 (by decide)).2.1 (hV.1 3 (by decide)).2.2.1
    | 8, he => cases he; exact xi_arr (hV.1 3 (by decide)).2.2.2 (hVlt 3 (by decide)) (by decide) (fun j v hj => hbyt 3 j v hj)
    | 9, he => cases he; exact Or.inl ⟨by decide, hzt⟩
    | 10, he => cases he; exact xi_arr hT hdt rfl (fun j v hj => by simp at hj)
    | 11, he => cases he; exact xi_arr hTt htt (by decide) htkv
    | i + 12, he => simp [xi_h0] at he
  · obtain ⟨h1, h2⟩ := List.mem_filter.mp hw
    have h3 := hts w h1
    unfold xx_nest at h2
    split at h2
    · exact va_Nw.of rfl h3
    · exact va_Nw.of rfl h3
    · exact va_Nw.of rfl h3
    · exact va_Nw.of rfl h3
    · exact va_AO.of h3
    · cases h2
  · simp only [xt_strs, List.mem_cons, List.not_mem_nil, or_false] at hq
    rcases hq with rfl | rfl | rfl | rfl | rfl | rfl
    · exact vk_R.of (hts _ xi_sr_0) (hTm 0 (by decide))
    · exact vk_R.of (hts _ xi_sr_1) (hTm 1 (by decide))
    · exact vk_R.of (hts _ xi_sr_2) (hTm 2 (by decide))
    · exact vk_R.of (hts _ xi_sr_3) (hTm 3 (by decide))
    · exact vk_R.of (hts _ xi_sx_0) (va_eqR (xi_at hgv _ xi_sq_0) (hTm 3 (by decide)))
    · exact vk_R.of (hts _ xi_sx_1) (va_eqR (xi_at hgv _ xi_sq_1) (hTm 3 (by decide)))
  · simp only [xt_stv, List.mem_cons, List.not_mem_nil, or_false] at hq
    rcases hq with rfl | rfl | rfl | rfl
    · exact hZ0
    · exact hZ1 _ rfl (fun _ => rfl)
    · exact hZ2
    · exact hZ3

