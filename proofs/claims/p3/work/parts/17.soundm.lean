/-! THE EXECUTOR IS SOUND -/
/-- a step keeps the number of locals -/
theorem xa_len {i : Instr} {pc pc' : Nat} {ls ls' : xx_L} {st st' : List Value} (hs : xa_step i pc ls st = some (pc', ls', st')) : ls'.length = ls.length := by
  have s1 : ∀ (j : Nat) (v : Value), (xx_set1 ls j v).length = ls.length := fun j v => xx_set1_len ls j v
  have s2 : ∀ (j : Nat) (v : Value), (xx_set2 ls j v).length = ls.length := fun j v => by simp [xx_set2, xx_set1_len]
  have j1 : ∀ {off : Int} {r : List Value}, xa_jmp pc off ls r = some (pc', ls', st') → ls'.length = ls.length := fun z => by rw [(xa_jmp_some z).2.1]
  have j2 : ∀ {b : Bool} {off : Int} {r : List Value}, xa_if b pc off ls r = some (pc', ls', st') → ls'.length = ls.length := fun z => by
    obtain ⟨t, -, -, e1, -⟩ := xa_if_some z
    rw [e1]
  cases i <;> simp only [xa_step, xa_ild, xa_lld, xa_ald, xa_ist, xa_lst, xa_ast, xa_inc, xa_ii, xa_iid, xa_ll, xa_lld0, xa_li, xa_i, xa_icmp, xa_ifc, xa_table, xa_look] at hs <;>
    (repeat' split at hs) <;>
    first
      | (cases hs; done)
      | (cases hs; rfl)
      | exact j1 hs
      | exact j2 hs
      | (obtain ⟨-, hs⟩ := xa_g_some hs; cases hs; rfl)
      | (obtain ⟨-, hs⟩ := xa_g_some hs; exact j1 hs)
      | (obtain ⟨-, hs⟩ := xa_g_some hs; cases hs; exact s1 _ _)
      | (obtain ⟨-, hs⟩ := xa_g_some hs; cases hs; exact s2 _ _)
      | (cases hs; exact s1 _ _)
theorem xx_run_mono {P : xx_P} {Rc : Nat → List Value → xx_H → xx_R} (hR : ∀ q as h v h1, Rc q as h = some (v, h1) → h.length ≤ h1.length ∧ xx_sz h ≤ xx_sz h1) : ∀ (f k pc : Nat) (ls : xx_L) (st : List Value) (h : xx_H) (v : Option Value) (h1 : xx_H), xx_run P Rc f k pc ls st h = some (v, h1) → h.length ≤ h1.length ∧ xx_sz h ≤ xx_sz h1 := by
  intro f
  induction f with
  | zero => intro k pc ls st h v h1 hs; cases hs
  | succ f ih =>
    intro k pc ls st h v h1 hs
    unfold xx_run at hs
    split at hs
    · cases hs
    · split at hs
      · exact ih _ _ _ _ _ _ _ hs
      · split at hs
        · rename_i hb
          have e1 := xb_mono hb
          have e2 := ih _ _ _ _ _ _ _ hs
          exact ⟨Nat.le_trans e1.1 e2.1, Nat.le_trans e1.2 e2.2⟩
        · split at hs
          · exact ih _ _ _ _ _ _ _ hs
          · split at hs
            · split at hs
              · rename_i hc
                have e1 := hR _ _ _ _ _ hc
                have e2 := ih _ _ _ _ _ _ _ hs
                exact ⟨Nat.le_trans e1.1 e2.1, Nat.le_trans e1.2 e2.2⟩
              · cases hs
            · split at hs
              · cases hs
                exact ⟨Nat.le_refl _, Nat.le_refl _⟩
              · cases hs
theorem xx_call_mono {P : xx_P} {F : Nat} : ∀ (d q : Nat) (as : List Value) (h : xx_H) (v : Option Value) (h1 : xx_H), xx_call P F d q as h = some (v, h1) → h.length ≤ h1.length ∧ xx_sz h ≤ xx_sz h1 := by
  intro d
  induction d with
  | zero => intro q as h v h1 hs; cases hs
  | succ d ih =>
    intro q as h v h1 hs
    unfold xx_call at hs
    split at hs
    · exact xx_run_mono ih _ _ _ _ _ _ _ _ hs
    · cases hs
theorem xc_okm {P : xx_P} {Ts nst : List Cond} {cl ol : List vw_C} {on : Nat → String} {nm : Nat → MethodName} {bt : Nat → ByteArray} {k q : Nat} {i : Instr} {st as r : List Value} {h : xx_H} (hok : xx_OKc P Ts nst cl ol on nm bt) (hs : xc_step P k i st h = some (q, as, r)) : xx_okm P Ts on nm bt q := by
  obtain ⟨-, -, oksm, okpm, okp0, okvm, -⟩ := hok
  cases i with
  | invokestatic n =>
    simp only [xc_step] at hs
    split at hs
    · rename_i q' n' hq
      obtain ⟨rfl, -⟩ := xc_cut_some hs
      exact (oksm _ _ _ _ hq).1
    · cases hs
  | invokespecial n =>
    simp only [xc_step] at hs
    split at hs
    · rename_i q' n' hq
      split at hs
      · obtain ⟨rfl, -⟩ := xc_cut_some hs
        have hpos := okp0 _ _ _ _ hq
        obtain ⟨n2, rfl⟩ : ∃ n2, n' = n2 + 1 := ⟨n' - 1, by omega⟩
        exact (okpm _ _ _ _ hq).1
      · cases hs
    · cases hs
  | invokevirtual n =>
    simp only [xc_step] at hs
    split at hs
    · rename_i n' lst hq
      split at hs
      · rename_i ci hci
        split at hs
        · rename_i q' hlook
          obtain ⟨rfl, -⟩ := xc_cut_some hs
          exact (okvm _ _ _ _ _ _ hq hlook).2.1
        · cases hs
      · cases hs
    · cases hs
  | _ => cases hs
/-- the locals at the entry -/
theorem xx_args_len {ad : Nat → Nat} (as : List Value) : (lg_sl (as.map (xx_v ad))).length = (xx_args as).length := by
  induction as with
  | nil => rfl
  | cons v l ih => cases v <;> simp_all [lg_sl, xx_args, xx_v, Value.category]
theorem xx_args_at {ad : Nat → Nat} (as : List Value) : ∀ (n i : Nat) (v : Value), (xx_args as)[i]? = some (some v) → (n + i, xx_v ad v) ∈ lv_args n (as.map (xx_v ad)) := by
  induction as with
  | nil => intro n i v h; simp [xx_args] at h
  | cons a l ih =>
    intro n i v h
    by_cases hc : a.category = 2
    · have e1 : xx_args (a :: l) = some a :: none :: xx_args l := by cases a <;> first | rfl | cases hc
      rw [e1] at h
      have e2 : lv_args n ((a :: l).map (xx_v ad)) = (n, xx_v ad a) :: lv_args (n + 2) (l.map (xx_v ad)) := by
        show (n, xx_v ad a) :: lv_args (if (xx_v ad a).category = 2 then n + 2 else n + 1) (l.map (xx_v ad)) = _
        rw [xx_v_cat, if_pos hc]
      rw [e2]
      match i, h with
      | 0, h => simp at h; subst h; exact List.mem_cons_self
      | 1, h => simp at h
      | i + 2, h =>
        have h2 := ih (n + 2) i v (by simpa using h)
        rw [show n + (i + 2) = n + 2 + i by omega]
        exact List.mem_cons_of_mem _ h2
    · have e1 : xx_args (a :: l) = some a :: xx_args l := by cases a <;> first | rfl | exact absurd rfl hc
      rw [e1] at h
      have e2 : lv_args n ((a :: l).map (xx_v ad)) = (n, xx_v ad a) :: lv_args (n + 1) (l.map (xx_v ad)) := by
        show (n, xx_v ad a) :: lv_args (if (xx_v ad a).category = 2 then n + 2 else n + 1) (l.map (xx_v ad)) = _
        rw [xx_v_cat, if_neg hc]
      rw [e2]
      match i, h with
      | 0, h => simp at h; subst h; exact List.mem_cons_self
      | i + 1, h =>
        have h2 := ih (n + 1) i v (by simpa using h)
        rw [show n + (i + 1) = n + 1 + i by omega]
        exact List.mem_cons_of_mem _ h2
theorem xx_ent_len {n : Nat} {as : List Value} (h : (xx_args as).length ≤ n) : (xx_ent n as).length = n := by simp [xx_ent]; omega
theorem xx_ent_has {ad : Nat → Nat} {n : Nat} {as : List Value} {L : Array Slot} (hn : (xx_args as).length ≤ n) (h : lv_has L n (lv_args 0 (as.map (xx_v ad)))) : xx_has ad (xx_ent n as) L := by
  refine ⟨by rw [xx_ent_len hn]; exact h.1, h.2.1, fun i v hv => ?_⟩
  unfold xx_ent at hv
  by_cases hi : i < (xx_args as).length
  · rw [List.getElem?_append_left hi] at hv
    have := xx_args_at (ad := ad) as 0 i v hv
    rw [Nat.zero_add] at this
    exact h.2.2 _ this
  · rw [List.getElem?_append_right (Nat.le_of_not_lt hi)] at hv
    have := List.mem_of_getElem? hv
    rw [List.mem_replicate] at this
    cases this.2
section XXM
variable {p : Program} {l : Launch} {e : Env} {R : Room} {s : State} {m : MethodId} {args : Array Value} {below : List Frame} {meth : Method} {c : Code} {Q : State → Prop}
variable {cc : ByteArray} {ad : Nat → Nat} {base : Nat} {D : va_G} {cl ol : List vw_C} {P : xx_P} {Ts nst : List Cond} {on : Nat → String} {strs : List (String × Nat × String × Nat)} {stv : List (String × String × String × Value)} {k : Nat} {nm : Nat → MethodName} {bt : Nat → ByteArray}
set_option maxHeartbeats 1000000 in
theorem xx_run_sound {F d c0 s0 : Nat} {v : Option Value} {h1 : xx_H} (hexec : p.tables.exec = Jvm.exec) (hb : c.code = bt k) (hml : c.maxLocals = xp_nl P k) (hts : ∀ w ∈ Ts, w.before args s = true) (hK : xx_K D cl nst strs stv ad base s s.heap) (hown : s.vm.findClass (on (xp_own P k)) = some m.cls) (hini : xp_ini P k = true → meth.name = "<init>") (hokb : xx_OKb P Ts nst cl ol on strs stv) (hokc : xx_OKc P Ts nst cl ol on nm bt) (ha : xx_ad (xp_n0 P) base ad)
    (hfr : d + 1 ≤ R.frames) (hlo : (d + 1) * 60 ≤ R.locals)
    (IH : ∀ q as h v h1, xx_okm P Ts on nm bt q → xx_call P F d q as h = some (v, h1) → xx_Met l P Ts nst cl ol D strs stv ad base nm bt d q as h v h1)
    (hcells : h1.length - c0 ≤ R.cells) (hslots : xx_sz h1 - s0 ≤ R.slots)
    (hret : ∀ (pc : Nat) (i : Instr) (L : Array Slot) (H : Heap) (locs : List Loc) (st : List Value), xx_dec (bt k) pc i → xr_step (xp_ret P k) i st = some v → xx_S D cl ol ad (xp_n0 P) base s h1 H locs → W p l e R s m args below meth c H locs (h1.length - c0) (xx_sz h1 - s0) Q (F0 m pc L (st.map (xx_v ad)))) :
    ∀ (f pc : Nat) (ls : xx_L) (st : List Value) (h : xx_H) (H : Heap) (locs : List Loc) (L : Array Slot), xx_run P (xx_call P F d) f k pc ls st h = some (v, h1) → ls.length = xp_nl P k → xx_has ad ls L → xx_S D cl ol ad (xp_n0 P) base s h H locs → c0 ≤ h.length → s0 ≤ xx_sz h → W p l e R s m args below meth c H locs (h.length - c0) (xx_sz h - s0) Q (F0 m pc L (st.map (xx_v ad))) := by
  intro f
  induction f with
  | zero => intro pc ls st h H locs L hs; cases hs
  | succ f ih =>
    intro pc ls st h H locs L hs hll hL hS hc0 hs0
    have hmo := xx_run_mono (fun q as h v h1 z => xx_call_mono d q as h v h1 z) _ _ _ _ _ _ _ _ hs
    unfold xx_run at hs
    split at hs
    · cases hs
    · rename_i i hi
      have hdg := hokc.1 k pc i hi
      split at hs
      · rename_i pc' ls' st' hstep
        refine xa_sound hexec hb hdg hstep hL (fun L1 hL1 => ih _ _ _ _ _ _ _ hs ?_ hL1 hS hc0 hs0)
        rw [xa_len hstep]; exact hll
      · split at hs
        · rename_i pc' st' h' hstep
          have e1 := xb_mono hstep
          have e2 := xx_run_mono (fun q as h v h1 z => xx_call_mono d q as h v h1 z) _ _ _ _ _ _ _ _ hs
          refine xb_sound hexec hb hts hK hown hini hokb ha hdg hstep hS (by omega) (by omega) (fun H' locs' hS' => ?_)
          exact W.cs (by omega) (by omega) (ih _ _ _ _ _ _ _ hs hll hL hS' (by omega) (by omega))
        · split at hs
          · rename_i st' hstep
            unfold xo_step at hstep
            split at hstep
            · rename_i n
              split at hstep
              · rename_i hobi
                obtain ⟨o1, o2, o3⟩ := hokc.2.2.2.2.2.2.1 _ _ hobi
                split at hstep
                · rename_i a r
                  split at hstep
                  · rename_i hcat
                    cases hstep
                    refine W.objInit hexec hb hown (hts _ o1) (hts _ o2) (hts _ o3) rfl (by rw [hml, ← hll]; exact hL.1) rfl (xx_dec1 hdg rfl) (by omega) ?_ (ih _ _ _ _ _ _ _ hs hll hL hS hc0 hs0)
                    have hcat := Nat.le_of_ble_eq_true hcat
                    show 2 * 0 + _ + 12 ≤ _
                    rw [xx_cats]
                    omega
                  · cases hstep
                · cases hstep
              · cases hstep
            · rename_i n
              split at hstep
              · rename_i hobi
                obtain ⟨o1, o2, o3, o4⟩ := hokc.2.2.2.2.2.2.2.1 _ _ hobi
                split at hstep
                · rename_i y x r
                  split at hstep
                  · rename_i hcat
                    cases hstep
                    have hcat := Nat.le_of_ble_eq_true hcat
                    refine va_mmax hexec hb (by rw [hml, ← hll]; exact hL.1.symm) hown (hts _ o1) (hts _ o2) (hts _ o3) (hts _ o4) (by omega) ?_ (by omega) (by omega) (xx_dec1 hdg rfl) (ih _ _ _ _ _ _ _ hs hll hL hS hc0 hs0)
                    rw [xx_cats]
                    omega
                  · cases hstep
                · cases hstep
              · rename_i hobi
                obtain ⟨o1, o2, o3, o4⟩ := hokc.2.2.2.2.2.2.2.2 _ _ hobi
                split at hstep
                · rename_i y x r
                  split at hstep
                  · rename_i hcat
                    cases hstep
                    have hcat := Nat.le_of_ble_eq_true hcat
                    refine va_mmin hexec hb (by rw [hml, ← hll]; exact hL.1.symm) hown (hts _ o1) (hts _ o2) (hts _ o3) (hts _ o4) (by omega) ?_ (by omega) (by omega) (xx_dec1 hdg rfl) (ih _ _ _ _ _ _ _ hs hll hL hS hc0 hs0)
                    rw [xx_cats]
                    omega
                  · cases hstep
                · cases hstep
              · cases hstep
            · cases hstep
          · split at hs
            · rename_i q as r hstep
              split at hs
              · rename_i v' h' hcall
                have e1 := xx_call_mono d q as h v' h' hcall
                have e2 := xx_run_mono (fun q as h v h1 z => xx_call_mono d q as h v h1 z) _ _ _ _ _ _ _ _ hs
                refine xc_sound hexec hb (by rw [hml, ← hll]; exact hL.1.symm) hts hK hown hokb.2.2.2.2.2.2.2 hokc hdg hstep (IH q as h v' h' (xc_okm hokc hstep) hcall) e1.1 hS hfr hlo (by omega) (by omega) (fun H' locs' hS' => ?_)
                exact W.cs (by omega) (by omega) (ih _ _ _ _ _ _ _ hs hll hL hS' (by omega) (by omega))
              · cases hs
            · split at hs
              · rename_i v' hstep
                cases hs
                exact hret pc i L H locs st hdg hstep hS
              · cases hs
set_option maxHeartbeats 1000000 in
/-- every call that the executor runs is a contract of the machine -/
theorem xx_sound {l : Launch} (F : Nat) (hokb : xx_OKb P Ts nst cl ol on strs stv) (hokc : xx_OKc P Ts nst cl ol on nm bt) (ha : xx_ad (xp_n0 P) base ad) : ∀ (d q : Nat) (as : List Value) (h : xx_H) (v : Option Value) (h1 : xx_H), xx_okm P Ts on nm bt q → xx_call P F d q as h = some (v, h1) → xx_Met l P Ts nst cl ol D strs stv ad base nm bt d q as h v h1 := by
  intro d
  induction d with
  | zero => intro q as h v h1 _ hs; cases hs
  | succ d ih =>
    intro q as h v h1 hok hs
    unfold xx_call at hs
    split at hs
    · rename_i hle
      have hle := Nat.le_of_ble_eq_true hle
      unfold xx_Met
      refine Met.ofW (cc := bt q) (maxL := xp_nl P q) (ret := xp_ret P q) hok.2.2.2.1 rfl ?_
      intro p e s m args below meth c s₁ B hml hv
      obtain ⟨rfl, hrep, hK⟩ := hv
      have hts0 := atoms_spec (ws := Cond.code (nm q) (bt q) (xp_nl P q) (xp_ret P q) :: Ts) B.pre
      have hts : ∀ w ∈ Ts, w.before (as.map (xx_v ad)).toArray s = true := fun w hw => hts0 w (List.mem_cons_of_mem _ hw)
      have hown : s.vm.findClass (on (xp_own P q)) = some m.cls := by rw [hok.2.2.2.2.1]; exact findClass_of_methodNamed B.named
      have hin : meth.name = (nm q).name := (name_of_methodNamed B.named B.method).1
      have hl := lv_entry (as.map (xx_v ad)) (n := xp_nl P q) (by rw [xx_args_len]; exact hle)
      rw [lg_entry_eq]
      generalize (lg_sl (as.map (xx_v ad)) ++ List.replicate (xp_nl P q - (lg_sl (as.map (xx_v ad))).length) Slot.unset).toArray = L at hl ⊢
      have hS0 : xx_S D cl ol ad (xp_n0 P) base s h s.heap [] := ⟨hrep, fun _ _ => rfl, fun x hx => (by cases hx), Nat.le_refl _⟩
      have hrun := xx_run_sound (e := e) (below := below) (Q := MQ below (xx_Qc D cl ol ad (xp_n0 P) base v h1) (as.map (xx_v ad)).toArray s (h1.length - h.length) (xx_sz h1 - xx_sz h) (fun q => base ≤ q)) (c0 := h.length) (s0 := xx_sz h) (R := (headSpec (Cond.code (nm q) (bt q) (xp_nl P q) (xp_ret P q) :: Ts) { frames := d + 1, cells := h1.length - h.length, slots := xx_sz h1 - xx_sz h, locals := (d + 1) * 60 }).room) B.exec B.bytes hml hts hK hown (fun z => by rw [hin]; exact hok.2.2.2.2.2.1 z) hokb hokc ha (Nat.le_refl _) (Nat.le_refl _) ih (Nat.le_refl _) (Nat.le_refl _)
        (fun pc i L H locs st hdg hr hS => xr_sound B.exec B.bytes B.returns B.notSynchronized hdg hr (fun t ht hW => ⟨rfl, by rw [ht]; exact xx_rep_moved hW.alike hS.1, fun q hq => by rw [ht]; exact hS.2.1 q hq⟩) hS.2.2.1)
        F 0 (xx_ent (xp_nl P q) as) [] h s.heap [] L hs (xx_ent_len hle) (xx_ent_has hle hl) hS0 (Nat.le_refl _) (Nat.le_refl _)
      exact W.cs (by omega) (by omega) hrun
    · cases hs
end XXM
