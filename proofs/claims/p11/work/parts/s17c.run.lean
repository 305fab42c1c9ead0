section XXM
variable {p : Program} {l : Launch} {e : Env} {R : Room} {s : State} {m : MethodId} {args : Array Value} {below : List Frame} {meth : Method} {c : Code} {Q : State → Prop}
variable {cc : ByteArray} {ad : Nat → Nat} {base : Nat} {D : va_G} {cl ol : List vw_C} {P : xx_P} {Ts nst : List Cond} {on : Nat → String} {strs : List (String × Nat × String × Nat)} {stv : List (String × String × String × Value)} {k : Nat} {nm : Nat → MethodName} {bt : Nat → ByteArray}
set_option maxHeartbeats 1000000 in
theorem xx_run_sound {F d c0 s0 : Nat} {v : Option Value} {h1 : xx_H} (hexec : p.tables.exec = Jvm.exec) (hb : c.code = bt k) (hml : c.maxLocals = xp_nl P k) (hts : ∀ w ∈ Ts, w.before args s = true) (hK : xx_K D cl nst strs stv ad base s s.heap) (hown : s.vm.findClass (on (xp_own P k)) = some m.cls) (hini : xp_ini P k = true → meth.name = "<init>") (hokb : xx_OKb P Ts nst cl ol on strs stv) (hokc : xx_OKc P Ts nst cl ol on nm bt) (ha : xx_ad (xp_n0 P) base ad)
    (hfr : d + 3 ≤ R.frames) (hlo : (d + 3) * 60 ≤ R.locals)
    (IH : ∀ q as h v h1, xx_okm P Ts on nm bt q → xx_call P F d q as h = some (v, h1) → xx_Met l P Ts nst cl ol D strs stv ad base nm bt d q as h v h1)
    (hcells : h1.length - c0 ≤ R.cells) (hslots : xx_sz h1 - s0 ≤ R.slots)
    (hret : ∀ (pc : Nat) (i : Instr) (L : Array Slot) (H : Heap) (locs : List Loc) (st : List Value), xx_dec (bt k) pc i → xr_step (xp_ret P k) i st = some v → xx_S D cl ol ad (xp_n0 P) base s h1 H locs → W p l e R s m args below meth c H locs (h1.length - c0) (xx_sz h1 - s0) Q (F0 m pc L (st.map (xx_v ad)))) :
    ∀ (f pc : Nat) (ls : xx_L) (st : List Value) (h : xx_H) (H : Heap) (locs : List Loc) (L : Array Slot), xx_run P (xx_call P F d) f k pc ls st h = some (v, h1) → ls.length = xp_nl P k → xx_has ad ls L → xx_S D cl ol ad (xp_n0 P) base s h H locs → c0 ≤ h.length → s0 ≤ xx_sz h → W p l e R s m args below meth c H locs (h.length - c0) (xx_sz h - s0) Q (F0 m pc L (st.map (xx_v ad))) := by
  intro f
  induction f with
  | zero => intro pc ls st h H locs L hs; cases hs
  | succ f ih =>
    intro pc ls st h H locs L hs hll hL hS hc0 hs0
    have hmo := xx_run_mono (fun q as h v h1 z => xx_call_mono d q as h v h1 z) _ _ _ _ _ _ _ _ hs
    unfold xx_run at hs
    split at hs
    · cases hs
    · rename_i i hi
      have hdg := hokc.1 k pc i hi
      split at hs
      · rename_i pc' ls' st' hstep
        refine xa_sound hexec hb hdg hstep hL (fun L1 hL1 => ih _ _ _ _ _ _ _ hs ?_ hL1 hS hc0 hs0)
        rw [xa_len hstep]; exact hll
      · split at hs
        · rename_i pc' st' h' hstep
          have e1 := xb_mono hstep
          have e2 := xx_run_mono (fun q as h v h1 z => xx_call_mono d q as h v h1 z) _ _ _ _ _ _ _ _ hs
          refine xb_sound hexec hb hts hK hown hini hokb ha hdg hstep hS (by omega) (by omega) (fun H' locs' hS' => ?_)
          exact W.cs (by omega) (by omega) (ih _ _ _ _ _ _ _ hs hll hL hS' (by omega) (by omega))
        · split at hs
          · rename_i st' h' hstep
            have e1 := xo_mono hstep
            have e2 := xx_run_mono (fun q as h v h1 z => xx_call_mono d q as h v h1 z) _ _ _ _ _ _ _ _ hs
            unfold xo_step at hstep
            split at hstep
            · rename_i n
              split at hstep
              · rename_i hobi
                obtain ⟨o1, o2, o3⟩ := hokc.2.2.2.2.2.2.1 _ _ hobi
                split at hstep
                · rename_i a r
                  split at hstep
                  · rename_i hcat
                    cases hstep
                    refine W.objInit hexec hb hown (hts _ o1) (hts _ o2) (hts _ o3) rfl (by rw [hml, ← hll]; exact hL.1) rfl (xx_dec1 hdg rfl) (by omega) ?_ (ih _ _ _ _ _ _ _ hs hll hL hS hc0 hs0)
                    have hcat := Nat.le_of_ble_eq_true hcat
                    show 2 * 0 + _ + 12 ≤ _
                    rw [xx_cats]
                    omega
                  · cases hstep
                · cases hstep
              · cases hstep
            · rename_i n
              split at hstep
              · rename_i hobi
                obtain ⟨o1, o2, o3, o4⟩ := hokc.2.2.2.2.2.2.2.1 _ _ hobi
                split at hstep
                · rename_i y x r
                  split at hstep
                  · rename_i hcat
                    cases hstep
                    have hcat := Nat.le_of_ble_eq_true hcat
                    refine va_mmax hexec hb (by rw [hml, ← hll]; exact hL.1.symm) hown (hts _ o1) (hts _ o2) (hts _ o3) (hts _ o4) (by omega) ?_ (by omega) (by omega) (xx_dec1 hdg rfl) (ih _ _ _ _ _ _ _ hs hll hL hS hc0 hs0)
                    rw [xx_cats]
                    omega
                  · cases hstep
                · cases hstep
              · rename_i hobi
                obtain ⟨o1, o2, o3, o4⟩ := hokc.2.2.2.2.2.2.2.2.1 _ _ hobi
                split at hstep
                · rename_i y x r
                  split at hstep
                  · rename_i hcat
                    cases hstep
                    have hcat := Nat.le_of_ble_eq_true hcat
                    refine va_mmin hexec hb (by rw [hml, ← hll]; exact hL.1.symm) hown (hts _ o1) (hts _ o2) (hts _ o3) (hts _ o4) (by omega) ?_ (by omega) (by omega) (xx_dec1 hdg rfl) (ih _ _ _ _ _ _ _ hs hll hL hS hc0 hs0)
                    rw [xx_cats]
                    omega
                  · cases hstep
                · cases hstep
              · rename_i hobi
                obtain ⟨o1, o2, o3, o4⟩ := hokc.2.2.2.2.2.2.2.2.2.1 _ _ hobi
                split at hstep
                · rename_i y x r _
                  split at hstep
                  · rename_i hcat
                    cases hstep
                    have hcat := Nat.le_of_ble_eq_true hcat
                    have hg := ih _ _ _ _ _ _ _ hs hll hL hS hc0 hs0
                    have ex : (if x < y then y else x) = if y < x then x else y := xo_maxL x y
                    rw [ex] at hg
                    refine va_mmax_long hexec hb (by rw [hml, ← hll]; exact hL.1.symm) hown (hts _ o1) (hts _ o2) (hts _ o3) (hts _ o4) (by omega) ?_ (by omega) (by omega) (xx_dec1 hdg rfl) hg
                    rw [xx_cats]
                    omega
                  · cases hstep
                · cases hstep
              · rename_i hobi
                obtain ⟨o1, o2, o3, o4⟩ := hokc.2.2.2.2.2.2.2.2.2.2.1 _ _ hobi
                exact xo_copy_ok hexec hb (by rw [hml, ← hll]; exact hL.1.symm) hown (hts _ o1) (hts _ o2) (hts _ o3) (hts _ o4) ha hS (by omega) (by omega) (xx_dec1 hdg rfl) hstep (fun H' locs' z1 z2 hS' => W.cs (by omega) (by omega) (ih _ _ _ _ _ _ _ hs hll hL hS' (by omega) (by omega)))
              · rename_i hobi
                obtain ⟨o1, o2, o3, o4⟩ := hokc.2.2.2.2.2.2.2.2.2.2.2 _ _ hobi
                exact xo_copyO_ok hexec hb (by rw [hml, ← hll]; exact hL.1.symm) hts hK hown hokb.2.2.2.2.2.2.2.2.2.2 hokb.2.2.2.2.2.2.2.1 hokc.2.1 o1 o2 o3 o4 ha hS (by omega) (by omega) (by omega) (by omega) (xx_dec1 hdg rfl) hstep (fun H' locs' hS' => W.cs (by omega) (by omega) (ih _ _ _ _ _ _ _ hs hll hL hS' (by omega) (by omega)))
              · cases hstep
            · cases hstep
          · split at hs
            · rename_i q as r hstep
              split at hs
              · rename_i v' h' hcall
                have e1 := xx_call_mono d q as h v' h' hcall
                have e2 := xx_run_mono (fun q as h v h1 z => xx_call_mono d q as h v h1 z) _ _ _ _ _ _ _ _ hs
                refine xc_sound hexec hb (by rw [hml, ← hll]; exact hL.1.symm) hts hK hown hokb.2.2.2.2.2.2.2.2.2.2 hokc hdg hstep (IH q as h v' h' (xc_okm hokc hstep) hcall) e1.1 hS hfr hlo (by omega) (by omega) (fun H' locs' hS' => ?_)
                exact W.cs (by omega) (by omega) (ih _ _ _ _ _ _ _ hs hll hL hS' (by omega) (by omega))
              · cases hs
            · split at hs
              · rename_i v' hstep
                cases hs
                exact hret pc i L H locs st hdg hstep hS
              · cases hs
set_option maxHeartbeats 1000000 in
theorem xx_sound {l : Launch} (F : Nat) (hokb : xx_OKb P Ts nst cl ol on strs stv) (hokc : xx_OKc P Ts nst cl ol on nm bt) (ha : xx_ad (xp_n0 P) base ad) : ∀ (d q : Nat) (as : List Value) (h : xx_H) (v : Option Value) (h1 : xx_H), xx_okm P Ts on nm bt q → xx_call P F d q as h = some (v, h1) → xx_Met l P Ts nst cl ol D strs stv ad base nm bt d q as h v h1 := by
  intro d
  induction d with
  | zero => intro q as h v h1 _ hs; cases hs
  | succ d ih =>
    intro q as h v h1 hok hs
    unfold xx_call at hs
    split at hs
    · rename_i hle
      have hle := Nat.le_of_ble_eq_true hle
      unfold xx_Met
      refine Met.ofW (cc := bt q) (maxL := xp_nl P q) (ret := xp_ret P q) hok.2.2.2.1 rfl ?_
      intro p e s m args below meth c s₁ B hml hv
      obtain ⟨rfl, hrep, hK⟩ := hv
      have hts0 := atoms_spec (ws := Cond.code (nm q) (bt q) (xp_nl P q) (xp_ret P q) :: Ts) B.pre
      have hts : ∀ w ∈ Ts, w.before (as.map (xx_v ad)).toArray s = true := fun w hw => hts0 w (List.mem_cons_of_mem _ hw)
      have hown : s.vm.findClass (on (xp_own P q)) = some m.cls := by rw [hok.2.2.2.2.1]; exact findClass_of_methodNamed B.named
      have hin : meth.name = (nm q).name := (name_of_methodNamed B.named B.method).1
      have hl := lv_entry (as.map (xx_v ad)) (n := xp_nl P q) (by rw [xx_args_len]; exact hle)
      rw [lg_entry_eq]
      generalize (lg_sl (as.map (xx_v ad)) ++ List.replicate (xp_nl P q - (lg_sl (as.map (xx_v ad))).length) Slot.unset).toArray = L at hl ⊢
      have hS0 : xx_S D cl ol ad (xp_n0 P) base s h s.heap [] := ⟨hrep, fun _ _ => rfl, fun x hx => (by cases hx), Nat.le_refl _⟩
      have hrun := xx_run_sound (e := e) (below := below) (Q := MQ below (xx_Qc D cl ol ad (xp_n0 P) base v h1) (as.map (xx_v ad)).toArray s (h1.length - h.length) (xx_sz h1 - xx_sz h) (fun q => base ≤ q)) (c0 := h.length) (s0 := xx_sz h) (R := (headSpec (Cond.code (nm q) (bt q) (xp_nl P q) (xp_ret P q) :: Ts) { frames := d + 1 + 2, cells := h1.length - h.length, slots := xx_sz h1 - xx_sz h, locals := (d + 1 + 2) * 60 }).room) B.exec B.bytes hml hts hK hown (fun z => by rw [hin]; exact hok.2.2.2.2.2.1 z) hokb hokc ha (Nat.le_refl _) (Nat.le_refl _) ih (Nat.le_refl _) (Nat.le_refl _)
        (fun pc i L H locs st hdg hr hS => xr_sound B.exec B.bytes B.returns B.notSynchronized hdg hr (fun t ht hW => ⟨rfl, by rw [ht]; exact xx_rep_moved hW.alike hS.1, fun q hq => by rw [ht]; exact hS.2.1 q hq⟩) hS.2.2.1)
        F 0 (xx_ent (xp_nl P q) as) [] h s.heap [] L hs (xx_ent_len hle) (xx_ent_has hle hl) hS0 (Nat.le_refl _) (Nat.le_refl _)
      exact W.cs (by omega) (by omega) hrun
    · cases hs
end XXM

