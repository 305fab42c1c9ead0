/-! THE EXECUTOR IS SOUND -/
theorem xx_run_mono {P : xx_P} {Rc : Nat → List Value → xx_H → xx_R} (hR : ∀ q as h v h1, Rc q as h = some (v, h1) → h.length ≤ h1.length ∧ xx_sz h ≤ xx_sz h1) : ∀ (f k pc : Nat) (ls : xx_L) (st : List Value) (h : xx_H) (v : Option Value) (h1 : xx_H), xx_run P Rc f k pc ls st h = some (v, h1) → h.length ≤ h1.length ∧ xx_sz h ≤ xx_sz h1 := by
  intro f
  induction f with
  | zero => intro k pc ls st h v h1 hs; cases hs
  | succ f ih =>
    intro k pc ls st h v h1 hs
    unfold xx_run at hs
    split at hs
    · cases hs
    · split at hs
      · exact ih _ _ _ _ _ _ _ hs
      · split at hs
        · rename_i hb
          have e1 := xb_mono hb
          have e2 := ih _ _ _ _ _ _ _ hs
          exact ⟨Nat.le_trans e1.1 e2.1, Nat.le_trans e1.2 e2.2⟩
        · split at hs
          · exact ih _ _ _ _ _ _ _ hs
          · split at hs
            · split at hs
              · rename_i hc
                have e1 := hR _ _ _ _ _ hc
                have e2 := ih _ _ _ _ _ _ _ hs
                exact ⟨Nat.le_trans e1.1 e2.1, Nat.le_trans e1.2 e2.2⟩
              · cases hs
            · split at hs
              · cases hs
                exact ⟨Nat.le_refl _, Nat.le_refl _⟩
              · cases hs
theorem xx_call_mono {P : xx_P} {F : Nat} : ∀ (d q : Nat) (as : List Value) (h : xx_H) (v : Option Value) (h1 : xx_H), xx_call P F d q as h = some (v, h1) → h.length ≤ h1.length ∧ xx_sz h ≤ xx_sz h1 := by
  intro d
  induction d with
  | zero => intro q as h v h1 hs; cases hs
  | succ d ih =>
    intro q as h v h1 hs
    unfold xx_call at hs
    split at hs
    · exact xx_run_mono ih _ _ _ _ _ _ _ _ hs
    · cases hs
section XXM
variable {p : Program} {l : Launch} {e : Env} {R : Room} {s : State} {m : MethodId} {args : Array Value} {below : List Frame} {meth : Method} {c : Code} {Q : State → Prop}
variable {cc : ByteArray} {ad : Nat → Nat} {base : Nat} {D : va_G} {cl : List vw_C} {P : xx_P} {Ts nst : List Cond} {on : Nat → String} {strs : List (String × Nat × String × Nat)} {stv : List (String × String × String × Value)} {k : Nat} {nm : Nat → MethodName} {bt : Nat → ByteArray}
set_option maxHeartbeats 1000000 in
theorem xx_run_sound {F d c0 s0 : Nat} {v : Option Value} {h1 : xx_H} (hexec : p.tables.exec = Jvm.exec) (hb : c.code = bt k) (hml : c.maxLocals = xp_nl P k) (hts : ∀ w ∈ Ts, w.before args s = true) (hK : xx_K D cl nst strs stv ad base s s.heap) (hown : s.vm.findClass (on (xp_own P k)) = some m.cls) (hini : xp_ini P k = true → meth.name = "<init>") (hokb : xx_OKb P Ts nst cl on strs stv) (hokc : xx_OKc P Ts nst cl on nm bt) (ha : xx_ad (xp_n0 P) base ad)
    (hfr : d + 1 ≤ R.frames) (hlo : (d + 1) * 60 ≤ R.locals)
    (IH : ∀ q as h v h1, xx_call P F d q as h = some (v, h1) → xx_Met l P Ts nst cl D strs stv ad base nm bt d q as h v h1)
    (hcells : h1.length - c0 ≤ R.cells) (hslots : xx_sz h1 - s0 ≤ R.slots)
    (hret : ∀ (pc : Nat) (i : Instr) (L : Array Slot) (H : Heap) (locs : List Loc) (st : List Value), xx_dec (bt k) pc i → xr_step (xp_ret P k) i st = some v → xx_S D cl ad (xp_n0 P) base s h1 H locs → W p l e R s m args below meth c H locs (h1.length - c0) (xx_sz h1 - s0) Q (F0 m pc L (st.map (xx_v ad)))) :
    ∀ (f pc : Nat) (ls : xx_L) (st : List Value) (h : xx_H) (H : Heap) (locs : List Loc) (L : Array Slot), xx_run P (xx_call P F d) f k pc ls st h = some (v, h1) → ls.length = xp_nl P k → xx_has ad ls L → xx_S D cl ad (xp_n0 P) base s h H locs → c0 ≤ h.length → s0 ≤ xx_sz h → W p l e R s m args below meth c H locs (h.length - c0) (xx_sz h - s0) Q (F0 m pc L (st.map (xx_v ad))) := by
  intro f
  induction f with
  | zero => intro pc ls st h H locs L hs; cases hs
  | succ f ih =>
    intro pc ls st h H locs L hs hll hL hS hc0 hs0
    have hmo := xx_run_mono (fun q as h v h1 z => xx_call_mono d q as h v h1 z) _ _ _ _ _ _ _ _ hs
    unfold xx_run at hs
    split at hs
    · cases hs
    · rename_i i hi
      have hdg := hokc.1 k pc i hi
      split at hs
      · rename_i pc' ls' st' hstep
        refine xa_sound hexec hb hdg hstep hL (fun L1 hL1 => ih _ _ _ _ _ _ _ hs ?_ hL1 hS hc0 hs0)
        sorry
      · split at hs
        · rename_i pc' st' h' hstep
          have e1 := xb_mono hstep
          have e2 := xx_run_mono (fun q as h v h1 z => xx_call_mono d q as h v h1 z) _ _ _ _ _ _ _ _ hs
          refine xb_sound hexec hb hts hK hown hini hokb ha hdg hstep hS (by omega) (by omega) (fun H' locs' hS' => ?_)
          exact W.cs (by omega) (by omega) (ih _ _ _ _ _ _ _ hs hll hL hS' (by omega) (by omega))
        · split at hs
          · rename_i st' hstep
            unfold xo_step at hstep
            split at hstep
            · rename_i n
              split at hstep
              · rename_i hobi
                obtain ⟨o1, o2, o3⟩ := hokc.2.2.2.2.2.2 _ _ hobi
                split at hstep
                · rename_i a r
                  split at hstep
                  · rename_i hcat
                    cases hstep
                    refine W.objInit hexec hb hown (hts _ o1) (hts _ o2) (hts _ o3) rfl (by rw [hml, ← hll]; exact hL.1) rfl (xx_dec1 hdg rfl) (by omega) ?_ (ih _ _ _ _ _ _ _ hs hll hL hS hc0 hs0)
                    have hcat := Nat.le_of_ble_eq_true hcat
                    show 2 * 0 + _ + 12 ≤ _
                    rw [xx_cats]
                    omega
                  · cases hstep
                · cases hstep
              · cases hstep
            · cases hstep
          · split at hs
            · rename_i q as r hstep
              split at hs
              · rename_i v' h' hcall
                have e1 := xx_call_mono d q as h v' h' hcall
                have e2 := xx_run_mono (fun q as h v h1 z => xx_call_mono d q as h v h1 z) _ _ _ _ _ _ _ _ hs
                refine xc_sound hexec hb (by rw [hml, ← hll]; exact hL.1.symm) hts hK hown hokb.2.2.2.2.2.2.2 hokc hdg hstep (IH q as h v' h' hcall) e1.1 hS hfr hlo (by omega) (by omega) (fun H' locs' hS' => ?_)
                exact W.cs (by omega) (by omega) (ih _ _ _ _ _ _ _ hs hll hL hS' (by omega) (by omega))
              · cases hs
            · split at hs
              · rename_i v' hstep
                cases hs
                exact hret pc i L H locs st hdg hstep hS
              · cases hs
end XXM
