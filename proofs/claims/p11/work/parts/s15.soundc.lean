def xx_K (D : va_G) (cl : List vw_C) (nst : List Cond) (strs : List (String × Nat × String × Nat)) (stv : List (String × String × String × Value)) (ad : Nat → Nat) (base : Nat) (U : State) (H : Heap) : Prop := va_K D cl [] U ∧ (∀ w ∈ nst, va_Nw w U) ∧ (∀ q ∈ strs, vk_R q.1 q.2.1 q.2.2.1 (ad q.2.2.2) U) ∧ (∀ q ∈ stv, va_Z q.1 q.2.1 q.2.2.1 (xx_v ad q.2.2.2) (fun a => base ≤ a) U H) ∧ ∃ mi : Nat, va_Mi "[Ljava/lang/Object;" mi U
def xx_nest (w : Cond) : Bool := match w with
  | .fieldLinkNest _ _ _ _ _ _ => true
  | .methodLinkNest _ _ _ _ => true
  | .castable _ _ => true
  | .declares _ => true
  | .arrayOver (.object _) => true
  | _ => false
theorem xx_nw_warm {w : Cond} (hw : xx_nest w = true) {s U : State} (hW : s.WarmedH U.vm) (h : va_Nw w s) : va_Nw w U := by
  unfold xx_nest at hw
  split at hw
  · exact va_Nw.warmF hW h
  · exact va_Nw.warmM hW h
  · exact va_Nw.warmC hW h
  · exact va_Nw.warmD hW h
  · exact va_AO.moved hW.alike h
  · cases hw
theorem xx_nw_same {w : Cond} (hw : xx_nest w = true) {u U : State} (hv : u.vm = U.vm) (h : va_Nw w u) : va_Nw w U := by
  unfold xx_nest at hw
  split at hw
  · exact va_Nw.same rfl hv h
  · exact va_Nw.same rfl hv h
  · exact va_Nw.same rfl hv h
  · exact va_Nw.same rfl hv h
  · exact va_AO.moved (by rw [hv]; exact Vm.Alike.refl U.vm) h
  · cases hw
theorem xx_K_warm {D : va_G} {cl : List vw_C} {nst : List Cond} {strs : List (String × Nat × String × Nat)} {stv : List (String × String × String × Value)} {ad : Nat → Nat} {base : Nat} {s U : State} {H : Heap} (hnst : ∀ w ∈ nst, xx_nest w = true) (hW : s.WarmedH U.vm) (hk : ∀ q : Nat, q < base → H[q]? = s.heap[q]?) (h : xx_K D cl nst strs stv ad base s s.heap) : xx_K D cl nst strs stv ad base U H :=
  ⟨va_K.moved hW.alike h.1, fun w hw => xx_nw_warm (hnst w hw) hW (h.2.1 w hw), fun q hq => vk_R.warm hW (h.2.2.1 q hq), fun q hq => va_Z.moved hW.alike (va_Z.kept (h.2.2.2.1 q hq) (fun a _ h2 => hk a (Nat.lt_of_not_le h2))), by
    obtain ⟨mi, q⟩ := h.2.2.2.2
    exact ⟨mi, va_Mi.moved hW.alike q⟩⟩
theorem xx_K_same {D : va_G} {cl : List vw_C} {nst : List Cond} {strs : List (String × Nat × String × Nat)} {stv : List (String × String × String × Value)} {ad : Nat → Nat} {base : Nat} {u U : State} {H : Heap} (hnst : ∀ w ∈ nst, xx_nest w = true) (hv : u.vm = U.vm) (h : xx_K D cl nst strs stv ad base u H) : xx_K D cl nst strs stv ad base U H :=
  ⟨va_K.moved (by rw [hv]; exact Vm.Alike.refl U.vm) h.1, fun w hw => xx_nw_same (hnst w hw) hv (h.2.1 w hw), fun q hq => vk_R.same hv.symm (h.2.2.1 q hq), fun q hq => va_Z.moved (by rw [hv]; exact Vm.Alike.refl U.vm) (h.2.2.2.1 q hq), by
    obtain ⟨mi, q⟩ := h.2.2.2.2
    exact ⟨mi, va_Mi.moved (by rw [hv]; exact Vm.Alike.refl U.vm) q⟩⟩
def xx_okc (P : xx_P) (Ts : List Cond) (on : Nat → String) (strs : List (String × Nat × String × Nat)) : Prop := ∀ o idx v, xp_con P o idx = some v → (∃ x, v = .int x ∧ Cond.constant (on o) idx x ∈ Ts) ∨ (∃ x, v = .long x ∧ Cond.constantLong (on o) idx x ∈ Ts) ∨ ∃ i tx, v = .ref i ∧ (on o, idx, tx, i) ∈ strs
def xx_oks (P : xx_P) (Ts nst : List Cond) (on : Nat → String) (stv : List (String × String × String × Value)) : Prop := ∀ o idx v, xp_sta P o idx = some v → ∃ (C n d ref : String), (C, n, d, v) ∈ stv ∧ (ref = C ∨ Cond.sameField ref C n d ∈ Ts) ∧ (Cond.fieldLink (on o) idx ref n d ∈ Ts ∨ ∃ host, Cond.fieldLinkNest (on o) idx ref n d host ∈ nst)
def xx_oka (Ts : List Cond) : Prop := Cond.arrayClass .int ∈ Ts ∧ Cond.arrayClass .long ∈ Ts ∧ Cond.arrayClass .boolean ∈ Ts
def xx_OKb (P : xx_P) (Ts nst : List Cond) (cl ol : List vw_C) (on : Nat → String) (strs : List (String × Nat × String × Nat)) (stv : List (String × String × String × Value)) : Prop := xx_okf P Ts nst cl ol on ∧ xx_okt P cl ∧ xx_okp P cl Ts on ∧ xx_okn P Ts cl on ∧ xx_okc P Ts on strs ∧ xx_oks P Ts nst on stv ∧ xx_oka Ts ∧ xx_okg P nst cl ∧ xx_okr P Ts nst on ∧ xx_okk P Ts nst cl on ∧ ∀ w ∈ nst, xx_nest w = true
section XXC
variable {p : Program} {l : Launch} {e : Env} {R : Room} {s : State} {m : MethodId} {args : Array Value} {below : List Frame} {meth : Method} {c : Code} {H : Heap} {locs : List Loc} {cells slots : Nat} {Q : State → Prop}
variable {cc : ByteArray} {pc pc' : Nat} {st st' : List Value} {h h' : xx_H} {L : Array Slot} {ad : Nat → Nat} {base : Nat} {D : va_G} {cl ol : List vw_C} {P : xx_P} {Ts nst : List Cond} {on : Nat → String} {strs : List (String × Nat × String × Nat)} {stv : List (String × String × String × Value)} {k : Nat}
theorem xx_cs {g : JFrame} (h1 : h'.length = h.length) (h2 : xx_sz h' = xx_sz h) (w : W p l e R s m args below meth c H locs (cells + (h'.length - h.length)) (slots + (xx_sz h' - xx_sz h)) Q g) : W p l e R s m args below meth c H locs cells slots Q g := by
  refine W.cs ?_ ?_ w
  · omega
  · omega
set_option maxHeartbeats 1000000 in
theorem xb_sound {i : Instr} (hexec : p.tables.exec = Jvm.exec) (hb : c.code = cc) (hts : ∀ w ∈ Ts, w.before args s = true) (hK : xx_K D cl nst strs stv ad base s s.heap) (hown : s.vm.findClass (on (xp_own P k)) = some m.cls) (hini : xp_ini P k = true → meth.name = "<init>") (hok : xx_OKb P Ts nst cl ol on strs stv) (ha : xx_ad (xp_n0 P) base ad) (hdg : xx_dec cc pc i) (hs : xb_step P k i pc st h = some (pc', st', h')) (hS : xx_S D cl ol ad (xp_n0 P) base s h H locs)
    (hcells : cells + (h'.length - h.length) ≤ R.cells) (hslots : slots + (xx_sz h' - xx_sz h) ≤ R.slots)
    (kk : ∀ (H' : Heap) (locs' : List Loc), xx_S D cl ol ad (xp_n0 P) base s h' H' locs' → W p l e R s m args below meth c H' locs' (cells + (h'.length - h.length)) (slots + (xx_sz h' - xx_sz h)) Q (F0 m pc' L (st'.map (xx_v ad)))) : W p l e R s m args below meth c H locs cells slots Q (F0 m pc L (st.map (xx_v ad))) := by
  obtain ⟨okf, okt, okp, okn, okc, oks, oka, okg, okr, okk, -⟩ := hok
  have k0 : h' = h → W p l e R s m args below meth c H locs cells slots Q (F0 m pc' L (st'.map (xx_v ad))) := fun e1 => xx_cs (by rw [e1]) (by rw [e1]) (kk H locs (by rw [e1]; exact hS))
  have k1 : ∀ (H' : Heap) (locs' : List Loc), h'.length = h.length → xx_sz h' = xx_sz h → xx_S D cl ol ad (xp_n0 P) base s h' H' locs' → W p l e R s m args below meth c H' locs' cells slots Q (F0 m pc' L (st'.map (xx_v ad))) := fun H' locs' e1 e2 h3 => xx_cs e1 e2 (kk H' locs' h3)
  have k2 : ∀ (H' : Heap), xx_S D cl ol ad (xp_n0 P) base s h' H' locs → W p l e R s m args below meth c H' locs (cells + (h'.length - h.length)) (slots + (xx_sz h' - xx_sz h)) Q (F0 m pc' L (st'.map (xx_v ad))) := fun H' h3 => kk H' locs h3
  have vS : va_S (fun a => base ≤ a) s.heap H locs := ⟨hS.2.2.2, fun q _ h2 => hS.2.1 q (Nat.lt_of_not_le h2), hS.2.2.1⟩
  cases i with
  | ldc n =>
    simp only [xb_step] at hs
    split at hs
    · rename_i x hx
      cases hs
      rcases okc _ _ _ hx with ⟨y, hy, hw⟩ | ⟨y, hy, hw⟩ | ⟨y, tx, hy, hw⟩
      · cases hy
        exact lv_ldc hexec hb hown (hts _ hw) (xx_dec1 hdg rfl) (k0 rfl)
      · cases hy
      · cases hy
    · rename_i x hx
      cases hs
      rcases okc _ _ _ hx with ⟨y, hy, hw⟩ | ⟨y, hy, hw⟩ | ⟨y, tx, hy, hw⟩
      · cases hy
      · cases hy
      · cases hy
        exact va_ldcS hexec hb hown (hK.2.2.1 _ hw) (xx_dec1 hdg rfl) (k0 rfl)
    · cases hs
  | ldc_w n =>
    simp only [xb_step] at hs
    split at hs
    · rename_i x hx
      cases hs
      rcases okc _ _ _ hx with ⟨y, hy, hw⟩ | ⟨y, hy, hw⟩ | ⟨y, tx, hy, hw⟩
      · cases hy
        exact lv_ldcw hexec hb hown (hts _ hw) (xx_dec1 hdg rfl) (k0 rfl)
      · cases hy
      · cases hy
    · cases hs
  | ldc2_w n =>
    simp only [xb_step] at hs
    split at hs
    · rename_i x hx
      cases hs
      rcases okc _ _ _ hx with ⟨y, hy, hw⟩ | ⟨y, hy, hw⟩ | ⟨y, tx, hy, hw⟩
      · cases hy
      · cases hy
        exact lv_ldc2 hexec hb hown (hts _ hw) (xx_dec1 hdg rfl) (k0 rfl)
      · cases hy
    · cases hs
  | getstatic n =>
    simp only [xb_step, xb_push] at hs
    split at hs
    · rename_i v hv
      cases hs
      obtain ⟨C, nm, d, ref, hm, hsame, hlink⟩ := oks _ _ _ hv
      have hsm : ∀ x, s.fieldFound? C nm d = some x → s.fieldFound? ref nm d = some x := by
        intro x hx
        rcases hsame with rfl | hr
        · exact hx
        · exact u_same (hts _ hr) x hx
      rcases hlink with hlink | ⟨host, hlink⟩
      · exact va_gets hexec hb (hK.2.2.2.1 _ hm) vS hown (hts _ hlink) hsm (xx_dec1 hdg rfl) (k0 rfl)
      · exact va_getsN hexec hb (hK.2.2.2.1 _ hm) vS hown (va_Nw.use rfl (hK.2.1 _ hlink)) hsm (xx_dec1 hdg rfl) (k0 rfl)
    · cases hs
  | getfield n => exact xb_get_ok hexec hb hts hK.2.1 hK.1 hown okf (xx_dec1 hdg rfl) hs hS.1 k0
  | putfield n => exact xb_put_ok hexec hb hts hK.2.1 hK.1 hown hini okf okt okp ha (xx_dec1 hdg rfl) hs hS k1
  | iaload => exact xb_ald_ok hs hS.1 (fun a cell j v rest q1 q2 q3 q4 q5 q6 => W.iald hexec hb q1 q2 q3 q4 q5 rfl rfl (xx_dec1 hdg rfl) q6) k0
  | laload => exact xb_ald_ok hs hS.1 (fun a cell j v rest q1 q2 q3 q4 q5 q6 => W.lald hexec hb q1 q2 q3 q4 q5 rfl rfl (xx_dec1 hdg rfl) q6) k0
  | baload =>
    have hs : xb_ald (xb_bty st h) pc st h = some (pc', st', h') := hs
    have ht : xb_bty st h = .byte ∨ xb_bty st h = .boolean := by
      unfold xb_bty
      repeat' split
      all_goals first | exact Or.inl rfl | exact Or.inr rfl
    rcases ht with ht | ht
    · rw [ht] at hs
      exact xb_ald_ok hs hS.1 (fun a cell j v rest q1 q2 q3 q4 q5 q6 => W.bald hexec hb q1 q2 q3 q4 q5 rfl rfl (xx_dec1 hdg rfl) q6) k0
    · rw [ht] at hs
      exact xb_ald_ok hs hS.1 (fun a cell j v rest q1 q2 q3 q4 q5 q6 => W.zald hexec hb q1 q2 q3 q4 q5 rfl rfl (xx_dec1 hdg rfl) q6) k0
  | iastore => exact xb_ast_ok ha hs hS (fun a cell j v rest q0 q1 q2 q3 q4 q5 => by
      cases v <;> first | (cases q0; done) | skip
      exact W.iast hexec hb q1 q2 q3 q4 rfl rfl (xx_dec1 hdg rfl) q5) k1
  | lastore => exact xb_ast_ok ha hs hS (fun a cell j v rest q0 q1 q2 q3 q4 q5 => by
      cases v <;> first | (cases q0; done) | skip
      exact W.last hexec hb q1 q2 q3 q4 rfl rfl (xx_dec1 hdg rfl) q5) k1
  | bastore => exact xb_ast_ok ha hs hS (fun a cell j v rest q0 q1 q2 q3 q4 q5 => by
      have nf := (xx_fit_ok (ad := ad) q0).1
      cases v <;> first | (cases q0; done) | skip
      exact W.zast hexec hb q1 q2 q3 q4 rfl rfl (xx_dec1 hdg rfl) (fun H' e1 e2 e3 => q5 H' (by rw [← nf]; exact e1) e2 e3)) k1
  | aaload => exact xb_aald_ok hs hS.1 (fun a cell ty j v rest q1 q2 q3 q4 q5 q6 q7 => W.aald hexec hb q1 q2 q3 q4 q5 q6 rfl rfl (xx_dec1 hdg rfl) q7) k0
  | aastore => exact xb_aast_ok hexec hb hK.2.1 hK.1 okg ha (xx_dec1 hdg rfl) hs hS k1
  | anewarray n =>
    simp only [xb_step] at hs
    split at hs
    · rename_i ty hty
      exact xb_newr_ok hexec hb hts hK.2.1 hown (okr _ _ _ hty) ha (xx_dec1 hdg rfl) hs hS hcells hslots k2
    · cases hs
  | checkcast n => exact xb_cast_ok hexec hb hts hK.2.1 hK.1 hown okk (xx_dec1 hdg rfl) hs hS.1 k0
  | if_acmp cnd off => exact xb_acmp_ok hexec hb (xx_dec1 hdg rfl) hs k0
  | arraylength => exact xb_len_ok hexec hb (xx_dec1 hdg rfl) hs hS.1 k0
  | new n => exact xb_new_ok hexec hb hts hK.1 hown okn ha (xx_dec1 hdg rfl) hs hS hcells hslots k2
  | newarray t =>
    cases t with
    | int => exact xb_newa_ok (t := .int) (ty := .int) rfl (by decide) hexec hb hts oka.1 ha (xx_dec1 hdg rfl) hs hS hcells hslots k2
    | long => exact xb_newa_ok (t := .long) (ty := .long) rfl (by decide) hexec hb hts oka.2.1 ha (xx_dec1 hdg rfl) hs hS hcells hslots k2
    | boolean => exact xb_newa_ok (t := .boolean) (ty := .boolean) rfl (by decide) hexec hb hts oka.2.2 ha (xx_dec1 hdg rfl) hs hS hcells hslots k2
    | _ => cases hs
  | _ => cases hs
theorem xb_mono {i : Instr} (hs : xb_step P k i pc st h = some (pc', st', h')) : h.length ≤ h'.length ∧ xx_sz h ≤ xx_sz h' := by
  have e0 : h' = h → h.length ≤ h'.length ∧ xx_sz h ≤ xx_sz h' := fun z => by rw [z]; exact ⟨Nat.le_refl _, Nat.le_refl _⟩
  have e1 : ∀ (x : xx_E), h' = h ++ [x] → h.length ≤ h'.length ∧ xx_sz h ≤ xx_sz h' := fun x z => by rw [z, xx_sz_app]; simp
  have e2 : ∀ (a : Nat) (x y : xx_E), h[a]? = some y → xx_sz1 x = xx_sz1 y → h' = h.set a x → h.length ≤ h'.length ∧ xx_sz h ≤ xx_sz h' := fun a x y q1 q2 z => by rw [z, xx_sz_set q1 q2]; simp
  cases i with
  | ldc n =>
    simp only [xb_step] at hs
    split at hs
    · cases hs; exact e0 rfl
    · cases hs; exact e0 rfl
    · cases hs
  | ldc_w n =>
    simp only [xb_step] at hs
    split at hs
    · cases hs; exact e0 rfl
    · cases hs
  | ldc2_w n =>
    simp only [xb_step] at hs
    split at hs
    · cases hs; exact e0 rfl
    · cases hs
  | getstatic n =>
    simp only [xb_step, xb_push] at hs
    split at hs
    · cases hs; exact e0 rfl
    · cases hs
  | getfield n =>
    simp only [xb_step, xb_get] at hs
    repeat' split at hs
    all_goals first | (cases hs; exact e0 rfl) | cases hs
  | putfield n =>
    simp only [xb_step, xb_put] at hs
    split at hs
    · split at hs
      · rename_i hat
        split at hs
        · split at hs
          · obtain ⟨-, hs⟩ := xa_g_some hs
            cases hs
            exact e2 _ _ _ hat (by simp [xx_sz1]) rfl
          · cases hs
        · cases hs
      · cases hs
    · cases hs
  | iaload =>
    simp only [xb_step, xb_ald, xb_push] at hs
    repeat' split at hs
    all_goals first | (cases hs; exact e0 rfl) | cases hs
  | laload =>
    simp only [xb_step, xb_ald, xb_push] at hs
    repeat' split at hs
    all_goals first | (cases hs; exact e0 rfl) | cases hs
  | baload =>
    simp only [xb_step, xb_ald, xb_push] at hs
    repeat' split at hs
    all_goals first | (cases hs; exact e0 rfl) | cases hs
  | iastore =>
    simp only [xb_step, xb_ast] at hs
    split at hs
    · split at hs
      · rename_i hat
        split at hs
        · split at hs
          · cases hs
            exact e2 _ _ _ hat (by simp [xx_sz1]) rfl
          · cases hs
        · cases hs
      · cases hs
    · cases hs
  | lastore =>
    simp only [xb_step, xb_ast] at hs
    split at hs
    · split at hs
      · rename_i hat
        split at hs
        · split at hs
          · cases hs
            exact e2 _ _ _ hat (by simp [xx_sz1]) rfl
          · cases hs
        · cases hs
      · cases hs
    · cases hs
  | bastore =>
    simp only [xb_step, xb_ast] at hs
    split at hs
    · split at hs
      · rename_i hat
        split at hs
        · split at hs
          · cases hs
            exact e2 _ _ _ hat (by simp [xx_sz1]) rfl
          · cases hs
        · cases hs
      · cases hs
    · cases hs
  | aaload =>
    simp only [xb_step, xb_aald, xb_push] at hs
    repeat' split at hs
    all_goals first | (cases hs; exact e0 rfl) | cases hs
  | aastore =>
    simp only [xb_step, xb_aast] at hs
    split at hs
    · split at hs
      · rename_i hat
        split at hs
        · split at hs
          · cases hs
            exact e2 _ _ _ hat (by simp [xx_sz1]) rfl
          · cases hs
        · cases hs
      · cases hs
    · cases hs
  | anewarray n =>
    simp only [xb_step, xb_newr] at hs
    repeat' split at hs
    all_goals first | (cases hs; exact e1 _ rfl) | cases hs
  | checkcast n =>
    simp only [xb_step, xb_cast] at hs
    repeat' split at hs
    all_goals first | (cases hs; exact e0 rfl) | cases hs
  | if_acmp cnd off =>
    simp only [xb_step, xb_acmp] at hs
    repeat' split at hs
    all_goals first | (cases hs; exact e0 rfl) | cases hs
  | arraylength =>
    simp only [xb_step, xb_len] at hs
    repeat' split at hs
    all_goals first | (cases hs; exact e0 rfl) | cases hs
  | new n =>
    simp only [xb_step, xb_new] at hs
    split at hs
    · cases hs; exact e1 _ rfl
    · cases hs
  | newarray t =>
    simp only [xb_step, xb_newa] at hs
    repeat' split at hs
    all_goals first | (cases hs; exact e1 _ rfl) | cases hs
  | _ => cases hs
end XXC

