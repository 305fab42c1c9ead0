section XXB2
variable {p : Program} {l : Launch} {e : Env} {R : Room} {s : State} {m : MethodId} {args : Array Value} {below : List Frame} {meth : Method} {c : Code} {H : Heap} {locs : List Loc} {cells slots : Nat} {Q : State → Prop}
variable {cc : ByteArray} {pc pc' : Nat} {st st' : List Value} {h h' : xx_H} {L : Array Slot} {ad : Nat → Nat} {n0 base : Nat} {D : va_G} {cl ol : List vw_C} {P : xx_P} {Ts nst : List Cond} {on : Nat → String} {o idx : Nat}
theorem xx_ad_ge (ha : xx_ad n0 base ad) {i : Nat} (hi : n0 ≤ i) : base ≤ ad i := by rw [ha.1 i hi]; omega
theorem xx_S_put {H' : Heap} {a ci j : Nat} {fs : List Value} {cell : Cell} {v : Value} {r : vw_C} (ha : xx_ad n0 base ad) (hS : xx_S D cl ol ad n0 base s h H locs) (hn : n0 ≤ a) (hc : cl[ci]? = some r) (h2 : fs.length = r.2.2) (h4 : cell.cls = D.1 ci) (hvm : cell.vm = .none) (h8 : ∀ k, k < r.2.2 → cell.slots[D.2 ci k]? = some (vp_V (fs.map (xx_v ad)) k)) (hap : ∀ x y, x < r.2.2 → y < r.2.2 → x ≠ y → (D.2 ci) x ≠ (D.2 ci) y) (hj : j < r.2.2)
    (e1 : H'[ad a]? = some (cell.setSlot (D.2 ci j) (xx_v ad v))) (e2 : H'.size = H.size) (e3 : ∀ q, q ≠ ad a → H'[q]? = H[q]?) : xx_S D cl ol ad n0 base s (h.set a (.inr (ci, fs.set j v))) H' (locs ++ [⟨ad a, D.2 ci j⟩]) := by
  have hge := xx_ad_ge ha hn
  refine ⟨xx_rep_set ha hS.1 hn e2 e3 (Or.inr (Or.inr ⟨r, hc, by rw [List.length_set]; exact h2, _, e1, h4, ?_, ?_, fun _ => hvm, fun k hk => ?_⟩)), fun q hq => ?_, fun x hx => ?_, by rw [e2]; exact hS.2.2.2⟩
  · rw [show (cell.setSlot (D.2 ci j) (xx_v ad v)).vm = cell.vm from rfl, hvm]
    exact fun z => by cases z
  · rw [show (cell.setSlot (D.2 ci j) (xx_v ad v)).vm = cell.vm from rfl, hvm]
    rfl
  · have hset := t_set h8 hap hj (xx_v ad v) k hk
    rw [vp_updV_set (by rw [List.length_map, h2]; exact hj)] at hset
    rw [hset, ← List.map_set]
  · rw [e3 q (by omega)]
    exact hS.2.1 q hq
  · rcases List.mem_append.mp hx with h1 | h1
    · exact hS.2.2.1 x h1
    · rw [List.mem_singleton.mp h1]
      exact hge
set_option maxHeartbeats 1000000 in
theorem xb_put_ok {k : Nat} (hexec : p.tables.exec = Jvm.exec) (hb : c.code = cc) (hts : ∀ w ∈ Ts, w.before args s = true) (hn : ∀ w ∈ nst, va_Nw w s) (hK : va_K D cl [] s) (hown : s.vm.findClass (on o) = some m.cls) (hini : xp_ini P k = true → meth.name = "<init>") (hok : xx_okf P Ts nst cl ol on) (hokt : xx_okt P cl) (hokp : xx_okp P cl Ts on) (ha : xx_ad (xp_n0 P) base ad) (hdg : decode cc pc = .ok (.putfield idx, 3)) (hs : xb_put P k o idx pc st h = some (pc', st', h')) (hS : xx_S D cl ol ad (xp_n0 P) base s h H locs)
    (kk : ∀ (H' : Heap) (locs' : List Loc), h'.length = h.length → xx_sz h' = xx_sz h → xx_S D cl ol ad (xp_n0 P) base s h' H' locs' → W p l e R s m args below meth c H' locs' cells slots Q (F0 m pc' L (st'.map (xx_v ad)))) : W p l e R s m args below meth c H locs cells slots Q (F0 m pc L (st.map (xx_v ad))) := by
  unfold xb_put at hs
  split at hs
  · rename_i v a r
    split at hs
    · rename_i ci fs hat
      split at hs
      · rename_i j hj
        split at hs
        · rename_i ty fin hty
          obtain ⟨g, hs⟩ := xa_g_some hs
          rw [Bool.and_eq_true, Bool.and_eq_true, Bool.and_eq_true] at g
          obtain ⟨g1, g2, g3, g4⟩ := g
          have g1 : xp_n0 P ≤ a := Nat.le_of_ble_eq_true g1
          cases hs
          have hgeb := xx_ad_ge ha g1
          rcases hS.1.2.2 a _ hat with ⟨-, hlt0⟩ | ⟨-, hlt0, -⟩ | hatt
          · omega
          · omega
          obtain ⟨r0, h1, h2, cell, h3, h4, h5, h6, h7, h8⟩ := hatt
          obtain ⟨C, T, N, ref, hc, hjN, hin, hsame, hlink⟩ := (hok o idx ci j hj).2 (List.getElem?_eq_some_iff.mp h1).1
          obtain ⟨C', T', N', ts, hc', hts1, hnm, hd, hfin⟩ := hokt ci j ty fin hty
          have e0 := hc.symm.trans hc'
          cases e0
          have hr0 : r0 = (C, T, N) := Option.some.inj (h1.symm.trans hc)
          subst hr0
          have hvm := h7 (xx_ad_ge ha g1)
          obtain ⟨hSl, hfc, kC, hkC, hkind⟩ := hK.1 ci _ hc
          obtain ⟨cf, kf, fi, f, hi, hsl⟩ := hSl j hjN
          have hst := (u_facts hfc hkC (u_lays hts hin hjN) hi).1
          have hap := va_apart (own := on o) hts hin ts hts1 hnm hK hc
          have hlay := hts _ (hin _ (u_in_lay hjN))
          have hlt : f.slot < cell.slots.size := by rw [hsl]; exact k2_hasslot (h8 j hjN)
          obtain ⟨hn1, hf1⟩ := xx_fit_ok (ad := ad) g3
          have fin' : ∀ H' : Heap, H'[ad a]? = some (cell.setSlot f.slot (xx_v ad v)) → H'.size = H.size → (∀ q, q ≠ ad a → H'[q]? = H[q]?) → W p l e R s m args below meth c H' (locs ++ [⟨ad a, f.slot⟩]) cells slots Q (F0 m (pc + 3) L (st'.map (xx_v ad))) := by
            intro H' e1 e2 e3
            rw [hsl] at e1 ⊢
            exact kk H' _ (List.length_set ..) (xx_sz_set hat (by simp [xx_sz1])) (xx_S_put ha hS g1 hc h2 h4 hvm h8 hap hjN e1 e2 e3)
          unfold u_lay at hlay
          cases fin with
          | none =>
            rw [if_neg (by rw [hfin]; decide)] at hlay
            have h9 := u_store hfc hkC hkind hlay hi hd hn1 hf1
            rcases hlink with hlink | ⟨host, hlink⟩
            · exact W.putK hexec hb (f := f) ⟨hown, hts _ hlink, ⟨_, _, _, xx_same hts hsame _ hi⟩, hst⟩ (by rw [h4]; exact h9) h3 hvm hlt rfl rfl hdg fin'
            · exact va_WputK hexec hb (f := f) hown (va_Nw.use rfl (hn _ hlink)) (xx_same hts hsame _ hi) hst (by rw [h4]; exact h9) h3 hvm hlt rfl rfl hdg fin'
          | some o1 =>
            rw [if_pos (by rw [hfin]; rfl)] at hlay
            have g4 : (Nat.beq o1 o && xp_ini P k) = true := g4
            rw [Bool.and_eq_true] at g4
            have eo : o = o1 := (Nat.eq_of_beq_eq_true g4.1).symm
            rw [← eo] at hty
            obtain ⟨C2, T2, N2, hc2, hdecl, hlk⟩ := hokp o idx ci j ty hj hty
            cases hc.symm.trans hc2
            have hcf : m.cls = cf := by
              obtain ⟨_, _, c', _, _, _, -, -, hf', -, -, -, hown2, -⟩ := Cond.laysFinal_spec hlay
              have e1 : c' = cf := by have := hi.symm.trans hf'; simp at this; exact this.1.symm
              rw [hdecl] at hown2
              rw [← e1]; exact Option.some.inj (hown.symm.trans hown2)
            have h9 := u_fits hfc hkC hkind (Or.inr hlay) hi hd hn1 hf1
            have hi2 : s.fieldFound? (on o) (T j).2.1 (T j).2.2.1 = some (cf, kf, fi, f) := by rw [← hdecl]; exact hi
            exact W.putFinK hexec hb hown (hts _ hlk) hi2 hst hcf (hini g4.2) (by rw [h4]; exact h9) h3 hvm hlt rfl rfl hdg fin'
        · cases hs
      · cases hs
    · cases hs
  · cases hs
theorem xb_ix_some {j : Int32} {n k : Nat} (h : xb_ix j n = some k) : ¬ j < 0 ∧ k = j.toNatClampNeg ∧ k < n := by
  unfold xb_ix at h
  split at h
  · cases h
  · rename_i h1
    split at h
    · rename_i h2
      cases h
      exact ⟨h1, rfl, h2⟩
    · cases h
theorem xb_ald_ok {ty : FieldType} (hs : xb_ald ty pc st h = some (pc', st', h')) (hr : xx_rep D cl ol ad n0 base s h H)
    (row : ∀ (a : Nat) (cell : Cell) (j : Int32) (v : Value) (rest : List Value), H[a]? = some cell → s.isArrayOf cell ty → cell.vm ≠ .unknown → ¬ (j < 0 ∨ cell.slots.size ≤ j.toNatClampNeg) → cell.slots[j.toNatClampNeg]? = some v → W p l e R s m args below meth c H locs cells slots Q (F0 m (pc + 1) L (v :: rest)) → W p l e R s m args below meth c H locs cells slots Q (F0 m pc L (.int j :: .ref a :: rest)))
    (kk : h' = h → W p l e R s m args below meth c H locs cells slots Q (F0 m pc' L (st'.map (xx_v ad)))) : W p l e R s m args below meth c H locs cells slots Q (F0 m pc L (st.map (xx_v ad))) := by
  unfold xb_ald at hs
  split at hs
  · rename_i j a r
    split at hs
    · rename_i ty' vs hat
      split at hs
      · rename_i hd
        have hd : ty' = ty := of_decide_eq_true hd
        subst hd
        split at hs
        · rename_i n hn
          obtain ⟨h1, h2, h3⟩ := xb_ix_some hn
          unfold xb_push at hs
          split at hs
          · rename_i v hv
            cases hs
            obtain ⟨cell, q1, q2, q3, q4, q5, q6, q7⟩ := hr.2.2 a _ hat
            dsimp only at q4 q5 q6
            subst h2
            exact row (ad a) cell j (xx_v ad v) _ q1 q2 q3 (fun z => by
              rcases z with z | z
              · exact h1 z
              · omega) (q6 _ _ hv) (kk rfl)
          · cases hs
        · cases hs
      · cases hs
    · cases hs
  · cases hs
theorem xb_ast_ok {ty : FieldType} (ha : xx_ad (xp_n0 P) base ad) (hs : xb_ast P ty pc st h = some (pc', st', h')) (hS : xx_S D cl ol ad (xp_n0 P) base s h H locs)
    (row : ∀ (a : Nat) (cell : Cell) (j : Int32) (v : Value) (rest : List Value), xx_fit ty v = true → H[a]? = some cell → s.isArrayOf cell ty → cell.vm ≠ .unknown → ¬ (j < 0 ∨ cell.slots.size ≤ j.toNatClampNeg) → (∀ H' : Heap, H'[a]? = some (cell.setSlot j.toNatClampNeg (xx_v ad v)) → H'.size = H.size → (∀ q, q ≠ a → H'[q]? = H[q]?) → W p l e R s m args below meth c H' (locs ++ [⟨a, j.toNatClampNeg⟩]) cells slots Q (F0 m (pc + 1) L rest)) → W p l e R s m args below meth c H locs cells slots Q (F0 m pc L (xx_v ad v :: .int j :: .ref a :: rest)))
    (kk : ∀ (H' : Heap) (locs' : List Loc), h'.length = h.length → xx_sz h' = xx_sz h → xx_S D cl ol ad (xp_n0 P) base s h' H' locs' → W p l e R s m args below meth c H' locs' cells slots Q (F0 m pc' L (st'.map (xx_v ad)))) : W p l e R s m args below meth c H locs cells slots Q (F0 m pc L (st.map (xx_v ad))) := by
  unfold xb_ast at hs
  split at hs
  · rename_i v j a r
    split at hs
    · rename_i ty' vs hat
      split at hs
      · rename_i hd
        rw [Bool.and_eq_true, Bool.and_eq_true] at hd
        obtain ⟨g1, g2, g3⟩ := hd
        have g1 : ty' = ty := of_decide_eq_true g1
        have g2 : xp_n0 P ≤ a := Nat.le_of_ble_eq_true g2
        subst g1
        split at hs
        · rename_i n hn
          obtain ⟨h1, h2, h3⟩ := xb_ix_some hn
          cases hs
          obtain ⟨cell, q1, q2, q3, q4, q5, q6, q7⟩ := hS.1.2.2 a _ hat
          dsimp only at q4 q5 q6
          subst h2
          have hge := xx_ad_ge ha g2
          refine row (ad a) cell j v _ g3 q1 q2 q3 (fun z => by
            rcases z with z | z
            · exact h1 z
            · omega) (fun H' e1 e2 e3 => kk H' _ (List.length_set ..) (xx_sz_set hat (by simp [xx_sz1])) ⟨xx_rep_set ha hS.1 g2 e2 e3 ⟨_, e1, q2, q3, ?_, ?_, fun i w hw => ?_, fun b C e => q7 b C e⟩, fun q hq => ?_, fun x hx => ?_, by rw [e2]; exact hS.2.2.2⟩)
          · show (vs.set j.toNatClampNeg v).length ≤ (cell.slots.setIfInBounds _ _).size
            simp
            exact q4
          · show (cell.slots.setIfInBounds _ _).size.toInt32 = Int32.ofNat (vs.set j.toNatClampNeg v).length
            simp
            exact q5
          · show (cell.slots.setIfInBounds _ _)[i]? = some (xx_v ad w)
            have hw : (vs.set j.toNatClampNeg v)[i]? = some w := hw
            rw [List.getElem?_set] at hw
            rw [Array.getElem?_setIfInBounds]
            split at hw
            · rename_i ei
              cases hw
              rw [if_pos ei, if_pos (by omega)]
            · rename_i ei
              rw [if_neg ei]
              exact q6 _ _ hw
          · rw [e3 q (by omega)]
            exact hS.2.1 q hq
          · rcases List.mem_append.mp hx with z | z
            · exact hS.2.2.1 x z
            · rw [List.mem_singleton.mp z]
              exact hge
        · cases hs
      · cases hs
    · cases hs
  · cases hs
theorem xb_len_ok (hexec : p.tables.exec = Jvm.exec) (hb : c.code = cc) (hdg : decode cc pc = .ok (.arraylength, 1)) (hs : xb_len pc st h = some (pc', st', h')) (hr : xx_rep D cl ol ad n0 base s h H)
    (kk : h' = h → W p l e R s m args below meth c H locs cells slots Q (F0 m pc' L (st'.map (xx_v ad)))) : W p l e R s m args below meth c H locs cells slots Q (F0 m pc L (st.map (xx_v ad))) := by
  unfold xb_len at hs
  split at hs
  · rename_i a r
    split at hs
    · rename_i ty vs hat
      cases hs
      obtain ⟨cell, q1, q2, q3, q4, q5, q6⟩ := hr.2.2 a _ hat
      exact W.alen hexec hb q1 q2 (n := Int32.ofNat vs.length) q5 rfl rfl hdg (kk rfl)
    · cases hs
  · cases hs
def xx_okn (P : xx_P) (Ts : List Cond) (cl : List vw_C) (on : Nat → String) : Prop := ∀ o idx ci, xp_cls P o idx = some ci → ∃ (C : String) (T : u_T) (N : Nat) (ts : Nat → FieldType), cl[ci]? = some (C, T, N) ∧ Cond.classLink (on o) idx C ∈ Ts ∧ Cond.instantiable C N ∈ Ts ∧ Cond.initialized C ∈ Ts ∧ (∀ w ∈ u_ws C T N, w ∈ Ts) ∧ (∀ k, k < N → parseFieldDescriptor (T k).2.2.1 = some (ts k)) ∧ xp_dfl P ci = (List.range N).map (fun k => defaultValue (ts k))
theorem xx_v_dfl (ty : FieldType) : xx_v ad (defaultValue ty) = defaultValue ty := by cases ty <;> rfl
theorem xb_new_ok (hexec : p.tables.exec = Jvm.exec) (hb : c.code = cc) (hts : ∀ w ∈ Ts, w.before args s = true) (hK : va_K D cl [] s) (hown : s.vm.findClass (on o) = some m.cls) (hok : xx_okn P Ts cl on) (ha : xx_ad n0 base ad) (hdg : decode cc pc = .ok (.new idx, 3)) (hs : xb_new P o idx pc st h = some (pc', st', h')) (hS : xx_S D cl ol ad n0 base s h H locs)
    (hcells : cells + (h'.length - h.length) ≤ R.cells) (hslots : slots + (xx_sz h' - xx_sz h) ≤ R.slots)
    (kk : ∀ (H' : Heap), xx_S D cl ol ad n0 base s h' H' locs → W p l e R s m args below meth c H' locs (cells + (h'.length - h.length)) (slots + (xx_sz h' - xx_sz h)) Q (F0 m pc' L (st'.map (xx_v ad)))) : W p l e R s m args below meth c H locs cells slots Q (F0 m pc L (st.map (xx_v ad))) := by
  unfold xb_new at hs
  split at hs
  · rename_i ci hci
    cases hs
    obtain ⟨C, T, N, ts, hc, hl, hi, hn, hin, hty, hdf⟩ := hok o idx ci hci
    have hlen : (h ++ [.inr (ci, xp_dfl P ci)] : xx_H).length - h.length = 1 := by simp
    have hsz : xx_sz (h ++ [.inr (ci, xp_dfl P ci)]) - xx_sz h = N := by rw [xx_sz_app]; simp [xx_sz1, hdf]
    rw [hlen] at hcells kk
    rw [hsz] at hslots kk
    have hKc := hK.1 ci _ hc
    have hhs : ad h.length = H.size := by rw [ha.1 _ hS.1.1, hS.1.2.1]
    refine W.newcK hexec hb hown (hts _ hl) (hts _ hi) (hts _ hn) rfl hdg hcells hslots hKc.2.1 (h := ad h.length) hhs.symm (fun H' kC hkC e1 e2 e3 => ?_)
    rw [hhs] at e1 e2 e3
    refine kk H' ⟨xx_rep_new ha hS.1 e2 e3 ?_, fun q hq => ?_, hS.2.2.1, by rw [e2]; exact Nat.le_succ_of_le hS.2.2.2⟩
    · have hb1 := u_born ts hts hin hKc hkC e1 hty
      obtain ⟨cell, q1, q2, q3, q4⟩ := hb1
      refine Or.inr (Or.inr ⟨(C, T, N), hc, by simp [hdf], cell, q1, q2, (by rw [q3]; exact fun z => (by cases z)), (by rw [q3]; rfl), fun _ => q3, fun k hk => ?_⟩)
      rw [q4 k hk]
      have hk : k < N := hk
      have : vp_V ((xp_dfl P ci).map (xx_v ad)) k = defaultValue (ts k) := by
        rw [hdf]
        simp [vp_V, hk, xx_v_dfl]
      rw [this]
    · rw [e3 q (by have := hS.1.2.1; omega)]
      exact hS.2.1 q hq
  · cases hs
theorem xb_newa_ok {t : ArrayType} {ty : FieldType} (hty : newarray.typeOf t = ty) (hcb : componentBytes ty ≤ 8) (hexec : p.tables.exec = Jvm.exec) (hb : c.code = cc) (hts : ∀ w ∈ Ts, w.before args s = true) (hok : Cond.arrayClass ty ∈ Ts) (ha : xx_ad n0 base ad) (hdg : decode cc pc = .ok (.newarray t, 2)) (hs : xb_newa ty pc st h = some (pc', st', h')) (hS : xx_S D cl ol ad n0 base s h H locs)
    (hcells : cells + (h'.length - h.length) ≤ R.cells) (hslots : slots + (xx_sz h' - xx_sz h) ≤ R.slots)
    (kk : ∀ (H' : Heap), xx_S D cl ol ad n0 base s h' H' locs → W p l e R s m args below meth c H' locs (cells + (h'.length - h.length)) (slots + (xx_sz h' - xx_sz h)) Q (F0 m pc' L (st'.map (xx_v ad)))) : W p l e R s m args below meth c H locs cells slots Q (F0 m pc L (st.map (xx_v ad))) := by
  subst hty
  unfold xb_newa at hs
  split at hs
  · rename_i j r
    split at hs
    · rename_i hg
      rw [Bool.and_eq_true] at hg
      have g1 : ¬ j < 0 := of_decide_eq_true hg.1
      have g2 : j.toNatClampNeg * 8 ≤ 536870912 := Nat.le_of_ble_eq_true hg.2
      cases hs
      have hlen : (h ++ [.inl (newarray.typeOf t, List.replicate j.toNatClampNeg (defaultValue (newarray.typeOf t)))] : xx_H).length - h.length = 1 := by simp
      have hsz : xx_sz (h ++ [.inl (newarray.typeOf t, List.replicate j.toNatClampNeg (defaultValue (newarray.typeOf t)))]) - xx_sz h = j.toNatClampNeg := by rw [xx_sz_app]; simp [xx_sz1]
      rw [hlen] at hcells kk
      rw [hsz] at hslots kk
      have hhs : ad h.length = H.size := by rw [ha.1 _ hS.1.1, hS.1.2.1]
      refine W.newaK hexec hb (hts _ hok) rfl hdg rfl g1 rfl (Nat.le_trans (Nat.mul_le_mul_left _ hcb) g2) hcells hslots (h := ad h.length) hhs.symm (fun H' cA e1 e2 e3 e4 => ?_)
      rw [hhs] at e1 e2 e3
      refine kk H' ⟨xx_rep_new ha hS.1 e2 e3 ?_, fun q hq => ?_, hS.2.2.1, by rw [e2]; exact Nat.le_succ_of_le hS.2.2.2⟩
      · refine ⟨_, e1, e4 _ _, fun z => (by cases z), ?_, ?_, fun i w hw => ?_, fun b C e => by cases t <;> cases e⟩
        · rw [← arrV_new]
          simp
        · rw [← arrV_new]
          simp
        · rw [← arrV_new]
          have hw : (List.replicate j.toNatClampNeg (defaultValue (newarray.typeOf t)))[i]? = some w := hw
          rw [List.getElem?_replicate] at hw
          split at hw
          · rename_i hi
            cases hw
            simp [hi, xx_v_dfl]
          · cases hw
      · rw [e3 q (by have := hS.1.2.1; omega)]
        exact hS.2.1 q hq
    · cases hs
  · cases hs
theorem xx_isr_ref {ty : FieldType} (h : xx_isr ty = true) : ty.isReference = true := by cases ty <;> first | rfl | cases h
theorem xb_aald_ok (hs : xb_aald pc st h = some (pc', st', h')) (hr : xx_rep D cl ol ad n0 base s h H)
    (row : ∀ (a : Nat) (cell : Cell) (ty : FieldType) (j : Int32) (v : Value) (rest : List Value), H[a]? = some cell → s.isArrayOf cell ty → ty.isReference = true → cell.vm ≠ .unknown → ¬ (j < 0 ∨ cell.slots.size ≤ j.toNatClampNeg) → cell.slots[j.toNatClampNeg]? = some v → W p l e R s m args below meth c H locs cells slots Q (F0 m (pc + 1) L (v :: rest)) → W p l e R s m args below meth c H locs cells slots Q (F0 m pc L (.int j :: .ref a :: rest)))
    (kk : h' = h → W p l e R s m args below meth c H locs cells slots Q (F0 m pc' L (st'.map (xx_v ad)))) : W p l e R s m args below meth c H locs cells slots Q (F0 m pc L (st.map (xx_v ad))) := by
  unfold xb_aald at hs
  split at hs
  · rename_i j a r
    split at hs
    · rename_i ty vs hat
      split at hs
      · rename_i hd
        split at hs
        · rename_i n hn
          obtain ⟨h1, h2, h3⟩ := xb_ix_some hn
          unfold xb_push at hs
          split at hs
          · rename_i v hv
            cases hs
            obtain ⟨cell, q1, q2, q3, q4, q5, q6, q7⟩ := hr.2.2 a _ hat
            dsimp only at q4 q5 q6
            subst h2
            exact row (ad a) cell ty j (xx_v ad v) _ q1 q2 (xx_isr_ref hd) q3 (fun z => by
              rcases z with z | z
              · exact h1 z
              · omega) (q6 _ _ hv) (kk rfl)
          · cases hs
        · cases hs
      · cases hs
    · cases hs
  · cases hs
theorem xx_recv {a ci : Nat} {fs : List Value} {r : vw_C} (hK : va_K D cl [] s) (hr : xx_rep D cl ol ad n0 base s h H) (hat : h[a]? = some (.inr (ci, fs))) (hc : cl[ci]? = some r) : ∃ cell : Cell, H[ad a]? = some cell ∧ cell.vm.isStatics = false ∧ s.vm.findClass r.1 = some cell.cls := by
  have hlt := (List.getElem?_eq_some_iff.mp hc).1
  rcases hr.2.2 a _ hat with ⟨g1, -⟩ | ⟨g1, -⟩ | ⟨r1, g1, g2, cell, g3, g4, g5, g6, g7, g8⟩
  · omega
  · omega
  · cases g1.symm.trans hc
    exact ⟨cell, g3, g6, by rw [g4]; exact (hK.1 _ _ hc).2.1⟩
def xx_okg (P : xx_P) (nst : List Cond) (cl : List vw_C) : Prop := ∀ C ci, xp_asg P C ci = true → ∃ r : vw_C, cl[ci]? = some r ∧ (r.1 = C ∨ Cond.castable r.1 C ∈ nst)
theorem xx_asg {C : String} {ci : Nat} {r : vw_C} {comp c0 : ClassId} (hn : ∀ w ∈ nst, va_Nw w s) (hc : cl[ci]? = some r) (hok : ∃ r : vw_C, cl[ci]? = some r ∧ (r.1 = C ∨ Cond.castable r.1 C ∈ nst)) (h1 : s.vm.findClass C = some comp) (h2 : s.vm.findClass r.1 = some c0) : s.vm.assignable c0 comp = true := by
  obtain ⟨r1, g1, g2⟩ := hok
  cases g1.symm.trans hc
  rcases g2 with rfl | g2
  · exact vb_asgS comp c0 h1 h2
  · exact vb_asgC (hn _ g2) comp c0 h1 h2
theorem xb_aok_some {ty : FieldType} {v : Value} (hok : xx_okg P nst cl) (h0 : xb_aok P ty v h = true) : v = .null ∨ ∃ (b ci : Nat) (fs : List Value) (C : String) (r : vw_C), v = .ref b ∧ ty = .object C ∧ h[b]? = some (.inr (ci, fs)) ∧ cl[ci]? = some r ∧ ∃ r : vw_C, cl[ci]? = some r ∧ (r.1 = C ∨ Cond.castable r.1 C ∈ nst) := by
  unfold xb_aok at h0
  split at h0
  · exact Or.inl rfl
  · rename_i b
    split at h0
    · rename_i ci fs hb
      split at h0
      · rename_i C
        obtain ⟨r, g1, g2⟩ := hok C ci h0
        exact Or.inr ⟨b, ci, fs, C, r, rfl, rfl, hb, g1, r, g1, g2⟩
      · cases h0
    · cases h0
  · cases h0
theorem xx_aastN {a : Addr} {cell : Cell} {ty : FieldType} {j : Int32} (hexec : p.tables.exec = Jvm.exec) (hb : c.code = cc) (hcell : H[a]? = some cell) (harr : s.isArrayOf cell ty) (href : ty.isReference = true) (hknown : cell.vm ≠ .unknown) (hin : ¬ (j < 0 ∨ cell.slots.size ≤ j.toNatClampNeg))
    {g : JFrame} (hg : g.method = m) {rest : List Value} (hstack : g.stack = .null :: .int j :: .ref a :: rest) (hdg : decode cc g.pc = .ok (.aastore, 1))
    (kk : ∀ H' : Heap, H'[a]? = some (cell.setSlot j.toNatClampNeg .null) → H'.size = H.size → (∀ q, q ≠ a → H'[q]? = H[q]?) → W p l e R s m args below meth c H' (locs ++ [⟨a, j.toNatClampNeg⟩]) cells slots Q { g with pc := g.pc + 1, stack := rest }) :
    W p l e R s m args below meth c H locs cells slots Q g := by
  intro T hT0 X
  have hT' : T.heap[a]? = some cell := by rw [hT0]; exact hcell
  have hT := State.isArrayOf_alike X.warmed.alike harr
  have hfit : T.fitsSlot cell.cls cell.vm j.toNatClampNeg .null = true := by
    obtain ⟨hobj, k, hk, comp, hkind⟩ := hT
    cases ty <;> first | (cases href; done) | skip
    all_goals cases hvm : cell.vm <;> first | exact absurd hvm (hobj _) | simp [State.fitsSlot, State.slotType?, hk, hkind, fits]
  have hlt : a < T.heap.size := (Array.getElem?_eq_some_iff.mp hT').1
  obtain ⟨t', a1, b1⟩ := kk _ (heapAt_setCell_self _ hlt) (by rw [size_setCell, hT0]) (fun q hq => by rw [heapAt_setCell_ne _ (Ne.symm hq), hT0]) (T.setCell a (cell.setSlot j.toNatClampNeg .null)) rfl (X.stored hT' _ _)
  refine ⟨t', ?_, b1⟩
  subst hg
  subst hb
  jvm_step X.here [hexec, hdg]
  refine aastore.wp_of_null (c := cell) (t := ty) X.here.top hstack hT' hT hin hknown (Nat.not_le.mp fun q => hin (Or.inr q)) hfit ?_
  intro acts
  rw [afterInstr_ok]
  exact a1
theorem xb_aast_ok (hexec : p.tables.exec = Jvm.exec) (hb : c.code = cc) (hn : ∀ w ∈ nst, va_Nw w s) (hK : va_K D cl [] s) (hok : xx_okg P nst cl) (ha : xx_ad (xp_n0 P) base ad) (hdg : decode cc pc = .ok (.aastore, 1)) (hs : xb_aast P pc st h = some (pc', st', h')) (hS : xx_S D cl ol ad (xp_n0 P) base s h H locs)
    (kk : ∀ (H' : Heap) (locs' : List Loc), h'.length = h.length → xx_sz h' = xx_sz h → xx_S D cl ol ad (xp_n0 P) base s h' H' locs' → W p l e R s m args below meth c H' locs' cells slots Q (F0 m pc' L (st'.map (xx_v ad)))) : W p l e R s m args below meth c H locs cells slots Q (F0 m pc L (st.map (xx_v ad))) := by
  unfold xb_aast at hs
  split at hs
  · rename_i v j a r
    split at hs
    · rename_i ty vs hat
      split at hs
      · rename_i hd
        rw [Bool.and_eq_true, Bool.and_eq_true] at hd
        obtain ⟨g1, g2, g3⟩ := hd
        have g2 : xp_n0 P ≤ a := Nat.le_of_ble_eq_true g2
        split at hs
        · rename_i n hn0
          obtain ⟨h1, h2, h3⟩ := xb_ix_some hn0
          cases hs
          obtain ⟨cell, q1, q2, q3, q4, q5, q6, q7⟩ := hS.1.2.2 a _ hat
          dsimp only at q4 q5 q6
          subst h2
          have hge := xx_ad_ge ha g2
          have hin : ¬ (j < 0 ∨ cell.slots.size ≤ j.toNatClampNeg) := fun z => by
            rcases z with z | z
            · exact h1 z
            · omega
          have fin : ∀ H' : Heap, H'[ad a]? = some (cell.setSlot j.toNatClampNeg (xx_v ad v)) → H'.size = H.size → (∀ q, q ≠ ad a → H'[q]? = H[q]?) → W p l e R s m args below meth c H' (locs ++ [⟨ad a, j.toNatClampNeg⟩]) cells slots Q (F0 m (pc + 1) L (st'.map (xx_v ad))) := by
            intro H' e1 e2 e3
            refine kk H' _ (List.length_set ..) (xx_sz_set hat (by simp [xx_sz1])) ⟨xx_rep_set ha hS.1 g2 e2 e3 ⟨_, e1, q2, q3, ?_, ?_, fun i w hw => ?_, fun b C e => q7 b C e⟩, fun q hq => ?_, fun x hx => ?_, by rw [e2]; exact hS.2.2.2⟩
            · show (vs.set j.toNatClampNeg v).length ≤ (cell.slots.setIfInBounds _ _).size
              simp
              exact q4
            · show (cell.slots.setIfInBounds _ _).size.toInt32 = Int32.ofNat (vs.set j.toNatClampNeg v).length
              simp
              exact q5
            · show (cell.slots.setIfInBounds _ _)[i]? = some (xx_v ad w)
              have hw : (vs.set j.toNatClampNeg v)[i]? = some w := hw
              rw [List.getElem?_set] at hw
              rw [Array.getElem?_setIfInBounds]
              split at hw
              · rename_i ei
                cases hw
                rw [if_pos ei, if_pos (by omega)]
              · rename_i ei
                rw [if_neg ei]
                exact q6 _ _ hw
            · rw [e3 q (by omega)]
              exact hS.2.1 q hq
            · rcases List.mem_append.mp hx with z | z
              · exact hS.2.2.1 x z
              · rw [List.mem_singleton.mp z]
                exact hge
          rcases xb_aok_some hok g3 with rfl | ⟨b, ci, fs, C, r0, rfl, rfl, hb0, hc0, hok0⟩
          · cases ty with
            | object C => exact va_WaastN (C := C) hexec hb q1 q2 q3 hin rfl rfl hdg fin
            | array t => exact xx_aastN hexec hb q1 q2 rfl q3 hin rfl rfl hdg fin
            | _ => cases g1
          · obtain ⟨kA, comp, r1, r2, r3, -⟩ := q7 hge C rfl
            obtain ⟨cellV, v1, v2, v3⟩ := xx_recv hK hS.1 hb0 hc0
            obtain ⟨kE, hkE, -⟩ := Vm.findClass_spec r3
            obtain ⟨kC, hkC, -⟩ := Vm.findClass_spec v3
            exact W.aast hexec hb q1 q2.1 q3 r1 r2 rfl hkE ⟨h1, by omega⟩ v1 (fun q z => by rw [z] at v2; cases v2) hkC (xx_asg hn hc0 hok0 r3 v3) rfl rfl hdg fin
        · cases hs
      · cases hs
    · cases hs
  · cases hs
def xx_okr (P : xx_P) (Ts nst : List Cond) (on : Nat → String) : Prop := ∀ o idx ty, xp_acl P o idx = some ty → ∃ C : String, ty = .object C ∧ Cond.classLink (on o) idx C ∈ Ts ∧ Cond.arrayOver (.object C) ∈ nst
theorem xb_newr_ok {ty : FieldType} (hexec : p.tables.exec = Jvm.exec) (hb : c.code = cc) (hts : ∀ w ∈ Ts, w.before args s = true) (hn : ∀ w ∈ nst, va_Nw w s) (hown : s.vm.findClass (on o) = some m.cls) (hok : ∃ C : String, ty = .object C ∧ Cond.classLink (on o) idx C ∈ Ts ∧ Cond.arrayOver (.object C) ∈ nst) (ha : xx_ad n0 base ad) (hdg : decode cc pc = .ok (.anewarray idx, 3)) (hs : xb_newr ty pc st h = some (pc', st', h')) (hS : xx_S D cl ol ad n0 base s h H locs)
    (hcells : cells + (h'.length - h.length) ≤ R.cells) (hslots : slots + (xx_sz h' - xx_sz h) ≤ R.slots)
    (kk : ∀ (H' : Heap), xx_S D cl ol ad n0 base s h' H' locs → W p l e R s m args below meth c H' locs (cells + (h'.length - h.length)) (slots + (xx_sz h' - xx_sz h)) Q (F0 m pc' L (st'.map (xx_v ad)))) : W p l e R s m args below meth c H locs cells slots Q (F0 m pc L (st.map (xx_v ad))) := by
  obtain ⟨C, rfl, hl, hov⟩ := hok
  unfold xb_newr at hs
  split at hs
  · rename_i j r
    split at hs
    · rename_i hg
      rw [Bool.and_eq_true] at hg
      have g1 : ¬ j < 0 := of_decide_eq_true hg.1
      have g2 : j.toNatClampNeg * 8 ≤ 536870912 := Nat.le_of_ble_eq_true hg.2
      cases hs
      have hlen : (h ++ [.inl (.object C, List.replicate j.toNatClampNeg .null)] : xx_H).length - h.length = 1 := by simp
      have hsz : xx_sz (h ++ [.inl (.object C, List.replicate j.toNatClampNeg .null)]) - xx_sz h = j.toNatClampNeg := by rw [xx_sz_app]; simp [xx_sz1]
      rw [hlen] at hcells kk
      rw [hsz] at hslots kk
      have hhs : ad h.length = H.size := by rw [ha.1 _ hS.1.1, hS.1.2.1]
      refine W.anew hexec hb hown (hts _ hl) (va_AO.use (hn _ hov)) rfl hdg rfl g1 (by omega) hcells hslots (fun cA kA comp f1 f2 f3 f4 => ?_)
      generalize hH1 : H.push ({ cls := cA, slots := Array.replicate j.toNatClampNeg .null, vm := .none } : Cell) = H1
      have z1 : H1.size = H.size + 1 := by rw [← hH1, Array.size_push]
      have e1 : H1[H.size]? = some { cls := cA, slots := Array.replicate j.toNatClampNeg .null, vm := .none } := by rw [← hH1, Array.getElem?_push_size]
      have o1 : ∀ q : Nat, q < H.size → H1[q]? = H[q]? := fun q hq => by rw [← hH1, Array.getElem?_push, if_neg (Nat.ne_of_lt hq)]
      have hg := kk H1 ⟨xx_rep_new ha hS.1 z1 o1 ⟨_, e1, ⟨fun k z => (by cases z), kA, f2, comp, f3⟩, fun z => (by cases z), by simp, by simp, fun i w hw => ?_, fun b C' e => by cases e; exact ⟨kA, comp, f2, f3, f4, f1⟩⟩, fun q hq => ?_, hS.2.2.1, by rw [z1]; exact Nat.le_succ_of_le hS.2.2.2⟩
      · rw [show ((Value.ref h.length :: r).map (xx_v ad)) = .ref H.size :: r.map (xx_v ad) by rw [List.map_cons, ← hhs]; rfl] at hg
        exact hg
      · have hw : (List.replicate j.toNatClampNeg Value.null)[i]? = some w := hw
        rw [List.getElem?_replicate] at hw
        split at hw
        · rename_i hi
          cases hw
          show (Array.replicate j.toNatClampNeg Value.null)[i]? = _
          simp [hi, xx_v]
        · cases hw
      · rw [o1 q (by have := hS.1.2.1; omega)]
        exact hS.2.1 q hq
    · cases hs
  · cases hs
def xx_okk (P : xx_P) (Ts nst : List Cond) (cl : List vw_C) (on : Nat → String) : Prop := ∀ o idx ci, xp_cst P o idx ci = true → ∃ (r : vw_C) (nm : String), cl[ci]? = some r ∧ Cond.classLink (on o) idx nm ∈ Ts ∧ Cond.castable r.1 nm ∈ nst
theorem xb_cast_ok (hexec : p.tables.exec = Jvm.exec) (hb : c.code = cc) (hts : ∀ w ∈ Ts, w.before args s = true) (hn : ∀ w ∈ nst, va_Nw w s) (hK : va_K D cl [] s) (hown : s.vm.findClass (on o) = some m.cls) (hok : xx_okk P Ts nst cl on) (hdg : decode cc pc = .ok (.checkcast idx, 3)) (hs : xb_cast P o idx pc st h = some (pc', st', h')) (hr : xx_rep D cl ol ad n0 base s h H)
    (kk : h' = h → W p l e R s m args below meth c H locs cells slots Q (F0 m pc' L (st'.map (xx_v ad)))) : W p l e R s m args below meth c H locs cells slots Q (F0 m pc L (st.map (xx_v ad))) := by
  unfold xb_cast at hs
  split at hs
  · cases hs
    exact lv_castN hexec hb hdg (kk rfl)
  · rename_i a r
    split at hs
    · rename_i ci fs hat
      split at hs
      · rename_i hc
        cases hs
        obtain ⟨r0, nm, g1, g2, g3⟩ := hok o idx ci hc
        exact va_castY (C := r0.1) hexec hb hown (hts _ g2) (hn _ g3) (xx_recv hK hr hat g1) hdg (kk rfl)
      · cases hs
    · cases hs
  · cases hs
theorem xb_acmp_ok {cnd : Jvm.ClassFile.ACond} {off : Int} (hexec : p.tables.exec = Jvm.exec) (hb : c.code = cc) (hdg : decode cc pc = .ok (.if_acmp cnd off, 3)) (hs : xb_acmp cnd off pc st h = some (pc', st', h'))
    (kk : h' = h → W p l e R s m args below meth c H locs cells slots Q (F0 m pc' L (st'.map (xx_v ad)))) : W p l e R s m args below meth c H locs cells slots Q (F0 m pc L (st.map (xx_v ad))) := by
  unfold xb_acmp at hs
  split at hs
  · rename_i a b r
    split at hs
    · rename_i hab
      split at hs
      · rename_i t ht
        cases hs
        have hab := Nat.eq_of_beq_eq_true hab
        subst hab
        have ht' : (pc : Int) + off = (pc' : Int) := by
          unfold xa_br at ht
          split at ht
          · rename_i q hq
            cases ht
            exact hq
          · cases ht
        exact lv_acmp_eq (rx := some (ad a)) (ry := some (ad a)) hexec hb hdg ht' (fun _ => kk rfl) (fun z => absurd rfl z)
      · cases hs
    · cases hs
  · cases hs
end XXB2

