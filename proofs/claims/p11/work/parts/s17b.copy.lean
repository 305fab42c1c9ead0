def xo_new (vs : List Value) (n : Int32) : xx_E := .inl (.object "java/lang/Object", vs ++ List.replicate (n.toNatClampNeg - vs.length) .null)
def xo_f (x mi y : Nat) : Nat → Nat := fun i => match i with
  | 0 => x
  | 1 => mi
  | _ => y
def xo_P3 (D : va_G) (cl ol : List vw_C) (nst : List Cond) (strs : List (String × Nat × String × Nat)) (stv : List (String × String × String × Value)) (ad : Nat → Nat) (n0 base : Nat) (a mi : Nat) (n : Int32) (h : xx_H) : Array Value → State → Prop := fun A U => A = (([.ref 0, .int n, .ref 1] : List Value).map (xx_v (xo_f (ad a) mi (ad h.length)))).toArray ∧ va_Mi "[Ljava/lang/Object;" mi U ∧ xx_rep D cl ol ad n0 base U h U.heap ∧ xx_K D cl nst strs stv ad base U U.heap
theorem xo_P3_blind {D : va_G} {cl ol : List vw_C} {nst : List Cond} {strs : List (String × Nat × String × Nat)} {stv : List (String × String × String × Value)} {ad : Nat → Nat} {n0 base a mi : Nat} {n : Int32} {h : xx_H} (hnst : ∀ w ∈ nst, xx_nest w = true) : FrameBlind (xo_P3 D cl ol nst strs stv ad n0 base a mi n h) := by
  intro A U g mk hq
  exact ⟨hq.1, va_Mi.moved (u := U) (U := U.calling g mk A) (Vm.Alike.refl U.vm) hq.2.1, xx_rep_moved (u := U) (U := U.calling g mk A) (Vm.Alike.refl U.vm) hq.2.2.1, xx_K_same (u := U) (U := U.calling g mk A) hnst rfl hq.2.2.2⟩
theorem xb_aok_app {P : xx_P} {ty : FieldType} {v : Value} {h l : xx_H} (h0 : xb_aok P ty v h = true) : xb_aok P ty v (h ++ l) = true := by
  unfold xb_aok at h0 ⊢
  split at h0
  · rfl
  · rename_i b
    split at h0
    · rename_i ci fs hb
      rw [List.getElem?_append_left (List.getElem?_eq_some_iff.mp hb).1]
      simp only [hb]
      exact h0
    · cases h0
  · cases h0
section XXF
variable {l : Launch} {h : xx_H} {ad : Nat → Nat} {n0 base : Nat} {D : va_G} {cl ol : List vw_C} {P : xx_P} {Ts nst : List Cond} {strs : List (String × Nat × String × Nat)} {stv : List (String × String × String × Value)}
theorem xo_over_0 {vs : List Value} {N : Nat} (h : vs.length ≤ N) : xo_over vs (List.replicate N .null) 0 0 vs.length = vs ++ List.replicate (N - vs.length) .null := by
  simp [xo_over]
theorem xo_takes {s : State} {H : Heap} {b : Nat} {v : Value} (hn : ∀ w ∈ nst, va_Nw w s) (hK : va_K D cl [] s) (hok : xx_okg P nst cl) (hr : xx_rep D cl ol ad n0 base s h H) (h0 : xb_aok P (.object "java/lang/Object") v h = true) (hra : ∀ cd : Cell, H[ad b]? = some cd → xx_ra s cd.cls "java/lang/Object") : fits (.object "java/lang/Object") (xx_v ad v) = true ∧ ∀ (kd : Class) (dC : ClassId) (cd : Cell), H[ad b]? = some cd → s.vm.classes[cd.cls]? = some kd → kd.kind = .array dC (.object "java/lang/Object") → ∀ (vm' : Vm) (T : State), T.heap = H → s.vm.Alike vm' → (T.setVm vm').takes dC (xx_v ad v) := by
  rcases xb_aok_some hok h0 with rfl | ⟨b', ci, fs, C, r0, rfl, hC, hb0, hc0, hok0⟩
  · exact ⟨rfl, fun _ _ _ _ _ _ _ _ _ _ => trivial⟩
  · cases hC
    refine ⟨rfl, fun kd dC cd e1 e2 e3 vm' T hT hal => ?_⟩
    obtain ⟨kA, comp, r1, r2, r3, -⟩ := hra cd e1
    cases e2.symm.trans r1
    cases e3.symm.trans r2
    obtain ⟨cellV, v1, v2, v3⟩ := xx_recv hK hr hb0 hc0
    obtain ⟨kE, hkE, -⟩ := Vm.findClass_spec r3
    obtain ⟨kC, hkC, -⟩ := Vm.findClass_spec v3
    obtain ⟨kC', hkC', -⟩ := hal.2.2 _ _ hkC
    obtain ⟨kE', hkE', -⟩ := hal.2.2 _ _ hkE
    refine ⟨cellV, (show T.heap[ad b']? = some cellV by rw [hT]; exact v1), (fun q z => by rw [z] at v2; cases v2), ⟨kC', hkC'⟩, ⟨kE', hkE'⟩, ?_⟩
    show vm'.assignable _ _ = true
    rw [hal.assignable]
    exact xx_asg hn hc0 hok0 r3 v3
theorem xo_min {x : Int32} {k : Nat} (h0 : ¬ x < 0) (h1 : k ≤ x.toNatClampNeg) : (if x < Int32.ofNat k then x else Int32.ofNat k) = Int32.ofNat k := by
  have e := xw_nn h0
  have hx : x.toInt < 2147483648 := Int32.toInt_lt x
  have hk : (Int32.ofNat k).toInt = k := Int32.toInt_ofNat_of_lt (by omega)
  rw [if_neg]
  intro z
  have := Int32.lt_iff_toInt_lt.mp z
  omega
theorem xo_clamp {x : Int32} {k : Nat} (h0 : ¬ x < 0) (h1 : k ≤ x.toNatClampNeg) : ¬ (Int32.ofNat k) < 0 ∧ (Int32.ofNat k).toNatClampNeg = k := by
  have e := xw_nn h0
  have hx : x.toInt < 2147483648 := Int32.toInt_lt x
  have hk : (Int32.ofNat k).toInt = k := Int32.toInt_ofNat_of_lt (by omega)
  refine ⟨fun z => ?_, ?_⟩
  · have := Int32.lt_iff_toInt_lt.mp z
    rw [hk] at this
    have h9 : (0 : Int32).toInt = 0 := rfl
    omega
  · show (Int32.ofNat k).toInt.toNat = k
    rw [hk]
    rfl
set_option maxHeartbeats 2000000 in
theorem xo_met3 {a mi : Nat} {vs : List Value} {n : Int32} (hgood : GoodIn Ts Ts) (hnst : ∀ w ∈ nst, xx_nest w = true) (hok : xx_okg P nst cl) (h6 : xo_ok6 Ts nst) (ha : xx_ad n0 base ad) (hA : h[a]? = some (.inl (.object "java/lang/Object", vs))) (hel : vs.all (fun v => xb_aok P (.object "java/lang/Object") v h) = true) (hn : ¬ n < 0) (hl : vs.length ≤ n.toNatClampNeg) (hbt : n.toNatClampNeg * 8 ≤ 536870912) :
    Met l xo_N3 (Cond.code xo_N3 xo_B3 4 (some (.array (.object "java/lang/Object"))) :: Ts) { frames := 1, cells := 1, slots := n.toNatClampNeg, locals := 60 } (xo_P3 D cl ol nst strs stv ad n0 base a mi n h) (xx_Qc D cl ol ad n0 base (some (.ref h.length)) (h ++ [xo_new vs n])) 1 n.toNatClampNeg (fun q => base ≤ q) := by
  obtain ⟨hws, hdecl, hover⟩ := h6
  refine Met.ofW (cc := xo_B3) (maxL := 4) (ret := some (.array (.object "java/lang/Object"))) (by decide) rfl ?_
  intro p e s m args below meth c s₁ B hml hv
  obtain ⟨rfl, hMi, hrep, hK⟩ := hv
  have hts0 := atoms_spec (ws := Cond.code xo_N3 xo_B3 4 (some (.array (.object "java/lang/Object"))) :: Ts) B.pre
  have hts : ∀ w ∈ Ts, w.before _ s = true := fun w hw => hts0 w (List.mem_cons_of_mem _ hw)
  have hw : ∀ w ∈ xo_ws, w.before _ s = true := fun w q => hts w (hws w q)
  have hown : s.vm.findClass "java/util/Arrays" = some m.cls := findClass_of_methodNamed B.named
  have hent := lv_entry (([.ref 0, .int n, .ref 1] : List Value).map (xx_v (xo_f (ad a) mi (ad h.length)))) (n := 4) (by rw [xx_args_len]; exact (show 3 ≤ 4 by decide))
  rw [lg_entry_eq]
  generalize hf : xo_f (ad a) mi (ad h.length) = f at *
  have f0 : f 0 = ad a := by rw [← hf]; rfl
  have f1 : f 1 = mi := by rw [← hf]; rfl
  have f2 : f 2 = ad h.length := by rw [← hf]; rfl
  generalize (lg_sl (([.ref 0, .int n, .ref 1] : List Value).map (xx_v f)) ++ List.replicate (4 - (lg_sl (([.ref 0, .int n, .ref 1] : List Value).map (xx_v f))).length) Slot.unset).toArray = L at hent ⊢
  have hL : xx_has f [some (.ref 0), some (.int n), some (.ref 1), none] L := xx_ent_has (n := 4) (as := [.ref 0, .int n, .ref 1]) (show 3 ≤ 4 by decide) hent
  have hS0 : xx_S D cl ol ad n0 base s h s.heap [] := ⟨hrep, fun _ _ => rfl, fun x hx => (by cases hx), Nat.le_refl _⟩
  have hR : (headSpec (Cond.code xo_N3 xo_B3 4 (some (.array (.object "java/lang/Object"))) :: Ts) { frames := 1, cells := 1, slots := n.toNatClampNeg, locals := 60 }).room = { frames := 1, cells := 1, slots := n.toNatClampNeg, locals := 60 } := rfl
  rw [hR]
  show W _ _ _ _ _ _ _ _ _ _ _ _ _ _ _ (F0 m 0 L (([] : List Value).map (xx_v f)))
  refine xa_sound (ad := f) (i := .aload_n 2) (ls := [some (.ref 0), some (.int n), some (.ref 1), none]) (st := []) (pc' := 1) (ls' := [some (.ref 0), some (.int n), some (.ref 1), none]) (st' := [.ref 1]) B.exec B.bytes ⟨_, (by decide +kernel), Or.inr rfl⟩ rfl hL (fun L1 hL1 => ?_)
  refine va_ldcM B.exec B.bytes hown (hw (.classLink "java/util/Arrays" 110 "[Ljava/lang/Object;") (by simp [xo_ws])) hMi (by decide +kernel) ?_
  show W _ _ _ _ _ _ _ _ _ _ _ _ _ _ _ (F0 m 3 L1 [.ref mi, .ref (f 1)])
  rw [f1]
  refine lv_acmp_ne (rx := some mi) (ry := some mi) (tgt := 13) (rest := []) B.exec B.bytes (off := 10) (by decide +kernel) (by decide) (fun z => absurd rfl z) (fun _ => ?_)
  show W _ _ _ _ _ _ _ _ _ _ _ _ _ _ _ (F0 m 6 L1 (([] : List Value).map (xx_v f)))
  refine xa_sound (ad := f) (i := .iload_n 1) (ls := [some (.ref 0), some (.int n), some (.ref 1), none]) (st := []) (pc' := 7) (ls' := [some (.ref 0), some (.int n), some (.ref 1), none]) (st' := [.int n]) B.exec B.bytes ⟨_, (by decide +kernel), Or.inr rfl⟩ rfl hL1 (fun L2 hL2 => ?_)
  show W _ _ _ _ _ _ _ _ _ _ _ _ _ _ _ (F0 m 7 L2 (([.int n] : List Value).map (xx_v ad)))
  have hmk : xb_newr (.object "java/lang/Object") 7 [.int n] h = some (10, [.ref h.length], h ++ [.inl (.object "java/lang/Object", List.replicate n.toNatClampNeg .null)]) := by
    unfold xb_newr
    simp only [decide_eq_true hn, Nat.ble_eq_true_of_le hbt]
    rfl
  have hlen : (h ++ [.inl (.object "java/lang/Object", List.replicate n.toNatClampNeg .null)] : xx_H).length - h.length = 1 := by simp
  have hsz : xx_sz (h ++ [.inl (.object "java/lang/Object", List.replicate n.toNatClampNeg .null)]) - xx_sz h = n.toNatClampNeg := by rw [xx_sz_app]; simp [xx_sz1]
  refine xb_newr_ok (on := fun _ => "java/util/Arrays") (o := 0) (idx := 2) B.exec B.bytes hts hK.2.1 hown ⟨_, rfl, hws (.classLink "java/util/Arrays" 2 "java/lang/Object") (by simp [xo_ws]), hover⟩ ha (by decide +kernel) hmk hS0 (by rw [hlen]; exact Nat.le_refl _) (by rw [hsz]; exact Nat.le_of_eq (Nat.zero_add _)) (fun H1 hS1 => ?_)
  rw [hlen, hsz]
  show W _ _ _ _ _ _ _ _ _ _ _ _ _ _ _ (F0 m 10 L2 [.ref (ad h.length)])
  rw [← f2]
  show W _ _ _ _ _ _ _ _ _ _ _ _ _ _ _ (F0 m 10 L2 (([.ref 2] : List Value).map (xx_v f)))
  refine xa_sound (ad := f) (i := .goto 14) (ls := [some (.ref 0), some (.int n), some (.ref 1), none]) (st := [.ref 2]) (pc' := 24) (ls' := [some (.ref 0), some (.int n), some (.ref 1), none]) (st' := [.ref 2]) B.exec B.bytes ⟨_, (by decide +kernel), Or.inr rfl⟩ rfl hL2 (fun L3 hL3 => ?_)
  refine xa_sound (ad := f) (i := .astore_n 3) (ls := [some (.ref 0), some (.int n), some (.ref 1), none]) (st := [.ref 2]) (pc' := 25) (ls' := [some (.ref 0), some (.int n), some (.ref 1), some (.ref 2)]) (st' := []) B.exec B.bytes ⟨_, (by decide +kernel), Or.inr rfl⟩ rfl hL3 (fun L4 hL4 => ?_)
  refine xa_sound (ad := f) (i := .aload_n 0) (ls := [some (.ref 0), some (.int n), some (.ref 1), some (.ref 2)]) (st := []) (pc' := 26) (ls' := [some (.ref 0), some (.int n), some (.ref 1), some (.ref 2)]) (st' := [.ref 0]) B.exec B.bytes ⟨_, (by decide +kernel), Or.inr rfl⟩ rfl hL4 (fun L5 hL5 => ?_)
  refine xa_sound (ad := f) (i := .iconst 0) (ls := [some (.ref 0), some (.int n), some (.ref 1), some (.ref 2)]) (st := [.ref 0]) (pc' := 27) (ls' := [some (.ref 0), some (.int n), some (.ref 1), some (.ref 2)]) (st' := [.int 0, .ref 0]) B.exec B.bytes ⟨_, (by decide +kernel), Or.inr rfl⟩ rfl hL5 (fun L6 hL6 => ?_)
  refine xa_sound (ad := f) (i := .aload_n 3) (ls := [some (.ref 0), some (.int n), some (.ref 1), some (.ref 2)]) (st := [.int 0, .ref 0]) (pc' := 28) (ls' := [some (.ref 0), some (.int n), some (.ref 1), some (.ref 2)]) (st' := [.ref 2, .int 0, .ref 0]) B.exec B.bytes ⟨_, (by decide +kernel), Or.inr rfl⟩ rfl hL6 (fun L7 hL7 => ?_)
  refine xa_sound (ad := f) (i := .iconst 0) (ls := [some (.ref 0), some (.int n), some (.ref 1), some (.ref 2)]) (st := [.ref 2, .int 0, .ref 0]) (pc' := 29) (ls' := [some (.ref 0), some (.int n), some (.ref 1), some (.ref 2)]) (st' := [.int 0, .ref 2, .int 0, .ref 0]) B.exec B.bytes ⟨_, (by decide +kernel), Or.inr rfl⟩ rfl hL7 (fun L8 hL8 => ?_)
  refine xa_sound (ad := f) (i := .aload_n 0) (ls := [some (.ref 0), some (.int n), some (.ref 1), some (.ref 2)]) (st := [.int 0, .ref 2, .int 0, .ref 0]) (pc' := 30) (ls' := [some (.ref 0), some (.int n), some (.ref 1), some (.ref 2)]) (st' := [.ref 0, .int 0, .ref 2, .int 0, .ref 0]) B.exec B.bytes ⟨_, (by decide +kernel), Or.inr rfl⟩ rfl hL8 (fun L9 hL9 => ?_)
  have hA1 : (h ++ [.inl (.object "java/lang/Object", List.replicate n.toNatClampNeg .null)] : xx_H)[a]? = some (.inl (.object "java/lang/Object", vs)) := by rw [List.getElem?_append_left (List.getElem?_eq_some_iff.mp hA).1]; exact hA
  have hB1 : (h ++ [.inl (.object "java/lang/Object", List.replicate n.toNatClampNeg .null)] : xx_H)[h.length]? = some (.inl (.object "java/lang/Object", List.replicate n.toNatClampNeg .null)) := by simp
  obtain ⟨cell, q1, q2, q3, q4, q5, q6, q7⟩ := hS1.1.2.2 a _ hA1
  show W _ _ _ _ _ _ _ _ _ _ _ _ _ _ _ (F0 m 30 L9 (.ref (f 0) :: ([.int 0, .ref 2, .int 0, .ref 0] : List Value).map (xx_v f)))
  refine W.alen B.exec B.bytes (a := f 0) (by rw [f0]; exact q1) q2 (n := Int32.ofNat vs.length) q5 rfl rfl (by show decode xo_B3 30 = _; decide +kernel) ?_
  show W _ _ _ _ _ _ _ _ _ _ _ _ _ _ _ (F0 m 31 L9 (([.int (Int32.ofNat vs.length), .int 0, .ref 2, .int 0, .ref 0] : List Value).map (xx_v f)))
  refine xa_sound (ad := f) (i := .iload_n 1) (ls := [some (.ref 0), some (.int n), some (.ref 1), some (.ref 2)]) (st := [.int (Int32.ofNat vs.length), .int 0, .ref 2, .int 0, .ref 0]) (pc' := 32) (ls' := [some (.ref 0), some (.int n), some (.ref 1), some (.ref 2)]) (st' := [.int n, .int (Int32.ofNat vs.length), .int 0, .ref 2, .int 0, .ref 0]) B.exec B.bytes ⟨_, (by decide +kernel), Or.inr rfl⟩ rfl hL9 (fun La hLa => ?_)
  have sz : La.size = 4 := hLa.1
  refine va_mmin (x := Int32.ofNat vs.length) (y := n) (rest := ([.int 0, .ref 2, .int 0, .ref 0] : List Value).map (xx_v f)) B.exec B.bytes (by rw [hml, sz]) hown (hw (.methodLink "java/util/Arrays" 304 Lib.Math.min.name) (by simp [xo_ws])) (hw (.static Lib.Math.min.name) (by simp [xo_ws])) (hw (.initialized "java/lang/Math") (by simp [xo_ws])) (hw (.code Lib.Math.min.name Lib.Math.min.code 2 (some .int)) (by simp [xo_ws])) (Nat.le_refl _) (by rw [xx_cats]; exact (show 4 + 13 ≤ 60 by decide)) (Nat.le_refl _) (Nat.le_of_eq (Nat.zero_add _)) (by decide +kernel) ?_
  rw [xo_min hn hl]
  obtain ⟨c1, c2⟩ := xo_clamp hn hl
  show W _ _ _ _ _ _ _ _ _ _ _ _ _ _ _ (F0 m 35 La [.int (Int32.ofNat vs.length), .int 0, .ref (f 2), .int 0, .ref (f 0)])
  rw [f2, f0]
  refine xo_acopy_ok (own := "java/util/Arrays") (index := 150) (rest := []) B.exec B.bytes (by rw [hml, sz]) hown (hw (.methodLink "java/util/Arrays" 150 arraycopyName) (by simp [xo_ws])) (hw (.native arraycopyName) (by simp [xo_ws])) (hw (.static arraycopyName) (by simp [xo_ws])) (hw (.initialized "java/lang/System") (by simp [xo_ws])) ha hS1 hA1 hB1 hrep.1 (by decide) (by decide) c1 (by rw [c2]; exact Nat.le_of_eq (Nat.zero_add _)) (by rw [c2, List.length_replicate]; exact Nat.le_trans (Nat.le_of_eq (Nat.zero_add _)) hl) (fun v hv => ?_) (Nat.le_refl _) (show 0 + 18 ≤ 60 by decide) (by decide +kernel) (fun H2 locs2 hS2 => ?_)
  · have h9 := List.all_eq_true.mp hel v hv
    refine xo_takes (P := P) hK.2.1 hK.1 hok hS1.1 ?_ (fun cd hcd => ?_)
    · exact xb_aok_app h9
    · obtain ⟨cd', w1, w2, w3, w4, w5, w6, w7⟩ := hS1.1.2.2 h.length _ hB1
      cases w1.symm.trans hcd
      exact w7 (xx_ad_ge ha hrep.1) _ rfl
  · rw [c2, show (0 : Int32).toNatClampNeg = 0 from rfl, xo_over_0 hl, List.set_append_right _ _ (Nat.le_refl _), Nat.sub_self] at hS2
    show W _ _ _ _ _ _ _ _ _ _ _ _ _ _ _ (F0 m 38 La (([] : List Value).map (xx_v f)))
    refine xa_sound (ad := f) (i := .aload_n 3) (ls := [some (.ref 0), some (.int n), some (.ref 1), some (.ref 2)]) (st := []) (pc' := 39) (ls' := [some (.ref 0), some (.int n), some (.ref 1), some (.ref 2)]) (st' := [.ref 2]) B.exec B.bytes ⟨_, (by decide +kernel), Or.inr rfl⟩ rfl hLa (fun Lb hLb => ?_)
    refine W.cs (cells' := 1) (slots' := n.toNatClampNeg) (by first | rfl | exact Nat.zero_add _) (by first | rfl | exact Nat.zero_add _) (xr_sound (ad := f) (i := .areturn) (st := [.ref 2]) (v := some (.ref 2)) (cells := 1) (slots := n.toNatClampNeg) B.exec B.bytes B.returns B.notSynchronized ⟨_, (by decide +kernel), Or.inr rfl⟩ rfl (fun t ht hW => ⟨?_, by rw [ht]; exact xx_rep_moved hW.alike hS2.1, fun q hq => by rw [ht]; exact hS2.2.1 q hq⟩) hS2.2.2.1)
    show Outcome.returned (some (.ref (f 2))) = .returned (some (.ref (ad h.length)))
    rw [f2]
set_option maxHeartbeats 2000000 in
theorem xo_met2 {a : Nat} {vs : List Value} {n : Int32} (hgood : GoodIn Ts Ts) (hnst : ∀ w ∈ nst, xx_nest w = true) (hok : xx_okg P nst cl) (h6 : xo_ok6 Ts nst) (ha : xx_ad (xp_n0 P) base ad) (hna : (xp_n0 P) ≤ a) (hA : h[a]? = some (.inl (.object "java/lang/Object", vs))) (hel : vs.all (fun v => xb_aok P (.object "java/lang/Object") v h) = true) (hn : ¬ n < 0) (hl : vs.length ≤ n.toNatClampNeg) (hbt : n.toNatClampNeg * 8 ≤ 536870912) :
    Met l xo_N2 (Cond.code xo_N2 xo_B2 2 (some (.array (.object "java/lang/Object"))) :: Ts) { frames := 2, cells := 1, slots := n.toNatClampNeg, locals := 120 } (xx_Pc D cl ol nst strs stv ad (xp_n0 P) base [.ref a, .int n] h) (xx_Qc D cl ol ad (xp_n0 P) base (some (.ref h.length)) (h ++ [xo_new vs n])) 1 n.toNatClampNeg (fun q => base ≤ q) := by
  have h60 := h6
  obtain ⟨hws, hdecl, hover⟩ := h6
  refine Met.ofW (cc := xo_B2) (maxL := 2) (ret := some (.array (.object "java/lang/Object"))) (by decide) rfl ?_
  intro p e s m args below meth c s₁ B hml hv
  obtain ⟨rfl, hrep, hK⟩ := hv
  obtain ⟨mi, hMi⟩ := hK.2.2.2.2
  have hts0 := atoms_spec (ws := Cond.code xo_N2 xo_B2 2 (some (.array (.object "java/lang/Object"))) :: Ts) B.pre
  have hts : ∀ w ∈ Ts, w.before _ s = true := fun w hw => hts0 w (List.mem_cons_of_mem _ hw)
  have hw : ∀ w ∈ xo_ws, w.before _ s = true := fun w q => hts w (hws w q)
  have hown : s.vm.findClass "java/util/Arrays" = some m.cls := findClass_of_methodNamed B.named
  have hent := lv_entry (([.ref a, .int n] : List Value).map (xx_v ad)) (n := 2) (by rw [xx_args_len]; exact (show 2 ≤ 2 by decide))
  rw [lg_entry_eq]
  generalize (lg_sl (([.ref a, .int n] : List Value).map (xx_v ad)) ++ List.replicate (2 - (lg_sl (([.ref a, .int n] : List Value).map (xx_v ad))).length) Slot.unset).toArray = L at hent ⊢
  have hL : xx_has ad [some (.ref a), some (.int n)] L := xx_ent_has (n := 2) (as := [.ref a, .int n]) (show 2 ≤ 2 by decide) hent
  have hS0 : xx_S D cl ol ad (xp_n0 P) base s h s.heap [] := ⟨hrep, fun _ _ => rfl, fun x hx => (by cases hx), Nat.le_refl _⟩
  have hR : (headSpec (Cond.code xo_N2 xo_B2 2 (some (.array (.object "java/lang/Object"))) :: Ts) { frames := 2, cells := 1, slots := n.toNatClampNeg, locals := 120 }).room = { frames := 2, cells := 1, slots := n.toNatClampNeg, locals := 120 } := rfl
  rw [hR]
  show W _ _ _ _ _ _ _ _ _ _ _ _ _ _ _ (F0 m 0 L (([] : List Value).map (xx_v ad)))
  refine xa_sound (ad := ad) (i := .aload_n 0) (ls := [some (.ref a), some (.int n)]) (st := []) (pc' := 1) (ls' := [some (.ref a), some (.int n)]) (st' := [.ref a]) B.exec B.bytes ⟨_, (by decide +kernel), Or.inr rfl⟩ rfl hL (fun L1 hL1 => ?_)
  refine xa_sound (ad := ad) (i := .iload_n 1) (ls := [some (.ref a), some (.int n)]) (st := [.ref a]) (pc' := 2) (ls' := [some (.ref a), some (.int n)]) (st' := [.int n, .ref a]) B.exec B.bytes ⟨_, (by decide +kernel), Or.inr rfl⟩ rfl hL1 (fun L2 hL2 => ?_)
  refine xa_sound (ad := ad) (i := .aload_n 0) (ls := [some (.ref a), some (.int n)]) (st := [.int n, .ref a]) (pc' := 3) (ls' := [some (.ref a), some (.int n)]) (st' := [.ref a, .int n, .ref a]) B.exec B.bytes ⟨_, (by decide +kernel), Or.inr rfl⟩ rfl hL2 (fun L3 hL3 => ?_)
  have sz : L3.size = 2 := hL3.1
  have hlen : (h ++ [xo_new vs n] : xx_H).length - h.length = 1 := by simp
  have hsz : xx_sz (h ++ [xo_new vs n]) - xx_sz h = n.toNatClampNeg := by
    rw [xx_sz_app]
    simp [xx_sz1, xo_new]
    omega
  obtain ⟨cell, q1, q2, q3, q4, q5, q6, q7⟩ := hrep.2.2 a _ hA
  obtain ⟨kA, comp, r1, r2, r3, r4⟩ := q7 (xx_ad_ge ha hna) _ rfl
  have hcell : ∃ cell : Cell, s.heap[ad a]? = some cell ∧ cell.vm.isStatics = false ∧ s.vm.findClass "[Ljava/lang/Object;" = some cell.cls := by
    refine ⟨cell, q1, ?_, by rw [← show "[" ++ (FieldType.object "java/lang/Object").toString = "[Ljava/lang/Object;" by decide]; exact r4⟩
    cases hvm : cell.vm <;> first | exact absurd hvm (q2.1 _) | rfl
  show W _ _ _ _ _ _ _ _ _ _ _ _ _ _ _ (F0 m 3 L3 (.ref (ad a) :: ([.int n, .ref a] : List Value).map (xx_v ad)))
  refine va_getC B.exec B.bytes (by rw [hml, sz]) hown (hw (.methodLink "java/util/Arrays" 86 xo_gc) (by simp [xo_ws])) (va_Dc.use (hK.2.1 _ hdecl)) (hw (.selects "[Ljava/lang/Object;" xo_gc xo_gc) (by simp [xo_ws])) (hw (.instanceMethod xo_gc) (by simp [xo_ws])) (hw (.native xo_gc) (by simp [xo_ws])) hMi hcell (show 1 ≤ 2 by decide) (by rw [xx_cats]; exact (show 2 + 14 ≤ 120 by decide)) (by decide +kernel) ?_
  have hwg : GoodIn Ts (Cond.code xo_N3 xo_B3 4 (some (.array (.object "java/lang/Object"))) :: Ts) := fun w hw' => by
    rcases List.mem_cons.mp hw' with z | z
    · rw [z]; exact hgood _ (hws _ (by simp [xo_ws]))
    · exact hgood _ z
  have hPc : ∀ U : State, U.heap = s.heap → s.WarmedH U.vm → xo_P3 D cl ol nst strs stv ad (xp_n0 P) base a mi n h (([.ref (ad a), .int n, .ref mi] : List Value)).toArray U := fun U hU hW => ⟨rfl, va_Mi.moved hW.alike hMi, by rw [hU]; exact xx_rep_moved hW.alike hrep, by rw [hU]; exact xx_K_warm hnst hW (fun _ _ => rfl) hK⟩
  have hM := xo_met3 (l := l) (D := D) (cl := cl) (ol := ol) (strs := strs) (stv := stv) (mi := mi) hgood hnst hok h60 ha hA hel hn hl hbt
  have hrun := va_runS (e := e) (below := below) (meth := meth) (R := { frames := 2, cells := 1, slots := n.toNatClampNeg, locals := 120 }) (locs := []) (cells := 0) (slots := 0) (g := F0 m 6 L3 [.ref mi, .int n, .ref (ad a)]) (rest := ([] : List Value).map (xx_v ad)) (As := [.ref (ad a), .int n, .ref mi]) ⟨B.exec, B.bytes, hml.trans sz.symm, hown, hts⟩ hM ⟨callB_of 3 hts hwg rfl rfl rfl (hw (.initialized "java/util/Arrays") (by simp [xo_ws])) (hw (.methodLink "java/util/Arrays" 300 xo_N3) (by simp [xo_ws])) ⟨by decide, by decide, by decide +kernel⟩ ⟨show 1 + 1 ≤ 2 by decide, show 8 + (4 + 11) + 60 ≤ 120 by decide⟩, hw (.static xo_N3) (by simp [xo_ws])⟩ ⟨xo_P3_blind hnst, hPc⟩ rfl rfl rfl rfl (show 0 ≤ 8 by decide) (show decode xo_B2 6 = _ by decide +kernel) ⟨Nat.le_of_eq (Nat.zero_add _), Nat.le_of_eq (Nat.zero_add _)⟩
  have hrun2 : va_Run p l e { frames := 2, cells := 1, slots := n.toNatClampNeg, locals := 120 } s m (([.ref a, .int n] : List Value).map (xx_v ad)).toArray below meth c s.heap [] 0 0 ((h ++ [xo_new vs n] : xx_H).length - h.length) (xx_sz (h ++ [xo_new vs n]) - xx_sz h) (F0 m 6 L3 [.ref mi, .int n, .ref (ad a)]) (([] : List Value).map (xx_v ad)) (xx_Qc D cl ol ad (xp_n0 P) base (some (.ref h.length)) (h ++ [xo_new vs n]) ([.ref (ad a), .int n, .ref mi] : List Value).toArray) (fun q => base ≤ q) := by
    rw [hlen, hsz]
    exact hrun
  refine xx_after (P := P) hS0 hrun2 (by simp) (fun H' locs' hS' => ?_)
  rw [hlen, hsz]
  exact W.cs (cells' := 1) (slots' := n.toNatClampNeg) (by first | rfl | exact Nat.zero_add _) (by first | rfl | exact Nat.zero_add _) (xr_sound (ad := ad) (i := .areturn) (st := [.ref h.length]) (v := some (.ref h.length)) B.exec B.bytes B.returns B.notSynchronized ⟨_, (by decide +kernel), Or.inr rfl⟩ rfl (fun t ht hW => ⟨rfl, by rw [ht]; exact xx_rep_moved hW.alike hS'.1, fun q hq => by rw [ht]; exact hS'.2.1 q hq⟩) hS'.2.2.1)
end XXF
section XXG2
variable {p : Program} {l : Launch} {e : Env} {R : Room} {s : State} {m : MethodId} {args : Array Value} {below : List Frame} {meth : Method} {c : Code} {H : Heap} {locs : List Loc} {cells slots : Nat} {Q : State → Prop}
variable {cc : ByteArray} {pc : Nat} {st st' : List Value} {h h' : xx_H} {L : Array Slot} {ad : Nat → Nat} {base : Nat} {D : va_G} {cl ol : List vw_C} {P : xx_P} {Ts nst : List Cond} {own : String} {strs : List (String × Nat × String × Nat)} {stv : List (String × String × String × Value)} {n : Nat}
theorem xo_maxL (x y : Int64) : (if x < y then y else x) = if y < x then x else y := by
  by_cases h1 : x < y
  · have h2 : ¬ y < x := fun z => by
      have a := Int64.lt_iff_toInt_lt.mp h1
      have b := Int64.lt_iff_toInt_lt.mp z
      omega
    rw [if_pos h1, if_neg h2]
  · by_cases h2 : y < x
    · rw [if_neg h1, if_pos h2]
    · rw [if_neg h1, if_neg h2]
      refine Int64.toInt_inj.mp ?_
      have a : ¬ x.toInt < y.toInt := fun z => h1 (Int64.lt_iff_toInt_lt.mpr z)
      have b : ¬ y.toInt < x.toInt := fun z => h2 (Int64.lt_iff_toInt_lt.mpr z)
      omega
theorem xo_pr_ok {ty : FieldType} {v : Value} (h0 : xo_pr ty v = true) : fits ty (xx_v ad v) = true ∧ ∀ (T : State) (dC : ClassId), T.takes dC (xx_v ad v) := by
  unfold xo_pr at h0
  split at h0
  · exact ⟨rfl, fun _ _ => trivial⟩
  · exact ⟨rfl, fun _ _ => trivial⟩
  · cases h0
theorem xo_copy_ok (hexec : p.tables.exec = Jvm.exec) (hb0 : c.code = cc) (hml : c.maxLocals = L.size) (hown : s.vm.findClass own = some m.cls) (hlink : (Cond.methodLink own n arraycopyName).before args s = true) (hnat : (Cond.native arraycopyName).before args s = true) (hstat : (Cond.static arraycopyName).before args s = true) (hini : (Cond.initialized "java/lang/System").before args s = true)
    (ha : xx_ad (xp_n0 P) base ad) (hS : xx_S D cl ol ad (xp_n0 P) base s h H locs) (hframes : 1 ≤ R.frames) (hlocals : 26 ≤ R.locals) (hdg : decode cc pc = .ok (.invokestatic n, 3)) (hs : xo_copy P st h = some (st', h'))
    (kk : ∀ (H' : Heap) (locs' : List Loc), h'.length = h.length → xx_sz h' = xx_sz h → xx_S D cl ol ad (xp_n0 P) base s h' H' locs' → W p l e R s m args below meth c H' locs' cells slots Q (F0 m (pc + 3) L (st'.map (xx_v ad)))) : W p l e R s m args below meth c H locs cells slots Q (F0 m pc L (st.map (xx_v ad))) := by
  unfold xo_copy at hs
  split at hs
  · rename_i nn dp b sp a r
    split at hs
    · rename_i ty vs hA
      split at hs
      · rename_i ty' ws hB
        split at hs
        · rename_i hg
          simp only [Bool.and_eq_true] at hg
          obtain ⟨g1, g2, g3, -, g4, g5, g6, g7, g8, g9⟩ := hg
          have g1 : ty' = ty := of_decide_eq_true g1
          subst g1
          have g4 : ¬ nn < 0 := of_decide_eq_true g4
          have g5 : ¬ dp < 0 := of_decide_eq_true g5
          have g6 : ¬ sp < 0 := of_decide_eq_true g6
          have g7 := Nat.le_of_ble_eq_true g7
          have g8 := Nat.le_of_ble_eq_true g8
          have g9 : (r.map Value.category).sum ≤ 8 := Nat.le_of_ble_eq_true g9
          cases hs
          refine xo_acopy_ok hexec hb0 hml hown hlink hnat hstat hini ha hS hA hB (Nat.le_of_ble_eq_true g3) g6 g5 g4 g7 g8 (fun v hv => ?_) hframes (by rw [xx_cats]; omega) hdg (fun H' locs' hS' => kk H' locs' (List.length_set ..) (xx_sz_set hB (by
            show (xo_over _ _ _ _ _).length = _
            rw [xo_over_len g7 g8]
            rfl)) hS')
          have h9 := xo_pr_ok (ad := ad) (List.all_eq_true.mp g2 v hv)
          exact ⟨h9.1, fun kd dC cd _ _ _ vm' T _ _ => h9.2 _ _⟩
        · cases hs
      · cases hs
    · cases hs
  · cases hs
set_option maxHeartbeats 1000000 in
theorem xo_copyO_ok (hexec : p.tables.exec = Jvm.exec) (hb0 : c.code = cc) (hml : c.maxLocals = L.size) (hts : ∀ w ∈ Ts, w.before args s = true) (hK : xx_K D cl nst strs stv ad base s s.heap) (hown : s.vm.findClass own = some m.cls) (hnst : ∀ w ∈ nst, xx_nest w = true) (hok : xx_okg P nst cl) (hgood : GoodIn Ts Ts) (o1 : Cond.methodLink own n xo_N2 ∈ Ts) (o2 : Cond.static xo_N2 ∈ Ts) (o3 : Cond.code xo_N2 xo_B2 2 (some (.array (.object "java/lang/Object"))) ∈ Ts) (h6 : xo_ok6 Ts nst)
    (ha : xx_ad (xp_n0 P) base ad) (hS : xx_S D cl ol ad (xp_n0 P) base s h H locs) (hframes : 3 ≤ R.frames) (hlocals : 180 ≤ R.locals) (hcells : cells + (h'.length - h.length) ≤ R.cells) (hslots : slots + (xx_sz h' - xx_sz h) ≤ R.slots) (hdg : decode cc pc = .ok (.invokestatic n, 3)) (hs : xo_copyO P st h = some (st', h'))
    (kk : ∀ (H' : Heap) (locs' : List Loc), xx_S D cl ol ad (xp_n0 P) base s h' H' locs' → W p l e R s m args below meth c H' locs' (cells + (h'.length - h.length)) (slots + (xx_sz h' - xx_sz h)) Q (F0 m (pc + 3) L (st'.map (xx_v ad)))) : W p l e R s m args below meth c H locs cells slots Q (F0 m pc L (st.map (xx_v ad))) := by
  unfold xo_copyO at hs
  split at hs
  · rename_i nn a r
    split at hs
    · rename_i ty vs hA
      split at hs
      · rename_i hg
        simp only [Bool.and_eq_true] at hg
        obtain ⟨g1, g2, g3, g4, g5, g6, g7⟩ := hg
        have g1 : ty = .object "java/lang/Object" := of_decide_eq_true g1
        subst g1
        have g2 := Nat.le_of_ble_eq_true g2
        have g4 : ¬ nn < 0 := of_decide_eq_true g4
        have g5 := Nat.le_of_ble_eq_true g5
        have g6 := Nat.le_of_ble_eq_true g6
        have g7 : (r.map Value.category).sum ≤ 8 := Nat.le_of_ble_eq_true g7
        cases hs
        have hlen : (h ++ [xo_new vs nn] : xx_H).length - h.length = 1 := by simp
        have hsz : xx_sz (h ++ [xo_new vs nn]) - xx_sz h = nn.toNatClampNeg := by
          rw [xx_sz_app]
          simp [xx_sz1, xo_new]
          omega
        have hPc : ∀ U : State, U.heap = H → s.WarmedH U.vm → xx_Pc D cl ol nst strs stv ad (xp_n0 P) base [.ref a, .int nn] h (([.ref a, .int nn] : List Value).map (xx_v ad)).toArray U := fun U hU hW => ⟨rfl, by rw [hU]; exact xx_rep_moved hW.alike hS.1, by rw [hU]; exact xx_K_warm hnst hW hS.2.1 hK⟩
        have hwg : GoodIn Ts (Cond.code xo_N2 xo_B2 2 (some (.array (.object "java/lang/Object"))) :: Ts) := fun w hw' => by
          rcases List.mem_cons.mp hw' with z | z
          · rw [z]; exact hgood _ o3
          · exact hgood _ z
        have hM := xo_met2 (l := l) (D := D) (cl := cl) (ol := ol) (strs := strs) (stv := stv) hgood hnst hok h6 ha g2 hA g3 g4 g5 g6
        have hc1 : cells + 1 ≤ R.cells := by
          have := hcells
          change cells + ((h ++ [xo_new vs nn] : xx_H).length - h.length) ≤ R.cells at this
          rw [hlen] at this
          exact this
        have hs1 : slots + nn.toNatClampNeg ≤ R.slots := by
          have := hslots
          change slots + (xx_sz (h ++ [xo_new vs nn]) - xx_sz h) ≤ R.slots at this
          rw [hsz] at this
          exact this
        have hrun := va_runS (e := e) (below := below) (meth := meth) (R := R) (locs := locs) (cells := cells) (slots := slots) (H := H) (g := F0 m pc L ((Value.int nn :: .ref a :: r).map (xx_v ad))) (rest := r.map (xx_v ad)) (As := ([.ref a, .int nn] : List Value).map (xx_v ad)) ⟨hexec, hb0, hml, hown, hts⟩ hM ⟨callB_of 2 hts hwg rfl rfl rfl (hts _ (h6.1 (.initialized "java/util/Arrays") (by simp [xo_ws]))) (hts _ o1) ⟨by decide, by decide, by decide +kernel⟩ ⟨show 2 + 1 ≤ R.frames by omega, show 8 + (2 + 11) + 120 ≤ R.locals by omega⟩, hts _ o2⟩ ⟨xx_Pc_blind hnst, hPc⟩ rfl rfl rfl rfl (by rw [xx_cats]; simpa using g7) hdg ⟨hc1, hs1⟩
        have hrun2 : va_Run p l e R s m args below meth c H locs cells slots ((h ++ [xo_new vs nn] : xx_H).length - h.length) (xx_sz (h ++ [xo_new vs nn]) - xx_sz h) (F0 m pc L ((Value.int nn :: .ref a :: r).map (xx_v ad))) (r.map (xx_v ad)) (xx_Qc D cl ol ad (xp_n0 P) base (some (.ref h.length)) (h ++ [xo_new vs nn]) (([.ref a, .int nn] : List Value).map (xx_v ad)).toArray) (fun q => base ≤ q) := by
          rw [hlen, hsz]
          exact hrun
        exact xx_after (P := P) hS hrun2 (by simp) kk
      · cases hs
    · cases hs
  · cases hs
end XXG2

