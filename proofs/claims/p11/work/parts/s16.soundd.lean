def xx_okm (P : xx_P) (Ts : List Cond) (on : Nat → String) (nm : Nat → MethodName) (bt : Nat → ByteArray) (k : Nat) : Prop := Cond.code (nm k) (bt k) (xp_nl P k) (xp_ret P k) ∈ Ts ∧ Cond.initialized (nm k).cls ∈ Ts ∧ ((nm k).cls ≠ "java/lang/invoke/MethodHandle" ∧ (nm k).cls ≠ "java/lang/invoke/VarHandle") ∧ plainName (nm k).cls = true ∧ on (xp_own P k) = (nm k).cls ∧ (xp_ini P k = true → (nm k).name = "<init>") ∧ xp_nl P k ≤ 30
def xx_okl (Ts nst : List Cond) (on : String) (idx : Nat) (y : MethodName) : Prop := Cond.methodLink on idx y ∈ Ts ∨ ∃ host, Cond.methodLinkNest on idx y host ∈ nst
def xo_N2 : MethodName := Jvm.Free.CopyOf.copy2N
def xo_N3 : MethodName := Jvm.Free.CopyOf.copy3N
def xo_B2 : ByteArray := Jvm.Free.CopyOf.copy2B
def xo_B3 : ByteArray := Jvm.Free.CopyOf.copy3B
def xo_gc : MethodName := ⟨"java/lang/Object", "getClass", "()Ljava/lang/Class;"⟩
def xo_ws : List Cond := [.code xo_N3 xo_B3 4 (some (.array (.object "java/lang/Object"))), .static xo_N3, .initialized "java/util/Arrays", .classLink "java/util/Arrays" 110 "[Ljava/lang/Object;", .classLink "java/util/Arrays" 2 "java/lang/Object", .methodLink "java/util/Arrays" 304 Lib.Math.min.name, .static Lib.Math.min.name, .initialized "java/lang/Math", .code Lib.Math.min.name Lib.Math.min.code 2 (some .int), .methodLink "java/util/Arrays" 150 arraycopyName, .native arraycopyName, .static arraycopyName, .initialized "java/lang/System", .methodLink "java/util/Arrays" 86 xo_gc, .selects "[Ljava/lang/Object;" xo_gc xo_gc, .instanceMethod xo_gc, .native xo_gc, .methodLink "java/util/Arrays" 300 xo_N3]
def xo_ok6 (Ts nst : List Cond) : Prop := (∀ w ∈ xo_ws, w ∈ Ts) ∧ Cond.declares xo_gc ∈ nst ∧ Cond.arrayOver (.object "java/lang/Object") ∈ nst
def xx_OKc (P : xx_P) (Ts nst : List Cond) (cl ol : List vw_C) (on : Nat → String) (nm : Nat → MethodName) (bt : Nat → ByteArray) : Prop :=
  (∀ k pc i, xp_code P k pc = some i → xx_dec (bt k) pc i) ∧ GoodIn Ts Ts ∧
  (∀ o idx q n, xp_smt P o idx = some (q, n) → xx_okm P Ts on nm bt q ∧ xx_okl Ts nst (on o) idx (nm q) ∧ Cond.static (nm q) ∈ Ts ∧ (parseMethodDescriptor (nm q).desc).map (fun d => d.parameters.length) = some n) ∧
  (∀ o idx q n, xp_pmt P o idx = some (q, n + 1) → xx_okm P Ts on nm bt q ∧ xx_okl Ts nst (on o) idx (nm q) ∧ (nm q).name = "<init>" ∧ xp_ret P q = none ∧ Cond.instanceMethod (nm q) ∈ Ts ∧ (parseMethodDescriptor (nm q).desc).map (fun d => d.parameters.length) = some n) ∧
  (∀ o idx q n, xp_pmt P o idx = some (q, n) → 0 < n) ∧
  (∀ o idx n lst ci q, xp_vmt P o idx = some (n, lst) → lst.lookup ci = some q → 0 < n ∧ xx_okm P Ts on nm bt q ∧ xx_okl Ts nst (on o) idx (nm q) ∧ (∃ r, (if cl.length ≤ ci then ol[ci - cl.length]? else cl[ci]?) = some r ∧ Cond.selects r.1 (nm q) (nm q) ∈ Ts) ∧ Cond.instanceMethod (nm q) ∈ Ts ∧ (parseMethodDescriptor (nm q).desc).map (fun d => d.parameters.length) = some (n - 1)) ∧
  (∀ o idx, xp_obi P o idx = 1 → Cond.methodLink (on o) idx objectInit ∈ Ts ∧ Cond.instanceMethod objectInit ∈ Ts ∧ Cond.code objectInit ⟨#[0xb1]⟩ 1 none ∈ Ts) ∧
  (∀ o idx, xp_obi P o idx = 2 → Cond.methodLink (on o) idx Lib.Math.max.name ∈ Ts ∧ Cond.static Lib.Math.max.name ∈ Ts ∧ Cond.initialized "java/lang/Math" ∈ Ts ∧ Cond.code Lib.Math.max.name Lib.Math.max.code 2 (some .int) ∈ Ts) ∧
  (∀ o idx, xp_obi P o idx = 3 → Cond.methodLink (on o) idx Lib.Math.min.name ∈ Ts ∧ Cond.static Lib.Math.min.name ∈ Ts ∧ Cond.initialized "java/lang/Math" ∈ Ts ∧ Cond.code Lib.Math.min.name Lib.Math.min.code 2 (some .int) ∈ Ts) ∧
  (∀ o idx, xp_obi P o idx = 4 → Cond.methodLink (on o) idx Lib.MathLoose.max_long.x ∈ Ts ∧ Cond.static Lib.MathLoose.max_long.x ∈ Ts ∧ Cond.initialized "java/lang/Math" ∈ Ts ∧ Cond.code Lib.MathLoose.max_long.x Lib.MathLoose.max_long.code 4 (some .long) ∈ Ts) ∧
  (∀ o idx, xp_obi P o idx = 5 → Cond.methodLink (on o) idx arraycopyName ∈ Ts ∧ Cond.native arraycopyName ∈ Ts ∧ Cond.static arraycopyName ∈ Ts ∧ Cond.initialized "java/lang/System" ∈ Ts) ∧
  (∀ o idx, xp_obi P o idx = 6 → Cond.methodLink (on o) idx xo_N2 ∈ Ts ∧ Cond.static xo_N2 ∈ Ts ∧ Cond.code xo_N2 xo_B2 2 (some (.array (.object "java/lang/Object"))) ∈ Ts ∧ xo_ok6 Ts nst)
def xx_Pc (D : va_G) (cl ol : List vw_C) (nst : List Cond) (strs : List (String × Nat × String × Nat)) (stv : List (String × String × String × Value)) (ad : Nat → Nat) (n0 base : Nat) (as : List Value) (h : xx_H) : Array Value → State → Prop := fun a U => a = (as.map (xx_v ad)).toArray ∧ xx_rep D cl ol ad n0 base U h U.heap ∧ xx_K D cl nst strs stv ad base U U.heap
def xx_Qc (D : va_G) (cl ol : List vw_C) (ad : Nat → Nat) (n0 base : Nat) (v : Option Value) (h : xx_H) : Array Value → State → Outcome → State → Prop := fun _ st o t => o = .returned (v.map (xx_v ad)) ∧ xx_rep D cl ol ad n0 base t h t.heap ∧ ∀ q : Nat, q < base → t.heap[q]? = st.heap[q]?
theorem xx_Pc_blind {D : va_G} {cl ol : List vw_C} {nst : List Cond} {strs : List (String × Nat × String × Nat)} {stv : List (String × String × String × Value)} {ad : Nat → Nat} {n0 base : Nat} {as : List Value} {h : xx_H} (hnst : ∀ w ∈ nst, xx_nest w = true) : FrameBlind (xx_Pc D cl ol nst strs stv ad n0 base as h) := by
  intro a U g mk hq
  exact ⟨hq.1, xx_rep_moved (u := U) (U := U.calling g mk a) (Vm.Alike.refl U.vm) hq.2.1, xx_K_same (u := U) (U := U.calling g mk a) hnst rfl hq.2.2⟩
def xx_Met (l : Launch) (P : xx_P) (Ts nst : List Cond) (cl ol : List vw_C) (D : va_G) (strs : List (String × Nat × String × Nat)) (stv : List (String × String × String × Value)) (ad : Nat → Nat) (base : Nat) (nm : Nat → MethodName) (bt : Nat → ByteArray) (d k : Nat) (as : List Value) (h : xx_H) (v : Option Value) (h1 : xx_H) : Prop :=
  Met l (nm k) (Cond.code (nm k) (bt k) (xp_nl P k) (xp_ret P k) :: Ts) { frames := d + 2, cells := h1.length - h.length, slots := xx_sz h1 - xx_sz h, locals := (d + 2) * 60 } (xx_Pc D cl ol nst strs stv ad (xp_n0 P) base as h) (xx_Qc D cl ol ad (xp_n0 P) base v h1) (h1.length - h.length) (xx_sz h1 - xx_sz h) (fun q => base ≤ q)
theorem xc_cut_some {q n q' : Nat} {st as r : List Value} (h : xc_cut q n st = some (q', as, r)) : q' = q ∧ st = as.reverse ++ r ∧ as.length = n ∧ (r.map Value.category).sum ≤ 8 := by
  unfold xc_cut at h
  split at h
  · rename_i hg
    rw [Bool.and_eq_true] at hg
    cases h
    have h1 := Nat.le_of_ble_eq_true hg.1
    exact ⟨rfl, by rw [List.reverse_reverse, List.take_append_drop], by simp; omega, Nat.le_of_ble_eq_true hg.2⟩
  · cases h
theorem xx_cats {ad : Nat → Nat} (r : List Value) : (((r.map (xx_v ad)).map fun v => v.category).sum) = (r.map Value.category).sum := by
  rw [List.map_map]
  congr 1
  apply List.map_congr_left
  intro v _
  exact xx_v_cat ad v
section XXD
variable {p : Program} {l : Launch} {e : Env} {R : Room} {s : State} {m : MethodId} {args : Array Value} {below : List Frame} {meth : Method} {c : Code} {H : Heap} {locs : List Loc} {cells slots : Nat} {Q : State → Prop}
variable {cc : ByteArray} {pc pc' : Nat} {st st' : List Value} {h h' : xx_H} {L : Array Slot} {ad : Nat → Nat} {base : Nat} {D : va_G} {cl ol : List vw_C} {P : xx_P} {Ts nst : List Cond} {on : Nat → String} {strs : List (String × Nat × String × Nat)} {stv : List (String × String × String × Value)} {k : Nat} {nm : Nat → MethodName} {bt : Nat → ByteArray}
theorem xx_after {S0 : List Value} {v : Option Value} {h1 : xx_H} {rest : List Value} {a : Array Value} (hS : xx_S D cl ol ad (xp_n0 P) base s h H locs)
    (hr : va_Run p l e R s m args below meth c H locs cells slots (h1.length - h.length) (xx_sz h1 - xx_sz h) (F0 m pc L S0) (rest.map (xx_v ad)) (xx_Qc D cl ol ad (xp_n0 P) base v h1 a) (fun q => base ≤ q)) (hge : h.length ≤ h1.length)
    (kk : ∀ (H' : Heap) (locs' : List Loc), xx_S D cl ol ad (xp_n0 P) base s h1 H' locs' → W p l e R s m args below meth c H' locs' (cells + (h1.length - h.length)) (slots + (xx_sz h1 - xx_sz h)) Q (F0 m (pc + 3) L ((v.toList ++ rest).map (xx_v ad)))) : W p l e R s m args below meth c H locs cells slots Q (F0 m pc L S0) := by
  intro T hT X
  obtain ⟨v', st₀, t, T', L', h0, X', hL, e1, e2, ⟨q1, q2, q3⟩, stp⟩ := hr T hT X
  cases q1
  have hal : t.vm.Alike s.vm := by rw [← e2]; exact X'.warmed.alike.symm
  have hrep : xx_rep D cl ol ad (xp_n0 P) base s h1 T'.heap := by rw [e1]; exact xx_rep_moved hal q2
  have hS' : xx_S D cl ol ad (xp_n0 P) base s h1 T'.heap (locs ++ L') := by
    refine ⟨hrep, fun q hq => ?_, fun x hx => ?_, ?_⟩
    · rw [e1, q3 q hq, h0]
      exact hS.2.1 q hq
    · rcases List.mem_append.mp hx with z | z
      · exact hS.2.2.1 x z
      · exact hL x z
    · have z1 := hS.1.2.1
      have z2 := hrep.2.1
      have z3 := hS.2.2.2
      omega
  have hK1 := kk T'.heap (locs ++ L') hS'
  obtain ⟨t2, a1, b1⟩ := hK1 T' rfl X'
  refine ⟨t2, stp t2 ?_, b1⟩
  have : (v.map (xx_v ad)).toList ++ rest.map (xx_v ad) = (v.toList ++ rest).map (xx_v ad) := by cases v <;> simp
  show Steps p.tables e below (T'.setTop (F0 m (pc + 3) L ((v.map (xx_v ad)).toList ++ rest.map (xx_v ad)))) t2
  rw [this]
  exact a1
set_option maxHeartbeats 2000000 in
theorem xc_sound {i : Instr} {d q : Nat} {as r : List Value} {v : Option Value} {h1 : xx_H} (hexec : p.tables.exec = Jvm.exec) (hb : c.code = cc) (hml : c.maxLocals = L.size) (hts : ∀ w ∈ Ts, w.before args s = true) (hK : xx_K D cl nst strs stv ad base s s.heap) (hown : s.vm.findClass (on (xp_own P k)) = some m.cls) (hnst : ∀ w ∈ nst, xx_nest w = true) (hok : xx_OKc P Ts nst cl ol on nm bt) (hdg : xx_dec cc pc i) (hs : xc_step P k i st h = some (q, as, r)) (hM : xx_Met l P Ts nst cl ol D strs stv ad base nm bt d q as h v h1) (hge : h.length ≤ h1.length) (hS : xx_S D cl ol ad (xp_n0 P) base s h H locs)
    (hfr : d + 3 ≤ R.frames) (hlo : (d + 3) * 60 ≤ R.locals) (hcells : cells + (h1.length - h.length) ≤ R.cells) (hslots : slots + (xx_sz h1 - xx_sz h) ≤ R.slots)
    (kk : ∀ (H' : Heap) (locs' : List Loc), xx_S D cl ol ad (xp_n0 P) base s h1 H' locs' → W p l e R s m args below meth c H' locs' (cells + (h1.length - h.length)) (slots + (xx_sz h1 - xx_sz h)) Q (F0 m (pc + 3) L ((v.toList ++ r).map (xx_v ad)))) : W p l e R s m args below meth c H locs cells slots Q (F0 m pc L (st.map (xx_v ad))) := by
  obtain ⟨-, hgood, oksm, okpm, okp0, okvm, -⟩ := hok
  have hPc : ∀ U : State, U.heap = H → s.WarmedH U.vm → xx_Pc D cl ol nst strs stv ad (xp_n0 P) base as h (as.map (xx_v ad)).toArray U := fun U hU hW => ⟨rfl, by rw [hU]; exact xx_rep_moved hW.alike hS.1, by rw [hU]; exact xx_K_warm hnst hW hS.2.1 hK⟩
  have hbl : FrameBlind (xx_Pc D cl ol nst strs stv ad (xp_n0 P) base as h) := xx_Pc_blind hnst
  have hws : xx_okm P Ts on nm bt q → GoodIn Ts (Cond.code (nm q) (bt q) (xp_nl P q) (xp_ret P q) :: Ts) := fun ok w hw => by
    rcases List.mem_cons.mp hw with z | z
    · rw [z]; exact hgood _ ok.1
    · exact hgood _ z
  have hroom : xx_okm P Ts on nm bt q → d + 2 + 1 ≤ R.frames ∧ 8 + (xp_nl P q + 11) + (d + 2) * 60 ≤ R.locals := fun ok => ⟨hfr, by have := ok.2.2.2.2.2.2; omega⟩
  cases i with
  | invokestatic n =>
    simp only [xc_step] at hs
    split at hs
    · rename_i q' n' hq
      obtain ⟨rfl, hst, hlen, hcat⟩ := xc_cut_some hs
      obtain ⟨ok, hlk, hstat, hd⟩ := oksm _ _ _ _ hq
      have hstk : (F0 m pc L (st.map (xx_v ad))).stack = (as.map (xx_v ad)).reverse ++ r.map (xx_v ad) := by
        show st.map (xx_v ad) = _
        rw [hst, List.map_append, List.map_reverse]
      rcases hlk with hlk | ⟨host, hlk⟩
      · exact xx_after hS (va_runS (As := as.map (xx_v ad)) ⟨hexec, hb, hml, hown, hts⟩ hM ⟨callB_of n' hts (hws ok) rfl rfl rfl (hts _ ok.2.1) (hts _ hlk) ⟨ok.2.2.1.1, ok.2.2.1.2, hd⟩ (hroom ok), hts _ hstat⟩ ⟨hbl, hPc⟩ rfl (by simp [hlen]) rfl hstk (by rw [xx_cats]; simpa using hcat) (xx_dec1 hdg rfl) ⟨hcells, hslots⟩) hge kk
      · exact xx_after hS (va_runSN (As := as.map (xx_v ad)) ⟨hexec, hb, hml, hown, hts⟩ hM ⟨va_cnB n' hts (hws ok) rfl rfl rfl (hK.2.1 _ hlk) (hts _ ok.2.1) ⟨ok.2.2.1.1, ok.2.2.1.2, hd⟩ (hroom ok), hts _ hstat, trivial⟩ ⟨hbl, hPc⟩ rfl (by simp [hlen]) rfl hstk (by rw [xx_cats]; simpa using hcat) (xx_dec1 hdg rfl) ⟨hcells, hslots⟩) hge kk
    · cases hs
  | invokespecial n =>
    simp only [xc_step] at hs
    split at hs
    · rename_i q' n' hq
      split at hs
      · rename_i b hb0
        obtain ⟨rfl, hst, hlen, hcat⟩ := xc_cut_some hs
        have hpos := okp0 _ _ _ _ hq
        obtain ⟨n2, rfl⟩ : ∃ n2, n' = n2 + 1 := ⟨n' - 1, by omega⟩
        obtain ⟨ok, hlk, hin, hret, hinst, hd⟩ := okpm _ _ _ _ hq
        cases as with
        | nil => simp at hlen
        | cons a0 as1 =>
          have hl1 : as1.length = n2 := by simpa using hlen
          have ha0 : a0 = .ref b := by
            rw [hst] at hb0
            simp [List.getElem?_append, hl1] at hb0
            exact hb0
          subst ha0
          have hstk : (F0 m pc L (st.map (xx_v ad))).stack = (as1.map (xx_v ad)).reverse ++ .ref (ad b) :: r.map (xx_v ad) := by
            show st.map (xx_v ad) = _
            rw [hst]
            simp [xx_v]
          unfold xx_Met at hM
          rw [hret] at hM hws
          rcases hlk with hlk | ⟨host, hlk⟩
          · exact xx_after hS (va_runI (As := as1.map (xx_v ad)) (b := ad b) ⟨hexec, hb, hml, hown, hts⟩ hM ⟨callB_of n2 hts (hws ok) rfl rfl rfl (hts _ ok.2.1) (hts _ hlk) ⟨ok.2.2.1.1, ok.2.2.1.2, hd⟩ (hroom ok), hin, hts _ hinst⟩ ⟨hbl, hPc⟩ rfl (by simp [hl1]) rfl hstk (by rw [xx_cats]; simpa using hcat) (xx_dec1 hdg rfl) ⟨hcells, hslots⟩) hge kk
          · exact xx_after hS (va_runIN (As := as1.map (xx_v ad)) (b := ad b) ⟨hexec, hb, hml, hown, hts⟩ hM ⟨va_cnB n2 hts (hws ok) rfl rfl rfl (hK.2.1 _ hlk) (hts _ ok.2.1) ⟨ok.2.2.1.1, ok.2.2.1.2, hd⟩ (hroom ok), hin, hts _ hinst⟩ ⟨hbl, hPc⟩ rfl (by simp [hl1]) rfl hstk (by rw [xx_cats]; simpa using hcat) (xx_dec1 hdg rfl) ⟨hcells, hslots⟩) hge kk
      · cases hs
    · cases hs
  | invokevirtual n =>
    simp only [xc_step] at hs
    split at hs
    · rename_i n' lst hq
      split at hs
      · rename_i ci hci
        split at hs
        · rename_i q' hlook
          obtain ⟨rfl, hst, hlen, hcat⟩ := xc_cut_some hs
          obtain ⟨hpos, ok, hlk, ⟨r0, hcl, hsel⟩, hinst, hd⟩ := okvm _ _ _ _ _ _ hq hlook
          obtain ⟨n2, rfl⟩ : ∃ n2, n' = n2 + 1 := ⟨n' - 1, by omega⟩
          have hd : (parseMethodDescriptor (nm q).desc).map (fun d => d.parameters.length) = some n2 := hd
          cases as with
          | nil => simp at hlen
          | cons a0 as1 =>
            have hl1 : as1.length = n2 := by simpa using hlen
            have hget : st[n2 + 1 - 1]? = some a0 := by
              rw [hst]
              simp [List.getElem?_append, hl1]
            unfold xc_recv at hci
            rw [hget] at hci
            split at hci
            · rename_i b hb0
              cases hb0
              split at hci
              · rename_i ci' fs hat
                cases hci
                have hrecv : ∃ cell : Cell, H[ad b]? = some cell ∧ cell.vm.isStatics = false ∧ s.vm.findClass r0.1 = some cell.cls := by
                  rcases hS.1.2.2 b _ hat with ⟨g1, -⟩ | ⟨g1, -, r1, g2, g3, -⟩ | ⟨r1, g1, g2, cell, g3, g4, g5, g6, g7, g8⟩
                  · rw [if_pos (by omega)] at hcl
                    have := (List.getElem?_eq_some_iff.mp hcl).1
                    omega
                  · rw [if_pos g1] at hcl
                    cases g2.symm.trans hcl
                    exact g3
                  · rw [if_neg (Nat.not_le.mpr (List.getElem?_eq_some_iff.mp g1).1)] at hcl
                    cases g1.symm.trans hcl
                    exact ⟨cell, g3, g6, by rw [g4]; exact (hK.1.1 _ _ hcl).2.1⟩
                have hstk : (F0 m pc L (st.map (xx_v ad))).stack = (as1.map (xx_v ad)).reverse ++ .ref (ad b) :: r.map (xx_v ad) := by
                  show st.map (xx_v ad) = _
                  rw [hst]
                  simp [xx_v]
                rcases hlk with hlk | ⟨host, hlk⟩
                · exact xx_after hS (va_runV (As := as1.map (xx_v ad)) (b := ad b) (C := r0.1) ⟨hexec, hb, hml, hown, hts⟩ hM ⟨callB_of n2 hts (hws ok) rfl rfl rfl (hts _ ok.2.1) (hts _ hlk) ⟨ok.2.2.1.1, ok.2.2.1.2, hd⟩ (hroom ok), hts _ hinst, hts _ hsel⟩ ⟨hbl, hrecv, hPc⟩ rfl (by simp [hl1]) rfl hstk (by rw [xx_cats]; simpa using hcat) (xx_dec1 hdg rfl) ⟨hcells, hslots⟩) hge kk
                · exact xx_after hS (va_runVN (As := as1.map (xx_v ad)) (b := ad b) (C := r0.1) ⟨hexec, hb, hml, hown, hts⟩ hM ⟨va_cnB n2 hts (hws ok) rfl rfl rfl (hK.2.1 _ hlk) (hts _ ok.2.1) ⟨ok.2.2.1.1, ok.2.2.1.2, hd⟩ (hroom ok), hts _ hinst, hts _ hsel⟩ ⟨hbl, hrecv, hPc⟩ rfl (by simp [hl1]) rfl hstk (by rw [xx_cats]; simpa using hcat) (xx_dec1 hdg rfl) ⟨hcells, hslots⟩) hge kk
              · cases hci
            · cases hci
        · cases hs
      · cases hs
    · cases hs
  | _ => cases hs
theorem xr_sound {i : Instr} {v : Option Value} {Qc : Array Value → State → Outcome → State → Prop} {free : Addr → Prop} {ret : Option FieldType} (hexec : p.tables.exec = Jvm.exec) (hb : c.code = cc) (hr : meth.sig.returnType = ret) (hlocks : meth.locks = false) (hdg : xx_dec cc pc i) (hs : xr_step ret i st = some v) (hq : ∀ t : State, t.heap = H → s.WarmedH t.vm → Qc args s (.returned (v.map (xx_v ad))) t) (hf : ∀ q ∈ locs, free q.base) :
    W p l e R s m args below meth c H locs cells slots (MQ below Qc args s cells slots free) (F0 m pc L (st.map (xx_v ad))) := by
  cases i with
  | return_ =>
    simp only [xr_step] at hs
    split at hs
    · cases hs
      exact W.vret hexec hb hr hq hf (xx_dec1 hdg rfl) hlocks
    · cases hs
  | ireturn =>
    simp only [xr_step] at hs
    split at hs
    · obtain ⟨g, hs⟩ := xa_g_some hs
      cases hs
      exact W.zret hexec hb hr (xx_fit_ok (ad := ad) g).1 hq hf (xx_dec1 hdg rfl) hlocks
    · cases hs
  | lreturn =>
    simp only [xr_step] at hs
    split at hs
    · cases hs
      exact W.lret hexec hb hr hq hf (xx_dec1 hdg rfl) hlocks
    · cases hs
  | areturn =>
    simp only [xr_step] at hs
    split at hs
    · rename_i ty x
      obtain ⟨g, hs⟩ := xa_g_some hs
      cases hs
      refine W.aret hexec hb hr ?_ (Or.inr ⟨_, rfl⟩) hq hf (xx_dec1 hdg rfl) hlocks
      cases ty <;> first | exact Or.inl ⟨_, rfl⟩ | exact Or.inr ⟨_, rfl⟩ | cases g
    · rename_i ty
      obtain ⟨g, hs⟩ := xa_g_some hs
      cases hs
      refine W.aret hexec hb hr ?_ (Or.inl rfl) hq hf (xx_dec1 hdg rfl) hlocks
      cases ty <;> first | exact Or.inl ⟨_, rfl⟩ | exact Or.inr ⟨_, rfl⟩ | cases g
    · cases hs
  | _ => cases hs
end XXD

