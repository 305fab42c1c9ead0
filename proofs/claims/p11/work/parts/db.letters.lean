def tkF : Int → Int := fun k => if k < 0 then 0 else if k < 1 then 3 else if k < 7 then 2 else 1
def ltI : List Int := [97, 98, 99, 100, 101, 102, 103, 104, 105, 106, 107, 108, 109, 110, 111, 112, 113, 114, 115, 116, 117, 118, 119, 120, 121, 122, 48, 49, 50, 51, 52, 53, 54, 55, 56, 57, 43, 45, 42, 47, 60, 62, 61, 63, 33, 95]
def ltB : List Value := ltI.map (fun w => Value.int (iI w))
def ixg : List Int → Int → Int → Int
  | [], _, _ => -1
  | w :: l, y, i => if w = y then i else ixg l y (i + 1)
def sb (x : Int) : Int := if x < 128 then x else x - 256
def LIX (x : Int) : Int := ixg ltI (sb x) 0
theorem ixg_R : ∀ (l : List Int) (y i : Int), 0 ≤ i → -1 ≤ ixg l y i ∧ ixg l y i < i + l.length
  | [], y, i, h => by
    show -1 ≤ (-1 : Int) ∧ (-1 : Int) < i + 0
    omega
  | w :: l, y, i, h => by
    have r := ixg_R l y (i + 1) (by omega)
    show -1 ≤ (if w = y then i else ixg l y (i + 1)) ∧ (if w = y then i else ixg l y (i + 1)) < i + ((l.length + 1 : Nat) : Int)
    split <;> omega
theorem LIX_R (x : Int) : -1 ≤ LIX x ∧ LIX x ≤ 45 := by
  have r := ixg_R ltI (sb x) 0 (by decide)
  have e : (ltI.length : Int) = 46 := rfl
  unfold LIX
  omega
theorem LIX_0 : LIX 0 = -1 := by decide
theorem ltI_R : ∀ w ∈ ltI, 1 ≤ w ∧ w ≤ 127 := by decide
theorem ltB_len : ltB.length = 46 := rfl
theorem ltB_at {j : Nat} (h : j < 46) : ∃ x : Int, (1 ≤ x ∧ x ≤ 127) ∧ ltB[j]? = some (.int (iI x)) := by
  have hl : j < ltI.length := h
  refine ⟨ltI[j], ltI_R _ (List.getElem_mem hl), ?_⟩
  unfold ltB
  rw [List.getElem?_map, List.getElem?_eq_getElem hl]
  rfl
theorem i2b_sb {x : Int} (x0 : 0 ≤ x) (x1 : x ≤ 255) : (iI x).toInt8.toInt32 = iI (sb x) := by
  apply Int32.toInt_inj.mp
  rw [Int8.toInt_toInt32, iI_toInt (by unfold sb; split <;> omega) (by unfold sb; split <;> omega)]
  have e : (iI x).toInt8 = Int8.ofInt x := by
    show (Int32.ofInt x).toInt8 = _
    exact Int32.toInt8_ofInt
  rw [e, Int8.toInt_ofInt, show Int8.size = 256 from rfl]
  unfold sb
  rw [Int.bmod_def]
  split <;> split <;> omega
def OC (hp : xx_H) : Prop := hp[7]? = some (.inr (14, [.ref 8, .int (iI 0)])) ∧ hp[8]? = some (.inl (.byte, ltB)) ∧ hp[11]? = some (.inl (.int, xa_f 14 tkF)) ∧ hp[10]? = some (.inl (.object "java/lang/Object", []))
theorem OC_kx {c : Nat} {hp hp1 : xx_H} {s s1 : KS} {a b : Int} (h : OC hp) (x : kx c hp s hp1 s1 a b) : OC hp1 := by
  obtain ⟨h1, h2, h5, h6⟩ := h
  have L : ∀ (p : Nat) (e : xx_E), p < 12 → hp[p]? = some e → hp1[p]? = some e := fun p e q r => by
    rw [(x.2.1 p (List.getElem?_eq_some_iff.mp r).1 (Or.inl q)).2]
    exact r
  exact ⟨L 7 _ (by decide) h1, L 8 _ (by decide) h2, L 11 _ (by decide) h5, L 10 _ (by decide) h6⟩
theorem kt_coder (z : Value) (d : Nat) (hp : xx_H) (hO : OC hp) : xx_cl (xt_P z) (d + 1) 7 [.ref 7] hp (fun v h1 => v = some (.int (iI 0)) ∧ h1 = hp) := by
  obtain ⟨h7, h8, -⟩ := hO
  refine cl_go rfl ?_
  show xx_go (xt_P z) d 7 0 [some (.ref 7)] [] hp _
  refine go_b (pc' := 3) (st' := [.int (iI 1)]) (h' := hp) rfl rfl rfl ?_
  refine mi_eq0 (t := 13) rfl rfl (by omega) (by omega) (fun q => absurd q (by decide)) (fun _ => ?_)
  refine go_a (pc' := 7) (ls' := [some (.ref 7)]) (st' := [.ref 7]) rfl rfl ?_
  refine go_get (v := .int (iI 0)) rfl h7 rfl rfl ?_
  refine go_a (pc' := 14) (ls' := [some (.ref 7)]) (st' := [.int (iI 0)]) rfl rfl ?_
  exact go_r rfl rfl rfl rfl rfl rfl ⟨rfl, rfl⟩
theorem kt_latin (z : Value) (d : Nat) (hp : xx_H) (hO : OC hp) : xx_cl (xt_P z) (d + 1) 9 [.ref 7] hp (fun v h1 => v = some (.int (iI 1)) ∧ h1 = hp) := by
  obtain ⟨h7, h8, -⟩ := hO
  refine cl_go rfl ?_
  show xx_go (xt_P z) d 9 0 [some (.ref 7)] [] hp _
  refine go_b (pc' := 3) (st' := [.int (iI 1)]) (h' := hp) rfl rfl rfl ?_
  refine mi_eq0 (t := 17) rfl rfl (by omega) (by omega) (fun q => absurd q (by decide)) (fun _ => ?_)
  refine go_a (pc' := 7) (ls' := [some (.ref 7)]) (st' := [.ref 7]) rfl rfl ?_
  refine go_get (v := .int (iI 0)) rfl h7 rfl rfl ?_
  refine mi_ne0 (t := 17) rfl rfl (by omega) (by omega) (fun q => absurd rfl q) (fun _ => ?_)
  refine go_a (pc' := 14) (ls' := [some (.ref 7)]) (st' := [.int (iI 1)]) rfl rfl ?_
  refine go_a (pc' := 18) (ls' := [some (.ref 7)]) (st' := [.int (iI 1)]) rfl rfl ?_
  exact go_r rfl rfl rfl rfl rfl rfl ⟨rfl, rfl⟩
theorem kt_len (z : Value) (d : Nat) (hp : xx_H) (hO : OC hp) : xx_cl (xt_P z) (d + 2) 6 [.ref 7] hp (fun v h1 => v = some (.int (iI 46)) ∧ h1 = hp) := by
  have hO2 := hO
  obtain ⟨h7, h8, -⟩ := hO
  refine cl_go rfl ?_
  show xx_go (xt_P z) (d + 1) 6 0 [some (.ref 7)] [] hp _
  refine go_a (pc' := 1) (ls' := [some (.ref 7)]) (st' := [.ref 7]) rfl rfl ?_
  refine go_get (v := .ref 8) rfl h7 rfl rfl ?_
  refine mk_len (n := 46) rfl h8 ltB_len (by decide) (by decide) ?_
  refine go_a (pc' := 6) (ls' := [some (.ref 7)]) (st' := [.ref 7, .int (iI 46)]) rfl rfl ?_
  refine go_v (m := 7) (as := [.ref 7]) (r := [.int (iI 46)]) rfl rfl rfl h7 rfl rfl (kt_coder z d hp hO2) (fun v h1 hq => ?_)
  obtain ⟨rfl, e⟩ := hq
  rw [e]
  show xx_go (xt_P z) (d + 1) 6 9 [some (.ref 7)] [.int (iI 0), .int (iI 46)] hp _
  refine go_a (pc' := 10) (ls' := [some (.ref 7)]) (st' := [.int (iI 46)]) rfl rfl ?_
  exact go_r rfl rfl rfl rfl rfl rfl ⟨rfl, rfl⟩
theorem kt_can (z : Value) (d : Nat) (x : Int) (hp : xx_H) (x0 : 0 ≤ x) (x1 : x ≤ 255) : xx_cl (xt_P z) (d + 1) 20 [.int (iI x)] hp (fun v h1 => v = some (.int (iI 1)) ∧ h1 = hp) := by
  refine cl_go rfl ?_
  show xx_go (xt_P z) d 20 0 [some (.int (iI x))] [] hp _
  refine go_a (pc' := 1) (ls' := [some (.int (iI x))]) (st' := [.int (iI x)]) rfl rfl ?_
  refine mi_lt0 (t := 15) rfl rfl (by omega) (by omega) (fun q => absurd q (by omega)) (fun _ => ?_)
  refine go_a (pc' := 5) (ls' := [some (.int (iI x))]) (st' := [.int (iI x)]) rfl rfl ?_
  refine go_a (pc' := 8) (ls' := [some (.int (iI x))]) (st' := [.int (iI 255), .int (iI x)]) rfl rfl ?_
  refine mi_gt (t := 15) rfl rfl (by omega) (by omega) (by omega) (by omega) (fun q => absurd q (by omega)) (fun q => ?_)
  refine go_a (pc' := 12) (ls' := [some (.int (iI x))]) (st' := [.int (iI 1)]) rfl rfl ?_
  refine go_a (pc' := 16) (ls' := [some (.int (iI x))]) (st' := [.int (iI 1)]) rfl rfl ?_
  exact go_r rfl rfl rfl rfl rfl rfl ⟨rfl, rfl⟩
theorem kt_ixloop (z : Value) (d : Nat) (x y : Int) (hp : xx_H) (hO : OC hp) (y0 : -128 ≤ y) (y1 : y ≤ 127) : ∀ (l : List Int) (i : Int), ltI.drop i.toNat = l → 46 - i = l.length → 0 ≤ i → xx_go (xt_P z) d 21 7 [some (.ref 8), some (.int (iI x)), some (.int (iI 0)), some (.int (iI 46)), some (.int (iI y)), some (.int (iI i))] [] hp (fun v h1 => v = some (.int (iI (ixg l y i))) ∧ h1 = hp) := by
  obtain ⟨h7, h8, -⟩ := hO
  intro l
  induction l with
  | nil =>
    intro i hl hi i0
    have hi : 46 - i = 0 := hi
    refine go_a (pc' := 9) (ls' := [some (.ref 8), some (.int (iI x)), some (.int (iI 0)), some (.int (iI 46)), some (.int (iI y)), some (.int (iI i))]) (st' := [.int (iI i)]) rfl rfl ?_
    refine go_a (pc' := 10) (ls' := [some (.ref 8), some (.int (iI x)), some (.int (iI 0)), some (.int (iI 46)), some (.int (iI y)), some (.int (iI i))]) (st' := [.int (iI 46), .int (iI i)]) rfl rfl ?_
    refine mi_ge (t := 31) rfl rfl (by omega) (by omega) (by omega) (by omega) (fun _ => ?_) (fun q => absurd (show i ≥ 46 by omega) q)
    refine go_a (pc' := 32) (ls' := [some (.ref 8), some (.int (iI x)), some (.int (iI 0)), some (.int (iI 46)), some (.int (iI y)), some (.int (iI i))]) (st' := [.int (iI ((-1)))]) rfl rfl ?_
    exact go_r rfl rfl rfl rfl rfl rfl ⟨rfl, rfl⟩
  | cons w l ih =>
    intro i hl hi i0
    have hi : 46 - i = ((l.length + 1 : Nat) : Int) := hi
    have hw : ltI[i.toNat]? = some w := by
      have := congrArg (fun q => q[0]?) hl
      rw [List.getElem?_drop] at this
      exact this
    have hx : ltB[i.toNat]? = some (.int (iI w)) := by
      unfold ltB
      rw [List.getElem?_map, hw]
      rfl
    have wr := ltI_R w (List.mem_of_getElem? hw)
    have hd : ltI.drop (i + 1).toNat = l := by
      rw [show (i + 1).toNat = i.toNat + 1 by omega, ← List.tail_drop, hl]
      rfl
    refine go_a (pc' := 9) (ls' := [some (.ref 8), some (.int (iI x)), some (.int (iI 0)), some (.int (iI 46)), some (.int (iI y)), some (.int (iI i))]) (st' := [.int (iI i)]) rfl rfl ?_
    refine go_a (pc' := 10) (ls' := [some (.ref 8), some (.int (iI x)), some (.int (iI 0)), some (.int (iI 46)), some (.int (iI y)), some (.int (iI i))]) (st' := [.int (iI 46), .int (iI i)]) rfl rfl ?_
    refine mi_ge (t := 31) rfl rfl (by omega) (by omega) (by omega) (by omega) (fun q => absurd q (by omega)) (fun _ => ?_)
    refine go_a (pc' := 14) (ls' := [some (.ref 8), some (.int (iI x)), some (.int (iI 0)), some (.int (iI 46)), some (.int (iI y)), some (.int (iI i))]) (st' := [.ref 8]) rfl rfl ?_
    refine go_a (pc' := 16) (ls' := [some (.ref 8), some (.int (iI x)), some (.int (iI 0)), some (.int (iI 46)), some (.int (iI y)), some (.int (iI i))]) (st' := [.int (iI i), .ref 8]) rfl rfl ?_
    refine go_bld rfl h8 (iI_nn i0 (by omega)) (iI_clamp i0 (by omega)) hx ?_
    refine go_a (pc' := 19) (ls' := [some (.ref 8), some (.int (iI x)), some (.int (iI 0)), some (.int (iI 46)), some (.int (iI y)), some (.int (iI i))]) (st' := [.int (iI y), .int (iI w)]) rfl rfl ?_
    refine mi_ne (t := 25) rfl rfl (by omega) (by omega) (by omega) (by omega) (fun q => ?_) (fun q => ?_)
    · refine go_a (pc' := 28) (ls' := [some (.ref 8), some (.int (iI x)), some (.int (iI 0)), some (.int (iI 46)), some (.int (iI y)), some (.int (iI (i + 1)))]) (st' := []) rfl (by rw [← iI_add i 1]; rfl) ?_
      refine go_a (pc' := 7) (ls' := [some (.ref 8), some (.int (iI x)), some (.int (iI 0)), some (.int (iI 46)), some (.int (iI y)), some (.int (iI (i + 1)))]) (st' := []) rfl rfl ?_
      refine go_w (fun v h1 hq => ?_) (ih (i + 1) hd (by omega) (by omega))
      refine ⟨?_, hq.2⟩
      rw [hq.1]
      show _ = some (Value.int (iI (if w = y then i else ixg l y (i + 1))))
      rw [if_neg q]
    · refine go_a (pc' := 24) (ls' := [some (.ref 8), some (.int (iI x)), some (.int (iI 0)), some (.int (iI 46)), some (.int (iI y)), some (.int (iI i))]) (st' := [.int (iI i)]) rfl rfl ?_
      refine go_r rfl rfl rfl rfl rfl rfl ⟨?_, rfl⟩
      show _ = some (Value.int (iI (if w = y then i else ixg l y (i + 1))))
      rw [if_pos (by omega)]
theorem kt_ixchar (z : Value) (d : Nat) (x : Int) (hp : xx_H) (hO : OC hp) (x0 : 0 ≤ x) (x1 : x ≤ 255) : xx_cl (xt_P z) (d + 1) 21 [.ref 8, .int (iI x), .int (iI 0), .int (iI 46)] hp (fun v h1 => v = some (.int (iI (LIX x))) ∧ h1 = hp) := by
  refine cl_go rfl ?_
  show xx_go (xt_P z) d 21 0 [some (.ref 8), some (.int (iI x)), some (.int (iI 0)), some (.int (iI 46)), none, none] [] hp _
  refine go_a (pc' := 1) (ls' := [some (.ref 8), some (.int (iI x)), some (.int (iI 0)), some (.int (iI 46)), none, none]) (st' := [.int (iI x)]) rfl rfl ?_
  refine go_a (pc' := 2) (ls' := [some (.ref 8), some (.int (iI x)), some (.int (iI 0)), some (.int (iI 46)), none, none]) (st' := [.int (iI (sb x))]) rfl (by rw [← i2b_sb x0 x1]; rfl) ?_
  refine go_a (pc' := 4) (ls' := [some (.ref 8), some (.int (iI x)), some (.int (iI 0)), some (.int (iI 46)), some (.int (iI (sb x))), none]) (st' := []) rfl rfl ?_
  refine go_a (pc' := 5) (ls' := [some (.ref 8), some (.int (iI x)), some (.int (iI 0)), some (.int (iI 46)), some (.int (iI (sb x))), none]) (st' := [.int (iI 0)]) rfl rfl ?_
  refine go_a (pc' := 7) (ls' := [some (.ref 8), some (.int (iI x)), some (.int (iI 0)), some (.int (iI 46)), some (.int (iI (sb x))), some (.int (iI 0))]) (st' := []) rfl rfl ?_
  exact kt_ixloop z d x (sb x) hp hO (by unfold sb; split <;> omega) (by unfold sb; split <;> omega) ltI 0 rfl rfl (by decide)
theorem kt_latix (z : Value) (d : Nat) (x : Int) (hp : xx_H) (hO : OC hp) (x0 : 0 ≤ x) (x1 : x ≤ 255) : xx_cl (xt_P z) (d + 2) 19 [.ref 8, .int (iI x), .int (iI 0), .int (iI 46)] hp (fun v h1 => v = some (.int (iI (LIX x))) ∧ h1 = hp) := by
  have hO2 := hO
  obtain ⟨h7, h8, -⟩ := hO
  refine cl_go rfl ?_
  show xx_go (xt_P z) (d + 1) 19 0 [some (.ref 8), some (.int (iI x)), some (.int (iI 0)), some (.int (iI 46))] [] hp _
  refine go_a (pc' := 1) (ls' := [some (.ref 8), some (.int (iI x)), some (.int (iI 0)), some (.int (iI 46))]) (st' := [.int (iI x)]) rfl rfl ?_
  refine go_s (m := 20) (as := [.int (iI x)]) (r := []) rfl rfl rfl rfl (kt_can z d x hp x0 x1) (fun v h1 hq => ?_)
  obtain ⟨rfl, e⟩ := hq
  rw [e]
  show xx_go (xt_P z) (d + 1) 19 4 [some (.ref 8), some (.int (iI x)), some (.int (iI 0)), some (.int (iI 46))] [.int (iI 1)] hp _
  refine mi_ne0 (t := 9) rfl rfl (by omega) (by omega) (fun _ => ?_) (fun q => absurd q (by decide))
  clear e h1
  refine go_a (pc' := 10) (ls' := [some (.ref 8), some (.int (iI x)), some (.int (iI 0)), some (.int (iI 46))]) (st' := [.int (iI 0)]) rfl rfl ?_
  refine go_a (pc' := 11) (ls' := [some (.ref 8), some (.int (iI x)), some (.int (iI 0)), some (.int (iI 46))]) (st' := [.int (iI 0), .int (iI 0)]) rfl rfl ?_
  refine go_o (st' := [.int (iI 0)]) (h' := hp) rfl rfl rfl rfl ?_
  refine go_a (pc' := 15) (ls' := [some (.ref 8), some (.int (iI x)), some (.int (iI 0)), some (.int (iI 46))]) (st' := []) rfl rfl ?_
  refine go_a (pc' := 16) (ls' := [some (.ref 8), some (.int (iI x)), some (.int (iI 0)), some (.int (iI 46))]) (st' := [.int (iI 46)]) rfl rfl ?_
  refine go_a (pc' := 17) (ls' := [some (.ref 8), some (.int (iI x)), some (.int (iI 0)), some (.int (iI 46))]) (st' := [.ref 8, .int (iI 46)]) rfl rfl ?_
  refine mk_len (n := 46) rfl h8 ltB_len (by decide) (by decide) ?_
  refine go_o (st' := [.int (iI 46)]) (h' := hp) rfl rfl rfl rfl ?_
  refine go_a (pc' := 22) (ls' := [some (.ref 8), some (.int (iI x)), some (.int (iI 0)), some (.int (iI 46))]) (st' := []) rfl rfl ?_
  refine go_a (pc' := 23) (ls' := [some (.ref 8), some (.int (iI x)), some (.int (iI 0)), some (.int (iI 46))]) (st' := [.int (iI 0)]) rfl rfl ?_
  refine go_a (pc' := 24) (ls' := [some (.ref 8), some (.int (iI x)), some (.int (iI 0)), some (.int (iI 46))]) (st' := [.int (iI 46), .int (iI 0)]) rfl rfl ?_
  refine mi_lt (t := 29) rfl rfl (by omega) (by omega) (by omega) (by omega) (fun _ => ?_) (fun q => absurd (by decide) q)
  refine go_a (pc' := 30) (ls' := [some (.ref 8), some (.int (iI x)), some (.int (iI 0)), some (.int (iI 46))]) (st' := [.ref 8]) rfl rfl ?_
  refine go_a (pc' := 31) (ls' := [some (.ref 8), some (.int (iI x)), some (.int (iI 0)), some (.int (iI 46))]) (st' := [.int (iI x), .ref 8]) rfl rfl ?_
  refine go_a (pc' := 32) (ls' := [some (.ref 8), some (.int (iI x)), some (.int (iI 0)), some (.int (iI 46))]) (st' := [.int (iI 0), .int (iI x), .ref 8]) rfl rfl ?_
  refine go_a (pc' := 33) (ls' := [some (.ref 8), some (.int (iI x)), some (.int (iI 0)), some (.int (iI 46))]) (st' := [.int (iI 46), .int (iI 0), .int (iI x), .ref 8]) rfl rfl ?_
  refine go_s (m := 21) (as := [.ref 8, .int (iI x), .int (iI 0), .int (iI 46)]) (r := []) rfl rfl rfl rfl (kt_ixchar z d x hp hO2 x0 x1) (fun v h1 hq => ?_)
  obtain ⟨rfl, e⟩ := hq
  rw [e]
  show xx_go (xt_P z) (d + 1) 19 36 [some (.ref 8), some (.int (iI x)), some (.int (iI 0)), some (.int (iI 46))] [.int (iI (LIX x))] hp _
  exact go_r rfl rfl rfl rfl rfl rfl ⟨rfl, rfl⟩
theorem kt_ix2 (z : Value) (d : Nat) (x : Int) (hp : xx_H) (hO : OC hp) (x0 : 0 ≤ x) (x1 : x ≤ 255) : xx_cl (xt_P z) (d + 3) 18 [.ref 7, .int (iI x), .int (iI 0)] hp (fun v h1 => v = some (.int (iI (LIX x))) ∧ h1 = hp) := by
  have hO2 := hO
  obtain ⟨h7, h8, -⟩ := hO
  refine cl_go rfl ?_
  show xx_go (xt_P z) (d + 2) 18 0 [some (.ref 7), some (.int (iI x)), some (.int (iI 0))] [] hp _
  refine go_a (pc' := 1) (ls' := [some (.ref 7), some (.int (iI x)), some (.int (iI 0))]) (st' := [.ref 7]) rfl rfl ?_
  refine go_v (m := 9) (as := [.ref 7]) (r := []) rfl rfl rfl h7 rfl rfl (kt_latin z (d + 1) hp hO2) (fun v h1 hq => ?_)
  obtain ⟨rfl, e⟩ := hq
  rw [e]
  clear e h1
  show xx_go (xt_P z) (d + 2) 18 4 [some (.ref 7), some (.int (iI x)), some (.int (iI 0))] [.int (iI 1)] hp _
  refine mi_eq0 (t := 23) rfl rfl (by omega) (by omega) (fun q => absurd q (by decide)) (fun _ => ?_)
  refine go_a (pc' := 8) (ls' := [some (.ref 7), some (.int (iI x)), some (.int (iI 0))]) (st' := [.ref 7]) rfl rfl ?_
  refine go_get (v := .ref 8) rfl h7 rfl rfl ?_
  refine go_a (pc' := 12) (ls' := [some (.ref 7), some (.int (iI x)), some (.int (iI 0))]) (st' := [.int (iI x), .ref 8]) rfl rfl ?_
  refine go_a (pc' := 13) (ls' := [some (.ref 7), some (.int (iI x)), some (.int (iI 0))]) (st' := [.int (iI 0), .int (iI x), .ref 8]) rfl rfl ?_
  refine go_a (pc' := 14) (ls' := [some (.ref 7), some (.int (iI x)), some (.int (iI 0))]) (st' := [.ref 7, .int (iI 0), .int (iI x), .ref 8]) rfl rfl ?_
  refine go_v (m := 6) (as := [.ref 7]) (r := [.int (iI 0), .int (iI x), .ref 8]) rfl rfl rfl h7 rfl rfl (kt_len z d hp hO2) (fun v h1 hq => ?_)
  obtain ⟨rfl, e⟩ := hq
  rw [e]
  clear e h1
  show xx_go (xt_P z) (d + 2) 18 17 [some (.ref 7), some (.int (iI x)), some (.int (iI 0))] [.int (iI 46), .int (iI 0), .int (iI x), .ref 8] hp _
  refine go_s (m := 19) (as := [.ref 8, .int (iI x), .int (iI 0), .int (iI 46)]) (r := []) rfl rfl rfl rfl (kt_latix z d x hp hO2 x0 x1) (fun v h1 hq => ?_)
  obtain ⟨rfl, e⟩ := hq
  rw [e]
  show xx_go (xt_P z) (d + 2) 18 20 [some (.ref 7), some (.int (iI x)), some (.int (iI 0))] [.int (iI (LIX x))] hp _
  refine go_a (pc' := 36) (ls' := [some (.ref 7), some (.int (iI x)), some (.int (iI 0))]) (st' := [.int (iI (LIX x))]) rfl rfl ?_
  exact go_r rfl rfl rfl rfl rfl rfl ⟨rfl, rfl⟩
theorem kt_indexOf (z : Value) (d : Nat) (x : Int) (hp : xx_H) (hO : OC hp) (x0 : 0 ≤ x) (x1 : x ≤ 255) : xx_cl (xt_P z) (d + 4) 17 [.ref 7, .int (iI x)] hp (fun v h1 => v = some (.int (iI (LIX x))) ∧ h1 = hp) := by
  have hO2 := hO
  obtain ⟨h7, h8, -⟩ := hO
  refine cl_go rfl ?_
  show xx_go (xt_P z) (d + 3) 17 0 [some (.ref 7), some (.int (iI x))] [] hp _
  refine go_a (pc' := 1) (ls' := [some (.ref 7), some (.int (iI x))]) (st' := [.ref 7]) rfl rfl ?_
  refine go_a (pc' := 2) (ls' := [some (.ref 7), some (.int (iI x))]) (st' := [.int (iI x), .ref 7]) rfl rfl ?_
  refine go_a (pc' := 3) (ls' := [some (.ref 7), some (.int (iI x))]) (st' := [.int (iI 0), .int (iI x), .ref 7]) rfl rfl ?_
  refine go_v (m := 18) (as := [.ref 7, .int (iI x), .int (iI 0)]) (r := []) rfl rfl rfl h7 rfl rfl (kt_ix2 z d x hp hO2 x0 x1) (fun v h1 hq => ?_)
  obtain ⟨rfl, e⟩ := hq
  rw [e]
  show xx_go (xt_P z) (d + 3) 17 6 [some (.ref 7), some (.int (iI x))] [.int (iI (LIX x))] hp _
  exact go_r rfl rfl rfl rfl rfl rfl ⟨rfl, rfl⟩
theorem i2c_id {x : Int} (x0 : 0 ≤ x) (x1 : x ≤ 65535) : ((iI x).toUInt32 % 65536).toInt32 = iI x := by
  apply i_eq
  rw [i_nat]
  show ((iI x).toUInt32 % 65536).toNat = _
  rw [UInt32.toNat_mod]
  show (iI x).toBitVec.toNat % 65536 = _
  rw [i_nat]
  omega
theorem kt_longer (z : Value) (d : Nat) (y x : Int) (hp : xx_H) (hO : OC hp) (x0 : 0 ≤ x) (x1 : x ≤ 255) : xx_cl (xt_P z) (d + 5) 16 [.long (Int64.ofInt y), .int (iI x)] hp (fun v h1 => v = some (.long (Int64.ofInt (y * 47 + LIX x + 1))) ∧ h1 = hp) := by
  have hO2 := hO
  obtain ⟨h7, h8, -⟩ := hO
  refine cl_go rfl ?_
  show xx_go (xt_P z) (d + 4) 16 0 [some (.long (Int64.ofInt y)), none, some (.int (iI x))] [] hp _
  refine go_a (pc' := 1) (ls' := [some (.long (Int64.ofInt y)), none, some (.int (iI x))]) (st' := [.long (Int64.ofInt y)]) rfl rfl ?_
  refine go_b (pc' := 3) (st' := [.ref 7, .long (Int64.ofInt y)]) (h' := hp) rfl rfl rfl ?_
  refine go_v (m := 6) (as := [.ref 7]) (r := [.long (Int64.ofInt y)]) rfl rfl rfl h7 rfl rfl (kt_len z (d + 2) hp hO2) (fun v h1 hq => ?_)
  obtain ⟨rfl, e⟩ := hq
  rw [e]
  clear e h1
  show xx_go (xt_P z) (d + 4) 16 6 [some (.long (Int64.ofInt y)), none, some (.int (iI x))] [.int (iI 46), .long (Int64.ofInt y)] hp _
  refine go_a (pc' := 7) (ls' := [some (.long (Int64.ofInt y)), none, some (.int (iI x))]) (st' := [.int (iI 1), .int (iI 46), .long (Int64.ofInt y)]) rfl rfl ?_
  refine mi_add rfl ?_
  refine mi_i2l rfl (by omega) (by omega) ?_
  refine mi_lmul rfl ?_
  refine go_b (pc' := 12) (st' := [.ref 7, .long (Int64.ofInt (y * (46 + 1)))]) (h' := hp) rfl rfl rfl ?_
  refine go_a (pc' := 13) (ls' := [some (.long (Int64.ofInt y)), none, some (.int (iI x))]) (st' := [.int (iI x), .ref 7, .long (Int64.ofInt (y * (46 + 1)))]) rfl rfl ?_
  refine go_a (pc' := 14) (ls' := [some (.long (Int64.ofInt y)), none, some (.int (iI x))]) (st' := [.int (iI x), .ref 7, .long (Int64.ofInt (y * (46 + 1)))]) rfl (by show some (_, _, Value.int ((iI x).toUInt32 % 65536).toInt32 :: _) = _; rw [i2c_id x0 (by omega)]) ?_
  refine go_v (m := 17) (as := [.ref 7, .int (iI x)]) (r := [.long (Int64.ofInt (y * (46 + 1)))]) rfl rfl rfl h7 rfl rfl (kt_indexOf z d x hp hO2 x0 x1) (fun v h1 hq => ?_)
  obtain ⟨rfl, e⟩ := hq
  rw [e]
  have lr := LIX_R x
  show xx_go (xt_P z) (d + 4) 16 17 [some (.long (Int64.ofInt y)), none, some (.int (iI x))] [.int (iI (LIX x)), .long (Int64.ofInt (y * (46 + 1)))] hp _
  refine mi_i2l rfl (by omega) (by omega) ?_
  refine mi_ladd rfl ?_
  refine go_a (pc' := 20) (ls' := [some (.long (Int64.ofInt y)), none, some (.int (iI x))]) (st' := [.long (Int64.ofInt 1), .long (Int64.ofInt ((y * (46 + 1)) + (LIX x)))]) rfl rfl ?_
  refine mi_ladd rfl ?_
  exact go_r rfl rfl rfl rfl rfl rfl ⟨rfl, rfl⟩
