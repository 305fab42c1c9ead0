def STR (hp : xx_H) (a b : Nat) (l : List Int) : Prop := hp[a]? = some (.inr (14, [.ref b, .int (iI 0)])) ∧ hp[b]? = some (.inl (.byte, l.map (fun w => Value.int (iI w)))) ∧ (∀ w ∈ l, 1 ≤ w ∧ w ≤ 127) ∧ l.length ≤ 1000
theorem gs_coder (z : Value) (d : Nat) (a b : Nat) (l : List Int) (hp : xx_H) (hO : STR hp a b l) : xx_cl (xt_P z) (d + 1) 7 [.ref a] hp (fun v h1 => v = some (.int (iI 0)) ∧ h1 = hp) := by
  obtain ⟨h7, h8, hL, hl⟩ := hO
  refine cl_go rfl ?_
  show xx_go (xt_P z) d 7 0 [some (.ref a)] [] hp _
  refine go_b (pc' := 3) (st' := [.int (iI 1)]) (h' := hp) rfl rfl rfl ?_
  refine mi_eq0 (t := 13) rfl rfl (by omega) (by omega) (fun q => absurd q (by decide)) (fun _ => ?_)
  refine go_a (pc' := 7) (ls' := [some (.ref a)]) (st' := [.ref a]) rfl rfl ?_
  refine go_get (v := .int (iI 0)) rfl h7 rfl rfl ?_
  refine go_a (pc' := 14) (ls' := [some (.ref a)]) (st' := [.int (iI 0)]) rfl rfl ?_
  exact go_r rfl rfl rfl rfl rfl rfl ⟨rfl, rfl⟩
theorem gs_latin (z : Value) (d : Nat) (a b : Nat) (l : List Int) (hp : xx_H) (hO : STR hp a b l) : xx_cl (xt_P z) (d + 1) 9 [.ref a] hp (fun v h1 => v = some (.int (iI 1)) ∧ h1 = hp) := by
  obtain ⟨h7, h8, hL, hl⟩ := hO
  refine cl_go rfl ?_
  show xx_go (xt_P z) d 9 0 [some (.ref a)] [] hp _
  refine go_b (pc' := 3) (st' := [.int (iI 1)]) (h' := hp) rfl rfl rfl ?_
  refine mi_eq0 (t := 17) rfl rfl (by omega) (by omega) (fun q => absurd q (by decide)) (fun _ => ?_)
  refine go_a (pc' := 7) (ls' := [some (.ref a)]) (st' := [.ref a]) rfl rfl ?_
  refine go_get (v := .int (iI 0)) rfl h7 rfl rfl ?_
  refine mi_ne0 (t := 17) rfl rfl (by omega) (by omega) (fun q => absurd rfl q) (fun _ => ?_)
  refine go_a (pc' := 14) (ls' := [some (.ref a)]) (st' := [.int (iI 1)]) rfl rfl ?_
  refine go_a (pc' := 18) (ls' := [some (.ref a)]) (st' := [.int (iI 1)]) rfl rfl ?_
  exact go_r rfl rfl rfl rfl rfl rfl ⟨rfl, rfl⟩
theorem gs_len (z : Value) (d : Nat) (a b : Nat) (l : List Int) (hp : xx_H) (hO : STR hp a b l) : xx_cl (xt_P z) (d + 2) 6 [.ref a] hp (fun v h1 => v = some (.int (iI (l.length : Int))) ∧ h1 = hp) := by
  have hO2 := hO
  obtain ⟨h7, h8, hL, hl⟩ := hO
  refine cl_go rfl ?_
  show xx_go (xt_P z) (d + 1) 6 0 [some (.ref a)] [] hp _
  refine go_a (pc' := 1) (ls' := [some (.ref a)]) (st' := [.ref a]) rfl rfl ?_
  refine go_get (v := .ref b) rfl h7 rfl rfl ?_
  refine mk_len (n := (l.length : Int)) rfl h8 (by simp) (by omega) (by omega) ?_
  refine go_a (pc' := 6) (ls' := [some (.ref a)]) (st' := [.ref a, .int (iI (l.length : Int))]) rfl rfl ?_
  refine go_v (m := 7) (as := [.ref a]) (r := [.int (iI (l.length : Int))]) rfl rfl rfl h7 rfl rfl (gs_coder z d a b l hp hO2) (fun v h1 hq => ?_)
  obtain ⟨rfl, e⟩ := hq
  rw [e]
  show xx_go (xt_P z) (d + 1) 6 9 [some (.ref a)] [.int (iI 0), .int (iI (l.length : Int))] hp _
  refine go_a (pc' := 10) (ls' := [some (.ref a)]) (st' := [.int (iI (l.length : Int))]) rfl (by have e := shr_i (x := (l.length : Int)) (by omega) (by omega) (iI 0) 0 (by decide) (by decide); rw [show (l.length : Int) / ((2 ^ 0 : Nat) : Int) = (l.length : Int) by omega] at e; show some (_, _, Value.int (iI (l.length : Int) >>> (iI 0 &&& 31)) :: _) = _; rw [e]) ?_
  exact go_r rfl rfl rfl rfl rfl rfl ⟨rfl, rfl⟩
theorem gs_latch (z : Value) (hz : z = .null ∨ ∃ k, z = .ref k) (d : Nat) (i : Int) (a b : Nat) (l : List Int) (hp : xx_H) (hO : STR hp a b l) (x : Int) (i0 : 0 ≤ i) (hi : l[i.toNat]? = some x) : xx_cl (xt_P z) (d + 3) 10 [.ref b, .int (iI i)] hp (fun v h1 => v = some (.int (iI x)) ∧ h1 = hp) := by
  obtain ⟨h7, h8, hL, hl⟩ := hO
  have hw : (l.map (fun w => Value.int (iI w)))[i.toNat]? = some (.int (iI x)) := by
    rw [List.getElem?_map, hi]
    rfl
  have hx : 0 ≤ x ∧ x ≤ 127 := by
    have := hL x (List.mem_of_getElem? hi)
    omega
  have i1 : i < (l.length : Int) := by
    have := (List.getElem?_eq_some_iff.mp hi).1
    omega
  refine cl_go rfl ?_
  show xx_go (xt_P z) (d + 2) 10 0 [some (.ref b), some (.int (iI i))] [] hp _
  refine go_a (pc' := 1) (ls' := [some (.ref b), some (.int (iI i))]) (st' := [.int (iI i)]) rfl rfl ?_
  refine go_a (pc' := 2) (ls' := [some (.ref b), some (.int (iI i))]) (st' := [.ref b, .int (iI i)]) rfl rfl ?_
  refine mk_len (n := (l.length : Int)) rfl h8 (by simp) (by omega) (by omega) ?_
  refine go_s (m := 11) (as := [.int (iI i), .int (iI (l.length : Int))]) (r := []) rfl rfl rfl rfl (kt_chk2 z hz d i (l.length : Int) hp i0 i1 (by omega)) (fun v h1 hq => ?_)
  obtain ⟨rfl, e⟩ := hq
  rw [e]
  clear e h1
  show xx_go (xt_P z) (d + 2) 10 6 [some (.ref b), some (.int (iI i))] [] hp _
  refine go_a (pc' := 7) (ls' := [some (.ref b), some (.int (iI i))]) (st' := [.ref b]) rfl rfl ?_
  refine go_a (pc' := 8) (ls' := [some (.ref b), some (.int (iI i))]) (st' := [.int (iI i), .ref b]) rfl rfl ?_
  refine go_bld rfl h8 (iI_nn i0 (by omega)) (iI_clamp i0 (by omega)) hw ?_
  refine go_a (pc' := 12) (ls' := [some (.ref b), some (.int (iI i))]) (st' := [.int (iI 255), .int (iI x)]) rfl rfl ?_
  refine go_a (pc' := 13) (ls' := [some (.ref b), some (.int (iI i))]) (st' := [.int (iI x)]) rfl (by show some (_, _, Value.int (iI x &&& 255) :: _) = _; rw [and255 hx.1 hx.2]) ?_
  refine go_a (pc' := 14) (ls' := [some (.ref b), some (.int (iI i))]) (st' := [.int (iI x)]) rfl (by show some (_, _, Value.int ((iI x).toUInt32 % 65536).toInt32 :: _) = _; rw [i2c_id hx.1 (by omega)]) ?_
  exact go_r rfl rfl rfl rfl rfl (by show xa_g (xx_fit .char (.int (iI x))) _ = _; rw [fitC hx.1 hx.2]; rfl) ⟨rfl, rfl⟩
theorem gs_charAt (z : Value) (hz : z = .null ∨ ∃ k, z = .ref k) (d : Nat) (i : Int) (a b : Nat) (l : List Int) (hp : xx_H) (hO : STR hp a b l) (x : Int) (i0 : 0 ≤ i) (hi : l[i.toNat]? = some x) : xx_cl (xt_P z) (d + 4) 8 [.ref a, .int (iI i)] hp (fun v h1 => v = some (.int (iI x)) ∧ h1 = hp) := by
  have hO2 := hO
  obtain ⟨h7, h8, hL, hl⟩ := hO
  have hx : 0 ≤ x ∧ x ≤ 127 := by
    have := hL x (List.mem_of_getElem? hi)
    omega
  refine cl_go rfl ?_
  show xx_go (xt_P z) (d + 3) 8 0 [some (.ref a), some (.int (iI i))] [] hp _
  refine go_a (pc' := 1) (ls' := [some (.ref a), some (.int (iI i))]) (st' := [.ref a]) rfl rfl ?_
  refine go_v (m := 9) (as := [.ref a]) (r := []) rfl rfl rfl h7 rfl rfl (gs_latin z (d + 2) a b l hp hO2) (fun v h1 hq => ?_)
  obtain ⟨rfl, e⟩ := hq
  rw [e]
  clear e h1
  show xx_go (xt_P z) (d + 3) 8 4 [some (.ref a), some (.int (iI i))] [.int (iI 1)] hp _
  refine mi_eq0 (t := 16) rfl rfl (by omega) (by omega) (fun q => absurd q (by decide)) (fun _ => ?_)
  refine go_a (pc' := 8) (ls' := [some (.ref a), some (.int (iI i))]) (st' := [.ref a]) rfl rfl ?_
  refine go_get (v := .ref b) rfl h7 rfl rfl ?_
  refine go_a (pc' := 12) (ls' := [some (.ref a), some (.int (iI i))]) (st' := [.int (iI i), .ref b]) rfl rfl ?_
  refine go_s (m := 10) (as := [.ref b, .int (iI i)]) (r := []) rfl rfl rfl rfl (gs_latch z hz d i a b l hp hO2 x i0 hi) (fun v h1 hq => ?_)
  obtain ⟨rfl, e⟩ := hq
  rw [e]
  show xx_go (xt_P z) (d + 3) 8 15 [some (.ref a), some (.int (iI i))] [.int (iI x)] hp _
  exact go_r rfl rfl rfl rfl rfl (by show xa_g (xx_fit .char (.int (iI x))) _ = _; rw [fitC hx.1 hx.2]; rfl) ⟨rfl, rfl⟩
def nmI1 : List Int := [110, 105, 108, 32, 116, 32, 113, 117, 111, 116, 101, 32, 105, 102, 32, 101, 113, 117, 97, 108, 32, 99, 111, 110, 115, 32, 105, 109, 112, 108, 105, 101, 115, 32, 43, 32, 45, 32, 60, 32, 99, 111, 110, 115, 112, 32, 99, 97, 114, 32, 99, 100, 114, 32, 110, 97, 116, 112, 32, 115, 121, 109, 98, 111, 108, 112, 32, 104, 101, 105, 103, 104, 116, 32, 110, 111, 116, 32]
def nmI2 : List Int := [100, 101, 102, 117, 110, 32, 99, 104, 101, 99, 107, 32, 99, 108, 97, 117, 115, 101, 32, 117, 110, 100, 111, 32, 116, 104, 101, 111, 114, 101, 109, 32]
def nmI3 : List Int := [116, 97, 117, 116, 32, 115, 97, 109, 101, 32, 118, 97, 108, 117, 101, 32, 102, 105, 114, 115, 116, 32, 115, 101, 99, 111, 110, 100, 32, 112, 97, 105, 114, 32, 121, 101, 115, 32, 110, 111, 32, 100, 101, 102, 32, 116, 104, 109, 32, 119, 101, 97, 107, 32, 99, 117, 116, 32, 105, 110, 115, 116, 32, 115, 119, 97, 112, 32, 112, 117, 116, 32, 105, 110, 100, 117, 99, 116, 32]
def adn : List Int → Int → List Int → List Int
  | [], _, acc => acc
  | b :: r, y, acc => if b = 32 then adn r 0 (acc ++ [y]) else adn r (y * 47 + LIX b + 1) acc
theorem adn_pre : ∀ (r : List Int) (y : Int) (acc : List Int), ∃ t : List Int, adn r y acc = acc ++ t
  | [], _, acc => ⟨[], by rw [List.append_nil]; rfl⟩
  | b :: r, y, acc => by
    by_cases c : b = 32
    · obtain ⟨t, ht⟩ := adn_pre r 0 (acc ++ [y])
      refine ⟨y :: t, ?_⟩
      show (if b = 32 then _ else _) = _
      rw [if_pos c, ht, List.append_assoc]
      rfl
    · obtain ⟨t, ht⟩ := adn_pre r (y * 47 + LIX b + 1) acc
      refine ⟨t, ?_⟩
      show (if b = 32 then _ else _) = _
      rw [if_neg c, ht]
def NMF1 : List Int := adn nmI1 0 []
def NMF2 : List Int := adn nmI2 0 NMF1
def NMF3 : List Int := adn nmI3 0 NMF2
def CDS (F : List Int) : Prop := F.length ≤ 60 ∧ (∀ i : Nat, i < F.length → 0 ≤ F.getD i 0 ∧ F.getD i 0 < 4611686018427387904) ∧ ∀ i j : Nat, i < j → j < F.length → F.getD i 0 ≠ F.getD j 0
def CNM (F : List Int) (k : Nat) (N G : Int → Int) : Prop := ∀ e : Nat, e < k → N (e : Int) = F.getD e 0 + 4611686018427387904 ∧ G (e : Int) = 0
theorem CNM_add {F : List Int} {k : Nat} {N G : Int → Int} {y : Int} (h : CNM F k N G) (hy : F.getD k 0 = y) : CNM F (k + 1) (sf N k (y + 4611686018427387904)) (sf G k 0) := by
  intro e he
  by_cases c : e = k
  · rw [c, sf_self, sf_self, hy]
    exact ⟨rfl, rfl⟩
  · rw [sf_ne (by omega), sf_ne (by omega)]
    exact h e (by omega)
theorem OC_CF {c : Nat} {h h1 : xx_H} (hO : OC h) (F : CF5 c h h1) (hc : 12 ≤ c) : OC h1 := ⟨(F.2.2 7 (by omega)).trans hO.1, (F.2.2 8 (by omega)).trans hO.2.1, (F.2.2 11 (by omega)).trans hO.2.2.1, (F.2.2 10 (by omega)).trans hO.2.2.2⟩
theorem STR_CF {c a b : Nat} {l : List Int} {h h1 : xx_H} (hO : STR h a b l) (F : CF5 c h h1) (ha : a < c) (hb : b < c) : STR h1 a b l := ⟨(F.2.2 a (by omega)).trans hO.1, (F.2.2 b (by omega)).trans hO.2.1, hO.2.2⟩
theorem cz_names_loop (z : Value) (hz : z = .null ∨ ∃ k, z = .ref k) (d c a b : Nat) (l F : List Int) (h0 : xx_H) (hc : 12 ≤ c) (ha : a < c) (hb : b < c) (hF : CDS F) : ∀ (r : List Int) (i k : Nat) (y : Int) (N G X S : Int → Int) (h : xx_H), i ≤ l.length → l.drop i = r → k ≤ F.length → adn r y (F.take k) = F → CF5 c h0 h → CZ5 h c (k : Int) N G X S → CNM F k N G → CHN (k : Int) N X S → OC h → STR h a b l → xx_go (xt_P z) (d + 5) 5 5 [some (.ref c), some (.ref a), some (.long (Int64.ofInt y)), none, some (.int (iI ((i : Int))))] [] h (fun v h1 => v = none ∧ CF5 c h0 h1 ∧ ∃ N1 G1 X1 S1 : Int → Int, CZ5 h1 c (F.length : Int) N1 G1 X1 S1 ∧ CNM F F.length N1 G1 ∧ CHN (F.length : Int) N1 X1 S1) := by
  intro r
  induction r with
  | nil =>
    intro i k y N G X S h iL hr kF hA hX hC hN hH hO hS
    have il : l.length ≤ i := List.drop_eq_nil_iff.mp hr
    have ek : k = F.length := by
      have := congrArg List.length hA
      have e : adn [] y (F.take k) = F.take k := rfl
      rw [e, List.length_take] at this
      omega
    have ll := hS.2.2.2
    refine go_a (pc' := 7) (ls' := [some (.ref c), some (.ref a), some (.long (Int64.ofInt y)), none, some (.int (iI ((i : Int))))]) (st' := [.int (iI ((i : Int)))]) rfl rfl ?_
    refine go_a (pc' := 8) (ls' := [some (.ref c), some (.ref a), some (.long (Int64.ofInt y)), none, some (.int (iI ((i : Int))))]) (st' := [.ref a, .int (iI ((i : Int)))]) rfl rfl ?_
    refine go_v (m := 6) (as := [.ref a]) (r := [.int (iI ((i : Int)))]) rfl rfl rfl hS.1 rfl rfl (gs_len z (d + 3) a b l h hS) (fun v h3 hq => ?_)
    obtain ⟨rfl, e9⟩ := hq
    rw [e9]
    clear e9 h3
    show xx_go (xt_P z) (d + 5) 5 11 [some (.ref c), some (.ref a), some (.long (Int64.ofInt y)), none, some (.int (iI ((i : Int))))] [.int (iI ((l.length : Int))), .int (iI ((i : Int)))] h _
    refine mi_ge (t := 53) rfl rfl (by omega) (by omega) (by omega) (by omega) (fun _ => ?_) (fun w => absurd (show (i : Int) ≥ l.length by omega) w)
    rw [ek] at hC hN hH
    exact go_r rfl rfl rfl rfl rfl rfl ⟨rfl, hX, N, G, X, S, hC, hN, hH⟩
  | cons w r ih =>
    intro i k y N G X S h iL hr kF hA hX hC hN hH hO hS
    have hi : l[i]? = some w := by
      have := congrArg (fun q => q[0]?) hr
      simpa using this
    have il := (List.getElem?_eq_some_iff.mp hi).1
    have hr1 : l.drop (i + 1) = r := by
      rw [← List.drop_drop, hr]
      rfl
    have wR := hS.2.2.1 w (List.mem_of_getElem? hi)
    have ll := hS.2.2.2
    refine go_a (pc' := 7) (ls' := [some (.ref c), some (.ref a), some (.long (Int64.ofInt y)), none, some (.int (iI ((i : Int))))]) (st' := [.int (iI ((i : Int)))]) rfl rfl ?_
    refine go_a (pc' := 8) (ls' := [some (.ref c), some (.ref a), some (.long (Int64.ofInt y)), none, some (.int (iI ((i : Int))))]) (st' := [.ref a, .int (iI ((i : Int)))]) rfl rfl ?_
    refine go_v (m := 6) (as := [.ref a]) (r := [.int (iI ((i : Int)))]) rfl rfl rfl hS.1 rfl rfl (gs_len z (d + 3) a b l h hS) (fun v h3 hq => ?_)
    obtain ⟨rfl, e9⟩ := hq
    rw [e9]
    clear e9 h3
    show xx_go (xt_P z) (d + 5) 5 11 [some (.ref c), some (.ref a), some (.long (Int64.ofInt y)), none, some (.int (iI ((i : Int))))] [.int (iI ((l.length : Int))), .int (iI ((i : Int)))] h _
    refine mi_ge (t := 53) rfl rfl (by omega) (by omega) (by omega) (by omega) (fun w1 => absurd w1 (by omega)) (fun _ => ?_)
    refine go_a (pc' := 15) (ls' := [some (.ref c), some (.ref a), some (.long (Int64.ofInt y)), none, some (.int (iI ((i : Int))))]) (st' := [.ref a]) rfl rfl ?_
    refine go_a (pc' := 17) (ls' := [some (.ref c), some (.ref a), some (.long (Int64.ofInt y)), none, some (.int (iI ((i : Int))))]) (st' := [.int (iI ((i : Int))), .ref a]) rfl rfl ?_
    refine go_v (m := 8) (as := [.ref a, .int (iI ((i : Int)))]) (r := []) rfl rfl rfl hS.1 rfl rfl (gs_charAt z hz (d + 1) (i : Int) a b l h hS w (by omega) hi) (fun v h3 hq => ?_)
    obtain ⟨rfl, e9⟩ := hq
    rw [e9]
    clear e9 h3
    show xx_go (xt_P z) (d + 5) 5 20 [some (.ref c), some (.ref a), some (.long (Int64.ofInt y)), none, some (.int (iI ((i : Int))))] [.int (iI w)] h _
    refine go_a (pc' := 22) (ls' := [some (.ref c), some (.ref a), some (.long (Int64.ofInt y)), none, some (.int (iI ((i : Int))))]) (st' := [.int (iI 32), .int (iI w)]) rfl rfl ?_
    refine mi_ne (t := 36) rfl rfl (by omega) (by omega) (by omega) (by omega) (fun w2 => ?_) (fun w2 => ?_)
    · have hA1 : adn r (y * 47 + LIX w + 1) (F.take k) = F := by
        have e : adn (w :: r) y (F.take k) = if w = 32 then adn r 0 (F.take k ++ [y]) else adn r (y * 47 + LIX w + 1) (F.take k) := rfl
        rw [e, if_neg w2] at hA
        exact hA
      refine go_a (pc' := 37) (ls' := [some (.ref c), some (.ref a), some (.long (Int64.ofInt y)), none, some (.int (iI ((i : Int))))]) (st' := [.long (Int64.ofInt y)]) rfl rfl ?_
      refine go_a (pc' := 38) (ls' := [some (.ref c), some (.ref a), some (.long (Int64.ofInt y)), none, some (.int (iI ((i : Int))))]) (st' := [.ref a, .long (Int64.ofInt y)]) rfl rfl ?_
      refine go_a (pc' := 40) (ls' := [some (.ref c), some (.ref a), some (.long (Int64.ofInt y)), none, some (.int (iI ((i : Int))))]) (st' := [.int (iI ((i : Int))), .ref a, .long (Int64.ofInt y)]) rfl rfl ?_
      refine go_v (m := 8) (as := [.ref a, .int (iI ((i : Int)))]) (r := [.long (Int64.ofInt y)]) rfl rfl rfl hS.1 rfl rfl (gs_charAt z hz (d + 1) (i : Int) a b l h hS w (by omega) hi) (fun v h3 hq => ?_)
      obtain ⟨rfl, e9⟩ := hq
      rw [e9]
      clear e9 h3
      show xx_go (xt_P z) (d + 5) 5 43 [some (.ref c), some (.ref a), some (.long (Int64.ofInt y)), none, some (.int (iI ((i : Int))))] [.int (iI w), .long (Int64.ofInt y)] h _
      refine go_s (m := 16) (as := [.long (Int64.ofInt y), .int (iI w)]) (r := []) rfl rfl rfl rfl (kt_longer z d y w h hO (by omega) (by omega)) (fun v h3 hq => ?_)
      obtain ⟨rfl, e9⟩ := hq
      rw [e9]
      clear e9 h3
      show xx_go (xt_P z) (d + 5) 5 46 [some (.ref c), some (.ref a), some (.long (Int64.ofInt y)), none, some (.int (iI ((i : Int))))] [.long (Int64.ofInt (y * 47 + LIX w + 1))] h _
      refine go_a (pc' := 47) (ls' := [some (.ref c), some (.ref a), some (.long (Int64.ofInt (y * 47 + LIX w + 1))), none, some (.int (iI ((i : Int))))]) (st' := []) rfl rfl ?_
      refine go_a (pc' := 50) (ls' := [some (.ref c), some (.ref a), some (.long (Int64.ofInt (y * 47 + LIX w + 1))), none, some (.int (iI (((i : Int)) + 1)))]) (st' := []) rfl (by rw [← iI_add ((i : Int)) 1]; rfl) ?_
      refine go_a (pc' := 5) (ls' := [some (.ref c), some (.ref a), some (.long (Int64.ofInt (y * 47 + LIX w + 1))), none, some (.int (iI (((i : Int)) + 1)))]) (st' := []) rfl rfl ?_
      rw [show (i : Int) + 1 = ((i + 1 : Nat) : Int) by omega]
      exact ih (i + 1) k _ N G X S h (by omega) hr1 kF hA1 hX hC hN hH hO hS
    · have w32 : w = 32 := by omega
      have hA1 : adn r 0 (F.take k ++ [y]) = F := by
        have e : adn (w :: r) y (F.take k) = if w = 32 then adn r 0 (F.take k ++ [y]) else adn r (y * 47 + LIX w + 1) (F.take k) := rfl
        rw [e, if_pos w32] at hA
        exact hA
      obtain ⟨t, ht⟩ := adn_pre r 0 (F.take k ++ [y])
      rw [hA1] at ht
      have lk : (F.take k).length = k := by rw [List.length_take]; omega
      have kF1 : k + 1 ≤ F.length := by
        have := congrArg List.length ht
        rw [List.length_append, List.length_append, lk] at this
        have e : [y].length = 1 := rfl
        omega
      have gk : F.getD k 0 = y := by
        have e : F[k]? = some y := by
          rw [ht, List.append_assoc, List.getElem?_append_right (by omega), lk, Nat.sub_self]
          rfl
        rw [List.getD_eq_getElem?_getD, e]
        rfl
      have tk : F.take (k + 1) = F.take k ++ [y] := by
        have e : (F.take k ++ [y] ++ t).take (k + 1) = F.take k ++ [y] := List.take_left' (by rw [List.length_append, lk]; rfl)
        rw [← ht] at e
        exact e
      rw [← tk] at hA1
      have yR := hF.2.1 k (by omega)
      rw [gk] at yR
      have l60 := hF.1
      have new9 : ∀ e : Int, 0 ≤ e → e < (k : Int) → N e ≠ y + 4611686018427387904 := fun e e0 e1 => by obtain ⟨n, rfl⟩ : ∃ n : Nat, e = (n : Int) := ⟨e.toNat, by omega⟩; rw [(hN n (by omega)).1, ← gk]; have := hF.2.2 n k (by omega) (by omega); omega
      have hH1 := CHN_add hH (by omega) (show 0 ≤ y + 4611686018427387904 by omega) new9
      refine go_a (pc' := 26) (ls' := [some (.ref c), some (.ref a), some (.long (Int64.ofInt y)), none, some (.int (iI ((i : Int))))]) (st' := [.ref c]) rfl rfl ?_
      refine go_a (pc' := 27) (ls' := [some (.ref c), some (.ref a), some (.long (Int64.ofInt y)), none, some (.int (iI ((i : Int))))]) (st' := [.long (Int64.ofInt y), .ref c]) rfl rfl ?_
      refine go_v (m := 13) (as := [.ref c, .long (Int64.ofInt y)]) (r := []) rfl rfl rfl hC.1 rfl rfl (cz_symbol z (d + 2) c (k : Int) y N G X S h hc (by omega) (by omega) hC yR.1 yR.2 new9) (fun v h3 hq => ?_)
      obtain ⟨rfl, F3, C1⟩ := hq
      show xx_go (xt_P z) (d + 5) 5 30 [some (.ref c), some (.ref a), some (.long (Int64.ofInt y)), none, some (.int (iI ((i : Int))))] [.int (iI ((k : Int)))] h3 _
      refine go_a (pc' := 31) (ls' := [some (.ref c), some (.ref a), some (.long (Int64.ofInt y)), none, some (.int (iI ((i : Int))))]) (st' := []) rfl rfl ?_
      refine go_a (pc' := 32) (ls' := [some (.ref c), some (.ref a), some (.long (Int64.ofInt y)), none, some (.int (iI ((i : Int))))]) (st' := [.long (Int64.ofInt 0)]) rfl rfl ?_
      refine go_a (pc' := 33) (ls' := [some (.ref c), some (.ref a), some (.long (Int64.ofInt 0)), none, some (.int (iI ((i : Int))))]) (st' := []) rfl rfl ?_
      refine go_a (pc' := 47) (ls' := [some (.ref c), some (.ref a), some (.long (Int64.ofInt 0)), none, some (.int (iI ((i : Int))))]) (st' := []) rfl rfl ?_
      refine go_a (pc' := 50) (ls' := [some (.ref c), some (.ref a), some (.long (Int64.ofInt 0)), none, some (.int (iI (((i : Int)) + 1)))]) (st' := []) rfl (by rw [← iI_add ((i : Int)) 1]; rfl) ?_
      refine go_a (pc' := 5) (ls' := [some (.ref c), some (.ref a), some (.long (Int64.ofInt 0)), none, some (.int (iI (((i : Int)) + 1)))]) (st' := []) rfl rfl ?_
      rw [show (i : Int) + 1 = ((i + 1 : Nat) : Int) by omega]
      rw [show (k : Int) + 1 = ((k + 1 : Nat) : Int) by omega] at C1 hH1
      exact ih (i + 1) (k + 1) 0 _ _ _ _ h3 (by omega) hr1 kF1 hA1 (CF5_tr hX F3) C1 (CNM_add hN gk) hH1 (OC_CF hO F3 hc) (STR_CF hS F3 ha hb)
theorem cz_names (z : Value) (hz : z = .null ∨ ∃ k, z = .ref k) (d c a b k : Nat) (l F : List Int) (N G X S : Int → Int) (h : xx_H) (hc : 12 ≤ c) (ha : a < c) (hb : b < c) (hF : CDS F) (kF : k ≤ F.length) (hA : adn l 0 (F.take k) = F) (hC : CZ5 h c (k : Int) N G X S) (hN : CNM F k N G) (hH : CHN (k : Int) N X S) (hO : OC h) (hS : STR h a b l) : xx_cl (xt_P z) (d + 6) 5 [.ref c, .ref a] h (fun v h1 => v = none ∧ CF5 c h h1 ∧ ∃ N1 G1 X1 S1 : Int → Int, CZ5 h1 c (F.length : Int) N1 G1 X1 S1 ∧ CNM F F.length N1 G1 ∧ CHN (F.length : Int) N1 X1 S1) := by
  refine cl_go rfl ?_
  show xx_go (xt_P z) (d + 5) 5 0 [some (.ref c), some (.ref a), none, none, none] [] h _
  refine go_a (pc' := 1) (ls' := [some (.ref c), some (.ref a), none, none, none]) (st' := [.long (Int64.ofInt 0)]) rfl rfl ?_
  refine go_a (pc' := 2) (ls' := [some (.ref c), some (.ref a), some (.long (Int64.ofInt 0)), none, none]) (st' := []) rfl rfl ?_
  refine go_a (pc' := 3) (ls' := [some (.ref c), some (.ref a), some (.long (Int64.ofInt 0)), none, none]) (st' := [.int (iI 0)]) rfl rfl ?_
  refine go_a (pc' := 5) (ls' := [some (.ref c), some (.ref a), some (.long (Int64.ofInt 0)), none, some (.int (iI 0))]) (st' := []) rfl rfl ?_
  exact cz_names_loop z hz d c a b l F h hc ha hb hF l 0 k 0 N G X S h (Nat.zero_le _) rfl kF hA CF5_rf hC hN hH hO hS

