def THX (c : Nat) (hp : xx_H) (s : KS) (u : Int) (NM : BKM) (t : List sp_Th) (x : Int) (a : Nat) : Prop := ∃ th : sp_Th, t[t.length - 1 - x.toNat]? = some th ∧ ((∃ (i m : Int) (g : Int → Int) (n : Int) (f : Int → Int) (cb : Int), FTH c hp s u a i (NM.1 i).1 m g n f cb ∧ ∃ (v : Nat) (ps : List Nat) (B : ob_T), th = (v, some ps, B) ∧ DK s.N (NM.1 i).1 = .var v ∧ VRG s.N u (rl m g) ps ∧ TRT s.N u (sp_ft (sp_FB t)) (rl n f) B) ∨ ∃ (nm n : Int) (f : Int → Int) (cb : Int), TTH c hp s u a nm n f cb ∧ ∃ (v : Nat) (B : ob_T), th = (v, none, B) ∧ DK s.N nm = .var v ∧ TRT s.N u (sp_ft (sp_FB t)) (rl n f) B)
def TLA (t : List sp_Th) (x b : Int) : Prop := (¬ (0 ≤ x ∧ x < (t.length : Int)) ∧ b = -1) ∨ (0 ≤ x ∧ x < (t.length : Int)) ∧ ∃ th : sp_Th, t[t.length - 1 - x.toNat]? = some th ∧ CP (sp_ln 1 (sp_tx th)).1 b
section THS
variable {c : Nat} {hp : xx_H} {s : KS} {NM : BKM}
theorem FB_up (th : sp_Th) (t : List sp_Th) : ∃ B : List (Nat × List Nat × ob_T), sp_FB (th :: t) = sp_FB t ++ B := by
  obtain ⟨v, o, b⟩ := th
  cases o with
  | none => exact ⟨[], (List.append_nil _).symm⟩
  | some ps => exact ⟨[(v, ps, b)], rfl⟩
theorem FB_TR {N : Int → Int} {u : Int} {L : List Int} {B : ob_T} (th : sp_Th) {t : List sp_Th} (h : TRT N u (sp_ft (sp_FB t)) L B) : TRT N u (sp_ft (sp_FB (th :: t))) L B := by
  obtain ⟨b, e⟩ := FB_up th t
  rw [e]
  exact (TRT_mono (Int.le_refl _) (fun _ _ _ => rfl) (fun w hw => sp_ft_up _ hw) B).1 _ h
theorem TH_up {t : List sp_Th} {u x : Int} {a : Nat} (th : sp_Th) (x0 : 0 ≤ x) (x1 : x < (t.length : Int)) (h : THX c hp s u NM t x a) : THX c hp s u NM (th :: t) x a := by
  obtain ⟨th1, e, h⟩ := h
  refine ⟨th1, ?_, ?_⟩
  · rw [List.length_cons, show t.length + 1 - 1 - x.toNat = (t.length - 1 - x.toNat) + 1 by omega]
    exact e
  · rcases h with ⟨i, m, g, n, f, cb, F, v, ps, B, q1, q2, q3, q4⟩ | ⟨nm, n, f, cb, F, v, B, q1, q2, q4⟩
    · exact Or.inl ⟨i, m, g, n, f, cb, F, v, ps, B, q1, q2, q3, FB_TR th q4⟩
    · exact Or.inr ⟨nm, n, f, cb, F, v, B, q1, q2, FB_TR th q4⟩
theorem BKS_thX : ∀ {t : List sp_Th} {u nf nt : Int}, BKS c hp s NM t u nf nt → ∀ k : Int, 0 ≤ k → k < (t.length : Int) → ∃ (a : Nat), s.T 13 k = some a ∧ THX c hp s u NM t k a
  | [], _, _, _, h, k, k0, k1 => absurd k1 (by rw [List.length_nil]; omega)
  | th :: t, u, nf, nt, h, k, k0, k1 => by
    rw [List.length_cons] at k1
    obtain ⟨a, cb, T, hc, ⟨m, g, n, f, F, T4, n1, nn, ⟨bf, v, ps, B, e, dv, V, TB⟩, q⟩ | ⟨n, f, F, T5, n1, nn, ⟨bt, v, B, e, dv, TB⟩, q⟩⟩ := h
    · by_cases ck : k = (t.length : Int)
      · rw [ck]
        refine ⟨a, T, th, ?_, Or.inl ⟨_, m, g, n, f, cb, F, v, ps, B, e, dv, V, TB⟩⟩
        rw [List.length_cons, show t.length + 1 - 1 - ((t.length : Int)).toNat = 0 by omega]
        rfl
      · obtain ⟨a1, T1, h1⟩ := BKS_thX (BKS_up q hc.2) k k0 (by omega)
        exact ⟨a1, T1, TH_up th k0 (by omega) h1⟩
    · by_cases ck : k = (t.length : Int)
      · rw [ck]
        refine ⟨a, T, th, ?_, Or.inr ⟨_, n, f, cb, F, v, B, e, dv, FB_TR th TB⟩⟩
        rw [List.length_cons, show t.length + 1 - 1 - ((t.length : Int)).toNat = 0 by omega]
        rfl
      · obtain ⟨a1, T1, h1⟩ := BKS_thX (BKS_up q hc.2) k k0 (by omega)
        exact ⟨a1, T1, TH_up th k0 (by omega) h1⟩
theorem bt_32 : ∀ x : Nat, x < 17 → 3 ≤ x → sp_bt (cNm.getD x 0) / 32 = (x : Int) := by decide
theorem NMO_ft {t : List sp_Th} {u nt : Int} (h : BKS c hp s NM t u (s.I 27) nt) (hN : KNN s) : ∀ v : Nat, 0 ≤ sp_ft (sp_FB t) v → sp_ft (sp_FB t) v % 4 = 2 ∧ DK s.N (nmo (s.I 27) NM (sp_ft (sp_FB t) v / 32)) = .var v := by
  intro v q
  rcases sp_ft_e q with ⟨q1, e⟩ | ⟨j, p, q1, q2, e⟩
  · have r := sp_bt_r q1
    obtain ⟨x, x0, x1, ev⟩ := sp_bt_i q1
    have e32 := bt_32 x x1 x0
    rw [← ev] at e32
    refine ⟨by rw [e]; exact r.1, ?_⟩
    rw [e, e32]
    unfold nmo
    rw [if_neg (by omega), ev]
    exact KNN_D hN (by omega)
  · have lj := (List.getElem?_eq_some_iff.mp q1).1
    have ln := (BKS_len h).1
    obtain ⟨a, m, g, n, f, cb, v', ps, B, p1, p2, p3, p4, p5, p6, -⟩ := BKS_F h (j : Int) (by omega) (by omega)
    rw [show ((j : Int)).toNat = j by omega, q1] at p4
    injection p4 with p4
    have vl := (VRG_ne p6).1
    rw [rl_len] at vl
    obtain ⟨_, _, -, -, -, -, -, m6, -⟩ := p2
    have pl : (p.2.1.length : Int) ≤ 6 := by
      rw [p4]
      show (ps.length : Int) ≤ 6
      omega
    rw [e]
    unfold fcl nmo
    refine ⟨by omega, ?_⟩
    rw [show ((17 + (j : Int)) * 32 + (p.2.1.length : Int) * 4 + 2) / 32 = 17 + (j : Int) by omega, if_pos (by omega), show 17 + (j : Int) - 17 = (j : Int) by omega, p5, ← q2, p4]
theorem VRG_li {N N1 : Int → Int} {U : Int} : ∀ (G : List Int) (Vs : List Nat), VRG N U G Vs → (∀ k : Int, 0 ≤ k → k < U → DK N1 k = DK N k) → G.map (fun x => DK N1 (x / 32)) = Vs.map .var
  | [], [], _, _ => rfl
  | [], _ :: _, h, _ => absurd h id
  | _ :: _, [], h, _ => absurd h id
  | x :: G, v :: Vs, h, hD => by
    obtain ⟨⟨k, k0, k1, k2, -⟩, h⟩ := h
    show DK N1 (x / 32) :: G.map _ = .var v :: Vs.map .var
    rw [VRG_li G Vs h hD, k2, show k * 32 / 32 = k by omega, hD k k0.1 k0.2, k1]
end THS
theorem kf_thingX (z : Value) (d c : Nat) (x : Int) (hp : xx_H) (s : KS) (hK : KI c hp s) (hB : KB s) (u : Int) (NM : BKM) (t : List sp_Th) (nf nt : Int) (hS : BKS c hp s NM t u nf nt) (et : s.I 26 = (t.length : Int)) (x0 : -2147483648 ≤ x) (x1 : x ≤ 2147483647) : xx_cl (xt_P z) (d + 4) 58 [.ref (c + 21), .int (iI x)] hp (fun v h1 => ((v = some .null ∧ ¬ (0 ≤ x ∧ x < (t.length : Int))) ∨ ∃ a : Nat, v = some (.ref a) ∧ (0 ≤ x ∧ x < (t.length : Int)) ∧ THX c hp s u NM t x a) ∧ h1 = hp) := by
  have b7 := hB.2.2.2.2.2.2.1
  refine cl_go rfl ?_
  show xx_go (xt_P z) (d + 3) 58 0 [some (.ref (c + 21)), some (.int (iI x))] [] hp _
  refine go_a (pc' := 1) (ls' := [some (.ref (c + 21)), some (.int (iI x))]) (st' := [.int (iI x)]) rfl rfl ?_
  have no : ¬ (0 ≤ x ∧ x < (t.length : Int)) → xx_go (xt_P z) (d + 3) 58 29 [some (.ref (c + 21)), some (.int (iI x))] [] hp (fun v h1 => ((v = some .null ∧ ¬ (0 ≤ x ∧ x < (t.length : Int))) ∨ ∃ a : Nat, v = some (.ref a) ∧ (0 ≤ x ∧ x < (t.length : Int)) ∧ THX c hp s u NM t x a) ∧ h1 = hp) := by
    intro n9
    refine go_a (pc' := 30) (ls' := [some (.ref (c + 21)), some (.int (iI x))]) (st' := [.null]) rfl rfl ?_
    exact go_r rfl rfl rfl rfl rfl rfl ⟨Or.inl ⟨rfl, n9⟩, rfl⟩
  refine mi_lt0 (t := 29) rfl rfl (by omega) (by omega) (fun q => no (by omega)) (fun w1 => ?_)
  refine go_a (pc' := 5) (ls' := [some (.ref (c + 21)), some (.int (iI x))]) (st' := [.int (iI x)]) rfl rfl ?_
  refine go_a (pc' := 6) (ls' := [some (.ref (c + 21)), some (.int (iI x))]) (st' := [.ref (c + 21), .int (iI x)]) rfl rfl ?_
  refine go_get (v := .ref (c + 22)) rfl (hK.1 12 (by decide)) rfl rfl ?_
  refine go_v (m := 47) (as := [.ref (c + 22)]) (r := [.int (iI x)]) rfl rfl rfl (hK.1 13 (by decide)) rfl rfl (kl_size_13 z (d + 2) c hp s hK) (fun v h3 hq => ?_)
  obtain ⟨rfl, e9⟩ := hq
  rw [e9]
  clear e9 h3
  show xx_go (xt_P z) (d + 3) 58 12 [some (.ref (c + 21)), some (.int (iI x))] [.int (iI (s.I 26)), .int (iI x)] hp _
  refine mi_ge (t := 29) rfl rfl (by omega) (by omega) (by omega) (by omega) (fun q => no (by omega)) (fun w2 => ?_)
  obtain ⟨a, ea, TH⟩ := BKS_thX hS x (by omega) (by omega)
  have ca : ∃ fs : List Value, hp[a]? = some (.inr (11, fs)) := by
    obtain ⟨th, -, TH⟩ := TH
    rcases TH with ⟨_, _, _, _, _, _, ⟨_, _, F, _⟩, _⟩ | ⟨_, _, _, _, ⟨_, _, _, F, _⟩, _⟩
    · exact ⟨_, F⟩
    · exact ⟨_, F⟩
  obtain ⟨fs, ca⟩ := ca
  refine go_a (pc' := 16) (ls' := [some (.ref (c + 21)), some (.int (iI x))]) (st' := [.ref (c + 21)]) rfl rfl ?_
  refine go_get (v := .ref (c + 22)) rfl (hK.1 12 (by decide)) rfl rfl ?_
  refine go_a (pc' := 20) (ls' := [some (.ref (c + 21)), some (.int (iI x))]) (st' := [.int (iI x), .ref (c + 22)]) rfl rfl ?_
  refine go_v (m := 217) (as := [.ref (c + 22), .int (iI x)]) (r := []) rfl rfl rfl (hK.1 13 (by decide)) rfl rfl (kl_get_13 z d c x hp s hK hB (by omega) (by omega) a ea) (fun v h3 hq => ?_)
  obtain ⟨rfl, e9⟩ := hq
  rw [e9]
  clear e9 h3
  show xx_go (xt_P z) (d + 3) 58 23 [some (.ref (c + 21)), some (.int (iI x))] [.ref a] hp _
  refine go_cast rfl ca rfl ?_
  refine go_a (pc' := 30) (ls' := [some (.ref (c + 21)), some (.int (iI x))]) (st' := [.ref a]) rfl rfl ?_
  exact go_r rfl rfl rfl rfl rfl rfl ⟨Or.inr ⟨a, rfl, by omega, TH⟩, rfl⟩
theorem kk_tell2X (z : Value) (hz : z = .null ∨ ∃ k, z = .ref k) (d c : Nat) (cc x l : Int) (a : Nat) (hp0 : xx_H) (s0 : Int × Int) (hp : xx_H) (s : KS) (t : List sp_Th) (hI : KIC c hp0 s0 cc hp s t) (h1 : xx_H) (s1 : KS) (K1 : KI c h1 s1) (B1 : KB s1) (C1 : CX s1) (X1 : kx c hp s h1 s1 0 0) (F1 : PFR s s1) (l0 : -2147483648 ≤ l) (l1 : l ≤ 2147483647) (ol : OB s1 l) (Tt : Int) (hT : CP (sp_ln 1 (DK s1.N l)).1 Tt) (hA : TLA t x Tt) : xx_go (xt_P z) (d + 12) 57 98 [some (.ref (c + 0)), some (.int (iI x)), some (.ref a), some (.int (iI l))] [] h1 (fun v h1 => ∃ (b : Int) (s1 : KS), v = some (.int (iI b)) ∧ KIC c hp0 s0 (cc + 1) h1 s1 t ∧ s1.I 20 = s.I 20 ∧ KSM s s1 ∧ s1.A 12 = s.A 12 ∧ TLA t x b) := by
  obtain ⟨⟨NM, W⟩, q1, q2, q3, w, α, β, hw, X, p1, p2, p3⟩ := hI
  have w01 : 0 ≤ w ∧ w ≤ 1 := by rcases hw with ⟨e, -⟩ | e <;> omega
  have W1 := KWS_GF W K1 B1 C1.1 X1 (PFR_G F1) (fun _ => C1.2)
  have P1 := PFR_I F1
  have G1 := (PFR_G F1).2.2.1
  refine go_a (pc' := 99) (ls' := [some (.ref (c + 0)), some (.int (iI x)), some (.ref a), some (.int (iI l))]) (st' := [.ref (c + 0)]) rfl rfl ?_
  refine go_get (v := .ref (c + 16)) rfl (K1.1 0 (by decide)) rfl rfl ?_
  refine go_v (m := 38) (as := [.ref (c + 16)]) (r := []) rfl rfl rfl (K1.1 9 (by decide)) rfl rfl (ke_clear z (d + 10) c h1 s1 K1 B1) (fun v h2 hq => ?_)
  obtain ⟨rfl, K2, B2, X2⟩ := hq
  have W2 : KWS c h2 (s1.wI 4 0) NM t cc := KWS_fr W1 K2 B2 (KSA_CI (s := s1) ⟨rfl, rfl, rfl⟩ C1.1) X2 rfl (fun _ _ => ⟨rfl, rfl⟩) (fun j hj => su_ne (by omega)) W1.2.2.2.2.2.2.2.2.1 W1.2.2.2.2.2.2.2.2.2.2.1 (fun q => KQ_e (s := s1) rfl rfl rfl rfl rfl q) (fun _ _ => rfl)
  show xx_go (xt_P z) (d + 12) 57 105 [some (.ref (c + 0)), some (.int (iI x)), some (.ref a), some (.int (iI l))] [] h2 _
  refine go_a (pc' := 106) (ls' := [some (.ref (c + 0)), some (.int (iI x)), some (.ref a), some (.int (iI l))]) (st' := [.ref (c + 0)]) rfl rfl ?_
  refine go_get (v := .ref (c + 16)) rfl (K2.1 0 (by decide)) rfl rfl ?_
  refine go_a (pc' := 110) (ls' := [some (.ref (c + 0)), some (.int (iI x)), some (.ref a), some (.int (iI l))]) (st' := [.int (iI l), .ref (c + 16)]) rfl rfl ?_
  have hX2 : KX (s1.wI 4 0) := ⟨W2.2.2.1, W2.2.2.2.2.2.2.2.2.2.2.2.1.1⟩
  refine go_v (m := 308) (as := [.ref (c + 16), .int (iI l)]) (r := []) rfl rfl rfl (K2.1 9 (by decide)) rfl rfl (ke_tellObjectX z hz (d + 1) c l Tt h2 (s1.wI 4 0) K2 B2 W2.2.2.1 W2.2.2.2.1 (by show (0 : Int) ≤ 2000; decide) l0 l1 hX2 (KX_ST2 B2 hX2 W2.2.2.2.2.2.2.2.2.2.2.2.2.1) ⟨ol.1, show l < s1.I 8 from ol.2⟩ (by show (0 : Int) ≤ 0; decide) (by show CP (0 + (sp_ln 1 (DK s1.N l)).1) Tt; rw [Int.zero_add]; exact hT)) (fun v h3 hq => ?_)
  obtain ⟨rfl, s3, K3, B3, X3, F3, l3, l9⟩ := hq
  have W3 := KWS_tl W2 K3 B3 X3 F3
  show xx_go (xt_P z) (d + 12) 57 113 [some (.ref (c + 0)), some (.int (iI x)), some (.ref a), some (.int (iI l))] [] h3 _
  refine go_a (pc' := 114) (ls' := [some (.ref (c + 0)), some (.int (iI x)), some (.ref a), some (.int (iI l))]) (st' := [.ref (c + 0)]) rfl rfl ?_
  refine go_get (v := .ref (c + 4)) rfl (K3.1 0 (by decide)) rfl rfl ?_
  refine go_a (pc' := 118) (ls' := [some (.ref (c + 0)), some (.int (iI x)), some (.ref a), some (.int (iI l))]) (st' := [.ref (c + 0), .ref (c + 4)]) rfl rfl ?_
  refine go_get (v := .int (iI (s3.I 24))) rfl (K3.1 0 (by decide)) rfl rfl ?_
  have n24 := BKS_nn W3.2.2.2.2.1
  have m24 := W3.2.2.2.2.2.2.2.2.1
  have b24 := B3.2.1 24
  refine go_v (m := 49) (as := [.ref (c + 4), .int (iI (s3.I 24))]) (r := []) rfl rfl rfl (K3.1 3 (by decide)) rfl rfl (kz_release z (d + 10) c (s3.I 24) h3 s3 K3 B3 W3.2.2.2.2.2.2.2.2.2.2.2.1.1 (by omega) (by omega)) (fun v h8 hq => ?_)
  obtain ⟨rfl, u8, s8, K8, B8, X8, F8, u1, u2, u3, ch8⟩ := hq
  obtain ⟨W8, e8, i8⟩ := KWS_rl W3 K8 B8 X8 F8 (u3 m24 (by omega)) ch8
  show xx_go (xt_P z) (d + 12) 57 124 [some (.ref (c + 0)), some (.int (iI x)), some (.ref a), some (.int (iI l))] [] h8 _
  refine go_a (pc' := 125) (ls' := [some (.ref (c + 0)), some (.int (iI x)), some (.ref a), some (.int (iI l))]) (st' := [.ref (c + 0)]) rfl rfl ?_
  refine go_get (v := .ref (c + 16)) rfl (K8.1 0 (by decide)) rfl rfl ?_
  refine go_v (m := 54) (as := [.ref (c + 16)]) (r := []) rfl rfl rfl (K8.1 9 (by decide)) rfl rfl (ke_length z (d + 10) c h8 s8 K8) (fun v h3 hq => ?_)
  obtain ⟨rfl, e9⟩ := hq
  rw [e9]
  clear e9 h3
  show xx_go (xt_P z) (d + 12) 57 131 [some (.ref (c + 0)), some (.int (iI x)), some (.ref a), some (.int (iI l))] [.int (iI (s8.I 4))] h8 _
  have FR : ∀ j : Nat, (j ≤ 3 ∨ j = 20 ∨ j = 24) → s8.I j = s.I j := fun j hj => by
    rw [i8 j (by omega), F3.2.2.2 j (by omega) (by omega)]
    show su s1.I 4 0 j = _
    rw [su_ne (by omega)]
    exact G1 j (by omega)
  have FA : ∀ j : Nat, (j = 0 ∨ j = 12) → s8.A j = s.A j := fun j hj => by
    rw [F8.2.2.2.2.2 j (by omega), (F3.2.2.1 j (by omega) (by omega)).1]
    exact (F1.2.1 j (by omega)).1
  have FR2 : ∀ j : Nat, (j = 22 ∨ j = 23) → s8.I j = s1.I j := fun j hj => by
    rw [i8 j (by omega), F3.2.2.2 j (by omega) (by omega)]
    show su s1.I 4 0 j = _
    rw [su_ne (by omega)]
  have e0 := FR 0 (by decide)
  have e24 := FR 24 (by decide)
  have nz : NZ (s8.A 0) (s8.I 0).toNat = NZ (s.A 0) (s.I 0).toNat := by rw [FA 0 (by decide), e0]
  have l4 : s8.I 4 ≤ 2000 := by rw [i8 4 (by decide)]; exact l3
  have KK : KIC c hp0 s0 (cc + 1) h8 s8 t := by
    refine ⟨⟨NM, KWS_k W8 (by omega)⟩, e8, ⟨fun e e1 e2 => ?_, by omega⟩, l4, w, α + (0 + 0 + 0 + 0), β + (0 + 0 + 0 + 0), ?_, KXN_tr X (kx_tr (kx_tr (kx_tr X1 X2) X3) X8), by omega, by omega, by omega⟩
    · rw [FA 0 (by decide)]
      exact q2.1 e e1 (by omega)
    · rcases hw with ⟨w0, hz⟩ | w0
      · refine Or.inl ⟨w0, ?_⟩
        unfold W5
        rw [FA 12 (by decide)]
        exact hz
      · exact Or.inr w0
  exact go_r rfl rfl rfl rfl rfl rfl ⟨_, s8, rfl, KK, FR 20 (by decide), ⟨e0, fun e _ => by rw [FA 0 (by decide)], (FR2 22 (by decide)).trans P1.1, (FR2 23 (by decide)).trans P1.2⟩, FA 12 (by decide), by rw [i8 4 (by decide), l9]; exact hA⟩
theorem kk_tellX (z : Value) (hz : z = .null ∨ ∃ k, z = .ref k) (d c : Nat) (cc x : Int) (hp0 : xx_H) (s0 : Int × Int) (hp : xx_H) (s : KS) (t : List sp_Th) (hI : KIC c hp0 s0 cc hp s t) (hc : cc ≤ 512) (x0 : -2147483648 ≤ x) (x1 : x ≤ 2147483647) : xx_cl (xt_P z) (d + 13) 57 [.ref (c + 0), .int (iI x)] hp (fun v h1 => ∃ (b : Int) (s1 : KS), v = some (.int (iI b)) ∧ KIC c hp0 s0 (cc + 1) h1 s1 t ∧ s1.I 20 = s.I 20 ∧ KSM s s1 ∧ s1.A 12 = s.A 12 ∧ TLA t x b) := by
  have hb := KIC_b hI hc
  obtain ⟨⟨NM, W⟩, q1, -⟩ := id hI
  have CX0 : CX s := ⟨W.2.2.1, W.2.2.2.2.2.2.2.2.2.2.2.1⟩
  have hB := W.2.1
  have u38 := KB_38 hB
  have bF := BKS_BF W.2.2.2.2.1 W.2.2.2.2.2.2.2.2.1 rfl
  refine cl_go rfl ?_
  show xx_go (xt_P z) (d + 12) 57 0 [some (.ref (c + 0)), some (.int (iI x)), none, none] [] hp _
  refine go_a (pc' := 1) (ls' := [some (.ref (c + 0)), some (.int (iI x)), none, none]) (st' := [.ref (c + 0)]) rfl rfl ?_
  refine go_get (v := .ref (c + 21)) rfl (W.1.1 0 (by decide)) rfl rfl ?_
  refine go_a (pc' := 5) (ls' := [some (.ref (c + 0)), some (.int (iI x)), none, none]) (st' := [.int (iI x), .ref (c + 21)]) rfl rfl ?_
  refine go_v (m := 58) (as := [.ref (c + 21), .int (iI x)]) (r := []) rfl rfl rfl (W.1.1 12 (by decide)) rfl rfl (kf_thingX z (d + 8) c x hp s W.1 hB (s.I 24) NM t (s.I 27) (s.I 28) W.2.2.2.2.1 W.2.2.2.2.2.1 x0 x1) (fun v h1 hq => ?_)
  obtain ⟨hq, e9⟩ := hq
  rw [e9]
  clear e9 h1
  rcases hq with ⟨rfl, nx⟩ | ⟨a, rfl, xr, th, eth, ⟨i, m, gg, n, f, cb, TH, v9, ps, Bx, rfl, dv, VG, TB⟩ | ⟨nm, n, f, cb, TH, v9, Bx, rfl, dv, TB⟩⟩
  · show xx_go (xt_P z) (d + 12) 57 8 [some (.ref (c + 0)), some (.int (iI x)), none, none] [.null] hp _
    refine go_a (pc' := 9) (ls' := [some (.ref (c + 0)), some (.int (iI x)), some (.null), none]) (st' := []) rfl rfl ?_
    refine go_a (pc' := 10) (ls' := [some (.ref (c + 0)), some (.int (iI x)), some (.null), none]) (st' := [.null]) rfl rfl ?_
    refine go_a (pc' := 13) (ls' := [some (.ref (c + 0)), some (.int (iI x)), some (.null), none]) (st' := []) rfl rfl ?_
    refine go_a (pc' := 14) (ls' := [some (.ref (c + 0)), some (.int (iI x)), some (.null), none]) (st' := [.int (iI ((-1)))]) rfl rfl ?_
    exact go_r rfl rfl rfl rfl rfl rfl ⟨-1, s, rfl, KIC_1 hI, rfl, KSM_rf, rfl, Or.inl ⟨nx, rfl⟩⟩
  · show xx_go (xt_P z) (d + 12) 57 8 [some (.ref (c + 0)), some (.int (iI x)), none, none] [.ref a] hp _
    rw [← q1] at TH
    have TH0 := TH
    obtain ⟨pq0, ta0, ca0, ka0, cA0, kA0, cT0, cm0, cn0, ck0, cg0, cl0, cc0⟩ := id TH0
    have nb := TM_n cT0
    have nR := cn0
    have fr : 0 ≤ fcl i m ∧ fcl i m ≤ 2147483647 := ⟨by unfold fcl; omega, by unfold fcl; omega⟩
    have hN : KNN s := W.2.2.2.2.2.2.2.2.2.2.2.2.1
    have bo := bfo_1 (NMO_ft W.2.2.2.2.1 hN) TB
    refine go_a (pc' := 9) (ls' := [some (.ref (c + 0)), some (.int (iI x)), some (.ref a), none]) (st' := []) rfl rfl ?_
    refine go_a (pc' := 10) (ls' := [some (.ref (c + 0)), some (.int (iI x)), some (.ref a), none]) (st' := [.ref a]) rfl rfl ?_
    refine go_a (pc' := 15) (ls' := [some (.ref (c + 0)), some (.int (iI x)), some (.ref a), none]) (st' := []) rfl rfl ?_
    refine go_a (pc' := 16) (ls' := [some (.ref (c + 0)), some (.int (iI x)), some (.ref a), none]) (st' := [.ref (c + 0)]) rfl rfl ?_
    refine go_get (v := .ref (c + 4)) rfl (W.1.1 0 (by decide)) rfl rfl ?_
    refine go_a (pc' := 20) (ls' := [some (.ref (c + 0)), some (.int (iI x)), some (.ref a), none]) (st' := [.ref (c + 0), .ref (c + 4)]) rfl rfl ?_
    refine go_get (v := .ref (c + 25)) rfl (W.1.1 0 (by decide)) rfl rfl ?_
    refine go_a (pc' := 24) (ls' := [some (.ref (c + 0)), some (.int (iI x)), some (.ref a), none]) (st' := [.ref a, .ref (c + 25), .ref (c + 4)]) rfl rfl ?_
    refine go_get (v := .ref ta0) rfl ca0 rfl rfl ?_
    refine go_v (m := 298) (as := [.ref (c + 25), .ref ta0]) (r := [.ref (c + 4)]) rfl rfl rfl (W.1.1 16 (by decide)) rfl rfl (kg_objectX z (d + 5) c ta0 n (s.I 8) f hp s W.1 hB CX0 NM bF (by omega) (Int.le_refl _) (by omega) cT0 hN Bx [] bo.1 bo.2) (fun v h1 hq => ?_)
    obtain ⟨y1, s1, rfl, K1, B1, C1, X1, F1, l1, O1, dy1⟩ := hq
    have TH1 := FTH_kx TH X1 (Int.le_refl _)
    obtain ⟨pq1, ta1, ca1, ka1, cA1, kA1, cT1, cm1, cn1, ck1, cg1, cl1, cc1⟩ := id TH1
    show xx_go (xt_P z) (d + 12) 57 30 [some (.ref (c + 0)), some (.int (iI x)), some (.ref a), none] [.int (iI y1), .ref (c + 4)] h1 _
    refine go_a (pc' := 31) (ls' := [some (.ref (c + 0)), some (.int (iI x)), some (.ref a), none]) (st' := [.int (iI 0), .int (iI y1), .ref (c + 4)]) rfl rfl ?_
    have z1 : OB s1 0 := ⟨by decide, by have := KB_38 B1; omega⟩
    refine go_v (m := 194) (as := [.ref (c + 4), .int (iI y1), .int (iI 0)]) (r := []) rfl rfl rfl (K1.1 3 (by decide)) rfl rfl (kc_pairX z (d + 9) c (y1) (0) h1 s1 K1 B1 C1 (by omega) O1.1 O1.2 z1.1 z1.2) (fun v h2 hq => ?_)
    obtain ⟨y2, s2, rfl, K2, B2, C2, Xn2, G2, O2, -, D2⟩ := hq
    have X2 := kx_w (kx_tr X1 Xn2) (show (0 : Int) + 0 ≤ 0 by decide) (show (0 : Int) + 0 ≤ 0 by decide)
    have F2 := PFR_tr F1 (KGR_P G2)
    have m2 := G2.2.2.1
    have g2 := G2.2.1
    have TH2 := FTH_kx TH X2 (Int.le_refl _)
    obtain ⟨pq2, ta2, ca2, ka2, cA2, kA2, cT2, cm2, cn2, ck2, cg2, cl2, cc2⟩ := id TH2
    show xx_go (xt_P z) (d + 12) 57 34 [some (.ref (c + 0)), some (.int (iI x)), some (.ref a), none] [.int (iI y2)] h2 _
    refine go_a (pc' := 35) (ls' := [some (.ref (c + 0)), some (.int (iI x)), some (.ref a), some (.int (iI y2))]) (st' := []) rfl rfl ?_
    refine go_a (pc' := 36) (ls' := [some (.ref (c + 0)), some (.int (iI x)), some (.ref a), some (.int (iI y2))]) (st' := [.ref a]) rfl rfl ?_
    refine go_v (m := 241) (as := [.ref a]) (r := []) rfl rfl rfl ca2 rfl rfl (kf_isFunction z (d + 11) a (fcl i m) _ _ _ _ h2 ca2 (by omega) (by omega)) (fun v h9 hq => ?_)
    obtain ⟨hq, e9⟩ := hq
    rw [e9]
    clear e9 h9
    obtain rfl : v = some (.int (iI 1)) := by
      rcases hq with ⟨w, r⟩ | ⟨w, r⟩
      · exact r
      · exact absurd w (by omega)
    clear hq
    show xx_go (xt_P z) (d + 12) 57 39 [some (.ref (c + 0)), some (.int (iI x)), some (.ref a), some (.int (iI y2))] [.int (iI 1)] h2 _
    refine mi_eq0 (t := 62) rfl rfl (by omega) (by omega) (fun q => absurd q (by decide)) (fun _ => ?_)
    refine go_a (pc' := 43) (ls' := [some (.ref (c + 0)), some (.int (iI x)), some (.ref a), some (.int (iI y2))]) (st' := [.ref (c + 0)]) rfl rfl ?_
    refine go_get (v := .ref (c + 4)) rfl (K2.1 0 (by decide)) rfl rfl ?_
    refine go_a (pc' := 47) (ls' := [some (.ref (c + 0)), some (.int (iI x)), some (.ref a), some (.int (iI y2))]) (st' := [.ref (c + 0), .ref (c + 4)]) rfl rfl ?_
    refine go_get (v := .ref (c + 25)) rfl (K2.1 0 (by decide)) rfl rfl ?_
    refine go_a (pc' := 51) (ls' := [some (.ref (c + 0)), some (.int (iI x)), some (.ref a), some (.int (iI y2))]) (st' := [.ref a, .ref (c + 25), .ref (c + 4)]) rfl rfl ?_
    refine go_get (v := .ref pq2) rfl ca2 rfl rfl ?_
    refine go_v (m := 316) (as := [.ref (c + 25), .ref pq2]) (r := [.ref (c + 4)]) rfl rfl rfl (K2.1 16 (by decide)) rfl rfl (kg_vlistX z (d + 7) c pq2 (s.I 8) m gg h2 s2 K2 B2 C2 (by omega) (by have := F2.2.2.2.1; omega) (by omega) cA2 kA2 (fun i i0 i1 => (cg2 i i0 i1).1) (KNN_P hB hN F2)) (fun v h3 hq => ?_)
    obtain ⟨y3, s3, rfl, K3, B3, C3, Xn3, Fn3, l3, O3, D3⟩ := hq
    have X3 := kx_w (kx_tr X2 Xn3) (show (0 : Int) + 0 ≤ 0 by decide) (show (0 : Int) + 0 ≤ 0 by decide)
    have F3 := PFR_tr F2 Fn3
    have O23 := PFR_OB Fn3 O2
    have TH3 := FTH_kx TH X3 (Int.le_refl _)
    obtain ⟨pq3, ta3, ca3, ka3, cA3, kA3, cT3, cm3, cn3, ck3, cg3, cl3, cc3⟩ := id TH3
    show xx_go (xt_P z) (d + 12) 57 57 [some (.ref (c + 0)), some (.int (iI x)), some (.ref a), some (.int (iI y2))] [.int (iI y3), .ref (c + 4)] h3 _
    refine go_a (pc' := 58) (ls' := [some (.ref (c + 0)), some (.int (iI x)), some (.ref a), some (.int (iI y2))]) (st' := [.int (iI y2), .int (iI y3), .ref (c + 4)]) rfl rfl ?_
    refine go_v (m := 194) (as := [.ref (c + 4), .int (iI y3), .int (iI y2)]) (r := []) rfl rfl rfl (K3.1 3 (by decide)) rfl rfl (kc_pairX z (d + 9) c (y3) (y2) h3 s3 K3 B3 C3 (by omega) O3.1 O3.2 O23.1 O23.2) (fun v h4 hq => ?_)
    obtain ⟨y4, s4, rfl, K4, B4, C4, Xn4, G4, O4, -, D4⟩ := hq
    have X4 := kx_w (kx_tr X3 Xn4) (show (0 : Int) + 0 ≤ 0 by decide) (show (0 : Int) + 0 ≤ 0 by decide)
    have F4 := PFR_tr F3 (KGR_P G4)
    have m4 := G4.2.2.1
    have g4 := G4.2.1
    have TH4 := FTH_kx TH X4 (Int.le_refl _)
    obtain ⟨pq4, ta4, ca4, ka4, cA4, kA4, cT4, cm4, cn4, ck4, cg4, cl4, cc4⟩ := id TH4
    show xx_go (xt_P z) (d + 12) 57 61 [some (.ref (c + 0)), some (.int (iI x)), some (.ref a), some (.int (iI y2))] [.int (iI y4)] h4 _
    refine go_a (pc' := 62) (ls' := [some (.ref (c + 0)), some (.int (iI x)), some (.ref a), some (.int (iI y4))]) (st' := []) rfl rfl ?_
    refine go_a (pc' := 63) (ls' := [some (.ref (c + 0)), some (.int (iI x)), some (.ref a), some (.int (iI y4))]) (st' := [.ref (c + 0)]) rfl rfl ?_
    refine go_get (v := .ref (c + 4)) rfl (K4.1 0 (by decide)) rfl rfl ?_
    refine go_a (pc' := 67) (ls' := [some (.ref (c + 0)), some (.int (iI x)), some (.ref a), some (.int (iI y4))]) (st' := [.ref a, .ref (c + 4)]) rfl rfl ?_
    refine go_get (v := .int (iI ((NM.1 i).1))) rfl ca4 rfl rfl ?_
    refine go_a (pc' := 71) (ls' := [some (.ref (c + 0)), some (.int (iI x)), some (.ref a), some (.int (iI y4))]) (st' := [.int (iI y4), .int (iI ((NM.1 i).1)), .ref (c + 4)]) rfl rfl ?_
    have on : OB s4 ((NM.1 i).1) := ⟨by omega, by have := F4.2.2.2.1; omega⟩
    refine go_v (m := 194) (as := [.ref (c + 4), .int (iI ((NM.1 i).1)), .int (iI y4)]) (r := []) rfl rfl rfl (K4.1 3 (by decide)) rfl rfl (kc_pairX z (d + 9) c ((NM.1 i).1) (y4) h4 s4 K4 B4 C4 (by omega) on.1 on.2 O4.1 O4.2) (fun v h5 hq => ?_)
    obtain ⟨y5, s5, rfl, K5, B5, C5, Xn5, G5, O5, -, D5⟩ := hq
    have X5 := kx_w (kx_tr X4 Xn5) (show (0 : Int) + 0 ≤ 0 by decide) (show (0 : Int) + 0 ≤ 0 by decide)
    have F5 := PFR_tr F4 (KGR_P G5)
    have m5 := G5.2.2.1
    have g5 := G5.2.1
    have TH5 := FTH_kx TH X5 (Int.le_refl _)
    obtain ⟨pq5, ta5, ca5, ka5, cA5, kA5, cT5, cm5, cn5, ck5, cg5, cl5, cc5⟩ := id TH5
    show xx_go (xt_P z) (d + 12) 57 74 [some (.ref (c + 0)), some (.int (iI x)), some (.ref a), some (.int (iI y4))] [.int (iI y5)] h5 _
    refine go_a (pc' := 75) (ls' := [some (.ref (c + 0)), some (.int (iI x)), some (.ref a), some (.int (iI y5))]) (st' := []) rfl rfl ?_
    refine go_a (pc' := 76) (ls' := [some (.ref (c + 0)), some (.int (iI x)), some (.ref a), some (.int (iI y5))]) (st' := [.ref (c + 0)]) rfl rfl ?_
    refine go_get (v := .ref (c + 4)) rfl (K5.1 0 (by decide)) rfl rfl ?_
    refine go_a (pc' := 80) (ls' := [some (.ref (c + 0)), some (.int (iI x)), some (.ref a), some (.int (iI y5))]) (st' := [.ref a, .ref (c + 4)]) rfl rfl ?_
    refine go_v (m := 241) (as := [.ref a]) (r := [.ref (c + 4)]) rfl rfl rfl ca5 rfl rfl (kf_isFunction z (d + 11) a (fcl i m) _ _ _ _ h5 ca5 (by omega) (by omega)) (fun v h9 hq => ?_)
    obtain ⟨hq, e9⟩ := hq
    rw [e9]
    clear e9 h9
    obtain rfl : v = some (.int (iI 1)) := by
      rcases hq with ⟨w, r⟩ | ⟨w, r⟩
      · exact r
      · exact absurd w (by omega)
    clear hq
    show xx_go (xt_P z) (d + 12) 57 83 [some (.ref (c + 0)), some (.int (iI x)), some (.ref a), some (.int (iI y5))] [.int (iI 1), .ref (c + 4)] h5 _
    refine mi_eq0 (t := 91) rfl rfl (by omega) (by omega) (fun q => absurd q (by decide)) (fun _ => ?_)
    refine go_a (pc' := 88) (ls' := [some (.ref (c + 0)), some (.int (iI x)), some (.ref a), some (.int (iI y5))]) (st' := [.int (iI 17), .ref (c + 4)]) rfl rfl ?_
    refine go_a (pc' := 93) (ls' := [some (.ref (c + 0)), some (.int (iI x)), some (.ref a), some (.int (iI y5))]) (st' := [.int (iI 17), .ref (c + 4)]) rfl rfl ?_
    refine go_a (pc' := 94) (ls' := [some (.ref (c + 0)), some (.int (iI x)), some (.ref a), some (.int (iI y5))]) (st' := [.int (iI y5), .int (iI 17), .ref (c + 4)]) rfl rfl ?_
    have ok : OB s5 17 := ⟨by decide, by have := KB_38 B5; omega⟩
    refine go_v (m := 194) (as := [.ref (c + 4), .int (iI 17), .int (iI y5)]) (r := []) rfl rfl rfl (K5.1 3 (by decide)) rfl rfl (kc_pairX z (d + 9) c 17 y5 h5 s5 K5 B5 C5 (by omega) ok.1 ok.2 O5.1 O5.2) (fun v h9 hq => ?_)
    obtain ⟨y9, s9, rfl, K9, B9, C9, Xn9, G9, O9, -, D9⟩ := hq
    have X9 := kx_w (kx_tr X5 Xn9) (show (0 : Int) + 0 ≤ 0 by decide) (show (0 : Int) + 0 ≤ 0 by decide)
    have F9 := PFR_tr F5 (KGR_P G9)
    show xx_go (xt_P z) (d + 12) 57 97 [some (.ref (c + 0)), some (.int (iI x)), some (.ref a), some (.int (iI y5))] [.int (iI y9)] h9 _
    refine go_a (pc' := 98) (ls' := [some (.ref (c + 0)), some (.int (iI x)), some (.ref a), some (.int (iI y9))]) (st' := []) rfl rfl ?_
    have oR := OB_R B9 O9
    have d0 : DK s1.N 0 = .var 31361 := KNN_D (KNN_P hB hN F1) (i := 0) (by decide)
    have dk : DK s5.N 17 = .var 20052094 := KNN_D (KNN_P hB hN F5) (i := 17) (by decide)
    have dn : DK s4.N (NM.1 i).1 = .var v9 := (PFR_D hB CX0 F4 ⟨by omega, by omega⟩).trans dv
    have vl : (rl m gg).map (fun x => DK s2.N (x / 32)) = ps.map .var := VRG_li _ _ VG (fun k k0 k1 => PFR_D hB CX0 F2 ⟨k0, by omega⟩)
    have dx : DK s9.N y9 = sp_tx (v9, some ps, Bx) := by
      rw [D9, D5, D4, D3, PFR_D B2 C2 Fn3 O2, D2, dy1, dk, dn, d0, vl]
      rfl
    obtain ⟨Tt, hTt⟩ := CP_ex (sp_ln 1 (DK s9.N y9)).1
    exact kk_tell2X z hz d c cc x y9 a hp0 s0 hp s t hI h9 s9 K9 B9 C9 X9 F9 oR.1 oR.2 O9 Tt hTt (Or.inr ⟨xr, _, eth, by rw [← dx]; exact hTt⟩)
  · show xx_go (xt_P z) (d + 12) 57 8 [some (.ref (c + 0)), some (.int (iI x)), none, none] [.ref a] hp _
    rw [← q1] at TH
    have TH0 := TH
    obtain ⟨pq0, ta0, gz0, ca0, ka0, cA0, kA0, cT0, cn0, cc0⟩ := id TH0
    have nb := TM_n cT0
    have nR := cn0
    have fr : (-2147483648 : Int) ≤ -1 := by decide
    have hN : KNN s := W.2.2.2.2.2.2.2.2.2.2.2.2.1
    have bo := bfo_1 (NMO_ft W.2.2.2.2.1 hN) TB
    refine go_a (pc' := 9) (ls' := [some (.ref (c + 0)), some (.int (iI x)), some (.ref a), none]) (st' := []) rfl rfl ?_
    refine go_a (pc' := 10) (ls' := [some (.ref (c + 0)), some (.int (iI x)), some (.ref a), none]) (st' := [.ref a]) rfl rfl ?_
    refine go_a (pc' := 15) (ls' := [some (.ref (c + 0)), some (.int (iI x)), some (.ref a), none]) (st' := []) rfl rfl ?_
    refine go_a (pc' := 16) (ls' := [some (.ref (c + 0)), some (.int (iI x)), some (.ref a), none]) (st' := [.ref (c + 0)]) rfl rfl ?_
    refine go_get (v := .ref (c + 4)) rfl (W.1.1 0 (by decide)) rfl rfl ?_
    refine go_a (pc' := 20) (ls' := [some (.ref (c + 0)), some (.int (iI x)), some (.ref a), none]) (st' := [.ref (c + 0), .ref (c + 4)]) rfl rfl ?_
    refine go_get (v := .ref (c + 25)) rfl (W.1.1 0 (by decide)) rfl rfl ?_
    refine go_a (pc' := 24) (ls' := [some (.ref (c + 0)), some (.int (iI x)), some (.ref a), none]) (st' := [.ref a, .ref (c + 25), .ref (c + 4)]) rfl rfl ?_
    refine go_get (v := .ref ta0) rfl ca0 rfl rfl ?_
    refine go_v (m := 298) (as := [.ref (c + 25), .ref ta0]) (r := [.ref (c + 4)]) rfl rfl rfl (W.1.1 16 (by decide)) rfl rfl (kg_objectX z (d + 5) c ta0 n (s.I 8) f hp s W.1 hB CX0 NM bF (by omega) (Int.le_refl _) (by omega) cT0 hN Bx [] bo.1 bo.2) (fun v h1 hq => ?_)
    obtain ⟨y1, s1, rfl, K1, B1, C1, X1, F1, l1, O1, dy1⟩ := hq
    have TH1 := TTH_kx TH X1 (Int.le_refl _)
    obtain ⟨pq1, ta1, gz1, ca1, ka1, cA1, kA1, cT1, cn1, cc1⟩ := id TH1
    show xx_go (xt_P z) (d + 12) 57 30 [some (.ref (c + 0)), some (.int (iI x)), some (.ref a), none] [.int (iI y1), .ref (c + 4)] h1 _
    refine go_a (pc' := 31) (ls' := [some (.ref (c + 0)), some (.int (iI x)), some (.ref a), none]) (st' := [.int (iI 0), .int (iI y1), .ref (c + 4)]) rfl rfl ?_
    have z1 : OB s1 0 := ⟨by decide, by have := KB_38 B1; omega⟩
    refine go_v (m := 194) (as := [.ref (c + 4), .int (iI y1), .int (iI 0)]) (r := []) rfl rfl rfl (K1.1 3 (by decide)) rfl rfl (kc_pairX z (d + 9) c (y1) (0) h1 s1 K1 B1 C1 (by omega) O1.1 O1.2 z1.1 z1.2) (fun v h2 hq => ?_)
    obtain ⟨y2, s2, rfl, K2, B2, C2, Xn2, G2, O2, -, D2⟩ := hq
    have X2 := kx_w (kx_tr X1 Xn2) (show (0 : Int) + 0 ≤ 0 by decide) (show (0 : Int) + 0 ≤ 0 by decide)
    have F2 := PFR_tr F1 (KGR_P G2)
    have m2 := G2.2.2.1
    have g2 := G2.2.1
    have TH2 := TTH_kx TH X2 (Int.le_refl _)
    obtain ⟨pq2, ta2, gz2, ca2, ka2, cA2, kA2, cT2, cn2, cc2⟩ := id TH2
    show xx_go (xt_P z) (d + 12) 57 34 [some (.ref (c + 0)), some (.int (iI x)), some (.ref a), none] [.int (iI y2)] h2 _
    refine go_a (pc' := 35) (ls' := [some (.ref (c + 0)), some (.int (iI x)), some (.ref a), some (.int (iI y2))]) (st' := []) rfl rfl ?_
    refine go_a (pc' := 36) (ls' := [some (.ref (c + 0)), some (.int (iI x)), some (.ref a), some (.int (iI y2))]) (st' := [.ref a]) rfl rfl ?_
    refine go_v (m := 241) (as := [.ref a]) (r := []) rfl rfl rfl ca2 rfl rfl (kf_isFunction z (d + 11) a ((-1)) _ _ _ _ h2 ca2 (by omega) (by omega)) (fun v h9 hq => ?_)
    obtain ⟨hq, e9⟩ := hq
    rw [e9]
    clear e9 h9
    obtain rfl : v = some (.int (iI 0)) := by
      rcases hq with ⟨w, r⟩ | ⟨w, r⟩
      · exact absurd rfl w
      · exact r
    clear hq
    show xx_go (xt_P z) (d + 12) 57 39 [some (.ref (c + 0)), some (.int (iI x)), some (.ref a), some (.int (iI y2))] [.int (iI 0)] h2 _
    refine mi_eq0 (t := 62) rfl rfl (by omega) (by omega) (fun _ => ?_) (fun q => absurd rfl q)
    refine go_a (pc' := 63) (ls' := [some (.ref (c + 0)), some (.int (iI x)), some (.ref a), some (.int (iI y2))]) (st' := [.ref (c + 0)]) rfl rfl ?_
    refine go_get (v := .ref (c + 4)) rfl (K2.1 0 (by decide)) rfl rfl ?_
    refine go_a (pc' := 67) (ls' := [some (.ref (c + 0)), some (.int (iI x)), some (.ref a), some (.int (iI y2))]) (st' := [.ref a, .ref (c + 4)]) rfl rfl ?_
    refine go_get (v := .int (iI nm)) rfl ca2 rfl rfl ?_
    refine go_a (pc' := 71) (ls' := [some (.ref (c + 0)), some (.int (iI x)), some (.ref a), some (.int (iI y2))]) (st' := [.int (iI y2), .int (iI nm), .ref (c + 4)]) rfl rfl ?_
    have on : OB s2 (nm) := ⟨by omega, by have := F2.2.2.2.1; omega⟩
    refine go_v (m := 194) (as := [.ref (c + 4), .int (iI nm), .int (iI y2)]) (r := []) rfl rfl rfl (K2.1 3 (by decide)) rfl rfl (kc_pairX z (d + 9) c (nm) (y2) h2 s2 K2 B2 C2 (by omega) on.1 on.2 O2.1 O2.2) (fun v h3 hq => ?_)
    obtain ⟨y3, s3, rfl, K3, B3, C3, Xn3, G3, O3, -, D3⟩ := hq
    have X3 := kx_w (kx_tr X2 Xn3) (show (0 : Int) + 0 ≤ 0 by decide) (show (0 : Int) + 0 ≤ 0 by decide)
    have F3 := PFR_tr F2 (KGR_P G3)
    have m3 := G3.2.2.1
    have g3 := G3.2.1
    have TH3 := TTH_kx TH X3 (Int.le_refl _)
    obtain ⟨pq3, ta3, gz3, ca3, ka3, cA3, kA3, cT3, cn3, cc3⟩ := id TH3
    show xx_go (xt_P z) (d + 12) 57 74 [some (.ref (c + 0)), some (.int (iI x)), some (.ref a), some (.int (iI y2))] [.int (iI y3)] h3 _
    refine go_a (pc' := 75) (ls' := [some (.ref (c + 0)), some (.int (iI x)), some (.ref a), some (.int (iI y3))]) (st' := []) rfl rfl ?_
    refine go_a (pc' := 76) (ls' := [some (.ref (c + 0)), some (.int (iI x)), some (.ref a), some (.int (iI y3))]) (st' := [.ref (c + 0)]) rfl rfl ?_
    refine go_get (v := .ref (c + 4)) rfl (K3.1 0 (by decide)) rfl rfl ?_
    refine go_a (pc' := 80) (ls' := [some (.ref (c + 0)), some (.int (iI x)), some (.ref a), some (.int (iI y3))]) (st' := [.ref a, .ref (c + 4)]) rfl rfl ?_
    refine go_v (m := 241) (as := [.ref a]) (r := [.ref (c + 4)]) rfl rfl rfl ca3 rfl rfl (kf_isFunction z (d + 11) a ((-1)) _ _ _ _ h3 ca3 (by omega) (by omega)) (fun v h9 hq => ?_)
    obtain ⟨hq, e9⟩ := hq
    rw [e9]
    clear e9 h9
    obtain rfl : v = some (.int (iI 0)) := by
      rcases hq with ⟨w, r⟩ | ⟨w, r⟩
      · exact absurd rfl w
      · exact r
    clear hq
    show xx_go (xt_P z) (d + 12) 57 83 [some (.ref (c + 0)), some (.int (iI x)), some (.ref a), some (.int (iI y3))] [.int (iI 0), .ref (c + 4)] h3 _
    refine mi_eq0 (t := 91) rfl rfl (by omega) (by omega) (fun _ => ?_) (fun q => absurd rfl q)
    refine go_a (pc' := 93) (ls' := [some (.ref (c + 0)), some (.int (iI x)), some (.ref a), some (.int (iI y3))]) (st' := [.int (iI 21), .ref (c + 4)]) rfl rfl ?_
    refine go_a (pc' := 94) (ls' := [some (.ref (c + 0)), some (.int (iI x)), some (.ref a), some (.int (iI y3))]) (st' := [.int (iI y3), .int (iI 21), .ref (c + 4)]) rfl rfl ?_
    have ok : OB s3 21 := ⟨by decide, by have := KB_38 B3; omega⟩
    refine go_v (m := 194) (as := [.ref (c + 4), .int (iI 21), .int (iI y3)]) (r := []) rfl rfl rfl (K3.1 3 (by decide)) rfl rfl (kc_pairX z (d + 9) c 21 y3 h3 s3 K3 B3 C3 (by omega) ok.1 ok.2 O3.1 O3.2) (fun v h9 hq => ?_)
    obtain ⟨y9, s9, rfl, K9, B9, C9, Xn9, G9, O9, -, D9⟩ := hq
    have X9 := kx_w (kx_tr X3 Xn9) (show (0 : Int) + 0 ≤ 0 by decide) (show (0 : Int) + 0 ≤ 0 by decide)
    have F9 := PFR_tr F3 (KGR_P G9)
    show xx_go (xt_P z) (d + 12) 57 97 [some (.ref (c + 0)), some (.int (iI x)), some (.ref a), some (.int (iI y3))] [.int (iI y9)] h9 _
    refine go_a (pc' := 98) (ls' := [some (.ref (c + 0)), some (.int (iI x)), some (.ref a), some (.int (iI y9))]) (st' := []) rfl rfl ?_
    have oR := OB_R B9 O9
    have d0 : DK s1.N 0 = .var 31361 := KNN_D (KNN_P hB hN F1) (i := 0) (by decide)
    have dk : DK s3.N 21 = .var 217445062396 := KNN_D (KNN_P hB hN F3) (i := 21) (by decide)
    have dn : DK s2.N nm = .var v9 := (PFR_D hB CX0 F2 ⟨by omega, by omega⟩).trans dv
    have dx : DK s9.N y9 = sp_tx (v9, none, Bx) := by
      rw [D9, D3, D2, dy1, dk, dn, d0]
      rfl
    obtain ⟨Tt, hTt⟩ := CP_ex (sp_ln 1 (DK s9.N y9)).1
    exact kk_tell2X z hz d c cc x y9 a hp0 s0 hp s t hI h9 s9 K9 B9 C9 X9 F9 oR.1 oR.2 O9 Tt hTt (Or.inr ⟨xr, _, eth, by rw [← dx]; exact hTt⟩)
