def HFT (s : KS) (NM : BKM) (ft : Nat → Int) : Prop := (∀ x : Int, OB s x → x = s.I 14 → sp_fv ft (DK s.N x) = s.I 15) ∧ (∀ x : Int, 3 ≤ x → x ≤ 16 → x ≠ s.I 14 → sp_fv ft (DK s.N x) = x * 32 + tkF (x - 3) * 4 + 2) ∧ (∀ i : Int, 0 ≤ i → i < s.I 27 → (NM.1 i).1 ≠ s.I 14 → sp_fv ft (DK s.N (NM.1 i).1) = fcl i ((NM.1 i).2.1.length : Int)) ∧ ∀ x : Int, OB s x → x ≠ s.I 14 → ¬ (3 ≤ x ∧ x ≤ 16) → (∀ i : Int, 0 ≤ i → i < s.I 27 → (NM.1 i).1 ≠ x) → sp_fv ft (DK s.N x) = -1
theorem BFR_m {NM : BKM} {k m n : Int} {g f : Int → Int} (h : BFR NM k m g n f) (m0 : 0 ≤ m) : ((NM.1 k).2.1.length : Int) = m := by
  have e := h.1
  rw [← e, rl_len]
  omega
def TKX (N : Int → Int) (U : Int) (ft : Nat → Int) (t : ob_T) (y : Int) : Prop := (y ≠ -1 → y % 4 ≠ 2 → (sp_ts ft t).1 = 1 ∧ TRT N U ft [y] (sp_nf t).1) ∧ (y % 4 = 2 → ∃ (v : Nat) (b : ob_T), t = .add (.var v) b ∧ sp_isq (.var v) = false ∧ ft v = y) ∧ (y = -1 → (sp_ts ft t).1 = 0)
theorem TKX_atom {N : Int → Int} {U : Int} {ft : Nat → Int} {A : Nat → Int → Int} {x : Int} (h : STo A (DK N) U) (x0 : 0 ≤ x) (x1 : x < U) (e : A 1 x < 0) : ((A 1 x = -2 ∧ x ≠ 0 ∧ x ≠ 1) → TKX N U ft (DK N x) (x * 32)) ∧ (¬ (A 1 x = -2 ∧ x ≠ 0 ∧ x ≠ 1) → TKX N U ft (DK N x) (x * 32 + 1)) := by
  have n0 := ST_0 h x0 x1
  have n1 := ST_1 h x0 x1
  rcases h.1 x x0 x1 with ⟨q, n, d⟩ | ⟨q, v, d⟩ | ⟨q, -⟩
  · refine ⟨fun w => absurd w.1 (by omega), fun _ => ⟨fun _ _ => ?_, fun w => absurd w (by omega), fun w => absurd w (by omega)⟩⟩
    rw [d]
    exact ⟨rfl, x, ⟨x0, x1⟩, d, rfl⟩
  · rw [d] at n0 n1
    refine ⟨fun w => ⟨fun _ _ => ?_, fun w => absurd w (by omega), fun w => absurd w (by omega)⟩, fun w => ⟨fun _ _ => ?_, fun w => absurd w (by omega), fun w => absurd w (by omega)⟩⟩
    · rw [d]
      refine ⟨rfl, x, ⟨x0, x1⟩, d, ?_⟩
      unfold sp_vt
      rw [if_neg]
      rintro (e9 | e9)
      · exact w.2.1 (n0.mp (by rw [e9]))
      · exact w.2.2 (n1.mp (by rw [e9]))
    · rw [d]
      refine ⟨rfl, x, ⟨x0, x1⟩, d, ?_⟩
      unfold sp_vt
      rw [if_pos]
      have w2 : x = 0 ∨ x = 1 := by omega
      rcases w2 with e9 | e9
      · have := n0.mpr e9
        injection this with this
        exact Or.inl this
      · have := n1.mpr e9
        injection this with this
        exact Or.inr this
  · omega
theorem TKX_quo {N : Int → Int} {U : Int} {ft : Nat → Int} {A : Nat → Int → Int} {x : Int} (h : STo A (DK N) U) (x0 : 0 ≤ x) (x1 : x < U) (e : A 1 x = 2 ∧ 0 ≤ A 1 (A 2 x) ∧ A 2 (A 2 x) = 0) : TKX N U ft (DK N x) (A 1 (A 2 x) * 32 + 1) := by
  obtain ⟨p1, p2⟩ := ST_p h x0 x1 (by omega)
  obtain ⟨q1, q2⟩ := ST_p h (k := A 2 x) (by omega) (by omega) e.2.1
  have isq : sp_isq (DK N (A 1 x)) = true := (ST_2 h (by omega) (by omega)).mpr e.1
  have one : sp_one (DK N (A 2 x)) = true := (ST_one h (by omega) (by omega)).mp e.2
  have fst : sp_fst (DK N (A 2 x)) = DK N (A 1 (A 2 x)) := by
    rw [q2]
    rfl
  refine ⟨fun _ _ => ?_, fun w => absurd w (by omega), fun w => absurd w (by omega)⟩
  rw [p2]
  constructor
  · show (if sp_isq (DK N (A 1 x)) = true then (if sp_one (DK N (A 2 x)) = true then 1 else 0) else _) = (1 : Int)
    rw [if_pos isq, if_pos one]
  · show TRT N U ft _ (if sp_isq (DK N (A 1 x)) = true then (if sp_ba (sp_fst (DK N (A 2 x))) = true then sp_fst (DK N (A 2 x)) else .add (DK N (A 1 x)) (DK N (A 2 x))) else _)
    rw [if_pos isq]
    by_cases ba : sp_ba (sp_fst (DK N (A 2 x))) = true
    · rw [if_pos ba]
      rw [fst] at ba ⊢
      have r : 0 ≤ A 1 (A 2 x) ∧ A 1 (A 2 x) < U := by omega
      have b2 := (ST_ba h r.1 r.2).mpr ba
      have l : A 1 (A 1 (A 2 x)) < 0 := by
        rcases b2 with b | b | b
        · omega
        · rw [b, ST_iv h (by decide) (by have := h.2.2.1; omega) h.2.2.2.1]
          decide
        · rw [b, ST_iv h (by decide) (by have := h.2.2.1; omega) h.2.2.2.2.1]
          decide
      have a := (TKX_atom (ft := ft) h r.1 r.2 l).2 (by omega)
      have a2 := (a.1 (by omega) (by omega)).2
      have nf : (sp_nf (DK N (A 1 (A 2 x)))).1 = DK N (A 1 (A 2 x)) := by
        rcases h.1 _ r.1 r.2 with ⟨_, n, d⟩ | ⟨_, v, d⟩ | ⟨q, -⟩
        · rw [d]
          rfl
        · rw [d]
          rfl
        · omega
      rw [nf] at a2
      exact a2
    · rw [if_neg ba]
      refine Or.inl ⟨isq, one, ?_, A 1 (A 2 x), by omega, fst.symm, rfl⟩
      cases hb : sp_ba (sp_fst (DK N (A 2 x))) with
      | true => exact absurd hb ba
      | false => rfl
theorem TKX_call {N : Int → Int} {U : Int} {ft : Nat → Int} {A : Nat → Int → Int} {x y : Int} (h : STo A (DK N) U) (x0 : 0 ≤ x) (x1 : x < U) (p : 0 ≤ A 1 x) (e : ¬ (A 1 x = 2 ∧ 0 ≤ A 1 (A 2 x) ∧ A 2 (A 2 x) = 0)) (hy : y = sp_fv ft (DK N (A 1 x))) (h2 : y = -1 ∨ y % 4 = 2) (fq : ft 85168940 = -1) : TKX N U ft (DK N x) y := by
  obtain ⟨p1, p2⟩ := ST_p h x0 x1 p
  have isq := ST_2 h (k := A 1 x) (by omega) (by omega)
  have one := ST_one h (k := A 2 x) (by omega) (by omega)
  have bad : y = -1 → (sp_ts ft (DK N x)).1 = 0 := by
    intro w
    rw [p2]
    show (if sp_isq (DK N (A 1 x)) = true then (if sp_one (DK N (A 2 x)) = true then 1 else 0) else if 0 ≤ (sp_ts ft (DK N (A 2 x))).2.1 ∧ (sp_ts ft (DK N (A 2 x))).2.2 = sp_arT ft (DK N (A 1 x)) then 1 + (sp_ts ft (DK N (A 2 x))).2.1 else 0) = 0
    by_cases c : sp_isq (DK N (A 1 x)) = true
    · rw [if_pos c, if_neg]
      intro o
      exact e ⟨isq.mp c, one.mpr o⟩
    · rw [if_neg c, if_neg]
      intro o
      have nn := (sp_ts_nn (ft := ft) (DK N (A 2 x))).2.2
      have ar : sp_arT ft (DK N (A 1 x)) = -1 := by
        rw [hy] at w
        cases hd : DK N (A 1 x) with
        | var v =>
          rw [hd] at w
          have w : ft v = -1 := w
          show (if ft v < 0 then -1 else ft v / 4 % 8) = -1
          rw [w]
          rfl
        | _ => rfl
      omega
  refine ⟨fun a b => absurd h2 (by omega), fun w => ?_, bad⟩
  cases hd : DK N (A 1 x) with
  | var v =>
    rw [hd] at hy p2
    have hy : y = ft v := hy
    refine ⟨v, _, p2, ?_, hy.symm⟩
    cases hq : sp_isq (.var v) with
    | false => rfl
    | true =>
      have hq : (v == 85168940) = true := hq
      rw [beq_iff_eq] at hq
      rw [hq, fq] at hy
      omega
  | _ =>
    rw [hd] at hy
    have hy : y = -1 := hy
    omega
def tds (s : KS) : List ob_T := ((rl (s.I 7) (s.A 7)).map (DK s.N)).reverse
theorem tds_add {s s1 : KS} {x : Int} (i0 : 0 ≤ s.I 7) (eN : s1.N = s.N) (e1 : s1.I 7 = s.I 7 + 1) (e2 : s1.A 7 (s.I 7) = x) (e3 : ∀ e : Int, e < s.I 7 → s1.A 7 e = s.A 7 e) : tds s1 = DK s.N x :: tds s := by
  unfold tds
  rw [e1, rl_s i0, e2, eN, rl_ext (g := s.A 7) (fun i _ b => e3 i b), List.map_append, List.reverse_append]
  rfl
theorem tds_pop {s : KS} (i0 : 0 < s.I 7) : tds s = DK s.N (s.A 7 (s.I 7 - 1)) :: tds (s.wI 7 (s.I 7 - 1)) := by
  have e : rl (s.I 7) (s.A 7) = rl (s.I 7 - 1) (s.A 7) ++ [s.A 7 (s.I 7 - 1)] := by
    have := rl_s (n := s.I 7 - 1) (f := s.A 7) (by omega)
    rw [show s.I 7 - 1 + 1 = s.I 7 by omega] at this
    exact this
  unfold tds
  rw [e, List.map_append, List.reverse_append]
  rfl
theorem tds_eq {s s1 : KS} (eN : s1.N = s.N) (e1 : s1.I 7 = s.I 7) (e2 : s1.A 7 = s.A 7) : tds s1 = tds s := by
  unfold tds
  rw [eN, e1, e2]
def T7 (s s1 : KS) : Prop := s1.N = s.N ∧ s1.T = s.T ∧ (∀ i : Nat, i ≠ 7 → s1.A i = s.A i ∧ s1.C i = s.C i ∧ s1.P i = s.P i) ∧ ∀ j : Nat, j ≠ 7 → s1.I j = s.I j
theorem T7_rf {s : KS} : T7 s s := ⟨rfl, rfl, fun _ _ => ⟨rfl, rfl, rfl⟩, fun _ _ => rfl⟩
theorem T7_tr {s s1 s2 : KS} (a : T7 s s1) (b : T7 s1 s2) : T7 s s2 := ⟨b.1.trans a.1, b.2.1.trans a.2.1, fun i p => ⟨(b.2.2.1 i p).1.trans (a.2.2.1 i p).1, (b.2.2.1 i p).2.1.trans (a.2.2.1 i p).2.1, (b.2.2.1 i p).2.2.trans (a.2.2.1 i p).2.2⟩, fun j p => (b.2.2.2 j p).trans (a.2.2.2 j p)⟩
theorem T7_wI {s : KS} {x : Int} : T7 s (s.wI 7 x) := ⟨rfl, rfl, fun _ _ => ⟨rfl, rfl, rfl⟩, fun i p => su_ne p⟩
theorem T7_row {s s1 : KS} {x : Int} (h : KRW 7 s s1) (e : s1.I = su s.I 7 x) : T7 s s1 := ⟨h.1, h.2.1, fun i p => h.2.2.1 i p, fun i p => by rw [e]; exact su_ne p⟩
theorem T7_F {s s1 : KS} (h : T7 s s1) : TF s s1 := ⟨h.1, h.2.1, fun i _ q => h.2.2.1 i q, fun j _ q => h.2.2.2 j q⟩
theorem T7_RW {s s1 : KS} {u w : Int} {L : List Int} (h : T7 s s1) (hR : RW6 u s w L) : RW6 u s1 w L := by
  unfold RW6
  rw [(h.2.2.1 6 (by decide)).1, h.2.2.2 6 (by decide)]
  exact hR
theorem TF_SD {s s1 : KS} (h : TF s s1) : SD s1 = SD s := SD_N h.1
theorem TF_OB {s s1 : KS} (h : TF s s1) {k : Int} (ho : OB s k) : OB s1 k := KSA_OB (TF_SA h) ho
def OWNc (u : Int) (s : KS) : Prop := (s.I 14 = -1 ∨ (0 ≤ s.I 14 ∧ TVx u (s.I 15) ∧ s.I 15 % 4 = 2))
theorem OWNc_TF {u : Int} {s s1 : KS} (h : OWNc u s) (F : TF s s1) : OWNc u s1 := by
  unfold OWNc
  rw [F.2.2.2 14 (by decide) (by decide), F.2.2.2 15 (by decide) (by decide)]
  exact h
theorem TVx_call {u w t : Int} (w0 : 0 ≤ w) (wu : w < u) (t0 : 0 ≤ t) (t1 : t ≤ 7) (h3 : w = 3 → t = 3) (h5 : w = 5 → t = 2) (um : u ≤ 67108864) : TVx u (w * 32 + t * 4 + 2) ∧ (w * 32 + t * 4 + 2) % 4 = 2 := by
  have e := tk_call (w := w) t0 t1
  refine ⟨⟨by omega, by omega, Or.inl ⟨by omega, fun q => ?_, fun q => ?_⟩, by omega⟩, by omega⟩
  · rw [e]
    exact h3 (by omega)
  · rw [e]
    exact h5 (by omega)
theorem TVx_leaf {u w b : Int} (w0 : 0 ≤ w) (wu : w < u) (um : u ≤ 67108864) (b0 : b = 0 ∨ b = 1) : TVx u (w * 32 + b) ∧ (w * 32 + b) % 4 ≠ 2 ∧ tk (w * 32 + b) = 0 := by
  have e : tk (w * 32 + b) = 0 := by
    unfold tk
    omega
  exact ⟨⟨by omega, by omega, Or.inr ⟨by omega, e⟩, by omega⟩, by omega, e⟩
theorem kg_callOf (z : Value) (d c : Nat) (x : Int) (hp : xx_H) (s : KS) (hK : KI c hp s) (hB : KB s) (u : Int) (NM : BKM) (hF : BF c hp s u NM) (u0 : 38 ≤ u) (u1 : u ≤ 67108864) (hO : OC hp) (hW : OWNc u s) (ft : Nat → Int) (hH : HFT s NM ft) (x0 : 0 ≤ x) (x1 : x ≤ 2147483647) (ox : OB s x) : xx_cl (xt_P z) (d + 5) 215 [.ref (c + 25), .int (iI x)] hp (fun v h1 => (∃ y : Int, v = some (.int (iI y)) ∧ (y = -1 ∨ (TVx u y ∧ y % 4 = 2)) ∧ y = sp_fv ft (DK s.N x)) ∧ h1 = hp) := by
  have r14 := hB.2.1 14
  have r15 := hB.2.1 15
  refine cl_go rfl ?_
  show xx_go (xt_P z) (d + 4) 215 0 [some (.ref (c + 25)), some (.int (iI x)), none] [] hp _
  have book : ¬ (3 ≤ x ∧ x ≤ 16) → x ≠ s.I 14 → xx_go (xt_P z) (d + 4) 215 36 [some (.ref (c + 25)), some (.int (iI x)), none] [] hp (fun v h1 => (∃ y : Int, v = some (.int (iI y)) ∧ (y = -1 ∨ (TVx u y ∧ y % 4 = 2)) ∧ y = sp_fv ft (DK s.N x)) ∧ h1 = hp) := by
    intro nb no
    refine go_a (pc' := 37) (ls' := [some (.ref (c + 25)), some (.int (iI x)), none]) (st' := [.ref (c + 25)]) rfl rfl ?_
    refine go_get (v := .ref (c + 21)) rfl (hK.1 16 (by decide)) rfl rfl ?_
    refine go_a (pc' := 41) (ls' := [some (.ref (c + 25)), some (.int (iI x)), none]) (st' := [.int (iI x), .ref (c + 21)]) rfl rfl ?_
    refine go_v (m := 216) (as := [.ref (c + 21), .int (iI x)]) (r := []) rfl rfl rfl (hK.1 12 (by decide)) rfl rfl (kf_function z d c x hp s hK hB u NM hF u1 (by omega) x1) (fun v h3 hq => ?_)
    obtain ⟨hq, e⟩ := hq
    rw [e]
    clear e h3
    rcases hq with ⟨rfl, hn⟩ | ⟨a, i, m, g, n, f, cb, rfl, hi, TH⟩
    · show xx_go (xt_P z) (d + 4) 215 44 [some (.ref (c + 25)), some (.int (iI x)), none] [.null] hp _
      refine go_a (pc' := 45) (ls' := [some (.ref (c + 25)), some (.int (iI x)), some (.null)]) (st' := []) rfl rfl ?_
      refine go_a (pc' := 46) (ls' := [some (.ref (c + 25)), some (.int (iI x)), some (.null)]) (st' := [.null]) rfl rfl ?_
      refine go_a (pc' := 49) (ls' := [some (.ref (c + 25)), some (.int (iI x)), some (.null)]) (st' := []) rfl rfl ?_
      refine go_a (pc' := 50) (ls' := [some (.ref (c + 25)), some (.int (iI x)), some (.null)]) (st' := [.int (iI ((-1)))]) rfl rfl ?_
      refine go_a (pc' := 57) (ls' := [some (.ref (c + 25)), some (.int (iI x)), some (.null)]) (st' := [.int (iI ((-1)))]) rfl rfl ?_
      exact go_r rfl rfl rfl rfl rfl rfl ⟨⟨-1, rfl, Or.inl rfl, (hH.2.2.2 x ox no nb hn).symm⟩, rfl⟩
    · obtain ⟨pq, ta, a1, a2, a3, a4, a5, a6, a7, a8, a9, a10, a11⟩ := TH
      show xx_go (xt_P z) (d + 4) 215 44 [some (.ref (c + 25)), some (.int (iI x)), none] [.ref a] hp _
      refine go_a (pc' := 45) (ls' := [some (.ref (c + 25)), some (.int (iI x)), some (.ref a)]) (st' := []) rfl rfl ?_
      refine go_a (pc' := 46) (ls' := [some (.ref (c + 25)), some (.int (iI x)), some (.ref a)]) (st' := [.ref a]) rfl rfl ?_
      refine go_a (pc' := 53) (ls' := [some (.ref (c + 25)), some (.int (iI x)), some (.ref a)]) (st' := []) rfl rfl ?_
      refine go_a (pc' := 54) (ls' := [some (.ref (c + 25)), some (.int (iI x)), some (.ref a)]) (st' := [.ref a]) rfl rfl ?_
      refine go_get (v := .int (iI (fcl i m))) rfl a1 rfl rfl ?_
      exact go_r rfl rfl rfl rfl rfl rfl ⟨⟨fcl i m, rfl, Or.inr (TVx_call (w := 17 + i) (by omega) a8.2.2 a6.1 (by omega) (by omega) (by omega) u1), by have e9 := hH.2.2.1 i hi.1 hi.2.1 (by rw [hi.2.2.1]; exact no); rw [hi.2.2.1, BFR_m hi.2.2.2 a6.1] at e9; exact e9.symm⟩, rfl⟩
  refine go_a (pc' := 1) (ls' := [some (.ref (c + 25)), some (.int (iI x)), none]) (st' := [.int (iI x)]) rfl rfl ?_
  refine go_a (pc' := 2) (ls' := [some (.ref (c + 25)), some (.int (iI x)), none]) (st' := [.ref (c + 25), .int (iI x)]) rfl rfl ?_
  refine go_get (v := .int (iI (s.I 14))) rfl (hK.1 16 (by decide)) rfl rfl ?_
  refine mi_ne (t := 13) rfl rfl (by omega) (by omega) (by omega) (by omega) (fun w => ?_) (fun w => ?_)
  · refine go_a (pc' := 14) (ls' := [some (.ref (c + 25)), some (.int (iI x)), none]) (st' := [.int (iI x)]) rfl rfl ?_
    refine go_a (pc' := 15) (ls' := [some (.ref (c + 25)), some (.int (iI x)), none]) (st' := [.int (iI 3), .int (iI x)]) rfl rfl ?_
    refine mi_lt (t := 36) rfl rfl (by omega) (by omega) (by omega) (by omega) (fun w2 => book (by omega) (by omega)) (fun w2 => ?_)
    refine go_a (pc' := 19) (ls' := [some (.ref (c + 25)), some (.int (iI x)), none]) (st' := [.int (iI x)]) rfl rfl ?_
    refine go_a (pc' := 21) (ls' := [some (.ref (c + 25)), some (.int (iI x)), none]) (st' := [.int (iI 16), .int (iI x)]) rfl rfl ?_
    refine mi_gt (t := 36) rfl rfl (by omega) (by omega) (by omega) (by omega) (fun w3 => book (by omega) (by omega)) (fun w3 => ?_)
    refine go_a (pc' := 25) (ls' := [some (.ref (c + 25)), some (.int (iI x)), none]) (st' := [.int (iI x)]) rfl rfl ?_
    refine go_b (pc' := 28) (st' := [.ref 11, .int (iI x)]) (h' := hp) rfl rfl rfl ?_
    refine go_a (pc' := 29) (ls' := [some (.ref (c + 25)), some (.int (iI x)), none]) (st' := [.int (iI x), .ref 11, .int (iI x)]) rfl rfl ?_
    refine go_a (pc' := 30) (ls' := [some (.ref (c + 25)), some (.int (iI x)), none]) (st' := [.int (iI 3), .int (iI x), .ref 11, .int (iI x)]) rfl rfl ?_
    refine mi_sub rfl ?_
    refine mi_ild (n := 14) (f := tkF) rfl hO.2.2.1 (by omega) (by omega) (by decide) ?_
    have tr : 1 ≤ tkF (x - 3) ∧ tkF (x - 3) ≤ 3 ∧ (x = 3 → tkF (x - 3) = 3) ∧ (x = 5 → tkF (x - 3) = 2) := by
      unfold tkF
      refine ⟨?_, ?_, ?_, ?_⟩ <;> (repeat' split) <;> omega
    refine go_s (m := 209) (as := [.int (iI x), .int (iI (tkF (x - 3)))]) (r := []) rfl rfl rfl rfl (kg_call z (d + 3) x (tkF (x - 3)) hp x0 (by omega) (by omega) (by omega)) (fun v h3 hq => ?_)
    obtain ⟨rfl, e⟩ := hq
    rw [e]
    clear e h3
    show xx_go (xt_P z) (d + 4) 215 35 [some (.ref (c + 25)), some (.int (iI x)), none] [.int (iI (x * 32 + tkF (x - 3) * 4 + 2))] hp _
    exact go_r rfl rfl rfl rfl rfl rfl ⟨⟨_, rfl, Or.inr (TVx_call x0 (by omega) (by omega) (by omega) tr.2.2.1 tr.2.2.2 u1), (hH.2.1 x (by omega) (by omega) (by omega)).symm⟩, rfl⟩
  · have w9 : x = s.I 14 := by omega
    refine go_a (pc' := 9) (ls' := [some (.ref (c + 25)), some (.int (iI x)), none]) (st' := [.ref (c + 25)]) rfl rfl ?_
    refine go_get (v := .int (iI (s.I 15))) rfl (hK.1 16 (by decide)) rfl rfl ?_
    have hw : TVx u (s.I 15) ∧ s.I 15 % 4 = 2 := by
      rcases hW with q | q
      · omega
      · exact q.2
    exact go_r rfl rfl rfl rfl rfl rfl ⟨⟨s.I 15, rfl, Or.inr hw, (hH.1 x ox w9).symm⟩, rfl⟩
theorem kg_tokenOf (z : Value) (d c : Nat) (x : Int) (hp : xx_H) (s : KS) (hK : KI c hp s) (hB : KB s) (hC : CI s) (u : Int) (NM : BKM) (hF : BF c hp s u NM) (u0 : 38 ≤ u) (u1 : u ≤ 67108864) (hO : OC hp) (hW : OWNc u s) (ft : Nat → Int) (hH : HFT s NM ft) (hu : s.I 8 ≤ u) (ho : OB s x) (hS : STo (SD s) (DK s.N) (s.I 8)) (fq : ft 85168940 = -1) : xx_cl (xt_P z) (d + 6) 212 [.ref (c + 25), .int (iI x)] hp (fun v h1 => (∃ y : Int, v = some (.int (iI y)) ∧ (y = -1 ∨ (TVx u y ∧ (y % 4 = 2 → WD (SD s) x = 2 + VD (SD s) x ∧ 0 ≤ SD s 1 x))) ∧ TKX s.N (s.I 8) ft (DK s.N x) y) ∧ h1 = hp) := by
  have ox := OB_R hB ho
  have oo := id ho
  unfold OB at oo
  refine cl_go rfl ?_
  show xx_go (xt_P z) (d + 5) 212 0 [some (.ref (c + 25)), some (.int (iI x))] [] hp _
  refine go_a (pc' := 1) (ls' := [some (.ref (c + 25)), some (.int (iI x))]) (st' := [.ref (c + 25)]) rfl rfl ?_
  refine go_get (v := .ref (c + 4)) rfl (hK.1 16 (by decide)) rfl rfl ?_
  refine go_a (pc' := 5) (ls' := [some (.ref (c + 25)), some (.int (iI x))]) (st' := [.int (iI x), .ref (c + 4)]) rfl rfl ?_
  refine go_v (m := 205) (as := [.ref (c + 4), .int (iI x)]) (r := []) rfl rfl rfl (hK.1 3 (by decide)) rfl rfl (kc_isVariable z (d + 3) c x hp s hK hB ox.1 ox.2) (fun v h3 hq => ?_)
  obtain ⟨hq, e⟩ := hq
  rw [e]
  clear e h3
  rcases hq with ⟨c1, rfl⟩ | ⟨c1, rfl⟩
  · show xx_go (xt_P z) (d + 5) 212 8 [some (.ref (c + 25)), some (.int (iI x))] [.int (iI 1)] hp _
    refine mi_eq0 (t := 16) rfl rfl (by omega) (by omega) (fun q => absurd q (by decide)) (fun _ => ?_)
    refine go_a (pc' := 12) (ls' := [some (.ref (c + 25)), some (.int (iI x))]) (st' := [.int (iI x)]) rfl rfl ?_
    refine go_s (m := 204) (as := [.int (iI x)]) (r := []) rfl rfl rfl rfl (kg_variable z (d + 4) x hp oo.1 (by omega)) (fun v h3 hq => ?_)
    obtain ⟨rfl, e⟩ := hq
    rw [e]
    clear e h3
    show xx_go (xt_P z) (d + 5) 212 15 [some (.ref (c + 25)), some (.int (iI x))] [.int (iI (x * 32))] hp _
    have q := TVx_leaf (u := u) (w := x) (b := 0) oo.1 (by omega) u1 (Or.inl rfl)
    rw [Int.add_zero] at q
    have e2 : SD s 1 x = -2 := by
      show (if s.N x < 0 then sd1 (s.N x) else if 4611686018427387904 ≤ s.N x then -2 else -1) = -2
      rw [if_neg (by omega), if_pos c1.1.2.2]
    exact go_r rfl rfl rfl rfl rfl rfl ⟨⟨x * 32, rfl, Or.inr ⟨q.1, fun w => absurd w q.2.1⟩, (TKX_atom (ft := ft) hS oo.1 oo.2 (by omega)).1 ⟨e2, c1.2⟩⟩, rfl⟩
  · show xx_go (xt_P z) (d + 5) 212 8 [some (.ref (c + 25)), some (.int (iI x))] [.int (iI 0)] hp _
    refine mi_eq0 (t := 16) rfl rfl (by omega) (by omega) (fun _ => ?_) (fun q => absurd rfl q)
    refine go_a (pc' := 17) (ls' := [some (.ref (c + 25)), some (.int (iI x))]) (st' := [.ref (c + 25)]) rfl rfl ?_
    refine go_get (v := .ref (c + 4)) rfl (hK.1 16 (by decide)) rfl rfl ?_
    refine go_a (pc' := 21) (ls' := [some (.ref (c + 25)), some (.int (iI x))]) (st' := [.int (iI x), .ref (c + 4)]) rfl rfl ?_
    refine go_v (m := 199) (as := [.ref (c + 4), .int (iI x)]) (r := []) rfl rfl rfl (hK.1 3 (by decide)) rfl rfl (kc_isPair z (d + 4) c x hp s hK hB ox.1 ox.2) (fun v h3 hq => ?_)
    obtain ⟨hq, e⟩ := hq
    rw [e]
    clear e h3
    rcases hq with ⟨c2, rfl⟩ | ⟨c2, rfl⟩
    · have pr : 0 ≤ SD s 1 x := SD_nn.mpr c2.2.2
      show xx_go (xt_P z) (d + 5) 212 24 [some (.ref (c + 25)), some (.int (iI x))] [.int (iI 1)] hp _
      refine mi_ne0 (t := 32) rfl rfl (by omega) (by omega) (fun _ => ?_) (fun q => absurd (show (1 : Int) ≠ 0 by decide) q)
      refine go_a (pc' := 33) (ls' := [some (.ref (c + 25)), some (.int (iI x))]) (st' := [.ref (c + 25)]) rfl rfl ?_
      refine go_get (v := .ref (c + 4)) rfl (hK.1 16 (by decide)) rfl rfl ?_
      refine go_a (pc' := 37) (ls' := [some (.ref (c + 25)), some (.int (iI x))]) (st' := [.int (iI x), .ref (c + 4)]) rfl rfl ?_
      refine go_v (m := 214) (as := [.ref (c + 4), .int (iI x)]) (r := []) rfl rfl rfl (hK.1 3 (by decide)) rfl rfl (kc_isQuoted z (d + 3) c x hp s hK hB hC ho) (fun v h3 hq => ?_)
      obtain ⟨hq, e⟩ := hq
      rw [e]
      clear e h3
      rcases hq with ⟨c3, rfl⟩ | ⟨c3, rfl⟩
      · show xx_go (xt_P z) (d + 5) 212 40 [some (.ref (c + 25)), some (.int (iI x))] [.int (iI 1)] hp _
        refine mi_eq0 (t := 58) rfl rfl (by omega) (by omega) (fun q => absurd q (by decide)) (fun _ => ?_)
        refine go_a (pc' := 44) (ls' := [some (.ref (c + 25)), some (.int (iI x))]) (st' := [.ref (c + 25)]) rfl rfl ?_
        refine go_get (v := .ref (c + 4)) rfl (hK.1 16 (by decide)) rfl rfl ?_
        refine go_a (pc' := 48) (ls' := [some (.ref (c + 25)), some (.int (iI x))]) (st' := [.int (iI x), .ref (c + 4)]) rfl rfl ?_
        refine go_a (pc' := 49) (ls' := [some (.ref (c + 25)), some (.int (iI x))]) (st' := [.int (iI 1), .int (iI x), .ref (c + 4)]) rfl rfl ?_
        refine go_v (m := 202) (as := [.ref (c + 4), .int (iI x), .int (iI 1)]) (r := []) rfl rfl rfl (hK.1 3 (by decide)) rfl rfl (kc_part z (d + 3) c x 1 hp s hK hB hC ho (by decide) (by decide)) (fun v h3 hq => ?_)
        obtain ⟨⟨y, rfl, oy, hy9⟩, e⟩ := hq
        have hy8 := hy9 2 ⟨pr, c3.2.1, c3.2.2⟩ (by decide)
        have hy8 : y = SD s 1 (SD s 2 x) := hy8
        rw [e]
        clear e h3
        unfold OB at oy
        show xx_go (xt_P z) (d + 5) 212 52 [some (.ref (c + 25)), some (.int (iI x))] [.int (iI y)] hp _
        refine go_s (m := 213) (as := [.int (iI y)]) (r := []) rfl rfl rfl rfl (kg_constant z (d + 4) y hp oy.1 (by omega)) (fun v h3 hq => ?_)
        obtain ⟨rfl, e⟩ := hq
        rw [e]
        clear e h3
        show xx_go (xt_P z) (d + 5) 212 55 [some (.ref (c + 25)), some (.int (iI x))] [.int (iI (y * 32 + 1))] hp _
        refine go_a (pc' := 70) (ls' := [some (.ref (c + 25)), some (.int (iI x))]) (st' := [.int (iI (y * 32 + 1))]) rfl rfl ?_
        have q := TVx_leaf (u := u) (w := y) (b := 1) oy.1 (by omega) u1 (Or.inr rfl)
        exact go_r rfl rfl rfl rfl rfl rfl ⟨⟨_, rfl, Or.inr ⟨q.1, fun w => absurd w q.2.1⟩, by rw [hy8]; exact TKX_quo hS oo.1 oo.2 c3⟩, rfl⟩
      · show xx_go (xt_P z) (d + 5) 212 40 [some (.ref (c + 25)), some (.int (iI x))] [.int (iI 0)] hp _
        refine mi_eq0 (t := 58) rfl rfl (by omega) (by omega) (fun _ => ?_) (fun q => absurd rfl q)
        have of := (fst_OB hC hB x).1
        unfold OB at of
        have b8 := hB.2.1 8
        refine go_a (pc' := 59) (ls' := [some (.ref (c + 25)), some (.int (iI x))]) (st' := [.ref (c + 25)]) rfl rfl ?_
        refine go_a (pc' := 60) (ls' := [some (.ref (c + 25)), some (.int (iI x))]) (st' := [.ref (c + 25), .ref (c + 25)]) rfl rfl ?_
        refine go_get (v := .ref (c + 4)) rfl (hK.1 16 (by decide)) rfl rfl ?_
        refine go_a (pc' := 64) (ls' := [some (.ref (c + 25)), some (.int (iI x))]) (st' := [.int (iI x), .ref (c + 4), .ref (c + 25)]) rfl rfl ?_
        refine go_v (m := 197) (as := [.ref (c + 4), .int (iI x)]) (r := [.ref (c + 25)]) rfl rfl rfl (hK.1 3 (by decide)) rfl rfl (kc_first z (d + 4) c x hp s hK hB ox.1 ox.2) (fun v h3 hq => ?_)
        obtain ⟨rfl, e⟩ := hq
        rw [e]
        clear e h3
        show xx_go (xt_P z) (d + 5) 212 67 [some (.ref (c + 25)), some (.int (iI x))] [.int (iI (fst s x)), .ref (c + 25)] hp _
        refine go_v (m := 215) (as := [.ref (c + 25), .int (iI (fst s x))]) (r := []) rfl rfl rfl (hK.1 16 (by decide)) rfl rfl (kg_callOf z d c (fst s x) hp s hK hB u NM hF u0 u1 hO hW ft hH of.1 (by omega) (fst_OB hC hB x).1) (fun v h3 hq => ?_)
        obtain ⟨⟨y, rfl, hy, hy7⟩, e⟩ := hq
        have hy6 : fst s x = SD s 1 x := by
          unfold fst
          rw [if_pos c2, (SD_neg c2.2.2).1]
        rw [hy6] at hy7
        rw [e]
        clear e h3
        show xx_go (xt_P z) (d + 5) 212 70 [some (.ref (c + 25)), some (.int (iI x))] [.int (iI y)] hp _
        have eW : WD (SD s) x = 2 + VD (SD s) x := by
          rw [WD_pair hC.1 oo.1 oo.2 pr, if_neg c3]
        exact go_r rfl rfl rfl rfl rfl rfl ⟨⟨y, rfl, hy.imp id (fun q => ⟨q.1, fun _ => ⟨eW, pr⟩⟩), TKX_call hS oo.1 oo.2 pr c3 hy7 (hy.imp id (fun q => q.2)) fq⟩, rfl⟩
    · show xx_go (xt_P z) (d + 5) 212 24 [some (.ref (c + 25)), some (.int (iI x))] [.int (iI 0)] hp _
      refine mi_ne0 (t := 32) rfl rfl (by omega) (by omega) (fun q => absurd rfl q) (fun _ => ?_)
      refine go_a (pc' := 28) (ls' := [some (.ref (c + 25)), some (.int (iI x))]) (st' := [.int (iI x)]) rfl rfl ?_
      refine go_s (m := 213) (as := [.int (iI x)]) (r := []) rfl rfl rfl rfl (kg_constant z (d + 4) x hp oo.1 (by omega)) (fun v h3 hq => ?_)
      obtain ⟨rfl, e⟩ := hq
      rw [e]
      clear e h3
      show xx_go (xt_P z) (d + 5) 212 31 [some (.ref (c + 25)), some (.int (iI x))] [.int (iI (x * 32 + 1))] hp _
      have q := TVx_leaf (u := u) (w := x) (b := 1) oo.1 (by omega) u1 (Or.inr rfl)
      have lt9 : SD s 1 x < 0 := (SD_at (by omega)).1
      exact go_r rfl rfl rfl rfl rfl rfl ⟨⟨_, rfl, Or.inr ⟨q.1, fun w => absurd w q.2.1⟩, (TKX_atom (ft := ft) hS oo.1 oo.2 lt9).2 (fun w => c1 ⟨⟨oo.1, oo.2, (by have w1 := w.1; by_cases nv : 4611686018427387904 ≤ s.N x; exact nv; exact absurd (show (if s.N x < 0 then sd1 (s.N x) else if 4611686018427387904 ≤ s.N x then -2 else -1) = -2 from w1) (by rw [if_neg (by omega), if_neg nv]; decide))⟩, w.2⟩)⟩, rfl⟩
def TD (s : KS) : Prop := ∀ k : Int, 0 ≤ k → k < s.I 7 → OB s (s.A 7 k)
def TDS (s : KS) : Int := SG (WD (SD s)) (s.A 7) (s.I 7).toNat
theorem TD_cnt {s : KS} (hC : CI s) (hB : KB s) (h : TD s) : s.I 7 ≤ TDS s := by
  have b := hB.2.2.2.1 7 (by decide)
  have := SG_cnt (g := WD (SD s)) (f := s.A 7) (s.I 7).toNat (fun e he => by
    have o := h e (by omega) (by omega)
    exact WD_1 hC.1 o.1 o.2)
  unfold TDS
  omega
theorem TD_add {s s1 : KS} {x : Int} (h : TD s) (hx : OB s x) (i0 : 0 ≤ s.I 7) (F : T7 s s1) (e1 : s1.I 7 = s.I 7 + 1) (e2 : s1.A 7 (s.I 7) = x) (e3 : ∀ e : Int, e < s.I 7 → s1.A 7 e = s.A 7 e) : TD s1 ∧ TDS s1 = TDS s + WD (SD s) x := by
  constructor
  · intro k k0 k1
    refine TF_OB (T7_F F) ?_
    by_cases c : k < s.I 7
    · rw [e3 k c]
      exact h k k0 c
    · rw [show k = s.I 7 by omega, e2]
      exact hx
  · unfold TDS
    rw [e1, show (s.I 7 + 1).toNat = (s.I 7).toNat + 1 by omega, TF_SD (T7_F F)]
    show SG (WD (SD s)) (s1.A 7) (s.I 7).toNat + WD (SD s) (s1.A 7 ((s.I 7).toNat : Int)) = _
    rw [show (((s.I 7).toNat : Nat) : Int) = s.I 7 by omega, e2, SG_congr (g1 := WD (SD s)) (f1 := s.A 7) _ (fun e he => by rw [e3 e (by omega)])]
theorem VD_rtle {I : Nat → Int} {A : Nat → Int → Int} (hP : PW I A) {n : Nat} {k : Int} (h0 : 0 ≤ k) (h1 : k < I 7) (hL : isL A n k) : ∀ {j : Nat}, j ≤ n → VD A (rt A j k) ≤ VD A k
  | 0, _ => Int.le_refl _
  | j + 1, hj => by
    have w := VD_rt (j := j) hP h0 h1 hL (by omega)
    have := VD_rtle hP h0 h1 hL (j := j) (by omega)
    omega
theorem kg_off_loop (z : Value) (d c : Nat) (x t : Int) (hp0 : xx_H) (s0 : KS) (hC : CI s0) (ho : OB s0 x) (t0 : 0 ≤ t) (t1 : t ≤ 7) (hL : isL (SD s0) (t + 1).toNat x) (hw : TDS s0 + VD (SD s0) x ≤ 2000) (hST : STo (SD s0) (DK s0.N) (s0.I 8)) : ∀ (q : Nat) (k : Int) (hp : xx_H) (s : KS), k.toNat ≤ q → 0 ≤ k → k ≤ t → KI c hp s → KB s → kx c hp0 s0 hp s 0 0 → T7 s0 s → TD s → s.I 7 = s0.I 7 + (t - k) → TDS s = TDS s0 + VD (SD s0) (rt (SD s0) (k + 1).toNat x) → tds s = (sp_as (DK s0.N x)).drop (k.toNat + 1) ++ tds s0 → xx_go (xt_P z) (d + 3) 222 18 [some (.ref (c + 25)), some (.int (iI x)), some (.int (iI t)), some (.int (iI k))] [] hp (fun v h1 => (v = some (.int (iI 0)) ∧ h1 = hp0 ∧ ¬ isL (SD s0) (t + 1).toNat x) ∨ (v = some (.int (iI 1)) ∧ isL (SD s0) (t + 1).toNat x ∧ ∃ s1 : KS, tds s1 = (sp_as (DK s0.N x)).drop 1 ++ tds s0 ∧ KI c h1 s1 ∧ KB s1 ∧ kx c hp0 s0 h1 s1 0 0 ∧ T7 s0 s1 ∧ TD s1 ∧ s1.I 7 = s0.I 7 + t ∧ TDS s1 + 1 ≤ TDS s0 + VD (SD s0) x)) := by
  have w0 := VD_rt (j := 0) hC.1 ho.1 ho.2 hL (by omega)
  rw [show 0 + 1 = 1 from rfl] at w0
  have w1 := WD_1 hC.1 w0.2.1.1 w0.2.1.2
  intro q
  induction q with
  | zero =>
    intro k hp s hq k0 k1 hK hB hX hT hD e7 eS ed9
    refine go_a (pc' := 19) (ls' := [some (.ref (c + 25)), some (.int (iI x)), some (.int (iI t)), some (.int (iI k))]) (st' := [.int (iI k)]) rfl rfl ?_
    refine mi_le0 (t := 44) rfl rfl (by omega) (by omega) (fun _ => ?_) (fun w => absurd (show k ≤ 0 by omega) w)
    refine go_a (pc' := 45) (ls' := [some (.ref (c + 25)), some (.int (iI x)), some (.int (iI t)), some (.int (iI k))]) (st' := [.int (iI 1)]) rfl rfl ?_
    exact go_r rfl rfl rfl rfl rfl rfl (Or.inr ⟨rfl, hL, s, by rw [ed9, show k.toNat = 0 by omega], hK, hB, hX, hT, hD, by omega, by
          rw [eS, show (k + 1).toNat = 1 by omega]
          have e0 : VD (SD s0) (rt (SD s0) 0 x) = VD (SD s0) x := rfl
          rw [← e0, w0.1]
          omega⟩)
  | succ q ih =>
    intro k hp s hq k0 k1 hK hB hX hT hD e7 eS ed9
    refine go_a (pc' := 19) (ls' := [some (.ref (c + 25)), some (.int (iI x)), some (.int (iI t)), some (.int (iI k))]) (st' := [.int (iI k)]) rfl rfl ?_
    refine mi_le0 (t := 44) rfl rfl (by omega) (by omega) (fun w1 => ?_) (fun w1 => ?_)
    · refine go_a (pc' := 45) (ls' := [some (.ref (c + 25)), some (.int (iI x)), some (.int (iI t)), some (.int (iI k))]) (st' := [.int (iI 1)]) rfl rfl ?_
      exact go_r rfl rfl rfl rfl rfl rfl (Or.inr ⟨rfl, hL, s, by rw [ed9, show k.toNat = 0 by omega], hK, hB, hX, hT, hD, by omega, by
            rw [eS, show (k + 1).toNat = 1 by omega]
            have e0 : VD (SD s0) (rt (SD s0) 0 x) = VD (SD s0) x := rfl
            rw [← e0, w0.1]
            omega⟩)
    · have C1 := TF_CI (T7_F hT) hC
      have eD := TF_SD (T7_F hT)
      refine go_a (pc' := 23) (ls' := [some (.ref (c + 25)), some (.int (iI x)), some (.int (iI t)), some (.int (iI k))]) (st' := [.ref (c + 25)]) rfl rfl ?_
      refine go_get (v := .ref (c + 28)) rfl (hK.1 16 (by decide)) rfl rfl ?_
      refine go_a (pc' := 27) (ls' := [some (.ref (c + 25)), some (.int (iI x)), some (.int (iI t)), some (.int (iI k))]) (st' := [.ref (c + 25), .ref (c + 28)]) rfl rfl ?_
      refine go_get (v := .ref (c + 4)) rfl (hK.1 16 (by decide)) rfl rfl ?_
      refine go_a (pc' := 31) (ls' := [some (.ref (c + 25)), some (.int (iI x)), some (.int (iI t)), some (.int (iI k))]) (st' := [.int (iI x), .ref (c + 4), .ref (c + 28)]) rfl rfl ?_
      refine go_a (pc' := 32) (ls' := [some (.ref (c + 25)), some (.int (iI x)), some (.int (iI t)), some (.int (iI k))]) (st' := [.int (iI k), .int (iI x), .ref (c + 4), .ref (c + 28)]) rfl rfl ?_
      refine go_v (m := 202) (as := [.ref (c + 4), .int (iI x), .int (iI k)]) (r := [.ref (c + 28)]) rfl rfl rfl (hK.1 3 (by decide)) rfl rfl (kc_part z (d + 1) c x k hp s hK hB C1 (TF_OB (T7_F hT) ho) (by omega) (by omega)) (fun v h3 hq => ?_)
      obtain ⟨⟨y, rfl, oy, hy⟩, e⟩ := hq
      rw [e]
      clear e h3
      rw [eD] at hy
      have hy := hy _ hL (by omega)
      have wk := VD_rt (j := k.toNat) hC.1 ho.1 ho.2 hL (by omega)
      have b7 := hB.2.2.2.1 7 (by decide)
      have cn := TD_cnt C1 hB hD
      have vx := VD_0 hC.1 ho.1 ho.2
      have oyr := OB_R hB oy
      rw [show k.toNat + 1 = (k + 1).toNat by omega] at wk
      have vk := VD_rtle hC.1 ho.1 ho.2 hL (j := (k + 1).toNat) (by omega)
      show xx_go (xt_P z) (d + 3) 222 35 [some (.ref (c + 25)), some (.int (iI x)), some (.int (iI t)), some (.int (iI k))] [.int (iI y), .ref (c + 28)] hp _
      refine go_v (m := 35) (as := [.ref (c + 28), .int (iI y)]) (r := []) rfl rfl rfl (hK.1 18 (by decide)) rfl rfl (kr_add_7 z (d + 1) c y hp s hK hB (by omega) oyr.1 oyr.2) (fun v h3 hq => ?_)
      obtain ⟨rfl, s1, K1, B1, X1, W1, e1, e2, e3, e4⟩ := hq
      have F1 := T7_row W1 e1
      have e5 : s1.I 7 = s.I 7 + 1 := by rw [e1]; rfl
      obtain ⟨D1, S1⟩ := TD_add hD oy b7.2.2.1 F1 e5 e3 e4
      show xx_go (xt_P z) (d + 3) 222 38 [some (.ref (c + 25)), some (.int (iI x)), some (.int (iI t)), some (.int (iI k))] [] h3 _
      refine go_a (pc' := 41) (ls' := [some (.ref (c + 25)), some (.int (iI x)), some (.int (iI t)), some (.int (iI (k + (-1))))]) (st' := []) rfl (by rw [← iI_add k (-1)]; rfl) ?_
      refine go_a (pc' := 18) (ls' := [some (.ref (c + 25)), some (.int (iI x)), some (.int (iI t)), some (.int (iI (k + (-1))))]) (st' := []) rfl rfl ?_
      have t9 := tds_add b7.2.2.1 F1.1 e5 e3 e4
      have r9 := (ST_rt hST _ k.toNat x ho.1 ho.2 hL (by omega)).1
      rw [hT.1] at t9
      refine ih (k + (-1)) h3 s1 (by omega) (by omega) (by omega) K1 B1 (kx_w (kx_tr hX X1) (by decide) (by decide)) (T7_tr hT F1) D1 (by omega) ?_ ?_
      · rw [S1, eS, eD, show (k + (-1) + 1).toNat = k.toNat by omega, wk.1, hy]
        omega
      · rw [t9, ed9, show (k + (-1)).toNat + 1 = k.toNat by omega, hy, ← List.cons_append]
        congr 1
        have l9 : k.toNat < (sp_as (DK s0.N x)).length := by
          rcases Nat.lt_or_ge k.toNat (sp_as (DK s0.N x)).length with q | q
          · exact q
          · rw [List.getElem?_eq_none q] at r9
            cases r9
        rw [List.drop_eq_getElem_cons l9]
        congr 1
        rw [List.getElem?_eq_getElem l9] at r9
        injection r9 with r9
        exact r9.symm
theorem kg_putOff (z : Value) (d c : Nat) (x t : Int) (hp : xx_H) (s : KS) (hK : KI c hp s) (hB : KB s) (hC : CI s) (ho : OB s x) (t0 : 0 ≤ t) (t1 : t ≤ 7) (hD : TD s) (hw : TDS s + VD (SD s) x ≤ 2000) (hST : STo (SD s) (DK s.N) (s.I 8)) : xx_cl (xt_P z) (d + 4) 222 [.ref (c + 25), .int (iI x), .int (iI t)] hp (fun v h1 => (v = some (.int (iI 0)) ∧ h1 = hp ∧ ¬ isL (SD s) (t + 1).toNat x) ∨ (v = some (.int (iI 1)) ∧ isL (SD s) (t + 1).toNat x ∧ ∃ s1 : KS, tds s1 = (sp_as (DK s.N x)).drop 1 ++ tds s ∧ KI c h1 s1 ∧ KB s1 ∧ kx c hp s h1 s1 0 0 ∧ T7 s s1 ∧ TD s1 ∧ s1.I 7 = s.I 7 + t ∧ TDS s1 + 1 ≤ TDS s + VD (SD s) x)) := by
  refine cl_go rfl ?_
  show xx_go (xt_P z) (d + 3) 222 0 [some (.ref (c + 25)), some (.int (iI x)), some (.int (iI t)), none] [] hp _
  refine go_a (pc' := 1) (ls' := [some (.ref (c + 25)), some (.int (iI x)), some (.int (iI t)), none]) (st' := [.ref (c + 25)]) rfl rfl ?_
  refine go_get (v := .ref (c + 4)) rfl (hK.1 16 (by decide)) rfl rfl ?_
  refine go_a (pc' := 5) (ls' := [some (.ref (c + 25)), some (.int (iI x)), some (.int (iI t)), none]) (st' := [.int (iI x), .ref (c + 4)]) rfl rfl ?_
  refine go_v (m := 198) (as := [.ref (c + 4), .int (iI x)]) (r := []) rfl rfl rfl (hK.1 3 (by decide)) rfl rfl (kc_listLength z (d + 1) c x hp s hK hB hC ho) (fun v h3 hq => ?_)
  obtain ⟨⟨n, rfl, hn⟩, e⟩ := hq
  rw [e]
  clear e h3
  have nr : -1 ≤ n ∧ n ≤ 140000 := by
    rcases hn with ⟨q, -⟩ | ⟨m, q, hL⟩
    · omega
    · have := isL_len hC.1 _ m x (Nat.le_refl _) ho.1 ho.2 hL
      have l8 : s.I 8 ≤ 140000 := hC.1.1
      have := ho.2
      omega
  show xx_go (xt_P z) (d + 3) 222 8 [some (.ref (c + 25)), some (.int (iI x)), some (.int (iI t)), none] [.int (iI n)] hp _
  refine go_a (pc' := 9) (ls' := [some (.ref (c + 25)), some (.int (iI x)), some (.int (iI t)), none]) (st' := [.int (iI t), .int (iI n)]) rfl rfl ?_
  refine go_a (pc' := 10) (ls' := [some (.ref (c + 25)), some (.int (iI x)), some (.int (iI t)), none]) (st' := [.int (iI 1), .int (iI t), .int (iI n)]) rfl rfl ?_
  refine mi_add rfl ?_
  refine mi_eq (t := 16) rfl rfl (by omega) (by omega) (by omega) (by omega) (fun w => ?_) (fun w => ?_)
  · have hL : isL (SD s) (t + 1).toNat x := by
      rcases hn with ⟨q, -⟩ | ⟨m, q, hL⟩
      · omega
      · rw [show (t + 1).toNat = m by omega]
        exact hL
    refine go_a (pc' := 17) (ls' := [some (.ref (c + 25)), some (.int (iI x)), some (.int (iI t)), none]) (st' := [.int (iI t)]) rfl rfl ?_
    refine go_a (pc' := 18) (ls' := [some (.ref (c + 25)), some (.int (iI x)), some (.int (iI t)), some (.int (iI t))]) (st' := []) rfl rfl ?_
    refine kg_off_loop z d c x t hp s hC ho t0 t1 hL hw hST _ t hp s (Nat.le_refl _) t0 (Int.le_refl _) hK hB kx_rf T7_rf hD (by omega) ?_ ?_
    · rw [isL_end _ _ hL, VD_atom (CI_n0 hC), if_pos rfl]
      omega
    · have l9 := ((ST_isL hST _ x ho.1 ho.2).mp hL).2
      rw [List.drop_eq_nil_of_le (by omega)]
      rfl
  · have nl9 : ¬ isL (SD s) (t + 1).toNat x := by
      intro hL9
      have a9 := ((ST_isL hST _ x ho.1 ho.2).mp hL9).2
      rcases hn with ⟨q, hn⟩ | ⟨m, q, hL⟩
      · exact hn _ hL9
      · have b9 := ((ST_isL hST _ x ho.1 ho.2).mp hL).2
        omega
    refine go_a (pc' := 15) (ls' := [some (.ref (c + 25)), some (.int (iI x)), some (.int (iI t)), none]) (st' := [.int (iI 0)]) rfl rfl ?_
    exact go_r rfl rfl rfl rfl rfl rfl (Or.inl ⟨rfl, rfl, nl9⟩)
