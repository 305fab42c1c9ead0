theorem cl_w' {P : xx_P} {d k pc : Nat} {ls : xx_L} {st : List Value} {h : xx_H} {Q Q' : Option Value → xx_H → Prop} (hg : xx_go P d k pc ls st h Q) (hw : ∀ v h1, Q v h1 → Q' v h1) : xx_go P d k pc ls st h Q' := go_w hw hg
theorem mm_inducts (z : Value) (d : Nat) (ar : Int → Int) (ft : Nat → Int) (fn : Nat) (o c fo e : Int) (h R : xx_H) (I : Nat → Int) (A : Nat → Int → Int) (N : Int → Int) (hc : 12 ≤ h.length) (hB : BI ar I A N) (k0 : 0 ≤ o) (k1 : o < I 7) (hI : IND ar I A o e) (q0 : 0 ≤ fo) (q1 : fo < I 7) (q2 : 1 ≤ TZ A ar fo) (q3 : TZ A ar fo ≤ 120) (c0 : 0 ≤ c) (c1 : c + PS A (fun _ => 1) (A 23 e) ≤ 350) (hC : ∀ p : Int, 0 ≤ p → p < PS A (fun _ => 1) (A 23 e) → CLA ar I A (c + p)) (ho : I 7 + 4 * (PS A (fun _ => 1) (A 23 e) - 1) + 240 * PS A (fun _ => 1) (A 23 e) + TZ A ar fo * 120 + 500 ≤ 140000) (hX : TRX I A N) (hK : ART ar ft I A N) (hsf : 1 ≤ TS A ar fo) (hb : 1 ≤ TS A ar (A 23 e)) (ff : DM A N (A 20 e) = .var fn) (w0 : I 49 = 0) : xx_cl (xt_P z) (d + 10) 167 [.ref h.length, .int (iI o), .int (iI c), .int (iI fo)] (mh h R I A N) (fun v h1 => ∃ (b : Int) (I1 : Nat → Int) (A1 : Nat → Int → Int), v = some (.int (iI b)) ∧ h1 = mh h R I1 A1 N ∧ RU ar (4 * (PS A (fun _ => 1) (A 23 e) - 1) + 240 * PS A (fun _ => 1) (A 23 e) + TZ A ar fo * 120) I A N I1 A1 N ∧ ((b = 0 ∧ ¬ (∀ p : Int, 0 ≤ p → p < PS A (fun _ => 1) (A 23 e) → RNC fn (VsP A N e (A 21 e).toNat) (VlP A N (A 2 (A 1 (rt A 2 o))) (A 21 e).toNat) (OsP A N (A 2 (A 1 (rt A 2 o))) (A 21 e).toNat) (DM A N fo) (DM A N (A 23 e)) A N c p)) ∨ (b = 1 ∧ (∃ S V : Int, DR ar 1 S V I1 A1) ∧ ((I1 49 = 0 ∧ (∀ p : Int, 0 ≤ p → p < PS A (fun _ => 1) (A 23 e) → RNC fn (VsP A N e (A 21 e).toNat) (VlP A N (A 2 (A 1 (rt A 2 o))) (A 21 e).toNat) (OsP A N (A 2 (A 1 (rt A 2 o))) (A 21 e).toNat) (DM A N fo) (DM A N (A 23 e)) A N c p) ∧ DIT [some (DM A N fo)] I1 A1 N) ∨ (¬ I1 49 = 0 ∧ ¬ (∀ p : Int, 0 ≤ p → p < PS A (fun _ => 1) (A 23 e) → RNC fn (VsP A N e (A 21 e).toNat) (VlP A N (A 2 (A 1 (rt A 2 o))) (A 21 e).toNat) (OsP A N (A 2 (A 1 (rt A 2 o))) (A 21 e).toNat) (DM A N fo) (DM A N (A 23 e)) A N c p)))))) := by
  have hP := BI_P hB
  have n0 := BI_n0 hB
  have p9 := hP.1
  have i40 := hB.2.2.1.1.1
  have a3 : ar 3 = 3 := hB.2.1.1.1.1
  have a15 : ar 15 = 1 := hB.2.1.1.1.2.2 15 (by decide) (by decide)
  obtain ⟨n, hL, n3, tk, ⟨cp, e0, e1, ee, eu⟩, ⟨lL, lV⟩, nn⟩ := hI
  have De := hB.2.2.1.2.1 e e0 e1
  have d1 := De.1
  have rd := DFS_rd hB
  have cb := (VD_rt hP k0 k1 hL (by omega : 2 < n)).2.1
  have qca := hP.2 (A 1 (rt A 2 o)) cb.1 cb.2
  obtain ⟨m, hm⟩ : ∃ m : Nat, A 21 e = m := ⟨(A 21 e).toNat, by have := De.2.1.1; omega⟩
  have lL2 : isL A m (A 2 (A 1 (rt A 2 o))) := by
    rw [show m = (A 21 e).toNat by omega]
    exact lL
  have bd := De.2.2.2.1
  have bt := De.2.2.2.2.1
  have nst := De.2.2.2.2.2.1
  refine cl_go rfl ?_
  show xx_go (xt_P z) (d + 9) 167 0 [some (.ref h.length), some (.int (iI o)), some (.int (iI c)), some (.int (iI fo)), none, none, none, none, none, none] [] (mh h R I A N) _
  refine go_a (pc' := 1) (ls' := [some (.ref h.length), some (.int (iI o)), some (.int (iI c)), some (.int (iI fo)), none, none, none, none, none, none]) (st' := [.ref h.length]) rfl rfl ?_
  refine go_a (pc' := 2) (ls' := [some (.ref h.length), some (.int (iI o)), some (.int (iI c)), some (.int (iI fo)), none, none, none, none, none, none]) (st' := [.int (iI o), .ref h.length]) rfl rfl ?_
  refine go_a (pc' := 3) (ls' := [some (.ref h.length), some (.int (iI o)), some (.int (iI c)), some (.int (iI fo)), none, none, none, none, none, none]) (st' := [.int (iI 2), .int (iI o), .ref h.length]) rfl rfl ?_
  refine go_v (m := 99) (as := [.ref h.length, .int (iI o), .int (iI 2)]) (r := []) rfl rfl rfl mh_o rfl rfl (mm_nth z (d + 8) 2 n o h R I A N hc hP (by decide) k0 k1 hL (by omega)) (fun v h1 hq => ?_)
  obtain ⟨rfl, rfl⟩ := hq
  show xx_go (xt_P z) (d + 9) 167 6 [some (.ref h.length), some (.int (iI o)), some (.int (iI c)), some (.int (iI fo)), none, none, none, none, none, none] [.int (iI (A 1 (rt A 2 o)))] (mh h R I A N) _
  refine go_a (pc' := 8) (ls' := [some (.ref h.length), some (.int (iI o)), some (.int (iI c)), some (.int (iI fo)), some (.int (iI (A 1 (rt A 2 o)))), none, none, none, none, none]) (st' := []) rfl rfl ?_
  refine go_a (pc' := 9) (ls' := [some (.ref h.length), some (.int (iI o)), some (.int (iI c)), some (.int (iI fo)), some (.int (iI (A 1 (rt A 2 o)))), none, none, none, none, none]) (st' := [.ref h.length]) rfl rfl ?_
  refine go_a (pc' := 10) (ls' := [some (.ref h.length), some (.int (iI o)), some (.int (iI c)), some (.int (iI fo)), some (.int (iI (A 1 (rt A 2 o)))), none, none, none, none, none]) (st' := [.ref h.length, .ref h.length]) rfl rfl ?_
  refine go_get rfl mh_o rfl rfl ?_
  refine go_a (pc' := 15) (ls' := [some (.ref h.length), some (.int (iI o)), some (.int (iI c)), some (.int (iI fo)), some (.int (iI (A 1 (rt A 2 o)))), none, none, none, none, none]) (st' := [.int (iI (A 1 (rt A 2 o))), .ref (h.length + 1), .ref h.length]) rfl rfl ?_
  refine mi_ild rfl mh_a1 (by omega) (by omega) (by decide) ?_
  refine go_v (m := 132) (as := [.ref h.length, .int (iI (A 1 (A 1 (rt A 2 o))))]) (r := []) rfl rfl rfl mh_o rfl rfl (mm_definitionF z (d + 8) (A 1 (A 1 (rt A 2 o))) h R I A N hc (by omega) (by omega) rd.1.1 rd.1.2 rd.2) (fun v h1 hq => ?_)
  obtain ⟨⟨x, rfl, hx⟩, rfl⟩ := hq
  have xe : x = e := by
    rcases hx with ⟨-, q⟩ | ⟨x0, x1, x2, x3⟩
    · exact absurd ee (q e e0 e1)
    · by_cases u : x < e
      · exact absurd x2 (eu x x0 u)
      · by_cases v : e < x
        · exact absurd ee (x3 e e0 v)
        · omega
  subst xe
  show xx_go (xt_P z) (d + 9) 167 19 [some (.ref h.length), some (.int (iI o)), some (.int (iI c)), some (.int (iI fo)), some (.int (iI (A 1 (rt A 2 o)))), none, none, none, none, none] [.int (iI x)] (mh h R I A N) _
  refine go_a (pc' := 21) (ls' := [some (.ref h.length), some (.int (iI o)), some (.int (iI c)), some (.int (iI fo)), some (.int (iI (A 1 (rt A 2 o)))), some (.int (iI x)), none, none, none, none]) (st' := []) rfl rfl ?_
  refine go_a (pc' := 22) (ls' := [some (.ref h.length), some (.int (iI o)), some (.int (iI c)), some (.int (iI fo)), some (.int (iI (A 1 (rt A 2 o)))), some (.int (iI x)), none, none, none, none]) (st' := [.ref h.length]) rfl rfl ?_
  refine go_a (pc' := 23) (ls' := [some (.ref h.length), some (.int (iI o)), some (.int (iI c)), some (.int (iI fo)), some (.int (iI (A 1 (rt A 2 o)))), some (.int (iI x)), none, none, none, none]) (st' := [.ref h.length, .ref h.length]) rfl rfl ?_
  refine go_get rfl mh_o rfl rfl ?_
  refine go_a (pc' := 28) (ls' := [some (.ref h.length), some (.int (iI o)), some (.int (iI c)), some (.int (iI fo)), some (.int (iI (A 1 (rt A 2 o)))), some (.int (iI x)), none, none, none, none]) (st' := [.int (iI x), .ref (h.length + 23), .ref h.length]) rfl rfl ?_
  refine mi_ild rfl mh_a23 (by omega) (by omega) (by decide) ?_
  refine go_v (m := 122) (as := [.ref h.length, .int (iI (A 23 x))]) (r := []) rfl rfl rfl mh_o rfl rfl (mm_pathsOf z d ar (A 23 x) (TZ A ar (A 23 x)) h R I A N hc hB.1.1 hB.1.2.1 hX a3 a15 (by rw [hB.2.2.2.1.2]; decide) (by rw [hB.2.2.2.1.2]; decide) (by have := Int.mul_nonneg (show 0 ≤ TZ A ar fo by omega) (show (0 : Int) ≤ 120 by decide); omega) bt.2 hB.1.2.2 hb bd.1 bd.2 bt.1 rfl hB.2.2.2.2.1 hB.2.2.2.2.2) (fun v h1 hq => ?_)
  obtain ⟨rfl, I1, A1, rfl, H1, PX1⟩ := hq
  show xx_go (xt_P z) (d + 9) 167 32 [some (.ref h.length), some (.int (iI o)), some (.int (iI c)), some (.int (iI fo)), some (.int (iI (A 1 (rt A 2 o)))), some (.int (iI x)), none, none, none, none] [] (mh h R I1 A1 N) _
  refine go_a (pc' := 33) (ls' := [some (.ref h.length), some (.int (iI o)), some (.int (iI c)), some (.int (iI fo)), some (.int (iI (A 1 (rt A 2 o)))), some (.int (iI x)), none, none, none, none]) (st' := [.int (iI 0)]) rfl rfl ?_
  refine go_a (pc' := 35) (ls' := [some (.ref h.length), some (.int (iI o)), some (.int (iI c)), some (.int (iI fo)), some (.int (iI (A 1 (rt A 2 o)))), some (.int (iI x)), some (.int (iI 0)), none, none, none]) (st' := []) rfl rfl ?_
  have hcnt := PTI_cnt H1
  obtain ⟨⟨B1, Z1⟩, u1, ⟨-, p71, c71⟩, hr, -, hs, hse⟩ := H1
  have e71 : I1 71 = PS A (fun _ => 1) (A 23 x) := by
    have q := hs (fun _ => 1)
    rw [SG_one] at q
    have q2 : SG (PS A fun _ => 1) (A1 42) (0 : Int).toNat = 0 := rfl
    omega
  have R1 : RU ar (4 * (PS A (fun _ => 1) (A 23 x) - 1)) I A N I1 A1 N := RU_of hB B1 (fun j q => by unfold FP at q; unfold FC; omega) (fun a q => by unfold GP at q; unfold GC; omega) Z1 (B1.2.2.2.1 54 (by decide) (by unfold FP; omega)) (B1.2.2.2.1 56 (by decide) (by unfold FP; omega)) u1.1 (by omega) u1.2
  have P1 := RU_P R1
  have x7 := R1.1.2.1
  have g20 : A1 20 = A 20 := B1.2.2.2.2 20 (by decide) (by decide) (by decide) (by decide) (by decide) (by decide) (by unfold GP; omega)
  have g21 : A1 21 = A 21 := B1.2.2.2.2 21 (by decide) (by decide) (by decide) (by decide) (by decide) (by decide) (by unfold GP; omega)
  have g32 : I1 32 = I 32 := B1.2.2.2.1 32 (by decide) (by unfold FP; omega)
  have hT : ∀ p : Int, 0 ≤ p → p < I1 71 → PTP ar I1 A1 (A1 20 x) p := by
    intro p p0 p1
    have r := hr p p0 p1
    have rm := RLP_many r bt.2
    obtain ⟨r1, r2, r3, r4⟩ := r
    have tx := (TZ_BX (ar := ar) hP B1 r1.1.1 r1.1.2).1 r1.2
    unfold PTP
    rw [tx]
    refine ⟨⟨⟨r1.1.1, by omega⟩, r1.2⟩, ⟨r2, rm⟩, r3, by omega, ?_⟩
    rw [g20]
    have q := hs (NT A (wy A ar (A 20 x)))
    have q2 : SG (PS A (NT A (wy A ar (A 20 x)))) (A1 42) (0 : Int).toNat = 0 := rfl
    have q3 : PS A (NT A (wy A ar (A 20 x))) (A 23 x) = 0 := nst
    have nn1 : ∀ e : Nat, e < (I1 71).toNat → 0 ≤ NT A (wy A ar (A 20 x)) (A1 39 e) := fun e he => by
      have r := hr e (by omega) (by omega)
      exact (NT_nn hP (fun j a b => wy_nn hP (by omega) j a b) _ _ (Nat.lt_succ_self _) r.1.1.1 r.1.1.2).1
    have q4 := SG_each (g := NT A (wy A ar (A 20 x))) (f := A1 39) (I1 71).toNat nn1 p.toNat (by omega)
    have q5 := nn1 p.toNat (by omega)
    rw [show ((p.toNat : Nat) : Int) = p by omega] at q4 q5
    rw [(NT_extT (ar := ar) hP P1 x7 (fun k a b => ⟨(B1.2.2.1 k a b).1, (B1.2.2.1 k a b).2.1⟩) (fun k a b c => wy_BX (by omega) hP B1 k a b c) _ _ (Nat.lt_succ_self _) r1.1.1 r1.1.2).1 r1.2]
    show NT A (wy A ar (A 20 x)) (A1 39 p) = 0
    omega
  have hse2 : SG (TZ A1 ar) (A1 39) (I1 71).toNat ≤ 120 := by
    rw [SG_congr (g1 := TZ A ar) (f1 := A1 39) _ (fun e he => ?_)]
    · have q2 : SG (TZ A ar) (A1 42) (0 : Int).toNat = 0 := rfl
      omega
    · have r := hr e (by omega) (by omega)
      exact (TZ_BX (ar := ar) hP B1 r.1.1.1 r.1.1.2).1 r.1.2
  have tf := RU_t hP R1 q0 q1 q2
  have T1 : TRX I1 A1 N := TRX_BX hB.1.1 hB.1.2.1 hX B1 (by unfold FP; omega) (by unfold GP; omega) (by unfold GP; omega)
  have K1 : ART ar ft I1 A1 N := ART_BX hB hX hK B1 (by unfold FP; omega) (by unfold GP; omega) (by unfold GP; omega)
  have dd : ∀ x : Int, 0 ≤ x → x < I 7 → DM A1 N x = DM A N x := fun x x0 x1 => DM_BX hB.1.1 hX B1 (by unfold FP; omega) (by unfold GP; omega) (by unfold GP; omega) x0 x1
  have nn : sp_arT ft (.var 31651) = 1 := by
    have q := hK 15 (by decide) (by have := hB.1.2.1.1; omega)
    rw [a15, show DM A N 15 = .var 31651 from hX.2 15 (by decide)] at q
    exact q.symm
  have hbt : 1 ≤ (sp_ts ft (DM A N (A 23 x))).1 := by
    rw [TS_1 hB.1.1 hB.1.2.1 hX hK bd.1 bd.2]
    exact hb
  have szb : (sp_sz (DM A N (A 23 x))).1 ≤ 120 := by
    rw [TZ_1 (ar := ar) hB.1.1 hB.1.2.1 hX bd.1 bd.2 bt.1]
    exact bt.2
  obtain ⟨P, S, ⟨pl, sl⟩, pp, -, pe, pw⟩ := PX1
  have S0 : S = [] := List.eq_nil_of_length_eq_zero (by omega)
  rw [S0] at pe pw
  have pe : P = sp_ph (DM A N (A 23 x)) := by
    rw [← pe]
    exact (List.append_nil P).symm
  have pth := ph_ts (ft := ft) (tsz (DM A N (A 23 x)) + 1) (DM A N (A 23 x)) (by omega) hbt
  rw [← pe] at pth
  have w1 : I1 49 = 0 := pw.mpr ⟨w0, fun p hp r hr _ => by
    have s := (pth p hp).1 r hr
    have t := sz_not nn s.1
    omega, fun s hs => by cases hs⟩
  have pthE : ∀ p : Int, 0 ≤ p → p < I1 71 → ∃ q : List (Bool × ob_T) × ob_T, (sp_ph (DM A N (A 23 x)))[p.toNat]? = some q ∧ q.2 = DM A N (A1 39 p) ∧ PEN N A1 (I1 49 = 0) q.1 (A1 41 p) (fun k => A1 40 (64 * p + k)) ∧ (∀ r ∈ q.1, 1 ≤ (sp_ts ft r.2).1 ∧ (sp_sz r.2).1 < 120) ∧ 1 ≤ (sp_ts ft q.2).1 := by
    intro p p0 p1
    obtain ⟨q, a, b, c⟩ := pp p.toNat (by omega)
    rw [show ((p.toNat : Nat) : Int) = p by omega] at b c
    have t := pth q (List.mem_of_getElem? a)
    rw [pe] at a
    exact ⟨q, a, b, c, fun r hr => ⟨(t.1 r hr).1, by have := (t.1 r hr).2; omega⟩, t.2⟩
  have hr1 : ∀ p : Int, 0 ≤ p → p < I1 71 → (∀ k : Int, 0 ≤ k → k < A1 41 p → 1 ≤ TS A1 ar (A1 40 (64 * p + k))) ∧ 1 ≤ TS A1 ar (A1 39 p) := by
    intro p p0 p1
    obtain ⟨q, -, b, c, t, u⟩ := pthE p p0 p1
    have hp1 := hT p p0 p1
    refine ⟨fun k k0 k1 => ?_, ?_⟩
    · obtain ⟨bb, τ, e1, e2⟩ := c.2 k.toNat (by have := c.1; omega)
      have e2 := e2 w1
      rw [show ((k.toNat : Nat) : Int) = k by omega] at e2
      have mr := (t (bb, τ) (List.mem_of_getElem? e1)).1
      have rk := hp1.2.2.1 k k0 k1
      have s := TS_1 R1.2.1.1.1 R1.2.1.1.2.1 T1 K1 rk.1.1 rk.1.2
      have s1 : (sp_ts ft (DM A1 N (A1 40 (64 * p + k)))).1 = TS A1 ar (A1 40 (64 * p + k)) := by rw [s]
      rw [← s1, e2]
      cases bb with
      | true => exact mr
      | false => exact ts_not nn τ mr
    · have s := TS_1 R1.2.1.1.1 R1.2.1.1.2.1 T1 K1 hp1.1.1.1 hp1.1.1.2
      have s1 : (sp_ts ft (DM A1 N (A1 39 p))).1 = TS A1 ar (A1 39 p) := by rw [s]
      have r := hr p p0 p1
      rw [← s1, dd _ r.1.1.1 r.1.1.2, ← b]
      exact u
  have tsf : 1 ≤ TS A1 ar fo := by
    have s1 : (sp_ts ft (DM A1 N fo)).1 = TS A1 ar fo := by rw [TS_1 R1.2.1.1.1 R1.2.1.1.2.1 T1 K1 q0 (by omega)]
    rw [← s1, dd _ q0 q1, TS_1 hB.1.1 hB.1.2.1 hX hK q0 q1]
    exact hsf
  have cx := B1.2.2.1 (A 1 (rt A 2 o)) cb.1 cb.2
  have qc2 := qca.2.2.2.2 cp
  have VJ : ∀ j : Nat, j < m → A1 1 (A1 1 (rt A1 j (A1 2 (A 1 (rt A 2 o))))) = -2 ∧ 1 < A1 1 (rt A1 j (A1 2 (A 1 (rt A 2 o)))) := by
    intro j hj
    have b := (VD_rt hP qca.2.2.1 (by omega) lL2 hj).2.1
    rw [cx.2.1, it_BX hP B1 qca.2.2.1 (by omega) lL2 hj, (B1.2.2.1 _ b.1 b.2).1]
    exact lV j (by omega)
  have mm9 : (A 21 x).toNat = m := by omega
  have hO := OsP_RNV hB.1.1 hB.1.2.1 hX hP qca.2.2.1 (by omega) lL2 (fun j hj => lV j (by omega))
  have rok : ∀ p : Int, 0 ≤ p → p < I1 71 → (ROK fn (VsP A1 N x m) (VlP A1 N (A1 2 (A 1 (rt A 2 o))) m) (OsP A1 N (A1 2 (A 1 (rt A 2 o))) m) (DM A1 N fo) A1 N c p ↔ RNC fn (VsP A N x (A 21 x).toNat) (VlP A N (A 2 (A 1 (rt A 2 o))) (A 21 x).toNat) (OsP A N (A 2 (A 1 (rt A 2 o))) (A 21 x).toNat) (DM A N fo) (DM A N (A 23 x)) A N c p) := by
    intro p p0 p1
    have ev : VsP A1 N x m = VsP A N x m := VsP_BX hB.1.1 hX B1 (by unfold FP; omega) (by unfold GP; omega) (by unfold GP; omega) (by unfold GP; omega) (fun k a b => (De.2.2.1 k a (by omega)).1)
    have eo := OsP_BX hB.1.1 hX B1 (by unfold FP; omega) (by unfold GP; omega) (by unfold GP; omega) qca.2.2.1 (by omega) lL2
    rw [mm9, cx.2.1, ev, eo.1, eo.2, dd _ q0 q1]
    obtain ⟨q, a, b, c9, t, u⟩ := pthE p p0 p1
    have r := hr p p0 p1
    rw [← dd _ r.1.1.1 r.1.1.2] at b
    rw [ROK_iff hO nn a b c9 w1 t]
    have h50 : A1 50 = A 50 := B1.2.2.2.2 50 (by decide) (by decide) (by decide) (by decide) (by decide) (by decide) (by unfold GP; omega)
    have h51 : A1 51 = A 51 := B1.2.2.2.2 51 (by decide) (by decide) (by decide) (by decide) (by decide) (by decide) (by unfold GP; omega)
    have cl := hC p p0 (by omega)
    unfold RNC
    rw [h50, h51]
    refine ⟨fun ⟨q, D, e1, e2, e3⟩ => ⟨q, D, e1, e2, fun k k0 k1 => ?_⟩, fun ⟨q, D, e1, e2, e3⟩ => ⟨q, D, e1, e2, fun k k0 k1 => ?_⟩⟩
    · have b := (cl.2.1 k k0 k1).1
      rw [← dd _ b.1 b.2]
      exact e3 k k0 k1
    · have b := (cl.2.1 k k0 k1).1
      rw [dd _ b.1 b.2]
      exact e3 k k0 k1
  refine cl_w' (mm_ind_p z d m ar ft fn o c fo (A 1 (rt A 2 o)) x h R I1 A1 N hc R1.2.1 e0 (by omega) (by rw [g21]; exact hm) cb.1 (by omega) (by rw [cx.1]; exact cp) (by rw [cx.2.1]; exact isL_extB hP B1 m _ qca.2.2.1 (by omega) lL2) VJ ⟨p71, by omega⟩ hT hse2 q0 (by omega) (by rw [tf]; exact q2) (by rw [tf]; exact q3) c0 (by omega) (fun p a b => CLA_RU hP R1 (hC p a (by omega))) (by rw [tf, e71]; omega) T1 K1 hr1 tsf (by rw [g20, dd _ (by omega) (by omega)]; exact ff) (by rw [g20]; omega) (I1 71).toNat 0 I1 A1 none none none (by omega) (Int.le_refl _) p71 (RZ_rf R1.2.1 (by show 0 ≤ 240 * 0 + _ * 0; omega)) (IDP_0 w1)) ?_
  intro v h1 q
  obtain ⟨b, I2, A2, rfl, rfl, R2, hb⟩ := q
  rw [tf, e71] at R2
  refine ⟨b, I2, A2, rfl, rfl, RU_tr R1 R2 (by omega), ?_⟩
  rcases hb with ⟨b0, q, ⟨qa, qb⟩, nq⟩ | ⟨b1, dr, idp, dit⟩
  · exact Or.inl ⟨b0, fun all => nq ((rok q qa qb).mpr (all q qa (by omega)))⟩
  · refine Or.inr ⟨b1, dr, ?_⟩
    rcases idp with ⟨a, all⟩ | ⟨a, q, ⟨qa, qb⟩, nq⟩
    · have dt := dit a
      rw [dd _ q0 q1] at dt
      exact Or.inl ⟨a, fun p p0 p1 => (rok p p0 (by omega)).mp (all p p0 (by omega)), dt⟩
    · exact Or.inr ⟨a, fun all => nq ((rok q qa qb).mpr (all q qa (by omega)))⟩

