def MD (ar : Int → Int) (n t m : Int) (I : Nat → Int) (A : Nat → Int → Int) (N : Int → Int) (I1 : Nat → Int) (A1 : Nat → Int → Int) : Prop := BX FW GB I A N I1 A1 N ∧ SZI ar I1 A1 ∧ (I1 54 = I 54 ∧ I1 56 = I 56) ∧ ((0 ≤ t ∧ t < I1 7) ∧ 1 ≤ TZ A1 ar t) ∧ I1 7 ≤ I 7 + n ∧ ((0 ≤ I1 49 ∧ I1 49 ≤ 4) ∧ (¬ I 49 = 0 → I1 49 = I 49) ∧ (I1 49 = 0 → TZ A1 ar t ≤ m)) ∧ (∀ q : Int, 0 ≤ q → q < I 56 → A1 32 q = A 32 q)
theorem MD_w {ar : Int → Int} {n n2 t m : Int} {I I1 : Nat → Int} {A A1 : Nat → Int → Int} {N : Int → Int} (h : MD ar n t m I A N I1 A1) (w : n ≤ n2) : MD ar n2 t m I A N I1 A1 := ⟨h.1, h.2.1, h.2.2.1, h.2.2.2.1, by have := h.2.2.2.2.1; omega, h.2.2.2.2.2⟩
theorem MD_rf {ar : Int → Int} {n t m : Int} {I : Nat → Int} {A : Nat → Int → Int} {N : Int → Int} (hS : MST I A N) (hZ : SZI ar I A) (h0 : 0 ≤ n) (t0 : 0 ≤ t) (t1 : t < I 7) (t2 : 1 ≤ TZ A ar t) (t3 : TZ A ar t ≤ m) (u0 : 0 ≤ I 49) (u1 : I 49 ≤ 4) : MD ar n t m I A N I A := ⟨BX_rf hS, hZ, ⟨rfl, rfl⟩, ⟨⟨t0, t1⟩, t2⟩, by omega, ⟨⟨u0, u1⟩, fun _ => rfl, fun _ => t3⟩, fun _ _ _ => rfl⟩
theorem mm_made_end (z : Value) (d : Nat) (ar : Int → Int) (f a b c : Int) (h R : xx_H) (I : Nat → Int) (A : Nat → Int → Int) (N : Int → Int) (hc : 12 ≤ h.length) (hS : MST I A N) (hN : NM I A) (hZ : SZI ar I A) (hT : TRX I A N) (f0 : 0 ≤ f) (f1 : f < I 7) (f2 : f ≠ 2) (kb0 : 0 ≤ I 56) (kb1 : I 56 ≤ 2390) (ho : I 7 + 4 ≤ 140000) (u0 : 0 ≤ I 49) (u1 : I 49 ≤ 4) (Ax : Nat → Int → Int) (n : Int) (n0 : 0 ≤ n) (n3 : n ≤ 3) (e1 : Ax 1 = A 1) (e2 : Ax 2 = A 2) (e3 : Ax 3 = A 3) (e4 : Ax 4 = A 4) (e5 : Ax 5 = A 5) (e7 : Ax 7 = A 7) (e8 : ∀ x : Nat, x ≠ 32 → Ax x = A x) (hl : ∀ q : Int, 0 ≤ q → q < I 56 → Ax 32 q = A 32 q) (hb : ∀ q : Int, I 56 ≤ q → q < I 56 + n → (0 ≤ Ax 32 q ∧ Ax 32 q < I 7) ∧ 1 ≤ TZ A ar (Ax 32 q)) (ha : n = ar f) : xx_go (xt_P z) (d + 5) 127 33 [some (.ref h.length), some (.int (iI f)), some (.int (iI a)), some (.int (iI b)), some (.int (iI c)), some (.int (iI (I 56))), none] [] (mh h R (su I 56 (I 56 + n)) Ax N) (fun v h1 => ∃ (t : Int) (I1 : Nat → Int) (A1 : Nat → Int → Int), v = some (.int (iI t)) ∧ h1 = mh h R I1 A1 N ∧ MD ar (n + 1) t 120 I A N I1 A1 ∧ TZ A1 ar t = 1 + SL A ar (Ax 32) (I 56 + n) n.toNat ∧ DM A1 N t = .add (DM A N f) (sp_li ((List.range n.toNat).map (fun (j : Nat) => DM A N (Ax 32 (I 56 + j))))) ∧ (I 49 = 0 → TZ A1 ar t ≤ 120 → I1 49 = 0)) := by
  have tz := TZ_124 (A := A) (A1 := Ax) (ar := ar) e1 e2 e4
  have Sx : MST (su I 56 (I 56 + n)) Ax N := MST_congr hS rfl rfl e1 e2 e3 e4 e5 e7 (e8 8 (by decide)) (e8 9 (by decide))
  have Nx : NM (su I 56 (I 56 + n)) Ax := ⟨hN.1, fun k k0 k1 => by rw [e1]; exact hN.2 k k0 k1⟩
  have Zx : SZI ar (su I 56 (I 56 + n)) Ax := by
    exact SZI_124 hZ e1 e2 e4 rfl
  have Bx : BX FW GB I A N (su I 56 (I 56 + n)) Ax N := ⟨Sx, Int.le_refl _, fun k _ _ => ⟨by rw [e1], by rw [e2], rfl, fun e => by rw [e4]; exact e⟩, fun j p q => su_ne (fun e => q (Or.inr (Or.inl e))), fun x _ _ _ _ _ _ q7 => e8 x (fun e => q7 (Or.inr (Or.inr (Or.inr e))))⟩
  refine go_a (pc' := 34) (ls' := [some (.ref h.length), some (.int (iI f)), some (.int (iI a)), some (.int (iI b)), some (.int (iI c)), some (.int (iI (I 56))), none]) (st' := [.ref h.length]) rfl rfl ?_
  refine go_a (pc' := 35) (ls' := [some (.ref h.length), some (.int (iI f)), some (.int (iI a)), some (.int (iI b)), some (.int (iI c)), some (.int (iI (I 56))), none]) (st' := [.int (iI f), .ref h.length]) rfl rfl ?_
  refine go_a (pc' := 37) (ls' := [some (.ref h.length), some (.int (iI f)), some (.int (iI a)), some (.int (iI b)), some (.int (iI c)), some (.int (iI (I 56))), none]) (st' := [.int (iI (I 56)), .int (iI f), .ref h.length]) rfl rfl ?_
  refine go_v (m := 114) (as := [.ref h.length, .int (iI f), .int (iI (I 56))]) (r := []) rfl rfl rfl mh_o rfl rfl (mm_callFrom z d ar f (I 56) h R (su I 56 (I 56 + n)) Ax N hc Sx Nx Zx f0 f1 f2 kb0 (show I 56 ≤ I 56 + n by omega) (show I 56 + n ≤ 2400 by omega) (fun q q0 q1 => by rw [tz.1]; exact hb q q0 q1) (show I 56 + n - I 56 = ar f by omega) (show I 7 + (I 56 + n - I 56) + 1 ≤ 140000 by omega)) (fun v h1 hq => ?_)
  obtain ⟨t, I1, A1, rfl, rfl, X, Z1, t0, t1, g1, g2, g3, g9, g10⟩ := hq
  have g3 : I1 7 ≤ I 7 + (I 56 + n - I 56) + 1 := g3
  have X2 : BX FW GB I A N I1 A1 N := BX_tr Bx (BX_w (fun _ q => absurd q id) (fun _ q => absurd q id) X)
  have hP1 := MST_PW X.1
  have q1 := hP1.1
  have j49 : I1 49 = I 49 := X.2.2.2.1 49 (by decide) id
  have j54 : I1 54 = I 54 := X.2.2.2.1 54 (by decide) id
  have sz := Z1 t t0 t1 (by omega) (by omega)
  have nz : A1 4 t ≠ 0 := by
    intro e
    rw [TZ_call hP1 t0 t1 (by omega) (by omega), if_neg (fun q => q.2.2 e)] at g2
    exact absurd g2 (by decide)
  have sz2 : 1 ≤ A1 4 t ∧ ((A1 4 t = TZ A1 ar t ∧ A1 4 t ≤ 30000) ∨ (A1 4 t = 30000 ∧ 30000 ≤ TZ A1 ar t)) := by
    rcases sz with s | ⟨a9, s⟩
    · exact absurd s nz
    · rw [← TZ_two s.1 g2]
      exact s.2
  have g9 : TZ A1 ar t = 1 + SL Ax ar (Ax 32) (I 56 + n) (I 56 + n - I 56).toNat := g9
  rw [show (I 56 + n - I 56).toNat = n.toNat by omega, SL_congr (A := A) (A1 := Ax) (f := Ax 32) (g := Ax 32) (ar := ar) (hi := I 56 + n) n.toNat (fun q _ _ => by rw [tz.1])] at g9
  have B5 : BX FW GB I A N (su I1 56 (I 56)) A1 N := ⟨X2.1, X2.2.1, X2.2.2.1, fun j p q => (su_ne (fun e => q (Or.inr (Or.inl e)))).trans (X2.2.2.2.1 j p q), X2.2.2.2.2⟩
  have a32 : ∀ q : Int, 0 ≤ q → q < I 56 → A1 32 q = A 32 q := fun q q0 q1 => by
    rw [X.2.2.2.2 32 (by decide) (by decide) (by decide) (by decide) (by decide) (by decide) id]
    exact hl q q0 q1
  have DT : DM A1 N t = .add (DM A N f) (sp_li ((List.range n.toNat).map (fun (j : Nat) => DM A N (Ax 32 (I 56 + j))))) := by
    have Tx : TRX (su I 56 (I 56 + n)) Ax N := TRX_12 hT rfl e1 e2 (e8 8 (by decide)) (e8 9 (by decide))
    have T1 := TRX_BX Sx Nx Tx X id id id
    have x7 : I 7 ≤ I1 7 := X.2.1
    have dx : DM Ax N = DM A N := DM_12 e1 e2 (e8 8 (by decide)) (e8 9 (by decide))
    have g10 : isL A1 (I 56 + n - I 56).toNat (A1 2 t) ∧ ∀ j : Nat, j < (I 56 + n - I 56).toNat → A1 1 (rt A1 j (A1 2 t)) = Ax 32 (I 56 + j) := g10
    rw [show (I 56 + n - I 56).toNat = n.toNat by omega] at g10
    have qt := hP1.2 t t0 t1
    have qt2 := qt.2.2.2.2 (by omega)
    rw [DM_pr X.1 T1 t0 t1 (by omega), g1, DM_BX Sx Tx X id id id f0 f1, dx, DM_li X.1 T1 n.toNat (A1 2 t) (by omega) (by omega) g10.1]
    refine congrArg (fun x => Int.Internal.Linear.Expr.add (DM A N f) (sp_li x)) (List.map_congr_left (fun j hj => ?_))
    have hj := List.mem_range.mp hj
    have b := hb (I 56 + j) (by omega) (by omega)
    show DM A1 N (A1 1 (rt A1 j (A1 2 t))) = _
    rw [g10.2 j hj, DM_BX Sx Tx X id id id b.1.1 b.1.2, dx]
  show xx_go (xt_P z) (d + 5) 127 40 [some (.ref h.length), some (.int (iI f)), some (.int (iI a)), some (.int (iI b)), some (.int (iI c)), some (.int (iI (I 56))), none] [.int (iI t)] (mh h R I1 A1 N) _
  refine go_a (pc' := 42) (ls' := [some (.ref h.length), some (.int (iI f)), some (.int (iI a)), some (.int (iI b)), some (.int (iI c)), some (.int (iI (I 56))), some (.int (iI t))]) (st' := []) rfl rfl ?_
  refine go_a (pc' := 43) (ls' := [some (.ref h.length), some (.int (iI f)), some (.int (iI a)), some (.int (iI b)), some (.int (iI c)), some (.int (iI (I 56))), some (.int (iI t))]) (st' := [.ref h.length]) rfl rfl ?_
  refine go_a (pc' := 45) (ls' := [some (.ref h.length), some (.int (iI f)), some (.int (iI a)), some (.int (iI b)), some (.int (iI c)), some (.int (iI (I 56))), some (.int (iI t))]) (st' := [.int (iI (I 56)), .ref h.length]) rfl rfl ?_
  refine go_put (j := 56) rfl mh_o rfl rfl (show 12 ≤ _ from hc) (show 56 < 86 by decide) rfl rfl ?_
  rw [mh_p56]
  refine go_a (pc' := 49) (ls' := [some (.ref h.length), some (.int (iI f)), some (.int (iI a)), some (.int (iI b)), some (.int (iI c)), some (.int (iI (I 56))), some (.int (iI t))]) (st' := [.ref h.length]) rfl rfl ?_
  refine go_get rfl mh_o rfl rfl ?_
  refine go_a (pc' := 54) (ls' := [some (.ref h.length), some (.int (iI f)), some (.int (iI a)), some (.int (iI b)), some (.int (iI c)), some (.int (iI (I 56))), some (.int (iI t))]) (st' := [.int (iI t), .ref (h.length + 4)]) rfl rfl ?_
  refine mi_ild rfl mh_a4 (by omega) (by omega) (by decide) ?_
  refine go_a (pc' := 57) (ls' := [some (.ref h.length), some (.int (iI f)), some (.int (iI a)), some (.int (iI b)), some (.int (iI c)), some (.int (iI (I 56))), some (.int (iI t))]) (st' := [.int (iI 120), .int (iI (A1 4 t))]) rfl rfl ?_
  refine mi_le (t := 65) rfl rfl (by omega) (by omega) (by omega) (by omega) (fun q => ?_) (fun q => ?_)
  · refine go_a (pc' := 67) (ls' := [some (.ref h.length), some (.int (iI f)), some (.int (iI a)), some (.int (iI b)), some (.int (iI c)), some (.int (iI (I 56))), some (.int (iI t))]) (st' := [.int (iI t)]) rfl rfl ?_
    have CV : I 49 = 0 → TZ A1 ar t ≤ 120 → I1 49 = 0 := fun q9 _ => by omega
    exact go_r rfl rfl rfl rfl rfl rfl ⟨t, _, A1, rfl, rfl, ⟨B5, Z1, ⟨j54, rfl⟩, ⟨⟨t0, t1⟩, g2⟩, (show I1 7 ≤ I 7 + (n + 1) by omega), ⟨⟨(show 0 ≤ I1 49 by omega), (show I1 49 ≤ 4 by omega)⟩, fun _ => j49, fun _ => by omega⟩, a32⟩, g9, DT, CV⟩
  · refine go_a (pc' := 61) (ls' := [some (.ref h.length), some (.int (iI f)), some (.int (iI a)), some (.int (iI b)), some (.int (iI c)), some (.int (iI (I 56))), some (.int (iI t))]) (st' := [.ref h.length]) rfl rfl ?_
    refine go_a (pc' := 62) (ls' := [some (.ref h.length), some (.int (iI f)), some (.int (iI a)), some (.int (iI b)), some (.int (iI c)), some (.int (iI (I 56))), some (.int (iI t))]) (st' := [.int (iI 4), .ref h.length]) rfl rfl ?_
    refine go_v (m := 128) (as := [.ref h.length, .int (iI 4)]) (r := []) rfl rfl rfl mh_o rfl rfl (mm_fail z (d + 4) 4 h R (su I1 56 (I 56)) A1 N hc (show 0 ≤ I1 49 by omega) (show I1 49 ≤ 4 by omega)) (fun v h1 hq => ?_)
    obtain ⟨rfl, hq⟩ := hq
    rcases hq with ⟨nz9, rfl⟩ | ⟨ez, rfl⟩
    · show xx_go (xt_P z) (d + 5) 127 65 [some (.ref h.length), some (.int (iI f)), some (.int (iI a)), some (.int (iI b)), some (.int (iI c)), some (.int (iI (I 56))), some (.int (iI t))] [] (mh h R (su I1 56 (I 56)) A1 N) _
      refine go_a (pc' := 67) (ls' := [some (.ref h.length), some (.int (iI f)), some (.int (iI a)), some (.int (iI b)), some (.int (iI c)), some (.int (iI (I 56))), some (.int (iI t))]) (st' := [.int (iI t)]) rfl rfl ?_
      have CV : I 49 = 0 → TZ A1 ar t ≤ 120 → I1 49 = 0 := fun q9 q8 => by omega
      exact go_r rfl rfl rfl rfl rfl rfl ⟨t, _, A1, rfl, rfl, ⟨B5, Z1, ⟨j54, rfl⟩, ⟨⟨t0, t1⟩, g2⟩, (show I1 7 ≤ I 7 + (n + 1) by omega), ⟨⟨(show 0 ≤ I1 49 by omega), (show I1 49 ≤ 4 by omega)⟩, fun _ => j49, fun q9 => absurd q9 nz9⟩, a32⟩, g9, DT, CV⟩
    · show xx_go (xt_P z) (d + 5) 127 65 [some (.ref h.length), some (.int (iI f)), some (.int (iI a)), some (.int (iI b)), some (.int (iI c)), some (.int (iI (I 56))), some (.int (iI t))] [] (mh h R (su (su I1 56 (I 56)) 49 4) A1 N) _
      refine go_a (pc' := 67) (ls' := [some (.ref h.length), some (.int (iI f)), some (.int (iI a)), some (.int (iI b)), some (.int (iI c)), some (.int (iI (I 56))), some (.int (iI t))]) (st' := [.int (iI t)]) rfl rfl ?_
      have ez : I1 49 = 0 := ez
      have CV : I 49 = 0 → TZ A1 ar t ≤ 120 → (su (su I1 56 (I 56)) 49 4) 49 = 0 := fun q9 q8 => by omega
      have B6 : BX FW GB I A N (su (su I1 56 (I 56)) 49 4) A1 N := ⟨B5.1, B5.2.1, B5.2.2.1, fun j p q => (su_ne (fun e => q (Or.inr (Or.inr e)))).trans (B5.2.2.2.1 j p q), B5.2.2.2.2⟩
      exact go_r rfl rfl rfl rfl rfl rfl ⟨t, _, A1, rfl, rfl, ⟨B6, Z1, ⟨j54, rfl⟩, ⟨⟨t0, t1⟩, g2⟩, (show I1 7 ≤ I 7 + (n + 1) by omega), ⟨⟨(show (0 : Int) ≤ 4 by decide), (show (4 : Int) ≤ 4 by decide)⟩, fun q9 => absurd (j49 ▸ ez) q9, fun q9 => absurd (show (4 : Int) = 0 from q9) (by decide)⟩, a32⟩, g9, DT, CV⟩
theorem mm_made1 (z : Value) (d : Nat) (ar : Int → Int) (f a : Int) (h R : xx_H) (I : Nat → Int) (A : Nat → Int → Int) (N : Int → Int) (hc : 12 ≤ h.length) (hS : MST I A N) (hN : NM I A) (hZ : SZI ar I A) (hT : TRX I A N) (f0 : 0 ≤ f) (f1 : f < I 7) (f2 : f ≠ 2) (kb0 : 0 ≤ I 56) (kb1 : I 56 ≤ 2390) (ho : I 7 + 4 ≤ 140000) (u0 : 0 ≤ I 49) (u1 : I 49 ≤ 4) (a0 : 0 ≤ a) (a1 : a < I 7) (a2 : 1 ≤ TZ A ar a) (ha : 1 = ar f) : xx_cl (xt_P z) (d + 6) 127 [.ref h.length, .int (iI f), .int (iI a), .int (iI (-1)), .int (iI (-1))] (mh h R I A N) (fun v h1 => ∃ (t : Int) (I1 : Nat → Int) (A1 : Nat → Int → Int), v = some (.int (iI t)) ∧ h1 = mh h R I1 A1 N ∧ MD ar 2 t 120 I A N I1 A1 ∧ TZ A1 ar t = 1 + TZ A ar a ∧ DM A1 N t = .add (DM A N f) (.add (DM A N a) (.var 31361)) ∧ (I 49 = 0 → TZ A1 ar t ≤ 120 → I1 49 = 0)) := by
  have p1 := (MST_PW hS).1
  refine cl_go rfl ?_
  show xx_go (xt_P z) (d + 5) 127 0 [some (.ref h.length), some (.int (iI f)), some (.int (iI a)), some (.int (iI ((-1)))), some (.int (iI ((-1)))), none, none] [] (mh h R I A N) _
  refine go_a (pc' := 1) (ls' := [some (.ref h.length), some (.int (iI f)), some (.int (iI a)), some (.int (iI ((-1)))), some (.int (iI ((-1)))), none, none]) (st' := [.ref h.length]) rfl rfl ?_
  refine go_get (v := .int (iI (I 56))) rfl mh_o rfl rfl ?_
  refine go_a (pc' := 6) (ls' := [some (.ref h.length), some (.int (iI f)), some (.int (iI a)), some (.int (iI ((-1)))), some (.int (iI ((-1)))), some (.int (iI (I 56))), none]) (st' := []) rfl rfl ?_
  refine go_a (pc' := 7) (ls' := [some (.ref h.length), some (.int (iI f)), some (.int (iI a)), some (.int (iI ((-1)))), some (.int (iI ((-1)))), some (.int (iI (I 56))), none]) (st' := [.ref h.length]) rfl rfl ?_
  refine go_a (pc' := 8) (ls' := [some (.ref h.length), some (.int (iI f)), some (.int (iI a)), some (.int (iI ((-1)))), some (.int (iI ((-1)))), some (.int (iI (I 56))), none]) (st' := [.int (iI a), .ref h.length]) rfl rfl ?_
  refine go_v (m := 107) (as := [.ref h.length, .int (iI a)]) (r := []) rfl rfl rfl mh_o rfl rfl (mm_build z (d + 4) a h R I A N hc (show 0 ≤ I 56 by omega) (show I 56 < 2400 by omega)) (fun v h1 hq => ?_)
  obtain ⟨rfl, hq⟩ := hq
  subst hq
  show xx_go (xt_P z) (d + 5) 127 11 [some (.ref h.length), some (.int (iI f)), some (.int (iI a)), some (.int (iI ((-1)))), some (.int (iI ((-1)))), some (.int (iI (I 56))), none] [] (mh h R (su I 56 (I 56 + 1)) (sa A 32 (I 56) a) N) _
  refine go_a (pc' := 12) (ls' := [some (.ref h.length), some (.int (iI f)), some (.int (iI a)), some (.int (iI ((-1)))), some (.int (iI ((-1)))), some (.int (iI (I 56))), none]) (st' := [.int (iI ((-1)))]) rfl rfl ?_
  refine go_a (pc' := 13) (ls' := [some (.ref h.length), some (.int (iI f)), some (.int (iI a)), some (.int (iI ((-1)))), some (.int (iI ((-1)))), some (.int (iI (I 56))), none]) (st' := [.int (iI ((-1))), .int (iI ((-1)))]) rfl rfl ?_
  refine mi_eq (t := 21) rfl rfl (by omega) (by omega) (by omega) (by omega) (fun _ => ?_) (fun q => absurd rfl q)
  refine go_a (pc' := 23) (ls' := [some (.ref h.length), some (.int (iI f)), some (.int (iI a)), some (.int (iI ((-1)))), some (.int (iI ((-1)))), some (.int (iI (I 56))), none]) (st' := [.int (iI ((-1)))]) rfl rfl ?_
  refine go_a (pc' := 24) (ls' := [some (.ref h.length), some (.int (iI f)), some (.int (iI a)), some (.int (iI ((-1)))), some (.int (iI ((-1)))), some (.int (iI (I 56))), none]) (st' := [.int (iI ((-1))), .int (iI ((-1)))]) rfl rfl ?_
  refine mi_eq (t := 33) rfl rfl (by omega) (by omega) (by omega) (by omega) (fun _ => ?_) (fun q => absurd rfl q)
  refine go_w (fun v h1 hq => ?_) (?_ : xx_go _ _ _ _ _ _ _ (fun v h1 => ∃ (t : Int) (I1 : Nat → Int) (A1 : Nat → Int → Int), v = some (.int (iI t)) ∧ h1 = mh h R I1 A1 N ∧ MD ar 2 t 120 I A N I1 A1 ∧ TZ A1 ar t = 1 + SL A ar ((sa A 32 (I 56) a) 32) (I 56 + 1) (1 : Int).toNat ∧ DM A1 N t = .add (DM A N f) (sp_li ((List.range (1 : Int).toNat).map (fun (j : Nat) => DM A N ((sa A 32 (I 56) a) 32 (I 56 + j))))) ∧ (I 49 = 0 → TZ A1 ar t ≤ 120 → I1 49 = 0)))
  · obtain ⟨t, I1, A1, rfl, rfl, D, D9, DT, CV⟩ := hq
    refine ⟨t, I1, A1, rfl, rfl, D, D9.trans ?_, DT.trans ?_, CV⟩
    show 1 + (TZ A ar (sf (A 32) (I 56) a (I 56 + 1 - (((0 : Nat) : Int) + 1))) + 0) = _
    rw [show I 56 + 1 - (((0 : Nat) : Int) + 1) = I 56 by omega]
    rw [sf_self]
    omega
    show Int.Internal.Linear.Expr.add (DM A N f) (.add (DM A N (sf (A 32) (I 56) a (I 56 + ((0 : Nat) : Int)))) (.var 31361)) = _
    rw [show I 56 + ((0 : Nat) : Int) = I 56 by omega]
    rw [sf_self]
  refine mm_made_end z d ar f a (-1) (-1) h R I A N hc hS hN hZ hT f0 f1 f2 kb0 kb1 ho u0 u1 (sa A 32 (I 56) a) 1 (by decide) (by decide) rfl rfl rfl rfl rfl rfl (fun x hx => (sa_ne hx)) (fun q q0 q1 => ?_) (fun q q0 q1 => ?_) ha
  · show sf (A 32) (I 56) a q = A 32 q
    rw [sf_ne (by omega)]
  · show (0 ≤ sf (A 32) (I 56) a q ∧ sf (A 32) (I 56) a q < I 7) ∧ 1 ≤ TZ A ar (sf (A 32) (I 56) a q)
    rw [show q = I 56 by omega, sf_self]
    exact ⟨⟨a0, a1⟩, a2⟩
theorem mm_made2 (z : Value) (d : Nat) (ar : Int → Int) (f a b : Int) (h R : xx_H) (I : Nat → Int) (A : Nat → Int → Int) (N : Int → Int) (hc : 12 ≤ h.length) (hS : MST I A N) (hN : NM I A) (hZ : SZI ar I A) (hT : TRX I A N) (f0 : 0 ≤ f) (f1 : f < I 7) (f2 : f ≠ 2) (kb0 : 0 ≤ I 56) (kb1 : I 56 ≤ 2390) (ho : I 7 + 4 ≤ 140000) (u0 : 0 ≤ I 49) (u1 : I 49 ≤ 4) (a0 : 0 ≤ a) (a1 : a < I 7) (a2 : 1 ≤ TZ A ar a) (b0 : 0 ≤ b) (b1 : b < I 7) (b2 : 1 ≤ TZ A ar b) (ha : 2 = ar f) : xx_cl (xt_P z) (d + 6) 127 [.ref h.length, .int (iI f), .int (iI a), .int (iI b), .int (iI (-1))] (mh h R I A N) (fun v h1 => ∃ (t : Int) (I1 : Nat → Int) (A1 : Nat → Int → Int), v = some (.int (iI t)) ∧ h1 = mh h R I1 A1 N ∧ MD ar 3 t 120 I A N I1 A1 ∧ TZ A1 ar t = 1 + TZ A ar a + TZ A ar b ∧ DM A1 N t = .add (DM A N f) (.add (DM A N a) (.add (DM A N b) (.var 31361))) ∧ (I 49 = 0 → TZ A1 ar t ≤ 120 → I1 49 = 0)) := by
  have p1 := (MST_PW hS).1
  refine cl_go rfl ?_
  show xx_go (xt_P z) (d + 5) 127 0 [some (.ref h.length), some (.int (iI f)), some (.int (iI a)), some (.int (iI b)), some (.int (iI ((-1)))), none, none] [] (mh h R I A N) _
  refine go_a (pc' := 1) (ls' := [some (.ref h.length), some (.int (iI f)), some (.int (iI a)), some (.int (iI b)), some (.int (iI ((-1)))), none, none]) (st' := [.ref h.length]) rfl rfl ?_
  refine go_get (v := .int (iI (I 56))) rfl mh_o rfl rfl ?_
  refine go_a (pc' := 6) (ls' := [some (.ref h.length), some (.int (iI f)), some (.int (iI a)), some (.int (iI b)), some (.int (iI ((-1)))), some (.int (iI (I 56))), none]) (st' := []) rfl rfl ?_
  refine go_a (pc' := 7) (ls' := [some (.ref h.length), some (.int (iI f)), some (.int (iI a)), some (.int (iI b)), some (.int (iI ((-1)))), some (.int (iI (I 56))), none]) (st' := [.ref h.length]) rfl rfl ?_
  refine go_a (pc' := 8) (ls' := [some (.ref h.length), some (.int (iI f)), some (.int (iI a)), some (.int (iI b)), some (.int (iI ((-1)))), some (.int (iI (I 56))), none]) (st' := [.int (iI a), .ref h.length]) rfl rfl ?_
  refine go_v (m := 107) (as := [.ref h.length, .int (iI a)]) (r := []) rfl rfl rfl mh_o rfl rfl (mm_build z (d + 4) a h R I A N hc (show 0 ≤ I 56 by omega) (show I 56 < 2400 by omega)) (fun v h1 hq => ?_)
  obtain ⟨rfl, hq⟩ := hq
  subst hq
  show xx_go (xt_P z) (d + 5) 127 11 [some (.ref h.length), some (.int (iI f)), some (.int (iI a)), some (.int (iI b)), some (.int (iI ((-1)))), some (.int (iI (I 56))), none] [] (mh h R (su I 56 (I 56 + 1)) (sa A 32 (I 56) a) N) _
  refine go_a (pc' := 12) (ls' := [some (.ref h.length), some (.int (iI f)), some (.int (iI a)), some (.int (iI b)), some (.int (iI ((-1)))), some (.int (iI (I 56))), none]) (st' := [.int (iI b)]) rfl rfl ?_
  refine go_a (pc' := 13) (ls' := [some (.ref h.length), some (.int (iI f)), some (.int (iI a)), some (.int (iI b)), some (.int (iI ((-1)))), some (.int (iI (I 56))), none]) (st' := [.int (iI ((-1))), .int (iI b)]) rfl rfl ?_
  refine mi_eq (t := 21) rfl rfl (by omega) (by omega) (by omega) (by omega) (fun q => absurd q (by omega)) (fun _ => ?_)
  refine go_a (pc' := 17) (ls' := [some (.ref h.length), some (.int (iI f)), some (.int (iI a)), some (.int (iI b)), some (.int (iI ((-1)))), some (.int (iI (I 56))), none]) (st' := [.ref h.length]) rfl rfl ?_
  refine go_a (pc' := 18) (ls' := [some (.ref h.length), some (.int (iI f)), some (.int (iI a)), some (.int (iI b)), some (.int (iI ((-1)))), some (.int (iI (I 56))), none]) (st' := [.int (iI b), .ref h.length]) rfl rfl ?_
  refine go_v (m := 107) (as := [.ref h.length, .int (iI b)]) (r := []) rfl rfl rfl mh_o rfl rfl (mm_build z (d + 4) b h R (su I 56 (I 56 + 1)) (sa A 32 (I 56) a) N hc (show 0 ≤ I 56 + 1 by omega) (show I 56 + 1 < 2400 by omega)) (fun v h1 hq => ?_)
  obtain ⟨rfl, hq⟩ := hq
  rw [show (su I 56 (I 56 + 1)) 56 = I 56 + 1 from rfl, su_su, show I 56 + 1 + 1 = I 56 + 2 by omega] at hq
  subst hq
  show xx_go (xt_P z) (d + 5) 127 21 [some (.ref h.length), some (.int (iI f)), some (.int (iI a)), some (.int (iI b)), some (.int (iI ((-1)))), some (.int (iI (I 56))), none] [] (mh h R (su I 56 (I 56 + 2)) (sa (sa A 32 (I 56) a) 32 (I 56 + 1) b) N) _
  refine go_a (pc' := 23) (ls' := [some (.ref h.length), some (.int (iI f)), some (.int (iI a)), some (.int (iI b)), some (.int (iI ((-1)))), some (.int (iI (I 56))), none]) (st' := [.int (iI ((-1)))]) rfl rfl ?_
  refine go_a (pc' := 24) (ls' := [some (.ref h.length), some (.int (iI f)), some (.int (iI a)), some (.int (iI b)), some (.int (iI ((-1)))), some (.int (iI (I 56))), none]) (st' := [.int (iI ((-1))), .int (iI ((-1)))]) rfl rfl ?_
  refine mi_eq (t := 33) rfl rfl (by omega) (by omega) (by omega) (by omega) (fun _ => ?_) (fun q => absurd rfl q)
  refine go_w (fun v h1 hq => ?_) (?_ : xx_go _ _ _ _ _ _ _ (fun v h1 => ∃ (t : Int) (I1 : Nat → Int) (A1 : Nat → Int → Int), v = some (.int (iI t)) ∧ h1 = mh h R I1 A1 N ∧ MD ar 3 t 120 I A N I1 A1 ∧ TZ A1 ar t = 1 + SL A ar ((sa (sa A 32 (I 56) a) 32 (I 56 + 1) b) 32) (I 56 + 2) (2 : Int).toNat ∧ DM A1 N t = .add (DM A N f) (sp_li ((List.range (2 : Int).toNat).map (fun (j : Nat) => DM A N ((sa (sa A 32 (I 56) a) 32 (I 56 + 1) b) 32 (I 56 + j))))) ∧ (I 49 = 0 → TZ A1 ar t ≤ 120 → I1 49 = 0)))
  · obtain ⟨t, I1, A1, rfl, rfl, D, D9, DT, CV⟩ := hq
    refine ⟨t, I1, A1, rfl, rfl, D, D9.trans ?_, DT.trans ?_, CV⟩
    show 1 + (TZ A ar (sf (sf (A 32) (I 56) a) (I 56 + 1) b (I 56 + 2 - (((1 : Nat) : Int) + 1))) + (TZ A ar (sf (sf (A 32) (I 56) a) (I 56 + 1) b (I 56 + 2 - (((0 : Nat) : Int) + 1))) + 0)) = _
    rw [show I 56 + 2 - (((1 : Nat) : Int) + 1) = I 56 by omega]
    rw [show I 56 + 2 - (((0 : Nat) : Int) + 1) = I 56 + 1 by omega]
    rw [sf_ne (show ¬ I 56 = I 56 + 1 by omega), sf_self]
    rw [sf_self]
    omega
    show Int.Internal.Linear.Expr.add (DM A N f) (.add (DM A N (sf (sf (A 32) (I 56) a) (I 56 + 1) b (I 56 + ((0 : Nat) : Int)))) (.add (DM A N (sf (sf (A 32) (I 56) a) (I 56 + 1) b (I 56 + ((1 : Nat) : Int)))) (.var 31361))) = _
    rw [show I 56 + ((0 : Nat) : Int) = I 56 by omega]
    rw [show I 56 + ((1 : Nat) : Int) = I 56 + 1 by omega]
    rw [sf_ne (show ¬ I 56 = I 56 + 1 by omega), sf_self]
    rw [sf_self]
  refine mm_made_end z d ar f a b (-1) h R I A N hc hS hN hZ hT f0 f1 f2 kb0 kb1 ho u0 u1 (sa (sa A 32 (I 56) a) 32 (I 56 + 1) b) 2 (by decide) (by decide) rfl rfl rfl rfl rfl rfl (fun x hx => ((sa_ne hx)).trans (sa_ne hx)) (fun q q0 q1 => ?_) (fun q q0 q1 => ?_) ha
  · show sf (sf (A 32) (I 56) a) (I 56 + 1) b q = A 32 q
    rw [sf_ne (by omega), sf_ne (by omega)]
  · show (0 ≤ sf (sf (A 32) (I 56) a) (I 56 + 1) b q ∧ sf (sf (A 32) (I 56) a) (I 56 + 1) b q < I 7) ∧ 1 ≤ TZ A ar (sf (sf (A 32) (I 56) a) (I 56 + 1) b q)
    by_cases e1 : q = I 56 + 1
    · rw [e1, sf_self]
      exact ⟨⟨b0, b1⟩, b2⟩
    · rw [sf_ne e1]
      rw [show q = I 56 by omega, sf_self]
      exact ⟨⟨a0, a1⟩, a2⟩
theorem mm_made3 (z : Value) (d : Nat) (ar : Int → Int) (f a b c : Int) (h R : xx_H) (I : Nat → Int) (A : Nat → Int → Int) (N : Int → Int) (hc : 12 ≤ h.length) (hS : MST I A N) (hN : NM I A) (hZ : SZI ar I A) (hT : TRX I A N) (f0 : 0 ≤ f) (f1 : f < I 7) (f2 : f ≠ 2) (kb0 : 0 ≤ I 56) (kb1 : I 56 ≤ 2390) (ho : I 7 + 4 ≤ 140000) (u0 : 0 ≤ I 49) (u1 : I 49 ≤ 4) (a0 : 0 ≤ a) (a1 : a < I 7) (a2 : 1 ≤ TZ A ar a) (b0 : 0 ≤ b) (b1 : b < I 7) (b2 : 1 ≤ TZ A ar b) (c0 : 0 ≤ c) (c1 : c < I 7) (c2 : 1 ≤ TZ A ar c) (ha : 3 = ar f) : xx_cl (xt_P z) (d + 6) 127 [.ref h.length, .int (iI f), .int (iI a), .int (iI b), .int (iI c)] (mh h R I A N) (fun v h1 => ∃ (t : Int) (I1 : Nat → Int) (A1 : Nat → Int → Int), v = some (.int (iI t)) ∧ h1 = mh h R I1 A1 N ∧ MD ar 4 t 120 I A N I1 A1 ∧ TZ A1 ar t = 1 + TZ A ar a + TZ A ar b + TZ A ar c ∧ DM A1 N t = .add (DM A N f) (.add (DM A N a) (.add (DM A N b) (.add (DM A N c) (.var 31361)))) ∧ (I 49 = 0 → TZ A1 ar t ≤ 120 → I1 49 = 0)) := by
  have p1 := (MST_PW hS).1
  refine cl_go rfl ?_
  show xx_go (xt_P z) (d + 5) 127 0 [some (.ref h.length), some (.int (iI f)), some (.int (iI a)), some (.int (iI b)), some (.int (iI c)), none, none] [] (mh h R I A N) _
  refine go_a (pc' := 1) (ls' := [some (.ref h.length), some (.int (iI f)), some (.int (iI a)), some (.int (iI b)), some (.int (iI c)), none, none]) (st' := [.ref h.length]) rfl rfl ?_
  refine go_get (v := .int (iI (I 56))) rfl mh_o rfl rfl ?_
  refine go_a (pc' := 6) (ls' := [some (.ref h.length), some (.int (iI f)), some (.int (iI a)), some (.int (iI b)), some (.int (iI c)), some (.int (iI (I 56))), none]) (st' := []) rfl rfl ?_
  refine go_a (pc' := 7) (ls' := [some (.ref h.length), some (.int (iI f)), some (.int (iI a)), some (.int (iI b)), some (.int (iI c)), some (.int (iI (I 56))), none]) (st' := [.ref h.length]) rfl rfl ?_
  refine go_a (pc' := 8) (ls' := [some (.ref h.length), some (.int (iI f)), some (.int (iI a)), some (.int (iI b)), some (.int (iI c)), some (.int (iI (I 56))), none]) (st' := [.int (iI a), .ref h.length]) rfl rfl ?_
  refine go_v (m := 107) (as := [.ref h.length, .int (iI a)]) (r := []) rfl rfl rfl mh_o rfl rfl (mm_build z (d + 4) a h R I A N hc (show 0 ≤ I 56 by omega) (show I 56 < 2400 by omega)) (fun v h1 hq => ?_)
  obtain ⟨rfl, hq⟩ := hq
  subst hq
  show xx_go (xt_P z) (d + 5) 127 11 [some (.ref h.length), some (.int (iI f)), some (.int (iI a)), some (.int (iI b)), some (.int (iI c)), some (.int (iI (I 56))), none] [] (mh h R (su I 56 (I 56 + 1)) (sa A 32 (I 56) a) N) _
  refine go_a (pc' := 12) (ls' := [some (.ref h.length), some (.int (iI f)), some (.int (iI a)), some (.int (iI b)), some (.int (iI c)), some (.int (iI (I 56))), none]) (st' := [.int (iI b)]) rfl rfl ?_
  refine go_a (pc' := 13) (ls' := [some (.ref h.length), some (.int (iI f)), some (.int (iI a)), some (.int (iI b)), some (.int (iI c)), some (.int (iI (I 56))), none]) (st' := [.int (iI ((-1))), .int (iI b)]) rfl rfl ?_
  refine mi_eq (t := 21) rfl rfl (by omega) (by omega) (by omega) (by omega) (fun q => absurd q (by omega)) (fun _ => ?_)
  refine go_a (pc' := 17) (ls' := [some (.ref h.length), some (.int (iI f)), some (.int (iI a)), some (.int (iI b)), some (.int (iI c)), some (.int (iI (I 56))), none]) (st' := [.ref h.length]) rfl rfl ?_
  refine go_a (pc' := 18) (ls' := [some (.ref h.length), some (.int (iI f)), some (.int (iI a)), some (.int (iI b)), some (.int (iI c)), some (.int (iI (I 56))), none]) (st' := [.int (iI b), .ref h.length]) rfl rfl ?_
  refine go_v (m := 107) (as := [.ref h.length, .int (iI b)]) (r := []) rfl rfl rfl mh_o rfl rfl (mm_build z (d + 4) b h R (su I 56 (I 56 + 1)) (sa A 32 (I 56) a) N hc (show 0 ≤ I 56 + 1 by omega) (show I 56 + 1 < 2400 by omega)) (fun v h1 hq => ?_)
  obtain ⟨rfl, hq⟩ := hq
  rw [show (su I 56 (I 56 + 1)) 56 = I 56 + 1 from rfl, su_su, show I 56 + 1 + 1 = I 56 + 2 by omega] at hq
  subst hq
  show xx_go (xt_P z) (d + 5) 127 21 [some (.ref h.length), some (.int (iI f)), some (.int (iI a)), some (.int (iI b)), some (.int (iI c)), some (.int (iI (I 56))), none] [] (mh h R (su I 56 (I 56 + 2)) (sa (sa A 32 (I 56) a) 32 (I 56 + 1) b) N) _
  refine go_a (pc' := 23) (ls' := [some (.ref h.length), some (.int (iI f)), some (.int (iI a)), some (.int (iI b)), some (.int (iI c)), some (.int (iI (I 56))), none]) (st' := [.int (iI c)]) rfl rfl ?_
  refine go_a (pc' := 24) (ls' := [some (.ref h.length), some (.int (iI f)), some (.int (iI a)), some (.int (iI b)), some (.int (iI c)), some (.int (iI (I 56))), none]) (st' := [.int (iI ((-1))), .int (iI c)]) rfl rfl ?_
  refine mi_eq (t := 33) rfl rfl (by omega) (by omega) (by omega) (by omega) (fun q => absurd q (by omega)) (fun _ => ?_)
  refine go_a (pc' := 28) (ls' := [some (.ref h.length), some (.int (iI f)), some (.int (iI a)), some (.int (iI b)), some (.int (iI c)), some (.int (iI (I 56))), none]) (st' := [.ref h.length]) rfl rfl ?_
  refine go_a (pc' := 30) (ls' := [some (.ref h.length), some (.int (iI f)), some (.int (iI a)), some (.int (iI b)), some (.int (iI c)), some (.int (iI (I 56))), none]) (st' := [.int (iI c), .ref h.length]) rfl rfl ?_
  refine go_v (m := 107) (as := [.ref h.length, .int (iI c)]) (r := []) rfl rfl rfl mh_o rfl rfl (mm_build z (d + 4) c h R (su I 56 (I 56 + 2)) (sa (sa A 32 (I 56) a) 32 (I 56 + 1) b) N hc (show 0 ≤ I 56 + 2 by omega) (show I 56 + 2 < 2400 by omega)) (fun v h1 hq => ?_)
  obtain ⟨rfl, hq⟩ := hq
  rw [show (su I 56 (I 56 + 2)) 56 = I 56 + 2 from rfl, su_su, show I 56 + 2 + 1 = I 56 + 3 by omega] at hq
  subst hq
  show xx_go (xt_P z) (d + 5) 127 33 [some (.ref h.length), some (.int (iI f)), some (.int (iI a)), some (.int (iI b)), some (.int (iI c)), some (.int (iI (I 56))), none] [] (mh h R (su I 56 (I 56 + 3)) (sa (sa (sa A 32 (I 56) a) 32 (I 56 + 1) b) 32 (I 56 + 2) c) N) _
  refine go_w (fun v h1 hq => ?_) (?_ : xx_go _ _ _ _ _ _ _ (fun v h1 => ∃ (t : Int) (I1 : Nat → Int) (A1 : Nat → Int → Int), v = some (.int (iI t)) ∧ h1 = mh h R I1 A1 N ∧ MD ar 4 t 120 I A N I1 A1 ∧ TZ A1 ar t = 1 + SL A ar ((sa (sa (sa A 32 (I 56) a) 32 (I 56 + 1) b) 32 (I 56 + 2) c) 32) (I 56 + 3) (3 : Int).toNat ∧ DM A1 N t = .add (DM A N f) (sp_li ((List.range (3 : Int).toNat).map (fun (j : Nat) => DM A N ((sa (sa (sa A 32 (I 56) a) 32 (I 56 + 1) b) 32 (I 56 + 2) c) 32 (I 56 + j))))) ∧ (I 49 = 0 → TZ A1 ar t ≤ 120 → I1 49 = 0)))
  · obtain ⟨t, I1, A1, rfl, rfl, D, D9, DT, CV⟩ := hq
    refine ⟨t, I1, A1, rfl, rfl, D, D9.trans ?_, DT.trans ?_, CV⟩
    show 1 + (TZ A ar (sf (sf (sf (A 32) (I 56) a) (I 56 + 1) b) (I 56 + 2) c (I 56 + 3 - (((2 : Nat) : Int) + 1))) + (TZ A ar (sf (sf (sf (A 32) (I 56) a) (I 56 + 1) b) (I 56 + 2) c (I 56 + 3 - (((1 : Nat) : Int) + 1))) + (TZ A ar (sf (sf (sf (A 32) (I 56) a) (I 56 + 1) b) (I 56 + 2) c (I 56 + 3 - (((0 : Nat) : Int) + 1))) + 0))) = _
    rw [show I 56 + 3 - (((2 : Nat) : Int) + 1) = I 56 by omega]
    rw [show I 56 + 3 - (((1 : Nat) : Int) + 1) = I 56 + 1 by omega]
    rw [show I 56 + 3 - (((0 : Nat) : Int) + 1) = I 56 + 2 by omega]
    rw [sf_ne (show ¬ I 56 = I 56 + 2 by omega), sf_ne (show ¬ I 56 = I 56 + 1 by omega), sf_self]
    rw [sf_ne (show ¬ I 56 + 1 = I 56 + 2 by omega), sf_self]
    rw [sf_self]
    omega
    show Int.Internal.Linear.Expr.add (DM A N f) (.add (DM A N (sf (sf (sf (A 32) (I 56) a) (I 56 + 1) b) (I 56 + 2) c (I 56 + ((0 : Nat) : Int)))) (.add (DM A N (sf (sf (sf (A 32) (I 56) a) (I 56 + 1) b) (I 56 + 2) c (I 56 + ((1 : Nat) : Int)))) (.add (DM A N (sf (sf (sf (A 32) (I 56) a) (I 56 + 1) b) (I 56 + 2) c (I 56 + ((2 : Nat) : Int)))) (.var 31361)))) = _
    rw [show I 56 + ((0 : Nat) : Int) = I 56 by omega]
    rw [show I 56 + ((1 : Nat) : Int) = I 56 + 1 by omega]
    rw [show I 56 + ((2 : Nat) : Int) = I 56 + 2 by omega]
    rw [sf_ne (show ¬ I 56 = I 56 + 2 by omega), sf_ne (show ¬ I 56 = I 56 + 1 by omega), sf_self]
    rw [sf_ne (show ¬ I 56 + 1 = I 56 + 2 by omega), sf_self]
    rw [sf_self]
  refine mm_made_end z d ar f a b c h R I A N hc hS hN hZ hT f0 f1 f2 kb0 kb1 ho u0 u1 (sa (sa (sa A 32 (I 56) a) 32 (I 56 + 1) b) 32 (I 56 + 2) c) 3 (by decide) (by decide) rfl rfl rfl rfl rfl rfl (fun x hx => (((sa_ne hx)).trans (sa_ne hx)).trans (sa_ne hx)) (fun q q0 q1 => ?_) (fun q q0 q1 => ?_) ha
  · show sf (sf (sf (A 32) (I 56) a) (I 56 + 1) b) (I 56 + 2) c q = A 32 q
    rw [sf_ne (by omega), sf_ne (by omega), sf_ne (by omega)]
  · show (0 ≤ sf (sf (sf (A 32) (I 56) a) (I 56 + 1) b) (I 56 + 2) c q ∧ sf (sf (sf (A 32) (I 56) a) (I 56 + 1) b) (I 56 + 2) c q < I 7) ∧ 1 ≤ TZ A ar (sf (sf (sf (A 32) (I 56) a) (I 56 + 1) b) (I 56 + 2) c q)
    by_cases e2 : q = I 56 + 2
    · rw [e2, sf_self]
      exact ⟨⟨c0, c1⟩, c2⟩
    · rw [sf_ne e2]
      by_cases e1 : q = I 56 + 1
      · rw [e1, sf_self]
        exact ⟨⟨b0, b1⟩, b2⟩
      · rw [sf_ne e1]
        rw [show q = I 56 by omega, sf_self]
        exact ⟨⟨a0, a1⟩, a2⟩

