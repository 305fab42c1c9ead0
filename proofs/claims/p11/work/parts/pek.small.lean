theorem kf_takeBack (z : Value) (d c : Nat) (hp : xx_H) (s : KS) (hK : KI c hp s) (hB : KB s) (u k : Int) (NM : BKM) (t : List sp_Th) (nf nt : Int) (hO : OC hp) (hS : BKS c hp s NM t u nf nt) (e26 : s.I 26 = (t.length : Int)) (e27 : s.I 27 = nf) (e28 : s.I 28 = nt) (hL : LI k s) (lk : k ≤ 1000000) : xx_cl (xt_P z) (d + 4) 304 [.ref (c + 21)] hp (fun v h1 => (v = some .null ∧ h1 = hp ∧ t = []) ∨ ∃ (a : Nat) (cb : Int) (w0 w1 w2 w3 : Value) (s1 : KS) (th : sp_Th) (t1 : List sp_Th) (nf1 nt1 : Int), t = th :: t1 ∧ v = some (.ref a) ∧ h1[a]? = some (.inr (11, [w0, w1, w2, w3, .int (iI cb)])) ∧ (38 ≤ cb ∧ cb ≤ u) ∧ KI c h1 s1 ∧ KB s1 ∧ kx c hp s h1 s1 0 0 ∧ BKF s s1 ∧ LI (k + 1) s1 ∧ BKS c h1 s1 NM t1 cb nf1 nt1 ∧ s1.I 26 = (t1.length : Int) ∧ s1.I 27 = nf1 ∧ s1.I 28 = nt1 ∧ nf1 ≤ nf ∧ nt1 ≤ nt) := by
  have nn := BKS_nn hS
  refine cl_go rfl ?_
  show xx_go (xt_P z) (d + 3) 304 0 [some (.ref (c + 21)), none, none] [] hp _
  refine go_a (pc' := 1) (ls' := [some (.ref (c + 21)), none, none]) (st' := [.ref (c + 21)]) rfl rfl ?_
  refine go_get (v := .ref (c + 22)) rfl (hK.1 12 (by decide)) rfl rfl ?_
  refine go_v (m := 305) (as := [.ref (c + 22)]) (r := []) rfl rfl rfl (hK.1 13 (by decide)) rfl rfl (kl_isEmpty_13 z (d + 2) c hp s hK hB) (fun v h3 hq => ?_)
  obtain ⟨hq, e9⟩ := hq
  rw [e9]
  clear e9 h3
  rcases hq with ⟨c0, rfl⟩ | ⟨c0, rfl⟩
  · show xx_go (xt_P z) (d + 3) 304 7 [some (.ref (c + 21)), none, none] [.int (iI 1)] hp _
    refine mi_eq0 (t := 12) rfl rfl (by omega) (by omega) (fun q => absurd q (by decide)) (fun _ => ?_)
    refine go_a (pc' := 11) (ls' := [some (.ref (c + 21)), none, none]) (st' := [.null]) rfl rfl ?_
    exact go_r rfl rfl rfl rfl rfl rfl (Or.inl ⟨rfl, rfl, List.length_eq_zero_iff.mp (by omega)⟩)
  · show xx_go (xt_P z) (d + 3) 304 7 [some (.ref (c + 21)), none, none] [.int (iI 0)] hp _
    refine mi_eq0 (t := 12) rfl rfl (by omega) (by omega) (fun _ => ?_) (fun q => absurd rfl q)
    obtain ⟨th, t1, rfl⟩ : ∃ (th : sp_Th) (t1 : List sp_Th), t = th :: t1 := List.exists_cons_of_ne_nil (fun q => by rw [q, List.length_nil] at e26; omega)
    rw [List.length_cons] at e26 nn
    have e26m : s.I 26 - 1 = (t1.length : Int) := by omega
    obtain ⟨a, cb, T13, hcb, hh⟩ := hS
    refine go_a (pc' := 13) (ls' := [some (.ref (c + 21)), none, none]) (st' := [.ref (c + 21)]) rfl rfl ?_
    refine go_get (v := .ref (c + 22)) rfl (hK.1 12 (by decide)) rfl rfl ?_
    refine go_a (pc' := 17) (ls' := [some (.ref (c + 21)), none, none]) (st' := [.ref (c + 21), .ref (c + 22)]) rfl rfl ?_
    refine go_get (v := .ref (c + 22)) rfl (hK.1 12 (by decide)) rfl rfl ?_
    refine go_v (m := 47) (as := [.ref (c + 22)]) (r := [.ref (c + 22)]) rfl rfl rfl (hK.1 13 (by decide)) rfl rfl (kl_size_13 z (d + 2) c hp s hK) (fun v h3 hq => ?_)
    obtain ⟨rfl, e9⟩ := hq
    rw [e9]
    clear e9 h3
    show xx_go (xt_P z) (d + 3) 304 23 [some (.ref (c + 21)), none, none] [.int (iI (s.I 26)), .ref (c + 22)] hp _
    refine go_a (pc' := 24) (ls' := [some (.ref (c + 21)), none, none]) (st' := [.int (iI 1), .int (iI (s.I 26)), .ref (c + 22)]) rfl rfl ?_
    refine mi_sub rfl ?_
    refine go_v (m := 306) (as := [.ref (c + 22), .int (iI ((s.I 26) - 1))]) (r := []) rfl rfl rfl (hK.1 13 (by decide)) rfl rfl (kl_remove_13 z d c a hp s hK hB hO (by omega) (by have := hL.2.2.2.1; omega) (by rw [e26m]; exact T13)) (fun v h1 hq => ?_)
    obtain ⟨rfl, s1, K1, B1, X1, F1, e1, e2, e3, e4, e5⟩ := hq
    have fo := fun i p => F1.2.2.1 i p
    have fi := fun i p q => F1.2.2.2 i p q
    show xx_go (xt_P z) (d + 3) 304 28 [some (.ref (c + 21)), none, none] [.ref a] h1 _
    rcases hh with ⟨m, gg, n, f, FT, T4, n1, ne, -, BS⟩ | ⟨n, f, FT, T5, n1, ne, -, BS⟩
    · obtain ⟨pq, ta, c1, k1, -, -, -, hm, -, hk, -⟩ := id FT
      have fr : 0 ≤ fcl (nf - 1) m ∧ fcl (nf - 1) m ≤ 2147483647 := ⟨by unfold fcl; omega, by unfold fcl; omega⟩
      have ha1 := (X1.2.1 a (List.getElem?_eq_some_iff.mp c1).1 k1).2.trans c1
      have ka1 := (X1.2.1 a (List.getElem?_eq_some_iff.mp c1).1 k1).1
      refine go_cast rfl ha1 rfl ?_
      refine go_a (pc' := 32) (ls' := [some (.ref (c + 21)), some (.ref a), none]) (st' := []) rfl rfl ?_
      refine go_a (pc' := 33) (ls' := [some (.ref (c + 21)), some (.ref a), none]) (st' := [.ref a]) rfl rfl ?_
      refine go_v (m := 241) (as := [.ref a]) (r := []) rfl rfl rfl ha1 rfl rfl (kf_isFunction z (d + 2) a (fcl (nf - 1) m) _ _ _ _ h1 ha1 (by omega) (by omega)) (fun v h3 hq => ?_)
      obtain ⟨hq, e9⟩ := hq
      rw [e9]
      clear e9 h3
      obtain rfl : v = some (.int (iI 1)) := by
        rcases hq with ⟨w, r⟩ | ⟨w, r⟩
        · exact r
        · exact absurd w (by omega)
      show xx_go (xt_P z) (d + 3) 304 36 [some (.ref (c + 21)), some (.ref a), none] [.int (iI 1)] h1 _
      refine mi_eq0 (t := 46) rfl rfl (by omega) (by omega) (fun q => absurd q (by decide)) (fun _ => ?_)
      have i2 : s1.I 27 = s.I 27 := fi 27 (by decide) (by decide)
      have i3 : s1.I 30 = s.I 30 := fi 30 (by decide) (by decide)
      have cp := fo 14 (by decide)
      refine go_a (pc' := 40) (ls' := [some (.ref (c + 21)), some (.ref a), none]) (st' := [.ref (c + 21)]) rfl rfl ?_
      refine go_get (v := .ref (c + 23)) rfl (K1.1 12 (by decide)) rfl rfl ?_
      refine go_a (pc' := 50) (ls' := [some (.ref (c + 21)), some (.ref a), none]) (st' := [.ref (c + 23)]) rfl rfl ?_
      refine go_a (pc' := 51) (ls' := [some (.ref (c + 21)), some (.ref a), some (.ref (c + 23))]) (st' := []) rfl rfl ?_
      refine go_a (pc' := 52) (ls' := [some (.ref (c + 21)), some (.ref a), some (.ref (c + 23))]) (st' := [.ref (c + 23)]) rfl rfl ?_
      refine go_v (m := 305) (as := [.ref (c + 23)]) (r := []) rfl rfl rfl (K1.1 14 (by decide)) rfl rfl (kl_isEmpty_14 z (d + 2) c h1 s1 K1 B1) (fun v h3 hq => ?_)
      obtain ⟨hq, e9⟩ := hq
      rw [e9]
      clear e9 h3
      obtain rfl : v = some (.int (iI 0)) := by
        rcases hq with ⟨w, r⟩ | ⟨w, r⟩
        · exact absurd w (by omega)
        · exact r
      show xx_go (xt_P z) (d + 3) 304 55 [some (.ref (c + 21)), some (.ref a), some (.ref (c + 23))] [.int (iI 0)] h1 _
      refine mi_ne0 (t := 69) rfl rfl (by omega) (by omega) (fun q => absurd rfl q) (fun _ => ?_)
      refine go_a (pc' := 59) (ls' := [some (.ref (c + 21)), some (.ref a), some (.ref (c + 23))]) (st' := [.ref (c + 23)]) rfl rfl ?_
      refine go_a (pc' := 60) (ls' := [some (.ref (c + 21)), some (.ref a), some (.ref (c + 23))]) (st' := [.ref (c + 23), .ref (c + 23)]) rfl rfl ?_
      refine go_v (m := 47) (as := [.ref (c + 23)]) (r := [.ref (c + 23)]) rfl rfl rfl (K1.1 14 (by decide)) rfl rfl (kl_size_14 z (d + 2) c h1 s1 K1) (fun v h3 hq => ?_)
      obtain ⟨rfl, e9⟩ := hq
      rw [e9]
      clear e9 h3
      show xx_go (xt_P z) (d + 3) 304 63 [some (.ref (c + 21)), some (.ref a), some (.ref (c + 23))] [.int (iI (s1.I 27)), .ref (c + 23)] h1 _
      refine go_a (pc' := 64) (ls' := [some (.ref (c + 21)), some (.ref a), some (.ref (c + 23))]) (st' := [.int (iI 1), .int (iI (s1.I 27)), .ref (c + 23)]) rfl rfl ?_
      refine mi_sub rfl ?_
      refine go_v (m := 306) (as := [.ref (c + 23), .int (iI ((s1.I 27) - 1))]) (r := []) rfl rfl rfl (K1.1 14 (by decide)) rfl rfl (kl_remove_14 z d c a h1 s1 K1 B1 (OC_kx hO X1) (by omega) (by have := hL; unfold LI at this; omega) (by rw [cp.1, show s1.I 27 - 1 = nf - 1 by omega]; exact T4)) (fun v h2 hq => ?_)
      obtain ⟨rfl, s2, K2, B2, X2, F2, f1, f2, f3, f4, f5⟩ := hq
      have go := fun i p => F2.2.2.1 i p
      have gi := fun i p q => F2.2.2.2 i p q
      show xx_go (xt_P z) (d + 3) 304 68 [some (.ref (c + 21)), some (.ref a), some (.ref (c + 23))] [.ref a] h2 _
      refine go_a (pc' := 69) (ls' := [some (.ref (c + 21)), some (.ref a), some (.ref (c + 23))]) (st' := []) rfl rfl ?_
      refine go_a (pc' := 70) (ls' := [some (.ref (c + 21)), some (.ref a), some (.ref (c + 23))]) (st' := [.ref a]) rfl rfl ?_
      have BF2 := BKF_tr (LFR_B F1 (by decide) (by decide) (by decide)) (LFR_B F2 (by decide) (by decide) (by decide))
      have q26 : s2.I 26 = s1.I 26 := gi 26 (by decide) (by decide)
      have q29 : s2.I 29 = s1.I 29 := gi 29 (by decide) (by decide)
      have qo : s2.I 28 = s.I 28 := (gi 28 (by decide) (by decide)).trans (fi 28 (by decide) (by decide))
      have qm : s2.I 31 = s.I 31 := (gi 31 (by decide) (by decide)).trans (fi 31 (by decide) (by decide))
      have qT : s2.T 15 = s.T 15 := ((go 15 (by decide)).1).trans (fo 15 (by decide)).1
      have qC : s2.C 15 = s.C 15 ∧ s2.P 15 = s.P 15 := ⟨((go 15 (by decide)).2.1).trans (fo 15 (by decide)).2.1, ((go 15 (by decide)).2.2).trans (fo 15 (by decide)).2.2⟩
      have q13 := go 13 (by decide)
      have L2 : LI (k + 1) s2 := by
        obtain ⟨m1, m2, m3, m4, m5, m6⟩ := hL
        refine ⟨fun w => by rw [q13.2.2, e4]; exact m1 (by rw [← e3, ← q13.2.1]; exact w), fun w => by rw [f4, cp.2.2]; exact m2 (by rw [← cp.2.1, ← f3]; exact w), fun w => by rw [qC.2]; exact m3 (by rw [← qC.1]; exact w), by omega, by omega, by omega⟩
      have kx2 := kx_w (kx_tr X1 X2) (show (0 : Int) + 0 ≤ 0 by decide) (show (0 : Int) + 0 ≤ 0 by decide)
      have ha2 := (X2.2.1 a (List.getElem?_eq_some_iff.mp ha1).1 ka1).2.trans ha1
      have BS2 := BKS_kx (NM1 := NM) BS kx2 (Int.le_refl _) (fun e e0 e1 => by rw [q13.1]; exact e5 e e0 (by omega)) (fun e e0 e1 => (f5 e e0 (by omega)).trans (by rw [cp.1])) (fun e e0 e1 => by rw [qT]) (fun _ _ _ => rfl) (fun _ _ _ => rfl) (fun k _ _ => by rw [BF2.2.1])
      exact go_r rfl rfl rfl rfl rfl rfl (Or.inr ⟨a, cb, _, _, _, _, s2, th, t1, _, _, rfl, rfl, ha2, hcb, K2, B2, kx2, BF2, L2, BS2, by omega, by omega, by omega, by omega, by omega⟩)
    · obtain ⟨pq, ta, gg, c1, k1, -⟩ := id FT
      have fr : (-2147483648 : Int) ≤ -1 := by decide
      have ha1 := (X1.2.1 a (List.getElem?_eq_some_iff.mp c1).1 k1).2.trans c1
      have ka1 := (X1.2.1 a (List.getElem?_eq_some_iff.mp c1).1 k1).1
      refine go_cast rfl ha1 rfl ?_
      refine go_a (pc' := 32) (ls' := [some (.ref (c + 21)), some (.ref a), none]) (st' := []) rfl rfl ?_
      refine go_a (pc' := 33) (ls' := [some (.ref (c + 21)), some (.ref a), none]) (st' := [.ref a]) rfl rfl ?_
      refine go_v (m := 241) (as := [.ref a]) (r := []) rfl rfl rfl ha1 rfl rfl (kf_isFunction z (d + 2) a ((-1)) _ _ _ _ h1 ha1 (by omega) (by omega)) (fun v h3 hq => ?_)
      obtain ⟨hq, e9⟩ := hq
      rw [e9]
      clear e9 h3
      obtain rfl : v = some (.int (iI 0)) := by
        rcases hq with ⟨w, r⟩ | ⟨w, r⟩
        · exact absurd rfl w
        · exact r
      show xx_go (xt_P z) (d + 3) 304 36 [some (.ref (c + 21)), some (.ref a), none] [.int (iI 0)] h1 _
      refine mi_eq0 (t := 46) rfl rfl (by omega) (by omega) (fun _ => ?_) (fun q => absurd rfl q)
      have i2 : s1.I 28 = s.I 28 := fi 28 (by decide) (by decide)
      have i3 : s1.I 31 = s.I 31 := fi 31 (by decide) (by decide)
      have cp := fo 15 (by decide)
      refine go_a (pc' := 47) (ls' := [some (.ref (c + 21)), some (.ref a), none]) (st' := [.ref (c + 21)]) rfl rfl ?_
      refine go_get (v := .ref (c + 24)) rfl (K1.1 12 (by decide)) rfl rfl ?_
      refine go_a (pc' := 51) (ls' := [some (.ref (c + 21)), some (.ref a), some (.ref (c + 24))]) (st' := []) rfl rfl ?_
      refine go_a (pc' := 52) (ls' := [some (.ref (c + 21)), some (.ref a), some (.ref (c + 24))]) (st' := [.ref (c + 24)]) rfl rfl ?_
      refine go_v (m := 305) (as := [.ref (c + 24)]) (r := []) rfl rfl rfl (K1.1 15 (by decide)) rfl rfl (kl_isEmpty_15 z (d + 2) c h1 s1 K1 B1) (fun v h3 hq => ?_)
      obtain ⟨hq, e9⟩ := hq
      rw [e9]
      clear e9 h3
      obtain rfl : v = some (.int (iI 0)) := by
        rcases hq with ⟨w, r⟩ | ⟨w, r⟩
        · exact absurd w (by omega)
        · exact r
      show xx_go (xt_P z) (d + 3) 304 55 [some (.ref (c + 21)), some (.ref a), some (.ref (c + 24))] [.int (iI 0)] h1 _
      refine mi_ne0 (t := 69) rfl rfl (by omega) (by omega) (fun q => absurd rfl q) (fun _ => ?_)
      refine go_a (pc' := 59) (ls' := [some (.ref (c + 21)), some (.ref a), some (.ref (c + 24))]) (st' := [.ref (c + 24)]) rfl rfl ?_
      refine go_a (pc' := 60) (ls' := [some (.ref (c + 21)), some (.ref a), some (.ref (c + 24))]) (st' := [.ref (c + 24), .ref (c + 24)]) rfl rfl ?_
      refine go_v (m := 47) (as := [.ref (c + 24)]) (r := [.ref (c + 24)]) rfl rfl rfl (K1.1 15 (by decide)) rfl rfl (kl_size_15 z (d + 2) c h1 s1 K1) (fun v h3 hq => ?_)
      obtain ⟨rfl, e9⟩ := hq
      rw [e9]
      clear e9 h3
      show xx_go (xt_P z) (d + 3) 304 63 [some (.ref (c + 21)), some (.ref a), some (.ref (c + 24))] [.int (iI (s1.I 28)), .ref (c + 24)] h1 _
      refine go_a (pc' := 64) (ls' := [some (.ref (c + 21)), some (.ref a), some (.ref (c + 24))]) (st' := [.int (iI 1), .int (iI (s1.I 28)), .ref (c + 24)]) rfl rfl ?_
      refine mi_sub rfl ?_
      refine go_v (m := 306) (as := [.ref (c + 24), .int (iI ((s1.I 28) - 1))]) (r := []) rfl rfl rfl (K1.1 15 (by decide)) rfl rfl (kl_remove_15 z d c a h1 s1 K1 B1 (OC_kx hO X1) (by omega) (by have := hL; unfold LI at this; omega) (by rw [cp.1, show s1.I 28 - 1 = nt - 1 by omega]; exact T5)) (fun v h2 hq => ?_)
      obtain ⟨rfl, s2, K2, B2, X2, F2, f1, f2, f3, f4, f5⟩ := hq
      have go := fun i p => F2.2.2.1 i p
      have gi := fun i p q => F2.2.2.2 i p q
      show xx_go (xt_P z) (d + 3) 304 68 [some (.ref (c + 21)), some (.ref a), some (.ref (c + 24))] [.ref a] h2 _
      refine go_a (pc' := 69) (ls' := [some (.ref (c + 21)), some (.ref a), some (.ref (c + 24))]) (st' := []) rfl rfl ?_
      refine go_a (pc' := 70) (ls' := [some (.ref (c + 21)), some (.ref a), some (.ref (c + 24))]) (st' := [.ref a]) rfl rfl ?_
      have BF2 := BKF_tr (LFR_B F1 (by decide) (by decide) (by decide)) (LFR_B F2 (by decide) (by decide) (by decide))
      have q26 : s2.I 26 = s1.I 26 := gi 26 (by decide) (by decide)
      have q29 : s2.I 29 = s1.I 29 := gi 29 (by decide) (by decide)
      have qo : s2.I 27 = s.I 27 := (gi 27 (by decide) (by decide)).trans (fi 27 (by decide) (by decide))
      have qm : s2.I 30 = s.I 30 := (gi 30 (by decide) (by decide)).trans (fi 30 (by decide) (by decide))
      have qT : s2.T 14 = s.T 14 := ((go 14 (by decide)).1).trans (fo 14 (by decide)).1
      have qC : s2.C 14 = s.C 14 ∧ s2.P 14 = s.P 14 := ⟨((go 14 (by decide)).2.1).trans (fo 14 (by decide)).2.1, ((go 14 (by decide)).2.2).trans (fo 14 (by decide)).2.2⟩
      have q13 := go 13 (by decide)
      have L2 : LI (k + 1) s2 := by
        obtain ⟨m1, m2, m3, m4, m5, m6⟩ := hL
        refine ⟨fun w => by rw [q13.2.2, e4]; exact m1 (by rw [← e3, ← q13.2.1]; exact w), fun w => by rw [qC.2]; exact m2 (by rw [← qC.1]; exact w), fun w => by rw [f4, cp.2.2]; exact m3 (by rw [← cp.2.1, ← f3]; exact w), by omega, by omega, by omega⟩
      have kx2 := kx_w (kx_tr X1 X2) (show (0 : Int) + 0 ≤ 0 by decide) (show (0 : Int) + 0 ≤ 0 by decide)
      have ha2 := (X2.2.1 a (List.getElem?_eq_some_iff.mp ha1).1 ka1).2.trans ha1
      have BS2 := BKS_kx (NM1 := NM) BS kx2 (Int.le_refl _) (fun e e0 e1 => by rw [q13.1]; exact e5 e e0 (by omega)) (fun e e0 e1 => by rw [qT]) (fun e e0 e1 => (f5 e e0 (by omega)).trans (by rw [cp.1])) (fun _ _ _ => rfl) (fun _ _ _ => rfl) (fun k _ _ => by rw [BF2.2.1])
      exact go_r rfl rfl rfl rfl rfl rfl (Or.inr ⟨a, cb, _, _, _, _, s2, th, t1, _, _, rfl, rfl, ha2, hcb, K2, B2, kx2, BF2, L2, BS2, by omega, by omega, by omega, by omega, by omega⟩)
theorem kk_undo (z : Value) (d c : Nat) (hp : xx_H) (s : KS) (hK : KI c hp s) (hB : KB s) (u k : Int) (NM : BKM) (t : List sp_Th) (nf nt : Int) (hO : OC hp) (hS : BKS c hp s NM t u nf nt) (e26 : s.I 26 = (t.length : Int)) (e27 : s.I 27 = nf) (e28 : s.I 28 = nt) (hL : LI k s) (lk : k ≤ 1000000) (eu : s.I 24 = u) (l24 : u ≤ 2147483647) : xx_cl (xt_P z) (d + 5) 303 [.ref (c + 0)] hp (fun v h1 => ∃ (x : Int) (s1 : KS) (nf1 nt1 : Int), v = some (.int (iI x)) ∧ KI c h1 s1 ∧ KB s1 ∧ kx c hp s h1 s1 0 0 ∧ (s1.A = s.A ∧ s1.N = s.N ∧ ∀ i : Nat, i < 24 → s1.I i = s.I i) ∧ s1.I 25 = s.I 25 ∧ s1.I 24 ≤ s.I 24 ∧ LI (k + 1) s1 ∧ BKS c h1 s1 NM (t.drop 1) (s1.I 24) nf1 nt1 ∧ s1.I 26 = ((t.drop 1).length : Int) ∧ s1.I 27 = nf1 ∧ s1.I 28 = nt1 ∧ nf1 ≤ nf ∧ nt1 ≤ nt) := by
  refine cl_go rfl ?_
  show xx_go (xt_P z) (d + 4) 303 0 [some (.ref (c + 0)), none] [] hp _
  refine go_a (pc' := 1) (ls' := [some (.ref (c + 0)), none]) (st' := [.ref (c + 0)]) rfl rfl ?_
  refine go_get (v := .ref (c + 21)) rfl (hK.1 0 (by decide)) rfl rfl ?_
  refine go_v (m := 304) (as := [.ref (c + 21)]) (r := []) rfl rfl rfl (hK.1 12 (by decide)) rfl rfl (kf_takeBack z d c hp s hK hB u k NM t nf nt hO hS e26 e27 e28 hL lk) (fun v h1 hq => ?_)
  rcases hq with ⟨rfl, e9, et⟩ | ⟨a, cb, w0, w1, w2, w3, s1, th, t1, nf1, nt1, et, rfl, ca, hcb, K1, B1, X1, F1, L1, S1, q26, q27, q28, q1, q2⟩
  · rw [e9]
    clear e9 h1
    show xx_go (xt_P z) (d + 4) 303 7 [some (.ref (c + 0)), none] [.null] hp _
    refine go_a (pc' := 8) (ls' := [some (.ref (c + 0)), some (.null)]) (st' := []) rfl rfl ?_
    refine go_a (pc' := 9) (ls' := [some (.ref (c + 0)), some (.null)]) (st' := [.null]) rfl rfl ?_
    refine go_a (pc' := 12) (ls' := [some (.ref (c + 0)), some (.null)]) (st' := []) rfl rfl ?_
    refine go_a (pc' := 13) (ls' := [some (.ref (c + 0)), some (.null)]) (st' := [.int (iI 3)]) rfl rfl ?_
    have L1 : LI (k + 1) s := by unfold LI at hL ⊢; omega
    exact go_r rfl rfl rfl rfl rfl rfl ⟨3, s, nf, nt, rfl, hK, hB, kx_rf, ⟨rfl, rfl, fun _ _ => rfl⟩, rfl, Int.le_refl _, L1, by rw [eu]; rw [et] at hS ⊢; exact hS, by rw [et] at e26 ⊢; exact e26, e27, e28, Int.le_refl _, Int.le_refl _⟩
  · have hX := X1
    show xx_go (xt_P z) (d + 4) 303 7 [some (.ref (c + 0)), none] [.ref a] h1 _
    refine go_a (pc' := 8) (ls' := [some (.ref (c + 0)), some (.ref a)]) (st' := []) rfl rfl ?_
    refine go_a (pc' := 9) (ls' := [some (.ref (c + 0)), some (.ref a)]) (st' := [.ref a]) rfl rfl ?_
    refine go_a (pc' := 14) (ls' := [some (.ref (c + 0)), some (.ref a)]) (st' := []) rfl rfl ?_
    refine go_a (pc' := 15) (ls' := [some (.ref (c + 0)), some (.ref a)]) (st' := [.ref (c + 0)]) rfl rfl ?_
    refine go_a (pc' := 16) (ls' := [some (.ref (c + 0)), some (.ref a)]) (st' := [.ref a, .ref (c + 0)]) rfl rfl ?_
    refine go_get (v := .int (iI cb)) rfl ca rfl rfl ?_
    refine kput_24 (x := cb) K1 (kx_rf (c := c) (hp := h1) (s := s1)) rfl rfl (fun h2 hK Xn => ?_)
    have hX := kx_w (kx_tr X1 Xn) (show (0 : Int) + 0 ≤ 0 by decide) (show (0 : Int) + 0 ≤ 0 by decide)
    refine go_a (pc' := 23) (ls' := [some (.ref (c + 0)), some (.ref a)]) (st' := [.int (iI 0)]) rfl rfl ?_
    have B2 : KB (s1.wI 24 cb) := KB_wF B1 (by omega) (by omega) (by decide)
    have S2 : BKS c h2 (s1.wI 24 cb) NM t1 cb nf1 nt1 := BKS_kx S1 Xn (Int.le_refl _) (fun _ _ _ => rfl) (fun _ _ _ => rfl) (fun _ _ _ => rfl) (fun _ _ _ => rfl) (fun _ _ _ => rfl) (fun _ _ _ => rfl)
    exact go_r rfl rfl rfl rfl rfl rfl ⟨0, _, nf1, nt1, rfl, hK, B2, hX, ⟨F1.1, F1.2.1, fun i hi => (su_ne (by omega)).trans (F1.2.2.2 i (by omega))⟩, (show (s1.wI 24 cb).I 25 = s1.I 25 from rfl).trans (F1.2.2.2 25 (by decide)), by show cb ≤ s.I 24; omega, L1, by rw [et]; exact S2, by rw [et]; exact q26, q27, q28, q1, q2⟩
theorem kk_mayName (z : Value) (d c : Nat) (x : Int) (hp : xx_H) (s : KS) (hK : KI c hp s) (hB : KB s) (x0 : -2147483648 ≤ x) (x1 : x ≤ 2147483647) : xx_cl (xt_P z) (d + 3) 208 [.ref (c + 0), .int (iI x)] hp (fun v h1 => ((v = some (.int (iI 1)) ∧ OB s x ∧ 17 ≤ x ∧ 4611686018427387904 ≤ s.N x) ∨ (v = some (.int (iI 0)) ∧ ¬ (OB s x ∧ 17 ≤ x ∧ 4611686018427387904 ≤ s.N x))) ∧ h1 = hp) := by
  refine cl_go rfl ?_
  show xx_go (xt_P z) (d + 2) 208 0 [some (.ref (c + 0)), some (.int (iI x))] [] hp _
  refine go_a (pc' := 1) (ls' := [some (.ref (c + 0)), some (.int (iI x))]) (st' := [.ref (c + 0)]) rfl rfl ?_
  refine go_get (v := .ref (c + 4)) rfl (hK.1 0 (by decide)) rfl rfl ?_
  refine go_a (pc' := 5) (ls' := [some (.ref (c + 0)), some (.int (iI x))]) (st' := [.int (iI x), .ref (c + 4)]) rfl rfl ?_
  have no : ¬ (OB s x ∧ 17 ≤ x ∧ 4611686018427387904 ≤ s.N x) → xx_go (xt_P z) (d + 2) 208 21 [some (.ref (c + 0)), some (.int (iI x))] [] hp (fun v h1 => ((v = some (.int (iI 1)) ∧ OB s x ∧ 17 ≤ x ∧ 4611686018427387904 ≤ s.N x) ∨ (v = some (.int (iI 0)) ∧ ¬ (OB s x ∧ 17 ≤ x ∧ 4611686018427387904 ≤ s.N x))) ∧ h1 = hp) := by
    intro nx
    refine go_a (pc' := 22) (ls' := [some (.ref (c + 0)), some (.int (iI x))]) (st' := [.int (iI 0)]) rfl rfl ?_
    exact go_r rfl rfl rfl rfl rfl rfl ⟨Or.inr ⟨rfl, nx⟩, rfl⟩
  refine go_v (m := 206) (as := [.ref (c + 4), .int (iI x)]) (r := []) rfl rfl rfl (hK.1 3 (by decide)) rfl rfl (kc_isSymbol z (d + 1) c x hp s hK hB x0 x1) (fun v h3 hq => ?_)
  obtain ⟨hq, e9⟩ := hq
  rw [e9]
  clear e9 h3
  rcases hq with ⟨c1, rfl⟩ | ⟨c1, rfl⟩
  · show xx_go (xt_P z) (d + 2) 208 8 [some (.ref (c + 0)), some (.int (iI x))] [.int (iI 1)] hp _
    refine mi_eq0 (t := 21) rfl rfl (by omega) (by omega) (fun q => absurd q (by decide)) (fun _ => ?_)
    refine go_a (pc' := 12) (ls' := [some (.ref (c + 0)), some (.int (iI x))]) (st' := [.int (iI x)]) rfl rfl ?_
    refine go_a (pc' := 14) (ls' := [some (.ref (c + 0)), some (.int (iI x))]) (st' := [.int (iI 16), .int (iI x)]) rfl rfl ?_
    refine mi_le (t := 21) rfl rfl (by omega) (by omega) (by omega) (by omega) (fun w1 => no (fun w => by have := w.2.1; omega)) (fun w1 => ?_)
    refine go_a (pc' := 18) (ls' := [some (.ref (c + 0)), some (.int (iI x))]) (st' := [.int (iI 1)]) rfl rfl ?_
    refine go_a (pc' := 22) (ls' := [some (.ref (c + 0)), some (.int (iI x))]) (st' := [.int (iI 1)]) rfl rfl ?_
    exact go_r rfl rfl rfl rfl rfl rfl ⟨Or.inl ⟨rfl, ⟨c1.1, c1.2.1⟩, by omega, c1.2.2⟩, rfl⟩
  · show xx_go (xt_P z) (d + 2) 208 8 [some (.ref (c + 0)), some (.int (iI x))] [.int (iI 0)] hp _
    refine mi_eq0 (t := 21) rfl rfl (by omega) (by omega) (fun _ => no (fun w => c1 ⟨w.1.1, w.1.2, w.2.2⟩)) (fun q => absurd rfl q)
theorem kk_kindOf (z : Value) (d c : Nat) (x : Int) (hp : xx_H) (s : KS) (hK : KI c hp s) (hB : KB s) (hC : CI s) (ho : x = -1 ∨ OB s x) : xx_cl (xt_P z) (d + 3) 45 [.ref (c + 0), .int (iI x)] hp (fun v h1 => (∃ y : Int, v = some (.int (iI y)) ∧ ((y = -1 ∧ x = -1) ∨ (y = 0 ∧ x ≠ -1 ∧ ∃ n : Int, ((n = -1 ∧ ∀ q : Nat, ¬ isL (SD s) q x) ∨ ∃ q : Nat, n = q ∧ isL (SD s) q x) ∧ ¬ (((fst s x = 17 ∨ fst s x = 18) ∧ n = 4) ∨ (fst s x = 19 ∧ n = 2) ∨ (fst s x = 20 ∧ n = 1))) ∨ (x ≠ -1 ∧ pi s 0 x = y ∧ ((y = 17 ∨ y = 18) ∧ isL (SD s) 4 x ∨ y = 19 ∧ isL (SD s) 2 x ∨ y = 20 ∧ isL (SD s) 1 x)))) ∧ h1 = hp) := by
  have xR : -2147483648 ≤ x ∧ x ≤ 2147483647 := Or.elim ho (fun w => by omega) (fun w => OB_R hB w)
  refine cl_go rfl ?_
  show xx_go (xt_P z) (d + 2) 45 0 [some (.ref (c + 0)), some (.int (iI x)), none, none] [] hp _
  refine go_a (pc' := 1) (ls' := [some (.ref (c + 0)), some (.int (iI x)), none, none]) (st' := [.int (iI x)]) rfl rfl ?_
  refine go_a (pc' := 2) (ls' := [some (.ref (c + 0)), some (.int (iI x)), none, none]) (st' := [.int (iI ((-1))), .int (iI x)]) rfl rfl ?_
  refine mi_ne (t := 7) rfl rfl (by omega) (by omega) (by omega) (by omega) (fun w1 => ?_) (fun w1 => ?_)
  · have ho := ho.resolve_left w1
    have fr := OB_R hB (fst_OB hC hB x).1
    refine go_a (pc' := 8) (ls' := [some (.ref (c + 0)), some (.int (iI x)), none, none]) (st' := [.ref (c + 0)]) rfl rfl ?_
    refine go_get (v := .ref (c + 4)) rfl (hK.1 0 (by decide)) rfl rfl ?_
    refine go_a (pc' := 12) (ls' := [some (.ref (c + 0)), some (.int (iI x)), none, none]) (st' := [.int (iI x), .ref (c + 4)]) rfl rfl ?_
    refine go_v (m := 197) (as := [.ref (c + 4), .int (iI x)]) (r := []) rfl rfl rfl (hK.1 3 (by decide)) rfl rfl (kc_first z (d + 1) c x hp s hK hB xR.1 xR.2) (fun v h3 hq => ?_)
    obtain ⟨rfl, e9⟩ := hq
    rw [e9]
    clear e9 h3
    show xx_go (xt_P z) (d + 2) 45 15 [some (.ref (c + 0)), some (.int (iI x)), none, none] [.int (iI (fst s x))] hp _
    refine go_a (pc' := 16) (ls' := [some (.ref (c + 0)), some (.int (iI x)), some (.int (iI (fst s x))), none]) (st' := []) rfl rfl ?_
    refine go_a (pc' := 17) (ls' := [some (.ref (c + 0)), some (.int (iI x)), some (.int (iI (fst s x))), none]) (st' := [.ref (c + 0)]) rfl rfl ?_
    refine go_get (v := .ref (c + 4)) rfl (hK.1 0 (by decide)) rfl rfl ?_
    refine go_a (pc' := 21) (ls' := [some (.ref (c + 0)), some (.int (iI x)), some (.int (iI (fst s x))), none]) (st' := [.int (iI x), .ref (c + 4)]) rfl rfl ?_
    refine go_v (m := 198) (as := [.ref (c + 4), .int (iI x)]) (r := []) rfl rfl rfl (hK.1 3 (by decide)) rfl rfl (kc_listLength z d c x hp s hK hB hC ho) (fun v h3 hq => ?_)
    obtain ⟨⟨n, rfl, hn⟩, e9⟩ := hq
    rw [e9]
    clear e9 h3
    have nR : -1 ≤ n ∧ n ≤ 140000 := by
      rcases hn with ⟨q, -⟩ | ⟨m, q, hL⟩
      · omega
      · have := isL_len (I := UI s) hC.1 _ m x (Nat.le_refl _) ho.1 ho.2 hL
        have l8 : s.I 8 ≤ 140000 := hC.1.1
        have := ho.2
        omega
    show xx_go (xt_P z) (d + 2) 45 24 [some (.ref (c + 0)), some (.int (iI x)), some (.int (iI (fst s x))), none] [.int (iI n)] hp _
    refine go_a (pc' := 25) (ls' := [some (.ref (c + 0)), some (.int (iI x)), some (.int (iI (fst s x))), some (.int (iI n))]) (st' := []) rfl rfl ?_
    refine go_a (pc' := 26) (ls' := [some (.ref (c + 0)), some (.int (iI x)), some (.int (iI (fst s x))), some (.int (iI n))]) (st' := [.int (iI (fst s x))]) rfl rfl ?_
    have LN : ∀ q : Nat, 1 ≤ q → n = q → isL (SD s) q x ∧ pi s 0 x = fst s x := by
      intro q q1 e
      rcases hn with ⟨w, -⟩ | ⟨m, w, hL⟩
      · omega
      · obtain rfl : m = q := by omega
        have := isL_rt (I := UI s) hC.1 m 0 x ho.1 ho.2 hL (by omega)
        exact ⟨hL, (fst_eq ho.1 ho.2 this.2.2).1.symm⟩
    obtain ⟨r, er⟩ : ∃ r : Int, r = fst s x := ⟨_, rfl⟩
    rw [← er] at fr LN
    rw [← er]
    show xx_go (xt_P z) (d + 2) 45 26 [some (.ref (c + 0)), some (.int (iI x)), some (.int (iI r)), some (.int (iI n))] [.int (iI r)] hp _
    by_cases h17 : r = 17 ∨ r = 18 ∨ r = 19 ∨ r = 20
    · rcases h17 with rfl | rfl | rfl | rfl
      · refine go_a (pc' := 56) (ls' := [some (.ref (c + 0)), some (.int (iI x)), some (.int (iI 17)), some (.int (iI n))]) (st' := []) rfl rfl ?_
        refine go_a (pc' := 57) (ls' := [some (.ref (c + 0)), some (.int (iI x)), some (.int (iI 17)), some (.int (iI n))]) (st' := [.int (iI n)]) rfl rfl ?_
        refine go_a (pc' := 58) (ls' := [some (.ref (c + 0)), some (.int (iI x)), some (.int (iI 17)), some (.int (iI n))]) (st' := [.int (iI 4), .int (iI n)]) rfl rfl ?_
        refine mi_ne (t := 65) rfl rfl (by omega) (by omega) (by omega) (by omega) (fun w2 => ?_) (fun w2 => ?_)
        · refine go_a (pc' := 66) (ls' := [some (.ref (c + 0)), some (.int (iI x)), some (.int (iI 17)), some (.int (iI n))]) (st' := [.int (iI 0)]) rfl rfl ?_
          exact go_r rfl rfl rfl rfl rfl rfl ⟨⟨0, rfl, Or.inr (Or.inl ⟨rfl, w1, n, hn, by clear hn LN; omega⟩)⟩, rfl⟩
        · obtain ⟨L1, L2⟩ := LN 4 (by decide) (by omega)
          refine go_a (pc' := 62) (ls' := [some (.ref (c + 0)), some (.int (iI x)), some (.int (iI 17)), some (.int (iI n))]) (st' := [.int (iI 17)]) rfl rfl ?_
          refine go_a (pc' := 66) (ls' := [some (.ref (c + 0)), some (.int (iI x)), some (.int (iI 17)), some (.int (iI n))]) (st' := [.int (iI 17)]) rfl rfl ?_
          exact go_r rfl rfl rfl rfl rfl rfl ⟨⟨17, rfl, Or.inr (Or.inr ⟨w1, L2, Or.inl ⟨Or.inl rfl, L1⟩⟩)⟩, rfl⟩
      · refine go_a (pc' := 56) (ls' := [some (.ref (c + 0)), some (.int (iI x)), some (.int (iI 18)), some (.int (iI n))]) (st' := []) rfl rfl ?_
        refine go_a (pc' := 57) (ls' := [some (.ref (c + 0)), some (.int (iI x)), some (.int (iI 18)), some (.int (iI n))]) (st' := [.int (iI n)]) rfl rfl ?_
        refine go_a (pc' := 58) (ls' := [some (.ref (c + 0)), some (.int (iI x)), some (.int (iI 18)), some (.int (iI n))]) (st' := [.int (iI 4), .int (iI n)]) rfl rfl ?_
        refine mi_ne (t := 65) rfl rfl (by omega) (by omega) (by omega) (by omega) (fun w2 => ?_) (fun w2 => ?_)
        · refine go_a (pc' := 66) (ls' := [some (.ref (c + 0)), some (.int (iI x)), some (.int (iI 18)), some (.int (iI n))]) (st' := [.int (iI 0)]) rfl rfl ?_
          exact go_r rfl rfl rfl rfl rfl rfl ⟨⟨0, rfl, Or.inr (Or.inl ⟨rfl, w1, n, hn, by clear hn LN; omega⟩)⟩, rfl⟩
        · obtain ⟨L1, L2⟩ := LN 4 (by decide) (by omega)
          refine go_a (pc' := 62) (ls' := [some (.ref (c + 0)), some (.int (iI x)), some (.int (iI 18)), some (.int (iI n))]) (st' := [.int (iI 18)]) rfl rfl ?_
          refine go_a (pc' := 66) (ls' := [some (.ref (c + 0)), some (.int (iI x)), some (.int (iI 18)), some (.int (iI n))]) (st' := [.int (iI 18)]) rfl rfl ?_
          exact go_r rfl rfl rfl rfl rfl rfl ⟨⟨18, rfl, Or.inr (Or.inr ⟨w1, L2, Or.inl ⟨Or.inr rfl, L1⟩⟩)⟩, rfl⟩
      · refine go_a (pc' := 67) (ls' := [some (.ref (c + 0)), some (.int (iI x)), some (.int (iI 19)), some (.int (iI n))]) (st' := []) rfl rfl ?_
        refine go_a (pc' := 68) (ls' := [some (.ref (c + 0)), some (.int (iI x)), some (.int (iI 19)), some (.int (iI n))]) (st' := [.int (iI n)]) rfl rfl ?_
        refine go_a (pc' := 69) (ls' := [some (.ref (c + 0)), some (.int (iI x)), some (.int (iI 19)), some (.int (iI n))]) (st' := [.int (iI 2), .int (iI n)]) rfl rfl ?_
        refine mi_ne (t := 76) rfl rfl (by omega) (by omega) (by omega) (by omega) (fun w2 => ?_) (fun w2 => ?_)
        · refine go_a (pc' := 77) (ls' := [some (.ref (c + 0)), some (.int (iI x)), some (.int (iI 19)), some (.int (iI n))]) (st' := [.int (iI 0)]) rfl rfl ?_
          exact go_r rfl rfl rfl rfl rfl rfl ⟨⟨0, rfl, Or.inr (Or.inl ⟨rfl, w1, n, hn, by clear hn LN; omega⟩)⟩, rfl⟩
        · obtain ⟨L1, L2⟩ := LN 2 (by decide) (by omega)
          refine go_a (pc' := 73) (ls' := [some (.ref (c + 0)), some (.int (iI x)), some (.int (iI 19)), some (.int (iI n))]) (st' := [.int (iI 19)]) rfl rfl ?_
          refine go_a (pc' := 77) (ls' := [some (.ref (c + 0)), some (.int (iI x)), some (.int (iI 19)), some (.int (iI n))]) (st' := [.int (iI 19)]) rfl rfl ?_
          exact go_r rfl rfl rfl rfl rfl rfl ⟨⟨19, rfl, Or.inr (Or.inr ⟨w1, L2, Or.inr (Or.inl ⟨rfl, L1⟩)⟩)⟩, rfl⟩
      · refine go_a (pc' := 78) (ls' := [some (.ref (c + 0)), some (.int (iI x)), some (.int (iI 20)), some (.int (iI n))]) (st' := []) rfl rfl ?_
        refine go_a (pc' := 79) (ls' := [some (.ref (c + 0)), some (.int (iI x)), some (.int (iI 20)), some (.int (iI n))]) (st' := [.int (iI n)]) rfl rfl ?_
        refine go_a (pc' := 80) (ls' := [some (.ref (c + 0)), some (.int (iI x)), some (.int (iI 20)), some (.int (iI n))]) (st' := [.int (iI 1), .int (iI n)]) rfl rfl ?_
        refine mi_ne (t := 87) rfl rfl (by omega) (by omega) (by omega) (by omega) (fun w2 => ?_) (fun w2 => ?_)
        · refine go_a (pc' := 88) (ls' := [some (.ref (c + 0)), some (.int (iI x)), some (.int (iI 20)), some (.int (iI n))]) (st' := [.int (iI 0)]) rfl rfl ?_
          exact go_r rfl rfl rfl rfl rfl rfl ⟨⟨0, rfl, Or.inr (Or.inl ⟨rfl, w1, n, hn, by clear hn LN; omega⟩)⟩, rfl⟩
        · obtain ⟨L1, L2⟩ := LN 1 (by decide) (by omega)
          refine go_a (pc' := 84) (ls' := [some (.ref (c + 0)), some (.int (iI x)), some (.int (iI 20)), some (.int (iI n))]) (st' := [.int (iI 20)]) rfl rfl ?_
          refine go_a (pc' := 88) (ls' := [some (.ref (c + 0)), some (.int (iI x)), some (.int (iI 20)), some (.int (iI n))]) (st' := [.int (iI 20)]) rfl rfl ?_
          exact go_r rfl rfl rfl rfl rfl rfl ⟨⟨20, rfl, Or.inr (Or.inr ⟨w1, L2, Or.inr (Or.inr ⟨rfl, L1⟩)⟩)⟩, rfl⟩
    · refine mi_tsd (t := 89) rfl (by omega) (by omega) (by omega) rfl ?_
      show xx_go (xt_P z) (d + 2) 45 89 [some (.ref (c + 0)), some (.int (iI x)), some (.int (iI r)), some (.int (iI n))] [] hp _
      refine go_a (pc' := 90) (ls' := [some (.ref (c + 0)), some (.int (iI x)), some (.int (iI r)), some (.int (iI n))]) (st' := [.int (iI 0)]) rfl rfl ?_
      exact go_r rfl rfl rfl rfl rfl rfl ⟨⟨0, rfl, Or.inr (Or.inl ⟨rfl, w1, n, hn, by clear hn LN; omega⟩)⟩, rfl⟩
  · refine go_a (pc' := 6) (ls' := [some (.ref (c + 0)), some (.int (iI x)), none, none]) (st' := [.int (iI ((-1)))]) rfl rfl ?_
    exact go_r rfl rfl rfl rfl rfl rfl ⟨⟨-1, rfl, Or.inl ⟨rfl, by omega⟩⟩, rfl⟩
def SF (s s1 : KS) : Prop := (s1.A = s.A ∧ s1.N = s.N ∧ s1.T = s.T ∧ s1.C = s.C ∧ s1.P = s.P) ∧ ∀ i : Nat, i ≠ 21 → i ≠ 22 → i ≠ 23 → i ≠ 25 → s1.I i = s.I i
theorem SF_rf {s : KS} : SF s s := ⟨⟨rfl, rfl, rfl, rfl, rfl⟩, fun _ _ _ _ _ => rfl⟩
theorem SF_tr {s s1 s2 : KS} (a : SF s s1) (b : SF s1 s2) : SF s s2 := ⟨⟨b.1.1.trans a.1.1, b.1.2.1.trans a.1.2.1, b.1.2.2.1.trans a.1.2.2.1, b.1.2.2.2.1.trans a.1.2.2.2.1, b.1.2.2.2.2.trans a.1.2.2.2.2⟩, fun i p q r t => (b.2 i p q r t).trans (a.2 i p q r t)⟩
theorem SF_wI {s : KS} {j : Nat} {x : Int} (hj : j = 21 ∨ j = 22 ∨ j = 23 ∨ j = 25) : SF s (s.wI j x) := ⟨⟨rfl, rfl, rfl, rfl, rfl⟩, fun i p q r t => su_ne (by omega)⟩
theorem kk_failure (z : Value) (d c : Nat) (hp : xx_H) (s : KS) (hK : KI c hp s) (hB : KB s) : xx_cl (xt_P z) (d + 1) 296 [.ref (c + 0)] hp (fun v h1 => ∃ (x : Int) (s1 : KS), v = some (.int (iI x)) ∧ KI c h1 s1 ∧ KB s1 ∧ kx c hp s h1 s1 0 0 ∧ SF s s1 ∧ s1.I 22 = s.I 17 ∧ s1.I 23 = s.I 23) := by
  have hX := kx_rf (c := c) (hp := hp) (s := s)
  have b17 := hB.2.1 17
  have b18 := hB.2.1 18
  have b19 := hB.2.1 19
  refine cl_go rfl ?_
  show xx_go (xt_P z) d 296 0 [some (.ref (c + 0))] [] hp _
  refine go_a (pc' := 1) (ls' := [some (.ref (c + 0))]) (st' := [.ref (c + 0)]) rfl rfl ?_
  refine go_a (pc' := 2) (ls' := [some (.ref (c + 0))]) (st' := [.ref (c + 0), .ref (c + 0)]) rfl rfl ?_
  refine go_get (v := .ref (c + 30)) rfl (hK.1 0 (by decide)) rfl rfl ?_
  refine go_get (v := .int (iI (s.I 17))) rfl (hK.1 19 (by decide)) rfl rfl ?_
  refine kput_22 (x := s.I 17) hK hX rfl rfl (fun hp1 hK hX => ?_)
  refine go_a (pc' := 12) (ls' := [some (.ref (c + 0))]) (st' := [.ref (c + 0)]) rfl rfl ?_
  refine go_a (pc' := 13) (ls' := [some (.ref (c + 0))]) (st' := [.ref (c + 0), .ref (c + 0)]) rfl rfl ?_
  refine go_get (v := .ref (c + 30)) rfl (hK.1 0 (by decide)) rfl rfl ?_
  refine go_get (v := .int (iI (s.I 18))) rfl (hK.1 19 (by decide)) rfl rfl ?_
  refine kput_21 (x := s.I 18) hK hX rfl rfl (fun hp1 hK hX => ?_)
  refine go_a (pc' := 23) (ls' := [some (.ref (c + 0))]) (st' := [.ref (c + 0)]) rfl rfl ?_
  refine go_get (v := .int (iI (s.I 18))) rfl (hK.1 0 (by decide)) rfl rfl ?_
  have B2 : KB ((s.wI 22 (s.I 17)).wI 21 (s.I 18)) := KB_wF (KB_wF hB (by omega) (by omega) (by decide)) (by omega) (by omega) (by decide)
  have F2 : SF s ((s.wI 22 (s.I 17)).wI 21 (s.I 18)) := SF_tr (SF_wI (by decide)) (SF_wI (by decide))
  refine mi_eq0 (t := 31) rfl rfl (by omega) (by omega) (fun w1 => ?_) (fun w1 => ?_)
  · refine go_a (pc' := 32) (ls' := [some (.ref (c + 0))]) (st' := [.ref (c + 0)]) rfl rfl ?_
    refine go_a (pc' := 33) (ls' := [some (.ref (c + 0))]) (st' := [.ref (c + 0), .ref (c + 0)]) rfl rfl ?_
    refine go_get (v := .ref (c + 30)) rfl (hK.1 0 (by decide)) rfl rfl ?_
    refine go_get (v := .int (iI (s.I 19))) rfl (hK.1 19 (by decide)) rfl rfl ?_
    refine kput_25 (x := s.I 19) hK hX rfl rfl (fun hp1 hK hX => ?_)
    refine go_a (pc' := 44) (ls' := [some (.ref (c + 0))]) (st' := [.int (iI 7)]) rfl rfl ?_
    exact go_r rfl rfl rfl rfl rfl rfl ⟨7, _, rfl, hK, KB_wF B2 (by omega) (by omega) (by decide), hX, SF_tr F2 (SF_wI (by decide)), rfl, rfl⟩
  · refine go_a (pc' := 30) (ls' := [some (.ref (c + 0))]) (st' := [.int (iI 4)]) rfl rfl ?_
    exact go_r rfl rfl rfl rfl rfl rfl ⟨4, _, rfl, hK, B2, hX, F2, rfl, rfl⟩

theorem HC_inj {s : KS} {NM : BKM} {k : Int} {i : Nat} (h : KNT s NM) (hC : CI s) (hB : KB s) (k0 : OB s k) (hi : i < 38) (e : sp_hc (DK s.N k) = cNm.getD i 0) : k = (i : Int) := by
  have ST := (KNT_ST h hC hB).1
  have u := KB_38 hB
  have ei := KNN_D h.2.1 (i := i) hi
  have pos : ∀ i : Nat, i < 38 → cNm.getD i 0 ≠ 0 := by decide
  rcases ST.1 k k0.1 k0.2 with ⟨-, n, q⟩ | ⟨-, v, q⟩ | ⟨-, q⟩
  · rw [q] at e
    exact absurd e.symm (pos i hi)
  · rw [q] at e
    have e : v = cNm.getD i 0 := e
    rw [← e, ← q] at ei
    exact ST.2.1 k i k0.1 k0.2 (by omega) (by omega) ei.symm
  · rw [q] at e
    exact absurd e.symm (pos i hi)
theorem MN_tr {s : KS} {NM : BKM} {k : Int} (h : KNT s NM) (hC : CI s) (hB : KB s) (k0 : OB s k) : (17 ≤ k ∧ 4611686018427387904 ≤ s.N k) ↔ ∃ v : Nat, DK s.N k = .var v ∧ sp_mn v := by
  have ST := (KNT_ST h hC hB).1
  constructor
  · rintro ⟨a, b⟩
    have e := DK_s (N := s.N) b
    exact ⟨_, e, (DK_mn h.2.1 hB ⟨hC, h.1.1⟩ k0 a e).1⟩
  · rintro ⟨v, e, m⟩
    refine ⟨?_, SD_v.mp (ST_iv ST k0.1 k0.2 e)⟩
    apply Int.not_lt.mp
    intro w
    have d := KNN_D h.2.1 (i := k.toNat) (by omega)
    have kk := k0.1
    rw [show ((k.toNat : Nat) : Int) = k by omega, e] at d
    injection d with d
    exact m k.toNat (by omega) d
def sp_kc (x : ob_T) : Prop := sp_pl x = true ∧ (((sp_hc (sp_p 0 x) = 20052094 ∨ sp_hc (sp_p 0 x) = 15480824) ∧ (sp_as x).length = 4) ∨ (sp_hc (sp_p 0 x) = 746742303 ∧ (sp_as x).length = 2) ∨ (sp_hc (sp_p 0 x) = 2211412 ∧ (sp_as x).length = 1))
theorem sp_cmd_no {bk : List sp_Th} {lit fuel : Int} {x : ob_T} (h : ¬ sp_kc x) : sp_cmd bk lit fuel x = ((bk, lit), 0) := by
  unfold sp_cmd
  by_cases p : sp_pl x = false
  · rw [if_pos p]
  · have p1 : sp_pl x = true := by simpa using p
    rw [if_neg p, if_neg (fun w => h ⟨p1, Or.inl ⟨Or.inl w.1, w.2⟩⟩), if_neg (fun w => h ⟨p1, Or.inl ⟨Or.inr w.1, w.2⟩⟩), if_neg (fun w => h ⟨p1, Or.inr (Or.inl w)⟩), if_neg (fun w => h ⟨p1, Or.inr (Or.inr w)⟩)]
theorem KO_no {s : KS} {NM : BKM} {x n : Int} (h : KNT s NM) (hC : CI s) (hB : KB s) (x0 : OB s x) (hn : (n = -1 ∧ ∀ q : Nat, ¬ isL (SD s) q x) ∨ ∃ q : Nat, n = q ∧ isL (SD s) q x) (no : ¬ (((fst s x = 17 ∨ fst s x = 18) ∧ n = 4) ∨ (fst s x = 19 ∧ n = 2) ∨ (fst s x = 20 ∧ n = 1))) : ¬ sp_kc (DK s.N x) := by
  rintro ⟨p, w⟩
  have ST := (KNT_ST h hC hB).1
  have L := (ST_isL ST (sp_as (DK s.N x)).length x x0.1 x0.2).mpr ⟨p, rfl⟩
  have en : n = ((sp_as (DK s.N x)).length : Int) := by
    rcases hn with ⟨-, q⟩ | ⟨q, e, L2⟩
    · exact absurd L (q _)
    · have := ((ST_isL ST q x x0.1 x0.2).mp L2).2
      omega
  have len1 : 1 ≤ (sp_as (DK s.N x)).length := by rcases w with ⟨-, w⟩ | ⟨-, w⟩ | ⟨-, w⟩ <;> omega
  have r := ST_rt ST _ 0 x x0.1 x0.2 L len1
  have r2 : 0 ≤ SD s 1 x := r.2.1
  have ef := (fst_eq x0.1 x0.2 r2).1
  have e0 : sp_p 0 (DK s.N x) = DK s.N (fst s x) := by
    rw [ef]
    unfold sp_p
    rw [List.getD_eq_getElem?_getD, r.1]
    rfl
  have ob : OB s (fst s x) := by
    have r3 : SD s 1 x < x := r.2.2
    have := x0.2
    rw [ef]
    exact ⟨r2, by omega⟩
  rw [e0] at w
  have k17 := HC_inj (i := 17) h hC hB ob (by decide)
  have k18 := HC_inj (i := 18) h hC hB ob (by decide)
  have k19 := HC_inj (i := 19) h hC hB ob (by decide)
  have k20 := HC_inj (i := 20) h hC hB ob (by decide)
  rcases w with ⟨w | w, l⟩ | ⟨w, l⟩ | ⟨w, l⟩
  · exact no (Or.inl ⟨Or.inl (k17 w), by omega⟩)
  · exact no (Or.inl ⟨Or.inr (k18 w), by omega⟩)
  · exact no (Or.inr (Or.inl ⟨k19 w, by omega⟩))
  · exact no (Or.inr (Or.inr ⟨k20 w, by omega⟩))
