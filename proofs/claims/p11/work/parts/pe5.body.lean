def KF1 (t : Nat) (hp h1 : xx_H) : Prop := h1.length = hp.length ∧ xx_sz h1 = xx_sz hp ∧ ∀ p : Nat, p ≠ t → h1[p]? = hp[p]?
section KFS
variable {c t : Nat} {hp h1 hp0 : xx_H} {s s0 : KS} {u α β : Int}
theorem KF1_set {e e0 : xx_E} (h : hp[t]? = some e0) (hz : xx_sz1 e = xx_sz1 e0) : KF1 t hp (hp.set t e) := ⟨List.length_set, xx_sz_set h hz, fun p q => List.getElem?_set_ne (fun e => q e.symm)⟩
theorem KF1_KI (hK : KI c hp s) (k1 : kn c s t) (h12 : 12 ≤ t) (F : KF1 t hp h1) : KI c h1 s := by
  refine ⟨fun i hi => ?_, hK.2⟩
  have n1 : kp c s.P i ≠ t := by
    rcases k1 with q | q
    · omega
    · exact q i hi
  rw [F.2.2 _ n1]
  exact hK.1 i hi
theorem KF1_kx (X : kx c hp0 s0 hp s α β) (hx : hp0.length ≤ t) (F : KF1 t hp h1) : kx c hp0 s0 h1 s α β := by
  obtain ⟨a1, a2, a3, a4⟩ := X
  refine ⟨by rw [F.1]; exact a1, fun p q r => ⟨(a2 p q r).1, ?_⟩, by rw [F.1]; exact a3, by rw [F.2.1]; exact a4⟩
  rw [F.2.2 p (by omega)]
  exact (a2 p q r).2
theorem KF1_TM {a : Nat} {n : Int} {f : Int → Int} (F : KF1 t hp h1) (h : TM c hp s u a n f) (n1 : a ≠ t) (n2 : a + 1 ≠ t) : TM c h1 s u a n f := by
  obtain ⟨⟨q, ⟨l1, l2, l3⟩, k1, k2, k3⟩, h2⟩ := h
  have e1 : h1[a]? = hp[a]? := F.2.2 a n1
  have e2 : h1[q]? = hp[q]? := F.2.2 q (by omega)
  exact ⟨⟨q, ⟨e1.trans l1, e2.trans l2, l3⟩, k1, k2, k3⟩, h2⟩
theorem KF1_TMr {a : Nat} {n : Int} {f : Int → Int} {C : String} {vs : List Value} (ht : hp[t]? = some (.inl (.object C, vs))) (F : KF1 t hp h1) (h : TM c hp s u a n f) : TM c h1 s u a n f := by
  obtain ⟨l1, -, -⟩ := TMp h
  exact KF1_TM F h (fun e => by have := l1.1; rw [e, ht] at this; simp at this) (fun e => by have := l1.2.1; rw [e, ht] at this; simp at this)
end KFS
def OTK (c : Nat) (hp : xx_H) (s : KS) (u : Int) (t : Nat) (m k : Int) (B : Nat) (O : Int → Option Nat) (nO : Int → Int) (fO : Int → Int → Int) : Prop := hp[t]? = some (.inl (.object "ClauseKernel$Term", xa_r m.toNat O)) ∧ kn c s t ∧ (0 ≤ m ∧ m ≤ 1000) ∧ ∀ j : Int, 0 ≤ j → j < k → ∃ a : Nat, O j = some a ∧ B ≤ a ∧ TM c hp s u a (nO j) (fO j)
theorem OTK_kx {c : Nat} {hp hp1 : xx_H} {s s1 : KS} {x y u m k : Int} {t B : Nat} {O : Int → Option Nat} {nO : Int → Int} {fO : Int → Int → Int} (h : OTK c hp s u t m k B O nO fO) (X : kx c hp s hp1 s1 x y) : OTK c hp1 s1 u t m k B O nO fO := by
  obtain ⟨h1, h2, h3, h4⟩ := h
  have e := X.2.1 t (List.getElem?_eq_some_iff.mp h1).1 h2
  refine ⟨e.2.trans h1, e.1, h3, fun j a b => ?_⟩
  obtain ⟨w, p, r, q⟩ := h4 j a b
  exact ⟨w, p, r, TM_kx q X⟩
theorem OTK_OTH {c : Nat} {hp : xx_H} {s : KS} {u m : Int} {t B : Nat} {O : Int → Option Nat} {nO : Int → Int} {fO : Int → Int → Int} (h : OTK c hp s u t m m B O nO fO) : OTH c hp s u t m O nO fO := by
  obtain ⟨h1, h2, h3, h4⟩ := h
  refine ⟨h1, h2, h3, fun j a b => ?_⟩
  obtain ⟨w, p, r, q⟩ := h4 j a b
  exact ⟨w, p, q⟩
theorem OTK_put {c : Nat} {hp : xx_H} {s : KS} {u m k : Int} {t B b : Nat} {O : Int → Option Nat} {nO : Int → Int} {fO : Int → Int → Int} {n : Int} {f : Int → Int} (h : OTK c hp s u t m k B O nO fO) (T : TM c hp s u b n f) (hb : B ≤ b) : KF1 t hp (hp.set t (.inl (.object "ClauseKernel$Term", xa_r m.toNat (so O k (some b))))) ∧ OTK c (hp.set t (.inl (.object "ClauseKernel$Term", xa_r m.toNat (so O k (some b))))) s u t m (k + 1) B (so O k (some b)) (so nO k n) (so fO k f) := by
  obtain ⟨h1, h2, h3, h4⟩ := h
  have F : KF1 t hp (hp.set t (.inl (.object "ClauseKernel$Term", xa_r m.toNat (so O k (some b))))) := KF1_set h1 (by show (xa_r _ _).length = (xa_r _ _).length; rw [xa_r_len, xa_r_len])
  refine ⟨F, List.getElem?_set_self (List.getElem?_eq_some_iff.mp h1).1, h2, h3, fun j a e => ?_⟩
  by_cases cj : j = k
  · rw [cj, so_self, so_self, so_self]
    exact ⟨b, rfl, hb, KF1_TMr h1 F T⟩
  · rw [so_ne cj, so_ne cj, so_ne cj]
    obtain ⟨w, p, r, q⟩ := h4 j a (by omega)
    exact ⟨w, p, r, KF1_TMr h1 F q⟩
theorem ki_arrT {c : Nat} {hp : xx_H} {s : KS} (hK : KI c hp s) (u m : Int) (B : Nat) (nO : Int → Int) (fO : Int → Int → Int) (m0 : 0 ≤ m) (m1 : m ≤ 1000) : KI c (hp ++ [(.inl (.object "ClauseKernel$Term", xa_r m.toNat (fun _ => none)) : xx_E)]) s ∧ kx c hp s (hp ++ [(.inl (.object "ClauseKernel$Term", xa_r m.toNat (fun _ => none)) : xx_E)]) s 1 m ∧ OTK c (hp ++ [(.inl (.object "ClauseKernel$Term", xa_r m.toNat (fun _ => none)) : xx_E)]) s u hp.length m 0 B (fun _ => none) nO fO := by
  obtain ⟨a1, a2, a3⟩ := ki_app (e := (.inl (.object "ClauseKernel$Term", xa_r m.toNat (fun _ => none)) : xx_E)) hK
  refine ⟨a1, kx_w a2 (by decide) ?_, app_self, a3, ⟨m0, m1⟩, fun j p q => absurd q (by omega)⟩
  show ((xa_r m.toNat (fun _ => none)).length : Int) ≤ m
  rw [xa_r_len]
  omega
theorem kg_leafx (z : Value) (d c : Nat) (u x : Int) (hp : xx_H) (s : KS) (hK : KI c hp s) (hB : KB s) (hx : TVx u x) (ht : tk x = 0) : xx_cl (xt_P z) (d + 4) 258 [.ref (c + 25), .int (iI x)] hp (fun v h1 => ∃ (a : Nat) (s1 : KS) (f : Int → Int), v = some (.ref a) ∧ KI c h1 s1 ∧ KB s1 ∧ TF s s1 ∧ hp.length ≤ a ∧ kx c hp s h1 s1 2 2 ∧ TM c h1 s1 u a 1 f ∧ f 0 = x) := by
  refine cl_go rfl ?_
  show xx_go (xt_P z) (d + 3) 258 0 [some (.ref (c + 25)), some (.int (iI x))] [] hp _
  refine go_a (pc' := 1) (ls' := [some (.ref (c + 25)), some (.int (iI x))]) (st' := [.ref (c + 25)]) rfl rfl ?_
  refine go_get (v := .ref (c + 26)) rfl (hK.1 16 (by decide)) rfl rfl ?_
  refine go_a (pc' := 5) (ls' := [some (.ref (c + 25)), some (.int (iI x))]) (st' := [.int (iI 0), .ref (c + 26)]) rfl rfl ?_
  refine go_v (m := 39) (as := [.ref (c + 26), .int (iI 0)]) (r := []) rfl rfl rfl (hK.1 17 (by decide)) rfl rfl (kb_cut z (d + 2) c u hp s hK hB) (fun v h3 hq => ?_)
  obtain ⟨rfl, s1, K1, B1, X1, F1, e1, R1⟩ := hq
  show xx_go (xt_P z) (d + 3) 258 8 [some (.ref (c + 25)), some (.int (iI x))] [] h3 _
  refine go_a (pc' := 9) (ls' := [some (.ref (c + 25)), some (.int (iI x))]) (st' := [.ref (c + 25)]) rfl rfl ?_
  refine go_get (v := .ref (c + 26)) rfl (K1.1 16 (by decide)) rfl rfl ?_
  refine go_a (pc' := 13) (ls' := [some (.ref (c + 25)), some (.int (iI x))]) (st' := [.int (iI x), .ref (c + 26)]) rfl rfl ?_
  refine go_v (m := 35) (as := [.ref (c + 26), .int (iI x)]) (r := []) rfl rfl rfl (K1.1 17 (by decide)) rfl rfl (kb_add z (d + 1) c u h3 s1 x 0 K1 B1 R1 (by decide) hx (by omega)) (fun v h4 hq => ?_)
  obtain ⟨rfl, s2, K2, B2, X2, F2, e2, R2, -, E2, -⟩ := hq
  show xx_go (xt_P z) (d + 3) 258 16 [some (.ref (c + 25)), some (.int (iI x))] [] h4 _
  refine go_a (pc' := 17) (ls' := [some (.ref (c + 25)), some (.int (iI x))]) (st' := [.ref (c + 25)]) rfl rfl ?_
  rw [show 0 + tk x - 1 = -1 by omega] at R2
  refine go_v (m := 223) (as := [.ref (c + 25)]) (r := []) rfl rfl rfl (K2.1 16 (by decide)) rfl rfl (kb_made z d c u h4 s2 K2 B2 R2) (fun v h9 hq => ?_)
  rcases hq with ⟨c9, -⟩ | ⟨c9, rfl, K9, X9, T9⟩
  · omega
  show xx_go (xt_P z) (d + 3) 258 20 [some (.ref (c + 25)), some (.int (iI x))] [.ref h4.length] h9 _
  rw [show s2.I 6 = 1 by omega] at T9 X9
  have X0 := kx_tr X1 X2
  exact go_r rfl rfl rfl rfl rfl rfl ⟨_, s2, _, rfl, K9, B2, TF_tr F1 F2, X0.1, kx_w (kx_tr X0 X9) (by decide) (by decide), T9, by rw [← E2, e1]⟩
def ya (n : Int) (f : Int → Int) (p : Nat) : Nat → Nat
  | 0 => p + 1
  | j + 1 => bp n f (ya n f p j)
def yr (n : Int) (f : Int → Int) (p j : Nat) : List Int := ((rl n f).drop (ya n f p j)).take (bp n f (ya n f p j) - ya n f p j)
theorem kp_toc_loop (z : Value) (d c a : Nat) (n u m : Int) (f : Int → Int) (p : Nat) (hp0 : xx_H) (s : KS) (hB : KB s) (hT0 : TM c hp0 s u a n f) (hp1 : (p : Int) < n) (hm : tk (f (p : Int)) = m) : ∀ (x : Nat) (k : Int) (t y : Nat) (O : Int → Option Nat) (nO : Int → Int) (fO : Int → Int → Int) (hp : xx_H), (m - k).toNat ≤ x → 0 ≤ k → k ≤ m → KI c hp s → kx c hp0 s hp s (1 + 2 * k) (m + k + ((y : Int) - p - 1)) → TM c hp s u a n f → hp0.length ≤ t → 12 ≤ t → OTK c hp s u t m k hp0.length O nO fO → (y : Int) ≤ n → p < y → sm f y = sm f p + m - 1 - k → (∀ j : Nat, p ≤ j → j < y → sm f p ≤ sm f j) → (∀ j : Int, 0 ≤ j → j < k → nO j ≤ (y : Int) - p ∧ rl (nO j) (fO j) = yr n f p j.toNat) → y = ya n f p k.toNat → xx_go (xt_P z) (d + 4) 291 13 [some (.ref a), some (.int (iI ((p : Int)))), some (.int (iI m)), some (.ref t), some (.int (iI ((y : Int)))), some (.int (iI k))] [] hp (fun v h1 => KI c h1 s ∧ kx c hp0 s h1 s (1 + 2 * m) (2 * m + (bh n f (p : Int) - p - 1)) ∧ ∃ (t : Nat) (O : Int → Option Nat) (nO : Int → Int) (fO : Int → Int → Int), v = some (.ref t) ∧ OTH c h1 s u t m O nO fO ∧ ∀ j : Int, 0 ≤ j → j < m → nO j ≤ bh n f (p : Int) - p ∧ rl (nO j) (fO j) = yr n f p j.toNat) := by
  have n_ := TM_n hT0
  have hW := hT0.2.1
  have tr := tk_R (f (p : Int))
  have sp := hW.1 p hp1
  obtain ⟨b1, b2, b3, b4, b5⟩ := bp_W hW hp1
  intro x
  induction x with
  | zero =>
    intro k t y O nO fO hp hx k0 k1 hK hX hT ht h12 hO yn hy es hs hN ey
    refine go_a (pc' := 15) (ls' := [some (.ref a), some (.int (iI ((p : Int)))), some (.int (iI m)), some (.ref t), some (.int (iI ((y : Int)))), some (.int (iI k))]) (st' := [.int (iI k)]) rfl rfl ?_
    refine go_a (pc' := 16) (ls' := [some (.ref a), some (.int (iI ((p : Int)))), some (.int (iI m)), some (.ref t), some (.int (iI ((y : Int)))), some (.int (iI k))]) (st' := [.int (iI m), .int (iI k)]) rfl rfl ?_
    refine mi_ge (t := 43) rfl rfl (by omega) (by omega) (by omega) (by omega) (fun _ => ?_) (fun w => absurd (show k ≥ m by omega) w)
    have ek : k = m := by omega
    have u9 := bp_uq hW hp1 (e := y) hy (by omega) hs
    refine go_a (pc' := 44) (ls' := [some (.ref a), some (.int (iI ((p : Int)))), some (.int (iI m)), some (.ref t), some (.int (iI ((y : Int)))), some (.int (iI k))]) (st' := [.ref t]) rfl rfl ?_
    rw [ek] at hX hO hN
    exact go_r rfl rfl rfl rfl rfl rfl ⟨hK, kx_w hX (by omega) (by omega), t, O, nO, fO, rfl, OTK_OTH hO, fun j j0 j1 => ⟨by have := (hN j j0 j1).1; omega, (hN j j0 j1).2⟩⟩
  | succ x ih =>
    intro k t y O nO fO hp hx k0 k1 hK hX hT ht h12 hO yn hy es hs hN ey
    refine go_a (pc' := 15) (ls' := [some (.ref a), some (.int (iI ((p : Int)))), some (.int (iI m)), some (.ref t), some (.int (iI ((y : Int)))), some (.int (iI k))]) (st' := [.int (iI k)]) rfl rfl ?_
    refine go_a (pc' := 16) (ls' := [some (.ref a), some (.int (iI ((p : Int)))), some (.int (iI m)), some (.ref t), some (.int (iI ((y : Int)))), some (.int (iI k))]) (st' := [.int (iI m), .int (iI k)]) rfl rfl ?_
    refine mi_ge (t := 43) rfl rfl (by omega) (by omega) (by omega) (by omega) (fun w1 => ?_) (fun w1 => ?_)
    · have ek : k = m := by omega
      have u9 := bp_uq hW hp1 (e := y) hy (by omega) hs
      refine go_a (pc' := 44) (ls' := [some (.ref a), some (.int (iI ((p : Int)))), some (.int (iI m)), some (.ref t), some (.int (iI ((y : Int)))), some (.int (iI k))]) (st' := [.ref t]) rfl rfl ?_
      rw [ek] at hX hO hN
      exact go_r rfl rfl rfl rfl rfl rfl ⟨hK, kx_w hX (by omega) (by omega), t, O, nO, fO, rfl, OTK_OTH hO, fun j j0 j1 => ⟨by have := (hN j j0 j1).1; omega, (hN j j0 j1).2⟩⟩
    · have ly := WFT_lt hW (k := y) yn (by omega)
      obtain ⟨r1, r2, r3, r4, r5⟩ := bp_W hW ly
      obtain ⟨qa, La, Laa, Laq⟩ := TMq hT
      refine go_a (pc' := 20) (ls' := [some (.ref a), some (.int (iI ((p : Int)))), some (.int (iI m)), some (.ref t), some (.int (iI ((y : Int)))), some (.int (iI k))]) (st' := [.ref t]) rfl rfl ?_
      refine go_a (pc' := 22) (ls' := [some (.ref a), some (.int (iI ((p : Int)))), some (.int (iI m)), some (.ref t), some (.int (iI ((y : Int)))), some (.int (iI k))]) (st' := [.int (iI k), .ref t]) rfl rfl ?_
      refine go_a (pc' := 23) (ls' := [some (.ref a), some (.int (iI ((p : Int)))), some (.int (iI m)), some (.ref t), some (.int (iI ((y : Int)))), some (.int (iI k))]) (st' := [.ref a, .int (iI k), .ref t]) rfl rfl ?_
      refine go_a (pc' := 25) (ls' := [some (.ref a), some (.int (iI ((p : Int)))), some (.int (iI m)), some (.ref t), some (.int (iI ((y : Int)))), some (.int (iI k))]) (st' := [.int (iI ((y : Int))), .ref a, .int (iI k), .ref t]) rfl rfl ?_
      refine go_v (m := 274) (as := [.ref a, .int (iI ((y : Int)))]) (r := [.int (iI k), .ref t]) rfl rfl rfl La.1 rfl rfl (kb_part z d c a n u y f hp s hK hB hT (by omega) ly) (fun v h3 hq => ?_)
      obtain ⟨rfl, K1, X1, T1⟩ := hq
      show xx_go (xt_P z) (d + 4) 291 28 [some (.ref a), some (.int (iI ((p : Int)))), some (.int (iI m)), some (.ref t), some (.int (iI ((y : Int)))), some (.int (iI k))] [.ref hp.length, .int (iI k), .ref t] h3 _
      have O1 := OTK_kx hO X1
      have Tc := (TMp T1).1
      have hX1 := kx_tr hX X1
      obtain ⟨F2, O2⟩ := OTK_put O1 T1 hX.1
      refine mk_ast rfl O1.1 h12 Tc.1 rfl k0 (by have := O1.2.2.1; omega) (by have := O1.2.2.1; omega) ?_
      have K2 := KF1_KI K1 O1.2.1 h12 F2
      have X2 := KF1_kx hX1 ht F2
      have T2 := KF1_TMr O1.1 F2 (TM_kx hT X1)
      show xx_go (xt_P z) (d + 4) 291 29 [some (.ref a), some (.int (iI ((p : Int)))), some (.int (iI m)), some (.ref t), some (.int (iI ((y : Int)))), some (.int (iI k))] [] (h3.set t (.inl (.object "ClauseKernel$Term", xa_r m.toNat (so O k (some hp.length))))) _
      generalize h3.set t (.inl (.object "ClauseKernel$Term", xa_r m.toNat (so O k (some hp.length)))) = h4 at F2 O2 K2 X2 T2 ⊢
      obtain ⟨qa2, La2, -, -⟩ := TMq T2
      refine go_a (pc' := 30) (ls' := [some (.ref a), some (.int (iI ((p : Int)))), some (.int (iI m)), some (.ref t), some (.int (iI ((y : Int)))), some (.int (iI k))]) (st' := [.ref a]) rfl rfl ?_
      refine go_a (pc' := 32) (ls' := [some (.ref a), some (.int (iI ((p : Int)))), some (.int (iI m)), some (.ref t), some (.int (iI ((y : Int)))), some (.int (iI k))]) (st' := [.int (iI ((y : Int))), .ref a]) rfl rfl ?_
      refine go_v (m := 231) (as := [.ref a, .int (iI ((y : Int)))]) (r := []) rfl rfl rfl La2.1 rfl rfl (kg_behind z (d + 3) (y : Int) a qa2 n f h4 La2 (by omega) (by omega)) (fun v h5 hq => ?_)
      obtain ⟨rfl, e9⟩ := hq
      rw [e9, r1]
      clear e9 h5
      show xx_go (xt_P z) (d + 4) 291 35 [some (.ref a), some (.int (iI ((p : Int)))), some (.int (iI m)), some (.ref t), some (.int (iI ((y : Int)))), some (.int (iI k))] [.int (iI ((bp n f y : Int)))] h4 _
      refine go_a (pc' := 37) (ls' := [some (.ref a), some (.int (iI ((p : Int)))), some (.int (iI m)), some (.ref t), some (.int (iI ((bp n f y : Int)))), some (.int (iI k))]) (st' := []) rfl rfl ?_
      refine go_a (pc' := 40) (ls' := [some (.ref a), some (.int (iI ((p : Int)))), some (.int (iI m)), some (.ref t), some (.int (iI ((bp n f y : Int)))), some (.int (iI (k + 1)))]) (st' := []) rfl (by rw [← iI_add k 1]; rfl) ?_
      refine go_a (pc' := 13) (ls' := [some (.ref a), some (.int (iI ((p : Int)))), some (.int (iI m)), some (.ref t), some (.int (iI ((bp n f y : Int)))), some (.int (iI (k + 1)))]) (st' := []) rfl rfl ?_
      refine ih (k + 1) t (bp n f y) _ _ _ h4 (by omega) (by omega) (by omega) K2 (kx_w X2 (by omega) (by omega)) T2 ht h12 O2 r3 (by omega) (by omega) (fun j j0 j1 => ?_) (fun j j0 j1 => ?_) (by rw [show (k + 1).toNat = k.toNat + 1 by omega]; show bp n f y = bp n f (ya n f p k.toNat); rw [← ey])
      · by_cases cj : j < y
        · exact hs j j0 cj
        · have := r5 j (by omega) j1
          omega
      · by_cases cj : j = k
        · rw [cj, so_self, so_self]
          refine ⟨by omega, ?_⟩
          unfold yr
          rw [← ey, r1, rl_part (by omega) r3]
        · rw [so_ne cj, so_ne cj]
          have := hN j j0 (by omega)
          exact ⟨by omega, this.2⟩
theorem kp_termsOfCall (z : Value) (d c a : Nat) (n u m : Int) (f : Int → Int) (p : Nat) (hp : xx_H) (s : KS) (hK : KI c hp s) (hB : KB s) (hT : TM c hp s u a n f) (hp1 : (p : Int) < n) (hm : tk (f (p : Int)) = m) : xx_cl (xt_P z) (d + 5) 291 [.ref a, .int (iI (p : Int)), .int (iI m)] hp (fun v h1 => KI c h1 s ∧ kx c hp s h1 s (1 + 2 * m) (2 * m + (bh n f (p : Int) - p - 1)) ∧ ∃ (t : Nat) (O : Int → Option Nat) (nO : Int → Int) (fO : Int → Int → Int), v = some (.ref t) ∧ OTH c h1 s u t m O nO fO ∧ ∀ j : Int, 0 ≤ j → j < m → nO j ≤ bh n f (p : Int) - p ∧ rl (nO j) (fO j) = yr n f p j.toNat) := by
  have n_ := TM_n hT
  have tr := tk_R (f (p : Int))
  refine cl_go rfl ?_
  show xx_go (xt_P z) (d + 4) 291 0 [some (.ref a), some (.int (iI ((p : Int)))), some (.int (iI m)), none, none, none] [] hp _
  refine go_a (pc' := 1) (ls' := [some (.ref a), some (.int (iI ((p : Int)))), some (.int (iI m)), none, none, none]) (st' := [.int (iI m)]) rfl rfl ?_
  refine go_newr (m := m.toNat) rfl rfl (iI_nn (by omega) (by omega)) (iI_clamp (by omega) (by omega)) (by omega) ?_
  rw [rep_r]
  obtain ⟨K1, X1, O1⟩ := ki_arrT hK u m hp.length (fun _ => 0) (fun _ _ => 0) (by omega) (by omega)
  show xx_go (xt_P z) (d + 4) 291 4 [some (.ref a), some (.int (iI ((p : Int)))), some (.int (iI m)), none, none, none] [.ref hp.length] (hp ++ [.inl (.object "ClauseKernel$Term", xa_r m.toNat (fun _ => none))]) _
  refine go_a (pc' := 5) (ls' := [some (.ref a), some (.int (iI ((p : Int)))), some (.int (iI m)), some (.ref hp.length), none, none]) (st' := []) rfl rfl ?_
  refine go_a (pc' := 6) (ls' := [some (.ref a), some (.int (iI ((p : Int)))), some (.int (iI m)), some (.ref hp.length), none, none]) (st' := [.int (iI ((p : Int)))]) rfl rfl ?_
  refine go_a (pc' := 7) (ls' := [some (.ref a), some (.int (iI ((p : Int)))), some (.int (iI m)), some (.ref hp.length), none, none]) (st' := [.int (iI 1), .int (iI ((p : Int)))]) rfl rfl ?_
  refine mi_add rfl ?_
  refine go_a (pc' := 10) (ls' := [some (.ref a), some (.int (iI ((p : Int)))), some (.int (iI m)), some (.ref hp.length), some (.int (iI (((p : Int)) + 1))), none]) (st' := []) rfl rfl ?_
  refine go_a (pc' := 11) (ls' := [some (.ref a), some (.int (iI ((p : Int)))), some (.int (iI m)), some (.ref hp.length), some (.int (iI (((p : Int)) + 1))), none]) (st' := [.int (iI 0)]) rfl rfl ?_
  refine go_a (pc' := 13) (ls' := [some (.ref a), some (.int (iI ((p : Int)))), some (.int (iI m)), some (.ref hp.length), some (.int (iI (((p : Int)) + 1))), some (.int (iI 0))]) (st' := []) rfl rfl ?_
  rw [show (p : Int) + 1 = ((p + 1 : Nat) : Int) by omega]
  refine kp_toc_loop z d c a n u m f p hp s hB hT hp1 hm _ 0 hp.length (p + 1) _ _ _ _ (Nat.le_refl _) (by decide) (by omega) K1 (kx_w X1 (by omega) (by omega)) (TM_kx hT X1) (Nat.le_refl _) (ki_12 hK).2 O1 (by omega) (by omega) ?_ (fun j j0 j1 => ?_) (fun j j0 j1 => absurd j1 (by omega)) rfl
  · show sm f p + (tk (f (p : Int)) - 1) = _
    omega
  · rw [show j = p by omega]
    exact Int.le_refl _
def BRL (n : Int) (f g : Int → Int) : Prop := ∀ i : Int, 0 ≤ i → i < n → g i = f i ∨ (f i % 4 = 0 ∧ g i % 4 = 0)
def BDW (c : Nat) (hp : xx_H) (s : KS) (u n m : Int) (f gp gv : Int → Int) (v : Option Value) (h1 : xx_H) : Prop := ∃ (s1 : KS) (b : Nat) (g : Int → Int), v = some (.ref b) ∧ KI c h1 s1 ∧ KB s1 ∧ TF s s1 ∧ kx c hp s h1 s1 (3 + 2 * m) (3 * m + n + 1) ∧ TM c h1 s1 u b n g ∧ BRL n f g ∧ rl n g = insR (rl m gp) ((rl m gv).map (fun x => [x])) (rl n f)
theorem ol_1 {m : Int} {nO : Int → Int} {fO : Int → Int → Int} {g : Int → Int} (h : ∀ j : Int, 0 ≤ j → j < m → nO j = 1 ∧ fO j 0 = g j) : ol m nO fO = (rl m g).map (fun x => [x]) := by
  unfold ol rl
  rw [List.map_map]
  refine List.map_congr_left (fun i hi => ?_)
  have := List.mem_range.mp hi
  have q := h i (by omega) (by omega)
  show rl (nO (i : Int)) (fO (i : Int)) = [g (i : Int)]
  rw [q.1, ← q.2]
  rfl
theorem kp_bw_loop (z : Value) (d c q w t : Nat) (u : Int) (g : Int → Int) (k1 nm m : Int) (gp : Int → Int) (n : Int) (f : Int → Int) (cb : Int) (hp0 : xx_H) (s0 : KS) (hA0 : KAL hp0 q m g) (kq0 : kn c s0 q) (hg : ∀ i : Int, 0 ≤ i → i < m → TVx u (g i) ∧ g i % 4 = 0) (hF0 : FTH c hp0 s0 u w k1 nm m gp n f cb) (h0t : hp0.length ≤ t) (h12 : 12 ≤ t) : ∀ (x : Nat) (k : Int) (O : Int → Option Nat) (nO : Int → Int) (fO : Int → Int → Int) (hp : xx_H) (s : KS), (m - k).toNat ≤ x → 0 ≤ k → k ≤ m → KI c hp s → KB s → TF s0 s → kx c hp0 s0 hp s (1 + 2 * k) (m + 2 * k) → OTK c hp s u t m k hp0.length O nO fO → (∀ j : Int, 0 ≤ j → j < k → nO j = 1 ∧ fO j 0 = g j) → xx_go (xt_P z) (d + 4) 289 9 [some (.ref (c + 31)), some (.ref q), some (.ref w), some (.ref t), some (.int (iI k))] [] hp (fun v h1 => BDW c hp0 s0 u n m f gp g v h1) := by
  have mb := hA0.2.1
  intro x
  induction x with
  | zero =>
    intro k O nO fO hp s hx k0 k9 hK hB hF9 hX hO hN
    obtain ⟨hA, kq⟩ := KAL_kx hA0 kq0 hX
    refine go_a (pc' := 11) (ls' := [some (.ref (c + 31)), some (.ref q), some (.ref w), some (.ref t), some (.int (iI k))]) (st' := [.int (iI k)]) rfl rfl ?_
    refine go_a (pc' := 12) (ls' := [some (.ref (c + 31)), some (.ref q), some (.ref w), some (.ref t), some (.int (iI k))]) (st' := [.ref q, .int (iI k)]) rfl rfl ?_
    refine mk_len (n := m) rfl hA.1 (xa_f_len _ _) (by omega) (by omega) ?_
    refine mi_ge (t := 37) rfl rfl (by omega) (by omega) (by omega) (by omega) (fun _ => ?_) (fun w => absurd (show k ≥ m by omega) w)
    have ek : k = m := by omega
    rw [ek] at hX hO hN
    have hF := FTH_kx hF0 hX (Int.le_refl _)
    obtain ⟨pq, ta, a1, a2, a3, a4, a5, a6, a7, a8, a9, a10, a11⟩ := hF
    refine go_a (pc' := 38) (ls' := [some (.ref (c + 31)), some (.ref q), some (.ref w), some (.ref t), some (.int (iI k))]) (st' := [.ref (c + 31)]) rfl rfl ?_
    refine go_get (v := .ref (c + 25)) rfl (hK.1 20 (by decide)) rfl rfl ?_
    refine go_a (pc' := 42) (ls' := [some (.ref (c + 31)), some (.ref q), some (.ref w), some (.ref t), some (.int (iI k))]) (st' := [.ref w, .ref (c + 25)]) rfl rfl ?_
    refine go_get (v := .ref ta) rfl a1 rfl rfl ?_
    refine go_a (pc' := 46) (ls' := [some (.ref (c + 31)), some (.ref q), some (.ref w), some (.ref t), some (.int (iI k))]) (st' := [.ref w, .ref ta, .ref (c + 25)]) rfl rfl ?_
    refine go_get (v := .ref pq) rfl a1 rfl rfl ?_
    refine go_a (pc' := 50) (ls' := [some (.ref (c + 31)), some (.ref q), some (.ref w), some (.ref t), some (.int (iI k))]) (st' := [.ref t, .ref pq, .ref ta, .ref (c + 25)]) rfl rfl ?_
    refine go_v (m := 281) (as := [.ref (c + 25), .ref ta, .ref pq, .ref t]) (r := []) rfl rfl rfl (hK.1 16 (by decide)) rfl rfl (kg_instance z d c u 1 ta n f pq m gp t m O nO fO hp s hK hB (by decide) (fun j j0 j1 => by rw [(hN j j0 j1).1]; exact Int.le_refl _) a5 a3 a4 (OTK_OTH hO)) (fun v h9 hq => ?_)
    obtain ⟨s1, K1, B1, F1, hq⟩ := hq
    rcases hq with ⟨-, -, w9, -⟩ | ⟨b, N, gb, rfl, -, N1, l1, X1, T1, hM, hV9⟩
    · exact absurd rfl w9
    obtain ⟨eN, hR⟩ := hM rfl
    rw [eN] at X1 T1 N1 hV9
    rw [ol_1 hN] at hV9
    show xx_go (xt_P z) (d + 4) 289 53 [some (.ref (c + 31)), some (.ref q), some (.ref w), some (.ref t), some (.int (iI k))] [.ref b] h9 _
    exact go_r rfl rfl rfl rfl rfl rfl ⟨s1, b, gb, rfl, K1, B1, TF_tr hF9 F1, kx_w (kx_tr hX X1) (by omega) (by omega), T1, (fun i i0 i1 => (hR i i0 i1).imp id (fun q => ⟨q.1, by
      obtain ⟨-, j, j0, j1, e⟩ := q
      rw [e, (hN j j0 j1).2]
      exact (hg j j0 j1).2⟩)), hV9⟩
  | succ x ih =>
    intro k O nO fO hp s hx k0 k9 hK hB hF9 hX hO hN
    obtain ⟨hA, kq⟩ := KAL_kx hA0 kq0 hX
    refine go_a (pc' := 11) (ls' := [some (.ref (c + 31)), some (.ref q), some (.ref w), some (.ref t), some (.int (iI k))]) (st' := [.int (iI k)]) rfl rfl ?_
    refine go_a (pc' := 12) (ls' := [some (.ref (c + 31)), some (.ref q), some (.ref w), some (.ref t), some (.int (iI k))]) (st' := [.ref q, .int (iI k)]) rfl rfl ?_
    refine mk_len (n := m) rfl hA.1 (xa_f_len _ _) (by omega) (by omega) ?_
    refine mi_ge (t := 37) rfl rfl (by omega) (by omega) (by omega) (by omega) (fun w1 => ?_) (fun w1 => ?_)
    · have ek : k = m := by omega
      rw [ek] at hX hO hN
      have hF := FTH_kx hF0 hX (Int.le_refl _)
      obtain ⟨pq, ta, a1, a2, a3, a4, a5, a6, a7, a8, a9, a10, a11⟩ := hF
      refine go_a (pc' := 38) (ls' := [some (.ref (c + 31)), some (.ref q), some (.ref w), some (.ref t), some (.int (iI k))]) (st' := [.ref (c + 31)]) rfl rfl ?_
      refine go_get (v := .ref (c + 25)) rfl (hK.1 20 (by decide)) rfl rfl ?_
      refine go_a (pc' := 42) (ls' := [some (.ref (c + 31)), some (.ref q), some (.ref w), some (.ref t), some (.int (iI k))]) (st' := [.ref w, .ref (c + 25)]) rfl rfl ?_
      refine go_get (v := .ref ta) rfl a1 rfl rfl ?_
      refine go_a (pc' := 46) (ls' := [some (.ref (c + 31)), some (.ref q), some (.ref w), some (.ref t), some (.int (iI k))]) (st' := [.ref w, .ref ta, .ref (c + 25)]) rfl rfl ?_
      refine go_get (v := .ref pq) rfl a1 rfl rfl ?_
      refine go_a (pc' := 50) (ls' := [some (.ref (c + 31)), some (.ref q), some (.ref w), some (.ref t), some (.int (iI k))]) (st' := [.ref t, .ref pq, .ref ta, .ref (c + 25)]) rfl rfl ?_
      refine go_v (m := 281) (as := [.ref (c + 25), .ref ta, .ref pq, .ref t]) (r := []) rfl rfl rfl (hK.1 16 (by decide)) rfl rfl (kg_instance z d c u 1 ta n f pq m gp t m O nO fO hp s hK hB (by decide) (fun j j0 j1 => by rw [(hN j j0 j1).1]; exact Int.le_refl _) a5 a3 a4 (OTK_OTH hO)) (fun v h9 hq => ?_)
      obtain ⟨s1, K1, B1, F1, hq⟩ := hq
      rcases hq with ⟨-, -, w9, -⟩ | ⟨b, N, gb, rfl, -, N1, l1, X1, T1, hM, hV9⟩
      · exact absurd rfl w9
      obtain ⟨eN, hR⟩ := hM rfl
      rw [eN] at X1 T1 N1 hV9
      rw [ol_1 hN] at hV9
      show xx_go (xt_P z) (d + 4) 289 53 [some (.ref (c + 31)), some (.ref q), some (.ref w), some (.ref t), some (.int (iI k))] [.ref b] h9 _
      exact go_r rfl rfl rfl rfl rfl rfl ⟨s1, b, gb, rfl, K1, B1, TF_tr hF9 F1, kx_w (kx_tr hX X1) (by omega) (by omega), T1, (fun i i0 i1 => (hR i i0 i1).imp id (fun q => ⟨q.1, by
        obtain ⟨-, j, j0, j1, e⟩ := q
        rw [e, (hN j j0 j1).2]
        exact (hg j j0 j1).2⟩)), hV9⟩
    · have V := hg k k0 (by omega)
      have tz : tk (g k) = 0 := by
        rcases V.1.2.2.1 with q | q
        · exact absurd q.1 (by omega)
        · exact q.2
      refine go_a (pc' := 17) (ls' := [some (.ref (c + 31)), some (.ref q), some (.ref w), some (.ref t), some (.int (iI k))]) (st' := [.ref t]) rfl rfl ?_
      refine go_a (pc' := 19) (ls' := [some (.ref (c + 31)), some (.ref q), some (.ref w), some (.ref t), some (.int (iI k))]) (st' := [.int (iI k), .ref t]) rfl rfl ?_
      refine go_a (pc' := 20) (ls' := [some (.ref (c + 31)), some (.ref q), some (.ref w), some (.ref t), some (.int (iI k))]) (st' := [.ref (c + 31), .int (iI k), .ref t]) rfl rfl ?_
      refine go_get (v := .ref (c + 25)) rfl (hK.1 20 (by decide)) rfl rfl ?_
      refine go_a (pc' := 24) (ls' := [some (.ref (c + 31)), some (.ref q), some (.ref w), some (.ref t), some (.int (iI k))]) (st' := [.ref q, .ref (c + 25), .int (iI k), .ref t]) rfl rfl ?_
      refine go_a (pc' := 26) (ls' := [some (.ref (c + 31)), some (.ref q), some (.ref w), some (.ref t), some (.int (iI k))]) (st' := [.int (iI k), .ref q, .ref (c + 25), .int (iI k), .ref t]) rfl rfl ?_
      refine mi_ild (n := (m).toNat) (f := g) rfl hA.1 (by omega) (by omega) (by omega) ?_
      refine go_v (m := 258) (as := [.ref (c + 25), .int (iI (g k))]) (r := [.int (iI k), .ref t]) rfl rfl rfl (hK.1 16 (by decide)) rfl rfl (kg_leafx z d c u (g k) hp s hK hB V.1 tz) (fun v h3 hq => ?_)
      obtain ⟨b, s1, fb, rfl, K1, B1, F1, l1, X1, T1, e1⟩ := hq
      show xx_go (xt_P z) (d + 4) 289 30 [some (.ref (c + 31)), some (.ref q), some (.ref w), some (.ref t), some (.int (iI k))] [.ref b, .int (iI k), .ref t] h3 _
      have O1 := OTK_kx hO X1
      have Tc := (TMp T1).1
      have hX1 := kx_tr hX X1
      obtain ⟨F2, O2⟩ := OTK_put O1 T1 (Nat.le_trans hX.1 l1)
      refine mk_ast rfl O1.1 h12 Tc.1 rfl k0 (by have := O1.2.2.1; omega) (by have := O1.2.2.1; omega) ?_
      have K2 := KF1_KI K1 O1.2.1 h12 F2
      have X2 := KF1_kx hX1 h0t F2
      show xx_go (xt_P z) (d + 4) 289 31 [some (.ref (c + 31)), some (.ref q), some (.ref w), some (.ref t), some (.int (iI k))] [] (h3.set t (.inl (.object "ClauseKernel$Term", xa_r m.toNat (so O k (some b))))) _
      generalize h3.set t (.inl (.object "ClauseKernel$Term", xa_r m.toNat (so O k (some b)))) = h4 at F2 O2 K2 X2 ⊢
      refine go_a (pc' := 34) (ls' := [some (.ref (c + 31)), some (.ref q), some (.ref w), some (.ref t), some (.int (iI (k + 1)))]) (st' := []) rfl (by rw [← iI_add k 1]; rfl) ?_
      refine go_a (pc' := 9) (ls' := [some (.ref (c + 31)), some (.ref q), some (.ref w), some (.ref t), some (.int (iI (k + 1)))]) (st' := []) rfl rfl ?_
      refine ih (k + 1) _ _ _ h4 s1 (by omega) (by omega) (by omega) K2 B1 (TF_tr hF9 F1) (kx_w X2 (by omega) (by omega)) O2 (fun j j0 j1 => ?_)
      by_cases cj : j = k
      · rw [cj, so_self, so_self]
        exact ⟨rfl, e1⟩
      · rw [so_ne cj, so_ne cj]
        exact hN j j0 (by omega)
theorem kp_bodyWith (z : Value) (d c q w : Nat) (u : Int) (g : Int → Int) (k1 nm m : Int) (gp : Int → Int) (n : Int) (f : Int → Int) (cb : Int) (hp : xx_H) (s : KS) (hK : KI c hp s) (hB : KB s) (hA : KAL hp q m g) (kq : kn c s q) (hg : ∀ i : Int, 0 ≤ i → i < m → TVx u (g i) ∧ g i % 4 = 0) (hF : FTH c hp s u w k1 nm m gp n f cb) : xx_cl (xt_P z) (d + 5) 289 [.ref (c + 31), .ref q, .ref w] hp (fun v h1 => BDW c hp s u n m f gp g v h1) := by
  have mb := hA.2.1
  refine cl_go rfl ?_
  show xx_go (xt_P z) (d + 4) 289 0 [some (.ref (c + 31)), some (.ref q), some (.ref w), none, none] [] hp _
  refine go_a (pc' := 1) (ls' := [some (.ref (c + 31)), some (.ref q), some (.ref w), none, none]) (st' := [.ref q]) rfl rfl ?_
  refine mk_len (n := m) rfl hA.1 (xa_f_len _ _) (by omega) (by omega) ?_
  refine go_newr (m := m.toNat) rfl rfl (iI_nn (by omega) (by omega)) (iI_clamp (by omega) (by omega)) (by omega) ?_
  rw [rep_r]
  obtain ⟨K1, X1, O1⟩ := ki_arrT hK u m hp.length (fun _ => 0) (fun _ _ => 0) (by omega) (by omega)
  show xx_go (xt_P z) (d + 4) 289 5 [some (.ref (c + 31)), some (.ref q), some (.ref w), none, none] [.ref hp.length] (hp ++ [.inl (.object "ClauseKernel$Term", xa_r m.toNat (fun _ => none))]) _
  refine go_a (pc' := 6) (ls' := [some (.ref (c + 31)), some (.ref q), some (.ref w), some (.ref hp.length), none]) (st' := []) rfl rfl ?_
  refine go_a (pc' := 7) (ls' := [some (.ref (c + 31)), some (.ref q), some (.ref w), some (.ref hp.length), none]) (st' := [.int (iI 0)]) rfl rfl ?_
  refine go_a (pc' := 9) (ls' := [some (.ref (c + 31)), some (.ref q), some (.ref w), some (.ref hp.length), some (.int (iI 0))]) (st' := []) rfl rfl ?_
  exact kp_bw_loop z d c q w hp.length u g k1 nm m gp n f cb hp s hA kq hg hF (Nat.le_refl _) (ki_12 hK).2 _ 0 _ _ _ _ s (Nat.le_refl _) (by decide) (by omega) K1 hB TF_rf (kx_w X1 (by omega) (by omega)) O1 (fun j j0 j1 => absurd j1 (by omega))
