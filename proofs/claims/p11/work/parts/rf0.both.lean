theorem VS0 {A : Nat → Int → Int} (h : ∀ k : Int, 0 ≤ k → k < 44 → A 1 k = -2) : OLD A 44 0 0 := by
  refine ⟨fun f => if f = 3 then 3 else if 4 ≤ f ∧ f ≤ 9 then 2 else if 10 ≤ f ∧ f ≤ 16 then 1 else -1, ⟨⟨rfl, fun f f0 f1 => ?_, fun f f0 f1 => ?_⟩, ⟨Or.inl rfl, by decide, by decide, by decide, fun q => absurd q (by decide)⟩, by decide, fun e e0 e1 => absurd e1 (by show ¬ e < 0; omega)⟩, fun f f0 f1 => ?_, ⟨by decide, fun e e0 e1 => absurd e1 (by show ¬ e < 0; omega), fun e e0 e1 => absurd e1 (by show ¬ e < 0; omega)⟩, fun e e0 e1 => absurd e1 (by omega)⟩
  · show (if f = 3 then 3 else if 4 ≤ f ∧ f ≤ 9 then 2 else if 10 ≤ f ∧ f ≤ 16 then 1 else -1) = (2 : Int)
    rw [if_neg (by omega), if_pos ⟨f0, f1⟩]
  · show (if f = 3 then 3 else if 4 ≤ f ∧ f ≤ 9 then 2 else if 10 ≤ f ∧ f ≤ 16 then 1 else -1) = (1 : Int)
    rw [if_neg (by omega), if_neg (by omega), if_pos ⟨f0, f1⟩]
  · have f1 : (if f = 3 then 3 else if 4 ≤ f ∧ f ≤ 9 then 2 else if 10 ≤ f ∧ f ≤ 16 then 1 else -1) ≠ (-1 : Int) := f1
    have fr : 3 ≤ f ∧ f ≤ 16 := by
      by_cases c : 3 ≤ f ∧ f ≤ 16
      · exact c
      · exact absurd (by rw [if_neg (by omega), if_neg (by omega), if_neg (by omega)]) f1
    exact ⟨by show f < 44; omega, h f f0 (by omega), f, Or.inl ⟨fr.1, fr.2, rfl⟩⟩
theorem MIC0 {I : Nat → Int} {A : Nat → Int → Int} (h : MDL 44 I A) : MIC 0 I A (fun _ => 0) ∧ I 13 = 0 ∧ I 47 = 1000 := by
  obtain ⟨S, ⟨i7, i10⟩, D, r13, hI, hA⟩ := h
  have i7 : I 7 = 44 := i7
  have i10 : I 10 = 44 := i10
  have sy : ∀ k : Int, 0 ≤ k → k < 44 → A 1 k = -2 := by
    intro k k0 k1
    obtain ⟨n, rfl⟩ : ∃ n : Nat, k = (n : Int) := ⟨k.toNat, by omega⟩
    exact (D n (by omega)).1.1
  have i13 : I 13 = 0 := hI 13 (by decide) (by decide) (by decide)
  have i47 : I 47 = 1000 := hI 47 (by decide) (by decide) (by decide)
  have i41 : I 41 = 0 := hI 41 (by decide) (by decide) (by decide)
  have i32 : I 32 = 0 := hI 32 (by decide) (by decide) (by decide)
  have i38 : I 38 = 0 := hI 38 (by decide) (by decide) (by decide)
  have i44 : I 44 = -1 := hI 44 (by decide) (by decide) (by decide)
  have i45 : I 45 = 0 := hI 45 (by decide) (by decide) (by decide)
  have i54 : I 54 = 0 := hI 54 (by decide) (by decide) (by decide)
  have i56 : I 56 = 0 := hI 56 (by decide) (by decide) (by decide)
  have i15 : I 15 = 0 := hI 15 (by decide) (by decide) (by decide)
  have i50 : I 50 = 0 := hI 50 (by decide) (by decide) (by decide)
  have i49 : I 49 = 0 := hI 49 (by decide) (by decide) (by decide)
  have a10 : A 10 = fun _ => 0 := hA 10 (by decide) (by decide)
  have a11 : A 11 = fun _ => 0 := hA 11 (by decide) (by decide)
  have a27 : A 27 = fun _ => 0 := hA 27 (by decide) (by decide)
  have z8 : ∀ e : Int, (0 : Int) ≤ (fun _ : Int => (0 : Int)) e ∧ (fun _ : Int => (0 : Int)) e ≤ 255 := fun _ => ⟨Int.le_refl _, by show (0 : Int) ≤ 255; decide⟩
  have L0 : ∀ t : Int, 0 ≤ t → t ≤ I 41 → LIM I A t = 44 := by
    intro t t0 t1
    rw [show t = I 41 by omega, LIM_T, i7]
  refine ⟨⟨⟨⟨S, ⟨by omega, sy⟩, fun k k0 k1 q => absurd q (by rw [sy k k0 (by omega)]; decide)⟩, ⟨by omega, ?_, ?_, ?_, ?_⟩, ⟨⟨i44, by omega, by omega⟩, ⟨i54, i56⟩, by omega, by omega, by omega, by omega, by omega⟩, by rw [a10]; exact z8, by rw [a11]; exact z8, r13⟩, 0, Or.inl ⟨rfl, ?_⟩, ?_, ?_⟩, i13, i47⟩
  · rw [a27]
    exact fun _ => ⟨Int.le_refl _, by show (0 : Int) ≤ 1; decide⟩
  · rw [i41, i32, i38]
    exact ⟨rfl, rfl⟩
  · intro s t s0 st t1
    rw [L0 s s0 (by omega), L0 t (by omega) t1]
    exact Int.le_refl _
  · intro t t0 t1
    rw [L0 t t0 t1, show t.toNat = 0 by omega]
    exact ⟨by decide, VS0 sy⟩
  · unfold WZ
    rw [a10]
    exact fun _ _ _ => rfl
  · rw [i7, i13]
    show 2 * 44 + 5 * (0 : Int) + 50 * 0 ≤ 88 + 50 * 0
    decide
  · rw [i10, i13]
    show 2 * 44 + (0 : Int) + 10 * 0 ≤ 88 + 10 * 0
    decide
def wlc (l : List Int) : Int := wcf (fun e => l.getD e.toNat 0) l.length 0 0
theorem wl_m : ∀ x : Nat, x < 44 → wlc (WL.getD x []) = ((mNm.getD x 0 : Nat) : Int) := by decide +kernel
theorem wl_d : ∀ x : Nat, x < 44 → ∀ y : Nat, y < x → mNm.getD y 0 ≠ mNm.getD x 0 := by decide +kernel
theorem wl_c : ∀ x : Nat, x < 44 → ∀ q : Nat, q < (WL.getD x []).length → atc ((WL.getD x []).getD q 0) := by
  unfold atc
  decide +kernel
theorem TBK0 {I : Nat → Int} {A : Nat → Int → Int} (h : MDL 44 I A) : TBK [] I A (fun _ => 0) ∧ I 48 = 0 ∧ I 50 = 0 ∧ A 10 = fun _ => 0 := by
  obtain ⟨S, ⟨i7, i10⟩, D, r13, hI, hA⟩ := h
  have i7 : I 7 = 44 := i7
  have row : ∀ x : Nat, x < 44 → mka A (fun _ => 0) (x : Int) = ((mNm.getD x 0 : Nat) : Int) := fun x hx => by
    have d := D x hx
    rw [(mk_s (N := fun _ => 0) d.1.1).2.1, d.1.2, d.2.1, Int.toNat_natCast, wcf_congr (g := fun e => (WL.getD x []).getD e.toNat 0) _ _ 0 0 (fun q hq => ?_)]
    · exact wl_m x hx
    · rw [d.2.2 q hq]
      show _ = (WL.getD x []).getD ((0 : Int) + (q : Int)).toNat 0
      rw [show ((0 : Int) + (q : Int)).toNat = q by omega]
  have dm : ∀ x : Nat, x < 44 → DM A (fun _ => 0) (x : Int) = .var (mNm.getD x 0) := fun x hx => by
    have d := D x hx
    have r := row x hx
    rw [(mk_s (N := fun _ => 0) d.1.1).2.1] at r
    rw [DM_s d.1.1, r, Int.toNat_natCast]
  have i48 : I 48 = 0 := hI 48 (by decide) (by decide) (by decide)
  have i50 : I 50 = 0 := hI 50 (by decide) (by decide) (by decide)
  have i41 : I 41 = 0 := hI 41 (by decide) (by decide) (by decide)
  have nat : ∀ k : Int, 0 ≤ k → k < I 7 → ∃ n : Nat, k = (n : Int) ∧ n < 44 := fun k k0 k1 => ⟨k.toNat, by omega, by omega⟩
  refine ⟨⟨⟨⟨fun j k j0 jk k1 q => ?_, fun j k j0 jk k1 q => ?_, fun k k0 k1 e q hq => ?_⟩, dm⟩, i41.symm, trivial, trivial, fun e he => absurd (show e < 0 from he) (by omega), fun e he => absurd (show e < 0 from he) (by omega)⟩, i48, i50, hA 10 (by decide) (by decide)⟩
  · obtain ⟨n, rfl, hn⟩ := nat k (by omega) k1
    have := (D n hn).1.1
    omega
  · obtain ⟨n, rfl, hn⟩ := nat k (by omega) k1
    obtain ⟨m, rfl, hm⟩ := nat j j0 (by omega)
    have q := q.2.2
    rw [row n hn, row m hm] at q
    exact wl_d n hn m (by omega) (by omega)
  · obtain ⟨n, rfl, hn⟩ := nat k k0 k1
    have d := D n hn
    rw [d.1.2] at hq ⊢
    rw [d.2.1] at hq
    rw [d.2.2 q (by omega)]
    exact wl_c n hn q (by omega)
theorem mb_len {c : Nat} {I : Nat → Int} {A : Nat → Int → Int} {N : Int → Int} : (mb c I A N).length = 52 := rfl
theorem mb_inl {c : Nat} {I : Nat → Int} {A : Nat → Int → Int} {N : Int → Int} : ∀ j : Nat, 1 ≤ j → j < 52 → ∃ (ty : FieldType) (vs : List Value), (mb c I A N)[j]? = some (.inl (ty, vs))
  | 0, h, _ => absurd h (by decide)
  | 1, _, _ => ⟨_, _, rfl⟩
  | 2, _, _ => ⟨_, _, rfl⟩
  | 3, _, _ => ⟨_, _, rfl⟩
  | 4, _, _ => ⟨_, _, rfl⟩
  | 5, _, _ => ⟨_, _, rfl⟩
  | 6, _, _ => ⟨_, _, rfl⟩
  | 7, _, _ => ⟨_, _, rfl⟩
  | 8, _, _ => ⟨_, _, rfl⟩
  | 9, _, _ => ⟨_, _, rfl⟩
  | 10, _, _ => ⟨_, _, rfl⟩
  | 11, _, _ => ⟨_, _, rfl⟩
  | 12, _, _ => ⟨_, _, rfl⟩
  | 13, _, _ => ⟨_, _, rfl⟩
  | 14, _, _ => ⟨_, _, rfl⟩
  | 15, _, _ => ⟨_, _, rfl⟩
  | 16, _, _ => ⟨_, _, rfl⟩
  | 17, _, _ => ⟨_, _, rfl⟩
  | 18, _, _ => ⟨_, _, rfl⟩
  | 19, _, _ => ⟨_, _, rfl⟩
  | 20, _, _ => ⟨_, _, rfl⟩
  | 21, _, _ => ⟨_, _, rfl⟩
  | 22, _, _ => ⟨_, _, rfl⟩
  | 23, _, _ => ⟨_, _, rfl⟩
  | 24, _, _ => ⟨_, _, rfl⟩
  | 25, _, _ => ⟨_, _, rfl⟩
  | 26, _, _ => ⟨_, _, rfl⟩
  | 27, _, _ => ⟨_, _, rfl⟩
  | 28, _, _ => ⟨_, _, rfl⟩
  | 29, _, _ => ⟨_, _, rfl⟩
  | 30, _, _ => ⟨_, _, rfl⟩
  | 31, _, _ => ⟨_, _, rfl⟩
  | 32, _, _ => ⟨_, _, rfl⟩
  | 33, _, _ => ⟨_, _, rfl⟩
  | 34, _, _ => ⟨_, _, rfl⟩
  | 35, _, _ => ⟨_, _, rfl⟩
  | 36, _, _ => ⟨_, _, rfl⟩
  | 37, _, _ => ⟨_, _, rfl⟩
  | 38, _, _ => ⟨_, _, rfl⟩
  | 39, _, _ => ⟨_, _, rfl⟩
  | 40, _, _ => ⟨_, _, rfl⟩
  | 41, _, _ => ⟨_, _, rfl⟩
  | 42, _, _ => ⟨_, _, rfl⟩
  | 43, _, _ => ⟨_, _, rfl⟩
  | 44, _, _ => ⟨_, _, rfl⟩
  | 45, _, _ => ⟨_, _, rfl⟩
  | 46, _, _ => ⟨_, _, rfl⟩
  | 47, _, _ => ⟨_, _, rfl⟩
  | 48, _, _ => ⟨_, _, rfl⟩
  | 49, _, _ => ⟨_, _, rfl⟩
  | 50, _, _ => ⟨_, _, rfl⟩
  | 51, _, _ => ⟨_, _, rfl⟩
  | j + 52, _, h => absurd h (by omega)
theorem mb_sz {c : Nat} {I I1 : Nat → Int} {A A1 : Nat → Int → Int} {N N1 : Int → Int} : xx_sz (mb c I A N) = xx_sz (mb c I1 A1 N1) := by
  unfold mb
  simp only [xx_sz, List.map_cons, List.map_nil, xx_sz1, xa_f_len, xa_l_len]
  rfl
def AGR (c : Nat) (H H1 : xx_H) : Prop := H1.length = H.length ∧ xx_sz H1 = xx_sz H ∧ ∀ p : Nat, ¬ (c + 32 ≤ p ∧ p < c + 84) → H1[p]? = H[p]?
def BLK (c : Nat) (H : xx_H) : Prop := (∃ fs : List Value, H[c + 32]? = some (.inr (13, fs))) ∧ ∀ p : Nat, c + 33 ≤ p → p < c + 84 → ∃ (ty : FieldType) (vs : List Value), H[p]? = some (.inl (ty, vs))
section F0S
variable {c : Nat} {h R H H1 : xx_H} {I I1 : Nat → Int} {A A1 : Nat → Int → Int} {N N1 : Int → Int} {s : KS} {u : Int}
theorem mh_AGR (hl : h.length = c + 32) : AGR c (mh h R I A N) (mh h R I1 A1 N1) := by
  refine ⟨?_, ?_, fun p hp => ?_⟩
  · unfold mh
    rw [List.length_append, List.length_append, List.length_append, List.length_append, mb_len, mb_len]
  · unfold mh
    rw [xq_sz, xq_sz, xq_sz, xq_sz, mb_sz (I := I1) (A := A1) (N := N1) (I1 := I) (A1 := A) (N1 := N)]
  · unfold mh
    by_cases c1 : p < h.length
    · rw [List.getElem?_append_left c1, List.getElem?_append_left c1]
    · have e : ∀ (I2 : Nat → Int) (A2 : Nat → Int → Int) (N2 : Int → Int), (h ++ (mb h.length I2 A2 N2 ++ R))[p]? = R[p - h.length - 52]? := fun I2 A2 N2 => by rw [List.getElem?_append_right (by omega), List.getElem?_append_right (by rw [mb_len]; omega), mb_len]
      rw [e, e]
theorem mh_BLK (hl : h.length = c + 32) : BLK c (mh h R I A N) := by
  refine ⟨⟨_, by rw [← hl]; exact mh_o⟩, fun p p0 p1 => ?_⟩
  obtain ⟨ty, vs, e⟩ := mb_inl (c := h.length) (I := I) (A := A) (N := N) (p - h.length) (by omega) (by omega)
  refine ⟨ty, vs, ?_⟩
  unfold mh
  rw [List.getElem?_append_right (by omega), List.getElem?_append_left (by rw [mb_len]; omega)]
  exact e
theorem mh_split (e : H = mh h R I A N) (hl : h.length = c + 32) (l : c + 84 ≤ H1.length) (b : ∀ p : Nat, c + 32 ≤ p → p < c + 84 → H1[p]? = H[p]?) : ∃ h1 R1 : xx_H, H1 = mh h1 R1 I A N ∧ h1.length = c + 32 := by
  have l1 : (H1.take (c + 32)).length = c + 32 := by rw [List.length_take]; omega
  refine ⟨H1.take (c + 32), H1.drop (c + 84), ?_, l1⟩
  apply List.ext_getElem?
  intro i
  unfold mh
  by_cases c1 : i < c + 32
  · rw [List.getElem?_append_left (by omega), List.getElem?_take, if_pos c1]
  · rw [List.getElem?_append_right (by omega), l1]
    by_cases c2 : i < c + 84
    · rw [List.getElem?_append_left (by rw [mb_len]; omega), b i (by omega) c2, e]
      unfold mh
      rw [List.getElem?_append_right (by omega), List.getElem?_append_left (by rw [mb_len]; omega), hl]
    · rw [List.getElem?_append_right (by rw [mb_len]; omega), mb_len, List.getElem?_drop]
      congr 1
      omega
theorem BLK_inr (B : BLK c H) {a ci : Nat} {fs : List Value} (h : H[a]? = some (.inr (ci, fs))) (n : ci ≠ 13) : ¬ (c + 32 ≤ a ∧ a < c + 84) := by
  intro q
  by_cases e : a = c + 32
  · obtain ⟨f2, e2⟩ := B.1
    rw [e, e2] at h
    cases h
    exact n rfl
  · obtain ⟨ty, vs, e2⟩ := B.2 a (by omega) q.2
    rw [e2] at h
    cases h
theorem TM_agr {a : Nat} {n : Int} {f : Int → Int} (B : BLK c H) (G : AGR c H H1) (T : TM c H s u a n f) : TM c H1 s u a n f := by
  obtain ⟨⟨q, K, k1, k2, rfl⟩, T2⟩ := T
  have na := BLK_inr B K.1 (by decide)
  have nq : ¬ (c + 32 ≤ a + 1 ∧ a + 1 < c + 84) := by
    intro q
    by_cases e : a + 1 = c + 32
    · obtain ⟨f2, e2⟩ := B.1
      have k := K.2.1
      rw [e, e2] at k
      cases k
    · omega
  exact ⟨⟨a + 1, ⟨(G.2.2 a na).trans K.1, (G.2.2 _ nq).trans K.2.1, K.2.2⟩, k1, k2, rfl⟩, T2⟩
theorem FTH_agr {a : Nat} {k nm m : Int} {g : Int → Int} {n : Int} {f : Int → Int} {cb : Int} (B : BLK c H) (G : AGR c H H1) (F : FTH c H s u a k nm m g n f cb) : FTH c H1 s u a k nm m g n f cb := by
  obtain ⟨pq, ta, F1, F2, F3, F4, F5, F6, F7, F8, F9, F10, F11⟩ := F
  exact ⟨pq, ta, (G.2.2 a (BLK_inr B F1 (by decide))).trans F1, F2, ⟨(G.2.2 pq (by omega)).trans F3.1, F3.2⟩, F4, TM_agr B G F5, F6, F7, F8, F9, F10, F11⟩
theorem TTH_agr {a : Nat} {nm n : Int} {f : Int → Int} {cb : Int} (B : BLK c H) (G : AGR c H H1) (F : TTH c H s u a nm n f cb) : TTH c H1 s u a nm n f cb := by
  obtain ⟨pq, ta, g, F1, F2, F3, F4, F5, F6, F7⟩ := F
  exact ⟨pq, ta, g, (G.2.2 a (BLK_inr B F1 (by decide))).trans F1, F2, ⟨(G.2.2 pq (by omega)).trans F3.1, F3.2⟩, F4, TM_agr B G F5, F6, F7⟩
theorem BKS_agr {NM : BKM} (B : BLK c H) (G : AGR c H H1) : ∀ {t : List sp_Th} {u nf nt : Int}, BKS c H s NM t u nf nt → BKS c H1 s NM t u nf nt
  | [], _, _, _, h => h
  | th :: t, u, nf, nt, h => by
    obtain ⟨a, cb, T, hc, ⟨m, g, n, f, F, T4, n1, nn, BT, S⟩ | ⟨n, f, F, T5, n1, nn, BT, S⟩⟩ := h
    · exact ⟨a, cb, T, hc, Or.inl ⟨m, g, n, f, FTH_agr B G F, T4, n1, nn, BT, BKS_agr B G S⟩⟩
    · exact ⟨a, cb, T, hc, Or.inr ⟨n, f, TTH_agr B G F, T5, n1, nn, BT, BKS_agr B G S⟩⟩
theorem KIC_agr {H0 : xx_H} {s0 : Int × Int} {cc : Int} {t : List sp_Th} (hc : 12 ≤ c) (B : BLK c H) (G : AGR c H H1) (h : KIC c H0 s0 cc H s t) : KIC c H1 s0 cc H1 s t := by
  obtain ⟨⟨NM, K, r1, r2, O, S, r3⟩, q1, q2, q3, w, α, β, hw, X, p1, p2, p3⟩ := h
  have nk : ∀ i : Nat, i < 35 → ¬ (c + 32 ≤ kp c s.P i ∧ kp c s.P i < c + 84) := by
    intro i hi q
    rcases (X.2.2.2 (kp c s.P i) (Or.inr q)).1 with k | k
    · omega
    · exact k i hi rfl
  refine ⟨⟨NM, ⟨fun i hi => (G.2.2 _ (nk i hi)).trans (K.1 i hi), K.2⟩, r1, r2, ⟨(G.2.2 7 (by omega)).trans O.1, (G.2.2 8 (by omega)).trans O.2.1, (G.2.2 11 (by omega)).trans O.2.2.1, (G.2.2 10 (by omega)).trans O.2.2.2⟩, BKS_agr B G S, r3⟩, q1, q2, q3, w, α, β, hw, ⟨by rw [G.1]; exact X.1, by rw [G.1]; exact X.2.1, by rw [G.2.1]; exact X.2.2.1, fun p hp => ⟨(X.2.2.2 p hp).1, rfl⟩⟩, p1, p2, p3⟩
end F0S
def REL (s : KS) (I : Nat → Int) (A : Nat → Int → Int) : Prop := (∀ e : Int, 0 ≤ e → e < I 13 → s.A 0 e = A 11 e) ∧ (∀ e : Int, 0 ≤ e → e < 20 → A 10 e = sp_by (s.A 12 (e / 4)) e) ∧ s.I 22 = I 48 ∧ s.I 23 = I 50
section RELS
variable {s s1 : KS} {I I2 : Nat → Int} {A A2 : Nat → Int → Int} {n : Int}
theorem REL_k (r : REL s I A) (e13 : s.I 0 = I 13) (k : KSM s s1) (a12 : s1.A 12 = s.A 12) (i13 : I2 13 = I 13) (m48 : I2 48 = I 48) (m50 : I2 50 = I 50) (a10 : A2 10 = A 10) (a11 : A2 11 = A 11) : REL s1 I2 A2 := by
  obtain ⟨r1, r2, r3, r4⟩ := r
  obtain ⟨k1, k2, k3, k4⟩ := k
  refine ⟨fun e e0 e1 => ?_, fun e e0 e1 => ?_, by omega, by omega⟩
  · rw [k2 e (by omega), a11]
    exact r1 e e0 (by omega)
  · rw [a12, a10]
    exact r2 e e0 e1
theorem REL_feed {x1 x2 x3 x4 x5 : Int} (r : REL s I A) (e13 : s.I 0 = I 13) (k : KSM s s1) (w : s1.A 12 0 = x1 ∧ s1.A 12 1 = x2 ∧ s1.A 12 2 = x3 ∧ s1.A 12 3 = x4 ∧ s1.A 12 4 = x5) (a11 : A2 11 = A 11) (fv : FIV x1 x2 x3 x4 x5 (A2 10) 4) : REL s1 I A2 := by
  obtain ⟨r1, r2, r3, r4⟩ := r
  obtain ⟨k1, k2, k3, k4⟩ := k
  obtain ⟨rfl, rfl, rfl, rfl, rfl⟩ := w
  refine ⟨fun e e0 e1 => ?_, fun e e0 e1 => FIV_e fv e0 e1, by omega, by omega⟩
  rw [k2 e (by omega), a11]
  exact r1 e e0 e1
theorem REL_end (r : REL s I A) (e13 : s.I 0 = I 13) (k : s1.I 22 = s.I 22 ∧ s1.I 23 = s.I 23 ∧ ∀ e : Int, e < s.I 0 → s1.A 0 e = s.A 0 e) (hv : (s1.I 0 = s.I 0 ∧ ¬ (0 ≤ n ∧ n ≤ 20 ∧ s.I 0 + n ≤ 3000) ∧ s1.A 12 = s.A 12) ∨ (s1.I 0 = s.I 0 + n ∧ (0 ≤ n ∧ n ≤ 20 ∧ s.I 0 + n ≤ 3000) ∧ W5 s1 ∧ ∀ e : Int, 0 ≤ e → e < n → s1.A 0 (s.I 0 + e) = sp_by (s.A 12 (e / 4)) e)) (m48 : I2 48 = I 48) (m50 : I2 50 = I 50) (hm : (I2 13 = I 13 ∧ ¬ (0 ≤ n ∧ n ≤ 20 ∧ I 13 + n ≤ 3000) ∧ A2 = A) ∨ (I2 13 = I 13 + n ∧ (0 ≤ n ∧ n ≤ 20 ∧ I 13 + n ≤ 3000) ∧ WZ A2 ∧ (∀ e : Int, 0 ≤ e → e < n → A2 11 (I 13 + e) = A 10 e) ∧ ∀ e : Int, e < I 13 → A2 11 e = A 11 e)) : REL s1 I2 A2 ∧ s1.I 0 = I2 13 := by
  obtain ⟨r1, r2, r3, r4⟩ := r
  obtain ⟨k3, k4, k2⟩ := k
  rcases hv with ⟨v1, v2, v3⟩ | ⟨v1, v2, v3, v4⟩
  · rcases hm with ⟨m1, m2, rfl⟩ | ⟨m1, m2, -⟩
    · refine ⟨⟨fun e e0 e1 => ?_, fun e e0 e1 => ?_, by omega, by omega⟩, by omega⟩
      · rw [k2 e (by omega)]
        exact r1 e e0 (by omega)
      · rw [v3]
        exact r2 e e0 e1
    · exact absurd (by omega) v2
  · rcases hm with ⟨m1, m2, -⟩ | ⟨m1, m2, m3, m4, m5⟩
    · exact absurd (by omega) m2
    · refine ⟨⟨fun e e0 e1 => ?_, fun e e0 e1 => ?_, by omega, by omega⟩, by omega⟩
      · by_cases c : e < I 13
        · rw [k2 e (by omega), m5 e c]
          exact r1 e e0 c
        · have q := v4 (e - s.I 0) (by omega) (by omega)
          have q2 := m4 (e - I 13) (by omega) (by omega)
          rw [show s.I 0 + (e - s.I 0) = e by omega] at q
          rw [show I 13 + (e - I 13) = e by omega] at q2
          rw [q, q2, e13]
          exact (r2 (e - I 13) (by omega) (by omega)).symm
      · rw [m3 e e0 e1, v3 (e / 4) (by omega) (by omega), sp_by_0]
theorem REL_run {t t1 bk1 : List sp_Th} (r : REL s I A) (e13 : s.I 0 = I 13) (p13 : 0 ≤ I 13) (e47 : s.I 20 = I 47) (er : ((t1, s1.I 23), s1.I 22) = sp_run t (s.I 23) (s.I 20) (sp_RD (s.A 0) (s.I 0))) (em : ((bk1, I2 50), I2 48) = sp_run t (I 50) (I 47) (sp_RD (A 11) (I 13))) (i13 : I2 13 = 0) (a12 : s1.A 12 = s.A 12) (a10 : A2 10 = A 10) : REL s1 I2 A2 ∧ t1 = bk1 := by
  obtain ⟨r1, r2, r3, r4⟩ := r
  rw [r4, e47, e13, RD_ext (f := A 11) (g := s.A 0) r1 p13, ← em] at er
  injection er with q1 q2
  injection q1 with q3 q4
  refine ⟨⟨fun e e0 e1 => absurd e1 (by omega), fun e e0 e1 => ?_, q2, q4⟩, q3⟩
  rw [a12, a10]
  exact r2 e e0 e1
end RELS
def LWI (c : Nat) (cc : Int) (s0 : Int × Int) (L : Int) (f : Int → Int) (H : xx_H) : Prop := ∃ (h R : xx_H) (I : Nat → Int) (A : Nat → Int → Int) (N : Int → Int) (s : KS) (bk : List sp_Th), H = mh h R I A N ∧ h.length = c + 32 ∧ KIC c H s0 cc H s bk ∧ MIC cc I A N ∧ s.I 0 = I 13 ∧ s.I 20 = I 47 ∧ REL s I A ∧ TBK bk I A N ∧ VB bk ∧ H[0]? = some (.inl (.int, xa_f L.toNat f))
theorem LW_half {c : Nat} {H H1 h R : xx_H} {I : Nat → Int} {A : Nat → Int → Int} {N : Int → Int} {s0 : Int × Int} {cc L : Int} {f : Int → Int} {s1 : KS} {t : List sp_Th} (e : H = mh h R I A N) (hl : h.length = c + 32) (K1 : KIC c H s0 cc H1 s1 t) (c0 : H[0]? = some (.inl (.int, xa_f L.toNat f))) : ∃ h1 R1 : xx_H, H1 = mh h1 R1 I A N ∧ h1.length = c + 32 ∧ H1[0]? = some (.inl (.int, xa_f L.toNat f)) := by
  obtain ⟨-, -, -, -, w, α, β, hw, X, -⟩ := K1
  obtain ⟨h1, R1, e1, e2⟩ := mh_split e hl X.1 (fun p p0 p1 => (X.2.2.2 p (Or.inr ⟨p0, p1⟩)).2)
  exact ⟨h1, R1, e1, e2, (X.2.2.2 0 (Or.inl (by decide))).2.trans c0⟩
theorem LW_next {c : Nat} {H h1 R1 : xx_H} {I I1 : Nat → Int} {A A1 : Nat → Int → Int} {N N1 : Int → Int} {s0 : Int × Int} {cc L : Int} {f : Int → Int} {s1 : KS} {t : List sp_Th} (hc : 12 ≤ c) (hl : h1.length = c + 32) (K1 : KIC c H s0 cc (mh h1 R1 I A N) s1 t) (M1 : MIC cc I1 A1 N1) (c0 : (mh h1 R1 I A N)[0]? = some (.inl (.int, xa_f L.toNat f))) (e1 : s1.I 0 = I1 13) (e2 : s1.I 20 = I1 47) (r : REL s1 I1 A1) (tb : TBK t I1 A1 N1) (vb : VB t) : LWI c cc s0 L f (mh h1 R1 I1 A1 N1) := ⟨h1, R1, I1, A1, N1, s1, t, rfl, hl, KIC_agr hc (mh_BLK hl) (mh_AGR hl) K1, M1, e1, e2, r, tb, vb, ((mh_AGR (I := I) (A := A) (N := N) (I1 := I1) (A1 := A1) (N1 := N1) (R := R1) hl).2.2 0 (by omega)).trans c0⟩

