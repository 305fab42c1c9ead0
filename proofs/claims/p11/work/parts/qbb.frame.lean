def FQ (j : Nat) : Prop := j = 48 ∨ j = 49 ∨ j = 54 ∨ j = 56 ∨ j = 59 ∨ j = 61 ∨ j = 63 ∨ j = 65 ∨ j = 67 ∨ j = 71 ∨ j = 76 ∨ j = 81 ∨ j = 84 ∨ j = 85
def GQ (a : Nat) : Prop := 29 ≤ a ∧ a ≤ 51
section EXT
variable {F G : Nat → Prop} {I I1 : Nat → Int} {A A1 : Nat → Int → Int} {N N1 : Int → Int} {ar : Int → Int}
theorem BX_w2 {F2 G2 : Nat → Prop} (hF : ∀ j, F j → F2 j) (hG : ∀ j, G j → G2 j) (x : BX F G I A N I1 A1 N1) : BX F2 G2 I A N I1 A1 N1 := ⟨x.1, x.2.1, x.2.2.1, fun j p q => x.2.2.2.1 j p (fun w => q (hF j w)), fun a q1 q2 q3 q4 q5 q6 q7 => x.2.2.2.2 a q1 q2 q3 q4 q5 q6 (fun w => q7 (hG a w))⟩
theorem NM_BX2 (hN : NM I A) (x : BX F G I A N I1 A1 N1) : NM I1 A1 := by
  have a := hN.1
  have b := x.2.1
  refine ⟨by omega, fun k k0 k1 => ?_⟩
  rw [(x.2.2.1 k k0 (by omega)).1]
  exact hN.2 k k0 k1
theorem AR_BX2 (hA : AR ar I A) (x : BX F G I A N I1 A1 N1) (f44 : ¬ F 44) (f45 : ¬ F 45) (f32 : ¬ F 32) (g20 : ¬ G 20) (g21 : ¬ G 21) : AR ar I1 A1 := by
  unfold AR
  rw [x.2.2.2.1 44 (by decide) f44, x.2.2.2.1 45 (by decide) f45, x.2.2.2.1 32 (by decide) f32, x.2.2.2.2 20 (by decide) (by decide) (by decide) (by decide) (by decide) (by decide) g20, x.2.2.2.2 21 (by decide) (by decide) (by decide) (by decide) (by decide) (by decide) g21]
  exact hA
theorem ARF_BX2 (hQ : ARF ar I A) (x : BX F G I A N I1 A1 N1) (f44 : ¬ F 44) (f32 : ¬ F 32) (g20 : ¬ G 20) : ARF ar I1 A1 := by
  intro f f0 f1
  obtain ⟨q1, q2, y, q3⟩ := hQ f f0 f1
  have x7 := x.2.1
  refine ⟨by omega, by rw [(x.2.2.1 f f0 q1).1]; exact q2, y, ?_⟩
  unfold FN
  rw [x.2.2.2.1 44 (by decide) f44, x.2.2.2.1 32 (by decide) f32, x.2.2.2.2 20 (by decide) (by decide) (by decide) (by decide) (by decide) (by decide) g20]
  exact q3
theorem ARF_01 (hQ : ARF ar I A) : ar 0 = -1 ∧ ar 1 = -1 := by
  refine ⟨?_, ?_⟩
  · by_cases e : ar 0 = -1
    · exact e
    · obtain ⟨-, -, y, q⟩ := hQ 0 (by decide) e
      unfold FN at q
      omega
  · by_cases e : ar 1 = -1
    · exact e
    · obtain ⟨-, -, y, q⟩ := hQ 1 (by decide) e
      unfold FN at q
      omega
theorem NT_extT {w w1 : Int → Int} (hP : PW I A) (P1 : PW I1 A1) (h7 : I 7 ≤ I1 7) (hx : ∀ k : Int, 0 ≤ k → k < I 7 → A1 1 k = A 1 k ∧ A1 2 k = A 2 k) (hw : ∀ k : Int, 0 ≤ k → k < I 7 → 1 ≤ TZ A ar k → w1 k = w k) : ∀ (f : Nat) (k : Int), k.toNat < f → 0 ≤ k → k < I 7 → (1 ≤ TZ A ar k → NT A1 w1 k = NT A w k) ∧ (0 ≤ LZ A ar k → NL A1 w1 k = NL A w k)
  | f + 1, k, hf, h0, h1 => by
    have q := hP.2 k h0 h1
    have p := hx k h0 h1
    by_cases e : A 1 k < 0
    · refine ⟨fun t => ?_, fun _ => ?_⟩
      · rw [NT_leaf hP h0 h1 (Or.inl e), NT_leaf P1 h0 (by omega) (Or.inl (by rw [p.1]; exact e)), hw k h0 h1 t]
      · unfold NL
        rw [nt_atom A w _ k e, nt_atom A1 w1 _ k (by rw [p.1]; exact e)]
    · have q2 := q.2.2.2.2 (by omega)
      have r1 := NT_extT hP P1 h7 hx hw f (A 1 k) (by omega) (by omega) (by omega)
      have r2 := NT_extT hP P1 h7 hx hw f (A 2 k) (by omega) (by omega) (by omega)
      refine ⟨fun t => ?_, fun l => ?_⟩
      · by_cases e2 : A 1 k = 2
        · rw [NT_leaf hP h0 h1 (Or.inr e2), NT_leaf P1 h0 (by omega) (Or.inr (by rw [p.1]; exact e2)), hw k h0 h1 t]
        · rw [NT_call hP h0 h1 (by omega) e2, NT_call P1 h0 (by omega) (by omega) (by rw [p.1]; exact e2), hw k h0 h1 t, p.2]
          have tc := TZ_call (ar := ar) hP h0 h1 (by omega) e2
          by_cases c : 0 ≤ LZ A ar (A 2 k) ∧ CZ A ar (A 2 k) = ar (A 1 k) ∧ A 4 k ≠ 0
          · rw [r2.2 c.1]
          · rw [if_neg c] at tc
            omega
      · by_cases e0 : k = 0
        · rw [e0, NL_0, NL_0]
        · have lp := (LZ_pair (ar := ar) hP (by omega) h1 (by omega)).1
          by_cases c : 1 ≤ TZ A ar (A 1 k) ∧ 0 ≤ LZ A ar (A 2 k)
          · rw [NL_pair hP (by omega) h1 (by omega), NL_pair P1 (by omega) (by omega) (by omega), p.1, p.2, r1.1 c.1, r2.2 c.2]
          · rw [if_neg c] at lp
            omega
theorem PS_extT {g g1 : Int → Int} (hP : PW I A) (n0 : A 1 0 < 0) (ha : ar 3 = 3) (hx : ∀ k : Int, 0 ≤ k → k < I 7 → A1 1 k = A 1 k ∧ A1 2 k = A 2 k) (hg : ∀ k : Int, 0 ≤ k → k < I 7 → 1 ≤ TZ A ar k → g1 k = g k) : ∀ (f : Nat) (k : Int), 0 ≤ k → k < I 7 → 1 ≤ TZ A ar k → ps A1 g1 f k = ps A g f k
  | 0, _, _, _, _ => rfl
  | f + 1, k, h0, h1, t => by
    have p := hx k h0 h1
    rw [ps_succ, ps_succ, p.1, p.2, hg k h0 h1 t]
    by_cases e : A 1 k = 3
    · have q := TZ_three hP n0 h0 h1 (by omega) (by omega) (by rw [e]; exact ha) t
      have q1 := hP.2 (A 2 (A 2 k)) (by omega) (by omega)
      have q2 := hP.2 (A 2 (A 2 (A 2 k))) (by omega) (by omega)
      have p1 := hx (A 2 k) (by omega) (by omega)
      have p2 := hx (A 2 (A 2 k)) (by omega) (by omega)
      have p3 := hx (A 2 (A 2 (A 2 k))) (by omega) (by omega)
      rw [if_pos e, if_pos e, p1.2, p2.1, p2.2, p3.1, PS_extT hP n0 ha hx hg f _ (by omega) (by omega) q.2.2.1.2.1, PS_extT hP n0 ha hx hg f _ (by omega) (by omega) q.2.2.1.2.2]
    · rw [if_neg e, if_neg e]
theorem wf_BX {f : Int} (hP : PW I A) (x : BX F G I A N I1 A1 N1) (k : Int) (h0 : 0 ≤ k) (h1 : k < I 7) (t : 1 ≤ TZ A ar k) : wf A1 ar f k = wf A ar f k := by
  unfold wf
  rw [(x.2.2.1 k h0 h1).1, (TZ_BX hP x h0 h1).1 t]
theorem wy_BX {f : Int} (f3 : 3 ≤ f) (hP : PW I A) (x : BX F G I A N I1 A1 N1) (k : Int) (h0 : 0 ≤ k) (h1 : k < I 7) (t : 1 ≤ TZ A ar k) : wy A1 ar f k = wy A ar f k := by
  have p := x.2.2.1 k h0 h1
  unfold wy
  rw [p.1, p.2.1]
  by_cases e : A 1 k = f
  · have q := hP.2 k h0 h1
    have q2 := q.2.2.2.2 (by omega)
    rw [if_pos e, if_pos e]
    have tc := TZ_call (ar := ar) hP h0 h1 (by omega) (by omega)
    by_cases c : 0 ≤ LZ A ar (A 2 k) ∧ CZ A ar (A 2 k) = ar (A 1 k) ∧ A 4 k ≠ 0
    · exact (NT_extT (ar := ar) hP (MST_PW x.1) x.2.1 (fun k a b => ⟨(x.2.2.1 k a b).1, (x.2.2.1 k a b).2.1⟩) (fun k a b c => wf_BX hP x k a b c) ((A 2 k).toNat + 1) (A 2 k) (Nat.lt_succ_self _) (by omega) (by omega)).2 c.1
    · rw [if_neg c] at tc
      omega
  · rw [if_neg e, if_neg e]
def NST (A : Nat → Int → Int) (ar : Int → Int) (f o : Int) : Int := PS A (NT A (wy A ar f)) o
theorem NST_BX {f o : Int} (f3 : 3 ≤ f) (hP : PW I A) (n0 : A 1 0 < 0) (ha : ar 3 = 3) (x : BX F G I A N I1 A1 N1) (h0 : 0 ≤ o) (h1 : o < I 7) (t : 1 ≤ TZ A ar o) : NST A1 ar f o = NST A ar f o := PS_extT hP n0 ha (fun k a b => ⟨(x.2.2.1 k a b).1, (x.2.2.1 k a b).2.1⟩) (fun k a b c => (NT_extT (ar := ar) hP (MST_PW x.1) x.2.1 (fun k a b => ⟨(x.2.2.1 k a b).1, (x.2.2.1 k a b).2.1⟩) (fun k a b c => wy_BX f3 hP x k a b c) (k.toNat + 1) k (Nat.lt_succ_self _) a b).1 c) _ o h0 h1 t
end EXT
def DEF (ar : Int → Int) (I : Nat → Int) (A : Nat → Int → Int) (e : Int) : Prop := (16 < A 20 e ∧ A 20 e < I 7) ∧ (0 ≤ A 21 e ∧ A 21 e ≤ 6 ∧ ar (A 20 e) = A 21 e) ∧ (∀ k : Int, 0 ≤ k → k < A 21 e → (0 ≤ A 22 (6 * e + k) ∧ A 22 (6 * e + k) < I 7) ∧ A 1 (A 22 (6 * e + k)) = -2) ∧ (0 ≤ A 23 e ∧ A 23 e < I 7) ∧ (1 ≤ TZ A ar (A 23 e) ∧ TZ A ar (A 23 e) ≤ 120) ∧ NST A ar (A 20 e) (A 23 e) = 0 ∧ (A 24 e = 0 ∨ A 24 e = 1)
def THM (ar : Int → Int) (I : Nat → Int) (A : Nat → Int → Int) (e : Int) : Prop := (0 ≤ A 25 e ∧ A 25 e < 140000) ∧ (0 ≤ A 26 e ∧ A 26 e < I 7) ∧ (1 ≤ TZ A ar (A 26 e) ∧ TZ A ar (A 26 e) ≤ 120)
def DFS (ar : Int → Int) (I : Nat → Int) (A : Nat → Int → Int) : Prop := ((0 ≤ I 32 ∧ I 32 ≤ 40) ∧ (0 ≤ I 38 ∧ I 38 ≤ 60)) ∧ (∀ e : Int, 0 ≤ e → e < I 32 → DEF ar I A e) ∧ ∀ e : Int, 0 ≤ e → e < I 38 → THM ar I A e
def BI (ar : Int → Int) (I : Nat → Int) (A : Nat → Int → Int) (N : Int → Int) : Prop := (MST I A N ∧ NM I A ∧ SZI ar I A) ∧ (AR ar I A ∧ ARF ar I A) ∧ DFS ar I A ∧ (I 54 = 0 ∧ I 56 = 0) ∧ (0 ≤ I 49 ∧ I 49 ≤ 4)
theorem DFS_BX {F G : Nat → Prop} {I I1 : Nat → Int} {A A1 : Nat → Int → Int} {N N1 : Int → Int} {ar : Int → Int} (hP : PW I A) (n0 : A 1 0 < 0) (ha : ar 3 = 3) (h : DFS ar I A) (x : BX F G I A N I1 A1 N1) (f32 : ¬ F 32) (f38 : ¬ F 38) (g : ∀ a : Nat, 20 ≤ a → a ≤ 26 → ¬ G a) : DFS ar I1 A1 := by
  have x7 := x.2.1
  have e32 := x.2.2.2.1 32 (by decide) f32
  have e38 := x.2.2.2.1 38 (by decide) f38
  have ga : ∀ a : Nat, 20 ≤ a → a ≤ 26 → A1 a = A a := fun a p q => x.2.2.2.2 a (by omega) (by omega) (by omega) (by omega) (by omega) (by omega) (g a p q)
  unfold DFS
  rw [e32, e38]
  refine ⟨h.1, fun e e0 e1 => ?_, fun e e0 e1 => ?_⟩
  · have d := h.2.1 e e0 e1
    obtain ⟨d1, d2, d3, d4, d5, d6, d7⟩ := d
    unfold DEF
    rw [ga 20 (by decide) (by decide), ga 21 (by decide) (by decide), ga 22 (by decide) (by decide), ga 23 (by decide) (by decide), ga 24 (by decide) (by decide), (TZ_BX hP x d4.1 d4.2).1 d5.1, NST_BX (by omega) hP n0 ha x d4.1 d4.2 d5.1]
    refine ⟨⟨d1.1, by omega⟩, d2, fun k k0 k1 => ?_, ⟨d4.1, by omega⟩, d5, d6, d7⟩
    have v := d3 k k0 k1
    rw [(x.2.2.1 _ v.1.1 v.1.2).1]
    exact ⟨⟨v.1.1, by omega⟩, v.2⟩
  · have d := h.2.2 e e0 e1
    obtain ⟨d1, d2, d3⟩ := d
    unfold THM
    rw [ga 25 (by decide) (by decide), ga 26 (by decide) (by decide), (TZ_BX hP x d2.1 d2.2).1 d3.1]
    exact ⟨d1, ⟨d2.1, by omega⟩, d3⟩
def QX (I : Nat → Int) (A : Nat → Int → Int) (N : Int → Int) (I1 : Nat → Int) (A1 : Nat → Int → Int) (N1 : Int → Int) : Prop := BX FQ GQ I A N I1 A1 N1
theorem BI_n0 {ar : Int → Int} {I : Nat → Int} {A : Nat → Int → Int} {N : Int → Int} (h : BI ar I A N) : A 1 0 < 0 := by
  rw [h.1.2.1.2 0 (by decide) (by decide)]
  decide
theorem BI_QX {ar : Int → Int} {I I1 : Nat → Int} {A A1 : Nat → Int → Int} {N N1 : Int → Int} (h : BI ar I A N) (x : QX I A N I1 A1 N1) (hZ : SZI ar I1 A1) (e54 : I1 54 = 0) (e56 : I1 56 = 0) (u : 0 ≤ I1 49 ∧ I1 49 ≤ 4) : BI ar I1 A1 N1 :=
  ⟨⟨x.1, NM_BX2 h.1.2.1 x, hZ⟩, ⟨AR_BX2 h.2.1.1 x (by unfold FQ; omega) (by unfold FQ; omega) (by unfold FQ; omega) (by unfold GQ; omega) (by unfold GQ; omega), ARF_BX2 h.2.1.2 x (by unfold FQ; omega) (by unfold FQ; omega) (by unfold GQ; omega)⟩, DFS_BX (MST_PW h.1.1) (BI_n0 h) h.2.1.1.1.1 h.2.2.1 x (by unfold FQ; omega) (by unfold FQ; omega) (fun a p q => by unfold GQ; omega), ⟨e54, e56⟩, u⟩
theorem BI_P {ar : Int → Int} {I : Nat → Int} {A : Nat → Int → Int} {N : Int → Int} (h : BI ar I A N) : PW I A := MST_PW h.1.1
def TOK (A : Nat → Int → Int) (ar : Int → Int) (o : Int) : Prop := 1 ≤ TS A ar o ∧ TS A ar o ≤ 120
theorem TS_BX {F G : Nat → Prop} {I I1 : Nat → Int} {A A1 : Nat → Int → Int} {N N1 : Int → Int} {ar : Int → Int} {k : Int} (hP : PW I A) (x : BX F G I A N I1 A1 N1) (h0 : 0 ≤ k) (h1 : k < I 7) : TS A1 ar k = TS A ar k := (TS_ext (ar := ar) hP (fun k a b => ⟨(x.2.2.1 k a b).1, (x.2.2.1 k a b).2.1⟩) (fun k a b => (TZ_BX (ar := ar) hP x a b).2.2) h0 h1).1
theorem WD_BX {F G : Nat → Prop} {I I1 : Nat → Int} {A A1 : Nat → Int → Int} {N N1 : Int → Int} {k : Int} (hP : PW I A) (x : BX F G I A N I1 A1 N1) (h0 : 0 ≤ k) (h1 : k < I 7) : WD A1 k = WD A k ∧ VD A1 k = VD A k := WD_ext hP (fun k a b => ⟨(x.2.2.1 k a b).1, (x.2.2.1 k a b).2.1⟩) k h0 h1
def TQ (ar : Int → Int) (o t : Int) (I : Nat → Int) (A : Nat → Int → Int) (N : Int → Int) (I1 : Nat → Int) (A1 : Nat → Int → Int) : Prop := BX FB GT I A N I1 A1 N ∧ BI ar I1 A1 N ∧ I1 7 ≤ I 7 + 2 * WD A o - 2 ∧ (I1 49 = I 49) ∧ ((t = -1 ∧ ¬ TOK A ar o) ∨ ((0 ≤ t ∧ t < I1 7) ∧ (1 ≤ TZ A1 ar t ∧ TZ A1 ar t ≤ 120) ∧ TOK A ar o ∧ TZ A1 ar t = TS A ar o ∧ TS A ar o ≤ WD A o ∧ NFT A1 o t))
theorem FB_FQ : ∀ j, FB j → FQ j := fun j h => by unfold FB at h; unfold FQ; omega
theorem GT_GQ : ∀ j, GT j → GQ j := fun j h => by unfold GT at h; unfold GQ; omega
theorem mm_termQ (z : Value) (d : Nat) (ar : Int → Int) (o : Int) (h R : xx_H) (I : Nat → Int) (A : Nat → Int → Int) (N : Int → Int) (hc : 12 ≤ h.length) (hB : BI ar I A N) (k0 : 0 ≤ o) (k1 : o < I 7) (w : WD A o ≤ 1000) (ho : I 7 + 2 * WD A o ≤ 140000) : xx_cl (xt_P z) (d + 8) 105 [.ref h.length, .int (iI o)] (mh h R I A N) (fun v h1 => ∃ (t : Int) (I1 : Nat → Int) (A1 : Nat → Int → Int), v = some (.int (iI t)) ∧ h1 = mh h R I1 A1 N ∧ TQ ar o t I A N I1 A1) := by
  have i4 := hB.2.2.2.1
  refine cl_w (fun v h1 hq => ?_) (mm_termOf z d ar o h R I A N hc hB.1.1 hB.1.2.1 hB.1.2.2 hB.2.1.1 hB.2.1.2 k0 k1 (by omega) (by omega) (by omega) (by omega) ho)
  obtain ⟨t, I1, A1, e1, e2, X, Z, ⟨j4, j6⟩, c7, ht⟩ := hq
  have pb := PT_b (BI_P hB) (BI_n0 hB) (by rw [hB.1.2.1.2 2 (by decide) (by decide)]; decide) k0 k1
  have e49 : I1 49 = I 49 := X.2.2.2.1 49 (by decide) (by unfold FB; omega)
  refine ⟨t, I1, A1, e1, e2, X, BI_QX hB (BX_w2 FB_FQ GT_GQ X) Z (by omega) (by omega) (by rw [e49]; exact hB.2.2.2.2), by omega, e49, ?_⟩
  rcases ht with ht | ht
  · exact Or.inl ht
  · refine Or.inr ⟨ht.1, ⟨ht.2.1, ht.2.2.1⟩, ⟨by omega, by omega⟩, ht.2.2.2.1, ht.2.2.2.2⟩
theorem QX_of {I I1 : Nat → Int} {A A1 : Nat → Int → Int} {N : Int → Int} (hS : MST I A N) (hf : ∀ j : Nat, ¬ FQ j → I1 j = I j) (ha : ∀ a : Nat, ¬ GQ a → A1 a = A a) (h8 : A1 8 = A 8) (h9 : A1 9 = A 9) : QX I A N I1 A1 N := by
  have e7 : I1 7 = I 7 := hf 7 (by unfold FQ; omega)
  have e1 : A1 1 = A 1 := ha 1 (by unfold GQ; omega)
  have e2 : A1 2 = A 2 := ha 2 (by unfold GQ; omega)
  have e4 : A1 4 = A 4 := ha 4 (by unfold GQ; omega)
  refine ⟨MST_congr hS e7 (hf 10 (by unfold FQ; omega)) e1 e2 (ha 3 (by unfold GQ; omega)) e4 (ha 5 (by unfold GQ; omega)) (ha 7 (by unfold GQ; omega)) h8 h9, by omega, fun k _ _ => ⟨by rw [e1], by rw [e2], rfl, fun e => by rw [e4]; exact e⟩, fun j _ q => hf j q, fun a _ _ _ _ _ _ q => ha a q⟩

