def BKD (ar : Int → Int) (FB : List (Nat × List Nat × ob_T)) (TB : List (Nat × ob_T)) (I : Nat → Int) (A : Nat → Int → Int) (N : Int → Int) : Prop := ((FB.length : Int) = I 32 ∧ (TB.length : Int) = I 38) ∧ (∀ e : Nat, e < FB.length → ∃ (v : Nat) (ps : List Nat) (B : ob_T), FB[e]? = some (v, ps, B) ∧ ((0 ≤ A 20 e ∧ A 20 e < I 7) ∧ DM A N (A 20 e) = .var v) ∧ ((ps.length : Int) = A 21 e ∧ ∀ k : Nat, k < ps.length → ∃ w : Nat, ps[k]? = some w ∧ ((0 ≤ A 22 (6 * e + k) ∧ A 22 (6 * e + k) < I 7) ∧ DM A N (A 22 (6 * e + k)) = .var w) ∧ w ≠ 31361 ∧ w ≠ 20) ∧ ((0 ≤ A 23 e ∧ A 23 e < I 7) ∧ B = DM A N (A 23 e)) ∧ 1 ≤ TS A ar (A 23 e) ∧ (A 24 e ≠ 0 ↔ (sp_cc v B).1 ≠ [])) ∧ ∀ e : Nat, e < TB.length → ∃ (v : Nat) (B : ob_T), TB[e]? = some (v, B) ∧ ((0 ≤ A 25 e ∧ A 25 e < I 7) ∧ DM A N (A 25 e) = .var v) ∧ ((0 ≤ A 26 e ∧ A 26 e < I 7) ∧ B = DM A N (A 26 e)) ∧ 1 ≤ TS A ar (A 26 e)
def BTX (ar : Int → Int) (ft : Nat → Int) (FB : List (Nat × List Nat × ob_T)) (TB : List (Nat × ob_T)) (I : Nat → Int) (A : Nat → Int → Int) (N : Int → Int) : Prop := TRX I A N ∧ ART ar ft I A N ∧ FTM ft ∧ BKD ar FB TB I A N
section BTS
variable {F G : Nat → Prop} {ar : Int → Int} {ft : Nat → Int} {FB : List (Nat × List Nat × ob_T)} {TB : List (Nat × ob_T)} {I I1 : Nat → Int} {A A1 : Nat → Int → Int} {N N1 : Int → Int}
theorem ART_BX (hB : BI ar I A N) (hT : TRX I A N) (h : ART ar ft I A N) (x : BX F G I A N I1 A1 N1) (f10 : ¬ F 10) (g8 : ¬ G 8) (g9 : ¬ G 9) : ART ar ft I1 A1 N1 := by
  intro f f0 f1
  have x7 := x.2.1
  by_cases c : f < I 7
  · rw [DM_BX hB.1.1 hT x f10 g8 g9 f0 c]
    exact h f f0 c
  · have T1 := TRX_BX hB.1.1 hB.1.2.1 hT x f10 g8 g9
    have an : ar f = -1 := by
      by_cases q : ar f = -1
      · exact q
      · exact absurd (hB.2.1.2 f f0 q).1 c
    rw [an]
    by_cases e : A1 1 f < 0
    · rcases DM_at x.1 f0 f1 e with ⟨-, n, q⟩ | ⟨q, -⟩
      · rw [q]
        rfl
      · have e10 : I1 10 = I 10 := x.2.2.2.1 10 (by decide) f10
        have i0 := hB.1.1.1.1
        have sc : SC (A1 1) (I1 7).toNat = SC (A1 1) (I 7).toNat := by
          have a := hB.1.1.1.2.2.2.2
          have b := x.1.1.2.2.2.2
          have c := SC_ext (f := A 1) (g := A1 1) (I 7).toNat (fun k a b => (x.2.2.1 k a (by omega)).1)
          omega
        exact absurd q (SC_no sc (by omega) (by omega))
    · rw [DM_pr x.1 T1 f0 f1 (by omega)]
      rfl
theorem BKD_BX (hB : BI ar I A N) (hT : TRX I A N) (h : BKD ar FB TB I A N) (x : BX F G I A N I1 A1 N1) (f10 : ¬ F 10) (g8 : ¬ G 8) (g9 : ¬ G 9) (f32 : ¬ F 32) (f38 : ¬ F 38) (g : ∀ a : Nat, 20 ≤ a → a ≤ 26 → ¬ G a) : BKD ar FB TB I1 A1 N1 := by
  have x7 := x.2.1
  have hP := BI_P hB
  have ga : ∀ a : Nat, 20 ≤ a → a ≤ 26 → A1 a = A a := fun a p q => x.2.2.2.2 a (by omega) (by omega) (by omega) (by omega) (by omega) (by omega) (g a p q)
  have dd : ∀ k : Int, 0 ≤ k → k < I 7 → DM A1 N1 k = DM A N k := fun k k0 k1 => DM_BX hB.1.1 hT x f10 g8 g9 k0 k1
  unfold BKD
  rw [x.2.2.2.1 32 (by decide) f32, x.2.2.2.1 38 (by decide) f38, ga 20 (by decide) (by decide), ga 21 (by decide) (by decide), ga 22 (by decide) (by decide), ga 23 (by decide) (by decide), ga 24 (by decide) (by decide), ga 25 (by decide) (by decide), ga 26 (by decide) (by decide)]
  refine ⟨h.1, fun e he => ?_, fun e he => ?_⟩
  · obtain ⟨v, ps, B, h1, h2, h3, h4, h5⟩ := h.2.1 e he
    refine ⟨v, ps, B, h1, ⟨⟨h2.1.1, by omega⟩, by rw [dd _ h2.1.1 h2.1.2]; exact h2.2⟩, ⟨h3.1, fun k hk => ?_⟩, ⟨⟨h4.1.1, by omega⟩, by rw [dd _ h4.1.1 h4.1.2]; exact h4.2⟩, by rw [TS_BX hP x h4.1.1 h4.1.2]; exact h5.1, h5.2⟩
    obtain ⟨w, w1, w2, w3⟩ := h3.2 k hk
    exact ⟨w, w1, ⟨⟨w2.1.1, by omega⟩, by rw [dd _ w2.1.1 w2.1.2]; exact w2.2⟩, w3⟩
  · obtain ⟨v, B, h1, h2, h4, h5⟩ := h.2.2 e he
    exact ⟨v, B, h1, ⟨⟨h2.1.1, by omega⟩, by rw [dd _ h2.1.1 h2.1.2]; exact h2.2⟩, ⟨⟨h4.1.1, by omega⟩, by rw [dd _ h4.1.1 h4.1.2]; exact h4.2⟩, by rw [TS_BX hP x h4.1.1 h4.1.2]; exact h5⟩
theorem BTX_BX (hB : BI ar I A N) (h : BTX ar ft FB TB I A N) (x : BX F G I A N I1 A1 N1) (hF : ∀ j, F j → FQ j) (hG : ∀ a, G a → GQ a) : BTX ar ft FB TB I1 A1 N1 := by
  have f10 : ¬ F 10 := fun q => by
    have := hF 10 q
    unfold FQ at this
    omega
  have g8 : ¬ G 8 := fun q => by
    have := hG 8 q
    unfold GQ at this
    omega
  have g9 : ¬ G 9 := fun q => by
    have := hG 9 q
    unfold GQ at this
    omega
  exact ⟨TRX_BX hB.1.1 hB.1.2.1 h.1 x f10 g8 g9, ART_BX hB h.1 h.2.1 x f10 g8 g9, h.2.2.1, BKD_BX hB h.1 h.2.2.2 x f10 g8 g9 (fun q => by have := hF 32 q; unfold FQ at this; omega) (fun q => by have := hF 38 q; unfold FQ at this; omega) (fun a p q r => by have := hG a r; unfold GQ at this; omega)⟩
theorem BTX_D (hB : BI ar I A N) (h : BTX ar ft FB TB I A N) (x : BX F G I A N I1 A1 N1) (hF : ∀ j, F j → FQ j) (hG : ∀ a, G a → GQ a) {k : Int} (k0 : 0 ≤ k) (k1 : k < I 7) : DM A1 N1 k = DM A N k := DM_BX hB.1.1 h.1 x (fun q => by have := hF 10 q; unfold FQ at this; omega) (fun q => by have := hG 8 q; unfold GQ at this; omega) (fun q => by have := hG 9 q; unfold GQ at this; omega) k0 k1
theorem TQ_tm {o t : Int} (hB : BI ar I A N) (h : BTX ar ft FB TB I A N) (o0 : 0 ≤ o) (o1 : o < I 7) (q : TQ ar o t I A N I1 A1) : (t = -1 → sp_tm ft (DM A N o) = none) ∧ (t ≠ -1 → sp_tm ft (DM A N o) = some (DM A1 N t)) := by
  have hP := BI_P hB
  have B1 := BTX_BX hB h q.1 FB_FQ GT_GQ
  have x7 := q.1.2.1
  rcases q.2.2.2.2 with ⟨e, c⟩ | ⟨r, z, c, -, -, nf⟩
  · exact ⟨fun _ => no_tm hB.1.1 hB.1.2.1 h.1 h.2.1 o0 o1 c, fun n => absurd e n⟩
  · refine ⟨fun e => by omega, fun _ => ?_⟩
    rw [← BTX_D hB h q.1 FB_FQ GT_GQ o0 o1]
    exact NFT_tm q.2.1.1.1 q.2.1.1.2.1 B1.1 B1.2.1 o0 (by omega) r.1 r.2 nf (by rw [TS_BX hP q.1 o0 o1]; exact c.1) (by rw [TS_BX hP q.1 o0 o1]; exact c.2)
end BTS
