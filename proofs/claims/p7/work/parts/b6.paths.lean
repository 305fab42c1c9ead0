def FP (j : Nat) : Prop := j = 71 ∨ j = 49
def GP (a : Nat) : Prop := (29 ≤ a ∧ a ≤ 32) ∨ (39 ≤ a ∧ a ≤ 44)
def RLP (ar : Int → Int) (I : Nat → Int) (A : Nat → Int → Int) (I1 : Nat → Int) (A1 : Nat → Int → Int) (B t m : Int) (f : Int → Int) : Prop := ((0 ≤ t ∧ t < I 7) ∧ 1 ≤ TZ A ar t) ∧ 0 ≤ m ∧ (∀ k : Int, 0 ≤ k → k < m → (0 ≤ f k ∧ f k < I1 7) ∧ 1 ≤ TZ A1 ar (f k)) ∧ SG (fun x => TZ A1 ar x + 1) f m.toNat + TZ A ar t ≤ B
theorem RLP_BX {F G : Nat → Prop} {ar : Int → Int} {I I1 I2 : Nat → Int} {A A1 A2 : Nat → Int → Int} {N : Int → Int} {B t m : Int} {f f2 : Int → Int} (r : RLP ar I A I1 A1 B t m f) (hP : PW I1 A1) (x : BX F G I1 A1 N I2 A2 N) (hf : ∀ k : Int, 0 ≤ k → k < m → f2 k = f k) : RLP ar I A I2 A2 B t m f2 := by
  have x7 := x.2.1
  refine ⟨r.1, r.2.1, fun k k0 k1 => ?_, ?_⟩
  · have q := r.2.2.1 k k0 k1
    rw [hf k k0 k1, (TZ_BX hP x q.1.1 q.1.2).1 q.2]
    exact ⟨⟨q.1.1, by omega⟩, q.2⟩
  · have r2 := r.2.1
    rw [SG_congr (g1 := fun x => TZ A1 ar x + 1) (f1 := f) m.toNat (fun e he => ?_)]
    · exact r.2.2.2
    · have q := r.2.2.1 e (by omega) (by omega)
      show TZ A2 ar (f2 e) + 1 = TZ A1 ar (f e) + 1
      rw [hf e (by omega) (by omega), (TZ_BX hP x q.1.1 q.1.2).1 q.2]
theorem RLP_more {ar : Int → Int} {I I1 : Nat → Int} {A A1 : Nat → Int → Int} {B t t2 m x : Int} {f f2 : Int → Int} (r : RLP ar I A I1 A1 B t m f) (t0 : 0 ≤ t2) (t1 : t2 < I 7) (tt : 1 ≤ TZ A ar t2) (x0 : 0 ≤ x) (x1 : x < I1 7) (xx : 1 ≤ TZ A1 ar x) (hb : TZ A1 ar x + 1 + TZ A ar t2 ≤ TZ A ar t) (hf : ∀ k : Int, 0 ≤ k → k < m → f2 k = f k) (hm : f2 m = x) : RLP ar I A I1 A1 B t2 (m + 1) f2 := by
  have r2 := r.2.1
  have r4 := r.2.2.2
  refine ⟨⟨⟨t0, t1⟩, tt⟩, by omega, fun k k0 k1 => ?_, ?_⟩
  · by_cases e : k = m
    · rw [e, hm]
      exact ⟨⟨x0, x1⟩, xx⟩
    · rw [hf k k0 (by omega)]
      exact r.2.2.1 k k0 (by omega)
  · rw [show (m + 1).toNat = m.toNat + 1 by omega]
    show SG (fun x => TZ A1 ar x + 1) f2 m.toNat + (TZ A1 ar (f2 ((m.toNat : Nat) : Int)) + 1) + TZ A ar t2 ≤ B
    rw [SG_congr (g1 := fun x => TZ A1 ar x + 1) (f1 := f) m.toNat (fun e he => by show TZ A1 ar (f2 e) + 1 = TZ A1 ar (f e) + 1; rw [hf e (by omega) (by omega)]), Int.toNat_of_nonneg r2, hm]
    omega
theorem SG_cnt2 {g f : Int → Int} : ∀ n : Nat, (∀ e : Nat, e < n → 2 ≤ g (f e)) → 2 * (n : Int) ≤ SG g f n
  | 0, _ => Int.le_refl _
  | n + 1, h => by
    show 2 * ((n + 1 : Nat) : Int) ≤ SG g f n + g (f n)
    have a := SG_cnt2 n (fun e he => h e (by omega))
    have b := h n (by omega)
    omega
theorem RLP_many {ar : Int → Int} {I I1 : Nat → Int} {A A1 : Nat → Int → Int} {B t m : Int} {f : Int → Int} (r : RLP ar I A I1 A1 B t m f) (b : B ≤ 120) : m ≤ 59 := by
  have r2 := r.2.1
  have r4 := r.2.2.2
  have t1 := r.1.2
  have c := SG_cnt2 (g := fun x => TZ A1 ar x + 1) (f := f) m.toNat (fun e he => by
    have q := (r.2.2.1 e (by omega) (by omega)).2
    show 2 ≤ TZ A1 ar (f e) + 1
    omega)
  omega
def PTI (ar : Int → Int) (B o n : Int) (I : Nat → Int) (A : Nat → Int → Int) (N : Int → Int) (I1 : Nat → Int) (A1 : Nat → Int → Int) : Prop := (BX FP GP I A N I1 A1 N ∧ SZI ar I1 A1) ∧ ((0 ≤ I1 49 ∧ I1 49 ≤ 4) ∧ (¬ I 49 = 0 → I1 49 = I 49)) ∧ (0 ≤ n ∧ 0 ≤ I1 71 ∧ I1 7 ≤ I 7 + 4 * (I1 71 + n - 1)) ∧ (∀ e : Int, 0 ≤ e → e < I1 71 → RLP ar I A I1 A1 B (A1 39 e) (A1 41 e) (fun k => A1 40 (64 * e + k))) ∧ (∀ e : Int, 0 ≤ e → e < n → RLP ar I A I1 A1 B (A1 42 e) (A1 44 e) (fun k => A1 43 (64 * e + k))) ∧ (∀ g : Int → Int, SG g (A1 39) (I1 71).toNat + SG (PS A g) (A1 42) n.toNat = PS A g o) ∧ SG (TZ A ar) (A1 39) (I1 71).toNat + SG (TZ A ar) (A1 42) n.toNat ≤ B
theorem PTI_cnt {ar : Int → Int} {B o n : Int} {I I1 : Nat → Int} {A A1 : Nat → Int → Int} {N : Int → Int} (p : PTI ar B o n I A N I1 A1) : I1 71 + n ≤ B := by
  have p3 := p.2.2.1
  have a := SG_cnt (g := TZ A ar) (f := A1 39) (I1 71).toNat (fun e he => (p.2.2.2.1 e (by omega) (by omega)).1.2)
  have b := SG_cnt (g := TZ A ar) (f := A1 42) n.toNat (fun e he => (p.2.2.2.2.1 e (by omega) (by omega)).1.2)
  have c := p.2.2.2.2.2.2
  omega
theorem BX_FP {I I1 : Nat → Int} {A A1 : Nat → Int → Int} {N : Int → Int} (x : BX FW GB I A N I1 A1 N) (e4 : I1 54 = I 54) (e6 : I1 56 = I 56) : BX FP GP I A N I1 A1 N := ⟨x.1, x.2.1, x.2.2.1, fun j p q => by
  by_cases a : j = 54
  · rw [a, e4]
  · by_cases b : j = 56
    · rw [b, e6]
    · exact x.2.2.2.1 j p (fun e => by unfold FW at e; unfold FP at q; omega), fun a q1 q2 q3 q4 q5 q6 q7 => x.2.2.2.2 a q1 q2 q3 q4 q5 q6 (fun e => q7 (by unfold GB at e; unfold GP; omega))⟩
def PTH (ar : Int → Int) (B o : Int) (I : Nat → Int) (A : Nat → Int → Int) (N : Int → Int) (I1 : Nat → Int) (A1 : Nat → Int → Int) : Prop := PTI ar B o 0 I A N I1 A1
theorem mm_term (z : Value) (d n N0 : Nat) (k : Int) (h R : xx_H) (I : Nat → Int) (A : Nat → Int → Int) (N : Int → Int) (hc : 12 ≤ h.length) (hP : PW I A) (hm : (n : Int) < 1000000) (h0 : 0 ≤ k) (h1 : k < I 7) (hL : isL A N0 k) (hN : n < N0) : xx_cl (xt_P z) (d + 2) 124 [.ref h.length, .int (iI k), .int (iI n)] (mh h R I A N) (fun v h1 => v = some (.int (iI (A 1 (rt A n k)))) ∧ h1 = mh h R I A N) := by
  refine cl_go rfl ?_
  show xx_go (xt_P z) (d + 1) 124 0 [some (.ref h.length), some (.int (iI k)), some (.int (iI ((n : Int))))] [] (mh h R I A N) _
  refine go_a (pc' := 1) (ls' := [some (.ref h.length), some (.int (iI k)), some (.int (iI ((n : Int))))]) (st' := [.ref h.length]) rfl rfl ?_
  refine go_a (pc' := 2) (ls' := [some (.ref h.length), some (.int (iI k)), some (.int (iI ((n : Int))))]) (st' := [.int (iI k), .ref h.length]) rfl rfl ?_
  refine go_a (pc' := 3) (ls' := [some (.ref h.length), some (.int (iI k)), some (.int (iI ((n : Int))))]) (st' := [.int (iI ((n : Int))), .int (iI k), .ref h.length]) rfl rfl ?_
  refine go_v (m := 99) (as := [.ref h.length, .int (iI k), .int (iI ((n : Int)))]) (r := []) rfl rfl rfl mh_o rfl rfl (mm_nth z d n N0 k h R I A N hc hP hm h0 h1 hL hN) (fun v h1 hq => ?_)
  obtain ⟨rfl, rfl⟩ := hq
  show xx_go (xt_P z) (d + 1) 124 6 [some (.ref h.length), some (.int (iI k)), some (.int (iI ((n : Int))))] [.int (iI (A 1 (rt A n k)))] (mh h R I A N) _
  exact go_r rfl rfl rfl rfl rfl rfl ⟨rfl, rfl⟩
theorem mm_paths_copy1 (z : Value) (d : Nat) (o q x m : Int) (y6 : Option Value) (h R : xx_H) (I : Nat → Int) (A : Nat → Int → Int) (N : Int → Int) (hc : 12 ≤ h.length) (Q : Option Value → xx_H → Prop) (p0 : 0 ≤ I 71) (p1 : I 71 ≤ 120) (q0 : 0 ≤ q) (q1 : q ≤ 120) (m0 : 0 ≤ m) (m1 : m ≤ 60) (K : (∀ (A2 : Nat → Int → Int) (y5 : Option Value), ((∀ a : Nat, a ≠ 40 → A2 a = A a) ∧ (∀ k : Int, 0 ≤ k → k < m → A2 40 (64 * I 71 + k) = A 43 (64 * q + k)) ∧ ∀ e : Int, e < 64 * I 71 → A2 40 e = A 40 e) → xx_go (xt_P z) d 122 116 [some (.ref h.length), some (.int (iI o)), some (.int (iI q)), some (.int (iI x)), some (.int (iI m)), y5, y6] [] (mh h R I A2 N) Q)) : ∀ (n : Nat) (j : Int) (A2 : Nat → Int → Int), (m - j).toNat ≤ n → 0 ≤ j → j ≤ m → ((∀ a : Nat, a ≠ 40 → A2 a = A a) ∧ (∀ k : Int, 0 ≤ k → k < j → A2 40 (64 * I 71 + k) = A 43 (64 * q + k)) ∧ ∀ e : Int, e < 64 * I 71 → A2 40 e = A 40 e) → xx_go (xt_P z) d 122 76 [some (.ref h.length), some (.int (iI o)), some (.int (iI q)), some (.int (iI x)), some (.int (iI m)), some (.int (iI j)), y6] [] (mh h R I A2 N) Q := by
  intro n
  induction n with
  | zero =>
    intro j A2 hn j0 jm C
    have e : j = m := by omega
    subst e
    refine go_a (pc' := 78) (ls' := [some (.ref h.length), some (.int (iI o)), some (.int (iI q)), some (.int (iI x)), some (.int (iI j)), some (.int (iI j)), y6]) (st' := [.int (iI j)]) rfl rfl ?_
    refine go_a (pc' := 80) (ls' := [some (.ref h.length), some (.int (iI o)), some (.int (iI q)), some (.int (iI x)), some (.int (iI j)), some (.int (iI j)), y6]) (st' := [.int (iI j), .int (iI j)]) rfl rfl ?_
    exact mi_ge (t := 116) rfl rfl (by omega) (by omega) (by omega) (by omega) (fun _ => K A2 _ C) (fun e => absurd (Int.le_refl _) e)
  | succ n ih =>
    intro j A2 hn j0 jm C
    refine go_a (pc' := 78) (ls' := [some (.ref h.length), some (.int (iI o)), some (.int (iI q)), some (.int (iI x)), some (.int (iI m)), some (.int (iI j)), y6]) (st' := [.int (iI j)]) rfl rfl ?_
    refine go_a (pc' := 80) (ls' := [some (.ref h.length), some (.int (iI o)), some (.int (iI q)), some (.int (iI x)), some (.int (iI m)), some (.int (iI j)), y6]) (st' := [.int (iI m), .int (iI j)]) rfl rfl ?_
    refine mi_ge (t := 116) rfl rfl (by omega) (by omega) (by omega) (by omega) (fun e => K A2 _ (by rw [show m = j by omega]; exact C)) (fun e => ?_)
    refine go_a (pc' := 84) (ls' := [some (.ref h.length), some (.int (iI o)), some (.int (iI q)), some (.int (iI x)), some (.int (iI m)), some (.int (iI j)), y6]) (st' := [.ref h.length]) rfl rfl ?_
    refine go_get rfl mh_o rfl rfl ?_
    refine go_a (pc' := 89) (ls' := [some (.ref h.length), some (.int (iI o)), some (.int (iI q)), some (.int (iI x)), some (.int (iI m)), some (.int (iI j)), y6]) (st' := [.int (iI 64), .ref (h.length + 40)]) rfl rfl ?_
    refine go_a (pc' := 90) (ls' := [some (.ref h.length), some (.int (iI o)), some (.int (iI q)), some (.int (iI x)), some (.int (iI m)), some (.int (iI j)), y6]) (st' := [.ref h.length, .int (iI 64), .ref (h.length + 40)]) rfl rfl ?_
    refine go_get (v := .int (iI (I 71))) rfl mh_o rfl rfl ?_
    refine mi_mul rfl ?_
    refine go_a (pc' := 96) (ls' := [some (.ref h.length), some (.int (iI o)), some (.int (iI q)), some (.int (iI x)), some (.int (iI m)), some (.int (iI j)), y6]) (st' := [.int (iI j), .int (iI (64 * (I 71))), .ref (h.length + 40)]) rfl rfl ?_
    refine mi_add rfl ?_
    refine go_a (pc' := 98) (ls' := [some (.ref h.length), some (.int (iI o)), some (.int (iI q)), some (.int (iI x)), some (.int (iI m)), some (.int (iI j)), y6]) (st' := [.ref h.length, .int (iI ((64 * (I 71)) + j)), .ref (h.length + 40)]) rfl rfl ?_
    refine go_get rfl mh_o rfl rfl ?_
    refine go_a (pc' := 103) (ls' := [some (.ref h.length), some (.int (iI o)), some (.int (iI q)), some (.int (iI x)), some (.int (iI m)), some (.int (iI j)), y6]) (st' := [.int (iI 64), .ref (h.length + 43), .int (iI ((64 * (I 71)) + j)), .ref (h.length + 40)]) rfl rfl ?_
    refine go_a (pc' := 104) (ls' := [some (.ref h.length), some (.int (iI o)), some (.int (iI q)), some (.int (iI x)), some (.int (iI m)), some (.int (iI j)), y6]) (st' := [.int (iI q), .int (iI 64), .ref (h.length + 43), .int (iI ((64 * (I 71)) + j)), .ref (h.length + 40)]) rfl rfl ?_
    refine mi_mul rfl ?_
    refine go_a (pc' := 107) (ls' := [some (.ref h.length), some (.int (iI o)), some (.int (iI q)), some (.int (iI x)), some (.int (iI m)), some (.int (iI j)), y6]) (st' := [.int (iI j), .int (iI (64 * q)), .ref (h.length + 43), .int (iI ((64 * (I 71)) + j)), .ref (h.length + 40)]) rfl rfl ?_
    refine mi_add rfl ?_
    refine mi_ild rfl mh_a43 (by omega) (by omega) (by decide) ?_
    refine mi_ist rfl mh_a40 (show 12 ≤ _ by omega) (by omega) (by omega) (by decide) ?_
    rw [mh_w40 (by omega)]
    refine go_a (pc' := 113) (ls' := [some (.ref h.length), some (.int (iI o)), some (.int (iI q)), some (.int (iI x)), some (.int (iI m)), some (.int (iI (j + 1))), y6]) (st' := []) rfl (by rw [← iI_add j 1]; rfl) ?_
    refine go_a (pc' := 76) (ls' := [some (.ref h.length), some (.int (iI o)), some (.int (iI q)), some (.int (iI x)), some (.int (iI m)), some (.int (iI (j + 1))), y6]) (st' := []) rfl rfl ?_
    have c1 := C.1 43 (by decide)
    refine ih (j + 1) _ (by omega) (by omega) (by omega) ⟨fun a ha => (sa_ne ha).trans (C.1 a ha), fun k k0 k1 => ?_, fun e he => ?_⟩
    · show sf (A2 40) (64 * I 71 + j) (A2 43 (64 * q + j)) (64 * I 71 + k) = _
      by_cases e : k = j
      · rw [e, sf_self, c1]
      · rw [sf_ne (by omega)]
        exact C.2.1 k k0 (by omega)
    · show sf (A2 40) (64 * I 71 + j) (A2 43 (64 * q + j)) e = _
      rw [sf_ne (by omega)]
      exact C.2.2 e he
theorem mm_paths_copy2 (z : Value) (d : Nat) (o q x m t0 : Int) (h R : xx_H) (I : Nat → Int) (A : Nat → Int → Int) (N : Int → Int) (hc : 12 ≤ h.length) (Q : Option Value → xx_H → Prop) (q0 : 0 ≤ q) (q1 : q ≤ 120) (m0 : 0 ≤ m) (m1 : m ≤ 60) (K : (∀ (A2 : Nat → Int → Int) (y6 : Option Value), ((∀ a : Nat, a ≠ 43 → A2 a = A a) ∧ (∀ k : Int, 0 ≤ k → k < m → A2 43 (64 * (q + 1) + k) = A 43 (64 * q + k)) ∧ ∀ e : Int, e < 64 * (q + 1) → A2 43 e = A 43 e) → xx_go (xt_P z) d 122 179 [some (.ref h.length), some (.int (iI o)), some (.int (iI q)), some (.int (iI x)), some (.int (iI m)), some (.int (iI t0)), y6] [] (mh h R I A2 N) Q)) : ∀ (n : Nat) (j : Int) (A2 : Nat → Int → Int), (m - j).toNat ≤ n → 0 ≤ j → j ≤ m → ((∀ a : Nat, a ≠ 43 → A2 a = A a) ∧ (∀ k : Int, 0 ≤ k → k < j → A2 43 (64 * (q + 1) + k) = A 43 (64 * q + k)) ∧ ∀ e : Int, e < 64 * (q + 1) → A2 43 e = A 43 e) → xx_go (xt_P z) d 122 140 [some (.ref h.length), some (.int (iI o)), some (.int (iI q)), some (.int (iI x)), some (.int (iI m)), some (.int (iI t0)), some (.int (iI j))] [] (mh h R I A2 N) Q := by
  intro n
  induction n with
  | zero =>
    intro j A2 hn j0 jm C
    have e : j = m := by omega
    subst e
    refine go_a (pc' := 142) (ls' := [some (.ref h.length), some (.int (iI o)), some (.int (iI q)), some (.int (iI x)), some (.int (iI j)), some (.int (iI t0)), some (.int (iI j))]) (st' := [.int (iI j)]) rfl rfl ?_
    refine go_a (pc' := 144) (ls' := [some (.ref h.length), some (.int (iI o)), some (.int (iI q)), some (.int (iI x)), some (.int (iI j)), some (.int (iI t0)), some (.int (iI j))]) (st' := [.int (iI j), .int (iI j)]) rfl rfl ?_
    exact mi_ge (t := 179) rfl rfl (by omega) (by omega) (by omega) (by omega) (fun _ => K A2 _ C) (fun e => absurd (Int.le_refl _) e)
  | succ n ih =>
    intro j A2 hn j0 jm C
    refine go_a (pc' := 142) (ls' := [some (.ref h.length), some (.int (iI o)), some (.int (iI q)), some (.int (iI x)), some (.int (iI m)), some (.int (iI t0)), some (.int (iI j))]) (st' := [.int (iI j)]) rfl rfl ?_
    refine go_a (pc' := 144) (ls' := [some (.ref h.length), some (.int (iI o)), some (.int (iI q)), some (.int (iI x)), some (.int (iI m)), some (.int (iI t0)), some (.int (iI j))]) (st' := [.int (iI m), .int (iI j)]) rfl rfl ?_
    refine mi_ge (t := 179) rfl rfl (by omega) (by omega) (by omega) (by omega) (fun e => K A2 _ (by rw [show m = j by omega]; exact C)) (fun e => ?_)
    refine go_a (pc' := 148) (ls' := [some (.ref h.length), some (.int (iI o)), some (.int (iI q)), some (.int (iI x)), some (.int (iI m)), some (.int (iI t0)), some (.int (iI j))]) (st' := [.ref h.length]) rfl rfl ?_
    refine go_get rfl mh_o rfl rfl ?_
    refine go_a (pc' := 153) (ls' := [some (.ref h.length), some (.int (iI o)), some (.int (iI q)), some (.int (iI x)), some (.int (iI m)), some (.int (iI t0)), some (.int (iI j))]) (st' := [.int (iI 64), .ref (h.length + 43)]) rfl rfl ?_
    refine go_a (pc' := 154) (ls' := [some (.ref h.length), some (.int (iI o)), some (.int (iI q)), some (.int (iI x)), some (.int (iI m)), some (.int (iI t0)), some (.int (iI j))]) (st' := [.int (iI q), .int (iI 64), .ref (h.length + 43)]) rfl rfl ?_
    refine go_a (pc' := 155) (ls' := [some (.ref h.length), some (.int (iI o)), some (.int (iI q)), some (.int (iI x)), some (.int (iI m)), some (.int (iI t0)), some (.int (iI j))]) (st' := [.int (iI 1), .int (iI q), .int (iI 64), .ref (h.length + 43)]) rfl rfl ?_
    refine mi_add rfl ?_
    refine mi_mul rfl ?_
    refine go_a (pc' := 159) (ls' := [some (.ref h.length), some (.int (iI o)), some (.int (iI q)), some (.int (iI x)), some (.int (iI m)), some (.int (iI t0)), some (.int (iI j))]) (st' := [.int (iI j), .int (iI (64 * (q + 1))), .ref (h.length + 43)]) rfl rfl ?_
    refine mi_add rfl ?_
    refine go_a (pc' := 161) (ls' := [some (.ref h.length), some (.int (iI o)), some (.int (iI q)), some (.int (iI x)), some (.int (iI m)), some (.int (iI t0)), some (.int (iI j))]) (st' := [.ref h.length, .int (iI ((64 * (q + 1)) + j)), .ref (h.length + 43)]) rfl rfl ?_
    refine go_get rfl mh_o rfl rfl ?_
    refine go_a (pc' := 166) (ls' := [some (.ref h.length), some (.int (iI o)), some (.int (iI q)), some (.int (iI x)), some (.int (iI m)), some (.int (iI t0)), some (.int (iI j))]) (st' := [.int (iI 64), .ref (h.length + 43), .int (iI ((64 * (q + 1)) + j)), .ref (h.length + 43)]) rfl rfl ?_
    refine go_a (pc' := 167) (ls' := [some (.ref h.length), some (.int (iI o)), some (.int (iI q)), some (.int (iI x)), some (.int (iI m)), some (.int (iI t0)), some (.int (iI j))]) (st' := [.int (iI q), .int (iI 64), .ref (h.length + 43), .int (iI ((64 * (q + 1)) + j)), .ref (h.length + 43)]) rfl rfl ?_
    refine mi_mul rfl ?_
    refine go_a (pc' := 170) (ls' := [some (.ref h.length), some (.int (iI o)), some (.int (iI q)), some (.int (iI x)), some (.int (iI m)), some (.int (iI t0)), some (.int (iI j))]) (st' := [.int (iI j), .int (iI (64 * q)), .ref (h.length + 43), .int (iI ((64 * (q + 1)) + j)), .ref (h.length + 43)]) rfl rfl ?_
    refine mi_add rfl ?_
    refine mi_ild rfl mh_a43 (by omega) (by omega) (by decide) ?_
    refine mi_ist rfl mh_a43 (show 12 ≤ _ by omega) (by omega) (by omega) (by decide) ?_
    rw [mh_w43 (by omega)]
    refine go_a (pc' := 176) (ls' := [some (.ref h.length), some (.int (iI o)), some (.int (iI q)), some (.int (iI x)), some (.int (iI m)), some (.int (iI t0)), some (.int (iI (j + 1)))]) (st' := []) rfl (by rw [← iI_add j 1]; rfl) ?_
    refine go_a (pc' := 140) (ls' := [some (.ref h.length), some (.int (iI o)), some (.int (iI q)), some (.int (iI x)), some (.int (iI m)), some (.int (iI t0)), some (.int (iI (j + 1)))]) (st' := []) rfl rfl ?_
    refine ih (j + 1) _ (by omega) (by omega) (by omega) ⟨fun a ha => (sa_ne ha).trans (C.1 a ha), fun k k0 k1 => ?_, fun e he => ?_⟩
    · show sf (A2 43) (64 * (q + 1) + j) (A2 43 (64 * q + j)) (64 * (q + 1) + k) = _
      by_cases e : k = j
      · rw [e, sf_self]
        exact C.2.2 _ (by omega)
      · rw [sf_ne (by omega)]
        exact C.2.1 k k0 (by omega)
    · show sf (A2 43) (64 * (q + 1) + j) (A2 43 (64 * q + j)) e = _
      rw [sf_ne (by omega)]
      exact C.2.2 e he
theorem mm_paths_loop (z : Value) (d : Nat) (ar : Int → Int) (o B : Int) (h R : xx_H) (I : Nat → Int) (A : Nat → Int → Int) (N : Int → Int) (hc : 12 ≤ h.length) (hS : MST I A N) (hN : NM I A) (a3 : ar 3 = 3) (a15 : ar 15 = 1) (b56 : 0 ≤ I 56) (b56b : I 56 ≤ 2390) (ho : I 7 + 484 ≤ 140000) (B9 : B ≤ 120) : ∀ (f : Nat) (n : Int) (I1 : Nat → Int) (A1 : Nat → Int → Int) (y3 y4 y5 y6 : Option Value), SG (TZ A ar) (A1 42) n.toNat ≤ f → PTI ar B o n I A N I1 A1 → xx_go (xt_P z) (d + 8) 122 21 [some (.ref h.length), some (.int (iI o)), some (.int (iI n)), y3, y4, y5, y6] [] (mh h R I1 A1 N) (fun v h1 => v = none ∧ ∃ (I1 : Nat → Int) (A1 : Nat → Int → Int), h1 = mh h R I1 A1 N ∧ PTH ar B o I A N I1 A1) := by
  have hP := MST_PW hS
  have n0 : A 1 0 < 0 := by rw [hN.2 0 (by decide) (by decide)]; decide
  intro f
  induction f with
  | zero =>
    intro n I1 A1 y3 y4 y5 y6 hf p
    have cnt := PTI_cnt p
    obtain ⟨⟨X, Z1⟩, ⟨u1, u2⟩, ⟨n00, pp, c7⟩, hE, hT, hG, hB⟩ := id p
    have P1 := MST_PW X.1
    have x7 := X.2.1
    have nz : n = 0 := by
      have b := SG_cnt (g := TZ A ar) (f := A1 42) n.toNat (fun e he => (hT e (by omega) (by omega)).1.2)
      omega
    subst nz
    refine go_a (pc' := 22) (ls' := [some (.ref h.length), some (.int (iI o)), some (.int (iI 0)), y3, y4, y5, y6]) (st' := [.int (iI 0)]) rfl rfl ?_
    refine mi_le0 (t := 267) rfl rfl (by omega) (by omega) (fun _ => ?_) (fun e => absurd (Int.le_refl _) e)
    exact go_r rfl rfl rfl rfl rfl rfl ⟨rfl, I1, A1, rfl, p⟩
  | succ f ih =>
    intro n I1 A1 y3 y4 y5 y6 hf p
    have cnt := PTI_cnt p
    obtain ⟨⟨X, Z1⟩, ⟨u1, u2⟩, ⟨n00, pp, c7⟩, hE, hT, hG, hB⟩ := id p
    have P1 := MST_PW X.1
    have x7 := X.2.1
    refine go_a (pc' := 22) (ls' := [some (.ref h.length), some (.int (iI o)), some (.int (iI n)), y3, y4, y5, y6]) (st' := [.int (iI n)]) rfl rfl ?_
    refine mi_le0 (t := 267) rfl rfl (by omega) (by omega) (fun e => ?_) (fun e => ?_)
    · have nz : n = 0 := by omega
      subst nz
      exact go_r rfl rfl rfl rfl rfl rfl ⟨rfl, I1, A1, rfl, p⟩
    · have tp := hT (n - 1) (by omega) (by omega)
      have mm := RLP_many tp B9
      have t1 := tp.1
      have m0 := tp.2.1
      have sp : SG (TZ A ar) (A1 42) n.toNat = SG (TZ A ar) (A1 42) (n - 1).toNat + TZ A ar (A1 42 (n - 1)) := SG_pop (by omega)
      have gp : ∀ g : Int → Int, SG (PS A g) (A1 42) n.toNat = SG (PS A g) (A1 42) (n - 1).toNat + PS A g (A1 42 (n - 1)) := fun g => SG_pop (by omega)
      have p1 := P1.1
      refine go_a (pc' := 28) (ls' := [some (.ref h.length), some (.int (iI o)), some (.int (iI (n + (-1)))), y3, y4, y5, y6]) (st' := []) rfl (by rw [← iI_add n (-1)]; rfl) ?_
      refine go_a (pc' := 29) (ls' := [some (.ref h.length), some (.int (iI o)), some (.int (iI (n + (-1)))), y3, y4, y5, y6]) (st' := [.ref h.length]) rfl rfl ?_
      refine go_get rfl mh_o rfl rfl ?_
      refine go_a (pc' := 33) (ls' := [some (.ref h.length), some (.int (iI o)), some (.int (iI (n + (-1)))), y3, y4, y5, y6]) (st' := [.int (iI (n + (-1))), .ref (h.length + 42)]) rfl rfl ?_
      refine mi_ild rfl mh_a42 (by omega) (by omega) (by decide) ?_
      refine go_a (pc' := 35) (ls' := [some (.ref h.length), some (.int (iI o)), some (.int (iI (n + (-1)))), some (.int (iI (A1 42 (n + (-1))))), y4, y5, y6]) (st' := []) rfl rfl ?_
      refine go_a (pc' := 36) (ls' := [some (.ref h.length), some (.int (iI o)), some (.int (iI (n + (-1)))), some (.int (iI (A1 42 (n + (-1))))), y4, y5, y6]) (st' := [.ref h.length]) rfl rfl ?_
      refine go_get rfl mh_o rfl rfl ?_
      refine go_a (pc' := 40) (ls' := [some (.ref h.length), some (.int (iI o)), some (.int (iI (n + (-1)))), some (.int (iI (A1 42 (n + (-1))))), y4, y5, y6]) (st' := [.int (iI (n + (-1))), .ref (h.length + 44)]) rfl rfl ?_
      refine mi_ild rfl mh_a44 (by omega) (by omega) (by decide) ?_
      refine go_a (pc' := 43) (ls' := [some (.ref h.length), some (.int (iI o)), some (.int (iI (n + (-1)))), some (.int (iI (A1 42 (n + (-1))))), some (.int (iI (A1 44 (n + (-1))))), y5, y6]) (st' := []) rfl rfl ?_
      refine go_a (pc' := 44) (ls' := [some (.ref h.length), some (.int (iI o)), some (.int (iI (n + (-1)))), some (.int (iI (A1 42 (n + (-1))))), some (.int (iI (A1 44 (n + (-1))))), y5, y6]) (st' := [.ref h.length]) rfl rfl ?_
      refine go_a (pc' := 45) (ls' := [some (.ref h.length), some (.int (iI o)), some (.int (iI (n + (-1)))), some (.int (iI (A1 42 (n + (-1))))), some (.int (iI (A1 44 (n + (-1))))), y5, y6]) (st' := [.int (iI (A1 42 (n + (-1)))), .ref h.length]) rfl rfl ?_
      refine go_a (pc' := 46) (ls' := [some (.ref h.length), some (.int (iI o)), some (.int (iI (n + (-1)))), some (.int (iI (A1 42 (n + (-1))))), some (.int (iI (A1 44 (n + (-1))))), y5, y6]) (st' := [.int (iI 3), .int (iI (A1 42 (n + (-1)))), .ref h.length]) rfl rfl ?_
      rw [show n + (-1) = n - 1 by omega]
      show xx_go (xt_P z) (d + 8) 122 46 [some (.ref h.length), some (.int (iI o)), some (.int (iI (n - 1))), some (.int (iI (A1 42 (n - 1)))), some (.int (iI (A1 44 (n - 1)))), y5, y6] [.int (iI 3), .int (iI (A1 42 (n - 1))), .ref h.length] (mh h R I1 A1 N) _
      refine go_v (m := 123) (as := [.ref h.length, .int (iI (A1 42 (n - 1))), .int (iI 3)]) (r := []) rfl rfl rfl mh_o rfl rfl (mb_isCallOf z (d + 6) (A1 42 (n - 1)) 3 h R I1 A1 N hc P1 t1.1.1 (by omega) (by decide) (by decide)) (fun v h1 hq => ?_)
      obtain ⟨⟨b, rfl, hb⟩, rfl⟩ := hq
      have o1 := (X.2.2.1 (A1 42 (n - 1)) t1.1.1 t1.1.2).1
      show xx_go (xt_P z) (d + 8) 122 49 [some (.ref h.length), some (.int (iI o)), some (.int (iI (n - 1))), some (.int (iI (A1 42 (n - 1)))), some (.int (iI (A1 44 (n - 1)))), y5, y6] [.int (iI b)] (mh h R I1 A1 N) _
      refine mi_ne0 (t := 129) rfl rfl (by omega) (by omega) (fun e2 => ?_) (fun e2 => ?_)
      · have e3 : A 1 (A1 42 (n - 1)) = 3 := by omega
        have q3 := TZ_three hP n0 t1.1.1 t1.1.2 (by omega) (by omega) (by rw [e3]; exact a3) t1.2
        have g1 := X.2.2.1 (A 2 (A1 42 (n - 1))) (by omega) (by omega)
        have g2 := X.2.2.1 (A 2 (A 2 (A1 42 (n - 1)))) (by omega) (by omega)
        have g3 := X.2.2.1 (A 2 (A 2 (A 2 (A1 42 (n - 1))))) (by omega) (by omega)
        have g0 := X.2.2.1 (A1 42 (n - 1)) t1.1.1 t1.1.2
        have r1 : A1 1 (rt A1 1 (A1 42 (n - 1))) = A 1 (A 2 (A1 42 (n - 1))) := by
          show A1 1 (A1 2 (A1 42 (n - 1))) = _
          rw [g0.2.1, g1.1]
        have r2 : A1 1 (rt A1 2 (A1 42 (n - 1))) = A 1 (A 2 (A 2 (A1 42 (n - 1)))) := by
          show A1 1 (A1 2 (A1 2 (A1 42 (n - 1)))) = _
          rw [g0.2.1, g1.2.1, g2.1]
        have r3 : A1 1 (rt A1 3 (A1 42 (n - 1))) = A 1 (A 2 (A 2 (A 2 (A1 42 (n - 1))))) := by
          show A1 1 (A1 2 (A1 2 (A1 2 (A1 42 (n - 1))))) = _
          rw [g0.2.1, g1.2.1, g2.2.1, g3.1]
        have L4 : isL A1 4 (A1 42 (n - 1)) := by
          show 0 ≤ A1 1 (A1 42 (n - 1)) ∧ 0 ≤ A1 1 (A1 2 (A1 42 (n - 1))) ∧ 0 ≤ A1 1 (A1 2 (A1 2 (A1 42 (n - 1)))) ∧ 0 ≤ A1 1 (A1 2 (A1 2 (A1 2 (A1 42 (n - 1))))) ∧ A1 2 (A1 2 (A1 2 (A1 2 (A1 42 (n - 1))))) = 0
          rw [g0.2.1, g1.2.1, g2.2.1, g3.2.1, g0.1, g1.1, g2.1, g3.1]
          exact ⟨by omega, q3.1.1.2.2, q3.1.2.1.2.2, q3.1.2.2.2.2, q3.2.1⟩
        have v1 := hP.2 (A 2 (A1 42 (n - 1))) (by omega) (by omega)
        have v2 := hP.2 (A 2 (A 2 (A1 42 (n - 1)))) (by omega) (by omega)
        have v3 := hP.2 (A 2 (A 2 (A 2 (A1 42 (n - 1))))) (by omega) (by omega)
        refine go_a (pc' := 130) (ls' := [some (.ref h.length), some (.int (iI o)), some (.int (iI (n - 1))), some (.int (iI (A1 42 (n - 1)))), some (.int (iI (A1 44 (n - 1)))), y5, y6]) (st' := [.ref h.length]) rfl rfl ?_
        refine go_a (pc' := 131) (ls' := [some (.ref h.length), some (.int (iI o)), some (.int (iI (n - 1))), some (.int (iI (A1 42 (n - 1)))), some (.int (iI (A1 44 (n - 1)))), y5, y6]) (st' := [.int (iI (A1 42 (n - 1))), .ref h.length]) rfl rfl ?_
        refine go_a (pc' := 132) (ls' := [some (.ref h.length), some (.int (iI o)), some (.int (iI (n - 1))), some (.int (iI (A1 42 (n - 1)))), some (.int (iI (A1 44 (n - 1)))), y5, y6]) (st' := [.int (iI 1), .int (iI (A1 42 (n - 1))), .ref h.length]) rfl rfl ?_
        refine go_v (m := 124) (as := [.ref h.length, .int (iI (A1 42 (n - 1))), .int (iI 1)]) (r := []) rfl rfl rfl mh_o rfl rfl (mm_term z (d + 6) 1 4 (A1 42 (n - 1)) h R I1 A1 N hc P1 (by decide) t1.1.1 (by omega) L4 (by decide)) (fun v h1 hq => ?_)
        obtain ⟨rfl, rfl⟩ := hq
        rw [r1]
        show xx_go (xt_P z) (d + 8) 122 135 [some (.ref h.length), some (.int (iI o)), some (.int (iI (n - 1))), some (.int (iI (A1 42 (n - 1)))), some (.int (iI (A1 44 (n - 1)))), y5, y6] [.int (iI (A 1 (A 2 (A1 42 (n - 1)))))] (mh h R I1 A1 N) _
        refine go_a (pc' := 137) (ls' := [some (.ref h.length), some (.int (iI o)), some (.int (iI (n - 1))), some (.int (iI (A1 42 (n - 1)))), some (.int (iI (A1 44 (n - 1)))), some (.int (iI (A 1 (A 2 (A1 42 (n - 1)))))), y6]) (st' := []) rfl rfl ?_
        refine go_a (pc' := 138) (ls' := [some (.ref h.length), some (.int (iI o)), some (.int (iI (n - 1))), some (.int (iI (A1 42 (n - 1)))), some (.int (iI (A1 44 (n - 1)))), some (.int (iI (A 1 (A 2 (A1 42 (n - 1)))))), y6]) (st' := [.int (iI 0)]) rfl rfl ?_
        refine go_a (pc' := 140) (ls' := [some (.ref h.length), some (.int (iI o)), some (.int (iI (n - 1))), some (.int (iI (A1 42 (n - 1)))), some (.int (iI (A1 44 (n - 1)))), some (.int (iI (A 1 (A 2 (A1 42 (n - 1)))))), some (.int (iI 0))]) (st' := []) rfl rfl ?_
        refine mm_paths_copy2 z (d + 8) o (n - 1) (A1 42 (n - 1)) (A1 44 (n - 1)) (A 1 (A 2 (A1 42 (n - 1)))) h R I1 A1 N hc _ (by omega) (by omega) m0 (by omega) (fun A2 y6 C => ?_) (A1 44 (n - 1)).toNat 0 A1 (by omega) (Int.le_refl _) m0 ⟨fun _ _ => rfl, fun k k0 k1 => absurd k1 (by omega), fun _ _ => rfl⟩
        show xx_go (xt_P z) (d + 8) 122 179 [some (.ref h.length), some (.int (iI o)), some (.int (iI (n - 1))), some (.int (iI (A1 42 (n - 1)))), some (.int (iI (A1 44 (n - 1)))), some (.int (iI (A 1 (A 2 (A1 42 (n - 1)))))), y6] [] (mh h R I1 A2 N) _
        have S2 : MST I1 A2 N := MST_congr X.1 rfl rfl (C.1 1 (by decide)) (C.1 2 (by decide)) (C.1 3 (by decide)) (C.1 4 (by decide)) (C.1 5 (by decide)) (C.1 7 (by decide)) (C.1 8 (by decide)) (C.1 9 (by decide))
        have P2 := MST_PW S2
        have Z2 : SZI ar I1 A2 := SZI_124 Z1 (C.1 1 (by decide)) (C.1 2 (by decide)) (C.1 4 (by decide)) rfl
        have N2 : NM I1 A2 := ⟨by have := hN.1; omega, fun k k0 k1 => by rw [C.1 1 (by decide), (X.2.2.1 k k0 (by have := hN.1; omega)).1]; exact hN.2 k k0 k1⟩
        have tz2 := TZ_124 (A := A1) (A1 := A2) (ar := ar) (C.1 1 (by decide)) (C.1 2 (by decide)) (C.1 4 (by decide))
        have tt : TZ A2 ar (A 1 (A 2 (A1 42 (n - 1)))) = TZ A ar (A 1 (A 2 (A1 42 (n - 1)))) := by
          rw [tz2.1]
          exact (TZ_BX hP X (by omega) (by omega)).1 q3.2.2.1.1
        have i56 : I1 56 = I 56 := X.2.2.2.1 56 (by decide) (by unfold FP; omega)
        refine go_a (pc' := 180) (ls' := [some (.ref h.length), some (.int (iI o)), some (.int (iI (n - 1))), some (.int (iI (A1 42 (n - 1)))), some (.int (iI (A1 44 (n - 1)))), some (.int (iI (A 1 (A 2 (A1 42 (n - 1)))))), y6]) (st' := [.ref h.length]) rfl rfl ?_
        refine go_get rfl mh_o rfl rfl ?_
        refine go_a (pc' := 185) (ls' := [some (.ref h.length), some (.int (iI o)), some (.int (iI (n - 1))), some (.int (iI (A1 42 (n - 1)))), some (.int (iI (A1 44 (n - 1)))), some (.int (iI (A 1 (A 2 (A1 42 (n - 1)))))), y6]) (st' := [.int (iI 64), .ref (h.length + 43)]) rfl rfl ?_
        refine go_a (pc' := 186) (ls' := [some (.ref h.length), some (.int (iI o)), some (.int (iI (n - 1))), some (.int (iI (A1 42 (n - 1)))), some (.int (iI (A1 44 (n - 1)))), some (.int (iI (A 1 (A 2 (A1 42 (n - 1)))))), y6]) (st' := [.int (iI (n - 1)), .int (iI 64), .ref (h.length + 43)]) rfl rfl ?_
        refine mi_mul rfl ?_
        refine go_a (pc' := 189) (ls' := [some (.ref h.length), some (.int (iI o)), some (.int (iI (n - 1))), some (.int (iI (A1 42 (n - 1)))), some (.int (iI (A1 44 (n - 1)))), some (.int (iI (A 1 (A 2 (A1 42 (n - 1)))))), y6]) (st' := [.int (iI (A1 44 (n - 1))), .int (iI (64 * (n - 1))), .ref (h.length + 43)]) rfl rfl ?_
        refine mi_add rfl ?_
        refine go_a (pc' := 191) (ls' := [some (.ref h.length), some (.int (iI o)), some (.int (iI (n - 1))), some (.int (iI (A1 42 (n - 1)))), some (.int (iI (A1 44 (n - 1)))), some (.int (iI (A 1 (A 2 (A1 42 (n - 1)))))), y6]) (st' := [.ref h.length, .int (iI ((64 * (n - 1)) + (A1 44 (n - 1)))), .ref (h.length + 43)]) rfl rfl ?_
        refine go_a (pc' := 193) (ls' := [some (.ref h.length), some (.int (iI o)), some (.int (iI (n - 1))), some (.int (iI (A1 42 (n - 1)))), some (.int (iI (A1 44 (n - 1)))), some (.int (iI (A 1 (A 2 (A1 42 (n - 1)))))), y6]) (st' := [.int (iI (A 1 (A 2 (A1 42 (n - 1))))), .ref h.length, .int (iI ((64 * (n - 1)) + (A1 44 (n - 1)))), .ref (h.length + 43)]) rfl rfl ?_
        refine go_v (m := 125) (as := [.ref h.length, .int (iI (A 1 (A 2 (A1 42 (n - 1)))))]) (r := [.int (iI ((64 * (n - 1)) + (A1 44 (n - 1)))), .ref (h.length + 43)]) rfl rfl rfl mh_o rfl rfl (mm_notOf z (d + 1) ar (A 1 (A 2 (A1 42 (n - 1)))) h R I1 A2 N hc S2 N2 Z2 (by rw [tt]; exact q3.2.2.1.1) (by omega) (by omega) a15 (by omega) (by omega) (by omega) u1.1 u1.2) (fun v h1 hq => ?_)
        obtain ⟨t, I3, A3, rfl, rfl, D, ds⟩ := hq
        obtain ⟨X3, Z3, ⟨j54, j56⟩, ⟨d4, d5⟩, d7, ⟨w1, w2, -⟩, -⟩ := D
        rw [tt] at ds
        show xx_go (xt_P z) (d + 8) 122 196 [some (.ref h.length), some (.int (iI o)), some (.int (iI (n - 1))), some (.int (iI (A1 42 (n - 1)))), some (.int (iI (A1 44 (n - 1)))), some (.int (iI (A 1 (A 2 (A1 42 (n - 1)))))), y6] [.int (iI t), .int (iI ((64 * (n - 1)) + (A1 44 (n - 1)))), .ref (h.length + 43)] (mh h R I3 A3 N) _
        have P3 := MST_PW X3.1
        have y7 := X3.2.1
        have B3 := BX_FP X3 j54 j56
        have B2 : BX FP GP I1 A1 N I1 A2 N := ⟨S2, Int.le_refl _, fun k _ _ => ⟨by rw [C.1 1 (by decide)], by rw [C.1 2 (by decide)], rfl, fun e => by rw [C.1 4 (by decide)]; exact e⟩, fun _ _ _ => rfl, fun a _ _ _ _ _ _ q7 => C.1 a (fun e => q7 (by unfold GP; omega))⟩
        have B13 := BX_tr B2 B3
        have B03 := BX_tr X B13
        have i71 : I3 71 = I1 71 := X3.2.2.2.1 71 (by decide) (by unfold FW; omega)
        have a39 : A3 39 = A2 39 := X3.2.2.2.2 39 (by decide) (by decide) (by decide) (by decide) (by decide) (by decide) (by unfold GB; omega)
        have a40 : A3 40 = A2 40 := X3.2.2.2.2 40 (by decide) (by decide) (by decide) (by decide) (by decide) (by decide) (by unfold GB; omega)
        have a41 : A3 41 = A2 41 := X3.2.2.2.2 41 (by decide) (by decide) (by decide) (by decide) (by decide) (by decide) (by unfold GB; omega)
        have a42 : A3 42 = A2 42 := X3.2.2.2.2 42 (by decide) (by decide) (by decide) (by decide) (by decide) (by decide) (by unfold GB; omega)
        have a43 : A3 43 = A2 43 := X3.2.2.2.2 43 (by decide) (by decide) (by decide) (by decide) (by decide) (by decide) (by unfold GB; omega)
        have a44 : A3 44 = A2 44 := X3.2.2.2.2 44 (by decide) (by decide) (by decide) (by decide) (by decide) (by decide) (by unfold GB; omega)
        have h0 := (B13.2.2.1 (A1 42 (n - 1)) t1.1.1 (by omega))
        have k0 : A3 1 (A1 42 (n - 1)) = A1 1 (A1 42 (n - 1)) := h0.1
        have G1 := B13.2.2.1 (A1 2 (A1 42 (n - 1))) (by omega) (by rw [g0.2.1]; omega)
        have G2 := B13.2.2.1 (A1 2 (A1 2 (A1 42 (n - 1)))) (by rw [g0.2.1, g1.2.1]; omega) (by rw [g0.2.1, g1.2.1]; omega)
        have G3 := B13.2.2.1 (A1 2 (A1 2 (A1 2 (A1 42 (n - 1))))) (by rw [g0.2.1, g1.2.1, g2.2.1]; omega) (by rw [g0.2.1, g1.2.1, g2.2.1]; omega)
        have L43 : isL A3 4 (A1 42 (n - 1)) := isL_ext P1 (fun k a b => ⟨(B13.2.2.1 k a b).1, (B13.2.2.1 k a b).2.1⟩) 4 _ t1.1.1 (by omega) L4
        have R2 : A3 1 (rt A3 2 (A1 42 (n - 1))) = (A 1 (A 2 (A 2 (A1 42 (n - 1))))) := by
          show A3 1 (A3 2 (A3 2 (A1 42 (n - 1)))) = _
          rw [h0.2.1, G1.2.1, G2.1]
          exact r2
        have R3 : A3 1 (rt A3 3 (A1 42 (n - 1))) = (A 1 (A 2 (A 2 (A 2 (A1 42 (n - 1)))))) := by
          show A3 1 (A3 2 (A3 2 (A3 2 (A1 42 (n - 1))))) = _
          rw [h0.2.1, G1.2.1, G2.2.1, G3.1]
          exact r3
        refine mi_ist rfl mh_a43 (show 12 ≤ _ by omega) (by omega) (by omega) (by decide) ?_
        rw [mh_w43 (by omega)]
        refine go_a (pc' := 198) (ls' := [some (.ref h.length), some (.int (iI o)), some (.int (iI (n - 1))), some (.int (iI (A1 42 (n - 1)))), some (.int (iI (A1 44 (n - 1)))), some (.int (iI (A 1 (A 2 (A1 42 (n - 1)))))), y6]) (st' := [.ref h.length]) rfl rfl ?_
        refine go_get rfl mh_o rfl rfl ?_
        refine go_a (pc' := 203) (ls' := [some (.ref h.length), some (.int (iI o)), some (.int (iI (n - 1))), some (.int (iI (A1 42 (n - 1)))), some (.int (iI (A1 44 (n - 1)))), some (.int (iI (A 1 (A 2 (A1 42 (n - 1)))))), y6]) (st' := [.int (iI 64), .ref (h.length + 43)]) rfl rfl ?_
        refine go_a (pc' := 204) (ls' := [some (.ref h.length), some (.int (iI o)), some (.int (iI (n - 1))), some (.int (iI (A1 42 (n - 1)))), some (.int (iI (A1 44 (n - 1)))), some (.int (iI (A 1 (A 2 (A1 42 (n - 1)))))), y6]) (st' := [.int (iI (n - 1)), .int (iI 64), .ref (h.length + 43)]) rfl rfl ?_
        refine go_a (pc' := 205) (ls' := [some (.ref h.length), some (.int (iI o)), some (.int (iI (n - 1))), some (.int (iI (A1 42 (n - 1)))), some (.int (iI (A1 44 (n - 1)))), some (.int (iI (A 1 (A 2 (A1 42 (n - 1)))))), y6]) (st' := [.int (iI 1), .int (iI (n - 1)), .int (iI 64), .ref (h.length + 43)]) rfl rfl ?_
        refine mi_add rfl ?_
        refine mi_mul rfl ?_
        refine go_a (pc' := 209) (ls' := [some (.ref h.length), some (.int (iI o)), some (.int (iI (n - 1))), some (.int (iI (A1 42 (n - 1)))), some (.int (iI (A1 44 (n - 1)))), some (.int (iI (A 1 (A 2 (A1 42 (n - 1)))))), y6]) (st' := [.int (iI (A1 44 (n - 1))), .int (iI (64 * ((n - 1) + 1))), .ref (h.length + 43)]) rfl rfl ?_
        refine mi_add rfl ?_
        refine go_a (pc' := 212) (ls' := [some (.ref h.length), some (.int (iI o)), some (.int (iI (n - 1))), some (.int (iI (A1 42 (n - 1)))), some (.int (iI (A1 44 (n - 1)))), some (.int (iI (A 1 (A 2 (A1 42 (n - 1)))))), y6]) (st' := [.int (iI (A 1 (A 2 (A1 42 (n - 1))))), .int (iI ((64 * ((n - 1) + 1)) + (A1 44 (n - 1)))), .ref (h.length + 43)]) rfl rfl ?_
        refine mi_ist rfl mh_a43 (show 12 ≤ _ by omega) (by omega) (by omega) (by decide) ?_
        rw [mh_w43 (by omega)]
        refine go_a (pc' := 214) (ls' := [some (.ref h.length), some (.int (iI o)), some (.int (iI (n - 1))), some (.int (iI (A1 42 (n - 1)))), some (.int (iI (A1 44 (n - 1)))), some (.int (iI (A 1 (A 2 (A1 42 (n - 1)))))), y6]) (st' := [.ref h.length]) rfl rfl ?_
        refine go_get rfl mh_o rfl rfl ?_
        refine go_a (pc' := 218) (ls' := [some (.ref h.length), some (.int (iI o)), some (.int (iI (n - 1))), some (.int (iI (A1 42 (n - 1)))), some (.int (iI (A1 44 (n - 1)))), some (.int (iI (A 1 (A 2 (A1 42 (n - 1)))))), y6]) (st' := [.int (iI (n - 1)), .ref (h.length + 44)]) rfl rfl ?_
        refine go_a (pc' := 220) (ls' := [some (.ref h.length), some (.int (iI o)), some (.int (iI (n - 1))), some (.int (iI (A1 42 (n - 1)))), some (.int (iI (A1 44 (n - 1)))), some (.int (iI (A 1 (A 2 (A1 42 (n - 1)))))), y6]) (st' := [.int (iI (A1 44 (n - 1))), .int (iI (n - 1)), .ref (h.length + 44)]) rfl rfl ?_
        refine go_a (pc' := 221) (ls' := [some (.ref h.length), some (.int (iI o)), some (.int (iI (n - 1))), some (.int (iI (A1 42 (n - 1)))), some (.int (iI (A1 44 (n - 1)))), some (.int (iI (A 1 (A 2 (A1 42 (n - 1)))))), y6]) (st' := [.int (iI 1), .int (iI (A1 44 (n - 1))), .int (iI (n - 1)), .ref (h.length + 44)]) rfl rfl ?_
        refine mi_add rfl ?_
        refine mi_ist rfl mh_a44 (show 12 ≤ _ by omega) (by omega) (by omega) (by decide) ?_
        rw [mh_w44 (by omega)]
        refine go_a (pc' := 224) (ls' := [some (.ref h.length), some (.int (iI o)), some (.int (iI (n - 1))), some (.int (iI (A1 42 (n - 1)))), some (.int (iI (A1 44 (n - 1)))), some (.int (iI (A 1 (A 2 (A1 42 (n - 1)))))), y6]) (st' := [.ref h.length]) rfl rfl ?_
        refine go_get rfl mh_o rfl rfl ?_
        refine go_a (pc' := 228) (ls' := [some (.ref h.length), some (.int (iI o)), some (.int (iI (n - 1))), some (.int (iI (A1 42 (n - 1)))), some (.int (iI (A1 44 (n - 1)))), some (.int (iI (A 1 (A 2 (A1 42 (n - 1)))))), y6]) (st' := [.int (iI (n - 1)), .ref (h.length + 44)]) rfl rfl ?_
        refine go_a (pc' := 229) (ls' := [some (.ref h.length), some (.int (iI o)), some (.int (iI (n - 1))), some (.int (iI (A1 42 (n - 1)))), some (.int (iI (A1 44 (n - 1)))), some (.int (iI (A 1 (A 2 (A1 42 (n - 1)))))), y6]) (st' := [.int (iI 1), .int (iI (n - 1)), .ref (h.length + 44)]) rfl rfl ?_
        refine mi_add rfl ?_
        refine go_a (pc' := 232) (ls' := [some (.ref h.length), some (.int (iI o)), some (.int (iI (n - 1))), some (.int (iI (A1 42 (n - 1)))), some (.int (iI (A1 44 (n - 1)))), some (.int (iI (A 1 (A 2 (A1 42 (n - 1)))))), y6]) (st' := [.int (iI (A1 44 (n - 1))), .int (iI ((n - 1) + 1)), .ref (h.length + 44)]) rfl rfl ?_
        refine go_a (pc' := 233) (ls' := [some (.ref h.length), some (.int (iI o)), some (.int (iI (n - 1))), some (.int (iI (A1 42 (n - 1)))), some (.int (iI (A1 44 (n - 1)))), some (.int (iI (A 1 (A 2 (A1 42 (n - 1)))))), y6]) (st' := [.int (iI 1), .int (iI (A1 44 (n - 1))), .int (iI ((n - 1) + 1)), .ref (h.length + 44)]) rfl rfl ?_
        refine mi_add rfl ?_
        refine mi_ist rfl mh_a44 (show 12 ≤ _ by omega) (by omega) (by omega) (by decide) ?_
        rw [mh_w44 (by omega)]
        refine go_a (pc' := 236) (ls' := [some (.ref h.length), some (.int (iI o)), some (.int (iI (n - 1))), some (.int (iI (A1 42 (n - 1)))), some (.int (iI (A1 44 (n - 1)))), some (.int (iI (A 1 (A 2 (A1 42 (n - 1)))))), y6]) (st' := [.ref h.length]) rfl rfl ?_
        refine go_get rfl mh_o rfl rfl ?_
        refine go_a (pc' := 240) (ls' := [some (.ref h.length), some (.int (iI o)), some (.int (iI (n - 1))), some (.int (iI (A1 42 (n - 1)))), some (.int (iI (A1 44 (n - 1)))), some (.int (iI (A 1 (A 2 (A1 42 (n - 1)))))), y6]) (st' := [.int (iI (n - 1)), .ref (h.length + 42)]) rfl rfl ?_
        refine go_a (pc' := 241) (ls' := [some (.ref h.length), some (.int (iI o)), some (.int (iI (n - 1))), some (.int (iI (A1 42 (n - 1)))), some (.int (iI (A1 44 (n - 1)))), some (.int (iI (A 1 (A 2 (A1 42 (n - 1)))))), y6]) (st' := [.ref h.length, .int (iI (n - 1)), .ref (h.length + 42)]) rfl rfl ?_
        refine go_a (pc' := 242) (ls' := [some (.ref h.length), some (.int (iI o)), some (.int (iI (n - 1))), some (.int (iI (A1 42 (n - 1)))), some (.int (iI (A1 44 (n - 1)))), some (.int (iI (A 1 (A 2 (A1 42 (n - 1)))))), y6]) (st' := [.int (iI (A1 42 (n - 1))), .ref h.length, .int (iI (n - 1)), .ref (h.length + 42)]) rfl rfl ?_
        refine go_a (pc' := 243) (ls' := [some (.ref h.length), some (.int (iI o)), some (.int (iI (n - 1))), some (.int (iI (A1 42 (n - 1)))), some (.int (iI (A1 44 (n - 1)))), some (.int (iI (A 1 (A 2 (A1 42 (n - 1)))))), y6]) (st' := [.int (iI 3), .int (iI (A1 42 (n - 1))), .ref h.length, .int (iI (n - 1)), .ref (h.length + 42)]) rfl rfl ?_
        have PX : PW I3 (sa (sa (sa (sa A3 43 ((64 * (n - 1)) + (A1 44 (n - 1))) t) 43 ((64 * ((n - 1) + 1)) + (A1 44 (n - 1))) (A 1 (A 2 (A1 42 (n - 1))))) 44 (n - 1) ((A1 44 (n - 1)) + 1)) 44 ((n - 1) + 1) ((A1 44 (n - 1)) + 1)) := P3
        have LX : isL (sa (sa (sa (sa A3 43 ((64 * (n - 1)) + (A1 44 (n - 1))) t) 43 ((64 * ((n - 1) + 1)) + (A1 44 (n - 1))) (A 1 (A 2 (A1 42 (n - 1))))) 44 (n - 1) ((A1 44 (n - 1)) + 1)) 44 ((n - 1) + 1) ((A1 44 (n - 1)) + 1)) 4 (A1 42 (n - 1)) := L43
        refine go_v (m := 124) (as := [.ref h.length, .int (iI (A1 42 (n - 1))), .int (iI 3)]) (r := [.int (iI (n - 1)), .ref (h.length + 42)]) rfl rfl rfl mh_o rfl rfl (mm_term z (d + 6) 3 4 (A1 42 (n - 1)) h R I3 (sa (sa (sa (sa A3 43 ((64 * (n - 1)) + (A1 44 (n - 1))) t) 43 ((64 * ((n - 1) + 1)) + (A1 44 (n - 1))) (A 1 (A 2 (A1 42 (n - 1))))) 44 (n - 1) ((A1 44 (n - 1)) + 1)) 44 ((n - 1) + 1) ((A1 44 (n - 1)) + 1)) N hc PX (by decide) t1.1.1 (by omega) LX (by decide)) (fun v h1 hq => ?_)
        obtain ⟨rfl, rfl⟩ := hq
        rw [show (sa (sa (sa (sa A3 43 ((64 * (n - 1)) + (A1 44 (n - 1))) t) 43 ((64 * ((n - 1) + 1)) + (A1 44 (n - 1))) (A 1 (A 2 (A1 42 (n - 1))))) 44 (n - 1) ((A1 44 (n - 1)) + 1)) 44 ((n - 1) + 1) ((A1 44 (n - 1)) + 1)) 1 (rt (sa (sa (sa (sa A3 43 ((64 * (n - 1)) + (A1 44 (n - 1))) t) 43 ((64 * ((n - 1) + 1)) + (A1 44 (n - 1))) (A 1 (A 2 (A1 42 (n - 1))))) 44 (n - 1) ((A1 44 (n - 1)) + 1)) 44 ((n - 1) + 1) ((A1 44 (n - 1)) + 1)) 3 (A1 42 (n - 1))) = (A 1 (A 2 (A 2 (A 2 (A1 42 (n - 1)))))) from R3]
        show xx_go (xt_P z) (d + 8) 122 246 [some (.ref h.length), some (.int (iI o)), some (.int (iI (n - 1))), some (.int (iI (A1 42 (n - 1)))), some (.int (iI (A1 44 (n - 1)))), some (.int (iI (A 1 (A 2 (A1 42 (n - 1)))))), y6] [.int (iI (A 1 (A 2 (A 2 (A 2 (A1 42 (n - 1))))))), .int (iI (n - 1)), .ref (h.length + 42)] (mh h R I3 (sa (sa (sa (sa A3 43 ((64 * (n - 1)) + (A1 44 (n - 1))) t) 43 ((64 * ((n - 1) + 1)) + (A1 44 (n - 1))) (A 1 (A 2 (A1 42 (n - 1))))) 44 (n - 1) ((A1 44 (n - 1)) + 1)) 44 ((n - 1) + 1) ((A1 44 (n - 1)) + 1)) N) _
        refine mi_ist rfl mh_a42 (show 12 ≤ _ by omega) (by omega) (by omega) (by decide) ?_
        rw [mh_w42 (by omega)]
        refine go_a (pc' := 248) (ls' := [some (.ref h.length), some (.int (iI o)), some (.int (iI (n - 1))), some (.int (iI (A1 42 (n - 1)))), some (.int (iI (A1 44 (n - 1)))), some (.int (iI (A 1 (A 2 (A1 42 (n - 1)))))), y6]) (st' := [.ref h.length]) rfl rfl ?_
        refine go_get rfl mh_o rfl rfl ?_
        refine go_a (pc' := 252) (ls' := [some (.ref h.length), some (.int (iI o)), some (.int (iI (n - 1))), some (.int (iI (A1 42 (n - 1)))), some (.int (iI (A1 44 (n - 1)))), some (.int (iI (A 1 (A 2 (A1 42 (n - 1)))))), y6]) (st' := [.int (iI (n - 1)), .ref (h.length + 42)]) rfl rfl ?_
        refine go_a (pc' := 253) (ls' := [some (.ref h.length), some (.int (iI o)), some (.int (iI (n - 1))), some (.int (iI (A1 42 (n - 1)))), some (.int (iI (A1 44 (n - 1)))), some (.int (iI (A 1 (A 2 (A1 42 (n - 1)))))), y6]) (st' := [.int (iI 1), .int (iI (n - 1)), .ref (h.length + 42)]) rfl rfl ?_
        refine mi_add rfl ?_
        refine go_a (pc' := 255) (ls' := [some (.ref h.length), some (.int (iI o)), some (.int (iI (n - 1))), some (.int (iI (A1 42 (n - 1)))), some (.int (iI (A1 44 (n - 1)))), some (.int (iI (A 1 (A 2 (A1 42 (n - 1)))))), y6]) (st' := [.ref h.length, .int (iI ((n - 1) + 1)), .ref (h.length + 42)]) rfl rfl ?_
        refine go_a (pc' := 256) (ls' := [some (.ref h.length), some (.int (iI o)), some (.int (iI (n - 1))), some (.int (iI (A1 42 (n - 1)))), some (.int (iI (A1 44 (n - 1)))), some (.int (iI (A 1 (A 2 (A1 42 (n - 1)))))), y6]) (st' := [.int (iI (A1 42 (n - 1))), .ref h.length, .int (iI ((n - 1) + 1)), .ref (h.length + 42)]) rfl rfl ?_
        refine go_a (pc' := 257) (ls' := [some (.ref h.length), some (.int (iI o)), some (.int (iI (n - 1))), some (.int (iI (A1 42 (n - 1)))), some (.int (iI (A1 44 (n - 1)))), some (.int (iI (A 1 (A 2 (A1 42 (n - 1)))))), y6]) (st' := [.int (iI 2), .int (iI (A1 42 (n - 1))), .ref h.length, .int (iI ((n - 1) + 1)), .ref (h.length + 42)]) rfl rfl ?_
        have PY : PW I3 (sa (sa (sa (sa (sa A3 43 ((64 * (n - 1)) + (A1 44 (n - 1))) t) 43 ((64 * ((n - 1) + 1)) + (A1 44 (n - 1))) (A 1 (A 2 (A1 42 (n - 1))))) 44 (n - 1) ((A1 44 (n - 1)) + 1)) 44 ((n - 1) + 1) ((A1 44 (n - 1)) + 1)) 42 (n - 1) (A 1 (A 2 (A 2 (A 2 (A1 42 (n - 1))))))) := P3
        have LY : isL (sa (sa (sa (sa (sa A3 43 ((64 * (n - 1)) + (A1 44 (n - 1))) t) 43 ((64 * ((n - 1) + 1)) + (A1 44 (n - 1))) (A 1 (A 2 (A1 42 (n - 1))))) 44 (n - 1) ((A1 44 (n - 1)) + 1)) 44 ((n - 1) + 1) ((A1 44 (n - 1)) + 1)) 42 (n - 1) (A 1 (A 2 (A 2 (A 2 (A1 42 (n - 1))))))) 4 (A1 42 (n - 1)) := L43
        refine go_v (m := 124) (as := [.ref h.length, .int (iI (A1 42 (n - 1))), .int (iI 2)]) (r := [.int (iI ((n - 1) + 1)), .ref (h.length + 42)]) rfl rfl rfl mh_o rfl rfl (mm_term z (d + 6) 2 4 (A1 42 (n - 1)) h R I3 (sa (sa (sa (sa (sa A3 43 ((64 * (n - 1)) + (A1 44 (n - 1))) t) 43 ((64 * ((n - 1) + 1)) + (A1 44 (n - 1))) (A 1 (A 2 (A1 42 (n - 1))))) 44 (n - 1) ((A1 44 (n - 1)) + 1)) 44 ((n - 1) + 1) ((A1 44 (n - 1)) + 1)) 42 (n - 1) (A 1 (A 2 (A 2 (A 2 (A1 42 (n - 1))))))) N hc PY (by decide) t1.1.1 (by omega) LY (by decide)) (fun v h1 hq => ?_)
        obtain ⟨rfl, rfl⟩ := hq
        rw [show (sa (sa (sa (sa (sa A3 43 ((64 * (n - 1)) + (A1 44 (n - 1))) t) 43 ((64 * ((n - 1) + 1)) + (A1 44 (n - 1))) (A 1 (A 2 (A1 42 (n - 1))))) 44 (n - 1) ((A1 44 (n - 1)) + 1)) 44 ((n - 1) + 1) ((A1 44 (n - 1)) + 1)) 42 (n - 1) (A 1 (A 2 (A 2 (A 2 (A1 42 (n - 1))))))) 1 (rt (sa (sa (sa (sa (sa A3 43 ((64 * (n - 1)) + (A1 44 (n - 1))) t) 43 ((64 * ((n - 1) + 1)) + (A1 44 (n - 1))) (A 1 (A 2 (A1 42 (n - 1))))) 44 (n - 1) ((A1 44 (n - 1)) + 1)) 44 ((n - 1) + 1) ((A1 44 (n - 1)) + 1)) 42 (n - 1) (A 1 (A 2 (A 2 (A 2 (A1 42 (n - 1))))))) 2 (A1 42 (n - 1))) = (A 1 (A 2 (A 2 (A1 42 (n - 1))))) from R2]
        show xx_go (xt_P z) (d + 8) 122 260 [some (.ref h.length), some (.int (iI o)), some (.int (iI (n - 1))), some (.int (iI (A1 42 (n - 1)))), some (.int (iI (A1 44 (n - 1)))), some (.int (iI (A 1 (A 2 (A1 42 (n - 1)))))), y6] [.int (iI (A 1 (A 2 (A 2 (A1 42 (n - 1)))))), .int (iI ((n - 1) + 1)), .ref (h.length + 42)] (mh h R I3 (sa (sa (sa (sa (sa A3 43 ((64 * (n - 1)) + (A1 44 (n - 1))) t) 43 ((64 * ((n - 1) + 1)) + (A1 44 (n - 1))) (A 1 (A 2 (A1 42 (n - 1))))) 44 (n - 1) ((A1 44 (n - 1)) + 1)) 44 ((n - 1) + 1) ((A1 44 (n - 1)) + 1)) 42 (n - 1) (A 1 (A 2 (A 2 (A 2 (A1 42 (n - 1))))))) N) _
        refine mi_ist rfl mh_a42 (show 12 ≤ _ by omega) (by omega) (by omega) (by decide) ?_
        rw [mh_w42 (by omega)]
        refine go_a (pc' := 264) (ls' := [some (.ref h.length), some (.int (iI o)), some (.int (iI ((n - 1) + 2))), some (.int (iI (A1 42 (n - 1)))), some (.int (iI (A1 44 (n - 1)))), some (.int (iI (A 1 (A 2 (A1 42 (n - 1)))))), y6]) (st' := []) rfl (by rw [← iI_add (n - 1) 2]; rfl) ?_
        refine go_a (pc' := 21) (ls' := [some (.ref h.length), some (.int (iI o)), some (.int (iI ((n - 1) + 2))), some (.int (iI (A1 42 (n - 1)))), some (.int (iI (A1 44 (n - 1)))), some (.int (iI (A 1 (A 2 (A1 42 (n - 1)))))), y6]) (st' := []) rfl rfl ?_
        rw [show n - 1 + 2 = n + 1 by omega]
        have e43 : (sa (sa (sa (sa (sa (sa A3 43 ((64 * (n - 1)) + (A1 44 (n - 1))) t) 43 ((64 * ((n - 1) + 1)) + (A1 44 (n - 1))) (A 1 (A 2 (A1 42 (n - 1))))) 44 (n - 1) ((A1 44 (n - 1)) + 1)) 44 ((n - 1) + 1) ((A1 44 (n - 1)) + 1)) 42 (n - 1) (A 1 (A 2 (A 2 (A 2 (A1 42 (n - 1))))))) 42 ((n - 1) + 1) (A 1 (A 2 (A 2 (A1 42 (n - 1)))))) 43 = sf (sf (A2 43) (64 * (n - 1) + A1 44 (n - 1)) t) (64 * (n - 1 + 1) + A1 44 (n - 1)) (A 1 (A 2 (A1 42 (n - 1)))) := by
          show sf (sf (A3 43) _ _) _ _ = _
          rw [a43]
        have e44 : (sa (sa (sa (sa (sa (sa A3 43 ((64 * (n - 1)) + (A1 44 (n - 1))) t) 43 ((64 * ((n - 1) + 1)) + (A1 44 (n - 1))) (A 1 (A 2 (A1 42 (n - 1))))) 44 (n - 1) ((A1 44 (n - 1)) + 1)) 44 ((n - 1) + 1) ((A1 44 (n - 1)) + 1)) 42 (n - 1) (A 1 (A 2 (A 2 (A 2 (A1 42 (n - 1))))))) 42 ((n - 1) + 1) (A 1 (A 2 (A 2 (A1 42 (n - 1)))))) 44 = sf (sf (A1 44) (n - 1) (A1 44 (n - 1) + 1)) (n - 1 + 1) (A1 44 (n - 1) + 1) := by
          show sf (sf (A3 44) _ _) _ _ = _
          rw [a44, C.1 44 (by decide)]
        have e42 : (sa (sa (sa (sa (sa (sa A3 43 ((64 * (n - 1)) + (A1 44 (n - 1))) t) 43 ((64 * ((n - 1) + 1)) + (A1 44 (n - 1))) (A 1 (A 2 (A1 42 (n - 1))))) 44 (n - 1) ((A1 44 (n - 1)) + 1)) 44 ((n - 1) + 1) ((A1 44 (n - 1)) + 1)) 42 (n - 1) (A 1 (A 2 (A 2 (A 2 (A1 42 (n - 1))))))) 42 ((n - 1) + 1) (A 1 (A 2 (A 2 (A1 42 (n - 1)))))) 42 = sf (sf (A1 42) (n - 1) (A 1 (A 2 (A 2 (A 2 (A1 42 (n - 1))))))) (n - 1 + 1) (A 1 (A 2 (A 2 (A1 42 (n - 1))))) := by
          show sf (sf (A3 42) _ _) _ _ = _
          rw [a42, C.1 42 (by decide)]
        have S4 : MST I3 (sa (sa (sa (sa (sa (sa A3 43 ((64 * (n - 1)) + (A1 44 (n - 1))) t) 43 ((64 * ((n - 1) + 1)) + (A1 44 (n - 1))) (A 1 (A 2 (A1 42 (n - 1))))) 44 (n - 1) ((A1 44 (n - 1)) + 1)) 44 ((n - 1) + 1) ((A1 44 (n - 1)) + 1)) 42 (n - 1) (A 1 (A 2 (A 2 (A 2 (A1 42 (n - 1))))))) 42 ((n - 1) + 1) (A 1 (A 2 (A 2 (A1 42 (n - 1)))))) N := X3.1
        have B34 : BX FP GP I3 A3 N I3 (sa (sa (sa (sa (sa (sa A3 43 ((64 * (n - 1)) + (A1 44 (n - 1))) t) 43 ((64 * ((n - 1) + 1)) + (A1 44 (n - 1))) (A 1 (A 2 (A1 42 (n - 1))))) 44 (n - 1) ((A1 44 (n - 1)) + 1)) 44 ((n - 1) + 1) ((A1 44 (n - 1)) + 1)) 42 (n - 1) (A 1 (A 2 (A 2 (A 2 (A1 42 (n - 1))))))) 42 ((n - 1) + 1) (A 1 (A 2 (A 2 (A1 42 (n - 1)))))) N := ⟨S4, Int.le_refl _, fun k _ _ => ⟨rfl, rfl, rfl, id⟩, fun _ _ _ => rfl, fun a _ _ _ _ _ _ q7 => by
          have q42 : a ≠ 42 := fun e => q7 (by unfold GP; omega)
          have q43 : a ≠ 43 := fun e => q7 (by unfold GP; omega)
          have q44 : a ≠ 44 := fun e => q7 (by unfold GP; omega)
          exact (((((sa_ne q42).trans (sa_ne q42)).trans (sa_ne q44)).trans (sa_ne q44)).trans (sa_ne q43)).trans (sa_ne q43)⟩
        have B14 := BX_tr B13 B34
        have tz4 := TZ_124 (A := A3) (A1 := (sa (sa (sa (sa (sa (sa A3 43 ((64 * (n - 1)) + (A1 44 (n - 1))) t) 43 ((64 * ((n - 1) + 1)) + (A1 44 (n - 1))) (A 1 (A 2 (A1 42 (n - 1))))) 44 (n - 1) ((A1 44 (n - 1)) + 1)) 44 ((n - 1) + 1) ((A1 44 (n - 1)) + 1)) 42 (n - 1) (A 1 (A 2 (A 2 (A 2 (A1 42 (n - 1))))))) 42 ((n - 1) + 1) (A 1 (A 2 (A 2 (A1 42 (n - 1))))))) (ar := ar) rfl rfl rfl
        have Z4 : SZI ar I3 (sa (sa (sa (sa (sa (sa A3 43 ((64 * (n - 1)) + (A1 44 (n - 1))) t) 43 ((64 * ((n - 1) + 1)) + (A1 44 (n - 1))) (A 1 (A 2 (A1 42 (n - 1))))) 44 (n - 1) ((A1 44 (n - 1)) + 1)) 44 ((n - 1) + 1) ((A1 44 (n - 1)) + 1)) 42 (n - 1) (A 1 (A 2 (A 2 (A 2 (A1 42 (n - 1))))))) 42 ((n - 1) + 1) (A 1 (A 2 (A 2 (A1 42 (n - 1)))))) := SZI_124 Z3 rfl rfl rfl rfl
        have tpn := RLP_BX tp P1 B14 (f2 := fun k => A1 43 (64 * (n - 1) + k)) (fun k _ _ => rfl)
        have tT : TZ (sa (sa (sa (sa (sa (sa A3 43 ((64 * (n - 1)) + (A1 44 (n - 1))) t) 43 ((64 * ((n - 1) + 1)) + (A1 44 (n - 1))) (A 1 (A 2 (A1 42 (n - 1))))) 44 (n - 1) ((A1 44 (n - 1)) + 1)) 44 ((n - 1) + 1) ((A1 44 (n - 1)) + 1)) 42 (n - 1) (A 1 (A 2 (A 2 (A 2 (A1 42 (n - 1))))))) 42 ((n - 1) + 1) (A 1 (A 2 (A 2 (A1 42 (n - 1)))))) ar (A 1 (A 2 (A1 42 (n - 1)))) = TZ A ar (A 1 (A 2 (A1 42 (n - 1)))) := (TZ_BX hP (BX_tr X B14) (by omega) (by omega)).1 q3.2.2.1.1
        have p4 : PTI ar B o (n + 1) I A N I3 (sa (sa (sa (sa (sa (sa A3 43 ((64 * (n - 1)) + (A1 44 (n - 1))) t) 43 ((64 * ((n - 1) + 1)) + (A1 44 (n - 1))) (A 1 (A 2 (A1 42 (n - 1))))) 44 (n - 1) ((A1 44 (n - 1)) + 1)) 44 ((n - 1) + 1) ((A1 44 (n - 1)) + 1)) 42 (n - 1) (A 1 (A 2 (A 2 (A 2 (A1 42 (n - 1))))))) 42 ((n - 1) + 1) (A 1 (A 2 (A 2 (A1 42 (n - 1)))))) := by
          refine ⟨⟨BX_tr X B14, Z4⟩, ⟨w1, fun q => (w2 (by rw [u2 q]; exact q)).trans (u2 q)⟩, ⟨by omega, by omega, by omega⟩, fun e e0 e1 => ?_, fun e e0 e1 => ?_, fun g => ?_, ?_⟩
          · rw [i71] at e1
            have q := RLP_BX (hE e e0 e1) P1 B14 (f2 := fun k => (sa (sa (sa (sa (sa (sa A3 43 ((64 * (n - 1)) + (A1 44 (n - 1))) t) 43 ((64 * ((n - 1) + 1)) + (A1 44 (n - 1))) (A 1 (A 2 (A1 42 (n - 1))))) 44 (n - 1) ((A1 44 (n - 1)) + 1)) 44 ((n - 1) + 1) ((A1 44 (n - 1)) + 1)) 42 (n - 1) (A 1 (A 2 (A 2 (A 2 (A1 42 (n - 1))))))) 42 ((n - 1) + 1) (A 1 (A 2 (A 2 (A1 42 (n - 1)))))) 40 (64 * e + k)) (fun k _ _ => by show A3 40 (64 * e + k) = _; rw [a40, C.1 40 (by decide)])
            show RLP ar I A I3 _ B (A3 39 e) (A3 41 e) _
            rw [a39, C.1 39 (by decide), a41, C.1 41 (by decide)]
            exact q
          · rw [e42, e44]
            by_cases eA : e = n
            · rw [show e = n - 1 + 1 by omega, sf_self, sf_self]
              refine RLP_more tpn (by omega) (by omega) q3.2.2.1.2.1 (x := (A 1 (A 2 (A1 42 (n - 1))))) (by omega) (by omega) (by rw [tT]; exact q3.2.2.1.1) (by rw [tT]; omega) (fun k k0 k1 => ?_) ?_
              · show (sa (sa (sa (sa (sa (sa A3 43 ((64 * (n - 1)) + (A1 44 (n - 1))) t) 43 ((64 * ((n - 1) + 1)) + (A1 44 (n - 1))) (A 1 (A 2 (A1 42 (n - 1))))) 44 (n - 1) ((A1 44 (n - 1)) + 1)) 44 ((n - 1) + 1) ((A1 44 (n - 1)) + 1)) 42 (n - 1) (A 1 (A 2 (A 2 (A 2 (A1 42 (n - 1))))))) 42 ((n - 1) + 1) (A 1 (A 2 (A 2 (A1 42 (n - 1)))))) 43 (64 * (n - 1 + 1) + k) = A1 43 (64 * (n - 1) + k)
                rw [e43, sf_ne (by omega), sf_ne (by omega)]
                exact C.2.1 k k0 k1
              · show (sa (sa (sa (sa (sa (sa A3 43 ((64 * (n - 1)) + (A1 44 (n - 1))) t) 43 ((64 * ((n - 1) + 1)) + (A1 44 (n - 1))) (A 1 (A 2 (A1 42 (n - 1))))) 44 (n - 1) ((A1 44 (n - 1)) + 1)) 44 ((n - 1) + 1) ((A1 44 (n - 1)) + 1)) 42 (n - 1) (A 1 (A 2 (A 2 (A 2 (A1 42 (n - 1))))))) 42 ((n - 1) + 1) (A 1 (A 2 (A 2 (A1 42 (n - 1)))))) 43 (64 * (n - 1 + 1) + A1 44 (n - 1)) = _
                rw [e43, sf_self]
            · by_cases eB : e = n - 1
              · rw [eB, sf_ne (by omega), sf_self, sf_ne (by omega), sf_self]
                refine RLP_more tpn (by omega) (by omega) q3.2.2.1.2.2 (x := t) d4.1 d4.2 (by rw [tz4.1]; exact d5) (by rw [tz4.1]; omega) (fun k k0 k1 => ?_) ?_
                · show (sa (sa (sa (sa (sa (sa A3 43 ((64 * (n - 1)) + (A1 44 (n - 1))) t) 43 ((64 * ((n - 1) + 1)) + (A1 44 (n - 1))) (A 1 (A 2 (A1 42 (n - 1))))) 44 (n - 1) ((A1 44 (n - 1)) + 1)) 44 ((n - 1) + 1) ((A1 44 (n - 1)) + 1)) 42 (n - 1) (A 1 (A 2 (A 2 (A 2 (A1 42 (n - 1))))))) 42 ((n - 1) + 1) (A 1 (A 2 (A 2 (A1 42 (n - 1)))))) 43 (64 * (n - 1) + k) = A1 43 (64 * (n - 1) + k)
                  rw [e43, sf_ne (by omega), sf_ne (by omega)]
                  exact C.2.2 _ (by omega)
                · show (sa (sa (sa (sa (sa (sa A3 43 ((64 * (n - 1)) + (A1 44 (n - 1))) t) 43 ((64 * ((n - 1) + 1)) + (A1 44 (n - 1))) (A 1 (A 2 (A1 42 (n - 1))))) 44 (n - 1) ((A1 44 (n - 1)) + 1)) 44 ((n - 1) + 1) ((A1 44 (n - 1)) + 1)) 42 (n - 1) (A 1 (A 2 (A 2 (A 2 (A1 42 (n - 1))))))) 42 ((n - 1) + 1) (A 1 (A 2 (A 2 (A1 42 (n - 1)))))) 43 (64 * (n - 1) + A1 44 (n - 1)) = _
                  rw [e43, sf_ne (by omega), sf_self]
              · rw [sf_ne (by omega), sf_ne eB, sf_ne (by omega), sf_ne eB]
                have q := RLP_BX (hT e e0 (by omega)) P1 B14 (f2 := fun k => (sa (sa (sa (sa (sa (sa A3 43 ((64 * (n - 1)) + (A1 44 (n - 1))) t) 43 ((64 * ((n - 1) + 1)) + (A1 44 (n - 1))) (A 1 (A 2 (A1 42 (n - 1))))) 44 (n - 1) ((A1 44 (n - 1)) + 1)) 44 ((n - 1) + 1) ((A1 44 (n - 1)) + 1)) 42 (n - 1) (A 1 (A 2 (A 2 (A 2 (A1 42 (n - 1))))))) 42 ((n - 1) + 1) (A 1 (A 2 (A 2 (A1 42 (n - 1)))))) 43 (64 * e + k)) (fun k k0 k1 => by
                  have mk := RLP_many (hT e e0 (by omega)) B9
                  show (sa (sa (sa (sa (sa (sa A3 43 ((64 * (n - 1)) + (A1 44 (n - 1))) t) 43 ((64 * ((n - 1) + 1)) + (A1 44 (n - 1))) (A 1 (A 2 (A1 42 (n - 1))))) 44 (n - 1) ((A1 44 (n - 1)) + 1)) 44 ((n - 1) + 1) ((A1 44 (n - 1)) + 1)) 42 (n - 1) (A 1 (A 2 (A 2 (A 2 (A1 42 (n - 1))))))) 42 ((n - 1) + 1) (A 1 (A 2 (A 2 (A1 42 (n - 1)))))) 43 (64 * e + k) = A1 43 (64 * e + k)
                  rw [e43, sf_ne (by omega), sf_ne (by omega)]
                  exact C.2.2 _ (by omega))
                exact q
          · show SG g (A3 39) (I3 71).toNat + SG (PS A g) ((sa (sa (sa (sa (sa (sa A3 43 ((64 * (n - 1)) + (A1 44 (n - 1))) t) 43 ((64 * ((n - 1) + 1)) + (A1 44 (n - 1))) (A 1 (A 2 (A1 42 (n - 1))))) 44 (n - 1) ((A1 44 (n - 1)) + 1)) 44 ((n - 1) + 1) ((A1 44 (n - 1)) + 1)) 42 (n - 1) (A 1 (A 2 (A 2 (A 2 (A1 42 (n - 1))))))) 42 ((n - 1) + 1) (A 1 (A 2 (A 2 (A1 42 (n - 1)))))) 42) (n + 1).toNat = _
            rw [a39, C.1 39 (by decide), i71, e42, show n + 1 = n - 1 + 1 + 1 by omega, SG_push (by omega), SG_push (by omega)]
            have g9 := hG g
            rw [gp g, PS_if hP n0 a3 t1.1.1 t1.1.2 e3 t1.2] at g9
            omega
          · show SG (TZ A ar) (A3 39) (I3 71).toNat + SG (TZ A ar) ((sa (sa (sa (sa (sa (sa A3 43 ((64 * (n - 1)) + (A1 44 (n - 1))) t) 43 ((64 * ((n - 1) + 1)) + (A1 44 (n - 1))) (A 1 (A 2 (A1 42 (n - 1))))) 44 (n - 1) ((A1 44 (n - 1)) + 1)) 44 ((n - 1) + 1) ((A1 44 (n - 1)) + 1)) 42 (n - 1) (A 1 (A 2 (A 2 (A 2 (A1 42 (n - 1))))))) 42 ((n - 1) + 1) (A 1 (A 2 (A 2 (A1 42 (n - 1)))))) 42) (n + 1).toNat ≤ _
            rw [a39, C.1 39 (by decide), i71, e42, show n + 1 = n - 1 + 1 + 1 by omega, SG_push (by omega), SG_push (by omega)]
            omega
        refine ih (n + 1) I3 (sa (sa (sa (sa (sa (sa A3 43 ((64 * (n - 1)) + (A1 44 (n - 1))) t) 43 ((64 * ((n - 1) + 1)) + (A1 44 (n - 1))) (A 1 (A 2 (A1 42 (n - 1))))) 44 (n - 1) ((A1 44 (n - 1)) + 1)) 44 ((n - 1) + 1) ((A1 44 (n - 1)) + 1)) 42 (n - 1) (A 1 (A 2 (A 2 (A 2 (A1 42 (n - 1))))))) 42 ((n - 1) + 1) (A 1 (A 2 (A 2 (A1 42 (n - 1)))))) _ _ _ _ ?_ p4
        rw [e42, show n + 1 = n - 1 + 1 + 1 by omega, SG_push (by omega), SG_push (by omega)]
        omega
      · have e3 : A 1 (A1 42 (n - 1)) ≠ 3 := by omega
        refine go_a (pc' := 53) (ls' := [some (.ref h.length), some (.int (iI o)), some (.int (iI (n - 1))), some (.int (iI (A1 42 (n - 1)))), some (.int (iI (A1 44 (n - 1)))), y5, y6]) (st' := [.ref h.length]) rfl rfl ?_
        refine go_get rfl mh_o rfl rfl ?_
        refine go_a (pc' := 57) (ls' := [some (.ref h.length), some (.int (iI o)), some (.int (iI (n - 1))), some (.int (iI (A1 42 (n - 1)))), some (.int (iI (A1 44 (n - 1)))), y5, y6]) (st' := [.ref h.length, .ref (h.length + 39)]) rfl rfl ?_
        refine go_get (v := .int (iI (I1 71))) rfl mh_o rfl rfl ?_
        refine go_a (pc' := 61) (ls' := [some (.ref h.length), some (.int (iI o)), some (.int (iI (n - 1))), some (.int (iI (A1 42 (n - 1)))), some (.int (iI (A1 44 (n - 1)))), y5, y6]) (st' := [.int (iI (A1 42 (n - 1))), .int (iI (I1 71)), .ref (h.length + 39)]) rfl rfl ?_
        refine mi_ist rfl mh_a39 (show 12 ≤ _ by omega) (by omega) (by omega) (by decide) ?_
        rw [mh_w39 (by omega)]
        refine go_a (pc' := 63) (ls' := [some (.ref h.length), some (.int (iI o)), some (.int (iI (n - 1))), some (.int (iI (A1 42 (n - 1)))), some (.int (iI (A1 44 (n - 1)))), y5, y6]) (st' := [.ref h.length]) rfl rfl ?_
        refine go_get rfl mh_o rfl rfl ?_
        refine go_a (pc' := 67) (ls' := [some (.ref h.length), some (.int (iI o)), some (.int (iI (n - 1))), some (.int (iI (A1 42 (n - 1)))), some (.int (iI (A1 44 (n - 1)))), y5, y6]) (st' := [.ref h.length, .ref (h.length + 41)]) rfl rfl ?_
        refine go_get (v := .int (iI (I1 71))) rfl mh_o rfl rfl ?_
        refine go_a (pc' := 72) (ls' := [some (.ref h.length), some (.int (iI o)), some (.int (iI (n - 1))), some (.int (iI (A1 42 (n - 1)))), some (.int (iI (A1 44 (n - 1)))), y5, y6]) (st' := [.int (iI (A1 44 (n - 1))), .int (iI (I1 71)), .ref (h.length + 41)]) rfl rfl ?_
        refine mi_ist rfl mh_a41 (show 12 ≤ _ by omega) (by omega) (by omega) (by decide) ?_
        rw [mh_w41 (by omega)]
        refine go_a (pc' := 74) (ls' := [some (.ref h.length), some (.int (iI o)), some (.int (iI (n - 1))), some (.int (iI (A1 42 (n - 1)))), some (.int (iI (A1 44 (n - 1)))), y5, y6]) (st' := [.int (iI 0)]) rfl rfl ?_
        refine go_a (pc' := 76) (ls' := [some (.ref h.length), some (.int (iI o)), some (.int (iI (n - 1))), some (.int (iI (A1 42 (n - 1)))), some (.int (iI (A1 44 (n - 1)))), some (.int (iI 0)), y6]) (st' := []) rfl rfl ?_
        refine mm_paths_copy1 z (d + 8) o (n - 1) (A1 42 (n - 1)) (A1 44 (n - 1)) y6 h R I1 (sa (sa A1 39 (I1 71) (A1 42 (n - 1))) 41 (I1 71) (A1 44 (n - 1))) N hc _ pp (by omega) (by omega) (by omega) m0 (by omega) (fun A2 y5 C => ?_) (A1 44 (n - 1)).toNat 0 (sa (sa A1 39 (I1 71) (A1 42 (n - 1))) 41 (I1 71) (A1 44 (n - 1))) (by omega) (Int.le_refl _) m0 ⟨fun _ _ => rfl, fun k k0 k1 => absurd k1 (by omega), fun _ _ => rfl⟩
        show xx_go (xt_P z) (d + 8) 122 116 [some (.ref h.length), some (.int (iI o)), some (.int (iI (n - 1))), some (.int (iI (A1 42 (n - 1)))), some (.int (iI (A1 44 (n - 1)))), y5, y6] [] (mh h R I1 A2 N) _
        refine go_a (pc' := 117) (ls' := [some (.ref h.length), some (.int (iI o)), some (.int (iI (n - 1))), some (.int (iI (A1 42 (n - 1)))), some (.int (iI (A1 44 (n - 1)))), y5, y6]) (st' := [.ref h.length]) rfl rfl ?_
        refine go_a (pc' := 118) (ls' := [some (.ref h.length), some (.int (iI o)), some (.int (iI (n - 1))), some (.int (iI (A1 42 (n - 1)))), some (.int (iI (A1 44 (n - 1)))), y5, y6]) (st' := [.ref h.length, .ref h.length]) rfl rfl ?_
        refine go_get (v := .int (iI (I1 71))) rfl mh_o rfl rfl ?_
        refine go_a (pc' := 122) (ls' := [some (.ref h.length), some (.int (iI o)), some (.int (iI (n - 1))), some (.int (iI (A1 42 (n - 1)))), some (.int (iI (A1 44 (n - 1)))), y5, y6]) (st' := [.int (iI 1), .int (iI (I1 71)), .ref h.length]) rfl rfl ?_
        refine mi_add rfl ?_
        refine go_put (j := 71) rfl mh_o rfl rfl (show 12 ≤ _ from hc) (show 71 < 86 by decide) rfl rfl ?_
        rw [mh_p71]
        refine go_a (pc' := 21) (ls' := [some (.ref h.length), some (.int (iI o)), some (.int (iI (n - 1))), some (.int (iI (A1 42 (n - 1)))), some (.int (iI (A1 44 (n - 1)))), y5, y6]) (st' := []) rfl rfl ?_
        have a1 : A2 1 = A1 1 := C.1 1 (by decide)
        have a2 : A2 2 = A1 2 := C.1 2 (by decide)
        have a3x : A2 3 = A1 3 := C.1 3 (by decide)
        have a4 : A2 4 = A1 4 := C.1 4 (by decide)
        have a5 : A2 5 = A1 5 := C.1 5 (by decide)
        have a7 : A2 7 = A1 7 := C.1 7 (by decide)
        have a8 : A2 8 = A1 8 := C.1 8 (by decide)
        have a9 : A2 9 = A1 9 := C.1 9 (by decide)
        have a42 : A2 42 = A1 42 := C.1 42 (by decide)
        have a43 : A2 43 = A1 43 := C.1 43 (by decide)
        have a44 : A2 44 = A1 44 := C.1 44 (by decide)
        have a39 : A2 39 = sf (A1 39) (I1 71) (A1 42 (n - 1)) := C.1 39 (by decide)
        have a41 : A2 41 = sf (A1 41) (I1 71) (A1 44 (n - 1)) := C.1 41 (by decide)
        have S2 : MST (su I1 71 (I1 71 + 1)) A2 N := MST_congr X.1 rfl rfl a1 a2 a3x a4 a5 a7 a8 a9
        have B2 : BX FP GP I1 A1 N (su I1 71 (I1 71 + 1)) A2 N := ⟨S2, Int.le_refl _, fun k _ _ => ⟨by rw [a1], by rw [a2], rfl, fun e => by rw [a4]; exact e⟩, fun j _ q => su_ne (fun e => q (Or.inl e)), fun a _ _ _ _ _ _ q7 => (C.1 a (fun e => q7 (by unfold GP; omega))).trans ((sa_ne (fun e => q7 (by unfold GP; omega))).trans (sa_ne (fun e => q7 (by unfold GP; omega))))⟩
        have Z2 : SZI ar (su I1 71 (I1 71 + 1)) A2 := SZI_124 Z1 a1 a2 a4 rfl
        have p4 : PTI ar B o (n - 1) I A N (su I1 71 (I1 71 + 1)) A2 := by
          refine ⟨⟨BX_tr X B2, Z2⟩, ⟨u1, u2⟩, ⟨by omega, (show 0 ≤ I1 71 + 1 by omega), (show I1 7 ≤ I 7 + 4 * (I1 71 + 1 + (n - 1) - 1) by omega)⟩, fun e e0 e1 => ?_, fun e e0 e1 => ?_, fun g => ?_, ?_⟩
          · have e1 : e < I1 71 + 1 := e1
            rw [a39, a41]
            by_cases eA : e = I1 71
            · rw [eA, sf_self, sf_self]
              exact RLP_BX tp P1 B2 (f2 := fun k => A2 40 (64 * I1 71 + k)) (fun k k0 k1 => C.2.1 k k0 k1)
            · rw [sf_ne eA, sf_ne eA]
              have mk := RLP_many (hE e e0 (by omega)) B9
              exact RLP_BX (hE e e0 (by omega)) P1 B2 (f2 := fun k => A2 40 (64 * e + k)) (fun k k0 k1 => C.2.2 (64 * e + k) (by omega))
          · rw [a42, a44]
            exact RLP_BX (hT e e0 (by omega)) P1 B2 (f2 := fun k => A2 43 (64 * e + k)) (fun k _ _ => by rw [a43])
          · show SG g (A2 39) (I1 71 + 1).toNat + SG (PS A g) (A2 42) (n - 1).toNat = _
            rw [a39, a42, SG_push pp]
            have g9 := hG g
            rw [gp g, PS_end e3] at g9
            omega
          · show SG (TZ A ar) (A2 39) (I1 71 + 1).toNat + SG (TZ A ar) (A2 42) (n - 1).toNat ≤ _
            rw [a39, a42, SG_push pp]
            omega
        refine ih (n - 1) (su I1 71 (I1 71 + 1)) A2 _ _ _ _ ?_ p4
        rw [a42]
        have := t1.2
        omega
theorem mm_pathsOf (z : Value) (d : Nat) (ar : Int → Int) (o B : Int) (h R : xx_H) (I : Nat → Int) (A : Nat → Int → Int) (N : Int → Int) (hc : 12 ≤ h.length) (hS : MST I A N) (hN : NM I A) (a3 : ar 3 = 3) (a15 : ar 15 = 1) (b56 : 0 ≤ I 56) (b56b : I 56 ≤ 2390) (ho : I 7 + 484 ≤ 140000) (B9 : B ≤ 120) (hZ : SZI ar I A) (k0 : 0 ≤ o) (k1 : o < I 7) (k2 : 1 ≤ TZ A ar o) (k3 : TZ A ar o = B) (u0 : 0 ≤ I 49) (u1 : I 49 ≤ 4) : xx_cl (xt_P z) (d + 9) 122 [.ref h.length, .int (iI o)] (mh h R I A N) (fun v h1 => v = none ∧ ∃ (I1 : Nat → Int) (A1 : Nat → Int → Int), h1 = mh h R I1 A1 N ∧ PTH ar B o I A N I1 A1) := by
  refine cl_go rfl ?_
  show xx_go (xt_P z) (d + 8) 122 0 [some (.ref h.length), some (.int (iI o)), none, none, none, none, none] [] (mh h R I A N) _
  refine go_a (pc' := 1) (ls' := [some (.ref h.length), some (.int (iI o)), none, none, none, none, none]) (st' := [.ref h.length]) rfl rfl ?_
  refine go_a (pc' := 2) (ls' := [some (.ref h.length), some (.int (iI o)), none, none, none, none, none]) (st' := [.int (iI 0), .ref h.length]) rfl rfl ?_
  refine go_put (j := 71) rfl mh_o rfl rfl (show 12 ≤ _ from hc) (show 71 < 86 by decide) rfl rfl ?_
  rw [mh_p71]
  refine go_a (pc' := 6) (ls' := [some (.ref h.length), some (.int (iI o)), none, none, none, none, none]) (st' := [.int (iI 1)]) rfl rfl ?_
  refine go_a (pc' := 7) (ls' := [some (.ref h.length), some (.int (iI o)), some (.int (iI 1)), none, none, none, none]) (st' := []) rfl rfl ?_
  refine go_a (pc' := 8) (ls' := [some (.ref h.length), some (.int (iI o)), some (.int (iI 1)), none, none, none, none]) (st' := [.ref h.length]) rfl rfl ?_
  refine go_get rfl mh_o rfl rfl ?_
  refine go_a (pc' := 12) (ls' := [some (.ref h.length), some (.int (iI o)), some (.int (iI 1)), none, none, none, none]) (st' := [.int (iI 0), .ref (h.length + 42)]) rfl rfl ?_
  refine go_a (pc' := 13) (ls' := [some (.ref h.length), some (.int (iI o)), some (.int (iI 1)), none, none, none, none]) (st' := [.int (iI o), .int (iI 0), .ref (h.length + 42)]) rfl rfl ?_
  refine mi_ist rfl mh_a42 (show 12 ≤ _ by omega) (by omega) (by omega) (by decide) ?_
  rw [mh_w42 (by omega)]
  refine go_a (pc' := 15) (ls' := [some (.ref h.length), some (.int (iI o)), some (.int (iI 1)), none, none, none, none]) (st' := [.ref h.length]) rfl rfl ?_
  refine go_get rfl mh_o rfl rfl ?_
  refine go_a (pc' := 19) (ls' := [some (.ref h.length), some (.int (iI o)), some (.int (iI 1)), none, none, none, none]) (st' := [.int (iI 0), .ref (h.length + 44)]) rfl rfl ?_
  refine go_a (pc' := 20) (ls' := [some (.ref h.length), some (.int (iI o)), some (.int (iI 1)), none, none, none, none]) (st' := [.int (iI 0), .int (iI 0), .ref (h.length + 44)]) rfl rfl ?_
  refine mi_ist rfl mh_a44 (show 12 ≤ _ by omega) (by omega) (by omega) (by decide) ?_
  rw [mh_w44 (by omega)]
  refine mm_paths_loop z d ar o B h R I A N hc hS hN a3 a15 b56 b56b ho B9 (TZ A ar o).toNat 1 (su I 71 0) (sa (sa A 42 0 o) 44 0 0) none none none none ?_ ?_
  · show (0 : Int) + TZ A ar (sf (A 42) 0 o 0) ≤ _
    rw [sf_self]
    omega
  · refine ⟨⟨⟨hS, Int.le_refl _, fun k _ _ => ⟨rfl, rfl, rfl, id⟩, fun j _ q => su_ne (fun e => q (Or.inl e)), fun a _ _ _ _ _ _ q7 => (sa_ne (fun e => q7 (by unfold GP; omega))).trans (sa_ne (fun e => q7 (by unfold GP; omega)))⟩, SZI_124 hZ rfl rfl rfl rfl⟩, ⟨⟨u0, u1⟩, fun _ => rfl⟩, ⟨by decide, (show (0 : Int) ≤ 0 by decide), (show I 7 ≤ I 7 + 4 * (0 + 1 - 1) by omega)⟩, fun e e0 e1 => absurd (show e < 0 from e1) (by omega), fun e e0 e1 => ?_, fun g => ?_, ?_⟩
    · rw [show e = 0 by omega]
      show RLP ar I A _ _ B (sf (A 42) 0 o 0) (sf (A 44) 0 0 0) _
      rw [sf_self, sf_self]
      exact ⟨⟨⟨k0, k1⟩, k2⟩, Int.le_refl _, fun k q0 q1 => absurd q1 (by omega), (show (0 : Int) + TZ A ar o ≤ B by omega)⟩
    · show (0 : Int) + (0 + PS A g (sf (A 42) 0 o 0)) = _
      rw [sf_self]
      omega
    · show (0 : Int) + (0 + TZ A ar (sf (A 42) 0 o 0)) ≤ _
      rw [sf_self]
      omega
