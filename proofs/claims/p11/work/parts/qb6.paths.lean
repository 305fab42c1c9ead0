def FP (j : Nat) : Prop := j = 71 ∨ j = 49
def GP (a : Nat) : Prop := (29 ≤ a ∧ a ≤ 32) ∨ (39 ≤ a ∧ a ≤ 44)
def RLP (ar : Int → Int) (I : Nat → Int) (A : Nat → Int → Int) (I1 : Nat → Int) (A1 : Nat → Int → Int) (B t m : Int) (f : Int → Int) : Prop := ((0 ≤ t ∧ t < I 7) ∧ 1 ≤ TZ A ar t) ∧ 0 ≤ m ∧ (∀ k : Int, 0 ≤ k → k < m → (0 ≤ f k ∧ f k < I1 7) ∧ 1 ≤ TZ A1 ar (f k)) ∧ SG (fun x => TZ A1 ar x + 1) f m.toNat + TZ A ar t ≤ B
theorem RLP_BX {F G : Nat → Prop} {ar : Int → Int} {I I1 I2 : Nat → Int} {A A1 A2 : Nat → Int → Int} {N : Int → Int} {B t m : Int} {f f2 : Int → Int} (r : RLP ar I A I1 A1 B t m f) (hP : PW I1 A1) (x : BX F G I1 A1 N I2 A2 N) (hf : ∀ k : Int, 0 ≤ k → k < m → f2 k = f k) : RLP ar I A I2 A2 B t m f2 := by
  have x7 := x.2.1
  refine ⟨r.1, r.2.1, fun k k0 k1 => ?_, ?_⟩
  · have q := r.2.2.1 k k0 k1
    rw [hf k k0 k1, (TZ_BX hP x q.1.1 q.1.2).1 q.2]
    exact ⟨⟨q.1.1, by omega⟩, q.2⟩
  · have r2 := r.2.1
    rw [SG_congr (g1 := fun x => TZ A1 ar x + 1) (f1 := f) m.toNat (fun e he => ?_)]
    · exact r.2.2.2
    · have q := r.2.2.1 e (by omega) (by omega)
      show TZ A2 ar (f2 e) + 1 = TZ A1 ar (f e) + 1
      rw [hf e (by omega) (by omega), (TZ_BX hP x q.1.1 q.1.2).1 q.2]
theorem RLP_more {ar : Int → Int} {I I1 : Nat → Int} {A A1 : Nat → Int → Int} {B t t2 m x : Int} {f f2 : Int → Int} (r : RLP ar I A I1 A1 B t m f) (t0 : 0 ≤ t2) (t1 : t2 < I 7) (tt : 1 ≤ TZ A ar t2) (x0 : 0 ≤ x) (x1 : x < I1 7) (xx : 1 ≤ TZ A1 ar x) (hb : TZ A1 ar x + 1 + TZ A ar t2 ≤ TZ A ar t) (hf : ∀ k : Int, 0 ≤ k → k < m → f2 k = f k) (hm : f2 m = x) : RLP ar I A I1 A1 B t2 (m + 1) f2 := by
  have r2 := r.2.1
  have r4 := r.2.2.2
  refine ⟨⟨⟨t0, t1⟩, tt⟩, by omega, fun k k0 k1 => ?_, ?_⟩
  · by_cases e : k = m
    · rw [e, hm]
      exact ⟨⟨x0, x1⟩, xx⟩
    · rw [hf k k0 (by omega)]
      exact r.2.2.1 k k0 (by omega)
  · rw [show (m + 1).toNat = m.toNat + 1 by omega]
    show SG (fun x => TZ A1 ar x + 1) f2 m.toNat + (TZ A1 ar (f2 ((m.toNat : Nat) : Int)) + 1) + TZ A ar t2 ≤ B
    rw [SG_congr (g1 := fun x => TZ A1 ar x + 1) (f1 := f) m.toNat (fun e he => by show TZ A1 ar (f2 e) + 1 = TZ A1 ar (f e) + 1; rw [hf e (by omega) (by omega)]), Int.toNat_of_nonneg r2, hm]
    omega
theorem SG_cnt2 {g f : Int → Int} : ∀ n : Nat, (∀ e : Nat, e < n → 2 ≤ g (f e)) → 2 * (n : Int) ≤ SG g f n
  | 0, _ => Int.le_refl _
  | n + 1, h => by
    show 2 * ((n + 1 : Nat) : Int) ≤ SG g f n + g (f n)
    have a := SG_cnt2 n (fun e he => h e (by omega))
    have b := h n (by omega)
    omega
theorem RLP_many {ar : Int → Int} {I I1 : Nat → Int} {A A1 : Nat → Int → Int} {B t m : Int} {f : Int → Int} (r : RLP ar I A I1 A1 B t m f) (b : B ≤ 120) : m ≤ 59 := by
  have r2 := r.2.1
  have r4 := r.2.2.2
  have t1 := r.1.2
  have c := SG_cnt2 (g := fun x => TZ A1 ar x + 1) (f := f) m.toNat (fun e he => by
    have q := (r.2.2.1 e (by omega) (by omega)).2
    show 2 ≤ TZ A1 ar (f e) + 1
    omega)
  omega
def PTI (ar : Int → Int) (B o n : Int) (I : Nat → Int) (A : Nat → Int → Int) (N : Int → Int) (I1 : Nat → Int) (A1 : Nat → Int → Int) : Prop := (BX FP GP I A N I1 A1 N ∧ SZI ar I1 A1) ∧ ((0 ≤ I1 49 ∧ I1 49 ≤ 4) ∧ (¬ I 49 = 0 → I1 49 = I 49)) ∧ (0 ≤ n ∧ 0 ≤ I1 71 ∧ I1 7 ≤ I 7 + 4 * (I1 71 + n - 1)) ∧ (∀ e : Int, 0 ≤ e → e < I1 71 → RLP ar I A I1 A1 B (A1 39 e) (A1 41 e) (fun k => A1 40 (64 * e + k))) ∧ (∀ e : Int, 0 ≤ e → e < n → RLP ar I A I1 A1 B (A1 42 e) (A1 44 e) (fun k => A1 43 (64 * e + k))) ∧ (∀ g : Int → Int, SG g (A1 39) (I1 71).toNat + SG (PS A g) (A1 42) n.toNat = PS A g o) ∧ SG (TZ A ar) (A1 39) (I1 71).toNat + SG (TZ A ar) (A1 42) n.toNat ≤ B
theorem PTI_cnt {ar : Int → Int} {B o n : Int} {I I1 : Nat → Int} {A A1 : Nat → Int → Int} {N : Int → Int} (p : PTI ar B o n I A N I1 A1) : I1 71 + n ≤ B := by
  have p3 := p.2.2.1
  have a := SG_cnt (g := TZ A ar) (f := A1 39) (I1 71).toNat (fun e he => (p.2.2.2.1 e (by omega) (by omega)).1.2)
  have b := SG_cnt (g := TZ A ar) (f := A1 42) n.toNat (fun e he => (p.2.2.2.2.1 e (by omega) (by omega)).1.2)
  have c := p.2.2.2.2.2.2
  omega
theorem BX_FP {I I1 : Nat → Int} {A A1 : Nat → Int → Int} {N : Int → Int} (x : BX FW GB I A N I1 A1 N) (e4 : I1 54 = I 54) (e6 : I1 56 = I 56) : BX FP GP I A N I1 A1 N := ⟨x.1, x.2.1, x.2.2.1, fun j p q => by
  by_cases a : j = 54
  · rw [a, e4]
  · by_cases b : j = 56
    · rw [b, e6]
    · exact x.2.2.2.1 j p (fun e => by unfold FW at e; unfold FP at q; omega), fun a q1 q2 q3 q4 q5 q6 q7 => x.2.2.2.2 a q1 q2 q3 q4 q5 q6 (fun e => q7 (by unfold GB at e; unfold GP; omega))⟩
def PTHq (ar : Int → Int) (B o : Int) (I : Nat → Int) (A : Nat → Int → Int) (N : Int → Int) (I1 : Nat → Int) (A1 : Nat → Int → Int) : Prop := PTI ar B o 0 I A N I1 A1
theorem mm_term (z : Value) (d n N0 : Nat) (k : Int) (h R : xx_H) (I : Nat → Int) (A : Nat → Int → Int) (N : Int → Int) (hc : 12 ≤ h.length) (hP : PW I A) (hm : (n : Int) < 1000000) (h0 : 0 ≤ k) (h1 : k < I 7) (hL : isL A N0 k) (hN : n < N0) : xx_cl (xt_P z) (d + 2) 124 [.ref h.length, .int (iI k), .int (iI n)] (mh h R I A N) (fun v h1 => v = some (.int (iI (A 1 (rt A n k)))) ∧ h1 = mh h R I A N) := by
  refine cl_go rfl ?_
  show xx_go (xt_P z) (d + 1) 124 0 [some (.ref h.length), some (.int (iI k)), some (.int (iI ((n : Int))))] [] (mh h R I A N) _
  refine go_a (pc' := 1) (ls' := [some (.ref h.length), some (.int (iI k)), some (.int (iI ((n : Int))))]) (st' := [.ref h.length]) rfl rfl ?_
  refine go_a (pc' := 2) (ls' := [some (.ref h.length), some (.int (iI k)), some (.int (iI ((n : Int))))]) (st' := [.int (iI k), .ref h.length]) rfl rfl ?_
  refine go_a (pc' := 3) (ls' := [some (.ref h.length), some (.int (iI k)), some (.int (iI ((n : Int))))]) (st' := [.int (iI ((n : Int))), .int (iI k), .ref h.length]) rfl rfl ?_
  refine go_v (m := 99) (as := [.ref h.length, .int (iI k), .int (iI ((n : Int)))]) (r := []) rfl rfl rfl mh_o rfl rfl (mm_nth z d n N0 k h R I A N hc hP hm h0 h1 hL hN) (fun v h1 hq => ?_)
  obtain ⟨rfl, rfl⟩ := hq
  show xx_go (xt_P z) (d + 1) 124 6 [some (.ref h.length), some (.int (iI k)), some (.int (iI ((n : Int))))] [.int (iI (A 1 (rt A n k)))] (mh h R I A N) _
  exact go_r rfl rfl rfl rfl rfl rfl ⟨rfl, rfl⟩
theorem mm_paths_copy1 (z : Value) (d : Nat) (o q x m : Int) (y6 : Option Value) (h R : xx_H) (I : Nat → Int) (A : Nat → Int → Int) (N : Int → Int) (hc : 12 ≤ h.length) (Q : Option Value → xx_H → Prop) (p0 : 0 ≤ I 71) (p1 : I 71 ≤ 120) (q0 : 0 ≤ q) (q1 : q ≤ 120) (m0 : 0 ≤ m) (m1 : m ≤ 60) (K : (∀ (A2 : Nat → Int → Int) (y5 : Option Value), ((∀ a : Nat, a ≠ 40 → A2 a = A a) ∧ (∀ k : Int, 0 ≤ k → k < m → A2 40 (64 * I 71 + k) = A 43 (64 * q + k)) ∧ ∀ e : Int, e < 64 * I 71 → A2 40 e = A 40 e) → xx_go (xt_P z) d 122 116 [some (.ref h.length), some (.int (iI o)), some (.int (iI q)), some (.int (iI x)), some (.int (iI m)), y5, y6] [] (mh h R I A2 N) Q)) : ∀ (n : Nat) (j : Int) (A2 : Nat → Int → Int), (m - j).toNat ≤ n → 0 ≤ j → j ≤ m → ((∀ a : Nat, a ≠ 40 → A2 a = A a) ∧ (∀ k : Int, 0 ≤ k → k < j → A2 40 (64 * I 71 + k) = A 43 (64 * q + k)) ∧ ∀ e : Int, e < 64 * I 71 → A2 40 e = A 40 e) → xx_go (xt_P z) d 122 76 [some (.ref h.length), some (.int (iI o)), some (.int (iI q)), some (.int (iI x)), some (.int (iI m)), some (.int (iI j)), y6] [] (mh h R I A2 N) Q := by
  intro n
  induction n with
  | zero =>
    intro j A2 hn j0 jm C
    have e : j = m := by omega
    subst e
    refine go_a (pc' := 78) (ls' := [some (.ref h.length), some (.int (iI o)), some (.int (iI q)), some (.int (iI x)), some (.int (iI j)), some (.int (iI j)), y6]) (st' := [.int (iI j)]) rfl rfl ?_
    refine go_a (pc' := 80) (ls' := [some (.ref h.length), some (.int (iI o)), some (.int (iI q)), some (.int (iI x)), some (.int (iI j)), some (.int (iI j)), y6]) (st' := [.int (iI j), .int (iI j)]) rfl rfl ?_
    exact mi_ge (t := 116) rfl rfl (by omega) (by omega) (by omega) (by omega) (fun _ => K A2 _ C) (fun e => absurd (Int.le_refl _) e)
  | succ n ih =>
    intro j A2 hn j0 jm C
    refine go_a (pc' := 78) (ls' := [some (.ref h.length), some (.int (iI o)), some (.int (iI q)), some (.int (iI x)), some (.int (iI m)), some (.int (iI j)), y6]) (st' := [.int (iI j)]) rfl rfl ?_
    refine go_a (pc' := 80) (ls' := [some (.ref h.length), some (.int (iI o)), some (.int (iI q)), some (.int (iI x)), some (.int (iI m)), some (.int (iI j)), y6]) (st' := [.int (iI m), .int (iI j)]) rfl rfl ?_
    refine mi_ge (t := 116) rfl rfl (by omega) (by omega) (by omega) (by omega) (fun e => K A2 _ (by rw [show m = j by omega]; exact C)) (fun e => ?_)
    refine go_a (pc' := 84) (ls' := [some (.ref h.length), some (.int (iI o)), some (.int (iI q)), some (.int (iI x)), some (.int (iI m)), some (.int (iI j)), y6]) (st' := [.ref h.length]) rfl rfl ?_
    refine go_get rfl mh_o rfl rfl ?_
    refine go_a (pc' := 89) (ls' := [some (.ref h.length), some (.int (iI o)), some (.int (iI q)), some (.int (iI x)), some (.int (iI m)), some (.int (iI j)), y6]) (st' := [.int (iI 64), .ref (h.length + 40)]) rfl rfl ?_
    refine go_a (pc' := 90) (ls' := [some (.ref h.length), some (.int (iI o)), some (.int (iI q)), some (.int (iI x)), some (.int (iI m)), some (.int (iI j)), y6]) (st' := [.ref h.length, .int (iI 64), .ref (h.length + 40)]) rfl rfl ?_
    refine go_get (v := .int (iI (I 71))) rfl mh_o rfl rfl ?_
    refine mi_mul rfl ?_
    refine go_a (pc' := 96) (ls' := [some (.ref h.length), some (.int (iI o)), some (.int (iI q)), some (.int (iI x)), some (.int (iI m)), some (.int (iI j)), y6]) (st' := [.int (iI j), .int (iI (64 * (I 71))), .ref (h.length + 40)]) rfl rfl ?_
    refine mi_add rfl ?_
    refine go_a (pc' := 98) (ls' := [some (.ref h.length), some (.int (iI o)), some (.int (iI q)), some (.int (iI x)), some (.int (iI m)), some (.int (iI j)), y6]) (st' := [.ref h.length, .int (iI ((64 * (I 71)) + j)), .ref (h.length + 40)]) rfl rfl ?_
    refine go_get rfl mh_o rfl rfl ?_
    refine go_a (pc' := 103) (ls' := [some (.ref h.length), some (.int (iI o)), some (.int (iI q)), some (.int (iI x)), some (.int (iI m)), some (.int (iI j)), y6]) (st' := [.int (iI 64), .ref (h.length + 43), .int (iI ((64 * (I 71)) + j)), .ref (h.length + 40)]) rfl rfl ?_
    refine go_a (pc' := 104) (ls' := [some (.ref h.length), some (.int (iI o)), some (.int (iI q)), some (.int (iI x)), some (.int (iI m)), some (.int (iI j)), y6]) (st' := [.int (iI q), .int (iI 64), .ref (h.length + 43), .int (iI ((64 * (I 71)) + j)), .ref (h.length + 40)]) rfl rfl ?_
    refine mi_mul rfl ?_
    refine go_a (pc' := 107) (ls' := [some (.ref h.length), some (.int (iI o)), some (.int (iI q)), some (.int (iI x)), some (.int (iI m)), some (.int (iI j)), y6]) (st' := [.int (iI j), .int (iI (64 * q)), .ref (h.length + 43), .int (iI ((64 * (I 71)) + j)), .ref (h.length + 40)]) rfl rfl ?_
    refine mi_add rfl ?_
    refine mi_ild rfl mh_a43 (by omega) (by omega) (by decide) ?_
    refine mi_ist rfl mh_a40 (show 12 ≤ _ by omega) (by omega) (by omega) (by decide) ?_
    rw [mh_w40 (by omega)]
    refine go_a (pc' := 113) (ls' := [some (.ref h.length), some (.int (iI o)), some (.int (iI q)), some (.int (iI x)), some (.int (iI m)), some (.int (iI (j + 1))), y6]) (st' := []) rfl (by rw [← iI_add j 1]; rfl) ?_
    refine go_a (pc' := 76) (ls' := [some (.ref h.length), some (.int (iI o)), some (.int (iI q)), some (.int (iI x)), some (.int (iI m)), some (.int (iI (j + 1))), y6]) (st' := []) rfl rfl ?_
    have c1 := C.1 43 (by decide)
    refine ih (j + 1) _ (by omega) (by omega) (by omega) ⟨fun a ha => (sa_ne ha).trans (C.1 a ha), fun k k0 k1 => ?_, fun e he => ?_⟩
    · show sf (A2 40) (64 * I 71 + j) (A2 43 (64 * q + j)) (64 * I 71 + k) = _
      by_cases e : k = j
      · rw [e, sf_self, c1]
      · rw [sf_ne (by omega)]
        exact C.2.1 k k0 (by omega)
    · show sf (A2 40) (64 * I 71 + j) (A2 43 (64 * q + j)) e = _
      rw [sf_ne (by omega)]
      exact C.2.2 e he
theorem mm_paths_copy2 (z : Value) (d : Nat) (o q x m t0 : Int) (h R : xx_H) (I : Nat → Int) (A : Nat → Int → Int) (N : Int → Int) (hc : 12 ≤ h.length) (Q : Option Value → xx_H → Prop) (q0 : 0 ≤ q) (q1 : q ≤ 120) (m0 : 0 ≤ m) (m1 : m ≤ 60) (K : (∀ (A2 : Nat → Int → Int) (y6 : Option Value), ((∀ a : Nat, a ≠ 43 → A2 a = A a) ∧ (∀ k : Int, 0 ≤ k → k < m → A2 43 (64 * (q + 1) + k) = A 43 (64 * q + k)) ∧ ∀ e : Int, e < 64 * (q + 1) → A2 43 e = A 43 e) → xx_go (xt_P z) d 122 179 [some (.ref h.length), some (.int (iI o)), some (.int (iI q)), some (.int (iI x)), some (.int (iI m)), some (.int (iI t0)), y6] [] (mh h R I A2 N) Q)) : ∀ (n : Nat) (j : Int) (A2 : Nat → Int → Int), (m - j).toNat ≤ n → 0 ≤ j → j ≤ m → ((∀ a : Nat, a ≠ 43 → A2 a = A a) ∧ (∀ k : Int, 0 ≤ k → k < j → A2 43 (64 * (q + 1) + k) = A 43 (64 * q + k)) ∧ ∀ e : Int, e < 64 * (q + 1) → A2 43 e = A 43 e) → xx_go (xt_P z) d 122 140 [some (.ref h.length), some (.int (iI o)), some (.int (iI q)), some (.int (iI x)), some (.int (iI m)), some (.int (iI t0)), some (.int (iI j))] [] (mh h R I A2 N) Q := by
  intro n
  induction n with
  | zero =>
    intro j A2 hn j0 jm C
    have e : j = m := by omega
    subst e
    refine go_a (pc' := 142) (ls' := [some (.ref h.length), some (.int (iI o)), some (.int (iI q)), some (.int (iI x)), some (.int (iI j)), some (.int (iI t0)), some (.int (iI j))]) (st' := [.int (iI j)]) rfl rfl ?_
    refine go_a (pc' := 144) (ls' := [some (.ref h.length), some (.int (iI o)), some (.int (iI q)), some (.int (iI x)), some (.int (iI j)), some (.int (iI t0)), some (.int (iI j))]) (st' := [.int (iI j), .int (iI j)]) rfl rfl ?_
    exact mi_ge (t := 179) rfl rfl (by omega) (by omega) (by omega) (by omega) (fun _ => K A2 _ C) (fun e => absurd (Int.le_refl _) e)
  | succ n ih =>
    intro j A2 hn j0 jm C
    refine go_a (pc' := 142) (ls' := [some (.ref h.length), some (.int (iI o)), some (.int (iI q)), some (.int (iI x)), some (.int (iI m)), some (.int (iI t0)), some (.int (iI j))]) (st' := [.int (iI j)]) rfl rfl ?_
    refine go_a (pc' := 144) (ls' := [some (.ref h.length), some (.int (iI o)), some (.int (iI q)), some (.int (iI x)), some (.int (iI m)), some (.int (iI t0)), some (.int (iI j))]) (st' := [.int (iI m), .int (iI j)]) rfl rfl ?_
    refine mi_ge (t := 179) rfl rfl (by omega) (by omega) (by omega) (by omega) (fun e => K A2 _ (by rw [show m = j by omega]; exact C)) (fun e => ?_)
    refine go_a (pc' := 148) (ls' := [some (.ref h.length), some (.int (iI o)), some (.int (iI q)), some (.int (iI x)), some (.int (iI m)), some (.int (iI t0)), some (.int (iI j))]) (st' := [.ref h.length]) rfl rfl ?_
    refine go_get rfl mh_o rfl rfl ?_
    refine go_a (pc' := 153) (ls' := [some (.ref h.length), some (.int (iI o)), some (.int (iI q)), some (.int (iI x)), some (.int (iI m)), some (.int (iI t0)), some (.int (iI j))]) (st' := [.int (iI 64), .ref (h.length + 43)]) rfl rfl ?_
    refine go_a (pc' := 154) (ls' := [some (.ref h.length), some (.int (iI o)), some (.int (iI q)), some (.int (iI x)), some (.int (iI m)), some (.int (iI t0)), some (.int (iI j))]) (st' := [.int (iI q), .int (iI 64), .ref (h.length + 43)]) rfl rfl ?_
    refine go_a (pc' := 155) (ls' := [some (.ref h.length), some (.int (iI o)), some (.int (iI q)), some (.int (iI x)), some (.int (iI m)), some (.int (iI t0)), some (.int (iI j))]) (st' := [.int (iI 1), .int (iI q), .int (iI 64), .ref (h.length + 43)]) rfl rfl ?_
    refine mi_add rfl ?_
    refine mi_mul rfl ?_
    refine go_a (pc' := 159) (ls' := [some (.ref h.length), some (.int (iI o)), some (.int (iI q)), some (.int (iI x)), some (.int (iI m)), some (.int (iI t0)), some (.int (iI j))]) (st' := [.int (iI j), .int (iI (64 * (q + 1))), .ref (h.length + 43)]) rfl rfl ?_
    refine mi_add rfl ?_
    refine go_a (pc' := 161) (ls' := [some (.ref h.length), some (.int (iI o)), some (.int (iI q)), some (.int (iI x)), some (.int (iI m)), some (.int (iI t0)), some (.int (iI j))]) (st' := [.ref h.length, .int (iI ((64 * (q + 1)) + j)), .ref (h.length + 43)]) rfl rfl ?_
    refine go_get rfl mh_o rfl rfl ?_
    refine go_a (pc' := 166) (ls' := [some (.ref h.length), some (.int (iI o)), some (.int (iI q)), some (.int (iI x)), some (.int (iI m)), some (.int (iI t0)), some (.int (iI j))]) (st' := [.int (iI 64), .ref (h.length + 43), .int (iI ((64 * (q + 1)) + j)), .ref (h.length + 43)]) rfl rfl ?_
    refine go_a (pc' := 167) (ls' := [some (.ref h.length), some (.int (iI o)), some (.int (iI q)), some (.int (iI x)), some (.int (iI m)), some (.int (iI t0)), some (.int (iI j))]) (st' := [.int (iI q), .int (iI 64), .ref (h.length + 43), .int (iI ((64 * (q + 1)) + j)), .ref (h.length + 43)]) rfl rfl ?_
    refine mi_mul rfl ?_
    refine go_a (pc' := 170) (ls' := [some (.ref h.length), some (.int (iI o)), some (.int (iI q)), some (.int (iI x)), some (.int (iI m)), some (.int (iI t0)), some (.int (iI j))]) (st' := [.int (iI j), .int (iI (64 * q)), .ref (h.length + 43), .int (iI ((64 * (q + 1)) + j)), .ref (h.length + 43)]) rfl rfl ?_
    refine mi_add rfl ?_
    refine mi_ild rfl mh_a43 (by omega) (by omega) (by decide) ?_
    refine mi_ist rfl mh_a43 (show 12 ≤ _ by omega) (by omega) (by omega) (by decide) ?_
    rw [mh_w43 (by omega)]
    refine go_a (pc' := 176) (ls' := [some (.ref h.length), some (.int (iI o)), some (.int (iI q)), some (.int (iI x)), some (.int (iI m)), some (.int (iI t0)), some (.int (iI (j + 1)))]) (st' := []) rfl (by rw [← iI_add j 1]; rfl) ?_
    refine go_a (pc' := 140) (ls' := [some (.ref h.length), some (.int (iI o)), some (.int (iI q)), some (.int (iI x)), some (.int (iI m)), some (.int (iI t0)), some (.int (iI (j + 1)))]) (st' := []) rfl rfl ?_
    refine ih (j + 1) _ (by omega) (by omega) (by omega) ⟨fun a ha => (sa_ne ha).trans (C.1 a ha), fun k k0 k1 => ?_, fun e he => ?_⟩
    · show sf (A2 43) (64 * (q + 1) + j) (A2 43 (64 * q + j)) (64 * (q + 1) + k) = _
      by_cases e : k = j
      · rw [e, sf_self]
        exact C.2.2 _ (by omega)
      · rw [sf_ne (by omega)]
        exact C.2.1 k k0 (by omega)
    · show sf (A2 43) (64 * (q + 1) + j) (A2 43 (64 * q + j)) e = _
      rw [sf_ne (by omega)]
      exact C.2.2 e he
def sp_ext (s : List (Bool × ob_T) × ob_T) : List (List (Bool × ob_T) × ob_T) := (sp_ph s.2).map (fun p => (s.1 ++ p.1, p.2))
def sp_pst (S : List (List (Bool × ob_T) × ob_T)) : List (List (Bool × ob_T) × ob_T) := S.foldl (fun acc s => sp_ext s ++ acc) []
theorem sp_pst_s (S : List (List (Bool × ob_T) × ob_T)) (s : List (Bool × ob_T) × ob_T) : sp_pst (S ++ [s]) = sp_ext s ++ sp_pst S := by
  unfold sp_pst
  rw [List.foldl_append]
  rfl
theorem sp_ext_if (R : List (Bool × ob_T)) (c x y z : ob_T) : sp_ext (R, .add (.var 429) (.add c (.add x (.add y z)))) = sp_ext (R ++ [(true, c)], x) ++ sp_ext (R ++ [(false, c)], y) := by
  unfold sp_ext
  rw [sp_ph_if, List.map_append, List.map_map, List.map_map]
  refine congr (congrArg (fun a b => a ++ b) (List.map_congr_left (fun p _ => ?_))) (List.map_congr_left (fun p _ => ?_))
  · show (R ++ (true, c) :: p.1, p.2) = ((R ++ [(true, c)]) ++ p.1, p.2)
    rw [List.append_assoc]
    rfl
  · show (R ++ (false, c) :: p.1, p.2) = ((R ++ [(false, c)]) ++ p.1, p.2)
    rw [List.append_assoc]
    rfl
theorem sp_ext_end {R : List (Bool × ob_T)} {t : ob_T} (h : sp_ph t = [([], t)]) : sp_ext (R, t) = [(R, t)] := by
  unfold sp_ext
  rw [h]
  show [(R ++ [], t)] = _
  rw [List.append_nil]
def PEN (N : Int → Int) (A1 : Nat → Int → Int) (w : Prop) (R : List (Bool × ob_T)) (m : Int) (f : Int → Int) : Prop := (R.length : Int) = m ∧ ∀ k : Nat, k < R.length → ∃ (b : Bool) (τ : ob_T), R[k]? = some (b, τ) ∧ (w → DM A1 N (f k) = (if b = true then τ else sp_not τ))
def WOK (R : List (Bool × ob_T)) : Prop := ∀ p ∈ R, p.1 = false → (sp_sz (sp_not p.2)).1 ≤ 120
def PXI (ar : Int → Int) (o n : Int) (I : Nat → Int) (A : Nat → Int → Int) (N : Int → Int) (I1 : Nat → Int) (A1 : Nat → Int → Int) : Prop := ∃ P S : List (List (Bool × ob_T) × ob_T), ((P.length : Int) = I1 71 ∧ (S.length : Int) = n) ∧ (∀ e : Nat, e < P.length → ∃ p : List (Bool × ob_T) × ob_T, P[e]? = some p ∧ p.2 = DM A N (A1 39 e) ∧ PEN N A1 (I1 49 = 0) p.1 (A1 41 e) (fun k => A1 40 (64 * e + k))) ∧ (∀ e : Nat, e < S.length → ∃ s : List (Bool × ob_T) × ob_T, S[e]? = some s ∧ (s.2 = DM A N (A1 42 e) ∧ 1 ≤ TS A ar (A1 42 e)) ∧ PEN N A1 (I1 49 = 0) s.1 (A1 44 e) (fun k => A1 43 (64 * e + k))) ∧ P ++ sp_pst S = sp_ph (DM A N o) ∧ (I1 49 = 0 ↔ I 49 = 0 ∧ (∀ p ∈ P, WOK p.1) ∧ ∀ s ∈ S, WOK s.1)
section PXS
variable {ar : Int → Int} {o n : Int} {I I1 I3 : Nat → Int} {A A1 A4 : Nat → Int → Int} {N : Int → Int}
theorem PEN_mono {w w4 : Prop} {R : List (Bool × ob_T)} {m : Int} {f f2 : Int → Int} (h : PEN N A1 w R m f) (hf : ∀ k : Int, 0 ≤ k → k < m → f2 k = f k ∧ DM A4 N (f k) = DM A1 N (f k)) (hw : w4 → w) : PEN N A4 w4 R m f2 := by
  refine ⟨h.1, fun k hk => ?_⟩
  have h1 := h.1
  obtain ⟨b, τ, e1, e2⟩ := h.2 k hk
  refine ⟨b, τ, e1, fun q => ?_⟩
  have q2 := hf k (by omega) (by omega)
  rw [q2.1, q2.2]
  exact e2 (hw q)
theorem PEN_more {w : Prop} {R : List (Bool × ob_T)} {m x : Int} {f f2 : Int → Int} {b : Bool} {τ : ob_T} (h : PEN N A1 w R m f) (hf : ∀ k : Int, 0 ≤ k → k < m → f2 k = f k) (hm : f2 m = x) (hx : w → DM A1 N x = (if b = true then τ else sp_not τ)) : PEN N A1 w (R ++ [(b, τ)]) (m + 1) f2 := by
  have h1 := h.1
  refine ⟨by rw [List.length_append]; show ((R.length + 1 : Nat) : Int) = _; omega, fun k hk => ?_⟩
  rw [List.length_append] at hk
  have hk : k < R.length + 1 := hk
  by_cases e : k < R.length
  · obtain ⟨b2, t2, e1, e2⟩ := h.2 k e
    refine ⟨b2, t2, by rw [List.getElem?_append_left e]; exact e1, fun q => ?_⟩
    rw [hf k (by omega) (by omega)]
    exact e2 q
  · have ek : k = R.length := by omega
    refine ⟨b, τ, by rw [ek, List.getElem?_append_right (Nat.le_refl _), Nat.sub_self]; rfl, fun q => ?_⟩
    rw [show ((k : Nat) : Int) = m by omega, hm]
    exact hx q
theorem WOK_app {R : List (Bool × ob_T)} {b : Bool} {τ : ob_T} : WOK (R ++ [(b, τ)]) ↔ WOK R ∧ (b = false → (sp_sz (sp_not τ)).1 ≤ 120) := by
  constructor
  · intro h
    exact ⟨fun p hp => h p (List.mem_append.mpr (Or.inl hp)), fun e => h (b, τ) (List.mem_append.mpr (Or.inr (List.mem_singleton.mpr rfl))) e⟩
  · intro h p hp e
    rcases List.mem_append.mp hp with q | q
    · exact h.1 p q e
    · rw [List.mem_singleton.mp q] at e ⊢
      exact h.2 e
theorem app_last {α : Type} {S : List α} {n : Int} (h : (S.length : Int) = n) (n1 : 0 < n) : ∃ (S0 : List α) (s : α), S = S0 ++ [s] ∧ (S0.length : Int) = n - 1 := by
  have ne : S ≠ [] := by
    intro e
    rw [e] at h
    have h : (0 : Int) = n := h
    omega
  refine ⟨S.dropLast, S.getLast ne, (List.dropLast_concat_getLast ne).symm, ?_⟩
  rw [List.length_dropLast]
  omega
theorem PXI_if {T1 T2 T3 t : Int} {zz : ob_T} (px : PXI ar o n I A N I1 A1) (n1 : 0 < n) (hd : DM A N (A1 42 (n - 1)) = .add (.var 429) (.add (DM A N T1) (.add (DM A N T2) (.add (DM A N T3) zz)))) (hts : 1 ≤ TS A ar T2 ∧ 1 ≤ TS A ar T3) (i71 : I3 71 = I1 71) (r39 : ∀ e : Int, 0 ≤ e → e < I1 71 → A4 39 e = A1 39 e ∧ A4 41 e = A1 41 e ∧ ∀ k : Int, 0 ≤ k → k < A1 41 e → A4 40 (64 * e + k) = A1 40 (64 * e + k) ∧ DM A4 N (A1 40 (64 * e + k)) = DM A1 N (A1 40 (64 * e + k))) (r42 : ∀ e : Int, 0 ≤ e → e < n - 1 → A4 42 e = A1 42 e ∧ A4 44 e = A1 44 e ∧ ∀ k : Int, 0 ≤ k → k < A1 44 e → A4 43 (64 * e + k) = A1 43 (64 * e + k)) (rd : ∀ e : Int, 0 ≤ e → e < n → ∀ k : Int, 0 ≤ k → k < A1 44 e → DM A4 N (A1 43 (64 * e + k)) = DM A1 N (A1 43 (64 * e + k))) (rn : A4 42 (n - 1) = T3 ∧ A4 44 (n - 1) = A1 44 (n - 1) + 1 ∧ (∀ k : Int, 0 ≤ k → k < A1 44 (n - 1) → A4 43 (64 * (n - 1) + k) = A1 43 (64 * (n - 1) + k)) ∧ A4 43 (64 * (n - 1) + A1 44 (n - 1)) = t) (rm : A4 42 n = T2 ∧ A4 44 n = A1 44 (n - 1) + 1 ∧ (∀ k : Int, 0 ≤ k → k < A1 44 (n - 1) → A4 43 (64 * n + k) = A1 43 (64 * (n - 1) + k)) ∧ A4 43 (64 * n + A1 44 (n - 1)) = T1) (dt : DM A4 N t = sp_not (DM A N T1)) (d1 : DM A4 N T1 = DM A N T1) (hw : I3 49 = 0 ↔ I1 49 = 0 ∧ (sp_sz (sp_not (DM A N T1))).1 ≤ 120) : PXI ar o (n + 1) I A N I3 A4 := by
  obtain ⟨P, S, ⟨lp, ls⟩, eP, eS, ht, ho⟩ := px
  obtain ⟨S0, s, rfl, l0⟩ := app_last ls n1
  have en : ((S0.length : Nat) : Int) = n - 1 := l0
  have w31 : I3 49 = 0 → I1 49 = 0 := fun q => (hw.mp q).1
  obtain ⟨s', es, ⟨es1, -⟩, es2⟩ := eS S0.length (by rw [List.length_append]; exact Nat.lt_succ_self _)
  rw [List.getElem?_append_right (Nat.le_refl _), Nat.sub_self] at es
  have es : s = s' := by
    have q : some s = some s' := es
    injection q
  subst es
  rw [en] at es1 es2
  rw [hd] at es1
  obtain ⟨R, b9⟩ := s
  have es1 : b9 = _ := es1
  subst es1
  have es2 : PEN N A1 (I1 49 = 0) R (A1 44 (n - 1)) (fun k => A1 43 (64 * (n - 1) + k)) := es2
  refine ⟨P, S0 ++ [(R ++ [(false, DM A N T1)], DM A N T3)] ++ [(R ++ [(true, DM A N T1)], DM A N T2)], ⟨by rw [lp, i71], ?_⟩, fun e he => ?_, fun e he => ?_, ?_, ?_⟩
  · rw [List.length_append, List.length_append]
    show ((S0.length + 1 + 1 : Nat) : Int) = n + 1
    omega
  · obtain ⟨p, p1, p2, p3⟩ := eP e he
    have q := r39 e (by omega) (by omega)
    exact ⟨p, p1, by rw [q.1]; exact p2, by rw [q.2.1]; exact PEN_mono p3 q.2.2 w31⟩
  · rw [List.length_append, List.length_append] at he
    have he : e < S0.length + 1 + 1 := he
    by_cases c : e < S0.length
    · obtain ⟨p, p1, p2, p3⟩ := eS e (by rw [List.length_append]; show e < S0.length + 1; omega)
      have q := r42 e (by omega) (by omega)
      rw [List.getElem?_append_left c] at p1
      refine ⟨p, by rw [List.append_assoc, List.getElem?_append_left c]; exact p1, by rw [q.1]; exact p2, ?_⟩
      rw [q.2.1]
      exact PEN_mono p3 (fun k k0 k1 => ⟨q.2.2 k k0 k1, rd e (by omega) (by omega) k k0 k1⟩) w31
    · by_cases c2 : e = S0.length
      · refine ⟨(R ++ [(false, DM A N T1)], DM A N T3), ?_, ?_, ?_⟩
        · rw [c2, List.append_assoc, List.getElem?_append_right (Nat.le_refl _), Nat.sub_self]
          rfl
        · rw [show ((e : Nat) : Int) = n - 1 by omega, rn.1]
          exact ⟨rfl, hts.2⟩
        · rw [show ((e : Nat) : Int) = n - 1 by omega, rn.2.1]
          refine PEN_more (x := t) (PEN_mono (A4 := A4) (f2 := fun k => A1 43 (64 * (n - 1) + k)) es2 (fun k k0 k1 => ⟨rfl, rd (n - 1) (by omega) (by omega) k k0 k1⟩) w31) (fun k k0 k1 => rn.2.2.1 k k0 k1) rn.2.2.2 (fun _ => ?_)
          rw [dt]
          rfl
      · have c3 : e = S0.length + 1 := by omega
        refine ⟨(R ++ [(true, DM A N T1)], DM A N T2), ?_, ?_, ?_⟩
        · rw [c3, List.getElem?_append_right (by rw [List.length_append]; exact Nat.le_refl _), List.length_append]
          show [_][S0.length + 1 - (S0.length + 1)]? = _
          rw [Nat.sub_self]
          rfl
        · rw [show ((e : Nat) : Int) = n by omega, rm.1]
          exact ⟨rfl, hts.1⟩
        · rw [show ((e : Nat) : Int) = n by omega, rm.2.1]
          refine PEN_more (x := T1) (PEN_mono (A4 := A4) (f2 := fun k => A1 43 (64 * (n - 1) + k)) es2 (fun k k0 k1 => ⟨rfl, rd (n - 1) (by omega) (by omega) k k0 k1⟩) w31) (fun k k0 k1 => rm.2.2.1 k k0 k1) rm.2.2.2 (fun _ => ?_)
          rw [d1]
          rfl
  · rw [sp_pst_s, sp_pst_s, ← List.append_assoc (sp_ext _), ← sp_ext_if _ _ _ _ zz, ← sp_pst_s]
    exact ht
  · rw [hw, ho]
    constructor
    · rintro ⟨⟨a1, a2, a3⟩, a4⟩
      have aR : WOK R := a3 _ (List.mem_append.mpr (Or.inr (List.mem_singleton.mpr rfl)))
      refine ⟨a1, a2, fun s hs => ?_⟩
      rcases List.mem_append.mp hs with hs | hs
      · rcases List.mem_append.mp hs with hs | hs
        · exact a3 s (List.mem_append.mpr (Or.inl hs))
        · rw [List.mem_singleton.mp hs]
          exact WOK_app.mpr ⟨aR, fun _ => a4⟩
      · rw [List.mem_singleton.mp hs]
        exact WOK_app.mpr ⟨aR, fun q => absurd q (by decide)⟩
    · rintro ⟨a1, a2, a3⟩
      have q := WOK_app.mp (a3 (R ++ [(false, DM A N T1)], DM A N T3) (List.mem_append.mpr (Or.inl (List.mem_append.mpr (Or.inr (List.mem_singleton.mpr rfl))))))
      refine ⟨⟨a1, a2, fun s hs => ?_⟩, q.2 rfl⟩
      rcases List.mem_append.mp hs with hs | hs
      · exact a3 s (List.mem_append.mpr (Or.inl (List.mem_append.mpr (Or.inl hs))))
      · rw [List.mem_singleton.mp hs]
        exact q.1
theorem PXI_end (px : PXI ar o n I A N I1 A1) (n1 : 0 < n) (hd : sp_ph (DM A N (A1 42 (n - 1))) = [([], DM A N (A1 42 (n - 1)))]) (p0 : 0 ≤ I1 71) (i71 : I3 71 = I1 71 + 1) (i49 : I3 49 = I1 49) (r39 : ∀ e : Int, 0 ≤ e → e < I1 71 → A4 39 e = A1 39 e ∧ A4 41 e = A1 41 e ∧ ∀ k : Int, 0 ≤ k → k < A1 41 e → A4 40 (64 * e + k) = A1 40 (64 * e + k) ∧ DM A4 N (A1 40 (64 * e + k)) = DM A1 N (A1 40 (64 * e + k))) (r42 : ∀ e : Int, 0 ≤ e → e < n - 1 → A4 42 e = A1 42 e ∧ A4 44 e = A1 44 e ∧ ∀ k : Int, 0 ≤ k → k < A1 44 e → A4 43 (64 * e + k) = A1 43 (64 * e + k) ∧ DM A4 N (A1 43 (64 * e + k)) = DM A1 N (A1 43 (64 * e + k))) (rn : A4 39 (I1 71) = A1 42 (n - 1) ∧ A4 41 (I1 71) = A1 44 (n - 1) ∧ ∀ k : Int, 0 ≤ k → k < A1 44 (n - 1) → A4 40 (64 * I1 71 + k) = A1 43 (64 * (n - 1) + k) ∧ DM A4 N (A1 43 (64 * (n - 1) + k)) = DM A1 N (A1 43 (64 * (n - 1) + k))) : PXI ar o (n - 1) I A N I3 A4 := by
  obtain ⟨P, S, ⟨lp, ls⟩, eP, eS, ht, ho⟩ := px
  obtain ⟨S0, s, rfl, l0⟩ := app_last ls n1
  have en : ((S0.length : Nat) : Int) = n - 1 := l0
  have w31 : I3 49 = 0 → I1 49 = 0 := fun q => i49 ▸ q
  obtain ⟨s', es, ⟨es1, -⟩, es2⟩ := eS S0.length (by rw [List.length_append]; exact Nat.lt_succ_self _)
  rw [List.getElem?_append_right (Nat.le_refl _), Nat.sub_self] at es
  have es : s = s' := by
    have q : some s = some s' := es
    injection q
  subst es
  rw [en] at es1 es2
  obtain ⟨R, b9⟩ := s
  have es1 : b9 = _ := es1
  subst es1
  have es2 : PEN N A1 (I1 49 = 0) R (A1 44 (n - 1)) (fun k => A1 43 (64 * (n - 1) + k)) := es2
  refine ⟨P ++ [(R, DM A N (A1 42 (n - 1)))], S0, ⟨?_, l0⟩, fun e he => ?_, fun e he => ?_, ?_, ?_⟩
  · rw [List.length_append, i71]
    show ((P.length + 1 : Nat) : Int) = _
    omega
  · rw [List.length_append] at he
    have he : e < P.length + 1 := he
    by_cases c : e < P.length
    · obtain ⟨p, p1, p2, p3⟩ := eP e c
      have q := r39 e (by omega) (by omega)
      exact ⟨p, by rw [List.getElem?_append_left c]; exact p1, by rw [q.1]; exact p2, by rw [q.2.1]; exact PEN_mono p3 q.2.2 w31⟩
    · have c2 : e = P.length := by omega
      refine ⟨(R, DM A N (A1 42 (n - 1))), by rw [c2, List.getElem?_append_right (Nat.le_refl _), Nat.sub_self]; rfl, ?_, ?_⟩
      · rw [show ((e : Nat) : Int) = I1 71 by omega, rn.1]
      · rw [show ((e : Nat) : Int) = I1 71 by omega, rn.2.1]
        exact PEN_mono es2 rn.2.2 w31
  · obtain ⟨p, p1, p2, p3⟩ := eS e (by rw [List.length_append]; show e < S0.length + 1; omega)
    have q := r42 e (by omega) (by omega)
    rw [List.getElem?_append_left he] at p1
    exact ⟨p, p1, by rw [q.1]; exact p2, by rw [q.2.1]; exact PEN_mono p3 q.2.2 w31⟩
  · rw [sp_pst_s, sp_ext_end hd] at ht
    rw [List.append_assoc]
    exact ht
  · rw [i49, ho]
    constructor
    · rintro ⟨a1, a2, a3⟩
      refine ⟨a1, fun p hp => ?_, fun s hs => a3 s (List.mem_append.mpr (Or.inl hs))⟩
      rcases List.mem_append.mp hp with hp | hp
      · exact a2 p hp
      · rw [List.mem_singleton.mp hp]
        exact a3 (R, DM A N (A1 42 (n - 1))) (List.mem_append.mpr (Or.inr (List.mem_singleton.mpr rfl)))
    · rintro ⟨a1, a2, a3⟩
      refine ⟨a1, fun p hp => a2 p (List.mem_append.mpr (Or.inl hp)), fun s hs => ?_⟩
      rcases List.mem_append.mp hs with hs | hs
      · exact a3 s hs
      · rw [List.mem_singleton.mp hs]
        exact a2 (R, DM A N (A1 42 (n - 1))) (List.mem_append.mpr (Or.inr (List.mem_singleton.mpr rfl)))
end PXS
theorem ph_end {I : Nat → Int} {A : Nat → Int → Int} {N : Int → Int} {k : Int} (hS : MST I A N) (hN : NM I A) (hT : TRX I A N) (k0 : 0 ≤ k) (k1 : k < I 7) (e : A 1 k ≠ 3) : sp_ph (DM A N k) = [([], DM A N k)] := by
  by_cases c : A 1 k < 0
  · rcases DM_at hS k0 k1 c with ⟨-, n, q⟩ | ⟨-, v, q⟩
    · rw [q]
      rfl
    · rw [q]
      rfl
  · have q0 := (MST_PW hS).2 k k0 k1
    have q2 := q0.2.2.2.2 (by omega)
    rw [DM_pr hS hT k0 k1 (by omega)]
    by_cases c2 : A 1 (A 1 k) < 0
    · rcases DM_at hS (k := A 1 k) (by omega) (by omega) c2 with ⟨-, n, q⟩ | ⟨-, v, q⟩
      · rw [q]
        rfl
      · rw [q]
        refine sp_ph_ne (fun h => e ?_) _
        rw [h] at q
        exact (DM_nm hS hN hT (by omega) (by omega) (x := 3) (by decide)).mp q
    · rw [DM_pr hS hT (k := A 1 k) (by omega) (by omega) (by omega)]
      rfl
theorem TS_three {I : Nat → Int} {A : Nat → Int → Int} {ar : Int → Int} {k : Int} (hP : PW I A) (n0 : A 1 0 < 0) (k0 : 0 ≤ k) (k1 : k < I 7) (e : A 1 k = 3) (h : 1 ≤ TS A ar k) (p1 : 0 ≤ A 1 (A 2 k)) (p2 : 0 ≤ A 1 (A 2 (A 2 k))) (p3 : 0 ≤ A 1 (A 2 (A 2 (A 2 k)))) : 1 ≤ TS A ar (A 1 (A 2 k)) ∧ 1 ≤ TS A ar (A 1 (A 2 (A 2 k))) ∧ 1 ≤ TS A ar (A 1 (A 2 (A 2 (A 2 k)))) := by
  have nz : ∀ x : Int, 0 ≤ A 1 x → x ≠ 0 := fun x q z => by
    rw [z] at q
    omega
  have q0 := hP.2 k k0 k1
  have q2 := q0.2.2.2.2 (by omega)
  have a0 := hP.2 (A 2 k) (by omega) (by omega)
  have a2 := a0.2.2.2.2 p1
  have b0 := hP.2 (A 2 (A 2 k)) (by omega) (by omega)
  have b2 := b0.2.2.2.2 p2
  rw [TS_call hP k0 k1 (by omega) (by omega)] at h
  have c1 : 0 ≤ LSq A ar (A 2 k) := by
    by_cases c : 0 ≤ LSq A ar (A 2 k) ∧ CZ A ar (A 2 k) = ar (A 1 k)
    · exact c.1
    · rw [if_neg c] at h
      omega
  have z1 := nz _ p1
  have z2 := nz _ p2
  have z3 := nz _ p3
  rw [LS_pair hP (by omega) (by omega) p1] at c1
  have d1 : 1 ≤ TS A ar (A 1 (A 2 k)) ∧ 0 ≤ LSq A ar (A 2 (A 2 k)) := by
    by_cases c : 1 ≤ TS A ar (A 1 (A 2 k)) ∧ 0 ≤ LSq A ar (A 2 (A 2 k))
    · exact c
    · rw [if_neg c] at c1
      omega
  have c2 := d1.2
  rw [LS_pair hP (by omega) (by omega) p2] at c2
  have d2 : 1 ≤ TS A ar (A 1 (A 2 (A 2 k))) ∧ 0 ≤ LSq A ar (A 2 (A 2 (A 2 k))) := by
    by_cases c : 1 ≤ TS A ar (A 1 (A 2 (A 2 k))) ∧ 0 ≤ LSq A ar (A 2 (A 2 (A 2 k)))
    · exact c
    · rw [if_neg c] at c2
      omega
  have c3 := d2.2
  rw [LS_pair hP (by omega) (by omega) p3] at c3
  have d3 : 1 ≤ TS A ar (A 1 (A 2 (A 2 (A 2 k)))) ∧ 0 ≤ LSq A ar (A 2 (A 2 (A 2 (A 2 k)))) := by
    by_cases c : 1 ≤ TS A ar (A 1 (A 2 (A 2 (A 2 k)))) ∧ 0 ≤ LSq A ar (A 2 (A 2 (A 2 (A 2 k))))
    · exact c
    · rw [if_neg c] at c3
      omega
  exact ⟨d1.1, d2.1, d3.1⟩
theorem mm_paths_loop (z : Value) (d : Nat) (ar : Int → Int) (o B : Int) (h R : xx_H) (I : Nat → Int) (A : Nat → Int → Int) (N : Int → Int) (hc : 12 ≤ h.length) (hS : MST I A N) (hN : NM I A) (hX : TRX I A N) (a3 : ar 3 = 3) (a15 : ar 15 = 1) (b56 : 0 ≤ I 56) (b56b : I 56 ≤ 2390) (ho : I 7 + 484 ≤ 140000) (B9 : B ≤ 120) : ∀ (f : Nat) (n : Int) (I1 : Nat → Int) (A1 : Nat → Int → Int) (y3 y4 y5 y6 : Option Value), SG (TZ A ar) (A1 42) n.toNat ≤ f → PTI ar B o n I A N I1 A1 → PXI ar o n I A N I1 A1 → xx_go (xt_P z) (d + 8) 122 21 [some (.ref h.length), some (.int (iI o)), some (.int (iI n)), y3, y4, y5, y6] [] (mh h R I1 A1 N) (fun v h1 => v = none ∧ ∃ (I1 : Nat → Int) (A1 : Nat → Int → Int), h1 = mh h R I1 A1 N ∧ PTHq ar B o I A N I1 A1 ∧ PXI ar o 0 I A N I1 A1) := by
  have hP := MST_PW hS
  have n0 : A 1 0 < 0 := by rw [hN.2 0 (by decide) (by decide)]; decide
  intro f
  induction f with
  | zero =>
    intro n I1 A1 y3 y4 y5 y6 hf p px
    have cnt := PTI_cnt p
    obtain ⟨⟨X, Z1⟩, ⟨u1, u2⟩, ⟨n00, pp, c7⟩, hE, hT, hG, hB⟩ := id p
    have P1 := MST_PW X.1
    have x7 := X.2.1
    have nz : n = 0 := by
      have b := SG_cnt (g := TZ A ar) (f := A1 42) n.toNat (fun e he => (hT e (by omega) (by omega)).1.2)
      omega
    subst nz
    refine go_a (pc' := 22) (ls' := [some (.ref h.length), some (.int (iI o)), some (.int (iI 0)), y3, y4, y5, y6]) (st' := [.int (iI 0)]) rfl rfl ?_
    refine mi_le0 (t := 267) rfl rfl (by omega) (by omega) (fun _ => ?_) (fun e => absurd (Int.le_refl _) e)
    exact go_r rfl rfl rfl rfl rfl rfl ⟨rfl, I1, A1, rfl, p, px⟩
  | succ f ih =>
    intro n I1 A1 y3 y4 y5 y6 hf p px
    have cnt := PTI_cnt p
    obtain ⟨⟨X, Z1⟩, ⟨u1, u2⟩, ⟨n00, pp, c7⟩, hE, hT, hG, hB⟩ := id p
    have P1 := MST_PW X.1
    have x7 := X.2.1
    refine go_a (pc' := 22) (ls' := [some (.ref h.length), some (.int (iI o)), some (.int (iI n)), y3, y4, y5, y6]) (st' := [.int (iI n)]) rfl rfl ?_
    refine mi_le0 (t := 267) rfl rfl (by omega) (by omega) (fun e => ?_) (fun e => ?_)
    · have nz : n = 0 := by omega
      subst nz
      exact go_r rfl rfl rfl rfl rfl rfl ⟨rfl, I1, A1, rfl, p, px⟩
    · have tp := hT (n - 1) (by omega) (by omega)
      have mm := RLP_many tp B9
      have t1 := tp.1
      have m0 := tp.2.1
      have sp : SG (TZ A ar) (A1 42) n.toNat = SG (TZ A ar) (A1 42) (n - 1).toNat + TZ A ar (A1 42 (n - 1)) := SG_pop (by omega)
      have gp : ∀ g : Int → Int, SG (PS A g) (A1 42) n.toNat = SG (PS A g) (A1 42) (n - 1).toNat + PS A g (A1 42 (n - 1)) := fun g => SG_pop (by omega)
      have p1 := P1.1
      refine go_a (pc' := 28) (ls' := [some (.ref h.length), some (.int (iI o)), some (.int (iI (n + (-1)))), y3, y4, y5, y6]) (st' := []) rfl (by rw [← iI_add n (-1)]; rfl) ?_
      refine go_a (pc' := 29) (ls' := [some (.ref h.length), some (.int (iI o)), some (.int (iI (n + (-1)))), y3, y4, y5, y6]) (st' := [.ref h.length]) rfl rfl ?_
      refine go_get rfl mh_o rfl rfl ?_
      refine go_a (pc' := 33) (ls' := [some (.ref h.length), some (.int (iI o)), some (.int (iI (n + (-1)))), y3, y4, y5, y6]) (st' := [.int (iI (n + (-1))), .ref (h.length + 42)]) rfl rfl ?_
      refine mi_ild rfl mh_a42 (by omega) (by omega) (by decide) ?_
      refine go_a (pc' := 35) (ls' := [some (.ref h.length), some (.int (iI o)), some (.int (iI (n + (-1)))), some (.int (iI (A1 42 (n + (-1))))), y4, y5, y6]) (st' := []) rfl rfl ?_
      refine go_a (pc' := 36) (ls' := [some (.ref h.length), some (.int (iI o)), some (.int (iI (n + (-1)))), some (.int (iI (A1 42 (n + (-1))))), y4, y5, y6]) (st' := [.ref h.length]) rfl rfl ?_
      refine go_get rfl mh_o rfl rfl ?_
      refine go_a (pc' := 40) (ls' := [some (.ref h.length), some (.int (iI o)), some (.int (iI (n + (-1)))), some (.int (iI (A1 42 (n + (-1))))), y4, y5, y6]) (st' := [.int (iI (n + (-1))), .ref (h.length + 44)]) rfl rfl ?_
      refine mi_ild rfl mh_a44 (by omega) (by omega) (by decide) ?_
      refine go_a (pc' := 43) (ls' := [some (.ref h.length), some (.int (iI o)), some (.int (iI (n + (-1)))), some (.int (iI (A1 42 (n + (-1))))), some (.int (iI (A1 44 (n + (-1))))), y5, y6]) (st' := []) rfl rfl ?_
      refine go_a (pc' := 44) (ls' := [some (.ref h.length), some (.int (iI o)), some (.int (iI (n + (-1)))), some (.int (iI (A1 42 (n + (-1))))), some (.int (iI (A1 44 (n + (-1))))), y5, y6]) (st' := [.ref h.length]) rfl rfl ?_
      refine go_a (pc' := 45) (ls' := [some (.ref h.length), some (.int (iI o)), some (.int (iI (n + (-1)))), some (.int (iI (A1 42 (n + (-1))))), some (.int (iI (A1 44 (n + (-1))))), y5, y6]) (st' := [.int (iI (A1 42 (n + (-1)))), .ref h.length]) rfl rfl ?_
      refine go_a (pc' := 46) (ls' := [some (.ref h.length), some (.int (iI o)), some (.int (iI (n + (-1)))), some (.int (iI (A1 42 (n + (-1))))), some (.int (iI (A1 44 (n + (-1))))), y5, y6]) (st' := [.int (iI 3), .int (iI (A1 42 (n + (-1)))), .ref h.length]) rfl rfl ?_
      rw [show n + (-1) = n - 1 by omega]
      show xx_go (xt_P z) (d + 8) 122 46 [some (.ref h.length), some (.int (iI o)), some (.int (iI (n - 1))), some (.int (iI (A1 42 (n - 1)))), some (.int (iI (A1 44 (n - 1)))), y5, y6] [.int (iI 3), .int (iI (A1 42 (n - 1))), .ref h.length] (mh h R I1 A1 N) _
      refine go_v (m := 123) (as := [.ref h.length, .int (iI (A1 42 (n - 1))), .int (iI 3)]) (r := []) rfl rfl rfl mh_o rfl rfl (mb_isCallOf z (d + 6) (A1 42 (n - 1)) 3 h R I1 A1 N hc P1 t1.1.1 (by omega) (by decide) (by decide)) (fun v h1 hq => ?_)
      obtain ⟨⟨b, rfl, hb⟩, rfl⟩ := hq
      have o1 := (X.2.2.1 (A1 42 (n - 1)) t1.1.1 t1.1.2).1
      show xx_go (xt_P z) (d + 8) 122 49 [some (.ref h.length), some (.int (iI o)), some (.int (iI (n - 1))), some (.int (iI (A1 42 (n - 1)))), some (.int (iI (A1 44 (n - 1)))), y5, y6] [.int (iI b)] (mh h R I1 A1 N) _
      refine mi_ne0 (t := 129) rfl rfl (by omega) (by omega) (fun e2 => ?_) (fun e2 => ?_)
      · have e3 : A 1 (A1 42 (n - 1)) = 3 := by omega
        have q3 := TZ_three hP n0 t1.1.1 t1.1.2 (by omega) (by omega) (by rw [e3]; exact a3) t1.2
        have g1 := X.2.2.1 (A 2 (A1 42 (n - 1))) (by omega) (by omega)
        have g2 := X.2.2.1 (A 2 (A 2 (A1 42 (n - 1)))) (by omega) (by omega)
        have g3 := X.2.2.1 (A 2 (A 2 (A 2 (A1 42 (n - 1))))) (by omega) (by omega)
        have g0 := X.2.2.1 (A1 42 (n - 1)) t1.1.1 t1.1.2
        have r1 : A1 1 (rt A1 1 (A1 42 (n - 1))) = A 1 (A 2 (A1 42 (n - 1))) := by
          show A1 1 (A1 2 (A1 42 (n - 1))) = _
          rw [g0.2.1, g1.1]
        have r2 : A1 1 (rt A1 2 (A1 42 (n - 1))) = A 1 (A 2 (A 2 (A1 42 (n - 1)))) := by
          show A1 1 (A1 2 (A1 2 (A1 42 (n - 1)))) = _
          rw [g0.2.1, g1.2.1, g2.1]
        have r3 : A1 1 (rt A1 3 (A1 42 (n - 1))) = A 1 (A 2 (A 2 (A 2 (A1 42 (n - 1))))) := by
          show A1 1 (A1 2 (A1 2 (A1 2 (A1 42 (n - 1))))) = _
          rw [g0.2.1, g1.2.1, g2.2.1, g3.1]
        have L4 : isL A1 4 (A1 42 (n - 1)) := by
          show 0 ≤ A1 1 (A1 42 (n - 1)) ∧ 0 ≤ A1 1 (A1 2 (A1 42 (n - 1))) ∧ 0 ≤ A1 1 (A1 2 (A1 2 (A1 42 (n - 1)))) ∧ 0 ≤ A1 1 (A1 2 (A1 2 (A1 2 (A1 42 (n - 1))))) ∧ A1 2 (A1 2 (A1 2 (A1 2 (A1 42 (n - 1))))) = 0
          rw [g0.2.1, g1.2.1, g2.2.1, g3.2.1, g0.1, g1.1, g2.1, g3.1]
          exact ⟨by omega, q3.1.1.2.2, q3.1.2.1.2.2, q3.1.2.2.2.2, q3.2.1⟩
        have v1 := hP.2 (A 2 (A1 42 (n - 1))) (by omega) (by omega)
        have v2 := hP.2 (A 2 (A 2 (A1 42 (n - 1)))) (by omega) (by omega)
        have v3 := hP.2 (A 2 (A 2 (A 2 (A1 42 (n - 1))))) (by omega) (by omega)
        refine go_a (pc' := 130) (ls' := [some (.ref h.length), some (.int (iI o)), some (.int (iI (n - 1))), some (.int (iI (A1 42 (n - 1)))), some (.int (iI (A1 44 (n - 1)))), y5, y6]) (st' := [.ref h.length]) rfl rfl ?_
        refine go_a (pc' := 131) (ls' := [some (.ref h.length), some (.int (iI o)), some (.int (iI (n - 1))), some (.int (iI (A1 42 (n - 1)))), some (.int (iI (A1 44 (n - 1)))), y5, y6]) (st' := [.int (iI (A1 42 (n - 1))), .ref h.length]) rfl rfl ?_
        refine go_a (pc' := 132) (ls' := [some (.ref h.length), some (.int (iI o)), some (.int (iI (n - 1))), some (.int (iI (A1 42 (n - 1)))), some (.int (iI (A1 44 (n - 1)))), y5, y6]) (st' := [.int (iI 1), .int (iI (A1 42 (n - 1))), .ref h.length]) rfl rfl ?_
        refine go_v (m := 124) (as := [.ref h.length, .int (iI (A1 42 (n - 1))), .int (iI 1)]) (r := []) rfl rfl rfl mh_o rfl rfl (mm_term z (d + 6) 1 4 (A1 42 (n - 1)) h R I1 A1 N hc P1 (by decide) t1.1.1 (by omega) L4 (by decide)) (fun v h1 hq => ?_)
        obtain ⟨rfl, rfl⟩ := hq
        rw [r1]
        show xx_go (xt_P z) (d + 8) 122 135 [some (.ref h.length), some (.int (iI o)), some (.int (iI (n - 1))), some (.int (iI (A1 42 (n - 1)))), some (.int (iI (A1 44 (n - 1)))), y5, y6] [.int (iI (A 1 (A 2 (A1 42 (n - 1)))))] (mh h R I1 A1 N) _
        refine go_a (pc' := 137) (ls' := [some (.ref h.length), some (.int (iI o)), some (.int (iI (n - 1))), some (.int (iI (A1 42 (n - 1)))), some (.int (iI (A1 44 (n - 1)))), some (.int (iI (A 1 (A 2 (A1 42 (n - 1)))))), y6]) (st' := []) rfl rfl ?_
        refine go_a (pc' := 138) (ls' := [some (.ref h.length), some (.int (iI o)), some (.int (iI (n - 1))), some (.int (iI (A1 42 (n - 1)))), some (.int (iI (A1 44 (n - 1)))), some (.int (iI (A 1 (A 2 (A1 42 (n - 1)))))), y6]) (st' := [.int (iI 0)]) rfl rfl ?_
        refine go_a (pc' := 140) (ls' := [some (.ref h.length), some (.int (iI o)), some (.int (iI (n - 1))), some (.int (iI (A1 42 (n - 1)))), some (.int (iI (A1 44 (n - 1)))), some (.int (iI (A 1 (A 2 (A1 42 (n - 1)))))), some (.int (iI 0))]) (st' := []) rfl rfl ?_
        refine mm_paths_copy2 z (d + 8) o (n - 1) (A1 42 (n - 1)) (A1 44 (n - 1)) (A 1 (A 2 (A1 42 (n - 1)))) h R I1 A1 N hc _ (by omega) (by omega) m0 (by omega) (fun A2 y6 C => ?_) (A1 44 (n - 1)).toNat 0 A1 (by omega) (Int.le_refl _) m0 ⟨fun _ _ => rfl, fun k k0 k1 => absurd k1 (by omega), fun _ _ => rfl⟩
        show xx_go (xt_P z) (d + 8) 122 179 [some (.ref h.length), some (.int (iI o)), some (.int (iI (n - 1))), some (.int (iI (A1 42 (n - 1)))), some (.int (iI (A1 44 (n - 1)))), some (.int (iI (A 1 (A 2 (A1 42 (n - 1)))))), y6] [] (mh h R I1 A2 N) _
        have S2 : MST I1 A2 N := MST_congr X.1 rfl rfl (C.1 1 (by decide)) (C.1 2 (by decide)) (C.1 3 (by decide)) (C.1 4 (by decide)) (C.1 5 (by decide)) (C.1 7 (by decide)) (C.1 8 (by decide)) (C.1 9 (by decide))
        have P2 := MST_PW S2
        have Z2 : SZI ar I1 A2 := SZI_124 Z1 (C.1 1 (by decide)) (C.1 2 (by decide)) (C.1 4 (by decide)) rfl
        have N2 : NM I1 A2 := ⟨by have := hN.1; omega, fun k k0 k1 => by rw [C.1 1 (by decide), (X.2.2.1 k k0 (by have := hN.1; omega)).1]; exact hN.2 k k0 k1⟩
        have tz2 := TZ_124 (A := A1) (A1 := A2) (ar := ar) (C.1 1 (by decide)) (C.1 2 (by decide)) (C.1 4 (by decide))
        have tt : TZ A2 ar (A 1 (A 2 (A1 42 (n - 1)))) = TZ A ar (A 1 (A 2 (A1 42 (n - 1)))) := by
          rw [tz2.1]
          exact (TZ_BX hP X (by omega) (by omega)).1 q3.2.2.1.1
        have i56 : I1 56 = I 56 := X.2.2.2.1 56 (by decide) (by unfold FP; omega)
        obtain ⟨_, _, ⟨_, ls9⟩, _, eS9, _, _⟩ := id px
        obtain ⟨_, _, ⟨_, ts0⟩, _⟩ := eS9 (n - 1).toNat (by omega)
        rw [show (((n - 1).toNat : Nat) : Int) = n - 1 by omega] at ts0
        have ts3 := TS_three hP n0 t1.1.1 t1.1.2 e3 ts0 q3.1.1.2.2 q3.1.2.1.2.2 q3.1.2.2.2.2
        have T1x : TRX I1 A1 N := TRX_BX hS hN hX X (by unfold FP; omega) (by unfold GP; omega) (by unfold GP; omega)
        have T2x : TRX I1 A2 N := TRX_12 T1x rfl (C.1 1 (by decide)) (C.1 2 (by decide)) (C.1 8 (by decide)) (C.1 9 (by decide))
        have hpx : A2 1 (A 1 (A 2 (A1 42 (n - 1)))) = 2 → 0 ≤ A2 1 (A2 2 (A 1 (A 2 (A1 42 (n - 1))))) ∧ A2 2 (A2 2 (A 1 (A 2 (A1 42 (n - 1))))) = 0 := by
          have u0 := X.2.2.1 (A 1 (A 2 (A1 42 (n - 1)))) (by omega) (by omega)
          rw [C.1 1 (by decide), C.1 2 (by decide), u0.1, u0.2.1]
          intro q2
          have w0 := hP.2 (A 1 (A 2 (A1 42 (n - 1)))) (by omega) (by omega)
          have w2 := w0.2.2.2.2 (by omega)
          have u1 := X.2.2.1 (A 2 (A 1 (A 2 (A1 42 (n - 1))))) (by omega) (by omega)
          rw [u1.1, u1.2.1]
          have ts1 := ts3.1
          rw [TS_quote q2] at ts1
          by_cases c : 0 ≤ A 1 (A 2 (A 1 (A 2 (A1 42 (n - 1))))) ∧ A 2 (A 2 (A 1 (A 2 (A1 42 (n - 1))))) = 0
          · exact c
          · rw [if_neg c] at ts1
            omega
        refine go_a (pc' := 180) (ls' := [some (.ref h.length), some (.int (iI o)), some (.int (iI (n - 1))), some (.int (iI (A1 42 (n - 1)))), some (.int (iI (A1 44 (n - 1)))), some (.int (iI (A 1 (A 2 (A1 42 (n - 1)))))), y6]) (st' := [.ref h.length]) rfl rfl ?_
        refine go_get rfl mh_o rfl rfl ?_
        refine go_a (pc' := 185) (ls' := [some (.ref h.length), some (.int (iI o)), some (.int (iI (n - 1))), some (.int (iI (A1 42 (n - 1)))), some (.int (iI (A1 44 (n - 1)))), some (.int (iI (A 1 (A 2 (A1 42 (n - 1)))))), y6]) (st' := [.int (iI 64), .ref (h.length + 43)]) rfl rfl ?_
        refine go_a (pc' := 186) (ls' := [some (.ref h.length), some (.int (iI o)), some (.int (iI (n - 1))), some (.int (iI (A1 42 (n - 1)))), some (.int (iI (A1 44 (n - 1)))), some (.int (iI (A 1 (A 2 (A1 42 (n - 1)))))), y6]) (st' := [.int (iI (n - 1)), .int (iI 64), .ref (h.length + 43)]) rfl rfl ?_
        refine mi_mul rfl ?_
        refine go_a (pc' := 189) (ls' := [some (.ref h.length), some (.int (iI o)), some (.int (iI (n - 1))), some (.int (iI (A1 42 (n - 1)))), some (.int (iI (A1 44 (n - 1)))), some (.int (iI (A 1 (A 2 (A1 42 (n - 1)))))), y6]) (st' := [.int (iI (A1 44 (n - 1))), .int (iI (64 * (n - 1))), .ref (h.length + 43)]) rfl rfl ?_
        refine mi_add rfl ?_
        refine go_a (pc' := 191) (ls' := [some (.ref h.length), some (.int (iI o)), some (.int (iI (n - 1))), some (.int (iI (A1 42 (n - 1)))), some (.int (iI (A1 44 (n - 1)))), some (.int (iI (A 1 (A 2 (A1 42 (n - 1)))))), y6]) (st' := [.ref h.length, .int (iI ((64 * (n - 1)) + (A1 44 (n - 1)))), .ref (h.length + 43)]) rfl rfl ?_
        refine go_a (pc' := 193) (ls' := [some (.ref h.length), some (.int (iI o)), some (.int (iI (n - 1))), some (.int (iI (A1 42 (n - 1)))), some (.int (iI (A1 44 (n - 1)))), some (.int (iI (A 1 (A 2 (A1 42 (n - 1)))))), y6]) (st' := [.int (iI (A 1 (A 2 (A1 42 (n - 1))))), .ref h.length, .int (iI ((64 * (n - 1)) + (A1 44 (n - 1)))), .ref (h.length + 43)]) rfl rfl ?_
        refine go_v (m := 125) (as := [.ref h.length, .int (iI (A 1 (A 2 (A1 42 (n - 1)))))]) (r := [.int (iI ((64 * (n - 1)) + (A1 44 (n - 1)))), .ref (h.length + 43)]) rfl rfl rfl mh_o rfl rfl (mm_notOf z (d + 1) ar (A 1 (A 2 (A1 42 (n - 1)))) h R I1 A2 N hc S2 N2 Z2 T2x hpx (by rw [tt]; exact q3.2.2.1.1) (by omega) (by omega) a15 (by omega) (by omega) (by omega) u1.1 u1.2) (fun v h1 hq => ?_)
        obtain ⟨t, I3, A3, rfl, rfl, D, ds, dt, dv⟩ := hq
        obtain ⟨X3, Z3, ⟨j54, j56⟩, ⟨d4, d5⟩, d7, ⟨w1, w2, w3⟩, -⟩ := D
        rw [tt] at w3
        rw [tt] at ds
        show xx_go (xt_P z) (d + 8) 122 196 [some (.ref h.length), some (.int (iI o)), some (.int (iI (n - 1))), some (.int (iI (A1 42 (n - 1)))), some (.int (iI (A1 44 (n - 1)))), some (.int (iI (A 1 (A 2 (A1 42 (n - 1)))))), y6] [.int (iI t), .int (iI ((64 * (n - 1)) + (A1 44 (n - 1)))), .ref (h.length + 43)] (mh h R I3 A3 N) _
        have P3 := MST_PW X3.1
        have y7 := X3.2.1
        have B3 := BX_FP X3 j54 j56
        have B2 : BX FP GP I1 A1 N I1 A2 N := ⟨S2, Int.le_refl _, fun k _ _ => ⟨by rw [C.1 1 (by decide)], by rw [C.1 2 (by decide)], rfl, fun e => by rw [C.1 4 (by decide)]; exact e⟩, fun _ _ _ => rfl, fun a _ _ _ _ _ _ q7 => C.1 a (fun e => q7 (by unfold GP; omega))⟩
        have B13 := BX_tr B2 B3
        have B03 := BX_tr X B13
        have i71 : I3 71 = I1 71 := X3.2.2.2.1 71 (by decide) (by unfold FW; omega)
        have a39 : A3 39 = A2 39 := X3.2.2.2.2 39 (by decide) (by decide) (by decide) (by decide) (by decide) (by decide) (by unfold GB; omega)
        have a40 : A3 40 = A2 40 := X3.2.2.2.2 40 (by decide) (by decide) (by decide) (by decide) (by decide) (by decide) (by unfold GB; omega)
        have a41 : A3 41 = A2 41 := X3.2.2.2.2 41 (by decide) (by decide) (by decide) (by decide) (by decide) (by decide) (by unfold GB; omega)
        have a42 : A3 42 = A2 42 := X3.2.2.2.2 42 (by decide) (by decide) (by decide) (by decide) (by decide) (by decide) (by unfold GB; omega)
        have a43 : A3 43 = A2 43 := X3.2.2.2.2 43 (by decide) (by decide) (by decide) (by decide) (by decide) (by decide) (by unfold GB; omega)
        have a44 : A3 44 = A2 44 := X3.2.2.2.2 44 (by decide) (by decide) (by decide) (by decide) (by decide) (by decide) (by unfold GB; omega)
        have h0 := (B13.2.2.1 (A1 42 (n - 1)) t1.1.1 (by omega))
        have k0 : A3 1 (A1 42 (n - 1)) = A1 1 (A1 42 (n - 1)) := h0.1
        have G1 := B13.2.2.1 (A1 2 (A1 42 (n - 1))) (by omega) (by rw [g0.2.1]; omega)
        have G2 := B13.2.2.1 (A1 2 (A1 2 (A1 42 (n - 1)))) (by rw [g0.2.1, g1.2.1]; omega) (by rw [g0.2.1, g1.2.1]; omega)
        have G3 := B13.2.2.1 (A1 2 (A1 2 (A1 2 (A1 42 (n - 1))))) (by rw [g0.2.1, g1.2.1, g2.2.1]; omega) (by rw [g0.2.1, g1.2.1, g2.2.1]; omega)
        have L43 : isL A3 4 (A1 42 (n - 1)) := isL_ext P1 (fun k a b => ⟨(B13.2.2.1 k a b).1, (B13.2.2.1 k a b).2.1⟩) 4 _ t1.1.1 (by omega) L4
        have R2 : A3 1 (rt A3 2 (A1 42 (n - 1))) = (A 1 (A 2 (A 2 (A1 42 (n - 1))))) := by
          show A3 1 (A3 2 (A3 2 (A1 42 (n - 1)))) = _
          rw [h0.2.1, G1.2.1, G2.1]
          exact r2
        have R3 : A3 1 (rt A3 3 (A1 42 (n - 1))) = (A 1 (A 2 (A 2 (A 2 (A1 42 (n - 1)))))) := by
          show A3 1 (A3 2 (A3 2 (A3 2 (A1 42 (n - 1))))) = _
          rw [h0.2.1, G1.2.1, G2.2.1, G3.1]
          exact r3
        refine mi_ist rfl mh_a43 (show 12 ≤ _ by omega) (by omega) (by omega) (by decide) ?_
        rw [mh_w43 (by omega)]
        refine go_a (pc' := 198) (ls' := [some (.ref h.length), some (.int (iI o)), some (.int (iI (n - 1))), some (.int (iI (A1 42 (n - 1)))), some (.int (iI (A1 44 (n - 1)))), some (.int (iI (A 1 (A 2 (A1 42 (n - 1)))))), y6]) (st' := [.ref h.length]) rfl rfl ?_
        refine go_get rfl mh_o rfl rfl ?_
        refine go_a (pc' := 203) (ls' := [some (.ref h.length), some (.int (iI o)), some (.int (iI (n - 1))), some (.int (iI (A1 42 (n - 1)))), some (.int (iI (A1 44 (n - 1)))), some (.int (iI (A 1 (A 2 (A1 42 (n - 1)))))), y6]) (st' := [.int (iI 64), .ref (h.length + 43)]) rfl rfl ?_
        refine go_a (pc' := 204) (ls' := [some (.ref h.length), some (.int (iI o)), some (.int (iI (n - 1))), some (.int (iI (A1 42 (n - 1)))), some (.int (iI (A1 44 (n - 1)))), some (.int (iI (A 1 (A 2 (A1 42 (n - 1)))))), y6]) (st' := [.int (iI (n - 1)), .int (iI 64), .ref (h.length + 43)]) rfl rfl ?_
        refine go_a (pc' := 205) (ls' := [some (.ref h.length), some (.int (iI o)), some (.int (iI (n - 1))), some (.int (iI (A1 42 (n - 1)))), some (.int (iI (A1 44 (n - 1)))), some (.int (iI (A 1 (A 2 (A1 42 (n - 1)))))), y6]) (st' := [.int (iI 1), .int (iI (n - 1)), .int (iI 64), .ref (h.length + 43)]) rfl rfl ?_
        refine mi_add rfl ?_
        refine mi_mul rfl ?_
        refine go_a (pc' := 209) (ls' := [some (.ref h.length), some (.int (iI o)), some (.int (iI (n - 1))), some (.int (iI (A1 42 (n - 1)))), some (.int (iI (A1 44 (n - 1)))), some (.int (iI (A 1 (A 2 (A1 42 (n - 1)))))), y6]) (st' := [.int (iI (A1 44 (n - 1))), .int (iI (64 * ((n - 1) + 1))), .ref (h.length + 43)]) rfl rfl ?_
        refine mi_add rfl ?_
        refine go_a (pc' := 212) (ls' := [some (.ref h.length), some (.int (iI o)), some (.int (iI (n - 1))), some (.int (iI (A1 42 (n - 1)))), some (.int (iI (A1 44 (n - 1)))), some (.int (iI (A 1 (A 2 (A1 42 (n - 1)))))), y6]) (st' := [.int (iI (A 1 (A 2 (A1 42 (n - 1))))), .int (iI ((64 * ((n - 1) + 1)) + (A1 44 (n - 1)))), .ref (h.length + 43)]) rfl rfl ?_
        refine mi_ist rfl mh_a43 (show 12 ≤ _ by omega) (by omega) (by omega) (by decide) ?_
        rw [mh_w43 (by omega)]
        refine go_a (pc' := 214) (ls' := [some (.ref h.length), some (.int (iI o)), some (.int (iI (n - 1))), some (.int (iI (A1 42 (n - 1)))), some (.int (iI (A1 44 (n - 1)))), some (.int (iI (A 1 (A 2 (A1 42 (n - 1)))))), y6]) (st' := [.ref h.length]) rfl rfl ?_
        refine go_get rfl mh_o rfl rfl ?_
        refine go_a (pc' := 218) (ls' := [some (.ref h.length), some (.int (iI o)), some (.int (iI (n - 1))), some (.int (iI (A1 42 (n - 1)))), some (.int (iI (A1 44 (n - 1)))), some (.int (iI (A 1 (A 2 (A1 42 (n - 1)))))), y6]) (st' := [.int (iI (n - 1)), .ref (h.length + 44)]) rfl rfl ?_
        refine go_a (pc' := 220) (ls' := [some (.ref h.length), some (.int (iI o)), some (.int (iI (n - 1))), some (.int (iI (A1 42 (n - 1)))), some (.int (iI (A1 44 (n - 1)))), some (.int (iI (A 1 (A 2 (A1 42 (n - 1)))))), y6]) (st' := [.int (iI (A1 44 (n - 1))), .int (iI (n - 1)), .ref (h.length + 44)]) rfl rfl ?_
        refine go_a (pc' := 221) (ls' := [some (.ref h.length), some (.int (iI o)), some (.int (iI (n - 1))), some (.int (iI (A1 42 (n - 1)))), some (.int (iI (A1 44 (n - 1)))), some (.int (iI (A 1 (A 2 (A1 42 (n - 1)))))), y6]) (st' := [.int (iI 1), .int (iI (A1 44 (n - 1))), .int (iI (n - 1)), .ref (h.length + 44)]) rfl rfl ?_
        refine mi_add rfl ?_
        refine mi_ist rfl mh_a44 (show 12 ≤ _ by omega) (by omega) (by omega) (by decide) ?_
        rw [mh_w44 (by omega)]
        refine go_a (pc' := 224) (ls' := [some (.ref h.length), some (.int (iI o)), some (.int (iI (n - 1))), some (.int (iI (A1 42 (n - 1)))), some (.int (iI (A1 44 (n - 1)))), some (.int (iI (A 1 (A 2 (A1 42 (n - 1)))))), y6]) (st' := [.ref h.length]) rfl rfl ?_
        refine go_get rfl mh_o rfl rfl ?_
        refine go_a (pc' := 228) (ls' := [some (.ref h.length), some (.int (iI o)), some (.int (iI (n - 1))), some (.int (iI (A1 42 (n - 1)))), some (.int (iI (A1 44 (n - 1)))), some (.int (iI (A 1 (A 2 (A1 42 (n - 1)))))), y6]) (st' := [.int (iI (n - 1)), .ref (h.length + 44)]) rfl rfl ?_
        refine go_a (pc' := 229) (ls' := [some (.ref h.length), some (.int (iI o)), some (.int (iI (n - 1))), some (.int (iI (A1 42 (n - 1)))), some (.int (iI (A1 44 (n - 1)))), some (.int (iI (A 1 (A 2 (A1 42 (n - 1)))))), y6]) (st' := [.int (iI 1), .int (iI (n - 1)), .ref (h.length + 44)]) rfl rfl ?_
        refine mi_add rfl ?_
        refine go_a (pc' := 232) (ls' := [some (.ref h.length), some (.int (iI o)), some (.int (iI (n - 1))), some (.int (iI (A1 42 (n - 1)))), some (.int (iI (A1 44 (n - 1)))), some (.int (iI (A 1 (A 2 (A1 42 (n - 1)))))), y6]) (st' := [.int (iI (A1 44 (n - 1))), .int (iI ((n - 1) + 1)), .ref (h.length + 44)]) rfl rfl ?_
        refine go_a (pc' := 233) (ls' := [some (.ref h.length), some (.int (iI o)), some (.int (iI (n - 1))), some (.int (iI (A1 42 (n - 1)))), some (.int (iI (A1 44 (n - 1)))), some (.int (iI (A 1 (A 2 (A1 42 (n - 1)))))), y6]) (st' := [.int (iI 1), .int (iI (A1 44 (n - 1))), .int (iI ((n - 1) + 1)), .ref (h.length + 44)]) rfl rfl ?_
        refine mi_add rfl ?_
        refine mi_ist rfl mh_a44 (show 12 ≤ _ by omega) (by omega) (by omega) (by decide) ?_
        rw [mh_w44 (by omega)]
        refine go_a (pc' := 236) (ls' := [some (.ref h.length), some (.int (iI o)), some (.int (iI (n - 1))), some (.int (iI (A1 42 (n - 1)))), some (.int (iI (A1 44 (n - 1)))), some (.int (iI (A 1 (A 2 (A1 42 (n - 1)))))), y6]) (st' := [.ref h.length]) rfl rfl ?_
        refine go_get rfl mh_o rfl rfl ?_
        refine go_a (pc' := 240) (ls' := [some (.ref h.length), some (.int (iI o)), some (.int (iI (n - 1))), some (.int (iI (A1 42 (n - 1)))), some (.int (iI (A1 44 (n - 1)))), some (.int (iI (A 1 (A 2 (A1 42 (n - 1)))))), y6]) (st' := [.int (iI (n - 1)), .ref (h.length + 42)]) rfl rfl ?_
        refine go_a (pc' := 241) (ls' := [some (.ref h.length), some (.int (iI o)), some (.int (iI (n - 1))), some (.int (iI (A1 42 (n - 1)))), some (.int (iI (A1 44 (n - 1)))), some (.int (iI (A 1 (A 2 (A1 42 (n - 1)))))), y6]) (st' := [.ref h.length, .int (iI (n - 1)), .ref (h.length + 42)]) rfl rfl ?_
        refine go_a (pc' := 242) (ls' := [some (.ref h.length), some (.int (iI o)), some (.int (iI (n - 1))), some (.int (iI (A1 42 (n - 1)))), some (.int (iI (A1 44 (n - 1)))), some (.int (iI (A 1 (A 2 (A1 42 (n - 1)))))), y6]) (st' := [.int (iI (A1 42 (n - 1))), .ref h.length, .int (iI (n - 1)), .ref (h.length + 42)]) rfl rfl ?_
        refine go_a (pc' := 243) (ls' := [some (.ref h.length), some (.int (iI o)), some (.int (iI (n - 1))), some (.int (iI (A1 42 (n - 1)))), some (.int (iI (A1 44 (n - 1)))), some (.int (iI (A 1 (A 2 (A1 42 (n - 1)))))), y6]) (st' := [.int (iI 3), .int (iI (A1 42 (n - 1))), .ref h.length, .int (iI (n - 1)), .ref (h.length + 42)]) rfl rfl ?_
        have PX : PW I3 (sa (sa (sa (sa A3 43 ((64 * (n - 1)) + (A1 44 (n - 1))) t) 43 ((64 * ((n - 1) + 1)) + (A1 44 (n - 1))) (A 1 (A 2 (A1 42 (n - 1))))) 44 (n - 1) ((A1 44 (n - 1)) + 1)) 44 ((n - 1) + 1) ((A1 44 (n - 1)) + 1)) := P3
        have LX : isL (sa (sa (sa (sa A3 43 ((64 * (n - 1)) + (A1 44 (n - 1))) t) 43 ((64 * ((n - 1) + 1)) + (A1 44 (n - 1))) (A 1 (A 2 (A1 42 (n - 1))))) 44 (n - 1) ((A1 44 (n - 1)) + 1)) 44 ((n - 1) + 1) ((A1 44 (n - 1)) + 1)) 4 (A1 42 (n - 1)) := L43
        refine go_v (m := 124) (as := [.ref h.length, .int (iI (A1 42 (n - 1))), .int (iI 3)]) (r := [.int (iI (n - 1)), .ref (h.length + 42)]) rfl rfl rfl mh_o rfl rfl (mm_term z (d + 6) 3 4 (A1 42 (n - 1)) h R I3 (sa (sa (sa (sa A3 43 ((64 * (n - 1)) + (A1 44 (n - 1))) t) 43 ((64 * ((n - 1) + 1)) + (A1 44 (n - 1))) (A 1 (A 2 (A1 42 (n - 1))))) 44 (n - 1) ((A1 44 (n - 1)) + 1)) 44 ((n - 1) + 1) ((A1 44 (n - 1)) + 1)) N hc PX (by decide) t1.1.1 (by omega) LX (by decide)) (fun v h1 hq => ?_)
        obtain ⟨rfl, rfl⟩ := hq
        rw [show (sa (sa (sa (sa A3 43 ((64 * (n - 1)) + (A1 44 (n - 1))) t) 43 ((64 * ((n - 1) + 1)) + (A1 44 (n - 1))) (A 1 (A 2 (A1 42 (n - 1))))) 44 (n - 1) ((A1 44 (n - 1)) + 1)) 44 ((n - 1) + 1) ((A1 44 (n - 1)) + 1)) 1 (rt (sa (sa (sa (sa A3 43 ((64 * (n - 1)) + (A1 44 (n - 1))) t) 43 ((64 * ((n - 1) + 1)) + (A1 44 (n - 1))) (A 1 (A 2 (A1 42 (n - 1))))) 44 (n - 1) ((A1 44 (n - 1)) + 1)) 44 ((n - 1) + 1) ((A1 44 (n - 1)) + 1)) 3 (A1 42 (n - 1))) = (A 1 (A 2 (A 2 (A 2 (A1 42 (n - 1)))))) from R3]
        show xx_go (xt_P z) (d + 8) 122 246 [some (.ref h.length), some (.int (iI o)), some (.int (iI (n - 1))), some (.int (iI (A1 42 (n - 1)))), some (.int (iI (A1 44 (n - 1)))), some (.int (iI (A 1 (A 2 (A1 42 (n - 1)))))), y6] [.int (iI (A 1 (A 2 (A 2 (A 2 (A1 42 (n - 1))))))), .int (iI (n - 1)), .ref (h.length + 42)] (mh h R I3 (sa (sa (sa (sa A3 43 ((64 * (n - 1)) + (A1 44 (n - 1))) t) 43 ((64 * ((n - 1) + 1)) + (A1 44 (n - 1))) (A 1 (A 2 (A1 42 (n - 1))))) 44 (n - 1) ((A1 44 (n - 1)) + 1)) 44 ((n - 1) + 1) ((A1 44 (n - 1)) + 1)) N) _
        refine mi_ist rfl mh_a42 (show 12 ≤ _ by omega) (by omega) (by omega) (by decide) ?_
        rw [mh_w42 (by omega)]
        refine go_a (pc' := 248) (ls' := [some (.ref h.length), some (.int (iI o)), some (.int (iI (n - 1))), some (.int (iI (A1 42 (n - 1)))), some (.int (iI (A1 44 (n - 1)))), some (.int (iI (A 1 (A 2 (A1 42 (n - 1)))))), y6]) (st' := [.ref h.length]) rfl rfl ?_
        refine go_get rfl mh_o rfl rfl ?_
        refine go_a (pc' := 252) (ls' := [some (.ref h.length), some (.int (iI o)), some (.int (iI (n - 1))), some (.int (iI (A1 42 (n - 1)))), some (.int (iI (A1 44 (n - 1)))), some (.int (iI (A 1 (A 2 (A1 42 (n - 1)))))), y6]) (st' := [.int (iI (n - 1)), .ref (h.length + 42)]) rfl rfl ?_
        refine go_a (pc' := 253) (ls' := [some (.ref h.length), some (.int (iI o)), some (.int (iI (n - 1))), some (.int (iI (A1 42 (n - 1)))), some (.int (iI (A1 44 (n - 1)))), some (.int (iI (A 1 (A 2 (A1 42 (n - 1)))))), y6]) (st' := [.int (iI 1), .int (iI (n - 1)), .ref (h.length + 42)]) rfl rfl ?_
        refine mi_add rfl ?_
        refine go_a (pc' := 255) (ls' := [some (.ref h.length), some (.int (iI o)), some (.int (iI (n - 1))), some (.int (iI (A1 42 (n - 1)))), some (.int (iI (A1 44 (n - 1)))), some (.int (iI (A 1 (A 2 (A1 42 (n - 1)))))), y6]) (st' := [.ref h.length, .int (iI ((n - 1) + 1)), .ref (h.length + 42)]) rfl rfl ?_
        refine go_a (pc' := 256) (ls' := [some (.ref h.length), some (.int (iI o)), some (.int (iI (n - 1))), some (.int (iI (A1 42 (n - 1)))), some (.int (iI (A1 44 (n - 1)))), some (.int (iI (A 1 (A 2 (A1 42 (n - 1)))))), y6]) (st' := [.int (iI (A1 42 (n - 1))), .ref h.length, .int (iI ((n - 1) + 1)), .ref (h.length + 42)]) rfl rfl ?_
        refine go_a (pc' := 257) (ls' := [some (.ref h.length), some (.int (iI o)), some (.int (iI (n - 1))), some (.int (iI (A1 42 (n - 1)))), some (.int (iI (A1 44 (n - 1)))), some (.int (iI (A 1 (A 2 (A1 42 (n - 1)))))), y6]) (st' := [.int (iI 2), .int (iI (A1 42 (n - 1))), .ref h.length, .int (iI ((n - 1) + 1)), .ref (h.length + 42)]) rfl rfl ?_
        have PY : PW I3 (sa (sa (sa (sa (sa A3 43 ((64 * (n - 1)) + (A1 44 (n - 1))) t) 43 ((64 * ((n - 1) + 1)) + (A1 44 (n - 1))) (A 1 (A 2 (A1 42 (n - 1))))) 44 (n - 1) ((A1 44 (n - 1)) + 1)) 44 ((n - 1) + 1) ((A1 44 (n - 1)) + 1)) 42 (n - 1) (A 1 (A 2 (A 2 (A 2 (A1 42 (n - 1))))))) := P3
        have LY : isL (sa (sa (sa (sa (sa A3 43 ((64 * (n - 1)) + (A1 44 (n - 1))) t) 43 ((64 * ((n - 1) + 1)) + (A1 44 (n - 1))) (A 1 (A 2 (A1 42 (n - 1))))) 44 (n - 1) ((A1 44 (n - 1)) + 1)) 44 ((n - 1) + 1) ((A1 44 (n - 1)) + 1)) 42 (n - 1) (A 1 (A 2 (A 2 (A 2 (A1 42 (n - 1))))))) 4 (A1 42 (n - 1)) := L43
        refine go_v (m := 124) (as := [.ref h.length, .int (iI (A1 42 (n - 1))), .int (iI 2)]) (r := [.int (iI ((n - 1) + 1)), .ref (h.length + 42)]) rfl rfl rfl mh_o rfl rfl (mm_term z (d + 6) 2 4 (A1 42 (n - 1)) h R I3 (sa (sa (sa (sa (sa A3 43 ((64 * (n - 1)) + (A1 44 (n - 1))) t) 43 ((64 * ((n - 1) + 1)) + (A1 44 (n - 1))) (A 1 (A 2 (A1 42 (n - 1))))) 44 (n - 1) ((A1 44 (n - 1)) + 1)) 44 ((n - 1) + 1) ((A1 44 (n - 1)) + 1)) 42 (n - 1) (A 1 (A 2 (A 2 (A 2 (A1 42 (n - 1))))))) N hc PY (by decide) t1.1.1 (by omega) LY (by decide)) (fun v h1 hq => ?_)
        obtain ⟨rfl, rfl⟩ := hq
        rw [show (sa (sa (sa (sa (sa A3 43 ((64 * (n - 1)) + (A1 44 (n - 1))) t) 43 ((64 * ((n - 1) + 1)) + (A1 44 (n - 1))) (A 1 (A 2 (A1 42 (n - 1))))) 44 (n - 1) ((A1 44 (n - 1)) + 1)) 44 ((n - 1) + 1) ((A1 44 (n - 1)) + 1)) 42 (n - 1) (A 1 (A 2 (A 2 (A 2 (A1 42 (n - 1))))))) 1 (rt (sa (sa (sa (sa (sa A3 43 ((64 * (n - 1)) + (A1 44 (n - 1))) t) 43 ((64 * ((n - 1) + 1)) + (A1 44 (n - 1))) (A 1 (A 2 (A1 42 (n - 1))))) 44 (n - 1) ((A1 44 (n - 1)) + 1)) 44 ((n - 1) + 1) ((A1 44 (n - 1)) + 1)) 42 (n - 1) (A 1 (A 2 (A 2 (A 2 (A1 42 (n - 1))))))) 2 (A1 42 (n - 1))) = (A 1 (A 2 (A 2 (A1 42 (n - 1))))) from R2]
        show xx_go (xt_P z) (d + 8) 122 260 [some (.ref h.length), some (.int (iI o)), some (.int (iI (n - 1))), some (.int (iI (A1 42 (n - 1)))), some (.int (iI (A1 44 (n - 1)))), some (.int (iI (A 1 (A 2 (A1 42 (n - 1)))))), y6] [.int (iI (A 1 (A 2 (A 2 (A1 42 (n - 1)))))), .int (iI ((n - 1) + 1)), .ref (h.length + 42)] (mh h R I3 (sa (sa (sa (sa (sa A3 43 ((64 * (n - 1)) + (A1 44 (n - 1))) t) 43 ((64 * ((n - 1) + 1)) + (A1 44 (n - 1))) (A 1 (A 2 (A1 42 (n - 1))))) 44 (n - 1) ((A1 44 (n - 1)) + 1)) 44 ((n - 1) + 1) ((A1 44 (n - 1)) + 1)) 42 (n - 1) (A 1 (A 2 (A 2 (A 2 (A1 42 (n - 1))))))) N) _
        refine mi_ist rfl mh_a42 (show 12 ≤ _ by omega) (by omega) (by omega) (by decide) ?_
        rw [mh_w42 (by omega)]
        refine go_a (pc' := 264) (ls' := [some (.ref h.length), some (.int (iI o)), some (.int (iI ((n - 1) + 2))), some (.int (iI (A1 42 (n - 1)))), some (.int (iI (A1 44 (n - 1)))), some (.int (iI (A 1 (A 2 (A1 42 (n - 1)))))), y6]) (st' := []) rfl (by rw [← iI_add (n - 1) 2]; rfl) ?_
        refine go_a (pc' := 21) (ls' := [some (.ref h.length), some (.int (iI o)), some (.int (iI ((n - 1) + 2))), some (.int (iI (A1 42 (n - 1)))), some (.int (iI (A1 44 (n - 1)))), some (.int (iI (A 1 (A 2 (A1 42 (n - 1)))))), y6]) (st' := []) rfl rfl ?_
        rw [show n - 1 + 2 = n + 1 by omega]
        have e43 : (sa (sa (sa (sa (sa (sa A3 43 ((64 * (n - 1)) + (A1 44 (n - 1))) t) 43 ((64 * ((n - 1) + 1)) + (A1 44 (n - 1))) (A 1 (A 2 (A1 42 (n - 1))))) 44 (n - 1) ((A1 44 (n - 1)) + 1)) 44 ((n - 1) + 1) ((A1 44 (n - 1)) + 1)) 42 (n - 1) (A 1 (A 2 (A 2 (A 2 (A1 42 (n - 1))))))) 42 ((n - 1) + 1) (A 1 (A 2 (A 2 (A1 42 (n - 1)))))) 43 = sf (sf (A2 43) (64 * (n - 1) + A1 44 (n - 1)) t) (64 * (n - 1 + 1) + A1 44 (n - 1)) (A 1 (A 2 (A1 42 (n - 1)))) := by
          show sf (sf (A3 43) _ _) _ _ = _
          rw [a43]
        have e44 : (sa (sa (sa (sa (sa (sa A3 43 ((64 * (n - 1)) + (A1 44 (n - 1))) t) 43 ((64 * ((n - 1) + 1)) + (A1 44 (n - 1))) (A 1 (A 2 (A1 42 (n - 1))))) 44 (n - 1) ((A1 44 (n - 1)) + 1)) 44 ((n - 1) + 1) ((A1 44 (n - 1)) + 1)) 42 (n - 1) (A 1 (A 2 (A 2 (A 2 (A1 42 (n - 1))))))) 42 ((n - 1) + 1) (A 1 (A 2 (A 2 (A1 42 (n - 1)))))) 44 = sf (sf (A1 44) (n - 1) (A1 44 (n - 1) + 1)) (n - 1 + 1) (A1 44 (n - 1) + 1) := by
          show sf (sf (A3 44) _ _) _ _ = _
          rw [a44, C.1 44 (by decide)]
        have e42 : (sa (sa (sa (sa (sa (sa A3 43 ((64 * (n - 1)) + (A1 44 (n - 1))) t) 43 ((64 * ((n - 1) + 1)) + (A1 44 (n - 1))) (A 1 (A 2 (A1 42 (n - 1))))) 44 (n - 1) ((A1 44 (n - 1)) + 1)) 44 ((n - 1) + 1) ((A1 44 (n - 1)) + 1)) 42 (n - 1) (A 1 (A 2 (A 2 (A 2 (A1 42 (n - 1))))))) 42 ((n - 1) + 1) (A 1 (A 2 (A 2 (A1 42 (n - 1)))))) 42 = sf (sf (A1 42) (n - 1) (A 1 (A 2 (A 2 (A 2 (A1 42 (n - 1))))))) (n - 1 + 1) (A 1 (A 2 (A 2 (A1 42 (n - 1))))) := by
          show sf (sf (A3 42) _ _) _ _ = _
          rw [a42, C.1 42 (by decide)]
        have S4 : MST I3 (sa (sa (sa (sa (sa (sa A3 43 ((64 * (n - 1)) + (A1 44 (n - 1))) t) 43 ((64 * ((n - 1) + 1)) + (A1 44 (n - 1))) (A 1 (A 2 (A1 42 (n - 1))))) 44 (n - 1) ((A1 44 (n - 1)) + 1)) 44 ((n - 1) + 1) ((A1 44 (n - 1)) + 1)) 42 (n - 1) (A 1 (A 2 (A 2 (A 2 (A1 42 (n - 1))))))) 42 ((n - 1) + 1) (A 1 (A 2 (A 2 (A1 42 (n - 1)))))) N := X3.1
        have B34 : BX FP GP I3 A3 N I3 (sa (sa (sa (sa (sa (sa A3 43 ((64 * (n - 1)) + (A1 44 (n - 1))) t) 43 ((64 * ((n - 1) + 1)) + (A1 44 (n - 1))) (A 1 (A 2 (A1 42 (n - 1))))) 44 (n - 1) ((A1 44 (n - 1)) + 1)) 44 ((n - 1) + 1) ((A1 44 (n - 1)) + 1)) 42 (n - 1) (A 1 (A 2 (A 2 (A 2 (A1 42 (n - 1))))))) 42 ((n - 1) + 1) (A 1 (A 2 (A 2 (A1 42 (n - 1)))))) N := ⟨S4, Int.le_refl _, fun k _ _ => ⟨rfl, rfl, rfl, id⟩, fun _ _ _ => rfl, fun a _ _ _ _ _ _ q7 => by
          have q42 : a ≠ 42 := fun e => q7 (by unfold GP; omega)
          have q43 : a ≠ 43 := fun e => q7 (by unfold GP; omega)
          have q44 : a ≠ 44 := fun e => q7 (by unfold GP; omega)
          exact (((((sa_ne q42).trans (sa_ne q42)).trans (sa_ne q44)).trans (sa_ne q44)).trans (sa_ne q43)).trans (sa_ne q43)⟩
        have B14 := BX_tr B13 B34
        have tz4 := TZ_124 (A := A3) (A1 := (sa (sa (sa (sa (sa (sa A3 43 ((64 * (n - 1)) + (A1 44 (n - 1))) t) 43 ((64 * ((n - 1) + 1)) + (A1 44 (n - 1))) (A 1 (A 2 (A1 42 (n - 1))))) 44 (n - 1) ((A1 44 (n - 1)) + 1)) 44 ((n - 1) + 1) ((A1 44 (n - 1)) + 1)) 42 (n - 1) (A 1 (A 2 (A 2 (A 2 (A1 42 (n - 1))))))) 42 ((n - 1) + 1) (A 1 (A 2 (A 2 (A1 42 (n - 1))))))) (ar := ar) rfl rfl rfl
        have Z4 : SZI ar I3 (sa (sa (sa (sa (sa (sa A3 43 ((64 * (n - 1)) + (A1 44 (n - 1))) t) 43 ((64 * ((n - 1) + 1)) + (A1 44 (n - 1))) (A 1 (A 2 (A1 42 (n - 1))))) 44 (n - 1) ((A1 44 (n - 1)) + 1)) 44 ((n - 1) + 1) ((A1 44 (n - 1)) + 1)) 42 (n - 1) (A 1 (A 2 (A 2 (A 2 (A1 42 (n - 1))))))) 42 ((n - 1) + 1) (A 1 (A 2 (A 2 (A1 42 (n - 1)))))) := SZI_124 Z3 rfl rfl rfl rfl
        have tpn := RLP_BX tp P1 B14 (f2 := fun k => A1 43 (64 * (n - 1) + k)) (fun k _ _ => rfl)
        have tT : TZ (sa (sa (sa (sa (sa (sa A3 43 ((64 * (n - 1)) + (A1 44 (n - 1))) t) 43 ((64 * ((n - 1) + 1)) + (A1 44 (n - 1))) (A 1 (A 2 (A1 42 (n - 1))))) 44 (n - 1) ((A1 44 (n - 1)) + 1)) 44 ((n - 1) + 1) ((A1 44 (n - 1)) + 1)) 42 (n - 1) (A 1 (A 2 (A 2 (A 2 (A1 42 (n - 1))))))) 42 ((n - 1) + 1) (A 1 (A 2 (A 2 (A1 42 (n - 1)))))) ar (A 1 (A 2 (A1 42 (n - 1)))) = TZ A ar (A 1 (A 2 (A1 42 (n - 1)))) := (TZ_BX hP (BX_tr X B14) (by omega) (by omega)).1 q3.2.2.1.1
        have p4 : PTI ar B o (n + 1) I A N I3 (sa (sa (sa (sa (sa (sa A3 43 ((64 * (n - 1)) + (A1 44 (n - 1))) t) 43 ((64 * ((n - 1) + 1)) + (A1 44 (n - 1))) (A 1 (A 2 (A1 42 (n - 1))))) 44 (n - 1) ((A1 44 (n - 1)) + 1)) 44 ((n - 1) + 1) ((A1 44 (n - 1)) + 1)) 42 (n - 1) (A 1 (A 2 (A 2 (A 2 (A1 42 (n - 1))))))) 42 ((n - 1) + 1) (A 1 (A 2 (A 2 (A1 42 (n - 1)))))) := by
          refine ⟨⟨BX_tr X B14, Z4⟩, ⟨w1, fun q => (w2 (by rw [u2 q]; exact q)).trans (u2 q)⟩, ⟨by omega, by omega, by omega⟩, fun e e0 e1 => ?_, fun e e0 e1 => ?_, fun g => ?_, ?_⟩
          · rw [i71] at e1
            have q := RLP_BX (hE e e0 e1) P1 B14 (f2 := fun k => (sa (sa (sa (sa (sa (sa A3 43 ((64 * (n - 1)) + (A1 44 (n - 1))) t) 43 ((64 * ((n - 1) + 1)) + (A1 44 (n - 1))) (A 1 (A 2 (A1 42 (n - 1))))) 44 (n - 1) ((A1 44 (n - 1)) + 1)) 44 ((n - 1) + 1) ((A1 44 (n - 1)) + 1)) 42 (n - 1) (A 1 (A 2 (A 2 (A 2 (A1 42 (n - 1))))))) 42 ((n - 1) + 1) (A 1 (A 2 (A 2 (A1 42 (n - 1)))))) 40 (64 * e + k)) (fun k _ _ => by show A3 40 (64 * e + k) = _; rw [a40, C.1 40 (by decide)])
            show RLP ar I A I3 _ B (A3 39 e) (A3 41 e) _
            rw [a39, C.1 39 (by decide), a41, C.1 41 (by decide)]
            exact q
          · rw [e42, e44]
            by_cases eA : e = n
            · rw [show e = n - 1 + 1 by omega, sf_self, sf_self]
              refine RLP_more tpn (by omega) (by omega) q3.2.2.1.2.1 (x := (A 1 (A 2 (A1 42 (n - 1))))) (by omega) (by omega) (by rw [tT]; exact q3.2.2.1.1) (by rw [tT]; omega) (fun k k0 k1 => ?_) ?_
              · show (sa (sa (sa (sa (sa (sa A3 43 ((64 * (n - 1)) + (A1 44 (n - 1))) t) 43 ((64 * ((n - 1) + 1)) + (A1 44 (n - 1))) (A 1 (A 2 (A1 42 (n - 1))))) 44 (n - 1) ((A1 44 (n - 1)) + 1)) 44 ((n - 1) + 1) ((A1 44 (n - 1)) + 1)) 42 (n - 1) (A 1 (A 2 (A 2 (A 2 (A1 42 (n - 1))))))) 42 ((n - 1) + 1) (A 1 (A 2 (A 2 (A1 42 (n - 1)))))) 43 (64 * (n - 1 + 1) + k) = A1 43 (64 * (n - 1) + k)
                rw [e43, sf_ne (by omega), sf_ne (by omega)]
                exact C.2.1 k k0 k1
              · show (sa (sa (sa (sa (sa (sa A3 43 ((64 * (n - 1)) + (A1 44 (n - 1))) t) 43 ((64 * ((n - 1) + 1)) + (A1 44 (n - 1))) (A 1 (A 2 (A1 42 (n - 1))))) 44 (n - 1) ((A1 44 (n - 1)) + 1)) 44 ((n - 1) + 1) ((A1 44 (n - 1)) + 1)) 42 (n - 1) (A 1 (A 2 (A 2 (A 2 (A1 42 (n - 1))))))) 42 ((n - 1) + 1) (A 1 (A 2 (A 2 (A1 42 (n - 1)))))) 43 (64 * (n - 1 + 1) + A1 44 (n - 1)) = _
                rw [e43, sf_self]
            · by_cases eB : e = n - 1
              · rw [eB, sf_ne (by omega), sf_self, sf_ne (by omega), sf_self]
                refine RLP_more tpn (by omega) (by omega) q3.2.2.1.2.2 (x := t) d4.1 d4.2 (by rw [tz4.1]; exact d5) (by rw [tz4.1]; omega) (fun k k0 k1 => ?_) ?_
                · show (sa (sa (sa (sa (sa (sa A3 43 ((64 * (n - 1)) + (A1 44 (n - 1))) t) 43 ((64 * ((n - 1) + 1)) + (A1 44 (n - 1))) (A 1 (A 2 (A1 42 (n - 1))))) 44 (n - 1) ((A1 44 (n - 1)) + 1)) 44 ((n - 1) + 1) ((A1 44 (n - 1)) + 1)) 42 (n - 1) (A 1 (A 2 (A 2 (A 2 (A1 42 (n - 1))))))) 42 ((n - 1) + 1) (A 1 (A 2 (A 2 (A1 42 (n - 1)))))) 43 (64 * (n - 1) + k) = A1 43 (64 * (n - 1) + k)
                  rw [e43, sf_ne (by omega), sf_ne (by omega)]
                  exact C.2.2 _ (by omega)
                · show (sa (sa (sa (sa (sa (sa A3 43 ((64 * (n - 1)) + (A1 44 (n - 1))) t) 43 ((64 * ((n - 1) + 1)) + (A1 44 (n - 1))) (A 1 (A 2 (A1 42 (n - 1))))) 44 (n - 1) ((A1 44 (n - 1)) + 1)) 44 ((n - 1) + 1) ((A1 44 (n - 1)) + 1)) 42 (n - 1) (A 1 (A 2 (A 2 (A 2 (A1 42 (n - 1))))))) 42 ((n - 1) + 1) (A 1 (A 2 (A 2 (A1 42 (n - 1)))))) 43 (64 * (n - 1) + A1 44 (n - 1)) = _
                  rw [e43, sf_ne (by omega), sf_self]
              · rw [sf_ne (by omega), sf_ne eB, sf_ne (by omega), sf_ne eB]
                have q := RLP_BX (hT e e0 (by omega)) P1 B14 (f2 := fun k => (sa (sa (sa (sa (sa (sa A3 43 ((64 * (n - 1)) + (A1 44 (n - 1))) t) 43 ((64 * ((n - 1) + 1)) + (A1 44 (n - 1))) (A 1 (A 2 (A1 42 (n - 1))))) 44 (n - 1) ((A1 44 (n - 1)) + 1)) 44 ((n - 1) + 1) ((A1 44 (n - 1)) + 1)) 42 (n - 1) (A 1 (A 2 (A 2 (A 2 (A1 42 (n - 1))))))) 42 ((n - 1) + 1) (A 1 (A 2 (A 2 (A1 42 (n - 1)))))) 43 (64 * e + k)) (fun k k0 k1 => by
                  have mk := RLP_many (hT e e0 (by omega)) B9
                  show (sa (sa (sa (sa (sa (sa A3 43 ((64 * (n - 1)) + (A1 44 (n - 1))) t) 43 ((64 * ((n - 1) + 1)) + (A1 44 (n - 1))) (A 1 (A 2 (A1 42 (n - 1))))) 44 (n - 1) ((A1 44 (n - 1)) + 1)) 44 ((n - 1) + 1) ((A1 44 (n - 1)) + 1)) 42 (n - 1) (A 1 (A 2 (A 2 (A 2 (A1 42 (n - 1))))))) 42 ((n - 1) + 1) (A 1 (A 2 (A 2 (A1 42 (n - 1)))))) 43 (64 * e + k) = A1 43 (64 * e + k)
                  rw [e43, sf_ne (by omega), sf_ne (by omega)]
                  exact C.2.2 _ (by omega))
                exact q
          · show SG g (A3 39) (I3 71).toNat + SG (PS A g) ((sa (sa (sa (sa (sa (sa A3 43 ((64 * (n - 1)) + (A1 44 (n - 1))) t) 43 ((64 * ((n - 1) + 1)) + (A1 44 (n - 1))) (A 1 (A 2 (A1 42 (n - 1))))) 44 (n - 1) ((A1 44 (n - 1)) + 1)) 44 ((n - 1) + 1) ((A1 44 (n - 1)) + 1)) 42 (n - 1) (A 1 (A 2 (A 2 (A 2 (A1 42 (n - 1))))))) 42 ((n - 1) + 1) (A 1 (A 2 (A 2 (A1 42 (n - 1)))))) 42) (n + 1).toNat = _
            rw [a39, C.1 39 (by decide), i71, e42, show n + 1 = n - 1 + 1 + 1 by omega, SG_push (by omega), SG_push (by omega)]
            have g9 := hG g
            rw [gp g, PS_if hP n0 a3 t1.1.1 t1.1.2 e3 t1.2] at g9
            omega
          · show SG (TZ A ar) (A3 39) (I3 71).toNat + SG (TZ A ar) ((sa (sa (sa (sa (sa (sa A3 43 ((64 * (n - 1)) + (A1 44 (n - 1))) t) 43 ((64 * ((n - 1) + 1)) + (A1 44 (n - 1))) (A 1 (A 2 (A1 42 (n - 1))))) 44 (n - 1) ((A1 44 (n - 1)) + 1)) 44 ((n - 1) + 1) ((A1 44 (n - 1)) + 1)) 42 (n - 1) (A 1 (A 2 (A 2 (A 2 (A1 42 (n - 1))))))) 42 ((n - 1) + 1) (A 1 (A 2 (A 2 (A1 42 (n - 1)))))) 42) (n + 1).toNat ≤ _
            rw [a39, C.1 39 (by decide), i71, e42, show n + 1 = n - 1 + 1 + 1 by omega, SG_push (by omega), SG_push (by omega)]
            omega
        have T3x : TRX I3 A3 N := TRX_BX S2 N2 T2x X3 (by unfold FW; omega) (by unfold GB; omega) (by unfold GB; omega)
        have N3 : NM I3 A3 := NM_BX N2 X3
        have dz : DM (sa (sa (sa (sa (sa (sa A3 43 ((64 * (n - 1)) + (A1 44 (n - 1))) t) 43 ((64 * ((n - 1) + 1)) + (A1 44 (n - 1))) (A 1 (A 2 (A1 42 (n - 1))))) 44 (n - 1) ((A1 44 (n - 1)) + 1)) 44 ((n - 1) + 1) ((A1 44 (n - 1)) + 1)) 42 (n - 1) (A 1 (A 2 (A 2 (A 2 (A1 42 (n - 1))))))) 42 ((n - 1) + 1) (A 1 (A 2 (A 2 (A1 42 (n - 1)))))) N = DM A3 N := DM_12 rfl rfl rfl rfl
        have dd : ∀ x : Int, 0 ≤ x → x < I1 7 → DM (sa (sa (sa (sa (sa (sa A3 43 ((64 * (n - 1)) + (A1 44 (n - 1))) t) 43 ((64 * ((n - 1) + 1)) + (A1 44 (n - 1))) (A 1 (A 2 (A1 42 (n - 1))))) 44 (n - 1) ((A1 44 (n - 1)) + 1)) 44 ((n - 1) + 1) ((A1 44 (n - 1)) + 1)) 42 (n - 1) (A 1 (A 2 (A 2 (A 2 (A1 42 (n - 1))))))) 42 ((n - 1) + 1) (A 1 (A 2 (A 2 (A1 42 (n - 1)))))) N x = DM A1 N x := fun x q0 q1 => by
          rw [dz]
          exact DM_BX X.1 T1x B13 (by unfold FP; omega) (by unfold GP; omega) (by unfold GP; omega) q0 q1
        have d01 : DM A1 N (A 1 (A 2 (A1 42 (n - 1)))) = DM A N (A 1 (A 2 (A1 42 (n - 1)))) := DM_BX hS hX X (by unfold FP; omega) (by unfold GP; omega) (by unfold GP; omega) (by omega) (by omega)
        have d02 : DM A2 N = DM A1 N := DM_12 (C.1 1 (by decide)) (C.1 2 (by decide)) (C.1 8 (by decide)) (C.1 9 (by decide))
        have dt2 : DM (sa (sa (sa (sa (sa (sa A3 43 ((64 * (n - 1)) + (A1 44 (n - 1))) t) 43 ((64 * ((n - 1) + 1)) + (A1 44 (n - 1))) (A 1 (A 2 (A1 42 (n - 1))))) 44 (n - 1) ((A1 44 (n - 1)) + 1)) 44 ((n - 1) + 1) ((A1 44 (n - 1)) + 1)) 42 (n - 1) (A 1 (A 2 (A 2 (A 2 (A1 42 (n - 1))))))) 42 ((n - 1) + 1) (A 1 (A 2 (A 2 (A1 42 (n - 1)))))) N t = sp_not (DM A N (A 1 (A 2 (A1 42 (n - 1))))) := by
          rw [dz, dt, d02, d01]
        have tz9 := TZ_1 (ar := ar) X3.1 N3 T3x d4.1 d4.2 d5
        rw [dt, d02, d01] at tz9
        have hd : DM A N (A1 42 (n - 1)) = .add (.var 429) (.add (DM A N (A 1 (A 2 (A1 42 (n - 1))))) (.add (DM A N (A 1 (A 2 (A 2 (A1 42 (n - 1)))))) (.add (DM A N (A 1 (A 2 (A 2 (A 2 (A1 42 (n - 1))))))) (DM A N 0)))) := by
          rw [DM_pr hS hX t1.1.1 t1.1.2 (by omega), e3, show DM A N 3 = .var 429 from hX.2 3 (by decide), DM_pr hS hX (k := A 2 (A1 42 (n - 1))) (by omega) (by omega) q3.1.1.2.2, DM_pr hS hX (k := A 2 (A 2 (A1 42 (n - 1)))) (by omega) (by omega) q3.1.2.1.2.2, DM_pr hS hX (k := A 2 (A 2 (A 2 (A1 42 (n - 1))))) (by omega) (by omega) q3.1.2.2.2.2, q3.2.1]
        have sc1 := SG_cnt (g := TZ A ar) (f := A1 42) (n - 1).toNat (fun e he => (hT e (by omega) (by omega)).1.2)
        have sc2 := SG_cnt (g := TZ A ar) (f := A1 39) (I1 71).toNat (fun e he => (hE e (by omega) (by omega)).1.2)
        have tb : TZ A ar (A 1 (A 2 (A1 42 (n - 1)))) ≤ 120 := by have := q3.2.2; omega
        have px4 : PXI ar o (n + 1) I A N I3 (sa (sa (sa (sa (sa (sa A3 43 ((64 * (n - 1)) + (A1 44 (n - 1))) t) 43 ((64 * ((n - 1) + 1)) + (A1 44 (n - 1))) (A 1 (A 2 (A1 42 (n - 1))))) 44 (n - 1) ((A1 44 (n - 1)) + 1)) 44 ((n - 1) + 1) ((A1 44 (n - 1)) + 1)) 42 (n - 1) (A 1 (A 2 (A 2 (A 2 (A1 42 (n - 1))))))) 42 ((n - 1) + 1) (A 1 (A 2 (A 2 (A1 42 (n - 1)))))) := by
          refine PXI_if (T1 := (A 1 (A 2 (A1 42 (n - 1))))) (T2 := (A 1 (A 2 (A 2 (A1 42 (n - 1)))))) (T3 := (A 1 (A 2 (A 2 (A 2 (A1 42 (n - 1))))))) (t := t) px (by omega) hd ⟨ts3.2.1, ts3.2.2⟩ i71 (fun e e0 e1 => ⟨?_, ?_, fun k k0 k1 => ⟨?_, ?_⟩⟩) (fun e e0 e1 => ⟨?_, ?_, fun k k0 k1 => ?_⟩) (fun e e0 e1 k k0 k1 => ?_) ⟨?_, ?_, fun k k0 k1 => ?_, ?_⟩ ⟨?_, ?_, fun k k0 k1 => ?_, ?_⟩ dt2 ((dd _ (by omega) (by omega)).trans d01) ?_
          · show A3 39 e = _
            rw [a39, C.1 39 (by decide)]
          · show A3 41 e = _
            rw [a41, C.1 41 (by decide)]
          · show A3 40 (64 * e + k) = _
            rw [a40, C.1 40 (by decide)]
          · have q := (hE e e0 e1).2.2.1 k k0 k1
            exact dd _ q.1.1 q.1.2
          · rw [e42, sf_ne (by omega), sf_ne (by omega)]
          · rw [e44, sf_ne (by omega), sf_ne (by omega)]
          · have mk := RLP_many (hT e e0 (by omega)) B9
            rw [e43, sf_ne (by omega), sf_ne (by omega)]
            exact C.2.2 _ (by omega)
          · have q := (hT e e0 e1).2.2.1 k k0 k1
            exact dd _ q.1.1 q.1.2
          · rw [e42, sf_ne (by omega), sf_self]
          · rw [e44, sf_ne (by omega), sf_self]
          · rw [e43, sf_ne (by omega), sf_ne (by omega)]
            exact C.2.2 _ (by omega)
          · rw [e43, sf_ne (by omega), sf_self]
          · rw [e42, show n - 1 + 1 = n by omega, sf_self]
          · rw [e44, show n - 1 + 1 = n by omega, sf_self]
          · rw [e43, show n - 1 + 1 = n by omega, sf_ne (by omega), sf_ne (by omega)]
            have q := C.2.1 k k0 k1
            rw [show n - 1 + 1 = n by omega] at q
            exact q
          · rw [e43, show n - 1 + 1 = n by omega, sf_self]
          · rw [tz9]
            constructor
            · intro q
              have q1 : I1 49 = 0 := by
                by_cases c : I1 49 = 0
                · exact c
                · rw [w2 c] at q
                  exact absurd q c
              have q2 := w3 q
              rw [if_pos tb] at q2
              exact ⟨q1, q2⟩
            · intro q
              exact dv q.1 q.2
        refine ih (n + 1) I3 (sa (sa (sa (sa (sa (sa A3 43 ((64 * (n - 1)) + (A1 44 (n - 1))) t) 43 ((64 * ((n - 1) + 1)) + (A1 44 (n - 1))) (A 1 (A 2 (A1 42 (n - 1))))) 44 (n - 1) ((A1 44 (n - 1)) + 1)) 44 ((n - 1) + 1) ((A1 44 (n - 1)) + 1)) 42 (n - 1) (A 1 (A 2 (A 2 (A 2 (A1 42 (n - 1))))))) 42 ((n - 1) + 1) (A 1 (A 2 (A 2 (A1 42 (n - 1)))))) _ _ _ _ ?_ p4 px4
        rw [e42, show n + 1 = n - 1 + 1 + 1 by omega, SG_push (by omega), SG_push (by omega)]
        omega
      · have e3 : A 1 (A1 42 (n - 1)) ≠ 3 := by omega
        refine go_a (pc' := 53) (ls' := [some (.ref h.length), some (.int (iI o)), some (.int (iI (n - 1))), some (.int (iI (A1 42 (n - 1)))), some (.int (iI (A1 44 (n - 1)))), y5, y6]) (st' := [.ref h.length]) rfl rfl ?_
        refine go_get rfl mh_o rfl rfl ?_
        refine go_a (pc' := 57) (ls' := [some (.ref h.length), some (.int (iI o)), some (.int (iI (n - 1))), some (.int (iI (A1 42 (n - 1)))), some (.int (iI (A1 44 (n - 1)))), y5, y6]) (st' := [.ref h.length, .ref (h.length + 39)]) rfl rfl ?_
        refine go_get (v := .int (iI (I1 71))) rfl mh_o rfl rfl ?_
        refine go_a (pc' := 61) (ls' := [some (.ref h.length), some (.int (iI o)), some (.int (iI (n - 1))), some (.int (iI (A1 42 (n - 1)))), some (.int (iI (A1 44 (n - 1)))), y5, y6]) (st' := [.int (iI (A1 42 (n - 1))), .int (iI (I1 71)), .ref (h.length + 39)]) rfl rfl ?_
        refine mi_ist rfl mh_a39 (show 12 ≤ _ by omega) (by omega) (by omega) (by decide) ?_
        rw [mh_w39 (by omega)]
        refine go_a (pc' := 63) (ls' := [some (.ref h.length), some (.int (iI o)), some (.int (iI (n - 1))), some (.int (iI (A1 42 (n - 1)))), some (.int (iI (A1 44 (n - 1)))), y5, y6]) (st' := [.ref h.length]) rfl rfl ?_
        refine go_get rfl mh_o rfl rfl ?_
        refine go_a (pc' := 67) (ls' := [some (.ref h.length), some (.int (iI o)), some (.int (iI (n - 1))), some (.int (iI (A1 42 (n - 1)))), some (.int (iI (A1 44 (n - 1)))), y5, y6]) (st' := [.ref h.length, .ref (h.length + 41)]) rfl rfl ?_
        refine go_get (v := .int (iI (I1 71))) rfl mh_o rfl rfl ?_
        refine go_a (pc' := 72) (ls' := [some (.ref h.length), some (.int (iI o)), some (.int (iI (n - 1))), some (.int (iI (A1 42 (n - 1)))), some (.int (iI (A1 44 (n - 1)))), y5, y6]) (st' := [.int (iI (A1 44 (n - 1))), .int (iI (I1 71)), .ref (h.length + 41)]) rfl rfl ?_
        refine mi_ist rfl mh_a41 (show 12 ≤ _ by omega) (by omega) (by omega) (by decide) ?_
        rw [mh_w41 (by omega)]
        refine go_a (pc' := 74) (ls' := [some (.ref h.length), some (.int (iI o)), some (.int (iI (n - 1))), some (.int (iI (A1 42 (n - 1)))), some (.int (iI (A1 44 (n - 1)))), y5, y6]) (st' := [.int (iI 0)]) rfl rfl ?_
        refine go_a (pc' := 76) (ls' := [some (.ref h.length), some (.int (iI o)), some (.int (iI (n - 1))), some (.int (iI (A1 42 (n - 1)))), some (.int (iI (A1 44 (n - 1)))), some (.int (iI 0)), y6]) (st' := []) rfl rfl ?_
        refine mm_paths_copy1 z (d + 8) o (n - 1) (A1 42 (n - 1)) (A1 44 (n - 1)) y6 h R I1 (sa (sa A1 39 (I1 71) (A1 42 (n - 1))) 41 (I1 71) (A1 44 (n - 1))) N hc _ pp (by omega) (by omega) (by omega) m0 (by omega) (fun A2 y5 C => ?_) (A1 44 (n - 1)).toNat 0 (sa (sa A1 39 (I1 71) (A1 42 (n - 1))) 41 (I1 71) (A1 44 (n - 1))) (by omega) (Int.le_refl _) m0 ⟨fun _ _ => rfl, fun k k0 k1 => absurd k1 (by omega), fun _ _ => rfl⟩
        show xx_go (xt_P z) (d + 8) 122 116 [some (.ref h.length), some (.int (iI o)), some (.int (iI (n - 1))), some (.int (iI (A1 42 (n - 1)))), some (.int (iI (A1 44 (n - 1)))), y5, y6] [] (mh h R I1 A2 N) _
        refine go_a (pc' := 117) (ls' := [some (.ref h.length), some (.int (iI o)), some (.int (iI (n - 1))), some (.int (iI (A1 42 (n - 1)))), some (.int (iI (A1 44 (n - 1)))), y5, y6]) (st' := [.ref h.length]) rfl rfl ?_
        refine go_a (pc' := 118) (ls' := [some (.ref h.length), some (.int (iI o)), some (.int (iI (n - 1))), some (.int (iI (A1 42 (n - 1)))), some (.int (iI (A1 44 (n - 1)))), y5, y6]) (st' := [.ref h.length, .ref h.length]) rfl rfl ?_
        refine go_get (v := .int (iI (I1 71))) rfl mh_o rfl rfl ?_
        refine go_a (pc' := 122) (ls' := [some (.ref h.length), some (.int (iI o)), some (.int (iI (n - 1))), some (.int (iI (A1 42 (n - 1)))), some (.int (iI (A1 44 (n - 1)))), y5, y6]) (st' := [.int (iI 1), .int (iI (I1 71)), .ref h.length]) rfl rfl ?_
        refine mi_add rfl ?_
        refine go_put (j := 71) rfl mh_o rfl rfl (show 12 ≤ _ from hc) (show 71 < 86 by decide) rfl rfl ?_
        rw [mh_p71]
        refine go_a (pc' := 21) (ls' := [some (.ref h.length), some (.int (iI o)), some (.int (iI (n - 1))), some (.int (iI (A1 42 (n - 1)))), some (.int (iI (A1 44 (n - 1)))), y5, y6]) (st' := []) rfl rfl ?_
        have a1 : A2 1 = A1 1 := C.1 1 (by decide)
        have a2 : A2 2 = A1 2 := C.1 2 (by decide)
        have a3x : A2 3 = A1 3 := C.1 3 (by decide)
        have a4 : A2 4 = A1 4 := C.1 4 (by decide)
        have a5 : A2 5 = A1 5 := C.1 5 (by decide)
        have a7 : A2 7 = A1 7 := C.1 7 (by decide)
        have a8 : A2 8 = A1 8 := C.1 8 (by decide)
        have a9 : A2 9 = A1 9 := C.1 9 (by decide)
        have a42 : A2 42 = A1 42 := C.1 42 (by decide)
        have a43 : A2 43 = A1 43 := C.1 43 (by decide)
        have a44 : A2 44 = A1 44 := C.1 44 (by decide)
        have a39 : A2 39 = sf (A1 39) (I1 71) (A1 42 (n - 1)) := C.1 39 (by decide)
        have a41 : A2 41 = sf (A1 41) (I1 71) (A1 44 (n - 1)) := C.1 41 (by decide)
        have S2 : MST (su I1 71 (I1 71 + 1)) A2 N := MST_congr X.1 rfl rfl a1 a2 a3x a4 a5 a7 a8 a9
        have B2 : BX FP GP I1 A1 N (su I1 71 (I1 71 + 1)) A2 N := ⟨S2, Int.le_refl _, fun k _ _ => ⟨by rw [a1], by rw [a2], rfl, fun e => by rw [a4]; exact e⟩, fun j _ q => su_ne (fun e => q (Or.inl e)), fun a _ _ _ _ _ _ q7 => (C.1 a (fun e => q7 (by unfold GP; omega))).trans ((sa_ne (fun e => q7 (by unfold GP; omega))).trans (sa_ne (fun e => q7 (by unfold GP; omega))))⟩
        have Z2 : SZI ar (su I1 71 (I1 71 + 1)) A2 := SZI_124 Z1 a1 a2 a4 rfl
        have p4 : PTI ar B o (n - 1) I A N (su I1 71 (I1 71 + 1)) A2 := by
          refine ⟨⟨BX_tr X B2, Z2⟩, ⟨u1, u2⟩, ⟨by omega, (show 0 ≤ I1 71 + 1 by omega), (show I1 7 ≤ I 7 + 4 * (I1 71 + 1 + (n - 1) - 1) by omega)⟩, fun e e0 e1 => ?_, fun e e0 e1 => ?_, fun g => ?_, ?_⟩
          · have e1 : e < I1 71 + 1 := e1
            rw [a39, a41]
            by_cases eA : e = I1 71
            · rw [eA, sf_self, sf_self]
              exact RLP_BX tp P1 B2 (f2 := fun k => A2 40 (64 * I1 71 + k)) (fun k k0 k1 => C.2.1 k k0 k1)
            · rw [sf_ne eA, sf_ne eA]
              have mk := RLP_many (hE e e0 (by omega)) B9
              exact RLP_BX (hE e e0 (by omega)) P1 B2 (f2 := fun k => A2 40 (64 * e + k)) (fun k k0 k1 => C.2.2 (64 * e + k) (by omega))
          · rw [a42, a44]
            exact RLP_BX (hT e e0 (by omega)) P1 B2 (f2 := fun k => A2 43 (64 * e + k)) (fun k _ _ => by rw [a43])
          · show SG g (A2 39) (I1 71 + 1).toNat + SG (PS A g) (A2 42) (n - 1).toNat = _
            rw [a39, a42, SG_push pp]
            have g9 := hG g
            rw [gp g, PS_end e3] at g9
            omega
          · show SG (TZ A ar) (A2 39) (I1 71 + 1).toNat + SG (TZ A ar) (A2 42) (n - 1).toNat ≤ _
            rw [a39, a42, SG_push pp]
            omega
        have T1x : TRX I1 A1 N := TRX_BX hS hN hX X (by unfold FP; omega) (by unfold GP; omega) (by unfold GP; omega)
        have d02 : DM A2 N = DM A1 N := DM_12 a1 a2 a8 a9
        have px4 : PXI ar o (n - 1) I A N (su I1 71 (I1 71 + 1)) A2 := by
          refine PXI_end px (by omega) (ph_end hS hN hX t1.1.1 t1.1.2 e3) pp rfl rfl (fun e e0 e1 => ⟨?_, ?_, fun k k0 k1 => ⟨?_, by rw [d02]⟩⟩) (fun e e0 e1 => ⟨by rw [a42], by rw [a44], fun k k0 k1 => ⟨by rw [a43], by rw [d02]⟩⟩) ⟨by rw [a39, sf_self], by rw [a41, sf_self], fun k k0 k1 => ⟨C.2.1 k k0 k1, by rw [d02]⟩⟩
          · rw [a39, sf_ne (by omega)]
          · rw [a41, sf_ne (by omega)]
          · have mk := RLP_many (hE e e0 e1) B9
            exact C.2.2 (64 * e + k) (by omega)
        refine ih (n - 1) (su I1 71 (I1 71 + 1)) A2 _ _ _ _ ?_ p4 px4
        rw [a42]
        have := t1.2
        omega
theorem mm_pathsOf (z : Value) (d : Nat) (ar : Int → Int) (o B : Int) (h R : xx_H) (I : Nat → Int) (A : Nat → Int → Int) (N : Int → Int) (hc : 12 ≤ h.length) (hS : MST I A N) (hN : NM I A) (hX : TRX I A N) (a3 : ar 3 = 3) (a15 : ar 15 = 1) (b56 : 0 ≤ I 56) (b56b : I 56 ≤ 2390) (ho : I 7 + 484 ≤ 140000) (B9 : B ≤ 120) (hZ : SZI ar I A) (hs : 1 ≤ TS A ar o) (k0 : 0 ≤ o) (k1 : o < I 7) (k2 : 1 ≤ TZ A ar o) (k3 : TZ A ar o = B) (u0 : 0 ≤ I 49) (u1 : I 49 ≤ 4) : xx_cl (xt_P z) (d + 9) 122 [.ref h.length, .int (iI o)] (mh h R I A N) (fun v h1 => v = none ∧ ∃ (I1 : Nat → Int) (A1 : Nat → Int → Int), h1 = mh h R I1 A1 N ∧ PTHq ar B o I A N I1 A1 ∧ PXI ar o 0 I A N I1 A1) := by
  refine cl_go rfl ?_
  show xx_go (xt_P z) (d + 8) 122 0 [some (.ref h.length), some (.int (iI o)), none, none, none, none, none] [] (mh h R I A N) _
  refine go_a (pc' := 1) (ls' := [some (.ref h.length), some (.int (iI o)), none, none, none, none, none]) (st' := [.ref h.length]) rfl rfl ?_
  refine go_a (pc' := 2) (ls' := [some (.ref h.length), some (.int (iI o)), none, none, none, none, none]) (st' := [.int (iI 0), .ref h.length]) rfl rfl ?_
  refine go_put (j := 71) rfl mh_o rfl rfl (show 12 ≤ _ from hc) (show 71 < 86 by decide) rfl rfl ?_
  rw [mh_p71]
  refine go_a (pc' := 6) (ls' := [some (.ref h.length), some (.int (iI o)), none, none, none, none, none]) (st' := [.int (iI 1)]) rfl rfl ?_
  refine go_a (pc' := 7) (ls' := [some (.ref h.length), some (.int (iI o)), some (.int (iI 1)), none, none, none, none]) (st' := []) rfl rfl ?_
  refine go_a (pc' := 8) (ls' := [some (.ref h.length), some (.int (iI o)), some (.int (iI 1)), none, none, none, none]) (st' := [.ref h.length]) rfl rfl ?_
  refine go_get rfl mh_o rfl rfl ?_
  refine go_a (pc' := 12) (ls' := [some (.ref h.length), some (.int (iI o)), some (.int (iI 1)), none, none, none, none]) (st' := [.int (iI 0), .ref (h.length + 42)]) rfl rfl ?_
  refine go_a (pc' := 13) (ls' := [some (.ref h.length), some (.int (iI o)), some (.int (iI 1)), none, none, none, none]) (st' := [.int (iI o), .int (iI 0), .ref (h.length + 42)]) rfl rfl ?_
  refine mi_ist rfl mh_a42 (show 12 ≤ _ by omega) (by omega) (by omega) (by decide) ?_
  rw [mh_w42 (by omega)]
  refine go_a (pc' := 15) (ls' := [some (.ref h.length), some (.int (iI o)), some (.int (iI 1)), none, none, none, none]) (st' := [.ref h.length]) rfl rfl ?_
  refine go_get rfl mh_o rfl rfl ?_
  refine go_a (pc' := 19) (ls' := [some (.ref h.length), some (.int (iI o)), some (.int (iI 1)), none, none, none, none]) (st' := [.int (iI 0), .ref (h.length + 44)]) rfl rfl ?_
  refine go_a (pc' := 20) (ls' := [some (.ref h.length), some (.int (iI o)), some (.int (iI 1)), none, none, none, none]) (st' := [.int (iI 0), .int (iI 0), .ref (h.length + 44)]) rfl rfl ?_
  refine mi_ist rfl mh_a44 (show 12 ≤ _ by omega) (by omega) (by omega) (by decide) ?_
  rw [mh_w44 (by omega)]
  refine mm_paths_loop z d ar o B h R I A N hc hS hN hX a3 a15 b56 b56b ho B9 (TZ A ar o).toNat 1 (su I 71 0) (sa (sa A 42 0 o) 44 0 0) none none none none ?_ ?_ ?_
  · show (0 : Int) + TZ A ar (sf (A 42) 0 o 0) ≤ _
    rw [sf_self]
    omega
  · refine ⟨⟨⟨hS, Int.le_refl _, fun k _ _ => ⟨rfl, rfl, rfl, id⟩, fun j _ q => su_ne (fun e => q (Or.inl e)), fun a _ _ _ _ _ _ q7 => (sa_ne (fun e => q7 (by unfold GP; omega))).trans (sa_ne (fun e => q7 (by unfold GP; omega)))⟩, SZI_124 hZ rfl rfl rfl rfl⟩, ⟨⟨u0, u1⟩, fun _ => rfl⟩, ⟨by decide, (show (0 : Int) ≤ 0 by decide), (show I 7 ≤ I 7 + 4 * (0 + 1 - 1) by omega)⟩, fun e e0 e1 => absurd (show e < 0 from e1) (by omega), fun e e0 e1 => ?_, fun g => ?_, ?_⟩
    · rw [show e = 0 by omega]
      show RLP ar I A _ _ B (sf (A 42) 0 o 0) (sf (A 44) 0 0 0) _
      rw [sf_self, sf_self]
      exact ⟨⟨⟨k0, k1⟩, k2⟩, Int.le_refl _, fun k q0 q1 => absurd q1 (by omega), (show (0 : Int) + TZ A ar o ≤ B by omega)⟩
    · show (0 : Int) + (0 + PS A g (sf (A 42) 0 o 0)) = _
      rw [sf_self]
      omega
    · show (0 : Int) + (0 + TZ A ar (sf (A 42) 0 o 0)) ≤ _
      rw [sf_self]
      omega
  · refine ⟨[], [([], DM A N o)], ⟨rfl, rfl⟩, fun e he => absurd he (Nat.not_lt_zero _), fun e he => ?_, ?_, ?_⟩
    · have e0 : e = 0 := by
        have he : e < 1 := he
        omega
      subst e0
      refine ⟨([], DM A N o), rfl, ?_, ⟨?_, fun k hk => absurd hk (Nat.not_lt_zero _)⟩⟩
      · show DM A N o = DM A N (sf (A 42) 0 o 0) ∧ 1 ≤ TS A ar (sf (A 42) 0 o 0)
        rw [sf_self]
        exact ⟨rfl, hs⟩
      · show (0 : Int) = sf (A 44) 0 0 0
        rw [sf_self]
    · show (sp_ph (DM A N o)).map (fun p => ([] ++ p.1, p.2)) ++ [] = _
      rw [List.append_nil]
      exact List.map_id _
    · refine ⟨fun q => ⟨q, fun p hp => absurd hp (by simp), fun s hs => ?_⟩, fun q => q.1⟩
      rw [List.mem_singleton.mp hs]
      exact fun p hp => absurd hp (by simp)

