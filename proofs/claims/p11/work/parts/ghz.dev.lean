def RF (j : Nat) : Prop := j = 7 ∨ j = 10 ∨ j = 13 ∨ j = 17 ∨ j = 20 ∨ j = 21 ∨ j = 22 ∨ j = 27 ∨ j = 29 ∨ j = 30 ∨ j = 31
def RG (a : Nat) : Prop := a = 1 ∨ a = 2 ∨ a = 3 ∨ a = 4 ∨ a = 5 ∨ a = 7 ∨ a = 8 ∨ a = 9 ∨ a = 13 ∨ a = 15 ∨ a = 16 ∨ a = 17 ∨ a = 18 ∨ a = 19
def RX (I : Nat → Int) (A : Nat → Int → Int) (N : Int → Int) (I1 : Nat → Int) (A1 : Nat → Int → Int) (N1 : Int → Int) : Prop := I 7 ≤ I1 7 ∧ (∀ k : Int, 0 ≤ k → k < I 7 → A1 1 k = A 1 k ∧ A1 2 k = A 2 k ∧ N1 k = N k ∧ A1 4 k = A 4 k) ∧ (∀ j : Nat, ¬ RF j → I1 j = I j) ∧ (∀ a : Nat, ¬ RG a → A1 a = A a) ∧ (∀ k : Int, 0 ≤ k → I 7 ≤ k → k < I1 7 → A1 4 k = 0)
section RXS
variable {I I1 I2 : Nat → Int} {A A1 A2 : Nat → Int → Int} {N N1 N2 : Int → Int}
theorem RX_rf : RX I A N I A N := ⟨Int.le_refl _, fun _ _ _ => ⟨rfl, rfl, rfl, rfl⟩, fun _ _ => rfl, fun _ _ => rfl, fun k _ a b => absurd b (by omega)⟩
theorem RX_tr (a : RX I A N I1 A1 N1) (b : RX I1 A1 N1 I2 A2 N2) : RX I A N I2 A2 N2 := by
  obtain ⟨a2, a3, a4, a5, a6⟩ := a
  obtain ⟨b2, b3, b4, b5, b6⟩ := b
  refine ⟨by omega, fun k h0 h1 => ?_, fun j hj => (b4 j hj).trans (a4 j hj), fun a ha => (b5 a ha).trans (a5 a ha), fun k k0 p q => ?_⟩
  · have p := a3 k h0 h1
    have q := b3 k h0 (by omega)
    exact ⟨q.1.trans p.1, q.2.1.trans p.2.1, q.2.2.1.trans p.2.2.1, q.2.2.2.trans p.2.2.2⟩
  · by_cases e : k < I1 7
    · rw [(b3 k k0 e).2.2.2]
      exact a6 k k0 p e
    · exact b6 k k0 (by omega) q
theorem RX_EX (x : EX I A N I1 A1 N1) : RX I A N I1 A1 N1 := ⟨x.2.1, x.2.2.1, fun j hj => x.2.2.2.1 j (fun e => hj (Or.inl e)) (fun e => hj (Or.inr (Or.inl e))), fun a ha => x.2.2.2.2.1 a (fun e => ha (by unfold RG; omega)) (fun e => ha (by unfold RG; omega)) (fun e => ha (by unfold RG; omega)) (fun e => ha (by unfold RG; omega)) (fun e => ha (by unfold RG; omega)) (fun e => ha (by unfold RG; omega)) (fun e => ha (by unfold RG; omega)) (fun e => ha (by unfold RG; omega)), x.2.2.2.2.2.2.2⟩
theorem RX_su {j : Nat} {x : Int} (hj : RF j) (h7 : j ≠ 7) : RX I A N (su I j x) A N := by
  have e : su I j x 7 = I 7 := su_ne (fun q => h7 q.symm)
  exact ⟨by omega, fun _ _ _ => ⟨rfl, rfl, rfl, rfl⟩, fun i hi => su_ne (fun q => hi (q ▸ hj)), fun _ _ => rfl, fun k _ a b => absurd b (by omega)⟩
theorem RX_sa {a : Nat} {e x : Int} (ha : RG a) (h1 : a ≠ 1) (h2 : a ≠ 2) (h4 : a ≠ 4) : RX I A N I (sa A a e x) N := ⟨Int.le_refl _, fun k _ _ => by rw [sa_ne (fun q => h1 q.symm), sa_ne (fun q => h2 q.symm), sa_ne (fun q => h4 q.symm)]; exact ⟨rfl, rfl, rfl, rfl⟩, fun _ _ => rfl, fun b hb => sa_ne (fun q => hb (q ▸ ha)), fun k _ a b => absurd b (by omega)⟩
theorem RX_sw {a : Nat} {g : Int → Int} (ha : RG a) (h1 : a ≠ 1) (h2 : a ≠ 2) (h4 : a ≠ 4) : RX I A N I (sw A a g) N := by
  have n : ∀ b : Nat, b ≠ a → sw A a g b = A b := fun b hb => by
    unfold sw
    cases q : Nat.beq b a with
    | true => exact absurd (Nat.eq_of_beq_eq_true q) hb
    | false => rfl
  exact ⟨Int.le_refl _, fun k _ _ => by rw [n 1 (fun q => h1 q.symm), n 2 (fun q => h2 q.symm), n 4 (fun q => h4 q.symm)]; exact ⟨rfl, rfl, rfl, rfl⟩, fun _ _ => rfl, fun b hb => n b (fun q => hb (q ▸ ha)), fun k _ a b => absurd b (by omega)⟩
end RXS
def OW (A : Nat → Int → Int) : Nat → Int
  | 0 => 0
  | n + 1 => OW A n + (1 + (if A 17 n = 0 then 0 else 1) + (if A 17 n = 2 then WD A (A 18 n) else 0))
theorem OW_congr {A A1 : Nat → Int → Int} : ∀ n : Nat, (∀ e : Nat, e < n → A1 17 e = A 17 e ∧ (A 17 e = 2 → WD A1 (A1 18 e) = WD A (A 18 e))) → OW A1 n = OW A n
  | 0, _ => rfl
  | n + 1, h => by
    have q := h n (by omega)
    show OW A1 n + (1 + (if A1 17 n = 0 then 0 else 1) + (if A1 17 n = 2 then WD A1 (A1 18 n) else 0)) = OW A n + (1 + (if A 17 n = 0 then 0 else 1) + (if A 17 n = 2 then WD A (A 18 n) else 0))
    rw [OW_congr n (fun e he => h e (by omega)), q.1]
    by_cases e : A 17 n = 2
    · rw [if_pos e, if_pos e, q.2 e]
    · rw [if_neg e, if_neg e]
theorem wv_12 {A A1 : Nat → Int → Int} (h1 : A1 1 = A 1) (h2 : A1 2 = A 2) : ∀ (f : Nat) (k : Int), wv A1 f k = wv A f k
  | 0, _ => rfl
  | f + 1, k => by
    rw [wv_succ, wv_succ, h1, h2, wv_12 h1 h2 f, wv_12 h1 h2 f, wv_12 h1 h2 f]
theorem WD_12 {A A1 : Nat → Int → Int} (h1 : A1 1 = A 1) (h2 : A1 2 = A 2) : WD A1 = WD A := by
  funext k
  unfold WD
  rw [wv_12 h1 h2]
theorem SW_12 {A A1 : Nat → Int → Int} (h : WD A1 = WD A) (f : Int → Int) : ∀ n : Nat, SW A1 f n = SW A f n
  | 0 => rfl
  | n + 1 => by
    show SW A1 f n + WD A1 (f n) = SW A f n + WD A (f n)
    rw [SW_12 h f n, h]
def RO (I : Nat → Int) (A : Nat → Int → Int) : Prop := (0 ≤ I 27 ∧ I 27 ≤ 40) ∧ 0 ≤ I 29 ∧ (∀ e : Int, 0 ≤ e → e < I 29 → 0 ≤ A 19 e ∧ A 19 e < I 7) ∧ (∀ k : Int, 0 ≤ k → k < I 27 → (A 15 k = 0 ∨ A 15 k = 1) ∧ (0 ≤ A 16 k ∧ A 16 k ≤ I 29) ∧ (0 ≤ A 17 k ∧ A 17 k ≤ 2) ∧ (A 17 k = 2 → 0 ≤ A 18 k ∧ A 18 k < I 7)) ∧ (∀ j k : Int, 0 ≤ j → j ≤ k → k < I 27 → A 16 j ≤ A 16 k) ∧ (I 31 = 0 ∨ I 31 = 1) ∧ (I 31 = 1 → 0 ≤ I 30 ∧ I 30 < I 7)
def RW (I : Nat → Int) (A : Nat → Int → Int) : Int := SW A (A 19) (I 29).toNat + OW A (I 27).toNat + (if I 31 = 1 then WD A (I 30) else 0)
def NM (I : Nat → Int) (A : Nat → Int → Int) : Prop := 44 ≤ I 7 ∧ ∀ k : Int, 0 ≤ k → k < 44 → A 1 k = -2
def RT (I : Nat → Int) (A : Nat → Int → Int) : Prop := (0 ≤ I 13 ∧ I 13 ≤ 3000 ∧ 0 ≤ I 20 ∧ I 20 ≤ I 13) ∧ (∀ e : Int, 0 ≤ A 11 e ∧ A 11 e ≤ 255) ∧ ∀ e : Int, 0 ≤ A 13 e ∧ A 13 e ≤ 255
theorem RO_EX {I I1 : Nat → Int} {A A1 : Nat → Int → Int} {N N1 : Int → Int} (hP : PW I A) (X : EX I A N I1 A1 N1) (hO : RO I A) : RO I1 A1 ∧ RW I1 A1 = RW I A := by
  obtain ⟨x1, x2, x3, x4, x5, -⟩ := X
  have j27 := x4 27 (by decide) (by decide)
  have j29 := x4 29 (by decide) (by decide)
  have j30 := x4 30 (by decide) (by decide)
  have j31 := x4 31 (by decide) (by decide)
  have b15 := x5 15 (by decide) (by decide) (by decide) (by decide) (by decide) (by decide) (by decide) (by decide)
  have b16 := x5 16 (by decide) (by decide) (by decide) (by decide) (by decide) (by decide) (by decide) (by decide)
  have b17 := x5 17 (by decide) (by decide) (by decide) (by decide) (by decide) (by decide) (by decide) (by decide)
  have b18 := x5 18 (by decide) (by decide) (by decide) (by decide) (by decide) (by decide) (by decide) (by decide)
  have b19 := x5 19 (by decide) (by decide) (by decide) (by decide) (by decide) (by decide) (by decide) (by decide)
  have w := WD_ext hP (fun k h0 h1 => ⟨(x3 k h0 h1).1, (x3 k h0 h1).2.1⟩)
  obtain ⟨o1, o2, o3, o4, o5, o6, o7⟩ := hO
  unfold RO RW
  rw [j27, j29, j30, j31, b15, b16, b17, b18, b19]
  refine ⟨⟨o1, o2, fun e e0 e1 => ?_, fun k k0 k1 => ?_, o5, o6, fun e => ?_⟩, ?_⟩
  · have := o3 e e0 e1
    omega
  · have := o4 k k0 k1
    refine ⟨this.1, this.2.1, this.2.2.1, fun e => ?_⟩
    have := this.2.2.2 e
    omega
  · have := o7 e
    omega
  · rw [SW_congr (A := A) (f := A 19) (I 29).toNat (fun e he => by
      have := o3 e (by omega) (by omega)
      exact (w _ this.1 this.2).1), OW_congr (A := A) (I 27).toNat (fun e he => ⟨by rw [b17], fun q => by
      have := (o4 e (by omega) (by omega)).2.2.2 q
      rw [b18]
      exact (w _ this.1 this.2).1⟩)]
    by_cases e : I 31 = 1
    · rw [if_pos e, if_pos e, (w _ (o7 e).1 (o7 e).2).1]
    · rw [if_neg e, if_neg e]
def SP (A : Nat → Int → Int) (f : Int → Int) : Nat → Int
  | 0 => 0
  | n + 1 => SP A f n + PT A (f n)
def otp (a b c : Int) : Int := if a = 2 ∧ b = 0 then c else 0
theorem op_y {c : Int} : otp 2 0 c = c := if_pos ⟨rfl, rfl⟩
theorem op_n {a b c : Int} (h : a ≠ 2) : otp a b c = 0 := if_neg (fun q => h q.1)
theorem op_b {a b c : Int} (h : b ≠ 0) : otp a b c = 0 := if_neg (fun q => h q.2)
theorem op_le {a b c : Int} (h : 0 ≤ c) : otp a b c ≤ c := by
  unfold otp
  split <;> omega
def OP (A : Nat → Int → Int) : Nat → Int
  | 0 => 0
  | n + 1 => OP A n + otp (A 17 n) (A 15 n) (PT A (A 18 n))
def RPT (I : Nat → Int) (A : Nat → Int → Int) : Int := SP A (A 19) (I 29).toNat + OP A (I 27).toNat + (if I 31 = 1 then PT A (I 30) else 0)
theorem SP_congr {A A1 : Nat → Int → Int} {f f1 : Int → Int} : ∀ n : Nat, (∀ e : Nat, e < n → PT A1 (f1 e) = PT A (f e)) → SP A1 f1 n = SP A f n
  | 0, _ => rfl
  | n + 1, h => by
    show SP A1 f1 n + PT A1 (f1 n) = SP A f n + PT A (f n)
    rw [SP_congr n (fun e he => h e (by omega)), h n (by omega)]
theorem OP_congr {A A1 : Nat → Int → Int} : ∀ n : Nat, (∀ e : Nat, e < n → A1 17 e = A 17 e ∧ A1 15 e = A 15 e ∧ (A 17 e = 2 → PT A1 (A1 18 e) = PT A (A 18 e))) → OP A1 n = OP A n
  | 0, _ => rfl
  | n + 1, h => by
    have q := h n (by omega)
    show OP A1 n + otp (A1 17 n) (A1 15 n) (PT A1 (A1 18 n)) = OP A n + otp (A 17 n) (A 15 n) (PT A (A 18 n))
    rw [OP_congr n (fun e he => h e (by omega)), q.1, q.2.1]
    by_cases e : A 17 n = 2
    · rw [q.2.2 e]
    · rw [op_n e, op_n e]
theorem SP_push {A : Nat → Int → Int} {f : Int → Int} {m x : Int} (h : 0 ≤ m) : SP A (sf f m x) (m + 1).toNat = SP A f m.toNat + PT A x := by
  rw [show (m + 1).toNat = m.toNat + 1 by omega]
  show SP A (sf f m x) m.toNat + PT A (sf f m x (m.toNat : Int)) = _
  rw [show (m.toNat : Int) = m by omega, sf_self, SP_congr (A := A) (f := f) m.toNat (fun e he => by rw [sf_ne (by omega)])]
theorem SP_pop {A : Nat → Int → Int} {f : Int → Int} {m : Int} (h : 0 < m) : SP A f m.toNat = SP A f (m - 1).toNat + PT A (f (m - 1)) := by
  rw [show m.toNat = (m - 1).toNat + 1 by omega]
  show SP A f (m - 1).toNat + PT A (f ((m - 1).toNat : Int)) = _
  rw [show ((m - 1).toNat : Int) = m - 1 by omega]
theorem OP_pop {A : Nat → Int → Int} {m : Int} (h : 0 < m) : OP A m.toNat = OP A (m - 1).toNat + otp (A 17 (m - 1)) (A 15 (m - 1)) (PT A (A 18 (m - 1))) := by
  rw [show m.toNat = (m - 1).toNat + 1 by omega]
  show OP A (m - 1).toNat + otp (A 17 ((m - 1).toNat : Int)) (A 15 ((m - 1).toNat : Int)) (PT A (A 18 ((m - 1).toNat : Int))) = _
  rw [show ((m - 1).toNat : Int) = m - 1 by omega]
theorem RPT_item {I : Nat → Int} {A : Nat → Int → Int} {o : Int} (h : 0 ≤ I 29) : RPT (su I 29 (I 29 + 1)) (sa A 19 (I 29) o) = RPT I A + PT A o := by
  have eP : PT (sa A 19 (I 29) o) = PT A := PT_12 rfl rfl
  unfold RPT
  rw [eP, OP_congr (A := A) (A1 := sa A 19 (I 29) o) _ (fun e he => ⟨rfl, rfl, fun _ => by rw [eP]; rfl⟩), SP_congr (A := A) (f := sf (A 19) (I 29) o) (A1 := sa A 19 (I 29) o) (f1 := sa A 19 (I 29) o 19) _ (fun e he => by rw [eP]; rfl)]
  show SP A (sf (A 19) (I 29) o) (I 29 + 1).toNat + OP A (I 27).toNat + (if I 31 = 1 then PT A (I 30) else 0) = _
  rw [SP_push h]
  omega
theorem RPT_tail {I : Nat → Int} {A : Nat → Int → Int} {o : Int} (h : 0 < I 27) (e15 : A 15 (I 27 - 1) = 0) (e17 : A 17 (I 27 - 1) ≠ 2) : RPT I (sa (sa A 18 (I 27 - 1) o) 17 (I 27 - 1) 2) = RPT I A + PT A o := by
  have eP : PT (sa (sa A 18 (I 27 - 1) o) 17 (I 27 - 1) 2) = PT A := PT_12 rfl rfl
  unfold RPT
  rw [eP, SP_congr (A := A) (f := A 19) (A1 := sa (sa A 18 (I 27 - 1) o) 17 (I 27 - 1) 2) (f1 := sa (sa A 18 (I 27 - 1) o) 17 (I 27 - 1) 2 19) _ (fun e he => by rw [eP]; rfl), OP_pop h, OP_pop h, OP_congr (A := A) (A1 := sa (sa A 18 (I 27 - 1) o) 17 (I 27 - 1) 2) _ (fun e he => ⟨by show sf (A 17) (I 27 - 1) 2 e = A 17 e; rw [sf_ne (by omega)], rfl, fun _ => by rw [eP]; show PT A (sf (A 18) (I 27 - 1) o e) = _; rw [sf_ne (by omega)]⟩), eP, op_n e17]
  show _ + (_ + otp (sf (A 17) (I 27 - 1) 2 (I 27 - 1)) (A 15 (I 27 - 1)) (PT A (sf (A 18) (I 27 - 1) o (I 27 - 1)))) + _ = _
  rw [sf_self, sf_self, e15, op_y]
  omega
theorem RPT_whole {I : Nat → Int} {A : Nat → Int → Int} {o : Int} (h : I 31 = 0) : RPT (su (su I 30 o) 31 1) A = RPT I A + PT A o := by
  unfold RPT
  show SP A (A 19) (I 29).toNat + OP A (I 27).toNat + (if (1 : Int) = 1 then PT A o else 0) = SP A (A 19) (I 29).toNat + OP A (I 27).toNat + (if I 31 = 1 then PT A (I 30) else 0) + PT A o
  rw [if_pos rfl, if_neg (by omega)]
  omega
theorem RPT_pop {I : Nat → Int} {A : Nat → Int → Int} (h : 0 < I 27) (e15 : A 15 (I 27 - 1) ≠ 0) : RPT (su I 27 (I 27 - 1)) A = RPT I A := by
  unfold RPT
  show SP A (A 19) (I 29).toNat + OP A (I 27 - 1).toNat + (if I 31 = 1 then PT A (I 30) else 0) = SP A (A 19) (I 29).toNat + OP A (I 27).toNat + (if I 31 = 1 then PT A (I 30) else 0)
  rw [OP_pop h, op_b e15]
  omega
theorem RPT_begin {I : Nat → Int} {A : Nat → Int → Int} {s x : Int} (h : 0 ≤ I 27) : RPT (su (su I 20 x) 27 (I 27 + 1)) (sa (sa (sa A 15 (I 27) s) 16 (I 27) (I 29)) 17 (I 27) 0) = RPT I A := by
  have eP : PT (sa (sa (sa A 15 (I 27) s) 16 (I 27) (I 29)) 17 (I 27) 0) = PT A := PT_12 rfl rfl
  unfold RPT
  rw [eP]
  show SP (sa (sa (sa A 15 (I 27) s) 16 (I 27) (I 29)) 17 (I 27) 0) (A 19) (I 29).toNat + OP (sa (sa (sa A 15 (I 27) s) 16 (I 27) (I 29)) 17 (I 27) 0) (I 27 + 1).toNat + (if I 31 = 1 then PT A (I 30) else 0) = _
  rw [SP_congr (A := A) (f := A 19) (A1 := sa (sa (sa A 15 (I 27) s) 16 (I 27) (I 29)) 17 (I 27) 0) _ (fun e he => by rw [eP]), OP_pop (by omega), show I 27 + 1 - 1 = I 27 by omega, OP_congr (A := A) (A1 := sa (sa (sa A 15 (I 27) s) 16 (I 27) (I 29)) 17 (I 27) 0) (I 27).toNat (fun e he => ⟨by show sf (A 17) (I 27) 0 e = A 17 e; rw [sf_ne (by omega)], by show sf (A 15) (I 27) s e = A 15 e; rw [sf_ne (by omega)], fun _ => by rw [eP]; rfl⟩)]
  show _ + (_ + otp (sf (A 17) (I 27) 0 (I 27)) _ _) + _ = _
  rw [sf_self, op_n (by decide)]
  omega
theorem RPT_dot {I : Nat → Int} {A : Nat → Int → Int} {x : Int} (h : 0 < I 27) (e17 : A 17 (I 27 - 1) = 0) : RPT (su I 20 x) (sa A 17 (I 27 - 1) 1) = RPT I A := by
  have eP : PT (sa A 17 (I 27 - 1) 1) = PT A := PT_12 rfl rfl
  unfold RPT
  rw [eP]
  show SP (sa A 17 (I 27 - 1) 1) (A 19) (I 29).toNat + OP (sa A 17 (I 27 - 1) 1) (I 27).toNat + (if I 31 = 1 then PT A (I 30) else 0) = _
  rw [SP_congr (A := A) (f := A 19) (A1 := sa A 17 (I 27 - 1) 1) _ (fun e he => by rw [eP]), OP_pop h, OP_pop h, OP_congr (A := A) (A1 := sa A 17 (I 27 - 1) 1) (I 27 - 1).toNat (fun e he => ⟨by show sf (A 17) (I 27 - 1) 1 e = A 17 e; rw [sf_ne (by omega)], rfl, fun _ => by rw [eP]; rfl⟩), op_n (by omega : A 17 (I 27 - 1) ≠ 2)]
  show _ + (_ + otp (sf (A 17) (I 27 - 1) 1 (I 27 - 1)) _ _) + _ = _
  rw [sf_self, op_n (by decide)]
theorem RPT_EX {I I1 : Nat → Int} {A A1 : Nat → Int → Int} {N N1 : Int → Int} (hP : PW I A) (X : EX I A N I1 A1 N1) (hO : RO I A) : RPT I1 A1 = RPT I A := by
  obtain ⟨x1, x2, x3, x4, x5, -⟩ := X
  have j27 := x4 27 (by decide) (by decide)
  have j29 := x4 29 (by decide) (by decide)
  have j30 := x4 30 (by decide) (by decide)
  have j31 := x4 31 (by decide) (by decide)
  have b15 := x5 15 (by decide) (by decide) (by decide) (by decide) (by decide) (by decide) (by decide) (by decide)
  have b17 := x5 17 (by decide) (by decide) (by decide) (by decide) (by decide) (by decide) (by decide) (by decide)
  have b18 := x5 18 (by decide) (by decide) (by decide) (by decide) (by decide) (by decide) (by decide) (by decide)
  have b19 := x5 19 (by decide) (by decide) (by decide) (by decide) (by decide) (by decide) (by decide) (by decide)
  have w := PT_ext hP (fun k h0 h1 => ⟨(x3 k h0 h1).1, (x3 k h0 h1).2.1⟩)
  obtain ⟨o1, o2, o3, o4, o5, o6, o7⟩ := hO
  unfold RPT
  rw [j27, j29, j30, j31, b19, SP_congr (A := A) (f := A 19) (I 29).toNat (fun e he => by
      have := o3 e (by omega) (by omega)
      exact w _ this.1 this.2), OP_congr (A := A) (I 27).toNat (fun e he => ⟨by rw [b17], by rw [b15], fun q => by
      have := (o4 e (by omega) (by omega)).2.2.2 q
      rw [b18]
      exact w _ this.1 this.2⟩)]
  by_cases e : I 31 = 1
  · rw [if_pos e, if_pos e, w _ (o7 e).1 (o7 e).2]
  · rw [if_neg e, if_neg e]
theorem mm_deliver_end (z : Value) (d : Nat) (u o : Int) (h R : xx_H) (I : Nat → Int) (A : Nat → Int → Int) (N : Int → Int) (hc : 12 ≤ h.length) (hS : MST I A N) (hN : NM I A) (hO : RO I A) (ho : I 7 + 2 * I 27 ≤ 140000) (hi : I 29 < 1100) (h31 : I 31 = 0) (v0 : 0 ≤ o) (v1 : o < I 7) (nq : 0 < I 27 → A 15 (I 27 - 1) = 0) : xx_go (xt_P z) (d + 4) 87 44 [some (.ref h.length), some (.int (iI u)), some (.int (iI o))] [] (mh h R I A N) (fun v h1 => v = none ∧ ∃ (I1 : Nat → Int) (A1 : Nat → Int → Int), h1 = mh h R I1 A1 N ∧ MST I1 A1 N ∧ RO I1 A1 ∧ RW I1 A1 ≤ RW I A + WD A o ∧ RX I A N I1 A1 N ∧ (I1 7 + I1 29 + 2 * I1 27 ≤ I 7 + I 29 + 2 * I 27 + 1 ∧ I1 7 + RPT I A + PT A o ≤ I 7 + RPT I1 A1) ∧ I1 10 = I 10 ∧ I1 13 = I 13 ∧ I1 17 = I 17 ∧ I1 20 = I 20 ∧ I1 21 = I 21 ∧ I1 22 = I 22 ∧ A1 11 = A 11 ∧ A1 13 = A 13 ∧ (I1 31 = 1 → I1 27 = 0)) := by
  have hP := MST_PW hS
  obtain ⟨o1, o2, o3, o4, o5, o6, o7⟩ := id hO
  refine go_a (pc' := 45) (ls' := [some (.ref h.length), some (.int (iI u)), some (.int (iI o))]) (st' := [.ref h.length]) rfl rfl ?_
  refine go_get (v := .int (iI (I 27))) rfl mh_o rfl rfl ?_
  refine mi_ne0 (t := 64) rfl rfl (by omega) (by omega) (fun q => ?_) (fun q => ?_)
  · have k := o4 (I 27 - 1) (by omega) (by omega)
    refine go_a (pc' := 65) (ls' := [some (.ref h.length), some (.int (iI u)), some (.int (iI o))]) (st' := [.ref h.length]) rfl rfl ?_
    refine go_get rfl mh_o rfl rfl ?_
    refine go_a (pc' := 69) (ls' := [some (.ref h.length), some (.int (iI u)), some (.int (iI o))]) (st' := [.ref h.length, .ref (h.length + 17)]) rfl rfl ?_
    refine go_get (v := .int (iI (I 27))) rfl mh_o rfl rfl ?_
    refine go_a (pc' := 73) (ls' := [some (.ref h.length), some (.int (iI u)), some (.int (iI o))]) (st' := [.int (iI 1), .int (iI (I 27)), .ref (h.length + 17)]) rfl rfl ?_
    refine mi_sub rfl ?_
    refine mi_ild rfl mh_a17 (by omega) (by omega) (by decide) ?_
    refine go_a (pc' := 76) (ls' := [some (.ref h.length), some (.int (iI u)), some (.int (iI o))]) (st' := [.int (iI 1), .int (iI (A 17 ((I 27) - 1)))]) rfl rfl ?_
    refine mi_ne (t := 106) rfl rfl (by omega) (by omega) (by omega) (by omega) (fun q1 => ?_) (fun q1 => ?_)
    · refine go_a (pc' := 107) (ls' := [some (.ref h.length), some (.int (iI u)), some (.int (iI o))]) (st' := [.ref h.length]) rfl rfl ?_
      refine go_get rfl mh_o rfl rfl ?_
      refine go_a (pc' := 111) (ls' := [some (.ref h.length), some (.int (iI u)), some (.int (iI o))]) (st' := [.ref h.length, .ref (h.length + 19)]) rfl rfl ?_
      refine go_get (v := .int (iI (I 29))) rfl mh_o rfl rfl ?_
      refine go_a (pc' := 115) (ls' := [some (.ref h.length), some (.int (iI u)), some (.int (iI o))]) (st' := [.int (iI o), .int (iI (I 29)), .ref (h.length + 19)]) rfl rfl ?_
      refine mi_ist rfl mh_a19 (show 12 ≤ _ by omega) (by omega) (by omega) (by decide) ?_
      rw [mh_w19 (by omega)]
      refine go_a (pc' := 117) (ls' := [some (.ref h.length), some (.int (iI u)), some (.int (iI o))]) (st' := [.ref h.length]) rfl rfl ?_
      refine go_a (pc' := 118) (ls' := [some (.ref h.length), some (.int (iI u)), some (.int (iI o))]) (st' := [.ref h.length, .ref h.length]) rfl rfl ?_
      refine go_get (v := .int (iI (I 29))) rfl mh_o rfl rfl ?_
      refine go_a (pc' := 122) (ls' := [some (.ref h.length), some (.int (iI u)), some (.int (iI o))]) (st' := [.int (iI 1), .int (iI (I 29)), .ref h.length]) rfl rfl ?_
      refine mi_add rfl ?_
      refine go_put (j := 29) rfl mh_o rfl rfl (show 12 ≤ _ from hc) (show 29 < 86 by decide) rfl rfl ?_
      rw [mh_p29]
      refine go_r rfl rfl rfl rfl rfl rfl ⟨rfl, _, _, rfl, hS, ⟨o1, (show 0 ≤ I 29 + 1 by omega), fun e e0 e1 => ?_, fun j j0 j1 => ?_, o5, o6, o7⟩, ?_, RX_tr (RX_sa (a := 19) (by unfold RG; omega) (by decide) (by decide) (by decide)) (RX_su (j := 29) (by unfold RF; omega) (by decide)), ⟨(show I 7 + (I 29 + 1) + 2 * I 27 ≤ _ by omega), (show I 7 + RPT I A + PT A o ≤ I 7 + _ by rw [RPT_item o2]; omega)⟩, rfl, rfl, rfl, rfl, rfl, rfl, rfl, rfl, fun e => absurd (show I 31 = 1 from e) (by omega)⟩
      · show 0 ≤ sf (A 19) (I 29) o e ∧ sf (A 19) (I 29) o e < I 7
        by_cases ee : e = I 29
        · rw [ee, sf_self]
          exact ⟨v0, v1⟩
        · rw [sf_ne ee]
          exact o3 e e0 (by have e1 : e < I 29 + 1 := e1; omega)
      · have := o4 j j0 j1
        exact ⟨this.1, ⟨this.2.1.1, (show A 16 j ≤ I 29 + 1 by omega)⟩, this.2.2⟩
      · have eW : WD (sa A 19 (I 29) o) = WD A := WD_12 rfl rfl
        unfold RW
        rw [SW_12 eW, OW_congr (A := A) (A1 := sa A 19 (I 29) o) _ (fun e he => ⟨rfl, fun _ => by rw [eW]; rfl⟩), eW]
        show SW A (sf (A 19) (I 29) o) (I 29 + 1).toNat + OW A (I 27).toNat + (if I 31 = 1 then WD A (I 30) else 0) ≤ SW A (A 19) (I 29).toNat + OW A (I 27).toNat + (if I 31 = 1 then WD A (I 30) else 0) + WD A o
        rw [show (I 29 + 1).toNat = (I 29).toNat + 1 by omega]
        show SW A (sf (A 19) (I 29) o) (I 29).toNat + WD A (sf (A 19) (I 29) o ((I 29).toNat : Int)) + OW A (I 27).toNat + (if I 31 = 1 then WD A (I 30) else 0) ≤ SW A (A 19) (I 29).toNat + OW A (I 27).toNat + (if I 31 = 1 then WD A (I 30) else 0) + WD A o
        rw [show ((I 29).toNat : Int) = I 29 by omega, sf_self, SW_congr (A := A) (f := A 19) (I 29).toNat (fun e he => by rw [sf_ne (by omega)])]
        omega
    · refine go_a (pc' := 80) (ls' := [some (.ref h.length), some (.int (iI u)), some (.int (iI o))]) (st' := [.ref h.length]) rfl rfl ?_
      refine go_get rfl mh_o rfl rfl ?_
      refine go_a (pc' := 84) (ls' := [some (.ref h.length), some (.int (iI u)), some (.int (iI o))]) (st' := [.ref h.length, .ref (h.length + 18)]) rfl rfl ?_
      refine go_get (v := .int (iI (I 27))) rfl mh_o rfl rfl ?_
      refine go_a (pc' := 88) (ls' := [some (.ref h.length), some (.int (iI u)), some (.int (iI o))]) (st' := [.int (iI 1), .int (iI (I 27)), .ref (h.length + 18)]) rfl rfl ?_
      refine mi_sub rfl ?_
      refine go_a (pc' := 90) (ls' := [some (.ref h.length), some (.int (iI u)), some (.int (iI o))]) (st' := [.int (iI o), .int (iI ((I 27) - 1)), .ref (h.length + 18)]) rfl rfl ?_
      refine mi_ist rfl mh_a18 (show 12 ≤ _ by omega) (by omega) (by omega) (by decide) ?_
      rw [mh_w18 (by omega)]
      refine go_a (pc' := 92) (ls' := [some (.ref h.length), some (.int (iI u)), some (.int (iI o))]) (st' := [.ref h.length]) rfl rfl ?_
      refine go_get rfl mh_o rfl rfl ?_
      refine go_a (pc' := 96) (ls' := [some (.ref h.length), some (.int (iI u)), some (.int (iI o))]) (st' := [.ref h.length, .ref (h.length + 17)]) rfl rfl ?_
      refine go_get (v := .int (iI (I 27))) rfl mh_o rfl rfl ?_
      refine go_a (pc' := 100) (ls' := [some (.ref h.length), some (.int (iI u)), some (.int (iI o))]) (st' := [.int (iI 1), .int (iI (I 27)), .ref (h.length + 17)]) rfl rfl ?_
      refine mi_sub rfl ?_
      refine go_a (pc' := 102) (ls' := [some (.ref h.length), some (.int (iI u)), some (.int (iI o))]) (st' := [.int (iI 2), .int (iI ((I 27) - 1)), .ref (h.length + 17)]) rfl rfl ?_
      refine mi_ist rfl mh_a17 (show 12 ≤ _ by omega) (by omega) (by omega) (by decide) ?_
      rw [mh_w17 (by omega)]
      refine go_a (pc' := 126) (ls' := [some (.ref h.length), some (.int (iI u)), some (.int (iI o))]) (st' := []) rfl rfl ?_
      have kk : ((I 27 - 1).toNat : Int) = I 27 - 1 := by omega
      refine go_r rfl rfl rfl rfl rfl rfl ⟨rfl, _, _, rfl, hS, ⟨o1, o2, o3, fun j j0 j1 => ?_, o5, o6, o7⟩, ?_, RX_tr (RX_sa (a := 18) (by unfold RG; omega) (by decide) (by decide) (by decide)) (RX_sa (a := 17) (by unfold RG; omega) (by decide) (by decide) (by decide)), ⟨by omega, (show I 7 + RPT I A + PT A o ≤ I 7 + _ by rw [RPT_tail (by omega) (nq (by omega)) (by omega)]; omega)⟩, rfl, rfl, rfl, rfl, rfl, rfl, rfl, rfl, fun e => absurd (show I 31 = 1 from e) (by omega)⟩
      · have kj := o4 j j0 j1
        refine ⟨kj.1, kj.2.1, ?_, ?_⟩
        · show 0 ≤ sf (A 17) (I 27 - 1) 2 j ∧ sf (A 17) (I 27 - 1) 2 j ≤ 2
          by_cases ee : j = I 27 - 1
          · rw [ee, sf_self]
            omega
          · rw [sf_ne ee]
            exact kj.2.2.1
        · show sf (A 17) (I 27 - 1) 2 j = 2 → 0 ≤ sf (A 18) (I 27 - 1) o j ∧ sf (A 18) (I 27 - 1) o j < I 7
          by_cases ee : j = I 27 - 1
          · rw [ee, sf_self, sf_self]
            exact fun _ => ⟨v0, v1⟩
          · rw [sf_ne ee, sf_ne ee]
            exact kj.2.2.2
      · have eW : WD (sa (sa A 18 (I 27 - 1) o) 17 (I 27 - 1) 2) = WD A := WD_12 rfl rfl
        unfold RW
        rw [SW_12 eW, eW]
        show SW A (A 19) (I 29).toNat + OW (sa (sa A 18 (I 27 - 1) o) 17 (I 27 - 1) 2) (I 27).toNat + (if I 31 = 1 then WD A (I 30) else 0) ≤ SW A (A 19) (I 29).toNat + OW A (I 27).toNat + (if I 31 = 1 then WD A (I 30) else 0) + WD A o
        have e : OW (sa (sa A 18 (I 27 - 1) o) 17 (I 27 - 1) 2) (I 27).toNat = OW A (I 27).toNat + WD A o := by
          rw [show (I 27).toNat = (I 27 - 1).toNat + 1 by omega]
          show OW (sa (sa A 18 (I 27 - 1) o) 17 (I 27 - 1) 2) (I 27 - 1).toNat + (1 + (if sf (A 17) (I 27 - 1) 2 ((I 27 - 1).toNat : Int) = 0 then 0 else 1) + (if sf (A 17) (I 27 - 1) 2 ((I 27 - 1).toNat : Int) = 2 then WD (sa (sa A 18 (I 27 - 1) o) 17 (I 27 - 1) 2) (sf (A 18) (I 27 - 1) o ((I 27 - 1).toNat : Int)) else 0)) = OW A (I 27 - 1).toNat + (1 + (if A 17 ((I 27 - 1).toNat : Int) = 0 then 0 else 1) + (if A 17 ((I 27 - 1).toNat : Int) = 2 then WD A (A 18 ((I 27 - 1).toNat : Int)) else 0)) + WD A o
          rw [eW, kk, sf_self, sf_self, if_neg (by decide), if_pos rfl, if_neg (by omega), if_neg (by omega), OW_congr (A := A) (I 27 - 1).toNat (fun e he => ⟨by show sf (A 17) (I 27 - 1) 2 e = A 17 e; rw [sf_ne (by omega)], fun _ => by rw [eW]; show WD A (sf (A 18) (I 27 - 1) o e) = _; rw [sf_ne (by omega)]⟩)]
          omega
        omega
  · refine go_a (pc' := 52) (ls' := [some (.ref h.length), some (.int (iI u)), some (.int (iI o))]) (st' := [.ref h.length]) rfl rfl ?_
    refine go_a (pc' := 53) (ls' := [some (.ref h.length), some (.int (iI u)), some (.int (iI o))]) (st' := [.int (iI o), .ref h.length]) rfl rfl ?_
    refine go_put (j := 30) rfl mh_o rfl rfl (show 12 ≤ _ from hc) (show 30 < 86 by decide) rfl rfl ?_
    rw [mh_p30]
    refine go_a (pc' := 57) (ls' := [some (.ref h.length), some (.int (iI u)), some (.int (iI o))]) (st' := [.ref h.length]) rfl rfl ?_
    refine go_a (pc' := 58) (ls' := [some (.ref h.length), some (.int (iI u)), some (.int (iI o))]) (st' := [.int (iI 1), .ref h.length]) rfl rfl ?_
    refine go_put (j := 31) rfl mh_o rfl rfl (show 12 ≤ _ from hc) (show 31 < 86 by decide) rfl rfl ?_
    rw [mh_p31]
    refine go_a (pc' := 126) (ls' := [some (.ref h.length), some (.int (iI u)), some (.int (iI o))]) (st' := []) rfl rfl ?_
    have e27 : I 27 = 0 := by omega
    have e31 := h31
    refine go_r rfl rfl rfl rfl rfl rfl ⟨rfl, _, _, rfl, hS, ⟨o1, o2, o3, o4, o5, Or.inr rfl, fun _ => ⟨v0, v1⟩⟩, ?_, RX_tr (RX_su (j := 30) (by unfold RF; omega) (by decide)) (RX_su (j := 31) (by unfold RF; omega) (by decide)), ⟨(show I 7 + I 29 + 2 * I 27 ≤ _ by omega), (show I 7 + RPT I A + PT A o ≤ I 7 + _ by rw [RPT_whole h31]; omega)⟩, rfl, rfl, rfl, rfl, rfl, rfl, rfl, rfl, fun _ => e27⟩
    show SW A (A 19) (I 29).toNat + OW A (I 27).toNat + WD A o ≤ SW A (A 19) (I 29).toNat + OW A (I 27).toNat + (if I 31 = 1 then WD A (I 30) else 0) + WD A o
    rw [if_neg (by omega)]
    omega
theorem NM_EX {I I1 : Nat → Int} {A A1 : Nat → Int → Int} {N N1 : Int → Int} (hN : NM I A) (X : EX I A N I1 A1 N1) : NM I1 A1 := by
  have x2 := X.2.1
  refine ⟨by have := hN.1; omega, fun k k0 k1 => ?_⟩
  have := hN.1
  rw [(X.2.2.1 k k0 (by omega)).1]
  exact hN.2 k k0 k1
theorem OW_pop {I : Nat → Int} {A : Nat → Int → Int} (hP : PW I A) (hO : RO I A) (h0 : 0 < I 27) : OW A (I 27 - 1).toNat + 1 ≤ OW A (I 27).toNat := by
  have k := hO.2.2.2.1 (I 27 - 1) (by have := hO.1; omega) (by omega)
  have kk : ((I 27 - 1).toNat : Int) = I 27 - 1 := by omega
  rw [show (I 27).toNat = (I 27 - 1).toNat + 1 by omega]
  show _ ≤ OW A (I 27 - 1).toNat + (1 + (if A 17 ((I 27 - 1).toNat : Int) = 0 then 0 else 1) + (if A 17 ((I 27 - 1).toNat : Int) = 2 then WD A (A 18 ((I 27 - 1).toNat : Int)) else 0))
  rw [kk]
  by_cases e : A 17 (I 27 - 1) = 2
  · have := WD_1 hP (k.2.2.2 e).1 (k.2.2.2 e).2
    rw [if_pos e]
    split <;> omega
  · rw [if_neg e]
    split <;> omega
theorem mm_deliver_loop (z : Value) (d : Nat) (u : Int) (h R : xx_H) (N : Int → Int) (hc : 12 ≤ h.length) : ∀ (n : Nat) (I : Nat → Int) (A : Nat → Int → Int) (o : Int), (I 27).toNat ≤ n → MST I A N → NM I A → RO I A → I 7 + 2 * I 27 ≤ 140000 → I 29 < 1100 → I 31 = 0 → 0 ≤ o → o < I 7 → xx_go (xt_P z) (d + 4) 87 2 [some (.ref h.length), some (.int (iI u)), some (.int (iI o))] [] (mh h R I A N) (fun v h1 => v = none ∧ ∃ (I1 : Nat → Int) (A1 : Nat → Int → Int), h1 = mh h R I1 A1 N ∧ MST I1 A1 N ∧ RO I1 A1 ∧ RW I1 A1 ≤ RW I A + WD A o ∧ RX I A N I1 A1 N ∧ (I1 7 + I1 29 + 2 * I1 27 ≤ I 7 + I 29 + 2 * I 27 + 1 ∧ I1 7 + RPT I A + PT A o ≤ I 7 + RPT I1 A1) ∧ I1 10 = I 10 ∧ I1 13 = I 13 ∧ I1 17 = I 17 ∧ I1 20 = I 20 ∧ I1 21 = I 21 ∧ I1 22 = I 22 ∧ A1 11 = A 11 ∧ A1 13 = A 13 ∧ (I1 31 = 1 → I1 27 = 0)) := by
  intro n
  induction n with
  | zero =>
    intro I A o hn hS hN hO ho hi h31 v0 v1
    have o1 := hO.1
    refine go_a (pc' := 3) (ls' := [some (.ref h.length), some (.int (iI u)), some (.int (iI o))]) (st' := [.ref h.length]) rfl rfl ?_
    refine go_get (v := .int (iI (I 27))) rfl mh_o rfl rfl ?_
    refine mi_le0 (t := 44) rfl rfl (by omega) (by omega) (fun _ => ?_) (fun q => absurd (show I 27 ≤ 0 by omega) q)
    exact mm_deliver_end z d u o h R I A N hc hS hN hO ho hi h31 v0 v1 (fun q => absurd q (by omega))
  | succ n ih =>
    intro I A o hn hS hN hO ho hi h31 v0 v1
    have hP := MST_PW hS
    have o1 := hO.1
    refine go_a (pc' := 3) (ls' := [some (.ref h.length), some (.int (iI u)), some (.int (iI o))]) (st' := [.ref h.length]) rfl rfl ?_
    refine go_get (v := .int (iI (I 27))) rfl mh_o rfl rfl ?_
    refine mi_le0 (t := 44) rfl rfl (by omega) (by omega) (fun q => mm_deliver_end z d u o h R I A N hc hS hN hO ho hi h31 v0 v1 (fun q1 => absurd q1 (by omega))) (fun q => ?_)
    have k := hO.2.2.2.1 (I 27 - 1) (by omega) (by omega)
    refine go_a (pc' := 10) (ls' := [some (.ref h.length), some (.int (iI u)), some (.int (iI o))]) (st' := [.ref h.length]) rfl rfl ?_
    refine go_get rfl mh_o rfl rfl ?_
    refine go_a (pc' := 14) (ls' := [some (.ref h.length), some (.int (iI u)), some (.int (iI o))]) (st' := [.ref h.length, .ref (h.length + 15)]) rfl rfl ?_
    refine go_get (v := .int (iI (I 27))) rfl mh_o rfl rfl ?_
    refine go_a (pc' := 18) (ls' := [some (.ref h.length), some (.int (iI u)), some (.int (iI o))]) (st' := [.int (iI 1), .int (iI (I 27)), .ref (h.length + 15)]) rfl rfl ?_
    refine mi_sub rfl ?_
    refine mi_ild rfl mh_a15 (by omega) (by omega) (by decide) ?_
    refine go_a (pc' := 21) (ls' := [some (.ref h.length), some (.int (iI u)), some (.int (iI o))]) (st' := [.int (iI 1), .int (iI (A 15 ((I 27) - 1)))]) rfl rfl ?_
    refine mi_ne (t := 44) rfl rfl (by omega) (by omega) (by omega) (by omega) (fun q2 => mm_deliver_end z d u o h R I A N hc hS hN hO ho hi h31 v0 v1 (fun _ => by omega)) (fun q2 => ?_)
    have n1 := hN.1
    refine go_a (pc' := 25) (ls' := [some (.ref h.length), some (.int (iI u)), some (.int (iI o))]) (st' := [.ref h.length]) rfl rfl ?_
    refine go_a (pc' := 26) (ls' := [some (.ref h.length), some (.int (iI u)), some (.int (iI o))]) (st' := [.int (iI 2), .ref h.length]) rfl rfl ?_
    refine go_a (pc' := 27) (ls' := [some (.ref h.length), some (.int (iI u)), some (.int (iI o))]) (st' := [.int (iI o), .int (iI 2), .ref h.length]) rfl rfl ?_
    refine go_v (m := 88) (as := [.ref h.length, .int (iI 2), .int (iI o)]) (r := []) rfl rfl rfl mh_o rfl rfl (mm_quote z d o h R I A N hc hS (by omega) (by omega) v0 v1) (fun v h1 hq => ?_)
    obtain ⟨k2, I1, A1, rfl, rfl, X, k0, k1, e1, e2, e3, e4, e5, e6⟩ := hq
    have j27 := X.2.2.2.1 27 (by decide) (by decide)
    have j29 := X.2.2.2.1 29 (by decide) (by decide)
    have j31 := X.2.2.2.1 31 (by decide) (by decide)
    have x2 := X.2.1
    have P1 := MST_PW X.1
    have O1 := RO_EX hP X hO
    have N1 : NM I1 A1 := NM_EX hN X
    show xx_go (xt_P z) (d + 4) 87 30 [some (.ref h.length), some (.int (iI u)), some (.int (iI o))] [.int (iI k2)] (mh h R I1 A1 N) _
    refine go_a (pc' := 31) (ls' := [some (.ref h.length), some (.int (iI u)), some (.int (iI k2))]) (st' := []) rfl rfl ?_
    refine go_a (pc' := 32) (ls' := [some (.ref h.length), some (.int (iI u)), some (.int (iI k2))]) (st' := [.ref h.length]) rfl rfl ?_
    refine go_a (pc' := 33) (ls' := [some (.ref h.length), some (.int (iI u)), some (.int (iI k2))]) (st' := [.ref h.length, .ref h.length]) rfl rfl ?_
    refine go_get (v := .int (iI (I1 27))) rfl mh_o rfl rfl ?_
    refine go_a (pc' := 37) (ls' := [some (.ref h.length), some (.int (iI u)), some (.int (iI k2))]) (st' := [.int (iI 1), .int (iI (I1 27)), .ref h.length]) rfl rfl ?_
    refine mi_sub rfl ?_
    refine go_put (j := 27) rfl mh_o rfl rfl (show 12 ≤ _ from hc) (show 27 < 86 by decide) rfl rfl ?_
    rw [mh_p27]
    refine go_a (pc' := 2) (ls' := [some (.ref h.length), some (.int (iI u)), some (.int (iI k2))]) (st' := []) rfl rfl ?_
    have O2 : RO (su I1 27 (I1 27 - 1)) A1 := ⟨⟨(show 0 ≤ I1 27 - 1 by omega), (show I1 27 - 1 ≤ 40 by omega)⟩, O1.1.2.1, O1.1.2.2.1, fun j j0 j1 => O1.1.2.2.2.1 j j0 (by have j1 : j < I1 27 - 1 := j1; omega), fun j k j0 jk k1 => O1.1.2.2.2.2.1 j k j0 jk (by have k1 : k < I1 27 - 1 := k1; omega), O1.1.2.2.2.2.2.1, O1.1.2.2.2.2.2.2⟩
    have wk : WD A1 k2 = 1 + WD A o := by
      rw [WD_pair P1 k0 k1 (by omega), if_pos ⟨e1, by omega, e4⟩, e3, (WD_ext hP (fun k h0 h1 => ⟨(X.2.2.1 k h0 h1).1, (X.2.2.1 k h0 h1).2.1⟩) o v0 v1).1]
    have rw2 : RW (su I1 27 (I1 27 - 1)) A1 + 1 ≤ RW I A := by
      rw [← O1.2]
      have p := OW_pop P1 O1.1 (by omega)
      show SW A1 (A1 19) (I1 29).toNat + OW A1 (I1 27 - 1).toNat + (if I1 31 = 1 then WD A1 (I1 30) else 0) + 1 ≤ SW A1 (A1 19) (I1 29).toNat + OW A1 (I1 27).toNat + (if I1 31 = 1 then WD A1 (I1 30) else 0)
      omega
    refine go_w (fun v h1 hq => ?_) (ih (su I1 27 (I1 27 - 1)) A1 k2 (show (I1 27 - 1).toNat ≤ n by omega) X.1 N1 O2 (show I1 7 + 2 * (I1 27 - 1) ≤ 140000 by omega) (show I1 29 < 1100 by omega) (show I1 31 = 0 by omega) k0 k1)
    obtain ⟨rfl, I3, A3, rfl, S3, O3, W3, X3, c1, c2, c3, c4, c5, c6, c7, c8, c9, ca⟩ := hq
    have cp := c1.2
    have c1 : I3 7 + I3 29 + 2 * I3 27 ≤ I1 7 + I1 29 + 2 * (I1 27 - 1) + 1 := c1.1
    have cp : I3 7 + RPT (su I1 27 (I1 27 - 1)) A1 + PT A1 k2 ≤ I1 7 + RPT I3 A3 := cp
    have b15 := X.2.2.2.2.1 15 (by decide) (by decide) (by decide) (by decide) (by decide) (by decide) (by decide) (by decide)
    rw [RPT_pop (by omega) (by rw [b15, j27]; omega), RPT_EX hP X hO] at cp
    have p2 := PT_pair P1 k0 k1 (by omega)
    have qk := P1.2 k2 k0 k1
    have qk2 := qk.2.2.2.2 (by omega)
    have p3 := PT_pair P1 e2 (by omega : A1 2 k2 < I1 7) (by omega)
    rw [e1, PT_atom (k := 2) (by rw [N1.2 2 (by decide) (by decide)]; decide), p3, e3, e4, PT_atom (k := 0) (by rw [N1.2 0 (by decide) (by decide)]; decide), PT_ext hP (fun k h0 h1 => ⟨(X.2.2.1 k h0 h1).1, (X.2.2.1 k h0 h1).2.1⟩) o v0 v1] at p2
    refine ⟨rfl, I3, A3, rfl, S3, O3, by omega, RX_tr (RX_EX X) (RX_tr (RX_su (j := 27) (by unfold RF; omega) (by decide)) X3), ⟨by omega, by omega⟩, (show I3 10 = I1 10 from c2).trans e6, (show I3 13 = I1 13 from c3).trans (X.2.2.2.1 13 (by decide) (by decide)), (show I3 17 = I1 17 from c4).trans (X.2.2.2.1 17 (by decide) (by decide)), (show I3 20 = I1 20 from c5).trans (X.2.2.2.1 20 (by decide) (by decide)), (show I3 21 = I1 21 from c6).trans (X.2.2.2.1 21 (by decide) (by decide)), (show I3 22 = I1 22 from c7).trans (X.2.2.2.1 22 (by decide) (by decide)), c8.trans (X.2.2.2.2.1 11 (by decide) (by decide) (by decide) (by decide) (by decide) (by decide) (by decide) (by decide)), c9.trans (X.2.2.2.2.1 13 (by decide) (by decide) (by decide) (by decide) (by decide) (by decide) (by decide) (by decide)), ca⟩
theorem mm_deliver (z : Value) (d : Nat) (o : Int) (h R : xx_H) (I : Nat → Int) (A : Nat → Int → Int) (N : Int → Int) (hc : 12 ≤ h.length) (hS : MST I A N) (hN : NM I A) (hO : RO I A) (ho : I 7 + 2 * I 27 ≤ 140000) (hi : I 29 < 1100) (h31 : I 31 = 0) (v0 : 0 ≤ o) (v1 : o < I 7) : xx_cl (xt_P z) (d + 5) 87 [.ref h.length, .int (iI o)] (mh h R I A N) (fun v h1 => v = none ∧ ∃ (I1 : Nat → Int) (A1 : Nat → Int → Int), h1 = mh h R I1 A1 N ∧ MST I1 A1 N ∧ RO I1 A1 ∧ RW I1 A1 ≤ RW I A + WD A o ∧ RX I A N I1 A1 N ∧ (I1 7 + I1 29 + 2 * I1 27 ≤ I 7 + I 29 + 2 * I 27 + 1 ∧ I1 7 + RPT I A + PT A o ≤ I 7 + RPT I1 A1) ∧ I1 10 = I 10 ∧ I1 13 = I 13 ∧ I1 17 = I 17 ∧ I1 20 = I 20 ∧ I1 21 = I 21 ∧ I1 22 = I 22 ∧ A1 11 = A 11 ∧ A1 13 = A 13 ∧ (I1 31 = 1 → I1 27 = 0)) := by
  refine cl_go rfl ?_
  show xx_go (xt_P z) (d + 4) 87 0 [some (.ref h.length), some (.int (iI o)), none] [] (mh h R I A N) _
  refine go_a (pc' := 1) (ls' := [some (.ref h.length), some (.int (iI o)), none]) (st' := [.int (iI o)]) rfl rfl ?_
  refine go_a (pc' := 2) (ls' := [some (.ref h.length), some (.int (iI o)), some (.int (iI o))]) (st' := []) rfl rfl ?_
  exact mm_deliver_loop z d o h R N hc _ I A o (Nat.le_refl _) hS hN hO ho hi h31 v0 v1
