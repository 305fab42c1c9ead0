def FDE (j : Nat) : Prop := FB j ∨ j = 44 ∨ j = 45 ∨ j = 61 ∨ j = 63
def GDE (a : Nat) : Prop := GT a ∨ a = 35 ∨ a = 36
theorem FDE_D : ∀ j, FDE j → FDD j := fun j q => by
  unfold FDE FB at q
  unfold FDD FT3 FT2 FQ
  omega
theorem GDE_D : ∀ a, GDE a → GT2 a := fun a q => by
  unfold GDE GT at q
  unfold GT2 GQ
  omega
theorem FE2_D : ∀ j, FE2 j → FDD j := fun j q => by
  unfold FE2 at q
  unfold FDD FT3 FT2 FQ
  omega
theorem GE2_D : ∀ a, GE2 a → GT2 a := fun a q => by
  unfold GE2 GP at q
  unfold GT2 GQ
  omega
theorem DDN_CTK {ar : Int → Int} {m : Nat} {o n l t : Int} {I I2 I1 : Nat → Int} {A A2 A1 : Nat → Int → Int} {N : Int → Int} (hB : BI ar I A N) (e44 : I 44 = -1) (h25 : ∀ e : Int, 0 ≤ e → e < I 38 → A 25 e < I 7) (X2 : BX FDE GDE I A N I2 A2 N) (e44b : I2 44 = -1) (c7 : I2 7 ≤ I 7 + 2 * WD A o - PT A o) (S2 : STP I2) (u15 : 0 ≤ I2 15 ∧ I2 15 ≤ 2000) (u50 : 0 ≤ I2 50 ∧ I2 50 ≤ 30) (u45 : 0 ≤ I2 45 ∧ I2 45 ≤ 6) (e54 : I2 54 = 0) (e56 : I2 56 = 0) (n1 : 16 < n) (n2 : n < I 7) (n3 : A 1 n = -2) (l0 : 0 ≤ l) (l1 : l < I 7) (hL : isL A m l) (m6 : m ≤ 6) (hv : ∀ j : Nat, (j : Int) < (m : Int) → A 1 (A 1 (rt A j l)) = -2) (t0 : 0 ≤ t) (t1 : t < I2 7) (t2 : 1 ≤ TZ A2 (up ar n m) t) (t3 : TZ A2 (up ar n m) t ≤ 120) (h : DDN (up ar n m) m n l t I2 A2 N I1 A1) : CTK 1 o I A N I1 A1 N := by
  obtain ⟨I3, A3, g, b, rfl, rfl, C, e7, c10, hn, d32, q1, q2, b01, hns⟩ := h
  have X3 : BX FDD GT2 I A N I3 A3 N := BX_tr (BX_w2 FDE_D GDE_D X2) (BX_w2 FE2_D GE2_D C.1)
  have hP := BI_P hB
  have n0 := BI_n0 hB
  have P2 := MST_PW X2.1
  have x7 := X2.2.1
  have dd := hB.2.2.1.1
  have f32 : I3 32 = I 32 := X3.2.2.2.1 32 (by decide) (by unfold FDD FT3 FT2 FQ; omega)
  have f38 : I3 38 = I 38 := X3.2.2.2.1 38 (by decide) (by unfold FDD FT3 FT2 FQ; omega)
  have f41 : I3 41 = I 41 := X3.2.2.2.1 41 (by decide) (by unfold FDD FT3 FT2 FQ; omega)
  have f46 : I3 46 = I 46 := X3.2.2.2.1 46 (by decide) (by unfold FDD FT3 FT2 FQ; omega)
  have f32b : I2 32 = I 32 := X2.2.2.2.1 32 (by decide) (by unfold FDE FB; omega)
  have f10b : I2 10 = I 10 := X2.2.2.2.1 10 (by decide) (by unfold FDE FB; omega)
  have ga : ∀ a : Nat, 20 ≤ a → a ≤ 28 → A3 a = A a := fun a p q => X3.2.2.2.2 a (by omega) (by omega) (by omega) (by omega) (by omega) (by omega) (by unfold GT2 GQ; omega)
  have ga2 : A2 20 = A 20 := X2.2.2.2.2 20 (by decide) (by decide) (by decide) (by decide) (by decide) (by decide) (by unfold GDE GT; omega)
  have hx : OX (I 7) A (sa (sa (sa (sa (sw (sa (sa A3 20 (I3 32) n) 21 (I3 32) m) 22 g) 23 (I3 32) t) 24 (I3 32) b) 27 (I3 41) 1) 28 (I3 41) (I3 46)) := fun k a b => ⟨(X3.2.2.1 k a b).1, (X3.2.2.1 k a b).2.1, (X3.2.2.1 k a b).2.2.2⟩
  have r2 : RX2 (I 32) A (sa (sa (sa (sa (sw (sa (sa A3 20 (I3 32) n) 21 (I3 32) m) 22 g) 23 (I3 32) t) 24 (I3 32) b) 27 (I3 41) 1) 28 (I3 41) (I3 46)) := fun e p q => by
    refine ⟨?_, ?_, fun j p2 q2 => ?_, ?_, ?_⟩
    · show sf (A3 20) (I3 32) n e = A 20 e
      rw [sf_ne (by omega), ga 20 (by decide) (by decide)]
    · show sf (A3 21) (I3 32) m e = A 21 e
      rw [sf_ne (by omega), ga 21 (by decide) (by decide)]
    · show g (6 * e + j) = A 22 (6 * e + j)
      rw [q1 _ (by omega), ga 22 (by decide) (by decide)]
    · show sf (A3 23) (I3 32) t e = A 23 e
      rw [sf_ne (by omega), ga 23 (by decide) (by decide)]
    · show sf (A3 24) (I3 32) b e = A 24 e
      rw [sf_ne (by omega), ga 24 (by decide) (by decide)]
  have r3 : RX3 (I 38) A (sa (sa (sa (sa (sw (sa (sa A3 20 (I3 32) n) 21 (I3 32) m) 22 g) 23 (I3 32) t) 24 (I3 32) b) 27 (I3 41) 1) 28 (I3 41) (I3 46)) := fun e p q => ⟨congrFun (ga 25 (by decide) (by decide)) _, congrFun (ga 26 (by decide) (by decide)) _⟩
  have o1 := BI_OLA hB e44 h25
  have o2 := OLA_px (lim1 := I3 7) (PW_VS hP (Int.le_refl _)) n0 (by omega) hx r2 r3 o1
  have P3 := MST_PW X3.1
  have nm : NM I3 A3 := NM_BX2 hB.1.2.1 X3
  have zz : SZI (fun _ => 0) (su (su I3 32 (I3 32 + 1)) 41 (I3 41 + 1)) (sa (sa (sa (sa (sw (sa (sa A3 20 (I3 32) n) 21 (I3 32) m) 22 g) 23 (I3 32) t) 24 (I3 32) b) 27 (I3 41) 1) 28 (I3 41) (I3 46)) := SZI_124 (I := I3) (A := A3) (show SZI (fun _ => 0) I3 A3 from C.2.1) rfl rfl rfl rfl
  have TT : TZ A3 (up ar n m) t = TZ A2 (up ar n m) t := (TZ_BX P2 C.1 t0 t1).1 t2
  have T1 : TZ (sa (sa (sa (sa (sw (sa (sa A3 20 (I3 32) n) 21 (I3 32) m) 22 g) 23 (I3 32) t) 24 (I3 32) b) 27 (I3 41) 1) 28 (I3 41) (I3 46)) (up ar n m) = TZ A3 (up ar n m) := (TZ_124 (A := A3) (A1 := sa (sa (sa (sa (sw (sa (sa A3 20 (I3 32) n) 21 (I3 32) m) 22 g) 23 (I3 32) t) 24 (I3 32) b) 27 (I3 41) 1) 28 (I3 41) (I3 46)) (ar := up ar n m) rfl rfl rfl).1
  have ce : ∀ j : Nat, j ≠ 7 → ¬ FE2 j → I3 j = I2 j := C.1.2.2.2.1
  refine ⟨⟨hx, r2, r3, up ar n m, ?_⟩, ⟨Or.inr rfl, by show I3 41 + 1 = I 41 + 1; omega, by show I3 32 + 1 = I 32 + 1; omega, by show I3 38 = I 38 + (1 - 1); omega, ?_, ?_⟩, ⟨X3.1, nm, zz⟩, ⟨⟨?_, ?_⟩, ?_, ?_, ?_, C.2.2, ?_⟩, ⟨by show I 7 ≤ I3 7; omega, by show I3 7 ≤ _; omega, by show I3 10 ≤ _; omega⟩, fun j p q s u v => ?_, fun a a1 a2 a3 a4 a5 a6 a7 a8 => ?_⟩
  · show OLA (up ar n m) _ (I3 7) (I3 32 + 1) (I3 38)
    rw [f38]
    have o3 : OLA ar (sa (sa (sa (sa (sw (sa (sa A3 20 (I3 32) n) 21 (I3 32) m) 22 g) 23 (I3 32) t) 24 (I3 32) b) 27 (I3 41) 1) 28 (I3 41) (I3 46)) (I3 7) (I3 32) (I 38) := by rw [f32]; rw [f32] at o2; exact o2
    refine OLA_def (PW_VS (I := I3) (A := sa (sa (sa (sa (sw (sa (sa A3 20 (I3 32) n) 21 (I3 32) m) 22 g) 23 (I3 32) t) 24 (I3 32) b) 27 (I3 41) 1) 28 (I3 41) (I3 46)) P3 (Int.le_refl _)) (show A3 1 0 < 0 by rw [nm.2 0 (by decide) (by decide)]; decide) o3 (by omega) (by omega) n1 (fun e p q => ?_) (by omega) (show A3 1 n = -2 by rw [(X3.2.2.1 n (by omega) n2).1]; exact n3) sf_self sf_self P3.1 ⟨⟨?_, ?_⟩, ⟨?_, ?_, ?_⟩, fun k k0 k1 => ?_, ⟨?_, ?_⟩, ⟨?_, ?_⟩, ?_, ?_⟩
    · rw [(r2 e p (by omega)).1, ← ga2]
      exact hn e p (by omega)
    · show 16 < sf (A3 20) (I3 32) n (I3 32)
      rw [sf_self]
      exact n1
    · show sf (A3 20) (I3 32) n (I3 32) < I3 7
      rw [sf_self]
      omega
    · show 0 ≤ sf (A3 21) (I3 32) m (I3 32)
      rw [sf_self]
      omega
    · show sf (A3 21) (I3 32) m (I3 32) ≤ 6
      rw [sf_self]
      omega
    · show up ar n m (sf (A3 20) (I3 32) n (I3 32)) = sf (A3 21) (I3 32) m (I3 32)
      rw [sf_self, sf_self]
      exact up_s
    · have k1 : k < sf (A3 21) (I3 32) m (I3 32) := k1
      rw [sf_self] at k1
      have q := q2 k.toNat (by omega)
      rw [show ((k.toNat : Nat) : Int) = k by omega] at q
      have rr := isL_rt hP m k.toNat l l0 l1 hL (by omega)
      have p := hP.2 (rt A k.toNat l) rr.1 (by omega)
      have pp := isL_extB hP X2 m l l0 l1 hL
      have e1 : A2 1 (rt A2 k.toNat l) = A 1 (rt A k.toNat l) := by rw [rt_extB hP X2 m k.toNat l l0 l1 hL (by omega), (X2.2.2.1 _ rr.1 (by omega)).1]
      rw [e1] at q
      show (0 ≤ g (6 * I3 32 + k) ∧ g (6 * I3 32 + k) < I3 7) ∧ A3 1 (g (6 * I3 32 + k)) = -2
      rw [q, (X3.2.2.1 (A 1 (rt A k.toNat l)) rr.2.2 (by omega)).1]
      exact ⟨⟨rr.2.2, by omega⟩, hv k.toNat (by omega)⟩
    · show 0 ≤ sf (A3 23) (I3 32) t (I3 32)
      rw [sf_self]
      exact t0
    · show sf (A3 23) (I3 32) t (I3 32) < I3 7
      rw [sf_self]
      omega
    · show 1 ≤ TZ (sa (sa (sa (sa (sw (sa (sa A3 20 (I3 32) n) 21 (I3 32) m) 22 g) 23 (I3 32) t) 24 (I3 32) b) 27 (I3 41) 1) 28 (I3 41) (I3 46)) (up ar n m) (sf (A3 23) (I3 32) t (I3 32))
      rw [sf_self, T1, TT]
      exact t2
    · show TZ (sa (sa (sa (sa (sw (sa (sa A3 20 (I3 32) n) 21 (I3 32) m) 22 g) 23 (I3 32) t) 24 (I3 32) b) 27 (I3 41) 1) 28 (I3 41) (I3 46)) (up ar n m) (sf (A3 23) (I3 32) t (I3 32)) ≤ 120
      rw [sf_self, T1, TT]
      exact t3
    · show NST (sa (sa (sa (sa (sw (sa (sa A3 20 (I3 32) n) 21 (I3 32) m) 22 g) 23 (I3 32) t) 24 (I3 32) b) 27 (I3 41) 1) 28 (I3 41) (I3 46)) (up ar n m) (sf (A3 20) (I3 32) n (I3 32)) (sf (A3 23) (I3 32) t (I3 32)) = 0
      rw [sf_self, sf_self]
      rw [NST_px (I := I3) (A := A3) (A1 := sa (sa (sa (sa (sw (sa (sa A3 20 (I3 32) n) 21 (I3 32) m) 22 g) 23 (I3 32) t) 24 (I3 32) b) 27 (I3 41) 1) 28 (I3 41) (I3 46)) (ar := up ar n m) (ar1 := up ar n m) (by omega) P3 (by rw [nm.2 0 (by decide) (by decide)]; decide) (by rw [up_n (by omega)]; exact hB.2.1.1.1.1) OX_rf ARX_rf t0 (by omega) (by rw [TT]; exact t2)]
      exact hns
    · show sf (A3 24) (I3 32) b (I3 32) = 0 ∨ sf (A3 24) (I3 32) b (I3 32) = 1
      rw [sf_self]
      exact b01
  · show sf (A3 27) (I3 41) 1 = _
    rw [f41, ga 27 (by decide) (by decide)]
  · show sf (A3 28) (I3 41) (I3 46) = _
    rw [f41, f46, ga 28 (by decide) (by decide)]
  · show I3 54 = 0
    rw [ce 54 (by decide) (by unfold FE2; omega)]
    exact e54
  · show I3 56 = 0
    rw [ce 56 (by decide) (by unfold FE2; omega)]
    exact e56
  · show 0 ≤ I3 48 ∧ I3 48 ≤ I3 47 ∧ I3 47 ≤ 1000
    rw [ce 48 (by decide) (by unfold FE2; omega), ce 47 (by decide) (by unfold FE2; omega)]
    exact S2
  · show 0 ≤ I3 15 ∧ I3 15 ≤ 2000
    rw [ce 15 (by decide) (by unfold FE2; omega)]
    exact u15
  · show 0 ≤ I3 50 ∧ I3 50 ≤ 30
    rw [ce 50 (by decide) (by unfold FE2; omega)]
    exact u50
  · show 0 ≤ I3 45 ∧ I3 45 ≤ 6
    rw [ce 45 (by decide) (by unfold FE2; omega)]
    exact u45
  · rw [su_ne v, su_ne s]
    exact X3.2.2.2.1 j p q
  · have sw22 : ∀ (B : Nat → Int → Int), a ≠ 22 → sw B 22 g a = B a := fun B q => by
      unfold sw
      cases hb : Nat.beq a 22 with
      | true => exact absurd (Nat.eq_of_beq_eq_true hb) q
      | false => rfl
    rw [sa_ne (by omega), sa_ne (by omega), sa_ne (by omega), sa_ne (by omega), sw22 _ (by omega), sa_ne (by omega), sa_ne (by omega)]
    exact X3.2.2.2.2 a a1 a2 a3 a4 a5 a6 a7

