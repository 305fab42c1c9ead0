theorem PS_ph {I : Nat → Int} {A : Nat → Int → Int} {N : Int → Int} {ar : Int → Int} (hS : MST I A N) (hN : NM I A) (hT : TRX I A N) (a3 : ar 3 = 3) : ∀ (f : Nat) (k : Int), k.toNat < f → 0 ≤ k → k < I 7 → 1 ≤ TZ A ar k → PS A (fun _ => 1) k = ((sp_ph (DM A N k)).length : Int)
  | f + 1, k, hf, k0, k1, hk => by
    have hP := MST_PW hS
    have n0 : A 1 0 < 0 := by rw [hN.2 0 (by decide) (by decide)]; decide
    by_cases e : A 1 k = 3
    · have q3 := TZ_three hP n0 k0 k1 (by omega) (by omega) (by rw [e]; exact a3) hk
      have u1 := hP.2 (A 2 k) (by omega) (by omega)
      have u2 := hP.2 (A 2 (A 2 k)) (by omega) (by omega)
      have u3 := hP.2 (A 2 (A 2 (A 2 k))) (by omega) (by omega)
      have r2 := PS_ph hS hN hT a3 f (A 1 (A 2 (A 2 k))) (by omega) (by omega) (by omega) q3.2.2.1.2.1
      have r3 := PS_ph hS hN hT a3 f (A 1 (A 2 (A 2 (A 2 k)))) (by omega) (by omega) (by omega) q3.2.2.1.2.2
      rw [PS_if hP n0 a3 k0 k1 e hk, DM_pr hS hT k0 k1 (by omega), e, show DM A N 3 = .var 429 from hT.2 3 (by decide), DM_pr hS hT (k := A 2 k) (by omega) (by omega) q3.1.1.2.2, DM_pr hS hT (k := A 2 (A 2 k)) (by omega) (by omega) q3.1.2.1.2.2, DM_pr hS hT (k := A 2 (A 2 (A 2 k))) (by omega) (by omega) q3.1.2.2.2.2, sp_ph_if, List.length_append, List.length_map, List.length_map, r2, r3]
      omega
    · rw [PS_end e, ph_end hS hN hT k0 k1 e]
      rfl
