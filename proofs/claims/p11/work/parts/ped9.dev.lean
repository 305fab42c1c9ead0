theorem isL_VD {I : Nat → Int} {A : Nat → Int → Int} (hP : PW I A) (n0 : A 1 0 < 0) : ∀ (m : Nat) (k : Int), 0 ≤ k → k < I 7 → isL A m k → (m : Int) ≤ VD A k
  | 0, k, h0, h1, _ => VD_0 hP h0 h1
  | m + 1, k, h0, h1, hL => by
    have q := hP.2 k h0 h1
    have q2 := q.2.2.2.2 hL.1
    have v := VD_pair hP h0 h1 hL.1
    have w := WD_1 hP hL.1 (by omega : A 1 k < I 7)
    have r := isL_VD hP n0 m (A 2 k) q.2.2.1 (by omega) hL.2
    omega
theorem VD_rtl {I : Nat → Int} {A : Nat → Int → Int} (hP : PW I A) {n : Nat} {k : Int} (h0 : 0 ≤ k) (h1 : k < I 7) (hL : isL A n k) : ∀ j : Nat, j ≤ n → VD A (rt A j k) ≤ VD A k
  | 0, _ => Int.le_refl _
  | j + 1, hj => by
    have a := VD_rtl hP h0 h1 hL j (by omega)
    have b := VD_rt hP h0 h1 hL (by omega : j < n)
    omega
