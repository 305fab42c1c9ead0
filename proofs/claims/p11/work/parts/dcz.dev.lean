def SG (g f : Int → Int) : Nat → Int
  | 0 => 0
  | n + 1 => SG g f n + g (f n)
theorem SG_congr {g g1 f f1 : Int → Int} : ∀ n : Nat, (∀ e : Nat, e < n → g (f e) = g1 (f1 e)) → SG g f n = SG g1 f1 n
  | 0, _ => rfl
  | n + 1, h => by
    show SG g f n + g (f n) = SG g1 f1 n + g1 (f1 n)
    rw [SG_congr n (fun e he => h e (by omega)), h n (by omega)]
theorem SG_le {g g1 f f1 : Int → Int} : ∀ n : Nat, (∀ e : Nat, e < n → g (f e) ≤ g1 (f1 e)) → SG g f n ≤ SG g1 f1 n
  | 0, _ => Int.le_refl _
  | n + 1, h => by
    show SG g f n + g (f n) ≤ SG g1 f1 n + g1 (f1 n)
    have a := SG_le n (fun e he => h e (by omega))
    have b := h n (by omega)
    omega
theorem SG_nn {g f : Int → Int} : ∀ n : Nat, (∀ e : Nat, e < n → 0 ≤ g (f e)) → 0 ≤ SG g f n
  | 0, _ => Int.le_refl _
  | n + 1, h => by
    show 0 ≤ SG g f n + g (f n)
    have a := SG_nn n (fun e he => h e (by omega))
    have b := h n (by omega)
    omega
theorem SG_each {g f : Int → Int} : ∀ n : Nat, (∀ e : Nat, e < n → 0 ≤ g (f e)) → ∀ e : Nat, e < n → g (f e) ≤ SG g f n
  | n + 1, h, e, he => by
    show g (f e) ≤ SG g f n + g (f n)
    have b := h n (by omega)
    have c := SG_nn n (fun e he => h e (by omega))
    by_cases q : e = n
    · rw [q]
      omega
    · have a := SG_each n (fun e he => h e (by omega)) e (by omega)
      omega
theorem SG_cnt {g f : Int → Int} : ∀ n : Nat, (∀ e : Nat, e < n → 1 ≤ g (f e)) → (n : Int) ≤ SG g f n
  | 0, _ => Int.le_refl _
  | n + 1, h => by
    show ((n + 1 : Nat) : Int) ≤ SG g f n + g (f n)
    have a := SG_cnt n (fun e he => h e (by omega))
    have b := h n (by omega)
    omega
theorem SG_sf {g f : Int → Int} {x : Int} {n : Nat} : SG g (sf f n x) (n + 1) = SG g f n + g x := by
  show SG g (sf f n x) n + g (sf f n x n) = _
  rw [sf_self, SG_congr (g1 := g) (f1 := f) n (fun e he => by rw [sf_ne (by omega)])]
theorem SG_sfge {g f : Int → Int} {e x : Int} {n : Nat} (h : (n : Int) ≤ e) : SG g (sf f e x) n = SG g f n := SG_congr n (fun q hq => by rw [sf_ne (by omega)])
theorem SG_push {g f : Int → Int} {m x : Int} (h : 0 ≤ m) : SG g (sf f m x) (m + 1).toNat = SG g f m.toNat + g x := by
  rw [show (m + 1).toNat = m.toNat + 1 by omega, show sf f m x = sf f ((m.toNat : Nat) : Int) x by rw [Int.toNat_of_nonneg h]]
  exact SG_sf
theorem SG_pop {g f : Int → Int} {m : Int} (h : 0 < m) : SG g f m.toNat = SG g f (m - 1).toNat + g (f (m - 1)) := by
  rw [show m.toNat = (m - 1).toNat + 1 by omega]
  show SG g f (m - 1).toNat + g (f (((m - 1).toNat : Nat) : Int)) = _
  rw [Int.toNat_of_nonneg (by omega)]
def NZ (f : Int → Int) : Nat → Int
  | 0 => 0
  | n + 1 => NZ f n + (if f n = 0 then 0 else 1)
theorem NZ_mono {f : Int → Int} : ∀ (m n : Nat), n ≤ m → NZ f n ≤ NZ f m
  | 0, n, h => by rw [show n = 0 by omega]; exact Int.le_refl _
  | m + 1, n, h => by
    by_cases e : n = m + 1
    · rw [e]
      exact Int.le_refl _
    · have r := NZ_mono (f := f) m n (by omega)
      show NZ f n ≤ NZ f m + (if f m = 0 then 0 else 1)
      split <;> omega
theorem NZ_nn {f : Int → Int} (n : Nat) : 0 ≤ NZ f n := NZ_mono n 0 (Nat.zero_le _)
theorem NZ_one {f : Int → Int} {a : Int} (h : 0 ≤ a) (nz : f a ≠ 0) : NZ f (a + 1).toNat = NZ f a.toNat + 1 := by
  rw [show (a + 1).toNat = a.toNat + 1 by omega]
  show NZ f a.toNat + (if f (a.toNat : Int) = 0 then 0 else 1) = _
  rw [show (a.toNat : Int) = a by omega, if_neg nz]
theorem NZ_up {f : Int → Int} {a p : Int} (h : 0 ≤ a) (nz : f a ≠ 0) (ap : a < p) : NZ f a.toNat + 1 ≤ NZ f p.toNat := by
  rw [← NZ_one h nz]
  exact NZ_mono _ _ (by omega)
