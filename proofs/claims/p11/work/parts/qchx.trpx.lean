section TPX
variable {I I1 : Nat → Int} {A A1 : Nat → Int → Int} {N N1 : Int → Int}
theorem TRX_px (hS : MST I A N) (h : TRX I A N) (l : I1 7 ≤ I 7) (l44 : 44 ≤ I1 7) (hx : ∀ k : Int, 0 ≤ k → k < I1 7 → A1 1 k = A 1 k ∧ A1 2 k = A 2 k ∧ N1 k = N k) (e8 : A1 8 = A 8) (e9 : A1 9 = A 9) : TRX I1 A1 N1 ∧ ∀ k : Int, 0 ≤ k → k < I1 7 → DM A1 N1 k = DM A N k := by
  have mke : ∀ k : Int, 0 ≤ k → k < I1 7 → mkd A1 k = mkd A k ∧ mka A1 N1 k = mka A N k ∧ mkb A1 k = mkb A k := fun k k0 k1 => by
    obtain ⟨x1, x2, x3⟩ := hx k k0 k1
    unfold mkd mka mkb
    rw [x1, x2, x3, e8, e9]
    exact ⟨rfl, rfl, rfl⟩
  have dm : ∀ k : Int, 0 ≤ k → k < I1 7 → DM A1 N1 k = DM A N k := fun k k0 k1 => ob_D_ext (ob_W_le (MX_W ⟨hS, h.1⟩) l) mke k0 k1
  refine ⟨⟨⟨fun j k j0 jk k1 q => ?_, fun j k j0 jk k1 q => ?_, fun k k0 k1 e q hq => ?_⟩, fun x hx2 => ?_⟩, dm⟩
  · rw [(hx j j0 (by omega)).1, (hx k (by omega) k1).1, (hx j j0 (by omega)).2.2, (hx k (by omega) k1).2.2] at q
    exact h.1.1 j k j0 jk (by omega) q
  · rw [(hx j j0 (by omega)).1, (hx k (by omega) k1).1, (mke j j0 (by omega)).2.1, (mke k (by omega) k1).2.1] at q
    exact h.1.2.1 j k j0 jk (by omega) q
  · rw [(hx k k0 k1).1] at e
    rw [(hx k k0 k1).2.1, e9] at hq
    rw [(hx k k0 k1).2.1, e8]
    exact h.1.2.2 k k0 (by omega) e q hq
  · rw [dm _ (by omega) (by omega)]
    exact h.2 x hx2
theorem TRX_rd (hS : MST I A N) (h : TRX I A N) (l : I 7 ≤ I1 7) (l44 : 44 ≤ I 7) (x : MXB I A N I1 A1 N1) : TRX I1 A1 N1 ∧ ∀ k : Int, 0 ≤ k → k < I 7 → DM A1 N1 k = DM A N k := by
  have dm : ∀ k : Int, 0 ≤ k → k < I 7 → DM A1 N1 k = DM A N k := fun k k0 k1 => ob_D_ext (MX_W ⟨hS, h.1⟩) x.2.2.1 k0 k1
  exact ⟨⟨x.1.2, fun y hy => by rw [dm _ (by omega) (by omega)]; exact h.2 y hy⟩, dm⟩
end TPX
