section FGT
variable {ar : Int → Int} {F G : Nat → Prop} {I I1 I2 : Nat → Int} {A A1 A2 : Nat → Int → Int} {N N1 : Int → Int}
theorem BI_BX (h : BI ar I A N) (x : BX F G I A N I1 A1 N1) (hZ : SZI ar I1 A1) (f44 : ¬ F 44) (f45 : ¬ F 45) (f32 : ¬ F 32) (f38 : ¬ F 38) (g : ∀ a : Nat, 20 ≤ a → a ≤ 26 → ¬ G a) (e54 : I1 54 = 0) (e56 : I1 56 = 0) (u : 0 ≤ I1 49 ∧ I1 49 ≤ 4) : BI ar I1 A1 N1 :=
  ⟨⟨x.1, NM_BX2 h.1.2.1 x, hZ⟩, ⟨AR_BX2 h.2.1.1 x f44 f45 f32 (g 20 (by decide) (by decide)) (g 21 (by decide) (by decide)), ARF_BX2 h.2.1.2 x f44 f32 (g 20 (by decide) (by decide))⟩, DFS_BX (MST_PW h.1.1) (BI_n0 h) h.2.1.1.1.1 h.2.2.1 x f32 f38 g, ⟨e54, e56⟩, u⟩
theorem BX_forget (x : BX F G I A N I1 A1 N1) (hS : MST I2 A2 N1) (e7 : I2 7 = I 7) (ef : ∀ j : Nat, j ≠ 7 → j ≠ 10 → I2 j = I1 j) (ea : ∀ a : Nat, a ≠ 7 → A2 a = A1 a) : BX (fun j => F j ∨ j = 10) G I A N I2 A2 N1 :=
  ⟨hS, by omega, fun k k0 k1 => by rw [ea 1 (by decide), ea 2 (by decide), ea 4 (by decide)]; exact x.2.2.1 k k0 k1, fun j p q => (ef j p (fun e => q (Or.inr e))).trans (x.2.2.2.1 j p (fun e => q (Or.inl e))), fun a q1 q2 q3 q4 q5 q6 q7 => (ea a (by assumption)).trans (x.2.2.2.2 a q1 q2 q3 q4 q5 q6 q7)⟩
theorem SZI_forget (hZ : SZI ar I1 A1) (e7 : I2 7 ≤ I1 7) (ea : ∀ a : Nat, a ≠ 7 → A2 a = A1 a) : SZI ar I2 A2 := by
  intro k k0 k1 d1 d2
  rw [ea 1 (by decide)] at d1 d2
  rcases hZ k k0 (by omega) d1 d2 with z | ⟨a, z⟩
  · exact Or.inl (by rw [ea 4 (by decide)]; exact z)
  · refine Or.inr ⟨a, ?_⟩
    rw [ea 4 (by decide), (TZ_124 (ar := a) (ea 1 (by decide)) (ea 2 (by decide)) (ea 4 (by decide))).1]
    exact z
end FGT

