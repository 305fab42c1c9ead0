def FND (A : Nat → Int → Int) (X b j : Int) : Prop := (b = 0 ∧ ¬ X ∈ ixl (A 38) j) ∨ (b = 1 ∧ X ∈ ixl (A 38) j)
theorem FND_0 {A : Nat → Int → Int} {X : Int} : FND A X 0 0 := Or.inl ⟨rfl, fun q => by cases q⟩
theorem FND_s {A : Nat → Int → Int} {X b j : Int} (h : FND A X b j) (j0 : 0 ≤ j) (nb : ¬ b = 0) : FND A X 1 (j + 1) := by
  rcases h with ⟨a, -⟩ | ⟨-, c⟩
  · exact absurd a nb
  · refine Or.inr ⟨rfl, ?_⟩
    rw [ixl_s j0]
    exact List.mem_append_left _ c
theorem FND_n {A : Nat → Int → Int} {X b j : Int} (h : FND A X b j) (j0 : 0 ≤ j) (nb : b = 0) (ne : ¬ A 38 j = X) : FND A X 0 (j + 1) := by
  rcases h with ⟨-, c⟩ | ⟨a, -⟩
  · refine Or.inl ⟨rfl, ?_⟩
    rw [ixl_s j0]
    intro q
    rcases List.mem_append.mp q with q | q
    · exact c q
    · exact ne (List.mem_singleton.mp q).symm
  · omega
theorem FND_e {A : Nat → Int → Int} {X j : Int} (j0 : 0 ≤ j) (e : A 38 j = X) : FND A X 1 (j + 1) := by
  refine Or.inr ⟨rfl, ?_⟩
  rw [ixl_s j0]
  exact List.mem_append_right _ (List.mem_singleton.mpr e.symm)
theorem FND_1 {A : Nat → Int → Int} {X b j : Int} (h : FND A X b j) (nb : ¬ b = 0) : X ∈ ixl (A 38) j := by
  rcases h with ⟨a, -⟩ | ⟨-, c⟩
  · exact absurd a nb
  · exact c
theorem FND_x {A : Nat → Int → Int} {X b j : Int} (h : FND A X b j) (nb : b = 0) : ¬ X ∈ ixl (A 38) j := by
  rcases h with ⟨-, c⟩ | ⟨a, -⟩
  · exact c
  · omega
def ALI (A : Nat → Int → Int) (I : Nat → Int) (c n : Int) : Prop := ∀ q : Int, 0 ≤ q → q < n → A 50 (30 * c + q) ∈ ixl (A 38) (I 67)
def NLI (A : Nat → Int → Int) (I : Nat → Int) (c n : Int) : Prop := ∃ q : Int, (0 ≤ q ∧ q < n) ∧ ¬ A 50 (30 * c + q) ∈ ixl (A 38) (I 67)
theorem ALI_0 {A : Nat → Int → Int} {I : Nat → Int} {c : Int} : ALI A I c 0 := fun q q0 q1 => absurd q1 (by omega)
theorem ALI_s {A : Nat → Int → Int} {I : Nat → Int} {c n : Int} (h : ALI A I c n) (e : A 50 (30 * c + n) ∈ ixl (A 38) (I 67)) : ALI A I c (n + 1) := fun q q0 q1 => by
  by_cases u : q = n
  · rw [u]
    exact e
  · exact h q q0 (by omega)
section ROKS
variable {ar : Int → Int} {I I1 I3 I4 : Nat → Int} {A A1 A3 : Nat → Int → Int} {N N1 : Int → Int} {its jts : List (Option ob_T)} {S V m9 : Int}
theorem zz_SG (hS : MST I A N) (hN : NM I A) (hT : TRX I A N) : ∀ n : Nat, (∀ k : Int, 0 ≤ k → k < n → (0 ≤ A 38 k ∧ A 38 k < I 7) ∧ 1 ≤ TZ A ar (A 38 k)) → sp_zz ((ixl (A 38) n).map (DM A N)) = SG (TZ A ar) (A 38) n
  | 0, _ => rfl
  | n + 1, h => by
    have r := zz_SG hS hN hT n (fun k a b => h k a (by omega))
    have q := h n (by omega) (by omega)
    rw [show ((n + 1 : Nat) : Int) = (n : Int) + 1 by omega, ixl_s (by omega), List.map_append]
    show sp_zz (_ ++ [DM A N (A 38 n)]) = SG (TZ A ar) (A 38) n + TZ A ar (A 38 n)
    rw [sp_zz_app, r, TZ_1 hS hN hT q.1.1 q.1.2 q.2]
theorem ixl_len {f : Int → Int} {n : Int} : (ixl f n).length = n.toNat := by
  unfold ixl
  rw [List.length_map, List.length_range]
theorem DIT_bnd (hB : BI ar I A N) (hT : TRX I A N) (D : DR ar m9 S V I A) (h : DIT its I A N) (n4 : ¬ I 49 = 0 → I4 49 = I 49) (a4 : I4 49 = 0 → I 67 ≤ 30 ∧ SG (TZ A ar) (A 38) (I 67).toNat ≤ 400) (b4 : I 49 = 0 → I 67 ≤ 30 → SG (TZ A ar) (A 38) (I 67).toNat ≤ 400 → I4 49 = 0) : (I4 49 = 0 ∧ sp_cz its = some ((ixl (A 38) (I 67)).map (DM A N))) ∨ (¬ I4 49 = 0 ∧ sp_cz its = none) := by
  have d1 := D.1
  have zz := zz_SG (ar := ar) hB.1.1 hB.1.2.1 hT (I 67).toNat (fun k a b => by have := D.2.1 k a (by omega); exact ⟨this.1, this.2.1⟩)
  rw [show (((I 67).toNat : Nat) : Int) = I 67 by omega] at zz
  unfold sp_cz
  rcases h with ⟨a, b⟩ | ⟨a, b⟩
  · rw [b]
    dsimp only
    by_cases c : sp_bn ((ixl (A 38) (I 67)).map (DM A N))
    · rw [ifc_pos c]
      unfold sp_bn at c
      rw [zz, List.length_map, ixl_len] at c
      exact Or.inl ⟨b4 a (by omega) c.2, rfl⟩
    · rw [ifc_neg c]
      refine Or.inr ⟨fun q => c ?_, rfl⟩
      have r := a4 q
      unfold sp_bn
      rw [zz, List.length_map, ixl_len]
      exact ⟨by omega, r.2⟩
  · rw [b]
    exact Or.inr ⟨by rw [n4 a]; exact a, rfl⟩
theorem row_end (hB : BI ar I A N) (hT : TRX I A N) (D : DR ar m9 S V I A) (h : DIT its I A N) (hm : ∀ x : Option ob_T, x ∈ its ↔ x ∈ jts) (n4 : ¬ I 49 = 0 → I4 49 = I 49) (a4 : I4 49 = 0 → I 67 ≤ 30 ∧ SG (TZ A ar) (A 38) (I 67).toNat ≤ 400) (b4 : I 49 = 0 → I 67 ≤ 30 → SG (TZ A ar) (A 38) (I 67).toNat ≤ 400 → I4 49 = 0) : (I4 49 = 0 ∧ ∃ E : List ob_T, sp_cz jts = some E ∧ ∀ y : Int, 0 ≤ y → y < I 7 → (DM A N y ∈ E ↔ y ∈ ixl (A 38) (I 67))) ∨ (¬ I4 49 = 0 ∧ sp_cz jts = none) := by
  rcases DIT_bnd hB hT D h n4 a4 b4 with ⟨a, b⟩ | ⟨a, b⟩
  · rcases cz_set hm with ⟨c, -⟩ | ⟨D1, E, c, d, pm⟩
    · rw [c] at b
      cases b
    · rw [c] at b
      injection b with b
      refine Or.inl ⟨a, E, d, fun y y0 y1 => ?_⟩
      rw [← pm.mem_iff, b, List.mem_map]
      refine ⟨fun ⟨x, hx, ex⟩ => ?_, fun q => ⟨y, q, rfl⟩⟩
      have r := DR_in D hx
      rw [← DM_inj ⟨hB.1.1, hT.1⟩ r.1 r.2 y0 y1 ex]
      exact hx
  · rcases cz_set hm with ⟨-, c⟩ | ⟨D1, E, c, d, pm⟩
    · exact Or.inr ⟨a, c⟩
    · rw [c] at b
      cases b
end ROKS
def itP (fn : Nat) (Vs Vl : List Nat) (Os : List ob_T) (F : ob_T) (A : Nat → Int → Int) (N : Int → Int) (p : Int) : List (Option ob_T) := itR (sp_in Vs Os) A N p (A 41 p) ++ ((sp_cc fn (sp_in Vs Os (DM A N (A 39 p))).1).1.map (sp_cI Vl F) ++ [some F])
def ROK (fn : Nat) (Vs Vl : List Nat) (Os : List ob_T) (F : ob_T) (A : Nat → Int → Int) (N : Int → Int) (c p : Int) : Prop := ∃ E : List ob_T, sp_cz (itP fn Vs Vl Os F A N p) = some E ∧ ∀ k : Int, 0 ≤ k → k < A 51 (c + p) → DM A N (A 50 (30 * (c + p) + k)) ∈ E
def IDP (J : Int → Prop) (u p n : Int) : Prop := (u = 0 ∧ ∀ q : Int, 0 ≤ q → q < p → J q) ∨ (¬ u = 0 ∧ ∃ q : Int, (0 ≤ q ∧ q < n) ∧ ¬ J q)
theorem IDP_0 {J : Int → Prop} {u n : Int} (h : u = 0) : IDP J u 0 n := Or.inl ⟨h, fun q q0 q1 => absurd q1 (by omega)⟩
theorem IDP_e {J : Int → Prop} {u p n : Int} (h : IDP J u p n) (e : p = n) : IDP J u n n := by
  rw [e] at h
  exact h
theorem IDP_x {J : Int → Prop} {u p n : Int} (h : IDP J u p n) (ne : ¬ u = 0) : IDP J u n n := by
  rcases h with ⟨a, -⟩ | b
  · exact absurd a ne
  · exact Or.inr b
theorem IDP_no {J : Int → Prop} {u p n : Int} (ne : ¬ u = 0) (p0 : 0 ≤ p) (p1 : p < n) (h : ¬ J p) : IDP J u (p + 1) n := Or.inr ⟨ne, p, ⟨p0, p1⟩, h⟩
theorem IDP_s {J : Int → Prop} {u u1 p n : Int} (h : IDP J u p n) (hu : u = 0) (hu1 : u1 = 0) (hj : J p) : IDP J u1 (p + 1) n := by
  rcases h with ⟨-, b⟩ | ⟨a, -⟩
  · refine Or.inl ⟨hu1, fun q q0 q1 => ?_⟩
    by_cases e : q = p
    · rw [e]
      exact hj
    · exact b q q0 (by omega)
  · exact absurd hu a
theorem itR_BX {F G : Nat → Prop} {I I1 : Nat → Int} {A A1 : Nat → Int → Int} {N N1 : Int → Int} {im : ob_T → ob_T × ob_T} {p k : Int} (hS : MST I A N) (hT : TRX I A N) (x : BX F G I A N I1 A1 N1) (f10 : ¬ F 10) (g8 : ¬ G 8) (g9 : ¬ G 9) (g40 : ¬ G 40) (hb : ∀ q : Int, 0 ≤ q → q < k → 0 ≤ A 40 (64 * p + q) ∧ A 40 (64 * p + q) < I 7) : itR im A1 N1 p k = itR im A N p k := by
  unfold itR
  rw [x.2.2.2.2 40 (by decide) (by decide) (by decide) (by decide) (by decide) (by decide) g40]
  refine List.map_congr_left (fun y hy => ?_)
  obtain ⟨q, q0, q1, e⟩ := ixl_mem.mp hy
  have b := hb q q0 q1
  rw [e] at b
  rw [DM_BX hS hT x f10 g8 g9 b.1 b.2]
