def sp_as : ob_T → List ob_T
  | .add a b => a :: sp_as b
  | _ => []
def sp_pl : ob_T → Bool
  | .add _ b => sp_pl b
  | .var v => v == 31361
  | _ => false
def STo (A : Nat → Int → Int) (D : Int → ob_T) (U : Int) : Prop := (∀ k : Int, 0 ≤ k → k < U → (A 1 k = -1 ∧ ∃ n : Int, D k = .num n) ∨ (A 1 k = -2 ∧ ∃ v : Nat, D k = .var v) ∨ ((0 ≤ A 1 k ∧ A 1 k < k ∧ 0 ≤ A 2 k ∧ A 2 k < k) ∧ D k = .add (D (A 1 k)) (D (A 2 k)))) ∧ (∀ j k : Int, 0 ≤ j → j < U → 0 ≤ k → k < U → D j = D k → j = k) ∧ (17 ≤ U ∧ D 0 = sp_nil ∧ D 1 = sp_t ∧ D 2 = .var 85168940)
section STS
variable {A : Nat → Int → Int} {D : Int → ob_T} {U k : Int}
theorem ST_p (h : STo A D U) (k0 : 0 ≤ k) (k1 : k < U) (e : 0 ≤ A 1 k) : (A 1 k < k ∧ 0 ≤ A 2 k ∧ A 2 k < k) ∧ D k = .add (D (A 1 k)) (D (A 2 k)) := by
  rcases h.1 k k0 k1 with ⟨q, -⟩ | ⟨q, -⟩ | ⟨q1, q2⟩
  · omega
  · omega
  · exact ⟨q1.2, q2⟩
theorem ST_v (h : STo A D U) (k0 : 0 ≤ k) (k1 : k < U) (e : A 1 k = -2) : ∃ v : Nat, D k = .var v := by
  rcases h.1 k k0 k1 with ⟨q, -⟩ | ⟨-, q⟩ | ⟨q1, q2⟩
  · omega
  · exact q
  · omega
theorem ST_n (h : STo A D U) (k0 : 0 ≤ k) (k1 : k < U) (e : A 1 k = -1) : ∃ n : Int, D k = .num n := by
  rcases h.1 k k0 k1 with ⟨-, q⟩ | ⟨q, -⟩ | ⟨q1, q2⟩
  · exact q
  · omega
  · omega
theorem ST_iv (h : STo A D U) (k0 : 0 ≤ k) (k1 : k < U) {v : Nat} (e : D k = .var v) : A 1 k = -2 := by
  rcases h.1 k k0 k1 with ⟨-, n, q⟩ | ⟨q, -⟩ | ⟨-, q2⟩
  · rw [e] at q
    cases q
  · exact q
  · rw [e] at q2
    cases q2
theorem ST_in (h : STo A D U) (k0 : 0 ≤ k) (k1 : k < U) {n : Int} (e : D k = .num n) : A 1 k = -1 := by
  rcases h.1 k k0 k1 with ⟨q, -⟩ | ⟨-, v, q⟩ | ⟨-, q2⟩
  · exact q
  · rw [e] at q
    cases q
  · rw [e] at q2
    cases q2
theorem ST_ip (h : STo A D U) (k0 : 0 ≤ k) (k1 : k < U) {a b : ob_T} (e : D k = .add a b) : 0 ≤ A 1 k ∧ D (A 1 k) = a ∧ D (A 2 k) = b := by
  rcases h.1 k k0 k1 with ⟨-, n, q⟩ | ⟨-, v, q⟩ | ⟨q1, q2⟩
  · rw [e] at q
    cases q
  · rw [e] at q
    cases q
  · rw [e] at q2
    injection q2 with q3 q4
    exact ⟨q1.1, q3.symm, q4.symm⟩
theorem ST_eq (h : STo A D U) {j : Int} (j0 : 0 ≤ j) (j1 : j < U) (k0 : 0 ≤ k) (k1 : k < U) : D j = D k ↔ j = k := ⟨h.2.1 j k j0 j1 k0 k1, fun e => by rw [e]⟩
theorem ST_0 (h : STo A D U) (k0 : 0 ≤ k) (k1 : k < U) : D k = .var 31361 ↔ k = 0 := by
  have e : D 0 = .var 31361 := h.2.2.2.1
  have u := h.2.2.1
  rw [← e]
  exact ST_eq h k0 k1 (by decide) (by omega)
theorem ST_1 (h : STo A D U) (k0 : 0 ≤ k) (k1 : k < U) : D k = .var 20 ↔ k = 1 := by
  have e : D 1 = .var 20 := h.2.2.2.2.1
  have u := h.2.2.1
  rw [← e]
  exact ST_eq h k0 k1 (by decide) (by omega)
theorem ST_2 (h : STo A D U) (k0 : 0 ≤ k) (k1 : k < U) : sp_isq (D k) = true ↔ k = 2 := by
  have e : D 2 = .var 85168940 := h.2.2.2.2.2
  have u := h.2.2.1
  rw [← ST_eq h k0 k1 (by decide) (by omega), e]
  constructor
  · intro q
    match hd : D k, q with
    | .var v, q =>
      have q : (v == 85168940) = true := q
      rw [beq_iff_eq] at q
      rw [q]
  · intro q
    rw [q]
    rfl
theorem ST_isL (h : STo A D U) : ∀ (n : Nat) (k : Int), 0 ≤ k → k < U → (isL A n k ↔ sp_pl (D k) = true ∧ (sp_as (D k)).length = n)
  | 0, k, k0, k1 => by
    show k = 0 ↔ _
    constructor
    · intro q
      rw [(ST_0 h k0 k1).mpr q]
      exact ⟨rfl, rfl⟩
    · intro ⟨q1, q2⟩
      rcases h.1 k k0 k1 with ⟨-, n, e⟩ | ⟨-, v, e⟩ | ⟨-, e⟩
      · rw [e] at q1
        cases q1
      · rw [e] at q1
        have q1 : (v == 31361) = true := q1
        rw [beq_iff_eq] at q1
        rw [q1] at e
        exact (ST_0 h k0 k1).mp e
      · rw [e] at q2
        exact absurd q2 (Nat.succ_ne_zero _)
  | n + 1, k, k0, k1 => by
    show 0 ≤ A 1 k ∧ isL A n (A 2 k) ↔ _
    rcases h.1 k k0 k1 with ⟨a, n1, e⟩ | ⟨a, v, e⟩ | ⟨a, e⟩
    · rw [e]
      exact ⟨fun q => absurd q.1 (by omega), fun q => by cases q.1⟩
    · rw [e]
      exact ⟨fun q => absurd q.1 (by omega), fun q => absurd q.2 (fun w => by cases w)⟩
    · have i := ST_isL h n (A 2 k) a.2.2.1 (by omega)
      rw [i, e]
      show _ ↔ sp_pl (D (A 2 k)) = true ∧ (sp_as (D (A 2 k))).length + 1 = n + 1
      exact ⟨fun q => ⟨q.2.1, by omega⟩, fun q => ⟨a.1, q.1, by omega⟩⟩
theorem ST_rt (h : STo A D U) : ∀ (n j : Nat) (k : Int), 0 ≤ k → k < U → isL A n k → j < n → (sp_as (D k))[j]? = some (D (A 1 (rt A j k))) ∧ (0 ≤ A 1 (rt A j k) ∧ A 1 (rt A j k) < k)
  | 0, j, k, _, _, _, hj => absurd hj (Nat.not_lt_zero _)
  | n + 1, 0, k, k0, k1, hL, _ => by
    obtain ⟨q1, q2⟩ := ST_p h k0 k1 hL.1
    rw [q2]
    exact ⟨rfl, hL.1, q1.1⟩
  | n + 1, j + 1, k, k0, k1, hL, hj => by
    obtain ⟨q1, q2⟩ := ST_p h k0 k1 hL.1
    have i := ST_rt h n j (A 2 k) q1.2.1 (by omega) hL.2 (by omega)
    rw [q2]
    refine ⟨i.1, i.2.1, ?_⟩
    have := i.2.2
    show A 1 (rt A j (A 2 k)) < k
    omega
theorem ST_one (h : STo A D U) (k0 : 0 ≤ k) (k1 : k < U) : (0 ≤ A 1 k ∧ A 2 k = 0) ↔ sp_one (D k) = true := by
  rcases h.1 k k0 k1 with ⟨a, n1, e⟩ | ⟨a, v, e⟩ | ⟨a, e⟩
  · rw [e]
    exact ⟨fun q => absurd q.1 (by omega), fun q => by cases q⟩
  · rw [e]
    exact ⟨fun q => absurd q.1 (by omega), fun q => by cases q⟩
  · rw [e]
    have q := ST_0 h a.2.2.1 (show A 2 k < U by omega)
    constructor
    · intro w
      rw [q.mpr w.2]
      rfl
    · intro w
      refine ⟨a.1, q.mp ?_⟩
      match hd : D (A 2 k), w with
      | .var v, w =>
        have w : (v == 31361) = true := w
        rw [beq_iff_eq] at w
        rw [w]
theorem ST_ba (h : STo A D U) (k0 : 0 ≤ k) (k1 : k < U) : (A 1 k = -1 ∨ k = 0 ∨ k = 1) ↔ sp_ba (D k) = true := by
  rw [← ST_0 h k0 k1, ← ST_1 h k0 k1]
  rcases h.1 k k0 k1 with ⟨a, n1, e⟩ | ⟨a, v, e⟩ | ⟨a, e⟩
  · rw [e]
    exact ⟨fun _ => rfl, fun _ => Or.inl a⟩
  · rw [e]
    show _ ↔ (v == 31361 || v == 20) = true
    rw [Bool.or_eq_true, beq_iff_eq, beq_iff_eq]
    constructor
    · rintro (q | q | q)
      · omega
      · injection q with q
        exact Or.inl q
      · injection q with q
        exact Or.inr q
    · rintro (q | q)
      · exact Or.inr (Or.inl (by rw [q]))
      · exact Or.inr (Or.inr (by rw [q]))
  · rw [e]
    constructor
    · rintro (q | q | q)
      · omega
      · cases q
      · cases q
    · intro q
      cases q
end STS
theorem MX_ST {I : Nat → Int} {A : Nat → Int → Int} {N : Int → Int} (h : MX I A N) (hM : MNM A N) (ht : DM A N 1 = sp_t) (u : 17 ≤ I 7) : STo A (DM A N) (I 7) := by
  refine ⟨fun k k0 k1 => ?_, fun j k j0 j1 k0 k1 e => DM_inj h j0 j1 k0 k1 e, u, hM.1, ht, hM.2⟩
  have q := (h.1.2.1 k k0 k1).1
  rcases q with q | q | q
  · exact Or.inl ⟨q.1, _, DM_n q.1⟩
  · exact Or.inr (Or.inl ⟨q.1, _, DM_s q.1⟩)
  · exact Or.inr (Or.inr ⟨q, DM_p h k0 k1 q.1⟩)
theorem KX_ST {s : KS} (hB : KB s) (h : KX s) (e0 : DK s.N 0 = sp_nil) (e1 : DK s.N 1 = sp_t) (e2 : DK s.N 2 = .var 85168940) (u : 17 ≤ s.I 8) : STo (SD s) (DK s.N) (s.I 8) := by
  refine ⟨fun k k0 k1 => ?_, fun j k j0 j1 k0 k1 e => DK_inj hB h j0 j1 k0 k1 e, u, e0, e1, e2⟩
  have hP := h.1.1.2 k k0 k1
  by_cases n : s.N k < 0
  · have p := (SD_neg (s := s) n).1
    have p2 := (SD_neg (s := s) n).2
    have q := hP.2.2.2.2 (SD_nn.mpr n)
    refine Or.inr (Or.inr ⟨⟨SD_nn.mpr n, by omega, by omega, by omega⟩, ?_⟩)
    rw [DK_p hB h k0 k1 n, p, p2]
  · have a := (SD_at (s := s) n).1
    by_cases v : 4611686018427387904 ≤ s.N k
    · refine Or.inr (Or.inl ⟨?_, _, DK_s v⟩)
      show (if s.N k < 0 then sd1 (s.N k) else if 4611686018427387904 ≤ s.N k then -2 else -1) = -2
      rw [if_neg n, if_pos v]
    · refine Or.inl ⟨?_, _, DK_n (by omega) (by omega)⟩
      show (if s.N k < 0 then sd1 (s.N k) else if 4611686018427387904 ≤ s.N k then -2 else -1) = -1
      rw [if_neg n, if_neg v]
