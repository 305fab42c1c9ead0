def ART (ar : Int → Int) (ft : Nat → Int) (I : Nat → Int) (A : Nat → Int → Int) (N : Int → Int) : Prop := ∀ f : Int, 0 ≤ f → f < I 7 → ar f = sp_arT ft (DM A N f)
section TSP
variable {I : Nat → Int} {A : Nat → Int → Int} {N : Int → Int} {ar : Int → Int} {ft : Nat → Int}
theorem nil_0 (hS : MST I A N) (hN : NM I A) (hT : TRX I A N) {k : Int} (k0 : 0 ≤ k) (k1 : k < I 7) : DM A N k = .var 31361 ↔ k = 0 := DM_nm hS hN hT k0 k1 (x := 0) (by decide)
theorem one_0 (hS : MST I A N) (hN : NM I A) (hT : TRX I A N) {k : Int} (k0 : 0 ≤ k) (k1 : k < I 7) : sp_one (DM A N k) = true ↔ (0 ≤ A 1 k ∧ A 2 k = 0) := by
  have hP := MST_PW hS
  by_cases e : A 1 k < 0
  · rcases DM_at hS k0 k1 e with ⟨-, n, q⟩ | ⟨-, v, q⟩
    · rw [q]
      exact ⟨fun x => absurd (show false = true from x) (by decide), fun x => absurd x.1 (by omega)⟩
    · rw [q]
      exact ⟨fun x => absurd (show false = true from x) (by decide), fun x => absurd x.1 (by omega)⟩
  · have q0 := hP.2 k k0 k1
    have q2 := q0.2.2.2.2 (by omega)
    have nz := nil_0 hS hN hT (k := A 2 k) (by omega) (by omega)
    rw [DM_pr hS hT k0 k1 (by omega)]
    by_cases c : A 2 k = 0
    · rw [nz.mpr c]
      exact ⟨fun _ => ⟨by omega, c⟩, fun _ => rfl⟩
    · refine ⟨fun x => absurd ?_ c, fun x => absurd x.2 c⟩
      generalize ed : DM A N (A 2 k) = b at x
      match b, x with
      | .var v, x =>
        have v2 : v = 31361 := by
          have : (v == 31361) = true := x
          exact beq_iff_eq.mp this
        rw [v2] at ed
        exact nz.mp ed
theorem ba_0 (hS : MST I A N) (hN : NM I A) (hT : TRX I A N) {k : Int} (k0 : 0 ≤ k) (k1 : k < I 7) : sp_ba (DM A N k) = true ↔ (A 1 k = -1 ∨ k = 0 ∨ k = 1) := by
  have n7 := hN.1
  have z0 := hN.2 0 (by decide) (by decide)
  have z1 := hN.2 1 (by decide) (by decide)
  by_cases e : A 1 k < 0
  · rcases DM_at hS k0 k1 e with ⟨a, n, q⟩ | ⟨a, v, q⟩
    · rw [q]
      exact ⟨fun _ => Or.inl a, fun _ => rfl⟩
    · constructor
      · intro x
        rw [q] at x
        have x : (v == 31361 || v == 20) = true := x
        rw [Bool.or_eq_true, beq_iff_eq, beq_iff_eq] at x
        rcases x with x | x
        · rw [x] at q
          exact Or.inr (Or.inl ((DM_nm hS hN hT k0 k1 (x := 0) (by decide)).mp q))
        · rw [x] at q
          exact Or.inr (Or.inr ((DM_nm hS hN hT k0 k1 (x := 1) (by decide)).mp q))
      · intro x
        rcases x with x | x | x
        · omega
        · rw [x, DM_0 hT]
          rfl
        · rw [x, DM_1 hT]
          rfl
  · rw [DM_pr hS hT k0 k1 (by omega)]
    refine ⟨fun x => absurd (show false = true from x) (by decide), fun x => ?_⟩
    rcases x with x | x | x
    · omega
    · rw [x, z0] at e
      omega
    · rw [x, z1] at e
      omega
theorem TS_sp (hS : MST I A N) (hN : NM I A) (hT : TRX I A N) (hA : ART ar ft I A N) : ∀ (f : Nat) (k : Int), k.toNat < f → 0 ≤ k → k < I 7 → sp_ts ft (DM A N k) = (TS A ar k, LSq A ar k, CZ A ar k)
  | f + 1, k, hf, k0, k1 => by
    have hP := MST_PW hS
    have z0 := hN.2 0 (by decide) (by decide)
    by_cases e : A 1 k < 0
    · have cz : CZ A ar k = 0 := by
        unfold CZ
        rw [tz_atom A ar _ k e]
      rw [TS_atom e, cz]
      rcases DM_at hS k0 k1 e with ⟨a, n, q⟩ | ⟨a, v, q⟩
      · rw [q, LS_atom e (fun h => by rw [h, z0] at a; omega)]
        rfl
      · rw [q]
        show ((1 : Int), (if v = 31361 then (0 : Int) else -1), (0 : Int)) = _
        by_cases c : k = 0
        · have cv : v = 31361 := by
            rw [(nil_0 hS hN hT k0 k1).mpr c] at q
            injection q with q
            exact q.symm
          rw [if_pos cv, c, LS_0]
        · have cv : v ≠ 31361 := fun h => c ((nil_0 hS hN hT k0 k1).mp (by rw [q, h]))
          rw [if_neg cv, LS_atom e c]
    · have q0 := hP.2 k k0 k1
      have q2 := q0.2.2.2.2 (by omega)
      have ra := TS_sp hS hN hT hA f (A 1 k) (by omega) (by omega) (by omega)
      have rb := TS_sp hS hN hT hA f (A 2 k) (by omega) (by omega) (by omega)
      have kz : 0 < k := by
        by_cases c : k = 0
        · rw [c, z0] at e
          omega
        · omega
      have iq := isq_2 hS hN hT (k := A 1 k) (by omega) (by omega)
      have on := one_0 hS hN hT (k := A 2 k) (by omega) (by omega)
      rw [DM_pr hS hT k0 k1 (by omega), LS_pair hP kz k1 (by omega), (LZ_pair hP kz k1 (by omega)).2]
      show ((if sp_isq (DM A N (A 1 k)) = true then (if sp_one (DM A N (A 2 k)) = true then (1 : Int) else 0) else if 0 ≤ (sp_ts ft (DM A N (A 2 k))).2.1 ∧ (sp_ts ft (DM A N (A 2 k))).2.2 = sp_arT ft (DM A N (A 1 k)) then 1 + (sp_ts ft (DM A N (A 2 k))).2.1 else 0), (if 1 ≤ (sp_ts ft (DM A N (A 1 k))).1 ∧ 0 ≤ (sp_ts ft (DM A N (A 2 k))).2.1 then (sp_ts ft (DM A N (A 1 k))).1 + (sp_ts ft (DM A N (A 2 k))).2.1 else -1), 1 + (sp_ts ft (DM A N (A 2 k))).2.2) = _
      rw [ra, rb, ← hA (A 1 k) (by omega) (by omega)]
      dsimp only
      by_cases c : A 1 k = 2
      · rw [if_pos (iq.mpr c), TS_quote c]
        by_cases c2 : 0 ≤ A 1 (A 2 k) ∧ A 2 (A 2 k) = 0
        · rw [if_pos (on.mpr c2), if_pos c2]
        · rw [if_neg (fun h => c2 (on.mp h)), if_neg c2]
      · rw [if_neg (fun h => c (iq.mp h)), TS_call hP k0 k1 (by omega) c]
theorem TS_1 (hS : MST I A N) (hN : NM I A) (hT : TRX I A N) (hA : ART ar ft I A N) {k : Int} (k0 : 0 ≤ k) (k1 : k < I 7) : sp_ts ft (DM A N k) = (TS A ar k, LSq A ar k, CZ A ar k) := TS_sp hS hN hT hA _ k (Nat.lt_succ_self _) k0 k1
theorem NF_sp (hS : MST I A N) (hN : NM I A) (hT : TRX I A N) : ∀ (f : Nat) (o t : Int), o.toNat < f → 0 ≤ o → o < I 7 → 0 ≤ t → t < I 7 → (NFT A o t → 1 ≤ TS A ar o → DM A N t = (sp_nf (DM A N o)).1) ∧ (NFL A o t → 0 ≤ LSq A ar o → DM A N t = (sp_nf (DM A N o)).2)
  | f + 1, o, t, hf, o0, o1, t0, t1 => by
    have hP := MST_PW hS
    have n7 := hN.1
    have z0 := hN.2 0 (by decide) (by decide)
    by_cases e : A 1 o < 0
    · refine ⟨fun h _ => ?_, fun h hl => ?_⟩
      · rw [(NFT_atom e).mp h]
        rcases DM_at hS o0 o1 e with ⟨-, n, q⟩ | ⟨-, v, q⟩
        · rw [q]
          rfl
        · rw [q]
          rfl
      · by_cases c : o = 0
        · rw [c] at h ⊢
          rw [NFL_0.mp h, DM_0 hT]
          rfl
        · rw [LS_atom e c] at hl
          omega
    · have q0 := hP.2 o o0 o1
      have q2 := q0.2.2.2.2 (by omega)
      have oz : 0 < o := by
        by_cases c : o = 0
        · rw [c, z0] at e
          omega
        · omega
      have iq := isq_2 hS hN hT (k := A 1 o) (by omega) (by omega)
      refine ⟨fun h ht => ?_, fun h hl => ?_⟩
      · rw [DM_pr hS hT o0 o1 (by omega)]
        show _ = (if sp_isq (DM A N (A 1 o)) = true then (if sp_ba (sp_fst (DM A N (A 2 o))) = true then sp_fst (DM A N (A 2 o)) else .add (DM A N (A 1 o)) (DM A N (A 2 o))) else .add (DM A N (A 1 o)) (sp_nf (DM A N (A 2 o))).2)
        by_cases c : A 1 o = 2
        · rw [if_pos (iq.mpr c)]
          rw [TS_quote c] at ht
          have c2 : 0 ≤ A 1 (A 2 o) ∧ A 2 (A 2 o) = 0 := by
            by_cases c2 : 0 ≤ A 1 (A 2 o) ∧ A 2 (A 2 o) = 0
            · exact c2
            · rw [if_neg c2] at ht
              omega
          obtain ⟨-, cq⟩ := (NFT_quote c).mp h
          have p0 := hP.2 (A 2 o) (by omega) (by omega)
          have p2 := p0.2.2.2.2 c2.1
          have db := DM_pr hS hT (k := A 2 o) (by omega) (by omega) c2.1
          have ba := ba_0 hS hN hT (k := A 1 (A 2 o)) (by omega) (by omega)
          have fs : sp_fst (DM A N (A 2 o)) = DM A N (A 1 (A 2 o)) := by
            rw [db]
            rfl
          rw [fs]
          rcases cq with ⟨cb, ct⟩ | ⟨cb, w1, w2, w3, w4⟩
          · rw [if_pos (ba.mpr cb), ct]
          · have s0 := hP.2 t t0 t1
            have s2 := s0.2.2.2.2 (by omega)
            rw [if_neg (fun h => cb (ba.mp h)), DM_pr hS hT t0 t1 (by omega), w1, c, db, DM_pr hS hT (k := A 2 t) (by omega) (by omega) (by omega), w3, w4, c2.2]
        · rw [if_neg (fun h => c (iq.mp h))]
          rw [TS_call hP o0 o1 (by omega) c] at ht
          obtain ⟨h1, h2⟩ := (NFT_call hP o0 o1 (by omega) c).mp h
          have s0 := hP.2 t t0 t1
          have s2 := s0.2.2.2.2 (by omega)
          have lb : 0 ≤ LSq A ar (A 2 o) := by
            by_cases c2 : 0 ≤ LSq A ar (A 2 o) ∧ CZ A ar (A 2 o) = ar (A 1 o)
            · exact c2.1
            · rw [if_neg c2] at ht
              omega
          rw [DM_pr hS hT t0 t1 (by omega), h1, (NF_sp hS hN hT f (A 2 o) (A 2 t) (by omega) (by omega) (by omega) (by omega) (by omega)).2 h2 lb]
      · obtain ⟨h1, h2, h3, h4⟩ := (NFL_pair hP oz o1 (by omega)).mp h
        rw [LS_pair hP oz o1 (by omega)] at hl
        have s0 := hP.2 t t0 t1
        have s2 := s0.2.2.2.2 h1
        have lb : 1 ≤ TS A ar (A 1 o) ∧ 0 ≤ LSq A ar (A 2 o) := by
          by_cases c2 : 1 ≤ TS A ar (A 1 o) ∧ 0 ≤ LSq A ar (A 2 o)
          · exact c2
          · rw [if_neg c2] at hl
            omega
        rw [DM_pr hS hT o0 o1 (by omega), DM_pr hS hT t0 t1 h1, (NF_sp hS hN hT f (A 1 o) (A 1 t) (by omega) (by omega) (by omega) (by omega) (by omega)).1 h3 lb.1, (NF_sp hS hN hT f (A 2 o) (A 2 t) (by omega) (by omega) (by omega) (by omega) (by omega)).2 h4 lb.2]
        rfl
theorem NFT_tm (hS : MST I A N) (hN : NM I A) (hT : TRX I A N) (hA : ART ar ft I A N) {o t : Int} (o0 : 0 ≤ o) (o1 : o < I 7) (t0 : 0 ≤ t) (t1 : t < I 7) (h : NFT A o t) (a : 1 ≤ TS A ar o) (b : TS A ar o ≤ 120) : sp_tm ft (DM A N o) = some (DM A N t) := by
  unfold sp_tm
  rw [TS_1 hS hN hT hA o0 o1, if_pos ⟨a, b⟩, (NF_sp (ar := ar) hS hN hT _ o t (Nat.lt_succ_self _) o0 o1 t0 t1).1 h a]
theorem no_tm (hS : MST I A N) (hN : NM I A) (hT : TRX I A N) (hA : ART ar ft I A N) {o : Int} (o0 : 0 ≤ o) (o1 : o < I 7) (h : ¬ (1 ≤ TS A ar o ∧ TS A ar o ≤ 120)) : sp_tm ft (DM A N o) = none := by
  unfold sp_tm
  rw [TS_1 hS hN hT hA o0 o1, if_neg h]
theorem TZ_sp (hS : MST I A N) (hN : NM I A) (hT : TRX I A N) : ∀ (f : Nat) (k : Int), k.toNat < f → 0 ≤ k → k < I 7 → (1 ≤ TZ A ar k → (sp_sz (DM A N k)).1 = TZ A ar k) ∧ (0 ≤ LZ A ar k → (sp_sz (DM A N k)).2 = LZ A ar k)
  | f + 1, k, hf, k0, k1 => by
    have hP := MST_PW hS
    have z0 := hN.2 0 (by decide) (by decide)
    by_cases e : A 1 k < 0
    · refine ⟨fun _ => ?_, fun hl => ?_⟩
      · rw [TZ_atom e]
        rcases DM_at hS k0 k1 e with ⟨-, n, q⟩ | ⟨-, v, q⟩
        · rw [q]
          rfl
        · rw [q]
          rfl
      · by_cases c : k = 0
        · rw [c, DM_0 hT, (LZ_0 (by omega)).1]
          rfl
        · rw [LZ_atom e c] at hl
          omega
    · have q0 := hP.2 k k0 k1
      have q2 := q0.2.2.2.2 (by omega)
      have ra := TZ_sp hS hN hT f (A 1 k) (by omega) (by omega) (by omega)
      have rb := TZ_sp hS hN hT f (A 2 k) (by omega) (by omega) (by omega)
      have kz : 0 < k := by
        by_cases c : k = 0
        · rw [c, z0] at e
          omega
        · omega
      have iq := isq_2 hS hN hT (k := A 1 k) (by omega) (by omega)
      rw [DM_pr hS hT k0 k1 (by omega)]
      refine ⟨fun h => ?_, fun h => ?_⟩
      · show (if sp_isq (DM A N (A 1 k)) = true then (1 : Int) else 1 + (sp_sz (DM A N (A 2 k))).2) = _
        by_cases c : A 1 k = 2
        · rw [if_pos (iq.mpr c), TZ_quote hP k0 k1 c]
        · rw [if_neg (fun h => c (iq.mp h))]
          rw [TZ_call hP k0 k1 (by omega) c] at h ⊢
          by_cases c2 : 0 ≤ LZ A ar (A 2 k) ∧ CZ A ar (A 2 k) = ar (A 1 k) ∧ A 4 k ≠ 0
          · rw [if_pos c2, rb.2 c2.1]
          · rw [if_neg c2] at h
            omega
      · show (sp_sz (DM A N (A 1 k))).1 + (sp_sz (DM A N (A 2 k))).2 = _
        rw [(LZ_pair hP kz k1 (by omega)).1] at h ⊢
        by_cases c2 : 1 ≤ TZ A ar (A 1 k) ∧ 0 ≤ LZ A ar (A 2 k)
        · rw [if_pos c2, ra.1 c2.1, rb.2 c2.2]
        · rw [if_neg c2] at h
          omega
theorem TZ_1 (hS : MST I A N) (hN : NM I A) (hT : TRX I A N) {k : Int} (k0 : 0 ≤ k) (k1 : k < I 7) (h : 1 ≤ TZ A ar k) : (sp_sz (DM A N k)).1 = TZ A ar k := (TZ_sp hS hN hT _ k (Nat.lt_succ_self _) k0 k1).1 h
end TSP
