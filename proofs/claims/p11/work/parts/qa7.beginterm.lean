def nf (A : Nat → Int → Int) : Nat → Int → Int → Prop × Prop
  | 0, _, _ => (False, False)
  | f + 1, o, t => (if A 1 o < 0 then t = o else if A 1 o = 2 then (0 ≤ A 1 (A 2 o) ∧ CQ A (A 1 (A 2 o)) t) else (A 1 t = A 1 o ∧ (nf A f (A 2 o) (A 2 t)).2), if o = 0 then t = 0 else (0 ≤ A 1 o ∧ 0 ≤ A 1 t ∧ t ≠ 0 ∧ (nf A f (A 1 o) (A 1 t)).1 ∧ (nf A f (A 2 o) (A 2 t)).2))
theorem nf_succ (A : Nat → Int → Int) (f : Nat) (o t : Int) : nf A (f + 1) o t = (if A 1 o < 0 then t = o else if A 1 o = 2 then (0 ≤ A 1 (A 2 o) ∧ CQ A (A 1 (A 2 o)) t) else (A 1 t = A 1 o ∧ (nf A f (A 2 o) (A 2 t)).2), if o = 0 then t = 0 else (0 ≤ A 1 o ∧ 0 ≤ A 1 t ∧ t ≠ 0 ∧ (nf A f (A 1 o) (A 1 t)).1 ∧ (nf A f (A 2 o) (A 2 t)).2)) := rfl
theorem nf_fuel {I : Nat → Int} {A : Nat → Int → Int} (hP : PW I A) : ∀ (f g : Nat) (o t : Int), o.toNat < f → o.toNat < g → 0 ≤ o → o < I 7 → nf A f o t = nf A g o t
  | f + 1, g + 1, o, t, hf, hg, h0, h1 => by
    have q := hP.2 o h0 h1
    rw [nf_succ, nf_succ]
    by_cases e : A 1 o < 0
    · rw [if_pos e, if_pos e]
      by_cases e0 : o = 0
      · rw [if_pos e0, if_pos e0]
      · rw [if_neg e0, if_neg e0]
        congr 1
        exact propext ⟨fun q => absurd q.1 (by omega), fun q => absurd q.1 (by omega)⟩
    · have q2 := q.2.2.2.2 (by omega)
      rw [nf_fuel hP f g (A 1 o) (A 1 t) (by omega) (by omega) (by omega) (by omega), nf_fuel hP f g (A 2 o) (A 2 t) (by omega) (by omega) (by omega) (by omega)]
def NFT (A : Nat → Int → Int) (o t : Int) : Prop := (nf A (o.toNat + 1) o t).1
def NFL (A : Nat → Int → Int) (o t : Int) : Prop := (nf A (o.toNat + 1) o t).2
section NFS
variable {I : Nat → Int} {A : Nat → Int → Int} {o t : Int}
theorem nf_at (hP : PW I A) (f : Nat) (hf : o.toNat < f) (h0 : 0 ≤ o) (h1 : o < I 7) : nf A f o t = (NFT A o t, NFL A o t) := by
  rw [nf_fuel hP f (o.toNat + 1) o t hf (Nat.lt_succ_self _) h0 h1]
  rfl
theorem NFT_atom (e : A 1 o < 0) : NFT A o t ↔ t = o := by
  unfold NFT
  rw [nf_succ, if_pos e]
theorem NFT_quote (e : A 1 o = 2) : NFT A o t ↔ (0 ≤ A 1 (A 2 o) ∧ CQ A (A 1 (A 2 o)) t) := by
  unfold NFT
  rw [nf_succ, if_neg (by omega), if_pos e]
theorem NFT_call (hP : PW I A) (h0 : 0 ≤ o) (h1 : o < I 7) (e : 0 ≤ A 1 o) (e2 : A 1 o ≠ 2) : NFT A o t ↔ (A 1 t = A 1 o ∧ NFL A (A 2 o) (A 2 t)) := by
  have q := hP.2 o h0 h1
  have q2 := q.2.2.2.2 e
  unfold NFT
  rw [nf_succ, if_neg (by omega), if_neg e2, nf_at hP o.toNat (by omega) (by omega) (by omega)]
theorem NFL_0 : NFL A 0 t ↔ t = 0 := by
  unfold NFL
  rw [nf_succ, if_pos rfl]
theorem NFL_pair (hP : PW I A) (h0 : 0 < o) (h1 : o < I 7) (e : 0 ≤ A 1 o) : NFL A o t ↔ (0 ≤ A 1 t ∧ t ≠ 0 ∧ NFT A (A 1 o) (A 1 t) ∧ NFL A (A 2 o) (A 2 t)) := by
  have q := hP.2 o (by omega) h1
  have q2 := q.2.2.2.2 e
  have a : NFL A o t = (nf A (o.toNat + 1) o t).2 := rfl
  rw [a, nf_succ]
  dsimp only
  rw [if_neg (by omega : ¬ o = 0), nf_at hP o.toNat (by omega) e (by omega), nf_at hP o.toNat (by omega) (by omega) (by omega)]
  exact ⟨fun q => q.2, fun q => ⟨e, q⟩⟩
end NFS
theorem NF_12 {A A1 : Nat → Int → Int} (h1 : A1 1 = A 1) (h2 : A1 2 = A 2) : ∀ (f : Nat) (o t : Int), nf A1 f o t = nf A f o t
  | 0, _, _ => rfl
  | f + 1, o, t => by
    have cq : CQ A1 = CQ A := by
      funext x y
      unfold CQ
      rw [h1, h2]
    rw [nf_succ, nf_succ, h1, h2, cq, NF_12 h1 h2 f, NF_12 h1 h2 f]
theorem NFT_12 {A A1 : Nat → Int → Int} (h1 : A1 1 = A 1) (h2 : A1 2 = A 2) : NFT A1 = NFT A := by
  funext o t
  unfold NFT
  rw [NF_12 h1 h2]
theorem NF_ext {I I1 : Nat → Int} {A A1 : Nat → Int → Int} (hP : PW I A) (P1 : PW I1 A1) (h7 : I 7 ≤ I1 7) (hx : ∀ k : Int, 0 ≤ k → k < I 7 → A1 1 k = A 1 k ∧ A1 2 k = A 2 k) : ∀ (f : Nat) (o t : Int), o.toNat < f → 0 ≤ o → o < I 7 → 0 ≤ t → t < I 7 → (NFT A o t → NFT A1 o t) ∧ (NFL A o t → NFL A1 o t)
  | f + 1, o, t, hf, h0, h1, t0, t1 => by
    have q := hP.2 o h0 h1
    have p := hx o h0 h1
    have pt := hx t t0 t1
    have qt := hP.2 t t0 t1
    refine ⟨fun n => ?_, fun n => ?_⟩
    · by_cases e : A 1 o < 0
      · exact (NFT_atom (by rw [p.1]; exact e)).mpr ((NFT_atom e).mp n)
      · have q2 := q.2.2.2.2 (by omega)
        by_cases e2 : A 1 o = 2
        · obtain ⟨ex, c⟩ := (NFT_quote e2).mp n
          refine (NFT_quote (by rw [p.1]; exact e2)).mpr ?_
          have p2 := hx (A 2 o) (by omega) (by omega)
          rw [p.2, p2.1]
          refine ⟨ex, ?_⟩
          have q3 := hP.2 (A 2 o) (by omega) (by omega)
          have px := hx (A 1 (A 2 o)) ex (by omega)
          unfold CQ at c ⊢
          rw [px.1]
          rcases c with c | c
          · exact Or.inl c
          · refine Or.inr ⟨c.1, by rw [pt.1]; exact c.2.1, by rw [pt.2]; exact c.2.2.1, ?_⟩
            have qt2 := qt.2.2.2.2 (by omega)
            have pu := hx (A 2 t) c.2.2.1 (by omega)
            rw [pt.2, pu.1, pu.2]
            exact c.2.2.2
        · have c := (NFT_call hP h0 h1 (by omega) e2).mp n
          refine (NFT_call P1 h0 (by omega) (by omega) (by rw [p.1]; exact e2)).mpr ⟨by rw [pt.1, p.1]; exact c.1, ?_⟩
          have qt2 := qt.2.2.2.2 (by omega)
          rw [p.2, pt.2]
          exact (NF_ext hP P1 h7 hx f (A 2 o) (A 2 t) (by omega) (by omega) (by omega) (by omega) (by omega)).2 c.2
    · by_cases e0 : o = 0
      · subst e0
        exact NFL_0.mpr (NFL_0.mp n)
      · by_cases e : 0 ≤ A 1 o
        · have q2 := q.2.2.2.2 e
          have c := (NFL_pair hP (by omega) h1 e).mp n
          have qt2 := qt.2.2.2.2 c.1
          refine (NFL_pair P1 (by omega) (by omega) (by omega)).mpr ⟨by omega, c.2.1, ?_, ?_⟩
          · rw [p.1, pt.1]
            exact (NF_ext hP P1 h7 hx f (A 1 o) (A 1 t) (by omega) (by omega) (by omega) (by omega) (by omega)).1 c.2.2.1
          · rw [p.2, pt.2]
            exact (NF_ext hP P1 h7 hx f (A 2 o) (A 2 t) (by omega) (by omega) (by omega) (by omega) (by omega)).2 c.2.2.2
        · have a : NFL A o t = (nf A (o.toNat + 1) o t).2 := rfl
          rw [a, nf_succ] at n
          dsimp only at n
          rw [if_neg e0] at n
          exact absurd n.1 e
theorem NF_list {I : Nat → Int} {A : Nat → Int → Int} (hP : PW I A) (n0 : A 1 0 < 0) : ∀ (m : Nat) (l v : Int), 0 ≤ l → l < I 7 → isL A m l → isL A m v → (∀ j : Nat, j < m → NFT A (A 1 (rt A j l)) (A 1 (rt A j v))) → NFL A l v
  | 0, l, v, h0, h1, hl, hv, _ => by
    rw [show l = 0 from hl]
    exact NFL_0.mpr hv
  | m + 1, l, v, h0, h1, hl, hv, h => by
    have q := hP.2 l h0 h1
    have q2 := q.2.2.2.2 hl.1
    have lz : 0 < l := by
      by_cases e : l = 0
      · have := hl.1
        rw [e] at this
        omega
      · omega
    have vz : v ≠ 0 := by
      intro e
      have := hv.1
      rw [e] at this
      omega
    exact (NFL_pair hP lz h1 hl.1).mpr ⟨hv.1, vz, h 0 (by omega), NF_list hP n0 m (A 2 l) (A 2 v) (by omega) (by omega) hl.2 hv.2 (fun j hj => h (j + 1) (by omega))⟩
theorem NF_uniq {I : Nat → Int} {A : Nat → Int → Int} {N : Int → Int} (hS : MST I A N) : ∀ (f : Nat) (o t u : Int), o.toNat < f → 0 ≤ o → o < I 7 → 0 ≤ t → t < I 7 → 0 ≤ u → u < I 7 → (NFT A o t → NFT A o u → t = u) ∧ (NFL A o t → NFL A o u → t = u)
  | f + 1, o, t, u, hf, h0, h1, t0, t1, u0, u1 => by
    have hP := MST_PW hS
    have uq : ∀ a b : Int, 0 ≤ a → a < I 7 → 0 ≤ b → b < I 7 → 0 ≤ A 1 a → A 1 a = A 1 b → A 2 a = A 2 b → a = b := by
      intro a b a0 a1 b0 b1 p e1 e2
      by_cases c : a = b
      · exact c
      · by_cases c2 : a < b
        · exact absurd (hS.2.2.2.2.2.2.1 a b a0 c2 b1 (by omega) e1 e2) id
        · exact absurd (hS.2.2.2.2.2.2.1 b a b0 (by omega) a1 p e1.symm e2.symm) id
    have q := hP.2 o h0 h1
    have qt := hP.2 t t0 t1
    have qu := hP.2 u u0 u1
    refine ⟨fun n m => ?_, fun n m => ?_⟩
    · by_cases e : A 1 o < 0
      · rw [(NFT_atom e).mp n, (NFT_atom e).mp m]
      · have q2 := q.2.2.2.2 (by omega)
        by_cases e2 : A 1 o = 2
        · obtain ⟨ex, a⟩ := (NFT_quote e2).mp n
          have b := ((NFT_quote e2).mp m).2
          unfold CQ at a b
          rcases a with a | a
          · rcases b with b | b
            · rw [a.2, b.2]
            · exact absurd a.1 b.1
          · rcases b with b | b
            · exact absurd b.1 a.1
            · have qt2 := qt.2.2.2.2 (by omega)
              have qu2 := qu.2.2.2.2 (by omega)
              have e9 := uq (A 2 t) (A 2 u) a.2.2.1 (by omega) b.2.2.1 (by omega) (by omega) (by rw [a.2.2.2.1, b.2.2.2.1]) (by rw [a.2.2.2.2, b.2.2.2.2])
              exact uq t u t0 t1 u0 u1 (by omega) (by omega) e9
        · have a := (NFT_call hP h0 h1 (by omega) e2).mp n
          have b := (NFT_call hP h0 h1 (by omega) e2).mp m
          have qt2 := qt.2.2.2.2 (by omega)
          have qu2 := qu.2.2.2.2 (by omega)
          exact uq t u t0 t1 u0 u1 (by omega) (by omega) ((NF_uniq hS f (A 2 o) (A 2 t) (A 2 u) (by omega) (by omega) (by omega) (by omega) (by omega) (by omega) (by omega)).2 a.2 b.2)
    · by_cases e0 : o = 0
      · subst e0
        rw [NFL_0.mp n, NFL_0.mp m]
      · by_cases e : 0 ≤ A 1 o
        · have q2 := q.2.2.2.2 e
          have a := (NFL_pair hP (by omega) h1 e).mp n
          have b := (NFL_pair hP (by omega) h1 e).mp m
          have qt2 := qt.2.2.2.2 a.1
          have qu2 := qu.2.2.2.2 b.1
          exact uq t u t0 t1 u0 u1 a.1 ((NF_uniq hS f (A 1 o) (A 1 t) (A 1 u) (by omega) (by omega) (by omega) a.1 (by omega) b.1 (by omega)).1 a.2.2.1 b.2.2.1) ((NF_uniq hS f (A 2 o) (A 2 t) (A 2 u) (by omega) (by omega) (by omega) (by omega) (by omega) (by omega) (by omega)).2 a.2.2.2 b.2.2.2)
        · have a : NFL A o t = (nf A (o.toNat + 1) o t).2 := rfl
          rw [a, nf_succ] at n
          dsimp only at n
          rw [if_neg e0] at n
          exact absurd n.1 e
def ARF (ar : Int → Int) (I : Nat → Int) (A : Nat → Int → Int) : Prop := ∀ f : Int, 0 ≤ f → ar f ≠ -1 → f < I 7 ∧ A 1 f = -2 ∧ ∃ x : Int, FN I A f x
def ts (A : Nat → Int → Int) (ar : Int → Int) : Nat → Int → Int × Int
  | 0, _ => (0, -1)
  | f + 1, k => (if A 1 k < 0 then 1 else if A 1 k = 2 then (if 0 ≤ A 1 (A 2 k) ∧ A 2 (A 2 k) = 0 then 1 else 0) else if 0 ≤ (ts A ar f (A 2 k)).2 ∧ CZ A ar (A 2 k) = ar (A 1 k) then 1 + (ts A ar f (A 2 k)).2 else 0, if k = 0 then 0 else if 0 ≤ A 1 k ∧ 1 ≤ (ts A ar f (A 1 k)).1 ∧ 0 ≤ (ts A ar f (A 2 k)).2 then (ts A ar f (A 1 k)).1 + (ts A ar f (A 2 k)).2 else -1)
theorem ts_succ (A : Nat → Int → Int) (ar : Int → Int) (f : Nat) (k : Int) : ts A ar (f + 1) k = (if A 1 k < 0 then 1 else if A 1 k = 2 then (if 0 ≤ A 1 (A 2 k) ∧ A 2 (A 2 k) = 0 then 1 else 0) else if 0 ≤ (ts A ar f (A 2 k)).2 ∧ CZ A ar (A 2 k) = ar (A 1 k) then 1 + (ts A ar f (A 2 k)).2 else 0, if k = 0 then 0 else if 0 ≤ A 1 k ∧ 1 ≤ (ts A ar f (A 1 k)).1 ∧ 0 ≤ (ts A ar f (A 2 k)).2 then (ts A ar f (A 1 k)).1 + (ts A ar f (A 2 k)).2 else -1) := rfl
theorem ts_atom (A : Nat → Int → Int) (ar : Int → Int) (f : Nat) (k : Int) (e : A 1 k < 0) : ts A ar (f + 1) k = (1, if k = 0 then 0 else -1) := by
  rw [ts_succ, if_pos e]
  by_cases k0 : k = 0
  · rw [if_pos k0, if_pos k0]
  · rw [if_neg k0, if_neg k0, if_neg (fun q => absurd q.1 (by omega))]
theorem ts_fuel {I : Nat → Int} {A : Nat → Int → Int} {ar : Int → Int} (hP : PW I A) : ∀ (f g : Nat) (k : Int), k.toNat < f → k.toNat < g → 0 ≤ k → k < I 7 → ts A ar f k = ts A ar g k
  | f + 1, g + 1, k, hf, hg, h0, h1 => by
    have q := hP.2 k h0 h1
    by_cases e : A 1 k < 0
    · rw [ts_atom A ar f k e, ts_atom A ar g k e]
    · have q2 := q.2.2.2.2 (by omega)
      rw [ts_succ, ts_succ, ts_fuel hP f g (A 1 k) (by omega) (by omega) (by omega) (by omega), ts_fuel hP f g (A 2 k) (by omega) (by omega) (by omega) (by omega)]
def TS (A : Nat → Int → Int) (ar : Int → Int) (k : Int) : Int := (ts A ar (k.toNat + 1) k).1
def LSq (A : Nat → Int → Int) (ar : Int → Int) (k : Int) : Int := (ts A ar (k.toNat + 1) k).2
section TSS
variable {I : Nat → Int} {A : Nat → Int → Int} {ar : Int → Int} {k : Int}
theorem ts_at (hP : PW I A) (f : Nat) (hf : k.toNat < f) (h0 : 0 ≤ k) (h1 : k < I 7) : ts A ar f k = (TS A ar k, LSq A ar k) := by
  rw [ts_fuel hP f (k.toNat + 1) k hf (Nat.lt_succ_self _) h0 h1]
  rfl
theorem TS_atom (e : A 1 k < 0) : TS A ar k = 1 := by
  unfold TS
  rw [ts_atom A ar _ k e]
theorem TS_quote (e : A 1 k = 2) : TS A ar k = if 0 ≤ A 1 (A 2 k) ∧ A 2 (A 2 k) = 0 then 1 else 0 := by
  unfold TS
  rw [ts_succ, if_neg (by omega), if_pos e]
theorem TS_call (hP : PW I A) (h0 : 0 ≤ k) (h1 : k < I 7) (e : 0 ≤ A 1 k) (e2 : A 1 k ≠ 2) : TS A ar k = if 0 ≤ LSq A ar (A 2 k) ∧ CZ A ar (A 2 k) = ar (A 1 k) then 1 + LSq A ar (A 2 k) else 0 := by
  have q := hP.2 k h0 h1
  have q2 := q.2.2.2.2 e
  unfold TS
  rw [ts_succ, if_neg (by omega), if_neg e2, ts_at hP k.toNat (by omega) (by omega) (by omega)]
theorem LS_0 : LSq A ar 0 = 0 := by
  unfold LSq
  rw [ts_succ, if_pos rfl]
theorem LS_pair (hP : PW I A) (h0 : 0 < k) (h1 : k < I 7) (e : 0 ≤ A 1 k) : LSq A ar k = if 1 ≤ TS A ar (A 1 k) ∧ 0 ≤ LSq A ar (A 2 k) then TS A ar (A 1 k) + LSq A ar (A 2 k) else -1 := by
  have q := hP.2 k (by omega) h1
  have q2 := q.2.2.2.2 e
  have a : LSq A ar k = (ts A ar (k.toNat + 1) k).2 := rfl
  rw [a, ts_succ]
  dsimp only
  rw [if_neg (by omega : ¬ k = 0), ts_at hP k.toNat (by omega) e (by omega), ts_at hP k.toNat (by omega) (by omega) (by omega)]
  dsimp only
  by_cases c : 1 ≤ TS A ar (A 1 k) ∧ 0 ≤ LSq A ar (A 2 k)
  · rw [if_pos c, if_pos ⟨e, c⟩]
  · rw [if_neg c, if_neg (fun q => c q.2)]
theorem LS_atom (e : A 1 k < 0) (e0 : k ≠ 0) : LSq A ar k = -1 := by
  unfold LSq
  rw [ts_atom A ar _ k e, if_neg e0]
theorem LS_isL (hP : PW I A) (n0 : A 1 0 < 0) : ∀ (f : Nat) (k : Int), k.toNat < f → 0 ≤ k → k < I 7 → 0 ≤ LSq A ar k → isL A (CZ A ar k).toNat k
  | f + 1, k, hf, h0, h1, hl => by
    have q := hP.2 k h0 h1
    by_cases e0 : k = 0
    · subst e0
      rw [(LZ_0 n0).2]
      exact rfl
    by_cases e : A 1 k < 0
    · rw [LS_atom e e0] at hl
      omega
    · have q2 := q.2.2.2.2 (by omega)
      have p := LS_pair (ar := ar) hP (by omega) h1 (by omega)
      have c0 := CZ_nn (ar := ar) hP f (A 2 k) (by omega) (by omega) (by omega)
      by_cases c : 1 ≤ TS A ar (A 1 k) ∧ 0 ≤ LSq A ar (A 2 k)
      · have r := LS_isL hP n0 f (A 2 k) (by omega) (by omega) (by omega) c.2
        rw [(LZ_pair (ar := ar) hP (by omega) h1 (by omega)).2, show (1 + CZ A ar (A 2 k)).toNat = (CZ A ar (A 2 k)).toNat + 1 by omega]
        exact ⟨by omega, r⟩
      · rw [if_neg c] at p
        omega
theorem CZ_isL (hP : PW I A) (n0 : A 1 0 < 0) : ∀ (m : Nat) (k : Int), 0 ≤ k → k < I 7 → isL A m k → CZ A ar k = m
  | 0, k, h0, h1, hL => by
    rw [show k = 0 from hL, (LZ_0 n0).2]
    rfl
  | m + 1, k, h0, h1, hL => by
    have pk := hL.1
    have q := hP.2 k h0 h1
    have q2 := q.2.2.2.2 pk
    have kz : 0 < k := by
      by_cases e : k = 0
      · rw [e] at pk
        omega
      · omega
    rw [(LZ_pair (ar := ar) hP kz h1 pk).2, CZ_isL hP n0 m (A 2 k) (by omega) (by omega) hL.2]
    omega
theorem TS_le (hP : PW I A) : ∀ (f : Nat) (k : Int), k.toNat < f → 0 ≤ k → k < I 7 → (0 ≤ TS A ar k ∧ TS A ar k ≤ WD A k) ∧ LSq A ar k ≤ VD A k
  | f + 1, k, hf, h0, h1 => by
    have q := hP.2 k h0 h1
    have w1 := WD_1 hP h0 h1
    have v0 := VD_0 hP h0 h1
    by_cases e : A 1 k < 0
    · refine ⟨by rw [TS_atom e]; omega, ?_⟩
      by_cases e0 : k = 0
      · rw [e0, LS_0]
        rw [e0] at v0
        exact v0
      · rw [LS_atom e e0]
        omega
    · have q2 := q.2.2.2.2 (by omega)
      have r1 := TS_le hP f (A 1 k) (by omega) (by omega) (by omega)
      have r2 := TS_le hP f (A 2 k) (by omega) (by omega) (by omega)
      have vp := VD_pair hP h0 h1 (by omega : 0 ≤ A 1 k)
      refine ⟨?_, ?_⟩
      · by_cases e2 : A 1 k = 2
        · rw [TS_quote e2]
          split <;> omega
        · rw [TS_call hP h0 h1 (by omega) e2]
          have wp := WD_pair hP h0 h1 (by omega : 0 ≤ A 1 k)
          rw [if_neg (fun q => e2 q.1)] at wp
          have w2 := WD_1 hP (by omega : 0 ≤ A 1 k) (by omega : A 1 k < I 7)
          split <;> omega
      · by_cases e0 : k = 0
        · rw [e0, LS_0]
          rw [e0] at v0
          exact v0
        · rw [LS_pair hP (by omega) h1 (by omega)]
          split <;> omega
end TSS
theorem ts_ext {I : Nat → Int} {A A1 : Nat → Int → Int} {ar : Int → Int} (hP : PW I A) (hx : ∀ k : Int, 0 ≤ k → k < I 7 → A1 1 k = A 1 k ∧ A1 2 k = A 2 k) (hc : ∀ k : Int, 0 ≤ k → k < I 7 → CZ A1 ar k = CZ A ar k) : ∀ (f : Nat) (k : Int), 0 ≤ k → k < I 7 → ts A1 ar f k = ts A ar f k
  | 0, _, _, _ => rfl
  | f + 1, k, h0, h1 => by
    have q := hP.2 k h0 h1
    have p := hx k h0 h1
    by_cases e : A 1 k < 0
    · rw [ts_atom A ar f k e, ts_atom A1 ar f k (by rw [p.1]; exact e)]
    · have q2 := q.2.2.2.2 (by omega)
      have p2 := hx (A 2 k) (by omega) (by omega)
      rw [ts_succ, ts_succ, p.1, p.2, p2.1, p2.2, hc (A 2 k) (by omega) (by omega), ts_ext hP hx hc f (A 1 k) (by omega) (by omega), ts_ext hP hx hc f (A 2 k) (by omega) (by omega)]
theorem CZ_12 {A A1 : Nat → Int → Int} {ar : Int → Int} (h1 : A1 1 = A 1) (h2 : A1 2 = A 2) : CZ A1 ar = CZ A ar := by
  have tc : ∀ (f : Nat) (k : Int), (tz A1 ar f k).2.2 = (tz A ar f k).2.2 := fun f => by
    induction f with
    | zero => intro k; rfl
    | succ f ih =>
      intro k
      rw [tz_succ, tz_succ]
      dsimp only
      rw [h1, h2, ih]
  funext k
  exact tc _ k
theorem ts_12 {A A1 : Nat → Int → Int} {ar : Int → Int} (h1 : A1 1 = A 1) (h2 : A1 2 = A 2) : ∀ (f : Nat) (k : Int), ts A1 ar f k = ts A ar f k
  | 0, _ => rfl
  | f + 1, k => by rw [ts_succ, ts_succ, h1, h2, CZ_12 h1 h2, ts_12 h1 h2 f, ts_12 h1 h2 f]
theorem TS_12 {A A1 : Nat → Int → Int} {ar : Int → Int} (h1 : A1 1 = A 1) (h2 : A1 2 = A 2) : TS A1 ar = TS A ar ∧ LSq A1 ar = LSq A ar := by
  refine ⟨funext (fun k => ?_), funext (fun k => ?_)⟩
  · unfold TS
    rw [ts_12 h1 h2]
  · unfold LSq
    rw [ts_12 h1 h2]
theorem TS_ext {I : Nat → Int} {A A1 : Nat → Int → Int} {ar : Int → Int} (hP : PW I A) (hx : ∀ k : Int, 0 ≤ k → k < I 7 → A1 1 k = A 1 k ∧ A1 2 k = A 2 k) (hc : ∀ k : Int, 0 ≤ k → k < I 7 → CZ A1 ar k = CZ A ar k) {k : Int} (h0 : 0 ≤ k) (h1 : k < I 7) : TS A1 ar k = TS A ar k ∧ LSq A1 ar k = LSq A ar k := by
  unfold TS LSq
  rw [ts_ext hP hx hc _ k h0 h1]
  exact ⟨rfl, rfl⟩
theorem mm_beginTerm (z : Value) (d : Nat) (ar : Int → Int) (k : Int) (h R : xx_H) (I : Nat → Int) (A : Nat → Int → Int) (N : Int → Int) (hc : 12 ≤ h.length) (hS : MST I A N) (hN : NM I A) (hZ : SZI ar I A) (hA : AR ar I A) (hF : ARF ar I A) (ho : I 7 + 2 ≤ 140000) (k0 : 0 ≤ k) (k1 : k < I 7) (b0 : 0 ≤ I 56) (b1 : I 56 < 2400) (c0 : 0 ≤ I 54) (c1 : I 54 < 1200) : xx_cl (xt_P z) (d + 6) 106 [.ref h.length, .int (iI k)] (mh h R I A N) (fun v h1 => (v = some (.int (iI 0)) ∧ h1 = mh h R I A N ∧ TS A ar k = 0) ∨ (v = some (.int (iI 1)) ∧ ∃ (t : Int) (I1 : Nat → Int) (A1 : Nat → Int → Int), h1 = mh h R (su I1 56 (I 56 + 1)) (sa A1 32 (I 56) t) N ∧ EX I A N I1 A1 N ∧ SZI ar I1 A1 ∧ (0 ≤ t ∧ t < I1 7) ∧ TZ A1 ar t = 1 ∧ (I1 10 = I 10 ∧ A1 8 = A 8 ∧ A1 9 = A 9) ∧ I1 7 = I 7 ∧ TS A ar k = 1 ∧ NFT A1 k t) ∨ (v = some (.int (iI 1)) ∧ h1 = mh h R (su I 54 (I 54 + 1)) (sa (sa (sa A 29 (I 54) k) 30 (I 54) (A 2 k)) 31 (I 54) (I 56)) N ∧ (0 ≤ A 1 k ∧ A 1 k ≠ 2) ∧ ∃ m : Nat, isL A m (A 2 k) ∧ (m : Int) = ar (A 1 k))) := by
  have hP := MST_PW hS
  have p1 := hP.1
  have q := hP.2 k k0 k1
  have wk := WD_1 hP k0 k1
  have n0 : A 1 0 < 0 := by rw [hN.2 0 (by decide) (by decide)]; decide
  refine cl_go rfl ?_
  show xx_go (xt_P z) (d + 5) 106 0 [some (.ref h.length), some (.int (iI k)), none] [] (mh h R I A N) _
  refine go_a (pc' := 1) (ls' := [some (.ref h.length), some (.int (iI k)), none]) (st' := [.ref h.length]) rfl rfl ?_
  refine go_a (pc' := 2) (ls' := [some (.ref h.length), some (.int (iI k)), none]) (st' := [.int (iI k), .ref h.length]) rfl rfl ?_
  refine go_v (m := 96) (as := [.ref h.length, .int (iI k)]) (r := []) rfl rfl rfl mh_o rfl rfl (mb_isPair z (d + 4) k h R I A N hc hP k0 k1) (fun v h1 hq => ?_)
  obtain ⟨⟨b, rfl, hb⟩, rfl⟩ := hq
  show xx_go (xt_P z) (d + 5) 106 5 [some (.ref h.length), some (.int (iI k)), none] [.int (iI b)] (mh h R I A N) _
  refine mi_ne0 (t := 15) rfl rfl (by omega) (by omega) (fun e => ?_) (fun e => ?_)
  · have pk : 0 ≤ A 1 k := by omega
    have q2 := q.2.2.2.2 pk
    refine go_a (pc' := 16) (ls' := [some (.ref h.length), some (.int (iI k)), none]) (st' := [.ref h.length]) rfl rfl ?_
    refine go_get rfl mh_o rfl rfl ?_
    refine go_a (pc' := 20) (ls' := [some (.ref h.length), some (.int (iI k)), none]) (st' := [.int (iI k), .ref (h.length + 1)]) rfl rfl ?_
    refine mi_ild rfl mh_a1 (by omega) (by omega) (by decide) ?_
    refine go_a (pc' := 22) (ls' := [some (.ref h.length), some (.int (iI k)), none]) (st' := [.int (iI 2), .int (iI (A 1 k))]) rfl rfl ?_
    refine mi_ne (t := 56) rfl rfl (by omega) (by omega) (by omega) (by omega) (fun e2 => ?_) (fun e2 => ?_)
    · have noT : ar (A 1 k) = -1 → TS A ar k = 0 := fun e9 => by
        rw [TS_call hP k0 k1 pk e2, if_neg (fun q9 => ?_)]
        have cn := CZ_nn (ar := ar) hP _ (A 2 k) (Nat.lt_succ_self _) q.2.2.1 (by omega)
        omega
      have qf := hP.2 (A 1 k) pk (by omega)
      refine go_a (pc' := 57) (ls' := [some (.ref h.length), some (.int (iI k)), none]) (st' := [.ref h.length]) rfl rfl ?_
      refine go_a (pc' := 58) (ls' := [some (.ref h.length), some (.int (iI k)), none]) (st' := [.ref h.length, .ref h.length]) rfl rfl ?_
      refine go_get rfl mh_o rfl rfl ?_
      refine go_a (pc' := 62) (ls' := [some (.ref h.length), some (.int (iI k)), none]) (st' := [.int (iI k), .ref (h.length + 1), .ref h.length]) rfl rfl ?_
      refine mi_ild rfl mh_a1 (by omega) (by omega) (by decide) ?_
      refine go_v (m := 101) (as := [.ref h.length, .int (iI (A 1 k))]) (r := []) rfl rfl rfl mh_o rfl rfl (mb_isSymbol z (d + 4) (A 1 k) h R I A N hc hP pk (by omega)) (fun v h1 hq => ?_)
      obtain ⟨⟨b2, rfl, hb2⟩, rfl⟩ := hq
      show xx_go (xt_P z) (d + 5) 106 66 [some (.ref h.length), some (.int (iI k)), none] [.int (iI b2)] (mh h R I A N) _
      refine mi_ne0 (t := 71) rfl rfl (by omega) (by omega) (fun e3 => ?_) (fun e3 => ?_)
      · refine go_a (pc' := 72) (ls' := [some (.ref h.length), some (.int (iI k)), none]) (st' := [.ref h.length]) rfl rfl ?_
        refine go_a (pc' := 73) (ls' := [some (.ref h.length), some (.int (iI k)), none]) (st' := [.ref h.length, .ref h.length]) rfl rfl ?_
        refine go_get rfl mh_o rfl rfl ?_
        refine go_a (pc' := 77) (ls' := [some (.ref h.length), some (.int (iI k)), none]) (st' := [.int (iI k), .ref (h.length + 1), .ref h.length]) rfl rfl ?_
        refine mi_ild rfl mh_a1 (by omega) (by omega) (by decide) ?_
        refine go_v (m := 111) (as := [.ref h.length, .int (iI (A 1 k))]) (r := []) rfl rfl rfl mh_o rfl rfl (mm_functionOf z (d + 4) ar (A 1 k) h R I A N hc hA pk (by omega)) (fun v h1 hq => ?_)
        obtain ⟨⟨x, rfl, hx⟩, rfl⟩ := hq
        have rx : -1 ≤ x ∧ x < 200 := by
          have := hA.2.2.1
          unfold FN at hx
          omega
        show xx_go (xt_P z) (d + 5) 106 81 [some (.ref h.length), some (.int (iI k)), none] [.int (iI x)] (mh h R I A N) _
        refine go_a (pc' := 82) (ls' := [some (.ref h.length), some (.int (iI k)), some (.int (iI x))]) (st' := []) rfl rfl ?_
        refine go_a (pc' := 83) (ls' := [some (.ref h.length), some (.int (iI k)), some (.int (iI x))]) (st' := [.int (iI x)]) rfl rfl ?_
        refine go_a (pc' := 84) (ls' := [some (.ref h.length), some (.int (iI k)), some (.int (iI x))]) (st' := [.int (iI ((-1))), .int (iI x)]) rfl rfl ?_
        refine mi_eq (t := 105) rfl rfl (by omega) (by omega) (by omega) (by omega) (fun e4 => ?_) (fun e4 => ?_)
        · have ax : ar (A 1 k) = -1 := by
            by_cases c9 : ar (A 1 k) = -1
            · exact c9
            · obtain ⟨-, -, y9, hy⟩ := hF (A 1 k) pk c9
              rcases hx with hx | hx
              · exact absurd hy (hx.2 y9)
              · unfold FN at hx
                omega
          refine go_a (pc' := 106) (ls' := [some (.ref h.length), some (.int (iI k)), some (.int (iI x))]) (st' := [.int (iI 0)]) rfl rfl ?_
          exact go_r rfl rfl rfl rfl rfl rfl (Or.inl ⟨rfl, rfl, noT ax⟩)
        · have hx2 : FN I A (A 1 k) x := by
            rcases hx with hx | hx
            · exact absurd hx.1 e4
            · exact hx
          refine go_a (pc' := 88) (ls' := [some (.ref h.length), some (.int (iI k)), some (.int (iI x))]) (st' := [.ref h.length]) rfl rfl ?_
          refine go_a (pc' := 89) (ls' := [some (.ref h.length), some (.int (iI k)), some (.int (iI x))]) (st' := [.ref h.length, .ref h.length]) rfl rfl ?_
          refine go_get rfl mh_o rfl rfl ?_
          refine go_a (pc' := 93) (ls' := [some (.ref h.length), some (.int (iI k)), some (.int (iI x))]) (st' := [.int (iI k), .ref (h.length + 2), .ref h.length]) rfl rfl ?_
          refine mi_ild rfl mh_a2 (by omega) (by omega) (by decide) ?_
          refine go_v (m := 98) (as := [.ref h.length, .int (iI (A 2 k))]) (r := []) rfl rfl rfl mh_o rfl rfl (mm_len2 z (d + 3) (A 2 k) h R I A N hc hP n0 (by omega) (by omega)) (fun v h1 hq => ?_)
          obtain ⟨⟨n, rfl, hn⟩, rfl⟩ := hq
          show xx_go (xt_P z) (d + 5) 106 97 [some (.ref h.length), some (.int (iI k)), some (.int (iI x))] [.int (iI n)] (mh h R I A N) _
          refine go_a (pc' := 98) (ls' := [some (.ref h.length), some (.int (iI k)), some (.int (iI x))]) (st' := [.ref h.length, .int (iI n)]) rfl rfl ?_
          refine go_a (pc' := 99) (ls' := [some (.ref h.length), some (.int (iI k)), some (.int (iI x))]) (st' := [.int (iI x), .ref h.length, .int (iI n)]) rfl rfl ?_
          refine go_v (m := 112) (as := [.ref h.length, .int (iI x)]) (r := [.int (iI n)]) rfl rfl rfl mh_o rfl rfl (mm_manyOf z (d + 4) ar (A 1 k) x h R I A N hc hA pk (by omega) hx2) (fun v h1 hq => ?_)
          obtain ⟨rfl, rfl⟩ := hq
          have ra : 0 ≤ ar (A 1 k) ∧ ar (A 1 k) ≤ 6 := by
            have h1 := hA.1
            have h2 := hA.2.1
            have h3 := hA.2.2.2
            rcases hx2 with u | u | u
            · by_cases v3 : A 1 k = 3
              · rw [v3, h1.1]
                decide
              · by_cases v9 : A 1 k ≤ 9
                · rw [h1.2.1 _ (by omega) v9]
                  decide
                · rw [h1.2.2 _ (by omega) u.2.1]
                  decide
            · rw [u.2.2, h2.2.2.2.2 (by omega)]
              omega
            · have r := h3 (x - 100) (by omega) (by omega)
              rw [← u.2.2.2.2, r.2.2 (by omega)]
              omega
          have rn : -1 ≤ n ∧ n < 200000 := by
            rcases hn with ⟨hn, -⟩ | ⟨qq, hn, hl⟩
            · omega
            · have := isL_len hP (A 2 k).toNat qq (A 2 k) (Nat.le_refl _) (by omega) (by omega) hl
              omega
          show xx_go (xt_P z) (d + 5) 106 102 [some (.ref h.length), some (.int (iI k)), some (.int (iI x))] [.int (iI (ar (A 1 k))), .int (iI n)] (mh h R I A N) _
          refine mi_eq (t := 107) rfl rfl (by omega) (by omega) (by omega) (by omega) (fun e5 => ?_) (fun e5 => ?_)
          · refine go_a (pc' := 108) (ls' := [some (.ref h.length), some (.int (iI k)), some (.int (iI x))]) (st' := [.ref h.length]) rfl rfl ?_
            refine go_a (pc' := 109) (ls' := [some (.ref h.length), some (.int (iI k)), some (.int (iI x))]) (st' := [.int (iI k), .ref h.length]) rfl rfl ?_
            refine go_v (m := 113) (as := [.ref h.length, .int (iI k)]) (r := []) rfl rfl rfl mh_o rfl rfl (mm_openCall z (d + 4) k h R I A N hc hP k0 k1 c0 c1) (fun v h1 hq => ?_)
            obtain ⟨rfl, rfl⟩ := hq
            show xx_go (xt_P z) (d + 5) 106 112 [some (.ref h.length), some (.int (iI k)), some (.int (iI x))] [] (mh h R (su I 54 (I 54 + 1)) (sa (sa (sa A 29 (I 54) k) 30 (I 54) (A 2 k)) 31 (I 54) (I 56)) N) _
            refine go_a (pc' := 113) (ls' := [some (.ref h.length), some (.int (iI k)), some (.int (iI x))]) (st' := [.int (iI 1)]) rfl rfl ?_
            refine go_r rfl rfl rfl rfl rfl rfl (Or.inr (Or.inr ⟨rfl, rfl, ⟨pk, e2⟩, ?_⟩))
            rcases hn with ⟨hn, -⟩ | ⟨qq, hn, hl⟩
            · omega
            · exact ⟨qq, hl, by omega⟩
          · have t0 : TS A ar k = 0 := by
              rw [TS_call hP k0 k1 pk e2, if_neg (fun q9 => ?_)]
              have il := LS_isL hP n0 _ (A 2 k) (Nat.lt_succ_self _) q.2.2.1 (by omega) q9.1
              rcases hn with hn | ⟨qq, hn, hl⟩
              · exact hn.2 _ il
              · have := CZ_isL (ar := ar) hP n0 qq (A 2 k) q.2.2.1 (by omega) hl
                omega
            refine go_a (pc' := 106) (ls' := [some (.ref h.length), some (.int (iI k)), some (.int (iI x))]) (st' := [.int (iI 0)]) rfl rfl ?_
            exact go_r rfl rfl rfl rfl rfl rfl (Or.inl ⟨rfl, rfl, t0⟩)
      · have ax : ar (A 1 k) = -1 := by
          by_cases c9 : ar (A 1 k) = -1
          · exact c9
          · have := (hF (A 1 k) pk c9).2.1
            omega
        refine go_a (pc' := 70) (ls' := [some (.ref h.length), some (.int (iI k)), none]) (st' := [.int (iI 0)]) rfl rfl ?_
        exact go_r rfl rfl rfl rfl rfl rfl (Or.inl ⟨rfl, rfl, noT ax⟩)
    · have e2 : A 1 k = 2 := by omega
      refine go_a (pc' := 26) (ls' := [some (.ref h.length), some (.int (iI k)), none]) (st' := [.ref h.length]) rfl rfl ?_
      refine go_a (pc' := 27) (ls' := [some (.ref h.length), some (.int (iI k)), none]) (st' := [.int (iI k), .ref h.length]) rfl rfl ?_
      refine go_v (m := 108) (as := [.ref h.length, .int (iI k)]) (r := []) rfl rfl rfl mh_o rfl rfl (mm_isQuoted z (d + 3) k h R I A N hc hP k0 k1) (fun v h1 hq => ?_)
      obtain ⟨⟨b3, rfl, hb3⟩, rfl⟩ := hq
      show xx_go (xt_P z) (d + 5) 106 30 [some (.ref h.length), some (.int (iI k)), none] [.int (iI b3)] (mh h R I A N) _
      refine mi_ne0 (t := 35) rfl rfl (by omega) (by omega) (fun e3 => ?_) (fun e3 => ?_)
      · have qd : 0 ≤ A 1 (A 2 k) ∧ A 2 (A 2 k) = 0 := by
          rcases hb3 with u | u
          · exact u.2.2
          · exact absurd u.1 e3
        have q3 := hP.2 (A 2 k) (by omega) (by omega)
        have ww : WD A k = 1 + WD A (A 1 (A 2 k)) := by
          rw [WD_pair hP k0 k1 pk, if_pos ⟨e2, qd⟩]
        have wx := WD_1 hP qd.1 (by omega : A 1 (A 2 k) < I 7)
        refine go_a (pc' := 36) (ls' := [some (.ref h.length), some (.int (iI k)), none]) (st' := [.ref h.length]) rfl rfl ?_
        refine go_a (pc' := 37) (ls' := [some (.ref h.length), some (.int (iI k)), none]) (st' := [.ref h.length, .ref h.length]) rfl rfl ?_
        refine go_a (pc' := 38) (ls' := [some (.ref h.length), some (.int (iI k)), none]) (st' := [.ref h.length, .ref h.length, .ref h.length]) rfl rfl ?_
        refine go_get rfl mh_o rfl rfl ?_
        refine go_a (pc' := 42) (ls' := [some (.ref h.length), some (.int (iI k)), none]) (st' := [.ref h.length, .ref (h.length + 1), .ref h.length, .ref h.length]) rfl rfl ?_
        refine go_get rfl mh_o rfl rfl ?_
        refine go_a (pc' := 46) (ls' := [some (.ref h.length), some (.int (iI k)), none]) (st' := [.int (iI k), .ref (h.length + 2), .ref (h.length + 1), .ref h.length, .ref h.length]) rfl rfl ?_
        refine mi_ild rfl mh_a2 (by omega) (by omega) (by decide) ?_
        refine mi_ild rfl mh_a1 (by omega) (by omega) (by decide) ?_
        refine go_v (m := 109) (as := [.ref h.length, .int (iI (A 1 (A 2 k)))]) (r := [.ref h.length]) rfl rfl rfl mh_o rfl rfl (mm_constantOf z d ar (A 1 (A 2 k)) h R I A N hc hS hN hZ ho qd.1 (by omega)) (fun v h1 hq => ?_)
        obtain ⟨t, I1, A1, rfl, rfl, X, Z1, t0, t1, g1, g2, g3, g4⟩ := hq
        have j56 : I1 56 = I 56 := X.2.2.2.1 56 (by decide) (by decide)
        show xx_go (xt_P z) (d + 5) 106 51 [some (.ref h.length), some (.int (iI k)), none] [.int (iI t), .ref h.length] (mh h R I1 A1 N) _
        refine go_v (m := 107) (as := [.ref h.length, .int (iI t)]) (r := []) rfl rfl rfl mh_o rfl rfl (mm_build z (d + 4) t h R I1 A1 N hc (by omega) (by omega)) (fun v h1 hq => ?_)
        obtain ⟨rfl, hq⟩ := hq
        rw [j56] at hq
        subst hq
        show xx_go (xt_P z) (d + 5) 106 54 [some (.ref h.length), some (.int (iI k)), none] [] (mh h R (su I1 56 (I 56 + 1)) (sa A1 32 (I 56) t) N) _
        refine go_a (pc' := 55) (ls' := [some (.ref h.length), some (.int (iI k)), none]) (st' := [.int (iI 1)]) rfl rfl ?_
        exact go_r rfl rfl rfl rfl rfl rfl (Or.inr (Or.inl ⟨rfl, t, I1, A1, rfl, X, Z1, t0, t1, g2, g4 k k0 k1 e2 (by omega) rfl qd.2, by rw [TS_quote e2, if_pos qd], (NFT_quote (by rw [(X.2.2.1 k k0 k1).1]; exact e2)).mpr (by rw [(X.2.2.1 k k0 k1).2.1, (X.2.2.1 (A 2 k) (by omega) (by omega)).1]; exact ⟨qd.1, g3⟩)⟩))
      · have t0 : TS A ar k = 0 := by
          rw [TS_quote e2, if_neg (fun q9 => ?_)]
          rcases hb3 with u | u
          · omega
          · exact u.2 ⟨e2, q9⟩
        refine go_a (pc' := 34) (ls' := [some (.ref h.length), some (.int (iI k)), none]) (st' := [.int (iI 0)]) rfl rfl ?_
        exact go_r rfl rfl rfl rfl rfl rfl (Or.inl ⟨rfl, rfl, t0⟩)
  · have ak : A 1 k < 0 := by omega
    refine go_a (pc' := 9) (ls' := [some (.ref h.length), some (.int (iI k)), none]) (st' := [.ref h.length]) rfl rfl ?_
    refine go_a (pc' := 10) (ls' := [some (.ref h.length), some (.int (iI k)), none]) (st' := [.int (iI k), .ref h.length]) rfl rfl ?_
    refine go_v (m := 107) (as := [.ref h.length, .int (iI k)]) (r := []) rfl rfl rfl mh_o rfl rfl (mm_build z (d + 4) k h R I A N hc b0 b1) (fun v h1 hq => ?_)
    obtain ⟨rfl, rfl⟩ := hq
    show xx_go (xt_P z) (d + 5) 106 13 [some (.ref h.length), some (.int (iI k)), none] [] (mh h R (su I 56 (I 56 + 1)) (sa A 32 (I 56) k) N) _
    refine go_a (pc' := 14) (ls' := [some (.ref h.length), some (.int (iI k)), none]) (st' := [.int (iI 1)]) rfl rfl ?_
    exact go_r rfl rfl rfl rfl rfl rfl (Or.inr (Or.inl ⟨rfl, k, I, A, rfl, EX_rf hS, hZ, ⟨k0, k1⟩, TZ_atom ak, ⟨rfl, rfl, rfl⟩, rfl, TS_atom ak, (NFT_atom ak).mpr rfl⟩))

