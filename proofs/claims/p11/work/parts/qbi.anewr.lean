def RLQ (e0 e1 e2 : Prop) (A : Nat → Int → Int) (s t : Int) : Prop := ((e2 ∨ (e0 ∧ NT A wq s = 0)) → t = s) ∧ (e1 → NT A wq t = 0)
def PC (e0 e1 e2 : Prop) (I : Nat → Int) (A : Nat → Int → Int) : Prop := (e2 → ∀ j : Int, 0 ≤ j → j < I 59 → A 34 j = A 33 j) ∧ (e0 → ∀ j : Int, 0 ≤ j → j < I 59 → A 33 j = 2) ∧ (e1 → (∃ j : Int, (0 ≤ j ∧ j < I 59) ∧ A 33 j = 2) ∧ ∀ j : Int, 0 ≤ j → j < I 59 → NT A wq (A 34 j) = 0)
def SBR (I : Nat → Int) (A : Nat → Int → Int) (k t : Int) : Prop := (¬ (A 1 k = -2 ∧ k ≠ 0 ∧ k ≠ 1) ∧ t = k) ∨ (∃ j : Int, (0 ≤ j ∧ j < I 59) ∧ A 33 j = k ∧ A 34 j = t) ∨ ((∀ j : Int, 0 ≤ j → j < I 59 → A 33 j ≠ k) ∧ t = k)
theorem wq_ne {k : Int} (h : k ≠ 2) : wq k = 0 := if_neg h
theorem RLQ_leaf {e0 e1 e2 : Prop} {I : Nat → Int} {A : Nat → Int → Int} {k t : Int} (hN : NM I A) (hP : PW I A) (k0 : 0 ≤ k) (k1 : k < I 7) (hl : ¬ (0 ≤ A 1 k ∧ A 1 k ≠ 2)) (hC : PC e0 e1 e2 I A) (hB : SBR I A k t) : RLQ e0 e1 e2 A k t := by
  have nk : NT A wq k = wq k := NT_leaf hP k0 k1 (by omega)
  have n2 := hN.2 2 (by decide) (by decide)
  refine ⟨fun e => ?_, fun e => ?_⟩
  · rcases hB with ⟨-, q⟩ | ⟨j, j0, j1, j2⟩ | ⟨-, q⟩
    · exact q
    · rcases e with e | ⟨e, z⟩
      · rw [← j2, hC.1 e j j0.1 j0.2, j1]
      · have := hC.2.1 e j j0.1 j0.2
        rw [nk, show k = 2 by omega] at z
        exact absurd z (by decide)
    · exact q
  · have h1 := hC.2.2 e
    rcases hB with ⟨v, q⟩ | ⟨j, j0, j1, j2⟩ | ⟨v, q⟩
    · rw [q, nk]
      refine wq_ne (fun e9 => v ?_)
      rw [e9]
      exact ⟨n2, by decide, by decide⟩
    · rw [← j2]
      exact h1.2 j j0.1 j0.2
    · obtain ⟨j, j0, j1⟩ := h1.1
      rw [q, nk]
      refine wq_ne (fun e9 => v j j0.1 j0.2 ?_)
      rw [e9]
      exact j1
theorem NL_items {I : Nat → Int} {A : Nat → Int → Int} {w : Int → Int} (hP : PW I A) (hw : ∀ k : Int, 0 ≤ w k) (n0 : A 1 0 < 0) : ∀ (m : Nat) (k : Int), 0 ≤ k → k < I 7 → isL A m k → NL A w k = 0 → ∀ j : Nat, j < m → NT A w (A 1 (rt A j k)) = 0
  | m + 1, k, h0, h1, hl, hz, j, hj => by
    have q := hP.2 k h0 h1
    have hl1 := hl.1
    have q2 := q.2.2.2.2 hl.1
    have kz : 0 < k := by
      by_cases e : k = 0
      · have := hl.1
        rw [e] at this
        omega
      · omega
    rw [NL_pair hP kz h1 hl.1] at hz
    have a := (NT_nn hP (fun j _ _ => hw j) _ (A 1 k) (Nat.lt_succ_self _) (by omega) (by omega)).1
    have b := (NT_nn hP (fun j _ _ => hw j) _ (A 2 k) (Nat.lt_succ_self _) (by omega) (by omega)).2
    have hl1 := hl.1
    match j, hj with
    | 0, _ => show NT A w (A 1 k) = 0; omega
    | j + 1, hj => exact NL_items hP hw n0 m (A 2 k) (by omega) (by omega) hl.2 (by omega) j (by omega)
theorem L_same {I : Nat → Int} {A : Nat → Int → Int} {N : Int → Int} (hS : MST I A N) : ∀ (m : Nat) (l v : Int), 0 ≤ l → l < I 7 → 0 ≤ v → v < I 7 → isL A m l → isL A m v → (∀ j : Nat, j < m → A 1 (rt A j v) = A 1 (rt A j l)) → v = l
  | 0, l, v, _, _, _, _, hl, hv, _ => by rw [show l = 0 from hl, show v = 0 from hv]
  | m + 1, l, v, l0, l1, v0, v1, hl, hv, h => by
    have hP := MST_PW hS
    have ql0 := hP.2 l l0 l1
    have qv0 := hP.2 v v0 v1
    have ql := ql0.2.2.2.2 hl.1
    have qv := qv0.2.2.2.2 hv.1
    exact UQ_of hS v l v0 v1 l0 l1 hv.1 (h 0 (by omega)) (L_same hS m (A 2 l) (A 2 v) (by omega) (by omega) (by omega) (by omega) hl.2 hv.2 (fun j hj => h (j + 1) (by omega)))
theorem RLQ_call {e0 e1 e2 : Prop} {I : Nat → Int} {A : Nat → Int → Int} {N : Int → Int} {c t : Int} {m : Nat} (hS : MST I A N) (hN : NM I A) (c0 : 0 ≤ c) (c1 : c < I 7) (t0 : 0 ≤ t) (t1 : t < I 7) (cl : 0 ≤ A 1 c ∧ A 1 c ≠ 2) (ht : A 1 t = A 1 c) (lc : isL A m (A 2 c)) (lt : isL A m (A 2 t)) (h : ∀ j : Nat, j < m → RLQ e0 e1 e2 A (A 1 (rt A j (A 2 c))) (A 1 (rt A j (A 2 t)))) : RLQ e0 e1 e2 A c t := by
  have hP := MST_PW hS
  have n2 := hN.2 2 (by decide) (by decide)
  have n0 : A 1 0 < 0 := by rw [hN.2 0 (by decide) (by decide)]; decide
  have qc0 := hP.2 c c0 c1
  have qt0 := hP.2 t t0 t1
  have qc := qc0.2.2.2.2 cl.1
  have qt := qt0.2.2.2.2 (by omega)
  have nc : ∀ x : Int, 0 ≤ A 1 x → x ≠ 2 := fun x q e => by
    rw [e] at q
    omega
  refine ⟨fun e => ?_, fun e => ?_⟩
  · refine UQ_of hS t c t0 t1 c0 c1 (by omega) ht (L_same hS m (A 2 c) (A 2 t) (by omega) (by omega) (by omega) (by omega) lc lt (fun j hj => (h j hj).1 ?_))
    rcases e with e | ⟨e, z⟩
    · exact Or.inl e
    · rw [NT_call hP c0 c1 cl.1 cl.2, wq_ne (nc c cl.1)] at z
      exact Or.inr ⟨e, NL_items hP wq_nn n0 m (A 2 c) (by omega) (by omega) lc (by omega) j hj⟩
  · rw [NT_call hP t0 t1 (by omega) (by omega), wq_ne (nc t (by omega)), NL_zero hP n0 m (A 2 t) (by omega) (by omega) lt (fun j hj => (h j hj).2 e)]
    rfl
theorem RLQ_BX {F G : Nat → Prop} {e0 e1 e2 : Prop} {I I1 : Nat → Int} {A A1 : Nat → Int → Int} {N N1 : Int → Int} {s t : Int} (hP : PW I A) (x : BX F G I A N I1 A1 N1) (s0 : 0 ≤ s) (s1 : s < I 7) (t0 : 0 ≤ t) (t1 : t < I 7) (h : RLQ e0 e1 e2 A s t) : RLQ e0 e1 e2 A1 s t := by
  unfold RLQ
  rw [(NT_ext hP (fun k a b => ⟨(x.2.2.1 k a b).1, (x.2.2.1 k a b).2.1⟩) (fun _ _ _ => rfl) s0 s1).1, (NT_ext hP (fun k a b => ⟨(x.2.2.1 k a b).1, (x.2.2.1 k a b).2.1⟩) (fun _ _ _ => rfl) t0 t1).1]
  exact h
theorem PC_BX {F G : Nat → Prop} {ar : Int → Int} {e0 e1 e2 : Prop} {I I1 : Nat → Int} {A A1 : Nat → Int → Int} {N N1 : Int → Int} (hP : PW I A) (hR : PR ar I A) (x : BX F G I A N I1 A1 N1) (f59 : ¬ F 59) (g33 : ¬ G 33) (g34 : ¬ G 34) (h : PC e0 e1 e2 I A) : PC e0 e1 e2 I1 A1 := by
  unfold PC
  rw [x.2.2.2.1 59 (by decide) f59, x.2.2.2.2 33 (by decide) (by decide) (by decide) (by decide) (by decide) (by decide) g33, x.2.2.2.2 34 (by decide) (by decide) (by decide) (by decide) (by decide) (by decide) g34]
  refine ⟨h.1, h.2.1, fun e => ⟨(h.2.2 e).1, fun j j0 j1 => ?_⟩⟩
  have r := (hR.2 j j0 j1).2.1
  rw [(NT_ext hP (fun k a b => ⟨(x.2.2.1 k a b).1, (x.2.2.1 k a b).2.1⟩) (fun _ _ _ => rfl) r.1 r.2).1]
  exact (h.2.2 e).2 j j0 j1
theorem PC_12 {e0 e1 e2 : Prop} {I I1 : Nat → Int} {A A1 : Nat → Int → Int} (h : PC e0 e1 e2 I A) (f : I1 59 = I 59) (g1 : A1 1 = A 1) (g2 : A1 2 = A 2) (g33 : A1 33 = A 33) (g34 : A1 34 = A 34) : PC e0 e1 e2 I1 A1 := by
  unfold PC
  rw [f, g33, g34, (NT_12 g1 g2).1]
  exact h
theorem RLQ_12 {e0 e1 e2 : Prop} {A A1 : Nat → Int → Int} (g1 : A1 1 = A 1) (g2 : A1 2 = A 2) : RLQ e0 e1 e2 A1 = RLQ e0 e1 e2 A := by
  funext s t
  unfold RLQ
  rw [(NT_12 g1 g2).1]
theorem items_lt {I : Nat → Int} {A : Nat → Int → Int} (hP : PW I A) {m : Nat} {t : Int} (t0 : 0 ≤ t) (t1 : t < I 7) (ht : 0 ≤ A 1 t) (lt : isL A m (A 2 t)) (j : Nat) (hj : j < m) : A 1 (rt A j (A 2 t)) < t := by
  have qt0 := hP.2 t t0 t1
  have qt := qt0.2.2.2.2 ht
  have r := isL_rt hP m j (A 2 t) (by omega) (by omega) lt hj
  have q0 := hP.2 _ r.1 (by omega : rt A j (A 2 t) < I 7)
  have q := q0.2.2.2.2 r.2.2
  omega
def SBT (I : Nat → Int) (A : Nat → Int → Int) (k t : Int) : Prop := (¬ (A 1 k = -2 ∧ k ≠ 0 ∧ k ≠ 1) ∧ t = k) ∨ ((A 1 k = -2 ∧ k ≠ 0 ∧ k ≠ 1) ∧ ((∃ j : Int, (0 ≤ j ∧ j < I 59) ∧ A 33 j = k ∧ A 34 j = t ∧ ∀ q : Int, 0 ≤ q → q < j → A 33 q ≠ k) ∨ ((∀ j : Int, 0 ≤ j → j < I 59 → A 33 j ≠ k) ∧ t = k)))
theorem SBT_R {I : Nat → Int} {A : Nat → Int → Int} {k t : Int} (h : SBT I A k t) : SBR I A k t := by
  rcases h with h | ⟨-, h | h⟩
  · exact Or.inl h
  · obtain ⟨j, a, b, c, -⟩ := h
    exact Or.inr (Or.inl ⟨j, a, b, c⟩)
  · exact Or.inr (Or.inr h)
def LFRq (w y : Int) (I : Nat → Int) (A : Nat → Int → Int) (k t : Int) : Prop := (k = w ∧ t = y) ∨ (k ≠ w ∧ ¬ (0 ≤ A 1 k ∧ A 1 k ≠ 2) ∧ SBT I A k t)
def RLU (e0 e1 e2 : Prop) (im : ob_T → ob_T × ob_T) (N : Int → Int) (A : Nat → Int → Int) (s t : Int) : Prop := RLQ e0 e1 e2 A s t ∧ DM A N t = (im (DM A N s)).1
def IMG (w y : Int) (im : ob_T → ob_T × ob_T) (N : Int → Int) (I : Nat → Int) (A : Nat → Int → Int) : Prop := (w = -1 ∧ ∃ (Vs : List Nat) (Os : List ob_T), im = sp_in Vs Os ∧ (Vs.length : Int) = I 59 ∧ ∀ q : Nat, q < Vs.length → (0 ≤ A 33 q ∧ A 33 q < I 7) ∧ (0 ≤ A 34 q ∧ A 34 q < I 7) ∧ (∃ v : Nat, Vs[q]? = some v ∧ DM A N (A 33 q) = .var v) ∧ Os[q]? = some (DM A N (A 34 q))) ∨ ((0 ≤ w ∧ w < I 7) ∧ (0 ≤ y ∧ y < I 7) ∧ im = sp_re (DM A N w) (DM A N y) ∧ I 59 = 0)
def PCU (w y : Int) (e0 e1 e2 : Prop) (im : ob_T → ob_T × ob_T) (N : Int → Int) (I : Nat → Int) (A : Nat → Int → Int) : Prop := TRX I A N ∧ PC e0 e1 e2 I A ∧ IMG w y im N I A ∧ (0 ≤ w → ¬ e0 ∧ ¬ e1 ∧ ¬ e2)
theorem sp_sb_at : ∀ (Vs : List Nat) (Os : List ob_T) (j v : Nat) (o : ob_T), Vs[j]? = some v → Os[j]? = some o → (∀ (q u : Nat), q < j → Vs[q]? = some u → u ≠ v) → sp_sb Vs Os v = o
  | [], _, _, _, _, h, _, _ => absurd h (by simp)
  | _ :: _, [], _, _, _, _, h, _ => absurd h (by simp)
  | a :: Vs, b :: Os, 0, v, o, h1, h2, _ => by
    have e1 : a = v := by simpa using h1
    have e2 : b = o := by simpa using h2
    show (if a = v then b else sp_sb Vs Os v) = o
    rw [if_pos e1, e2]
  | a :: Vs, b :: Os, j + 1, v, o, h1, h2, h3 => by
    show (if a = v then b else sp_sb Vs Os v) = o
    rw [if_neg (h3 0 a (by omega) rfl)]
    exact sp_sb_at Vs Os j v o (by simpa using h1) (by simpa using h2) (fun q u hq hu => h3 (q + 1) u (by omega) (by simpa using hu))
theorem sp_sb_no : ∀ (Vs : List Nat) (Os : List ob_T) (v : Nat), (∀ (q u : Nat), Vs[q]? = some u → u ≠ v) → sp_sb Vs Os v = .var v
  | [], _, _, _ => by unfold sp_sb; rfl
  | _ :: _, [], _, _ => by unfold sp_sb; rfl
  | a :: Vs, b :: Os, v, h => by
    show (if a = v then b else sp_sb Vs Os v) = .var v
    rw [if_neg (h 0 a rfl)]
    exact sp_sb_no Vs Os v (fun q u hu => h (q + 1) u (by simpa using hu))
theorem sp_re_self {X Y : ob_T} (h : (∃ n : Int, X = .num n) ∨ (∃ v : Nat, X = .var v) ∨ ∃ a b : ob_T, X = .add a b) : (sp_re X Y X).1 = Y := by
  rcases h with ⟨n, rfl⟩ | ⟨v, rfl⟩ | ⟨a, b, rfl⟩
  · show ifc _ Y _ = Y
    rw [ifc_pos rfl]
  · show ifc _ Y _ = Y
    rw [ifc_pos rfl]
  · show ifc _ Y _ = Y
    rw [ifc_pos rfl]
section RLUS
variable {F G : Nat → Prop} {ar : Int → Int} {e0 e1 e2 : Prop} {im : ob_T → ob_T × ob_T} {w y : Int} {I I1 : Nat → Int} {A A1 : Nat → Int → Int} {N N1 : Int → Int} {s t k : Int}
theorem DM_sh (hS : MST I A N) (h : TRX I A N) (k0 : 0 ≤ k) (k1 : k < I 7) : (∃ n : Int, DM A N k = .num n) ∨ (∃ v : Nat, DM A N k = .var v) ∨ ∃ a b : ob_T, DM A N k = .add a b := by
  by_cases e : A 1 k < 0
  · rcases DM_at hS k0 k1 e with ⟨-, q⟩ | ⟨-, q⟩
    · exact Or.inl q
    · exact Or.inr (Or.inl q)
  · exact Or.inr (Or.inr ⟨_, _, DM_pr hS h k0 k1 (by omega)⟩)
theorem RLU_leaf (hS : MST I A N) (hN : NM I A) (hP : PW I A) (k0 : 0 ≤ k) (k1 : k < I 7) (hC : PCU w y e0 e1 e2 im N I A) (hB : LFRq w y I A k t) : RLU e0 e1 e2 im N A k t := by
  obtain ⟨hT, hC1, hG, hw⟩ := hC
  have n7 := hN.1
  have M : MX I A N := ⟨hS, hT.1⟩
  rcases hB with ⟨rfl, rfl⟩ | ⟨kw, nc, hB⟩
  · refine ⟨⟨fun q => ?_, fun q => absurd q (hw k0).2.1⟩, ?_⟩
    · rcases q with q | q
      · exact absurd q (hw k0).2.2
      · exact absurd q.1 (hw k0).1
    · rcases hG with ⟨q, -⟩ | ⟨-, -, q, -⟩
      · omega
      · rw [q, sp_re_self (DM_sh hS hT k0 k1)]
  · refine ⟨RLQ_leaf hN hP k0 k1 nc hC1 (SBT_R hB), ?_⟩
    rcases hG with ⟨-, Vs, Os, q, ql, qv⟩ | ⟨w0, y0, q, q59⟩
    · rw [q]
      by_cases e : A 1 k < 0
      · rcases DM_at hS k0 k1 e with ⟨a1, n, en⟩ | ⟨a2, v, ev⟩
        · have tk : t = k := by
            rcases hB with ⟨-, h⟩ | ⟨h, -⟩
            · exact h
            · omega
          rw [tk, en]
          rfl
        · rw [ev]
          show DM A N t = if v = 31361 ∨ v = 20 then .var v else sp_sb Vs Os v
          rcases hB with ⟨h, tk⟩ | ⟨h, hB⟩
          · have c : v = 31361 ∨ v = 20 := by
              by_cases z0 : k = 0
              · rw [z0, DM_0 hT] at ev
                injection ev with ev
                exact Or.inl ev.symm
              · by_cases z1 : k = 1
                · rw [z1, DM_1 hT] at ev
                  injection ev with ev
                  exact Or.inr ev.symm
                · exact absurd ⟨a2, z0, z1⟩ h
            rw [if_pos c, tk, ev]
          · have c : ¬ (v = 31361 ∨ v = 20) := by
              intro c
              rcases c with c | c
              · rw [c] at ev
                exact h.2.1 (DM_inj M k0 k1 (by decide) (by omega) (ev.trans (DM_0 hT).symm))
              · rw [c] at ev
                exact h.2.2 (DM_inj M k0 k1 (by decide) (by omega) (ev.trans (DM_1 hT).symm))
            rw [if_neg c]
            rcases hB with ⟨j, ⟨j0, j1⟩, j2, j3, j4⟩ | ⟨hj, tk⟩
            · obtain ⟨a33, a34, ⟨u, u1, u2⟩, o1⟩ := qv j.toNat (by omega)
              rw [show ((j.toNat : Nat) : Int) = j by omega] at a33 a34 u2 o1
              rw [j2, ev] at u2
              injection u2 with u2
              rw [← j3]
              refine (sp_sb_at Vs Os j.toNat v _ (by rw [u1, u2]) o1 (fun p u hp hu uv => ?_)).symm
              obtain ⟨b33, -, ⟨u', w1, w2⟩, -⟩ := qv p (by omega)
              rw [hu] at w1
              injection w1 with w1
              rw [← w1, uv, ← ev] at w2
              exact j4 p (by omega) (by omega) (DM_inj M b33.1 b33.2 k0 k1 w2)
            · rw [tk, ev]
              refine (sp_sb_no Vs Os v (fun p u hu uv => ?_)).symm
              have hp : p < Vs.length := by
                by_cases c : p < Vs.length
                · exact c
                · rw [List.getElem?_eq_none (by omega)] at hu
                  exact absurd hu (by simp)
              obtain ⟨b33, -, ⟨u', w1, w2⟩, -⟩ := qv p hp
              rw [hu] at w1
              injection w1 with w1
              rw [← w1, uv, ← ev] at w2
              exact hj p (by omega) (by omega) (DM_inj M b33.1 b33.2 k0 k1 w2)
      · have tk : t = k := by
          rcases hB with ⟨-, h⟩ | ⟨h, -⟩
          · exact h
          · omega
        have e2 : A 1 k = 2 := by omega
        rw [tk, DM_pr hS hT k0 k1 (by omega), e2, DM_2 hT]
        rfl
    · have tk : t = k := by
        rcases hB with ⟨-, h⟩ | ⟨-, ⟨j, j0, -⟩ | ⟨-, h⟩⟩
        · exact h
        · omega
        · exact h
      have ne : DM A N k ≠ DM A N w := fun e => kw (DM_inj M k0 k1 w0.1 w0.2 e)
      rw [tk, q]
      by_cases e : A 1 k < 0
      · rcases DM_at hS k0 k1 e with ⟨a1, n, en⟩ | ⟨a2, v, ev⟩
        · rw [en] at ne ⊢
          show _ = ifc _ _ _
          rw [ifc_neg ne]
        · rw [ev] at ne ⊢
          show _ = ifc _ _ _
          rw [ifc_neg ne]
      · have e2 : A 1 k = 2 := by omega
        rw [DM_pr hS hT k0 k1 (by omega), e2, DM_2 hT] at ne ⊢
        show _ = ifc _ _ _
        rw [ifc_neg ne]
        rfl
theorem IMG_l (hG : IMG w y im N I A) : (im (.var 31361)).2 = .var 31361 ∧ ∀ a b : ob_T, (im (.add a b)).2 = .add (im a).1 (im b).2 := by
  rcases hG with ⟨-, Vs, Os, q, -⟩ | ⟨-, -, q, -⟩
  · rw [q]
    exact ⟨rfl, fun _ _ => rfl⟩
  · rw [q]
    exact ⟨rfl, fun _ _ => rfl⟩
theorem IMG_c (hS : MST I A N) (hN : NM I A) (hT : TRX I A N) (hG : IMG w y im N I A) {c : Int} (c0 : 0 ≤ c) (c1 : c < I 7) (cl : 0 ≤ A 1 c ∧ A 1 c ≠ 2) (cw : c ≠ w) : (im (DM A N c)).1 = .add (DM A N (A 1 c)) (im (DM A N (A 2 c))).2 := by
  have M : MX I A N := ⟨hS, hT.1⟩
  have q := ((MST_PW hS).2 c c0 c1).2.1
  have iq := isq_f hS hN hT cl.1 (by omega) cl.2
  rcases hG with ⟨-, Vs, Os, q, -⟩ | ⟨w0, -, q, -⟩
  · rw [q, DM_pr hS hT c0 c1 cl.1]
    show (if sp_isq (DM A N (A 1 c)) = true then _ else _) = _
    rw [iq, if_neg (by decide)]
  · have ne : DM A N c ≠ DM A N w := fun e => cw (DM_inj M c0 c1 w0.1 w0.2 e)
    rw [q]
    rw [DM_pr hS hT c0 c1 cl.1] at ne ⊢
    show ifc _ _ (if sp_isq (DM A N (A 1 c)) = true then _ else _) = _
    rw [ifc_neg ne, iq, if_neg (by decide)]
theorem IMG_L (hS : MST I A N) (hT : TRX I A N) (hl : (im (.var 31361)).2 = .var 31361 ∧ ∀ a b : ob_T, (im (.add a b)).2 = .add (im a).1 (im b).2) : ∀ (m : Nat) (l v : Int), 0 ≤ l → l < I 7 → 0 ≤ v → v < I 7 → isL A m l → isL A m v → (∀ j : Nat, j < m → DM A N (A 1 (rt A j v)) = (im (DM A N (A 1 (rt A j l)))).1) → DM A N v = (im (DM A N l)).2
  | 0, l, v, _, _, _, _, hl2, hv, _ => by
    rw [show l = 0 from hl2, show v = 0 from hv, DM_0 hT, hl.1]
  | m + 1, l, v, l0, l1, v0, v1, hl2, hv, h => by
    have ql := ((MST_PW hS).2 l l0 l1).2.2.2.2 hl2.1
    have qv := ((MST_PW hS).2 v v0 v1).2.2.2.2 hv.1
    have ql0 := (MST_PW hS).2 l l0 l1
    have qv0 := (MST_PW hS).2 v v0 v1
    have r := IMG_L hS hT hl m (A 2 l) (A 2 v) (by omega) (by omega) (by omega) (by omega) hl2.2 hv.2 (fun j hj => h (j + 1) (by omega))
    have a : DM A N (A 1 v) = (im (DM A N (A 1 l))).1 := h 0 (by omega)
    rw [DM_pr hS hT l0 l1 hl2.1, DM_pr hS hT v0 v1 hv.1, hl.2, a, r]
theorem RLU_call {c : Int} {m : Nat} (hS : MST I A N) (hN : NM I A) (hC : PCU w y e0 e1 e2 im N I A) (c0 : 0 ≤ c) (c1 : c < I 7) (t0 : 0 ≤ t) (t1 : t < I 7) (cl : 0 ≤ A 1 c ∧ A 1 c ≠ 2) (cw : c ≠ w) (ht : A 1 t = A 1 c) (lc : isL A m (A 2 c)) (lt : isL A m (A 2 t)) (h : ∀ j : Nat, j < m → RLU e0 e1 e2 im N A (A 1 (rt A j (A 2 c))) (A 1 (rt A j (A 2 t)))) : RLU e0 e1 e2 im N A c t := by
  refine ⟨RLQ_call hS hN c0 c1 t0 t1 cl ht lc lt (fun j hj => (h j hj).1), ?_⟩
  obtain ⟨hT, -, hG, -⟩ := hC
  have qc0 := (MST_PW hS).2 c c0 c1
  have qc := qc0.2.2.2.2 cl.1
  have qt0 := (MST_PW hS).2 t t0 t1
  have qt := qt0.2.2.2.2 (by omega)
  rw [IMG_c hS hN hT hG c0 c1 cl cw, DM_pr hS hT t0 t1 (by omega), ht, IMG_L hS hT (IMG_l hG) m (A 2 c) (A 2 t) (by omega) (by omega) (by omega) (by omega) lc lt (fun j hj => (h j hj).2)]
theorem RLU_BX (hS : MST I A N) (hT : TRX I A N) (x : BX F G I A N I1 A1 N1) (f10 : ¬ F 10) (g8 : ¬ G 8) (g9 : ¬ G 9) (s0 : 0 ≤ s) (s1 : s < I 7) (t0 : 0 ≤ t) (t1 : t < I 7) (h : RLU e0 e1 e2 im N A s t) : RLU e0 e1 e2 im N1 A1 s t := by
  refine ⟨RLQ_BX (MST_PW hS) x s0 s1 t0 t1 h.1, ?_⟩
  rw [DM_BX hS hT x f10 g8 g9 s0 s1, DM_BX hS hT x f10 g8 g9 t0 t1]
  exact h.2
theorem IMG_BX (hS : MST I A N) (hT : TRX I A N) (x : BX F G I A N I1 A1 N1) (f10 : ¬ F 10) (g8 : ¬ G 8) (g9 : ¬ G 9) (f59 : ¬ F 59) (g33 : ¬ G 33) (g34 : ¬ G 34) (h : IMG w y im N I A) : IMG w y im N1 I1 A1 := by
  have a59 := x.2.2.2.1 59 (by decide) f59
  have a33 := x.2.2.2.2 33 (by decide) (by decide) (by decide) (by decide) (by decide) (by decide) g33
  have a34 := x.2.2.2.2 34 (by decide) (by decide) (by decide) (by decide) (by decide) (by decide) g34
  have x7 := x.2.1
  unfold IMG
  rw [a59, a33, a34]
  rcases h with ⟨w1, Vs, Os, q, ql, qv⟩ | ⟨w0, y0, q, q59⟩
  · refine Or.inl ⟨w1, Vs, Os, q, ql, fun p hp => ?_⟩
    obtain ⟨b1, b2, b3, b4⟩ := qv p hp
    rw [DM_BX hS hT x f10 g8 g9 b1.1 b1.2, DM_BX hS hT x f10 g8 g9 b2.1 b2.2]
    exact ⟨⟨b1.1, by omega⟩, ⟨b2.1, by omega⟩, b3, b4⟩
  · refine Or.inr ⟨⟨w0.1, by omega⟩, ⟨y0.1, by omega⟩, ?_, q59⟩
    rw [DM_BX hS hT x f10 g8 g9 w0.1 w0.2, DM_BX hS hT x f10 g8 g9 y0.1 y0.2]
    exact q
theorem PCU_BX (hS : MST I A N) (hN : NM I A) (hP : PW I A) (hR : PR ar I A) (x : BX F G I A N I1 A1 N1) (f10 : ¬ F 10) (g8 : ¬ G 8) (g9 : ¬ G 9) (f59 : ¬ F 59) (g33 : ¬ G 33) (g34 : ¬ G 34) (h : PCU w y e0 e1 e2 im N I A) : PCU w y e0 e1 e2 im N1 I1 A1 := ⟨TRX_BX hS hN h.1 x f10 g8 g9, PC_BX hP hR x f59 g33 g34 h.2.1, IMG_BX hS h.1 x f10 g8 g9 f59 g33 g34 h.2.2.1, h.2.2.2⟩
theorem PCU_12 (h : PCU w y e0 e1 e2 im N I A) (f7 : I1 7 = I 7) (f : I1 59 = I 59) (g1 : A1 1 = A 1) (g2 : A1 2 = A 2) (g8 : A1 8 = A 8) (g9 : A1 9 = A 9) (g33 : A1 33 = A 33) (g34 : A1 34 = A 34) : PCU w y e0 e1 e2 im N I1 A1 := by
  refine ⟨TRX_12 h.1 f7 g1 g2 g8 g9, PC_12 h.2.1 f g1 g2 g33 g34, ?_, h.2.2.2⟩
  unfold IMG
  rw [f7, f, g33, g34, DM_12 g1 g2 g8 g9]
  exact h.2.2.1
theorem RLU_12 (g1 : A1 1 = A 1) (g2 : A1 2 = A 2) (g8 : A1 8 = A 8) (g9 : A1 9 = A 9) : RLU e0 e1 e2 im N A1 = RLU e0 e1 e2 im N A := by
  funext s t
  unfold RLU
  rw [RLQ_12 g1 g2, DM_12 g1 g2 g8 g9]
end RLUS
theorem mm_substR_loop (z : Value) (d : Nat) (ar : Int → Int) (k : Int) (h R : xx_H) (I : Nat → Int) (A : Nat → Int → Int) (N : Int → Int) (hc : 12 ≤ h.length) (hP : PW I A) (k0 : 0 ≤ k) (k1 : k < I 7) (hR : PR ar I A) (hk : 1 ≤ TZ A ar k) : ∀ (f : Nat) (j : Int), (I 59 - j).toNat ≤ f → 0 ≤ j → j ≤ 400 → (∀ q : Int, 0 ≤ q → q < j → A 33 q ≠ k) → xx_go (xt_P z) d 164 2 [some (.ref h.length), some (.int (iI k)), some (.int (iI j))] [] (mh h R I A N) (fun v h1 => (∃ t : Int, v = some (.int (iI t)) ∧ ((0 ≤ t ∧ t < I 7) ∧ 1 ≤ TZ A ar t) ∧ ((∃ j : Int, (0 ≤ j ∧ j < I 59) ∧ A 33 j = k ∧ A 34 j = t ∧ ∀ q : Int, 0 ≤ q → q < j → A 33 q ≠ k) ∨ ((∀ j : Int, 0 ≤ j → j < I 59 → A 33 j ≠ k) ∧ t = k))) ∧ h1 = mh h R I A N) := by
  have p1 := hP.1
  have r0 := hR.1
  intro f
  induction f with
  | zero =>
    intro j hf j0 j9 hj
    refine go_a (pc' := 3) (ls' := [some (.ref h.length), some (.int (iI k)), some (.int (iI j))]) (st' := [.int (iI j)]) rfl rfl ?_
    refine go_a (pc' := 4) (ls' := [some (.ref h.length), some (.int (iI k)), some (.int (iI j))]) (st' := [.ref h.length, .int (iI j)]) rfl rfl ?_
    refine go_get (v := .int (iI (I 59))) rfl mh_o rfl rfl ?_
    refine mi_ge (t := 33) rfl rfl (by omega) (by omega) (by omega) (by omega) (fun _ => ?_) (fun q => absurd (show I 59 ≤ j by omega) q)
    refine go_a (pc' := 34) (ls' := [some (.ref h.length), some (.int (iI k)), some (.int (iI j))]) (st' := [.int (iI k)]) rfl rfl ?_
    exact go_r rfl rfl rfl rfl rfl rfl ⟨⟨k, rfl, ⟨⟨k0, k1⟩, hk⟩, Or.inr ⟨fun q q0 q1 => hj q q0 (by omega), rfl⟩⟩, rfl⟩
  | succ f ih =>
    intro j hf j0 j9 hj
    refine go_a (pc' := 3) (ls' := [some (.ref h.length), some (.int (iI k)), some (.int (iI j))]) (st' := [.int (iI j)]) rfl rfl ?_
    refine go_a (pc' := 4) (ls' := [some (.ref h.length), some (.int (iI k)), some (.int (iI j))]) (st' := [.ref h.length, .int (iI j)]) rfl rfl ?_
    refine go_get (v := .int (iI (I 59))) rfl mh_o rfl rfl ?_
    refine mi_ge (t := 33) rfl rfl (by omega) (by omega) (by omega) (by omega) (fun q => ?_) (fun q => ?_)
    · refine go_a (pc' := 34) (ls' := [some (.ref h.length), some (.int (iI k)), some (.int (iI j))]) (st' := [.int (iI k)]) rfl rfl ?_
      exact go_r rfl rfl rfl rfl rfl rfl ⟨⟨k, rfl, ⟨⟨k0, k1⟩, hk⟩, Or.inr ⟨fun q q0 q1 => hj q q0 (by omega), rfl⟩⟩, rfl⟩
    · have r := hR.2 j j0 (by omega)
      refine go_a (pc' := 11) (ls' := [some (.ref h.length), some (.int (iI k)), some (.int (iI j))]) (st' := [.ref h.length]) rfl rfl ?_
      refine go_get rfl mh_o rfl rfl ?_
      refine go_a (pc' := 15) (ls' := [some (.ref h.length), some (.int (iI k)), some (.int (iI j))]) (st' := [.int (iI j), .ref (h.length + 33)]) rfl rfl ?_
      refine mi_ild rfl mh_a33 (by omega) (by omega) (by decide) ?_
      refine go_a (pc' := 17) (ls' := [some (.ref h.length), some (.int (iI k)), some (.int (iI j))]) (st' := [.int (iI k), .int (iI (A 33 j))]) rfl rfl ?_
      refine mi_ne (t := 27) rfl rfl (by omega) (by omega) (by omega) (by omega) (fun e => ?_) (fun e => ?_)
      · refine go_a (pc' := 30) (ls' := [some (.ref h.length), some (.int (iI k)), some (.int (iI (j + 1)))]) (st' := []) rfl (by rw [← iI_add j 1]; rfl) ?_
        refine go_a (pc' := 2) (ls' := [some (.ref h.length), some (.int (iI k)), some (.int (iI (j + 1)))]) (st' := []) rfl rfl ?_
        refine ih (j + 1) (by omega) (by omega) (by omega) (fun q q0 q1 => ?_)
        by_cases q2 : q = j
        · rw [q2]
          omega
        · exact hj q q0 (by omega)
      · refine go_a (pc' := 21) (ls' := [some (.ref h.length), some (.int (iI k)), some (.int (iI j))]) (st' := [.ref h.length]) rfl rfl ?_
        refine go_get rfl mh_o rfl rfl ?_
        refine go_a (pc' := 25) (ls' := [some (.ref h.length), some (.int (iI k)), some (.int (iI j))]) (st' := [.int (iI j), .ref (h.length + 34)]) rfl rfl ?_
        refine mi_ild rfl mh_a34 (by omega) (by omega) (by decide) ?_
        exact go_r rfl rfl rfl rfl rfl rfl ⟨⟨A 34 j, rfl, ⟨r.2.1, r.2.2⟩, Or.inl ⟨j, ⟨j0, by omega⟩, by omega, rfl, hj⟩⟩, rfl⟩
theorem mm_substR (z : Value) (d : Nat) (ar : Int → Int) (k : Int) (h R : xx_H) (I : Nat → Int) (A : Nat → Int → Int) (N : Int → Int) (hc : 12 ≤ h.length) (hP : PW I A) (k0 : 0 ≤ k) (k1 : k < I 7) (hR : PR ar I A) (hk : 1 ≤ TZ A ar k) : xx_cl (xt_P z) (d + 1) 164 [.ref h.length, .int (iI k)] (mh h R I A N) (fun v h1 => (∃ t : Int, v = some (.int (iI t)) ∧ ((0 ≤ t ∧ t < I 7) ∧ 1 ≤ TZ A ar t) ∧ ((∃ j : Int, (0 ≤ j ∧ j < I 59) ∧ A 33 j = k ∧ A 34 j = t ∧ ∀ q : Int, 0 ≤ q → q < j → A 33 q ≠ k) ∨ ((∀ j : Int, 0 ≤ j → j < I 59 → A 33 j ≠ k) ∧ t = k))) ∧ h1 = mh h R I A N) := by
  refine cl_go rfl ?_
  show xx_go (xt_P z) d 164 0 [some (.ref h.length), some (.int (iI k)), none] [] (mh h R I A N) _
  refine go_a (pc' := 1) (ls' := [some (.ref h.length), some (.int (iI k)), none]) (st' := [.int (iI 0)]) rfl rfl ?_
  refine go_a (pc' := 2) (ls' := [some (.ref h.length), some (.int (iI k)), some (.int (iI 0))]) (st' := []) rfl rfl ?_
  exact mm_substR_loop z d ar k h R I A N hc hP k0 k1 hR hk _ 0 (Nat.le_refl _) (Int.le_refl _) (by decide) (fun q q0 q1 => absurd q1 (by omega))
theorem mm_beginInstanceR (z : Value) (d : Nat) (ar : Int → Int) (k w y : Int) (h R : xx_H) (I : Nat → Int) (A : Nat → Int → Int) (N : Int → Int) (hc : 12 ≤ h.length) (hP : PW I A) (k0 : 0 ≤ k) (k1 : k < I 7) (hR : PR ar I A) (hk : 1 ≤ TZ A ar k) (w0 : -1 ≤ w) (w1 : w < 140000) (y0 : -1 ≤ y) (hw : 0 ≤ w → (0 ≤ y ∧ y < I 7) ∧ 1 ≤ TZ A ar y) (b0 : 0 ≤ I 56) (b1 : I 56 < 2400) (c0 : 0 ≤ I 54) (c1 : I 54 < 1200) : xx_cl (xt_P z) (d + 3) 163 [.ref h.length, .int (iI k), .int (iI w), .int (iI y)] (mh h R I A N) (fun v h1 => v = none ∧ ((∃ t : Int, (((0 ≤ t ∧ t < I 7) ∧ 1 ≤ TZ A ar t) ∧ LFRq w y I A k t) ∧ h1 = mh h R (su I 56 (I 56 + 1)) (sa A 32 (I 56) t) N) ∨ (((0 ≤ A 1 k ∧ A 1 k ≠ 2) ∧ k ≠ w) ∧ h1 = mh h R (su I 54 (I 54 + 1)) (sa (sa (sa A 29 (I 54) k) 30 (I 54) (A 2 k)) 31 (I 54) (I 56)) N))) := by
  have p1 := hP.1
  refine cl_go rfl ?_
  show xx_go (xt_P z) (d + 2) 163 0 [some (.ref h.length), some (.int (iI k)), some (.int (iI w)), some (.int (iI y))] [] (mh h R I A N) _
  refine go_a (pc' := 1) (ls' := [some (.ref h.length), some (.int (iI k)), some (.int (iI w)), some (.int (iI y))]) (st' := [.int (iI k)]) rfl rfl ?_
  refine go_a (pc' := 2) (ls' := [some (.ref h.length), some (.int (iI k)), some (.int (iI w)), some (.int (iI y))]) (st' := [.int (iI w), .int (iI k)]) rfl rfl ?_
  refine mi_ne (t := 13) rfl rfl (by omega) (by omega) (by omega) (by omega) (fun e1 => ?_) (fun e1 => ?_)
  · refine go_a (pc' := 14) (ls' := [some (.ref h.length), some (.int (iI k)), some (.int (iI w)), some (.int (iI y))]) (st' := [.ref h.length]) rfl rfl ?_
    refine go_a (pc' := 15) (ls' := [some (.ref h.length), some (.int (iI k)), some (.int (iI w)), some (.int (iI y))]) (st' := [.int (iI k), .ref h.length]) rfl rfl ?_
    refine go_v (m := 116) (as := [.ref h.length, .int (iI k)]) (r := []) rfl rfl rfl mh_o rfl rfl (mb_isCall z d k h R I A N hc hP k0 k1) (fun v h1 hq => ?_)
    obtain ⟨⟨b, rfl, hb⟩, rfl⟩ := hq
    show xx_go (xt_P z) (d + 2) 163 18 [some (.ref h.length), some (.int (iI k)), some (.int (iI w)), some (.int (iI y))] [.int (iI b)] (mh h R I A N) _
    refine mi_eq0 (t := 29) rfl rfl (by omega) (by omega) (fun e2 => ?_) (fun e2 => ?_)
    · have nc : ¬ (0 ≤ A 1 k ∧ A 1 k ≠ 2) := by omega
      refine go_a (pc' := 30) (ls' := [some (.ref h.length), some (.int (iI k)), some (.int (iI w)), some (.int (iI y))]) (st' := [.ref h.length]) rfl rfl ?_
      refine go_a (pc' := 31) (ls' := [some (.ref h.length), some (.int (iI k)), some (.int (iI w)), some (.int (iI y))]) (st' := [.ref h.length, .ref h.length]) rfl rfl ?_
      refine go_a (pc' := 32) (ls' := [some (.ref h.length), some (.int (iI k)), some (.int (iI w)), some (.int (iI y))]) (st' := [.int (iI k), .ref h.length, .ref h.length]) rfl rfl ?_
      refine go_v (m := 104) (as := [.ref h.length, .int (iI k)]) (r := [.ref h.length]) rfl rfl rfl mh_o rfl rfl (mb_isVariable z d k h R I A N hc hP k0 k1) (fun v h1 hq => ?_)
      obtain ⟨⟨b2, rfl, hb2⟩, rfl⟩ := hq
      show xx_go (xt_P z) (d + 2) 163 35 [some (.ref h.length), some (.int (iI k)), some (.int (iI w)), some (.int (iI y))] [.int (iI b2), .ref h.length] (mh h R I A N) _
      refine mi_eq0 (t := 46) rfl rfl (by omega) (by omega) (fun e3 => ?_) (fun e3 => ?_)
      · refine go_a (pc' := 47) (ls' := [some (.ref h.length), some (.int (iI k)), some (.int (iI w)), some (.int (iI y))]) (st' := [.int (iI k), .ref h.length]) rfl rfl ?_
        refine go_v (m := 107) (as := [.ref h.length, .int (iI k)]) (r := []) rfl rfl rfl mh_o rfl rfl (mm_build z (d + 1) k h R I A N hc b0 b1) (fun v h1 hq => ?_)
        obtain ⟨rfl, rfl⟩ := hq
        exact go_r rfl rfl rfl rfl rfl rfl ⟨rfl, Or.inl ⟨k, ⟨⟨⟨k0, k1⟩, hk⟩, Or.inr ⟨by omega, nc, Or.inl ⟨by omega, rfl⟩⟩⟩, rfl⟩⟩
      · have kv : A 1 k = -2 ∧ k ≠ 0 ∧ k ≠ 1 := by omega
        have kw : k ≠ w := by omega
        refine go_a (pc' := 39) (ls' := [some (.ref h.length), some (.int (iI k)), some (.int (iI w)), some (.int (iI y))]) (st' := [.ref h.length, .ref h.length]) rfl rfl ?_
        refine go_a (pc' := 40) (ls' := [some (.ref h.length), some (.int (iI k)), some (.int (iI w)), some (.int (iI y))]) (st' := [.int (iI k), .ref h.length, .ref h.length]) rfl rfl ?_
        refine go_v (m := 164) (as := [.ref h.length, .int (iI k)]) (r := [.ref h.length]) rfl rfl rfl mh_o rfl rfl (mm_substR z (d + 1) ar k h R I A N hc hP k0 k1 hR hk) (fun v h1 hq => ?_)
        obtain ⟨⟨t, rfl, t0, t1⟩, rfl⟩ := hq
        show xx_go (xt_P z) (d + 2) 163 43 [some (.ref h.length), some (.int (iI k)), some (.int (iI w)), some (.int (iI y))] [.int (iI t), .ref h.length] (mh h R I A N) _
        refine go_a (pc' := 47) (ls' := [some (.ref h.length), some (.int (iI k)), some (.int (iI w)), some (.int (iI y))]) (st' := [.int (iI t), .ref h.length]) rfl rfl ?_
        refine go_v (m := 107) (as := [.ref h.length, .int (iI t)]) (r := []) rfl rfl rfl mh_o rfl rfl (mm_build z (d + 1) t h R I A N hc b0 b1) (fun v h1 hq => ?_)
        obtain ⟨rfl, rfl⟩ := hq
        exact go_r rfl rfl rfl rfl rfl rfl ⟨rfl, Or.inl ⟨t, ⟨t0, Or.inr ⟨kw, nc, Or.inr ⟨kv, t1⟩⟩⟩, rfl⟩⟩
    · refine go_a (pc' := 22) (ls' := [some (.ref h.length), some (.int (iI k)), some (.int (iI w)), some (.int (iI y))]) (st' := [.ref h.length]) rfl rfl ?_
      refine go_a (pc' := 23) (ls' := [some (.ref h.length), some (.int (iI k)), some (.int (iI w)), some (.int (iI y))]) (st' := [.int (iI k), .ref h.length]) rfl rfl ?_
      refine go_v (m := 113) (as := [.ref h.length, .int (iI k)]) (r := []) rfl rfl rfl mh_o rfl rfl (mm_openCall z (d + 1) k h R I A N hc hP k0 k1 c0 c1) (fun v h1 hq => ?_)
      obtain ⟨rfl, rfl⟩ := hq
      refine go_a (pc' := 50) (ls' := [some (.ref h.length), some (.int (iI k)), some (.int (iI w)), some (.int (iI y))]) (st' := []) rfl rfl ?_
      exact go_r rfl rfl rfl rfl rfl rfl ⟨rfl, Or.inr ⟨⟨by omega, by omega⟩, rfl⟩⟩
  · have e2 : k = w := by omega
    have hy := hw (by omega)
    refine go_a (pc' := 6) (ls' := [some (.ref h.length), some (.int (iI k)), some (.int (iI w)), some (.int (iI y))]) (st' := [.ref h.length]) rfl rfl ?_
    refine go_a (pc' := 7) (ls' := [some (.ref h.length), some (.int (iI k)), some (.int (iI w)), some (.int (iI y))]) (st' := [.int (iI y), .ref h.length]) rfl rfl ?_
    refine go_v (m := 107) (as := [.ref h.length, .int (iI y)]) (r := []) rfl rfl rfl mh_o rfl rfl (mm_build z (d + 1) y h R I A N hc b0 b1) (fun v h1 hq => ?_)
    obtain ⟨rfl, rfl⟩ := hq
    refine go_a (pc' := 50) (ls' := [some (.ref h.length), some (.int (iI k)), some (.int (iI w)), some (.int (iI y))]) (st' := []) rfl rfl ?_
    exact go_r rfl rfl rfl rfl rfl rfl ⟨rfl, Or.inl ⟨y, ⟨hy, Or.inl ⟨e2, rfl⟩⟩, rfl⟩⟩
def FRR (w : Int) (e0 e1 e2 : Prop) (im : ob_T → ob_T × ob_T) (N : Int → Int) (ar : Int → Int) (I : Nat → Int) (A : Nat → Int → Int) : Prop := FRM ar I A ∧ A 29 (I 54 - 1) ≠ w ∧ ∃ j0 m : Nat, (j0 : Int) = I 56 - A 31 (I 54 - 1) ∧ A 30 (I 54 - 1) = rt A j0 (A 2 (A 29 (I 54 - 1))) ∧ isL A m (A 2 (A 29 (I 54 - 1))) ∧ j0 ≤ m ∧ ∀ j : Nat, j < j0 → RLU e0 e1 e2 im N A (A 1 (rt A j (A 2 (A 29 (I 54 - 1))))) (A 32 (A 31 (I 54 - 1) + j))
theorem mm_anewR_loop (z : Value) (d : Nat) (ar : Int → Int) (e0 e1 e2 : Prop) (im : ob_T → ob_T × ob_T) (o w y base first : Int) (h R : xx_H) (N : Int → Int) (hc : 12 ≤ h.length) (Q : Option Value → xx_H → Prop) (w0 : -1 ≤ w) (w1 : w < 140000) (y0 : -1 ≤ y) (s0 : 0 ≤ base) : ∀ (n : Nat) (I : Nat → Int) (A : Nat → Int → Int) (y6 y7 : Option Value), MST I A N → NM I A → SZI ar I A → PR ar I A → (0 ≤ w → (0 ≤ y ∧ y < I 7) ∧ 1 ≤ TZ A ar y) → PCU w y e0 e1 e2 im N I A → FRR w e0 e1 e2 im N ar I A → base < I 54 → LZ A ar (A 30 (I 54 - 1)) ≤ n → I 54 + LZ A ar (A 30 (I 54 - 1)) ≤ 1199 → I 56 + LZ A ar (A 30 (I 54 - 1)) ≤ 2399 → I 7 + 2 * LZ A ar (A 30 (I 54 - 1)) + (I 56 - A 31 (I 54 - 1)) + 1 ≤ 140000 → (∀ (I1 : Nat → Int) (A1 : Nat → Int → Int) (z6 z7 : Option Value), AX ar (I 54 - 1) (A 31 (I 54 - 1)) I A N I1 A1 → I1 54 = I 54 - 1 → I1 56 = A 31 (I 54 - 1) + 1 → (0 ≤ A1 32 (A 31 (I 54 - 1)) ∧ A1 32 (A 31 (I 54 - 1)) < I1 7) → 1 ≤ TZ A1 ar (A1 32 (A 31 (I 54 - 1))) → (I1 7 ≤ I 7 + 2 * LZ A ar (A 30 (I 54 - 1)) - CZ A ar (A 30 (I 54 - 1)) + (I 56 - A 31 (I 54 - 1)) + 1 ∧ (ar (A 1 (A 29 (I 54 - 1))) = 0 → I1 7 ≤ I 7)) → (RLU e0 e1 e2 im N A1 (A 29 (I 54 - 1)) (A1 32 (A 31 (I 54 - 1))) ∧ (I1 7 = I 7 ∨ I 7 ≤ A1 32 (A 31 (I 54 - 1))) ∧ ∀ q : Int, A 31 (I 54 - 1) ≤ q → q < I 56 → A 32 q < A1 32 (A 31 (I 54 - 1))) → xx_go (xt_P z) (d + 6) 162 19 [some (.ref h.length), some (.int (iI o)), some (.int (iI w)), some (.int (iI y)), some (.int (iI base)), some (.int (iI first)), z6, z7] [] (mh h R I1 A1 N) Q) → xx_go (xt_P z) (d + 6) 162 19 [some (.ref h.length), some (.int (iI o)), some (.int (iI w)), some (.int (iI y)), some (.int (iI base)), some (.int (iI first)), y6, y7] [] (mh h R I A N) Q := by
  have close : ∀ (I : Nat → Int) (A : Nat → Int → Int) (y6 y7 : Option Value), MST I A N → NM I A → SZI ar I A → PR ar I A → PCU w y e0 e1 e2 im N I A → FRR w e0 e1 e2 im N ar I A → base < I 54 → I 54 ≤ 1199 → I 56 ≤ 2399 → I 7 + (I 56 - A 31 (I 54 - 1)) + 1 ≤ 140000 → A 30 (I 54 - 1) = 0 → (∀ (I1 : Nat → Int) (A1 : Nat → Int → Int) (z6 z7 : Option Value), AX ar (I 54 - 1) (A 31 (I 54 - 1)) I A N I1 A1 → I1 54 = I 54 - 1 → I1 56 = A 31 (I 54 - 1) + 1 → (0 ≤ A1 32 (A 31 (I 54 - 1)) ∧ A1 32 (A 31 (I 54 - 1)) < I1 7) → 1 ≤ TZ A1 ar (A1 32 (A 31 (I 54 - 1))) → (I1 7 ≤ I 7 + 2 * LZ A ar (A 30 (I 54 - 1)) - CZ A ar (A 30 (I 54 - 1)) + (I 56 - A 31 (I 54 - 1)) + 1 ∧ (ar (A 1 (A 29 (I 54 - 1))) = 0 → I1 7 ≤ I 7)) → (RLU e0 e1 e2 im N A1 (A 29 (I 54 - 1)) (A1 32 (A 31 (I 54 - 1))) ∧ (I1 7 = I 7 ∨ I 7 ≤ A1 32 (A 31 (I 54 - 1))) ∧ ∀ q : Int, A 31 (I 54 - 1) ≤ q → q < I 56 → A 32 q < A1 32 (A 31 (I 54 - 1))) → xx_go (xt_P z) (d + 6) 162 19 [some (.ref h.length), some (.int (iI o)), some (.int (iI w)), some (.int (iI y)), some (.int (iI base)), some (.int (iI first)), z6, z7] [] (mh h R I1 A1 N) Q) → xx_go (xt_P z) (d + 6) 162 19 [some (.ref h.length), some (.int (iI o)), some (.int (iI w)), some (.int (iI y)), some (.int (iI base)), some (.int (iI first)), y6, y7] [] (mh h R I A N) Q := by
    intro I A y6 y7 hS hN hZ hR hC hF hb0 b1 b2 b3 z0 K
    have hP := MST_PW hS
    have p1 := hP.1
    obtain ⟨⟨f1, f2, f3, f4, f5, f6, f7, f8⟩, cw, j0, m, fj, fr, fl, jm, fR⟩ := id hF
    have qf := hP.2 (A 29 (I 54 - 1)) f1.1 f1.2
    have n0 : A 1 0 < 0 := by rw [hN.2 0 (by decide) (by decide)]; decide
    have i0 := hS.1.1
    have l0 := LZ_0 (ar := ar) n0
    rw [z0, l0.2] at f7
    refine go_a (pc' := 20) (ls' := [some (.ref h.length), some (.int (iI o)), some (.int (iI w)), some (.int (iI y)), some (.int (iI base)), some (.int (iI first)), y6, y7]) (st' := [.ref h.length]) rfl rfl ?_
    refine go_get (v := .int (iI (I 54))) rfl mh_o rfl rfl ?_
    refine go_a (pc' := 25) (ls' := [some (.ref h.length), some (.int (iI o)), some (.int (iI w)), some (.int (iI y)), some (.int (iI base)), some (.int (iI first)), y6, y7]) (st' := [.int (iI base), .int (iI (I 54))]) rfl rfl ?_
    refine mi_le (t := 145) rfl rfl (by omega) (by omega) (by omega) (by omega) (fun q => absurd q (by omega)) (fun _ => ?_)
    refine go_a (pc' := 29) (ls' := [some (.ref h.length), some (.int (iI o)), some (.int (iI w)), some (.int (iI y)), some (.int (iI base)), some (.int (iI first)), y6, y7]) (st' := [.ref h.length]) rfl rfl ?_
    refine go_get (v := .int (iI (I 54))) rfl mh_o rfl rfl ?_
    refine go_a (pc' := 33) (ls' := [some (.ref h.length), some (.int (iI o)), some (.int (iI w)), some (.int (iI y)), some (.int (iI base)), some (.int (iI first)), y6, y7]) (st' := [.int (iI 1), .int (iI (I 54))]) rfl rfl ?_
    refine mi_sub rfl ?_
    refine go_a (pc' := 36) (ls' := [some (.ref h.length), some (.int (iI o)), some (.int (iI w)), some (.int (iI y)), some (.int (iI base)), some (.int (iI first)), some (.int (iI ((I 54) - 1))), y7]) (st' := []) rfl rfl ?_
    refine go_a (pc' := 37) (ls' := [some (.ref h.length), some (.int (iI o)), some (.int (iI w)), some (.int (iI y)), some (.int (iI base)), some (.int (iI first)), some (.int (iI ((I 54) - 1))), y7]) (st' := [.ref h.length]) rfl rfl ?_
    refine go_get rfl mh_o rfl rfl ?_
    refine go_a (pc' := 42) (ls' := [some (.ref h.length), some (.int (iI o)), some (.int (iI w)), some (.int (iI y)), some (.int (iI base)), some (.int (iI first)), some (.int (iI ((I 54) - 1))), y7]) (st' := [.int (iI ((I 54) - 1)), .ref (h.length + 30)]) rfl rfl ?_
    refine mi_ild rfl mh_a30 (by omega) (by omega) (by decide) ?_
    refine mi_ne0 (t := 101) rfl rfl (by omega) (by omega) (fun q => absurd z0 q) (fun _ => ?_)
    refine go_a (pc' := 47) (ls' := [some (.ref h.length), some (.int (iI o)), some (.int (iI w)), some (.int (iI y)), some (.int (iI base)), some (.int (iI first)), some (.int (iI ((I 54) - 1))), y7]) (st' := [.ref h.length]) rfl rfl ?_
    refine go_a (pc' := 48) (ls' := [some (.ref h.length), some (.int (iI o)), some (.int (iI w)), some (.int (iI y)), some (.int (iI base)), some (.int (iI first)), some (.int (iI ((I 54) - 1))), y7]) (st' := [.ref h.length, .ref h.length]) rfl rfl ?_
    refine go_get (v := .int (iI (I 54))) rfl mh_o rfl rfl ?_
    refine go_a (pc' := 52) (ls' := [some (.ref h.length), some (.int (iI o)), some (.int (iI w)), some (.int (iI y)), some (.int (iI base)), some (.int (iI first)), some (.int (iI ((I 54) - 1))), y7]) (st' := [.int (iI 1), .int (iI (I 54)), .ref h.length]) rfl rfl ?_
    refine mi_sub rfl ?_
    refine go_put (j := 54) rfl mh_o rfl rfl (show 12 ≤ _ from hc) (show 54 < 86 by decide) rfl rfl ?_
    rw [mh_p54]
    refine go_a (pc' := 57) (ls' := [some (.ref h.length), some (.int (iI o)), some (.int (iI w)), some (.int (iI y)), some (.int (iI base)), some (.int (iI first)), some (.int (iI ((I 54) - 1))), y7]) (st' := [.ref h.length]) rfl rfl ?_
    refine go_a (pc' := 58) (ls' := [some (.ref h.length), some (.int (iI o)), some (.int (iI w)), some (.int (iI y)), some (.int (iI base)), some (.int (iI first)), some (.int (iI ((I 54) - 1))), y7]) (st' := [.ref h.length, .ref h.length]) rfl rfl ?_
    refine go_get rfl mh_o rfl rfl ?_
    refine go_a (pc' := 62) (ls' := [some (.ref h.length), some (.int (iI o)), some (.int (iI w)), some (.int (iI y)), some (.int (iI base)), some (.int (iI first)), some (.int (iI ((I 54) - 1))), y7]) (st' := [.ref h.length, .ref (h.length + 1), .ref h.length]) rfl rfl ?_
    refine go_get rfl mh_o rfl rfl ?_
    refine go_a (pc' := 67) (ls' := [some (.ref h.length), some (.int (iI o)), some (.int (iI w)), some (.int (iI y)), some (.int (iI base)), some (.int (iI first)), some (.int (iI ((I 54) - 1))), y7]) (st' := [.int (iI ((I 54) - 1)), .ref (h.length + 29), .ref (h.length + 1), .ref h.length]) rfl rfl ?_
    refine mi_ild rfl mh_a29 (by omega) (by omega) (by decide) ?_
    refine mi_ild rfl mh_a1 (by omega) (by omega) (by decide) ?_
    refine go_a (pc' := 70) (ls' := [some (.ref h.length), some (.int (iI o)), some (.int (iI w)), some (.int (iI y)), some (.int (iI base)), some (.int (iI first)), some (.int (iI ((I 54) - 1))), y7]) (st' := [.ref h.length, .int (iI (A 1 (A 29 ((I 54) - 1)))), .ref h.length]) rfl rfl ?_
    refine go_get rfl mh_o rfl rfl ?_
    refine go_a (pc' := 75) (ls' := [some (.ref h.length), some (.int (iI o)), some (.int (iI w)), some (.int (iI y)), some (.int (iI base)), some (.int (iI first)), some (.int (iI ((I 54) - 1))), y7]) (st' := [.int (iI ((I 54) - 1)), .ref (h.length + 31), .int (iI (A 1 (A 29 ((I 54) - 1)))), .ref h.length]) rfl rfl ?_
    refine mi_ild rfl mh_a31 (by omega) (by omega) (by decide) ?_
    refine go_v (m := 114) (as := [.ref h.length, .int (iI (A 1 (A 29 ((I 54) - 1)))), .int (iI (A 31 ((I 54) - 1)))]) (r := []) rfl rfl rfl mh_o rfl rfl (mm_callFromD z (d + 1) ar (A 1 (A 29 (I 54 - 1))) (A 31 (I 54 - 1)) h R (su I 54 (I 54 - 1)) A N hc hS hN hZ f2.1 (show A 1 (A 29 (I 54 - 1)) < I 7 by omega) f2.2 f5.1 f5.2 (show I 56 ≤ 2400 by omega) f6 (show I 56 - A 31 (I 54 - 1) = _ by omega) b3) (fun v h1 hq => ?_)
    obtain ⟨cc, I1, A1, rfl, rfl, X, Z1, c0, c1, g1, g2, g3, g9, g10, g11⟩ := hq
    have a31 : A1 31 = A 31 := X.2.2.2.2 31 (by decide) (by decide) (by decide) (by decide) (by decide) (by decide) id
    have a29 : A1 29 = A 29 := X.2.2.2.2 29 (by decide) (by decide) (by decide) (by decide) (by decide) (by decide) id
    have a30 : A1 30 = A 30 := X.2.2.2.2 30 (by decide) (by decide) (by decide) (by decide) (by decide) (by decide) id
    have a32 : A1 32 = A 32 := X.2.2.2.2 32 (by decide) (by decide) (by decide) (by decide) (by decide) (by decide) id
    have j54 : I1 54 = I 54 - 1 := X.2.2.2.1 54 (by decide) id
    have e31 : A1 31 (I 54 - 1) = A 31 (I 54 - 1) := by rw [a31]
    show xx_go (xt_P z) (d + 6) 162 79 [some (.ref h.length), some (.int (iI o)), some (.int (iI w)), some (.int (iI y)), some (.int (iI base)), some (.int (iI first)), some (.int (iI ((I 54) - 1))), y7] [.int (iI cc)] (mh h R I1 A1 N) _
    refine go_a (pc' := 81) (ls' := [some (.ref h.length), some (.int (iI o)), some (.int (iI w)), some (.int (iI y)), some (.int (iI base)), some (.int (iI first)), some (.int (iI ((I 54) - 1))), some (.int (iI cc))]) (st' := []) rfl rfl ?_
    refine go_a (pc' := 82) (ls' := [some (.ref h.length), some (.int (iI o)), some (.int (iI w)), some (.int (iI y)), some (.int (iI base)), some (.int (iI first)), some (.int (iI ((I 54) - 1))), some (.int (iI cc))]) (st' := [.ref h.length]) rfl rfl ?_
    refine go_a (pc' := 83) (ls' := [some (.ref h.length), some (.int (iI o)), some (.int (iI w)), some (.int (iI y)), some (.int (iI base)), some (.int (iI first)), some (.int (iI ((I 54) - 1))), some (.int (iI cc))]) (st' := [.ref h.length, .ref h.length]) rfl rfl ?_
    refine go_get rfl mh_o rfl rfl ?_
    refine go_a (pc' := 88) (ls' := [some (.ref h.length), some (.int (iI o)), some (.int (iI w)), some (.int (iI y)), some (.int (iI base)), some (.int (iI first)), some (.int (iI ((I 54) - 1))), some (.int (iI cc))]) (st' := [.int (iI ((I 54) - 1)), .ref (h.length + 31), .ref h.length]) rfl rfl ?_
    refine mi_ild rfl mh_a31 (by omega) (by omega) (by decide) ?_
    refine go_put (j := 56) rfl mh_o rfl rfl (show 12 ≤ _ from hc) (show 56 < 86 by decide) rfl rfl ?_
    rw [mh_p56]
    refine go_a (pc' := 93) (ls' := [some (.ref h.length), some (.int (iI o)), some (.int (iI w)), some (.int (iI y)), some (.int (iI base)), some (.int (iI first)), some (.int (iI ((I 54) - 1))), some (.int (iI cc))]) (st' := [.ref h.length]) rfl rfl ?_
    refine go_a (pc' := 95) (ls' := [some (.ref h.length), some (.int (iI o)), some (.int (iI w)), some (.int (iI y)), some (.int (iI base)), some (.int (iI first)), some (.int (iI ((I 54) - 1))), some (.int (iI cc))]) (st' := [.int (iI cc), .ref h.length]) rfl rfl ?_
    refine go_v (m := 107) (as := [.ref h.length, .int (iI cc)]) (r := []) rfl rfl rfl mh_o rfl rfl (mm_build z (d + 5) cc h R (su I1 56 (A1 31 (I 54 - 1))) A1 N hc (show 0 ≤ A1 31 (I 54 - 1) by omega) (show A1 31 (I 54 - 1) < 2400 by omega)) (fun v h1 hq => ?_)
    obtain ⟨rfl, hq⟩ := hq
    rw [show su I1 56 (A1 31 (I 54 - 1)) 56 = A1 31 (I 54 - 1) from rfl, su_su, e31] at hq
    subst hq
    show xx_go (xt_P z) (d + 6) 162 98 [some (.ref h.length), some (.int (iI o)), some (.int (iI w)), some (.int (iI y)), some (.int (iI base)), some (.int (iI first)), some (.int (iI ((I 54) - 1))), some (.int (iI cc))] [] (mh h R (su I1 56 (A 31 (I 54 - 1) + 1)) (sa A1 32 (A 31 (I 54 - 1)) cc) N) _
    refine go_a (pc' := 142) (ls' := [some (.ref h.length), some (.int (iI o)), some (.int (iI w)), some (.int (iI y)), some (.int (iI base)), some (.int (iI first)), some (.int (iI ((I 54) - 1))), some (.int (iI cc))]) (st' := []) rfl rfl ?_
    refine go_a (pc' := 19) (ls' := [some (.ref h.length), some (.int (iI o)), some (.int (iI w)), some (.int (iI y)), some (.int (iI base)), some (.int (iI first)), some (.int (iI ((I 54) - 1))), some (.int (iI cc))]) (st' := []) rfl rfl ?_
    have tz := TZ_124 (A := A1) (A1 := sa A1 32 (A 31 (I 54 - 1)) cc) (ar := ar) rfl rfl rfl
    have X4 : AX ar (I 54 - 1) (A 31 (I 54 - 1)) I A N (su I1 56 (A 31 (I 54 - 1) + 1)) (sa A1 32 (A 31 (I 54 - 1)) cc) := by
      refine ⟨⟨X.1, X.2.1, X.2.2.1, fun j p q => ?_, fun a q1 q2 q3 q4 q5 q6 q7 => ?_⟩, ?_, fun q q0 q1 => ⟨?_, ?_, ?_⟩, fun q q0 q1 => ?_⟩
      · rw [su_ne (fun e => q (Or.inr e))]
        exact (X.2.2.2.1 j p id).trans (su_ne (fun e => q (Or.inl e)))
      · rw [sa_ne (fun e => q7 (Or.inr (Or.inr (Or.inr e))))]
        exact X.2.2.2.2 a q1 q2 q3 q4 q5 q6 id
      · exact SZI_124 Z1 rfl rfl rfl rfl
      · show A1 29 q = A 29 q
        rw [a29]
      · show A1 30 q = A 30 q
        rw [a30]
      · show A1 31 q = A 31 q
        rw [a31]
      · show sf (A1 32) (A 31 (I 54 - 1)) cc q = A 32 q
        rw [sf_ne (by omega), a32]
    have v : sa A1 32 (A 31 (I 54 - 1)) cc 32 (A 31 (I 54 - 1)) = cc := sf_self
    have ZR : ar (A 1 (A 29 (I 54 - 1))) = 0 → I1 7 ≤ I 7 := fun az => by
      have g11 : I1 7 = I 7 ∨ I 7 ≤ cc := g11
      rcases g11 with g | g
      · omega
      · have x7 : I 7 ≤ I1 7 := X.2.1
        have fc := X.2.2.1 (A 29 (I 54 - 1)) f1.1 f1.2
        have ga : isL A1 (I 56 - A 31 (I 54 - 1)).toNat (A1 2 cc) := g10.1
        rw [show (I 56 - A 31 (I 54 - 1)).toNat = 0 by omega] at ga
        have := UQ_of X.1 (A 29 (I 54 - 1)) cc f1.1 (by omega) c0 c1 (by rw [fc.1]; exact f2.1) (by rw [fc.1, g1]) (by rw [fc.2.1, f8 az]; exact (show A1 2 cc = 0 from ga).symm)
        omega
    have g3 : I1 7 ≤ I 7 + (I 56 - A 31 (I 54 - 1)) + 1 := g3
    refine K _ _ _ _ X4 j54 rfl (by rw [v]; exact ⟨c0, c1⟩) (by rw [v, tz.1]; exact g2) ⟨(show I1 7 ≤ _ by rw [z0, l0.1, l0.2]; omega), fun az => (show I1 7 ≤ I 7 from ZR az)⟩ ?_
    rw [v, RLU_12 (A := A1) (A1 := sa A1 32 (A 31 (I 54 - 1)) cc) rfl rfl rfl rfl]
    have x7 : I 7 ≤ I1 7 := X.2.1
    have qf2 := qf.2.2.2.2 f2.1
    have en : (I 56 - A 31 (I 54 - 1)).toNat = j0 := by omega
    have g10 : isL A1 (I 56 - A 31 (I 54 - 1)).toNat (A1 2 cc) ∧ ∀ j : Nat, j < (I 56 - A 31 (I 54 - 1)).toNat → A1 1 (rt A1 j (A1 2 cc)) = A 32 (A 31 (I 54 - 1) + j) := g10
    rw [en] at g10
    have P1 := MST_PW X.1
    have hPx : PW (su I 54 (I 54 - 1)) A := hP
    have gp : 0 ≤ A1 1 cc := by omega
    have f1c := X.2.2.1 (A 29 (I 54 - 1)) f1.1 f1.2
    have LC : isL A j0 (A 2 (A 29 (I 54 - 1))) := by
      by_cases q : j0 = m
      · rw [q]
        exact fl
      · have r := isL_rt hP m j0 _ (by omega) (by omega) fl (by omega)
        rw [← fr, z0] at r
        omega
    have hSx : MST (su I 54 (I 54 - 1)) A N := hS
    have hNx : NM (su I 54 (I 54 - 1)) A := hN
    have hTx : TRX (su I 54 (I 54 - 1)) A N := hC.1
    have hRx : PR ar (su I 54 (I 54 - 1)) A := hR
    have C1 := PCU_BX hSx hNx hPx hRx X id id id id id id (PCU_12 (I1 := su I 54 (I 54 - 1)) hC rfl rfl rfl rfl rfl rfl rfl rfl)
    refine ⟨RLU_call X.1 (NM_BX (I := su I 54 (I 54 - 1)) hN (BX_w (F2 := FB) (G2 := GB) (fun _ q => absurd q id) (fun _ q => absurd q id) X)) C1 f1.1 (by omega) c0 c1 ⟨by rw [f1c.1]; exact f2.1, by rw [f1c.1]; exact f2.2⟩ cw (by rw [g1, f1c.1]) (m := j0) ?_ g10.1 (fun j hj => ?_), g11, fun q q0 q1 => ?_⟩
    · rw [f1c.2.1]
      exact isL_extB hPx X _ _ (by omega) (show A 2 (A 29 (I 54 - 1)) < I 7 by omega) LC
    · have fj2 := f6 (A 31 (I 54 - 1) + j) (by omega) (by omega)
      have rj := isL_rt hP j0 j _ (by omega) (by omega) LC hj
      have qj := hP.2 _ rj.1 (by omega : rt A j (A 2 (A 29 (I 54 - 1))) < I 7)
      rw [g10.2 j hj, f1c.2.1, rt_extB hPx X j0 j _ (by omega) (show A 2 (A 29 (I 54 - 1)) < I 7 by omega) LC (by omega), (X.2.2.1 _ rj.1 (show rt A j (A 2 (A 29 (I 54 - 1))) < I 7 by omega)).1]
      exact RLU_BX hSx hTx X id id id rj.2.2 (show A 1 (rt A j (A 2 (A 29 (I 54 - 1)))) < I 7 by omega) fj2.1.1 fj2.1.2 (fR j hj)
    · have := items_lt P1 c0 c1 gp g10.1 (q - A 31 (I 54 - 1)).toNat (by omega)
      rw [g10.2 _ (by omega), show A 31 (I 54 - 1) + ((q - A 31 (I 54 - 1)).toNat : Int) = q by omega] at this
      exact this
  intro n
  induction n with
  | zero =>
    intro I A y6 y7 hS hN hZ hR hw hC hF hb0 hn b1 b2 b3 K
    have hP := MST_PW hS
    have p1 := hP.1
    obtain ⟨⟨f1, f2, f3, f4, f5, f6, f7, f8⟩, cw, j0, m, fj, fr, fl, jm, fR⟩ := id hF
    have qf := hP.2 (A 29 (I 54 - 1)) f1.1 f1.2
    have n0 : A 1 0 < 0 := by rw [hN.2 0 (by decide) (by decide)]; decide
    have i0 := hS.1.1
    have z0 : A 30 (I 54 - 1) = 0 := by
      by_cases e : A 30 (I 54 - 1) = 0
      · exact e
      · have qr := hP.2 (A 30 (I 54 - 1)) f3.1 f3.2
        by_cases e2 : A 1 (A 30 (I 54 - 1)) < 0
        · rw [LZ_atom e2 e] at f4
          omega
        · have lp := (LZ_pair (ar := ar) hP (by omega : 0 < A 30 (I 54 - 1)) f3.2 (by omega)).1
          by_cases c : 1 ≤ TZ A ar (A 1 (A 30 (I 54 - 1))) ∧ 0 ≤ LZ A ar (A 2 (A 30 (I 54 - 1)))
          · rw [if_pos c] at lp
            omega
          · rw [if_neg c] at lp
            omega
    exact close I A y6 y7 hS hN hZ hR hC hF hb0 (by omega) (by omega) (by omega) z0 K
  | succ n ih =>
    intro I A y6 y7 hS hN hZ hR hw hC hF hb0 hn b1 b2 b3 K
    have hP := MST_PW hS
    have p1 := hP.1
    obtain ⟨⟨f1, f2, f3, f4, f5, f6, f7, f8⟩, cw, j0, m, fj, fr, fl, jm, fR⟩ := id hF
    have qf := hP.2 (A 29 (I 54 - 1)) f1.1 f1.2
    have n0 : A 1 0 < 0 := by rw [hN.2 0 (by decide) (by decide)]; decide
    have i0 := hS.1.1
    by_cases z0 : A 30 (I 54 - 1) = 0
    · exact close I A y6 y7 hS hN hZ hR hC hF hb0 (by omega) (by omega) (by omega) z0 K
    have qr := hP.2 (A 30 (I 54 - 1)) f3.1 f3.2
    have pr : 0 ≤ A 1 (A 30 (I 54 - 1)) := by
      by_cases e9 : A 1 (A 30 (I 54 - 1)) < 0
      · rw [LZ_atom e9 z0] at f4
        omega
      · omega
    have qs := qr.2.2.2.2 pr
    have lp := LZ_pair (ar := ar) hP (by omega : 0 < A 30 (I 54 - 1)) f3.2 pr
    have cd : 1 ≤ TZ A ar (A 1 (A 30 (I 54 - 1))) ∧ 0 ≤ LZ A ar (A 2 (A 30 (I 54 - 1))) := by
      by_cases c : 1 ≤ TZ A ar (A 1 (A 30 (I 54 - 1))) ∧ 0 ≤ LZ A ar (A 2 (A 30 (I 54 - 1)))
      · exact c
      · rw [if_neg c] at lp
        omega
    rw [if_pos cd] at lp
    have cz := CZ_nn (ar := ar) hP _ (A 2 (A 30 (I 54 - 1))) (Nat.lt_succ_self _) (by omega) (by omega)
    refine go_a (pc' := 20) (ls' := [some (.ref h.length), some (.int (iI o)), some (.int (iI w)), some (.int (iI y)), some (.int (iI base)), some (.int (iI first)), y6, y7]) (st' := [.ref h.length]) rfl rfl ?_
    refine go_get (v := .int (iI (I 54))) rfl mh_o rfl rfl ?_
    refine go_a (pc' := 25) (ls' := [some (.ref h.length), some (.int (iI o)), some (.int (iI w)), some (.int (iI y)), some (.int (iI base)), some (.int (iI first)), y6, y7]) (st' := [.int (iI base), .int (iI (I 54))]) rfl rfl ?_
    refine mi_le (t := 145) rfl rfl (by omega) (by omega) (by omega) (by omega) (fun q => absurd q (by omega)) (fun _ => ?_)
    refine go_a (pc' := 29) (ls' := [some (.ref h.length), some (.int (iI o)), some (.int (iI w)), some (.int (iI y)), some (.int (iI base)), some (.int (iI first)), y6, y7]) (st' := [.ref h.length]) rfl rfl ?_
    refine go_get (v := .int (iI (I 54))) rfl mh_o rfl rfl ?_
    refine go_a (pc' := 33) (ls' := [some (.ref h.length), some (.int (iI o)), some (.int (iI w)), some (.int (iI y)), some (.int (iI base)), some (.int (iI first)), y6, y7]) (st' := [.int (iI 1), .int (iI (I 54))]) rfl rfl ?_
    refine mi_sub rfl ?_
    refine go_a (pc' := 36) (ls' := [some (.ref h.length), some (.int (iI o)), some (.int (iI w)), some (.int (iI y)), some (.int (iI base)), some (.int (iI first)), some (.int (iI ((I 54) - 1))), y7]) (st' := []) rfl rfl ?_
    refine go_a (pc' := 37) (ls' := [some (.ref h.length), some (.int (iI o)), some (.int (iI w)), some (.int (iI y)), some (.int (iI base)), some (.int (iI first)), some (.int (iI ((I 54) - 1))), y7]) (st' := [.ref h.length]) rfl rfl ?_
    refine go_get rfl mh_o rfl rfl ?_
    refine go_a (pc' := 42) (ls' := [some (.ref h.length), some (.int (iI o)), some (.int (iI w)), some (.int (iI y)), some (.int (iI base)), some (.int (iI first)), some (.int (iI ((I 54) - 1))), y7]) (st' := [.int (iI ((I 54) - 1)), .ref (h.length + 30)]) rfl rfl ?_
    refine mi_ild rfl mh_a30 (by omega) (by omega) (by decide) ?_
    refine mi_ne0 (t := 101) rfl rfl (by omega) (by omega) (fun _ => ?_) (fun q => absurd (show ¬ A 30 (I 54 - 1) = 0 from z0) q)
    refine go_a (pc' := 102) (ls' := [some (.ref h.length), some (.int (iI o)), some (.int (iI w)), some (.int (iI y)), some (.int (iI base)), some (.int (iI first)), some (.int (iI ((I 54) - 1))), y7]) (st' := [.ref h.length]) rfl rfl ?_
    refine go_get rfl mh_o rfl rfl ?_
    refine go_a (pc' := 106) (ls' := [some (.ref h.length), some (.int (iI o)), some (.int (iI w)), some (.int (iI y)), some (.int (iI base)), some (.int (iI first)), some (.int (iI ((I 54) - 1))), y7]) (st' := [.ref h.length, .ref (h.length + 1)]) rfl rfl ?_
    refine go_get rfl mh_o rfl rfl ?_
    refine go_a (pc' := 111) (ls' := [some (.ref h.length), some (.int (iI o)), some (.int (iI w)), some (.int (iI y)), some (.int (iI base)), some (.int (iI first)), some (.int (iI ((I 54) - 1))), y7]) (st' := [.int (iI ((I 54) - 1)), .ref (h.length + 30), .ref (h.length + 1)]) rfl rfl ?_
    refine mi_ild rfl mh_a30 (by omega) (by omega) (by decide) ?_
    refine mi_ild rfl mh_a1 (by omega) (by omega) (by decide) ?_
    refine go_a (pc' := 115) (ls' := [some (.ref h.length), some (.int (iI o)), some (.int (iI w)), some (.int (iI y)), some (.int (iI base)), some (.int (iI first)), some (.int (iI ((I 54) - 1))), some (.int (iI (A 1 (A 30 ((I 54) - 1)))))]) (st' := []) rfl rfl ?_
    refine go_a (pc' := 116) (ls' := [some (.ref h.length), some (.int (iI o)), some (.int (iI w)), some (.int (iI y)), some (.int (iI base)), some (.int (iI first)), some (.int (iI ((I 54) - 1))), some (.int (iI (A 1 (A 30 ((I 54) - 1)))))]) (st' := [.ref h.length]) rfl rfl ?_
    refine go_get rfl mh_o rfl rfl ?_
    refine go_a (pc' := 121) (ls' := [some (.ref h.length), some (.int (iI o)), some (.int (iI w)), some (.int (iI y)), some (.int (iI base)), some (.int (iI first)), some (.int (iI ((I 54) - 1))), some (.int (iI (A 1 (A 30 ((I 54) - 1)))))]) (st' := [.int (iI ((I 54) - 1)), .ref (h.length + 30)]) rfl rfl ?_
    refine go_a (pc' := 122) (ls' := [some (.ref h.length), some (.int (iI o)), some (.int (iI w)), some (.int (iI y)), some (.int (iI base)), some (.int (iI first)), some (.int (iI ((I 54) - 1))), some (.int (iI (A 1 (A 30 ((I 54) - 1)))))]) (st' := [.ref h.length, .int (iI ((I 54) - 1)), .ref (h.length + 30)]) rfl rfl ?_
    refine go_get rfl mh_o rfl rfl ?_
    refine go_a (pc' := 126) (ls' := [some (.ref h.length), some (.int (iI o)), some (.int (iI w)), some (.int (iI y)), some (.int (iI base)), some (.int (iI first)), some (.int (iI ((I 54) - 1))), some (.int (iI (A 1 (A 30 ((I 54) - 1)))))]) (st' := [.ref h.length, .ref (h.length + 2), .int (iI ((I 54) - 1)), .ref (h.length + 30)]) rfl rfl ?_
    refine go_get rfl mh_o rfl rfl ?_
    refine go_a (pc' := 131) (ls' := [some (.ref h.length), some (.int (iI o)), some (.int (iI w)), some (.int (iI y)), some (.int (iI base)), some (.int (iI first)), some (.int (iI ((I 54) - 1))), some (.int (iI (A 1 (A 30 ((I 54) - 1)))))]) (st' := [.int (iI ((I 54) - 1)), .ref (h.length + 30), .ref (h.length + 2), .int (iI ((I 54) - 1)), .ref (h.length + 30)]) rfl rfl ?_
    refine mi_ild rfl mh_a30 (by omega) (by omega) (by decide) ?_
    refine mi_ild rfl mh_a2 (by omega) (by omega) (by decide) ?_
    refine mi_ist rfl mh_a30 (show 12 ≤ _ by omega) (by omega) (by omega) (by decide) ?_
    rw [mh_w30 (by omega)]
    refine go_a (pc' := 135) (ls' := [some (.ref h.length), some (.int (iI o)), some (.int (iI w)), some (.int (iI y)), some (.int (iI base)), some (.int (iI first)), some (.int (iI ((I 54) - 1))), some (.int (iI (A 1 (A 30 ((I 54) - 1)))))]) (st' := [.ref h.length]) rfl rfl ?_
    refine go_a (pc' := 137) (ls' := [some (.ref h.length), some (.int (iI o)), some (.int (iI w)), some (.int (iI y)), some (.int (iI base)), some (.int (iI first)), some (.int (iI ((I 54) - 1))), some (.int (iI (A 1 (A 30 ((I 54) - 1)))))]) (st' := [.int (iI (A 1 (A 30 ((I 54) - 1)))), .ref h.length]) rfl rfl ?_
    refine go_a (pc' := 138) (ls' := [some (.ref h.length), some (.int (iI o)), some (.int (iI w)), some (.int (iI y)), some (.int (iI base)), some (.int (iI first)), some (.int (iI ((I 54) - 1))), some (.int (iI (A 1 (A 30 ((I 54) - 1)))))]) (st' := [.int (iI w), .int (iI (A 1 (A 30 ((I 54) - 1)))), .ref h.length]) rfl rfl ?_
    refine go_a (pc' := 139) (ls' := [some (.ref h.length), some (.int (iI o)), some (.int (iI w)), some (.int (iI y)), some (.int (iI base)), some (.int (iI first)), some (.int (iI ((I 54) - 1))), some (.int (iI (A 1 (A 30 ((I 54) - 1)))))]) (st' := [.int (iI y), .int (iI w), .int (iI (A 1 (A 30 ((I 54) - 1)))), .ref h.length]) rfl rfl ?_
    have tz2 := TZ_124 (A := A) (A1 := (sa A 30 (I 54 - 1) (A 2 (A 30 (I 54 - 1))))) (ar := ar) rfl rfl rfl
    have S2 : MST I (sa A 30 (I 54 - 1) (A 2 (A 30 (I 54 - 1)))) N := hS
    have P2 : PW I (sa A 30 (I 54 - 1) (A 2 (A 30 (I 54 - 1)))) := hP
    have R2 : PR ar I (sa A 30 (I 54 - 1) (A 2 (A 30 (I 54 - 1)))) := by
      refine ⟨hR.1, fun q q0 q1 => ?_⟩
      rw [tz2.1]
      exact hR.2 q q0 q1
    have Z2 : SZI ar I (sa A 30 (I 54 - 1) (A 2 (A 30 (I 54 - 1)))) := by
      exact SZI_124 hZ rfl rfl rfl rfl
    have qf2 := qf.2.2.2.2 f2.1
    have rs : A 2 (A 30 (I 54 - 1)) = rt A (j0 + 1) (A 2 (A 29 (I 54 - 1))) := by
      rw [rt_succ, ← fr]
    have jm2 : j0 < m := by
      by_cases q : j0 = m
      · rw [q, isL_end m _ fl] at fr
        rw [fr] at pr
        omega
      · omega
    refine go_v (m := 163) (as := [.ref h.length, .int (iI (A 1 (A 30 ((I 54) - 1)))), .int (iI w), .int (iI y)]) (r := []) rfl rfl rfl mh_o rfl rfl (mm_beginInstanceR z (d + 3) ar (A 1 (A 30 (I 54 - 1))) w y h R I (sa A 30 (I 54 - 1) (A 2 (A 30 (I 54 - 1)))) N hc P2 pr (by omega) R2 (by rw [tz2.1]; exact cd.1) w0 w1 y0 (by rw [tz2.1]; exact hw) (by omega) (by omega) (by omega) (by omega)) (fun v h1 hq => ?_)
    obtain ⟨rfl, hq⟩ := hq
    rcases hq with ⟨t, ⟨⟨t0, t1⟩, tb⟩, rfl⟩ | ⟨⟨cl, clw⟩, rfl⟩
    · show xx_go (xt_P z) (d + 6) 162 142 [some (.ref h.length), some (.int (iI o)), some (.int (iI w)), some (.int (iI y)), some (.int (iI base)), some (.int (iI first)), some (.int (iI ((I 54) - 1))), some (.int (iI (A 1 (A 30 ((I 54) - 1)))))] [] (mh h R ((su I 56 (I 56 + 1))) ((sa (sa A 30 (I 54 - 1) (A 2 (A 30 (I 54 - 1)))) 32 (I 56) t)) N) _
      refine go_a (pc' := 19) (ls' := [some (.ref h.length), some (.int (iI o)), some (.int (iI w)), some (.int (iI y)), some (.int (iI base)), some (.int (iI first)), some (.int (iI ((I 54) - 1))), some (.int (iI (A 1 (A 30 ((I 54) - 1)))))]) (st' := []) rfl rfl ?_
      have tz3 := TZ_124 (A := A) (A1 := (sa (sa A 30 (I 54 - 1) (A 2 (A 30 (I 54 - 1)))) 32 (I 56) t)) (ar := ar) rfl rfl rfl
      rw [tz2.1] at t1
      have e30 : (sa (sa A 30 (I 54 - 1) (A 2 (A 30 (I 54 - 1)))) 32 (I 56) t) 30 (I 54 - 1) = A 2 (A 30 (I 54 - 1)) := sf_self
      have S3 : MST (su I 56 (I 56 + 1)) (sa (sa A 30 (I 54 - 1) (A 2 (A 30 (I 54 - 1)))) 32 (I 56) t) N := hS
      have N3 : NM (su I 56 (I 56 + 1)) (sa (sa A 30 (I 54 - 1) (A 2 (A 30 (I 54 - 1)))) 32 (I 56) t) := hN
      have R3 : PR ar (su I 56 (I 56 + 1)) (sa (sa A 30 (I 54 - 1) (A 2 (A 30 (I 54 - 1)))) 32 (I 56) t) := by
        refine ⟨hR.1, fun q q0 q1 => ?_⟩
        rw [tz3.1]
        exact hR.2 q q0 q1
      have Z3 : SZI ar (su I 56 (I 56 + 1)) (sa (sa A 30 (I 54 - 1) (A 2 (A 30 (I 54 - 1)))) 32 (I 56) t) := by
        exact SZI_124 hZ rfl rfl rfl rfl
      have C3 : PCU w y e0 e1 e2 im N (su I 56 (I 56 + 1)) (sa (sa A 30 (I 54 - 1) (A 2 (A 30 (I 54 - 1)))) 32 (I 56) t) := PCU_12 hC rfl rfl rfl rfl rfl rfl rfl rfl
      have rlf : RLU e0 e1 e2 im N A (A 1 (A 30 (I 54 - 1))) t := RLU_leaf hS hN hP pr (by omega) hC tb
      have F3 : FRM ar (su I 56 (I 56 + 1)) (sa (sa A 30 (I 54 - 1) (A 2 (A 30 (I 54 - 1)))) 32 (I 56) t) := by
        refine ⟨f1, f2, ?_, ?_, ⟨f5.1, (show A 31 (I 54 - 1) ≤ I 56 + 1 by omega)⟩, fun q q0 q1 => ?_, ?_, f8⟩
        · show 0 ≤ (sa (sa A 30 (I 54 - 1) (A 2 (A 30 (I 54 - 1)))) 32 (I 56) t) 30 (I 54 - 1) ∧ (sa (sa A 30 (I 54 - 1) (A 2 (A 30 (I 54 - 1)))) 32 (I 56) t) 30 (I 54 - 1) < I 7
          rw [e30]
          omega
        · show 0 ≤ LZ (sa (sa A 30 (I 54 - 1) (A 2 (A 30 (I 54 - 1)))) 32 (I 56) t) ar ((sa (sa A 30 (I 54 - 1) (A 2 (A 30 (I 54 - 1)))) 32 (I 56) t) 30 (I 54 - 1))
          rw [e30, tz3.2.1]
          exact cd.2
        · have q1 : q < I 56 + 1 := q1
          have q0 : A 31 (I 54 - 1) ≤ q := q0
          rw [tz3.1]
          show (0 ≤ sf (A 32) (I 56) t q ∧ sf (A 32) (I 56) t q < I 7) ∧ 1 ≤ TZ A ar (sf (A 32) (I 56) t q)
          by_cases e : q = I 56
          · rw [e, sf_self]
            exact ⟨t0, t1⟩
          · rw [sf_ne e]
            exact f6 q q0 (by omega)
        · show (I 56 + 1 - A 31 (I 54 - 1)) + CZ (sa (sa A 30 (I 54 - 1) (A 2 (A 30 (I 54 - 1)))) 32 (I 56) t) ar ((sa (sa A 30 (I 54 - 1) (A 2 (A 30 (I 54 - 1)))) 32 (I 56) t) 30 (I 54 - 1)) = ar (A 1 (A 29 (I 54 - 1)))
          rw [e30, tz3.2.2]
          omega
      have FR3 : FRR w e0 e1 e2 im N ar (su I 56 (I 56 + 1)) (sa (sa A 30 (I 54 - 1) (A 2 (A 30 (I 54 - 1)))) 32 (I 56) t) := by
        refine ⟨F3, cw, j0 + 1, m, ?_, ?_, ?_, jm2, fun j hj => ?_⟩
        · show ((j0 + 1 : Nat) : Int) = I 56 + 1 - A 31 (I 54 - 1)
          omega
        · show (sa (sa A 30 (I 54 - 1) (A 2 (A 30 (I 54 - 1)))) 32 (I 56) t) 30 (I 54 - 1) = rt (sa (sa A 30 (I 54 - 1) (A 2 (A 30 (I 54 - 1)))) 32 (I 56) t) (j0 + 1) (A 2 (A 29 (I 54 - 1)))
          exact e30.trans (rs.trans (rt_12 (A := A) (A1 := (sa (sa A 30 (I 54 - 1) (A 2 (A 30 (I 54 - 1)))) 32 (I 56) t)) rfl _ _).symm)
        · exact isL_12a (A := A) (A1 := (sa (sa A 30 (I 54 - 1) (A 2 (A 30 (I 54 - 1)))) 32 (I 56) t)) rfl rfl _ _ fl
        · show RLU e0 e1 e2 im N (sa (sa A 30 (I 54 - 1) (A 2 (A 30 (I 54 - 1)))) 32 (I 56) t) (A 1 (rt (sa (sa A 30 (I 54 - 1) (A 2 (A 30 (I 54 - 1)))) 32 (I 56) t) j (A 2 (A 29 (I 54 - 1))))) (sf (A 32) (I 56) t (A 31 (I 54 - 1) + j))
          rw [RLU_12 (A := A) (A1 := (sa (sa A 30 (I 54 - 1) (A 2 (A 30 (I 54 - 1)))) 32 (I 56) t)) rfl rfl rfl rfl, show rt (sa (sa A 30 (I 54 - 1) (A 2 (A 30 (I 54 - 1)))) 32 (I 56) t) j (A 2 (A 29 (I 54 - 1))) = rt A j (A 2 (A 29 (I 54 - 1))) from rt_12 (A := A) (A1 := (sa (sa A 30 (I 54 - 1) (A 2 (A 30 (I 54 - 1)))) 32 (I 56) t)) rfl _ _]
          by_cases ej : j = j0
          · rw [ej, ← fr, show A 31 (I 54 - 1) + (j0 : Int) = I 56 by omega, sf_self]
            exact rlf
          · rw [sf_ne (by omega)]
            exact fR j (by omega)
      have X3 : AX ar (I 54 - 1) (A 31 (I 54 - 1)) I A N (su I 56 (I 56 + 1)) (sa (sa A 30 (I 54 - 1) (A 2 (A 30 (I 54 - 1)))) 32 (I 56) t) := by
        refine ⟨⟨hS, Int.le_refl _, fun k _ _ => ⟨rfl, rfl, rfl, id⟩, fun j p q => su_ne (fun e => q (Or.inr e)), fun a q1 q2 q3 q4 q5 q6 q7 => (sa_ne (fun e => q7 (Or.inr (Or.inr (Or.inr e))))).trans (sa_ne (fun e => q7 (Or.inr (Or.inl e))))⟩, Z3, fun q q0 q1 => ⟨rfl, ?_, rfl⟩, fun q q0 q1 => ?_⟩
        · show sf (A 30) (I 54 - 1) _ q = A 30 q
          rw [sf_ne (by omega)]
        · show sf (A 32) (I 56) t q = A 32 q
          rw [sf_ne (by omega)]
      have M3 : CZ (sa (sa A 30 (I 54 - 1) (A 2 (A 30 (I 54 - 1)))) 32 (I 56) t) ar ((sa (sa A 30 (I 54 - 1) (A 2 (A 30 (I 54 - 1)))) 32 (I 56) t) 30 ((su I 56 (I 56 + 1)) 54 - 1)) = CZ A ar (A 2 (A 30 (I 54 - 1))) := by
        show CZ (sa (sa A 30 (I 54 - 1) (A 2 (A 30 (I 54 - 1)))) 32 (I 56) t) ar ((sa (sa A 30 (I 54 - 1) (A 2 (A 30 (I 54 - 1)))) 32 (I 56) t) 30 (I 54 - 1)) = _
        rw [e30, tz3.2.2]
      have L3 : LZ (sa (sa A 30 (I 54 - 1) (A 2 (A 30 (I 54 - 1)))) 32 (I 56) t) ar ((sa (sa A 30 (I 54 - 1) (A 2 (A 30 (I 54 - 1)))) 32 (I 56) t) 30 ((su I 56 (I 56 + 1)) 54 - 1)) = LZ A ar (A 2 (A 30 (I 54 - 1))) := by
        show LZ (sa (sa A 30 (I 54 - 1) (A 2 (A 30 (I 54 - 1)))) 32 (I 56) t) ar ((sa (sa A 30 (I 54 - 1) (A 2 (A 30 (I 54 - 1)))) 32 (I 56) t) 30 (I 54 - 1)) = _
        rw [e30, tz3.2.1]
      refine ih (su I 56 (I 56 + 1)) (sa (sa A 30 (I 54 - 1) (A 2 (A 30 (I 54 - 1)))) 32 (I 56) t) _ _ S3 N3 Z3 R3 (by rw [tz3.1]; exact hw) C3 FR3 hb0 (by rw [L3]; omega) (show I 54 + _ ≤ 1199 by rw [L3]; omega) (show I 56 + 1 + _ ≤ 2399 by rw [L3]; omega) (show I 7 + _ + (I 56 + 1 - A 31 (I 54 - 1)) + 1 ≤ 140000 by rw [L3]; omega) (fun I1 A1 z6 z7 X c1 c2 c3 c4 c5 c6 => ?_)
      have c5 : I1 7 ≤ I 7 + 2 * LZ (sa (sa A 30 (I 54 - 1) (A 2 (A 30 (I 54 - 1)))) 32 (I 56) t) ar ((sa (sa A 30 (I 54 - 1) (A 2 (A 30 (I 54 - 1)))) 32 (I 56) t) 30 ((su I 56 (I 56 + 1)) 54 - 1)) - CZ (sa (sa A 30 (I 54 - 1) (A 2 (A 30 (I 54 - 1)))) 32 (I 56) t) ar ((sa (sa A 30 (I 54 - 1) (A 2 (A 30 (I 54 - 1)))) 32 (I 56) t) 30 ((su I 56 (I 56 + 1)) 54 - 1)) + (I 56 + 1 - A 31 (I 54 - 1)) + 1 ∧ _ := c5
      rw [L3, M3] at c5
      have c5 := c5.1
      refine K I1 A1 z6 z7 (AX_tr X3 X) c1 c2 c3 c4 ⟨by omega, fun az => absurd az (by omega)⟩ ⟨c6.1, c6.2.1, fun q q0 q1 => ?_⟩
      have b := c6.2.2 q q0 (show q < I 56 + 1 by omega)
      have b : sf (A 32) (I 56) t q < _ := b
      rw [sf_ne (by omega)] at b
      exact b
    · show xx_go (xt_P z) (d + 6) 162 142 [some (.ref h.length), some (.int (iI o)), some (.int (iI w)), some (.int (iI y)), some (.int (iI base)), some (.int (iI first)), some (.int (iI ((I 54) - 1))), some (.int (iI (A 1 (A 30 ((I 54) - 1)))))] [] (mh h R ((su I 54 (I 54 + 1))) ((sa (sa (sa (sa A 30 (I 54 - 1) (A 2 (A 30 (I 54 - 1)))) 29 (I 54) (A 1 (A 30 (I 54 - 1)))) 30 (I 54) ((sa A 30 (I 54 - 1) (A 2 (A 30 (I 54 - 1)))) 2 (A 1 (A 30 (I 54 - 1))))) 31 (I 54) (I 56))) N) _
      refine go_a (pc' := 19) (ls' := [some (.ref h.length), some (.int (iI o)), some (.int (iI w)), some (.int (iI y)), some (.int (iI base)), some (.int (iI first)), some (.int (iI ((I 54) - 1))), some (.int (iI (A 1 (A 30 ((I 54) - 1)))))]) (st' := []) rfl rfl ?_
      have cl : 0 ≤ A 1 (A 1 (A 30 (I 54 - 1))) ∧ A 1 (A 1 (A 30 (I 54 - 1))) ≠ 2 := cl
      have ra : A 1 (A 30 (I 54 - 1)) < I 7 := by omega
      have qa := hP.2 (A 1 (A 30 (I 54 - 1))) pr ra
      have qb := qa.2.2.2.2 cl.1
      have tc := TZ_call (ar := ar) hP pr ra cl.1 cl.2
      have td : 0 ≤ LZ A ar (A 2 (A 1 (A 30 (I 54 - 1)))) ∧ CZ A ar (A 2 (A 1 (A 30 (I 54 - 1)))) = ar (A 1 (A 1 (A 30 (I 54 - 1)))) ∧ A 4 (A 1 (A 30 (I 54 - 1))) ≠ 0 := by
        by_cases c : 0 ≤ LZ A ar (A 2 (A 1 (A 30 (I 54 - 1)))) ∧ CZ A ar (A 2 (A 1 (A 30 (I 54 - 1)))) = ar (A 1 (A 1 (A 30 (I 54 - 1)))) ∧ A 4 (A 1 (A 30 (I 54 - 1))) ≠ 0
        · exact c
        · rw [if_neg c] at tc
          omega
      rw [if_pos td] at tc
      have tz4 := TZ_124 (A := A) (A1 := (sa (sa (sa (sa A 30 (I 54 - 1) (A 2 (A 30 (I 54 - 1)))) 29 (I 54) (A 1 (A 30 (I 54 - 1)))) 30 (I 54) ((sa A 30 (I 54 - 1) (A 2 (A 30 (I 54 - 1)))) 2 (A 1 (A 30 (I 54 - 1))))) 31 (I 54) (I 56))) (ar := ar) rfl rfl rfl
      have i54 : I 54 + 1 - 1 = I 54 := by omega
      have d29 : (sa (sa (sa (sa A 30 (I 54 - 1) (A 2 (A 30 (I 54 - 1)))) 29 (I 54) (A 1 (A 30 (I 54 - 1)))) 30 (I 54) ((sa A 30 (I 54 - 1) (A 2 (A 30 (I 54 - 1)))) 2 (A 1 (A 30 (I 54 - 1))))) 31 (I 54) (I 56)) 29 (I 54 + 1 - 1) = A 1 (A 30 (I 54 - 1)) := by rw [i54]; exact sf_self
      have d30 : (sa (sa (sa (sa A 30 (I 54 - 1) (A 2 (A 30 (I 54 - 1)))) 29 (I 54) (A 1 (A 30 (I 54 - 1)))) 30 (I 54) ((sa A 30 (I 54 - 1) (A 2 (A 30 (I 54 - 1)))) 2 (A 1 (A 30 (I 54 - 1))))) 31 (I 54) (I 56)) 30 (I 54 + 1 - 1) = A 2 (A 1 (A 30 (I 54 - 1))) := by rw [i54]; exact sf_self
      have d31 : (sa (sa (sa (sa A 30 (I 54 - 1) (A 2 (A 30 (I 54 - 1)))) 29 (I 54) (A 1 (A 30 (I 54 - 1)))) 30 (I 54) ((sa A 30 (I 54 - 1) (A 2 (A 30 (I 54 - 1)))) 2 (A 1 (A 30 (I 54 - 1))))) 31 (I 54) (I 56)) 31 (I 54 + 1 - 1) = I 56 := by rw [i54]; exact sf_self
      have S4 : MST (su I 54 (I 54 + 1)) (sa (sa (sa (sa A 30 (I 54 - 1) (A 2 (A 30 (I 54 - 1)))) 29 (I 54) (A 1 (A 30 (I 54 - 1)))) 30 (I 54) ((sa A 30 (I 54 - 1) (A 2 (A 30 (I 54 - 1)))) 2 (A 1 (A 30 (I 54 - 1))))) 31 (I 54) (I 56)) N := hS
      have N4 : NM (su I 54 (I 54 + 1)) (sa (sa (sa (sa A 30 (I 54 - 1) (A 2 (A 30 (I 54 - 1)))) 29 (I 54) (A 1 (A 30 (I 54 - 1)))) 30 (I 54) ((sa A 30 (I 54 - 1) (A 2 (A 30 (I 54 - 1)))) 2 (A 1 (A 30 (I 54 - 1))))) 31 (I 54) (I 56)) := hN
      have R4 : PR ar (su I 54 (I 54 + 1)) (sa (sa (sa (sa A 30 (I 54 - 1) (A 2 (A 30 (I 54 - 1)))) 29 (I 54) (A 1 (A 30 (I 54 - 1)))) 30 (I 54) ((sa A 30 (I 54 - 1) (A 2 (A 30 (I 54 - 1)))) 2 (A 1 (A 30 (I 54 - 1))))) 31 (I 54) (I 56)) := by
        refine ⟨hR.1, fun q q0 q1 => ?_⟩
        rw [tz4.1]
        exact hR.2 q q0 q1
      have Z4 : SZI ar (su I 54 (I 54 + 1)) (sa (sa (sa (sa A 30 (I 54 - 1) (A 2 (A 30 (I 54 - 1)))) 29 (I 54) (A 1 (A 30 (I 54 - 1)))) 30 (I 54) ((sa A 30 (I 54 - 1) (A 2 (A 30 (I 54 - 1)))) 2 (A 1 (A 30 (I 54 - 1))))) 31 (I 54) (I 56)) := by
        exact SZI_124 hZ rfl rfl rfl rfl
      have az0 : ar (A 1 (A 1 (A 30 (I 54 - 1)))) = 0 → A 2 (A 1 (A 30 (I 54 - 1))) = 0 := fun az => by
        have il := (LZ_isL (ar := ar) hP n0 _ (A 2 (A 1 (A 30 (I 54 - 1)))) (Nat.lt_succ_self _) (by omega) (by omega) td.1).1
        rw [show (CZ A ar (A 2 (A 1 (A 30 (I 54 - 1))))).toNat = 0 by omega] at il
        exact il
      have F4 : FRM ar (su I 54 (I 54 + 1)) (sa (sa (sa (sa A 30 (I 54 - 1) (A 2 (A 30 (I 54 - 1)))) 29 (I 54) (A 1 (A 30 (I 54 - 1)))) 30 (I 54) ((sa A 30 (I 54 - 1) (A 2 (A 30 (I 54 - 1)))) 2 (A 1 (A 30 (I 54 - 1))))) 31 (I 54) (I 56)) := by
        show (0 ≤ (sa (sa (sa (sa A 30 (I 54 - 1) (A 2 (A 30 (I 54 - 1)))) 29 (I 54) (A 1 (A 30 (I 54 - 1)))) 30 (I 54) ((sa A 30 (I 54 - 1) (A 2 (A 30 (I 54 - 1)))) 2 (A 1 (A 30 (I 54 - 1))))) 31 (I 54) (I 56)) 29 (I 54 + 1 - 1) ∧ (sa (sa (sa (sa A 30 (I 54 - 1) (A 2 (A 30 (I 54 - 1)))) 29 (I 54) (A 1 (A 30 (I 54 - 1)))) 30 (I 54) ((sa A 30 (I 54 - 1) (A 2 (A 30 (I 54 - 1)))) 2 (A 1 (A 30 (I 54 - 1))))) 31 (I 54) (I 56)) 29 (I 54 + 1 - 1) < I 7) ∧ (0 ≤ A 1 ((sa (sa (sa (sa A 30 (I 54 - 1) (A 2 (A 30 (I 54 - 1)))) 29 (I 54) (A 1 (A 30 (I 54 - 1)))) 30 (I 54) ((sa A 30 (I 54 - 1) (A 2 (A 30 (I 54 - 1)))) 2 (A 1 (A 30 (I 54 - 1))))) 31 (I 54) (I 56)) 29 (I 54 + 1 - 1)) ∧ A 1 ((sa (sa (sa (sa A 30 (I 54 - 1) (A 2 (A 30 (I 54 - 1)))) 29 (I 54) (A 1 (A 30 (I 54 - 1)))) 30 (I 54) ((sa A 30 (I 54 - 1) (A 2 (A 30 (I 54 - 1)))) 2 (A 1 (A 30 (I 54 - 1))))) 31 (I 54) (I 56)) 29 (I 54 + 1 - 1)) ≠ 2) ∧ (0 ≤ (sa (sa (sa (sa A 30 (I 54 - 1) (A 2 (A 30 (I 54 - 1)))) 29 (I 54) (A 1 (A 30 (I 54 - 1)))) 30 (I 54) ((sa A 30 (I 54 - 1) (A 2 (A 30 (I 54 - 1)))) 2 (A 1 (A 30 (I 54 - 1))))) 31 (I 54) (I 56)) 30 (I 54 + 1 - 1) ∧ (sa (sa (sa (sa A 30 (I 54 - 1) (A 2 (A 30 (I 54 - 1)))) 29 (I 54) (A 1 (A 30 (I 54 - 1)))) 30 (I 54) ((sa A 30 (I 54 - 1) (A 2 (A 30 (I 54 - 1)))) 2 (A 1 (A 30 (I 54 - 1))))) 31 (I 54) (I 56)) 30 (I 54 + 1 - 1) < I 7) ∧ 0 ≤ LZ (sa (sa (sa (sa A 30 (I 54 - 1) (A 2 (A 30 (I 54 - 1)))) 29 (I 54) (A 1 (A 30 (I 54 - 1)))) 30 (I 54) ((sa A 30 (I 54 - 1) (A 2 (A 30 (I 54 - 1)))) 2 (A 1 (A 30 (I 54 - 1))))) 31 (I 54) (I 56)) ar ((sa (sa (sa (sa A 30 (I 54 - 1) (A 2 (A 30 (I 54 - 1)))) 29 (I 54) (A 1 (A 30 (I 54 - 1)))) 30 (I 54) ((sa A 30 (I 54 - 1) (A 2 (A 30 (I 54 - 1)))) 2 (A 1 (A 30 (I 54 - 1))))) 31 (I 54) (I 56)) 30 (I 54 + 1 - 1)) ∧ (0 ≤ (sa (sa (sa (sa A 30 (I 54 - 1) (A 2 (A 30 (I 54 - 1)))) 29 (I 54) (A 1 (A 30 (I 54 - 1)))) 30 (I 54) ((sa A 30 (I 54 - 1) (A 2 (A 30 (I 54 - 1)))) 2 (A 1 (A 30 (I 54 - 1))))) 31 (I 54) (I 56)) 31 (I 54 + 1 - 1) ∧ (sa (sa (sa (sa A 30 (I 54 - 1) (A 2 (A 30 (I 54 - 1)))) 29 (I 54) (A 1 (A 30 (I 54 - 1)))) 30 (I 54) ((sa A 30 (I 54 - 1) (A 2 (A 30 (I 54 - 1)))) 2 (A 1 (A 30 (I 54 - 1))))) 31 (I 54) (I 56)) 31 (I 54 + 1 - 1) ≤ I 56) ∧ (∀ q : Int, (sa (sa (sa (sa A 30 (I 54 - 1) (A 2 (A 30 (I 54 - 1)))) 29 (I 54) (A 1 (A 30 (I 54 - 1)))) 30 (I 54) ((sa A 30 (I 54 - 1) (A 2 (A 30 (I 54 - 1)))) 2 (A 1 (A 30 (I 54 - 1))))) 31 (I 54) (I 56)) 31 (I 54 + 1 - 1) ≤ q → q < I 56 → (0 ≤ A 32 q ∧ A 32 q < I 7) ∧ 1 ≤ TZ (sa (sa (sa (sa A 30 (I 54 - 1) (A 2 (A 30 (I 54 - 1)))) 29 (I 54) (A 1 (A 30 (I 54 - 1)))) 30 (I 54) ((sa A 30 (I 54 - 1) (A 2 (A 30 (I 54 - 1)))) 2 (A 1 (A 30 (I 54 - 1))))) 31 (I 54) (I 56)) ar (A 32 q)) ∧ (I 56 - (sa (sa (sa (sa A 30 (I 54 - 1) (A 2 (A 30 (I 54 - 1)))) 29 (I 54) (A 1 (A 30 (I 54 - 1)))) 30 (I 54) ((sa A 30 (I 54 - 1) (A 2 (A 30 (I 54 - 1)))) 2 (A 1 (A 30 (I 54 - 1))))) 31 (I 54) (I 56)) 31 (I 54 + 1 - 1)) + CZ (sa (sa (sa (sa A 30 (I 54 - 1) (A 2 (A 30 (I 54 - 1)))) 29 (I 54) (A 1 (A 30 (I 54 - 1)))) 30 (I 54) ((sa A 30 (I 54 - 1) (A 2 (A 30 (I 54 - 1)))) 2 (A 1 (A 30 (I 54 - 1))))) 31 (I 54) (I 56)) ar ((sa (sa (sa (sa A 30 (I 54 - 1) (A 2 (A 30 (I 54 - 1)))) 29 (I 54) (A 1 (A 30 (I 54 - 1)))) 30 (I 54) ((sa A 30 (I 54 - 1) (A 2 (A 30 (I 54 - 1)))) 2 (A 1 (A 30 (I 54 - 1))))) 31 (I 54) (I 56)) 30 (I 54 + 1 - 1)) = ar (A 1 ((sa (sa (sa (sa A 30 (I 54 - 1) (A 2 (A 30 (I 54 - 1)))) 29 (I 54) (A 1 (A 30 (I 54 - 1)))) 30 (I 54) ((sa A 30 (I 54 - 1) (A 2 (A 30 (I 54 - 1)))) 2 (A 1 (A 30 (I 54 - 1))))) 31 (I 54) (I 56)) 29 (I 54 + 1 - 1))) ∧ (ar (A 1 ((sa (sa (sa (sa A 30 (I 54 - 1) (A 2 (A 30 (I 54 - 1)))) 29 (I 54) (A 1 (A 30 (I 54 - 1)))) 30 (I 54) ((sa A 30 (I 54 - 1) (A 2 (A 30 (I 54 - 1)))) 2 (A 1 (A 30 (I 54 - 1))))) 31 (I 54) (I 56)) 29 (I 54 + 1 - 1))) = 0 → A 2 ((sa (sa (sa (sa A 30 (I 54 - 1) (A 2 (A 30 (I 54 - 1)))) 29 (I 54) (A 1 (A 30 (I 54 - 1)))) 30 (I 54) ((sa A 30 (I 54 - 1) (A 2 (A 30 (I 54 - 1)))) 2 (A 1 (A 30 (I 54 - 1))))) 31 (I 54) (I 56)) 29 (I 54 + 1 - 1)) = 0)
        rw [d29, d30, d31, tz4.2.1, tz4.2.2]
        exact ⟨⟨pr, ra⟩, cl, ⟨by omega, by omega⟩, td.1, ⟨by omega, Int.le_refl _⟩, fun q q0 q1 => absurd q1 (by omega), by omega, az0⟩
      have M4 : CZ (sa (sa (sa (sa A 30 (I 54 - 1) (A 2 (A 30 (I 54 - 1)))) 29 (I 54) (A 1 (A 30 (I 54 - 1)))) 30 (I 54) ((sa A 30 (I 54 - 1) (A 2 (A 30 (I 54 - 1)))) 2 (A 1 (A 30 (I 54 - 1))))) 31 (I 54) (I 56)) ar ((sa (sa (sa (sa A 30 (I 54 - 1) (A 2 (A 30 (I 54 - 1)))) 29 (I 54) (A 1 (A 30 (I 54 - 1)))) 30 (I 54) ((sa A 30 (I 54 - 1) (A 2 (A 30 (I 54 - 1)))) 2 (A 1 (A 30 (I 54 - 1))))) 31 (I 54) (I 56)) 30 ((su I 54 (I 54 + 1)) 54 - 1)) = CZ A ar (A 2 (A 1 (A 30 (I 54 - 1)))) := by
        show CZ (sa (sa (sa (sa A 30 (I 54 - 1) (A 2 (A 30 (I 54 - 1)))) 29 (I 54) (A 1 (A 30 (I 54 - 1)))) 30 (I 54) ((sa A 30 (I 54 - 1) (A 2 (A 30 (I 54 - 1)))) 2 (A 1 (A 30 (I 54 - 1))))) 31 (I 54) (I 56)) ar ((sa (sa (sa (sa A 30 (I 54 - 1) (A 2 (A 30 (I 54 - 1)))) 29 (I 54) (A 1 (A 30 (I 54 - 1)))) 30 (I 54) ((sa A 30 (I 54 - 1) (A 2 (A 30 (I 54 - 1)))) 2 (A 1 (A 30 (I 54 - 1))))) 31 (I 54) (I 56)) 30 (I 54 + 1 - 1)) = _
        rw [d30, tz4.2.2]
      have C4 : PCU w y e0 e1 e2 im N (su I 54 (I 54 + 1)) (sa (sa (sa (sa A 30 (I 54 - 1) (A 2 (A 30 (I 54 - 1)))) 29 (I 54) (A 1 (A 30 (I 54 - 1)))) 30 (I 54) ((sa A 30 (I 54 - 1) (A 2 (A 30 (I 54 - 1)))) 2 (A 1 (A 30 (I 54 - 1))))) 31 (I 54) (I 56)) := PCU_12 hC rfl rfl rfl rfl rfl rfl rfl rfl
      have FR4 : FRR w e0 e1 e2 im N ar (su I 54 (I 54 + 1)) (sa (sa (sa (sa A 30 (I 54 - 1) (A 2 (A 30 (I 54 - 1)))) 29 (I 54) (A 1 (A 30 (I 54 - 1)))) 30 (I 54) ((sa A 30 (I 54 - 1) (A 2 (A 30 (I 54 - 1)))) 2 (A 1 (A 30 (I 54 - 1))))) 31 (I 54) (I 56)) := by
        refine ⟨F4, (show (sa (sa (sa (sa A 30 (I 54 - 1) (A 2 (A 30 (I 54 - 1)))) 29 (I 54) (A 1 (A 30 (I 54 - 1)))) 30 (I 54) ((sa A 30 (I 54 - 1) (A 2 (A 30 (I 54 - 1)))) 2 (A 1 (A 30 (I 54 - 1))))) 31 (I 54) (I 56)) 29 (I 54 + 1 - 1) ≠ w by rw [d29]; exact clw), 0, (CZ A ar (A 2 (A 1 (A 30 (I 54 - 1))))).toNat, ?_, ?_, ?_, Nat.zero_le _, fun j hj => absurd hj (by omega)⟩
        · show ((0 : Nat) : Int) = I 56 - (sa (sa (sa (sa A 30 (I 54 - 1) (A 2 (A 30 (I 54 - 1)))) 29 (I 54) (A 1 (A 30 (I 54 - 1)))) 30 (I 54) ((sa A 30 (I 54 - 1) (A 2 (A 30 (I 54 - 1)))) 2 (A 1 (A 30 (I 54 - 1))))) 31 (I 54) (I 56)) 31 (I 54 + 1 - 1)
          rw [d31]
          omega
        · show (sa (sa (sa (sa A 30 (I 54 - 1) (A 2 (A 30 (I 54 - 1)))) 29 (I 54) (A 1 (A 30 (I 54 - 1)))) 30 (I 54) ((sa A 30 (I 54 - 1) (A 2 (A 30 (I 54 - 1)))) 2 (A 1 (A 30 (I 54 - 1))))) 31 (I 54) (I 56)) 30 (I 54 + 1 - 1) = A 2 ((sa (sa (sa (sa A 30 (I 54 - 1) (A 2 (A 30 (I 54 - 1)))) 29 (I 54) (A 1 (A 30 (I 54 - 1)))) 30 (I 54) ((sa A 30 (I 54 - 1) (A 2 (A 30 (I 54 - 1)))) 2 (A 1 (A 30 (I 54 - 1))))) 31 (I 54) (I 56)) 29 (I 54 + 1 - 1))
          rw [d30, d29]
        · show isL (sa (sa (sa (sa A 30 (I 54 - 1) (A 2 (A 30 (I 54 - 1)))) 29 (I 54) (A 1 (A 30 (I 54 - 1)))) 30 (I 54) ((sa A 30 (I 54 - 1) (A 2 (A 30 (I 54 - 1)))) 2 (A 1 (A 30 (I 54 - 1))))) 31 (I 54) (I 56)) _ (A 2 ((sa (sa (sa (sa A 30 (I 54 - 1) (A 2 (A 30 (I 54 - 1)))) 29 (I 54) (A 1 (A 30 (I 54 - 1)))) 30 (I 54) ((sa A 30 (I 54 - 1) (A 2 (A 30 (I 54 - 1)))) 2 (A 1 (A 30 (I 54 - 1))))) 31 (I 54) (I 56)) 29 (I 54 + 1 - 1)))
          rw [d29]
          exact isL_12a (A := A) (A1 := (sa (sa (sa (sa A 30 (I 54 - 1) (A 2 (A 30 (I 54 - 1)))) 29 (I 54) (A 1 (A 30 (I 54 - 1)))) 30 (I 54) ((sa A 30 (I 54 - 1) (A 2 (A 30 (I 54 - 1)))) 2 (A 1 (A 30 (I 54 - 1))))) 31 (I 54) (I 56))) rfl rfl _ _ (LZ_isL hP n0 _ _ (Nat.lt_succ_self _) (by omega) (by omega) td.1).1
      have L4 : LZ (sa (sa (sa (sa A 30 (I 54 - 1) (A 2 (A 30 (I 54 - 1)))) 29 (I 54) (A 1 (A 30 (I 54 - 1)))) 30 (I 54) ((sa A 30 (I 54 - 1) (A 2 (A 30 (I 54 - 1)))) 2 (A 1 (A 30 (I 54 - 1))))) 31 (I 54) (I 56)) ar ((sa (sa (sa (sa A 30 (I 54 - 1) (A 2 (A 30 (I 54 - 1)))) 29 (I 54) (A 1 (A 30 (I 54 - 1)))) 30 (I 54) ((sa A 30 (I 54 - 1) (A 2 (A 30 (I 54 - 1)))) 2 (A 1 (A 30 (I 54 - 1))))) 31 (I 54) (I 56)) 30 ((su I 54 (I 54 + 1)) 54 - 1)) = LZ A ar (A 2 (A 1 (A 30 (I 54 - 1)))) := by
        show LZ (sa (sa (sa (sa A 30 (I 54 - 1) (A 2 (A 30 (I 54 - 1)))) 29 (I 54) (A 1 (A 30 (I 54 - 1)))) 30 (I 54) ((sa A 30 (I 54 - 1) (A 2 (A 30 (I 54 - 1)))) 2 (A 1 (A 30 (I 54 - 1))))) 31 (I 54) (I 56)) ar ((sa (sa (sa (sa A 30 (I 54 - 1) (A 2 (A 30 (I 54 - 1)))) 29 (I 54) (A 1 (A 30 (I 54 - 1)))) 30 (I 54) ((sa A 30 (I 54 - 1) (A 2 (A 30 (I 54 - 1)))) 2 (A 1 (A 30 (I 54 - 1))))) 31 (I 54) (I 56)) 30 (I 54 + 1 - 1)) = _
        rw [d30, tz4.2.1]
      have X4 : AX ar (I 54 - 1) (A 31 (I 54 - 1)) I A N (su I 54 (I 54 + 1)) (sa (sa (sa (sa A 30 (I 54 - 1) (A 2 (A 30 (I 54 - 1)))) 29 (I 54) (A 1 (A 30 (I 54 - 1)))) 30 (I 54) ((sa A 30 (I 54 - 1) (A 2 (A 30 (I 54 - 1)))) 2 (A 1 (A 30 (I 54 - 1))))) 31 (I 54) (I 56)) := by
        refine ⟨⟨hS, Int.le_refl _, fun k _ _ => ⟨rfl, rfl, rfl, id⟩, fun j p q => su_ne (fun e => q (Or.inl e)), fun a q1 q2 q3 q4 q5 q6 q7 => (((sa_ne (fun e => q7 (Or.inr (Or.inr (Or.inl e))))).trans (sa_ne (fun e => q7 (Or.inr (Or.inl e))))).trans (sa_ne (fun e => q7 (Or.inl e)))).trans (sa_ne (fun e => q7 (Or.inr (Or.inl e))))⟩, Z4, fun q q0 q1 => ⟨?_, ?_, ?_⟩, fun q q0 q1 => rfl⟩
        · show sf (A 29) (I 54) _ q = A 29 q
          rw [sf_ne (by omega)]
        · show sf (sf (A 30) (I 54 - 1) _) (I 54) _ q = A 30 q
          rw [sf_ne (by omega), sf_ne (by omega)]
        · show sf (A 31) (I 54) _ q = A 31 q
          rw [sf_ne (by omega)]
      refine ih (su I 54 (I 54 + 1)) (sa (sa (sa (sa A 30 (I 54 - 1) (A 2 (A 30 (I 54 - 1)))) 29 (I 54) (A 1 (A 30 (I 54 - 1)))) 30 (I 54) ((sa A 30 (I 54 - 1) (A 2 (A 30 (I 54 - 1)))) 2 (A 1 (A 30 (I 54 - 1))))) 31 (I 54) (I 56)) _ _ S4 N4 Z4 R4 (by rw [tz4.1]; exact hw) C4 FR4 (show base < I 54 + 1 by omega) (by rw [L4]; omega) (show I 54 + 1 + _ ≤ 1199 by rw [L4]; omega) (show I 56 + _ ≤ 2399 by rw [L4]; omega) (show I 7 + _ + (I 56 - (sa (sa (sa (sa A 30 (I 54 - 1) (A 2 (A 30 (I 54 - 1)))) 29 (I 54) (A 1 (A 30 (I 54 - 1)))) 30 (I 54) ((sa A 30 (I 54 - 1) (A 2 (A 30 (I 54 - 1)))) 2 (A 1 (A 30 (I 54 - 1))))) 31 (I 54) (I 56)) 31 (I 54 + 1 - 1)) + 1 ≤ 140000 by rw [L4, d31]; omega) (fun I5 A5 z6 z7 X c1 c2 c3 c4 c5 c6 => ?_)
      have X : AX ar (I 54 + 1 - 1) ((sa (sa (sa (sa A 30 (I 54 - 1) (A 2 (A 30 (I 54 - 1)))) 29 (I 54) (A 1 (A 30 (I 54 - 1)))) 30 (I 54) ((sa A 30 (I 54 - 1) (A 2 (A 30 (I 54 - 1)))) 2 (A 1 (A 30 (I 54 - 1))))) 31 (I 54) (I 56)) 31 (I 54 + 1 - 1)) (su I 54 (I 54 + 1)) (sa (sa (sa (sa A 30 (I 54 - 1) (A 2 (A 30 (I 54 - 1)))) 29 (I 54) (A 1 (A 30 (I 54 - 1)))) 30 (I 54) ((sa A 30 (I 54 - 1) (A 2 (A 30 (I 54 - 1)))) 2 (A 1 (A 30 (I 54 - 1))))) 31 (I 54) (I 56)) N I5 A5 := X
      rw [d31, i54] at X
      have c1 : I5 54 = I 54 := by have c1 : I5 54 = I 54 + 1 - 1 := c1; omega
      have c2 : I5 56 = (sa (sa (sa (sa A 30 (I 54 - 1) (A 2 (A 30 (I 54 - 1)))) 29 (I 54) (A 1 (A 30 (I 54 - 1)))) 30 (I 54) ((sa A 30 (I 54 - 1) (A 2 (A 30 (I 54 - 1)))) 2 (A 1 (A 30 (I 54 - 1))))) 31 (I 54) (I 56)) 31 (I 54 + 1 - 1) + 1 := c2
      have c3 : 0 ≤ A5 32 ((sa (sa (sa (sa A 30 (I 54 - 1) (A 2 (A 30 (I 54 - 1)))) 29 (I 54) (A 1 (A 30 (I 54 - 1)))) 30 (I 54) ((sa A 30 (I 54 - 1) (A 2 (A 30 (I 54 - 1)))) 2 (A 1 (A 30 (I 54 - 1))))) 31 (I 54) (I 56)) 31 (I 54 + 1 - 1)) ∧ A5 32 ((sa (sa (sa (sa A 30 (I 54 - 1) (A 2 (A 30 (I 54 - 1)))) 29 (I 54) (A 1 (A 30 (I 54 - 1)))) 30 (I 54) ((sa A 30 (I 54 - 1) (A 2 (A 30 (I 54 - 1)))) 2 (A 1 (A 30 (I 54 - 1))))) 31 (I 54) (I 56)) 31 (I 54 + 1 - 1)) < I5 7 := c3
      have c4 : 1 ≤ TZ A5 ar (A5 32 ((sa (sa (sa (sa A 30 (I 54 - 1) (A 2 (A 30 (I 54 - 1)))) 29 (I 54) (A 1 (A 30 (I 54 - 1)))) 30 (I 54) ((sa A 30 (I 54 - 1) (A 2 (A 30 (I 54 - 1)))) 2 (A 1 (A 30 (I 54 - 1))))) 31 (I 54) (I 56)) 31 (I 54 + 1 - 1))) := c4
      have c5 : I5 7 ≤ I 7 + 2 * LZ (sa (sa (sa (sa A 30 (I 54 - 1) (A 2 (A 30 (I 54 - 1)))) 29 (I 54) (A 1 (A 30 (I 54 - 1)))) 30 (I 54) ((sa A 30 (I 54 - 1) (A 2 (A 30 (I 54 - 1)))) 2 (A 1 (A 30 (I 54 - 1))))) 31 (I 54) (I 56)) ar ((sa (sa (sa (sa A 30 (I 54 - 1) (A 2 (A 30 (I 54 - 1)))) 29 (I 54) (A 1 (A 30 (I 54 - 1)))) 30 (I 54) ((sa A 30 (I 54 - 1) (A 2 (A 30 (I 54 - 1)))) 2 (A 1 (A 30 (I 54 - 1))))) 31 (I 54) (I 56)) 30 ((su I 54 (I 54 + 1)) 54 - 1)) - CZ (sa (sa (sa (sa A 30 (I 54 - 1) (A 2 (A 30 (I 54 - 1)))) 29 (I 54) (A 1 (A 30 (I 54 - 1)))) 30 (I 54) ((sa A 30 (I 54 - 1) (A 2 (A 30 (I 54 - 1)))) 2 (A 1 (A 30 (I 54 - 1))))) 31 (I 54) (I 56)) ar ((sa (sa (sa (sa A 30 (I 54 - 1) (A 2 (A 30 (I 54 - 1)))) 29 (I 54) (A 1 (A 30 (I 54 - 1)))) 30 (I 54) ((sa A 30 (I 54 - 1) (A 2 (A 30 (I 54 - 1)))) 2 (A 1 (A 30 (I 54 - 1))))) 31 (I 54) (I 56)) 30 ((su I 54 (I 54 + 1)) 54 - 1)) + (I 56 - (sa (sa (sa (sa A 30 (I 54 - 1) (A 2 (A 30 (I 54 - 1)))) 29 (I 54) (A 1 (A 30 (I 54 - 1)))) 30 (I 54) ((sa A 30 (I 54 - 1) (A 2 (A 30 (I 54 - 1)))) 2 (A 1 (A 30 (I 54 - 1))))) 31 (I 54) (I 56)) 31 (I 54 + 1 - 1)) + 1 ∧ (ar (A 1 ((sa (sa (sa (sa A 30 (I 54 - 1) (A 2 (A 30 (I 54 - 1)))) 29 (I 54) (A 1 (A 30 (I 54 - 1)))) 30 (I 54) ((sa A 30 (I 54 - 1) (A 2 (A 30 (I 54 - 1)))) 2 (A 1 (A 30 (I 54 - 1))))) 31 (I 54) (I 56)) 29 (I 54 + 1 - 1))) = 0 → I5 7 ≤ I 7) := c5
      have c6 : RLU e0 e1 e2 im N A5 ((sa (sa (sa (sa A 30 (I 54 - 1) (A 2 (A 30 (I 54 - 1)))) 29 (I 54) (A 1 (A 30 (I 54 - 1)))) 30 (I 54) ((sa A 30 (I 54 - 1) (A 2 (A 30 (I 54 - 1)))) 2 (A 1 (A 30 (I 54 - 1))))) 31 (I 54) (I 56)) 29 (I 54 + 1 - 1)) (A5 32 ((sa (sa (sa (sa A 30 (I 54 - 1) (A 2 (A 30 (I 54 - 1)))) 29 (I 54) (A 1 (A 30 (I 54 - 1)))) 30 (I 54) ((sa A 30 (I 54 - 1) (A 2 (A 30 (I 54 - 1)))) 2 (A 1 (A 30 (I 54 - 1))))) 31 (I 54) (I 56)) 31 (I 54 + 1 - 1))) ∧ (I5 7 = I 7 ∨ I 7 ≤ A5 32 ((sa (sa (sa (sa A 30 (I 54 - 1) (A 2 (A 30 (I 54 - 1)))) 29 (I 54) (A 1 (A 30 (I 54 - 1)))) 30 (I 54) ((sa A 30 (I 54 - 1) (A 2 (A 30 (I 54 - 1)))) 2 (A 1 (A 30 (I 54 - 1))))) 31 (I 54) (I 56)) 31 (I 54 + 1 - 1))) ∧ _ := c6
      rw [d31] at c2 c3 c4 c5
      rw [d29, d31] at c6
      rw [L4, M4, d29] at c5
      have cz2 := CZ_nn (ar := ar) hP _ (A 2 (A 1 (A 30 (I 54 - 1)))) (Nat.lt_succ_self _) (by omega) (by omega)
      have c5 : I5 7 ≤ I 7 + 2 * TZ A ar (A 1 (A 30 (I 54 - 1))) - 2 := by omega
      have P4 : PW (su I 54 (I 54 + 1)) (sa (sa (sa (sa A 30 (I 54 - 1) (A 2 (A 30 (I 54 - 1)))) 29 (I 54) (A 1 (A 30 (I 54 - 1)))) 30 (I 54) ((sa A 30 (I 54 - 1) (A 2 (A 30 (I 54 - 1)))) 2 (A 1 (A 30 (I 54 - 1))))) 31 (I 54) (I 56)) := hP
      have x7 : I 7 ≤ I5 7 := X.1.2.1
      have k1 := X.2.2.1 (I 54 - 1) (by omega) (by omega)
      have k29 : A5 29 (I 54 - 1) = A 29 (I 54 - 1) := k1.1.trans (by show sf (A 29) (I 54) _ (I 54 - 1) = _; rw [sf_ne (by omega)])
      have k30 : A5 30 (I 54 - 1) = A 2 (A 30 (I 54 - 1)) := k1.2.1.trans (by show sf (sf (A 30) (I 54 - 1) _) (I 54) _ (I 54 - 1) = _; rw [sf_ne (by omega), sf_self])
      have k31 : A5 31 (I 54 - 1) = A 31 (I 54 - 1) := k1.2.2.trans (by show sf (A 31) (I 54) _ (I 54 - 1) = _; rw [sf_ne (by omega)])
      have XA : AX ar (I 54 - 1) (A 31 (I 54 - 1)) I A N I5 A5 := AX_tr X4 (AX_mono (by omega) (by omega) X)
      have tr := TZ_BX (ar := ar) hP XA.1 (by omega : 0 ≤ A 2 (A 30 (I 54 - 1))) (by omega)
      have o1 := (XA.1.2.2.1 (A 29 (I 54 - 1)) f1.1 f1.2).1
      have o2 := (XA.1.2.2.1 (A 29 (I 54 - 1)) f1.1 f1.2).2.1
      have L5 : LZ A5 ar (A5 30 (I5 54 - 1)) = LZ A ar (A 2 (A 30 (I 54 - 1))) := by
        rw [c1, k30]
        exact tr.2.1 cd.2
      have M5 : CZ A5 ar (A5 30 (I5 54 - 1)) = CZ A ar (A 2 (A 30 (I 54 - 1))) := by
        rw [c1, k30]
        exact tr.2.2
      have F5 : FRM ar I5 A5 := by
        unfold FRM
        rw [c1, k29, k30, k31, o1, o2, tr.2.1 cd.2, tr.2.2, c2]
        refine ⟨⟨f1.1, by omega⟩, f2, ⟨by omega, by omega⟩, cd.2, ⟨f5.1, by omega⟩, fun q q0 q1 => ?_, by omega, f8⟩
        by_cases e : q = I 56
        · rw [e]
          exact ⟨c3, c4⟩
        · have b := f6 q q0 (by omega)
          have e32 : A5 32 q = A 32 q := X.2.2.2 q (by omega) (by omega)
          rw [e32, (TZ_BX hP XA.1 b.1.1 b.1.2).1 b.2]
          exact ⟨⟨b.1.1, by omega⟩, b.2⟩
      have C5 : PCU w y e0 e1 e2 im N I5 A5 := PCU_BX hS hN hP hR XA.1 (by unfold FB; omega) (by unfold GB; omega) (by unfold GB; omega) (by unfold FB; omega) (by unfold GB; omega) (by unfold GB; omega) hC
      have rr : ∀ j : Nat, j ≤ j0 + 1 → rt A5 j (A 2 (A 29 (I 54 - 1))) = rt A j (A 2 (A 29 (I 54 - 1))) := fun j hj => rt_extB hP XA.1 m j _ (by omega) (by omega) fl (by omega)
      have FR5 : FRR w e0 e1 e2 im N ar I5 A5 := by
        refine ⟨F5, (by rw [c1, k29]; exact cw), j0 + 1, m, ?_, ?_, ?_, jm2, fun j hj => ?_⟩
        · rw [c1, c2, k31]
          omega
        · rw [c1, k30, k29, o2, rs, rr _ (by omega)]
        · rw [c1, k29, o2]
          exact isL_extB hP XA.1 _ _ (by omega) (by omega) fl
        · rw [c1, k29, k31, o2, rr j (by omega)]
          have rj := isL_rt hP m j (A 2 (A 29 (I 54 - 1))) (by omega) (by omega) fl (by omega)
          have qj := hP.2 _ rj.1 (by omega : rt A j (A 2 (A 29 (I 54 - 1))) < I 7)
          by_cases ej : j = j0
          · rw [ej, ← fr, show A 31 (I 54 - 1) + (j0 : Int) = I 56 by omega, (XA.1.2.2.1 _ f3.1 f3.2).1]
            exact c6.1
          · have bj := f6 (A 31 (I 54 - 1) + j) (by omega) (by omega)
            rw [show A5 32 (A 31 (I 54 - 1) + (j : Int)) = A 32 (A 31 (I 54 - 1) + (j : Int)) from X.2.2.2 _ (by omega) (by omega), (XA.1.2.2.1 _ rj.1 (by omega)).1]
            exact RLU_BX hS hC.1 XA.1 (by unfold FB; omega) (by unfold GB; omega) (by unfold GB; omega) rj.2.2 (show A 1 (rt A j (A 2 (A 29 (I 54 - 1)))) < I 7 by omega) bj.1.1 bj.1.2 (fR j (by omega))
      have N5 := NM_BX hN XA.1
      have R5 := PR_BX hP hR XA.1 (by unfold FB; omega) (by unfold GB; omega) (by unfold GB; omega)
      have hw5 : 0 ≤ w → (0 ≤ y ∧ y < I5 7) ∧ 1 ≤ TZ A5 ar y := fun q => by
        have b := hw q
        rw [(TZ_BX hP XA.1 b.1.1 b.1.2).1 b.2]
        exact ⟨⟨b.1.1, by omega⟩, b.2⟩
      refine ih I5 A5 z6 z7 XA.1.1 N5 XA.2.1 R5 hw5 C5 FR5 (by omega) (by rw [L5]; omega) (by rw [L5]; omega) (by rw [L5]; omega) (by rw [L5, c1, k31]; omega) (fun I6 A6 y8 y9 Y h1 h2 h3 h4 h5 h6 => ?_)
      rw [c1, k31] at Y h2 h3 h4
      rw [L5, M5, c1, k31] at h5
      rw [c1, k29, k31, c2] at h6
      have t6 := h6.2.2 (I 56) (by omega) (by omega)
      refine K I6 A6 y8 y9 (AX_tr XA Y) (by omega) h2 h3 h4 ⟨by have := h5.1; omega, fun az => absurd az (by omega)⟩ ⟨h6.1, ?_, fun q q0 q1 => ?_⟩
      · rcases c6.2.1 with g | g
        · rw [g] at h6
          exact h6.2.1
        · exact Or.inr (by omega)
      · have b := h6.2.2 q q0 (by omega)
        rw [show A5 32 q = A 32 q from X.2.2.2 q (by omega) (by omega)] at b
        exact b

