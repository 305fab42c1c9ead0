def VsL (A : Nat → Int → Int) (N : Int → Int) (l : Int) (m : Nat) : List Nat := (List.range m).map (fun j => sp_hc (DM A N (A 1 (A 1 (rt A j l)))))
def OsL (A : Nat → Int → Int) (N : Int → Int) (l : Int) (m : Nat) : List ob_T := (List.range m).map (fun j => (sp_nf (DM A N (A 1 (A 2 (A 1 (rt A j l)))))).1)
def itI (im : ob_T → ob_T × ob_T) (A : Nat → Int → Int) (N : Int → Int) (c k : Int) : List (Option ob_T) := (ixl (fun q => A 50 (30 * c + q)) k).map (fun x => sp_opO (im (DM A N x)).1)
theorem itI_s {im : ob_T → ob_T × ob_T} {A : Nat → Int → Int} {N : Int → Int} {c k : Int} (h : 0 ≤ k) : itI im A N c (k + 1) = itI im A N c k ++ [sp_opO (im (DM A N (A 50 (30 * c + k)))).1] := by
  unfold itI
  rw [ixl_s h, List.map_append]
  rfl
theorem DIT_rows {F G : Nat → Prop} {ar : Int → Int} {I I1 : Nat → Int} {A A1 : Nat → Int → Int} {N N1 : Int → Int} {its : List (Option ob_T)} {m s v : Int} (hB : BI ar I A N) (hT : TRX I A N) (hD : DR ar m s v I A) (x : BX F G I A N I1 A1 N1) (f10 : ¬ F 10) (g8 : ¬ G 8) (g9 : ¬ G 9) (i67 : I1 67 = I 67) (a38 : A1 38 = A 38) (e49 : I1 49 = I 49) (h : DIT its I A N) : DIT its I1 A1 N1 := by
  unfold DIT
  rw [e49, i67, a38]
  rw [show (ixl (A 38) (I 67)).map (DM A1 N1) = (ixl (A 38) (I 67)).map (DM A N) from List.map_congr_left (fun y hy => DM_BX hB.1.1 hT x f10 g8 g9 (DR_in hD hy).1 (DR_in hD hy).2)]
  exact h
theorem SG_first {g f : Int → Int} : ∀ n : Nat, (∀ e : Nat, e < n → 1 ≤ g (f e)) → 0 < n → g (f 0) + ((n : Int) - 1) ≤ SG g f n
  | 1, _, _ => by
    show g (f 0) + (((1 : Nat) : Int) - 1) ≤ 0 + g (f ((0 : Nat) : Int))
    rw [show ((0 : Nat) : Int) = 0 from rfl]
    omega
  | n + 2, h, _ => by
    have a := SG_first (n + 1) (fun e he => h e (by omega)) (by omega)
    have b := h (n + 1) (by omega)
    show _ ≤ SG g f (n + 1) + g (f ((n + 1 : Nat) : Int))
    omega
theorem SG_mono {g f : Int → Int} {n m : Int} (h : ∀ e : Int, 0 ≤ e → e < m → 0 ≤ g (f e)) (n0 : 0 ≤ n) (nm : n ≤ m) : SG g f n.toNat ≤ SG g f m.toNat := by
  have key : ∀ (k : Nat) (a : Int), 0 ≤ a → a + k ≤ m → SG g f a.toNat ≤ SG g f (a + k).toNat := by
    intro k
    induction k with
    | zero => intro a _ _; rw [show a + ((0 : Nat) : Int) = a by omega]; exact Int.le_refl _
    | succ k ih =>
      intro a a0 ha
      have x := ih a a0 (by omega)
      have y := SG_pop (g := g) (f := f) (m := a + ((k + 1 : Nat) : Int)) (by omega)
      rw [show a + ((k + 1 : Nat) : Int) - 1 = a + k by omega] at y
      have p := h (a + k) (by omega) (by omega)
      omega
  have x := key (m - n).toNat n n0 (by omega)
  rw [show n + ((m - n).toNat : Int) = m by omega] at x
  exact x
theorem uw_BX {F G : Nat → Prop} {I I1 : Nat → Int} {A A1 : Nat → Int → Int} {N N1 : Int → Int} {m : Nat} {l : Int} (hP : PW I A) (x : BX F G I A N I1 A1 N1) (l0 : 0 ≤ l) (l1 : l < I 7) (hL : isL A m l) (hQ : ∀ j : Nat, j < m → isL A 2 (A 1 (rt A j l))) : ∀ j : Nat, j ≤ m → uw A1 j l = uw A j l
  | 0, _ => rfl
  | j + 1, hj => by
    have b := (VD_rt hP l0 l1 hL (by omega : j < m)).2.1
    have p := hQ j (by omega)
    have r := hP.2 _ b.1 b.2
    have r2 := r.2.2.2.2 p.1
    have p3 : 0 ≤ A 1 (A 2 (A 1 (rt A j l))) := p.2.1
    have r3 := hP.2 _ (by omega : 0 ≤ A 2 (A 1 (rt A j l))) (by omega)
    rw [uw_succ, uw_succ, uw_BX hP x l0 l1 hL hQ j (by omega), it_BX hP x l0 l1 hL (by omega), (x.2.2.1 _ b.1 b.2).2.1, (x.2.2.1 (A 2 (A 1 (rt A j l))) (by omega) (by omega)).1, (WD_BX hP x p3 (by omega)).1]
theorem QF {I : Nat → Int} {A : Nat → Int → Int} {x t : Int} (hP : PW I A) (hN : NM I A) (x0 : 0 ≤ x) (x1 : x < I 7) (t0 : 0 ≤ t) (t1 : t < I 7) (w : WD A x ≤ 3) (x2 : x ≠ 2) (h : NFT A x t) : NT A wq t = 0 := by
  have n0 : A 1 0 < 0 := by rw [hN.2 0 (by decide) (by decide)]; decide
  have n2 : A 1 2 = -2 := hN.2 2 (by decide) (by decide)
  by_cases e : A 1 x < 0
  · rw [NFT_atom e] at h
    subst h
    rw [NT_leaf hP x0 x1 (Or.inl e), wq_ne x2]
  by_cases e2 : A 1 x = 2
  · rw [NFT_quote e2] at h
    obtain ⟨h1, h | h⟩ := h
    · have tl : A 1 t < 0 := by
        rw [h.2]
        rcases h.1 with q | q | q
        · rw [q]; decide
        · rw [q]; exact n0
        · rw [q, hN.2 1 (by decide) (by decide)]; decide
      have tn : t ≠ 2 := by
        intro z
        rw [h.2] at z
        rcases h.1 with q | q | q
        · rw [z, n2] at q
          omega
        · omega
        · omega
      rw [NT_leaf hP t0 t1 (Or.inl tl), wq_ne tn]
    · have tn : t ≠ 2 := by
        intro z
        rw [z, n2] at h
        omega
      rw [NT_leaf hP t0 t1 (Or.inr h.2.1), wq_ne tn]
  have e3 : 0 ≤ A 1 x := by omega
  have q := hP.2 x x0 x1
  have q2 := q.2.2.2.2 e3
  have wp := WD_pair hP x0 x1 e3
  rw [if_neg (fun z => e2 z.1)] at wp
  have vp := VD_pair hP x0 x1 e3
  have w1 := WD_1 hP e3 (by omega : A 1 x < I 7)
  have v1 := VD_0 hP q.2.2.1 (by omega : A 2 x < I 7)
  have vz : VD A (A 2 x) = 0 := by omega
  have az : A 2 x = 0 := by
    by_cases c : A 1 (A 2 x) < 0
    · rw [VD_atom c] at vz
      by_cases u : A 2 x = 0
      · exact u
      · rw [if_neg u] at vz
        omega
    · have q3 := hP.2 (A 2 x) q.2.2.1 (by omega)
      have q4 := q3.2.2.2.2 (by omega)
      have v2 := VD_pair hP q.2.2.1 (by omega : A 2 x < I 7) (by omega)
      have w2 := WD_1 hP (by omega : 0 ≤ A 1 (A 2 x)) (by omega)
      have v3 := VD_0 hP q3.2.2.1 (by omega : A 2 (A 2 x) < I 7)
      omega
  rw [NFT_call hP x0 x1 e3 e2, az, NFL_0] at h
  have tn : t ≠ 2 := by
    intro z
    rw [z, n2] at h
    omega
  rw [NT_call hP t0 t1 (by omega) (by omega), h.2, NL_0, wq_ne tn]
  rfl
theorem mm_insted_loop (z : Value) (d m : Nat) (ar : Int → Int) (e0 e1 e2 : Prop) (o c : Int) (h R : xx_H) (I : Nat → Int) (A : Nat → Int → Int) (N : Int → Int) (hc : 12 ≤ h.length) (hB : BI ar I A N) (hT : TRX I A N) (k0 : 0 ≤ o) (k1 : o < I 7) (p1 : 0 ≤ A 1 o) (p2 : 0 ≤ A 1 (A 2 o)) (hL : isL A m (A 2 (A 2 o))) (hQ : ∀ j : Nat, j < m → PQ A ar (A 1 (rt A j (A 2 (A 2 o))))) (m4 : m ≤ 400) (w : VD A (A 2 (A 2 o)) ≤ 1000) (hu : ∀ j : Nat, j ≤ m → uw A j (A 2 (A 2 o)) ≤ uw A m (A 2 (A 2 o))) (c0 : 0 ≤ c) (c1 : c < 350) (hC : CLA ar I A c) (H2 : e2 → ∀ j : Nat, j < m → A 1 (A 2 (A 1 (rt A j (A 2 (A 2 o))))) = A 1 (A 1 (rt A j (A 2 (A 2 o))))) (H0 : e0 → ∀ j : Nat, j < m → A 1 (A 1 (rt A j (A 2 (A 2 o)))) = 2) (H1 : e1 → (∃ j : Nat, j < m ∧ A 1 (A 1 (rt A j (A 2 (A 2 o)))) = 2) ∧ ∀ j : Nat, j < m → WD A (A 1 (A 2 (A 1 (rt A j (A 2 (A 2 o)))))) ≤ 3 ∧ A 1 (A 2 (A 1 (rt A j (A 2 (A 2 o))))) ≠ 2) (ho : I 7 + A 51 c * (2 * uw A m (A 2 (A 2 o))) + 2 * SG (TZ A ar) (fun q => A 50 (30 * c + q)) (A 51 c).toNat + 6 ≤ 140000) : ∀ (n : Nat) (k : Int) (I1 : Nat → Int) (A1 : Nat → Int → Int) (C S V : Int) (y4 y5 : Option Value), (A 51 c - k).toNat ≤ n → 0 ≤ k → k ≤ A 51 c → RU ar (k * (2 * uw A m (A 2 (A 2 o))) + C) I A N I1 A1 N → DR ar k S V I1 A1 → (0 ≤ C ∧ C ≤ 2 * (SG (TZ A ar) (fun q => A 50 (30 * c + q)) k.toNat - k)) → ((e2 ∨ (e0 ∧ ∀ q : Int, 0 ≤ q → q < A 51 c → NT A wq (A 50 (30 * c + q)) = 0)) → C = 0 ∧ S = SG (TZ A ar) (fun q => A 50 (30 * c + q)) k.toNat) → (e1 → V = 0) → (DIT [] I A N → DIT (itI (sp_in (VsL A N (A 2 (A 2 o)) m) (OsL A N (A 2 (A 2 o)) m)) A N c k) I1 A1 N) → xx_go (xt_P z) (d + 8) 160 2 [some (.ref h.length), some (.int (iI o)), some (.int (iI c)), some (.int (iI k)), y4, y5] [] (mh h R I1 A1 N) (fun v h1 => v = some (.int (iI 1)) ∧ ∃ (I1 : Nat → Int) (A1 : Nat → Int → Int) (C S V : Int), h1 = mh h R I1 A1 N ∧ RU ar (A 51 c * (2 * uw A m (A 2 (A 2 o))) + C) I A N I1 A1 N ∧ DR ar (A 51 c) S V I1 A1 ∧ (0 ≤ C ∧ C ≤ 2 * (SG (TZ A ar) (fun q => A 50 (30 * c + q)) (A 51 c).toNat - A 51 c)) ∧ ((e2 ∨ (e0 ∧ ∀ q : Int, 0 ≤ q → q < A 51 c → NT A wq (A 50 (30 * c + q)) = 0)) → C = 0 ∧ S = SG (TZ A ar) (fun q => A 50 (30 * c + q)) (A 51 c).toNat) ∧ (e1 → V = 0) ∧ (DIT [] I A N → DIT (itI (sp_in (VsL A N (A 2 (A 2 o)) m) (OsL A N (A 2 (A 2 o)) m)) A N c (A 51 c)) I1 A1 N)) := by
  have hP := BI_P hB
  have hc1 := hC.1
  have u0 : 0 ≤ uw A m (A 2 (A 2 o)) := hu 0 (by omega)
  have qo := hP.2 o k0 k1
  have qo2 := qo.2.2.2.2 p1
  have q2 := hP.2 (A 2 o) (by omega) (by omega)
  have q22 := q2.2.2.2.2 p2
  have fr : ∀ {I1 : Nat → Int} {A1 : Nat → Int → Int} {x : Int}, RU ar x I A N I1 A1 N → A1 50 = A 50 ∧ A1 51 = A 51 := fun X => ⟨X.1.2.2.2.2 50 (by decide) (by decide) (by decide) (by decide) (by decide) (by decide) (by unfold GC; omega), X.1.2.2.2.2 51 (by decide) (by decide) (by decide) (by decide) (by decide) (by decide) (by unfold GC; omega)⟩
  have fin : ∀ (k : Int) (I1 : Nat → Int) (A1 : Nat → Int → Int) (C S V : Int) (y4 y5 : Option Value), k = A 51 c → RU ar (k * (2 * uw A m (A 2 (A 2 o))) + C) I A N I1 A1 N → DR ar k S V I1 A1 → (0 ≤ C ∧ C ≤ 2 * (SG (TZ A ar) (fun q => A 50 (30 * c + q)) k.toNat - k)) → ((e2 ∨ (e0 ∧ ∀ q : Int, 0 ≤ q → q < A 51 c → NT A wq (A 50 (30 * c + q)) = 0)) → C = 0 ∧ S = SG (TZ A ar) (fun q => A 50 (30 * c + q)) k.toNat) → (e1 → V = 0) → (DIT [] I A N → DIT (itI (sp_in (VsL A N (A 2 (A 2 o)) m) (OsL A N (A 2 (A 2 o)) m)) A N c k) I1 A1 N) → xx_go (xt_P z) (d + 8) 160 2 [some (.ref h.length), some (.int (iI o)), some (.int (iI c)), some (.int (iI k)), y4, y5] [] (mh h R I1 A1 N) (fun v h1 => v = some (.int (iI 1)) ∧ ∃ (I1 : Nat → Int) (A1 : Nat → Int → Int) (C S V : Int), h1 = mh h R I1 A1 N ∧ RU ar (A 51 c * (2 * uw A m (A 2 (A 2 o))) + C) I A N I1 A1 N ∧ DR ar (A 51 c) S V I1 A1 ∧ (0 ≤ C ∧ C ≤ 2 * (SG (TZ A ar) (fun q => A 50 (30 * c + q)) (A 51 c).toNat - A 51 c)) ∧ ((e2 ∨ (e0 ∧ ∀ q : Int, 0 ≤ q → q < A 51 c → NT A wq (A 50 (30 * c + q)) = 0)) → C = 0 ∧ S = SG (TZ A ar) (fun q => A 50 (30 * c + q)) (A 51 c).toNat) ∧ (e1 → V = 0) ∧ (DIT [] I A N → DIT (itI (sp_in (VsL A N (A 2 (A 2 o)) m) (OsL A N (A 2 (A 2 o)) m)) A N c (A 51 c)) I1 A1 N)) := by
    intro k I1 A1 C S V y4 y5 ek X D hC1 hI hV hJ
    subst ek
    have e51 := (fr X).2
    rw [← e51] at hc1
    refine go_a (pc' := 3) (ls' := [some (.ref h.length), some (.int (iI o)), some (.int (iI c)), some (.int (iI (A 51 c))), y4, y5]) (st' := [.int (iI (A 51 c))]) rfl rfl ?_
    refine go_a (pc' := 4) (ls' := [some (.ref h.length), some (.int (iI o)), some (.int (iI c)), some (.int (iI (A 51 c))), y4, y5]) (st' := [.ref h.length, .int (iI (A 51 c))]) rfl rfl ?_
    refine go_get rfl mh_o rfl rfl ?_
    refine go_a (pc' := 8) (ls' := [some (.ref h.length), some (.int (iI o)), some (.int (iI c)), some (.int (iI (A 51 c))), y4, y5]) (st' := [.int (iI c), .ref (h.length + 51), .int (iI (A 51 c))]) rfl rfl ?_
    refine mi_ild rfl mh_a51 (by omega) (by omega) (by decide) ?_
    refine mi_ge (t := 132) rfl rfl (by rw [e51] at hc1; omega) (by rw [e51] at hc1; omega) (by omega) (by omega) (fun _ => ?_) (fun q => absurd (show A1 51 c ≤ A 51 c by rw [e51]; exact Int.le_refl _) q)
    refine go_a (pc' := 133) (ls' := [some (.ref h.length), some (.int (iI o)), some (.int (iI c)), some (.int (iI (A 51 c))), y4, y5]) (st' := [.int (iI 1)]) rfl rfl ?_
    exact go_r rfl rfl rfl rfl rfl rfl ⟨rfl, I1, A1, C, S, V, rfl, X, D, hC1, hI, hV, hJ⟩
  intro n
  induction n with
  | zero =>
    intro k I1 A1 C S V y4 y5 hn h0 hk X D hC1 hI hV hJ
    exact fin k I1 A1 C S V y4 y5 (by omega) X D hC1 hI hV hJ
  | succ n ih =>
    intro k I1 A1 C S V y4 y5 hn h0 hk X D hC1 hI hV hJ
    by_cases e : k = A 51 c
    · exact fin k I1 A1 C S V y4 y5 e X D hC1 hI hV hJ
    have e50 := (fr X).1
    have e51 := (fr X).2
    have x7 := X.1.2.1
    have P1 := RU_P X
    have i9 := P1.1
    have c7 := X.2.2.1
    have e51c : A1 51 c = A 51 c := by rw [e51]
    have h0k := h0
    have ck := hC.2.1 k h0 (by omega)
    have sk : SG (TZ A ar) (fun q => A 50 (30 * c + q)) (k + 1).toNat = SG (TZ A ar) (fun q => A 50 (30 * c + q)) k.toNat + TZ A ar (A 50 (30 * c + k)) := by
      rw [SG_pop (by omega : 0 < k + 1), show k + 1 - 1 = k by omega]
    have sm : SG (TZ A ar) (fun q => A 50 (30 * c + q)) (k + 1).toNat ≤ SG (TZ A ar) (fun q => A 50 (30 * c + q)) (A 51 c).toNat := SG_mono (fun e e0 e1 => by have := (hC.2.1 e e0 e1).2.1; show 0 ≤ TZ A ar (A 50 (30 * c + e)); omega) (by omega) (by omega)
    have km : (k + 1) * (2 * uw A m (A 2 (A 2 o))) ≤ A 51 c * (2 * uw A m (A 2 (A 2 o))) := Int.mul_le_mul_of_nonneg_right (by omega) (by omega)
    have ke : (k + 1) * (2 * uw A m (A 2 (A 2 o))) = k * (2 * uw A m (A 2 (A 2 o))) + 2 * uw A m (A 2 (A 2 o)) := by rw [Int.add_mul, Int.one_mul]
    have hx : ∀ k : Int, 0 ≤ k → k < I 7 → A1 1 k = A 1 k ∧ A1 2 k = A 2 k := fun k a b => ⟨(X.1.2.2.1 k a b).1, (X.1.2.2.1 k a b).2.1⟩
    have g1 := hx o k0 k1
    have g2 := hx (A 2 o) (by omega) (by omega)
    have L1 := isL_extB hP X.1 m (A 2 (A 2 o)) q2.2.2.1 (by omega) hL
    have it : ∀ j : Nat, j < m → (0 ≤ A 1 (rt A j (A 2 (A 2 o))) ∧ A 1 (rt A j (A 2 (A 2 o))) < I 7) ∧ (0 ≤ A 2 (A 1 (rt A j (A 2 (A 2 o)))) ∧ A 2 (A 1 (rt A j (A 2 (A 2 o)))) < I 7) ∧ (0 ≤ A 1 (A 2 (A 1 (rt A j (A 2 (A 2 o))))) ∧ A 1 (A 2 (A 1 (rt A j (A 2 (A 2 o))))) < I 7) ∧ A1 1 (rt A1 j (A 2 (A 2 o))) = A 1 (rt A j (A 2 (A 2 o))) := by
      intro j hj
      have b := (VD_rt hP q2.2.2.1 (by omega) hL hj).2.1
      have p := (hQ j hj).1
      have r := hP.2 _ b.1 b.2
      have r2 := r.2.2.2.2 p.1
      have p3 : 0 ≤ A 1 (A 2 (A 1 (rt A j (A 2 (A 2 o))))) := p.2.1
      have r3 := hP.2 _ (by omega : 0 ≤ A 2 (A 1 (rt A j (A 2 (A 2 o))))) (by omega)
      exact ⟨b, ⟨by omega, by omega⟩, ⟨p3, by omega⟩, it_BX hP X.1 q2.2.2.1 (by omega) hL hj⟩
    have uwe : ∀ j : Nat, j ≤ m → uw A1 j (A 2 (A 2 o)) = uw A j (A 2 (A 2 o)) := fun j hj => uw_BX hP X.1 q2.2.2.1 (by omega) hL (fun j hj => (hQ j hj).1) j hj
    have vdl := (WD_BX hP X.1 q2.2.2.1 (by omega : (A 2 (A 2 o)) < I 7)).2
    refine go_a (pc' := 3) (ls' := [some (.ref h.length), some (.int (iI o)), some (.int (iI c)), some (.int (iI k)), y4, y5]) (st' := [.int (iI k)]) rfl rfl ?_
    refine go_a (pc' := 4) (ls' := [some (.ref h.length), some (.int (iI o)), some (.int (iI c)), some (.int (iI k)), y4, y5]) (st' := [.ref h.length, .int (iI k)]) rfl rfl ?_
    refine go_get rfl mh_o rfl rfl ?_
    refine go_a (pc' := 8) (ls' := [some (.ref h.length), some (.int (iI o)), some (.int (iI c)), some (.int (iI k)), y4, y5]) (st' := [.int (iI c), .ref (h.length + 51), .int (iI k)]) rfl rfl ?_
    refine mi_ild rfl mh_a51 (by omega) (by omega) (by decide) ?_
    refine mi_ge (t := 132) rfl rfl (by omega) (by omega) (by omega) (by omega) (fun q => absurd q (by omega)) (fun _ => ?_)
    refine go_a (pc' := 13) (ls' := [some (.ref h.length), some (.int (iI o)), some (.int (iI c)), some (.int (iI k)), y4, y5]) (st' := [.ref h.length]) rfl rfl ?_
    refine go_a (pc' := 14) (ls' := [some (.ref h.length), some (.int (iI o)), some (.int (iI c)), some (.int (iI k)), y4, y5]) (st' := [.int (iI 0), .ref h.length]) rfl rfl ?_
    refine go_put (j := 59) rfl mh_o rfl rfl (show 12 ≤ _ from hc) (show 59 < 86 by decide) rfl rfl ?_
    rw [mh_p59]
    refine go_a (pc' := 18) (ls' := [some (.ref h.length), some (.int (iI o)), some (.int (iI c)), some (.int (iI k)), y4, y5]) (st' := [.ref h.length]) rfl rfl ?_
    refine go_get rfl mh_o rfl rfl ?_
    refine go_a (pc' := 22) (ls' := [some (.ref h.length), some (.int (iI o)), some (.int (iI c)), some (.int (iI k)), y4, y5]) (st' := [.ref h.length, .ref (h.length + 2)]) rfl rfl ?_
    refine go_get rfl mh_o rfl rfl ?_
    refine go_a (pc' := 26) (ls' := [some (.ref h.length), some (.int (iI o)), some (.int (iI c)), some (.int (iI k)), y4, y5]) (st' := [.int (iI o), .ref (h.length + 2), .ref (h.length + 2)]) rfl rfl ?_
    refine mi_ild rfl mh_a2 (by omega) (by omega) (by decide) ?_
    refine mi_ild rfl mh_a2 (by omega) (by omega) (by decide) ?_
    rw [g1.2, g2.2]
    refine go_a (pc' := 30) (ls' := [some (.ref h.length), some (.int (iI o)), some (.int (iI c)), some (.int (iI k)), some (.int (iI (A 2 (A 2 o)))), y5]) (st' := []) rfl rfl ?_
    have B2 : BX (fun j => j = 59) NO I1 A1 N (su I1 59 0) A1 N := BX_of X.2.1.1.1 (fun j q => su_ne q) (fun a _ => rfl) rfl rfl rfl rfl rfl rfl rfl rfl rfl rfl
    have R2 : RU ar 0 I1 A1 N (su I1 59 0) A1 N := RU_of X.2.1 B2 (fun j q => by subst q; unfold FC; omega) (fun a q => absurd q (fun z => z)) (SZI_124 (I := I1) (I1 := su I1 59 0) (A := A1) (A1 := A1) X.2.1.1.2.2 rfl rfl rfl rfl) rfl rfl X.2.1.2.2.2.2 (show I1 7 ≤ I1 7 + 0 by omega) (fun _ => rfl)
    have D2 : DR ar k S V (su I1 59 0) A1 := DR_BX P1 D B2 (by decide) (fun z => z) (fun q => q)
    refine mm_ins_pairs z d m ar (A 2 (A 2 o)) o c k h R (su I1 59 0) A1 N hc R2.2.1 q2.2.2.1 (show _ < I1 7 by omega) L1 (fun j hj => by rw [(it j hj).2.2.2]; exact PQ_BX hP X.1 (it j hj).1.1 (it j hj).1.2 (hQ j hj)) m4 (by rw [vdl]; exact w) (fun j hj => by rw [uwe j hj, uwe m (Nat.le_refl _)]; exact hu j hj) (by show I1 7 + _ + 2 ≤ _; rw [uwe m (Nat.le_refl _)]; omega) _ ?_ m 0 (su I1 59 0) A1 _ (by omega) (by omega) (RU_rf R2.2.1 (by show 0 ≤ 2 * 0; decide)) (fun _ _ _ q => q) ⟨rfl, rfl, rfl⟩ rfl (fun q q0 q1 => absurd q1 (by omega))
    intro I3 A3 y6 X3 D3 e93 e59 S3
    rw [uwe m (Nat.le_refl _)] at X3
    have P3 := RU_P X3
    have i93 := P3.1
    have x73 := X3.1.2.1
    have x73 : I1 7 ≤ I3 7 := x73
    have c73 := X3.2.2.1
    have c73 : I3 7 ≤ I1 7 + 2 * uw A m (A 2 (A 2 o)) := c73
    have X13 := RU_tr (e := 2 * uw A m (A 2 (A 2 o))) R2 X3 (by omega)
    have X03 := RU_tr (e := k * (2 * uw A m (A 2 (A 2 o))) + C + 2 * uw A m (A 2 (A 2 o))) X X13 (by omega)
    have f50 : A3 50 (30 * c + k) = A 50 (30 * c + k) := by rw [(fr X03).1]
    have hx3 : ∀ k : Int, 0 ≤ k → k < I 7 → A3 1 k = A 1 k ∧ A3 2 k = A 2 k := fun k a b => ⟨(X03.1.2.2.1 k a b).1, (X03.1.2.2.1 k a b).2.1⟩
    have tk := RU_t hP X03 ck.1.1 ck.1.2 ck.2.1
    have hR : PR ar I3 A3 := by
      refine ⟨by omega, fun q q0 q1 => ?_⟩
      have s := S3 q q0 (by omega)
      have b := it q.toNat (by omega)
      have r := hP.2 _ b.1.1 b.1.2
      have vv := (hQ q.toNat (by omega)).2.1
      rw [b.2.2.2, (hx _ b.1.1 b.1.2).1] at s
      exact ⟨⟨by omega, by omega⟩, s.2.1, s.2.2.1⟩
    have sq : ∀ q : Int, 0 ≤ q → q < I3 59 → A3 33 q = A 1 (A 1 (rt A q.toNat (A 2 (A 2 o)))) ∧ NFT A3 (A 1 (A 2 (A 1 (rt A q.toNat (A 2 (A 2 o)))))) (A3 34 q) ∧ (0 ≤ A3 34 q ∧ A3 34 q < I3 7) := by
      intro q q0 q1
      have s := S3 q q0 (by omega)
      have b := it q.toNat (by omega)
      rw [b.2.2.2, (hx _ b.1.1 b.1.2).1, (hx _ b.1.1 b.1.2).2, (hx _ b.2.1.1 b.2.1.2).1] at s
      exact ⟨s.1, s.2.2.2, s.2.1⟩
    have hPC : PC e0 e1 e2 I3 A3 := by
      refine ⟨fun a q q0 q1 => ?_, fun a q q0 q1 => ?_, fun a => ⟨?_, fun q q0 q1 => ?_⟩⟩
      · have s := sq q q0 q1
        have b := it q.toNat (by omega)
        have vv := (hQ q.toNat (by omega)).2.1
        rw [H2 a q.toNat (by omega)] at s
        have r := hP.2 _ b.1.1 b.1.2
        have at3 : A3 1 (A 1 (A 1 (rt A q.toNat (A 2 (A 2 o))))) < 0 := by
          rw [(hx3 _ (by omega) (by omega)).1, vv.1]
          decide
        rw [s.1]
        exact (NFT_atom at3).mp s.2.1
      · rw [(sq q q0 q1).1]
        exact H0 a q.toNat (by omega)
      · obtain ⟨⟨j, jm, ej⟩, -⟩ := H1 a
        refine ⟨(j : Int), ⟨by omega, by omega⟩, ?_⟩
        rw [(sq j (by omega) (by omega)).1]
        exact ej
      · have s := sq q q0 q1
        have b := it q.toNat (by omega)
        have hh := (H1 a).2 q.toNat (by omega)
        exact QF P3 X03.2.1.1.2.1 b.2.2.1.1 (by omega) s.2.2.1 s.2.2.2 (by rw [(WD_BX hP X03.1 b.2.2.1.1 b.2.2.1.2).1]; exact hh.1) hh.2 s.2.1
    have T1 : TRX I1 A1 N := TRX_BX hB.1.1 hB.1.2.1 hT X.1 (by unfold FC; omega) (by unfold GC; omega) (by unfold GC; omega)
    have T3 : TRX I3 A3 N := TRX_BX hB.1.1 hB.1.2.1 hT X03.1 (by unfold FC; omega) (by unfold GC; omega) (by unfold GC; omega)
    have dd : ∀ x : Int, 0 ≤ x → x < I 7 → DM A3 N x = DM A N x := fun x x0 x1 => DM_BX hB.1.1 hT X03.1 (by unfold FC; omega) (by unfold GC; omega) (by unfold GC; omega) x0 x1
    have hPU : PCU (-1) (-1) e0 e1 e2 (sp_in (VsL A N (A 2 (A 2 o)) m) (OsL A N (A 2 (A 2 o)) m)) N I3 A3 := by
      refine ⟨T3, hPC, Or.inl ⟨rfl, _, _, rfl, ?_, fun q hq => ?_⟩, fun q => absurd q (by decide)⟩
      · unfold VsL
        rw [List.length_map, List.length_range]
        exact e59.symm
      · have hq : q < m := by
          unfold VsL at hq
          rw [List.length_map, List.length_range] at hq
          exact hq
        have s := sq q (by omega) (by omega)
        rw [Int.toNat_natCast] at s
        have b := it q hq
        have vv := (hQ q hq).2.1
        have tq := (hQ q hq).2.2
        have r := hP.2 _ b.1.1 b.1.2
        have d1 := dd (A 1 (A 1 (rt A q (A 2 (A 2 o))))) (by omega) (by omega)
        have nf := (NF_sp (ar := ar) X03.2.1.1.1 X03.2.1.1.2.1 T3 _ _ _ (Nat.lt_succ_self _) b.2.2.1.1 (by omega) s.2.2.1 s.2.2.2).1 s.2.1 (by rw [TS_BX hP X03.1 b.2.2.1.1 b.2.2.1.2]; exact tq.1)
        rw [dd _ b.2.2.1.1 b.2.2.1.2] at nf
        refine ⟨⟨by rw [s.1]; omega, by rw [s.1]; omega⟩, s.2.2, ⟨sp_hc (DM A N (A 1 (A 1 (rt A q (A 2 (A 2 o)))))), ?_, ?_⟩, ?_⟩
        · unfold VsL
          rw [List.getElem?_map, List.getElem?_range hq]
          rfl
        · rw [s.1, d1, DM_s vv.1]
          rfl
        · unfold OsL
          rw [List.getElem?_map, List.getElem?_range hq, nf]
          rfl
    have D03 := D3 k S V D2
    have z54 := X03.2.1.2.2.2.1
    refine go_a (pc' := 108) (ls' := [some (.ref h.length), some (.int (iI o)), some (.int (iI c)), some (.int (iI k)), some (.int (iI 0)), y6]) (st' := [.ref h.length]) rfl rfl ?_
    refine go_a (pc' := 109) (ls' := [some (.ref h.length), some (.int (iI o)), some (.int (iI c)), some (.int (iI k)), some (.int (iI 0)), y6]) (st' := [.ref h.length, .ref h.length]) rfl rfl ?_
    refine go_a (pc' := 110) (ls' := [some (.ref h.length), some (.int (iI o)), some (.int (iI c)), some (.int (iI k)), some (.int (iI 0)), y6]) (st' := [.ref h.length, .ref h.length, .ref h.length]) rfl rfl ?_
    refine go_get rfl mh_o rfl rfl ?_
    refine go_a (pc' := 115) (ls' := [some (.ref h.length), some (.int (iI o)), some (.int (iI c)), some (.int (iI k)), some (.int (iI 0)), y6]) (st' := [.int (iI 30), .ref (h.length + 50), .ref h.length, .ref h.length]) rfl rfl ?_
    refine go_a (pc' := 116) (ls' := [some (.ref h.length), some (.int (iI o)), some (.int (iI c)), some (.int (iI k)), some (.int (iI 0)), y6]) (st' := [.int (iI c), .int (iI 30), .ref (h.length + 50), .ref h.length, .ref h.length]) rfl rfl ?_
    refine mi_mul rfl ?_
    refine go_a (pc' := 118) (ls' := [some (.ref h.length), some (.int (iI o)), some (.int (iI c)), some (.int (iI k)), some (.int (iI 0)), y6]) (st' := [.int (iI k), .int (iI (30 * c)), .ref (h.length + 50), .ref h.length, .ref h.length]) rfl rfl ?_
    refine mi_add rfl ?_
    refine mi_ild rfl mh_a50 (by omega) (by omega) (by decide) ?_
    rw [f50]
    show xx_go (xt_P z) (d + 8) 160 120 [some (.ref h.length), some (.int (iI o)), some (.int (iI c)), some (.int (iI k)), some (.int (iI 0)), y6] [.int (iI (A 50 (30 * c + k))), .ref h.length, .ref h.length] (mh h R I3 A3 N) _
    refine go_v (m := 161) (as := [.ref h.length, .int (iI (A 50 (30 * c + k)))]) (r := [.ref h.length]) rfl rfl rfl mh_o rfl rfl (mm_instanceR z d ar e0 e1 e2 (sp_in (VsL A N (A 2 (A 2 o)) m) (OsL A N (A 2 (A 2 o)) m)) (A 50 (30 * c + k)) h R I3 A3 N hc X03.2.1.1.1 X03.2.1.1.2.1 X03.2.1.1.2.2 hR ck.1.1 (by omega) (by rw [tk]; exact ck.2.1) hPU (by omega) (by omega) (by omega) (by omega) (by omega) X03.2.1.2.2.2.2.1 X03.2.1.2.2.2.2.2) (fun v h1 hq => ?_)
    obtain ⟨t, I4, A4, rfl, rfl, MKt, RQU, nw, cv9⟩ := hq
    have RQ := RQU.1
    have T4 : TRX I4 A4 N := TRX_BX X03.2.1.1.1 X03.2.1.1.2.1 T3 MKt.1 (by unfold FW; omega) (by unfold GB; omega) (by unfold GB; omega)
    have dt9 := RQU.2
    rw [DM_BX X03.2.1.1.1 T3 MKt.1 (by unfold FW; omega) (by unfold GB; omega) (by unfold GB; omega) ck.1.1 (by omega), dd _ ck.1.1 ck.1.2] at dt9
    have r4 := RU_MK X03.2.1 MKt
    have n4 : NT A3 wq (A 50 (30 * c + k)) = NT A wq (A 50 (30 * c + k)) := NT_BX hP X03.1 ck.1.1 ck.1.2
    have n5 : NT A4 wq (A 50 (30 * c + k)) = NT A3 wq (A 50 (30 * c + k)) := NT_BX P3 r4.1.1 ck.1.1 (by omega)
    show xx_go (xt_P z) (d + 8) 160 123 [some (.ref h.length), some (.int (iI o)), some (.int (iI c)), some (.int (iI k)), some (.int (iI 0)), y6] [.int (iI t), .ref h.length] (mh h R I4 A4 N) _
    refine go_v (m := 155) (as := [.ref h.length, .int (iI t)]) (r := []) rfl rfl rfl mh_o rfl rfl (mr_put z (d + 7) ar k S V t h R I4 A4 N hc r4.1.2.1 T4 (r4.2.1 k S V D03) (by omega) r4.2.2.1.1.1 r4.2.2.1.1.2 r4.2.2.1.2 r4.2.2.2) (fun v h1 hq => ?_)
    obtain ⟨rfl, I5, A5, rfl, R5, D5, e95, e75, ip⟩ := hq
    show xx_go (xt_P z) (d + 8) 160 126 [some (.ref h.length), some (.int (iI o)), some (.int (iI c)), some (.int (iI k)), some (.int (iI 0)), y6] [] (mh h R I5 A5 N) _
    refine go_a (pc' := 129) (ls' := [some (.ref h.length), some (.int (iI o)), some (.int (iI c)), some (.int (iI (k + 1))), some (.int (iI 0)), y6]) (st' := []) rfl (by rw [← iI_add k 1]; rfl) ?_
    refine go_a (pc' := 2) (ls' := [some (.ref h.length), some (.int (iI o)), some (.int (iI c)), some (.int (iI (k + 1))), some (.int (iI 0)), y6]) (st' := []) rfl rfl ?_
    rw [tk] at r4
    have c4 := r4.1.2.2.1
    have id1 : (e2 ∨ (e0 ∧ ∀ q : Int, 0 ≤ q → q < A 51 c → NT A wq (A 50 (30 * c + q)) = 0)) → I4 7 = I3 7 ∧ t = A 50 (30 * c + k) := by
      intro a
      have tq : t = A 50 (30 * c + k) := RQ.1 (by
        rcases a with a | a
        · exact Or.inl a
        · exact Or.inr ⟨a.1, by rw [n5, n4]; exact a.2 k h0 (by omega)⟩)
      rcases nw with q | q
      · exact ⟨q, tq⟩
      · omega
    have t4 : (e2 ∨ (e0 ∧ ∀ q : Int, 0 ≤ q → q < A 51 c → NT A wq (A 50 (30 * c + q)) = 0)) → TZ A4 ar t = TZ A ar (A 50 (30 * c + k)) := fun a => by
      rw [(id1 a).2, RU_t P3 r4.1 ck.1.1 (by omega) (by rw [tk]; exact ck.2.1), tk]
    have fin4 : RU ar ((k + 1) * (2 * uw A m (A 2 (A 2 o))) + (C + (I4 7 - I3 7))) I A N I5 A5 N := by
      refine ⟨BX_tr (BX_tr X03.1 r4.1.1) R5.1, R5.2.1, ?_, ?_⟩
      · have := X03.2.2.1
        rw [ke, e75]
        omega
      · exact (RU_tr (RU_tr X03 r4.1 (Int.le_refl _)) R5 (Int.le_refl _)).2.2.2
    have i47 := r4.1.1.2.1
    have hJ5 : DIT [] I A N → DIT (itI (sp_in (VsL A N (A 2 (A 2 o)) m) (OsL A N (A 2 (A 2 o)) m)) A N c (k + 1)) I5 A5 N := fun h0 => by
      have h1 := hJ h0
      have h2 := DIT_rows X.2.1 T1 D X13.1 (by unfold FC; omega) (by unfold GC; omega) (by unfold GC; omega) e93.2.2 e93.2.1 e93.1 h1
      have sz := TZ_1 (ar := ar) MKt.1.1 (NM_BX X03.2.1.1.2.1 MKt.1) T4 r4.2.2.1.1.1 r4.2.2.1.1.2 r4.2.2.1.2
      rw [dt9] at sz
      have h3 := DIM_made X03.2.1 T3 D03 MKt.1 (by unfold FW; omega) (by unfold GB; omega) (by unfold GB; omega) (by unfold FW; omega) (by unfold GB; omega) MKt.2.2.2.2.2.1.2.1 r4.2.2.2 cv9 dt9 sz h2
      rw [itI_s h0k]
      exact ip _ _ h3
    refine ih (k + 1) I5 A5 (C + (I4 7 - I3 7)) (S + TZ A4 ar t) (V + NT A4 wq t) _ _ (by omega) (by omega) (by omega) fin4 D5 ⟨by omega, by omega⟩ (fun a => ⟨?_, ?_⟩) (fun a => ?_) hJ5
    · rw [(hI a).1, (id1 a).1]
      omega
    · rw [(hI a).2, t4 a, sk]
    · rw [hV a, RQ.2 a]
      rfl
theorem mm_instanced (z : Value) (d m : Nat) (ar : Int → Int) (e0 e1 e2 : Prop) (o c : Int) (h R : xx_H) (I : Nat → Int) (A : Nat → Int → Int) (N : Int → Int) (hc : 12 ≤ h.length) (hB : BI ar I A N) (hT : TRX I A N) (k0 : 0 ≤ o) (k1 : o < I 7) (p1 : 0 ≤ A 1 o) (p2 : 0 ≤ A 1 (A 2 o)) (hL : isL A m (A 2 (A 2 o))) (hQ : ∀ j : Nat, j < m → PQ A ar (A 1 (rt A j (A 2 (A 2 o))))) (m4 : m ≤ 400) (w : VD A (A 2 (A 2 o)) ≤ 1000) (hu : ∀ j : Nat, j ≤ m → uw A j (A 2 (A 2 o)) ≤ uw A m (A 2 (A 2 o))) (c0 : 0 ≤ c) (c1 : c < 350) (hC : CLA ar I A c) (H2 : e2 → ∀ j : Nat, j < m → A 1 (A 2 (A 1 (rt A j (A 2 (A 2 o))))) = A 1 (A 1 (rt A j (A 2 (A 2 o))))) (H0 : e0 → ∀ j : Nat, j < m → A 1 (A 1 (rt A j (A 2 (A 2 o)))) = 2) (H1 : e1 → (∃ j : Nat, j < m ∧ A 1 (A 1 (rt A j (A 2 (A 2 o)))) = 2) ∧ ∀ j : Nat, j < m → WD A (A 1 (A 2 (A 1 (rt A j (A 2 (A 2 o)))))) ≤ 3 ∧ A 1 (A 2 (A 1 (rt A j (A 2 (A 2 o))))) ≠ 2) (ho : I 7 + A 51 c * (2 * uw A m (A 2 (A 2 o))) + 2 * SG (TZ A ar) (fun q => A 50 (30 * c + q)) (A 51 c).toNat + 6 ≤ 140000) (hD : DR ar 0 0 0 I A) : xx_cl (xt_P z) (d + 9) 160 [.ref h.length, .int (iI o), .int (iI c)] (mh h R I A N) (fun v h1 => v = some (.int (iI 1)) ∧ ∃ (I1 : Nat → Int) (A1 : Nat → Int → Int) (C S V : Int), h1 = mh h R I1 A1 N ∧ RU ar (A 51 c * (2 * uw A m (A 2 (A 2 o))) + C) I A N I1 A1 N ∧ DR ar (A 51 c) S V I1 A1 ∧ (0 ≤ C ∧ C ≤ 2 * (SG (TZ A ar) (fun q => A 50 (30 * c + q)) (A 51 c).toNat - A 51 c)) ∧ ((e2 ∨ (e0 ∧ ∀ q : Int, 0 ≤ q → q < A 51 c → NT A wq (A 50 (30 * c + q)) = 0)) → C = 0 ∧ S = SG (TZ A ar) (fun q => A 50 (30 * c + q)) (A 51 c).toNat) ∧ (e1 → V = 0) ∧ (DIT [] I A N → DIT (itI (sp_in (VsL A N (A 2 (A 2 o)) m) (OsL A N (A 2 (A 2 o)) m)) A N c (A 51 c)) I1 A1 N)) := by
  have hc1 := hC.1
  refine cl_go rfl ?_
  show xx_go (xt_P z) (d + 8) 160 0 [some (.ref h.length), some (.int (iI o)), some (.int (iI c)), none, none, none] [] (mh h R I A N) _
  refine go_a (pc' := 1) (ls' := [some (.ref h.length), some (.int (iI o)), some (.int (iI c)), none, none, none]) (st' := [.int (iI 0)]) rfl rfl ?_
  refine go_a (pc' := 2) (ls' := [some (.ref h.length), some (.int (iI o)), some (.int (iI c)), some (.int (iI 0)), none, none]) (st' := []) rfl rfl ?_
  exact mm_insted_loop z d m ar e0 e1 e2 o c h R I A N hc hB hT k0 k1 p1 p2 hL hQ m4 w hu c0 c1 hC H2 H0 H1 ho (A 51 c).toNat 0 I A 0 0 0 none none (by omega) (Int.le_refl _) hc1.1 (RU_rf hB (by rw [Int.zero_mul]; decide)) hD ⟨Int.le_refl _, (show (0 : Int) ≤ 2 * (0 - 0) by decide)⟩ (fun _ => ⟨rfl, rfl⟩) (fun _ => rfl) (fun q => q)

