theorem EQ_sides {ar : Int → Int} {I : Nat → Int} {A : Nat → Int → Int} {N : Int → Int} {k : Int} (hB : BI ar I A N) (h0 : 0 ≤ k) (h1 : k < I 7) (e : A 1 k = 4) (t : 1 ≤ TZ A ar k) : isL A 3 k ∧ ((0 ≤ A 1 (rt A 1 k) ∧ A 1 (rt A 1 k) < I 7) ∧ 1 ≤ TZ A ar (A 1 (rt A 1 k))) ∧ ((0 ≤ A 1 (rt A 2 k) ∧ A 1 (rt A 2 k) < I 7) ∧ 1 ≤ TZ A ar (A 1 (rt A 2 k))) ∧ TZ A ar k = 1 + TZ A ar (A 1 (rt A 1 k)) + TZ A ar (A 1 (rt A 2 k)) := by
  have hP := BI_P hB
  have n0 := BI_n0 hB
  have a4 : ar 4 = 2 := hB.2.1.1.1.2.1 4 (by decide) (by decide)
  have ta := TZ_args (ar := ar) hP n0 h0 h1 (by omega) (by omega) t
  rw [e, a4] at ta
  have l2 : isL A 2 (A 2 k) := ta.2.1
  have i0 := ta.2.2.2.2.2 0 (by decide)
  have i1 := ta.2.2.2.2.2 1 (by decide)
  have i0 : (0 ≤ A 1 (A 2 k) ∧ A 1 (A 2 k) < I 7) ∧ 1 ≤ TZ A ar (A 1 (A 2 k)) ∧ TZ A ar (A 1 (A 2 k)) ≤ LZ A ar (A 2 k) := i0
  have i1 : (0 ≤ A 1 (A 2 (A 2 k)) ∧ A 1 (A 2 (A 2 k)) < I 7) ∧ 1 ≤ TZ A ar (A 1 (A 2 (A 2 k))) ∧ TZ A ar (A 1 (A 2 (A 2 k))) ≤ LZ A ar (A 2 k) := i1
  have d1 := l2.1
  have d2 := l2.2.1
  have d3 : A 2 (A 2 (A 2 k)) = 0 := l2.2.2
  have q := hP.2 k h0 h1
  have q1 := hP.2 (A 2 k) ta.1.1 (by omega)
  have q12 := q1.2.2.2.2 d1
  have z1 : 0 < A 2 k := by omega
  have z2 : 0 < A 2 (A 2 k) := by
    by_cases c : A 2 (A 2 k) = 0
    · rw [c] at d2
      omega
    · omega
  have s1 := (LZ_pair (ar := ar) hP z1 (by omega) d1).1
  have s2 := (LZ_pair (ar := ar) hP z2 (by omega) d2).1
  have s3 := (LZ_0 (ar := ar) n0).1
  rw [d3, s3, if_pos ⟨i1.2.1, Int.le_refl _⟩] at s2
  rw [s2, if_pos ⟨i0.2.1, by omega⟩] at s1
  refine ⟨⟨by omega, l2⟩, ⟨i0.1, i0.2.1⟩, ⟨i1.1, i1.2.1⟩, ?_⟩
  have e1 : rt A 1 k = A 2 k := rfl
  have e2 : rt A 2 k = A 2 (A 2 k) := rfl
  rw [e1, e2]
  have := ta.2.2.2.2.1
  omega
def pol (A : Nat → Int → Int) (c b : Int) : List Int := (ixl (fun q => A 50 (30 * c + q)) (A 51 c)).filter (fun q => q != b)
theorem cf_napp : ∀ (r its : List (Option ob_T)), sp_cf [] its = none → sp_cf [] (its ++ r) = none
  | [], its, h => by rw [List.append_nil]; exact h
  | x :: r, its, h => by
    rw [show its ++ x :: r = (its ++ [x]) ++ r by rw [List.append_assoc]; rfl]
    exact cf_napp r (its ++ [x]) (cf_none h)
theorem cf_fold {I : Nat → Int} {A : Nat → Int → Int} {N : Int → Int} (hS : MST I A N) (hT : TRX I A N) : ∀ (M L : List Int) (its : List (Option ob_T)), (∀ y ∈ L, 0 ≤ y ∧ y < I 7) → (∀ y ∈ M, 0 ≤ y ∧ y < I 7) → sp_cf [] its = some (L.map (DM A N)) → sp_cf [] (its ++ M.map (fun x => some (DM A N x))) = some ((M.foldl pui L).map (DM A N))
  | [], L, its, _, _, h => by
    rw [List.map_nil, List.append_nil]
    exact h
  | x :: M, L, its, hL, hM, h => by
    have x0 := hM x (List.mem_cons_self)
    rw [List.map_cons, show its ++ some (DM A N x) :: M.map (fun x => some (DM A N x)) = (its ++ [some (DM A N x)]) ++ M.map (fun x => some (DM A N x)) by rw [List.append_assoc]; rfl]
    refine cf_fold hS hT M (pui L x) (its ++ [some (DM A N x)]) (fun y hy => ?_) (fun y hy => hM y (List.mem_cons_of_mem _ hy)) ?_
    · unfold pui at hy
      by_cases c : x ∈ L
      · rw [if_pos c] at hy
        exact hL y hy
      · rw [if_neg c] at hy
        rcases List.mem_append.mp hy with q | q
        · exact hL y q
        · rw [List.mem_singleton.mp q]
          exact x0
    · rw [map_pui hS hT hL x0.1 x0.2]
      exact cf_some h
theorem mr_pour (z : Value) (d : Nat) (ar : Int → Int) (m s v9 c b : Int) (h R : xx_H) (I : Nat → Int) (A : Nat → Int → Int) (N : Int → Int) (hc : 12 ≤ h.length) (hB : BI ar I A N) (hT : TRX I A N) (hD : DR ar m s v9 I A) (m1 : m + 30 ≤ 1200) (c0 : 0 ≤ c) (c1 : c < 350) (hC : CLA ar I A c) (b0 : -1 ≤ b) (b1 : b < 140000) : xx_cl (xt_P z) (d + 2) 158 [.ref h.length, .int (iI c), .int (iI b)] (mh h R I A N) (fun v h1 => v = none ∧ ∃ (I1 : Nat → Int) (A1 : Nat → Int → Int), h1 = mh h R I1 A1 N ∧ RU ar 0 I A N I1 A1 N ∧ (I1 49 = I 49 ∧ I1 7 = I 7 ∧ DX I A I1 A1) ∧ DR ar (m + A 51 c - PE A c b 1 (A 51 c)) (s + SG (TZ A ar) (fun q => A 50 (30 * c + q)) (A 51 c).toNat - PE A c b (TZ A ar (A 50 (30 * c))) (A 51 c)) (v9 + SG (NT A wq) (fun q => A 50 (30 * c + q)) (A 51 c).toNat) I1 A1 ∧ (∀ its : List (Option ob_T), DIT its I A N → DIT (its ++ (pol A c b).map (fun x => some (DM A N x))) I1 A1 N)) := by
  refine cl_w (fun v h1 q => ?_) (mm_pour z d ar m s v9 c b h R I A N hc (BI_P hB) hD m1 c0 c1 hC b0 b1 (BI_P hB).1)
  obtain ⟨rfl, I1, A1, rfl, X, D, J⟩ := q
  refine ⟨rfl, I1, A1, rfl, RU_DX hB X, ⟨X.1 49 (by decide), X.1 7 (by decide), X⟩, D, fun its h9 => ?_⟩
  unfold DIT
  rw [X.1 49 (by decide), J, DM_12 (A := A) (A1 := A1) (X.2 1 (by decide)) (X.2 2 (by decide)) (X.2 8 (by decide)) (X.2 9 (by decide))]
  rcases h9 with ⟨a, b9⟩ | ⟨a, b9⟩
  · refine Or.inl ⟨a, cf_fold hB.1.1 hT (pol A c b) (ixl (A 38) (I 67)) its (fun y hy => DR_in hD hy) (fun y hy => ?_) b9⟩
    obtain ⟨e, e0, e1, e2⟩ := ixl_mem.mp (List.mem_filter.mp hy).1
    rw [← e2]
    exact (hC.2.1 e e0 e1).1
  · exact Or.inr ⟨a, cf_napp _ its b9⟩
theorem mm_replaced_loop (z : Value) (d : Nat) (ar : Int → Int) (c : Int) (h R : xx_H) (I : Nat → Int) (A : Nat → Int → Int) (N : Int → Int) (hc : 12 ≤ h.length) (hB : BI ar I A N) (hT : TRX I A N) (c0 : 0 ≤ c) (c1 : c + 1 < 350) (hC : CLA ar I A c) (hC1 : CLA ar I A (c + 1)) (n1 : 0 < A 51 c) (e4 : A 1 (A 50 (30 * c)) = 4) (ho : I 7 + 2 * SG (TZ A ar) (fun q => A 50 (30 * (c + 1) + q)) (A 51 (c + 1)).toNat ≤ 140000) : ∀ (n : Nat) (k : Int) (I1 : Nat → Int) (A1 : Nat → Int → Int) (S V : Int), (A 51 (c + 1) - k).toNat ≤ n → 0 ≤ k → k ≤ A 51 (c + 1) → RU ar (2 * (SG (TZ A ar) (fun q => A 50 (30 * (c + 1) + q)) k.toNat - k)) I A N I1 A1 N → DR ar k S V I1 A1 → (DIT [] I A N → DIT (itI (sp_re (DM A N (A 1 (rt A 1 (A 50 (30 * c))))) (DM A N (A 1 (rt A 2 (A 50 (30 * c)))))) A N (c + 1) k) I1 A1 N) → xx_go (xt_P z) (d + 8) 166 43 [some (.ref h.length), some (.int (iI c)), some (.int (iI (A 1 (rt A 1 (A 50 (30 * c)))))), some (.int (iI (A 1 (rt A 2 (A 50 (30 * c)))))), some (.int (iI k))] [] (mh h R I1 A1 N) (fun v h1 => ∃ (b : Int) (I1 : Nat → Int) (A1 : Nat → Int → Int), v = some (.int (iI b)) ∧ h1 = mh h R I1 A1 N ∧ RU ar (2 * (SG (TZ A ar) (fun q => A 50 (30 * (c + 1) + q)) (A 51 (c + 1)).toNat - A 51 (c + 1))) I A N I1 A1 N ∧ ((b = 0 ∧ ¬ (0 < A 51 c ∧ A 1 (A 50 (30 * c)) = 4)) ∨ (b = 1 ∧ 0 < A 51 c ∧ A 1 (A 50 (30 * c)) = 4 ∧ (∃ S V : Int, DR ar (A 51 (c + 1) + A 51 c - 1) S V I1 A1) ∧ (DIT [] I A N → DIT (itI (sp_re (DM A N (A 1 (rt A 1 (A 50 (30 * c))))) (DM A N (A 1 (rt A 2 (A 50 (30 * c)))))) A N (c + 1) (A 51 (c + 1)) ++ (pol A c (A 50 (30 * c))).map (fun x => some (DM A N x))) I1 A1 N)))) := by
  have hP := BI_P hB
  have hc1 := hC.1
  have hc2 := hC1.1
  have cz := hC.2.1 0 (Int.le_refl _) n1
  rw [Int.add_zero] at cz
  have eq := EQ_sides hB cz.1.1 cz.1.2 e4 cz.2.1
  have fr : ∀ {I1 : Nat → Int} {A1 : Nat → Int → Int} {x : Int}, RU ar x I A N I1 A1 N → A1 50 = A 50 ∧ A1 51 = A 51 := fun X => ⟨X.1.2.2.2.2 50 (by decide) (by decide) (by decide) (by decide) (by decide) (by decide) (by unfold GC; omega), X.1.2.2.2.2 51 (by decide) (by decide) (by decide) (by decide) (by decide) (by decide) (by unfold GC; omega)⟩
  have fin : ∀ (k : Int) (I1 : Nat → Int) (A1 : Nat → Int → Int) (S V : Int), k = A 51 (c + 1) → RU ar (2 * (SG (TZ A ar) (fun q => A 50 (30 * (c + 1) + q)) k.toNat - k)) I A N I1 A1 N → DR ar k S V I1 A1 → (DIT [] I A N → DIT (itI (sp_re (DM A N (A 1 (rt A 1 (A 50 (30 * c))))) (DM A N (A 1 (rt A 2 (A 50 (30 * c)))))) A N (c + 1) k) I1 A1 N) → xx_go (xt_P z) (d + 8) 166 43 [some (.ref h.length), some (.int (iI c)), some (.int (iI (A 1 (rt A 1 (A 50 (30 * c)))))), some (.int (iI (A 1 (rt A 2 (A 50 (30 * c)))))), some (.int (iI k))] [] (mh h R I1 A1 N) (fun v h1 => ∃ (b : Int) (I1 : Nat → Int) (A1 : Nat → Int → Int), v = some (.int (iI b)) ∧ h1 = mh h R I1 A1 N ∧ RU ar (2 * (SG (TZ A ar) (fun q => A 50 (30 * (c + 1) + q)) (A 51 (c + 1)).toNat - A 51 (c + 1))) I A N I1 A1 N ∧ ((b = 0 ∧ ¬ (0 < A 51 c ∧ A 1 (A 50 (30 * c)) = 4)) ∨ (b = 1 ∧ 0 < A 51 c ∧ A 1 (A 50 (30 * c)) = 4 ∧ (∃ S V : Int, DR ar (A 51 (c + 1) + A 51 c - 1) S V I1 A1) ∧ (DIT [] I A N → DIT (itI (sp_re (DM A N (A 1 (rt A 1 (A 50 (30 * c))))) (DM A N (A 1 (rt A 2 (A 50 (30 * c)))))) A N (c + 1) (A 51 (c + 1)) ++ (pol A c (A 50 (30 * c))).map (fun x => some (DM A N x))) I1 A1 N)))) := by
    intro k I1 A1 S V ek X D hJ
    have e50 := (fr X).1
    have e51 := (fr X).2
    have e51c : A1 51 (c + 1) = A 51 (c + 1) := by rw [e51]
    have f50 : A1 50 (30 * c) = A 50 (30 * c) := by rw [e50]
    have x7 := X.1.2.1
    have i9 := (RU_P X).1
    refine go_a (pc' := 45) (ls' := [some (.ref h.length), some (.int (iI c)), some (.int (iI (A 1 (rt A 1 (A 50 (30 * c)))))), some (.int (iI (A 1 (rt A 2 (A 50 (30 * c)))))), some (.int (iI k))]) (st' := [.int (iI k)]) rfl rfl ?_
    refine go_a (pc' := 46) (ls' := [some (.ref h.length), some (.int (iI c)), some (.int (iI (A 1 (rt A 1 (A 50 (30 * c)))))), some (.int (iI (A 1 (rt A 2 (A 50 (30 * c)))))), some (.int (iI k))]) (st' := [.ref h.length, .int (iI k)]) rfl rfl ?_
    refine go_get rfl mh_o rfl rfl ?_
    refine go_a (pc' := 50) (ls' := [some (.ref h.length), some (.int (iI c)), some (.int (iI (A 1 (rt A 1 (A 50 (30 * c)))))), some (.int (iI (A 1 (rt A 2 (A 50 (30 * c)))))), some (.int (iI k))]) (st' := [.int (iI c), .ref (h.length + 51), .int (iI k)]) rfl rfl ?_
    refine go_a (pc' := 51) (ls' := [some (.ref h.length), some (.int (iI c)), some (.int (iI (A 1 (rt A 1 (A 50 (30 * c)))))), some (.int (iI (A 1 (rt A 2 (A 50 (30 * c)))))), some (.int (iI k))]) (st' := [.int (iI 1), .int (iI c), .ref (h.length + 51), .int (iI k)]) rfl rfl ?_
    refine mi_add rfl ?_
    refine mi_ild rfl mh_a51 (by omega) (by omega) (by decide) ?_
    refine mi_ge (t := 91) rfl rfl (by omega) (by omega) (by omega) (by omega) (fun _ => ?_) (fun q => absurd (show A1 51 (c + 1) ≤ k by omega) q)
    refine go_a (pc' := 92) (ls' := [some (.ref h.length), some (.int (iI c)), some (.int (iI (A 1 (rt A 1 (A 50 (30 * c)))))), some (.int (iI (A 1 (rt A 2 (A 50 (30 * c)))))), some (.int (iI k))]) (st' := [.ref h.length]) rfl rfl ?_
    refine go_a (pc' := 93) (ls' := [some (.ref h.length), some (.int (iI c)), some (.int (iI (A 1 (rt A 1 (A 50 (30 * c)))))), some (.int (iI (A 1 (rt A 2 (A 50 (30 * c)))))), some (.int (iI k))]) (st' := [.int (iI c), .ref h.length]) rfl rfl ?_
    refine go_a (pc' := 94) (ls' := [some (.ref h.length), some (.int (iI c)), some (.int (iI (A 1 (rt A 1 (A 50 (30 * c)))))), some (.int (iI (A 1 (rt A 2 (A 50 (30 * c)))))), some (.int (iI k))]) (st' := [.ref h.length, .int (iI c), .ref h.length]) rfl rfl ?_
    refine go_get rfl mh_o rfl rfl ?_
    refine go_a (pc' := 99) (ls' := [some (.ref h.length), some (.int (iI c)), some (.int (iI (A 1 (rt A 1 (A 50 (30 * c)))))), some (.int (iI (A 1 (rt A 2 (A 50 (30 * c)))))), some (.int (iI k))]) (st' := [.int (iI 30), .ref (h.length + 50), .int (iI c), .ref h.length]) rfl rfl ?_
    refine go_a (pc' := 100) (ls' := [some (.ref h.length), some (.int (iI c)), some (.int (iI (A 1 (rt A 1 (A 50 (30 * c)))))), some (.int (iI (A 1 (rt A 2 (A 50 (30 * c)))))), some (.int (iI k))]) (st' := [.int (iI c), .int (iI 30), .ref (h.length + 50), .int (iI c), .ref h.length]) rfl rfl ?_
    refine mi_mul rfl ?_
    refine mi_ild rfl mh_a50 (by omega) (by omega) (by decide) ?_
    rw [f50]
    show xx_go (xt_P z) (d + 8) 166 102 [some (.ref h.length), some (.int (iI c)), some (.int (iI (A 1 (rt A 1 (A 50 (30 * c)))))), some (.int (iI (A 1 (rt A 2 (A 50 (30 * c)))))), some (.int (iI k))] [.int (iI (A 50 (30 * c))), .int (iI c), .ref h.length] (mh h R I1 A1 N) _
    refine go_v (m := 158) (as := [.ref h.length, .int (iI c), .int (iI (A 50 (30 * c)))]) (r := []) rfl rfl rfl mh_o rfl rfl (mr_pour z (d + 6) ar k S V c (A 50 (30 * c)) h R I1 A1 N hc X.2.1 (TRX_BX hB.1.1 hB.1.2.1 hT X.1 (by unfold FC; omega) (by unfold GC; omega) (by unfold GC; omega)) D (by omega) c0 (by omega) (CLA_RU hP X hC) (by omega) (by omega)) (fun v h1 hq => ?_)
    obtain ⟨rfl, I2, A2, rfl, R2, -, D2, po⟩ := hq
    show xx_go (xt_P z) (d + 8) 166 105 [some (.ref h.length), some (.int (iI c)), some (.int (iI (A 1 (rt A 1 (A 50 (30 * c)))))), some (.int (iI (A 1 (rt A 2 (A 50 (30 * c)))))), some (.int (iI k))] [] (mh h R I2 A2 N) _
    refine go_a (pc' := 106) (ls' := [some (.ref h.length), some (.int (iI c)), some (.int (iI (A 1 (rt A 1 (A 50 (30 * c)))))), some (.int (iI (A 1 (rt A 2 (A 50 (30 * c)))))), some (.int (iI k))]) (st' := [.int (iI 1)]) rfl rfl ?_
    rw [show A1 51 c = A 51 c by rw [e51]] at D2
    have pe : PE A1 c (A 50 (30 * c)) 1 (A 51 c) = 1 := if_pos ⟨n1, f50⟩
    rw [pe, ek] at D2
    subst ek
    have FJ9 : DIT [] I A N → DIT (itI (sp_re (DM A N (A 1 (rt A 1 (A 50 (30 * c))))) (DM A N (A 1 (rt A 2 (A 50 (30 * c)))))) A N (c + 1) (A 51 (c + 1)) ++ (pol A c (A 50 (30 * c))).map (fun x => some (DM A N x))) I2 A2 N := fun h9 => by
      have h8 := po _ (hJ h9)
      rw [show pol A1 c (A 50 (30 * c)) = pol A c (A 50 (30 * c)) by unfold pol; rw [e50, e51]] at h8
      rw [show (pol A c (A 50 (30 * c))).map (fun x => some (DM A1 N x)) = (pol A c (A 50 (30 * c))).map (fun x => some (DM A N x)) from List.map_congr_left (fun y hy => ?_)] at h8
      · exact h8
      · obtain ⟨e, u0, u1, u2⟩ := ixl_mem.mp (List.mem_filter.mp hy).1
        have ce := hC.2.1 e u0 u1
        rw [← u2]
        exact congrArg some (DM_BX hB.1.1 hT X.1 (by unfold FC; omega) (by unfold GC; omega) (by unfold GC; omega) ce.1.1 ce.1.2)
    exact go_r rfl rfl rfl rfl rfl rfl ⟨1, I2, A2, rfl, rfl, RU_tr X R2 (by omega), Or.inr ⟨rfl, n1, e4, ⟨_, _, D2⟩, FJ9⟩⟩
  intro n
  induction n with
  | zero =>
    intro k I1 A1 S V hn h0 hk X D hJ
    exact fin k I1 A1 S V (by omega) X D hJ
  | succ n ih =>
    intro k I1 A1 S V hn h0 hk X D hJ
    by_cases e : k = A 51 (c + 1)
    · exact fin k I1 A1 S V e X D hJ
    have e50 := (fr X).1
    have e51 := (fr X).2
    have x7 := X.1.2.1
    have P1 := RU_P X
    have i9 := P1.1
    have c7 := X.2.2.1
    have e51c : A1 51 (c + 1) = A 51 (c + 1) := by rw [e51]
    have ck := hC1.2.1 k h0 (by omega)
    have sk : SG (TZ A ar) (fun q => A 50 (30 * (c + 1) + q)) (k + 1).toNat = SG (TZ A ar) (fun q => A 50 (30 * (c + 1) + q)) k.toNat + TZ A ar (A 50 (30 * (c + 1) + k)) := by
      rw [SG_pop (by omega : 0 < k + 1), show k + 1 - 1 = k by omega]
    have sm : SG (TZ A ar) (fun q => A 50 (30 * (c + 1) + q)) (k + 1).toNat ≤ SG (TZ A ar) (fun q => A 50 (30 * (c + 1) + q)) (A 51 (c + 1)).toNat := SG_mono (fun e e0 e1 => by have := (hC1.2.1 e e0 e1).2.1; show 0 ≤ TZ A ar (A 50 (30 * (c + 1) + e)); omega) (by omega) (by omega)
    have f50 : A1 50 (30 * (c + 1) + k) = A 50 (30 * (c + 1) + k) := by rw [e50]
    have tk := RU_t hP X ck.1.1 ck.1.2 ck.2.1
    have tb := RU_t hP X eq.2.2.1.1.1 eq.2.2.1.1.2 eq.2.2.1.2
    have ea := eq.2.1.1
    have eb := eq.2.2.1.1
    refine go_a (pc' := 45) (ls' := [some (.ref h.length), some (.int (iI c)), some (.int (iI (A 1 (rt A 1 (A 50 (30 * c)))))), some (.int (iI (A 1 (rt A 2 (A 50 (30 * c)))))), some (.int (iI k))]) (st' := [.int (iI k)]) rfl rfl ?_
    refine go_a (pc' := 46) (ls' := [some (.ref h.length), some (.int (iI c)), some (.int (iI (A 1 (rt A 1 (A 50 (30 * c)))))), some (.int (iI (A 1 (rt A 2 (A 50 (30 * c)))))), some (.int (iI k))]) (st' := [.ref h.length, .int (iI k)]) rfl rfl ?_
    refine go_get rfl mh_o rfl rfl ?_
    refine go_a (pc' := 50) (ls' := [some (.ref h.length), some (.int (iI c)), some (.int (iI (A 1 (rt A 1 (A 50 (30 * c)))))), some (.int (iI (A 1 (rt A 2 (A 50 (30 * c)))))), some (.int (iI k))]) (st' := [.int (iI c), .ref (h.length + 51), .int (iI k)]) rfl rfl ?_
    refine go_a (pc' := 51) (ls' := [some (.ref h.length), some (.int (iI c)), some (.int (iI (A 1 (rt A 1 (A 50 (30 * c)))))), some (.int (iI (A 1 (rt A 2 (A 50 (30 * c)))))), some (.int (iI k))]) (st' := [.int (iI 1), .int (iI c), .ref (h.length + 51), .int (iI k)]) rfl rfl ?_
    refine mi_add rfl ?_
    refine mi_ild rfl mh_a51 (by omega) (by omega) (by decide) ?_
    refine mi_ge (t := 91) rfl rfl (by omega) (by omega) (by omega) (by omega) (fun q => absurd q (by omega)) (fun _ => ?_)
    refine go_a (pc' := 57) (ls' := [some (.ref h.length), some (.int (iI c)), some (.int (iI (A 1 (rt A 1 (A 50 (30 * c)))))), some (.int (iI (A 1 (rt A 2 (A 50 (30 * c)))))), some (.int (iI k))]) (st' := [.ref h.length]) rfl rfl ?_
    refine go_a (pc' := 58) (ls' := [some (.ref h.length), some (.int (iI c)), some (.int (iI (A 1 (rt A 1 (A 50 (30 * c)))))), some (.int (iI (A 1 (rt A 2 (A 50 (30 * c)))))), some (.int (iI k))]) (st' := [.int (iI 0), .ref h.length]) rfl rfl ?_
    refine go_put (j := 59) rfl mh_o rfl rfl (show 12 ≤ _ from hc) (show 59 < 86 by decide) rfl rfl ?_
    rw [mh_p59]
    have B2 : BX (fun j => j = 59) NO I1 A1 N (su I1 59 0) A1 N := BX_of X.2.1.1.1 (fun j q => su_ne q) (fun a _ => rfl) rfl rfl rfl rfl rfl rfl rfl rfl rfl rfl
    have R2 : RU ar 0 I1 A1 N (su I1 59 0) A1 N := RU_of X.2.1 B2 (fun j q => by subst q; unfold FC; omega) (fun a q => absurd q (fun z => z)) (SZI_124 (I := I1) (I1 := su I1 59 0) (A := A1) (A1 := A1) X.2.1.1.2.2 rfl rfl rfl rfl) rfl rfl X.2.1.2.2.2.2 (show I1 7 ≤ I1 7 + 0 by omega) (fun _ => rfl)
    have D2 : DR ar k S V (su I1 59 0) A1 := DR_BX P1 D B2 (by decide) (fun z => z) (fun q => q)
    have z54 := X.2.1.2.2.2.1
    have T1 : TRX I1 A1 N := TRX_BX hB.1.1 hB.1.2.1 hT X.1 (by unfold FC; omega) (by unfold GC; omega) (by unfold GC; omega)
    have T2 : TRX (su I1 59 0) A1 N := TRX_12 T1 rfl rfl rfl rfl rfl
    have dd : ∀ x : Int, 0 ≤ x → x < I 7 → DM A1 N x = DM A N x := fun x x0 x1 => DM_BX hB.1.1 hT X.1 (by unfold FC; omega) (by unfold GC; omega) (by unfold GC; omega) x0 x1
    have hPU : PCU (A 1 (rt A 1 (A 50 (30 * c)))) (A 1 (rt A 2 (A 50 (30 * c)))) False False False (sp_re (DM A N (A 1 (rt A 1 (A 50 (30 * c))))) (DM A N (A 1 (rt A 2 (A 50 (30 * c)))))) N (su I1 59 0) A1 := by
      refine ⟨T2, ⟨fun q => q.elim, fun q => q.elim, fun q => q.elim⟩, Or.inr ⟨⟨ea.1, (show _ < I1 7 by omega)⟩, ⟨eb.1, (show _ < I1 7 by omega)⟩, ?_, rfl⟩, fun _ => ⟨id, id, id⟩⟩
      rw [dd _ ea.1 ea.2, dd _ eb.1 eb.2]
    refine go_a (pc' := 62) (ls' := [some (.ref h.length), some (.int (iI c)), some (.int (iI (A 1 (rt A 1 (A 50 (30 * c)))))), some (.int (iI (A 1 (rt A 2 (A 50 (30 * c)))))), some (.int (iI k))]) (st' := [.ref h.length]) rfl rfl ?_
    refine go_a (pc' := 63) (ls' := [some (.ref h.length), some (.int (iI c)), some (.int (iI (A 1 (rt A 1 (A 50 (30 * c)))))), some (.int (iI (A 1 (rt A 2 (A 50 (30 * c)))))), some (.int (iI k))]) (st' := [.ref h.length, .ref h.length]) rfl rfl ?_
    refine go_a (pc' := 64) (ls' := [some (.ref h.length), some (.int (iI c)), some (.int (iI (A 1 (rt A 1 (A 50 (30 * c)))))), some (.int (iI (A 1 (rt A 2 (A 50 (30 * c)))))), some (.int (iI k))]) (st' := [.ref h.length, .ref h.length, .ref h.length]) rfl rfl ?_
    refine go_get rfl mh_o rfl rfl ?_
    refine go_a (pc' := 69) (ls' := [some (.ref h.length), some (.int (iI c)), some (.int (iI (A 1 (rt A 1 (A 50 (30 * c)))))), some (.int (iI (A 1 (rt A 2 (A 50 (30 * c)))))), some (.int (iI k))]) (st' := [.int (iI 30), .ref (h.length + 50), .ref h.length, .ref h.length]) rfl rfl ?_
    refine go_a (pc' := 70) (ls' := [some (.ref h.length), some (.int (iI c)), some (.int (iI (A 1 (rt A 1 (A 50 (30 * c)))))), some (.int (iI (A 1 (rt A 2 (A 50 (30 * c)))))), some (.int (iI k))]) (st' := [.int (iI c), .int (iI 30), .ref (h.length + 50), .ref h.length, .ref h.length]) rfl rfl ?_
    refine go_a (pc' := 71) (ls' := [some (.ref h.length), some (.int (iI c)), some (.int (iI (A 1 (rt A 1 (A 50 (30 * c)))))), some (.int (iI (A 1 (rt A 2 (A 50 (30 * c)))))), some (.int (iI k))]) (st' := [.int (iI 1), .int (iI c), .int (iI 30), .ref (h.length + 50), .ref h.length, .ref h.length]) rfl rfl ?_
    refine mi_add rfl ?_
    refine mi_mul rfl ?_
    refine go_a (pc' := 75) (ls' := [some (.ref h.length), some (.int (iI c)), some (.int (iI (A 1 (rt A 1 (A 50 (30 * c)))))), some (.int (iI (A 1 (rt A 2 (A 50 (30 * c)))))), some (.int (iI k))]) (st' := [.int (iI k), .int (iI (30 * (c + 1))), .ref (h.length + 50), .ref h.length, .ref h.length]) rfl rfl ?_
    refine mi_add rfl ?_
    refine mi_ild rfl mh_a50 (by omega) (by omega) (by decide) ?_
    refine go_a (pc' := 78) (ls' := [some (.ref h.length), some (.int (iI c)), some (.int (iI (A 1 (rt A 1 (A 50 (30 * c)))))), some (.int (iI (A 1 (rt A 2 (A 50 (30 * c)))))), some (.int (iI k))]) (st' := [.int (iI (A 1 (rt A 1 (A 50 (30 * c))))), .int (iI (A1 50 ((30 * (c + 1)) + k))), .ref h.length, .ref h.length]) rfl rfl ?_
    refine go_a (pc' := 79) (ls' := [some (.ref h.length), some (.int (iI c)), some (.int (iI (A 1 (rt A 1 (A 50 (30 * c)))))), some (.int (iI (A 1 (rt A 2 (A 50 (30 * c)))))), some (.int (iI k))]) (st' := [.int (iI (A 1 (rt A 2 (A 50 (30 * c))))), .int (iI (A 1 (rt A 1 (A 50 (30 * c))))), .int (iI (A1 50 ((30 * (c + 1)) + k))), .ref h.length, .ref h.length]) rfl rfl ?_
    rw [f50]
    show xx_go (xt_P z) (d + 8) 166 79 [some (.ref h.length), some (.int (iI c)), some (.int (iI (A 1 (rt A 1 (A 50 (30 * c)))))), some (.int (iI (A 1 (rt A 2 (A 50 (30 * c)))))), some (.int (iI k))] [.int (iI (A 1 (rt A 2 (A 50 (30 * c))))), .int (iI (A 1 (rt A 1 (A 50 (30 * c))))), .int (iI (A 50 (30 * (c + 1) + k))), .ref h.length, .ref h.length] (mh h R (su I1 59 0) A1 N) _
    refine go_v (m := 162) (as := [.ref h.length, .int (iI (A 50 (30 * (c + 1) + k))), .int (iI (A 1 (rt A 1 (A 50 (30 * c))))), .int (iI (A 1 (rt A 2 (A 50 (30 * c)))))]) (r := [.ref h.length]) rfl rfl rfl mh_o rfl rfl (mm_anewR z (d + 1) ar False False False (sp_re (DM A N (A 1 (rt A 1 (A 50 (30 * c))))) (DM A N (A 1 (rt A 2 (A 50 (30 * c)))))) (A 50 (30 * (c + 1) + k)) (A 1 (rt A 1 (A 50 (30 * c)))) (A 1 (rt A 2 (A 50 (30 * c)))) h R (su I1 59 0) A1 N hc R2.2.1.1.1 R2.2.1.1.2.1 R2.2.1.1.2.2 ⟨⟨(show (0 : Int) ≤ 0 by decide), (show (0 : Int) ≤ 400 by decide)⟩, fun q q0 q1 => absurd (show q < 0 from q1) (by omega)⟩ ck.1.1 (show _ < I1 7 by omega) (by rw [tk]; exact ck.2.1) (by omega) (by omega) (by omega) (fun _ => ⟨⟨eb.1, (show _ < I1 7 by omega)⟩, by rw [tb]; exact eq.2.2.1.2⟩) hPU (show 0 ≤ I1 54 by omega) (show I1 54 + _ ≤ 1199 by omega) (show 0 ≤ I1 56 by omega) (show I1 56 + _ ≤ 2399 by omega) (show I1 7 + _ ≤ 140000 by omega) X.2.1.2.2.2.2.1 X.2.1.2.2.2.2.2) (fun v h1 hq => ?_)
    obtain ⟨t, I4, A4, rfl, rfl, MKt, RQU, nw, cv9⟩ := hq
    have T4 : TRX I4 A4 N := TRX_BX R2.2.1.1.1 R2.2.1.1.2.1 T2 MKt.1 (by unfold FW; omega) (by unfold GB; omega) (by unfold GB; omega)
    have dt9 := RQU.2
    rw [DM_BX R2.2.1.1.1 T2 MKt.1 (by unfold FW; omega) (by unfold GB; omega) (by unfold GB; omega) ck.1.1 (show _ < I1 7 by omega), dd _ ck.1.1 ck.1.2] at dt9
    have r4 := RU_MK R2.2.1 MKt
    show xx_go (xt_P z) (d + 8) 166 82 [some (.ref h.length), some (.int (iI c)), some (.int (iI (A 1 (rt A 1 (A 50 (30 * c)))))), some (.int (iI (A 1 (rt A 2 (A 50 (30 * c)))))), some (.int (iI k))] [.int (iI t), .ref h.length] (mh h R I4 A4 N) _
    refine go_v (m := 155) (as := [.ref h.length, .int (iI t)]) (r := []) rfl rfl rfl mh_o rfl rfl (mr_put z (d + 7) ar k S V t h R I4 A4 N hc r4.1.2.1 T4 (r4.2.1 k S V D2) (by omega) r4.2.2.1.1.1 r4.2.2.1.1.2 r4.2.2.1.2 r4.2.2.2) (fun v h1 hq => ?_)
    obtain ⟨rfl, I5, A5, rfl, R5, D5, e95, e75, ip⟩ := hq
    show xx_go (xt_P z) (d + 8) 166 85 [some (.ref h.length), some (.int (iI c)), some (.int (iI (A 1 (rt A 1 (A 50 (30 * c)))))), some (.int (iI (A 1 (rt A 2 (A 50 (30 * c)))))), some (.int (iI k))] [] (mh h R I5 A5 N) _
    refine go_a (pc' := 88) (ls' := [some (.ref h.length), some (.int (iI c)), some (.int (iI (A 1 (rt A 1 (A 50 (30 * c)))))), some (.int (iI (A 1 (rt A 2 (A 50 (30 * c)))))), some (.int (iI (k + 1)))]) (st' := []) rfl (by rw [← iI_add k 1]; rfl) ?_
    refine go_a (pc' := 43) (ls' := [some (.ref h.length), some (.int (iI c)), some (.int (iI (A 1 (rt A 1 (A 50 (30 * c)))))), some (.int (iI (A 1 (rt A 2 (A 50 (30 * c)))))), some (.int (iI (k + 1)))]) (st' := []) rfl rfl ?_
    have hJ5 : DIT [] I A N → DIT (itI (sp_re (DM A N (A 1 (rt A 1 (A 50 (30 * c))))) (DM A N (A 1 (rt A 2 (A 50 (30 * c)))))) A N (c + 1) (k + 1)) I5 A5 N := fun h9 => by
      have h2 : DIT (itI (sp_re (DM A N (A 1 (rt A 1 (A 50 (30 * c))))) (DM A N (A 1 (rt A 2 (A 50 (30 * c)))))) A N (c + 1) k) (su I1 59 0) A1 N := hJ h9
      have sz := TZ_1 (ar := ar) MKt.1.1 (NM_BX R2.2.1.1.2.1 MKt.1) T4 r4.2.2.1.1.1 r4.2.2.1.1.2 r4.2.2.1.2
      rw [dt9] at sz
      have h3 := DIM_made R2.2.1 T2 D2 MKt.1 (by unfold FW; omega) (by unfold GB; omega) (by unfold GB; omega) (by unfold FW; omega) (by unfold GB; omega) MKt.2.2.2.2.2.1.2.1 r4.2.2.2 cv9 dt9 sz h2
      rw [itI_s h0]
      exact ip _ _ h3
    rw [tk] at r4
    exact ih (k + 1) I5 A5 _ _ (by omega) (by omega) (by omega) (RU_tr (RU_tr X (RU_tr R2 r4.1 (Int.le_refl _)) (Int.le_refl _)) R5 (by omega)) D5 hJ5
theorem mm_replaced (z : Value) (d : Nat) (ar : Int → Int) (c : Int) (h R : xx_H) (I : Nat → Int) (A : Nat → Int → Int) (N : Int → Int) (hc : 12 ≤ h.length) (hB : BI ar I A N) (hT : TRX I A N) (c0 : 0 ≤ c) (c1 : c + 1 < 350) (hC : CLA ar I A c) (hC1 : CLA ar I A (c + 1)) (ho : I 7 + 2 * SG (TZ A ar) (fun q => A 50 (30 * (c + 1) + q)) (A 51 (c + 1)).toNat ≤ 140000) (hD : DR ar 0 0 0 I A) : xx_cl (xt_P z) (d + 9) 166 [.ref h.length, .int (iI c)] (mh h R I A N) (fun v h1 => ∃ (b : Int) (I1 : Nat → Int) (A1 : Nat → Int → Int), v = some (.int (iI b)) ∧ h1 = mh h R I1 A1 N ∧ RU ar (2 * (SG (TZ A ar) (fun q => A 50 (30 * (c + 1) + q)) (A 51 (c + 1)).toNat - A 51 (c + 1))) I A N I1 A1 N ∧ ((b = 0 ∧ ¬ (0 < A 51 c ∧ A 1 (A 50 (30 * c)) = 4)) ∨ (b = 1 ∧ 0 < A 51 c ∧ A 1 (A 50 (30 * c)) = 4 ∧ (∃ S V : Int, DR ar (A 51 (c + 1) + A 51 c - 1) S V I1 A1) ∧ (DIT [] I A N → DIT (itI (sp_re (DM A N (A 1 (rt A 1 (A 50 (30 * c))))) (DM A N (A 1 (rt A 2 (A 50 (30 * c)))))) A N (c + 1) (A 51 (c + 1)) ++ (pol A c (A 50 (30 * c))).map (fun x => some (DM A N x))) I1 A1 N)))) := by
  have hP := BI_P hB
  have hc1 := hC.1
  have hc2 := hC1.1
  have sn0 := SG_cnt (g := TZ A ar) (f := fun q => A 50 (30 * (c + 1) + q)) (A 51 (c + 1)).toNat (fun e he => by have := (hC1.2.1 e (by omega) (by omega)).2.1; show 1 ≤ TZ A ar (A 50 (30 * (c + 1) + e)); omega)
  have sn : 0 ≤ SG (TZ A ar) (fun q => A 50 (30 * (c + 1) + q)) (A 51 (c + 1)).toNat := SG_nn _ (fun e he => by have := (hC1.2.1 e (by omega) (by omega)).2.1; show 0 ≤ TZ A ar (A 50 (30 * (c + 1) + e)); omega)
  refine cl_go rfl ?_
  show xx_go (xt_P z) (d + 8) 166 0 [some (.ref h.length), some (.int (iI c)), none, none, none] [] (mh h R I A N) _
  refine go_a (pc' := 1) (ls' := [some (.ref h.length), some (.int (iI c)), none, none, none]) (st' := [.ref h.length]) rfl rfl ?_
  refine go_a (pc' := 2) (ls' := [some (.ref h.length), some (.int (iI c)), none, none, none]) (st' := [.int (iI c), .ref h.length]) rfl rfl ?_
  refine go_v (m := 165) (as := [.ref h.length, .int (iI c)]) (r := []) rfl rfl rfl mh_o rfl rfl (mm_beginsEqual z (d + 5) ar c h R I A N hc hP c0 (by omega) hC) (fun v h1 hq => ?_)
  obtain ⟨⟨b, rfl, hb⟩, rfl⟩ := hq
  show xx_go (xt_P z) (d + 8) 166 5 [some (.ref h.length), some (.int (iI c)), none, none, none] [.int (iI b)] (mh h R I A N) _
  refine mi_ne0 (t := 10) rfl rfl (by omega) (by omega) (fun e => ?_) (fun e => ?_)
  · have hb : 0 < A 51 c ∧ A 1 (A 50 (30 * c)) = 4 := by omega
    have cz := hC.2.1 0 (Int.le_refl _) hb.1
    rw [Int.add_zero] at cz
    have eq := EQ_sides hB cz.1.1 cz.1.2 hb.2 cz.2.1
    refine go_a (pc' := 11) (ls' := [some (.ref h.length), some (.int (iI c)), none, none, none]) (st' := [.ref h.length]) rfl rfl ?_
    refine go_a (pc' := 12) (ls' := [some (.ref h.length), some (.int (iI c)), none, none, none]) (st' := [.ref h.length, .ref h.length]) rfl rfl ?_
    refine go_get rfl mh_o rfl rfl ?_
    refine go_a (pc' := 17) (ls' := [some (.ref h.length), some (.int (iI c)), none, none, none]) (st' := [.int (iI 30), .ref (h.length + 50), .ref h.length]) rfl rfl ?_
    refine go_a (pc' := 18) (ls' := [some (.ref h.length), some (.int (iI c)), none, none, none]) (st' := [.int (iI c), .int (iI 30), .ref (h.length + 50), .ref h.length]) rfl rfl ?_
    refine mi_mul rfl ?_
    refine mi_ild rfl mh_a50 (by omega) (by omega) (by decide) ?_
    refine go_a (pc' := 21) (ls' := [some (.ref h.length), some (.int (iI c)), none, none, none]) (st' := [.int (iI 1), .int (iI (A 50 (30 * c))), .ref h.length]) rfl rfl ?_
    refine go_v (m := 124) (as := [.ref h.length, .int (iI (A 50 (30 * c))), .int (iI 1)]) (r := []) rfl rfl rfl mh_o rfl rfl (mm_term z (d + 6) 1 3 (A 50 (30 * c)) h R I A N hc hP (by decide) cz.1.1 cz.1.2 eq.1 (by decide)) (fun v h1 hq => ?_)
    obtain ⟨rfl, rfl⟩ := hq
    show xx_go (xt_P z) (d + 8) 166 24 [some (.ref h.length), some (.int (iI c)), none, none, none] [.int (iI (A 1 (rt A 1 (A 50 (30 * c)))))] (mh h R I A N) _
    refine go_a (pc' := 25) (ls' := [some (.ref h.length), some (.int (iI c)), some (.int (iI (A 1 (rt A 1 (A 50 (30 * c)))))), none, none]) (st' := []) rfl rfl ?_
    refine go_a (pc' := 26) (ls' := [some (.ref h.length), some (.int (iI c)), some (.int (iI (A 1 (rt A 1 (A 50 (30 * c)))))), none, none]) (st' := [.ref h.length]) rfl rfl ?_
    refine go_a (pc' := 27) (ls' := [some (.ref h.length), some (.int (iI c)), some (.int (iI (A 1 (rt A 1 (A 50 (30 * c)))))), none, none]) (st' := [.ref h.length, .ref h.length]) rfl rfl ?_
    refine go_get rfl mh_o rfl rfl ?_
    refine go_a (pc' := 32) (ls' := [some (.ref h.length), some (.int (iI c)), some (.int (iI (A 1 (rt A 1 (A 50 (30 * c)))))), none, none]) (st' := [.int (iI 30), .ref (h.length + 50), .ref h.length]) rfl rfl ?_
    refine go_a (pc' := 33) (ls' := [some (.ref h.length), some (.int (iI c)), some (.int (iI (A 1 (rt A 1 (A 50 (30 * c)))))), none, none]) (st' := [.int (iI c), .int (iI 30), .ref (h.length + 50), .ref h.length]) rfl rfl ?_
    refine mi_mul rfl ?_
    refine mi_ild rfl mh_a50 (by omega) (by omega) (by decide) ?_
    refine go_a (pc' := 36) (ls' := [some (.ref h.length), some (.int (iI c)), some (.int (iI (A 1 (rt A 1 (A 50 (30 * c)))))), none, none]) (st' := [.int (iI 2), .int (iI (A 50 (30 * c))), .ref h.length]) rfl rfl ?_
    refine go_v (m := 124) (as := [.ref h.length, .int (iI (A 50 (30 * c))), .int (iI 2)]) (r := []) rfl rfl rfl mh_o rfl rfl (mm_term z (d + 6) 2 3 (A 50 (30 * c)) h R I A N hc hP (by decide) cz.1.1 cz.1.2 eq.1 (by decide)) (fun v h1 hq => ?_)
    obtain ⟨rfl, rfl⟩ := hq
    show xx_go (xt_P z) (d + 8) 166 39 [some (.ref h.length), some (.int (iI c)), some (.int (iI (A 1 (rt A 1 (A 50 (30 * c)))))), none, none] [.int (iI (A 1 (rt A 2 (A 50 (30 * c)))))] (mh h R I A N) _
    refine go_a (pc' := 40) (ls' := [some (.ref h.length), some (.int (iI c)), some (.int (iI (A 1 (rt A 1 (A 50 (30 * c)))))), some (.int (iI (A 1 (rt A 2 (A 50 (30 * c)))))), none]) (st' := []) rfl rfl ?_
    refine go_a (pc' := 41) (ls' := [some (.ref h.length), some (.int (iI c)), some (.int (iI (A 1 (rt A 1 (A 50 (30 * c)))))), some (.int (iI (A 1 (rt A 2 (A 50 (30 * c)))))), none]) (st' := [.int (iI 0)]) rfl rfl ?_
    refine go_a (pc' := 43) (ls' := [some (.ref h.length), some (.int (iI c)), some (.int (iI (A 1 (rt A 1 (A 50 (30 * c)))))), some (.int (iI (A 1 (rt A 2 (A 50 (30 * c)))))), some (.int (iI 0))]) (st' := []) rfl rfl ?_
    exact mm_replaced_loop z d ar c h R I A N hc hB hT c0 c1 hC hC1 hb.1 hb.2 ho (A 51 (c + 1)).toNat 0 I A 0 0 (by omega) (Int.le_refl _) hc2.1 (RU_rf hB (show (0 : Int) ≤ 2 * (0 - 0) by decide)) hD (fun q => q)
  · refine go_a (pc' := 9) (ls' := [some (.ref h.length), some (.int (iI c)), none, none, none]) (st' := [.int (iI 0)]) rfl rfl ?_
    exact go_r rfl rfl rfl rfl rfl rfl ⟨0, I, A, rfl, rfl, RU_rf hB (by omega), Or.inl ⟨rfl, by omega⟩⟩

