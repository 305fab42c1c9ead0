theorem VD_z {A : Nat → Int → Int} (n0 : A 1 0 < 0) : VD A 0 = 0 := by
  rw [VD_atom n0, if_pos rfl]
theorem mm_isForm (z : Value) (d : Nat) (ar : Int → Int) (ft : Nat → Int) (FB9 : List (Nat × List Nat × ob_T)) (TB9 : List (Nat × ob_T)) (o : Int) (h R : xx_H) (I : Nat → Int) (A : Nat → Int → Int) (N : Int → Int) (hc : 12 ≤ h.length) (hB : BI ar I A N) (hT : BTX ar ft FB9 TB9 I A N) (k0 : 0 ≤ o) (k1 : o < I 7) (w : VD A o ≤ 1000) (ho : I 7 + 4 * VD A o + 4 ≤ 140000) (ho2 : A 1 o = 27 → I 7 + 2 * VD A o + 600 ≤ 140000) : xx_cl (xt_P z) (d + 11) 139 [.ref h.length, .int (iI o)] (mh h R I A N) (fun v h1 => ∃ (I1 : Nat → Int) (A1 : Nat → Int → Int) (N1 : Int → Int), h1 = mh h R I1 A1 N1 ∧ BX FJ GJ I A N I1 A1 N1 ∧ BI ar I1 A1 N1 ∧ (True → I1 49 = I 49) ∧ ((v = some (.int (iI 0)) ∧ I1 7 ≤ I 7 + 4 * VD A o + (if A 1 o = 27 then 480 else 0) ∧ ¬ FOX ar ft I A N o) ∨ (v = some (.int (iI 1)) ∧ FORM ar I1 A1 N1 o ∧ (A 1 o = 27 → ∃ e : Int, IND ar I A o e ∧ I1 7 ≤ I 7 + 2 * WD A (A 1 (rt A 1 o)) - 2 + 4 * (PS A (fun _ => 1) (A 23 e) - 1)) ∧ (A 1 o ≠ 27 → CF A o (I1 7 - I 7)) ∧ FOX ar ft I A N o))) := by
  have hP := BI_P hB
  have p1 := hP.1
  have n0 := BI_n0 hB
  have v0 := VD_nn A o
  have qo := hP.2 o k0 k1
  have rf : BX FJ GJ I A N I A N := BX_rf hB.1.1
  have sj : ∀ {I1 : Nat → Int} {A1 : Nat → Int → Int} {N1 : Int → Int}, BX FB GT I A N I1 A1 N1 → BX FJ GJ I A N I1 A1 N1 := fun x => BX_w2 (fun j q => by unfold FB at q; unfold FJ FI; omega) (fun j q => by unfold GT at q; unfold GJ GI; omega) x
  have fx : ∀ {I1 : Nat → Int} {A1 : Nat → Int → Int} {N1 : Int → Int}, BX FJ GJ I A N I1 A1 N1 → FORM ar I A N o → FORM ar I1 A1 N1 o := fun x f => FORM_BX hB x (by unfold FJ FI; omega) (by unfold FJ FI; omega) (fun a p q => by unfold GJ GI; omega) k0 k1 f
  have if0 : 0 ≤ (if A 1 o = 27 then (480 : Int) else 0) := by split <;> decide
  refine cl_go rfl ?_
  show xx_go (xt_P z) (d + 10) 139 0 [some (.ref h.length), some (.int (iI o)), none] [] (mh h R I A N) _
  refine go_a (pc' := 1) (ls' := [some (.ref h.length), some (.int (iI o)), none]) (st' := [.ref h.length]) rfl rfl ?_
  refine go_a (pc' := 2) (ls' := [some (.ref h.length), some (.int (iI o)), none]) (st' := [.int (iI o), .ref h.length]) rfl rfl ?_
  refine go_v (m := 98) (as := [.ref h.length, .int (iI o)]) (r := []) rfl rfl rfl mh_o rfl rfl (mm_len2 z (d + 8) o h R I A N hc hP n0 k0 k1) (fun v h1 hq => ?_)
  obtain ⟨⟨c, rfl, hcc⟩, rfl⟩ := hq
  have cr : -1 ≤ c ∧ c < 140000 := by
    rcases hcc with ⟨q, -⟩ | ⟨q, hq, hl⟩
    · omega
    · have := isL_len hP o.toNat q o (Nat.le_refl _) k0 k1 hl
      omega
  show xx_go (xt_P z) (d + 10) 139 5 [some (.ref h.length), some (.int (iI o)), none] [.int (iI c)] (mh h R I A N) _
  refine go_a (pc' := 6) (ls' := [some (.ref h.length), some (.int (iI o)), some (.int (iI c))]) (st' := []) rfl rfl ?_
  refine go_a (pc' := 7) (ls' := [some (.ref h.length), some (.int (iI o)), some (.int (iI c))]) (st' := [.int (iI c)]) rfl rfl ?_
  refine go_a (pc' := 8) (ls' := [some (.ref h.length), some (.int (iI o)), some (.int (iI c))]) (st' := [.int (iI 1), .int (iI c)]) rfl rfl ?_
  refine mi_ge (t := 13) rfl rfl (by omega) (by omega) (by omega) (by omega) (fun e => ?_) (fun e => ?_)
  · obtain ⟨n, rfl, hL⟩ : ∃ q : Nat, c = q ∧ isL A q o := by
      rcases hcc with ⟨q, -⟩ | q
      · omega
      · exact q
    clear hcc
    have n1 : 1 ≤ n := by omega
    have pk : 0 ≤ A 1 o := isL_step n 0 o hL n1
    have q2 := qo.2.2.2.2 pk
    have v1 := VD_rt hP k0 k1 hL n1
    have v1e : VD A o = WD A (A 1 o) + VD A (rt A 1 o) := v1.1
    have v1w : 1 ≤ WD A (A 1 o) := v1.2.2.1
    have v1n : 0 ≤ VD A (rt A 1 o) := v1.2.2.2
    refine go_a (pc' := 14) (ls' := [some (.ref h.length), some (.int (iI o)), some (.int (iI ((n : Int))))]) (st' := [.ref h.length]) rfl rfl ?_
    refine go_get rfl mh_o rfl rfl ?_
    refine go_a (pc' := 18) (ls' := [some (.ref h.length), some (.int (iI o)), some (.int (iI ((n : Int))))]) (st' := [.int (iI o), .ref (h.length + 1)]) rfl rfl ?_
    refine mi_ild rfl mh_a1 (by omega) (by omega) (by decide) ?_
    by_cases cs : A 1 o = 27 ∨ A 1 o = 29 ∨ A 1 o = 30 ∨ A 1 o = 31 ∨ A 1 o = 32 ∨ A 1 o = 33 ∨ A 1 o = 34 ∨ A 1 o = 35 ∨ A 1 o = 36 ∨ A 1 o = 37 ∨ A 1 o = 38 ∨ A 1 o = 39 ∨ A 1 o = 40 ∨ A 1 o = 41 ∨ A 1 o = 42 ∨ A 1 o = 43
    rotate_left
    · by_cases c8 : A 1 o = 28
      · refine mi_ts (c := 28) (t := 314) rfl c8 rfl ?_
        refine go_a (pc' := 315) (ls' := [some (.ref h.length), some (.int (iI o)), some (.int (iI ((n : Int))))]) (st' := [.int (iI 0)]) rfl rfl ?_
        exact go_r rfl rfl rfl rfl rfl rfl ⟨I, A, N, rfl, rf, hB, fun _ => rfl, Or.inl ⟨rfl, by omega, fun ⟨n2, l2, _, h9⟩ => by have en := isL_uq n0 n2 n o l2 hL; rcases h9 with ⟨h9, -⟩ | ⟨h9, -⟩ | ⟨h9, -⟩ | ⟨h9, -⟩ | ⟨h9, -⟩ | ⟨h9, -⟩ | ⟨h9, -⟩ | ⟨h9, -⟩ | ⟨h9, -⟩ | ⟨h9, -⟩ | ⟨h9, -⟩ | ⟨h9, -⟩; omega; omega; omega; omega; omega; omega; omega; omega; omega; omega; omega; omega⟩⟩
      · refine mi_tsd (t := 314) rfl (by omega) (by omega) (by omega) rfl ?_
        refine go_a (pc' := 315) (ls' := [some (.ref h.length), some (.int (iI o)), some (.int (iI ((n : Int))))]) (st' := [.int (iI 0)]) rfl rfl ?_
        exact go_r rfl rfl rfl rfl rfl rfl ⟨I, A, N, rfl, rf, hB, fun _ => rfl, Or.inl ⟨rfl, by omega, fun ⟨n2, l2, _, h9⟩ => by have en := isL_uq n0 n2 n o l2 hL; rcases h9 with ⟨h9, -⟩ | ⟨h9, -⟩ | ⟨h9, -⟩ | ⟨h9, -⟩ | ⟨h9, -⟩ | ⟨h9, -⟩ | ⟨h9, -⟩ | ⟨h9, -⟩ | ⟨h9, -⟩ | ⟨h9, -⟩ | ⟨h9, -⟩ | ⟨h9, -⟩; omega; omega; omega; omega; omega; omega; omega; omega; omega; omega; omega; omega⟩⟩
    rcases cs with ef | ef | ef | ef | ef | ef | ef | ef | ef | ef | ef | ef | ef | ef | ef | ef
    · refine mi_ts (c := 27) (t := 308) rfl ef rfl ?_
      have h2 := ho2 ef
      refine go_a (pc' := 309) (ls' := [some (.ref h.length), some (.int (iI o)), some (.int (iI ((n : Int))))]) (st' := [.ref h.length]) rfl rfl ?_
      refine go_a (pc' := 310) (ls' := [some (.ref h.length), some (.int (iI o)), some (.int (iI ((n : Int))))]) (st' := [.int (iI o), .ref h.length]) rfl rfl ?_
      refine go_v (m := 150) (as := [.ref h.length, .int (iI o)]) (r := []) rfl rfl rfl mh_o rfl rfl (mm_isInduction z d ar ft FB9 TB9 o h R I A N hc hB hT k0 k1 w (by omega)) (fun v h1 hq => ?_)
      obtain ⟨I1, A1, rfl, X, B1, hw, hv⟩ := hq
      have XJ : BX FJ GJ I A N I1 A1 N := BX_w2 (fun j q => Or.inl q) (fun j q => Or.inl q) X
      rcases hv with ⟨rfl, hc9, nI⟩ | ⟨rfl, e9, ID, hc9, IX⟩
      · show xx_go (xt_P z) (d + 10) 139 313 [some (.ref h.length), some (.int (iI o)), some (.int (iI ((n : Int))))] [.int (iI 0)] (mh h R I1 A1 N) _
        exact go_r rfl rfl rfl rfl rfl rfl ⟨I1, A1, N, rfl, XJ, B1, hw, Or.inl ⟨rfl, by rw [if_pos ef]; omega, fun ⟨n2, l2, _, h9⟩ => by have en := isL_uq n0 n2 n o l2 hL; rcases h9 with ⟨h9, -⟩ | ⟨h9, -⟩ | ⟨h9, -⟩ | ⟨h9, -⟩ | ⟨h9, -⟩ | ⟨h9, -⟩ | ⟨h9, -⟩ | ⟨h9, -⟩ | ⟨h9, -⟩ | ⟨h9, -⟩ | ⟨h9, -⟩ | ⟨-, hI9⟩; omega; omega; omega; omega; omega; omega; omega; omega; omega; omega; omega; exact nI hI9⟩⟩
      · show xx_go (xt_P z) (d + 10) 139 313 [some (.ref h.length), some (.int (iI o)), some (.int (iI ((n : Int))))] [.int (iI 1)] (mh h R I1 A1 N) _
        exact go_r rfl rfl rfl rfl rfl rfl ⟨I1, A1, N, rfl, XJ, B1, hw, Or.inr ⟨rfl, fx XJ ⟨n, hL, n1, Or.inr (Or.inr (Or.inr (Or.inr (Or.inr (Or.inr (Or.inr (Or.inr (Or.inr (Or.inr (Or.inr ⟨by omega, e9, ID⟩))))))))))⟩, fun _ => ⟨e9, ID, hc9⟩, fun q => absurd ef q, ⟨n, hL, n1, Or.inr (Or.inr (Or.inr (Or.inr (Or.inr (Or.inr (Or.inr (Or.inr (Or.inr (Or.inr (Or.inr ⟨by omega, e9, ID, IX⟩))))))))))⟩⟩⟩
    · refine mi_ts (c := 29) (t := 100) rfl ef rfl ?_
      refine go_a (pc' := 101) (ls' := [some (.ref h.length), some (.int (iI o)), some (.int (iI ((n : Int))))]) (st' := [.ref h.length]) rfl rfl ?_
      refine go_a (pc' := 102) (ls' := [some (.ref h.length), some (.int (iI o)), some (.int (iI ((n : Int))))]) (st' := [.int (iI o), .ref h.length]) rfl rfl ?_
      refine go_a (pc' := 103) (ls' := [some (.ref h.length), some (.int (iI o)), some (.int (iI ((n : Int))))]) (st' := [.int (iI 1), .int (iI o), .ref h.length]) rfl rfl ?_
      refine go_a (pc' := 104) (ls' := [some (.ref h.length), some (.int (iI o)), some (.int (iI ((n : Int))))]) (st' := [.int (iI 2), .int (iI 1), .int (iI o), .ref h.length]) rfl rfl ?_
      refine go_v (m := 140) (as := [.ref h.length, .int (iI o), .int (iI 1), .int (iI 2)]) (r := []) rfl rfl rfl mh_o rfl rfl (mm_areTerms z (d + 1) 1 2 ar o h R I A N hc hB k0 k1 (by omega) (by omega) (by decide) (by decide)) (fun v h1 hq => ?_)
      obtain ⟨I1, A1, rfl, X, hv⟩ := hq
      have c7 := X.2.2.2
      have x7 := X.1.2.1
      rcases hv with ⟨rfl, nT⟩ | ⟨rfl, hLk, hT9, hC9⟩
      · show xx_go (xt_P z) (d + 10) 139 107 [some (.ref h.length), some (.int (iI o)), some (.int (iI ((n : Int))))] [.int (iI 0)] (mh h R I1 A1 N) _
        exact go_r rfl rfl rfl rfl rfl rfl ⟨I1, A1, N, rfl, sj X.1, X.2.1, fun _ => X.2.2.1, Or.inl ⟨rfl, by omega, fun ⟨n2, l2, _, h9⟩ => by have en := isL_uq n0 n2 n o l2 hL; rcases h9 with ⟨-, h8, t1⟩ | ⟨h9, -⟩ | ⟨h9, -⟩ | ⟨h9, -⟩ | ⟨h9, -⟩ | ⟨h9, -⟩ | ⟨h9, -⟩ | ⟨h9, -⟩ | ⟨h9, -⟩ | ⟨h9, -⟩ | ⟨h9, -⟩ | ⟨h9, -⟩; exact nT ⟨by rw [← h8]; exact l2, fun j j0 j1 => by rw [show j = 1 by omega]; exact t1⟩; omega; omega; omega; omega; omega; omega; omega; omega; omega; omega; omega⟩⟩
      · show xx_go (xt_P z) (d + 10) 139 107 [some (.ref h.length), some (.int (iI o)), some (.int (iI ((n : Int))))] [.int (iI 1)] (mh h R I1 A1 N) _
        exact go_r rfl rfl rfl rfl rfl rfl ⟨I1, A1, N, rfl, sj X.1, X.2.1, fun _ => X.2.2.1, Or.inr ⟨rfl, fx (sj X.1) ⟨2, hLk, by decide, Or.inl ⟨by omega, rfl, hT9 1 (by decide) (by decide)⟩⟩, fun q => by omega, fun _ => ⟨fun q => by omega, fun _ => by have := hC9 (by decide); omega, fun q => by omega, fun q => by omega, fun q => by omega, fun q => by omega, trivial⟩, ⟨2, hLk, by decide, Or.inl ⟨by omega, rfl, hT9 1 (by decide) (by decide)⟩⟩⟩⟩
    · refine mi_ts (c := 30) (t := 100) rfl ef rfl ?_
      refine go_a (pc' := 101) (ls' := [some (.ref h.length), some (.int (iI o)), some (.int (iI ((n : Int))))]) (st' := [.ref h.length]) rfl rfl ?_
      refine go_a (pc' := 102) (ls' := [some (.ref h.length), some (.int (iI o)), some (.int (iI ((n : Int))))]) (st' := [.int (iI o), .ref h.length]) rfl rfl ?_
      refine go_a (pc' := 103) (ls' := [some (.ref h.length), some (.int (iI o)), some (.int (iI ((n : Int))))]) (st' := [.int (iI 1), .int (iI o), .ref h.length]) rfl rfl ?_
      refine go_a (pc' := 104) (ls' := [some (.ref h.length), some (.int (iI o)), some (.int (iI ((n : Int))))]) (st' := [.int (iI 2), .int (iI 1), .int (iI o), .ref h.length]) rfl rfl ?_
      refine go_v (m := 140) (as := [.ref h.length, .int (iI o), .int (iI 1), .int (iI 2)]) (r := []) rfl rfl rfl mh_o rfl rfl (mm_areTerms z (d + 1) 1 2 ar o h R I A N hc hB k0 k1 (by omega) (by omega) (by decide) (by decide)) (fun v h1 hq => ?_)
      obtain ⟨I1, A1, rfl, X, hv⟩ := hq
      have c7 := X.2.2.2
      have x7 := X.1.2.1
      rcases hv with ⟨rfl, nT⟩ | ⟨rfl, hLk, hT9, hC9⟩
      · show xx_go (xt_P z) (d + 10) 139 107 [some (.ref h.length), some (.int (iI o)), some (.int (iI ((n : Int))))] [.int (iI 0)] (mh h R I1 A1 N) _
        exact go_r rfl rfl rfl rfl rfl rfl ⟨I1, A1, N, rfl, sj X.1, X.2.1, fun _ => X.2.2.1, Or.inl ⟨rfl, by omega, fun ⟨n2, l2, _, h9⟩ => by have en := isL_uq n0 n2 n o l2 hL; rcases h9 with ⟨-, h8, t1⟩ | ⟨h9, -⟩ | ⟨h9, -⟩ | ⟨h9, -⟩ | ⟨h9, -⟩ | ⟨h9, -⟩ | ⟨h9, -⟩ | ⟨h9, -⟩ | ⟨h9, -⟩ | ⟨h9, -⟩ | ⟨h9, -⟩ | ⟨h9, -⟩; exact nT ⟨by rw [← h8]; exact l2, fun j j0 j1 => by rw [show j = 1 by omega]; exact t1⟩; omega; omega; omega; omega; omega; omega; omega; omega; omega; omega; omega⟩⟩
      · show xx_go (xt_P z) (d + 10) 139 107 [some (.ref h.length), some (.int (iI o)), some (.int (iI ((n : Int))))] [.int (iI 1)] (mh h R I1 A1 N) _
        exact go_r rfl rfl rfl rfl rfl rfl ⟨I1, A1, N, rfl, sj X.1, X.2.1, fun _ => X.2.2.1, Or.inr ⟨rfl, fx (sj X.1) ⟨2, hLk, by decide, Or.inl ⟨by omega, rfl, hT9 1 (by decide) (by decide)⟩⟩, fun q => by omega, fun _ => ⟨fun q => by omega, fun _ => by have := hC9 (by decide); omega, fun q => by omega, fun q => by omega, fun q => by omega, fun q => by omega, trivial⟩, ⟨2, hLk, by decide, Or.inl ⟨by omega, rfl, hT9 1 (by decide) (by decide)⟩⟩⟩⟩
    · refine mi_ts (c := 31) (t := 108) rfl ef rfl ?_
      refine go_a (pc' := 109) (ls' := [some (.ref h.length), some (.int (iI o)), some (.int (iI ((n : Int))))]) (st' := [.ref h.length]) rfl rfl ?_
      refine go_a (pc' := 110) (ls' := [some (.ref h.length), some (.int (iI o)), some (.int (iI ((n : Int))))]) (st' := [.int (iI o), .ref h.length]) rfl rfl ?_
      refine go_a (pc' := 111) (ls' := [some (.ref h.length), some (.int (iI o)), some (.int (iI ((n : Int))))]) (st' := [.int (iI 1), .int (iI o), .ref h.length]) rfl rfl ?_
      refine go_a (pc' := 112) (ls' := [some (.ref h.length), some (.int (iI o)), some (.int (iI ((n : Int))))]) (st' := [.int (iI 2), .int (iI 1), .int (iI o), .ref h.length]) rfl rfl ?_
      refine go_v (m := 140) (as := [.ref h.length, .int (iI o), .int (iI 1), .int (iI 2)]) (r := []) rfl rfl rfl mh_o rfl rfl (mm_areTerms z (d + 1) 1 2 ar o h R I A N hc hB k0 k1 (by omega) (by omega) (by decide) (by decide)) (fun v h1 hq => ?_)
      obtain ⟨I1, A1, rfl, X, hv⟩ := hq
      have c7 := X.2.2.2
      have x7 := X.1.2.1
      rcases hv with ⟨rfl, nT⟩ | ⟨rfl, hLk, hT9, hC9⟩
      · show xx_go (xt_P z) (d + 10) 139 115 [some (.ref h.length), some (.int (iI o)), some (.int (iI ((n : Int))))] [.int (iI 0)] (mh h R I1 A1 N) _
        refine mi_eq0 (t := 140) rfl rfl (by omega) (by omega) (fun _ => ?_) (fun q => absurd rfl q)
        refine go_a (pc' := 141) (ls' := [some (.ref h.length), some (.int (iI o)), some (.int (iI ((n : Int))))]) (st' := [.int (iI 0)]) rfl rfl ?_
        exact go_r rfl rfl rfl rfl rfl rfl ⟨I1, A1, N, rfl, sj X.1, X.2.1, fun _ => X.2.2.1, Or.inl ⟨rfl, by omega, fun ⟨n2, l2, _, h9⟩ => by have en := isL_uq n0 n2 n o l2 hL; rcases h9 with ⟨h9, -⟩ | ⟨-, h8, t1, -⟩ | ⟨h9, -⟩ | ⟨h9, -⟩ | ⟨h9, -⟩ | ⟨h9, -⟩ | ⟨h9, -⟩ | ⟨h9, -⟩ | ⟨h9, -⟩ | ⟨h9, -⟩ | ⟨h9, -⟩ | ⟨h9, -⟩; omega; exact nT ⟨by rw [← h8]; exact l2, fun j j0 j1 => by rw [show j = 1 by omega]; exact t1⟩; omega; omega; omega; omega; omega; omega; omega; omega; omega; omega⟩⟩
      · show xx_go (xt_P z) (d + 10) 139 115 [some (.ref h.length), some (.int (iI o)), some (.int (iI ((n : Int))))] [.int (iI 1)] (mh h R I1 A1 N) _
        refine mi_eq0 (t := 140) rfl rfl (by omega) (by omega) (fun q => absurd q (by decide)) (fun _ => ?_)
        have v2 := VD_rt hP k0 k1 hLk (by decide : 1 < 2)
        have P1 := BI_P X.2.1
        have i9 := P1.1
        have L1 := isL_extB hP X.1 2 o k0 k1 hLk
        have rx := it_BX hP X.1 k0 k1 hLk (by decide : 1 < 2)
        have wx := (WD_BX hP X.1 v2.2.1.1 v2.2.1.2).1
        have v2e : VD A (rt A 1 o) = WD A (A 1 (rt A 1 o)) + VD A (rt A 2 o) := v2.1
        have vz : VD A (rt A 2 o) = 0 := by
          rw [isL_end 2 o hLk]
          exact VD_z n0
        refine go_a (pc' := 119) (ls' := [some (.ref h.length), some (.int (iI o)), some (.int (iI ((n : Int))))]) (st' := [.ref h.length]) rfl rfl ?_
        refine go_a (pc' := 120) (ls' := [some (.ref h.length), some (.int (iI o)), some (.int (iI ((n : Int))))]) (st' := [.ref h.length, .ref h.length]) rfl rfl ?_
        refine go_a (pc' := 121) (ls' := [some (.ref h.length), some (.int (iI o)), some (.int (iI ((n : Int))))]) (st' := [.ref h.length, .ref h.length, .ref h.length]) rfl rfl ?_
        refine go_a (pc' := 122) (ls' := [some (.ref h.length), some (.int (iI o)), some (.int (iI ((n : Int))))]) (st' := [.int (iI o), .ref h.length, .ref h.length, .ref h.length]) rfl rfl ?_
        refine go_a (pc' := 123) (ls' := [some (.ref h.length), some (.int (iI o)), some (.int (iI ((n : Int))))]) (st' := [.int (iI 1), .int (iI o), .ref h.length, .ref h.length, .ref h.length]) rfl rfl ?_
        refine go_v (m := 99) (as := [.ref h.length, .int (iI o), .int (iI 1)]) (r := [.ref h.length, .ref h.length]) rfl rfl rfl mh_o rfl rfl (mm_nth z (d + 9) 1 2 o h R I1 A1 N hc P1 (by decide) k0 (by omega) L1 (by decide)) (fun v h1 hq => ?_)
        obtain ⟨rfl, rfl⟩ := hq
        rw [rx]
        show xx_go (xt_P z) (d + 10) 139 126 [some (.ref h.length), some (.int (iI o)), some (.int (iI ((n : Int))))] [.int (iI (A 1 (rt A 1 o))), .ref h.length, .ref h.length] (mh h R I1 A1 N) _
        refine go_v (m := 105) (as := [.ref h.length, .int (iI (A 1 (rt A 1 o)))]) (r := [.ref h.length]) rfl rfl rfl mh_o rfl rfl (mm_termQ z (d + 2) ar (A 1 (rt A 1 o)) h R I1 A1 N hc X.2.1 v2.2.1.1 (by omega) (by omega) (by omega)) (fun v h1 hq => ?_)
        obtain ⟨t, I2, A2, rfl, rfl, Q⟩ := hq
        have c8 := Q.2.2.1
        have y7 := Q.1.2.1
        have P2 := BI_P Q.2.1
        have i92 := P2.1
        have tq : (0 ≤ t ∧ t < I2 7) ∧ (1 ≤ TZ A2 ar t ∧ TZ A2 ar t ≤ 120) ∧ NFT A2 (A 1 (rt A 1 o)) t := by
          rcases Q.2.2.2.2 with q | q
          · exact absurd (TOK_BX hP X.1 v2.2.1.1 v2.2.1.2 (hT9 1 (by decide) (by decide))) q.2
          · exact ⟨q.1, q.2.1, q.2.2.2.2.2⟩
        have T1 := BTX_BX hB hT X.1 FB_FQ GT_GQ
        have T2 := BTX_BX X.2.1 T1 Q.1 FB_FQ GT_GQ
        have tmq := (TQ_tm X.2.1 T1 v2.2.1.1 (by omega) Q).2 (by have := tq.1.1; omega)
        rw [BTX_D hB hT X.1 FB_FQ GT_GQ v2.2.1.1 v2.2.1.2] at tmq
        have tsq := TQ_ts X.2.1 T1 v2.2.1.1 (by omega) Q tq.1.1 tq.1.2
        show xx_go (xt_P z) (d + 10) 139 129 [some (.ref h.length), some (.int (iI o)), some (.int (iI ((n : Int))))] [.int (iI t), .ref h.length] (mh h R I2 A2 N) _
        refine go_v (m := 141) (as := [.ref h.length, .int (iI t)]) (r := []) rfl rfl rfl mh_o rfl rfl (mm_told z (d + 4) ar ft t h R I2 A2 N hc Q.2.1.1.1 Q.2.1.1.2.1 Q.2.1.1.2.2 T2.1 T2.2.1 T2.2.2.1 tsq Q.2.1.2.1.1 (ARF_01 Q.2.1.2.1.2) (by omega) tq.1.1 tq.1.2 tq.2.1.1) (fun v h1 hq => ?_)
        obtain ⟨t2, I3, A3, N3, rfl, rfl, X3, Z3, c9, ht⟩ := hq
        have j49 : I3 49 = I 49 := ((X3.2.2.2.1 49 (by decide) (by unfold FV; omega)).trans Q.2.2.2.1).trans X.2.2.1
        have B3 : BI ar I3 A3 N3 := BI_QX Q.2.1 (BX_w2 (fun j q => by unfold FV at q; unfold FQ; omega) (fun j q => by unfold GV at q; unfold GQ; omega) X3) Z3 (by rw [X3.2.2.2.1 54 (by decide) (by unfold FV; omega)]; exact Q.2.1.2.2.2.1.1) (by rw [X3.2.2.2.1 56 (by decide) (by unfold FV; omega)]; exact Q.2.1.2.2.2.1.2) (by rw [j49]; exact hB.2.2.2.2)
        have X03 : BX FJ GJ I A N I3 A3 N3 := BX_tr (BX_tr (sj X.1) (BX_w2 (fun j q => by unfold FB at q; unfold FJ FI; omega) (fun j q => by unfold GT at q; unfold GJ GI; omega) Q.1)) (BX_w2 (fun j q => by unfold FV at q; unfold FJ; omega) (fun j q => by unfold GV at q; unfold GJ; omega) X3)
        have x7c := X3.2.1
        have t2r : -1 ≤ t2 ∧ t2 < 140000 := by
          have := (BI_P B3).1
          rcases ht with q | q
          · omega
          · omega
        show xx_go (xt_P z) (d + 10) 139 132 [some (.ref h.length), some (.int (iI o)), some (.int (iI ((n : Int))))] [.int (iI t2)] (mh h R I3 A3 N3) _
        refine go_a (pc' := 133) (ls' := [some (.ref h.length), some (.int (iI o)), some (.int (iI ((n : Int))))]) (st' := [.int (iI ((-1))), .int (iI t2)]) rfl rfl ?_
        refine mi_eq (t := 140) rfl rfl (by omega) (by omega) (by omega) (by omega) (fun e5 => ?_) (fun e5 => ?_)
        · refine go_a (pc' := 141) (ls' := [some (.ref h.length), some (.int (iI o)), some (.int (iI ((n : Int))))]) (st' := [.int (iI 0)]) rfl rfl ?_
          have vn : sp_va ft (DM A2 N t) = none := by
            rcases ht with q | q
            · exact q.2.2
            · omega
          exact go_r rfl rfl rfl rfl rfl rfl ⟨I3, A3, N3, rfl, X03, B3, fun _ => j49, Or.inl ⟨rfl, by omega, fun ⟨n2, l2, _, h9⟩ => by have en := isL_uq n0 n2 2 o l2 hLk; rcases h9 with ⟨h9, -⟩ | ⟨-, -, -, t9, t8, t7⟩ | ⟨h9, -⟩ | ⟨h9, -⟩ | ⟨h9, -⟩ | ⟨h9, -⟩ | ⟨h9, -⟩ | ⟨h9, -⟩ | ⟨h9, -⟩ | ⟨h9, -⟩ | ⟨h9, -⟩ | ⟨h9, -⟩; omega; rw [tmq] at t8; injection t8 with t8; rw [← t8] at t7; exact t7 vn; omega; omega; omega; omega; omega; omega; omega; omega; omega; omega⟩⟩
        · have tl : TLD A2 N ar t := by
            rcases ht with q | q
            · exact absurd q.1 e5
            · exact q.2.1
          have vs : sp_va ft (DM A2 N t) ≠ none := by
            rcases ht with q | q
            · exact absurd q.1 e5
            · rw [q.2.2]
              simp
          have a7 : ar 7 = 2 := hB.2.1.1.1.2.1 7 (by decide) (by decide)
          have FM : FORM ar I3 A3 N3 o := by
            have im := it_BX hP X03 k0 k1 hLk (by decide : 1 < 2)
            refine ⟨2, isL_extB hP X03 2 o k0 k1 hLk, by decide, Or.inr (Or.inl ⟨by rw [(X03.2.2.1 o k0 k1).1]; exact ef, rfl, ?_, t, ⟨tq.1.1, by omega⟩, ?_, ?_, TLD_BX P2 Q.2.1.1.2.1 a7 X3 tq.1.1 tq.1.2 tq.2.1.1 tl⟩)⟩
            · rw [im]
              exact TOK_BX hP X03 v2.2.1.1 v2.2.1.2 (hT9 1 (by decide) (by decide))
            · rw [(TZ_BX P2 X3 tq.1.1 tq.1.2).1 tq.2.1.1]
              exact tq.2.1.1
            · rw [im]
              exact (NF_ext P2 (MST_PW X3.1) X3.2.1 (fun k a b => ⟨(X3.2.2.1 k a b).1, (X3.2.2.1 k a b).2.1⟩) _ _ _ (Nat.lt_succ_self _) v2.2.1.1 (by omega) tq.1.1 tq.1.2).1 tq.2.2
          refine go_a (pc' := 137) (ls' := [some (.ref h.length), some (.int (iI o)), some (.int (iI ((n : Int))))]) (st' := [.int (iI 1)]) rfl rfl ?_
          refine go_a (pc' := 141) (ls' := [some (.ref h.length), some (.int (iI o)), some (.int (iI ((n : Int))))]) (st' := [.int (iI 1)]) rfl rfl ?_
          exact go_r rfl rfl rfl rfl rfl rfl ⟨I3, A3, N3, rfl, X03, B3, fun _ => j49, Or.inr ⟨rfl, FM, fun q => by omega, fun _ => ⟨fun _ => by omega, fun q => by omega, fun q => by omega, fun q => by omega, fun q => by omega, fun q => by omega, trivial⟩, ⟨2, hLk, by decide, Or.inr (Or.inl ⟨ef, rfl, hT9 1 (by decide) (by decide), _, tmq, vs⟩)⟩⟩⟩
    · refine mi_ts (c := 32) (t := 142) rfl ef rfl ?_
      refine go_a (pc' := 143) (ls' := [some (.ref h.length), some (.int (iI o)), some (.int (iI ((n : Int))))]) (st' := [.ref h.length]) rfl rfl ?_
      refine go_a (pc' := 144) (ls' := [some (.ref h.length), some (.int (iI o)), some (.int (iI ((n : Int))))]) (st' := [.int (iI o), .ref h.length]) rfl rfl ?_
      refine go_a (pc' := 145) (ls' := [some (.ref h.length), some (.int (iI o)), some (.int (iI ((n : Int))))]) (st' := [.int (iI 1), .int (iI o), .ref h.length]) rfl rfl ?_
      refine go_a (pc' := 146) (ls' := [some (.ref h.length), some (.int (iI o)), some (.int (iI ((n : Int))))]) (st' := [.int (iI 3), .int (iI 1), .int (iI o), .ref h.length]) rfl rfl ?_
      refine go_v (m := 140) (as := [.ref h.length, .int (iI o), .int (iI 1), .int (iI 3)]) (r := []) rfl rfl rfl mh_o rfl rfl (mm_areTerms z (d + 1) 1 3 ar o h R I A N hc hB k0 k1 (by omega) (by omega) (by decide) (by decide)) (fun v h1 hq => ?_)
      obtain ⟨I1, A1, rfl, X, hv⟩ := hq
      have c7 := X.2.2.2
      have x7 := X.1.2.1
      rcases hv with ⟨rfl, nT⟩ | ⟨rfl, hLk, hT9, hC9⟩
      · show xx_go (xt_P z) (d + 10) 139 149 [some (.ref h.length), some (.int (iI o)), some (.int (iI ((n : Int))))] [.int (iI 0)] (mh h R I1 A1 N) _
        exact go_r rfl rfl rfl rfl rfl rfl ⟨I1, A1, N, rfl, sj X.1, X.2.1, fun _ => X.2.2.1, Or.inl ⟨rfl, by omega, fun ⟨n2, l2, _, h9⟩ => by have en := isL_uq n0 n2 n o l2 hL; rcases h9 with ⟨h9, -⟩ | ⟨h9, -⟩ | ⟨-, h8, t1, t2⟩ | ⟨h9, -⟩ | ⟨h9, -⟩ | ⟨h9, -⟩ | ⟨h9, -⟩ | ⟨h9, -⟩ | ⟨h9, -⟩ | ⟨h9, -⟩ | ⟨h9, -⟩ | ⟨h9, -⟩; omega; omega; exact nT ⟨by rw [← h8]; exact l2, fun j j0 j1 => by rcases (show j = 1 ∨ j = 2 by omega) with rfl | rfl; exact t1; exact t2⟩; omega; omega; omega; omega; omega; omega; omega; omega; omega⟩⟩
      · show xx_go (xt_P z) (d + 10) 139 149 [some (.ref h.length), some (.int (iI o)), some (.int (iI ((n : Int))))] [.int (iI 1)] (mh h R I1 A1 N) _
        exact go_r rfl rfl rfl rfl rfl rfl ⟨I1, A1, N, rfl, sj X.1, X.2.1, fun _ => X.2.2.1, Or.inr ⟨rfl, fx (sj X.1) ⟨3, hLk, by decide, Or.inr (Or.inr (Or.inl ⟨by omega, rfl, hT9 1 (by decide) (by decide), hT9 2 (by decide) (by decide)⟩))⟩, fun q => by omega, fun _ => ⟨fun q => by omega, fun _ => by have := hC9 (by decide); omega, fun q => by omega, fun q => by omega, fun q => by omega, fun q => by omega, trivial⟩, ⟨3, hLk, by decide, Or.inr (Or.inr (Or.inl ⟨by omega, rfl, hT9 1 (by decide) (by decide), hT9 2 (by decide) (by decide)⟩))⟩⟩⟩
    · refine mi_ts (c := 33) (t := 142) rfl ef rfl ?_
      refine go_a (pc' := 143) (ls' := [some (.ref h.length), some (.int (iI o)), some (.int (iI ((n : Int))))]) (st' := [.ref h.length]) rfl rfl ?_
      refine go_a (pc' := 144) (ls' := [some (.ref h.length), some (.int (iI o)), some (.int (iI ((n : Int))))]) (st' := [.int (iI o), .ref h.length]) rfl rfl ?_
      refine go_a (pc' := 145) (ls' := [some (.ref h.length), some (.int (iI o)), some (.int (iI ((n : Int))))]) (st' := [.int (iI 1), .int (iI o), .ref h.length]) rfl rfl ?_
      refine go_a (pc' := 146) (ls' := [some (.ref h.length), some (.int (iI o)), some (.int (iI ((n : Int))))]) (st' := [.int (iI 3), .int (iI 1), .int (iI o), .ref h.length]) rfl rfl ?_
      refine go_v (m := 140) (as := [.ref h.length, .int (iI o), .int (iI 1), .int (iI 3)]) (r := []) rfl rfl rfl mh_o rfl rfl (mm_areTerms z (d + 1) 1 3 ar o h R I A N hc hB k0 k1 (by omega) (by omega) (by decide) (by decide)) (fun v h1 hq => ?_)
      obtain ⟨I1, A1, rfl, X, hv⟩ := hq
      have c7 := X.2.2.2
      have x7 := X.1.2.1
      rcases hv with ⟨rfl, nT⟩ | ⟨rfl, hLk, hT9, hC9⟩
      · show xx_go (xt_P z) (d + 10) 139 149 [some (.ref h.length), some (.int (iI o)), some (.int (iI ((n : Int))))] [.int (iI 0)] (mh h R I1 A1 N) _
        exact go_r rfl rfl rfl rfl rfl rfl ⟨I1, A1, N, rfl, sj X.1, X.2.1, fun _ => X.2.2.1, Or.inl ⟨rfl, by omega, fun ⟨n2, l2, _, h9⟩ => by have en := isL_uq n0 n2 n o l2 hL; rcases h9 with ⟨h9, -⟩ | ⟨h9, -⟩ | ⟨-, h8, t1, t2⟩ | ⟨h9, -⟩ | ⟨h9, -⟩ | ⟨h9, -⟩ | ⟨h9, -⟩ | ⟨h9, -⟩ | ⟨h9, -⟩ | ⟨h9, -⟩ | ⟨h9, -⟩ | ⟨h9, -⟩; omega; omega; exact nT ⟨by rw [← h8]; exact l2, fun j j0 j1 => by rcases (show j = 1 ∨ j = 2 by omega) with rfl | rfl; exact t1; exact t2⟩; omega; omega; omega; omega; omega; omega; omega; omega; omega⟩⟩
      · show xx_go (xt_P z) (d + 10) 139 149 [some (.ref h.length), some (.int (iI o)), some (.int (iI ((n : Int))))] [.int (iI 1)] (mh h R I1 A1 N) _
        exact go_r rfl rfl rfl rfl rfl rfl ⟨I1, A1, N, rfl, sj X.1, X.2.1, fun _ => X.2.2.1, Or.inr ⟨rfl, fx (sj X.1) ⟨3, hLk, by decide, Or.inr (Or.inr (Or.inl ⟨by omega, rfl, hT9 1 (by decide) (by decide), hT9 2 (by decide) (by decide)⟩))⟩, fun q => by omega, fun _ => ⟨fun q => by omega, fun _ => by have := hC9 (by decide); omega, fun q => by omega, fun q => by omega, fun q => by omega, fun q => by omega, trivial⟩, ⟨3, hLk, by decide, Or.inr (Or.inr (Or.inl ⟨by omega, rfl, hT9 1 (by decide) (by decide), hT9 2 (by decide) (by decide)⟩))⟩⟩⟩
    · refine mi_ts (c := 34) (t := 142) rfl ef rfl ?_
      refine go_a (pc' := 143) (ls' := [some (.ref h.length), some (.int (iI o)), some (.int (iI ((n : Int))))]) (st' := [.ref h.length]) rfl rfl ?_
      refine go_a (pc' := 144) (ls' := [some (.ref h.length), some (.int (iI o)), some (.int (iI ((n : Int))))]) (st' := [.int (iI o), .ref h.length]) rfl rfl ?_
      refine go_a (pc' := 145) (ls' := [some (.ref h.length), some (.int (iI o)), some (.int (iI ((n : Int))))]) (st' := [.int (iI 1), .int (iI o), .ref h.length]) rfl rfl ?_
      refine go_a (pc' := 146) (ls' := [some (.ref h.length), some (.int (iI o)), some (.int (iI ((n : Int))))]) (st' := [.int (iI 3), .int (iI 1), .int (iI o), .ref h.length]) rfl rfl ?_
      refine go_v (m := 140) (as := [.ref h.length, .int (iI o), .int (iI 1), .int (iI 3)]) (r := []) rfl rfl rfl mh_o rfl rfl (mm_areTerms z (d + 1) 1 3 ar o h R I A N hc hB k0 k1 (by omega) (by omega) (by decide) (by decide)) (fun v h1 hq => ?_)
      obtain ⟨I1, A1, rfl, X, hv⟩ := hq
      have c7 := X.2.2.2
      have x7 := X.1.2.1
      rcases hv with ⟨rfl, nT⟩ | ⟨rfl, hLk, hT9, hC9⟩
      · show xx_go (xt_P z) (d + 10) 139 149 [some (.ref h.length), some (.int (iI o)), some (.int (iI ((n : Int))))] [.int (iI 0)] (mh h R I1 A1 N) _
        exact go_r rfl rfl rfl rfl rfl rfl ⟨I1, A1, N, rfl, sj X.1, X.2.1, fun _ => X.2.2.1, Or.inl ⟨rfl, by omega, fun ⟨n2, l2, _, h9⟩ => by have en := isL_uq n0 n2 n o l2 hL; rcases h9 with ⟨h9, -⟩ | ⟨h9, -⟩ | ⟨-, h8, t1, t2⟩ | ⟨h9, -⟩ | ⟨h9, -⟩ | ⟨h9, -⟩ | ⟨h9, -⟩ | ⟨h9, -⟩ | ⟨h9, -⟩ | ⟨h9, -⟩ | ⟨h9, -⟩ | ⟨h9, -⟩; omega; omega; exact nT ⟨by rw [← h8]; exact l2, fun j j0 j1 => by rcases (show j = 1 ∨ j = 2 by omega) with rfl | rfl; exact t1; exact t2⟩; omega; omega; omega; omega; omega; omega; omega; omega; omega⟩⟩
      · show xx_go (xt_P z) (d + 10) 139 149 [some (.ref h.length), some (.int (iI o)), some (.int (iI ((n : Int))))] [.int (iI 1)] (mh h R I1 A1 N) _
        exact go_r rfl rfl rfl rfl rfl rfl ⟨I1, A1, N, rfl, sj X.1, X.2.1, fun _ => X.2.2.1, Or.inr ⟨rfl, fx (sj X.1) ⟨3, hLk, by decide, Or.inr (Or.inr (Or.inl ⟨by omega, rfl, hT9 1 (by decide) (by decide), hT9 2 (by decide) (by decide)⟩))⟩, fun q => by omega, fun _ => ⟨fun q => by omega, fun _ => by have := hC9 (by decide); omega, fun q => by omega, fun q => by omega, fun q => by omega, fun q => by omega, trivial⟩, ⟨3, hLk, by decide, Or.inr (Or.inr (Or.inl ⟨by omega, rfl, hT9 1 (by decide) (by decide), hT9 2 (by decide) (by decide)⟩))⟩⟩⟩
    · refine mi_ts (c := 35) (t := 150) rfl ef rfl ?_
      refine go_a (pc' := 151) (ls' := [some (.ref h.length), some (.int (iI o)), some (.int (iI ((n : Int))))]) (st' := [.ref h.length]) rfl rfl ?_
      refine go_a (pc' := 152) (ls' := [some (.ref h.length), some (.int (iI o)), some (.int (iI ((n : Int))))]) (st' := [.int (iI o), .ref h.length]) rfl rfl ?_
      refine go_a (pc' := 153) (ls' := [some (.ref h.length), some (.int (iI o)), some (.int (iI ((n : Int))))]) (st' := [.int (iI 1), .int (iI o), .ref h.length]) rfl rfl ?_
      refine go_a (pc' := 154) (ls' := [some (.ref h.length), some (.int (iI o)), some (.int (iI ((n : Int))))]) (st' := [.int (iI 4), .int (iI 1), .int (iI o), .ref h.length]) rfl rfl ?_
      refine go_v (m := 140) (as := [.ref h.length, .int (iI o), .int (iI 1), .int (iI 4)]) (r := []) rfl rfl rfl mh_o rfl rfl (mm_areTerms z (d + 1) 1 4 ar o h R I A N hc hB k0 k1 (by omega) (by omega) (by decide) (by decide)) (fun v h1 hq => ?_)
      obtain ⟨I1, A1, rfl, X, hv⟩ := hq
      have c7 := X.2.2.2
      have x7 := X.1.2.1
      rcases hv with ⟨rfl, nT⟩ | ⟨rfl, hLk, hT9, hC9⟩
      · show xx_go (xt_P z) (d + 10) 139 157 [some (.ref h.length), some (.int (iI o)), some (.int (iI ((n : Int))))] [.int (iI 0)] (mh h R I1 A1 N) _
        exact go_r rfl rfl rfl rfl rfl rfl ⟨I1, A1, N, rfl, sj X.1, X.2.1, fun _ => X.2.2.1, Or.inl ⟨rfl, by omega, fun ⟨n2, l2, _, h9⟩ => by have en := isL_uq n0 n2 n o l2 hL; rcases h9 with ⟨h9, -⟩ | ⟨h9, -⟩ | ⟨h9, -⟩ | ⟨-, h8, t1, t2, t3⟩ | ⟨h9, -⟩ | ⟨h9, -⟩ | ⟨h9, -⟩ | ⟨h9, -⟩ | ⟨h9, -⟩ | ⟨h9, -⟩ | ⟨h9, -⟩ | ⟨h9, -⟩; omega; omega; omega; exact nT ⟨by rw [← h8]; exact l2, fun j j0 j1 => by rcases (show j = 1 ∨ j = 2 ∨ j = 3 by omega) with rfl | rfl | rfl; exact t1; exact t2; exact t3⟩; omega; omega; omega; omega; omega; omega; omega; omega⟩⟩
      · show xx_go (xt_P z) (d + 10) 139 157 [some (.ref h.length), some (.int (iI o)), some (.int (iI ((n : Int))))] [.int (iI 1)] (mh h R I1 A1 N) _
        exact go_r rfl rfl rfl rfl rfl rfl ⟨I1, A1, N, rfl, sj X.1, X.2.1, fun _ => X.2.2.1, Or.inr ⟨rfl, fx (sj X.1) ⟨4, hLk, by decide, Or.inr (Or.inr (Or.inr (Or.inl ⟨by omega, rfl, hT9 1 (by decide) (by decide), hT9 2 (by decide) (by decide), hT9 3 (by decide) (by decide)⟩)))⟩, fun q => by omega, fun _ => ⟨fun q => by omega, fun _ => by have := hC9 (by decide); omega, fun q => by omega, fun q => by omega, fun q => by omega, fun q => by omega, trivial⟩, ⟨4, hLk, by decide, Or.inr (Or.inr (Or.inr (Or.inl ⟨by omega, rfl, hT9 1 (by decide) (by decide), hT9 2 (by decide) (by decide), hT9 3 (by decide) (by decide)⟩)))⟩⟩⟩
    · refine mi_ts (c := 36) (t := 150) rfl ef rfl ?_
      refine go_a (pc' := 151) (ls' := [some (.ref h.length), some (.int (iI o)), some (.int (iI ((n : Int))))]) (st' := [.ref h.length]) rfl rfl ?_
      refine go_a (pc' := 152) (ls' := [some (.ref h.length), some (.int (iI o)), some (.int (iI ((n : Int))))]) (st' := [.int (iI o), .ref h.length]) rfl rfl ?_
      refine go_a (pc' := 153) (ls' := [some (.ref h.length), some (.int (iI o)), some (.int (iI ((n : Int))))]) (st' := [.int (iI 1), .int (iI o), .ref h.length]) rfl rfl ?_
      refine go_a (pc' := 154) (ls' := [some (.ref h.length), some (.int (iI o)), some (.int (iI ((n : Int))))]) (st' := [.int (iI 4), .int (iI 1), .int (iI o), .ref h.length]) rfl rfl ?_
      refine go_v (m := 140) (as := [.ref h.length, .int (iI o), .int (iI 1), .int (iI 4)]) (r := []) rfl rfl rfl mh_o rfl rfl (mm_areTerms z (d + 1) 1 4 ar o h R I A N hc hB k0 k1 (by omega) (by omega) (by decide) (by decide)) (fun v h1 hq => ?_)
      obtain ⟨I1, A1, rfl, X, hv⟩ := hq
      have c7 := X.2.2.2
      have x7 := X.1.2.1
      rcases hv with ⟨rfl, nT⟩ | ⟨rfl, hLk, hT9, hC9⟩
      · show xx_go (xt_P z) (d + 10) 139 157 [some (.ref h.length), some (.int (iI o)), some (.int (iI ((n : Int))))] [.int (iI 0)] (mh h R I1 A1 N) _
        exact go_r rfl rfl rfl rfl rfl rfl ⟨I1, A1, N, rfl, sj X.1, X.2.1, fun _ => X.2.2.1, Or.inl ⟨rfl, by omega, fun ⟨n2, l2, _, h9⟩ => by have en := isL_uq n0 n2 n o l2 hL; rcases h9 with ⟨h9, -⟩ | ⟨h9, -⟩ | ⟨h9, -⟩ | ⟨-, h8, t1, t2, t3⟩ | ⟨h9, -⟩ | ⟨h9, -⟩ | ⟨h9, -⟩ | ⟨h9, -⟩ | ⟨h9, -⟩ | ⟨h9, -⟩ | ⟨h9, -⟩ | ⟨h9, -⟩; omega; omega; omega; exact nT ⟨by rw [← h8]; exact l2, fun j j0 j1 => by rcases (show j = 1 ∨ j = 2 ∨ j = 3 by omega) with rfl | rfl | rfl; exact t1; exact t2; exact t3⟩; omega; omega; omega; omega; omega; omega; omega; omega⟩⟩
      · show xx_go (xt_P z) (d + 10) 139 157 [some (.ref h.length), some (.int (iI o)), some (.int (iI ((n : Int))))] [.int (iI 1)] (mh h R I1 A1 N) _
        exact go_r rfl rfl rfl rfl rfl rfl ⟨I1, A1, N, rfl, sj X.1, X.2.1, fun _ => X.2.2.1, Or.inr ⟨rfl, fx (sj X.1) ⟨4, hLk, by decide, Or.inr (Or.inr (Or.inr (Or.inl ⟨by omega, rfl, hT9 1 (by decide) (by decide), hT9 2 (by decide) (by decide), hT9 3 (by decide) (by decide)⟩)))⟩, fun q => by omega, fun _ => ⟨fun q => by omega, fun _ => by have := hC9 (by decide); omega, fun q => by omega, fun q => by omega, fun q => by omega, fun q => by omega, trivial⟩, ⟨4, hLk, by decide, Or.inr (Or.inr (Or.inr (Or.inl ⟨by omega, rfl, hT9 1 (by decide) (by decide), hT9 2 (by decide) (by decide), hT9 3 (by decide) (by decide)⟩)))⟩⟩⟩
    · refine mi_ts (c := 37) (t := 158) rfl ef rfl ?_
      refine go_a (pc' := 159) (ls' := [some (.ref h.length), some (.int (iI o)), some (.int (iI ((n : Int))))]) (st' := [.int (iI ((n : Int)))]) rfl rfl ?_
      refine go_a (pc' := 160) (ls' := [some (.ref h.length), some (.int (iI o)), some (.int (iI ((n : Int))))]) (st' := [.int (iI 2), .int (iI ((n : Int)))]) rfl rfl ?_
      refine mi_ne (t := 181) rfl rfl (by omega) (by omega) (by omega) (by omega) (fun e2 => ?_) (fun e2 => ?_)
      · refine go_a (pc' := 182) (ls' := [some (.ref h.length), some (.int (iI o)), some (.int (iI ((n : Int))))]) (st' := [.int (iI 0)]) rfl rfl ?_
        exact go_r rfl rfl rfl rfl rfl rfl ⟨I, A, N, rfl, rf, hB, fun _ => rfl, Or.inl ⟨rfl, by omega, fun ⟨n2, l2, _, h9⟩ => by have en := isL_uq n0 n2 n o l2 hL; rcases h9 with ⟨h9, -⟩ | ⟨h9, -⟩ | ⟨h9, -⟩ | ⟨h9, -⟩ | ⟨-, h8, -⟩ | ⟨h9, -⟩ | ⟨h9, -⟩ | ⟨h9, -⟩ | ⟨h9, -⟩ | ⟨h9, -⟩ | ⟨h9, -⟩ | ⟨h9, -⟩; omega; omega; omega; omega; omega; omega; omega; omega; omega; omega; omega; omega⟩⟩
      · have en : n = 2 := by omega
        subst en
        have v2 := VD_rt hP k0 k1 hL (by decide : 1 < 2)
        refine go_a (pc' := 164) (ls' := [some (.ref h.length), some (.int (iI o)), some (.int (iI (((2 : Nat) : Int))))]) (st' := [.ref h.length]) rfl rfl ?_
        refine go_a (pc' := 165) (ls' := [some (.ref h.length), some (.int (iI o)), some (.int (iI (((2 : Nat) : Int))))]) (st' := [.ref h.length, .ref h.length]) rfl rfl ?_
        refine go_a (pc' := 166) (ls' := [some (.ref h.length), some (.int (iI o)), some (.int (iI (((2 : Nat) : Int))))]) (st' := [.int (iI o), .ref h.length, .ref h.length]) rfl rfl ?_
        refine go_a (pc' := 167) (ls' := [some (.ref h.length), some (.int (iI o)), some (.int (iI (((2 : Nat) : Int))))]) (st' := [.int (iI 1), .int (iI o), .ref h.length, .ref h.length]) rfl rfl ?_
        refine go_v (m := 99) (as := [.ref h.length, .int (iI o), .int (iI 1)]) (r := [.ref h.length]) rfl rfl rfl mh_o rfl rfl (mm_nth z (d + 9) 1 2 o h R I A N hc hP (by decide) k0 k1 hL (by decide)) (fun v h1 hq => ?_)
        obtain ⟨rfl, rfl⟩ := hq
        show xx_go (xt_P z) (d + 10) 139 170 [some (.ref h.length), some (.int (iI o)), some (.int (iI (((2 : Nat) : Int))))] [.int (iI (A 1 (rt A 1 o))), .ref h.length] (mh h R I A N) _
        have rd := DFS_rd hB
        refine go_v (m := 132) (as := [.ref h.length, .int (iI (A 1 (rt A 1 o)))]) (r := []) rfl rfl rfl mh_o rfl rfl (mm_definitionF z (d + 9) (A 1 (rt A 1 o)) h R I A N hc (by omega) (by omega) rd.1.1 rd.1.2 rd.2) (fun v h1 hq => ?_)
        obtain ⟨⟨e9, rfl, he⟩, rfl⟩ := hq
        have er : -1 ≤ e9 ∧ e9 < 60 := by
          rcases he with q | q
          · omega
          · have := rd.1; omega
        show xx_go (xt_P z) (d + 10) 139 173 [some (.ref h.length), some (.int (iI o)), some (.int (iI (((2 : Nat) : Int))))] [.int (iI e9)] (mh h R I A N) _
        refine go_a (pc' := 174) (ls' := [some (.ref h.length), some (.int (iI o)), some (.int (iI (((2 : Nat) : Int))))]) (st' := [.int (iI ((-1))), .int (iI e9)]) rfl rfl ?_
        refine mi_eq (t := 181) rfl rfl (by omega) (by omega) (by omega) (by omega) (fun e5 => ?_) (fun e5 => ?_)
        · have nf9 : ∀ e : Int, 0 ≤ e → e < I 32 → A 20 e ≠ A 1 (rt A 1 o) := by
            rcases he with q | q
            · exact q.2
            · omega
          refine go_a (pc' := 182) (ls' := [some (.ref h.length), some (.int (iI o)), some (.int (iI (((2 : Nat) : Int))))]) (st' := [.int (iI 0)]) rfl rfl ?_
          exact go_r rfl rfl rfl rfl rfl rfl ⟨I, A, N, rfl, rf, hB, fun _ => rfl, Or.inl ⟨rfl, by omega, fun ⟨n2, l2, _, h9⟩ => by have en := isL_uq n0 n2 2 o l2 hL; rcases h9 with ⟨h9, -⟩ | ⟨h9, -⟩ | ⟨h9, -⟩ | ⟨h9, -⟩ | ⟨-, -, e1, e2, e3, e4⟩ | ⟨h9, -⟩ | ⟨h9, -⟩ | ⟨h9, -⟩ | ⟨h9, -⟩ | ⟨h9, -⟩ | ⟨h9, -⟩ | ⟨h9, -⟩; omega; omega; omega; omega; exact nf9 e1 e2 e3 e4; omega; omega; omega; omega; omega; omega; omega⟩⟩
        · have FM : FORM ar I A N o := by
            rcases he with q | q
            · exact absurd q.1 e5
            · exact ⟨2, hL, by decide, Or.inr (Or.inr (Or.inr (Or.inr (Or.inl ⟨by omega, rfl, e9, q.1, q.2.1, q.2.2.1⟩))))⟩
          have FX : FOX ar ft I A N o := by
            rcases he with q | q
            · exact absurd q.1 e5
            · exact ⟨2, hL, by decide, Or.inr (Or.inr (Or.inr (Or.inr (Or.inl ⟨by omega, rfl, e9, q.1, q.2.1, q.2.2.1⟩))))⟩
          refine go_a (pc' := 178) (ls' := [some (.ref h.length), some (.int (iI o)), some (.int (iI (((2 : Nat) : Int))))]) (st' := [.int (iI 1)]) rfl rfl ?_
          refine go_a (pc' := 182) (ls' := [some (.ref h.length), some (.int (iI o)), some (.int (iI (((2 : Nat) : Int))))]) (st' := [.int (iI 1)]) rfl rfl ?_
          exact go_r rfl rfl rfl rfl rfl rfl ⟨I, A, N, rfl, rf, hB, fun _ => rfl, Or.inr ⟨rfl, FM, fun q => by omega, fun _ => ⟨fun q => by omega, fun q => by omega, fun _ => by omega, fun q => by omega, fun q => by omega, fun q => by omega, trivial⟩, FX⟩⟩
    · refine mi_ts (c := 38) (t := 183) rfl ef rfl ?_
      refine go_a (pc' := 184) (ls' := [some (.ref h.length), some (.int (iI o)), some (.int (iI ((n : Int))))]) (st' := [.int (iI ((n : Int)))]) rfl rfl ?_
      refine go_a (pc' := 185) (ls' := [some (.ref h.length), some (.int (iI o)), some (.int (iI ((n : Int))))]) (st' := [.int (iI 2), .int (iI ((n : Int)))]) rfl rfl ?_
      refine mi_ne (t := 206) rfl rfl (by omega) (by omega) (by omega) (by omega) (fun e2 => ?_) (fun e2 => ?_)
      · refine go_a (pc' := 207) (ls' := [some (.ref h.length), some (.int (iI o)), some (.int (iI ((n : Int))))]) (st' := [.int (iI 0)]) rfl rfl ?_
        exact go_r rfl rfl rfl rfl rfl rfl ⟨I, A, N, rfl, rf, hB, fun _ => rfl, Or.inl ⟨rfl, by omega, fun ⟨n2, l2, _, h9⟩ => by have en := isL_uq n0 n2 n o l2 hL; rcases h9 with ⟨h9, -⟩ | ⟨h9, -⟩ | ⟨h9, -⟩ | ⟨h9, -⟩ | ⟨h9, -⟩ | ⟨-, h8, -⟩ | ⟨h9, -⟩ | ⟨h9, -⟩ | ⟨h9, -⟩ | ⟨h9, -⟩ | ⟨h9, -⟩ | ⟨h9, -⟩; omega; omega; omega; omega; omega; omega; omega; omega; omega; omega; omega; omega⟩⟩
      · have en : n = 2 := by omega
        subst en
        have v2 := VD_rt hP k0 k1 hL (by decide : 1 < 2)
        refine go_a (pc' := 189) (ls' := [some (.ref h.length), some (.int (iI o)), some (.int (iI (((2 : Nat) : Int))))]) (st' := [.ref h.length]) rfl rfl ?_
        refine go_a (pc' := 190) (ls' := [some (.ref h.length), some (.int (iI o)), some (.int (iI (((2 : Nat) : Int))))]) (st' := [.ref h.length, .ref h.length]) rfl rfl ?_
        refine go_a (pc' := 191) (ls' := [some (.ref h.length), some (.int (iI o)), some (.int (iI (((2 : Nat) : Int))))]) (st' := [.int (iI o), .ref h.length, .ref h.length]) rfl rfl ?_
        refine go_a (pc' := 192) (ls' := [some (.ref h.length), some (.int (iI o)), some (.int (iI (((2 : Nat) : Int))))]) (st' := [.int (iI 1), .int (iI o), .ref h.length, .ref h.length]) rfl rfl ?_
        refine go_v (m := 99) (as := [.ref h.length, .int (iI o), .int (iI 1)]) (r := [.ref h.length]) rfl rfl rfl mh_o rfl rfl (mm_nth z (d + 9) 1 2 o h R I A N hc hP (by decide) k0 k1 hL (by decide)) (fun v h1 hq => ?_)
        obtain ⟨rfl, rfl⟩ := hq
        show xx_go (xt_P z) (d + 10) 139 195 [some (.ref h.length), some (.int (iI o)), some (.int (iI (((2 : Nat) : Int))))] [.int (iI (A 1 (rt A 1 o))), .ref h.length] (mh h R I A N) _
        have rd := hB.2.2.1
        refine go_v (m := 135) (as := [.ref h.length, .int (iI (A 1 (rt A 1 o)))]) (r := []) rfl rfl rfl mh_o rfl rfl (mm_theoremOfF z (d + 9) (A 1 (rt A 1 o)) h R I A N hc (by omega) (by omega) rd.1.2.1 rd.1.2.2 (fun e e0 e1 => (rd.2.2 e e0 e1).1)) (fun v h1 hq => ?_)
        obtain ⟨⟨e9, rfl, he⟩, rfl⟩ := hq
        have er : -1 ≤ e9 ∧ e9 < 60 := by
          rcases he with q | q
          · omega
          · have := rd.1; omega
        show xx_go (xt_P z) (d + 10) 139 198 [some (.ref h.length), some (.int (iI o)), some (.int (iI (((2 : Nat) : Int))))] [.int (iI e9)] (mh h R I A N) _
        refine go_a (pc' := 199) (ls' := [some (.ref h.length), some (.int (iI o)), some (.int (iI (((2 : Nat) : Int))))]) (st' := [.int (iI ((-1))), .int (iI e9)]) rfl rfl ?_
        refine mi_eq (t := 206) rfl rfl (by omega) (by omega) (by omega) (by omega) (fun e5 => ?_) (fun e5 => ?_)
        · have nf9 : ∀ e : Int, 0 ≤ e → e < I 38 → A 25 e ≠ A 1 (rt A 1 o) := by
            rcases he with q | q
            · exact q.2
            · omega
          refine go_a (pc' := 207) (ls' := [some (.ref h.length), some (.int (iI o)), some (.int (iI (((2 : Nat) : Int))))]) (st' := [.int (iI 0)]) rfl rfl ?_
          exact go_r rfl rfl rfl rfl rfl rfl ⟨I, A, N, rfl, rf, hB, fun _ => rfl, Or.inl ⟨rfl, by omega, fun ⟨n2, l2, _, h9⟩ => by have en := isL_uq n0 n2 2 o l2 hL; rcases h9 with ⟨h9, -⟩ | ⟨h9, -⟩ | ⟨h9, -⟩ | ⟨h9, -⟩ | ⟨h9, -⟩ | ⟨-, -, e1, e2, e3, e4⟩ | ⟨h9, -⟩ | ⟨h9, -⟩ | ⟨h9, -⟩ | ⟨h9, -⟩ | ⟨h9, -⟩ | ⟨h9, -⟩; omega; omega; omega; omega; omega; exact nf9 e1 e2 e3 e4; omega; omega; omega; omega; omega; omega⟩⟩
        · have FM : FORM ar I A N o := by
            rcases he with q | q
            · exact absurd q.1 e5
            · exact ⟨2, hL, by decide, Or.inr (Or.inr (Or.inr (Or.inr (Or.inr (Or.inl ⟨by omega, rfl, e9, q.1, q.2.1, q.2.2.1⟩)))))⟩
          have FX : FOX ar ft I A N o := by
            rcases he with q | q
            · exact absurd q.1 e5
            · exact ⟨2, hL, by decide, Or.inr (Or.inr (Or.inr (Or.inr (Or.inr (Or.inl ⟨by omega, rfl, e9, q.1, q.2.1, q.2.2.1⟩)))))⟩
          refine go_a (pc' := 203) (ls' := [some (.ref h.length), some (.int (iI o)), some (.int (iI (((2 : Nat) : Int))))]) (st' := [.int (iI 1)]) rfl rfl ?_
          refine go_a (pc' := 207) (ls' := [some (.ref h.length), some (.int (iI o)), some (.int (iI (((2 : Nat) : Int))))]) (st' := [.int (iI 1)]) rfl rfl ?_
          exact go_r rfl rfl rfl rfl rfl rfl ⟨I, A, N, rfl, rf, hB, fun _ => rfl, Or.inr ⟨rfl, FM, fun q => by omega, fun _ => ⟨fun q => by omega, fun q => by omega, fun _ => by omega, fun q => by omega, fun q => by omega, fun q => by omega, trivial⟩, FX⟩⟩
    · refine mi_ts (c := 39) (t := 208) rfl ef rfl ?_
      refine go_a (pc' := 209) (ls' := [some (.ref h.length), some (.int (iI o)), some (.int (iI ((n : Int))))]) (st' := [.int (iI ((n : Int)))]) rfl rfl ?_
      refine go_a (pc' := 210) (ls' := [some (.ref h.length), some (.int (iI o)), some (.int (iI ((n : Int))))]) (st' := [.int (iI 3), .int (iI ((n : Int)))]) rfl rfl ?_
      refine mi_ne (t := 230) rfl rfl (by omega) (by omega) (by omega) (by omega) (fun e2 => ?_) (fun e2 => ?_)
      · refine go_a (pc' := 231) (ls' := [some (.ref h.length), some (.int (iI o)), some (.int (iI ((n : Int))))]) (st' := [.int (iI 0)]) rfl rfl ?_
        exact go_r rfl rfl rfl rfl rfl rfl ⟨I, A, N, rfl, rf, hB, fun _ => rfl, Or.inl ⟨rfl, by omega, fun ⟨n2, l2, _, h9⟩ => by have en := isL_uq n0 n2 n o l2 hL; rcases h9 with ⟨h9, -⟩ | ⟨h9, -⟩ | ⟨h9, -⟩ | ⟨h9, -⟩ | ⟨h9, -⟩ | ⟨h9, -⟩ | ⟨-, h8, -⟩ | ⟨h9, -⟩ | ⟨h9, -⟩ | ⟨h9, -⟩ | ⟨h9, -⟩ | ⟨h9, -⟩; omega; omega; omega; omega; omega; omega; omega; omega; omega; omega; omega; omega⟩⟩
      · have en : n = 3 := by omega
        subst en
        have v2 := VD_rt hP k0 k1 hL (by decide : 1 < 3)
        have vw := VD_le hP v2.2.1.1 v2.2.1.2 n0 (by rw [hB.1.2.1.2 2 (by decide) (by decide)]; decide)
        have vn := VD_nn A (A 1 (rt A 1 o))
        refine go_a (pc' := 214) (ls' := [some (.ref h.length), some (.int (iI o)), some (.int (iI (((3 : Nat) : Int))))]) (st' := [.ref h.length]) rfl rfl ?_
        refine go_a (pc' := 215) (ls' := [some (.ref h.length), some (.int (iI o)), some (.int (iI (((3 : Nat) : Int))))]) (st' := [.ref h.length, .ref h.length]) rfl rfl ?_
        refine go_a (pc' := 216) (ls' := [some (.ref h.length), some (.int (iI o)), some (.int (iI (((3 : Nat) : Int))))]) (st' := [.int (iI o), .ref h.length, .ref h.length]) rfl rfl ?_
        refine go_a (pc' := 217) (ls' := [some (.ref h.length), some (.int (iI o)), some (.int (iI (((3 : Nat) : Int))))]) (st' := [.int (iI 1), .int (iI o), .ref h.length, .ref h.length]) rfl rfl ?_
        refine go_v (m := 99) (as := [.ref h.length, .int (iI o), .int (iI 1)]) (r := [.ref h.length]) rfl rfl rfl mh_o rfl rfl (mm_nth z (d + 9) 1 3 o h R I A N hc hP (by decide) k0 k1 hL (by decide)) (fun v h1 hq => ?_)
        obtain ⟨rfl, rfl⟩ := hq
        show xx_go (xt_P z) (d + 10) 139 220 [some (.ref h.length), some (.int (iI o)), some (.int (iI (((3 : Nat) : Int))))] [.int (iI (A 1 (rt A 1 o))), .ref h.length] (mh h R I A N) _
        refine go_v (m := 148) (as := [.ref h.length, .int (iI (A 1 (rt A 1 o)))]) (r := []) rfl rfl rfl mh_o rfl rfl (mm_isTermList z d ar (A 1 (rt A 1 o)) h R I A N hc hB v2.2.1.1 v2.2.1.2 (by omega) (by omega)) (fun v h1 hq => ?_)
        obtain ⟨I1, A1, rfl, X, hv⟩ := hq
        have c7 := X.2.2.2
        rcases hv with ⟨rfl, nT⟩ | ⟨rfl, m, lm, hT9⟩
        · show xx_go (xt_P z) (d + 10) 139 223 [some (.ref h.length), some (.int (iI o)), some (.int (iI (((3 : Nat) : Int))))] [.int (iI 0)] (mh h R I1 A1 N) _
          refine mi_eq0 (t := 230) rfl rfl (by omega) (by omega) (fun _ => ?_) (fun q => absurd rfl q)
          refine go_a (pc' := 231) (ls' := [some (.ref h.length), some (.int (iI o)), some (.int (iI (((3 : Nat) : Int))))]) (st' := [.int (iI 0)]) rfl rfl ?_
          exact go_r rfl rfl rfl rfl rfl rfl ⟨I1, A1, N, rfl, sj X.1, X.2.1, fun _ => X.2.2.1, Or.inl ⟨rfl, by omega, fun ⟨n2, l2, _, h9⟩ => by have en := isL_uq n0 n2 3 o l2 hL; rcases h9 with ⟨h9, -⟩ | ⟨h9, -⟩ | ⟨h9, -⟩ | ⟨h9, -⟩ | ⟨h9, -⟩ | ⟨h9, -⟩ | ⟨-, -, hm9⟩ | ⟨h9, -⟩ | ⟨h9, -⟩ | ⟨h9, -⟩ | ⟨h9, -⟩ | ⟨h9, -⟩; omega; omega; omega; omega; omega; omega; exact nT hm9; omega; omega; omega; omega; omega⟩⟩
        · show xx_go (xt_P z) (d + 10) 139 223 [some (.ref h.length), some (.int (iI o)), some (.int (iI (((3 : Nat) : Int))))] [.int (iI 1)] (mh h R I1 A1 N) _
          refine mi_eq0 (t := 230) rfl rfl (by omega) (by omega) (fun q => absurd q (by decide)) (fun _ => ?_)
          refine go_a (pc' := 227) (ls' := [some (.ref h.length), some (.int (iI o)), some (.int (iI (((3 : Nat) : Int))))]) (st' := [.int (iI 1)]) rfl rfl ?_
          refine go_a (pc' := 231) (ls' := [some (.ref h.length), some (.int (iI o)), some (.int (iI (((3 : Nat) : Int))))]) (st' := [.int (iI 1)]) rfl rfl ?_
          exact go_r rfl rfl rfl rfl rfl rfl ⟨I1, A1, N, rfl, sj X.1, X.2.1, fun _ => X.2.2.1, Or.inr ⟨rfl, fx (sj X.1) ⟨3, hL, by decide, Or.inr (Or.inr (Or.inr (Or.inr (Or.inr (Or.inr (Or.inl ⟨by omega, rfl, m, lm, hT9⟩))))))⟩, fun q => by omega, fun _ => ⟨fun q => by omega, fun q => by omega, fun q => by omega, fun _ => by omega, fun q => by omega, fun q => by omega, trivial⟩, ⟨3, hL, by decide, Or.inr (Or.inr (Or.inr (Or.inr (Or.inr (Or.inr (Or.inl ⟨by omega, rfl, m, lm, hT9⟩))))))⟩⟩⟩
    · refine mi_ts (c := 40) (t := 232) rfl ef rfl ?_
      refine go_a (pc' := 233) (ls' := [some (.ref h.length), some (.int (iI o)), some (.int (iI ((n : Int))))]) (st' := [.int (iI ((n : Int)))]) rfl rfl ?_
      refine go_a (pc' := 234) (ls' := [some (.ref h.length), some (.int (iI o)), some (.int (iI ((n : Int))))]) (st' := [.int (iI 4), .int (iI ((n : Int)))]) rfl rfl ?_
      refine mi_ne (t := 255) rfl rfl (by omega) (by omega) (by omega) (by omega) (fun e2 => ?_) (fun e2 => ?_)
      · refine go_a (pc' := 256) (ls' := [some (.ref h.length), some (.int (iI o)), some (.int (iI ((n : Int))))]) (st' := [.int (iI 0)]) rfl rfl ?_
        exact go_r rfl rfl rfl rfl rfl rfl ⟨I, A, N, rfl, rf, hB, fun _ => rfl, Or.inl ⟨rfl, by omega, fun ⟨n2, l2, _, h9⟩ => by have en := isL_uq n0 n2 n o l2 hL; rcases h9 with ⟨h9, -⟩ | ⟨h9, -⟩ | ⟨h9, -⟩ | ⟨h9, -⟩ | ⟨h9, -⟩ | ⟨h9, -⟩ | ⟨h9, -⟩ | ⟨-, h8, -⟩ | ⟨h9, -⟩ | ⟨h9, -⟩ | ⟨h9, -⟩ | ⟨h9, -⟩; omega; omega; omega; omega; omega; omega; omega; omega; omega; omega; omega; omega⟩⟩
      · have en : n = 4 := by omega
        subst en
        have v2 := VD_rt hP k0 k1 hL (by decide : 1 < 4)
        refine go_a (pc' := 238) (ls' := [some (.ref h.length), some (.int (iI o)), some (.int (iI (((4 : Nat) : Int))))]) (st' := [.ref h.length]) rfl rfl ?_
        refine go_a (pc' := 239) (ls' := [some (.ref h.length), some (.int (iI o)), some (.int (iI (((4 : Nat) : Int))))]) (st' := [.ref h.length, .ref h.length]) rfl rfl ?_
        refine go_a (pc' := 240) (ls' := [some (.ref h.length), some (.int (iI o)), some (.int (iI (((4 : Nat) : Int))))]) (st' := [.int (iI o), .ref h.length, .ref h.length]) rfl rfl ?_
        refine go_a (pc' := 241) (ls' := [some (.ref h.length), some (.int (iI o)), some (.int (iI (((4 : Nat) : Int))))]) (st' := [.int (iI 1), .int (iI o), .ref h.length, .ref h.length]) rfl rfl ?_
        refine go_v (m := 99) (as := [.ref h.length, .int (iI o), .int (iI 1)]) (r := [.ref h.length]) rfl rfl rfl mh_o rfl rfl (mm_nth z (d + 9) 1 4 o h R I A N hc hP (by decide) k0 k1 hL (by decide)) (fun v h1 hq => ?_)
        obtain ⟨rfl, rfl⟩ := hq
        show xx_go (xt_P z) (d + 10) 139 244 [some (.ref h.length), some (.int (iI o)), some (.int (iI (((4 : Nat) : Int))))] [.int (iI (A 1 (rt A 1 o))), .ref h.length] (mh h R I A N) _
        refine go_v (m := 105) (as := [.ref h.length, .int (iI (A 1 (rt A 1 o)))]) (r := []) rfl rfl rfl mh_o rfl rfl (mm_termQ z (d + 2) ar (A 1 (rt A 1 o)) h R I A N hc hB v2.2.1.1 v2.2.1.2 (by omega) (by omega)) (fun v h1 hq => ?_)
        obtain ⟨t, I1, A1, rfl, rfl, Q⟩ := hq
        have X := TQ_SX Q
        have c7 := X.2.2.2
        have tr : -1 ≤ t ∧ t < 140000 := by
          have := (BI_P Q.2.1).1
          rcases Q.2.2.2.2 with q | q
          · omega
          · omega
        show xx_go (xt_P z) (d + 10) 139 247 [some (.ref h.length), some (.int (iI o)), some (.int (iI (((4 : Nat) : Int))))] [.int (iI t)] (mh h R I1 A1 N) _
        refine go_a (pc' := 248) (ls' := [some (.ref h.length), some (.int (iI o)), some (.int (iI (((4 : Nat) : Int))))]) (st' := [.int (iI ((-1))), .int (iI t)]) rfl rfl ?_
        refine mi_eq (t := 255) rfl rfl (by omega) (by omega) (by omega) (by omega) (fun e5 => ?_) (fun e5 => ?_)
        · have nk : ¬ TOK A ar (A 1 (rt A 1 o)) := by
            rcases Q.2.2.2.2 with q | q
            · exact q.2
            · omega
          refine go_a (pc' := 256) (ls' := [some (.ref h.length), some (.int (iI o)), some (.int (iI (((4 : Nat) : Int))))]) (st' := [.int (iI 0)]) rfl rfl ?_
          exact go_r rfl rfl rfl rfl rfl rfl ⟨I1, A1, N, rfl, sj X.1, X.2.1, fun _ => X.2.2.1, Or.inl ⟨rfl, by omega, fun ⟨n2, l2, _, h9⟩ => by have en := isL_uq n0 n2 4 o l2 hL; rcases h9 with ⟨h9, -⟩ | ⟨h9, -⟩ | ⟨h9, -⟩ | ⟨h9, -⟩ | ⟨h9, -⟩ | ⟨h9, -⟩ | ⟨h9, -⟩ | ⟨-, -, t1⟩ | ⟨h9, -⟩ | ⟨h9, -⟩ | ⟨h9, -⟩ | ⟨h9, -⟩; omega; omega; omega; omega; omega; omega; omega; exact nk t1; omega; omega; omega; omega⟩⟩
        · have tk : TOK A ar (A 1 (rt A 1 o)) := by
            rcases Q.2.2.2.2 with q | q
            · exact absurd q.1 e5
            · exact q.2.2.1
          refine go_a (pc' := 252) (ls' := [some (.ref h.length), some (.int (iI o)), some (.int (iI (((4 : Nat) : Int))))]) (st' := [.int (iI 1)]) rfl rfl ?_
          refine go_a (pc' := 256) (ls' := [some (.ref h.length), some (.int (iI o)), some (.int (iI (((4 : Nat) : Int))))]) (st' := [.int (iI 1)]) rfl rfl ?_
          exact go_r rfl rfl rfl rfl rfl rfl ⟨I1, A1, N, rfl, sj X.1, X.2.1, fun _ => X.2.2.1, Or.inr ⟨rfl, fx (sj X.1) ⟨4, hL, by decide, Or.inr (Or.inr (Or.inr (Or.inr (Or.inr (Or.inr (Or.inr (Or.inl ⟨by omega, rfl, tk⟩)))))))⟩, fun q => by omega, fun _ => ⟨fun q => by omega, fun q => by omega, fun q => by omega, fun q => by omega, fun _ => by omega, fun q => by omega, trivial⟩, ⟨4, hL, by decide, Or.inr (Or.inr (Or.inr (Or.inr (Or.inr (Or.inr (Or.inr (Or.inl ⟨by omega, rfl, tk⟩)))))))⟩⟩⟩
    · refine mi_ts (c := 41) (t := 257) rfl ef rfl ?_
      refine go_a (pc' := 258) (ls' := [some (.ref h.length), some (.int (iI o)), some (.int (iI ((n : Int))))]) (st' := [.int (iI ((n : Int)))]) rfl rfl ?_
      refine go_a (pc' := 259) (ls' := [some (.ref h.length), some (.int (iI o)), some (.int (iI ((n : Int))))]) (st' := [.int (iI 2), .int (iI ((n : Int)))]) rfl rfl ?_
      refine mi_lt (t := 284) rfl rfl (by omega) (by omega) (by omega) (by omega) (fun e2 => ?_) (fun e2 => ?_)
      · refine go_a (pc' := 285) (ls' := [some (.ref h.length), some (.int (iI o)), some (.int (iI ((n : Int))))]) (st' := [.int (iI 0)]) rfl rfl ?_
        exact go_r rfl rfl rfl rfl rfl rfl ⟨I, A, N, rfl, rf, hB, fun _ => rfl, Or.inl ⟨rfl, by omega, fun ⟨n2, l2, _, h9⟩ => by have en := isL_uq n0 n2 n o l2 hL; rcases h9 with ⟨h9, -⟩ | ⟨h9, -⟩ | ⟨h9, -⟩ | ⟨h9, -⟩ | ⟨h9, -⟩ | ⟨h9, -⟩ | ⟨h9, -⟩ | ⟨h9, -⟩ | ⟨-, h8, -⟩ | ⟨h9, -⟩ | ⟨h9, -⟩ | ⟨h9, -⟩; omega; omega; omega; omega; omega; omega; omega; omega; omega; omega; omega; omega⟩⟩
      · have r1 := isL_rt hP n 1 o k0 k1 hL (by omega)
        have r1 : 0 ≤ A 2 o ∧ A 2 o ≤ o ∧ 0 ≤ A 1 (A 2 o) := r1
        have q3 := hP.2 (A 2 o) r1.1 (by omega)
        have q4 := q3.2.2.2.2 r1.2.2
        have v2 := VD_rt hP k0 k1 hL (by omega : 1 < n)
        have v2e : VD A (rt A 1 o) = WD A (A 1 (rt A 1 o)) + VD A (A 2 (A 2 o)) := v2.1
        have vn := VD_nn A (A 2 (A 2 o))
        refine go_a (pc' := 263) (ls' := [some (.ref h.length), some (.int (iI o)), some (.int (iI ((n : Int))))]) (st' := [.ref h.length]) rfl rfl ?_
        refine go_a (pc' := 264) (ls' := [some (.ref h.length), some (.int (iI o)), some (.int (iI ((n : Int))))]) (st' := [.ref h.length, .ref h.length]) rfl rfl ?_
        refine go_get rfl mh_o rfl rfl ?_
        refine go_a (pc' := 268) (ls' := [some (.ref h.length), some (.int (iI o)), some (.int (iI ((n : Int))))]) (st' := [.ref h.length, .ref (h.length + 2), .ref h.length]) rfl rfl ?_
        refine go_get rfl mh_o rfl rfl ?_
        refine go_a (pc' := 272) (ls' := [some (.ref h.length), some (.int (iI o)), some (.int (iI ((n : Int))))]) (st' := [.int (iI o), .ref (h.length + 2), .ref (h.length + 2), .ref h.length]) rfl rfl ?_
        refine mi_ild rfl mh_a2 (by omega) (by omega) (by decide) ?_
        refine mi_ild rfl mh_a2 (by omega) (by omega) (by decide) ?_
        refine go_v (m := 149) (as := [.ref h.length, .int (iI (A 2 (A 2 o)))]) (r := []) rfl rfl rfl mh_o rfl rfl (mm_arePairs z (d + 1) ar (A 2 (A 2 o)) h R I A N hc hB q3.2.2.1 (by omega) (by omega) (by omega)) (fun v h1 hq => ?_)
        obtain ⟨I1, A1, rfl, hv⟩ := hq
        rcases hv with ⟨rfl, X, nT⟩ | ⟨rfl, m, X, lm, hT9, hD9⟩
        · have c7 := X.2.2.2
          show xx_go (xt_P z) (d + 10) 139 277 [some (.ref h.length), some (.int (iI o)), some (.int (iI ((n : Int))))] [.int (iI 0)] (mh h R I1 A1 N) _
          refine mi_eq0 (t := 284) rfl rfl (by omega) (by omega) (fun _ => ?_) (fun q => absurd rfl q)
          refine go_a (pc' := 285) (ls' := [some (.ref h.length), some (.int (iI o)), some (.int (iI ((n : Int))))]) (st' := [.int (iI 0)]) rfl rfl ?_
          exact go_r rfl rfl rfl rfl rfl rfl ⟨I1, A1, N, rfl, sj X.1, X.2.1, fun _ => X.2.2.1, Or.inl ⟨rfl, by omega, fun ⟨n2, l2, _, h9⟩ => by have en := isL_uq n0 n2 n o l2 hL; rcases h9 with ⟨h9, -⟩ | ⟨h9, -⟩ | ⟨h9, -⟩ | ⟨h9, -⟩ | ⟨h9, -⟩ | ⟨h9, -⟩ | ⟨h9, -⟩ | ⟨h9, -⟩ | ⟨-, -, hm9⟩ | ⟨h9, -⟩ | ⟨h9, -⟩ | ⟨h9, -⟩; omega; omega; omega; omega; omega; omega; omega; omega; exact nT hm9; omega; omega; omega⟩⟩
        · have c7 := X.2.2.2
          show xx_go (xt_P z) (d + 10) 139 277 [some (.ref h.length), some (.int (iI o)), some (.int (iI ((n : Int))))] [.int (iI 1)] (mh h R I1 A1 N) _
          refine mi_eq0 (t := 284) rfl rfl (by omega) (by omega) (fun q => absurd q (by decide)) (fun _ => ?_)
          refine go_a (pc' := 281) (ls' := [some (.ref h.length), some (.int (iI o)), some (.int (iI ((n : Int))))]) (st' := [.int (iI 1)]) rfl rfl ?_
          refine go_a (pc' := 285) (ls' := [some (.ref h.length), some (.int (iI o)), some (.int (iI ((n : Int))))]) (st' := [.int (iI 1)]) rfl rfl ?_
          exact go_r rfl rfl rfl rfl rfl rfl ⟨I1, A1, N, rfl, sj X.1, X.2.1, fun _ => X.2.2.1, Or.inr ⟨rfl, fx (sj X.1) ⟨n, hL, n1, Or.inr (Or.inr (Or.inr (Or.inr (Or.inr (Or.inr (Or.inr (Or.inr (Or.inl ⟨by omega, by omega, m, lm, hT9, hD9⟩))))))))⟩, fun q => by omega, fun _ => ⟨fun q => by omega, fun q => by omega, fun q => by omega, fun q => by omega, fun q => by omega, fun _ m2 l2 => by rw [isL_uq n0 m2 m _ l2 lm]; omega, trivial⟩, ⟨n, hL, n1, Or.inr (Or.inr (Or.inr (Or.inr (Or.inr (Or.inr (Or.inr (Or.inr (Or.inl ⟨by omega, by omega, m, lm, hT9, hD9⟩))))))))⟩⟩⟩
    · refine mi_ts (c := 42) (t := 286) rfl ef rfl ?_
      refine go_a (pc' := 287) (ls' := [some (.ref h.length), some (.int (iI o)), some (.int (iI ((n : Int))))]) (st' := [.int (iI ((n : Int)))]) rfl rfl ?_
      refine go_a (pc' := 288) (ls' := [some (.ref h.length), some (.int (iI o)), some (.int (iI ((n : Int))))]) (st' := [.int (iI 2), .int (iI ((n : Int)))]) rfl rfl ?_
      refine mi_ne (t := 295) rfl rfl (by omega) (by omega) (by omega) (by omega) (fun e2 => ?_) (fun e2 => ?_)
      · refine go_a (pc' := 296) (ls' := [some (.ref h.length), some (.int (iI o)), some (.int (iI ((n : Int))))]) (st' := [.int (iI 0)]) rfl rfl ?_
        exact go_r rfl rfl rfl rfl rfl rfl ⟨I, A, N, rfl, rf, hB, fun _ => rfl, Or.inl ⟨rfl, by omega, fun ⟨n2, l2, _, h9⟩ => by have en := isL_uq n0 n2 n o l2 hL; rcases h9 with ⟨h9, -⟩ | ⟨h9, -⟩ | ⟨h9, -⟩ | ⟨h9, -⟩ | ⟨h9, -⟩ | ⟨h9, -⟩ | ⟨h9, -⟩ | ⟨h9, -⟩ | ⟨h9, -⟩ | ⟨-, h8⟩ | ⟨h9, -⟩ | ⟨h9, -⟩; omega; omega; omega; omega; omega; omega; omega; omega; omega; omega; omega; omega⟩⟩
      · refine go_a (pc' := 292) (ls' := [some (.ref h.length), some (.int (iI o)), some (.int (iI ((n : Int))))]) (st' := [.int (iI 1)]) rfl rfl ?_
        refine go_a (pc' := 296) (ls' := [some (.ref h.length), some (.int (iI o)), some (.int (iI ((n : Int))))]) (st' := [.int (iI 1)]) rfl rfl ?_
        exact go_r rfl rfl rfl rfl rfl rfl ⟨I, A, N, rfl, rf, hB, fun _ => rfl, Or.inr ⟨rfl, ⟨n, hL, n1, Or.inr (Or.inr (Or.inr (Or.inr (Or.inr (Or.inr (Or.inr (Or.inr (Or.inr (Or.inl ⟨by omega, by omega⟩)))))))))⟩, fun q => by omega, fun _ => ⟨fun q => by omega, fun q => by omega, fun _ => by omega, fun q => by omega, fun q => by omega, fun q => by omega, trivial⟩, ⟨n, hL, n1, Or.inr (Or.inr (Or.inr (Or.inr (Or.inr (Or.inr (Or.inr (Or.inr (Or.inr (Or.inl ⟨by omega, by omega⟩)))))))))⟩⟩⟩
    · refine mi_ts (c := 43) (t := 297) rfl ef rfl ?_
      refine go_a (pc' := 298) (ls' := [some (.ref h.length), some (.int (iI o)), some (.int (iI ((n : Int))))]) (st' := [.int (iI ((n : Int)))]) rfl rfl ?_
      refine go_a (pc' := 299) (ls' := [some (.ref h.length), some (.int (iI o)), some (.int (iI ((n : Int))))]) (st' := [.int (iI 3), .int (iI ((n : Int)))]) rfl rfl ?_
      refine mi_ne (t := 306) rfl rfl (by omega) (by omega) (by omega) (by omega) (fun e2 => ?_) (fun e2 => ?_)
      · refine go_a (pc' := 307) (ls' := [some (.ref h.length), some (.int (iI o)), some (.int (iI ((n : Int))))]) (st' := [.int (iI 0)]) rfl rfl ?_
        exact go_r rfl rfl rfl rfl rfl rfl ⟨I, A, N, rfl, rf, hB, fun _ => rfl, Or.inl ⟨rfl, by omega, fun ⟨n2, l2, _, h9⟩ => by have en := isL_uq n0 n2 n o l2 hL; rcases h9 with ⟨h9, -⟩ | ⟨h9, -⟩ | ⟨h9, -⟩ | ⟨h9, -⟩ | ⟨h9, -⟩ | ⟨h9, -⟩ | ⟨h9, -⟩ | ⟨h9, -⟩ | ⟨h9, -⟩ | ⟨h9, -⟩ | ⟨-, h8⟩ | ⟨h9, -⟩; omega; omega; omega; omega; omega; omega; omega; omega; omega; omega; omega; omega⟩⟩
      · refine go_a (pc' := 303) (ls' := [some (.ref h.length), some (.int (iI o)), some (.int (iI ((n : Int))))]) (st' := [.int (iI 1)]) rfl rfl ?_
        refine go_a (pc' := 307) (ls' := [some (.ref h.length), some (.int (iI o)), some (.int (iI ((n : Int))))]) (st' := [.int (iI 1)]) rfl rfl ?_
        exact go_r rfl rfl rfl rfl rfl rfl ⟨I, A, N, rfl, rf, hB, fun _ => rfl, Or.inr ⟨rfl, ⟨n, hL, n1, Or.inr (Or.inr (Or.inr (Or.inr (Or.inr (Or.inr (Or.inr (Or.inr (Or.inr (Or.inr (Or.inl ⟨by omega, by omega⟩))))))))))⟩, fun q => by omega, fun _ => ⟨fun q => by omega, fun q => by omega, fun _ => by omega, fun q => by omega, fun q => by omega, fun q => by omega, trivial⟩, ⟨n, hL, n1, Or.inr (Or.inr (Or.inr (Or.inr (Or.inr (Or.inr (Or.inr (Or.inr (Or.inr (Or.inr (Or.inl ⟨by omega, by omega⟩))))))))))⟩⟩⟩
  · refine go_a (pc' := 12) (ls' := [some (.ref h.length), some (.int (iI o)), some (.int (iI c))]) (st' := [.int (iI 0)]) rfl rfl ?_
    exact go_r rfl rfl rfl rfl rfl rfl ⟨I, A, N, rfl, rf, hB, fun _ => rfl, Or.inl ⟨rfl, by omega, fun ⟨n2, l2, m1, _⟩ => by rcases hcc with ⟨-, hn⟩ | ⟨q, hq, hl⟩; exact hn n2 l2; have := isL_uq n0 n2 q o l2 hl; omega⟩⟩

