theorem DIT_no {its : List (Option ob_T)} {I : Nat → Int} {A : Nat → Int → Int} {N : Int → Int} (h : DIT its I A N) (w : ¬ I 49 = 0) : sp_cz its = none := by
  rcases h with ⟨a, -⟩ | ⟨-, b⟩
  · exact absurd a w
  · unfold sp_cz
    rw [b]
theorem cz_nd {its : List (Option ob_T)} {D : List ob_T} (h : sp_cz its = some D) : D.Nodup := by
  unfold sp_cz at h
  cases e : sp_cf [] its with
  | none =>
    rw [e] at h
    cases h
  | some E =>
    rw [e] at h
    have h : ifc (sp_bn E) (some E) none = some D := h
    by_cases c : sp_bn E
    · rw [ifc_pos c] at h
      injection h with h
      rw [← h]
      exact cf_nd its [] E e List.nodup_nil
    · rw [ifc_neg c] at h
      cases h
theorem FORM_PFT {ar : Int → Int} {I : Nat → Int} {A : Nat → Int → Int} {N : Int → Int} {o : Int} (h : FORM ar I A N o) : ∃ P : Nat, PFT A o (pf (A 1 o)) P := by
  obtain ⟨n, hL, n1, h⟩ := h
  rcases h with q | q | q | q | q | q | q | q | q | q | q | ⟨q, e, he⟩
  · refine ⟨0, Or.inl ⟨by omega, by omega, ?_, rfl⟩⟩
    unfold pf
    rw [if_neg (by omega), if_neg (by omega), if_neg (by omega)]
  · refine ⟨0, Or.inl ⟨by omega, by omega, ?_, rfl⟩⟩
    unfold pf
    rw [if_neg (by omega), if_neg (by omega), if_neg (by omega)]
  · refine ⟨0, Or.inl ⟨by omega, by omega, ?_, rfl⟩⟩
    unfold pf
    rw [if_neg (by omega), if_neg (by omega), if_neg (by omega)]
  · refine ⟨0, Or.inl ⟨by omega, by omega, ?_, rfl⟩⟩
    unfold pf
    rw [if_neg (by omega), if_neg (by omega), if_neg (by omega)]
  · refine ⟨0, Or.inl ⟨by omega, by omega, ?_, rfl⟩⟩
    unfold pf
    rw [if_neg (by omega), if_neg (by omega), if_neg (by omega)]
  · refine ⟨0, Or.inl ⟨by omega, by omega, ?_, rfl⟩⟩
    unfold pf
    rw [if_neg (by omega), if_neg (by omega), if_neg (by omega)]
  · exact ⟨1, Or.inr (Or.inl ⟨q.1, by unfold pf; rw [if_neg (by omega), if_pos (by omega)], rfl⟩)⟩
  · exact ⟨2, Or.inr (Or.inr (Or.inl ⟨q.1, by unfold pf; rw [if_neg (by omega), if_pos (by omega)], rfl⟩))⟩
  · exact ⟨1, Or.inr (Or.inr (Or.inr (Or.inl ⟨Or.inl q.1, by unfold pf; rw [if_neg (by omega), if_neg (by omega), if_pos (by omega)], rfl⟩)))⟩
  · exact ⟨1, Or.inr (Or.inr (Or.inr (Or.inl ⟨Or.inr q.1, by unfold pf; rw [if_neg (by omega), if_neg (by omega), if_pos (by omega)], rfl⟩)))⟩
  · exact ⟨2, Or.inr (Or.inr (Or.inr (Or.inr (Or.inl ⟨q.1, by unfold pf; rw [if_neg (by omega), if_neg (by omega), if_pos (by omega)], rfl⟩))))⟩
  · obtain ⟨n', hn, n3, -⟩ := he
    refine ⟨n' - 3, Or.inr (Or.inr (Or.inr (Or.inr (Or.inr ⟨q, by unfold pf; rw [if_pos q], ?_⟩))))⟩
    rw [show 3 + (n' - 3) = n' by omega]
    exact hn
theorem PFT_pt {ar : Int → Int} {I : Nat → Int} {A : Nat → Int → Int} {N : Int → Int} {o : Int} {f P n : Nat} (n0 : A 1 0 < 0) (h : FORM ar I A N o) (hL : isL A n o) (hp : PFT A o f P) : f = pf (A 1 o) ∧ pto (A 1 o) n = f + P ∧ f + P ≤ n ∧ 2 ≤ n ∧ (27 ≤ A 1 o ∧ A 1 o ≤ 43) := by
  obtain ⟨n', hL', n1, h⟩ := h
  have en := isL_uq n0 n n' o hL hL'
  subst en
  rcases hp with ⟨a, b, rfl, rfl⟩ | ⟨a, rfl, rfl⟩ | ⟨a, rfl, rfl⟩ | ⟨a, rfl, rfl⟩ | ⟨a, rfl, rfl⟩ | ⟨a, rfl, b⟩
  · refine ⟨?_, ?_, by omega, ?_, by omega, by omega⟩
    · unfold pf
      rw [if_neg (by omega), if_neg (by omega), if_neg (by omega)]
    · unfold pto
      rw [if_neg (by omega), if_neg (by omega), if_neg (by omega), if_neg (by omega)]
    · rcases h with q | q | q | q | q | q | q | q | q | q | q | ⟨q, -⟩ <;> omega
  · refine ⟨?_, ?_, ?_, ?_, by omega, by omega⟩
    · unfold pf
      rw [if_neg (by omega), if_pos (by omega)]
    · unfold pto
      rw [if_neg (by omega), if_pos (by omega)]
    · rcases h with q | q | q | q | q | q | q | q | q | q | q | ⟨q, -⟩ <;> omega
    · rcases h with q | q | q | q | q | q | q | q | q | q | q | ⟨q, -⟩ <;> omega
  · refine ⟨?_, ?_, ?_, ?_, by omega, by omega⟩
    · unfold pf
      rw [if_neg (by omega), if_pos (by omega)]
    · unfold pto
      rw [if_neg (by omega), if_neg (by omega), if_pos (by omega)]
    · rcases h with q | q | q | q | q | q | q | q | q | q | q | ⟨q, -⟩ <;> omega
    · rcases h with q | q | q | q | q | q | q | q | q | q | q | ⟨q, -⟩ <;> omega
  · refine ⟨?_, ?_, ?_, ?_, by omega, by omega⟩
    · unfold pf
      rw [if_neg (by omega), if_neg (by omega), if_pos (by omega)]
    · unfold pto
      rw [if_neg (by omega), if_neg (by omega), if_neg (by omega), if_pos (by omega)]
    · rcases h with q | q | q | q | q | q | q | q | q | q | q | ⟨q, -⟩ <;> omega
    · rcases h with q | q | q | q | q | q | q | q | q | q | q | ⟨q, -⟩ <;> omega
  · refine ⟨?_, ?_, ?_, ?_, by omega, by omega⟩
    · unfold pf
      rw [if_neg (by omega), if_neg (by omega), if_pos (by omega)]
    · unfold pto
      rw [if_neg (by omega), if_pos (by omega)]
    · rcases h with q | q | q | q | q | q | q | q | q | q | q | ⟨q, -⟩ <;> omega
    · rcases h with q | q | q | q | q | q | q | q | q | q | q | ⟨q, -⟩ <;> omega
  · have e2 := isL_uq n0 n (3 + P) o hL b
    refine ⟨?_, ?_, by omega, by omega, by omega, by omega⟩
    · unfold pf
      rw [if_pos (by omega)]
    · unfold pto
      rw [if_pos (by omega)]
      exact e2
theorem PFT_BX {F G : Nat → Prop} {I I1 : Nat → Int} {A A1 : Nat → Int → Int} {N N1 : Int → Int} {o : Int} {f P : Nat} (hP : PW I A) (x : BX F G I A N I1 A1 N1) (k0 : 0 ≤ o) (k1 : o < I 7) (h : PFT A o f P) : PFT A1 o f P := by
  unfold PFT at h ⊢
  rw [(x.2.2.1 o k0 k1).1]
  rcases h with h | h | h | h | h | ⟨a, b, c⟩
  · exact Or.inl h
  · exact Or.inr (Or.inl h)
  · exact Or.inr (Or.inr (Or.inl h))
  · exact Or.inr (Or.inr (Or.inr (Or.inl h)))
  · exact Or.inr (Or.inr (Or.inr (Or.inr (Or.inl h))))
  · exact Or.inr (Or.inr (Or.inr (Or.inr (Or.inr ⟨a, b, isL_extB hP x _ o k0 k1 c⟩))))
theorem mm_goPart (z : Value) (d : Nat) (ar : Int → Int) (ft : Nat → Int) (Fb : List (Nat × List Nat × ob_T)) (Tb : List (Nat × ob_T)) (k o c : Int) (f P j : Nat) (h R : xx_H) (I : Nat → Int) (A : Nat → Int → Int) (N : Int → Int) (hc : 12 ≤ h.length) (hB : BI ar I A N) (k0 : 0 ≤ k) (k1 : k < 40) (ep : I 81 = k + 1) (ek : A 47 k = o) (es : A 48 k = ((f + j : Nat) : Int)) (ec : A 49 k = c) (o0 : 0 ≤ o) (o1 : o < I 7) (hF : FORM ar I A N o) (hPF : PFT A o f P) (hs : STP I) (u9 : I 49 = 0) (c0 : 0 ≤ c) (jP : j < P) (ecl : I 84 = c + j) (cl : c + j ≤ 350) (w : WD A (A 1 (rt A (f + j) o)) ≤ 999) (hE : I 7 + 128 * WD A (A 1 (rt A (f + j) o)) ≤ 140000) (hE2 : A 1 (A 1 (rt A (f + j) o)) = 27 → I 7 + 622 + 2 * WD A (A 1 (rt A (f + j) o)) ≤ 140000) (hX : BTX ar ft Fb Tb I A N) : xx_cl (xt_P z) (d + 13) 152 [.ref h.length] (mh h R I A N) (fun v h1 => v = none ∧ ∃ (I1 : Nat → Int) (A1 : Nat → Int → Int) (N1 : Int → Int), h1 = mh h R I1 A1 N1 ∧ PXT ar k (c + j) I A N I1 A1 N1 ∧ I1 84 = c + j ∧ (A1 47 k = o ∧ A1 48 k = ((f + j + 1 : Nat) : Int) ∧ A1 49 k = c) ∧ ((¬ I1 49 = 0 ∨ (¬ I1 85 = -1 ∧ 0 ≤ I1 85 ∧ I1 85 < I1 7)) ∧ (I1 85 = I 85 ∨ (0 ≤ I1 85 ∧ I1 85 < I1 7)) ∧ (sp_pr ft Fb Tb (I 47) (40 - (k + 1)).toNat (DM A N (A 1 (rt A (f + j) o))) (I 48) = none ∧ sp_sn ft Fb Tb (I 47) (40 - (k + 1)).toNat (DM A N (A 1 (rt A (f + j) o))) (I 48) = I1 48) ∨ (I1 49 = 0 ∧ I1 85 = I 85 ∧ k < 39 ∧ I1 81 = k + 2 ∧ A1 47 (k + 1) = (A 1 (rt A (f + j) o)) ∧ A1 48 (k + 1) = pf (A 1 (A 1 (rt A (f + j) o))) ∧ A1 49 (k + 1) = c + j ∧ FORM ar I1 A1 N1 (A 1 (rt A (f + j) o)) ∧ CFX ar I1 A1 (A 1 (rt A (f + j) o)) (I1 7 - I 7) ∧ (I 48 < I 47 ∧ I1 48 = I 48 + 1) ∧ GOK ft Fb (DM A N (A 1 (rt A (f + j) o)))))) := by
  have hP := BI_P hB
  have p9 := hP.1
  have n0 := BI_n0 hB
  obtain ⟨n, hL, n1, -⟩ := id hF
  have pp := PFT_pt n0 hF hL hPF
  have nl := isL_len hP o.toNat n o (Nat.le_refl _) o0 o1 hL
  have vb := (VD_rt hP o0 o1 hL (by omega : f + j < n)).2.1
  refine cl_go rfl ?_
  show xx_go (xt_P z) (d + 12) 152 0 [some (.ref h.length), none, none, none, none] [] (mh h R I A N) _
  refine go_a (pc' := 1) (ls' := [some (.ref h.length), none, none, none, none]) (st' := [.ref h.length]) rfl rfl ?_
  refine go_get (v := .int (iI (I 81))) rfl mh_o rfl rfl ?_
  refine go_a (pc' := 5) (ls' := [some (.ref h.length), none, none, none, none]) (st' := [.int (iI 1), .int (iI (I 81))]) rfl rfl ?_
  refine mi_sub rfl ?_
  rw [show I 81 - 1 = k by omega]
  refine go_a (pc' := 7) (ls' := [some (.ref h.length), some (.int (iI k)), none, none, none]) (st' := []) rfl rfl ?_
  refine go_a (pc' := 8) (ls' := [some (.ref h.length), some (.int (iI k)), none, none, none]) (st' := [.ref h.length]) rfl rfl ?_
  refine go_get rfl mh_o rfl rfl ?_
  refine go_a (pc' := 12) (ls' := [some (.ref h.length), some (.int (iI k)), none, none, none]) (st' := [.int (iI k), .ref (h.length + 47)]) rfl rfl ?_
  refine mi_ild rfl mh_a47 (by omega) (by omega) (by decide) ?_
  rw [ek]
  refine go_a (pc' := 14) (ls' := [some (.ref h.length), some (.int (iI k)), some (.int (iI o)), none, none]) (st' := []) rfl rfl ?_
  refine go_a (pc' := 15) (ls' := [some (.ref h.length), some (.int (iI k)), some (.int (iI o)), none, none]) (st' := [.ref h.length]) rfl rfl ?_
  refine go_get rfl mh_o rfl rfl ?_
  refine go_a (pc' := 19) (ls' := [some (.ref h.length), some (.int (iI k)), some (.int (iI o)), none, none]) (st' := [.int (iI k), .ref (h.length + 48)]) rfl rfl ?_
  refine mi_ild rfl mh_a48 (by omega) (by omega) (by decide) ?_
  rw [es]
  refine go_a (pc' := 21) (ls' := [some (.ref h.length), some (.int (iI k)), some (.int (iI o)), none, none]) (st' := [.ref h.length, .int (iI (((f + j : Nat) : Int)))]) rfl rfl ?_
  refine go_a (pc' := 22) (ls' := [some (.ref h.length), some (.int (iI k)), some (.int (iI o)), none, none]) (st' := [.int (iI o), .ref h.length, .int (iI (((f + j : Nat) : Int)))]) rfl rfl ?_
  refine go_v (m := 153) (as := [.ref h.length, .int (iI o)]) (r := [.int (iI (((f + j : Nat) : Int)))]) rfl rfl rfl mh_o rfl rfl (mm_partsTo z (d + 9) n o h R I A N hc hP n0 o0 o1 hL pp.2.2.2.2.1 pp.2.2.2.2.2) (fun v h1 hq => ?_)
  obtain ⟨rfl, rfl⟩ := hq
  rw [pp.2.1]
  show xx_go (xt_P z) (d + 12) 152 25 [some (.ref h.length), some (.int (iI k)), some (.int (iI o)), none, none] [.int (iI (((f + P : Nat) : Int))), .int (iI (((f + j : Nat) : Int)))] (mh h R I A N) _
  refine mi_ge (t := 56) rfl rfl (by omega) (by omega) (by omega) (by omega) (fun q => by omega) (fun _ => ?_)
  refine go_a (pc' := 29) (ls' := [some (.ref h.length), some (.int (iI k)), some (.int (iI o)), none, none]) (st' := [.ref h.length]) rfl rfl ?_
  refine go_get rfl mh_o rfl rfl ?_
  refine go_a (pc' := 33) (ls' := [some (.ref h.length), some (.int (iI k)), some (.int (iI o)), none, none]) (st' := [.int (iI k), .ref (h.length + 48)]) rfl rfl ?_
  refine go_a (pc' := 34) (ls' := [some (.ref h.length), some (.int (iI k)), some (.int (iI o)), none, none]) (st' := [.int (iI k), .ref (h.length + 48), .int (iI k), .ref (h.length + 48)]) rfl rfl ?_
  refine mi_ild rfl mh_a48 (by omega) (by omega) (by decide) ?_
  rw [es]
  refine go_a (pc' := 36) (ls' := [some (.ref h.length), some (.int (iI k)), some (.int (iI o)), none, none]) (st' := [.int (iI 1), .int (iI (((f + j : Nat) : Int))), .int (iI k), .ref (h.length + 48)]) rfl rfl ?_
  refine mi_add rfl ?_
  refine mi_ist rfl mh_a48 (show 12 ≤ _ by omega) (by omega) (by omega) (by decide) ?_
  rw [mh_w48 (by omega)]
  obtain ⟨B, hBB⟩ : ∃ B : Nat → Int → Int, B = sa A 48 k (((f + j : Nat) : Int) + 1) := ⟨_, rfl⟩
  rw [← hBB]
  have b1 : BX NO (fun a => a = 48) I A N I B N := by
    subst hBB
    exact BX_of hB.1.1 (fun j q => rfl) (fun a q => sa_ne q) rfl rfl rfl rfl rfl rfl rfl rfl rfl rfl
  have X1 : QX I A N I B N := BX_w2 (fun j q => absurd q (fun z => z)) (fun a q => by subst q; unfold GQ; omega) b1
  have B1 : BI ar I B N := BI_QX hB X1 (by subst hBB; exact SZI_124 (A := A) hB.1.2.2 rfl rfl rfl rfl) hB.2.2.2.1.1 hB.2.2.2.1.2 hB.2.2.2.2
  have q48 : B 48 = sf (A 48) k (((f + j : Nat) : Int) + 1) := by subst hBB; rfl
  have f48 : B 48 k = ((f + j + 1 : Nat) : Int) := by
    rw [q48, sf_self]
    rfl
  have fB : ∀ a : Nat, a ≠ 48 → B a = A a := fun a q => by subst hBB; exact sa_ne q
  have T1 : PXT ar k (c + j) I A N I B N := ⟨X1, B1, hs, fun q a b => by rw [fB 47 (by decide), q48, sf_ne (by omega), fB 49 (by decide)]; exact ⟨rfl, rfl, rfl⟩, fun q _ _ => by rw [fB 50 (by decide)], fun q _ _ => by rw [fB 51 (by decide)]⟩
  refine go_a (pc' := 39) (ls' := [some (.ref h.length), some (.int (iI k)), some (.int (iI o)), none, none]) (st' := [.ref h.length]) rfl rfl ?_
  refine go_a (pc' := 40) (ls' := [some (.ref h.length), some (.int (iI k)), some (.int (iI o)), none, none]) (st' := [.ref h.length, .ref h.length]) rfl rfl ?_
  refine go_a (pc' := 41) (ls' := [some (.ref h.length), some (.int (iI k)), some (.int (iI o)), none, none]) (st' := [.int (iI o), .ref h.length, .ref h.length]) rfl rfl ?_
  refine go_a (pc' := 42) (ls' := [some (.ref h.length), some (.int (iI k)), some (.int (iI o)), none, none]) (st' := [.ref h.length, .int (iI o), .ref h.length, .ref h.length]) rfl rfl ?_
  refine go_get rfl mh_o rfl rfl ?_
  refine go_a (pc' := 46) (ls' := [some (.ref h.length), some (.int (iI k)), some (.int (iI o)), none, none]) (st' := [.int (iI k), .ref (h.length + 48), .int (iI o), .ref h.length, .ref h.length]) rfl rfl ?_
  refine mi_ild rfl mh_a48 (by omega) (by omega) (by decide) ?_
  rw [f48]
  refine go_a (pc' := 48) (ls' := [some (.ref h.length), some (.int (iI k)), some (.int (iI o)), none, none]) (st' := [.int (iI 1), .int (iI (((f + j + 1 : Nat) : Int))), .int (iI o), .ref h.length, .ref h.length]) rfl rfl ?_
  refine mi_sub rfl ?_
  rw [show ((f + j + 1 : Nat) : Int) - 1 = ((f + j : Nat) : Int) by omega]
  show xx_go (xt_P z) (d + 12) 152 49 [some (.ref h.length), some (.int (iI k)), some (.int (iI o)), none, none] [.int (iI (((f + j : Nat) : Int))), .int (iI o), .ref h.length, .ref h.length] (mh h R I B N) _
  have PB := BI_P B1
  have LB := isL_extB hP b1 n o o0 o1 hL
  have iB := it_BX hP b1 o0 o1 hL (by omega : f + j < n)
  refine go_v (m := 99) (as := [.ref h.length, .int (iI o), .int (iI (((f + j : Nat) : Int)))]) (r := [.ref h.length]) rfl rfl rfl mh_o rfl rfl (mm_nth z (d + 11) (f + j) n o h R I B N hc PB (by omega) o0 o1 LB (by omega)) (fun v h1 hq => ?_)
  obtain ⟨rfl, rfl⟩ := hq
  rw [iB]
  show xx_go (xt_P z) (d + 12) 152 52 [some (.ref h.length), some (.int (iI k)), some (.int (iI o)), none, none] [.int (iI (A 1 (rt A (f + j) o))), .ref h.length] (mh h R I B N) _
  have wB := (WD_BX hP b1 vb.1 vb.2).1
  refine go_v (m := 137) (as := [.ref h.length, .int (iI (A 1 (rt A (f + j) o)))]) (r := []) rfl rfl rfl mh_o rfl rfl (mm_beginProof z d ar ft Fb Tb (A 1 (rt A (f + j) o)) (k + 1) (c + j) h R I B N hc B1 hs vb.1 vb.2 (by rw [wB]; exact w) (by rw [wB]; exact hE) (fun q => by rw [wB]; rw [(b1.2.2.1 _ vb.1 vb.2).1] at q; exact hE2 q) (by omega) (by omega) ep (by omega) cl ecl u9 (BTX_BX hB hX X1 (fun _ q => q) (fun _ q => q))) (fun v h1 hq => ?_)
  obtain ⟨rfl, I2, A2, N2, rfl, X2, e84, hq⟩ := hq
  rw [BTX_D hB hX X1 (fun _ q => q) (fun _ q => q) vb.1 vb.2] at hq
  show xx_go (xt_P z) (d + 12) 152 55 [some (.ref h.length), some (.int (iI k)), some (.int (iI o)), none, none] [] (mh h R I2 A2 N2) _
  have kk := X2.2.2.2.1 k k0 (by omega)
  refine go_r rfl rfl rfl rfl rfl rfl ⟨rfl, I2, A2, N2, rfl, PXT_tr T1 X2 (by omega) (Int.le_refl _), e84, ⟨by rw [kk.1, fB 47 (by decide)]; exact ek, by rw [kk.2.1]; exact f48, by rw [kk.2.2, fB 49 (by decide)]; exact ec⟩, ?_⟩
  rcases hq with q | ⟨q1, q2, q3, q4, q5, q6, q7, q8, q9⟩
  · exact Or.inl q
  · exact Or.inr ⟨q1, q2, by omega, by omega, q5, by rw [q6, (b1.2.2.1 _ vb.1 vb.2).1], q7, q8, q9⟩
theorem mm_copy (z : Value) (d : Nat) (k o b c : Int) (h R : xx_H) (I : Nat → Int) (A : Nat → Int → Int) (N : Int → Int) (hc : 12 ≤ h.length) (c0 : 0 ≤ c) (c1 : c < 350) (ec : I 84 = c) (m0 : 0 ≤ I 67) (m1 : I 67 ≤ 30) (Q : Option Value → xx_H → Prop) (K : ∀ (e : Int) (A1 : Nat → Int → Int), (∀ a : Nat, a ≠ 50 → A1 a = A a) → (∀ q : Int, q < 30 * c ∨ 30 * c + I 67 ≤ q → A1 50 q = A 50 q) → (∀ q : Int, 0 ≤ q → q < I 67 → A1 50 (30 * c + q) = A 38 q) → xx_go (xt_P z) (d + 12) 152 152 [some (.ref h.length), some (.int (iI k)), some (.int (iI o)), some (.int (iI b)), some (.int (iI e))] [] (mh h R I A1 N) Q) : ∀ (n : Nat) (e : Int) (A1 : Nat → Int → Int), (I 67 - e).toNat ≤ n → 0 ≤ e → e ≤ I 67 → (∀ a : Nat, a ≠ 50 → A1 a = A a) → (∀ q : Int, q < 30 * c ∨ 30 * c + I 67 ≤ q → A1 50 q = A 50 q) → (∀ q : Int, 0 ≤ q → q < e → A1 50 (30 * c + q) = A 38 q) → xx_go (xt_P z) (d + 12) 152 115 [some (.ref h.length), some (.int (iI k)), some (.int (iI o)), some (.int (iI b)), some (.int (iI e))] [] (mh h R I A1 N) Q := by
  intro n
  induction n with
  | zero =>
    intro e A1 hn e0 em f1 f2 f3
    have ee : e = I 67 := by omega
    refine go_a (pc' := 117) (ls' := [some (.ref h.length), some (.int (iI k)), some (.int (iI o)), some (.int (iI b)), some (.int (iI e))]) (st' := [.int (iI e)]) rfl rfl ?_
    refine go_a (pc' := 118) (ls' := [some (.ref h.length), some (.int (iI k)), some (.int (iI o)), some (.int (iI b)), some (.int (iI e))]) (st' := [.ref h.length, .int (iI e)]) rfl rfl ?_
    refine go_get (v := .int (iI (I 67))) rfl mh_o rfl rfl ?_
    exact mi_ge (t := 152) rfl rfl (by omega) (by omega) (by omega) (by omega) (fun _ => K e A1 f1 f2 (fun q a b => f3 q a (by omega))) (fun q => absurd (show I 67 ≤ e by omega) q)
  | succ n ih =>
    intro e A1 hn e0 em f1 f2 f3
    refine go_a (pc' := 117) (ls' := [some (.ref h.length), some (.int (iI k)), some (.int (iI o)), some (.int (iI b)), some (.int (iI e))]) (st' := [.int (iI e)]) rfl rfl ?_
    refine go_a (pc' := 118) (ls' := [some (.ref h.length), some (.int (iI k)), some (.int (iI o)), some (.int (iI b)), some (.int (iI e))]) (st' := [.ref h.length, .int (iI e)]) rfl rfl ?_
    refine go_get (v := .int (iI (I 67))) rfl mh_o rfl rfl ?_
    refine mi_ge (t := 152) rfl rfl (by omega) (by omega) (by omega) (by omega) (fun _ => K e A1 f1 f2 (fun q a b => f3 q a (by omega))) (fun q => ?_)
    refine go_a (pc' := 125) (ls' := [some (.ref h.length), some (.int (iI k)), some (.int (iI o)), some (.int (iI b)), some (.int (iI e))]) (st' := [.ref h.length]) rfl rfl ?_
    refine go_get rfl mh_o rfl rfl ?_
    refine go_a (pc' := 130) (ls' := [some (.ref h.length), some (.int (iI k)), some (.int (iI o)), some (.int (iI b)), some (.int (iI e))]) (st' := [.int (iI 30), .ref (h.length + 50)]) rfl rfl ?_
    refine go_a (pc' := 131) (ls' := [some (.ref h.length), some (.int (iI k)), some (.int (iI o)), some (.int (iI b)), some (.int (iI e))]) (st' := [.ref h.length, .int (iI 30), .ref (h.length + 50)]) rfl rfl ?_
    refine go_get (v := .int (iI (I 84))) rfl mh_o rfl rfl ?_
    refine mi_mul rfl ?_
    refine go_a (pc' := 137) (ls' := [some (.ref h.length), some (.int (iI k)), some (.int (iI o)), some (.int (iI b)), some (.int (iI e))]) (st' := [.int (iI e), .int (iI (30 * (I 84))), .ref (h.length + 50)]) rfl rfl ?_
    refine mi_add rfl ?_
    refine go_a (pc' := 139) (ls' := [some (.ref h.length), some (.int (iI k)), some (.int (iI o)), some (.int (iI b)), some (.int (iI e))]) (st' := [.ref h.length, .int (iI ((30 * (I 84)) + e)), .ref (h.length + 50)]) rfl rfl ?_
    refine go_get rfl mh_o rfl rfl ?_
    refine go_a (pc' := 144) (ls' := [some (.ref h.length), some (.int (iI k)), some (.int (iI o)), some (.int (iI b)), some (.int (iI e))]) (st' := [.int (iI e), .ref (h.length + 38), .int (iI ((30 * (I 84)) + e)), .ref (h.length + 50)]) rfl rfl ?_
    refine mi_ild rfl mh_a38 (by omega) (by omega) (by decide) ?_
    refine mi_ist rfl mh_a50 (show 12 ≤ _ by omega) (by omega) (by omega) (by decide) ?_
    rw [mh_w50 (by omega)]
    refine go_a (pc' := 149) (ls' := [some (.ref h.length), some (.int (iI k)), some (.int (iI o)), some (.int (iI b)), some (.int (iI (e + 1)))]) (st' := []) rfl (by rw [← iI_add e 1]; rfl) ?_
    refine go_a (pc' := 115) (ls' := [some (.ref h.length), some (.int (iI k)), some (.int (iI o)), some (.int (iI b)), some (.int (iI (e + 1)))]) (st' := []) rfl rfl ?_
    have h5 : (sa A1 50 ((30 * (I 84)) + e) (A1 38 e)) 50 = sf (A1 50) (30 * I 84 + e) (A1 38 e) := rfl
    refine ih (e + 1) (sa A1 50 ((30 * (I 84)) + e) (A1 38 e)) (by omega) (by omega) (by omega) (fun a q => (sa_ne q).trans (f1 a q)) (fun q hq => ?_) (fun q a b => ?_)
    · rw [h5, sf_ne (by omega)]
      exact f2 q hq
    · rw [h5]
      by_cases u : q = e
      · rw [u, show 30 * c + e = 30 * I 84 + e by omega, sf_self, f1 38 (by decide)]
      · rw [sf_ne (by omega)]
        exact f3 q a (by omega)
theorem mm_goEnd (z : Value) (d : Nat) (ar : Int → Int) (ft : Nat → Int) (Fb : List (Nat × List Nat × ob_T)) (Tb : List (Nat × ob_T)) (k o c E : Int) (f P j : Nat) (h R : xx_H) (I : Nat → Int) (A : Nat → Int → Int) (N : Int → Int) (hc : 12 ≤ h.length) (hB : BI ar I A N) (k0 : 0 ≤ k) (k1 : k < 40) (ep : I 81 = k + 1) (ek : A 47 k = o) (es : A 48 k = ((f + j : Nat) : Int)) (ec : A 49 k = c) (o0 : 0 ≤ o) (o1 : o < I 7) (hF : FORM ar I A N o) (hPF : PFT A o f P) (hs : STP I) (u9 : I 49 = 0) (c0 : 0 ≤ c) (jP : j = P) (w : WD A o ≤ 1000) (hE : E + 128 * WD A o ≤ 140000) (c9 : Int) (hcf : CFX ar I A o c9) (hU : I 7 ≤ E + c9 + SPR A ar (k + 1) o c f P) (d38 : 1 ≤ P → k ≤ 38) (c1 : c + P ≤ 350) (c2 : c < 350) (hC : ∀ i : Nat, i < P → CLA ar I A (c + i)) (hX : BTX ar ft Fb Tb I A N) (hnd : ∀ i : Nat, i < P → (CLD A N (c + i)).Nodup) : xx_cl (xt_P z) (d + 13) 152 [.ref h.length] (mh h R I A N) (fun v h1 => v = none ∧ ∃ (I1 : Nat → Int) (A1 : Nat → Int → Int) (N1 : Int → Int), h1 = mh h R I1 A1 N1 ∧ PXT ar k c I A N I1 A1 N1 ∧ ((¬ I1 49 = 0 ∨ (¬ I1 85 = -1 ∧ 0 ≤ I1 85 ∧ I1 85 < I1 7)) ∧ (I1 85 = I 85 ∨ (0 ≤ I1 85 ∧ I1 85 < I1 7)) ∧ (sp_fin ft Fb Tb (sp_hc (DM A N (A 1 o))) (DM A N o) ((List.range P).map (fun (i : Nat) => CLD A N (c + i)))) = none ∧ I1 48 = I 48 ∨ (I1 49 = 0 ∧ I1 85 = I 85 ∧ I1 81 = k ∧ I1 84 = c + 1 ∧ CLA ar I1 A1 c ∧ I1 7 + KC k A1 ar c ≤ E + 128 * WD A o ∧ (sp_fin ft Fb Tb (sp_hc (DM A N (A 1 o))) (DM A N o) ((List.range P).map (fun (i : Nat) => CLD A N (c + i)))) = some (CLD A1 N1 c) ∧ (CLD A1 N1 c).Nodup ∧ I1 48 = I 48))) := by
  have hP := BI_P hB
  have p9 := hP.1
  have n0 := BI_n0 hB
  obtain ⟨n, hL, n1, -⟩ := id hF
  have pp := PFT_pt n0 hF hL hPF
  have nl := isL_len hP o.toNat n o (Nat.le_refl _) o0 o1 hL
  refine cl_go rfl ?_
  show xx_go (xt_P z) (d + 12) 152 0 [some (.ref h.length), none, none, none, none] [] (mh h R I A N) _
  refine go_a (pc' := 1) (ls' := [some (.ref h.length), none, none, none, none]) (st' := [.ref h.length]) rfl rfl ?_
  refine go_get (v := .int (iI (I 81))) rfl mh_o rfl rfl ?_
  refine go_a (pc' := 5) (ls' := [some (.ref h.length), none, none, none, none]) (st' := [.int (iI 1), .int (iI (I 81))]) rfl rfl ?_
  refine mi_sub rfl ?_
  rw [show I 81 - 1 = k by omega]
  refine go_a (pc' := 7) (ls' := [some (.ref h.length), some (.int (iI k)), none, none, none]) (st' := []) rfl rfl ?_
  refine go_a (pc' := 8) (ls' := [some (.ref h.length), some (.int (iI k)), none, none, none]) (st' := [.ref h.length]) rfl rfl ?_
  refine go_get rfl mh_o rfl rfl ?_
  refine go_a (pc' := 12) (ls' := [some (.ref h.length), some (.int (iI k)), none, none, none]) (st' := [.int (iI k), .ref (h.length + 47)]) rfl rfl ?_
  refine mi_ild rfl mh_a47 (by omega) (by omega) (by decide) ?_
  rw [ek]
  refine go_a (pc' := 14) (ls' := [some (.ref h.length), some (.int (iI k)), some (.int (iI o)), none, none]) (st' := []) rfl rfl ?_
  refine go_a (pc' := 15) (ls' := [some (.ref h.length), some (.int (iI k)), some (.int (iI o)), none, none]) (st' := [.ref h.length]) rfl rfl ?_
  refine go_get rfl mh_o rfl rfl ?_
  refine go_a (pc' := 19) (ls' := [some (.ref h.length), some (.int (iI k)), some (.int (iI o)), none, none]) (st' := [.int (iI k), .ref (h.length + 48)]) rfl rfl ?_
  refine mi_ild rfl mh_a48 (by omega) (by omega) (by decide) ?_
  rw [es]
  refine go_a (pc' := 21) (ls' := [some (.ref h.length), some (.int (iI k)), some (.int (iI o)), none, none]) (st' := [.ref h.length, .int (iI (((f + j : Nat) : Int)))]) rfl rfl ?_
  refine go_a (pc' := 22) (ls' := [some (.ref h.length), some (.int (iI k)), some (.int (iI o)), none, none]) (st' := [.int (iI o), .ref h.length, .int (iI (((f + j : Nat) : Int)))]) rfl rfl ?_
  refine go_v (m := 153) (as := [.ref h.length, .int (iI o)]) (r := [.int (iI (((f + j : Nat) : Int)))]) rfl rfl rfl mh_o rfl rfl (mm_partsTo z (d + 9) n o h R I A N hc hP n0 o0 o1 hL pp.2.2.2.2.1 pp.2.2.2.2.2) (fun v h1 hq => ?_)
  obtain ⟨rfl, rfl⟩ := hq
  rw [pp.2.1]
  show xx_go (xt_P z) (d + 12) 152 25 [some (.ref h.length), some (.int (iI k)), some (.int (iI o)), none, none] [.int (iI (((f + P : Nat) : Int))), .int (iI (((f + j : Nat) : Int)))] (mh h R I A N) _
  refine mi_ge (t := 56) rfl rfl (by omega) (by omega) (by omega) (by omega) (fun _ => ?_) (fun q => by omega)
  refine go_a (pc' := 57) (ls' := [some (.ref h.length), some (.int (iI k)), some (.int (iI o)), none, none]) (st' := [.ref h.length]) rfl rfl ?_
  refine go_a (pc' := 58) (ls' := [some (.ref h.length), some (.int (iI k)), some (.int (iI o)), none, none]) (st' := [.int (iI k), .ref h.length]) rfl rfl ?_
  refine go_v (m := 154) (as := [.ref h.length, .int (iI k)]) (r := []) rfl rfl rfl mh_o rfl rfl (mm_concludes z (d + 1) ar ft Fb Tb k o c E k f P h R I A N hc hB k0 k1 ek o0 o1 hF ec c0 w hE k0 (by omega) c9 hcf hX u9 hPF hU d38 c1 hC hnd) (fun v h1 hq => ?_)
  obtain ⟨b, I1, A1, N1, rfl, rfl, R1, hb⟩ := hq
  show xx_go (xt_P z) (d + 12) 152 61 [some (.ref h.length), some (.int (iI k)), some (.int (iI o)), none, none] [.int (iI b)] (mh h R I1 A1 N1) _
  have br : b = 0 ∨ b = 1 := by
    rcases hb with q | q
    · exact Or.inl q.1
    · exact Or.inr q.1
  have k48 : I1 48 = I 48 := R1.1.2.2.2.1 48 (by decide) (by unfold FC; omega)
  have T1 : PXT ar k c I A N I1 A1 N1 := PXT_RU R1 hs
  have P1 := RU_P R1
  have x7 := R1.1.2.1
  have B1 := R1.2.1
  have u1 := B1.2.2.2.2
  have k85 : I1 85 = I 85 := R1.1.2.2.2.1 85 (by decide) (by unfold FC; omega)
  have k81 : I1 81 = I 81 := R1.1.2.2.2.1 81 (by decide) (by unfold FC; omega)
  have k49 : A1 49 k = c := by rw [R1.1.2.2.2.2 49 (by decide) (by decide) (by decide) (by decide) (by decide) (by decide) (by unfold GC; omega)]; exact ec
  refine go_a (pc' := 62) (ls' := [some (.ref h.length), some (.int (iI k)), some (.int (iI o)), some (.int (iI b)), none]) (st' := []) rfl rfl ?_
  refine go_a (pc' := 63) (ls' := [some (.ref h.length), some (.int (iI k)), some (.int (iI o)), some (.int (iI b)), none]) (st' := [.ref h.length]) rfl rfl ?_
  refine go_get (v := .int (iI (I1 49))) rfl mh_o rfl rfl ?_
  refine mi_eq0 (t := 70) rfl rfl (by omega) (by omega) (fun z9 => ?_) (fun z9 => ?_)
  · refine go_a (pc' := 71) (ls' := [some (.ref h.length), some (.int (iI k)), some (.int (iI o)), some (.int (iI b)), none]) (st' := [.int (iI b)]) rfl rfl ?_
    refine mi_ne0 (t := 80) rfl rfl (by omega) (by omega) (fun b9 => ?_) (fun b9 => ?_)
    · obtain ⟨S, V, D, hk⟩ : ∃ S V : Int, DR ar 1190 S V I1 A1 ∧ (I1 49 = 0 → I1 67 ≤ 30 → SG (TZ A1 ar) (A1 38) (I1 67).toNat ≤ 400 → I1 7 + KDR k I1 A1 ar ≤ E + 128 * WD A o) := by
        rcases hb with q | q
        · exact absurd q.1 b9
        · exact q.2.2
      obtain ⟨its, di, eρ⟩ : ∃ its : List (Option ob_T), DIT its I1 A1 N1 ∧ (sp_fin ft Fb Tb (sp_hc (DM A N (A 1 o))) (DM A N o) ((List.range P).map (fun (i : Nat) => CLD A N (c + i)))) = sp_cz its := by
        rcases hb with q | q
        · exact absurd q.1 b9
        · exact q.2.1
      have TX1 : BTX ar ft Fb Tb I1 A1 N1 := BTX_RU hB hX R1
      refine go_a (pc' := 81) (ls' := [some (.ref h.length), some (.int (iI k)), some (.int (iI o)), some (.int (iI b)), none]) (st' := [.ref h.length]) rfl rfl ?_
      refine go_v (m := 170) (as := [.ref h.length]) (r := []) rfl rfl rfl mh_o rfl rfl (mm_bounded z (d + 8) ar h R I1 A1 N1 hc P1 B1.1.2.2 S V (DR_w D (by decide) (Int.le_refl _) (Int.le_refl _)) u1.1 u1.2) (fun v h1 hq => ?_)
      obtain ⟨rfl, I4, rfl, f4, u4, n4, g4, g5⟩ := hq
      have dz := DIT_bnd B1 TX1.1 D di n4 g4 g5
      have j48 : I4 48 = I 48 := (f4 48 (by decide)).trans k48
      show xx_go (xt_P z) (d + 12) 152 84 [some (.ref h.length), some (.int (iI k)), some (.int (iI o)), some (.int (iI b)), none] [] (mh h R I4 A1 N1) _
      have b4 : BX (fun j => j = 49) NO I1 A1 N1 I4 A1 N1 := BX_of B1.1.1 (fun j q => f4 j q) (fun a _ => rfl) (f4 7 (by decide)) (f4 10 (by decide)) rfl rfl rfl rfl rfl rfl rfl rfl
      have X4 : QX I1 A1 N1 I4 A1 N1 := BX_w2 (fun j q => by subst q; unfold FQ; omega) (fun a q => absurd q (fun z => z)) b4
      have B4 : BI ar I4 A1 N1 := BI_QX B1 X4 (SZI_124 (A := A1) (A1 := A1) B1.1.2.2 rfl rfl rfl (f4 7 (by decide))) (by rw [f4 54 (by decide)]; exact B1.2.2.2.1.1) (by rw [f4 56 (by decide)]; exact B1.2.2.2.1.2) u4
      have S4 : STP I4 := by
        unfold STP
        rw [f4 47 (by decide), f4 48 (by decide)]
        exact T1.2.2.1
      have T4 : PXT ar k c I A N I4 A1 N1 := ⟨BX_tr T1.1 X4, B4, S4, T1.2.2.2.1, T1.2.2.2.2.1, T1.2.2.2.2.2⟩
      have j85 : I4 85 = I 85 := (f4 85 (by decide)).trans k85
      have j81 : I4 81 = I 81 := (f4 81 (by decide)).trans k81
      have j67 : I4 67 = I1 67 := f4 67 (by decide)
      have j7 : I4 7 = I1 7 := f4 7 (by decide)
      refine go_a (pc' := 85) (ls' := [some (.ref h.length), some (.int (iI k)), some (.int (iI o)), some (.int (iI b)), none]) (st' := [.ref h.length]) rfl rfl ?_
      refine go_get (v := .int (iI (I4 49))) rfl mh_o rfl rfl ?_
      refine mi_eq0 (t := 92) rfl rfl (by omega) (by omega) (fun y9 => ?_) (fun y9 => ?_)
      · have g4 := g4 y9
        have dm := D.1
        refine go_a (pc' := 93) (ls' := [some (.ref h.length), some (.int (iI k)), some (.int (iI o)), some (.int (iI b)), none]) (st' := [.ref h.length]) rfl rfl ?_
        refine go_a (pc' := 94) (ls' := [some (.ref h.length), some (.int (iI k)), some (.int (iI o)), some (.int (iI b)), none]) (st' := [.ref h.length, .ref h.length]) rfl rfl ?_
        refine go_get (v := .int (iI (I4 81))) rfl mh_o rfl rfl ?_
        refine go_a (pc' := 98) (ls' := [some (.ref h.length), some (.int (iI k)), some (.int (iI o)), some (.int (iI b)), none]) (st' := [.int (iI 1), .int (iI (I4 81)), .ref h.length]) rfl rfl ?_
        refine mi_sub rfl ?_
        refine go_put (j := 81) rfl mh_o rfl rfl (show 12 ≤ _ from hc) (show 81 < 86 by decide) rfl rfl ?_
        rw [mh_p81]
        refine go_a (pc' := 103) (ls' := [some (.ref h.length), some (.int (iI k)), some (.int (iI o)), some (.int (iI b)), none]) (st' := [.ref h.length]) rfl rfl ?_
        refine go_a (pc' := 104) (ls' := [some (.ref h.length), some (.int (iI k)), some (.int (iI o)), some (.int (iI b)), none]) (st' := [.ref h.length, .ref h.length]) rfl rfl ?_
        refine go_get rfl mh_o rfl rfl ?_
        refine go_a (pc' := 108) (ls' := [some (.ref h.length), some (.int (iI k)), some (.int (iI o)), some (.int (iI b)), none]) (st' := [.int (iI k), .ref (h.length + 49), .ref h.length]) rfl rfl ?_
        refine mi_ild rfl mh_a49 (by omega) (by omega) (by decide) ?_
        rw [k49]
        refine go_put (j := 84) rfl mh_o rfl rfl (show 12 ≤ _ from hc) (show 84 < 86 by decide) rfl rfl ?_
        rw [mh_p84]
        refine go_a (pc' := 113) (ls' := [some (.ref h.length), some (.int (iI k)), some (.int (iI o)), some (.int (iI b)), none]) (st' := [.int (iI 0)]) rfl rfl ?_
        refine go_a (pc' := 115) (ls' := [some (.ref h.length), some (.int (iI k)), some (.int (iI o)), some (.int (iI b)), some (.int (iI 0))]) (st' := []) rfl rfl ?_
        refine mm_copy z d k o b c h R (su (su I4 81 ((I4 81) - 1)) 84 c) A1 N1 hc c0 c2 rfl (show 0 ≤ I4 67 by omega) (show I4 67 ≤ 30 by omega) _ ?_ (I4 67).toNat 0 A1 (show (I4 67 - 0).toNat ≤ _ by omega) (Int.le_refl _) (show 0 ≤ I4 67 by omega) (fun _ _ => rfl) (fun _ _ => rfl) (fun q a b => absurd b (by omega))
        intro e9 A5 f1 f2 f3
        have f3 : ∀ q : Int, 0 ≤ q → q < I4 67 → A5 50 (30 * c + q) = A1 38 q := f3
        have f2 : ∀ q : Int, q < 30 * c ∨ 30 * c + I4 67 ≤ q → A5 50 q = A1 50 q := f2
        refine go_a (pc' := 153) (ls' := [some (.ref h.length), some (.int (iI k)), some (.int (iI o)), some (.int (iI b)), some (.int (iI e9))]) (st' := [.ref h.length]) rfl rfl ?_
        refine go_get rfl mh_o rfl rfl ?_
        refine go_a (pc' := 157) (ls' := [some (.ref h.length), some (.int (iI k)), some (.int (iI o)), some (.int (iI b)), some (.int (iI e9))]) (st' := [.ref h.length, .ref (h.length + 51)]) rfl rfl ?_
        refine go_get (v := .int (iI c)) rfl mh_o rfl rfl ?_
        refine go_a (pc' := 161) (ls' := [some (.ref h.length), some (.int (iI k)), some (.int (iI o)), some (.int (iI b)), some (.int (iI e9))]) (st' := [.ref h.length, .int (iI c), .ref (h.length + 51)]) rfl rfl ?_
        refine go_get (v := .int (iI (I4 67))) rfl mh_o rfl rfl ?_
        refine mi_ist rfl mh_a51 (show 12 ≤ _ by omega) (by omega) (by omega) (by decide) ?_
        rw [mh_w51 (by omega)]
        refine go_a (pc' := 166) (ls' := [some (.ref h.length), some (.int (iI k)), some (.int (iI o)), some (.int (iI b)), some (.int (iI e9))]) (st' := [.ref h.length]) rfl rfl ?_
        refine go_a (pc' := 167) (ls' := [some (.ref h.length), some (.int (iI k)), some (.int (iI o)), some (.int (iI b)), some (.int (iI e9))]) (st' := [.ref h.length, .ref h.length]) rfl rfl ?_
        refine go_get (v := .int (iI c)) rfl mh_o rfl rfl ?_
        refine go_a (pc' := 171) (ls' := [some (.ref h.length), some (.int (iI k)), some (.int (iI o)), some (.int (iI b)), some (.int (iI e9))]) (st' := [.int (iI 1), .int (iI c), .ref h.length]) rfl rfl ?_
        refine mi_add rfl ?_
        refine go_put (j := 84) rfl mh_o rfl rfl (show 12 ≤ _ from hc) (show 84 < 86 by decide) rfl rfl ?_
        rw [mh_p84]
        have h51 : (sa A5 51 c (I4 67)) 51 = sf (A5 51) c (I4 67) := rfl
        have h50 : (sa A5 51 c (I4 67)) 50 = A5 50 := rfl
        have b6 : BX (fun j => j = 81 ∨ j = 84) (fun a => a = 50 ∨ a = 51) I4 A1 N1 (su (su (su I4 81 ((I4 81) - 1)) 84 c) 84 (c + 1)) (sa A5 51 c (I4 67)) N1 := BX_of B4.1.1 (fun j q => (su_ne (fun e => q (Or.inr e))).trans ((su_ne (fun e => q (Or.inr e))).trans (su_ne (fun e => q (Or.inl e))))) (fun a q => (sa_ne (fun e => q (Or.inr e))).trans (f1 a (fun e => q (Or.inl e)))) rfl rfl (f1 1 (by decide)) (f1 2 (by decide)) (f1 3 (by decide)) (f1 4 (by decide)) (f1 5 (by decide)) (f1 7 (by decide)) (f1 8 (by decide)) (f1 9 (by decide))
        have X6 : QX I4 A1 N1 (su (su (su I4 81 ((I4 81) - 1)) 84 c) 84 (c + 1)) (sa A5 51 c (I4 67)) N1 := BX_w2 (fun j q => by unfold FQ; omega) (fun a q => by unfold GQ; omega) b6
        have B6 : BI ar (su (su (su I4 81 ((I4 81) - 1)) 84 c) 84 (c + 1)) (sa A5 51 c (I4 67)) N1 := BI_QX B4 X6 (SZI_124 (A := A1) (A1 := sa A5 51 c (I4 67)) B4.1.2.2 (f1 1 (by decide)) (f1 2 (by decide)) (f1 4 (by decide)) rfl) B4.2.2.2.1.1 B4.2.2.2.1.2 B4.2.2.2.2
        have t6 : TZ (sa A5 51 c (I4 67)) ar = TZ A1 ar := (TZ_124 (A := A1) (A1 := sa A5 51 c (I4 67)) (f1 1 (by decide)) (f1 2 (by decide)) (f1 4 (by decide))).1
        have n6 : NT (sa A5 51 c (I4 67)) wq = NT A1 wq := (NT_12 (A := A1) (A1 := sa A5 51 c (I4 67)) (f1 1 (by decide)) (f1 2 (by decide))).1
        have m6 : (sa A5 51 c (I4 67)) 51 c = I4 67 := by rw [h51, sf_self]
        have s6 : SG (TZ A1 ar) (fun q => (sa A5 51 c (I4 67)) 50 (30 * c + q)) (I4 67).toNat = SG (TZ A1 ar) (A1 38) (I1 67).toNat := by
          rw [← j67]
          exact SG_congr _ (fun e he => by rw [h50, f3 e (by omega) (by omega)])
        have v6 : SG (NT A1 wq) (fun q => (sa A5 51 c (I4 67)) 50 (30 * c + q)) (I4 67).toNat = SG (NT A1 wq) (A1 38) (I1 67).toNat := by
          rw [← j67]
          exact SG_congr _ (fun e he => by rw [h50, f3 e (by omega) (by omega)])
        have C6 : CLA ar (su (su (su I4 81 ((I4 81) - 1)) 84 c) 84 (c + 1)) (sa A5 51 c (I4 67)) c := by
          refine ⟨?_, fun q a b => ?_, ?_⟩
          · rw [m6]
            omega
          · rw [m6] at b
            rw [h50, f3 q a b, t6]
            have dq := D.2.1 q a (by omega)
            exact ⟨⟨dq.1.1, (show A1 38 q < I4 7 by omega)⟩, dq.2.1, dq.2.2 z9⟩
          · rw [m6, t6, s6]
            exact g4.2
        have K6 : KC k (sa A5 51 c (I4 67)) ar c = KDR k I1 A1 ar := by
          unfold KC KDR
          rw [m6, t6, n6, s6, v6, j67]
        have czs : sp_cz its = some ((ixl (A1 38) (I1 67)).map (DM A1 N1)) := by
          rcases dz with q | q
          · exact q.2
          · exact absurd y9 q.1
        have c6 : CLD (sa A5 51 c (I4 67)) N1 c = (ixl (A1 38) (I1 67)).map (DM A1 N1) := by
          unfold CLD
          have d6 : DM (sa A5 51 c (I4 67)) N1 = DM A1 N1 := DM_12 (A := A1) (A1 := sa A5 51 c (I4 67)) (f1 1 (by decide)) (f1 2 (by decide)) (f1 8 (by decide)) (f1 9 (by decide))
          have x6 : ixl (fun q => (sa A5 51 c (I4 67)) 50 (30 * c + q)) (I4 67) = ixl (A1 38) (I4 67) := ixl_congr (fun e a b => by rw [h50, f3 e a b])
          rw [m6, d6, x6, j67]
        have eρ6 : (sp_fin ft Fb Tb (sp_hc (DM A N (A 1 o))) (DM A N o) ((List.range P).map (fun (i : Nat) => CLD A N (c + i)))) = some (CLD (sa A5 51 c (I4 67)) N1 c) := by rw [c6, eρ]; exact czs
        have nd6 : (CLD (sa A5 51 c (I4 67)) N1 c).Nodup := by rw [c6]; exact cz_nd czs
        have hk := hk z9 g4.1 g4.2
        refine go_r rfl rfl rfl rfl rfl rfl ⟨rfl, su (su (su I4 81 ((I4 81) - 1)) 84 c) 84 (c + 1), sa A5 51 c (I4 67), N1, rfl, ⟨BX_tr T4.1 X6, B6, S4, fun q a b => ?_, fun q a b => ?_, fun q a b => ?_⟩, Or.inr ⟨y9, j85, (show I4 81 - 1 = k by omega), rfl, C6, ?_, eρ6, nd6, j48⟩⟩
        · rw [show (sa A5 51 c (I4 67)) 47 = A1 47 from f1 47 (by decide), show (sa A5 51 c (I4 67)) 48 = A1 48 from f1 48 (by decide), show (sa A5 51 c (I4 67)) 49 = A1 49 from f1 49 (by decide)]
          exact T4.2.2.2.1 q a b
        · rw [h50, f2 q (Or.inl (by omega))]
          exact T4.2.2.2.2.1 q a b
        · rw [h51, sf_ne (by omega), f1 51 (by decide)]
          exact T4.2.2.2.2.2 q a b
        · rw [K6]
          show I4 7 + _ ≤ _
          rw [j7]
          exact hk
      · have rn : (sp_fin ft Fb Tb (sp_hc (DM A N (A 1 o))) (DM A N o) ((List.range P).map (fun (i : Nat) => CLD A N (c + i)))) = none := by
          rw [eρ]
          rcases dz with q | q
          · exact absurd q.1 y9
          · exact q.2
        exact go_r rfl rfl rfl rfl rfl rfl ⟨rfl, I4, A1, N1, rfl, T4, Or.inl ⟨Or.inl y9, Or.inl j85, rn, j48⟩⟩
    · have rn : (sp_fin ft Fb Tb (sp_hc (DM A N (A 1 o))) (DM A N o) ((List.range P).map (fun (i : Nat) => CLD A N (c + i)))) = none := by
        rcases hb with q | q
        · exact q.2
        · omega
      refine go_a (pc' := 75) (ls' := [some (.ref h.length), some (.int (iI k)), some (.int (iI o)), some (.int (iI b)), none]) (st' := [.ref h.length]) rfl rfl ?_
      refine go_a (pc' := 76) (ls' := [some (.ref h.length), some (.int (iI k)), some (.int (iI o)), some (.int (iI b)), none]) (st' := [.int (iI o), .ref h.length]) rfl rfl ?_
      refine go_put (j := 85) rfl mh_o rfl rfl (show 12 ≤ _ from hc) (show 85 < 86 by decide) rfl rfl ?_
      rw [mh_p85]
      have b3 : BX (fun j => j = 85) NO I1 A1 N1 (su I1 85 o) A1 N1 := BX_of B1.1.1 (fun j q => su_ne q) (fun a _ => rfl) rfl rfl rfl rfl rfl rfl rfl rfl rfl rfl
      have X3 : QX I1 A1 N1 (su I1 85 o) A1 N1 := BX_w2 (fun j q => by subst q; unfold FQ; omega) (fun a q => absurd q (fun z => z)) b3
      have B3 : BI ar (su I1 85 o) A1 N1 := BI_QX B1 X3 (SZI_124 (A := A1) (A1 := A1) B1.1.2.2 rfl rfl rfl rfl) B1.2.2.2.1.1 B1.2.2.2.1.2 B1.2.2.2.2
      exact go_r rfl rfl rfl rfl rfl rfl ⟨rfl, su I1 85 o, A1, N1, rfl, ⟨BX_tr T1.1 X3, B3, T1.2.2.1, T1.2.2.2.1, T1.2.2.2.2.1, T1.2.2.2.2.2⟩, Or.inl ⟨Or.inr ⟨(show ¬ o = -1 by omega), o0, (show o < I1 7 by omega)⟩, Or.inr ⟨o0, (show o < I1 7 by omega)⟩, rn, k48⟩⟩
  · have rn : (sp_fin ft Fb Tb (sp_hc (DM A N (A 1 o))) (DM A N o) ((List.range P).map (fun (i : Nat) => CLD A N (c + i)))) = none := by
      rcases hb with q | ⟨-, ⟨its, di, e⟩, -⟩
      · exact q.2
      · rw [e]
        exact DIT_no di z9
    exact go_r rfl rfl rfl rfl rfl rfl ⟨rfl, I1, A1, N1, rfl, T1, Or.inl ⟨Or.inl z9, Or.inl k85, rn, k48⟩⟩

