def GT8 (I : Nat → Int) (A : Nat → Int → Int) (N : Int → Int) (I1 : Nat → Int) (A1 : Nat → Int → Int) : Prop := TRX I1 A1 N ∧ K8 A A1 ∧ ∀ k : Int, 0 ≤ k → k < I 7 → DM A1 N k = DM A N k
theorem CP_ex (a : Int) : ∃ b : Int, CP a b := by
  by_cases c : a ≤ 2000
  · exact ⟨a, Or.inl ⟨c, rfl⟩⟩
  · exact ⟨2000, Or.inr ⟨by omega, rfl⟩⟩
section GT8S
variable {I I1 I2 : Nat → Int} {A A1 A2 : Nat → Int → Int} {N : Int → Int}
theorem GT8_rf (hT : TRX I A N) : GT8 I A N I A := ⟨hT, ⟨rfl, rfl⟩, fun _ _ _ => rfl⟩
theorem GT8_mk (hS : MST I A N) (hN : NM I A) (hT : TRX I A N) (X : EX I A N I1 A1 N) (e10 : I1 10 = I 10) (k : K8 A A1) : GT8 I A N I1 A1 := by
  have B : BX (fun _ => False) (fun _ => False) I A N I1 A1 N := ⟨X.1, X.2.1, fun k k0 k1 => ⟨(X.2.2.1 k k0 k1).1, (X.2.2.1 k k0 k1).2.1, (X.2.2.1 k k0 k1).2.2.1, fun e => by rw [(X.2.2.1 k k0 k1).2.2.2]; exact e⟩, fun j p _ => by
    by_cases c : j = 10
    · rw [c]
      exact e10
    · exact X.2.2.2.1 j p c, fun a q1 q2 q3 q4 q5 q6 _ => by
    by_cases c : a = 8
    · rw [c]
      exact k.1
    · by_cases c9 : a = 9
      · rw [c9]
        exact k.2
      · exact X.2.2.2.2.1 a q1 q2 q3 q4 q5 q6 c c9⟩
  exact ⟨TRX_BX hS hN hT B id id id, k, fun j j0 j1 => DM_BX hS hT B id id id j0 j1⟩
theorem GT8_tr (X : EX I A N I1 A1 N) (a : GT8 I A N I1 A1) (b : GT8 I1 A1 N I2 A2) : GT8 I A N I2 A2 := ⟨b.1, K8_tr a.2.1 b.2.1, fun k k0 k1 => (b.2.2 k k0 (by have := X.2.1; omega)).trans (a.2.2 k k0 k1)⟩
theorem GT8_N (hN : NM I A) (_ : GT8 I A N I1 A1) (X : EX I A N I1 A1 N) : NM I1 A1 := ⟨by have := X.2.1; have := hN.1; omega, fun k k0 k1 => by rw [(X.2.2.1 k k0 (by have := hN.1; omega)).1]; exact hN.2 k k0 k1⟩
end GT8S
theorem mm_pairY (z : Value) (d : Nat) (l r : Int) (h R : xx_H) (I : Nat → Int) (A : Nat → Int → Int) (N : Int → Int) (hc : 12 ≤ h.length) (hS : MST I A N) (hN : NM I A) (hT : TRX I A N) (ho : I 7 < 140000) (l0 : 0 ≤ l) (l1 : l < I 7) (r0 : 0 ≤ r) (r1 : r < I 7) : xx_cl (xt_P z) (d + 2) 85 [.ref h.length, .int (iI l), .int (iI r)] (mh h R I A N) (fun v h1 => ∃ (k : Int) (I1 : Nat → Int) (A1 : Nat → Int → Int), v = some (.int (iI k)) ∧ h1 = mh h R I1 A1 N ∧ EX I A N I1 A1 N ∧ 0 ≤ k ∧ k < I1 7 ∧ A1 1 k = l ∧ A1 2 k = r ∧ I1 7 ≤ I 7 + 1 ∧ I1 10 = I 10 ∧ GT8 I A N I1 A1 ∧ DM A1 N k = .add (DM A N l) (DM A N r)) := by
  refine cl_w (fun v h1 hq => ?_) (mm_pairEX z d l r h R I A N hc hS ho l0 l1 r0 r1)
  obtain ⟨k, I1, A1, rfl, rfl, X, k0, k1, e1, e2, e3, e4, -, K1⟩ := hq
  have G := GT8_mk hS hN hT X e4 K1
  refine ⟨k, I1, A1, rfl, rfl, X, k0, k1, e1, e2, e3, e4, G, ?_⟩
  rw [DM_pr X.1 G.1 k0 k1 (by omega), e1, e2, G.2.2 l l0 l1, G.2.2 r r0 r1]
theorem li_drop {f : Nat → ob_T} {m j : Nat} {a : ob_T} (h : j < m) (e : f j = a) : sp_li (((List.range m).map f).drop j) = .add a (sp_li (((List.range m).map f).drop (j + 1))) := by
  have l : j < ((List.range m).map f).length := by rw [List.length_map, List.length_range]; exact h
  rw [List.drop_eq_getElem_cons l]
  have g : ((List.range m).map f)[j] = a := by
    rw [List.getElem_map, List.getElem_range]
    exact e
  rw [g]
  rfl
theorem li_nil {f : Nat → ob_T} (m : Nat) : sp_li (((List.range m).map f).drop m) = .var 31361 := by
  rw [List.drop_eq_nil_of_le (by rw [List.length_map, List.length_range]; exact Nat.le_refl _)]
  rfl
theorem tl_fin {h R : xx_H} {I : Nat → Int} {A : Nat → Int → Int} {N : Int → Int} {x L1 L2 : Int} {v : Option Value} {h1 : xx_H} (hx : 0 ≤ x ∧ x < I 41) (e : L1 = L2) (hq : ∃ (I1 : Nat → Int) (A1 : Nat → Int → Int), v = some (.int (iI (I1 15))) ∧ h1 = mh h R I1 A1 N ∧ BX FTL GTL I A N I1 A1 N ∧ I1 7 = I 7 ∧ I1 10 ≤ I 10 ∧ (0 ≤ I1 15 ∧ I1 15 ≤ 2000) ∧ (∀ k : Int, 0 ≤ k → k < I 7 → A1 4 k = A 4 k) ∧ K8 A A1 ∧ CP L1 (I1 15)) : (v = some (.int (iI (-1))) ∧ h1 = mh h R I A N ∧ ¬ (0 ≤ x ∧ x < I 41)) ∨ (0 ≤ x ∧ x < I 41) ∧ ∃ (I1 : Nat → Int) (A1 : Nat → Int → Int), v = some (.int (iI (I1 15))) ∧ h1 = mh h R I1 A1 N ∧ BX FTL GTL I A N I1 A1 N ∧ I1 7 = I 7 ∧ I1 10 ≤ I 10 ∧ (0 ≤ I1 15 ∧ I1 15 ≤ 2000) ∧ (∀ k : Int, 0 ≤ k → k < I 7 → A1 4 k = A 4 k) ∧ K8 A A1 ∧ CP L2 (I1 15) := by
  obtain ⟨I1, A1, a1, a2, a3, a4, a5, a6, a7, a8, a9⟩ := hq
  exact Or.inr ⟨hx, I1, A1, a1, a2, a3, a4, a5, a6, a7, a8, by rw [← e]; exact a9⟩
theorem mm_list1Y (z : Value) (d : Nat) (a : Int) (h R : xx_H) (I : Nat → Int) (A : Nat → Int → Int) (N : Int → Int) (hc : 12 ≤ h.length) (hS : MST I A N) (hN : NM I A) (hT : TRX I A N) (ho : I 7 + 1 ≤ 140000) (z0 : 0 < I 7) (a0 : 0 ≤ a) (a1 : a < I 7) : xx_cl (xt_P z) (d + 3) 89 [.ref h.length, .int (iI a)] (mh h R I A N) (fun v h1 => ∃ (k : Int) (I1 : Nat → Int) (A1 : Nat → Int → Int), v = some (.int (iI k)) ∧ h1 = mh h R I1 A1 N ∧ EX I A N I1 A1 N ∧ 0 ≤ k ∧ k < I1 7 ∧ 0 ≤ A1 1 k ∧ I1 7 ≤ I 7 + 1 ∧ I1 10 = I 10 ∧ GT8 I A N I1 A1 ∧ DM A1 N k = sp_li [DM A N a]) := by
  refine cl_go rfl ?_
  show xx_go (xt_P z) (d + 2) 89 0 [some (.ref h.length), some (.int (iI a))] [] (mh h R I A N) _
  refine go_a (pc' := 1) (ls' := [some (.ref h.length), some (.int (iI a))]) (st' := [.ref h.length]) rfl rfl ?_
  refine go_a (pc' := 2) (ls' := [some (.ref h.length), some (.int (iI a))]) (st' := [.int (iI a), .ref h.length]) rfl rfl ?_
  refine go_a (pc' := 3) (ls' := [some (.ref h.length), some (.int (iI a))]) (st' := [.int (iI 0), .int (iI a), .ref h.length]) rfl rfl ?_
  refine go_v (m := 85) (as := [.ref h.length, .int (iI a), .int (iI 0)]) (r := []) rfl rfl rfl mh_o rfl rfl (mm_pairY z d a 0 h R I A N hc hS hN hT (by omega) a0 a1 (by omega) z0) (fun v h1 hq => ?_)
  obtain ⟨k, I1, A1, rfl, rfl, X, k0, k1, e1, e2, e3, e4, K1, D1⟩ := hq
  exact go_r rfl rfl rfl rfl rfl rfl ⟨k, I1, A1, rfl, rfl, X, k0, k1, by omega, e3, e4, K1, by rw [D1, DM_0 hT]; rfl⟩
theorem mm_list2Y (z : Value) (d : Nat) (a b : Int) (h R : xx_H) (I : Nat → Int) (A : Nat → Int → Int) (N : Int → Int) (hc : 12 ≤ h.length) (hS : MST I A N) (hN : NM I A) (hT : TRX I A N) (ho : I 7 + 2 ≤ 140000) (z0 : 0 < I 7) (a0 : 0 ≤ a) (a1 : a < I 7) (b0 : 0 ≤ b) (b1 : b < I 7) : xx_cl (xt_P z) (d + 4) 88 [.ref h.length, .int (iI a), .int (iI b)] (mh h R I A N) (fun v h1 => ∃ (k : Int) (I1 : Nat → Int) (A1 : Nat → Int → Int), v = some (.int (iI k)) ∧ h1 = mh h R I1 A1 N ∧ EX I A N I1 A1 N ∧ 0 ≤ k ∧ k < I1 7 ∧ 0 ≤ A1 1 k ∧ I1 7 ≤ I 7 + 2 ∧ I1 10 = I 10 ∧ GT8 I A N I1 A1 ∧ DM A1 N k = sp_li [DM A N a, DM A N b]) := by
  refine cl_go rfl ?_
  show xx_go (xt_P z) (d + 3) 88 0 [some (.ref h.length), some (.int (iI a)), some (.int (iI b))] [] (mh h R I A N) _
  refine go_a (pc' := 1) (ls' := [some (.ref h.length), some (.int (iI a)), some (.int (iI b))]) (st' := [.ref h.length]) rfl rfl ?_
  refine go_a (pc' := 2) (ls' := [some (.ref h.length), some (.int (iI a)), some (.int (iI b))]) (st' := [.int (iI a), .ref h.length]) rfl rfl ?_
  refine go_a (pc' := 3) (ls' := [some (.ref h.length), some (.int (iI a)), some (.int (iI b))]) (st' := [.ref h.length, .int (iI a), .ref h.length]) rfl rfl ?_
  refine go_a (pc' := 4) (ls' := [some (.ref h.length), some (.int (iI a)), some (.int (iI b))]) (st' := [.int (iI b), .ref h.length, .int (iI a), .ref h.length]) rfl rfl ?_
  refine go_v (m := 89) (as := [.ref h.length, .int (iI b)]) (r := [.int (iI a), .ref h.length]) rfl rfl rfl mh_o rfl rfl (mm_list1Y z d b h R I A N hc hS hN hT (by omega) z0 b0 b1) (fun v h1 hq => ?_)
  obtain ⟨k, I1, A1, rfl, rfl, X, k0, k1, e1, e2, e3, K1, D1⟩ := hq
  have x2 := X.2.1
  show xx_go (xt_P z) (d + 3) 88 7 [some (.ref h.length), some (.int (iI a)), some (.int (iI b))] [.int (iI k), .int (iI a), .ref h.length] (mh h R I1 A1 N) _
  refine go_v (m := 85) (as := [.ref h.length, .int (iI a), .int (iI k)]) (r := []) rfl rfl rfl mh_o rfl rfl (mm_pairY z (d + 1) a k h R I1 A1 N hc X.1 (GT8_N hN K1 X) K1.1 (by omega) a0 (by omega) k0 k1) (fun v h1 hq => ?_)
  obtain ⟨k2, I2, A2, rfl, rfl, X2, k20, k21, f1, f2, f3, f4, K2, D2⟩ := hq
  exact go_r rfl rfl rfl rfl rfl rfl ⟨k2, I2, A2, rfl, rfl, EX_tr X X2, k20, k21, by omega, by omega, by omega, GT8_tr X K1 K2, by rw [D2, D1, K1.2.2 a a0 a1]; rfl⟩
theorem mm_list3Y (z : Value) (d : Nat) (a b c : Int) (h R : xx_H) (I : Nat → Int) (A : Nat → Int → Int) (N : Int → Int) (hc : 12 ≤ h.length) (hS : MST I A N) (hN : NM I A) (hT : TRX I A N) (ho : I 7 + 3 ≤ 140000) (z0 : 0 < I 7) (a0 : 0 ≤ a) (a1 : a < I 7) (b0 : 0 ≤ b) (b1 : b < I 7) (c0 : 0 ≤ c) (c1 : c < I 7) : xx_cl (xt_P z) (d + 5) 181 [.ref h.length, .int (iI a), .int (iI b), .int (iI c)] (mh h R I A N) (fun v h1 => ∃ (k : Int) (I1 : Nat → Int) (A1 : Nat → Int → Int), v = some (.int (iI k)) ∧ h1 = mh h R I1 A1 N ∧ EX I A N I1 A1 N ∧ 0 ≤ k ∧ k < I1 7 ∧ 0 ≤ A1 1 k ∧ I1 7 ≤ I 7 + 3 ∧ I1 10 = I 10 ∧ GT8 I A N I1 A1 ∧ DM A1 N k = sp_li [DM A N a, DM A N b, DM A N c]) := by
  refine cl_go rfl ?_
  show xx_go (xt_P z) (d + 4) 181 0 [some (.ref h.length), some (.int (iI a)), some (.int (iI b)), some (.int (iI c))] [] (mh h R I A N) _
  refine go_a (pc' := 1) (ls' := [some (.ref h.length), some (.int (iI a)), some (.int (iI b)), some (.int (iI c))]) (st' := [.ref h.length]) rfl rfl ?_
  refine go_a (pc' := 2) (ls' := [some (.ref h.length), some (.int (iI a)), some (.int (iI b)), some (.int (iI c))]) (st' := [.int (iI a), .ref h.length]) rfl rfl ?_
  refine go_a (pc' := 3) (ls' := [some (.ref h.length), some (.int (iI a)), some (.int (iI b)), some (.int (iI c))]) (st' := [.ref h.length, .int (iI a), .ref h.length]) rfl rfl ?_
  refine go_a (pc' := 4) (ls' := [some (.ref h.length), some (.int (iI a)), some (.int (iI b)), some (.int (iI c))]) (st' := [.int (iI b), .ref h.length, .int (iI a), .ref h.length]) rfl rfl ?_
  refine go_a (pc' := 5) (ls' := [some (.ref h.length), some (.int (iI a)), some (.int (iI b)), some (.int (iI c))]) (st' := [.int (iI c), .int (iI b), .ref h.length, .int (iI a), .ref h.length]) rfl rfl ?_
  refine go_v (m := 88) (as := [.ref h.length, .int (iI b), .int (iI c)]) (r := [.int (iI a), .ref h.length]) rfl rfl rfl mh_o rfl rfl (mm_list2Y z d b c h R I A N hc hS hN hT (by omega) z0 b0 b1 c0 c1) (fun v h1 hq => ?_)
  obtain ⟨k, I1, A1, rfl, rfl, X, k0, k1, e1, e2, e3, K1, D1⟩ := hq
  have x2 := X.2.1
  show xx_go (xt_P z) (d + 4) 181 8 [some (.ref h.length), some (.int (iI a)), some (.int (iI b)), some (.int (iI c))] [.int (iI k), .int (iI a), .ref h.length] (mh h R I1 A1 N) _
  refine go_v (m := 85) (as := [.ref h.length, .int (iI a), .int (iI k)]) (r := []) rfl rfl rfl mh_o rfl rfl (mm_pairY z (d + 2) a k h R I1 A1 N hc X.1 (GT8_N hN K1 X) K1.1 (by omega) a0 (by omega) k0 k1) (fun v h1 hq => ?_)
  obtain ⟨k2, I2, A2, rfl, rfl, X2, k20, k21, f1, f2, f3, f4, K2, D2⟩ := hq
  exact go_r rfl rfl rfl rfl rfl rfl ⟨k2, I2, A2, rfl, rfl, EX_tr X X2, k20, k21, by omega, by omega, by omega, GT8_tr X K1 K2, by rw [D2, D1, K1.2.2 a a0 a1]; rfl⟩
theorem mm_list4Y (z : Value) (d : Nat) (a b c e : Int) (h R : xx_H) (I : Nat → Int) (A : Nat → Int → Int) (N : Int → Int) (hc : 12 ≤ h.length) (hS : MST I A N) (hN : NM I A) (hT : TRX I A N) (ho : I 7 + 4 ≤ 140000) (z0 : 0 < I 7) (a0 : 0 ≤ a) (a1 : a < I 7) (b0 : 0 ≤ b) (b1 : b < I 7) (c0 : 0 ≤ c) (c1 : c < I 7) (e0 : 0 ≤ e) (e1 : e < I 7) : xx_cl (xt_P z) (d + 6) 180 [.ref h.length, .int (iI a), .int (iI b), .int (iI c), .int (iI e)] (mh h R I A N) (fun v h1 => ∃ (k : Int) (I1 : Nat → Int) (A1 : Nat → Int → Int), v = some (.int (iI k)) ∧ h1 = mh h R I1 A1 N ∧ EX I A N I1 A1 N ∧ 0 ≤ k ∧ k < I1 7 ∧ 0 ≤ A1 1 k ∧ I1 7 ≤ I 7 + 4 ∧ I1 10 = I 10 ∧ GT8 I A N I1 A1 ∧ DM A1 N k = sp_li [DM A N a, DM A N b, DM A N c, DM A N e]) := by
  refine cl_go rfl ?_
  show xx_go (xt_P z) (d + 5) 180 0 [some (.ref h.length), some (.int (iI a)), some (.int (iI b)), some (.int (iI c)), some (.int (iI e))] [] (mh h R I A N) _
  refine go_a (pc' := 1) (ls' := [some (.ref h.length), some (.int (iI a)), some (.int (iI b)), some (.int (iI c)), some (.int (iI e))]) (st' := [.ref h.length]) rfl rfl ?_
  refine go_a (pc' := 2) (ls' := [some (.ref h.length), some (.int (iI a)), some (.int (iI b)), some (.int (iI c)), some (.int (iI e))]) (st' := [.int (iI a), .ref h.length]) rfl rfl ?_
  refine go_a (pc' := 3) (ls' := [some (.ref h.length), some (.int (iI a)), some (.int (iI b)), some (.int (iI c)), some (.int (iI e))]) (st' := [.ref h.length, .int (iI a), .ref h.length]) rfl rfl ?_
  refine go_a (pc' := 4) (ls' := [some (.ref h.length), some (.int (iI a)), some (.int (iI b)), some (.int (iI c)), some (.int (iI e))]) (st' := [.int (iI b), .ref h.length, .int (iI a), .ref h.length]) rfl rfl ?_
  refine go_a (pc' := 5) (ls' := [some (.ref h.length), some (.int (iI a)), some (.int (iI b)), some (.int (iI c)), some (.int (iI e))]) (st' := [.int (iI c), .int (iI b), .ref h.length, .int (iI a), .ref h.length]) rfl rfl ?_
  refine go_a (pc' := 7) (ls' := [some (.ref h.length), some (.int (iI a)), some (.int (iI b)), some (.int (iI c)), some (.int (iI e))]) (st' := [.int (iI e), .int (iI c), .int (iI b), .ref h.length, .int (iI a), .ref h.length]) rfl rfl ?_
  refine go_v (m := 181) (as := [.ref h.length, .int (iI b), .int (iI c), .int (iI e)]) (r := [.int (iI a), .ref h.length]) rfl rfl rfl mh_o rfl rfl (mm_list3Y z d b c e h R I A N hc hS hN hT (by omega) z0 b0 b1 c0 c1 e0 e1) (fun v h1 hq => ?_)
  obtain ⟨k, I1, A1, rfl, rfl, X, k0, k1, g1, g2, g3, K1, D1⟩ := hq
  have x2 := X.2.1
  show xx_go (xt_P z) (d + 5) 180 10 [some (.ref h.length), some (.int (iI a)), some (.int (iI b)), some (.int (iI c)), some (.int (iI e))] [.int (iI k), .int (iI a), .ref h.length] (mh h R I1 A1 N) _
  refine go_v (m := 85) (as := [.ref h.length, .int (iI a), .int (iI k)]) (r := []) rfl rfl rfl mh_o rfl rfl (mm_pairY z (d + 3) a k h R I1 A1 N hc X.1 (GT8_N hN K1 X) K1.1 (by omega) a0 (by omega) k0 k1) (fun v h1 hq => ?_)
  obtain ⟨k2, I2, A2, rfl, rfl, X2, k20, k21, f1, f2, f3, f4, K2, D2⟩ := hq
  exact go_r rfl rfl rfl rfl rfl rfl ⟨k2, I2, A2, rfl, rfl, EX_tr X X2, k20, k21, by omega, by omega, by omega, GT8_tr X K1 K2, by rw [D2, D1, K1.2.2 a a0 a1]; rfl⟩
theorem mm_tell_endY (z : Value) (d : Nat) (x c Ll : Int) (y4 y5 : Option Value) (h R : xx_H) (I : Nat → Int) (A : Nat → Int → Int) (N : Int → Int) (hc : 12 ≤ h.length) (hS : MST I A N) (i0 : 0 ≤ I 7) (I1 : Nat → Int) (A1 : Nat → Int → Int) (X : BX FTL GTL I A N I1 A1 N) (K9 : K8 A A1) (hL : CP Ll (I1 15)) (e10 : I1 10 = I 10) (u : 0 ≤ I1 15 ∧ I1 15 ≤ 2000) (z4 : ∀ k : Int, 0 ≤ k → k < I 7 → A1 4 k = A 4 k) : xx_go (xt_P z) (d + 3) 79 162 [some (.ref h.length), some (.int (iI x)), some (.int (iI (I 7))), some (.int (iI c)), y4, y5] [] (mh h R I1 A1 N) (fun v h1 => ∃ (I1 : Nat → Int) (A1 : Nat → Int → Int), v = some (.int (iI (I1 15))) ∧ h1 = mh h R I1 A1 N ∧ BX FTL GTL I A N I1 A1 N ∧ I1 7 = I 7 ∧ I1 10 ≤ I 10 ∧ (0 ≤ I1 15 ∧ I1 15 ≤ 2000) ∧ (∀ k : Int, 0 ≤ k → k < I 7 → A1 4 k = A 4 k) ∧ K8 A A1 ∧ CP Ll (I1 15)) := by
  refine go_a (pc' := 163) (ls' := [some (.ref h.length), some (.int (iI x)), some (.int (iI (I 7))), some (.int (iI c)), y4, y5]) (st' := [.ref h.length]) rfl rfl ?_
  refine go_a (pc' := 164) (ls' := [some (.ref h.length), some (.int (iI x)), some (.int (iI (I 7))), some (.int (iI c)), y4, y5]) (st' := [.int (iI (I 7)), .ref h.length]) rfl rfl ?_
  refine go_v (m := 73) (as := [.ref h.length, .int (iI (I 7))]) (r := []) rfl rfl rfl mh_o rfl rfl (mm_forget z d (I 7) h R I1 A1 N hc i0 X.2.1 X.1) (fun v h1 hq => ?_)
  obtain ⟨rfl, I2, A2, rfl, S2, e7, f10, ef, ea⟩ := hq
  show xx_go (xt_P z) (d + 3) 79 167 [some (.ref h.length), some (.int (iI x)), some (.int (iI (I 7))), some (.int (iI c)), y4, y5] [] (mh h R I2 A2 N) _
  refine go_a (pc' := 168) (ls' := [some (.ref h.length), some (.int (iI x)), some (.int (iI (I 7))), some (.int (iI c)), y4, y5]) (st' := [.ref h.length]) rfl rfl ?_
  refine go_get (v := .int (iI (I2 15))) rfl mh_o rfl rfl ?_
  have e15 := ef 15 (by decide) (by decide)
  exact go_r rfl rfl rfl rfl rfl rfl ⟨I2, A2, rfl, rfl, BX_w2 (fun j q => q.elim id (fun e => Or.inl e)) (fun a q => q) (BX_forget X S2 e7 ef ea), e7, by omega, by omega, fun k a b => by rw [ea 4 (by decide)]; exact z4 k a b, ⟨(ea 8 (by decide)).trans K9.1, (ea 9 (by decide)).trans K9.2⟩, by rw [e15]; exact hL⟩
theorem mm_tell_defY (z : Value) (d : Nat) (x c Ll : Int) (h R : xx_H) (I : Nat → Int) (A : Nat → Int → Int) (N : Int → Int) (hc : 12 ≤ h.length) (hS : MST I A N) (hN : NM I A) (hT : TRX I A N) (hLl : Ll = (sp_ln 0 (sp_li [DM A N 17, DM A N (A 20 c), sp_li ((List.range (A 21 c).toNat).map (fun j : Nat => DM A N (A 22 (6 * c + (j : Int))))), DM A N (A 23 c)])).1) (z0 : 17 < I 7) (ho : I 7 + 10 ≤ 140000) (c0 : 0 ≤ c) (c4 : c < 40) (q20 : 0 ≤ A 20 c ∧ A 20 c < I 7) (q21 : 0 ≤ A 21 c ∧ A 21 c ≤ 6) (q22 : ∀ j : Int, 0 ≤ j → j < A 21 c → 0 ≤ A 22 (6 * c + j) ∧ A 22 (6 * c + j) < I 7) (q23 : 0 ≤ A 23 c ∧ A 23 c < I 7) : ∀ (n : Nat) (I1 : Nat → Int) (A1 : Nat → Int → Int) (v k : Int), k + 1 = n → k < A 21 c → EX I A N I1 A1 N → GT8 I A N I1 A1 → DM A1 N v = sp_li (((List.range (A 21 c).toNat).map (fun j : Nat => DM A N (A 22 (6 * c + (j : Int))))).drop (k + 1).toNat) → I1 10 = I 10 → I1 7 + (k + 1) ≤ I 7 + A 21 c → 0 ≤ v → v < I1 7 → xx_go (xt_P z) (d + 6) 79 82 [some (.ref h.length), some (.int (iI x)), some (.int (iI (I 7))), some (.int (iI c)), some (.int (iI v)), some (.int (iI k))] [] (mh h R I1 A1 N) (fun v h1 => ∃ (I1 : Nat → Int) (A1 : Nat → Int → Int), v = some (.int (iI (I1 15))) ∧ h1 = mh h R I1 A1 N ∧ BX FTL GTL I A N I1 A1 N ∧ I1 7 = I 7 ∧ I1 10 ≤ I 10 ∧ (0 ≤ I1 15 ∧ I1 15 ≤ 2000) ∧ (∀ k : Int, 0 ≤ k → k < I 7 → A1 4 k = A 4 k) ∧ K8 A A1 ∧ CP Ll (I1 15)) := by
  intro n
  induction n with
  | zero =>
    intro I1 A1 v k ek kk X KA DV e10 c7 v0 v1
    have x2 := X.2.1
    have a20 : A1 20 = A 20 := X.2.2.2.2.1 20 (by decide) (by decide) (by decide) (by decide) (by decide) (by decide) (by decide) (by decide)
    have a23 : A1 23 = A 23 := X.2.2.2.2.1 23 (by decide) (by decide) (by decide) (by decide) (by decide) (by decide) (by decide) (by decide)
    have f20 : A1 20 c = A 20 c := by rw [a20]
    have f23 : A1 23 c = A 23 c := by rw [a23]
    refine go_a (pc' := 84) (ls' := [some (.ref h.length), some (.int (iI x)), some (.int (iI (I 7))), some (.int (iI c)), some (.int (iI v)), some (.int (iI k))]) (st' := [.int (iI k)]) rfl rfl ?_
    refine mi_lt0 (t := 113) rfl rfl (by omega) (by omega) (fun _ => ?_) (fun q => absurd (show k < 0 by omega) q)
    refine go_a (pc' := 114) (ls' := [some (.ref h.length), some (.int (iI x)), some (.int (iI (I 7))), some (.int (iI c)), some (.int (iI v)), some (.int (iI k))]) (st' := [.ref h.length]) rfl rfl ?_
    refine go_a (pc' := 115) (ls' := [some (.ref h.length), some (.int (iI x)), some (.int (iI (I 7))), some (.int (iI c)), some (.int (iI v)), some (.int (iI k))]) (st' := [.ref h.length, .ref h.length]) rfl rfl ?_
    refine go_a (pc' := 117) (ls' := [some (.ref h.length), some (.int (iI x)), some (.int (iI (I 7))), some (.int (iI c)), some (.int (iI v)), some (.int (iI k))]) (st' := [.int (iI 17), .ref h.length, .ref h.length]) rfl rfl ?_
    refine go_a (pc' := 118) (ls' := [some (.ref h.length), some (.int (iI x)), some (.int (iI (I 7))), some (.int (iI c)), some (.int (iI v)), some (.int (iI k))]) (st' := [.ref h.length, .int (iI 17), .ref h.length, .ref h.length]) rfl rfl ?_
    refine go_get rfl mh_o rfl rfl ?_
    refine go_a (pc' := 122) (ls' := [some (.ref h.length), some (.int (iI x)), some (.int (iI (I 7))), some (.int (iI c)), some (.int (iI v)), some (.int (iI k))]) (st' := [.int (iI c), .ref (h.length + 20), .int (iI 17), .ref h.length, .ref h.length]) rfl rfl ?_
    refine mi_ild rfl mh_a20 (by omega) (by omega) (by decide) ?_
    refine go_a (pc' := 125) (ls' := [some (.ref h.length), some (.int (iI x)), some (.int (iI (I 7))), some (.int (iI c)), some (.int (iI v)), some (.int (iI k))]) (st' := [.int (iI v), .int (iI (A1 20 c)), .int (iI 17), .ref h.length, .ref h.length]) rfl rfl ?_
    refine go_a (pc' := 126) (ls' := [some (.ref h.length), some (.int (iI x)), some (.int (iI (I 7))), some (.int (iI c)), some (.int (iI v)), some (.int (iI k))]) (st' := [.ref h.length, .int (iI v), .int (iI (A1 20 c)), .int (iI 17), .ref h.length, .ref h.length]) rfl rfl ?_
    refine go_get rfl mh_o rfl rfl ?_
    refine go_a (pc' := 130) (ls' := [some (.ref h.length), some (.int (iI x)), some (.int (iI (I 7))), some (.int (iI c)), some (.int (iI v)), some (.int (iI k))]) (st' := [.int (iI c), .ref (h.length + 23), .int (iI v), .int (iI (A1 20 c)), .int (iI 17), .ref h.length, .ref h.length]) rfl rfl ?_
    refine mi_ild rfl mh_a23 (by omega) (by omega) (by decide) ?_
    refine go_v (m := 180) (as := [.ref h.length, .int (iI 17), .int (iI (A1 20 c)), .int (iI v), .int (iI (A1 23 c))]) (r := [.ref h.length]) rfl rfl rfl mh_o rfl rfl (mm_list4Y z d 17 (A1 20 c) v (A1 23 c) h R I1 A1 N hc X.1 (GT8_N hN KA X) KA.1 (by omega) (by omega) (by decide) (by omega) (by omega) (by omega) v0 v1 (by omega) (by omega)) (fun v h1 hq => ?_)
    obtain ⟨k2, I2, A2, rfl, rfl, X2, g0, g1, g2, g3, g4, K2, D2⟩ := hq
    have KK := GT8_tr X KA K2
    obtain ⟨Tt, hTt⟩ : ∃ q : Int, CP (sp_ln 0 (DM A2 N k2)).1 q := CP_ex _
    have eL : (sp_ln 0 (DM A2 N k2)).1 = Ll := by
      rw [hLl, D2, f20, f23, KA.2.2 17 (by decide) (by omega), KA.2.2 _ q20.1 q20.2, KA.2.2 _ q23.1 q23.2, DV, show (k + 1).toNat = 0 by omega, List.drop_zero]
    show xx_go (xt_P z) (d + 6) 79 134 [some (.ref h.length), some (.int (iI x)), some (.int (iI (I 7))), some (.int (iI c)), some (.int (iI v)), some (.int (iI k))] [.int (iI k2), .ref h.length] (mh h R I2 A2 N) _
    refine go_v (m := 171) (as := [.ref h.length, .int (iI k2)]) (r := []) rfl rfl rfl mh_o rfl rfl (mm_tellOutX z (d + 1) k2 Tt h R I2 A2 N hc X2.1 (GT8_N hN KK (EX_tr X X2)) KK.1 hTt g0 g1) (fun v h1 hq => ?_)
    obtain ⟨rfl, I3, A3, rfl, Y, ⟨y0, y1⟩, yT⟩ := hq
    show xx_go (xt_P z) (d + 6) 79 137 [some (.ref h.length), some (.int (iI x)), some (.int (iI (I 7))), some (.int (iI c)), some (.int (iI v)), some (.int (iI k))] [] (mh h R I3 A3 N) _
    refine go_a (pc' := 162) (ls' := [some (.ref h.length), some (.int (iI x)), some (.int (iI (I 7))), some (.int (iI c)), some (.int (iI v)), some (.int (iI k))]) (st' := []) rfl rfl ?_
    exact mm_tell_endY z (d + 3) x c Ll _ _ h R I A N hc hS (by omega) I3 A3 (BX_tr (BX_EX2 (EX_tr X X2)) (BX_TX2 X2.1 Y)) (K8_tr KK.2.1 ⟨Y.2 8 (by decide) (by decide), Y.2 9 (by decide) (by decide)⟩) (by rw [yT, ← eL]; exact hTt) ((Y.1 10 (by decide) (by decide)).trans (g4.trans e10)) ⟨y0, y1⟩ (fun k a b => by rw [Y.2 4 (by decide) (by decide)]; exact ((EX_tr X X2).2.2.1 k a b).2.2.2)
  | succ n ih =>
    intro I1 A1 v k ek kk X KA DV e10 c7 v0 v1
    have x2 := X.2.1
    have q := q22 k (by omega) kk
    have a22 : A1 22 = A 22 := X.2.2.2.2.1 22 (by decide) (by decide) (by decide) (by decide) (by decide) (by decide) (by decide) (by decide)
    have f22 : A1 22 (6 * c + k) = A 22 (6 * c + k) := by rw [a22]
    refine go_a (pc' := 84) (ls' := [some (.ref h.length), some (.int (iI x)), some (.int (iI (I 7))), some (.int (iI c)), some (.int (iI v)), some (.int (iI k))]) (st' := [.int (iI k)]) rfl rfl ?_
    refine mi_lt0 (t := 113) rfl rfl (by omega) (by omega) (fun q => absurd q (by omega)) (fun _ => ?_)
    refine go_a (pc' := 88) (ls' := [some (.ref h.length), some (.int (iI x)), some (.int (iI (I 7))), some (.int (iI c)), some (.int (iI v)), some (.int (iI k))]) (st' := [.ref h.length]) rfl rfl ?_
    refine go_a (pc' := 89) (ls' := [some (.ref h.length), some (.int (iI x)), some (.int (iI (I 7))), some (.int (iI c)), some (.int (iI v)), some (.int (iI k))]) (st' := [.ref h.length, .ref h.length]) rfl rfl ?_
    refine go_get rfl mh_o rfl rfl ?_
    refine go_a (pc' := 94) (ls' := [some (.ref h.length), some (.int (iI x)), some (.int (iI (I 7))), some (.int (iI c)), some (.int (iI v)), some (.int (iI k))]) (st' := [.int (iI 6), .ref (h.length + 22), .ref h.length]) rfl rfl ?_
    refine go_a (pc' := 95) (ls' := [some (.ref h.length), some (.int (iI x)), some (.int (iI (I 7))), some (.int (iI c)), some (.int (iI v)), some (.int (iI k))]) (st' := [.int (iI c), .int (iI 6), .ref (h.length + 22), .ref h.length]) rfl rfl ?_
    refine mi_mul rfl ?_
    refine go_a (pc' := 98) (ls' := [some (.ref h.length), some (.int (iI x)), some (.int (iI (I 7))), some (.int (iI c)), some (.int (iI v)), some (.int (iI k))]) (st' := [.int (iI k), .int (iI (6 * c)), .ref (h.length + 22), .ref h.length]) rfl rfl ?_
    refine mi_add rfl ?_
    refine mi_ild rfl mh_a22 (by omega) (by omega) (by decide) ?_
    refine go_a (pc' := 102) (ls' := [some (.ref h.length), some (.int (iI x)), some (.int (iI (I 7))), some (.int (iI c)), some (.int (iI v)), some (.int (iI k))]) (st' := [.int (iI v), .int (iI (A1 22 ((6 * c) + k))), .ref h.length]) rfl rfl ?_
    refine go_v (m := 85) (as := [.ref h.length, .int (iI (A1 22 ((6 * c) + k))), .int (iI v)]) (r := []) rfl rfl rfl mh_o rfl rfl (mm_pairY z (d + 4) (A1 22 (6 * c + k)) v h R I1 A1 N hc X.1 (GT8_N hN KA X) KA.1 (by omega) (by omega) (by omega) v0 v1) (fun v h1 hq => ?_)
    obtain ⟨k2, I2, A2, rfl, rfl, X2, g0, g1, f1, f2, f3, f4, K2, D2⟩ := hq
    show xx_go (xt_P z) (d + 6) 79 105 [some (.ref h.length), some (.int (iI x)), some (.int (iI (I 7))), some (.int (iI c)), some (.int (iI v)), some (.int (iI k))] [.int (iI k2)] (mh h R I2 A2 N) _
    refine go_a (pc' := 107) (ls' := [some (.ref h.length), some (.int (iI x)), some (.int (iI (I 7))), some (.int (iI c)), some (.int (iI k2)), some (.int (iI k))]) (st' := []) rfl rfl ?_
    refine go_a (pc' := 110) (ls' := [some (.ref h.length), some (.int (iI x)), some (.int (iI (I 7))), some (.int (iI c)), some (.int (iI k2)), some (.int (iI (k + (-1))))]) (st' := []) rfl (by rw [← iI_add k (-1)]; rfl) ?_
    refine go_a (pc' := 82) (ls' := [some (.ref h.length), some (.int (iI x)), some (.int (iI (I 7))), some (.int (iI c)), some (.int (iI k2)), some (.int (iI (k + (-1))))]) (st' := []) rfl rfl ?_
    exact ih I2 A2 k2 (k + (-1)) (by omega) (by omega) (EX_tr X X2) (GT8_tr X KA K2) (by rw [D2, f22, KA.2.2 _ q.1 q.2, DV, show (k + -1 + 1).toNat = k.toNat by omega, show (k + 1).toNat = k.toNat + 1 by omega]; exact (li_drop (f := fun j : Nat => DM A N (A 22 (6 * c + (j : Int)))) (show k.toNat < (A 21 c).toNat by omega) (by show DM A N (A 22 (6 * c + (k.toNat : Int))) = _; rw [show ((k.toNat : Nat) : Int) = k by omega])).symm) (f4.trans e10) (by omega) g0 g1
theorem mm_tellY (z : Value) (d : Nat) (x : Int) (h R : xx_H) (I : Nat → Int) (A : Nat → Int → Int) (N : Int → Int) (hc : 12 ≤ h.length) (hS : MST I A N) (hN : NM I A) (hT : TRX I A N) (z0 : 18 < I 7) (ho : I 7 + 10 ≤ 140000) (hTL : TLI I A) (x0 : -2147483648 ≤ x) (x1 : x < 2147483648) : xx_cl (xt_P z) (d + 7) 79 [.ref h.length, .int (iI x)] (mh h R I A N) (fun v h1 => (v = some (.int (iI (-1))) ∧ h1 = mh h R I A N ∧ ¬ (0 ≤ x ∧ x < I 41)) ∨ (0 ≤ x ∧ x < I 41) ∧ ∃ (I1 : Nat → Int) (A1 : Nat → Int → Int), v = some (.int (iI (I1 15))) ∧ h1 = mh h R I1 A1 N ∧ BX FTL GTL I A N I1 A1 N ∧ I1 7 = I 7 ∧ I1 10 ≤ I 10 ∧ (0 ≤ I1 15 ∧ I1 15 ≤ 2000) ∧ (∀ k : Int, 0 ≤ k → k < I 7 → A1 4 k = A 4 k) ∧ K8 A A1 ∧ CP (sp_ln 0 (if A 27 x = 0 then (sp_li [DM A N 18, DM A N (A 25 (CNT (A 27) (A 27 x) x.toNat)), DM A N (A 26 (CNT (A 27) (A 27 x) x.toNat))]) else (sp_li [DM A N 17, DM A N (A 20 (CNT (A 27) (A 27 x) x.toNat)), sp_li ((List.range (A 21 (CNT (A 27) (A 27 x) x.toNat)).toNat).map (fun j : Nat => DM A N (A 22 (6 * CNT (A 27) (A 27 x) x.toNat + (j : Int))))), DM A N (A 23 (CNT (A 27) (A 27 x) x.toNat))]))).1 (I1 15)) := by
  have t := hTL.1
  have b0 := hTL.2.1
  have no : ¬ (0 ≤ x ∧ x < I 41) → xx_go (xt_P z) (d + 6) 79 12 [some (.ref h.length), some (.int (iI x)), none, none, none, none] [] (mh h R I A N) (fun v h1 => (v = some (.int (iI (-1))) ∧ h1 = mh h R I A N ∧ ¬ (0 ≤ x ∧ x < I 41)) ∨ (0 ≤ x ∧ x < I 41) ∧ ∃ (I1 : Nat → Int) (A1 : Nat → Int → Int), v = some (.int (iI (I1 15))) ∧ h1 = mh h R I1 A1 N ∧ BX FTL GTL I A N I1 A1 N ∧ I1 7 = I 7 ∧ I1 10 ≤ I 10 ∧ (0 ≤ I1 15 ∧ I1 15 ≤ 2000) ∧ (∀ k : Int, 0 ≤ k → k < I 7 → A1 4 k = A 4 k) ∧ K8 A A1 ∧ CP (sp_ln 0 (if A 27 x = 0 then (sp_li [DM A N 18, DM A N (A 25 (CNT (A 27) (A 27 x) x.toNat)), DM A N (A 26 (CNT (A 27) (A 27 x) x.toNat))]) else (sp_li [DM A N 17, DM A N (A 20 (CNT (A 27) (A 27 x) x.toNat)), sp_li ((List.range (A 21 (CNT (A 27) (A 27 x) x.toNat)).toNat).map (fun j : Nat => DM A N (A 22 (6 * CNT (A 27) (A 27 x) x.toNat + (j : Int))))), DM A N (A 23 (CNT (A 27) (A 27 x) x.toNat))]))).1 (I1 15)) := by
    intro nx
    refine go_a (pc' := 13) (ls' := [some (.ref h.length), some (.int (iI x)), none, none, none, none]) (st' := [.int (iI ((-1)))]) rfl rfl ?_
    exact go_r rfl rfl rfl rfl rfl rfl (Or.inl ⟨rfl, rfl, nx⟩)
  refine cl_go rfl ?_
  show xx_go (xt_P z) (d + 6) 79 0 [some (.ref h.length), some (.int (iI x)), none, none, none, none] [] (mh h R I A N) _
  refine go_a (pc' := 1) (ls' := [some (.ref h.length), some (.int (iI x)), none, none, none, none]) (st' := [.int (iI x)]) rfl rfl ?_
  refine mi_lt0 (t := 12) rfl rfl (by omega) (by omega) (fun q1 => no (by omega)) (fun q1 => ?_)
  refine go_a (pc' := 5) (ls' := [some (.ref h.length), some (.int (iI x)), none, none, none, none]) (st' := [.int (iI x)]) rfl rfl ?_
  refine go_a (pc' := 6) (ls' := [some (.ref h.length), some (.int (iI x)), none, none, none, none]) (st' := [.ref h.length, .int (iI x)]) rfl rfl ?_
  refine go_get (v := .int (iI (I 41))) rfl mh_o rfl rfl ?_
  refine mi_lt (t := 14) rfl rfl (by omega) (by omega) (by omega) (by omega) (fun q2 => ?_) (fun q2 => no (by omega))
  refine go_a (pc' := 15) (ls' := [some (.ref h.length), some (.int (iI x)), none, none, none, none]) (st' := [.ref h.length]) rfl rfl ?_
  refine go_get (v := .int (iI (I 7))) rfl mh_o rfl rfl ?_
  refine go_a (pc' := 19) (ls' := [some (.ref h.length), some (.int (iI x)), some (.int (iI (I 7))), none, none, none]) (st' := []) rfl rfl ?_
  refine go_a (pc' := 20) (ls' := [some (.ref h.length), some (.int (iI x)), some (.int (iI (I 7))), none, none, none]) (st' := [.int (iI 0)]) rfl rfl ?_
  refine go_a (pc' := 21) (ls' := [some (.ref h.length), some (.int (iI x)), some (.int (iI (I 7))), some (.int (iI 0)), none, none]) (st' := []) rfl rfl ?_
  refine go_a (pc' := 22) (ls' := [some (.ref h.length), some (.int (iI x)), some (.int (iI (I 7))), some (.int (iI 0)), none, none]) (st' := [.int (iI 0)]) rfl rfl ?_
  refine go_a (pc' := 24) (ls' := [some (.ref h.length), some (.int (iI x)), some (.int (iI (I 7))), some (.int (iI 0)), some (.int (iI 0)), none]) (st' := []) rfl rfl ?_
  have h3 := hTL.2.2 x (by omega) q2
  have cn := CNT_le (f := A 27) (x := A 27 x) x.toNat
  have bx := b0 x
  refine mm_tell_loop z (d + 6) x (I 7) none h R I A N hc _ (by omega) (by omega) b0 ?_ x.toNat 0 (by omega) (Int.le_refl _) (by omega)
  refine go_a (pc' := 61) (ls' := [some (.ref h.length), some (.int (iI x)), some (.int (iI (I 7))), some (.int (iI (CNT (A 27) (A 27 x) x.toNat))), some (.int (iI x)), none]) (st' := [.ref h.length]) rfl rfl ?_
  refine go_get rfl mh_o rfl rfl ?_
  refine go_a (pc' := 65) (ls' := [some (.ref h.length), some (.int (iI x)), some (.int (iI (I 7))), some (.int (iI (CNT (A 27) (A 27 x) x.toNat))), some (.int (iI x)), none]) (st' := [.int (iI x), .ref (h.length + 27)]) rfl rfl ?_
  refine mi_zld rfl mh_a27 (show 0 ≤ x by omega) (show x < (100 : Nat) by omega) (by decide) ?_
  refine mi_eq0 (t := 140) rfl rfl (by omega) (by omega) (fun e => ?_) (fun e => ?_)
  · have r := h3.2 e
    refine go_a (pc' := 141) (ls' := [some (.ref h.length), some (.int (iI x)), some (.int (iI (I 7))), some (.int (iI (CNT (A 27) (A 27 x) x.toNat))), some (.int (iI x)), none]) (st' := [.ref h.length]) rfl rfl ?_
    refine go_a (pc' := 142) (ls' := [some (.ref h.length), some (.int (iI x)), some (.int (iI (I 7))), some (.int (iI (CNT (A 27) (A 27 x) x.toNat))), some (.int (iI x)), none]) (st' := [.ref h.length, .ref h.length]) rfl rfl ?_
    refine go_a (pc' := 144) (ls' := [some (.ref h.length), some (.int (iI x)), some (.int (iI (I 7))), some (.int (iI (CNT (A 27) (A 27 x) x.toNat))), some (.int (iI x)), none]) (st' := [.int (iI 18), .ref h.length, .ref h.length]) rfl rfl ?_
    refine go_a (pc' := 145) (ls' := [some (.ref h.length), some (.int (iI x)), some (.int (iI (I 7))), some (.int (iI (CNT (A 27) (A 27 x) x.toNat))), some (.int (iI x)), none]) (st' := [.ref h.length, .int (iI 18), .ref h.length, .ref h.length]) rfl rfl ?_
    refine go_get rfl mh_o rfl rfl ?_
    refine go_a (pc' := 149) (ls' := [some (.ref h.length), some (.int (iI x)), some (.int (iI (I 7))), some (.int (iI (CNT (A 27) (A 27 x) x.toNat))), some (.int (iI x)), none]) (st' := [.int (iI (CNT (A 27) (A 27 x) x.toNat)), .ref (h.length + 25), .int (iI 18), .ref h.length, .ref h.length]) rfl rfl ?_
    refine mi_ild rfl mh_a25 (by omega) (by omega) (by decide) ?_
    refine go_a (pc' := 151) (ls' := [some (.ref h.length), some (.int (iI x)), some (.int (iI (I 7))), some (.int (iI (CNT (A 27) (A 27 x) x.toNat))), some (.int (iI x)), none]) (st' := [.ref h.length, .int (iI (A 25 (CNT (A 27) (A 27 x) x.toNat))), .int (iI 18), .ref h.length, .ref h.length]) rfl rfl ?_
    refine go_get rfl mh_o rfl rfl ?_
    refine go_a (pc' := 155) (ls' := [some (.ref h.length), some (.int (iI x)), some (.int (iI (I 7))), some (.int (iI (CNT (A 27) (A 27 x) x.toNat))), some (.int (iI x)), none]) (st' := [.int (iI (CNT (A 27) (A 27 x) x.toNat)), .ref (h.length + 26), .int (iI (A 25 (CNT (A 27) (A 27 x) x.toNat))), .int (iI 18), .ref h.length, .ref h.length]) rfl rfl ?_
    refine mi_ild rfl mh_a26 (by omega) (by omega) (by decide) ?_
    refine go_v (m := 181) (as := [.ref h.length, .int (iI 18), .int (iI (A 25 (CNT (A 27) (A 27 x) x.toNat))), .int (iI (A 26 (CNT (A 27) (A 27 x) x.toNat)))]) (r := [.ref h.length]) rfl rfl rfl mh_o rfl rfl (mm_list3Y z (d + 1) 18 (A 25 (CNT (A 27) (A 27 x) x.toNat)) (A 26 (CNT (A 27) (A 27 x) x.toNat)) h R I A N hc hS hN hT (by omega) (by omega) (by decide) (by omega) r.2.1.1 r.2.1.2 r.2.2.1 r.2.2.2) (fun v h1 hq => ?_)
    obtain ⟨k2, I2, A2, rfl, rfl, X2, g0, g1, g2, g3, g4, K2, D2⟩ := hq
    obtain ⟨Tt, hTt⟩ : ∃ q : Int, CP (sp_ln 0 (DM A2 N k2)).1 q := CP_ex _
    show xx_go (xt_P z) (d + 6) 79 159 [some (.ref h.length), some (.int (iI x)), some (.int (iI (I 7))), some (.int (iI (CNT (A 27) (A 27 x) x.toNat))), some (.int (iI x)), none] [.int (iI k2), .ref h.length] (mh h R I2 A2 N) _
    refine go_v (m := 171) (as := [.ref h.length, .int (iI k2)]) (r := []) rfl rfl rfl mh_o rfl rfl (mm_tellOutX z (d + 1) k2 Tt h R I2 A2 N hc X2.1 (GT8_N hN K2 X2) K2.1 hTt g0 g1) (fun v h1 hq => ?_)
    obtain ⟨rfl, I3, A3, rfl, Y, ⟨y0, y1⟩, yT⟩ := hq
    show xx_go (xt_P z) (d + 6) 79 162 [some (.ref h.length), some (.int (iI x)), some (.int (iI (I 7))), some (.int (iI (CNT (A 27) (A 27 x) x.toNat))), some (.int (iI x)), none] [] (mh h R I3 A3 N) _
    rw [if_pos e]
    refine go_w ?_ (mm_tell_endY z (d + 3) x (CNT (A 27) (A 27 x) x.toNat) (sp_ln 0 (DM A2 N k2)).1 _ _ h R I A N hc hS (by omega) I3 A3 (BX_tr (BX_EX2 X2) (BX_TX2 X2.1 Y)) (K8_tr K2.2.1 ⟨Y.2 8 (by decide) (by decide), Y.2 9 (by decide) (by decide)⟩) (by rw [yT]; exact hTt) ((Y.1 10 (by decide) (by decide)).trans g4) ⟨y0, y1⟩ (fun k a b => by rw [Y.2 4 (by decide) (by decide)]; exact (X2.2.2.1 k a b).2.2.2))
    intro v h9 hq
    exact tl_fin (by omega) (by rw [D2]) hq
  · have r := h3.1 e
    refine go_a (pc' := 70) (ls' := [some (.ref h.length), some (.int (iI x)), some (.int (iI (I 7))), some (.int (iI (CNT (A 27) (A 27 x) x.toNat))), some (.int (iI x)), none]) (st' := [.int (iI 0)]) rfl rfl ?_
    refine go_a (pc' := 72) (ls' := [some (.ref h.length), some (.int (iI x)), some (.int (iI (I 7))), some (.int (iI (CNT (A 27) (A 27 x) x.toNat))), some (.int (iI 0)), none]) (st' := []) rfl rfl ?_
    refine go_a (pc' := 73) (ls' := [some (.ref h.length), some (.int (iI x)), some (.int (iI (I 7))), some (.int (iI (CNT (A 27) (A 27 x) x.toNat))), some (.int (iI 0)), none]) (st' := [.ref h.length]) rfl rfl ?_
    refine go_get rfl mh_o rfl rfl ?_
    refine go_a (pc' := 77) (ls' := [some (.ref h.length), some (.int (iI x)), some (.int (iI (I 7))), some (.int (iI (CNT (A 27) (A 27 x) x.toNat))), some (.int (iI 0)), none]) (st' := [.int (iI (CNT (A 27) (A 27 x) x.toNat)), .ref (h.length + 21)]) rfl rfl ?_
    refine mi_ild rfl mh_a21 (by omega) (by omega) (by decide) ?_
    refine go_a (pc' := 79) (ls' := [some (.ref h.length), some (.int (iI x)), some (.int (iI (I 7))), some (.int (iI (CNT (A 27) (A 27 x) x.toNat))), some (.int (iI 0)), none]) (st' := [.int (iI 1), .int (iI (A 21 (CNT (A 27) (A 27 x) x.toNat)))]) rfl rfl ?_
    refine mi_sub rfl ?_
    refine go_a (pc' := 82) (ls' := [some (.ref h.length), some (.int (iI x)), some (.int (iI (I 7))), some (.int (iI (CNT (A 27) (A 27 x) x.toNat))), some (.int (iI 0)), some (.int (iI ((A 21 (CNT (A 27) (A 27 x) x.toNat)) - 1)))]) (st' := []) rfl rfl ?_
    rw [if_neg e]
    refine go_w ?_ (mm_tell_defY z d x (CNT (A 27) (A 27 x) x.toNat) _ h R I A N hc hS hN hT rfl (by omega) ho cn.1 r.1 r.2.1 r.2.2.1 r.2.2.2.1 r.2.2.2.2 (A 21 (CNT (A 27) (A 27 x) x.toNat)).toNat I A 0 _ (by omega) (by omega) (EX_rf hS) (GT8_rf hT) (by rw [show (A 21 (CNT (A 27) (A 27 x) x.toNat) - 1 + 1).toNat = (A 21 (CNT (A 27) (A 27 x) x.toNat)).toNat by omega, DM_0 hT]; exact (li_nil _).symm) rfl (by omega) (Int.le_refl _) (by omega))
    intro v h9 hq
    exact tl_fin (by omega) rfl hq
