theorem RU_EX {ar : Int → Int} {c : Int} {I I1 : Nat → Int} {A A1 : Nat → Int → Int} {N N1 : Int → Int} (hB : BI ar I A N) (x : EX I A N I1 A1 N1) (h10 : I1 10 = I 10 ∧ A1 8 = A 8 ∧ A1 9 = A 9) (hZ : SZI ar I1 A1) (h7 : I1 7 ≤ I 7 + c) : RU ar c I A N I1 A1 N1 ∧ (∀ m s v : Int, DR ar m s v I A → DR ar m s v I1 A1) ∧ ∀ (m s v : Int) (its : List (Option ob_T)), TRX I A N → DR ar m s v I A → DIT its I A N → DIT its I1 A1 N1 := by
  have b : BX NO NO I A N I1 A1 N1 := ⟨x.1, x.2.1, fun k p q => ⟨(x.2.2.1 k p q).1, (x.2.2.1 k p q).2.1, (x.2.2.1 k p q).2.2.1, fun e => by rw [(x.2.2.1 k p q).2.2.2]; exact e⟩, fun j p _ => by
    by_cases e : j = 10
    · rw [e]; exact h10.1
    · exact x.2.2.2.1 j p e, fun a p1 p2 p3 p4 p5 p7 q => by
    by_cases e8 : a = 8
    · rw [e8]; exact h10.2.1
    · by_cases e9 : a = 9
      · rw [e9]; exact h10.2.2
      · exact x.2.2.2.2.1 a p1 p2 p3 p4 p5 p7 e8 e9⟩
  have f : ∀ j : Nat, j ≠ 7 → I1 j = I j := fun j p => b.2.2.2.1 j p (fun z => z)
  have r := RU_of (c := c) hB b (fun j q => absurd q (fun z => z)) (fun a q => absurd q (fun z => z)) hZ (f 54 (by decide)) (f 56 (by decide)) (by rw [f 49 (by decide)]; exact hB.2.2.2.2) h7 (fun _ => f 49 (by decide))
  exact ⟨r, fun m s v D => DR_BX (BI_P hB) D b (fun z => z) (fun z => z) (RU_z r), fun m s v its hT D di => DIT_BX hB hT D b (fun z => z) (fun z => z) (fun z => z) (fun z => z) (fun z => z) (f 49 (by decide)) di⟩
theorem find_at {α : Type} {p : α → Bool} : ∀ (L : List α) (k : Nat) (a : α), L[k]? = some a → p a = true → (∀ (j : Nat) (b : α), j < k → L[j]? = some b → p b = false) → L.find? p = some a
  | [], _, _, h, _, _ => by simp at h
  | x :: L, 0, a, h, ha, _ => by
    have e : x = a := by simpa using h
    rw [← e] at ha ⊢
    exact List.find?_cons_of_pos ha
  | x :: L, k + 1, a, h, ha, hb => by
    rw [List.find?_cons_of_neg (by rw [hb 0 x (by omega) rfl]; decide)]
    exact find_at L k a (by simpa using h) ha (fun j b hj h2 => hb (j + 1) b (by omega) (by simpa using h2))
theorem find_no {α : Type} {p : α → Bool} : ∀ (L : List α), (∀ (j : Nat) (b : α), L[j]? = some b → p b = false) → L.find? p = none
  | [], _ => rfl
  | x :: L, hb => by
    rw [List.find?_cons_of_neg (by rw [hb 0 x rfl]; decide)]
    exact find_no L (fun j b h2 => hb (j + 1) b (by simpa using h2))
section FBS
variable {ar : Int → Int} {ft : Nat → Int} {Fb : List (Nat × List Nat × ob_T)} {Tb : List (Nat × ob_T)} {I : Nat → Int} {A : Nat → Int → Int} {N : Int → Int} {x n : Int}
theorem fb_len {j : Nat} {b : Nat × List Nat × ob_T} (h : Fb[j]? = some b) : j < Fb.length := by
  by_cases c : j < Fb.length
  · exact c
  · rw [List.getElem?_eq_none (by omega)] at h
    cases h
theorem tb_len {j : Nat} {b : Nat × ob_T} (h : Tb[j]? = some b) : j < Tb.length := by
  by_cases c : j < Tb.length
  · exact c
  · rw [List.getElem?_eq_none (by omega)] at h
    cases h
theorem ish_f (hB : BI ar I A N) (h : BTX ar ft Fb Tb I A N) {k : Int} {v : Nat} (k0 : 0 ≤ k) (k1 : k < I 7) (n0 : 0 ≤ n) (n1 : n < I 7) (e : DM A N k = .var v) (ne : k ≠ n) : sp_ish v (DM A N n) = false := by
  cases c : sp_ish v (DM A N n) with
  | false => rfl
  | true => exact absurd (DM_inj ⟨hB.1.1, h.1.1⟩ k0 k1 n0 n1 (e.trans (sp_ish_e c).symm)) ne
theorem fb_at (hB : BI ar I A N) (h : BTX ar ft Fb Tb I A N) (x0 : 0 ≤ x) (x1 : x < I 32) (n0 : 0 ≤ n) (n1 : n < I 7) (ex : A 20 x = n) (fx : ∀ e : Int, 0 ≤ e → e < x → A 20 e ≠ n) : ∃ (v : Nat) (ps : List Nat) (B : ob_T), sp_fb Fb (DM A N n) = some (v, ps, B) ∧ DM A N (A 20 x) = .var v ∧ (List.range (A 21 x).toNat).map (fun (j : Nat) => DM A N (A 22 (6 * x + j))) = ps.map .var ∧ DM A N (A 23 x) = B ∧ ps = VsP A N x (A 21 x).toNat ∧ 1 ≤ TS A ar (A 23 x) ∧ (A 24 x ≠ 0 ↔ (sp_cc v B).1 ≠ []) := by
  obtain ⟨⟨l1, -⟩, bk, -⟩ := h.2.2.2
  obtain ⟨v, ps, B, e1, e2, e3, e4, e5⟩ := bk x.toNat (by omega)
  rw [show ((x.toNat : Nat) : Int) = x by omega] at e2 e3 e4 e5
  have hp : ∀ k : Nat, k < ps.length → ∃ w : Nat, ps[k]? = some w ∧ DM A N (A 22 (6 * x + k)) = .var w := fun k hk => by
    obtain ⟨w, a, b, -⟩ := e3.2 k hk
    exact ⟨w, a, b.2⟩
  have pl : (A 21 x).toNat = ps.length := by have := e3.1; omega
  refine ⟨v, ps, B, find_at Fb x.toNat _ e1 ?_ (fun j b hj hb => ?_), e2.2, ?_, e4.2.symm, ?_, e5⟩
  · show sp_ish v (DM A N n) = true
    rw [← ex, e2.2]
    exact sp_ish_r v
  · obtain ⟨v2, ps2, B2, f1, f2, -⟩ := bk j (fb_len hb)
    rw [hb] at f1
    injection f1 with f1
    rw [f1]
    exact ish_f hB h f2.1.1 f2.1.2 n0 n1 f2.2 (fx j (by omega) (by omega))
  · rw [pl]
    refine List.ext_getElem? (fun k => ?_)
    by_cases c : k < ps.length
    · obtain ⟨w, a, b⟩ := hp k c
      rw [List.getElem?_map, List.getElem?_map, List.getElem?_range c, a]
      show some (DM A N (A 22 (6 * x + (k : Int)))) = some (.var w)
      rw [b]
    · rw [List.getElem?_eq_none (by rw [List.length_map, List.length_range]; omega), List.getElem?_eq_none (by rw [List.length_map]; omega)]
  · unfold VsP
    rw [pl]
    refine List.ext_getElem? (fun k => ?_)
    by_cases c : k < ps.length
    · obtain ⟨w, a, b⟩ := hp k c
      rw [List.getElem?_map, List.getElem?_range c, a]
      show some w = some (sp_hc (DM A N (A 22 (6 * x + (k : Int)))))
      rw [b]
      rfl
    · rw [List.getElem?_eq_none (by omega), List.getElem?_eq_none (by rw [List.length_map, List.length_range]; omega)]
theorem tb_at (hB : BI ar I A N) (h : BTX ar ft Fb Tb I A N) (x0 : 0 ≤ x) (x1 : x < I 38) (n0 : 0 ≤ n) (n1 : n < I 7) (ex : A 25 x = n) (fx : ∀ e : Int, 0 ≤ e → e < x → A 25 e ≠ n) : ∃ (v : Nat) (B : ob_T), sp_tb Tb (DM A N n) = some (v, B) ∧ DM A N (A 26 x) = B := by
  obtain ⟨⟨-, l2⟩, -, bk⟩ := h.2.2.2
  obtain ⟨v, B, e1, e2, e4, e5⟩ := bk x.toNat (by omega)
  rw [show ((x.toNat : Nat) : Int) = x by omega] at e2 e4 e5
  refine ⟨v, B, find_at Tb x.toNat _ e1 ?_ (fun j b hj hb => ?_), e4.2.symm⟩
  · show sp_ish v (DM A N n) = true
    rw [← ex, e2.2]
    exact sp_ish_r v
  · obtain ⟨v2, B2, f1, f2, -⟩ := bk j (tb_len hb)
    rw [hb] at f1
    injection f1 with f1
    rw [f1]
    exact ish_f hB h f2.1.1 f2.1.2 n0 n1 f2.2 (fx j (by omega) (by omega))
theorem CQ_cs {v q : Int} (hS : MST I A N) (hN : NM I A) (hT : TRX I A N) (v0 : 0 ≤ v) (v1 : v < I 7) (q0 : 0 ≤ q) (q1 : q < I 7) (c : CQ A v q) : DM A N q = sp_cs (DM A N v) := by
  unfold sp_cs
  have n7 := hN.1
  rcases c with ⟨c, e⟩ | ⟨c, a, b, d, e⟩
  · rw [if_pos ((ba_0 hS hN hT v0 v1).mpr c), e]
  · have g := (MST_PW hS).2 q q0 q1
    have g2 := g.2.2.2.2 (by omega)
    rw [if_neg (fun z => c ((ba_0 hS hN hT v0 v1).mp z)), DM_pr hS hT q0 q1 (by omega), a, DM_2 hT, DM_pr hS hT (k := A 2 q) b (by omega) (by omega), d, e, DM_0 hT]
end FBS
set_option maxRecDepth 4000 in
theorem mm_con_value (z : Value) (d : Nat) (ar : Int → Int) (ft : Nat → Int) (Fb : List (Nat × List Nat × ob_T)) (Tb : List (Nat × ob_T)) (ρ : Option (List ob_T)) (k o c E dd : Int) (h R : xx_H) (I : Nat → Int) (A : Nat → Int → Int) (N : Int → Int) (hc : 12 ≤ h.length) (hB : BI ar I A N) (k0 : 0 ≤ k) (k1 : k < 40) (ek : A 47 k = o) (o0 : 0 ≤ o) (o1 : o < I 7) (hF : FORM ar I A N o) (ec : A 49 k = c) (c0 : 0 ≤ c) (w : WD A o ≤ 1000) (hE : E + 128 * WD A o ≤ 140000) (d0 : 0 ≤ dd) (d1 : dd ≤ 39) (c9 : Int) (hcf : CFX ar I A o c9) (hX : BTX ar ft Fb Tb I A N) (w0 : I 49 = 0) (ef : A 1 o = 31) (hU : I 7 ≤ E + c9) (hρ : ∀ l w : ob_T, sp_tm ft (DM A N (A 1 (rt A 1 o))) = some l → sp_va ft l = some w → ρ = sp_cz [sp_opO (sp_eq l (sp_cs w))]) : xx_cl (xt_P z) (d + 11) 154 [.ref h.length, .int (iI k)] (mh h R I A N) (fun v h1 => ∃ (b : Int) (I1 : Nat → Int) (A1 : Nat → Int → Int) (N1 : Int → Int), v = some (.int (iI b)) ∧ h1 = mh h R I1 A1 N1 ∧ RU ar 140000 I A N I1 A1 N1 ∧ ((b = 0 ∧ ρ = none) ∨ (b = 1 ∧ (∃ its : List (Option ob_T), DIT its I1 A1 N1 ∧ ρ = sp_cz its) ∧ ∃ S V : Int, DR ar 1190 S V I1 A1 ∧ (I1 49 = 0 → I1 67 ≤ 30 → SG (TZ A1 ar) (A1 38) (I1 67).toNat ≤ 400 → I1 7 + KDR dd I1 A1 ar ≤ E + 128 * WD A o)))) := by
  have hP := BI_P hB
  have n0 := BI_n0 hB
  have p9 := hP.1
  have nm := hB.1.2.1.1
  have n2 : A 1 2 < 0 := by rw [hB.1.2.1.2 2 (by decide) (by decide)]; decide
  obtain ⟨n, hL, n1, hF⟩ := hF
  have en : n = 2 ∧ TOK A ar (A 1 (rt A 1 o)) := by
    rcases hF with q | q | q | q | q | q | q | q | q | q | q | q
    · omega
    · exact ⟨q.2.1, q.2.2.1⟩
    · omega
    · omega
    · omega
    · omega
    · omega
    · omega
    · omega
    · omega
    · omega
    · omega
  obtain ⟨tf, tf0, tf1, tf2, tf3⟩ : ∃ t : Int, (0 ≤ t ∧ t < I 7) ∧ 1 ≤ TZ A ar t ∧ NFT A (A 1 (rt A 1 o)) t ∧ TLD A N ar t := by
    rcases hF with q | q | q | q | q | q | q | q | q | q | q | q
    · omega
    · exact q.2.2.2
    · omega
    · omega
    · omega
    · omega
    · omega
    · omega
    · omega
    · omega
    · omega
    · omega
  obtain ⟨rfl, tk1⟩ := en
  have wo := WD_pair hP o0 o1 (by omega)
  rw [if_neg (fun q => absurd q.1 (by omega))] at wo
  have v0 := VD_rt hP o0 o1 hL (by decide : 0 < 2)
  have v0e : VD A o = WD A (A 1 o) + VD A (rt A 1 o) := v0.1
  have wr : WD A (A 1 o) = 1 := WD_atom (by rw [hB.1.2.1.2 _ (by omega) (by omega)]; decide)
  have v1 := VD_rt hP o0 o1 hL (by decide : 1 < 2)
  have v1e : VD A (rt A 1 o) = WD A (A 1 (rt A 1 o)) + VD A (rt A 2 o) := v1.1
  have vz : VD A (rt A 2 o) = 0 := by rw [isL_end 2 o hL, VD_atom n0, if_pos rfl]
  have cf := hcf.2 (by omega)
  have cf2 := cf.1 ef
  refine cl_go rfl ?_
  show xx_go (xt_P z) (d + 10) 154 0 [some (.ref h.length), some (.int (iI k)), none, none, none, none, none, none] [] (mh h R I A N) _
  refine go_a (pc' := 1) (ls' := [some (.ref h.length), some (.int (iI k)), none, none, none, none, none, none]) (st' := [.ref h.length]) rfl rfl ?_
  refine go_get rfl mh_o rfl rfl ?_
  refine go_a (pc' := 5) (ls' := [some (.ref h.length), some (.int (iI k)), none, none, none, none, none, none]) (st' := [.int (iI k), .ref (h.length + 47)]) rfl rfl ?_
  refine mi_ild rfl mh_a47 (by omega) (by omega) (by decide) ?_
  rw [ek]
  refine go_a (pc' := 7) (ls' := [some (.ref h.length), some (.int (iI k)), some (.int (iI o)), none, none, none, none, none]) (st' := []) rfl rfl ?_
  refine go_a (pc' := 8) (ls' := [some (.ref h.length), some (.int (iI k)), some (.int (iI o)), none, none, none, none, none]) (st' := [.ref h.length]) rfl rfl ?_
  refine go_get rfl mh_o rfl rfl ?_
  refine go_a (pc' := 12) (ls' := [some (.ref h.length), some (.int (iI k)), some (.int (iI o)), none, none, none, none, none]) (st' := [.int (iI k), .ref (h.length + 49)]) rfl rfl ?_
  refine mi_ild rfl mh_a49 (by omega) (by omega) (by decide) ?_
  rw [ec]
  refine go_a (pc' := 14) (ls' := [some (.ref h.length), some (.int (iI k)), some (.int (iI o)), some (.int (iI c)), none, none, none, none]) (st' := []) rfl rfl ?_
  refine go_a (pc' := 15) (ls' := [some (.ref h.length), some (.int (iI k)), some (.int (iI o)), some (.int (iI c)), none, none, none, none]) (st' := [.ref h.length]) rfl rfl ?_
  refine go_a (pc' := 16) (ls' := [some (.ref h.length), some (.int (iI k)), some (.int (iI o)), some (.int (iI c)), none, none, none, none]) (st' := [.int (iI 0), .ref h.length]) rfl rfl ?_
  refine go_put (j := 67) rfl mh_o rfl rfl (show 12 ≤ _ from hc) (show 67 < 86 by decide) rfl rfl ?_
  rw [mh_p67]
  obtain ⟨J, hJ⟩ : ∃ J : Nat → Int, J = su I 67 0 := ⟨_, rfl⟩
  rw [← hJ]
  have bJ : BX (fun j => j = 67) NO I A N J A N := by
    subst hJ
    exact BX_of hB.1.1 (fun j q => su_ne q) (fun a _ => rfl) rfl rfl rfl rfl rfl rfl rfl rfl rfl rfl
  have J7 : J 7 = I 7 := by subst hJ; rfl
  have J49 : J 49 = I 49 := by subst hJ; rfl
  have R0 : RU ar 0 I A N J A N := RU_of hB bJ (fun j q => by subst q; unfold FC; omega) (fun a q => absurd q (fun z => z)) (SZI_124 (A := A) (A1 := A) hB.1.2.2 rfl rfl rfl J7) (by subst hJ; rfl) (by subst hJ; rfl) (by rw [J49]; exact hB.2.2.2.2) (by omega) (fun _ => J49)
  have D0 : DR ar 0 0 0 J A := by subst hJ; exact DR_00
  have PJ := RU_P R0
  have T0 : BTX ar ft Fb Tb J A N := BTX_RU hB hX R0
  have di0 : DIT [] J A N := by
    subst hJ
    exact Or.inl ⟨w0, rfl⟩
  refine go_a (pc' := 20) (ls' := [some (.ref h.length), some (.int (iI k)), some (.int (iI o)), some (.int (iI c)), none, none, none, none]) (st' := [.ref h.length]) rfl rfl ?_
  refine go_a (pc' := 21) (ls' := [some (.ref h.length), some (.int (iI k)), some (.int (iI o)), some (.int (iI c)), none, none, none, none]) (st' := [.int (iI o), .ref h.length]) rfl rfl ?_
  refine go_v (m := 98) (as := [.ref h.length, .int (iI o)]) (r := []) rfl rfl rfl mh_o rfl rfl (mm_lenL z (d + 8) 2 o h R J A N hc PJ n0 o0 (by omega) hL) (fun v h1 hq => ?_)
  obtain ⟨rfl, rfl⟩ := hq
  show xx_go (xt_P z) (d + 10) 154 24 [some (.ref h.length), some (.int (iI k)), some (.int (iI o)), some (.int (iI c)), none, none, none, none] [.int (iI (((2 : Nat) : Int)))] (mh h R J A N) _
  refine go_a (pc' := 25) (ls' := [some (.ref h.length), some (.int (iI k)), some (.int (iI o)), some (.int (iI c)), none, none, none, none]) (st' := [.int (iI 1), .int (iI (((2 : Nat) : Int)))]) rfl rfl ?_
  refine mi_le (t := 107) rfl rfl (by omega) (by omega) (by omega) (by omega) (fun q => by omega) (fun _ => ?_)
  refine go_a (pc' := 29) (ls' := [some (.ref h.length), some (.int (iI k)), some (.int (iI o)), some (.int (iI c)), none, none, none, none]) (st' := [.ref h.length]) rfl rfl ?_
  refine go_get rfl mh_o rfl rfl ?_
  refine go_a (pc' := 33) (ls' := [some (.ref h.length), some (.int (iI k)), some (.int (iI o)), some (.int (iI c)), none, none, none, none]) (st' := [.int (iI o), .ref (h.length + 1)]) rfl rfl ?_
  refine mi_ild rfl mh_a1 (by omega) (by omega) (by decide) ?_
  refine go_a (pc' := 36) (ls' := [some (.ref h.length), some (.int (iI k)), some (.int (iI o)), some (.int (iI c)), none, none, none, none]) (st' := [.int (iI 37), .int (iI (A 1 o))]) rfl rfl ?_
  refine mi_eq (t := 107) rfl rfl (by omega) (by omega) (by omega) (by omega) (fun q => by omega) (fun _ => ?_)
  refine go_a (pc' := 40) (ls' := [some (.ref h.length), some (.int (iI k)), some (.int (iI o)), some (.int (iI c)), none, none, none, none]) (st' := [.ref h.length]) rfl rfl ?_
  refine go_get rfl mh_o rfl rfl ?_
  refine go_a (pc' := 44) (ls' := [some (.ref h.length), some (.int (iI k)), some (.int (iI o)), some (.int (iI c)), none, none, none, none]) (st' := [.int (iI o), .ref (h.length + 1)]) rfl rfl ?_
  refine mi_ild rfl mh_a1 (by omega) (by omega) (by decide) ?_
  refine go_a (pc' := 47) (ls' := [some (.ref h.length), some (.int (iI k)), some (.int (iI o)), some (.int (iI c)), none, none, none, none]) (st' := [.int (iI 38), .int (iI (A 1 o))]) rfl rfl ?_
  refine mi_eq (t := 107) rfl rfl (by omega) (by omega) (by omega) (by omega) (fun q => by omega) (fun _ => ?_)
  refine go_a (pc' := 51) (ls' := [some (.ref h.length), some (.int (iI k)), some (.int (iI o)), some (.int (iI c)), none, none, none, none]) (st' := [.ref h.length]) rfl rfl ?_
  refine go_get rfl mh_o rfl rfl ?_
  refine go_a (pc' := 55) (ls' := [some (.ref h.length), some (.int (iI k)), some (.int (iI o)), some (.int (iI c)), none, none, none, none]) (st' := [.int (iI o), .ref (h.length + 1)]) rfl rfl ?_
  refine mi_ild rfl mh_a1 (by omega) (by omega) (by decide) ?_
  refine go_a (pc' := 58) (ls' := [some (.ref h.length), some (.int (iI k)), some (.int (iI o)), some (.int (iI c)), none, none, none, none]) (st' := [.int (iI 39), .int (iI (A 1 o))]) rfl rfl ?_
  refine mi_eq (t := 107) rfl rfl (by omega) (by omega) (by omega) (by omega) (fun q => by omega) (fun _ => ?_)
  refine go_a (pc' := 62) (ls' := [some (.ref h.length), some (.int (iI k)), some (.int (iI o)), some (.int (iI c)), none, none, none, none]) (st' := [.ref h.length]) rfl rfl ?_
  refine go_get rfl mh_o rfl rfl ?_
  refine go_a (pc' := 66) (ls' := [some (.ref h.length), some (.int (iI k)), some (.int (iI o)), some (.int (iI c)), none, none, none, none]) (st' := [.int (iI o), .ref (h.length + 1)]) rfl rfl ?_
  refine mi_ild rfl mh_a1 (by omega) (by omega) (by decide) ?_
  refine go_a (pc' := 69) (ls' := [some (.ref h.length), some (.int (iI k)), some (.int (iI o)), some (.int (iI c)), none, none, none, none]) (st' := [.int (iI 41), .int (iI (A 1 o))]) rfl rfl ?_
  refine mi_eq (t := 107) rfl rfl (by omega) (by omega) (by omega) (by omega) (fun q => by omega) (fun _ => ?_)
  refine go_a (pc' := 73) (ls' := [some (.ref h.length), some (.int (iI k)), some (.int (iI o)), some (.int (iI c)), none, none, none, none]) (st' := [.ref h.length]) rfl rfl ?_
  refine go_get rfl mh_o rfl rfl ?_
  refine go_a (pc' := 77) (ls' := [some (.ref h.length), some (.int (iI k)), some (.int (iI o)), some (.int (iI c)), none, none, none, none]) (st' := [.int (iI o), .ref (h.length + 1)]) rfl rfl ?_
  refine mi_ild rfl mh_a1 (by omega) (by omega) (by decide) ?_
  refine go_a (pc' := 80) (ls' := [some (.ref h.length), some (.int (iI k)), some (.int (iI o)), some (.int (iI c)), none, none, none, none]) (st' := [.int (iI 42), .int (iI (A 1 o))]) rfl rfl ?_
  refine mi_eq (t := 107) rfl rfl (by omega) (by omega) (by omega) (by omega) (fun q => by omega) (fun _ => ?_)
  refine go_a (pc' := 84) (ls' := [some (.ref h.length), some (.int (iI k)), some (.int (iI o)), some (.int (iI c)), none, none, none, none]) (st' := [.ref h.length]) rfl rfl ?_
  refine go_get rfl mh_o rfl rfl ?_
  refine go_a (pc' := 88) (ls' := [some (.ref h.length), some (.int (iI k)), some (.int (iI o)), some (.int (iI c)), none, none, none, none]) (st' := [.int (iI o), .ref (h.length + 1)]) rfl rfl ?_
  refine mi_ild rfl mh_a1 (by omega) (by omega) (by decide) ?_
  refine go_a (pc' := 91) (ls' := [some (.ref h.length), some (.int (iI k)), some (.int (iI o)), some (.int (iI c)), none, none, none, none]) (st' := [.int (iI 43), .int (iI (A 1 o))]) rfl rfl ?_
  refine mi_eq (t := 107) rfl rfl (by omega) (by omega) (by omega) (by omega) (fun q => by omega) (fun _ => ?_)
  refine go_a (pc' := 95) (ls' := [some (.ref h.length), some (.int (iI k)), some (.int (iI o)), some (.int (iI c)), none, none, none, none]) (st' := [.ref h.length]) rfl rfl ?_
  refine go_a (pc' := 96) (ls' := [some (.ref h.length), some (.int (iI k)), some (.int (iI o)), some (.int (iI c)), none, none, none, none]) (st' := [.ref h.length, .ref h.length]) rfl rfl ?_
  refine go_a (pc' := 97) (ls' := [some (.ref h.length), some (.int (iI k)), some (.int (iI o)), some (.int (iI c)), none, none, none, none]) (st' := [.int (iI o), .ref h.length, .ref h.length]) rfl rfl ?_
  refine go_a (pc' := 98) (ls' := [some (.ref h.length), some (.int (iI k)), some (.int (iI o)), some (.int (iI c)), none, none, none, none]) (st' := [.int (iI 1), .int (iI o), .ref h.length, .ref h.length]) rfl rfl ?_
  have Lxl := isL_extB hP R0.1 2 o o0 o1 hL
  have ixl := it_BX hP R0.1 o0 o1 hL (by decide : 1 < 2)
  refine go_v (m := 99) (as := [.ref h.length, .int (iI o), .int (iI 1)]) (r := [.ref h.length]) rfl rfl rfl mh_o rfl rfl (mm_nth z (d + 9) 1 2 o h R J A N hc PJ (by decide) o0 (by omega) Lxl (by omega)) (fun v h1 hq => ?_)
  obtain ⟨rfl, rfl⟩ := hq
  rw [ixl]
  show xx_go (xt_P z) (d + 10) 154 101 [some (.ref h.length), some (.int (iI k)), some (.int (iI o)), some (.int (iI c)), none, none, none, none] [.int (iI (A 1 (rt A 1 o))), .ref h.length] (mh h R J A N) _
  have wxl := (WD_BX hP R0.1 v1.2.1.1 v1.2.1.2).1
  refine go_v (m := 105) (as := [.ref h.length, .int (iI (A 1 (rt A 1 o)))]) (r := []) rfl rfl rfl mh_o rfl rfl (mr_term z (d + 2) ar (A 1 (rt A 1 o)) h R J A N hc R0.2.1 v1.2.1.1 (by omega) (by omega) (by omega)) (fun v h1 hq => ?_)
  obtain ⟨l, I1, A1, rfl, rfl, R1, K1, ⟨u1, bb1⟩, ht1⟩ := hq
  have tt1 : ((0 ≤ l ∧ l < I1 7) ∧ TZ A1 ar l = TS A ar (A 1 (rt A 1 o))) ∧ (1 ≤ TS A ar (A 1 (rt A 1 o)) ∧ TS A ar (A 1 (rt A 1 o)) ≤ 120) ∧ TS A ar (A 1 (rt A 1 o)) ≤ WD A (A 1 (rt A 1 o)) ∧ NFT A1 (A 1 (rt A 1 o)) l := by
    have tk := TOK_BX hP R0.1 v1.2.1.1 v1.2.1.2 tk1
    rcases ht1 with q | q
    · exact absurd tk q.2
    · have ts := TS_BX (ar := ar) hP R0.1 v1.2.1.1 v1.2.1.2
      rw [ts, wxl] at q
      exact ⟨⟨q.1, q.2.2.2.1⟩, by omega, q.2.2.2.2.1, q.2.2.2.2.2⟩
  obtain ⟨h_l1, sb_l, sw_l, nf_l⟩ := tt1
  have s_l := sb_l.1
  have tm_l := (TQ_tm R0.2.1 T0 v1.2.1.1 (by omega) (show TQ ar (A 1 (rt A 1 o)) l J A N I1 A1 from ⟨bb1, R1.2.1, by have := R1.2.2.1; omega, u1, ht1⟩)).2 (by omega)
  rw [DM_RU hB hX R0 v1.2.1.1 v1.2.1.2] at tm_l
  obtain ⟨tl, et_l1⟩ : ∃ q : ob_T, DM A1 N l = q := ⟨_, rfl⟩
  rw [et_l1] at tm_l
  have tt_l := tm_ts tm_l
  have di1 := DIT_BX R0.2.1 T0.1 D0 bb1 (by unfold FB; omega) (by unfold GT; omega) (by unfold GT; omega) (by unfold FB; omega) (by unfold GT; omega) u1 di0
  clear bb1 ht1
  rw [wxl] at R1
  have D1 := K1 _ _ _ D0
  have P1 := RU_P R1
  have X1 := RU_tr R0 R1 (Int.le_refl _)
  have T1 := BTX_RU R0.2.1 T0 R1
  have y1 := X1.2.2.1
  have z1 : I1 7 ≤ 140000 := P1.1
  have x1 : I 7 ≤ I1 7 := X1.1.2.1
  have ex1 : A1 1 o = A 1 o := (X1.1.2.2.1 o o0 o1).1
  clear T0
  show xx_go (xt_P z) (d + 10) 154 104 [some (.ref h.length), some (.int (iI k)), some (.int (iI o)), some (.int (iI c)), none, none, none, none] [.int (iI l)] (mh h R I1 A1 N) _
  refine go_a (pc' := 108) (ls' := [some (.ref h.length), some (.int (iI k)), some (.int (iI o)), some (.int (iI c)), none, none, none, none]) (st' := [.int (iI l)]) rfl rfl ?_
  refine go_a (pc' := 110) (ls' := [some (.ref h.length), some (.int (iI k)), some (.int (iI o)), some (.int (iI c)), some (.int (iI l)), none, none, none]) (st' := []) rfl rfl ?_
  refine go_a (pc' := 111) (ls' := [some (.ref h.length), some (.int (iI k)), some (.int (iI o)), some (.int (iI c)), some (.int (iI l)), none, none, none]) (st' := [.ref h.length]) rfl rfl ?_
  refine go_get rfl mh_o rfl rfl ?_
  refine go_a (pc' := 115) (ls' := [some (.ref h.length), some (.int (iI k)), some (.int (iI o)), some (.int (iI c)), some (.int (iI l)), none, none, none]) (st' := [.int (iI o), .ref (h.length + 1)]) rfl rfl ?_
  refine mi_ild rfl mh_a1 (by omega) (by omega) (by decide) ?_
  refine go_a (pc' := 118) (ls' := [some (.ref h.length), some (.int (iI k)), some (.int (iI o)), some (.int (iI c)), some (.int (iI l)), none, none, none]) (st' := [.int (iI 32), .int (iI (A1 1 o))]) rfl rfl ?_
  refine mi_lt (t := 145) rfl rfl (by omega) (by omega) (by omega) (by omega) (fun _ => ?_) (fun q => by omega)
  refine go_a (pc' := 146) (ls' := [some (.ref h.length), some (.int (iI k)), some (.int (iI o)), some (.int (iI c)), some (.int (iI l)), none, none, none]) (st' := [.int (iI ((-1)))]) rfl rfl ?_
  refine go_a (pc' := 148) (ls' := [some (.ref h.length), some (.int (iI k)), some (.int (iI o)), some (.int (iI c)), some (.int (iI l)), some (.int (iI ((-1)))), none, none]) (st' := []) rfl rfl ?_
  refine go_a (pc' := 149) (ls' := [some (.ref h.length), some (.int (iI k)), some (.int (iI o)), some (.int (iI c)), some (.int (iI l)), some (.int (iI ((-1)))), none, none]) (st' := [.ref h.length]) rfl rfl ?_
  refine go_get rfl mh_o rfl rfl ?_
  refine go_a (pc' := 153) (ls' := [some (.ref h.length), some (.int (iI k)), some (.int (iI o)), some (.int (iI c)), some (.int (iI l)), some (.int (iI ((-1)))), none, none]) (st' := [.int (iI o), .ref (h.length + 1)]) rfl rfl ?_
  refine mi_ild rfl mh_a1 (by omega) (by omega) (by decide) ?_
  refine go_a (pc' := 156) (ls' := [some (.ref h.length), some (.int (iI k)), some (.int (iI o)), some (.int (iI c)), some (.int (iI l)), some (.int (iI ((-1)))), none, none]) (st' := [.int (iI 35), .int (iI (A1 1 o))]) rfl rfl ?_
  refine mi_eq (t := 170) rfl rfl (by omega) (by omega) (by omega) (by omega) (fun q => by omega) (fun _ => ?_)
  refine go_a (pc' := 160) (ls' := [some (.ref h.length), some (.int (iI k)), some (.int (iI o)), some (.int (iI c)), some (.int (iI l)), some (.int (iI ((-1)))), none, none]) (st' := [.ref h.length]) rfl rfl ?_
  refine go_get rfl mh_o rfl rfl ?_
  refine go_a (pc' := 164) (ls' := [some (.ref h.length), some (.int (iI k)), some (.int (iI o)), some (.int (iI c)), some (.int (iI l)), some (.int (iI ((-1)))), none, none]) (st' := [.int (iI o), .ref (h.length + 1)]) rfl rfl ?_
  refine mi_ild rfl mh_a1 (by omega) (by omega) (by decide) ?_
  refine go_a (pc' := 167) (ls' := [some (.ref h.length), some (.int (iI k)), some (.int (iI o)), some (.int (iI c)), some (.int (iI l)), some (.int (iI ((-1)))), none, none]) (st' := [.int (iI 36), .int (iI (A1 1 o))]) rfl rfl ?_
  refine mi_ne (t := 183) rfl rfl (by omega) (by omega) (by omega) (by omega) (fun _ => ?_) (fun q => by omega)
  refine go_a (pc' := 184) (ls' := [some (.ref h.length), some (.int (iI k)), some (.int (iI o)), some (.int (iI c)), some (.int (iI l)), some (.int (iI ((-1)))), none, none]) (st' := [.int (iI ((-1)))]) rfl rfl ?_
  refine go_a (pc' := 186) (ls' := [some (.ref h.length), some (.int (iI k)), some (.int (iI o)), some (.int (iI c)), some (.int (iI l)), some (.int (iI ((-1)))), some (.int (iI ((-1)))), none]) (st' := []) rfl rfl ?_
  refine go_a (pc' := 187) (ls' := [some (.ref h.length), some (.int (iI k)), some (.int (iI o)), some (.int (iI c)), some (.int (iI l)), some (.int (iI ((-1)))), some (.int (iI ((-1)))), none]) (st' := [.ref h.length]) rfl rfl ?_
  refine go_get rfl mh_o rfl rfl ?_
  refine go_a (pc' := 191) (ls' := [some (.ref h.length), some (.int (iI k)), some (.int (iI o)), some (.int (iI c)), some (.int (iI l)), some (.int (iI ((-1)))), some (.int (iI ((-1)))), none]) (st' := [.int (iI o), .ref (h.length + 1)]) rfl rfl ?_
  refine mi_ild rfl mh_a1 (by omega) (by omega) (by decide) ?_
  rw [ex1]
  refine mi_ts (c := 31) (t := 301) rfl ef rfl ?_
  refine go_a (pc' := 302) (ls' := [some (.ref h.length), some (.int (iI k)), some (.int (iI o)), some (.int (iI c)), some (.int (iI l)), some (.int (iI ((-1)))), some (.int (iI ((-1)))), none]) (st' := [.ref h.length]) rfl rfl ?_
  refine go_a (pc' := 303) (ls' := [some (.ref h.length), some (.int (iI k)), some (.int (iI o)), some (.int (iI c)), some (.int (iI l)), some (.int (iI ((-1)))), some (.int (iI ((-1)))), none]) (st' := [.ref h.length, .ref h.length]) rfl rfl ?_
  refine go_a (pc' := 304) (ls' := [some (.ref h.length), some (.int (iI k)), some (.int (iI o)), some (.int (iI c)), some (.int (iI l)), some (.int (iI ((-1)))), some (.int (iI ((-1)))), none]) (st' := [.int (iI 4), .ref h.length, .ref h.length]) rfl rfl ?_
  refine go_a (pc' := 306) (ls' := [some (.ref h.length), some (.int (iI k)), some (.int (iI o)), some (.int (iI c)), some (.int (iI l)), some (.int (iI ((-1)))), some (.int (iI ((-1)))), none]) (st' := [.int (iI l), .int (iI 4), .ref h.length, .ref h.length]) rfl rfl ?_
  refine go_a (pc' := 307) (ls' := [some (.ref h.length), some (.int (iI k)), some (.int (iI o)), some (.int (iI c)), some (.int (iI l)), some (.int (iI ((-1)))), some (.int (iI ((-1)))), none]) (st' := [.ref h.length, .int (iI l), .int (iI 4), .ref h.length, .ref h.length]) rfl rfl ?_
  refine go_a (pc' := 308) (ls' := [some (.ref h.length), some (.int (iI k)), some (.int (iI o)), some (.int (iI c)), some (.int (iI l)), some (.int (iI ((-1)))), some (.int (iI ((-1)))), none]) (st' := [.ref h.length, .ref h.length, .int (iI l), .int (iI 4), .ref h.length, .ref h.length]) rfl rfl ?_
  refine go_a (pc' := 310) (ls' := [some (.ref h.length), some (.int (iI k)), some (.int (iI o)), some (.int (iI c)), some (.int (iI l)), some (.int (iI ((-1)))), some (.int (iI ((-1)))), none]) (st' := [.int (iI l), .ref h.length, .ref h.length, .int (iI l), .int (iI 4), .ref h.length, .ref h.length]) rfl rfl ?_
  have lt : l = tf := (NF_uniq X1.2.1.1.1 _ _ l tf (Nat.lt_succ_self _) v1.2.1.1 (by omega) h_l1.1.1 h_l1.1.2 tf0.1 (by omega)).1 nf_l ((NF_ext hP P1 X1.1.2.1 (fun k a b => ⟨(X1.1.2.2.1 k a b).1, (X1.1.2.2.1 k a b).2.1⟩) _ _ _ (Nat.lt_succ_self _) v1.2.1.1 v1.2.1.2 tf0.1 tf0.2).1 tf2)
  have tld : TLD A1 N ar l := by
    rw [lt]
    exact TLD_BX hP hB.1.2.1 (hB.2.1.1.1.2.1 7 (by decide) (by decide)) X1.1 tf0.1 tf0.2 tf1 tf3
  refine go_v (m := 141) (as := [.ref h.length, .int (iI l)]) (r := [.ref h.length, .int (iI l), .int (iI 4), .ref h.length, .ref h.length]) rfl rfl rfl mh_o rfl rfl (mm_told z (d + 4) ar ft l h R I1 A1 N hc X1.2.1.1.1 X1.2.1.1.2.1 X1.2.1.1.2.2 T1.1 T1.2.1 T1.2.2.1 (TS_of X1.2.1 T1 h_l1.1.1 h_l1.1.2 et_l1 tt_l) X1.2.1.2.1.1 (ARF_01 X1.2.1.2.1.2) (by omega) h_l1.1.1 h_l1.1.2 (by rw [h_l1.2]; exact s_l)) (fun v h1 hq => ?_)
  obtain ⟨v, I2, A2, N2, rfl, rfl, bx2, zz2, c72, hv2⟩ := hq
  have vv : 0 ≤ v ∧ v < I2 7 := by
    rcases hv2 with q | q
    · exact absurd tld q.2.1
    · exact q.1
  obtain ⟨tv, va, et_v⟩ : ∃ tv : ob_T, sp_va ft tl = some tv ∧ DM A2 N2 v = tv := by
    rcases hv2 with q | q
    · exact absurd tld q.2.1
    · have e := q.2.2
      rw [et_l1] at e
      exact ⟨_, e, rfl⟩
  have R2 : RU ar 1 I1 A1 N I2 A2 N2 := RU_of X1.2.1 bx2 (fun j q => by unfold FV at q; unfold FC; omega) (fun a q => by unfold GV at q; unfold GC; omega) zz2 (bx2.2.2.2.1 54 (by decide) (by unfold FV; omega)) (bx2.2.2.2.1 56 (by decide) (by unfold FV; omega)) (by rw [bx2.2.2.2.1 49 (by decide) (by unfold FV; omega)]; exact X1.2.1.2.2.2.2) c72 (fun _ => bx2.2.2.2.1 49 (by decide) (by unfold FV; omega))
  have D2 := DR_BX P1 D1 bx2 (by unfold FV; omega) (by unfold GV; omega) (RU_z R2)
  have di2 := DIT_BX X1.2.1 T1.1 D1 bx2 (by unfold FV; omega) (by unfold GV; omega) (by unfold GV; omega) (by unfold FV; omega) (by unfold GV; omega) (bx2.2.2.2.1 49 (by decide) (by unfold FV; omega)) di1
  have P2 := RU_P R2
  have X2 := RU_tr X1 R2 (Int.le_refl _)
  have T2 := BTX_RU X1.2.1 T1 R2
  have et_l2 := (DM_RU X1.2.1 T1 R2 h_l1.1.1 h_l1.1.2).trans et_l1
  have h_l2 := RU_carry P1 R2 h_l1 s_l
  have y2 := X2.2.2.1
  have z2 : I2 7 ≤ 140000 := P2.1
  have x2 : I 7 ≤ I2 7 := X2.1.2.1
  have ex2 : A2 1 o = A 1 o := (X2.1.2.2.1 o o0 o1).1
  clear et_l1 T1 h_l1 y1 z1 x1 ex1
  show xx_go (xt_P z) (d + 10) 154 313 [some (.ref h.length), some (.int (iI k)), some (.int (iI o)), some (.int (iI c)), some (.int (iI l)), some (.int (iI ((-1)))), some (.int (iI ((-1)))), none] [.int (iI v), .ref h.length, .int (iI l), .int (iI 4), .ref h.length, .ref h.length] (mh h R I2 A2 N2) _
  refine go_v (m := 109) (as := [.ref h.length, .int (iI v)]) (r := [.int (iI l), .int (iI 4), .ref h.length, .ref h.length]) rfl rfl rfl mh_o rfl rfl (mm_constantOf z (d + 5) ar v h R I2 A2 N2 hc X2.2.1.1.1 X2.2.1.1.2.1 X2.2.1.1.2.2 (by omega) vv.1 vv.2) (fun v h1 hq => ?_)
  obtain ⟨q, I3, A3, rfl, rfl, ex9, zz3, q0, q1, q2, q3, cq, -⟩ := hq
  have re := RU_EX (c := 2) X2.2.1 ex9 q3 zz3 q2
  have R3 := re.1
  have D3 := re.2.1 _ _ _ D2
  have di3 := re.2.2 _ _ _ _ T2.1 D2 di2
  have ev3 := (DM_RU X2.2.1 T2 R3 vv.1 vv.2).trans et_v
  have P3 := RU_P R3
  have X3 := RU_tr X2 R3 (Int.le_refl _)
  have T3 := BTX_RU X2.2.1 T2 R3
  have et_l3 := (DM_RU X2.2.1 T2 R3 h_l2.1.1 h_l2.1.2).trans et_l2
  have h_l3 := RU_carry P2 R3 h_l2 s_l
  have y3 := X3.2.2.1
  have z3 : I3 7 ≤ 140000 := P3.1
  have x3 : I 7 ≤ I3 7 := X3.1.2.1
  have ex3 : A3 1 o = A 1 o := (X3.1.2.2.1 o o0 o1).1
  clear et_l2 T2 h_l2 y2 z2 x2 ex2
  have et_q3 : DM A3 N2 q = sp_cs tv := by
    have x9 := R3.1.2.1
    rw [CQ_cs X3.2.1.1.1 X3.2.1.1.2.1 T3.1 vv.1 (by omega) q0.1 q0.2 cq, ev3]
  have h_q3 : (0 ≤ q ∧ q < I3 7) ∧ TZ A3 ar q = 1 := ⟨q0, q1⟩
  have s_q : (1 : Int) ≤ 1 := by decide
  show xx_go (xt_P z) (d + 10) 154 316 [some (.ref h.length), some (.int (iI k)), some (.int (iI o)), some (.int (iI c)), some (.int (iI l)), some (.int (iI ((-1)))), some (.int (iI ((-1)))), none] [.int (iI q), .int (iI l), .int (iI 4), .ref h.length, .ref h.length] (mh h R I3 A3 N2) _
  refine go_v (m := 156) (as := [.ref h.length, .int (iI 4), .int (iI l), .int (iI q)]) (r := [.ref h.length]) rfl rfl rfl mh_o rfl rfl (mr_two z (d + 3) ar 4 l q h R I3 A3 N2 hc X3.2.1 T3.1 (by decide) (by omega) (by decide) (by omega) h_l3.1.1 h_l3.1.2 (by rw [h_l3.2]; exact s_l) h_q3.1.1 h_q3.1.2 (by rw [h_q3.2]; exact s_q) (X3.2.1.2.1.1.1.2.1 4 (by decide) (by decide)).symm) (fun v h1 hq => ?_)
  obtain ⟨r, I4, A4, rfl, rfl, R4, K4, tv4, tb4, te4, dt4, dj4⟩ := hq
  rw [(show DM A3 N2 4 = .var 26209844 from T3.1.2 4 (by decide)), et_l3, et_q3] at dt4 dj4
  have et_r4 : DM A4 N2 r = sp_c2 26209844 tl (sp_cs tv) := dt4
  have di4 : DIM _ (sp_opO (sp_c2 26209844 tl (sp_cs tv))) _ _ _ _ := dj4 _ _ _ _ D3 di3
  rw [h_l3.2, h_q3.2] at te4
  have D4 := K4 _ _ _ D3
  have h_r4 : (0 ≤ r ∧ r < I4 7) ∧ TZ A4 ar r = 1 + TS A ar (A 1 (rt A 1 o)) + (1) := ⟨tv4.1, te4⟩
  have s_r : 1 ≤ 1 + TS A ar (A 1 (rt A 1 o)) + (1) := by rw [← te4]; exact tv4.2
  have P4 := RU_P R4
  have X4 := RU_tr X3 R4 (Int.le_refl _)
  have T4 := BTX_RU X3.2.1 T3 R4
  have et_l4 := (DM_RU X3.2.1 T3 R4 h_l3.1.1 h_l3.1.2).trans et_l3
  have et_q4 := (DM_RU X3.2.1 T3 R4 h_q3.1.1 h_q3.1.2).trans et_q3
  have h_l4 := RU_carry P3 R4 h_l3 s_l
  have h_q4 := RU_carry P3 R4 h_q3 s_q
  have y4 := X4.2.2.1
  have z4 : I4 7 ≤ 140000 := P4.1
  have x4 : I 7 ≤ I4 7 := X4.1.2.1
  have ex4 : A4 1 o = A 1 o := (X4.1.2.2.1 o o0 o1).1
  clear et_l3 et_q3 T3 h_l3 h_q3 y3 z3 x3 ex3
  show xx_go (xt_P z) (d + 10) 154 319 [some (.ref h.length), some (.int (iI k)), some (.int (iI o)), some (.int (iI c)), some (.int (iI l)), some (.int (iI ((-1)))), some (.int (iI ((-1)))), none] [.int (iI r), .ref h.length] (mh h R I4 A4 N2) _
  refine go_v (m := 155) (as := [.ref h.length, .int (iI r)]) (r := []) rfl rfl rfl mh_o rfl rfl (mr_put z (d + 9) ar 0 0 _ r h R I4 A4 N2 hc X4.2.1 T4.1 D4 (by omega) h_r4.1.1 h_r4.1.2 (by rw [h_r4.2]; exact s_r) (fun b => by rw [h_r4.2]; have := tb4 b; rw [te4] at this; exact this)) (fun v h1 hq => ?_)
  obtain ⟨rfl, I5, A5, rfl, R5, D5, u5, e5, jj5⟩ := hq
  have di5 := jj5 _ _ di4
  rw [h_r4.2] at D5
  have P5 := RU_P R5
  have X5 := RU_tr X4 R5 (Int.le_refl _)
  have T5 := BTX_RU X4.2.1 T4 R5
  have et_l5 := (DM_RU X4.2.1 T4 R5 h_l4.1.1 h_l4.1.2).trans et_l4
  have et_q5 := (DM_RU X4.2.1 T4 R5 h_q4.1.1 h_q4.1.2).trans et_q4
  have et_r5 := (DM_RU X4.2.1 T4 R5 h_r4.1.1 h_r4.1.2).trans et_r4
  have h_l5 := RU_carry P4 R5 h_l4 s_l
  have h_q5 := RU_carry P4 R5 h_q4 s_q
  have h_r5 := RU_carry P4 R5 h_r4 s_r
  have y5 := X5.2.2.1
  have z5 : I5 7 ≤ 140000 := P5.1
  have x5 : I 7 ≤ I5 7 := X5.1.2.1
  have ex5 : A5 1 o = A 1 o := (X5.1.2.2.1 o o0 o1).1
  clear et_l4 et_q4 et_r4 T4 h_l4 h_q4 h_r4 y4 z4 x4 ex4
  show xx_go (xt_P z) (d + 10) 154 322 [some (.ref h.length), some (.int (iI k)), some (.int (iI o)), some (.int (iI c)), some (.int (iI l)), some (.int (iI ((-1)))), some (.int (iI ((-1)))), none] [] (mh h R I5 A5 N2) _
  refine go_a (pc' := 323) (ls' := [some (.ref h.length), some (.int (iI k)), some (.int (iI o)), some (.int (iI c)), some (.int (iI l)), some (.int (iI ((-1)))), some (.int (iI ((-1)))), none]) (st' := [.int (iI 1)]) rfl rfl ?_
  refine go_r rfl rfl rfl rfl rfl rfl ⟨1, I5, A5, N2, rfl, rfl, RU_w X5 (by omega), Or.inr ⟨rfl, ⟨_, di5, hρ tl tv tm_l va⟩, _, _, DR_w D5 (by omega) (Int.le_refl _) (Int.le_refl _), fun b9 b30 b400 => ?_⟩⟩
  have dm := D5.1
  have ds := D5.2.2.1
  have dv := D5.2.2.2
  have kk : KDR dd I5 A5 ar ≤ E + 128 * WD A o - I5 7 := KK_one (by omega) (by omega)
  omega
set_option maxRecDepth 4000 in
theorem mm_con_def (z : Value) (d : Nat) (ar : Int → Int) (ft : Nat → Int) (Fb : List (Nat × List Nat × ob_T)) (Tb : List (Nat × ob_T)) (ρ : Option (List ob_T)) (k o c E dd : Int) (h R : xx_H) (I : Nat → Int) (A : Nat → Int → Int) (N : Int → Int) (hc : 12 ≤ h.length) (hB : BI ar I A N) (k0 : 0 ≤ k) (k1 : k < 40) (ek : A 47 k = o) (o0 : 0 ≤ o) (o1 : o < I 7) (hF : FORM ar I A N o) (ec : A 49 k = c) (c0 : 0 ≤ c) (w : WD A o ≤ 1000) (hE : E + 128 * WD A o ≤ 140000) (d0 : 0 ≤ dd) (d1 : dd ≤ 39) (c9 : Int) (hcf : CFX ar I A o c9) (hX : BTX ar ft Fb Tb I A N) (w0 : I 49 = 0) (ef : A 1 o = 37) (hU : I 7 ≤ E + c9) (hρ : ∀ p : Nat × List Nat × ob_T, sp_fb Fb (DM A N (A 1 (rt A 1 o))) = some p → ρ = sp_cz [sp_opO (sp_eq (.add (.var p.1) (sp_li (p.2.1.map .var))) p.2.2)]) : xx_cl (xt_P z) (d + 11) 154 [.ref h.length, .int (iI k)] (mh h R I A N) (fun v h1 => ∃ (b : Int) (I1 : Nat → Int) (A1 : Nat → Int → Int) (N1 : Int → Int), v = some (.int (iI b)) ∧ h1 = mh h R I1 A1 N1 ∧ RU ar 140000 I A N I1 A1 N1 ∧ ((b = 0 ∧ ρ = none) ∨ (b = 1 ∧ (∃ its : List (Option ob_T), DIT its I1 A1 N1 ∧ ρ = sp_cz its) ∧ ∃ S V : Int, DR ar 1190 S V I1 A1 ∧ (I1 49 = 0 → I1 67 ≤ 30 → SG (TZ A1 ar) (A1 38) (I1 67).toNat ≤ 400 → I1 7 + KDR dd I1 A1 ar ≤ E + 128 * WD A o)))) := by
  have hP := BI_P hB
  have n0 := BI_n0 hB
  have p9 := hP.1
  have nm := hB.1.2.1.1
  have n2 : A 1 2 < 0 := by rw [hB.1.2.1.2 2 (by decide) (by decide)]; decide
  obtain ⟨n, hL, n1, hF⟩ := hF
  have en : n = 2 ∧ ∃ e : Int, 0 ≤ e ∧ e < I 32 ∧ A 20 e = A 1 (rt A 1 o) := by
    rcases hF with q | q | q | q | q | q | q | q | q | q | q | q
    · omega
    · omega
    · omega
    · omega
    · exact ⟨q.2.1, q.2.2⟩
    · omega
    · omega
    · omega
    · omega
    · omega
    · omega
    · omega
  clear hF
  obtain ⟨rfl, ed, ed0, ed1, ed2⟩ := en
  have wo := WD_pair hP o0 o1 (by omega)
  rw [if_neg (fun q => absurd q.1 (by omega))] at wo
  have v0 := VD_rt hP o0 o1 hL (by decide : 0 < 2)
  have v0e : VD A o = WD A (A 1 o) + VD A (rt A 1 o) := v0.1
  have wr : WD A (A 1 o) = 1 := WD_atom (by rw [hB.1.2.1.2 _ (by omega) (by omega)]; decide)
  have v1 := VD_rt hP o0 o1 hL (by decide : 1 < 2)
  have v1e : VD A (rt A 1 o) = WD A (A 1 (rt A 1 o)) + VD A (rt A 2 o) := v1.1
  have vz : VD A (rt A 2 o) = 0 := by rw [isL_end 2 o hL, VD_atom n0, if_pos rfl]
  have cf := hcf.2 (by omega)
  have cf2 := cf.2.2.1 (by omega)
  have rd := DFS_rd hB
  refine cl_go rfl ?_
  show xx_go (xt_P z) (d + 10) 154 0 [some (.ref h.length), some (.int (iI k)), none, none, none, none, none, none] [] (mh h R I A N) _
  refine go_a (pc' := 1) (ls' := [some (.ref h.length), some (.int (iI k)), none, none, none, none, none, none]) (st' := [.ref h.length]) rfl rfl ?_
  refine go_get rfl mh_o rfl rfl ?_
  refine go_a (pc' := 5) (ls' := [some (.ref h.length), some (.int (iI k)), none, none, none, none, none, none]) (st' := [.int (iI k), .ref (h.length + 47)]) rfl rfl ?_
  refine mi_ild rfl mh_a47 (by omega) (by omega) (by decide) ?_
  rw [ek]
  refine go_a (pc' := 7) (ls' := [some (.ref h.length), some (.int (iI k)), some (.int (iI o)), none, none, none, none, none]) (st' := []) rfl rfl ?_
  refine go_a (pc' := 8) (ls' := [some (.ref h.length), some (.int (iI k)), some (.int (iI o)), none, none, none, none, none]) (st' := [.ref h.length]) rfl rfl ?_
  refine go_get rfl mh_o rfl rfl ?_
  refine go_a (pc' := 12) (ls' := [some (.ref h.length), some (.int (iI k)), some (.int (iI o)), none, none, none, none, none]) (st' := [.int (iI k), .ref (h.length + 49)]) rfl rfl ?_
  refine mi_ild rfl mh_a49 (by omega) (by omega) (by decide) ?_
  rw [ec]
  refine go_a (pc' := 14) (ls' := [some (.ref h.length), some (.int (iI k)), some (.int (iI o)), some (.int (iI c)), none, none, none, none]) (st' := []) rfl rfl ?_
  refine go_a (pc' := 15) (ls' := [some (.ref h.length), some (.int (iI k)), some (.int (iI o)), some (.int (iI c)), none, none, none, none]) (st' := [.ref h.length]) rfl rfl ?_
  refine go_a (pc' := 16) (ls' := [some (.ref h.length), some (.int (iI k)), some (.int (iI o)), some (.int (iI c)), none, none, none, none]) (st' := [.int (iI 0), .ref h.length]) rfl rfl ?_
  refine go_put (j := 67) rfl mh_o rfl rfl (show 12 ≤ _ from hc) (show 67 < 86 by decide) rfl rfl ?_
  rw [mh_p67]
  obtain ⟨J, hJ⟩ : ∃ J : Nat → Int, J = su I 67 0 := ⟨_, rfl⟩
  rw [← hJ]
  have bJ : BX (fun j => j = 67) NO I A N J A N := by
    subst hJ
    exact BX_of hB.1.1 (fun j q => su_ne q) (fun a _ => rfl) rfl rfl rfl rfl rfl rfl rfl rfl rfl rfl
  have J7 : J 7 = I 7 := by subst hJ; rfl
  have J49 : J 49 = I 49 := by subst hJ; rfl
  have R0 : RU ar 0 I A N J A N := RU_of hB bJ (fun j q => by subst q; unfold FC; omega) (fun a q => absurd q (fun z => z)) (SZI_124 (A := A) (A1 := A) hB.1.2.2 rfl rfl rfl J7) (by subst hJ; rfl) (by subst hJ; rfl) (by rw [J49]; exact hB.2.2.2.2) (by omega) (fun _ => J49)
  have D0 : DR ar 0 0 0 J A := by subst hJ; exact DR_00
  have PJ := RU_P R0
  have T0 : BTX ar ft Fb Tb J A N := BTX_RU hB hX R0
  have di0 : DIT [] J A N := by
    subst hJ
    exact Or.inl ⟨w0, rfl⟩
  refine go_a (pc' := 20) (ls' := [some (.ref h.length), some (.int (iI k)), some (.int (iI o)), some (.int (iI c)), none, none, none, none]) (st' := [.ref h.length]) rfl rfl ?_
  refine go_a (pc' := 21) (ls' := [some (.ref h.length), some (.int (iI k)), some (.int (iI o)), some (.int (iI c)), none, none, none, none]) (st' := [.int (iI o), .ref h.length]) rfl rfl ?_
  refine go_v (m := 98) (as := [.ref h.length, .int (iI o)]) (r := []) rfl rfl rfl mh_o rfl rfl (mm_lenL z (d + 8) 2 o h R J A N hc PJ n0 o0 (by omega) hL) (fun v h1 hq => ?_)
  obtain ⟨rfl, rfl⟩ := hq
  show xx_go (xt_P z) (d + 10) 154 24 [some (.ref h.length), some (.int (iI k)), some (.int (iI o)), some (.int (iI c)), none, none, none, none] [.int (iI (((2 : Nat) : Int)))] (mh h R J A N) _
  refine go_a (pc' := 25) (ls' := [some (.ref h.length), some (.int (iI k)), some (.int (iI o)), some (.int (iI c)), none, none, none, none]) (st' := [.int (iI 1), .int (iI (((2 : Nat) : Int)))]) rfl rfl ?_
  refine mi_le (t := 107) rfl rfl (by omega) (by omega) (by omega) (by omega) (fun q => by omega) (fun _ => ?_)
  refine go_a (pc' := 29) (ls' := [some (.ref h.length), some (.int (iI k)), some (.int (iI o)), some (.int (iI c)), none, none, none, none]) (st' := [.ref h.length]) rfl rfl ?_
  refine go_get rfl mh_o rfl rfl ?_
  refine go_a (pc' := 33) (ls' := [some (.ref h.length), some (.int (iI k)), some (.int (iI o)), some (.int (iI c)), none, none, none, none]) (st' := [.int (iI o), .ref (h.length + 1)]) rfl rfl ?_
  refine mi_ild rfl mh_a1 (by omega) (by omega) (by decide) ?_
  refine go_a (pc' := 36) (ls' := [some (.ref h.length), some (.int (iI k)), some (.int (iI o)), some (.int (iI c)), none, none, none, none]) (st' := [.int (iI 37), .int (iI (A 1 o))]) rfl rfl ?_
  refine mi_eq (t := 107) rfl rfl (by omega) (by omega) (by omega) (by omega) (fun _ => ?_) (fun q => by omega)
  refine go_a (pc' := 108) (ls' := [some (.ref h.length), some (.int (iI k)), some (.int (iI o)), some (.int (iI c)), none, none, none, none]) (st' := [.int (iI ((-1)))]) rfl rfl ?_
  refine go_a (pc' := 110) (ls' := [some (.ref h.length), some (.int (iI k)), some (.int (iI o)), some (.int (iI c)), some (.int (iI ((-1)))), none, none, none]) (st' := []) rfl rfl ?_
  refine go_a (pc' := 111) (ls' := [some (.ref h.length), some (.int (iI k)), some (.int (iI o)), some (.int (iI c)), some (.int (iI ((-1)))), none, none, none]) (st' := [.ref h.length]) rfl rfl ?_
  refine go_get rfl mh_o rfl rfl ?_
  refine go_a (pc' := 115) (ls' := [some (.ref h.length), some (.int (iI k)), some (.int (iI o)), some (.int (iI c)), some (.int (iI ((-1)))), none, none, none]) (st' := [.int (iI o), .ref (h.length + 1)]) rfl rfl ?_
  refine mi_ild rfl mh_a1 (by omega) (by omega) (by decide) ?_
  refine go_a (pc' := 118) (ls' := [some (.ref h.length), some (.int (iI k)), some (.int (iI o)), some (.int (iI c)), some (.int (iI ((-1)))), none, none, none]) (st' := [.int (iI 32), .int (iI (A 1 o))]) rfl rfl ?_
  refine mi_lt (t := 145) rfl rfl (by omega) (by omega) (by omega) (by omega) (fun q => by omega) (fun _ => ?_)
  refine go_a (pc' := 122) (ls' := [some (.ref h.length), some (.int (iI k)), some (.int (iI o)), some (.int (iI c)), some (.int (iI ((-1)))), none, none, none]) (st' := [.ref h.length]) rfl rfl ?_
  refine go_get rfl mh_o rfl rfl ?_
  refine go_a (pc' := 126) (ls' := [some (.ref h.length), some (.int (iI k)), some (.int (iI o)), some (.int (iI c)), some (.int (iI ((-1)))), none, none, none]) (st' := [.int (iI o), .ref (h.length + 1)]) rfl rfl ?_
  refine mi_ild rfl mh_a1 (by omega) (by omega) (by decide) ?_
  refine go_a (pc' := 129) (ls' := [some (.ref h.length), some (.int (iI k)), some (.int (iI o)), some (.int (iI c)), some (.int (iI ((-1)))), none, none, none]) (st' := [.int (iI 36), .int (iI (A 1 o))]) rfl rfl ?_
  refine mi_gt (t := 145) rfl rfl (by omega) (by omega) (by omega) (by omega) (fun _ => ?_) (fun q => by omega)
  refine go_a (pc' := 146) (ls' := [some (.ref h.length), some (.int (iI k)), some (.int (iI o)), some (.int (iI c)), some (.int (iI ((-1)))), none, none, none]) (st' := [.int (iI ((-1)))]) rfl rfl ?_
  refine go_a (pc' := 148) (ls' := [some (.ref h.length), some (.int (iI k)), some (.int (iI o)), some (.int (iI c)), some (.int (iI ((-1)))), some (.int (iI ((-1)))), none, none]) (st' := []) rfl rfl ?_
  refine go_a (pc' := 149) (ls' := [some (.ref h.length), some (.int (iI k)), some (.int (iI o)), some (.int (iI c)), some (.int (iI ((-1)))), some (.int (iI ((-1)))), none, none]) (st' := [.ref h.length]) rfl rfl ?_
  refine go_get rfl mh_o rfl rfl ?_
  refine go_a (pc' := 153) (ls' := [some (.ref h.length), some (.int (iI k)), some (.int (iI o)), some (.int (iI c)), some (.int (iI ((-1)))), some (.int (iI ((-1)))), none, none]) (st' := [.int (iI o), .ref (h.length + 1)]) rfl rfl ?_
  refine mi_ild rfl mh_a1 (by omega) (by omega) (by decide) ?_
  refine go_a (pc' := 156) (ls' := [some (.ref h.length), some (.int (iI k)), some (.int (iI o)), some (.int (iI c)), some (.int (iI ((-1)))), some (.int (iI ((-1)))), none, none]) (st' := [.int (iI 35), .int (iI (A 1 o))]) rfl rfl ?_
  refine mi_eq (t := 170) rfl rfl (by omega) (by omega) (by omega) (by omega) (fun q => by omega) (fun _ => ?_)
  refine go_a (pc' := 160) (ls' := [some (.ref h.length), some (.int (iI k)), some (.int (iI o)), some (.int (iI c)), some (.int (iI ((-1)))), some (.int (iI ((-1)))), none, none]) (st' := [.ref h.length]) rfl rfl ?_
  refine go_get rfl mh_o rfl rfl ?_
  refine go_a (pc' := 164) (ls' := [some (.ref h.length), some (.int (iI k)), some (.int (iI o)), some (.int (iI c)), some (.int (iI ((-1)))), some (.int (iI ((-1)))), none, none]) (st' := [.int (iI o), .ref (h.length + 1)]) rfl rfl ?_
  refine mi_ild rfl mh_a1 (by omega) (by omega) (by decide) ?_
  refine go_a (pc' := 167) (ls' := [some (.ref h.length), some (.int (iI k)), some (.int (iI o)), some (.int (iI c)), some (.int (iI ((-1)))), some (.int (iI ((-1)))), none, none]) (st' := [.int (iI 36), .int (iI (A 1 o))]) rfl rfl ?_
  refine mi_ne (t := 183) rfl rfl (by omega) (by omega) (by omega) (by omega) (fun _ => ?_) (fun q => by omega)
  refine go_a (pc' := 184) (ls' := [some (.ref h.length), some (.int (iI k)), some (.int (iI o)), some (.int (iI c)), some (.int (iI ((-1)))), some (.int (iI ((-1)))), none, none]) (st' := [.int (iI ((-1)))]) rfl rfl ?_
  refine go_a (pc' := 186) (ls' := [some (.ref h.length), some (.int (iI k)), some (.int (iI o)), some (.int (iI c)), some (.int (iI ((-1)))), some (.int (iI ((-1)))), some (.int (iI ((-1)))), none]) (st' := []) rfl rfl ?_
  refine go_a (pc' := 187) (ls' := [some (.ref h.length), some (.int (iI k)), some (.int (iI o)), some (.int (iI c)), some (.int (iI ((-1)))), some (.int (iI ((-1)))), some (.int (iI ((-1)))), none]) (st' := [.ref h.length]) rfl rfl ?_
  refine go_get rfl mh_o rfl rfl ?_
  refine go_a (pc' := 191) (ls' := [some (.ref h.length), some (.int (iI k)), some (.int (iI o)), some (.int (iI c)), some (.int (iI ((-1)))), some (.int (iI ((-1)))), some (.int (iI ((-1)))), none]) (st' := [.int (iI o), .ref (h.length + 1)]) rfl rfl ?_
  refine mi_ild rfl mh_a1 (by omega) (by omega) (by decide) ?_
  refine mi_ts (c := 37) (t := 471) rfl ef rfl ?_
  refine go_a (pc' := 472) (ls' := [some (.ref h.length), some (.int (iI k)), some (.int (iI o)), some (.int (iI c)), some (.int (iI ((-1)))), some (.int (iI ((-1)))), some (.int (iI ((-1)))), none]) (st' := [.ref h.length]) rfl rfl ?_
  refine go_a (pc' := 473) (ls' := [some (.ref h.length), some (.int (iI k)), some (.int (iI o)), some (.int (iI c)), some (.int (iI ((-1)))), some (.int (iI ((-1)))), some (.int (iI ((-1)))), none]) (st' := [.ref h.length, .ref h.length]) rfl rfl ?_
  refine go_a (pc' := 474) (ls' := [some (.ref h.length), some (.int (iI k)), some (.int (iI o)), some (.int (iI c)), some (.int (iI ((-1)))), some (.int (iI ((-1)))), some (.int (iI ((-1)))), none]) (st' := [.ref h.length, .ref h.length, .ref h.length]) rfl rfl ?_
  refine go_a (pc' := 475) (ls' := [some (.ref h.length), some (.int (iI k)), some (.int (iI o)), some (.int (iI c)), some (.int (iI ((-1)))), some (.int (iI ((-1)))), some (.int (iI ((-1)))), none]) (st' := [.int (iI o), .ref h.length, .ref h.length, .ref h.length]) rfl rfl ?_
  refine go_a (pc' := 476) (ls' := [some (.ref h.length), some (.int (iI k)), some (.int (iI o)), some (.int (iI c)), some (.int (iI ((-1)))), some (.int (iI ((-1)))), some (.int (iI ((-1)))), none]) (st' := [.int (iI 1), .int (iI o), .ref h.length, .ref h.length, .ref h.length]) rfl rfl ?_
  refine go_v (m := 99) (as := [.ref h.length, .int (iI o), .int (iI 1)]) (r := [.ref h.length, .ref h.length]) rfl rfl rfl mh_o rfl rfl (mm_nth z (d + 9) 1 2 o h R J A N hc PJ (by decide) o0 (by omega) hL (by omega)) (fun v h1 hq => ?_)
  obtain ⟨rfl, rfl⟩ := hq
  show xx_go (xt_P z) (d + 10) 154 479 [some (.ref h.length), some (.int (iI k)), some (.int (iI o)), some (.int (iI c)), some (.int (iI ((-1)))), some (.int (iI ((-1)))), some (.int (iI ((-1)))), none] [.int (iI (A 1 (rt A 1 o))), .ref h.length, .ref h.length] (mh h R J A N) _
  have J32 : J 32 = I 32 := by subst hJ; rfl
  refine go_v (m := 132) (as := [.ref h.length, .int (iI (A 1 (rt A 1 o)))]) (r := [.ref h.length]) rfl rfl rfl mh_o rfl rfl (mm_definitionF z (d + 9) (A 1 (rt A 1 o)) h R J A N hc (by omega) (by omega) (by omega) (by omega) (fun e a b => rd.2 e a (by omega))) (fun v h1 hq => ?_)
  obtain ⟨⟨x, rfl, hx⟩, rfl⟩ := hq
  have xv : 0 ≤ x ∧ x < J 32 := by
    rcases hx with ⟨-, q⟩ | ⟨x0, x1, x2, x3⟩
    · exact absurd ed2 (q ed ed0 (by omega))
    · exact ⟨x0, x1⟩
  have x23 : A 20 x = A 1 (rt A 1 o) ∧ ∀ e : Int, 0 ≤ e → e < x → A 20 e ≠ A 1 (rt A 1 o) := by
    rcases hx with ⟨-, q⟩ | ⟨x0, x1, x2, x3⟩
    · exact absurd ed2 (q ed ed0 (by omega))
    · exact ⟨x2, x3⟩
  obtain ⟨fv, fps, fB, f1, f2, f3, f4, -⟩ := fb_at hB hX xv.1 (by omega) v1.2.1.1 v1.2.1.2 x23.1 x23.2
  show xx_go (xt_P z) (d + 10) 154 482 [some (.ref h.length), some (.int (iI k)), some (.int (iI o)), some (.int (iI c)), some (.int (iI ((-1)))), some (.int (iI ((-1)))), some (.int (iI ((-1)))), none] [.int (iI x), .ref h.length] (mh h R J A N) _
  refine go_v (m := 157) (as := [.ref h.length, .int (iI x)]) (r := []) rfl rfl rfl mh_o rfl rfl (mm_defined z (d + 2) ar x h R J A N hc R0.2.1 T0.1 xv.1 xv.2 0 0 0 D0 (by decide) (by omega)) (fun v h1 hq => ?_)
  obtain ⟨rfl, I1, A1, rfl, R1, ⟨S9, V9, D1⟩, dj⟩ := hq
  have di1 := dj [] di0
  rw [f2, f3, f4] at di1
  have P1 := RU_P R1
  have X1 := RU_tr R0 R1 (Int.le_refl _)
  have T1 := BTX_RU R0.2.1 T0 R1
  have y1 := X1.2.2.1
  have z1 : I1 7 ≤ 140000 := P1.1
  have x1 : I 7 ≤ I1 7 := X1.1.2.1
  have ex1 : A1 1 o = A 1 o := (X1.1.2.2.1 o o0 o1).1
  clear T0
  show xx_go (xt_P z) (d + 10) 154 485 [some (.ref h.length), some (.int (iI k)), some (.int (iI o)), some (.int (iI c)), some (.int (iI ((-1)))), some (.int (iI ((-1)))), some (.int (iI ((-1)))), none] [] (mh h R I1 A1 N) _
  refine go_a (pc' := 486) (ls' := [some (.ref h.length), some (.int (iI k)), some (.int (iI o)), some (.int (iI c)), some (.int (iI ((-1)))), some (.int (iI ((-1)))), some (.int (iI ((-1)))), none]) (st' := [.int (iI 1)]) rfl rfl ?_
  refine go_r rfl rfl rfl rfl rfl rfl ⟨1, I1, A1, N, rfl, rfl, RU_w X1 (by omega), Or.inr ⟨rfl, ⟨_, di1, hρ _ f1⟩, _, _, DR_w D1 (by omega) (Int.le_refl _) (Int.le_refl _), fun b9 b30 b400 => ?_⟩⟩
  have dm := D1.1
  have ds := D1.2.2.1
  have dv := D1.2.2.2
  have kk : KDR dd I1 A1 ar ≤ E + 128 * WD A o - I1 7 := KK_one (by omega) (by omega)
  omega
set_option maxRecDepth 4000 in
theorem mm_con_thm (z : Value) (d : Nat) (ar : Int → Int) (ft : Nat → Int) (Fb : List (Nat × List Nat × ob_T)) (Tb : List (Nat × ob_T)) (ρ : Option (List ob_T)) (k o c E dd : Int) (h R : xx_H) (I : Nat → Int) (A : Nat → Int → Int) (N : Int → Int) (hc : 12 ≤ h.length) (hB : BI ar I A N) (k0 : 0 ≤ k) (k1 : k < 40) (ek : A 47 k = o) (o0 : 0 ≤ o) (o1 : o < I 7) (hF : FORM ar I A N o) (ec : A 49 k = c) (c0 : 0 ≤ c) (w : WD A o ≤ 1000) (hE : E + 128 * WD A o ≤ 140000) (d0 : 0 ≤ dd) (d1 : dd ≤ 39) (c9 : Int) (hcf : CFX ar I A o c9) (hX : BTX ar ft Fb Tb I A N) (w0 : I 49 = 0) (ef : A 1 o = 38) (hU : I 7 ≤ E + c9) (hρ : ∀ p : Nat × ob_T, sp_tb Tb (DM A N (A 1 (rt A 1 o))) = some p → ρ = sp_cz [some p.2]) : xx_cl (xt_P z) (d + 11) 154 [.ref h.length, .int (iI k)] (mh h R I A N) (fun v h1 => ∃ (b : Int) (I1 : Nat → Int) (A1 : Nat → Int → Int) (N1 : Int → Int), v = some (.int (iI b)) ∧ h1 = mh h R I1 A1 N1 ∧ RU ar 140000 I A N I1 A1 N1 ∧ ((b = 0 ∧ ρ = none) ∨ (b = 1 ∧ (∃ its : List (Option ob_T), DIT its I1 A1 N1 ∧ ρ = sp_cz its) ∧ ∃ S V : Int, DR ar 1190 S V I1 A1 ∧ (I1 49 = 0 → I1 67 ≤ 30 → SG (TZ A1 ar) (A1 38) (I1 67).toNat ≤ 400 → I1 7 + KDR dd I1 A1 ar ≤ E + 128 * WD A o)))) := by
  have hP := BI_P hB
  have n0 := BI_n0 hB
  have p9 := hP.1
  have nm := hB.1.2.1.1
  have n2 : A 1 2 < 0 := by rw [hB.1.2.1.2 2 (by decide) (by decide)]; decide
  obtain ⟨n, hL, n1, hF⟩ := hF
  have en : n = 2 ∧ ∃ e : Int, 0 ≤ e ∧ e < I 38 ∧ A 25 e = A 1 (rt A 1 o) := by
    rcases hF with q | q | q | q | q | q | q | q | q | q | q | q
    · omega
    · omega
    · omega
    · omega
    · omega
    · exact ⟨q.2.1, q.2.2⟩
    · omega
    · omega
    · omega
    · omega
    · omega
    · omega
  clear hF
  obtain ⟨rfl, ed, ed0, ed1, ed2⟩ := en
  have wo := WD_pair hP o0 o1 (by omega)
  rw [if_neg (fun q => absurd q.1 (by omega))] at wo
  have v0 := VD_rt hP o0 o1 hL (by decide : 0 < 2)
  have v0e : VD A o = WD A (A 1 o) + VD A (rt A 1 o) := v0.1
  have wr : WD A (A 1 o) = 1 := WD_atom (by rw [hB.1.2.1.2 _ (by omega) (by omega)]; decide)
  have v1 := VD_rt hP o0 o1 hL (by decide : 1 < 2)
  have v1e : VD A (rt A 1 o) = WD A (A 1 (rt A 1 o)) + VD A (rt A 2 o) := v1.1
  have vz : VD A (rt A 2 o) = 0 := by rw [isL_end 2 o hL, VD_atom n0, if_pos rfl]
  have cf := hcf.2 (by omega)
  have cf2 := cf.2.2.1 (by omega)
  have rd := hB.2.2.1
  have rd1 := rd.1.2
  refine cl_go rfl ?_
  show xx_go (xt_P z) (d + 10) 154 0 [some (.ref h.length), some (.int (iI k)), none, none, none, none, none, none] [] (mh h R I A N) _
  refine go_a (pc' := 1) (ls' := [some (.ref h.length), some (.int (iI k)), none, none, none, none, none, none]) (st' := [.ref h.length]) rfl rfl ?_
  refine go_get rfl mh_o rfl rfl ?_
  refine go_a (pc' := 5) (ls' := [some (.ref h.length), some (.int (iI k)), none, none, none, none, none, none]) (st' := [.int (iI k), .ref (h.length + 47)]) rfl rfl ?_
  refine mi_ild rfl mh_a47 (by omega) (by omega) (by decide) ?_
  rw [ek]
  refine go_a (pc' := 7) (ls' := [some (.ref h.length), some (.int (iI k)), some (.int (iI o)), none, none, none, none, none]) (st' := []) rfl rfl ?_
  refine go_a (pc' := 8) (ls' := [some (.ref h.length), some (.int (iI k)), some (.int (iI o)), none, none, none, none, none]) (st' := [.ref h.length]) rfl rfl ?_
  refine go_get rfl mh_o rfl rfl ?_
  refine go_a (pc' := 12) (ls' := [some (.ref h.length), some (.int (iI k)), some (.int (iI o)), none, none, none, none, none]) (st' := [.int (iI k), .ref (h.length + 49)]) rfl rfl ?_
  refine mi_ild rfl mh_a49 (by omega) (by omega) (by decide) ?_
  rw [ec]
  refine go_a (pc' := 14) (ls' := [some (.ref h.length), some (.int (iI k)), some (.int (iI o)), some (.int (iI c)), none, none, none, none]) (st' := []) rfl rfl ?_
  refine go_a (pc' := 15) (ls' := [some (.ref h.length), some (.int (iI k)), some (.int (iI o)), some (.int (iI c)), none, none, none, none]) (st' := [.ref h.length]) rfl rfl ?_
  refine go_a (pc' := 16) (ls' := [some (.ref h.length), some (.int (iI k)), some (.int (iI o)), some (.int (iI c)), none, none, none, none]) (st' := [.int (iI 0), .ref h.length]) rfl rfl ?_
  refine go_put (j := 67) rfl mh_o rfl rfl (show 12 ≤ _ from hc) (show 67 < 86 by decide) rfl rfl ?_
  rw [mh_p67]
  obtain ⟨J, hJ⟩ : ∃ J : Nat → Int, J = su I 67 0 := ⟨_, rfl⟩
  rw [← hJ]
  have bJ : BX (fun j => j = 67) NO I A N J A N := by
    subst hJ
    exact BX_of hB.1.1 (fun j q => su_ne q) (fun a _ => rfl) rfl rfl rfl rfl rfl rfl rfl rfl rfl rfl
  have J7 : J 7 = I 7 := by subst hJ; rfl
  have J49 : J 49 = I 49 := by subst hJ; rfl
  have R0 : RU ar 0 I A N J A N := RU_of hB bJ (fun j q => by subst q; unfold FC; omega) (fun a q => absurd q (fun z => z)) (SZI_124 (A := A) (A1 := A) hB.1.2.2 rfl rfl rfl J7) (by subst hJ; rfl) (by subst hJ; rfl) (by rw [J49]; exact hB.2.2.2.2) (by omega) (fun _ => J49)
  have D0 : DR ar 0 0 0 J A := by subst hJ; exact DR_00
  have PJ := RU_P R0
  have T0 : BTX ar ft Fb Tb J A N := BTX_RU hB hX R0
  have di0 : DIT [] J A N := by
    subst hJ
    exact Or.inl ⟨w0, rfl⟩
  refine go_a (pc' := 20) (ls' := [some (.ref h.length), some (.int (iI k)), some (.int (iI o)), some (.int (iI c)), none, none, none, none]) (st' := [.ref h.length]) rfl rfl ?_
  refine go_a (pc' := 21) (ls' := [some (.ref h.length), some (.int (iI k)), some (.int (iI o)), some (.int (iI c)), none, none, none, none]) (st' := [.int (iI o), .ref h.length]) rfl rfl ?_
  refine go_v (m := 98) (as := [.ref h.length, .int (iI o)]) (r := []) rfl rfl rfl mh_o rfl rfl (mm_lenL z (d + 8) 2 o h R J A N hc PJ n0 o0 (by omega) hL) (fun v h1 hq => ?_)
  obtain ⟨rfl, rfl⟩ := hq
  show xx_go (xt_P z) (d + 10) 154 24 [some (.ref h.length), some (.int (iI k)), some (.int (iI o)), some (.int (iI c)), none, none, none, none] [.int (iI (((2 : Nat) : Int)))] (mh h R J A N) _
  refine go_a (pc' := 25) (ls' := [some (.ref h.length), some (.int (iI k)), some (.int (iI o)), some (.int (iI c)), none, none, none, none]) (st' := [.int (iI 1), .int (iI (((2 : Nat) : Int)))]) rfl rfl ?_
  refine mi_le (t := 107) rfl rfl (by omega) (by omega) (by omega) (by omega) (fun q => by omega) (fun _ => ?_)
  refine go_a (pc' := 29) (ls' := [some (.ref h.length), some (.int (iI k)), some (.int (iI o)), some (.int (iI c)), none, none, none, none]) (st' := [.ref h.length]) rfl rfl ?_
  refine go_get rfl mh_o rfl rfl ?_
  refine go_a (pc' := 33) (ls' := [some (.ref h.length), some (.int (iI k)), some (.int (iI o)), some (.int (iI c)), none, none, none, none]) (st' := [.int (iI o), .ref (h.length + 1)]) rfl rfl ?_
  refine mi_ild rfl mh_a1 (by omega) (by omega) (by decide) ?_
  refine go_a (pc' := 36) (ls' := [some (.ref h.length), some (.int (iI k)), some (.int (iI o)), some (.int (iI c)), none, none, none, none]) (st' := [.int (iI 37), .int (iI (A 1 o))]) rfl rfl ?_
  refine mi_eq (t := 107) rfl rfl (by omega) (by omega) (by omega) (by omega) (fun q => by omega) (fun _ => ?_)
  refine go_a (pc' := 40) (ls' := [some (.ref h.length), some (.int (iI k)), some (.int (iI o)), some (.int (iI c)), none, none, none, none]) (st' := [.ref h.length]) rfl rfl ?_
  refine go_get rfl mh_o rfl rfl ?_
  refine go_a (pc' := 44) (ls' := [some (.ref h.length), some (.int (iI k)), some (.int (iI o)), some (.int (iI c)), none, none, none, none]) (st' := [.int (iI o), .ref (h.length + 1)]) rfl rfl ?_
  refine mi_ild rfl mh_a1 (by omega) (by omega) (by decide) ?_
  refine go_a (pc' := 47) (ls' := [some (.ref h.length), some (.int (iI k)), some (.int (iI o)), some (.int (iI c)), none, none, none, none]) (st' := [.int (iI 38), .int (iI (A 1 o))]) rfl rfl ?_
  refine mi_eq (t := 107) rfl rfl (by omega) (by omega) (by omega) (by omega) (fun _ => ?_) (fun q => by omega)
  refine go_a (pc' := 108) (ls' := [some (.ref h.length), some (.int (iI k)), some (.int (iI o)), some (.int (iI c)), none, none, none, none]) (st' := [.int (iI ((-1)))]) rfl rfl ?_
  refine go_a (pc' := 110) (ls' := [some (.ref h.length), some (.int (iI k)), some (.int (iI o)), some (.int (iI c)), some (.int (iI ((-1)))), none, none, none]) (st' := []) rfl rfl ?_
  refine go_a (pc' := 111) (ls' := [some (.ref h.length), some (.int (iI k)), some (.int (iI o)), some (.int (iI c)), some (.int (iI ((-1)))), none, none, none]) (st' := [.ref h.length]) rfl rfl ?_
  refine go_get rfl mh_o rfl rfl ?_
  refine go_a (pc' := 115) (ls' := [some (.ref h.length), some (.int (iI k)), some (.int (iI o)), some (.int (iI c)), some (.int (iI ((-1)))), none, none, none]) (st' := [.int (iI o), .ref (h.length + 1)]) rfl rfl ?_
  refine mi_ild rfl mh_a1 (by omega) (by omega) (by decide) ?_
  refine go_a (pc' := 118) (ls' := [some (.ref h.length), some (.int (iI k)), some (.int (iI o)), some (.int (iI c)), some (.int (iI ((-1)))), none, none, none]) (st' := [.int (iI 32), .int (iI (A 1 o))]) rfl rfl ?_
  refine mi_lt (t := 145) rfl rfl (by omega) (by omega) (by omega) (by omega) (fun q => by omega) (fun _ => ?_)
  refine go_a (pc' := 122) (ls' := [some (.ref h.length), some (.int (iI k)), some (.int (iI o)), some (.int (iI c)), some (.int (iI ((-1)))), none, none, none]) (st' := [.ref h.length]) rfl rfl ?_
  refine go_get rfl mh_o rfl rfl ?_
  refine go_a (pc' := 126) (ls' := [some (.ref h.length), some (.int (iI k)), some (.int (iI o)), some (.int (iI c)), some (.int (iI ((-1)))), none, none, none]) (st' := [.int (iI o), .ref (h.length + 1)]) rfl rfl ?_
  refine mi_ild rfl mh_a1 (by omega) (by omega) (by decide) ?_
  refine go_a (pc' := 129) (ls' := [some (.ref h.length), some (.int (iI k)), some (.int (iI o)), some (.int (iI c)), some (.int (iI ((-1)))), none, none, none]) (st' := [.int (iI 36), .int (iI (A 1 o))]) rfl rfl ?_
  refine mi_gt (t := 145) rfl rfl (by omega) (by omega) (by omega) (by omega) (fun _ => ?_) (fun q => by omega)
  refine go_a (pc' := 146) (ls' := [some (.ref h.length), some (.int (iI k)), some (.int (iI o)), some (.int (iI c)), some (.int (iI ((-1)))), none, none, none]) (st' := [.int (iI ((-1)))]) rfl rfl ?_
  refine go_a (pc' := 148) (ls' := [some (.ref h.length), some (.int (iI k)), some (.int (iI o)), some (.int (iI c)), some (.int (iI ((-1)))), some (.int (iI ((-1)))), none, none]) (st' := []) rfl rfl ?_
  refine go_a (pc' := 149) (ls' := [some (.ref h.length), some (.int (iI k)), some (.int (iI o)), some (.int (iI c)), some (.int (iI ((-1)))), some (.int (iI ((-1)))), none, none]) (st' := [.ref h.length]) rfl rfl ?_
  refine go_get rfl mh_o rfl rfl ?_
  refine go_a (pc' := 153) (ls' := [some (.ref h.length), some (.int (iI k)), some (.int (iI o)), some (.int (iI c)), some (.int (iI ((-1)))), some (.int (iI ((-1)))), none, none]) (st' := [.int (iI o), .ref (h.length + 1)]) rfl rfl ?_
  refine mi_ild rfl mh_a1 (by omega) (by omega) (by decide) ?_
  refine go_a (pc' := 156) (ls' := [some (.ref h.length), some (.int (iI k)), some (.int (iI o)), some (.int (iI c)), some (.int (iI ((-1)))), some (.int (iI ((-1)))), none, none]) (st' := [.int (iI 35), .int (iI (A 1 o))]) rfl rfl ?_
  refine mi_eq (t := 170) rfl rfl (by omega) (by omega) (by omega) (by omega) (fun q => by omega) (fun _ => ?_)
  refine go_a (pc' := 160) (ls' := [some (.ref h.length), some (.int (iI k)), some (.int (iI o)), some (.int (iI c)), some (.int (iI ((-1)))), some (.int (iI ((-1)))), none, none]) (st' := [.ref h.length]) rfl rfl ?_
  refine go_get rfl mh_o rfl rfl ?_
  refine go_a (pc' := 164) (ls' := [some (.ref h.length), some (.int (iI k)), some (.int (iI o)), some (.int (iI c)), some (.int (iI ((-1)))), some (.int (iI ((-1)))), none, none]) (st' := [.int (iI o), .ref (h.length + 1)]) rfl rfl ?_
  refine mi_ild rfl mh_a1 (by omega) (by omega) (by decide) ?_
  refine go_a (pc' := 167) (ls' := [some (.ref h.length), some (.int (iI k)), some (.int (iI o)), some (.int (iI c)), some (.int (iI ((-1)))), some (.int (iI ((-1)))), none, none]) (st' := [.int (iI 36), .int (iI (A 1 o))]) rfl rfl ?_
  refine mi_ne (t := 183) rfl rfl (by omega) (by omega) (by omega) (by omega) (fun _ => ?_) (fun q => by omega)
  refine go_a (pc' := 184) (ls' := [some (.ref h.length), some (.int (iI k)), some (.int (iI o)), some (.int (iI c)), some (.int (iI ((-1)))), some (.int (iI ((-1)))), none, none]) (st' := [.int (iI ((-1)))]) rfl rfl ?_
  refine go_a (pc' := 186) (ls' := [some (.ref h.length), some (.int (iI k)), some (.int (iI o)), some (.int (iI c)), some (.int (iI ((-1)))), some (.int (iI ((-1)))), some (.int (iI ((-1)))), none]) (st' := []) rfl rfl ?_
  refine go_a (pc' := 187) (ls' := [some (.ref h.length), some (.int (iI k)), some (.int (iI o)), some (.int (iI c)), some (.int (iI ((-1)))), some (.int (iI ((-1)))), some (.int (iI ((-1)))), none]) (st' := [.ref h.length]) rfl rfl ?_
  refine go_get rfl mh_o rfl rfl ?_
  refine go_a (pc' := 191) (ls' := [some (.ref h.length), some (.int (iI k)), some (.int (iI o)), some (.int (iI c)), some (.int (iI ((-1)))), some (.int (iI ((-1)))), some (.int (iI ((-1)))), none]) (st' := [.int (iI o), .ref (h.length + 1)]) rfl rfl ?_
  refine mi_ild rfl mh_a1 (by omega) (by omega) (by decide) ?_
  refine mi_ts (c := 38) (t := 487) rfl ef rfl ?_
  refine go_a (pc' := 488) (ls' := [some (.ref h.length), some (.int (iI k)), some (.int (iI o)), some (.int (iI c)), some (.int (iI ((-1)))), some (.int (iI ((-1)))), some (.int (iI ((-1)))), none]) (st' := [.ref h.length]) rfl rfl ?_
  refine go_a (pc' := 489) (ls' := [some (.ref h.length), some (.int (iI k)), some (.int (iI o)), some (.int (iI c)), some (.int (iI ((-1)))), some (.int (iI ((-1)))), some (.int (iI ((-1)))), none]) (st' := [.ref h.length, .ref h.length]) rfl rfl ?_
  refine go_get rfl mh_o rfl rfl ?_
  refine go_a (pc' := 493) (ls' := [some (.ref h.length), some (.int (iI k)), some (.int (iI o)), some (.int (iI c)), some (.int (iI ((-1)))), some (.int (iI ((-1)))), some (.int (iI ((-1)))), none]) (st' := [.ref h.length, .ref (h.length + 26), .ref h.length]) rfl rfl ?_
  refine go_a (pc' := 494) (ls' := [some (.ref h.length), some (.int (iI k)), some (.int (iI o)), some (.int (iI c)), some (.int (iI ((-1)))), some (.int (iI ((-1)))), some (.int (iI ((-1)))), none]) (st' := [.ref h.length, .ref h.length, .ref (h.length + 26), .ref h.length]) rfl rfl ?_
  refine go_a (pc' := 495) (ls' := [some (.ref h.length), some (.int (iI k)), some (.int (iI o)), some (.int (iI c)), some (.int (iI ((-1)))), some (.int (iI ((-1)))), some (.int (iI ((-1)))), none]) (st' := [.int (iI o), .ref h.length, .ref h.length, .ref (h.length + 26), .ref h.length]) rfl rfl ?_
  refine go_a (pc' := 496) (ls' := [some (.ref h.length), some (.int (iI k)), some (.int (iI o)), some (.int (iI c)), some (.int (iI ((-1)))), some (.int (iI ((-1)))), some (.int (iI ((-1)))), none]) (st' := [.int (iI 1), .int (iI o), .ref h.length, .ref h.length, .ref (h.length + 26), .ref h.length]) rfl rfl ?_
  refine go_v (m := 99) (as := [.ref h.length, .int (iI o), .int (iI 1)]) (r := [.ref h.length, .ref (h.length + 26), .ref h.length]) rfl rfl rfl mh_o rfl rfl (mm_nth z (d + 9) 1 2 o h R J A N hc PJ (by decide) o0 (by omega) hL (by omega)) (fun v h1 hq => ?_)
  obtain ⟨rfl, rfl⟩ := hq
  show xx_go (xt_P z) (d + 10) 154 499 [some (.ref h.length), some (.int (iI k)), some (.int (iI o)), some (.int (iI c)), some (.int (iI ((-1)))), some (.int (iI ((-1)))), some (.int (iI ((-1)))), none] [.int (iI (A 1 (rt A 1 o))), .ref h.length, .ref (h.length + 26), .ref h.length] (mh h R J A N) _
  have J38 : J 38 = I 38 := by subst hJ; rfl
  refine go_v (m := 135) (as := [.ref h.length, .int (iI (A 1 (rt A 1 o)))]) (r := [.ref (h.length + 26), .ref h.length]) rfl rfl rfl mh_o rfl rfl (mm_theoremOfF z (d + 9) (A 1 (rt A 1 o)) h R J A N hc (by omega) (by omega) (by omega) (by omega) (fun e a b => (rd.2.2 e a (by omega)).1)) (fun v h1 hq => ?_)
  obtain ⟨⟨x, rfl, hx⟩, rfl⟩ := hq
  have xv : 0 ≤ x ∧ x < J 38 := by
    rcases hx with ⟨-, q⟩ | ⟨x0, x1, x2, x3⟩
    · exact absurd ed2 (q ed ed0 (by omega))
    · exact ⟨x0, x1⟩
  have x23 : A 25 x = A 1 (rt A 1 o) ∧ ∀ e : Int, 0 ≤ e → e < x → A 25 e ≠ A 1 (rt A 1 o) := by
    rcases hx with ⟨-, q⟩ | ⟨x0, x1, x2, x3⟩
    · exact absurd ed2 (q ed ed0 (by omega))
    · exact ⟨x2, x3⟩
  obtain ⟨fv, tB, f1, f2⟩ := tb_at hB hX xv.1 (by omega) v1.2.1.1 v1.2.1.2 x23.1 x23.2
  show xx_go (xt_P z) (d + 10) 154 502 [some (.ref h.length), some (.int (iI k)), some (.int (iI o)), some (.int (iI c)), some (.int (iI ((-1)))), some (.int (iI ((-1)))), some (.int (iI ((-1)))), none] [.int (iI x), .ref (h.length + 26), .ref h.length] (mh h R J A N) _
  have th := rd.2.2 x xv.1 (by omega)
  unfold THM at th
  have thb := th.2.2
  refine mi_ild rfl mh_a26 (by omega) (by omega) (by decide) ?_
  obtain ⟨t, ht⟩ : ∃ t : Int, A 26 x = t := ⟨_, rfl⟩
  rw [ht]
  rw [ht] at th thb f2
  have h_t0 : (0 ≤ t ∧ t < J 7) ∧ TZ A ar t = TZ A ar t := ⟨⟨th.2.1.1, by omega⟩, rfl⟩
  have s_t := thb.1
  show xx_go (xt_P z) (d + 10) 154 503 [some (.ref h.length), some (.int (iI k)), some (.int (iI o)), some (.int (iI c)), some (.int (iI ((-1)))), some (.int (iI ((-1)))), some (.int (iI ((-1)))), none] [.int (iI t), .ref h.length] (mh h R J A N) _
  refine go_v (m := 155) (as := [.ref h.length, .int (iI t)]) (r := []) rfl rfl rfl mh_o rfl rfl (mr_put z (d + 9) ar 0 0 _ t h R J A N hc R0.2.1 T0.1 D0 (by omega) h_t0.1.1 h_t0.1.2 (by rw [h_t0.2]; exact s_t) (fun _ => thb.2)) (fun v h1 hq => ?_)
  obtain ⟨rfl, I1, A1, rfl, R1, D1, u1, e1, jj1⟩ := hq
  have di1 := jj1 _ _ (DIM_have (x := t) di0)
  rw [f2] at di1
  rw [h_t0.2] at D1
  have P1 := RU_P R1
  have X1 := RU_tr R0 R1 (Int.le_refl _)
  have T1 := BTX_RU R0.2.1 T0 R1
  have et_t1 := (DM_RU R0.2.1 T0 R1 h_t0.1.1 h_t0.1.2).trans f2
  have h_t1 := RU_carry PJ R1 h_t0 s_t
  have y1 := X1.2.2.1
  have z1 : I1 7 ≤ 140000 := P1.1
  have x1 : I 7 ≤ I1 7 := X1.1.2.1
  have ex1 : A1 1 o = A 1 o := (X1.1.2.2.1 o o0 o1).1
  clear f2 T0 h_t0
  show xx_go (xt_P z) (d + 10) 154 506 [some (.ref h.length), some (.int (iI k)), some (.int (iI o)), some (.int (iI c)), some (.int (iI ((-1)))), some (.int (iI ((-1)))), some (.int (iI ((-1)))), none] [] (mh h R I1 A1 N) _
  refine go_a (pc' := 507) (ls' := [some (.ref h.length), some (.int (iI k)), some (.int (iI o)), some (.int (iI c)), some (.int (iI ((-1)))), some (.int (iI ((-1)))), some (.int (iI ((-1)))), none]) (st' := [.int (iI 1)]) rfl rfl ?_
  refine go_r rfl rfl rfl rfl rfl rfl ⟨1, I1, A1, N, rfl, rfl, RU_w X1 (by omega), Or.inr ⟨rfl, ⟨_, di1, hρ _ f1⟩, _, _, DR_w D1 (by omega) (Int.le_refl _) (Int.le_refl _), fun b9 b30 b400 => ?_⟩⟩
  have dm := D1.1
  have ds := D1.2.2.1
  have dv := D1.2.2.2
  have kk : KDR dd I1 A1 ar ≤ E + 128 * WD A o - I1 7 := KK_one (by omega) (by omega)
  omega

