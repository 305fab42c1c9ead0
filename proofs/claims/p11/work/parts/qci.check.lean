section CHK
variable {bk : List sp_Th} {fu : Int} {x F : ob_T} {v : Nat}
theorem chk_nv (h : ∀ v : Nat, sp_p 1 x ≠ .var v) : sp_chk bk fu x = (bk, 0) := by
  unfold sp_chk
  split
  · rename_i v e
    exact absurd e (h v)
  · rfl
theorem chk_eq (h : sp_p 1 x = .var v) : sp_chk bk fu x = (match sp_tm (sp_ft (sp_FB bk)) (sp_p 2 x) with
    | some F => ifc (sp_mn v ∧ (∀ p ∈ sp_TB bk, p.1 ≠ v) ∧ (sp_TB bk).length < 60) (match (sp_pv bk fu (sp_p 3 x)).1 with
      | none => (bk, (sp_pv bk fu (sp_p 3 x)).2)
      | some D => (ifc (∀ t ∈ D.1, t = F) ((v, none, F) :: bk) bk, D.2)) (bk, 0)
    | none => (bk, 0)) := by
  unfold sp_chk
  split
  · rename_i w e
    rw [h] at e
    injection e with e
    rw [← e]
    rfl
  · rename_i e
    exact absurd h (e v)
theorem chk_nt (h : sp_p 1 x = .var v) (ht : sp_tm (sp_ft (sp_FB bk)) (sp_p 2 x) = none) : sp_chk bk fu x = (bk, 0) := by
  rw [chk_eq h, ht]
theorem chk_no (h : sp_p 1 x = .var v) (ht : sp_tm (sp_ft (sp_FB bk)) (sp_p 2 x) = some F) (hc : ¬ (sp_mn v ∧ (∀ p ∈ sp_TB bk, p.1 ≠ v) ∧ (sp_TB bk).length < 60)) : sp_chk bk fu x = (bk, 0) := by
  rw [chk_eq h, ht]
  exact ifc_neg hc
theorem chk_f (h : sp_p 1 x = .var v) (ht : sp_tm (sp_ft (sp_FB bk)) (sp_p 2 x) = some F) (hc : sp_mn v ∧ (∀ p ∈ sp_TB bk, p.1 ≠ v) ∧ (sp_TB bk).length < 60) (hp : sp_pr (sp_ft (sp_FB bk)) (sp_FB bk) (sp_TB bk) fu 40 (sp_p 3 x) 0 = none) : sp_chk bk fu x = (bk, sp_sn (sp_ft (sp_FB bk)) (sp_FB bk) (sp_TB bk) fu 40 (sp_p 3 x) 0) := by
  rw [chk_eq h, ht]
  show ifc _ (match (sp_pr (sp_ft (sp_FB bk)) (sp_FB bk) (sp_TB bk) fu 40 (sp_p 3 x) 0) with
      | none => (bk, (sp_pv bk fu (sp_p 3 x)).2)
      | some D => (ifc (∀ t ∈ D.1, t = F) ((v, none, F) :: bk) bk, D.2)) (bk, 0) = _
  rw [ifc_pos hc, hp]
  rfl
theorem chk_s {D : List ob_T × Int} (h : sp_p 1 x = .var v) (ht : sp_tm (sp_ft (sp_FB bk)) (sp_p 2 x) = some F) (hc : sp_mn v ∧ (∀ p ∈ sp_TB bk, p.1 ≠ v) ∧ (sp_TB bk).length < 60) (hp : sp_pr (sp_ft (sp_FB bk)) (sp_FB bk) (sp_TB bk) fu 40 (sp_p 3 x) 0 = some D) : sp_chk bk fu x = (ifc (∀ t ∈ D.1, t = F) ((v, none, F) :: bk) bk, D.2) := by
  rw [chk_eq h, ht]
  show ifc _ (match (sp_pr (sp_ft (sp_FB bk)) (sp_FB bk) (sp_TB bk) fu 40 (sp_p 3 x) 0) with
      | none => (bk, (sp_pv bk fu (sp_p 3 x)).2)
      | some D => (ifc (∀ t ∈ D.1, t = F) ((v, none, F) :: bk) bk, D.2)) (bk, 0) = _
  rw [ifc_pos hc, hp]
end CHK
section NNM
variable {ar : Int → Int} {ft : Nat → Int} {Fb : List (Nat × List Nat × ob_T)} {Tb : List (Nat × ob_T)} {I : Nat → Int} {A : Nat → Int → Int} {N : Int → Int} {k : Int} {v : Nat}
theorem nm_cm : ∀ x : Nat, x < 17 → ∃ y : Nat, y < 17 ∧ mNm.getD x 0 = cNm.getD y 0 := by
  intro x hx
  by_cases a : x = 15
  · exact ⟨16, by decide, by rw [a]; rfl⟩
  by_cases b : x = 16
  · exact ⟨15, by decide, by rw [b]; rfl⟩
  refine ⟨x, hx, ?_⟩
  have : ∀ x : Nat, x < 15 → mNm.getD x 0 = cNm.getD x 0 := by decide
  exact this x (by omega)
theorem nm_mc : ∀ y : Nat, y < 17 → ∃ x : Nat, x < 17 ∧ cNm.getD y 0 = mNm.getD x 0 := by
  intro y hy
  by_cases a : y = 15
  · exact ⟨16, by decide, by rw [a]; rfl⟩
  by_cases b : y = 16
  · exact ⟨15, by decide, by rw [b]; rfl⟩
  refine ⟨y, hy, ?_⟩
  have : ∀ x : Nat, x < 15 → cNm.getD x 0 = mNm.getD x 0 := by decide
  exact this y (by omega)
theorem mn_iff (hB : BI ar I A N) (h : BTX ar ft Fb Tb I A N) (k0 : 0 ≤ k) (k1 : k < I 7) (e : DM A N k = .var v) : sp_mn v ↔ 16 < k := by
  refine ⟨fun q => ?_, fun q y hy c => ?_⟩
  · by_cases c : 16 < k
    · exact c
    · obtain ⟨y, hy, ey⟩ := nm_cm k.toNat (by omega)
      have d := h.1.2 k.toNat (by omega)
      rw [show ((k.toNat : Nat) : Int) = k by omega, e] at d
      injection d with d
      exact absurd (d.trans ey) (q y hy)
  · obtain ⟨z, hz, ez⟩ := nm_mc y hy
    rw [c, ez] at e
    have := (DM_nm hB.1.1 hB.1.2.1 h.1 k0 k1 (by omega : z < 44)).mp e
    omega
theorem nv_iff (hB : BI ar I A N) (h : BTX ar ft Fb Tb I A N) (k0 : 0 ≤ k) (k1 : k < I 7) (ne : A 1 k ≠ -2) : ∀ v : Nat, DM A N k ≠ .var v := fun v q => ne (ST_iv (STX hB h) k0 k1 q)
theorem tbn_iff (hB : BI ar I A N) (h : BTX ar ft Fb Tb I A N) (k0 : 0 ≤ k) (k1 : k < I 7) (e : DM A N k = .var v) : (∀ p ∈ Tb, p.1 ≠ v) ↔ ∀ e : Int, 0 ≤ e → e < I 38 → A 25 e ≠ k := by
  obtain ⟨⟨-, l2⟩, -, bb⟩ := h.2.2.2
  refine ⟨fun q f f0 f1 c => ?_, fun q p hp c => ?_⟩
  · obtain ⟨w, B, e1, e2, -⟩ := bb f.toNat (by omega)
    rw [show ((f.toNat : Nat) : Int) = f by omega, c, e] at e2
    have e3 := e2.2
    injection e3 with e3
    exact q _ (List.mem_of_getElem? e1) e3.symm
  · obtain ⟨j, hj⟩ := List.getElem?_of_mem hp
    obtain ⟨w, B, e1, e2, -⟩ := bb j (tb_len hj)
    rw [hj] at e1
    injection e1 with e1
    rw [e1] at c
    have c : w = v := c
    refine q j (by omega) (by have := tb_len hj; omega) (DM_inj ⟨hB.1.1, h.1.1⟩ e2.1.1 e2.1.2 k0 k1 ?_)
    rw [e2.2, e, c]
theorem fbn_iff (hB : BI ar I A N) (h : BTX ar ft Fb Tb I A N) (k0 : 0 ≤ k) (k1 : k < I 7) (e : DM A N k = .var v) : (∀ p ∈ Fb, p.1 ≠ v) ↔ ∀ e : Int, 0 ≤ e → e < I 32 → A 20 e ≠ k := by
  obtain ⟨⟨l1, -⟩, bb, -⟩ := h.2.2.2
  refine ⟨fun q f f0 f1 c => ?_, fun q p hp c => ?_⟩
  · obtain ⟨w, ps, B, e1, e2, -⟩ := bb f.toNat (by omega)
    rw [show ((f.toNat : Nat) : Int) = f by omega, c, e] at e2
    have e3 := e2.2
    injection e3 with e3
    exact q _ (List.mem_of_getElem? e1) e3.symm
  · obtain ⟨j, hj⟩ := List.getElem?_of_mem hp
    obtain ⟨w, ps, B, e1, e2, -⟩ := bb j (fb_len hj)
    rw [hj] at e1
    injection e1 with e1
    rw [e1] at c
    have c : w = v := c
    refine q j (by omega) (by have := fb_len hj; omega) (DM_inj ⟨hB.1.1, h.1.1⟩ e2.1.1 e2.1.2 k0 k1 ?_)
    rw [e2.2, e, c]
end NNM
def FDD (j : Nat) : Prop := FT3 j ∨ j = 10 ∨ j = 44 ∨ j = 45
def CFL (ar : Int → Int) (I : Nat → Int) (A : Nat → Int → Int) (N : Int → Int) (I1 : Nat → Int) (A1 : Nat → Int → Int) (N1 : Int → Int) : Prop := BX FDD GT2 I A N I1 A1 N1 ∧ SZI ar I1 A1 ∧ (I1 54 = 0 ∧ I1 56 = 0) ∧ STP I1 ∧ (0 ≤ I1 15 ∧ I1 15 ≤ 2000) ∧ (0 ≤ I1 50 ∧ I1 50 ≤ 30) ∧ (0 ≤ I1 49 ∧ I1 49 ≤ 4) ∧ (0 ≤ I1 45 ∧ I1 45 ≤ 6)
def CTH (ar : Int → Int) (o : Int) (I : Nat → Int) (A : Nat → Int → Int) (N : Int → Int) (I1 : Nat → Int) (A1 : Nat → Int → Int) (N1 : Int → Int) : Prop := ∃ (I3 : Nat → Int) (A3 : Nat → Int → Int) (n t : Int), I1 = su (su I3 38 (I3 38 + 1)) 41 (I3 41 + 1) ∧ A1 = sa (sa (sa (sa A3 25 (I3 38) n) 26 (I3 38) t) 27 (I3 41) 0) 28 (I3 41) (I3 46) ∧ CFL ar I A N I3 A3 N1 ∧ BI ar I3 A3 N1 ∧ I3 38 < 60 ∧ I3 44 = I 44 ∧ I3 7 ≤ I 7 + 2 * WD A o - PT A o ∧ I3 10 ≤ I 10 ∧ (16 < n ∧ n < I 7) ∧ (0 ≤ t ∧ t < I3 7) ∧ 1 ≤ TZ A3 ar t ∧ TZ A3 ar t ≤ 120
theorem CFL_BI {ar : Int → Int} {I I1 : Nat → Int} {A A1 : Nat → Int → Int} {N N1 : Int → Int} (X : BX FDD GT2 I A N I1 A1 N1) (B : BI ar I1 A1 N1) (S : STP I1) (u : 0 ≤ I1 15 ∧ I1 15 ≤ 2000) (u50 : 0 ≤ I1 50 ∧ I1 50 ≤ 30) : CFL ar I A N I1 A1 N1 := ⟨X, B.1.2.2, B.2.2.2.1, S, u, u50, B.2.2.2.2, B.2.1.1.2.1.2.2.1, B.2.1.1.2.1.2.2.2.1⟩
theorem mm_check_loop (z : Value) (d : Nat) (ar : Int → Int) (o t l b : Int) (h R : xx_H) (I : Nat → Int) (A : Nat → Int → Int) (N : Int → Int) (hc : 12 ≤ h.length) (hB : BI ar I A N) (hC : CLA ar I A 0) (ho : I 7 + 30 ≤ 140000) (t0 : 0 ≤ t) (t1 : t < I 7) (Q : Option Value → xx_H → Prop) (KF : ∀ (I1 : Nat → Int) (A1 : Nat → Int → Int), BX FT2 GT2 I A N I1 A1 N → BI ar I1 A1 N → (0 ≤ I1 15 ∧ I1 15 ≤ 2000) → (I1 47 = I 47 ∧ I1 48 = I 48) → (∃ q : Int, (0 ≤ q ∧ q < A 51 0) ∧ A 50 q ≠ t) → Q (some (.int (iI 7))) (mh h R I1 A1 N)) (K : ∀ j : Int, (∀ q : Int, 0 ≤ q → q < A 51 0 → A 50 q = t) → xx_go (xt_P z) (d + 7) 134 136 [some (.ref h.length), some (.int (iI o)), some (.int (iI t)), some (.int (iI l)), some (.int (iI b)), some (.int (iI j))] [] (mh h R I A N) Q) : ∀ (n : Nat) (j : Int), (A 51 0 - j).toNat ≤ n → 0 ≤ j → j ≤ 100 → (∀ q : Int, 0 ≤ q → q < j → A 50 q = t) → xx_go (xt_P z) (d + 7) 134 98 [some (.ref h.length), some (.int (iI o)), some (.int (iI t)), some (.int (iI l)), some (.int (iI b)), some (.int (iI j))] [] (mh h R I A N) Q := by
  have c1 := hC.1
  have hP := BI_P hB
  have p9 := hP.1
  intro n
  induction n with
  | zero =>
    intro j hn j0 j1 ha
    refine go_a (pc' := 100) (ls' := [some (.ref h.length), some (.int (iI o)), some (.int (iI t)), some (.int (iI l)), some (.int (iI b)), some (.int (iI j))]) (st' := [.int (iI j)]) rfl rfl ?_
    refine go_a (pc' := 101) (ls' := [some (.ref h.length), some (.int (iI o)), some (.int (iI t)), some (.int (iI l)), some (.int (iI b)), some (.int (iI j))]) (st' := [.ref h.length, .int (iI j)]) rfl rfl ?_
    refine go_get rfl mh_o rfl rfl ?_
    refine go_a (pc' := 105) (ls' := [some (.ref h.length), some (.int (iI o)), some (.int (iI t)), some (.int (iI l)), some (.int (iI b)), some (.int (iI j))]) (st' := [.int (iI 0), .ref (h.length + 51), .int (iI j)]) rfl rfl ?_
    refine mi_ild rfl mh_a51 (by omega) (by omega) (by decide) ?_
    refine mi_ge (t := 136) rfl rfl (by omega) (by omega) (by omega) (by omega) (fun e => K j (fun q a b => ha q a (by omega))) (fun e => absurd (show A 51 0 ≤ j by omega) (by omega))
  | succ n ih =>
    intro j hn j0 j1 ha
    refine go_a (pc' := 100) (ls' := [some (.ref h.length), some (.int (iI o)), some (.int (iI t)), some (.int (iI l)), some (.int (iI b)), some (.int (iI j))]) (st' := [.int (iI j)]) rfl rfl ?_
    refine go_a (pc' := 101) (ls' := [some (.ref h.length), some (.int (iI o)), some (.int (iI t)), some (.int (iI l)), some (.int (iI b)), some (.int (iI j))]) (st' := [.ref h.length, .int (iI j)]) rfl rfl ?_
    refine go_get rfl mh_o rfl rfl ?_
    refine go_a (pc' := 105) (ls' := [some (.ref h.length), some (.int (iI o)), some (.int (iI t)), some (.int (iI l)), some (.int (iI b)), some (.int (iI j))]) (st' := [.int (iI 0), .ref (h.length + 51), .int (iI j)]) rfl rfl ?_
    refine mi_ild rfl mh_a51 (by omega) (by omega) (by decide) ?_
    refine mi_ge (t := 136) rfl rfl (by omega) (by omega) (by omega) (by omega) (fun e => K j (fun q a b => ha q a (by omega))) (fun e => ?_)
    have q := hC.2.1 j j0 (by omega)
    rw [show 30 * 0 + j = j by omega] at q
    refine go_a (pc' := 110) (ls' := [some (.ref h.length), some (.int (iI o)), some (.int (iI t)), some (.int (iI l)), some (.int (iI b)), some (.int (iI j))]) (st' := [.ref h.length]) rfl rfl ?_
    refine go_get rfl mh_o rfl rfl ?_
    refine go_a (pc' := 115) (ls' := [some (.ref h.length), some (.int (iI o)), some (.int (iI t)), some (.int (iI l)), some (.int (iI b)), some (.int (iI j))]) (st' := [.int (iI j), .ref (h.length + 50)]) rfl rfl ?_
    refine mi_ild rfl mh_a50 (by omega) (by omega) (by decide) ?_
    refine go_a (pc' := 117) (ls' := [some (.ref h.length), some (.int (iI o)), some (.int (iI t)), some (.int (iI l)), some (.int (iI b)), some (.int (iI j))]) (st' := [.int (iI t), .int (iI (A 50 j))]) rfl rfl ?_
    refine mi_ne (t := 123) rfl rfl (by omega) (by omega) (by omega) (by omega) (fun e2 => ?_) (fun e2 => ?_)
    · refine go_a (pc' := 124) (ls' := [some (.ref h.length), some (.int (iI o)), some (.int (iI t)), some (.int (iI l)), some (.int (iI b)), some (.int (iI j))]) (st' := [.ref h.length]) rfl rfl ?_
      refine go_v (m := 177) (as := [.ref h.length]) (r := []) rfl rfl rfl mh_o rfl rfl (mm_tellClause z (d + 1) ar h R I A N hc hB hC ho) (fun v h1 hq => ?_)
      obtain ⟨rfl, I1, A1, rfl, X, B, u, s⟩ := hq
      show xx_go (xt_P z) (d + 7) 134 127 [some (.ref h.length), some (.int (iI o)), some (.int (iI t)), some (.int (iI l)), some (.int (iI b)), some (.int (iI j))] [] (mh h R I1 A1 N) _
      refine go_a (pc' := 129) (ls' := [some (.ref h.length), some (.int (iI o)), some (.int (iI t)), some (.int (iI l)), some (.int (iI b)), some (.int (iI j))]) (st' := [.int (iI 7)]) rfl rfl ?_
      exact go_r rfl rfl rfl rfl rfl rfl (KF I1 A1 X B u s ⟨j, ⟨j0, by omega⟩, by omega⟩)
    · refine go_a (pc' := 130) (ls' := [some (.ref h.length), some (.int (iI o)), some (.int (iI t)), some (.int (iI l)), some (.int (iI b)), some (.int (iI j))]) (st' := []) rfl rfl ?_
      refine go_a (pc' := 133) (ls' := [some (.ref h.length), some (.int (iI o)), some (.int (iI t)), some (.int (iI l)), some (.int (iI b)), some (.int (iI (j + 1)))]) (st' := []) rfl (by rw [← iI_add j 1]; rfl) ?_
      refine go_a (pc' := 98) (ls' := [some (.ref h.length), some (.int (iI o)), some (.int (iI t)), some (.int (iI l)), some (.int (iI b)), some (.int (iI (j + 1)))]) (st' := []) rfl rfl ?_
      refine ih (j + 1) (by omega) (by omega) (by omega) (fun q a b => ?_)
      by_cases u : q = j
      · rw [u]
        omega
      · exact ha q a (by omega)
set_option maxRecDepth 4000 in
theorem mm_check (z : Value) (d : Nat) (ar : Int → Int) (bk : List sp_Th) (o : Int) (h R : xx_H) (I : Nat → Int) (A : Nat → Int → Int) (N : Int → Int) (hc : 12 ≤ h.length) (hB : BI ar I A N) (hs : STP I) (k0 : 0 ≤ o) (k1 : o < I 7) (h2 : A 1 o ≠ 2) (w : WD A o ≤ 1000) (hE : I 7 + 128 * WD A o ≤ 140384) (hE2 : I 7 + 2622 ≤ 140000) (u9 : I 49 = 0) (u15 : 0 ≤ I 15 ∧ I 15 ≤ 2000) (u50 : 0 ≤ I 50 ∧ I 50 ≤ 30) (t41 : I 41 = I 32 + I 38) (hX : BTX ar (sp_ft (sp_FB bk)) (sp_FB bk) (sp_TB bk) I A N) (st0 : I 48 = 0) : xx_cl (xt_P z) (d + 15) 134 [.ref h.length, .int (iI o)] (mh h R I A N) (fun v h1 => ∃ (b : Int) (I1 : Nat → Int) (A1 : Nat → Int → Int) (N1 : Int → Int), v = some (.int (iI b)) ∧ h1 = mh h R I1 A1 N1 ∧ (0 ≤ b ∧ b ≤ 8) ∧ ((CFL ar I A N I1 A1 N1 ∧ (((isL A 4 o → (sp_chk bk (I 47) (DM A N o)) = (bk, I1 48)) ∧ (¬ isL A 4 o → I1 48 = 0)) ∧ I1 50 = I 50)) ∨ (CTH ar o I A N I1 A1 N1 ∧ ((isL A 4 o ∧ ∃ (v : Nat) (F : ob_T), (sp_chk bk (I 47) (DM A N o)) = ((v, none, F) :: bk, I1 48) ∧ DM A1 N1 (A1 25 (I1 38 - 1)) = .var v ∧ DM A1 N1 (A1 26 (I1 38 - 1)) = F ∧ 1 ≤ (sp_ts (sp_ft (sp_FB bk)) F).1) ∧ I1 50 = I 50 ∧ TRX I1 A1 N1)))) := by
  have hP := BI_P hB
  have n0 := BI_n0 hB
  have i4 := hB.2.2.2.1
  have n2 : A 1 2 < 0 := by rw [hB.1.2.1.2 2 (by decide) (by decide)]; decide
  have p9 := hP.1
  refine cl_go rfl ?_
  show xx_go (xt_P z) (d + 14) 134 0 [some (.ref h.length), some (.int (iI o)), none, none, none, none] [] (mh h R I A N) _
  refine go_a (pc' := 1) (ls' := [some (.ref h.length), some (.int (iI o)), none, none, none, none]) (st' := [.ref h.length]) rfl rfl ?_
  refine go_a (pc' := 2) (ls' := [some (.ref h.length), some (.int (iI o)), none, none, none, none]) (st' := [.int (iI o), .ref h.length]) rfl rfl ?_
  refine go_v (m := 98) (as := [.ref h.length, .int (iI o)]) (r := []) rfl rfl rfl mh_o rfl rfl (mm_len2 z (d + 12) o h R I A N hc hP n0 k0 k1) (fun v h1 hq => ?_)
  obtain ⟨⟨n, rfl, hn⟩, rfl⟩ := hq
  have rn : -1 ≤ n ∧ n < 200000 := by
    rcases hn with ⟨hn, -⟩ | ⟨qq, hn, hl⟩
    · omega
    · have := isL_len hP o.toNat qq o (Nat.le_refl _) k0 k1 hl
      omega
  have bad : ((isL A 4 o → (sp_chk bk (I 47) (DM A N o)) = (bk, I 48)) ∧ (¬ isL A 4 o → I 48 = 0)) → xx_go (xt_P z) (d + 14) 134 22 [some (.ref h.length), some (.int (iI o)), none, none, none, none] [] (mh h R I A N) (fun v h1 => ∃ (b : Int) (I1 : Nat → Int) (A1 : Nat → Int → Int) (N1 : Int → Int), v = some (.int (iI b)) ∧ h1 = mh h R I1 A1 N1 ∧ (0 ≤ b ∧ b ≤ 8) ∧ ((CFL ar I A N I1 A1 N1 ∧ (((isL A 4 o → (sp_chk bk (I 47) (DM A N o)) = (bk, I1 48)) ∧ (¬ isL A 4 o → I1 48 = 0)) ∧ I1 50 = I 50)) ∨ (CTH ar o I A N I1 A1 N1 ∧ ((isL A 4 o ∧ ∃ (v : Nat) (F : ob_T), (sp_chk bk (I 47) (DM A N o)) = ((v, none, F) :: bk, I1 48) ∧ DM A1 N1 (A1 25 (I1 38 - 1)) = .var v ∧ DM A1 N1 (A1 26 (I1 38 - 1)) = F ∧ 1 ≤ (sp_ts (sp_ft (sp_FB bk)) F).1) ∧ I1 50 = I 50 ∧ TRX I1 A1 N1)))) := by
    intro kn
    refine go_a (pc' := 23) (ls' := [some (.ref h.length), some (.int (iI o)), none, none, none, none]) (st' := [.int (iI 2)]) rfl rfl ?_
    exact go_r rfl rfl rfl rfl rfl rfl ⟨2, I, A, N, rfl, rfl, by decide, Or.inl ⟨CFL_BI (BX_rf hB.1.1) hB hs u15 u50, kn, rfl⟩⟩
  show xx_go (xt_P z) (d + 14) 134 5 [some (.ref h.length), some (.int (iI o)), none, none, none, none] [.int (iI n)] (mh h R I A N) _
  refine go_a (pc' := 6) (ls' := [some (.ref h.length), some (.int (iI o)), none, none, none, none]) (st' := [.int (iI 4), .int (iI n)]) rfl rfl ?_
  refine mi_ne (t := 22) rfl rfl (by omega) (by omega) (by omega) (by omega) (fun e => bad ⟨fun l4 => absurd e (by rcases hn with ⟨-, hl⟩ | ⟨qq, hn, hl⟩; exact absurd l4 (hl 4); have := isL_uq n0 qq 4 o hl l4; omega), fun _ => st0⟩) (fun e => ?_)
  have hL : isL A 4 o := by
    rcases hn with ⟨hn, -⟩ | ⟨qq, hn, hl⟩
    · omega
    · rw [show qq = 4 by omega] at hl
      exact hl
  have v1 := VD_rt hP k0 k1 hL (by decide : 0 < 4)
  have v1e : VD A (o) = WD A (A 1 (o)) + VD A (rt A 1 o) := v1.1
  have v1w : 1 ≤ WD A (A 1 (o)) := v1.2.2.1
  have v1b : 0 ≤ A 1 (o) ∧ A 1 (o) < I 7 := v1.2.1
  have v2 := VD_rt hP k0 k1 hL (by decide : 1 < 4)
  have v2e : VD A (rt A 1 o) = WD A (A 1 (rt A 1 o)) + VD A (rt A 2 o) := v2.1
  have v2w : 1 ≤ WD A (A 1 (rt A 1 o)) := v2.2.2.1
  have v2b : 0 ≤ A 1 (rt A 1 o) ∧ A 1 (rt A 1 o) < I 7 := v2.2.1
  have v3 := VD_rt hP k0 k1 hL (by decide : 2 < 4)
  have v3e : VD A (rt A 2 o) = WD A (A 1 (rt A 2 o)) + VD A (rt A 3 o) := v3.1
  have v3w : 1 ≤ WD A (A 1 (rt A 2 o)) := v3.2.2.1
  have v3b : 0 ≤ A 1 (rt A 2 o) ∧ A 1 (rt A 2 o) < I 7 := v3.2.1
  have v4 := VD_rt hP k0 k1 hL (by decide : 3 < 4)
  have v4e : VD A (rt A 3 o) = WD A (A 1 (rt A 3 o)) + VD A (rt A 4 o) := v4.1
  have v4w : 1 ≤ WD A (A 1 (rt A 3 o)) := v4.2.2.1
  have v4b : 0 ≤ A 1 (rt A 3 o) ∧ A 1 (rt A 3 o) < I 7 := v4.2.1
  have sp1 : sp_p 1 (DM A N o) = DM A N (A 1 (rt A 1 o)) := L_p hB hX k0 k1 hL (by decide : 1 < 4)
  have sp2 : sp_p 2 (DM A N o) = DM A N (A 1 (rt A 2 o)) := L_p hB hX k0 k1 hL (by decide : 2 < 4)
  have sp3 : sp_p 3 (DM A N o) = DM A N (A 1 (rt A 3 o)) := L_p hB hX k0 k1 hL (by decide : 3 < 4)
  have vz : 0 ≤ VD A (rt A 4 o) := v4.2.2.2
  have wo := WD_pair hP k0 k1 hL.1
  rw [if_neg (fun c => h2 c.1)] at wo
  have r0 : 0 ≤ o ∧ o < I 7 := by
    have q := isL_rt hP 4 0 o k0 k1 hL (by decide)
    have q2 : 0 ≤ o ∧ o ≤ o := ⟨q.1, q.2.1⟩
    omega
  have pt0 : PT A (o) = 1 + PT A (A 1 (o)) + PT A (rt A 1 o) := PT_pair hP r0.1 r0.2 v1b.1
  have pb0 := PT_b hP n0 n2 v1b.1 v1b.2
  have r1 : 0 ≤ rt A 1 o ∧ rt A 1 o < I 7 := by
    have q := isL_rt hP 4 1 o k0 k1 hL (by decide)
    have q2 : 0 ≤ rt A 1 o ∧ rt A 1 o ≤ o := ⟨q.1, q.2.1⟩
    omega
  have pt1 : PT A (rt A 1 o) = 1 + PT A (A 1 (rt A 1 o)) + PT A (rt A 2 o) := PT_pair hP r1.1 r1.2 v2b.1
  have pb1 := PT_b hP n0 n2 v2b.1 v2b.2
  have r2 : 0 ≤ rt A 2 o ∧ rt A 2 o < I 7 := by
    have q := isL_rt hP 4 2 o k0 k1 hL (by decide)
    have q2 : 0 ≤ rt A 2 o ∧ rt A 2 o ≤ o := ⟨q.1, q.2.1⟩
    omega
  have pt2 : PT A (rt A 2 o) = 1 + PT A (A 1 (rt A 2 o)) + PT A (rt A 3 o) := PT_pair hP r2.1 r2.2 v3b.1
  have pb2 := PT_b hP n0 n2 v3b.1 v3b.2
  have r3 : 0 ≤ rt A 3 o ∧ rt A 3 o < I 7 := by
    have q := isL_rt hP 4 3 o k0 k1 hL (by decide)
    have q2 : 0 ≤ rt A 3 o ∧ rt A 3 o ≤ o := ⟨q.1, q.2.1⟩
    omega
  have pt3 : PT A (rt A 3 o) = 1 + PT A (A 1 (rt A 3 o)) + PT A (rt A 4 o) := PT_pair hP r3.1 r3.2 v4b.1
  have pb3 := PT_b hP n0 n2 v4b.1 v4b.2
  have pt4 : PT A (rt A 4 o) = 0 := by rw [isL_end 4 o hL]; exact PT_atom n0
  refine go_a (pc' := 10) (ls' := [some (.ref h.length), some (.int (iI o)), none, none, none, none]) (st' := [.ref h.length]) rfl rfl ?_
  refine go_a (pc' := 11) (ls' := [some (.ref h.length), some (.int (iI o)), none, none, none, none]) (st' := [.ref h.length, .ref h.length]) rfl rfl ?_
  refine go_a (pc' := 12) (ls' := [some (.ref h.length), some (.int (iI o)), none, none, none, none]) (st' := [.int (iI o), .ref h.length, .ref h.length]) rfl rfl ?_
  refine go_a (pc' := 13) (ls' := [some (.ref h.length), some (.int (iI o)), none, none, none, none]) (st' := [.int (iI 1), .int (iI o), .ref h.length, .ref h.length]) rfl rfl ?_
  refine go_v (m := 99) (as := [.ref h.length, .int (iI o), .int (iI 1)]) (r := [.ref h.length]) rfl rfl rfl mh_o rfl rfl (mm_nth z (d + 13) 1 4 o h R I A N hc hP (by decide) k0 k1 hL (by decide)) (fun v h1 hq => ?_)
  obtain ⟨rfl, rfl⟩ := hq
  show xx_go (xt_P z) (d + 14) 134 16 [some (.ref h.length), some (.int (iI o)), none, none, none, none] [.int (iI (A 1 (rt A 1 o))), .ref h.length] (mh h R I A N) _
  refine go_v (m := 100) (as := [.ref h.length, .int (iI (A 1 (rt A 1 o)))]) (r := []) rfl rfl rfl mh_o rfl rfl (mb_isNewName z (d + 12) (A 1 (rt A 1 o)) h R I A N hc hP v2b.1 v2b.2) (fun v h1 hq => ?_)
  obtain ⟨⟨b1, rfl, hb1⟩, rfl⟩ := hq
  show xx_go (xt_P z) (d + 14) 134 19 [some (.ref h.length), some (.int (iI o)), none, none, none, none] [.int (iI b1)] (mh h R I A N) _
  refine mi_ne0 (t := 24) rfl rfl (by omega) (by omega) (fun e1 => ?_) (fun e1 => bad ⟨fun _ => ?_, fun q => absurd hL q⟩)
  rotate_left
  · rw [st0]
    by_cases a2 : A 1 (A 1 (rt A 1 o)) = -2
    · obtain ⟨v, ev⟩ := ST_v (STX hB hX) v2b.1 v2b.2 a2
      have nmn : ¬ sp_mn v := fun q => by
        have := (mn_iff hB hX v2b.1 v2b.2 ev).mp q
        omega
      cases et : sp_tm (sp_ft (sp_FB bk)) (sp_p 2 (DM A N o)) with
      | none => exact chk_nt (by rw [sp1]; exact ev) et
      | some F => exact chk_no (by rw [sp1]; exact ev) et (fun q => nmn q.1)
    · exact chk_nv (fun v => by rw [sp1]; exact nv_iff hB hX v2b.1 v2b.2 a2 v)
  have nn : 16 < A 1 (rt A 1 o) := by omega
  have na : A 1 (A 1 (rt A 1 o)) = -2 := by omega
  obtain ⟨v9, ev9⟩ := ST_v (STX hB hX) v2b.1 v2b.2 na
  have mn9 := (mn_iff hB hX v2b.1 v2b.2 ev9).mpr nn
  rw [← sp1] at ev9
  clear bad
  refine go_a (pc' := 25) (ls' := [some (.ref h.length), some (.int (iI o)), none, none, none, none]) (st' := [.ref h.length]) rfl rfl ?_
  refine go_a (pc' := 26) (ls' := [some (.ref h.length), some (.int (iI o)), none, none, none, none]) (st' := [.ref h.length, .ref h.length]) rfl rfl ?_
  refine go_a (pc' := 27) (ls' := [some (.ref h.length), some (.int (iI o)), none, none, none, none]) (st' := [.int (iI o), .ref h.length, .ref h.length]) rfl rfl ?_
  refine go_a (pc' := 28) (ls' := [some (.ref h.length), some (.int (iI o)), none, none, none, none]) (st' := [.int (iI 2), .int (iI o), .ref h.length, .ref h.length]) rfl rfl ?_
  refine go_v (m := 99) (as := [.ref h.length, .int (iI o), .int (iI 2)]) (r := [.ref h.length]) rfl rfl rfl mh_o rfl rfl (mm_nth z (d + 13) 2 4 o h R I A N hc hP (by decide) k0 k1 hL (by decide)) (fun v h1 hq => ?_)
  obtain ⟨rfl, rfl⟩ := hq
  show xx_go (xt_P z) (d + 14) 134 31 [some (.ref h.length), some (.int (iI o)), none, none, none, none] [.int (iI (A 1 (rt A 2 o))), .ref h.length] (mh h R I A N) _
  refine go_v (m := 105) (as := [.ref h.length, .int (iI (A 1 (rt A 2 o)))]) (r := []) rfl rfl rfl mh_o rfl rfl (mm_termOf z (d + 6) ar (A 1 (rt A 2 o)) h R I A N hc hB.1.1 hB.1.2.1 hB.1.2.2 hB.2.1.1 hB.2.1.2 v3b.1 v3b.2 (by omega) (by omega) (by omega) (by omega) (by omega)) (fun v h1 hq => ?_)
  obtain ⟨t, I1, A1, rfl, rfl, X, Z, ⟨j4, j6⟩, c7, ht⟩ := hq
  show xx_go (xt_P z) (d + 14) 134 34 [some (.ref h.length), some (.int (iI o)), none, none, none, none] [.int (iI t)] (mh h R I1 A1 N) _
  have e49 : I1 49 = I 49 := X.2.2.2.1 49 (by decide) (by unfold FB; omega)
  have B1 : BI ar I1 A1 N := BI_QX hB (BX_w2 FB_FQ GT_GQ X) Z (by omega) (by omega) (by rw [e49]; exact hB.2.2.2.2)
  have e47 : I1 47 = I 47 := X.2.2.2.1 47 (by decide) (by unfold FB; omega)
  have e48 : I1 48 = I 48 := X.2.2.2.1 48 (by decide) (by unfold FB; omega)
  have e15 : I1 15 = I 15 := X.2.2.2.1 15 (by decide) (by unfold FB; omega)
  have e50 : I1 50 = I 50 := X.2.2.2.1 50 (by decide) (by unfold FB; omega)
  have e38 : I1 38 = I 38 := X.2.2.2.1 38 (by decide) (by unfold FB; omega)
  have e41 : I1 41 = I 41 := X.2.2.2.1 41 (by decide) (by unfold FB; omega)
  have e32 : I1 32 = I 32 := X.2.2.2.1 32 (by decide) (by unfold FB; omega)
  have e44 : I1 44 = I 44 := X.2.2.2.1 44 (by decide) (by unfold FB; omega)
  have T1 : BTX ar (sp_ft (sp_FB bk)) (sp_FB bk) (sp_TB bk) I1 A1 N := BTX_BX hB hX X FB_FQ GT_GQ
  have X1 : BX FDD GT2 I A N I1 A1 N := BX_w2 (fun j q => Or.inl (Or.inl (Or.inl (FB_FQ j q)))) (fun a q => Or.inl (GT_GQ a q)) X
  have P1 := BI_P B1
  have L1 := isL_extB hP X 4 o k0 k1 hL
  have S1 : STP I1 := by unfold STP; rw [e47, e48]; exact hs
  have C1 : CFL ar I A N I1 A1 N := CFL_BI X1 B1 S1 (by rw [e15]; exact u15) (by rw [e50]; exact u50)
  have x7 := X.2.1
  have tr : -1 ≤ t ∧ t < I1 7 := by
    rcases ht with h | h
    · omega
    · omega
  have p91 := P1.1
  have ds := B1.2.2.1.1
  refine go_a (pc' := 35) (ls' := [some (.ref h.length), some (.int (iI o)), some (.int (iI t)), none, none, none]) (st' := []) rfl rfl ?_
  refine go_a (pc' := 36) (ls' := [some (.ref h.length), some (.int (iI o)), some (.int (iI t)), none, none, none]) (st' := [.int (iI t)]) rfl rfl ?_
  refine go_a (pc' := 37) (ls' := [some (.ref h.length), some (.int (iI o)), some (.int (iI t)), none, none, none]) (st' := [.int (iI ((-1))), .int (iI t)]) rfl rfl ?_
  refine mi_ne (t := 42) rfl rfl (by omega) (by omega) (by omega) (by omega) (fun e2 => ?_) (fun e2 => ?_)
  · have tn : sp_tm (sp_ft (sp_FB bk)) (sp_p 2 (DM A N o)) = some (DM A1 N t) := by
      rw [sp2]
      rcases ht with h | h
      · exact absurd h.1 e2
      · rw [← BTX_D hB hX X FB_FQ GT_GQ v3b.1 v3b.2]
        have x79 := X.2.1
        exact NFT_tm B1.1.1 B1.1.2.1 T1.1 T1.2.1 v3b.1 (by omega) h.1.1 h.1.2 h.2.2.2.2.2 (by rw [TS_BX hP X v3b.1 v3b.2]; omega) (by rw [TS_BX hP X v3b.1 v3b.2]; omega)
    obtain ⟨tF, etF⟩ : ∃ q : ob_T, DM A1 N t = q := ⟨_, rfl⟩
    rw [etF] at tn
    have ht : (0 ≤ t ∧ t < I1 7) ∧ 1 ≤ TZ A1 ar t ∧ TZ A1 ar t ≤ 120 := by
      rcases ht with h | h
      · exact absurd h.1 e2
      · exact ⟨h.1, h.2.1, h.2.2.1⟩
    have rx1 : A1 1 (rt A1 1 o) = A 1 (rt A 1 o) := by
      rw [rt_extB hP X 4 1 o k0 k1 hL (by decide), (X.2.2.1 (rt A 1 o) r1.1 r1.2).1]
    have rx2 : A1 1 (rt A1 2 o) = A 1 (rt A 2 o) := by
      rw [rt_extB hP X 4 2 o k0 k1 hL (by decide), (X.2.2.1 (rt A 2 o) r2.1 r2.2).1]
    have rx3 : A1 1 (rt A1 3 o) = A 1 (rt A 3 o) := by
      rw [rt_extB hP X 4 3 o k0 k1 hL (by decide), (X.2.2.1 (rt A 3 o) r3.1 r3.2).1]
    refine go_a (pc' := 43) (ls' := [some (.ref h.length), some (.int (iI o)), some (.int (iI t)), none, none, none]) (st' := [.ref h.length]) rfl rfl ?_
    refine go_a (pc' := 44) (ls' := [some (.ref h.length), some (.int (iI o)), some (.int (iI t)), none, none, none]) (st' := [.ref h.length, .ref h.length]) rfl rfl ?_
    refine go_a (pc' := 45) (ls' := [some (.ref h.length), some (.int (iI o)), some (.int (iI t)), none, none, none]) (st' := [.int (iI o), .ref h.length, .ref h.length]) rfl rfl ?_
    refine go_a (pc' := 46) (ls' := [some (.ref h.length), some (.int (iI o)), some (.int (iI t)), none, none, none]) (st' := [.int (iI 1), .int (iI o), .ref h.length, .ref h.length]) rfl rfl ?_
    refine go_v (m := 99) (as := [.ref h.length, .int (iI o), .int (iI 1)]) (r := [.ref h.length]) rfl rfl rfl mh_o rfl rfl (mm_nth z (d + 13) 1 4 o h R I1 A1 N hc P1 (by decide) k0 (by omega) L1 (by decide)) (fun v h1 hq => ?_)
    obtain ⟨rfl, rfl⟩ := hq
    show xx_go (xt_P z) (d + 14) 134 49 [some (.ref h.length), some (.int (iI o)), some (.int (iI t)), none, none, none] [.int (iI (A1 1 (rt A1 1 o))), .ref h.length] (mh h R I1 A1 N) _
    refine go_v (m := 135) (as := [.ref h.length, .int (iI (A1 1 (rt A1 1 o)))]) (r := []) rfl rfl rfl mh_o rfl rfl (mm_theoremOfF z (d + 13) (A1 1 (rt A1 1 o)) h R I1 A1 N hc (by omega) (by omega) ds.2.1 ds.2.2 (fun e a b => (B1.2.2.1.2.2 e a b).1)) (fun v h1 hq => ?_)
    obtain ⟨⟨q3, rfl, hq3⟩, rfl⟩ := hq
    show xx_go (xt_P z) (d + 14) 134 52 [some (.ref h.length), some (.int (iI o)), some (.int (iI t)), none, none, none] [.int (iI q3)] (mh h R I1 A1 N) _
    refine go_a (pc' := 53) (ls' := [some (.ref h.length), some (.int (iI o)), some (.int (iI t)), none, none, none]) (st' := [.int (iI ((-1))), .int (iI q3)]) rfl rfl ?_
    refine mi_eq (t := 58) rfl rfl (by omega) (by omega) (by omega) (by omega) (fun e3 => ?_) (fun e3 => ?_)
    · refine go_a (pc' := 59) (ls' := [some (.ref h.length), some (.int (iI o)), some (.int (iI t)), none, none, none]) (st' := [.ref h.length]) rfl rfl ?_
      refine go_get (v := .int (iI (I1 38))) rfl mh_o rfl rfl ?_
      refine go_a (pc' := 64) (ls' := [some (.ref h.length), some (.int (iI o)), some (.int (iI t)), none, none, none]) (st' := [.int (iI 60), .int (iI (I1 38))]) rfl rfl ?_
      refine mi_ne (t := 70) rfl rfl (by omega) (by omega) (by omega) (by omega) (fun e4 => ?_) (fun e4 => ?_)
      · have cc9 : sp_mn v9 ∧ (∀ p ∈ sp_TB bk, p.1 ≠ v9) ∧ (sp_TB bk).length < 60 := by
          have l9 := T1.2.2.2.1.2
          refine ⟨mn9, (tbn_iff B1 T1 (k := A 1 (rt A 1 o)) v2b.1 (by omega) (by rw [BTX_D hB hX X FB_FQ GT_GQ v2b.1 v2b.2, ← sp1]; exact ev9)).mpr (fun e a b => ?_), by omega⟩
          rcases hq3 with h | h
          · rw [← rx1]
            exact h.2 e a b
          · omega
        refine go_a (pc' := 71) (ls' := [some (.ref h.length), some (.int (iI o)), some (.int (iI t)), none, none, none]) (st' := [.ref h.length]) rfl rfl ?_
        refine go_get (v := .int (iI (I1 7))) rfl mh_o rfl rfl ?_
        refine go_a (pc' := 75) (ls' := [some (.ref h.length), some (.int (iI o)), some (.int (iI t)), some (.int (iI (I1 7))), none, none]) (st' := []) rfl rfl ?_
        refine go_a (pc' := 76) (ls' := [some (.ref h.length), some (.int (iI o)), some (.int (iI t)), some (.int (iI (I1 7))), none, none]) (st' := [.ref h.length]) rfl rfl ?_
        refine go_a (pc' := 77) (ls' := [some (.ref h.length), some (.int (iI o)), some (.int (iI t)), some (.int (iI (I1 7))), none, none]) (st' := [.ref h.length, .ref h.length]) rfl rfl ?_
        refine go_a (pc' := 78) (ls' := [some (.ref h.length), some (.int (iI o)), some (.int (iI t)), some (.int (iI (I1 7))), none, none]) (st' := [.int (iI o), .ref h.length, .ref h.length]) rfl rfl ?_
        refine go_a (pc' := 79) (ls' := [some (.ref h.length), some (.int (iI o)), some (.int (iI t)), some (.int (iI (I1 7))), none, none]) (st' := [.int (iI 3), .int (iI o), .ref h.length, .ref h.length]) rfl rfl ?_
        refine go_v (m := 99) (as := [.ref h.length, .int (iI o), .int (iI 3)]) (r := [.ref h.length]) rfl rfl rfl mh_o rfl rfl (mm_nth z (d + 13) 3 4 o h R I1 A1 N hc P1 (by decide) k0 (by omega) L1 (by decide)) (fun v h1 hq => ?_)
        obtain ⟨rfl, rfl⟩ := hq
        rw [rx3]
        show xx_go (xt_P z) (d + 14) 134 82 [some (.ref h.length), some (.int (iI o)), some (.int (iI t)), some (.int (iI (I1 7))), none, none] [.int (iI (A 1 (rt A 3 o))), .ref h.length] (mh h R I1 A1 N) _
        have wp : WD A1 (A 1 (rt A 3 o)) = WD A (A 1 (rt A 3 o)) := (WD_BX hP X v4b.1 v4b.2).1
        refine go_v (m := 136) (as := [.ref h.length, .int (iI (A 1 (rt A 3 o)))]) (r := []) rfl rfl rfl mh_o rfl rfl (mm_proves z d ar (sp_ft (sp_FB bk)) (sp_FB bk) (sp_TB bk) (A 1 (rt A 3 o)) h R I1 A1 N hc B1 S1 v4b.1 (by omega) (by omega) (by omega) (fun _ => by omega) (by omega) (by rw [e15]; exact u15) T1) (fun v h1 hq => ?_)
        obtain ⟨b, I2, A2, N2, rfl, rfl, Y, B2, S2, u2, hb⟩ := hq
        show xx_go (xt_P z) (d + 14) 134 85 [some (.ref h.length), some (.int (iI o)), some (.int (iI t)), some (.int (iI (I1 7))), none, none] [.int (iI b)] (mh h R I2 A2 N2) _
        rw [BTX_D hB hX X FB_FQ GT_GQ v4b.1 v4b.2, e47, e48, st0, ← sp3] at hb
        have rb : 0 ≤ b ∧ b ≤ 8 := by omega
        have Y1 : BX FDD GT2 I A N I2 A2 N2 := BX_tr X1 (BX_w2 (fun j q => Or.inl (Or.inl q)) (fun a q => q) Y)
        have f50 : I2 50 = I1 50 := Y.2.2.2.1 50 (by decide) (by unfold FT2 FQ; omega)
        have f38 : I2 38 = I1 38 := Y.2.2.2.1 38 (by decide) (by unfold FT2 FQ; omega)
        have f41 : I2 41 = I1 41 := Y.2.2.2.1 41 (by decide) (by unfold FT2 FQ; omega)
        have f32 : I2 32 = I1 32 := Y.2.2.2.1 32 (by decide) (by unfold FT2 FQ; omega)
        have f44 : I2 44 = I1 44 := Y.2.2.2.1 44 (by decide) (by unfold FT2 FQ; omega)
        have f10 : I2 10 = I 10 := by
          rw [Y.2.2.2.1 10 (by decide) (by unfold FT2 FQ; omega)]
          exact X.2.2.2.1 10 (by decide) (by unfold FB; omega)
        have g50 : 0 ≤ I2 50 ∧ I2 50 ≤ 30 := by omega
        refine go_a (pc' := 87) (ls' := [some (.ref h.length), some (.int (iI o)), some (.int (iI t)), some (.int (iI (I1 7))), some (.int (iI b)), none]) (st' := []) rfl rfl ?_
        refine go_a (pc' := 89) (ls' := [some (.ref h.length), some (.int (iI o)), some (.int (iI t)), some (.int (iI (I1 7))), some (.int (iI b)), none]) (st' := [.int (iI b)]) rfl rfl ?_
        refine mi_eq0 (t := 95) rfl rfl (by omega) (by omega) (fun e5 => ?_) (fun e5 => ?_)
        · have sp9 : sp_chk bk (I 47) (DM A N o) = (ifc (∀ t ∈ CLD A2 N2 0, t = tF) ((v9, none, tF) :: bk) bk, I2 48) := by
            rcases hb with hb | hb
            · exact chk_s ev9 tn cc9 hb.2.2.2.2
            · omega
          have hb : I2 49 = 0 ∧ CLA ar I2 A2 0 ∧ I2 7 + 502 ≤ I1 7 + 128 * WD A1 (A 1 (rt A 3 o)) := by
            rcases hb with hb | hb
            · exact ⟨hb.2.1, hb.2.2.1, hb.2.2.2.1⟩
            · omega
          have T2 : TRX I2 A2 N2 := TRX_BX B1.1.1 B1.1.2.1 T1.1 Y (by unfold FT2 FQ; omega) (by unfold GT2 GQ; omega) (by unfold GT2 GQ; omega)
          have etF2 : DM A2 N2 t = tF := (DM_BX B1.1.1 T1.1 Y (by unfold FT2 FQ; omega) (by unfold GT2 GQ; omega) (by unfold GT2 GQ; omega) ht.1.1 ht.1.2).trans etF
          have y7 := Y.2.1
          refine go_a (pc' := 96) (ls' := [some (.ref h.length), some (.int (iI o)), some (.int (iI t)), some (.int (iI (I1 7))), some (.int (iI b)), none]) (st' := [.int (iI 0)]) rfl rfl ?_
          refine go_a (pc' := 98) (ls' := [some (.ref h.length), some (.int (iI o)), some (.int (iI t)), some (.int (iI (I1 7))), some (.int (iI b)), some (.int (iI 0))]) (st' := []) rfl rfl ?_
          refine mm_check_loop z (d + 7) ar o t (I1 7) b h R I2 A2 N2 hc B2 hb.2.1 (by omega) ht.1.1 (by omega) _ (fun I3 A3 X3 B3 u3 s3 ne9 => ?_) (fun j all9 => ?_) _ 0 (Nat.le_refl _) (Int.le_refl _) (by decide) (fun q a b => absurd b (by omega))
          · have X4 : BX FDD GT2 I A N I3 A3 N2 := BX_tr Y1 (BX_w2 (fun j q => Or.inl (Or.inl q)) (fun a q => q) X3)
            have e503 : I3 50 = I2 50 := X3.2.2.2.1 50 (by decide) (by unfold FT2 FQ; omega)
            have nall : ¬ ∀ t ∈ CLD A2 N2 0, t = tF := fun q => by
              obtain ⟨j, hj, nj⟩ := ne9
              have cj := (hb.2.1.2.1 j hj.1 hj.2).1
              rw [show 30 * 0 + j = j by omega] at cj
              have m := q (DM A2 N2 (A2 50 j)) (List.mem_map.mpr ⟨A2 50 j, ixl_mem.mpr ⟨j, hj.1, hj.2, by show A2 50 (30 * 0 + j) = _; rw [show 30 * 0 + j = j by omega]⟩, rfl⟩)
              exact nj (DM_inj ⟨B2.1.1, T2.1⟩ cj.1 cj.2 ht.1.1 (by omega) (m.trans etF2.symm))
            rw [ifc_neg nall] at sp9
            exact ⟨7, I3, A3, N2, rfl, rfl, by decide, Or.inl ⟨CFL_BI X4 B3 (by unfold STP; rw [s3.1, s3.2]; exact S2) u3 (by rw [X3.2.2.2.1 50 (by decide) (by unfold FT2 FQ; omega)]; exact g50), ⟨fun _ => by rw [s3.2]; exact sp9, fun q => absurd hL q⟩, by omega⟩⟩
          · have all : ∀ t ∈ CLD A2 N2 0, t = tF := fun y hy => by
              obtain ⟨q, hq, eq⟩ := List.mem_map.mp hy
              obtain ⟨j, j0, j1, ej⟩ := ixl_mem.mp hq
              have ej : A2 50 (30 * 0 + j) = q := ej
              rw [show 30 * 0 + j = j by omega, all9 j j0 j1] at ej
              rw [← eq, ← ej]
              exact etF2
            rw [ifc_pos all] at sp9
            refine go_a (pc' := 137) (ls' := [some (.ref h.length), some (.int (iI o)), some (.int (iI t)), some (.int (iI (I1 7))), some (.int (iI b)), some (.int (iI j))]) (st' := [.ref h.length]) rfl rfl ?_
            refine go_a (pc' := 138) (ls' := [some (.ref h.length), some (.int (iI o)), some (.int (iI t)), some (.int (iI (I1 7))), some (.int (iI b)), some (.int (iI j))]) (st' := [.int (iI (I1 7)), .ref h.length]) rfl rfl ?_
            refine go_v (m := 73) (as := [.ref h.length, .int (iI (I1 7))]) (r := []) rfl rfl rfl mh_o rfl rfl (mm_forget z (d + 11) (I1 7) h R I2 A2 N2 hc (by omega) (by omega) B2.1.1) (fun v h1 hq => ?_)
            obtain ⟨rfl, I3, A3, rfl, S3, e7, g10, ef, ea⟩ := hq
            show xx_go (xt_P z) (d + 14) 134 141 [some (.ref h.length), some (.int (iI o)), some (.int (iI t)), some (.int (iI (I1 7))), some (.int (iI b)), some (.int (iI j))] [] (mh h R I3 A3 N2) _
            have X3 := BX_forget Y S3 e7 ef ea
            have Z3 : SZI ar I3 A3 := SZI_forget B2.1.2.2 (by omega) ea
            have h49 : I3 49 = I2 49 := ef 49 (by decide) (by decide)
            have h54 : I3 54 = I2 54 := ef 54 (by decide) (by decide)
            have h56 : I3 56 = I2 56 := ef 56 (by decide) (by decide)
            have h50 : I3 50 = I2 50 := ef 50 (by decide) (by decide)
            have h47 : I3 47 = I2 47 := ef 47 (by decide) (by decide)
            have h48 : I3 48 = I2 48 := ef 48 (by decide) (by decide)
            have h15 : I3 15 = I2 15 := ef 15 (by decide) (by decide)
            have h38 : I3 38 = I2 38 := ef 38 (by decide) (by decide)
            have h41 : I3 41 = I2 41 := ef 41 (by decide) (by decide)
            have h44 : I3 44 = I2 44 := ef 44 (by decide) (by decide)
            have h46 : I3 46 = I2 46 := ef 46 (by decide) (by decide)
            have B3 : BI ar I3 A3 N2 := BI_BX B1 X3 Z3 (by unfold FT2 FQ; omega) (by unfold FT2 FQ; omega) (by unfold FT2 FQ; omega) (by unfold FT2 FQ; omega) (fun a p q => by unfold GT2 GQ; omega) (by rw [h54]; exact B2.2.2.2.1.1) (by rw [h56]; exact B2.2.2.2.1.2) (by rw [h49]; exact B2.2.2.2.2)
            have X13 : BX FDD GT2 I A N I3 A3 N2 := BX_tr X1 (BX_w2 (fun j q => by
              rcases q with q | q
              · exact Or.inl (Or.inl q)
              · exact Or.inr (Or.inl q)) (fun a q => q) X3)
            have C3 : CFL ar I A N I3 A3 N2 := CFL_BI X13 B3 (by unfold STP; rw [h47, h48]; exact S2) (by rw [h15]; exact u2) (by rw [h50]; exact g50)
            have P3 := BI_P B3
            have L3 := isL_extB P1 X3 4 o k0 (by omega) L1
            have TT : TZ A3 ar t = TZ A1 ar t := (TZ_BX P1 X3 ht.1.1 ht.1.2).1 ht.2.1
            have ds3 := B3.2.2.1.1
            have rx : A3 1 (rt A3 1 o) = A 1 (rt A 1 o) := by
              rw [rt_extB P1 X3 4 1 o k0 (by omega) L1 (by decide), rt_extB hP X 4 1 o k0 k1 hL (by decide), (X3.2.2.1 (rt A 1 o) r1.1 (by omega)).1, (X.2.2.1 (rt A 1 o) r1.1 r1.2).1]
            refine go_a (pc' := 142) (ls' := [some (.ref h.length), some (.int (iI o)), some (.int (iI t)), some (.int (iI (I1 7))), some (.int (iI b)), some (.int (iI j))]) (st' := [.ref h.length]) rfl rfl ?_
            refine go_get rfl mh_o rfl rfl ?_
            refine go_a (pc' := 146) (ls' := [some (.ref h.length), some (.int (iI o)), some (.int (iI t)), some (.int (iI (I1 7))), some (.int (iI b)), some (.int (iI j))]) (st' := [.ref h.length, .ref (h.length + 25)]) rfl rfl ?_
            refine go_get (v := .int (iI (I3 38))) rfl mh_o rfl rfl ?_
            refine go_a (pc' := 150) (ls' := [some (.ref h.length), some (.int (iI o)), some (.int (iI t)), some (.int (iI (I1 7))), some (.int (iI b)), some (.int (iI j))]) (st' := [.ref h.length, .int (iI (I3 38)), .ref (h.length + 25)]) rfl rfl ?_
            refine go_a (pc' := 151) (ls' := [some (.ref h.length), some (.int (iI o)), some (.int (iI t)), some (.int (iI (I1 7))), some (.int (iI b)), some (.int (iI j))]) (st' := [.int (iI o), .ref h.length, .int (iI (I3 38)), .ref (h.length + 25)]) rfl rfl ?_
            refine go_a (pc' := 152) (ls' := [some (.ref h.length), some (.int (iI o)), some (.int (iI t)), some (.int (iI (I1 7))), some (.int (iI b)), some (.int (iI j))]) (st' := [.int (iI 1), .int (iI o), .ref h.length, .int (iI (I3 38)), .ref (h.length + 25)]) rfl rfl ?_
            refine go_v (m := 99) (as := [.ref h.length, .int (iI o), .int (iI 1)]) (r := [.int (iI (I3 38)), .ref (h.length + 25)]) rfl rfl rfl mh_o rfl rfl (mm_nth z (d + 13) 1 4 o h R I3 A3 N2 hc P3 (by decide) k0 (by omega) L3 (by decide)) (fun v h1 hq => ?_)
            obtain ⟨rfl, rfl⟩ := hq
            rw [rx]
            show xx_go (xt_P z) (d + 14) 134 155 [some (.ref h.length), some (.int (iI o)), some (.int (iI t)), some (.int (iI (I1 7))), some (.int (iI b)), some (.int (iI j))] [.int (iI (A 1 (rt A 1 o))), .int (iI (I3 38)), .ref (h.length + 25)] (mh h R I3 A3 N2) _
            refine mi_ist rfl mh_a25 (show 12 ≤ _ by omega) (by omega) (by omega) (by decide) ?_
            rw [mh_w25 (by omega)]
            refine go_a (pc' := 157) (ls' := [some (.ref h.length), some (.int (iI o)), some (.int (iI t)), some (.int (iI (I1 7))), some (.int (iI b)), some (.int (iI j))]) (st' := [.ref h.length]) rfl rfl ?_
            refine go_get rfl mh_o rfl rfl ?_
            refine go_a (pc' := 161) (ls' := [some (.ref h.length), some (.int (iI o)), some (.int (iI t)), some (.int (iI (I1 7))), some (.int (iI b)), some (.int (iI j))]) (st' := [.ref h.length, .ref (h.length + 26)]) rfl rfl ?_
            refine go_get (v := .int (iI (I3 38))) rfl mh_o rfl rfl ?_
            refine go_a (pc' := 165) (ls' := [some (.ref h.length), some (.int (iI o)), some (.int (iI t)), some (.int (iI (I1 7))), some (.int (iI b)), some (.int (iI j))]) (st' := [.int (iI t), .int (iI (I3 38)), .ref (h.length + 26)]) rfl rfl ?_
            refine mi_ist rfl mh_a26 (show 12 ≤ _ by omega) (by omega) (by omega) (by decide) ?_
            rw [mh_w26 (by omega)]
            refine go_a (pc' := 167) (ls' := [some (.ref h.length), some (.int (iI o)), some (.int (iI t)), some (.int (iI (I1 7))), some (.int (iI b)), some (.int (iI j))]) (st' := [.ref h.length]) rfl rfl ?_
            refine go_a (pc' := 168) (ls' := [some (.ref h.length), some (.int (iI o)), some (.int (iI t)), some (.int (iI (I1 7))), some (.int (iI b)), some (.int (iI j))]) (st' := [.ref h.length, .ref h.length]) rfl rfl ?_
            refine go_get (v := .int (iI (I3 38))) rfl mh_o rfl rfl ?_
            refine go_a (pc' := 172) (ls' := [some (.ref h.length), some (.int (iI o)), some (.int (iI t)), some (.int (iI (I1 7))), some (.int (iI b)), some (.int (iI j))]) (st' := [.int (iI 1), .int (iI (I3 38)), .ref h.length]) rfl rfl ?_
            refine mi_add rfl ?_
            refine go_put (j := 38) rfl mh_o rfl rfl (show 12 ≤ _ from hc) (show 38 < 86 by decide) rfl rfl ?_
            rw [mh_p38]
            refine go_a (pc' := 177) (ls' := [some (.ref h.length), some (.int (iI o)), some (.int (iI t)), some (.int (iI (I1 7))), some (.int (iI b)), some (.int (iI j))]) (st' := [.ref h.length]) rfl rfl ?_
            refine go_a (pc' := 178) (ls' := [some (.ref h.length), some (.int (iI o)), some (.int (iI t)), some (.int (iI (I1 7))), some (.int (iI b)), some (.int (iI j))]) (st' := [.int (iI 0), .ref h.length]) rfl rfl ?_
            refine go_v (m := 133) (as := [.ref h.length, .int (iI 0)]) (r := []) rfl rfl rfl mh_o rfl rfl (mm_take z (d + 13) 0 h R (su I3 38 (I3 38 + 1)) (sa (sa A3 25 (I3 38) (A 1 (rt A 1 o))) 26 (I3 38) t) N2 hc (Or.inl rfl) (show 0 ≤ I3 41 by omega) (show I3 41 < 100 by omega)) (fun v h1 hq => ?_)
            obtain ⟨rfl, rfl⟩ := hq
            show xx_go (xt_P z) (d + 14) 134 181 [some (.ref h.length), some (.int (iI o)), some (.int (iI t)), some (.int (iI (I1 7))), some (.int (iI b)), some (.int (iI j))] [] (mh h R (su (su I3 38 (I3 38 + 1)) 41 (I3 41 + 1)) (sa (sa (sa (sa A3 25 (I3 38) (A 1 (rt A 1 o))) 26 (I3 38) t) 27 (I3 41) 0) 28 (I3 41) (I3 46)) N2) _
            refine go_a (pc' := 182) (ls' := [some (.ref h.length), some (.int (iI o)), some (.int (iI t)), some (.int (iI (I1 7))), some (.int (iI b)), some (.int (iI j))]) (st' := [.int (iI 0)]) rfl rfl ?_
            have d33 : DM (sa (sa (sa (sa A3 25 (I3 38) (A 1 (rt A 1 o))) 26 (I3 38) t) 27 (I3 41) 0) 28 (I3 41) (I3 46)) N2 = DM A2 N2 := DM_12 (A := A2) (A1 := sa (sa (sa (sa A3 25 (I3 38) (A 1 (rt A 1 o))) 26 (I3 38) t) 27 (I3 41) 0) 28 (I3 41) (I3 46)) (ea 1 (by decide)) (ea 2 (by decide)) (ea 8 (by decide)) (ea 9 (by decide))
            have en2 : DM A2 N2 (A 1 (rt A 1 o)) = .var v9 := by
              rw [DM_BX B1.1.1 T1.1 Y (by unfold FT2 FQ; omega) (by unfold GT2 GQ; omega) (by unfold GT2 GQ; omega) v2b.1 (by omega), BTX_D hB hX X FB_FQ GT_GQ v2b.1 v2b.2, ← sp1]
              exact ev9
            have kt : (isL A 4 o ∧ ∃ (v : Nat) (F : ob_T), sp_chk bk (I 47) (DM A N o) = ((v, none, F) :: bk, I3 48) ∧ DM (sa (sa (sa (sa A3 25 (I3 38) (A 1 (rt A 1 o))) 26 (I3 38) t) 27 (I3 41) 0) 28 (I3 41) (I3 46)) N2 (sf (A3 25) (I3 38) (A 1 (rt A 1 o)) (I3 38 + 1 - 1)) = .var v ∧ DM (sa (sa (sa (sa A3 25 (I3 38) (A 1 (rt A 1 o))) 26 (I3 38) t) 27 (I3 41) 0) 28 (I3 41) (I3 46)) N2 (sf (A3 26) (I3 38) t (I3 38 + 1 - 1)) = F ∧ 1 ≤ (sp_ts (sp_ft (sp_FB bk)) F).1) ∧ I3 50 = I 50 ∧ TRX I3 A3 N2 := by
              rw [show I3 38 + 1 - 1 = I3 38 by omega, sf_self, sf_self, d33, h48]
              exact ⟨⟨hL, v9, tF, sp9, en2, etF2, tm_ts tn⟩, by omega, (TRX_px (I1 := I3) (A1 := A3) (N1 := N2) B2.1.1 T2 (by omega) (by have := hB.1.2.1.1; omega) (fun k _ _ => ⟨congrFun (ea 1 (by decide)) k, congrFun (ea 2 (by decide)) k, rfl⟩) (ea 8 (by decide)) (ea 9 (by decide))).1⟩
            exact go_r rfl rfl rfl rfl rfl rfl ⟨0, _, _, N2, rfl, rfl, by decide, Or.inr ⟨⟨I3, A3, A 1 (rt A 1 o), t, rfl, rfl, C3, B3, by omega, by omega, by omega, by omega, ⟨nn, v2b.2⟩, by omega, by rw [TT]; exact ht.2.1, by rw [TT]; exact ht.2.2⟩, kt⟩⟩
        · refine go_a (pc' := 94) (ls' := [some (.ref h.length), some (.int (iI o)), some (.int (iI t)), some (.int (iI (I1 7))), some (.int (iI b)), none]) (st' := [.int (iI b)]) rfl rfl ?_
          have sp9 : sp_chk bk (I 47) (DM A N o) = (bk, I2 48) := by
            rcases hb with hb | hb
            · exact absurd hb.1 e5
            · rw [← hb.2.2]
              exact chk_f ev9 tn cc9 hb.2.1
          exact go_r rfl rfl rfl rfl rfl rfl ⟨b, I2, A2, N2, rfl, rfl, rb, Or.inl ⟨CFL_BI Y1 B2 S2 u2 g50, ⟨fun _ => sp9, fun q => absurd hL q⟩, by omega⟩⟩
      · refine go_a (pc' := 69) (ls' := [some (.ref h.length), some (.int (iI o)), some (.int (iI t)), none, none, none]) (st' := [.int (iI 8)]) rfl rfl ?_
        have nc : ¬ (sp_TB bk).length < 60 := by
          have := T1.2.2.2.1.2
          omega
        exact go_r rfl rfl rfl rfl rfl rfl ⟨8, I1, A1, N, rfl, rfl, by decide, Or.inl ⟨C1, ⟨fun _ => by rw [e48, st0]; exact chk_no ev9 tn (fun q => nc q.2.2), fun q => absurd hL q⟩, e50⟩⟩
    · refine go_a (pc' := 57) (ls' := [some (.ref h.length), some (.int (iI o)), some (.int (iI t)), none, none, none]) (st' := [.int (iI 3)]) rfl rfl ?_
      have nc : ¬ (∀ p ∈ sp_TB bk, p.1 ≠ v9) := fun q => by
        have q2 := (tbn_iff B1 T1 (k := A 1 (rt A 1 o)) v2b.1 (by omega) (by rw [BTX_D hB hX X FB_FQ GT_GQ v2b.1 v2b.2, ← sp1]; exact ev9)).mp q
        rcases hq3 with h | h
        · omega
        · rw [rx1] at h
          exact q2 q3 h.1 h.2.1 h.2.2.1
      exact go_r rfl rfl rfl rfl rfl rfl ⟨3, I1, A1, N, rfl, rfl, by decide, Or.inl ⟨C1, ⟨fun _ => by rw [e48, st0]; exact chk_no ev9 tn (fun q => nc q.2.1), fun q => absurd hL q⟩, e50⟩⟩
  · refine go_a (pc' := 41) (ls' := [some (.ref h.length), some (.int (iI o)), some (.int (iI t)), none, none, none]) (st' := [.int (iI 2)]) rfl rfl ?_
    have tn : sp_tm (sp_ft (sp_FB bk)) (DM A N (A 1 (rt A 2 o))) = none := by
      rcases ht with h | h
      · exact no_tm hB.1.1 hB.1.2.1 hX.1 hX.2.1 v3b.1 v3b.2 h.2
      · omega
    exact go_r rfl rfl rfl rfl rfl rfl ⟨2, I1, A1, N, rfl, rfl, by decide, Or.inl ⟨C1, ⟨fun _ => by rw [e48, st0]; exact chk_nt ev9 (by rw [sp2]; exact tn), fun q => absurd hL q⟩, e50⟩⟩

