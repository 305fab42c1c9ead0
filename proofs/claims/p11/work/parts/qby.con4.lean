section EQP
variable {ar : Int → Int} {ft : Nat → Int} {Fb : List (Nat × List Nat × ob_T)} {Tb : List (Nat × ob_T)} {I : Nat → Int} {A : Nat → Int → Int} {N : Int → Int} {c : Int}
theorem CLD_hd (n1 : 0 < A 51 c) : (CLD A N c).head? = some (DM A N (A 50 (30 * c))) := by
  obtain ⟨k, ek⟩ : ∃ k : Nat, (A 51 c).toNat = k + 1 := ⟨(A 51 c).toNat - 1, by omega⟩
  unfold CLD ixl
  rw [ek, List.range_succ_eq_map]
  show some (DM A N (A 50 (30 * c + ((0 : Nat) : Int)))) = _
  rw [show 30 * c + ((0 : Nat) : Int) = 30 * c by omega]
theorem eqp_yes (hB : BI ar I A N) (h : BTX ar ft Fb Tb I A N) (hC : CLA ar I A c) (n1 : 0 < A 51 c) (e4 : A 1 (A 50 (30 * c)) = 4) : (CLD A N c).head? = some (DM A N (A 50 (30 * c))) ∧ sp_eqp (DM A N (A 50 (30 * c))) = some (DM A N (A 1 (rt A 1 (A 50 (30 * c)))), DM A N (A 1 (rt A 2 (A 50 (30 * c))))) := by
  refine ⟨CLD_hd n1, ?_⟩
  have cz := hC.2.1 0 (Int.le_refl _) n1
  rw [Int.add_zero] at cz
  have eq := EQ_sides hB cz.1.1 cz.1.2 e4 cz.2.1
  rw [DM_li hB.1.1 h.1 3 _ cz.1.1 cz.1.2 eq.1]
  show sp_eqp (.add (DM A N (A 1 (rt A 0 (A 50 (30 * c))))) (.add (DM A N (A 1 (rt A 1 (A 50 (30 * c))))) (.add (DM A N (A 1 (rt A 2 (A 50 (30 * c))))) (.var 31361)))) = _
  rw [show A 1 (rt A 0 (A 50 (30 * c))) = 4 from e4, show DM A N 4 = .var 26209844 from h.1.2 4 (by decide)]
  show (if (26209844 : Nat) = 26209844 then some (DM A N (A 1 (rt A 1 (A 50 (30 * c)))), DM A N (A 1 (rt A 2 (A 50 (30 * c))))) else none) = _
  rw [if_pos rfl]
theorem eqp_no (hB : BI ar I A N) (h : BTX ar ft Fb Tb I A N) (hC : CLA ar I A c) (ne : ¬ (0 < A 51 c ∧ A 1 (A 50 (30 * c)) = 4)) : (CLD A N c).head?.bind sp_eqp = none := by
  by_cases n1 : 0 < A 51 c
  · rw [CLD_hd n1]
    show sp_eqp (DM A N (A 50 (30 * c))) = none
    have cz := hC.2.1 0 (Int.le_refl _) n1
    rw [Int.add_zero] at cz
    have n7 := hB.1.2.1.1
    by_cases e : A 1 (A 50 (30 * c)) < 0
    · rcases DM_at hB.1.1 cz.1.1 cz.1.2 e with ⟨-, m, q⟩ | ⟨-, v, q⟩
      · rw [q]
        rfl
      · rw [q]
        rfl
    · have g := (MST_PW hB.1.1).2 _ cz.1.1 cz.1.2
      have g2 := g.2.2.2.2 (by omega)
      rw [DM_pr hB.1.1 h.1 cz.1.1 cz.1.2 (by omega)]
      unfold sp_eqp
      split
      · rename_i v a b z heq
        injection heq with e1 e2
        by_cases c9 : v = 26209844
        · rw [c9] at e1
          exact absurd ⟨n1, DM_inj ⟨hB.1.1, h.1.1⟩ (by omega) (by omega) (by decide : (0 : Int) ≤ 4) (by omega) (e1.trans (show DM A N 4 = .var 26209844 from h.1.2 4 (by decide)).symm)⟩ ne
        · exact if_neg c9
      · rfl
  · unfold CLD ixl
    rw [show (A 51 c).toNat = 0 by omega]
    rfl
end EQP
theorem uw_mono {I : Nat → Int} {A : Nat → Int → Int} {m : Nat} {l : Int} (hP : PW I A) (l0 : 0 ≤ l) (l1 : l < I 7) (hL : isL A m l) (hQ : ∀ j : Nat, j < m → isL A 2 (A 1 (rt A j l))) (j : Nat) (hj : j ≤ m) : uw A j l ≤ uw A m l := by
  have key : ∀ k : Nat, j + k ≤ m → uw A j l ≤ uw A (j + k) l := by
    intro k
    induction k with
    | zero => intro _; exact Int.le_refl _
    | succ k ih =>
      intro h
      have a := ih (by omega)
      have b := (VD_rt hP l0 l1 hL (by omega : j + k < m)).2.1
      have p := hQ (j + k) (by omega)
      have r := hP.2 _ b.1 b.2
      have r2 := r.2.2.2.2 p.1
      have p3 : 0 ≤ A 1 (A 2 (A 1 (rt A (j + k) l))) := p.2.1
      have r3 := hP.2 _ (by omega : 0 ≤ A 2 (A 1 (rt A (j + k) l))) (by omega)
      have w := WD_1 hP p3 (by omega)
      have s := uw_succ A (j + k) l
      have e : uw A (j + (k + 1)) l = uw A (j + k + 1) l := rfl
      omega
  have := key (m - j) (by omega)
  rw [show j + (m - j) = m by omega] at this
  exact this
set_option maxRecDepth 4000 in
theorem mm_con_inst (z : Value) (d : Nat) (ar : Int → Int) (ft : Nat → Int) (Fb : List (Nat × List Nat × ob_T)) (Tb : List (Nat × ob_T)) (ρ : Option (List ob_T)) (k o c E dd : Int) (h R : xx_H) (I : Nat → Int) (A : Nat → Int → Int) (N : Int → Int) (hc : 12 ≤ h.length) (hB : BI ar I A N) (k0 : 0 ≤ k) (k1 : k < 40) (ek : A 47 k = o) (o0 : 0 ≤ o) (o1 : o < I 7) (hF : FORM ar I A N o) (ec : A 49 k = c) (c0 : 0 ≤ c) (w : WD A o ≤ 1000) (hE : E + 128 * WD A o ≤ 140000) (d0 : 0 ≤ dd) (d1 : dd ≤ 39) (c9 : Int) (hcf : CFX ar I A o c9) (hX : BTX ar ft Fb Tb I A N) (w0 : I 49 = 0) (ef : A 1 o = 41) (hU : I 7 ≤ E + c9 + (128 * WD A (A 1 (rt A 1 o)) - KC (dd + 1) A ar c)) (d38 : dd ≤ 38) (c1 : c < 350) (hC : CLA ar I A c) (hρ : ∀ m : Nat, isL A m (A 2 (A 2 o)) → (∀ j : Nat, j < m → PQ A ar (A 1 (rt A j (A 2 (A 2 o))))) → ρ = sp_cz ((CLD A N c).map (fun t => sp_opO (sp_in (VsL A N (A 2 (A 2 o)) m) (OsL A N (A 2 (A 2 o)) m) t).1))) : xx_cl (xt_P z) (d + 11) 154 [.ref h.length, .int (iI k)] (mh h R I A N) (fun v h1 => ∃ (b : Int) (I1 : Nat → Int) (A1 : Nat → Int → Int) (N1 : Int → Int), v = some (.int (iI b)) ∧ h1 = mh h R I1 A1 N1 ∧ RU ar 140000 I A N I1 A1 N1 ∧ ((b = 0 ∧ ρ = none) ∨ (b = 1 ∧ (∃ its : List (Option ob_T), DIT its I1 A1 N1 ∧ ρ = sp_cz its) ∧ ∃ S V : Int, DR ar 1190 S V I1 A1 ∧ (I1 49 = 0 → I1 67 ≤ 30 → SG (TZ A1 ar) (A1 38) (I1 67).toNat ≤ 400 → I1 7 + KDR dd I1 A1 ar ≤ E + 128 * WD A o)))) := by
  have hP := BI_P hB
  have n0 := BI_n0 hB
  have p9 := hP.1
  have nm := hB.1.2.1.1
  have n2 : A 1 2 < 0 := by rw [hB.1.2.1.2 2 (by decide) (by decide)]; decide
  obtain ⟨n, hL, n1, hF⟩ := hF
  have en : 2 ≤ n ∧ ∃ m : Nat, isL A m (A 2 (A 2 o)) ∧ (∀ j : Nat, j < m → PQ A ar (A 1 (rt A j (A 2 (A 2 o))))) ∧ PD A m (A 2 (A 2 o)) := by
    rcases hF with q | q | q | q | q | q | q | q | q | q | q | q
    · omega
    · omega
    · omega
    · omega
    · omega
    · omega
    · omega
    · omega
    · exact ⟨q.2.1, q.2.2⟩
    · omega
    · omega
    · omega
  clear hF
  obtain ⟨n2', m, lm, qm, pm⟩ := en
  have nl := isL_len hP o.toNat n o (Nat.le_refl _) o0 o1 hL
  have wo := WD_pair hP o0 o1 (by omega)
  rw [if_neg (fun q => absurd q.1 (by omega))] at wo
  have v0 := VD_rt hP o0 o1 hL (by omega : 0 < n)
  have v0e : VD A o = WD A (A 1 o) + VD A (rt A 1 o) := v0.1
  have wr : WD A (A 1 o) = 1 := WD_atom (by rw [hB.1.2.1.2 _ (by omega) (by omega)]; decide)
  have v1 := VD_rt hP o0 o1 hL (by omega : 1 < n)
  have v1e : VD A (rt A 1 o) = WD A (A 1 (rt A 1 o)) + VD A (A 2 (A 2 o)) := v1.1
  have r1 := isL_rt hP n 1 o o0 o1 hL (by omega)
  have r1 : 0 ≤ A 2 o ∧ A 2 o ≤ o ∧ 0 ≤ A 1 (A 2 o) := r1
  have qo := hP.2 o o0 o1
  have qo2 := qo.2.2.2.2 (by omega)
  have q3 := hP.2 (A 2 o) r1.1 (by omega)
  have q4 := q3.2.2.2.2 r1.2.2
  have vn := VD_nn A (A 2 (A 2 o))
  have cf := hcf.2 (by omega)
  have cf2 := cf.2.2.2.2.2.1 ef m lm
  obtain ⟨pq, hpq, pv, pu⟩ := PDV (ar := ar) hP n0 n2 m (A 2 (A 2 o)) q3.2.2.1 (by omega) lm qm pm
  have pq1 : 0 ≤ pq ∧ pq ≤ 1 ∧ pq ≤ m := by
    rcases hpq with q | ⟨q, j, hj, -⟩ <;> omega
  have hu : ∀ j : Nat, j ≤ m → uw A j (A 2 (A 2 o)) ≤ uw A m (A 2 (A 2 o)) := uw_mono hP q3.2.2.1 (by omega) lm (fun j hj => (qm j hj).1)
  have h1 := hC.1
  have c120 := CLA_120 hC
  have kc := KK_ge (d := dd + 1) (n := A 51 c) (s := SG (TZ A ar) (fun k => A 50 (30 * c + k)) (A 51 c).toNat) (v := SG (NT A wq) (fun k => A 50 (30 * c + k)) (A 51 c).toNat) (by omega) (by omega)
  have kce : KC (dd + 1) A ar c = KK (dd + 1) (A 51 c) (SG (TZ A ar) (fun k => A 50 (30 * c + k)) (A 51 c).toNat) (SG (NT A wq) (fun k => A 50 (30 * c + k)) (A 51 c).toNat) := rfl
  have mu : A 51 c * (2 * uw A m (A 2 (A 2 o))) ≤ 30 * (2 * uw A m (A 2 (A 2 o))) := Int.mul_le_mul_of_nonneg_right h1.2 (by omega)
  have mu0 : 0 ≤ A 51 c * (2 * uw A m (A 2 (A 2 o))) := Int.mul_nonneg h1.1 (by omega)
  have s400 := hC.2.2
  refine cl_go rfl ?_
  show xx_go (xt_P z) (d + 10) 154 0 [some (.ref h.length), some (.int (iI k)), none, none, none, none, none, none] [] (mh h R I A N) _
  refine go_a (pc' := 1) (ls' := [some (.ref h.length), some (.int (iI k)), none, none, none, none, none, none]) (st' := [.ref h.length]) rfl rfl ?_
  refine go_get rfl mh_o rfl rfl ?_
  refine go_a (pc' := 5) (ls' := [some (.ref h.length), some (.int (iI k)), none, none, none, none, none, none]) (st' := [.int (iI k), .ref (h.length + 47)]) rfl rfl ?_
  refine mi_ild rfl mh_a47 (by omega) (by omega) (by decide) ?_
  rw [ek]
  refine go_a (pc' := 7) (ls' := [some (.ref h.length), some (.int (iI k)), some (.int (iI o)), none, none, none, none, none]) (st' := []) rfl rfl ?_
  refine go_a (pc' := 8) (ls' := [some (.ref h.length), some (.int (iI k)), some (.int (iI o)), none, none, none, none, none]) (st' := [.ref h.length]) rfl rfl ?_
  refine go_get rfl mh_o rfl rfl ?_
  refine go_a (pc' := 12) (ls' := [some (.ref h.length), some (.int (iI k)), some (.int (iI o)), none, none, none, none, none]) (st' := [.int (iI k), .ref (h.length + 49)]) rfl rfl ?_
  refine mi_ild rfl mh_a49 (by omega) (by omega) (by decide) ?_
  rw [ec]
  refine go_a (pc' := 14) (ls' := [some (.ref h.length), some (.int (iI k)), some (.int (iI o)), some (.int (iI c)), none, none, none, none]) (st' := []) rfl rfl ?_
  refine go_a (pc' := 15) (ls' := [some (.ref h.length), some (.int (iI k)), some (.int (iI o)), some (.int (iI c)), none, none, none, none]) (st' := [.ref h.length]) rfl rfl ?_
  refine go_a (pc' := 16) (ls' := [some (.ref h.length), some (.int (iI k)), some (.int (iI o)), some (.int (iI c)), none, none, none, none]) (st' := [.int (iI 0), .ref h.length]) rfl rfl ?_
  refine go_put (j := 67) rfl mh_o rfl rfl (show 12 ≤ _ from hc) (show 67 < 86 by decide) rfl rfl ?_
  rw [mh_p67]
  obtain ⟨J, hJ⟩ : ∃ J : Nat → Int, J = su I 67 0 := ⟨_, rfl⟩
  rw [← hJ]
  have bJ : BX (fun j => j = 67) NO I A N J A N := by
    subst hJ
    exact BX_of hB.1.1 (fun j q => su_ne q) (fun a _ => rfl) rfl rfl rfl rfl rfl rfl rfl rfl rfl rfl
  have J7 : J 7 = I 7 := by subst hJ; rfl
  have J49 : J 49 = I 49 := by subst hJ; rfl
  have R0 : RU ar 0 I A N J A N := RU_of hB bJ (fun j q => by subst q; unfold FC; omega) (fun a q => absurd q (fun z => z)) (SZI_124 (A := A) (A1 := A) hB.1.2.2 rfl rfl rfl J7) (by subst hJ; rfl) (by subst hJ; rfl) (by rw [J49]; exact hB.2.2.2.2) (by omega) (fun _ => J49)
  have D0 : DR ar 0 0 0 J A := by subst hJ; exact DR_00
  have PJ := RU_P R0
  have T0 : BTX ar ft Fb Tb J A N := BTX_RU hB hX R0
  have di0 : DIT [] J A N := by
    subst hJ
    exact Or.inl ⟨w0, rfl⟩
  refine go_a (pc' := 20) (ls' := [some (.ref h.length), some (.int (iI k)), some (.int (iI o)), some (.int (iI c)), none, none, none, none]) (st' := [.ref h.length]) rfl rfl ?_
  refine go_a (pc' := 21) (ls' := [some (.ref h.length), some (.int (iI k)), some (.int (iI o)), some (.int (iI c)), none, none, none, none]) (st' := [.int (iI o), .ref h.length]) rfl rfl ?_
  refine go_v (m := 98) (as := [.ref h.length, .int (iI o)]) (r := []) rfl rfl rfl mh_o rfl rfl (mm_lenL z (d + 8) n o h R J A N hc PJ n0 o0 (by omega) hL) (fun v h1 hq => ?_)
  obtain ⟨rfl, rfl⟩ := hq
  show xx_go (xt_P z) (d + 10) 154 24 [some (.ref h.length), some (.int (iI k)), some (.int (iI o)), some (.int (iI c)), none, none, none, none] [.int (iI (((n : Nat) : Int)))] (mh h R J A N) _
  refine go_a (pc' := 25) (ls' := [some (.ref h.length), some (.int (iI k)), some (.int (iI o)), some (.int (iI c)), none, none, none, none]) (st' := [.int (iI 1), .int (iI (((n : Nat) : Int)))]) rfl rfl ?_
  refine mi_le (t := 107) rfl rfl (by omega) (by omega) (by omega) (by omega) (fun q => by omega) (fun _ => ?_)
  refine go_a (pc' := 29) (ls' := [some (.ref h.length), some (.int (iI k)), some (.int (iI o)), some (.int (iI c)), none, none, none, none]) (st' := [.ref h.length]) rfl rfl ?_
  refine go_get rfl mh_o rfl rfl ?_
  refine go_a (pc' := 33) (ls' := [some (.ref h.length), some (.int (iI k)), some (.int (iI o)), some (.int (iI c)), none, none, none, none]) (st' := [.int (iI o), .ref (h.length + 1)]) rfl rfl ?_
  refine mi_ild rfl mh_a1 (by omega) (by omega) (by decide) ?_
  refine go_a (pc' := 36) (ls' := [some (.ref h.length), some (.int (iI k)), some (.int (iI o)), some (.int (iI c)), none, none, none, none]) (st' := [.int (iI 37), .int (iI (A 1 o))]) rfl rfl ?_
  refine mi_eq (t := 107) rfl rfl (by omega) (by omega) (by omega) (by omega) (fun q => by omega) (fun _ => ?_)
  refine go_a (pc' := 40) (ls' := [some (.ref h.length), some (.int (iI k)), some (.int (iI o)), some (.int (iI c)), none, none, none, none]) (st' := [.ref h.length]) rfl rfl ?_
  refine go_get rfl mh_o rfl rfl ?_
  refine go_a (pc' := 44) (ls' := [some (.ref h.length), some (.int (iI k)), some (.int (iI o)), some (.int (iI c)), none, none, none, none]) (st' := [.int (iI o), .ref (h.length + 1)]) rfl rfl ?_
  refine mi_ild rfl mh_a1 (by omega) (by omega) (by decide) ?_
  refine go_a (pc' := 47) (ls' := [some (.ref h.length), some (.int (iI k)), some (.int (iI o)), some (.int (iI c)), none, none, none, none]) (st' := [.int (iI 38), .int (iI (A 1 o))]) rfl rfl ?_
  refine mi_eq (t := 107) rfl rfl (by omega) (by omega) (by omega) (by omega) (fun q => by omega) (fun _ => ?_)
  refine go_a (pc' := 51) (ls' := [some (.ref h.length), some (.int (iI k)), some (.int (iI o)), some (.int (iI c)), none, none, none, none]) (st' := [.ref h.length]) rfl rfl ?_
  refine go_get rfl mh_o rfl rfl ?_
  refine go_a (pc' := 55) (ls' := [some (.ref h.length), some (.int (iI k)), some (.int (iI o)), some (.int (iI c)), none, none, none, none]) (st' := [.int (iI o), .ref (h.length + 1)]) rfl rfl ?_
  refine mi_ild rfl mh_a1 (by omega) (by omega) (by decide) ?_
  refine go_a (pc' := 58) (ls' := [some (.ref h.length), some (.int (iI k)), some (.int (iI o)), some (.int (iI c)), none, none, none, none]) (st' := [.int (iI 39), .int (iI (A 1 o))]) rfl rfl ?_
  refine mi_eq (t := 107) rfl rfl (by omega) (by omega) (by omega) (by omega) (fun q => by omega) (fun _ => ?_)
  refine go_a (pc' := 62) (ls' := [some (.ref h.length), some (.int (iI k)), some (.int (iI o)), some (.int (iI c)), none, none, none, none]) (st' := [.ref h.length]) rfl rfl ?_
  refine go_get rfl mh_o rfl rfl ?_
  refine go_a (pc' := 66) (ls' := [some (.ref h.length), some (.int (iI k)), some (.int (iI o)), some (.int (iI c)), none, none, none, none]) (st' := [.int (iI o), .ref (h.length + 1)]) rfl rfl ?_
  refine mi_ild rfl mh_a1 (by omega) (by omega) (by decide) ?_
  refine go_a (pc' := 69) (ls' := [some (.ref h.length), some (.int (iI k)), some (.int (iI o)), some (.int (iI c)), none, none, none, none]) (st' := [.int (iI 41), .int (iI (A 1 o))]) rfl rfl ?_
  refine mi_eq (t := 107) rfl rfl (by omega) (by omega) (by omega) (by omega) (fun _ => ?_) (fun q => by omega)
  refine go_a (pc' := 108) (ls' := [some (.ref h.length), some (.int (iI k)), some (.int (iI o)), some (.int (iI c)), none, none, none, none]) (st' := [.int (iI ((-1)))]) rfl rfl ?_
  refine go_a (pc' := 110) (ls' := [some (.ref h.length), some (.int (iI k)), some (.int (iI o)), some (.int (iI c)), some (.int (iI ((-1)))), none, none, none]) (st' := []) rfl rfl ?_
  refine go_a (pc' := 111) (ls' := [some (.ref h.length), some (.int (iI k)), some (.int (iI o)), some (.int (iI c)), some (.int (iI ((-1)))), none, none, none]) (st' := [.ref h.length]) rfl rfl ?_
  refine go_get rfl mh_o rfl rfl ?_
  refine go_a (pc' := 115) (ls' := [some (.ref h.length), some (.int (iI k)), some (.int (iI o)), some (.int (iI c)), some (.int (iI ((-1)))), none, none, none]) (st' := [.int (iI o), .ref (h.length + 1)]) rfl rfl ?_
  refine mi_ild rfl mh_a1 (by omega) (by omega) (by decide) ?_
  refine go_a (pc' := 118) (ls' := [some (.ref h.length), some (.int (iI k)), some (.int (iI o)), some (.int (iI c)), some (.int (iI ((-1)))), none, none, none]) (st' := [.int (iI 32), .int (iI (A 1 o))]) rfl rfl ?_
  refine mi_lt (t := 145) rfl rfl (by omega) (by omega) (by omega) (by omega) (fun q => by omega) (fun _ => ?_)
  refine go_a (pc' := 122) (ls' := [some (.ref h.length), some (.int (iI k)), some (.int (iI o)), some (.int (iI c)), some (.int (iI ((-1)))), none, none, none]) (st' := [.ref h.length]) rfl rfl ?_
  refine go_get rfl mh_o rfl rfl ?_
  refine go_a (pc' := 126) (ls' := [some (.ref h.length), some (.int (iI k)), some (.int (iI o)), some (.int (iI c)), some (.int (iI ((-1)))), none, none, none]) (st' := [.int (iI o), .ref (h.length + 1)]) rfl rfl ?_
  refine mi_ild rfl mh_a1 (by omega) (by omega) (by decide) ?_
  refine go_a (pc' := 129) (ls' := [some (.ref h.length), some (.int (iI k)), some (.int (iI o)), some (.int (iI c)), some (.int (iI ((-1)))), none, none, none]) (st' := [.int (iI 36), .int (iI (A 1 o))]) rfl rfl ?_
  refine mi_gt (t := 145) rfl rfl (by omega) (by omega) (by omega) (by omega) (fun _ => ?_) (fun q => by omega)
  refine go_a (pc' := 146) (ls' := [some (.ref h.length), some (.int (iI k)), some (.int (iI o)), some (.int (iI c)), some (.int (iI ((-1)))), none, none, none]) (st' := [.int (iI ((-1)))]) rfl rfl ?_
  refine go_a (pc' := 148) (ls' := [some (.ref h.length), some (.int (iI k)), some (.int (iI o)), some (.int (iI c)), some (.int (iI ((-1)))), some (.int (iI ((-1)))), none, none]) (st' := []) rfl rfl ?_
  refine go_a (pc' := 149) (ls' := [some (.ref h.length), some (.int (iI k)), some (.int (iI o)), some (.int (iI c)), some (.int (iI ((-1)))), some (.int (iI ((-1)))), none, none]) (st' := [.ref h.length]) rfl rfl ?_
  refine go_get rfl mh_o rfl rfl ?_
  refine go_a (pc' := 153) (ls' := [some (.ref h.length), some (.int (iI k)), some (.int (iI o)), some (.int (iI c)), some (.int (iI ((-1)))), some (.int (iI ((-1)))), none, none]) (st' := [.int (iI o), .ref (h.length + 1)]) rfl rfl ?_
  refine mi_ild rfl mh_a1 (by omega) (by omega) (by decide) ?_
  refine go_a (pc' := 156) (ls' := [some (.ref h.length), some (.int (iI k)), some (.int (iI o)), some (.int (iI c)), some (.int (iI ((-1)))), some (.int (iI ((-1)))), none, none]) (st' := [.int (iI 35), .int (iI (A 1 o))]) rfl rfl ?_
  refine mi_eq (t := 170) rfl rfl (by omega) (by omega) (by omega) (by omega) (fun q => by omega) (fun _ => ?_)
  refine go_a (pc' := 160) (ls' := [some (.ref h.length), some (.int (iI k)), some (.int (iI o)), some (.int (iI c)), some (.int (iI ((-1)))), some (.int (iI ((-1)))), none, none]) (st' := [.ref h.length]) rfl rfl ?_
  refine go_get rfl mh_o rfl rfl ?_
  refine go_a (pc' := 164) (ls' := [some (.ref h.length), some (.int (iI k)), some (.int (iI o)), some (.int (iI c)), some (.int (iI ((-1)))), some (.int (iI ((-1)))), none, none]) (st' := [.int (iI o), .ref (h.length + 1)]) rfl rfl ?_
  refine mi_ild rfl mh_a1 (by omega) (by omega) (by decide) ?_
  refine go_a (pc' := 167) (ls' := [some (.ref h.length), some (.int (iI k)), some (.int (iI o)), some (.int (iI c)), some (.int (iI ((-1)))), some (.int (iI ((-1)))), none, none]) (st' := [.int (iI 36), .int (iI (A 1 o))]) rfl rfl ?_
  refine mi_ne (t := 183) rfl rfl (by omega) (by omega) (by omega) (by omega) (fun _ => ?_) (fun q => by omega)
  refine go_a (pc' := 184) (ls' := [some (.ref h.length), some (.int (iI k)), some (.int (iI o)), some (.int (iI c)), some (.int (iI ((-1)))), some (.int (iI ((-1)))), none, none]) (st' := [.int (iI ((-1)))]) rfl rfl ?_
  refine go_a (pc' := 186) (ls' := [some (.ref h.length), some (.int (iI k)), some (.int (iI o)), some (.int (iI c)), some (.int (iI ((-1)))), some (.int (iI ((-1)))), some (.int (iI ((-1)))), none]) (st' := []) rfl rfl ?_
  refine go_a (pc' := 187) (ls' := [some (.ref h.length), some (.int (iI k)), some (.int (iI o)), some (.int (iI c)), some (.int (iI ((-1)))), some (.int (iI ((-1)))), some (.int (iI ((-1)))), none]) (st' := [.ref h.length]) rfl rfl ?_
  refine go_get rfl mh_o rfl rfl ?_
  refine go_a (pc' := 191) (ls' := [some (.ref h.length), some (.int (iI k)), some (.int (iI o)), some (.int (iI c)), some (.int (iI ((-1)))), some (.int (iI ((-1)))), some (.int (iI ((-1)))), none]) (st' := [.int (iI o), .ref (h.length + 1)]) rfl rfl ?_
  refine mi_ild rfl mh_a1 (by omega) (by omega) (by decide) ?_
  refine mi_ts (c := 41) (t := 606) rfl ef rfl ?_
  refine go_a (pc' := 607) (ls' := [some (.ref h.length), some (.int (iI k)), some (.int (iI o)), some (.int (iI c)), some (.int (iI ((-1)))), some (.int (iI ((-1)))), some (.int (iI ((-1)))), none]) (st' := [.ref h.length]) rfl rfl ?_
  refine go_a (pc' := 608) (ls' := [some (.ref h.length), some (.int (iI k)), some (.int (iI o)), some (.int (iI c)), some (.int (iI ((-1)))), some (.int (iI ((-1)))), some (.int (iI ((-1)))), none]) (st' := [.int (iI o), .ref h.length]) rfl rfl ?_
  refine go_a (pc' := 609) (ls' := [some (.ref h.length), some (.int (iI k)), some (.int (iI o)), some (.int (iI c)), some (.int (iI ((-1)))), some (.int (iI ((-1)))), some (.int (iI ((-1)))), none]) (st' := [.int (iI c), .int (iI o), .ref h.length]) rfl rfl ?_
  refine go_v (m := 160) (as := [.ref h.length, .int (iI o), .int (iI c)]) (r := []) rfl rfl rfl mh_o rfl rfl (mm_instanced z (d + 1) m ar (∀ j : Nat, j < m → A 1 (A 1 (rt A j (A 2 (A 2 o)))) = 2) ((∃ j : Nat, j < m ∧ A 1 (A 1 (rt A j (A 2 (A 2 o)))) = 2) ∧ ∀ j : Nat, j < m → WD A (A 1 (A 2 (A 1 (rt A j (A 2 (A 2 o)))))) ≤ 3 ∧ A 1 (A 2 (A 1 (rt A j (A 2 (A 2 o))))) ≠ 2) (∀ j : Nat, j < m → A 1 (A 2 (A 1 (rt A j (A 2 (A 2 o))))) = A 1 (A 1 (rt A j (A 2 (A 2 o))))) o c h R J A N hc R0.2.1 T0.1 o0 (by omega) (by omega) r1.2.2 lm qm (by omega) (by omega) hu c0 c1 (CLA_RU hP R0 hC) (fun h => h) (fun h => h) (fun h => h) (by omega) D0) (fun v h1 hq => ?_)
  obtain ⟨rfl, I1, A1, C, S, V, rfl, R1, D1, hC2, hid, hV, dj⟩ := hq
  have di9 := dj di0
  have eρ : ρ = sp_cz (itI (sp_in (VsL A N (A 2 (A 2 o)) m) (OsL A N (A 2 (A 2 o)) m)) A N c (A 51 c)) := by
    rw [hρ m lm qm]
    unfold CLD itI
    rw [List.map_map]
    rfl
  clear dj
  have P1 := RU_P R1
  have X1 := RU_tr R0 R1 (Int.le_refl _)
  have T1 := BTX_RU R0.2.1 T0 R1
  have y1 := X1.2.2.1
  have z1 : I1 7 ≤ 140000 := P1.1
  have x1 : I 7 ≤ I1 7 := X1.1.2.1
  have ex1 : A1 1 o = A 1 o := (X1.1.2.2.1 o o0 o1).1
  clear T0
  show xx_go (xt_P z) (d + 10) 154 612 [some (.ref h.length), some (.int (iI k)), some (.int (iI o)), some (.int (iI c)), some (.int (iI ((-1)))), some (.int (iI ((-1)))), some (.int (iI ((-1)))), none] [.int (iI 1)] (mh h R I1 A1 N) _
  refine go_r rfl rfl rfl rfl rfl rfl ⟨1, I1, A1, N, rfl, rfl, RU_w X1 (by omega), Or.inr ⟨rfl, ⟨_, di9, eρ⟩, _, _, DR_w D1 (by omega) (Int.le_refl _) (Int.le_refl _), fun b9 b30 b400 => ?_⟩⟩
  have dm := D1.1
  have ds := D1.2.2.1
  have dv := D1.2.2.2
  unfold KDR
  by_cases idh : ((∀ j : Nat, j < m → A 1 (A 2 (A 1 (rt A j (A 2 (A 2 o))))) = A 1 (A 1 (rt A j (A 2 (A 2 o))))) ∨ ((∀ j : Nat, j < m → A 1 (A 1 (rt A j (A 2 (A 2 o)))) = 2) ∧ ∀ q : Int, 0 ≤ q → q < A 51 c → NT A wq (A 50 (30 * c + q)) = 0))
  · have hh := hid idh
    clear hpq
    have kw := KK_id (d := dd) (n := A 51 c) (s := SG (TZ A ar) (fun k => A 50 (30 * c + k)) (A 51 c).toNat) (v := SG (NT A wq) (fun k => A 50 (30 * c + k)) (A 51 c).toNat) (n2 := (I1 67)) (s2 := (SG (TZ A1 ar) (A1 38) (I1 67).toNat)) (v2 := (SG (NT A1 wq) (A1 38) (I1 67).toNat)) (x := 128 * (3 + VD A (A 2 (A 2 o))) - 62 * uw A m (A 2 (A 2 o))) d0 d38 (by omega) (by omega) (by omega) (by omega)
    omega
  have gen : 896 ≤ 128 * (3 + VD A (A 2 (A 2 o))) - 62 * uw A m (A 2 (A 2 o)) → I1 7 + KK dd (I1 67) (SG (TZ A1 ar) (A1 38) (I1 67).toNat) (SG (NT A1 wq) (A1 38) (I1 67).toNat) ≤ E + 128 * WD A o := by
    intro x9
    clear hpq
    have kw := KK_inst (d := dd) (n := A 51 c) (s := SG (TZ A ar) (fun k => A 50 (30 * c + k)) (A 51 c).toNat) (v := SG (NT A wq) (fun k => A 50 (30 * c + k)) (A 51 c).toNat) (n2 := (I1 67)) (s2 := (SG (TZ A1 ar) (A1 38) (I1 67).toNat)) (v2 := (SG (NT A1 wq) (A1 38) (I1 67).toNat)) (x := 128 * (3 + VD A (A 2 (A 2 o))) - 62 * uw A m (A 2 (A 2 o))) d0 d38 (by omega) (by omega) s400 c120.1 x9
    omega
  rcases hpq with ⟨z0, hp⟩ | ⟨z1, j, hj, hp⟩
  · by_cases mz : m = 0
    · exact absurd (Or.inl (fun j hj => absurd hj (by omega))) idh
    · exact gen (by omega)
  by_cases m1 : m = 1
  rotate_left
  · exact gen (by omega)
  subst m1
  have j0 : j = 0 := by omega
  subst j0
  have he0 : ∀ j : Nat, j < 1 → A 1 (A 1 (rt A j (A 2 (A 2 o)))) = 2 := fun i hi => by
    rw [show i = 0 by omega]
    exact hp
  have nz : SG (NT A wq) (fun k => A 50 (30 * c + k)) (A 51 c).toNat ≠ 0 := by
    intro ez
    refine idh (Or.inr ⟨he0, fun q q0 q1 => ?_⟩)
    have nn : ∀ e : Nat, e < (A 51 c).toNat → 0 ≤ NT A wq (A 50 (30 * c + e)) := fun e he => by
      have ck := hC.2.1 e (by omega) (by omega)
      exact (NT_nn hP (fun j _ _ => wq_nn j) _ _ (Nat.lt_succ_self _) ck.1.1 ck.1.2).1
    have q4 := SG_each (g := NT A wq) (f := fun k => A 50 (30 * c + k)) (A 51 c).toNat nn q.toNat (by omega)
    have q5 := nn q.toNat (by omega)
    rw [show ((q.toNat : Nat) : Int) = q by omega] at q4 q5
    have q4 : NT A wq (A 50 (30 * c + q)) ≤ _ := q4
    omega
  have ue : uw A 1 (A 2 (A 2 o)) = WD A (A 1 (A 2 (A 1 (A 2 (A 2 o))))) - 1 := by
    show WD A (A 1 (A 2 (A 1 (A 2 (A 2 o))))) - 1 + 0 = _
    omega
  by_cases w3 : WD A (A 1 (A 2 (A 1 (A 2 (A 2 o))))) ≤ 3
  · have t2 : (A 1 (A 2 (A 1 (A 2 (A 2 o))))) ≠ 2 := by
      intro e
      refine idh (Or.inl (fun i hi => ?_))
      rw [show i = 0 by omega, hp]
      exact e
    have v0 := hV ⟨⟨0, by omega, hp⟩, fun i hi => by rw [show i = 0 by omega]; exact ⟨w3, t2⟩⟩
    have dn : 0 ≤ (SG (NT A1 wq) (A1 38) (I1 67).toNat) := SG_nn _ (fun e he => by have q := D1.2.1 e (by omega) (by omega); exact (NT_nn P1 (fun j _ _ => wq_nn j) _ _ (Nat.lt_succ_self _) q.1.1 q.1.2).1)
    rw [show (SG (NT A1 wq) (A1 38) (I1 67).toNat) = 0 by omega]
    have kw := KK_instq (d := dd) (n := A 51 c) (s := SG (TZ A ar) (fun k => A 50 (30 * c + k)) (A 51 c).toNat) (v := SG (NT A wq) (fun k => A 50 (30 * c + k)) (A 51 c).toNat) (n2 := (I1 67)) (s2 := (SG (TZ A1 ar) (A1 38) (I1 67).toNat)) (x := 128 * (3 + VD A (A 2 (A 2 o))) - 62 * uw A 1 (A 2 (A 2 o))) d0 d38 (by omega) (by omega) s400 c120.1 b400 nz (by omega)
    omega
  · have kw := KK_instv (d := dd) (n := A 51 c) (s := SG (TZ A ar) (fun k => A 50 (30 * c + k)) (A 51 c).toNat) (v := SG (NT A wq) (fun k => A 50 (30 * c + k)) (A 51 c).toNat) (n2 := (I1 67)) (s2 := (SG (TZ A1 ar) (A1 38) (I1 67).toNat)) (v2 := (SG (NT A1 wq) (A1 38) (I1 67).toNat)) (x := 128 * (3 + VD A (A 2 (A 2 o))) - 62 * uw A 1 (A 2 (A 2 o))) d0 d38 (by omega) (by omega) s400 c120.1 nz (by omega)
    omega
set_option maxRecDepth 4000 in
theorem mm_con_swap (z : Value) (d : Nat) (ar : Int → Int) (ft : Nat → Int) (Fb : List (Nat × List Nat × ob_T)) (Tb : List (Nat × ob_T)) (ρ : Option (List ob_T)) (k o c E dd : Int) (h R : xx_H) (I : Nat → Int) (A : Nat → Int → Int) (N : Int → Int) (hc : 12 ≤ h.length) (hB : BI ar I A N) (k0 : 0 ≤ k) (k1 : k < 40) (ek : A 47 k = o) (o0 : 0 ≤ o) (o1 : o < I 7) (hF : FORM ar I A N o) (ec : A 49 k = c) (c0 : 0 ≤ c) (w : WD A o ≤ 1000) (hE : E + 128 * WD A o ≤ 140000) (d0 : 0 ≤ dd) (d1 : dd ≤ 39) (c9 : Int) (hcf : CFX ar I A o c9) (hX : BTX ar ft Fb Tb I A N) (w0 : I 49 = 0) (ef : A 1 o = 42) (hU : I 7 ≤ E + c9 + (128 * WD A (A 1 (rt A 1 o)) - KC (dd + 1) A ar c)) (d38 : dd ≤ 38) (c1 : c < 350) (hC : CLA ar I A c) (hnd : (CLD A N c).Nodup) (hρ : ρ = ((CLD A N c).head?.bind sp_eqp).bind (fun e => sp_cz (sp_opO (sp_eq e.2 e.1) :: ((CLD A N c).drop 1).map some))) : xx_cl (xt_P z) (d + 11) 154 [.ref h.length, .int (iI k)] (mh h R I A N) (fun v h1 => ∃ (b : Int) (I1 : Nat → Int) (A1 : Nat → Int → Int) (N1 : Int → Int), v = some (.int (iI b)) ∧ h1 = mh h R I1 A1 N1 ∧ RU ar 140000 I A N I1 A1 N1 ∧ ((b = 0 ∧ ρ = none) ∨ (b = 1 ∧ (∃ its : List (Option ob_T), DIT its I1 A1 N1 ∧ ρ = sp_cz its) ∧ ∃ S V : Int, DR ar 1190 S V I1 A1 ∧ (I1 49 = 0 → I1 67 ≤ 30 → SG (TZ A1 ar) (A1 38) (I1 67).toNat ≤ 400 → I1 7 + KDR dd I1 A1 ar ≤ E + 128 * WD A o)))) := by
  have hP := BI_P hB
  have n0 := BI_n0 hB
  have p9 := hP.1
  have nm := hB.1.2.1.1
  have n2 : A 1 2 < 0 := by rw [hB.1.2.1.2 2 (by decide) (by decide)]; decide
  obtain ⟨n, hL, n1, hF⟩ := hF
  have en : n = 2 := by
    rcases hF with q | q | q | q | q | q | q | q | q | q | q | q
    · omega
    · omega
    · omega
    · omega
    · omega
    · omega
    · omega
    · omega
    · omega
    · exact q.2
    · omega
    · omega
  clear hF
  subst en
  have wo := WD_pair hP o0 o1 (by omega)
  rw [if_neg (fun q => absurd q.1 (by omega))] at wo
  have v0 := VD_rt hP o0 o1 hL (by decide : 0 < 2)
  have v0e : VD A o = WD A (A 1 o) + VD A (rt A 1 o) := v0.1
  have wr : WD A (A 1 o) = 1 := WD_atom (by rw [hB.1.2.1.2 _ (by omega) (by omega)]; decide)
  have v1 := VD_rt hP o0 o1 hL (by decide : 1 < 2)
  have v1e : VD A (rt A 1 o) = WD A (A 1 (rt A 1 o)) + VD A (rt A 2 o) := v1.1
  have vz : VD A (rt A 2 o) = 0 := by rw [isL_end 2 o hL, VD_atom n0, if_pos rfl]
  have cf := hcf.2 (by omega)
  have cf2 := cf.2.2.1 (by omega)
  have h1 := hC.1
  have c120 := CLA_120 hC
  have kc := KK_ge (d := dd + 1) (n := A 51 c) (s := SG (TZ A ar) (fun k => A 50 (30 * c + k)) (A 51 c).toNat) (v := SG (NT A wq) (fun k => A 50 (30 * c + k)) (A 51 c).toNat) (by omega) (by omega)
  have kce : KC (dd + 1) A ar c = KK (dd + 1) (A 51 c) (SG (TZ A ar) (fun k => A 50 (30 * c + k)) (A 51 c).toNat) (SG (NT A wq) (fun k => A 50 (30 * c + k)) (A 51 c).toNat) := rfl
  refine cl_go rfl ?_
  show xx_go (xt_P z) (d + 10) 154 0 [some (.ref h.length), some (.int (iI k)), none, none, none, none, none, none] [] (mh h R I A N) _
  refine go_a (pc' := 1) (ls' := [some (.ref h.length), some (.int (iI k)), none, none, none, none, none, none]) (st' := [.ref h.length]) rfl rfl ?_
  refine go_get rfl mh_o rfl rfl ?_
  refine go_a (pc' := 5) (ls' := [some (.ref h.length), some (.int (iI k)), none, none, none, none, none, none]) (st' := [.int (iI k), .ref (h.length + 47)]) rfl rfl ?_
  refine mi_ild rfl mh_a47 (by omega) (by omega) (by decide) ?_
  rw [ek]
  refine go_a (pc' := 7) (ls' := [some (.ref h.length), some (.int (iI k)), some (.int (iI o)), none, none, none, none, none]) (st' := []) rfl rfl ?_
  refine go_a (pc' := 8) (ls' := [some (.ref h.length), some (.int (iI k)), some (.int (iI o)), none, none, none, none, none]) (st' := [.ref h.length]) rfl rfl ?_
  refine go_get rfl mh_o rfl rfl ?_
  refine go_a (pc' := 12) (ls' := [some (.ref h.length), some (.int (iI k)), some (.int (iI o)), none, none, none, none, none]) (st' := [.int (iI k), .ref (h.length + 49)]) rfl rfl ?_
  refine mi_ild rfl mh_a49 (by omega) (by omega) (by decide) ?_
  rw [ec]
  refine go_a (pc' := 14) (ls' := [some (.ref h.length), some (.int (iI k)), some (.int (iI o)), some (.int (iI c)), none, none, none, none]) (st' := []) rfl rfl ?_
  refine go_a (pc' := 15) (ls' := [some (.ref h.length), some (.int (iI k)), some (.int (iI o)), some (.int (iI c)), none, none, none, none]) (st' := [.ref h.length]) rfl rfl ?_
  refine go_a (pc' := 16) (ls' := [some (.ref h.length), some (.int (iI k)), some (.int (iI o)), some (.int (iI c)), none, none, none, none]) (st' := [.int (iI 0), .ref h.length]) rfl rfl ?_
  refine go_put (j := 67) rfl mh_o rfl rfl (show 12 ≤ _ from hc) (show 67 < 86 by decide) rfl rfl ?_
  rw [mh_p67]
  obtain ⟨J, hJ⟩ : ∃ J : Nat → Int, J = su I 67 0 := ⟨_, rfl⟩
  rw [← hJ]
  have bJ : BX (fun j => j = 67) NO I A N J A N := by
    subst hJ
    exact BX_of hB.1.1 (fun j q => su_ne q) (fun a _ => rfl) rfl rfl rfl rfl rfl rfl rfl rfl rfl rfl
  have J7 : J 7 = I 7 := by subst hJ; rfl
  have J49 : J 49 = I 49 := by subst hJ; rfl
  have R0 : RU ar 0 I A N J A N := RU_of hB bJ (fun j q => by subst q; unfold FC; omega) (fun a q => absurd q (fun z => z)) (SZI_124 (A := A) (A1 := A) hB.1.2.2 rfl rfl rfl J7) (by subst hJ; rfl) (by subst hJ; rfl) (by rw [J49]; exact hB.2.2.2.2) (by omega) (fun _ => J49)
  have D0 : DR ar 0 0 0 J A := by subst hJ; exact DR_00
  have PJ := RU_P R0
  have T0 : BTX ar ft Fb Tb J A N := BTX_RU hB hX R0
  have di0 : DIT [] J A N := by
    subst hJ
    exact Or.inl ⟨w0, rfl⟩
  refine go_a (pc' := 20) (ls' := [some (.ref h.length), some (.int (iI k)), some (.int (iI o)), some (.int (iI c)), none, none, none, none]) (st' := [.ref h.length]) rfl rfl ?_
  refine go_a (pc' := 21) (ls' := [some (.ref h.length), some (.int (iI k)), some (.int (iI o)), some (.int (iI c)), none, none, none, none]) (st' := [.int (iI o), .ref h.length]) rfl rfl ?_
  refine go_v (m := 98) (as := [.ref h.length, .int (iI o)]) (r := []) rfl rfl rfl mh_o rfl rfl (mm_lenL z (d + 8) 2 o h R J A N hc PJ n0 o0 (by omega) hL) (fun v h1 hq => ?_)
  obtain ⟨rfl, rfl⟩ := hq
  show xx_go (xt_P z) (d + 10) 154 24 [some (.ref h.length), some (.int (iI k)), some (.int (iI o)), some (.int (iI c)), none, none, none, none] [.int (iI (((2 : Nat) : Int)))] (mh h R J A N) _
  refine go_a (pc' := 25) (ls' := [some (.ref h.length), some (.int (iI k)), some (.int (iI o)), some (.int (iI c)), none, none, none, none]) (st' := [.int (iI 1), .int (iI (((2 : Nat) : Int)))]) rfl rfl ?_
  refine mi_le (t := 107) rfl rfl (by omega) (by omega) (by omega) (by omega) (fun q => by omega) (fun _ => ?_)
  refine go_a (pc' := 29) (ls' := [some (.ref h.length), some (.int (iI k)), some (.int (iI o)), some (.int (iI c)), none, none, none, none]) (st' := [.ref h.length]) rfl rfl ?_
  refine go_get rfl mh_o rfl rfl ?_
  refine go_a (pc' := 33) (ls' := [some (.ref h.length), some (.int (iI k)), some (.int (iI o)), some (.int (iI c)), none, none, none, none]) (st' := [.int (iI o), .ref (h.length + 1)]) rfl rfl ?_
  refine mi_ild rfl mh_a1 (by omega) (by omega) (by decide) ?_
  refine go_a (pc' := 36) (ls' := [some (.ref h.length), some (.int (iI k)), some (.int (iI o)), some (.int (iI c)), none, none, none, none]) (st' := [.int (iI 37), .int (iI (A 1 o))]) rfl rfl ?_
  refine mi_eq (t := 107) rfl rfl (by omega) (by omega) (by omega) (by omega) (fun q => by omega) (fun _ => ?_)
  refine go_a (pc' := 40) (ls' := [some (.ref h.length), some (.int (iI k)), some (.int (iI o)), some (.int (iI c)), none, none, none, none]) (st' := [.ref h.length]) rfl rfl ?_
  refine go_get rfl mh_o rfl rfl ?_
  refine go_a (pc' := 44) (ls' := [some (.ref h.length), some (.int (iI k)), some (.int (iI o)), some (.int (iI c)), none, none, none, none]) (st' := [.int (iI o), .ref (h.length + 1)]) rfl rfl ?_
  refine mi_ild rfl mh_a1 (by omega) (by omega) (by decide) ?_
  refine go_a (pc' := 47) (ls' := [some (.ref h.length), some (.int (iI k)), some (.int (iI o)), some (.int (iI c)), none, none, none, none]) (st' := [.int (iI 38), .int (iI (A 1 o))]) rfl rfl ?_
  refine mi_eq (t := 107) rfl rfl (by omega) (by omega) (by omega) (by omega) (fun q => by omega) (fun _ => ?_)
  refine go_a (pc' := 51) (ls' := [some (.ref h.length), some (.int (iI k)), some (.int (iI o)), some (.int (iI c)), none, none, none, none]) (st' := [.ref h.length]) rfl rfl ?_
  refine go_get rfl mh_o rfl rfl ?_
  refine go_a (pc' := 55) (ls' := [some (.ref h.length), some (.int (iI k)), some (.int (iI o)), some (.int (iI c)), none, none, none, none]) (st' := [.int (iI o), .ref (h.length + 1)]) rfl rfl ?_
  refine mi_ild rfl mh_a1 (by omega) (by omega) (by decide) ?_
  refine go_a (pc' := 58) (ls' := [some (.ref h.length), some (.int (iI k)), some (.int (iI o)), some (.int (iI c)), none, none, none, none]) (st' := [.int (iI 39), .int (iI (A 1 o))]) rfl rfl ?_
  refine mi_eq (t := 107) rfl rfl (by omega) (by omega) (by omega) (by omega) (fun q => by omega) (fun _ => ?_)
  refine go_a (pc' := 62) (ls' := [some (.ref h.length), some (.int (iI k)), some (.int (iI o)), some (.int (iI c)), none, none, none, none]) (st' := [.ref h.length]) rfl rfl ?_
  refine go_get rfl mh_o rfl rfl ?_
  refine go_a (pc' := 66) (ls' := [some (.ref h.length), some (.int (iI k)), some (.int (iI o)), some (.int (iI c)), none, none, none, none]) (st' := [.int (iI o), .ref (h.length + 1)]) rfl rfl ?_
  refine mi_ild rfl mh_a1 (by omega) (by omega) (by decide) ?_
  refine go_a (pc' := 69) (ls' := [some (.ref h.length), some (.int (iI k)), some (.int (iI o)), some (.int (iI c)), none, none, none, none]) (st' := [.int (iI 41), .int (iI (A 1 o))]) rfl rfl ?_
  refine mi_eq (t := 107) rfl rfl (by omega) (by omega) (by omega) (by omega) (fun q => by omega) (fun _ => ?_)
  refine go_a (pc' := 73) (ls' := [some (.ref h.length), some (.int (iI k)), some (.int (iI o)), some (.int (iI c)), none, none, none, none]) (st' := [.ref h.length]) rfl rfl ?_
  refine go_get rfl mh_o rfl rfl ?_
  refine go_a (pc' := 77) (ls' := [some (.ref h.length), some (.int (iI k)), some (.int (iI o)), some (.int (iI c)), none, none, none, none]) (st' := [.int (iI o), .ref (h.length + 1)]) rfl rfl ?_
  refine mi_ild rfl mh_a1 (by omega) (by omega) (by decide) ?_
  refine go_a (pc' := 80) (ls' := [some (.ref h.length), some (.int (iI k)), some (.int (iI o)), some (.int (iI c)), none, none, none, none]) (st' := [.int (iI 42), .int (iI (A 1 o))]) rfl rfl ?_
  refine mi_eq (t := 107) rfl rfl (by omega) (by omega) (by omega) (by omega) (fun _ => ?_) (fun q => by omega)
  refine go_a (pc' := 108) (ls' := [some (.ref h.length), some (.int (iI k)), some (.int (iI o)), some (.int (iI c)), none, none, none, none]) (st' := [.int (iI ((-1)))]) rfl rfl ?_
  refine go_a (pc' := 110) (ls' := [some (.ref h.length), some (.int (iI k)), some (.int (iI o)), some (.int (iI c)), some (.int (iI ((-1)))), none, none, none]) (st' := []) rfl rfl ?_
  refine go_a (pc' := 111) (ls' := [some (.ref h.length), some (.int (iI k)), some (.int (iI o)), some (.int (iI c)), some (.int (iI ((-1)))), none, none, none]) (st' := [.ref h.length]) rfl rfl ?_
  refine go_get rfl mh_o rfl rfl ?_
  refine go_a (pc' := 115) (ls' := [some (.ref h.length), some (.int (iI k)), some (.int (iI o)), some (.int (iI c)), some (.int (iI ((-1)))), none, none, none]) (st' := [.int (iI o), .ref (h.length + 1)]) rfl rfl ?_
  refine mi_ild rfl mh_a1 (by omega) (by omega) (by decide) ?_
  refine go_a (pc' := 118) (ls' := [some (.ref h.length), some (.int (iI k)), some (.int (iI o)), some (.int (iI c)), some (.int (iI ((-1)))), none, none, none]) (st' := [.int (iI 32), .int (iI (A 1 o))]) rfl rfl ?_
  refine mi_lt (t := 145) rfl rfl (by omega) (by omega) (by omega) (by omega) (fun q => by omega) (fun _ => ?_)
  refine go_a (pc' := 122) (ls' := [some (.ref h.length), some (.int (iI k)), some (.int (iI o)), some (.int (iI c)), some (.int (iI ((-1)))), none, none, none]) (st' := [.ref h.length]) rfl rfl ?_
  refine go_get rfl mh_o rfl rfl ?_
  refine go_a (pc' := 126) (ls' := [some (.ref h.length), some (.int (iI k)), some (.int (iI o)), some (.int (iI c)), some (.int (iI ((-1)))), none, none, none]) (st' := [.int (iI o), .ref (h.length + 1)]) rfl rfl ?_
  refine mi_ild rfl mh_a1 (by omega) (by omega) (by decide) ?_
  refine go_a (pc' := 129) (ls' := [some (.ref h.length), some (.int (iI k)), some (.int (iI o)), some (.int (iI c)), some (.int (iI ((-1)))), none, none, none]) (st' := [.int (iI 36), .int (iI (A 1 o))]) rfl rfl ?_
  refine mi_gt (t := 145) rfl rfl (by omega) (by omega) (by omega) (by omega) (fun _ => ?_) (fun q => by omega)
  refine go_a (pc' := 146) (ls' := [some (.ref h.length), some (.int (iI k)), some (.int (iI o)), some (.int (iI c)), some (.int (iI ((-1)))), none, none, none]) (st' := [.int (iI ((-1)))]) rfl rfl ?_
  refine go_a (pc' := 148) (ls' := [some (.ref h.length), some (.int (iI k)), some (.int (iI o)), some (.int (iI c)), some (.int (iI ((-1)))), some (.int (iI ((-1)))), none, none]) (st' := []) rfl rfl ?_
  refine go_a (pc' := 149) (ls' := [some (.ref h.length), some (.int (iI k)), some (.int (iI o)), some (.int (iI c)), some (.int (iI ((-1)))), some (.int (iI ((-1)))), none, none]) (st' := [.ref h.length]) rfl rfl ?_
  refine go_get rfl mh_o rfl rfl ?_
  refine go_a (pc' := 153) (ls' := [some (.ref h.length), some (.int (iI k)), some (.int (iI o)), some (.int (iI c)), some (.int (iI ((-1)))), some (.int (iI ((-1)))), none, none]) (st' := [.int (iI o), .ref (h.length + 1)]) rfl rfl ?_
  refine mi_ild rfl mh_a1 (by omega) (by omega) (by decide) ?_
  refine go_a (pc' := 156) (ls' := [some (.ref h.length), some (.int (iI k)), some (.int (iI o)), some (.int (iI c)), some (.int (iI ((-1)))), some (.int (iI ((-1)))), none, none]) (st' := [.int (iI 35), .int (iI (A 1 o))]) rfl rfl ?_
  refine mi_eq (t := 170) rfl rfl (by omega) (by omega) (by omega) (by omega) (fun q => by omega) (fun _ => ?_)
  refine go_a (pc' := 160) (ls' := [some (.ref h.length), some (.int (iI k)), some (.int (iI o)), some (.int (iI c)), some (.int (iI ((-1)))), some (.int (iI ((-1)))), none, none]) (st' := [.ref h.length]) rfl rfl ?_
  refine go_get rfl mh_o rfl rfl ?_
  refine go_a (pc' := 164) (ls' := [some (.ref h.length), some (.int (iI k)), some (.int (iI o)), some (.int (iI c)), some (.int (iI ((-1)))), some (.int (iI ((-1)))), none, none]) (st' := [.int (iI o), .ref (h.length + 1)]) rfl rfl ?_
  refine mi_ild rfl mh_a1 (by omega) (by omega) (by decide) ?_
  refine go_a (pc' := 167) (ls' := [some (.ref h.length), some (.int (iI k)), some (.int (iI o)), some (.int (iI c)), some (.int (iI ((-1)))), some (.int (iI ((-1)))), none, none]) (st' := [.int (iI 36), .int (iI (A 1 o))]) rfl rfl ?_
  refine mi_ne (t := 183) rfl rfl (by omega) (by omega) (by omega) (by omega) (fun _ => ?_) (fun q => by omega)
  refine go_a (pc' := 184) (ls' := [some (.ref h.length), some (.int (iI k)), some (.int (iI o)), some (.int (iI c)), some (.int (iI ((-1)))), some (.int (iI ((-1)))), none, none]) (st' := [.int (iI ((-1)))]) rfl rfl ?_
  refine go_a (pc' := 186) (ls' := [some (.ref h.length), some (.int (iI k)), some (.int (iI o)), some (.int (iI c)), some (.int (iI ((-1)))), some (.int (iI ((-1)))), some (.int (iI ((-1)))), none]) (st' := []) rfl rfl ?_
  refine go_a (pc' := 187) (ls' := [some (.ref h.length), some (.int (iI k)), some (.int (iI o)), some (.int (iI c)), some (.int (iI ((-1)))), some (.int (iI ((-1)))), some (.int (iI ((-1)))), none]) (st' := [.ref h.length]) rfl rfl ?_
  refine go_get rfl mh_o rfl rfl ?_
  refine go_a (pc' := 191) (ls' := [some (.ref h.length), some (.int (iI k)), some (.int (iI o)), some (.int (iI c)), some (.int (iI ((-1)))), some (.int (iI ((-1)))), some (.int (iI ((-1)))), none]) (st' := [.int (iI o), .ref (h.length + 1)]) rfl rfl ?_
  refine mi_ild rfl mh_a1 (by omega) (by omega) (by decide) ?_
  refine mi_ts (c := 42) (t := 613) rfl ef rfl ?_
  refine go_a (pc' := 614) (ls' := [some (.ref h.length), some (.int (iI k)), some (.int (iI o)), some (.int (iI c)), some (.int (iI ((-1)))), some (.int (iI ((-1)))), some (.int (iI ((-1)))), none]) (st' := [.ref h.length]) rfl rfl ?_
  refine go_a (pc' := 615) (ls' := [some (.ref h.length), some (.int (iI k)), some (.int (iI o)), some (.int (iI c)), some (.int (iI ((-1)))), some (.int (iI ((-1)))), some (.int (iI ((-1)))), none]) (st' := [.int (iI c), .ref h.length]) rfl rfl ?_
  refine go_v (m := 165) (as := [.ref h.length, .int (iI c)]) (r := []) rfl rfl rfl mh_o rfl rfl (mm_beginsEqual z (d + 7) ar c h R J A N hc PJ c0 (by omega) (CLA_RU hP R0 hC)) (fun v h1 hq => ?_)
  obtain ⟨⟨b, rfl, hb⟩, rfl⟩ := hq
  show xx_go (xt_P z) (d + 10) 154 618 [some (.ref h.length), some (.int (iI k)), some (.int (iI o)), some (.int (iI c)), some (.int (iI ((-1)))), some (.int (iI ((-1)))), some (.int (iI ((-1)))), none] [.int (iI b)] (mh h R J A N) _
  refine mi_ne0 (t := 623) rfl rfl (by omega) (by omega) (fun e => ?_) (fun e => ?_)
  rotate_left
  · refine go_a (pc' := 622) (ls' := [some (.ref h.length), some (.int (iI k)), some (.int (iI o)), some (.int (iI c)), some (.int (iI ((-1)))), some (.int (iI ((-1)))), some (.int (iI ((-1)))), none]) (st' := [.int (iI 0)]) rfl rfl ?_
    exact go_r rfl rfl rfl rfl rfl rfl ⟨0, J, A, N, rfl, rfl, RU_w R0 (by omega), Or.inl ⟨rfl, by rw [hρ, eqp_no hB hX hC (by omega)]; rfl⟩⟩
  have hb : 0 < A 51 c ∧ A 1 (A 50 (30 * c)) = 4 := by omega
  have ey := eqp_yes hB hX hC hb.1 hb.2
  have cz := hC.2.1 0 (Int.le_refl _) hb.1
  rw [Int.add_zero] at cz
  have eq := EQ_sides R0.2.1 cz.1.1 (by omega) hb.2 cz.2.1
  refine go_a (pc' := 624) (ls' := [some (.ref h.length), some (.int (iI k)), some (.int (iI o)), some (.int (iI c)), some (.int (iI ((-1)))), some (.int (iI ((-1)))), some (.int (iI ((-1)))), none]) (st' := [.ref h.length]) rfl rfl ?_
  refine go_a (pc' := 625) (ls' := [some (.ref h.length), some (.int (iI k)), some (.int (iI o)), some (.int (iI c)), some (.int (iI ((-1)))), some (.int (iI ((-1)))), some (.int (iI ((-1)))), none]) (st' := [.ref h.length, .ref h.length]) rfl rfl ?_
  refine go_a (pc' := 626) (ls' := [some (.ref h.length), some (.int (iI k)), some (.int (iI o)), some (.int (iI c)), some (.int (iI ((-1)))), some (.int (iI ((-1)))), some (.int (iI ((-1)))), none]) (st' := [.int (iI 4), .ref h.length, .ref h.length]) rfl rfl ?_
  refine go_a (pc' := 627) (ls' := [some (.ref h.length), some (.int (iI k)), some (.int (iI o)), some (.int (iI c)), some (.int (iI ((-1)))), some (.int (iI ((-1)))), some (.int (iI ((-1)))), none]) (st' := [.ref h.length, .int (iI 4), .ref h.length, .ref h.length]) rfl rfl ?_
  refine go_a (pc' := 628) (ls' := [some (.ref h.length), some (.int (iI k)), some (.int (iI o)), some (.int (iI c)), some (.int (iI ((-1)))), some (.int (iI ((-1)))), some (.int (iI ((-1)))), none]) (st' := [.ref h.length, .ref h.length, .int (iI 4), .ref h.length, .ref h.length]) rfl rfl ?_
  refine go_get rfl mh_o rfl rfl ?_
  refine go_a (pc' := 633) (ls' := [some (.ref h.length), some (.int (iI k)), some (.int (iI o)), some (.int (iI c)), some (.int (iI ((-1)))), some (.int (iI ((-1)))), some (.int (iI ((-1)))), none]) (st' := [.int (iI 30), .ref (h.length + 50), .ref h.length, .int (iI 4), .ref h.length, .ref h.length]) rfl rfl ?_
  refine go_a (pc' := 634) (ls' := [some (.ref h.length), some (.int (iI k)), some (.int (iI o)), some (.int (iI c)), some (.int (iI ((-1)))), some (.int (iI ((-1)))), some (.int (iI ((-1)))), none]) (st' := [.int (iI c), .int (iI 30), .ref (h.length + 50), .ref h.length, .int (iI 4), .ref h.length, .ref h.length]) rfl rfl ?_
  refine mi_mul rfl ?_
  refine mi_ild rfl mh_a50 (by omega) (by omega) (by decide) ?_
  refine go_a (pc' := 637) (ls' := [some (.ref h.length), some (.int (iI k)), some (.int (iI o)), some (.int (iI c)), some (.int (iI ((-1)))), some (.int (iI ((-1)))), some (.int (iI ((-1)))), none]) (st' := [.int (iI 2), .int (iI (A 50 (30 * c))), .ref h.length, .int (iI 4), .ref h.length, .ref h.length]) rfl rfl ?_
  refine go_v (m := 124) (as := [.ref h.length, .int (iI (A 50 (30 * c))), .int (iI 2)]) (r := [.int (iI 4), .ref h.length, .ref h.length]) rfl rfl rfl mh_o rfl rfl (mm_term z (d + 8) 2 3 (A 50 (30 * c)) h R J A N hc PJ (by decide) cz.1.1 (by omega) eq.1 (by decide)) (fun v h1 hq => ?_)
  obtain ⟨rfl, rfl⟩ := hq
  show xx_go (xt_P z) (d + 10) 154 640 [some (.ref h.length), some (.int (iI k)), some (.int (iI o)), some (.int (iI c)), some (.int (iI ((-1)))), some (.int (iI ((-1)))), some (.int (iI ((-1)))), none] [.int (iI (A 1 (rt A 2 (A 50 (30 * c))))), .int (iI 4), .ref h.length, .ref h.length] (mh h R J A N) _
  refine go_a (pc' := 641) (ls' := [some (.ref h.length), some (.int (iI k)), some (.int (iI o)), some (.int (iI c)), some (.int (iI ((-1)))), some (.int (iI ((-1)))), some (.int (iI ((-1)))), none]) (st' := [.ref h.length, .int (iI (A 1 (rt A 2 (A 50 (30 * c))))), .int (iI 4), .ref h.length, .ref h.length]) rfl rfl ?_
  refine go_a (pc' := 642) (ls' := [some (.ref h.length), some (.int (iI k)), some (.int (iI o)), some (.int (iI c)), some (.int (iI ((-1)))), some (.int (iI ((-1)))), some (.int (iI ((-1)))), none]) (st' := [.ref h.length, .ref h.length, .int (iI (A 1 (rt A 2 (A 50 (30 * c))))), .int (iI 4), .ref h.length, .ref h.length]) rfl rfl ?_
  refine go_get rfl mh_o rfl rfl ?_
  refine go_a (pc' := 647) (ls' := [some (.ref h.length), some (.int (iI k)), some (.int (iI o)), some (.int (iI c)), some (.int (iI ((-1)))), some (.int (iI ((-1)))), some (.int (iI ((-1)))), none]) (st' := [.int (iI 30), .ref (h.length + 50), .ref h.length, .int (iI (A 1 (rt A 2 (A 50 (30 * c))))), .int (iI 4), .ref h.length, .ref h.length]) rfl rfl ?_
  refine go_a (pc' := 648) (ls' := [some (.ref h.length), some (.int (iI k)), some (.int (iI o)), some (.int (iI c)), some (.int (iI ((-1)))), some (.int (iI ((-1)))), some (.int (iI ((-1)))), none]) (st' := [.int (iI c), .int (iI 30), .ref (h.length + 50), .ref h.length, .int (iI (A 1 (rt A 2 (A 50 (30 * c))))), .int (iI 4), .ref h.length, .ref h.length]) rfl rfl ?_
  refine mi_mul rfl ?_
  refine mi_ild rfl mh_a50 (by omega) (by omega) (by decide) ?_
  refine go_a (pc' := 651) (ls' := [some (.ref h.length), some (.int (iI k)), some (.int (iI o)), some (.int (iI c)), some (.int (iI ((-1)))), some (.int (iI ((-1)))), some (.int (iI ((-1)))), none]) (st' := [.int (iI 1), .int (iI (A 50 (30 * c))), .ref h.length, .int (iI (A 1 (rt A 2 (A 50 (30 * c))))), .int (iI 4), .ref h.length, .ref h.length]) rfl rfl ?_
  refine go_v (m := 124) (as := [.ref h.length, .int (iI (A 50 (30 * c))), .int (iI 1)]) (r := [.int (iI (A 1 (rt A 2 (A 50 (30 * c))))), .int (iI 4), .ref h.length, .ref h.length]) rfl rfl rfl mh_o rfl rfl (mm_term z (d + 8) 1 3 (A 50 (30 * c)) h R J A N hc PJ (by decide) cz.1.1 (by omega) eq.1 (by decide)) (fun v h1 hq => ?_)
  obtain ⟨rfl, rfl⟩ := hq
  obtain ⟨a, ha⟩ : ∃ a : Int, A 1 (rt A 1 (A 50 (30 * c))) = a := ⟨_, rfl⟩
  obtain ⟨b, hbb⟩ : ∃ b : Int, A 1 (rt A 2 (A 50 (30 * c))) = b := ⟨_, rfl⟩
  rw [ha, hbb]
  rw [ha, hbb] at eq ey
  obtain ⟨ta, et_a0⟩ : ∃ q : ob_T, DM A N a = q := ⟨_, rfl⟩
  obtain ⟨tb, et_b0⟩ : ∃ q : ob_T, DM A N b = q := ⟨_, rfl⟩
  rw [et_a0, et_b0] at ey
  show xx_go (xt_P z) (d + 10) 154 654 [some (.ref h.length), some (.int (iI k)), some (.int (iI o)), some (.int (iI c)), some (.int (iI ((-1)))), some (.int (iI ((-1)))), some (.int (iI ((-1)))), none] [.int (iI a), .int (iI b), .int (iI 4), .ref h.length, .ref h.length] (mh h R J A N) _
  have h_a0 : (0 ≤ a ∧ a < J 7) ∧ TZ A ar a = TZ A ar a := ⟨eq.2.1.1, rfl⟩
  have s_a := eq.2.1.2
  have h_b0 : (0 ≤ b ∧ b < J 7) ∧ TZ A ar b = TZ A ar b := ⟨eq.2.2.1.1, rfl⟩
  have s_b := eq.2.2.1.2
  refine go_v (m := 156) (as := [.ref h.length, .int (iI 4), .int (iI b), .int (iI a)]) (r := [.ref h.length]) rfl rfl rfl mh_o rfl rfl (mr_two z (d + 3) ar 4 b a h R J A N hc R0.2.1 T0.1 (by decide) (by omega) (by decide) (by omega) h_b0.1.1 h_b0.1.2 (by rw [h_b0.2]; exact s_b) h_a0.1.1 h_a0.1.2 (by rw [h_a0.2]; exact s_a) (R0.2.1.2.1.1.1.2.1 4 (by decide) (by decide)).symm) (fun v h1 hq => ?_)
  obtain ⟨q, I1, A1, rfl, rfl, R1, K1, tv1, tb1, te1, dt1, dj1⟩ := hq
  rw [(show DM A N 4 = .var 26209844 from T0.1.2 4 (by decide)), et_b0, et_a0] at dt1 dj1
  have et_q1 : DM A1 N q = sp_c2 26209844 tb ta := dt1
  have di1 : DIM _ (sp_opO (sp_c2 26209844 tb ta)) _ _ _ _ := dj1 _ _ _ _ D0 di0
  rw [h_b0.2, h_a0.2] at te1
  have D1 := K1 _ _ _ D0
  have h_q1 : (0 ≤ q ∧ q < I1 7) ∧ TZ A1 ar q = 1 + (TZ A ar b) + (TZ A ar a) := ⟨tv1.1, te1⟩
  have s_q : 1 ≤ 1 + (TZ A ar b) + (TZ A ar a) := by rw [← te1]; exact tv1.2
  have P1 := RU_P R1
  have X1 := RU_tr R0 R1 (Int.le_refl _)
  have T1 := BTX_RU R0.2.1 T0 R1
  have et_a1 := (DM_RU R0.2.1 T0 R1 h_a0.1.1 h_a0.1.2).trans et_a0
  have et_b1 := (DM_RU R0.2.1 T0 R1 h_b0.1.1 h_b0.1.2).trans et_b0
  have h_a1 := RU_carry PJ R1 h_a0 s_a
  have h_b1 := RU_carry PJ R1 h_b0 s_b
  have y1 := X1.2.2.1
  have z1 : I1 7 ≤ 140000 := P1.1
  have x1 : I 7 ≤ I1 7 := X1.1.2.1
  have ex1 : A1 1 o = A 1 o := (X1.1.2.2.1 o o0 o1).1
  clear et_a0 et_b0 T0 h_a0 h_b0
  show xx_go (xt_P z) (d + 10) 154 657 [some (.ref h.length), some (.int (iI k)), some (.int (iI o)), some (.int (iI c)), some (.int (iI ((-1)))), some (.int (iI ((-1)))), some (.int (iI ((-1)))), none] [.int (iI q), .ref h.length] (mh h R I1 A1 N) _
  refine go_v (m := 155) (as := [.ref h.length, .int (iI q)]) (r := []) rfl rfl rfl mh_o rfl rfl (mr_put z (d + 9) ar 0 0 _ q h R I1 A1 N hc X1.2.1 T1.1 D1 (by omega) h_q1.1.1 h_q1.1.2 (by rw [h_q1.2]; exact s_q) (fun b => by rw [h_q1.2]; have := tb1 b; rw [te1] at this; exact this)) (fun v h1 hq => ?_)
  obtain ⟨rfl, I2, A2, rfl, R2, D2, u2, e2, jj2⟩ := hq
  have di2 := jj2 _ _ di1
  rw [h_q1.2] at D2
  have P2 := RU_P R2
  have X2 := RU_tr X1 R2 (Int.le_refl _)
  have T2 := BTX_RU X1.2.1 T1 R2
  have et_a2 := (DM_RU X1.2.1 T1 R2 h_a1.1.1 h_a1.1.2).trans et_a1
  have et_b2 := (DM_RU X1.2.1 T1 R2 h_b1.1.1 h_b1.1.2).trans et_b1
  have et_q2 := (DM_RU X1.2.1 T1 R2 h_q1.1.1 h_q1.1.2).trans et_q1
  have h_a2 := RU_carry P1 R2 h_a1 s_a
  have h_b2 := RU_carry P1 R2 h_b1 s_b
  have h_q2 := RU_carry P1 R2 h_q1 s_q
  have y2 := X2.2.2.1
  have z2 : I2 7 ≤ 140000 := P2.1
  have x2 : I 7 ≤ I2 7 := X2.1.2.1
  have ex2 : A2 1 o = A 1 o := (X2.1.2.2.1 o o0 o1).1
  clear et_a1 et_b1 et_q1 T1 h_a1 h_b1 h_q1 y1 z1 x1 ex1
  show xx_go (xt_P z) (d + 10) 154 660 [some (.ref h.length), some (.int (iI k)), some (.int (iI o)), some (.int (iI c)), some (.int (iI ((-1)))), some (.int (iI ((-1)))), some (.int (iI ((-1)))), none] [] (mh h R I2 A2 N) _
  have f50 : A2 50 (30 * c) = A 50 (30 * c) := by rw [X2.1.2.2.2.2 50 (by decide) (by decide) (by decide) (by decide) (by decide) (by decide) (by unfold GC; omega)]
  refine go_a (pc' := 661) (ls' := [some (.ref h.length), some (.int (iI k)), some (.int (iI o)), some (.int (iI c)), some (.int (iI ((-1)))), some (.int (iI ((-1)))), some (.int (iI ((-1)))), none]) (st' := [.ref h.length]) rfl rfl ?_
  refine go_a (pc' := 662) (ls' := [some (.ref h.length), some (.int (iI k)), some (.int (iI o)), some (.int (iI c)), some (.int (iI ((-1)))), some (.int (iI ((-1)))), some (.int (iI ((-1)))), none]) (st' := [.int (iI c), .ref h.length]) rfl rfl ?_
  refine go_a (pc' := 663) (ls' := [some (.ref h.length), some (.int (iI k)), some (.int (iI o)), some (.int (iI c)), some (.int (iI ((-1)))), some (.int (iI ((-1)))), some (.int (iI ((-1)))), none]) (st' := [.ref h.length, .int (iI c), .ref h.length]) rfl rfl ?_
  refine go_get rfl mh_o rfl rfl ?_
  refine go_a (pc' := 668) (ls' := [some (.ref h.length), some (.int (iI k)), some (.int (iI o)), some (.int (iI c)), some (.int (iI ((-1)))), some (.int (iI ((-1)))), some (.int (iI ((-1)))), none]) (st' := [.int (iI 30), .ref (h.length + 50), .int (iI c), .ref h.length]) rfl rfl ?_
  refine go_a (pc' := 669) (ls' := [some (.ref h.length), some (.int (iI k)), some (.int (iI o)), some (.int (iI c)), some (.int (iI ((-1)))), some (.int (iI ((-1)))), some (.int (iI ((-1)))), none]) (st' := [.int (iI c), .int (iI 30), .ref (h.length + 50), .int (iI c), .ref h.length]) rfl rfl ?_
  refine mi_mul rfl ?_
  refine mi_ild rfl mh_a50 (by omega) (by omega) (by decide) ?_
  rw [f50]
  show xx_go (xt_P z) (d + 10) 154 671 [some (.ref h.length), some (.int (iI k)), some (.int (iI o)), some (.int (iI c)), some (.int (iI ((-1)))), some (.int (iI ((-1)))), some (.int (iI ((-1)))), none] [.int (iI (A 50 (30 * c))), .int (iI c), .ref h.length] (mh h R I2 A2 N) _
  refine go_v (m := 158) (as := [.ref h.length, .int (iI c), .int (iI (A 50 (30 * c)))]) (r := []) rfl rfl rfl mh_o rfl rfl (mr_pour z (d + 8) ar _ _ _ c (A 50 (30 * c)) h R I2 A2 N hc X2.2.1 T2.1 D2 (by omega) c0 c1 (CLA_RU hP X2 hC) (by omega) (by omega)) (fun v h1 hq => ?_)
  obtain ⟨rfl, I3, A3, rfl, R3, -, D3, dj3⟩ := hq
  rw [pol_rm X2.2.1 T2 (CLA_RU hP X2 hC) cz.1.1 (by omega), CLD_RU hB hX X2 hC, DM_RU hB hX X2 cz.1.1 cz.1.2, rm_hd _ ey.1 hnd] at dj3
  have di3 := dj3 _ di2
  have sg : SG (TZ A2 ar) (fun k => A2 50 (30 * c + k)) (A2 51 c).toNat = SG (TZ A ar) (fun k => A 50 (30 * c + k)) (A 51 c).toNat := CLA_SG hP X2 hC
  have m5 : A2 51 c = A 51 c := by rw [X2.1.2.2.2.2 51 (by decide) (by decide) (by decide) (by decide) (by decide) (by decide) (by unfold GC; omega)]
  have tz0 : TZ A2 ar (A 50 (30 * c)) = TZ A ar (A 50 (30 * c)) := RU_t hP X2 cz.1.1 cz.1.2 cz.2.1
  rw [sg, m5, f50, tz0, show PE A2 c (A 50 (30 * c)) 1 (A 51 c) = 1 from if_pos ⟨hb.1, f50⟩, show PE A2 c (A 50 (30 * c)) (TZ A ar (A 50 (30 * c))) (A 51 c) = TZ A ar (A 50 (30 * c)) from if_pos ⟨hb.1, f50⟩] at D3
  have P3 := RU_P R3
  have X3 := RU_tr X2 R3 (Int.le_refl _)
  have T3 := BTX_RU X2.2.1 T2 R3
  have et_a3 := (DM_RU X2.2.1 T2 R3 h_a2.1.1 h_a2.1.2).trans et_a2
  have et_b3 := (DM_RU X2.2.1 T2 R3 h_b2.1.1 h_b2.1.2).trans et_b2
  have et_q3 := (DM_RU X2.2.1 T2 R3 h_q2.1.1 h_q2.1.2).trans et_q2
  have h_a3 := RU_carry P2 R3 h_a2 s_a
  have h_b3 := RU_carry P2 R3 h_b2 s_b
  have h_q3 := RU_carry P2 R3 h_q2 s_q
  have y3 := X3.2.2.1
  have z3 : I3 7 ≤ 140000 := P3.1
  have x3 : I 7 ≤ I3 7 := X3.1.2.1
  have ex3 : A3 1 o = A 1 o := (X3.1.2.2.1 o o0 o1).1
  clear et_a2 et_b2 et_q2 T2 h_a2 h_b2 h_q2 y2 z2 x2 ex2
  show xx_go (xt_P z) (d + 10) 154 674 [some (.ref h.length), some (.int (iI k)), some (.int (iI o)), some (.int (iI c)), some (.int (iI ((-1)))), some (.int (iI ((-1)))), some (.int (iI ((-1)))), none] [] (mh h R I3 A3 N) _
  have eqs := eq.2.2.2
  refine go_a (pc' := 675) (ls' := [some (.ref h.length), some (.int (iI k)), some (.int (iI o)), some (.int (iI c)), some (.int (iI ((-1)))), some (.int (iI ((-1)))), some (.int (iI ((-1)))), none]) (st' := [.int (iI 1)]) rfl rfl ?_
  refine go_r rfl rfl rfl rfl rfl rfl ⟨1, I3, A3, N, rfl, rfl, RU_w X3 (by omega), Or.inr ⟨rfl, ⟨_, di3, by rw [hρ, ey.1]; show (sp_eqp _).bind _ = _; rw [ey.2]; rfl⟩, _, _, DR_w D3 (by omega) (Int.le_refl _) (Int.le_refl _), fun b9 b30 b400 => ?_⟩⟩
  have dm := D3.1
  have ds := D3.2.2.1
  have dv := D3.2.2.2
  have kk : KDR dd I3 A3 ar ≤ E + 128 * WD A o - I3 7 := by have kw := KK_id (d := dd) (n := A 51 c) (s := SG (TZ A ar) (fun k => A 50 (30 * c + k)) (A 51 c).toNat) (v := SG (NT A wq) (fun k => A 50 (30 * c + k)) (A 51 c).toNat) (n2 := I3 67) (s2 := SG (TZ A3 ar) (A3 38) (I3 67).toNat) (v2 := SG (NT A3 wq) (A3 38) (I3 67).toNat) (x := 381) d0 d38 (by omega) (by omega) (by omega) (by omega); unfold KDR; omega
  omega
set_option maxRecDepth 4000 in
theorem mm_con_put (z : Value) (d : Nat) (ar : Int → Int) (ft : Nat → Int) (Fb : List (Nat × List Nat × ob_T)) (Tb : List (Nat × ob_T)) (ρ : Option (List ob_T)) (k o c E dd : Int) (h R : xx_H) (I : Nat → Int) (A : Nat → Int → Int) (N : Int → Int) (hc : 12 ≤ h.length) (hB : BI ar I A N) (k0 : 0 ≤ k) (k1 : k < 40) (ek : A 47 k = o) (o0 : 0 ≤ o) (o1 : o < I 7) (hF : FORM ar I A N o) (ec : A 49 k = c) (c0 : 0 ≤ c) (w : WD A o ≤ 1000) (hE : E + 128 * WD A o ≤ 140000) (d0 : 0 ≤ dd) (d1 : dd ≤ 39) (c9 : Int) (hcf : CFX ar I A o c9) (hX : BTX ar ft Fb Tb I A N) (w0 : I 49 = 0) (ef : A 1 o = 43) (hU : I 7 ≤ E + c9 + (128 * WD A (A 1 (rt A 1 o)) - KC (dd + 1) A ar c + (128 * WD A (A 1 (rt A 2 o)) - KC (dd + 1) A ar (c + 1)))) (d38 : dd ≤ 38) (c1 : c + 1 < 350) (hC : CLA ar I A c) (hC1 : CLA ar I A (c + 1)) (hnd : (CLD A N c).Nodup) (hρ : ρ = ((CLD A N c).head?.bind sp_eqp).bind (fun e => sp_cz ((CLD A N (c + 1)).map (fun t => sp_opO (sp_re e.1 e.2 t).1) ++ ((CLD A N c).drop 1).map some))) : xx_cl (xt_P z) (d + 11) 154 [.ref h.length, .int (iI k)] (mh h R I A N) (fun v h1 => ∃ (b : Int) (I1 : Nat → Int) (A1 : Nat → Int → Int) (N1 : Int → Int), v = some (.int (iI b)) ∧ h1 = mh h R I1 A1 N1 ∧ RU ar 140000 I A N I1 A1 N1 ∧ ((b = 0 ∧ ρ = none) ∨ (b = 1 ∧ (∃ its : List (Option ob_T), DIT its I1 A1 N1 ∧ ρ = sp_cz its) ∧ ∃ S V : Int, DR ar 1190 S V I1 A1 ∧ (I1 49 = 0 → I1 67 ≤ 30 → SG (TZ A1 ar) (A1 38) (I1 67).toNat ≤ 400 → I1 7 + KDR dd I1 A1 ar ≤ E + 128 * WD A o)))) := by
  have hP := BI_P hB
  have n0 := BI_n0 hB
  have p9 := hP.1
  have nm := hB.1.2.1.1
  have n2 : A 1 2 < 0 := by rw [hB.1.2.1.2 2 (by decide) (by decide)]; decide
  obtain ⟨n, hL, n1, hF⟩ := hF
  have en : n = 3 := by
    rcases hF with q | q | q | q | q | q | q | q | q | q | q | q
    · omega
    · omega
    · omega
    · omega
    · omega
    · omega
    · omega
    · omega
    · omega
    · omega
    · exact q.2
    · omega
  clear hF
  subst en
  have wo := WD_pair hP o0 o1 (by omega)
  rw [if_neg (fun q => absurd q.1 (by omega))] at wo
  have v0 := VD_rt hP o0 o1 hL (by decide : 0 < 3)
  have v0e : VD A o = WD A (A 1 o) + VD A (rt A 1 o) := v0.1
  have wr : WD A (A 1 o) = 1 := WD_atom (by rw [hB.1.2.1.2 _ (by omega) (by omega)]; decide)
  have v1 := VD_rt hP o0 o1 hL (by decide : 1 < 3)
  have v1e : VD A (rt A 1 o) = WD A (A 1 (rt A 1 o)) + VD A (rt A 2 o) := v1.1
  have v2 := VD_rt hP o0 o1 hL (by decide : 2 < 3)
  have v2e : VD A (rt A 2 o) = WD A (A 1 (rt A 2 o)) + VD A (rt A 3 o) := v2.1
  have vz : VD A (rt A 3 o) = 0 := by rw [isL_end 3 o hL, VD_atom n0, if_pos rfl]
  have cf := hcf.2 (by omega)
  have cf2 := cf.2.2.1 (by omega)
  have h1 := hC.1
  have c120 := CLA_120 hC
  have kc := KK_ge (d := dd + 1) (n := A 51 c) (s := SG (TZ A ar) (fun k => A 50 (30 * c + k)) (A 51 c).toNat) (v := SG (NT A wq) (fun k => A 50 (30 * c + k)) (A 51 c).toNat) (by omega) (by omega)
  have kce : KC (dd + 1) A ar c = KK (dd + 1) (A 51 c) (SG (TZ A ar) (fun k => A 50 (30 * c + k)) (A 51 c).toNat) (SG (NT A wq) (fun k => A 50 (30 * c + k)) (A 51 c).toNat) := rfl
  have h2 := hC1.1
  have cb := CLA_120 hC1
  have s400 := hC1.2.2
  have kb := KK_ge (d := dd + 1) (n := A 51 (c + 1)) (s := SG (TZ A ar) (fun k => A 50 (30 * (c + 1) + k)) (A 51 (c + 1)).toNat) (v := SG (NT A wq) (fun k => A 50 (30 * (c + 1) + k)) (A 51 (c + 1)).toNat) (by omega) (by omega)
  have kbe : KC (dd + 1) A ar (c + 1) = KK (dd + 1) (A 51 (c + 1)) (SG (TZ A ar) (fun k => A 50 (30 * (c + 1) + k)) (A 51 (c + 1)).toNat) (SG (NT A wq) (fun k => A 50 (30 * (c + 1) + k)) (A 51 (c + 1)).toNat) := rfl
  refine cl_go rfl ?_
  show xx_go (xt_P z) (d + 10) 154 0 [some (.ref h.length), some (.int (iI k)), none, none, none, none, none, none] [] (mh h R I A N) _
  refine go_a (pc' := 1) (ls' := [some (.ref h.length), some (.int (iI k)), none, none, none, none, none, none]) (st' := [.ref h.length]) rfl rfl ?_
  refine go_get rfl mh_o rfl rfl ?_
  refine go_a (pc' := 5) (ls' := [some (.ref h.length), some (.int (iI k)), none, none, none, none, none, none]) (st' := [.int (iI k), .ref (h.length + 47)]) rfl rfl ?_
  refine mi_ild rfl mh_a47 (by omega) (by omega) (by decide) ?_
  rw [ek]
  refine go_a (pc' := 7) (ls' := [some (.ref h.length), some (.int (iI k)), some (.int (iI o)), none, none, none, none, none]) (st' := []) rfl rfl ?_
  refine go_a (pc' := 8) (ls' := [some (.ref h.length), some (.int (iI k)), some (.int (iI o)), none, none, none, none, none]) (st' := [.ref h.length]) rfl rfl ?_
  refine go_get rfl mh_o rfl rfl ?_
  refine go_a (pc' := 12) (ls' := [some (.ref h.length), some (.int (iI k)), some (.int (iI o)), none, none, none, none, none]) (st' := [.int (iI k), .ref (h.length + 49)]) rfl rfl ?_
  refine mi_ild rfl mh_a49 (by omega) (by omega) (by decide) ?_
  rw [ec]
  refine go_a (pc' := 14) (ls' := [some (.ref h.length), some (.int (iI k)), some (.int (iI o)), some (.int (iI c)), none, none, none, none]) (st' := []) rfl rfl ?_
  refine go_a (pc' := 15) (ls' := [some (.ref h.length), some (.int (iI k)), some (.int (iI o)), some (.int (iI c)), none, none, none, none]) (st' := [.ref h.length]) rfl rfl ?_
  refine go_a (pc' := 16) (ls' := [some (.ref h.length), some (.int (iI k)), some (.int (iI o)), some (.int (iI c)), none, none, none, none]) (st' := [.int (iI 0), .ref h.length]) rfl rfl ?_
  refine go_put (j := 67) rfl mh_o rfl rfl (show 12 ≤ _ from hc) (show 67 < 86 by decide) rfl rfl ?_
  rw [mh_p67]
  obtain ⟨J, hJ⟩ : ∃ J : Nat → Int, J = su I 67 0 := ⟨_, rfl⟩
  rw [← hJ]
  have bJ : BX (fun j => j = 67) NO I A N J A N := by
    subst hJ
    exact BX_of hB.1.1 (fun j q => su_ne q) (fun a _ => rfl) rfl rfl rfl rfl rfl rfl rfl rfl rfl rfl
  have J7 : J 7 = I 7 := by subst hJ; rfl
  have J49 : J 49 = I 49 := by subst hJ; rfl
  have R0 : RU ar 0 I A N J A N := RU_of hB bJ (fun j q => by subst q; unfold FC; omega) (fun a q => absurd q (fun z => z)) (SZI_124 (A := A) (A1 := A) hB.1.2.2 rfl rfl rfl J7) (by subst hJ; rfl) (by subst hJ; rfl) (by rw [J49]; exact hB.2.2.2.2) (by omega) (fun _ => J49)
  have D0 : DR ar 0 0 0 J A := by subst hJ; exact DR_00
  have PJ := RU_P R0
  have T0 : BTX ar ft Fb Tb J A N := BTX_RU hB hX R0
  have di0 : DIT [] J A N := by
    subst hJ
    exact Or.inl ⟨w0, rfl⟩
  refine go_a (pc' := 20) (ls' := [some (.ref h.length), some (.int (iI k)), some (.int (iI o)), some (.int (iI c)), none, none, none, none]) (st' := [.ref h.length]) rfl rfl ?_
  refine go_a (pc' := 21) (ls' := [some (.ref h.length), some (.int (iI k)), some (.int (iI o)), some (.int (iI c)), none, none, none, none]) (st' := [.int (iI o), .ref h.length]) rfl rfl ?_
  refine go_v (m := 98) (as := [.ref h.length, .int (iI o)]) (r := []) rfl rfl rfl mh_o rfl rfl (mm_lenL z (d + 8) 3 o h R J A N hc PJ n0 o0 (by omega) hL) (fun v h1 hq => ?_)
  obtain ⟨rfl, rfl⟩ := hq
  show xx_go (xt_P z) (d + 10) 154 24 [some (.ref h.length), some (.int (iI k)), some (.int (iI o)), some (.int (iI c)), none, none, none, none] [.int (iI (((3 : Nat) : Int)))] (mh h R J A N) _
  refine go_a (pc' := 25) (ls' := [some (.ref h.length), some (.int (iI k)), some (.int (iI o)), some (.int (iI c)), none, none, none, none]) (st' := [.int (iI 1), .int (iI (((3 : Nat) : Int)))]) rfl rfl ?_
  refine mi_le (t := 107) rfl rfl (by omega) (by omega) (by omega) (by omega) (fun q => by omega) (fun _ => ?_)
  refine go_a (pc' := 29) (ls' := [some (.ref h.length), some (.int (iI k)), some (.int (iI o)), some (.int (iI c)), none, none, none, none]) (st' := [.ref h.length]) rfl rfl ?_
  refine go_get rfl mh_o rfl rfl ?_
  refine go_a (pc' := 33) (ls' := [some (.ref h.length), some (.int (iI k)), some (.int (iI o)), some (.int (iI c)), none, none, none, none]) (st' := [.int (iI o), .ref (h.length + 1)]) rfl rfl ?_
  refine mi_ild rfl mh_a1 (by omega) (by omega) (by decide) ?_
  refine go_a (pc' := 36) (ls' := [some (.ref h.length), some (.int (iI k)), some (.int (iI o)), some (.int (iI c)), none, none, none, none]) (st' := [.int (iI 37), .int (iI (A 1 o))]) rfl rfl ?_
  refine mi_eq (t := 107) rfl rfl (by omega) (by omega) (by omega) (by omega) (fun q => by omega) (fun _ => ?_)
  refine go_a (pc' := 40) (ls' := [some (.ref h.length), some (.int (iI k)), some (.int (iI o)), some (.int (iI c)), none, none, none, none]) (st' := [.ref h.length]) rfl rfl ?_
  refine go_get rfl mh_o rfl rfl ?_
  refine go_a (pc' := 44) (ls' := [some (.ref h.length), some (.int (iI k)), some (.int (iI o)), some (.int (iI c)), none, none, none, none]) (st' := [.int (iI o), .ref (h.length + 1)]) rfl rfl ?_
  refine mi_ild rfl mh_a1 (by omega) (by omega) (by decide) ?_
  refine go_a (pc' := 47) (ls' := [some (.ref h.length), some (.int (iI k)), some (.int (iI o)), some (.int (iI c)), none, none, none, none]) (st' := [.int (iI 38), .int (iI (A 1 o))]) rfl rfl ?_
  refine mi_eq (t := 107) rfl rfl (by omega) (by omega) (by omega) (by omega) (fun q => by omega) (fun _ => ?_)
  refine go_a (pc' := 51) (ls' := [some (.ref h.length), some (.int (iI k)), some (.int (iI o)), some (.int (iI c)), none, none, none, none]) (st' := [.ref h.length]) rfl rfl ?_
  refine go_get rfl mh_o rfl rfl ?_
  refine go_a (pc' := 55) (ls' := [some (.ref h.length), some (.int (iI k)), some (.int (iI o)), some (.int (iI c)), none, none, none, none]) (st' := [.int (iI o), .ref (h.length + 1)]) rfl rfl ?_
  refine mi_ild rfl mh_a1 (by omega) (by omega) (by decide) ?_
  refine go_a (pc' := 58) (ls' := [some (.ref h.length), some (.int (iI k)), some (.int (iI o)), some (.int (iI c)), none, none, none, none]) (st' := [.int (iI 39), .int (iI (A 1 o))]) rfl rfl ?_
  refine mi_eq (t := 107) rfl rfl (by omega) (by omega) (by omega) (by omega) (fun q => by omega) (fun _ => ?_)
  refine go_a (pc' := 62) (ls' := [some (.ref h.length), some (.int (iI k)), some (.int (iI o)), some (.int (iI c)), none, none, none, none]) (st' := [.ref h.length]) rfl rfl ?_
  refine go_get rfl mh_o rfl rfl ?_
  refine go_a (pc' := 66) (ls' := [some (.ref h.length), some (.int (iI k)), some (.int (iI o)), some (.int (iI c)), none, none, none, none]) (st' := [.int (iI o), .ref (h.length + 1)]) rfl rfl ?_
  refine mi_ild rfl mh_a1 (by omega) (by omega) (by decide) ?_
  refine go_a (pc' := 69) (ls' := [some (.ref h.length), some (.int (iI k)), some (.int (iI o)), some (.int (iI c)), none, none, none, none]) (st' := [.int (iI 41), .int (iI (A 1 o))]) rfl rfl ?_
  refine mi_eq (t := 107) rfl rfl (by omega) (by omega) (by omega) (by omega) (fun q => by omega) (fun _ => ?_)
  refine go_a (pc' := 73) (ls' := [some (.ref h.length), some (.int (iI k)), some (.int (iI o)), some (.int (iI c)), none, none, none, none]) (st' := [.ref h.length]) rfl rfl ?_
  refine go_get rfl mh_o rfl rfl ?_
  refine go_a (pc' := 77) (ls' := [some (.ref h.length), some (.int (iI k)), some (.int (iI o)), some (.int (iI c)), none, none, none, none]) (st' := [.int (iI o), .ref (h.length + 1)]) rfl rfl ?_
  refine mi_ild rfl mh_a1 (by omega) (by omega) (by decide) ?_
  refine go_a (pc' := 80) (ls' := [some (.ref h.length), some (.int (iI k)), some (.int (iI o)), some (.int (iI c)), none, none, none, none]) (st' := [.int (iI 42), .int (iI (A 1 o))]) rfl rfl ?_
  refine mi_eq (t := 107) rfl rfl (by omega) (by omega) (by omega) (by omega) (fun q => by omega) (fun _ => ?_)
  refine go_a (pc' := 84) (ls' := [some (.ref h.length), some (.int (iI k)), some (.int (iI o)), some (.int (iI c)), none, none, none, none]) (st' := [.ref h.length]) rfl rfl ?_
  refine go_get rfl mh_o rfl rfl ?_
  refine go_a (pc' := 88) (ls' := [some (.ref h.length), some (.int (iI k)), some (.int (iI o)), some (.int (iI c)), none, none, none, none]) (st' := [.int (iI o), .ref (h.length + 1)]) rfl rfl ?_
  refine mi_ild rfl mh_a1 (by omega) (by omega) (by decide) ?_
  refine go_a (pc' := 91) (ls' := [some (.ref h.length), some (.int (iI k)), some (.int (iI o)), some (.int (iI c)), none, none, none, none]) (st' := [.int (iI 43), .int (iI (A 1 o))]) rfl rfl ?_
  refine mi_eq (t := 107) rfl rfl (by omega) (by omega) (by omega) (by omega) (fun _ => ?_) (fun q => by omega)
  refine go_a (pc' := 108) (ls' := [some (.ref h.length), some (.int (iI k)), some (.int (iI o)), some (.int (iI c)), none, none, none, none]) (st' := [.int (iI ((-1)))]) rfl rfl ?_
  refine go_a (pc' := 110) (ls' := [some (.ref h.length), some (.int (iI k)), some (.int (iI o)), some (.int (iI c)), some (.int (iI ((-1)))), none, none, none]) (st' := []) rfl rfl ?_
  refine go_a (pc' := 111) (ls' := [some (.ref h.length), some (.int (iI k)), some (.int (iI o)), some (.int (iI c)), some (.int (iI ((-1)))), none, none, none]) (st' := [.ref h.length]) rfl rfl ?_
  refine go_get rfl mh_o rfl rfl ?_
  refine go_a (pc' := 115) (ls' := [some (.ref h.length), some (.int (iI k)), some (.int (iI o)), some (.int (iI c)), some (.int (iI ((-1)))), none, none, none]) (st' := [.int (iI o), .ref (h.length + 1)]) rfl rfl ?_
  refine mi_ild rfl mh_a1 (by omega) (by omega) (by decide) ?_
  refine go_a (pc' := 118) (ls' := [some (.ref h.length), some (.int (iI k)), some (.int (iI o)), some (.int (iI c)), some (.int (iI ((-1)))), none, none, none]) (st' := [.int (iI 32), .int (iI (A 1 o))]) rfl rfl ?_
  refine mi_lt (t := 145) rfl rfl (by omega) (by omega) (by omega) (by omega) (fun q => by omega) (fun _ => ?_)
  refine go_a (pc' := 122) (ls' := [some (.ref h.length), some (.int (iI k)), some (.int (iI o)), some (.int (iI c)), some (.int (iI ((-1)))), none, none, none]) (st' := [.ref h.length]) rfl rfl ?_
  refine go_get rfl mh_o rfl rfl ?_
  refine go_a (pc' := 126) (ls' := [some (.ref h.length), some (.int (iI k)), some (.int (iI o)), some (.int (iI c)), some (.int (iI ((-1)))), none, none, none]) (st' := [.int (iI o), .ref (h.length + 1)]) rfl rfl ?_
  refine mi_ild rfl mh_a1 (by omega) (by omega) (by decide) ?_
  refine go_a (pc' := 129) (ls' := [some (.ref h.length), some (.int (iI k)), some (.int (iI o)), some (.int (iI c)), some (.int (iI ((-1)))), none, none, none]) (st' := [.int (iI 36), .int (iI (A 1 o))]) rfl rfl ?_
  refine mi_gt (t := 145) rfl rfl (by omega) (by omega) (by omega) (by omega) (fun _ => ?_) (fun q => by omega)
  refine go_a (pc' := 146) (ls' := [some (.ref h.length), some (.int (iI k)), some (.int (iI o)), some (.int (iI c)), some (.int (iI ((-1)))), none, none, none]) (st' := [.int (iI ((-1)))]) rfl rfl ?_
  refine go_a (pc' := 148) (ls' := [some (.ref h.length), some (.int (iI k)), some (.int (iI o)), some (.int (iI c)), some (.int (iI ((-1)))), some (.int (iI ((-1)))), none, none]) (st' := []) rfl rfl ?_
  refine go_a (pc' := 149) (ls' := [some (.ref h.length), some (.int (iI k)), some (.int (iI o)), some (.int (iI c)), some (.int (iI ((-1)))), some (.int (iI ((-1)))), none, none]) (st' := [.ref h.length]) rfl rfl ?_
  refine go_get rfl mh_o rfl rfl ?_
  refine go_a (pc' := 153) (ls' := [some (.ref h.length), some (.int (iI k)), some (.int (iI o)), some (.int (iI c)), some (.int (iI ((-1)))), some (.int (iI ((-1)))), none, none]) (st' := [.int (iI o), .ref (h.length + 1)]) rfl rfl ?_
  refine mi_ild rfl mh_a1 (by omega) (by omega) (by decide) ?_
  refine go_a (pc' := 156) (ls' := [some (.ref h.length), some (.int (iI k)), some (.int (iI o)), some (.int (iI c)), some (.int (iI ((-1)))), some (.int (iI ((-1)))), none, none]) (st' := [.int (iI 35), .int (iI (A 1 o))]) rfl rfl ?_
  refine mi_eq (t := 170) rfl rfl (by omega) (by omega) (by omega) (by omega) (fun q => by omega) (fun _ => ?_)
  refine go_a (pc' := 160) (ls' := [some (.ref h.length), some (.int (iI k)), some (.int (iI o)), some (.int (iI c)), some (.int (iI ((-1)))), some (.int (iI ((-1)))), none, none]) (st' := [.ref h.length]) rfl rfl ?_
  refine go_get rfl mh_o rfl rfl ?_
  refine go_a (pc' := 164) (ls' := [some (.ref h.length), some (.int (iI k)), some (.int (iI o)), some (.int (iI c)), some (.int (iI ((-1)))), some (.int (iI ((-1)))), none, none]) (st' := [.int (iI o), .ref (h.length + 1)]) rfl rfl ?_
  refine mi_ild rfl mh_a1 (by omega) (by omega) (by decide) ?_
  refine go_a (pc' := 167) (ls' := [some (.ref h.length), some (.int (iI k)), some (.int (iI o)), some (.int (iI c)), some (.int (iI ((-1)))), some (.int (iI ((-1)))), none, none]) (st' := [.int (iI 36), .int (iI (A 1 o))]) rfl rfl ?_
  refine mi_ne (t := 183) rfl rfl (by omega) (by omega) (by omega) (by omega) (fun _ => ?_) (fun q => by omega)
  refine go_a (pc' := 184) (ls' := [some (.ref h.length), some (.int (iI k)), some (.int (iI o)), some (.int (iI c)), some (.int (iI ((-1)))), some (.int (iI ((-1)))), none, none]) (st' := [.int (iI ((-1)))]) rfl rfl ?_
  refine go_a (pc' := 186) (ls' := [some (.ref h.length), some (.int (iI k)), some (.int (iI o)), some (.int (iI c)), some (.int (iI ((-1)))), some (.int (iI ((-1)))), some (.int (iI ((-1)))), none]) (st' := []) rfl rfl ?_
  refine go_a (pc' := 187) (ls' := [some (.ref h.length), some (.int (iI k)), some (.int (iI o)), some (.int (iI c)), some (.int (iI ((-1)))), some (.int (iI ((-1)))), some (.int (iI ((-1)))), none]) (st' := [.ref h.length]) rfl rfl ?_
  refine go_get rfl mh_o rfl rfl ?_
  refine go_a (pc' := 191) (ls' := [some (.ref h.length), some (.int (iI k)), some (.int (iI o)), some (.int (iI c)), some (.int (iI ((-1)))), some (.int (iI ((-1)))), some (.int (iI ((-1)))), none]) (st' := [.int (iI o), .ref (h.length + 1)]) rfl rfl ?_
  refine mi_ild rfl mh_a1 (by omega) (by omega) (by decide) ?_
  refine mi_ts (c := 43) (t := 676) rfl ef rfl ?_
  refine go_a (pc' := 677) (ls' := [some (.ref h.length), some (.int (iI k)), some (.int (iI o)), some (.int (iI c)), some (.int (iI ((-1)))), some (.int (iI ((-1)))), some (.int (iI ((-1)))), none]) (st' := [.ref h.length]) rfl rfl ?_
  refine go_a (pc' := 678) (ls' := [some (.ref h.length), some (.int (iI k)), some (.int (iI o)), some (.int (iI c)), some (.int (iI ((-1)))), some (.int (iI ((-1)))), some (.int (iI ((-1)))), none]) (st' := [.int (iI c), .ref h.length]) rfl rfl ?_
  refine go_v (m := 166) (as := [.ref h.length, .int (iI c)]) (r := []) rfl rfl rfl mh_o rfl rfl (mm_replaced z (d + 1) ar c h R J A N hc R0.2.1 T0.1 c0 c1 (CLA_RU hP R0 hC) (CLA_RU hP R0 hC1) (by omega) D0) (fun v h1 hq => ?_)
  obtain ⟨b, I1, A1, rfl, rfl, R1, hb⟩ := hq
  have P1 := RU_P R1
  have X1 := RU_tr R0 R1 (Int.le_refl _)
  have T1 := BTX_RU R0.2.1 T0 R1
  have y1 := X1.2.2.1
  have z1 : I1 7 ≤ 140000 := P1.1
  have x1 : I 7 ≤ I1 7 := X1.1.2.1
  have ex1 : A1 1 o = A 1 o := (X1.1.2.2.1 o o0 o1).1
  clear T0
  show xx_go (xt_P z) (d + 10) 154 681 [some (.ref h.length), some (.int (iI k)), some (.int (iI o)), some (.int (iI c)), some (.int (iI ((-1)))), some (.int (iI ((-1)))), some (.int (iI ((-1)))), none] [.int (iI b)] (mh h R I1 A1 N) _
  rcases hb with ⟨rfl, nb⟩ | ⟨rfl, n1, e4, ⟨S, V, D⟩, dj⟩
  · show xx_go (xt_P z) (d + 10) 154 681 [some (.ref h.length), some (.int (iI k)), some (.int (iI o)), some (.int (iI c)), some (.int (iI ((-1)))), some (.int (iI ((-1)))), some (.int (iI ((-1)))), none] [.int (iI 0)] (mh h R I1 A1 N) _
    exact go_r rfl rfl rfl rfl rfl rfl ⟨0, I1, A1, N, rfl, rfl, RU_w X1 (by omega), Or.inl ⟨rfl, by rw [hρ, eqp_no hB hX hC nb]; rfl⟩⟩
  · show xx_go (xt_P z) (d + 10) 154 681 [some (.ref h.length), some (.int (iI k)), some (.int (iI o)), some (.int (iI c)), some (.int (iI ((-1)))), some (.int (iI ((-1)))), some (.int (iI ((-1)))), none] [.int (iI 1)] (mh h R I1 A1 N) _
    have ey := eqp_yes hB hX hC n1 e4
    have cz9 := hC.2.1 0 (Int.le_refl _) n1
    rw [Int.add_zero] at cz9
    have di9 := dj di0
    rw [pol_rm hB hX hC cz9.1.1 cz9.1.2, rm_hd _ ey.1 hnd] at di9
    have eρ : ρ = sp_cz (itI (sp_re (DM A N (A 1 (rt A 1 (A 50 (30 * c))))) (DM A N (A 1 (rt A 2 (A 50 (30 * c)))))) A N (c + 1) (A 51 (c + 1)) ++ ((CLD A N c).drop 1).map some) := by
      rw [hρ, ey.1]
      show (sp_eqp _).bind _ = _
      rw [ey.2]
      show sp_cz ((CLD A N (c + 1)).map _ ++ _) = _
      unfold CLD itI
      rw [List.map_map]
      rfl
    clear dj
    refine go_r rfl rfl rfl rfl rfl rfl ⟨1, I1, A1, N, rfl, rfl, RU_w X1 (by omega), Or.inr ⟨rfl, ⟨_, di9, eρ⟩, _, _, DR_w D (by omega) (Int.le_refl _) (Int.le_refl _), fun b9 b30 b400 => ?_⟩⟩
    have dm := D.1
    have cz := hC.2.1 0 (Int.le_refl _) n1
    rw [Int.add_zero] at cz
    have eq := EQ_sides hB cz.1.1 cz.1.2 e4 cz.2.1
    have eq1 := eq.2.1.2
    have eq2 := eq.2.2.1.2
    have eq3 := eq.2.2.2
    have se := SG_first (g := TZ A ar) (f := fun k => A 50 (30 * c + k)) (A 51 c).toNat (fun e he => by have := (hC.2.1 e (by omega) (by omega)).2.1; show 1 ≤ TZ A ar (A 50 (30 * c + e)); omega) (by omega)
    have se : TZ A ar (A 50 (30 * c + 0)) + _ ≤ _ := se
    rw [Int.add_zero] at se
    have sq := SG_cnt (g := TZ A ar) (f := fun k => A 50 (30 * (c + 1) + k)) (A 51 (c + 1)).toNat (fun e he => by have := (hC1.2.1 e (by omega) (by omega)).2.1; show 1 ≤ TZ A ar (A 50 (30 * (c + 1) + e)); omega)
    have kw := KK_put (d := dd) (n := A 51 c) (s := SG (TZ A ar) (fun k => A 50 (30 * c + k)) (A 51 c).toNat) (v := SG (NT A wq) (fun k => A 50 (30 * c + k)) (A 51 c).toNat) (m := A 51 (c + 1)) (t := SG (TZ A ar) (fun k => A 50 (30 * (c + 1) + k)) (A 51 (c + 1)).toNat) (u := SG (NT A wq) (fun k => A 50 (30 * (c + 1) + k)) (A 51 (c + 1)).toNat) (n2 := I1 67) (s2 := SG (TZ A1 ar) (A1 38) (I1 67).toNat) (v2 := SG (NT A1 wq) (A1 38) (I1 67).toNat) d0 d38 (by omega) (by omega) (by omega) s400 (by omega) (by omega)
    unfold KDR
    omega

