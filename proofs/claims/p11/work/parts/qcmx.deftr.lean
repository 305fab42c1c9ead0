section DFT
variable {bk : List sp_Th} {x B : ob_T} {v : Nat}
def sp_dc (bk : List sp_Th) (x B : ob_T) (v : Nat) : Prop := sp_mn v ∧ sp_vs 6 (sp_p 2 x) ∧ (sp_ov ((sp_as (sp_p 2 x)).map sp_hc) B).1 ∧ sp_lw v B ∧ (∀ p ∈ sp_FB bk, p.1 ≠ v) ∧ (sp_FB bk).length < 40
theorem def_nv (h : ∀ v : Nat, sp_p 1 x ≠ .var v) : sp_def bk x = bk := by
  unfold sp_def
  cases e : sp_p 1 x with
  | var v => exact absurd e (h v)
  | _ => rfl
theorem def_eq (h : sp_p 1 x = .var v) : sp_def bk x = (match sp_tm (sp_ft (sp_FB bk ++ [(v, (sp_as (sp_p 2 x)).map sp_hc, .num 0)])) (sp_p 3 x) with
    | some B => ifc (sp_dc bk x B v) ((v, some ((sp_as (sp_p 2 x)).map sp_hc), B) :: bk) bk
    | none => bk) := by
  unfold sp_def
  rw [h]
  rfl
theorem def_no (h : sp_p 1 x = .var v) (hc : ∀ B : ob_T, sp_tm (sp_ft (sp_FB bk ++ [(v, (sp_as (sp_p 2 x)).map sp_hc, .num 0)])) (sp_p 3 x) = some B → ¬ sp_dc bk x B v) : sp_def bk x = bk := by
  rw [def_eq h]
  cases e : sp_tm (sp_ft (sp_FB bk ++ [(v, (sp_as (sp_p 2 x)).map sp_hc, .num 0)])) (sp_p 3 x) with
  | none => rfl
  | some B => exact ifc_neg (hc B e)
theorem def_ok (h : sp_p 1 x = .var v) (ht : sp_tm (sp_ft (sp_FB bk ++ [(v, (sp_as (sp_p 2 x)).map sp_hc, .num 0)])) (sp_p 3 x) = some B) (hc : sp_dc bk x B v) : sp_def bk x = (v, some ((sp_as (sp_p 2 x)).map sp_hc), B) :: bk := by
  rw [def_eq h, ht]
  exact ifc_pos hc
theorem mn_bt (h : sp_mn v) : sp_bt v < 0 := by
  rcases sp_bt_m v with b | b
  · omega
  · obtain ⟨y, y3, y17, e⟩ := sp_bt_i b
    exact absurd e (h y y17)
end DFT
theorem DDN_tr {ar : Int → Int} {m : Nat} {n l t : Int} {I I1 : Nat → Int} {A A1 : Nat → Int → Int} {N : Int → Int} (hS : MST I A N) (hN : NM I A) (hT : TRX I A N) (n0 : 0 ≤ n) (n1 : n < I 7) (t0 : 0 ≤ t) (t1 : t < I 7) (l0 : 0 ≤ l) (l1 : l < I 7) (hL : isL A m l) (h : DDN ar m n l t I A N I1 A1) : TRX I1 A1 N ∧ DM A1 N (A1 20 (I1 32 - 1)) = DM A N n ∧ A1 21 (I1 32 - 1) = m ∧ (∀ j : Nat, j < m → DM A1 N (A1 22 (6 * (I1 32 - 1) + (j : Int))) = DM A N (A 1 (rt A j l))) ∧ DM A1 N (A1 23 (I1 32 - 1)) = DM A N t ∧ I1 48 = I 48 ∧ I1 50 = I 50 := by
  obtain ⟨I3, A3, g, b, rfl, rfl, C, e7, c10, hn, d32, q1, q2, b01, hns⟩ := h
  have hP := MST_PW hS
  have n7 := hN.1
  have X := C.1
  have e8 : A3 8 = A 8 := X.2.2.2.2 8 (by decide) (by decide) (by decide) (by decide) (by decide) (by decide) (by unfold GE2 GP; omega)
  have e9 : A3 9 = A 9 := X.2.2.2.2 9 (by decide) (by decide) (by decide) (by decide) (by decide) (by decide) (by unfold GE2 GP; omega)
  obtain ⟨T3, dm⟩ := TRX_px (I1 := I3) (A1 := A3) (N1 := N) hS hT (by omega) (by omega) (fun k k0 k1 => ⟨(X.2.2.1 k k0 (by omega)).1, (X.2.2.1 k k0 (by omega)).2.1, (X.2.2.1 k k0 (by omega)).2.2.1⟩) e8 e9
  have f48 : I3 48 = I 48 := X.2.2.2.1 48 (by decide) (by unfold FE2; omega)
  have f50 : I3 50 = I 50 := X.2.2.2.1 50 (by decide) (by unfold FE2; omega)
  obtain ⟨AF, hAF⟩ : ∃ AF : Nat → Int → Int, AF = sa (sa (sa (sa (sw (sa (sa A3 20 (I3 32) n) 21 (I3 32) m) 22 g) 23 (I3 32) t) 24 (I3 32) b) 27 (I3 41) 1) 28 (I3 41) (I3 46) := ⟨_, rfl⟩
  have dF : DM AF N = DM A3 N := DM_12 (A := A3) (A1 := AF) (by rw [hAF]; rfl) (by rw [hAF]; rfl) (by rw [hAF]; rfl) (by rw [hAF]; rfl)
  have r20 : AF 20 (I3 32) = n := by
    rw [hAF]
    show sf (A3 20) (I3 32) n (I3 32) = n
    exact sf_self
  have r21 : AF 21 (I3 32) = m := by
    rw [hAF]
    show sf (A3 21) (I3 32) m (I3 32) = m
    exact sf_self
  have r22 : AF 22 = g := by
    rw [hAF]
    rfl
  have r23 : AF 23 (I3 32) = t := by
    rw [hAF]
    show sf (A3 23) (I3 32) t (I3 32) = t
    exact sf_self
  have TF : TRX (su (su I3 32 (I3 32 + 1)) 41 (I3 41 + 1)) AF N := by
    rw [hAF]
    exact T3
  rw [← hAF]
  rw [show (su (su I3 32 (I3 32 + 1)) 41 (I3 41 + 1)) 32 - 1 = I3 32 from (show I3 32 + 1 - 1 = I3 32 by omega), r20, r21, r22, r23, dF]
  refine ⟨TF, dm n n0 (by omega), rfl, fun j hj => ?_, dm t t0 (by omega), f48, f50⟩
  have r := isL_rt hP m j l l0 l1 hL hj
  have p := hP.2 (rt A j l) r.1 (by omega)
  rw [q2 j hj, dm _ r.2.2 (by omega)]
