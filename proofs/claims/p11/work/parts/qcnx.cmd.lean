def ROWD (A : Nat → Int → Int) (N : Int → Int) (e : Int) (v : Nat) (ps : List Nat) (B : ob_T) : Prop := DM A N (A 20 e) = .var v ∧ ((ps.length : Int) = A 21 e ∧ ∀ k : Nat, k < ps.length → ∃ w : Nat, ps[k]? = some w ∧ DM A N (A 22 (6 * e + (k : Int))) = .var w ∧ w ≠ 31361 ∧ w ≠ 20) ∧ B = DM A N (A 23 e) ∧ (A 24 e ≠ 0 ↔ (sp_cc v B).1 ≠ [])
def ROWT (A : Nat → Int → Int) (N : Int → Int) (e : Int) (v : Nat) (B : ob_T) : Prop := DM A N (A 25 e) = .var v ∧ B = DM A N (A 26 e)
def TKR (kd : Int) (th : sp_Th) (bk : List sp_Th) (I : Nat → Int) (A : Nat → Int → Int) (N : Int → Int) : Prop := TRX I A N ∧ 1 ≤ (sp_ts (sp_ft (sp_FB (th :: bk))) th.2.2).1 ∧ ((kd = 1 ∧ ∃ (v : Nat) (ps : List Nat) (F : ob_T), th = (v, some ps, F) ∧ ROWD A N (I 32 - 1) v ps F) ∨ (kd = 0 ∧ ∃ (v : Nat) (F : ob_T), th = (v, none, F) ∧ ROWT A N (I 38 - 1) v F))
theorem bk_len : ∀ bk : List sp_Th, bk.length = (sp_FB bk).length + (sp_TB bk).length
  | [] => rfl
  | (v, some ps, B) :: r => by
    have q := bk_len r
    show r.length + 1 = (sp_FB r ++ [(v, ps, B)]).length + (sp_TB r).length
    rw [List.length_append, List.length_singleton]
    omega
  | (v, none, B) :: r => by
    have q := bk_len r
    show r.length + 1 = (sp_FB r).length + (sp_TB r ++ [(v, B)]).length
    rw [List.length_append, List.length_singleton]
    omega
section CMS
variable {bk : List sp_Th} {lit fu : Int} {x : ob_T}
theorem cm_else (H : sp_pl x = true → ¬ (sp_hc (sp_p 0 x) = 20052094 ∧ (sp_as x).length = 4) ∧ ¬ (sp_hc (sp_p 0 x) = 15480824 ∧ (sp_as x).length = 4) ∧ ¬ (sp_hc (sp_p 0 x) = 746742303 ∧ (sp_as x).length = 2) ∧ ¬ (sp_hc (sp_p 0 x) = 2211412 ∧ (sp_as x).length = 1)) : sp_cmd bk lit fu x = ((bk, lit), 0) := by
  unfold sp_cmd
  by_cases c : sp_pl x = false
  · rw [if_pos c]
  · have c2 : sp_pl x = true := by
      cases e : sp_pl x with
      | true => rfl
      | false => exact absurd e c
    have q := H c2
    rw [if_neg c, if_neg q.1, if_neg q.2.1, if_neg q.2.2.1, if_neg q.2.2.2]
theorem cm_17 (p : sp_pl x = true) (hd : sp_hc (sp_p 0 x) = 20052094) (l : (sp_as x).length = 4) : sp_cmd bk lit fu x = ((sp_def bk x, lit), 0) := by
  unfold sp_cmd
  rw [if_neg (by rw [p]; decide), if_pos ⟨hd, l⟩]
theorem cm_26 (p : sp_pl x = true) (hd : sp_hc (sp_p 0 x) = 15480824) (l : (sp_as x).length = 4) : sp_cmd bk lit fu x = (((sp_chk bk fu x).1, lit), (sp_chk bk fu x).2) := by
  unfold sp_cmd
  rw [if_neg (by rw [p]; decide), if_neg (fun w => absurd (hd.symm.trans w.1) (by decide)), if_pos ⟨hd, l⟩]
theorem cm_19s {D : List ob_T} {n : Int} (p : sp_pl x = true) (hd : sp_hc (sp_p 0 x) = 746742303) (l : (sp_as x).length = 2) (hp : sp_pr (sp_ft (sp_FB bk)) (sp_FB bk) (sp_TB bk) fu 40 (sp_p 1 x) 0 = some (D, n)) : sp_cmd bk lit fu x = ((bk, (D.length : Int)), n) := by
  unfold sp_cmd
  rw [if_neg (by rw [p]; decide), if_neg (fun w => absurd (hd.symm.trans w.1) (by decide)), if_neg (fun w => absurd (hd.symm.trans w.1) (by decide)), if_pos ⟨hd, l⟩]
  unfold sp_pv
  rw [hp]
theorem cm_19f (p : sp_pl x = true) (hd : sp_hc (sp_p 0 x) = 746742303) (l : (sp_as x).length = 2) (hp : sp_pr (sp_ft (sp_FB bk)) (sp_FB bk) (sp_TB bk) fu 40 (sp_p 1 x) 0 = none) : sp_cmd bk lit fu x = ((bk, lit), sp_sn (sp_ft (sp_FB bk)) (sp_FB bk) (sp_TB bk) fu 40 (sp_p 1 x) 0) := by
  unfold sp_cmd
  rw [if_neg (by rw [p]; decide), if_neg (fun w => absurd (hd.symm.trans w.1) (by decide)), if_neg (fun w => absurd (hd.symm.trans w.1) (by decide)), if_pos ⟨hd, l⟩]
  unfold sp_pv
  rw [hp]
theorem cm_25 (p : sp_pl x = true) (hd : sp_hc (sp_p 0 x) = 2211412) (l : (sp_as x).length = 1) : sp_cmd bk lit fu x = ((bk.drop 1, lit), 0) := by
  unfold sp_cmd
  rw [if_neg (by rw [p]; decide), if_neg (fun w => absurd (hd.symm.trans w.1) (by decide)), if_neg (fun w => absurd (hd.symm.trans w.1) (by decide)), if_neg (fun w => absurd (hd.symm.trans w.1) (by decide)), if_pos ⟨hd, l⟩]
end CMS
def CUN (I : Nat → Int) (A : Nat → Int → Int) (I1 : Nat → Int) (A1 : Nat → Int → Int) : Prop := 0 < I 41 ∧ A1 = A ∧ ((A 27 (I 41 - 1) ≠ 0 ∧ I1 = su (su (su I 41 (I 41 - 1)) 32 (I 32 - 1)) 46 (A 28 (I 41 - 1))) ∨ (A 27 (I 41 - 1) = 0 ∧ I1 = su (su (su I 41 (I 41 - 1)) 38 (I 38 - 1)) 46 (A 28 (I 41 - 1))))
def CMX (ar : Int → Int) (bk : List sp_Th) (o : Int) (I : Nat → Int) (A : Nat → Int → Int) (N : Int → Int) (I1 : Nat → Int) (A1 : Nat → Int → Int) (N1 : Int → Int) : Prop := (CFL ar I A N I1 A1 N1 ∧ sp_cmd bk (I 50) (I 47) (DM A N o) = ((bk, I1 50), I1 48)) ∨ (∃ (kd : Int) (th : sp_Th), CTK kd o I A N I1 A1 N1 ∧ sp_cmd bk (I 50) (I 47) (DM A N o) = ((th :: bk, I1 50), I1 48) ∧ TKR kd th bk I1 A1 N1 ∧ ∀ k : Int, 0 ≤ k → k < I 7 → DM A1 N1 k = DM A N k) ∨ ((N1 = N ∧ CUN I A I1 A1) ∧ sp_cmd bk (I 50) (I 47) (DM A N o) = ((bk.drop 1, I1 50), I1 48))
theorem DM_old {I : Nat → Int} {A A1 : Nat → Int → Int} {N N1 : Int → Int} (hS : MST I A N) (h : TRX I A N) (hx : ∀ k : Int, 0 ≤ k → k < I 7 → A1 1 k = A 1 k ∧ A1 2 k = A 2 k ∧ N1 k = N k) (e8 : A1 8 = A 8) (e9 : A1 9 = A 9) : ∀ k : Int, 0 ≤ k → k < I 7 → DM A1 N1 k = DM A N k := fun k k0 k1 => ob_D_ext (MX_W ⟨hS, h.1⟩) (fun k k0 k1 => by
  obtain ⟨x1, x2, x3⟩ := hx k k0 k1
  unfold mkd mka mkb
  rw [x1, x2, x3, e8, e9]
  exact ⟨rfl, rfl, rfl⟩) k0 k1
section CXS
variable {ar : Int → Int} {bk : List sp_Th} {o : Int} {I I1 : Nat → Int} {A A1 : Nat → Int → Int} {N N1 : Int → Int}
theorem cx_hd (hB : BI ar I A N) (hX : BTX ar (sp_ft (sp_FB bk)) (sp_FB bk) (sp_TB bk) I A N) (k0 : 0 ≤ o) (k1 : o < I 7) (ha : 0 ≤ A 1 o) : sp_p 0 (DM A N o) = DM A N (A 1 o) := by
  rw [DM_pr hB.1.1 hX.1 k0 k1 ha]
  rfl
theorem cx_y (hB : BI ar I A N) (hX : BTX ar (sp_ft (sp_FB bk)) (sp_FB bk) (sp_TB bk) I A N) (k0 : 0 ≤ o) (k1 : o < I 7) {x : Nat} (hx : x < 44) (e : A 1 o = x) : sp_hc (sp_p 0 (DM A N o)) = mNm.getD x 0 := by
  rw [cx_hd hB hX k0 k1 (by omega)]
  exact hd_of hX hx e
theorem cx_n (hB : BI ar I A N) (hX : BTX ar (sp_ft (sp_FB bk)) (sp_FB bk) (sp_TB bk) I A N) (k0 : 0 ≤ o) (k1 : o < I 7) (ha : 0 ≤ A 1 o) {lit fu : Int} (H : ∀ n : Nat, isL A n o → ¬ (A 1 o = 17 ∧ n = 4) ∧ ¬ (A 1 o = 26 ∧ n = 4) ∧ ¬ (A 1 o = 19 ∧ n = 2) ∧ ¬ (A 1 o = 25 ∧ n = 1)) : sp_cmd bk lit fu (DM A N o) = ((bk, lit), 0) := by
  have hP := BI_P hB
  have q := hP.2 o k0 k1
  refine cm_else (fun p => ?_)
  have h := H _ (pl_L hB hX k0 k1 p)
  have nm : ∀ x : Nat, x < 44 → mNm.getD x 0 ≠ 0 → sp_hc (sp_p 0 (DM A N o)) = mNm.getD x 0 → A 1 o = x := fun x hx h0 e => by
    rw [cx_hd hB hX k0 k1 ha] at e
    exact hd_num hB hX ha (by omega) hx h0 e
  exact ⟨fun c => h.1 ⟨nm 17 (by decide) (by decide) c.1, c.2⟩, fun c => h.2.1 ⟨nm 26 (by decide) (by decide) c.1, c.2⟩, fun c => h.2.2.1 ⟨nm 19 (by decide) (by decide) c.1, c.2⟩, fun c => h.2.2.2 ⟨nm 25 (by decide) (by decide) c.1, c.2⟩⟩
theorem cx_at (hB : BI ar I A N) (k0 : 0 ≤ o) (k1 : o < I 7) (ha : A 1 o < 0) {lit fu : Int} : sp_cmd bk lit fu (DM A N o) = ((bk, lit), 0) := by
  refine cm_else (fun p => ?_)
  rcases DM_at hB.1.1 k0 k1 ha with ⟨-, n, q⟩ | ⟨-, v, q⟩
  · rw [q] at p
    exact absurd (show false = true from p) (by decide)
  · rw [q]
    exact ⟨fun c => absurd (show (0 : Nat) = 4 from c.2) (by decide), fun c => absurd (show (0 : Nat) = 4 from c.2) (by decide), fun c => absurd (show (0 : Nat) = 2 from c.2) (by decide), fun c => absurd (show (0 : Nat) = 1 from c.2) (by decide)⟩
theorem cx_L (hB : BI ar I A N) (hX : BTX ar (sp_ft (sp_FB bk)) (sp_FB bk) (sp_TB bk) I A N) (k0 : 0 ≤ o) (k1 : o < I 7) {n : Nat} (hL : isL A n o) : sp_pl (DM A N o) = true ∧ (sp_as (DM A N o)).length = n := ⟨L_pl hB hX k0 k1 hL, L_len hB hX k0 k1 hL⟩
theorem cx_17 (hB : BI ar I A N) (hX : BTX ar (sp_ft (sp_FB bk)) (sp_FB bk) (sp_TB bk) I A N) (st0 : I 48 = 0) (k0 : 0 ≤ o) (k1 : o < I 7) (e : A 1 o = 17) (h : (CFL ar I A N I1 A1 N ∧ ((isL A 4 o → sp_def bk (DM A N o) = bk) ∧ I1 48 = I 48 ∧ I1 50 = I 50)) ∨ (CTK 1 o I A N I1 A1 N ∧ ((isL A 4 o ∧ ∃ (v : Nat) (ps : List Nat) (F : ob_T), sp_def bk (DM A N o) = (v, some ps, F) :: bk ∧ DM A1 N (A1 20 (I1 32 - 1)) = .var v ∧ ((ps.length : Int) = A1 21 (I1 32 - 1) ∧ ∀ k : Nat, k < ps.length → ∃ w : Nat, ps[k]? = some w ∧ DM A1 N (A1 22 (6 * (I1 32 - 1) + (k : Int))) = .var w ∧ w ≠ 31361 ∧ w ≠ 20) ∧ F = DM A1 N (A1 23 (I1 32 - 1)) ∧ (A1 24 (I1 32 - 1) ≠ 0 ↔ (sp_cc v F).1 ≠ []) ∧ 1 ≤ (sp_ts (sp_ft (sp_FB ((v, some ps, F) :: bk))) F).1) ∧ I1 48 = I 48 ∧ I1 50 = I 50 ∧ TRX I1 A1 N))) : CMX ar bk o I A N I1 A1 N := by
  have hd : sp_hc (sp_p 0 (DM A N o)) = 20052094 := cx_y hB hX k0 k1 (x := 17) (by decide) e
  have n0 := BI_n0 hB
  rcases h with ⟨C, k, e48, e50⟩ | ⟨C, ⟨hL, v, ps, F, d1, d2, d3, d4, d5, d6⟩, e48, e50, T⟩
  · refine Or.inl ⟨C, ?_⟩
    rw [e48, e50, st0]
    by_cases hL : isL A 4 o
    · rw [cm_17 (cx_L hB hX k0 k1 hL).1 hd (cx_L hB hX k0 k1 hL).2, k hL]
    · exact cx_n hB hX k0 k1 (by omega) (fun n l => ⟨fun c => hL (by rw [← c.2]; exact l), fun c => by omega, fun c => by omega, fun c => by omega⟩)
  · refine Or.inr (Or.inl ⟨1, (v, some ps, F), C, ?_, ⟨T, d6, Or.inl ⟨rfl, v, ps, F, rfl, d2, d3, d4, d5⟩⟩, DM_old hB.1.1 hX.1 (fun k a b => ⟨(C.1.1 k a b).1, (C.1.1 k a b).2.1, rfl⟩) (C.2.2.2.2.2.2 8 (by decide) (by decide) (by decide) (by decide) (by decide) (by decide) (by unfold GT2 GQ; omega) (by omega)) (C.2.2.2.2.2.2 9 (by decide) (by decide) (by decide) (by decide) (by decide) (by decide) (by unfold GT2 GQ; omega) (by omega))⟩)
    rw [e48, e50, st0, cm_17 (cx_L hB hX k0 k1 hL).1 hd (cx_L hB hX k0 k1 hL).2, d1]
theorem cx_26 (hB : BI ar I A N) (hX : BTX ar (sp_ft (sp_FB bk)) (sp_FB bk) (sp_TB bk) I A N) (k0 : 0 ≤ o) (k1 : o < I 7) (e : A 1 o = 26) (e44 : I 44 = -1) (h25 : ∀ e : Int, 0 ≤ e → e < I 38 → A 25 e < I 7) (h : (CFL ar I A N I1 A1 N1 ∧ (((isL A 4 o → (sp_chk bk (I 47) (DM A N o)) = (bk, I1 48)) ∧ (¬ isL A 4 o → I1 48 = 0)) ∧ I1 50 = I 50)) ∨ (CTH ar o I A N I1 A1 N1 ∧ ((isL A 4 o ∧ ∃ (v : Nat) (F : ob_T), (sp_chk bk (I 47) (DM A N o)) = ((v, none, F) :: bk, I1 48) ∧ DM A1 N1 (A1 25 (I1 38 - 1)) = .var v ∧ DM A1 N1 (A1 26 (I1 38 - 1)) = F ∧ 1 ≤ (sp_ts (sp_ft (sp_FB bk)) F).1) ∧ I1 50 = I 50 ∧ TRX I1 A1 N1))) : CMX ar bk o I A N I1 A1 N1 := by
  have hd : sp_hc (sp_p 0 (DM A N o)) = 15480824 := cx_y hB hX k0 k1 (x := 26) (by decide) e
  rcases h with ⟨C, ⟨k, k9⟩, e50⟩ | ⟨C, ⟨hL, v, F, d1, d2, d3, d4⟩, e50, T⟩
  · refine Or.inl ⟨C, ?_⟩
    rw [e50]
    by_cases hL : isL A 4 o
    · rw [cm_26 (cx_L hB hX k0 k1 hL).1 hd (cx_L hB hX k0 k1 hL).2, k hL]
    · rw [k9 hL]
      exact cx_n hB hX k0 k1 (by omega) (fun n l => ⟨fun c => by omega, fun c => hL (by rw [← c.2]; exact l), fun c => by omega, fun c => by omega⟩)
  · have CK := CTH_CTK hB e44 h25 C
    have dk : ∀ k : Int, 0 ≤ k → k < I 7 → DM A1 N1 k = DM A N k := by
      obtain ⟨I3, A3, n, t, -, h2, C3, -⟩ := C
      have X := C3.1
      refine DM_old hB.1.1 hX.1 (fun k a b => ?_) ?_ ?_
      · rw [h2]
        exact ⟨(X.2.2.1 k a b).1, (X.2.2.1 k a b).2.1, (X.2.2.1 k a b).2.2.1⟩
      · rw [h2]
        exact X.2.2.2.2 8 (by decide) (by decide) (by decide) (by decide) (by decide) (by decide) (by unfold GT2 GQ; omega)
      · rw [h2]
        exact X.2.2.2.2 9 (by decide) (by decide) (by decide) (by decide) (by decide) (by decide) (by unfold GT2 GQ; omega)
    refine Or.inr (Or.inl ⟨0, (v, none, F), CK, ?_, ⟨T, d4, Or.inr ⟨rfl, v, F, rfl, d2, d3.symm⟩⟩, dk⟩)
    rw [e50, cm_26 (cx_L hB hX k0 k1 hL).1 hd (cx_L hB hX k0 k1 hL).2, d1]
theorem cx_19 (hB : BI ar I A N) (hX : BTX ar (sp_ft (sp_FB bk)) (sp_FB bk) (sp_TB bk) I A N) (st0 : I 48 = 0) (k0 : 0 ≤ o) (k1 : o < I 7) (e : A 1 o = 19) (C : CFL ar I A N I1 A1 N1) (h : (¬ isL A 2 o ∧ I1 50 = I 50 ∧ I1 48 = I 48) ∨ (isL A 2 o ∧ ((∃ D : List ob_T, sp_pr (sp_ft (sp_FB bk)) (sp_FB bk) (sp_TB bk) (I 47) 40 (DM A N (A 1 (rt A 1 o))) (I 48) = some (D, I1 48) ∧ I1 50 = (D.length : Int)) ∨ (sp_pr (sp_ft (sp_FB bk)) (sp_FB bk) (sp_TB bk) (I 47) 40 (DM A N (A 1 (rt A 1 o))) (I 48) = none ∧ I1 50 = I 50 ∧ I1 48 = sp_sn (sp_ft (sp_FB bk)) (sp_FB bk) (sp_TB bk) (I 47) 40 (DM A N (A 1 (rt A 1 o))) (I 48))))) : CMX ar bk o I A N I1 A1 N1 := by
  have hd : sp_hc (sp_p 0 (DM A N o)) = 746742303 := cx_y hB hX k0 k1 (x := 19) (by decide) e
  refine Or.inl ⟨C, ?_⟩
  rcases h with ⟨nL, e50, e48⟩ | ⟨hL, h⟩
  · rw [e50, e48, st0]
    exact cx_n hB hX k0 k1 (by omega) (fun n l => ⟨fun c => by omega, fun c => by omega, fun c => nL (by rw [← c.2]; exact l), fun c => by omega⟩)
  · have sp1 : sp_p 1 (DM A N o) = DM A N (A 1 (rt A 1 o)) := L_p hB hX k0 k1 hL (by decide : 1 < 2)
    have l := cx_L hB hX k0 k1 hL
    rw [st0, ← sp1] at h
    rcases h with ⟨D, h, e50⟩ | ⟨h, e50, e48⟩
    · rw [cm_19s l.1 hd l.2 h, e50]
    · rw [cm_19f l.1 hd l.2 h, e50, e48]
theorem cx_25 (hB : BI ar I A N) (hX : BTX ar (sp_ft (sp_FB bk)) (sp_FB bk) (sp_TB bk) I A N) (st0 : I 48 = 0) (k0 : 0 ≤ o) (k1 : o < I 7) (e : A 1 o = 25) (hL : isL A 1 o) (h : CUN I A I1 A1) : CMX ar bk o I A N I1 A1 N := by
  have hd : sp_hc (sp_p 0 (DM A N o)) = 2211412 := cx_y hB hX k0 k1 (x := 25) (by decide) e
  have l := cx_L hB hX k0 k1 hL
  refine Or.inr (Or.inr ⟨⟨rfl, h⟩, ?_⟩)
  rw [cm_25 l.1 hd l.2]
  rcases h.2.2 with ⟨-, rfl⟩ | ⟨-, rfl⟩
  · show _ = ((bk.drop 1, I 50), I 48)
    rw [st0]
  · show _ = ((bk.drop 1, I 50), I 48)
    rw [st0]
end CXS
theorem mm_undoX (z : Value) (d : Nat) (o : Int) (h R : xx_H) (I : Nat → Int) (A : Nat → Int → Int) (N : Int → Int) (hc : 12 ≤ h.length) (hP : PW I A) (n0 : A 1 0 < 0) (k0 : 0 ≤ o) (k1 : o < I 7) (t0 : 0 ≤ I 41) (t1 : I 41 ≤ 100) (b0 : ∀ e : Int, 0 ≤ A 27 e ∧ A 27 e ≤ 1) (d0 : 0 ≤ I 32 ∧ I 32 ≤ 40) (e0 : 0 ≤ I 38 ∧ I 38 ≤ 60) : xx_cl (xt_P z) (d + 3) 179 [.ref h.length, .int (iI o)] (mh h R I A N) (fun v h1 => (v = some (.int (iI 2)) ∧ h1 = mh h R I A N ∧ ¬ isL A 1 o) ∨ (v = some (.int (iI 3)) ∧ h1 = mh h R I A N ∧ I 41 = 0) ∨ (v = some (.int (iI 0)) ∧ isL A 1 o ∧ 0 < I 41 ∧ ((A 27 (I 41 - 1) ≠ 0 ∧ h1 = mh h R (su (su (su I 41 (I 41 - 1)) 32 (I 32 - 1)) 46 (A 28 (I 41 - 1))) A N) ∨ (A 27 (I 41 - 1) = 0 ∧ h1 = mh h R (su (su (su I 41 (I 41 - 1)) 38 (I 38 - 1)) 46 (A 28 (I 41 - 1))) A N)))) := by
  refine cl_go rfl ?_
  show xx_go (xt_P z) (d + 2) 179 0 [some (.ref h.length), some (.int (iI o))] [] (mh h R I A N) _
  refine go_a (pc' := 1) (ls' := [some (.ref h.length), some (.int (iI o))]) (st' := [.ref h.length]) rfl rfl ?_
  refine go_a (pc' := 2) (ls' := [some (.ref h.length), some (.int (iI o))]) (st' := [.int (iI o), .ref h.length]) rfl rfl ?_
  refine go_v (m := 98) (as := [.ref h.length, .int (iI o)]) (r := []) rfl rfl rfl mh_o rfl rfl (mm_len2 z d o h R I A N hc hP n0 k0 k1) (fun v h1 hq => ?_)
  obtain ⟨⟨n, rfl, hn⟩, rfl⟩ := hq
  have rn : -1 ≤ n ∧ n < 200000 := by
    have := hP.1
    rcases hn with ⟨hn, -⟩ | ⟨qq, hn, hl⟩
    · omega
    · have := isL_len hP o.toNat qq o (Nat.le_refl _) k0 k1 hl
      omega
  show xx_go (xt_P z) (d + 2) 179 5 [some (.ref h.length), some (.int (iI o))] [.int (iI n)] (mh h R I A N) _
  refine go_a (pc' := 6) (ls' := [some (.ref h.length), some (.int (iI o))]) (st' := [.int (iI 1), .int (iI n)]) rfl rfl ?_
  refine mi_eq (t := 11) rfl rfl (by omega) (by omega) (by omega) (by omega) (fun e => ?_) (fun e => ?_)
  · have hL1 : isL A 1 o := by
      rcases hn with ⟨hn, -⟩ | ⟨qq, hn, hl⟩
      · omega
      · rw [show qq = 1 by omega] at hl
        exact hl
    refine go_a (pc' := 12) (ls' := [some (.ref h.length), some (.int (iI o))]) (st' := [.ref h.length]) rfl rfl ?_
    refine go_get (v := .int (iI (I 41))) rfl mh_o rfl rfl ?_
    refine mi_ne0 (t := 20) rfl rfl (by omega) (by omega) (fun e => ?_) (fun e => ?_)
    · have bb := b0 (I 41 - 1)
      refine go_a (pc' := 21) (ls' := [some (.ref h.length), some (.int (iI o))]) (st' := [.ref h.length]) rfl rfl ?_
      refine go_a (pc' := 22) (ls' := [some (.ref h.length), some (.int (iI o))]) (st' := [.ref h.length, .ref h.length]) rfl rfl ?_
      refine go_get (v := .int (iI (I 41))) rfl mh_o rfl rfl ?_
      refine go_a (pc' := 26) (ls' := [some (.ref h.length), some (.int (iI o))]) (st' := [.int (iI 1), .int (iI (I 41)), .ref h.length]) rfl rfl ?_
      refine mi_sub rfl ?_
      refine go_put (j := 41) rfl mh_o rfl rfl (show 12 ≤ _ from hc) (show 41 < 86 by decide) rfl rfl ?_
      rw [mh_p41]
      refine go_a (pc' := 31) (ls' := [some (.ref h.length), some (.int (iI o))]) (st' := [.ref h.length]) rfl rfl ?_
      refine go_get rfl mh_o rfl rfl ?_
      refine go_a (pc' := 35) (ls' := [some (.ref h.length), some (.int (iI o))]) (st' := [.ref h.length, .ref (h.length + 27)]) rfl rfl ?_
      refine go_get (v := .int (iI ((I 41) - 1))) rfl mh_o rfl rfl ?_
      refine mi_zld rfl mh_a27 (show 0 ≤ I 41 - 1 by omega) (show I 41 - 1 < (100 : Nat) by omega) (by decide) ?_
      show xx_go (xt_P z) (d + 2) 179 39 [some (.ref h.length), some (.int (iI o))] [.int (iI (A 27 (I 41 - 1)))] (mh h R (su I 41 ((I 41) - 1)) A N) _
      refine mi_eq0 (t := 55) rfl rfl (by omega) (by omega) (fun e6 => ?_) (fun e6 => ?_)
      · refine go_a (pc' := 56) (ls' := [some (.ref h.length), some (.int (iI o))]) (st' := [.ref h.length]) rfl rfl ?_
        refine go_a (pc' := 57) (ls' := [some (.ref h.length), some (.int (iI o))]) (st' := [.ref h.length, .ref h.length]) rfl rfl ?_
        refine go_get (v := .int (iI (I 38))) rfl mh_o rfl rfl ?_
        refine go_a (pc' := 61) (ls' := [some (.ref h.length), some (.int (iI o))]) (st' := [.int (iI 1), .int (iI (I 38)), .ref h.length]) rfl rfl ?_
        refine mi_sub rfl ?_
        refine go_put (j := 38) rfl mh_o rfl rfl (show 12 ≤ _ from hc) (show 38 < 86 by decide) rfl rfl ?_
        rw [mh_p38]
        refine go_a (pc' := 66) (ls' := [some (.ref h.length), some (.int (iI o))]) (st' := [.ref h.length]) rfl rfl ?_
        refine go_a (pc' := 67) (ls' := [some (.ref h.length), some (.int (iI o))]) (st' := [.ref h.length, .ref h.length]) rfl rfl ?_
        refine go_get rfl mh_o rfl rfl ?_
        refine go_a (pc' := 71) (ls' := [some (.ref h.length), some (.int (iI o))]) (st' := [.ref h.length, .ref (h.length + 28), .ref h.length]) rfl rfl ?_
        refine go_get (v := .int (iI ((I 41) - 1))) rfl mh_o rfl rfl ?_
        refine mi_ild rfl mh_a28 (by omega) (by omega) (by decide) ?_
        refine go_put (j := 46) rfl mh_o rfl rfl (show 12 ≤ _ from hc) (show 46 < 86 by decide) rfl rfl ?_
        rw [mh_p46]
        refine go_a (pc' := 79) (ls' := [some (.ref h.length), some (.int (iI o))]) (st' := [.int (iI 0)]) rfl rfl ?_
        exact go_r rfl rfl rfl rfl rfl rfl (Or.inr (Or.inr ⟨rfl, hL1, by omega, Or.inr ⟨e6, rfl⟩⟩))
      · refine go_a (pc' := 43) (ls' := [some (.ref h.length), some (.int (iI o))]) (st' := [.ref h.length]) rfl rfl ?_
        refine go_a (pc' := 44) (ls' := [some (.ref h.length), some (.int (iI o))]) (st' := [.ref h.length, .ref h.length]) rfl rfl ?_
        refine go_get (v := .int (iI (I 32))) rfl mh_o rfl rfl ?_
        refine go_a (pc' := 48) (ls' := [some (.ref h.length), some (.int (iI o))]) (st' := [.int (iI 1), .int (iI (I 32)), .ref h.length]) rfl rfl ?_
        refine mi_sub rfl ?_
        refine go_put (j := 32) rfl mh_o rfl rfl (show 12 ≤ _ from hc) (show 32 < 86 by decide) rfl rfl ?_
        rw [mh_p32]
        refine go_a (pc' := 65) (ls' := [some (.ref h.length), some (.int (iI o))]) (st' := []) rfl rfl ?_
        refine go_a (pc' := 66) (ls' := [some (.ref h.length), some (.int (iI o))]) (st' := [.ref h.length]) rfl rfl ?_
        refine go_a (pc' := 67) (ls' := [some (.ref h.length), some (.int (iI o))]) (st' := [.ref h.length, .ref h.length]) rfl rfl ?_
        refine go_get rfl mh_o rfl rfl ?_
        refine go_a (pc' := 71) (ls' := [some (.ref h.length), some (.int (iI o))]) (st' := [.ref h.length, .ref (h.length + 28), .ref h.length]) rfl rfl ?_
        refine go_get (v := .int (iI ((I 41) - 1))) rfl mh_o rfl rfl ?_
        refine mi_ild rfl mh_a28 (by omega) (by omega) (by decide) ?_
        refine go_put (j := 46) rfl mh_o rfl rfl (show 12 ≤ _ from hc) (show 46 < 86 by decide) rfl rfl ?_
        rw [mh_p46]
        refine go_a (pc' := 79) (ls' := [some (.ref h.length), some (.int (iI o))]) (st' := [.int (iI 0)]) rfl rfl ?_
        exact go_r rfl rfl rfl rfl rfl rfl (Or.inr (Or.inr ⟨rfl, hL1, by omega, Or.inl ⟨e6, rfl⟩⟩))
    · refine go_a (pc' := 19) (ls' := [some (.ref h.length), some (.int (iI o))]) (st' := [.int (iI 3)]) rfl rfl ?_
      exact go_r rfl rfl rfl rfl rfl rfl (Or.inr (Or.inl ⟨rfl, rfl, by omega⟩))
  · refine go_a (pc' := 10) (ls' := [some (.ref h.length), some (.int (iI o))]) (st' := [.int (iI 2)]) rfl rfl ?_
    exact go_r rfl rfl rfl rfl rfl rfl (Or.inl ⟨rfl, rfl, fun l4 => absurd e (by rcases hn with ⟨-, hl⟩ | ⟨qq, hn, hl⟩; exact absurd l4 (hl 1); have := isL_uq n0 qq 1 o hl l4; omega)⟩)
