def itD (im : ob_T → ob_T × ob_T) (Vl : List Nat) (F : ob_T) (A : Nat → Int → Int) (N : Int → Int) (m : Nat) (x : Int) : Option ob_T := sp_ntO (sp_opO (sp_in Vl ((List.range m).map (fun (j : Nat) => (im (DM A N (A 1 (rt A j (A 2 x))))).1)) F).1)
def itC (im : ob_T → ob_T × ob_T) (Vl : List Nat) (F : ob_T) (A : Nat → Int → Int) (N : Int → Int) (m : Nat) (k : Int) : List (Option ob_T) := (ixl (A 45) k).map (itD im Vl F A N m)
theorem itC_s {im : ob_T → ob_T × ob_T} {Vl : List Nat} {F : ob_T} {A : Nat → Int → Int} {N : Int → Int} {m : Nat} {k : Int} (h : 0 ≤ k) : itC im Vl F A N m (k + 1) = itC im Vl F A N m k ++ [itD im Vl F A N m (A 45 k)] := by
  unfold itC
  rw [ixl_s h, List.map_append]
  rfl
theorem itC_more {im : ob_T → ob_T × ob_T} {Vl : List Nat} {F : ob_T} {A : Nat → Int → Int} {N : Int → Int} {m : Nat} : ∀ (n : Nat) (k : Int), 0 ≤ k → ∃ r : List (Option ob_T), itC im Vl F A N m (k + n) = itC im Vl F A N m k ++ r
  | 0, k, _ => ⟨[], by rw [List.append_nil]; rw [show k + ((0 : Nat) : Int) = k by omega]⟩
  | n + 1, k, h => by
    obtain ⟨r, e⟩ := itC_more n k h
    refine ⟨r ++ [itD im Vl F A N m (A 45 (k + n))], ?_⟩
    rw [show k + ((n + 1 : Nat) : Int) = (k + n) + 1 by omega, itC_s (by omega), e, List.append_assoc]
theorem DIT_stop {its r : List (Option ob_T)} {I : Nat → Int} {A : Nat → Int → Int} {N : Int → Int} (e : ¬ I 49 = 0) (h : DIT its I A N) : DIT (its ++ r) I A N := by
  rcases h with ⟨a, -⟩ | ⟨a, b⟩
  · exact absurd a e
  · exact Or.inr ⟨a, cf_napp r its b⟩
def VlP (A : Nat → Int → Int) (N : Int → Int) (l : Int) (m : Nat) : List Nat := (List.range m).map (fun j => sp_hc (DM A N (A 1 (rt A j l))))
theorem OsP_RNV {I : Nat → Int} {A : Nat → Int → Int} {N : Int → Int} {l : Int} {m : Nat} (hS : MST I A N) (hN : NM I A) (hT : TRX I A N) (hP : PW I A) (l0 : 0 ≤ l) (l1 : l < I 7) (hL : isL A m l) (hV : ∀ j : Nat, j < m → A 1 (A 1 (rt A j l)) = -2 ∧ 1 < A 1 (rt A j l)) : RNV (OsP A N l m) := by
  intro o ho
  obtain ⟨j, hj, rfl⟩ := List.mem_map.mp ho
  have hj := List.mem_range.mp hj
  have v := hV j hj
  have b := (VD_rt hP l0 l1 hL hj).2.1
  have n7 := hN.1
  have e := DM_s (N := N) v.1
  refine ⟨_, e, fun q => ?_, fun q => ?_⟩
  · rw [q] at e
    have := DM_inj ⟨hS, hT.1⟩ b.1 b.2 (by decide : (0 : Int) ≤ 0) (by omega) (e.trans (DM_0 hT).symm)
    omega
  · rw [q] at e
    have := DM_inj ⟨hS, hT.1⟩ b.1 b.2 (by decide : (0 : Int) ≤ 1) (by omega) (e.trans (DM_1 hT).symm)
    omega
theorem mm_row_args (z : Value) (d m : Nat) (ar : Int → Int) (Vs : List Nat) (Os : List ob_T) (e lv p fo c : Int) (h R : xx_H) (I : Nat → Int) (A : Nat → Int → Int) (N : Int → Int) (hc : 12 ≤ h.length) (hB : BI ar I A N) (e0 : 0 ≤ e) (e1 : e < I 32) (em : A 21 e = m) (c0 : 0 ≤ c) (c1 : c < 130) (g0 : 0 ≤ (A 45 c)) (g1 : (A 45 c) < I 7) (g2 : 1 ≤ TZ A ar (A 45 c)) (g3 : TZ A ar (A 45 c) ≤ 125) (g4 : A 1 (A 45 c) = A 20 e) (hR : PR ar I A) (ho : I 7 + 2 * TZ A ar (A 45 c) ≤ 140000) (hO : RNV Os) (g5 : TZ A ar (A 45 c) ≤ 121) (hX : TRX I A N) (Q : Option Value → xx_H → Prop) (K : ∀ (j : Nat) (I1 : Nat → Int) (A1 : Nat → Int → Int), RZ FE GE ar (2 * (TZ A ar (A 45 c) - 1)) I A N I1 A1 N → PR ar I1 A1 → I1 59 = I 59 → (∀ m s v : Int, DR ar m s v I A → DR ar m s v I1 A1) → (∀ q : Int, 0 ≤ q → q < m → (0 ≤ A1 46 q ∧ A1 46 q < I1 7) ∧ 1 ≤ TZ A1 ar (A1 46 q)) → PCU (-1) (-1) False False False (sp_in Vs Os) N I1 A1 → I1 49 = I 49 → (∀ (m s v : Int) (its : List (Option ob_T)), DR ar m s v I A → DIT its I A N → DIT its I1 A1 N) → (∀ q : Int, 0 ≤ q → q < m → DM A1 N (A1 46 q) = (sp_in Vs Os (DM A N (A 1 (rt A q.toNat (A 2 (A 45 c)))))).1) → xx_go (xt_P z) (d + 8) 168 137 [some (.ref h.length), some (.int (iI e)), some (.int (iI lv)), some (.int (iI p)), some (.int (iI fo)), some (.int (iI c)), some (.int (iI ((j : Int))))] [] (mh h R I1 A1 N) Q) : ∀ (n j : Nat) (I1 : Nat → Int) (A1 : Nat → Int → Int), m - j ≤ n → j ≤ m → RZ FE GE ar (2 * (LZ A ar (A 2 (A 45 c)) - LZ A ar (rt A j (A 2 (A 45 c))))) I A N I1 A1 N → PR ar I1 A1 → I1 59 = I 59 → (∀ m s v : Int, DR ar m s v I A → DR ar m s v I1 A1) → (∀ q : Int, 0 ≤ q → q < j → (0 ≤ A1 46 q ∧ A1 46 q < I1 7) ∧ 1 ≤ TZ A1 ar (A1 46 q)) → PCU (-1) (-1) False False False (sp_in Vs Os) N I1 A1 → I1 49 = I 49 → (∀ (m s v : Int) (its : List (Option ob_T)), DR ar m s v I A → DIT its I A N → DIT its I1 A1 N) → (∀ q : Int, 0 ≤ q → q < j → DM A1 N (A1 46 q) = (sp_in Vs Os (DM A N (A 1 (rt A q.toNat (A 2 (A 45 c)))))).1) → xx_go (xt_P z) (d + 8) 168 94 [some (.ref h.length), some (.int (iI e)), some (.int (iI lv)), some (.int (iI p)), some (.int (iI fo)), some (.int (iI c)), some (.int (iI ((j : Int))))] [] (mh h R I1 A1 N) Q := by
  have hP := BI_P hB
  have n0 := BI_n0 hB
  have i40 := hB.2.2.1.1.1
  have De := hB.2.2.1.2.1 e e0 e1
  have m6 : m ≤ 6 := by have := De.2.1.2.1; omega
  have af : ar (A 1 (A 45 c)) = m := by rw [g4, De.2.1.2.2]; exact em
  have d1 := De.1
  have ta := TZ_args (ar := ar) hP n0 g0 g1 (by omega) (by omega) g2
  rw [af] at ta
  have lm : isL A m (A 2 (A 45 c)) := ta.2.1
  have lz := ta.2.2.2.2.1
  have cz : CZ A ar (A 2 (A 45 c)) = m := CZ_isL hP n0 m _ ta.1.1 (by omega) lm
  have lz0 : 0 ≤ LZ A ar (A 2 (A 45 c)) := by omega
  have fin : ∀ (j : Nat) (I1 : Nat → Int) (A1 : Nat → Int → Int), j = m → RZ FE GE ar (2 * (LZ A ar (A 2 (A 45 c)) - LZ A ar (rt A j (A 2 (A 45 c))))) I A N I1 A1 N → PR ar I1 A1 → I1 59 = I 59 → (∀ m s v : Int, DR ar m s v I A → DR ar m s v I1 A1) → (∀ q : Int, 0 ≤ q → q < j → (0 ≤ A1 46 q ∧ A1 46 q < I1 7) ∧ 1 ≤ TZ A1 ar (A1 46 q)) → PCU (-1) (-1) False False False (sp_in Vs Os) N I1 A1 → I1 49 = I 49 → (∀ (m s v : Int) (its : List (Option ob_T)), DR ar m s v I A → DIT its I A N → DIT its I1 A1 N) → (∀ q : Int, 0 ≤ q → q < j → DM A1 N (A1 46 q) = (sp_in Vs Os (DM A N (A 1 (rt A q.toNat (A 2 (A 45 c)))))).1) → xx_go (xt_P z) (d + 8) 168 94 [some (.ref h.length), some (.int (iI e)), some (.int (iI lv)), some (.int (iI p)), some (.int (iI fo)), some (.int (iI c)), some (.int (iI ((j : Int))))] [] (mh h R I1 A1 N) Q := by
    intro j I1 A1 ej X hR1 e59 D S U e49 KT Z
    have f21 : A1 21 e = A 21 e := by rw [X.1.2.2.2.2 21 (by decide) (by decide) (by decide) (by decide) (by decide) (by decide) (by unfold GE; omega)]
    subst ej
    have ez : rt A j (A 2 (A 45 c)) = 0 := isL_end j _ lm
    rw [ez, (LZ_0 (ar := ar) n0).1] at X
    refine go_a (pc' := 96) (ls' := [some (.ref h.length), some (.int (iI e)), some (.int (iI lv)), some (.int (iI p)), some (.int (iI fo)), some (.int (iI c)), some (.int (iI ((j : Int))))]) (st' := [.int (iI ((j : Int)))]) rfl rfl ?_
    refine go_a (pc' := 97) (ls' := [some (.ref h.length), some (.int (iI e)), some (.int (iI lv)), some (.int (iI p)), some (.int (iI fo)), some (.int (iI c)), some (.int (iI ((j : Int))))]) (st' := [.ref h.length, .int (iI ((j : Int)))]) rfl rfl ?_
    refine go_get rfl mh_o rfl rfl ?_
    refine go_a (pc' := 101) (ls' := [some (.ref h.length), some (.int (iI e)), some (.int (iI lv)), some (.int (iI p)), some (.int (iI fo)), some (.int (iI c)), some (.int (iI ((j : Int))))]) (st' := [.int (iI e), .ref (h.length + 21), .int (iI ((j : Int)))]) rfl rfl ?_
    refine mi_ild rfl mh_a21 (by omega) (by omega) (by decide) ?_
    exact mi_ge (t := 137) rfl rfl (by omega) (by omega) (by omega) (by omega) (fun _ => K j I1 A1 (RZ_w X (by omega)) hR1 e59 D S U e49 KT Z) (fun q => absurd (show A1 21 e ≤ (j : Int) by omega) q)
  intro n
  induction n with
  | zero =>
    intro j I1 A1 hn jm X hR1 e59 D S U e49 KT Z
    exact fin j I1 A1 (by omega) X hR1 e59 D S U e49 KT Z
  | succ n ih =>
    intro j I1 A1 hn jm X hR1 e59 D S U e49 KT Z
    by_cases ej : j = m
    · exact fin j I1 A1 ej X hR1 e59 D S U e49 KT Z
    have f21 : A1 21 e = A 21 e := by rw [X.1.2.2.2.2 21 (by decide) (by decide) (by decide) (by decide) (by decide) (by decide) (by unfold GE; omega)]
    have f45 : A1 45 c = A 45 c := by rw [X.1.2.2.2.2 45 (by decide) (by decide) (by decide) (by decide) (by decide) (by decide) (by unfold GE; omega)]
    have x7 := X.1.2.1
    have P1 := RZ_P X
    have i9 := P1.1
    have c7 := X.2.2.1
    have aj := ta.2.2.2.2.2 j (by omega)
    have rl := rt_LZ (ar := ar) hP n0 j (A 2 (A 45 c)) ta.1.1 (by omega) lz0 (by omega)
    have rl1 := rt_LZ (ar := ar) hP n0 (j + 1) (A 2 (A 45 c)) ta.1.1 (by omega) lz0 (by omega)
    have pj := isL_rt hP m j (A 2 (A 45 c)) ta.1.1 (by omega) lm (by omega)
    have jz : 0 < rt A j (A 2 (A 45 c)) := by
      by_cases q : rt A j (A 2 (A 45 c)) = 0
      · rw [q] at pj
        omega
      · omega
    have lp := (LZ_pair (ar := ar) hP jz (by omega) pj.2.2).1
    rw [← rt_succ A j (A 2 (A 45 c)), if_pos ⟨aj.2.1, rl1.2.1⟩] at lp
    have tk := RZ_t hP X aj.1.1 aj.1.2 aj.2.1
    have Lm1 : isL A (m + 1) (A 45 c) := ⟨by omega, lm⟩
    have L1 := isL_extB hP X.1 (m + 1) (A 45 c) g0 g1 Lm1
    have rx : A1 1 (rt A1 (j + 1) (A 45 c)) = A 1 (rt A j (A 2 (A 45 c))) := by
      rw [it_BX hP X.1 g0 g1 Lm1 (by omega)]
      rfl
    have z54 := X.2.1.2.2.2.1
    refine go_a (pc' := 96) (ls' := [some (.ref h.length), some (.int (iI e)), some (.int (iI lv)), some (.int (iI p)), some (.int (iI fo)), some (.int (iI c)), some (.int (iI ((j : Int))))]) (st' := [.int (iI ((j : Int)))]) rfl rfl ?_
    refine go_a (pc' := 97) (ls' := [some (.ref h.length), some (.int (iI e)), some (.int (iI lv)), some (.int (iI p)), some (.int (iI fo)), some (.int (iI c)), some (.int (iI ((j : Int))))]) (st' := [.ref h.length, .int (iI ((j : Int)))]) rfl rfl ?_
    refine go_get rfl mh_o rfl rfl ?_
    refine go_a (pc' := 101) (ls' := [some (.ref h.length), some (.int (iI e)), some (.int (iI lv)), some (.int (iI p)), some (.int (iI fo)), some (.int (iI c)), some (.int (iI ((j : Int))))]) (st' := [.int (iI e), .ref (h.length + 21), .int (iI ((j : Int)))]) rfl rfl ?_
    refine mi_ild rfl mh_a21 (by omega) (by omega) (by decide) ?_
    refine mi_ge (t := 137) rfl rfl (by omega) (by omega) (by omega) (by omega) (fun q => absurd q (by omega)) (fun _ => ?_)
    refine go_a (pc' := 106) (ls' := [some (.ref h.length), some (.int (iI e)), some (.int (iI lv)), some (.int (iI p)), some (.int (iI fo)), some (.int (iI c)), some (.int (iI ((j : Int))))]) (st' := [.ref h.length]) rfl rfl ?_
    refine go_get rfl mh_o rfl rfl ?_
    refine go_a (pc' := 111) (ls' := [some (.ref h.length), some (.int (iI e)), some (.int (iI lv)), some (.int (iI p)), some (.int (iI fo)), some (.int (iI c)), some (.int (iI ((j : Int))))]) (st' := [.int (iI ((j : Int))), .ref (h.length + 46)]) rfl rfl ?_
    refine go_a (pc' := 112) (ls' := [some (.ref h.length), some (.int (iI e)), some (.int (iI lv)), some (.int (iI p)), some (.int (iI fo)), some (.int (iI c)), some (.int (iI ((j : Int))))]) (st' := [.ref h.length, .int (iI ((j : Int))), .ref (h.length + 46)]) rfl rfl ?_
    refine go_a (pc' := 113) (ls' := [some (.ref h.length), some (.int (iI e)), some (.int (iI lv)), some (.int (iI p)), some (.int (iI fo)), some (.int (iI c)), some (.int (iI ((j : Int))))]) (st' := [.ref h.length, .ref h.length, .int (iI ((j : Int))), .ref (h.length + 46)]) rfl rfl ?_
    refine go_a (pc' := 114) (ls' := [some (.ref h.length), some (.int (iI e)), some (.int (iI lv)), some (.int (iI p)), some (.int (iI fo)), some (.int (iI c)), some (.int (iI ((j : Int))))]) (st' := [.ref h.length, .ref h.length, .ref h.length, .int (iI ((j : Int))), .ref (h.length + 46)]) rfl rfl ?_
    refine go_get rfl mh_o rfl rfl ?_
    refine go_a (pc' := 119) (ls' := [some (.ref h.length), some (.int (iI e)), some (.int (iI lv)), some (.int (iI p)), some (.int (iI fo)), some (.int (iI c)), some (.int (iI ((j : Int))))]) (st' := [.int (iI c), .ref (h.length + 45), .ref h.length, .ref h.length, .int (iI ((j : Int))), .ref (h.length + 46)]) rfl rfl ?_
    refine mi_ild rfl mh_a45 (by omega) (by omega) (by decide) ?_
    refine go_a (pc' := 122) (ls' := [some (.ref h.length), some (.int (iI e)), some (.int (iI lv)), some (.int (iI p)), some (.int (iI fo)), some (.int (iI c)), some (.int (iI ((j : Int))))]) (st' := [.int (iI ((j : Int))), .int (iI (A1 45 c)), .ref h.length, .ref h.length, .int (iI ((j : Int))), .ref (h.length + 46)]) rfl rfl ?_
    refine go_a (pc' := 123) (ls' := [some (.ref h.length), some (.int (iI e)), some (.int (iI lv)), some (.int (iI p)), some (.int (iI fo)), some (.int (iI c)), some (.int (iI ((j : Int))))]) (st' := [.int (iI 1), .int (iI ((j : Int))), .int (iI (A1 45 c)), .ref h.length, .ref h.length, .int (iI ((j : Int))), .ref (h.length + 46)]) rfl rfl ?_
    refine mi_add rfl ?_
    rw [f45]
    rw [show ((j : Int) + 1) = ((j + 1 : Nat) : Int) from rfl]
    show xx_go (xt_P z) (d + 8) 168 124 [some (.ref h.length), some (.int (iI e)), some (.int (iI lv)), some (.int (iI p)), some (.int (iI fo)), some (.int (iI c)), some (.int (iI ((j : Int))))] [.int (iI (((j + 1 : Nat) : Int))), .int (iI (A 45 c)), .ref h.length, .ref h.length, .int (iI ((j : Int))), .ref (h.length + 46)] (mh h R I1 A1 N) _
    refine go_v (m := 124) (as := [.ref h.length, .int (iI (A 45 c)), .int (iI (((j + 1 : Nat) : Int)))]) (r := [.ref h.length, .int (iI ((j : Int))), .ref (h.length + 46)]) rfl rfl rfl mh_o rfl rfl (mm_term z (d + 6) (j + 1) (m + 1) (A 45 c) h R I1 A1 N hc P1 (by omega) g0 (by omega) L1 (by omega)) (fun v h1 hq => ?_)
    obtain ⟨rfl, rfl⟩ := hq
    rw [rx]
    show xx_go (xt_P z) (d + 8) 168 127 [some (.ref h.length), some (.int (iI e)), some (.int (iI lv)), some (.int (iI p)), some (.int (iI fo)), some (.int (iI c)), some (.int (iI ((j : Int))))] [.int (iI (A 1 (rt A j (A 2 (A 45 c))))), .ref h.length, .int (iI ((j : Int))), .ref (h.length + 46)] (mh h R I1 A1 N) _
    refine go_v (m := 161) (as := [.ref h.length, .int (iI (A 1 (rt A j (A 2 (A 45 c)))))]) (r := [.int (iI ((j : Int))), .ref (h.length + 46)]) rfl rfl rfl mh_o rfl rfl (mm_instanceR z d ar False False False (sp_in Vs Os) (A 1 (rt A j (A 2 (A 45 c)))) h R I1 A1 N hc X.2.1.1.1 X.2.1.1.2.1 X.2.1.1.2.2 hR1 aj.1.1 (by omega) (by rw [tk]; exact aj.2.1) U (by omega) (by omega) (by omega) (by omega) (by omega) X.2.1.2.2.2.2.1 X.2.1.2.2.2.2.2) (fun v h1 hq => ?_)
    obtain ⟨t, I3, A3, rfl, rfl, M3, RQU, -, cv3⟩ := hq
    rw [tk] at M3
    have R3 := RE_MK X.2.1 M3
    have r3 := RU_MK X.2.1 M3
    have c73 := R3.2.2.1
    have t7 := r3.2.2.1
    show xx_go (xt_P z) (d + 8) 168 130 [some (.ref h.length), some (.int (iI e)), some (.int (iI lv)), some (.int (iI p)), some (.int (iI fo)), some (.int (iI c)), some (.int (iI ((j : Int))))] [.int (iI t), .int (iI ((j : Int))), .ref (h.length + 46)] (mh h R I3 A3 N) _
    refine mi_ist rfl mh_a46 (show 12 ≤ _ by omega) (by omega) (by omega) (by decide) ?_
    rw [mh_w46 (by omega)]
    refine go_a (pc' := 134) (ls' := [some (.ref h.length), some (.int (iI e)), some (.int (iI lv)), some (.int (iI p)), some (.int (iI fo)), some (.int (iI c)), some (.int (iI (((j : Int)) + 1)))]) (st' := []) rfl (by rw [← iI_add ((j : Int)) 1]; rfl) ?_
    refine go_a (pc' := 94) (ls' := [some (.ref h.length), some (.int (iI e)), some (.int (iI lv)), some (.int (iI p)), some (.int (iI fo)), some (.int (iI c)), some (.int (iI (((j : Int)) + 1)))]) (st' := []) rfl rfl ?_
    have bx : BX NO (fun a => a = 46) I3 A3 N I3 (sa A3 46 ((j : Int)) t) N := BX_of R3.2.1.1.1 (fun j _ => rfl) (fun a q => sa_ne q) rfl rfl rfl rfl rfl rfl rfl rfl rfl rfl
    have R4 : RZ FE GE ar 0 I3 A3 N I3 (sa A3 46 ((j : Int)) t) N := RZ_of R3.2.1 bx (fun j q => absurd q (fun z => z)) (fun a q => by subst q; unfold GE; omega) FE_FQ GE_GQ (SZI_124 (I := I3) (I1 := I3) (A := A3) (A1 := sa A3 46 ((j : Int)) t) R3.2.1.1.2.2 rfl rfl rfl rfl) rfl rfl R3.2.1.2.2.2.2 (show I3 7 ≤ I3 7 + 0 by omega) (fun _ => rfl)
    have t4 : TZ (sa A3 46 ((j : Int)) t) ar = TZ A3 ar := (TZ_124 (A := A3) (A1 := sa A3 46 ((j : Int)) t) rfl rfl rfl).1
    have T1 : TRX I1 A1 N := U.1
    have T3 : TRX I3 A3 N := TRX_BX X.2.1.1.1 X.2.1.1.2.1 T1 M3.1 (by unfold FW; omega) (by unfold GB; omega) (by unfold GB; omega)
    have da : DM A3 N (A 1 (rt A j (A 2 (A 45 c)))) = DM A N (A 1 (rt A j (A 2 (A 45 c)))) := by
      rw [DM_BX X.2.1.1.1 T1 M3.1 (by unfold FW; omega) (by unfold GB; omega) (by unfold GB; omega) aj.1.1 (by omega)]
      exact DM_BX hB.1.1 hX X.1 (by unfold FE; omega) (by unfold GE; omega) (by unfold GE; omega) aj.1.1 aj.1.2
    have dt3 := RQU.2
    have sz3 := TZ_1 (ar := ar) M3.1.1 R3.2.1.1.2.1 T3 t7.1.1 t7.1.2 t7.2
    have tk3 := RZ_t P1 R3 aj.1.1 (by omega) (by rw [tk]; exact aj.2.1)
    have sz4 := TZ_1 (ar := ar) M3.1.1 R3.2.1.1.2.1 T3 (k := A 1 (rt A j (A 2 (A 45 c)))) aj.1.1 (by have := R3.1.2.1; omega) (by rw [tk3, tk]; exact aj.2.1)
    rw [dt3, (sz_in hO _).1, sz4, tk3, tk] at sz3
    have e493 : I3 49 = I1 49 := by
      by_cases q : I1 49 = 0
      · rw [q]
        exact cv3 q (by omega)
      · exact M3.2.2.2.2.2.1.2.1 q
    rw [da] at dt3
    have U4 : PCU (-1) (-1) False False False (sp_in Vs Os) N I3 (sa A3 46 ((j : Int)) t) := PCU_12 (PCU_BX X.2.1.1.1 X.2.1.1.2.1 P1 hR1 M3.1 (by unfold FW; omega) (by unfold GB; omega) (by unfold GB; omega) (by unfold FW; omega) (by unfold GB; omega) (by unfold GB; omega) U) rfl rfl rfl rfl rfl rfl rfl rfl
    have KT4 : ∀ (m s v : Int) (its : List (Option ob_T)), DR ar m s v I A → DIT its I A N → DIT its I3 (sa A3 46 ((j : Int)) t) N := fun m s v its hd ht => by
      have a := DIT_BX X.2.1 T1 (D m s v hd) M3.1 (by unfold FW; omega) (by unfold GB; omega) (by unfold GB; omega) (by unfold FW; omega) (by unfold GB; omega) e493 (KT m s v its hd ht)
      exact DIT_BX R3.2.1 T3 (r3.2.1 m s v (D m s v hd)) bx (fun z => z) (by decide) (by decide) (fun z => z) (by decide) rfl a
    have Z4 : ∀ q : Int, 0 ≤ q → q < ((j + 1 : Nat) : Int) → DM (sa A3 46 ((j : Int)) t) N ((sa A3 46 ((j : Int)) t) 46 q) = (sp_in Vs Os (DM A N (A 1 (rt A q.toNat (A 2 (A 45 c)))))).1 := fun q q0 q1 => by
      rw [DM_12 (A := A3) (A1 := sa A3 46 ((j : Int)) t) rfl rfl rfl rfl]
      show DM A3 N (sf (A3 46) j t q) = _
      by_cases u : q = j
      · rw [u, sf_self, Int.toNat_natCast]
        exact dt3
      · rw [sf_ne u, M3.1.2.2.2.2 46 (by decide) (by decide) (by decide) (by decide) (by decide) (by decide) (by unfold GB; omega)]
        have s := S q q0 (by omega)
        rw [DM_BX X.2.1.1.1 T1 M3.1 (by unfold FW; omega) (by unfold GB; omega) (by unfold GB; omega) s.1.1 s.1.2]
        exact Z q q0 (by omega)
    refine ih (j + 1) I3 (sa A3 46 ((j : Int)) t) (by omega) (by omega) (RZ_tr (RZ_tr X R3 (Int.le_refl _)) R4 (by omega)) (PR_BX (RZ_P R3) (PR_BX P1 hR1 M3.1 (by unfold FW; omega) (by unfold GB; omega) (by unfold GB; omega)) bx (fun z => z) (by decide) (by decide)) (by rw [M3.1.2.2.2.1 59 (by decide) (by unfold FW; omega)]; exact e59) (fun m s v q => DR_BX (RZ_P R3) (r3.2.1 m s v (D m s v q)) bx (fun z => z) (by decide) (fun q => q)) (fun q q0 q1 => ?_) U4 (e493.trans e49) KT4 Z4
    rw [t4]
    show (0 ≤ sf (A3 46) j t q ∧ sf (A3 46) j t q < I3 7) ∧ 1 ≤ TZ A3 ar (sf (A3 46) j t q)
    by_cases u : q = j
    · rw [u, sf_self]
      exact t7
    · rw [sf_ne u]
      have s := S q q0 (by omega)
      rw [M3.1.2.2.2.2 46 (by decide) (by decide) (by decide) (by decide) (by decide) (by decide) (by unfold GB; omega), RZ_t P1 R3 s.1.1 s.1.2 s.2]
      have := R3.1.2.1
      exact ⟨⟨s.1.1, by omega⟩, s.2⟩
theorem mm_row_vars (z : Value) (d m : Nat) (e lv p fo c : Int) (h R : xx_H) (I : Nat → Int) (A : Nat → Int → Int) (N : Int → Int) (hc : 12 ≤ h.length) (hP : PW I A) (l0 : 0 ≤ lv) (l1 : lv < I 7) (hL : isL A m lv) (m6 : m ≤ 6) (e59 : I 59 = m) (Q : Option Value → xx_H → Prop) (K : ∀ (j : Nat) (I1 : Nat → Int) (A1 : Nat → Int → Int), ((∀ j : Nat, I1 j = I j) ∧ ∀ a : Nat, a ≠ 33 → a ≠ 34 → A1 a = A a) → (∀ q : Int, 0 ≤ q → q < m → (0 ≤ A1 33 q ∧ A1 33 q < 140000) ∧ (A1 34 q = A 46 q ∧ A1 33 q = A 1 (rt A q.toNat lv))) → xx_go (xt_P z) (d + 8) 168 193 [some (.ref h.length), some (.int (iI e)), some (.int (iI lv)), some (.int (iI p)), some (.int (iI fo)), some (.int (iI c)), some (.int (iI ((j : Int))))] [] (mh h R I1 A1 N) Q) : ∀ (n j : Nat) (I1 : Nat → Int) (A1 : Nat → Int → Int), m - j ≤ n → j ≤ m → ((∀ j : Nat, I1 j = I j) ∧ ∀ a : Nat, a ≠ 33 → a ≠ 34 → A1 a = A a) → (∀ q : Int, 0 ≤ q → q < j → (0 ≤ A1 33 q ∧ A1 33 q < 140000) ∧ (A1 34 q = A 46 q ∧ A1 33 q = A 1 (rt A q.toNat lv))) → xx_go (xt_P z) (d + 8) 168 150 [some (.ref h.length), some (.int (iI e)), some (.int (iI lv)), some (.int (iI p)), some (.int (iI fo)), some (.int (iI c)), some (.int (iI ((j : Int))))] [] (mh h R I1 A1 N) Q := by
  have p1 := hP.1
  intro n
  induction n with
  | zero =>
    intro j I1 A1 hn jm X S
    have e9 : I1 59 = m := by rw [X.1 59]; exact e59
    have ej : j = m := by omega
    subst ej
    refine go_a (pc' := 152) (ls' := [some (.ref h.length), some (.int (iI e)), some (.int (iI lv)), some (.int (iI p)), some (.int (iI fo)), some (.int (iI c)), some (.int (iI ((j : Int))))]) (st' := [.int (iI ((j : Int)))]) rfl rfl ?_
    refine go_a (pc' := 153) (ls' := [some (.ref h.length), some (.int (iI e)), some (.int (iI lv)), some (.int (iI p)), some (.int (iI fo)), some (.int (iI c)), some (.int (iI ((j : Int))))]) (st' := [.ref h.length, .int (iI ((j : Int)))]) rfl rfl ?_
    refine go_get (v := .int (iI (I1 59))) rfl mh_o rfl rfl ?_
    exact mi_ge (t := 193) rfl rfl (by omega) (by omega) (by omega) (by omega) (fun _ => K j I1 A1 X S) (fun q => absurd (show I1 59 ≤ (j : Int) by omega) q)
  | succ n ih =>
    intro j I1 A1 hn jm X S
    have e9 : I1 59 = m := by rw [X.1 59]; exact e59
    by_cases ej : j = m
    · subst ej
      refine go_a (pc' := 152) (ls' := [some (.ref h.length), some (.int (iI e)), some (.int (iI lv)), some (.int (iI p)), some (.int (iI fo)), some (.int (iI c)), some (.int (iI ((j : Int))))]) (st' := [.int (iI ((j : Int)))]) rfl rfl ?_
      refine go_a (pc' := 153) (ls' := [some (.ref h.length), some (.int (iI e)), some (.int (iI lv)), some (.int (iI p)), some (.int (iI fo)), some (.int (iI c)), some (.int (iI ((j : Int))))]) (st' := [.ref h.length, .int (iI ((j : Int)))]) rfl rfl ?_
      refine go_get (v := .int (iI (I1 59))) rfl mh_o rfl rfl ?_
      exact mi_ge (t := 193) rfl rfl (by omega) (by omega) (by omega) (by omega) (fun _ => K j I1 A1 X S) (fun q => absurd (show I1 59 ≤ (j : Int) by omega) q)
    have e7 : I1 7 = I 7 := X.1 7
    have f1 : A1 1 = A 1 := X.2 1 (by decide) (by decide)
    have f2 : A1 2 = A 2 := X.2 2 (by decide) (by decide)
    have f46 : A1 46 = A 46 := X.2 46 (by decide) (by decide)
    have P1 : PW I1 A1 := by
      unfold PW
      rw [e7, f1, f2]
      exact hP
    have b := (VD_rt hP l0 l1 hL (by omega : j < m)).2.1
    refine go_a (pc' := 152) (ls' := [some (.ref h.length), some (.int (iI e)), some (.int (iI lv)), some (.int (iI p)), some (.int (iI fo)), some (.int (iI c)), some (.int (iI ((j : Int))))]) (st' := [.int (iI ((j : Int)))]) rfl rfl ?_
    refine go_a (pc' := 153) (ls' := [some (.ref h.length), some (.int (iI e)), some (.int (iI lv)), some (.int (iI p)), some (.int (iI fo)), some (.int (iI c)), some (.int (iI ((j : Int))))]) (st' := [.ref h.length, .int (iI ((j : Int)))]) rfl rfl ?_
    refine go_get (v := .int (iI (I1 59))) rfl mh_o rfl rfl ?_
    refine mi_ge (t := 193) rfl rfl (by omega) (by omega) (by omega) (by omega) (fun q => absurd q (by omega)) (fun _ => ?_)
    refine go_a (pc' := 160) (ls' := [some (.ref h.length), some (.int (iI e)), some (.int (iI lv)), some (.int (iI p)), some (.int (iI fo)), some (.int (iI c)), some (.int (iI ((j : Int))))]) (st' := [.ref h.length]) rfl rfl ?_
    refine go_get rfl mh_o rfl rfl ?_
    refine go_a (pc' := 165) (ls' := [some (.ref h.length), some (.int (iI e)), some (.int (iI lv)), some (.int (iI p)), some (.int (iI fo)), some (.int (iI c)), some (.int (iI ((j : Int))))]) (st' := [.int (iI ((j : Int))), .ref (h.length + 33)]) rfl rfl ?_
    refine go_a (pc' := 166) (ls' := [some (.ref h.length), some (.int (iI e)), some (.int (iI lv)), some (.int (iI p)), some (.int (iI fo)), some (.int (iI c)), some (.int (iI ((j : Int))))]) (st' := [.ref h.length, .int (iI ((j : Int))), .ref (h.length + 33)]) rfl rfl ?_
    refine go_a (pc' := 167) (ls' := [some (.ref h.length), some (.int (iI e)), some (.int (iI lv)), some (.int (iI p)), some (.int (iI fo)), some (.int (iI c)), some (.int (iI ((j : Int))))]) (st' := [.int (iI lv), .ref h.length, .int (iI ((j : Int))), .ref (h.length + 33)]) rfl rfl ?_
    refine go_a (pc' := 169) (ls' := [some (.ref h.length), some (.int (iI e)), some (.int (iI lv)), some (.int (iI p)), some (.int (iI fo)), some (.int (iI c)), some (.int (iI ((j : Int))))]) (st' := [.int (iI ((j : Int))), .int (iI lv), .ref h.length, .int (iI ((j : Int))), .ref (h.length + 33)]) rfl rfl ?_
    refine go_v (m := 99) (as := [.ref h.length, .int (iI lv), .int (iI ((j : Int)))]) (r := [.int (iI ((j : Int))), .ref (h.length + 33)]) rfl rfl rfl mh_o rfl rfl (mm_nth z (d + 7) j m lv h R I1 A1 N hc P1 (by omega) l0 (by omega) (isL_12 (A := A) (A1 := A1) f1 f2 _ _ hL) (by omega)) (fun v h1 hq => ?_)
    obtain ⟨rfl, rfl⟩ := hq
    rw [rt_12 f2 j lv, f1]
    show xx_go (xt_P z) (d + 8) 168 172 [some (.ref h.length), some (.int (iI e)), some (.int (iI lv)), some (.int (iI p)), some (.int (iI fo)), some (.int (iI c)), some (.int (iI ((j : Int))))] [.int (iI (A 1 (rt A j lv))), .int (iI ((j : Int))), .ref (h.length + 33)] (mh h R I1 A1 N) _
    refine mi_ist rfl mh_a33 (show 12 ≤ _ by omega) (by omega) (by omega) (by decide) ?_
    rw [mh_w33 (by omega)]
    refine go_a (pc' := 174) (ls' := [some (.ref h.length), some (.int (iI e)), some (.int (iI lv)), some (.int (iI p)), some (.int (iI fo)), some (.int (iI c)), some (.int (iI ((j : Int))))]) (st' := [.ref h.length]) rfl rfl ?_
    refine go_get rfl mh_o rfl rfl ?_
    refine go_a (pc' := 179) (ls' := [some (.ref h.length), some (.int (iI e)), some (.int (iI lv)), some (.int (iI p)), some (.int (iI fo)), some (.int (iI c)), some (.int (iI ((j : Int))))]) (st' := [.int (iI ((j : Int))), .ref (h.length + 34)]) rfl rfl ?_
    refine go_a (pc' := 180) (ls' := [some (.ref h.length), some (.int (iI e)), some (.int (iI lv)), some (.int (iI p)), some (.int (iI fo)), some (.int (iI c)), some (.int (iI ((j : Int))))]) (st' := [.ref h.length, .int (iI ((j : Int))), .ref (h.length + 34)]) rfl rfl ?_
    refine go_get rfl mh_o rfl rfl ?_
    refine go_a (pc' := 185) (ls' := [some (.ref h.length), some (.int (iI e)), some (.int (iI lv)), some (.int (iI p)), some (.int (iI fo)), some (.int (iI c)), some (.int (iI ((j : Int))))]) (st' := [.int (iI ((j : Int))), .ref (h.length + 46), .int (iI ((j : Int))), .ref (h.length + 34)]) rfl rfl ?_
    refine mi_ild rfl mh_a46 (by omega) (by omega) (by decide) ?_
    show xx_go (xt_P z) (d + 8) 168 186 [some (.ref h.length), some (.int (iI e)), some (.int (iI lv)), some (.int (iI p)), some (.int (iI fo)), some (.int (iI c)), some (.int (iI ((j : Int))))] [.int (iI (A1 46 ((j : Int)))), .int (iI ((j : Int))), .ref (h.length + 34)] (mh h R I1 (sa A1 33 ((j : Int)) (A 1 (rt A j lv))) N) _
    refine mi_ist rfl mh_a34 (show 12 ≤ _ by omega) (by omega) (by omega) (by decide) ?_
    rw [mh_w34 (by omega)]
    refine go_a (pc' := 190) (ls' := [some (.ref h.length), some (.int (iI e)), some (.int (iI lv)), some (.int (iI p)), some (.int (iI fo)), some (.int (iI c)), some (.int (iI (((j : Int)) + 1)))]) (st' := []) rfl (by rw [← iI_add ((j : Int)) 1]; rfl) ?_
    refine go_a (pc' := 150) (ls' := [some (.ref h.length), some (.int (iI e)), some (.int (iI lv)), some (.int (iI p)), some (.int (iI fo)), some (.int (iI c)), some (.int (iI (((j : Int)) + 1)))]) (st' := []) rfl rfl ?_
    refine ih (j + 1) I1 (sa (sa A1 33 ((j : Int)) (A 1 (rt A j lv))) 34 ((j : Int)) (A1 46 ((j : Int)))) (by omega) (by omega) ⟨X.1, fun a q r => (sa_ne r).trans ((sa_ne q).trans (X.2 a q r))⟩ (fun q q0 q1 => ?_)
    show (0 ≤ sf (A1 33) j (A 1 (rt A j lv)) q ∧ sf (A1 33) j (A 1 (rt A j lv)) q < 140000) ∧ (sf (A1 34) j (A1 46 j) q = A 46 q ∧ sf (A1 33) j (A 1 (rt A j lv)) q = A 1 (rt A q.toNat lv))
    by_cases u : q = j
    · rw [u, sf_self, sf_self, f46, Int.toNat_natCast]
      exact ⟨⟨by omega, by omega⟩, rfl, rfl⟩
    · rw [sf_ne u, sf_ne u]
      exact S q q0 (by omega)
theorem mm_row_calls (z : Value) (d m : Nat) (ar : Int → Int) (ft : Nat → Int) (its : List (Option ob_T)) (e lv p fo : Int) (h R : xx_H) (I : Nat → Int) (A : Nat → Int → Int) (N : Int → Int) (hc : 12 ≤ h.length) (hB : BI ar I A N) (e0 : 0 ≤ e) (e1 : e < I 32) (em : A 21 e = m) (l0 : 0 ≤ lv) (l1 : lv < I 7) (hL : isL A m lv) (hV : ∀ j : Nat, j < m → A 1 (A 1 (rt A j lv)) = -2 ∧ 1 < A 1 (rt A j lv)) (hF : FD ar (A 20 e) 125 I A) (q0 : 0 ≤ fo) (q1 : fo < I 7) (q2 : 1 ≤ TZ A ar fo) (q3 : TZ A ar fo ≤ 120) (ho : I 7 + SG (fun x => 2 * TZ A ar x + TZ A ar fo * TZ A ar x) (A 45) (I 76).toNat + 250 ≤ 140000) (w0 : Int) (ww : w0 + 125 < 1199) (w00 : 0 ≤ w0) (hX : TRX I A N) (hK : ART ar ft I A N) (hs : 1 ≤ TS A ar fo) (hg : ∀ c : Int, 0 ≤ c → c < I 76 → TZ A ar (A 45 c) ≤ 121 ∧ ∀ j : Nat, j < m → 1 ≤ (sp_ts ft (DM A N (A 1 (rt A j (A 2 (A 45 c)))))).1) (Q : Option Value → xx_H → Prop) (K : ∀ (c : Int) (I1 : Nat → Int) (A1 : Nat → Int → Int) (S V : Int) (y6 : Option Value), RZ FE GE ar (SG (fun x => 2 * TZ A ar x + TZ A ar fo * TZ A ar x) (A 45) (I 76).toNat) I A N I1 A1 N → DR ar (w0 + 125) S V I1 A1 → (DIT its I A N → DIT (its ++ itC (sp_in (VsP A N e m) (OsP A N lv m)) (VlP A N lv m) (DM A N fo) A N m (I 76)) I1 A1 N) → xx_go (xt_P z) (d + 8) 168 213 [some (.ref h.length), some (.int (iI e)), some (.int (iI lv)), some (.int (iI p)), some (.int (iI fo)), some (.int (iI c)), y6] [] (mh h R I1 A1 N) Q) : ∀ (n : Nat) (c : Int) (I1 : Nat → Int) (A1 : Nat → Int → Int) (S V : Int) (y6 : Option Value), (I 76 - c).toNat ≤ n → 0 ≤ c → c ≤ I 76 → RZ FE GE ar (SG (fun x => 2 * TZ A ar x + TZ A ar fo * TZ A ar x) (A 45) c.toNat) I A N I1 A1 N → DR ar (w0 + c) S V I1 A1 → (DIT its I A N → DIT (its ++ itC (sp_in (VsP A N e m) (OsP A N lv m)) (VlP A N lv m) (DM A N fo) A N m c) I1 A1 N) → xx_go (xt_P z) (d + 8) 168 69 [some (.ref h.length), some (.int (iI e)), some (.int (iI lv)), some (.int (iI p)), some (.int (iI fo)), some (.int (iI c)), y6] [] (mh h R I1 A1 N) Q := by
  have hP := BI_P hB
  have i40 := hB.2.2.1.1.1
  have De := hB.2.2.1.2.1 e e0 e1
  have m6 : m ≤ 6 := by have := De.2.1.2.1; omega
  have d1 := De.1
  have fc := hF.1
  have tn : ∀ x : Int, 1 ≤ TZ A ar x → 0 ≤ TZ A ar fo * TZ A ar x := fun x hx => Int.mul_nonneg (by omega) (by omega)
  have sgm : ∀ c : Int, 0 ≤ c → c ≤ I 76 → SG (fun x => 2 * TZ A ar x + TZ A ar fo * TZ A ar x) (A 45) c.toNat ≤ SG (fun x => 2 * TZ A ar x + TZ A ar fo * TZ A ar x) (A 45) (I 76).toNat := fun c a b => SG_mono (fun e e0 e1 => by have t := (hF.2 e e0 e1).2.1.1; have u := tn _ t; show 0 ≤ 2 * TZ A ar (A 45 e) + TZ A ar fo * TZ A ar (A 45 e); omega) a b
  intro n
  induction n with
  | zero =>
    intro c I1 A1 S V y6 hn c0 ck X D hJ
    have e76 : I1 76 = I 76 := X.1.2.2.2.1 76 (by decide) (by unfold FE; omega)
    have ec : c = I 76 := by omega
    refine go_a (pc' := 71) (ls' := [some (.ref h.length), some (.int (iI e)), some (.int (iI lv)), some (.int (iI p)), some (.int (iI fo)), some (.int (iI c)), y6]) (st' := [.int (iI c)]) rfl rfl ?_
    refine go_a (pc' := 72) (ls' := [some (.ref h.length), some (.int (iI e)), some (.int (iI lv)), some (.int (iI p)), some (.int (iI fo)), some (.int (iI c)), y6]) (st' := [.ref h.length, .int (iI c)]) rfl rfl ?_
    refine go_get (v := .int (iI (I1 76))) rfl mh_o rfl rfl ?_
    refine mi_ge (t := 213) rfl rfl (by omega) (by omega) (by omega) (by omega) (fun _ => ?_) (fun q => absurd (show I1 76 ≤ c by omega) q)
    exact K c I1 A1 S V y6 (by rw [← ec]; exact X) (DR_w D (by omega) (Int.le_refl _) (Int.le_refl _)) (by rw [← ec]; exact hJ)
  | succ n ih =>
    intro c I1 A1 S V y6 hn c0 ck X D hJ
    have e76 : I1 76 = I 76 := X.1.2.2.2.1 76 (by decide) (by unfold FE; omega)
    have u49 := X.2.1.2.2.2.2
    refine go_a (pc' := 71) (ls' := [some (.ref h.length), some (.int (iI e)), some (.int (iI lv)), some (.int (iI p)), some (.int (iI fo)), some (.int (iI c)), y6]) (st' := [.int (iI c)]) rfl rfl ?_
    refine go_a (pc' := 72) (ls' := [some (.ref h.length), some (.int (iI e)), some (.int (iI lv)), some (.int (iI p)), some (.int (iI fo)), some (.int (iI c)), y6]) (st' := [.ref h.length, .int (iI c)]) rfl rfl ?_
    refine go_get (v := .int (iI (I1 76))) rfl mh_o rfl rfl ?_
    refine mi_ge (t := 213) rfl rfl (by omega) (by omega) (by omega) (by omega) (fun ec => ?_) (fun ec => ?_)
    · have sg := sgm c c0 ck
      exact K c I1 A1 S V y6 (RZ_w X sg) (DR_w D (by omega) (Int.le_refl _) (Int.le_refl _)) (by rw [show I 76 = c by omega]; exact hJ)
    refine go_a (pc' := 79) (ls' := [some (.ref h.length), some (.int (iI e)), some (.int (iI lv)), some (.int (iI p)), some (.int (iI fo)), some (.int (iI c)), y6]) (st' := [.ref h.length]) rfl rfl ?_
    refine go_get (v := .int (iI (I1 49))) rfl mh_o rfl rfl ?_
    refine mi_ne0 (t := 213) rfl rfl (by omega) (by omega) (fun ez => ?_) (fun ez => ?_)
    · have sg := sgm c c0 ck
      refine K c I1 A1 S V y6 (RZ_w X sg) (DR_w D (by omega) (Int.le_refl _) (Int.le_refl _)) (fun h9 => ?_)
      obtain ⟨r, er⟩ := itC_more (im := (sp_in (VsP A N e m) (OsP A N lv m))) (Vl := (VlP A N lv m)) (F := (DM A N fo)) (A := A) (N := N) (m := m) (I 76 - c).toNat c c0
      rw [show c + (((I 76 - c).toNat : Nat) : Int) = I 76 by omega] at er
      rw [er, ← List.append_assoc]
      exact DIT_stop ez (hJ h9)
    have fk := hF.2 c c0 (by omega)
    have sk : SG (fun x => 2 * TZ A ar x + TZ A ar fo * TZ A ar x) (A 45) (c + 1).toNat = SG (fun x => 2 * TZ A ar x + TZ A ar fo * TZ A ar x) (A 45) c.toNat + (2 * TZ A ar (A 45 c) + TZ A ar fo * TZ A ar (A 45 c)) := by
      rw [SG_pop (by omega : 0 < c + 1), show c + 1 - 1 = c by omega]
    have sm := sgm (c + 1) (by omega) (by omega)
    have tn1 := tn _ fk.2.1.1
    have c7 := X.2.2.1
    have x7 := X.1.2.1
    have f45 : A1 45 = A 45 := X.1.2.2.2.2 45 (by decide) (by decide) (by decide) (by decide) (by decide) (by decide) (by unfold GE; omega)
    have tg := RZ_t hP X fk.1.1 fk.1.2 fk.2.1.1
    have tf := RZ_t hP X q0 q1 q2
    have fk2 := fk.2.1
    have BJ2 := X.2.1
    have PJ2 := RZ_P X
    have iJ2 := PJ2.1
    have xJ2 := X.1.2.1
    have g212 : A1 21 = A 21 := X.1.2.2.2.2 21 (by decide) (by decide) (by decide) (by decide) (by decide) (by decide) (by unfold GE; omega)
    have g322 : I1 32 = I 32 := X.1.2.2.2.1 32 (by decide) (by unfold FE; omega)
    have De2 := BJ2.2.2.1.2.1 e e0 (by omega)
    have LJ2 := isL_extB hP X.1 m lv l0 l1 hL
    have VJ2 : ∀ j : Nat, j < m → A1 1 (A1 1 (rt A1 j lv)) = -2 ∧ 1 < A1 1 (rt A1 j lv) := by
      intro j hj
      have b := (VD_rt hP l0 l1 hL hj).2.1
      rw [it_BX hP X.1 l0 l1 hL hj, (X.1.2.2.1 _ b.1 b.2).1]
      exact hV j hj
    refine go_a (pc' := 86) (ls' := [some (.ref h.length), some (.int (iI e)), some (.int (iI lv)), some (.int (iI p)), some (.int (iI fo)), some (.int (iI c)), y6]) (st' := [.ref h.length]) rfl rfl ?_
    refine go_a (pc' := 87) (ls' := [some (.ref h.length), some (.int (iI e)), some (.int (iI lv)), some (.int (iI p)), some (.int (iI fo)), some (.int (iI c)), y6]) (st' := [.int (iI e), .ref h.length]) rfl rfl ?_
    refine go_a (pc' := 88) (ls' := [some (.ref h.length), some (.int (iI e)), some (.int (iI lv)), some (.int (iI p)), some (.int (iI fo)), some (.int (iI c)), y6]) (st' := [.int (iI lv), .int (iI e), .ref h.length]) rfl rfl ?_
    refine go_v (m := 169) (as := [.ref h.length, .int (iI e), .int (iI lv)]) (r := []) rfl rfl rfl mh_o rfl rfl (mm_takeParameters z (d + 6) m ar e lv h R I1 A1 N hc PJ2 e0 (by omega) (by rw [g212]; exact em) m6 l0 (by omega) LJ2 VJ2 (fun k q0 q1 => (De2.2.2.1 k q0 q1).1)) (fun v h1 hq => ?_)
    obtain ⟨rfl, I2, A2, rfl, PX2, e592, PR2, PV2⟩ := hq
    have BX2 : BX (fun j => j = 59) (fun a => a = 33 ∨ a = 34) I1 A1 N I2 A2 N := BX_of BJ2.1.1 (fun j q => PX2.1 j q) (fun a q => PX2.2 a (fun e => q (Or.inl e)) (fun e => q (Or.inr e))) (PX2.1 7 (by decide)) (PX2.1 10 (by decide)) (PX2.2 1 (by decide) (by decide)) (PX2.2 2 (by decide) (by decide)) (PX2.2 3 (by decide) (by decide)) (PX2.2 4 (by decide) (by decide)) (PX2.2 5 (by decide) (by decide)) (PX2.2 7 (by decide) (by decide)) (PX2.2 8 (by decide) (by decide)) (PX2.2 9 (by decide) (by decide))
    have R2 : RZ FE GE ar 0 I1 A1 N I2 A2 N := RZ_of BJ2 BX2 (fun j q => by subst q; unfold FE; omega) (fun a q => by unfold GE; omega) FE_FQ GE_GQ (SZI_124 BJ2.1.2.2 (PX2.2 1 (by decide) (by decide)) (PX2.2 2 (by decide) (by decide)) (PX2.2 4 (by decide) (by decide)) (PX2.1 7 (by decide))) (PX2.1 54 (by decide)) (PX2.1 56 (by decide)) (by rw [PX2.1 49 (by decide)]; exact BJ2.2.2.2.2) (by rw [PX2.1 7 (by decide)]; omega) (fun _ => PX2.1 49 (by decide))
    have e72 : I2 7 = I1 7 := PX2.1 7 (by decide)
    show xx_go (xt_P z) (d + 8) 168 91 [some (.ref h.length), some (.int (iI e)), some (.int (iI lv)), some (.int (iI p)), some (.int (iI fo)), some (.int (iI c)), y6] [] (mh h R I2 A2 N) _
    have X2 := RZ_tr X R2 (Int.le_refl _)
    have g45 : A2 45 c = A 45 c := by rw [PX2.2 45 (by decide) (by decide), f45]
    have tg2 := RZ_t PJ2 R2 fk.1.1 (by omega) (by rw [tg]; exact fk.2.1.1)
    rw [tg] at tg2
    have tf2 := RZ_t PJ2 R2 q0 (by omega) (by rw [tf]; exact q2)
    rw [tf] at tf2
    have P2 := RZ_P R2
    have gx : A2 1 (A 45 c) = A2 20 e := by
      rw [(R2.1.2.2.1 _ fk.1.1 (by omega)).1, (X.1.2.2.1 _ fk.1.1 fk.1.2).1, fk.2.2, PX2.2 20 (by decide) (by decide), X.1.2.2.2.2 20 (by decide) (by decide) (by decide) (by decide) (by decide) (by decide) (by unfold GE; omega)]
    have h32 : I2 32 = I 32 := by rw [PX2.1 32 (by decide)]; exact g322
    have h21 : A2 21 e = m := by rw [PX2.2 21 (by decide) (by decide), g212]; exact em
    have D2 : DR ar (w0 + c) S V I2 A2 := DR_BX PJ2 D BX2 (by decide) (by decide) (fun q => by rw [← PX2.1 49 (by decide)]; exact q)
    have T1 : TRX I1 A1 N := TRX_BX hB.1.1 hB.1.2.1 hX X.1 (by unfold FE; omega) (by unfold GE; omega) (by unfold GE; omega)
    have T2 : TRX I2 A2 N := TRX_BX BJ2.1.1 BJ2.1.2.1 T1 R2.1 (by unfold FE; omega) (by unfold GE; omega) (by unfold GE; omega)
    have dd : ∀ x : Int, 0 ≤ x → x < I 7 → DM A2 N x = DM A N x := fun x x0 x1 => DM_BX hB.1.1 hX X2.1 (by unfold FE; omega) (by unfold GE; omega) (by unfold GE; omega) x0 x1
    have g22 : A1 22 = A 22 := X.1.2.2.2.2 22 (by decide) (by decide) (by decide) (by decide) (by decide) (by decide) (by unfold GE; omega)
    have hPU : PCU (-1) (-1) False False False (sp_in (VsP A N e m) (OsP A N lv m)) N I2 A2 := by
      refine ⟨T2, ⟨fun q => q.elim, fun q => q.elim, fun q => q.elim⟩, Or.inl ⟨rfl, _, _, rfl, ?_, fun q hq => ?_⟩, fun q => absurd q (by decide)⟩
      · unfold VsP
        rw [List.length_map, List.length_range]
        exact e592.symm
      · have hq : q < m := by
          unfold VsP at hq
          rw [List.length_map, List.length_range] at hq
          exact hq
        have s := PV2 q (by omega) (by omega)
        rw [Int.toNat_natCast, g22, it_BX hP X.1 l0 l1 hL hq] at s
        have v := De.2.2.1 q (by omega) (by omega)
        have b := (VD_rt hP l0 l1 hL hq).2.1
        refine ⟨⟨by rw [s.1]; omega, by rw [s.1]; omega⟩, ⟨by rw [s.2]; omega, by rw [s.2]; omega⟩, ⟨sp_hc (DM A N (A 22 (6 * e + q))), ?_, ?_⟩, ?_⟩
        · unfold VsP
          rw [List.getElem?_map, List.getElem?_range hq]
          rfl
        · rw [s.1, dd _ v.1.1 v.1.2, DM_s v.2]
          rfl
        · unfold OsP
          rw [List.getElem?_map, List.getElem?_range hq, s.2, dd _ b.1 b.2]
          rfl
    have hO := OsP_RNV hB.1.1 hB.1.2.1 hX hP l0 l1 hL hV
    have ta := TZ_args (ar := ar) hP (BI_n0 hB) fk.1.1 fk.1.2 (by omega) (by omega) fk.2.1.1
    have af : ar (A 1 (A 45 c)) = m := by rw [fk.2.2, De.2.1.2.2]; exact em
    rw [af] at ta
    have lm : isL A m (A 2 (A 45 c)) := ta.2.1
    have ta1 := ta.1
    clear ta
    have hgc := hg c c0 (by omega)
    have arg2 : ∀ j : Nat, j < m → DM A2 N (A2 1 (rt A2 j (A2 2 (A 45 c)))) = DM A N (A 1 (rt A j (A 2 (A 45 c)))) := fun j hj => by
      have b := (VD_rt hP ta1.1 (by omega) lm hj).2.1
      rw [(X2.1.2.2.1 _ fk.1.1 fk.1.2).2.1, it_BX hP X2.1 ta1.1 (by omega) lm hj]
      exact dd _ b.1 b.2
    refine go_a (pc' := 92) (ls' := [some (.ref h.length), some (.int (iI e)), some (.int (iI lv)), some (.int (iI p)), some (.int (iI fo)), some (.int (iI c)), y6]) (st' := [.int (iI 0)]) rfl rfl ?_
    refine go_a (pc' := 94) (ls' := [some (.ref h.length), some (.int (iI e)), some (.int (iI lv)), some (.int (iI p)), some (.int (iI fo)), some (.int (iI c)), some (.int (iI 0))]) (st' := []) rfl rfl ?_
    show xx_go (xt_P z) (d + 8) 168 94 [some (.ref h.length), some (.int (iI e)), some (.int (iI lv)), some (.int (iI p)), some (.int (iI fo)), some (.int (iI c)), some (.int (iI (((0 : Nat) : Int))))] [] (mh h R I2 A2 N) _
    refine mm_row_args z d m ar (VsP A N e m) (OsP A N lv m) e lv p fo c h R I2 A2 N hc R2.2.1 e0 (by omega) h21 c0 (by omega) (by rw [g45]; exact fk.1.1) (by rw [g45]; omega) (by rw [g45, tg2]; exact fk.2.1.1) (by rw [g45, tg2]; omega) (by rw [g45]; exact gx) PR2 (by rw [g45, tg2]; omega) hO (by rw [g45, tg2]; exact hgc.1) T2 _ ?_ m 0 I2 A2 (by omega) (by omega) (RZ_rf R2.2.1 (by show 0 ≤ 2 * (_ - _); rw [show rt A2 0 (A2 2 (A2 45 c)) = A2 2 (A2 45 c) from rfl]; omega)) PR2 rfl (fun _ _ _ q => q) (fun q q0 q1 => absurd q1 (by omega)) hPU rfl (fun _ _ _ _ _ q => q) (fun q q0 q1 => absurd q1 (by omega))
    intro j I3 A3 X3 R3 e593 K3 S3 U3 e493 KT3 Z3
    rw [g45, tg2] at X3
    rw [g45] at Z3
    have T3 := U3.1
    have D3 := K3 _ _ _ D2
    have f21 : A3 21 e = m := by rw [X3.1.2.2.2.2 21 (by decide) (by decide) (by decide) (by decide) (by decide) (by decide) (by unfold GE; omega)]; exact h21
    have x73 := X3.1.2.1
    have P3 := RZ_P X3
    have i93 := P3.1
    have c73 := X3.2.2.1
    refine go_a (pc' := 138) (ls' := [some (.ref h.length), some (.int (iI e)), some (.int (iI lv)), some (.int (iI p)), some (.int (iI fo)), some (.int (iI c)), some (.int (iI ((j : Int))))]) (st' := [.ref h.length]) rfl rfl ?_
    refine go_a (pc' := 139) (ls' := [some (.ref h.length), some (.int (iI e)), some (.int (iI lv)), some (.int (iI p)), some (.int (iI fo)), some (.int (iI c)), some (.int (iI ((j : Int))))]) (st' := [.ref h.length, .ref h.length]) rfl rfl ?_
    refine go_get rfl mh_o rfl rfl ?_
    refine go_a (pc' := 143) (ls' := [some (.ref h.length), some (.int (iI e)), some (.int (iI lv)), some (.int (iI p)), some (.int (iI fo)), some (.int (iI c)), some (.int (iI ((j : Int))))]) (st' := [.int (iI e), .ref (h.length + 21), .ref h.length]) rfl rfl ?_
    refine mi_ild rfl mh_a21 (by omega) (by omega) (by decide) ?_
    rw [f21]
    refine go_put (j := 59) rfl mh_o rfl rfl (show 12 ≤ _ from hc) (show 59 < 86 by decide) rfl rfl ?_
    rw [mh_p59]
    refine go_a (pc' := 148) (ls' := [some (.ref h.length), some (.int (iI e)), some (.int (iI lv)), some (.int (iI p)), some (.int (iI fo)), some (.int (iI c)), some (.int (iI ((j : Int))))]) (st' := [.int (iI 0)]) rfl rfl ?_
    refine go_a (pc' := 150) (ls' := [some (.ref h.length), some (.int (iI e)), some (.int (iI lv)), some (.int (iI p)), some (.int (iI fo)), some (.int (iI c)), some (.int (iI 0))]) (st' := []) rfl rfl ?_
    show xx_go (xt_P z) (d + 8) 168 150 [some (.ref h.length), some (.int (iI e)), some (.int (iI lv)), some (.int (iI p)), some (.int (iI fo)), some (.int (iI c)), some (.int (iI (((0 : Nat) : Int))))] [] (mh h R (su I3 59 (((m : Nat) : Int))) A3 N) _
    have L3 : isL A3 m lv := isL_extB P2 X3.1 m lv l0 (by omega) (isL_extB PJ2 R2.1 m lv l0 (by omega) LJ2)
    refine mm_row_vars z d m e lv p fo c h R (su I3 59 (((m : Nat) : Int))) A3 N hc P3 l0 (show lv < I3 7 by omega) L3 m6 rfl _ ?_ m 0 (su I3 59 (((m : Nat) : Int))) A3 (by omega) (by omega) ⟨fun _ => rfl, fun _ _ _ => rfl⟩ (fun q q0 q1 => absurd q1 (by omega))
    intro j5 I5 A5 X5 S5
    have b5 : BX (fun j => j = 59) (fun a => a = 33 ∨ a = 34) I3 A3 N I5 A5 N := BX_of X3.2.1.1.1 (fun j q => (X5.1 j).trans (su_ne q)) (fun a q => X5.2 a (fun e => q (Or.inl e)) (fun e => q (Or.inr e))) (X5.1 7) (X5.1 10) (X5.2 1 (by decide) (by decide)) (X5.2 2 (by decide) (by decide)) (X5.2 3 (by decide) (by decide)) (X5.2 4 (by decide) (by decide)) (X5.2 5 (by decide) (by decide)) (X5.2 7 (by decide) (by decide)) (X5.2 8 (by decide) (by decide)) (X5.2 9 (by decide) (by decide))
    have e75 : I5 7 = I3 7 := X5.1 7
    have e495 : I5 49 = I3 49 := X5.1 49
    have e595 : I5 59 = m := X5.1 59
    have R5 : RZ FE GE ar 0 I3 A3 N I5 A5 N := RZ_of X3.2.1 b5 (fun j q => by subst q; unfold FE; omega) (fun a q => by unfold GE; omega) FE_FQ GE_GQ (SZI_124 X3.2.1.1.2.2 (X5.2 1 (by decide) (by decide)) (X5.2 2 (by decide) (by decide)) (X5.2 4 (by decide) (by decide)) e75) (X5.1 54) (X5.1 56) (by rw [e495]; exact X3.2.1.2.2.2.2) (by omega) (fun _ => e495)
    have P5 := RZ_P R5
    have t35 := (TZ_124 (ar := ar) (X5.2 1 (by decide) (by decide)) (X5.2 2 (by decide) (by decide)) (X5.2 4 (by decide) (by decide))).1
    have PR5 : PR ar I5 A5 := by
      refine ⟨by omega, fun q q0 q1 => ?_⟩
      have s := S5 q q0 (by omega)
      have t := S3 q q0 (by omega)
      rw [s.2.1, e75, t35]
      exact ⟨s.1, t.1, t.2⟩
    have hPC : PC False False (m = 0) I5 A5 := ⟨fun a q q0 q1 => absurd q1 (by omega), fun a => absurd a (fun z => z), fun a => absurd a (fun z => z)⟩
    have tf3 := RZ_t P2 X3 q0 (by omega) (by rw [tf2]; exact q2)
    rw [tf2] at tf3
    have tf5 : TZ A5 ar fo = TZ A ar fo := by rw [t35]; exact tf3
    have D5 : DR ar (w0 + c) S V I5 A5 := DR_BX P3 D3 b5 (by decide) (by decide) (fun q => by rw [← e495]; exact q)
    have z54 := R5.2.1.2.2.2.1
    have mul2 : m ≠ 0 → 2 * TZ A ar fo ≤ TZ A ar fo * TZ A ar (A 45 c) := by
      intro mz
      have n0 := BI_n0 hB
      have ta := TZ_args (ar := ar) hP n0 fk.1.1 fk.1.2 (by omega) (by omega) fk.2.1.1
      have af : ar (A 1 (A 45 c)) = m := by rw [fk.2.2, De.2.1.2.2]; exact em
      have t2 : 2 ≤ TZ A ar (A 45 c) := by omega
      have := Int.mul_le_mul_of_nonneg_left t2 (show 0 ≤ TZ A ar fo by omega)
      omega
    have T5 : TRX I5 A5 N := TRX_BX X3.2.1.1.1 X3.2.1.1.2.1 T3 b5 (by decide) (by decide) (by decide)
    have X05 := RZ_tr (RZ_tr X2 X3 (Int.le_refl _)) R5 (Int.le_refl _)
    have dd5 : ∀ x : Int, 0 ≤ x → x < I 7 → DM A5 N x = DM A N x := fun x x0 x1 => DM_BX hB.1.1 hX X05.1 (by unfold FE; omega) (by unfold GE; omega) (by unfold GE; omega) x0 x1
    have d35 : DM A5 N = DM A3 N := DM_12 (X5.2 1 (by decide) (by decide)) (X5.2 2 (by decide) (by decide)) (X5.2 8 (by decide) (by decide)) (X5.2 9 (by decide) (by decide))
    have hPU5 : PCU (-1) (-1) False False (m = 0) (sp_in (VlP A N lv m) ((List.range m).map (fun (j : Nat) => ((sp_in (VsP A N e m) (OsP A N lv m)) (DM A N (A 1 (rt A j (A 2 (A 45 c)))))).1))) N I5 A5 := by
      refine ⟨T5, hPC, Or.inl ⟨rfl, _, _, rfl, ?_, fun q hq => ?_⟩, fun q => absurd q (by decide)⟩
      · unfold VlP
        rw [List.length_map, List.length_range]
        exact e595.symm
      · have hq : q < m := by
          unfold VlP at hq
          rw [List.length_map, List.length_range] at hq
          exact hq
        have s := S5 q (by omega) (by omega)
        have t := S3 q (by omega) (by omega)
        have u := Z3 q (by omega) (by omega)
        rw [Int.toNat_natCast, arg2 q hq] at u
        have b := (VD_rt hP l0 l1 hL hq).2.1
        have s2 := s.2.2
        rw [Int.toNat_natCast, it_BX hP (RZ_tr X2 X3 (Int.le_refl _)).1 l0 l1 hL hq] at s2
        refine ⟨⟨by rw [s2]; omega, by rw [s2]; omega⟩, ⟨by rw [s.2.1]; exact t.1.1, by rw [s.2.1, e75]; exact t.1.2⟩, ⟨sp_hc (DM A N (A 1 (rt A q lv))), ?_, ?_⟩, ?_⟩
        · unfold VlP
          rw [List.getElem?_map, List.getElem?_range hq]
          rfl
        · rw [s2, dd5 _ b.1 b.2, DM_s (hV q hq).1]
          rfl
        · rw [List.getElem?_map, List.getElem?_range hq, s.2.1, d35, u]
          rfl
    refine go_a (pc' := 194) (ls' := [some (.ref h.length), some (.int (iI e)), some (.int (iI lv)), some (.int (iI p)), some (.int (iI fo)), some (.int (iI c)), some (.int (iI ((j5 : Int))))]) (st' := [.ref h.length]) rfl rfl ?_
    refine go_a (pc' := 195) (ls' := [some (.ref h.length), some (.int (iI e)), some (.int (iI lv)), some (.int (iI p)), some (.int (iI fo)), some (.int (iI c)), some (.int (iI ((j5 : Int))))]) (st' := [.ref h.length, .ref h.length]) rfl rfl ?_
    refine go_a (pc' := 196) (ls' := [some (.ref h.length), some (.int (iI e)), some (.int (iI lv)), some (.int (iI p)), some (.int (iI fo)), some (.int (iI c)), some (.int (iI ((j5 : Int))))]) (st' := [.ref h.length, .ref h.length, .ref h.length]) rfl rfl ?_
    refine go_a (pc' := 198) (ls' := [some (.ref h.length), some (.int (iI e)), some (.int (iI lv)), some (.int (iI p)), some (.int (iI fo)), some (.int (iI c)), some (.int (iI ((j5 : Int))))]) (st' := [.int (iI fo), .ref h.length, .ref h.length, .ref h.length]) rfl rfl ?_
    refine go_v (m := 161) (as := [.ref h.length, .int (iI fo)]) (r := [.ref h.length, .ref h.length]) rfl rfl rfl mh_o rfl rfl (mm_instanceR z d ar False False (m = 0) _ fo h R I5 A5 N hc R5.2.1.1.1 R5.2.1.1.2.1 R5.2.1.1.2.2 PR5 q0 (by omega) (by rw [tf5]; exact q2) hPU5 (by omega) (by omega) (by omega) (by omega) (by omega) R5.2.1.2.2.2.2.1 R5.2.1.2.2.2.2.2) (fun v h1 hq => ?_)
    obtain ⟨t, I6, A6, rfl, rfl, M6, ⟨RQ, dt6⟩, nw, cv6⟩ := hq
    rw [tf5] at M6
    have R6 := RE_MK R5.2.1 M6
    have r6 := RU_MK R5.2.1 M6
    have c76 := R6.2.2.1
    show xx_go (xt_P z) (d + 8) 168 201 [some (.ref h.length), some (.int (iI e)), some (.int (iI lv)), some (.int (iI p)), some (.int (iI fo)), some (.int (iI c)), some (.int (iI ((j5 : Int))))] [.int (iI t), .ref h.length, .ref h.length] (mh h R I6 A6 N) _
    have z6 := R6.2.1.2.2.2.1
    have c6 : I6 7 ≤ I5 7 + TZ A ar fo * TZ A ar (A 45 c) := by
      by_cases mz : m = 0
      · have tq : t = fo := RQ.1 (Or.inl mz)
        rcases nw with q | q
        · omega
        · omega
      · have := mul2 mz
        omega
    have T6 : TRX I6 A6 N := TRX_BX R5.2.1.1.1 R5.2.1.1.2.1 T5 R6.1 (by unfold FE; omega) (by unfold GE; omega) (by unfold GE; omega)
    have X06 := RZ_tr X05 R6 (Int.le_refl _)
    rw [DM_BX hB.1.1 hX X06.1 (by unfold FE; omega) (by unfold GE; omega) (by unfold GE; omega) q0 q1] at dt6
    have K6 : ART ar ft I6 A6 N := ART_BX hB hX hK X06.1 (by unfold FE; omega) (by unfold GE; omega) (by unfold GE; omega)
    have hOs : ∀ x ∈ (List.range m).map (fun (j : Nat) => ((sp_in (VsP A N e m) (OsP A N lv m)) (DM A N (A 1 (rt A j (A 2 (A 45 c)))))).1), 1 ≤ (sp_ts ft x).1 := fun x hx => by
      obtain ⟨j, hj, rfl⟩ := List.mem_map.mp hx
      refine (ts_in (ft := ft) (fun o ho => ?_) _).1 (hgc.2 j (List.mem_range.mp hj))
      obtain ⟨w, rfl, -⟩ := hO o ho
      exact Int.le_refl _
    have ts6 : 1 ≤ TS A6 ar t := by
      have a := (ts_in (ft := ft) (Vs := (VlP A N lv m)) hOs (DM A N fo)).1 (by rw [TS_1 hB.1.1 hB.1.2.1 hX hK q0 q1]; exact hs)
      rw [← dt6, TS_1 R6.2.1.1.1 R6.2.1.1.2.1 T6 K6 r6.2.2.1.1.1 r6.2.2.1.1.2] at a
      exact a
    refine go_v (m := 125) (as := [.ref h.length, .int (iI t)]) (r := [.ref h.length]) rfl rfl rfl mh_o rfl rfl (mm_notOf2 z (d + 1) ar t h R I6 A6 N hc R6.2.1.1.1 R6.2.1.1.2.1 R6.2.1.1.2.2 T6 (TS_pq ts6) r6.2.2.1.2 r6.2.2.1.1.1 r6.2.2.1.1.2 (R6.2.1.2.1.1.1.2.2 15 (by decide) (by decide)) (by omega) (by omega) (by omega) R6.2.1.2.2.2.2.1 R6.2.1.2.2.2.2.2) (fun v h1 hq => ?_)
    obtain ⟨u, I7, A7, rfl, rfl, M7, -, dt7, cv7⟩ := hq
    have R7 := RE_MD R6.2.1 M7
    have r7 := RU_MD R6.2.1 M7
    show xx_go (xt_P z) (d + 8) 168 204 [some (.ref h.length), some (.int (iI e)), some (.int (iI lv)), some (.int (iI p)), some (.int (iI fo)), some (.int (iI c)), some (.int (iI ((j5 : Int))))] [.int (iI u), .ref h.length] (mh h R I7 A7 N) _
    have u7 : I7 49 = 0 → TZ A7 ar u ≤ 120 := by
      intro q
      have a := r7.2.2.2 q
      have b := r6.2.2.2 (RZ_z R7 q)
      rw [if_pos b] at a
      exact a
    refine go_v (m := 155) (as := [.ref h.length, .int (iI u)]) (r := []) rfl rfl rfl mh_o rfl rfl (mm_put z (d + 7) ar (w0 + c) S V u h R I7 A7 N hc (RZ_P R7) (r7.2.1 _ _ _ (r6.2.1 _ _ _ D5)) (by omega) r7.2.2.1.1.1 r7.2.2.1.1.2 r7.2.2.1.2 u7 (RZ_P R7).1) (fun v h1 hq => ?_)
    obtain ⟨rfl, I8, A8, rfl, X8, D8, J8⟩ := hq
    have R8 := RE_DX R7.2.1 X8
    show xx_go (xt_P z) (d + 8) 168 207 [some (.ref h.length), some (.int (iI e)), some (.int (iI lv)), some (.int (iI p)), some (.int (iI fo)), some (.int (iI c)), some (.int (iI ((j5 : Int))))] [] (mh h R I8 A8 N) _
    refine go_a (pc' := 210) (ls' := [some (.ref h.length), some (.int (iI e)), some (.int (iI lv)), some (.int (iI p)), some (.int (iI fo)), some (.int (iI (c + 1))), some (.int (iI ((j5 : Int))))]) (st' := []) rfl (by rw [← iI_add c 1]; rfl) ?_
    refine go_a (pc' := 69) (ls' := [some (.ref h.length), some (.int (iI e)), some (.int (iI lv)), some (.int (iI p)), some (.int (iI fo)), some (.int (iI (c + 1))), some (.int (iI ((j5 : Int))))]) (st' := []) rfl rfl ?_
    have R6b : RZ FE GE ar (TZ A ar fo * TZ A ar (A 45 c)) I5 A5 N I6 A6 N := ⟨R6.1, R6.2.1, c6, R6.2.2.2⟩
    have T7 : TRX I7 A7 N := TRX_BX R6.2.1.1.1 R6.2.1.1.2.1 T6 R7.1 (by unfold FE; omega) (by unfold GE; omega) (by unfold GE; omega)
    have hJ8 : DIT its I A N → DIT (its ++ itC (sp_in (VsP A N e m) (OsP A N lv m)) (VlP A N lv m) (DM A N fo) A N m (c + 1)) I8 A8 N := fun h9 => by
      have h2 := DIT_BX BJ2 T1 D BX2 (by decide) (by decide) (by decide) (by decide) (by decide) (PX2.1 49 (by decide)) (hJ h9)
      have h3 := KT3 _ _ _ _ D2 h2
      have h5 := DIT_BX X3.2.1 T3 D3 b5 (by decide) (by decide) (by decide) (by decide) (by decide) e495 h3
      have sz6 := TZ_1 (ar := ar) M6.1.1 R6.2.1.1.2.1 T6 r6.2.2.1.1.1 r6.2.2.1.1.2 r6.2.2.1.2
      rw [dt6] at sz6
      have h6 := DIM_made R5.2.1 T5 D5 M6.1 (by unfold FW; omega) (by unfold GB; omega) (by unfold GB; omega) (by unfold FW; omega) (by unfold GB; omega) M6.2.2.2.2.2.1.2.1 r6.2.2.2 cv6 dt6 sz6 h5
      have sz7 := TZ_1 (ar := ar) M7.1.1 R7.2.1.1.2.1 T7 r7.2.2.1.1.1 r7.2.2.1.1.2 r7.2.2.1.2
      rw [dt7] at sz7
      have h7 := DIM_not R6.2.1 T6 (r6.2.1 _ _ _ D5) M7.1 (by unfold FW; omega) (by unfold GB; omega) (by unfold GB; omega) (by unfold FW; omega) (by unfold GB; omega) M7.2.2.2.2.2.1.2.1 u7 cv7 dt7 sz7 h6
      rw [itC_s c0, ← List.append_assoc]
      exact DIM_put R7.2.1 T7 (r7.2.1 _ _ _ (r6.2.1 _ _ _ D5)) X8 J8 r7.2.2.1.1.1 r7.2.2.1.1.2 h7
    exact ih (c + 1) I8 A8 _ _ _ (by omega) (by omega) (by omega) (RZ_tr (RZ_tr (RZ_tr X2 X3 (Int.le_refl _)) (RZ_tr R5 (RZ_tr R6b R7 (Int.le_refl _)) (Int.le_refl _)) (Int.le_refl _)) R8 (by omega)) (DR_w D8 (by omega) (Int.le_refl _) (Int.le_refl _)) hJ8

