def CLD (A : Nat → Int → Int) (N : Int → Int) (c : Int) : List ob_T := (ixl (fun q => A 50 (30 * c + q)) (A 51 c)).map (DM A N)
section CLS
variable {ar : Int → Int} {ft : Nat → Int} {Fb : List (Nat × List Nat × ob_T)} {Tb : List (Nat × ob_T)} {I I1 : Nat → Int} {A A1 : Nat → Int → Int} {N N1 : Int → Int} {c x9 : Int}
theorem CLA_in (hC : CLA ar I A c) {y : Int} (hy : y ∈ ixl (fun q => A 50 (30 * c + q)) (A 51 c)) : 0 ≤ y ∧ y < I 7 := by
  obtain ⟨e, e0, e1, e2⟩ := ixl_mem.mp hy
  have b := (hC.2.1 e e0 e1).1
  have e2 : A 50 (30 * c + e) = y := e2
  rw [e2] at b
  exact b
theorem CLD_RU (hB : BI ar I A N) (h : BTX ar ft Fb Tb I A N) (x : RU ar x9 I A N I1 A1 N1) (hC : CLA ar I A c) : CLD A1 N1 c = CLD A N c := by
  unfold CLD
  rw [x.1.2.2.2.2 50 (by decide) (by decide) (by decide) (by decide) (by decide) (by decide) (by unfold GC; omega), x.1.2.2.2.2 51 (by decide) (by decide) (by decide) (by decide) (by decide) (by decide) (by unfold GC; omega)]
  exact List.map_congr_left (fun y hy => DM_RU hB h x (CLA_in hC hy).1 (CLA_in hC hy).2)
theorem CLD_mem (hB : BI ar I A N) (h : BTX ar ft Fb Tb I A N) (hC : CLA ar I A c) {y : Int} (y0 : 0 ≤ y) (y1 : y < I 7) : y ∈ ixl (fun q => A 50 (30 * c + q)) (A 51 c) ↔ DM A N y ∈ CLD A N c := by
  unfold CLD
  rw [List.mem_map]
  refine ⟨fun q => ⟨y, q, rfl⟩, fun ⟨z, hz, e⟩ => ?_⟩
  have b := CLA_in hC hz
  rw [← DM_inj ⟨hB.1.1, h.1.1⟩ b.1 b.2 y0 y1 e]
  exact hz
theorem rm_map {M : List Int} {l : Int} (hB : BI ar I A N) (h : BTX ar ft Fb Tb I A N) (l0 : 0 ≤ l) (l1 : l < I 7) (hM : ∀ y ∈ M, 0 ≤ y ∧ y < I 7) : (M.filter (fun q => q != l)).map (fun x => some (DM A N x)) = (sp_rm (DM A N l) (M.map (DM A N))).map some := by
  induction M with
  | nil => rfl
  | cons y M ih =>
    have b := hM y List.mem_cons_self
    have r := ih (fun z hz => hM z (List.mem_cons_of_mem _ hz))
    rw [List.map_cons]
    show _ = (ifc (DM A N y = DM A N l) (sp_rm (DM A N l) (M.map (DM A N))) (DM A N y :: sp_rm (DM A N l) (M.map (DM A N)))).map some
    by_cases e : y = l
    · rw [ifc_pos (by rw [e]), List.filter_cons_of_neg (by rw [e]; simp), r]
    · rw [ifc_neg (fun q => e (DM_inj ⟨hB.1.1, h.1.1⟩ b.1 b.2 l0 l1 q)), List.filter_cons_of_pos (by simpa using e), List.map_cons, List.map_cons, r]
theorem pol_rm {l : Int} (hB : BI ar I A N) (h : BTX ar ft Fb Tb I A N) (hC : CLA ar I A c) (l0 : 0 ≤ l) (l1 : l < I 7) : (pol A c l).map (fun x => some (DM A N x)) = (sp_rm (DM A N l) (CLD A N c)).map some := rm_map hB h l0 l1 (fun y hy => CLA_in hC hy)
theorem pol_all (hC : CLA ar I A c) : (pol A c (-1)).map (fun x => some (DM A N x)) = (CLD A N c).map some := by
  unfold pol CLD
  rw [List.filter_eq_self.mpr (fun y hy => by have := CLA_in hC hy; simp; omega), List.map_map]
  rfl
theorem rm_no {l : ob_T} : ∀ D : List ob_T, ¬ l ∈ D → sp_rm l D = D
  | [], _ => rfl
  | t :: D, h => by
    show ifc (t = l) _ _ = _
    rw [ifc_neg (fun q => h (by rw [q]; exact List.mem_cons_self)), rm_no D (fun q => h (List.mem_cons_of_mem _ q))]
theorem rm_hd {l : ob_T} : ∀ D : List ob_T, D.head? = some l → D.Nodup → sp_rm l D = D.drop 1
  | [], h, _ => by cases h
  | t :: D, h, nd => by
    injection h with h
    show ifc (t = l) _ _ = D
    rw [ifc_pos h, rm_no D (by rw [← h]; exact (List.nodup_cons.mp nd).1)]
theorem tok_tm {k : Int} (hB : BI ar I A N) (h : BTX ar ft Fb Tb I A N) (k0 : 0 ≤ k) (k1 : k < I 7) (t : TOK A ar k) : sp_tm ft (DM A N k) = some (sp_nf (DM A N k)).1 := by
  unfold sp_tm
  rw [TS_1 hB.1.1 hB.1.2.1 h.1 h.2.1 k0 k1]
  exact if_pos t
theorem all_map {α β : Type} {f : α → Option β} {g : α → β} : ∀ L : List α, (∀ x ∈ L, f x = some (g x)) → sp_all (L.map f) = some (L.map g)
  | [], _ => rfl
  | x :: L, h => by
    rw [List.map_cons, h x List.mem_cons_self]
    show (sp_all (L.map f)).map (fun q => g x :: q) = _
    rw [all_map L (fun y hy => h y (List.mem_cons_of_mem _ hy))]
    rfl
theorem DIM_nil {τ : ob_T} {x : Int} (h : DIM [] (sp_opO τ) x I A N) : (I 49 = 0 ∧ sp_opO τ = some τ ∧ DIT [] I A N) ∨ (¬ I 49 = 0 ∧ sp_opO τ = none) := by
  have key : sp_opO τ = none ∨ sp_opO τ = some τ := by
    unfold sp_opO
    by_cases c : 120 < (sp_sz τ).1
    · exact Or.inl (if_pos c)
    · exact Or.inr (if_neg c)
  rcases h with ⟨a, b, d⟩ | ⟨a, b⟩
  · refine Or.inl ⟨a, ?_, Or.inl ⟨a, b⟩⟩
    rcases key with q | q
    · rw [q] at d
      cases d
    · exact q
  · refine Or.inr ⟨a, ?_⟩
    rcases key with q | q
    · exact q
    · rw [q] at b
      cases b
def itW (A : Nat → Int → Int) (N : Int → Int) (C : Int) (j : Nat) : List (Option ob_T) := (List.range j).map (fun (i : Nat) => some (sp_nf (DM A N (A 1 (rt A i C)))).1)
theorem itW_s (C : Int) (j : Nat) : itW A N C (j + 1) = itW A N C j ++ [some (sp_nf (DM A N (A 1 (rt A j C)))).1] := by
  unfold itW
  rw [List.range_succ, List.map_append]
  rfl
end CLS
theorem PE_le {A : Nat → Int → Int} {c b x k : Int} (h : 0 ≤ x) : 0 ≤ PE A c b x k ∧ PE A c b x k ≤ x := by
  rcases PE_nn A c b x k with q | q <;> rw [q] <;> omega
theorem CLA_120 {ar : Int → Int} {I : Nat → Int} {A : Nat → Int → Int} {c : Int} (h : CLA ar I A c) : SG (TZ A ar) (fun k => A 50 (30 * c + k)) (A 51 c).toNat ≤ 120 * A 51 c ∧ A 51 c ≤ SG (TZ A ar) (fun k => A 50 (30 * c + k)) (A 51 c).toNat := by
  have h1 := h.1
  have key : ∀ n : Nat, (n : Int) ≤ A 51 c → SG (TZ A ar) (fun k => A 50 (30 * c + k)) n ≤ 120 * n ∧ (n : Int) ≤ SG (TZ A ar) (fun k => A 50 (30 * c + k)) n := by
    intro n
    induction n with
    | zero => intro _; exact ⟨(show (0 : Int) ≤ 120 * 0 by decide), (show (0 : Int) ≤ 0 by decide)⟩
    | succ n ih =>
      intro hn
      have a := ih (by omega)
      have b := h.2.1 n (by omega) (by omega)
      have s : SG (TZ A ar) (fun k => A 50 (30 * c + k)) (n + 1) = SG (TZ A ar) (fun k => A 50 (30 * c + k)) n + TZ A ar (A 50 (30 * c + n)) := by
        have q := SG_pop (g := TZ A ar) (f := fun k => A 50 (30 * c + k)) (m := ((n + 1 : Nat) : Int)) (by omega)
        rw [show (((n + 1 : Nat) : Int)).toNat = n + 1 by omega, show (((n + 1 : Nat) : Int) - 1).toNat = n by omega, show ((n + 1 : Nat) : Int) - 1 = (n : Int) by omega] at q
        exact q
      rw [s]
      omega
  have := key (A 51 c).toNat (by omega)
  omega
set_option maxRecDepth 4000 in
theorem mm_weak_loop (z : Value) (d m : Nat) (ar : Int → Int) (ft : Nat → Int) (Fb : List (Nat × List Nat × ob_T)) (Tb : List (Nat × ob_T)) (its : List (Option ob_T)) (k o c C q9 S0 : Int) (h R : xx_H) (I : Nat → Int) (A : Nat → Int → Int) (N : Int → Int) (hc : 12 ≤ h.length) (hB : BI ar I A N) (C0 : 0 ≤ C) (C1 : C < I 7) (hL : isL A m C) (hT : ∀ j : Nat, j < m → TOK A ar (A 1 (rt A j C))) (w : VD A C ≤ 1000) (ho : I 7 + 2 * VD A C ≤ 140000) (q0 : 0 ≤ q9) (q1 : q9 ≤ 30) (hX : BTX ar ft Fb Tb I A N) (Q : Option Value → xx_H → Prop) (K : ∀ (I1 : Nat → Int) (A1 : Nat → Int → Int) (V : Int), RU ar (2 * VD A C) I A N I1 A1 N → DR ar (q9 + m) (S0 + VD A C) V I1 A1 → (DIT its I A N → DIT (its ++ itW A N C m) I1 A1 N) → xx_go (xt_P z) (d + 10) 154 554 [some (.ref h.length), some (.int (iI k)), some (.int (iI o)), some (.int (iI c)), some (.int (iI ((-1)))), some (.int (iI ((-1)))), some (.int (iI ((-1)))), some (.int (iI 0))] [] (mh h R I1 A1 N) Q) : ∀ (n j : Nat) (I1 : Nat → Int) (A1 : Nat → Int → Int) (V : Int), m - j ≤ n → j ≤ m → RU ar (2 * (VD A C - VD A (rt A j C))) I A N I1 A1 N → DR ar (q9 + j) (S0 + (VD A C - VD A (rt A j C))) V I1 A1 → (DIT its I A N → DIT (its ++ itW A N C j) I1 A1 N) → xx_go (xt_P z) (d + 10) 154 522 [some (.ref h.length), some (.int (iI k)), some (.int (iI o)), some (.int (iI c)), some (.int (iI ((-1)))), some (.int (iI ((-1)))), some (.int (iI ((-1)))), some (.int (iI (rt A j C)))] [] (mh h R I1 A1 N) Q := by
  have hP := BI_P hB
  have n0 := BI_n0 hB
  have mv : (m : Int) ≤ VD A C := isL_VD hP n0 m C C0 C1 hL
  have fin : ∀ (j : Nat) (I1 : Nat → Int) (A1 : Nat → Int → Int) (V : Int), j = m → RU ar (2 * (VD A C - VD A (rt A j C))) I A N I1 A1 N → DR ar (q9 + j) (S0 + (VD A C - VD A (rt A j C))) V I1 A1 → (DIT its I A N → DIT (its ++ itW A N C j) I1 A1 N) → xx_go (xt_P z) (d + 10) 154 522 [some (.ref h.length), some (.int (iI k)), some (.int (iI o)), some (.int (iI c)), some (.int (iI ((-1)))), some (.int (iI ((-1)))), some (.int (iI ((-1)))), some (.int (iI (rt A j C)))] [] (mh h R I1 A1 N) Q := by
    intro j I1 A1 V ej X D hJ
    subst ej
    have ez := isL_end j C hL
    have vz : VD A 0 = 0 := by rw [VD_atom n0, if_pos rfl]
    rw [ez, vz, Int.sub_zero] at X D
    rw [ez]
    refine go_a (pc' := 524) (ls' := [some (.ref h.length), some (.int (iI k)), some (.int (iI o)), some (.int (iI c)), some (.int (iI ((-1)))), some (.int (iI ((-1)))), some (.int (iI ((-1)))), some (.int (iI 0))]) (st' := [.int (iI 0)]) rfl rfl ?_
    exact mi_eq0 (t := 554) rfl rfl (by omega) (by omega) (fun _ => K I1 A1 V X D hJ) (fun q => absurd rfl q)
  intro n
  induction n with
  | zero =>
    intro j I1 A1 V hn jm X D hJ
    exact fin j I1 A1 V (by omega) X D hJ
  | succ n ih =>
    intro j I1 A1 V hn jm X D hJ
    by_cases ej : j = m
    · exact fin j I1 A1 V ej X D hJ
    have rj := isL_rt hP m j C C0 C1 hL (by omega)
    have jz : rt A j C ≠ 0 := by
      intro ez
      rw [ez] at rj
      omega
    have vr := VD_rt hP C0 C1 hL (by omega : j < m)
    have vl : VD A (rt A j C) ≤ VD A C := VD_rtl hP C0 C1 hL j (by omega)
    have x7 := X.1.2.1
    have P1 := RU_P X
    have i9 := P1.1
    have c7 := X.2.2.1
    have e1 := X.1.2.2.1 (rt A j C) rj.1 (by omega)
    have wt := (WD_BX hP X.1 vr.2.1.1 vr.2.1.2).1
    refine go_a (pc' := 524) (ls' := [some (.ref h.length), some (.int (iI k)), some (.int (iI o)), some (.int (iI c)), some (.int (iI ((-1)))), some (.int (iI ((-1)))), some (.int (iI ((-1)))), some (.int (iI (rt A j C)))]) (st' := [.int (iI (rt A j C))]) rfl rfl ?_
    refine mi_eq0 (t := 554) rfl rfl (by omega) (by omega) (fun q => absurd q jz) (fun _ => ?_)
    refine go_a (pc' := 528) (ls' := [some (.ref h.length), some (.int (iI k)), some (.int (iI o)), some (.int (iI c)), some (.int (iI ((-1)))), some (.int (iI ((-1)))), some (.int (iI ((-1)))), some (.int (iI (rt A j C)))]) (st' := [.ref h.length]) rfl rfl ?_
    refine go_a (pc' := 529) (ls' := [some (.ref h.length), some (.int (iI k)), some (.int (iI o)), some (.int (iI c)), some (.int (iI ((-1)))), some (.int (iI ((-1)))), some (.int (iI ((-1)))), some (.int (iI (rt A j C)))]) (st' := [.ref h.length, .ref h.length]) rfl rfl ?_
    refine go_a (pc' := 530) (ls' := [some (.ref h.length), some (.int (iI k)), some (.int (iI o)), some (.int (iI c)), some (.int (iI ((-1)))), some (.int (iI ((-1)))), some (.int (iI ((-1)))), some (.int (iI (rt A j C)))]) (st' := [.ref h.length, .ref h.length, .ref h.length]) rfl rfl ?_
    refine go_get rfl mh_o rfl rfl ?_
    refine go_a (pc' := 535) (ls' := [some (.ref h.length), some (.int (iI k)), some (.int (iI o)), some (.int (iI c)), some (.int (iI ((-1)))), some (.int (iI ((-1)))), some (.int (iI ((-1)))), some (.int (iI (rt A j C)))]) (st' := [.int (iI (rt A j C)), .ref (h.length + 1), .ref h.length, .ref h.length]) rfl rfl ?_
    refine mi_ild rfl mh_a1 (by omega) (by omega) (by decide) ?_
    rw [e1.1]
    show xx_go (xt_P z) (d + 10) 154 536 [some (.ref h.length), some (.int (iI k)), some (.int (iI o)), some (.int (iI c)), some (.int (iI ((-1)))), some (.int (iI ((-1)))), some (.int (iI ((-1)))), some (.int (iI (rt A j C)))] [.int (iI (A 1 (rt A j C))), .ref h.length, .ref h.length] (mh h R I1 A1 N) _
    refine go_v (m := 105) (as := [.ref h.length, .int (iI (A 1 (rt A j C)))]) (r := [.ref h.length]) rfl rfl rfl mh_o rfl rfl (mr_term z (d + 2) ar (A 1 (rt A j C)) h R I1 A1 N hc X.2.1 vr.2.1.1 (by omega) (by omega) (by omega)) (fun v h1 hq => ?_)
    obtain ⟨t, I2, A2, rfl, rfl, R2, K2, ⟨u2, bb2⟩, ht⟩ := hq
    have tq := TQ_tm X.2.1 (BTX_RU hB hX X) vr.2.1.1 (by omega) (show TQ ar (A 1 (rt A j C)) t I1 A1 N I2 A2 from ⟨bb2, R2.2.1, by have := R2.2.2.1; omega, u2, ht⟩)
    rw [DM_RU hB hX X vr.2.1.1 vr.2.1.2, tok_tm hB hX vr.2.1.1 vr.2.1.2 (hT j (by omega))] at tq
    have tt : (0 ≤ t ∧ t < I2 7) ∧ (1 ≤ TZ A2 ar t ∧ TZ A2 ar t ≤ 120) ∧ TZ A2 ar t ≤ WD A (A 1 (rt A j C)) := by
      rcases ht with q | q
      · exact absurd (TOK_BX hP X.1 vr.2.1.1 vr.2.1.2 (hT j (by omega))) q.2
      · rw [wt] at q
        exact ⟨q.1, q.2.1, by omega⟩
    rw [wt] at R2
    show xx_go (xt_P z) (d + 10) 154 539 [some (.ref h.length), some (.int (iI k)), some (.int (iI o)), some (.int (iI c)), some (.int (iI ((-1)))), some (.int (iI ((-1)))), some (.int (iI ((-1)))), some (.int (iI (rt A j C)))] [.int (iI t), .ref h.length] (mh h R I2 A2 N) _
    refine go_v (m := 155) (as := [.ref h.length, .int (iI t)]) (r := []) rfl rfl rfl mh_o rfl rfl (mr_put z (d + 9) ar _ _ _ t h R I2 A2 N hc R2.2.1 (BTX_RU X.2.1 (BTX_RU hB hX X) R2).1 (K2 _ _ _ D) (by omega) tt.1.1 tt.1.2 tt.2.1.1 (fun _ => tt.2.1.2)) (fun v h1 hq => ?_)
    obtain ⟨rfl, I3, A3, rfl, R3, D3, -, -, jj⟩ := hq
    have hJ3 : DIT its I A N → DIT (its ++ itW A N C (j + 1)) I3 A3 N := fun h9 => by
      have h2 := DIT_BX X.2.1 (BTX_RU hB hX X).1 D bb2 (by unfold FB; omega) (by unfold GT; omega) (by unfold GT; omega) (by unfold FB; omega) (by unfold GT; omega) u2 (hJ h9)
      have h3 := jj _ _ (DIM_have (x := t) h2)
      have e := tq.2 (by omega)
      injection e with e
      rw [← e] at h3
      rw [itW_s, ← List.append_assoc]
      exact h3
    clear tq
    show xx_go (xt_P z) (d + 10) 154 542 [some (.ref h.length), some (.int (iI k)), some (.int (iI o)), some (.int (iI c)), some (.int (iI ((-1)))), some (.int (iI ((-1)))), some (.int (iI ((-1)))), some (.int (iI (rt A j C)))] [] (mh h R I3 A3 N) _
    have X3 := RU_tr (RU_tr X R2 (Int.le_refl _)) R3 (Int.le_refl _)
    have e3 := X3.1.2.2.1 (rt A j C) rj.1 (by omega)
    refine go_a (pc' := 543) (ls' := [some (.ref h.length), some (.int (iI k)), some (.int (iI o)), some (.int (iI c)), some (.int (iI ((-1)))), some (.int (iI ((-1)))), some (.int (iI ((-1)))), some (.int (iI (rt A j C)))]) (st' := [.ref h.length]) rfl rfl ?_
    refine go_get rfl mh_o rfl rfl ?_
    refine go_a (pc' := 548) (ls' := [some (.ref h.length), some (.int (iI k)), some (.int (iI o)), some (.int (iI c)), some (.int (iI ((-1)))), some (.int (iI ((-1)))), some (.int (iI ((-1)))), some (.int (iI (rt A j C)))]) (st' := [.int (iI (rt A j C)), .ref (h.length + 2)]) rfl rfl ?_
    refine mi_ild rfl mh_a2 (by omega) (by omega) (by decide) ?_
    refine go_a (pc' := 551) (ls' := [some (.ref h.length), some (.int (iI k)), some (.int (iI o)), some (.int (iI c)), some (.int (iI ((-1)))), some (.int (iI ((-1)))), some (.int (iI ((-1)))), some (.int (iI (A3 2 (rt A j C))))]) (st' := []) rfl rfl ?_
    refine go_a (pc' := 522) (ls' := [some (.ref h.length), some (.int (iI k)), some (.int (iI o)), some (.int (iI c)), some (.int (iI ((-1)))), some (.int (iI ((-1)))), some (.int (iI ((-1)))), some (.int (iI (A3 2 (rt A j C))))]) (st' := []) rfl rfl ?_
    rw [e3.2.1, ← rt_succ A j C]
    exact ih (j + 1) I3 A3 _ (by omega) (by omega) (RU_w X3 (by omega)) (DR_w D3 (by omega) (by omega) (Int.le_refl _)) hJ3
theorem VD_LE {I : Nat → Int} {A : Nat → Int → Int} {m : Nat} {k : Int} (hP : PW I A) (n0 : A 1 0 < 0) (n2 : A 1 2 < 0) (h0 : 0 ≤ k) (h1 : k < I 7) (hL : isL A m k) : VD A k ≤ WD A k ∧ (VD A k = 0 ∨ 2 ≤ WD A k) := by
  match m, hL with
  | 0, hL =>
    have e : k = 0 := hL
    subst e
    rw [VD_atom n0, if_pos rfl, WD_atom n0]
    omega
  | m + 1, hL =>
    have q := hP.2 k h0 h1
    have q2 := q.2.2.2.2 hL.1
    have v := VD_pair hP h0 h1 hL.1
    have wp := WD_pair hP h0 h1 hL.1
    split at wp
    · rename_i c
      have r := hP.2 (A 2 k) q.2.2.1 (by omega)
      have r2 := r.2.2.2.2 c.2.1
      have v2 := VD_pair hP q.2.2.1 (by omega : A 2 k < I 7) c.2.1
      rw [c.2.2, VD_atom n0, if_pos rfl] at v2
      rw [c.1, WD_atom n2] at v
      have w1 := WD_1 hP c.2.1 (by omega : A 1 (A 2 k) < I 7)
      omega
    · have w1 := WD_1 hP hL.1 (by omega : A 1 k < I 7)
      have v0 := VD_0 hP q.2.2.1 (by omega : A 2 k < I 7)
      omega
set_option maxRecDepth 4000 in
theorem mm_con_weak (z : Value) (d : Nat) (ar : Int → Int) (ft : Nat → Int) (Fb : List (Nat × List Nat × ob_T)) (Tb : List (Nat × ob_T)) (ρ : Option (List ob_T)) (k o c E dd : Int) (h R : xx_H) (I : Nat → Int) (A : Nat → Int → Int) (N : Int → Int) (hc : 12 ≤ h.length) (hB : BI ar I A N) (k0 : 0 ≤ k) (k1 : k < 40) (ek : A 47 k = o) (o0 : 0 ≤ o) (o1 : o < I 7) (hF : FORM ar I A N o) (ec : A 49 k = c) (c0 : 0 ≤ c) (w : WD A o ≤ 1000) (hE : E + 128 * WD A o ≤ 140000) (d0 : 0 ≤ dd) (d1 : dd ≤ 39) (c9 : Int) (hcf : CFX ar I A o c9) (hX : BTX ar ft Fb Tb I A N) (w0 : I 49 = 0) (ef : A 1 o = 39) (hU : I 7 ≤ E + c9 + (128 * WD A (A 1 (rt A 2 o)) - KC (dd + 1) A ar c)) (d38 : dd ≤ 38) (c1 : c < 350) (hC : CLA ar I A c) (hρ : ∀ os : List ob_T, sp_all ((sp_as (DM A N (A 1 (rt A 1 o)))).map (sp_tm ft)) = some os → ρ = sp_cz ((CLD A N c).map some ++ os.map some)) : xx_cl (xt_P z) (d + 11) 154 [.ref h.length, .int (iI k)] (mh h R I A N) (fun v h1 => ∃ (b : Int) (I1 : Nat → Int) (A1 : Nat → Int → Int) (N1 : Int → Int), v = some (.int (iI b)) ∧ h1 = mh h R I1 A1 N1 ∧ RU ar 140000 I A N I1 A1 N1 ∧ ((b = 0 ∧ ρ = none) ∨ (b = 1 ∧ (∃ its : List (Option ob_T), DIT its I1 A1 N1 ∧ ρ = sp_cz its) ∧ ∃ S V : Int, DR ar 1190 S V I1 A1 ∧ (I1 49 = 0 → I1 67 ≤ 30 → SG (TZ A1 ar) (A1 38) (I1 67).toNat ≤ 400 → I1 7 + KDR dd I1 A1 ar ≤ E + 128 * WD A o)))) := by
  have hP := BI_P hB
  have n0 := BI_n0 hB
  have p9 := hP.1
  have nm := hB.1.2.1.1
  have n2 : A 1 2 < 0 := by rw [hB.1.2.1.2 2 (by decide) (by decide)]; decide
  obtain ⟨n, hL, n1, hF⟩ := hF
  have en : n = 3 ∧ ∃ m : Nat, isL A m (A 1 (rt A 1 o)) ∧ ∀ j : Nat, j < m → TOK A ar (A 1 (rt A j (A 1 (rt A 1 o)))) := by
    rcases hF with q | q | q | q | q | q | q | q | q | q | q | q
    · omega
    · omega
    · omega
    · omega
    · omega
    · omega
    · exact ⟨q.2.1, q.2.2⟩
    · omega
    · omega
    · omega
    · omega
    · omega
  clear hF
  obtain ⟨rfl, m, lm, tm⟩ := en
  have wo := WD_pair hP o0 o1 (by omega)
  rw [if_neg (fun q => absurd q.1 (by omega))] at wo
  have v0 := VD_rt hP o0 o1 hL (by decide : 0 < 3)
  have v0e : VD A o = WD A (A 1 o) + VD A (rt A 1 o) := v0.1
  have wr : WD A (A 1 o) = 1 := WD_atom (by rw [hB.1.2.1.2 _ (by omega) (by omega)]; decide)
  have v1 := VD_rt hP o0 o1 hL (by decide : 1 < 3)
  have v1e : VD A (rt A 1 o) = WD A (A 1 (rt A 1 o)) + VD A (rt A 2 o) := v1.1
  have v2 := VD_rt hP o0 o1 hL (by decide : 2 < 3)
  have v2e : VD A (rt A 2 o) = WD A (A 1 (rt A 2 o)) + VD A (rt A 3 o) := v2.1
  have vz : VD A (rt A 3 o) = 0 := by rw [isL_end 3 o hL, VD_atom n0, if_pos rfl]
  have cf := hcf.2 (by omega)
  have cf2 := cf.2.2.2.1 ef
  have h1 := hC.1
  have c120 := CLA_120 hC
  have kc := KK_ge (d := dd + 1) (n := A 51 c) (s := SG (TZ A ar) (fun k => A 50 (30 * c + k)) (A 51 c).toNat) (v := SG (NT A wq) (fun k => A 50 (30 * c + k)) (A 51 c).toNat) (by omega) (by omega)
  have kce : KC (dd + 1) A ar c = KK (dd + 1) (A 51 c) (SG (TZ A ar) (fun k => A 50 (30 * c + k)) (A 51 c).toNat) (SG (NT A wq) (fun k => A 50 (30 * c + k)) (A 51 c).toNat) := rfl
  have vl := VD_LE hP n0 n2 v1.2.1.1 v1.2.1.2 lm
  have vn := VD_nn A (A 1 (rt A 1 o))
  have mv := isL_VD hP n0 m _ v1.2.1.1 v1.2.1.2 lm
  refine cl_go rfl ?_
  show xx_go (xt_P z) (d + 10) 154 0 [some (.ref h.length), some (.int (iI k)), none, none, none, none, none, none] [] (mh h R I A N) _
  refine go_a (pc' := 1) (ls' := [some (.ref h.length), some (.int (iI k)), none, none, none, none, none, none]) (st' := [.ref h.length]) rfl rfl ?_
  refine go_get rfl mh_o rfl rfl ?_
  refine go_a (pc' := 5) (ls' := [some (.ref h.length), some (.int (iI k)), none, none, none, none, none, none]) (st' := [.int (iI k), .ref (h.length + 47)]) rfl rfl ?_
  refine mi_ild rfl mh_a47 (by omega) (by omega) (by decide) ?_
  rw [ek]
  refine go_a (pc' := 7) (ls' := [some (.ref h.length), some (.int (iI k)), some (.int (iI o)), none, none, none, none, none]) (st' := []) rfl rfl ?_
  refine go_a (pc' := 8) (ls' := [some (.ref h.length), some (.int (iI k)), some (.int (iI o)), none, none, none, none, none]) (st' := [.ref h.length]) rfl rfl ?_
  refine go_get rfl mh_o rfl rfl ?_
  refine go_a (pc' := 12) (ls' := [some (.ref h.length), some (.int (iI k)), some (.int (iI o)), none, none, none, none, none]) (st' := [.int (iI k), .ref (h.length + 49)]) rfl rfl ?_
  refine mi_ild rfl mh_a49 (by omega) (by omega) (by decide) ?_
  rw [ec]
  refine go_a (pc' := 14) (ls' := [some (.ref h.length), some (.int (iI k)), some (.int (iI o)), some (.int (iI c)), none, none, none, none]) (st' := []) rfl rfl ?_
  refine go_a (pc' := 15) (ls' := [some (.ref h.length), some (.int (iI k)), some (.int (iI o)), some (.int (iI c)), none, none, none, none]) (st' := [.ref h.length]) rfl rfl ?_
  refine go_a (pc' := 16) (ls' := [some (.ref h.length), some (.int (iI k)), some (.int (iI o)), some (.int (iI c)), none, none, none, none]) (st' := [.int (iI 0), .ref h.length]) rfl rfl ?_
  refine go_put (j := 67) rfl mh_o rfl rfl (show 12 ≤ _ from hc) (show 67 < 86 by decide) rfl rfl ?_
  rw [mh_p67]
  obtain ⟨J, hJ⟩ : ∃ J : Nat → Int, J = su I 67 0 := ⟨_, rfl⟩
  rw [← hJ]
  have bJ : BX (fun j => j = 67) NO I A N J A N := by
    subst hJ
    exact BX_of hB.1.1 (fun j q => su_ne q) (fun a _ => rfl) rfl rfl rfl rfl rfl rfl rfl rfl rfl rfl
  have J7 : J 7 = I 7 := by subst hJ; rfl
  have J49 : J 49 = I 49 := by subst hJ; rfl
  have R0 : RU ar 0 I A N J A N := RU_of hB bJ (fun j q => by subst q; unfold FC; omega) (fun a q => absurd q (fun z => z)) (SZI_124 (A := A) (A1 := A) hB.1.2.2 rfl rfl rfl J7) (by subst hJ; rfl) (by subst hJ; rfl) (by rw [J49]; exact hB.2.2.2.2) (by omega) (fun _ => J49)
  have D0 : DR ar 0 0 0 J A := by subst hJ; exact DR_00
  have PJ := RU_P R0
  have T0 : BTX ar ft Fb Tb J A N := BTX_RU hB hX R0
  have di0 : DIT [] J A N := by
    subst hJ
    exact Or.inl ⟨w0, rfl⟩
  refine go_a (pc' := 20) (ls' := [some (.ref h.length), some (.int (iI k)), some (.int (iI o)), some (.int (iI c)), none, none, none, none]) (st' := [.ref h.length]) rfl rfl ?_
  refine go_a (pc' := 21) (ls' := [some (.ref h.length), some (.int (iI k)), some (.int (iI o)), some (.int (iI c)), none, none, none, none]) (st' := [.int (iI o), .ref h.length]) rfl rfl ?_
  refine go_v (m := 98) (as := [.ref h.length, .int (iI o)]) (r := []) rfl rfl rfl mh_o rfl rfl (mm_lenL z (d + 8) 3 o h R J A N hc PJ n0 o0 (by omega) hL) (fun v h1 hq => ?_)
  obtain ⟨rfl, rfl⟩ := hq
  show xx_go (xt_P z) (d + 10) 154 24 [some (.ref h.length), some (.int (iI k)), some (.int (iI o)), some (.int (iI c)), none, none, none, none] [.int (iI (((3 : Nat) : Int)))] (mh h R J A N) _
  refine go_a (pc' := 25) (ls' := [some (.ref h.length), some (.int (iI k)), some (.int (iI o)), some (.int (iI c)), none, none, none, none]) (st' := [.int (iI 1), .int (iI (((3 : Nat) : Int)))]) rfl rfl ?_
  refine mi_le (t := 107) rfl rfl (by omega) (by omega) (by omega) (by omega) (fun q => by omega) (fun _ => ?_)
  refine go_a (pc' := 29) (ls' := [some (.ref h.length), some (.int (iI k)), some (.int (iI o)), some (.int (iI c)), none, none, none, none]) (st' := [.ref h.length]) rfl rfl ?_
  refine go_get rfl mh_o rfl rfl ?_
  refine go_a (pc' := 33) (ls' := [some (.ref h.length), some (.int (iI k)), some (.int (iI o)), some (.int (iI c)), none, none, none, none]) (st' := [.int (iI o), .ref (h.length + 1)]) rfl rfl ?_
  refine mi_ild rfl mh_a1 (by omega) (by omega) (by decide) ?_
  refine go_a (pc' := 36) (ls' := [some (.ref h.length), some (.int (iI k)), some (.int (iI o)), some (.int (iI c)), none, none, none, none]) (st' := [.int (iI 37), .int (iI (A 1 o))]) rfl rfl ?_
  refine mi_eq (t := 107) rfl rfl (by omega) (by omega) (by omega) (by omega) (fun q => by omega) (fun _ => ?_)
  refine go_a (pc' := 40) (ls' := [some (.ref h.length), some (.int (iI k)), some (.int (iI o)), some (.int (iI c)), none, none, none, none]) (st' := [.ref h.length]) rfl rfl ?_
  refine go_get rfl mh_o rfl rfl ?_
  refine go_a (pc' := 44) (ls' := [some (.ref h.length), some (.int (iI k)), some (.int (iI o)), some (.int (iI c)), none, none, none, none]) (st' := [.int (iI o), .ref (h.length + 1)]) rfl rfl ?_
  refine mi_ild rfl mh_a1 (by omega) (by omega) (by decide) ?_
  refine go_a (pc' := 47) (ls' := [some (.ref h.length), some (.int (iI k)), some (.int (iI o)), some (.int (iI c)), none, none, none, none]) (st' := [.int (iI 38), .int (iI (A 1 o))]) rfl rfl ?_
  refine mi_eq (t := 107) rfl rfl (by omega) (by omega) (by omega) (by omega) (fun q => by omega) (fun _ => ?_)
  refine go_a (pc' := 51) (ls' := [some (.ref h.length), some (.int (iI k)), some (.int (iI o)), some (.int (iI c)), none, none, none, none]) (st' := [.ref h.length]) rfl rfl ?_
  refine go_get rfl mh_o rfl rfl ?_
  refine go_a (pc' := 55) (ls' := [some (.ref h.length), some (.int (iI k)), some (.int (iI o)), some (.int (iI c)), none, none, none, none]) (st' := [.int (iI o), .ref (h.length + 1)]) rfl rfl ?_
  refine mi_ild rfl mh_a1 (by omega) (by omega) (by decide) ?_
  refine go_a (pc' := 58) (ls' := [some (.ref h.length), some (.int (iI k)), some (.int (iI o)), some (.int (iI c)), none, none, none, none]) (st' := [.int (iI 39), .int (iI (A 1 o))]) rfl rfl ?_
  refine mi_eq (t := 107) rfl rfl (by omega) (by omega) (by omega) (by omega) (fun _ => ?_) (fun q => by omega)
  refine go_a (pc' := 108) (ls' := [some (.ref h.length), some (.int (iI k)), some (.int (iI o)), some (.int (iI c)), none, none, none, none]) (st' := [.int (iI ((-1)))]) rfl rfl ?_
  refine go_a (pc' := 110) (ls' := [some (.ref h.length), some (.int (iI k)), some (.int (iI o)), some (.int (iI c)), some (.int (iI ((-1)))), none, none, none]) (st' := []) rfl rfl ?_
  refine go_a (pc' := 111) (ls' := [some (.ref h.length), some (.int (iI k)), some (.int (iI o)), some (.int (iI c)), some (.int (iI ((-1)))), none, none, none]) (st' := [.ref h.length]) rfl rfl ?_
  refine go_get rfl mh_o rfl rfl ?_
  refine go_a (pc' := 115) (ls' := [some (.ref h.length), some (.int (iI k)), some (.int (iI o)), some (.int (iI c)), some (.int (iI ((-1)))), none, none, none]) (st' := [.int (iI o), .ref (h.length + 1)]) rfl rfl ?_
  refine mi_ild rfl mh_a1 (by omega) (by omega) (by decide) ?_
  refine go_a (pc' := 118) (ls' := [some (.ref h.length), some (.int (iI k)), some (.int (iI o)), some (.int (iI c)), some (.int (iI ((-1)))), none, none, none]) (st' := [.int (iI 32), .int (iI (A 1 o))]) rfl rfl ?_
  refine mi_lt (t := 145) rfl rfl (by omega) (by omega) (by omega) (by omega) (fun q => by omega) (fun _ => ?_)
  refine go_a (pc' := 122) (ls' := [some (.ref h.length), some (.int (iI k)), some (.int (iI o)), some (.int (iI c)), some (.int (iI ((-1)))), none, none, none]) (st' := [.ref h.length]) rfl rfl ?_
  refine go_get rfl mh_o rfl rfl ?_
  refine go_a (pc' := 126) (ls' := [some (.ref h.length), some (.int (iI k)), some (.int (iI o)), some (.int (iI c)), some (.int (iI ((-1)))), none, none, none]) (st' := [.int (iI o), .ref (h.length + 1)]) rfl rfl ?_
  refine mi_ild rfl mh_a1 (by omega) (by omega) (by decide) ?_
  refine go_a (pc' := 129) (ls' := [some (.ref h.length), some (.int (iI k)), some (.int (iI o)), some (.int (iI c)), some (.int (iI ((-1)))), none, none, none]) (st' := [.int (iI 36), .int (iI (A 1 o))]) rfl rfl ?_
  refine mi_gt (t := 145) rfl rfl (by omega) (by omega) (by omega) (by omega) (fun _ => ?_) (fun q => by omega)
  refine go_a (pc' := 146) (ls' := [some (.ref h.length), some (.int (iI k)), some (.int (iI o)), some (.int (iI c)), some (.int (iI ((-1)))), none, none, none]) (st' := [.int (iI ((-1)))]) rfl rfl ?_
  refine go_a (pc' := 148) (ls' := [some (.ref h.length), some (.int (iI k)), some (.int (iI o)), some (.int (iI c)), some (.int (iI ((-1)))), some (.int (iI ((-1)))), none, none]) (st' := []) rfl rfl ?_
  refine go_a (pc' := 149) (ls' := [some (.ref h.length), some (.int (iI k)), some (.int (iI o)), some (.int (iI c)), some (.int (iI ((-1)))), some (.int (iI ((-1)))), none, none]) (st' := [.ref h.length]) rfl rfl ?_
  refine go_get rfl mh_o rfl rfl ?_
  refine go_a (pc' := 153) (ls' := [some (.ref h.length), some (.int (iI k)), some (.int (iI o)), some (.int (iI c)), some (.int (iI ((-1)))), some (.int (iI ((-1)))), none, none]) (st' := [.int (iI o), .ref (h.length + 1)]) rfl rfl ?_
  refine mi_ild rfl mh_a1 (by omega) (by omega) (by decide) ?_
  refine go_a (pc' := 156) (ls' := [some (.ref h.length), some (.int (iI k)), some (.int (iI o)), some (.int (iI c)), some (.int (iI ((-1)))), some (.int (iI ((-1)))), none, none]) (st' := [.int (iI 35), .int (iI (A 1 o))]) rfl rfl ?_
  refine mi_eq (t := 170) rfl rfl (by omega) (by omega) (by omega) (by omega) (fun q => by omega) (fun _ => ?_)
  refine go_a (pc' := 160) (ls' := [some (.ref h.length), some (.int (iI k)), some (.int (iI o)), some (.int (iI c)), some (.int (iI ((-1)))), some (.int (iI ((-1)))), none, none]) (st' := [.ref h.length]) rfl rfl ?_
  refine go_get rfl mh_o rfl rfl ?_
  refine go_a (pc' := 164) (ls' := [some (.ref h.length), some (.int (iI k)), some (.int (iI o)), some (.int (iI c)), some (.int (iI ((-1)))), some (.int (iI ((-1)))), none, none]) (st' := [.int (iI o), .ref (h.length + 1)]) rfl rfl ?_
  refine mi_ild rfl mh_a1 (by omega) (by omega) (by decide) ?_
  refine go_a (pc' := 167) (ls' := [some (.ref h.length), some (.int (iI k)), some (.int (iI o)), some (.int (iI c)), some (.int (iI ((-1)))), some (.int (iI ((-1)))), none, none]) (st' := [.int (iI 36), .int (iI (A 1 o))]) rfl rfl ?_
  refine mi_ne (t := 183) rfl rfl (by omega) (by omega) (by omega) (by omega) (fun _ => ?_) (fun q => by omega)
  refine go_a (pc' := 184) (ls' := [some (.ref h.length), some (.int (iI k)), some (.int (iI o)), some (.int (iI c)), some (.int (iI ((-1)))), some (.int (iI ((-1)))), none, none]) (st' := [.int (iI ((-1)))]) rfl rfl ?_
  refine go_a (pc' := 186) (ls' := [some (.ref h.length), some (.int (iI k)), some (.int (iI o)), some (.int (iI c)), some (.int (iI ((-1)))), some (.int (iI ((-1)))), some (.int (iI ((-1)))), none]) (st' := []) rfl rfl ?_
  refine go_a (pc' := 187) (ls' := [some (.ref h.length), some (.int (iI k)), some (.int (iI o)), some (.int (iI c)), some (.int (iI ((-1)))), some (.int (iI ((-1)))), some (.int (iI ((-1)))), none]) (st' := [.ref h.length]) rfl rfl ?_
  refine go_get rfl mh_o rfl rfl ?_
  refine go_a (pc' := 191) (ls' := [some (.ref h.length), some (.int (iI k)), some (.int (iI o)), some (.int (iI c)), some (.int (iI ((-1)))), some (.int (iI ((-1)))), some (.int (iI ((-1)))), none]) (st' := [.int (iI o), .ref (h.length + 1)]) rfl rfl ?_
  refine mi_ild rfl mh_a1 (by omega) (by omega) (by decide) ?_
  refine mi_ts (c := 39) (t := 508) rfl ef rfl ?_
  refine go_a (pc' := 509) (ls' := [some (.ref h.length), some (.int (iI k)), some (.int (iI o)), some (.int (iI c)), some (.int (iI ((-1)))), some (.int (iI ((-1)))), some (.int (iI ((-1)))), none]) (st' := [.ref h.length]) rfl rfl ?_
  refine go_a (pc' := 510) (ls' := [some (.ref h.length), some (.int (iI k)), some (.int (iI o)), some (.int (iI c)), some (.int (iI ((-1)))), some (.int (iI ((-1)))), some (.int (iI ((-1)))), none]) (st' := [.int (iI c), .ref h.length]) rfl rfl ?_
  refine go_a (pc' := 511) (ls' := [some (.ref h.length), some (.int (iI k)), some (.int (iI o)), some (.int (iI c)), some (.int (iI ((-1)))), some (.int (iI ((-1)))), some (.int (iI ((-1)))), none]) (st' := [.int (iI ((-1))), .int (iI c), .ref h.length]) rfl rfl ?_
  refine go_v (m := 158) (as := [.ref h.length, .int (iI c), .int (iI ((-1)))]) (r := []) rfl rfl rfl mh_o rfl rfl (mr_pour z (d + 8) ar 0 0 0 c (-1) h R J A N hc R0.2.1 T0.1 D0 (by decide) c0 c1 (CLA_RU hP R0 hC) (by decide) (by decide)) (fun v h1 hq => ?_)
  obtain ⟨rfl, I1, A1, rfl, R1, -, D1, dj1⟩ := hq
  have di1 := dj1 [] di0
  rw [pol_all hC, List.nil_append] at di1
  have pe1 := PE_le (A := A) (c := c) (b := -1) (x := 1) (k := A 51 c) (by decide)
  have pe2 : 0 ≤ PE A c (-1) (TZ A ar (A 50 (30 * c))) (A 51 c) := by
    rcases PE_nn A c (-1) (TZ A ar (A 50 (30 * c))) (A 51 c) with q | q
    · rw [q]; exact Int.le_refl _
    · rw [q]; exact tz_1nn A ar _ _
  have D1b := DR_w (m1 := A 51 c) (s1 := SG (TZ A ar) (fun k => A 50 (30 * c + k)) (A 51 c).toNat) D1 (by omega) (by omega) (Int.le_refl _)
  have P1 := RU_P R1
  have X1 := RU_tr R0 R1 (Int.le_refl _)
  have T1 := BTX_RU R0.2.1 T0 R1
  have y1 := X1.2.2.1
  have z1 : I1 7 ≤ 140000 := P1.1
  have x1 : I 7 ≤ I1 7 := X1.1.2.1
  have ex1 : A1 1 o = A 1 o := (X1.1.2.2.1 o o0 o1).1
  clear T0
  show xx_go (xt_P z) (d + 10) 154 514 [some (.ref h.length), some (.int (iI k)), some (.int (iI o)), some (.int (iI c)), some (.int (iI ((-1)))), some (.int (iI ((-1)))), some (.int (iI ((-1)))), none] [] (mh h R I1 A1 N) _
  refine go_a (pc' := 515) (ls' := [some (.ref h.length), some (.int (iI k)), some (.int (iI o)), some (.int (iI c)), some (.int (iI ((-1)))), some (.int (iI ((-1)))), some (.int (iI ((-1)))), none]) (st' := [.ref h.length]) rfl rfl ?_
  refine go_a (pc' := 516) (ls' := [some (.ref h.length), some (.int (iI k)), some (.int (iI o)), some (.int (iI c)), some (.int (iI ((-1)))), some (.int (iI ((-1)))), some (.int (iI ((-1)))), none]) (st' := [.int (iI o), .ref h.length]) rfl rfl ?_
  refine go_a (pc' := 517) (ls' := [some (.ref h.length), some (.int (iI k)), some (.int (iI o)), some (.int (iI c)), some (.int (iI ((-1)))), some (.int (iI ((-1)))), some (.int (iI ((-1)))), none]) (st' := [.int (iI 1), .int (iI o), .ref h.length]) rfl rfl ?_
  have L1 := isL_extB hP X1.1 3 o o0 o1 hL
  have i1 := it_BX hP X1.1 o0 o1 hL (by decide : 1 < 3)
  refine go_v (m := 99) (as := [.ref h.length, .int (iI o), .int (iI 1)]) (r := []) rfl rfl rfl mh_o rfl rfl (mm_nth z (d + 9) 1 3 o h R I1 A1 N hc P1 (by decide) o0 (by omega) L1 (by omega)) (fun v h1 hq => ?_)
  obtain ⟨rfl, rfl⟩ := hq
  rw [i1]
  show xx_go (xt_P z) (d + 10) 154 520 [some (.ref h.length), some (.int (iI k)), some (.int (iI o)), some (.int (iI c)), some (.int (iI ((-1)))), some (.int (iI ((-1)))), some (.int (iI ((-1)))), none] [.int (iI (A 1 (rt A 1 o)))] (mh h R I1 A1 N) _
  refine go_a (pc' := 522) (ls' := [some (.ref h.length), some (.int (iI k)), some (.int (iI o)), some (.int (iI c)), some (.int (iI ((-1)))), some (.int (iI ((-1)))), some (.int (iI ((-1)))), some (.int (iI (A 1 (rt A 1 o))))]) (st' := []) rfl rfl ?_
  have vx := (WD_BX hP X1.1 v1.2.1.1 v1.2.1.2).2
  refine mm_weak_loop z d m ar ft Fb Tb ((CLD A N c).map some) k o c (A 1 (rt A 1 o)) (A 51 c) (SG (TZ A ar) (fun k => A 50 (30 * c + k)) (A 51 c).toNat) h R I1 A1 N hc X1.2.1 v1.2.1.1 (by omega) (isL_extB hP X1.1 m _ v1.2.1.1 v1.2.1.2 lm) (fun j hj => by rw [it_BX hP X1.1 v1.2.1.1 v1.2.1.2 lm hj]; have b := (VD_rt hP v1.2.1.1 v1.2.1.2 lm hj).2.1; exact TOK_BX hP X1.1 b.1 b.2 (tm j hj)) (by rw [vx]; omega) (by rw [vx]; omega) h1.1 h1.2 T1 _ ?_ m 0 I1 A1 _ (by omega) (by omega) (RU_rf X1.2.1 (by show 0 ≤ 2 * (_ - _); rw [show rt A1 0 (A 1 (rt A 1 o)) = A 1 (rt A 1 o) from rfl]; omega)) (DR_w D1b (by omega) (by rw [show rt A1 0 (A 1 (rt A 1 o)) = A 1 (rt A 1 o) from rfl]; omega) (Int.le_refl _)) (fun h9 => by rw [show itW A1 N (A 1 (rt A 1 o)) 0 = [] from rfl, List.append_nil]; exact h9)
  intro I2 A2 V9 R2 D2 hJ9
  have di2 := hJ9 di1
  have ew : itW A1 N (A 1 (rt A 1 o)) m = ((List.range m).map (fun (j : Nat) => (sp_nf (DM A N (A 1 (rt A j (A 1 (rt A 1 o)))))).1)).map some := by
    unfold itW
    rw [List.map_map]
    refine List.map_congr_left (fun j hj => ?_)
    have hj := List.mem_range.mp hj
    have b := (VD_rt hP v1.2.1.1 v1.2.1.2 lm hj).2.1
    rw [it_BX hP X1.1 v1.2.1.1 v1.2.1.2 lm hj, DM_RU hB hX X1 b.1 b.2]
    rfl
  rw [ew] at di2
  have eall : sp_all ((sp_as (DM A N (A 1 (rt A 1 o)))).map (sp_tm ft)) = some ((List.range m).map (fun (j : Nat) => (sp_nf (DM A N (A 1 (rt A j (A 1 (rt A 1 o)))))).1)) := by
    rw [DM_li hB.1.1 hX.1 m _ v1.2.1.1 v1.2.1.2 lm, as_li, List.map_map]
    refine all_map _ (fun j hj => ?_)
    have hj := List.mem_range.mp hj
    have b := (VD_rt hP v1.2.1.1 v1.2.1.2 lm hj).2.1
    exact tok_tm hB hX b.1 b.2 (tm j hj)
  rw [vx] at R2 D2
  have P2 := RU_P R2
  have X2 := RU_tr X1 R2 (Int.le_refl _)
  have T2 := BTX_RU X1.2.1 T1 R2
  have y2 := X2.2.2.1
  have z2 : I2 7 ≤ 140000 := P2.1
  have x2 : I 7 ≤ I2 7 := X2.1.2.1
  have ex2 : A2 1 o = A 1 o := (X2.1.2.2.1 o o0 o1).1
  clear T1 y1 z1 x1 ex1
  refine go_a (pc' := 555) (ls' := [some (.ref h.length), some (.int (iI k)), some (.int (iI o)), some (.int (iI c)), some (.int (iI ((-1)))), some (.int (iI ((-1)))), some (.int (iI ((-1)))), some (.int (iI 0))]) (st' := [.int (iI 1)]) rfl rfl ?_
  refine go_r rfl rfl rfl rfl rfl rfl ⟨1, I2, A2, N, rfl, rfl, RU_w X2 (by omega), Or.inr ⟨rfl, ⟨_, di2, hρ _ eall⟩, _, _, DR_w D2 (by omega) (Int.le_refl _) (Int.le_refl _), fun b9 b30 b400 => ?_⟩⟩
  have dm := D2.1
  have ds := D2.2.2.1
  have dv := D2.2.2.2
  have kk : KDR dd I2 A2 ar ≤ E + 128 * WD A o - I2 7 := by have kw := KK_weak (d := dd) (n := A 51 c) (s := SG (TZ A ar) (fun k => A 50 (30 * c + k)) (A 51 c).toNat) (v := SG (NT A wq) (fun k => A 50 (30 * c + k)) (A 51 c).toNat) (n2 := I2 67) (s2 := SG (TZ A2 ar) (A2 38) (I2 67).toNat) (v2 := SG (NT A2 wq) (A2 38) (I2 67).toNat) (wd := WD A (A 1 (rt A 1 o))) (vd := VD A (A 1 (rt A 1 o))) d0 d38 (by omega) (by omega) (by omega) (by omega) v1.2.2.1 vn vl.1 vl.2; unfold KDR; omega
  omega
theorem CLA_SG {ar : Int → Int} {x : Int} {I I1 : Nat → Int} {A A1 : Nat → Int → Int} {N N1 : Int → Int} {c : Int} (hP : PW I A) (X : RU ar x I A N I1 A1 N1) (h : CLA ar I A c) : SG (TZ A1 ar) (fun k => A1 50 (30 * c + k)) (A1 51 c).toNat = SG (TZ A ar) (fun k => A 50 (30 * c + k)) (A 51 c).toNat := by
  have e50 : A1 50 = A 50 := X.1.2.2.2.2 50 (by decide) (by decide) (by decide) (by decide) (by decide) (by decide) (by unfold GC; omega)
  have e51 : A1 51 = A 51 := X.1.2.2.2.2 51 (by decide) (by decide) (by decide) (by decide) (by decide) (by decide) (by unfold GC; omega)
  have h1 := h.1
  rw [e50, e51]
  refine SG_congr _ (fun e he => ?_)
  have g := h.2.1 e (by omega) (by omega)
  exact RU_t hP X g.1.1 g.1.2 g.2.1
set_option maxRecDepth 4000 in
theorem mm_con_cut (z : Value) (d : Nat) (ar : Int → Int) (ft : Nat → Int) (Fb : List (Nat × List Nat × ob_T)) (Tb : List (Nat × ob_T)) (ρ : Option (List ob_T)) (k o c E dd : Int) (h R : xx_H) (I : Nat → Int) (A : Nat → Int → Int) (N : Int → Int) (hc : 12 ≤ h.length) (hB : BI ar I A N) (k0 : 0 ≤ k) (k1 : k < 40) (ek : A 47 k = o) (o0 : 0 ≤ o) (o1 : o < I 7) (hF : FORM ar I A N o) (ec : A 49 k = c) (c0 : 0 ≤ c) (w : WD A o ≤ 1000) (hE : E + 128 * WD A o ≤ 140000) (d0 : 0 ≤ dd) (d1 : dd ≤ 39) (c9 : Int) (hcf : CFX ar I A o c9) (hX : BTX ar ft Fb Tb I A N) (w0 : I 49 = 0) (ef : A 1 o = 40) (hU : I 7 ≤ E + c9 + (128 * WD A (A 1 (rt A 2 o)) - KC (dd + 1) A ar c + (128 * WD A (A 1 (rt A 3 o)) - KC (dd + 1) A ar (c + 1)))) (d38 : dd ≤ 38) (c1 : c + 1 < 350) (hC : CLA ar I A c) (hC1 : CLA ar I A (c + 1)) (hρ : ∀ l : ob_T, sp_tm ft (DM A N (A 1 (rt A 1 o))) = some l → ρ = (sp_ntO (some l)).bind (fun nl => ifc (l ∈ CLD A N c ∧ nl ∈ CLD A N (c + 1)) (sp_cz ((sp_rm l (CLD A N c)).map some ++ (sp_rm nl (CLD A N (c + 1))).map some)) none)) : xx_cl (xt_P z) (d + 11) 154 [.ref h.length, .int (iI k)] (mh h R I A N) (fun v h1 => ∃ (b : Int) (I1 : Nat → Int) (A1 : Nat → Int → Int) (N1 : Int → Int), v = some (.int (iI b)) ∧ h1 = mh h R I1 A1 N1 ∧ RU ar 140000 I A N I1 A1 N1 ∧ ((b = 0 ∧ ρ = none) ∨ (b = 1 ∧ (∃ its : List (Option ob_T), DIT its I1 A1 N1 ∧ ρ = sp_cz its) ∧ ∃ S V : Int, DR ar 1190 S V I1 A1 ∧ (I1 49 = 0 → I1 67 ≤ 30 → SG (TZ A1 ar) (A1 38) (I1 67).toNat ≤ 400 → I1 7 + KDR dd I1 A1 ar ≤ E + 128 * WD A o)))) := by
  have hP := BI_P hB
  have n0 := BI_n0 hB
  have p9 := hP.1
  have nm := hB.1.2.1.1
  have n2 : A 1 2 < 0 := by rw [hB.1.2.1.2 2 (by decide) (by decide)]; decide
  obtain ⟨n, hL, n1, hF⟩ := hF
  have en : n = 4 ∧ TOK A ar (A 1 (rt A 1 o)) := by
    rcases hF with q | q | q | q | q | q | q | q | q | q | q | q
    · omega
    · omega
    · omega
    · omega
    · omega
    · omega
    · omega
    · exact ⟨q.2.1, q.2.2⟩
    · omega
    · omega
    · omega
    · omega
  clear hF
  obtain ⟨rfl, tk1⟩ := en
  have wo := WD_pair hP o0 o1 (by omega)
  rw [if_neg (fun q => absurd q.1 (by omega))] at wo
  have v0 := VD_rt hP o0 o1 hL (by decide : 0 < 4)
  have v0e : VD A o = WD A (A 1 o) + VD A (rt A 1 o) := v0.1
  have wr : WD A (A 1 o) = 1 := WD_atom (by rw [hB.1.2.1.2 _ (by omega) (by omega)]; decide)
  have v1 := VD_rt hP o0 o1 hL (by decide : 1 < 4)
  have v1e : VD A (rt A 1 o) = WD A (A 1 (rt A 1 o)) + VD A (rt A 2 o) := v1.1
  have v2 := VD_rt hP o0 o1 hL (by decide : 2 < 4)
  have v2e : VD A (rt A 2 o) = WD A (A 1 (rt A 2 o)) + VD A (rt A 3 o) := v2.1
  have v3 := VD_rt hP o0 o1 hL (by decide : 3 < 4)
  have v3e : VD A (rt A 3 o) = WD A (A 1 (rt A 3 o)) + VD A (rt A 4 o) := v3.1
  have vz : VD A (rt A 4 o) = 0 := by rw [isL_end 4 o hL, VD_atom n0, if_pos rfl]
  have cf := hcf.2 (by omega)
  have cf2 := cf.2.2.2.2.1 ef
  have h1 := hC.1
  have h2 := hC1.1
  have ca := CLA_120 hC
  have cb := CLA_120 hC1
  have ka := KK_ge (d := dd + 1) (n := A 51 c) (s := SG (TZ A ar) (fun k => A 50 (30 * c + k)) (A 51 c).toNat) (v := SG (NT A wq) (fun k => A 50 (30 * c + k)) (A 51 c).toNat) (by omega) (by omega)
  have kb := KK_ge (d := dd + 1) (n := A 51 (c + 1)) (s := SG (TZ A ar) (fun k => A 50 (30 * (c + 1) + k)) (A 51 (c + 1)).toNat) (v := SG (NT A wq) (fun k => A 50 (30 * (c + 1) + k)) (A 51 (c + 1)).toNat) (by omega) (by omega)
  have kae : KC (dd + 1) A ar c = KK (dd + 1) (A 51 c) (SG (TZ A ar) (fun k => A 50 (30 * c + k)) (A 51 c).toNat) (SG (NT A wq) (fun k => A 50 (30 * c + k)) (A 51 c).toNat) := rfl
  have kbe : KC (dd + 1) A ar (c + 1) = KK (dd + 1) (A 51 (c + 1)) (SG (TZ A ar) (fun k => A 50 (30 * (c + 1) + k)) (A 51 (c + 1)).toNat) (SG (NT A wq) (fun k => A 50 (30 * (c + 1) + k)) (A 51 (c + 1)).toNat) := rfl
  refine cl_go rfl ?_
  show xx_go (xt_P z) (d + 10) 154 0 [some (.ref h.length), some (.int (iI k)), none, none, none, none, none, none] [] (mh h R I A N) _
  refine go_a (pc' := 1) (ls' := [some (.ref h.length), some (.int (iI k)), none, none, none, none, none, none]) (st' := [.ref h.length]) rfl rfl ?_
  refine go_get rfl mh_o rfl rfl ?_
  refine go_a (pc' := 5) (ls' := [some (.ref h.length), some (.int (iI k)), none, none, none, none, none, none]) (st' := [.int (iI k), .ref (h.length + 47)]) rfl rfl ?_
  refine mi_ild rfl mh_a47 (by omega) (by omega) (by decide) ?_
  rw [ek]
  refine go_a (pc' := 7) (ls' := [some (.ref h.length), some (.int (iI k)), some (.int (iI o)), none, none, none, none, none]) (st' := []) rfl rfl ?_
  refine go_a (pc' := 8) (ls' := [some (.ref h.length), some (.int (iI k)), some (.int (iI o)), none, none, none, none, none]) (st' := [.ref h.length]) rfl rfl ?_
  refine go_get rfl mh_o rfl rfl ?_
  refine go_a (pc' := 12) (ls' := [some (.ref h.length), some (.int (iI k)), some (.int (iI o)), none, none, none, none, none]) (st' := [.int (iI k), .ref (h.length + 49)]) rfl rfl ?_
  refine mi_ild rfl mh_a49 (by omega) (by omega) (by decide) ?_
  rw [ec]
  refine go_a (pc' := 14) (ls' := [some (.ref h.length), some (.int (iI k)), some (.int (iI o)), some (.int (iI c)), none, none, none, none]) (st' := []) rfl rfl ?_
  refine go_a (pc' := 15) (ls' := [some (.ref h.length), some (.int (iI k)), some (.int (iI o)), some (.int (iI c)), none, none, none, none]) (st' := [.ref h.length]) rfl rfl ?_
  refine go_a (pc' := 16) (ls' := [some (.ref h.length), some (.int (iI k)), some (.int (iI o)), some (.int (iI c)), none, none, none, none]) (st' := [.int (iI 0), .ref h.length]) rfl rfl ?_
  refine go_put (j := 67) rfl mh_o rfl rfl (show 12 ≤ _ from hc) (show 67 < 86 by decide) rfl rfl ?_
  rw [mh_p67]
  obtain ⟨J, hJ⟩ : ∃ J : Nat → Int, J = su I 67 0 := ⟨_, rfl⟩
  rw [← hJ]
  have bJ : BX (fun j => j = 67) NO I A N J A N := by
    subst hJ
    exact BX_of hB.1.1 (fun j q => su_ne q) (fun a _ => rfl) rfl rfl rfl rfl rfl rfl rfl rfl rfl rfl
  have J7 : J 7 = I 7 := by subst hJ; rfl
  have J49 : J 49 = I 49 := by subst hJ; rfl
  have R0 : RU ar 0 I A N J A N := RU_of hB bJ (fun j q => by subst q; unfold FC; omega) (fun a q => absurd q (fun z => z)) (SZI_124 (A := A) (A1 := A) hB.1.2.2 rfl rfl rfl J7) (by subst hJ; rfl) (by subst hJ; rfl) (by rw [J49]; exact hB.2.2.2.2) (by omega) (fun _ => J49)
  have D0 : DR ar 0 0 0 J A := by subst hJ; exact DR_00
  have PJ := RU_P R0
  have T0 : BTX ar ft Fb Tb J A N := BTX_RU hB hX R0
  have di0 : DIT [] J A N := by
    subst hJ
    exact Or.inl ⟨w0, rfl⟩
  refine go_a (pc' := 20) (ls' := [some (.ref h.length), some (.int (iI k)), some (.int (iI o)), some (.int (iI c)), none, none, none, none]) (st' := [.ref h.length]) rfl rfl ?_
  refine go_a (pc' := 21) (ls' := [some (.ref h.length), some (.int (iI k)), some (.int (iI o)), some (.int (iI c)), none, none, none, none]) (st' := [.int (iI o), .ref h.length]) rfl rfl ?_
  refine go_v (m := 98) (as := [.ref h.length, .int (iI o)]) (r := []) rfl rfl rfl mh_o rfl rfl (mm_lenL z (d + 8) 4 o h R J A N hc PJ n0 o0 (by omega) hL) (fun v h1 hq => ?_)
  obtain ⟨rfl, rfl⟩ := hq
  show xx_go (xt_P z) (d + 10) 154 24 [some (.ref h.length), some (.int (iI k)), some (.int (iI o)), some (.int (iI c)), none, none, none, none] [.int (iI (((4 : Nat) : Int)))] (mh h R J A N) _
  refine go_a (pc' := 25) (ls' := [some (.ref h.length), some (.int (iI k)), some (.int (iI o)), some (.int (iI c)), none, none, none, none]) (st' := [.int (iI 1), .int (iI (((4 : Nat) : Int)))]) rfl rfl ?_
  refine mi_le (t := 107) rfl rfl (by omega) (by omega) (by omega) (by omega) (fun q => by omega) (fun _ => ?_)
  refine go_a (pc' := 29) (ls' := [some (.ref h.length), some (.int (iI k)), some (.int (iI o)), some (.int (iI c)), none, none, none, none]) (st' := [.ref h.length]) rfl rfl ?_
  refine go_get rfl mh_o rfl rfl ?_
  refine go_a (pc' := 33) (ls' := [some (.ref h.length), some (.int (iI k)), some (.int (iI o)), some (.int (iI c)), none, none, none, none]) (st' := [.int (iI o), .ref (h.length + 1)]) rfl rfl ?_
  refine mi_ild rfl mh_a1 (by omega) (by omega) (by decide) ?_
  refine go_a (pc' := 36) (ls' := [some (.ref h.length), some (.int (iI k)), some (.int (iI o)), some (.int (iI c)), none, none, none, none]) (st' := [.int (iI 37), .int (iI (A 1 o))]) rfl rfl ?_
  refine mi_eq (t := 107) rfl rfl (by omega) (by omega) (by omega) (by omega) (fun q => by omega) (fun _ => ?_)
  refine go_a (pc' := 40) (ls' := [some (.ref h.length), some (.int (iI k)), some (.int (iI o)), some (.int (iI c)), none, none, none, none]) (st' := [.ref h.length]) rfl rfl ?_
  refine go_get rfl mh_o rfl rfl ?_
  refine go_a (pc' := 44) (ls' := [some (.ref h.length), some (.int (iI k)), some (.int (iI o)), some (.int (iI c)), none, none, none, none]) (st' := [.int (iI o), .ref (h.length + 1)]) rfl rfl ?_
  refine mi_ild rfl mh_a1 (by omega) (by omega) (by decide) ?_
  refine go_a (pc' := 47) (ls' := [some (.ref h.length), some (.int (iI k)), some (.int (iI o)), some (.int (iI c)), none, none, none, none]) (st' := [.int (iI 38), .int (iI (A 1 o))]) rfl rfl ?_
  refine mi_eq (t := 107) rfl rfl (by omega) (by omega) (by omega) (by omega) (fun q => by omega) (fun _ => ?_)
  refine go_a (pc' := 51) (ls' := [some (.ref h.length), some (.int (iI k)), some (.int (iI o)), some (.int (iI c)), none, none, none, none]) (st' := [.ref h.length]) rfl rfl ?_
  refine go_get rfl mh_o rfl rfl ?_
  refine go_a (pc' := 55) (ls' := [some (.ref h.length), some (.int (iI k)), some (.int (iI o)), some (.int (iI c)), none, none, none, none]) (st' := [.int (iI o), .ref (h.length + 1)]) rfl rfl ?_
  refine mi_ild rfl mh_a1 (by omega) (by omega) (by decide) ?_
  refine go_a (pc' := 58) (ls' := [some (.ref h.length), some (.int (iI k)), some (.int (iI o)), some (.int (iI c)), none, none, none, none]) (st' := [.int (iI 39), .int (iI (A 1 o))]) rfl rfl ?_
  refine mi_eq (t := 107) rfl rfl (by omega) (by omega) (by omega) (by omega) (fun q => by omega) (fun _ => ?_)
  refine go_a (pc' := 62) (ls' := [some (.ref h.length), some (.int (iI k)), some (.int (iI o)), some (.int (iI c)), none, none, none, none]) (st' := [.ref h.length]) rfl rfl ?_
  refine go_get rfl mh_o rfl rfl ?_
  refine go_a (pc' := 66) (ls' := [some (.ref h.length), some (.int (iI k)), some (.int (iI o)), some (.int (iI c)), none, none, none, none]) (st' := [.int (iI o), .ref (h.length + 1)]) rfl rfl ?_
  refine mi_ild rfl mh_a1 (by omega) (by omega) (by decide) ?_
  refine go_a (pc' := 69) (ls' := [some (.ref h.length), some (.int (iI k)), some (.int (iI o)), some (.int (iI c)), none, none, none, none]) (st' := [.int (iI 41), .int (iI (A 1 o))]) rfl rfl ?_
  refine mi_eq (t := 107) rfl rfl (by omega) (by omega) (by omega) (by omega) (fun q => by omega) (fun _ => ?_)
  refine go_a (pc' := 73) (ls' := [some (.ref h.length), some (.int (iI k)), some (.int (iI o)), some (.int (iI c)), none, none, none, none]) (st' := [.ref h.length]) rfl rfl ?_
  refine go_get rfl mh_o rfl rfl ?_
  refine go_a (pc' := 77) (ls' := [some (.ref h.length), some (.int (iI k)), some (.int (iI o)), some (.int (iI c)), none, none, none, none]) (st' := [.int (iI o), .ref (h.length + 1)]) rfl rfl ?_
  refine mi_ild rfl mh_a1 (by omega) (by omega) (by decide) ?_
  refine go_a (pc' := 80) (ls' := [some (.ref h.length), some (.int (iI k)), some (.int (iI o)), some (.int (iI c)), none, none, none, none]) (st' := [.int (iI 42), .int (iI (A 1 o))]) rfl rfl ?_
  refine mi_eq (t := 107) rfl rfl (by omega) (by omega) (by omega) (by omega) (fun q => by omega) (fun _ => ?_)
  refine go_a (pc' := 84) (ls' := [some (.ref h.length), some (.int (iI k)), some (.int (iI o)), some (.int (iI c)), none, none, none, none]) (st' := [.ref h.length]) rfl rfl ?_
  refine go_get rfl mh_o rfl rfl ?_
  refine go_a (pc' := 88) (ls' := [some (.ref h.length), some (.int (iI k)), some (.int (iI o)), some (.int (iI c)), none, none, none, none]) (st' := [.int (iI o), .ref (h.length + 1)]) rfl rfl ?_
  refine mi_ild rfl mh_a1 (by omega) (by omega) (by decide) ?_
  refine go_a (pc' := 91) (ls' := [some (.ref h.length), some (.int (iI k)), some (.int (iI o)), some (.int (iI c)), none, none, none, none]) (st' := [.int (iI 43), .int (iI (A 1 o))]) rfl rfl ?_
  refine mi_eq (t := 107) rfl rfl (by omega) (by omega) (by omega) (by omega) (fun q => by omega) (fun _ => ?_)
  refine go_a (pc' := 95) (ls' := [some (.ref h.length), some (.int (iI k)), some (.int (iI o)), some (.int (iI c)), none, none, none, none]) (st' := [.ref h.length]) rfl rfl ?_
  refine go_a (pc' := 96) (ls' := [some (.ref h.length), some (.int (iI k)), some (.int (iI o)), some (.int (iI c)), none, none, none, none]) (st' := [.ref h.length, .ref h.length]) rfl rfl ?_
  refine go_a (pc' := 97) (ls' := [some (.ref h.length), some (.int (iI k)), some (.int (iI o)), some (.int (iI c)), none, none, none, none]) (st' := [.int (iI o), .ref h.length, .ref h.length]) rfl rfl ?_
  refine go_a (pc' := 98) (ls' := [some (.ref h.length), some (.int (iI k)), some (.int (iI o)), some (.int (iI c)), none, none, none, none]) (st' := [.int (iI 1), .int (iI o), .ref h.length, .ref h.length]) rfl rfl ?_
  have Lxl := isL_extB hP R0.1 4 o o0 o1 hL
  have ixl := it_BX hP R0.1 o0 o1 hL (by decide : 1 < 4)
  refine go_v (m := 99) (as := [.ref h.length, .int (iI o), .int (iI 1)]) (r := [.ref h.length]) rfl rfl rfl mh_o rfl rfl (mm_nth z (d + 9) 1 4 o h R J A N hc PJ (by decide) o0 (by omega) Lxl (by omega)) (fun v h1 hq => ?_)
  obtain ⟨rfl, rfl⟩ := hq
  rw [ixl]
  show xx_go (xt_P z) (d + 10) 154 101 [some (.ref h.length), some (.int (iI k)), some (.int (iI o)), some (.int (iI c)), none, none, none, none] [.int (iI (A 1 (rt A 1 o))), .ref h.length] (mh h R J A N) _
  have wxl := (WD_BX hP R0.1 v1.2.1.1 v1.2.1.2).1
  refine go_v (m := 105) (as := [.ref h.length, .int (iI (A 1 (rt A 1 o)))]) (r := []) rfl rfl rfl mh_o rfl rfl (mr_term z (d + 2) ar (A 1 (rt A 1 o)) h R J A N hc R0.2.1 v1.2.1.1 (by omega) (by omega) (by omega)) (fun v h1 hq => ?_)
  obtain ⟨l, I1, A1, rfl, rfl, R1, K1, ⟨u1, bb1⟩, ht1⟩ := hq
  have tt1 : ((0 ≤ l ∧ l < I1 7) ∧ TZ A1 ar l = TS A ar (A 1 (rt A 1 o))) ∧ (1 ≤ TS A ar (A 1 (rt A 1 o)) ∧ TS A ar (A 1 (rt A 1 o)) ≤ 120) ∧ TS A ar (A 1 (rt A 1 o)) ≤ WD A (A 1 (rt A 1 o)) ∧ NFT A1 (A 1 (rt A 1 o)) l := by
    have tk := TOK_BX hP R0.1 v1.2.1.1 v1.2.1.2 tk1
    rcases ht1 with q | q
    · exact absurd tk q.2
    · have ts := TS_BX (ar := ar) hP R0.1 v1.2.1.1 v1.2.1.2
      rw [ts, wxl] at q
      exact ⟨⟨q.1, q.2.2.2.1⟩, by omega, q.2.2.2.2.1, q.2.2.2.2.2⟩
  obtain ⟨h_l1, sb_l, sw_l, nf_l⟩ := tt1
  have s_l := sb_l.1
  have tm_l := (TQ_tm R0.2.1 T0 v1.2.1.1 (by omega) (show TQ ar (A 1 (rt A 1 o)) l J A N I1 A1 from ⟨bb1, R1.2.1, by have := R1.2.2.1; omega, u1, ht1⟩)).2 (by omega)
  rw [DM_RU hB hX R0 v1.2.1.1 v1.2.1.2] at tm_l
  obtain ⟨tl, et_l1⟩ : ∃ q : ob_T, DM A1 N l = q := ⟨_, rfl⟩
  rw [et_l1] at tm_l
  have tt_l := tm_ts tm_l
  have di1 := DIT_BX R0.2.1 T0.1 D0 bb1 (by unfold FB; omega) (by unfold GT; omega) (by unfold GT; omega) (by unfold FB; omega) (by unfold GT; omega) u1 di0
  clear bb1 ht1
  rw [wxl] at R1
  have D1 := K1 _ _ _ D0
  have P1 := RU_P R1
  have X1 := RU_tr R0 R1 (Int.le_refl _)
  have T1 := BTX_RU R0.2.1 T0 R1
  have y1 := X1.2.2.1
  have z1 : I1 7 ≤ 140000 := P1.1
  have x1 : I 7 ≤ I1 7 := X1.1.2.1
  have ex1 : A1 1 o = A 1 o := (X1.1.2.2.1 o o0 o1).1
  clear T0
  show xx_go (xt_P z) (d + 10) 154 104 [some (.ref h.length), some (.int (iI k)), some (.int (iI o)), some (.int (iI c)), none, none, none, none] [.int (iI l)] (mh h R I1 A1 N) _
  refine go_a (pc' := 108) (ls' := [some (.ref h.length), some (.int (iI k)), some (.int (iI o)), some (.int (iI c)), none, none, none, none]) (st' := [.int (iI l)]) rfl rfl ?_
  refine go_a (pc' := 110) (ls' := [some (.ref h.length), some (.int (iI k)), some (.int (iI o)), some (.int (iI c)), some (.int (iI l)), none, none, none]) (st' := []) rfl rfl ?_
  refine go_a (pc' := 111) (ls' := [some (.ref h.length), some (.int (iI k)), some (.int (iI o)), some (.int (iI c)), some (.int (iI l)), none, none, none]) (st' := [.ref h.length]) rfl rfl ?_
  refine go_get rfl mh_o rfl rfl ?_
  refine go_a (pc' := 115) (ls' := [some (.ref h.length), some (.int (iI k)), some (.int (iI o)), some (.int (iI c)), some (.int (iI l)), none, none, none]) (st' := [.int (iI o), .ref (h.length + 1)]) rfl rfl ?_
  refine mi_ild rfl mh_a1 (by omega) (by omega) (by decide) ?_
  refine go_a (pc' := 118) (ls' := [some (.ref h.length), some (.int (iI k)), some (.int (iI o)), some (.int (iI c)), some (.int (iI l)), none, none, none]) (st' := [.int (iI 32), .int (iI (A1 1 o))]) rfl rfl ?_
  refine mi_lt (t := 145) rfl rfl (by omega) (by omega) (by omega) (by omega) (fun q => by omega) (fun _ => ?_)
  refine go_a (pc' := 122) (ls' := [some (.ref h.length), some (.int (iI k)), some (.int (iI o)), some (.int (iI c)), some (.int (iI l)), none, none, none]) (st' := [.ref h.length]) rfl rfl ?_
  refine go_get rfl mh_o rfl rfl ?_
  refine go_a (pc' := 126) (ls' := [some (.ref h.length), some (.int (iI k)), some (.int (iI o)), some (.int (iI c)), some (.int (iI l)), none, none, none]) (st' := [.int (iI o), .ref (h.length + 1)]) rfl rfl ?_
  refine mi_ild rfl mh_a1 (by omega) (by omega) (by decide) ?_
  refine go_a (pc' := 129) (ls' := [some (.ref h.length), some (.int (iI k)), some (.int (iI o)), some (.int (iI c)), some (.int (iI l)), none, none, none]) (st' := [.int (iI 36), .int (iI (A1 1 o))]) rfl rfl ?_
  refine mi_gt (t := 145) rfl rfl (by omega) (by omega) (by omega) (by omega) (fun _ => ?_) (fun q => by omega)
  refine go_a (pc' := 146) (ls' := [some (.ref h.length), some (.int (iI k)), some (.int (iI o)), some (.int (iI c)), some (.int (iI l)), none, none, none]) (st' := [.int (iI ((-1)))]) rfl rfl ?_
  refine go_a (pc' := 148) (ls' := [some (.ref h.length), some (.int (iI k)), some (.int (iI o)), some (.int (iI c)), some (.int (iI l)), some (.int (iI ((-1)))), none, none]) (st' := []) rfl rfl ?_
  refine go_a (pc' := 149) (ls' := [some (.ref h.length), some (.int (iI k)), some (.int (iI o)), some (.int (iI c)), some (.int (iI l)), some (.int (iI ((-1)))), none, none]) (st' := [.ref h.length]) rfl rfl ?_
  refine go_get rfl mh_o rfl rfl ?_
  refine go_a (pc' := 153) (ls' := [some (.ref h.length), some (.int (iI k)), some (.int (iI o)), some (.int (iI c)), some (.int (iI l)), some (.int (iI ((-1)))), none, none]) (st' := [.int (iI o), .ref (h.length + 1)]) rfl rfl ?_
  refine mi_ild rfl mh_a1 (by omega) (by omega) (by decide) ?_
  refine go_a (pc' := 156) (ls' := [some (.ref h.length), some (.int (iI k)), some (.int (iI o)), some (.int (iI c)), some (.int (iI l)), some (.int (iI ((-1)))), none, none]) (st' := [.int (iI 35), .int (iI (A1 1 o))]) rfl rfl ?_
  refine mi_eq (t := 170) rfl rfl (by omega) (by omega) (by omega) (by omega) (fun q => by omega) (fun _ => ?_)
  refine go_a (pc' := 160) (ls' := [some (.ref h.length), some (.int (iI k)), some (.int (iI o)), some (.int (iI c)), some (.int (iI l)), some (.int (iI ((-1)))), none, none]) (st' := [.ref h.length]) rfl rfl ?_
  refine go_get rfl mh_o rfl rfl ?_
  refine go_a (pc' := 164) (ls' := [some (.ref h.length), some (.int (iI k)), some (.int (iI o)), some (.int (iI c)), some (.int (iI l)), some (.int (iI ((-1)))), none, none]) (st' := [.int (iI o), .ref (h.length + 1)]) rfl rfl ?_
  refine mi_ild rfl mh_a1 (by omega) (by omega) (by decide) ?_
  refine go_a (pc' := 167) (ls' := [some (.ref h.length), some (.int (iI k)), some (.int (iI o)), some (.int (iI c)), some (.int (iI l)), some (.int (iI ((-1)))), none, none]) (st' := [.int (iI 36), .int (iI (A1 1 o))]) rfl rfl ?_
  refine mi_ne (t := 183) rfl rfl (by omega) (by omega) (by omega) (by omega) (fun _ => ?_) (fun q => by omega)
  refine go_a (pc' := 184) (ls' := [some (.ref h.length), some (.int (iI k)), some (.int (iI o)), some (.int (iI c)), some (.int (iI l)), some (.int (iI ((-1)))), none, none]) (st' := [.int (iI ((-1)))]) rfl rfl ?_
  refine go_a (pc' := 186) (ls' := [some (.ref h.length), some (.int (iI k)), some (.int (iI o)), some (.int (iI c)), some (.int (iI l)), some (.int (iI ((-1)))), some (.int (iI ((-1)))), none]) (st' := []) rfl rfl ?_
  refine go_a (pc' := 187) (ls' := [some (.ref h.length), some (.int (iI k)), some (.int (iI o)), some (.int (iI c)), some (.int (iI l)), some (.int (iI ((-1)))), some (.int (iI ((-1)))), none]) (st' := [.ref h.length]) rfl rfl ?_
  refine go_get rfl mh_o rfl rfl ?_
  refine go_a (pc' := 191) (ls' := [some (.ref h.length), some (.int (iI k)), some (.int (iI o)), some (.int (iI c)), some (.int (iI l)), some (.int (iI ((-1)))), some (.int (iI ((-1)))), none]) (st' := [.int (iI o), .ref (h.length + 1)]) rfl rfl ?_
  refine mi_ild rfl mh_a1 (by omega) (by omega) (by decide) ?_
  rw [ex1]
  refine mi_ts (c := 40) (t := 556) rfl ef rfl ?_
  refine go_a (pc' := 557) (ls' := [some (.ref h.length), some (.int (iI k)), some (.int (iI o)), some (.int (iI c)), some (.int (iI l)), some (.int (iI ((-1)))), some (.int (iI ((-1)))), none]) (st' := [.ref h.length]) rfl rfl ?_
  refine go_a (pc' := 559) (ls' := [some (.ref h.length), some (.int (iI k)), some (.int (iI o)), some (.int (iI c)), some (.int (iI l)), some (.int (iI ((-1)))), some (.int (iI ((-1)))), none]) (st' := [.int (iI l), .ref h.length]) rfl rfl ?_
  refine go_v (m := 125) (as := [.ref h.length, .int (iI l)]) (r := []) rfl rfl rfl mh_o rfl rfl (mr_not z (d + 3) ar l h R I1 A1 N hc X1.2.1 T1.1 (TS_pq (TS_of X1.2.1 T1 h_l1.1.1 h_l1.1.2 et_l1 tt_l)) h_l1.1.1 h_l1.1.2 (by rw [h_l1.2]; exact s_l) (Or.inl (by rw [h_l1.2]; omega)) (by omega)) (fun v h1 hq => ?_)
  obtain ⟨q, I2, A2, rfl, rfl, R2, K2, tv2, tb2, te2, dt2, dj2⟩ := hq
  rw [h_l1.2] at te2
  rw [et_l1] at dt2 dj2
  have et_q2 := dt2
  have di2 : DIM _ (sp_opO (sp_not tl)) _ _ _ _ := dj2 _ _ _ _ D1 di1
  have D2 := K2 _ _ _ D1
  obtain ⟨szq, hszq⟩ : ∃ x : Int, TZ A2 ar q = x := ⟨_, rfl⟩
  have h_q2 : (0 ≤ q ∧ q < I2 7) ∧ TZ A2 ar q = szq := ⟨tv2.1, hszq⟩
  have s_q : 1 ≤ szq := by rw [← hszq]; exact tv2.2
  rw [hszq] at te2 tb2
  have P2 := RU_P R2
  have X2 := RU_tr X1 R2 (Int.le_refl _)
  have T2 := BTX_RU X1.2.1 T1 R2
  have et_l2 := (DM_RU X1.2.1 T1 R2 h_l1.1.1 h_l1.1.2).trans et_l1
  have h_l2 := RU_carry P1 R2 h_l1 s_l
  have y2 := X2.2.2.1
  have z2 : I2 7 ≤ 140000 := P2.1
  have x2 : I 7 ≤ I2 7 := X2.1.2.1
  have ex2 : A2 1 o = A 1 o := (X2.1.2.2.1 o o0 o1).1
  clear et_l1 T1 h_l1 y1 z1 x1 ex1
  show xx_go (xt_P z) (d + 10) 154 562 [some (.ref h.length), some (.int (iI k)), some (.int (iI o)), some (.int (iI c)), some (.int (iI l)), some (.int (iI ((-1)))), some (.int (iI ((-1)))), none] [.int (iI q)] (mh h R I2 A2 N) _
  refine go_a (pc' := 564) (ls' := [some (.ref h.length), some (.int (iI k)), some (.int (iI o)), some (.int (iI c)), some (.int (iI l)), some (.int (iI ((-1)))), some (.int (iI ((-1)))), some (.int (iI q))]) (st' := []) rfl rfl ?_
  refine go_a (pc' := 565) (ls' := [some (.ref h.length), some (.int (iI k)), some (.int (iI o)), some (.int (iI c)), some (.int (iI l)), some (.int (iI ((-1)))), some (.int (iI ((-1)))), some (.int (iI q))]) (st' := [.ref h.length]) rfl rfl ?_
  refine go_a (pc' := 566) (ls' := [some (.ref h.length), some (.int (iI k)), some (.int (iI o)), some (.int (iI c)), some (.int (iI l)), some (.int (iI ((-1)))), some (.int (iI ((-1)))), some (.int (iI q))]) (st' := [.int (iI c), .ref h.length]) rfl rfl ?_
  refine go_a (pc' := 568) (ls' := [some (.ref h.length), some (.int (iI k)), some (.int (iI o)), some (.int (iI c)), some (.int (iI l)), some (.int (iI ((-1)))), some (.int (iI ((-1)))), some (.int (iI q))]) (st' := [.int (iI l), .int (iI c), .ref h.length]) rfl rfl ?_
  have f50 : A2 50 = A 50 := X2.1.2.2.2.2 50 (by decide) (by decide) (by decide) (by decide) (by decide) (by decide) (by unfold GC; omega)
  have f51 : A2 51 = A 51 := X2.1.2.2.2.2 51 (by decide) (by decide) (by decide) (by decide) (by decide) (by decide) (by unfold GC; omega)
  have hnq := DIM_nil di2
  have hρ1 := hρ tl tm_l
  have en9 : sp_ntO (some tl) = sp_opO (sp_not tl) := rfl
  rw [en9] at hρ1
  have Ca := CLA_RU hP X2 hC
  have Cb := CLA_RU hP X2 hC1
  refine go_v (m := 159) (as := [.ref h.length, .int (iI c), .int (iI l)]) (r := []) rfl rfl rfl mh_o rfl rfl (mm_has z (d + 9) ar c l h R I2 A2 N hc c0 (by omega) Ca (by omega) (by omega) (by omega)) (fun v h1 hq => ?_)
  obtain ⟨⟨b1, hb1, rfl, mb1⟩, rfl⟩ := hq
  rw [CLD_mem X2.2.1 T2 Ca h_l2.1.1 h_l2.1.2, CLD_RU hB hX X2 hC, et_l2] at mb1
  show xx_go (xt_P z) (d + 10) 154 571 [some (.ref h.length), some (.int (iI k)), some (.int (iI o)), some (.int (iI c)), some (.int (iI l)), some (.int (iI ((-1)))), some (.int (iI ((-1)))), some (.int (iI q))] [.int (iI b1)] (mh h R I2 A2 N) _
  refine mi_eq0 (t := 586) rfl rfl (by omega) (by omega) (fun e1 => ?_) (fun e1 => ?_)
  · have nn9 : ρ = none := by
      rw [hρ1]
      rcases hnq with ⟨-, e, -⟩ | ⟨-, e⟩
      · rw [e]
        show ifc _ _ none = none
        exact ifc_neg (fun q => absurd (mb1.mpr q.1) (by omega))
      · rw [e]
        rfl
    refine go_a (pc' := 587) (ls' := [some (.ref h.length), some (.int (iI k)), some (.int (iI o)), some (.int (iI c)), some (.int (iI l)), some (.int (iI ((-1)))), some (.int (iI ((-1)))), some (.int (iI q))]) (st' := [.int (iI 0)]) rfl rfl ?_
    exact go_r rfl rfl rfl rfl rfl rfl ⟨0, I2, A2, N, rfl, rfl, RU_w X2 (by omega), Or.inl ⟨rfl, nn9⟩⟩
  refine go_a (pc' := 575) (ls' := [some (.ref h.length), some (.int (iI k)), some (.int (iI o)), some (.int (iI c)), some (.int (iI l)), some (.int (iI ((-1)))), some (.int (iI ((-1)))), some (.int (iI q))]) (st' := [.ref h.length]) rfl rfl ?_
  refine go_a (pc' := 576) (ls' := [some (.ref h.length), some (.int (iI k)), some (.int (iI o)), some (.int (iI c)), some (.int (iI l)), some (.int (iI ((-1)))), some (.int (iI ((-1)))), some (.int (iI q))]) (st' := [.int (iI c), .ref h.length]) rfl rfl ?_
  refine go_a (pc' := 577) (ls' := [some (.ref h.length), some (.int (iI k)), some (.int (iI o)), some (.int (iI c)), some (.int (iI l)), some (.int (iI ((-1)))), some (.int (iI ((-1)))), some (.int (iI q))]) (st' := [.int (iI 1), .int (iI c), .ref h.length]) rfl rfl ?_
  refine mi_add rfl ?_
  refine go_a (pc' := 580) (ls' := [some (.ref h.length), some (.int (iI k)), some (.int (iI o)), some (.int (iI c)), some (.int (iI l)), some (.int (iI ((-1)))), some (.int (iI ((-1)))), some (.int (iI q))]) (st' := [.int (iI q), .int (iI (c + 1)), .ref h.length]) rfl rfl ?_
  refine go_v (m := 159) (as := [.ref h.length, .int (iI (c + 1)), .int (iI q)]) (r := []) rfl rfl rfl mh_o rfl rfl (mm_has z (d + 9) ar (c + 1) q h R I2 A2 N hc (by omega) (by omega) Cb (by omega) (by omega) (by omega)) (fun v h1 hq => ?_)
  obtain ⟨⟨b2, hb2, rfl, mb2⟩, rfl⟩ := hq
  rw [CLD_mem X2.2.1 T2 Cb h_q2.1.1 h_q2.1.2, CLD_RU hB hX X2 hC1, et_q2] at mb2
  show xx_go (xt_P z) (d + 10) 154 583 [some (.ref h.length), some (.int (iI k)), some (.int (iI o)), some (.int (iI c)), some (.int (iI l)), some (.int (iI ((-1)))), some (.int (iI ((-1)))), some (.int (iI q))] [.int (iI b2)] (mh h R I2 A2 N) _
  refine mi_ne0 (t := 588) rfl rfl (by omega) (by omega) (fun e2 => ?_) (fun e2 => ?_)
  rotate_left
  · have nn9 : ρ = none := by
      rw [hρ1]
      rcases hnq with ⟨-, e, -⟩ | ⟨-, e⟩
      · rw [e]
        show ifc _ _ none = none
        exact ifc_neg (fun q => absurd (mb2.mpr q.2) (by omega))
      · rw [e]
        rfl
    refine go_a (pc' := 587) (ls' := [some (.ref h.length), some (.int (iI k)), some (.int (iI o)), some (.int (iI c)), some (.int (iI l)), some (.int (iI ((-1)))), some (.int (iI ((-1)))), some (.int (iI q))]) (st' := [.int (iI 0)]) rfl rfl ?_
    exact go_r rfl rfl rfl rfl rfl rfl ⟨0, I2, A2, N, rfl, rfl, RU_w X2 (by omega), Or.inl ⟨rfl, nn9⟩⟩
  refine go_a (pc' := 589) (ls' := [some (.ref h.length), some (.int (iI k)), some (.int (iI o)), some (.int (iI c)), some (.int (iI l)), some (.int (iI ((-1)))), some (.int (iI ((-1)))), some (.int (iI q))]) (st' := [.ref h.length]) rfl rfl ?_
  refine go_a (pc' := 590) (ls' := [some (.ref h.length), some (.int (iI k)), some (.int (iI o)), some (.int (iI c)), some (.int (iI l)), some (.int (iI ((-1)))), some (.int (iI ((-1)))), some (.int (iI q))]) (st' := [.int (iI c), .ref h.length]) rfl rfl ?_
  refine go_a (pc' := 592) (ls' := [some (.ref h.length), some (.int (iI k)), some (.int (iI o)), some (.int (iI c)), some (.int (iI l)), some (.int (iI ((-1)))), some (.int (iI ((-1)))), some (.int (iI q))]) (st' := [.int (iI l), .int (iI c), .ref h.length]) rfl rfl ?_
  have m1 := mb1.mp (by omega)
  have m2 := mb2.mp (by omega)
  clear mb1 mb2
  refine go_v (m := 158) (as := [.ref h.length, .int (iI c), .int (iI l)]) (r := []) rfl rfl rfl mh_o rfl rfl (mr_pour z (d + 8) ar 0 0 _ c l h R I2 A2 N hc X2.2.1 T2.1 D2 (by omega) (by omega) (by omega) Ca (by omega) (by omega)) (fun v h1 hq => ?_)
  obtain ⟨rfl, I3, A3, rfl, R3, -, D3, dj3⟩ := hq
  rw [pol_rm X2.2.1 T2 Ca h_l2.1.1 h_l2.1.2, CLD_RU hB hX X2 hC, et_l2] at dj3
  have pa3 := PE_le (A := A2) (c := c) (b := l) (x := 1) (k := A2 51 c) (by decide)
  have pb3 : 0 ≤ PE A2 c l (TZ A2 ar (A2 50 (30 * c))) (A2 51 c) := by
    rcases PE_nn A2 c l (TZ A2 ar (A2 50 (30 * c))) (A2 51 c) with q | q
    · rw [q]; exact Int.le_refl _
    · rw [q]; exact tz_1nn A2 ar _ _
  have sg3 : SG (TZ A2 ar) (fun k => A2 50 (30 * c + k)) (A2 51 c).toNat = SG (TZ A ar) (fun k => A 50 (30 * c + k)) (A 51 c).toNat := CLA_SG hP X2 hC
  have m53 : A2 51 c = A 51 c := by rw [X2.1.2.2.2.2 51 (by decide) (by decide) (by decide) (by decide) (by decide) (by decide) (by unfold GC; omega)]
  have D3b := DR_w (m1 := 0 + A 51 c) (s1 := 0 + SG (TZ A ar) (fun k => A 50 (30 * c + k)) (A 51 c).toNat) D3 (by omega) (by omega) (Int.le_refl _)
  have P3 := RU_P R3
  have X3 := RU_tr X2 R3 (Int.le_refl _)
  have T3 := BTX_RU X2.2.1 T2 R3
  have et_l3 := (DM_RU X2.2.1 T2 R3 h_l2.1.1 h_l2.1.2).trans et_l2
  have et_q3 := (DM_RU X2.2.1 T2 R3 h_q2.1.1 h_q2.1.2).trans et_q2
  have h_l3 := RU_carry P2 R3 h_l2 s_l
  have h_q3 := RU_carry P2 R3 h_q2 s_q
  have y3 := X3.2.2.1
  have z3 : I3 7 ≤ 140000 := P3.1
  have x3 : I 7 ≤ I3 7 := X3.1.2.1
  have ex3 : A3 1 o = A 1 o := (X3.1.2.2.1 o o0 o1).1
  clear et_l2 et_q2 T2 h_l2 h_q2 y2 z2 x2 ex2
  show xx_go (xt_P z) (d + 10) 154 595 [some (.ref h.length), some (.int (iI k)), some (.int (iI o)), some (.int (iI c)), some (.int (iI l)), some (.int (iI ((-1)))), some (.int (iI ((-1)))), some (.int (iI q))] [] (mh h R I3 A3 N) _
  refine go_a (pc' := 596) (ls' := [some (.ref h.length), some (.int (iI k)), some (.int (iI o)), some (.int (iI c)), some (.int (iI l)), some (.int (iI ((-1)))), some (.int (iI ((-1)))), some (.int (iI q))]) (st' := [.ref h.length]) rfl rfl ?_
  refine go_a (pc' := 597) (ls' := [some (.ref h.length), some (.int (iI k)), some (.int (iI o)), some (.int (iI c)), some (.int (iI l)), some (.int (iI ((-1)))), some (.int (iI ((-1)))), some (.int (iI q))]) (st' := [.int (iI c), .ref h.length]) rfl rfl ?_
  refine go_a (pc' := 598) (ls' := [some (.ref h.length), some (.int (iI k)), some (.int (iI o)), some (.int (iI c)), some (.int (iI l)), some (.int (iI ((-1)))), some (.int (iI ((-1)))), some (.int (iI q))]) (st' := [.int (iI 1), .int (iI c), .ref h.length]) rfl rfl ?_
  refine mi_add rfl ?_
  refine go_a (pc' := 601) (ls' := [some (.ref h.length), some (.int (iI k)), some (.int (iI o)), some (.int (iI c)), some (.int (iI l)), some (.int (iI ((-1)))), some (.int (iI ((-1)))), some (.int (iI q))]) (st' := [.int (iI q), .int (iI (c + 1)), .ref h.length]) rfl rfl ?_
  refine go_v (m := 158) (as := [.ref h.length, .int (iI (c + 1)), .int (iI q)]) (r := []) rfl rfl rfl mh_o rfl rfl (mr_pour z (d + 8) ar ((0 + A 51 c)) ((0 + SG (TZ A ar) (fun k => A 50 (30 * c + k)) (A 51 c).toNat)) _ (c + 1) q h R I3 A3 N hc X3.2.1 T3.1 D3b (by omega) (by omega) (by omega) (CLA_RU hP X3 hC1) (by omega) (by omega)) (fun v h1 hq => ?_)
  obtain ⟨rfl, I4, A4, rfl, R4, -, D4, dj4⟩ := hq
  rw [pol_rm X3.2.1 T3 (CLA_RU hP X3 hC1) h_q3.1.1 h_q3.1.2, CLD_RU hB hX X3 hC1, et_q3] at dj4
  have pa4 := PE_le (A := A3) (c := (c + 1)) (b := q) (x := 1) (k := A3 51 (c + 1)) (by decide)
  have pb4 : 0 ≤ PE A3 (c + 1) q (TZ A3 ar (A3 50 (30 * (c + 1)))) (A3 51 (c + 1)) := by
    rcases PE_nn A3 (c + 1) q (TZ A3 ar (A3 50 (30 * (c + 1)))) (A3 51 (c + 1)) with q | q
    · rw [q]; exact Int.le_refl _
    · rw [q]; exact tz_1nn A3 ar _ _
  have sg4 : SG (TZ A3 ar) (fun k => A3 50 (30 * (c + 1) + k)) (A3 51 (c + 1)).toNat = SG (TZ A ar) (fun k => A 50 (30 * (c + 1) + k)) (A 51 (c + 1)).toNat := CLA_SG hP X3 hC1
  have m54 : A3 51 (c + 1) = A 51 (c + 1) := by rw [X3.1.2.2.2.2 51 (by decide) (by decide) (by decide) (by decide) (by decide) (by decide) (by unfold GC; omega)]
  have D4b := DR_w (m1 := (0 + A 51 c) + A 51 (c + 1)) (s1 := (0 + SG (TZ A ar) (fun k => A 50 (30 * c + k)) (A 51 c).toNat) + SG (TZ A ar) (fun k => A 50 (30 * (c + 1) + k)) (A 51 (c + 1)).toNat) D4 (by omega) (by omega) (Int.le_refl _)
  have P4 := RU_P R4
  have X4 := RU_tr X3 R4 (Int.le_refl _)
  have T4 := BTX_RU X3.2.1 T3 R4
  have et_l4 := (DM_RU X3.2.1 T3 R4 h_l3.1.1 h_l3.1.2).trans et_l3
  have et_q4 := (DM_RU X3.2.1 T3 R4 h_q3.1.1 h_q3.1.2).trans et_q3
  have h_l4 := RU_carry P3 R4 h_l3 s_l
  have h_q4 := RU_carry P3 R4 h_q3 s_q
  have y4 := X4.2.2.1
  have z4 : I4 7 ≤ 140000 := P4.1
  have x4 : I 7 ≤ I4 7 := X4.1.2.1
  have ex4 : A4 1 o = A 1 o := (X4.1.2.2.1 o o0 o1).1
  clear et_l3 et_q3 T3 h_l3 h_q3 y3 z3 x3 ex3
  show xx_go (xt_P z) (d + 10) 154 604 [some (.ref h.length), some (.int (iI k)), some (.int (iI o)), some (.int (iI c)), some (.int (iI l)), some (.int (iI ((-1)))), some (.int (iI ((-1)))), some (.int (iI q))] [] (mh h R I4 A4 N) _
  refine go_a (pc' := 605) (ls' := [some (.ref h.length), some (.int (iI k)), some (.int (iI o)), some (.int (iI c)), some (.int (iI l)), some (.int (iI ((-1)))), some (.int (iI ((-1)))), some (.int (iI q))]) (st' := [.int (iI 1)]) rfl rfl ?_
  have fin9 : ∃ its : List (Option ob_T), DIT its I4 A4 N ∧ ρ = sp_cz its := by
    rcases hnq with ⟨w, e, d⟩ | ⟨w, e⟩
    · refine ⟨_, dj4 _ (dj3 _ d), ?_⟩
      rw [hρ1, e]
      show ifc _ _ none = _
      rw [ifc_pos ⟨m1, m2⟩]
      rfl
    · refine ⟨[none], Or.inr ⟨fun q => w ?_, rfl⟩, ?_⟩
      · exact RU_z (RU_tr R3 R4 (Int.le_refl _)) q
      · rw [hρ1, e]
        rfl
  clear hnq hρ1
  refine go_r rfl rfl rfl rfl rfl rfl ⟨1, I4, A4, N, rfl, rfl, RU_w X4 (by omega), Or.inr ⟨rfl, fin9, _, _, DR_w D4b (by omega) (Int.le_refl _) (Int.le_refl _), fun b9 b30 b400 => ?_⟩⟩
  have dm := D4b.1
  have ds := D4b.2.2.1
  have dv := D4b.2.2.2
  have kk : KDR dd I4 A4 ar ≤ E + 128 * WD A o - I4 7 := by have kw := KK_cut (d := dd) (n := A 51 c) (s := SG (TZ A ar) (fun k => A 50 (30 * c + k)) (A 51 c).toNat) (v := SG (NT A wq) (fun k => A 50 (30 * c + k)) (A 51 c).toNat) (m := A 51 (c + 1)) (t := SG (TZ A ar) (fun k => A 50 (30 * (c + 1) + k)) (A 51 (c + 1)).toNat) (u := SG (NT A wq) (fun k => A 50 (30 * (c + 1) + k)) (A 51 (c + 1)).toNat) (n2 := I4 67) (s2 := SG (TZ A4 ar) (A4 38) (I4 67).toNat) (v2 := SG (NT A4 wq) (A4 38) (I4 67).toNat) (x := 128 * (3 + WD A (A 1 (rt A 1 o))) - 4 * WD A (A 1 (rt A 1 o)) + 2) d0 d38 (by omega) (by omega) (by omega) (by omega) (by omega) (by omega) (by omega) (by omega) (by omega); unfold KDR; omega
  omega

