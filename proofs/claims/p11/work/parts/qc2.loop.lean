theorem KC_PX {F G : Nat → Prop} {ar : Int → Int} {I I1 : Nat → Int} {A A1 : Nat → Int → Int} {N N1 : Int → Int} {d q : Int} (hP : PW I A) (x : BX F G I A N I1 A1 N1) (h : CLA ar I A q) (e51 : A1 51 q = A 51 q) (e50 : ∀ e : Int, 0 ≤ e → e < 30 → A1 50 (30 * q + e) = A 50 (30 * q + e)) : KC d A1 ar q = KC d A ar q ∧ CLA ar I1 A1 q := by
  have x7 := x.2.1
  have h1 := h.1
  have s1 : SG (TZ A1 ar) (fun k => A1 50 (30 * q + k)) (A 51 q).toNat = SG (TZ A ar) (fun k => A 50 (30 * q + k)) (A 51 q).toNat := SG_congr _ (fun e he => by
    have g := h.2.1 e (by omega) (by omega)
    show TZ A1 ar (A1 50 (30 * q + e)) = TZ A ar (A 50 (30 * q + e))
    rw [e50 e (by omega) (by omega)]
    exact (TZ_BX hP x g.1.1 g.1.2).1 g.2.1)
  have s2 : SG (NT A1 wq) (fun k => A1 50 (30 * q + k)) (A 51 q).toNat = SG (NT A wq) (fun k => A 50 (30 * q + k)) (A 51 q).toNat := SG_congr _ (fun e he => by
    have g := h.2.1 e (by omega) (by omega)
    show NT A1 wq (A1 50 (30 * q + e)) = NT A wq (A 50 (30 * q + e))
    rw [e50 e (by omega) (by omega)]
    exact NT_BX hP x g.1.1 g.1.2)
  refine ⟨?_, ?_, fun k k0 k1 => ?_, ?_⟩
  · unfold KC
    rw [e51, s1, s2]
  · rw [e51]
    exact h1
  · rw [e51] at k1
    have g := h.2.1 k k0 k1
    rw [e50 k k0 (by omega), (TZ_BX hP x g.1.1 g.1.2).1 g.2.1]
    exact ⟨⟨g.1.1, by omega⟩, g.2⟩
  · rw [e51, s1]
    exact h.2.2
theorem SPR_PX {F G : Nat → Prop} {ar : Int → Int} {I I1 : Nat → Int} {A A1 : Nat → Int → Int} {N N1 : Int → Int} {d o c : Int} {f n : Nat} (hP : PW I A) (x : BX F G I A N I1 A1 N1) (o0 : 0 ≤ o) (o1 : o < I 7) (hL : isL A n o) : ∀ j : Nat, f + j ≤ n → (∀ i : Nat, i < j → KC d A1 ar (c + i) = KC d A ar (c + i)) → SPR A1 ar d o c f j = SPR A ar d o c f j
  | 0, _, _ => rfl
  | j + 1, h, hk => by
    have b := (VD_rt hP o0 o1 hL (by omega : f + j < n)).2.1
    show SPR A1 ar d o c f j + (128 * WD A1 (A1 1 (rt A1 (f + j) o)) - KC d A1 ar (c + j)) = SPR A ar d o c f j + (128 * WD A (A 1 (rt A (f + j) o)) - KC d A ar (c + j))
    rw [SPR_PX hP x o0 o1 hL j (by omega) (fun i hi => hk i (by omega)), hk j (by omega), it_BX hP x o0 o1 hL (by omega : f + j < n), (WD_BX hP x b.1 b.2).1]
section FRXS
variable {ar : Int → Int} {ft : Nat → Int} {Fb : List (Nat × List Nat × ob_T)} {Tb : List (Nat × ob_T)} {I I1 I2 : Nat → Int} {A A1 A2 : Nat → Int → Int} {N N1 N2 : Int → Int} {k o c s0 : Int} {f P j n : Nat} {xo : ob_T}
theorem rg_split {α : Type} {g : Nat → α} (h : j < P) : ∃ R : List α, (List.range P).map g = (List.range j).map g ++ g j :: R := by
  obtain ⟨m, rfl⟩ : ∃ m : Nat, P = j + 1 + m := ⟨P - j - 1, by omega⟩
  refine ⟨((List.range m).map (fun i => g (j + 1 + i))), ?_⟩
  rw [List.range_add, List.map_append, List.range_succ, List.map_append, List.append_assoc, List.map_map]
  rfl
theorem rg_suc {α : Type} {g : Nat → α} : (List.range (j + 1)).map g = (List.range j).map g ++ [g j] := by
  rw [List.range_succ, List.map_append]
  rfl
theorem ins_parts (hB : BI ar I A N) (h : BTX ar ft Fb Tb I A N) (k0 : 0 ≤ o) (k1 : o < I 7) (hF : FORM ar I A N o) (hL : isL A n o) (hp : PFT A o f P) (g : sp_gd ft Fb (sp_hc (DM A N (A 1 o))) (DM A N o)) : sp_ins ft Fb (sp_hc (DM A N (A 1 o))) (DM A N o) = (List.range P).map (fun (i : Nat) => DM A N (A 1 (rt A (f + i) o))) := by
  have pp := PFT_pt (BI_n0 hB) hF hL hp
  have pj : ∀ j : Nat, j < n → sp_p j (DM A N o) = DM A N (A 1 (rt A j o)) := fun j hj => L_p hB h k0 k1 hL hj
  rcases hp with ⟨r1, r2, rfl, rfl⟩ | ⟨ef, rfl, rfl⟩ | ⟨ef, rfl, rfl⟩ | ⟨ef, rfl, rfl⟩ | ⟨ef, rfl, rfl⟩ | ⟨ef, rfl, hLP⟩
  · have cs : A 1 o = 29 ∨ A 1 o = 30 ∨ A 1 o = 31 ∨ A 1 o = 32 ∨ A 1 o = 33 ∨ A 1 o = 34 ∨ A 1 o = 35 ∨ A 1 o = 36 ∨ A 1 o = 37 ∨ A 1 o = 38 := by omega
    rcases cs with ef | ef | ef | ef | ef | ef | ef | ef | ef | ef
    · rw [show sp_hc (DM A N (A 1 o)) = 2079676 from hd_of h (x := 29) (by decide) ef]
      exact in_7 ⟨by decide, by decide, by decide, by decide, by decide, by decide⟩
    · rw [show sp_hc (DM A N (A 1 o)) = 1975462 from hd_of h (x := 30) (by decide) ef]
      exact in_7 ⟨by decide, by decide, by decide, by decide, by decide, by decide⟩
    · rw [show sp_hc (DM A N (A 1 o)) = 107484305 from hd_of h (x := 31) (by decide) ef]
      exact in_7 ⟨by decide, by decide, by decide, by decide, by decide, by decide⟩
    · rw [show sp_hc (DM A N (A 1 o)) = 30253168 from hd_of h (x := 32) (by decide) ef]
      exact in_7 ⟨by decide, by decide, by decide, by decide, by decide, by decide⟩
    · rw [show sp_hc (DM A N (A 1 o)) = 4382298804 from hd_of h (x := 33) (by decide) ef]
      exact in_7 ⟨by decide, by decide, by decide, by decide, by decide, by decide⟩
    · rw [show sp_hc (DM A N (A 1 o)) = 1663818 from hd_of h (x := 34) (by decide) ef]
      exact in_7 ⟨by decide, by decide, by decide, by decide, by decide, by decide⟩
    · rw [show sp_hc (DM A N (A 1 o)) = 55479 from hd_of h (x := 35) (by decide) ef]
      exact in_7 ⟨by decide, by decide, by decide, by decide, by decide, by decide⟩
    · rw [show sp_hc (DM A N (A 1 o)) = 673 from hd_of h (x := 36) (by decide) ef]
      exact in_7 ⟨by decide, by decide, by decide, by decide, by decide, by decide⟩
    · rw [show sp_hc (DM A N (A 1 o)) = 9077 from hd_of h (x := 37) (by decide) ef]
      exact in_7 ⟨by decide, by decide, by decide, by decide, by decide, by decide⟩
    · rw [show sp_hc (DM A N (A 1 o)) = 44569 from hd_of h (x := 38) (by decide) ef]
      exact in_7 ⟨by decide, by decide, by decide, by decide, by decide, by decide⟩
  · rw [show sp_hc (DM A N (A 1 o)) = 2399032 from hd_of h (x := 39) (by decide) ef] at g ⊢
    rw [in_1, ifc_pos (g.1 rfl), pj 2 (by omega)]
    rfl
  · rw [show sp_hc (DM A N (A 1 o)) = 7634 from hd_of h (x := 40) (by decide) ef] at g ⊢
    rw [in_2, ifc_pos (g.2.1 rfl), pj 2 (by omega), pj 3 (by omega)]
    rfl
  · rcases ef with ef | ef
    · rw [show sp_hc (DM A N (A 1 o)) = 966246 from hd_of h (x := 41) (by decide) ef] at g ⊢
      rw [in_3, ifc_pos (g.2.2.1 rfl), pj 1 (by omega)]
      rfl
    · rw [show sp_hc (DM A N (A 1 o)) = 2023507 from hd_of h (x := 42) (by decide) ef] at g ⊢
      rw [in_4, ifc_pos (g.2.2.2.1 rfl), pj 1 (by omega)]
      rfl
  · rw [show sp_hc (DM A N (A 1 o)) = 36351 from hd_of h (x := 43) (by decide) ef] at g ⊢
    rw [in_5, ifc_pos (g.2.2.2.2.1 rfl), pj 1 (by omega), pj 2 (by omega)]
    rfl
  · rw [show sp_hc (DM A N (A 1 o)) = 2132882439 from hd_of h (x := 27) (by decide) ef] at g ⊢
    rw [in_6, ifc_pos (g.2.2.2.2.2 rfl), L_as hB h k0 k1 hLP]
    refine List.ext_getElem? (fun i => ?_)
    rw [List.getElem?_drop, List.getElem?_map, List.getElem?_map]
    by_cases hi : i < P
    · rw [List.getElem?_range (by omega), List.getElem?_range hi]
      rfl
    · rw [List.getElem?_eq_none (by rw [List.length_range]; omega), List.getElem?_eq_none (by rw [List.length_range]; omega)]
      rfl
theorem CLD_PX {q : Int} (hB : BI ar I A N) (h : BTX ar ft Fb Tb I A N) (x : QX I A N I1 A1 N1) (hC : CLA ar I A q) (e51 : A1 51 q = A 51 q) (e50 : ∀ e : Int, 0 ≤ e → e < 30 → A1 50 (30 * q + e) = A 50 (30 * q + e)) : CLD A1 N1 q = CLD A N q := by
  unfold CLD
  have h1 := hC.1
  rw [e51, ixl_congr (f := fun e => A1 50 (30 * q + e)) (g := fun e => A 50 (30 * q + e)) (fun e a b => e50 e a (by omega))]
  exact List.map_congr_left (fun y hy => BTX_D hB h x (fun _ q => q) (fun _ q => q) (CLA_in hC hy).1 (CLA_in hC hy).2)
def FRX (ar : Int → Int) (ft : Nat → Int) (Fb : List (Nat × List Nat × ob_T)) (Tb : List (Nat × ob_T)) (s0 : Int) (xo : ob_T) (k o c : Int) (f j : Nat) (I : Nat → Int) (A : Nat → Int → Int) (N : Int → Int) : Prop := BTX ar ft Fb Tb I A N ∧ DM A N o = xo ∧ GOK ft Fb xo ∧ s0 < I 47 ∧ sp_sq (sp_pr ft Fb Tb (I 47) (39 - k).toNat) ((List.range j).map (fun (i : Nat) => DM A N (A 1 (rt A (f + i) o)))) (s0 + 1) = some ((List.range j).map (fun (i : Nat) => CLD A N (c + i)), I 48) ∧ ∀ i : Nat, i < j → (CLD A N (c + i)).Nodup
theorem FRX_ins (hB : BI ar I A N) (h : FRX ar ft Fb Tb s0 xo k o c f j I A N) (k0 : 0 ≤ o) (k1 : o < I 7) (hF : FORM ar I A N o) (hL : isL A n o) (n1 : 1 ≤ n) (hp : PFT A o f P) : sp_hc (sp_p 0 xo) = sp_hc (DM A N (A 1 o)) ∧ sp_ins ft Fb (sp_hc (sp_p 0 xo)) xo = (List.range P).map (fun (i : Nat) => DM A N (A 1 (rt A (f + i) o))) := by
  obtain ⟨hX, e, g, -⟩ := h
  have p0 : sp_p 0 xo = DM A N (A 1 o) := by rw [← e]; exact L_p hB hX k0 k1 hL (by omega : 0 < n)
  have g2 := g.2
  rw [p0] at g2 ⊢
  rw [← e] at g2 ⊢
  exact ⟨rfl, ins_parts hB hX k0 k1 hF hL hp g2⟩
theorem FRX_fail {s1 : Int} (hB : BI ar I A N) (h : FRX ar ft Fb Tb s0 xo k o c f j I A N) (k9 : k < 40) (k0 : 0 ≤ o) (k1 : o < I 7) (hF : FORM ar I A N o) (hL : isL A n o) (n1 : 1 ≤ n) (hp : PFT A o f P) (jP : j < P) (e1 : sp_pr ft Fb Tb (I 47) (40 - (k + 1)).toNat (DM A N (A 1 (rt A (f + j) o))) (I 48) = none) (e2 : sp_sn ft Fb Tb (I 47) (40 - (k + 1)).toNat (DM A N (A 1 (rt A (f + j) o))) (I 48) = s1) : sp_pr ft Fb Tb (I 47) (40 - k).toNat xo s0 = none ∧ sp_sn ft Fb Tb (I 47) (40 - k).toNat xo s0 = s1 := by
  obtain ⟨-, ei⟩ := FRX_ins hB h k0 k1 hF hL n1 hp
  obtain ⟨-, -, g, fu, sq, -⟩ := h
  have en : (40 - k).toNat = (39 - k).toNat + 1 := by omega
  rw [show (40 - (k + 1)).toNat = (39 - k).toNat by omega] at e1 e2
  obtain ⟨R, er⟩ := rg_split (g := fun (i : Nat) => DM A N (A 1 (rt A (f + i) o))) jP
  have pg := pr_go (Tb := Tb) (n := (39 - k).toNat) fu g
  rw [en, pg.1, pg.2, ei, er]
  refine ⟨?_, ?_⟩
  · rw [sq_fail sq e1]
    rfl
  · rw [sg_all _ _ _ _ _ sq, sp_sg_n e1]
    exact e2
theorem FRX_next (hB : BI ar I A N) (h : FRX ar ft Fb Tb s0 xo k o c f j I A N) (x : QX I A N I2 A2 N2) (k0 : 0 ≤ o) (k1 : o < I 7) (hL : isL A n o) (jn : f + j < n) (hC : ∀ i : Nat, i < j → CLA ar I A (c + i)) (cl51 : ∀ i : Nat, i < j → A2 51 (c + i) = A 51 (c + i)) (cl50 : ∀ i : Nat, i < j → ∀ e : Int, 0 ≤ e → e < 30 → A2 50 (30 * (c + i) + e) = A 50 (30 * (c + i) + e)) (e1 : sp_pr ft Fb Tb (I 47) (40 - (k + 1)).toNat (DM A N (A 1 (rt A (f + j) o))) (I 48) = some (CLD A2 N2 (c + j), I2 48)) (nd : (CLD A2 N2 (c + j)).Nodup) : FRX ar ft Fb Tb s0 xo k o c f (j + 1) I2 A2 N2 := by
  have hP := BI_P hB
  obtain ⟨hX, e, g, fu, sq, nds⟩ := h
  have e47 : I2 47 = I 47 := x.2.2.2.1 47 (by decide) (by unfold FQ; omega)
  rw [show (40 - (k + 1)).toNat = (39 - k).toNat by omega] at e1
  have dm : ∀ i : Nat, i < j + 1 → DM A2 N2 (A2 1 (rt A2 (f + i) o)) = DM A N (A 1 (rt A (f + i) o)) := fun i hi => by
    have b := (VD_rt hP k0 k1 hL (by omega : f + i < n)).2.1
    rw [it_BX hP x k0 k1 hL (by omega : f + i < n)]
    exact BTX_D hB hX x (fun _ q => q) (fun _ q => q) b.1 b.2
  have cd : ∀ i : Nat, i < j → CLD A2 N2 (c + i) = CLD A N (c + i) := fun i hi => CLD_PX hB hX x (hC i hi) (cl51 i hi) (cl50 i hi)
  refine ⟨BTX_BX hB hX x (fun _ q => q) (fun _ q => q), (BTX_D hB hX x (fun _ q => q) (fun _ q => q) k0 k1).trans e, g, by rw [e47]; exact fu, ?_, fun i hi => ?_⟩
  · rw [e47, rg_suc, rg_suc, dm j (by omega)]
    rw [show (List.range j).map (fun (i : Nat) => DM A2 N2 (A2 1 (rt A2 (f + i) o))) = (List.range j).map (fun (i : Nat) => DM A N (A 1 (rt A (f + i) o))) from List.map_congr_left (fun i hi => dm i (by have := List.mem_range.mp hi; omega))]
    rw [show (List.range j).map (fun (i : Nat) => CLD A2 N2 (c + i)) = (List.range j).map (fun (i : Nat) => CLD A N (c + i)) from List.map_congr_left (fun i hi => cd i (List.mem_range.mp hi))]
    exact sq_more sq e1
  · by_cases q : i = j
    · rw [q]
      exact nd
    · rw [cd i (by omega)]
      exact nds i (by omega)
theorem FRX_end (hB : BI ar I A N) (h : FRX ar ft Fb Tb s0 xo k o c f P I A N) (k9 : k < 40) (k0 : 0 ≤ o) (k1 : o < I 7) (hF : FORM ar I A N o) (hL : isL A n o) (n1 : 1 ≤ n) (hp : PFT A o f P) : sp_pr ft Fb Tb (I 47) (40 - k).toNat xo s0 = sp_cs2 (sp_fin ft Fb Tb (sp_hc (DM A N (A 1 o))) (DM A N o) ((List.range P).map (fun (i : Nat) => CLD A N (c + i)))) (I 48) ∧ sp_sn ft Fb Tb (I 47) (40 - k).toNat xo s0 = I 48 := by
  obtain ⟨er, ei⟩ := FRX_ins hB h k0 k1 hF hL n1 hp
  obtain ⟨-, e, g, fu, sq, -⟩ := h
  have en : (40 - k).toNat = (39 - k).toNat + 1 := by omega
  have pg := pr_go (Tb := Tb) (n := (39 - k).toNat) fu g
  rw [en, pg.1, pg.2, ei]
  refine ⟨?_, ?_⟩
  · rw [sq, er, ← e]
    rfl
  · have s := sg_all (g := sp_sn ft Fb Tb (I 47) (39 - k).toNat) _ [] _ _ _ sq
    rw [List.append_nil] at s
    rw [s]
    rfl
end FRXS
theorem OWN {ar : Int → Int} {I : Nat → Int} {A : Nat → Int → Int} {N : Int → Int} {o c9 : Int} {f P n : Nat} (hB : BI ar I A N) (o0 : 0 ≤ o) (o1 : o < I 7) (hF : FORM ar I A N o) (hL : isL A n o) (hp : PFT A o f P) (hc : CFX ar I A o c9) (p1 : 1 ≤ P) : c9 + 384 ≤ 128 * (WD A o - (VD A (rt A f o) - VD A (rt A (f + P) o))) ∧ P ≤ 120 := by
  have hP := BI_P hB
  have n0 := BI_n0 hB
  have n2 : A 1 2 < 0 := by rw [hB.1.2.1.2 2 (by decide) (by decide)]; decide
  have pp := PFT_pt n0 hF hL hp
  have wo := WD_pair hP o0 o1 (by omega)
  rw [if_neg (fun q => absurd q.1 (by omega))] at wo
  have v0 := (VD_rt hP o0 o1 hL (by omega : 0 < n)).1
  have v0e : VD A o = WD A (A 1 o) + VD A (rt A 1 o) := v0
  have nm := hB.1.2.1.1
  have wr : WD A (A 1 o) = 1 := WD_atom (by rw [hB.1.2.1.2 _ (by omega) (by omega)]; decide)
  have v1 := VD_rt hP o0 o1 hL (by omega : 1 < n)
  have v1e : VD A (rt A 1 o) = WD A (A 1 (rt A 1 o)) + VD A (rt A 2 o) := v1.1
  have vn := VD_nn A (rt A (f + P) o)
  rcases hp with ⟨-, -, -, a⟩ | ⟨a, rfl, rfl⟩ | ⟨a, rfl, rfl⟩ | ⟨a, rfl, rfl⟩ | ⟨a, rfl, rfl⟩ | ⟨a, rfl, b⟩
  · omega
  · have cf := (hc.2 (by omega)).2.2.2.1 a
    have vl := VD_le hP v1.2.1.1 v1.2.1.2 n0 n2
    omega
  · have cf := (hc.2 (by omega)).2.2.2.2.1 a
    omega
  · have hcf := hc.2 (by omega)
    rcases a with a | a
    · obtain ⟨n', hL', -, hF⟩ := hF
      obtain ⟨m, lm, qm, pm⟩ : ∃ m : Nat, isL A m (A 2 (A 2 o)) ∧ (∀ j : Nat, j < m → PQ A ar (A 1 (rt A j (A 2 (A 2 o))))) ∧ PD A m (A 2 (A 2 o)) := by
        rcases hF with q | q | q | q | q | q | q | q | q | q | q | ⟨q, -⟩
        · omega
        · omega
        · omega
        · omega
        · omega
        · omega
        · omega
        · omega
        · exact q.2.2
        · omega
        · omega
        · omega
      clear hF
      have cf := hcf.2.2.2.2.2.1 a m lm
      have r1 := isL_rt hP n 1 o o0 o1 hL (by omega)
      have r1 : 0 ≤ A 2 o ∧ A 2 o ≤ o ∧ 0 ≤ A 1 (A 2 o) := r1
      have q3 := hP.2 (A 2 o) r1.1 (by omega)
      have q4 := q3.2.2.2.2 r1.2.2
      obtain ⟨pq, hpq, pv, pu⟩ := PDV (ar := ar) hP n0 n2 m (A 2 (A 2 o)) q3.2.2.1 (by omega) lm qm pm
      have pq1 : 0 ≤ pq ∧ pq ≤ 1 ∧ pq ≤ m := by
        rcases hpq with q | ⟨q, j, hj, -⟩ <;> omega
      clear hpq
      have e2 : rt A 2 o = A 2 (A 2 o) := rfl
      have e3 : rt A (1 + 1) o = A 2 (A 2 o) := rfl
      rw [e2] at v1e
      rw [e3]
      omega
    · have cf := hcf.2.2.1 (by omega)
      have e3 : rt A (1 + 1) o = rt A 2 o := rfl
      rw [e3] at vn ⊢
      omega
  · have cf := (hc.2 (by omega)).2.2.1 (by omega)
    omega
  · obtain ⟨e, hI, c3⟩ := hc.1 a
    obtain ⟨n', hL', n3, tk1, ⟨cp, e0, e1, ee, eu⟩, -, nn⟩ := hI
    have u1 := isL_uq n0 n' (3 + P) o hL' b
    have eP : PS A (fun _ => 1) (A 23 e) = P := by omega
    rw [eP] at c3
    have De := hB.2.2.1.2.1 e e0 e1
    have pl := PS_le (ar := ar) (g := fun _ => 1) (g1 := fun _ => 1) hP n0 hB.2.1.1.1.1 (fun j _ _ t => t) _ (A 23 e) (Nat.lt_succ_self _) De.2.2.2.1.1 De.2.2.2.1.2 De.2.2.2.2.1.1
    have bt := De.2.2.2.2.1
    have d17 := De.1
    have v2 := VD_rt hP o0 o1 hL (by omega : 2 < n)
    have v2e : VD A (rt A 2 o) = WD A (A 1 (rt A 2 o)) + VD A (rt A 3 o) := v2.1
    have wc := WD_pair hP v2.2.1.1 v2.2.1.2 cp
    rw [if_neg (fun q => absurd q.1 (by omega))] at wc
    have vc := VD_pair hP v2.2.1.1 v2.2.1.2 cp
    have qc := hP.2 _ v2.2.1.1 v2.2.1.2
    have qc2 := qc.2.2.2.2 cp
    have wc1 := WD_1 hP cp (by omega : A 1 (A 1 (rt A 2 o)) < I 7)
    have vc1 := VD_nn A (A 2 (A 1 (rt A 2 o)))
    omega
theorem VD_dec {I : Nat → Int} {A : Nat → Int → Int} (hP : PW I A) {n : Nat} {k : Int} (h0 : 0 ≤ k) (h1 : k < I 7) (hL : isL A n k) (i : Nat) : ∀ (m b : Nat), i + m = b → b ≤ n → VD A (rt A b k) ≤ VD A (rt A i k)
  | 0, b, e, _ => by
    rw [show b = i by omega]
    exact Int.le_refl _
  | m + 1, b, e, hb => by
    have a := VD_dec hP h0 h1 hL i m (b - 1) (by omega) (by omega)
    have v := VD_rt hP h0 h1 hL (by omega : b - 1 < n)
    rw [show b - 1 + 1 = b by omega] at v
    omega
def FRS (ar : Int → Int) (E k o c : Int) (f P j : Nat) (I : Nat → Int) (A : Nat → Int → Int) (N : Int → Int) : Prop := (BI ar I A N ∧ STP I ∧ I 49 = 0 ∧ I 85 = -1) ∧ (0 ≤ k ∧ k < 40 ∧ I 81 = k + 1) ∧ (A 47 k = o ∧ A 48 k = ((f + j : Nat) : Int) ∧ A 49 k = c) ∧ ((0 ≤ o ∧ o < I 7) ∧ FORM ar I A N o ∧ PFT A o f P ∧ j ≤ P) ∧ (0 ≤ c ∧ I 84 = c + j ∧ 4 * c + WD A o ≤ 999) ∧ E + 128 * WD A o ≤ 140000 ∧ (∃ c9 : Int, CFX ar I A o c9 ∧ I 7 ≤ E + c9 + SPR A ar (k + 1) o c f j) ∧ (1 ≤ j → k ≤ 38) ∧ ∀ i : Nat, i < j → CLA ar I A (c + i) ∧ 4 ≤ WD A (A 1 (rt A (f + i) o))
theorem mm_proof_loop (z : Value) (d : Nat) (ar : Int → Int) (ft : Nat → Int) (Fb : List (Nat × List Nat × ob_T)) (Tb : List (Nat × ob_T)) (root : Int) (h R : xx_H) (hc : 12 ≤ h.length) (Q : Option Value → xx_H → Prop) : ∀ (n : Nat) (I : Nat → Int) (A : Nat → Int → Int) (N : Int → Int) (E k o c : Int) (f P j : Nat) (s0 : Int) (xo : ob_T), WD A o ≤ n → FRS ar E k o c f P j I A N → FRX ar ft Fb Tb s0 xo k o c f j I A N → (∀ (I1 : Nat → Int) (A1 : Nat → Int → Int) (N1 : Int → Int), PXT ar k c I A N I1 A1 N1 → I1 49 = 0 → I1 85 = -1 → I1 81 = k → I1 84 = c + 1 → CLA ar I1 A1 c → I1 7 + KC k A1 ar c ≤ E + 128 * WD A o → 4 ≤ WD A o → sp_pr ft Fb Tb (I 47) (40 - k).toNat xo s0 = some (CLD A1 N1 c, I1 48) → (CLD A1 N1 c).Nodup → xx_go (xt_P z) (d + 13) 136 20 [some (.ref h.length), some (.int (iI root))] [] (mh h R I1 A1 N1) Q) → (∀ (I1 : Nat → Int) (A1 : Nat → Int → Int) (N1 : Int → Int), QX I A N I1 A1 N1 → BI ar I1 A1 N1 → STP I1 → (¬ I1 49 = 0 ∨ (¬ I1 85 = -1 ∧ 0 ≤ I1 85 ∧ I1 85 < I1 7)) → (I1 85 = -1 ∨ (0 ≤ I1 85 ∧ I1 85 < I1 7)) → (sp_pr ft Fb Tb (I 47) (40 - k).toNat xo s0 = none ∧ sp_sn ft Fb Tb (I 47) (40 - k).toNat xo s0 = I1 48) → xx_go (xt_P z) (d + 13) 136 20 [some (.ref h.length), some (.int (iI root))] [] (mh h R I1 A1 N1) Q) → xx_go (xt_P z) (d + 13) 136 20 [some (.ref h.length), some (.int (iI root))] [] (mh h R I A N) Q := by
  intro n
  induction n with
  | zero =>
    intro I A N E k o c f P j s0 xo hn hF
    have := WD_1 (BI_P hF.1.1) hF.2.2.2.1.1.1 hF.2.2.2.1.1.2
    omega
  | succ n ih =>
    have fin : ∀ (I : Nat → Int) (A : Nat → Int → Int) (N : Int → Int) (E k o c : Int) (f P j : Nat) (s0 : Int) (xo : ob_T), j = P → FRS ar E k o c f P j I A N → FRX ar ft Fb Tb s0 xo k o c f j I A N → (∀ (I1 : Nat → Int) (A1 : Nat → Int → Int) (N1 : Int → Int), PXT ar k c I A N I1 A1 N1 → I1 49 = 0 → I1 85 = -1 → I1 81 = k → I1 84 = c + 1 → CLA ar I1 A1 c → I1 7 + KC k A1 ar c ≤ E + 128 * WD A o → 4 ≤ WD A o → sp_pr ft Fb Tb (I 47) (40 - k).toNat xo s0 = some (CLD A1 N1 c, I1 48) → (CLD A1 N1 c).Nodup → xx_go (xt_P z) (d + 13) 136 20 [some (.ref h.length), some (.int (iI root))] [] (mh h R I1 A1 N1) Q) → (∀ (I1 : Nat → Int) (A1 : Nat → Int → Int) (N1 : Int → Int), QX I A N I1 A1 N1 → BI ar I1 A1 N1 → STP I1 → (¬ I1 49 = 0 ∨ (¬ I1 85 = -1 ∧ 0 ≤ I1 85 ∧ I1 85 < I1 7)) → (I1 85 = -1 ∨ (0 ≤ I1 85 ∧ I1 85 < I1 7)) → (sp_pr ft Fb Tb (I 47) (40 - k).toNat xo s0 = none ∧ sp_sn ft Fb Tb (I 47) (40 - k).toNat xo s0 = I1 48) → xx_go (xt_P z) (d + 13) 136 20 [some (.ref h.length), some (.int (iI root))] [] (mh h R I1 A1 N1) Q) → xx_go (xt_P z) (d + 13) 136 20 [some (.ref h.length), some (.int (iI root))] [] (mh h R I A N) Q := by
      intro I A N E k o c f P j s0 xo jP hF hR K Kf
      obtain ⟨⟨hB, hs, u9, u85⟩, ⟨k0, k1, e81⟩, ⟨q47, q48, q49⟩, ⟨⟨o0, o1⟩, fm, pft, jp⟩, ⟨c0, e84, cw⟩, hE, ⟨c9, hcf, hU⟩, k38, hC⟩ := id hF
      have hP := BI_P hB
      have n0 := BI_n0 hB
      obtain ⟨N0, hL, n1, -⟩ := id fm
      have pp := PFT_pt n0 fm hL pft
      have wo := WD_pair hP o0 o1 (by omega)
      rw [if_neg (fun q => absurd q.1 (by omega))] at wo
      have v0 := VD_rt hP o0 o1 hL (by omega : 0 < N0)
      have v0e : VD A o = WD A (A 1 o) + VD A (rt A 1 o) := v0.1
      have v0w : 1 ≤ WD A (A 1 o) := v0.2.2.1
      have v1 := VD_rt hP o0 o1 hL (by omega : 1 < N0)
      have v1e : VD A (rt A 1 o) = WD A (A 1 (rt A 1 o)) + VD A (rt A 2 o) := v1.1
      have v1v : 0 ≤ VD A (rt A 2 o) := v1.2.2.2
      have four : ∀ i : Nat, i ≤ j → 4 * (i : Int) ≤ VD A (rt A f o) - VD A (rt A (f + i) o) := by
        intro i
        induction i with
        | zero => intro _; show 4 * 0 ≤ VD A (rt A f o) - VD A (rt A f o); omega
        | succ i ii =>
          intro hi
          have a := ii (by omega)
          have b := (hC i (by omega)).2
          have v := (VD_rt hP o0 o1 hL (by omega : f + i < N0)).1
          have e : rt A (f + (i + 1)) o = rt A (f + i + 1) o := rfl
          rw [e]
          omega
      have fj := four j (Nat.le_refl _)
      have vn := VD_nn A (rt A (f + j) o)
      have vf : VD A (rt A f o) ≤ VD A o := VD_rtl hP o0 o1 hL f (by omega)
      subst jP
      refine go_a (pc' := 21) (ls' := [some (.ref h.length), some (.int (iI root))]) (st' := [.ref h.length]) rfl rfl ?_
      refine go_get (v := .int (iI (I 49))) rfl mh_o rfl rfl ?_
      refine mi_ne0 (t := 49) rfl rfl (by omega) (by omega) (fun q => absurd u9 q) (fun _ => ?_)
      refine go_a (pc' := 28) (ls' := [some (.ref h.length), some (.int (iI root))]) (st' := [.ref h.length]) rfl rfl ?_
      refine go_get (v := .int (iI (I 85))) rfl mh_o rfl rfl ?_
      refine go_a (pc' := 32) (ls' := [some (.ref h.length), some (.int (iI root))]) (st' := [.int (iI ((-1))), .int (iI (I 85))]) rfl rfl ?_
      refine mi_ne (t := 49) rfl rfl (by omega) (by omega) (by omega) (by omega) (fun q => absurd u85 q) (fun _ => ?_)
      refine go_a (pc' := 36) (ls' := [some (.ref h.length), some (.int (iI root))]) (st' := [.ref h.length]) rfl rfl ?_
      refine go_get (v := .int (iI (I 81))) rfl mh_o rfl rfl ?_
      refine mi_le0 (t := 49) rfl rfl (by omega) (by omega) (fun q => by omega) (fun _ => ?_)
      refine go_a (pc' := 43) (ls' := [some (.ref h.length), some (.int (iI root))]) (st' := [.ref h.length]) rfl rfl ?_
      refine go_v (m := 152) (as := [.ref h.length]) (r := []) rfl rfl rfl mh_o rfl rfl (mm_goEnd z d ar ft Fb Tb k o c E f j j h R I A N hc hB k0 k1 e81 q47 q48 q49 o0 o1 fm pft hs u9 c0 rfl (by omega) hE c9 hcf hU k38 (by omega) (by omega) (fun i hi => (hC i hi).1) hR.1 hR.2.2.2.2.2) (fun v h1 hq => ?_)
      obtain ⟨rfl, I1, A1, N1, rfl, X1, hq⟩ := hq
      have fe := FRX_end hB hR k1 o0 o1 fm hL n1 pft
      show xx_go (xt_P z) (d + 13) 136 46 [some (.ref h.length), some (.int (iI root))] [] (mh h R I1 A1 N1) _
      refine go_a (pc' := 20) (ls' := [some (.ref h.length), some (.int (iI root))]) (st' := []) rfl rfl ?_
      rcases hq with ⟨q1, q2, q3, q4⟩ | ⟨r9, r85, r81, r84, rC, rE, q3, nd, q4⟩
      · rw [q3] at fe
        exact Kf I1 A1 N1 X1.1 X1.2.1 X1.2.2.1 q1 (q2.elim (fun q => Or.inl (q.trans u85)) Or.inr) ⟨fe.1, fe.2.trans q4.symm⟩
      · rw [q3, ← q4] at fe
        exact K I1 A1 N1 X1 r9 (r85.trans u85) r81 r84 rC rE (by omega) fe.1 nd
    have inner : ∀ (m : Nat) (I : Nat → Int) (A : Nat → Int → Int) (N : Int → Int) (E k o c : Int) (f P j : Nat) (s0 : Int) (xo : ob_T), WD A o ≤ ((n + 1 : Nat) : Int) → P - j ≤ m → FRS ar E k o c f P j I A N → FRX ar ft Fb Tb s0 xo k o c f j I A N → (∀ (I1 : Nat → Int) (A1 : Nat → Int → Int) (N1 : Int → Int), PXT ar k c I A N I1 A1 N1 → I1 49 = 0 → I1 85 = -1 → I1 81 = k → I1 84 = c + 1 → CLA ar I1 A1 c → I1 7 + KC k A1 ar c ≤ E + 128 * WD A o → 4 ≤ WD A o → sp_pr ft Fb Tb (I 47) (40 - k).toNat xo s0 = some (CLD A1 N1 c, I1 48) → (CLD A1 N1 c).Nodup → xx_go (xt_P z) (d + 13) 136 20 [some (.ref h.length), some (.int (iI root))] [] (mh h R I1 A1 N1) Q) → (∀ (I1 : Nat → Int) (A1 : Nat → Int → Int) (N1 : Int → Int), QX I A N I1 A1 N1 → BI ar I1 A1 N1 → STP I1 → (¬ I1 49 = 0 ∨ (¬ I1 85 = -1 ∧ 0 ≤ I1 85 ∧ I1 85 < I1 7)) → (I1 85 = -1 ∨ (0 ≤ I1 85 ∧ I1 85 < I1 7)) → (sp_pr ft Fb Tb (I 47) (40 - k).toNat xo s0 = none ∧ sp_sn ft Fb Tb (I 47) (40 - k).toNat xo s0 = I1 48) → xx_go (xt_P z) (d + 13) 136 20 [some (.ref h.length), some (.int (iI root))] [] (mh h R I1 A1 N1) Q) → xx_go (xt_P z) (d + 13) 136 20 [some (.ref h.length), some (.int (iI root))] [] (mh h R I A N) Q := by
      intro m
      induction m with
      | zero =>
        intro I A N E k o c f P j s0 xo hn hm hF hR K Kf
        exact fin I A N E k o c f P j s0 xo (by have := hF.2.2.2.1.2.2.2; omega) hF hR K Kf
      | succ m ihm =>
        intro I A N E k o c f P j s0 xo hn hm hF hR K Kf
        by_cases jP : j = P
        · exact fin I A N E k o c f P j s0 xo jP hF hR K Kf
        obtain ⟨⟨hB, hs, u9, u85⟩, ⟨k0, k1, e81⟩, ⟨q47, q48, q49⟩, ⟨⟨o0, o1⟩, fm, pft, jp⟩, ⟨c0, e84, cw⟩, hE, ⟨c9, hcf, hU⟩, k38, hC⟩ := id hF
        have hP := BI_P hB
        have n0 := BI_n0 hB
        obtain ⟨N0, hL, n1, -⟩ := id fm
        have pp := PFT_pt n0 fm hL pft
        have ow := OWN hB o0 o1 fm hL pft hcf (by omega)
        have wo := WD_pair hP o0 o1 (by omega)
        rw [if_neg (fun q => absurd q.1 (by omega))] at wo
        have vf : VD A (rt A f o) ≤ VD A o := VD_rtl hP o0 o1 hL f (by omega)
        have sp := SPR_le (ar := ar) (d := k + 1) (c := c) (f := f) hP o0 o1 hL (by omega) j (by omega) (fun i hi => (hC i hi).1)
        have four : ∀ i : Nat, i ≤ j → 4 * (i : Int) ≤ VD A (rt A f o) - VD A (rt A (f + i) o) := by
          intro i
          induction i with
          | zero => intro _; show 4 * 0 ≤ VD A (rt A f o) - VD A (rt A f o); omega
          | succ i ii =>
            intro hi
            have a := ii (by omega)
            have b := (hC i (by omega)).2
            have v := (VD_rt hP o0 o1 hL (by omega : f + i < N0)).1
            have e : rt A (f + (i + 1)) o = rt A (f + i + 1) o := rfl
            rw [e]
            omega
        have fj := four j (Nat.le_refl _)
        have vj := VD_rt hP o0 o1 hL (by omega : f + j < N0)
        have vje : VD A (rt A (f + j) o) = WD A (A 1 (rt A (f + j) o)) + VD A (rt A (f + j + 1) o) := vj.1
        have vd : VD A (rt A (f + P) o) ≤ VD A (rt A (f + j + 1) o) := VD_dec hP o0 o1 hL (f + j + 1) (P - j - 1) (f + P) (by omega) (by omega)
        have vn := VD_nn A (rt A (f + P) o)
        have wx := vj.2.2.1
        have xb := vj.2.1
        have w27 : A 1 (A 1 (rt A (f + j) o)) = 27 → 3 ≤ WD A (A 1 (rt A (f + j) o)) := by
          intro e
          have wp := WD_pair hP xb.1 xb.2 (by omega)
          rw [if_neg (fun q => absurd q.1 (by omega))] at wp
          have vp := VD_pair hP xb.1 xb.2 (by omega)
          have qx := hP.2 _ xb.1 xb.2
          have w1 := WD_1 hP (by omega : 0 ≤ A 1 (A 1 (rt A (f + j) o))) (by omega)
          have v1 := VD_nn A (A 2 (A 1 (rt A (f + j) o)))
          omega
        refine go_a (pc' := 21) (ls' := [some (.ref h.length), some (.int (iI root))]) (st' := [.ref h.length]) rfl rfl ?_
        refine go_get (v := .int (iI (I 49))) rfl mh_o rfl rfl ?_
        refine mi_ne0 (t := 49) rfl rfl (by omega) (by omega) (fun q => absurd u9 q) (fun _ => ?_)
        refine go_a (pc' := 28) (ls' := [some (.ref h.length), some (.int (iI root))]) (st' := [.ref h.length]) rfl rfl ?_
        refine go_get (v := .int (iI (I 85))) rfl mh_o rfl rfl ?_
        refine go_a (pc' := 32) (ls' := [some (.ref h.length), some (.int (iI root))]) (st' := [.int (iI ((-1))), .int (iI (I 85))]) rfl rfl ?_
        refine mi_ne (t := 49) rfl rfl (by omega) (by omega) (by omega) (by omega) (fun q => absurd u85 q) (fun _ => ?_)
        refine go_a (pc' := 36) (ls' := [some (.ref h.length), some (.int (iI root))]) (st' := [.ref h.length]) rfl rfl ?_
        refine go_get (v := .int (iI (I 81))) rfl mh_o rfl rfl ?_
        refine mi_le0 (t := 49) rfl rfl (by omega) (by omega) (fun q => by omega) (fun _ => ?_)
        refine go_a (pc' := 43) (ls' := [some (.ref h.length), some (.int (iI root))]) (st' := [.ref h.length]) rfl rfl ?_
        refine go_v (m := 152) (as := [.ref h.length]) (r := []) rfl rfl rfl mh_o rfl rfl (mm_goPart z d ar ft Fb Tb k o c f P j h R I A N hc hB k0 k1 e81 q47 q48 q49 o0 o1 fm pft hs u9 c0 (by omega) e84 (by omega) (by omega) (by omega) (fun q => by have := w27 q; omega) hR.1) (fun v h1 hq => ?_)
        obtain ⟨rfl, I1, A1, N1, rfl, X1, y84, yk, hq⟩ := hq
        show xx_go (xt_P z) (d + 13) 136 46 [some (.ref h.length), some (.int (iI root))] [] (mh h R I1 A1 N1) _
        refine go_a (pc' := 20) (ls' := [some (.ref h.length), some (.int (iI root))]) (st' := []) rfl rfl ?_
        have b1 := X1.1
        have x7 : I 7 ≤ I1 7 := b1.2.1
        have P1 := BI_P X1.2.1
        rcases hq with ⟨q1, q2, q3, q4⟩ | ⟨r9, r85, rk, r81, r47, r48, r49, rF, rC, ⟨rs, rt48⟩, rG⟩
        · exact Kf I1 A1 N1 b1 X1.2.1 X1.2.2.1 q1 (q2.elim (fun q => Or.inl (q.trans u85)) Or.inr) (FRX_fail hB hR k1 o0 o1 fm hL n1 pft (by omega) q3 q4)
        have e47 : I1 47 = I 47 := b1.2.2.2.1 47 (by decide) (by unfold FQ; omega)
        obtain ⟨P2, pf2⟩ := FORM_PFT rF
        have wd1 := (WD_BX hP b1 xb.1 xb.2).1
        have e1x : A1 1 (A 1 (rt A (f + j) o)) = A 1 (A 1 (rt A (f + j) o)) := (b1.2.2.1 _ xb.1 xb.2).1
        have FR1 : FRS ar (I 7) (k + 1) (A 1 (rt A (f + j) o)) (c + j) (pf (A1 1 (A 1 (rt A (f + j) o)))) P2 0 I1 A1 N1 := by
          refine ⟨⟨X1.2.1, X1.2.2.1, r9, r85.trans u85⟩, ⟨by omega, by omega, by omega⟩, ⟨r47, by rw [r48, e1x]; rfl, r49⟩, ⟨⟨xb.1, by omega⟩, rF, pf2, Nat.zero_le _⟩, ⟨by omega, by rw [y84]; show _ = _ + 0; omega, by rw [wd1]; omega⟩, by rw [wd1]; omega, ⟨I1 7 - I 7, rC, by show I1 7 ≤ I 7 + (I1 7 - I 7) + 0; omega⟩, fun q => absurd q (by decide), fun i hi => absurd hi (by omega)⟩
        have FX1 : FRX ar ft Fb Tb (I 48) (DM A N (A 1 (rt A (f + j) o))) (k + 1) (A 1 (rt A (f + j) o)) (c + j) (pf (A1 1 (A 1 (rt A (f + j) o)))) 0 I1 A1 N1 := ⟨BTX_BX hB hR.1 b1 (fun _ q => q) (fun _ q => q), BTX_D hB hR.1 b1 (fun _ q => q) (fun _ q => q) xb.1 xb.2, rG, by rw [e47]; exact rs, by rw [rt48]; rfl, fun i hi => absurd hi (by omega)⟩
        refine ih I1 A1 N1 (I 7) (k + 1) (A 1 (rt A (f + j) o)) (c + j) (pf (A1 1 (A 1 (rt A (f + j) o)))) P2 0 (I 48) (DM A N (A 1 (rt A (f + j) o))) (by rw [wd1]; omega) FR1 FX1 ?_ ?_
        · intro I2 A2 N2 X2 s9 s85 s81 s84 sC sE s4 sp nd
          rw [e47] at sp
          rw [wd1] at sE s4
          have b2 := X2.1
          have P2' := BI_P X2.2.1
          have X12 := PXT_tr X1 (PXT_w X2 (by omega : k ≤ k + 1) (Int.le_refl _)) (Int.le_refl _) (Int.le_refl _)
          have b12 := X12.1
          have kk := X2.2.2.2.1 k k0 (by omega)
          have cl50 : ∀ i : Nat, i < j → ∀ e : Int, 0 ≤ e → e < 30 → A2 50 (30 * (c + i) + e) = A 50 (30 * (c + i) + e) := fun i hi e a b => X12.2.2.2.2.1 _ (by omega) (by omega)
          have cl51 : ∀ i : Nat, i < j → A2 51 (c + i) = A 51 (c + i) := fun i hi => X12.2.2.2.2.2 _ (by omega) (by omega)
          have kcx : ∀ i : Nat, i < j → KC (k + 1) A2 ar (c + i) = KC (k + 1) A ar (c + i) ∧ CLA ar I2 A2 (c + i) := fun i hi => KC_PX hP b12 (hC i hi).1 (cl51 i hi) (cl50 i hi)
          have spx : SPR A2 ar (k + 1) o c f j = SPR A ar (k + 1) o c f j := SPR_PX hP b12 o0 o1 hL j (by omega) (fun i hi => (kcx i hi).1)
          have wo2 := (WD_BX hP b12 o0 o1).1
          have x72 : I 7 ≤ I2 7 := b12.2.1
          have F2 : FORM ar I2 A2 N2 o := FORM_BX hB b12 (by unfold FQ; omega) (by unfold FQ; omega) (fun a p q => by unfold GQ; omega) o0 o1 fm
          have ix := it_BX hP b12 o0 o1 hL (by omega : f + j < N0)
          have wx2 := (WD_BX hP b12 xb.1 xb.2).1
          have e472 : I2 47 = I 47 := b12.2.2.2.1 47 (by decide) (by unfold FQ; omega)
          have FX2 : FRX ar ft Fb Tb s0 xo k o c f (j + 1) I2 A2 N2 := FRX_next hB hR b12 o0 o1 hL (by omega : f + j < N0) (fun i hi => (hC i hi).1) cl51 cl50 sp nd
          refine ihm I2 A2 N2 E k o c f P (j + 1) s0 xo (by rw [wo2]; exact hn) (by omega) ?_ FX2 (fun I3 A3 N3 X3 t1 t2 t3 t4 t5 t6 t7 t8 t9 => ?_) (fun I3 A3 N3 X3 B3 t1 t2 t3 t8 => ?_)
          · refine ⟨⟨X2.2.1, X2.2.2.1, s9, s85⟩, ⟨k0, k1, s81⟩, ⟨by rw [kk.1]; exact yk.1, by rw [kk.2.1]; exact yk.2.1, by rw [kk.2.2]; exact yk.2.2⟩, ⟨⟨o0, by omega⟩, F2, PFT_BX hP b12 o0 o1 pft, by omega⟩, ⟨c0, by rw [s84]; omega, by rw [wo2]; exact cw⟩, by rw [wo2]; exact hE, ⟨c9, CFX_BX hB b12 (by unfold FQ; omega) (fun a p q => by unfold GQ; omega) o0 o1 F2 hcf, ?_⟩, fun _ => by omega, fun i hi => ?_⟩
            · show I2 7 ≤ E + c9 + (SPR A2 ar (k + 1) o c f j + (128 * WD A2 (A2 1 (rt A2 (f + j) o)) - KC (k + 1) A2 ar (c + j)))
              rw [spx, ix, wx2]
              omega
            · by_cases e : i = j
              · subst e
                rw [ix, wx2]
                exact ⟨sC, s4⟩
              · have a := hC i (by omega)
                have bb := (VD_rt hP o0 o1 hL (by omega : f + i < N0)).2.1
                rw [it_BX hP b12 o0 o1 hL (by omega : f + i < N0), (WD_BX hP b12 bb.1 bb.2).1]
                exact ⟨(kcx i (by omega)).2, a.2⟩
          · rw [wo2] at t6 t7
            exact K I3 A3 N3 (PXT_tr (PXT_w X12 (Int.le_refl _) (by omega)) X3 (Int.le_refl _) (Int.le_refl _)) t1 t2 t3 t4 t5 t6 t7 (by rw [← e472]; exact t8) t9
          · exact Kf I3 A3 N3 (BX_tr b12 X3) B3 t1 t2 t3 (by rw [← e472]; exact t8)
        · intro I2 A2 N2 X2 B2 t1 t2 t3 t8
          rw [e47] at t8
          exact Kf I2 A2 N2 (BX_tr b1 X2) B2 t1 t2 t3 (FRX_fail hB hR k1 o0 o1 fm hL n1 pft (by omega) t8.1 t8.2)
    intro I A N E k o c f P j s0 xo hn
    exact inner (P - j) I A N E k o c f P j s0 xo hn (Nat.le_refl _)

