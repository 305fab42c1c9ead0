def KC (d : Int) (A : Nat → Int → Int) (ar : Int → Int) (c : Int) : Int := KK d (A 51 c) (SG (TZ A ar) (fun k => A 50 (30 * c + k)) (A 51 c).toNat) (SG (NT A wq) (fun k => A 50 (30 * c + k)) (A 51 c).toNat)
def KDR (d : Int) (I : Nat → Int) (A : Nat → Int → Int) (ar : Int → Int) : Int := KK d (I 67) (SG (TZ A ar) (A 38) (I 67).toNat) (SG (NT A wq) (A 38) (I 67).toNat)
def SPR (A : Nat → Int → Int) (ar : Int → Int) (d o c : Int) (f : Nat) : Nat → Int
  | 0 => 0
  | j + 1 => SPR A ar d o c f j + (128 * WD A (A 1 (rt A (f + j) o)) - KC d A ar (c + j))
def CFX (ar : Int → Int) (I : Nat → Int) (A : Nat → Int → Int) (o c : Int) : Prop := (A 1 o = 27 → ∃ e : Int, IND ar I A o e ∧ c ≤ 2 * WD A (A 1 (rt A 1 o)) - 2 + 4 * (PS A (fun _ => 1) (A 23 e) - 1)) ∧ (A 1 o ≠ 27 → CF A o c)
theorem RU_carry {ar : Int → Int} {c : Int} {I I1 : Nat → Int} {A A1 : Nat → Int → Int} {N N1 : Int → Int} {k s : Int} (hP : PW I A) (x : RU ar c I A N I1 A1 N1) (h : (0 ≤ k ∧ k < I 7) ∧ TZ A ar k = s) (s1 : 1 ≤ s) : (0 ≤ k ∧ k < I1 7) ∧ TZ A1 ar k = s := by
  have x7 := x.1.2.1
  rw [RU_t hP x h.1.1 h.1.2 (by rw [h.2]; exact s1)]
  exact ⟨⟨h.1.1, by omega⟩, h.2⟩
section RUT
variable {ar : Int → Int} {ft : Nat → Int} {Fb : List (Nat × List Nat × ob_T)} {Tb : List (Nat × ob_T)} {c : Int} {I I1 : Nat → Int} {A A1 : Nat → Int → Int} {N N1 : Int → Int} {k : Int}
theorem BTX_RU (hB : BI ar I A N) (h : BTX ar ft Fb Tb I A N) (x : RU ar c I A N I1 A1 N1) : BTX ar ft Fb Tb I1 A1 N1 := BTX_BX hB h x.1 (fun j q => by unfold FC at q; unfold FQ; omega) (fun a q => by unfold GC at q; unfold GQ; omega)
theorem DM_RU (hB : BI ar I A N) (h : BTX ar ft Fb Tb I A N) (x : RU ar c I A N I1 A1 N1) (k0 : 0 ≤ k) (k1 : k < I 7) : DM A1 N1 k = DM A N k := BTX_D hB h x.1 (fun j q => by unfold FC at q; unfold FQ; omega) (fun a q => by unfold GC at q; unfold GQ; omega) k0 k1
theorem TS_of {τ : ob_T} (hB : BI ar I A N) (h : BTX ar ft Fb Tb I A N) (k0 : 0 ≤ k) (k1 : k < I 7) (e : DM A N k = τ) (t : 1 ≤ (sp_ts ft τ).1) : 1 ≤ TS A ar k := by
  have s := TS_1 hB.1.1 hB.1.2.1 h.1 h.2.1 k0 k1
  rw [e] at s
  rw [s] at t
  exact t
theorem DIM_up {its : List (Option ob_T)} {τ τ2 : ob_T} {x y : Int} (dj : ∀ its : List (Option ob_T), DIT its I A N → DIM its (sp_opO τ2) y I1 A1 N1) (r : RU ar c I A N I1 A1 N1) (sz : (sp_sz τ).1 ≤ (sp_sz τ2).1) (h : DIM its (sp_opO τ) x I A N) : DIM its (sp_opO τ2) y I1 A1 N1 := by
  rcases h with ⟨a, b, -⟩ | ⟨a, b⟩
  · exact dj its (Or.inl ⟨a, b⟩)
  · refine Or.inr ⟨fun q => a (RU_z r q), ?_⟩
    rw [cf_app] at b ⊢
    cases e : sp_cf [] its with
    | none => rfl
    | some E =>
      rw [e] at b
      by_cases c : 120 < (sp_sz τ).1
      · rw [show sp_opO τ2 = none from if_pos (by omega)]
      · rw [show sp_opO τ = some τ from if_neg c] at b
        cases b
theorem c1_0 {v : Nat} {a : ob_T} (nq : sp_isq (.var v) = false) : (sp_sz a).1 ≤ (sp_sz (sp_c1 v a)).1 := by
  rw [sz_c1 nq]
  omega
theorem c2_0 {v : Nat} {a b : ob_T} (nq : sp_isq (.var v) = false) : (sp_sz a).1 ≤ (sp_sz (sp_c2 v a b)).1 := by
  rw [sz_c2 nq]
  have := (sp_sz_1 b).1
  omega
theorem c3_0 {v : Nat} {a b e : ob_T} (nq : sp_isq (.var v) = false) : (sp_sz a).1 ≤ (sp_sz (sp_c3 v a b e)).1 := by
  rw [sz_c3 nq]
  have := (sp_sz_1 b).1
  have := (sp_sz_1 e).1
  omega
end RUT
set_option maxRecDepth 4000 in
theorem mm_con_taut (z : Value) (d : Nat) (ar : Int → Int) (ft : Nat → Int) (Fb : List (Nat × List Nat × ob_T)) (Tb : List (Nat × ob_T)) (ρ : Option (List ob_T)) (k o c E dd : Int) (h R : xx_H) (I : Nat → Int) (A : Nat → Int → Int) (N : Int → Int) (hc : 12 ≤ h.length) (hB : BI ar I A N) (k0 : 0 ≤ k) (k1 : k < 40) (ek : A 47 k = o) (o0 : 0 ≤ o) (o1 : o < I 7) (hF : FORM ar I A N o) (ec : A 49 k = c) (c0 : 0 ≤ c) (w : WD A o ≤ 1000) (hE : E + 128 * WD A o ≤ 140000) (d0 : 0 ≤ dd) (d1 : dd ≤ 39) (c9 : Int) (hcf : CFX ar I A o c9) (hX : BTX ar ft Fb Tb I A N) (w0 : I 49 = 0) (ef : A 1 o = 29) (hU : I 7 ≤ E + c9) (hρ : ∀ l : ob_T, sp_tm ft (DM A N (A 1 (rt A 1 o))) = some l → ρ = sp_cz [some l, sp_ntO (some l)]) : xx_cl (xt_P z) (d + 11) 154 [.ref h.length, .int (iI k)] (mh h R I A N) (fun v h1 => ∃ (b : Int) (I1 : Nat → Int) (A1 : Nat → Int → Int) (N1 : Int → Int), v = some (.int (iI b)) ∧ h1 = mh h R I1 A1 N1 ∧ RU ar 140000 I A N I1 A1 N1 ∧ ((b = 0 ∧ ρ = none) ∨ (b = 1 ∧ (∃ its : List (Option ob_T), DIT its I1 A1 N1 ∧ ρ = sp_cz its) ∧ ∃ S V : Int, DR ar 1190 S V I1 A1 ∧ (I1 49 = 0 → I1 67 ≤ 30 → SG (TZ A1 ar) (A1 38) (I1 67).toNat ≤ 400 → I1 7 + KDR dd I1 A1 ar ≤ E + 128 * WD A o)))) := by
  have hP := BI_P hB
  have n0 := BI_n0 hB
  have p9 := hP.1
  have nm := hB.1.2.1.1
  have n2 : A 1 2 < 0 := by rw [hB.1.2.1.2 2 (by decide) (by decide)]; decide
  obtain ⟨n, hL, n1, hF⟩ := hF
  have en : n = 2 ∧ TOK A ar (A 1 (rt A 1 o)) := by
    rcases hF with q | q | q | q | q | q | q | q | q | q | q | q
    · exact ⟨q.2.1, q.2.2⟩
    · omega
    · omega
    · omega
    · omega
    · omega
    · omega
    · omega
    · omega
    · omega
    · omega
    · omega
  obtain ⟨rfl, tk1⟩ := en
  have wo := WD_pair hP o0 o1 (by omega)
  rw [if_neg (fun q => absurd q.1 (by omega))] at wo
  have v0 := VD_rt hP o0 o1 hL (by decide : 0 < 2)
  have v0e : VD A o = WD A (A 1 o) + VD A (rt A 1 o) := v0.1
  have wr : WD A (A 1 o) = 1 := WD_atom (by rw [hB.1.2.1.2 _ (by omega) (by omega)]; decide)
  have v1 := VD_rt hP o0 o1 hL (by decide : 1 < 2)
  have v1e : VD A (rt A 1 o) = WD A (A 1 (rt A 1 o)) + VD A (rt A 2 o) := v1.1
  have vz : VD A (rt A 2 o) = 0 := by rw [isL_end 2 o hL, VD_atom n0, if_pos rfl]
  have cf := hcf.2 (by omega)
  have cf2 := cf.2.1 (by omega)
  refine cl_go rfl ?_
  show xx_go (xt_P z) (d + 10) 154 0 [some (.ref h.length), some (.int (iI k)), none, none, none, none, none, none] [] (mh h R I A N) _
  refine go_a (pc' := 1) (ls' := [some (.ref h.length), some (.int (iI k)), none, none, none, none, none, none]) (st' := [.ref h.length]) rfl rfl ?_
  refine go_get rfl mh_o rfl rfl ?_
  refine go_a (pc' := 5) (ls' := [some (.ref h.length), some (.int (iI k)), none, none, none, none, none, none]) (st' := [.int (iI k), .ref (h.length + 47)]) rfl rfl ?_
  refine mi_ild rfl mh_a47 (by omega) (by omega) (by decide) ?_
  rw [ek]
  refine go_a (pc' := 7) (ls' := [some (.ref h.length), some (.int (iI k)), some (.int (iI o)), none, none, none, none, none]) (st' := []) rfl rfl ?_
  refine go_a (pc' := 8) (ls' := [some (.ref h.length), some (.int (iI k)), some (.int (iI o)), none, none, none, none, none]) (st' := [.ref h.length]) rfl rfl ?_
  refine go_get rfl mh_o rfl rfl ?_
  refine go_a (pc' := 12) (ls' := [some (.ref h.length), some (.int (iI k)), some (.int (iI o)), none, none, none, none, none]) (st' := [.int (iI k), .ref (h.length + 49)]) rfl rfl ?_
  refine mi_ild rfl mh_a49 (by omega) (by omega) (by decide) ?_
  rw [ec]
  refine go_a (pc' := 14) (ls' := [some (.ref h.length), some (.int (iI k)), some (.int (iI o)), some (.int (iI c)), none, none, none, none]) (st' := []) rfl rfl ?_
  refine go_a (pc' := 15) (ls' := [some (.ref h.length), some (.int (iI k)), some (.int (iI o)), some (.int (iI c)), none, none, none, none]) (st' := [.ref h.length]) rfl rfl ?_
  refine go_a (pc' := 16) (ls' := [some (.ref h.length), some (.int (iI k)), some (.int (iI o)), some (.int (iI c)), none, none, none, none]) (st' := [.int (iI 0), .ref h.length]) rfl rfl ?_
  refine go_put (j := 67) rfl mh_o rfl rfl (show 12 ≤ _ from hc) (show 67 < 86 by decide) rfl rfl ?_
  rw [mh_p67]
  obtain ⟨J, hJ⟩ : ∃ J : Nat → Int, J = su I 67 0 := ⟨_, rfl⟩
  rw [← hJ]
  have bJ : BX (fun j => j = 67) NO I A N J A N := by
    subst hJ
    exact BX_of hB.1.1 (fun j q => su_ne q) (fun a _ => rfl) rfl rfl rfl rfl rfl rfl rfl rfl rfl rfl
  have J7 : J 7 = I 7 := by subst hJ; rfl
  have J49 : J 49 = I 49 := by subst hJ; rfl
  have R0 : RU ar 0 I A N J A N := RU_of hB bJ (fun j q => by subst q; unfold FC; omega) (fun a q => absurd q (fun z => z)) (SZI_124 (A := A) (A1 := A) hB.1.2.2 rfl rfl rfl J7) (by subst hJ; rfl) (by subst hJ; rfl) (by rw [J49]; exact hB.2.2.2.2) (by omega) (fun _ => J49)
  have D0 : DR ar 0 0 0 J A := by subst hJ; exact DR_00
  have PJ := RU_P R0
  have T0 : BTX ar ft Fb Tb J A N := BTX_RU hB hX R0
  have di0 : DIT [] J A N := by
    subst hJ
    exact Or.inl ⟨w0, rfl⟩
  refine go_a (pc' := 20) (ls' := [some (.ref h.length), some (.int (iI k)), some (.int (iI o)), some (.int (iI c)), none, none, none, none]) (st' := [.ref h.length]) rfl rfl ?_
  refine go_a (pc' := 21) (ls' := [some (.ref h.length), some (.int (iI k)), some (.int (iI o)), some (.int (iI c)), none, none, none, none]) (st' := [.int (iI o), .ref h.length]) rfl rfl ?_
  refine go_v (m := 98) (as := [.ref h.length, .int (iI o)]) (r := []) rfl rfl rfl mh_o rfl rfl (mm_lenL z (d + 8) 2 o h R J A N hc PJ n0 o0 (by omega) hL) (fun v h1 hq => ?_)
  obtain ⟨rfl, rfl⟩ := hq
  show xx_go (xt_P z) (d + 10) 154 24 [some (.ref h.length), some (.int (iI k)), some (.int (iI o)), some (.int (iI c)), none, none, none, none] [.int (iI (((2 : Nat) : Int)))] (mh h R J A N) _
  refine go_a (pc' := 25) (ls' := [some (.ref h.length), some (.int (iI k)), some (.int (iI o)), some (.int (iI c)), none, none, none, none]) (st' := [.int (iI 1), .int (iI (((2 : Nat) : Int)))]) rfl rfl ?_
  refine mi_le (t := 107) rfl rfl (by omega) (by omega) (by omega) (by omega) (fun q => by omega) (fun _ => ?_)
  refine go_a (pc' := 29) (ls' := [some (.ref h.length), some (.int (iI k)), some (.int (iI o)), some (.int (iI c)), none, none, none, none]) (st' := [.ref h.length]) rfl rfl ?_
  refine go_get rfl mh_o rfl rfl ?_
  refine go_a (pc' := 33) (ls' := [some (.ref h.length), some (.int (iI k)), some (.int (iI o)), some (.int (iI c)), none, none, none, none]) (st' := [.int (iI o), .ref (h.length + 1)]) rfl rfl ?_
  refine mi_ild rfl mh_a1 (by omega) (by omega) (by decide) ?_
  refine go_a (pc' := 36) (ls' := [some (.ref h.length), some (.int (iI k)), some (.int (iI o)), some (.int (iI c)), none, none, none, none]) (st' := [.int (iI 37), .int (iI (A 1 o))]) rfl rfl ?_
  refine mi_eq (t := 107) rfl rfl (by omega) (by omega) (by omega) (by omega) (fun q => by omega) (fun _ => ?_)
  refine go_a (pc' := 40) (ls' := [some (.ref h.length), some (.int (iI k)), some (.int (iI o)), some (.int (iI c)), none, none, none, none]) (st' := [.ref h.length]) rfl rfl ?_
  refine go_get rfl mh_o rfl rfl ?_
  refine go_a (pc' := 44) (ls' := [some (.ref h.length), some (.int (iI k)), some (.int (iI o)), some (.int (iI c)), none, none, none, none]) (st' := [.int (iI o), .ref (h.length + 1)]) rfl rfl ?_
  refine mi_ild rfl mh_a1 (by omega) (by omega) (by decide) ?_
  refine go_a (pc' := 47) (ls' := [some (.ref h.length), some (.int (iI k)), some (.int (iI o)), some (.int (iI c)), none, none, none, none]) (st' := [.int (iI 38), .int (iI (A 1 o))]) rfl rfl ?_
  refine mi_eq (t := 107) rfl rfl (by omega) (by omega) (by omega) (by omega) (fun q => by omega) (fun _ => ?_)
  refine go_a (pc' := 51) (ls' := [some (.ref h.length), some (.int (iI k)), some (.int (iI o)), some (.int (iI c)), none, none, none, none]) (st' := [.ref h.length]) rfl rfl ?_
  refine go_get rfl mh_o rfl rfl ?_
  refine go_a (pc' := 55) (ls' := [some (.ref h.length), some (.int (iI k)), some (.int (iI o)), some (.int (iI c)), none, none, none, none]) (st' := [.int (iI o), .ref (h.length + 1)]) rfl rfl ?_
  refine mi_ild rfl mh_a1 (by omega) (by omega) (by decide) ?_
  refine go_a (pc' := 58) (ls' := [some (.ref h.length), some (.int (iI k)), some (.int (iI o)), some (.int (iI c)), none, none, none, none]) (st' := [.int (iI 39), .int (iI (A 1 o))]) rfl rfl ?_
  refine mi_eq (t := 107) rfl rfl (by omega) (by omega) (by omega) (by omega) (fun q => by omega) (fun _ => ?_)
  refine go_a (pc' := 62) (ls' := [some (.ref h.length), some (.int (iI k)), some (.int (iI o)), some (.int (iI c)), none, none, none, none]) (st' := [.ref h.length]) rfl rfl ?_
  refine go_get rfl mh_o rfl rfl ?_
  refine go_a (pc' := 66) (ls' := [some (.ref h.length), some (.int (iI k)), some (.int (iI o)), some (.int (iI c)), none, none, none, none]) (st' := [.int (iI o), .ref (h.length + 1)]) rfl rfl ?_
  refine mi_ild rfl mh_a1 (by omega) (by omega) (by decide) ?_
  refine go_a (pc' := 69) (ls' := [some (.ref h.length), some (.int (iI k)), some (.int (iI o)), some (.int (iI c)), none, none, none, none]) (st' := [.int (iI 41), .int (iI (A 1 o))]) rfl rfl ?_
  refine mi_eq (t := 107) rfl rfl (by omega) (by omega) (by omega) (by omega) (fun q => by omega) (fun _ => ?_)
  refine go_a (pc' := 73) (ls' := [some (.ref h.length), some (.int (iI k)), some (.int (iI o)), some (.int (iI c)), none, none, none, none]) (st' := [.ref h.length]) rfl rfl ?_
  refine go_get rfl mh_o rfl rfl ?_
  refine go_a (pc' := 77) (ls' := [some (.ref h.length), some (.int (iI k)), some (.int (iI o)), some (.int (iI c)), none, none, none, none]) (st' := [.int (iI o), .ref (h.length + 1)]) rfl rfl ?_
  refine mi_ild rfl mh_a1 (by omega) (by omega) (by decide) ?_
  refine go_a (pc' := 80) (ls' := [some (.ref h.length), some (.int (iI k)), some (.int (iI o)), some (.int (iI c)), none, none, none, none]) (st' := [.int (iI 42), .int (iI (A 1 o))]) rfl rfl ?_
  refine mi_eq (t := 107) rfl rfl (by omega) (by omega) (by omega) (by omega) (fun q => by omega) (fun _ => ?_)
  refine go_a (pc' := 84) (ls' := [some (.ref h.length), some (.int (iI k)), some (.int (iI o)), some (.int (iI c)), none, none, none, none]) (st' := [.ref h.length]) rfl rfl ?_
  refine go_get rfl mh_o rfl rfl ?_
  refine go_a (pc' := 88) (ls' := [some (.ref h.length), some (.int (iI k)), some (.int (iI o)), some (.int (iI c)), none, none, none, none]) (st' := [.int (iI o), .ref (h.length + 1)]) rfl rfl ?_
  refine mi_ild rfl mh_a1 (by omega) (by omega) (by decide) ?_
  refine go_a (pc' := 91) (ls' := [some (.ref h.length), some (.int (iI k)), some (.int (iI o)), some (.int (iI c)), none, none, none, none]) (st' := [.int (iI 43), .int (iI (A 1 o))]) rfl rfl ?_
  refine mi_eq (t := 107) rfl rfl (by omega) (by omega) (by omega) (by omega) (fun q => by omega) (fun _ => ?_)
  refine go_a (pc' := 95) (ls' := [some (.ref h.length), some (.int (iI k)), some (.int (iI o)), some (.int (iI c)), none, none, none, none]) (st' := [.ref h.length]) rfl rfl ?_
  refine go_a (pc' := 96) (ls' := [some (.ref h.length), some (.int (iI k)), some (.int (iI o)), some (.int (iI c)), none, none, none, none]) (st' := [.ref h.length, .ref h.length]) rfl rfl ?_
  refine go_a (pc' := 97) (ls' := [some (.ref h.length), some (.int (iI k)), some (.int (iI o)), some (.int (iI c)), none, none, none, none]) (st' := [.int (iI o), .ref h.length, .ref h.length]) rfl rfl ?_
  refine go_a (pc' := 98) (ls' := [some (.ref h.length), some (.int (iI k)), some (.int (iI o)), some (.int (iI c)), none, none, none, none]) (st' := [.int (iI 1), .int (iI o), .ref h.length, .ref h.length]) rfl rfl ?_
  have Lxl := isL_extB hP R0.1 2 o o0 o1 hL
  have ixl := it_BX hP R0.1 o0 o1 hL (by decide : 1 < 2)
  refine go_v (m := 99) (as := [.ref h.length, .int (iI o), .int (iI 1)]) (r := [.ref h.length]) rfl rfl rfl mh_o rfl rfl (mm_nth z (d + 9) 1 2 o h R J A N hc PJ (by decide) o0 (by omega) Lxl (by omega)) (fun v h1 hq => ?_)
  obtain ⟨rfl, rfl⟩ := hq
  rw [ixl]
  show xx_go (xt_P z) (d + 10) 154 101 [some (.ref h.length), some (.int (iI k)), some (.int (iI o)), some (.int (iI c)), none, none, none, none] [.int (iI (A 1 (rt A 1 o))), .ref h.length] (mh h R J A N) _
  have wxl := (WD_BX hP R0.1 v1.2.1.1 v1.2.1.2).1
  refine go_v (m := 105) (as := [.ref h.length, .int (iI (A 1 (rt A 1 o)))]) (r := []) rfl rfl rfl mh_o rfl rfl (mr_term z (d + 2) ar (A 1 (rt A 1 o)) h R J A N hc R0.2.1 v1.2.1.1 (by omega) (by omega) (by omega)) (fun v h1 hq => ?_)
  obtain ⟨l, I1, A1, rfl, rfl, R1, K1, ⟨u1, bb1⟩, ht1⟩ := hq
  have tt1 : ((0 ≤ l ∧ l < I1 7) ∧ TZ A1 ar l = TS A ar (A 1 (rt A 1 o))) ∧ (1 ≤ TS A ar (A 1 (rt A 1 o)) ∧ TS A ar (A 1 (rt A 1 o)) ≤ 120) ∧ TS A ar (A 1 (rt A 1 o)) ≤ WD A (A 1 (rt A 1 o)) ∧ NFT A1 (A 1 (rt A 1 o)) l := by
    have tk := TOK_BX hP R0.1 v1.2.1.1 v1.2.1.2 tk1
    rcases ht1 with q | q
    · exact absurd tk q.2
    · have ts := TS_BX (ar := ar) hP R0.1 v1.2.1.1 v1.2.1.2
      rw [ts, wxl] at q
      exact ⟨⟨q.1, q.2.2.2.1⟩, by omega, q.2.2.2.2.1, q.2.2.2.2.2⟩
  obtain ⟨h_l1, sb_l, sw_l, nf_l⟩ := tt1
  have s_l := sb_l.1
  have tm_l := (TQ_tm R0.2.1 T0 v1.2.1.1 (by omega) (show TQ ar (A 1 (rt A 1 o)) l J A N I1 A1 from ⟨bb1, R1.2.1, by have := R1.2.2.1; omega, u1, ht1⟩)).2 (by omega)
  rw [DM_RU hB hX R0 v1.2.1.1 v1.2.1.2] at tm_l
  obtain ⟨tl, et_l1⟩ : ∃ q : ob_T, DM A1 N l = q := ⟨_, rfl⟩
  rw [et_l1] at tm_l
  have tt_l := tm_ts tm_l
  have di1 := DIT_BX R0.2.1 T0.1 D0 bb1 (by unfold FB; omega) (by unfold GT; omega) (by unfold GT; omega) (by unfold FB; omega) (by unfold GT; omega) u1 di0
  clear bb1 ht1
  rw [wxl] at R1
  have D1 := K1 _ _ _ D0
  have P1 := RU_P R1
  have X1 := RU_tr R0 R1 (Int.le_refl _)
  have T1 := BTX_RU R0.2.1 T0 R1
  have y1 := X1.2.2.1
  have z1 : I1 7 ≤ 140000 := P1.1
  have x1 : I 7 ≤ I1 7 := X1.1.2.1
  have ex1 : A1 1 o = A 1 o := (X1.1.2.2.1 o o0 o1).1
  clear T0
  show xx_go (xt_P z) (d + 10) 154 104 [some (.ref h.length), some (.int (iI k)), some (.int (iI o)), some (.int (iI c)), none, none, none, none] [.int (iI l)] (mh h R I1 A1 N) _
  refine go_a (pc' := 108) (ls' := [some (.ref h.length), some (.int (iI k)), some (.int (iI o)), some (.int (iI c)), none, none, none, none]) (st' := [.int (iI l)]) rfl rfl ?_
  refine go_a (pc' := 110) (ls' := [some (.ref h.length), some (.int (iI k)), some (.int (iI o)), some (.int (iI c)), some (.int (iI l)), none, none, none]) (st' := []) rfl rfl ?_
  refine go_a (pc' := 111) (ls' := [some (.ref h.length), some (.int (iI k)), some (.int (iI o)), some (.int (iI c)), some (.int (iI l)), none, none, none]) (st' := [.ref h.length]) rfl rfl ?_
  refine go_get rfl mh_o rfl rfl ?_
  refine go_a (pc' := 115) (ls' := [some (.ref h.length), some (.int (iI k)), some (.int (iI o)), some (.int (iI c)), some (.int (iI l)), none, none, none]) (st' := [.int (iI o), .ref (h.length + 1)]) rfl rfl ?_
  refine mi_ild rfl mh_a1 (by omega) (by omega) (by decide) ?_
  refine go_a (pc' := 118) (ls' := [some (.ref h.length), some (.int (iI k)), some (.int (iI o)), some (.int (iI c)), some (.int (iI l)), none, none, none]) (st' := [.int (iI 32), .int (iI (A1 1 o))]) rfl rfl ?_
  refine mi_lt (t := 145) rfl rfl (by omega) (by omega) (by omega) (by omega) (fun _ => ?_) (fun q => by omega)
  refine go_a (pc' := 146) (ls' := [some (.ref h.length), some (.int (iI k)), some (.int (iI o)), some (.int (iI c)), some (.int (iI l)), none, none, none]) (st' := [.int (iI ((-1)))]) rfl rfl ?_
  refine go_a (pc' := 148) (ls' := [some (.ref h.length), some (.int (iI k)), some (.int (iI o)), some (.int (iI c)), some (.int (iI l)), some (.int (iI ((-1)))), none, none]) (st' := []) rfl rfl ?_
  refine go_a (pc' := 149) (ls' := [some (.ref h.length), some (.int (iI k)), some (.int (iI o)), some (.int (iI c)), some (.int (iI l)), some (.int (iI ((-1)))), none, none]) (st' := [.ref h.length]) rfl rfl ?_
  refine go_get rfl mh_o rfl rfl ?_
  refine go_a (pc' := 153) (ls' := [some (.ref h.length), some (.int (iI k)), some (.int (iI o)), some (.int (iI c)), some (.int (iI l)), some (.int (iI ((-1)))), none, none]) (st' := [.int (iI o), .ref (h.length + 1)]) rfl rfl ?_
  refine mi_ild rfl mh_a1 (by omega) (by omega) (by decide) ?_
  refine go_a (pc' := 156) (ls' := [some (.ref h.length), some (.int (iI k)), some (.int (iI o)), some (.int (iI c)), some (.int (iI l)), some (.int (iI ((-1)))), none, none]) (st' := [.int (iI 35), .int (iI (A1 1 o))]) rfl rfl ?_
  refine mi_eq (t := 170) rfl rfl (by omega) (by omega) (by omega) (by omega) (fun q => by omega) (fun _ => ?_)
  refine go_a (pc' := 160) (ls' := [some (.ref h.length), some (.int (iI k)), some (.int (iI o)), some (.int (iI c)), some (.int (iI l)), some (.int (iI ((-1)))), none, none]) (st' := [.ref h.length]) rfl rfl ?_
  refine go_get rfl mh_o rfl rfl ?_
  refine go_a (pc' := 164) (ls' := [some (.ref h.length), some (.int (iI k)), some (.int (iI o)), some (.int (iI c)), some (.int (iI l)), some (.int (iI ((-1)))), none, none]) (st' := [.int (iI o), .ref (h.length + 1)]) rfl rfl ?_
  refine mi_ild rfl mh_a1 (by omega) (by omega) (by decide) ?_
  refine go_a (pc' := 167) (ls' := [some (.ref h.length), some (.int (iI k)), some (.int (iI o)), some (.int (iI c)), some (.int (iI l)), some (.int (iI ((-1)))), none, none]) (st' := [.int (iI 36), .int (iI (A1 1 o))]) rfl rfl ?_
  refine mi_ne (t := 183) rfl rfl (by omega) (by omega) (by omega) (by omega) (fun _ => ?_) (fun q => by omega)
  refine go_a (pc' := 184) (ls' := [some (.ref h.length), some (.int (iI k)), some (.int (iI o)), some (.int (iI c)), some (.int (iI l)), some (.int (iI ((-1)))), none, none]) (st' := [.int (iI ((-1)))]) rfl rfl ?_
  refine go_a (pc' := 186) (ls' := [some (.ref h.length), some (.int (iI k)), some (.int (iI o)), some (.int (iI c)), some (.int (iI l)), some (.int (iI ((-1)))), some (.int (iI ((-1)))), none]) (st' := []) rfl rfl ?_
  refine go_a (pc' := 187) (ls' := [some (.ref h.length), some (.int (iI k)), some (.int (iI o)), some (.int (iI c)), some (.int (iI l)), some (.int (iI ((-1)))), some (.int (iI ((-1)))), none]) (st' := [.ref h.length]) rfl rfl ?_
  refine go_get rfl mh_o rfl rfl ?_
  refine go_a (pc' := 191) (ls' := [some (.ref h.length), some (.int (iI k)), some (.int (iI o)), some (.int (iI c)), some (.int (iI l)), some (.int (iI ((-1)))), some (.int (iI ((-1)))), none]) (st' := [.int (iI o), .ref (h.length + 1)]) rfl rfl ?_
  refine mi_ild rfl mh_a1 (by omega) (by omega) (by decide) ?_
  rw [ex1]
  refine mi_ts (c := 29) (t := 268) rfl ef rfl ?_
  refine go_a (pc' := 269) (ls' := [some (.ref h.length), some (.int (iI k)), some (.int (iI o)), some (.int (iI c)), some (.int (iI l)), some (.int (iI ((-1)))), some (.int (iI ((-1)))), none]) (st' := [.ref h.length]) rfl rfl ?_
  refine go_a (pc' := 271) (ls' := [some (.ref h.length), some (.int (iI k)), some (.int (iI o)), some (.int (iI c)), some (.int (iI l)), some (.int (iI ((-1)))), some (.int (iI ((-1)))), none]) (st' := [.int (iI l), .ref h.length]) rfl rfl ?_
  refine go_v (m := 155) (as := [.ref h.length, .int (iI l)]) (r := []) rfl rfl rfl mh_o rfl rfl (mr_put z (d + 9) ar 0 0 _ l h R I1 A1 N hc X1.2.1 T1.1 D1 (by omega) h_l1.1.1 h_l1.1.2 (by rw [h_l1.2]; exact s_l) (fun _ => by rw [h_l1.2]; omega)) (fun v h1 hq => ?_)
  obtain ⟨rfl, I2, A2, rfl, R2, D2, u2, e2, jj2⟩ := hq
  have di2 := jj2 _ _ (DIM_have (x := l) di1)
  rw [et_l1] at di2
  rw [h_l1.2] at D2
  have P2 := RU_P R2
  have X2 := RU_tr X1 R2 (Int.le_refl _)
  have T2 := BTX_RU X1.2.1 T1 R2
  have et_l2 := (DM_RU X1.2.1 T1 R2 h_l1.1.1 h_l1.1.2).trans et_l1
  have h_l2 := RU_carry P1 R2 h_l1 s_l
  have y2 := X2.2.2.1
  have z2 : I2 7 ≤ 140000 := P2.1
  have x2 : I 7 ≤ I2 7 := X2.1.2.1
  have ex2 : A2 1 o = A 1 o := (X2.1.2.2.1 o o0 o1).1
  clear et_l1 T1 h_l1 y1 z1 x1 ex1
  show xx_go (xt_P z) (d + 10) 154 274 [some (.ref h.length), some (.int (iI k)), some (.int (iI o)), some (.int (iI c)), some (.int (iI l)), some (.int (iI ((-1)))), some (.int (iI ((-1)))), none] [] (mh h R I2 A2 N) _
  refine go_a (pc' := 275) (ls' := [some (.ref h.length), some (.int (iI k)), some (.int (iI o)), some (.int (iI c)), some (.int (iI l)), some (.int (iI ((-1)))), some (.int (iI ((-1)))), none]) (st' := [.ref h.length]) rfl rfl ?_
  refine go_a (pc' := 276) (ls' := [some (.ref h.length), some (.int (iI k)), some (.int (iI o)), some (.int (iI c)), some (.int (iI l)), some (.int (iI ((-1)))), some (.int (iI ((-1)))), none]) (st' := [.ref h.length, .ref h.length]) rfl rfl ?_
  refine go_a (pc' := 278) (ls' := [some (.ref h.length), some (.int (iI k)), some (.int (iI o)), some (.int (iI c)), some (.int (iI l)), some (.int (iI ((-1)))), some (.int (iI ((-1)))), none]) (st' := [.int (iI l), .ref h.length, .ref h.length]) rfl rfl ?_
  refine go_v (m := 125) (as := [.ref h.length, .int (iI l)]) (r := [.ref h.length]) rfl rfl rfl mh_o rfl rfl (mr_not z (d + 3) ar l h R I2 A2 N hc X2.2.1 T2.1 (TS_pq (TS_of X2.2.1 T2 h_l2.1.1 h_l2.1.2 et_l2 tt_l)) h_l2.1.1 h_l2.1.2 (by rw [h_l2.2]; exact s_l) (Or.inl (by rw [h_l2.2]; omega)) (by omega)) (fun v h1 hq => ?_)
  obtain ⟨q, I3, A3, rfl, rfl, R3, K3, tv3, tb3, te3, dt3, dj3⟩ := hq
  rw [h_l2.2] at te3
  rw [et_l2] at dt3 dj3
  have et_q3 := dt3
  have di3 : DIM _ (sp_opO (sp_not tl)) _ _ _ _ := dj3 _ _ _ _ D2 di2
  have D3 := K3 _ _ _ D2
  obtain ⟨szq, hszq⟩ : ∃ x : Int, TZ A3 ar q = x := ⟨_, rfl⟩
  have h_q3 : (0 ≤ q ∧ q < I3 7) ∧ TZ A3 ar q = szq := ⟨tv3.1, hszq⟩
  have s_q : 1 ≤ szq := by rw [← hszq]; exact tv3.2
  rw [hszq] at te3 tb3
  have P3 := RU_P R3
  have X3 := RU_tr X2 R3 (Int.le_refl _)
  have T3 := BTX_RU X2.2.1 T2 R3
  have et_l3 := (DM_RU X2.2.1 T2 R3 h_l2.1.1 h_l2.1.2).trans et_l2
  have h_l3 := RU_carry P2 R3 h_l2 s_l
  have y3 := X3.2.2.1
  have z3 : I3 7 ≤ 140000 := P3.1
  have x3 : I 7 ≤ I3 7 := X3.1.2.1
  have ex3 : A3 1 o = A 1 o := (X3.1.2.2.1 o o0 o1).1
  clear et_l2 T2 h_l2 y2 z2 x2 ex2
  show xx_go (xt_P z) (d + 10) 154 281 [some (.ref h.length), some (.int (iI k)), some (.int (iI o)), some (.int (iI c)), some (.int (iI l)), some (.int (iI ((-1)))), some (.int (iI ((-1)))), none] [.int (iI q), .ref h.length] (mh h R I3 A3 N) _
  refine go_v (m := 155) (as := [.ref h.length, .int (iI q)]) (r := []) rfl rfl rfl mh_o rfl rfl (mr_put z (d + 9) ar (0 + 1) (0 + TS A ar (A 1 (rt A 1 o))) _ q h R I3 A3 N hc X3.2.1 T3.1 D3 (by omega) h_q3.1.1 h_q3.1.2 (by rw [h_q3.2]; exact s_q) (fun b => by rw [h_q3.2]; exact tb3 b)) (fun v h1 hq => ?_)
  obtain ⟨rfl, I4, A4, rfl, R4, D4, u4, e4, jj4⟩ := hq
  have di4 := jj4 _ _ di3
  rw [h_q3.2] at D4
  have P4 := RU_P R4
  have X4 := RU_tr X3 R4 (Int.le_refl _)
  have T4 := BTX_RU X3.2.1 T3 R4
  have et_l4 := (DM_RU X3.2.1 T3 R4 h_l3.1.1 h_l3.1.2).trans et_l3
  have et_q4 := (DM_RU X3.2.1 T3 R4 h_q3.1.1 h_q3.1.2).trans et_q3
  have h_l4 := RU_carry P3 R4 h_l3 s_l
  have h_q4 := RU_carry P3 R4 h_q3 s_q
  have y4 := X4.2.2.1
  have z4 : I4 7 ≤ 140000 := P4.1
  have x4 : I 7 ≤ I4 7 := X4.1.2.1
  have ex4 : A4 1 o = A 1 o := (X4.1.2.2.1 o o0 o1).1
  clear et_l3 et_q3 T3 h_l3 h_q3 y3 z3 x3 ex3
  show xx_go (xt_P z) (d + 10) 154 284 [some (.ref h.length), some (.int (iI k)), some (.int (iI o)), some (.int (iI c)), some (.int (iI l)), some (.int (iI ((-1)))), some (.int (iI ((-1)))), none] [] (mh h R I4 A4 N) _
  refine go_a (pc' := 285) (ls' := [some (.ref h.length), some (.int (iI k)), some (.int (iI o)), some (.int (iI c)), some (.int (iI l)), some (.int (iI ((-1)))), some (.int (iI ((-1)))), none]) (st' := [.int (iI 1)]) rfl rfl ?_
  refine go_r rfl rfl rfl rfl rfl rfl ⟨1, I4, A4, N, rfl, rfl, RU_w X4 (by omega), Or.inr ⟨rfl, ⟨_, di4, hρ tl tm_l⟩, _, _, DR_w D4 (by omega) (Int.le_refl _) (Int.le_refl _), fun b9 b30 b400 => ?_⟩⟩
  have dm := D4.1
  have ds := D4.2.2.1
  have dv := D4.2.2.2
  have kk : KDR dd I4 A4 ar ≤ E + 128 * WD A o - I4 7 := KK_taut (w := WD A (A 1 (rt A 1 o))) d0 (by omega) (by omega) v1.2.2.1 (by omega)
  omega
set_option maxRecDepth 4000 in
theorem mm_con_same (z : Value) (d : Nat) (ar : Int → Int) (ft : Nat → Int) (Fb : List (Nat × List Nat × ob_T)) (Tb : List (Nat × ob_T)) (ρ : Option (List ob_T)) (k o c E dd : Int) (h R : xx_H) (I : Nat → Int) (A : Nat → Int → Int) (N : Int → Int) (hc : 12 ≤ h.length) (hB : BI ar I A N) (k0 : 0 ≤ k) (k1 : k < 40) (ek : A 47 k = o) (o0 : 0 ≤ o) (o1 : o < I 7) (hF : FORM ar I A N o) (ec : A 49 k = c) (c0 : 0 ≤ c) (w : WD A o ≤ 1000) (hE : E + 128 * WD A o ≤ 140000) (d0 : 0 ≤ dd) (d1 : dd ≤ 39) (c9 : Int) (hcf : CFX ar I A o c9) (hX : BTX ar ft Fb Tb I A N) (w0 : I 49 = 0) (ef : A 1 o = 30) (hU : I 7 ≤ E + c9) (hρ : ∀ l : ob_T, sp_tm ft (DM A N (A 1 (rt A 1 o))) = some l → ρ = sp_cz [sp_opO (sp_eq l l)]) : xx_cl (xt_P z) (d + 11) 154 [.ref h.length, .int (iI k)] (mh h R I A N) (fun v h1 => ∃ (b : Int) (I1 : Nat → Int) (A1 : Nat → Int → Int) (N1 : Int → Int), v = some (.int (iI b)) ∧ h1 = mh h R I1 A1 N1 ∧ RU ar 140000 I A N I1 A1 N1 ∧ ((b = 0 ∧ ρ = none) ∨ (b = 1 ∧ (∃ its : List (Option ob_T), DIT its I1 A1 N1 ∧ ρ = sp_cz its) ∧ ∃ S V : Int, DR ar 1190 S V I1 A1 ∧ (I1 49 = 0 → I1 67 ≤ 30 → SG (TZ A1 ar) (A1 38) (I1 67).toNat ≤ 400 → I1 7 + KDR dd I1 A1 ar ≤ E + 128 * WD A o)))) := by
  have hP := BI_P hB
  have n0 := BI_n0 hB
  have p9 := hP.1
  have nm := hB.1.2.1.1
  have n2 : A 1 2 < 0 := by rw [hB.1.2.1.2 2 (by decide) (by decide)]; decide
  obtain ⟨n, hL, n1, hF⟩ := hF
  have en : n = 2 ∧ TOK A ar (A 1 (rt A 1 o)) := by
    rcases hF with q | q | q | q | q | q | q | q | q | q | q | q
    · exact ⟨q.2.1, q.2.2⟩
    · omega
    · omega
    · omega
    · omega
    · omega
    · omega
    · omega
    · omega
    · omega
    · omega
    · omega
  obtain ⟨rfl, tk1⟩ := en
  have wo := WD_pair hP o0 o1 (by omega)
  rw [if_neg (fun q => absurd q.1 (by omega))] at wo
  have v0 := VD_rt hP o0 o1 hL (by decide : 0 < 2)
  have v0e : VD A o = WD A (A 1 o) + VD A (rt A 1 o) := v0.1
  have wr : WD A (A 1 o) = 1 := WD_atom (by rw [hB.1.2.1.2 _ (by omega) (by omega)]; decide)
  have v1 := VD_rt hP o0 o1 hL (by decide : 1 < 2)
  have v1e : VD A (rt A 1 o) = WD A (A 1 (rt A 1 o)) + VD A (rt A 2 o) := v1.1
  have vz : VD A (rt A 2 o) = 0 := by rw [isL_end 2 o hL, VD_atom n0, if_pos rfl]
  have cf := hcf.2 (by omega)
  have cf2 := cf.2.1 (by omega)
  refine cl_go rfl ?_
  show xx_go (xt_P z) (d + 10) 154 0 [some (.ref h.length), some (.int (iI k)), none, none, none, none, none, none] [] (mh h R I A N) _
  refine go_a (pc' := 1) (ls' := [some (.ref h.length), some (.int (iI k)), none, none, none, none, none, none]) (st' := [.ref h.length]) rfl rfl ?_
  refine go_get rfl mh_o rfl rfl ?_
  refine go_a (pc' := 5) (ls' := [some (.ref h.length), some (.int (iI k)), none, none, none, none, none, none]) (st' := [.int (iI k), .ref (h.length + 47)]) rfl rfl ?_
  refine mi_ild rfl mh_a47 (by omega) (by omega) (by decide) ?_
  rw [ek]
  refine go_a (pc' := 7) (ls' := [some (.ref h.length), some (.int (iI k)), some (.int (iI o)), none, none, none, none, none]) (st' := []) rfl rfl ?_
  refine go_a (pc' := 8) (ls' := [some (.ref h.length), some (.int (iI k)), some (.int (iI o)), none, none, none, none, none]) (st' := [.ref h.length]) rfl rfl ?_
  refine go_get rfl mh_o rfl rfl ?_
  refine go_a (pc' := 12) (ls' := [some (.ref h.length), some (.int (iI k)), some (.int (iI o)), none, none, none, none, none]) (st' := [.int (iI k), .ref (h.length + 49)]) rfl rfl ?_
  refine mi_ild rfl mh_a49 (by omega) (by omega) (by decide) ?_
  rw [ec]
  refine go_a (pc' := 14) (ls' := [some (.ref h.length), some (.int (iI k)), some (.int (iI o)), some (.int (iI c)), none, none, none, none]) (st' := []) rfl rfl ?_
  refine go_a (pc' := 15) (ls' := [some (.ref h.length), some (.int (iI k)), some (.int (iI o)), some (.int (iI c)), none, none, none, none]) (st' := [.ref h.length]) rfl rfl ?_
  refine go_a (pc' := 16) (ls' := [some (.ref h.length), some (.int (iI k)), some (.int (iI o)), some (.int (iI c)), none, none, none, none]) (st' := [.int (iI 0), .ref h.length]) rfl rfl ?_
  refine go_put (j := 67) rfl mh_o rfl rfl (show 12 ≤ _ from hc) (show 67 < 86 by decide) rfl rfl ?_
  rw [mh_p67]
  obtain ⟨J, hJ⟩ : ∃ J : Nat → Int, J = su I 67 0 := ⟨_, rfl⟩
  rw [← hJ]
  have bJ : BX (fun j => j = 67) NO I A N J A N := by
    subst hJ
    exact BX_of hB.1.1 (fun j q => su_ne q) (fun a _ => rfl) rfl rfl rfl rfl rfl rfl rfl rfl rfl rfl
  have J7 : J 7 = I 7 := by subst hJ; rfl
  have J49 : J 49 = I 49 := by subst hJ; rfl
  have R0 : RU ar 0 I A N J A N := RU_of hB bJ (fun j q => by subst q; unfold FC; omega) (fun a q => absurd q (fun z => z)) (SZI_124 (A := A) (A1 := A) hB.1.2.2 rfl rfl rfl J7) (by subst hJ; rfl) (by subst hJ; rfl) (by rw [J49]; exact hB.2.2.2.2) (by omega) (fun _ => J49)
  have D0 : DR ar 0 0 0 J A := by subst hJ; exact DR_00
  have PJ := RU_P R0
  have T0 : BTX ar ft Fb Tb J A N := BTX_RU hB hX R0
  have di0 : DIT [] J A N := by
    subst hJ
    exact Or.inl ⟨w0, rfl⟩
  refine go_a (pc' := 20) (ls' := [some (.ref h.length), some (.int (iI k)), some (.int (iI o)), some (.int (iI c)), none, none, none, none]) (st' := [.ref h.length]) rfl rfl ?_
  refine go_a (pc' := 21) (ls' := [some (.ref h.length), some (.int (iI k)), some (.int (iI o)), some (.int (iI c)), none, none, none, none]) (st' := [.int (iI o), .ref h.length]) rfl rfl ?_
  refine go_v (m := 98) (as := [.ref h.length, .int (iI o)]) (r := []) rfl rfl rfl mh_o rfl rfl (mm_lenL z (d + 8) 2 o h R J A N hc PJ n0 o0 (by omega) hL) (fun v h1 hq => ?_)
  obtain ⟨rfl, rfl⟩ := hq
  show xx_go (xt_P z) (d + 10) 154 24 [some (.ref h.length), some (.int (iI k)), some (.int (iI o)), some (.int (iI c)), none, none, none, none] [.int (iI (((2 : Nat) : Int)))] (mh h R J A N) _
  refine go_a (pc' := 25) (ls' := [some (.ref h.length), some (.int (iI k)), some (.int (iI o)), some (.int (iI c)), none, none, none, none]) (st' := [.int (iI 1), .int (iI (((2 : Nat) : Int)))]) rfl rfl ?_
  refine mi_le (t := 107) rfl rfl (by omega) (by omega) (by omega) (by omega) (fun q => by omega) (fun _ => ?_)
  refine go_a (pc' := 29) (ls' := [some (.ref h.length), some (.int (iI k)), some (.int (iI o)), some (.int (iI c)), none, none, none, none]) (st' := [.ref h.length]) rfl rfl ?_
  refine go_get rfl mh_o rfl rfl ?_
  refine go_a (pc' := 33) (ls' := [some (.ref h.length), some (.int (iI k)), some (.int (iI o)), some (.int (iI c)), none, none, none, none]) (st' := [.int (iI o), .ref (h.length + 1)]) rfl rfl ?_
  refine mi_ild rfl mh_a1 (by omega) (by omega) (by decide) ?_
  refine go_a (pc' := 36) (ls' := [some (.ref h.length), some (.int (iI k)), some (.int (iI o)), some (.int (iI c)), none, none, none, none]) (st' := [.int (iI 37), .int (iI (A 1 o))]) rfl rfl ?_
  refine mi_eq (t := 107) rfl rfl (by omega) (by omega) (by omega) (by omega) (fun q => by omega) (fun _ => ?_)
  refine go_a (pc' := 40) (ls' := [some (.ref h.length), some (.int (iI k)), some (.int (iI o)), some (.int (iI c)), none, none, none, none]) (st' := [.ref h.length]) rfl rfl ?_
  refine go_get rfl mh_o rfl rfl ?_
  refine go_a (pc' := 44) (ls' := [some (.ref h.length), some (.int (iI k)), some (.int (iI o)), some (.int (iI c)), none, none, none, none]) (st' := [.int (iI o), .ref (h.length + 1)]) rfl rfl ?_
  refine mi_ild rfl mh_a1 (by omega) (by omega) (by decide) ?_
  refine go_a (pc' := 47) (ls' := [some (.ref h.length), some (.int (iI k)), some (.int (iI o)), some (.int (iI c)), none, none, none, none]) (st' := [.int (iI 38), .int (iI (A 1 o))]) rfl rfl ?_
  refine mi_eq (t := 107) rfl rfl (by omega) (by omega) (by omega) (by omega) (fun q => by omega) (fun _ => ?_)
  refine go_a (pc' := 51) (ls' := [some (.ref h.length), some (.int (iI k)), some (.int (iI o)), some (.int (iI c)), none, none, none, none]) (st' := [.ref h.length]) rfl rfl ?_
  refine go_get rfl mh_o rfl rfl ?_
  refine go_a (pc' := 55) (ls' := [some (.ref h.length), some (.int (iI k)), some (.int (iI o)), some (.int (iI c)), none, none, none, none]) (st' := [.int (iI o), .ref (h.length + 1)]) rfl rfl ?_
  refine mi_ild rfl mh_a1 (by omega) (by omega) (by decide) ?_
  refine go_a (pc' := 58) (ls' := [some (.ref h.length), some (.int (iI k)), some (.int (iI o)), some (.int (iI c)), none, none, none, none]) (st' := [.int (iI 39), .int (iI (A 1 o))]) rfl rfl ?_
  refine mi_eq (t := 107) rfl rfl (by omega) (by omega) (by omega) (by omega) (fun q => by omega) (fun _ => ?_)
  refine go_a (pc' := 62) (ls' := [some (.ref h.length), some (.int (iI k)), some (.int (iI o)), some (.int (iI c)), none, none, none, none]) (st' := [.ref h.length]) rfl rfl ?_
  refine go_get rfl mh_o rfl rfl ?_
  refine go_a (pc' := 66) (ls' := [some (.ref h.length), some (.int (iI k)), some (.int (iI o)), some (.int (iI c)), none, none, none, none]) (st' := [.int (iI o), .ref (h.length + 1)]) rfl rfl ?_
  refine mi_ild rfl mh_a1 (by omega) (by omega) (by decide) ?_
  refine go_a (pc' := 69) (ls' := [some (.ref h.length), some (.int (iI k)), some (.int (iI o)), some (.int (iI c)), none, none, none, none]) (st' := [.int (iI 41), .int (iI (A 1 o))]) rfl rfl ?_
  refine mi_eq (t := 107) rfl rfl (by omega) (by omega) (by omega) (by omega) (fun q => by omega) (fun _ => ?_)
  refine go_a (pc' := 73) (ls' := [some (.ref h.length), some (.int (iI k)), some (.int (iI o)), some (.int (iI c)), none, none, none, none]) (st' := [.ref h.length]) rfl rfl ?_
  refine go_get rfl mh_o rfl rfl ?_
  refine go_a (pc' := 77) (ls' := [some (.ref h.length), some (.int (iI k)), some (.int (iI o)), some (.int (iI c)), none, none, none, none]) (st' := [.int (iI o), .ref (h.length + 1)]) rfl rfl ?_
  refine mi_ild rfl mh_a1 (by omega) (by omega) (by decide) ?_
  refine go_a (pc' := 80) (ls' := [some (.ref h.length), some (.int (iI k)), some (.int (iI o)), some (.int (iI c)), none, none, none, none]) (st' := [.int (iI 42), .int (iI (A 1 o))]) rfl rfl ?_
  refine mi_eq (t := 107) rfl rfl (by omega) (by omega) (by omega) (by omega) (fun q => by omega) (fun _ => ?_)
  refine go_a (pc' := 84) (ls' := [some (.ref h.length), some (.int (iI k)), some (.int (iI o)), some (.int (iI c)), none, none, none, none]) (st' := [.ref h.length]) rfl rfl ?_
  refine go_get rfl mh_o rfl rfl ?_
  refine go_a (pc' := 88) (ls' := [some (.ref h.length), some (.int (iI k)), some (.int (iI o)), some (.int (iI c)), none, none, none, none]) (st' := [.int (iI o), .ref (h.length + 1)]) rfl rfl ?_
  refine mi_ild rfl mh_a1 (by omega) (by omega) (by decide) ?_
  refine go_a (pc' := 91) (ls' := [some (.ref h.length), some (.int (iI k)), some (.int (iI o)), some (.int (iI c)), none, none, none, none]) (st' := [.int (iI 43), .int (iI (A 1 o))]) rfl rfl ?_
  refine mi_eq (t := 107) rfl rfl (by omega) (by omega) (by omega) (by omega) (fun q => by omega) (fun _ => ?_)
  refine go_a (pc' := 95) (ls' := [some (.ref h.length), some (.int (iI k)), some (.int (iI o)), some (.int (iI c)), none, none, none, none]) (st' := [.ref h.length]) rfl rfl ?_
  refine go_a (pc' := 96) (ls' := [some (.ref h.length), some (.int (iI k)), some (.int (iI o)), some (.int (iI c)), none, none, none, none]) (st' := [.ref h.length, .ref h.length]) rfl rfl ?_
  refine go_a (pc' := 97) (ls' := [some (.ref h.length), some (.int (iI k)), some (.int (iI o)), some (.int (iI c)), none, none, none, none]) (st' := [.int (iI o), .ref h.length, .ref h.length]) rfl rfl ?_
  refine go_a (pc' := 98) (ls' := [some (.ref h.length), some (.int (iI k)), some (.int (iI o)), some (.int (iI c)), none, none, none, none]) (st' := [.int (iI 1), .int (iI o), .ref h.length, .ref h.length]) rfl rfl ?_
  have Lxl := isL_extB hP R0.1 2 o o0 o1 hL
  have ixl := it_BX hP R0.1 o0 o1 hL (by decide : 1 < 2)
  refine go_v (m := 99) (as := [.ref h.length, .int (iI o), .int (iI 1)]) (r := [.ref h.length]) rfl rfl rfl mh_o rfl rfl (mm_nth z (d + 9) 1 2 o h R J A N hc PJ (by decide) o0 (by omega) Lxl (by omega)) (fun v h1 hq => ?_)
  obtain ⟨rfl, rfl⟩ := hq
  rw [ixl]
  show xx_go (xt_P z) (d + 10) 154 101 [some (.ref h.length), some (.int (iI k)), some (.int (iI o)), some (.int (iI c)), none, none, none, none] [.int (iI (A 1 (rt A 1 o))), .ref h.length] (mh h R J A N) _
  have wxl := (WD_BX hP R0.1 v1.2.1.1 v1.2.1.2).1
  refine go_v (m := 105) (as := [.ref h.length, .int (iI (A 1 (rt A 1 o)))]) (r := []) rfl rfl rfl mh_o rfl rfl (mr_term z (d + 2) ar (A 1 (rt A 1 o)) h R J A N hc R0.2.1 v1.2.1.1 (by omega) (by omega) (by omega)) (fun v h1 hq => ?_)
  obtain ⟨l, I1, A1, rfl, rfl, R1, K1, ⟨u1, bb1⟩, ht1⟩ := hq
  have tt1 : ((0 ≤ l ∧ l < I1 7) ∧ TZ A1 ar l = TS A ar (A 1 (rt A 1 o))) ∧ (1 ≤ TS A ar (A 1 (rt A 1 o)) ∧ TS A ar (A 1 (rt A 1 o)) ≤ 120) ∧ TS A ar (A 1 (rt A 1 o)) ≤ WD A (A 1 (rt A 1 o)) ∧ NFT A1 (A 1 (rt A 1 o)) l := by
    have tk := TOK_BX hP R0.1 v1.2.1.1 v1.2.1.2 tk1
    rcases ht1 with q | q
    · exact absurd tk q.2
    · have ts := TS_BX (ar := ar) hP R0.1 v1.2.1.1 v1.2.1.2
      rw [ts, wxl] at q
      exact ⟨⟨q.1, q.2.2.2.1⟩, by omega, q.2.2.2.2.1, q.2.2.2.2.2⟩
  obtain ⟨h_l1, sb_l, sw_l, nf_l⟩ := tt1
  have s_l := sb_l.1
  have tm_l := (TQ_tm R0.2.1 T0 v1.2.1.1 (by omega) (show TQ ar (A 1 (rt A 1 o)) l J A N I1 A1 from ⟨bb1, R1.2.1, by have := R1.2.2.1; omega, u1, ht1⟩)).2 (by omega)
  rw [DM_RU hB hX R0 v1.2.1.1 v1.2.1.2] at tm_l
  obtain ⟨tl, et_l1⟩ : ∃ q : ob_T, DM A1 N l = q := ⟨_, rfl⟩
  rw [et_l1] at tm_l
  have tt_l := tm_ts tm_l
  have di1 := DIT_BX R0.2.1 T0.1 D0 bb1 (by unfold FB; omega) (by unfold GT; omega) (by unfold GT; omega) (by unfold FB; omega) (by unfold GT; omega) u1 di0
  clear bb1 ht1
  rw [wxl] at R1
  have D1 := K1 _ _ _ D0
  have P1 := RU_P R1
  have X1 := RU_tr R0 R1 (Int.le_refl _)
  have T1 := BTX_RU R0.2.1 T0 R1
  have y1 := X1.2.2.1
  have z1 : I1 7 ≤ 140000 := P1.1
  have x1 : I 7 ≤ I1 7 := X1.1.2.1
  have ex1 : A1 1 o = A 1 o := (X1.1.2.2.1 o o0 o1).1
  clear T0
  show xx_go (xt_P z) (d + 10) 154 104 [some (.ref h.length), some (.int (iI k)), some (.int (iI o)), some (.int (iI c)), none, none, none, none] [.int (iI l)] (mh h R I1 A1 N) _
  refine go_a (pc' := 108) (ls' := [some (.ref h.length), some (.int (iI k)), some (.int (iI o)), some (.int (iI c)), none, none, none, none]) (st' := [.int (iI l)]) rfl rfl ?_
  refine go_a (pc' := 110) (ls' := [some (.ref h.length), some (.int (iI k)), some (.int (iI o)), some (.int (iI c)), some (.int (iI l)), none, none, none]) (st' := []) rfl rfl ?_
  refine go_a (pc' := 111) (ls' := [some (.ref h.length), some (.int (iI k)), some (.int (iI o)), some (.int (iI c)), some (.int (iI l)), none, none, none]) (st' := [.ref h.length]) rfl rfl ?_
  refine go_get rfl mh_o rfl rfl ?_
  refine go_a (pc' := 115) (ls' := [some (.ref h.length), some (.int (iI k)), some (.int (iI o)), some (.int (iI c)), some (.int (iI l)), none, none, none]) (st' := [.int (iI o), .ref (h.length + 1)]) rfl rfl ?_
  refine mi_ild rfl mh_a1 (by omega) (by omega) (by decide) ?_
  refine go_a (pc' := 118) (ls' := [some (.ref h.length), some (.int (iI k)), some (.int (iI o)), some (.int (iI c)), some (.int (iI l)), none, none, none]) (st' := [.int (iI 32), .int (iI (A1 1 o))]) rfl rfl ?_
  refine mi_lt (t := 145) rfl rfl (by omega) (by omega) (by omega) (by omega) (fun _ => ?_) (fun q => by omega)
  refine go_a (pc' := 146) (ls' := [some (.ref h.length), some (.int (iI k)), some (.int (iI o)), some (.int (iI c)), some (.int (iI l)), none, none, none]) (st' := [.int (iI ((-1)))]) rfl rfl ?_
  refine go_a (pc' := 148) (ls' := [some (.ref h.length), some (.int (iI k)), some (.int (iI o)), some (.int (iI c)), some (.int (iI l)), some (.int (iI ((-1)))), none, none]) (st' := []) rfl rfl ?_
  refine go_a (pc' := 149) (ls' := [some (.ref h.length), some (.int (iI k)), some (.int (iI o)), some (.int (iI c)), some (.int (iI l)), some (.int (iI ((-1)))), none, none]) (st' := [.ref h.length]) rfl rfl ?_
  refine go_get rfl mh_o rfl rfl ?_
  refine go_a (pc' := 153) (ls' := [some (.ref h.length), some (.int (iI k)), some (.int (iI o)), some (.int (iI c)), some (.int (iI l)), some (.int (iI ((-1)))), none, none]) (st' := [.int (iI o), .ref (h.length + 1)]) rfl rfl ?_
  refine mi_ild rfl mh_a1 (by omega) (by omega) (by decide) ?_
  refine go_a (pc' := 156) (ls' := [some (.ref h.length), some (.int (iI k)), some (.int (iI o)), some (.int (iI c)), some (.int (iI l)), some (.int (iI ((-1)))), none, none]) (st' := [.int (iI 35), .int (iI (A1 1 o))]) rfl rfl ?_
  refine mi_eq (t := 170) rfl rfl (by omega) (by omega) (by omega) (by omega) (fun q => by omega) (fun _ => ?_)
  refine go_a (pc' := 160) (ls' := [some (.ref h.length), some (.int (iI k)), some (.int (iI o)), some (.int (iI c)), some (.int (iI l)), some (.int (iI ((-1)))), none, none]) (st' := [.ref h.length]) rfl rfl ?_
  refine go_get rfl mh_o rfl rfl ?_
  refine go_a (pc' := 164) (ls' := [some (.ref h.length), some (.int (iI k)), some (.int (iI o)), some (.int (iI c)), some (.int (iI l)), some (.int (iI ((-1)))), none, none]) (st' := [.int (iI o), .ref (h.length + 1)]) rfl rfl ?_
  refine mi_ild rfl mh_a1 (by omega) (by omega) (by decide) ?_
  refine go_a (pc' := 167) (ls' := [some (.ref h.length), some (.int (iI k)), some (.int (iI o)), some (.int (iI c)), some (.int (iI l)), some (.int (iI ((-1)))), none, none]) (st' := [.int (iI 36), .int (iI (A1 1 o))]) rfl rfl ?_
  refine mi_ne (t := 183) rfl rfl (by omega) (by omega) (by omega) (by omega) (fun _ => ?_) (fun q => by omega)
  refine go_a (pc' := 184) (ls' := [some (.ref h.length), some (.int (iI k)), some (.int (iI o)), some (.int (iI c)), some (.int (iI l)), some (.int (iI ((-1)))), none, none]) (st' := [.int (iI ((-1)))]) rfl rfl ?_
  refine go_a (pc' := 186) (ls' := [some (.ref h.length), some (.int (iI k)), some (.int (iI o)), some (.int (iI c)), some (.int (iI l)), some (.int (iI ((-1)))), some (.int (iI ((-1)))), none]) (st' := []) rfl rfl ?_
  refine go_a (pc' := 187) (ls' := [some (.ref h.length), some (.int (iI k)), some (.int (iI o)), some (.int (iI c)), some (.int (iI l)), some (.int (iI ((-1)))), some (.int (iI ((-1)))), none]) (st' := [.ref h.length]) rfl rfl ?_
  refine go_get rfl mh_o rfl rfl ?_
  refine go_a (pc' := 191) (ls' := [some (.ref h.length), some (.int (iI k)), some (.int (iI o)), some (.int (iI c)), some (.int (iI l)), some (.int (iI ((-1)))), some (.int (iI ((-1)))), none]) (st' := [.int (iI o), .ref (h.length + 1)]) rfl rfl ?_
  refine mi_ild rfl mh_a1 (by omega) (by omega) (by decide) ?_
  rw [ex1]
  refine mi_ts (c := 30) (t := 286) rfl ef rfl ?_
  refine go_a (pc' := 287) (ls' := [some (.ref h.length), some (.int (iI k)), some (.int (iI o)), some (.int (iI c)), some (.int (iI l)), some (.int (iI ((-1)))), some (.int (iI ((-1)))), none]) (st' := [.ref h.length]) rfl rfl ?_
  refine go_a (pc' := 288) (ls' := [some (.ref h.length), some (.int (iI k)), some (.int (iI o)), some (.int (iI c)), some (.int (iI l)), some (.int (iI ((-1)))), some (.int (iI ((-1)))), none]) (st' := [.ref h.length, .ref h.length]) rfl rfl ?_
  refine go_a (pc' := 289) (ls' := [some (.ref h.length), some (.int (iI k)), some (.int (iI o)), some (.int (iI c)), some (.int (iI l)), some (.int (iI ((-1)))), some (.int (iI ((-1)))), none]) (st' := [.int (iI 4), .ref h.length, .ref h.length]) rfl rfl ?_
  refine go_a (pc' := 291) (ls' := [some (.ref h.length), some (.int (iI k)), some (.int (iI o)), some (.int (iI c)), some (.int (iI l)), some (.int (iI ((-1)))), some (.int (iI ((-1)))), none]) (st' := [.int (iI l), .int (iI 4), .ref h.length, .ref h.length]) rfl rfl ?_
  refine go_a (pc' := 293) (ls' := [some (.ref h.length), some (.int (iI k)), some (.int (iI o)), some (.int (iI c)), some (.int (iI l)), some (.int (iI ((-1)))), some (.int (iI ((-1)))), none]) (st' := [.int (iI l), .int (iI l), .int (iI 4), .ref h.length, .ref h.length]) rfl rfl ?_
  refine go_v (m := 156) (as := [.ref h.length, .int (iI 4), .int (iI l), .int (iI l)]) (r := [.ref h.length]) rfl rfl rfl mh_o rfl rfl (mr_two z (d + 3) ar 4 l l h R I1 A1 N hc X1.2.1 T1.1 (by decide) (by omega) (by decide) (by omega) h_l1.1.1 h_l1.1.2 (by rw [h_l1.2]; exact s_l) h_l1.1.1 h_l1.1.2 (by rw [h_l1.2]; exact s_l) (X1.2.1.2.1.1.1.2.1 4 (by decide) (by decide)).symm) (fun v h1 hq => ?_)
  obtain ⟨q, I2, A2, rfl, rfl, R2, K2, tv2, tb2, te2, dt2, dj2⟩ := hq
  rw [(show DM A1 N 4 = .var 26209844 from T1.1.2 4 (by decide)), et_l1] at dt2 dj2
  have et_q2 : DM A2 N q = sp_c2 26209844 tl tl := dt2
  have di2 : DIM _ (sp_opO (sp_c2 26209844 tl tl)) _ _ _ _ := dj2 _ _ _ _ D1 di1
  rw [h_l1.2] at te2
  have D2 := K2 _ _ _ D1
  have h_q2 : (0 ≤ q ∧ q < I2 7) ∧ TZ A2 ar q = 1 + TS A ar (A 1 (rt A 1 o)) + TS A ar (A 1 (rt A 1 o)) := ⟨tv2.1, te2⟩
  have s_q : 1 ≤ 1 + TS A ar (A 1 (rt A 1 o)) + TS A ar (A 1 (rt A 1 o)) := by rw [← te2]; exact tv2.2
  have P2 := RU_P R2
  have X2 := RU_tr X1 R2 (Int.le_refl _)
  have T2 := BTX_RU X1.2.1 T1 R2
  have et_l2 := (DM_RU X1.2.1 T1 R2 h_l1.1.1 h_l1.1.2).trans et_l1
  have h_l2 := RU_carry P1 R2 h_l1 s_l
  have y2 := X2.2.2.1
  have z2 : I2 7 ≤ 140000 := P2.1
  have x2 : I 7 ≤ I2 7 := X2.1.2.1
  have ex2 : A2 1 o = A 1 o := (X2.1.2.2.1 o o0 o1).1
  clear et_l1 T1 h_l1 y1 z1 x1 ex1
  show xx_go (xt_P z) (d + 10) 154 296 [some (.ref h.length), some (.int (iI k)), some (.int (iI o)), some (.int (iI c)), some (.int (iI l)), some (.int (iI ((-1)))), some (.int (iI ((-1)))), none] [.int (iI q), .ref h.length] (mh h R I2 A2 N) _
  refine go_v (m := 155) (as := [.ref h.length, .int (iI q)]) (r := []) rfl rfl rfl mh_o rfl rfl (mr_put z (d + 9) ar 0 0 _ q h R I2 A2 N hc X2.2.1 T2.1 D2 (by omega) h_q2.1.1 h_q2.1.2 (by rw [h_q2.2]; exact s_q) (fun b => by rw [h_q2.2]; have := tb2 b; rw [te2] at this; exact this)) (fun v h1 hq => ?_)
  obtain ⟨rfl, I3, A3, rfl, R3, D3, u3, e3, jj3⟩ := hq
  have di3 := jj3 _ _ di2
  rw [h_q2.2] at D3
  have P3 := RU_P R3
  have X3 := RU_tr X2 R3 (Int.le_refl _)
  have T3 := BTX_RU X2.2.1 T2 R3
  have et_l3 := (DM_RU X2.2.1 T2 R3 h_l2.1.1 h_l2.1.2).trans et_l2
  have et_q3 := (DM_RU X2.2.1 T2 R3 h_q2.1.1 h_q2.1.2).trans et_q2
  have h_l3 := RU_carry P2 R3 h_l2 s_l
  have h_q3 := RU_carry P2 R3 h_q2 s_q
  have y3 := X3.2.2.1
  have z3 : I3 7 ≤ 140000 := P3.1
  have x3 : I 7 ≤ I3 7 := X3.1.2.1
  have ex3 : A3 1 o = A 1 o := (X3.1.2.2.1 o o0 o1).1
  clear et_l2 et_q2 T2 h_l2 h_q2 y2 z2 x2 ex2
  show xx_go (xt_P z) (d + 10) 154 299 [some (.ref h.length), some (.int (iI k)), some (.int (iI o)), some (.int (iI c)), some (.int (iI l)), some (.int (iI ((-1)))), some (.int (iI ((-1)))), none] [] (mh h R I3 A3 N) _
  refine go_a (pc' := 300) (ls' := [some (.ref h.length), some (.int (iI k)), some (.int (iI o)), some (.int (iI c)), some (.int (iI l)), some (.int (iI ((-1)))), some (.int (iI ((-1)))), none]) (st' := [.int (iI 1)]) rfl rfl ?_
  refine go_r rfl rfl rfl rfl rfl rfl ⟨1, I3, A3, N, rfl, rfl, RU_w X3 (by omega), Or.inr ⟨rfl, ⟨_, di3, hρ tl tm_l⟩, _, _, DR_w D3 (by omega) (Int.le_refl _) (Int.le_refl _), fun b9 b30 b400 => ?_⟩⟩
  have dm := D3.1
  have ds := D3.2.2.1
  have dv := D3.2.2.2
  have kk : KDR dd I3 A3 ar ≤ E + 128 * WD A o - I3 7 := KK_one (by omega) (by omega)
  omega
set_option maxRecDepth 4000 in
theorem mm_con_first (z : Value) (d : Nat) (ar : Int → Int) (ft : Nat → Int) (Fb : List (Nat × List Nat × ob_T)) (Tb : List (Nat × ob_T)) (ρ : Option (List ob_T)) (k o c E dd : Int) (h R : xx_H) (I : Nat → Int) (A : Nat → Int → Int) (N : Int → Int) (hc : 12 ≤ h.length) (hB : BI ar I A N) (k0 : 0 ≤ k) (k1 : k < 40) (ek : A 47 k = o) (o0 : 0 ≤ o) (o1 : o < I 7) (hF : FORM ar I A N o) (ec : A 49 k = c) (c0 : 0 ≤ c) (w : WD A o ≤ 1000) (hE : E + 128 * WD A o ≤ 140000) (d0 : 0 ≤ dd) (d1 : dd ≤ 39) (c9 : Int) (hcf : CFX ar I A o c9) (hX : BTX ar ft Fb Tb I A N) (w0 : I 49 = 0) (ef : A 1 o = 32) (hU : I 7 ≤ E + c9) (hρ : ∀ l m : ob_T, sp_tm ft (DM A N (A 1 (rt A 1 o))) = some l → sp_tm ft (DM A N (A 1 (rt A 2 o))) = some m → ρ = sp_cz [sp_opO (sp_eq (sp_c1 6692 (sp_c2 345281 l m)) l)]) : xx_cl (xt_P z) (d + 11) 154 [.ref h.length, .int (iI k)] (mh h R I A N) (fun v h1 => ∃ (b : Int) (I1 : Nat → Int) (A1 : Nat → Int → Int) (N1 : Int → Int), v = some (.int (iI b)) ∧ h1 = mh h R I1 A1 N1 ∧ RU ar 140000 I A N I1 A1 N1 ∧ ((b = 0 ∧ ρ = none) ∨ (b = 1 ∧ (∃ its : List (Option ob_T), DIT its I1 A1 N1 ∧ ρ = sp_cz its) ∧ ∃ S V : Int, DR ar 1190 S V I1 A1 ∧ (I1 49 = 0 → I1 67 ≤ 30 → SG (TZ A1 ar) (A1 38) (I1 67).toNat ≤ 400 → I1 7 + KDR dd I1 A1 ar ≤ E + 128 * WD A o)))) := by
  have hP := BI_P hB
  have n0 := BI_n0 hB
  have p9 := hP.1
  have nm := hB.1.2.1.1
  have n2 : A 1 2 < 0 := by rw [hB.1.2.1.2 2 (by decide) (by decide)]; decide
  obtain ⟨n, hL, n1, hF⟩ := hF
  have en : n = 3 ∧ TOK A ar (A 1 (rt A 1 o)) ∧ TOK A ar (A 1 (rt A 2 o)) := by
    rcases hF with q | q | q | q | q | q | q | q | q | q | q | q
    · omega
    · omega
    · exact ⟨q.2.1, q.2.2⟩
    · omega
    · omega
    · omega
    · omega
    · omega
    · omega
    · omega
    · omega
    · omega
  obtain ⟨rfl, tk1, tk2⟩ := en
  have wo := WD_pair hP o0 o1 (by omega)
  rw [if_neg (fun q => absurd q.1 (by omega))] at wo
  have v0 := VD_rt hP o0 o1 hL (by decide : 0 < 3)
  have v0e : VD A o = WD A (A 1 o) + VD A (rt A 1 o) := v0.1
  have wr : WD A (A 1 o) = 1 := WD_atom (by rw [hB.1.2.1.2 _ (by omega) (by omega)]; decide)
  have v1 := VD_rt hP o0 o1 hL (by decide : 1 < 3)
  have v1e : VD A (rt A 1 o) = WD A (A 1 (rt A 1 o)) + VD A (rt A 2 o) := v1.1
  have v2 := VD_rt hP o0 o1 hL (by decide : 2 < 3)
  have v2e : VD A (rt A 2 o) = WD A (A 1 (rt A 2 o)) + VD A (rt A 3 o) := v2.1
  have vz : VD A (rt A 3 o) = 0 := by rw [isL_end 3 o hL, VD_atom n0, if_pos rfl]
  have cf := hcf.2 (by omega)
  have cf2 := cf.2.1 (by omega)
  refine cl_go rfl ?_
  show xx_go (xt_P z) (d + 10) 154 0 [some (.ref h.length), some (.int (iI k)), none, none, none, none, none, none] [] (mh h R I A N) _
  refine go_a (pc' := 1) (ls' := [some (.ref h.length), some (.int (iI k)), none, none, none, none, none, none]) (st' := [.ref h.length]) rfl rfl ?_
  refine go_get rfl mh_o rfl rfl ?_
  refine go_a (pc' := 5) (ls' := [some (.ref h.length), some (.int (iI k)), none, none, none, none, none, none]) (st' := [.int (iI k), .ref (h.length + 47)]) rfl rfl ?_
  refine mi_ild rfl mh_a47 (by omega) (by omega) (by decide) ?_
  rw [ek]
  refine go_a (pc' := 7) (ls' := [some (.ref h.length), some (.int (iI k)), some (.int (iI o)), none, none, none, none, none]) (st' := []) rfl rfl ?_
  refine go_a (pc' := 8) (ls' := [some (.ref h.length), some (.int (iI k)), some (.int (iI o)), none, none, none, none, none]) (st' := [.ref h.length]) rfl rfl ?_
  refine go_get rfl mh_o rfl rfl ?_
  refine go_a (pc' := 12) (ls' := [some (.ref h.length), some (.int (iI k)), some (.int (iI o)), none, none, none, none, none]) (st' := [.int (iI k), .ref (h.length + 49)]) rfl rfl ?_
  refine mi_ild rfl mh_a49 (by omega) (by omega) (by decide) ?_
  rw [ec]
  refine go_a (pc' := 14) (ls' := [some (.ref h.length), some (.int (iI k)), some (.int (iI o)), some (.int (iI c)), none, none, none, none]) (st' := []) rfl rfl ?_
  refine go_a (pc' := 15) (ls' := [some (.ref h.length), some (.int (iI k)), some (.int (iI o)), some (.int (iI c)), none, none, none, none]) (st' := [.ref h.length]) rfl rfl ?_
  refine go_a (pc' := 16) (ls' := [some (.ref h.length), some (.int (iI k)), some (.int (iI o)), some (.int (iI c)), none, none, none, none]) (st' := [.int (iI 0), .ref h.length]) rfl rfl ?_
  refine go_put (j := 67) rfl mh_o rfl rfl (show 12 ≤ _ from hc) (show 67 < 86 by decide) rfl rfl ?_
  rw [mh_p67]
  obtain ⟨J, hJ⟩ : ∃ J : Nat → Int, J = su I 67 0 := ⟨_, rfl⟩
  rw [← hJ]
  have bJ : BX (fun j => j = 67) NO I A N J A N := by
    subst hJ
    exact BX_of hB.1.1 (fun j q => su_ne q) (fun a _ => rfl) rfl rfl rfl rfl rfl rfl rfl rfl rfl rfl
  have J7 : J 7 = I 7 := by subst hJ; rfl
  have J49 : J 49 = I 49 := by subst hJ; rfl
  have R0 : RU ar 0 I A N J A N := RU_of hB bJ (fun j q => by subst q; unfold FC; omega) (fun a q => absurd q (fun z => z)) (SZI_124 (A := A) (A1 := A) hB.1.2.2 rfl rfl rfl J7) (by subst hJ; rfl) (by subst hJ; rfl) (by rw [J49]; exact hB.2.2.2.2) (by omega) (fun _ => J49)
  have D0 : DR ar 0 0 0 J A := by subst hJ; exact DR_00
  have PJ := RU_P R0
  have T0 : BTX ar ft Fb Tb J A N := BTX_RU hB hX R0
  have di0 : DIT [] J A N := by
    subst hJ
    exact Or.inl ⟨w0, rfl⟩
  refine go_a (pc' := 20) (ls' := [some (.ref h.length), some (.int (iI k)), some (.int (iI o)), some (.int (iI c)), none, none, none, none]) (st' := [.ref h.length]) rfl rfl ?_
  refine go_a (pc' := 21) (ls' := [some (.ref h.length), some (.int (iI k)), some (.int (iI o)), some (.int (iI c)), none, none, none, none]) (st' := [.int (iI o), .ref h.length]) rfl rfl ?_
  refine go_v (m := 98) (as := [.ref h.length, .int (iI o)]) (r := []) rfl rfl rfl mh_o rfl rfl (mm_lenL z (d + 8) 3 o h R J A N hc PJ n0 o0 (by omega) hL) (fun v h1 hq => ?_)
  obtain ⟨rfl, rfl⟩ := hq
  show xx_go (xt_P z) (d + 10) 154 24 [some (.ref h.length), some (.int (iI k)), some (.int (iI o)), some (.int (iI c)), none, none, none, none] [.int (iI (((3 : Nat) : Int)))] (mh h R J A N) _
  refine go_a (pc' := 25) (ls' := [some (.ref h.length), some (.int (iI k)), some (.int (iI o)), some (.int (iI c)), none, none, none, none]) (st' := [.int (iI 1), .int (iI (((3 : Nat) : Int)))]) rfl rfl ?_
  refine mi_le (t := 107) rfl rfl (by omega) (by omega) (by omega) (by omega) (fun q => by omega) (fun _ => ?_)
  refine go_a (pc' := 29) (ls' := [some (.ref h.length), some (.int (iI k)), some (.int (iI o)), some (.int (iI c)), none, none, none, none]) (st' := [.ref h.length]) rfl rfl ?_
  refine go_get rfl mh_o rfl rfl ?_
  refine go_a (pc' := 33) (ls' := [some (.ref h.length), some (.int (iI k)), some (.int (iI o)), some (.int (iI c)), none, none, none, none]) (st' := [.int (iI o), .ref (h.length + 1)]) rfl rfl ?_
  refine mi_ild rfl mh_a1 (by omega) (by omega) (by decide) ?_
  refine go_a (pc' := 36) (ls' := [some (.ref h.length), some (.int (iI k)), some (.int (iI o)), some (.int (iI c)), none, none, none, none]) (st' := [.int (iI 37), .int (iI (A 1 o))]) rfl rfl ?_
  refine mi_eq (t := 107) rfl rfl (by omega) (by omega) (by omega) (by omega) (fun q => by omega) (fun _ => ?_)
  refine go_a (pc' := 40) (ls' := [some (.ref h.length), some (.int (iI k)), some (.int (iI o)), some (.int (iI c)), none, none, none, none]) (st' := [.ref h.length]) rfl rfl ?_
  refine go_get rfl mh_o rfl rfl ?_
  refine go_a (pc' := 44) (ls' := [some (.ref h.length), some (.int (iI k)), some (.int (iI o)), some (.int (iI c)), none, none, none, none]) (st' := [.int (iI o), .ref (h.length + 1)]) rfl rfl ?_
  refine mi_ild rfl mh_a1 (by omega) (by omega) (by decide) ?_
  refine go_a (pc' := 47) (ls' := [some (.ref h.length), some (.int (iI k)), some (.int (iI o)), some (.int (iI c)), none, none, none, none]) (st' := [.int (iI 38), .int (iI (A 1 o))]) rfl rfl ?_
  refine mi_eq (t := 107) rfl rfl (by omega) (by omega) (by omega) (by omega) (fun q => by omega) (fun _ => ?_)
  refine go_a (pc' := 51) (ls' := [some (.ref h.length), some (.int (iI k)), some (.int (iI o)), some (.int (iI c)), none, none, none, none]) (st' := [.ref h.length]) rfl rfl ?_
  refine go_get rfl mh_o rfl rfl ?_
  refine go_a (pc' := 55) (ls' := [some (.ref h.length), some (.int (iI k)), some (.int (iI o)), some (.int (iI c)), none, none, none, none]) (st' := [.int (iI o), .ref (h.length + 1)]) rfl rfl ?_
  refine mi_ild rfl mh_a1 (by omega) (by omega) (by decide) ?_
  refine go_a (pc' := 58) (ls' := [some (.ref h.length), some (.int (iI k)), some (.int (iI o)), some (.int (iI c)), none, none, none, none]) (st' := [.int (iI 39), .int (iI (A 1 o))]) rfl rfl ?_
  refine mi_eq (t := 107) rfl rfl (by omega) (by omega) (by omega) (by omega) (fun q => by omega) (fun _ => ?_)
  refine go_a (pc' := 62) (ls' := [some (.ref h.length), some (.int (iI k)), some (.int (iI o)), some (.int (iI c)), none, none, none, none]) (st' := [.ref h.length]) rfl rfl ?_
  refine go_get rfl mh_o rfl rfl ?_
  refine go_a (pc' := 66) (ls' := [some (.ref h.length), some (.int (iI k)), some (.int (iI o)), some (.int (iI c)), none, none, none, none]) (st' := [.int (iI o), .ref (h.length + 1)]) rfl rfl ?_
  refine mi_ild rfl mh_a1 (by omega) (by omega) (by decide) ?_
  refine go_a (pc' := 69) (ls' := [some (.ref h.length), some (.int (iI k)), some (.int (iI o)), some (.int (iI c)), none, none, none, none]) (st' := [.int (iI 41), .int (iI (A 1 o))]) rfl rfl ?_
  refine mi_eq (t := 107) rfl rfl (by omega) (by omega) (by omega) (by omega) (fun q => by omega) (fun _ => ?_)
  refine go_a (pc' := 73) (ls' := [some (.ref h.length), some (.int (iI k)), some (.int (iI o)), some (.int (iI c)), none, none, none, none]) (st' := [.ref h.length]) rfl rfl ?_
  refine go_get rfl mh_o rfl rfl ?_
  refine go_a (pc' := 77) (ls' := [some (.ref h.length), some (.int (iI k)), some (.int (iI o)), some (.int (iI c)), none, none, none, none]) (st' := [.int (iI o), .ref (h.length + 1)]) rfl rfl ?_
  refine mi_ild rfl mh_a1 (by omega) (by omega) (by decide) ?_
  refine go_a (pc' := 80) (ls' := [some (.ref h.length), some (.int (iI k)), some (.int (iI o)), some (.int (iI c)), none, none, none, none]) (st' := [.int (iI 42), .int (iI (A 1 o))]) rfl rfl ?_
  refine mi_eq (t := 107) rfl rfl (by omega) (by omega) (by omega) (by omega) (fun q => by omega) (fun _ => ?_)
  refine go_a (pc' := 84) (ls' := [some (.ref h.length), some (.int (iI k)), some (.int (iI o)), some (.int (iI c)), none, none, none, none]) (st' := [.ref h.length]) rfl rfl ?_
  refine go_get rfl mh_o rfl rfl ?_
  refine go_a (pc' := 88) (ls' := [some (.ref h.length), some (.int (iI k)), some (.int (iI o)), some (.int (iI c)), none, none, none, none]) (st' := [.int (iI o), .ref (h.length + 1)]) rfl rfl ?_
  refine mi_ild rfl mh_a1 (by omega) (by omega) (by decide) ?_
  refine go_a (pc' := 91) (ls' := [some (.ref h.length), some (.int (iI k)), some (.int (iI o)), some (.int (iI c)), none, none, none, none]) (st' := [.int (iI 43), .int (iI (A 1 o))]) rfl rfl ?_
  refine mi_eq (t := 107) rfl rfl (by omega) (by omega) (by omega) (by omega) (fun q => by omega) (fun _ => ?_)
  refine go_a (pc' := 95) (ls' := [some (.ref h.length), some (.int (iI k)), some (.int (iI o)), some (.int (iI c)), none, none, none, none]) (st' := [.ref h.length]) rfl rfl ?_
  refine go_a (pc' := 96) (ls' := [some (.ref h.length), some (.int (iI k)), some (.int (iI o)), some (.int (iI c)), none, none, none, none]) (st' := [.ref h.length, .ref h.length]) rfl rfl ?_
  refine go_a (pc' := 97) (ls' := [some (.ref h.length), some (.int (iI k)), some (.int (iI o)), some (.int (iI c)), none, none, none, none]) (st' := [.int (iI o), .ref h.length, .ref h.length]) rfl rfl ?_
  refine go_a (pc' := 98) (ls' := [some (.ref h.length), some (.int (iI k)), some (.int (iI o)), some (.int (iI c)), none, none, none, none]) (st' := [.int (iI 1), .int (iI o), .ref h.length, .ref h.length]) rfl rfl ?_
  have Lxl := isL_extB hP R0.1 3 o o0 o1 hL
  have ixl := it_BX hP R0.1 o0 o1 hL (by decide : 1 < 3)
  refine go_v (m := 99) (as := [.ref h.length, .int (iI o), .int (iI 1)]) (r := [.ref h.length]) rfl rfl rfl mh_o rfl rfl (mm_nth z (d + 9) 1 3 o h R J A N hc PJ (by decide) o0 (by omega) Lxl (by omega)) (fun v h1 hq => ?_)
  obtain ⟨rfl, rfl⟩ := hq
  rw [ixl]
  show xx_go (xt_P z) (d + 10) 154 101 [some (.ref h.length), some (.int (iI k)), some (.int (iI o)), some (.int (iI c)), none, none, none, none] [.int (iI (A 1 (rt A 1 o))), .ref h.length] (mh h R J A N) _
  have wxl := (WD_BX hP R0.1 v1.2.1.1 v1.2.1.2).1
  refine go_v (m := 105) (as := [.ref h.length, .int (iI (A 1 (rt A 1 o)))]) (r := []) rfl rfl rfl mh_o rfl rfl (mr_term z (d + 2) ar (A 1 (rt A 1 o)) h R J A N hc R0.2.1 v1.2.1.1 (by omega) (by omega) (by omega)) (fun v h1 hq => ?_)
  obtain ⟨l, I1, A1, rfl, rfl, R1, K1, ⟨u1, bb1⟩, ht1⟩ := hq
  have tt1 : ((0 ≤ l ∧ l < I1 7) ∧ TZ A1 ar l = TS A ar (A 1 (rt A 1 o))) ∧ (1 ≤ TS A ar (A 1 (rt A 1 o)) ∧ TS A ar (A 1 (rt A 1 o)) ≤ 120) ∧ TS A ar (A 1 (rt A 1 o)) ≤ WD A (A 1 (rt A 1 o)) ∧ NFT A1 (A 1 (rt A 1 o)) l := by
    have tk := TOK_BX hP R0.1 v1.2.1.1 v1.2.1.2 tk1
    rcases ht1 with q | q
    · exact absurd tk q.2
    · have ts := TS_BX (ar := ar) hP R0.1 v1.2.1.1 v1.2.1.2
      rw [ts, wxl] at q
      exact ⟨⟨q.1, q.2.2.2.1⟩, by omega, q.2.2.2.2.1, q.2.2.2.2.2⟩
  obtain ⟨h_l1, sb_l, sw_l, nf_l⟩ := tt1
  have s_l := sb_l.1
  have tm_l := (TQ_tm R0.2.1 T0 v1.2.1.1 (by omega) (show TQ ar (A 1 (rt A 1 o)) l J A N I1 A1 from ⟨bb1, R1.2.1, by have := R1.2.2.1; omega, u1, ht1⟩)).2 (by omega)
  rw [DM_RU hB hX R0 v1.2.1.1 v1.2.1.2] at tm_l
  obtain ⟨tl, et_l1⟩ : ∃ q : ob_T, DM A1 N l = q := ⟨_, rfl⟩
  rw [et_l1] at tm_l
  have tt_l := tm_ts tm_l
  have di1 := DIT_BX R0.2.1 T0.1 D0 bb1 (by unfold FB; omega) (by unfold GT; omega) (by unfold GT; omega) (by unfold FB; omega) (by unfold GT; omega) u1 di0
  clear bb1 ht1
  rw [wxl] at R1
  have D1 := K1 _ _ _ D0
  have P1 := RU_P R1
  have X1 := RU_tr R0 R1 (Int.le_refl _)
  have T1 := BTX_RU R0.2.1 T0 R1
  have y1 := X1.2.2.1
  have z1 : I1 7 ≤ 140000 := P1.1
  have x1 : I 7 ≤ I1 7 := X1.1.2.1
  have ex1 : A1 1 o = A 1 o := (X1.1.2.2.1 o o0 o1).1
  clear T0
  show xx_go (xt_P z) (d + 10) 154 104 [some (.ref h.length), some (.int (iI k)), some (.int (iI o)), some (.int (iI c)), none, none, none, none] [.int (iI l)] (mh h R I1 A1 N) _
  refine go_a (pc' := 108) (ls' := [some (.ref h.length), some (.int (iI k)), some (.int (iI o)), some (.int (iI c)), none, none, none, none]) (st' := [.int (iI l)]) rfl rfl ?_
  refine go_a (pc' := 110) (ls' := [some (.ref h.length), some (.int (iI k)), some (.int (iI o)), some (.int (iI c)), some (.int (iI l)), none, none, none]) (st' := []) rfl rfl ?_
  refine go_a (pc' := 111) (ls' := [some (.ref h.length), some (.int (iI k)), some (.int (iI o)), some (.int (iI c)), some (.int (iI l)), none, none, none]) (st' := [.ref h.length]) rfl rfl ?_
  refine go_get rfl mh_o rfl rfl ?_
  refine go_a (pc' := 115) (ls' := [some (.ref h.length), some (.int (iI k)), some (.int (iI o)), some (.int (iI c)), some (.int (iI l)), none, none, none]) (st' := [.int (iI o), .ref (h.length + 1)]) rfl rfl ?_
  refine mi_ild rfl mh_a1 (by omega) (by omega) (by decide) ?_
  refine go_a (pc' := 118) (ls' := [some (.ref h.length), some (.int (iI k)), some (.int (iI o)), some (.int (iI c)), some (.int (iI l)), none, none, none]) (st' := [.int (iI 32), .int (iI (A1 1 o))]) rfl rfl ?_
  refine mi_lt (t := 145) rfl rfl (by omega) (by omega) (by omega) (by omega) (fun q => by omega) (fun _ => ?_)
  refine go_a (pc' := 122) (ls' := [some (.ref h.length), some (.int (iI k)), some (.int (iI o)), some (.int (iI c)), some (.int (iI l)), none, none, none]) (st' := [.ref h.length]) rfl rfl ?_
  refine go_get rfl mh_o rfl rfl ?_
  refine go_a (pc' := 126) (ls' := [some (.ref h.length), some (.int (iI k)), some (.int (iI o)), some (.int (iI c)), some (.int (iI l)), none, none, none]) (st' := [.int (iI o), .ref (h.length + 1)]) rfl rfl ?_
  refine mi_ild rfl mh_a1 (by omega) (by omega) (by decide) ?_
  refine go_a (pc' := 129) (ls' := [some (.ref h.length), some (.int (iI k)), some (.int (iI o)), some (.int (iI c)), some (.int (iI l)), none, none, none]) (st' := [.int (iI 36), .int (iI (A1 1 o))]) rfl rfl ?_
  refine mi_gt (t := 145) rfl rfl (by omega) (by omega) (by omega) (by omega) (fun q => by omega) (fun _ => ?_)
  refine go_a (pc' := 133) (ls' := [some (.ref h.length), some (.int (iI k)), some (.int (iI o)), some (.int (iI c)), some (.int (iI l)), none, none, none]) (st' := [.ref h.length]) rfl rfl ?_
  refine go_a (pc' := 134) (ls' := [some (.ref h.length), some (.int (iI k)), some (.int (iI o)), some (.int (iI c)), some (.int (iI l)), none, none, none]) (st' := [.ref h.length, .ref h.length]) rfl rfl ?_
  refine go_a (pc' := 135) (ls' := [some (.ref h.length), some (.int (iI k)), some (.int (iI o)), some (.int (iI c)), some (.int (iI l)), none, none, none]) (st' := [.int (iI o), .ref h.length, .ref h.length]) rfl rfl ?_
  refine go_a (pc' := 136) (ls' := [some (.ref h.length), some (.int (iI k)), some (.int (iI o)), some (.int (iI c)), some (.int (iI l)), none, none, none]) (st' := [.int (iI 2), .int (iI o), .ref h.length, .ref h.length]) rfl rfl ?_
  have Lxm := isL_extB hP X1.1 3 o o0 o1 hL
  have ixm := it_BX hP X1.1 o0 o1 hL (by decide : 2 < 3)
  refine go_v (m := 99) (as := [.ref h.length, .int (iI o), .int (iI 2)]) (r := [.ref h.length]) rfl rfl rfl mh_o rfl rfl (mm_nth z (d + 9) 2 3 o h R I1 A1 N hc P1 (by decide) o0 (by omega) Lxm (by omega)) (fun v h1 hq => ?_)
  obtain ⟨rfl, rfl⟩ := hq
  rw [ixm]
  show xx_go (xt_P z) (d + 10) 154 139 [some (.ref h.length), some (.int (iI k)), some (.int (iI o)), some (.int (iI c)), some (.int (iI l)), none, none, none] [.int (iI (A 1 (rt A 2 o))), .ref h.length] (mh h R I1 A1 N) _
  have wxm := (WD_BX hP X1.1 v2.2.1.1 v2.2.1.2).1
  refine go_v (m := 105) (as := [.ref h.length, .int (iI (A 1 (rt A 2 o)))]) (r := []) rfl rfl rfl mh_o rfl rfl (mr_term z (d + 2) ar (A 1 (rt A 2 o)) h R I1 A1 N hc X1.2.1 v2.2.1.1 (by omega) (by omega) (by omega)) (fun v h1 hq => ?_)
  obtain ⟨m, I2, A2, rfl, rfl, R2, K2, ⟨u2, bb2⟩, ht2⟩ := hq
  have tt2 : ((0 ≤ m ∧ m < I2 7) ∧ TZ A2 ar m = TS A ar (A 1 (rt A 2 o))) ∧ (1 ≤ TS A ar (A 1 (rt A 2 o)) ∧ TS A ar (A 1 (rt A 2 o)) ≤ 120) ∧ TS A ar (A 1 (rt A 2 o)) ≤ WD A (A 1 (rt A 2 o)) ∧ NFT A2 (A 1 (rt A 2 o)) m := by
    have tk := TOK_BX hP X1.1 v2.2.1.1 v2.2.1.2 tk2
    rcases ht2 with q | q
    · exact absurd tk q.2
    · have ts := TS_BX (ar := ar) hP X1.1 v2.2.1.1 v2.2.1.2
      rw [ts, wxm] at q
      exact ⟨⟨q.1, q.2.2.2.1⟩, by omega, q.2.2.2.2.1, q.2.2.2.2.2⟩
  obtain ⟨h_m2, sb_m, sw_m, nf_m⟩ := tt2
  have s_m := sb_m.1
  have tm_m := (TQ_tm X1.2.1 T1 v2.2.1.1 (by omega) (show TQ ar (A 1 (rt A 2 o)) m I1 A1 N I2 A2 from ⟨bb2, R2.2.1, by have := R2.2.2.1; omega, u2, ht2⟩)).2 (by omega)
  rw [DM_RU hB hX X1 v2.2.1.1 v2.2.1.2] at tm_m
  obtain ⟨tm, et_m2⟩ : ∃ q : ob_T, DM A2 N m = q := ⟨_, rfl⟩
  rw [et_m2] at tm_m
  have tt_m := tm_ts tm_m
  have di2 := DIT_BX X1.2.1 T1.1 D1 bb2 (by unfold FB; omega) (by unfold GT; omega) (by unfold GT; omega) (by unfold FB; omega) (by unfold GT; omega) u2 di1
  clear bb2 ht2
  rw [wxm] at R2
  have D2 := K2 _ _ _ D1
  have P2 := RU_P R2
  have X2 := RU_tr X1 R2 (Int.le_refl _)
  have T2 := BTX_RU X1.2.1 T1 R2
  have et_l2 := (DM_RU X1.2.1 T1 R2 h_l1.1.1 h_l1.1.2).trans et_l1
  have h_l2 := RU_carry P1 R2 h_l1 s_l
  have y2 := X2.2.2.1
  have z2 : I2 7 ≤ 140000 := P2.1
  have x2 : I 7 ≤ I2 7 := X2.1.2.1
  have ex2 : A2 1 o = A 1 o := (X2.1.2.2.1 o o0 o1).1
  clear et_l1 T1 h_l1 y1 z1 x1 ex1
  show xx_go (xt_P z) (d + 10) 154 142 [some (.ref h.length), some (.int (iI k)), some (.int (iI o)), some (.int (iI c)), some (.int (iI l)), none, none, none] [.int (iI m)] (mh h R I2 A2 N) _
  refine go_a (pc' := 146) (ls' := [some (.ref h.length), some (.int (iI k)), some (.int (iI o)), some (.int (iI c)), some (.int (iI l)), none, none, none]) (st' := [.int (iI m)]) rfl rfl ?_
  refine go_a (pc' := 148) (ls' := [some (.ref h.length), some (.int (iI k)), some (.int (iI o)), some (.int (iI c)), some (.int (iI l)), some (.int (iI m)), none, none]) (st' := []) rfl rfl ?_
  refine go_a (pc' := 149) (ls' := [some (.ref h.length), some (.int (iI k)), some (.int (iI o)), some (.int (iI c)), some (.int (iI l)), some (.int (iI m)), none, none]) (st' := [.ref h.length]) rfl rfl ?_
  refine go_get rfl mh_o rfl rfl ?_
  refine go_a (pc' := 153) (ls' := [some (.ref h.length), some (.int (iI k)), some (.int (iI o)), some (.int (iI c)), some (.int (iI l)), some (.int (iI m)), none, none]) (st' := [.int (iI o), .ref (h.length + 1)]) rfl rfl ?_
  refine mi_ild rfl mh_a1 (by omega) (by omega) (by decide) ?_
  refine go_a (pc' := 156) (ls' := [some (.ref h.length), some (.int (iI k)), some (.int (iI o)), some (.int (iI c)), some (.int (iI l)), some (.int (iI m)), none, none]) (st' := [.int (iI 35), .int (iI (A2 1 o))]) rfl rfl ?_
  refine mi_eq (t := 170) rfl rfl (by omega) (by omega) (by omega) (by omega) (fun q => by omega) (fun _ => ?_)
  refine go_a (pc' := 160) (ls' := [some (.ref h.length), some (.int (iI k)), some (.int (iI o)), some (.int (iI c)), some (.int (iI l)), some (.int (iI m)), none, none]) (st' := [.ref h.length]) rfl rfl ?_
  refine go_get rfl mh_o rfl rfl ?_
  refine go_a (pc' := 164) (ls' := [some (.ref h.length), some (.int (iI k)), some (.int (iI o)), some (.int (iI c)), some (.int (iI l)), some (.int (iI m)), none, none]) (st' := [.int (iI o), .ref (h.length + 1)]) rfl rfl ?_
  refine mi_ild rfl mh_a1 (by omega) (by omega) (by decide) ?_
  refine go_a (pc' := 167) (ls' := [some (.ref h.length), some (.int (iI k)), some (.int (iI o)), some (.int (iI c)), some (.int (iI l)), some (.int (iI m)), none, none]) (st' := [.int (iI 36), .int (iI (A2 1 o))]) rfl rfl ?_
  refine mi_ne (t := 183) rfl rfl (by omega) (by omega) (by omega) (by omega) (fun _ => ?_) (fun q => by omega)
  refine go_a (pc' := 184) (ls' := [some (.ref h.length), some (.int (iI k)), some (.int (iI o)), some (.int (iI c)), some (.int (iI l)), some (.int (iI m)), none, none]) (st' := [.int (iI ((-1)))]) rfl rfl ?_
  refine go_a (pc' := 186) (ls' := [some (.ref h.length), some (.int (iI k)), some (.int (iI o)), some (.int (iI c)), some (.int (iI l)), some (.int (iI m)), some (.int (iI ((-1)))), none]) (st' := []) rfl rfl ?_
  refine go_a (pc' := 187) (ls' := [some (.ref h.length), some (.int (iI k)), some (.int (iI o)), some (.int (iI c)), some (.int (iI l)), some (.int (iI m)), some (.int (iI ((-1)))), none]) (st' := [.ref h.length]) rfl rfl ?_
  refine go_get rfl mh_o rfl rfl ?_
  refine go_a (pc' := 191) (ls' := [some (.ref h.length), some (.int (iI k)), some (.int (iI o)), some (.int (iI c)), some (.int (iI l)), some (.int (iI m)), some (.int (iI ((-1)))), none]) (st' := [.int (iI o), .ref (h.length + 1)]) rfl rfl ?_
  refine mi_ild rfl mh_a1 (by omega) (by omega) (by decide) ?_
  rw [ex2]
  refine mi_ts (c := 32) (t := 324) rfl ef rfl ?_
  refine go_a (pc' := 325) (ls' := [some (.ref h.length), some (.int (iI k)), some (.int (iI o)), some (.int (iI c)), some (.int (iI l)), some (.int (iI m)), some (.int (iI ((-1)))), none]) (st' := [.ref h.length]) rfl rfl ?_
  refine go_a (pc' := 326) (ls' := [some (.ref h.length), some (.int (iI k)), some (.int (iI o)), some (.int (iI c)), some (.int (iI l)), some (.int (iI m)), some (.int (iI ((-1)))), none]) (st' := [.ref h.length, .ref h.length]) rfl rfl ?_
  refine go_a (pc' := 327) (ls' := [some (.ref h.length), some (.int (iI k)), some (.int (iI o)), some (.int (iI c)), some (.int (iI l)), some (.int (iI m)), some (.int (iI ((-1)))), none]) (st' := [.int (iI 4), .ref h.length, .ref h.length]) rfl rfl ?_
  refine go_a (pc' := 328) (ls' := [some (.ref h.length), some (.int (iI k)), some (.int (iI o)), some (.int (iI c)), some (.int (iI l)), some (.int (iI m)), some (.int (iI ((-1)))), none]) (st' := [.ref h.length, .int (iI 4), .ref h.length, .ref h.length]) rfl rfl ?_
  refine go_a (pc' := 330) (ls' := [some (.ref h.length), some (.int (iI k)), some (.int (iI o)), some (.int (iI c)), some (.int (iI l)), some (.int (iI m)), some (.int (iI ((-1)))), none]) (st' := [.int (iI 11), .ref h.length, .int (iI 4), .ref h.length, .ref h.length]) rfl rfl ?_
  refine go_a (pc' := 331) (ls' := [some (.ref h.length), some (.int (iI k)), some (.int (iI o)), some (.int (iI c)), some (.int (iI l)), some (.int (iI m)), some (.int (iI ((-1)))), none]) (st' := [.ref h.length, .int (iI 11), .ref h.length, .int (iI 4), .ref h.length, .ref h.length]) rfl rfl ?_
  refine go_a (pc' := 332) (ls' := [some (.ref h.length), some (.int (iI k)), some (.int (iI o)), some (.int (iI c)), some (.int (iI l)), some (.int (iI m)), some (.int (iI ((-1)))), none]) (st' := [.int (iI 5), .ref h.length, .int (iI 11), .ref h.length, .int (iI 4), .ref h.length, .ref h.length]) rfl rfl ?_
  refine go_a (pc' := 334) (ls' := [some (.ref h.length), some (.int (iI k)), some (.int (iI o)), some (.int (iI c)), some (.int (iI l)), some (.int (iI m)), some (.int (iI ((-1)))), none]) (st' := [.int (iI l), .int (iI 5), .ref h.length, .int (iI 11), .ref h.length, .int (iI 4), .ref h.length, .ref h.length]) rfl rfl ?_
  refine go_a (pc' := 336) (ls' := [some (.ref h.length), some (.int (iI k)), some (.int (iI o)), some (.int (iI c)), some (.int (iI l)), some (.int (iI m)), some (.int (iI ((-1)))), none]) (st' := [.int (iI m), .int (iI l), .int (iI 5), .ref h.length, .int (iI 11), .ref h.length, .int (iI 4), .ref h.length, .ref h.length]) rfl rfl ?_
  refine go_v (m := 156) (as := [.ref h.length, .int (iI 5), .int (iI l), .int (iI m)]) (r := [.int (iI 11), .ref h.length, .int (iI 4), .ref h.length, .ref h.length]) rfl rfl rfl mh_o rfl rfl (mr_two z (d + 3) ar 5 l m h R I2 A2 N hc X2.2.1 T2.1 (by decide) (by omega) (by decide) (by omega) h_l2.1.1 h_l2.1.2 (by rw [h_l2.2]; exact s_l) h_m2.1.1 h_m2.1.2 (by rw [h_m2.2]; exact s_m) (X2.2.1.2.1.1.1.2.1 5 (by decide) (by decide)).symm) (fun v h1 hq => ?_)
  obtain ⟨q, I3, A3, rfl, rfl, R3, K3, tv3, tb3, te3, dt3, dj3⟩ := hq
  rw [(show DM A2 N 5 = .var 345281 from T2.1.2 5 (by decide)), et_l2, et_m2] at dt3 dj3
  have et_q3 : DM A3 N q = sp_c2 345281 tl tm := dt3
  have di3 : DIM _ (sp_opO (sp_c2 345281 tl tm)) _ _ _ _ := dj3 _ _ _ _ D2 di2
  rw [h_l2.2, h_m2.2] at te3
  have D3 := K3 _ _ _ D2
  have h_q3 : (0 ≤ q ∧ q < I3 7) ∧ TZ A3 ar q = 1 + TS A ar (A 1 (rt A 1 o)) + TS A ar (A 1 (rt A 2 o)) := ⟨tv3.1, te3⟩
  have s_q : 1 ≤ 1 + TS A ar (A 1 (rt A 1 o)) + TS A ar (A 1 (rt A 2 o)) := by rw [← te3]; exact tv3.2
  have P3 := RU_P R3
  have X3 := RU_tr X2 R3 (Int.le_refl _)
  have T3 := BTX_RU X2.2.1 T2 R3
  have et_l3 := (DM_RU X2.2.1 T2 R3 h_l2.1.1 h_l2.1.2).trans et_l2
  have et_m3 := (DM_RU X2.2.1 T2 R3 h_m2.1.1 h_m2.1.2).trans et_m2
  have h_l3 := RU_carry P2 R3 h_l2 s_l
  have h_m3 := RU_carry P2 R3 h_m2 s_m
  have y3 := X3.2.2.1
  have z3 : I3 7 ≤ 140000 := P3.1
  have x3 : I 7 ≤ I3 7 := X3.1.2.1
  have ex3 : A3 1 o = A 1 o := (X3.1.2.2.1 o o0 o1).1
  clear et_l2 et_m2 T2 h_l2 h_m2 y2 z2 x2 ex2
  show xx_go (xt_P z) (d + 10) 154 339 [some (.ref h.length), some (.int (iI k)), some (.int (iI o)), some (.int (iI c)), some (.int (iI l)), some (.int (iI m)), some (.int (iI ((-1)))), none] [.int (iI q), .int (iI 11), .ref h.length, .int (iI 4), .ref h.length, .ref h.length] (mh h R I3 A3 N) _
  refine go_a (pc' := 340) (ls' := [some (.ref h.length), some (.int (iI k)), some (.int (iI o)), some (.int (iI c)), some (.int (iI l)), some (.int (iI m)), some (.int (iI ((-1)))), none]) (st' := [.int (iI ((-1))), .int (iI q), .int (iI 11), .ref h.length, .int (iI 4), .ref h.length, .ref h.length]) rfl rfl ?_
  refine go_a (pc' := 341) (ls' := [some (.ref h.length), some (.int (iI k)), some (.int (iI o)), some (.int (iI c)), some (.int (iI l)), some (.int (iI m)), some (.int (iI ((-1)))), none]) (st' := [.int (iI ((-1))), .int (iI ((-1))), .int (iI q), .int (iI 11), .ref h.length, .int (iI 4), .ref h.length, .ref h.length]) rfl rfl ?_
  refine go_v (m := 127) (as := [.ref h.length, .int (iI 11), .int (iI q), .int (iI ((-1))), .int (iI ((-1)))]) (r := [.int (iI 4), .ref h.length, .ref h.length]) rfl rfl rfl mh_o rfl rfl (mr_one z (d + 4) ar 11 q h R I3 A3 N hc X3.2.1 T3.1 (by decide) (by omega) (by decide) (by omega) h_q3.1.1 h_q3.1.2 (by rw [h_q3.2]; exact s_q) (X3.2.1.2.1.1.1.2.2 11 (by decide) (by decide)).symm) (fun v h1 hq => ?_)
  obtain ⟨r, I4, A4, rfl, rfl, R4, K4, tv4, tb4, te4, dt4, dj4⟩ := hq
  rw [(show DM A3 N 11 = .var 6692 from T3.1.2 11 (by decide)), et_q3] at dt4 dj4
  have et_r4 : DM A4 N r = sp_c1 6692 (sp_c2 345281 tl tm) := dt4
  have di4 : DIM _ (sp_opO (sp_c1 6692 (sp_c2 345281 tl tm))) _ _ _ _ := DIM_up (fun it q => dj4 it _ _ _ D3 q) R4 (c1_0 rfl) di3
  rw [h_q3.2] at te4
  have D4 := K4 _ _ _ D3
  have h_r4 : (0 ≤ r ∧ r < I4 7) ∧ TZ A4 ar r = 1 + (1 + TS A ar (A 1 (rt A 1 o)) + TS A ar (A 1 (rt A 2 o))) := ⟨tv4.1, te4⟩
  have s_r : 1 ≤ 1 + (1 + TS A ar (A 1 (rt A 1 o)) + TS A ar (A 1 (rt A 2 o))) := by rw [← te4]; exact tv4.2
  have P4 := RU_P R4
  have X4 := RU_tr X3 R4 (Int.le_refl _)
  have T4 := BTX_RU X3.2.1 T3 R4
  have et_l4 := (DM_RU X3.2.1 T3 R4 h_l3.1.1 h_l3.1.2).trans et_l3
  have et_m4 := (DM_RU X3.2.1 T3 R4 h_m3.1.1 h_m3.1.2).trans et_m3
  have et_q4 := (DM_RU X3.2.1 T3 R4 h_q3.1.1 h_q3.1.2).trans et_q3
  have h_l4 := RU_carry P3 R4 h_l3 s_l
  have h_m4 := RU_carry P3 R4 h_m3 s_m
  have h_q4 := RU_carry P3 R4 h_q3 s_q
  have y4 := X4.2.2.1
  have z4 : I4 7 ≤ 140000 := P4.1
  have x4 : I 7 ≤ I4 7 := X4.1.2.1
  have ex4 : A4 1 o = A 1 o := (X4.1.2.2.1 o o0 o1).1
  clear et_l3 et_m3 et_q3 T3 h_l3 h_m3 h_q3 y3 z3 x3 ex3
  show xx_go (xt_P z) (d + 10) 154 344 [some (.ref h.length), some (.int (iI k)), some (.int (iI o)), some (.int (iI c)), some (.int (iI l)), some (.int (iI m)), some (.int (iI ((-1)))), none] [.int (iI r), .int (iI 4), .ref h.length, .ref h.length] (mh h R I4 A4 N) _
  refine go_a (pc' := 346) (ls' := [some (.ref h.length), some (.int (iI k)), some (.int (iI o)), some (.int (iI c)), some (.int (iI l)), some (.int (iI m)), some (.int (iI ((-1)))), none]) (st' := [.int (iI l), .int (iI r), .int (iI 4), .ref h.length, .ref h.length]) rfl rfl ?_
  refine go_v (m := 156) (as := [.ref h.length, .int (iI 4), .int (iI r), .int (iI l)]) (r := [.ref h.length]) rfl rfl rfl mh_o rfl rfl (mr_two z (d + 3) ar 4 r l h R I4 A4 N hc X4.2.1 T4.1 (by decide) (by omega) (by decide) (by omega) h_r4.1.1 h_r4.1.2 (by rw [h_r4.2]; exact s_r) h_l4.1.1 h_l4.1.2 (by rw [h_l4.2]; exact s_l) (X4.2.1.2.1.1.1.2.1 4 (by decide) (by decide)).symm) (fun v h1 hq => ?_)
  obtain ⟨s, I5, A5, rfl, rfl, R5, K5, tv5, tb5, te5, dt5, dj5⟩ := hq
  rw [(show DM A4 N 4 = .var 26209844 from T4.1.2 4 (by decide)), et_r4, et_l4] at dt5 dj5
  have et_s5 : DM A5 N s = sp_c2 26209844 (sp_c1 6692 (sp_c2 345281 tl tm)) tl := dt5
  have di5 : DIM _ (sp_opO (sp_c2 26209844 (sp_c1 6692 (sp_c2 345281 tl tm)) tl)) _ _ _ _ := DIM_up (fun it q => dj5 it _ _ _ D4 q) R5 (c2_0 rfl) di4
  rw [h_r4.2, h_l4.2] at te5
  have D5 := K5 _ _ _ D4
  have h_s5 : (0 ≤ s ∧ s < I5 7) ∧ TZ A5 ar s = 1 + (1 + (1 + TS A ar (A 1 (rt A 1 o)) + TS A ar (A 1 (rt A 2 o)))) + TS A ar (A 1 (rt A 1 o)) := ⟨tv5.1, te5⟩
  have s_s : 1 ≤ 1 + (1 + (1 + TS A ar (A 1 (rt A 1 o)) + TS A ar (A 1 (rt A 2 o)))) + TS A ar (A 1 (rt A 1 o)) := by rw [← te5]; exact tv5.2
  have P5 := RU_P R5
  have X5 := RU_tr X4 R5 (Int.le_refl _)
  have T5 := BTX_RU X4.2.1 T4 R5
  have et_l5 := (DM_RU X4.2.1 T4 R5 h_l4.1.1 h_l4.1.2).trans et_l4
  have et_m5 := (DM_RU X4.2.1 T4 R5 h_m4.1.1 h_m4.1.2).trans et_m4
  have et_q5 := (DM_RU X4.2.1 T4 R5 h_q4.1.1 h_q4.1.2).trans et_q4
  have et_r5 := (DM_RU X4.2.1 T4 R5 h_r4.1.1 h_r4.1.2).trans et_r4
  have h_l5 := RU_carry P4 R5 h_l4 s_l
  have h_m5 := RU_carry P4 R5 h_m4 s_m
  have h_q5 := RU_carry P4 R5 h_q4 s_q
  have h_r5 := RU_carry P4 R5 h_r4 s_r
  have y5 := X5.2.2.1
  have z5 : I5 7 ≤ 140000 := P5.1
  have x5 : I 7 ≤ I5 7 := X5.1.2.1
  have ex5 : A5 1 o = A 1 o := (X5.1.2.2.1 o o0 o1).1
  clear et_l4 et_m4 et_q4 et_r4 T4 h_l4 h_m4 h_q4 h_r4 y4 z4 x4 ex4
  show xx_go (xt_P z) (d + 10) 154 349 [some (.ref h.length), some (.int (iI k)), some (.int (iI o)), some (.int (iI c)), some (.int (iI l)), some (.int (iI m)), some (.int (iI ((-1)))), none] [.int (iI s), .ref h.length] (mh h R I5 A5 N) _
  refine go_v (m := 155) (as := [.ref h.length, .int (iI s)]) (r := []) rfl rfl rfl mh_o rfl rfl (mr_put z (d + 9) ar 0 0 _ s h R I5 A5 N hc X5.2.1 T5.1 D5 (by omega) h_s5.1.1 h_s5.1.2 (by rw [h_s5.2]; exact s_s) (fun b => by rw [h_s5.2]; have := tb5 b; rw [te5] at this; exact this)) (fun v h1 hq => ?_)
  obtain ⟨rfl, I6, A6, rfl, R6, D6, u6, e6, jj6⟩ := hq
  have di6 := jj6 _ _ di5
  rw [h_s5.2] at D6
  have P6 := RU_P R6
  have X6 := RU_tr X5 R6 (Int.le_refl _)
  have T6 := BTX_RU X5.2.1 T5 R6
  have et_l6 := (DM_RU X5.2.1 T5 R6 h_l5.1.1 h_l5.1.2).trans et_l5
  have et_m6 := (DM_RU X5.2.1 T5 R6 h_m5.1.1 h_m5.1.2).trans et_m5
  have et_q6 := (DM_RU X5.2.1 T5 R6 h_q5.1.1 h_q5.1.2).trans et_q5
  have et_r6 := (DM_RU X5.2.1 T5 R6 h_r5.1.1 h_r5.1.2).trans et_r5
  have et_s6 := (DM_RU X5.2.1 T5 R6 h_s5.1.1 h_s5.1.2).trans et_s5
  have h_l6 := RU_carry P5 R6 h_l5 s_l
  have h_m6 := RU_carry P5 R6 h_m5 s_m
  have h_q6 := RU_carry P5 R6 h_q5 s_q
  have h_r6 := RU_carry P5 R6 h_r5 s_r
  have h_s6 := RU_carry P5 R6 h_s5 s_s
  have y6 := X6.2.2.1
  have z6 : I6 7 ≤ 140000 := P6.1
  have x6 : I 7 ≤ I6 7 := X6.1.2.1
  have ex6 : A6 1 o = A 1 o := (X6.1.2.2.1 o o0 o1).1
  clear et_l5 et_m5 et_q5 et_r5 et_s5 T5 h_l5 h_m5 h_q5 h_r5 h_s5 y5 z5 x5 ex5
  show xx_go (xt_P z) (d + 10) 154 352 [some (.ref h.length), some (.int (iI k)), some (.int (iI o)), some (.int (iI c)), some (.int (iI l)), some (.int (iI m)), some (.int (iI ((-1)))), none] [] (mh h R I6 A6 N) _
  refine go_a (pc' := 353) (ls' := [some (.ref h.length), some (.int (iI k)), some (.int (iI o)), some (.int (iI c)), some (.int (iI l)), some (.int (iI m)), some (.int (iI ((-1)))), none]) (st' := [.int (iI 1)]) rfl rfl ?_
  refine go_r rfl rfl rfl rfl rfl rfl ⟨1, I6, A6, N, rfl, rfl, RU_w X6 (by omega), Or.inr ⟨rfl, ⟨_, di6, hρ tl tm tm_l tm_m⟩, _, _, DR_w D6 (by omega) (Int.le_refl _) (Int.le_refl _), fun b9 b30 b400 => ?_⟩⟩
  have dm := D6.1
  have ds := D6.2.2.1
  have dv := D6.2.2.2
  have kk : KDR dd I6 A6 ar ≤ E + 128 * WD A o - I6 7 := KK_one (by omega) (by omega)
  omega
set_option maxRecDepth 4000 in
theorem mm_con_second (z : Value) (d : Nat) (ar : Int → Int) (ft : Nat → Int) (Fb : List (Nat × List Nat × ob_T)) (Tb : List (Nat × ob_T)) (ρ : Option (List ob_T)) (k o c E dd : Int) (h R : xx_H) (I : Nat → Int) (A : Nat → Int → Int) (N : Int → Int) (hc : 12 ≤ h.length) (hB : BI ar I A N) (k0 : 0 ≤ k) (k1 : k < 40) (ek : A 47 k = o) (o0 : 0 ≤ o) (o1 : o < I 7) (hF : FORM ar I A N o) (ec : A 49 k = c) (c0 : 0 ≤ c) (w : WD A o ≤ 1000) (hE : E + 128 * WD A o ≤ 140000) (d0 : 0 ≤ dd) (d1 : dd ≤ 39) (c9 : Int) (hcf : CFX ar I A o c9) (hX : BTX ar ft Fb Tb I A N) (w0 : I 49 = 0) (ef : A 1 o = 33) (hU : I 7 ≤ E + c9) (hρ : ∀ l m : ob_T, sp_tm ft (DM A N (A 1 (rt A 1 o))) = some l → sp_tm ft (DM A N (A 1 (rt A 2 o))) = some m → ρ = sp_cz [sp_opO (sp_eq (sp_c1 6833 (sp_c2 345281 l m)) m)]) : xx_cl (xt_P z) (d + 11) 154 [.ref h.length, .int (iI k)] (mh h R I A N) (fun v h1 => ∃ (b : Int) (I1 : Nat → Int) (A1 : Nat → Int → Int) (N1 : Int → Int), v = some (.int (iI b)) ∧ h1 = mh h R I1 A1 N1 ∧ RU ar 140000 I A N I1 A1 N1 ∧ ((b = 0 ∧ ρ = none) ∨ (b = 1 ∧ (∃ its : List (Option ob_T), DIT its I1 A1 N1 ∧ ρ = sp_cz its) ∧ ∃ S V : Int, DR ar 1190 S V I1 A1 ∧ (I1 49 = 0 → I1 67 ≤ 30 → SG (TZ A1 ar) (A1 38) (I1 67).toNat ≤ 400 → I1 7 + KDR dd I1 A1 ar ≤ E + 128 * WD A o)))) := by
  have hP := BI_P hB
  have n0 := BI_n0 hB
  have p9 := hP.1
  have nm := hB.1.2.1.1
  have n2 : A 1 2 < 0 := by rw [hB.1.2.1.2 2 (by decide) (by decide)]; decide
  obtain ⟨n, hL, n1, hF⟩ := hF
  have en : n = 3 ∧ TOK A ar (A 1 (rt A 1 o)) ∧ TOK A ar (A 1 (rt A 2 o)) := by
    rcases hF with q | q | q | q | q | q | q | q | q | q | q | q
    · omega
    · omega
    · exact ⟨q.2.1, q.2.2⟩
    · omega
    · omega
    · omega
    · omega
    · omega
    · omega
    · omega
    · omega
    · omega
  obtain ⟨rfl, tk1, tk2⟩ := en
  have wo := WD_pair hP o0 o1 (by omega)
  rw [if_neg (fun q => absurd q.1 (by omega))] at wo
  have v0 := VD_rt hP o0 o1 hL (by decide : 0 < 3)
  have v0e : VD A o = WD A (A 1 o) + VD A (rt A 1 o) := v0.1
  have wr : WD A (A 1 o) = 1 := WD_atom (by rw [hB.1.2.1.2 _ (by omega) (by omega)]; decide)
  have v1 := VD_rt hP o0 o1 hL (by decide : 1 < 3)
  have v1e : VD A (rt A 1 o) = WD A (A 1 (rt A 1 o)) + VD A (rt A 2 o) := v1.1
  have v2 := VD_rt hP o0 o1 hL (by decide : 2 < 3)
  have v2e : VD A (rt A 2 o) = WD A (A 1 (rt A 2 o)) + VD A (rt A 3 o) := v2.1
  have vz : VD A (rt A 3 o) = 0 := by rw [isL_end 3 o hL, VD_atom n0, if_pos rfl]
  have cf := hcf.2 (by omega)
  have cf2 := cf.2.1 (by omega)
  refine cl_go rfl ?_
  show xx_go (xt_P z) (d + 10) 154 0 [some (.ref h.length), some (.int (iI k)), none, none, none, none, none, none] [] (mh h R I A N) _
  refine go_a (pc' := 1) (ls' := [some (.ref h.length), some (.int (iI k)), none, none, none, none, none, none]) (st' := [.ref h.length]) rfl rfl ?_
  refine go_get rfl mh_o rfl rfl ?_
  refine go_a (pc' := 5) (ls' := [some (.ref h.length), some (.int (iI k)), none, none, none, none, none, none]) (st' := [.int (iI k), .ref (h.length + 47)]) rfl rfl ?_
  refine mi_ild rfl mh_a47 (by omega) (by omega) (by decide) ?_
  rw [ek]
  refine go_a (pc' := 7) (ls' := [some (.ref h.length), some (.int (iI k)), some (.int (iI o)), none, none, none, none, none]) (st' := []) rfl rfl ?_
  refine go_a (pc' := 8) (ls' := [some (.ref h.length), some (.int (iI k)), some (.int (iI o)), none, none, none, none, none]) (st' := [.ref h.length]) rfl rfl ?_
  refine go_get rfl mh_o rfl rfl ?_
  refine go_a (pc' := 12) (ls' := [some (.ref h.length), some (.int (iI k)), some (.int (iI o)), none, none, none, none, none]) (st' := [.int (iI k), .ref (h.length + 49)]) rfl rfl ?_
  refine mi_ild rfl mh_a49 (by omega) (by omega) (by decide) ?_
  rw [ec]
  refine go_a (pc' := 14) (ls' := [some (.ref h.length), some (.int (iI k)), some (.int (iI o)), some (.int (iI c)), none, none, none, none]) (st' := []) rfl rfl ?_
  refine go_a (pc' := 15) (ls' := [some (.ref h.length), some (.int (iI k)), some (.int (iI o)), some (.int (iI c)), none, none, none, none]) (st' := [.ref h.length]) rfl rfl ?_
  refine go_a (pc' := 16) (ls' := [some (.ref h.length), some (.int (iI k)), some (.int (iI o)), some (.int (iI c)), none, none, none, none]) (st' := [.int (iI 0), .ref h.length]) rfl rfl ?_
  refine go_put (j := 67) rfl mh_o rfl rfl (show 12 ≤ _ from hc) (show 67 < 86 by decide) rfl rfl ?_
  rw [mh_p67]
  obtain ⟨J, hJ⟩ : ∃ J : Nat → Int, J = su I 67 0 := ⟨_, rfl⟩
  rw [← hJ]
  have bJ : BX (fun j => j = 67) NO I A N J A N := by
    subst hJ
    exact BX_of hB.1.1 (fun j q => su_ne q) (fun a _ => rfl) rfl rfl rfl rfl rfl rfl rfl rfl rfl rfl
  have J7 : J 7 = I 7 := by subst hJ; rfl
  have J49 : J 49 = I 49 := by subst hJ; rfl
  have R0 : RU ar 0 I A N J A N := RU_of hB bJ (fun j q => by subst q; unfold FC; omega) (fun a q => absurd q (fun z => z)) (SZI_124 (A := A) (A1 := A) hB.1.2.2 rfl rfl rfl J7) (by subst hJ; rfl) (by subst hJ; rfl) (by rw [J49]; exact hB.2.2.2.2) (by omega) (fun _ => J49)
  have D0 : DR ar 0 0 0 J A := by subst hJ; exact DR_00
  have PJ := RU_P R0
  have T0 : BTX ar ft Fb Tb J A N := BTX_RU hB hX R0
  have di0 : DIT [] J A N := by
    subst hJ
    exact Or.inl ⟨w0, rfl⟩
  refine go_a (pc' := 20) (ls' := [some (.ref h.length), some (.int (iI k)), some (.int (iI o)), some (.int (iI c)), none, none, none, none]) (st' := [.ref h.length]) rfl rfl ?_
  refine go_a (pc' := 21) (ls' := [some (.ref h.length), some (.int (iI k)), some (.int (iI o)), some (.int (iI c)), none, none, none, none]) (st' := [.int (iI o), .ref h.length]) rfl rfl ?_
  refine go_v (m := 98) (as := [.ref h.length, .int (iI o)]) (r := []) rfl rfl rfl mh_o rfl rfl (mm_lenL z (d + 8) 3 o h R J A N hc PJ n0 o0 (by omega) hL) (fun v h1 hq => ?_)
  obtain ⟨rfl, rfl⟩ := hq
  show xx_go (xt_P z) (d + 10) 154 24 [some (.ref h.length), some (.int (iI k)), some (.int (iI o)), some (.int (iI c)), none, none, none, none] [.int (iI (((3 : Nat) : Int)))] (mh h R J A N) _
  refine go_a (pc' := 25) (ls' := [some (.ref h.length), some (.int (iI k)), some (.int (iI o)), some (.int (iI c)), none, none, none, none]) (st' := [.int (iI 1), .int (iI (((3 : Nat) : Int)))]) rfl rfl ?_
  refine mi_le (t := 107) rfl rfl (by omega) (by omega) (by omega) (by omega) (fun q => by omega) (fun _ => ?_)
  refine go_a (pc' := 29) (ls' := [some (.ref h.length), some (.int (iI k)), some (.int (iI o)), some (.int (iI c)), none, none, none, none]) (st' := [.ref h.length]) rfl rfl ?_
  refine go_get rfl mh_o rfl rfl ?_
  refine go_a (pc' := 33) (ls' := [some (.ref h.length), some (.int (iI k)), some (.int (iI o)), some (.int (iI c)), none, none, none, none]) (st' := [.int (iI o), .ref (h.length + 1)]) rfl rfl ?_
  refine mi_ild rfl mh_a1 (by omega) (by omega) (by decide) ?_
  refine go_a (pc' := 36) (ls' := [some (.ref h.length), some (.int (iI k)), some (.int (iI o)), some (.int (iI c)), none, none, none, none]) (st' := [.int (iI 37), .int (iI (A 1 o))]) rfl rfl ?_
  refine mi_eq (t := 107) rfl rfl (by omega) (by omega) (by omega) (by omega) (fun q => by omega) (fun _ => ?_)
  refine go_a (pc' := 40) (ls' := [some (.ref h.length), some (.int (iI k)), some (.int (iI o)), some (.int (iI c)), none, none, none, none]) (st' := [.ref h.length]) rfl rfl ?_
  refine go_get rfl mh_o rfl rfl ?_
  refine go_a (pc' := 44) (ls' := [some (.ref h.length), some (.int (iI k)), some (.int (iI o)), some (.int (iI c)), none, none, none, none]) (st' := [.int (iI o), .ref (h.length + 1)]) rfl rfl ?_
  refine mi_ild rfl mh_a1 (by omega) (by omega) (by decide) ?_
  refine go_a (pc' := 47) (ls' := [some (.ref h.length), some (.int (iI k)), some (.int (iI o)), some (.int (iI c)), none, none, none, none]) (st' := [.int (iI 38), .int (iI (A 1 o))]) rfl rfl ?_
  refine mi_eq (t := 107) rfl rfl (by omega) (by omega) (by omega) (by omega) (fun q => by omega) (fun _ => ?_)
  refine go_a (pc' := 51) (ls' := [some (.ref h.length), some (.int (iI k)), some (.int (iI o)), some (.int (iI c)), none, none, none, none]) (st' := [.ref h.length]) rfl rfl ?_
  refine go_get rfl mh_o rfl rfl ?_
  refine go_a (pc' := 55) (ls' := [some (.ref h.length), some (.int (iI k)), some (.int (iI o)), some (.int (iI c)), none, none, none, none]) (st' := [.int (iI o), .ref (h.length + 1)]) rfl rfl ?_
  refine mi_ild rfl mh_a1 (by omega) (by omega) (by decide) ?_
  refine go_a (pc' := 58) (ls' := [some (.ref h.length), some (.int (iI k)), some (.int (iI o)), some (.int (iI c)), none, none, none, none]) (st' := [.int (iI 39), .int (iI (A 1 o))]) rfl rfl ?_
  refine mi_eq (t := 107) rfl rfl (by omega) (by omega) (by omega) (by omega) (fun q => by omega) (fun _ => ?_)
  refine go_a (pc' := 62) (ls' := [some (.ref h.length), some (.int (iI k)), some (.int (iI o)), some (.int (iI c)), none, none, none, none]) (st' := [.ref h.length]) rfl rfl ?_
  refine go_get rfl mh_o rfl rfl ?_
  refine go_a (pc' := 66) (ls' := [some (.ref h.length), some (.int (iI k)), some (.int (iI o)), some (.int (iI c)), none, none, none, none]) (st' := [.int (iI o), .ref (h.length + 1)]) rfl rfl ?_
  refine mi_ild rfl mh_a1 (by omega) (by omega) (by decide) ?_
  refine go_a (pc' := 69) (ls' := [some (.ref h.length), some (.int (iI k)), some (.int (iI o)), some (.int (iI c)), none, none, none, none]) (st' := [.int (iI 41), .int (iI (A 1 o))]) rfl rfl ?_
  refine mi_eq (t := 107) rfl rfl (by omega) (by omega) (by omega) (by omega) (fun q => by omega) (fun _ => ?_)
  refine go_a (pc' := 73) (ls' := [some (.ref h.length), some (.int (iI k)), some (.int (iI o)), some (.int (iI c)), none, none, none, none]) (st' := [.ref h.length]) rfl rfl ?_
  refine go_get rfl mh_o rfl rfl ?_
  refine go_a (pc' := 77) (ls' := [some (.ref h.length), some (.int (iI k)), some (.int (iI o)), some (.int (iI c)), none, none, none, none]) (st' := [.int (iI o), .ref (h.length + 1)]) rfl rfl ?_
  refine mi_ild rfl mh_a1 (by omega) (by omega) (by decide) ?_
  refine go_a (pc' := 80) (ls' := [some (.ref h.length), some (.int (iI k)), some (.int (iI o)), some (.int (iI c)), none, none, none, none]) (st' := [.int (iI 42), .int (iI (A 1 o))]) rfl rfl ?_
  refine mi_eq (t := 107) rfl rfl (by omega) (by omega) (by omega) (by omega) (fun q => by omega) (fun _ => ?_)
  refine go_a (pc' := 84) (ls' := [some (.ref h.length), some (.int (iI k)), some (.int (iI o)), some (.int (iI c)), none, none, none, none]) (st' := [.ref h.length]) rfl rfl ?_
  refine go_get rfl mh_o rfl rfl ?_
  refine go_a (pc' := 88) (ls' := [some (.ref h.length), some (.int (iI k)), some (.int (iI o)), some (.int (iI c)), none, none, none, none]) (st' := [.int (iI o), .ref (h.length + 1)]) rfl rfl ?_
  refine mi_ild rfl mh_a1 (by omega) (by omega) (by decide) ?_
  refine go_a (pc' := 91) (ls' := [some (.ref h.length), some (.int (iI k)), some (.int (iI o)), some (.int (iI c)), none, none, none, none]) (st' := [.int (iI 43), .int (iI (A 1 o))]) rfl rfl ?_
  refine mi_eq (t := 107) rfl rfl (by omega) (by omega) (by omega) (by omega) (fun q => by omega) (fun _ => ?_)
  refine go_a (pc' := 95) (ls' := [some (.ref h.length), some (.int (iI k)), some (.int (iI o)), some (.int (iI c)), none, none, none, none]) (st' := [.ref h.length]) rfl rfl ?_
  refine go_a (pc' := 96) (ls' := [some (.ref h.length), some (.int (iI k)), some (.int (iI o)), some (.int (iI c)), none, none, none, none]) (st' := [.ref h.length, .ref h.length]) rfl rfl ?_
  refine go_a (pc' := 97) (ls' := [some (.ref h.length), some (.int (iI k)), some (.int (iI o)), some (.int (iI c)), none, none, none, none]) (st' := [.int (iI o), .ref h.length, .ref h.length]) rfl rfl ?_
  refine go_a (pc' := 98) (ls' := [some (.ref h.length), some (.int (iI k)), some (.int (iI o)), some (.int (iI c)), none, none, none, none]) (st' := [.int (iI 1), .int (iI o), .ref h.length, .ref h.length]) rfl rfl ?_
  have Lxl := isL_extB hP R0.1 3 o o0 o1 hL
  have ixl := it_BX hP R0.1 o0 o1 hL (by decide : 1 < 3)
  refine go_v (m := 99) (as := [.ref h.length, .int (iI o), .int (iI 1)]) (r := [.ref h.length]) rfl rfl rfl mh_o rfl rfl (mm_nth z (d + 9) 1 3 o h R J A N hc PJ (by decide) o0 (by omega) Lxl (by omega)) (fun v h1 hq => ?_)
  obtain ⟨rfl, rfl⟩ := hq
  rw [ixl]
  show xx_go (xt_P z) (d + 10) 154 101 [some (.ref h.length), some (.int (iI k)), some (.int (iI o)), some (.int (iI c)), none, none, none, none] [.int (iI (A 1 (rt A 1 o))), .ref h.length] (mh h R J A N) _
  have wxl := (WD_BX hP R0.1 v1.2.1.1 v1.2.1.2).1
  refine go_v (m := 105) (as := [.ref h.length, .int (iI (A 1 (rt A 1 o)))]) (r := []) rfl rfl rfl mh_o rfl rfl (mr_term z (d + 2) ar (A 1 (rt A 1 o)) h R J A N hc R0.2.1 v1.2.1.1 (by omega) (by omega) (by omega)) (fun v h1 hq => ?_)
  obtain ⟨l, I1, A1, rfl, rfl, R1, K1, ⟨u1, bb1⟩, ht1⟩ := hq
  have tt1 : ((0 ≤ l ∧ l < I1 7) ∧ TZ A1 ar l = TS A ar (A 1 (rt A 1 o))) ∧ (1 ≤ TS A ar (A 1 (rt A 1 o)) ∧ TS A ar (A 1 (rt A 1 o)) ≤ 120) ∧ TS A ar (A 1 (rt A 1 o)) ≤ WD A (A 1 (rt A 1 o)) ∧ NFT A1 (A 1 (rt A 1 o)) l := by
    have tk := TOK_BX hP R0.1 v1.2.1.1 v1.2.1.2 tk1
    rcases ht1 with q | q
    · exact absurd tk q.2
    · have ts := TS_BX (ar := ar) hP R0.1 v1.2.1.1 v1.2.1.2
      rw [ts, wxl] at q
      exact ⟨⟨q.1, q.2.2.2.1⟩, by omega, q.2.2.2.2.1, q.2.2.2.2.2⟩
  obtain ⟨h_l1, sb_l, sw_l, nf_l⟩ := tt1
  have s_l := sb_l.1
  have tm_l := (TQ_tm R0.2.1 T0 v1.2.1.1 (by omega) (show TQ ar (A 1 (rt A 1 o)) l J A N I1 A1 from ⟨bb1, R1.2.1, by have := R1.2.2.1; omega, u1, ht1⟩)).2 (by omega)
  rw [DM_RU hB hX R0 v1.2.1.1 v1.2.1.2] at tm_l
  obtain ⟨tl, et_l1⟩ : ∃ q : ob_T, DM A1 N l = q := ⟨_, rfl⟩
  rw [et_l1] at tm_l
  have tt_l := tm_ts tm_l
  have di1 := DIT_BX R0.2.1 T0.1 D0 bb1 (by unfold FB; omega) (by unfold GT; omega) (by unfold GT; omega) (by unfold FB; omega) (by unfold GT; omega) u1 di0
  clear bb1 ht1
  rw [wxl] at R1
  have D1 := K1 _ _ _ D0
  have P1 := RU_P R1
  have X1 := RU_tr R0 R1 (Int.le_refl _)
  have T1 := BTX_RU R0.2.1 T0 R1
  have y1 := X1.2.2.1
  have z1 : I1 7 ≤ 140000 := P1.1
  have x1 : I 7 ≤ I1 7 := X1.1.2.1
  have ex1 : A1 1 o = A 1 o := (X1.1.2.2.1 o o0 o1).1
  clear T0
  show xx_go (xt_P z) (d + 10) 154 104 [some (.ref h.length), some (.int (iI k)), some (.int (iI o)), some (.int (iI c)), none, none, none, none] [.int (iI l)] (mh h R I1 A1 N) _
  refine go_a (pc' := 108) (ls' := [some (.ref h.length), some (.int (iI k)), some (.int (iI o)), some (.int (iI c)), none, none, none, none]) (st' := [.int (iI l)]) rfl rfl ?_
  refine go_a (pc' := 110) (ls' := [some (.ref h.length), some (.int (iI k)), some (.int (iI o)), some (.int (iI c)), some (.int (iI l)), none, none, none]) (st' := []) rfl rfl ?_
  refine go_a (pc' := 111) (ls' := [some (.ref h.length), some (.int (iI k)), some (.int (iI o)), some (.int (iI c)), some (.int (iI l)), none, none, none]) (st' := [.ref h.length]) rfl rfl ?_
  refine go_get rfl mh_o rfl rfl ?_
  refine go_a (pc' := 115) (ls' := [some (.ref h.length), some (.int (iI k)), some (.int (iI o)), some (.int (iI c)), some (.int (iI l)), none, none, none]) (st' := [.int (iI o), .ref (h.length + 1)]) rfl rfl ?_
  refine mi_ild rfl mh_a1 (by omega) (by omega) (by decide) ?_
  refine go_a (pc' := 118) (ls' := [some (.ref h.length), some (.int (iI k)), some (.int (iI o)), some (.int (iI c)), some (.int (iI l)), none, none, none]) (st' := [.int (iI 32), .int (iI (A1 1 o))]) rfl rfl ?_
  refine mi_lt (t := 145) rfl rfl (by omega) (by omega) (by omega) (by omega) (fun q => by omega) (fun _ => ?_)
  refine go_a (pc' := 122) (ls' := [some (.ref h.length), some (.int (iI k)), some (.int (iI o)), some (.int (iI c)), some (.int (iI l)), none, none, none]) (st' := [.ref h.length]) rfl rfl ?_
  refine go_get rfl mh_o rfl rfl ?_
  refine go_a (pc' := 126) (ls' := [some (.ref h.length), some (.int (iI k)), some (.int (iI o)), some (.int (iI c)), some (.int (iI l)), none, none, none]) (st' := [.int (iI o), .ref (h.length + 1)]) rfl rfl ?_
  refine mi_ild rfl mh_a1 (by omega) (by omega) (by decide) ?_
  refine go_a (pc' := 129) (ls' := [some (.ref h.length), some (.int (iI k)), some (.int (iI o)), some (.int (iI c)), some (.int (iI l)), none, none, none]) (st' := [.int (iI 36), .int (iI (A1 1 o))]) rfl rfl ?_
  refine mi_gt (t := 145) rfl rfl (by omega) (by omega) (by omega) (by omega) (fun q => by omega) (fun _ => ?_)
  refine go_a (pc' := 133) (ls' := [some (.ref h.length), some (.int (iI k)), some (.int (iI o)), some (.int (iI c)), some (.int (iI l)), none, none, none]) (st' := [.ref h.length]) rfl rfl ?_
  refine go_a (pc' := 134) (ls' := [some (.ref h.length), some (.int (iI k)), some (.int (iI o)), some (.int (iI c)), some (.int (iI l)), none, none, none]) (st' := [.ref h.length, .ref h.length]) rfl rfl ?_
  refine go_a (pc' := 135) (ls' := [some (.ref h.length), some (.int (iI k)), some (.int (iI o)), some (.int (iI c)), some (.int (iI l)), none, none, none]) (st' := [.int (iI o), .ref h.length, .ref h.length]) rfl rfl ?_
  refine go_a (pc' := 136) (ls' := [some (.ref h.length), some (.int (iI k)), some (.int (iI o)), some (.int (iI c)), some (.int (iI l)), none, none, none]) (st' := [.int (iI 2), .int (iI o), .ref h.length, .ref h.length]) rfl rfl ?_
  have Lxm := isL_extB hP X1.1 3 o o0 o1 hL
  have ixm := it_BX hP X1.1 o0 o1 hL (by decide : 2 < 3)
  refine go_v (m := 99) (as := [.ref h.length, .int (iI o), .int (iI 2)]) (r := [.ref h.length]) rfl rfl rfl mh_o rfl rfl (mm_nth z (d + 9) 2 3 o h R I1 A1 N hc P1 (by decide) o0 (by omega) Lxm (by omega)) (fun v h1 hq => ?_)
  obtain ⟨rfl, rfl⟩ := hq
  rw [ixm]
  show xx_go (xt_P z) (d + 10) 154 139 [some (.ref h.length), some (.int (iI k)), some (.int (iI o)), some (.int (iI c)), some (.int (iI l)), none, none, none] [.int (iI (A 1 (rt A 2 o))), .ref h.length] (mh h R I1 A1 N) _
  have wxm := (WD_BX hP X1.1 v2.2.1.1 v2.2.1.2).1
  refine go_v (m := 105) (as := [.ref h.length, .int (iI (A 1 (rt A 2 o)))]) (r := []) rfl rfl rfl mh_o rfl rfl (mr_term z (d + 2) ar (A 1 (rt A 2 o)) h R I1 A1 N hc X1.2.1 v2.2.1.1 (by omega) (by omega) (by omega)) (fun v h1 hq => ?_)
  obtain ⟨m, I2, A2, rfl, rfl, R2, K2, ⟨u2, bb2⟩, ht2⟩ := hq
  have tt2 : ((0 ≤ m ∧ m < I2 7) ∧ TZ A2 ar m = TS A ar (A 1 (rt A 2 o))) ∧ (1 ≤ TS A ar (A 1 (rt A 2 o)) ∧ TS A ar (A 1 (rt A 2 o)) ≤ 120) ∧ TS A ar (A 1 (rt A 2 o)) ≤ WD A (A 1 (rt A 2 o)) ∧ NFT A2 (A 1 (rt A 2 o)) m := by
    have tk := TOK_BX hP X1.1 v2.2.1.1 v2.2.1.2 tk2
    rcases ht2 with q | q
    · exact absurd tk q.2
    · have ts := TS_BX (ar := ar) hP X1.1 v2.2.1.1 v2.2.1.2
      rw [ts, wxm] at q
      exact ⟨⟨q.1, q.2.2.2.1⟩, by omega, q.2.2.2.2.1, q.2.2.2.2.2⟩
  obtain ⟨h_m2, sb_m, sw_m, nf_m⟩ := tt2
  have s_m := sb_m.1
  have tm_m := (TQ_tm X1.2.1 T1 v2.2.1.1 (by omega) (show TQ ar (A 1 (rt A 2 o)) m I1 A1 N I2 A2 from ⟨bb2, R2.2.1, by have := R2.2.2.1; omega, u2, ht2⟩)).2 (by omega)
  rw [DM_RU hB hX X1 v2.2.1.1 v2.2.1.2] at tm_m
  obtain ⟨tm, et_m2⟩ : ∃ q : ob_T, DM A2 N m = q := ⟨_, rfl⟩
  rw [et_m2] at tm_m
  have tt_m := tm_ts tm_m
  have di2 := DIT_BX X1.2.1 T1.1 D1 bb2 (by unfold FB; omega) (by unfold GT; omega) (by unfold GT; omega) (by unfold FB; omega) (by unfold GT; omega) u2 di1
  clear bb2 ht2
  rw [wxm] at R2
  have D2 := K2 _ _ _ D1
  have P2 := RU_P R2
  have X2 := RU_tr X1 R2 (Int.le_refl _)
  have T2 := BTX_RU X1.2.1 T1 R2
  have et_l2 := (DM_RU X1.2.1 T1 R2 h_l1.1.1 h_l1.1.2).trans et_l1
  have h_l2 := RU_carry P1 R2 h_l1 s_l
  have y2 := X2.2.2.1
  have z2 : I2 7 ≤ 140000 := P2.1
  have x2 : I 7 ≤ I2 7 := X2.1.2.1
  have ex2 : A2 1 o = A 1 o := (X2.1.2.2.1 o o0 o1).1
  clear et_l1 T1 h_l1 y1 z1 x1 ex1
  show xx_go (xt_P z) (d + 10) 154 142 [some (.ref h.length), some (.int (iI k)), some (.int (iI o)), some (.int (iI c)), some (.int (iI l)), none, none, none] [.int (iI m)] (mh h R I2 A2 N) _
  refine go_a (pc' := 146) (ls' := [some (.ref h.length), some (.int (iI k)), some (.int (iI o)), some (.int (iI c)), some (.int (iI l)), none, none, none]) (st' := [.int (iI m)]) rfl rfl ?_
  refine go_a (pc' := 148) (ls' := [some (.ref h.length), some (.int (iI k)), some (.int (iI o)), some (.int (iI c)), some (.int (iI l)), some (.int (iI m)), none, none]) (st' := []) rfl rfl ?_
  refine go_a (pc' := 149) (ls' := [some (.ref h.length), some (.int (iI k)), some (.int (iI o)), some (.int (iI c)), some (.int (iI l)), some (.int (iI m)), none, none]) (st' := [.ref h.length]) rfl rfl ?_
  refine go_get rfl mh_o rfl rfl ?_
  refine go_a (pc' := 153) (ls' := [some (.ref h.length), some (.int (iI k)), some (.int (iI o)), some (.int (iI c)), some (.int (iI l)), some (.int (iI m)), none, none]) (st' := [.int (iI o), .ref (h.length + 1)]) rfl rfl ?_
  refine mi_ild rfl mh_a1 (by omega) (by omega) (by decide) ?_
  refine go_a (pc' := 156) (ls' := [some (.ref h.length), some (.int (iI k)), some (.int (iI o)), some (.int (iI c)), some (.int (iI l)), some (.int (iI m)), none, none]) (st' := [.int (iI 35), .int (iI (A2 1 o))]) rfl rfl ?_
  refine mi_eq (t := 170) rfl rfl (by omega) (by omega) (by omega) (by omega) (fun q => by omega) (fun _ => ?_)
  refine go_a (pc' := 160) (ls' := [some (.ref h.length), some (.int (iI k)), some (.int (iI o)), some (.int (iI c)), some (.int (iI l)), some (.int (iI m)), none, none]) (st' := [.ref h.length]) rfl rfl ?_
  refine go_get rfl mh_o rfl rfl ?_
  refine go_a (pc' := 164) (ls' := [some (.ref h.length), some (.int (iI k)), some (.int (iI o)), some (.int (iI c)), some (.int (iI l)), some (.int (iI m)), none, none]) (st' := [.int (iI o), .ref (h.length + 1)]) rfl rfl ?_
  refine mi_ild rfl mh_a1 (by omega) (by omega) (by decide) ?_
  refine go_a (pc' := 167) (ls' := [some (.ref h.length), some (.int (iI k)), some (.int (iI o)), some (.int (iI c)), some (.int (iI l)), some (.int (iI m)), none, none]) (st' := [.int (iI 36), .int (iI (A2 1 o))]) rfl rfl ?_
  refine mi_ne (t := 183) rfl rfl (by omega) (by omega) (by omega) (by omega) (fun _ => ?_) (fun q => by omega)
  refine go_a (pc' := 184) (ls' := [some (.ref h.length), some (.int (iI k)), some (.int (iI o)), some (.int (iI c)), some (.int (iI l)), some (.int (iI m)), none, none]) (st' := [.int (iI ((-1)))]) rfl rfl ?_
  refine go_a (pc' := 186) (ls' := [some (.ref h.length), some (.int (iI k)), some (.int (iI o)), some (.int (iI c)), some (.int (iI l)), some (.int (iI m)), some (.int (iI ((-1)))), none]) (st' := []) rfl rfl ?_
  refine go_a (pc' := 187) (ls' := [some (.ref h.length), some (.int (iI k)), some (.int (iI o)), some (.int (iI c)), some (.int (iI l)), some (.int (iI m)), some (.int (iI ((-1)))), none]) (st' := [.ref h.length]) rfl rfl ?_
  refine go_get rfl mh_o rfl rfl ?_
  refine go_a (pc' := 191) (ls' := [some (.ref h.length), some (.int (iI k)), some (.int (iI o)), some (.int (iI c)), some (.int (iI l)), some (.int (iI m)), some (.int (iI ((-1)))), none]) (st' := [.int (iI o), .ref (h.length + 1)]) rfl rfl ?_
  refine mi_ild rfl mh_a1 (by omega) (by omega) (by decide) ?_
  rw [ex2]
  refine mi_ts (c := 33) (t := 354) rfl ef rfl ?_
  refine go_a (pc' := 355) (ls' := [some (.ref h.length), some (.int (iI k)), some (.int (iI o)), some (.int (iI c)), some (.int (iI l)), some (.int (iI m)), some (.int (iI ((-1)))), none]) (st' := [.ref h.length]) rfl rfl ?_
  refine go_a (pc' := 356) (ls' := [some (.ref h.length), some (.int (iI k)), some (.int (iI o)), some (.int (iI c)), some (.int (iI l)), some (.int (iI m)), some (.int (iI ((-1)))), none]) (st' := [.ref h.length, .ref h.length]) rfl rfl ?_
  refine go_a (pc' := 357) (ls' := [some (.ref h.length), some (.int (iI k)), some (.int (iI o)), some (.int (iI c)), some (.int (iI l)), some (.int (iI m)), some (.int (iI ((-1)))), none]) (st' := [.int (iI 4), .ref h.length, .ref h.length]) rfl rfl ?_
  refine go_a (pc' := 358) (ls' := [some (.ref h.length), some (.int (iI k)), some (.int (iI o)), some (.int (iI c)), some (.int (iI l)), some (.int (iI m)), some (.int (iI ((-1)))), none]) (st' := [.ref h.length, .int (iI 4), .ref h.length, .ref h.length]) rfl rfl ?_
  refine go_a (pc' := 360) (ls' := [some (.ref h.length), some (.int (iI k)), some (.int (iI o)), some (.int (iI c)), some (.int (iI l)), some (.int (iI m)), some (.int (iI ((-1)))), none]) (st' := [.int (iI 12), .ref h.length, .int (iI 4), .ref h.length, .ref h.length]) rfl rfl ?_
  refine go_a (pc' := 361) (ls' := [some (.ref h.length), some (.int (iI k)), some (.int (iI o)), some (.int (iI c)), some (.int (iI l)), some (.int (iI m)), some (.int (iI ((-1)))), none]) (st' := [.ref h.length, .int (iI 12), .ref h.length, .int (iI 4), .ref h.length, .ref h.length]) rfl rfl ?_
  refine go_a (pc' := 362) (ls' := [some (.ref h.length), some (.int (iI k)), some (.int (iI o)), some (.int (iI c)), some (.int (iI l)), some (.int (iI m)), some (.int (iI ((-1)))), none]) (st' := [.int (iI 5), .ref h.length, .int (iI 12), .ref h.length, .int (iI 4), .ref h.length, .ref h.length]) rfl rfl ?_
  refine go_a (pc' := 364) (ls' := [some (.ref h.length), some (.int (iI k)), some (.int (iI o)), some (.int (iI c)), some (.int (iI l)), some (.int (iI m)), some (.int (iI ((-1)))), none]) (st' := [.int (iI l), .int (iI 5), .ref h.length, .int (iI 12), .ref h.length, .int (iI 4), .ref h.length, .ref h.length]) rfl rfl ?_
  refine go_a (pc' := 366) (ls' := [some (.ref h.length), some (.int (iI k)), some (.int (iI o)), some (.int (iI c)), some (.int (iI l)), some (.int (iI m)), some (.int (iI ((-1)))), none]) (st' := [.int (iI m), .int (iI l), .int (iI 5), .ref h.length, .int (iI 12), .ref h.length, .int (iI 4), .ref h.length, .ref h.length]) rfl rfl ?_
  refine go_v (m := 156) (as := [.ref h.length, .int (iI 5), .int (iI l), .int (iI m)]) (r := [.int (iI 12), .ref h.length, .int (iI 4), .ref h.length, .ref h.length]) rfl rfl rfl mh_o rfl rfl (mr_two z (d + 3) ar 5 l m h R I2 A2 N hc X2.2.1 T2.1 (by decide) (by omega) (by decide) (by omega) h_l2.1.1 h_l2.1.2 (by rw [h_l2.2]; exact s_l) h_m2.1.1 h_m2.1.2 (by rw [h_m2.2]; exact s_m) (X2.2.1.2.1.1.1.2.1 5 (by decide) (by decide)).symm) (fun v h1 hq => ?_)
  obtain ⟨q, I3, A3, rfl, rfl, R3, K3, tv3, tb3, te3, dt3, dj3⟩ := hq
  rw [(show DM A2 N 5 = .var 345281 from T2.1.2 5 (by decide)), et_l2, et_m2] at dt3 dj3
  have et_q3 : DM A3 N q = sp_c2 345281 tl tm := dt3
  have di3 : DIM _ (sp_opO (sp_c2 345281 tl tm)) _ _ _ _ := dj3 _ _ _ _ D2 di2
  rw [h_l2.2, h_m2.2] at te3
  have D3 := K3 _ _ _ D2
  have h_q3 : (0 ≤ q ∧ q < I3 7) ∧ TZ A3 ar q = 1 + TS A ar (A 1 (rt A 1 o)) + TS A ar (A 1 (rt A 2 o)) := ⟨tv3.1, te3⟩
  have s_q : 1 ≤ 1 + TS A ar (A 1 (rt A 1 o)) + TS A ar (A 1 (rt A 2 o)) := by rw [← te3]; exact tv3.2
  have P3 := RU_P R3
  have X3 := RU_tr X2 R3 (Int.le_refl _)
  have T3 := BTX_RU X2.2.1 T2 R3
  have et_l3 := (DM_RU X2.2.1 T2 R3 h_l2.1.1 h_l2.1.2).trans et_l2
  have et_m3 := (DM_RU X2.2.1 T2 R3 h_m2.1.1 h_m2.1.2).trans et_m2
  have h_l3 := RU_carry P2 R3 h_l2 s_l
  have h_m3 := RU_carry P2 R3 h_m2 s_m
  have y3 := X3.2.2.1
  have z3 : I3 7 ≤ 140000 := P3.1
  have x3 : I 7 ≤ I3 7 := X3.1.2.1
  have ex3 : A3 1 o = A 1 o := (X3.1.2.2.1 o o0 o1).1
  clear et_l2 et_m2 T2 h_l2 h_m2 y2 z2 x2 ex2
  show xx_go (xt_P z) (d + 10) 154 369 [some (.ref h.length), some (.int (iI k)), some (.int (iI o)), some (.int (iI c)), some (.int (iI l)), some (.int (iI m)), some (.int (iI ((-1)))), none] [.int (iI q), .int (iI 12), .ref h.length, .int (iI 4), .ref h.length, .ref h.length] (mh h R I3 A3 N) _
  refine go_a (pc' := 370) (ls' := [some (.ref h.length), some (.int (iI k)), some (.int (iI o)), some (.int (iI c)), some (.int (iI l)), some (.int (iI m)), some (.int (iI ((-1)))), none]) (st' := [.int (iI ((-1))), .int (iI q), .int (iI 12), .ref h.length, .int (iI 4), .ref h.length, .ref h.length]) rfl rfl ?_
  refine go_a (pc' := 371) (ls' := [some (.ref h.length), some (.int (iI k)), some (.int (iI o)), some (.int (iI c)), some (.int (iI l)), some (.int (iI m)), some (.int (iI ((-1)))), none]) (st' := [.int (iI ((-1))), .int (iI ((-1))), .int (iI q), .int (iI 12), .ref h.length, .int (iI 4), .ref h.length, .ref h.length]) rfl rfl ?_
  refine go_v (m := 127) (as := [.ref h.length, .int (iI 12), .int (iI q), .int (iI ((-1))), .int (iI ((-1)))]) (r := [.int (iI 4), .ref h.length, .ref h.length]) rfl rfl rfl mh_o rfl rfl (mr_one z (d + 4) ar 12 q h R I3 A3 N hc X3.2.1 T3.1 (by decide) (by omega) (by decide) (by omega) h_q3.1.1 h_q3.1.2 (by rw [h_q3.2]; exact s_q) (X3.2.1.2.1.1.1.2.2 12 (by decide) (by decide)).symm) (fun v h1 hq => ?_)
  obtain ⟨r, I4, A4, rfl, rfl, R4, K4, tv4, tb4, te4, dt4, dj4⟩ := hq
  rw [(show DM A3 N 12 = .var 6833 from T3.1.2 12 (by decide)), et_q3] at dt4 dj4
  have et_r4 : DM A4 N r = sp_c1 6833 (sp_c2 345281 tl tm) := dt4
  have di4 : DIM _ (sp_opO (sp_c1 6833 (sp_c2 345281 tl tm))) _ _ _ _ := DIM_up (fun it q => dj4 it _ _ _ D3 q) R4 (c1_0 rfl) di3
  rw [h_q3.2] at te4
  have D4 := K4 _ _ _ D3
  have h_r4 : (0 ≤ r ∧ r < I4 7) ∧ TZ A4 ar r = 1 + (1 + TS A ar (A 1 (rt A 1 o)) + TS A ar (A 1 (rt A 2 o))) := ⟨tv4.1, te4⟩
  have s_r : 1 ≤ 1 + (1 + TS A ar (A 1 (rt A 1 o)) + TS A ar (A 1 (rt A 2 o))) := by rw [← te4]; exact tv4.2
  have P4 := RU_P R4
  have X4 := RU_tr X3 R4 (Int.le_refl _)
  have T4 := BTX_RU X3.2.1 T3 R4
  have et_l4 := (DM_RU X3.2.1 T3 R4 h_l3.1.1 h_l3.1.2).trans et_l3
  have et_m4 := (DM_RU X3.2.1 T3 R4 h_m3.1.1 h_m3.1.2).trans et_m3
  have et_q4 := (DM_RU X3.2.1 T3 R4 h_q3.1.1 h_q3.1.2).trans et_q3
  have h_l4 := RU_carry P3 R4 h_l3 s_l
  have h_m4 := RU_carry P3 R4 h_m3 s_m
  have h_q4 := RU_carry P3 R4 h_q3 s_q
  have y4 := X4.2.2.1
  have z4 : I4 7 ≤ 140000 := P4.1
  have x4 : I 7 ≤ I4 7 := X4.1.2.1
  have ex4 : A4 1 o = A 1 o := (X4.1.2.2.1 o o0 o1).1
  clear et_l3 et_m3 et_q3 T3 h_l3 h_m3 h_q3 y3 z3 x3 ex3
  show xx_go (xt_P z) (d + 10) 154 374 [some (.ref h.length), some (.int (iI k)), some (.int (iI o)), some (.int (iI c)), some (.int (iI l)), some (.int (iI m)), some (.int (iI ((-1)))), none] [.int (iI r), .int (iI 4), .ref h.length, .ref h.length] (mh h R I4 A4 N) _
  refine go_a (pc' := 376) (ls' := [some (.ref h.length), some (.int (iI k)), some (.int (iI o)), some (.int (iI c)), some (.int (iI l)), some (.int (iI m)), some (.int (iI ((-1)))), none]) (st' := [.int (iI m), .int (iI r), .int (iI 4), .ref h.length, .ref h.length]) rfl rfl ?_
  refine go_v (m := 156) (as := [.ref h.length, .int (iI 4), .int (iI r), .int (iI m)]) (r := [.ref h.length]) rfl rfl rfl mh_o rfl rfl (mr_two z (d + 3) ar 4 r m h R I4 A4 N hc X4.2.1 T4.1 (by decide) (by omega) (by decide) (by omega) h_r4.1.1 h_r4.1.2 (by rw [h_r4.2]; exact s_r) h_m4.1.1 h_m4.1.2 (by rw [h_m4.2]; exact s_m) (X4.2.1.2.1.1.1.2.1 4 (by decide) (by decide)).symm) (fun v h1 hq => ?_)
  obtain ⟨s, I5, A5, rfl, rfl, R5, K5, tv5, tb5, te5, dt5, dj5⟩ := hq
  rw [(show DM A4 N 4 = .var 26209844 from T4.1.2 4 (by decide)), et_r4, et_m4] at dt5 dj5
  have et_s5 : DM A5 N s = sp_c2 26209844 (sp_c1 6833 (sp_c2 345281 tl tm)) tm := dt5
  have di5 : DIM _ (sp_opO (sp_c2 26209844 (sp_c1 6833 (sp_c2 345281 tl tm)) tm)) _ _ _ _ := DIM_up (fun it q => dj5 it _ _ _ D4 q) R5 (c2_0 rfl) di4
  rw [h_r4.2, h_m4.2] at te5
  have D5 := K5 _ _ _ D4
  have h_s5 : (0 ≤ s ∧ s < I5 7) ∧ TZ A5 ar s = 1 + (1 + (1 + TS A ar (A 1 (rt A 1 o)) + TS A ar (A 1 (rt A 2 o)))) + TS A ar (A 1 (rt A 2 o)) := ⟨tv5.1, te5⟩
  have s_s : 1 ≤ 1 + (1 + (1 + TS A ar (A 1 (rt A 1 o)) + TS A ar (A 1 (rt A 2 o)))) + TS A ar (A 1 (rt A 2 o)) := by rw [← te5]; exact tv5.2
  have P5 := RU_P R5
  have X5 := RU_tr X4 R5 (Int.le_refl _)
  have T5 := BTX_RU X4.2.1 T4 R5
  have et_l5 := (DM_RU X4.2.1 T4 R5 h_l4.1.1 h_l4.1.2).trans et_l4
  have et_m5 := (DM_RU X4.2.1 T4 R5 h_m4.1.1 h_m4.1.2).trans et_m4
  have et_q5 := (DM_RU X4.2.1 T4 R5 h_q4.1.1 h_q4.1.2).trans et_q4
  have et_r5 := (DM_RU X4.2.1 T4 R5 h_r4.1.1 h_r4.1.2).trans et_r4
  have h_l5 := RU_carry P4 R5 h_l4 s_l
  have h_m5 := RU_carry P4 R5 h_m4 s_m
  have h_q5 := RU_carry P4 R5 h_q4 s_q
  have h_r5 := RU_carry P4 R5 h_r4 s_r
  have y5 := X5.2.2.1
  have z5 : I5 7 ≤ 140000 := P5.1
  have x5 : I 7 ≤ I5 7 := X5.1.2.1
  have ex5 : A5 1 o = A 1 o := (X5.1.2.2.1 o o0 o1).1
  clear et_l4 et_m4 et_q4 et_r4 T4 h_l4 h_m4 h_q4 h_r4 y4 z4 x4 ex4
  show xx_go (xt_P z) (d + 10) 154 379 [some (.ref h.length), some (.int (iI k)), some (.int (iI o)), some (.int (iI c)), some (.int (iI l)), some (.int (iI m)), some (.int (iI ((-1)))), none] [.int (iI s), .ref h.length] (mh h R I5 A5 N) _
  refine go_v (m := 155) (as := [.ref h.length, .int (iI s)]) (r := []) rfl rfl rfl mh_o rfl rfl (mr_put z (d + 9) ar 0 0 _ s h R I5 A5 N hc X5.2.1 T5.1 D5 (by omega) h_s5.1.1 h_s5.1.2 (by rw [h_s5.2]; exact s_s) (fun b => by rw [h_s5.2]; have := tb5 b; rw [te5] at this; exact this)) (fun v h1 hq => ?_)
  obtain ⟨rfl, I6, A6, rfl, R6, D6, u6, e6, jj6⟩ := hq
  have di6 := jj6 _ _ di5
  rw [h_s5.2] at D6
  have P6 := RU_P R6
  have X6 := RU_tr X5 R6 (Int.le_refl _)
  have T6 := BTX_RU X5.2.1 T5 R6
  have et_l6 := (DM_RU X5.2.1 T5 R6 h_l5.1.1 h_l5.1.2).trans et_l5
  have et_m6 := (DM_RU X5.2.1 T5 R6 h_m5.1.1 h_m5.1.2).trans et_m5
  have et_q6 := (DM_RU X5.2.1 T5 R6 h_q5.1.1 h_q5.1.2).trans et_q5
  have et_r6 := (DM_RU X5.2.1 T5 R6 h_r5.1.1 h_r5.1.2).trans et_r5
  have et_s6 := (DM_RU X5.2.1 T5 R6 h_s5.1.1 h_s5.1.2).trans et_s5
  have h_l6 := RU_carry P5 R6 h_l5 s_l
  have h_m6 := RU_carry P5 R6 h_m5 s_m
  have h_q6 := RU_carry P5 R6 h_q5 s_q
  have h_r6 := RU_carry P5 R6 h_r5 s_r
  have h_s6 := RU_carry P5 R6 h_s5 s_s
  have y6 := X6.2.2.1
  have z6 : I6 7 ≤ 140000 := P6.1
  have x6 : I 7 ≤ I6 7 := X6.1.2.1
  have ex6 : A6 1 o = A 1 o := (X6.1.2.2.1 o o0 o1).1
  clear et_l5 et_m5 et_q5 et_r5 et_s5 T5 h_l5 h_m5 h_q5 h_r5 h_s5 y5 z5 x5 ex5
  show xx_go (xt_P z) (d + 10) 154 382 [some (.ref h.length), some (.int (iI k)), some (.int (iI o)), some (.int (iI c)), some (.int (iI l)), some (.int (iI m)), some (.int (iI ((-1)))), none] [] (mh h R I6 A6 N) _
  refine go_a (pc' := 383) (ls' := [some (.ref h.length), some (.int (iI k)), some (.int (iI o)), some (.int (iI c)), some (.int (iI l)), some (.int (iI m)), some (.int (iI ((-1)))), none]) (st' := [.int (iI 1)]) rfl rfl ?_
  refine go_r rfl rfl rfl rfl rfl rfl ⟨1, I6, A6, N, rfl, rfl, RU_w X6 (by omega), Or.inr ⟨rfl, ⟨_, di6, hρ tl tm tm_l tm_m⟩, _, _, DR_w D6 (by omega) (Int.le_refl _) (Int.le_refl _), fun b9 b30 b400 => ?_⟩⟩
  have dm := D6.1
  have ds := D6.2.2.1
  have dv := D6.2.2.2
  have kk : KDR dd I6 A6 ar ≤ E + 128 * WD A o - I6 7 := KK_one (by omega) (by omega)
  omega
set_option maxRecDepth 4000 in
theorem mm_con_pair (z : Value) (d : Nat) (ar : Int → Int) (ft : Nat → Int) (Fb : List (Nat × List Nat × ob_T)) (Tb : List (Nat × ob_T)) (ρ : Option (List ob_T)) (k o c E dd : Int) (h R : xx_H) (I : Nat → Int) (A : Nat → Int → Int) (N : Int → Int) (hc : 12 ≤ h.length) (hB : BI ar I A N) (k0 : 0 ≤ k) (k1 : k < 40) (ek : A 47 k = o) (o0 : 0 ≤ o) (o1 : o < I 7) (hF : FORM ar I A N o) (ec : A 49 k = c) (c0 : 0 ≤ c) (w : WD A o ≤ 1000) (hE : E + 128 * WD A o ≤ 140000) (d0 : 0 ≤ dd) (d1 : dd ≤ 39) (c9 : Int) (hcf : CFX ar I A o c9) (hX : BTX ar ft Fb Tb I A N) (w0 : I 49 = 0) (ef : A 1 o = 34) (hU : I 7 ≤ E + c9) (hρ : ∀ l m : ob_T, sp_tm ft (DM A N (A 1 (rt A 1 o))) = some l → sp_tm ft (DM A N (A 1 (rt A 2 o))) = some m → ρ = sp_cz [sp_opO (sp_c1 16228223 (sp_c2 345281 l m))]) : xx_cl (xt_P z) (d + 11) 154 [.ref h.length, .int (iI k)] (mh h R I A N) (fun v h1 => ∃ (b : Int) (I1 : Nat → Int) (A1 : Nat → Int → Int) (N1 : Int → Int), v = some (.int (iI b)) ∧ h1 = mh h R I1 A1 N1 ∧ RU ar 140000 I A N I1 A1 N1 ∧ ((b = 0 ∧ ρ = none) ∨ (b = 1 ∧ (∃ its : List (Option ob_T), DIT its I1 A1 N1 ∧ ρ = sp_cz its) ∧ ∃ S V : Int, DR ar 1190 S V I1 A1 ∧ (I1 49 = 0 → I1 67 ≤ 30 → SG (TZ A1 ar) (A1 38) (I1 67).toNat ≤ 400 → I1 7 + KDR dd I1 A1 ar ≤ E + 128 * WD A o)))) := by
  have hP := BI_P hB
  have n0 := BI_n0 hB
  have p9 := hP.1
  have nm := hB.1.2.1.1
  have n2 : A 1 2 < 0 := by rw [hB.1.2.1.2 2 (by decide) (by decide)]; decide
  obtain ⟨n, hL, n1, hF⟩ := hF
  have en : n = 3 ∧ TOK A ar (A 1 (rt A 1 o)) ∧ TOK A ar (A 1 (rt A 2 o)) := by
    rcases hF with q | q | q | q | q | q | q | q | q | q | q | q
    · omega
    · omega
    · exact ⟨q.2.1, q.2.2⟩
    · omega
    · omega
    · omega
    · omega
    · omega
    · omega
    · omega
    · omega
    · omega
  obtain ⟨rfl, tk1, tk2⟩ := en
  have wo := WD_pair hP o0 o1 (by omega)
  rw [if_neg (fun q => absurd q.1 (by omega))] at wo
  have v0 := VD_rt hP o0 o1 hL (by decide : 0 < 3)
  have v0e : VD A o = WD A (A 1 o) + VD A (rt A 1 o) := v0.1
  have wr : WD A (A 1 o) = 1 := WD_atom (by rw [hB.1.2.1.2 _ (by omega) (by omega)]; decide)
  have v1 := VD_rt hP o0 o1 hL (by decide : 1 < 3)
  have v1e : VD A (rt A 1 o) = WD A (A 1 (rt A 1 o)) + VD A (rt A 2 o) := v1.1
  have v2 := VD_rt hP o0 o1 hL (by decide : 2 < 3)
  have v2e : VD A (rt A 2 o) = WD A (A 1 (rt A 2 o)) + VD A (rt A 3 o) := v2.1
  have vz : VD A (rt A 3 o) = 0 := by rw [isL_end 3 o hL, VD_atom n0, if_pos rfl]
  have cf := hcf.2 (by omega)
  have cf2 := cf.2.1 (by omega)
  refine cl_go rfl ?_
  show xx_go (xt_P z) (d + 10) 154 0 [some (.ref h.length), some (.int (iI k)), none, none, none, none, none, none] [] (mh h R I A N) _
  refine go_a (pc' := 1) (ls' := [some (.ref h.length), some (.int (iI k)), none, none, none, none, none, none]) (st' := [.ref h.length]) rfl rfl ?_
  refine go_get rfl mh_o rfl rfl ?_
  refine go_a (pc' := 5) (ls' := [some (.ref h.length), some (.int (iI k)), none, none, none, none, none, none]) (st' := [.int (iI k), .ref (h.length + 47)]) rfl rfl ?_
  refine mi_ild rfl mh_a47 (by omega) (by omega) (by decide) ?_
  rw [ek]
  refine go_a (pc' := 7) (ls' := [some (.ref h.length), some (.int (iI k)), some (.int (iI o)), none, none, none, none, none]) (st' := []) rfl rfl ?_
  refine go_a (pc' := 8) (ls' := [some (.ref h.length), some (.int (iI k)), some (.int (iI o)), none, none, none, none, none]) (st' := [.ref h.length]) rfl rfl ?_
  refine go_get rfl mh_o rfl rfl ?_
  refine go_a (pc' := 12) (ls' := [some (.ref h.length), some (.int (iI k)), some (.int (iI o)), none, none, none, none, none]) (st' := [.int (iI k), .ref (h.length + 49)]) rfl rfl ?_
  refine mi_ild rfl mh_a49 (by omega) (by omega) (by decide) ?_
  rw [ec]
  refine go_a (pc' := 14) (ls' := [some (.ref h.length), some (.int (iI k)), some (.int (iI o)), some (.int (iI c)), none, none, none, none]) (st' := []) rfl rfl ?_
  refine go_a (pc' := 15) (ls' := [some (.ref h.length), some (.int (iI k)), some (.int (iI o)), some (.int (iI c)), none, none, none, none]) (st' := [.ref h.length]) rfl rfl ?_
  refine go_a (pc' := 16) (ls' := [some (.ref h.length), some (.int (iI k)), some (.int (iI o)), some (.int (iI c)), none, none, none, none]) (st' := [.int (iI 0), .ref h.length]) rfl rfl ?_
  refine go_put (j := 67) rfl mh_o rfl rfl (show 12 ≤ _ from hc) (show 67 < 86 by decide) rfl rfl ?_
  rw [mh_p67]
  obtain ⟨J, hJ⟩ : ∃ J : Nat → Int, J = su I 67 0 := ⟨_, rfl⟩
  rw [← hJ]
  have bJ : BX (fun j => j = 67) NO I A N J A N := by
    subst hJ
    exact BX_of hB.1.1 (fun j q => su_ne q) (fun a _ => rfl) rfl rfl rfl rfl rfl rfl rfl rfl rfl rfl
  have J7 : J 7 = I 7 := by subst hJ; rfl
  have J49 : J 49 = I 49 := by subst hJ; rfl
  have R0 : RU ar 0 I A N J A N := RU_of hB bJ (fun j q => by subst q; unfold FC; omega) (fun a q => absurd q (fun z => z)) (SZI_124 (A := A) (A1 := A) hB.1.2.2 rfl rfl rfl J7) (by subst hJ; rfl) (by subst hJ; rfl) (by rw [J49]; exact hB.2.2.2.2) (by omega) (fun _ => J49)
  have D0 : DR ar 0 0 0 J A := by subst hJ; exact DR_00
  have PJ := RU_P R0
  have T0 : BTX ar ft Fb Tb J A N := BTX_RU hB hX R0
  have di0 : DIT [] J A N := by
    subst hJ
    exact Or.inl ⟨w0, rfl⟩
  refine go_a (pc' := 20) (ls' := [some (.ref h.length), some (.int (iI k)), some (.int (iI o)), some (.int (iI c)), none, none, none, none]) (st' := [.ref h.length]) rfl rfl ?_
  refine go_a (pc' := 21) (ls' := [some (.ref h.length), some (.int (iI k)), some (.int (iI o)), some (.int (iI c)), none, none, none, none]) (st' := [.int (iI o), .ref h.length]) rfl rfl ?_
  refine go_v (m := 98) (as := [.ref h.length, .int (iI o)]) (r := []) rfl rfl rfl mh_o rfl rfl (mm_lenL z (d + 8) 3 o h R J A N hc PJ n0 o0 (by omega) hL) (fun v h1 hq => ?_)
  obtain ⟨rfl, rfl⟩ := hq
  show xx_go (xt_P z) (d + 10) 154 24 [some (.ref h.length), some (.int (iI k)), some (.int (iI o)), some (.int (iI c)), none, none, none, none] [.int (iI (((3 : Nat) : Int)))] (mh h R J A N) _
  refine go_a (pc' := 25) (ls' := [some (.ref h.length), some (.int (iI k)), some (.int (iI o)), some (.int (iI c)), none, none, none, none]) (st' := [.int (iI 1), .int (iI (((3 : Nat) : Int)))]) rfl rfl ?_
  refine mi_le (t := 107) rfl rfl (by omega) (by omega) (by omega) (by omega) (fun q => by omega) (fun _ => ?_)
  refine go_a (pc' := 29) (ls' := [some (.ref h.length), some (.int (iI k)), some (.int (iI o)), some (.int (iI c)), none, none, none, none]) (st' := [.ref h.length]) rfl rfl ?_
  refine go_get rfl mh_o rfl rfl ?_
  refine go_a (pc' := 33) (ls' := [some (.ref h.length), some (.int (iI k)), some (.int (iI o)), some (.int (iI c)), none, none, none, none]) (st' := [.int (iI o), .ref (h.length + 1)]) rfl rfl ?_
  refine mi_ild rfl mh_a1 (by omega) (by omega) (by decide) ?_
  refine go_a (pc' := 36) (ls' := [some (.ref h.length), some (.int (iI k)), some (.int (iI o)), some (.int (iI c)), none, none, none, none]) (st' := [.int (iI 37), .int (iI (A 1 o))]) rfl rfl ?_
  refine mi_eq (t := 107) rfl rfl (by omega) (by omega) (by omega) (by omega) (fun q => by omega) (fun _ => ?_)
  refine go_a (pc' := 40) (ls' := [some (.ref h.length), some (.int (iI k)), some (.int (iI o)), some (.int (iI c)), none, none, none, none]) (st' := [.ref h.length]) rfl rfl ?_
  refine go_get rfl mh_o rfl rfl ?_
  refine go_a (pc' := 44) (ls' := [some (.ref h.length), some (.int (iI k)), some (.int (iI o)), some (.int (iI c)), none, none, none, none]) (st' := [.int (iI o), .ref (h.length + 1)]) rfl rfl ?_
  refine mi_ild rfl mh_a1 (by omega) (by omega) (by decide) ?_
  refine go_a (pc' := 47) (ls' := [some (.ref h.length), some (.int (iI k)), some (.int (iI o)), some (.int (iI c)), none, none, none, none]) (st' := [.int (iI 38), .int (iI (A 1 o))]) rfl rfl ?_
  refine mi_eq (t := 107) rfl rfl (by omega) (by omega) (by omega) (by omega) (fun q => by omega) (fun _ => ?_)
  refine go_a (pc' := 51) (ls' := [some (.ref h.length), some (.int (iI k)), some (.int (iI o)), some (.int (iI c)), none, none, none, none]) (st' := [.ref h.length]) rfl rfl ?_
  refine go_get rfl mh_o rfl rfl ?_
  refine go_a (pc' := 55) (ls' := [some (.ref h.length), some (.int (iI k)), some (.int (iI o)), some (.int (iI c)), none, none, none, none]) (st' := [.int (iI o), .ref (h.length + 1)]) rfl rfl ?_
  refine mi_ild rfl mh_a1 (by omega) (by omega) (by decide) ?_
  refine go_a (pc' := 58) (ls' := [some (.ref h.length), some (.int (iI k)), some (.int (iI o)), some (.int (iI c)), none, none, none, none]) (st' := [.int (iI 39), .int (iI (A 1 o))]) rfl rfl ?_
  refine mi_eq (t := 107) rfl rfl (by omega) (by omega) (by omega) (by omega) (fun q => by omega) (fun _ => ?_)
  refine go_a (pc' := 62) (ls' := [some (.ref h.length), some (.int (iI k)), some (.int (iI o)), some (.int (iI c)), none, none, none, none]) (st' := [.ref h.length]) rfl rfl ?_
  refine go_get rfl mh_o rfl rfl ?_
  refine go_a (pc' := 66) (ls' := [some (.ref h.length), some (.int (iI k)), some (.int (iI o)), some (.int (iI c)), none, none, none, none]) (st' := [.int (iI o), .ref (h.length + 1)]) rfl rfl ?_
  refine mi_ild rfl mh_a1 (by omega) (by omega) (by decide) ?_
  refine go_a (pc' := 69) (ls' := [some (.ref h.length), some (.int (iI k)), some (.int (iI o)), some (.int (iI c)), none, none, none, none]) (st' := [.int (iI 41), .int (iI (A 1 o))]) rfl rfl ?_
  refine mi_eq (t := 107) rfl rfl (by omega) (by omega) (by omega) (by omega) (fun q => by omega) (fun _ => ?_)
  refine go_a (pc' := 73) (ls' := [some (.ref h.length), some (.int (iI k)), some (.int (iI o)), some (.int (iI c)), none, none, none, none]) (st' := [.ref h.length]) rfl rfl ?_
  refine go_get rfl mh_o rfl rfl ?_
  refine go_a (pc' := 77) (ls' := [some (.ref h.length), some (.int (iI k)), some (.int (iI o)), some (.int (iI c)), none, none, none, none]) (st' := [.int (iI o), .ref (h.length + 1)]) rfl rfl ?_
  refine mi_ild rfl mh_a1 (by omega) (by omega) (by decide) ?_
  refine go_a (pc' := 80) (ls' := [some (.ref h.length), some (.int (iI k)), some (.int (iI o)), some (.int (iI c)), none, none, none, none]) (st' := [.int (iI 42), .int (iI (A 1 o))]) rfl rfl ?_
  refine mi_eq (t := 107) rfl rfl (by omega) (by omega) (by omega) (by omega) (fun q => by omega) (fun _ => ?_)
  refine go_a (pc' := 84) (ls' := [some (.ref h.length), some (.int (iI k)), some (.int (iI o)), some (.int (iI c)), none, none, none, none]) (st' := [.ref h.length]) rfl rfl ?_
  refine go_get rfl mh_o rfl rfl ?_
  refine go_a (pc' := 88) (ls' := [some (.ref h.length), some (.int (iI k)), some (.int (iI o)), some (.int (iI c)), none, none, none, none]) (st' := [.int (iI o), .ref (h.length + 1)]) rfl rfl ?_
  refine mi_ild rfl mh_a1 (by omega) (by omega) (by decide) ?_
  refine go_a (pc' := 91) (ls' := [some (.ref h.length), some (.int (iI k)), some (.int (iI o)), some (.int (iI c)), none, none, none, none]) (st' := [.int (iI 43), .int (iI (A 1 o))]) rfl rfl ?_
  refine mi_eq (t := 107) rfl rfl (by omega) (by omega) (by omega) (by omega) (fun q => by omega) (fun _ => ?_)
  refine go_a (pc' := 95) (ls' := [some (.ref h.length), some (.int (iI k)), some (.int (iI o)), some (.int (iI c)), none, none, none, none]) (st' := [.ref h.length]) rfl rfl ?_
  refine go_a (pc' := 96) (ls' := [some (.ref h.length), some (.int (iI k)), some (.int (iI o)), some (.int (iI c)), none, none, none, none]) (st' := [.ref h.length, .ref h.length]) rfl rfl ?_
  refine go_a (pc' := 97) (ls' := [some (.ref h.length), some (.int (iI k)), some (.int (iI o)), some (.int (iI c)), none, none, none, none]) (st' := [.int (iI o), .ref h.length, .ref h.length]) rfl rfl ?_
  refine go_a (pc' := 98) (ls' := [some (.ref h.length), some (.int (iI k)), some (.int (iI o)), some (.int (iI c)), none, none, none, none]) (st' := [.int (iI 1), .int (iI o), .ref h.length, .ref h.length]) rfl rfl ?_
  have Lxl := isL_extB hP R0.1 3 o o0 o1 hL
  have ixl := it_BX hP R0.1 o0 o1 hL (by decide : 1 < 3)
  refine go_v (m := 99) (as := [.ref h.length, .int (iI o), .int (iI 1)]) (r := [.ref h.length]) rfl rfl rfl mh_o rfl rfl (mm_nth z (d + 9) 1 3 o h R J A N hc PJ (by decide) o0 (by omega) Lxl (by omega)) (fun v h1 hq => ?_)
  obtain ⟨rfl, rfl⟩ := hq
  rw [ixl]
  show xx_go (xt_P z) (d + 10) 154 101 [some (.ref h.length), some (.int (iI k)), some (.int (iI o)), some (.int (iI c)), none, none, none, none] [.int (iI (A 1 (rt A 1 o))), .ref h.length] (mh h R J A N) _
  have wxl := (WD_BX hP R0.1 v1.2.1.1 v1.2.1.2).1
  refine go_v (m := 105) (as := [.ref h.length, .int (iI (A 1 (rt A 1 o)))]) (r := []) rfl rfl rfl mh_o rfl rfl (mr_term z (d + 2) ar (A 1 (rt A 1 o)) h R J A N hc R0.2.1 v1.2.1.1 (by omega) (by omega) (by omega)) (fun v h1 hq => ?_)
  obtain ⟨l, I1, A1, rfl, rfl, R1, K1, ⟨u1, bb1⟩, ht1⟩ := hq
  have tt1 : ((0 ≤ l ∧ l < I1 7) ∧ TZ A1 ar l = TS A ar (A 1 (rt A 1 o))) ∧ (1 ≤ TS A ar (A 1 (rt A 1 o)) ∧ TS A ar (A 1 (rt A 1 o)) ≤ 120) ∧ TS A ar (A 1 (rt A 1 o)) ≤ WD A (A 1 (rt A 1 o)) ∧ NFT A1 (A 1 (rt A 1 o)) l := by
    have tk := TOK_BX hP R0.1 v1.2.1.1 v1.2.1.2 tk1
    rcases ht1 with q | q
    · exact absurd tk q.2
    · have ts := TS_BX (ar := ar) hP R0.1 v1.2.1.1 v1.2.1.2
      rw [ts, wxl] at q
      exact ⟨⟨q.1, q.2.2.2.1⟩, by omega, q.2.2.2.2.1, q.2.2.2.2.2⟩
  obtain ⟨h_l1, sb_l, sw_l, nf_l⟩ := tt1
  have s_l := sb_l.1
  have tm_l := (TQ_tm R0.2.1 T0 v1.2.1.1 (by omega) (show TQ ar (A 1 (rt A 1 o)) l J A N I1 A1 from ⟨bb1, R1.2.1, by have := R1.2.2.1; omega, u1, ht1⟩)).2 (by omega)
  rw [DM_RU hB hX R0 v1.2.1.1 v1.2.1.2] at tm_l
  obtain ⟨tl, et_l1⟩ : ∃ q : ob_T, DM A1 N l = q := ⟨_, rfl⟩
  rw [et_l1] at tm_l
  have tt_l := tm_ts tm_l
  have di1 := DIT_BX R0.2.1 T0.1 D0 bb1 (by unfold FB; omega) (by unfold GT; omega) (by unfold GT; omega) (by unfold FB; omega) (by unfold GT; omega) u1 di0
  clear bb1 ht1
  rw [wxl] at R1
  have D1 := K1 _ _ _ D0
  have P1 := RU_P R1
  have X1 := RU_tr R0 R1 (Int.le_refl _)
  have T1 := BTX_RU R0.2.1 T0 R1
  have y1 := X1.2.2.1
  have z1 : I1 7 ≤ 140000 := P1.1
  have x1 : I 7 ≤ I1 7 := X1.1.2.1
  have ex1 : A1 1 o = A 1 o := (X1.1.2.2.1 o o0 o1).1
  clear T0
  show xx_go (xt_P z) (d + 10) 154 104 [some (.ref h.length), some (.int (iI k)), some (.int (iI o)), some (.int (iI c)), none, none, none, none] [.int (iI l)] (mh h R I1 A1 N) _
  refine go_a (pc' := 108) (ls' := [some (.ref h.length), some (.int (iI k)), some (.int (iI o)), some (.int (iI c)), none, none, none, none]) (st' := [.int (iI l)]) rfl rfl ?_
  refine go_a (pc' := 110) (ls' := [some (.ref h.length), some (.int (iI k)), some (.int (iI o)), some (.int (iI c)), some (.int (iI l)), none, none, none]) (st' := []) rfl rfl ?_
  refine go_a (pc' := 111) (ls' := [some (.ref h.length), some (.int (iI k)), some (.int (iI o)), some (.int (iI c)), some (.int (iI l)), none, none, none]) (st' := [.ref h.length]) rfl rfl ?_
  refine go_get rfl mh_o rfl rfl ?_
  refine go_a (pc' := 115) (ls' := [some (.ref h.length), some (.int (iI k)), some (.int (iI o)), some (.int (iI c)), some (.int (iI l)), none, none, none]) (st' := [.int (iI o), .ref (h.length + 1)]) rfl rfl ?_
  refine mi_ild rfl mh_a1 (by omega) (by omega) (by decide) ?_
  refine go_a (pc' := 118) (ls' := [some (.ref h.length), some (.int (iI k)), some (.int (iI o)), some (.int (iI c)), some (.int (iI l)), none, none, none]) (st' := [.int (iI 32), .int (iI (A1 1 o))]) rfl rfl ?_
  refine mi_lt (t := 145) rfl rfl (by omega) (by omega) (by omega) (by omega) (fun q => by omega) (fun _ => ?_)
  refine go_a (pc' := 122) (ls' := [some (.ref h.length), some (.int (iI k)), some (.int (iI o)), some (.int (iI c)), some (.int (iI l)), none, none, none]) (st' := [.ref h.length]) rfl rfl ?_
  refine go_get rfl mh_o rfl rfl ?_
  refine go_a (pc' := 126) (ls' := [some (.ref h.length), some (.int (iI k)), some (.int (iI o)), some (.int (iI c)), some (.int (iI l)), none, none, none]) (st' := [.int (iI o), .ref (h.length + 1)]) rfl rfl ?_
  refine mi_ild rfl mh_a1 (by omega) (by omega) (by decide) ?_
  refine go_a (pc' := 129) (ls' := [some (.ref h.length), some (.int (iI k)), some (.int (iI o)), some (.int (iI c)), some (.int (iI l)), none, none, none]) (st' := [.int (iI 36), .int (iI (A1 1 o))]) rfl rfl ?_
  refine mi_gt (t := 145) rfl rfl (by omega) (by omega) (by omega) (by omega) (fun q => by omega) (fun _ => ?_)
  refine go_a (pc' := 133) (ls' := [some (.ref h.length), some (.int (iI k)), some (.int (iI o)), some (.int (iI c)), some (.int (iI l)), none, none, none]) (st' := [.ref h.length]) rfl rfl ?_
  refine go_a (pc' := 134) (ls' := [some (.ref h.length), some (.int (iI k)), some (.int (iI o)), some (.int (iI c)), some (.int (iI l)), none, none, none]) (st' := [.ref h.length, .ref h.length]) rfl rfl ?_
  refine go_a (pc' := 135) (ls' := [some (.ref h.length), some (.int (iI k)), some (.int (iI o)), some (.int (iI c)), some (.int (iI l)), none, none, none]) (st' := [.int (iI o), .ref h.length, .ref h.length]) rfl rfl ?_
  refine go_a (pc' := 136) (ls' := [some (.ref h.length), some (.int (iI k)), some (.int (iI o)), some (.int (iI c)), some (.int (iI l)), none, none, none]) (st' := [.int (iI 2), .int (iI o), .ref h.length, .ref h.length]) rfl rfl ?_
  have Lxm := isL_extB hP X1.1 3 o o0 o1 hL
  have ixm := it_BX hP X1.1 o0 o1 hL (by decide : 2 < 3)
  refine go_v (m := 99) (as := [.ref h.length, .int (iI o), .int (iI 2)]) (r := [.ref h.length]) rfl rfl rfl mh_o rfl rfl (mm_nth z (d + 9) 2 3 o h R I1 A1 N hc P1 (by decide) o0 (by omega) Lxm (by omega)) (fun v h1 hq => ?_)
  obtain ⟨rfl, rfl⟩ := hq
  rw [ixm]
  show xx_go (xt_P z) (d + 10) 154 139 [some (.ref h.length), some (.int (iI k)), some (.int (iI o)), some (.int (iI c)), some (.int (iI l)), none, none, none] [.int (iI (A 1 (rt A 2 o))), .ref h.length] (mh h R I1 A1 N) _
  have wxm := (WD_BX hP X1.1 v2.2.1.1 v2.2.1.2).1
  refine go_v (m := 105) (as := [.ref h.length, .int (iI (A 1 (rt A 2 o)))]) (r := []) rfl rfl rfl mh_o rfl rfl (mr_term z (d + 2) ar (A 1 (rt A 2 o)) h R I1 A1 N hc X1.2.1 v2.2.1.1 (by omega) (by omega) (by omega)) (fun v h1 hq => ?_)
  obtain ⟨m, I2, A2, rfl, rfl, R2, K2, ⟨u2, bb2⟩, ht2⟩ := hq
  have tt2 : ((0 ≤ m ∧ m < I2 7) ∧ TZ A2 ar m = TS A ar (A 1 (rt A 2 o))) ∧ (1 ≤ TS A ar (A 1 (rt A 2 o)) ∧ TS A ar (A 1 (rt A 2 o)) ≤ 120) ∧ TS A ar (A 1 (rt A 2 o)) ≤ WD A (A 1 (rt A 2 o)) ∧ NFT A2 (A 1 (rt A 2 o)) m := by
    have tk := TOK_BX hP X1.1 v2.2.1.1 v2.2.1.2 tk2
    rcases ht2 with q | q
    · exact absurd tk q.2
    · have ts := TS_BX (ar := ar) hP X1.1 v2.2.1.1 v2.2.1.2
      rw [ts, wxm] at q
      exact ⟨⟨q.1, q.2.2.2.1⟩, by omega, q.2.2.2.2.1, q.2.2.2.2.2⟩
  obtain ⟨h_m2, sb_m, sw_m, nf_m⟩ := tt2
  have s_m := sb_m.1
  have tm_m := (TQ_tm X1.2.1 T1 v2.2.1.1 (by omega) (show TQ ar (A 1 (rt A 2 o)) m I1 A1 N I2 A2 from ⟨bb2, R2.2.1, by have := R2.2.2.1; omega, u2, ht2⟩)).2 (by omega)
  rw [DM_RU hB hX X1 v2.2.1.1 v2.2.1.2] at tm_m
  obtain ⟨tm, et_m2⟩ : ∃ q : ob_T, DM A2 N m = q := ⟨_, rfl⟩
  rw [et_m2] at tm_m
  have tt_m := tm_ts tm_m
  have di2 := DIT_BX X1.2.1 T1.1 D1 bb2 (by unfold FB; omega) (by unfold GT; omega) (by unfold GT; omega) (by unfold FB; omega) (by unfold GT; omega) u2 di1
  clear bb2 ht2
  rw [wxm] at R2
  have D2 := K2 _ _ _ D1
  have P2 := RU_P R2
  have X2 := RU_tr X1 R2 (Int.le_refl _)
  have T2 := BTX_RU X1.2.1 T1 R2
  have et_l2 := (DM_RU X1.2.1 T1 R2 h_l1.1.1 h_l1.1.2).trans et_l1
  have h_l2 := RU_carry P1 R2 h_l1 s_l
  have y2 := X2.2.2.1
  have z2 : I2 7 ≤ 140000 := P2.1
  have x2 : I 7 ≤ I2 7 := X2.1.2.1
  have ex2 : A2 1 o = A 1 o := (X2.1.2.2.1 o o0 o1).1
  clear et_l1 T1 h_l1 y1 z1 x1 ex1
  show xx_go (xt_P z) (d + 10) 154 142 [some (.ref h.length), some (.int (iI k)), some (.int (iI o)), some (.int (iI c)), some (.int (iI l)), none, none, none] [.int (iI m)] (mh h R I2 A2 N) _
  refine go_a (pc' := 146) (ls' := [some (.ref h.length), some (.int (iI k)), some (.int (iI o)), some (.int (iI c)), some (.int (iI l)), none, none, none]) (st' := [.int (iI m)]) rfl rfl ?_
  refine go_a (pc' := 148) (ls' := [some (.ref h.length), some (.int (iI k)), some (.int (iI o)), some (.int (iI c)), some (.int (iI l)), some (.int (iI m)), none, none]) (st' := []) rfl rfl ?_
  refine go_a (pc' := 149) (ls' := [some (.ref h.length), some (.int (iI k)), some (.int (iI o)), some (.int (iI c)), some (.int (iI l)), some (.int (iI m)), none, none]) (st' := [.ref h.length]) rfl rfl ?_
  refine go_get rfl mh_o rfl rfl ?_
  refine go_a (pc' := 153) (ls' := [some (.ref h.length), some (.int (iI k)), some (.int (iI o)), some (.int (iI c)), some (.int (iI l)), some (.int (iI m)), none, none]) (st' := [.int (iI o), .ref (h.length + 1)]) rfl rfl ?_
  refine mi_ild rfl mh_a1 (by omega) (by omega) (by decide) ?_
  refine go_a (pc' := 156) (ls' := [some (.ref h.length), some (.int (iI k)), some (.int (iI o)), some (.int (iI c)), some (.int (iI l)), some (.int (iI m)), none, none]) (st' := [.int (iI 35), .int (iI (A2 1 o))]) rfl rfl ?_
  refine mi_eq (t := 170) rfl rfl (by omega) (by omega) (by omega) (by omega) (fun q => by omega) (fun _ => ?_)
  refine go_a (pc' := 160) (ls' := [some (.ref h.length), some (.int (iI k)), some (.int (iI o)), some (.int (iI c)), some (.int (iI l)), some (.int (iI m)), none, none]) (st' := [.ref h.length]) rfl rfl ?_
  refine go_get rfl mh_o rfl rfl ?_
  refine go_a (pc' := 164) (ls' := [some (.ref h.length), some (.int (iI k)), some (.int (iI o)), some (.int (iI c)), some (.int (iI l)), some (.int (iI m)), none, none]) (st' := [.int (iI o), .ref (h.length + 1)]) rfl rfl ?_
  refine mi_ild rfl mh_a1 (by omega) (by omega) (by decide) ?_
  refine go_a (pc' := 167) (ls' := [some (.ref h.length), some (.int (iI k)), some (.int (iI o)), some (.int (iI c)), some (.int (iI l)), some (.int (iI m)), none, none]) (st' := [.int (iI 36), .int (iI (A2 1 o))]) rfl rfl ?_
  refine mi_ne (t := 183) rfl rfl (by omega) (by omega) (by omega) (by omega) (fun _ => ?_) (fun q => by omega)
  refine go_a (pc' := 184) (ls' := [some (.ref h.length), some (.int (iI k)), some (.int (iI o)), some (.int (iI c)), some (.int (iI l)), some (.int (iI m)), none, none]) (st' := [.int (iI ((-1)))]) rfl rfl ?_
  refine go_a (pc' := 186) (ls' := [some (.ref h.length), some (.int (iI k)), some (.int (iI o)), some (.int (iI c)), some (.int (iI l)), some (.int (iI m)), some (.int (iI ((-1)))), none]) (st' := []) rfl rfl ?_
  refine go_a (pc' := 187) (ls' := [some (.ref h.length), some (.int (iI k)), some (.int (iI o)), some (.int (iI c)), some (.int (iI l)), some (.int (iI m)), some (.int (iI ((-1)))), none]) (st' := [.ref h.length]) rfl rfl ?_
  refine go_get rfl mh_o rfl rfl ?_
  refine go_a (pc' := 191) (ls' := [some (.ref h.length), some (.int (iI k)), some (.int (iI o)), some (.int (iI c)), some (.int (iI l)), some (.int (iI m)), some (.int (iI ((-1)))), none]) (st' := [.int (iI o), .ref (h.length + 1)]) rfl rfl ?_
  refine mi_ild rfl mh_a1 (by omega) (by omega) (by decide) ?_
  rw [ex2]
  refine mi_ts (c := 34) (t := 384) rfl ef rfl ?_
  refine go_a (pc' := 385) (ls' := [some (.ref h.length), some (.int (iI k)), some (.int (iI o)), some (.int (iI c)), some (.int (iI l)), some (.int (iI m)), some (.int (iI ((-1)))), none]) (st' := [.ref h.length]) rfl rfl ?_
  refine go_a (pc' := 386) (ls' := [some (.ref h.length), some (.int (iI k)), some (.int (iI o)), some (.int (iI c)), some (.int (iI l)), some (.int (iI m)), some (.int (iI ((-1)))), none]) (st' := [.ref h.length, .ref h.length]) rfl rfl ?_
  refine go_a (pc' := 388) (ls' := [some (.ref h.length), some (.int (iI k)), some (.int (iI o)), some (.int (iI c)), some (.int (iI l)), some (.int (iI m)), some (.int (iI ((-1)))), none]) (st' := [.int (iI 10), .ref h.length, .ref h.length]) rfl rfl ?_
  refine go_a (pc' := 389) (ls' := [some (.ref h.length), some (.int (iI k)), some (.int (iI o)), some (.int (iI c)), some (.int (iI l)), some (.int (iI m)), some (.int (iI ((-1)))), none]) (st' := [.ref h.length, .int (iI 10), .ref h.length, .ref h.length]) rfl rfl ?_
  refine go_a (pc' := 390) (ls' := [some (.ref h.length), some (.int (iI k)), some (.int (iI o)), some (.int (iI c)), some (.int (iI l)), some (.int (iI m)), some (.int (iI ((-1)))), none]) (st' := [.int (iI 5), .ref h.length, .int (iI 10), .ref h.length, .ref h.length]) rfl rfl ?_
  refine go_a (pc' := 392) (ls' := [some (.ref h.length), some (.int (iI k)), some (.int (iI o)), some (.int (iI c)), some (.int (iI l)), some (.int (iI m)), some (.int (iI ((-1)))), none]) (st' := [.int (iI l), .int (iI 5), .ref h.length, .int (iI 10), .ref h.length, .ref h.length]) rfl rfl ?_
  refine go_a (pc' := 394) (ls' := [some (.ref h.length), some (.int (iI k)), some (.int (iI o)), some (.int (iI c)), some (.int (iI l)), some (.int (iI m)), some (.int (iI ((-1)))), none]) (st' := [.int (iI m), .int (iI l), .int (iI 5), .ref h.length, .int (iI 10), .ref h.length, .ref h.length]) rfl rfl ?_
  refine go_v (m := 156) (as := [.ref h.length, .int (iI 5), .int (iI l), .int (iI m)]) (r := [.int (iI 10), .ref h.length, .ref h.length]) rfl rfl rfl mh_o rfl rfl (mr_two z (d + 3) ar 5 l m h R I2 A2 N hc X2.2.1 T2.1 (by decide) (by omega) (by decide) (by omega) h_l2.1.1 h_l2.1.2 (by rw [h_l2.2]; exact s_l) h_m2.1.1 h_m2.1.2 (by rw [h_m2.2]; exact s_m) (X2.2.1.2.1.1.1.2.1 5 (by decide) (by decide)).symm) (fun v h1 hq => ?_)
  obtain ⟨q, I3, A3, rfl, rfl, R3, K3, tv3, tb3, te3, dt3, dj3⟩ := hq
  rw [(show DM A2 N 5 = .var 345281 from T2.1.2 5 (by decide)), et_l2, et_m2] at dt3 dj3
  have et_q3 : DM A3 N q = sp_c2 345281 tl tm := dt3
  have di3 : DIM _ (sp_opO (sp_c2 345281 tl tm)) _ _ _ _ := dj3 _ _ _ _ D2 di2
  rw [h_l2.2, h_m2.2] at te3
  have D3 := K3 _ _ _ D2
  have h_q3 : (0 ≤ q ∧ q < I3 7) ∧ TZ A3 ar q = 1 + TS A ar (A 1 (rt A 1 o)) + TS A ar (A 1 (rt A 2 o)) := ⟨tv3.1, te3⟩
  have s_q : 1 ≤ 1 + TS A ar (A 1 (rt A 1 o)) + TS A ar (A 1 (rt A 2 o)) := by rw [← te3]; exact tv3.2
  have P3 := RU_P R3
  have X3 := RU_tr X2 R3 (Int.le_refl _)
  have T3 := BTX_RU X2.2.1 T2 R3
  have et_l3 := (DM_RU X2.2.1 T2 R3 h_l2.1.1 h_l2.1.2).trans et_l2
  have et_m3 := (DM_RU X2.2.1 T2 R3 h_m2.1.1 h_m2.1.2).trans et_m2
  have h_l3 := RU_carry P2 R3 h_l2 s_l
  have h_m3 := RU_carry P2 R3 h_m2 s_m
  have y3 := X3.2.2.1
  have z3 : I3 7 ≤ 140000 := P3.1
  have x3 : I 7 ≤ I3 7 := X3.1.2.1
  have ex3 : A3 1 o = A 1 o := (X3.1.2.2.1 o o0 o1).1
  clear et_l2 et_m2 T2 h_l2 h_m2 y2 z2 x2 ex2
  show xx_go (xt_P z) (d + 10) 154 397 [some (.ref h.length), some (.int (iI k)), some (.int (iI o)), some (.int (iI c)), some (.int (iI l)), some (.int (iI m)), some (.int (iI ((-1)))), none] [.int (iI q), .int (iI 10), .ref h.length, .ref h.length] (mh h R I3 A3 N) _
  refine go_a (pc' := 398) (ls' := [some (.ref h.length), some (.int (iI k)), some (.int (iI o)), some (.int (iI c)), some (.int (iI l)), some (.int (iI m)), some (.int (iI ((-1)))), none]) (st' := [.int (iI ((-1))), .int (iI q), .int (iI 10), .ref h.length, .ref h.length]) rfl rfl ?_
  refine go_a (pc' := 399) (ls' := [some (.ref h.length), some (.int (iI k)), some (.int (iI o)), some (.int (iI c)), some (.int (iI l)), some (.int (iI m)), some (.int (iI ((-1)))), none]) (st' := [.int (iI ((-1))), .int (iI ((-1))), .int (iI q), .int (iI 10), .ref h.length, .ref h.length]) rfl rfl ?_
  refine go_v (m := 127) (as := [.ref h.length, .int (iI 10), .int (iI q), .int (iI ((-1))), .int (iI ((-1)))]) (r := [.ref h.length]) rfl rfl rfl mh_o rfl rfl (mr_one z (d + 4) ar 10 q h R I3 A3 N hc X3.2.1 T3.1 (by decide) (by omega) (by decide) (by omega) h_q3.1.1 h_q3.1.2 (by rw [h_q3.2]; exact s_q) (X3.2.1.2.1.1.1.2.2 10 (by decide) (by decide)).symm) (fun v h1 hq => ?_)
  obtain ⟨r, I4, A4, rfl, rfl, R4, K4, tv4, tb4, te4, dt4, dj4⟩ := hq
  rw [(show DM A3 N 10 = .var 16228223 from T3.1.2 10 (by decide)), et_q3] at dt4 dj4
  have et_r4 : DM A4 N r = sp_c1 16228223 (sp_c2 345281 tl tm) := dt4
  have di4 : DIM _ (sp_opO (sp_c1 16228223 (sp_c2 345281 tl tm))) _ _ _ _ := DIM_up (fun it q => dj4 it _ _ _ D3 q) R4 (c1_0 rfl) di3
  rw [h_q3.2] at te4
  have D4 := K4 _ _ _ D3
  have h_r4 : (0 ≤ r ∧ r < I4 7) ∧ TZ A4 ar r = 1 + (1 + TS A ar (A 1 (rt A 1 o)) + TS A ar (A 1 (rt A 2 o))) := ⟨tv4.1, te4⟩
  have s_r : 1 ≤ 1 + (1 + TS A ar (A 1 (rt A 1 o)) + TS A ar (A 1 (rt A 2 o))) := by rw [← te4]; exact tv4.2
  have P4 := RU_P R4
  have X4 := RU_tr X3 R4 (Int.le_refl _)
  have T4 := BTX_RU X3.2.1 T3 R4
  have et_l4 := (DM_RU X3.2.1 T3 R4 h_l3.1.1 h_l3.1.2).trans et_l3
  have et_m4 := (DM_RU X3.2.1 T3 R4 h_m3.1.1 h_m3.1.2).trans et_m3
  have et_q4 := (DM_RU X3.2.1 T3 R4 h_q3.1.1 h_q3.1.2).trans et_q3
  have h_l4 := RU_carry P3 R4 h_l3 s_l
  have h_m4 := RU_carry P3 R4 h_m3 s_m
  have h_q4 := RU_carry P3 R4 h_q3 s_q
  have y4 := X4.2.2.1
  have z4 : I4 7 ≤ 140000 := P4.1
  have x4 : I 7 ≤ I4 7 := X4.1.2.1
  have ex4 : A4 1 o = A 1 o := (X4.1.2.2.1 o o0 o1).1
  clear et_l3 et_m3 et_q3 T3 h_l3 h_m3 h_q3 y3 z3 x3 ex3
  show xx_go (xt_P z) (d + 10) 154 402 [some (.ref h.length), some (.int (iI k)), some (.int (iI o)), some (.int (iI c)), some (.int (iI l)), some (.int (iI m)), some (.int (iI ((-1)))), none] [.int (iI r), .ref h.length] (mh h R I4 A4 N) _
  refine go_v (m := 155) (as := [.ref h.length, .int (iI r)]) (r := []) rfl rfl rfl mh_o rfl rfl (mr_put z (d + 9) ar 0 0 _ r h R I4 A4 N hc X4.2.1 T4.1 D4 (by omega) h_r4.1.1 h_r4.1.2 (by rw [h_r4.2]; exact s_r) (fun b => by rw [h_r4.2]; have := tb4 b; rw [te4] at this; exact this)) (fun v h1 hq => ?_)
  obtain ⟨rfl, I5, A5, rfl, R5, D5, u5, e5, jj5⟩ := hq
  have di5 := jj5 _ _ di4
  rw [h_r4.2] at D5
  have P5 := RU_P R5
  have X5 := RU_tr X4 R5 (Int.le_refl _)
  have T5 := BTX_RU X4.2.1 T4 R5
  have et_l5 := (DM_RU X4.2.1 T4 R5 h_l4.1.1 h_l4.1.2).trans et_l4
  have et_m5 := (DM_RU X4.2.1 T4 R5 h_m4.1.1 h_m4.1.2).trans et_m4
  have et_q5 := (DM_RU X4.2.1 T4 R5 h_q4.1.1 h_q4.1.2).trans et_q4
  have et_r5 := (DM_RU X4.2.1 T4 R5 h_r4.1.1 h_r4.1.2).trans et_r4
  have h_l5 := RU_carry P4 R5 h_l4 s_l
  have h_m5 := RU_carry P4 R5 h_m4 s_m
  have h_q5 := RU_carry P4 R5 h_q4 s_q
  have h_r5 := RU_carry P4 R5 h_r4 s_r
  have y5 := X5.2.2.1
  have z5 : I5 7 ≤ 140000 := P5.1
  have x5 : I 7 ≤ I5 7 := X5.1.2.1
  have ex5 : A5 1 o = A 1 o := (X5.1.2.2.1 o o0 o1).1
  clear et_l4 et_m4 et_q4 et_r4 T4 h_l4 h_m4 h_q4 h_r4 y4 z4 x4 ex4
  show xx_go (xt_P z) (d + 10) 154 405 [some (.ref h.length), some (.int (iI k)), some (.int (iI o)), some (.int (iI c)), some (.int (iI l)), some (.int (iI m)), some (.int (iI ((-1)))), none] [] (mh h R I5 A5 N) _
  refine go_a (pc' := 406) (ls' := [some (.ref h.length), some (.int (iI k)), some (.int (iI o)), some (.int (iI c)), some (.int (iI l)), some (.int (iI m)), some (.int (iI ((-1)))), none]) (st' := [.int (iI 1)]) rfl rfl ?_
  refine go_r rfl rfl rfl rfl rfl rfl ⟨1, I5, A5, N, rfl, rfl, RU_w X5 (by omega), Or.inr ⟨rfl, ⟨_, di5, hρ tl tm tm_l tm_m⟩, _, _, DR_w D5 (by omega) (Int.le_refl _) (Int.le_refl _), fun b9 b30 b400 => ?_⟩⟩
  have dm := D5.1
  have ds := D5.2.2.1
  have dv := D5.2.2.2
  have kk : KDR dd I5 A5 ar ≤ E + 128 * WD A o - I5 7 := KK_one (by omega) (by omega)
  omega
set_option maxRecDepth 4000 in
theorem mm_con_yes (z : Value) (d : Nat) (ar : Int → Int) (ft : Nat → Int) (Fb : List (Nat × List Nat × ob_T)) (Tb : List (Nat × ob_T)) (ρ : Option (List ob_T)) (k o c E dd : Int) (h R : xx_H) (I : Nat → Int) (A : Nat → Int → Int) (N : Int → Int) (hc : 12 ≤ h.length) (hB : BI ar I A N) (k0 : 0 ≤ k) (k1 : k < 40) (ek : A 47 k = o) (o0 : 0 ≤ o) (o1 : o < I 7) (hF : FORM ar I A N o) (ec : A 49 k = c) (c0 : 0 ≤ c) (w : WD A o ≤ 1000) (hE : E + 128 * WD A o ≤ 140000) (d0 : 0 ≤ dd) (d1 : dd ≤ 39) (c9 : Int) (hcf : CFX ar I A o c9) (hX : BTX ar ft Fb Tb I A N) (w0 : I 49 = 0) (ef : A 1 o = 35) (hU : I 7 ≤ E + c9) (hρ : ∀ l m n : ob_T, sp_tm ft (DM A N (A 1 (rt A 1 o))) = some l → sp_tm ft (DM A N (A 1 (rt A 2 o))) = some m → sp_tm ft (DM A N (A 1 (rt A 3 o))) = some n → ρ = sp_cz [sp_ntO (some l), sp_opO (sp_eq (sp_c3 429 l m n) m)]) : xx_cl (xt_P z) (d + 11) 154 [.ref h.length, .int (iI k)] (mh h R I A N) (fun v h1 => ∃ (b : Int) (I1 : Nat → Int) (A1 : Nat → Int → Int) (N1 : Int → Int), v = some (.int (iI b)) ∧ h1 = mh h R I1 A1 N1 ∧ RU ar 140000 I A N I1 A1 N1 ∧ ((b = 0 ∧ ρ = none) ∨ (b = 1 ∧ (∃ its : List (Option ob_T), DIT its I1 A1 N1 ∧ ρ = sp_cz its) ∧ ∃ S V : Int, DR ar 1190 S V I1 A1 ∧ (I1 49 = 0 → I1 67 ≤ 30 → SG (TZ A1 ar) (A1 38) (I1 67).toNat ≤ 400 → I1 7 + KDR dd I1 A1 ar ≤ E + 128 * WD A o)))) := by
  have hP := BI_P hB
  have n0 := BI_n0 hB
  have p9 := hP.1
  have nm := hB.1.2.1.1
  have n2 : A 1 2 < 0 := by rw [hB.1.2.1.2 2 (by decide) (by decide)]; decide
  obtain ⟨n, hL, n1, hF⟩ := hF
  have en : n = 4 ∧ TOK A ar (A 1 (rt A 1 o)) ∧ TOK A ar (A 1 (rt A 2 o)) ∧ TOK A ar (A 1 (rt A 3 o)) := by
    rcases hF with q | q | q | q | q | q | q | q | q | q | q | q
    · omega
    · omega
    · omega
    · exact ⟨q.2.1, q.2.2⟩
    · omega
    · omega
    · omega
    · omega
    · omega
    · omega
    · omega
    · omega
  obtain ⟨rfl, tk1, tk2, tk3⟩ := en
  have wo := WD_pair hP o0 o1 (by omega)
  rw [if_neg (fun q => absurd q.1 (by omega))] at wo
  have v0 := VD_rt hP o0 o1 hL (by decide : 0 < 4)
  have v0e : VD A o = WD A (A 1 o) + VD A (rt A 1 o) := v0.1
  have wr : WD A (A 1 o) = 1 := WD_atom (by rw [hB.1.2.1.2 _ (by omega) (by omega)]; decide)
  have v1 := VD_rt hP o0 o1 hL (by decide : 1 < 4)
  have v1e : VD A (rt A 1 o) = WD A (A 1 (rt A 1 o)) + VD A (rt A 2 o) := v1.1
  have v2 := VD_rt hP o0 o1 hL (by decide : 2 < 4)
  have v2e : VD A (rt A 2 o) = WD A (A 1 (rt A 2 o)) + VD A (rt A 3 o) := v2.1
  have v3 := VD_rt hP o0 o1 hL (by decide : 3 < 4)
  have v3e : VD A (rt A 3 o) = WD A (A 1 (rt A 3 o)) + VD A (rt A 4 o) := v3.1
  have vz : VD A (rt A 4 o) = 0 := by rw [isL_end 4 o hL, VD_atom n0, if_pos rfl]
  have cf := hcf.2 (by omega)
  have cf2 := cf.2.1 (by omega)
  refine cl_go rfl ?_
  show xx_go (xt_P z) (d + 10) 154 0 [some (.ref h.length), some (.int (iI k)), none, none, none, none, none, none] [] (mh h R I A N) _
  refine go_a (pc' := 1) (ls' := [some (.ref h.length), some (.int (iI k)), none, none, none, none, none, none]) (st' := [.ref h.length]) rfl rfl ?_
  refine go_get rfl mh_o rfl rfl ?_
  refine go_a (pc' := 5) (ls' := [some (.ref h.length), some (.int (iI k)), none, none, none, none, none, none]) (st' := [.int (iI k), .ref (h.length + 47)]) rfl rfl ?_
  refine mi_ild rfl mh_a47 (by omega) (by omega) (by decide) ?_
  rw [ek]
  refine go_a (pc' := 7) (ls' := [some (.ref h.length), some (.int (iI k)), some (.int (iI o)), none, none, none, none, none]) (st' := []) rfl rfl ?_
  refine go_a (pc' := 8) (ls' := [some (.ref h.length), some (.int (iI k)), some (.int (iI o)), none, none, none, none, none]) (st' := [.ref h.length]) rfl rfl ?_
  refine go_get rfl mh_o rfl rfl ?_
  refine go_a (pc' := 12) (ls' := [some (.ref h.length), some (.int (iI k)), some (.int (iI o)), none, none, none, none, none]) (st' := [.int (iI k), .ref (h.length + 49)]) rfl rfl ?_
  refine mi_ild rfl mh_a49 (by omega) (by omega) (by decide) ?_
  rw [ec]
  refine go_a (pc' := 14) (ls' := [some (.ref h.length), some (.int (iI k)), some (.int (iI o)), some (.int (iI c)), none, none, none, none]) (st' := []) rfl rfl ?_
  refine go_a (pc' := 15) (ls' := [some (.ref h.length), some (.int (iI k)), some (.int (iI o)), some (.int (iI c)), none, none, none, none]) (st' := [.ref h.length]) rfl rfl ?_
  refine go_a (pc' := 16) (ls' := [some (.ref h.length), some (.int (iI k)), some (.int (iI o)), some (.int (iI c)), none, none, none, none]) (st' := [.int (iI 0), .ref h.length]) rfl rfl ?_
  refine go_put (j := 67) rfl mh_o rfl rfl (show 12 ≤ _ from hc) (show 67 < 86 by decide) rfl rfl ?_
  rw [mh_p67]
  obtain ⟨J, hJ⟩ : ∃ J : Nat → Int, J = su I 67 0 := ⟨_, rfl⟩
  rw [← hJ]
  have bJ : BX (fun j => j = 67) NO I A N J A N := by
    subst hJ
    exact BX_of hB.1.1 (fun j q => su_ne q) (fun a _ => rfl) rfl rfl rfl rfl rfl rfl rfl rfl rfl rfl
  have J7 : J 7 = I 7 := by subst hJ; rfl
  have J49 : J 49 = I 49 := by subst hJ; rfl
  have R0 : RU ar 0 I A N J A N := RU_of hB bJ (fun j q => by subst q; unfold FC; omega) (fun a q => absurd q (fun z => z)) (SZI_124 (A := A) (A1 := A) hB.1.2.2 rfl rfl rfl J7) (by subst hJ; rfl) (by subst hJ; rfl) (by rw [J49]; exact hB.2.2.2.2) (by omega) (fun _ => J49)
  have D0 : DR ar 0 0 0 J A := by subst hJ; exact DR_00
  have PJ := RU_P R0
  have T0 : BTX ar ft Fb Tb J A N := BTX_RU hB hX R0
  have di0 : DIT [] J A N := by
    subst hJ
    exact Or.inl ⟨w0, rfl⟩
  refine go_a (pc' := 20) (ls' := [some (.ref h.length), some (.int (iI k)), some (.int (iI o)), some (.int (iI c)), none, none, none, none]) (st' := [.ref h.length]) rfl rfl ?_
  refine go_a (pc' := 21) (ls' := [some (.ref h.length), some (.int (iI k)), some (.int (iI o)), some (.int (iI c)), none, none, none, none]) (st' := [.int (iI o), .ref h.length]) rfl rfl ?_
  refine go_v (m := 98) (as := [.ref h.length, .int (iI o)]) (r := []) rfl rfl rfl mh_o rfl rfl (mm_lenL z (d + 8) 4 o h R J A N hc PJ n0 o0 (by omega) hL) (fun v h1 hq => ?_)
  obtain ⟨rfl, rfl⟩ := hq
  show xx_go (xt_P z) (d + 10) 154 24 [some (.ref h.length), some (.int (iI k)), some (.int (iI o)), some (.int (iI c)), none, none, none, none] [.int (iI (((4 : Nat) : Int)))] (mh h R J A N) _
  refine go_a (pc' := 25) (ls' := [some (.ref h.length), some (.int (iI k)), some (.int (iI o)), some (.int (iI c)), none, none, none, none]) (st' := [.int (iI 1), .int (iI (((4 : Nat) : Int)))]) rfl rfl ?_
  refine mi_le (t := 107) rfl rfl (by omega) (by omega) (by omega) (by omega) (fun q => by omega) (fun _ => ?_)
  refine go_a (pc' := 29) (ls' := [some (.ref h.length), some (.int (iI k)), some (.int (iI o)), some (.int (iI c)), none, none, none, none]) (st' := [.ref h.length]) rfl rfl ?_
  refine go_get rfl mh_o rfl rfl ?_
  refine go_a (pc' := 33) (ls' := [some (.ref h.length), some (.int (iI k)), some (.int (iI o)), some (.int (iI c)), none, none, none, none]) (st' := [.int (iI o), .ref (h.length + 1)]) rfl rfl ?_
  refine mi_ild rfl mh_a1 (by omega) (by omega) (by decide) ?_
  refine go_a (pc' := 36) (ls' := [some (.ref h.length), some (.int (iI k)), some (.int (iI o)), some (.int (iI c)), none, none, none, none]) (st' := [.int (iI 37), .int (iI (A 1 o))]) rfl rfl ?_
  refine mi_eq (t := 107) rfl rfl (by omega) (by omega) (by omega) (by omega) (fun q => by omega) (fun _ => ?_)
  refine go_a (pc' := 40) (ls' := [some (.ref h.length), some (.int (iI k)), some (.int (iI o)), some (.int (iI c)), none, none, none, none]) (st' := [.ref h.length]) rfl rfl ?_
  refine go_get rfl mh_o rfl rfl ?_
  refine go_a (pc' := 44) (ls' := [some (.ref h.length), some (.int (iI k)), some (.int (iI o)), some (.int (iI c)), none, none, none, none]) (st' := [.int (iI o), .ref (h.length + 1)]) rfl rfl ?_
  refine mi_ild rfl mh_a1 (by omega) (by omega) (by decide) ?_
  refine go_a (pc' := 47) (ls' := [some (.ref h.length), some (.int (iI k)), some (.int (iI o)), some (.int (iI c)), none, none, none, none]) (st' := [.int (iI 38), .int (iI (A 1 o))]) rfl rfl ?_
  refine mi_eq (t := 107) rfl rfl (by omega) (by omega) (by omega) (by omega) (fun q => by omega) (fun _ => ?_)
  refine go_a (pc' := 51) (ls' := [some (.ref h.length), some (.int (iI k)), some (.int (iI o)), some (.int (iI c)), none, none, none, none]) (st' := [.ref h.length]) rfl rfl ?_
  refine go_get rfl mh_o rfl rfl ?_
  refine go_a (pc' := 55) (ls' := [some (.ref h.length), some (.int (iI k)), some (.int (iI o)), some (.int (iI c)), none, none, none, none]) (st' := [.int (iI o), .ref (h.length + 1)]) rfl rfl ?_
  refine mi_ild rfl mh_a1 (by omega) (by omega) (by decide) ?_
  refine go_a (pc' := 58) (ls' := [some (.ref h.length), some (.int (iI k)), some (.int (iI o)), some (.int (iI c)), none, none, none, none]) (st' := [.int (iI 39), .int (iI (A 1 o))]) rfl rfl ?_
  refine mi_eq (t := 107) rfl rfl (by omega) (by omega) (by omega) (by omega) (fun q => by omega) (fun _ => ?_)
  refine go_a (pc' := 62) (ls' := [some (.ref h.length), some (.int (iI k)), some (.int (iI o)), some (.int (iI c)), none, none, none, none]) (st' := [.ref h.length]) rfl rfl ?_
  refine go_get rfl mh_o rfl rfl ?_
  refine go_a (pc' := 66) (ls' := [some (.ref h.length), some (.int (iI k)), some (.int (iI o)), some (.int (iI c)), none, none, none, none]) (st' := [.int (iI o), .ref (h.length + 1)]) rfl rfl ?_
  refine mi_ild rfl mh_a1 (by omega) (by omega) (by decide) ?_
  refine go_a (pc' := 69) (ls' := [some (.ref h.length), some (.int (iI k)), some (.int (iI o)), some (.int (iI c)), none, none, none, none]) (st' := [.int (iI 41), .int (iI (A 1 o))]) rfl rfl ?_
  refine mi_eq (t := 107) rfl rfl (by omega) (by omega) (by omega) (by omega) (fun q => by omega) (fun _ => ?_)
  refine go_a (pc' := 73) (ls' := [some (.ref h.length), some (.int (iI k)), some (.int (iI o)), some (.int (iI c)), none, none, none, none]) (st' := [.ref h.length]) rfl rfl ?_
  refine go_get rfl mh_o rfl rfl ?_
  refine go_a (pc' := 77) (ls' := [some (.ref h.length), some (.int (iI k)), some (.int (iI o)), some (.int (iI c)), none, none, none, none]) (st' := [.int (iI o), .ref (h.length + 1)]) rfl rfl ?_
  refine mi_ild rfl mh_a1 (by omega) (by omega) (by decide) ?_
  refine go_a (pc' := 80) (ls' := [some (.ref h.length), some (.int (iI k)), some (.int (iI o)), some (.int (iI c)), none, none, none, none]) (st' := [.int (iI 42), .int (iI (A 1 o))]) rfl rfl ?_
  refine mi_eq (t := 107) rfl rfl (by omega) (by omega) (by omega) (by omega) (fun q => by omega) (fun _ => ?_)
  refine go_a (pc' := 84) (ls' := [some (.ref h.length), some (.int (iI k)), some (.int (iI o)), some (.int (iI c)), none, none, none, none]) (st' := [.ref h.length]) rfl rfl ?_
  refine go_get rfl mh_o rfl rfl ?_
  refine go_a (pc' := 88) (ls' := [some (.ref h.length), some (.int (iI k)), some (.int (iI o)), some (.int (iI c)), none, none, none, none]) (st' := [.int (iI o), .ref (h.length + 1)]) rfl rfl ?_
  refine mi_ild rfl mh_a1 (by omega) (by omega) (by decide) ?_
  refine go_a (pc' := 91) (ls' := [some (.ref h.length), some (.int (iI k)), some (.int (iI o)), some (.int (iI c)), none, none, none, none]) (st' := [.int (iI 43), .int (iI (A 1 o))]) rfl rfl ?_
  refine mi_eq (t := 107) rfl rfl (by omega) (by omega) (by omega) (by omega) (fun q => by omega) (fun _ => ?_)
  refine go_a (pc' := 95) (ls' := [some (.ref h.length), some (.int (iI k)), some (.int (iI o)), some (.int (iI c)), none, none, none, none]) (st' := [.ref h.length]) rfl rfl ?_
  refine go_a (pc' := 96) (ls' := [some (.ref h.length), some (.int (iI k)), some (.int (iI o)), some (.int (iI c)), none, none, none, none]) (st' := [.ref h.length, .ref h.length]) rfl rfl ?_
  refine go_a (pc' := 97) (ls' := [some (.ref h.length), some (.int (iI k)), some (.int (iI o)), some (.int (iI c)), none, none, none, none]) (st' := [.int (iI o), .ref h.length, .ref h.length]) rfl rfl ?_
  refine go_a (pc' := 98) (ls' := [some (.ref h.length), some (.int (iI k)), some (.int (iI o)), some (.int (iI c)), none, none, none, none]) (st' := [.int (iI 1), .int (iI o), .ref h.length, .ref h.length]) rfl rfl ?_
  have Lxl := isL_extB hP R0.1 4 o o0 o1 hL
  have ixl := it_BX hP R0.1 o0 o1 hL (by decide : 1 < 4)
  refine go_v (m := 99) (as := [.ref h.length, .int (iI o), .int (iI 1)]) (r := [.ref h.length]) rfl rfl rfl mh_o rfl rfl (mm_nth z (d + 9) 1 4 o h R J A N hc PJ (by decide) o0 (by omega) Lxl (by omega)) (fun v h1 hq => ?_)
  obtain ⟨rfl, rfl⟩ := hq
  rw [ixl]
  show xx_go (xt_P z) (d + 10) 154 101 [some (.ref h.length), some (.int (iI k)), some (.int (iI o)), some (.int (iI c)), none, none, none, none] [.int (iI (A 1 (rt A 1 o))), .ref h.length] (mh h R J A N) _
  have wxl := (WD_BX hP R0.1 v1.2.1.1 v1.2.1.2).1
  refine go_v (m := 105) (as := [.ref h.length, .int (iI (A 1 (rt A 1 o)))]) (r := []) rfl rfl rfl mh_o rfl rfl (mr_term z (d + 2) ar (A 1 (rt A 1 o)) h R J A N hc R0.2.1 v1.2.1.1 (by omega) (by omega) (by omega)) (fun v h1 hq => ?_)
  obtain ⟨l, I1, A1, rfl, rfl, R1, K1, ⟨u1, bb1⟩, ht1⟩ := hq
  have tt1 : ((0 ≤ l ∧ l < I1 7) ∧ TZ A1 ar l = TS A ar (A 1 (rt A 1 o))) ∧ (1 ≤ TS A ar (A 1 (rt A 1 o)) ∧ TS A ar (A 1 (rt A 1 o)) ≤ 120) ∧ TS A ar (A 1 (rt A 1 o)) ≤ WD A (A 1 (rt A 1 o)) ∧ NFT A1 (A 1 (rt A 1 o)) l := by
    have tk := TOK_BX hP R0.1 v1.2.1.1 v1.2.1.2 tk1
    rcases ht1 with q | q
    · exact absurd tk q.2
    · have ts := TS_BX (ar := ar) hP R0.1 v1.2.1.1 v1.2.1.2
      rw [ts, wxl] at q
      exact ⟨⟨q.1, q.2.2.2.1⟩, by omega, q.2.2.2.2.1, q.2.2.2.2.2⟩
  obtain ⟨h_l1, sb_l, sw_l, nf_l⟩ := tt1
  have s_l := sb_l.1
  have tm_l := (TQ_tm R0.2.1 T0 v1.2.1.1 (by omega) (show TQ ar (A 1 (rt A 1 o)) l J A N I1 A1 from ⟨bb1, R1.2.1, by have := R1.2.2.1; omega, u1, ht1⟩)).2 (by omega)
  rw [DM_RU hB hX R0 v1.2.1.1 v1.2.1.2] at tm_l
  obtain ⟨tl, et_l1⟩ : ∃ q : ob_T, DM A1 N l = q := ⟨_, rfl⟩
  rw [et_l1] at tm_l
  have tt_l := tm_ts tm_l
  have di1 := DIT_BX R0.2.1 T0.1 D0 bb1 (by unfold FB; omega) (by unfold GT; omega) (by unfold GT; omega) (by unfold FB; omega) (by unfold GT; omega) u1 di0
  clear bb1 ht1
  rw [wxl] at R1
  have D1 := K1 _ _ _ D0
  have P1 := RU_P R1
  have X1 := RU_tr R0 R1 (Int.le_refl _)
  have T1 := BTX_RU R0.2.1 T0 R1
  have y1 := X1.2.2.1
  have z1 : I1 7 ≤ 140000 := P1.1
  have x1 : I 7 ≤ I1 7 := X1.1.2.1
  have ex1 : A1 1 o = A 1 o := (X1.1.2.2.1 o o0 o1).1
  clear T0
  show xx_go (xt_P z) (d + 10) 154 104 [some (.ref h.length), some (.int (iI k)), some (.int (iI o)), some (.int (iI c)), none, none, none, none] [.int (iI l)] (mh h R I1 A1 N) _
  refine go_a (pc' := 108) (ls' := [some (.ref h.length), some (.int (iI k)), some (.int (iI o)), some (.int (iI c)), none, none, none, none]) (st' := [.int (iI l)]) rfl rfl ?_
  refine go_a (pc' := 110) (ls' := [some (.ref h.length), some (.int (iI k)), some (.int (iI o)), some (.int (iI c)), some (.int (iI l)), none, none, none]) (st' := []) rfl rfl ?_
  refine go_a (pc' := 111) (ls' := [some (.ref h.length), some (.int (iI k)), some (.int (iI o)), some (.int (iI c)), some (.int (iI l)), none, none, none]) (st' := [.ref h.length]) rfl rfl ?_
  refine go_get rfl mh_o rfl rfl ?_
  refine go_a (pc' := 115) (ls' := [some (.ref h.length), some (.int (iI k)), some (.int (iI o)), some (.int (iI c)), some (.int (iI l)), none, none, none]) (st' := [.int (iI o), .ref (h.length + 1)]) rfl rfl ?_
  refine mi_ild rfl mh_a1 (by omega) (by omega) (by decide) ?_
  refine go_a (pc' := 118) (ls' := [some (.ref h.length), some (.int (iI k)), some (.int (iI o)), some (.int (iI c)), some (.int (iI l)), none, none, none]) (st' := [.int (iI 32), .int (iI (A1 1 o))]) rfl rfl ?_
  refine mi_lt (t := 145) rfl rfl (by omega) (by omega) (by omega) (by omega) (fun q => by omega) (fun _ => ?_)
  refine go_a (pc' := 122) (ls' := [some (.ref h.length), some (.int (iI k)), some (.int (iI o)), some (.int (iI c)), some (.int (iI l)), none, none, none]) (st' := [.ref h.length]) rfl rfl ?_
  refine go_get rfl mh_o rfl rfl ?_
  refine go_a (pc' := 126) (ls' := [some (.ref h.length), some (.int (iI k)), some (.int (iI o)), some (.int (iI c)), some (.int (iI l)), none, none, none]) (st' := [.int (iI o), .ref (h.length + 1)]) rfl rfl ?_
  refine mi_ild rfl mh_a1 (by omega) (by omega) (by decide) ?_
  refine go_a (pc' := 129) (ls' := [some (.ref h.length), some (.int (iI k)), some (.int (iI o)), some (.int (iI c)), some (.int (iI l)), none, none, none]) (st' := [.int (iI 36), .int (iI (A1 1 o))]) rfl rfl ?_
  refine mi_gt (t := 145) rfl rfl (by omega) (by omega) (by omega) (by omega) (fun q => by omega) (fun _ => ?_)
  refine go_a (pc' := 133) (ls' := [some (.ref h.length), some (.int (iI k)), some (.int (iI o)), some (.int (iI c)), some (.int (iI l)), none, none, none]) (st' := [.ref h.length]) rfl rfl ?_
  refine go_a (pc' := 134) (ls' := [some (.ref h.length), some (.int (iI k)), some (.int (iI o)), some (.int (iI c)), some (.int (iI l)), none, none, none]) (st' := [.ref h.length, .ref h.length]) rfl rfl ?_
  refine go_a (pc' := 135) (ls' := [some (.ref h.length), some (.int (iI k)), some (.int (iI o)), some (.int (iI c)), some (.int (iI l)), none, none, none]) (st' := [.int (iI o), .ref h.length, .ref h.length]) rfl rfl ?_
  refine go_a (pc' := 136) (ls' := [some (.ref h.length), some (.int (iI k)), some (.int (iI o)), some (.int (iI c)), some (.int (iI l)), none, none, none]) (st' := [.int (iI 2), .int (iI o), .ref h.length, .ref h.length]) rfl rfl ?_
  have Lxm := isL_extB hP X1.1 4 o o0 o1 hL
  have ixm := it_BX hP X1.1 o0 o1 hL (by decide : 2 < 4)
  refine go_v (m := 99) (as := [.ref h.length, .int (iI o), .int (iI 2)]) (r := [.ref h.length]) rfl rfl rfl mh_o rfl rfl (mm_nth z (d + 9) 2 4 o h R I1 A1 N hc P1 (by decide) o0 (by omega) Lxm (by omega)) (fun v h1 hq => ?_)
  obtain ⟨rfl, rfl⟩ := hq
  rw [ixm]
  show xx_go (xt_P z) (d + 10) 154 139 [some (.ref h.length), some (.int (iI k)), some (.int (iI o)), some (.int (iI c)), some (.int (iI l)), none, none, none] [.int (iI (A 1 (rt A 2 o))), .ref h.length] (mh h R I1 A1 N) _
  have wxm := (WD_BX hP X1.1 v2.2.1.1 v2.2.1.2).1
  refine go_v (m := 105) (as := [.ref h.length, .int (iI (A 1 (rt A 2 o)))]) (r := []) rfl rfl rfl mh_o rfl rfl (mr_term z (d + 2) ar (A 1 (rt A 2 o)) h R I1 A1 N hc X1.2.1 v2.2.1.1 (by omega) (by omega) (by omega)) (fun v h1 hq => ?_)
  obtain ⟨m, I2, A2, rfl, rfl, R2, K2, ⟨u2, bb2⟩, ht2⟩ := hq
  have tt2 : ((0 ≤ m ∧ m < I2 7) ∧ TZ A2 ar m = TS A ar (A 1 (rt A 2 o))) ∧ (1 ≤ TS A ar (A 1 (rt A 2 o)) ∧ TS A ar (A 1 (rt A 2 o)) ≤ 120) ∧ TS A ar (A 1 (rt A 2 o)) ≤ WD A (A 1 (rt A 2 o)) ∧ NFT A2 (A 1 (rt A 2 o)) m := by
    have tk := TOK_BX hP X1.1 v2.2.1.1 v2.2.1.2 tk2
    rcases ht2 with q | q
    · exact absurd tk q.2
    · have ts := TS_BX (ar := ar) hP X1.1 v2.2.1.1 v2.2.1.2
      rw [ts, wxm] at q
      exact ⟨⟨q.1, q.2.2.2.1⟩, by omega, q.2.2.2.2.1, q.2.2.2.2.2⟩
  obtain ⟨h_m2, sb_m, sw_m, nf_m⟩ := tt2
  have s_m := sb_m.1
  have tm_m := (TQ_tm X1.2.1 T1 v2.2.1.1 (by omega) (show TQ ar (A 1 (rt A 2 o)) m I1 A1 N I2 A2 from ⟨bb2, R2.2.1, by have := R2.2.2.1; omega, u2, ht2⟩)).2 (by omega)
  rw [DM_RU hB hX X1 v2.2.1.1 v2.2.1.2] at tm_m
  obtain ⟨tm, et_m2⟩ : ∃ q : ob_T, DM A2 N m = q := ⟨_, rfl⟩
  rw [et_m2] at tm_m
  have tt_m := tm_ts tm_m
  have di2 := DIT_BX X1.2.1 T1.1 D1 bb2 (by unfold FB; omega) (by unfold GT; omega) (by unfold GT; omega) (by unfold FB; omega) (by unfold GT; omega) u2 di1
  clear bb2 ht2
  rw [wxm] at R2
  have D2 := K2 _ _ _ D1
  have P2 := RU_P R2
  have X2 := RU_tr X1 R2 (Int.le_refl _)
  have T2 := BTX_RU X1.2.1 T1 R2
  have et_l2 := (DM_RU X1.2.1 T1 R2 h_l1.1.1 h_l1.1.2).trans et_l1
  have h_l2 := RU_carry P1 R2 h_l1 s_l
  have y2 := X2.2.2.1
  have z2 : I2 7 ≤ 140000 := P2.1
  have x2 : I 7 ≤ I2 7 := X2.1.2.1
  have ex2 : A2 1 o = A 1 o := (X2.1.2.2.1 o o0 o1).1
  clear et_l1 T1 h_l1 y1 z1 x1 ex1
  show xx_go (xt_P z) (d + 10) 154 142 [some (.ref h.length), some (.int (iI k)), some (.int (iI o)), some (.int (iI c)), some (.int (iI l)), none, none, none] [.int (iI m)] (mh h R I2 A2 N) _
  refine go_a (pc' := 146) (ls' := [some (.ref h.length), some (.int (iI k)), some (.int (iI o)), some (.int (iI c)), some (.int (iI l)), none, none, none]) (st' := [.int (iI m)]) rfl rfl ?_
  refine go_a (pc' := 148) (ls' := [some (.ref h.length), some (.int (iI k)), some (.int (iI o)), some (.int (iI c)), some (.int (iI l)), some (.int (iI m)), none, none]) (st' := []) rfl rfl ?_
  refine go_a (pc' := 149) (ls' := [some (.ref h.length), some (.int (iI k)), some (.int (iI o)), some (.int (iI c)), some (.int (iI l)), some (.int (iI m)), none, none]) (st' := [.ref h.length]) rfl rfl ?_
  refine go_get rfl mh_o rfl rfl ?_
  refine go_a (pc' := 153) (ls' := [some (.ref h.length), some (.int (iI k)), some (.int (iI o)), some (.int (iI c)), some (.int (iI l)), some (.int (iI m)), none, none]) (st' := [.int (iI o), .ref (h.length + 1)]) rfl rfl ?_
  refine mi_ild rfl mh_a1 (by omega) (by omega) (by decide) ?_
  refine go_a (pc' := 156) (ls' := [some (.ref h.length), some (.int (iI k)), some (.int (iI o)), some (.int (iI c)), some (.int (iI l)), some (.int (iI m)), none, none]) (st' := [.int (iI 35), .int (iI (A2 1 o))]) rfl rfl ?_
  refine mi_eq (t := 170) rfl rfl (by omega) (by omega) (by omega) (by omega) (fun _ => ?_) (fun q => by omega)
  refine go_a (pc' := 171) (ls' := [some (.ref h.length), some (.int (iI k)), some (.int (iI o)), some (.int (iI c)), some (.int (iI l)), some (.int (iI m)), none, none]) (st' := [.ref h.length]) rfl rfl ?_
  refine go_a (pc' := 172) (ls' := [some (.ref h.length), some (.int (iI k)), some (.int (iI o)), some (.int (iI c)), some (.int (iI l)), some (.int (iI m)), none, none]) (st' := [.ref h.length, .ref h.length]) rfl rfl ?_
  refine go_a (pc' := 173) (ls' := [some (.ref h.length), some (.int (iI k)), some (.int (iI o)), some (.int (iI c)), some (.int (iI l)), some (.int (iI m)), none, none]) (st' := [.int (iI o), .ref h.length, .ref h.length]) rfl rfl ?_
  refine go_a (pc' := 174) (ls' := [some (.ref h.length), some (.int (iI k)), some (.int (iI o)), some (.int (iI c)), some (.int (iI l)), some (.int (iI m)), none, none]) (st' := [.int (iI 3), .int (iI o), .ref h.length, .ref h.length]) rfl rfl ?_
  have Lxn := isL_extB hP X2.1 4 o o0 o1 hL
  have ixn := it_BX hP X2.1 o0 o1 hL (by decide : 3 < 4)
  refine go_v (m := 99) (as := [.ref h.length, .int (iI o), .int (iI 3)]) (r := [.ref h.length]) rfl rfl rfl mh_o rfl rfl (mm_nth z (d + 9) 3 4 o h R I2 A2 N hc P2 (by decide) o0 (by omega) Lxn (by omega)) (fun v h1 hq => ?_)
  obtain ⟨rfl, rfl⟩ := hq
  rw [ixn]
  show xx_go (xt_P z) (d + 10) 154 177 [some (.ref h.length), some (.int (iI k)), some (.int (iI o)), some (.int (iI c)), some (.int (iI l)), some (.int (iI m)), none, none] [.int (iI (A 1 (rt A 3 o))), .ref h.length] (mh h R I2 A2 N) _
  have wxn := (WD_BX hP X2.1 v3.2.1.1 v3.2.1.2).1
  refine go_v (m := 105) (as := [.ref h.length, .int (iI (A 1 (rt A 3 o)))]) (r := []) rfl rfl rfl mh_o rfl rfl (mr_term z (d + 2) ar (A 1 (rt A 3 o)) h R I2 A2 N hc X2.2.1 v3.2.1.1 (by omega) (by omega) (by omega)) (fun v h1 hq => ?_)
  obtain ⟨n, I3, A3, rfl, rfl, R3, K3, ⟨u3, bb3⟩, ht3⟩ := hq
  have tt3 : ((0 ≤ n ∧ n < I3 7) ∧ TZ A3 ar n = TS A ar (A 1 (rt A 3 o))) ∧ (1 ≤ TS A ar (A 1 (rt A 3 o)) ∧ TS A ar (A 1 (rt A 3 o)) ≤ 120) ∧ TS A ar (A 1 (rt A 3 o)) ≤ WD A (A 1 (rt A 3 o)) ∧ NFT A3 (A 1 (rt A 3 o)) n := by
    have tk := TOK_BX hP X2.1 v3.2.1.1 v3.2.1.2 tk3
    rcases ht3 with q | q
    · exact absurd tk q.2
    · have ts := TS_BX (ar := ar) hP X2.1 v3.2.1.1 v3.2.1.2
      rw [ts, wxn] at q
      exact ⟨⟨q.1, q.2.2.2.1⟩, by omega, q.2.2.2.2.1, q.2.2.2.2.2⟩
  obtain ⟨h_n3, sb_n, sw_n, nf_n⟩ := tt3
  have s_n := sb_n.1
  have tm_n := (TQ_tm X2.2.1 T2 v3.2.1.1 (by omega) (show TQ ar (A 1 (rt A 3 o)) n I2 A2 N I3 A3 from ⟨bb3, R3.2.1, by have := R3.2.2.1; omega, u3, ht3⟩)).2 (by omega)
  rw [DM_RU hB hX X2 v3.2.1.1 v3.2.1.2] at tm_n
  obtain ⟨tn, et_n3⟩ : ∃ q : ob_T, DM A3 N n = q := ⟨_, rfl⟩
  rw [et_n3] at tm_n
  have tt_n := tm_ts tm_n
  have di3 := DIT_BX X2.2.1 T2.1 D2 bb3 (by unfold FB; omega) (by unfold GT; omega) (by unfold GT; omega) (by unfold FB; omega) (by unfold GT; omega) u3 di2
  clear bb3 ht3
  rw [wxn] at R3
  have D3 := K3 _ _ _ D2
  have P3 := RU_P R3
  have X3 := RU_tr X2 R3 (Int.le_refl _)
  have T3 := BTX_RU X2.2.1 T2 R3
  have et_l3 := (DM_RU X2.2.1 T2 R3 h_l2.1.1 h_l2.1.2).trans et_l2
  have et_m3 := (DM_RU X2.2.1 T2 R3 h_m2.1.1 h_m2.1.2).trans et_m2
  have h_l3 := RU_carry P2 R3 h_l2 s_l
  have h_m3 := RU_carry P2 R3 h_m2 s_m
  have y3 := X3.2.2.1
  have z3 : I3 7 ≤ 140000 := P3.1
  have x3 : I 7 ≤ I3 7 := X3.1.2.1
  have ex3 : A3 1 o = A 1 o := (X3.1.2.2.1 o o0 o1).1
  clear et_l2 et_m2 T2 h_l2 h_m2 y2 z2 x2 ex2
  show xx_go (xt_P z) (d + 10) 154 180 [some (.ref h.length), some (.int (iI k)), some (.int (iI o)), some (.int (iI c)), some (.int (iI l)), some (.int (iI m)), none, none] [.int (iI n)] (mh h R I3 A3 N) _
  refine go_a (pc' := 184) (ls' := [some (.ref h.length), some (.int (iI k)), some (.int (iI o)), some (.int (iI c)), some (.int (iI l)), some (.int (iI m)), none, none]) (st' := [.int (iI n)]) rfl rfl ?_
  refine go_a (pc' := 186) (ls' := [some (.ref h.length), some (.int (iI k)), some (.int (iI o)), some (.int (iI c)), some (.int (iI l)), some (.int (iI m)), some (.int (iI n)), none]) (st' := []) rfl rfl ?_
  refine go_a (pc' := 187) (ls' := [some (.ref h.length), some (.int (iI k)), some (.int (iI o)), some (.int (iI c)), some (.int (iI l)), some (.int (iI m)), some (.int (iI n)), none]) (st' := [.ref h.length]) rfl rfl ?_
  refine go_get rfl mh_o rfl rfl ?_
  refine go_a (pc' := 191) (ls' := [some (.ref h.length), some (.int (iI k)), some (.int (iI o)), some (.int (iI c)), some (.int (iI l)), some (.int (iI m)), some (.int (iI n)), none]) (st' := [.int (iI o), .ref (h.length + 1)]) rfl rfl ?_
  refine mi_ild rfl mh_a1 (by omega) (by omega) (by decide) ?_
  rw [ex3]
  refine mi_ts (c := 35) (t := 407) rfl ef rfl ?_
  refine go_a (pc' := 408) (ls' := [some (.ref h.length), some (.int (iI k)), some (.int (iI o)), some (.int (iI c)), some (.int (iI l)), some (.int (iI m)), some (.int (iI n)), none]) (st' := [.ref h.length]) rfl rfl ?_
  refine go_a (pc' := 409) (ls' := [some (.ref h.length), some (.int (iI k)), some (.int (iI o)), some (.int (iI c)), some (.int (iI l)), some (.int (iI m)), some (.int (iI n)), none]) (st' := [.ref h.length, .ref h.length]) rfl rfl ?_
  refine go_a (pc' := 411) (ls' := [some (.ref h.length), some (.int (iI k)), some (.int (iI o)), some (.int (iI c)), some (.int (iI l)), some (.int (iI m)), some (.int (iI n)), none]) (st' := [.int (iI l), .ref h.length, .ref h.length]) rfl rfl ?_
  refine go_v (m := 125) (as := [.ref h.length, .int (iI l)]) (r := [.ref h.length]) rfl rfl rfl mh_o rfl rfl (mr_not z (d + 3) ar l h R I3 A3 N hc X3.2.1 T3.1 (TS_pq (TS_of X3.2.1 T3 h_l3.1.1 h_l3.1.2 et_l3 tt_l)) h_l3.1.1 h_l3.1.2 (by rw [h_l3.2]; exact s_l) (Or.inl (by rw [h_l3.2]; omega)) (by omega)) (fun v h1 hq => ?_)
  obtain ⟨q, I4, A4, rfl, rfl, R4, K4, tv4, tb4, te4, dt4, dj4⟩ := hq
  rw [h_l3.2] at te4
  rw [et_l3] at dt4 dj4
  have et_q4 := dt4
  have di4 : DIM _ (sp_opO (sp_not tl)) _ _ _ _ := dj4 _ _ _ _ D3 di3
  have D4 := K4 _ _ _ D3
  obtain ⟨szq, hszq⟩ : ∃ x : Int, TZ A4 ar q = x := ⟨_, rfl⟩
  have h_q4 : (0 ≤ q ∧ q < I4 7) ∧ TZ A4 ar q = szq := ⟨tv4.1, hszq⟩
  have s_q : 1 ≤ szq := by rw [← hszq]; exact tv4.2
  rw [hszq] at te4 tb4
  have P4 := RU_P R4
  have X4 := RU_tr X3 R4 (Int.le_refl _)
  have T4 := BTX_RU X3.2.1 T3 R4
  have et_l4 := (DM_RU X3.2.1 T3 R4 h_l3.1.1 h_l3.1.2).trans et_l3
  have et_m4 := (DM_RU X3.2.1 T3 R4 h_m3.1.1 h_m3.1.2).trans et_m3
  have et_n4 := (DM_RU X3.2.1 T3 R4 h_n3.1.1 h_n3.1.2).trans et_n3
  have h_l4 := RU_carry P3 R4 h_l3 s_l
  have h_m4 := RU_carry P3 R4 h_m3 s_m
  have h_n4 := RU_carry P3 R4 h_n3 s_n
  have y4 := X4.2.2.1
  have z4 : I4 7 ≤ 140000 := P4.1
  have x4 : I 7 ≤ I4 7 := X4.1.2.1
  have ex4 : A4 1 o = A 1 o := (X4.1.2.2.1 o o0 o1).1
  clear et_l3 et_m3 et_n3 T3 h_l3 h_m3 h_n3 y3 z3 x3 ex3
  show xx_go (xt_P z) (d + 10) 154 414 [some (.ref h.length), some (.int (iI k)), some (.int (iI o)), some (.int (iI c)), some (.int (iI l)), some (.int (iI m)), some (.int (iI n)), none] [.int (iI q), .ref h.length] (mh h R I4 A4 N) _
  refine go_v (m := 155) (as := [.ref h.length, .int (iI q)]) (r := []) rfl rfl rfl mh_o rfl rfl (mr_put z (d + 9) ar 0 0 _ q h R I4 A4 N hc X4.2.1 T4.1 D4 (by omega) h_q4.1.1 h_q4.1.2 (by rw [h_q4.2]; exact s_q) (fun b => by rw [h_q4.2]; exact tb4 b)) (fun v h1 hq => ?_)
  obtain ⟨rfl, I5, A5, rfl, R5, D5, u5, e5, jj5⟩ := hq
  have di5 := jj5 _ _ di4
  rw [h_q4.2] at D5
  have P5 := RU_P R5
  have X5 := RU_tr X4 R5 (Int.le_refl _)
  have T5 := BTX_RU X4.2.1 T4 R5
  have et_l5 := (DM_RU X4.2.1 T4 R5 h_l4.1.1 h_l4.1.2).trans et_l4
  have et_m5 := (DM_RU X4.2.1 T4 R5 h_m4.1.1 h_m4.1.2).trans et_m4
  have et_n5 := (DM_RU X4.2.1 T4 R5 h_n4.1.1 h_n4.1.2).trans et_n4
  have et_q5 := (DM_RU X4.2.1 T4 R5 h_q4.1.1 h_q4.1.2).trans et_q4
  have h_l5 := RU_carry P4 R5 h_l4 s_l
  have h_m5 := RU_carry P4 R5 h_m4 s_m
  have h_n5 := RU_carry P4 R5 h_n4 s_n
  have h_q5 := RU_carry P4 R5 h_q4 s_q
  have y5 := X5.2.2.1
  have z5 : I5 7 ≤ 140000 := P5.1
  have x5 : I 7 ≤ I5 7 := X5.1.2.1
  have ex5 : A5 1 o = A 1 o := (X5.1.2.2.1 o o0 o1).1
  clear et_l4 et_m4 et_n4 et_q4 T4 h_l4 h_m4 h_n4 h_q4 y4 z4 x4 ex4
  show xx_go (xt_P z) (d + 10) 154 417 [some (.ref h.length), some (.int (iI k)), some (.int (iI o)), some (.int (iI c)), some (.int (iI l)), some (.int (iI m)), some (.int (iI n)), none] [] (mh h R I5 A5 N) _
  refine go_a (pc' := 418) (ls' := [some (.ref h.length), some (.int (iI k)), some (.int (iI o)), some (.int (iI c)), some (.int (iI l)), some (.int (iI m)), some (.int (iI n)), none]) (st' := [.ref h.length]) rfl rfl ?_
  refine go_a (pc' := 419) (ls' := [some (.ref h.length), some (.int (iI k)), some (.int (iI o)), some (.int (iI c)), some (.int (iI l)), some (.int (iI m)), some (.int (iI n)), none]) (st' := [.ref h.length, .ref h.length]) rfl rfl ?_
  refine go_a (pc' := 420) (ls' := [some (.ref h.length), some (.int (iI k)), some (.int (iI o)), some (.int (iI c)), some (.int (iI l)), some (.int (iI m)), some (.int (iI n)), none]) (st' := [.int (iI 4), .ref h.length, .ref h.length]) rfl rfl ?_
  refine go_a (pc' := 421) (ls' := [some (.ref h.length), some (.int (iI k)), some (.int (iI o)), some (.int (iI c)), some (.int (iI l)), some (.int (iI m)), some (.int (iI n)), none]) (st' := [.ref h.length, .int (iI 4), .ref h.length, .ref h.length]) rfl rfl ?_
  refine go_a (pc' := 422) (ls' := [some (.ref h.length), some (.int (iI k)), some (.int (iI o)), some (.int (iI c)), some (.int (iI l)), some (.int (iI m)), some (.int (iI n)), none]) (st' := [.int (iI 3), .ref h.length, .int (iI 4), .ref h.length, .ref h.length]) rfl rfl ?_
  refine go_a (pc' := 424) (ls' := [some (.ref h.length), some (.int (iI k)), some (.int (iI o)), some (.int (iI c)), some (.int (iI l)), some (.int (iI m)), some (.int (iI n)), none]) (st' := [.int (iI l), .int (iI 3), .ref h.length, .int (iI 4), .ref h.length, .ref h.length]) rfl rfl ?_
  refine go_a (pc' := 426) (ls' := [some (.ref h.length), some (.int (iI k)), some (.int (iI o)), some (.int (iI c)), some (.int (iI l)), some (.int (iI m)), some (.int (iI n)), none]) (st' := [.int (iI m), .int (iI l), .int (iI 3), .ref h.length, .int (iI 4), .ref h.length, .ref h.length]) rfl rfl ?_
  refine go_a (pc' := 428) (ls' := [some (.ref h.length), some (.int (iI k)), some (.int (iI o)), some (.int (iI c)), some (.int (iI l)), some (.int (iI m)), some (.int (iI n)), none]) (st' := [.int (iI n), .int (iI m), .int (iI l), .int (iI 3), .ref h.length, .int (iI 4), .ref h.length, .ref h.length]) rfl rfl ?_
  refine go_v (m := 127) (as := [.ref h.length, .int (iI 3), .int (iI l), .int (iI m), .int (iI n)]) (r := [.int (iI 4), .ref h.length, .ref h.length]) rfl rfl rfl mh_o rfl rfl (mr_three z (d + 4) ar 3 l m n h R I5 A5 N hc X5.2.1 T5.1 (by decide) (by omega) (by decide) (by omega) h_l5.1.1 h_l5.1.2 (by rw [h_l5.2]; exact s_l) h_m5.1.1 h_m5.1.2 (by rw [h_m5.2]; exact s_m) h_n5.1.1 h_n5.1.2 (by rw [h_n5.2]; exact s_n) X5.2.1.2.1.1.1.1.symm) (fun v h1 hq => ?_)
  obtain ⟨r, I6, A6, rfl, rfl, R6, K6, tv6, tb6, te6, dt6, dj6⟩ := hq
  rw [(show DM A5 N 3 = .var 429 from T5.1.2 3 (by decide)), et_l5, et_m5, et_n5] at dt6 dj6
  have et_r6 : DM A6 N r = sp_c3 429 tl tm tn := dt6
  have di6 : DIM _ (sp_opO (sp_c3 429 tl tm tn)) _ _ _ _ := dj6 _ _ _ _ D5 di5
  rw [h_l5.2, h_m5.2, h_n5.2] at te6
  have D6 := K6 _ _ _ D5
  have h_r6 : (0 ≤ r ∧ r < I6 7) ∧ TZ A6 ar r = 1 + TS A ar (A 1 (rt A 1 o)) + TS A ar (A 1 (rt A 2 o)) + TS A ar (A 1 (rt A 3 o)) := ⟨tv6.1, te6⟩
  have s_r : 1 ≤ 1 + TS A ar (A 1 (rt A 1 o)) + TS A ar (A 1 (rt A 2 o)) + TS A ar (A 1 (rt A 3 o)) := by rw [← te6]; exact tv6.2
  have P6 := RU_P R6
  have X6 := RU_tr X5 R6 (Int.le_refl _)
  have T6 := BTX_RU X5.2.1 T5 R6
  have et_l6 := (DM_RU X5.2.1 T5 R6 h_l5.1.1 h_l5.1.2).trans et_l5
  have et_m6 := (DM_RU X5.2.1 T5 R6 h_m5.1.1 h_m5.1.2).trans et_m5
  have et_n6 := (DM_RU X5.2.1 T5 R6 h_n5.1.1 h_n5.1.2).trans et_n5
  have et_q6 := (DM_RU X5.2.1 T5 R6 h_q5.1.1 h_q5.1.2).trans et_q5
  have h_l6 := RU_carry P5 R6 h_l5 s_l
  have h_m6 := RU_carry P5 R6 h_m5 s_m
  have h_n6 := RU_carry P5 R6 h_n5 s_n
  have h_q6 := RU_carry P5 R6 h_q5 s_q
  have y6 := X6.2.2.1
  have z6 : I6 7 ≤ 140000 := P6.1
  have x6 : I 7 ≤ I6 7 := X6.1.2.1
  have ex6 : A6 1 o = A 1 o := (X6.1.2.2.1 o o0 o1).1
  clear et_l5 et_m5 et_n5 et_q5 T5 h_l5 h_m5 h_n5 h_q5 y5 z5 x5 ex5
  show xx_go (xt_P z) (d + 10) 154 431 [some (.ref h.length), some (.int (iI k)), some (.int (iI o)), some (.int (iI c)), some (.int (iI l)), some (.int (iI m)), some (.int (iI n)), none] [.int (iI r), .int (iI 4), .ref h.length, .ref h.length] (mh h R I6 A6 N) _
  refine go_a (pc' := 433) (ls' := [some (.ref h.length), some (.int (iI k)), some (.int (iI o)), some (.int (iI c)), some (.int (iI l)), some (.int (iI m)), some (.int (iI n)), none]) (st' := [.int (iI m), .int (iI r), .int (iI 4), .ref h.length, .ref h.length]) rfl rfl ?_
  refine go_v (m := 156) (as := [.ref h.length, .int (iI 4), .int (iI r), .int (iI m)]) (r := [.ref h.length]) rfl rfl rfl mh_o rfl rfl (mr_two z (d + 3) ar 4 r m h R I6 A6 N hc X6.2.1 T6.1 (by decide) (by omega) (by decide) (by omega) h_r6.1.1 h_r6.1.2 (by rw [h_r6.2]; exact s_r) h_m6.1.1 h_m6.1.2 (by rw [h_m6.2]; exact s_m) (X6.2.1.2.1.1.1.2.1 4 (by decide) (by decide)).symm) (fun v h1 hq => ?_)
  obtain ⟨s, I7, A7, rfl, rfl, R7, K7, tv7, tb7, te7, dt7, dj7⟩ := hq
  rw [(show DM A6 N 4 = .var 26209844 from T6.1.2 4 (by decide)), et_r6, et_m6] at dt7 dj7
  have et_s7 : DM A7 N s = sp_c2 26209844 (sp_c3 429 tl tm tn) tm := dt7
  have di7 : DIM _ (sp_opO (sp_c2 26209844 (sp_c3 429 tl tm tn) tm)) _ _ _ _ := DIM_up (fun it q => dj7 it _ _ _ D6 q) R7 (c2_0 rfl) di6
  rw [h_r6.2, h_m6.2] at te7
  have D7 := K7 _ _ _ D6
  have h_s7 : (0 ≤ s ∧ s < I7 7) ∧ TZ A7 ar s = 1 + (1 + TS A ar (A 1 (rt A 1 o)) + TS A ar (A 1 (rt A 2 o)) + TS A ar (A 1 (rt A 3 o))) + TS A ar (A 1 (rt A 2 o)) := ⟨tv7.1, te7⟩
  have s_s : 1 ≤ 1 + (1 + TS A ar (A 1 (rt A 1 o)) + TS A ar (A 1 (rt A 2 o)) + TS A ar (A 1 (rt A 3 o))) + TS A ar (A 1 (rt A 2 o)) := by rw [← te7]; exact tv7.2
  have P7 := RU_P R7
  have X7 := RU_tr X6 R7 (Int.le_refl _)
  have T7 := BTX_RU X6.2.1 T6 R7
  have et_l7 := (DM_RU X6.2.1 T6 R7 h_l6.1.1 h_l6.1.2).trans et_l6
  have et_m7 := (DM_RU X6.2.1 T6 R7 h_m6.1.1 h_m6.1.2).trans et_m6
  have et_n7 := (DM_RU X6.2.1 T6 R7 h_n6.1.1 h_n6.1.2).trans et_n6
  have et_q7 := (DM_RU X6.2.1 T6 R7 h_q6.1.1 h_q6.1.2).trans et_q6
  have et_r7 := (DM_RU X6.2.1 T6 R7 h_r6.1.1 h_r6.1.2).trans et_r6
  have h_l7 := RU_carry P6 R7 h_l6 s_l
  have h_m7 := RU_carry P6 R7 h_m6 s_m
  have h_n7 := RU_carry P6 R7 h_n6 s_n
  have h_q7 := RU_carry P6 R7 h_q6 s_q
  have h_r7 := RU_carry P6 R7 h_r6 s_r
  have y7 := X7.2.2.1
  have z7 : I7 7 ≤ 140000 := P7.1
  have x7 : I 7 ≤ I7 7 := X7.1.2.1
  have ex7 : A7 1 o = A 1 o := (X7.1.2.2.1 o o0 o1).1
  clear et_l6 et_m6 et_n6 et_q6 et_r6 T6 h_l6 h_m6 h_n6 h_q6 h_r6 y6 z6 x6 ex6
  show xx_go (xt_P z) (d + 10) 154 436 [some (.ref h.length), some (.int (iI k)), some (.int (iI o)), some (.int (iI c)), some (.int (iI l)), some (.int (iI m)), some (.int (iI n)), none] [.int (iI s), .ref h.length] (mh h R I7 A7 N) _
  refine go_v (m := 155) (as := [.ref h.length, .int (iI s)]) (r := []) rfl rfl rfl mh_o rfl rfl (mr_put z (d + 9) ar (0 + 1) (0 + (szq)) _ s h R I7 A7 N hc X7.2.1 T7.1 D7 (by omega) h_s7.1.1 h_s7.1.2 (by rw [h_s7.2]; exact s_s) (fun b => by rw [h_s7.2]; have := tb7 b; rw [te7] at this; exact this)) (fun v h1 hq => ?_)
  obtain ⟨rfl, I8, A8, rfl, R8, D8, u8, e8, jj8⟩ := hq
  have di8 := jj8 _ _ di7
  rw [h_s7.2] at D8
  have P8 := RU_P R8
  have X8 := RU_tr X7 R8 (Int.le_refl _)
  have T8 := BTX_RU X7.2.1 T7 R8
  have et_l8 := (DM_RU X7.2.1 T7 R8 h_l7.1.1 h_l7.1.2).trans et_l7
  have et_m8 := (DM_RU X7.2.1 T7 R8 h_m7.1.1 h_m7.1.2).trans et_m7
  have et_n8 := (DM_RU X7.2.1 T7 R8 h_n7.1.1 h_n7.1.2).trans et_n7
  have et_q8 := (DM_RU X7.2.1 T7 R8 h_q7.1.1 h_q7.1.2).trans et_q7
  have et_r8 := (DM_RU X7.2.1 T7 R8 h_r7.1.1 h_r7.1.2).trans et_r7
  have et_s8 := (DM_RU X7.2.1 T7 R8 h_s7.1.1 h_s7.1.2).trans et_s7
  have h_l8 := RU_carry P7 R8 h_l7 s_l
  have h_m8 := RU_carry P7 R8 h_m7 s_m
  have h_n8 := RU_carry P7 R8 h_n7 s_n
  have h_q8 := RU_carry P7 R8 h_q7 s_q
  have h_r8 := RU_carry P7 R8 h_r7 s_r
  have h_s8 := RU_carry P7 R8 h_s7 s_s
  have y8 := X8.2.2.1
  have z8 : I8 7 ≤ 140000 := P8.1
  have x8 : I 7 ≤ I8 7 := X8.1.2.1
  have ex8 : A8 1 o = A 1 o := (X8.1.2.2.1 o o0 o1).1
  clear et_l7 et_m7 et_n7 et_q7 et_r7 et_s7 T7 h_l7 h_m7 h_n7 h_q7 h_r7 h_s7 y7 z7 x7 ex7
  show xx_go (xt_P z) (d + 10) 154 439 [some (.ref h.length), some (.int (iI k)), some (.int (iI o)), some (.int (iI c)), some (.int (iI l)), some (.int (iI m)), some (.int (iI n)), none] [] (mh h R I8 A8 N) _
  refine go_a (pc' := 440) (ls' := [some (.ref h.length), some (.int (iI k)), some (.int (iI o)), some (.int (iI c)), some (.int (iI l)), some (.int (iI m)), some (.int (iI n)), none]) (st' := [.int (iI 1)]) rfl rfl ?_
  refine go_r rfl rfl rfl rfl rfl rfl ⟨1, I8, A8, N, rfl, rfl, RU_w X8 (by omega), Or.inr ⟨rfl, ⟨_, di8, hρ tl tm tn tm_l tm_m tm_n⟩, _, _, DR_w D8 (by omega) (Int.le_refl _) (Int.le_refl _), fun b9 b30 b400 => ?_⟩⟩
  have dm := D8.1
  have ds := D8.2.2.1
  have dv := D8.2.2.2
  have kk : KDR dd I8 A8 ar ≤ E + 128 * WD A o - I8 7 := KK_two (w := WD A (A 1 (rt A 1 o)) + WD A (A 1 (rt A 2 o)) + WD A (A 1 (rt A 3 o))) d0 (by omega) (by omega) (by omega) (by omega)
  omega
set_option maxRecDepth 4000 in
theorem mm_con_no (z : Value) (d : Nat) (ar : Int → Int) (ft : Nat → Int) (Fb : List (Nat × List Nat × ob_T)) (Tb : List (Nat × ob_T)) (ρ : Option (List ob_T)) (k o c E dd : Int) (h R : xx_H) (I : Nat → Int) (A : Nat → Int → Int) (N : Int → Int) (hc : 12 ≤ h.length) (hB : BI ar I A N) (k0 : 0 ≤ k) (k1 : k < 40) (ek : A 47 k = o) (o0 : 0 ≤ o) (o1 : o < I 7) (hF : FORM ar I A N o) (ec : A 49 k = c) (c0 : 0 ≤ c) (w : WD A o ≤ 1000) (hE : E + 128 * WD A o ≤ 140000) (d0 : 0 ≤ dd) (d1 : dd ≤ 39) (c9 : Int) (hcf : CFX ar I A o c9) (hX : BTX ar ft Fb Tb I A N) (w0 : I 49 = 0) (ef : A 1 o = 36) (hU : I 7 ≤ E + c9) (hρ : ∀ l m n : ob_T, sp_tm ft (DM A N (A 1 (rt A 1 o))) = some l → sp_tm ft (DM A N (A 1 (rt A 2 o))) = some m → sp_tm ft (DM A N (A 1 (rt A 3 o))) = some n → ρ = sp_cz [some l, sp_opO (sp_eq (sp_c3 429 l m n) n)]) : xx_cl (xt_P z) (d + 11) 154 [.ref h.length, .int (iI k)] (mh h R I A N) (fun v h1 => ∃ (b : Int) (I1 : Nat → Int) (A1 : Nat → Int → Int) (N1 : Int → Int), v = some (.int (iI b)) ∧ h1 = mh h R I1 A1 N1 ∧ RU ar 140000 I A N I1 A1 N1 ∧ ((b = 0 ∧ ρ = none) ∨ (b = 1 ∧ (∃ its : List (Option ob_T), DIT its I1 A1 N1 ∧ ρ = sp_cz its) ∧ ∃ S V : Int, DR ar 1190 S V I1 A1 ∧ (I1 49 = 0 → I1 67 ≤ 30 → SG (TZ A1 ar) (A1 38) (I1 67).toNat ≤ 400 → I1 7 + KDR dd I1 A1 ar ≤ E + 128 * WD A o)))) := by
  have hP := BI_P hB
  have n0 := BI_n0 hB
  have p9 := hP.1
  have nm := hB.1.2.1.1
  have n2 : A 1 2 < 0 := by rw [hB.1.2.1.2 2 (by decide) (by decide)]; decide
  obtain ⟨n, hL, n1, hF⟩ := hF
  have en : n = 4 ∧ TOK A ar (A 1 (rt A 1 o)) ∧ TOK A ar (A 1 (rt A 2 o)) ∧ TOK A ar (A 1 (rt A 3 o)) := by
    rcases hF with q | q | q | q | q | q | q | q | q | q | q | q
    · omega
    · omega
    · omega
    · exact ⟨q.2.1, q.2.2⟩
    · omega
    · omega
    · omega
    · omega
    · omega
    · omega
    · omega
    · omega
  obtain ⟨rfl, tk1, tk2, tk3⟩ := en
  have wo := WD_pair hP o0 o1 (by omega)
  rw [if_neg (fun q => absurd q.1 (by omega))] at wo
  have v0 := VD_rt hP o0 o1 hL (by decide : 0 < 4)
  have v0e : VD A o = WD A (A 1 o) + VD A (rt A 1 o) := v0.1
  have wr : WD A (A 1 o) = 1 := WD_atom (by rw [hB.1.2.1.2 _ (by omega) (by omega)]; decide)
  have v1 := VD_rt hP o0 o1 hL (by decide : 1 < 4)
  have v1e : VD A (rt A 1 o) = WD A (A 1 (rt A 1 o)) + VD A (rt A 2 o) := v1.1
  have v2 := VD_rt hP o0 o1 hL (by decide : 2 < 4)
  have v2e : VD A (rt A 2 o) = WD A (A 1 (rt A 2 o)) + VD A (rt A 3 o) := v2.1
  have v3 := VD_rt hP o0 o1 hL (by decide : 3 < 4)
  have v3e : VD A (rt A 3 o) = WD A (A 1 (rt A 3 o)) + VD A (rt A 4 o) := v3.1
  have vz : VD A (rt A 4 o) = 0 := by rw [isL_end 4 o hL, VD_atom n0, if_pos rfl]
  have cf := hcf.2 (by omega)
  have cf2 := cf.2.1 (by omega)
  refine cl_go rfl ?_
  show xx_go (xt_P z) (d + 10) 154 0 [some (.ref h.length), some (.int (iI k)), none, none, none, none, none, none] [] (mh h R I A N) _
  refine go_a (pc' := 1) (ls' := [some (.ref h.length), some (.int (iI k)), none, none, none, none, none, none]) (st' := [.ref h.length]) rfl rfl ?_
  refine go_get rfl mh_o rfl rfl ?_
  refine go_a (pc' := 5) (ls' := [some (.ref h.length), some (.int (iI k)), none, none, none, none, none, none]) (st' := [.int (iI k), .ref (h.length + 47)]) rfl rfl ?_
  refine mi_ild rfl mh_a47 (by omega) (by omega) (by decide) ?_
  rw [ek]
  refine go_a (pc' := 7) (ls' := [some (.ref h.length), some (.int (iI k)), some (.int (iI o)), none, none, none, none, none]) (st' := []) rfl rfl ?_
  refine go_a (pc' := 8) (ls' := [some (.ref h.length), some (.int (iI k)), some (.int (iI o)), none, none, none, none, none]) (st' := [.ref h.length]) rfl rfl ?_
  refine go_get rfl mh_o rfl rfl ?_
  refine go_a (pc' := 12) (ls' := [some (.ref h.length), some (.int (iI k)), some (.int (iI o)), none, none, none, none, none]) (st' := [.int (iI k), .ref (h.length + 49)]) rfl rfl ?_
  refine mi_ild rfl mh_a49 (by omega) (by omega) (by decide) ?_
  rw [ec]
  refine go_a (pc' := 14) (ls' := [some (.ref h.length), some (.int (iI k)), some (.int (iI o)), some (.int (iI c)), none, none, none, none]) (st' := []) rfl rfl ?_
  refine go_a (pc' := 15) (ls' := [some (.ref h.length), some (.int (iI k)), some (.int (iI o)), some (.int (iI c)), none, none, none, none]) (st' := [.ref h.length]) rfl rfl ?_
  refine go_a (pc' := 16) (ls' := [some (.ref h.length), some (.int (iI k)), some (.int (iI o)), some (.int (iI c)), none, none, none, none]) (st' := [.int (iI 0), .ref h.length]) rfl rfl ?_
  refine go_put (j := 67) rfl mh_o rfl rfl (show 12 ≤ _ from hc) (show 67 < 86 by decide) rfl rfl ?_
  rw [mh_p67]
  obtain ⟨J, hJ⟩ : ∃ J : Nat → Int, J = su I 67 0 := ⟨_, rfl⟩
  rw [← hJ]
  have bJ : BX (fun j => j = 67) NO I A N J A N := by
    subst hJ
    exact BX_of hB.1.1 (fun j q => su_ne q) (fun a _ => rfl) rfl rfl rfl rfl rfl rfl rfl rfl rfl rfl
  have J7 : J 7 = I 7 := by subst hJ; rfl
  have J49 : J 49 = I 49 := by subst hJ; rfl
  have R0 : RU ar 0 I A N J A N := RU_of hB bJ (fun j q => by subst q; unfold FC; omega) (fun a q => absurd q (fun z => z)) (SZI_124 (A := A) (A1 := A) hB.1.2.2 rfl rfl rfl J7) (by subst hJ; rfl) (by subst hJ; rfl) (by rw [J49]; exact hB.2.2.2.2) (by omega) (fun _ => J49)
  have D0 : DR ar 0 0 0 J A := by subst hJ; exact DR_00
  have PJ := RU_P R0
  have T0 : BTX ar ft Fb Tb J A N := BTX_RU hB hX R0
  have di0 : DIT [] J A N := by
    subst hJ
    exact Or.inl ⟨w0, rfl⟩
  refine go_a (pc' := 20) (ls' := [some (.ref h.length), some (.int (iI k)), some (.int (iI o)), some (.int (iI c)), none, none, none, none]) (st' := [.ref h.length]) rfl rfl ?_
  refine go_a (pc' := 21) (ls' := [some (.ref h.length), some (.int (iI k)), some (.int (iI o)), some (.int (iI c)), none, none, none, none]) (st' := [.int (iI o), .ref h.length]) rfl rfl ?_
  refine go_v (m := 98) (as := [.ref h.length, .int (iI o)]) (r := []) rfl rfl rfl mh_o rfl rfl (mm_lenL z (d + 8) 4 o h R J A N hc PJ n0 o0 (by omega) hL) (fun v h1 hq => ?_)
  obtain ⟨rfl, rfl⟩ := hq
  show xx_go (xt_P z) (d + 10) 154 24 [some (.ref h.length), some (.int (iI k)), some (.int (iI o)), some (.int (iI c)), none, none, none, none] [.int (iI (((4 : Nat) : Int)))] (mh h R J A N) _
  refine go_a (pc' := 25) (ls' := [some (.ref h.length), some (.int (iI k)), some (.int (iI o)), some (.int (iI c)), none, none, none, none]) (st' := [.int (iI 1), .int (iI (((4 : Nat) : Int)))]) rfl rfl ?_
  refine mi_le (t := 107) rfl rfl (by omega) (by omega) (by omega) (by omega) (fun q => by omega) (fun _ => ?_)
  refine go_a (pc' := 29) (ls' := [some (.ref h.length), some (.int (iI k)), some (.int (iI o)), some (.int (iI c)), none, none, none, none]) (st' := [.ref h.length]) rfl rfl ?_
  refine go_get rfl mh_o rfl rfl ?_
  refine go_a (pc' := 33) (ls' := [some (.ref h.length), some (.int (iI k)), some (.int (iI o)), some (.int (iI c)), none, none, none, none]) (st' := [.int (iI o), .ref (h.length + 1)]) rfl rfl ?_
  refine mi_ild rfl mh_a1 (by omega) (by omega) (by decide) ?_
  refine go_a (pc' := 36) (ls' := [some (.ref h.length), some (.int (iI k)), some (.int (iI o)), some (.int (iI c)), none, none, none, none]) (st' := [.int (iI 37), .int (iI (A 1 o))]) rfl rfl ?_
  refine mi_eq (t := 107) rfl rfl (by omega) (by omega) (by omega) (by omega) (fun q => by omega) (fun _ => ?_)
  refine go_a (pc' := 40) (ls' := [some (.ref h.length), some (.int (iI k)), some (.int (iI o)), some (.int (iI c)), none, none, none, none]) (st' := [.ref h.length]) rfl rfl ?_
  refine go_get rfl mh_o rfl rfl ?_
  refine go_a (pc' := 44) (ls' := [some (.ref h.length), some (.int (iI k)), some (.int (iI o)), some (.int (iI c)), none, none, none, none]) (st' := [.int (iI o), .ref (h.length + 1)]) rfl rfl ?_
  refine mi_ild rfl mh_a1 (by omega) (by omega) (by decide) ?_
  refine go_a (pc' := 47) (ls' := [some (.ref h.length), some (.int (iI k)), some (.int (iI o)), some (.int (iI c)), none, none, none, none]) (st' := [.int (iI 38), .int (iI (A 1 o))]) rfl rfl ?_
  refine mi_eq (t := 107) rfl rfl (by omega) (by omega) (by omega) (by omega) (fun q => by omega) (fun _ => ?_)
  refine go_a (pc' := 51) (ls' := [some (.ref h.length), some (.int (iI k)), some (.int (iI o)), some (.int (iI c)), none, none, none, none]) (st' := [.ref h.length]) rfl rfl ?_
  refine go_get rfl mh_o rfl rfl ?_
  refine go_a (pc' := 55) (ls' := [some (.ref h.length), some (.int (iI k)), some (.int (iI o)), some (.int (iI c)), none, none, none, none]) (st' := [.int (iI o), .ref (h.length + 1)]) rfl rfl ?_
  refine mi_ild rfl mh_a1 (by omega) (by omega) (by decide) ?_
  refine go_a (pc' := 58) (ls' := [some (.ref h.length), some (.int (iI k)), some (.int (iI o)), some (.int (iI c)), none, none, none, none]) (st' := [.int (iI 39), .int (iI (A 1 o))]) rfl rfl ?_
  refine mi_eq (t := 107) rfl rfl (by omega) (by omega) (by omega) (by omega) (fun q => by omega) (fun _ => ?_)
  refine go_a (pc' := 62) (ls' := [some (.ref h.length), some (.int (iI k)), some (.int (iI o)), some (.int (iI c)), none, none, none, none]) (st' := [.ref h.length]) rfl rfl ?_
  refine go_get rfl mh_o rfl rfl ?_
  refine go_a (pc' := 66) (ls' := [some (.ref h.length), some (.int (iI k)), some (.int (iI o)), some (.int (iI c)), none, none, none, none]) (st' := [.int (iI o), .ref (h.length + 1)]) rfl rfl ?_
  refine mi_ild rfl mh_a1 (by omega) (by omega) (by decide) ?_
  refine go_a (pc' := 69) (ls' := [some (.ref h.length), some (.int (iI k)), some (.int (iI o)), some (.int (iI c)), none, none, none, none]) (st' := [.int (iI 41), .int (iI (A 1 o))]) rfl rfl ?_
  refine mi_eq (t := 107) rfl rfl (by omega) (by omega) (by omega) (by omega) (fun q => by omega) (fun _ => ?_)
  refine go_a (pc' := 73) (ls' := [some (.ref h.length), some (.int (iI k)), some (.int (iI o)), some (.int (iI c)), none, none, none, none]) (st' := [.ref h.length]) rfl rfl ?_
  refine go_get rfl mh_o rfl rfl ?_
  refine go_a (pc' := 77) (ls' := [some (.ref h.length), some (.int (iI k)), some (.int (iI o)), some (.int (iI c)), none, none, none, none]) (st' := [.int (iI o), .ref (h.length + 1)]) rfl rfl ?_
  refine mi_ild rfl mh_a1 (by omega) (by omega) (by decide) ?_
  refine go_a (pc' := 80) (ls' := [some (.ref h.length), some (.int (iI k)), some (.int (iI o)), some (.int (iI c)), none, none, none, none]) (st' := [.int (iI 42), .int (iI (A 1 o))]) rfl rfl ?_
  refine mi_eq (t := 107) rfl rfl (by omega) (by omega) (by omega) (by omega) (fun q => by omega) (fun _ => ?_)
  refine go_a (pc' := 84) (ls' := [some (.ref h.length), some (.int (iI k)), some (.int (iI o)), some (.int (iI c)), none, none, none, none]) (st' := [.ref h.length]) rfl rfl ?_
  refine go_get rfl mh_o rfl rfl ?_
  refine go_a (pc' := 88) (ls' := [some (.ref h.length), some (.int (iI k)), some (.int (iI o)), some (.int (iI c)), none, none, none, none]) (st' := [.int (iI o), .ref (h.length + 1)]) rfl rfl ?_
  refine mi_ild rfl mh_a1 (by omega) (by omega) (by decide) ?_
  refine go_a (pc' := 91) (ls' := [some (.ref h.length), some (.int (iI k)), some (.int (iI o)), some (.int (iI c)), none, none, none, none]) (st' := [.int (iI 43), .int (iI (A 1 o))]) rfl rfl ?_
  refine mi_eq (t := 107) rfl rfl (by omega) (by omega) (by omega) (by omega) (fun q => by omega) (fun _ => ?_)
  refine go_a (pc' := 95) (ls' := [some (.ref h.length), some (.int (iI k)), some (.int (iI o)), some (.int (iI c)), none, none, none, none]) (st' := [.ref h.length]) rfl rfl ?_
  refine go_a (pc' := 96) (ls' := [some (.ref h.length), some (.int (iI k)), some (.int (iI o)), some (.int (iI c)), none, none, none, none]) (st' := [.ref h.length, .ref h.length]) rfl rfl ?_
  refine go_a (pc' := 97) (ls' := [some (.ref h.length), some (.int (iI k)), some (.int (iI o)), some (.int (iI c)), none, none, none, none]) (st' := [.int (iI o), .ref h.length, .ref h.length]) rfl rfl ?_
  refine go_a (pc' := 98) (ls' := [some (.ref h.length), some (.int (iI k)), some (.int (iI o)), some (.int (iI c)), none, none, none, none]) (st' := [.int (iI 1), .int (iI o), .ref h.length, .ref h.length]) rfl rfl ?_
  have Lxl := isL_extB hP R0.1 4 o o0 o1 hL
  have ixl := it_BX hP R0.1 o0 o1 hL (by decide : 1 < 4)
  refine go_v (m := 99) (as := [.ref h.length, .int (iI o), .int (iI 1)]) (r := [.ref h.length]) rfl rfl rfl mh_o rfl rfl (mm_nth z (d + 9) 1 4 o h R J A N hc PJ (by decide) o0 (by omega) Lxl (by omega)) (fun v h1 hq => ?_)
  obtain ⟨rfl, rfl⟩ := hq
  rw [ixl]
  show xx_go (xt_P z) (d + 10) 154 101 [some (.ref h.length), some (.int (iI k)), some (.int (iI o)), some (.int (iI c)), none, none, none, none] [.int (iI (A 1 (rt A 1 o))), .ref h.length] (mh h R J A N) _
  have wxl := (WD_BX hP R0.1 v1.2.1.1 v1.2.1.2).1
  refine go_v (m := 105) (as := [.ref h.length, .int (iI (A 1 (rt A 1 o)))]) (r := []) rfl rfl rfl mh_o rfl rfl (mr_term z (d + 2) ar (A 1 (rt A 1 o)) h R J A N hc R0.2.1 v1.2.1.1 (by omega) (by omega) (by omega)) (fun v h1 hq => ?_)
  obtain ⟨l, I1, A1, rfl, rfl, R1, K1, ⟨u1, bb1⟩, ht1⟩ := hq
  have tt1 : ((0 ≤ l ∧ l < I1 7) ∧ TZ A1 ar l = TS A ar (A 1 (rt A 1 o))) ∧ (1 ≤ TS A ar (A 1 (rt A 1 o)) ∧ TS A ar (A 1 (rt A 1 o)) ≤ 120) ∧ TS A ar (A 1 (rt A 1 o)) ≤ WD A (A 1 (rt A 1 o)) ∧ NFT A1 (A 1 (rt A 1 o)) l := by
    have tk := TOK_BX hP R0.1 v1.2.1.1 v1.2.1.2 tk1
    rcases ht1 with q | q
    · exact absurd tk q.2
    · have ts := TS_BX (ar := ar) hP R0.1 v1.2.1.1 v1.2.1.2
      rw [ts, wxl] at q
      exact ⟨⟨q.1, q.2.2.2.1⟩, by omega, q.2.2.2.2.1, q.2.2.2.2.2⟩
  obtain ⟨h_l1, sb_l, sw_l, nf_l⟩ := tt1
  have s_l := sb_l.1
  have tm_l := (TQ_tm R0.2.1 T0 v1.2.1.1 (by omega) (show TQ ar (A 1 (rt A 1 o)) l J A N I1 A1 from ⟨bb1, R1.2.1, by have := R1.2.2.1; omega, u1, ht1⟩)).2 (by omega)
  rw [DM_RU hB hX R0 v1.2.1.1 v1.2.1.2] at tm_l
  obtain ⟨tl, et_l1⟩ : ∃ q : ob_T, DM A1 N l = q := ⟨_, rfl⟩
  rw [et_l1] at tm_l
  have tt_l := tm_ts tm_l
  have di1 := DIT_BX R0.2.1 T0.1 D0 bb1 (by unfold FB; omega) (by unfold GT; omega) (by unfold GT; omega) (by unfold FB; omega) (by unfold GT; omega) u1 di0
  clear bb1 ht1
  rw [wxl] at R1
  have D1 := K1 _ _ _ D0
  have P1 := RU_P R1
  have X1 := RU_tr R0 R1 (Int.le_refl _)
  have T1 := BTX_RU R0.2.1 T0 R1
  have y1 := X1.2.2.1
  have z1 : I1 7 ≤ 140000 := P1.1
  have x1 : I 7 ≤ I1 7 := X1.1.2.1
  have ex1 : A1 1 o = A 1 o := (X1.1.2.2.1 o o0 o1).1
  clear T0
  show xx_go (xt_P z) (d + 10) 154 104 [some (.ref h.length), some (.int (iI k)), some (.int (iI o)), some (.int (iI c)), none, none, none, none] [.int (iI l)] (mh h R I1 A1 N) _
  refine go_a (pc' := 108) (ls' := [some (.ref h.length), some (.int (iI k)), some (.int (iI o)), some (.int (iI c)), none, none, none, none]) (st' := [.int (iI l)]) rfl rfl ?_
  refine go_a (pc' := 110) (ls' := [some (.ref h.length), some (.int (iI k)), some (.int (iI o)), some (.int (iI c)), some (.int (iI l)), none, none, none]) (st' := []) rfl rfl ?_
  refine go_a (pc' := 111) (ls' := [some (.ref h.length), some (.int (iI k)), some (.int (iI o)), some (.int (iI c)), some (.int (iI l)), none, none, none]) (st' := [.ref h.length]) rfl rfl ?_
  refine go_get rfl mh_o rfl rfl ?_
  refine go_a (pc' := 115) (ls' := [some (.ref h.length), some (.int (iI k)), some (.int (iI o)), some (.int (iI c)), some (.int (iI l)), none, none, none]) (st' := [.int (iI o), .ref (h.length + 1)]) rfl rfl ?_
  refine mi_ild rfl mh_a1 (by omega) (by omega) (by decide) ?_
  refine go_a (pc' := 118) (ls' := [some (.ref h.length), some (.int (iI k)), some (.int (iI o)), some (.int (iI c)), some (.int (iI l)), none, none, none]) (st' := [.int (iI 32), .int (iI (A1 1 o))]) rfl rfl ?_
  refine mi_lt (t := 145) rfl rfl (by omega) (by omega) (by omega) (by omega) (fun q => by omega) (fun _ => ?_)
  refine go_a (pc' := 122) (ls' := [some (.ref h.length), some (.int (iI k)), some (.int (iI o)), some (.int (iI c)), some (.int (iI l)), none, none, none]) (st' := [.ref h.length]) rfl rfl ?_
  refine go_get rfl mh_o rfl rfl ?_
  refine go_a (pc' := 126) (ls' := [some (.ref h.length), some (.int (iI k)), some (.int (iI o)), some (.int (iI c)), some (.int (iI l)), none, none, none]) (st' := [.int (iI o), .ref (h.length + 1)]) rfl rfl ?_
  refine mi_ild rfl mh_a1 (by omega) (by omega) (by decide) ?_
  refine go_a (pc' := 129) (ls' := [some (.ref h.length), some (.int (iI k)), some (.int (iI o)), some (.int (iI c)), some (.int (iI l)), none, none, none]) (st' := [.int (iI 36), .int (iI (A1 1 o))]) rfl rfl ?_
  refine mi_gt (t := 145) rfl rfl (by omega) (by omega) (by omega) (by omega) (fun q => by omega) (fun _ => ?_)
  refine go_a (pc' := 133) (ls' := [some (.ref h.length), some (.int (iI k)), some (.int (iI o)), some (.int (iI c)), some (.int (iI l)), none, none, none]) (st' := [.ref h.length]) rfl rfl ?_
  refine go_a (pc' := 134) (ls' := [some (.ref h.length), some (.int (iI k)), some (.int (iI o)), some (.int (iI c)), some (.int (iI l)), none, none, none]) (st' := [.ref h.length, .ref h.length]) rfl rfl ?_
  refine go_a (pc' := 135) (ls' := [some (.ref h.length), some (.int (iI k)), some (.int (iI o)), some (.int (iI c)), some (.int (iI l)), none, none, none]) (st' := [.int (iI o), .ref h.length, .ref h.length]) rfl rfl ?_
  refine go_a (pc' := 136) (ls' := [some (.ref h.length), some (.int (iI k)), some (.int (iI o)), some (.int (iI c)), some (.int (iI l)), none, none, none]) (st' := [.int (iI 2), .int (iI o), .ref h.length, .ref h.length]) rfl rfl ?_
  have Lxm := isL_extB hP X1.1 4 o o0 o1 hL
  have ixm := it_BX hP X1.1 o0 o1 hL (by decide : 2 < 4)
  refine go_v (m := 99) (as := [.ref h.length, .int (iI o), .int (iI 2)]) (r := [.ref h.length]) rfl rfl rfl mh_o rfl rfl (mm_nth z (d + 9) 2 4 o h R I1 A1 N hc P1 (by decide) o0 (by omega) Lxm (by omega)) (fun v h1 hq => ?_)
  obtain ⟨rfl, rfl⟩ := hq
  rw [ixm]
  show xx_go (xt_P z) (d + 10) 154 139 [some (.ref h.length), some (.int (iI k)), some (.int (iI o)), some (.int (iI c)), some (.int (iI l)), none, none, none] [.int (iI (A 1 (rt A 2 o))), .ref h.length] (mh h R I1 A1 N) _
  have wxm := (WD_BX hP X1.1 v2.2.1.1 v2.2.1.2).1
  refine go_v (m := 105) (as := [.ref h.length, .int (iI (A 1 (rt A 2 o)))]) (r := []) rfl rfl rfl mh_o rfl rfl (mr_term z (d + 2) ar (A 1 (rt A 2 o)) h R I1 A1 N hc X1.2.1 v2.2.1.1 (by omega) (by omega) (by omega)) (fun v h1 hq => ?_)
  obtain ⟨m, I2, A2, rfl, rfl, R2, K2, ⟨u2, bb2⟩, ht2⟩ := hq
  have tt2 : ((0 ≤ m ∧ m < I2 7) ∧ TZ A2 ar m = TS A ar (A 1 (rt A 2 o))) ∧ (1 ≤ TS A ar (A 1 (rt A 2 o)) ∧ TS A ar (A 1 (rt A 2 o)) ≤ 120) ∧ TS A ar (A 1 (rt A 2 o)) ≤ WD A (A 1 (rt A 2 o)) ∧ NFT A2 (A 1 (rt A 2 o)) m := by
    have tk := TOK_BX hP X1.1 v2.2.1.1 v2.2.1.2 tk2
    rcases ht2 with q | q
    · exact absurd tk q.2
    · have ts := TS_BX (ar := ar) hP X1.1 v2.2.1.1 v2.2.1.2
      rw [ts, wxm] at q
      exact ⟨⟨q.1, q.2.2.2.1⟩, by omega, q.2.2.2.2.1, q.2.2.2.2.2⟩
  obtain ⟨h_m2, sb_m, sw_m, nf_m⟩ := tt2
  have s_m := sb_m.1
  have tm_m := (TQ_tm X1.2.1 T1 v2.2.1.1 (by omega) (show TQ ar (A 1 (rt A 2 o)) m I1 A1 N I2 A2 from ⟨bb2, R2.2.1, by have := R2.2.2.1; omega, u2, ht2⟩)).2 (by omega)
  rw [DM_RU hB hX X1 v2.2.1.1 v2.2.1.2] at tm_m
  obtain ⟨tm, et_m2⟩ : ∃ q : ob_T, DM A2 N m = q := ⟨_, rfl⟩
  rw [et_m2] at tm_m
  have tt_m := tm_ts tm_m
  have di2 := DIT_BX X1.2.1 T1.1 D1 bb2 (by unfold FB; omega) (by unfold GT; omega) (by unfold GT; omega) (by unfold FB; omega) (by unfold GT; omega) u2 di1
  clear bb2 ht2
  rw [wxm] at R2
  have D2 := K2 _ _ _ D1
  have P2 := RU_P R2
  have X2 := RU_tr X1 R2 (Int.le_refl _)
  have T2 := BTX_RU X1.2.1 T1 R2
  have et_l2 := (DM_RU X1.2.1 T1 R2 h_l1.1.1 h_l1.1.2).trans et_l1
  have h_l2 := RU_carry P1 R2 h_l1 s_l
  have y2 := X2.2.2.1
  have z2 : I2 7 ≤ 140000 := P2.1
  have x2 : I 7 ≤ I2 7 := X2.1.2.1
  have ex2 : A2 1 o = A 1 o := (X2.1.2.2.1 o o0 o1).1
  clear et_l1 T1 h_l1 y1 z1 x1 ex1
  show xx_go (xt_P z) (d + 10) 154 142 [some (.ref h.length), some (.int (iI k)), some (.int (iI o)), some (.int (iI c)), some (.int (iI l)), none, none, none] [.int (iI m)] (mh h R I2 A2 N) _
  refine go_a (pc' := 146) (ls' := [some (.ref h.length), some (.int (iI k)), some (.int (iI o)), some (.int (iI c)), some (.int (iI l)), none, none, none]) (st' := [.int (iI m)]) rfl rfl ?_
  refine go_a (pc' := 148) (ls' := [some (.ref h.length), some (.int (iI k)), some (.int (iI o)), some (.int (iI c)), some (.int (iI l)), some (.int (iI m)), none, none]) (st' := []) rfl rfl ?_
  refine go_a (pc' := 149) (ls' := [some (.ref h.length), some (.int (iI k)), some (.int (iI o)), some (.int (iI c)), some (.int (iI l)), some (.int (iI m)), none, none]) (st' := [.ref h.length]) rfl rfl ?_
  refine go_get rfl mh_o rfl rfl ?_
  refine go_a (pc' := 153) (ls' := [some (.ref h.length), some (.int (iI k)), some (.int (iI o)), some (.int (iI c)), some (.int (iI l)), some (.int (iI m)), none, none]) (st' := [.int (iI o), .ref (h.length + 1)]) rfl rfl ?_
  refine mi_ild rfl mh_a1 (by omega) (by omega) (by decide) ?_
  refine go_a (pc' := 156) (ls' := [some (.ref h.length), some (.int (iI k)), some (.int (iI o)), some (.int (iI c)), some (.int (iI l)), some (.int (iI m)), none, none]) (st' := [.int (iI 35), .int (iI (A2 1 o))]) rfl rfl ?_
  refine mi_eq (t := 170) rfl rfl (by omega) (by omega) (by omega) (by omega) (fun q => by omega) (fun _ => ?_)
  refine go_a (pc' := 160) (ls' := [some (.ref h.length), some (.int (iI k)), some (.int (iI o)), some (.int (iI c)), some (.int (iI l)), some (.int (iI m)), none, none]) (st' := [.ref h.length]) rfl rfl ?_
  refine go_get rfl mh_o rfl rfl ?_
  refine go_a (pc' := 164) (ls' := [some (.ref h.length), some (.int (iI k)), some (.int (iI o)), some (.int (iI c)), some (.int (iI l)), some (.int (iI m)), none, none]) (st' := [.int (iI o), .ref (h.length + 1)]) rfl rfl ?_
  refine mi_ild rfl mh_a1 (by omega) (by omega) (by decide) ?_
  refine go_a (pc' := 167) (ls' := [some (.ref h.length), some (.int (iI k)), some (.int (iI o)), some (.int (iI c)), some (.int (iI l)), some (.int (iI m)), none, none]) (st' := [.int (iI 36), .int (iI (A2 1 o))]) rfl rfl ?_
  refine mi_ne (t := 183) rfl rfl (by omega) (by omega) (by omega) (by omega) (fun q => by omega) (fun _ => ?_)
  refine go_a (pc' := 171) (ls' := [some (.ref h.length), some (.int (iI k)), some (.int (iI o)), some (.int (iI c)), some (.int (iI l)), some (.int (iI m)), none, none]) (st' := [.ref h.length]) rfl rfl ?_
  refine go_a (pc' := 172) (ls' := [some (.ref h.length), some (.int (iI k)), some (.int (iI o)), some (.int (iI c)), some (.int (iI l)), some (.int (iI m)), none, none]) (st' := [.ref h.length, .ref h.length]) rfl rfl ?_
  refine go_a (pc' := 173) (ls' := [some (.ref h.length), some (.int (iI k)), some (.int (iI o)), some (.int (iI c)), some (.int (iI l)), some (.int (iI m)), none, none]) (st' := [.int (iI o), .ref h.length, .ref h.length]) rfl rfl ?_
  refine go_a (pc' := 174) (ls' := [some (.ref h.length), some (.int (iI k)), some (.int (iI o)), some (.int (iI c)), some (.int (iI l)), some (.int (iI m)), none, none]) (st' := [.int (iI 3), .int (iI o), .ref h.length, .ref h.length]) rfl rfl ?_
  have Lxn := isL_extB hP X2.1 4 o o0 o1 hL
  have ixn := it_BX hP X2.1 o0 o1 hL (by decide : 3 < 4)
  refine go_v (m := 99) (as := [.ref h.length, .int (iI o), .int (iI 3)]) (r := [.ref h.length]) rfl rfl rfl mh_o rfl rfl (mm_nth z (d + 9) 3 4 o h R I2 A2 N hc P2 (by decide) o0 (by omega) Lxn (by omega)) (fun v h1 hq => ?_)
  obtain ⟨rfl, rfl⟩ := hq
  rw [ixn]
  show xx_go (xt_P z) (d + 10) 154 177 [some (.ref h.length), some (.int (iI k)), some (.int (iI o)), some (.int (iI c)), some (.int (iI l)), some (.int (iI m)), none, none] [.int (iI (A 1 (rt A 3 o))), .ref h.length] (mh h R I2 A2 N) _
  have wxn := (WD_BX hP X2.1 v3.2.1.1 v3.2.1.2).1
  refine go_v (m := 105) (as := [.ref h.length, .int (iI (A 1 (rt A 3 o)))]) (r := []) rfl rfl rfl mh_o rfl rfl (mr_term z (d + 2) ar (A 1 (rt A 3 o)) h R I2 A2 N hc X2.2.1 v3.2.1.1 (by omega) (by omega) (by omega)) (fun v h1 hq => ?_)
  obtain ⟨n, I3, A3, rfl, rfl, R3, K3, ⟨u3, bb3⟩, ht3⟩ := hq
  have tt3 : ((0 ≤ n ∧ n < I3 7) ∧ TZ A3 ar n = TS A ar (A 1 (rt A 3 o))) ∧ (1 ≤ TS A ar (A 1 (rt A 3 o)) ∧ TS A ar (A 1 (rt A 3 o)) ≤ 120) ∧ TS A ar (A 1 (rt A 3 o)) ≤ WD A (A 1 (rt A 3 o)) ∧ NFT A3 (A 1 (rt A 3 o)) n := by
    have tk := TOK_BX hP X2.1 v3.2.1.1 v3.2.1.2 tk3
    rcases ht3 with q | q
    · exact absurd tk q.2
    · have ts := TS_BX (ar := ar) hP X2.1 v3.2.1.1 v3.2.1.2
      rw [ts, wxn] at q
      exact ⟨⟨q.1, q.2.2.2.1⟩, by omega, q.2.2.2.2.1, q.2.2.2.2.2⟩
  obtain ⟨h_n3, sb_n, sw_n, nf_n⟩ := tt3
  have s_n := sb_n.1
  have tm_n := (TQ_tm X2.2.1 T2 v3.2.1.1 (by omega) (show TQ ar (A 1 (rt A 3 o)) n I2 A2 N I3 A3 from ⟨bb3, R3.2.1, by have := R3.2.2.1; omega, u3, ht3⟩)).2 (by omega)
  rw [DM_RU hB hX X2 v3.2.1.1 v3.2.1.2] at tm_n
  obtain ⟨tn, et_n3⟩ : ∃ q : ob_T, DM A3 N n = q := ⟨_, rfl⟩
  rw [et_n3] at tm_n
  have tt_n := tm_ts tm_n
  have di3 := DIT_BX X2.2.1 T2.1 D2 bb3 (by unfold FB; omega) (by unfold GT; omega) (by unfold GT; omega) (by unfold FB; omega) (by unfold GT; omega) u3 di2
  clear bb3 ht3
  rw [wxn] at R3
  have D3 := K3 _ _ _ D2
  have P3 := RU_P R3
  have X3 := RU_tr X2 R3 (Int.le_refl _)
  have T3 := BTX_RU X2.2.1 T2 R3
  have et_l3 := (DM_RU X2.2.1 T2 R3 h_l2.1.1 h_l2.1.2).trans et_l2
  have et_m3 := (DM_RU X2.2.1 T2 R3 h_m2.1.1 h_m2.1.2).trans et_m2
  have h_l3 := RU_carry P2 R3 h_l2 s_l
  have h_m3 := RU_carry P2 R3 h_m2 s_m
  have y3 := X3.2.2.1
  have z3 : I3 7 ≤ 140000 := P3.1
  have x3 : I 7 ≤ I3 7 := X3.1.2.1
  have ex3 : A3 1 o = A 1 o := (X3.1.2.2.1 o o0 o1).1
  clear et_l2 et_m2 T2 h_l2 h_m2 y2 z2 x2 ex2
  show xx_go (xt_P z) (d + 10) 154 180 [some (.ref h.length), some (.int (iI k)), some (.int (iI o)), some (.int (iI c)), some (.int (iI l)), some (.int (iI m)), none, none] [.int (iI n)] (mh h R I3 A3 N) _
  refine go_a (pc' := 184) (ls' := [some (.ref h.length), some (.int (iI k)), some (.int (iI o)), some (.int (iI c)), some (.int (iI l)), some (.int (iI m)), none, none]) (st' := [.int (iI n)]) rfl rfl ?_
  refine go_a (pc' := 186) (ls' := [some (.ref h.length), some (.int (iI k)), some (.int (iI o)), some (.int (iI c)), some (.int (iI l)), some (.int (iI m)), some (.int (iI n)), none]) (st' := []) rfl rfl ?_
  refine go_a (pc' := 187) (ls' := [some (.ref h.length), some (.int (iI k)), some (.int (iI o)), some (.int (iI c)), some (.int (iI l)), some (.int (iI m)), some (.int (iI n)), none]) (st' := [.ref h.length]) rfl rfl ?_
  refine go_get rfl mh_o rfl rfl ?_
  refine go_a (pc' := 191) (ls' := [some (.ref h.length), some (.int (iI k)), some (.int (iI o)), some (.int (iI c)), some (.int (iI l)), some (.int (iI m)), some (.int (iI n)), none]) (st' := [.int (iI o), .ref (h.length + 1)]) rfl rfl ?_
  refine mi_ild rfl mh_a1 (by omega) (by omega) (by decide) ?_
  rw [ex3]
  refine mi_ts (c := 36) (t := 441) rfl ef rfl ?_
  refine go_a (pc' := 442) (ls' := [some (.ref h.length), some (.int (iI k)), some (.int (iI o)), some (.int (iI c)), some (.int (iI l)), some (.int (iI m)), some (.int (iI n)), none]) (st' := [.ref h.length]) rfl rfl ?_
  refine go_a (pc' := 444) (ls' := [some (.ref h.length), some (.int (iI k)), some (.int (iI o)), some (.int (iI c)), some (.int (iI l)), some (.int (iI m)), some (.int (iI n)), none]) (st' := [.int (iI l), .ref h.length]) rfl rfl ?_
  refine go_v (m := 155) (as := [.ref h.length, .int (iI l)]) (r := []) rfl rfl rfl mh_o rfl rfl (mr_put z (d + 9) ar 0 0 _ l h R I3 A3 N hc X3.2.1 T3.1 D3 (by omega) h_l3.1.1 h_l3.1.2 (by rw [h_l3.2]; exact s_l) (fun _ => by rw [h_l3.2]; omega)) (fun v h1 hq => ?_)
  obtain ⟨rfl, I4, A4, rfl, R4, D4, u4, e4, jj4⟩ := hq
  have di4 := jj4 _ _ (DIM_have (x := l) di3)
  rw [et_l3] at di4
  rw [h_l3.2] at D4
  have P4 := RU_P R4
  have X4 := RU_tr X3 R4 (Int.le_refl _)
  have T4 := BTX_RU X3.2.1 T3 R4
  have et_l4 := (DM_RU X3.2.1 T3 R4 h_l3.1.1 h_l3.1.2).trans et_l3
  have et_m4 := (DM_RU X3.2.1 T3 R4 h_m3.1.1 h_m3.1.2).trans et_m3
  have et_n4 := (DM_RU X3.2.1 T3 R4 h_n3.1.1 h_n3.1.2).trans et_n3
  have h_l4 := RU_carry P3 R4 h_l3 s_l
  have h_m4 := RU_carry P3 R4 h_m3 s_m
  have h_n4 := RU_carry P3 R4 h_n3 s_n
  have y4 := X4.2.2.1
  have z4 : I4 7 ≤ 140000 := P4.1
  have x4 : I 7 ≤ I4 7 := X4.1.2.1
  have ex4 : A4 1 o = A 1 o := (X4.1.2.2.1 o o0 o1).1
  clear et_l3 et_m3 et_n3 T3 h_l3 h_m3 h_n3 y3 z3 x3 ex3
  show xx_go (xt_P z) (d + 10) 154 447 [some (.ref h.length), some (.int (iI k)), some (.int (iI o)), some (.int (iI c)), some (.int (iI l)), some (.int (iI m)), some (.int (iI n)), none] [] (mh h R I4 A4 N) _
  refine go_a (pc' := 448) (ls' := [some (.ref h.length), some (.int (iI k)), some (.int (iI o)), some (.int (iI c)), some (.int (iI l)), some (.int (iI m)), some (.int (iI n)), none]) (st' := [.ref h.length]) rfl rfl ?_
  refine go_a (pc' := 449) (ls' := [some (.ref h.length), some (.int (iI k)), some (.int (iI o)), some (.int (iI c)), some (.int (iI l)), some (.int (iI m)), some (.int (iI n)), none]) (st' := [.ref h.length, .ref h.length]) rfl rfl ?_
  refine go_a (pc' := 450) (ls' := [some (.ref h.length), some (.int (iI k)), some (.int (iI o)), some (.int (iI c)), some (.int (iI l)), some (.int (iI m)), some (.int (iI n)), none]) (st' := [.int (iI 4), .ref h.length, .ref h.length]) rfl rfl ?_
  refine go_a (pc' := 451) (ls' := [some (.ref h.length), some (.int (iI k)), some (.int (iI o)), some (.int (iI c)), some (.int (iI l)), some (.int (iI m)), some (.int (iI n)), none]) (st' := [.ref h.length, .int (iI 4), .ref h.length, .ref h.length]) rfl rfl ?_
  refine go_a (pc' := 452) (ls' := [some (.ref h.length), some (.int (iI k)), some (.int (iI o)), some (.int (iI c)), some (.int (iI l)), some (.int (iI m)), some (.int (iI n)), none]) (st' := [.int (iI 3), .ref h.length, .int (iI 4), .ref h.length, .ref h.length]) rfl rfl ?_
  refine go_a (pc' := 454) (ls' := [some (.ref h.length), some (.int (iI k)), some (.int (iI o)), some (.int (iI c)), some (.int (iI l)), some (.int (iI m)), some (.int (iI n)), none]) (st' := [.int (iI l), .int (iI 3), .ref h.length, .int (iI 4), .ref h.length, .ref h.length]) rfl rfl ?_
  refine go_a (pc' := 456) (ls' := [some (.ref h.length), some (.int (iI k)), some (.int (iI o)), some (.int (iI c)), some (.int (iI l)), some (.int (iI m)), some (.int (iI n)), none]) (st' := [.int (iI m), .int (iI l), .int (iI 3), .ref h.length, .int (iI 4), .ref h.length, .ref h.length]) rfl rfl ?_
  refine go_a (pc' := 458) (ls' := [some (.ref h.length), some (.int (iI k)), some (.int (iI o)), some (.int (iI c)), some (.int (iI l)), some (.int (iI m)), some (.int (iI n)), none]) (st' := [.int (iI n), .int (iI m), .int (iI l), .int (iI 3), .ref h.length, .int (iI 4), .ref h.length, .ref h.length]) rfl rfl ?_
  refine go_v (m := 127) (as := [.ref h.length, .int (iI 3), .int (iI l), .int (iI m), .int (iI n)]) (r := [.int (iI 4), .ref h.length, .ref h.length]) rfl rfl rfl mh_o rfl rfl (mr_three z (d + 4) ar 3 l m n h R I4 A4 N hc X4.2.1 T4.1 (by decide) (by omega) (by decide) (by omega) h_l4.1.1 h_l4.1.2 (by rw [h_l4.2]; exact s_l) h_m4.1.1 h_m4.1.2 (by rw [h_m4.2]; exact s_m) h_n4.1.1 h_n4.1.2 (by rw [h_n4.2]; exact s_n) X4.2.1.2.1.1.1.1.symm) (fun v h1 hq => ?_)
  obtain ⟨r, I5, A5, rfl, rfl, R5, K5, tv5, tb5, te5, dt5, dj5⟩ := hq
  rw [(show DM A4 N 3 = .var 429 from T4.1.2 3 (by decide)), et_l4, et_m4, et_n4] at dt5 dj5
  have et_r5 : DM A5 N r = sp_c3 429 tl tm tn := dt5
  have di5 : DIM _ (sp_opO (sp_c3 429 tl tm tn)) _ _ _ _ := dj5 _ _ _ _ D4 di4
  rw [h_l4.2, h_m4.2, h_n4.2] at te5
  have D5 := K5 _ _ _ D4
  have h_r5 : (0 ≤ r ∧ r < I5 7) ∧ TZ A5 ar r = 1 + TS A ar (A 1 (rt A 1 o)) + TS A ar (A 1 (rt A 2 o)) + TS A ar (A 1 (rt A 3 o)) := ⟨tv5.1, te5⟩
  have s_r : 1 ≤ 1 + TS A ar (A 1 (rt A 1 o)) + TS A ar (A 1 (rt A 2 o)) + TS A ar (A 1 (rt A 3 o)) := by rw [← te5]; exact tv5.2
  have P5 := RU_P R5
  have X5 := RU_tr X4 R5 (Int.le_refl _)
  have T5 := BTX_RU X4.2.1 T4 R5
  have et_l5 := (DM_RU X4.2.1 T4 R5 h_l4.1.1 h_l4.1.2).trans et_l4
  have et_m5 := (DM_RU X4.2.1 T4 R5 h_m4.1.1 h_m4.1.2).trans et_m4
  have et_n5 := (DM_RU X4.2.1 T4 R5 h_n4.1.1 h_n4.1.2).trans et_n4
  have h_l5 := RU_carry P4 R5 h_l4 s_l
  have h_m5 := RU_carry P4 R5 h_m4 s_m
  have h_n5 := RU_carry P4 R5 h_n4 s_n
  have y5 := X5.2.2.1
  have z5 : I5 7 ≤ 140000 := P5.1
  have x5 : I 7 ≤ I5 7 := X5.1.2.1
  have ex5 : A5 1 o = A 1 o := (X5.1.2.2.1 o o0 o1).1
  clear et_l4 et_m4 et_n4 T4 h_l4 h_m4 h_n4 y4 z4 x4 ex4
  show xx_go (xt_P z) (d + 10) 154 461 [some (.ref h.length), some (.int (iI k)), some (.int (iI o)), some (.int (iI c)), some (.int (iI l)), some (.int (iI m)), some (.int (iI n)), none] [.int (iI r), .int (iI 4), .ref h.length, .ref h.length] (mh h R I5 A5 N) _
  refine go_a (pc' := 463) (ls' := [some (.ref h.length), some (.int (iI k)), some (.int (iI o)), some (.int (iI c)), some (.int (iI l)), some (.int (iI m)), some (.int (iI n)), none]) (st' := [.int (iI n), .int (iI r), .int (iI 4), .ref h.length, .ref h.length]) rfl rfl ?_
  refine go_v (m := 156) (as := [.ref h.length, .int (iI 4), .int (iI r), .int (iI n)]) (r := [.ref h.length]) rfl rfl rfl mh_o rfl rfl (mr_two z (d + 3) ar 4 r n h R I5 A5 N hc X5.2.1 T5.1 (by decide) (by omega) (by decide) (by omega) h_r5.1.1 h_r5.1.2 (by rw [h_r5.2]; exact s_r) h_n5.1.1 h_n5.1.2 (by rw [h_n5.2]; exact s_n) (X5.2.1.2.1.1.1.2.1 4 (by decide) (by decide)).symm) (fun v h1 hq => ?_)
  obtain ⟨s, I6, A6, rfl, rfl, R6, K6, tv6, tb6, te6, dt6, dj6⟩ := hq
  rw [(show DM A5 N 4 = .var 26209844 from T5.1.2 4 (by decide)), et_r5, et_n5] at dt6 dj6
  have et_s6 : DM A6 N s = sp_c2 26209844 (sp_c3 429 tl tm tn) tn := dt6
  have di6 : DIM _ (sp_opO (sp_c2 26209844 (sp_c3 429 tl tm tn) tn)) _ _ _ _ := DIM_up (fun it q => dj6 it _ _ _ D5 q) R6 (c2_0 rfl) di5
  rw [h_r5.2, h_n5.2] at te6
  have D6 := K6 _ _ _ D5
  have h_s6 : (0 ≤ s ∧ s < I6 7) ∧ TZ A6 ar s = 1 + (1 + TS A ar (A 1 (rt A 1 o)) + TS A ar (A 1 (rt A 2 o)) + TS A ar (A 1 (rt A 3 o))) + TS A ar (A 1 (rt A 3 o)) := ⟨tv6.1, te6⟩
  have s_s : 1 ≤ 1 + (1 + TS A ar (A 1 (rt A 1 o)) + TS A ar (A 1 (rt A 2 o)) + TS A ar (A 1 (rt A 3 o))) + TS A ar (A 1 (rt A 3 o)) := by rw [← te6]; exact tv6.2
  have P6 := RU_P R6
  have X6 := RU_tr X5 R6 (Int.le_refl _)
  have T6 := BTX_RU X5.2.1 T5 R6
  have et_l6 := (DM_RU X5.2.1 T5 R6 h_l5.1.1 h_l5.1.2).trans et_l5
  have et_m6 := (DM_RU X5.2.1 T5 R6 h_m5.1.1 h_m5.1.2).trans et_m5
  have et_n6 := (DM_RU X5.2.1 T5 R6 h_n5.1.1 h_n5.1.2).trans et_n5
  have et_r6 := (DM_RU X5.2.1 T5 R6 h_r5.1.1 h_r5.1.2).trans et_r5
  have h_l6 := RU_carry P5 R6 h_l5 s_l
  have h_m6 := RU_carry P5 R6 h_m5 s_m
  have h_n6 := RU_carry P5 R6 h_n5 s_n
  have h_r6 := RU_carry P5 R6 h_r5 s_r
  have y6 := X6.2.2.1
  have z6 : I6 7 ≤ 140000 := P6.1
  have x6 : I 7 ≤ I6 7 := X6.1.2.1
  have ex6 : A6 1 o = A 1 o := (X6.1.2.2.1 o o0 o1).1
  clear et_l5 et_m5 et_n5 et_r5 T5 h_l5 h_m5 h_n5 h_r5 y5 z5 x5 ex5
  show xx_go (xt_P z) (d + 10) 154 466 [some (.ref h.length), some (.int (iI k)), some (.int (iI o)), some (.int (iI c)), some (.int (iI l)), some (.int (iI m)), some (.int (iI n)), none] [.int (iI s), .ref h.length] (mh h R I6 A6 N) _
  refine go_v (m := 155) (as := [.ref h.length, .int (iI s)]) (r := []) rfl rfl rfl mh_o rfl rfl (mr_put z (d + 9) ar (0 + 1) (0 + TS A ar (A 1 (rt A 1 o))) _ s h R I6 A6 N hc X6.2.1 T6.1 D6 (by omega) h_s6.1.1 h_s6.1.2 (by rw [h_s6.2]; exact s_s) (fun b => by rw [h_s6.2]; have := tb6 b; rw [te6] at this; exact this)) (fun v h1 hq => ?_)
  obtain ⟨rfl, I7, A7, rfl, R7, D7, u7, e7, jj7⟩ := hq
  have di7 := jj7 _ _ di6
  rw [h_s6.2] at D7
  have P7 := RU_P R7
  have X7 := RU_tr X6 R7 (Int.le_refl _)
  have T7 := BTX_RU X6.2.1 T6 R7
  have et_l7 := (DM_RU X6.2.1 T6 R7 h_l6.1.1 h_l6.1.2).trans et_l6
  have et_m7 := (DM_RU X6.2.1 T6 R7 h_m6.1.1 h_m6.1.2).trans et_m6
  have et_n7 := (DM_RU X6.2.1 T6 R7 h_n6.1.1 h_n6.1.2).trans et_n6
  have et_r7 := (DM_RU X6.2.1 T6 R7 h_r6.1.1 h_r6.1.2).trans et_r6
  have et_s7 := (DM_RU X6.2.1 T6 R7 h_s6.1.1 h_s6.1.2).trans et_s6
  have h_l7 := RU_carry P6 R7 h_l6 s_l
  have h_m7 := RU_carry P6 R7 h_m6 s_m
  have h_n7 := RU_carry P6 R7 h_n6 s_n
  have h_r7 := RU_carry P6 R7 h_r6 s_r
  have h_s7 := RU_carry P6 R7 h_s6 s_s
  have y7 := X7.2.2.1
  have z7 : I7 7 ≤ 140000 := P7.1
  have x7 : I 7 ≤ I7 7 := X7.1.2.1
  have ex7 : A7 1 o = A 1 o := (X7.1.2.2.1 o o0 o1).1
  clear et_l6 et_m6 et_n6 et_r6 et_s6 T6 h_l6 h_m6 h_n6 h_r6 h_s6 y6 z6 x6 ex6
  show xx_go (xt_P z) (d + 10) 154 469 [some (.ref h.length), some (.int (iI k)), some (.int (iI o)), some (.int (iI c)), some (.int (iI l)), some (.int (iI m)), some (.int (iI n)), none] [] (mh h R I7 A7 N) _
  refine go_a (pc' := 470) (ls' := [some (.ref h.length), some (.int (iI k)), some (.int (iI o)), some (.int (iI c)), some (.int (iI l)), some (.int (iI m)), some (.int (iI n)), none]) (st' := [.int (iI 1)]) rfl rfl ?_
  refine go_r rfl rfl rfl rfl rfl rfl ⟨1, I7, A7, N, rfl, rfl, RU_w X7 (by omega), Or.inr ⟨rfl, ⟨_, di7, hρ tl tm tn tm_l tm_m tm_n⟩, _, _, DR_w D7 (by omega) (Int.le_refl _) (Int.le_refl _), fun b9 b30 b400 => ?_⟩⟩
  have dm := D7.1
  have ds := D7.2.2.1
  have dv := D7.2.2.2
  have kk : KDR dd I7 A7 ar ≤ E + 128 * WD A o - I7 7 := KK_two (w := WD A (A 1 (rt A 1 o)) + WD A (A 1 (rt A 2 o)) + WD A (A 1 (rt A 3 o))) d0 (by omega) (by omega) (by omega) (by omega)
  omega

