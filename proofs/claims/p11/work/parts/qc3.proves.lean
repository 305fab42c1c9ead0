def FT2 (j : Nat) : Prop := FQ j ∨ j = 15 ∨ j = 19
def GT2 (a : Nat) : Prop := GQ a ∨ a = 12 ∨ a = 14
theorem TX_BX {I I1 : Nat → Int} {A A1 : Nat → Int → Int} {N : Int → Int} (hS : MST I A N) (x : TX I A I1 A1) : BX (fun j => j = 15 ∨ j = 19) (fun a => a = 12 ∨ a = 14) I A N I1 A1 N :=
  BX_of hS (fun j q => x.1 j (fun e => q (Or.inl e)) (fun e => q (Or.inr e))) (fun a q => x.2 a (fun e => q (Or.inl e)) (fun e => q (Or.inr e))) (x.1 7 (by decide) (by decide)) (x.1 10 (by decide) (by decide)) (x.2 1 (by decide) (by decide)) (x.2 2 (by decide) (by decide)) (x.2 3 (by decide) (by decide)) (x.2 4 (by decide) (by decide)) (x.2 5 (by decide) (by decide)) (x.2 7 (by decide) (by decide)) (x.2 8 (by decide) (by decide)) (x.2 9 (by decide) (by decide))
theorem BI_TX {ar : Int → Int} {I I1 : Nat → Int} {A A1 : Nat → Int → Int} {N : Int → Int} (h : BI ar I A N) (x : TX I A I1 A1) : BI ar I1 A1 N := by
  have b := TX_BX h.1.1 x
  have f : ∀ j : Nat, j ≠ 15 → j ≠ 19 → I1 j = I j := x.1
  refine ⟨⟨b.1, NM_BX2 h.1.2.1 b, SZI_124 h.1.2.2 (x.2 1 (by decide) (by decide)) (x.2 2 (by decide) (by decide)) (x.2 4 (by decide) (by decide)) (f 7 (by decide) (by decide))⟩, ⟨AR_BX2 h.2.1.1 b (by decide) (by decide) (by decide) (by decide) (by decide), ARF_BX2 h.2.1.2 b (by decide) (by decide) (by decide)⟩, DFS_BX (MST_PW h.1.1) (BI_n0 h) h.2.1.1.1.1 h.2.2.1 b (by decide) (by decide) (fun a p q => by omega), ?_, ?_⟩
  · rw [f 54 (by decide) (by decide), f 56 (by decide) (by decide)]
    exact h.2.2.2.1
  · rw [f 49 (by decide) (by decide)]
    exact h.2.2.2.2
theorem mm_proves (z : Value) (d : Nat) (ar : Int → Int) (ft : Nat → Int) (Fb : List (Nat × List Nat × ob_T)) (Tb : List (Nat × ob_T)) (o : Int) (h R : xx_H) (I : Nat → Int) (A : Nat → Int → Int) (N : Int → Int) (hc : 12 ≤ h.length) (hB : BI ar I A N) (hs : STP I) (k0 : 0 ≤ o) (k1 : o < I 7) (w : WD A o ≤ 999) (hE : I 7 + 128 * WD A o ≤ 140000) (hE2 : A 1 o = 27 → I 7 + 622 + 2 * WD A o ≤ 140000) (u9 : I 49 = 0) (u15 : 0 ≤ I 15 ∧ I 15 ≤ 2000) (hX : BTX ar ft Fb Tb I A N) : xx_cl (xt_P z) (d + 14) 136 [.ref h.length, .int (iI o)] (mh h R I A N) (fun v h1 => ∃ (b : Int) (I1 : Nat → Int) (A1 : Nat → Int → Int) (N1 : Int → Int), v = some (.int (iI b)) ∧ h1 = mh h R I1 A1 N1 ∧ BX FT2 GT2 I A N I1 A1 N1 ∧ BI ar I1 A1 N1 ∧ STP I1 ∧ (0 ≤ I1 15 ∧ I1 15 ≤ 2000) ∧ ((b = 0 ∧ I1 49 = 0 ∧ CLA ar I1 A1 0 ∧ I1 7 + 502 ≤ I 7 + 128 * WD A o ∧ (sp_pr ft Fb Tb (I 47) 40 (DM A N o) (I 48) = some (CLD A1 N1 0, I1 48))) ∨ ((b = 4 ∨ b = 7) ∧ (sp_pr ft Fb Tb (I 47) 40 (DM A N o) (I 48) = none ∧ sp_sn ft Fb Tb (I 47) 40 (DM A N o) (I 48) = I1 48)))) := by
  have X0 : QX I A N (su (su (su I 81 0) 84 0) 85 (-1)) A N := QX_of hB.1.1 (fun j q => by rw [su_ne (fun e => q (by unfold FQ; omega)), su_ne (fun e => q (by unfold FQ; omega)), su_ne (fun e => q (by unfold FQ; omega))]) (fun _ _ => rfl) rfl rfl
  have B0 : BI ar (su (su (su I 81 0) 84 0) 85 (-1)) A N := BI_QX hB X0 (SZI_124 (I := I) (I1 := (su (su (su I 81 0) 84 0) 85 (-1))) hB.1.2.2 rfl rfl rfl rfl) hB.2.2.2.1.1 hB.2.2.2.1.2 hB.2.2.2.2
  have fr : ∀ {I1 : Nat → Int} {A1 : Nat → Int → Int} {N1 : Int → Int}, QX I A N I1 A1 N1 → BX FT2 GT2 I A N I1 A1 N1 ∧ (0 ≤ I1 15 ∧ I1 15 ≤ 2000) := fun X => ⟨BX_w2 (fun j q => Or.inl q) (fun a q => Or.inl q) X, by rw [X.2.2.2.1 15 (by decide) (by unfold FQ; omega)]; exact u15⟩
  have good : ∀ (I1 : Nat → Int) (A1 : Nat → Int → Int) (N1 : Int → Int), QX I A N I1 A1 N1 → BI ar I1 A1 N1 → STP I1 → I1 49 = 0 → I1 85 = -1 → I1 81 = 0 → CLA ar I1 A1 0 → I1 7 + 502 ≤ I 7 + 128 * WD A o → (sp_pr ft Fb Tb (I 47) 40 (DM A N o) (I 48) = some (CLD A1 N1 0, I1 48)) → xx_go (xt_P z) (d + 13) 136 20 [some (.ref h.length), some (.int (iI o))] [] (mh h R I1 A1 N1) (fun v h1 => ∃ (b : Int) (I1 : Nat → Int) (A1 : Nat → Int → Int) (N1 : Int → Int), v = some (.int (iI b)) ∧ h1 = mh h R I1 A1 N1 ∧ BX FT2 GT2 I A N I1 A1 N1 ∧ BI ar I1 A1 N1 ∧ STP I1 ∧ (0 ≤ I1 15 ∧ I1 15 ≤ 2000) ∧ ((b = 0 ∧ I1 49 = 0 ∧ CLA ar I1 A1 0 ∧ I1 7 + 502 ≤ I 7 + 128 * WD A o ∧ (sp_pr ft Fb Tb (I 47) 40 (DM A N o) (I 48) = some (CLD A1 N1 0, I1 48))) ∨ ((b = 4 ∨ b = 7) ∧ (sp_pr ft Fb Tb (I 47) 40 (DM A N o) (I 48) = none ∧ sp_sn ft Fb Tb (I 47) 40 (DM A N o) (I 48) = I1 48)))) := by
    intro I1 A1 N1 X B S e49 e85 e81 C c7 sp9
    have f := fr X
    refine go_a (pc' := 21) (ls' := [some (.ref h.length), some (.int (iI o))]) (st' := [.ref h.length]) rfl rfl ?_
    refine go_get (v := .int (iI (I1 49))) rfl mh_o rfl rfl ?_
    refine mi_ne0 (t := 49) rfl rfl (by omega) (by omega) (fun q => absurd e49 q) (fun _ => ?_)
    refine go_a (pc' := 28) (ls' := [some (.ref h.length), some (.int (iI o))]) (st' := [.ref h.length]) rfl rfl ?_
    refine go_get (v := .int (iI (I1 85))) rfl mh_o rfl rfl ?_
    refine go_a (pc' := 32) (ls' := [some (.ref h.length), some (.int (iI o))]) (st' := [.int (iI ((-1))), .int (iI (I1 85))]) rfl rfl ?_
    refine mi_ne (t := 49) rfl rfl (by omega) (by omega) (by omega) (by omega) (fun q => absurd e85 q) (fun _ => ?_)
    refine go_a (pc' := 36) (ls' := [some (.ref h.length), some (.int (iI o))]) (st' := [.ref h.length]) rfl rfl ?_
    refine go_get (v := .int (iI (I1 81))) rfl mh_o rfl rfl ?_
    refine mi_le0 (t := 49) rfl rfl (by omega) (by omega) (fun _ => ?_) (fun q => absurd (show I1 81 ≤ 0 by omega) q)
    refine go_a (pc' := 50) (ls' := [some (.ref h.length), some (.int (iI o))]) (st' := [.ref h.length]) rfl rfl ?_
    refine go_get (v := .int (iI (I1 49))) rfl mh_o rfl rfl ?_
    refine mi_eq0 (t := 58) rfl rfl (by omega) (by omega) (fun _ => ?_) (fun q => absurd e49 q)
    refine go_a (pc' := 59) (ls' := [some (.ref h.length), some (.int (iI o))]) (st' := [.ref h.length]) rfl rfl ?_
    refine go_get (v := .int (iI (I1 85))) rfl mh_o rfl rfl ?_
    refine go_a (pc' := 63) (ls' := [some (.ref h.length), some (.int (iI o))]) (st' := [.int (iI ((-1))), .int (iI (I1 85))]) rfl rfl ?_
    refine mi_ne (t := 68) rfl rfl (by omega) (by omega) (by omega) (by omega) (fun q => absurd e85 q) (fun _ => ?_)
    refine go_a (pc' := 67) (ls' := [some (.ref h.length), some (.int (iI o))]) (st' := [.int (iI 0)]) rfl rfl ?_
    exact go_r rfl rfl rfl rfl rfl rfl ⟨0, I1, A1, N1, rfl, rfl, f.1, B, S, f.2, Or.inl ⟨rfl, e49, C, c7, sp9⟩⟩
  have bade : ∀ (I1 : Nat → Int) (A1 : Nat → Int → Int) (N1 : Int → Int), QX I A N I1 A1 N1 → BI ar I1 A1 N1 → STP I1 → (¬ I1 49 = 0 ∨ (¬ I1 85 = -1 ∧ 0 ≤ I1 85 ∧ I1 85 < I1 7)) → (I1 85 = -1 ∨ (0 ≤ I1 85 ∧ I1 85 < I1 7)) → (sp_pr ft Fb Tb (I 47) 40 (DM A N o) (I 48) = none ∧ sp_sn ft Fb Tb (I 47) 40 (DM A N o) (I 48) = I1 48) → xx_go (xt_P z) (d + 13) 136 20 [some (.ref h.length), some (.int (iI o))] [] (mh h R I1 A1 N1) (fun v h1 => ∃ (b : Int) (I1 : Nat → Int) (A1 : Nat → Int → Int) (N1 : Int → Int), v = some (.int (iI b)) ∧ h1 = mh h R I1 A1 N1 ∧ BX FT2 GT2 I A N I1 A1 N1 ∧ BI ar I1 A1 N1 ∧ STP I1 ∧ (0 ≤ I1 15 ∧ I1 15 ≤ 2000) ∧ ((b = 0 ∧ I1 49 = 0 ∧ CLA ar I1 A1 0 ∧ I1 7 + 502 ≤ I 7 + 128 * WD A o ∧ (sp_pr ft Fb Tb (I 47) 40 (DM A N o) (I 48) = some (CLD A1 N1 0, I1 48))) ∨ ((b = 4 ∨ b = 7) ∧ (sp_pr ft Fb Tb (I 47) 40 (DM A N o) (I 48) = none ∧ sp_sn ft Fb Tb (I 47) 40 (DM A N o) (I 48) = I1 48)))) := by
    intro I1 A1 N1 X B S e1 e2 sp9
    have f := fr X
    have p7 := (BI_P B).1
    have u4 := B.2.2.2.2
    have out : xx_go (xt_P z) (d + 13) 136 49 [some (.ref h.length), some (.int (iI o))] [] (mh h R I1 A1 N1) (fun v h1 => ∃ (b : Int) (I1 : Nat → Int) (A1 : Nat → Int → Int) (N1 : Int → Int), v = some (.int (iI b)) ∧ h1 = mh h R I1 A1 N1 ∧ BX FT2 GT2 I A N I1 A1 N1 ∧ BI ar I1 A1 N1 ∧ STP I1 ∧ (0 ≤ I1 15 ∧ I1 15 ≤ 2000) ∧ ((b = 0 ∧ I1 49 = 0 ∧ CLA ar I1 A1 0 ∧ I1 7 + 502 ≤ I 7 + 128 * WD A o ∧ (sp_pr ft Fb Tb (I 47) 40 (DM A N o) (I 48) = some (CLD A1 N1 0, I1 48))) ∨ ((b = 4 ∨ b = 7) ∧ (sp_pr ft Fb Tb (I 47) 40 (DM A N o) (I 48) = none ∧ sp_sn ft Fb Tb (I 47) 40 (DM A N o) (I 48) = I1 48)))) := by
      refine go_a (pc' := 50) (ls' := [some (.ref h.length), some (.int (iI o))]) (st' := [.ref h.length]) rfl rfl ?_
      refine go_get (v := .int (iI (I1 49))) rfl mh_o rfl rfl ?_
      refine mi_eq0 (t := 58) rfl rfl (by omega) (by omega) (fun q => ?_) (fun q => ?_)
      · refine go_a (pc' := 59) (ls' := [some (.ref h.length), some (.int (iI o))]) (st' := [.ref h.length]) rfl rfl ?_
        refine go_get (v := .int (iI (I1 85))) rfl mh_o rfl rfl ?_
        refine go_a (pc' := 63) (ls' := [some (.ref h.length), some (.int (iI o))]) (st' := [.int (iI ((-1))), .int (iI (I1 85))]) rfl rfl ?_
        refine mi_ne (t := 68) rfl rfl (by omega) (by omega) (by omega) (by omega) (fun q2 => ?_) (fun q2 => absurd q (by omega))
        have rg : 0 ≤ I1 85 ∧ I1 85 < I1 7 := by omega
        refine go_a (pc' := 69) (ls' := [some (.ref h.length), some (.int (iI o))]) (st' := [.ref h.length]) rfl rfl ?_
        refine go_a (pc' := 70) (ls' := [some (.ref h.length), some (.int (iI o))]) (st' := [.ref h.length, .ref h.length]) rfl rfl ?_
        refine go_get (v := .int (iI (I1 85))) rfl mh_o rfl rfl ?_
        refine go_v (m := 171) (as := [.ref h.length, .int (iI (I1 85))]) (r := []) rfl rfl rfl mh_o rfl rfl (mm_tellOut z (d + 8) (I1 85) h R I1 A1 N1 hc B.1.1 rg.1 rg.2) (fun v h1 hq => ?_)
        obtain ⟨rfl, I2, A2, rfl, Y, y0, y1⟩ := hq
        show xx_go (xt_P z) (d + 13) 136 76 [some (.ref h.length), some (.int (iI o))] [] (mh h R I2 A2 N1) _
        refine go_a (pc' := 78) (ls' := [some (.ref h.length), some (.int (iI o))]) (st' := [.int (iI 7)]) rfl rfl ?_
        exact go_r rfl rfl rfl rfl rfl rfl ⟨7, I2, A2, N1, rfl, rfl, BX_tr f.1 (BX_w2 (fun j q => Or.inr q) (fun a q => Or.inr q) (TX_BX B.1.1 Y)), BI_TX B Y, (by unfold STP; rw [Y.1 47 (by decide) (by decide), Y.1 48 (by decide) (by decide)]; exact S), ⟨y0, y1⟩, Or.inr ⟨Or.inr rfl, sp9.1, by rw [Y.1 48 (by decide) (by decide)]; exact sp9.2⟩⟩
      · refine go_a (pc' := 57) (ls' := [some (.ref h.length), some (.int (iI o))]) (st' := [.int (iI 4)]) rfl rfl ?_
        exact go_r rfl rfl rfl rfl rfl rfl ⟨4, I1, A1, N1, rfl, rfl, f.1, B, S, f.2, Or.inr ⟨Or.inl rfl, sp9⟩⟩
    refine go_a (pc' := 21) (ls' := [some (.ref h.length), some (.int (iI o))]) (st' := [.ref h.length]) rfl rfl ?_
    refine go_get (v := .int (iI (I1 49))) rfl mh_o rfl rfl ?_
    refine mi_ne0 (t := 49) rfl rfl (by omega) (by omega) (fun _ => out) (fun q => ?_)
    refine go_a (pc' := 28) (ls' := [some (.ref h.length), some (.int (iI o))]) (st' := [.ref h.length]) rfl rfl ?_
    refine go_get (v := .int (iI (I1 85))) rfl mh_o rfl rfl ?_
    refine go_a (pc' := 32) (ls' := [some (.ref h.length), some (.int (iI o))]) (st' := [.int (iI ((-1))), .int (iI (I1 85))]) rfl rfl ?_
    exact mi_ne (t := 49) rfl rfl (by omega) (by omega) (by omega) (by omega) (fun _ => out) (fun q2 => absurd q2 (by omega))
  refine cl_go rfl ?_
  show xx_go (xt_P z) (d + 13) 136 0 [some (.ref h.length), some (.int (iI o))] [] (mh h R I A N) _
  refine go_a (pc' := 1) (ls' := [some (.ref h.length), some (.int (iI o))]) (st' := [.ref h.length]) rfl rfl ?_
  refine go_a (pc' := 2) (ls' := [some (.ref h.length), some (.int (iI o))]) (st' := [.int (iI 0), .ref h.length]) rfl rfl ?_
  refine go_put (j := 81) rfl mh_o rfl rfl (show 12 ≤ _ from hc) (show 81 < 86 by decide) rfl rfl ?_
  rw [mh_p81]
  refine go_a (pc' := 6) (ls' := [some (.ref h.length), some (.int (iI o))]) (st' := [.ref h.length]) rfl rfl ?_
  refine go_a (pc' := 7) (ls' := [some (.ref h.length), some (.int (iI o))]) (st' := [.int (iI 0), .ref h.length]) rfl rfl ?_
  refine go_put (j := 84) rfl mh_o rfl rfl (show 12 ≤ _ from hc) (show 84 < 86 by decide) rfl rfl ?_
  rw [mh_p84]
  refine go_a (pc' := 11) (ls' := [some (.ref h.length), some (.int (iI o))]) (st' := [.ref h.length]) rfl rfl ?_
  refine go_a (pc' := 12) (ls' := [some (.ref h.length), some (.int (iI o))]) (st' := [.int (iI ((-1))), .ref h.length]) rfl rfl ?_
  refine go_put (j := 85) rfl mh_o rfl rfl (show 12 ≤ _ from hc) (show 85 < 86 by decide) rfl rfl ?_
  rw [mh_p85]
  refine go_a (pc' := 16) (ls' := [some (.ref h.length), some (.int (iI o))]) (st' := [.ref h.length]) rfl rfl ?_
  refine go_a (pc' := 17) (ls' := [some (.ref h.length), some (.int (iI o))]) (st' := [.int (iI o), .ref h.length]) rfl rfl ?_
  refine go_v (m := 137) (as := [.ref h.length, .int (iI o)]) (r := []) rfl rfl rfl mh_o rfl rfl (mm_beginProof z (d + 1) ar ft Fb Tb o 0 0 h R (su (su (su I 81 0) 84 0) 85 (-1)) A N hc B0 hs k0 k1 w hE hE2 (by decide) (by decide) rfl (by decide) (by decide) rfl u9 (BTX_BX hB hX X0 (fun _ q => q) (fun _ q => q))) (fun v h1 hq => ?_)
  obtain ⟨rfl, I1, A1, N1, rfl, X, e84, hq⟩ := hq
  show xx_go (xt_P z) (d + 13) 136 20 [some (.ref h.length), some (.int (iI o))] [] (mh h R I1 A1 N1) _
  have X1 := BX_tr X0 X.1
  rcases hq with ⟨q1, q2, sp9⟩ | ⟨q1, q2, q3, q4, q5, q6, q7, fm, cf, ⟨s1, s2⟩, gk⟩
  · exact bade I1 A1 N1 X1 X.2.1 X.2.2.1 q1 q2 sp9
  have x7 : I 7 ≤ I1 7 := X1.2.1
  have o1 := (X1.2.2.1 o k0 k1).1
  obtain ⟨P, pft⟩ := FORM_PFT fm
  have ww := (WD_BX (BI_P hB) X1 k0 k1).1
  have cf : CFX ar I1 A1 o (I1 7 - I 7) := cf
  have s1 : I 48 < I 47 := s1
  have s2 : I1 48 = I 48 + 1 := s2
  have e47 : I1 47 = I 47 := X1.2.2.2.1 47 (by decide) (by unfold FQ; omega)
  have FX : FRX ar ft Fb Tb (I 48) (DM A N o) 0 o 0 (pf (A1 1 o)) 0 I1 A1 N1 := ⟨BTX_BX hB hX X1 (fun _ q => q) (fun _ q => q), BTX_D hB hX X1 (fun _ q => q) (fun _ q => q) k0 k1, gk, by rw [e47]; exact s1, by rw [s2]; rfl, fun i hi => absurd hi (by omega)⟩
  refine mm_proof_loop z d ar ft Fb Tb o h R hc _ (WD A1 o).toNat I1 A1 N1 (I 7) 0 o 0 (pf (A1 1 o)) P 0 (I 48) (DM A N o) (by omega) ⟨⟨X.2.1, X.2.2.1, q1, q2⟩, ⟨by decide, by decide, q4⟩, ⟨q5, by rw [q6, o1]; rfl, q7⟩, ⟨⟨k0, by omega⟩, fm, pft, Nat.zero_le _⟩, ⟨by decide, by rw [e84]; rfl, by omega⟩, by omega, ⟨I1 7 - I 7, cf, (show I1 7 ≤ I 7 + (I1 7 - I 7) + 0 by omega)⟩, fun q => absurd q (by omega), fun i hi => absurd hi (by omega)⟩ FX (fun I2 A2 N2 Y e49 e85 e81 _ C c7 _ sp nd => good I2 A2 N2 (BX_tr X1 Y.1) Y.2.1 Y.2.2.1 e49 e85 e81 C (by have := KC_ge (d := 0) (by decide) C; omega) (by rw [← e47]; exact sp)) (fun I2 A2 N2 Y B S e1 e2 sp => bade I2 A2 N2 (BX_tr X1 Y) B S e1 e2 (by rw [← e47]; exact sp))

