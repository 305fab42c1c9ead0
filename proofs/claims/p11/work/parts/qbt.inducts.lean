theorem DR_00 {ar : Int → Int} {I : Nat → Int} {A : Nat → Int → Int} : DR ar 0 0 0 (su I 67 0) A := ⟨⟨Int.le_refl _, Int.le_refl _⟩, fun k a b => absurd (show k < 0 from b) (by omega), (show (0 : Int) ≤ 0 by decide), (show (0 : Int) ≤ 0 by decide)⟩
theorem mm_ind_j (z : Value) (d : Nat) (o c fo ca e p k : Int) (h R : xx_H) (I : Nat → Int) (A : Nat → Int → Int) (N : Int → Int) (hc : 12 ≤ h.length) (dm : 0 ≤ I 67 ∧ I 67 ≤ 1200) (dv : ∀ k : Int, 0 ≤ k → k < I 67 → 0 ≤ A 38 k ∧ A 38 k < 140000) (c0 : 0 ≤ c + p) (c1 : c + p < 350) (k0 : 0 ≤ k) (k1 : k < 30) (cv : 0 ≤ A 50 (30 * (c + p) + k) ∧ A 50 (30 * (c + p) + k) < 140000) (Q : Option Value → xx_H → Prop) (K : ∀ b j : Int, (b = 0 ∨ b = 1) → FND A (A 50 (30 * (c + p) + k)) b (I 67) → xx_go (xt_P z) d 167 158 [some (.ref h.length), some (.int (iI o)), some (.int (iI c)), some (.int (iI fo)), some (.int (iI ca)), some (.int (iI e)), some (.int (iI p)), some (.int (iI k)), some (.int (iI b)), some (.int (iI j))] [] (mh h R I A N) Q) : ∀ (n : Nat) (b j : Int), (I 67 - j).toNat ≤ n → 0 ≤ j → j ≤ I 67 → (b = 0 ∨ b = 1) → FND A (A 50 (30 * (c + p) + k)) b j → xx_go (xt_P z) d 167 106 [some (.ref h.length), some (.int (iI o)), some (.int (iI c)), some (.int (iI fo)), some (.int (iI ca)), some (.int (iI e)), some (.int (iI p)), some (.int (iI k)), some (.int (iI b)), some (.int (iI j))] [] (mh h R I A N) Q := by
  intro n
  induction n with
  | zero =>
    intro b j hn j0 jm hb hf
    refine go_a (pc' := 108) (ls' := [some (.ref h.length), some (.int (iI o)), some (.int (iI c)), some (.int (iI fo)), some (.int (iI ca)), some (.int (iI e)), some (.int (iI p)), some (.int (iI k)), some (.int (iI b)), some (.int (iI j))]) (st' := [.int (iI j)]) rfl rfl ?_
    refine go_a (pc' := 109) (ls' := [some (.ref h.length), some (.int (iI o)), some (.int (iI c)), some (.int (iI fo)), some (.int (iI ca)), some (.int (iI e)), some (.int (iI p)), some (.int (iI k)), some (.int (iI b)), some (.int (iI j))]) (st' := [.ref h.length, .int (iI j)]) rfl rfl ?_
    refine go_get (v := .int (iI (I 67))) rfl mh_o rfl rfl ?_
    exact mi_ge (t := 158) rfl rfl (by omega) (by omega) (by omega) (by omega) (fun e9 => K b j hb (by rw [show I 67 = j by omega]; exact hf)) (fun q => absurd (show I 67 ≤ j by omega) q)
  | succ n ih =>
    intro b j hn j0 jm hb hf
    refine go_a (pc' := 108) (ls' := [some (.ref h.length), some (.int (iI o)), some (.int (iI c)), some (.int (iI fo)), some (.int (iI ca)), some (.int (iI e)), some (.int (iI p)), some (.int (iI k)), some (.int (iI b)), some (.int (iI j))]) (st' := [.int (iI j)]) rfl rfl ?_
    refine go_a (pc' := 109) (ls' := [some (.ref h.length), some (.int (iI o)), some (.int (iI c)), some (.int (iI fo)), some (.int (iI ca)), some (.int (iI e)), some (.int (iI p)), some (.int (iI k)), some (.int (iI b)), some (.int (iI j))]) (st' := [.ref h.length, .int (iI j)]) rfl rfl ?_
    refine go_get (v := .int (iI (I 67))) rfl mh_o rfl rfl ?_
    refine mi_ge (t := 158) rfl rfl (by omega) (by omega) (by omega) (by omega) (fun e9 => K b j hb (by rw [show I 67 = j by omega]; exact hf)) (fun q => ?_)
    have dj := dv j j0 (by omega)
    refine go_a (pc' := 117) (ls' := [some (.ref h.length), some (.int (iI o)), some (.int (iI c)), some (.int (iI fo)), some (.int (iI ca)), some (.int (iI e)), some (.int (iI p)), some (.int (iI k)), some (.int (iI b)), some (.int (iI j))]) (st' := [.int (iI b)]) rfl rfl ?_
    refine mi_ne0 (t := 145) rfl rfl (by omega) (by omega) (fun eb => ?_) (fun eb => ?_)
    · refine go_a (pc' := 146) (ls' := [some (.ref h.length), some (.int (iI o)), some (.int (iI c)), some (.int (iI fo)), some (.int (iI ca)), some (.int (iI e)), some (.int (iI p)), some (.int (iI k)), some (.int (iI b)), some (.int (iI j))]) (st' := [.int (iI 1)]) rfl rfl ?_
      refine go_a (pc' := 150) (ls' := [some (.ref h.length), some (.int (iI o)), some (.int (iI c)), some (.int (iI fo)), some (.int (iI ca)), some (.int (iI e)), some (.int (iI p)), some (.int (iI k)), some (.int (iI b)), some (.int (iI j))]) (st' := [.int (iI 1)]) rfl rfl ?_
      refine go_a (pc' := 152) (ls' := [some (.ref h.length), some (.int (iI o)), some (.int (iI c)), some (.int (iI fo)), some (.int (iI ca)), some (.int (iI e)), some (.int (iI p)), some (.int (iI k)), some (.int (iI 1)), some (.int (iI j))]) (st' := []) rfl rfl ?_
      refine go_a (pc' := 155) (ls' := [some (.ref h.length), some (.int (iI o)), some (.int (iI c)), some (.int (iI fo)), some (.int (iI ca)), some (.int (iI e)), some (.int (iI p)), some (.int (iI k)), some (.int (iI 1)), some (.int (iI (j + 1)))]) (st' := []) rfl (by rw [← iI_add j 1]; rfl) ?_
      refine go_a (pc' := 106) (ls' := [some (.ref h.length), some (.int (iI o)), some (.int (iI c)), some (.int (iI fo)), some (.int (iI ca)), some (.int (iI e)), some (.int (iI p)), some (.int (iI k)), some (.int (iI 1)), some (.int (iI (j + 1)))]) (st' := []) rfl rfl ?_
      exact ih 1 (j + 1) (by omega) (by omega) (by omega) (Or.inr rfl) (FND_s hf j0 (by omega))
    · refine go_a (pc' := 121) (ls' := [some (.ref h.length), some (.int (iI o)), some (.int (iI c)), some (.int (iI fo)), some (.int (iI ca)), some (.int (iI e)), some (.int (iI p)), some (.int (iI k)), some (.int (iI b)), some (.int (iI j))]) (st' := [.ref h.length]) rfl rfl ?_
      refine go_get rfl mh_o rfl rfl ?_
      refine go_a (pc' := 126) (ls' := [some (.ref h.length), some (.int (iI o)), some (.int (iI c)), some (.int (iI fo)), some (.int (iI ca)), some (.int (iI e)), some (.int (iI p)), some (.int (iI k)), some (.int (iI b)), some (.int (iI j))]) (st' := [.int (iI j), .ref (h.length + 38)]) rfl rfl ?_
      refine mi_ild rfl mh_a38 (by omega) (by omega) (by decide) ?_
      refine go_a (pc' := 128) (ls' := [some (.ref h.length), some (.int (iI o)), some (.int (iI c)), some (.int (iI fo)), some (.int (iI ca)), some (.int (iI e)), some (.int (iI p)), some (.int (iI k)), some (.int (iI b)), some (.int (iI j))]) (st' := [.ref h.length, .int (iI (A 38 j))]) rfl rfl ?_
      refine go_get rfl mh_o rfl rfl ?_
      refine go_a (pc' := 133) (ls' := [some (.ref h.length), some (.int (iI o)), some (.int (iI c)), some (.int (iI fo)), some (.int (iI ca)), some (.int (iI e)), some (.int (iI p)), some (.int (iI k)), some (.int (iI b)), some (.int (iI j))]) (st' := [.int (iI 30), .ref (h.length + 50), .int (iI (A 38 j))]) rfl rfl ?_
      refine go_a (pc' := 134) (ls' := [some (.ref h.length), some (.int (iI o)), some (.int (iI c)), some (.int (iI fo)), some (.int (iI ca)), some (.int (iI e)), some (.int (iI p)), some (.int (iI k)), some (.int (iI b)), some (.int (iI j))]) (st' := [.int (iI c), .int (iI 30), .ref (h.length + 50), .int (iI (A 38 j))]) rfl rfl ?_
      refine go_a (pc' := 136) (ls' := [some (.ref h.length), some (.int (iI o)), some (.int (iI c)), some (.int (iI fo)), some (.int (iI ca)), some (.int (iI e)), some (.int (iI p)), some (.int (iI k)), some (.int (iI b)), some (.int (iI j))]) (st' := [.int (iI p), .int (iI c), .int (iI 30), .ref (h.length + 50), .int (iI (A 38 j))]) rfl rfl ?_
      refine mi_add rfl ?_
      refine mi_mul rfl ?_
      refine go_a (pc' := 140) (ls' := [some (.ref h.length), some (.int (iI o)), some (.int (iI c)), some (.int (iI fo)), some (.int (iI ca)), some (.int (iI e)), some (.int (iI p)), some (.int (iI k)), some (.int (iI b)), some (.int (iI j))]) (st' := [.int (iI k), .int (iI (30 * (c + p))), .ref (h.length + 50), .int (iI (A 38 j))]) rfl rfl ?_
      refine mi_add rfl ?_
      refine mi_ild rfl mh_a50 (by omega) (by omega) (by decide) ?_
      refine mi_ne (t := 149) rfl rfl (by omega) (by omega) (by omega) (by omega) (fun ne => ?_) (fun eq => ?_)
      · refine go_a (pc' := 150) (ls' := [some (.ref h.length), some (.int (iI o)), some (.int (iI c)), some (.int (iI fo)), some (.int (iI ca)), some (.int (iI e)), some (.int (iI p)), some (.int (iI k)), some (.int (iI b)), some (.int (iI j))]) (st' := [.int (iI 0)]) rfl rfl ?_
        refine go_a (pc' := 152) (ls' := [some (.ref h.length), some (.int (iI o)), some (.int (iI c)), some (.int (iI fo)), some (.int (iI ca)), some (.int (iI e)), some (.int (iI p)), some (.int (iI k)), some (.int (iI 0)), some (.int (iI j))]) (st' := []) rfl rfl ?_
        refine go_a (pc' := 155) (ls' := [some (.ref h.length), some (.int (iI o)), some (.int (iI c)), some (.int (iI fo)), some (.int (iI ca)), some (.int (iI e)), some (.int (iI p)), some (.int (iI k)), some (.int (iI 0)), some (.int (iI (j + 1)))]) (st' := []) rfl (by rw [← iI_add j 1]; rfl) ?_
        refine go_a (pc' := 106) (ls' := [some (.ref h.length), some (.int (iI o)), some (.int (iI c)), some (.int (iI fo)), some (.int (iI ca)), some (.int (iI e)), some (.int (iI p)), some (.int (iI k)), some (.int (iI 0)), some (.int (iI (j + 1)))]) (st' := []) rfl rfl ?_
        exact ih 0 (j + 1) (by omega) (by omega) (by omega) (Or.inl rfl) (FND_n hf j0 (by omega) (by omega))
      · refine go_a (pc' := 146) (ls' := [some (.ref h.length), some (.int (iI o)), some (.int (iI c)), some (.int (iI fo)), some (.int (iI ca)), some (.int (iI e)), some (.int (iI p)), some (.int (iI k)), some (.int (iI b)), some (.int (iI j))]) (st' := [.int (iI 1)]) rfl rfl ?_
        refine go_a (pc' := 150) (ls' := [some (.ref h.length), some (.int (iI o)), some (.int (iI c)), some (.int (iI fo)), some (.int (iI ca)), some (.int (iI e)), some (.int (iI p)), some (.int (iI k)), some (.int (iI b)), some (.int (iI j))]) (st' := [.int (iI 1)]) rfl rfl ?_
        refine go_a (pc' := 152) (ls' := [some (.ref h.length), some (.int (iI o)), some (.int (iI c)), some (.int (iI fo)), some (.int (iI ca)), some (.int (iI e)), some (.int (iI p)), some (.int (iI k)), some (.int (iI 1)), some (.int (iI j))]) (st' := []) rfl rfl ?_
        refine go_a (pc' := 155) (ls' := [some (.ref h.length), some (.int (iI o)), some (.int (iI c)), some (.int (iI fo)), some (.int (iI ca)), some (.int (iI e)), some (.int (iI p)), some (.int (iI k)), some (.int (iI 1)), some (.int (iI (j + 1)))]) (st' := []) rfl (by rw [← iI_add j 1]; rfl) ?_
        refine go_a (pc' := 106) (ls' := [some (.ref h.length), some (.int (iI o)), some (.int (iI c)), some (.int (iI fo)), some (.int (iI ca)), some (.int (iI e)), some (.int (iI p)), some (.int (iI k)), some (.int (iI 1)), some (.int (iI (j + 1)))]) (st' := []) rfl rfl ?_
        exact ih 1 (j + 1) (by omega) (by omega) (by omega) (Or.inr rfl) (FND_e j0 (by omega))
theorem mm_ind_i (z : Value) (d : Nat) (ar : Int → Int) (o c fo ca e p : Int) (h R : xx_H) (I : Nat → Int) (A : Nat → Int → Int) (N : Int → Int) (hc : 12 ≤ h.length) (dm : 0 ≤ I 67 ∧ I 67 ≤ 1200) (dv : ∀ k : Int, 0 ≤ k → k < I 67 → 0 ≤ A 38 k ∧ A 38 k < 140000) (c0 : 0 ≤ c + p) (c1 : c + p < 350) (hC : CLA ar I A (c + p)) (i7 : I 7 ≤ 140000) (u0 : 0 ≤ I 49) (u1 : I 49 ≤ 4) (Q : Option Value → xx_H → Prop) (K : ∀ (k : Int) (y8 y9 : Option Value), (ALI A I (c + p) (A 51 (c + p)) ∨ ¬ I 49 = 0) → xx_go (xt_P z) d 167 171 [some (.ref h.length), some (.int (iI o)), some (.int (iI c)), some (.int (iI fo)), some (.int (iI ca)), some (.int (iI e)), some (.int (iI p)), some (.int (iI k)), y8, y9] [] (mh h R I A N) Q) (K0 : ∀ k b j : Int, NLI A I (c + p) (A 51 (c + p)) → I 49 = 0 → xx_go (xt_P z) d 167 163 [some (.ref h.length), some (.int (iI o)), some (.int (iI c)), some (.int (iI fo)), some (.int (iI ca)), some (.int (iI e)), some (.int (iI p)), some (.int (iI k)), some (.int (iI b)), some (.int (iI j))] [] (mh h R I A N) Q) : ∀ (n : Nat) (k : Int) (y8 y9 : Option Value), (A 51 (c + p) - k).toNat ≤ n → 0 ≤ k → k ≤ A 51 (c + p) → ALI A I (c + p) k → xx_go (xt_P z) d 167 79 [some (.ref h.length), some (.int (iI o)), some (.int (iI c)), some (.int (iI fo)), some (.int (iI ca)), some (.int (iI e)), some (.int (iI p)), some (.int (iI k)), y8, y9] [] (mh h R I A N) Q := by
  have hc1 := hC.1
  intro n
  induction n with
  | zero =>
    intro k y8 y9 hn k0 km ha
    refine go_a (pc' := 81) (ls' := [some (.ref h.length), some (.int (iI o)), some (.int (iI c)), some (.int (iI fo)), some (.int (iI ca)), some (.int (iI e)), some (.int (iI p)), some (.int (iI k)), y8, y9]) (st' := [.int (iI k)]) rfl rfl ?_
    refine go_a (pc' := 82) (ls' := [some (.ref h.length), some (.int (iI o)), some (.int (iI c)), some (.int (iI fo)), some (.int (iI ca)), some (.int (iI e)), some (.int (iI p)), some (.int (iI k)), y8, y9]) (st' := [.ref h.length, .int (iI k)]) rfl rfl ?_
    refine go_get rfl mh_o rfl rfl ?_
    refine go_a (pc' := 86) (ls' := [some (.ref h.length), some (.int (iI o)), some (.int (iI c)), some (.int (iI fo)), some (.int (iI ca)), some (.int (iI e)), some (.int (iI p)), some (.int (iI k)), y8, y9]) (st' := [.int (iI c), .ref (h.length + 51), .int (iI k)]) rfl rfl ?_
    refine go_a (pc' := 88) (ls' := [some (.ref h.length), some (.int (iI o)), some (.int (iI c)), some (.int (iI fo)), some (.int (iI ca)), some (.int (iI e)), some (.int (iI p)), some (.int (iI k)), y8, y9]) (st' := [.int (iI p), .int (iI c), .ref (h.length + 51), .int (iI k)]) rfl rfl ?_
    refine mi_add rfl ?_
    refine mi_ild rfl mh_a51 (by omega) (by omega) (by decide) ?_
    exact mi_ge (t := 171) rfl rfl (by omega) (by omega) (by omega) (by omega) (fun e9 => K k y8 y9 (Or.inl (by rw [show A 51 (c + p) = k by omega]; exact ha))) (fun q => absurd (show A 51 (c + p) ≤ k by omega) q)
  | succ n ih =>
    intro k y8 y9 hn k0 km ha
    refine go_a (pc' := 81) (ls' := [some (.ref h.length), some (.int (iI o)), some (.int (iI c)), some (.int (iI fo)), some (.int (iI ca)), some (.int (iI e)), some (.int (iI p)), some (.int (iI k)), y8, y9]) (st' := [.int (iI k)]) rfl rfl ?_
    refine go_a (pc' := 82) (ls' := [some (.ref h.length), some (.int (iI o)), some (.int (iI c)), some (.int (iI fo)), some (.int (iI ca)), some (.int (iI e)), some (.int (iI p)), some (.int (iI k)), y8, y9]) (st' := [.ref h.length, .int (iI k)]) rfl rfl ?_
    refine go_get rfl mh_o rfl rfl ?_
    refine go_a (pc' := 86) (ls' := [some (.ref h.length), some (.int (iI o)), some (.int (iI c)), some (.int (iI fo)), some (.int (iI ca)), some (.int (iI e)), some (.int (iI p)), some (.int (iI k)), y8, y9]) (st' := [.int (iI c), .ref (h.length + 51), .int (iI k)]) rfl rfl ?_
    refine go_a (pc' := 88) (ls' := [some (.ref h.length), some (.int (iI o)), some (.int (iI c)), some (.int (iI fo)), some (.int (iI ca)), some (.int (iI e)), some (.int (iI p)), some (.int (iI k)), y8, y9]) (st' := [.int (iI p), .int (iI c), .ref (h.length + 51), .int (iI k)]) rfl rfl ?_
    refine mi_add rfl ?_
    refine mi_ild rfl mh_a51 (by omega) (by omega) (by decide) ?_
    refine mi_ge (t := 171) rfl rfl (by omega) (by omega) (by omega) (by omega) (fun e9 => K k y8 y9 (Or.inl (by rw [show A 51 (c + p) = k by omega]; exact ha))) (fun q => ?_)
    refine go_a (pc' := 94) (ls' := [some (.ref h.length), some (.int (iI o)), some (.int (iI c)), some (.int (iI fo)), some (.int (iI ca)), some (.int (iI e)), some (.int (iI p)), some (.int (iI k)), y8, y9]) (st' := [.ref h.length]) rfl rfl ?_
    refine go_get (v := .int (iI (I 49))) rfl mh_o rfl rfl ?_
    refine mi_ne0 (t := 171) rfl rfl (by omega) (by omega) (fun e9 => K k y8 y9 (Or.inr e9)) (fun ez => ?_)
    have ck := hC.2.1 k k0 (by omega)
    refine go_a (pc' := 101) (ls' := [some (.ref h.length), some (.int (iI o)), some (.int (iI c)), some (.int (iI fo)), some (.int (iI ca)), some (.int (iI e)), some (.int (iI p)), some (.int (iI k)), y8, y9]) (st' := [.int (iI 0)]) rfl rfl ?_
    refine go_a (pc' := 103) (ls' := [some (.ref h.length), some (.int (iI o)), some (.int (iI c)), some (.int (iI fo)), some (.int (iI ca)), some (.int (iI e)), some (.int (iI p)), some (.int (iI k)), some (.int (iI 0)), y9]) (st' := []) rfl rfl ?_
    refine go_a (pc' := 104) (ls' := [some (.ref h.length), some (.int (iI o)), some (.int (iI c)), some (.int (iI fo)), some (.int (iI ca)), some (.int (iI e)), some (.int (iI p)), some (.int (iI k)), some (.int (iI 0)), y9]) (st' := [.int (iI 0)]) rfl rfl ?_
    refine go_a (pc' := 106) (ls' := [some (.ref h.length), some (.int (iI o)), some (.int (iI c)), some (.int (iI fo)), some (.int (iI ca)), some (.int (iI e)), some (.int (iI p)), some (.int (iI k)), some (.int (iI 0)), some (.int (iI 0))]) (st' := []) rfl rfl ?_
    refine mm_ind_j z d o c fo ca e p k h R I A N hc dm dv c0 c1 k0 (by omega) ⟨ck.1.1, by omega⟩ Q ?_ (I 67).toNat 0 0 (by omega) (Int.le_refl _) dm.1 (Or.inl rfl) FND_0
    intro b j hb hf
    refine go_a (pc' := 160) (ls' := [some (.ref h.length), some (.int (iI o)), some (.int (iI c)), some (.int (iI fo)), some (.int (iI ca)), some (.int (iI e)), some (.int (iI p)), some (.int (iI k)), some (.int (iI b)), some (.int (iI j))]) (st' := [.int (iI b)]) rfl rfl ?_
    refine mi_ne0 (t := 165) rfl rfl (by omega) (by omega) (fun e9 => ?_) (fun e9 => K0 k b j ⟨k, ⟨k0, by omega⟩, FND_x hf (by omega)⟩ (by omega))
    refine go_a (pc' := 168) (ls' := [some (.ref h.length), some (.int (iI o)), some (.int (iI c)), some (.int (iI fo)), some (.int (iI ca)), some (.int (iI e)), some (.int (iI p)), some (.int (iI (k + 1))), some (.int (iI b)), some (.int (iI j))]) (st' := []) rfl (by rw [← iI_add k 1]; rfl) ?_
    refine go_a (pc' := 79) (ls' := [some (.ref h.length), some (.int (iI o)), some (.int (iI c)), some (.int (iI fo)), some (.int (iI ca)), some (.int (iI e)), some (.int (iI p)), some (.int (iI (k + 1))), some (.int (iI b)), some (.int (iI j))]) (st' := []) rfl rfl ?_
    exact ih (k + 1) _ _ (by omega) (by omega) (by omega) (ALI_s ha (FND_1 hf (by omega)))
theorem mm_ind_p (z : Value) (d m : Nat) (ar : Int → Int) (ft : Nat → Int) (fn : Nat) (o c fo ca e : Int) (h R : xx_H) (I : Nat → Int) (A : Nat → Int → Int) (N : Int → Int) (hc : 12 ≤ h.length) (hB : BI ar I A N) (e0 : 0 ≤ e) (e1 : e < I 32) (em : A 21 e = m) (ca0 : 0 ≤ ca) (ca1 : ca < I 7) (cp : 0 ≤ A 1 ca) (hL : isL A m (A 2 ca)) (hV : ∀ j : Nat, j < m → A 1 (A 1 (rt A j (A 2 ca))) = -2 ∧ 1 < A 1 (rt A j (A 2 ca))) (P0 : 0 ≤ I 71 ∧ I 71 ≤ 120) (hT : ∀ p : Int, 0 ≤ p → p < I 71 → PTP ar I A (A 20 e) p) (sb : SG (TZ A ar) (A 39) (I 71).toNat ≤ 120) (q0 : 0 ≤ fo) (q1 : fo < I 7) (q2 : 1 ≤ TZ A ar fo) (q3 : TZ A ar fo ≤ 120) (c0 : 0 ≤ c) (c1 : c + I 71 ≤ 350) (hC : ∀ p : Int, 0 ≤ p → p < I 71 → CLA ar I A (c + p)) (ho : I 7 + 240 * I 71 + TZ A ar fo * 120 + 500 ≤ 140000) (hX : TRX I A N) (hK : ART ar ft I A N) (hr : ∀ p : Int, 0 ≤ p → p < I 71 → (∀ k : Int, 0 ≤ k → k < A 41 p → 1 ≤ TS A ar (A 40 (64 * p + k))) ∧ 1 ≤ TS A ar (A 39 p)) (hs : 1 ≤ TS A ar fo) (ff : DM A N (A 20 e) = .var fn) (fq : A 20 e ≠ 2) : ∀ (n : Nat) (p : Int) (I1 : Nat → Int) (A1 : Nat → Int → Int) (y7 y8 y9 : Option Value), (I 71 - p).toNat ≤ n → 0 ≤ p → p ≤ I 71 → RZ FNN GNN ar (240 * p + TZ A ar fo * SG (TZ A ar) (A 39) p.toNat) I A N I1 A1 N → IDP (ROK fn (VsP A N e m) (VlP A N (A 2 ca) m) (OsP A N (A 2 ca) m) (DM A N fo) A N c) (I1 49) p (I 71) → xx_go (xt_P z) (d + 9) 167 35 [some (.ref h.length), some (.int (iI o)), some (.int (iI c)), some (.int (iI fo)), some (.int (iI ca)), some (.int (iI e)), some (.int (iI p)), y7, y8, y9] [] (mh h R I1 A1 N) (fun v h1 => ∃ (b : Int) (I1 : Nat → Int) (A1 : Nat → Int → Int), v = some (.int (iI b)) ∧ h1 = mh h R I1 A1 N ∧ RU ar (240 * I 71 + TZ A ar fo * 120) I A N I1 A1 N ∧ ((b = 0 ∧ ∃ q : Int, (0 ≤ q ∧ q < I 71) ∧ ¬ (ROK fn (VsP A N e m) (VlP A N (A 2 ca) m) (OsP A N (A 2 ca) m) (DM A N fo) A N c) q) ∨ (b = 1 ∧ (∃ S V : Int, DR ar 1 S V I1 A1) ∧ IDP (ROK fn (VsP A N e m) (VlP A N (A 2 ca) m) (OsP A N (A 2 ca) m) (DM A N fo) A N c) (I1 49) (I 71) (I 71) ∧ (I1 49 = 0 → DIT [some (DM A N fo)] I1 A1 N)))) := by
  have hP := BI_P hB
  have i40 := hB.2.2.1.1.1
  have De := hB.2.2.1.2.1 e e0 e1
  have d1 := De.1
  have qc := hP.2 ca ca0 ca1
  have qc2 := qc.2.2.2.2 cp
  have mono : ∀ p : Int, 0 ≤ p → p ≤ I 71 → 240 * p + TZ A ar fo * SG (TZ A ar) (A 39) p.toNat ≤ 240 * I 71 + TZ A ar fo * 120 := by
    intro p a b
    have s : SG (TZ A ar) (A 39) p.toNat ≤ SG (TZ A ar) (A 39) (I 71).toNat := SG_mono (fun e e0 e1 => by have := (hT e e0 e1).1.2; omega) a b
    have := Int.mul_le_mul_of_nonneg_left (show SG (TZ A ar) (A 39) p.toNat ≤ 120 by omega) (show 0 ≤ TZ A ar fo by omega)
    omega
  have fin : ∀ (p : Int) (I1 : Nat → Int) (A1 : Nat → Int → Int) (y7 y8 y9 : Option Value), 0 ≤ p → p ≤ I 71 → RZ FNN GNN ar (240 * p + TZ A ar fo * SG (TZ A ar) (A 39) p.toNat) I A N I1 A1 N → IDP (ROK fn (VsP A N e m) (VlP A N (A 2 ca) m) (OsP A N (A 2 ca) m) (DM A N fo) A N c) (I1 49) (I 71) (I 71) → xx_go (xt_P z) (d + 9) 167 177 [some (.ref h.length), some (.int (iI o)), some (.int (iI c)), some (.int (iI fo)), some (.int (iI ca)), some (.int (iI e)), some (.int (iI p)), y7, y8, y9] [] (mh h R I1 A1 N) (fun v h1 => ∃ (b : Int) (I1 : Nat → Int) (A1 : Nat → Int → Int), v = some (.int (iI b)) ∧ h1 = mh h R I1 A1 N ∧ RU ar (240 * I 71 + TZ A ar fo * 120) I A N I1 A1 N ∧ ((b = 0 ∧ ∃ q : Int, (0 ≤ q ∧ q < I 71) ∧ ¬ (ROK fn (VsP A N e m) (VlP A N (A 2 ca) m) (OsP A N (A 2 ca) m) (DM A N fo) A N c) q) ∨ (b = 1 ∧ (∃ S V : Int, DR ar 1 S V I1 A1) ∧ IDP (ROK fn (VsP A N e m) (VlP A N (A 2 ca) m) (OsP A N (A 2 ca) m) (DM A N fo) A N c) (I1 49) (I 71) (I 71) ∧ (I1 49 = 0 → DIT [some (DM A N fo)] I1 A1 N)))) := by
    intro p I1 A1 y7 y8 y9 a b X hj
    have T1 : TRX I1 A1 N := TRX_BX hB.1.1 hB.1.2.1 hX X.1 (by unfold FNN FE; omega) (by unfold GNN GE; omega) (by unfold GNN GE; omega)
    have mo := mono p a b
    have x7 := X.1.2.1
    have tf := RZ_t hP X q0 q1 q2
    have P1 := RZ_P X
    refine go_a (pc' := 178) (ls' := [some (.ref h.length), some (.int (iI o)), some (.int (iI c)), some (.int (iI fo)), some (.int (iI ca)), some (.int (iI e)), some (.int (iI p)), y7, y8, y9]) (st' := [.ref h.length]) rfl rfl ?_
    refine go_a (pc' := 179) (ls' := [some (.ref h.length), some (.int (iI o)), some (.int (iI c)), some (.int (iI fo)), some (.int (iI ca)), some (.int (iI e)), some (.int (iI p)), y7, y8, y9]) (st' := [.int (iI 0), .ref h.length]) rfl rfl ?_
    refine go_put (j := 67) rfl mh_o rfl rfl (show 12 ≤ _ from hc) (show 67 < 86 by decide) rfl rfl ?_
    rw [mh_p67]
    refine go_a (pc' := 183) (ls' := [some (.ref h.length), some (.int (iI o)), some (.int (iI c)), some (.int (iI fo)), some (.int (iI ca)), some (.int (iI e)), some (.int (iI p)), y7, y8, y9]) (st' := [.ref h.length]) rfl rfl ?_
    refine go_a (pc' := 184) (ls' := [some (.ref h.length), some (.int (iI o)), some (.int (iI c)), some (.int (iI fo)), some (.int (iI ca)), some (.int (iI e)), some (.int (iI p)), y7, y8, y9]) (st' := [.int (iI fo), .ref h.length]) rfl rfl ?_
    have b2 : BX (fun j => j = 67) NO I1 A1 N (su I1 67 0) A1 N := BX_of X.2.1.1.1 (fun j q => su_ne q) (fun a _ => rfl) rfl rfl rfl rfl rfl rfl rfl rfl rfl rfl
    have R2 : RZ FNN GNN ar 0 I1 A1 N (su I1 67 0) A1 N := RZ_of X.2.1 b2 (fun j q => by subst q; unfold FNN FE; omega) (fun a q => absurd q (fun z => z)) FNN_FQ GNN_GQ (SZI_124 (I := I1) (I1 := su I1 67 0) (A := A1) (A1 := A1) X.2.1.1.2.2 rfl rfl rfl rfl) rfl rfl X.2.1.2.2.2.2 (show I1 7 ≤ I1 7 + 0 by omega) (fun _ => rfl)
    have D2 : DR ar 0 0 0 (su I1 67 0) A1 := DR_00
    refine go_v (m := 155) (as := [.ref h.length, .int (iI fo)]) (r := []) rfl rfl rfl mh_o rfl rfl (mm_put z (d + 8) ar 0 0 0 fo h R (su I1 67 0) A1 N hc P1 D2 (by decide) q0 (show fo < I1 7 by omega) (by rw [tf]; exact q2) (fun _ => by rw [tf]; exact q3) P1.1) (fun v h1 hq => ?_)
    obtain ⟨rfl, I4, A4, rfl, X4, D4, J4⟩ := hq
    have e49 : I4 49 = I1 49 := X4.1 49 (by decide)
    have hJ4 : I4 49 = 0 → DIT [some (DM A N fo)] I4 A4 N := fun w => by
      have T2 : TRX (su I1 67 0) A1 N := TRX_12 T1 rfl rfl rfl rfl rfl
      have a := DIM_put (its := []) R2.2.1 T2 D2 X4 J4 q0 (show fo < I1 7 by omega) (DIM_have (x := fo) (Or.inl ⟨(show I1 49 = 0 by omega), rfl⟩))
      rw [DM_BX hB.1.1 hX X.1 (by unfold FNN FE; omega) (by unfold GNN GE; omega) (by unfold GNN GE; omega) q0 q1] at a
      exact a
    have R4 := RE_DX R2.2.1 X4
    show xx_go (xt_P z) (d + 9) 167 187 [some (.ref h.length), some (.int (iI o)), some (.int (iI c)), some (.int (iI fo)), some (.int (iI ca)), some (.int (iI e)), some (.int (iI p)), y7, y8, y9] [] (mh h R I4 A4 N) _
    refine go_a (pc' := 188) (ls' := [some (.ref h.length), some (.int (iI o)), some (.int (iI c)), some (.int (iI fo)), some (.int (iI ca)), some (.int (iI e)), some (.int (iI p)), y7, y8, y9]) (st' := [.int (iI 1)]) rfl rfl ?_
    exact go_r rfl rfl rfl rfl rfl rfl ⟨1, I4, A4, rfl, rfl, RZ_RU (RZ_w (RZ_tr (RZ_tr X R2 (Int.le_refl _)) (RZ_FNN R4) (Int.le_refl _)) (by omega)) FNN_FC GNN_GC, Or.inr ⟨rfl, ⟨_, _, D4⟩, by rw [e49]; exact hj, hJ4⟩⟩
  intro n
  induction n with
  | zero =>
    intro p I1 A1 y7 y8 y9 hn p0 pm X hj
    have e71 : I1 71 = I 71 := X.1.2.2.2.1 71 (by decide) (by unfold FNN FE; omega)
    refine go_a (pc' := 37) (ls' := [some (.ref h.length), some (.int (iI o)), some (.int (iI c)), some (.int (iI fo)), some (.int (iI ca)), some (.int (iI e)), some (.int (iI p)), y7, y8, y9]) (st' := [.int (iI p)]) rfl rfl ?_
    refine go_a (pc' := 38) (ls' := [some (.ref h.length), some (.int (iI o)), some (.int (iI c)), some (.int (iI fo)), some (.int (iI ca)), some (.int (iI e)), some (.int (iI p)), y7, y8, y9]) (st' := [.ref h.length, .int (iI p)]) rfl rfl ?_
    refine go_get (v := .int (iI (I1 71))) rfl mh_o rfl rfl ?_
    exact mi_ge (t := 177) rfl rfl (by omega) (by omega) (by omega) (by omega) (fun e9 => fin p I1 A1 y7 y8 y9 p0 pm X (IDP_e hj (by omega))) (fun q => absurd (show I1 71 ≤ p by omega) q)
  | succ n ih =>
    intro p I1 A1 y7 y8 y9 hn p0 pm X hj
    have e71 : I1 71 = I 71 := X.1.2.2.2.1 71 (by decide) (by unfold FNN FE; omega)
    have u49 := X.2.1.2.2.2.2
    refine go_a (pc' := 37) (ls' := [some (.ref h.length), some (.int (iI o)), some (.int (iI c)), some (.int (iI fo)), some (.int (iI ca)), some (.int (iI e)), some (.int (iI p)), y7, y8, y9]) (st' := [.int (iI p)]) rfl rfl ?_
    refine go_a (pc' := 38) (ls' := [some (.ref h.length), some (.int (iI o)), some (.int (iI c)), some (.int (iI fo)), some (.int (iI ca)), some (.int (iI e)), some (.int (iI p)), y7, y8, y9]) (st' := [.ref h.length, .int (iI p)]) rfl rfl ?_
    refine go_get (v := .int (iI (I1 71))) rfl mh_o rfl rfl ?_
    refine mi_ge (t := 177) rfl rfl (by omega) (by omega) (by omega) (by omega) (fun e9 => fin p I1 A1 y7 y8 y9 p0 pm X (IDP_e hj (by omega))) (fun q => ?_)
    refine go_a (pc' := 45) (ls' := [some (.ref h.length), some (.int (iI o)), some (.int (iI c)), some (.int (iI fo)), some (.int (iI ca)), some (.int (iI e)), some (.int (iI p)), y7, y8, y9]) (st' := [.ref h.length]) rfl rfl ?_
    refine go_get (v := .int (iI (I1 49))) rfl mh_o rfl rfl ?_
    refine mi_ne0 (t := 177) rfl rfl (by omega) (by omega) (fun e9 => fin p I1 A1 y7 y8 y9 p0 pm X (IDP_x hj e9)) (fun w9 => ?_)
    have x7 := X.1.2.1
    have c7 := X.2.2.1
    have P1 := RZ_P X
    have i9 := P1.1
    have mo := mono p p0 pm
    have mo1 := mono (p + 1) (by omega) (by omega)
    have hp := hT p p0 (by omega)
    have tf := RZ_t hP X q0 q1 q2
    have te := RZ_t hP X hp.1.1.1 hp.1.1.2 hp.1.2
    have sk : SG (TZ A ar) (A 39) (p + 1).toNat = SG (TZ A ar) (A 39) p.toNat + TZ A ar (A 39 p) := by
      rw [SG_pop (by omega : 0 < p + 1), show p + 1 - 1 = p by omega]
    have me := Int.mul_add (TZ A ar fo) (SG (TZ A ar) (A 39) p.toNat) (TZ A ar (A 39 p))
    rw [sk, me] at mo1
    have f20 : A1 20 = A 20 := X.1.2.2.2.2 20 (by decide) (by decide) (by decide) (by decide) (by decide) (by decide) (by unfold GNN GE; omega)
    have f21 : A1 21 = A 21 := X.1.2.2.2.2 21 (by decide) (by decide) (by decide) (by decide) (by decide) (by decide) (by unfold GNN GE; omega)
    have f39 : A1 39 = A 39 := X.1.2.2.2.2 39 (by decide) (by decide) (by decide) (by decide) (by decide) (by decide) (by unfold GNN GE; omega)
    have f32 : I1 32 = I 32 := X.1.2.2.2.1 32 (by decide) (by unfold FNN FE; omega)
    have fca : A1 2 ca = A 2 ca := (X.1.2.2.1 ca ca0 ca1).2.1
    have T1 := PTP_BX (ar := ar) (f := A 20 e) (p := p) (by omega) hP X.1 (fun a p q => by unfold GNN GE; omega) hp
    have VJ : ∀ j : Nat, j < m → A1 1 (A1 1 (rt A1 j (A 2 ca))) = -2 ∧ 1 < A1 1 (rt A1 j (A 2 ca)) := by
      intro j hj
      have b := (VD_rt hP qc.2.2.1 (by omega) hL hj).2.1
      rw [it_BX hP X.1 qc.2.2.1 (by omega) hL hj, (X.1.2.2.1 _ b.1 b.2).1]
      exact hV j hj
    refine go_a (pc' := 52) (ls' := [some (.ref h.length), some (.int (iI o)), some (.int (iI c)), some (.int (iI fo)), some (.int (iI ca)), some (.int (iI e)), some (.int (iI p)), y7, y8, y9]) (st' := [.ref h.length]) rfl rfl ?_
    refine go_a (pc' := 53) (ls' := [some (.ref h.length), some (.int (iI o)), some (.int (iI c)), some (.int (iI fo)), some (.int (iI ca)), some (.int (iI e)), some (.int (iI p)), y7, y8, y9]) (st' := [.int (iI 0), .ref h.length]) rfl rfl ?_
    refine go_put (j := 67) rfl mh_o rfl rfl (show 12 ≤ _ from hc) (show 67 < 86 by decide) rfl rfl ?_
    rw [mh_p67]
    have b2 : BX (fun j => j = 67) NO I1 A1 N (su I1 67 0) A1 N := BX_of X.2.1.1.1 (fun j q => su_ne q) (fun a _ => rfl) rfl rfl rfl rfl rfl rfl rfl rfl rfl rfl
    have R2 : RZ FNN GNN ar 0 I1 A1 N (su I1 67 0) A1 N := RZ_of X.2.1 b2 (fun j q => by subst q; unfold FNN FE; omega) (fun a q => absurd q (fun z => z)) FNN_FQ GNN_GQ (SZI_124 (I := I1) (I1 := su I1 67 0) (A := A1) (A1 := A1) X.2.1.1.2.2 rfl rfl rfl rfl) rfl rfl X.2.1.2.2.2.2 (show I1 7 ≤ I1 7 + 0 by omega) (fun _ => rfl)
    have TR1 : TRX I1 A1 N := TRX_BX hB.1.1 hB.1.2.1 hX X.1 (by unfold FNN FE; omega) (by unfold GNN GE; omega) (by unfold GNN GE; omega)
    have T2 : TRX (su I1 67 0) A1 N := TRX_12 TR1 rfl rfl rfl rfl rfl
    have KR1 : ART ar ft I1 A1 N := ART_BX hB hX hK X.1 (by unfold FNN FE; omega) (by unfold GNN GE; omega) (by unfold GNN GE; omega)
    have K2 : ART ar ft (su I1 67 0) A1 N := ART_BX X.2.1 TR1 KR1 b2 (by decide) (fun z => z) (fun z => z)
    have d1 : ∀ x : Int, 0 ≤ x → x < I 7 → DM A1 N x = DM A N x := fun x x0 x1 => DM_BX hB.1.1 hX X.1 (by unfold FNN FE; omega) (by unfold GNN GE; omega) (by unfold GNN GE; omega) x0 x1
    have t1 : ∀ x : Int, 0 ≤ x → x < I 7 → 1 ≤ TS A ar x → 1 ≤ TS A1 ar x := fun x x0 x1 hx => by
      have a := TS_1 X.2.1.1.1 X.2.1.1.2.1 TR1 KR1 x0 (show x < I1 7 by omega)
      rw [d1 x x0 x1, TS_1 hB.1.1 hB.1.2.1 hX hK x0 x1] at a
      have a1 : TS A ar x = TS A1 ar x := congrArg (fun q => q.1) a
      rw [← a1]
      exact hx
    have f40 : A1 40 = A 40 := X.1.2.2.2.2 40 (by decide) (by decide) (by decide) (by decide) (by decide) (by decide) (by unfold GNN GE; omega)
    have f41 : A1 41 = A 41 := X.1.2.2.2.2 41 (by decide) (by decide) (by decide) (by decide) (by decide) (by decide) (by unfold GNN GE; omega)
    have f50 : A1 50 = A 50 := X.1.2.2.2.2 50 (by decide) (by decide) (by decide) (by decide) (by decide) (by decide) (by unfold GNN GE; omega)
    have f51 : A1 51 = A 51 := X.1.2.2.2.2 51 (by decide) (by decide) (by decide) (by decide) (by decide) (by decide) (by unfold GNN GE; omega)
    have fb : 0 ≤ A 20 e ∧ A 20 e < I 7 := ⟨by omega, by omega⟩
    have hrp := hr p p0 (by omega)
    have rkp : ∀ k : Int, 0 ≤ k → k < A 41 p → 0 ≤ A 40 (64 * p + k) ∧ A 40 (64 * p + k) < I 7 := fun k a b => (hp.2.2.1 k a b).1
    refine go_a (pc' := 57) (ls' := [some (.ref h.length), some (.int (iI o)), some (.int (iI c)), some (.int (iI fo)), some (.int (iI ca)), some (.int (iI e)), some (.int (iI p)), y7, y8, y9]) (st' := [.ref h.length]) rfl rfl ?_
    refine go_a (pc' := 59) (ls' := [some (.ref h.length), some (.int (iI o)), some (.int (iI c)), some (.int (iI fo)), some (.int (iI ca)), some (.int (iI e)), some (.int (iI p)), y7, y8, y9]) (st' := [.int (iI e), .ref h.length]) rfl rfl ?_
    refine go_a (pc' := 60) (ls' := [some (.ref h.length), some (.int (iI o)), some (.int (iI c)), some (.int (iI fo)), some (.int (iI ca)), some (.int (iI e)), some (.int (iI p)), y7, y8, y9]) (st' := [.ref h.length, .int (iI e), .ref h.length]) rfl rfl ?_
    refine go_get rfl mh_o rfl rfl ?_
    refine go_a (pc' := 65) (ls' := [some (.ref h.length), some (.int (iI o)), some (.int (iI c)), some (.int (iI fo)), some (.int (iI ca)), some (.int (iI e)), some (.int (iI p)), y7, y8, y9]) (st' := [.int (iI ca), .ref (h.length + 2), .int (iI e), .ref h.length]) rfl rfl ?_
    refine mi_ild rfl mh_a2 (by omega) (by omega) (by decide) ?_
    refine go_a (pc' := 68) (ls' := [some (.ref h.length), some (.int (iI o)), some (.int (iI c)), some (.int (iI fo)), some (.int (iI ca)), some (.int (iI e)), some (.int (iI p)), y7, y8, y9]) (st' := [.int (iI p), .int (iI (A1 2 ca)), .int (iI e), .ref h.length]) rfl rfl ?_
    refine go_a (pc' := 69) (ls' := [some (.ref h.length), some (.int (iI o)), some (.int (iI c)), some (.int (iI fo)), some (.int (iI ca)), some (.int (iI e)), some (.int (iI p)), y7, y8, y9]) (st' := [.int (iI fo), .int (iI p), .int (iI (A1 2 ca)), .int (iI e), .ref h.length]) rfl rfl ?_
    rw [fca]
    show xx_go (xt_P z) (d + 9) 167 69 [some (.ref h.length), some (.int (iI o)), some (.int (iI c)), some (.int (iI fo)), some (.int (iI ca)), some (.int (iI e)), some (.int (iI p)), y7, y8, y9] [.int (iI fo), .int (iI p), .int (iI (A 2 ca)), .int (iI e), .ref h.length] (mh h R (su I1 67 0) A1 N) _
    refine go_v (m := 168) (as := [.ref h.length, .int (iI e), .int (iI (A 2 ca)), .int (iI p), .int (iI fo)]) (r := []) rfl rfl rfl mh_o rfl rfl (mm_inductionRow z d m ar ft fn e (A 2 ca) p fo h R (su I1 67 0) A1 N hc R2.2.1 e0 (show e < I1 32 by omega) (by rw [f21]; exact em) p0 (by omega) qc.2.2.1 (show _ < I1 7 by omega) (isL_extB hP X.1 m (A 2 ca) qc.2.2.1 (by omega) hL) VJ (by rw [f20]; exact T1) q0 (show fo < I1 7 by omega) (by rw [tf]; exact q2) (by rw [tf]; exact q3) DR_00 (by rw [f39, te, tf]; show I1 7 + 240 + _ + 250 ≤ _; omega) T2 K2 (fun k a b => by rw [f40]; rw [f41] at b; exact t1 _ (rkp k a b).1 (rkp k a b).2 (hrp.1 k a b)) (by rw [f39]; exact t1 _ hp.1.1.1 hp.1.1.2 hrp.2) (t1 _ q0 q1 hs) (by rw [f20, d1 _ fb.1 fb.2]; exact ff) (by rw [f20]; exact fq)) (fun v h1 hq => ?_)
    obtain ⟨rfl, I3, A3, S3, V3, rfl, X3, D3, H3⟩ := hq
    rw [f39, te, tf] at X3
    show xx_go (xt_P z) (d + 9) 167 72 [some (.ref h.length), some (.int (iI o)), some (.int (iI c)), some (.int (iI fo)), some (.int (iI ca)), some (.int (iI e)), some (.int (iI p)), y7, y8, y9] [] (mh h R I3 A3 N) _
    have X03 := RZ_tr (e := 240 * p + TZ A ar fo * SG (TZ A ar) (A 39) p.toNat + (240 + TZ A ar fo * TZ A ar (A 39 p))) X (RZ_tr R2 X3 (Int.le_refl _)) (by omega)
    have P3 := RZ_P X03
    refine go_a (pc' := 73) (ls' := [some (.ref h.length), some (.int (iI o)), some (.int (iI c)), some (.int (iI fo)), some (.int (iI ca)), some (.int (iI e)), some (.int (iI p)), y7, y8, y9]) (st' := [.ref h.length]) rfl rfl ?_
    refine go_v (m := 170) (as := [.ref h.length]) (r := []) rfl rfl rfl mh_o rfl rfl (mm_bounded z (d + 5) ar h R I3 A3 N hc P3 X3.2.1.1.2.2 S3 V3 (DR_w D3 (by decide) (Int.le_refl _) (Int.le_refl _)) X3.2.1.2.2.2.2.1 X3.2.1.2.2.2.2.2) (fun v h1 hq => ?_)
    obtain ⟨rfl, I4, rfl, f4, u4, n4, a4, bb4⟩ := hq
    show xx_go (xt_P z) (d + 9) 167 76 [some (.ref h.length), some (.int (iI o)), some (.int (iI c)), some (.int (iI fo)), some (.int (iI ca)), some (.int (iI e)), some (.int (iI p)), y7, y8, y9] [] (mh h R I4 A3 N) _
    have b4 : BX (fun j => j = 49) NO I3 A3 N I4 A3 N := BX_of X03.2.1.1.1 (fun j q => f4 j q) (fun a _ => rfl) (f4 7 (by decide)) (f4 10 (by decide)) rfl rfl rfl rfl rfl rfl rfl rfl
    have R4 : RZ FNN GNN ar 0 I3 A3 N I4 A3 N := RZ_of X03.2.1 b4 (fun j q => by subst q; unfold FNN FE; omega) (fun a q => absurd q (fun z => z)) FNN_FQ GNN_GQ (SZI_124 (A := A3) (A1 := A3) X03.2.1.1.2.2 rfl rfl rfl (f4 7 (by decide))) (f4 54 (by decide)) (f4 56 (by decide)) u4 (by rw [f4 7 (by decide)]; omega) n4
    have X04 := RZ_tr X03 R4 (Int.le_refl _)
    have P4 := RZ_P X04
    have C4 := CLA_RU hP (RZ_RU X04 FNN_FC GNN_GC) (hC p p0 (by omega))
    have e67 : I4 67 = I3 67 := f4 67 (by decide)
    have d3 := D3.1
    have c4 := C4.1
    have T3 : TRX I3 A3 N := TRX_BX hB.1.1 hB.1.2.1 hX X03.1 (by unfold FNN FE; omega) (by unfold GNN GE; omega) (by unfold GNN GE; omega)
    have d3x : ∀ x : Int, 0 ≤ x → x < I 7 → DM A3 N x = DM A N x := fun x x0 x1 => DM_BX hB.1.1 hX X03.1 (by unfold FNN FE; omega) (by unfold GNN GE; omega) (by unfold GNN GE; omega) x0 x1
    obtain ⟨its, hI3, hm3⟩ := H3 (Or.inl ⟨(show I1 49 = 0 by omega), rfl⟩)
    have ev : VsP A1 N e m = VsP A N e m := VsP_BX hB.1.1 hX X.1 (by unfold FNN FE; omega) (by unfold GNN GE; omega) (by unfold GNN GE; omega) (by unfold GNN GE; omega) (fun k a b => (De.2.2.1 k a (by omega)).1)
    have eo := OsP_BX hB.1.1 hX X.1 (by unfold FNN FE; omega) (by unfold GNN GE; omega) (by unfold GNN GE; omega) qc.2.2.1 (by omega) hL
    rw [ev, eo.1, eo.2, f41, f39, d1 _ q0 q1, d1 _ hp.1.1.1 hp.1.1.2, itR_BX hB.1.1 hX X.1 (by unfold FNN FE; omega) (by unfold GNN GE; omega) (by unfold GNN GE; omega) (by unfold GNN GE; omega) rkp] at hm3
    have re := row_end (I4 := I4) (jts := (itP fn (VsP A N e m) (VlP A N (A 2 ca) m) (OsP A N (A 2 ca) m) (DM A N fo) A N p)) X03.2.1 T3 D3 hI3 hm3 n4 a4 bb4
    have g50 : A3 50 = A 50 := X03.1.2.2.2.2 50 (by decide) (by decide) (by decide) (by decide) (by decide) (by decide) (by unfold GNN GE; omega)
    have g51 : A3 51 = A 51 := X03.1.2.2.2.2 51 (by decide) (by decide) (by decide) (by decide) (by decide) (by decide) (by unfold GNN GE; omega)
    have e674 : I4 67 = I3 67 := f4 67 (by decide)
    have cl := hC p p0 (by omega)
    have x73 := X03.1.2.1
    have hyes : (ALI A3 I4 (c + p) (A3 51 (c + p)) ∨ ¬ I4 49 = 0) → IDP (ROK fn (VsP A N e m) (VlP A N (A 2 ca) m) (OsP A N (A 2 ca) m) (DM A N fo) A N c) (I4 49) (p + 1) (I 71) := fun hk => by
      rcases re with ⟨w, E, cz, hE⟩ | ⟨w, cz⟩
      · refine IDP_s hj (by omega) w ⟨E, cz, fun k k0 k1 => ?_⟩
        have b := (cl.2.1 k k0 k1).1
        rcases hk with hk | hk
        · have q := hk k k0 (by rw [g51]; exact k1)
          rw [g50, e674] at q
          rw [← d3x _ b.1 b.2]
          exact (hE _ b.1 (by omega)).mpr q
        · exact absurd w hk
      · refine IDP_no w p0 (by omega) (fun ⟨E, q, _⟩ => ?_)
        rw [cz] at q
        cases q
    have hno : NLI A3 I4 (c + p) (A3 51 (c + p)) → I4 49 = 0 → ¬ (ROK fn (VsP A N e m) (VlP A N (A 2 ca) m) (OsP A N (A 2 ca) m) (DM A N fo) A N c) p := fun ⟨k, hk, nk⟩ w ⟨E2, q, hq2⟩ => by
      rcases re with ⟨-, E, cz, hE⟩ | ⟨w2, cz⟩
      · have ee : some E = some E2 := cz.symm.trans q
        injection ee with ee
        rw [g51] at hk
        have b := (cl.2.1 k hk.1 hk.2).1
        have m9 := hq2 k hk.1 hk.2
        rw [← ee, ← d3x _ b.1 b.2] at m9
        refine nk ?_
        rw [g50, e674]
        exact (hE _ b.1 (by omega)).mp m9
      · exact w2 w
    clear re hm3 hI3 H3
    refine go_a (pc' := 77) (ls' := [some (.ref h.length), some (.int (iI o)), some (.int (iI c)), some (.int (iI fo)), some (.int (iI ca)), some (.int (iI e)), some (.int (iI p)), y7, y8, y9]) (st' := [.int (iI 0)]) rfl rfl ?_
    refine go_a (pc' := 79) (ls' := [some (.ref h.length), some (.int (iI o)), some (.int (iI c)), some (.int (iI fo)), some (.int (iI ca)), some (.int (iI e)), some (.int (iI p)), some (.int (iI 0)), y8, y9]) (st' := []) rfl rfl ?_
    show xx_go (xt_P z) (d + 9) 167 79 [some (.ref h.length), some (.int (iI o)), some (.int (iI c)), some (.int (iI fo)), some (.int (iI ca)), some (.int (iI e)), some (.int (iI p)), some (.int (iI 0)), y8, y9] [] (mh h R I4 A3 N) _
    refine mm_ind_i z (d + 9) ar o c fo ca e p h R I4 A3 N hc (by omega) (fun k a b => by have := (D3.2.1 k a (by omega)).1; have := P3.1; omega) (by omega) (by omega) C4 P4.1 u4.1 u4.2 _ (fun k y8 y9 hk => ?_) (fun k b j hn9 hw9 => ?_) (A3 51 (c + p)).toNat 0 y8 y9 (by omega) (Int.le_refl _) c4.1 ALI_0
    · refine go_a (pc' := 174) (ls' := [some (.ref h.length), some (.int (iI o)), some (.int (iI c)), some (.int (iI fo)), some (.int (iI ca)), some (.int (iI e)), some (.int (iI (p + 1))), some (.int (iI k)), y8, y9]) (st' := []) rfl (by rw [← iI_add p 1]; rfl) ?_
      refine go_a (pc' := 35) (ls' := [some (.ref h.length), some (.int (iI o)), some (.int (iI c)), some (.int (iI fo)), some (.int (iI ca)), some (.int (iI e)), some (.int (iI (p + 1))), some (.int (iI k)), y8, y9]) (st' := []) rfl rfl ?_
      exact ih (p + 1) I4 A3 _ _ _ (by omega) (by omega) (by omega) (RZ_w X04 (by rw [sk, me]; omega)) (hyes hk)
    · refine go_a (pc' := 164) (ls' := [some (.ref h.length), some (.int (iI o)), some (.int (iI c)), some (.int (iI fo)), some (.int (iI ca)), some (.int (iI e)), some (.int (iI p)), some (.int (iI k)), some (.int (iI b)), some (.int (iI j))]) (st' := [.int (iI 0)]) rfl rfl ?_
      exact go_r rfl rfl rfl rfl rfl rfl ⟨0, I4, A3, rfl, rfl, RZ_RU (RZ_w X04 (by omega)) FNN_FC GNN_GC, Or.inl ⟨rfl, p, ⟨p0, by omega⟩, hno hn9 hw9⟩⟩

