def KPS (c : Nat) (hp : xx_H) (s : KS) (NM : Int → Int) : Prop := KI c hp s ∧ KB s ∧ CI s ∧ OC hp ∧ BF c hp s (s.I 8) NM ∧ BT c hp s (s.I 8) ∧ s.I 14 = -1 ∧ s.I 8 ≤ 25000
def KST (c : Nat) (hp : xx_H) (s : KS) (h1 : xx_H) (s1 : KS) (α β γ : Int) : Prop := KI c h1 s1 ∧ KB s1 ∧ CI s1 ∧ PFR s s1 ∧ kx c hp s h1 s1 α β ∧ s1.I 8 ≤ s.I 8 + γ
section STS
variable {c y : Nat} {hp h1 h2 : xx_H} {s s1 s2 : KS} {α β γ a b e α1 β1 γ1 u : Int} {NM : Int → Int}
theorem KST_rf (h : KPS c hp s NM) : KST c hp s hp s 0 0 0 := ⟨h.1, h.2.1, h.2.2.1, PFR_rf, kx_rf, by omega⟩
theorem KST_TF (S : KST c hp s h1 s1 α β γ) (K : KI c h2 s2) (B : KB s2) (F : TF s1 s2) (X : kx c h1 s1 h2 s2 a b) : KST c hp s h2 s2 (α + a) (β + b) γ := ⟨K, B, TF_CI F S.2.2.1, PFR_tr S.2.2.2.1 (TF_P F), kx_tr S.2.2.2.2.1 X, by rw [F.2.2.2 8 (by decide) (by decide)]; exact S.2.2.2.2.2⟩
theorem KST_X (S : KST c hp s h1 s1 α β γ) (K : KI c h2 s1) (X : kx c h1 s1 h2 s1 a b) : KST c hp s h2 s1 (α + a) (β + b) γ := ⟨K, S.2.1, S.2.2.1, S.2.2.2.1, kx_tr S.2.2.2.2.1 X, S.2.2.2.2.2⟩
theorem KST_tr (S : KST c hp s h1 s1 α β γ) (T : KST c h1 s1 h2 s2 a b e) : KST c hp s h2 s2 (α + a) (β + b) (γ + e) := ⟨T.1, T.2.1, T.2.2.1, PFR_tr S.2.2.2.1 T.2.2.2.1, kx_tr S.2.2.2.2.1 T.2.2.2.2.1, by have := S.2.2.2.2.2; have := T.2.2.2.2.2; omega⟩
theorem KST_fe (S : KST c hp s h1 s1 α β γ) (C : CL c h1 s1 u y e) (hy : hp.length ≤ y) (F : KFE y h1 h2) : KST c hp s h2 s1 α β γ := ⟨CL_KI C F S.1, S.2.1, S.2.2.1, S.2.2.2.1, KFE_kx S.2.2.2.2.1 hy F, S.2.2.2.2.2⟩
theorem KST_w (S : KST c hp s h1 s1 α β γ) (h1' : α ≤ α1) (h2' : β ≤ β1) (h3' : γ ≤ γ1) : KST c hp s h1 s1 α1 β1 γ1 := ⟨S.1, S.2.1, S.2.2.1, S.2.2.2.1, kx_w S.2.2.2.2.1 h1' h2', by have := S.2.2.2.2.2; omega⟩
theorem KST_PS (h : KPS c hp s NM) (S : KST c hp s h1 s1 α β γ) (l : s.I 8 + γ ≤ 25000) : KPS c h1 s1 NM := by
  obtain ⟨a1, a2, a3, a4, a5, a6, a7, a8⟩ := h
  obtain ⟨b1, b2, b3, b4, b5, b6⟩ := S
  have i := fun j p q r t u w => b4.2.2.1 j p q r t u w
  refine ⟨b1, b2, b3, OC_kx a4 b5, BF_kx a5 b5 b4.2.2.2.1 (i 27 (by decide) (by decide) (by decide) (by decide) (by decide) (by decide)) (by rw [b4.1]), BT_kx a6 b5 b4.2.2.2.1 (i 28 (by decide) (by decide) (by decide) (by decide) (by decide) (by decide)) (by rw [b4.1]), ?_, by omega⟩
  rw [i 14 (by decide) (by decide) (by decide) (by decide) (by decide) (by decide)]
  exact a7
theorem KST_wI {j : Nat} {x : Int} (S : KST c hp s h1 s1 α β γ) (hj : 17 ≤ j ∧ j ≤ 19) (K : KI c h2 (s1.wI j x)) (X : kx c h1 s1 h2 (s1.wI j x) 0 0) (x0 : -2147483648 ≤ x) (x1 : x ≤ 2147483647) : KST c hp s h2 (s1.wI j x) α β γ := by
  have e8 : (s1.wI j x).I 8 = s1.I 8 := su_ne (by omega)
  refine ⟨K, KB_wF S.2.1 x0 x1 (by omega), KSA_CI (s := s1) ⟨rfl, rfl, e8⟩ S.2.2.1, PFR_tr S.2.2.2.1 (PFR_wI hj), kx_w (kx_tr S.2.2.2.2.1 X) (by omega) (by omega), by rw [e8]; exact S.2.2.2.2.2⟩
theorem KST_TM {n : Int} {f : Int → Int} {a0 : Nat} (S : KST c hp s h1 s1 α β γ) (T : TM c hp s u a0 n f) : TM c h1 s1 u a0 n f := TM_kx T S.2.2.2.2.1
end STS
theorem kq_failBy (z : Value) (d c : Nat) (x : Int) (hp : xx_H) (s : KS) (hK : KI c hp s) : xx_cl (xt_P z) (d + 1) 246 [.ref (c + 30), .int (iI x)] hp (fun v h1 => v = some .null ∧ KI c h1 (s.wI 18 x) ∧ kx c hp s h1 (s.wI 18 x) 0 0) := by
  have hX := kx_rf (c := c) (hp := hp) (s := s)
  refine cl_go rfl ?_
  show xx_go (xt_P z) d 246 0 [some (.ref (c + 30)), some (.int (iI x))] [] hp _
  refine go_a (pc' := 1) (ls' := [some (.ref (c + 30)), some (.int (iI x))]) (st' := [.ref (c + 30)]) rfl rfl ?_
  refine go_a (pc' := 2) (ls' := [some (.ref (c + 30)), some (.int (iI x))]) (st' := [.int (iI x), .ref (c + 30)]) rfl rfl ?_
  refine kput_18 (x := x) hK hX rfl rfl (fun hp1 hK hX => ?_)
  refine go_a (pc' := 6) (ls' := [some (.ref (c + 30)), some (.int (iI x))]) (st' := [.null]) rfl rfl ?_
  exact go_r rfl rfl rfl rfl rfl rfl ⟨rfl, hK, hX⟩
theorem kq_failAt (z : Value) (d c : Nat) (x : Int) (hp : xx_H) (s : KS) (hK : KI c hp s) : xx_cl (xt_P z) (d + 1) 248 [.ref (c + 30), .int (iI x)] hp (fun v h1 => v = some .null ∧ KI c h1 (s.wI 19 x) ∧ kx c hp s h1 (s.wI 19 x) 0 0) := by
  have hX := kx_rf (c := c) (hp := hp) (s := s)
  refine cl_go rfl ?_
  show xx_go (xt_P z) d 248 0 [some (.ref (c + 30)), some (.int (iI x))] [] hp _
  refine go_a (pc' := 1) (ls' := [some (.ref (c + 30)), some (.int (iI x))]) (st' := [.ref (c + 30)]) rfl rfl ?_
  refine go_a (pc' := 2) (ls' := [some (.ref (c + 30)), some (.int (iI x))]) (st' := [.int (iI x), .ref (c + 30)]) rfl rfl ?_
  refine kput_19 (x := x) hK hX rfl rfl (fun hp1 hK hX => ?_)
  refine go_a (pc' := 6) (ls' := [some (.ref (c + 30)), some (.int (iI x))]) (st' := [.null]) rfl rfl ?_
  exact go_r rfl rfl rfl rfl rfl rfl ⟨rfl, hK, hX⟩
theorem kq_finished (z : Value) (d c : Nat) (hp : xx_H) (s : KS) (u : Int) (x : Nat) (b : Int) (hK : KI c hp s) (hC : CL c hp s u x b) : xx_cl (xt_P z) (d + 2) 265 [.ref (c + 30), .ref x] hp (fun v h1 => (v = some .null ∧ KI c h1 (s.wI 18 4) ∧ kx c hp s h1 (s.wI 18 4) 0 0) ∨ (v = some (.ref x) ∧ b = 0 ∧ h1 = hp)) := by
  obtain ⟨m, w, O, nO, fO, hC⟩ := hC
  refine cl_go rfl ?_
  show xx_go (xt_P z) (d + 1) 265 0 [some (.ref (c + 30)), some (.ref x)] [] hp _
  refine go_a (pc' := 1) (ls' := [some (.ref (c + 30)), some (.ref x)]) (st' := [.ref x]) rfl rfl ?_
  refine go_v (m := 266) (as := [.ref x]) (r := []) rfl rfl rfl hC.1 rfl rfl (kh_isTooBig z d c hp s u x m w b O nO fO hC) (fun v h3 hq => ?_)
  obtain ⟨rfl, e9⟩ := hq
  rw [e9]
  clear e9 h3
  show xx_go (xt_P z) (d + 1) 265 4 [some (.ref (c + 30)), some (.ref x)] [.int (iI b)] hp _
  have b01 := hC.2.2.2.2.2.1
  refine mi_eq0 (t := 15) rfl rfl (by omega) (by omega) (fun w1 => ?_) (fun w1 => ?_)
  · refine go_a (pc' := 16) (ls' := [some (.ref (c + 30)), some (.ref x)]) (st' := [.ref x]) rfl rfl ?_
    exact go_r rfl rfl rfl rfl rfl rfl (Or.inr ⟨rfl, w1, rfl⟩)
  · refine go_a (pc' := 8) (ls' := [some (.ref (c + 30)), some (.ref x)]) (st' := [.ref (c + 30)]) rfl rfl ?_
    refine go_a (pc' := 9) (ls' := [some (.ref (c + 30)), some (.ref x)]) (st' := [.int (iI 4), .ref (c + 30)]) rfl rfl ?_
    refine go_v (m := 246) (as := [.ref (c + 30), .int (iI 4)]) (r := []) rfl rfl rfl (hK.1 19 (by decide)) rfl rfl (kq_failBy z d c 4 hp s hK) (fun v h3 hq => ?_)
    obtain ⟨rfl, K1, X1⟩ := hq
    show xx_go (xt_P z) (d + 1) 265 12 [some (.ref (c + 30)), some (.ref x)] [.null] h3 _
    refine go_a (pc' := 16) (ls' := [some (.ref (c + 30)), some (.ref x)]) (st' := [.null]) rfl rfl ?_
    exact go_r rfl rfl rfl rfl rfl rfl (Or.inl ⟨rfl, K1, X1⟩)
theorem kq_truth (z : Value) (d : Nat) (x : Int) (hp : xx_H) (x0 : -2147483648 ≤ x) (x1 : x ≤ 2147483647) : xx_cl (xt_P z) (d + 1) 254 [.int (iI x)] hp (fun v h1 => (∃ y : Int, v = some (.int (iI y)) ∧ (y = 0 ∨ y = 1)) ∧ h1 = hp) := by
  refine cl_go rfl ?_
  show xx_go (xt_P z) d 254 0 [some (.int (iI x))] [] hp _
  refine go_a (pc' := 1) (ls' := [some (.int (iI x))]) (st' := [.int (iI x)]) rfl rfl ?_
  refine mi_eq0 (t := 8) rfl rfl (by omega) (by omega) (fun w1 => ?_) (fun w1 => ?_)
  · refine go_a (pc' := 9) (ls' := [some (.int (iI x))]) (st' := [.int (iI 0)]) rfl rfl ?_
    exact go_r rfl rfl rfl rfl rfl rfl ⟨⟨0, rfl, Or.inl rfl⟩, rfl⟩
  · refine go_a (pc' := 5) (ls' := [some (.int (iI x))]) (st' := [.int (iI 1)]) rfl rfl ?_
    refine go_a (pc' := 9) (ls' := [some (.int (iI x))]) (st' := [.int (iI 1)]) rfl rfl ?_
    exact go_r rfl rfl rfl rfl rfl rfl ⟨⟨1, rfl, Or.inr rfl⟩, rfl⟩
def LOF (r l : Int) : Prop := (r = 34 → 2 ≤ l) ∧ (r = 37 → 3 ≤ l) ∧ ((r = 28 ∨ r = 29 ∨ r = 33) → l = 4) ∧ ((r = 25 ∨ r = 26 ∨ r = 27 ∨ r = 32 ∨ r = 36) → l = 3) ∧ ((r = 22 ∨ r = 23 ∨ r = 24 ∨ r = 30 ∨ r = 31 ∨ r = 35) → l = 2)
theorem kq_isLengthOf (z : Value) (d : Nat) (r l : Int) (hp : xx_H) (r0 : 22 ≤ r) (r1 : r ≤ 37) (l0 : -1 ≤ l) (l1 : l ≤ 140000) : xx_cl (xt_P z) (d + 1) 247 [.int (iI r), .int (iI l)] hp (fun v h1 => ((v = some (.int (iI 1)) ∧ LOF r l) ∨ v = some (.int (iI 0))) ∧ h1 = hp) := by
  have hr : r = 22 ∨ r = 23 ∨ r = 24 ∨ r = 25 ∨ r = 26 ∨ r = 27 ∨ r = 28 ∨ r = 29 ∨ r = 30 ∨ r = 31 ∨ r = 32 ∨ r = 33 ∨ r = 34 ∨ r = 35 ∨ r = 36 ∨ r = 37 := by omega
  rcases hr with rfl | rfl | rfl | rfl | rfl | rfl | rfl | rfl | rfl | rfl | rfl | rfl | rfl | rfl | rfl | rfl
  · refine cl_go rfl ?_
    show xx_go (xt_P z) d 247 0 [some (.int (iI 22)), some (.int (iI l))] [] hp _
    refine go_a (pc' := 1) (ls' := [some (.int (iI 22)), some (.int (iI l))]) (st' := [.int (iI 22)]) rfl rfl ?_
    refine go_a (pc' := 112) (ls' := [some (.int (iI 22)), some (.int (iI l))]) (st' := []) rfl rfl ?_
    refine go_a (pc' := 113) (ls' := [some (.int (iI 22)), some (.int (iI l))]) (st' := [.int (iI l)]) rfl rfl ?_
    refine go_a (pc' := 114) (ls' := [some (.int (iI 22)), some (.int (iI l))]) (st' := [.int (iI 2), .int (iI l)]) rfl rfl ?_
    refine mi_ne (t := 121) rfl rfl (by omega) (by omega) (by omega) (by omega) (fun w1 => ?_) (fun w1 => ?_)
    · refine go_a (pc' := 122) (ls' := [some (.int (iI 22)), some (.int (iI l))]) (st' := [.int (iI 0)]) rfl rfl ?_
      exact go_r rfl rfl rfl rfl rfl rfl ⟨Or.inr rfl, rfl⟩
    · refine go_a (pc' := 118) (ls' := [some (.int (iI 22)), some (.int (iI l))]) (st' := [.int (iI 1)]) rfl rfl ?_
      refine go_a (pc' := 122) (ls' := [some (.int (iI 22)), some (.int (iI l))]) (st' := [.int (iI 1)]) rfl rfl ?_
      exact go_r rfl rfl rfl rfl rfl rfl ⟨Or.inl ⟨rfl, by unfold LOF; omega⟩, rfl⟩
  · refine cl_go rfl ?_
    show xx_go (xt_P z) d 247 0 [some (.int (iI 23)), some (.int (iI l))] [] hp _
    refine go_a (pc' := 1) (ls' := [some (.int (iI 23)), some (.int (iI l))]) (st' := [.int (iI 23)]) rfl rfl ?_
    refine go_a (pc' := 112) (ls' := [some (.int (iI 23)), some (.int (iI l))]) (st' := []) rfl rfl ?_
    refine go_a (pc' := 113) (ls' := [some (.int (iI 23)), some (.int (iI l))]) (st' := [.int (iI l)]) rfl rfl ?_
    refine go_a (pc' := 114) (ls' := [some (.int (iI 23)), some (.int (iI l))]) (st' := [.int (iI 2), .int (iI l)]) rfl rfl ?_
    refine mi_ne (t := 121) rfl rfl (by omega) (by omega) (by omega) (by omega) (fun w1 => ?_) (fun w1 => ?_)
    · refine go_a (pc' := 122) (ls' := [some (.int (iI 23)), some (.int (iI l))]) (st' := [.int (iI 0)]) rfl rfl ?_
      exact go_r rfl rfl rfl rfl rfl rfl ⟨Or.inr rfl, rfl⟩
    · refine go_a (pc' := 118) (ls' := [some (.int (iI 23)), some (.int (iI l))]) (st' := [.int (iI 1)]) rfl rfl ?_
      refine go_a (pc' := 122) (ls' := [some (.int (iI 23)), some (.int (iI l))]) (st' := [.int (iI 1)]) rfl rfl ?_
      exact go_r rfl rfl rfl rfl rfl rfl ⟨Or.inl ⟨rfl, by unfold LOF; omega⟩, rfl⟩
  · refine cl_go rfl ?_
    show xx_go (xt_P z) d 247 0 [some (.int (iI 24)), some (.int (iI l))] [] hp _
    refine go_a (pc' := 1) (ls' := [some (.int (iI 24)), some (.int (iI l))]) (st' := [.int (iI 24)]) rfl rfl ?_
    refine go_a (pc' := 112) (ls' := [some (.int (iI 24)), some (.int (iI l))]) (st' := []) rfl rfl ?_
    refine go_a (pc' := 113) (ls' := [some (.int (iI 24)), some (.int (iI l))]) (st' := [.int (iI l)]) rfl rfl ?_
    refine go_a (pc' := 114) (ls' := [some (.int (iI 24)), some (.int (iI l))]) (st' := [.int (iI 2), .int (iI l)]) rfl rfl ?_
    refine mi_ne (t := 121) rfl rfl (by omega) (by omega) (by omega) (by omega) (fun w1 => ?_) (fun w1 => ?_)
    · refine go_a (pc' := 122) (ls' := [some (.int (iI 24)), some (.int (iI l))]) (st' := [.int (iI 0)]) rfl rfl ?_
      exact go_r rfl rfl rfl rfl rfl rfl ⟨Or.inr rfl, rfl⟩
    · refine go_a (pc' := 118) (ls' := [some (.int (iI 24)), some (.int (iI l))]) (st' := [.int (iI 1)]) rfl rfl ?_
      refine go_a (pc' := 122) (ls' := [some (.int (iI 24)), some (.int (iI l))]) (st' := [.int (iI 1)]) rfl rfl ?_
      exact go_r rfl rfl rfl rfl rfl rfl ⟨Or.inl ⟨rfl, by unfold LOF; omega⟩, rfl⟩
  · refine cl_go rfl ?_
    show xx_go (xt_P z) d 247 0 [some (.int (iI 25)), some (.int (iI l))] [] hp _
    refine go_a (pc' := 1) (ls' := [some (.int (iI 25)), some (.int (iI l))]) (st' := [.int (iI 25)]) rfl rfl ?_
    refine go_a (pc' := 101) (ls' := [some (.int (iI 25)), some (.int (iI l))]) (st' := []) rfl rfl ?_
    refine go_a (pc' := 102) (ls' := [some (.int (iI 25)), some (.int (iI l))]) (st' := [.int (iI l)]) rfl rfl ?_
    refine go_a (pc' := 103) (ls' := [some (.int (iI 25)), some (.int (iI l))]) (st' := [.int (iI 3), .int (iI l)]) rfl rfl ?_
    refine mi_ne (t := 110) rfl rfl (by omega) (by omega) (by omega) (by omega) (fun w1 => ?_) (fun w1 => ?_)
    · refine go_a (pc' := 111) (ls' := [some (.int (iI 25)), some (.int (iI l))]) (st' := [.int (iI 0)]) rfl rfl ?_
      exact go_r rfl rfl rfl rfl rfl rfl ⟨Or.inr rfl, rfl⟩
    · refine go_a (pc' := 107) (ls' := [some (.int (iI 25)), some (.int (iI l))]) (st' := [.int (iI 1)]) rfl rfl ?_
      refine go_a (pc' := 111) (ls' := [some (.int (iI 25)), some (.int (iI l))]) (st' := [.int (iI 1)]) rfl rfl ?_
      exact go_r rfl rfl rfl rfl rfl rfl ⟨Or.inl ⟨rfl, by unfold LOF; omega⟩, rfl⟩
  · refine cl_go rfl ?_
    show xx_go (xt_P z) d 247 0 [some (.int (iI 26)), some (.int (iI l))] [] hp _
    refine go_a (pc' := 1) (ls' := [some (.int (iI 26)), some (.int (iI l))]) (st' := [.int (iI 26)]) rfl rfl ?_
    refine go_a (pc' := 101) (ls' := [some (.int (iI 26)), some (.int (iI l))]) (st' := []) rfl rfl ?_
    refine go_a (pc' := 102) (ls' := [some (.int (iI 26)), some (.int (iI l))]) (st' := [.int (iI l)]) rfl rfl ?_
    refine go_a (pc' := 103) (ls' := [some (.int (iI 26)), some (.int (iI l))]) (st' := [.int (iI 3), .int (iI l)]) rfl rfl ?_
    refine mi_ne (t := 110) rfl rfl (by omega) (by omega) (by omega) (by omega) (fun w1 => ?_) (fun w1 => ?_)
    · refine go_a (pc' := 111) (ls' := [some (.int (iI 26)), some (.int (iI l))]) (st' := [.int (iI 0)]) rfl rfl ?_
      exact go_r rfl rfl rfl rfl rfl rfl ⟨Or.inr rfl, rfl⟩
    · refine go_a (pc' := 107) (ls' := [some (.int (iI 26)), some (.int (iI l))]) (st' := [.int (iI 1)]) rfl rfl ?_
      refine go_a (pc' := 111) (ls' := [some (.int (iI 26)), some (.int (iI l))]) (st' := [.int (iI 1)]) rfl rfl ?_
      exact go_r rfl rfl rfl rfl rfl rfl ⟨Or.inl ⟨rfl, by unfold LOF; omega⟩, rfl⟩
  · refine cl_go rfl ?_
    show xx_go (xt_P z) d 247 0 [some (.int (iI 27)), some (.int (iI l))] [] hp _
    refine go_a (pc' := 1) (ls' := [some (.int (iI 27)), some (.int (iI l))]) (st' := [.int (iI 27)]) rfl rfl ?_
    refine go_a (pc' := 101) (ls' := [some (.int (iI 27)), some (.int (iI l))]) (st' := []) rfl rfl ?_
    refine go_a (pc' := 102) (ls' := [some (.int (iI 27)), some (.int (iI l))]) (st' := [.int (iI l)]) rfl rfl ?_
    refine go_a (pc' := 103) (ls' := [some (.int (iI 27)), some (.int (iI l))]) (st' := [.int (iI 3), .int (iI l)]) rfl rfl ?_
    refine mi_ne (t := 110) rfl rfl (by omega) (by omega) (by omega) (by omega) (fun w1 => ?_) (fun w1 => ?_)
    · refine go_a (pc' := 111) (ls' := [some (.int (iI 27)), some (.int (iI l))]) (st' := [.int (iI 0)]) rfl rfl ?_
      exact go_r rfl rfl rfl rfl rfl rfl ⟨Or.inr rfl, rfl⟩
    · refine go_a (pc' := 107) (ls' := [some (.int (iI 27)), some (.int (iI l))]) (st' := [.int (iI 1)]) rfl rfl ?_
      refine go_a (pc' := 111) (ls' := [some (.int (iI 27)), some (.int (iI l))]) (st' := [.int (iI 1)]) rfl rfl ?_
      exact go_r rfl rfl rfl rfl rfl rfl ⟨Or.inl ⟨rfl, by unfold LOF; omega⟩, rfl⟩
  · refine cl_go rfl ?_
    show xx_go (xt_P z) d 247 0 [some (.int (iI 28)), some (.int (iI l))] [] hp _
    refine go_a (pc' := 1) (ls' := [some (.int (iI 28)), some (.int (iI l))]) (st' := [.int (iI 28)]) rfl rfl ?_
    refine go_a (pc' := 90) (ls' := [some (.int (iI 28)), some (.int (iI l))]) (st' := []) rfl rfl ?_
    refine go_a (pc' := 91) (ls' := [some (.int (iI 28)), some (.int (iI l))]) (st' := [.int (iI l)]) rfl rfl ?_
    refine go_a (pc' := 92) (ls' := [some (.int (iI 28)), some (.int (iI l))]) (st' := [.int (iI 4), .int (iI l)]) rfl rfl ?_
    refine mi_ne (t := 99) rfl rfl (by omega) (by omega) (by omega) (by omega) (fun w1 => ?_) (fun w1 => ?_)
    · refine go_a (pc' := 100) (ls' := [some (.int (iI 28)), some (.int (iI l))]) (st' := [.int (iI 0)]) rfl rfl ?_
      exact go_r rfl rfl rfl rfl rfl rfl ⟨Or.inr rfl, rfl⟩
    · refine go_a (pc' := 96) (ls' := [some (.int (iI 28)), some (.int (iI l))]) (st' := [.int (iI 1)]) rfl rfl ?_
      refine go_a (pc' := 100) (ls' := [some (.int (iI 28)), some (.int (iI l))]) (st' := [.int (iI 1)]) rfl rfl ?_
      exact go_r rfl rfl rfl rfl rfl rfl ⟨Or.inl ⟨rfl, by unfold LOF; omega⟩, rfl⟩
  · refine cl_go rfl ?_
    show xx_go (xt_P z) d 247 0 [some (.int (iI 29)), some (.int (iI l))] [] hp _
    refine go_a (pc' := 1) (ls' := [some (.int (iI 29)), some (.int (iI l))]) (st' := [.int (iI 29)]) rfl rfl ?_
    refine go_a (pc' := 90) (ls' := [some (.int (iI 29)), some (.int (iI l))]) (st' := []) rfl rfl ?_
    refine go_a (pc' := 91) (ls' := [some (.int (iI 29)), some (.int (iI l))]) (st' := [.int (iI l)]) rfl rfl ?_
    refine go_a (pc' := 92) (ls' := [some (.int (iI 29)), some (.int (iI l))]) (st' := [.int (iI 4), .int (iI l)]) rfl rfl ?_
    refine mi_ne (t := 99) rfl rfl (by omega) (by omega) (by omega) (by omega) (fun w1 => ?_) (fun w1 => ?_)
    · refine go_a (pc' := 100) (ls' := [some (.int (iI 29)), some (.int (iI l))]) (st' := [.int (iI 0)]) rfl rfl ?_
      exact go_r rfl rfl rfl rfl rfl rfl ⟨Or.inr rfl, rfl⟩
    · refine go_a (pc' := 96) (ls' := [some (.int (iI 29)), some (.int (iI l))]) (st' := [.int (iI 1)]) rfl rfl ?_
      refine go_a (pc' := 100) (ls' := [some (.int (iI 29)), some (.int (iI l))]) (st' := [.int (iI 1)]) rfl rfl ?_
      exact go_r rfl rfl rfl rfl rfl rfl ⟨Or.inl ⟨rfl, by unfold LOF; omega⟩, rfl⟩
  · refine cl_go rfl ?_
    show xx_go (xt_P z) d 247 0 [some (.int (iI 30)), some (.int (iI l))] [] hp _
    refine go_a (pc' := 1) (ls' := [some (.int (iI 30)), some (.int (iI l))]) (st' := [.int (iI 30)]) rfl rfl ?_
    refine go_a (pc' := 112) (ls' := [some (.int (iI 30)), some (.int (iI l))]) (st' := []) rfl rfl ?_
    refine go_a (pc' := 113) (ls' := [some (.int (iI 30)), some (.int (iI l))]) (st' := [.int (iI l)]) rfl rfl ?_
    refine go_a (pc' := 114) (ls' := [some (.int (iI 30)), some (.int (iI l))]) (st' := [.int (iI 2), .int (iI l)]) rfl rfl ?_
    refine mi_ne (t := 121) rfl rfl (by omega) (by omega) (by omega) (by omega) (fun w1 => ?_) (fun w1 => ?_)
    · refine go_a (pc' := 122) (ls' := [some (.int (iI 30)), some (.int (iI l))]) (st' := [.int (iI 0)]) rfl rfl ?_
      exact go_r rfl rfl rfl rfl rfl rfl ⟨Or.inr rfl, rfl⟩
    · refine go_a (pc' := 118) (ls' := [some (.int (iI 30)), some (.int (iI l))]) (st' := [.int (iI 1)]) rfl rfl ?_
      refine go_a (pc' := 122) (ls' := [some (.int (iI 30)), some (.int (iI l))]) (st' := [.int (iI 1)]) rfl rfl ?_
      exact go_r rfl rfl rfl rfl rfl rfl ⟨Or.inl ⟨rfl, by unfold LOF; omega⟩, rfl⟩
  · refine cl_go rfl ?_
    show xx_go (xt_P z) d 247 0 [some (.int (iI 31)), some (.int (iI l))] [] hp _
    refine go_a (pc' := 1) (ls' := [some (.int (iI 31)), some (.int (iI l))]) (st' := [.int (iI 31)]) rfl rfl ?_
    refine go_a (pc' := 112) (ls' := [some (.int (iI 31)), some (.int (iI l))]) (st' := []) rfl rfl ?_
    refine go_a (pc' := 113) (ls' := [some (.int (iI 31)), some (.int (iI l))]) (st' := [.int (iI l)]) rfl rfl ?_
    refine go_a (pc' := 114) (ls' := [some (.int (iI 31)), some (.int (iI l))]) (st' := [.int (iI 2), .int (iI l)]) rfl rfl ?_
    refine mi_ne (t := 121) rfl rfl (by omega) (by omega) (by omega) (by omega) (fun w1 => ?_) (fun w1 => ?_)
    · refine go_a (pc' := 122) (ls' := [some (.int (iI 31)), some (.int (iI l))]) (st' := [.int (iI 0)]) rfl rfl ?_
      exact go_r rfl rfl rfl rfl rfl rfl ⟨Or.inr rfl, rfl⟩
    · refine go_a (pc' := 118) (ls' := [some (.int (iI 31)), some (.int (iI l))]) (st' := [.int (iI 1)]) rfl rfl ?_
      refine go_a (pc' := 122) (ls' := [some (.int (iI 31)), some (.int (iI l))]) (st' := [.int (iI 1)]) rfl rfl ?_
      exact go_r rfl rfl rfl rfl rfl rfl ⟨Or.inl ⟨rfl, by unfold LOF; omega⟩, rfl⟩
  · refine cl_go rfl ?_
    show xx_go (xt_P z) d 247 0 [some (.int (iI 32)), some (.int (iI l))] [] hp _
    refine go_a (pc' := 1) (ls' := [some (.int (iI 32)), some (.int (iI l))]) (st' := [.int (iI 32)]) rfl rfl ?_
    refine go_a (pc' := 101) (ls' := [some (.int (iI 32)), some (.int (iI l))]) (st' := []) rfl rfl ?_
    refine go_a (pc' := 102) (ls' := [some (.int (iI 32)), some (.int (iI l))]) (st' := [.int (iI l)]) rfl rfl ?_
    refine go_a (pc' := 103) (ls' := [some (.int (iI 32)), some (.int (iI l))]) (st' := [.int (iI 3), .int (iI l)]) rfl rfl ?_
    refine mi_ne (t := 110) rfl rfl (by omega) (by omega) (by omega) (by omega) (fun w1 => ?_) (fun w1 => ?_)
    · refine go_a (pc' := 111) (ls' := [some (.int (iI 32)), some (.int (iI l))]) (st' := [.int (iI 0)]) rfl rfl ?_
      exact go_r rfl rfl rfl rfl rfl rfl ⟨Or.inr rfl, rfl⟩
    · refine go_a (pc' := 107) (ls' := [some (.int (iI 32)), some (.int (iI l))]) (st' := [.int (iI 1)]) rfl rfl ?_
      refine go_a (pc' := 111) (ls' := [some (.int (iI 32)), some (.int (iI l))]) (st' := [.int (iI 1)]) rfl rfl ?_
      exact go_r rfl rfl rfl rfl rfl rfl ⟨Or.inl ⟨rfl, by unfold LOF; omega⟩, rfl⟩
  · refine cl_go rfl ?_
    show xx_go (xt_P z) d 247 0 [some (.int (iI 33)), some (.int (iI l))] [] hp _
    refine go_a (pc' := 1) (ls' := [some (.int (iI 33)), some (.int (iI l))]) (st' := [.int (iI 33)]) rfl rfl ?_
    refine go_a (pc' := 90) (ls' := [some (.int (iI 33)), some (.int (iI l))]) (st' := []) rfl rfl ?_
    refine go_a (pc' := 91) (ls' := [some (.int (iI 33)), some (.int (iI l))]) (st' := [.int (iI l)]) rfl rfl ?_
    refine go_a (pc' := 92) (ls' := [some (.int (iI 33)), some (.int (iI l))]) (st' := [.int (iI 4), .int (iI l)]) rfl rfl ?_
    refine mi_ne (t := 99) rfl rfl (by omega) (by omega) (by omega) (by omega) (fun w1 => ?_) (fun w1 => ?_)
    · refine go_a (pc' := 100) (ls' := [some (.int (iI 33)), some (.int (iI l))]) (st' := [.int (iI 0)]) rfl rfl ?_
      exact go_r rfl rfl rfl rfl rfl rfl ⟨Or.inr rfl, rfl⟩
    · refine go_a (pc' := 96) (ls' := [some (.int (iI 33)), some (.int (iI l))]) (st' := [.int (iI 1)]) rfl rfl ?_
      refine go_a (pc' := 100) (ls' := [some (.int (iI 33)), some (.int (iI l))]) (st' := [.int (iI 1)]) rfl rfl ?_
      exact go_r rfl rfl rfl rfl rfl rfl ⟨Or.inl ⟨rfl, by unfold LOF; omega⟩, rfl⟩
  · refine cl_go rfl ?_
    show xx_go (xt_P z) d 247 0 [some (.int (iI 34)), some (.int (iI l))] [] hp _
    refine go_a (pc' := 1) (ls' := [some (.int (iI 34)), some (.int (iI l))]) (st' := [.int (iI 34)]) rfl rfl ?_
    refine go_a (pc' := 68) (ls' := [some (.int (iI 34)), some (.int (iI l))]) (st' := []) rfl rfl ?_
    refine go_a (pc' := 69) (ls' := [some (.int (iI 34)), some (.int (iI l))]) (st' := [.int (iI l)]) rfl rfl ?_
    refine go_a (pc' := 70) (ls' := [some (.int (iI 34)), some (.int (iI l))]) (st' := [.int (iI 2), .int (iI l)]) rfl rfl ?_
    refine mi_lt (t := 77) rfl rfl (by omega) (by omega) (by omega) (by omega) (fun w1 => ?_) (fun w1 => ?_)
    · refine go_a (pc' := 78) (ls' := [some (.int (iI 34)), some (.int (iI l))]) (st' := [.int (iI 0)]) rfl rfl ?_
      exact go_r rfl rfl rfl rfl rfl rfl ⟨Or.inr rfl, rfl⟩
    · refine go_a (pc' := 74) (ls' := [some (.int (iI 34)), some (.int (iI l))]) (st' := [.int (iI 1)]) rfl rfl ?_
      refine go_a (pc' := 78) (ls' := [some (.int (iI 34)), some (.int (iI l))]) (st' := [.int (iI 1)]) rfl rfl ?_
      exact go_r rfl rfl rfl rfl rfl rfl ⟨Or.inl ⟨rfl, by unfold LOF; omega⟩, rfl⟩
  · refine cl_go rfl ?_
    show xx_go (xt_P z) d 247 0 [some (.int (iI 35)), some (.int (iI l))] [] hp _
    refine go_a (pc' := 1) (ls' := [some (.int (iI 35)), some (.int (iI l))]) (st' := [.int (iI 35)]) rfl rfl ?_
    refine go_a (pc' := 112) (ls' := [some (.int (iI 35)), some (.int (iI l))]) (st' := []) rfl rfl ?_
    refine go_a (pc' := 113) (ls' := [some (.int (iI 35)), some (.int (iI l))]) (st' := [.int (iI l)]) rfl rfl ?_
    refine go_a (pc' := 114) (ls' := [some (.int (iI 35)), some (.int (iI l))]) (st' := [.int (iI 2), .int (iI l)]) rfl rfl ?_
    refine mi_ne (t := 121) rfl rfl (by omega) (by omega) (by omega) (by omega) (fun w1 => ?_) (fun w1 => ?_)
    · refine go_a (pc' := 122) (ls' := [some (.int (iI 35)), some (.int (iI l))]) (st' := [.int (iI 0)]) rfl rfl ?_
      exact go_r rfl rfl rfl rfl rfl rfl ⟨Or.inr rfl, rfl⟩
    · refine go_a (pc' := 118) (ls' := [some (.int (iI 35)), some (.int (iI l))]) (st' := [.int (iI 1)]) rfl rfl ?_
      refine go_a (pc' := 122) (ls' := [some (.int (iI 35)), some (.int (iI l))]) (st' := [.int (iI 1)]) rfl rfl ?_
      exact go_r rfl rfl rfl rfl rfl rfl ⟨Or.inl ⟨rfl, by unfold LOF; omega⟩, rfl⟩
  · refine cl_go rfl ?_
    show xx_go (xt_P z) d 247 0 [some (.int (iI 36)), some (.int (iI l))] [] hp _
    refine go_a (pc' := 1) (ls' := [some (.int (iI 36)), some (.int (iI l))]) (st' := [.int (iI 36)]) rfl rfl ?_
    refine go_a (pc' := 101) (ls' := [some (.int (iI 36)), some (.int (iI l))]) (st' := []) rfl rfl ?_
    refine go_a (pc' := 102) (ls' := [some (.int (iI 36)), some (.int (iI l))]) (st' := [.int (iI l)]) rfl rfl ?_
    refine go_a (pc' := 103) (ls' := [some (.int (iI 36)), some (.int (iI l))]) (st' := [.int (iI 3), .int (iI l)]) rfl rfl ?_
    refine mi_ne (t := 110) rfl rfl (by omega) (by omega) (by omega) (by omega) (fun w1 => ?_) (fun w1 => ?_)
    · refine go_a (pc' := 111) (ls' := [some (.int (iI 36)), some (.int (iI l))]) (st' := [.int (iI 0)]) rfl rfl ?_
      exact go_r rfl rfl rfl rfl rfl rfl ⟨Or.inr rfl, rfl⟩
    · refine go_a (pc' := 107) (ls' := [some (.int (iI 36)), some (.int (iI l))]) (st' := [.int (iI 1)]) rfl rfl ?_
      refine go_a (pc' := 111) (ls' := [some (.int (iI 36)), some (.int (iI l))]) (st' := [.int (iI 1)]) rfl rfl ?_
      exact go_r rfl rfl rfl rfl rfl rfl ⟨Or.inl ⟨rfl, by unfold LOF; omega⟩, rfl⟩
  · refine cl_go rfl ?_
    show xx_go (xt_P z) d 247 0 [some (.int (iI 37)), some (.int (iI l))] [] hp _
    refine go_a (pc' := 1) (ls' := [some (.int (iI 37)), some (.int (iI l))]) (st' := [.int (iI 37)]) rfl rfl ?_
    refine go_a (pc' := 79) (ls' := [some (.int (iI 37)), some (.int (iI l))]) (st' := []) rfl rfl ?_
    refine go_a (pc' := 80) (ls' := [some (.int (iI 37)), some (.int (iI l))]) (st' := [.int (iI l)]) rfl rfl ?_
    refine go_a (pc' := 81) (ls' := [some (.int (iI 37)), some (.int (iI l))]) (st' := [.int (iI 3), .int (iI l)]) rfl rfl ?_
    refine mi_lt (t := 88) rfl rfl (by omega) (by omega) (by omega) (by omega) (fun w1 => ?_) (fun w1 => ?_)
    · refine go_a (pc' := 89) (ls' := [some (.int (iI 37)), some (.int (iI l))]) (st' := [.int (iI 0)]) rfl rfl ?_
      exact go_r rfl rfl rfl rfl rfl rfl ⟨Or.inr rfl, rfl⟩
    · refine go_a (pc' := 85) (ls' := [some (.int (iI 37)), some (.int (iI l))]) (st' := [.int (iI 1)]) rfl rfl ?_
      refine go_a (pc' := 89) (ls' := [some (.int (iI 37)), some (.int (iI l))]) (st' := [.int (iI 1)]) rfl rfl ?_
      exact go_r rfl rfl rfl rfl rfl rfl ⟨Or.inl ⟨rfl, by unfold LOF; omega⟩, rfl⟩
theorem kq_const_loop (z : Value) (d : Nat) (a q : Nat) (n : Int) (f : Int → Int) (hp : xx_H) (hT : KTL hp a q n f) (c2 : f 0 % 4 = 2) (c3 : f 0 / 32 < 17) : ∀ (x : Nat) (k : Int), (n - k).toNat ≤ x → 1 ≤ k → k ≤ 200 → (∀ i : Int, 1 ≤ i → i < k → f i % 4 = 1) → xx_go (xt_P z) (d + 1) 250 26 [some (.ref a), some (.int (iI (f 0))), some (.int (iI k))] [] hp (fun v h1 => ((v = some (.int (iI 1)) ∧ f 0 % 4 = 2 ∧ f 0 / 32 < 17 ∧ ∀ i : Int, 1 ≤ i → i < n → f i % 4 = 1) ∨ v = some (.int (iI 0))) ∧ h1 = hp) := by
  have b := hT.2.2.1
  intro x
  induction x with
  | zero =>
    intro k hx k0 k1 hk
    refine go_a (pc' := 27) (ls' := [some (.ref a), some (.int (iI (f 0))), some (.int (iI k))]) (st' := [.int (iI k)]) rfl rfl ?_
    refine go_a (pc' := 28) (ls' := [some (.ref a), some (.int (iI (f 0))), some (.int (iI k))]) (st' := [.ref a, .int (iI k)]) rfl rfl ?_
    refine go_v (m := 229) (as := [.ref a]) (r := [.int (iI k)]) rfl rfl rfl hT.1 rfl rfl (kg_length z d a q n f hp hT) (fun v h3 hq => ?_)
    obtain ⟨rfl, e9⟩ := hq
    rw [e9]
    clear e9 h3
    show xx_go (xt_P z) (d + 1) 250 31 [some (.ref a), some (.int (iI (f 0))), some (.int (iI k))] [.int (iI n), .int (iI k)] hp _
    refine mi_ge (t := 53) rfl rfl (by omega) (by omega) (by omega) (by omega) (fun _ => ?_) (fun w => absurd (show k ≥ n by omega) w)
    refine go_a (pc' := 54) (ls' := [some (.ref a), some (.int (iI (f 0))), some (.int (iI k))]) (st' := [.int (iI 1)]) rfl rfl ?_
    exact go_r rfl rfl rfl rfl rfl rfl ⟨Or.inl ⟨rfl, c2, c3, fun i i0 i1 => hk i i0 (by omega)⟩, rfl⟩
  | succ x ih =>
    intro k hx k0 k1 hk
    refine go_a (pc' := 27) (ls' := [some (.ref a), some (.int (iI (f 0))), some (.int (iI k))]) (st' := [.int (iI k)]) rfl rfl ?_
    refine go_a (pc' := 28) (ls' := [some (.ref a), some (.int (iI (f 0))), some (.int (iI k))]) (st' := [.ref a, .int (iI k)]) rfl rfl ?_
    refine go_v (m := 229) (as := [.ref a]) (r := [.int (iI k)]) rfl rfl rfl hT.1 rfl rfl (kg_length z d a q n f hp hT) (fun v h3 hq => ?_)
    obtain ⟨rfl, e9⟩ := hq
    rw [e9]
    clear e9 h3
    show xx_go (xt_P z) (d + 1) 250 31 [some (.ref a), some (.int (iI (f 0))), some (.int (iI k))] [.int (iI n), .int (iI k)] hp _
    refine mi_ge (t := 53) rfl rfl (by omega) (by omega) (by omega) (by omega) (fun w1 => ?_) (fun w1 => ?_)
    · refine go_a (pc' := 54) (ls' := [some (.ref a), some (.int (iI (f 0))), some (.int (iI k))]) (st' := [.int (iI 1)]) rfl rfl ?_
      exact go_r rfl rfl rfl rfl rfl rfl ⟨Or.inl ⟨rfl, c2, c3, fun i i0 i1 => hk i i0 (by omega)⟩, rfl⟩
    · have t9 : tat n f k = f k := if_pos (by omega)
      refine go_a (pc' := 35) (ls' := [some (.ref a), some (.int (iI (f 0))), some (.int (iI k))]) (st' := [.ref a]) rfl rfl ?_
      refine go_a (pc' := 36) (ls' := [some (.ref a), some (.int (iI (f 0))), some (.int (iI k))]) (st' := [.int (iI k), .ref a]) rfl rfl ?_
      refine go_v (m := 230) (as := [.ref a, .int (iI k)]) (r := []) rfl rfl rfl hT.1 rfl rfl (kg_at z d k a q n f hp hT (by omega) (by omega)) (fun v h3 hq => ?_)
      obtain ⟨rfl, e9⟩ := hq
      rw [e9, t9]
      clear e9 h3
      show xx_go (xt_P z) (d + 1) 250 39 [some (.ref a), some (.int (iI (f 0))), some (.int (iI k))] [.int (iI (f k))] hp _
      refine go_s (m := 252) (as := [.int (iI (f k))]) (r := []) rfl rfl rfl rfl (kg_isConstant z d (f k) hp) (fun v h3 hq => ?_)
      obtain ⟨hq, e9⟩ := hq
      rw [e9]
      clear e9 h3
      rcases hq with ⟨c1, rfl⟩ | ⟨c1, rfl⟩
      · show xx_go (xt_P z) (d + 1) 250 42 [some (.ref a), some (.int (iI (f 0))), some (.int (iI k))] [.int (iI 1)] hp _
        refine mi_ne0 (t := 47) rfl rfl (by omega) (by omega) (fun _ => ?_) (fun q => absurd (show (1 : Int) ≠ 0 by decide) q)
        refine go_a (pc' := 50) (ls' := [some (.ref a), some (.int (iI (f 0))), some (.int (iI (k + 1)))]) (st' := []) rfl (by rw [← iI_add k 1]; rfl) ?_
        refine go_a (pc' := 26) (ls' := [some (.ref a), some (.int (iI (f 0))), some (.int (iI (k + 1)))]) (st' := []) rfl rfl ?_
        refine ih (k + 1) (by omega) (by omega) (by omega) (fun i i0 i1 => ?_)
        by_cases ci : i = k
        · rw [ci]
          exact c1
        · exact hk i i0 (by omega)
      · show xx_go (xt_P z) (d + 1) 250 42 [some (.ref a), some (.int (iI (f 0))), some (.int (iI k))] [.int (iI 0)] hp _
        refine mi_ne0 (t := 47) rfl rfl (by omega) (by omega) (fun q => absurd rfl q) (fun _ => ?_)
        refine go_a (pc' := 46) (ls' := [some (.ref a), some (.int (iI (f 0))), some (.int (iI k))]) (st' := [.int (iI 0)]) rfl rfl ?_
        exact go_r rfl rfl rfl rfl rfl rfl ⟨Or.inr rfl, rfl⟩
theorem kq_isCallOfConstants (z : Value) (d : Nat) (a q : Nat) (n : Int) (f : Int → Int) (hp : xx_H) (hT : KTL hp a q n f) (n1 : 1 ≤ n) : xx_cl (xt_P z) (d + 2) 250 [.ref a] hp (fun v h1 => ((v = some (.int (iI 1)) ∧ f 0 % 4 = 2 ∧ f 0 / 32 < 17 ∧ ∀ i : Int, 1 ≤ i → i < n → f i % 4 = 1) ∨ v = some (.int (iI 0))) ∧ h1 = hp) := by
  have fr := hT.2.2.2 0
  have t0 : tat n f 0 = f 0 := if_pos (by omega)
  refine cl_go rfl ?_
  show xx_go (xt_P z) (d + 1) 250 0 [some (.ref a), none, none] [] hp _
  refine go_a (pc' := 1) (ls' := [some (.ref a), none, none]) (st' := [.ref a]) rfl rfl ?_
  refine go_a (pc' := 2) (ls' := [some (.ref a), none, none]) (st' := [.int (iI 0), .ref a]) rfl rfl ?_
  refine go_v (m := 230) (as := [.ref a, .int (iI 0)]) (r := []) rfl rfl rfl hT.1 rfl rfl (kg_at z d 0 a q n f hp hT (by decide) (by decide)) (fun v h3 hq => ?_)
  obtain ⟨rfl, e9⟩ := hq
  rw [e9, t0]
  clear e9 h3
  show xx_go (xt_P z) (d + 1) 250 5 [some (.ref a), none, none] [.int (iI (f 0))] hp _
  refine go_a (pc' := 6) (ls' := [some (.ref a), some (.int (iI (f 0))), none]) (st' := []) rfl rfl ?_
  refine go_a (pc' := 7) (ls' := [some (.ref a), some (.int (iI (f 0))), none]) (st' := [.int (iI (f 0))]) rfl rfl ?_
  have no : xx_go (xt_P z) (d + 1) 250 22 [some (.ref a), some (.int (iI (f 0))), none] [] hp (fun v h1 => ((v = some (.int (iI 1)) ∧ f 0 % 4 = 2 ∧ f 0 / 32 < 17 ∧ ∀ i : Int, 1 ≤ i → i < n → f i % 4 = 1) ∨ v = some (.int (iI 0))) ∧ h1 = hp) := by
    refine go_a (pc' := 23) (ls' := [some (.ref a), some (.int (iI (f 0))), none]) (st' := [.int (iI 0)]) rfl rfl ?_
    exact go_r rfl rfl rfl rfl rfl rfl ⟨Or.inr rfl, rfl⟩
  refine go_s (m := 220) (as := [.int (iI (f 0))]) (r := []) rfl rfl rfl rfl (kg_isCall z d (f 0) hp) (fun v h3 hq => ?_)
  obtain ⟨hq, e9⟩ := hq
  rw [e9]
  clear e9 h3
  rcases hq with ⟨c1, rfl⟩ | ⟨c1, rfl⟩
  · show xx_go (xt_P z) (d + 1) 250 10 [some (.ref a), some (.int (iI (f 0))), none] [.int (iI 1)] hp _
    refine mi_eq0 (t := 22) rfl rfl (by omega) (by omega) (fun q => absurd q (by decide)) (fun _ => ?_)
    refine go_a (pc' := 14) (ls' := [some (.ref a), some (.int (iI (f 0))), none]) (st' := [.int (iI (f 0))]) rfl rfl ?_
    refine go_s (m := 251) (as := [.int (iI (f 0))]) (r := []) rfl rfl rfl rfl (kg_what z d (f 0) hp fr.1 fr.2) (fun v h3 hq => ?_)
    obtain ⟨rfl, e9⟩ := hq
    rw [e9]
    clear e9 h3
    show xx_go (xt_P z) (d + 1) 250 17 [some (.ref a), some (.int (iI (f 0))), none] [.int (iI (f 0 / 32))] hp _
    refine go_a (pc' := 19) (ls' := [some (.ref a), some (.int (iI (f 0))), none]) (st' := [.int (iI 17), .int (iI (f 0 / 32))]) rfl rfl ?_
    refine mi_lt (t := 24) rfl rfl (by omega) (by omega) (by omega) (by omega) (fun w1 => ?_) (fun _ => no)
    refine go_a (pc' := 25) (ls' := [some (.ref a), some (.int (iI (f 0))), none]) (st' := [.int (iI 1)]) rfl rfl ?_
    refine go_a (pc' := 26) (ls' := [some (.ref a), some (.int (iI (f 0))), some (.int (iI 1))]) (st' := []) rfl rfl ?_
    exact kq_const_loop z d a q n f hp hT c1 w1 _ 1 (Nat.le_refl _) (by decide) (by decide) (fun i i0 i1 => absurd i1 (by omega))
  · show xx_go (xt_P z) (d + 1) 250 10 [some (.ref a), some (.int (iI (f 0))), none] [.int (iI 0)] hp _
    refine mi_eq0 (t := 22) rfl rfl (by omega) (by omega) (fun _ => no) (fun q => absurd rfl q)
