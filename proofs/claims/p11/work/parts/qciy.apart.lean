theorem nt_12e {A A1 : Nat → Int → Int} (h1 : A1 1 = A 1) (h2 : A1 2 = A 2) : NT A1 = NT A := by
  funext w
  exact nt_12w h1 h2
section APS
variable {I : Nat → Int} {A : Nat → Int → Int} {N : Int → Int} {fn : Nat}
theorem cc_args (hS : MST I A N) (hT : TRX I A N) : ∀ (m : Nat) (l : Int), 0 ≤ l → l < I 7 → isL A m l → (∀ j : Nat, j < m → (sp_cc fn (DM A N (A 1 (rt A j l)))).1 = []) → (sp_cc fn (DM A N l)).2 = []
  | 0, l, _, _, hL, _ => by
    rw [show l = 0 from hL, DM_0 hT]
    rfl
  | m + 1, l, l0, l1, hL, h => by
    have q := (MST_PW hS).2 l l0 l1
    have q2 := q.2.2.2.2 hL.1
    rw [DM_pr hS hT l0 l1 hL.1, cc_add]
    show (sp_cc fn (DM A N (A 1 l))).1 ++ (sp_cc fn (DM A N (A 2 l))).2 = []
    rw [show (sp_cc fn (DM A N (A 1 l))).1 = [] from h 0 (by omega), cc_args hS hT m (A 2 l) q.2.2.1 (by omega) hL.2 (fun j hj => h (j + 1) (by omega))]
    rfl
theorem cc_argn (hS : MST I A N) (hT : TRX I A N) : ∀ (m : Nat) (l : Int), 0 ≤ l → l < I 7 → isL A m l → ∀ j : Nat, j < m → (sp_cc fn (DM A N (A 1 (rt A j l)))).1 ≠ [] → (sp_cc fn (DM A N l)).2 ≠ []
  | m + 1, l, l0, l1, hL, j, hj, h => by
    have q := (MST_PW hS).2 l l0 l1
    have q2 := q.2.2.2.2 hL.1
    rw [DM_pr hS hT l0 l1 hL.1, cc_add]
    show (sp_cc fn (DM A N (A 1 l))).1 ++ (sp_cc fn (DM A N (A 2 l))).2 ≠ []
    intro e
    have e2 := List.append_eq_nil_iff.mp e
    match j, h with
    | 0, h => exact h e2.1
    | j + 1, h => exact cc_argn hS hT m (A 2 l) q.2.2.1 (by omega) hL.2 j (by omega) h e2.2
end APS
theorem mm_apart_argsX (z : Value) (d m : Nat) (ar G : Int → Int) (fn : Nat) (M f p c : Int) (h R : xx_H) (I : Nat → Int) (A : Nat → Int → Int) (N : Int → Int) (hc : 12 ≤ h.length) (hP : PW I A) (n0 : A 1 0 < 0) (f3 : 3 ≤ f) (f1 : f < 140000) (hE : EN ar I A) (hS : MST I A N) (hN : NM I A) (hT : TRX I A N) (ff : DM A N f = .var fn) (f79 : f < I 7) (c0 : 0 ≤ c) (c1 : c < 130) (g0 : 0 ≤ G c) (g1 : G c < I 7) (g2 : 1 ≤ TZ A ar (G c)) (g4 : TZ A ar (G c) ≤ 125) (g3 : A 1 (G c) = f) (em : (m : Int) = ar f) (p0 : 0 ≤ p) (p2 : p < I 71) (gm : DM A N (A 2 (G c)) ∈ (sp_cc fn (DM A N (A 39 p))).1) (K : (∀ (I1 : Nat → Int) (A1 : Nat → Int → Int) (y5 : Option Value), FX I A I1 A1 → A1 45 = G → I1 76 = M → NL A (wf A ar f) (A 2 (G c)) = 0 → (sp_cc fn (DM A N (A 2 (G c)))).2 = [] → xx_go (xt_P z) (d + 4) 129 125 [some (.ref h.length), some (.int (iI f)), some (.int (iI p)), some (.int (iI c)), some (.int (iI ((m : Int)))), y5] [] (mh h R I1 A1 N) (fun v h1 => ∃ (I1 : Nat → Int) (A1 : Nat → Int → Int), h1 = mh h R I1 A1 N ∧ FX I A I1 A1 ∧ ((v = some (.int (iI 0)) ∧ (∃ e : Int, (0 ≤ e ∧ e < I 71) ∧ ((∃ k : Int, (0 ≤ k ∧ k < A 41 e) ∧ (sp_cc fn (DM A N (A 40 (64 * e + k)))).1 ≠ []) ∨ ∃ b : ob_T, b ∈ (sp_cc fn (DM A N (A 39 e))).1 ∧ (sp_cc fn b).2 ≠ []))) ∨ (v = some (.int (iI 1)) ∧ (∀ e : Int, 0 ≤ e → e < I 71 → NT A (wy A ar f) (A 39 e) = 0) ∧ (∀ e : Int, 0 ≤ e → e < I 71 → (∀ k : Int, 0 ≤ k → k < A 41 e → (sp_cc fn (DM A N (A 40 (64 * e + k)))).1 = []) ∧ ∀ b ∈ (sp_cc fn (DM A N (A 39 e))).1, (sp_cc fn b).2 = [])))))) : ∀ (n j : Nat) (I1 : Nat → Int) (A1 : Nat → Int → Int), m - j ≤ n → j ≤ m → FX I A I1 A1 → A1 45 = G → I1 76 = M → (∀ q : Nat, q < j → NT A (wf A ar f) (A 1 (rt A q (A 2 (G c)))) = 0 ∧ (sp_cc fn (DM A N (A 1 (rt A q (A 2 (G c)))))).1 = []) → xx_go (xt_P z) (d + 4) 129 90 [some (.ref h.length), some (.int (iI f)), some (.int (iI p)), some (.int (iI c)), some (.int (iI ((m : Int)))), some (.int (iI (((j + 1 : Nat) : Int))))] [] (mh h R I1 A1 N) (fun v h1 => ∃ (I1 : Nat → Int) (A1 : Nat → Int → Int), h1 = mh h R I1 A1 N ∧ FX I A I1 A1 ∧ ((v = some (.int (iI 0)) ∧ (∃ e : Int, (0 ≤ e ∧ e < I 71) ∧ ((∃ k : Int, (0 ≤ k ∧ k < A 41 e) ∧ (sp_cc fn (DM A N (A 40 (64 * e + k)))).1 ≠ []) ∨ ∃ b : ob_T, b ∈ (sp_cc fn (DM A N (A 39 e))).1 ∧ (sp_cc fn b).2 ≠ []))) ∨ (v = some (.int (iI 1)) ∧ (∀ e : Int, 0 ≤ e → e < I 71 → NT A (wy A ar f) (A 39 e) = 0) ∧ (∀ e : Int, 0 ≤ e → e < I 71 → (∀ k : Int, 0 ≤ k → k < A 41 e → (sp_cc fn (DM A N (A 40 (64 * e + k)))).1 = []) ∧ ∀ b ∈ (sp_cc fn (DM A N (A 39 e))).1, (sp_cc fn b).2 = [])))) := by
  have ta := TZ_args (ar := ar) hP n0 g0 g1 (by omega) (by omega) g2
  rw [g3] at ta
  rw [show (ar f).toNat = m by omega] at ta
  have p1 := hP.1
  intro n
  induction n with
  | zero =>
    intro j I1 A1 hn jm X e45 e76 hz
    have e : j = m := by omega
    subst e
    refine go_a (pc' := 92) (ls' := [some (.ref h.length), some (.int (iI f)), some (.int (iI p)), some (.int (iI c)), some (.int (iI ((j : Int)))), some (.int (iI (((j + 1 : Nat) : Int))))]) (st' := [.int (iI (((j + 1 : Nat) : Int)))]) rfl rfl ?_
    refine go_a (pc' := 94) (ls' := [some (.ref h.length), some (.int (iI f)), some (.int (iI p)), some (.int (iI c)), some (.int (iI ((j : Int)))), some (.int (iI (((j + 1 : Nat) : Int))))]) (st' := [.int (iI ((j : Int))), .int (iI (((j + 1 : Nat) : Int)))]) rfl rfl ?_
    exact mi_gt (t := 125) rfl rfl (by omega) (by omega) (by omega) (by omega) (fun _ => K I1 A1 _ X e45 e76 (NL_zero hP n0 j _ ta.1.1 (by omega) ta.2.1 (fun q hq => (hz q hq).1)) (cc_args hS hT j _ ta.1.1 (by omega) ta.2.1 (fun q hq => (hz q hq).2))) (fun e => absurd (show ((j : Nat) : Int) < ((j + 1 : Nat) : Int) by omega) e)
  | succ n ih =>
    intro j I1 A1 hn jm X e45 e76 hz
    have P1 := FX_PW hP X
    have e1 : A1 1 = A 1 := X.2 1 (by decide) (by decide)
    have e2 : A1 2 = A 2 := X.2 2 (by decide) (by decide)
    have e7 : I1 7 = I 7 := X.1 7 (by decide) (by decide)
    have tz := FX_tz (ar := ar) X
    refine go_a (pc' := 92) (ls' := [some (.ref h.length), some (.int (iI f)), some (.int (iI p)), some (.int (iI c)), some (.int (iI ((m : Int)))), some (.int (iI (((j + 1 : Nat) : Int))))]) (st' := [.int (iI (((j + 1 : Nat) : Int)))]) rfl rfl ?_
    refine go_a (pc' := 94) (ls' := [some (.ref h.length), some (.int (iI f)), some (.int (iI p)), some (.int (iI c)), some (.int (iI ((m : Int)))), some (.int (iI (((j + 1 : Nat) : Int))))]) (st' := [.int (iI ((m : Int))), .int (iI (((j + 1 : Nat) : Int)))]) rfl rfl ?_
    refine mi_gt (t := 125) rfl rfl (by omega) (by omega) (by omega) (by omega) (fun e => K I1 A1 _ X e45 e76 (NL_zero hP n0 m _ ta.1.1 (by omega) ta.2.1 (fun q hq => (hz q (by omega)).1)) (cc_args hS hT m _ ta.1.1 (by omega) ta.2.1 (fun q hq => (hz q (by omega)).2))) (fun e => ?_)
    have aj := ta.2.2.2.2.2 j (by omega)
    refine go_a (pc' := 98) (ls' := [some (.ref h.length), some (.int (iI f)), some (.int (iI p)), some (.int (iI c)), some (.int (iI ((m : Int)))), some (.int (iI (((j + 1 : Nat) : Int))))]) (st' := [.ref h.length]) rfl rfl ?_
    refine go_a (pc' := 99) (ls' := [some (.ref h.length), some (.int (iI f)), some (.int (iI p)), some (.int (iI c)), some (.int (iI ((m : Int)))), some (.int (iI (((j + 1 : Nat) : Int))))]) (st' := [.ref h.length, .ref h.length]) rfl rfl ?_
    refine go_a (pc' := 100) (ls' := [some (.ref h.length), some (.int (iI f)), some (.int (iI p)), some (.int (iI c)), some (.int (iI ((m : Int)))), some (.int (iI (((j + 1 : Nat) : Int))))]) (st' := [.ref h.length, .ref h.length, .ref h.length]) rfl rfl ?_
    refine go_get rfl mh_o rfl rfl ?_
    refine go_a (pc' := 104) (ls' := [some (.ref h.length), some (.int (iI f)), some (.int (iI p)), some (.int (iI c)), some (.int (iI ((m : Int)))), some (.int (iI (((j + 1 : Nat) : Int))))]) (st' := [.int (iI c), .ref (h.length + 45), .ref h.length, .ref h.length]) rfl rfl ?_
    refine mi_ild rfl mh_a45 (by omega) (by omega) (by decide) ?_
    refine go_a (pc' := 107) (ls' := [some (.ref h.length), some (.int (iI f)), some (.int (iI p)), some (.int (iI c)), some (.int (iI ((m : Int)))), some (.int (iI (((j + 1 : Nat) : Int))))]) (st' := [.int (iI (((j + 1 : Nat) : Int))), .int (iI (A1 45 c)), .ref h.length, .ref h.length]) rfl rfl ?_
    rw [e45]
    refine go_v (m := 124) (as := [.ref h.length, .int (iI (G c)), .int (iI (((j + 1 : Nat) : Int)))]) (r := [.ref h.length]) rfl rfl rfl mh_o rfl rfl (mm_term z (d + 2) (j + 1) (m + 1) (G c) h R I1 A1 N hc P1 (by omega) g0 (by omega) (isL_12 e1 e2 _ _ ⟨by omega, ta.2.1⟩) (by omega)) (fun v h1 hq => ?_)
    obtain ⟨rfl, rfl⟩ := hq
    rw [rt_12 e2, e1, show rt A (j + 1) (G c) = rt A j (A 2 (G c)) from rfl]
    show xx_go (xt_P z) (d + 4) 129 110 [some (.ref h.length), some (.int (iI f)), some (.int (iI p)), some (.int (iI c)), some (.int (iI ((m : Int)))), some (.int (iI (((j + 1 : Nat) : Int))))] [.int (iI (A 1 (rt A j (A 2 (G c))))), .ref h.length] (mh h R I1 A1 N) _
    refine go_a (pc' := 111) (ls' := [some (.ref h.length), some (.int (iI f)), some (.int (iI p)), some (.int (iI c)), some (.int (iI ((m : Int)))), some (.int (iI (((j + 1 : Nat) : Int))))]) (st' := [.int (iI f), .int (iI (A 1 (rt A j (A 2 (G c))))), .ref h.length]) rfl rfl ?_
    refine go_v (m := 130) (as := [.ref h.length, .int (iI (A 1 (rt A j (A 2 (G c))))), .int (iI f)]) (r := []) rfl rfl rfl mh_o rfl rfl (mm_hasCallX z d ar (A 1 (rt A j (A 2 (G c)))) f h R I1 A1 N hc P1 (by rw [e1]; exact n0) aj.1.1 (by omega) (by rw [tz.1]; exact aj.2.1) (by rw [tz.1]; omega) (by omega) f1) (fun v h1 hq => ?_)
    obtain ⟨⟨b, hb, rfl⟩, I2, A2, rfl, X2⟩ := hq
    have F2 : FX I A I2 A2 := FX_WX X X2
    show xx_go (xt_P z) (d + 4) 129 114 [some (.ref h.length), some (.int (iI f)), some (.int (iI p)), some (.int (iI c)), some (.int (iI ((m : Int)))), some (.int (iI (((j + 1 : Nat) : Int))))] [.int (iI b)] (mh h R I2 A2 N) _
    refine mi_eq0 (t := 119) rfl rfl (by omega) (by omega) (fun e9 => ?_) (fun e9 => ?_)
    · have zz : NT A (wf A ar f) (A 1 (rt A j (A 2 (G c)))) = 0 ∧ (sp_cc fn (DM A N (A 1 (rt A j (A 2 (G c)))))).1 = [] := by
        rcases hb with hb | hb
        · have hb2 : ∀ w : Int → Int, (∀ k : Int, A 1 k ≠ f → w k = 0) → NT A w (A 1 (rt A j (A 2 (G c)))) = 0 := fun w hw => by
            have q := hb.2 w (fun k hk => hw k (by rw [← e1]; exact hk))
            rw [nt_12w e1 e2] at q
            exact q
          exact ⟨hb2 (wf A ar f) (fun k hk => wf_sup k hk), hc_0 hS hN hT (by omega) f79 ff (by omega) aj.1.1 aj.1.2 hb2⟩
        · have := hb.1
          omega
      refine go_a (pc' := 122) (ls' := [some (.ref h.length), some (.int (iI f)), some (.int (iI p)), some (.int (iI c)), some (.int (iI ((m : Int)))), some (.int (iI ((((j + 1 : Nat) : Int)) + 1)))]) (st' := []) rfl (by rw [← iI_add (((j + 1 : Nat) : Int)) 1]; rfl) ?_
      refine go_a (pc' := 90) (ls' := [some (.ref h.length), some (.int (iI f)), some (.int (iI p)), some (.int (iI c)), some (.int (iI ((m : Int)))), some (.int (iI ((((j + 1 : Nat) : Int)) + 1)))]) (st' := []) rfl rfl ?_
      refine ih (j + 1) I2 A2 (by omega) (by omega) F2 ((X2.2 45 (by decide)).trans e45) ((X2.1 76 (by decide)).trans e76) (fun q hq => ?_)
      by_cases e : q = j
      · rw [e]
        exact zz
      · exact hz q (by omega)
    · have ne9 : (sp_cc fn (DM A N (A 1 (rt A j (A 2 (G c)))))).1 ≠ [] := by
        rcases hb with hb | hb
        · have := hb.1
          omega
        · obtain ⟨-, k, hk, ek, hw⟩ := hb
          rw [e7] at hk hw
          rw [e1] at ek hw
          rw [nt_12e e1 e2] at hw
          exact hc_1 hS hN hT (by omega) f79 ff (by omega) aj.1.1 aj.1.2 ⟨k, hk, ek, hw⟩
      refine go_a (pc' := 118) (ls' := [some (.ref h.length), some (.int (iI f)), some (.int (iI p)), some (.int (iI c)), some (.int (iI ((m : Int)))), some (.int (iI (((j + 1 : Nat) : Int))))]) (st' := [.int (iI 0)]) rfl rfl ?_
      exact go_r rfl rfl rfl rfl rfl rfl ⟨I2, A2, rfl, F2, Or.inl ⟨rfl, p, ⟨p0, p2⟩, Or.inr ⟨_, gm, cc_argn hS hT m _ ta.1.1 (by omega) ta.2.1 j (by omega) ne9⟩⟩⟩
theorem mm_apart_callsX (z : Value) (d : Nat) (ar G : Int → Int) (fn : Nat) (M f p : Int) (h R : xx_H) (I : Nat → Int) (A : Nat → Int → Int) (N : Int → Int) (hc : 12 ≤ h.length) (hP : PW I A) (n0 : A 1 0 < 0) (f3 : 3 ≤ f) (f1 : f < 140000) (hE : EN ar I A) (hS : MST I A N) (hN : NM I A) (hT : TRX I A N) (ff : DM A N f = .var fn) (f79 : f < I 7) (hG : ((0 ≤ M ∧ M ≤ 125) ∧ ∀ e : Int, 0 ≤ e → e < M → (0 ≤ G e ∧ G e < I 7) ∧ (1 ≤ TZ A ar (G e) ∧ TZ A ar (G e) ≤ 125) ∧ A 1 (G e) = f)) (p0 : 0 ≤ p) (p2 : p < I 71) (hM9 : ∀ e : Int, 0 ≤ e → e < M → DM A N (A 2 (G e)) ∈ (sp_cc fn (DM A N (A 39 p))).1) (K : (∀ (I1 : Nat → Int) (A1 : Nat → Int → Int) (y3 y4 y5 : Option Value), FX I A I1 A1 → (∀ e : Int, 0 ≤ e → e < M → wy A ar f (G e) = 0 ∧ (sp_cc fn (DM A N (A 2 (G e)))).2 = []) → xx_go (xt_P z) (d + 4) 129 131 [some (.ref h.length), some (.int (iI f)), some (.int (iI p)), y3, y4, y5] [] (mh h R I1 A1 N) (fun v h1 => ∃ (I1 : Nat → Int) (A1 : Nat → Int → Int), h1 = mh h R I1 A1 N ∧ FX I A I1 A1 ∧ ((v = some (.int (iI 0)) ∧ (∃ e : Int, (0 ≤ e ∧ e < I 71) ∧ ((∃ k : Int, (0 ≤ k ∧ k < A 41 e) ∧ (sp_cc fn (DM A N (A 40 (64 * e + k)))).1 ≠ []) ∨ ∃ b : ob_T, b ∈ (sp_cc fn (DM A N (A 39 e))).1 ∧ (sp_cc fn b).2 ≠ []))) ∨ (v = some (.int (iI 1)) ∧ (∀ e : Int, 0 ≤ e → e < I 71 → NT A (wy A ar f) (A 39 e) = 0) ∧ (∀ e : Int, 0 ≤ e → e < I 71 → (∀ k : Int, 0 ≤ k → k < A 41 e → (sp_cc fn (DM A N (A 40 (64 * e + k)))).1 = []) ∧ ∀ b ∈ (sp_cc fn (DM A N (A 39 e))).1, (sp_cc fn b).2 = [])))))) : ∀ (n : Nat) (c : Int) (I1 : Nat → Int) (A1 : Nat → Int → Int) (y4 y5 : Option Value), (M - c).toNat ≤ n → 0 ≤ c → c ≤ M → FX I A I1 A1 → A1 45 = G → I1 76 = M → (∀ e : Int, 0 ≤ e → e < c → wy A ar f (G e) = 0 ∧ (sp_cc fn (DM A N (A 2 (G e)))).2 = []) → xx_go (xt_P z) (d + 4) 129 62 [some (.ref h.length), some (.int (iI f)), some (.int (iI p)), some (.int (iI c)), y4, y5] [] (mh h R I1 A1 N) (fun v h1 => ∃ (I1 : Nat → Int) (A1 : Nat → Int → Int), h1 = mh h R I1 A1 N ∧ FX I A I1 A1 ∧ ((v = some (.int (iI 0)) ∧ (∃ e : Int, (0 ≤ e ∧ e < I 71) ∧ ((∃ k : Int, (0 ≤ k ∧ k < A 41 e) ∧ (sp_cc fn (DM A N (A 40 (64 * e + k)))).1 ≠ []) ∨ ∃ b : ob_T, b ∈ (sp_cc fn (DM A N (A 39 e))).1 ∧ (sp_cc fn b).2 ≠ []))) ∨ (v = some (.int (iI 1)) ∧ (∀ e : Int, 0 ≤ e → e < I 71 → NT A (wy A ar f) (A 39 e) = 0) ∧ (∀ e : Int, 0 ≤ e → e < I 71 → (∀ k : Int, 0 ≤ k → k < A 41 e → (sp_cc fn (DM A N (A 40 (64 * e + k)))).1 = []) ∧ ∀ b ∈ (sp_cc fn (DM A N (A 39 e))).1, (sp_cc fn b).2 = [])))) := by
  have p1 := hP.1
  have hM := hG.1
  intro n
  induction n with
  | zero =>
    intro c I1 A1 y4 y5 hn c0 cM X e45 e76 hz
    refine go_a (pc' := 63) (ls' := [some (.ref h.length), some (.int (iI f)), some (.int (iI p)), some (.int (iI c)), y4, y5]) (st' := [.int (iI c)]) rfl rfl ?_
    refine go_a (pc' := 64) (ls' := [some (.ref h.length), some (.int (iI f)), some (.int (iI p)), some (.int (iI c)), y4, y5]) (st' := [.ref h.length, .int (iI c)]) rfl rfl ?_
    refine go_get (v := .int (iI (I1 76))) rfl mh_o rfl rfl ?_
    exact mi_ge (t := 131) rfl rfl (by omega) (by omega) (by omega) (by omega) (fun _ => K I1 A1 _ _ _ X (fun e e0 e1 => hz e e0 (by omega))) (fun e => absurd (show I1 76 ≤ c by omega) e)
  | succ n ih =>
    intro c I1 A1 y4 y5 hn c0 cM X e45 e76 hz
    have P1 := FX_PW hP X
    have e1 : A1 1 = A 1 := X.2 1 (by decide) (by decide)
    have e2 : A1 2 = A 2 := X.2 2 (by decide) (by decide)
    have e7 : I1 7 = I 7 := X.1 7 (by decide) (by decide)
    refine go_a (pc' := 63) (ls' := [some (.ref h.length), some (.int (iI f)), some (.int (iI p)), some (.int (iI c)), y4, y5]) (st' := [.int (iI c)]) rfl rfl ?_
    refine go_a (pc' := 64) (ls' := [some (.ref h.length), some (.int (iI f)), some (.int (iI p)), some (.int (iI c)), y4, y5]) (st' := [.ref h.length, .int (iI c)]) rfl rfl ?_
    refine go_get (v := .int (iI (I1 76))) rfl mh_o rfl rfl ?_
    refine mi_ge (t := 131) rfl rfl (by omega) (by omega) (by omega) (by omega) (fun e => K I1 A1 _ _ _ X (fun q q0 q1 => hz q q0 (by omega))) (fun e => ?_)
    have gc := hG.2 c c0 (by omega)
    have ta := TZ_args (ar := ar) hP n0 gc.1.1 gc.1.2 (by omega) (by omega) gc.2.1.1
    rw [gc.2.2] at ta
    have r45 : A1 45 c = G c := by rw [e45]
    refine go_a (pc' := 71) (ls' := [some (.ref h.length), some (.int (iI f)), some (.int (iI p)), some (.int (iI c)), y4, y5]) (st' := [.ref h.length]) rfl rfl ?_
    refine go_a (pc' := 72) (ls' := [some (.ref h.length), some (.int (iI f)), some (.int (iI p)), some (.int (iI c)), y4, y5]) (st' := [.ref h.length, .ref h.length]) rfl rfl ?_
    refine go_get rfl mh_o rfl rfl ?_
    refine go_a (pc' := 76) (ls' := [some (.ref h.length), some (.int (iI f)), some (.int (iI p)), some (.int (iI c)), y4, y5]) (st' := [.ref h.length, .ref (h.length + 2), .ref h.length]) rfl rfl ?_
    refine go_get rfl mh_o rfl rfl ?_
    refine go_a (pc' := 80) (ls' := [some (.ref h.length), some (.int (iI f)), some (.int (iI p)), some (.int (iI c)), y4, y5]) (st' := [.int (iI c), .ref (h.length + 45), .ref (h.length + 2), .ref h.length]) rfl rfl ?_
    refine mi_ild rfl mh_a45 (by omega) (by omega) (by decide) ?_
    refine mi_ild rfl mh_a2 (by omega) (by omega) (by decide) ?_
    rw [r45, e2]
    refine go_v (m := 98) (as := [.ref h.length, .int (iI (A 2 (G c)))]) (r := []) rfl rfl rfl mh_o rfl rfl (mm_lenL z (d + 2) (ar f).toNat (A 2 (G c)) h R I1 A1 N hc P1 (by rw [e1]; exact n0) ta.1.1 (by omega) (isL_12 e1 e2 _ _ ta.2.1)) (fun v h1 hq => ?_)
    obtain ⟨rfl, rfl⟩ := hq
    show xx_go (xt_P z) (d + 4) 129 85 [some (.ref h.length), some (.int (iI f)), some (.int (iI p)), some (.int (iI c)), y4, y5] [.int (iI (((ar f).toNat : Int)))] (mh h R I1 A1 N) _
    refine go_a (pc' := 87) (ls' := [some (.ref h.length), some (.int (iI f)), some (.int (iI p)), some (.int (iI c)), some (.int (iI (((ar f).toNat : Int)))), y5]) (st' := []) rfl rfl ?_
    refine go_a (pc' := 88) (ls' := [some (.ref h.length), some (.int (iI f)), some (.int (iI p)), some (.int (iI c)), some (.int (iI (((ar f).toNat : Int)))), y5]) (st' := [.int (iI 1)]) rfl rfl ?_
    refine go_a (pc' := 90) (ls' := [some (.ref h.length), some (.int (iI f)), some (.int (iI p)), some (.int (iI c)), some (.int (iI (((ar f).toNat : Int)))), some (.int (iI 1))]) (st' := []) rfl rfl ?_
    refine mm_apart_argsX z d (ar f).toNat ar G fn M f p c h R I A N hc hP n0 f3 f1 hE hS hN hT ff f79 c0 (by omega) gc.1.1 gc.1.2 gc.2.1.1 gc.2.1.2 gc.2.2 (by omega) p0 p2 (hM9 c c0 (by omega)) (fun I2 A2 y5 F2 f45 f76 nl nl2 => ?_) (ar f).toNat 0 I1 A1 (by omega) (by omega) X e45 e76 (fun q hq => absurd hq (by omega))
    show xx_go (xt_P z) (d + 4) 129 125 [some (.ref h.length), some (.int (iI f)), some (.int (iI p)), some (.int (iI c)), some (.int (iI (((ar f).toNat : Int)))), y5] [] (mh h R I2 A2 N) _
    refine go_a (pc' := 128) (ls' := [some (.ref h.length), some (.int (iI f)), some (.int (iI p)), some (.int (iI (c + 1))), some (.int (iI (((ar f).toNat : Int)))), y5]) (st' := []) rfl (by rw [← iI_add c 1]; rfl) ?_
    refine go_a (pc' := 62) (ls' := [some (.ref h.length), some (.int (iI f)), some (.int (iI p)), some (.int (iI (c + 1))), some (.int (iI (((ar f).toNat : Int)))), y5]) (st' := []) rfl rfl ?_
    refine ih (c + 1) I2 A2 _ _ (by omega) (by omega) (by omega) F2 f45 f76 (fun q q0 q1 => ?_)
    by_cases e : q = c
    · rw [e]
      refine ⟨?_, nl2⟩
      unfold wy
      rw [if_pos gc.2.2]
      exact nl
    · exact hz q q0 (by omega)
theorem mm_apart_rulersX (z : Value) (d : Nat) (ar : Int → Int) (fn : Nat) (f p : Int) (y4 y5 : Option Value) (h R : xx_H) (I : Nat → Int) (A : Nat → Int → Int) (N : Int → Int) (hc : 12 ≤ h.length) (hP : PW I A) (n0 : A 1 0 < 0) (f3 : 3 ≤ f) (f1 : f < 140000) (hE : EN ar I A) (hS : MST I A N) (hN : NM I A) (hT : TRX I A N) (ff : DM A N f = .var fn) (f79 : f < I 7) (p0 : 0 ≤ p) (p2 : p < I 71) (K : (∀ (I1 : Nat → Int) (A1 : Nat → Int → Int) (y3 : Option Value), FX I A I1 A1 → (∀ k : Int, 0 ≤ k → k < A 41 p → (sp_cc fn (DM A N (A 40 (64 * p + k)))).1 = []) → xx_go (xt_P z) (d + 4) 129 49 [some (.ref h.length), some (.int (iI f)), some (.int (iI p)), y3, y4, y5] [] (mh h R I1 A1 N) (fun v h1 => ∃ (I1 : Nat → Int) (A1 : Nat → Int → Int), h1 = mh h R I1 A1 N ∧ FX I A I1 A1 ∧ ((v = some (.int (iI 0)) ∧ (∃ e : Int, (0 ≤ e ∧ e < I 71) ∧ ((∃ k : Int, (0 ≤ k ∧ k < A 41 e) ∧ (sp_cc fn (DM A N (A 40 (64 * e + k)))).1 ≠ []) ∨ ∃ b : ob_T, b ∈ (sp_cc fn (DM A N (A 39 e))).1 ∧ (sp_cc fn b).2 ≠ []))) ∨ (v = some (.int (iI 1)) ∧ (∀ e : Int, 0 ≤ e → e < I 71 → NT A (wy A ar f) (A 39 e) = 0) ∧ (∀ e : Int, 0 ≤ e → e < I 71 → (∀ k : Int, 0 ≤ k → k < A 41 e → (sp_cc fn (DM A N (A 40 (64 * e + k)))).1 = []) ∧ ∀ b ∈ (sp_cc fn (DM A N (A 39 e))).1, (sp_cc fn b).2 = [])))))) : ∀ (n : Nat) (k : Int) (I1 : Nat → Int) (A1 : Nat → Int → Int), (A 41 p - k).toNat ≤ n → 0 ≤ k → k ≤ A 41 p → FX I A I1 A1 → (∀ q : Int, 0 ≤ q → q < k → (sp_cc fn (DM A N (A 40 (64 * p + q)))).1 = []) → xx_go (xt_P z) (d + 4) 129 12 [some (.ref h.length), some (.int (iI f)), some (.int (iI p)), some (.int (iI k)), y4, y5] [] (mh h R I1 A1 N) (fun v h1 => ∃ (I1 : Nat → Int) (A1 : Nat → Int → Int), h1 = mh h R I1 A1 N ∧ FX I A I1 A1 ∧ ((v = some (.int (iI 0)) ∧ (∃ e : Int, (0 ≤ e ∧ e < I 71) ∧ ((∃ k : Int, (0 ≤ k ∧ k < A 41 e) ∧ (sp_cc fn (DM A N (A 40 (64 * e + k)))).1 ≠ []) ∨ ∃ b : ob_T, b ∈ (sp_cc fn (DM A N (A 39 e))).1 ∧ (sp_cc fn b).2 ≠ []))) ∨ (v = some (.int (iI 1)) ∧ (∀ e : Int, 0 ≤ e → e < I 71 → NT A (wy A ar f) (A 39 e) = 0) ∧ (∀ e : Int, 0 ≤ e → e < I 71 → (∀ k : Int, 0 ≤ k → k < A 41 e → (sp_cc fn (DM A N (A 40 (64 * e + k)))).1 = []) ∧ ∀ b ∈ (sp_cc fn (DM A N (A 39 e))).1, (sp_cc fn b).2 = [])))) := by
  have p1 := hP.1
  have e71 := hE.1
  have hp := hE.2 p p0 p2
  intro n
  induction n with
  | zero =>
    intro k I1 A1 hn k0 km X hr
    have e41 : A1 41 = A 41 := X.2 41 (by decide) (by decide)
    have r41 : A1 41 p = A 41 p := by rw [e41]
    refine go_a (pc' := 13) (ls' := [some (.ref h.length), some (.int (iI f)), some (.int (iI p)), some (.int (iI k)), y4, y5]) (st' := [.int (iI k)]) rfl rfl ?_
    refine go_a (pc' := 14) (ls' := [some (.ref h.length), some (.int (iI f)), some (.int (iI p)), some (.int (iI k)), y4, y5]) (st' := [.ref h.length, .int (iI k)]) rfl rfl ?_
    refine go_get rfl mh_o rfl rfl ?_
    refine go_a (pc' := 18) (ls' := [some (.ref h.length), some (.int (iI f)), some (.int (iI p)), some (.int (iI k)), y4, y5]) (st' := [.int (iI p), .ref (h.length + 41), .int (iI k)]) rfl rfl ?_
    refine mi_ild rfl mh_a41 (by omega) (by omega) (by decide) ?_
    exact mi_ge (t := 49) rfl rfl (by omega) (by omega) (by omega) (by omega) (fun e9 => K I1 A1 _ X (fun q a b => hr q a (by omega))) (fun e => absurd (show A1 41 p ≤ k by omega) e)
  | succ n ih =>
    intro k I1 A1 hn k0 km X hr
    have e41 : A1 41 = A 41 := X.2 41 (by decide) (by decide)
    have r41 : A1 41 p = A 41 p := by rw [e41]
    have e40 : A1 40 = A 40 := X.2 40 (by decide) (by decide)
    have P1 := FX_PW hP X
    have e1 : A1 1 = A 1 := X.2 1 (by decide) (by decide)
    have e7 : I1 7 = I 7 := X.1 7 (by decide) (by decide)
    have tz := FX_tz (ar := ar) X
    refine go_a (pc' := 13) (ls' := [some (.ref h.length), some (.int (iI f)), some (.int (iI p)), some (.int (iI k)), y4, y5]) (st' := [.int (iI k)]) rfl rfl ?_
    refine go_a (pc' := 14) (ls' := [some (.ref h.length), some (.int (iI f)), some (.int (iI p)), some (.int (iI k)), y4, y5]) (st' := [.ref h.length, .int (iI k)]) rfl rfl ?_
    refine go_get rfl mh_o rfl rfl ?_
    refine go_a (pc' := 18) (ls' := [some (.ref h.length), some (.int (iI f)), some (.int (iI p)), some (.int (iI k)), y4, y5]) (st' := [.int (iI p), .ref (h.length + 41), .int (iI k)]) rfl rfl ?_
    refine mi_ild rfl mh_a41 (by omega) (by omega) (by decide) ?_
    refine mi_ge (t := 49) rfl rfl (by omega) (by omega) (by omega) (by omega) (fun e9 => K I1 A1 _ X (fun q a b => hr q a (by omega))) (fun e => ?_)
    have rk := hp.2.2 k k0 (by omega)
    refine go_a (pc' := 23) (ls' := [some (.ref h.length), some (.int (iI f)), some (.int (iI p)), some (.int (iI k)), y4, y5]) (st' := [.ref h.length]) rfl rfl ?_
    refine go_a (pc' := 24) (ls' := [some (.ref h.length), some (.int (iI f)), some (.int (iI p)), some (.int (iI k)), y4, y5]) (st' := [.ref h.length, .ref h.length]) rfl rfl ?_
    refine go_get rfl mh_o rfl rfl ?_
    refine go_a (pc' := 29) (ls' := [some (.ref h.length), some (.int (iI f)), some (.int (iI p)), some (.int (iI k)), y4, y5]) (st' := [.int (iI 64), .ref (h.length + 40), .ref h.length]) rfl rfl ?_
    refine go_a (pc' := 30) (ls' := [some (.ref h.length), some (.int (iI f)), some (.int (iI p)), some (.int (iI k)), y4, y5]) (st' := [.int (iI p), .int (iI 64), .ref (h.length + 40), .ref h.length]) rfl rfl ?_
    refine mi_mul rfl ?_
    refine go_a (pc' := 32) (ls' := [some (.ref h.length), some (.int (iI f)), some (.int (iI p)), some (.int (iI k)), y4, y5]) (st' := [.int (iI k), .int (iI (64 * p)), .ref (h.length + 40), .ref h.length]) rfl rfl ?_
    refine mi_add rfl ?_
    refine mi_ild rfl mh_a40 (by omega) (by omega) (by decide) ?_
    refine go_a (pc' := 35) (ls' := [some (.ref h.length), some (.int (iI f)), some (.int (iI p)), some (.int (iI k)), y4, y5]) (st' := [.int (iI f), .int (iI (A1 40 ((64 * p) + k))), .ref h.length]) rfl rfl ?_
    rw [e40]
    refine go_v (m := 130) (as := [.ref h.length, .int (iI (A 40 (64 * p + k))), .int (iI f)]) (r := []) rfl rfl rfl mh_o rfl rfl (mm_hasCallX z d ar (A 40 (64 * p + k)) f h R I1 A1 N hc P1 (by rw [e1]; exact n0) rk.1.1 (by omega) (by rw [tz.1]; exact rk.2.1) (by rw [tz.1]; omega) (by omega) f1) (fun v h1 hq => ?_)
    obtain ⟨⟨b, hb, rfl⟩, I2, A2, rfl, X2⟩ := hq
    have F2 : FX I A I2 A2 := FX_WX X X2
    show xx_go (xt_P z) (d + 4) 129 38 [some (.ref h.length), some (.int (iI f)), some (.int (iI p)), some (.int (iI k)), y4, y5] [.int (iI b)] (mh h R I2 A2 N) _
    refine mi_eq0 (t := 43) rfl rfl (by omega) (by omega) (fun e9 => ?_) (fun e9 => ?_)
    · refine go_a (pc' := 46) (ls' := [some (.ref h.length), some (.int (iI f)), some (.int (iI p)), some (.int (iI (k + 1))), y4, y5]) (st' := []) rfl (by rw [← iI_add k 1]; rfl) ?_
      refine go_a (pc' := 12) (ls' := [some (.ref h.length), some (.int (iI f)), some (.int (iI p)), some (.int (iI (k + 1))), y4, y5]) (st' := []) rfl rfl ?_
      refine ih (k + 1) I2 A2 (by omega) (by omega) (by omega) F2 (fun q a b => ?_)
      by_cases u : q = k
      · rw [u]
        rcases hb with hb | hb
        · exact hc_0 hS hN hT (by omega) f79 ff (by omega) rk.1.1 rk.1.2 (fun w hw => by
            have q := hb.2 w (fun k hk => hw k (by rw [← e1]; exact hk))
            rw [nt_12w e1 (X.2 2 (by decide) (by decide))] at q
            exact q)
        · have := hb.1
          omega
      · exact hr q a (by omega)
    · have ne9 : (sp_cc fn (DM A N (A 40 (64 * p + k)))).1 ≠ [] := by
        rcases hb with hb | hb
        · have := hb.1
          omega
        · obtain ⟨-, k9, hk, ek, hw⟩ := hb
          rw [e7] at hk hw
          rw [e1] at ek hw
          rw [nt_12e e1 (X.2 2 (by decide) (by decide))] at hw
          exact hc_1 hS hN hT (by omega) f79 ff (by omega) rk.1.1 rk.1.2 ⟨k9, hk, ek, hw⟩
      refine go_a (pc' := 42) (ls' := [some (.ref h.length), some (.int (iI f)), some (.int (iI p)), some (.int (iI k)), y4, y5]) (st' := [.int (iI 0)]) rfl rfl ?_
      exact go_r rfl rfl rfl rfl rfl rfl ⟨I2, A2, rfl, F2, Or.inl ⟨rfl, p, ⟨p0, p2⟩, Or.inl ⟨k, ⟨k0, by omega⟩, ne9⟩⟩⟩
theorem mm_apart_loopX (z : Value) (d : Nat) (ar : Int → Int) (fn : Nat) (f : Int) (h R : xx_H) (I : Nat → Int) (A : Nat → Int → Int) (N : Int → Int) (hc : 12 ≤ h.length) (hP : PW I A) (n0 : A 1 0 < 0) (f3 : 3 ≤ f) (f1 : f < 140000) (hE : EN ar I A) (hS : MST I A N) (hN : NM I A) (hT : TRX I A N) (ff : DM A N f = .var fn) (f79 : f < I 7) : ∀ (n : Nat) (p : Int) (I1 : Nat → Int) (A1 : Nat → Int → Int) (y3 y4 y5 : Option Value), (I 71 - p).toNat ≤ n → 0 ≤ p → p ≤ I 71 → FX I A I1 A1 → (∀ e : Int, 0 ≤ e → e < p → NT A (wy A ar f) (A 39 e) = 0) → (∀ e : Int, 0 ≤ e → e < p → (∀ k : Int, 0 ≤ k → k < A 41 e → (sp_cc fn (DM A N (A 40 (64 * e + k)))).1 = []) ∧ ∀ b ∈ (sp_cc fn (DM A N (A 39 e))).1, (sp_cc fn b).2 = []) → xx_go (xt_P z) (d + 4) 129 2 [some (.ref h.length), some (.int (iI f)), some (.int (iI p)), y3, y4, y5] [] (mh h R I1 A1 N) (fun v h1 => ∃ (I1 : Nat → Int) (A1 : Nat → Int → Int), h1 = mh h R I1 A1 N ∧ FX I A I1 A1 ∧ ((v = some (.int (iI 0)) ∧ (∃ e : Int, (0 ≤ e ∧ e < I 71) ∧ ((∃ k : Int, (0 ≤ k ∧ k < A 41 e) ∧ (sp_cc fn (DM A N (A 40 (64 * e + k)))).1 ≠ []) ∨ ∃ b : ob_T, b ∈ (sp_cc fn (DM A N (A 39 e))).1 ∧ (sp_cc fn b).2 ≠ []))) ∨ (v = some (.int (iI 1)) ∧ (∀ e : Int, 0 ≤ e → e < I 71 → NT A (wy A ar f) (A 39 e) = 0) ∧ (∀ e : Int, 0 ≤ e → e < I 71 → (∀ k : Int, 0 ≤ k → k < A 41 e → (sp_cc fn (DM A N (A 40 (64 * e + k)))).1 = []) ∧ ∀ b ∈ (sp_cc fn (DM A N (A 39 e))).1, (sp_cc fn b).2 = [])))) := by
  have p1 := hP.1
  have e71 := hE.1
  intro n
  induction n with
  | zero =>
    intro p I1 A1 y3 y4 y5 hn p0 pm X hz hgd
    have j71 : I1 71 = I 71 := X.1 71 (by decide) (by decide)
    refine go_a (pc' := 3) (ls' := [some (.ref h.length), some (.int (iI f)), some (.int (iI p)), y3, y4, y5]) (st' := [.int (iI p)]) rfl rfl ?_
    refine go_a (pc' := 4) (ls' := [some (.ref h.length), some (.int (iI f)), some (.int (iI p)), y3, y4, y5]) (st' := [.ref h.length, .int (iI p)]) rfl rfl ?_
    refine go_get (v := .int (iI (I1 71))) rfl mh_o rfl rfl ?_
    refine mi_ge (t := 137) rfl rfl (by omega) (by omega) (by omega) (by omega) (fun _ => ?_) (fun e => absurd (show I1 71 ≤ p by omega) e)
    refine go_a (pc' := 138) (ls' := [some (.ref h.length), some (.int (iI f)), some (.int (iI p)), y3, y4, y5]) (st' := [.int (iI 1)]) rfl rfl ?_
    exact go_r rfl rfl rfl rfl rfl rfl ⟨I1, A1, rfl, X, Or.inr ⟨rfl, fun e e0 e1 => hz e e0 (by omega), fun e e0 e1 => hgd e e0 (by omega)⟩⟩
  | succ n ih =>
    intro p I1 A1 y3 y4 y5 hn p0 pm X hz hgd
    have j71 : I1 71 = I 71 := X.1 71 (by decide) (by decide)
    refine go_a (pc' := 3) (ls' := [some (.ref h.length), some (.int (iI f)), some (.int (iI p)), y3, y4, y5]) (st' := [.int (iI p)]) rfl rfl ?_
    refine go_a (pc' := 4) (ls' := [some (.ref h.length), some (.int (iI f)), some (.int (iI p)), y3, y4, y5]) (st' := [.ref h.length, .int (iI p)]) rfl rfl ?_
    refine go_get (v := .int (iI (I1 71))) rfl mh_o rfl rfl ?_
    refine mi_ge (t := 137) rfl rfl (by omega) (by omega) (by omega) (by omega) (fun _ => ?_) (fun e => ?_)
    · refine go_a (pc' := 138) (ls' := [some (.ref h.length), some (.int (iI f)), some (.int (iI p)), y3, y4, y5]) (st' := [.int (iI 1)]) rfl rfl ?_
      exact go_r rfl rfl rfl rfl rfl rfl ⟨I1, A1, rfl, X, Or.inr ⟨rfl, fun e e0 e1 => hz e e0 (by omega), fun e e0 e1 => hgd e e0 (by omega)⟩⟩
    · have hp := hE.2 p p0 (by omega)
      refine go_a (pc' := 11) (ls' := [some (.ref h.length), some (.int (iI f)), some (.int (iI p)), y3, y4, y5]) (st' := [.int (iI 0)]) rfl rfl ?_
      refine go_a (pc' := 12) (ls' := [some (.ref h.length), some (.int (iI f)), some (.int (iI p)), some (.int (iI 0)), y4, y5]) (st' := []) rfl rfl ?_
      refine mm_apart_rulersX z d ar fn f p _ _ h R I A N hc hP n0 f3 f1 hE hS hN hT ff f79 p0 (by omega) (fun I2 A2 y3 X2 hrl => ?_) (A 41 p).toNat 0 I1 A1 (by omega) (Int.le_refl _) hp.2.1.1 X (fun q a b => absurd b (by omega))
      show xx_go (xt_P z) (d + 4) 129 49 [some (.ref h.length), some (.int (iI f)), some (.int (iI p)), y3, y4, y5] [] (mh h R I2 A2 N) _
      have P2 := FX_PW hP X2
      have e1 : A2 1 = A 1 := X2.2 1 (by decide) (by decide)
      have e2 : A2 2 = A 2 := X2.2 2 (by decide) (by decide)
      have e7 : I2 7 = I 7 := X2.1 7 (by decide) (by decide)
      have tz := FX_tz (ar := ar) X2
      have r39 : A2 39 p = A 39 p := by rw [X2.2 39 (by decide) (by decide)]
      refine go_a (pc' := 50) (ls' := [some (.ref h.length), some (.int (iI f)), some (.int (iI p)), y3, y4, y5]) (st' := [.ref h.length]) rfl rfl ?_
      refine go_a (pc' := 51) (ls' := [some (.ref h.length), some (.int (iI f)), some (.int (iI p)), y3, y4, y5]) (st' := [.ref h.length, .ref h.length]) rfl rfl ?_
      refine go_get rfl mh_o rfl rfl ?_
      refine go_a (pc' := 55) (ls' := [some (.ref h.length), some (.int (iI f)), some (.int (iI p)), y3, y4, y5]) (st' := [.int (iI p), .ref (h.length + 39), .ref h.length]) rfl rfl ?_
      refine mi_ild rfl mh_a39 (by omega) (by omega) (by decide) ?_
      refine go_a (pc' := 57) (ls' := [some (.ref h.length), some (.int (iI f)), some (.int (iI p)), y3, y4, y5]) (st' := [.int (iI f), .int (iI (A2 39 p)), .ref h.length]) rfl rfl ?_
      rw [r39]
      refine go_v (m := 131) (as := [.ref h.length, .int (iI (A 39 p)), .int (iI f)]) (r := []) rfl rfl rfl mh_o rfl rfl (mm_find z d ar (A 39 p) f h R I2 A2 N hc P2 (by rw [e1]; exact n0) hp.1.1.1 (by omega) (by rw [tz.1]; exact hp.1.2.1) (by rw [tz.1]; omega) (by omega) f1) (fun v h1 hq => ?_)
      obtain ⟨rfl, I3, A3, rfl, X3, D3, G3⟩ := hq
      have X03 := FX_tr X2 X3
      have tz3 := FX_tz (ar := ar) X03
      have f7 : I3 7 = I 7 := X03.1 7 (by decide) (by decide)
      have f1e : A3 1 = A 1 := X03.2 1 (by decide) (by decide)
      have wE := G3 (wf A ar f) (fun k hk => wf_sup k (by rw [← e1]; exact hk))
      have wY := G3 (wy A ar f) (fun k hk => wy_sup k (by rw [← e1]; exact hk))
      rw [nt_12w e1 e2] at wY
      show xx_go (xt_P z) (d + 4) 129 60 [some (.ref h.length), some (.int (iI f)), some (.int (iI p)), y3, y4, y5] [] (mh h R I3 A3 N) _
      refine go_a (pc' := 61) (ls' := [some (.ref h.length), some (.int (iI f)), some (.int (iI p)), y3, y4, y5]) (st' := [.int (iI 0)]) rfl rfl ?_
      refine go_a (pc' := 62) (ls' := [some (.ref h.length), some (.int (iI f)), some (.int (iI p)), some (.int (iI 0)), y4, y5]) (st' := []) rfl rfl ?_
      have GG : (0 ≤ I3 76 ∧ I3 76 ≤ 125) ∧ ∀ e : Int, 0 ≤ e → e < I3 76 → (0 ≤ A3 45 e ∧ A3 45 e < I 7) ∧ (1 ≤ TZ A ar (A3 45 e) ∧ TZ A ar (A3 45 e) ≤ 125) ∧ A 1 (A3 45 e) = f := by
        refine ⟨D3.1, fun e e0 e1 => ?_⟩
        have q := D3.2 e e0 e1
        rw [tz3.1, f7, f1e] at q
        exact q
      have mem : ∀ b : ob_T, b ∈ (sp_cc fn (DM A N (A 39 p))).1 ↔ ∃ e9 : Int, (0 ≤ e9 ∧ e9 < I3 76) ∧ A 1 (A3 45 e9) = f ∧ DM A N (A 2 (A3 45 e9)) = b := fun b => FD_mem hS hN hT (by omega) f79 ff (by omega) hp.1.1.1 hp.1.1.2 (fun w hw => by
        have q := G3 w (fun k hk => hw k (by rw [← e1]; exact hk))
        rw [nt_12w e1 e2] at q
        exact q)
      refine mm_apart_callsX z d ar (A3 45) fn (I3 76) f p h R I A N hc hP n0 f3 f1 hE hS hN hT ff f79 GG p0 (by omega) (fun e a b => (mem _).mpr ⟨e, ⟨a, b⟩, (GG.2 e a b).2.2, rfl⟩) (fun I4 A4 y3 y4 y5 X4 wz => ?_) (I3 76).toNat 0 I3 A3 _ _ (by omega) (Int.le_refl _) D3.1.1 X03 rfl rfl (fun e e0 e1 => absurd e1 (by omega))
      show xx_go (xt_P z) (d + 4) 129 131 [some (.ref h.length), some (.int (iI f)), some (.int (iI p)), y3, y4, y5] [] (mh h R I4 A4 N) _
      refine go_a (pc' := 134) (ls' := [some (.ref h.length), some (.int (iI f)), some (.int (iI (p + 1))), y3, y4, y5]) (st' := []) rfl (by rw [← iI_add p 1]; rfl) ?_
      refine go_a (pc' := 2) (ls' := [some (.ref h.length), some (.int (iI f)), some (.int (iI (p + 1))), y3, y4, y5]) (st' := []) rfl rfl ?_
      refine ih (p + 1) I4 A4 _ _ _ (by omega) (by omega) (by omega) X4 (fun e e0 e1 => ?_) (fun e e0 e1 => ?_)
      rotate_right
      rotate_left
      by_cases q : e = p
      · rw [q, ← wY]
        have d1 := D3.1
        have s := SG_congr (g := wy A ar f) (g1 := fun _ => 0) (f := A3 45) (f1 := A3 45) (I3 76).toNat (fun q hq => (wz q (by omega) (by omega)).1)
        rw [s]
        exact SG_zero _
      · exact hz e e0 (by omega)
      by_cases q : e = p
      · rw [q]
        refine ⟨hrl, fun b hb => ?_⟩
        obtain ⟨e9, he9, -, eb⟩ := (mem b).mp hb
        rw [← eb]
        exact (wz e9 he9.1 he9.2).2
      · exact hgd e e0 (by omega)
theorem mm_areApartX (z : Value) (d : Nat) (ar : Int → Int) (fn : Nat) (f : Int) (h R : xx_H) (I : Nat → Int) (A : Nat → Int → Int) (N : Int → Int) (hc : 12 ≤ h.length) (hP : PW I A) (n0 : A 1 0 < 0) (f3 : 3 ≤ f) (f1 : f < 140000) (hE : EN ar I A) (hS : MST I A N) (hN : NM I A) (hT : TRX I A N) (ff : DM A N f = .var fn) (f79 : f < I 7) : xx_cl (xt_P z) (d + 5) 129 [.ref h.length, .int (iI f)] (mh h R I A N) (fun v h1 => ∃ (I1 : Nat → Int) (A1 : Nat → Int → Int), h1 = mh h R I1 A1 N ∧ FX I A I1 A1 ∧ ((v = some (.int (iI 0)) ∧ (∃ e : Int, (0 ≤ e ∧ e < I 71) ∧ ((∃ k : Int, (0 ≤ k ∧ k < A 41 e) ∧ (sp_cc fn (DM A N (A 40 (64 * e + k)))).1 ≠ []) ∨ ∃ b : ob_T, b ∈ (sp_cc fn (DM A N (A 39 e))).1 ∧ (sp_cc fn b).2 ≠ []))) ∨ (v = some (.int (iI 1)) ∧ (∀ e : Int, 0 ≤ e → e < I 71 → NT A (wy A ar f) (A 39 e) = 0) ∧ (∀ e : Int, 0 ≤ e → e < I 71 → (∀ k : Int, 0 ≤ k → k < A 41 e → (sp_cc fn (DM A N (A 40 (64 * e + k)))).1 = []) ∧ ∀ b ∈ (sp_cc fn (DM A N (A 39 e))).1, (sp_cc fn b).2 = [])))) := by
  refine cl_go rfl ?_
  show xx_go (xt_P z) (d + 4) 129 0 [some (.ref h.length), some (.int (iI f)), none, none, none, none] [] (mh h R I A N) _
  refine go_a (pc' := 1) (ls' := [some (.ref h.length), some (.int (iI f)), none, none, none, none]) (st' := [.int (iI 0)]) rfl rfl ?_
  refine go_a (pc' := 2) (ls' := [some (.ref h.length), some (.int (iI f)), some (.int (iI 0)), none, none, none]) (st' := []) rfl rfl ?_
  exact mm_apart_loopX z d ar fn f h R I A N hc hP n0 f3 f1 hE hS hN hT ff f79 (I 71).toNat 0 I A none none none (by omega) (Int.le_refl _) hE.1.1 ⟨fun _ _ _ => rfl, fun _ _ _ => rfl⟩ (fun e e0 e1 => absurd e1 (by omega)) (fun e e0 e1 => absurd e1 (by omega))
