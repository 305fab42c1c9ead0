def MNM (A : Nat → Int → Int) (N : Int → Int) : Prop := DM A N 0 = sp_nil ∧ DM A N 2 = .var 85168940
theorem MNM_g {I I1 : Nat → Int} {A A1 : Nat → Int → Int} {N N1 : Int → Int} (h : MNM A N) (m : MX I A N) (x : GX I A N I1 A1 N1) (i7 : 2 < I 7) : MNM A1 N1 := ⟨by rw [GX_D m x (by decide) (by omega)]; exact h.1, by rw [GX_D m x (by decide) (by omega)]; exact h.2⟩
theorem mt_list1 (z : Value) (d : Nat) (a : Int) (h R : xx_H) (I : Nat → Int) (A : Nat → Int → Int) (N : Int → Int) (hc : 12 ≤ h.length) (hS : MX I A N) (hM : MNM A N) (ho : I 7 + 1 ≤ 140000) (z0 : 2 < I 7) (a0 : 0 ≤ a) (a1 : a < I 7) : xx_cl (xt_P z) (d + 3) 89 [.ref h.length, .int (iI a)] (mh h R I A N) (fun v h1 => ∃ (k : Int) (I1 : Nat → Int) (A1 : Nat → Int → Int), v = some (.int (iI k)) ∧ h1 = mh h R I1 A1 N ∧ GX I A N I1 A1 N ∧ (0 ≤ k ∧ k < I1 7) ∧ DM A1 N k = .add (DM A N a) sp_nil ∧ I1 7 ≤ I 7 + 1 ∧ I1 10 = I 10 ∧ (MHT I A N → MHT I1 A1 N) ∧ A1 1 k = a ∧ A1 2 k = 0) := by
  refine cl_go rfl ?_
  show xx_go (xt_P z) (d + 2) 89 0 [some (.ref h.length), some (.int (iI a))] [] (mh h R I A N) _
  refine go_a (pc' := 1) (ls' := [some (.ref h.length), some (.int (iI a))]) (st' := [.ref h.length]) rfl rfl ?_
  refine go_a (pc' := 2) (ls' := [some (.ref h.length), some (.int (iI a))]) (st' := [.int (iI a), .ref h.length]) rfl rfl ?_
  refine go_a (pc' := 3) (ls' := [some (.ref h.length), some (.int (iI a))]) (st' := [.int (iI 0), .int (iI a), .ref h.length]) rfl rfl ?_
  refine go_v (m := 85) (as := [.ref h.length, .int (iI a), .int (iI 0)]) (r := []) rfl rfl rfl mh_o rfl rfl (mt_pair z d a 0 h R I A N hc hS (by omega) a0 a1 (by omega) (by omega)) (fun v h1 hq => ?_)
  obtain ⟨k, I1, A1, rfl, rfl, X, kk, e1, e2, e3, e4, e5, e6, -⟩ := hq
  rw [hM.1] at e3
  exact go_r rfl rfl rfl rfl rfl rfl ⟨k, I1, A1, rfl, rfl, X, kk, e3, e4, e5, e6, e1, e2⟩
theorem mt_quote (z : Value) (d : Nat) (v : Int) (h R : xx_H) (I : Nat → Int) (A : Nat → Int → Int) (N : Int → Int) (hc : 12 ≤ h.length) (hS : MX I A N) (hM : MNM A N) (ho : I 7 + 2 ≤ 140000) (z0 : 2 < I 7) (v0 : 0 ≤ v) (v1 : v < I 7) : xx_cl (xt_P z) (d + 4) 88 [.ref h.length, .int (iI 2), .int (iI v)] (mh h R I A N) (fun w h1 => ∃ (k : Int) (I1 : Nat → Int) (A1 : Nat → Int → Int), w = some (.int (iI k)) ∧ h1 = mh h R I1 A1 N ∧ GX I A N I1 A1 N ∧ (0 ≤ k ∧ k < I1 7) ∧ DM A1 N k = sp_q (DM A N v) ∧ I1 7 ≤ I 7 + 2 ∧ I1 10 = I 10 ∧ (MHT I A N → MHT I1 A1 N) ∧ A1 1 k = 2 ∧ 0 ≤ A1 2 k ∧ A1 1 (A1 2 k) = v ∧ A1 2 (A1 2 k) = 0) := by
  refine cl_go rfl ?_
  show xx_go (xt_P z) (d + 3) 88 0 [some (.ref h.length), some (.int (iI 2)), some (.int (iI v))] [] (mh h R I A N) _
  refine go_a (pc' := 1) (ls' := [some (.ref h.length), some (.int (iI 2)), some (.int (iI v))]) (st' := [.ref h.length]) rfl rfl ?_
  refine go_a (pc' := 2) (ls' := [some (.ref h.length), some (.int (iI 2)), some (.int (iI v))]) (st' := [.int (iI 2), .ref h.length]) rfl rfl ?_
  refine go_a (pc' := 3) (ls' := [some (.ref h.length), some (.int (iI 2)), some (.int (iI v))]) (st' := [.ref h.length, .int (iI 2), .ref h.length]) rfl rfl ?_
  refine go_a (pc' := 4) (ls' := [some (.ref h.length), some (.int (iI 2)), some (.int (iI v))]) (st' := [.int (iI v), .ref h.length, .int (iI 2), .ref h.length]) rfl rfl ?_
  refine go_v (m := 89) (as := [.ref h.length, .int (iI v)]) (r := [.int (iI 2), .ref h.length]) rfl rfl rfl mh_o rfl rfl (mt_list1 z d v h R I A N hc hS hM (by omega) z0 v0 v1) (fun w h1 hq => ?_)
  obtain ⟨k, I1, A1, rfl, rfl, X, kk, e3, e4, e5, e6, e1, e2⟩ := hq
  have x2 := X.2.1.2.1
  have M1 := MNM_g hM hS X z0
  show xx_go (xt_P z) (d + 3) 88 7 [some (.ref h.length), some (.int (iI 2)), some (.int (iI v))] [.int (iI k), .int (iI 2), .ref h.length] (mh h R I1 A1 N) _
  refine go_v (m := 85) (as := [.ref h.length, .int (iI 2), .int (iI k)]) (r := []) rfl rfl rfl mh_o rfl rfl (mt_pair z (d + 1) 2 k h R I1 A1 N hc (GX_M X) (by omega) (by decide) (by omega) kk.1 kk.2) (fun w h2 hq => ?_)
  obtain ⟨k2, I2, A2, rfl, rfl, X2, kk2, f1, f2, f3, f4, f5, f6, -⟩ := hq
  have y2 := X2.2.1.2.2.1 k kk.1 kk.2
  rw [M1.2, e3] at f3
  exact go_r rfl rfl rfl rfl rfl rfl ⟨k2, I2, A2, rfl, rfl, GX_tr X X2, kk2, f3, by omega, by omega, fun q => f6 (e6 q), f1, by omega, by rw [f2, y2.1]; exact e1, by rw [f2, y2.2.1]; exact e2⟩
def RIm (A : Nat → Int → Int) (N : Int → Int) : List ob_T → Int → Prop
  | [], _ => True
  | x :: l, e => 1 ≤ e ∧ DM A N (A 19 (e - 1)) = x ∧ RIm A N l (e - 1)
def sp_im (k : Int) (l : List ob_T) : List ob_T := if k = 6 then l.tail else l
def MFk (A : Nat → Int → Int) (N : Int → Int) (k : Int) (l : List ob_T) (j : Int) : Prop := (k = 2 ∧ A 15 j = 1) ∨ (A 15 j = 0 ∧ (((k = 3 ∨ k = 4) ∧ A 17 j = 0) ∨ (k = 5 ∧ A 17 j = 1) ∨ (k = 6 ∧ A 17 j = 2 ∧ l.head? = some (DM A N (A 18 j)))))
def RRm (I : Nat → Int) (A : Nat → Int → Int) (N : Int → Int) : sp_F → Int → Int → Prop
  | [], _, _ => False
  | [(k, l)], i, e => i = 0 ∧ e = 0 ∧ ((k = 0 ∧ I 31 = 0) ∨ (k = 1 ∧ I 31 = 1 ∧ l = [DM A N (I 30)]))
  | (k, l) :: f :: r, i, e => 1 ≤ i ∧ MFk A N k l (i - 1) ∧ (k ≠ 2 → A 16 (i - 1) = e - (sp_im k l).length) ∧ (0 ≤ e - (sp_im k l).length ∧ RIm A N (sp_im k l) e) ∧ RRm I A N (f :: r) (i - 1) (e - (sp_im k l).length)
section RMS
variable {I I1 : Nat → Int} {A A1 : Nat → Int → Int} {N N1 : Int → Int}
theorem RIm_ext : ∀ (l : List ob_T) (e : Int), (∀ k : Int, 0 ≤ k → k < e → A1 19 k = A 19 k ∧ DM A1 N1 (A 19 k) = DM A N (A 19 k)) → RIm A N l e → RIm A1 N1 l e
  | [], _, _, _ => trivial
  | x :: l, e, h, hr => by
    obtain ⟨h1, h2, h3⟩ := hr
    have q := h (e - 1) (by omega) (by omega)
    exact ⟨h1, by rw [q.1, q.2]; exact h2, RIm_ext l (e - 1) (fun k k0 k1 => h k k0 (by omega)) h3⟩
def MFe (A : Nat → Int → Int) (N : Int → Int) (A1 : Nat → Int → Int) (N1 : Int → Int) (j : Int) : Prop := A1 15 j = A 15 j ∧ A1 16 j = A 16 j ∧ A1 17 j = A 17 j ∧ (A 17 j = 2 → A1 18 j = A 18 j ∧ DM A1 N1 (A 18 j) = DM A N (A 18 j))
theorem MFk_ext {k : Int} {l : List ob_T} {j : Int} (h : MFe A N A1 N1 j) (q : MFk A N k l j) : MFk A1 N1 k l j := by
  obtain ⟨h1, h2, h3, h4⟩ := h
  unfold MFk at q ⊢
  rw [h1, h3]
  rcases q with q | ⟨q1, q | q | ⟨q2, q3, q4⟩⟩
  · exact Or.inl q
  · exact Or.inr ⟨q1, Or.inl q⟩
  · exact Or.inr ⟨q1, Or.inr (Or.inl q)⟩
  · have h5 := h4 q3
    exact Or.inr ⟨q1, Or.inr (Or.inr ⟨q2, q3, by rw [h5.1, h5.2]; exact q4⟩)⟩
theorem RRm_ext (e31 : I1 31 = I 31) (e30 : I 31 = 1 → I1 30 = I 30 ∧ DM A1 N1 (I 30) = DM A N (I 30)) : ∀ (F : sp_F) (i e : Int), (∀ k : Int, 0 ≤ k → k < i → MFe A N A1 N1 k) → (∀ k : Int, 0 ≤ k → k < e → A1 19 k = A 19 k ∧ DM A1 N1 (A 19 k) = DM A N (A 19 k)) → RRm I A N F i e → RRm I1 A1 N1 F i e
  | [], _, _, _, _, h => h
  | [(k, l)], i, e, _, _, h => by
    obtain ⟨h1, h2, h3⟩ := h
    refine ⟨h1, h2, ?_⟩
    rcases h3 with h3 | ⟨h3, h4, h5⟩
    · exact Or.inl ⟨h3.1, by rw [e31]; exact h3.2⟩
    · have q := e30 h4
      exact Or.inr ⟨h3, by rw [e31]; exact h4, by rw [q.1, q.2]; exact h5⟩
  | (k, l) :: f :: r, i, e, h1, h2, h => by
    obtain ⟨a1, a2, a3, ⟨a4, a5⟩, a6⟩ := h
    have q := h1 (i - 1) (by omega) (by omega)
    exact ⟨a1, MFk_ext q a2, fun w => by rw [q.2.1]; exact a3 w, ⟨a4, RIm_ext _ e h2 a5⟩, RRm_ext e31 e30 (f :: r) (i - 1) _ (fun k k0 k1 => h1 k k0 (by omega)) (fun k k0 k1 => h2 k k0 (by omega)) a6⟩
end RMS
