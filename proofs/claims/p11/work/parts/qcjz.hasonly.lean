def HIT (A : Nat → Int → Int) (m : Nat) (l x : Int) : Prop := ∃ j : Nat, j < m ∧ A 1 (rt A j l) = x
theorem HIT_12 {A A1 : Nat → Int → Int} {m : Nat} {l x : Int} (e1 : A1 1 = A 1) (e2 : A1 2 = A 2) : HIT A1 m l x ↔ HIT A m l x := by
  unfold HIT
  rw [show rt A1 = rt A from funext (fun j => funext (fun l => by rw [rt_12 (A := A) (A1 := A1) e2])), e1]
theorem mm_isIn_loopX (z : Value) (d : Nat) (l x : Int) (h R : xx_H) (I : Nat → Int) (A : Nat → Int → Int) (N : Int → Int) (hc : 12 ≤ h.length) (hP : PW I A) (n0 : A 1 0 < 0) (x0 : 0 ≤ x) (x1 : x < 140000) : ∀ (m : Nat) (k : Int), 0 ≤ k → k < I 7 → isL A m k → xx_go (xt_P z) d 121 2 [some (.ref h.length), some (.int (iI l)), some (.int (iI x)), some (.int (iI k))] [] (mh h R I A N) (fun v h1 => (∃ b : Int, ((b = 0 ∧ ¬ HIT A m k x) ∨ (b = 1 ∧ HIT A m k x)) ∧ v = some (.int (iI b))) ∧ h1 = mh h R I A N) := by
  have p1 := hP.1
  intro m
  induction m with
  | zero =>
    intro k k0 k1 hL
    have e : k = 0 := hL
    subst e
    refine go_a (pc' := 3) (ls' := [some (.ref h.length), some (.int (iI l)), some (.int (iI x)), some (.int (iI 0))]) (st' := [.int (iI 0)]) rfl rfl ?_
    refine mi_eq0 (t := 28) rfl rfl (by omega) (by omega) (fun _ => ?_) (fun e => absurd rfl e)
    refine go_a (pc' := 29) (ls' := [some (.ref h.length), some (.int (iI l)), some (.int (iI x)), some (.int (iI 0))]) (st' := [.int (iI 0)]) rfl rfl ?_
    exact go_r rfl rfl rfl rfl rfl rfl ⟨⟨0, Or.inl ⟨rfl, fun ⟨j, q, _⟩ => absurd q (Nat.not_lt_zero j)⟩, rfl⟩, rfl⟩
  | succ m ih =>
    intro k k0 k1 hL
    have pk := hL.1
    have q := hP.2 k k0 k1
    have q2 := q.2.2.2.2 pk
    have kz : k ≠ 0 := by
      intro e
      rw [e] at pk
      omega
    refine go_a (pc' := 3) (ls' := [some (.ref h.length), some (.int (iI l)), some (.int (iI x)), some (.int (iI k))]) (st' := [.int (iI k)]) rfl rfl ?_
    refine mi_eq0 (t := 28) rfl rfl (by omega) (by omega) (fun e => absurd e kz) (fun _ => ?_)
    refine go_a (pc' := 7) (ls' := [some (.ref h.length), some (.int (iI l)), some (.int (iI x)), some (.int (iI k))]) (st' := [.ref h.length]) rfl rfl ?_
    refine go_get rfl mh_o rfl rfl ?_
    refine go_a (pc' := 11) (ls' := [some (.ref h.length), some (.int (iI l)), some (.int (iI x)), some (.int (iI k))]) (st' := [.int (iI k), .ref (h.length + 1)]) rfl rfl ?_
    refine mi_ild rfl mh_a1 (by omega) (by omega) (by decide) ?_
    refine go_a (pc' := 13) (ls' := [some (.ref h.length), some (.int (iI l)), some (.int (iI x)), some (.int (iI k))]) (st' := [.int (iI x), .int (iI (A 1 k))]) rfl rfl ?_
    refine mi_ne (t := 18) rfl rfl (by omega) (by omega) (by omega) (by omega) (fun e8 => ?_) (fun e8 => ?_)
    · refine go_a (pc' := 19) (ls' := [some (.ref h.length), some (.int (iI l)), some (.int (iI x)), some (.int (iI k))]) (st' := [.ref h.length]) rfl rfl ?_
      refine go_get rfl mh_o rfl rfl ?_
      refine go_a (pc' := 23) (ls' := [some (.ref h.length), some (.int (iI l)), some (.int (iI x)), some (.int (iI k))]) (st' := [.int (iI k), .ref (h.length + 2)]) rfl rfl ?_
      refine mi_ild rfl mh_a2 (by omega) (by omega) (by decide) ?_
      refine go_a (pc' := 25) (ls' := [some (.ref h.length), some (.int (iI l)), some (.int (iI x)), some (.int (iI (A 2 k)))]) (st' := []) rfl rfl ?_
      refine go_a (pc' := 2) (ls' := [some (.ref h.length), some (.int (iI l)), some (.int (iI x)), some (.int (iI (A 2 k)))]) (st' := []) rfl rfl ?_
      refine go_w (fun v h1 hq => ?_) (ih (A 2 k) (by omega) (by omega) hL.2)
      obtain ⟨⟨b, hb, rfl⟩, rfl⟩ := hq
      refine ⟨⟨b, hb.imp (fun q => ⟨q.1, fun ⟨j, q1, q2⟩ => ?_⟩) (fun q => ⟨q.1, ?_⟩), rfl⟩, rfl⟩
      · cases j with
        | zero => exact absurd (show A 1 k = x from q2) (by omega)
        | succ j => exact q.2 ⟨j, by omega, q2⟩
      · obtain ⟨j, q1, q2⟩ := q.2
        exact ⟨j + 1, by omega, q2⟩
    · refine go_a (pc' := 17) (ls' := [some (.ref h.length), some (.int (iI l)), some (.int (iI x)), some (.int (iI k))]) (st' := [.int (iI 1)]) rfl rfl ?_
      exact go_r rfl rfl rfl rfl rfl rfl ⟨⟨1, Or.inr ⟨rfl, 0, Nat.succ_pos _, show A 1 k = x by omega⟩, rfl⟩, rfl⟩
theorem mm_isInX (z : Value) (d m : Nat) (l x : Int) (h R : xx_H) (I : Nat → Int) (A : Nat → Int → Int) (N : Int → Int) (hc : 12 ≤ h.length) (hP : PW I A) (n0 : A 1 0 < 0) (x0 : 0 ≤ x) (x1 : x < 140000) (k0 : 0 ≤ l) (k1 : l < I 7) (hL : isL A m l) : xx_cl (xt_P z) (d + 1) 121 [.ref h.length, .int (iI l), .int (iI x)] (mh h R I A N) (fun v h1 => (∃ b : Int, ((b = 0 ∧ ¬ HIT A m l x) ∨ (b = 1 ∧ HIT A m l x)) ∧ v = some (.int (iI b))) ∧ h1 = mh h R I A N) := by
  refine cl_go rfl ?_
  show xx_go (xt_P z) d 121 0 [some (.ref h.length), some (.int (iI l)), some (.int (iI x)), none] [] (mh h R I A N) _
  refine go_a (pc' := 1) (ls' := [some (.ref h.length), some (.int (iI l)), some (.int (iI x)), none]) (st' := [.int (iI l)]) rfl rfl ?_
  refine go_a (pc' := 2) (ls' := [some (.ref h.length), some (.int (iI l)), some (.int (iI x)), some (.int (iI l))]) (st' := []) rfl rfl ?_
  exact mm_isIn_loopX z d l x h R I A N hc hP n0 x0 x1 m l k0 k1 hL
theorem mm_hasOnly_loopX (z : Value) (d m : Nat) (o l : Int) (h R : xx_H) (I : Nat → Int) (A : Nat → Int → Int) (N : Int → Int) (hc : 12 ≤ h.length) (I1 : Nat → Int) (A1 : Nat → Int → Int) (X : VX I A I1 A1) (hP : PW I1 A1) (n0 : A1 1 0 < 0) (l0 : 0 ≤ l) (l1 : l < I1 7) (hL : isL A1 m l) (hI : ITS 125 I1 A1) (hV : ((∀ y : Int, A 1 y = -2 → 1 < y → (y ∈ ixl (A1 36) (I1 63) ↔ 0 < NT A (ivx y) o)) ∧ ∀ y ∈ ixl (A1 36) (I1 63), (A 1 y = -2 ∧ 1 < y) ∧ 0 < NT A (ivx y) o)) (e7 : I1 7 = I 7) (ea : A1 1 = A 1) (eb : A1 2 = A 2) : ∀ (n : Nat) (k : Int), (I1 63 - k).toNat ≤ n → 0 ≤ k → k ≤ 130 → (∀ q : Int, 0 ≤ q → q < k → HIT A m l (A1 36 q)) → xx_go (xt_P z) (d + 1) 117 7 [some (.ref h.length), some (.int (iI o)), some (.int (iI l)), some (.int (iI k))] [] (mh h R I1 A1 N) (fun v h1 => (∃ b : Int, ((b = 0 ∧ ¬ (∀ y : Int, 0 ≤ y → y < I 7 → A 1 y = -2 → 1 < y → 0 < NT A (ivx y) o → HIT A m l y)) ∨ (b = 1 ∧ (∀ y : Int, 0 ≤ y → y < I 7 → A 1 y = -2 → 1 < y → 0 < NT A (ivx y) o → HIT A m l y))) ∧ v = some (.int (iI b))) ∧ ∃ (I1 : Nat → Int) (A1 : Nat → Int → Int), h1 = mh h R I1 A1 N ∧ VX I A I1 A1) := by
  have p1 := hP.1
  have i1 := hI.1
  intro n
  have fin : ∀ k : Int, I1 63 ≤ k → (∀ q : Int, 0 ≤ q → q < k → HIT A m l (A1 36 q)) → (∀ y : Int, 0 ≤ y → y < I 7 → A 1 y = -2 → 1 < y → 0 < NT A (ivx y) o → HIT A m l y) := fun k hk hH y _ _ a c f => by
    obtain ⟨q, q0, q1, q2⟩ := ixl_mem.mp ((hV.1 y a c).mpr f)
    rw [← q2]
    exact hH q q0 (by omega)
  induction n with
  | zero =>
    intro k hn k0 kb hH
    refine go_a (pc' := 8) (ls' := [some (.ref h.length), some (.int (iI o)), some (.int (iI l)), some (.int (iI k))]) (st' := [.int (iI k)]) rfl rfl ?_
    refine go_a (pc' := 9) (ls' := [some (.ref h.length), some (.int (iI o)), some (.int (iI l)), some (.int (iI k))]) (st' := [.ref h.length, .int (iI k)]) rfl rfl ?_
    refine go_get (v := .int (iI (I1 63))) rfl mh_o rfl rfl ?_
    refine mi_ge (t := 37) rfl rfl (by omega) (by omega) (by omega) (by omega) (fun e8 => ?_) (fun e => absurd (show I1 63 ≤ k by omega) e)
    refine go_a (pc' := 38) (ls' := [some (.ref h.length), some (.int (iI o)), some (.int (iI l)), some (.int (iI k))]) (st' := [.int (iI 1)]) rfl rfl ?_
    exact go_r rfl rfl rfl rfl rfl rfl ⟨⟨1, Or.inr ⟨rfl, fin k e8 hH⟩, rfl⟩, I1, A1, rfl, X⟩
  | succ n ih =>
    intro k hn k0 kb hH
    refine go_a (pc' := 8) (ls' := [some (.ref h.length), some (.int (iI o)), some (.int (iI l)), some (.int (iI k))]) (st' := [.int (iI k)]) rfl rfl ?_
    refine go_a (pc' := 9) (ls' := [some (.ref h.length), some (.int (iI o)), some (.int (iI l)), some (.int (iI k))]) (st' := [.ref h.length, .int (iI k)]) rfl rfl ?_
    refine go_get (v := .int (iI (I1 63))) rfl mh_o rfl rfl ?_
    refine mi_ge (t := 37) rfl rfl (by omega) (by omega) (by omega) (by omega) (fun e8 => ?_) (fun e => ?_)
    · refine go_a (pc' := 38) (ls' := [some (.ref h.length), some (.int (iI o)), some (.int (iI l)), some (.int (iI k))]) (st' := [.int (iI 1)]) rfl rfl ?_
      exact go_r rfl rfl rfl rfl rfl rfl ⟨⟨1, Or.inr ⟨rfl, fin k e8 hH⟩, rfl⟩, I1, A1, rfl, X⟩
    · have ik := hI.2 k k0 (by omega)
      refine go_a (pc' := 16) (ls' := [some (.ref h.length), some (.int (iI o)), some (.int (iI l)), some (.int (iI k))]) (st' := [.ref h.length]) rfl rfl ?_
      refine go_a (pc' := 17) (ls' := [some (.ref h.length), some (.int (iI o)), some (.int (iI l)), some (.int (iI k))]) (st' := [.int (iI l), .ref h.length]) rfl rfl ?_
      refine go_a (pc' := 18) (ls' := [some (.ref h.length), some (.int (iI o)), some (.int (iI l)), some (.int (iI k))]) (st' := [.ref h.length, .int (iI l), .ref h.length]) rfl rfl ?_
      refine go_get rfl mh_o rfl rfl ?_
      refine go_a (pc' := 22) (ls' := [some (.ref h.length), some (.int (iI o)), some (.int (iI l)), some (.int (iI k))]) (st' := [.int (iI k), .ref (h.length + 36), .int (iI l), .ref h.length]) rfl rfl ?_
      refine mi_ild rfl mh_a36 (by omega) (by omega) (by decide) ?_
      refine go_v (m := 121) (as := [.ref h.length, .int (iI l), .int (iI (A1 36 k))]) (r := []) rfl rfl rfl mh_o rfl rfl (mm_isInX z d m l (A1 36 k) h R I1 A1 N hc hP n0 ik.1 (by omega) l0 l1 hL) (fun v h1 hq => ?_)
      obtain ⟨⟨b, hb, rfl⟩, rfl⟩ := hq
      show xx_go (xt_P z) (d + 1) 117 26 [some (.ref h.length), some (.int (iI o)), some (.int (iI l)), some (.int (iI k))] [.int (iI b)] (mh h R I1 A1 N) _
      rw [HIT_12 ea eb] at hb
      refine mi_ne0 (t := 31) rfl rfl (by omega) (by omega) (fun e8 => ?_) (fun e8 => ?_)
      · refine go_a (pc' := 34) (ls' := [some (.ref h.length), some (.int (iI o)), some (.int (iI l)), some (.int (iI (k + 1)))]) (st' := []) rfl (by rw [← iI_add k 1]; rfl) ?_
        refine go_a (pc' := 7) (ls' := [some (.ref h.length), some (.int (iI o)), some (.int (iI l)), some (.int (iI (k + 1)))]) (st' := []) rfl rfl ?_
        have hb : HIT A m l (A1 36 k) := by
          rcases hb with q | q
          · exact absurd q.1 (by omega)
          · exact q.2
        exact ih (k + 1) (by omega) (by omega) (by omega) (fun q q0 q1 => by by_cases c : q = k; rw [c]; exact hb; exact hH q q0 (by omega))
      · refine go_a (pc' := 30) (ls' := [some (.ref h.length), some (.int (iI o)), some (.int (iI l)), some (.int (iI k))]) (st' := [.int (iI 0)]) rfl rfl ?_
        have hb : ¬ HIT A m l (A1 36 k) := by
          rcases hb with q | q
          · exact q.2
          · exact absurd q.1 (by omega)
        have vk := hV.2 (A1 36 k) (ixl_mem.mpr ⟨k, k0, by omega, rfl⟩)
        exact go_r rfl rfl rfl rfl rfl rfl ⟨⟨0, Or.inl ⟨rfl, fun H => hb (H _ ik.1 (by omega) vk.1.1 vk.1.2 vk.2)⟩, rfl⟩, I1, A1, rfl, X⟩
theorem mm_hasOnlyX (z : Value) (d m : Nat) (ar : Int → Int) (o l : Int) (h R : xx_H) (I : Nat → Int) (A : Nat → Int → Int) (N : Int → Int) (hc : 12 ≤ h.length) (hP : PW I A) (n0 : A 1 0 < 0) (k0 : 0 ≤ o) (k1 : o < I 7) (k2 : 1 ≤ TZ A ar o) (k3 : TZ A ar o ≤ 125) (l0 : 0 ≤ l) (l1 : l < I 7) (hL : isL A m l) : xx_cl (xt_P z) (d + 5) 117 [.ref h.length, .int (iI o), .int (iI l)] (mh h R I A N) (fun v h1 => (∃ b : Int, ((b = 0 ∧ ¬ (∀ y : Int, 0 ≤ y → y < I 7 → A 1 y = -2 → 1 < y → 0 < NT A (ivx y) o → HIT A m l y)) ∨ (b = 1 ∧ (∀ y : Int, 0 ≤ y → y < I 7 → A 1 y = -2 → 1 < y → 0 < NT A (ivx y) o → HIT A m l y))) ∧ v = some (.int (iI b))) ∧ ∃ (I1 : Nat → Int) (A1 : Nat → Int → Int), h1 = mh h R I1 A1 N ∧ VX I A I1 A1) := by
  refine cl_go rfl ?_
  show xx_go (xt_P z) (d + 4) 117 0 [some (.ref h.length), some (.int (iI o)), some (.int (iI l)), none] [] (mh h R I A N) _
  refine go_a (pc' := 1) (ls' := [some (.ref h.length), some (.int (iI o)), some (.int (iI l)), none]) (st' := [.ref h.length]) rfl rfl ?_
  refine go_a (pc' := 2) (ls' := [some (.ref h.length), some (.int (iI o)), some (.int (iI l)), none]) (st' := [.int (iI o), .ref h.length]) rfl rfl ?_
  refine go_v (m := 118) (as := [.ref h.length, .int (iI o)]) (r := []) rfl rfl rfl mh_o rfl rfl (mm_variablesOfX z d ar o h R I A N hc hP n0 k0 k1 k2 k3) (fun v h1 hq => ?_)
  obtain ⟨rfl, I1, A1, rfl, X, D, V9⟩ := hq
  have e7 : I1 7 = I 7 := X.1 7 (by decide) (by decide)
  have e1 : A1 1 = A 1 := X.2 1 (by decide) (by decide)
  have e2 : A1 2 = A 2 := X.2 2 (by decide) (by decide)
  show xx_go (xt_P z) (d + 4) 117 5 [some (.ref h.length), some (.int (iI o)), some (.int (iI l)), none] [] (mh h R I1 A1 N) _
  refine go_a (pc' := 6) (ls' := [some (.ref h.length), some (.int (iI o)), some (.int (iI l)), none]) (st' := [.int (iI 0)]) rfl rfl ?_
  refine go_a (pc' := 7) (ls' := [some (.ref h.length), some (.int (iI o)), some (.int (iI l)), some (.int (iI 0))]) (st' := []) rfl rfl ?_
  exact mm_hasOnly_loopX z (d + 3) m o l h R I A N hc I1 A1 X (by unfold PW; rw [e7, e1, e2]; exact hP) (by rw [e1]; exact n0) l0 (by omega) (isL_12 e1 e2 _ _ hL) D V9 e7 e1 e2 (I1 63).toNat 0 (by omega) (Int.le_refl _) (by omega) (fun q a b => absurd b (by omega))
theorem ho_ov {I : Nat → Int} {A : Nat → Int → Int} {N : Int → Int} {ps : List Nat} {m : Nat} {l o : Int} (hS : MST I A N) (hN : NM I A) (hT : TRX I A N) (o0 : 0 ≤ o) (o1 : o < I 7) (l0 : 0 ≤ l) (l1 : l < I 7) (hL : isL A m l) (hv : ∀ j : Nat, j < m → A 1 (A 1 (rt A j l)) = -2) (hp : ps = (List.range m).map (fun j => sp_hc (DM A N (A 1 (rt A j l))))) : (∀ y : Int, 0 ≤ y → y < I 7 → A 1 y = -2 → 1 < y → 0 < NT A (ivx y) o → HIT A m l y) ↔ (sp_ov ps (DM A N o)).1 := by
  have hP := MST_PW hS
  rw [(ov_iff (ps := ps) hS hN hT _ o (Nat.lt_succ_self _) o0 o1).1]
  have key : ∀ y : Int, 0 ≤ y → y < I 7 → A 1 y = -2 → (HIT A m l y ↔ sp_hc (DM A N y) ∈ ps) := by
    intro y y0 y1 ay
    rw [hp, List.mem_map]
    constructor
    · intro ⟨j, q1, q2⟩
      exact ⟨j, List.mem_range.mpr q1, by rw [q2]⟩
    · intro ⟨j, q1, q2⟩
      have q1 := List.mem_range.mp q1
      refine ⟨j, q1, ?_⟩
      have r := isL_rt hP m j l l0 l1 hL q1
      have r9 := hP.2 _ r.1 (by omega)
      rcases DM_at hS r.2.2 (by omega) (by have := hv j q1; omega) with ⟨a1, -⟩ | ⟨-, v1, d1⟩
      · have := hv j q1
        omega
      · rcases DM_at hS y0 y1 (by omega) with ⟨a1, -⟩ | ⟨-, v2, d2⟩
        · omega
        · have q2 : sp_hc (DM A N (A 1 (rt A j l))) = sp_hc (DM A N y) := q2
          rw [d1, d2] at q2
          have q2 : v1 = v2 := q2
          rw [q2] at d1
          exact DM_inj ⟨hS, hT.1⟩ r.2.2 (by omega) y0 y1 (d1.trans d2.symm)
  exact ⟨fun H y y0 y1 ay yy f => (key y y0 y1 ay).mp (H y y0 y1 ay yy f), fun H y y0 y1 ay yy f => (key y y0 y1 ay).mpr (H y y0 y1 ay yy f)⟩
