def wq : Int → Int := fun k => if k = 2 then 1 else 0
theorem wq_nn (k : Int) : 0 ≤ wq k := by
  unfold wq
  split <;> decide
def DR (ar : Int → Int) (m s v : Int) (I : Nat → Int) (A : Nat → Int → Int) : Prop := (0 ≤ I 67 ∧ I 67 ≤ m) ∧ (∀ k : Int, 0 ≤ k → k < I 67 → (0 ≤ A 38 k ∧ A 38 k < I 7) ∧ 1 ≤ TZ A ar (A 38 k) ∧ (I 49 = 0 → TZ A ar (A 38 k) ≤ 120)) ∧ SG (TZ A ar) (A 38) (I 67).toNat ≤ s ∧ SG (NT A wq) (A 38) (I 67).toNat ≤ v
def CLA (ar : Int → Int) (I : Nat → Int) (A : Nat → Int → Int) (c : Int) : Prop := (0 ≤ A 51 c ∧ A 51 c ≤ 30) ∧ (∀ k : Int, 0 ≤ k → k < A 51 c → (0 ≤ A 50 (30 * c + k) ∧ A 50 (30 * c + k) < I 7) ∧ 1 ≤ TZ A ar (A 50 (30 * c + k)) ∧ TZ A ar (A 50 (30 * c + k)) ≤ 120) ∧ SG (TZ A ar) (fun k => A 50 (30 * c + k)) (A 51 c).toNat ≤ 400
def DX (I : Nat → Int) (A : Nat → Int → Int) (I1 : Nat → Int) (A1 : Nat → Int → Int) : Prop := (∀ j : Nat, j ≠ 67 → I1 j = I j) ∧ ∀ a : Nat, a ≠ 38 → A1 a = A a
theorem DX_rf {I : Nat → Int} {A : Nat → Int → Int} : DX I A I A := ⟨fun _ _ => rfl, fun _ _ => rfl⟩
theorem DX_tr {I I1 I2 : Nat → Int} {A A1 A2 : Nat → Int → Int} (x : DX I A I1 A1) (y : DX I1 A1 I2 A2) : DX I A I2 A2 := ⟨fun j p => (y.1 j p).trans (x.1 j p), fun a p => (y.2 a p).trans (x.2 a p)⟩
theorem DX_tz {ar : Int → Int} {I I1 : Nat → Int} {A A1 : Nat → Int → Int} (x : DX I A I1 A1) : TZ A1 ar = TZ A ar ∧ LZ A1 ar = LZ A ar ∧ CZ A1 ar = CZ A ar := TZ_124 (x.2 1 (by decide)) (x.2 2 (by decide)) (x.2 4 (by decide))
theorem NT_12 {A A1 : Nat → Int → Int} {w : Int → Int} (e1 : A1 1 = A 1) (e2 : A1 2 = A 2) : NT A1 w = NT A w ∧ NL A1 w = NL A w := by
  have x : ∀ (f : Nat) (k : Int), nt A1 w f k = nt A w f k := by
    intro f
    induction f with
    | zero => intro k; rfl
    | succ f ih => intro k; rw [nt_succ, nt_succ, e1, e2, ih, ih]
  exact ⟨by funext k; unfold NT; rw [x], by funext k; unfold NL; rw [x]⟩
theorem DX_nt {w : Int → Int} {I I1 : Nat → Int} {A A1 : Nat → Int → Int} (x : DX I A I1 A1) : NT A1 w = NT A w := (NT_12 (x.2 1 (by decide)) (x.2 2 (by decide))).1
theorem DR_w {ar : Int → Int} {m m1 s s1 v v1 : Int} {I : Nat → Int} {A : Nat → Int → Int} (h : DR ar m s v I A) (w : m ≤ m1) (ws : s ≤ s1) (wv : v ≤ v1) : DR ar m1 s1 v1 I A := ⟨⟨h.1.1, by have := h.1.2; omega⟩, h.2.1, by have := h.2.2.1; omega, by have := h.2.2.2; omega⟩
theorem DR_BX {F G : Nat → Prop} {ar : Int → Int} {m s v : Int} {I I1 : Nat → Int} {A A1 : Nat → Int → Int} {N N1 : Int → Int} (hP : PW I A) (h : DR ar m s v I A) (x : BX F G I A N I1 A1 N1) (f : ¬ F 67) (g : ¬ G 38) (u : I1 49 = 0 → I 49 = 0) : DR ar m s v I1 A1 := by
  have x7 := x.2.1
  unfold DR
  rw [x.2.2.2.1 67 (by decide) f, x.2.2.2.2 38 (by decide) (by decide) (by decide) (by decide) (by decide) (by decide) g]
  have tz : ∀ e : Nat, e < (I 67).toNat → (0 ≤ A 38 e ∧ A 38 e < I 7) ∧ TZ A1 ar (A 38 e) = TZ A ar (A 38 e) := fun e he => by
    have q := h.2.1 e (by omega) (by omega)
    exact ⟨q.1, (TZ_BX hP x q.1.1 q.1.2).1 q.2.1⟩
  refine ⟨h.1, fun k k0 k1 => ?_, ?_, ?_⟩
  · have q := h.2.1 k k0 k1
    rw [(TZ_BX hP x q.1.1 q.1.2).1 q.2.1]
    exact ⟨⟨q.1.1, by omega⟩, q.2.1, fun e => q.2.2 (u e)⟩
  · rw [SG_congr (g1 := TZ A ar) (f1 := A 38) _ (fun e he => (tz e he).2)]
    exact h.2.2.1
  · rw [SG_congr (g1 := NT A wq) (f1 := A 38) _ (fun e he => (NT_ext hP (fun k a b => ⟨(x.2.2.1 k a b).1, (x.2.2.1 k a b).2.1⟩) (fun _ _ _ => rfl) (tz e he).1.1 (tz e he).1.2).1)]
    exact h.2.2.2
theorem DR_DX {ar : Int → Int} {m s v : Int} {I I1 : Nat → Int} {A A1 : Nat → Int → Int} (h : DR ar m s v I A) (f : ∀ j : Nat, j ≠ 67 → I1 j = I j) (f67 : I1 67 = I 67) (g1 : A1 1 = A 1) (g2 : A1 2 = A 2) (g4 : A1 4 = A 4) (g38 : A1 38 = A 38) : DR ar m s v I1 A1 := by
  unfold DR
  rw [f67, f 7 (by decide), f 49 (by decide), g38, (TZ_124 (A := A) (A1 := A1) (ar := ar) g1 g2 g4).1, (NT_12 (A := A) (A1 := A1) (w := wq) g1 g2).1]
  exact h
def ixl (f : Int → Int) (n : Int) : List Int := (List.range n.toNat).map (fun (j : Nat) => f (j : Int))
def pui (L : List Int) (x : Int) : List Int := if x ∈ L then L else L ++ [x]
def pof (A : Nat → Int → Int) (c b k : Int) (L : List Int) : List Int := ((ixl (fun q => A 50 (30 * c + q)) k).filter (fun q => q != b)).foldl pui L
theorem ixl_mem {f : Int → Int} {n x : Int} : x ∈ ixl f n ↔ ∃ e : Int, 0 ≤ e ∧ e < n ∧ f e = x := by
  unfold ixl
  rw [List.mem_map]
  constructor
  · rintro ⟨j, hj, e⟩
    have hj := List.mem_range.mp hj
    exact ⟨j, by omega, by omega, e⟩
  · rintro ⟨e, e0, e1, e2⟩
    refine ⟨e.toNat, List.mem_range.mpr (by omega), ?_⟩
    rw [show ((e.toNat : Nat) : Int) = e by omega]
    exact e2
theorem ixl_0 {f : Int → Int} : ixl f 0 = [] := rfl
theorem ixl_s {f : Int → Int} {n : Int} (h : 0 ≤ n) : ixl f (n + 1) = ixl f n ++ [f n] := by
  unfold ixl
  rw [show (n + 1).toNat = n.toNat + 1 by omega, List.range_succ, List.map_append]
  show _ ++ [f ((n.toNat : Nat) : Int)] = _
  rw [show ((n.toNat : Nat) : Int) = n by omega]
theorem ixl_congr {f g : Int → Int} {n : Int} (h : ∀ e : Int, 0 ≤ e → e < n → f e = g e) : ixl f n = ixl g n := by
  unfold ixl
  refine List.map_congr_left (fun j hj => ?_)
  have hj := List.mem_range.mp hj
  exact h j (by omega) (by omega)
theorem ixl_push {f : Int → Int} {n x : Int} (h : 0 ≤ n) : ixl (sf f n x) (n + 1) = ixl f n ++ [x] := by
  rw [ixl_s h, sf_self, ixl_congr (g := f) (fun e _ e1 => sf_ne (by omega))]
theorem pui_no {L : List Int} {x : Int} (h : ¬ x ∈ L) : pui L x = L ++ [x] := if_neg h
theorem pui_yes {L : List Int} {x : Int} (h : x ∈ L) : pui L x = L := if_pos h
theorem pof_0 {A : Nat → Int → Int} {c b : Int} {L : List Int} : pof A c b 0 L = L := rfl
theorem pof_ne {A : Nat → Int → Int} {c b k : Int} {L : List Int} (h : 0 ≤ k) (e : ¬ A 50 (30 * c + k) = b) : pof A c b (k + 1) L = pui (pof A c b k L) (A 50 (30 * c + k)) := by
  unfold pof
  rw [ixl_s h, List.filter_append, List.foldl_append, List.filter_cons, if_pos (by simpa using e)]
  rfl
theorem pof_eq {A : Nat → Int → Int} {c b k : Int} {L : List Int} (h : 0 ≤ k) (e : A 50 (30 * c + k) = b) : pof A c b (k + 1) L = pof A c b k L := by
  unfold pof
  rw [ixl_s h, List.filter_append, List.foldl_append, List.filter_cons, if_neg (by simpa using e)]
  rfl
theorem mm_put_loop (z : Value) (d : Nat) (ar : Int → Int) (m s v9 x : Int) (h R : xx_H) (I : Nat → Int) (A : Nat → Int → Int) (N : Int → Int) (hc : 12 ≤ h.length) (hP : PW I A) (hD : DR ar m s v9 I A) (m1 : m < 1200) (x0 : 0 ≤ x) (x1 : x < I 7) (x2 : 1 ≤ TZ A ar x) (x3 : I 49 = 0 → TZ A ar x ≤ 120) (i7 : I 7 ≤ 140000) : ∀ (n : Nat) (k : Int), (I 67 - k).toNat ≤ n → 0 ≤ k → k ≤ 1200 → (∀ e : Int, 0 ≤ e → e < k → e < I 67 → A 38 e ≠ x) → xx_go (xt_P z) d 155 2 [some (.ref h.length), some (.int (iI x)), some (.int (iI k))] [] (mh h R I A N) (fun v h1 => v = none ∧ ∃ (I1 : Nat → Int) (A1 : Nat → Int → Int), h1 = mh h R I1 A1 N ∧ DX I A I1 A1 ∧ DR ar (m + 1) (s + TZ A ar x) (v9 + NT A wq x) I1 A1 ∧ ixl (A1 38) (I1 67) = pui (ixl (A 38) (I 67)) x) := by
  have d1 := hD.1
  have nq : 0 ≤ NT A wq x := (NT_nn hP (fun j _ _ => wq_nn j) _ x (Nat.lt_succ_self _) x0 x1).1
  have fin : ∀ k : Int, (∀ e : Int, 0 ≤ e → e < I 67 → A 38 e ≠ x) → xx_go (xt_P z) d 155 27 [some (.ref h.length), some (.int (iI x)), some (.int (iI k))] [] (mh h R I A N) (fun v h1 => v = none ∧ ∃ (I1 : Nat → Int) (A1 : Nat → Int → Int), h1 = mh h R I1 A1 N ∧ DX I A I1 A1 ∧ DR ar (m + 1) (s + TZ A ar x) (v9 + NT A wq x) I1 A1 ∧ ixl (A1 38) (I1 67) = pui (ixl (A 38) (I 67)) x) := by
    intro k hx
    refine go_a (pc' := 28) (ls' := [some (.ref h.length), some (.int (iI x)), some (.int (iI k))]) (st' := [.ref h.length]) rfl rfl ?_
    refine go_get rfl mh_o rfl rfl ?_
    refine go_a (pc' := 32) (ls' := [some (.ref h.length), some (.int (iI x)), some (.int (iI k))]) (st' := [.ref h.length, .ref (h.length + 38)]) rfl rfl ?_
    refine go_get (v := .int (iI (I 67))) rfl mh_o rfl rfl ?_
    refine go_a (pc' := 36) (ls' := [some (.ref h.length), some (.int (iI x)), some (.int (iI k))]) (st' := [.int (iI x), .int (iI (I 67)), .ref (h.length + 38)]) rfl rfl ?_
    refine mi_ist rfl mh_a38 (show 12 ≤ _ by omega) (by omega) (by omega) (by decide) ?_
    rw [mh_w38 (by omega)]
    refine go_a (pc' := 38) (ls' := [some (.ref h.length), some (.int (iI x)), some (.int (iI k))]) (st' := [.ref h.length]) rfl rfl ?_
    refine go_a (pc' := 39) (ls' := [some (.ref h.length), some (.int (iI x)), some (.int (iI k))]) (st' := [.ref h.length, .ref h.length]) rfl rfl ?_
    refine go_get (v := .int (iI (I 67))) rfl mh_o rfl rfl ?_
    refine go_a (pc' := 43) (ls' := [some (.ref h.length), some (.int (iI x)), some (.int (iI k))]) (st' := [.int (iI 1), .int (iI (I 67)), .ref h.length]) rfl rfl ?_
    refine mi_add rfl ?_
    refine go_put (j := 67) rfl mh_o rfl rfl (show 12 ≤ _ from hc) (show 67 < 86 by decide) rfl rfl ?_
    rw [mh_p67]
    refine go_r rfl rfl rfl rfl rfl rfl ⟨rfl, _, _, rfl, ⟨fun j p => su_ne p, fun a p => sa_ne p⟩, ⟨⟨(show 0 ≤ I 67 + 1 by omega), (show I 67 + 1 ≤ m + 1 by omega)⟩, fun q q0 q1 => ?_, ?_, ?_⟩, ?_⟩
    · have q1 : q < I 67 + 1 := q1
      rw [(TZ_124 (A := A) (A1 := sa A 38 (I 67) x) (ar := ar) rfl rfl rfl).1]
      show (0 ≤ sf (A 38) (I 67) x q ∧ sf (A 38) (I 67) x q < I 7) ∧ 1 ≤ TZ A ar (sf (A 38) (I 67) x q) ∧ (I 49 = 0 → TZ A ar (sf (A 38) (I 67) x q) ≤ 120)
      by_cases e : q = I 67
      · rw [e, sf_self]
        exact ⟨⟨x0, x1⟩, x2, x3⟩
      · rw [sf_ne e]
        exact hD.2.1 q q0 (by omega)
    · rw [(TZ_124 (A := A) (A1 := sa A 38 (I 67) x) (ar := ar) rfl rfl rfl).1]
      show SG (TZ A ar) (sf (A 38) (I 67) x) (I 67 + 1).toNat ≤ _
      rw [SG_push d1.1]
      have := hD.2.2.1
      omega
    · rw [(NT_12 (A := A) (A1 := sa A 38 (I 67) x) (w := wq) rfl rfl).1]
      show SG (NT A wq) (sf (A 38) (I 67) x) (I 67 + 1).toNat ≤ _
      rw [SG_push d1.1]
      have := hD.2.2.2
      omega
    · show ixl (sf (A 38) (I 67) x) (I 67 + 1) = _
      rw [ixl_push d1.1, pui_no (fun h => by obtain ⟨e, a, b, c⟩ := ixl_mem.mp h; exact hx e a b c)]
  intro n
  induction n with
  | zero =>
    intro k hn k0 kb hx
    refine go_a (pc' := 3) (ls' := [some (.ref h.length), some (.int (iI x)), some (.int (iI k))]) (st' := [.int (iI k)]) rfl rfl ?_
    refine go_a (pc' := 4) (ls' := [some (.ref h.length), some (.int (iI x)), some (.int (iI k))]) (st' := [.ref h.length, .int (iI k)]) rfl rfl ?_
    refine go_get (v := .int (iI (I 67))) rfl mh_o rfl rfl ?_
    exact mi_ge (t := 27) rfl rfl (by omega) (by omega) (by omega) (by omega) (fun _ => fin k (fun e a b => hx e a (by omega) b)) (fun e => absurd (show I 67 ≤ k by omega) e)
  | succ n ih =>
    intro k hn k0 kb hx
    refine go_a (pc' := 3) (ls' := [some (.ref h.length), some (.int (iI x)), some (.int (iI k))]) (st' := [.int (iI k)]) rfl rfl ?_
    refine go_a (pc' := 4) (ls' := [some (.ref h.length), some (.int (iI x)), some (.int (iI k))]) (st' := [.ref h.length, .int (iI k)]) rfl rfl ?_
    refine go_get (v := .int (iI (I 67))) rfl mh_o rfl rfl ?_
    refine mi_ge (t := 27) rfl rfl (by omega) (by omega) (by omega) (by omega) (fun _ => fin k (fun e a b => hx e a (by omega) b)) (fun e => ?_)
    have dk := hD.2.1 k k0 (by omega)
    refine go_a (pc' := 11) (ls' := [some (.ref h.length), some (.int (iI x)), some (.int (iI k))]) (st' := [.ref h.length]) rfl rfl ?_
    refine go_get rfl mh_o rfl rfl ?_
    refine go_a (pc' := 15) (ls' := [some (.ref h.length), some (.int (iI x)), some (.int (iI k))]) (st' := [.int (iI k), .ref (h.length + 38)]) rfl rfl ?_
    refine mi_ild rfl mh_a38 (by omega) (by omega) (by decide) ?_
    refine go_a (pc' := 17) (ls' := [some (.ref h.length), some (.int (iI x)), some (.int (iI k))]) (st' := [.int (iI x), .int (iI (A 38 k))]) rfl rfl ?_
    refine mi_ne (t := 21) rfl rfl (by omega) (by omega) (by omega) (by omega) (fun xn => ?_) (fun xe => ?_)
    · refine go_a (pc' := 24) (ls' := [some (.ref h.length), some (.int (iI x)), some (.int (iI (k + 1)))]) (st' := []) rfl (by rw [← iI_add k 1]; rfl) ?_
      refine go_a (pc' := 2) (ls' := [some (.ref h.length), some (.int (iI x)), some (.int (iI (k + 1)))]) (st' := []) rfl rfl ?_
      refine ih (k + 1) (by omega) (by omega) (by omega) (fun e e0 e1 e2 => ?_)
      by_cases ek : e = k
      · rw [ek]
        omega
      · exact hx e e0 (by omega) e2
    · exact go_r rfl rfl rfl rfl rfl rfl ⟨rfl, I, A, rfl, DX_rf, DR_w hD (by omega) (by omega) (by omega), (pui_yes (ixl_mem.mpr ⟨k, k0, by omega, by omega⟩)).symm⟩
theorem mm_put (z : Value) (d : Nat) (ar : Int → Int) (m s v9 x : Int) (h R : xx_H) (I : Nat → Int) (A : Nat → Int → Int) (N : Int → Int) (hc : 12 ≤ h.length) (hP : PW I A) (hD : DR ar m s v9 I A) (m1 : m < 1200) (x0 : 0 ≤ x) (x1 : x < I 7) (x2 : 1 ≤ TZ A ar x) (x3 : I 49 = 0 → TZ A ar x ≤ 120) (i7 : I 7 ≤ 140000) : xx_cl (xt_P z) (d + 1) 155 [.ref h.length, .int (iI x)] (mh h R I A N) (fun v h1 => v = none ∧ ∃ (I1 : Nat → Int) (A1 : Nat → Int → Int), h1 = mh h R I1 A1 N ∧ DX I A I1 A1 ∧ DR ar (m + 1) (s + TZ A ar x) (v9 + NT A wq x) I1 A1 ∧ ixl (A1 38) (I1 67) = pui (ixl (A 38) (I 67)) x) := by
  have d1 := hD.1
  refine cl_go rfl ?_
  show xx_go (xt_P z) d 155 0 [some (.ref h.length), some (.int (iI x)), none] [] (mh h R I A N) _
  refine go_a (pc' := 1) (ls' := [some (.ref h.length), some (.int (iI x)), none]) (st' := [.int (iI 0)]) rfl rfl ?_
  refine go_a (pc' := 2) (ls' := [some (.ref h.length), some (.int (iI x)), some (.int (iI 0))]) (st' := []) rfl rfl ?_
  exact mm_put_loop z d ar m s v9 x h R I A N hc hP hD m1 x0 x1 x2 x3 i7 (I 67).toNat 0 (by omega) (Int.le_refl _) (by decide) (fun e e0 e1 _ => absurd e1 (by omega))
theorem mm_bounded_loop (z : Value) (d : Nat) (ar : Int → Int) (h R : xx_H) (I : Nat → Int) (A : Nat → Int → Int) (N : Int → Int) (hc : 12 ≤ h.length) (hP : PW I A) (hZ : SZI ar I A) (s9 v9 : Int) (hD : DR ar 1200 s9 v9 I A) (u0 : 0 ≤ I 49) (u1 : I 49 ≤ 4) : ∀ (n : Nat) (s k : Int), (I 67 - k).toNat ≤ n → 0 ≤ k → k ≤ I 67 → 0 ≤ s → s ≤ 30000 * k → (s = SG (TZ A ar) (A 38) k.toNat ∨ (400 < s ∧ 400 < SG (TZ A ar) (A 38) k.toNat)) → xx_go (xt_P z) (d + 3) 170 4 [some (.ref h.length), some (.int (iI s)), some (.int (iI k))] [] (mh h R I A N) (fun v h1 => v = none ∧ ∃ I1 : Nat → Int, h1 = mh h R I1 A N ∧ (∀ j : Nat, j ≠ 49 → I1 j = I j) ∧ (0 ≤ I1 49 ∧ I1 49 ≤ 4) ∧ (¬ I 49 = 0 → I1 49 = I 49) ∧ (I1 49 = 0 → I 67 ≤ 30 ∧ SG (TZ A ar) (A 38) (I 67).toNat ≤ 400) ∧ (I 49 = 0 → I 67 ≤ 30 → SG (TZ A ar) (A 38) (I 67).toNat ≤ 400 → I1 49 = 0)) := by
  have d1 := hD.1
  have p1 := hP.1
  have fin : ∀ s k : Int, k = I 67 → 0 ≤ s → s ≤ 30000 * k → (s = SG (TZ A ar) (A 38) k.toNat ∨ (400 < s ∧ 400 < SG (TZ A ar) (A 38) k.toNat)) → xx_go (xt_P z) (d + 3) 170 31 [some (.ref h.length), some (.int (iI s)), some (.int (iI k))] [] (mh h R I A N) (fun v h1 => v = none ∧ ∃ I1 : Nat → Int, h1 = mh h R I1 A N ∧ (∀ j : Nat, j ≠ 49 → I1 j = I j) ∧ (0 ≤ I1 49 ∧ I1 49 ≤ 4) ∧ (¬ I 49 = 0 → I1 49 = I 49) ∧ (I1 49 = 0 → I 67 ≤ 30 ∧ SG (TZ A ar) (A 38) (I 67).toNat ≤ 400) ∧ (I 49 = 0 → I 67 ≤ 30 → SG (TZ A ar) (A 38) (I 67).toNat ≤ 400 → I1 49 = 0)) := by
    intro s k ek s0 sb hs
    subst ek
    refine go_a (pc' := 32) (ls' := [some (.ref h.length), some (.int (iI s)), some (.int (iI (I 67)))]) (st' := [.ref h.length]) rfl rfl ?_
    refine go_get (v := .int (iI (I 67))) rfl mh_o rfl rfl ?_
    refine go_a (pc' := 37) (ls' := [some (.ref h.length), some (.int (iI s)), some (.int (iI (I 67)))]) (st' := [.int (iI 30), .int (iI (I 67))]) rfl rfl ?_
    refine mi_gt (t := 47) rfl rfl (by omega) (by omega) (by omega) (by omega) (fun e => ?_) (fun e => ?_)
    · refine go_a (pc' := 48) (ls' := [some (.ref h.length), some (.int (iI s)), some (.int (iI (I 67)))]) (st' := [.ref h.length]) rfl rfl ?_
      refine go_a (pc' := 49) (ls' := [some (.ref h.length), some (.int (iI s)), some (.int (iI (I 67)))]) (st' := [.int (iI 4), .ref h.length]) rfl rfl ?_
      refine go_v (m := 128) (as := [.ref h.length, .int (iI 4)]) (r := []) rfl rfl rfl mh_o rfl rfl (mm_fail z (d + 2) 4 h R I A N hc u0 u1) (fun v h1 hq => ?_)
      obtain ⟨rfl, hq⟩ := hq
      rcases hq with ⟨nz, rfl⟩ | ⟨ez, rfl⟩
      · show xx_go (xt_P z) (d + 3) 170 52 [some (.ref h.length), some (.int (iI s)), some (.int (iI (I 67)))] [] (mh h R I A N) _
        exact go_r rfl rfl rfl rfl rfl rfl ⟨rfl, I, rfl, fun _ _ => rfl, ⟨u0, u1⟩, fun _ => rfl, fun e9 => absurd e9 nz, fun e9 _ _ => absurd e9 nz⟩
      · show xx_go (xt_P z) (d + 3) 170 52 [some (.ref h.length), some (.int (iI s)), some (.int (iI (I 67)))] [] (mh h R (su I 49 4) A N) _
        exact go_r rfl rfl rfl rfl rfl rfl ⟨rfl, _, rfl, fun j p => su_ne p, ⟨(show (0 : Int) ≤ 4 by decide), (show (4 : Int) ≤ 4 by decide)⟩, fun e9 => absurd ez e9, fun e9 => absurd (show (4 : Int) = 0 from e9) (by decide), fun _ e8 e7 => by omega⟩
    · refine go_a (pc' := 41) (ls' := [some (.ref h.length), some (.int (iI s)), some (.int (iI (I 67)))]) (st' := [.int (iI s)]) rfl rfl ?_
      refine go_a (pc' := 44) (ls' := [some (.ref h.length), some (.int (iI s)), some (.int (iI (I 67)))]) (st' := [.int (iI 400), .int (iI s)]) rfl rfl ?_
      refine mi_le (t := 52) rfl rfl (by omega) (by omega) (by omega) (by omega) (fun e2 => ?_) (fun e2 => ?_)
      · exact go_r rfl rfl rfl rfl rfl rfl ⟨rfl, I, rfl, fun _ _ => rfl, ⟨u0, u1⟩, fun _ => rfl, fun _ => ⟨by omega, by omega⟩, fun e9 _ _ => e9⟩
      · refine go_a (pc' := 48) (ls' := [some (.ref h.length), some (.int (iI s)), some (.int (iI (I 67)))]) (st' := [.ref h.length]) rfl rfl ?_
        refine go_a (pc' := 49) (ls' := [some (.ref h.length), some (.int (iI s)), some (.int (iI (I 67)))]) (st' := [.int (iI 4), .ref h.length]) rfl rfl ?_
        refine go_v (m := 128) (as := [.ref h.length, .int (iI 4)]) (r := []) rfl rfl rfl mh_o rfl rfl (mm_fail z (d + 2) 4 h R I A N hc u0 u1) (fun v h1 hq => ?_)
        obtain ⟨rfl, hq⟩ := hq
        rcases hq with ⟨nz, rfl⟩ | ⟨ez, rfl⟩
        · show xx_go (xt_P z) (d + 3) 170 52 [some (.ref h.length), some (.int (iI s)), some (.int (iI (I 67)))] [] (mh h R I A N) _
          exact go_r rfl rfl rfl rfl rfl rfl ⟨rfl, I, rfl, fun _ _ => rfl, ⟨u0, u1⟩, fun _ => rfl, fun e9 => absurd e9 nz, fun e9 _ _ => absurd e9 nz⟩
        · show xx_go (xt_P z) (d + 3) 170 52 [some (.ref h.length), some (.int (iI s)), some (.int (iI (I 67)))] [] (mh h R (su I 49 4) A N) _
          exact go_r rfl rfl rfl rfl rfl rfl ⟨rfl, _, rfl, fun j p => su_ne p, ⟨(show (0 : Int) ≤ 4 by decide), (show (4 : Int) ≤ 4 by decide)⟩, fun e9 => absurd ez e9, fun e9 => absurd (show (4 : Int) = 0 from e9) (by decide), fun _ e8 e7 => by omega⟩
  intro n
  induction n with
  | zero =>
    intro s k hn k0 kb s0 sb hs
    refine go_a (pc' := 5) (ls' := [some (.ref h.length), some (.int (iI s)), some (.int (iI k))]) (st' := [.int (iI k)]) rfl rfl ?_
    refine go_a (pc' := 6) (ls' := [some (.ref h.length), some (.int (iI s)), some (.int (iI k))]) (st' := [.ref h.length, .int (iI k)]) rfl rfl ?_
    refine go_get (v := .int (iI (I 67))) rfl mh_o rfl rfl ?_
    exact mi_ge (t := 31) rfl rfl (by omega) (by omega) (by omega) (by omega) (fun _ => fin s k (by omega) s0 sb hs) (fun e => absurd (show I 67 ≤ k by omega) e)
  | succ n ih =>
    intro s k hn k0 kb s0 sb hs
    refine go_a (pc' := 5) (ls' := [some (.ref h.length), some (.int (iI s)), some (.int (iI k))]) (st' := [.int (iI k)]) rfl rfl ?_
    refine go_a (pc' := 6) (ls' := [some (.ref h.length), some (.int (iI s)), some (.int (iI k))]) (st' := [.ref h.length, .int (iI k)]) rfl rfl ?_
    refine go_get (v := .int (iI (I 67))) rfl mh_o rfl rfl ?_
    refine mi_ge (t := 31) rfl rfl (by omega) (by omega) (by omega) (by omega) (fun e => fin s k (by omega) s0 sb hs) (fun e => ?_)
    have dk := hD.2.1 k k0 (by omega)
    refine go_a (pc' := 13) (ls' := [some (.ref h.length), some (.int (iI s)), some (.int (iI k))]) (st' := [.int (iI s)]) rfl rfl ?_
    refine go_a (pc' := 14) (ls' := [some (.ref h.length), some (.int (iI s)), some (.int (iI k))]) (st' := [.ref h.length, .int (iI s)]) rfl rfl ?_
    refine go_a (pc' := 15) (ls' := [some (.ref h.length), some (.int (iI s)), some (.int (iI k))]) (st' := [.ref h.length, .ref h.length, .int (iI s)]) rfl rfl ?_
    refine go_get rfl mh_o rfl rfl ?_
    refine go_a (pc' := 19) (ls' := [some (.ref h.length), some (.int (iI s)), some (.int (iI k))]) (st' := [.int (iI k), .ref (h.length + 38), .ref h.length, .int (iI s)]) rfl rfl ?_
    refine mi_ild rfl mh_a38 (by omega) (by omega) (by decide) ?_
    refine go_v (m := 115) (as := [.ref h.length, .int (iI (A 38 k))]) (r := [.int (iI s)]) rfl rfl rfl mh_o rfl rfl (mm_sizeOf z d (A 38 k) ar h R I A N hc hP dk.1.1 dk.1.2 hZ dk.2.1) (fun v h1 hq => ?_)
    obtain ⟨⟨t, rfl, t0, ht⟩, rfl⟩ := hq
    show xx_go (xt_P z) (d + 3) 170 23 [some (.ref h.length), some (.int (iI s)), some (.int (iI k))] [.int (iI t), .int (iI s)] (mh h R I A N) _
    refine mi_add rfl ?_
    refine go_a (pc' := 25) (ls' := [some (.ref h.length), some (.int (iI (s + t))), some (.int (iI k))]) (st' := []) rfl rfl ?_
    refine go_a (pc' := 28) (ls' := [some (.ref h.length), some (.int (iI (s + t))), some (.int (iI (k + 1)))]) (st' := []) rfl (by rw [← iI_add k 1]; rfl) ?_
    refine go_a (pc' := 4) (ls' := [some (.ref h.length), some (.int (iI (s + t))), some (.int (iI (k + 1)))]) (st' := []) rfl rfl ?_
    refine ih (s + t) (k + 1) (by omega) (by omega) (by omega) (by omega) (by omega) ?_
    have sp : SG (TZ A ar) (A 38) (k + 1).toNat = SG (TZ A ar) (A 38) k.toNat + TZ A ar (A 38 k) := by
      rw [SG_pop (by omega : 0 < k + 1), show k + 1 - 1 = k by omega]
    omega
theorem mm_bounded (z : Value) (d : Nat) (ar : Int → Int) (h R : xx_H) (I : Nat → Int) (A : Nat → Int → Int) (N : Int → Int) (hc : 12 ≤ h.length) (hP : PW I A) (hZ : SZI ar I A) (s9 v9 : Int) (hD : DR ar 1200 s9 v9 I A) (u0 : 0 ≤ I 49) (u1 : I 49 ≤ 4) : xx_cl (xt_P z) (d + 4) 170 [.ref h.length] (mh h R I A N) (fun v h1 => v = none ∧ ∃ I1 : Nat → Int, h1 = mh h R I1 A N ∧ (∀ j : Nat, j ≠ 49 → I1 j = I j) ∧ (0 ≤ I1 49 ∧ I1 49 ≤ 4) ∧ (¬ I 49 = 0 → I1 49 = I 49) ∧ (I1 49 = 0 → I 67 ≤ 30 ∧ SG (TZ A ar) (A 38) (I 67).toNat ≤ 400) ∧ (I 49 = 0 → I 67 ≤ 30 → SG (TZ A ar) (A 38) (I 67).toNat ≤ 400 → I1 49 = 0)) := by
  have d1 := hD.1
  refine cl_go rfl ?_
  show xx_go (xt_P z) (d + 3) 170 0 [some (.ref h.length), none, none] [] (mh h R I A N) _
  refine go_a (pc' := 1) (ls' := [some (.ref h.length), none, none]) (st' := [.int (iI 0)]) rfl rfl ?_
  refine go_a (pc' := 2) (ls' := [some (.ref h.length), some (.int (iI 0)), none]) (st' := []) rfl rfl ?_
  refine go_a (pc' := 3) (ls' := [some (.ref h.length), some (.int (iI 0)), none]) (st' := [.int (iI 0)]) rfl rfl ?_
  refine go_a (pc' := 4) (ls' := [some (.ref h.length), some (.int (iI 0)), some (.int (iI 0))]) (st' := []) rfl rfl ?_
  exact mm_bounded_loop z d ar h R I A N hc hP hZ s9 v9 hD u0 u1 (I 67).toNat 0 0 (by omega) (Int.le_refl _) d1.1 (Int.le_refl _) (by decide) (Or.inl rfl)
def PE (A : Nat → Int → Int) (c b x k : Int) : Int := if 0 < k ∧ A 50 (30 * c) = b then x else 0
theorem PE_0 {A : Nat → Int → Int} {c b x : Int} : PE A c b x 0 = 0 := if_neg (fun q => absurd q.1 (by decide))
theorem PE_1 {A : Nat → Int → Int} {c b x : Int} (e : A 50 (30 * c) = b) : PE A c b x 1 = x := if_pos ⟨by decide, e⟩
theorem PE_2 {A : Nat → Int → Int} {c b x : Int} (e : ¬ A 50 (30 * c) = b) : PE A c b x 1 = 0 := if_neg (fun q => e q.2)
theorem PE_s {A : Nat → Int → Int} {c b x k : Int} (h : 0 < k) : PE A c b x (k + 1) = PE A c b x k := by
  unfold PE
  by_cases e : A 50 (30 * c) = b
  · rw [if_pos ⟨by omega, e⟩, if_pos ⟨h, e⟩]
  · rw [if_neg (fun q => e q.2), if_neg (fun q => e q.2)]
theorem PE_nn (A : Nat → Int → Int) (c b x k : Int) : PE A c b x k = 0 ∨ PE A c b x k = x := by
  unfold PE
  split
  · exact Or.inr rfl
  · exact Or.inl rfl
theorem mm_pour_loop (z : Value) (d : Nat) (ar : Int → Int) (m s v9 c b : Int) (h R : xx_H) (I : Nat → Int) (A : Nat → Int → Int) (N : Int → Int) (hc : 12 ≤ h.length) (hP : PW I A) (hD : DR ar m s v9 I A) (m1 : m + 30 ≤ 1200) (c0 : 0 ≤ c) (c1 : c < 350) (hC : CLA ar I A c) (b0 : -1 ≤ b) (b1 : b < 140000) (i7 : I 7 ≤ 140000) : ∀ (n : Nat) (k : Int) (I1 : Nat → Int) (A1 : Nat → Int → Int), (A 51 c - k).toNat ≤ n → 0 ≤ k → k ≤ A 51 c → DX I A I1 A1 → DR ar (m + k - PE A c b 1 k) (s + SG (TZ A ar) (fun q => A 50 (30 * c + q)) k.toNat - PE A c b (TZ A ar (A 50 (30 * c))) k) (v9 + SG (NT A wq) (fun q => A 50 (30 * c + q)) k.toNat) I1 A1 → ixl (A1 38) (I1 67) = pof A c b k (ixl (A 38) (I 67)) → xx_go (xt_P z) (d + 1) 158 2 [some (.ref h.length), some (.int (iI c)), some (.int (iI b)), some (.int (iI k))] [] (mh h R I1 A1 N) (fun v h1 => v = none ∧ ∃ (I1 : Nat → Int) (A1 : Nat → Int → Int), h1 = mh h R I1 A1 N ∧ DX I A I1 A1 ∧ DR ar (m + A 51 c - PE A c b 1 (A 51 c)) (s + SG (TZ A ar) (fun q => A 50 (30 * c + q)) (A 51 c).toNat - PE A c b (TZ A ar (A 50 (30 * c))) (A 51 c)) (v9 + SG (NT A wq) (fun q => A 50 (30 * c + q)) (A 51 c).toNat) I1 A1 ∧ ixl (A1 38) (I1 67) = pof A c b (A 51 c) (ixl (A 38) (I 67))) := by
  have hc1 := hC.1
  intro n
  induction n with
  | zero =>
    intro k I1 A1 hn k0 kb X D J
    have e51 : A1 51 c = A 51 c := by rw [X.2 51 (by decide)]
    refine go_a (pc' := 3) (ls' := [some (.ref h.length), some (.int (iI c)), some (.int (iI b)), some (.int (iI k))]) (st' := [.int (iI k)]) rfl rfl ?_
    refine go_a (pc' := 4) (ls' := [some (.ref h.length), some (.int (iI c)), some (.int (iI b)), some (.int (iI k))]) (st' := [.ref h.length, .int (iI k)]) rfl rfl ?_
    refine go_get rfl mh_o rfl rfl ?_
    refine go_a (pc' := 8) (ls' := [some (.ref h.length), some (.int (iI c)), some (.int (iI b)), some (.int (iI k))]) (st' := [.int (iI c), .ref (h.length + 51), .int (iI k)]) rfl rfl ?_
    refine mi_ild rfl mh_a51 (by omega) (by omega) (by decide) ?_
    refine mi_ge (t := 48) rfl rfl (by omega) (by omega) (by omega) (by omega) (fun _ => ?_) (fun e => absurd (show A1 51 c ≤ k by omega) e)
    have ek : k = A 51 c := by omega
    rw [ek] at D J
    exact go_r rfl rfl rfl rfl rfl rfl ⟨rfl, I1, A1, rfl, X, D, J⟩
  | succ n ih =>
    intro k I1 A1 hn k0 kb X D J
    have e51 : A1 51 c = A 51 c := by rw [X.2 51 (by decide)]
    have e50 : A1 50 = A 50 := X.2 50 (by decide)
    have e7 : I1 7 = I 7 := X.1 7 (by decide)
    have tz := DX_tz (ar := ar) X
    have ntz := DX_nt (w := wq) X
    refine go_a (pc' := 3) (ls' := [some (.ref h.length), some (.int (iI c)), some (.int (iI b)), some (.int (iI k))]) (st' := [.int (iI k)]) rfl rfl ?_
    refine go_a (pc' := 4) (ls' := [some (.ref h.length), some (.int (iI c)), some (.int (iI b)), some (.int (iI k))]) (st' := [.ref h.length, .int (iI k)]) rfl rfl ?_
    refine go_get rfl mh_o rfl rfl ?_
    refine go_a (pc' := 8) (ls' := [some (.ref h.length), some (.int (iI c)), some (.int (iI b)), some (.int (iI k))]) (st' := [.int (iI c), .ref (h.length + 51), .int (iI k)]) rfl rfl ?_
    refine mi_ild rfl mh_a51 (by omega) (by omega) (by decide) ?_
    refine mi_ge (t := 48) rfl rfl (by omega) (by omega) (by omega) (by omega) (fun _ => ?_) (fun e => ?_)
    · have ek : k = A 51 c := by omega
      rw [ek] at D J
      exact go_r rfl rfl rfl rfl rfl rfl ⟨rfl, I1, A1, rfl, X, D, J⟩
    · have ck := hC.2.1 k k0 (by omega)
      have nk : 0 ≤ NT A wq (A 50 (30 * c + k)) := (NT_nn hP (fun j _ _ => wq_nn j) _ _ (Nat.lt_succ_self _) ck.1.1 ck.1.2).1
      have s1 : SG (TZ A ar) (fun q => A 50 (30 * c + q)) (k + 1).toNat = SG (TZ A ar) (fun q => A 50 (30 * c + q)) k.toNat + TZ A ar (A 50 (30 * c + k)) := by
        rw [SG_pop (by omega : 0 < k + 1), show k + 1 - 1 = k by omega]
      have s2 : SG (NT A wq) (fun q => A 50 (30 * c + q)) (k + 1).toNat = SG (NT A wq) (fun q => A 50 (30 * c + q)) k.toNat + NT A wq (A 50 (30 * c + k)) := by
        rw [SG_pop (by omega : 0 < k + 1), show k + 1 - 1 = k by omega]
      have p1 := PE_0 (A := A) (c := c) (b := b) (x := 1)
      have p2 := PE_0 (A := A) (c := c) (b := b) (x := TZ A ar (A 50 (30 * c)))
      have p3 := fun (q : 0 < k) => PE_s (A := A) (c := c) (b := b) (x := 1) q
      have p4 := fun (q : 0 < k) => PE_s (A := A) (c := c) (b := b) (x := TZ A ar (A 50 (30 * c))) q
      rw [← e50] at ck
      refine go_a (pc' := 13) (ls' := [some (.ref h.length), some (.int (iI c)), some (.int (iI b)), some (.int (iI k))]) (st' := [.ref h.length]) rfl rfl ?_
      refine go_get rfl mh_o rfl rfl ?_
      refine go_a (pc' := 18) (ls' := [some (.ref h.length), some (.int (iI c)), some (.int (iI b)), some (.int (iI k))]) (st' := [.int (iI 30), .ref (h.length + 50)]) rfl rfl ?_
      refine go_a (pc' := 19) (ls' := [some (.ref h.length), some (.int (iI c)), some (.int (iI b)), some (.int (iI k))]) (st' := [.int (iI c), .int (iI 30), .ref (h.length + 50)]) rfl rfl ?_
      refine mi_mul rfl ?_
      refine go_a (pc' := 21) (ls' := [some (.ref h.length), some (.int (iI c)), some (.int (iI b)), some (.int (iI k))]) (st' := [.int (iI k), .int (iI (30 * c)), .ref (h.length + 50)]) rfl rfl ?_
      refine mi_add rfl ?_
      refine mi_ild rfl mh_a50 (by omega) (by omega) (by decide) ?_
      refine go_a (pc' := 24) (ls' := [some (.ref h.length), some (.int (iI c)), some (.int (iI b)), some (.int (iI k))]) (st' := [.int (iI b), .int (iI (A1 50 ((30 * c) + k)))]) rfl rfl ?_
      refine mi_eq (t := 42) rfl rfl (by omega) (by omega) (by omega) (by omega) (fun eb => ?_) (fun eb => ?_)
      · refine go_a (pc' := 45) (ls' := [some (.ref h.length), some (.int (iI c)), some (.int (iI b)), some (.int (iI (k + 1)))]) (st' := []) rfl (by rw [← iI_add k 1]; rfl) ?_
        refine go_a (pc' := 2) (ls' := [some (.ref h.length), some (.int (iI c)), some (.int (iI b)), some (.int (iI (k + 1)))]) (st' := []) rfl rfl ?_
        rw [e50] at eb ck
        have q1 : PE A c b 1 (k + 1) ≤ PE A c b 1 k + 1 ∧ PE A c b (TZ A ar (A 50 (30 * c))) (k + 1) ≤ PE A c b (TZ A ar (A 50 (30 * c))) k + TZ A ar (A 50 (30 * c + k)) := by
          by_cases k9 : k = 0
          · subst k9
            rw [Int.add_zero] at eb ck ⊢
            rw [p1, p2, show (0 : Int) + 1 = 1 from rfl, PE_1 eb, PE_1 eb]
            omega
          · rw [p3 (by omega), p4 (by omega)]
            omega
        exact ih (k + 1) I1 A1 (by omega) (by omega) (by omega) X (DR_w D (by omega) (by omega) (by omega)) (by rw [pof_eq k0 eb]; exact J)
      · refine go_a (pc' := 28) (ls' := [some (.ref h.length), some (.int (iI c)), some (.int (iI b)), some (.int (iI k))]) (st' := [.ref h.length]) rfl rfl ?_
        refine go_a (pc' := 29) (ls' := [some (.ref h.length), some (.int (iI c)), some (.int (iI b)), some (.int (iI k))]) (st' := [.ref h.length, .ref h.length]) rfl rfl ?_
        refine go_get rfl mh_o rfl rfl ?_
        refine go_a (pc' := 34) (ls' := [some (.ref h.length), some (.int (iI c)), some (.int (iI b)), some (.int (iI k))]) (st' := [.int (iI 30), .ref (h.length + 50), .ref h.length]) rfl rfl ?_
        refine go_a (pc' := 35) (ls' := [some (.ref h.length), some (.int (iI c)), some (.int (iI b)), some (.int (iI k))]) (st' := [.int (iI c), .int (iI 30), .ref (h.length + 50), .ref h.length]) rfl rfl ?_
        refine mi_mul rfl ?_
        refine go_a (pc' := 37) (ls' := [some (.ref h.length), some (.int (iI c)), some (.int (iI b)), some (.int (iI k))]) (st' := [.int (iI k), .int (iI (30 * c)), .ref (h.length + 50), .ref h.length]) rfl rfl ?_
        refine mi_add rfl ?_
        refine mi_ild rfl mh_a50 (by omega) (by omega) (by decide) ?_
        have pe0 := PE_nn A c b 1 k
        refine go_v (m := 155) (as := [.ref h.length, .int (iI (A1 50 ((30 * c) + k)))]) (r := []) rfl rfl rfl mh_o rfl rfl (mm_put z d ar _ _ _ (A1 50 (30 * c + k)) h R I1 A1 N hc (by unfold PW; rw [e7, X.2 1 (by decide), X.2 2 (by decide)]; exact hP) D (by omega) ck.1.1 (by omega) (by rw [tz.1]; exact ck.2.1) (fun _ => by rw [tz.1]; exact ck.2.2) (by omega)) (fun v h1 hq => ?_)
        obtain ⟨rfl, I2, A2, rfl, X2, D2, J2⟩ := hq
        show xx_go (xt_P z) (d + 1) 158 42 [some (.ref h.length), some (.int (iI c)), some (.int (iI b)), some (.int (iI k))] [] (mh h R I2 A2 N) _
        refine go_a (pc' := 45) (ls' := [some (.ref h.length), some (.int (iI c)), some (.int (iI b)), some (.int (iI (k + 1)))]) (st' := []) rfl (by rw [← iI_add k 1]; rfl) ?_
        refine go_a (pc' := 2) (ls' := [some (.ref h.length), some (.int (iI c)), some (.int (iI b)), some (.int (iI (k + 1)))]) (st' := []) rfl rfl ?_
        rw [tz.1, ntz, e50] at D2
        rw [e50, J] at J2
        rw [e50] at eb
        have q1 : PE A c b 1 (k + 1) = PE A c b 1 k ∧ PE A c b (TZ A ar (A 50 (30 * c))) (k + 1) = PE A c b (TZ A ar (A 50 (30 * c))) k := by
          by_cases k9 : k = 0
          · subst k9
            rw [Int.add_zero] at eb
            rw [p1, p2, show (0 : Int) + 1 = 1 from rfl, PE_2 eb, PE_2 eb]
            exact ⟨rfl, rfl⟩
          · exact ⟨p3 (by omega), p4 (by omega)⟩
        exact ih (k + 1) I2 A2 (by omega) (by omega) (by omega) (DX_tr X X2) (DR_w D2 (by omega) (by omega) (by omega)) (by rw [pof_ne k0 eb]; exact J2)
theorem mm_pour (z : Value) (d : Nat) (ar : Int → Int) (m s v9 c b : Int) (h R : xx_H) (I : Nat → Int) (A : Nat → Int → Int) (N : Int → Int) (hc : 12 ≤ h.length) (hP : PW I A) (hD : DR ar m s v9 I A) (m1 : m + 30 ≤ 1200) (c0 : 0 ≤ c) (c1 : c < 350) (hC : CLA ar I A c) (b0 : -1 ≤ b) (b1 : b < 140000) (i7 : I 7 ≤ 140000) : xx_cl (xt_P z) (d + 2) 158 [.ref h.length, .int (iI c), .int (iI b)] (mh h R I A N) (fun v h1 => v = none ∧ ∃ (I1 : Nat → Int) (A1 : Nat → Int → Int), h1 = mh h R I1 A1 N ∧ DX I A I1 A1 ∧ DR ar (m + A 51 c - PE A c b 1 (A 51 c)) (s + SG (TZ A ar) (fun q => A 50 (30 * c + q)) (A 51 c).toNat - PE A c b (TZ A ar (A 50 (30 * c))) (A 51 c)) (v9 + SG (NT A wq) (fun q => A 50 (30 * c + q)) (A 51 c).toNat) I1 A1 ∧ ixl (A1 38) (I1 67) = pof A c b (A 51 c) (ixl (A 38) (I 67))) := by
  have hc1 := hC.1
  refine cl_go rfl ?_
  show xx_go (xt_P z) (d + 1) 158 0 [some (.ref h.length), some (.int (iI c)), some (.int (iI b)), none] [] (mh h R I A N) _
  refine go_a (pc' := 1) (ls' := [some (.ref h.length), some (.int (iI c)), some (.int (iI b)), none]) (st' := [.int (iI 0)]) rfl rfl ?_
  refine go_a (pc' := 2) (ls' := [some (.ref h.length), some (.int (iI c)), some (.int (iI b)), some (.int (iI 0))]) (st' := []) rfl rfl ?_
  refine mm_pour_loop z d ar m s v9 c b h R I A N hc hP hD m1 c0 c1 hC b0 b1 i7 (A 51 c).toNat 0 I A (by omega) (Int.le_refl _) hc1.1 DX_rf ?_ rfl
  rw [PE_0, PE_0]
  exact DR_w hD (by omega) (by show _ ≤ s + 0 - 0; omega) (by show _ ≤ v9 + 0; omega)
theorem mm_has_loop (z : Value) (d : Nat) (ar : Int → Int) (c x : Int) (h R : xx_H) (I : Nat → Int) (A : Nat → Int → Int) (N : Int → Int) (hc : 12 ≤ h.length) (c0 : 0 ≤ c) (c1 : c < 350) (hC : CLA ar I A c) (x0 : -1 ≤ x) (x1 : x < 140000) (i7 : I 7 ≤ 140000) : ∀ (n : Nat) (k : Int), (A 51 c - k).toNat ≤ n → 0 ≤ k → k ≤ A 51 c → (∀ e : Int, 0 ≤ e → e < k → A 50 (30 * c + e) ≠ x) → xx_go (xt_P z) d 159 2 [some (.ref h.length), some (.int (iI c)), some (.int (iI x)), some (.int (iI k))] [] (mh h R I A N) (fun v h1 => (∃ b : Int, (b = 0 ∨ b = 1) ∧ v = some (.int (iI b)) ∧ (b = 1 ↔ x ∈ ixl (fun q => A 50 (30 * c + q)) (A 51 c))) ∧ h1 = mh h R I A N) := by
  have hc1 := hC.1
  have nn : ∀ k : Int, A 51 c ≤ k → (∀ e : Int, 0 ≤ e → e < k → A 50 (30 * c + e) ≠ x) → ((0 : Int) = 1 ↔ x ∈ ixl (fun q => A 50 (30 * c + q)) (A 51 c)) := fun k hk hx => ⟨fun q => absurd q (by decide), fun q => by obtain ⟨e, a, b, c9⟩ := ixl_mem.mp q; exact absurd c9 (hx e a (by omega))⟩
  intro n
  induction n with
  | zero =>
    intro k hn k0 kb hx
    refine go_a (pc' := 3) (ls' := [some (.ref h.length), some (.int (iI c)), some (.int (iI x)), some (.int (iI k))]) (st' := [.int (iI k)]) rfl rfl ?_
    refine go_a (pc' := 4) (ls' := [some (.ref h.length), some (.int (iI c)), some (.int (iI x)), some (.int (iI k))]) (st' := [.ref h.length, .int (iI k)]) rfl rfl ?_
    refine go_get rfl mh_o rfl rfl ?_
    refine go_a (pc' := 8) (ls' := [some (.ref h.length), some (.int (iI c)), some (.int (iI x)), some (.int (iI k))]) (st' := [.int (iI c), .ref (h.length + 51), .int (iI k)]) rfl rfl ?_
    refine mi_ild rfl mh_a51 (by omega) (by omega) (by decide) ?_
    refine mi_ge (t := 35) rfl rfl (by omega) (by omega) (by omega) (by omega) (fun _ => ?_) (fun e => absurd (show A 51 c ≤ k by omega) e)
    refine go_a (pc' := 36) (ls' := [some (.ref h.length), some (.int (iI c)), some (.int (iI x)), some (.int (iI k))]) (st' := [.int (iI 0)]) rfl rfl ?_
    exact go_r rfl rfl rfl rfl rfl rfl ⟨⟨0, Or.inl rfl, rfl, nn k (by omega) hx⟩, rfl⟩
  | succ n ih =>
    intro k hn k0 kb hx
    refine go_a (pc' := 3) (ls' := [some (.ref h.length), some (.int (iI c)), some (.int (iI x)), some (.int (iI k))]) (st' := [.int (iI k)]) rfl rfl ?_
    refine go_a (pc' := 4) (ls' := [some (.ref h.length), some (.int (iI c)), some (.int (iI x)), some (.int (iI k))]) (st' := [.ref h.length, .int (iI k)]) rfl rfl ?_
    refine go_get rfl mh_o rfl rfl ?_
    refine go_a (pc' := 8) (ls' := [some (.ref h.length), some (.int (iI c)), some (.int (iI x)), some (.int (iI k))]) (st' := [.int (iI c), .ref (h.length + 51), .int (iI k)]) rfl rfl ?_
    refine mi_ild rfl mh_a51 (by omega) (by omega) (by decide) ?_
    refine mi_ge (t := 35) rfl rfl (by omega) (by omega) (by omega) (by omega) (fun _ => ?_) (fun e => ?_)
    · refine go_a (pc' := 36) (ls' := [some (.ref h.length), some (.int (iI c)), some (.int (iI x)), some (.int (iI k))]) (st' := [.int (iI 0)]) rfl rfl ?_
      exact go_r rfl rfl rfl rfl rfl rfl ⟨⟨0, Or.inl rfl, rfl, nn k (by omega) hx⟩, rfl⟩
    · have ck := hC.2.1 k k0 (by omega)
      refine go_a (pc' := 13) (ls' := [some (.ref h.length), some (.int (iI c)), some (.int (iI x)), some (.int (iI k))]) (st' := [.ref h.length]) rfl rfl ?_
      refine go_get rfl mh_o rfl rfl ?_
      refine go_a (pc' := 18) (ls' := [some (.ref h.length), some (.int (iI c)), some (.int (iI x)), some (.int (iI k))]) (st' := [.int (iI 30), .ref (h.length + 50)]) rfl rfl ?_
      refine go_a (pc' := 19) (ls' := [some (.ref h.length), some (.int (iI c)), some (.int (iI x)), some (.int (iI k))]) (st' := [.int (iI c), .int (iI 30), .ref (h.length + 50)]) rfl rfl ?_
      refine mi_mul rfl ?_
      refine go_a (pc' := 21) (ls' := [some (.ref h.length), some (.int (iI c)), some (.int (iI x)), some (.int (iI k))]) (st' := [.int (iI k), .int (iI (30 * c)), .ref (h.length + 50)]) rfl rfl ?_
      refine mi_add rfl ?_
      refine mi_ild rfl mh_a50 (by omega) (by omega) (by decide) ?_
      refine go_a (pc' := 24) (ls' := [some (.ref h.length), some (.int (iI c)), some (.int (iI x)), some (.int (iI k))]) (st' := [.int (iI x), .int (iI (A 50 ((30 * c) + k)))]) rfl rfl ?_
      refine mi_ne (t := 29) rfl rfl (by omega) (by omega) (by omega) (by omega) (fun xn => ?_) (fun xe => ?_)
      · refine go_a (pc' := 32) (ls' := [some (.ref h.length), some (.int (iI c)), some (.int (iI x)), some (.int (iI (k + 1)))]) (st' := []) rfl (by rw [← iI_add k 1]; rfl) ?_
        refine go_a (pc' := 2) (ls' := [some (.ref h.length), some (.int (iI c)), some (.int (iI x)), some (.int (iI (k + 1)))]) (st' := []) rfl rfl ?_
        refine ih (k + 1) (by omega) (by omega) (by omega) (fun e e0 e1 => ?_)
        by_cases ek : e = k
        · rw [ek]
          omega
        · exact hx e e0 (by omega)
      · refine go_a (pc' := 28) (ls' := [some (.ref h.length), some (.int (iI c)), some (.int (iI x)), some (.int (iI k))]) (st' := [.int (iI 1)]) rfl rfl ?_
        exact go_r rfl rfl rfl rfl rfl rfl ⟨⟨1, Or.inr rfl, rfl, ⟨fun _ => ixl_mem.mpr ⟨k, k0, by omega, by omega⟩, fun _ => rfl⟩⟩, rfl⟩
theorem mm_has (z : Value) (d : Nat) (ar : Int → Int) (c x : Int) (h R : xx_H) (I : Nat → Int) (A : Nat → Int → Int) (N : Int → Int) (hc : 12 ≤ h.length) (c0 : 0 ≤ c) (c1 : c < 350) (hC : CLA ar I A c) (x0 : -1 ≤ x) (x1 : x < 140000) (i7 : I 7 ≤ 140000) : xx_cl (xt_P z) (d + 1) 159 [.ref h.length, .int (iI c), .int (iI x)] (mh h R I A N) (fun v h1 => (∃ b : Int, (b = 0 ∨ b = 1) ∧ v = some (.int (iI b)) ∧ (b = 1 ↔ x ∈ ixl (fun q => A 50 (30 * c + q)) (A 51 c))) ∧ h1 = mh h R I A N) := by
  have hc1 := hC.1
  refine cl_go rfl ?_
  show xx_go (xt_P z) d 159 0 [some (.ref h.length), some (.int (iI c)), some (.int (iI x)), none] [] (mh h R I A N) _
  refine go_a (pc' := 1) (ls' := [some (.ref h.length), some (.int (iI c)), some (.int (iI x)), none]) (st' := [.int (iI 0)]) rfl rfl ?_
  refine go_a (pc' := 2) (ls' := [some (.ref h.length), some (.int (iI c)), some (.int (iI x)), some (.int (iI 0))]) (st' := []) rfl rfl ?_
  exact mm_has_loop z d ar c x h R I A N hc c0 c1 hC x0 x1 i7 (A 51 c).toNat 0 (by omega) (Int.le_refl _) hc1.1 (fun e e0 e1 => absurd e1 (by omega))
theorem mm_beginsEqual (z : Value) (d : Nat) (ar : Int → Int) (c : Int) (h R : xx_H) (I : Nat → Int) (A : Nat → Int → Int) (N : Int → Int) (hc : 12 ≤ h.length) (hP : PW I A) (c0 : 0 ≤ c) (c1 : c < 350) (hC : CLA ar I A c) : xx_cl (xt_P z) (d + 3) 165 [.ref h.length, .int (iI c)] (mh h R I A N) (fun v h1 => (∃ b : Int, v = some (.int (iI b)) ∧ ((b = 0 ∧ ¬ (0 < A 51 c ∧ A 1 (A 50 (30 * c)) = 4)) ∨ (b = 1 ∧ 0 < A 51 c ∧ A 1 (A 50 (30 * c)) = 4))) ∧ h1 = mh h R I A N) := by
  have hc1 := hC.1
  have p1 := hP.1
  refine cl_go rfl ?_
  show xx_go (xt_P z) (d + 2) 165 0 [some (.ref h.length), some (.int (iI c))] [] (mh h R I A N) _
  refine go_a (pc' := 1) (ls' := [some (.ref h.length), some (.int (iI c))]) (st' := [.ref h.length]) rfl rfl ?_
  refine go_get rfl mh_o rfl rfl ?_
  refine go_a (pc' := 5) (ls' := [some (.ref h.length), some (.int (iI c))]) (st' := [.int (iI c), .ref (h.length + 51)]) rfl rfl ?_
  refine mi_ild rfl mh_a51 (by omega) (by omega) (by decide) ?_
  refine mi_le0 (t := 30) rfl rfl (by omega) (by omega) (fun e => ?_) (fun e => ?_)
  · refine go_a (pc' := 31) (ls' := [some (.ref h.length), some (.int (iI c))]) (st' := [.int (iI 0)]) rfl rfl ?_
    exact go_r rfl rfl rfl rfl rfl rfl ⟨⟨0, rfl, Or.inl ⟨rfl, by omega⟩⟩, rfl⟩
  · have ck := hC.2.1 0 (Int.le_refl _) (by omega)
    rw [Int.add_zero] at ck
    refine go_a (pc' := 10) (ls' := [some (.ref h.length), some (.int (iI c))]) (st' := [.ref h.length]) rfl rfl ?_
    refine go_a (pc' := 11) (ls' := [some (.ref h.length), some (.int (iI c))]) (st' := [.ref h.length, .ref h.length]) rfl rfl ?_
    refine go_get rfl mh_o rfl rfl ?_
    refine go_a (pc' := 16) (ls' := [some (.ref h.length), some (.int (iI c))]) (st' := [.int (iI 30), .ref (h.length + 50), .ref h.length]) rfl rfl ?_
    refine go_a (pc' := 17) (ls' := [some (.ref h.length), some (.int (iI c))]) (st' := [.int (iI c), .int (iI 30), .ref (h.length + 50), .ref h.length]) rfl rfl ?_
    refine mi_mul rfl ?_
    refine mi_ild rfl mh_a50 (by omega) (by omega) (by decide) ?_
    refine go_a (pc' := 20) (ls' := [some (.ref h.length), some (.int (iI c))]) (st' := [.int (iI 4), .int (iI (A 50 (30 * c))), .ref h.length]) rfl rfl ?_
    refine go_v (m := 123) (as := [.ref h.length, .int (iI (A 50 (30 * c))), .int (iI 4)]) (r := []) rfl rfl rfl mh_o rfl rfl (mb_isCallOf z d (A 50 (30 * c)) 4 h R I A N hc hP ck.1.1 ck.1.2 (by decide) (by decide)) (fun v h1 hq => ?_)
    obtain ⟨⟨b, rfl, hb⟩, rfl⟩ := hq
    show xx_go (xt_P z) (d + 2) 165 23 [some (.ref h.length), some (.int (iI c))] [.int (iI b)] (mh h R I A N) _
    refine mi_eq0 (t := 30) rfl rfl (by omega) (by omega) (fun e2 => ?_) (fun e2 => ?_)
    · refine go_a (pc' := 31) (ls' := [some (.ref h.length), some (.int (iI c))]) (st' := [.int (iI 0)]) rfl rfl ?_
      exact go_r rfl rfl rfl rfl rfl rfl ⟨⟨0, rfl, Or.inl ⟨rfl, by omega⟩⟩, rfl⟩
    · refine go_a (pc' := 27) (ls' := [some (.ref h.length), some (.int (iI c))]) (st' := [.int (iI 1)]) rfl rfl ?_
      refine go_a (pc' := 31) (ls' := [some (.ref h.length), some (.int (iI c))]) (st' := [.int (iI 1)]) rfl rfl ?_
      exact go_r rfl rfl rfl rfl rfl rfl ⟨⟨1, rfl, Or.inr ⟨rfl, by omega, by omega⟩⟩, rfl⟩
theorem mm_takePar_loop (z : Value) (d m : Nat) (ar : Int → Int) (e l : Int) (h R : xx_H) (I : Nat → Int) (A : Nat → Int → Int) (N : Int → Int) (hc : 12 ≤ h.length) (hP : PW I A) (e0 : 0 ≤ e) (e1 : e < 40) (em : A 21 e = m) (m6 : m ≤ 6) (l0 : 0 ≤ l) (l1 : l < I 7) (hL : isL A m l) (hV : (∀ j : Nat, j < m → A 1 (A 1 (rt A j l)) = -2 ∧ 1 < A 1 (rt A j l))) (hW : (∀ k : Int, 0 ≤ k → k < A 21 e → 0 ≤ A 22 (6 * e + k) ∧ A 22 (6 * e + k) < I 7)) : ∀ (n k : Nat) (I1 : Nat → Int) (A1 : Nat → Int → Int), m - k ≤ n → k ≤ m → ((∀ j : Nat, j ≠ 59 → I1 j = I j) ∧ ∀ a : Nat, a ≠ 33 → a ≠ 34 → A1 a = A a) → I1 59 = m → (∀ q : Int, 0 ≤ q → q < k → (0 ≤ A1 33 q ∧ A1 33 q < 140000) ∧ (0 ≤ A1 34 q ∧ A1 34 q < I 7) ∧ A 1 (A1 34 q) = -2 ∧ (A1 33 q = A 22 (6 * e + q) ∧ A1 34 q = A 1 (rt A q.toNat l))) → xx_go (xt_P z) (d + 1) 169 12 [some (.ref h.length), some (.int (iI e)), some (.int (iI l)), some (.int (iI ((k : Int))))] [] (mh h R I1 A1 N) (fun v h1 => v = none ∧ ∃ (I1 : Nat → Int) (A1 : Nat → Int → Int), h1 = mh h R I1 A1 N ∧ ((∀ j : Nat, j ≠ 59 → I1 j = I j) ∧ ∀ a : Nat, a ≠ 33 → a ≠ 34 → A1 a = A a) ∧ I1 59 = m ∧ PR ar I1 A1 ∧ ∀ q : Int, 0 ≤ q → q < m → A1 33 q = A 22 (6 * e + q) ∧ A1 34 q = A 1 (rt A q.toNat l)) := by
  have p1 := hP.1
  have fin : ∀ (I1 : Nat → Int) (A1 : Nat → Int → Int) (k : Nat), k = m → ((∀ j : Nat, j ≠ 59 → I1 j = I j) ∧ ∀ a : Nat, a ≠ 33 → a ≠ 34 → A1 a = A a) → I1 59 = m → (∀ q : Int, 0 ≤ q → q < k → (0 ≤ A1 33 q ∧ A1 33 q < 140000) ∧ (0 ≤ A1 34 q ∧ A1 34 q < I 7) ∧ A 1 (A1 34 q) = -2 ∧ (A1 33 q = A 22 (6 * e + q) ∧ A1 34 q = A 1 (rt A q.toNat l))) → PR ar I1 A1 := by
    intro I1 A1 k ek X e59 K
    subst ek
    have e7 : I1 7 = I 7 := X.1 7 (by decide)
    have e1 : A1 1 = A 1 := X.2 1 (by decide) (by decide)
    refine ⟨by omega, fun q q0 q1 => ?_⟩
    have r := K q q0 (by omega)
    exact ⟨r.1, by rw [e7]; exact r.2.1, by rw [TZ_atom (by rw [e1, r.2.2.1]; decide)]; decide⟩
  intro n
  induction n with
  | zero =>
    intro k I1 A1 hn km X e59 K
    refine go_a (pc' := 13) (ls' := [some (.ref h.length), some (.int (iI e)), some (.int (iI l)), some (.int (iI ((k : Int))))]) (st' := [.int (iI ((k : Int)))]) rfl rfl ?_
    refine go_a (pc' := 14) (ls' := [some (.ref h.length), some (.int (iI e)), some (.int (iI l)), some (.int (iI ((k : Int))))]) (st' := [.ref h.length, .int (iI ((k : Int)))]) rfl rfl ?_
    refine go_get (v := .int (iI (I1 59))) rfl mh_o rfl rfl ?_
    refine mi_ge (t := 55) rfl rfl (by omega) (by omega) (by omega) (by omega) (fun _ => ?_) (fun q => absurd (show I1 59 ≤ (k : Int) by omega) q)
    exact go_r rfl rfl rfl rfl rfl rfl ⟨rfl, I1, A1, rfl, X, e59, fin I1 A1 k (by omega) X e59 K, fun q q0 q1 => (K q q0 (by omega)).2.2.2⟩
  | succ n ih =>
    intro k I1 A1 hn km X e59 K
    refine go_a (pc' := 13) (ls' := [some (.ref h.length), some (.int (iI e)), some (.int (iI l)), some (.int (iI ((k : Int))))]) (st' := [.int (iI ((k : Int)))]) rfl rfl ?_
    refine go_a (pc' := 14) (ls' := [some (.ref h.length), some (.int (iI e)), some (.int (iI l)), some (.int (iI ((k : Int))))]) (st' := [.ref h.length, .int (iI ((k : Int)))]) rfl rfl ?_
    refine go_get (v := .int (iI (I1 59))) rfl mh_o rfl rfl ?_
    refine mi_ge (t := 55) rfl rfl (by omega) (by omega) (by omega) (by omega) (fun q => ?_) (fun q => ?_)
    · exact go_r rfl rfl rfl rfl rfl rfl ⟨rfl, I1, A1, rfl, X, e59, fin I1 A1 k (by omega) X e59 K, fun q q0 q1 => (K q q0 (by omega)).2.2.2⟩
    · have e7 : I1 7 = I 7 := X.1 7 (by decide)
      have f1 : A1 1 = A 1 := X.2 1 (by decide) (by decide)
      have f2 : A1 2 = A 2 := X.2 2 (by decide) (by decide)
      have f22 : A1 22 = A 22 := X.2 22 (by decide) (by decide)
      have P1 : PW I1 A1 := by
        unfold PW
        rw [e7, f1, f2]
        exact hP
      have vk := hW k (by omega) (by omega)
      have lk := hV k (by omega)
      have rk := isL_rt hP m k l l0 l1 hL (by omega)
      have qk := hP.2 _ rk.1 (by omega : rt A k l < I 7)
      refine go_a (pc' := 21) (ls' := [some (.ref h.length), some (.int (iI e)), some (.int (iI l)), some (.int (iI ((k : Int))))]) (st' := [.ref h.length]) rfl rfl ?_
      refine go_get rfl mh_o rfl rfl ?_
      refine go_a (pc' := 25) (ls' := [some (.ref h.length), some (.int (iI e)), some (.int (iI l)), some (.int (iI ((k : Int))))]) (st' := [.int (iI ((k : Int))), .ref (h.length + 33)]) rfl rfl ?_
      refine go_a (pc' := 26) (ls' := [some (.ref h.length), some (.int (iI e)), some (.int (iI l)), some (.int (iI ((k : Int))))]) (st' := [.ref h.length, .int (iI ((k : Int))), .ref (h.length + 33)]) rfl rfl ?_
      refine go_get rfl mh_o rfl rfl ?_
      refine go_a (pc' := 31) (ls' := [some (.ref h.length), some (.int (iI e)), some (.int (iI l)), some (.int (iI ((k : Int))))]) (st' := [.int (iI 6), .ref (h.length + 22), .int (iI ((k : Int))), .ref (h.length + 33)]) rfl rfl ?_
      refine go_a (pc' := 32) (ls' := [some (.ref h.length), some (.int (iI e)), some (.int (iI l)), some (.int (iI ((k : Int))))]) (st' := [.int (iI e), .int (iI 6), .ref (h.length + 22), .int (iI ((k : Int))), .ref (h.length + 33)]) rfl rfl ?_
      refine mi_mul rfl ?_
      refine go_a (pc' := 34) (ls' := [some (.ref h.length), some (.int (iI e)), some (.int (iI l)), some (.int (iI ((k : Int))))]) (st' := [.int (iI ((k : Int))), .int (iI (6 * e)), .ref (h.length + 22), .int (iI ((k : Int))), .ref (h.length + 33)]) rfl rfl ?_
      refine mi_add rfl ?_
      refine mi_ild rfl mh_a22 (by omega) (by omega) (by decide) ?_
      refine mi_ist rfl mh_a33 (show 12 ≤ _ by omega) (by omega) (by omega) (by decide) ?_
      rw [mh_w33 (by omega)]
      refine go_a (pc' := 38) (ls' := [some (.ref h.length), some (.int (iI e)), some (.int (iI l)), some (.int (iI ((k : Int))))]) (st' := [.ref h.length]) rfl rfl ?_
      refine go_get rfl mh_o rfl rfl ?_
      refine go_a (pc' := 42) (ls' := [some (.ref h.length), some (.int (iI e)), some (.int (iI l)), some (.int (iI ((k : Int))))]) (st' := [.int (iI ((k : Int))), .ref (h.length + 34)]) rfl rfl ?_
      refine go_a (pc' := 43) (ls' := [some (.ref h.length), some (.int (iI e)), some (.int (iI l)), some (.int (iI ((k : Int))))]) (st' := [.ref h.length, .int (iI ((k : Int))), .ref (h.length + 34)]) rfl rfl ?_
      refine go_a (pc' := 44) (ls' := [some (.ref h.length), some (.int (iI e)), some (.int (iI l)), some (.int (iI ((k : Int))))]) (st' := [.int (iI l), .ref h.length, .int (iI ((k : Int))), .ref (h.length + 34)]) rfl rfl ?_
      refine go_a (pc' := 45) (ls' := [some (.ref h.length), some (.int (iI e)), some (.int (iI l)), some (.int (iI ((k : Int))))]) (st' := [.int (iI ((k : Int))), .int (iI l), .ref h.length, .int (iI ((k : Int))), .ref (h.length + 34)]) rfl rfl ?_
      refine go_v (m := 99) (as := [.ref h.length, .int (iI l), .int (iI ((k : Int)))]) (r := [.int (iI ((k : Int))), .ref (h.length + 34)]) rfl rfl rfl mh_o rfl rfl (mm_nth z d k m l h R I1 (sa A1 33 k (A1 22 (6 * e + k))) N hc P1 (by omega) l0 (by omega) (isL_12 (A := A) (A1 := sa A1 33 k (A1 22 (6 * e + k))) f1 f2 _ _ hL) (by omega)) (fun v h1 hq => ?_)
      obtain ⟨rfl, rfl⟩ := hq
      rw [show rt (sa A1 33 k (A1 22 (6 * e + k))) k l = rt A k l from rt_12 (A := A) (A1 := sa A1 33 k (A1 22 (6 * e + k))) f2 k l, show (sa A1 33 k (A1 22 (6 * e + k))) 1 = A 1 from f1]
      show xx_go (xt_P z) (d + 1) 169 48 [some (.ref h.length), some (.int (iI e)), some (.int (iI l)), some (.int (iI ((k : Int))))] [.int (iI (A 1 (rt A k l))), .int (iI ((k : Int))), .ref (h.length + 34)] (mh h R I1 (sa A1 33 ((k : Int)) (A1 22 ((6 * e) + ((k : Int))))) N) _
      refine mi_ist rfl mh_a34 (show 12 ≤ _ by omega) (by omega) (by omega) (by decide) ?_
      rw [mh_w34 (by omega)]
      refine go_a (pc' := 52) (ls' := [some (.ref h.length), some (.int (iI e)), some (.int (iI l)), some (.int (iI (((k : Int)) + 1)))]) (st' := []) rfl (by rw [← iI_add ((k : Int)) 1]; rfl) ?_
      refine go_a (pc' := 12) (ls' := [some (.ref h.length), some (.int (iI e)), some (.int (iI l)), some (.int (iI (((k : Int)) + 1)))]) (st' := []) rfl rfl ?_
      refine ih (k + 1) I1 _ (by omega) (by omega) ⟨X.1, fun a p q => (sa_ne q).trans ((sa_ne p).trans (X.2 a p q))⟩ e59 (fun q q0 q1 => ?_)
      show (0 ≤ sf (A1 33) k (A1 22 (6 * e + k)) q ∧ sf (A1 33) k (A1 22 (6 * e + k)) q < 140000) ∧ (0 ≤ sf (A1 34) k (A 1 (rt A k l)) q ∧ sf (A1 34) k (A 1 (rt A k l)) q < I 7) ∧ A 1 (sf (A1 34) k (A 1 (rt A k l)) q) = -2 ∧ (sf (A1 33) k (A1 22 (6 * e + k)) q = A 22 (6 * e + q) ∧ sf (A1 34) k (A 1 (rt A k l)) q = A 1 (rt A q.toNat l))
      by_cases u : q = k
      · rw [u, sf_self, sf_self, f22]
        exact ⟨by omega, by omega, lk.1, rfl, by rw [Int.toNat_natCast]⟩
      · rw [sf_ne u, sf_ne u]
        exact K q q0 (by omega)
theorem mm_takeParameters (z : Value) (d m : Nat) (ar : Int → Int) (e l : Int) (h R : xx_H) (I : Nat → Int) (A : Nat → Int → Int) (N : Int → Int) (hc : 12 ≤ h.length) (hP : PW I A) (e0 : 0 ≤ e) (e1 : e < 40) (em : A 21 e = m) (m6 : m ≤ 6) (l0 : 0 ≤ l) (l1 : l < I 7) (hL : isL A m l) (hV : (∀ j : Nat, j < m → A 1 (A 1 (rt A j l)) = -2 ∧ 1 < A 1 (rt A j l))) (hW : (∀ k : Int, 0 ≤ k → k < A 21 e → 0 ≤ A 22 (6 * e + k) ∧ A 22 (6 * e + k) < I 7)) : xx_cl (xt_P z) (d + 2) 169 [.ref h.length, .int (iI e), .int (iI l)] (mh h R I A N) (fun v h1 => v = none ∧ ∃ (I1 : Nat → Int) (A1 : Nat → Int → Int), h1 = mh h R I1 A1 N ∧ ((∀ j : Nat, j ≠ 59 → I1 j = I j) ∧ ∀ a : Nat, a ≠ 33 → a ≠ 34 → A1 a = A a) ∧ I1 59 = m ∧ PR ar I1 A1 ∧ ∀ q : Int, 0 ≤ q → q < m → A1 33 q = A 22 (6 * e + q) ∧ A1 34 q = A 1 (rt A q.toNat l)) := by
  refine cl_go rfl ?_
  show xx_go (xt_P z) (d + 1) 169 0 [some (.ref h.length), some (.int (iI e)), some (.int (iI l)), none] [] (mh h R I A N) _
  refine go_a (pc' := 1) (ls' := [some (.ref h.length), some (.int (iI e)), some (.int (iI l)), none]) (st' := [.ref h.length]) rfl rfl ?_
  refine go_a (pc' := 2) (ls' := [some (.ref h.length), some (.int (iI e)), some (.int (iI l)), none]) (st' := [.ref h.length, .ref h.length]) rfl rfl ?_
  refine go_get rfl mh_o rfl rfl ?_
  refine go_a (pc' := 6) (ls' := [some (.ref h.length), some (.int (iI e)), some (.int (iI l)), none]) (st' := [.int (iI e), .ref (h.length + 21), .ref h.length]) rfl rfl ?_
  refine mi_ild rfl mh_a21 (by omega) (by omega) (by decide) ?_
  refine go_put (j := 59) rfl mh_o rfl rfl (show 12 ≤ _ from hc) (show 59 < 86 by decide) rfl rfl ?_
  rw [mh_p59]
  refine go_a (pc' := 11) (ls' := [some (.ref h.length), some (.int (iI e)), some (.int (iI l)), none]) (st' := [.int (iI 0)]) rfl rfl ?_
  refine go_a (pc' := 12) (ls' := [some (.ref h.length), some (.int (iI e)), some (.int (iI l)), some (.int (iI 0))]) (st' := []) rfl rfl ?_
  exact mm_takePar_loop z d m ar e l h R I A N hc hP e0 e1 em m6 l0 l1 hL hV hW m 0 _ A (by omega) (by omega) ⟨fun j p => su_ne p, fun _ _ _ => rfl⟩ em (fun q q0 q1 => absurd q1 (by omega))
theorem mm_isStep (z : Value) (d : Nat) (h R : xx_H) (I : Nat → Int) (A : Nat → Int → Int) (N : Int → Int) (hc : 12 ≤ h.length) (s0 : 0 ≤ I 48) (s1 : I 48 ≤ I 47) (s2 : I 47 ≤ 1000) (u0 : 0 ≤ I 49) (u1 : I 49 ≤ 4) : xx_cl (xt_P z) (d + 2) 138 [.ref h.length] (mh h R I A N) (fun v h1 => (v = some (.int (iI 1)) ∧ h1 = mh h R (su I 48 (I 48 + 1)) A N ∧ I 48 < I 47) ∨ (v = some (.int (iI 0)) ∧ ∃ I1 : Nat → Int, h1 = mh h R I1 A N ∧ (∀ j : Nat, j ≠ 49 → I1 j = I j) ∧ (1 ≤ I1 49 ∧ I1 49 ≤ 4) ∧ ¬ I 48 < I 47)) := by
  refine cl_go rfl ?_
  show xx_go (xt_P z) (d + 1) 138 0 [some (.ref h.length)] [] (mh h R I A N) _
  refine go_a (pc' := 1) (ls' := [some (.ref h.length)]) (st' := [.ref h.length]) rfl rfl ?_
  refine go_get (v := .int (iI (I 48))) rfl mh_o rfl rfl ?_
  refine go_a (pc' := 5) (ls' := [some (.ref h.length)]) (st' := [.ref h.length, .int (iI (I 48))]) rfl rfl ?_
  refine go_get (v := .int (iI (I 47))) rfl mh_o rfl rfl ?_
  refine mi_ne (t := 18) rfl rfl (by omega) (by omega) (by omega) (by omega) (fun e => ?_) (fun e => ?_)
  · refine go_a (pc' := 19) (ls' := [some (.ref h.length)]) (st' := [.ref h.length]) rfl rfl ?_
    refine go_a (pc' := 20) (ls' := [some (.ref h.length)]) (st' := [.ref h.length, .ref h.length]) rfl rfl ?_
    refine go_get (v := .int (iI (I 48))) rfl mh_o rfl rfl ?_
    refine go_a (pc' := 24) (ls' := [some (.ref h.length)]) (st' := [.int (iI 1), .int (iI (I 48)), .ref h.length]) rfl rfl ?_
    refine mi_add rfl ?_
    refine go_put (j := 48) rfl mh_o rfl rfl (show 12 ≤ _ from hc) (show 48 < 86 by decide) rfl rfl ?_
    rw [mh_p48]
    refine go_a (pc' := 29) (ls' := [some (.ref h.length)]) (st' := [.int (iI 1)]) rfl rfl ?_
    exact go_r rfl rfl rfl rfl rfl rfl (Or.inl ⟨rfl, rfl, by omega⟩)
  · refine go_a (pc' := 12) (ls' := [some (.ref h.length)]) (st' := [.ref h.length]) rfl rfl ?_
    refine go_a (pc' := 13) (ls' := [some (.ref h.length)]) (st' := [.int (iI 1), .ref h.length]) rfl rfl ?_
    refine go_v (m := 128) (as := [.ref h.length, .int (iI 1)]) (r := []) rfl rfl rfl mh_o rfl rfl (mm_fail z d 1 h R I A N hc u0 u1) (fun v h1 hq => ?_)
    obtain ⟨rfl, hq⟩ := hq
    rcases hq with ⟨nz, rfl⟩ | ⟨ez, rfl⟩
    · show xx_go (xt_P z) (d + 1) 138 16 [some (.ref h.length)] [] (mh h R I A N) _
      refine go_a (pc' := 17) (ls' := [some (.ref h.length)]) (st' := [.int (iI 0)]) rfl rfl ?_
      exact go_r rfl rfl rfl rfl rfl rfl (Or.inr ⟨rfl, I, rfl, fun _ _ => rfl, ⟨by omega, u1⟩, by omega⟩)
    · show xx_go (xt_P z) (d + 1) 138 16 [some (.ref h.length)] [] (mh h R (su I 49 1) A N) _
      refine go_a (pc' := 17) (ls' := [some (.ref h.length)]) (st' := [.int (iI 0)]) rfl rfl ?_
      exact go_r rfl rfl rfl rfl rfl rfl (Or.inr ⟨rfl, _, rfl, fun j p => su_ne p, ⟨(show (1 : Int) ≤ 1 by decide), (show (1 : Int) ≤ 4 by decide)⟩, by omega⟩)

