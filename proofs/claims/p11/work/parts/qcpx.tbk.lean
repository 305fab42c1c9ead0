def TSB : List sp_Th → Prop
  | [] => True
  | th :: r => 1 ≤ (sp_ts (sp_ft (sp_FB (th :: r))) th.2.2).1 ∧ TSB r
def KND (f : Int → Int) : List sp_Th → Prop
  | [] => True
  | (_, some _, _) :: r => f (r.length : Int) = 1 ∧ KND f r
  | (_, none, _) :: r => f (r.length : Int) = 0 ∧ KND f r
def ROWS (bk : List sp_Th) (A : Nat → Int → Int) (N : Int → Int) : Prop := (∀ e : Nat, e < (sp_FB bk).length → ∃ (v : Nat) (ps : List Nat) (B : ob_T), (sp_FB bk)[e]? = some (v, ps, B) ∧ ROWD A N (e : Int) v ps B) ∧ ∀ e : Nat, e < (sp_TB bk).length → ∃ (v : Nat) (B : ob_T), (sp_TB bk)[e]? = some (v, B) ∧ ROWT A N (e : Int) v B
def TBK (bk : List sp_Th) (I : Nat → Int) (A : Nat → Int → Int) (N : Int → Int) : Prop := TRX I A N ∧ (bk.length : Int) = I 41 ∧ KND (A 27) bk ∧ TSB bk ∧ ROWS bk A N
def RBD (lim nd nt : Int) (A : Nat → Int → Int) : Prop := (∀ e : Int, 0 ≤ e → e < nd → (0 ≤ A 20 e ∧ A 20 e < lim) ∧ A 21 e ≤ 6 ∧ (∀ k : Int, 0 ≤ k → k < A 21 e → 0 ≤ A 22 (6 * e + k) ∧ A 22 (6 * e + k) < lim) ∧ 0 ≤ A 23 e ∧ A 23 e < lim) ∧ ∀ e : Int, 0 ≤ e → e < nt → (0 ≤ A 25 e ∧ A 25 e < lim) ∧ 0 ≤ A 26 e ∧ A 26 e < lim
section TBS
variable {bk : List sp_Th} {I I1 : Nat → Int} {A A1 : Nat → Int → Int} {N N1 : Int → Int} {ar : Int → Int} {f g : Int → Int} {lim nd nt : Int} {th : sp_Th}
theorem KND_ext : ∀ bk : List sp_Th, (∀ k : Int, 0 ≤ k → k < bk.length → g k = f k) → KND f bk → KND g bk
  | [], _, _ => trivial
  | (_, some _, _) :: r, h, q => by
    have h : ∀ k : Int, 0 ≤ k → k < ((r.length + 1 : Nat) : Int) → g k = f k := h
    exact ⟨(h _ (by omega) (by omega)).trans q.1, KND_ext r (fun k a b => h k a (by omega)) q.2⟩
  | (_, none, _) :: r, h, q => by
    have h : ∀ k : Int, 0 ≤ k → k < ((r.length + 1 : Nat) : Int) → g k = f k := h
    exact ⟨(h _ (by omega) (by omega)).trans q.1, KND_ext r (fun k a b => h k a (by omega)) q.2⟩
theorem KND_cnt : ∀ bk : List sp_Th, KND f bk → CNT f 1 bk.length = ((sp_FB bk).length : Int) ∧ CNT f 0 bk.length = ((sp_TB bk).length : Int)
  | [], _ => ⟨rfl, rfl⟩
  | (v, some ps, B) :: r, q => by
    have i := KND_cnt r q.2
    have e := q.1
    show CNT f 1 r.length + (if f (r.length : Int) = 1 then 1 else 0) = ((sp_FB r ++ [(v, ps, B)]).length : Int) ∧ CNT f 0 r.length + (if f (r.length : Int) = 0 then 1 else 0) = ((sp_TB r).length : Int)
    rw [e, if_pos rfl, if_neg (by decide), List.length_append, List.length_singleton]
    omega
  | (v, none, B) :: r, q => by
    have i := KND_cnt r q.2
    have e := q.1
    show CNT f 1 r.length + (if f (r.length : Int) = 1 then 1 else 0) = ((sp_FB r).length : Int) ∧ CNT f 0 r.length + (if f (r.length : Int) = 0 then 1 else 0) = ((sp_TB r ++ [(v, B)]).length : Int)
    rw [e, if_neg (by decide), if_pos rfl, List.length_append, List.length_singleton]
    omega
theorem TSB_all : ∀ bk : List sp_Th, TSB bk → (∀ p ∈ sp_FB bk, 1 ≤ (sp_ts (sp_ft (sp_FB bk)) p.2.2).1) ∧ ∀ p ∈ sp_TB bk, 1 ≤ (sp_ts (sp_ft (sp_FB bk)) p.2).1
  | [], _ => ⟨fun p hp => (by cases hp), fun p hp => (by cases hp)⟩
  | (v, some ps, B) :: r, q => by
    have i := TSB_all r q.2
    have up : ∀ w : Nat, 0 ≤ sp_ft (sp_FB r) w → sp_ft (sp_FB r ++ [(v, ps, B)]) w = sp_ft (sp_FB r) w := fun w hw => sp_ft_up [(v, ps, B)] hw
    refine ⟨fun p hp => ?_, fun p hp => ?_⟩
    · rcases List.mem_append.mp (show p ∈ sp_FB r ++ [(v, ps, B)] from hp) with m | m
      · exact ts_u1 up (i.1 p m)
      · rw [List.mem_singleton.mp m]
        exact q.1
    · exact ts_u1 up (i.2 p hp)
  | (v, none, B) :: r, q => by
    have i := TSB_all r q.2
    refine ⟨i.1, fun p hp => ?_⟩
    rcases List.mem_append.mp (show p ∈ sp_TB r ++ [(v, B)] from hp) with m | m
    · exact i.2 p m
    · rw [List.mem_singleton.mp m]
      exact q.1
theorem ROWD_px {e : Int} {v : Nat} {ps : List Nat} {B : ob_T} (h : ROWD A N e v ps B) (b : (0 ≤ A 20 e ∧ A 20 e < lim) ∧ A 21 e ≤ 6 ∧ (∀ k : Int, 0 ≤ k → k < A 21 e → 0 ≤ A 22 (6 * e + k) ∧ A 22 (6 * e + k) < lim) ∧ 0 ≤ A 23 e ∧ A 23 e < lim) (r : A1 20 e = A 20 e ∧ A1 21 e = A 21 e ∧ (∀ j : Int, 0 ≤ j → j < 6 → A1 22 (6 * e + j) = A 22 (6 * e + j)) ∧ A1 23 e = A 23 e ∧ A1 24 e = A 24 e) (dm : ∀ k : Int, 0 ≤ k → k < lim → DM A1 N1 k = DM A N k) : ROWD A1 N1 e v ps B := by
  obtain ⟨h1, ⟨h2, h3⟩, h4, h5⟩ := h
  obtain ⟨r1, r2, r3, r4, r5⟩ := r
  refine ⟨by rw [r1, dm _ b.1.1 b.1.2]; exact h1, ⟨by rw [r2]; exact h2, fun k hk => ?_⟩, by rw [r4, dm _ b.2.2.2.1 b.2.2.2.2]; exact h4, by rw [r5]; exact h5⟩
  obtain ⟨w, w1, w2, w3⟩ := h3 k hk
  have q := b.2.2.1 (k : Int) (by omega) (by omega)
  have b21 := b.2.1
  exact ⟨w, w1, by rw [r3 (k : Int) (by omega) (by omega), dm _ q.1 q.2]; exact w2, w3⟩
theorem ROWT_px {e : Int} {v : Nat} {B : ob_T} (h : ROWT A N e v B) (b : (0 ≤ A 25 e ∧ A 25 e < lim) ∧ 0 ≤ A 26 e ∧ A 26 e < lim) (r : A1 25 e = A 25 e ∧ A1 26 e = A 26 e) (dm : ∀ k : Int, 0 ≤ k → k < lim → DM A1 N1 k = DM A N k) : ROWT A1 N1 e v B := ⟨by rw [r.1, dm _ b.1.1 b.1.2]; exact h.1, by rw [r.2, dm _ b.2.1 b.2.2]; exact h.2⟩
theorem ROWS_px (h : ROWS bk A N) (b : RBD lim ((sp_FB bk).length : Int) ((sp_TB bk).length : Int) A) (r2 : RX2 ((sp_FB bk).length : Int) A A1) (r3 : RX3 ((sp_TB bk).length : Int) A A1) (dm : ∀ k : Int, 0 ≤ k → k < lim → DM A1 N1 k = DM A N k) : ROWS bk A1 N1 := by
  refine ⟨fun e he => ?_, fun e he => ?_⟩
  · obtain ⟨v, ps, B, q1, q2⟩ := h.1 e he
    exact ⟨v, ps, B, q1, ROWD_px q2 (b.1 e (by omega) (by omega)) (r2 e (by omega) (by omega)) dm⟩
  · obtain ⟨v, B, q1, q2⟩ := h.2 e he
    exact ⟨v, B, q1, ROWT_px q2 (b.2 e (by omega) (by omega)) (r3 e (by omega) (by omega)) dm⟩
theorem ROWS_tl : ROWS (th :: bk) A N → ROWS bk A N := by
  obtain ⟨v, ps, B⟩ := th
  cases ps with
  | some ps =>
    intro h
    refine ⟨fun e he => ?_, h.2⟩
    obtain ⟨v1, ps1, B1, q1, q2⟩ := h.1 e (by show e < (sp_FB bk ++ [(v, ps, B)]).length; rw [List.length_append]; omega)
    have q1 : (sp_FB bk ++ [(v, ps, B)])[e]? = some (v1, ps1, B1) := q1
    rw [List.getElem?_append_left he] at q1
    exact ⟨v1, ps1, B1, q1, q2⟩
  | none =>
    intro h
    refine ⟨h.1, fun e he => ?_⟩
    obtain ⟨v1, B1, q1, q2⟩ := h.2 e (by show e < (sp_TB bk ++ [(v, B)]).length; rw [List.length_append]; omega)
    have q1 : (sp_TB bk ++ [(v, B)])[e]? = some (v1, B1) := q1
    rw [List.getElem?_append_left he] at q1
    exact ⟨v1, B1, q1, q2⟩
theorem KND_tl : KND f (th :: bk) → KND f bk := by
  obtain ⟨v, ps, B⟩ := th
  cases ps with
  | some ps => exact fun h => h.2
  | none => exact fun h => h.2
theorem OLD_RBD (h : OLD A lim nd nt) : RBD lim nd nt A := by
  obtain ⟨ar, -, -, h3, h4⟩ := h
  refine ⟨fun e e0 e1 => ?_, fun e e0 e1 => ?_⟩
  · obtain ⟨d1, d2, d3, d4, -⟩ := h3.2.1 e e0 e1
    have d1b : A 20 e < lim := d1.2
    exact ⟨⟨by omega, d1b⟩, d2.2.1, fun k k0 k1 => (d3 k k0 k1).1, d4⟩
  · obtain ⟨d1, d2, -⟩ := h3.2.2 e e0 e1
    exact ⟨⟨d1.1, h4 e e0 e1⟩, d2⟩
theorem TBK_len (h : TBK bk I A N) (tk : TKN I A) : ((sp_FB bk).length : Int) = I 32 ∧ ((sp_TB bk).length : Int) = I 38 := by
  have q := KND_cnt bk h.2.2.1
  have l : (I 41).toNat = bk.length := by
    have := h.2.1
    omega
  rw [tk.2.2.1.1, tk.2.2.1.2, l]
  omega
theorem mk_BTX (hB : BI ar I A N) (e44 : I 44 = -1) (hT : TRX I A N) (hl : ((sp_FB bk).length : Int) = I 32 ∧ ((sp_TB bk).length : Int) = I 38) (hs : TSB bk) (hr : ROWS bk A N) (h25 : ∀ e : Int, 0 ≤ e → e < I 38 → A 25 e < I 7) : BTX ar (sp_ft (sp_FB bk)) (sp_FB bk) (sp_TB bk) I A N := by
  have D := hB.2.2.1
  have K : ART ar (sp_ft (sp_FB bk)) I A N := ART_mk hB.1.1 hB.1.2.1 hT hB.2.1.1 hB.2.1.2 e44 hl.1 (fun e he => by
    obtain ⟨v, ps, B, q1, q2⟩ := hr.1 e he
    have d := D.2.1 e (by omega) (by omega)
    exact ⟨v, ps, B, q1, ⟨by have := d.1.1; omega, d.1.2⟩, q2.1, q2.2.1.1⟩)
  have ts : ∀ k : Int, 0 ≤ k → k < I 7 → 1 ≤ (sp_ts (sp_ft (sp_FB bk)) (DM A N k)).1 → 1 ≤ TS A ar k := fun k k0 k1 q => by
    rw [TS_1 hB.1.1 hB.1.2.1 hT K k0 k1] at q
    exact q
  have al := TSB_all bk hs
  refine ⟨hT, K, FTM_ft, hl, fun e he => ?_, fun e he => ?_⟩
  · obtain ⟨v, ps, B, q1, q2, ⟨q3, q4⟩, q5, q6⟩ := hr.1 e he
    have d := D.2.1 e (by omega) (by omega)
    have t := al.1 _ (List.mem_of_getElem? q1)
    have t : 1 ≤ (sp_ts (sp_ft (sp_FB bk)) B).1 := t
    rw [q5] at t
    refine ⟨v, ps, B, q1, ⟨⟨by have := d.1.1; omega, d.1.2⟩, q2⟩, ⟨q3, fun k hk => ?_⟩, ⟨d.2.2.2.1, q5⟩, ts _ d.2.2.2.1.1 d.2.2.2.1.2 t, q6⟩
    obtain ⟨w, w1, w2, w3⟩ := q4 k hk
    exact ⟨w, w1, ⟨(d.2.2.1 (k : Int) (by omega) (by omega)).1, w2⟩, w3⟩
  · obtain ⟨v, B, q1, q2, q5⟩ := hr.2 e he
    have d := D.2.2 e (by omega) (by omega)
    have t := al.2 _ (List.mem_of_getElem? q1)
    have t : 1 ≤ (sp_ts (sp_ft (sp_FB bk)) B).1 := t
    rw [q5] at t
    exact ⟨v, B, q1, ⟨⟨d.1.1, h25 e (by omega) (by omega)⟩, q2⟩, ⟨d.2.1, q5⟩, ts _ d.2.1.1 d.2.1.2 t⟩
theorem TBK_same (h : TBK bk I A N) (tk : TKN I A) (hT : TRX I1 A1 N1) (e41 : I1 41 = I 41) (dm : ∀ k : Int, 0 ≤ k → k < I 7 → DM A1 N1 k = DM A N k) (ga : ∀ a : Nat, 20 ≤ a → a ≤ 28 → A1 a = A a) : TBK bk I1 A1 N1 := by
  have hl := TBK_len h tk
  obtain ⟨h1, h2, h3, h4, h5⟩ := h
  have old := (tk.2.2.2.2 (I 41) tk.1 (Int.le_refl _)).2
  rw [LIM_T, ← tk.2.2.1.1, ← tk.2.2.1.2] at old
  have b := OLD_RBD old
  rw [← hl.1, ← hl.2] at b
  refine ⟨hT, by rw [e41]; exact h2, by rw [ga 27 (by decide) (by decide)]; exact h3, h4, ROWS_px h5 b (fun e _ _ => ?_) (fun e _ _ => ?_) dm⟩
  · rw [ga 20 (by decide) (by decide), ga 21 (by decide) (by decide), ga 22 (by decide) (by decide), ga 23 (by decide) (by decide), ga 24 (by decide) (by decide)]
    exact ⟨rfl, rfl, fun _ _ _ => rfl, rfl, rfl⟩
  · rw [ga 25 (by decide) (by decide), ga 26 (by decide) (by decide)]
    exact ⟨rfl, rfl⟩
theorem TBK_undo (h : TBK bk I A N) (tk : TKN I A) (hT : TRX I1 A1 N1) (p : 0 < I 41) (e41 : I1 41 = I 41 - 1) (dm : ∀ k : Int, 0 ≤ k → k < A 28 (I 41 - 1) → DM A1 N1 k = DM A N k) (ga : ∀ a : Nat, 20 ≤ a → a ≤ 28 → A1 a = A a) : TBK (bk.drop 1) I1 A1 N1 := by
  obtain ⟨h1, h2, h3, h4, h5⟩ := h
  cases bk with
  | nil =>
    have h2 : ((0 : Nat) : Int) = I 41 := h2
    omega
  | cons th r =>
    have h2 : ((r.length + 1 : Nat) : Int) = I 41 := h2
    have h3r := KND_tl h3
    have cn := KND_cnt r h3r
    have old := (tk.2.2.2.2 (I 41 - 1) (by omega) (by omega)).2
    rw [LIM_lt (by omega), show (I 41 - 1).toNat = r.length by omega, cn.1, cn.2] at old
    have b := OLD_RBD old
    refine ⟨hT, ?_, ?_, h4.2, ROWS_px (ROWS_tl h5) b (fun e _ _ => ?_) (fun e _ _ => ?_) dm⟩
    · show (r.length : Int) = I1 41
      omega
    · show KND (A1 27) r
      rw [ga 27 (by decide) (by decide)]
      exact h3r
    · rw [ga 20 (by decide) (by decide), ga 21 (by decide) (by decide), ga 22 (by decide) (by decide), ga 23 (by decide) (by decide), ga 24 (by decide) (by decide)]
      exact ⟨rfl, rfl, fun _ _ _ => rfl, rfl, rfl⟩
    · rw [ga 25 (by decide) (by decide), ga 26 (by decide) (by decide)]
      exact ⟨rfl, rfl⟩
theorem TBK_new {kd : Int} (h : TBK bk I A N) (tk : TKN I A) (T : TKR kd th bk I1 A1 N1) (e41 : I1 41 = I 41 + 1) (e32 : I1 32 = I 32 + kd) (e38 : I1 38 = I 38 + (1 - kd)) (a27 : A1 27 = sf (A 27) (I 41) kd) (r2 : RX2 (I 32) A A1) (r3 : RX3 (I 38) A A1) (dm : ∀ k : Int, 0 ≤ k → k < I 7 → DM A1 N1 k = DM A N k) : TBK (th :: bk) I1 A1 N1 := by
  have hl := TBK_len h tk
  obtain ⟨h1, h2, h3, h4, h5⟩ := h
  have old := (tk.2.2.2.2 (I 41) tk.1 (Int.le_refl _)).2
  rw [LIM_T, ← tk.2.2.1.1, ← tk.2.2.1.2] at old
  have b := OLD_RBD old
  rw [← hl.1, ← hl.2] at b
  rw [← hl.1] at r2
  rw [← hl.2] at r3
  have R := ROWS_px h5 b r2 r3 dm
  obtain ⟨T1, T2, T3⟩ := T
  have kn : KND (A1 27) bk := KND_ext bk (fun k a b => by rw [a27, sf_ne (by omega)]) h3
  have nw : A1 27 (bk.length : Int) = kd := by rw [a27, h2, sf_self]
  have ln : ((bk.length + 1 : Nat) : Int) = I1 41 := by omega
  rcases T3 with ⟨rfl, v, ps, F, rfl, rd⟩ | ⟨rfl, v, F, rfl, rd⟩
  · refine ⟨T1, ln, ⟨nw, kn⟩, ⟨T2, h4⟩, fun e he => ?_, R.2⟩
    have he : e < (sp_FB bk ++ [(v, ps, F)]).length := he
    rw [List.length_append, List.length_singleton] at he
    show ∃ (v1 : Nat) (ps1 : List Nat) (B : ob_T), (sp_FB bk ++ [(v, ps, F)])[e]? = some (v1, ps1, B) ∧ _
    by_cases c : e < (sp_FB bk).length
    · obtain ⟨v1, ps1, B1, q1, q2⟩ := R.1 e c
      exact ⟨v1, ps1, B1, by rw [List.getElem?_append_left c]; exact q1, q2⟩
    · have ce : e = (sp_FB bk).length := by omega
      refine ⟨v, ps, F, by rw [ce, List.getElem?_concat_length], ?_⟩
      rw [show (e : Int) = I1 32 - 1 by omega]
      exact rd
  · refine ⟨T1, ln, ⟨nw, kn⟩, ⟨T2, h4⟩, R.1, fun e he => ?_⟩
    have he : e < (sp_TB bk ++ [(v, F)]).length := he
    rw [List.length_append, List.length_singleton] at he
    show ∃ (v1 : Nat) (B : ob_T), (sp_TB bk ++ [(v, F)])[e]? = some (v1, B) ∧ _
    by_cases c : e < (sp_TB bk).length
    · obtain ⟨v1, B1, q1, q2⟩ := R.2 e c
      exact ⟨v1, B1, by rw [List.getElem?_append_left c]; exact q1, q2⟩
    · have ce : e = (sp_TB bk).length := by omega
      refine ⟨v, F, by rw [ce, List.getElem?_concat_length], ?_⟩
      rw [show (e : Int) = I1 38 - 1 by omega]
      exact rd
end TBS
