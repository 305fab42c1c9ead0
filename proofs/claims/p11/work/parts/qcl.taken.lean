def up (ar : Int → Int) (n m : Int) : Int → Int := fun f => if f = n then m else ar f
section TKS
variable {I I1 : Nat → Int} {A A1 : Nat → Int → Int} {N N1 : Int → Int} {ar ar1 : Int → Int} {lim lim1 nd nt n m : Int}
theorem up_s : up ar n m n = m := if_pos rfl
theorem up_n {f : Int} (h : f ≠ n) : up ar n m f = ar f := if_neg h
theorem AR_new (h : AR ar I A) (e44 : I 44 = -1) (n1 : 16 < n) (n2 : n < 140000) (m0 : 0 ≤ m) (m6 : m ≤ 6) : AR (up ar n m) (su (su I 44 n) 45 m) A := by
  obtain ⟨⟨a1, a2, a3⟩, b, c, e⟩ := h
  refine ⟨⟨by rw [up_n (by omega)]; exact a1, fun f p q => by rw [up_n (by omega)]; exact a2 f p q, fun f p q => by rw [up_n (by omega)]; exact a3 f p q⟩, ⟨Or.inr n1, n2, m0, m6, fun _ => up_s⟩, c, fun f p q => ?_⟩
  have r := e f p q
  refine ⟨r.1, r.2.1, fun s => ?_⟩
  have s : A 20 f ≠ n := s
  rw [up_n s]
  exact r.2.2 (by omega)
theorem ARF_new (h : ARF ar I A) (e44 : I 44 = -1) (n1 : 16 < n) (n2 : n < I 7) (n3 : A 1 n = -2) : ARF (up ar n m) (su (su I 44 n) 45 m) A := by
  intro f f0 f1
  by_cases e : f = n
  · rw [e]
    exact ⟨n2, n3, 99, Or.inr (Or.inl ⟨n1, rfl, rfl⟩)⟩
  · rw [up_n e] at f1
    obtain ⟨q1, q2, x, q3⟩ := h f f0 f1
    refine ⟨q1, q2, x, ?_⟩
    rcases q3 with q | q | q
    · exact Or.inl q
    · exact absurd q.2.2 (by omega)
    · exact Or.inr (Or.inr ⟨q.1, e, q.2.2.1, q.2.2.2.1, q.2.2.2.2⟩)
theorem OLA_px (hP : PW (VS lim nd nt) A) (n0 : A 1 0 < 0) (hl : lim ≤ lim1) (hx : OX lim A A1) (r2 : RX2 nd A A1) (r3 : RX3 nt A A1) (h : OLA ar A lim nd nt) : OLA ar A1 lim1 nd nt := by
  obtain ⟨h1, h2, h3, h4⟩ := h
  refine ⟨AR_px h1 r2, ARF_px h2 hl hx r2, DFS_px hP n0 h1.1.1 h3 hl hx r2 r3, fun e e0 e1 => ?_⟩
  have := h4 e e0 e1
  rw [(r3 e e0 e1).1]
  omega
theorem OLA_thm (h : OLA ar A lim nd nt) (t0 : 0 ≤ nt) (t1 : nt < 60) (hl : lim ≤ 140000) (p : 0 ≤ A 25 nt ∧ A 25 nt < lim) (q : 0 ≤ A 26 nt ∧ A 26 nt < lim) (t : 1 ≤ TZ A ar (A 26 nt) ∧ TZ A ar (A 26 nt) ≤ 120) : OLA ar A lim nd (nt + 1) := by
  obtain ⟨h1, h2, h3, h4⟩ := h
  refine ⟨h1, h2, ⟨⟨h3.1.1, (show 0 ≤ nt + 1 by omega), (show nt + 1 ≤ 60 by omega)⟩, h3.2.1, fun e e0 e1 => ?_⟩, fun e e0 e1 => ?_⟩
  · by_cases c : e = nt
    · rw [c]
      exact ⟨⟨p.1, Int.lt_of_lt_of_le p.2 hl⟩, q, t⟩
    · have e2 : e < nt + 1 := e1
      exact h3.2.2 e e0 (show e < nt by omega)
  · by_cases c : e = nt
    · rw [c]
      exact p.2
    · exact h4 e e0 (by omega)
theorem OLA_def (hP : PW (VS lim nd nt) A) (n0 : A 1 0 < 0) (h : OLA ar A lim nd nt) (d0 : 0 ≤ nd) (d1 : nd < 40) (n1 : 16 < n) (hn : ∀ e : Int, 0 ≤ e → e < nd → A 20 e ≠ n) (nl : n < lim) (n3 : A 1 n = -2) (e20 : A 20 nd = n) (e21 : A 21 nd = m) (hl : lim ≤ 140000) (hd : DEF (up ar n m) (VS lim (nd + 1) nt) A nd) : OLA (up ar n m) A lim (nd + 1) nt := by
  obtain ⟨⟨⟨a1, a2, a3⟩, b, c, e⟩, h2, h3, h4⟩ := h
  have an : ¬ ar n ≠ -1 := by
    intro q
    obtain ⟨-, -, x, f⟩ := h2 n (by omega) q
    rcases f with f | f | f
    · omega
    · exact absurd f.2.2 (show ¬ n = -1 by omega)
    · have y : x < 100 + nd := f.2.2.2.1
      have y2 := f.2.2.1
      exact hn (x - 100) (by omega) (by omega) f.2.2.2.2
  have hx : ARX lim ar (up ar n m) := fun f f0 f1 f2 => by
    by_cases q : f = n
    · subst q
      omega
    · exact up_n q
  have m6 := hd.2.1
  rw [e21] at m6
  refine ⟨⟨⟨by rw [up_n (by omega)]; exact a1, fun f p q => by rw [up_n (by omega)]; exact a2 f p q, fun f p q => by rw [up_n (by omega)]; exact a3 f p q⟩, b.imp id (fun q => ⟨q.1, q.2.1, q.2.2.1, fun s => absurd s (show ¬ (16 : Int) < -1 by decide)⟩), ⟨(show 0 ≤ nd + 1 by omega), (show nd + 1 ≤ 40 by omega)⟩, fun f p q => ?_⟩, fun f f0 f1 => ?_, ⟨⟨⟨(show 0 ≤ nd + 1 by omega), (show nd + 1 ≤ 40 by omega)⟩, h3.1.2⟩, fun f p q => ?_, fun f p q => THM_px (I := VS lim nd nt) (I1 := VS lim (nd + 1) nt) hP (Int.le_refl _) OX_rf hx ⟨rfl, rfl⟩ (h3.2.2 f p q)⟩, h4⟩
  · have q : f < nd + 1 := q
    by_cases g : f = nd
    · rw [g, e20, e21]
      exact ⟨⟨n1, by omega⟩, ⟨m6.1, m6.2.1⟩, fun _ => up_s⟩
    · have r := e f p (show f < nd by omega)
      refine ⟨r.1, r.2.1, fun s => ?_⟩
      rw [up_n (hn f p (by omega))]
      exact r.2.2 s
  · by_cases g : f = n
    · rw [g]
      refine ⟨nl, n3, 100 + nd, Or.inr (Or.inr ⟨n1, (show n ≠ -1 by omega), by omega, (show 100 + nd < 100 + (nd + 1) by omega), ?_⟩)⟩
      rw [show 100 + nd - 100 = nd by omega]
      exact e20
    · rw [up_n g] at f1
      obtain ⟨q1, q2, x, q3⟩ := h2 f f0 f1
      refine ⟨q1, q2, x, ?_⟩
      rcases q3 with q | q | q
      · exact Or.inl q
      · exact Or.inr (Or.inl q)
      · have y : x < 100 + nd := q.2.2.2.1
        exact Or.inr (Or.inr ⟨q.1, q.2.1, q.2.2.1, (show x < 100 + (nd + 1) by omega), q.2.2.2.2⟩)
  · have q : f < nd + 1 := q
    by_cases g : f = nd
    · rw [g]
      exact hd
    · exact DEF_px (I := VS lim nd nt) (I1 := VS lim (nd + 1) nt) hP n0 a1 (Int.le_refl _) OX_rf hx ⟨rfl, rfl, fun _ _ _ => rfl, rfl, rfl⟩ (h3.2.1 f p (show f < nd by omega))
end TKS
def CTK (kd o : Int) (I : Nat → Int) (A : Nat → Int → Int) (N : Int → Int) (I1 : Nat → Int) (A1 : Nat → Int → Int) (N1 : Int → Int) : Prop := (OX (I 7) A A1 ∧ RX2 (I 32) A A1 ∧ RX3 (I 38) A A1 ∧ OLD A1 (I1 7) (I1 32) (I1 38)) ∧ ((kd = 0 ∨ kd = 1) ∧ I1 41 = I 41 + 1 ∧ I1 32 = I 32 + kd ∧ I1 38 = I 38 + (1 - kd) ∧ A1 27 = sf (A 27) (I 41) kd ∧ A1 28 = sf (A 28) (I 41) (I 46)) ∧ (MST I1 A1 N1 ∧ NM I1 A1 ∧ SZI (fun _ => 0) I1 A1) ∧ ((I1 54 = 0 ∧ I1 56 = 0) ∧ STP I1 ∧ (0 ≤ I1 15 ∧ I1 15 ≤ 2000) ∧ (0 ≤ I1 50 ∧ I1 50 ≤ 30) ∧ (0 ≤ I1 49 ∧ I1 49 ≤ 4) ∧ (0 ≤ I1 45 ∧ I1 45 ≤ 6)) ∧ (I 7 ≤ I1 7 ∧ I1 7 ≤ I 7 + 2 * WD A o - PT A o ∧ I1 10 ≤ I 10) ∧ (∀ j : Nat, j ≠ 7 → ¬ FDD j → j ≠ 32 → j ≠ 38 → j ≠ 41 → I1 j = I j) ∧ ∀ a : Nat, a ≠ 1 → a ≠ 2 → a ≠ 3 → a ≠ 4 → a ≠ 5 → a ≠ 7 → ¬ GT2 a → ¬ (20 ≤ a ∧ a ≤ 28) → A1 a = A a
theorem CTH_CTK {ar : Int → Int} {o : Int} {I I1 : Nat → Int} {A A1 : Nat → Int → Int} {N N1 : Int → Int} (hB : BI ar I A N) (e44 : I 44 = -1) (h25 : ∀ e : Int, 0 ≤ e → e < I 38 → A 25 e < I 7) (h : CTH ar o I A N I1 A1 N1) : CTK 0 o I A N I1 A1 N1 := by
  obtain ⟨I3, A3, n, t, rfl, rfl, C, B3, d38, e44b, c7, c10, hn, ht, t1, t2⟩ := h
  have X := C.1
  have hP := BI_P hB
  have n0 := BI_n0 hB
  have f32 : I3 32 = I 32 := X.2.2.2.1 32 (by decide) (by unfold FDD FT3 FT2 FQ; omega)
  have f38 : I3 38 = I 38 := X.2.2.2.1 38 (by decide) (by unfold FDD FT3 FT2 FQ; omega)
  have f41 : I3 41 = I 41 := X.2.2.2.1 41 (by decide) (by unfold FDD FT3 FT2 FQ; omega)
  have f46 : I3 46 = I 46 := X.2.2.2.1 46 (by decide) (by unfold FDD FT3 FT2 FQ; omega)
  have ga : ∀ a : Nat, 20 ≤ a → a ≤ 28 → A3 a = A a := fun a p q => X.2.2.2.2 a (by omega) (by omega) (by omega) (by omega) (by omega) (by omega) (by unfold GT2 GQ; omega)
  have x7 := X.2.1
  have d3 := B3.2.2.1.1
  have hx : OX (I 7) A (sa (sa (sa (sa A3 25 (I3 38) n) 26 (I3 38) t) 27 (I3 41) 0) 28 (I3 41) (I3 46)) := fun k a b => ⟨(X.2.2.1 k a b).1, (X.2.2.1 k a b).2.1, (X.2.2.1 k a b).2.2.2⟩
  have r2 : RX2 (I 32) A (sa (sa (sa (sa A3 25 (I3 38) n) 26 (I3 38) t) 27 (I3 41) 0) 28 (I3 41) (I3 46)) := fun e p q => ⟨congrFun (ga 20 (by decide) (by decide)) _, congrFun (ga 21 (by decide) (by decide)) _, fun j _ _ => congrFun (ga 22 (by decide) (by decide)) _, congrFun (ga 23 (by decide) (by decide)) _, congrFun (ga 24 (by decide) (by decide)) _⟩
  have r3 : RX3 (I 38) A (sa (sa (sa (sa A3 25 (I3 38) n) 26 (I3 38) t) 27 (I3 41) 0) 28 (I3 41) (I3 46)) := fun e p q => by
    refine ⟨?_, ?_⟩
    · show sf (A3 25) (I3 38) n e = A 25 e
      rw [sf_ne (by omega), ga 25 (by decide) (by decide)]
    · show sf (A3 26) (I3 38) t e = A 26 e
      rw [sf_ne (by omega), ga 26 (by decide) (by decide)]
  have T1 : TZ (sa (sa (sa (sa A3 25 (I3 38) n) 26 (I3 38) t) 27 (I3 41) 0) 28 (I3 41) (I3 46)) ar = TZ A3 ar := (TZ_124 (A := A3) (A1 := sa (sa (sa (sa A3 25 (I3 38) n) 26 (I3 38) t) 27 (I3 41) 0) 28 (I3 41) (I3 46)) (ar := ar) rfl rfl rfl).1
  have o1 := BI_OLA hB e44 h25
  have o2 := OLA_px (PW_VS hP (Int.le_refl _)) n0 x7 hx r2 r3 o1
  have nm : NM I3 A3 := NM_BX2 hB.1.2.1 X
  have zz : SZI (fun _ => 0) (su (su I3 38 (I3 38 + 1)) 41 (I3 41 + 1)) (sa (sa (sa (sa A3 25 (I3 38) n) 26 (I3 38) t) 27 (I3 41) 0) 28 (I3 41) (I3 46)) := SZI_124 (I := I3) (A := A3) (show SZI (fun _ => 0) I3 A3 from C.2.1) rfl rfl rfl rfl
  refine ⟨⟨hx, r2, r3, ar, ?_⟩, ⟨Or.inl rfl, by show I3 41 + 1 = I 41 + 1; omega, by show I3 32 = I 32 + 0; omega, by show I3 38 + 1 = I 38 + (1 - 0); omega, ?_, ?_⟩, ⟨C.1.1, nm, zz⟩, ⟨C.2.2.1, C.2.2.2.1, C.2.2.2.2.1, C.2.2.2.2.2.1, C.2.2.2.2.2.2.1, C.2.2.2.2.2.2.2⟩, ⟨x7, c7, c10⟩, fun j p q s u v => ?_, fun a q1 q2 q3 q4 q5 q6 q7 q8 => ?_⟩
  · show OLA ar _ (I3 7) (I3 32) (I3 38 + 1)
    rw [f32, f38]
    have s25 : (sa (sa (sa (sa A3 25 (I3 38) n) 26 (I3 38) t) 27 (I3 41) 0) 28 (I3 41) (I3 46)) 25 (I 38) = n := by
      show sf (A3 25) (I3 38) n (I 38) = n
      rw [f38]
      exact sf_self
    have s26 : (sa (sa (sa (sa A3 25 (I3 38) n) 26 (I3 38) t) 27 (I3 41) 0) 28 (I3 41) (I3 46)) 26 (I 38) = t := by
      show sf (A3 26) (I3 38) t (I 38) = t
      rw [f38]
      exact sf_self
    have w := OLA_thm (ar := ar) (A := sa (sa (sa (sa A3 25 (I3 38) n) 26 (I3 38) t) 27 (I3 41) 0) 28 (I3 41) (I3 46)) (lim := I3 7) (nd := I 32) (nt := I 38) o2 (by omega) (by omega) C.1.1.1.2.1 (by rw [s25]; omega) (by rw [s26]; exact ht) (by rw [s26, T1]; exact ⟨t1, t2⟩)
    rw [f38] at w
    exact w
  · show sf (A3 27) (I3 41) 0 = _
    rw [f41, ga 27 (by decide) (by decide)]
  · show sf (A3 28) (I3 41) (I3 46) = _
    rw [f41, f46, ga 28 (by decide) (by decide)]
  · rw [su_ne v, su_ne u]
    exact X.2.2.2.1 j p q
  · rw [sa_ne (by omega), sa_ne (by omega), sa_ne (by omega), sa_ne (by omega)]
    exact X.2.2.2.2 a q1 q2 q3 q4 q5 q6 q7

