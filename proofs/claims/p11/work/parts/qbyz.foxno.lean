section FXN
variable {ar : Int → Int} {ft : Nat → Int} {Fb : List (Nat × List Nat × ob_T)} {Tb : List (Nat × ob_T)} {I : Nat → Int} {A : Nat → Int → Int} {N : Int → Int} {o : Int} {f : ob_T → Int → Option (List ob_T × Int)} {st : Int}
theorem axn_c {r : Nat} (h : sp_axn r ≠ 0) : (sp_axn r = 2 ∧ (r = 2079676 ∨ r = 1975462)) ∨ (sp_axn r = 3 ∧ (r = 30253168 ∨ r = 4382298804 ∨ r = 1663818)) ∨ (sp_axn r = 4 ∧ (r = 55479 ∨ r = 673)) := by
  unfold sp_axn at h ⊢
  by_cases c : r = 2079676 ∨ r = 1975462
  · rw [if_pos c]
    exact Or.inl ⟨rfl, c⟩
  · rw [if_neg c] at h ⊢
    by_cases d : r = 30253168 ∨ r = 4382298804 ∨ r = 1663818
    · rw [if_pos d]
      exact Or.inr (Or.inl ⟨rfl, d⟩)
    · rw [if_neg d] at h ⊢
      by_cases e : r = 55479 ∨ r = 673
      · rw [if_pos e]
        exact Or.inr (Or.inr ⟨rfl, e⟩)
      · rw [if_neg e] at h
        exact absurd rfl h
theorem fox_no (hB : BI ar I A N) (h : BTX ar ft Fb Tb I A N) (k0 : 0 ≤ o) (k1 : o < I 7) (hp : sp_pl (DM A N o) = true) (hF : ¬ FOX ar ft I A N o) : sp_ru ft Fb Tb f (sp_hc (sp_p 0 (DM A N o))) (DM A N o) st = none ∧ sp_ins ft Fb (sp_hc (sp_p 0 (DM A N o))) (DM A N o) = [] := by
  have hP := BI_P hB
  have hL := pl_L hB h k0 k1 hp
  obtain ⟨n, en⟩ : ∃ n : Nat, (sp_as (DM A N o)).length = n := ⟨_, rfl⟩
  rw [en] at hL
  by_cases g : sp_gd ft Fb (sp_hc (sp_p 0 (DM A N o))) (DM A N o)
  rotate_left
  · exact ru_bad g
  by_cases n1 : 1 ≤ n
  rotate_left
  · have n0 : n = 0 := by omega
    subst n0
    have eo : o = 0 := hL
    rw [eo, DM_0 h.1]
    show sp_ru ft Fb Tb f 31361 (.var 31361) st = none ∧ sp_ins ft Fb 31361 (.var 31361) = []
    have nr : NRU 31361 := ⟨by decide, by decide, by decide, by decide, by decide, by decide⟩
    refine ⟨?_, in_7 nr⟩
    rw [ru_7 nr]
    rfl
  have e0 := L_p hB h k0 k1 hL (by omega : 0 < n)
  rw [e0] at g ⊢
  have p0 := isL_step n 0 o hL (by omega)
  have p0 : 0 ≤ A 1 o := p0
  have qo := hP.2 o k0 k1
  have qo2 := qo.2.2.2.2 p0
  show sp_ru ft Fb Tb f (sp_hc (DM A N (A 1 o))) (DM A N o) st = none ∧ sp_ins ft Fb (sp_hc (DM A N (A 1 o))) (DM A N o) = []
  have g : sp_gd ft Fb (sp_hc (DM A N (A 1 o))) (DM A N o) := g
  have hd : ∀ x : Nat, x < 44 → mNm.getD x 0 ≠ 0 → sp_hc (DM A N (A 1 o)) = mNm.getD x 0 → A 1 o = x := fun x hx h0 e => hd_num hB h p0 (by omega) hx h0 e
  have bj : ∀ j : Nat, j < n → 0 ≤ A 1 (rt A j o) ∧ A 1 (rt A j o) < I 7 := fun j hj => (VD_rt hP k0 k1 hL hj).2.1
  by_cases r1 : sp_hc (DM A N (A 1 o)) = 2399032
  · have q := g.1 r1
    have a := hd 39 (by decide) (by decide) r1
    have q2 := q.2
    unfold sp_fw at q2
    rw [L_p hB h k0 k1 hL (by omega : 1 < n)] at q2
    exact absurd ⟨n, hL, n1, Or.inr (Or.inr (Or.inr (Or.inr (Or.inr (Or.inr (Or.inl ⟨a, by omega, (fw_iff hB h (bj 1 (by omega)).1 (bj 1 (by omega)).2).mp q2⟩))))))⟩ hF
  by_cases r2 : sp_hc (DM A N (A 1 o)) = 7634
  · have q := g.2.1 r2
    have a := hd 40 (by decide) (by decide) r2
    have q2 := q.2
    rw [L_p hB h k0 k1 hL (by omega : 1 < n)] at q2
    exact absurd ⟨n, hL, n1, Or.inr (Or.inr (Or.inr (Or.inr (Or.inr (Or.inr (Or.inr (Or.inl ⟨a, by omega, (tm_iff hB h (bj 1 (by omega)).1 (bj 1 (by omega)).2).mp q2⟩)))))))⟩ hF
  by_cases r3 : sp_hc (DM A N (A 1 o)) = 966246
  · have q := g.2.2.1 r3
    have a := hd 41 (by decide) (by decide) r3
    exact absurd ⟨n, hL, n1, Or.inr (Or.inr (Or.inr (Or.inr (Or.inr (Or.inr (Or.inr (Or.inr (Or.inl ⟨a, by omega, (fi_iff hB h k0 k1 hL (by omega)).mp q.2⟩))))))))⟩ hF
  by_cases r4 : sp_hc (DM A N (A 1 o)) = 2023507
  · have q := g.2.2.2.1 r4
    have a := hd 42 (by decide) (by decide) r4
    exact absurd ⟨n, hL, n1, Or.inr (Or.inr (Or.inr (Or.inr (Or.inr (Or.inr (Or.inr (Or.inr (Or.inr (Or.inl ⟨a, by omega⟩)))))))))⟩ hF
  by_cases r5 : sp_hc (DM A N (A 1 o)) = 36351
  · have q := g.2.2.2.2.1 r5
    have a := hd 43 (by decide) (by decide) r5
    exact absurd ⟨n, hL, n1, Or.inr (Or.inr (Or.inr (Or.inr (Or.inr (Or.inr (Or.inr (Or.inr (Or.inr (Or.inr (Or.inl ⟨a, by omega⟩))))))))))⟩ hF
  by_cases r6 : sp_hc (DM A N (A 1 o)) = 2132882439
  · have q := g.2.2.2.2.2 r6
    have a := hd 27 (by decide) (by decide) r6
    exact absurd ⟨n, hL, n1, Or.inr (Or.inr (Or.inr (Or.inr (Or.inr (Or.inr (Or.inr (Or.inr (Or.inr (Or.inr (Or.inr ⟨a, (fd_iff hB h k0 k1 hL (by omega)).mp q.2⟩))))))))))⟩ hF
  have nr : NRU (sp_hc (DM A N (A 1 o))) := ⟨r1, r2, r3, r4, r5, r6⟩
  refine ⟨?_, in_7 nr⟩
  rw [ru_7 nr]
  cases el : sp_lf ft Fb Tb (sp_hc (DM A N (A 1 o))) (DM A N o) with
  | none => rfl
  | some D =>
    refine absurd ?_ hF
    rcases lf_good (ft := ft) (FB := Fb) (TB := Tb) (by rw [el]; simp) with ⟨er, el2, t, e1, e2⟩ | ⟨er, el2, e1⟩ | ⟨er, el2, e1⟩ | ⟨el2, ez, e1, e2, e3⟩
    · have a := hd 31 (by decide) (by decide) er
      rw [L_p hB h k0 k1 hL (by omega : 1 < n)] at e1
      exact ⟨n, hL, n1, Or.inr (Or.inl ⟨a, by omega, (tm_iff hB h (bj 1 (by omega)).1 (bj 1 (by omega)).2).mp (by rw [e1]; simp), t, e1, e2⟩)⟩
    · have a := hd 37 (by decide) (by decide) er
      rw [L_p hB h k0 k1 hL (by omega : 1 < n)] at e1
      exact ⟨n, hL, n1, Or.inr (Or.inr (Or.inr (Or.inr (Or.inl ⟨a, by omega, (fb_iff hB h (bj 1 (by omega)).1 (bj 1 (by omega)).2).mp e1⟩))))⟩
    · have a := hd 38 (by decide) (by decide) er
      rw [L_p hB h k0 k1 hL (by omega : 1 < n)] at e1
      exact ⟨n, hL, n1, Or.inr (Or.inr (Or.inr (Or.inr (Or.inr (Or.inl ⟨a, by omega, (tb_iff hB h (bj 1 (by omega)).1 (bj 1 (by omega)).2).mp e1⟩)))))⟩
    · rcases axn_c ez with ⟨ea, er⟩ | ⟨ea, er⟩ | ⟨ea, er⟩
      · have a : A 1 o = 29 ∨ A 1 o = 30 := by
          rcases er with er | er
          · exact Or.inl (hd 29 (by decide) (by decide) er)
          · exact Or.inr (hd 30 (by decide) (by decide) er)
        rw [L_p hB h k0 k1 hL (by omega : 1 < n)] at e1
        exact ⟨n, hL, n1, Or.inl ⟨a, by omega, (tm_iff hB h (bj 1 (by omega)).1 (bj 1 (by omega)).2).mp e1⟩⟩
      · have a : A 1 o = 32 ∨ A 1 o = 33 ∨ A 1 o = 34 := by
          rcases er with er | er | er
          · exact Or.inl (hd 32 (by decide) (by decide) er)
          · exact Or.inr (Or.inl (hd 33 (by decide) (by decide) er))
          · exact Or.inr (Or.inr (hd 34 (by decide) (by decide) er))
        rw [ea, if_pos (by decide), L_p hB h k0 k1 hL (by omega : 2 < n)] at e2
        rw [L_p hB h k0 k1 hL (by omega : 1 < n)] at e1
        exact ⟨n, hL, n1, Or.inr (Or.inr (Or.inl ⟨a, by omega, (tm_iff hB h (bj 1 (by omega)).1 (bj 1 (by omega)).2).mp e1, (tm_iff hB h (bj 2 (by omega)).1 (bj 2 (by omega)).2).mp e2⟩))⟩
      · have a : A 1 o = 35 ∨ A 1 o = 36 := by
          rcases er with er | er
          · exact Or.inl (hd 35 (by decide) (by decide) er)
          · exact Or.inr (hd 36 (by decide) (by decide) er)
        rw [ea, if_pos (by decide), L_p hB h k0 k1 hL (by omega : 2 < n)] at e2
        rw [ea, if_pos (by decide), L_p hB h k0 k1 hL (by omega : 3 < n)] at e3
        rw [L_p hB h k0 k1 hL (by omega : 1 < n)] at e1
        exact ⟨n, hL, n1, Or.inr (Or.inr (Or.inr (Or.inl ⟨a, by omega, (tm_iff hB h (bj 1 (by omega)).1 (bj 1 (by omega)).2).mp e1, (tm_iff hB h (bj 2 (by omega)).1 (bj 2 (by omega)).2).mp e2, (tm_iff hB h (bj 3 (by omega)).1 (bj 3 (by omega)).2).mp e3⟩)))⟩
end FXN
