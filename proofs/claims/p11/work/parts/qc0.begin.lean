def pf (r : Int) : Nat := if r = 27 then 3 else if r = 39 ∨ r = 40 then 2 else if 41 ≤ r then 1 else 0
def pto (r : Int) (n : Nat) : Nat := if r = 27 then n else if r = 39 ∨ r = 43 then 3 else if r = 40 then 4 else if r = 41 ∨ r = 42 then 2 else 0
def STP (I : Nat → Int) : Prop := 0 ≤ I 48 ∧ I 48 ≤ I 47 ∧ I 47 ≤ 1000
def PXT (ar : Int → Int) (p c : Int) (I : Nat → Int) (A : Nat → Int → Int) (N : Int → Int) (I1 : Nat → Int) (A1 : Nat → Int → Int) (N1 : Int → Int) : Prop := QX I A N I1 A1 N1 ∧ BI ar I1 A1 N1 ∧ STP I1 ∧ (∀ q : Int, 0 ≤ q → q < p → A1 47 q = A 47 q ∧ A1 48 q = A 48 q ∧ A1 49 q = A 49 q) ∧ (∀ q : Int, 0 ≤ q → q < 30 * c → A1 50 q = A 50 q) ∧ (∀ q : Int, 0 ≤ q → q < c → A1 51 q = A 51 q)
section PXTS
variable {ar : Int → Int} {p c p2 c2 : Int} {I I1 I2 : Nat → Int} {A A1 A2 : Nat → Int → Int} {N N1 N2 : Int → Int}
theorem PXT_rf (hB : BI ar I A N) (hs : STP I) : PXT ar p c I A N I A N := ⟨BX_rf hB.1.1, hB, hs, fun _ _ _ => ⟨rfl, rfl, rfl⟩, fun _ _ _ => rfl, fun _ _ _ => rfl⟩
theorem PXT_tr (x : PXT ar p c I A N I1 A1 N1) (y : PXT ar p2 c2 I1 A1 N1 I2 A2 N2) (hp : p ≤ p2) (hc : c ≤ c2) : PXT ar p c I A N I2 A2 N2 := ⟨BX_tr x.1 y.1, y.2.1, y.2.2.1, fun q a b => by
    have u := x.2.2.2.1 q a b
    have v := y.2.2.2.1 q a (by omega)
    exact ⟨v.1.trans u.1, v.2.1.trans u.2.1, v.2.2.trans u.2.2⟩, fun q a b => (y.2.2.2.2.1 q a (by omega)).trans (x.2.2.2.2.1 q a b), fun q a b => (y.2.2.2.2.2 q a (by omega)).trans (x.2.2.2.2.2 q a b)⟩
theorem PXT_w (x : PXT ar p c I A N I1 A1 N1) (hp : p2 ≤ p) (hc : c2 ≤ c) : PXT ar p2 c2 I A N I1 A1 N1 := ⟨x.1, x.2.1, x.2.2.1, fun q a b => x.2.2.2.1 q a (by omega), fun q a b => x.2.2.2.2.1 q a (by omega), fun q a b => x.2.2.2.2.2 q a (by omega)⟩
theorem PXT_RU {k : Int} (x : RU ar k I A N I1 A1 N1) (hs : STP I) : PXT ar p c I A N I1 A1 N1 := by
  have g : ∀ a : Nat, 47 ≤ a → a ≤ 51 → A1 a = A a := fun a u v => x.1.2.2.2.2 a (by omega) (by omega) (by omega) (by omega) (by omega) (by omega) (by unfold GC; omega)
  refine ⟨BX_w2 FC_FQ GC_GQ x.1, x.2.1, ?_, fun q _ _ => ?_, fun q _ _ => ?_, fun q _ _ => ?_⟩
  · unfold STP
    rw [x.1.2.2.2.1 47 (by decide) (by unfold FC; omega), x.1.2.2.2.1 48 (by decide) (by unfold FC; omega)]
    exact hs
  · rw [g 47 (by decide) (by decide), g 48 (by decide) (by decide), g 49 (by decide) (by decide)]
    exact ⟨rfl, rfl, rfl⟩
  · rw [g 50 (by decide) (by decide)]
  · rw [g 51 (by decide) (by decide)]
end PXTS
theorem mm_partsFrom (z : Value) (d : Nat) (r : Int) (hp : xx_H) (h0 : 27 ≤ r) (h1 : r ≤ 43) : xx_cl (xt_P z) (d + 1) 151 [.int (iI r)] hp (fun v h1 => v = some (.int (iI (pf r))) ∧ h1 = hp) := by
  refine cl_go rfl ?_
  show xx_go (xt_P z) d 151 0 [some (.int (iI r))] [] hp _
  refine go_a (pc' := 1) (ls' := [some (.int (iI r))]) (st' := [.int (iI r)]) rfl rfl ?_
  have cs : r = 27 ∨ r = 28 ∨ r = 29 ∨ r = 30 ∨ r = 31 ∨ r = 32 ∨ r = 33 ∨ r = 34 ∨ r = 35 ∨ r = 36 ∨ r = 37 ∨ r = 38 ∨ r = 39 ∨ r = 40 ∨ r = 41 ∨ r = 42 ∨ r = 43 := by omega
  rcases cs with e | e | e | e | e | e | e | e | e | e | e | e | e | e | e | e | e
  · subst e
    refine mi_ts (c := 27) (t := 90) rfl rfl rfl ?_
    refine go_a (pc' := 91) (ls' := [some (.int (iI 27))]) (st' := [.int (iI 3)]) rfl rfl ?_
    exact go_r rfl rfl rfl rfl rfl rfl ⟨rfl, rfl⟩
  · subst e
    refine mi_ts (c := 28) (t := 92) rfl rfl rfl ?_
    refine go_a (pc' := 93) (ls' := [some (.int (iI 28))]) (st' := [.int (iI 0)]) rfl rfl ?_
    exact go_r rfl rfl rfl rfl rfl rfl ⟨rfl, rfl⟩
  · subst e
    refine mi_ts (c := 29) (t := 92) rfl rfl rfl ?_
    refine go_a (pc' := 93) (ls' := [some (.int (iI 29))]) (st' := [.int (iI 0)]) rfl rfl ?_
    exact go_r rfl rfl rfl rfl rfl rfl ⟨rfl, rfl⟩
  · subst e
    refine mi_ts (c := 30) (t := 92) rfl rfl rfl ?_
    refine go_a (pc' := 93) (ls' := [some (.int (iI 30))]) (st' := [.int (iI 0)]) rfl rfl ?_
    exact go_r rfl rfl rfl rfl rfl rfl ⟨rfl, rfl⟩
  · subst e
    refine mi_ts (c := 31) (t := 92) rfl rfl rfl ?_
    refine go_a (pc' := 93) (ls' := [some (.int (iI 31))]) (st' := [.int (iI 0)]) rfl rfl ?_
    exact go_r rfl rfl rfl rfl rfl rfl ⟨rfl, rfl⟩
  · subst e
    refine mi_ts (c := 32) (t := 92) rfl rfl rfl ?_
    refine go_a (pc' := 93) (ls' := [some (.int (iI 32))]) (st' := [.int (iI 0)]) rfl rfl ?_
    exact go_r rfl rfl rfl rfl rfl rfl ⟨rfl, rfl⟩
  · subst e
    refine mi_ts (c := 33) (t := 92) rfl rfl rfl ?_
    refine go_a (pc' := 93) (ls' := [some (.int (iI 33))]) (st' := [.int (iI 0)]) rfl rfl ?_
    exact go_r rfl rfl rfl rfl rfl rfl ⟨rfl, rfl⟩
  · subst e
    refine mi_ts (c := 34) (t := 92) rfl rfl rfl ?_
    refine go_a (pc' := 93) (ls' := [some (.int (iI 34))]) (st' := [.int (iI 0)]) rfl rfl ?_
    exact go_r rfl rfl rfl rfl rfl rfl ⟨rfl, rfl⟩
  · subst e
    refine mi_ts (c := 35) (t := 92) rfl rfl rfl ?_
    refine go_a (pc' := 93) (ls' := [some (.int (iI 35))]) (st' := [.int (iI 0)]) rfl rfl ?_
    exact go_r rfl rfl rfl rfl rfl rfl ⟨rfl, rfl⟩
  · subst e
    refine mi_ts (c := 36) (t := 92) rfl rfl rfl ?_
    refine go_a (pc' := 93) (ls' := [some (.int (iI 36))]) (st' := [.int (iI 0)]) rfl rfl ?_
    exact go_r rfl rfl rfl rfl rfl rfl ⟨rfl, rfl⟩
  · subst e
    refine mi_ts (c := 37) (t := 92) rfl rfl rfl ?_
    refine go_a (pc' := 93) (ls' := [some (.int (iI 37))]) (st' := [.int (iI 0)]) rfl rfl ?_
    exact go_r rfl rfl rfl rfl rfl rfl ⟨rfl, rfl⟩
  · subst e
    refine mi_ts (c := 38) (t := 92) rfl rfl rfl ?_
    refine go_a (pc' := 93) (ls' := [some (.int (iI 38))]) (st' := [.int (iI 0)]) rfl rfl ?_
    exact go_r rfl rfl rfl rfl rfl rfl ⟨rfl, rfl⟩
  · subst e
    refine mi_ts (c := 39) (t := 84) rfl rfl rfl ?_
    refine go_a (pc' := 85) (ls' := [some (.int (iI 39))]) (st' := [.int (iI 2)]) rfl rfl ?_
    exact go_r rfl rfl rfl rfl rfl rfl ⟨rfl, rfl⟩
  · subst e
    refine mi_ts (c := 40) (t := 86) rfl rfl rfl ?_
    refine go_a (pc' := 87) (ls' := [some (.int (iI 40))]) (st' := [.int (iI 2)]) rfl rfl ?_
    exact go_r rfl rfl rfl rfl rfl rfl ⟨rfl, rfl⟩
  · subst e
    refine mi_ts (c := 41) (t := 88) rfl rfl rfl ?_
    refine go_a (pc' := 89) (ls' := [some (.int (iI 41))]) (st' := [.int (iI 1)]) rfl rfl ?_
    exact go_r rfl rfl rfl rfl rfl rfl ⟨rfl, rfl⟩
  · subst e
    refine mi_ts (c := 42) (t := 88) rfl rfl rfl ?_
    refine go_a (pc' := 89) (ls' := [some (.int (iI 42))]) (st' := [.int (iI 1)]) rfl rfl ?_
    exact go_r rfl rfl rfl rfl rfl rfl ⟨rfl, rfl⟩
  · subst e
    refine mi_ts (c := 43) (t := 88) rfl rfl rfl ?_
    refine go_a (pc' := 89) (ls' := [some (.int (iI 43))]) (st' := [.int (iI 1)]) rfl rfl ?_
    exact go_r rfl rfl rfl rfl rfl rfl ⟨rfl, rfl⟩
theorem mm_partsTo (z : Value) (d n : Nat) (o : Int) (h R : xx_H) (I : Nat → Int) (A : Nat → Int → Int) (N : Int → Int) (hc : 12 ≤ h.length) (hP : PW I A) (n0 : A 1 0 < 0) (k0 : 0 ≤ o) (k1 : o < I 7) (hL : isL A n o) (h0 : 27 ≤ A 1 o) (h1 : A 1 o ≤ 43) : xx_cl (xt_P z) (d + 3) 153 [.ref h.length, .int (iI o)] (mh h R I A N) (fun v h1 => v = some (.int (iI ((pto (A 1 o) n : Nat) : Int))) ∧ h1 = mh h R I A N) := by
  have p1 := hP.1
  refine cl_go rfl ?_
  show xx_go (xt_P z) (d + 2) 153 0 [some (.ref h.length), some (.int (iI o))] [] (mh h R I A N) _
  refine go_a (pc' := 1) (ls' := [some (.ref h.length), some (.int (iI o))]) (st' := [.ref h.length]) rfl rfl ?_
  refine go_get rfl mh_o rfl rfl ?_
  refine go_a (pc' := 5) (ls' := [some (.ref h.length), some (.int (iI o))]) (st' := [.int (iI o), .ref (h.length + 1)]) rfl rfl ?_
  refine mi_ild rfl mh_a1 (by omega) (by omega) (by decide) ?_
  have cs : A 1 o = 27 ∨ A 1 o = 28 ∨ A 1 o = 29 ∨ A 1 o = 30 ∨ A 1 o = 31 ∨ A 1 o = 32 ∨ A 1 o = 33 ∨ A 1 o = 34 ∨ A 1 o = 35 ∨ A 1 o = 36 ∨ A 1 o = 37 ∨ A 1 o = 38 ∨ A 1 o = 39 ∨ A 1 o = 40 ∨ A 1 o = 41 ∨ A 1 o = 42 ∨ A 1 o = 43 := by omega
  rcases cs with e | e | e | e | e | e | e | e | e | e | e | e | e | e | e | e | e
  · refine mi_ts (c := 27) (t := 96) rfl e rfl ?_
    refine go_a (pc' := 97) (ls' := [some (.ref h.length), some (.int (iI o))]) (st' := [.ref h.length]) rfl rfl ?_
    refine go_a (pc' := 98) (ls' := [some (.ref h.length), some (.int (iI o))]) (st' := [.int (iI o), .ref h.length]) rfl rfl ?_
    refine go_v (m := 98) (as := [.ref h.length, .int (iI o)]) (r := []) rfl rfl rfl mh_o rfl rfl (mm_lenL z d n o h R I A N hc hP n0 k0 k1 hL) (fun v h1 hq => ?_)
    obtain ⟨rfl, rfl⟩ := hq
    show xx_go (xt_P z) (d + 2) 153 101 [some (.ref h.length), some (.int (iI o))] [.int (iI (((n : Nat) : Int)))] (mh h R I A N) _
    exact go_r rfl rfl rfl rfl rfl rfl ⟨by rw [e]; rfl, rfl⟩
  · refine mi_ts (c := 28) (t := 102) rfl e rfl ?_
    refine go_a (pc' := 103) (ls' := [some (.ref h.length), some (.int (iI o))]) (st' := [.int (iI 0)]) rfl rfl ?_
    exact go_r rfl rfl rfl rfl rfl rfl ⟨by rw [e]; rfl, rfl⟩
  · refine mi_ts (c := 29) (t := 102) rfl e rfl ?_
    refine go_a (pc' := 103) (ls' := [some (.ref h.length), some (.int (iI o))]) (st' := [.int (iI 0)]) rfl rfl ?_
    exact go_r rfl rfl rfl rfl rfl rfl ⟨by rw [e]; rfl, rfl⟩
  · refine mi_ts (c := 30) (t := 102) rfl e rfl ?_
    refine go_a (pc' := 103) (ls' := [some (.ref h.length), some (.int (iI o))]) (st' := [.int (iI 0)]) rfl rfl ?_
    exact go_r rfl rfl rfl rfl rfl rfl ⟨by rw [e]; rfl, rfl⟩
  · refine mi_ts (c := 31) (t := 102) rfl e rfl ?_
    refine go_a (pc' := 103) (ls' := [some (.ref h.length), some (.int (iI o))]) (st' := [.int (iI 0)]) rfl rfl ?_
    exact go_r rfl rfl rfl rfl rfl rfl ⟨by rw [e]; rfl, rfl⟩
  · refine mi_ts (c := 32) (t := 102) rfl e rfl ?_
    refine go_a (pc' := 103) (ls' := [some (.ref h.length), some (.int (iI o))]) (st' := [.int (iI 0)]) rfl rfl ?_
    exact go_r rfl rfl rfl rfl rfl rfl ⟨by rw [e]; rfl, rfl⟩
  · refine mi_ts (c := 33) (t := 102) rfl e rfl ?_
    refine go_a (pc' := 103) (ls' := [some (.ref h.length), some (.int (iI o))]) (st' := [.int (iI 0)]) rfl rfl ?_
    exact go_r rfl rfl rfl rfl rfl rfl ⟨by rw [e]; rfl, rfl⟩
  · refine mi_ts (c := 34) (t := 102) rfl e rfl ?_
    refine go_a (pc' := 103) (ls' := [some (.ref h.length), some (.int (iI o))]) (st' := [.int (iI 0)]) rfl rfl ?_
    exact go_r rfl rfl rfl rfl rfl rfl ⟨by rw [e]; rfl, rfl⟩
  · refine mi_ts (c := 35) (t := 102) rfl e rfl ?_
    refine go_a (pc' := 103) (ls' := [some (.ref h.length), some (.int (iI o))]) (st' := [.int (iI 0)]) rfl rfl ?_
    exact go_r rfl rfl rfl rfl rfl rfl ⟨by rw [e]; rfl, rfl⟩
  · refine mi_ts (c := 36) (t := 102) rfl e rfl ?_
    refine go_a (pc' := 103) (ls' := [some (.ref h.length), some (.int (iI o))]) (st' := [.int (iI 0)]) rfl rfl ?_
    exact go_r rfl rfl rfl rfl rfl rfl ⟨by rw [e]; rfl, rfl⟩
  · refine mi_ts (c := 37) (t := 102) rfl e rfl ?_
    refine go_a (pc' := 103) (ls' := [some (.ref h.length), some (.int (iI o))]) (st' := [.int (iI 0)]) rfl rfl ?_
    exact go_r rfl rfl rfl rfl rfl rfl ⟨by rw [e]; rfl, rfl⟩
  · refine mi_ts (c := 38) (t := 102) rfl e rfl ?_
    refine go_a (pc' := 103) (ls' := [some (.ref h.length), some (.int (iI o))]) (st' := [.int (iI 0)]) rfl rfl ?_
    exact go_r rfl rfl rfl rfl rfl rfl ⟨by rw [e]; rfl, rfl⟩
  · refine mi_ts (c := 39) (t := 88) rfl e rfl ?_
    refine go_a (pc' := 89) (ls' := [some (.ref h.length), some (.int (iI o))]) (st' := [.int (iI 3)]) rfl rfl ?_
    exact go_r rfl rfl rfl rfl rfl rfl ⟨by rw [e]; rfl, rfl⟩
  · refine mi_ts (c := 40) (t := 90) rfl e rfl ?_
    refine go_a (pc' := 91) (ls' := [some (.ref h.length), some (.int (iI o))]) (st' := [.int (iI 4)]) rfl rfl ?_
    exact go_r rfl rfl rfl rfl rfl rfl ⟨by rw [e]; rfl, rfl⟩
  · refine mi_ts (c := 41) (t := 92) rfl e rfl ?_
    refine go_a (pc' := 93) (ls' := [some (.ref h.length), some (.int (iI o))]) (st' := [.int (iI 2)]) rfl rfl ?_
    exact go_r rfl rfl rfl rfl rfl rfl ⟨by rw [e]; rfl, rfl⟩
  · refine mi_ts (c := 42) (t := 92) rfl e rfl ?_
    refine go_a (pc' := 93) (ls' := [some (.ref h.length), some (.int (iI o))]) (st' := [.int (iI 2)]) rfl rfl ?_
    exact go_r rfl rfl rfl rfl rfl rfl ⟨by rw [e]; rfl, rfl⟩
  · refine mi_ts (c := 43) (t := 94) rfl e rfl ?_
    refine go_a (pc' := 95) (ls' := [some (.ref h.length), some (.int (iI o))]) (st' := [.int (iI 3)]) rfl rfl ?_
    exact go_r rfl rfl rfl rfl rfl rfl ⟨by rw [e]; rfl, rfl⟩
def GOK (ft : Nat → Int) (FB : List (Nat × List Nat × ob_T)) (x : ob_T) : Prop := sp_pl x = true ∧ sp_gd ft FB (sp_hc (sp_p 0 x)) x
section PRS
variable {ft : Nat → Int} {Fb : List (Nat × List Nat × ob_T)} {Tb : List (Nat × ob_T)} {fu st : Int} {x : ob_T} {n : Nat}
theorem pr_0 (h : n = 0) : sp_pr ft Fb Tb fu n x st = none ∧ sp_sn ft Fb Tb fu n x st = st := by
  rw [h]
  exact ⟨rfl, rfl⟩
theorem pr_fuq (h : ¬ st < fu) : sp_pr ft Fb Tb fu n x st = none ∧ sp_sn ft Fb Tb fu n x st = st := by
  match n with
  | 0 => exact ⟨rfl, rfl⟩
  | n + 1 =>
    refine ⟨?_, ?_⟩
    · show (if fu ≤ st ∨ sp_pl x = false then none else _) = none
      exact if_pos (Or.inl (by omega))
    · show (if fu ≤ st then st else _) = st
      exact if_pos (by omega)
theorem pr_bad (h : st < fu) (hn : n ≠ 0) (hb : sp_pl x = true → (∀ f : ob_T → Int → Option (List ob_T × Int), sp_ru ft Fb Tb f (sp_hc (sp_p 0 x)) x (st + 1) = none) ∧ sp_ins ft Fb (sp_hc (sp_p 0 x)) x = []) : sp_pr ft Fb Tb fu n x st = none ∧ sp_sn ft Fb Tb fu n x st = st + 1 := by
  match n, hn with
  | n + 1, _ =>
    cases p : sp_pl x with
    | false =>
      refine ⟨?_, ?_⟩
      · show (if fu ≤ st ∨ sp_pl x = false then none else _) = none
        exact if_pos (Or.inr p)
      · show (if fu ≤ st then st else if sp_pl x = false then st + 1 else _) = st + 1
        rw [if_neg (by omega), if_pos p]
    | true =>
      have b := hb p
      refine ⟨?_, ?_⟩
      · show (if fu ≤ st ∨ sp_pl x = false then none else sp_ru ft Fb Tb (sp_pr ft Fb Tb fu n) (sp_hc (sp_p 0 x)) x (st + 1)) = none
        rw [b.1]
        split <;> rfl
      · show (if fu ≤ st then st else if sp_pl x = false then st + 1 else sp_sg (sp_pr ft Fb Tb fu n) (sp_sn ft Fb Tb fu n) (sp_ins ft Fb (sp_hc (sp_p 0 x)) x) (st + 1)) = st + 1
        rw [if_neg (by omega), if_neg (by rw [p]; decide), b.2]
        rfl
theorem pr_go (h : st < fu) (g : GOK ft Fb x) : sp_pr ft Fb Tb fu (n + 1) x st = (sp_sq (sp_pr ft Fb Tb fu n) (sp_ins ft Fb (sp_hc (sp_p 0 x)) x) (st + 1)).bind (fun Q => sp_cs2 (sp_fin ft Fb Tb (sp_hc (sp_p 0 x)) x Q.1) Q.2) ∧ sp_sn ft Fb Tb fu (n + 1) x st = sp_sg (sp_pr ft Fb Tb fu n) (sp_sn ft Fb Tb fu n) (sp_ins ft Fb (sp_hc (sp_p 0 x)) x) (st + 1) := by
  refine ⟨?_, ?_⟩
  · show (if fu ≤ st ∨ sp_pl x = false then none else sp_ru ft Fb Tb (sp_pr ft Fb Tb fu n) (sp_hc (sp_p 0 x)) x (st + 1)) = _
    rw [if_neg (fun q => by
      rcases q with q | q
      · omega
      · rw [g.1] at q
        cases q), ru_fin g.2]
  · show (if fu ≤ st then st else if sp_pl x = false then st + 1 else _) = _
    rw [if_neg (by omega), if_neg (by rw [g.1]; decide)]
theorem sq_app {f : ob_T → Int → Option (List ob_T × Int)} : ∀ (L R : List ob_T) (st : Int), sp_sq f (L ++ R) st = (sp_sq f L st).bind (fun Q => (sp_sq f R Q.2).map (fun q => (Q.1 ++ q.1, q.2)))
  | [], R, st => by
    show sp_sq f R st = (sp_sq f R st).map (fun q => ([] ++ q.1, q.2))
    cases sp_sq f R st <;> rfl
  | a :: L, R, st => by
    show (f a st).bind (fun p => (sp_sq f (L ++ R) p.2).map (fun q => (p.1 :: q.1, q.2))) = ((f a st).bind (fun p => (sp_sq f L p.2).map (fun q => (p.1 :: q.1, q.2)))).bind _
    cases f a st with
    | none => rfl
    | some p =>
      show (sp_sq f (L ++ R) p.2).map (fun q => (p.1 :: q.1, q.2)) = ((sp_sq f L p.2).map (fun q => (p.1 :: q.1, q.2))).bind _
      rw [sq_app L R p.2]
      cases sp_sq f L p.2 with
      | none => rfl
      | some Q =>
        show ((sp_sq f R Q.2).map (fun q => (Q.1 ++ q.1, q.2))).map (fun q => (p.1 :: q.1, q.2)) = (sp_sq f R Q.2).map (fun q => ((p.1 :: Q.1) ++ q.1, q.2))
        cases sp_sq f R Q.2 <;> rfl
theorem sq_more {f : ob_T → Int → Option (List ob_T × Int)} {L : List ob_T} {a : ob_T} {Q : List (List ob_T)} {D : List ob_T} {s s1 : Int} (h : sp_sq f L st = some (Q, s)) (ha : f a s = some (D, s1)) : sp_sq f (L ++ [a]) st = some (Q ++ [D], s1) := by
  rw [sq_app, h]
  show (sp_sq f [a] s).map (fun q => (Q ++ q.1, q.2)) = _
  rw [sq_1, ha]
  rfl
theorem sq_fail {f : ob_T → Int → Option (List ob_T × Int)} {L R : List ob_T} {a : ob_T} {Q : List (List ob_T)} {s : Int} (h : sp_sq f L st = some (Q, s)) (ha : f a s = none) : sp_sq f (L ++ a :: R) st = none := by
  rw [sq_app, h]
  show (sp_sq f (a :: R) s).map (fun q => (Q ++ q.1, q.2)) = _
  rw [show sp_sq f (a :: R) s = (f a s).bind (fun p => (sp_sq f R p.2).map (fun q => (p.1 :: q.1, q.2))) from rfl, ha]
  rfl
theorem sg_all {f : ob_T → Int → Option (List ob_T × Int)} {g : ob_T → Int → Int} : ∀ (L R : List ob_T) (st : Int) (Q : List (List ob_T)) (s : Int), sp_sq f L st = some (Q, s) → sp_sg f g (L ++ R) st = sp_sg f g R s
  | [], R, st, Q, s, h => by
    injection h with h
    injection h with h1 h2
    rw [h2]
    rfl
  | a :: L, R, st, Q, s, h => by
    have h : (f a st).bind (fun p => (sp_sq f L p.2).map (fun q => (p.1 :: q.1, q.2))) = some (Q, s) := h
    cases e : f a st with
    | none =>
      rw [e] at h
      cases h
    | some p =>
      rw [e] at h
      have h : (sp_sq f L p.2).map (fun q => (p.1 :: q.1, q.2)) = some (Q, s) := h
      cases e2 : sp_sq f L p.2 with
      | none =>
        rw [e2] at h
        cases h
      | some Q2 =>
        rw [e2] at h
        injection h with h
        injection h with h1 h2
        rw [show (a :: L) ++ R = a :: (L ++ R) from rfl, sp_sg_s (D := p.1) (s1 := p.2) (by rw [e])]
        exact sg_all L R p.2 Q2.1 s (by rw [e2, ← h2])
end PRS
theorem CFX_BX {F G : Nat → Prop} {I I1 : Nat → Int} {A A1 : Nat → Int → Int} {N N1 : Int → Int} {ar : Int → Int} {o c : Int} (hB : BI ar I A N) (x : BX F G I A N I1 A1 N1) (f32 : ¬ F 32) (g : ∀ a : Nat, 20 ≤ a → a ≤ 26 → ¬ G a) (k0 : 0 ≤ o) (k1 : o < I 7) (hF : FORM ar I1 A1 N1 o) (h : CFX ar I A o c) : CFX ar I1 A1 o c := by
  have hP := BI_P hB
  have n0 := BI_n0 hB
  have ga : ∀ a : Nat, 20 ≤ a → a ≤ 26 → A1 a = A a := fun a p q => x.2.2.2.2 a (by omega) (by omega) (by omega) (by omega) (by omega) (by omega) (g a p q)
  have n01 : A1 1 0 < 0 := by
    have := hB.1.2.1.1
    rw [(x.2.2.1 0 (by decide) (by omega)).1]
    exact n0
  obtain ⟨n, hL1, n1, hF⟩ := hF
  have hL := isL_back hP x n o k0 k1 hL1
  have n2 : 2 ≤ n := by
    rcases hF with q | q | q | q | q | q | q | q | q | q | q | ⟨q, e, n', hn, n3, -⟩
    · omega
    · omega
    · omega
    · omega
    · omega
    · omega
    · omega
    · omega
    · omega
    · omega
    · omega
    · have := isL_uq n01 n n' o hL1 hn
      omega
  have eo := x.2.2.1 o k0 k1
  have qo := hP.2 o k0 k1
  have po := isL_step n 0 o hL (by omega)
  have po : 0 ≤ A 1 o := po
  have qo2 := qo.2.2.2.2 po
  have r1 := isL_rt hP n 1 o k0 k1 hL (by omega)
  have im := it_BX hP x k0 k1 hL (by omega : 1 < n)
  have rx := rt_extB hP x n 1 o k0 k1 hL (by omega)
  have b1 := (VD_rt hP k0 k1 hL (by omega : 1 < n)).2.1
  have vd1 := (WD_BX hP x r1.1 (by omega : rt A 1 o < I 7)).2
  have wd1 := WD_BX hP x b1.1 b1.2
  refine ⟨fun e => ?_, fun e => ?_⟩
  · rw [eo.1] at e
    obtain ⟨d, hI, hc⟩ := h.1 e
    refine ⟨d, IND_BX hB x f32 g k0 k1 hI, ?_⟩
    obtain ⟨n', -, -, -, ⟨-, e0, e1, -, -⟩, -, -⟩ := hI
    have De := hB.2.2.1.2.1 d e0 e1
    rw [im, wd1.1, ga 23 (by decide) (by decide), show PS A1 (fun _ => 1) (A 23 d) = PS A (fun _ => 1) (A 23 d) from PS_extT hP n0 hB.2.1.1.1.1 (fun k a b => ⟨(x.2.2.1 k a b).1, (x.2.2.1 k a b).2.1⟩) (fun _ _ _ _ => rfl) _ (A 23 d) De.2.2.2.1.1 De.2.2.2.1.2 De.2.2.2.2.1.1]
    exact hc
  · rw [eo.1] at e
    have cf := h.2 e
    have r2 : 0 ≤ A 2 o ∧ A 2 o ≤ o ∧ 0 ≤ A 1 (A 2 o) := r1
    have e2 := x.2.2.1 (A 2 o) r2.1 (by omega)
    have q3 := hP.2 (A 2 o) r2.1 (by omega)
    have q4 := q3.2.2.2.2 r2.2.2
    unfold CF
    rw [eo.1, im, rx, vd1, wd1.1, wd1.2, eo.2.1, e2.2.1]
    refine ⟨cf.1, cf.2.1, cf.2.2.1, cf.2.2.2.1, cf.2.2.2.2.1, fun e41 m hm => ?_, trivial⟩
    have hm0 := isL_back hP x m _ q3.2.2.1 (by omega) hm
    have hq : ∀ j : Nat, j < m → isL A 2 (A 1 (rt A j (A 2 (A 2 o)))) := by
      rcases hF with q | q | q | q | q | q | q | q | ⟨q, -, m2, l2, p2, -⟩ | q | q | ⟨q, -⟩
      · omega
      · omega
      · omega
      · omega
      · omega
      · omega
      · omega
      · omega
      · intro j hj
        rw [eo.2.1, e2.2.1] at l2 p2
        have mm := isL_uq n01 m m2 _ hm l2
        have p3 := (p2 j (by omega)).1
        rw [it_BX hP x q3.2.2.1 (by omega) hm0 hj] at p3
        have bb := (VD_rt hP q3.2.2.1 (by omega) hm0 hj).2.1
        exact isL_back hP x 2 _ bb.1 bb.2 p3
      · omega
      · omega
      · omega
    rw [uw_BX hP x q3.2.2.1 (by omega) hm0 hq m (Nat.le_refl _)]
    exact cf.2.2.2.2.2.1 e41 m hm0
theorem mm_beginProof (z : Value) (d : Nat) (ar : Int → Int) (ft : Nat → Int) (Fb : List (Nat × List Nat × ob_T)) (Tb : List (Nat × ob_T)) (o p c : Int) (h R : xx_H) (I : Nat → Int) (A : Nat → Int → Int) (N : Int → Int) (hc : 12 ≤ h.length) (hB : BI ar I A N) (hs : STP I) (k0 : 0 ≤ o) (k1 : o < I 7) (w : WD A o ≤ 999) (hE : I 7 + 128 * WD A o ≤ 140000) (hE2 : A 1 o = 27 → I 7 + 622 + 2 * WD A o ≤ 140000) (p0 : 0 ≤ p) (p1 : p ≤ 40) (ep : I 81 = p) (c0 : 0 ≤ c) (c1 : c ≤ 350) (ec : I 84 = c) (u9 : I 49 = 0) (hX : BTX ar ft Fb Tb I A N) : xx_cl (xt_P z) (d + 12) 137 [.ref h.length, .int (iI o)] (mh h R I A N) (fun v h1 => v = none ∧ ∃ (I1 : Nat → Int) (A1 : Nat → Int → Int) (N1 : Int → Int), h1 = mh h R I1 A1 N1 ∧ PXT ar p c I A N I1 A1 N1 ∧ I1 84 = c ∧ ((¬ I1 49 = 0 ∨ (¬ I1 85 = -1 ∧ 0 ≤ I1 85 ∧ I1 85 < I1 7)) ∧ (I1 85 = I 85 ∨ (0 ≤ I1 85 ∧ I1 85 < I1 7)) ∧ (sp_pr ft Fb Tb (I 47) (40 - p).toNat (DM A N o) (I 48) = none ∧ sp_sn ft Fb Tb (I 47) (40 - p).toNat (DM A N o) (I 48) = I1 48) ∨ (I1 49 = 0 ∧ I1 85 = I 85 ∧ p < 40 ∧ I1 81 = p + 1 ∧ A1 47 p = o ∧ A1 48 p = pf (A 1 o) ∧ A1 49 p = c ∧ FORM ar I1 A1 N1 o ∧ CFX ar I1 A1 o (I1 7 - I 7) ∧ (I 48 < I 47 ∧ I1 48 = I 48 + 1) ∧ GOK ft Fb (DM A N o)))) := by
  have hP := BI_P hB
  have p9 := hP.1
  have n0 := BI_n0 hB
  have n2 : A 1 2 < 0 := by rw [hB.1.2.1.2 2 (by decide) (by decide)]; decide
  have vl := VD_le hP k0 k1 n0 n2
  have vn := VD_nn A o
  have w1 := WD_1 hP k0 k1
  have uu := hB.2.2.2.2
  refine cl_go rfl ?_
  show xx_go (xt_P z) (d + 11) 137 0 [some (.ref h.length), some (.int (iI o))] [] (mh h R I A N) _
  refine go_a (pc' := 1) (ls' := [some (.ref h.length), some (.int (iI o))]) (st' := [.ref h.length]) rfl rfl ?_
  refine go_get (v := .int (iI (I 49))) rfl mh_o rfl rfl ?_
  refine mi_eq0 (t := 8) rfl rfl (by omega) (by omega) (fun _ => ?_) (fun q => absurd u9 q)
  refine go_a (pc' := 9) (ls' := [some (.ref h.length), some (.int (iI o))]) (st' := [.ref h.length]) rfl rfl ?_
  refine go_get (v := .int (iI (I 81))) rfl mh_o rfl rfl ?_
  refine go_a (pc' := 14) (ls' := [some (.ref h.length), some (.int (iI o))]) (st' := [.int (iI 40), .int (iI (I 81))]) rfl rfl ?_
  refine mi_ne (t := 23) rfl rfl (by omega) (by omega) (by omega) (by omega) (fun e => ?_) (fun e => ?_)
  · refine go_a (pc' := 24) (ls' := [some (.ref h.length), some (.int (iI o))]) (st' := [.ref h.length]) rfl rfl ?_
    refine go_v (m := 138) (as := [.ref h.length]) (r := []) rfl rfl rfl mh_o rfl rfl (mm_isStep z (d + 9) h R I A N hc hs.1 hs.2.1 hs.2.2 uu.1 uu.2) (fun v h1 hq => ?_)
    rcases hq with ⟨rfl, rfl, sl⟩ | ⟨rfl, I1, rfl, f1, u1, ns⟩
    · show xx_go (xt_P z) (d + 11) 137 27 [some (.ref h.length), some (.int (iI o))] [.int (iI 1)] (mh h R (su I 48 (I 48 + 1)) A N) _
      refine mi_ne0 (t := 31) rfl rfl (by omega) (by omega) (fun _ => ?_) (fun q => absurd (by decide) q)
      obtain ⟨J, hJ⟩ : ∃ J : Nat → Int, J = su I 48 (I 48 + 1) := ⟨_, rfl⟩
      rw [← hJ]
      have b1 : BX (fun j => j = 48) NO I A N J A N := by
        subst hJ
        exact BX_of hB.1.1 (fun j q => su_ne q) (fun a _ => rfl) rfl rfl rfl rfl rfl rfl rfl rfl rfl rfl
      have fJ : ∀ j : Nat, j ≠ 48 → J j = I j := fun j q => by subst hJ; exact su_ne q
      have J7 : J 7 = I 7 := fJ 7 (by decide)
      have J48 : J 48 = I 48 + 1 := by subst hJ; rfl
      have J47 := fJ 47 (by decide)
      have X1 : QX I A N J A N := BX_w2 (fun j q => by subst q; unfold FQ; omega) (fun a q => absurd q (fun z => z)) b1
      have B1 : BI ar J A N := BI_QX hB X1 (SZI_124 (A := A) (A1 := A) hB.1.2.2 rfl rfl rfl J7) (by rw [fJ 54 (by decide)]; exact hB.2.2.2.1.1) (by rw [fJ 56 (by decide)]; exact hB.2.2.2.1.2) (by rw [fJ 49 (by decide)]; exact uu)
      have TJ : BTX ar ft Fb Tb J A N := BTX_BX hB hX X1 (fun _ q => q) (fun _ q => q)
      refine go_a (pc' := 32) (ls' := [some (.ref h.length), some (.int (iI o))]) (st' := [.ref h.length]) rfl rfl ?_
      refine go_a (pc' := 33) (ls' := [some (.ref h.length), some (.int (iI o))]) (st' := [.int (iI o), .ref h.length]) rfl rfl ?_
      refine go_v (m := 139) (as := [.ref h.length, .int (iI o)]) (r := []) rfl rfl rfl mh_o rfl rfl (mm_isForm z d ar ft Fb Tb o h R J A N hc B1 TJ k0 (by omega) (by omega) (by omega) (fun q => by have := hE2 q; omega)) (fun v h1 hq => ?_)
      obtain ⟨I2, A2, N2, rfl, X2, B2, u2, hf⟩ := hq
      have X02 : QX I A N I2 A2 N2 := BX_tr X1 (BX_w2 (fun j q => by unfold FJ FI at q; unfold FQ; omega) (fun a q => by unfold GJ GI at q; unfold GQ; omega) X2)
      have f2 : ∀ j : Nat, j ≠ 7 → ¬ FJ j → j ≠ 48 → I2 j = I j := fun j a b c => (X2.2.2.2.1 j a b).trans (fJ j c)
      have k47 : I2 47 = I 47 := f2 47 (by decide) (by unfold FJ FI; omega) (by decide)
      have k48 : I2 48 = I 48 + 1 := (X2.2.2.2.1 48 (by decide) (by unfold FJ FI; omega)).trans J48
      have k81 : I2 81 = I 81 := f2 81 (by decide) (by unfold FJ FI; omega) (by decide)
      have k84 : I2 84 = I 84 := f2 84 (by decide) (by unfold FJ FI; omega) (by decide)
      have k85 : I2 85 = I 85 := f2 85 (by decide) (by unfold FJ FI; omega) (by decide)
      have ga : ∀ a : Nat, 47 ≤ a → a ≤ 51 → A2 a = A a := fun a u v => X2.2.2.2.2 a (by omega) (by omega) (by omega) (by omega) (by omega) (by omega) (by unfold GJ GI; omega)
      have S2 : STP I2 := by
        unfold STP
        have := hs
        unfold STP at this
        omega
      have T2 : PXT ar p c I A N I2 A2 N2 := ⟨X02, B2, S2, fun q _ _ => by rw [ga 47 (by decide) (by decide), ga 48 (by decide) (by decide), ga 49 (by decide) (by decide)]; exact ⟨rfl, rfl, rfl⟩, fun q _ _ => by rw [ga 50 (by decide) (by decide)], fun q _ _ => by rw [ga 51 (by decide) (by decide)]⟩
      have x7 := X02.2.1
      rcases hf with ⟨rfl, c7, nfx⟩ | ⟨rfl, fm, ci, cf, fx⟩
      · show xx_go (xt_P z) (d + 11) 137 36 [some (.ref h.length), some (.int (iI o))] [.int (iI 0)] (mh h R I2 A2 N2) _
        refine mi_ne0 (t := 45) rfl rfl (by omega) (by omega) (fun q => absurd rfl q) (fun _ => ?_)
        refine go_a (pc' := 40) (ls' := [some (.ref h.length), some (.int (iI o))]) (st' := [.ref h.length]) rfl rfl ?_
        refine go_a (pc' := 41) (ls' := [some (.ref h.length), some (.int (iI o))]) (st' := [.int (iI o), .ref h.length]) rfl rfl ?_
        refine go_put (j := 85) rfl mh_o rfl rfl (show 12 ≤ _ from hc) (show 85 < 86 by decide) rfl rfl ?_
        rw [mh_p85]
        have b3 : BX (fun j => j = 85) NO I2 A2 N2 (su I2 85 o) A2 N2 := BX_of B2.1.1 (fun j q => su_ne q) (fun a _ => rfl) rfl rfl rfl rfl rfl rfl rfl rfl rfl rfl
        have X3 : QX I2 A2 N2 (su I2 85 o) A2 N2 := BX_w2 (fun j q => by subst q; unfold FQ; omega) (fun a q => absurd q (fun z => z)) b3
        have B3 : BI ar (su I2 85 o) A2 N2 := BI_QX B2 X3 (SZI_124 (A := A2) (A1 := A2) B2.1.2.2 rfl rfl rfl rfl) B2.2.2.2.1.1 B2.2.2.2.1.2 B2.2.2.2.2
        exact go_r rfl rfl rfl rfl rfl rfl ⟨rfl, su I2 85 o, A2, N2, rfl, ⟨BX_tr X02 X3, B3, S2, T2.2.2.2.1, T2.2.2.2.2.1, T2.2.2.2.2.2⟩, (show I2 84 = c by omega), Or.inl ⟨Or.inr ⟨(show ¬ o = -1 by omega), k0, (show o < I2 7 by omega)⟩, Or.inr ⟨k0, (show o < I2 7 by omega)⟩, by rw [show (su I2 85 o) 48 = I 48 + 1 from k48]; exact pr_bad sl (by omega) (fun hp => ⟨fun f => (fox_no (f := f) (st := I 48 + 1) B1 TJ k0 (by omega) hp nfx).1, (fox_no (f := fun _ _ => none) (st := 0) B1 TJ k0 (by omega) hp nfx).2⟩)⟩⟩
      · have cx : CFX ar J A o (I2 7 - J 7) := ⟨fun e => by obtain ⟨u, a, b⟩ := ci e; exact ⟨u, a, by omega⟩, fun e => cf e⟩
        clear ci cf
        have gok : GOK ft Fb (DM A N o) := by
          obtain ⟨n, hL, n1, -⟩ := id fx
          refine ⟨L_pl B1 TJ k0 (by omega) hL, ?_⟩
          rw [L_p B1 TJ k0 (by omega) hL (by omega : 0 < n)]
          exact fox_gd (o := o) B1 TJ k0 (by omega) fx
        have z99 : I2 49 = 0 := by rw [u2 trivial, fJ 49 (by decide)]; exact u9
        clear fx
        show xx_go (xt_P z) (d + 11) 137 36 [some (.ref h.length), some (.int (iI o))] [.int (iI 1)] (mh h R I2 A2 N2) _
        refine mi_ne0 (t := 45) rfl rfl (by omega) (by omega) (fun _ => ?_) (fun q => absurd (by decide) q)
        have rl : 27 ≤ A 1 o ∧ A 1 o ≤ 43 := by
          obtain ⟨n, -, -, q⟩ := fm
          rw [(X02.2.2.1 o k0 k1).1] at q
          rcases q with q | q | q | q | q | q | q | q | q | q | q | q <;> omega
        have e1 : A2 1 o = A 1 o := (X02.2.2.1 o k0 k1).1
        refine go_a (pc' := 46) (ls' := [some (.ref h.length), some (.int (iI o))]) (st' := [.ref h.length]) rfl rfl ?_
        refine go_get rfl mh_o rfl rfl ?_
        refine go_a (pc' := 50) (ls' := [some (.ref h.length), some (.int (iI o))]) (st' := [.ref h.length, .ref (h.length + 47)]) rfl rfl ?_
        refine go_get (v := .int (iI (I2 81))) rfl mh_o rfl rfl ?_
        refine go_a (pc' := 54) (ls' := [some (.ref h.length), some (.int (iI o))]) (st' := [.int (iI o), .int (iI (I2 81)), .ref (h.length + 47)]) rfl rfl ?_
        refine mi_ist rfl mh_a47 (show 12 ≤ _ by omega) (by omega) (by omega) (by decide) ?_
        rw [mh_w47 (by omega)]
        refine go_a (pc' := 56) (ls' := [some (.ref h.length), some (.int (iI o))]) (st' := [.ref h.length]) rfl rfl ?_
        refine go_get rfl mh_o rfl rfl ?_
        refine go_a (pc' := 60) (ls' := [some (.ref h.length), some (.int (iI o))]) (st' := [.ref h.length, .ref (h.length + 48)]) rfl rfl ?_
        refine go_get (v := .int (iI (I2 81))) rfl mh_o rfl rfl ?_
        refine go_a (pc' := 64) (ls' := [some (.ref h.length), some (.int (iI o))]) (st' := [.ref h.length, .int (iI (I2 81)), .ref (h.length + 48)]) rfl rfl ?_
        refine go_get rfl mh_o rfl rfl ?_
        refine go_a (pc' := 68) (ls' := [some (.ref h.length), some (.int (iI o))]) (st' := [.int (iI o), .ref (h.length + 1), .int (iI (I2 81)), .ref (h.length + 48)]) rfl rfl ?_
        refine mi_ild rfl mh_a1 (by omega) (by omega) (by decide) ?_
        show xx_go (xt_P z) (d + 11) 137 69 [some (.ref h.length), some (.int (iI o))] [.int (iI (A2 1 o)), .int (iI (I2 81)), .ref (h.length + 48)] (mh h R I2 (sa A2 47 (I2 81) o) N2) _
        rw [e1]
        show xx_go (xt_P z) (d + 11) 137 69 [some (.ref h.length), some (.int (iI o))] [.int (iI (A 1 o)), .int (iI (I2 81)), .ref (h.length + 48)] (mh h R I2 (sa A2 47 (I2 81) o) N2) _
        refine go_s (m := 151) (as := [.int (iI (A 1 o))]) (r := [.int (iI (I2 81)), .ref (h.length + 48)]) rfl rfl rfl rfl (mm_partsFrom z (d + 10) (A 1 o) _ rl.1 rl.2) (fun v h1 hq => ?_)
        obtain ⟨rfl, rfl⟩ := hq
        show xx_go (xt_P z) (d + 11) 137 72 [some (.ref h.length), some (.int (iI o))] [.int (iI (((pf (A 1 o) : Nat) : Int))), .int (iI (I2 81)), .ref (h.length + 48)] (mh h R I2 (sa A2 47 (I2 81) o) N2) _
        refine mi_ist rfl mh_a48 (show 12 ≤ _ by omega) (by omega) (by omega) (by decide) ?_
        rw [mh_w48 (by omega)]
        refine go_a (pc' := 74) (ls' := [some (.ref h.length), some (.int (iI o))]) (st' := [.ref h.length]) rfl rfl ?_
        refine go_get rfl mh_o rfl rfl ?_
        refine go_a (pc' := 78) (ls' := [some (.ref h.length), some (.int (iI o))]) (st' := [.ref h.length, .ref (h.length + 49)]) rfl rfl ?_
        refine go_get (v := .int (iI (I2 81))) rfl mh_o rfl rfl ?_
        refine go_a (pc' := 82) (ls' := [some (.ref h.length), some (.int (iI o))]) (st' := [.ref h.length, .int (iI (I2 81)), .ref (h.length + 49)]) rfl rfl ?_
        refine go_get (v := .int (iI (I2 84))) rfl mh_o rfl rfl ?_
        refine mi_ist rfl mh_a49 (show 12 ≤ _ by omega) (by omega) (by omega) (by decide) ?_
        rw [mh_w49 (by omega)]
        refine go_a (pc' := 87) (ls' := [some (.ref h.length), some (.int (iI o))]) (st' := [.ref h.length]) rfl rfl ?_
        refine go_a (pc' := 88) (ls' := [some (.ref h.length), some (.int (iI o))]) (st' := [.ref h.length, .ref h.length]) rfl rfl ?_
        refine go_get (v := .int (iI (I2 81))) rfl mh_o rfl rfl ?_
        refine go_a (pc' := 92) (ls' := [some (.ref h.length), some (.int (iI o))]) (st' := [.int (iI 1), .int (iI (I2 81)), .ref h.length]) rfl rfl ?_
        refine mi_add rfl ?_
        refine go_put (j := 81) rfl mh_o rfl rfl (show 12 ≤ _ from hc) (show 81 < 86 by decide) rfl rfl ?_
        rw [mh_p81]
        have b3 : BX (fun j => j = 81) (fun a => a = 47 ∨ a = 48 ∨ a = 49) I2 A2 N2 (su I2 81 ((I2 81) + 1)) (sa (sa (sa A2 47 (I2 81) o) 48 (I2 81) (((pf (A 1 o) : Nat) : Int))) 49 (I2 81) (I2 84)) N2 := BX_of B2.1.1 (fun j q => su_ne q) (fun a q => (sa_ne (fun e => q (Or.inr (Or.inr e)))).trans ((sa_ne (fun e => q (Or.inr (Or.inl e)))).trans (sa_ne (fun e => q (Or.inl e))))) rfl rfl rfl rfl rfl rfl rfl rfl rfl rfl
        have X3 : QX I2 A2 N2 (su I2 81 ((I2 81) + 1)) (sa (sa (sa A2 47 (I2 81) o) 48 (I2 81) (((pf (A 1 o) : Nat) : Int))) 49 (I2 81) (I2 84)) N2 := BX_w2 (fun j q => by subst q; unfold FQ; omega) (fun a q => by unfold GQ; omega) b3
        have B3 : BI ar (su I2 81 ((I2 81) + 1)) (sa (sa (sa A2 47 (I2 81) o) 48 (I2 81) (((pf (A 1 o) : Nat) : Int))) 49 (I2 81) (I2 84)) N2 := BI_QX B2 X3 (SZI_124 (A := A2) (A1 := sa (sa (sa A2 47 (I2 81) o) 48 (I2 81) (((pf (A 1 o) : Nat) : Int))) 49 (I2 81) (I2 84)) B2.1.2.2 rfl rfl rfl rfl) B2.2.2.2.1.1 B2.2.2.2.1.2 B2.2.2.2.2
        have e81 : I2 81 = p := by omega
        have e84 : I2 84 = c := by omega
        have q47 : (sa (sa (sa A2 47 (I2 81) o) 48 (I2 81) (((pf (A 1 o) : Nat) : Int))) 49 (I2 81) (I2 84)) 47 = sf (A2 47) (I2 81) o := rfl
        have q48 : (sa (sa (sa A2 47 (I2 81) o) 48 (I2 81) (((pf (A 1 o) : Nat) : Int))) 49 (I2 81) (I2 84)) 48 = sf (A2 48) (I2 81) ((pf (A 1 o) : Nat) : Int) := rfl
        have q49 : (sa (sa (sa A2 47 (I2 81) o) 48 (I2 81) (((pf (A 1 o) : Nat) : Int))) 49 (I2 81) (I2 84)) 49 = sf (A2 49) (I2 81) (I2 84) := rfl
        have j9 : I2 49 = 0 → True := fun _ => trivial
        have F3 : FORM ar (su I2 81 ((I2 81) + 1)) (sa (sa (sa A2 47 (I2 81) o) 48 (I2 81) (((pf (A 1 o) : Nat) : Int))) 49 (I2 81) (I2 84)) N2 o := FORM_BX B2 b3 (by decide) (by decide) (fun a p q => by omega) k0 (by omega) fm
        have XA : BX FQ GQ J A N (su I2 81 ((I2 81) + 1)) (sa (sa (sa A2 47 (I2 81) o) 48 (I2 81) (((pf (A 1 o) : Nat) : Int))) 49 (I2 81) (I2 84)) N2 := BX_tr (BX_w2 (fun j q => by unfold FJ FI at q; unfold FQ; omega) (fun a q => by unfold GJ GI at q; unfold GQ; omega) X2) X3
        have C3 : CFX ar (su I2 81 ((I2 81) + 1)) (sa (sa (sa A2 47 (I2 81) o) 48 (I2 81) (((pf (A 1 o) : Nat) : Int))) 49 (I2 81) (I2 84)) o (I2 7 - I 7) := by
          rw [← J7]
          exact CFX_BX B1 XA (by unfold FQ; omega) (fun a p q => by unfold GQ; omega) k0 (by omega) F3 cx
        refine go_r rfl rfl rfl rfl rfl rfl ⟨rfl, su I2 81 ((I2 81) + 1), sa (sa (sa A2 47 (I2 81) o) 48 (I2 81) (((pf (A 1 o) : Nat) : Int))) 49 (I2 81) (I2 84), N2, rfl, ⟨BX_tr X02 X3, B3, S2, fun q a b => ?_, T2.2.2.2.2.1, T2.2.2.2.2.2⟩, e84, ?_⟩
        · rw [q47, q48, q49, sf_ne (by omega), sf_ne (by omega), sf_ne (by omega)]
          exact T2.2.2.2.1 q a b
        by_cases z9 : I2 49 = 0
        · refine Or.inr ⟨z9, k85, (by omega), (show I2 81 + 1 = p + 1 by omega), ?_, ?_, ?_, F3, C3, ⟨sl, k48⟩, gok⟩
          · rw [q47, ← e81, sf_self]
          · rw [q48, ← e81, sf_self]
          · rw [q49, ← e81, sf_self, e84]
        · exact absurd z99 z9
    · show xx_go (xt_P z) (d + 11) 137 27 [some (.ref h.length), some (.int (iI o))] [.int (iI 0)] (mh h R I1 A N) _
      refine mi_ne0 (t := 31) rfl rfl (by omega) (by omega) (fun q => absurd rfl q) (fun _ => ?_)
      have b1 : BX (fun j => j = 49) NO I A N I1 A N := BX_of hB.1.1 (fun j q => f1 j q) (fun a _ => rfl) (f1 7 (by decide)) (f1 10 (by decide)) rfl rfl rfl rfl rfl rfl rfl rfl
      have X1 : QX I A N I1 A N := BX_w2 (fun j q => by subst q; unfold FQ; omega) (fun a q => absurd q (fun z => z)) b1
      have B1 : BI ar I1 A N := BI_QX hB X1 (SZI_124 (A := A) (A1 := A) hB.1.2.2 rfl rfl rfl (f1 7 (by decide))) (by rw [f1 54 (by decide)]; exact hB.2.2.2.1.1) (by rw [f1 56 (by decide)]; exact hB.2.2.2.1.2) (by omega)
      exact go_r rfl rfl rfl rfl rfl rfl ⟨rfl, I1, A, N, rfl, ⟨X1, B1, (by unfold STP; rw [f1 47 (by decide), f1 48 (by decide)]; exact hs), fun _ _ _ => ⟨rfl, rfl, rfl⟩, fun _ _ _ => rfl, fun _ _ _ => rfl⟩, (f1 84 (by decide)).trans ec, Or.inl ⟨Or.inl (by omega), Or.inl (f1 85 (by decide)), by rw [f1 48 (by decide)]; exact pr_fuq ns⟩⟩
  · refine go_a (pc' := 18) (ls' := [some (.ref h.length), some (.int (iI o))]) (st' := [.ref h.length]) rfl rfl ?_
    refine go_a (pc' := 19) (ls' := [some (.ref h.length), some (.int (iI o))]) (st' := [.int (iI 2), .ref h.length]) rfl rfl ?_
    refine go_v (m := 128) (as := [.ref h.length, .int (iI 2)]) (r := []) rfl rfl rfl mh_o rfl rfl (mm_fail z (d + 10) 2 h R I A N hc uu.1 uu.2) (fun v h1 hq => ?_)
    obtain ⟨rfl, hq⟩ := hq
    rcases hq with ⟨nz, rfl⟩ | ⟨ez, rfl⟩
    · exact absurd u9 nz
    show xx_go (xt_P z) (d + 11) 137 22 [some (.ref h.length), some (.int (iI o))] [] (mh h R (su I 49 2) A N) _
    have b1 : BX (fun j => j = 49) NO I A N (su I 49 2) A N := BX_of hB.1.1 (fun j q => su_ne q) (fun a _ => rfl) rfl rfl rfl rfl rfl rfl rfl rfl rfl rfl
    have B1 : BI ar (su I 49 2) A N := BI_QX hB (BX_w2 (fun j q => by subst q; unfold FQ; omega) (fun a q => absurd q (fun z => z)) b1) (SZI_124 (A := A) (A1 := A) hB.1.2.2 rfl rfl rfl rfl) hB.2.2.2.1.1 hB.2.2.2.1.2 (show (0 : Int) ≤ 2 ∧ (2 : Int) ≤ 4 by decide)
    exact go_r rfl rfl rfl rfl rfl rfl ⟨rfl, su I 49 2, A, N, rfl, ⟨BX_w2 (fun j q => by subst q; unfold FQ; omega) (fun a q => absurd q (fun z => z)) b1, B1, hs, fun _ _ _ => ⟨rfl, rfl, rfl⟩, fun _ _ _ => rfl, fun _ _ _ => rfl⟩, ec, Or.inl ⟨Or.inl (show ¬ (2 : Int) = 0 by decide), Or.inl rfl, pr_0 (by omega)⟩⟩

