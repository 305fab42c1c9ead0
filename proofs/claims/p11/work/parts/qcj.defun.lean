theorem mm_defun_vars (z : Value) (d m : Nat) (o n l t c b : Int) (h R : xx_H) (I : Nat → Int) (A : Nat → Int → Int) (N : Int → Int) (hc : 12 ≤ h.length) (hP : PW I A) (l0 : 0 ≤ l) (l1 : l < I 7) (hL : isL A m l) (m6 : m ≤ 6) (hm : A 21 (I 32) = m) (d0 : 0 ≤ I 32) (d1 : I 32 < 40) (G0 : Int → Int) (Q : Option Value → xx_H → Prop) (K : ∀ (g : Int → Int) (k : Int), (∀ e : Int, e < 6 * I 32 → g e = G0 e) → (∀ j : Nat, j < m → g (6 * I 32 + (j : Int)) = A 1 (rt A j l)) → xx_go (xt_P z) (d + 2) 97 231 [some (.ref h.length), some (.int (iI o)), some (.int (iI n)), some (.int (iI l)), some (.int (iI t)), some (.int (iI c)), some (.int (iI b)), some (.int (iI k))] [] (mh h R I (sw A 22 g) N) Q) : ∀ (f k : Nat) (g : Int → Int), k + f = m → (∀ e : Int, e < 6 * I 32 → g e = G0 e) → (∀ j : Nat, j < k → g (6 * I 32 + (j : Int)) = A 1 (rt A j l)) → xx_go (xt_P z) (d + 2) 97 189 [some (.ref h.length), some (.int (iI o)), some (.int (iI n)), some (.int (iI l)), some (.int (iI t)), some (.int (iI c)), some (.int (iI b)), some (.int (iI (k : Int)))] [] (mh h R I (sw A 22 g) N) Q := by
  intro f
  induction f with
  | zero =>
    intro k g e1 e2 e3
    have hm2 : sw A 22 g 21 (I 32) = m := hm
    refine go_a (pc' := 191) (ls' := [some (.ref h.length), some (.int (iI o)), some (.int (iI n)), some (.int (iI l)), some (.int (iI t)), some (.int (iI c)), some (.int (iI b)), some (.int (iI ((k : Int))))]) (st' := [.int (iI ((k : Int)))]) rfl rfl ?_
    refine go_a (pc' := 192) (ls' := [some (.ref h.length), some (.int (iI o)), some (.int (iI n)), some (.int (iI l)), some (.int (iI t)), some (.int (iI c)), some (.int (iI b)), some (.int (iI ((k : Int))))]) (st' := [.ref h.length, .int (iI ((k : Int)))]) rfl rfl ?_
    refine go_get rfl mh_o rfl rfl ?_
    refine go_a (pc' := 196) (ls' := [some (.ref h.length), some (.int (iI o)), some (.int (iI n)), some (.int (iI l)), some (.int (iI t)), some (.int (iI c)), some (.int (iI b)), some (.int (iI ((k : Int))))]) (st' := [.ref h.length, .ref (h.length + 21), .int (iI ((k : Int)))]) rfl rfl ?_
    refine go_get (v := .int (iI (I 32))) rfl mh_o rfl rfl ?_
    refine mi_ild rfl mh_a21 (by omega) (by omega) (by decide) ?_
    refine mi_ge (t := 231) rfl rfl (by omega) (by omega) (by omega) (by omega) (fun _ => K g k e2 (fun j q => e3 j (by omega))) (fun e => absurd (show (sw A 22 g 21 (I 32)) ≤ (k : Int) by omega) (by omega))
  | succ f ih =>
    intro k g e1 e2 e3
    have hm2 : sw A 22 g 21 (I 32) = m := hm
    refine go_a (pc' := 191) (ls' := [some (.ref h.length), some (.int (iI o)), some (.int (iI n)), some (.int (iI l)), some (.int (iI t)), some (.int (iI c)), some (.int (iI b)), some (.int (iI ((k : Int))))]) (st' := [.int (iI ((k : Int)))]) rfl rfl ?_
    refine go_a (pc' := 192) (ls' := [some (.ref h.length), some (.int (iI o)), some (.int (iI n)), some (.int (iI l)), some (.int (iI t)), some (.int (iI c)), some (.int (iI b)), some (.int (iI ((k : Int))))]) (st' := [.ref h.length, .int (iI ((k : Int)))]) rfl rfl ?_
    refine go_get rfl mh_o rfl rfl ?_
    refine go_a (pc' := 196) (ls' := [some (.ref h.length), some (.int (iI o)), some (.int (iI n)), some (.int (iI l)), some (.int (iI t)), some (.int (iI c)), some (.int (iI b)), some (.int (iI ((k : Int))))]) (st' := [.ref h.length, .ref (h.length + 21), .int (iI ((k : Int)))]) rfl rfl ?_
    refine go_get (v := .int (iI (I 32))) rfl mh_o rfl rfl ?_
    refine mi_ild rfl mh_a21 (by omega) (by omega) (by decide) ?_
    refine mi_ge (t := 231) rfl rfl (by omega) (by omega) (by omega) (by omega) (fun e => by omega) (fun e => ?_)
    refine go_a (pc' := 204) (ls' := [some (.ref h.length), some (.int (iI o)), some (.int (iI n)), some (.int (iI l)), some (.int (iI t)), some (.int (iI c)), some (.int (iI b)), some (.int (iI ((k : Int))))]) (st' := [.ref h.length]) rfl rfl ?_
    refine go_get rfl mh_o rfl rfl ?_
    refine go_a (pc' := 209) (ls' := [some (.ref h.length), some (.int (iI o)), some (.int (iI n)), some (.int (iI l)), some (.int (iI t)), some (.int (iI c)), some (.int (iI b)), some (.int (iI ((k : Int))))]) (st' := [.int (iI 6), .ref (h.length + 22)]) rfl rfl ?_
    refine go_a (pc' := 210) (ls' := [some (.ref h.length), some (.int (iI o)), some (.int (iI n)), some (.int (iI l)), some (.int (iI t)), some (.int (iI c)), some (.int (iI b)), some (.int (iI ((k : Int))))]) (st' := [.ref h.length, .int (iI 6), .ref (h.length + 22)]) rfl rfl ?_
    refine go_get (v := .int (iI (I 32))) rfl mh_o rfl rfl ?_
    refine mi_mul rfl ?_
    refine go_a (pc' := 216) (ls' := [some (.ref h.length), some (.int (iI o)), some (.int (iI n)), some (.int (iI l)), some (.int (iI t)), some (.int (iI c)), some (.int (iI b)), some (.int (iI ((k : Int))))]) (st' := [.int (iI ((k : Int))), .int (iI (6 * (I 32))), .ref (h.length + 22)]) rfl rfl ?_
    refine mi_add rfl ?_
    refine go_a (pc' := 218) (ls' := [some (.ref h.length), some (.int (iI o)), some (.int (iI n)), some (.int (iI l)), some (.int (iI t)), some (.int (iI c)), some (.int (iI b)), some (.int (iI ((k : Int))))]) (st' := [.ref h.length, .int (iI ((6 * (I 32)) + ((k : Int)))), .ref (h.length + 22)]) rfl rfl ?_
    refine go_a (pc' := 219) (ls' := [some (.ref h.length), some (.int (iI o)), some (.int (iI n)), some (.int (iI l)), some (.int (iI t)), some (.int (iI c)), some (.int (iI b)), some (.int (iI ((k : Int))))]) (st' := [.int (iI l), .ref h.length, .int (iI ((6 * (I 32)) + ((k : Int)))), .ref (h.length + 22)]) rfl rfl ?_
    refine go_a (pc' := 221) (ls' := [some (.ref h.length), some (.int (iI o)), some (.int (iI n)), some (.int (iI l)), some (.int (iI t)), some (.int (iI c)), some (.int (iI b)), some (.int (iI ((k : Int))))]) (st' := [.int (iI ((k : Int))), .int (iI l), .ref h.length, .int (iI ((6 * (I 32)) + ((k : Int)))), .ref (h.length + 22)]) rfl rfl ?_
    refine go_v (m := 99) (as := [.ref h.length, .int (iI l), .int (iI ((k : Int)))]) (r := [.int (iI ((6 * (I 32)) + ((k : Int)))), .ref (h.length + 22)]) rfl rfl rfl mh_o rfl rfl (mm_nth z (d + 1) k m l h R I (sw A 22 g) N hc hP (by omega) l0 l1 (isL_12 (A := A) (A1 := sw A 22 g) rfl rfl m l hL) (by omega)) (fun v h1 hq => ?_)
    obtain ⟨rfl, rfl⟩ := hq
    rw [show (sw A 22 g) 1 (rt (sw A 22 g) k l) = A 1 (rt A k l) by rw [rt_12 (A := A) (A1 := sw A 22 g) rfl]; rfl]
    show xx_go (xt_P z) (d + 2) 97 224 [some (.ref h.length), some (.int (iI o)), some (.int (iI n)), some (.int (iI l)), some (.int (iI t)), some (.int (iI c)), some (.int (iI b)), some (.int (iI ((k : Int))))] [.int (iI (A 1 (rt A k l))), .int (iI ((6 * (I 32)) + ((k : Int)))), .ref (h.length + 22)] (mh h R I (sw A 22 g) N) _
    refine mi_ist rfl mh_a22 (show 12 ≤ _ by omega) (by omega) (by omega) (by decide) ?_
    rw [mh_w22 (by omega), sa_sw]
    show xx_go (xt_P z) (d + 2) 97 225 [some (.ref h.length), some (.int (iI o)), some (.int (iI n)), some (.int (iI l)), some (.int (iI t)), some (.int (iI c)), some (.int (iI b)), some (.int (iI ((k : Int))))] [] (mh h R I (sw A 22 (sf g (6 * I 32 + (k : Int)) (A 1 (rt A k l)))) N) _
    refine go_a (pc' := 228) (ls' := [some (.ref h.length), some (.int (iI o)), some (.int (iI n)), some (.int (iI l)), some (.int (iI t)), some (.int (iI c)), some (.int (iI b)), some (.int (iI (((k : Int)) + 1)))]) (st' := []) rfl (by rw [← iI_add ((k : Int)) 1]; rfl) ?_
    refine go_a (pc' := 189) (ls' := [some (.ref h.length), some (.int (iI o)), some (.int (iI n)), some (.int (iI l)), some (.int (iI t)), some (.int (iI c)), some (.int (iI b)), some (.int (iI (((k : Int)) + 1)))]) (st' := []) rfl rfl ?_
    refine ih (k + 1) _ (by omega) (fun e q => ?_) (fun j q => ?_)
    · rw [sf_ne (by omega)]
      exact e2 e q
    · by_cases e4 : j = k
      · rw [e4, sf_self]
      · rw [sf_ne (by omega)]
        exact e3 j (by omega)
theorem mm_defun_keep (z : Value) (d m : Nat) (o n l t c b : Int) (h R : xx_H) (I : Nat → Int) (A : Nat → Int → Int) (N : Int → Int) (hc : 12 ≤ h.length) (hS : MST I A N) (n0 : A 1 0 < 0) (o0 : 0 ≤ o) (l0 : 0 ≤ l) (l1 : l < c) (c1 : c ≤ I 7) (hL : isL A m l) (m6 : m ≤ 6) (d0 : 0 ≤ I 32) (d1 : I 32 < 40) (hb : b = 0 ∨ b = 1) (t0 : 0 ≤ I 41) (t1 : I 41 < 100) (Q : Option Value → xx_H → Prop) (K : ∀ (I3 : Nat → Int) (A3 : Nat → Int → Int) (g : Int → Int), MST I3 A3 N → I3 7 = c → I3 10 ≤ I 10 → (∀ j : Nat, j ≠ 7 → j ≠ 10 → I3 j = I j) → (∀ a : Nat, a ≠ 7 → A3 a = A a) → (∀ e : Int, e < 6 * I3 32 → g e = A3 22 e) → (∀ j : Nat, j < m → g (6 * I3 32 + (j : Int)) = A 1 (rt A j l)) → Q (some (.int (iI 0))) (mh h R (su (su I3 32 (I3 32 + 1)) 41 (I3 41 + 1)) (sa (sa (sa (sa (sw (sa (sa A3 20 (I3 32) n) 21 (I3 32) m) 22 g) 23 (I3 32) t) 24 (I3 32) b) 27 (I3 41) 1) 28 (I3 41) (I3 46)) N)) : xx_go (xt_P z) (d + 4) 97 156 [some (.ref h.length), some (.int (iI o)), some (.int (iI n)), some (.int (iI l)), some (.int (iI t)), some (.int (iI c)), some (.int (iI b)), none] [] (mh h R I A N) Q := by
  refine go_a (pc' := 157) (ls' := [some (.ref h.length), some (.int (iI o)), some (.int (iI n)), some (.int (iI l)), some (.int (iI t)), some (.int (iI c)), some (.int (iI b)), none]) (st' := [.ref h.length]) rfl rfl ?_
  refine go_a (pc' := 159) (ls' := [some (.ref h.length), some (.int (iI o)), some (.int (iI n)), some (.int (iI l)), some (.int (iI t)), some (.int (iI c)), some (.int (iI b)), none]) (st' := [.int (iI c), .ref h.length]) rfl rfl ?_
  refine go_v (m := 73) (as := [.ref h.length, .int (iI c)]) (r := []) rfl rfl rfl mh_o rfl rfl (mm_forget z (d + 1) c h R I A N hc (by omega) c1 hS) (fun v h1 hq => ?_)
  obtain ⟨rfl, I3, A3, rfl, S3, e7, g10, ef, ea⟩ := hq
  show xx_go (xt_P z) (d + 4) 97 162 [some (.ref h.length), some (.int (iI o)), some (.int (iI n)), some (.int (iI l)), some (.int (iI t)), some (.int (iI c)), some (.int (iI b)), none] [] (mh h R I3 A3 N) _
  have P3 := MST_PW S3
  have L3 : isL A3 m l := isL_12 (A := A) (A1 := A3) (ea 1 (by decide)) (ea 2 (by decide)) m l hL
  have f32 : I3 32 = I 32 := ef 32 (by decide) (by decide)
  have f41 : I3 41 = I 41 := ef 41 (by decide) (by decide)
  refine go_a (pc' := 163) (ls' := [some (.ref h.length), some (.int (iI o)), some (.int (iI n)), some (.int (iI l)), some (.int (iI t)), some (.int (iI c)), some (.int (iI b)), none]) (st' := [.ref h.length]) rfl rfl ?_
  refine go_get rfl mh_o rfl rfl ?_
  refine go_a (pc' := 167) (ls' := [some (.ref h.length), some (.int (iI o)), some (.int (iI n)), some (.int (iI l)), some (.int (iI t)), some (.int (iI c)), some (.int (iI b)), none]) (st' := [.ref h.length, .ref (h.length + 20)]) rfl rfl ?_
  refine go_get (v := .int (iI (I3 32))) rfl mh_o rfl rfl ?_
  refine go_a (pc' := 171) (ls' := [some (.ref h.length), some (.int (iI o)), some (.int (iI n)), some (.int (iI l)), some (.int (iI t)), some (.int (iI c)), some (.int (iI b)), none]) (st' := [.int (iI n), .int (iI (I3 32)), .ref (h.length + 20)]) rfl rfl ?_
  refine mi_ist rfl mh_a20 (show 12 ≤ _ by omega) (by omega) (by omega) (by decide) ?_
  rw [mh_w20 (by omega)]
  refine go_a (pc' := 173) (ls' := [some (.ref h.length), some (.int (iI o)), some (.int (iI n)), some (.int (iI l)), some (.int (iI t)), some (.int (iI c)), some (.int (iI b)), none]) (st' := [.ref h.length]) rfl rfl ?_
  refine go_get rfl mh_o rfl rfl ?_
  refine go_a (pc' := 177) (ls' := [some (.ref h.length), some (.int (iI o)), some (.int (iI n)), some (.int (iI l)), some (.int (iI t)), some (.int (iI c)), some (.int (iI b)), none]) (st' := [.ref h.length, .ref (h.length + 21)]) rfl rfl ?_
  refine go_get (v := .int (iI (I3 32))) rfl mh_o rfl rfl ?_
  refine go_a (pc' := 181) (ls' := [some (.ref h.length), some (.int (iI o)), some (.int (iI n)), some (.int (iI l)), some (.int (iI t)), some (.int (iI c)), some (.int (iI b)), none]) (st' := [.ref h.length, .int (iI (I3 32)), .ref (h.length + 21)]) rfl rfl ?_
  refine go_a (pc' := 182) (ls' := [some (.ref h.length), some (.int (iI o)), some (.int (iI n)), some (.int (iI l)), some (.int (iI t)), some (.int (iI c)), some (.int (iI b)), none]) (st' := [.int (iI l), .ref h.length, .int (iI (I3 32)), .ref (h.length + 21)]) rfl rfl ?_
  refine go_v (m := 98) (as := [.ref h.length, .int (iI l)]) (r := [.int (iI (I3 32)), .ref (h.length + 21)]) rfl rfl rfl mh_o rfl rfl (mm_lenL z (d + 2) m l h R I3 (sa A3 20 (I3 32) n) N hc P3 (show A3 1 0 < 0 by rw [ea 1 (by decide)]; exact n0) l0 (by omega) (isL_12 (A := A3) (A1 := sa A3 20 (I3 32) n) rfl rfl m l L3)) (fun v h1 hq => ?_)
  obtain ⟨rfl, rfl⟩ := hq
  show xx_go (xt_P z) (d + 4) 97 185 [some (.ref h.length), some (.int (iI o)), some (.int (iI n)), some (.int (iI l)), some (.int (iI t)), some (.int (iI c)), some (.int (iI b)), none] [.int (iI (((m : Nat) : Int))), .int (iI (I3 32)), .ref (h.length + 21)] (mh h R I3 (sa A3 20 (I3 32) n) N) _
  refine mi_ist rfl mh_a21 (show 12 ≤ _ by omega) (by omega) (by omega) (by decide) ?_
  rw [mh_w21 (by omega)]
  refine go_a (pc' := 187) (ls' := [some (.ref h.length), some (.int (iI o)), some (.int (iI n)), some (.int (iI l)), some (.int (iI t)), some (.int (iI c)), some (.int (iI b)), none]) (st' := [.int (iI 0)]) rfl rfl ?_
  refine go_a (pc' := 189) (ls' := [some (.ref h.length), some (.int (iI o)), some (.int (iI n)), some (.int (iI l)), some (.int (iI t)), some (.int (iI c)), some (.int (iI b)), some (.int (iI 0))]) (st' := []) rfl rfl ?_
  rw [← sw_self (sa (sa A3 20 (I3 32) n) 21 (I3 32) (m : Int)) 22]
  refine mm_defun_vars z (d + 2) m o n l t c b h R I3 (sa (sa A3 20 (I3 32) n) 21 (I3 32) (m : Int)) N hc P3 l0 (by omega) (isL_12 (A := A3) (A1 := sa (sa A3 20 (I3 32) n) 21 (I3 32) (m : Int)) rfl rfl m l L3) m6 sf_self (by omega) (by omega) (A3 22) Q (fun g k q1 q2 => ?_) m 0 _ (by omega) (fun _ _ => rfl) (fun j q => absurd q (by omega))
  refine go_a (pc' := 232) (ls' := [some (.ref h.length), some (.int (iI o)), some (.int (iI n)), some (.int (iI l)), some (.int (iI t)), some (.int (iI c)), some (.int (iI b)), some (.int (iI k))]) (st' := [.ref h.length]) rfl rfl ?_
  refine go_get rfl mh_o rfl rfl ?_
  refine go_a (pc' := 236) (ls' := [some (.ref h.length), some (.int (iI o)), some (.int (iI n)), some (.int (iI l)), some (.int (iI t)), some (.int (iI c)), some (.int (iI b)), some (.int (iI k))]) (st' := [.ref h.length, .ref (h.length + 23)]) rfl rfl ?_
  refine go_get (v := .int (iI (I3 32))) rfl mh_o rfl rfl ?_
  refine go_a (pc' := 241) (ls' := [some (.ref h.length), some (.int (iI o)), some (.int (iI n)), some (.int (iI l)), some (.int (iI t)), some (.int (iI c)), some (.int (iI b)), some (.int (iI k))]) (st' := [.int (iI t), .int (iI (I3 32)), .ref (h.length + 23)]) rfl rfl ?_
  refine mi_ist rfl mh_a23 (show 12 ≤ _ by omega) (by omega) (by omega) (by decide) ?_
  rw [mh_w23 (by omega)]
  refine go_a (pc' := 243) (ls' := [some (.ref h.length), some (.int (iI o)), some (.int (iI n)), some (.int (iI l)), some (.int (iI t)), some (.int (iI c)), some (.int (iI b)), some (.int (iI k))]) (st' := [.ref h.length]) rfl rfl ?_
  refine go_get rfl mh_o rfl rfl ?_
  refine go_a (pc' := 247) (ls' := [some (.ref h.length), some (.int (iI o)), some (.int (iI n)), some (.int (iI l)), some (.int (iI t)), some (.int (iI c)), some (.int (iI b)), some (.int (iI k))]) (st' := [.ref h.length, .ref (h.length + 24)]) rfl rfl ?_
  refine go_get (v := .int (iI (I3 32))) rfl mh_o rfl rfl ?_
  refine go_a (pc' := 252) (ls' := [some (.ref h.length), some (.int (iI o)), some (.int (iI n)), some (.int (iI l)), some (.int (iI t)), some (.int (iI c)), some (.int (iI b)), some (.int (iI k))]) (st' := [.int (iI b), .int (iI (I3 32)), .ref (h.length + 24)]) rfl rfl ?_
  refine mi_zst rfl mh_a24 (show 12 ≤ _ by omega) (by omega) (show I3 32 < (40 : Nat) by omega) (by decide) hb ?_
  rw [mh_w24 (by omega)]
  show xx_go (xt_P z) (d + 4) 97 253 [some (.ref h.length), some (.int (iI o)), some (.int (iI n)), some (.int (iI l)), some (.int (iI t)), some (.int (iI c)), some (.int (iI b)), some (.int (iI k))] [] (mh h R I3 (sa (sa (sw (sa (sa A3 20 (I3 32) n) 21 (I3 32) (m : Int)) 22 g) 23 (I3 32) t) 24 (I3 32) b) N) _
  refine go_a (pc' := 254) (ls' := [some (.ref h.length), some (.int (iI o)), some (.int (iI n)), some (.int (iI l)), some (.int (iI t)), some (.int (iI c)), some (.int (iI b)), some (.int (iI k))]) (st' := [.ref h.length]) rfl rfl ?_
  refine go_a (pc' := 255) (ls' := [some (.ref h.length), some (.int (iI o)), some (.int (iI n)), some (.int (iI l)), some (.int (iI t)), some (.int (iI c)), some (.int (iI b)), some (.int (iI k))]) (st' := [.ref h.length, .ref h.length]) rfl rfl ?_
  refine go_get (v := .int (iI (I3 32))) rfl mh_o rfl rfl ?_
  refine go_a (pc' := 259) (ls' := [some (.ref h.length), some (.int (iI o)), some (.int (iI n)), some (.int (iI l)), some (.int (iI t)), some (.int (iI c)), some (.int (iI b)), some (.int (iI k))]) (st' := [.int (iI 1), .int (iI (I3 32)), .ref h.length]) rfl rfl ?_
  refine mi_add rfl ?_
  refine go_put (j := 32) rfl mh_o rfl rfl (show 12 ≤ _ from hc) (show 32 < 86 by decide) rfl rfl ?_
  rw [mh_p32]
  refine go_a (pc' := 264) (ls' := [some (.ref h.length), some (.int (iI o)), some (.int (iI n)), some (.int (iI l)), some (.int (iI t)), some (.int (iI c)), some (.int (iI b)), some (.int (iI k))]) (st' := [.ref h.length]) rfl rfl ?_
  refine go_a (pc' := 265) (ls' := [some (.ref h.length), some (.int (iI o)), some (.int (iI n)), some (.int (iI l)), some (.int (iI t)), some (.int (iI c)), some (.int (iI b)), some (.int (iI k))]) (st' := [.int (iI 1), .ref h.length]) rfl rfl ?_
  refine go_v (m := 133) (as := [.ref h.length, .int (iI 1)]) (r := []) rfl rfl rfl mh_o rfl rfl (mm_take z (d + 3) 1 h R (su I3 32 (I3 32 + 1)) (sa (sa (sw (sa (sa A3 20 (I3 32) n) 21 (I3 32) (m : Int)) 22 g) 23 (I3 32) t) 24 (I3 32) b) N hc (Or.inr rfl) (show 0 ≤ I3 41 by omega) (show I3 41 < 100 by omega)) (fun v h1 hq => ?_)
  obtain ⟨rfl, rfl⟩ := hq
  show xx_go (xt_P z) (d + 4) 97 268 [some (.ref h.length), some (.int (iI o)), some (.int (iI n)), some (.int (iI l)), some (.int (iI t)), some (.int (iI c)), some (.int (iI b)), some (.int (iI k))] [] (mh h R (su (su I3 32 (I3 32 + 1)) 41 (I3 41 + 1)) (sa (sa (sa (sa (sw (sa (sa A3 20 (I3 32) n) 21 (I3 32) (m : Int)) 22 g) 23 (I3 32) t) 24 (I3 32) b) 27 (I3 41) 1) 28 (I3 41) (I3 46)) N) _
  refine go_a (pc' := 269) (ls' := [some (.ref h.length), some (.int (iI o)), some (.int (iI n)), some (.int (iI l)), some (.int (iI t)), some (.int (iI c)), some (.int (iI b)), some (.int (iI k))]) (st' := [.int (iI 0)]) rfl rfl ?_
  refine go_r rfl rfl rfl rfl rfl rfl (K I3 A3 g S3 e7 g10 ef ea q1 (fun j q => (q2 j q).trans ?_))
  show A3 1 (rt (sa (sa A3 20 (I3 32) n) 21 (I3 32) (m : Int)) j l) = A 1 (rt A j l)
  rw [rt_12 (A := A3) (A1 := sa (sa A3 20 (I3 32) n) 21 (I3 32) (m : Int)) rfl, rt_12 (A := A) (A1 := A3) (ea 2 (by decide)), ea 1 (by decide)]

