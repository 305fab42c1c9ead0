theorem SCN_sm {n : Int} {f : Int → Int} (h : WFT n f) {x c y : Nat} (a : SCN n f x c y) : sm f x - c ≤ sm f y := by
  refine a (fun x c y => sm f x - c ≤ sm f y) (fun x => by omega) (fun x c y h1 h2 ih => ?_) (fun x c y h1 h2 ih => ?_)
  · have s0 := h.1 x h1
    obtain ⟨a1, -⟩ := bp_if h h1 h2
    obtain ⟨p1, p2, p3, p4, p5⟩ := bp_W h a1
    have e1 : sm f (x + 1) = sm f x + 2 := by
      show sm f x + (tk (f (x : Int)) - 1) = _
      rw [h2]
      have : tk 110 = 3 := by decide
      omega
    omega
  · obtain ⟨p1, p2, p3, p4, p5⟩ := bp_W h h1
    omega
theorem SCN_one {n : Int} {f : Int → Int} (h : WFT n f) {x c : Nat} (hx : (x : Int) < n) (a : SCN n f x c (bp n f x)) : 1 ≤ c := by
  have := SCN_sm h a
  obtain ⟨p1, p2, p3, p4, p5⟩ := bp_W h hx
  omega
theorem SCN_if {n : Int} {f : Int → Int} {x c y : Nat} (a : SCN n f x c y) (h : x < y) (hi : f (x : Int) = 110) : SCN n f (bp n f (x + 1)) c y := by
  rcases SCN_inv a with ⟨-, e⟩ | ⟨-, -, b⟩ | ⟨c2, -, -, w, -⟩
  · omega
  · exact b
  · exact absurd hi w
theorem kp_ind1 (z : Value) (d c : Nat) (u : Int) (K y : Nat) (a : Nat) (G : Int) (fg : Int → Int) (b : Nat) (n : Int) (f : Int → Int) (x : Int) (q : Nat) (m : Int) (g : Int → Int) (hp0 : xx_H) (s0 : KS) (u17 : 17 ≤ u) (hx : tk x = m) (x0 : 0 ≤ x) (x1 : x ≤ 2147483647) (hW : WFT n f) (hy : hp0.length ≤ y) (n1 : n ≤ 120) (K1 : K ≤ 1000) (E0 : Nat) : ∀ (w : Nat) (t l E : Nat) (i b0 α : Int) (Z0 : List (List Int)) (acc : List (Option (List Int))) (y10 y11 y12 y13 : Option Value) (hp : xx_H) (s : KS), n - t ≤ w → (t : Int) < n → 0 ≤ i → i ≤ t → l ≤ K → SCN n f 0 (K - l) t → SCN n f t E (bp n f t) → l < E → KI c hp s → KB s → TF s0 s → CL c hp s u y b0 Z0 → TM c hp s u a G fg → TM c hp s u b n f → KAL hp q m g → kn c s q → kx c hp0 s0 hp s α (34 + 6 * (t : Int)) → α ≤ 2 + 2 * ((t : Int) + n - bp n f t) → α + 6 * (E : Int) ≤ 2 + 6 * (E0 : Int) → (b0, Z0) = acc.foldl clO (0, []) → (∀ (its : List (Option (List Int))) (T : Nat), PTH n f t l its T → PTH n f 0 K (acc ++ its) T) → xx_go (xt_P z) (d + 5) 290 19 [some (.ref (c + 31)), some (.ref a), some (.ref b), some (.int (iI x)), some (.ref q), some (.int (iI ((K : Int)))), some (.ref y), some (.int (iI ((t : Int)))), some (.int (iI ((l : Int)))), some (.int (iI i)), y10, y11, y12, y13] [] hp (fun v h1 => INDP c hp0 s0 u G n f x E0 K fg m g v h1) := by
  intro w
  induction w with
  | zero =>
    intro t l E i b0 α Z0 acc y10 y11 y12 y13 hp s hw tn i0 i1 lK hS hE lE hK hB hT hC hG hF hA kq hX hα1 hα2 hac hPT
    exact absurd tn (by omega)
  | succ w ih =>
    intro t l E i b0 α Z0 acc y10 y11 y12 y13 hp s hw tn i0 i1 lK hS hE lE hK hB hT hC hG hF hA kq hX hα1 hα2 hac hPT
    obtain ⟨qb, Lb, Lba, Lbq⟩ := TMq hF
    have t9 : tat n f (t : Int) = f (t : Int) := if_pos (by omega)
    have fr := Lb.2.2.2 (t : Int)
    obtain ⟨r1, r2, r3, r4, r5⟩ := bp_W hW tn
    refine go_a (pc' := 21) (ls' := [some (.ref (c + 31)), some (.ref a), some (.ref b), some (.int (iI x)), some (.ref q), some (.int (iI ((K : Int)))), some (.ref y), some (.int (iI ((t : Int)))), some (.int (iI ((l : Int)))), some (.int (iI i)), y10, y11, y12, y13]) (st' := [.int (iI i)]) rfl rfl ?_
    refine go_a (pc' := 23) (ls' := [some (.ref (c + 31)), some (.ref a), some (.ref b), some (.int (iI x)), some (.ref q), some (.int (iI ((K : Int)))), some (.ref y), some (.int (iI ((t : Int)))), some (.int (iI ((l : Int)))), some (.int (iI i)), y10, y11, y12, y13]) (st' := [.int (iI 120), .int (iI i)]) rfl rfl ?_
    refine mi_ge (t := 150) rfl rfl (by omega) (by omega) (by omega) (by omega) (fun w9 => absurd w9 (by omega)) (fun _ => ?_)
    refine go_a (pc' := 27) (ls' := [some (.ref (c + 31)), some (.ref a), some (.ref b), some (.int (iI x)), some (.ref q), some (.int (iI ((K : Int)))), some (.ref y), some (.int (iI ((t : Int)))), some (.int (iI ((l : Int)))), some (.int (iI i)), y10, y11, y12, y13]) (st' := [.ref b]) rfl rfl ?_
    refine go_a (pc' := 29) (ls' := [some (.ref (c + 31)), some (.ref a), some (.ref b), some (.int (iI x)), some (.ref q), some (.int (iI ((K : Int)))), some (.ref y), some (.int (iI ((t : Int)))), some (.int (iI ((l : Int)))), some (.int (iI i)), y10, y11, y12, y13]) (st' := [.int (iI ((t : Int))), .ref b]) rfl rfl ?_
    refine go_v (m := 230) (as := [.ref b, .int (iI ((t : Int)))]) (r := []) rfl rfl rfl Lb.1 rfl rfl (kg_at z (d + 4) (t : Int) b qb n f hp Lb (by omega) (by omega)) (fun v h3 hq => ?_)
    obtain ⟨rfl, e9⟩ := hq
    rw [e9, t9]
    clear e9 h3
    show xx_go (xt_P z) (d + 5) 290 32 [some (.ref (c + 31)), some (.ref a), some (.ref b), some (.int (iI x)), some (.ref q), some (.int (iI ((K : Int)))), some (.ref y), some (.int (iI ((t : Int)))), some (.int (iI ((l : Int)))), some (.int (iI i)), y10, y11, y12, y13] [.int (iI (f (t : Int)))] hp _
    refine go_a (pc' := 34) (ls' := [some (.ref (c + 31)), some (.ref a), some (.ref b), some (.int (iI x)), some (.ref q), some (.int (iI ((K : Int)))), some (.ref y), some (.int (iI ((t : Int)))), some (.int (iI ((l : Int)))), some (.int (iI i)), y10, y11, y12, y13]) (st' := [.int (iI 110), .int (iI (f (t : Int)))]) rfl rfl ?_
    refine mi_ne (t := 150) rfl rfl (by omega) (by omega) (by omega) (by omega) (fun w2 => ?_) (fun w2 => ?_)
    · have q9 := SCN_sub hW hE (SCN.fin t 0 _ tn w2 (SCN.nil _)) (Nat.le_refl _)
      have l0 : l = 0 := by
        have := q9.1
        omega
      rw [l0, Nat.sub_zero] at hS
      have pt9 := hPT [] t (by rw [l0]; exact PTH_e tn w2)
      rw [List.append_nil] at pt9
      refine go_a (pc' := 151) (ls' := [some (.ref (c + 31)), some (.ref a), some (.ref b), some (.int (iI x)), some (.ref q), some (.int (iI ((K : Int)))), some (.ref y), some (.int (iI ((t : Int)))), some (.int (iI ((l : Int)))), some (.int (iI i)), y10, y11, y12, y13]) (st' := [.ref b]) rfl rfl ?_
      refine go_a (pc' := 153) (ls' := [some (.ref (c + 31)), some (.ref a), some (.ref b), some (.int (iI x)), some (.ref q), some (.int (iI ((K : Int)))), some (.ref y), some (.int (iI ((t : Int)))), some (.int (iI ((l : Int)))), some (.int (iI i)), y10, y11, y12, y13]) (st' := [.int (iI ((t : Int))), .ref b]) rfl rfl ?_
      refine go_v (m := 231) (as := [.ref b, .int (iI ((t : Int)))]) (r := []) rfl rfl rfl Lb.1 rfl rfl (kg_behind z (d + 4) (t : Int) b qb n f hp Lb (by omega) (by omega)) (fun v h3 hq => ?_)
      obtain ⟨rfl, e9⟩ := hq
      rw [e9, r1]
      clear e9 h3
      show xx_go (xt_P z) (d + 5) 290 156 [some (.ref (c + 31)), some (.ref a), some (.ref b), some (.int (iI x)), some (.ref q), some (.int (iI ((K : Int)))), some (.ref y), some (.int (iI ((t : Int)))), some (.int (iI ((l : Int)))), some (.int (iI i)), y10, y11, y12, y13] [.int (iI ((bp n f t : Int)))] hp _
      refine go_a (pc' := 158) (ls' := [some (.ref (c + 31)), some (.ref a), some (.ref b), some (.int (iI x)), some (.ref q), some (.int (iI ((K : Int)))), some (.ref y), some (.int (iI ((t : Int)))), some (.int (iI ((l : Int)))), some (.int (iI ((bp n f t : Int)))), y10, y11, y12, y13]) (st' := []) rfl rfl ?_
      refine go_a (pc' := 160) (ls' := [some (.ref (c + 31)), some (.ref a), some (.ref b), some (.int (iI x)), some (.ref q), some (.int (iI ((K : Int)))), some (.ref y), some (.int (iI ((t : Int)))), some (.int (iI ((l : Int)))), some (.int (iI ((bp n f t : Int)))), y10, y11, y12, y13]) (st' := [.int (iI ((t : Int)))]) rfl rfl ?_
      refine go_a (pc' := 162) (ls' := [some (.ref (c + 31)), some (.ref a), some (.ref b), some (.int (iI x)), some (.ref q), some (.int (iI ((K : Int)))), some (.ref y), some (.int (iI ((t : Int)))), some (.int (iI ((l : Int)))), some (.int (iI ((bp n f t : Int)))), some (.int (iI ((t : Int)))), y11, y12, y13]) (st' := []) rfl rfl ?_
      exact kp_ind2 z d c u K y t (l : Int) a G fg b n f x q m g hp0 s0 u17 hx x0 x1 hW tn hS w2 hy E0 α ⟨by omega, by omega⟩ acc pt9 _ t b0 Z0 _ _ _ hp s (Nat.le_refl _) (Nat.le_refl _) (by omega) hK hB hT hC hG hF hA kq (kx_w hX (by omega) (by rw [Int.sub_self, Int.mul_zero]; omega)) (by unfold INDZ; rw [List.foldl_append, ← hac])
    · have w3 : f (t : Int) = 110 := by omega
      obtain ⟨a1, a2, a3, a4, a5, a6, a7⟩ := bp_if hW tn w3
      obtain ⟨p1, p2, p3, p4, p5⟩ := bp_W hW a1
      obtain ⟨c1, c2, c3, c4, c5⟩ := bp_W hW a2
      have hS2 : SCN n f 0 (K - l) (bp n f (t + 1)) := by
        have := SCN_tr hS (SCN.iff t 0 _ tn w3 (SCN.nil _))
        exact this
      have hE2 : SCN n f (bp n f (t + 1)) E (bp n f t) := SCN_if hE r2 w3
      refine go_a (pc' := 38) (ls' := [some (.ref (c + 31)), some (.ref a), some (.ref b), some (.int (iI x)), some (.ref q), some (.int (iI ((K : Int)))), some (.ref y), some (.int (iI ((t : Int)))), some (.int (iI ((l : Int)))), some (.int (iI i)), y10, y11, y12, y13]) (st' := [.ref b]) rfl rfl ?_
      refine go_a (pc' := 40) (ls' := [some (.ref (c + 31)), some (.ref a), some (.ref b), some (.int (iI x)), some (.ref q), some (.int (iI ((K : Int)))), some (.ref y), some (.int (iI ((t : Int)))), some (.int (iI ((l : Int)))), some (.int (iI i)), y10, y11, y12, y13]) (st' := [.int (iI ((t : Int))), .ref b]) rfl rfl ?_
      refine go_a (pc' := 41) (ls' := [some (.ref (c + 31)), some (.ref a), some (.ref b), some (.int (iI x)), some (.ref q), some (.int (iI ((K : Int)))), some (.ref y), some (.int (iI ((t : Int)))), some (.int (iI ((l : Int)))), some (.int (iI i)), y10, y11, y12, y13]) (st' := [.int (iI 1), .int (iI ((t : Int))), .ref b]) rfl rfl ?_
      refine mi_add rfl ?_
      rw [show (t : Int) + 1 = ((t + 1 : Nat) : Int) by omega]
      refine go_v (m := 231) (as := [.ref b, .int (iI (((t + 1 : Nat) : Int)))]) (r := []) rfl rfl rfl Lb.1 rfl rfl (kg_behind z (d + 4) ((t + 1 : Nat) : Int) b qb n f hp Lb (by omega) (by omega)) (fun v h3 hq => ?_)
      obtain ⟨rfl, e9⟩ := hq
      rw [e9, p1]
      clear e9 h3
      show xx_go (xt_P z) (d + 5) 290 45 [some (.ref (c + 31)), some (.ref a), some (.ref b), some (.int (iI x)), some (.ref q), some (.int (iI ((K : Int)))), some (.ref y), some (.int (iI ((t : Int)))), some (.int (iI ((l : Int)))), some (.int (iI i)), y10, y11, y12, y13] [.int (iI ((bp n f (t + 1) : Int)))] hp _
      refine go_a (pc' := 47) (ls' := [some (.ref (c + 31)), some (.ref a), some (.ref b), some (.int (iI x)), some (.ref q), some (.int (iI ((K : Int)))), some (.ref y), some (.int (iI ((t : Int)))), some (.int (iI ((l : Int)))), some (.int (iI i)), some (.int (iI ((bp n f (t + 1) : Int)))), y11, y12, y13]) (st' := []) rfl rfl ?_
      refine go_a (pc' := 48) (ls' := [some (.ref (c + 31)), some (.ref a), some (.ref b), some (.int (iI x)), some (.ref q), some (.int (iI ((K : Int)))), some (.ref y), some (.int (iI ((t : Int)))), some (.int (iI ((l : Int)))), some (.int (iI i)), some (.int (iI ((bp n f (t + 1) : Int)))), y11, y12, y13]) (st' := [.ref b]) rfl rfl ?_
      refine go_a (pc' := 50) (ls' := [some (.ref (c + 31)), some (.ref a), some (.ref b), some (.int (iI x)), some (.ref q), some (.int (iI ((K : Int)))), some (.ref y), some (.int (iI ((t : Int)))), some (.int (iI ((l : Int)))), some (.int (iI i)), some (.int (iI ((bp n f (t + 1) : Int)))), y11, y12, y13]) (st' := [.int (iI ((bp n f (t + 1) : Int))), .ref b]) rfl rfl ?_
      refine go_s (m := 288) (as := [.ref b, .int (iI ((bp n f (t + 1) : Int)))]) (r := []) rfl rfl rfl rfl (kp_ends z (d + 3) (bp n f (t + 1)) b qb n f hp Lb hW a2) (fun v h3 hq => ?_)
      obtain ⟨⟨E2, rfl, hE3, E2n⟩, e9⟩ := hq
      rw [e9]
      clear e9 h3
      show xx_go (xt_P z) (d + 5) 290 53 [some (.ref (c + 31)), some (.ref a), some (.ref b), some (.int (iI x)), some (.ref q), some (.int (iI ((K : Int)))), some (.ref y), some (.int (iI ((t : Int)))), some (.int (iI ((l : Int)))), some (.int (iI i)), some (.int (iI ((bp n f (t + 1) : Int)))), y11, y12, y13] [.int (iI ((E2 : Int)))] hp _
      have sb := SCN_sub hW hE3 hE2 (by omega)
      have E21 := SCN_one hW a2 hE3
      have hE4 : SCN n f (bp n f (bp n f (t + 1))) (E - E2) (bp n f (bp n f (bp n f (t + 1)))) := by
        rw [a4]
        exact sb.2
      have E31 := SCN_one hW a3 hE4
      refine go_a (pc' := 55) (ls' := [some (.ref (c + 31)), some (.ref a), some (.ref b), some (.int (iI x)), some (.ref q), some (.int (iI ((K : Int)))), some (.ref y), some (.int (iI ((t : Int)))), some (.int (iI ((l : Int)))), some (.int (iI i)), some (.int (iI ((bp n f (t + 1) : Int)))), some (.int (iI ((E2 : Int)))), y12, y13]) (st' := []) rfl rfl ?_
      refine go_a (pc' := 56) (ls' := [some (.ref (c + 31)), some (.ref a), some (.ref b), some (.int (iI x)), some (.ref q), some (.int (iI ((K : Int)))), some (.ref y), some (.int (iI ((t : Int)))), some (.int (iI ((l : Int)))), some (.int (iI i)), some (.int (iI ((bp n f (t + 1) : Int)))), some (.int (iI ((E2 : Int)))), y12, y13]) (st' := [.ref b]) rfl rfl ?_
      refine go_a (pc' := 58) (ls' := [some (.ref (c + 31)), some (.ref a), some (.ref b), some (.int (iI x)), some (.ref q), some (.int (iI ((K : Int)))), some (.ref y), some (.int (iI ((t : Int)))), some (.int (iI ((l : Int)))), some (.int (iI i)), some (.int (iI ((bp n f (t + 1) : Int)))), some (.int (iI ((E2 : Int)))), y12, y13]) (st' := [.int (iI ((t : Int))), .ref b]) rfl rfl ?_
      refine go_a (pc' := 59) (ls' := [some (.ref (c + 31)), some (.ref a), some (.ref b), some (.int (iI x)), some (.ref q), some (.int (iI ((K : Int)))), some (.ref y), some (.int (iI ((t : Int)))), some (.int (iI ((l : Int)))), some (.int (iI i)), some (.int (iI ((bp n f (t + 1) : Int)))), some (.int (iI ((E2 : Int)))), y12, y13]) (st' := [.int (iI 1), .int (iI ((t : Int))), .ref b]) rfl rfl ?_
      refine mi_add rfl ?_
      rw [show (t : Int) + 1 = ((t + 1 : Nat) : Int) by omega]
      refine go_v (m := 274) (as := [.ref b, .int (iI (((t + 1 : Nat) : Int)))]) (r := []) rfl rfl rfl Lb.1 rfl rfl (kb_part z (d + 1) c b n u (t + 1) f hp s hK hB hF (by omega) a1) (fun v h3 hq => ?_)
      obtain ⟨rfl, K3, X3, T3⟩ := hq
      rw [p1] at X3 T3
      have sl9 : rl ((bp n f (t + 1) : Int) - ((t + 1 : Nat) : Int)) (fun k => f (k + ((t + 1 : Nat) : Int))) = slr n f (t + 1) := rl_part (by omega) p3
      show xx_go (xt_P z) (d + 5) 290 63 [some (.ref (c + 31)), some (.ref a), some (.ref b), some (.int (iI x)), some (.ref q), some (.int (iI ((K : Int)))), some (.ref y), some (.int (iI ((t : Int)))), some (.int (iI ((l : Int)))), some (.int (iI i)), some (.int (iI ((bp n f (t + 1) : Int)))), some (.int (iI ((E2 : Int)))), y12, y13] [.ref hp.length] h3 _
      refine go_a (pc' := 65) (ls' := [some (.ref (c + 31)), some (.ref a), some (.ref b), some (.int (iI x)), some (.ref q), some (.int (iI ((K : Int)))), some (.ref y), some (.int (iI ((t : Int)))), some (.int (iI ((l : Int)))), some (.int (iI i)), some (.int (iI ((bp n f (t + 1) : Int)))), some (.int (iI ((E2 : Int)))), some (.ref hp.length), y13]) (st' := []) rfl rfl ?_
      refine go_a (pc' := 67) (ls' := [some (.ref (c + 31)), some (.ref a), some (.ref b), some (.int (iI x)), some (.ref q), some (.int (iI ((K : Int)))), some (.ref y), some (.int (iI ((t : Int)))), some (.int (iI ((l : Int)))), some (.int (iI i)), some (.int (iI ((bp n f (t + 1) : Int)))), some (.int (iI ((E2 : Int)))), some (.ref hp.length), y13]) (st' := [.int (iI ((l : Int)))]) rfl rfl ?_
      refine go_a (pc' := 69) (ls' := [some (.ref (c + 31)), some (.ref a), some (.ref b), some (.int (iI x)), some (.ref q), some (.int (iI ((K : Int)))), some (.ref y), some (.int (iI ((t : Int)))), some (.int (iI ((l : Int)))), some (.int (iI i)), some (.int (iI ((bp n f (t + 1) : Int)))), some (.int (iI ((E2 : Int)))), some (.ref hp.length), y13]) (st' := [.int (iI ((E2 : Int))), .int (iI ((l : Int)))]) rfl rfl ?_
      have l3 := hX.1
      refine mi_ge (t := 76) rfl rfl (by omega) (by omega) (by omega) (by omega) (fun w4 => ?_) (fun w4 => ?_)
      · refine go_a (pc' := 77) (ls' := [some (.ref (c + 31)), some (.ref a), some (.ref b), some (.int (iI x)), some (.ref q), some (.int (iI ((K : Int)))), some (.ref y), some (.int (iI ((t : Int)))), some (.int (iI ((l : Int)))), some (.int (iI i)), some (.int (iI ((bp n f (t + 1) : Int)))), some (.int (iI ((E2 : Int)))), some (.ref hp.length), y13]) (st' := [.int (iI 0)]) rfl rfl ?_
        refine go_a (pc' := 79) (ls' := [some (.ref (c + 31)), some (.ref a), some (.ref b), some (.int (iI x)), some (.ref q), some (.int (iI ((K : Int)))), some (.ref y), some (.int (iI ((t : Int)))), some (.int (iI ((l : Int)))), some (.int (iI i)), some (.int (iI ((bp n f (t + 1) : Int)))), some (.int (iI ((E2 : Int)))), some (.ref hp.length), some (.int (iI 0))]) (st' := []) rfl rfl ?_
        refine go_a (pc' := 81) (ls' := [some (.ref (c + 31)), some (.ref a), some (.ref b), some (.int (iI x)), some (.ref q), some (.int (iI ((K : Int)))), some (.ref y), some (.int (iI ((t : Int)))), some (.int (iI ((l : Int)))), some (.int (iI i)), some (.int (iI ((bp n f (t + 1) : Int)))), some (.int (iI ((E2 : Int)))), some (.ref hp.length), some (.int (iI 0))]) (st' := [.ref y]) rfl rfl ?_
        refine go_a (pc' := 82) (ls' := [some (.ref (c + 31)), some (.ref a), some (.ref b), some (.int (iI x)), some (.ref q), some (.int (iI ((K : Int)))), some (.ref y), some (.int (iI ((t : Int)))), some (.int (iI ((l : Int)))), some (.int (iI i)), some (.int (iI ((bp n f (t + 1) : Int)))), some (.int (iI ((E2 : Int)))), some (.ref hp.length), some (.int (iI 0))]) (st' := [.ref (c + 31), .ref y]) rfl rfl ?_
        refine go_get (v := .ref (c + 25)) rfl (K3.1 20 (by decide)) rfl rfl ?_
        refine go_a (pc' := 87) (ls' := [some (.ref (c + 31)), some (.ref a), some (.ref b), some (.int (iI x)), some (.ref q), some (.int (iI ((K : Int)))), some (.ref y), some (.int (iI ((t : Int)))), some (.int (iI ((l : Int)))), some (.int (iI i)), some (.int (iI ((bp n f (t + 1) : Int)))), some (.int (iI ((E2 : Int)))), some (.ref hp.length), some (.int (iI 0))]) (st' := [.int (iI 0), .ref (c + 25), .ref y]) rfl rfl ?_
        have cont : ∀ (h5 : xx_H) (s5 : KS) (b5 : Int) (Z5 : List (List Int)), (b5, Z5) = clO (b0, Z0) (ntO (ntO (some (slr n f (t + 1))))) → KI c h5 s5 → KB s5 → TF s0 s5 → CL c h5 s5 u y b5 Z5 → TM c h5 s5 u a G fg → TM c h5 s5 u b n f → KAL h5 q m g → kn c s5 q → kx c hp0 s0 h5 s5 (α + 6) (34 + 6 * (t : Int) + 3 * ((bp n f (t + 1) : Int) - ((t + 1 : Nat) : Int)) + 6) → xx_go (xt_P z) (d + 5) 290 110 [some (.ref (c + 31)), some (.ref a), some (.ref b), some (.int (iI x)), some (.ref q), some (.int (iI ((K : Int)))), some (.ref y), some (.int (iI ((t : Int)))), some (.int (iI ((l : Int)))), some (.int (iI i)), some (.int (iI ((bp n f (t + 1) : Int)))), some (.int (iI ((E2 : Int)))), some (.ref hp.length), some (.int (iI 0))] [] h5 (fun v h1 => INDP c hp0 s0 u G n f x E0 K fg m g v h1) := by
          intro h5 s5 b5 Z5 e5 K5 B5 F5 C5 G5 H5 A5 kq5 X5
          have ac5 : (b5, Z5) = (acc ++ [ntO (ntO (some (slr n f (t + 1))))]).foldl clO (0, []) := by
            rw [List.foldl_append, ← hac]
            exact e5
          refine go_a (pc' := 112) (ls' := [some (.ref (c + 31)), some (.ref a), some (.ref b), some (.int (iI x)), some (.ref q), some (.int (iI ((K : Int)))), some (.ref y), some (.int (iI ((t : Int)))), some (.int (iI ((l : Int)))), some (.int (iI i)), some (.int (iI ((bp n f (t + 1) : Int)))), some (.int (iI ((E2 : Int)))), some (.ref hp.length), some (.int (iI 0))]) (st' := [.int (iI 0)]) rfl rfl ?_
          refine mi_eq0 (t := 120) rfl rfl (by omega) (by omega) (fun _ => ?_) (fun q => absurd rfl q)
          obtain ⟨qb5, Lb5, -, -⟩ := TMq H5
          refine go_a (pc' := 121) (ls' := [some (.ref (c + 31)), some (.ref a), some (.ref b), some (.int (iI x)), some (.ref q), some (.int (iI ((K : Int)))), some (.ref y), some (.int (iI ((t : Int)))), some (.int (iI ((l : Int)))), some (.int (iI i)), some (.int (iI ((bp n f (t + 1) : Int)))), some (.int (iI ((E2 : Int)))), some (.ref hp.length), some (.int (iI 0))]) (st' := [.ref b]) rfl rfl ?_
          refine go_a (pc' := 123) (ls' := [some (.ref (c + 31)), some (.ref a), some (.ref b), some (.int (iI x)), some (.ref q), some (.int (iI ((K : Int)))), some (.ref y), some (.int (iI ((t : Int)))), some (.int (iI ((l : Int)))), some (.int (iI i)), some (.int (iI ((bp n f (t + 1) : Int)))), some (.int (iI ((E2 : Int)))), some (.ref hp.length), some (.int (iI 0))]) (st' := [.int (iI ((bp n f (t + 1) : Int))), .ref b]) rfl rfl ?_
          refine go_v (m := 231) (as := [.ref b, .int (iI ((bp n f (t + 1) : Int)))]) (r := []) rfl rfl rfl Lb5.1 rfl rfl (kg_behind z (d + 4) (bp n f (t + 1) : Int) b qb5 n f h5 Lb5 (by omega) (by omega)) (fun v h6 hq => ?_)
          obtain ⟨rfl, e9⟩ := hq
          rw [e9, c1]
          clear e9 h6
          show xx_go (xt_P z) (d + 5) 290 126 [some (.ref (c + 31)), some (.ref a), some (.ref b), some (.int (iI x)), some (.ref q), some (.int (iI ((K : Int)))), some (.ref y), some (.int (iI ((t : Int)))), some (.int (iI ((l : Int)))), some (.int (iI i)), some (.int (iI ((bp n f (t + 1) : Int)))), some (.int (iI ((E2 : Int)))), some (.ref hp.length), some (.int (iI 0))] [.int (iI ((bp n f (bp n f (t + 1)) : Int)))] h5 _
          refine go_a (pc' := 128) (ls' := [some (.ref (c + 31)), some (.ref a), some (.ref b), some (.int (iI x)), some (.ref q), some (.int (iI ((K : Int)))), some (.ref y), some (.int (iI ((bp n f (bp n f (t + 1)) : Int)))), some (.int (iI ((l : Int)))), some (.int (iI i)), some (.int (iI ((bp n f (t + 1) : Int)))), some (.int (iI ((E2 : Int)))), some (.ref hp.length), some (.int (iI 0))]) (st' := []) rfl rfl ?_
          refine go_a (pc' := 130) (ls' := [some (.ref (c + 31)), some (.ref a), some (.ref b), some (.int (iI x)), some (.ref q), some (.int (iI ((K : Int)))), some (.ref y), some (.int (iI ((bp n f (bp n f (t + 1)) : Int)))), some (.int (iI ((l : Int)))), some (.int (iI i)), some (.int (iI ((bp n f (t + 1) : Int)))), some (.int (iI ((E2 : Int)))), some (.ref hp.length), some (.int (iI 0))]) (st' := [.int (iI ((l : Int)))]) rfl rfl ?_
          refine go_a (pc' := 132) (ls' := [some (.ref (c + 31)), some (.ref a), some (.ref b), some (.int (iI x)), some (.ref q), some (.int (iI ((K : Int)))), some (.ref y), some (.int (iI ((bp n f (bp n f (t + 1)) : Int)))), some (.int (iI ((l : Int)))), some (.int (iI i)), some (.int (iI ((bp n f (t + 1) : Int)))), some (.int (iI ((E2 : Int)))), some (.ref hp.length), some (.int (iI 0))]) (st' := [.int (iI 0), .int (iI ((l : Int)))]) rfl rfl ?_
          refine mi_eq0 (t := 139) rfl rfl (by omega) (by omega) (fun _ => ?_) (fun q => absurd rfl q)
          refine go_a (pc' := 141) (ls' := [some (.ref (c + 31)), some (.ref a), some (.ref b), some (.int (iI x)), some (.ref q), some (.int (iI ((K : Int)))), some (.ref y), some (.int (iI ((bp n f (bp n f (t + 1)) : Int)))), some (.int (iI ((l : Int)))), some (.int (iI i)), some (.int (iI ((bp n f (t + 1) : Int)))), some (.int (iI ((E2 : Int)))), some (.ref hp.length), some (.int (iI 0))]) (st' := [.int (iI ((E2 : Int))), .int (iI ((l : Int)))]) rfl rfl ?_
          refine mi_sub rfl ?_
          refine go_a (pc' := 144) (ls' := [some (.ref (c + 31)), some (.ref a), some (.ref b), some (.int (iI x)), some (.ref q), some (.int (iI ((K : Int)))), some (.ref y), some (.int (iI ((bp n f (bp n f (t + 1)) : Int)))), some (.int (iI (((l : Int)) - ((E2 : Int))))), some (.int (iI i)), some (.int (iI ((bp n f (t + 1) : Int)))), some (.int (iI ((E2 : Int)))), some (.ref hp.length), some (.int (iI 0))]) (st' := []) rfl rfl ?_
          refine go_a (pc' := 147) (ls' := [some (.ref (c + 31)), some (.ref a), some (.ref b), some (.int (iI x)), some (.ref q), some (.int (iI ((K : Int)))), some (.ref y), some (.int (iI ((bp n f (bp n f (t + 1)) : Int)))), some (.int (iI (((l : Int)) - ((E2 : Int))))), some (.int (iI (i + 1))), some (.int (iI ((bp n f (t + 1) : Int)))), some (.int (iI ((E2 : Int)))), some (.ref hp.length), some (.int (iI 0))]) (st' := []) rfl (by rw [← iI_add i 1]; rfl) ?_
          refine go_a (pc' := 19) (ls' := [some (.ref (c + 31)), some (.ref a), some (.ref b), some (.int (iI x)), some (.ref q), some (.int (iI ((K : Int)))), some (.ref y), some (.int (iI ((bp n f (bp n f (t + 1)) : Int)))), some (.int (iI (((l : Int)) - ((E2 : Int))))), some (.int (iI (i + 1))), some (.int (iI ((bp n f (t + 1) : Int)))), some (.int (iI ((E2 : Int)))), some (.ref hp.length), some (.int (iI 0))]) (st' := []) rfl rfl ?_
          rw [show (l : Int) - (E2 : Int) = ((l - E2 : Nat) : Int) by omega]
          refine ih (bp n f (bp n f (t + 1))) (l - E2) (E - E2) (i + 1) b5 (α + 6) Z5 _ _ _ _ _ h5 s5 (by omega) a3 (by omega) (by omega) (by omega) ?_ ?_ (by omega) K5 B5 F5 C5 G5 H5 A5 kq5 (kx_w X5 (by omega) (by omega)) (by rw [a4]; omega) (by omega) ac5 (fun its T q => by rw [List.append_assoc]; exact hPT _ T (PTH_t tn w3 hE3 (by omega) q))
          · rw [show K - (l - E2) = (K - l) + E2 by omega]
            exact SCN_tr hS2 hE3
          · rw [a4]
            exact sb.2
        have nul : ∀ (h5 : xx_H) (s3 : KS), ntO (ntO (some (slr n f (t + 1)))) = none → KI c h5 s3 → KB s3 → TF s0 s3 → kx c hp s h5 s3 6 (3 * ((bp n f (t + 1) : Int) - ((t + 1 : Nat) : Int)) + 6) → xx_go (xt_P z) (d + 5) 290 107 [some (.ref (c + 31)), some (.ref a), some (.ref b), some (.int (iI x)), some (.ref q), some (.int (iI ((K : Int)))), some (.ref y), some (.int (iI ((t : Int)))), some (.int (iI ((l : Int)))), some (.int (iI i)), some (.int (iI ((bp n f (t + 1) : Int)))), some (.int (iI ((E2 : Int)))), some (.ref hp.length), some (.int (iI 0))] [.null, .ref y] h5 (fun v h1 => INDP c hp0 s0 u G n f x E0 K fg m g v h1) := by
          intro h5 s3 hi9 K5 B5 F5 X5
          have C5 := CL_kx hC X5
          obtain ⟨mx, wx, cx⟩ := CL_cell C5
          refine go_v (m := 261) (as := [.ref y, .null]) (r := []) rfl rfl rfl cx rfl rfl (kh_addN z (d + 2) c h5 s3 u y b0 Z0 C5) (fun v h6 hq => ?_)
          obtain ⟨rfl, F6, C6⟩ := hq
          show xx_go (xt_P z) (d + 5) 290 110 [some (.ref (c + 31)), some (.ref a), some (.ref b), some (.int (iI x)), some (.ref q), some (.int (iI ((K : Int)))), some (.ref y), some (.int (iI ((t : Int)))), some (.int (iI ((l : Int)))), some (.int (iI i)), some (.int (iI ((bp n f (t + 1) : Int)))), some (.int (iI ((E2 : Int)))), some (.ref hp.length), some (.int (iI 0))] [] h6 _
          obtain ⟨A5, kq5⟩ := KAL_kx hA kq X5
          obtain ⟨_, _, _, _, _, gc, -⟩ := id C5
          have A6 : KAL h6 q m g := ⟨(F6.2.2 q (fun e => by have := A5.1; rw [e, gc.1] at this; simp [CLo] at this) (fun e => by have := A5.1; rw [e, gc.2.1] at this; simp at this)).trans A5.1, A5.2⟩
          exact cont h6 s3 1 Z0 (by rw [hi9]; rfl) (CL_KI C5 F6 K5) B5 F5 C6 (TM_fe C5 F6 (TM_kx hG X5)) (TM_fe C5 F6 (TM_kx hF X5)) A6 kq5 (KFE_kx (kx_w (kx_tr hX X5) (by omega) (by omega)) hy F6)
        have ref : ∀ (h5 : xx_H) (s3 : KS) (a5 : Nat) (n5 : Int) (f5 : Int → Int), TM c h5 s3 u a5 n5 f5 → ntO (ntO (some (slr n f (t + 1)))) = some (rl n5 f5) → KI c h5 s3 → KB s3 → TF s0 s3 → kx c hp s h5 s3 6 (3 * ((bp n f (t + 1) : Int) - ((t + 1 : Nat) : Int)) + 6) → xx_go (xt_P z) (d + 5) 290 107 [some (.ref (c + 31)), some (.ref a), some (.ref b), some (.int (iI x)), some (.ref q), some (.int (iI ((K : Int)))), some (.ref y), some (.int (iI ((t : Int)))), some (.int (iI ((l : Int)))), some (.int (iI i)), some (.int (iI ((bp n f (t + 1) : Int)))), some (.int (iI ((E2 : Int)))), some (.ref hp.length), some (.int (iI 0))] [.ref a5, .ref y] h5 (fun v h1 => INDP c hp0 s0 u G n f x E0 K fg m g v h1) := by
          intro h5 s3 a5 n5 f5 T5 hi9 K5 B5 F5 X5
          have C5 := CL_kx hC X5
          obtain ⟨mx, wx, cx⟩ := CL_cell C5
          refine go_v (m := 261) (as := [.ref y, .ref a5]) (r := []) rfl rfl rfl cx rfl rfl (kh_addC z (d + 2) c h5 s3 u y b0 Z0 C5 a5 n5 f5 T5) (fun v h6 hq => ?_)
          obtain ⟨rfl, F6, b6, Z6, e6, C6⟩ := hq
          show xx_go (xt_P z) (d + 5) 290 110 [some (.ref (c + 31)), some (.ref a), some (.ref b), some (.int (iI x)), some (.ref q), some (.int (iI ((K : Int)))), some (.ref y), some (.int (iI ((t : Int)))), some (.int (iI ((l : Int)))), some (.int (iI i)), some (.int (iI ((bp n f (t + 1) : Int)))), some (.int (iI ((E2 : Int)))), some (.ref hp.length), some (.int (iI 0))] [] h6 _
          obtain ⟨A5, kq5⟩ := KAL_kx hA kq X5
          obtain ⟨_, _, _, _, _, gc, -⟩ := id C5
          have A6 : KAL h6 q m g := ⟨(F6.2.2 q (fun e => by have := A5.1; rw [e, gc.1] at this; simp [CLo] at this) (fun e => by have := A5.1; rw [e, gc.2.1] at this; simp at this)).trans A5.1, A5.2⟩
          exact cont h6 s3 b6 Z6 (by rw [hi9]; exact e6) (CL_KI C5 F6 K5) B5 F5 C6 (TM_fe C5 F6 (TM_kx hG X5)) (TM_fe C5 F6 (TM_kx hF X5)) A6 kq5 (KFE_kx (kx_w (kx_tr hX X5) (by omega) (by omega)) hy F6)
        refine mi_eq0 (t := 95) rfl rfl (by omega) (by omega) (fun _ => ?_) (fun q => absurd rfl q)
        refine go_a (pc' := 96) (ls' := [some (.ref (c + 31)), some (.ref a), some (.ref b), some (.int (iI x)), some (.ref q), some (.int (iI ((K : Int)))), some (.ref y), some (.int (iI ((t : Int)))), some (.int (iI ((l : Int)))), some (.int (iI i)), some (.int (iI ((bp n f (t + 1) : Int)))), some (.int (iI ((E2 : Int)))), some (.ref hp.length), some (.int (iI 0))]) (st' := [.ref (c + 31), .ref (c + 25), .ref y]) rfl rfl ?_
        refine go_get (v := .ref (c + 25)) rfl (K3.1 20 (by decide)) rfl rfl ?_
        refine go_a (pc' := 101) (ls' := [some (.ref (c + 31)), some (.ref a), some (.ref b), some (.int (iI x)), some (.ref q), some (.int (iI ((K : Int)))), some (.ref y), some (.int (iI ((t : Int)))), some (.int (iI ((l : Int)))), some (.int (iI i)), some (.int (iI ((bp n f (t + 1) : Int)))), some (.int (iI ((E2 : Int)))), some (.ref hp.length), some (.int (iI 0))]) (st' := [.ref hp.length, .ref (c + 25), .ref (c + 25), .ref y]) rfl rfl ?_
        refine go_v (m := 273) (as := [.ref (c + 25), .ref hp.length]) (r := [.ref (c + 25), .ref y]) rfl rfl rfl (K3.1 16 (by decide)) rfl rfl (kg_not z d c u h3 s K3 hB u17 hp.length ((bp n f (t + 1) : Int) - ((t + 1 : Nat) : Int)) _ T3) (fun v h4 hq => ?_)
        obtain ⟨N4, N41, s4, K4, B4, F4, hq⟩ := hq
        have X34 : ∀ {α β : Int}, kx c h3 s h4 s4 α β → kx c hp s h4 s4 (2 + α) ((bp n f (t + 1) : Int) - ((t + 1 : Nat) : Int) + 1 + β) := fun X => kx_tr X3 X
        rw [sl9] at hq
        rcases hq with ⟨rfl, -, X4, nl4⟩ | ⟨a4_, f4, rfl, N42, l4, X4, T4, rw4⟩
        · show xx_go (xt_P z) (d + 5) 290 104 [some (.ref (c + 31)), some (.ref a), some (.ref b), some (.int (iI x)), some (.ref q), some (.int (iI ((K : Int)))), some (.ref y), some (.int (iI ((t : Int)))), some (.int (iI ((l : Int)))), some (.int (iI i)), some (.int (iI ((bp n f (t + 1) : Int)))), some (.int (iI ((E2 : Int)))), some (.ref hp.length), some (.int (iI 0))] [.null, .ref (c + 25), .ref y] h4 _
          refine go_v (m := 273) (as := [.ref (c + 25), .null]) (r := [.ref y]) rfl rfl rfl (K4.1 16 (by decide)) rfl rfl (kg_notn z (d + 4) c h4) (fun v h5 hq => ?_)
          obtain ⟨rfl, e9⟩ := hq
          rw [e9]
          clear e9 h5
          show xx_go (xt_P z) (d + 5) 290 107 [some (.ref (c + 31)), some (.ref a), some (.ref b), some (.int (iI x)), some (.ref q), some (.int (iI ((K : Int)))), some (.ref y), some (.int (iI ((t : Int)))), some (.int (iI ((l : Int)))), some (.int (iI i)), some (.int (iI ((bp n f (t + 1) : Int)))), some (.int (iI ((E2 : Int)))), some (.ref hp.length), some (.int (iI 0))] [.null, .ref y] h4 _
          exact nul h4 s4 (by show ntO (opR (notR (slr n f (t + 1)))) = none; rw [opR_n nl4]; rfl) K4 B4 (TF_tr hT F4) (kx_w (X34 X4) (by omega) (by omega))
        · show xx_go (xt_P z) (d + 5) 290 104 [some (.ref (c + 31)), some (.ref a), some (.ref b), some (.int (iI x)), some (.ref q), some (.int (iI ((K : Int)))), some (.ref y), some (.int (iI ((t : Int)))), some (.int (iI ((l : Int)))), some (.int (iI i)), some (.int (iI ((bp n f (t + 1) : Int)))), some (.int (iI ((E2 : Int)))), some (.ref hp.length), some (.int (iI 0))] [.ref a4_, .ref (c + 25), .ref y] h4 _
          refine go_v (m := 273) (as := [.ref (c + 25), .ref a4_]) (r := [.ref y]) rfl rfl rfl (K4.1 16 (by decide)) rfl rfl (kg_not z d c u h4 s4 K4 B4 u17 a4_ N4 f4 T4) (fun v h5 hq => ?_)
          obtain ⟨N5, N51, s5, K5, B5, F5, hq⟩ := hq
          have X4_ := X34 X4
          have it9 : ntO (ntO (some (slr n f (t + 1)))) = opR (notR (rl N4 f4)) := by
            show ntO (opR (notR (slr n f (t + 1)))) = _
            rw [opR_s rw4 N42]
            rfl
          rcases hq with ⟨rfl, -, X5, nl5⟩ | ⟨a5, f5, rfl, N52, l5, X5, T5, rw5⟩
          · show xx_go (xt_P z) (d + 5) 290 107 [some (.ref (c + 31)), some (.ref a), some (.ref b), some (.int (iI x)), some (.ref q), some (.int (iI ((K : Int)))), some (.ref y), some (.int (iI ((t : Int)))), some (.int (iI ((l : Int)))), some (.int (iI i)), some (.int (iI ((bp n f (t + 1) : Int)))), some (.int (iI ((E2 : Int)))), some (.ref hp.length), some (.int (iI 0))] [.null, .ref y] h5 _
            exact nul h5 s5 (by rw [it9, opR_n nl5]) K5 B5 (TF_tr hT (TF_tr F4 F5)) (kx_w (kx_tr X4_ X5) (by omega) (by omega))
          · show xx_go (xt_P z) (d + 5) 290 107 [some (.ref (c + 31)), some (.ref a), some (.ref b), some (.int (iI x)), some (.ref q), some (.int (iI ((K : Int)))), some (.ref y), some (.int (iI ((t : Int)))), some (.int (iI ((l : Int)))), some (.int (iI i)), some (.int (iI ((bp n f (t + 1) : Int)))), some (.int (iI ((E2 : Int)))), some (.ref hp.length), some (.int (iI 0))] [.ref a5, .ref y] h5 _
            exact ref h5 s5 a5 N5 f5 T5 (by rw [it9, opR_s rw5 N52]) K5 B5 (TF_tr hT (TF_tr F4 F5)) (kx_w (kx_tr X4_ X5) (by omega) (by omega))
      · refine go_a (pc' := 73) (ls' := [some (.ref (c + 31)), some (.ref a), some (.ref b), some (.int (iI x)), some (.ref q), some (.int (iI ((K : Int)))), some (.ref y), some (.int (iI ((t : Int)))), some (.int (iI ((l : Int)))), some (.int (iI i)), some (.int (iI ((bp n f (t + 1) : Int)))), some (.int (iI ((E2 : Int)))), some (.ref hp.length), y13]) (st' := [.int (iI 1)]) rfl rfl ?_
        refine go_a (pc' := 77) (ls' := [some (.ref (c + 31)), some (.ref a), some (.ref b), some (.int (iI x)), some (.ref q), some (.int (iI ((K : Int)))), some (.ref y), some (.int (iI ((t : Int)))), some (.int (iI ((l : Int)))), some (.int (iI i)), some (.int (iI ((bp n f (t + 1) : Int)))), some (.int (iI ((E2 : Int)))), some (.ref hp.length), y13]) (st' := [.int (iI 1)]) rfl rfl ?_
        refine go_a (pc' := 79) (ls' := [some (.ref (c + 31)), some (.ref a), some (.ref b), some (.int (iI x)), some (.ref q), some (.int (iI ((K : Int)))), some (.ref y), some (.int (iI ((t : Int)))), some (.int (iI ((l : Int)))), some (.int (iI i)), some (.int (iI ((bp n f (t + 1) : Int)))), some (.int (iI ((E2 : Int)))), some (.ref hp.length), some (.int (iI 1))]) (st' := []) rfl rfl ?_
        refine go_a (pc' := 81) (ls' := [some (.ref (c + 31)), some (.ref a), some (.ref b), some (.int (iI x)), some (.ref q), some (.int (iI ((K : Int)))), some (.ref y), some (.int (iI ((t : Int)))), some (.int (iI ((l : Int)))), some (.int (iI i)), some (.int (iI ((bp n f (t + 1) : Int)))), some (.int (iI ((E2 : Int)))), some (.ref hp.length), some (.int (iI 1))]) (st' := [.ref y]) rfl rfl ?_
        refine go_a (pc' := 82) (ls' := [some (.ref (c + 31)), some (.ref a), some (.ref b), some (.int (iI x)), some (.ref q), some (.int (iI ((K : Int)))), some (.ref y), some (.int (iI ((t : Int)))), some (.int (iI ((l : Int)))), some (.int (iI i)), some (.int (iI ((bp n f (t + 1) : Int)))), some (.int (iI ((E2 : Int)))), some (.ref hp.length), some (.int (iI 1))]) (st' := [.ref (c + 31), .ref y]) rfl rfl ?_
        refine go_get (v := .ref (c + 25)) rfl (K3.1 20 (by decide)) rfl rfl ?_
        refine go_a (pc' := 87) (ls' := [some (.ref (c + 31)), some (.ref a), some (.ref b), some (.int (iI x)), some (.ref q), some (.int (iI ((K : Int)))), some (.ref y), some (.int (iI ((t : Int)))), some (.int (iI ((l : Int)))), some (.int (iI i)), some (.int (iI ((bp n f (t + 1) : Int)))), some (.int (iI ((E2 : Int)))), some (.ref hp.length), some (.int (iI 1))]) (st' := [.int (iI 1), .ref (c + 25), .ref y]) rfl rfl ?_
        have cont : ∀ (h5 : xx_H) (s5 : KS) (b5 : Int) (Z5 : List (List Int)), (b5, Z5) = clO (b0, Z0) (ntO (some (slr n f (t + 1)))) → KI c h5 s5 → KB s5 → TF s0 s5 → CL c h5 s5 u y b5 Z5 → TM c h5 s5 u a G fg → TM c h5 s5 u b n f → KAL h5 q m g → kn c s5 q → kx c hp0 s0 h5 s5 (α + 6) (34 + 6 * (t : Int) + 3 * ((bp n f (t + 1) : Int) - ((t + 1 : Nat) : Int)) + 6) → xx_go (xt_P z) (d + 5) 290 110 [some (.ref (c + 31)), some (.ref a), some (.ref b), some (.int (iI x)), some (.ref q), some (.int (iI ((K : Int)))), some (.ref y), some (.int (iI ((t : Int)))), some (.int (iI ((l : Int)))), some (.int (iI i)), some (.int (iI ((bp n f (t + 1) : Int)))), some (.int (iI ((E2 : Int)))), some (.ref hp.length), some (.int (iI 1))] [] h5 (fun v h1 => INDP c hp0 s0 u G n f x E0 K fg m g v h1) := by
          intro h5 s5 b5 Z5 e5 K5 B5 F5 C5 G5 H5 A5 kq5 X5
          have ac5 : (b5, Z5) = (acc ++ [ntO (some (slr n f (t + 1)))]).foldl clO (0, []) := by
            rw [List.foldl_append, ← hac]
            exact e5
          refine go_a (pc' := 112) (ls' := [some (.ref (c + 31)), some (.ref a), some (.ref b), some (.int (iI x)), some (.ref q), some (.int (iI ((K : Int)))), some (.ref y), some (.int (iI ((t : Int)))), some (.int (iI ((l : Int)))), some (.int (iI i)), some (.int (iI ((bp n f (t + 1) : Int)))), some (.int (iI ((E2 : Int)))), some (.ref hp.length), some (.int (iI 1))]) (st' := [.int (iI 1)]) rfl rfl ?_
          refine mi_eq0 (t := 120) rfl rfl (by omega) (by omega) (fun q => absurd q (by decide)) (fun _ => ?_)
          refine go_a (pc' := 117) (ls' := [some (.ref (c + 31)), some (.ref a), some (.ref b), some (.int (iI x)), some (.ref q), some (.int (iI ((K : Int)))), some (.ref y), some (.int (iI ((t : Int)))), some (.int (iI ((l : Int)))), some (.int (iI i)), some (.int (iI ((bp n f (t + 1) : Int)))), some (.int (iI ((E2 : Int)))), some (.ref hp.length), some (.int (iI 1))]) (st' := [.int (iI ((bp n f (t + 1) : Int)))]) rfl rfl ?_
          refine go_a (pc' := 126) (ls' := [some (.ref (c + 31)), some (.ref a), some (.ref b), some (.int (iI x)), some (.ref q), some (.int (iI ((K : Int)))), some (.ref y), some (.int (iI ((t : Int)))), some (.int (iI ((l : Int)))), some (.int (iI i)), some (.int (iI ((bp n f (t + 1) : Int)))), some (.int (iI ((E2 : Int)))), some (.ref hp.length), some (.int (iI 1))]) (st' := [.int (iI ((bp n f (t + 1) : Int)))]) rfl rfl ?_
          refine go_a (pc' := 128) (ls' := [some (.ref (c + 31)), some (.ref a), some (.ref b), some (.int (iI x)), some (.ref q), some (.int (iI ((K : Int)))), some (.ref y), some (.int (iI ((bp n f (t + 1) : Int)))), some (.int (iI ((l : Int)))), some (.int (iI i)), some (.int (iI ((bp n f (t + 1) : Int)))), some (.int (iI ((E2 : Int)))), some (.ref hp.length), some (.int (iI 1))]) (st' := []) rfl rfl ?_
          refine go_a (pc' := 130) (ls' := [some (.ref (c + 31)), some (.ref a), some (.ref b), some (.int (iI x)), some (.ref q), some (.int (iI ((K : Int)))), some (.ref y), some (.int (iI ((bp n f (t + 1) : Int)))), some (.int (iI ((l : Int)))), some (.int (iI i)), some (.int (iI ((bp n f (t + 1) : Int)))), some (.int (iI ((E2 : Int)))), some (.ref hp.length), some (.int (iI 1))]) (st' := [.int (iI ((l : Int)))]) rfl rfl ?_
          refine go_a (pc' := 132) (ls' := [some (.ref (c + 31)), some (.ref a), some (.ref b), some (.int (iI x)), some (.ref q), some (.int (iI ((K : Int)))), some (.ref y), some (.int (iI ((bp n f (t + 1) : Int)))), some (.int (iI ((l : Int)))), some (.int (iI i)), some (.int (iI ((bp n f (t + 1) : Int)))), some (.int (iI ((E2 : Int)))), some (.ref hp.length), some (.int (iI 1))]) (st' := [.int (iI 1), .int (iI ((l : Int)))]) rfl rfl ?_
          refine mi_eq0 (t := 139) rfl rfl (by omega) (by omega) (fun q => absurd q (by decide)) (fun _ => ?_)
          refine go_a (pc' := 136) (ls' := [some (.ref (c + 31)), some (.ref a), some (.ref b), some (.int (iI x)), some (.ref q), some (.int (iI ((K : Int)))), some (.ref y), some (.int (iI ((bp n f (t + 1) : Int)))), some (.int (iI ((l : Int)))), some (.int (iI i)), some (.int (iI ((bp n f (t + 1) : Int)))), some (.int (iI ((E2 : Int)))), some (.ref hp.length), some (.int (iI 1))]) (st' := [.int (iI 0), .int (iI ((l : Int)))]) rfl rfl ?_
          refine go_a (pc' := 141) (ls' := [some (.ref (c + 31)), some (.ref a), some (.ref b), some (.int (iI x)), some (.ref q), some (.int (iI ((K : Int)))), some (.ref y), some (.int (iI ((bp n f (t + 1) : Int)))), some (.int (iI ((l : Int)))), some (.int (iI i)), some (.int (iI ((bp n f (t + 1) : Int)))), some (.int (iI ((E2 : Int)))), some (.ref hp.length), some (.int (iI 1))]) (st' := [.int (iI 0), .int (iI ((l : Int)))]) rfl rfl ?_
          refine mi_sub rfl ?_
          refine go_a (pc' := 144) (ls' := [some (.ref (c + 31)), some (.ref a), some (.ref b), some (.int (iI x)), some (.ref q), some (.int (iI ((K : Int)))), some (.ref y), some (.int (iI ((bp n f (t + 1) : Int)))), some (.int (iI (((l : Int)) - 0))), some (.int (iI i)), some (.int (iI ((bp n f (t + 1) : Int)))), some (.int (iI ((E2 : Int)))), some (.ref hp.length), some (.int (iI 1))]) (st' := []) rfl rfl ?_
          refine go_a (pc' := 147) (ls' := [some (.ref (c + 31)), some (.ref a), some (.ref b), some (.int (iI x)), some (.ref q), some (.int (iI ((K : Int)))), some (.ref y), some (.int (iI ((bp n f (t + 1) : Int)))), some (.int (iI (((l : Int)) - 0))), some (.int (iI (i + 1))), some (.int (iI ((bp n f (t + 1) : Int)))), some (.int (iI ((E2 : Int)))), some (.ref hp.length), some (.int (iI 1))]) (st' := []) rfl (by rw [← iI_add i 1]; rfl) ?_
          refine go_a (pc' := 19) (ls' := [some (.ref (c + 31)), some (.ref a), some (.ref b), some (.int (iI x)), some (.ref q), some (.int (iI ((K : Int)))), some (.ref y), some (.int (iI ((bp n f (t + 1) : Int)))), some (.int (iI (((l : Int)) - 0))), some (.int (iI (i + 1))), some (.int (iI ((bp n f (t + 1) : Int)))), some (.int (iI ((E2 : Int)))), some (.ref hp.length), some (.int (iI 1))]) (st' := []) rfl rfl ?_
          rw [show (l : Int) - 0 = (l : Int) by omega]
          exact ih (bp n f (t + 1)) l E2 (i + 1) b5 (α + 6) Z5 _ _ _ _ _ h5 s5 (by omega) a2 (by omega) (by omega) lK hS2 hE3 (by omega) K5 B5 F5 C5 G5 H5 A5 kq5 (kx_w X5 (by omega) (by omega)) (by omega) (by omega) ac5 (fun its T q => by rw [List.append_assoc]; exact hPT _ T (PTH_s tn w3 hE3 (by omega) q))
        have nul : ∀ (h5 : xx_H) (s3 : KS), ntO (some (slr n f (t + 1))) = none → KI c h5 s3 → KB s3 → TF s0 s3 → kx c hp s h5 s3 6 (3 * ((bp n f (t + 1) : Int) - ((t + 1 : Nat) : Int)) + 6) → xx_go (xt_P z) (d + 5) 290 107 [some (.ref (c + 31)), some (.ref a), some (.ref b), some (.int (iI x)), some (.ref q), some (.int (iI ((K : Int)))), some (.ref y), some (.int (iI ((t : Int)))), some (.int (iI ((l : Int)))), some (.int (iI i)), some (.int (iI ((bp n f (t + 1) : Int)))), some (.int (iI ((E2 : Int)))), some (.ref hp.length), some (.int (iI 1))] [.null, .ref y] h5 (fun v h1 => INDP c hp0 s0 u G n f x E0 K fg m g v h1) := by
          intro h5 s3 hi9 K5 B5 F5 X5
          have C5 := CL_kx hC X5
          obtain ⟨mx, wx, cx⟩ := CL_cell C5
          refine go_v (m := 261) (as := [.ref y, .null]) (r := []) rfl rfl rfl cx rfl rfl (kh_addN z (d + 2) c h5 s3 u y b0 Z0 C5) (fun v h6 hq => ?_)
          obtain ⟨rfl, F6, C6⟩ := hq
          show xx_go (xt_P z) (d + 5) 290 110 [some (.ref (c + 31)), some (.ref a), some (.ref b), some (.int (iI x)), some (.ref q), some (.int (iI ((K : Int)))), some (.ref y), some (.int (iI ((t : Int)))), some (.int (iI ((l : Int)))), some (.int (iI i)), some (.int (iI ((bp n f (t + 1) : Int)))), some (.int (iI ((E2 : Int)))), some (.ref hp.length), some (.int (iI 1))] [] h6 _
          obtain ⟨A5, kq5⟩ := KAL_kx hA kq X5
          obtain ⟨_, _, _, _, _, gc, -⟩ := id C5
          have A6 : KAL h6 q m g := ⟨(F6.2.2 q (fun e => by have := A5.1; rw [e, gc.1] at this; simp [CLo] at this) (fun e => by have := A5.1; rw [e, gc.2.1] at this; simp at this)).trans A5.1, A5.2⟩
          exact cont h6 s3 1 Z0 (by rw [hi9]; rfl) (CL_KI C5 F6 K5) B5 F5 C6 (TM_fe C5 F6 (TM_kx hG X5)) (TM_fe C5 F6 (TM_kx hF X5)) A6 kq5 (KFE_kx (kx_w (kx_tr hX X5) (by omega) (by omega)) hy F6)
        have ref : ∀ (h5 : xx_H) (s3 : KS) (a5 : Nat) (n5 : Int) (f5 : Int → Int), TM c h5 s3 u a5 n5 f5 → ntO (some (slr n f (t + 1))) = some (rl n5 f5) → KI c h5 s3 → KB s3 → TF s0 s3 → kx c hp s h5 s3 6 (3 * ((bp n f (t + 1) : Int) - ((t + 1 : Nat) : Int)) + 6) → xx_go (xt_P z) (d + 5) 290 107 [some (.ref (c + 31)), some (.ref a), some (.ref b), some (.int (iI x)), some (.ref q), some (.int (iI ((K : Int)))), some (.ref y), some (.int (iI ((t : Int)))), some (.int (iI ((l : Int)))), some (.int (iI i)), some (.int (iI ((bp n f (t + 1) : Int)))), some (.int (iI ((E2 : Int)))), some (.ref hp.length), some (.int (iI 1))] [.ref a5, .ref y] h5 (fun v h1 => INDP c hp0 s0 u G n f x E0 K fg m g v h1) := by
          intro h5 s3 a5 n5 f5 T5 hi9 K5 B5 F5 X5
          have C5 := CL_kx hC X5
          obtain ⟨mx, wx, cx⟩ := CL_cell C5
          refine go_v (m := 261) (as := [.ref y, .ref a5]) (r := []) rfl rfl rfl cx rfl rfl (kh_addC z (d + 2) c h5 s3 u y b0 Z0 C5 a5 n5 f5 T5) (fun v h6 hq => ?_)
          obtain ⟨rfl, F6, b6, Z6, e6, C6⟩ := hq
          show xx_go (xt_P z) (d + 5) 290 110 [some (.ref (c + 31)), some (.ref a), some (.ref b), some (.int (iI x)), some (.ref q), some (.int (iI ((K : Int)))), some (.ref y), some (.int (iI ((t : Int)))), some (.int (iI ((l : Int)))), some (.int (iI i)), some (.int (iI ((bp n f (t + 1) : Int)))), some (.int (iI ((E2 : Int)))), some (.ref hp.length), some (.int (iI 1))] [] h6 _
          obtain ⟨A5, kq5⟩ := KAL_kx hA kq X5
          obtain ⟨_, _, _, _, _, gc, -⟩ := id C5
          have A6 : KAL h6 q m g := ⟨(F6.2.2 q (fun e => by have := A5.1; rw [e, gc.1] at this; simp [CLo] at this) (fun e => by have := A5.1; rw [e, gc.2.1] at this; simp at this)).trans A5.1, A5.2⟩
          exact cont h6 s3 b6 Z6 (by rw [hi9]; exact e6) (CL_KI C5 F6 K5) B5 F5 C6 (TM_fe C5 F6 (TM_kx hG X5)) (TM_fe C5 F6 (TM_kx hF X5)) A6 kq5 (KFE_kx (kx_w (kx_tr hX X5) (by omega) (by omega)) hy F6)
        refine mi_eq0 (t := 95) rfl rfl (by omega) (by omega) (fun q => absurd q (by decide)) (fun _ => ?_)
        refine go_a (pc' := 92) (ls' := [some (.ref (c + 31)), some (.ref a), some (.ref b), some (.int (iI x)), some (.ref q), some (.int (iI ((K : Int)))), some (.ref y), some (.int (iI ((t : Int)))), some (.int (iI ((l : Int)))), some (.int (iI i)), some (.int (iI ((bp n f (t + 1) : Int)))), some (.int (iI ((E2 : Int)))), some (.ref hp.length), some (.int (iI 1))]) (st' := [.ref hp.length, .ref (c + 25), .ref y]) rfl rfl ?_
        refine go_a (pc' := 104) (ls' := [some (.ref (c + 31)), some (.ref a), some (.ref b), some (.int (iI x)), some (.ref q), some (.int (iI ((K : Int)))), some (.ref y), some (.int (iI ((t : Int)))), some (.int (iI ((l : Int)))), some (.int (iI i)), some (.int (iI ((bp n f (t + 1) : Int)))), some (.int (iI ((E2 : Int)))), some (.ref hp.length), some (.int (iI 1))]) (st' := [.ref hp.length, .ref (c + 25), .ref y]) rfl rfl ?_
        refine go_v (m := 273) (as := [.ref (c + 25), .ref hp.length]) (r := [.ref y]) rfl rfl rfl (K3.1 16 (by decide)) rfl rfl (kg_not z d c u h3 s K3 hB u17 hp.length ((bp n f (t + 1) : Int) - ((t + 1 : Nat) : Int)) _ T3) (fun v h4 hq => ?_)
        obtain ⟨N4, N41, s4, K4, B4, F4, hq⟩ := hq
        rw [sl9] at hq
        rcases hq with ⟨rfl, -, X4, nl4⟩ | ⟨a4_, f4, rfl, N42, l4, X4, T4, rw4⟩
        · show xx_go (xt_P z) (d + 5) 290 107 [some (.ref (c + 31)), some (.ref a), some (.ref b), some (.int (iI x)), some (.ref q), some (.int (iI ((K : Int)))), some (.ref y), some (.int (iI ((t : Int)))), some (.int (iI ((l : Int)))), some (.int (iI i)), some (.int (iI ((bp n f (t + 1) : Int)))), some (.int (iI ((E2 : Int)))), some (.ref hp.length), some (.int (iI 1))] [.null, .ref y] h4 _
          exact nul h4 s4 (opR_n nl4) K4 B4 (TF_tr hT F4) (kx_w (kx_tr X3 X4) (by omega) (by omega))
        · show xx_go (xt_P z) (d + 5) 290 107 [some (.ref (c + 31)), some (.ref a), some (.ref b), some (.int (iI x)), some (.ref q), some (.int (iI ((K : Int)))), some (.ref y), some (.int (iI ((t : Int)))), some (.int (iI ((l : Int)))), some (.int (iI i)), some (.int (iI ((bp n f (t + 1) : Int)))), some (.int (iI ((E2 : Int)))), some (.ref hp.length), some (.int (iI 1))] [.ref a4_, .ref y] h4 _
          exact ref h4 s4 a4_ N4 f4 T4 (opR_s rw4 N42) K4 B4 (TF_tr hT F4) (kx_w (kx_tr X3 X4) (by omega) (by omega))
theorem kp_induction (z : Value) (d c : Nat) (u : Int) (K E : Nat) (a : Nat) (G : Int) (fg : Int → Int) (b : Nat) (n : Int) (f : Int → Int) (x : Int) (q : Nat) (m : Int) (g : Int → Int) (hp : xx_H) (s : KS) (hK : KI c hp s) (hB : KB s) (u17 : 17 ≤ u) (hx : tk x = m) (x0 : 0 ≤ x) (x1 : x ≤ 2147483647) (hG : TM c hp s u a G fg) (hF : TM c hp s u b n f) (hA : KAL hp q m g) (kq : kn c s q) (hE : SCN n f 0 E n.toNat) (lE : K < E) (K9 : K ≤ 1000) : xx_cl (xt_P z) (d + 6) 290 [.ref (c + 31), .ref a, .ref b, .int (iI x), .ref q, .int (iI (K : Int))] hp (fun v h1 => INDP c hp s u G n f x E K fg m g v h1) := by
  have n_ := TM_n hF
  have hW := hF.2.1
  have e0 : bp n f 0 = n.toNat := bp_uq hW (by omega) (by omega) (by rw [hW.2]; rfl) (fun j j0 j1 => by have := hW.1 j (by omega); exact this)
  have l12 := (ki_12 hK).2
  refine cl_go rfl ?_
  show xx_go (xt_P z) (d + 5) 290 0 [some (.ref (c + 31)), some (.ref a), some (.ref b), some (.int (iI x)), some (.ref q), some (.int (iI ((K : Int)))), none, none, none, none, none, none, none, none] [] hp _
  refine go_new (ci := 12) (fs := [.null, .int 0, .int 0, .int 0]) rfl rfl rfl ?_
  show xx_go (xt_P z) (d + 5) 290 3 [some (.ref (c + 31)), some (.ref a), some (.ref b), some (.int (iI x)), some (.ref q), some (.int (iI ((K : Int)))), none, none, none, none, none, none, none, none] [.ref hp.length] (hp ++ [.inr (12, [.null, .int 0, .int 0, .int 0])]) _
  refine go_a (pc' := 4) (ls' := [some (.ref (c + 31)), some (.ref a), some (.ref b), some (.int (iI x)), some (.ref q), some (.int (iI ((K : Int)))), none, none, none, none, none, none, none, none]) (st' := [.ref hp.length, .ref hp.length]) rfl rfl ?_
  refine go_i (m := 257) (as := [.ref hp.length]) (r := [.ref hp.length]) rfl rfl rfl rfl rfl (kh_init z (d + 4) hp l12) (fun v h3 hq => ?_)
  obtain ⟨rfl, rfl⟩ := hq
  obtain ⟨K1, X1, C1⟩ := mkC_CL (u := u) hK
  show xx_go (xt_P z) (d + 5) 290 7 [some (.ref (c + 31)), some (.ref a), some (.ref b), some (.int (iI x)), some (.ref q), some (.int (iI ((K : Int)))), none, none, none, none, none, none, none, none] [.ref hp.length] (mkC hp) _
  obtain ⟨A1, kq1⟩ := KAL_kx hA kq X1
  refine go_a (pc' := 9) (ls' := [some (.ref (c + 31)), some (.ref a), some (.ref b), some (.int (iI x)), some (.ref q), some (.int (iI ((K : Int)))), some (.ref hp.length), none, none, none, none, none, none, none]) (st' := []) rfl rfl ?_
  refine go_a (pc' := 10) (ls' := [some (.ref (c + 31)), some (.ref a), some (.ref b), some (.int (iI x)), some (.ref q), some (.int (iI ((K : Int)))), some (.ref hp.length), none, none, none, none, none, none, none]) (st' := [.int (iI 0)]) rfl rfl ?_
  refine go_a (pc' := 12) (ls' := [some (.ref (c + 31)), some (.ref a), some (.ref b), some (.int (iI x)), some (.ref q), some (.int (iI ((K : Int)))), some (.ref hp.length), some (.int (iI 0)), none, none, none, none, none, none]) (st' := []) rfl rfl ?_
  refine go_a (pc' := 14) (ls' := [some (.ref (c + 31)), some (.ref a), some (.ref b), some (.int (iI x)), some (.ref q), some (.int (iI ((K : Int)))), some (.ref hp.length), some (.int (iI 0)), none, none, none, none, none, none]) (st' := [.int (iI ((K : Int)))]) rfl rfl ?_
  refine go_a (pc' := 16) (ls' := [some (.ref (c + 31)), some (.ref a), some (.ref b), some (.int (iI x)), some (.ref q), some (.int (iI ((K : Int)))), some (.ref hp.length), some (.int (iI 0)), some (.int (iI ((K : Int)))), none, none, none, none, none]) (st' := []) rfl rfl ?_
  refine go_a (pc' := 17) (ls' := [some (.ref (c + 31)), some (.ref a), some (.ref b), some (.int (iI x)), some (.ref q), some (.int (iI ((K : Int)))), some (.ref hp.length), some (.int (iI 0)), some (.int (iI ((K : Int)))), none, none, none, none, none]) (st' := [.int (iI 0)]) rfl rfl ?_
  refine go_a (pc' := 19) (ls' := [some (.ref (c + 31)), some (.ref a), some (.ref b), some (.int (iI x)), some (.ref q), some (.int (iI ((K : Int)))), some (.ref hp.length), some (.int (iI 0)), some (.int (iI ((K : Int)))), some (.int (iI 0)), none, none, none, none]) (st' := []) rfl rfl ?_
  exact kp_ind1 z d c u K hp.length a G fg b n f x q m g hp s u17 hx x0 x1 hW (Nat.le_refl _) n_.2 K9 E n.toNat 0 K E 0 0 2 [] [] _ _ _ _ _ s (by omega) (by omega) (by decide) (by decide) (Nat.le_refl _) (by rw [Nat.sub_self]; exact SCN.nil _) (by rw [e0]; exact hE) lE K1 hB TF_rf ⟨0, 0, _, _, _, C1, rfl⟩ (TM_kx hG X1) (TM_kx hF X1) A1 kq1 (kx_w X1 (by omega) (by omega)) (by rw [e0]; omega) (by omega) rfl (fun its T q => q)
