/-! the law at one call on new objects -/
/-- what the law ends with: 1, and no more cells than 100, no more slots than 1200000 -/
def xl_Q (h : xx_H) (v : Option Value) (h1 : xx_H) : Prop := v = some (.int 1) ∧ h1.length ≤ h.length + 100 ∧ xx_sz h1 ≤ xx_sz h + 1200000
theorem xl_fin (z : Value) (d : Nat) (h hp : xx_H) (A : List Value) (h0 : hp[0]? = some (.inl (.int, A))) (hA : A.length = 6) (h1 : hp.length ≤ h.length + 100) (h2 : xx_sz hp ≤ xx_sz h + 1200000) : xx_go (xt_P z) d 0 326 [some (.ref 0), some (.ref h.length), some (.ref (h.length + 32)), some (.int 0)] [] hp (xl_Q h) := by
  refine go_a (pc' := 329) (ls' := [some (.ref 0), some (.ref h.length), some (.ref (h.length + 32)), some (.int 6)]) (st' := []) rfl rfl ?_
  refine go_a (pc' := 18) (ls' := [some (.ref 0), some (.ref h.length), some (.ref (h.length + 32)), some (.int 6)]) (st' := []) rfl rfl ?_
  refine go_a (pc' := 19) (ls' := [some (.ref 0), some (.ref h.length), some (.ref (h.length + 32)), some (.int 6)]) (st' := [(.int 6)]) rfl rfl ?_
  refine go_a (pc' := 20) (ls' := [some (.ref 0), some (.ref h.length), some (.ref (h.length + 32)), some (.int 6)]) (st' := [(.ref 0), (.int 6)]) rfl rfl ?_
  refine go_len rfl h0 ?_
  rw [hA]
  refine go_a (pc' := 23) (ls' := [some (.ref 0), some (.ref h.length), some (.ref (h.length + 32)), some (.int 6)]) (st' := [(.int 6), (.int (Int32.ofNat 6)), (.int 6)]) rfl rfl ?_
  refine go_a (pc' := 24) (ls' := [some (.ref 0), some (.ref h.length), some (.ref (h.length + 32)), some (.int 6)]) (st' := [(.int 0), (.int 6)]) rfl rfl ?_
  refine go_a (pc' := 332) (ls' := [some (.ref 0), some (.ref h.length), some (.ref (h.length + 32)), some (.int 6)]) (st' := []) rfl rfl ?_
  refine go_a (pc' := 333) (ls' := [some (.ref 0), some (.ref h.length), some (.ref (h.length + 32)), some (.int 6)]) (st' := [(.int 1)]) rfl rfl ?_
  exact go_r rfl rfl rfl rfl rfl rfl ⟨rfl, h1, h2⟩
theorem xl_len (h : xx_H) (u o w : Nat) (K G N S La Lb Lc Ld Le Lf Lg Lh Li : List Value) (hc : 11 ≤ h.length) (hu : u < 2 ^ 30) : (xl_H h u o w K G N S La Lb Lc Ld Le Lf Lg Lh Li).length = h.length + 84 := by
  unfold xl_H
  rw [xq_len]
  rfl
theorem xl_sz (h : xx_H) (u o w : Nat) (K G N S La Lb Lc Ld Le Lf Lg Lh Li : List Value) (hc : 11 ≤ h.length) (hu : u < 2 ^ 30) (lK : K.length = 64) (lG : G.length = 64) (lN : N.length = 64) (lS : S.length = 512) (hk : xr_ok o o La Lb Lc Ld Le Lf Lg Lh Li) : xx_sz (xl_H h u o w K G N S La Lb Lc Ld Le Lf Lg Lh Li) ≤ xx_sz h + 1200000 := by
  obtain ⟨-, -, ⟨l1, l2, l3, l4, l5, l6, l7, l8, l9⟩, -⟩ := hk
  unfold xl_H
  rw [xq_sz]
  refine Nat.add_le_add_left ?_ _
  show xx_sz ([xm_ko h.length u] ++ (xm_kt h.length u K G N S ++ _)) ≤ _
  rw [xq_sz, xq_sz]
  have e1 : xx_sz [xm_ko h.length u] = 14 := rfl
  have e2 : xx_sz (xm_kt h.length u K G N S) ≤ 2000 := by
    simp only [xm_kt, xx_sz, List.map_cons, List.map_nil, xx_sz1, List.length_replicate, List.length_cons, List.length_nil, List.sum_cons, List.sum_nil]
    omega
  have e3 : xx_sz (xr_B (h.length + 32) (nI o) (nI o) (nI w) La Lb Lc Ld Le Lf Lg Lh Li) ≤ 1100000 := by
    simp only [xr_B, xr_fs, xx_sz, List.map_cons, List.map_nil, xx_sz1, List.length_replicate, List.length_cons, List.length_nil, List.sum_cons, List.sum_nil, l1, l2, l3, l4, l5, l6, l7, l8, l9]
    omega
  omega
theorem xl_low (h : xx_H) (u o w : Nat) (K G N S La Lb Lc Ld Le Lf Lg Lh Li : List Value) (hc : 11 ≤ h.length) (hu : u < 2 ^ 30) (i : Nat) (hi : i < h.length) : (xl_H h u o w K G N S La Lb Lc Ld Le Lf Lg Lh Li)[i]? = h[i]? := List.getElem?_append_left hi
theorem xl_case0 (z : Value) (d : Nat) (h : xx_H) (u o w : Nat) (K G N S La Lb Lc Ld Le Lf Lg Lh Li : List Value) (hc : 11 ≤ h.length) (hu : u < 2 ^ 30) (ho : o < 2 ^ 31) (y0 y1 y2 y3 y4 y5 : Int32) (h0 : h[0]? = some (.inl (.int, [.int y0, .int y1, .int y2, .int y3, .int y4, .int y5]))) (hlen : (xl_H h u o w K G N S La Lb Lc Ld Le Lf Lg Lh Li).length ≤ h.length + 100) (hsz : xx_sz (xl_H h u o w K G N S La Lb Lc Ld Le Lf Lg Lh Li) ≤ xx_sz h + 1200000) : xx_go (xt_P z) (d + 8) 0 88 [some (.ref 0), some (.ref h.length), some (.ref (h.length + 32)), some (.int 0)] [] (xl_H h u o w K G N S La Lb Lc Ld Le Lf Lg Lh Li) (xl_Q h) := by
  have s0 : (xl_H h u o w K G N S La Lb Lc Ld Le Lf Lg Lh Li)[0]? = some (.inl (.int, [.int y0, .int y1, .int y2, .int y3, .int y4, .int y5])) := (xl_low h u o w K G N S La Lb Lc Ld Le Lf Lg Lh Li hc hu 0 (by omega)).trans h0
  refine go_a (pc' := 89) (ls' := [some (.ref 0), some (.ref h.length), some (.ref (h.length + 32)), some (.int 0)]) (st' := [(.ref h.length)]) rfl rfl ?_
  refine go_a (pc' := 90) (ls' := [some (.ref 0), some (.ref h.length), some (.ref (h.length + 32)), some (.int 0)]) (st' := [(.ref 0), (.ref h.length)]) rfl rfl ?_
  refine go_a (pc' := 91) (ls' := [some (.ref 0), some (.ref h.length), some (.ref (h.length + 32)), some (.int 0)]) (st' := [(.int 0), (.ref 0), (.ref h.length)]) rfl rfl ?_
  refine go_a (pc' := 92) (ls' := [some (.ref 0), some (.ref h.length), some (.ref (h.length + 32)), some (.int 0)]) (st' := [(.int 1), (.int 0), (.ref 0), (.ref h.length)]) rfl rfl ?_
  refine go_a (pc' := 93) (ls' := [some (.ref 0), some (.ref h.length), some (.ref (h.length + 32)), some (.int 0)]) (st' := [(.int 1), (.ref 0), (.ref h.length)]) rfl rfl ?_
  refine go_ild (m := 1) rfl s0 (by decide) rfl rfl ?_
  refine go_a (pc' := 95) (ls' := [some (.ref 0), some (.ref h.length), some (.ref (h.length + 32)), some (.int 0)]) (st' := [(.ref 0), (.int y1), (.ref h.length)]) rfl rfl ?_
  refine go_a (pc' := 96) (ls' := [some (.ref 0), some (.ref h.length), some (.ref (h.length + 32)), some (.int 0)]) (st' := [(.int 0), (.ref 0), (.int y1), (.ref h.length)]) rfl rfl ?_
  refine go_a (pc' := 97) (ls' := [some (.ref 0), some (.ref h.length), some (.ref (h.length + 32)), some (.int 0)]) (st' := [(.int 2), (.int 0), (.ref 0), (.int y1), (.ref h.length)]) rfl rfl ?_
  refine go_a (pc' := 98) (ls' := [some (.ref 0), some (.ref h.length), some (.ref (h.length + 32)), some (.int 0)]) (st' := [(.int 2), (.ref 0), (.int y1), (.ref h.length)]) rfl rfl ?_
  refine go_ild (m := 2) rfl s0 (by decide) rfl rfl ?_
  refine go_a (pc' := 100) (ls' := [some (.ref 0), some (.ref h.length), some (.ref (h.length + 32)), some (.int 0)]) (st' := [(.ref 0), (.int y2), (.int y1), (.ref h.length)]) rfl rfl ?_
  refine go_a (pc' := 101) (ls' := [some (.ref 0), some (.ref h.length), some (.ref (h.length + 32)), some (.int 0)]) (st' := [(.int 0), (.ref 0), (.int y2), (.int y1), (.ref h.length)]) rfl rfl ?_
  refine go_a (pc' := 102) (ls' := [some (.ref 0), some (.ref h.length), some (.ref (h.length + 32)), some (.int 0)]) (st' := [(.int 3), (.int 0), (.ref 0), (.int y2), (.int y1), (.ref h.length)]) rfl rfl ?_
  refine go_a (pc' := 103) (ls' := [some (.ref 0), some (.ref h.length), some (.ref (h.length + 32)), some (.int 0)]) (st' := [(.int 3), (.ref 0), (.int y2), (.int y1), (.ref h.length)]) rfl rfl ?_
  refine go_ild (m := 3) rfl s0 (by decide) rfl rfl ?_
  refine go_a (pc' := 105) (ls' := [some (.ref 0), some (.ref h.length), some (.ref (h.length + 32)), some (.int 0)]) (st' := [(.ref 0), (.int y3), (.int y2), (.int y1), (.ref h.length)]) rfl rfl ?_
  refine go_a (pc' := 106) (ls' := [some (.ref 0), some (.ref h.length), some (.ref (h.length + 32)), some (.int 0)]) (st' := [(.int 0), (.ref 0), (.int y3), (.int y2), (.int y1), (.ref h.length)]) rfl rfl ?_
  refine go_a (pc' := 107) (ls' := [some (.ref 0), some (.ref h.length), some (.ref (h.length + 32)), some (.int 0)]) (st' := [(.int 4), (.int 0), (.ref 0), (.int y3), (.int y2), (.int y1), (.ref h.length)]) rfl rfl ?_
  refine go_a (pc' := 108) (ls' := [some (.ref 0), some (.ref h.length), some (.ref (h.length + 32)), some (.int 0)]) (st' := [(.int 4), (.ref 0), (.int y3), (.int y2), (.int y1), (.ref h.length)]) rfl rfl ?_
  refine go_ild (m := 4) rfl s0 (by decide) rfl rfl ?_
  refine go_a (pc' := 110) (ls' := [some (.ref 0), some (.ref h.length), some (.ref (h.length + 32)), some (.int 0)]) (st' := [(.ref 0), (.int y4), (.int y3), (.int y2), (.int y1), (.ref h.length)]) rfl rfl ?_
  refine go_a (pc' := 111) (ls' := [some (.ref 0), some (.ref h.length), some (.ref (h.length + 32)), some (.int 0)]) (st' := [(.int 0), (.ref 0), (.int y4), (.int y3), (.int y2), (.int y1), (.ref h.length)]) rfl rfl ?_
  refine go_a (pc' := 112) (ls' := [some (.ref 0), some (.ref h.length), some (.ref (h.length + 32)), some (.int 0)]) (st' := [(.int 5), (.int 0), (.ref 0), (.int y4), (.int y3), (.int y2), (.int y1), (.ref h.length)]) rfl rfl ?_
  refine go_a (pc' := 113) (ls' := [some (.ref 0), some (.ref h.length), some (.ref (h.length + 32)), some (.int 0)]) (st' := [(.int 5), (.ref 0), (.int y4), (.int y3), (.int y2), (.int y1), (.ref h.length)]) rfl rfl ?_
  refine go_ild (m := 5) rfl s0 (by decide) rfl rfl ?_
  refine go_v (m := 32) (as := [.ref h.length, .int y1, .int y2, .int y3, .int y4, .int y5]) (r := []) rfl rfl rfl xq_get00 rfl rfl (xl_c0 z d y1 y2 y3 y4 y5 h u o w K G N S La Lb Lc Ld Le Lf Lg Lh Li hc hu) (fun v1 h1 hq => ?_)
  obtain ⟨rfl, F⟩ := hq
  have s1 : h1[0]? = some (.inl (.int, [.int y0, .int y1, .int y2, .int y3, .int y4, .int y5])) := (F.2.2 0 (Or.inl (by omega))).trans s0
  have hM := xl_M_F (xl_M_of h u o w K G N S La Lb Lc Ld Le Lf Lg Lh Li hc hu) F
  show xx_go (xt_P z) (d + 8) 0 117 [some (.ref 0), some (.ref h.length), some (.ref (h.length + 32)), some (.int 0)] [] (h1) _
  refine go_a (pc' := 118) (ls' := [some (.ref 0), some (.ref h.length), some (.ref (h.length + 32)), some (.int 0)]) (st' := [(.ref (h.length + 32))]) rfl rfl ?_
  refine go_a (pc' := 119) (ls' := [some (.ref 0), some (.ref h.length), some (.ref (h.length + 32)), some (.int 0)]) (st' := [(.ref 0), (.ref (h.length + 32))]) rfl rfl ?_
  refine go_a (pc' := 120) (ls' := [some (.ref 0), some (.ref h.length), some (.ref (h.length + 32)), some (.int 0)]) (st' := [(.int 0), (.ref 0), (.ref (h.length + 32))]) rfl rfl ?_
  refine go_a (pc' := 121) (ls' := [some (.ref 0), some (.ref h.length), some (.ref (h.length + 32)), some (.int 0)]) (st' := [(.int 1), (.int 0), (.ref 0), (.ref (h.length + 32))]) rfl rfl ?_
  refine go_a (pc' := 122) (ls' := [some (.ref 0), some (.ref h.length), some (.ref (h.length + 32)), some (.int 0)]) (st' := [(.int 1), (.ref 0), (.ref (h.length + 32))]) rfl rfl ?_
  refine go_ild (m := 1) rfl s1 (by decide) rfl rfl ?_
  refine go_a (pc' := 124) (ls' := [some (.ref 0), some (.ref h.length), some (.ref (h.length + 32)), some (.int 0)]) (st' := [(.ref 0), (.int y1), (.ref (h.length + 32))]) rfl rfl ?_
  refine go_a (pc' := 125) (ls' := [some (.ref 0), some (.ref h.length), some (.ref (h.length + 32)), some (.int 0)]) (st' := [(.int 0), (.ref 0), (.int y1), (.ref (h.length + 32))]) rfl rfl ?_
  refine go_a (pc' := 126) (ls' := [some (.ref 0), some (.ref h.length), some (.ref (h.length + 32)), some (.int 0)]) (st' := [(.int 2), (.int 0), (.ref 0), (.int y1), (.ref (h.length + 32))]) rfl rfl ?_
  refine go_a (pc' := 127) (ls' := [some (.ref 0), some (.ref h.length), some (.ref (h.length + 32)), some (.int 0)]) (st' := [(.int 2), (.ref 0), (.int y1), (.ref (h.length + 32))]) rfl rfl ?_
  refine go_ild (m := 2) rfl s1 (by decide) rfl rfl ?_
  refine go_a (pc' := 129) (ls' := [some (.ref 0), some (.ref h.length), some (.ref (h.length + 32)), some (.int 0)]) (st' := [(.ref 0), (.int y2), (.int y1), (.ref (h.length + 32))]) rfl rfl ?_
  refine go_a (pc' := 130) (ls' := [some (.ref 0), some (.ref h.length), some (.ref (h.length + 32)), some (.int 0)]) (st' := [(.int 0), (.ref 0), (.int y2), (.int y1), (.ref (h.length + 32))]) rfl rfl ?_
  refine go_a (pc' := 131) (ls' := [some (.ref 0), some (.ref h.length), some (.ref (h.length + 32)), some (.int 0)]) (st' := [(.int 3), (.int 0), (.ref 0), (.int y2), (.int y1), (.ref (h.length + 32))]) rfl rfl ?_
  refine go_a (pc' := 132) (ls' := [some (.ref 0), some (.ref h.length), some (.ref (h.length + 32)), some (.int 0)]) (st' := [(.int 3), (.ref 0), (.int y2), (.int y1), (.ref (h.length + 32))]) rfl rfl ?_
  refine go_ild (m := 3) rfl s1 (by decide) rfl rfl ?_
  refine go_a (pc' := 134) (ls' := [some (.ref 0), some (.ref h.length), some (.ref (h.length + 32)), some (.int 0)]) (st' := [(.ref 0), (.int y3), (.int y2), (.int y1), (.ref (h.length + 32))]) rfl rfl ?_
  refine go_a (pc' := 135) (ls' := [some (.ref 0), some (.ref h.length), some (.ref (h.length + 32)), some (.int 0)]) (st' := [(.int 0), (.ref 0), (.int y3), (.int y2), (.int y1), (.ref (h.length + 32))]) rfl rfl ?_
  refine go_a (pc' := 136) (ls' := [some (.ref 0), some (.ref h.length), some (.ref (h.length + 32)), some (.int 0)]) (st' := [(.int 4), (.int 0), (.ref 0), (.int y3), (.int y2), (.int y1), (.ref (h.length + 32))]) rfl rfl ?_
  refine go_a (pc' := 137) (ls' := [some (.ref 0), some (.ref h.length), some (.ref (h.length + 32)), some (.int 0)]) (st' := [(.int 4), (.ref 0), (.int y3), (.int y2), (.int y1), (.ref (h.length + 32))]) rfl rfl ?_
  refine go_ild (m := 4) rfl s1 (by decide) rfl rfl ?_
  refine go_a (pc' := 139) (ls' := [some (.ref 0), some (.ref h.length), some (.ref (h.length + 32)), some (.int 0)]) (st' := [(.ref 0), (.int y4), (.int y3), (.int y2), (.int y1), (.ref (h.length + 32))]) rfl rfl ?_
  refine go_a (pc' := 140) (ls' := [some (.ref 0), some (.ref h.length), some (.ref (h.length + 32)), some (.int 0)]) (st' := [(.int 0), (.ref 0), (.int y4), (.int y3), (.int y2), (.int y1), (.ref (h.length + 32))]) rfl rfl ?_
  refine go_a (pc' := 141) (ls' := [some (.ref 0), some (.ref h.length), some (.ref (h.length + 32)), some (.int 0)]) (st' := [(.int 5), (.int 0), (.ref 0), (.int y4), (.int y3), (.int y2), (.int y1), (.ref (h.length + 32))]) rfl rfl ?_
  refine go_a (pc' := 142) (ls' := [some (.ref 0), some (.ref h.length), some (.ref (h.length + 32)), some (.int 0)]) (st' := [(.int 5), (.ref 0), (.int y4), (.int y3), (.int y2), (.int y1), (.ref (h.length + 32))]) rfl rfl ?_
  refine go_ild (m := 5) rfl s1 (by decide) rfl rfl ?_
  refine go_v (m := 66) (as := [.ref (h.length + 32), .int y1, .int y2, .int y3, .int y4, .int y5]) (r := []) rfl rfl rfl hM.1 rfl rfl (xl_m0 z d (h.length + 32) o w y1 y2 y3 y4 y5 h1 (by omega) ho hM) (fun v2 h2 hq => ?_)
  obtain ⟨rfl, F2⟩ := hq
  have s2 : h2[0]? = some (.inl (.int, [.int y0, .int y1, .int y2, .int y3, .int y4, .int y5])) := (F2.2.2 0 (Or.inl (by omega))).trans s1
  have fin := xl_fin z (d + 8) h h2 _ s2 rfl (by rw [F2.1, F.1]; exact hlen) (by rw [F2.2.1, F.2.1]; exact hsz)
  show xx_go (xt_P z) (d + 8) 0 146 [some (.ref 0), some (.ref h.length), some (.ref (h.length + 32)), some (.int 0)] [] (h2) (xl_Q h)
  refine go_a (pc' := 326) (ls' := [some (.ref 0), some (.ref h.length), some (.ref (h.length + 32)), some (.int 0)]) (st' := []) rfl rfl ?_
  exact fin
theorem xl_case1 (z : Value) (d : Nat) (h : xx_H) (u o w : Nat) (K G N S La Lb Lc Ld Le Lf Lg Lh Li : List Value) (hc : 11 ≤ h.length) (hu : u < 2 ^ 30) (ho : o < 2 ^ 31) (y0 y1 y2 y3 y4 y5 : Int32) (h0 : h[0]? = some (.inl (.int, [.int y0, .int y1, .int y2, .int y3, .int y4, .int y5]))) (hlen : (xl_H h u o w K G N S La Lb Lc Ld Le Lf Lg Lh Li).length ≤ h.length + 100) (hsz : xx_sz (xl_H h u o w K G N S La Lb Lc Ld Le Lf Lg Lh Li) ≤ xx_sz h + 1200000) : xx_go (xt_P z) (d + 8) 0 149 [some (.ref 0), some (.ref h.length), some (.ref (h.length + 32)), some (.int 0)] [] (xl_H h u o w K G N S La Lb Lc Ld Le Lf Lg Lh Li) (xl_Q h) := by
  have s0 : (xl_H h u o w K G N S La Lb Lc Ld Le Lf Lg Lh Li)[0]? = some (.inl (.int, [.int y0, .int y1, .int y2, .int y3, .int y4, .int y5])) := (xl_low h u o w K G N S La Lb Lc Ld Le Lf Lg Lh Li hc hu 0 (by omega)).trans h0
  refine go_a (pc' := 150) (ls' := [some (.ref 0), some (.ref h.length), some (.ref (h.length + 32)), some (.int 0)]) (st' := [(.ref h.length)]) rfl rfl ?_
  refine go_a (pc' := 151) (ls' := [some (.ref 0), some (.ref h.length), some (.ref (h.length + 32)), some (.int 0)]) (st' := [(.ref 0), (.ref h.length)]) rfl rfl ?_
  refine go_a (pc' := 152) (ls' := [some (.ref 0), some (.ref h.length), some (.ref (h.length + 32)), some (.int 0)]) (st' := [(.int 0), (.ref 0), (.ref h.length)]) rfl rfl ?_
  refine go_a (pc' := 153) (ls' := [some (.ref 0), some (.ref h.length), some (.ref (h.length + 32)), some (.int 0)]) (st' := [(.int 1), (.int 0), (.ref 0), (.ref h.length)]) rfl rfl ?_
  refine go_a (pc' := 154) (ls' := [some (.ref 0), some (.ref h.length), some (.ref (h.length + 32)), some (.int 0)]) (st' := [(.int 1), (.ref 0), (.ref h.length)]) rfl rfl ?_
  refine go_ild (m := 1) rfl s0 (by decide) rfl rfl ?_
  refine go_v (m := 33) (as := [.ref h.length, .int y1]) (r := []) rfl rfl rfl xq_get00 rfl rfl (xl_c1 z d y1 h u o w K G N S La Lb Lc Ld Le Lf Lg Lh Li hc hu) (fun v1 h1 hq => ?_)
  obtain ⟨rfl, F⟩ := hq
  have s1 : h1[0]? = some (.inl (.int, [.int y0, .int y1, .int y2, .int y3, .int y4, .int y5])) := (F.2.2 0 (Or.inl (by omega))).trans s0
  have hM := xl_M_F (xl_M_of h u o w K G N S La Lb Lc Ld Le Lf Lg Lh Li hc hu) F
  show xx_go (xt_P z) (d + 8) 0 158 [some (.ref 0), some (.ref h.length), some (.ref (h.length + 32)), some (.int 0)] [(.int (xf_end y1))] (h1) _
  refine go_a (pc' := 159) (ls' := [some (.ref 0), some (.ref h.length), some (.ref (h.length + 32)), some (.int 0)]) (st' := [(.ref (h.length + 32)), (.int (xf_end y1))]) rfl rfl ?_
  refine go_a (pc' := 160) (ls' := [some (.ref 0), some (.ref h.length), some (.ref (h.length + 32)), some (.int 0)]) (st' := [(.ref 0), (.ref (h.length + 32)), (.int (xf_end y1))]) rfl rfl ?_
  refine go_a (pc' := 161) (ls' := [some (.ref 0), some (.ref h.length), some (.ref (h.length + 32)), some (.int 0)]) (st' := [(.int 0), (.ref 0), (.ref (h.length + 32)), (.int (xf_end y1))]) rfl rfl ?_
  refine go_a (pc' := 162) (ls' := [some (.ref 0), some (.ref h.length), some (.ref (h.length + 32)), some (.int 0)]) (st' := [(.int 1), (.int 0), (.ref 0), (.ref (h.length + 32)), (.int (xf_end y1))]) rfl rfl ?_
  refine go_a (pc' := 163) (ls' := [some (.ref 0), some (.ref h.length), some (.ref (h.length + 32)), some (.int 0)]) (st' := [(.int 1), (.ref 0), (.ref (h.length + 32)), (.int (xf_end y1))]) rfl rfl ?_
  refine go_ild (m := 1) rfl s1 (by decide) rfl rfl ?_
  refine go_v (m := 67) (as := [.ref (h.length + 32), .int y1]) (r := [.int (xf_end y1)]) rfl rfl rfl hM.1 rfl rfl (xl_m1 z d (h.length + 32) o w y1 h1 (by omega) ho hM) (fun v2 h2 hq => ?_)
  obtain ⟨rfl, F2⟩ := hq
  have s2 : h2[0]? = some (.inl (.int, [.int y0, .int y1, .int y2, .int y3, .int y4, .int y5])) := (F2.2.2 0 (Or.inl (by omega))).trans s1
  have fin := xl_fin z (d + 8) h h2 _ s2 rfl (by rw [F2.1, F.1]; exact hlen) (by rw [F2.2.1, F.2.1]; exact hsz)
  show xx_go (xt_P z) (d + 8) 0 167 [some (.ref 0), some (.ref h.length), some (.ref (h.length + 32)), some (.int 0)] [(.int (xf_end y1)), (.int (xf_end y1))] (h2) (xl_Q h)
  exact go_if (t := 326) (off := 159) (r := []) rfl rfl rfl (fun _ => fin) (fun hf => absurd rfl (of_decide_eq_false hf))
theorem xl_case2 (z : Value) (d : Nat) (h : xx_H) (u o w : Nat) (K G N S La Lb Lc Ld Le Lf Lg Lh Li : List Value) (hc : 11 ≤ h.length) (hu : u < 2 ^ 30) (ho : o < 2 ^ 31) (y0 y1 y2 y3 y4 y5 : Int32) (h0 : h[0]? = some (.inl (.int, [.int y0, .int y1, .int y2, .int y3, .int y4, .int y5]))) (hlen : (xl_H h u o w K G N S La Lb Lc Ld Le Lf Lg Lh Li).length ≤ h.length + 100) (hsz : xx_sz (xl_H h u o w K G N S La Lb Lc Ld Le Lf Lg Lh Li) ≤ xx_sz h + 1200000) : xx_go (xt_P z) (d + 8) 0 172 [some (.ref 0), some (.ref h.length), some (.ref (h.length + 32)), some (.int 0)] [] (xl_H h u o w K G N S La Lb Lc Ld Le Lf Lg Lh Li) (xl_Q h) := by
  have s0 : (xl_H h u o w K G N S La Lb Lc Ld Le Lf Lg Lh Li)[0]? = some (.inl (.int, [.int y0, .int y1, .int y2, .int y3, .int y4, .int y5])) := (xl_low h u o w K G N S La Lb Lc Ld Le Lf Lg Lh Li hc hu 0 (by omega)).trans h0
  refine go_a (pc' := 173) (ls' := [some (.ref 0), some (.ref h.length), some (.ref (h.length + 32)), some (.int 0)]) (st' := [(.ref h.length)]) rfl rfl ?_
  refine go_a (pc' := 174) (ls' := [some (.ref 0), some (.ref h.length), some (.ref (h.length + 32)), some (.int 0)]) (st' := [(.ref 0), (.ref h.length)]) rfl rfl ?_
  refine go_a (pc' := 175) (ls' := [some (.ref 0), some (.ref h.length), some (.ref (h.length + 32)), some (.int 0)]) (st' := [(.int 0), (.ref 0), (.ref h.length)]) rfl rfl ?_
  refine go_a (pc' := 176) (ls' := [some (.ref 0), some (.ref h.length), some (.ref (h.length + 32)), some (.int 0)]) (st' := [(.int 1), (.int 0), (.ref 0), (.ref h.length)]) rfl rfl ?_
  refine go_a (pc' := 177) (ls' := [some (.ref 0), some (.ref h.length), some (.ref (h.length + 32)), some (.int 0)]) (st' := [(.int 1), (.ref 0), (.ref h.length)]) rfl rfl ?_
  refine go_ild (m := 1) rfl s0 (by decide) rfl rfl ?_
  refine go_v (m := 36) (as := [.ref h.length, .int y1]) (r := []) rfl rfl rfl xq_get00 rfl rfl (xl_c2 z d y1 h u o w K G N S La Lb Lc Ld Le Lf Lg Lh Li hc hu) (fun v1 h1 hq => ?_)
  obtain ⟨rfl, F⟩ := hq
  have s1 : h1[0]? = some (.inl (.int, [.int y0, .int y1, .int y2, .int y3, .int y4, .int y5])) := (F.2.2 0 (Or.inl (by omega))).trans s0
  have hM := xl_M_F (xl_M_of h u o w K G N S La Lb Lc Ld Le Lf Lg Lh Li hc hu) F
  show xx_go (xt_P z) (d + 8) 0 181 [some (.ref 0), some (.ref h.length), some (.ref (h.length + 32)), some (.int 0)] [(.int (xf_fuel y1))] (h1) _
  refine go_a (pc' := 182) (ls' := [some (.ref 0), some (.ref h.length), some (.ref (h.length + 32)), some (.int 0)]) (st' := [(.ref (h.length + 32)), (.int (xf_fuel y1))]) rfl rfl ?_
  refine go_a (pc' := 183) (ls' := [some (.ref 0), some (.ref h.length), some (.ref (h.length + 32)), some (.int 0)]) (st' := [(.ref 0), (.ref (h.length + 32)), (.int (xf_fuel y1))]) rfl rfl ?_
  refine go_a (pc' := 184) (ls' := [some (.ref 0), some (.ref h.length), some (.ref (h.length + 32)), some (.int 0)]) (st' := [(.int 0), (.ref 0), (.ref (h.length + 32)), (.int (xf_fuel y1))]) rfl rfl ?_
  refine go_a (pc' := 185) (ls' := [some (.ref 0), some (.ref h.length), some (.ref (h.length + 32)), some (.int 0)]) (st' := [(.int 1), (.int 0), (.ref 0), (.ref (h.length + 32)), (.int (xf_fuel y1))]) rfl rfl ?_
  refine go_a (pc' := 186) (ls' := [some (.ref 0), some (.ref h.length), some (.ref (h.length + 32)), some (.int 0)]) (st' := [(.int 1), (.ref 0), (.ref (h.length + 32)), (.int (xf_fuel y1))]) rfl rfl ?_
  refine go_ild (m := 1) rfl s1 (by decide) rfl rfl ?_
  refine go_v (m := 68) (as := [.ref (h.length + 32), .int y1]) (r := [.int (xf_fuel y1)]) rfl rfl rfl hM.1 rfl rfl (xl_m2 z d (h.length + 32) o w y1 h1 (by omega) ho hM) (fun v2 h2 hq => ?_)
  obtain ⟨rfl, F2⟩ := hq
  have s2 : h2[0]? = some (.inl (.int, [.int y0, .int y1, .int y2, .int y3, .int y4, .int y5])) := (F2.2.2 0 (Or.inl (by omega))).trans s1
  have fin := xl_fin z (d + 8) h h2 _ s2 rfl (by rw [F2.1, F.1]; exact hlen) (by rw [F2.2.1, F.2.1]; exact hsz)
  show xx_go (xt_P z) (d + 8) 0 190 [some (.ref 0), some (.ref h.length), some (.ref (h.length + 32)), some (.int 0)] [(.int (xf_fuel y1)), (.int (xf_fuel y1))] (h2) (xl_Q h)
  exact go_if (t := 326) (off := 136) (r := []) rfl rfl rfl (fun _ => fin) (fun hf => absurd rfl (of_decide_eq_false hf))
theorem xl_case3 (z : Value) (d : Nat) (h : xx_H) (u o w : Nat) (K G N S La Lb Lc Ld Le Lf Lg Lh Li : List Value) (hc : 11 ≤ h.length) (hu : u < 2 ^ 30) (ho : o < 2 ^ 31) (y0 y1 y2 y3 y4 y5 : Int32) (h0 : h[0]? = some (.inl (.int, [.int y0, .int y1, .int y2, .int y3, .int y4, .int y5]))) (hlen : (xl_H h u o w K G N S La Lb Lc Ld Le Lf Lg Lh Li).length ≤ h.length + 100) (hsz : xx_sz (xl_H h u o w K G N S La Lb Lc Ld Le Lf Lg Lh Li) ≤ xx_sz h + 1200000) : xx_go (xt_P z) (d + 8) 0 195 [some (.ref 0), some (.ref h.length), some (.ref (h.length + 32)), some (.int 0)] [] (xl_H h u o w K G N S La Lb Lc Ld Le Lf Lg Lh Li) (xl_Q h) := by
  have s0 : (xl_H h u o w K G N S La Lb Lc Ld Le Lf Lg Lh Li)[0]? = some (.inl (.int, [.int y0, .int y1, .int y2, .int y3, .int y4, .int y5])) := (xl_low h u o w K G N S La Lb Lc Ld Le Lf Lg Lh Li hc hu 0 (by omega)).trans h0
  refine go_a (pc' := 196) (ls' := [some (.ref 0), some (.ref h.length), some (.ref (h.length + 32)), some (.int 0)]) (st' := [(.ref h.length)]) rfl rfl ?_
  refine go_v (m := 37) (as := [.ref h.length]) (r := []) rfl rfl rfl xq_get00 rfl rfl (xl_c3 z d  h u o w K G N S La Lb Lc Ld Le Lf Lg Lh Li hc hu) (fun v1 h1 hq => ?_)
  obtain ⟨rfl, F⟩ := hq
  have s1 : h1[0]? = some (.inl (.int, [.int y0, .int y1, .int y2, .int y3, .int y4, .int y5])) := (F.2.2 0 (Or.inl (by omega))).trans s0
  have hM := xl_M_F (xl_M_of h u o w K G N S La Lb Lc Ld Le Lf Lg Lh Li hc hu) F
  show xx_go (xt_P z) (d + 8) 0 199 [some (.ref 0), some (.ref h.length), some (.ref (h.length + 32)), some (.int 0)] [(.int (1))] (h1) _
  refine go_a (pc' := 200) (ls' := [some (.ref 0), some (.ref h.length), some (.ref (h.length + 32)), some (.int 0)]) (st' := [(.ref (h.length + 32)), (.int (1))]) rfl rfl ?_
  refine go_v (m := 69) (as := [.ref (h.length + 32)]) (r := [.int (1)]) rfl rfl rfl hM.1 rfl rfl (xl_m3 z d (h.length + 32) o w  h1 (by omega) ho hM) (fun v2 h2 hq => ?_)
  obtain ⟨rfl, F2⟩ := hq
  have s2 : h2[0]? = some (.inl (.int, [.int y0, .int y1, .int y2, .int y3, .int y4, .int y5])) := (F2.2.2 0 (Or.inl (by omega))).trans s1
  have fin := xl_fin z (d + 8) h h2 _ s2 rfl (by rw [F2.1, F.1]; exact hlen) (by rw [F2.2.1, F.2.1]; exact hsz)
  show xx_go (xt_P z) (d + 8) 0 203 [some (.ref 0), some (.ref h.length), some (.ref (h.length + 32)), some (.int 0)] [(.int (1)), (.int (1))] (h2) (xl_Q h)
  refine go_a (pc' := 326) (ls' := [some (.ref 0), some (.ref h.length), some (.ref (h.length + 32)), some (.int 0)]) (st' := []) rfl rfl ?_
  exact fin
theorem xl_case4 (z : Value) (d : Nat) (h : xx_H) (u o w : Nat) (K G N S La Lb Lc Ld Le Lf Lg Lh Li : List Value) (hc : 11 ≤ h.length) (hu : u < 2 ^ 30) (ho : o < 2 ^ 31) (y0 y1 y2 y3 y4 y5 : Int32) (h0 : h[0]? = some (.inl (.int, [.int y0, .int y1, .int y2, .int y3, .int y4, .int y5]))) (hlen : (xl_H h u o w K G N S La Lb Lc Ld Le Lf Lg Lh Li).length ≤ h.length + 100) (hsz : xx_sz (xl_H h u o w K G N S La Lb Lc Ld Le Lf Lg Lh Li) ≤ xx_sz h + 1200000) : xx_go (xt_P z) (d + 8) 0 208 [some (.ref 0), some (.ref h.length), some (.ref (h.length + 32)), some (.int 0)] [] (xl_H h u o w K G N S La Lb Lc Ld Le Lf Lg Lh Li) (xl_Q h) := by
  have s0 : (xl_H h u o w K G N S La Lb Lc Ld Le Lf Lg Lh Li)[0]? = some (.inl (.int, [.int y0, .int y1, .int y2, .int y3, .int y4, .int y5])) := (xl_low h u o w K G N S La Lb Lc Ld Le Lf Lg Lh Li hc hu 0 (by omega)).trans h0
  refine go_a (pc' := 209) (ls' := [some (.ref 0), some (.ref h.length), some (.ref (h.length + 32)), some (.int 0)]) (st' := [(.ref h.length)]) rfl rfl ?_
  refine go_a (pc' := 210) (ls' := [some (.ref 0), some (.ref h.length), some (.ref (h.length + 32)), some (.int 0)]) (st' := [(.ref 0), (.ref h.length)]) rfl rfl ?_
  refine go_a (pc' := 211) (ls' := [some (.ref 0), some (.ref h.length), some (.ref (h.length + 32)), some (.int 0)]) (st' := [(.int 0), (.ref 0), (.ref h.length)]) rfl rfl ?_
  refine go_a (pc' := 212) (ls' := [some (.ref 0), some (.ref h.length), some (.ref (h.length + 32)), some (.int 0)]) (st' := [(.int 1), (.int 0), (.ref 0), (.ref h.length)]) rfl rfl ?_
  refine go_a (pc' := 213) (ls' := [some (.ref 0), some (.ref h.length), some (.ref (h.length + 32)), some (.int 0)]) (st' := [(.int 1), (.ref 0), (.ref h.length)]) rfl rfl ?_
  refine go_ild (m := 1) rfl s0 (by decide) rfl rfl ?_
  refine go_v (m := 50) (as := [.ref h.length, .int y1]) (r := []) rfl rfl rfl xq_get00 rfl rfl (xl_c4 z d y1 h u o w K G N S La Lb Lc Ld Le Lf Lg Lh Li hc hu) (fun v1 h1 hq => ?_)
  obtain ⟨rfl, F⟩ := hq
  have s1 : h1[0]? = some (.inl (.int, [.int y0, .int y1, .int y2, .int y3, .int y4, .int y5])) := (F.2.2 0 (Or.inl (by omega))).trans s0
  have hM := xl_M_F (xl_M_of h u o w K G N S La Lb Lc Ld Le Lf Lg Lh Li hc hu) F
  show xx_go (xt_P z) (d + 8) 0 217 [some (.ref 0), some (.ref h.length), some (.ref (h.length + 32)), some (.int 0)] [(.int (xf_fault y1))] (h1) _
  refine go_a (pc' := 218) (ls' := [some (.ref 0), some (.ref h.length), some (.ref (h.length + 32)), some (.int 0)]) (st' := [(.ref (h.length + 32)), (.int (xf_fault y1))]) rfl rfl ?_
  refine go_a (pc' := 219) (ls' := [some (.ref 0), some (.ref h.length), some (.ref (h.length + 32)), some (.int 0)]) (st' := [(.ref 0), (.ref (h.length + 32)), (.int (xf_fault y1))]) rfl rfl ?_
  refine go_a (pc' := 220) (ls' := [some (.ref 0), some (.ref h.length), some (.ref (h.length + 32)), some (.int 0)]) (st' := [(.int 0), (.ref 0), (.ref (h.length + 32)), (.int (xf_fault y1))]) rfl rfl ?_
  refine go_a (pc' := 221) (ls' := [some (.ref 0), some (.ref h.length), some (.ref (h.length + 32)), some (.int 0)]) (st' := [(.int 1), (.int 0), (.ref 0), (.ref (h.length + 32)), (.int (xf_fault y1))]) rfl rfl ?_
  refine go_a (pc' := 222) (ls' := [some (.ref 0), some (.ref h.length), some (.ref (h.length + 32)), some (.int 0)]) (st' := [(.int 1), (.ref 0), (.ref (h.length + 32)), (.int (xf_fault y1))]) rfl rfl ?_
  refine go_ild (m := 1) rfl s1 (by decide) rfl rfl ?_
  refine go_v (m := 74) (as := [.ref (h.length + 32), .int y1]) (r := [.int (xf_fault y1)]) rfl rfl rfl hM.1 rfl rfl (xl_m4 z d (h.length + 32) o w y1 h1 (by omega) ho hM) (fun v2 h2 hq => ?_)
  obtain ⟨rfl, F2⟩ := hq
  have s2 : h2[0]? = some (.inl (.int, [.int y0, .int y1, .int y2, .int y3, .int y4, .int y5])) := (F2.2.2 0 (Or.inl (by omega))).trans s1
  have fin := xl_fin z (d + 8) h h2 _ s2 rfl (by rw [F2.1, F.1]; exact hlen) (by rw [F2.2.1, F.2.1]; exact hsz)
  show xx_go (xt_P z) (d + 8) 0 226 [some (.ref 0), some (.ref h.length), some (.ref (h.length + 32)), some (.int 0)] [(.int (xf_fault y1)), (.int (xf_fault y1))] (h2) (xl_Q h)
  exact go_if (t := 326) (off := 100) (r := []) rfl rfl rfl (fun _ => fin) (fun hf => absurd rfl (of_decide_eq_false hf))
theorem xl_case5 (z : Value) (d : Nat) (h : xx_H) (u o w : Nat) (K G N S La Lb Lc Ld Le Lf Lg Lh Li : List Value) (hc : 11 ≤ h.length) (hu : u < 2 ^ 30) (ho : o < 2 ^ 31) (y0 y1 y2 y3 y4 y5 : Int32) (h0 : h[0]? = some (.inl (.int, [.int y0, .int y1, .int y2, .int y3, .int y4, .int y5]))) (hlen : (xl_H h u o w K G N S La Lb Lc Ld Le Lf Lg Lh Li).length ≤ h.length + 100) (hsz : xx_sz (xl_H h u o w K G N S La Lb Lc Ld Le Lf Lg Lh Li) ≤ xx_sz h + 1200000) : xx_go (xt_P z) (d + 8) 0 231 [some (.ref 0), some (.ref h.length), some (.ref (h.length + 32)), some (.int 0)] [] (xl_H h u o w K G N S La Lb Lc Ld Le Lf Lg Lh Li) (xl_Q h) := by
  have s0 : (xl_H h u o w K G N S La Lb Lc Ld Le Lf Lg Lh Li)[0]? = some (.inl (.int, [.int y0, .int y1, .int y2, .int y3, .int y4, .int y5])) := (xl_low h u o w K G N S La Lb Lc Ld Le Lf Lg Lh Li hc hu 0 (by omega)).trans h0
  refine go_a (pc' := 232) (ls' := [some (.ref 0), some (.ref h.length), some (.ref (h.length + 32)), some (.int 0)]) (st' := [(.ref h.length)]) rfl rfl ?_
  refine go_v (m := 51) (as := [.ref h.length]) (r := []) rfl rfl rfl xq_get00 rfl rfl (xl_c5 z d  h u o w K G N S La Lb Lc Ld Le Lf Lg Lh Li hc hu) (fun v1 h1 hq => ?_)
  obtain ⟨rfl, F⟩ := hq
  have s1 : h1[0]? = some (.inl (.int, [.int y0, .int y1, .int y2, .int y3, .int y4, .int y5])) := (F.2.2 0 (Or.inl (by omega))).trans s0
  have hM := xl_M_F (xl_M_of h u o w K G N S La Lb Lc Ld Le Lf Lg Lh Li hc hu) F
  show xx_go (xt_P z) (d + 8) 0 235 [some (.ref 0), some (.ref h.length), some (.ref (h.length + 32)), some (.int 0)] [(.int (0))] (h1) _
  refine go_a (pc' := 236) (ls' := [some (.ref 0), some (.ref h.length), some (.ref (h.length + 32)), some (.int 0)]) (st' := [(.ref (h.length + 32)), (.int (0))]) rfl rfl ?_
  refine go_v (m := 75) (as := [.ref (h.length + 32)]) (r := [.int (0)]) rfl rfl rfl hM.1 rfl rfl (xl_m5 z d (h.length + 32) o w  h1 (by omega) ho hM) (fun v2 h2 hq => ?_)
  obtain ⟨rfl, F2⟩ := hq
  have s2 : h2[0]? = some (.inl (.int, [.int y0, .int y1, .int y2, .int y3, .int y4, .int y5])) := (F2.2.2 0 (Or.inl (by omega))).trans s1
  have fin := xl_fin z (d + 8) h h2 _ s2 rfl (by rw [F2.1, F.1]; exact hlen) (by rw [F2.2.1, F.2.1]; exact hsz)
  show xx_go (xt_P z) (d + 8) 0 239 [some (.ref 0), some (.ref h.length), some (.ref (h.length + 32)), some (.int 0)] [(.int (0)), (.int (0))] (h2) (xl_Q h)
  refine go_a (pc' := 326) (ls' := [some (.ref 0), some (.ref h.length), some (.ref (h.length + 32)), some (.int 0)]) (st' := []) rfl rfl ?_
  exact fin
theorem xl_case6 (z : Value) (d : Nat) (h : xx_H) (u o w : Nat) (K G N S La Lb Lc Ld Le Lf Lg Lh Li : List Value) (hc : 11 ≤ h.length) (hu : u < 2 ^ 30) (ho : o < 2 ^ 31) (y0 y1 y2 y3 y4 y5 : Int32) (h0 : h[0]? = some (.inl (.int, [.int y0, .int y1, .int y2, .int y3, .int y4, .int y5]))) (hlen : (xl_H h u o w K G N S La Lb Lc Ld Le Lf Lg Lh Li).length ≤ h.length + 100) (hsz : xx_sz (xl_H h u o w K G N S La Lb Lc Ld Le Lf Lg Lh Li) ≤ xx_sz h + 1200000) : xx_go (xt_P z) (d + 8) 0 244 [some (.ref 0), some (.ref h.length), some (.ref (h.length + 32)), some (.int 0)] [] (xl_H h u o w K G N S La Lb Lc Ld Le Lf Lg Lh Li) (xl_Q h) := by
  have s0 : (xl_H h u o w K G N S La Lb Lc Ld Le Lf Lg Lh Li)[0]? = some (.inl (.int, [.int y0, .int y1, .int y2, .int y3, .int y4, .int y5])) := (xl_low h u o w K G N S La Lb Lc Ld Le Lf Lg Lh Li hc hu 0 (by omega)).trans h0
  refine go_a (pc' := 245) (ls' := [some (.ref 0), some (.ref h.length), some (.ref (h.length + 32)), some (.int 0)]) (st' := [(.ref h.length)]) rfl rfl ?_
  refine go_a (pc' := 246) (ls' := [some (.ref 0), some (.ref h.length), some (.ref (h.length + 32)), some (.int 0)]) (st' := [(.ref 0), (.ref h.length)]) rfl rfl ?_
  refine go_a (pc' := 247) (ls' := [some (.ref 0), some (.ref h.length), some (.ref (h.length + 32)), some (.int 0)]) (st' := [(.int 0), (.ref 0), (.ref h.length)]) rfl rfl ?_
  refine go_a (pc' := 248) (ls' := [some (.ref 0), some (.ref h.length), some (.ref (h.length + 32)), some (.int 0)]) (st' := [(.int 1), (.int 0), (.ref 0), (.ref h.length)]) rfl rfl ?_
  refine go_a (pc' := 249) (ls' := [some (.ref 0), some (.ref h.length), some (.ref (h.length + 32)), some (.int 0)]) (st' := [(.int 1), (.ref 0), (.ref h.length)]) rfl rfl ?_
  refine go_ild (m := 1) rfl s0 (by decide) rfl rfl ?_
  refine go_v (m := 52) (as := [.ref h.length, .int y1]) (r := []) rfl rfl rfl xq_get00 rfl rfl (xl_c6 z d y1 h u o w K G N S La Lb Lc Ld Le Lf Lg Lh Li hc hu) (fun v1 h1 hq => ?_)
  obtain ⟨rfl, F⟩ := hq
  have s1 : h1[0]? = some (.inl (.int, [.int y0, .int y1, .int y2, .int y3, .int y4, .int y5])) := (F.2.2 0 (Or.inl (by omega))).trans s0
  have hM := xl_M_F (xl_M_of h u o w K G N S La Lb Lc Ld Le Lf Lg Lh Li hc hu) F
  show xx_go (xt_P z) (d + 8) 0 253 [some (.ref 0), some (.ref h.length), some (.ref (h.length + 32)), some (.int 0)] [(.int (xf_count y1))] (h1) _
  refine go_a (pc' := 254) (ls' := [some (.ref 0), some (.ref h.length), some (.ref (h.length + 32)), some (.int 0)]) (st' := [(.ref (h.length + 32)), (.int (xf_count y1))]) rfl rfl ?_
  refine go_a (pc' := 255) (ls' := [some (.ref 0), some (.ref h.length), some (.ref (h.length + 32)), some (.int 0)]) (st' := [(.ref 0), (.ref (h.length + 32)), (.int (xf_count y1))]) rfl rfl ?_
  refine go_a (pc' := 256) (ls' := [some (.ref 0), some (.ref h.length), some (.ref (h.length + 32)), some (.int 0)]) (st' := [(.int 0), (.ref 0), (.ref (h.length + 32)), (.int (xf_count y1))]) rfl rfl ?_
  refine go_a (pc' := 257) (ls' := [some (.ref 0), some (.ref h.length), some (.ref (h.length + 32)), some (.int 0)]) (st' := [(.int 1), (.int 0), (.ref 0), (.ref (h.length + 32)), (.int (xf_count y1))]) rfl rfl ?_
  refine go_a (pc' := 258) (ls' := [some (.ref 0), some (.ref h.length), some (.ref (h.length + 32)), some (.int 0)]) (st' := [(.int 1), (.ref 0), (.ref (h.length + 32)), (.int (xf_count y1))]) rfl rfl ?_
  refine go_ild (m := 1) rfl s1 (by decide) rfl rfl ?_
  refine go_v (m := 76) (as := [.ref (h.length + 32), .int y1]) (r := [.int (xf_count y1)]) rfl rfl rfl hM.1 rfl rfl (xl_m6 z d (h.length + 32) o w y1 h1 (by omega) ho hM) (fun v2 h2 hq => ?_)
  obtain ⟨rfl, F2⟩ := hq
  have s2 : h2[0]? = some (.inl (.int, [.int y0, .int y1, .int y2, .int y3, .int y4, .int y5])) := (F2.2.2 0 (Or.inl (by omega))).trans s1
  have fin := xl_fin z (d + 8) h h2 _ s2 rfl (by rw [F2.1, F.1]; exact hlen) (by rw [F2.2.1, F.2.1]; exact hsz)
  show xx_go (xt_P z) (d + 8) 0 262 [some (.ref 0), some (.ref h.length), some (.ref (h.length + 32)), some (.int 0)] [(.int (xf_count y1)), (.int (xf_count y1))] (h2) (xl_Q h)
  exact go_if (t := 326) (off := 64) (r := []) rfl rfl rfl (fun _ => fin) (fun hf => absurd rfl (of_decide_eq_false hf))
theorem xl_case7 (z : Value) (d : Nat) (h : xx_H) (u o w : Nat) (K G N S La Lb Lc Ld Le Lf Lg Lh Li : List Value) (hc : 11 ≤ h.length) (hu : u < 2 ^ 30) (ho : o < 2 ^ 31) (y0 y1 y2 y3 y4 y5 : Int32) (h0 : h[0]? = some (.inl (.int, [.int y0, .int y1, .int y2, .int y3, .int y4, .int y5]))) (hlen : (xl_H h u o w K G N S La Lb Lc Ld Le Lf Lg Lh Li).length ≤ h.length + 100) (hsz : xx_sz (xl_H h u o w K G N S La Lb Lc Ld Le Lf Lg Lh Li) ≤ xx_sz h + 1200000) : xx_go (xt_P z) (d + 8) 0 267 [some (.ref 0), some (.ref h.length), some (.ref (h.length + 32)), some (.int 0)] [] (xl_H h u o w K G N S La Lb Lc Ld Le Lf Lg Lh Li) (xl_Q h) := by
  have s0 : (xl_H h u o w K G N S La Lb Lc Ld Le Lf Lg Lh Li)[0]? = some (.inl (.int, [.int y0, .int y1, .int y2, .int y3, .int y4, .int y5])) := (xl_low h u o w K G N S La Lb Lc Ld Le Lf Lg Lh Li hc hu 0 (by omega)).trans h0
  refine go_a (pc' := 268) (ls' := [some (.ref 0), some (.ref h.length), some (.ref (h.length + 32)), some (.int 0)]) (st' := [(.ref h.length)]) rfl rfl ?_
  refine go_v (m := 53) (as := [.ref h.length]) (r := []) rfl rfl rfl xq_get00 rfl rfl (xl_c7 z d  h u o w K G N S La Lb Lc Ld Le Lf Lg Lh Li hc hu) (fun v1 h1 hq => ?_)
  obtain ⟨rfl, F⟩ := hq
  have s1 : h1[0]? = some (.inl (.int, [.int y0, .int y1, .int y2, .int y3, .int y4, .int y5])) := (F.2.2 0 (Or.inl (by omega))).trans s0
  have hM := xl_M_F (xl_M_of h u o w K G N S La Lb Lc Ld Le Lf Lg Lh Li hc hu) F
  show xx_go (xt_P z) (d + 8) 0 271 [some (.ref 0), some (.ref h.length), some (.ref (h.length + 32)), some (.int 0)] [(.int (0))] (h1) _
  refine go_a (pc' := 272) (ls' := [some (.ref 0), some (.ref h.length), some (.ref (h.length + 32)), some (.int 0)]) (st' := [(.ref (h.length + 32)), (.int (0))]) rfl rfl ?_
  refine go_v (m := 77) (as := [.ref (h.length + 32)]) (r := [.int (0)]) rfl rfl rfl hM.1 rfl rfl (xl_m7 z d (h.length + 32) o w  h1 (by omega) ho hM) (fun v2 h2 hq => ?_)
  obtain ⟨rfl, F2⟩ := hq
  have s2 : h2[0]? = some (.inl (.int, [.int y0, .int y1, .int y2, .int y3, .int y4, .int y5])) := (F2.2.2 0 (Or.inl (by omega))).trans s1
  have fin := xl_fin z (d + 8) h h2 _ s2 rfl (by rw [F2.1, F.1]; exact hlen) (by rw [F2.2.1, F.2.1]; exact hsz)
  show xx_go (xt_P z) (d + 8) 0 275 [some (.ref 0), some (.ref h.length), some (.ref (h.length + 32)), some (.int 0)] [(.int (0)), (.int (0))] (h2) (xl_Q h)
  refine go_a (pc' := 326) (ls' := [some (.ref 0), some (.ref h.length), some (.ref (h.length + 32)), some (.int 0)]) (st' := []) rfl rfl ?_
  exact fin
theorem xl_case8 (z : Value) (d : Nat) (h : xx_H) (u o w : Nat) (K G N S La Lb Lc Ld Le Lf Lg Lh Li : List Value) (hc : 11 ≤ h.length) (hu : u < 2 ^ 30) (ho : o < 2 ^ 31) (y0 y1 y2 y3 y4 y5 : Int32) (h0 : h[0]? = some (.inl (.int, [.int y0, .int y1, .int y2, .int y3, .int y4, .int y5]))) (hlen : (xl_H h u o w K G N S La Lb Lc Ld Le Lf Lg Lh Li).length ≤ h.length + 100) (hsz : xx_sz (xl_H h u o w K G N S La Lb Lc Ld Le Lf Lg Lh Li) ≤ xx_sz h + 1200000) : xx_go (xt_P z) (d + 8) 0 280 [some (.ref 0), some (.ref h.length), some (.ref (h.length + 32)), some (.int 0)] [] (xl_H h u o w K G N S La Lb Lc Ld Le Lf Lg Lh Li) (xl_Q h) := by
  have s0 : (xl_H h u o w K G N S La Lb Lc Ld Le Lf Lg Lh Li)[0]? = some (.inl (.int, [.int y0, .int y1, .int y2, .int y3, .int y4, .int y5])) := (xl_low h u o w K G N S La Lb Lc Ld Le Lf Lg Lh Li hc hu 0 (by omega)).trans h0
  refine go_a (pc' := 281) (ls' := [some (.ref 0), some (.ref h.length), some (.ref (h.length + 32)), some (.int 0)]) (st' := [(.ref h.length)]) rfl rfl ?_
  refine go_a (pc' := 282) (ls' := [some (.ref 0), some (.ref h.length), some (.ref (h.length + 32)), some (.int 0)]) (st' := [(.ref 0), (.ref h.length)]) rfl rfl ?_
  refine go_a (pc' := 283) (ls' := [some (.ref 0), some (.ref h.length), some (.ref (h.length + 32)), some (.int 0)]) (st' := [(.int 0), (.ref 0), (.ref h.length)]) rfl rfl ?_
  refine go_a (pc' := 284) (ls' := [some (.ref 0), some (.ref h.length), some (.ref (h.length + 32)), some (.int 0)]) (st' := [(.int 1), (.int 0), (.ref 0), (.ref h.length)]) rfl rfl ?_
  refine go_a (pc' := 285) (ls' := [some (.ref 0), some (.ref h.length), some (.ref (h.length + 32)), some (.int 0)]) (st' := [(.int 1), (.ref 0), (.ref h.length)]) rfl rfl ?_
  refine go_ild (m := 1) rfl s0 (by decide) rfl rfl ?_
  refine go_v (m := 55) (as := [.ref h.length, .int y1]) (r := []) rfl rfl rfl xq_get00 rfl rfl (xl_c8 z d y1 h u o w K G N S La Lb Lc Ld Le Lf Lg Lh Li hc hu) (fun v1 h1 hq => ?_)
  obtain ⟨rfl, F⟩ := hq
  have s1 : h1[0]? = some (.inl (.int, [.int y0, .int y1, .int y2, .int y3, .int y4, .int y5])) := (F.2.2 0 (Or.inl (by omega))).trans s0
  have hM := xl_M_F (xl_M_of h u o w K G N S La Lb Lc Ld Le Lf Lg Lh Li hc hu) F
  show xx_go (xt_P z) (d + 8) 0 289 [some (.ref 0), some (.ref h.length), some (.ref (h.length + 32)), some (.int 0)] [(.int (-1))] (h1) _
  refine go_a (pc' := 290) (ls' := [some (.ref 0), some (.ref h.length), some (.ref (h.length + 32)), some (.int 0)]) (st' := [(.ref (h.length + 32)), (.int (-1))]) rfl rfl ?_
  refine go_a (pc' := 291) (ls' := [some (.ref 0), some (.ref h.length), some (.ref (h.length + 32)), some (.int 0)]) (st' := [(.ref 0), (.ref (h.length + 32)), (.int (-1))]) rfl rfl ?_
  refine go_a (pc' := 292) (ls' := [some (.ref 0), some (.ref h.length), some (.ref (h.length + 32)), some (.int 0)]) (st' := [(.int 0), (.ref 0), (.ref (h.length + 32)), (.int (-1))]) rfl rfl ?_
  refine go_a (pc' := 293) (ls' := [some (.ref 0), some (.ref h.length), some (.ref (h.length + 32)), some (.int 0)]) (st' := [(.int 1), (.int 0), (.ref 0), (.ref (h.length + 32)), (.int (-1))]) rfl rfl ?_
  refine go_a (pc' := 294) (ls' := [some (.ref 0), some (.ref h.length), some (.ref (h.length + 32)), some (.int 0)]) (st' := [(.int 1), (.ref 0), (.ref (h.length + 32)), (.int (-1))]) rfl rfl ?_
  refine go_ild (m := 1) rfl s1 (by decide) rfl rfl ?_
  refine go_v (m := 78) (as := [.ref (h.length + 32), .int y1]) (r := [.int (-1)]) rfl rfl rfl hM.1 rfl rfl (xl_m8 z d (h.length + 32) o w y1 h1 (by omega) ho hM) (fun v2 h2 hq => ?_)
  obtain ⟨rfl, F2⟩ := hq
  have s2 : h2[0]? = some (.inl (.int, [.int y0, .int y1, .int y2, .int y3, .int y4, .int y5])) := (F2.2.2 0 (Or.inl (by omega))).trans s1
  have fin := xl_fin z (d + 8) h h2 _ s2 rfl (by rw [F2.1, F.1]; exact hlen) (by rw [F2.2.1, F.2.1]; exact hsz)
  show xx_go (xt_P z) (d + 8) 0 298 [some (.ref 0), some (.ref h.length), some (.ref (h.length + 32)), some (.int 0)] [(.int (-1)), (.int (-1))] (h2) (xl_Q h)
  refine go_a (pc' := 326) (ls' := [some (.ref 0), some (.ref h.length), some (.ref (h.length + 32)), some (.int 0)]) (st' := []) rfl rfl ?_
  exact fin
theorem xl_case9 (z : Value) (d : Nat) (h : xx_H) (u o w : Nat) (K G N S La Lb Lc Ld Le Lf Lg Lh Li : List Value) (hc : 11 ≤ h.length) (hu : u < 2 ^ 30) (ho : o < 2 ^ 31) (y0 y1 y2 y3 y4 y5 : Int32) (h0 : h[0]? = some (.inl (.int, [.int y0, .int y1, .int y2, .int y3, .int y4, .int y5]))) (hlen : (xl_H h u o w K G N S La Lb Lc Ld Le Lf Lg Lh Li).length ≤ h.length + 100) (hsz : xx_sz (xl_H h u o w K G N S La Lb Lc Ld Le Lf Lg Lh Li) ≤ xx_sz h + 1200000) : xx_go (xt_P z) (d + 8) 0 303 [some (.ref 0), some (.ref h.length), some (.ref (h.length + 32)), some (.int 0)] [] (xl_H h u o w K G N S La Lb Lc Ld Le Lf Lg Lh Li) (xl_Q h) := by
  have s0 : (xl_H h u o w K G N S La Lb Lc Ld Le Lf Lg Lh Li)[0]? = some (.inl (.int, [.int y0, .int y1, .int y2, .int y3, .int y4, .int y5])) := (xl_low h u o w K G N S La Lb Lc Ld Le Lf Lg Lh Li hc hu 0 (by omega)).trans h0
  refine go_a (pc' := 304) (ls' := [some (.ref 0), some (.ref h.length), some (.ref (h.length + 32)), some (.int 0)]) (st' := [(.ref h.length)]) rfl rfl ?_
  refine go_a (pc' := 305) (ls' := [some (.ref 0), some (.ref h.length), some (.ref (h.length + 32)), some (.int 0)]) (st' := [(.ref 0), (.ref h.length)]) rfl rfl ?_
  refine go_a (pc' := 306) (ls' := [some (.ref 0), some (.ref h.length), some (.ref (h.length + 32)), some (.int 0)]) (st' := [(.int 0), (.ref 0), (.ref h.length)]) rfl rfl ?_
  refine go_a (pc' := 307) (ls' := [some (.ref 0), some (.ref h.length), some (.ref (h.length + 32)), some (.int 0)]) (st' := [(.int 1), (.int 0), (.ref 0), (.ref h.length)]) rfl rfl ?_
  refine go_a (pc' := 308) (ls' := [some (.ref 0), some (.ref h.length), some (.ref (h.length + 32)), some (.int 0)]) (st' := [(.int 1), (.ref 0), (.ref h.length)]) rfl rfl ?_
  refine go_ild (m := 1) rfl s0 (by decide) rfl rfl ?_
  refine go_v (m := 57) (as := [.ref h.length, .int y1]) (r := []) rfl rfl rfl xq_get00 rfl rfl (xl_c9 z d y1 h u o w K G N S La Lb Lc Ld Le Lf Lg Lh Li hc hu) (fun v1 h1 hq => ?_)
  obtain ⟨rfl, F⟩ := hq
  have s1 : h1[0]? = some (.inl (.int, [.int y0, .int y1, .int y2, .int y3, .int y4, .int y5])) := (F.2.2 0 (Or.inl (by omega))).trans s0
  have hM := xl_M_F (xl_M_of h u o w K G N S La Lb Lc Ld Le Lf Lg Lh Li hc hu) F
  show xx_go (xt_P z) (d + 8) 0 312 [some (.ref 0), some (.ref h.length), some (.ref (h.length + 32)), some (.int 0)] [(.int (-1))] (h1) _
  refine go_a (pc' := 313) (ls' := [some (.ref 0), some (.ref h.length), some (.ref (h.length + 32)), some (.int 0)]) (st' := [(.ref (h.length + 32)), (.int (-1))]) rfl rfl ?_
  refine go_a (pc' := 314) (ls' := [some (.ref 0), some (.ref h.length), some (.ref (h.length + 32)), some (.int 0)]) (st' := [(.ref 0), (.ref (h.length + 32)), (.int (-1))]) rfl rfl ?_
  refine go_a (pc' := 315) (ls' := [some (.ref 0), some (.ref h.length), some (.ref (h.length + 32)), some (.int 0)]) (st' := [(.int 0), (.ref 0), (.ref (h.length + 32)), (.int (-1))]) rfl rfl ?_
  refine go_a (pc' := 316) (ls' := [some (.ref 0), some (.ref h.length), some (.ref (h.length + 32)), some (.int 0)]) (st' := [(.int 1), (.int 0), (.ref 0), (.ref (h.length + 32)), (.int (-1))]) rfl rfl ?_
  refine go_a (pc' := 317) (ls' := [some (.ref 0), some (.ref h.length), some (.ref (h.length + 32)), some (.int 0)]) (st' := [(.int 1), (.ref 0), (.ref (h.length + 32)), (.int (-1))]) rfl rfl ?_
  refine go_ild (m := 1) rfl s1 (by decide) rfl rfl ?_
  refine go_v (m := 79) (as := [.ref (h.length + 32), .int y1]) (r := [.int (-1)]) rfl rfl rfl hM.1 rfl rfl (xl_m9 z d (h.length + 32) o w y1 h1 (by omega) ho hM) (fun v2 h2 hq => ?_)
  obtain ⟨rfl, F2⟩ := hq
  have s2 : h2[0]? = some (.inl (.int, [.int y0, .int y1, .int y2, .int y3, .int y4, .int y5])) := (F2.2.2 0 (Or.inl (by omega))).trans s1
  have fin := xl_fin z (d + 8) h h2 _ s2 rfl (by rw [F2.1, F.1]; exact hlen) (by rw [F2.2.1, F.2.1]; exact hsz)
  show xx_go (xt_P z) (d + 8) 0 321 [some (.ref 0), some (.ref h.length), some (.ref (h.length + 32)), some (.int 0)] [(.int (-1)), (.int (-1))] (h2) (xl_Q h)
  refine go_a (pc' := 326) (ls' := [some (.ref 0), some (.ref h.length), some (.ref (h.length + 32)), some (.int 0)]) (st' := []) rfl rfl ?_
  exact fin
theorem xl_and (x : Int32) : ∃ j : Nat, j < 16 ∧ x &&& 15 = nI j := by
  refine ⟨(x.toBitVec &&& 15#32).toNat, ?_, ?_⟩
  · rw [BitVec.toNat_and]
    exact Nat.lt_of_le_of_lt Nat.and_le_right (by decide)
  · apply Int32.toBitVec_inj.mp
    show x.toBitVec &&& 15#32 = BitVec.ofNat 32 _
    rw [BitVec.ofNat_toNat, BitVec.setWidth_eq]
/-- one turn -/
theorem xl_turn (z : Value) (d : Nat) (h : xx_H) (u o w : Nat) (K G N S La Lb Lc Ld Le Lf Lg Lh Li : List Value) (hc : 11 ≤ h.length) (hu : u < 2 ^ 30) (ho : o < 2 ^ 31) (y0 y1 y2 y3 y4 y5 : Int32) (h0 : h[0]? = some (.inl (.int, [.int y0, .int y1, .int y2, .int y3, .int y4, .int y5]))) (hlen : (xl_H h u o w K G N S La Lb Lc Ld Le Lf Lg Lh Li).length ≤ h.length + 100) (hsz : xx_sz (xl_H h u o w K G N S La Lb Lc Ld Le Lf Lg Lh Li) ≤ xx_sz h + 1200000) : xx_go (xt_P z) (d + 8) 0 18 [some (.ref 0), some (.ref h.length), some (.ref (h.length + 32)), some (.int 0)] [] (xl_H h u o w K G N S La Lb Lc Ld Le Lf Lg Lh Li) (xl_Q h) := by
  have s0 : (xl_H h u o w K G N S La Lb Lc Ld Le Lf Lg Lh Li)[0]? = some (.inl (.int, [.int y0, .int y1, .int y2, .int y3, .int y4, .int y5])) := (xl_low h u o w K G N S La Lb Lc Ld Le Lf Lg Lh Li hc hu 0 (by omega)).trans h0
  refine go_a (pc' := 19) (ls' := [some (.ref 0), some (.ref h.length), some (.ref (h.length + 32)), some (.int 0)]) (st' := [(.int 0)]) rfl rfl ?_
  refine go_a (pc' := 20) (ls' := [some (.ref 0), some (.ref h.length), some (.ref (h.length + 32)), some (.int 0)]) (st' := [(.ref 0), (.int 0)]) rfl rfl ?_
  refine go_len rfl s0 ?_
  show xx_go (xt_P z) (d + 8) 0 21 [some (.ref 0), some (.ref h.length), some (.ref (h.length + 32)), some (.int 0)] [.int (Int32.ofNat 6), .int 0] (xl_H h u o w K G N S La Lb Lc Ld Le Lf Lg Lh Li) (xl_Q h)
  refine go_a (pc' := 23) (ls' := [some (.ref 0), some (.ref h.length), some (.ref (h.length + 32)), some (.int 0)]) (st' := [(.int 6), (.int (Int32.ofNat 6)), (.int 0)]) rfl rfl ?_
  refine go_a (pc' := 24) (ls' := [some (.ref 0), some (.ref h.length), some (.ref (h.length + 32)), some (.int 0)]) (st' := [(.int 0), (.int 0)]) rfl rfl ?_
  refine go_a (pc' := 27) (ls' := [some (.ref 0), some (.ref h.length), some (.ref (h.length + 32)), some (.int 0)]) (st' := []) rfl rfl ?_
  refine go_a (pc' := 28) (ls' := [some (.ref 0), some (.ref h.length), some (.ref (h.length + 32)), some (.int 0)]) (st' := [(.ref 0)]) rfl rfl ?_
  refine go_a (pc' := 29) (ls' := [some (.ref 0), some (.ref h.length), some (.ref (h.length + 32)), some (.int 0)]) (st' := [(.int 0), (.ref 0)]) rfl rfl ?_
  refine go_ild (m := 0) rfl s0 (by decide) rfl rfl ?_
  refine go_a (pc' := 32) (ls' := [some (.ref 0), some (.ref h.length), some (.ref (h.length + 32)), some (.int 0)]) (st' := [(.int 15), (.int y0)]) rfl rfl ?_
  obtain ⟨j, hj, e⟩ := xl_and y0
  refine go_a (pc' := 33) (ls' := [some (.ref 0), some (.ref h.length), some (.ref (h.length + 32)), some (.int 0)]) (st' := [(.int (nI j))]) rfl (by rw [← e]; rfl) ?_
  match j, hj with
  | 0, _ =>
    refine go_a (pc' := 88) (ls' := [some (.ref 0), some (.ref h.length), some (.ref (h.length + 32)), some (.int 0)]) (st' := []) rfl rfl ?_
    exact xl_case0 z d h u o w K G N S La Lb Lc Ld Le Lf Lg Lh Li hc hu ho y0 y1 y2 y3 y4 y5 h0 hlen hsz
  | 1, _ =>
    refine go_a (pc' := 149) (ls' := [some (.ref 0), some (.ref h.length), some (.ref (h.length + 32)), some (.int 0)]) (st' := []) rfl rfl ?_
    exact xl_case1 z d h u o w K G N S La Lb Lc Ld Le Lf Lg Lh Li hc hu ho y0 y1 y2 y3 y4 y5 h0 hlen hsz
  | 2, _ =>
    refine go_a (pc' := 172) (ls' := [some (.ref 0), some (.ref h.length), some (.ref (h.length + 32)), some (.int 0)]) (st' := []) rfl rfl ?_
    exact xl_case2 z d h u o w K G N S La Lb Lc Ld Le Lf Lg Lh Li hc hu ho y0 y1 y2 y3 y4 y5 h0 hlen hsz
  | 3, _ =>
    refine go_a (pc' := 195) (ls' := [some (.ref 0), some (.ref h.length), some (.ref (h.length + 32)), some (.int 0)]) (st' := []) rfl rfl ?_
    exact xl_case3 z d h u o w K G N S La Lb Lc Ld Le Lf Lg Lh Li hc hu ho y0 y1 y2 y3 y4 y5 h0 hlen hsz
  | 4, _ =>
    refine go_a (pc' := 208) (ls' := [some (.ref 0), some (.ref h.length), some (.ref (h.length + 32)), some (.int 0)]) (st' := []) rfl rfl ?_
    exact xl_case4 z d h u o w K G N S La Lb Lc Ld Le Lf Lg Lh Li hc hu ho y0 y1 y2 y3 y4 y5 h0 hlen hsz
  | 5, _ =>
    refine go_a (pc' := 231) (ls' := [some (.ref 0), some (.ref h.length), some (.ref (h.length + 32)), some (.int 0)]) (st' := []) rfl rfl ?_
    exact xl_case5 z d h u o w K G N S La Lb Lc Ld Le Lf Lg Lh Li hc hu ho y0 y1 y2 y3 y4 y5 h0 hlen hsz
  | 6, _ =>
    refine go_a (pc' := 244) (ls' := [some (.ref 0), some (.ref h.length), some (.ref (h.length + 32)), some (.int 0)]) (st' := []) rfl rfl ?_
    exact xl_case6 z d h u o w K G N S La Lb Lc Ld Le Lf Lg Lh Li hc hu ho y0 y1 y2 y3 y4 y5 h0 hlen hsz
  | 7, _ =>
    refine go_a (pc' := 267) (ls' := [some (.ref 0), some (.ref h.length), some (.ref (h.length + 32)), some (.int 0)]) (st' := []) rfl rfl ?_
    exact xl_case7 z d h u o w K G N S La Lb Lc Ld Le Lf Lg Lh Li hc hu ho y0 y1 y2 y3 y4 y5 h0 hlen hsz
  | 8, _ =>
    refine go_a (pc' := 280) (ls' := [some (.ref 0), some (.ref h.length), some (.ref (h.length + 32)), some (.int 0)]) (st' := []) rfl rfl ?_
    exact xl_case8 z d h u o w K G N S La Lb Lc Ld Le Lf Lg Lh Li hc hu ho y0 y1 y2 y3 y4 y5 h0 hlen hsz
  | 9, _ =>
    refine go_a (pc' := 303) (ls' := [some (.ref 0), some (.ref h.length), some (.ref (h.length + 32)), some (.int 0)]) (st' := []) rfl rfl ?_
    exact xl_case9 z d h u o w K G N S La Lb Lc Ld Le Lf Lg Lh Li hc hu ho y0 y1 y2 y3 y4 y5 h0 hlen hsz
  | 10, _ =>
    refine go_a (pc' := 326) (ls' := [some (.ref 0), some (.ref h.length), some (.ref (h.length + 32)), some (.int 0)]) (st' := []) rfl rfl ?_
    exact xl_fin z (d + 8) h _ _ s0 rfl hlen hsz
  | 11, _ =>
    refine go_a (pc' := 326) (ls' := [some (.ref 0), some (.ref h.length), some (.ref (h.length + 32)), some (.int 0)]) (st' := []) rfl rfl ?_
    exact xl_fin z (d + 8) h _ _ s0 rfl hlen hsz
  | 12, _ =>
    refine go_a (pc' := 326) (ls' := [some (.ref 0), some (.ref h.length), some (.ref (h.length + 32)), some (.int 0)]) (st' := []) rfl rfl ?_
    exact xl_fin z (d + 8) h _ _ s0 rfl hlen hsz
  | 13, _ =>
    refine go_a (pc' := 326) (ls' := [some (.ref 0), some (.ref h.length), some (.ref (h.length + 32)), some (.int 0)]) (st' := []) rfl rfl ?_
    exact xl_fin z (d + 8) h _ _ s0 rfl hlen hsz
  | 14, _ =>
    refine go_a (pc' := 326) (ls' := [some (.ref 0), some (.ref h.length), some (.ref (h.length + 32)), some (.int 0)]) (st' := []) rfl rfl ?_
    exact xl_fin z (d + 8) h _ _ s0 rfl hlen hsz
  | 15, _ =>
    refine go_a (pc' := 326) (ls' := [some (.ref 0), some (.ref h.length), some (.ref (h.length + 32)), some (.int 0)]) (st' := []) rfl rfl ?_
    exact xl_fin z (d + 8) h _ _ s0 rfl hlen hsz
  | j + 16, hj => exact absurd hj (by omega)
/-- both constructors -/
theorem xl_begin (z : Value) (hz : z = .null ∨ ∃ k, z = .ref k) (d : Nat) (h : xx_H) (hc : 11 ≤ h.length) (b1 b2 b3 ls : List Value) (k1 : xs_B b1) (k2 : xs_B b2) (k3 : xs_B b3) (kl : xs_B ls) (hl0 : 0 < ls.length) (t1 : xs_T h 1 2 b1) (t2 : xs_T h 3 4 b2) (t3 : xs_T h 5 6 b3) (tl : xs_T h 7 8 ls) (hsp : xs_sp b1 + xs_sp b2 + xs_sp b3 ≤ 63) (Q : Option Value → xx_H → Prop) (hg : ∀ (u o w : Nat) (K G N S La Lb Lc Ld Le Lf Lg Lh Li : List Value), u < 2 ^ 30 → o < 2 ^ 31 → K.length = 64 → G.length = 64 → N.length = 64 → S.length = 512 → xr_ok o o La Lb Lc Ld Le Lf Lg Lh Li → xx_go (xt_P z) (d + 8) 0 18 [some (.ref 0), some (.ref h.length), some (.ref (h.length + 32)), some (.int 0)] [] (xl_H h u o w K G N S La Lb Lc Ld Le Lf Lg Lh Li) Q) : xx_go (xt_P z) (d + 8) 0 0 [some (.ref 0), none, none, none] [] h Q := by
  refine go_new (ci := 9) (fs := [.null, .null, .null, .null, .null, .null, .null, .null, .int 0, .int 0, .int 0, .int 0, .int 0, .int 0]) rfl rfl rfl ?_
  refine go_a (pc' := 4) (ls' := [some (.ref 0), none, none, none]) (st' := [.ref h.length, .ref h.length]) rfl rfl ?_
  refine go_i (m := 1) (as := [.ref h.length]) (r := [.ref h.length]) rfl rfl rfl rfl rfl (xm_kernel z hz d h b1 b2 b3 ls hc k1 k2 k3 kl hl0 t1 t2 t3 tl hsp) (fun v h1 hq => ?_)
  obtain ⟨rfl, u, K, G, N, S, hu, lK, lG, lN, lS, rfl⟩ := hq
  refine go_a (pc' := 8) (ls' := [some (.ref 0), some (.ref h.length), none, none]) (st' := []) rfl rfl ?_
  have hl : (h ++ xm_kl h u K G N S).length = h.length + 32 := by rw [xq_len]; rfl
  refine go_new (ci := 13) (fs := xr_fa (h.length + 32) 0) rfl rfl rfl ?_
  rw [hl]
  refine go_a (pc' := 12) (ls' := [some (.ref 0), some (.ref h.length), none, none]) (st' := [.ref (h.length + 32), .ref (h.length + 32)]) rfl rfl ?_
  have key := xm_model z (d + 4) (h ++ xm_kl h u K G N S) (by omega)
  rw [hl] at key
  refine go_i (m := 59) (as := [.ref (h.length + 32)]) (r := [.ref (h.length + 32)]) rfl rfl rfl rfl rfl key (fun v h2 hq => ?_)
  obtain ⟨rfl, o, w, La, Lb, Lc, Ld, Le, Lf, Lg, Lh, Li, ho, hw, hk, e⟩ := hq
  rw [hl, List.append_assoc] at e
  subst e
  refine go_a (pc' := 16) (ls' := [some (.ref 0), some (.ref h.length), some (.ref (h.length + 32)), none]) (st' := []) rfl rfl ?_
  refine go_a (pc' := 17) (ls' := [some (.ref 0), some (.ref h.length), some (.ref (h.length + 32)), none]) (st' := [.int 0]) rfl rfl ?_
  refine go_a (pc' := 18) (ls' := [some (.ref 0), some (.ref h.length), some (.ref (h.length + 32)), some (.int 0)]) (st' := []) rfl rfl ?_
  exact hg u o w K G N S La Lb Lc Ld Le Lf Lg Lh Li (by omega) (by omega) lK lG lN lS hk
theorem xl_law6 (z : Value) (hz : z = .null ∨ ∃ k, z = .ref k) (d : Nat) (h : xx_H) (hc : 11 ≤ h.length) (b1 b2 b3 ls : List Value) (k1 : xs_B b1) (k2 : xs_B b2) (k3 : xs_B b3) (kl : xs_B ls) (hl0 : 0 < ls.length) (t1 : xs_T h 1 2 b1) (t2 : xs_T h 3 4 b2) (t3 : xs_T h 5 6 b3) (tl : xs_T h 7 8 ls) (hsp : xs_sp b1 + xs_sp b2 + xs_sp b3 ≤ 63) (y0 y1 y2 y3 y4 y5 : Int32) (h0 : h[0]? = some (.inl (.int, [.int y0, .int y1, .int y2, .int y3, .int y4, .int y5]))) : xx_go (xt_P z) (d + 8) 0 0 [some (.ref 0), none, none, none] [] h (xl_Q h) := by
  refine xl_begin z hz d h hc b1 b2 b3 ls k1 k2 k3 kl hl0 t1 t2 t3 tl hsp _ (fun u o w K G N S La Lb Lc Ld Le Lf Lg Lh Li hu ho lK lG lN lS hk => ?_)
  exact xl_turn z d h u o w K G N S La Lb Lc Ld Le Lf Lg Lh Li hc hu ho y0 y1 y2 y3 y4 y5 h0 (by rw [xl_len h u o w K G N S La Lb Lc Ld Le Lf Lg Lh Li hc hu]; omega) (xl_sz h u o w K G N S La Lb Lc Ld Le Lf Lg Lh Li hc hu lK lG lN lS hk)
theorem xl_law5 (z : Value) (hz : z = .null ∨ ∃ k, z = .ref k) (d : Nat) (h : xx_H) (hc : 11 ≤ h.length) (b1 b2 b3 ls : List Value) (k1 : xs_B b1) (k2 : xs_B b2) (k3 : xs_B b3) (kl : xs_B ls) (hl0 : 0 < ls.length) (t1 : xs_T h 1 2 b1) (t2 : xs_T h 3 4 b2) (t3 : xs_T h 5 6 b3) (tl : xs_T h 7 8 ls) (hsp : xs_sp b1 + xs_sp b2 + xs_sp b3 ≤ 63) (A : List Value) (h0 : h[0]? = some (.inl (.int, A))) (hA : A.length < 6) : xx_go (xt_P z) (d + 8) 0 0 [some (.ref 0), none, none, none] [] h (xl_Q h) := by
  refine xl_begin z hz d h hc b1 b2 b3 ls k1 k2 k3 kl hl0 t1 t2 t3 tl hsp _ (fun u o w K G N S La Lb Lc Ld Le Lf Lg Lh Li hu ho lK lG lN lS hk => ?_)
  have s0 : (xl_H h u o w K G N S La Lb Lc Ld Le Lf Lg Lh Li)[0]? = some (.inl (.int, A)) := (xl_low h u o w K G N S La Lb Lc Ld Le Lf Lg Lh Li hc hu 0 (by omega)).trans h0
  refine go_a (pc' := 19) (ls' := [some (.ref 0), some (.ref h.length), some (.ref (h.length + 32)), some (.int 0)]) (st' := [.int 0]) rfl rfl ?_
  refine go_a (pc' := 20) (ls' := [some (.ref 0), some (.ref h.length), some (.ref (h.length + 32)), some (.int 0)]) (st' := [.ref 0, .int 0]) rfl rfl ?_
  refine go_len rfl s0 ?_
  refine go_a (pc' := 23) (ls' := [some (.ref 0), some (.ref h.length), some (.ref (h.length + 32)), some (.int 0)]) (st' := [.int 6, .int (Int32.ofNat A.length), .int 0]) rfl rfl ?_
  refine go_a (pc' := 24) (ls' := [some (.ref 0), some (.ref h.length), some (.ref (h.length + 32)), some (.int 0)]) (st' := [.int (Int32.ofNat A.length - 6), .int 0]) rfl rfl ?_
  refine go_if (t := 332) (off := 308) (r := []) rfl rfl rfl (fun _ => ?_) (fun hf => absurd ?_ (of_decide_eq_false hf))
  · refine go_a (pc' := 333) (ls' := [some (.ref 0), some (.ref h.length), some (.ref (h.length + 32)), some (.int 0)]) (st' := [.int 1]) rfl rfl ?_
    exact go_r rfl rfl rfl rfl rfl rfl ⟨rfl, by rw [xl_len h u o w K G N S La Lb Lc Ld Le Lf Lg Lh Li hc hu]; omega, xl_sz h u o w K G N S La Lb Lc Ld Le Lf Lg Lh Li hc hu lK lG lN lS hk⟩
  · match A.length, hA with
    | 0, _ => decide
    | 1, _ => decide
    | 2, _ => decide
    | 3, _ => decide
    | 4, _ => decide
    | 5, _ => decide
    | q + 6, hq => exact absurd hq (by omega)
