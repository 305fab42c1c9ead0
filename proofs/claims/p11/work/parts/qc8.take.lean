theorem mi_zst {P : xx_P} {d k pc a n : Nat} {ls : xx_L} {r : List Value} {hp : xx_H} {Q : Option Value → xx_H → Prop} {e x : Int} {f : Int → Int} (hc : xp_code P k pc = some .bastore) (hh : hp[a]? = some (.inl (.boolean, xa_f n f))) (ha : xp_n0 P ≤ a) (h1 : 0 ≤ e) (h2 : e < n) (hn : n ≤ 1000000) (hy : x = 0 ∨ x = 1) (hg : xx_go P d k (pc + 1) ls r (hp.set a (.inl (.boolean, (xa_f n f).set e.toNat (.int (iI x))))) Q) : xx_go P d k pc ls (.int (iI x) :: .int (iI e) :: .ref a :: r) hp Q := go_zst hc hh ha (iI_nn h1 (by omega)) (iI_clamp h1 (by omega)) (by rw [xa_f_len]; omega) (by rcases hy with e | e <;> rw [e] <;> rfl) hg
theorem mm_take (z : Value) (d : Nat) (b : Int) (h R : xx_H) (I : Nat → Int) (A : Nat → Int → Int) (N : Int → Int) (hc : 12 ≤ h.length) (hb : b = 0 ∨ b = 1) (t0 : 0 ≤ I 41) (t1 : I 41 < 100) : xx_cl (xt_P z) (d + 1) 133 [.ref h.length, .int (iI b)] (mh h R I A N) (fun v h1 => v = none ∧ h1 = mh h R (su I 41 (I 41 + 1)) (sa (sa A 27 (I 41) b) 28 (I 41) (I 46)) N) := by
  refine cl_go rfl ?_
  show xx_go (xt_P z) d 133 0 [some (.ref h.length), some (.int (iI b))] [] (mh h R I A N) _
  refine go_a (pc' := 1) (ls' := [some (.ref h.length), some (.int (iI b))]) (st' := [.ref h.length]) rfl rfl ?_
  refine go_get rfl mh_o rfl rfl ?_
  refine go_a (pc' := 5) (ls' := [some (.ref h.length), some (.int (iI b))]) (st' := [.ref h.length, .ref (h.length + 27)]) rfl rfl ?_
  refine go_get (v := .int (iI (I 41))) rfl mh_o rfl rfl ?_
  refine go_a (pc' := 9) (ls' := [some (.ref h.length), some (.int (iI b))]) (st' := [.int (iI b), .int (iI (I 41)), .ref (h.length + 27)]) rfl rfl ?_
  refine mi_zst rfl mh_a27 (show 12 ≤ _ by omega) t0 (show I 41 < (100 : Nat) by omega) (by decide) hb ?_
  rw [mh_w27 t0]
  show xx_go (xt_P z) d 133 10 [some (.ref h.length), some (.int (iI b))] [] (mh h R I (sa A 27 (I 41) b) N) _
  refine go_a (pc' := 11) (ls' := [some (.ref h.length), some (.int (iI b))]) (st' := [.ref h.length]) rfl rfl ?_
  refine go_get rfl mh_o rfl rfl ?_
  refine go_a (pc' := 15) (ls' := [some (.ref h.length), some (.int (iI b))]) (st' := [.ref h.length, .ref (h.length + 28)]) rfl rfl ?_
  refine go_get (v := .int (iI (I 41))) rfl mh_o rfl rfl ?_
  refine go_a (pc' := 19) (ls' := [some (.ref h.length), some (.int (iI b))]) (st' := [.ref h.length, .int (iI (I 41)), .ref (h.length + 28)]) rfl rfl ?_
  refine go_get (v := .int (iI (I 46))) rfl mh_o rfl rfl ?_
  refine mi_ist rfl mh_a28 (show 12 ≤ _ by omega) (by omega) (by omega) (by decide) ?_
  rw [mh_w28 (by omega)]
  refine go_a (pc' := 24) (ls' := [some (.ref h.length), some (.int (iI b))]) (st' := [.ref h.length]) rfl rfl ?_
  refine go_a (pc' := 25) (ls' := [some (.ref h.length), some (.int (iI b))]) (st' := [.ref h.length, .ref h.length]) rfl rfl ?_
  refine go_get (v := .int (iI (I 41))) rfl mh_o rfl rfl ?_
  refine go_a (pc' := 29) (ls' := [some (.ref h.length), some (.int (iI b))]) (st' := [.int (iI 1), .int (iI (I 41)), .ref h.length]) rfl rfl ?_
  refine mi_add rfl ?_
  refine go_put (j := 41) rfl mh_o rfl rfl (show 12 ≤ _ from hc) (show 41 < 86 by decide) rfl rfl ?_
  rw [mh_p41]
  exact go_r rfl rfl rfl rfl rfl rfl ⟨rfl, rfl⟩

