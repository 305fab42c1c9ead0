/-! ClauseKernelModel() -/
theorem xr_rep_set {n j : Nat} (hj : j < n) (x y : Value) : (List.replicate j x ++ List.replicate (n - j) y).set j x = List.replicate (j + 1) x ++ List.replicate (n - (j + 1)) y := by
  rw [List.set_append_right _ _ (by rw [List.length_replicate]; exact Nat.le_refl _), List.length_replicate, Nat.sub_self, show n - j = n - (j + 1) + 1 by omega, List.replicate_succ, List.replicate_succ', List.append_assoc]
  rfl
theorem xm_heads (z : Value) (d : Nat) (h : xx_H) (La Lb Lc Ld Le Lf Lg Lh Li : List Value) (Q : Option Value → xx_H → Prop) (hc : 11 ≤ h.length) (hQ : xx_go (xt_P z) d 59 476 [some (.ref h.length), some (.int (nI 8192))] [] (h ++ xr_B h.length (nI 0) (nI 0) (nI 0) La Lb Lc Ld Le (List.replicate 8192 (.int (-1))) Lg Lh Li) Q) : ∀ (n j : Nat), j + n = 8192 → xx_go (xt_P z) d 59 456 [some (.ref h.length), some (.int (nI j))] [] (h ++ xr_B h.length (nI 0) (nI 0) (nI 0) La Lb Lc Ld Le (List.replicate j (.int (-1)) ++ List.replicate (8192 - j) (.int 0)) Lg Lh Li) Q := by
  intro n
  induction n with
  | zero =>
    intro j hj
    have hj : j = 8192 := by omega
    subst hj
    rw [Nat.sub_self, show List.replicate 0 (Value.int 0) = [] from rfl, List.append_nil]
    refine go_a (pc' := 457) (ls' := [some (.ref h.length), some (.int (nI 8192))]) (st' := [(.int (nI 8192))]) rfl rfl ?_
    refine go_a (pc' := 460) (ls' := [some (.ref h.length), some (.int (nI 8192))]) (st' := [.int (nI 8192), (.int (nI 8192))]) rfl rfl ?_
    refine go_if (t := 476) (off := 16) (r := []) rfl rfl rfl (fun _ => hQ) (fun hf => absurd (nI_le (a := 8192) (b := 8192) (Nat.le_refl _) (by omega)) (of_decide_eq_false hf))
  | succ n ih =>
    intro j hj
    refine go_a (pc' := 457) (ls' := [some (.ref h.length), some (.int (nI j))]) (st' := [(.int (nI j))]) rfl rfl ?_
    refine go_a (pc' := 460) (ls' := [some (.ref h.length), some (.int (nI j))]) (st' := [.int (nI 8192), (.int (nI j))]) rfl rfl ?_
    refine go_if (t := 476) (off := 16) (r := []) rfl rfl rfl (fun hf => absurd (of_decide_eq_true hf) (nI_ge (by omega) (by omega))) (fun _ => ?_)
    refine go_a (pc' := 464) (ls' := [some (.ref h.length), some (.int (nI j))]) (st' := [(.ref h.length)]) rfl rfl ?_
    refine go_get rfl xq_get0 rfl rfl ?_
    refine go_a (pc' := 468) (ls' := [some (.ref h.length), some (.int (nI j))]) (st' := [(.int (nI j)), (.ref (h.length + 7))]) rfl rfl ?_
    refine go_a (pc' := 469) (ls' := [some (.ref h.length), some (.int (nI j))]) (st' := [(.int (-1)), (.int (nI j)), (.ref (h.length + 7))]) rfl rfl ?_
    refine go_ist (m := j) rfl (xq_get 7) (show 11 ≤ _ by omega) (nI_pos (by omega)) (nI_clamp (by omega)) (by rw [List.length_append, List.length_replicate, List.length_replicate]; omega) ?_
    rw [xr_wLf, xr_rep_set (by omega)]
    refine go_a (pc' := 473) (ls' := [some (.ref h.length), some (.int (nI (j + 1)))]) (st' := []) rfl (by rw [← nI_1 j]; rfl) ?_
    exact go_a (pc' := 456) rfl rfl (ih (j + 1) (by omega))
theorem xs_i_z (n : Nat) (x : Int32) : xs_i (xr_z n x) := xs_rep_i n x
theorem xr_ok0 : xr_ok 0 0 (xr_z 140000 0) (xr_z 140000 0) (xr_z 140000 0) (xr_z 140000 0) (xr_z 140000 0) (List.replicate 8192 (.int (-1))) (xr_z 60000 0) (xr_z 5000 0) (xr_z 12 0) := ⟨by omega, Nat.le_refl _, ⟨List.length_replicate, List.length_replicate, List.length_replicate, List.length_replicate, List.length_replicate, List.length_replicate, List.length_replicate, List.length_replicate, List.length_replicate⟩, ⟨xs_i_z _ _, xs_i_z _ _, xs_i_z _ _, xs_i_z _ _⟩, fun k hk => absurd hk (Nat.not_lt_zero _), fun k hk => absurd hk (Nat.not_lt_zero _), fun k hk => ⟨-1, Or.inl rfl, by rw [List.getElem?_replicate, if_pos hk]⟩⟩
theorem xr_R_at {h h1 : xx_H} {b : Nat} (hR : xr_R h b h1) : ∃ fs : List Value, h1[h.length]? = some (.inr (13, fs)) := by
  obtain ⟨o, w, La, Lb, Lc, Ld, Le, Lf, Lg, Lh, Li, ho, hw, K, rfl⟩ := hR
  exact ⟨_, xq_get0⟩
set_option maxRecDepth 20000 in
theorem xm_saids0 (z : Value) (d : Nat) (h h0 : xx_H) (Q : Option Value → xx_H → Prop) (hc : 11 ≤ h.length) (hR0 : xr_R h 0 h0) (hg : ∀ h1 : xx_H, xr_R h 11 h1 → xx_go (xt_P z) (d + 3) 59 643 [some (.ref h.length), some (.int (nI 8192))] [] h1 Q) : xx_go (xt_P z) (d + 3) 59 476 [some (.ref h.length), some (.int (nI 8192))] [] h0 Q := by
  obtain ⟨fs, hfs⟩ := xr_R_at hR0
  refine go_a (pc' := 477) (ls' := [some (.ref h.length), some (.int (nI 8192))]) (st' := [(.ref h.length)]) rfl rfl ?_
  refine go_a (pc' := 479) (ls' := [some (.ref h.length), some (.int (nI 8192))]) (st' := [(.int 110), (.ref h.length)]) rfl rfl ?_
  refine go_a (pc' := 481) (ls' := [some (.ref h.length), some (.int (nI 8192))]) (st' := [(.int 105), (.int 110), (.ref h.length)]) rfl rfl ?_
  refine go_a (pc' := 483) (ls' := [some (.ref h.length), some (.int (nI 8192))]) (st' := [(.int 108), (.int 105), (.int 110), (.ref h.length)]) rfl rfl ?_
  refine go_a (pc' := 484) (ls' := [some (.ref h.length), some (.int (nI 8192))]) (st' := [(.int 0), (.int 108), (.int 105), (.int 110), (.ref h.length)]) rfl rfl ?_
  refine go_a (pc' := 485) (ls' := [some (.ref h.length), some (.int (nI 8192))]) (st' := [(.int 0), (.int 0), (.int 108), (.int 105), (.int 110), (.ref h.length)]) rfl rfl ?_
  refine go_a (pc' := 486) (ls' := [some (.ref h.length), some (.int (nI 8192))]) (st' := [(.int 0), (.int 0), (.int 0), (.int 108), (.int 105), (.int 110), (.ref h.length)]) rfl rfl ?_
  refine go_a (pc' := 487) (ls' := [some (.ref h.length), some (.int (nI 8192))]) (st' := [(.int 0), (.int 0), (.int 0), (.int 0), (.int 108), (.int 105), (.int 110), (.ref h.length)]) rfl rfl ?_
  refine go_a (pc' := 488) (ls' := [some (.ref h.length), some (.int (nI 8192))]) (st' := [(.int 0), (.int 0), (.int 0), (.int 0), (.int 0), (.int 108), (.int 105), (.int 110), (.ref h.length)]) rfl rfl ?_
  refine go_v (m := 60) (as := [.ref h.length, .int 110, .int 105, .int 108, .int 0, .int 0, .int 0, .int 0, .int 0]) (r := []) rfl rfl rfl hfs rfl rfl (xm_said z d h h0 0 110 105 108 0 0 0 0 0 hc (by omega) hR0) (fun v h1 hq1 => ?_)
  obtain ⟨rfl, hR1⟩ := hq1
  clear hfs hR0
  show xx_go (xt_P z) (d + 3) 59 491 [some (.ref h.length), some (.int (nI 8192))] [] h1 Q
  obtain ⟨fs, hfs⟩ := xr_R_at hR1
  refine go_a (pc' := 492) (ls' := [some (.ref h.length), some (.int (nI 8192))]) (st' := [(.ref h.length)]) rfl rfl ?_
  refine go_a (pc' := 494) (ls' := [some (.ref h.length), some (.int (nI 8192))]) (st' := [(.int 116), (.ref h.length)]) rfl rfl ?_
  refine go_a (pc' := 495) (ls' := [some (.ref h.length), some (.int (nI 8192))]) (st' := [(.int 0), (.int 116), (.ref h.length)]) rfl rfl ?_
  refine go_a (pc' := 496) (ls' := [some (.ref h.length), some (.int (nI 8192))]) (st' := [(.int 0), (.int 0), (.int 116), (.ref h.length)]) rfl rfl ?_
  refine go_a (pc' := 497) (ls' := [some (.ref h.length), some (.int (nI 8192))]) (st' := [(.int 0), (.int 0), (.int 0), (.int 116), (.ref h.length)]) rfl rfl ?_
  refine go_a (pc' := 498) (ls' := [some (.ref h.length), some (.int (nI 8192))]) (st' := [(.int 0), (.int 0), (.int 0), (.int 0), (.int 116), (.ref h.length)]) rfl rfl ?_
  refine go_a (pc' := 499) (ls' := [some (.ref h.length), some (.int (nI 8192))]) (st' := [(.int 0), (.int 0), (.int 0), (.int 0), (.int 0), (.int 116), (.ref h.length)]) rfl rfl ?_
  refine go_a (pc' := 500) (ls' := [some (.ref h.length), some (.int (nI 8192))]) (st' := [(.int 0), (.int 0), (.int 0), (.int 0), (.int 0), (.int 0), (.int 116), (.ref h.length)]) rfl rfl ?_
  refine go_a (pc' := 501) (ls' := [some (.ref h.length), some (.int (nI 8192))]) (st' := [(.int 0), (.int 0), (.int 0), (.int 0), (.int 0), (.int 0), (.int 0), (.int 116), (.ref h.length)]) rfl rfl ?_
  refine go_v (m := 60) (as := [.ref h.length, .int 116, .int 0, .int 0, .int 0, .int 0, .int 0, .int 0, .int 0]) (r := []) rfl rfl rfl hfs rfl rfl (xm_said z d h h1 1 116 0 0 0 0 0 0 0 hc (by omega) hR1) (fun v h2 hq1 => ?_)
  obtain ⟨rfl, hR2⟩ := hq1
  clear hfs hR1
  show xx_go (xt_P z) (d + 3) 59 504 [some (.ref h.length), some (.int (nI 8192))] [] h2 Q
  obtain ⟨fs, hfs⟩ := xr_R_at hR2
  refine go_a (pc' := 505) (ls' := [some (.ref h.length), some (.int (nI 8192))]) (st' := [(.ref h.length)]) rfl rfl ?_
  refine go_a (pc' := 507) (ls' := [some (.ref h.length), some (.int (nI 8192))]) (st' := [(.int 113), (.ref h.length)]) rfl rfl ?_
  refine go_a (pc' := 509) (ls' := [some (.ref h.length), some (.int (nI 8192))]) (st' := [(.int 117), (.int 113), (.ref h.length)]) rfl rfl ?_
  refine go_a (pc' := 511) (ls' := [some (.ref h.length), some (.int (nI 8192))]) (st' := [(.int 111), (.int 117), (.int 113), (.ref h.length)]) rfl rfl ?_
  refine go_a (pc' := 513) (ls' := [some (.ref h.length), some (.int (nI 8192))]) (st' := [(.int 116), (.int 111), (.int 117), (.int 113), (.ref h.length)]) rfl rfl ?_
  refine go_a (pc' := 515) (ls' := [some (.ref h.length), some (.int (nI 8192))]) (st' := [(.int 101), (.int 116), (.int 111), (.int 117), (.int 113), (.ref h.length)]) rfl rfl ?_
  refine go_a (pc' := 516) (ls' := [some (.ref h.length), some (.int (nI 8192))]) (st' := [(.int 0), (.int 101), (.int 116), (.int 111), (.int 117), (.int 113), (.ref h.length)]) rfl rfl ?_
  refine go_a (pc' := 517) (ls' := [some (.ref h.length), some (.int (nI 8192))]) (st' := [(.int 0), (.int 0), (.int 101), (.int 116), (.int 111), (.int 117), (.int 113), (.ref h.length)]) rfl rfl ?_
  refine go_a (pc' := 518) (ls' := [some (.ref h.length), some (.int (nI 8192))]) (st' := [(.int 0), (.int 0), (.int 0), (.int 101), (.int 116), (.int 111), (.int 117), (.int 113), (.ref h.length)]) rfl rfl ?_
  refine go_v (m := 60) (as := [.ref h.length, .int 113, .int 117, .int 111, .int 116, .int 101, .int 0, .int 0, .int 0]) (r := []) rfl rfl rfl hfs rfl rfl (xm_said z d h h2 2 113 117 111 116 101 0 0 0 hc (by omega) hR2) (fun v h3 hq1 => ?_)
  obtain ⟨rfl, hR3⟩ := hq1
  clear hfs hR2
  show xx_go (xt_P z) (d + 3) 59 521 [some (.ref h.length), some (.int (nI 8192))] [] h3 Q
  obtain ⟨fs, hfs⟩ := xr_R_at hR3
  refine go_a (pc' := 522) (ls' := [some (.ref h.length), some (.int (nI 8192))]) (st' := [(.ref h.length)]) rfl rfl ?_
  refine go_a (pc' := 524) (ls' := [some (.ref h.length), some (.int (nI 8192))]) (st' := [(.int 105), (.ref h.length)]) rfl rfl ?_
  refine go_a (pc' := 526) (ls' := [some (.ref h.length), some (.int (nI 8192))]) (st' := [(.int 102), (.int 105), (.ref h.length)]) rfl rfl ?_
  refine go_a (pc' := 527) (ls' := [some (.ref h.length), some (.int (nI 8192))]) (st' := [(.int 0), (.int 102), (.int 105), (.ref h.length)]) rfl rfl ?_
  refine go_a (pc' := 528) (ls' := [some (.ref h.length), some (.int (nI 8192))]) (st' := [(.int 0), (.int 0), (.int 102), (.int 105), (.ref h.length)]) rfl rfl ?_
  refine go_a (pc' := 529) (ls' := [some (.ref h.length), some (.int (nI 8192))]) (st' := [(.int 0), (.int 0), (.int 0), (.int 102), (.int 105), (.ref h.length)]) rfl rfl ?_
  refine go_a (pc' := 530) (ls' := [some (.ref h.length), some (.int (nI 8192))]) (st' := [(.int 0), (.int 0), (.int 0), (.int 0), (.int 102), (.int 105), (.ref h.length)]) rfl rfl ?_
  refine go_a (pc' := 531) (ls' := [some (.ref h.length), some (.int (nI 8192))]) (st' := [(.int 0), (.int 0), (.int 0), (.int 0), (.int 0), (.int 102), (.int 105), (.ref h.length)]) rfl rfl ?_
  refine go_a (pc' := 532) (ls' := [some (.ref h.length), some (.int (nI 8192))]) (st' := [(.int 0), (.int 0), (.int 0), (.int 0), (.int 0), (.int 0), (.int 102), (.int 105), (.ref h.length)]) rfl rfl ?_
  refine go_v (m := 60) (as := [.ref h.length, .int 105, .int 102, .int 0, .int 0, .int 0, .int 0, .int 0, .int 0]) (r := []) rfl rfl rfl hfs rfl rfl (xm_said z d h h3 3 105 102 0 0 0 0 0 0 hc (by omega) hR3) (fun v h4 hq1 => ?_)
  obtain ⟨rfl, hR4⟩ := hq1
  clear hfs hR3
  show xx_go (xt_P z) (d + 3) 59 535 [some (.ref h.length), some (.int (nI 8192))] [] h4 Q
  obtain ⟨fs, hfs⟩ := xr_R_at hR4
  refine go_a (pc' := 536) (ls' := [some (.ref h.length), some (.int (nI 8192))]) (st' := [(.ref h.length)]) rfl rfl ?_
  refine go_a (pc' := 538) (ls' := [some (.ref h.length), some (.int (nI 8192))]) (st' := [(.int 101), (.ref h.length)]) rfl rfl ?_
  refine go_a (pc' := 540) (ls' := [some (.ref h.length), some (.int (nI 8192))]) (st' := [(.int 113), (.int 101), (.ref h.length)]) rfl rfl ?_
  refine go_a (pc' := 542) (ls' := [some (.ref h.length), some (.int (nI 8192))]) (st' := [(.int 117), (.int 113), (.int 101), (.ref h.length)]) rfl rfl ?_
  refine go_a (pc' := 544) (ls' := [some (.ref h.length), some (.int (nI 8192))]) (st' := [(.int 97), (.int 117), (.int 113), (.int 101), (.ref h.length)]) rfl rfl ?_
  refine go_a (pc' := 546) (ls' := [some (.ref h.length), some (.int (nI 8192))]) (st' := [(.int 108), (.int 97), (.int 117), (.int 113), (.int 101), (.ref h.length)]) rfl rfl ?_
  refine go_a (pc' := 547) (ls' := [some (.ref h.length), some (.int (nI 8192))]) (st' := [(.int 0), (.int 108), (.int 97), (.int 117), (.int 113), (.int 101), (.ref h.length)]) rfl rfl ?_
  refine go_a (pc' := 548) (ls' := [some (.ref h.length), some (.int (nI 8192))]) (st' := [(.int 0), (.int 0), (.int 108), (.int 97), (.int 117), (.int 113), (.int 101), (.ref h.length)]) rfl rfl ?_
  refine go_a (pc' := 549) (ls' := [some (.ref h.length), some (.int (nI 8192))]) (st' := [(.int 0), (.int 0), (.int 0), (.int 108), (.int 97), (.int 117), (.int 113), (.int 101), (.ref h.length)]) rfl rfl ?_
  refine go_v (m := 60) (as := [.ref h.length, .int 101, .int 113, .int 117, .int 97, .int 108, .int 0, .int 0, .int 0]) (r := []) rfl rfl rfl hfs rfl rfl (xm_said z d h h4 4 101 113 117 97 108 0 0 0 hc (by omega) hR4) (fun v h5 hq1 => ?_)
  obtain ⟨rfl, hR5⟩ := hq1
  clear hfs hR4
  show xx_go (xt_P z) (d + 3) 59 552 [some (.ref h.length), some (.int (nI 8192))] [] h5 Q
  obtain ⟨fs, hfs⟩ := xr_R_at hR5
  refine go_a (pc' := 553) (ls' := [some (.ref h.length), some (.int (nI 8192))]) (st' := [(.ref h.length)]) rfl rfl ?_
  refine go_a (pc' := 555) (ls' := [some (.ref h.length), some (.int (nI 8192))]) (st' := [(.int 99), (.ref h.length)]) rfl rfl ?_
  refine go_a (pc' := 557) (ls' := [some (.ref h.length), some (.int (nI 8192))]) (st' := [(.int 111), (.int 99), (.ref h.length)]) rfl rfl ?_
  refine go_a (pc' := 559) (ls' := [some (.ref h.length), some (.int (nI 8192))]) (st' := [(.int 110), (.int 111), (.int 99), (.ref h.length)]) rfl rfl ?_
  refine go_a (pc' := 561) (ls' := [some (.ref h.length), some (.int (nI 8192))]) (st' := [(.int 115), (.int 110), (.int 111), (.int 99), (.ref h.length)]) rfl rfl ?_
  refine go_a (pc' := 562) (ls' := [some (.ref h.length), some (.int (nI 8192))]) (st' := [(.int 0), (.int 115), (.int 110), (.int 111), (.int 99), (.ref h.length)]) rfl rfl ?_
  refine go_a (pc' := 563) (ls' := [some (.ref h.length), some (.int (nI 8192))]) (st' := [(.int 0), (.int 0), (.int 115), (.int 110), (.int 111), (.int 99), (.ref h.length)]) rfl rfl ?_
  refine go_a (pc' := 564) (ls' := [some (.ref h.length), some (.int (nI 8192))]) (st' := [(.int 0), (.int 0), (.int 0), (.int 115), (.int 110), (.int 111), (.int 99), (.ref h.length)]) rfl rfl ?_
  refine go_a (pc' := 565) (ls' := [some (.ref h.length), some (.int (nI 8192))]) (st' := [(.int 0), (.int 0), (.int 0), (.int 0), (.int 115), (.int 110), (.int 111), (.int 99), (.ref h.length)]) rfl rfl ?_
  refine go_v (m := 60) (as := [.ref h.length, .int 99, .int 111, .int 110, .int 115, .int 0, .int 0, .int 0, .int 0]) (r := []) rfl rfl rfl hfs rfl rfl (xm_said z d h h5 5 99 111 110 115 0 0 0 0 hc (by omega) hR5) (fun v h6 hq1 => ?_)
  obtain ⟨rfl, hR6⟩ := hq1
  clear hfs hR5
  show xx_go (xt_P z) (d + 3) 59 568 [some (.ref h.length), some (.int (nI 8192))] [] h6 Q
  obtain ⟨fs, hfs⟩ := xr_R_at hR6
  refine go_a (pc' := 569) (ls' := [some (.ref h.length), some (.int (nI 8192))]) (st' := [(.ref h.length)]) rfl rfl ?_
  refine go_a (pc' := 571) (ls' := [some (.ref h.length), some (.int (nI 8192))]) (st' := [(.int 105), (.ref h.length)]) rfl rfl ?_
  refine go_a (pc' := 573) (ls' := [some (.ref h.length), some (.int (nI 8192))]) (st' := [(.int 109), (.int 105), (.ref h.length)]) rfl rfl ?_
  refine go_a (pc' := 575) (ls' := [some (.ref h.length), some (.int (nI 8192))]) (st' := [(.int 112), (.int 109), (.int 105), (.ref h.length)]) rfl rfl ?_
  refine go_a (pc' := 577) (ls' := [some (.ref h.length), some (.int (nI 8192))]) (st' := [(.int 108), (.int 112), (.int 109), (.int 105), (.ref h.length)]) rfl rfl ?_
  refine go_a (pc' := 579) (ls' := [some (.ref h.length), some (.int (nI 8192))]) (st' := [(.int 105), (.int 108), (.int 112), (.int 109), (.int 105), (.ref h.length)]) rfl rfl ?_
  refine go_a (pc' := 581) (ls' := [some (.ref h.length), some (.int (nI 8192))]) (st' := [(.int 101), (.int 105), (.int 108), (.int 112), (.int 109), (.int 105), (.ref h.length)]) rfl rfl ?_
  refine go_a (pc' := 583) (ls' := [some (.ref h.length), some (.int (nI 8192))]) (st' := [(.int 115), (.int 101), (.int 105), (.int 108), (.int 112), (.int 109), (.int 105), (.ref h.length)]) rfl rfl ?_
  refine go_a (pc' := 584) (ls' := [some (.ref h.length), some (.int (nI 8192))]) (st' := [(.int 0), (.int 115), (.int 101), (.int 105), (.int 108), (.int 112), (.int 109), (.int 105), (.ref h.length)]) rfl rfl ?_
  refine go_v (m := 60) (as := [.ref h.length, .int 105, .int 109, .int 112, .int 108, .int 105, .int 101, .int 115, .int 0]) (r := []) rfl rfl rfl hfs rfl rfl (xm_said z d h h6 6 105 109 112 108 105 101 115 0 hc (by omega) hR6) (fun v h7 hq1 => ?_)
  obtain ⟨rfl, hR7⟩ := hq1
  clear hfs hR6
  show xx_go (xt_P z) (d + 3) 59 587 [some (.ref h.length), some (.int (nI 8192))] [] h7 Q
  obtain ⟨fs, hfs⟩ := xr_R_at hR7
  refine go_a (pc' := 588) (ls' := [some (.ref h.length), some (.int (nI 8192))]) (st' := [(.ref h.length)]) rfl rfl ?_
  refine go_a (pc' := 590) (ls' := [some (.ref h.length), some (.int (nI 8192))]) (st' := [(.int 43), (.ref h.length)]) rfl rfl ?_
  refine go_a (pc' := 591) (ls' := [some (.ref h.length), some (.int (nI 8192))]) (st' := [(.int 0), (.int 43), (.ref h.length)]) rfl rfl ?_
  refine go_a (pc' := 592) (ls' := [some (.ref h.length), some (.int (nI 8192))]) (st' := [(.int 0), (.int 0), (.int 43), (.ref h.length)]) rfl rfl ?_
  refine go_a (pc' := 593) (ls' := [some (.ref h.length), some (.int (nI 8192))]) (st' := [(.int 0), (.int 0), (.int 0), (.int 43), (.ref h.length)]) rfl rfl ?_
  refine go_a (pc' := 594) (ls' := [some (.ref h.length), some (.int (nI 8192))]) (st' := [(.int 0), (.int 0), (.int 0), (.int 0), (.int 43), (.ref h.length)]) rfl rfl ?_
  refine go_a (pc' := 595) (ls' := [some (.ref h.length), some (.int (nI 8192))]) (st' := [(.int 0), (.int 0), (.int 0), (.int 0), (.int 0), (.int 43), (.ref h.length)]) rfl rfl ?_
  refine go_a (pc' := 596) (ls' := [some (.ref h.length), some (.int (nI 8192))]) (st' := [(.int 0), (.int 0), (.int 0), (.int 0), (.int 0), (.int 0), (.int 43), (.ref h.length)]) rfl rfl ?_
  refine go_a (pc' := 597) (ls' := [some (.ref h.length), some (.int (nI 8192))]) (st' := [(.int 0), (.int 0), (.int 0), (.int 0), (.int 0), (.int 0), (.int 0), (.int 43), (.ref h.length)]) rfl rfl ?_
  refine go_v (m := 60) (as := [.ref h.length, .int 43, .int 0, .int 0, .int 0, .int 0, .int 0, .int 0, .int 0]) (r := []) rfl rfl rfl hfs rfl rfl (xm_said z d h h7 7 43 0 0 0 0 0 0 0 hc (by omega) hR7) (fun v h8 hq1 => ?_)
  obtain ⟨rfl, hR8⟩ := hq1
  clear hfs hR7
  show xx_go (xt_P z) (d + 3) 59 600 [some (.ref h.length), some (.int (nI 8192))] [] h8 Q
  obtain ⟨fs, hfs⟩ := xr_R_at hR8
  refine go_a (pc' := 601) (ls' := [some (.ref h.length), some (.int (nI 8192))]) (st' := [(.ref h.length)]) rfl rfl ?_
  refine go_a (pc' := 603) (ls' := [some (.ref h.length), some (.int (nI 8192))]) (st' := [(.int 45), (.ref h.length)]) rfl rfl ?_
  refine go_a (pc' := 604) (ls' := [some (.ref h.length), some (.int (nI 8192))]) (st' := [(.int 0), (.int 45), (.ref h.length)]) rfl rfl ?_
  refine go_a (pc' := 605) (ls' := [some (.ref h.length), some (.int (nI 8192))]) (st' := [(.int 0), (.int 0), (.int 45), (.ref h.length)]) rfl rfl ?_
  refine go_a (pc' := 606) (ls' := [some (.ref h.length), some (.int (nI 8192))]) (st' := [(.int 0), (.int 0), (.int 0), (.int 45), (.ref h.length)]) rfl rfl ?_
  refine go_a (pc' := 607) (ls' := [some (.ref h.length), some (.int (nI 8192))]) (st' := [(.int 0), (.int 0), (.int 0), (.int 0), (.int 45), (.ref h.length)]) rfl rfl ?_
  refine go_a (pc' := 608) (ls' := [some (.ref h.length), some (.int (nI 8192))]) (st' := [(.int 0), (.int 0), (.int 0), (.int 0), (.int 0), (.int 45), (.ref h.length)]) rfl rfl ?_
  refine go_a (pc' := 609) (ls' := [some (.ref h.length), some (.int (nI 8192))]) (st' := [(.int 0), (.int 0), (.int 0), (.int 0), (.int 0), (.int 0), (.int 45), (.ref h.length)]) rfl rfl ?_
  refine go_a (pc' := 610) (ls' := [some (.ref h.length), some (.int (nI 8192))]) (st' := [(.int 0), (.int 0), (.int 0), (.int 0), (.int 0), (.int 0), (.int 0), (.int 45), (.ref h.length)]) rfl rfl ?_
  refine go_v (m := 60) (as := [.ref h.length, .int 45, .int 0, .int 0, .int 0, .int 0, .int 0, .int 0, .int 0]) (r := []) rfl rfl rfl hfs rfl rfl (xm_said z d h h8 8 45 0 0 0 0 0 0 0 hc (by omega) hR8) (fun v h9 hq1 => ?_)
  obtain ⟨rfl, hR9⟩ := hq1
  clear hfs hR8
  show xx_go (xt_P z) (d + 3) 59 613 [some (.ref h.length), some (.int (nI 8192))] [] h9 Q
  obtain ⟨fs, hfs⟩ := xr_R_at hR9
  refine go_a (pc' := 614) (ls' := [some (.ref h.length), some (.int (nI 8192))]) (st' := [(.ref h.length)]) rfl rfl ?_
  refine go_a (pc' := 616) (ls' := [some (.ref h.length), some (.int (nI 8192))]) (st' := [(.int 60), (.ref h.length)]) rfl rfl ?_
  refine go_a (pc' := 617) (ls' := [some (.ref h.length), some (.int (nI 8192))]) (st' := [(.int 0), (.int 60), (.ref h.length)]) rfl rfl ?_
  refine go_a (pc' := 618) (ls' := [some (.ref h.length), some (.int (nI 8192))]) (st' := [(.int 0), (.int 0), (.int 60), (.ref h.length)]) rfl rfl ?_
  refine go_a (pc' := 619) (ls' := [some (.ref h.length), some (.int (nI 8192))]) (st' := [(.int 0), (.int 0), (.int 0), (.int 60), (.ref h.length)]) rfl rfl ?_
  refine go_a (pc' := 620) (ls' := [some (.ref h.length), some (.int (nI 8192))]) (st' := [(.int 0), (.int 0), (.int 0), (.int 0), (.int 60), (.ref h.length)]) rfl rfl ?_
  refine go_a (pc' := 621) (ls' := [some (.ref h.length), some (.int (nI 8192))]) (st' := [(.int 0), (.int 0), (.int 0), (.int 0), (.int 0), (.int 60), (.ref h.length)]) rfl rfl ?_
  refine go_a (pc' := 622) (ls' := [some (.ref h.length), some (.int (nI 8192))]) (st' := [(.int 0), (.int 0), (.int 0), (.int 0), (.int 0), (.int 0), (.int 60), (.ref h.length)]) rfl rfl ?_
  refine go_a (pc' := 623) (ls' := [some (.ref h.length), some (.int (nI 8192))]) (st' := [(.int 0), (.int 0), (.int 0), (.int 0), (.int 0), (.int 0), (.int 0), (.int 60), (.ref h.length)]) rfl rfl ?_
  refine go_v (m := 60) (as := [.ref h.length, .int 60, .int 0, .int 0, .int 0, .int 0, .int 0, .int 0, .int 0]) (r := []) rfl rfl rfl hfs rfl rfl (xm_said z d h h9 9 60 0 0 0 0 0 0 0 hc (by omega) hR9) (fun v h10 hq1 => ?_)
  obtain ⟨rfl, hR10⟩ := hq1
  clear hfs hR9
  show xx_go (xt_P z) (d + 3) 59 626 [some (.ref h.length), some (.int (nI 8192))] [] h10 Q
  obtain ⟨fs, hfs⟩ := xr_R_at hR10
  refine go_a (pc' := 627) (ls' := [some (.ref h.length), some (.int (nI 8192))]) (st' := [(.ref h.length)]) rfl rfl ?_
  refine go_a (pc' := 629) (ls' := [some (.ref h.length), some (.int (nI 8192))]) (st' := [(.int 99), (.ref h.length)]) rfl rfl ?_
  refine go_a (pc' := 631) (ls' := [some (.ref h.length), some (.int (nI 8192))]) (st' := [(.int 111), (.int 99), (.ref h.length)]) rfl rfl ?_
  refine go_a (pc' := 633) (ls' := [some (.ref h.length), some (.int (nI 8192))]) (st' := [(.int 110), (.int 111), (.int 99), (.ref h.length)]) rfl rfl ?_
  refine go_a (pc' := 635) (ls' := [some (.ref h.length), some (.int (nI 8192))]) (st' := [(.int 115), (.int 110), (.int 111), (.int 99), (.ref h.length)]) rfl rfl ?_
  refine go_a (pc' := 637) (ls' := [some (.ref h.length), some (.int (nI 8192))]) (st' := [(.int 112), (.int 115), (.int 110), (.int 111), (.int 99), (.ref h.length)]) rfl rfl ?_
  refine go_a (pc' := 638) (ls' := [some (.ref h.length), some (.int (nI 8192))]) (st' := [(.int 0), (.int 112), (.int 115), (.int 110), (.int 111), (.int 99), (.ref h.length)]) rfl rfl ?_
  refine go_a (pc' := 639) (ls' := [some (.ref h.length), some (.int (nI 8192))]) (st' := [(.int 0), (.int 0), (.int 112), (.int 115), (.int 110), (.int 111), (.int 99), (.ref h.length)]) rfl rfl ?_
  refine go_a (pc' := 640) (ls' := [some (.ref h.length), some (.int (nI 8192))]) (st' := [(.int 0), (.int 0), (.int 0), (.int 112), (.int 115), (.int 110), (.int 111), (.int 99), (.ref h.length)]) rfl rfl ?_
  refine go_v (m := 60) (as := [.ref h.length, .int 99, .int 111, .int 110, .int 115, .int 112, .int 0, .int 0, .int 0]) (r := []) rfl rfl rfl hfs rfl rfl (xm_said z d h h10 10 99 111 110 115 112 0 0 0 hc (by omega) hR10) (fun v h11 hq1 => ?_)
  obtain ⟨rfl, hR11⟩ := hq1
  clear hfs hR10
  exact hg _ hR11
set_option maxRecDepth 20000 in
theorem xm_saids1 (z : Value) (d : Nat) (h h0 : xx_H) (Q : Option Value → xx_H → Prop) (hc : 11 ≤ h.length) (hR0 : xr_R h 11 h0) (hg : ∀ h1 : xx_H, xr_R h 22 h1 → xx_go (xt_P z) (d + 3) 59 832 [some (.ref h.length), some (.int (nI 8192))] [] h1 Q) : xx_go (xt_P z) (d + 3) 59 643 [some (.ref h.length), some (.int (nI 8192))] [] h0 Q := by
  obtain ⟨fs, hfs⟩ := xr_R_at hR0
  refine go_a (pc' := 644) (ls' := [some (.ref h.length), some (.int (nI 8192))]) (st' := [(.ref h.length)]) rfl rfl ?_
  refine go_a (pc' := 646) (ls' := [some (.ref h.length), some (.int (nI 8192))]) (st' := [(.int 99), (.ref h.length)]) rfl rfl ?_
  refine go_a (pc' := 648) (ls' := [some (.ref h.length), some (.int (nI 8192))]) (st' := [(.int 97), (.int 99), (.ref h.length)]) rfl rfl ?_
  refine go_a (pc' := 650) (ls' := [some (.ref h.length), some (.int (nI 8192))]) (st' := [(.int 114), (.int 97), (.int 99), (.ref h.length)]) rfl rfl ?_
  refine go_a (pc' := 651) (ls' := [some (.ref h.length), some (.int (nI 8192))]) (st' := [(.int 0), (.int 114), (.int 97), (.int 99), (.ref h.length)]) rfl rfl ?_
  refine go_a (pc' := 652) (ls' := [some (.ref h.length), some (.int (nI 8192))]) (st' := [(.int 0), (.int 0), (.int 114), (.int 97), (.int 99), (.ref h.length)]) rfl rfl ?_
  refine go_a (pc' := 653) (ls' := [some (.ref h.length), some (.int (nI 8192))]) (st' := [(.int 0), (.int 0), (.int 0), (.int 114), (.int 97), (.int 99), (.ref h.length)]) rfl rfl ?_
  refine go_a (pc' := 654) (ls' := [some (.ref h.length), some (.int (nI 8192))]) (st' := [(.int 0), (.int 0), (.int 0), (.int 0), (.int 114), (.int 97), (.int 99), (.ref h.length)]) rfl rfl ?_
  refine go_a (pc' := 655) (ls' := [some (.ref h.length), some (.int (nI 8192))]) (st' := [(.int 0), (.int 0), (.int 0), (.int 0), (.int 0), (.int 114), (.int 97), (.int 99), (.ref h.length)]) rfl rfl ?_
  refine go_v (m := 60) (as := [.ref h.length, .int 99, .int 97, .int 114, .int 0, .int 0, .int 0, .int 0, .int 0]) (r := []) rfl rfl rfl hfs rfl rfl (xm_said z d h h0 11 99 97 114 0 0 0 0 0 hc (by omega) hR0) (fun v h1 hq1 => ?_)
  obtain ⟨rfl, hR1⟩ := hq1
  clear hfs hR0
  show xx_go (xt_P z) (d + 3) 59 658 [some (.ref h.length), some (.int (nI 8192))] [] h1 Q
  obtain ⟨fs, hfs⟩ := xr_R_at hR1
  refine go_a (pc' := 659) (ls' := [some (.ref h.length), some (.int (nI 8192))]) (st' := [(.ref h.length)]) rfl rfl ?_
  refine go_a (pc' := 661) (ls' := [some (.ref h.length), some (.int (nI 8192))]) (st' := [(.int 99), (.ref h.length)]) rfl rfl ?_
  refine go_a (pc' := 663) (ls' := [some (.ref h.length), some (.int (nI 8192))]) (st' := [(.int 100), (.int 99), (.ref h.length)]) rfl rfl ?_
  refine go_a (pc' := 665) (ls' := [some (.ref h.length), some (.int (nI 8192))]) (st' := [(.int 114), (.int 100), (.int 99), (.ref h.length)]) rfl rfl ?_
  refine go_a (pc' := 666) (ls' := [some (.ref h.length), some (.int (nI 8192))]) (st' := [(.int 0), (.int 114), (.int 100), (.int 99), (.ref h.length)]) rfl rfl ?_
  refine go_a (pc' := 667) (ls' := [some (.ref h.length), some (.int (nI 8192))]) (st' := [(.int 0), (.int 0), (.int 114), (.int 100), (.int 99), (.ref h.length)]) rfl rfl ?_
  refine go_a (pc' := 668) (ls' := [some (.ref h.length), some (.int (nI 8192))]) (st' := [(.int 0), (.int 0), (.int 0), (.int 114), (.int 100), (.int 99), (.ref h.length)]) rfl rfl ?_
  refine go_a (pc' := 669) (ls' := [some (.ref h.length), some (.int (nI 8192))]) (st' := [(.int 0), (.int 0), (.int 0), (.int 0), (.int 114), (.int 100), (.int 99), (.ref h.length)]) rfl rfl ?_
  refine go_a (pc' := 670) (ls' := [some (.ref h.length), some (.int (nI 8192))]) (st' := [(.int 0), (.int 0), (.int 0), (.int 0), (.int 0), (.int 114), (.int 100), (.int 99), (.ref h.length)]) rfl rfl ?_
  refine go_v (m := 60) (as := [.ref h.length, .int 99, .int 100, .int 114, .int 0, .int 0, .int 0, .int 0, .int 0]) (r := []) rfl rfl rfl hfs rfl rfl (xm_said z d h h1 12 99 100 114 0 0 0 0 0 hc (by omega) hR1) (fun v h2 hq1 => ?_)
  obtain ⟨rfl, hR2⟩ := hq1
  clear hfs hR1
  show xx_go (xt_P z) (d + 3) 59 673 [some (.ref h.length), some (.int (nI 8192))] [] h2 Q
  obtain ⟨fs, hfs⟩ := xr_R_at hR2
  refine go_a (pc' := 674) (ls' := [some (.ref h.length), some (.int (nI 8192))]) (st' := [(.ref h.length)]) rfl rfl ?_
  refine go_a (pc' := 676) (ls' := [some (.ref h.length), some (.int (nI 8192))]) (st' := [(.int 110), (.ref h.length)]) rfl rfl ?_
  refine go_a (pc' := 678) (ls' := [some (.ref h.length), some (.int (nI 8192))]) (st' := [(.int 97), (.int 110), (.ref h.length)]) rfl rfl ?_
  refine go_a (pc' := 680) (ls' := [some (.ref h.length), some (.int (nI 8192))]) (st' := [(.int 116), (.int 97), (.int 110), (.ref h.length)]) rfl rfl ?_
  refine go_a (pc' := 682) (ls' := [some (.ref h.length), some (.int (nI 8192))]) (st' := [(.int 112), (.int 116), (.int 97), (.int 110), (.ref h.length)]) rfl rfl ?_
  refine go_a (pc' := 683) (ls' := [some (.ref h.length), some (.int (nI 8192))]) (st' := [(.int 0), (.int 112), (.int 116), (.int 97), (.int 110), (.ref h.length)]) rfl rfl ?_
  refine go_a (pc' := 684) (ls' := [some (.ref h.length), some (.int (nI 8192))]) (st' := [(.int 0), (.int 0), (.int 112), (.int 116), (.int 97), (.int 110), (.ref h.length)]) rfl rfl ?_
  refine go_a (pc' := 685) (ls' := [some (.ref h.length), some (.int (nI 8192))]) (st' := [(.int 0), (.int 0), (.int 0), (.int 112), (.int 116), (.int 97), (.int 110), (.ref h.length)]) rfl rfl ?_
  refine go_a (pc' := 686) (ls' := [some (.ref h.length), some (.int (nI 8192))]) (st' := [(.int 0), (.int 0), (.int 0), (.int 0), (.int 112), (.int 116), (.int 97), (.int 110), (.ref h.length)]) rfl rfl ?_
  refine go_v (m := 60) (as := [.ref h.length, .int 110, .int 97, .int 116, .int 112, .int 0, .int 0, .int 0, .int 0]) (r := []) rfl rfl rfl hfs rfl rfl (xm_said z d h h2 13 110 97 116 112 0 0 0 0 hc (by omega) hR2) (fun v h3 hq1 => ?_)
  obtain ⟨rfl, hR3⟩ := hq1
  clear hfs hR2
  show xx_go (xt_P z) (d + 3) 59 689 [some (.ref h.length), some (.int (nI 8192))] [] h3 Q
  obtain ⟨fs, hfs⟩ := xr_R_at hR3
  refine go_a (pc' := 690) (ls' := [some (.ref h.length), some (.int (nI 8192))]) (st' := [(.ref h.length)]) rfl rfl ?_
  refine go_a (pc' := 692) (ls' := [some (.ref h.length), some (.int (nI 8192))]) (st' := [(.int 115), (.ref h.length)]) rfl rfl ?_
  refine go_a (pc' := 694) (ls' := [some (.ref h.length), some (.int (nI 8192))]) (st' := [(.int 121), (.int 115), (.ref h.length)]) rfl rfl ?_
  refine go_a (pc' := 696) (ls' := [some (.ref h.length), some (.int (nI 8192))]) (st' := [(.int 109), (.int 121), (.int 115), (.ref h.length)]) rfl rfl ?_
  refine go_a (pc' := 698) (ls' := [some (.ref h.length), some (.int (nI 8192))]) (st' := [(.int 98), (.int 109), (.int 121), (.int 115), (.ref h.length)]) rfl rfl ?_
  refine go_a (pc' := 700) (ls' := [some (.ref h.length), some (.int (nI 8192))]) (st' := [(.int 111), (.int 98), (.int 109), (.int 121), (.int 115), (.ref h.length)]) rfl rfl ?_
  refine go_a (pc' := 702) (ls' := [some (.ref h.length), some (.int (nI 8192))]) (st' := [(.int 108), (.int 111), (.int 98), (.int 109), (.int 121), (.int 115), (.ref h.length)]) rfl rfl ?_
  refine go_a (pc' := 704) (ls' := [some (.ref h.length), some (.int (nI 8192))]) (st' := [(.int 112), (.int 108), (.int 111), (.int 98), (.int 109), (.int 121), (.int 115), (.ref h.length)]) rfl rfl ?_
  refine go_a (pc' := 705) (ls' := [some (.ref h.length), some (.int (nI 8192))]) (st' := [(.int 0), (.int 112), (.int 108), (.int 111), (.int 98), (.int 109), (.int 121), (.int 115), (.ref h.length)]) rfl rfl ?_
  refine go_v (m := 60) (as := [.ref h.length, .int 115, .int 121, .int 109, .int 98, .int 111, .int 108, .int 112, .int 0]) (r := []) rfl rfl rfl hfs rfl rfl (xm_said z d h h3 14 115 121 109 98 111 108 112 0 hc (by omega) hR3) (fun v h4 hq1 => ?_)
  obtain ⟨rfl, hR4⟩ := hq1
  clear hfs hR3
  show xx_go (xt_P z) (d + 3) 59 708 [some (.ref h.length), some (.int (nI 8192))] [] h4 Q
  obtain ⟨fs, hfs⟩ := xr_R_at hR4
  refine go_a (pc' := 709) (ls' := [some (.ref h.length), some (.int (nI 8192))]) (st' := [(.ref h.length)]) rfl rfl ?_
  refine go_a (pc' := 711) (ls' := [some (.ref h.length), some (.int (nI 8192))]) (st' := [(.int 110), (.ref h.length)]) rfl rfl ?_
  refine go_a (pc' := 713) (ls' := [some (.ref h.length), some (.int (nI 8192))]) (st' := [(.int 111), (.int 110), (.ref h.length)]) rfl rfl ?_
  refine go_a (pc' := 715) (ls' := [some (.ref h.length), some (.int (nI 8192))]) (st' := [(.int 116), (.int 111), (.int 110), (.ref h.length)]) rfl rfl ?_
  refine go_a (pc' := 716) (ls' := [some (.ref h.length), some (.int (nI 8192))]) (st' := [(.int 0), (.int 116), (.int 111), (.int 110), (.ref h.length)]) rfl rfl ?_
  refine go_a (pc' := 717) (ls' := [some (.ref h.length), some (.int (nI 8192))]) (st' := [(.int 0), (.int 0), (.int 116), (.int 111), (.int 110), (.ref h.length)]) rfl rfl ?_
  refine go_a (pc' := 718) (ls' := [some (.ref h.length), some (.int (nI 8192))]) (st' := [(.int 0), (.int 0), (.int 0), (.int 116), (.int 111), (.int 110), (.ref h.length)]) rfl rfl ?_
  refine go_a (pc' := 719) (ls' := [some (.ref h.length), some (.int (nI 8192))]) (st' := [(.int 0), (.int 0), (.int 0), (.int 0), (.int 116), (.int 111), (.int 110), (.ref h.length)]) rfl rfl ?_
  refine go_a (pc' := 720) (ls' := [some (.ref h.length), some (.int (nI 8192))]) (st' := [(.int 0), (.int 0), (.int 0), (.int 0), (.int 0), (.int 116), (.int 111), (.int 110), (.ref h.length)]) rfl rfl ?_
  refine go_v (m := 60) (as := [.ref h.length, .int 110, .int 111, .int 116, .int 0, .int 0, .int 0, .int 0, .int 0]) (r := []) rfl rfl rfl hfs rfl rfl (xm_said z d h h4 15 110 111 116 0 0 0 0 0 hc (by omega) hR4) (fun v h5 hq1 => ?_)
  obtain ⟨rfl, hR5⟩ := hq1
  clear hfs hR4
  show xx_go (xt_P z) (d + 3) 59 723 [some (.ref h.length), some (.int (nI 8192))] [] h5 Q
  obtain ⟨fs, hfs⟩ := xr_R_at hR5
  refine go_a (pc' := 724) (ls' := [some (.ref h.length), some (.int (nI 8192))]) (st' := [(.ref h.length)]) rfl rfl ?_
  refine go_a (pc' := 726) (ls' := [some (.ref h.length), some (.int (nI 8192))]) (st' := [(.int 104), (.ref h.length)]) rfl rfl ?_
  refine go_a (pc' := 728) (ls' := [some (.ref h.length), some (.int (nI 8192))]) (st' := [(.int 101), (.int 104), (.ref h.length)]) rfl rfl ?_
  refine go_a (pc' := 730) (ls' := [some (.ref h.length), some (.int (nI 8192))]) (st' := [(.int 105), (.int 101), (.int 104), (.ref h.length)]) rfl rfl ?_
  refine go_a (pc' := 732) (ls' := [some (.ref h.length), some (.int (nI 8192))]) (st' := [(.int 103), (.int 105), (.int 101), (.int 104), (.ref h.length)]) rfl rfl ?_
  refine go_a (pc' := 734) (ls' := [some (.ref h.length), some (.int (nI 8192))]) (st' := [(.int 104), (.int 103), (.int 105), (.int 101), (.int 104), (.ref h.length)]) rfl rfl ?_
  refine go_a (pc' := 736) (ls' := [some (.ref h.length), some (.int (nI 8192))]) (st' := [(.int 116), (.int 104), (.int 103), (.int 105), (.int 101), (.int 104), (.ref h.length)]) rfl rfl ?_
  refine go_a (pc' := 737) (ls' := [some (.ref h.length), some (.int (nI 8192))]) (st' := [(.int 0), (.int 116), (.int 104), (.int 103), (.int 105), (.int 101), (.int 104), (.ref h.length)]) rfl rfl ?_
  refine go_a (pc' := 738) (ls' := [some (.ref h.length), some (.int (nI 8192))]) (st' := [(.int 0), (.int 0), (.int 116), (.int 104), (.int 103), (.int 105), (.int 101), (.int 104), (.ref h.length)]) rfl rfl ?_
  refine go_v (m := 60) (as := [.ref h.length, .int 104, .int 101, .int 105, .int 103, .int 104, .int 116, .int 0, .int 0]) (r := []) rfl rfl rfl hfs rfl rfl (xm_said z d h h5 16 104 101 105 103 104 116 0 0 hc (by omega) hR5) (fun v h6 hq1 => ?_)
  obtain ⟨rfl, hR6⟩ := hq1
  clear hfs hR5
  show xx_go (xt_P z) (d + 3) 59 741 [some (.ref h.length), some (.int (nI 8192))] [] h6 Q
  obtain ⟨fs, hfs⟩ := xr_R_at hR6
  refine go_a (pc' := 742) (ls' := [some (.ref h.length), some (.int (nI 8192))]) (st' := [(.ref h.length)]) rfl rfl ?_
  refine go_a (pc' := 744) (ls' := [some (.ref h.length), some (.int (nI 8192))]) (st' := [(.int 100), (.ref h.length)]) rfl rfl ?_
  refine go_a (pc' := 746) (ls' := [some (.ref h.length), some (.int (nI 8192))]) (st' := [(.int 101), (.int 100), (.ref h.length)]) rfl rfl ?_
  refine go_a (pc' := 748) (ls' := [some (.ref h.length), some (.int (nI 8192))]) (st' := [(.int 102), (.int 101), (.int 100), (.ref h.length)]) rfl rfl ?_
  refine go_a (pc' := 750) (ls' := [some (.ref h.length), some (.int (nI 8192))]) (st' := [(.int 117), (.int 102), (.int 101), (.int 100), (.ref h.length)]) rfl rfl ?_
  refine go_a (pc' := 752) (ls' := [some (.ref h.length), some (.int (nI 8192))]) (st' := [(.int 110), (.int 117), (.int 102), (.int 101), (.int 100), (.ref h.length)]) rfl rfl ?_
  refine go_a (pc' := 753) (ls' := [some (.ref h.length), some (.int (nI 8192))]) (st' := [(.int 0), (.int 110), (.int 117), (.int 102), (.int 101), (.int 100), (.ref h.length)]) rfl rfl ?_
  refine go_a (pc' := 754) (ls' := [some (.ref h.length), some (.int (nI 8192))]) (st' := [(.int 0), (.int 0), (.int 110), (.int 117), (.int 102), (.int 101), (.int 100), (.ref h.length)]) rfl rfl ?_
  refine go_a (pc' := 755) (ls' := [some (.ref h.length), some (.int (nI 8192))]) (st' := [(.int 0), (.int 0), (.int 0), (.int 110), (.int 117), (.int 102), (.int 101), (.int 100), (.ref h.length)]) rfl rfl ?_
  refine go_v (m := 60) (as := [.ref h.length, .int 100, .int 101, .int 102, .int 117, .int 110, .int 0, .int 0, .int 0]) (r := []) rfl rfl rfl hfs rfl rfl (xm_said z d h h6 17 100 101 102 117 110 0 0 0 hc (by omega) hR6) (fun v h7 hq1 => ?_)
  obtain ⟨rfl, hR7⟩ := hq1
  clear hfs hR6
  show xx_go (xt_P z) (d + 3) 59 758 [some (.ref h.length), some (.int (nI 8192))] [] h7 Q
  obtain ⟨fs, hfs⟩ := xr_R_at hR7
  refine go_a (pc' := 759) (ls' := [some (.ref h.length), some (.int (nI 8192))]) (st' := [(.ref h.length)]) rfl rfl ?_
  refine go_a (pc' := 761) (ls' := [some (.ref h.length), some (.int (nI 8192))]) (st' := [(.int 116), (.ref h.length)]) rfl rfl ?_
  refine go_a (pc' := 763) (ls' := [some (.ref h.length), some (.int (nI 8192))]) (st' := [(.int 104), (.int 116), (.ref h.length)]) rfl rfl ?_
  refine go_a (pc' := 765) (ls' := [some (.ref h.length), some (.int (nI 8192))]) (st' := [(.int 101), (.int 104), (.int 116), (.ref h.length)]) rfl rfl ?_
  refine go_a (pc' := 767) (ls' := [some (.ref h.length), some (.int (nI 8192))]) (st' := [(.int 111), (.int 101), (.int 104), (.int 116), (.ref h.length)]) rfl rfl ?_
  refine go_a (pc' := 769) (ls' := [some (.ref h.length), some (.int (nI 8192))]) (st' := [(.int 114), (.int 111), (.int 101), (.int 104), (.int 116), (.ref h.length)]) rfl rfl ?_
  refine go_a (pc' := 771) (ls' := [some (.ref h.length), some (.int (nI 8192))]) (st' := [(.int 101), (.int 114), (.int 111), (.int 101), (.int 104), (.int 116), (.ref h.length)]) rfl rfl ?_
  refine go_a (pc' := 773) (ls' := [some (.ref h.length), some (.int (nI 8192))]) (st' := [(.int 109), (.int 101), (.int 114), (.int 111), (.int 101), (.int 104), (.int 116), (.ref h.length)]) rfl rfl ?_
  refine go_a (pc' := 774) (ls' := [some (.ref h.length), some (.int (nI 8192))]) (st' := [(.int 0), (.int 109), (.int 101), (.int 114), (.int 111), (.int 101), (.int 104), (.int 116), (.ref h.length)]) rfl rfl ?_
  refine go_v (m := 60) (as := [.ref h.length, .int 116, .int 104, .int 101, .int 111, .int 114, .int 101, .int 109, .int 0]) (r := []) rfl rfl rfl hfs rfl rfl (xm_said z d h h7 18 116 104 101 111 114 101 109 0 hc (by omega) hR7) (fun v h8 hq1 => ?_)
  obtain ⟨rfl, hR8⟩ := hq1
  clear hfs hR7
  show xx_go (xt_P z) (d + 3) 59 777 [some (.ref h.length), some (.int (nI 8192))] [] h8 Q
  obtain ⟨fs, hfs⟩ := xr_R_at hR8
  refine go_a (pc' := 778) (ls' := [some (.ref h.length), some (.int (nI 8192))]) (st' := [(.ref h.length)]) rfl rfl ?_
  refine go_a (pc' := 780) (ls' := [some (.ref h.length), some (.int (nI 8192))]) (st' := [(.int 99), (.ref h.length)]) rfl rfl ?_
  refine go_a (pc' := 782) (ls' := [some (.ref h.length), some (.int (nI 8192))]) (st' := [(.int 108), (.int 99), (.ref h.length)]) rfl rfl ?_
  refine go_a (pc' := 784) (ls' := [some (.ref h.length), some (.int (nI 8192))]) (st' := [(.int 97), (.int 108), (.int 99), (.ref h.length)]) rfl rfl ?_
  refine go_a (pc' := 786) (ls' := [some (.ref h.length), some (.int (nI 8192))]) (st' := [(.int 117), (.int 97), (.int 108), (.int 99), (.ref h.length)]) rfl rfl ?_
  refine go_a (pc' := 788) (ls' := [some (.ref h.length), some (.int (nI 8192))]) (st' := [(.int 115), (.int 117), (.int 97), (.int 108), (.int 99), (.ref h.length)]) rfl rfl ?_
  refine go_a (pc' := 790) (ls' := [some (.ref h.length), some (.int (nI 8192))]) (st' := [(.int 101), (.int 115), (.int 117), (.int 97), (.int 108), (.int 99), (.ref h.length)]) rfl rfl ?_
  refine go_a (pc' := 791) (ls' := [some (.ref h.length), some (.int (nI 8192))]) (st' := [(.int 0), (.int 101), (.int 115), (.int 117), (.int 97), (.int 108), (.int 99), (.ref h.length)]) rfl rfl ?_
  refine go_a (pc' := 792) (ls' := [some (.ref h.length), some (.int (nI 8192))]) (st' := [(.int 0), (.int 0), (.int 101), (.int 115), (.int 117), (.int 97), (.int 108), (.int 99), (.ref h.length)]) rfl rfl ?_
  refine go_v (m := 60) (as := [.ref h.length, .int 99, .int 108, .int 97, .int 117, .int 115, .int 101, .int 0, .int 0]) (r := []) rfl rfl rfl hfs rfl rfl (xm_said z d h h8 19 99 108 97 117 115 101 0 0 hc (by omega) hR8) (fun v h9 hq1 => ?_)
  obtain ⟨rfl, hR9⟩ := hq1
  clear hfs hR8
  show xx_go (xt_P z) (d + 3) 59 795 [some (.ref h.length), some (.int (nI 8192))] [] h9 Q
  obtain ⟨fs, hfs⟩ := xr_R_at hR9
  refine go_a (pc' := 796) (ls' := [some (.ref h.length), some (.int (nI 8192))]) (st' := [(.ref h.length)]) rfl rfl ?_
  refine go_a (pc' := 798) (ls' := [some (.ref h.length), some (.int (nI 8192))]) (st' := [(.int 115), (.ref h.length)]) rfl rfl ?_
  refine go_a (pc' := 800) (ls' := [some (.ref h.length), some (.int (nI 8192))]) (st' := [(.int 105), (.int 115), (.ref h.length)]) rfl rfl ?_
  refine go_a (pc' := 802) (ls' := [some (.ref h.length), some (.int (nI 8192))]) (st' := [(.int 109), (.int 105), (.int 115), (.ref h.length)]) rfl rfl ?_
  refine go_a (pc' := 804) (ls' := [some (.ref h.length), some (.int (nI 8192))]) (st' := [(.int 112), (.int 109), (.int 105), (.int 115), (.ref h.length)]) rfl rfl ?_
  refine go_a (pc' := 806) (ls' := [some (.ref h.length), some (.int (nI 8192))]) (st' := [(.int 108), (.int 112), (.int 109), (.int 105), (.int 115), (.ref h.length)]) rfl rfl ?_
  refine go_a (pc' := 808) (ls' := [some (.ref h.length), some (.int (nI 8192))]) (st' := [(.int 105), (.int 108), (.int 112), (.int 109), (.int 105), (.int 115), (.ref h.length)]) rfl rfl ?_
  refine go_a (pc' := 810) (ls' := [some (.ref h.length), some (.int (nI 8192))]) (st' := [(.int 102), (.int 105), (.int 108), (.int 112), (.int 109), (.int 105), (.int 115), (.ref h.length)]) rfl rfl ?_
  refine go_a (pc' := 812) (ls' := [some (.ref h.length), some (.int (nI 8192))]) (st' := [(.int 121), (.int 102), (.int 105), (.int 108), (.int 112), (.int 109), (.int 105), (.int 115), (.ref h.length)]) rfl rfl ?_
  refine go_v (m := 60) (as := [.ref h.length, .int 115, .int 105, .int 109, .int 112, .int 108, .int 105, .int 102, .int 121]) (r := []) rfl rfl rfl hfs rfl rfl (xm_said z d h h9 20 115 105 109 112 108 105 102 121 hc (by omega) hR9) (fun v h10 hq1 => ?_)
  obtain ⟨rfl, hR10⟩ := hq1
  clear hfs hR9
  show xx_go (xt_P z) (d + 3) 59 815 [some (.ref h.length), some (.int (nI 8192))] [] h10 Q
  obtain ⟨fs, hfs⟩ := xr_R_at hR10
  refine go_a (pc' := 816) (ls' := [some (.ref h.length), some (.int (nI 8192))]) (st' := [(.ref h.length)]) rfl rfl ?_
  refine go_a (pc' := 818) (ls' := [some (.ref h.length), some (.int (nI 8192))]) (st' := [(.int 112), (.ref h.length)]) rfl rfl ?_
  refine go_a (pc' := 820) (ls' := [some (.ref h.length), some (.int (nI 8192))]) (st' := [(.int 114), (.int 112), (.ref h.length)]) rfl rfl ?_
  refine go_a (pc' := 822) (ls' := [some (.ref h.length), some (.int (nI 8192))]) (st' := [(.int 111), (.int 114), (.int 112), (.ref h.length)]) rfl rfl ?_
  refine go_a (pc' := 824) (ls' := [some (.ref h.length), some (.int (nI 8192))]) (st' := [(.int 118), (.int 111), (.int 114), (.int 112), (.ref h.length)]) rfl rfl ?_
  refine go_a (pc' := 826) (ls' := [some (.ref h.length), some (.int (nI 8192))]) (st' := [(.int 101), (.int 118), (.int 111), (.int 114), (.int 112), (.ref h.length)]) rfl rfl ?_
  refine go_a (pc' := 827) (ls' := [some (.ref h.length), some (.int (nI 8192))]) (st' := [(.int 0), (.int 101), (.int 118), (.int 111), (.int 114), (.int 112), (.ref h.length)]) rfl rfl ?_
  refine go_a (pc' := 828) (ls' := [some (.ref h.length), some (.int (nI 8192))]) (st' := [(.int 0), (.int 0), (.int 101), (.int 118), (.int 111), (.int 114), (.int 112), (.ref h.length)]) rfl rfl ?_
  refine go_a (pc' := 829) (ls' := [some (.ref h.length), some (.int (nI 8192))]) (st' := [(.int 0), (.int 0), (.int 0), (.int 101), (.int 118), (.int 111), (.int 114), (.int 112), (.ref h.length)]) rfl rfl ?_
  refine go_v (m := 60) (as := [.ref h.length, .int 112, .int 114, .int 111, .int 118, .int 101, .int 0, .int 0, .int 0]) (r := []) rfl rfl rfl hfs rfl rfl (xm_said z d h h10 21 112 114 111 118 101 0 0 0 hc (by omega) hR10) (fun v h11 hq1 => ?_)
  obtain ⟨rfl, hR11⟩ := hq1
  clear hfs hR10
  exact hg _ hR11
set_option maxRecDepth 20000 in
theorem xm_saids2 (z : Value) (d : Nat) (h h0 : xx_H) (Q : Option Value → xx_H → Prop) (hc : 11 ≤ h.length) (hR0 : xr_R h 22 h0) (hg : ∀ h1 : xx_H, xr_R h 33 h1 → xx_go (xt_P z) (d + 3) 59 1011 [some (.ref h.length), some (.int (nI 8192))] [] h1 Q) : xx_go (xt_P z) (d + 3) 59 832 [some (.ref h.length), some (.int (nI 8192))] [] h0 Q := by
  obtain ⟨fs, hfs⟩ := xr_R_at hR0
  refine go_a (pc' := 833) (ls' := [some (.ref h.length), some (.int (nI 8192))]) (st' := [(.ref h.length)]) rfl rfl ?_
  refine go_a (pc' := 835) (ls' := [some (.ref h.length), some (.int (nI 8192))]) (st' := [(.int 100), (.ref h.length)]) rfl rfl ?_
  refine go_a (pc' := 837) (ls' := [some (.ref h.length), some (.int (nI 8192))]) (st' := [(.int 101), (.int 100), (.ref h.length)]) rfl rfl ?_
  refine go_a (pc' := 839) (ls' := [some (.ref h.length), some (.int (nI 8192))]) (st' := [(.int 102), (.int 101), (.int 100), (.ref h.length)]) rfl rfl ?_
  refine go_a (pc' := 841) (ls' := [some (.ref h.length), some (.int (nI 8192))]) (st' := [(.int 116), (.int 102), (.int 101), (.int 100), (.ref h.length)]) rfl rfl ?_
  refine go_a (pc' := 843) (ls' := [some (.ref h.length), some (.int (nI 8192))]) (st' := [(.int 104), (.int 116), (.int 102), (.int 101), (.int 100), (.ref h.length)]) rfl rfl ?_
  refine go_a (pc' := 845) (ls' := [some (.ref h.length), some (.int (nI 8192))]) (st' := [(.int 109), (.int 104), (.int 116), (.int 102), (.int 101), (.int 100), (.ref h.length)]) rfl rfl ?_
  refine go_a (pc' := 846) (ls' := [some (.ref h.length), some (.int (nI 8192))]) (st' := [(.int 0), (.int 109), (.int 104), (.int 116), (.int 102), (.int 101), (.int 100), (.ref h.length)]) rfl rfl ?_
  refine go_a (pc' := 847) (ls' := [some (.ref h.length), some (.int (nI 8192))]) (st' := [(.int 0), (.int 0), (.int 109), (.int 104), (.int 116), (.int 102), (.int 101), (.int 100), (.ref h.length)]) rfl rfl ?_
  refine go_v (m := 60) (as := [.ref h.length, .int 100, .int 101, .int 102, .int 116, .int 104, .int 109, .int 0, .int 0]) (r := []) rfl rfl rfl hfs rfl rfl (xm_said z d h h0 22 100 101 102 116 104 109 0 0 hc (by omega) hR0) (fun v h1 hq1 => ?_)
  obtain ⟨rfl, hR1⟩ := hq1
  clear hfs hR0
  show xx_go (xt_P z) (d + 3) 59 850 [some (.ref h.length), some (.int (nI 8192))] [] h1 Q
  obtain ⟨fs, hfs⟩ := xr_R_at hR1
  refine go_a (pc' := 851) (ls' := [some (.ref h.length), some (.int (nI 8192))]) (st' := [(.ref h.length)]) rfl rfl ?_
  refine go_a (pc' := 853) (ls' := [some (.ref h.length), some (.int (nI 8192))]) (st' := [(.int 111), (.ref h.length)]) rfl rfl ?_
  refine go_a (pc' := 855) (ls' := [some (.ref h.length), some (.int (nI 8192))]) (st' := [(.int 110), (.int 111), (.ref h.length)]) rfl rfl ?_
  refine go_a (pc' := 856) (ls' := [some (.ref h.length), some (.int (nI 8192))]) (st' := [(.int 0), (.int 110), (.int 111), (.ref h.length)]) rfl rfl ?_
  refine go_a (pc' := 857) (ls' := [some (.ref h.length), some (.int (nI 8192))]) (st' := [(.int 0), (.int 0), (.int 110), (.int 111), (.ref h.length)]) rfl rfl ?_
  refine go_a (pc' := 858) (ls' := [some (.ref h.length), some (.int (nI 8192))]) (st' := [(.int 0), (.int 0), (.int 0), (.int 110), (.int 111), (.ref h.length)]) rfl rfl ?_
  refine go_a (pc' := 859) (ls' := [some (.ref h.length), some (.int (nI 8192))]) (st' := [(.int 0), (.int 0), (.int 0), (.int 0), (.int 110), (.int 111), (.ref h.length)]) rfl rfl ?_
  refine go_a (pc' := 860) (ls' := [some (.ref h.length), some (.int (nI 8192))]) (st' := [(.int 0), (.int 0), (.int 0), (.int 0), (.int 0), (.int 110), (.int 111), (.ref h.length)]) rfl rfl ?_
  refine go_a (pc' := 861) (ls' := [some (.ref h.length), some (.int (nI 8192))]) (st' := [(.int 0), (.int 0), (.int 0), (.int 0), (.int 0), (.int 0), (.int 110), (.int 111), (.ref h.length)]) rfl rfl ?_
  refine go_v (m := 60) (as := [.ref h.length, .int 111, .int 110, .int 0, .int 0, .int 0, .int 0, .int 0, .int 0]) (r := []) rfl rfl rfl hfs rfl rfl (xm_said z d h h1 23 111 110 0 0 0 0 0 0 hc (by omega) hR1) (fun v h2 hq1 => ?_)
  obtain ⟨rfl, hR2⟩ := hq1
  clear hfs hR1
  show xx_go (xt_P z) (d + 3) 59 864 [some (.ref h.length), some (.int (nI 8192))] [] h2 Q
  obtain ⟨fs, hfs⟩ := xr_R_at hR2
  refine go_a (pc' := 865) (ls' := [some (.ref h.length), some (.int (nI 8192))]) (st' := [(.ref h.length)]) rfl rfl ?_
  refine go_a (pc' := 867) (ls' := [some (.ref h.length), some (.int (nI 8192))]) (st' := [(.int 111), (.ref h.length)]) rfl rfl ?_
  refine go_a (pc' := 869) (ls' := [some (.ref h.length), some (.int (nI 8192))]) (st' := [(.int 102), (.int 111), (.ref h.length)]) rfl rfl ?_
  refine go_a (pc' := 871) (ls' := [some (.ref h.length), some (.int (nI 8192))]) (st' := [(.int 102), (.int 102), (.int 111), (.ref h.length)]) rfl rfl ?_
  refine go_a (pc' := 872) (ls' := [some (.ref h.length), some (.int (nI 8192))]) (st' := [(.int 0), (.int 102), (.int 102), (.int 111), (.ref h.length)]) rfl rfl ?_
  refine go_a (pc' := 873) (ls' := [some (.ref h.length), some (.int (nI 8192))]) (st' := [(.int 0), (.int 0), (.int 102), (.int 102), (.int 111), (.ref h.length)]) rfl rfl ?_
  refine go_a (pc' := 874) (ls' := [some (.ref h.length), some (.int (nI 8192))]) (st' := [(.int 0), (.int 0), (.int 0), (.int 102), (.int 102), (.int 111), (.ref h.length)]) rfl rfl ?_
  refine go_a (pc' := 875) (ls' := [some (.ref h.length), some (.int (nI 8192))]) (st' := [(.int 0), (.int 0), (.int 0), (.int 0), (.int 102), (.int 102), (.int 111), (.ref h.length)]) rfl rfl ?_
  refine go_a (pc' := 876) (ls' := [some (.ref h.length), some (.int (nI 8192))]) (st' := [(.int 0), (.int 0), (.int 0), (.int 0), (.int 0), (.int 102), (.int 102), (.int 111), (.ref h.length)]) rfl rfl ?_
  refine go_v (m := 60) (as := [.ref h.length, .int 111, .int 102, .int 102, .int 0, .int 0, .int 0, .int 0, .int 0]) (r := []) rfl rfl rfl hfs rfl rfl (xm_said z d h h2 24 111 102 102 0 0 0 0 0 hc (by omega) hR2) (fun v h3 hq1 => ?_)
  obtain ⟨rfl, hR3⟩ := hq1
  clear hfs hR2
  show xx_go (xt_P z) (d + 3) 59 879 [some (.ref h.length), some (.int (nI 8192))] [] h3 Q
  obtain ⟨fs, hfs⟩ := xr_R_at hR3
  refine go_a (pc' := 880) (ls' := [some (.ref h.length), some (.int (nI 8192))]) (st' := [(.ref h.length)]) rfl rfl ?_
  refine go_a (pc' := 882) (ls' := [some (.ref h.length), some (.int (nI 8192))]) (st' := [(.int 117), (.ref h.length)]) rfl rfl ?_
  refine go_a (pc' := 884) (ls' := [some (.ref h.length), some (.int (nI 8192))]) (st' := [(.int 110), (.int 117), (.ref h.length)]) rfl rfl ?_
  refine go_a (pc' := 886) (ls' := [some (.ref h.length), some (.int (nI 8192))]) (st' := [(.int 100), (.int 110), (.int 117), (.ref h.length)]) rfl rfl ?_
  refine go_a (pc' := 888) (ls' := [some (.ref h.length), some (.int (nI 8192))]) (st' := [(.int 111), (.int 100), (.int 110), (.int 117), (.ref h.length)]) rfl rfl ?_
  refine go_a (pc' := 889) (ls' := [some (.ref h.length), some (.int (nI 8192))]) (st' := [(.int 0), (.int 111), (.int 100), (.int 110), (.int 117), (.ref h.length)]) rfl rfl ?_
  refine go_a (pc' := 890) (ls' := [some (.ref h.length), some (.int (nI 8192))]) (st' := [(.int 0), (.int 0), (.int 111), (.int 100), (.int 110), (.int 117), (.ref h.length)]) rfl rfl ?_
  refine go_a (pc' := 891) (ls' := [some (.ref h.length), some (.int (nI 8192))]) (st' := [(.int 0), (.int 0), (.int 0), (.int 111), (.int 100), (.int 110), (.int 117), (.ref h.length)]) rfl rfl ?_
  refine go_a (pc' := 892) (ls' := [some (.ref h.length), some (.int (nI 8192))]) (st' := [(.int 0), (.int 0), (.int 0), (.int 0), (.int 111), (.int 100), (.int 110), (.int 117), (.ref h.length)]) rfl rfl ?_
  refine go_v (m := 60) (as := [.ref h.length, .int 117, .int 110, .int 100, .int 111, .int 0, .int 0, .int 0, .int 0]) (r := []) rfl rfl rfl hfs rfl rfl (xm_said z d h h3 25 117 110 100 111 0 0 0 0 hc (by omega) hR3) (fun v h4 hq1 => ?_)
  obtain ⟨rfl, hR4⟩ := hq1
  clear hfs hR3
  show xx_go (xt_P z) (d + 3) 59 895 [some (.ref h.length), some (.int (nI 8192))] [] h4 Q
  obtain ⟨fs, hfs⟩ := xr_R_at hR4
  refine go_a (pc' := 896) (ls' := [some (.ref h.length), some (.int (nI 8192))]) (st' := [(.ref h.length)]) rfl rfl ?_
  refine go_a (pc' := 898) (ls' := [some (.ref h.length), some (.int (nI 8192))]) (st' := [(.int 99), (.ref h.length)]) rfl rfl ?_
  refine go_a (pc' := 900) (ls' := [some (.ref h.length), some (.int (nI 8192))]) (st' := [(.int 104), (.int 99), (.ref h.length)]) rfl rfl ?_
  refine go_a (pc' := 902) (ls' := [some (.ref h.length), some (.int (nI 8192))]) (st' := [(.int 101), (.int 104), (.int 99), (.ref h.length)]) rfl rfl ?_
  refine go_a (pc' := 904) (ls' := [some (.ref h.length), some (.int (nI 8192))]) (st' := [(.int 99), (.int 101), (.int 104), (.int 99), (.ref h.length)]) rfl rfl ?_
  refine go_a (pc' := 906) (ls' := [some (.ref h.length), some (.int (nI 8192))]) (st' := [(.int 107), (.int 99), (.int 101), (.int 104), (.int 99), (.ref h.length)]) rfl rfl ?_
  refine go_a (pc' := 907) (ls' := [some (.ref h.length), some (.int (nI 8192))]) (st' := [(.int 0), (.int 107), (.int 99), (.int 101), (.int 104), (.int 99), (.ref h.length)]) rfl rfl ?_
  refine go_a (pc' := 908) (ls' := [some (.ref h.length), some (.int (nI 8192))]) (st' := [(.int 0), (.int 0), (.int 107), (.int 99), (.int 101), (.int 104), (.int 99), (.ref h.length)]) rfl rfl ?_
  refine go_a (pc' := 909) (ls' := [some (.ref h.length), some (.int (nI 8192))]) (st' := [(.int 0), (.int 0), (.int 0), (.int 107), (.int 99), (.int 101), (.int 104), (.int 99), (.ref h.length)]) rfl rfl ?_
  refine go_v (m := 60) (as := [.ref h.length, .int 99, .int 104, .int 101, .int 99, .int 107, .int 0, .int 0, .int 0]) (r := []) rfl rfl rfl hfs rfl rfl (xm_said z d h h4 26 99 104 101 99 107 0 0 0 hc (by omega) hR4) (fun v h5 hq1 => ?_)
  obtain ⟨rfl, hR5⟩ := hq1
  clear hfs hR4
  show xx_go (xt_P z) (d + 3) 59 912 [some (.ref h.length), some (.int (nI 8192))] [] h5 Q
  obtain ⟨fs, hfs⟩ := xr_R_at hR5
  refine go_a (pc' := 913) (ls' := [some (.ref h.length), some (.int (nI 8192))]) (st' := [(.ref h.length)]) rfl rfl ?_
  refine go_a (pc' := 915) (ls' := [some (.ref h.length), some (.int (nI 8192))]) (st' := [(.int 105), (.ref h.length)]) rfl rfl ?_
  refine go_a (pc' := 917) (ls' := [some (.ref h.length), some (.int (nI 8192))]) (st' := [(.int 110), (.int 105), (.ref h.length)]) rfl rfl ?_
  refine go_a (pc' := 919) (ls' := [some (.ref h.length), some (.int (nI 8192))]) (st' := [(.int 100), (.int 110), (.int 105), (.ref h.length)]) rfl rfl ?_
  refine go_a (pc' := 921) (ls' := [some (.ref h.length), some (.int (nI 8192))]) (st' := [(.int 117), (.int 100), (.int 110), (.int 105), (.ref h.length)]) rfl rfl ?_
  refine go_a (pc' := 923) (ls' := [some (.ref h.length), some (.int (nI 8192))]) (st' := [(.int 99), (.int 117), (.int 100), (.int 110), (.int 105), (.ref h.length)]) rfl rfl ?_
  refine go_a (pc' := 925) (ls' := [some (.ref h.length), some (.int (nI 8192))]) (st' := [(.int 116), (.int 99), (.int 117), (.int 100), (.int 110), (.int 105), (.ref h.length)]) rfl rfl ?_
  refine go_a (pc' := 926) (ls' := [some (.ref h.length), some (.int (nI 8192))]) (st' := [(.int 0), (.int 116), (.int 99), (.int 117), (.int 100), (.int 110), (.int 105), (.ref h.length)]) rfl rfl ?_
  refine go_a (pc' := 927) (ls' := [some (.ref h.length), some (.int (nI 8192))]) (st' := [(.int 0), (.int 0), (.int 116), (.int 99), (.int 117), (.int 100), (.int 110), (.int 105), (.ref h.length)]) rfl rfl ?_
  refine go_v (m := 60) (as := [.ref h.length, .int 105, .int 110, .int 100, .int 117, .int 99, .int 116, .int 0, .int 0]) (r := []) rfl rfl rfl hfs rfl rfl (xm_said z d h h5 27 105 110 100 117 99 116 0 0 hc (by omega) hR5) (fun v h6 hq1 => ?_)
  obtain ⟨rfl, hR6⟩ := hq1
  clear hfs hR5
  show xx_go (xt_P z) (d + 3) 59 930 [some (.ref h.length), some (.int (nI 8192))] [] h6 Q
  obtain ⟨fs, hfs⟩ := xr_R_at hR6
  refine go_a (pc' := 931) (ls' := [some (.ref h.length), some (.int (nI 8192))]) (st' := [(.ref h.length)]) rfl rfl ?_
  refine go_a (pc' := 933) (ls' := [some (.ref h.length), some (.int (nI 8192))]) (st' := [(.int 117), (.ref h.length)]) rfl rfl ?_
  refine go_a (pc' := 935) (ls' := [some (.ref h.length), some (.int (nI 8192))]) (st' := [(.int 115), (.int 117), (.ref h.length)]) rfl rfl ?_
  refine go_a (pc' := 937) (ls' := [some (.ref h.length), some (.int (nI 8192))]) (st' := [(.int 101), (.int 115), (.int 117), (.ref h.length)]) rfl rfl ?_
  refine go_a (pc' := 938) (ls' := [some (.ref h.length), some (.int (nI 8192))]) (st' := [(.int 0), (.int 101), (.int 115), (.int 117), (.ref h.length)]) rfl rfl ?_
  refine go_a (pc' := 939) (ls' := [some (.ref h.length), some (.int (nI 8192))]) (st' := [(.int 0), (.int 0), (.int 101), (.int 115), (.int 117), (.ref h.length)]) rfl rfl ?_
  refine go_a (pc' := 940) (ls' := [some (.ref h.length), some (.int (nI 8192))]) (st' := [(.int 0), (.int 0), (.int 0), (.int 101), (.int 115), (.int 117), (.ref h.length)]) rfl rfl ?_
  refine go_a (pc' := 941) (ls' := [some (.ref h.length), some (.int (nI 8192))]) (st' := [(.int 0), (.int 0), (.int 0), (.int 0), (.int 101), (.int 115), (.int 117), (.ref h.length)]) rfl rfl ?_
  refine go_a (pc' := 942) (ls' := [some (.ref h.length), some (.int (nI 8192))]) (st' := [(.int 0), (.int 0), (.int 0), (.int 0), (.int 0), (.int 101), (.int 115), (.int 117), (.ref h.length)]) rfl rfl ?_
  refine go_v (m := 60) (as := [.ref h.length, .int 117, .int 115, .int 101, .int 0, .int 0, .int 0, .int 0, .int 0]) (r := []) rfl rfl rfl hfs rfl rfl (xm_said z d h h6 28 117 115 101 0 0 0 0 0 hc (by omega) hR6) (fun v h7 hq1 => ?_)
  obtain ⟨rfl, hR7⟩ := hq1
  clear hfs hR6
  show xx_go (xt_P z) (d + 3) 59 945 [some (.ref h.length), some (.int (nI 8192))] [] h7 Q
  obtain ⟨fs, hfs⟩ := xr_R_at hR7
  refine go_a (pc' := 946) (ls' := [some (.ref h.length), some (.int (nI 8192))]) (st' := [(.ref h.length)]) rfl rfl ?_
  refine go_a (pc' := 948) (ls' := [some (.ref h.length), some (.int (nI 8192))]) (st' := [(.int 116), (.ref h.length)]) rfl rfl ?_
  refine go_a (pc' := 950) (ls' := [some (.ref h.length), some (.int (nI 8192))]) (st' := [(.int 97), (.int 116), (.ref h.length)]) rfl rfl ?_
  refine go_a (pc' := 952) (ls' := [some (.ref h.length), some (.int (nI 8192))]) (st' := [(.int 117), (.int 97), (.int 116), (.ref h.length)]) rfl rfl ?_
  refine go_a (pc' := 954) (ls' := [some (.ref h.length), some (.int (nI 8192))]) (st' := [(.int 116), (.int 117), (.int 97), (.int 116), (.ref h.length)]) rfl rfl ?_
  refine go_a (pc' := 955) (ls' := [some (.ref h.length), some (.int (nI 8192))]) (st' := [(.int 0), (.int 116), (.int 117), (.int 97), (.int 116), (.ref h.length)]) rfl rfl ?_
  refine go_a (pc' := 956) (ls' := [some (.ref h.length), some (.int (nI 8192))]) (st' := [(.int 0), (.int 0), (.int 116), (.int 117), (.int 97), (.int 116), (.ref h.length)]) rfl rfl ?_
  refine go_a (pc' := 957) (ls' := [some (.ref h.length), some (.int (nI 8192))]) (st' := [(.int 0), (.int 0), (.int 0), (.int 116), (.int 117), (.int 97), (.int 116), (.ref h.length)]) rfl rfl ?_
  refine go_a (pc' := 958) (ls' := [some (.ref h.length), some (.int (nI 8192))]) (st' := [(.int 0), (.int 0), (.int 0), (.int 0), (.int 116), (.int 117), (.int 97), (.int 116), (.ref h.length)]) rfl rfl ?_
  refine go_v (m := 60) (as := [.ref h.length, .int 116, .int 97, .int 117, .int 116, .int 0, .int 0, .int 0, .int 0]) (r := []) rfl rfl rfl hfs rfl rfl (xm_said z d h h7 29 116 97 117 116 0 0 0 0 hc (by omega) hR7) (fun v h8 hq1 => ?_)
  obtain ⟨rfl, hR8⟩ := hq1
  clear hfs hR7
  show xx_go (xt_P z) (d + 3) 59 961 [some (.ref h.length), some (.int (nI 8192))] [] h8 Q
  obtain ⟨fs, hfs⟩ := xr_R_at hR8
  refine go_a (pc' := 962) (ls' := [some (.ref h.length), some (.int (nI 8192))]) (st' := [(.ref h.length)]) rfl rfl ?_
  refine go_a (pc' := 964) (ls' := [some (.ref h.length), some (.int (nI 8192))]) (st' := [(.int 115), (.ref h.length)]) rfl rfl ?_
  refine go_a (pc' := 966) (ls' := [some (.ref h.length), some (.int (nI 8192))]) (st' := [(.int 97), (.int 115), (.ref h.length)]) rfl rfl ?_
  refine go_a (pc' := 968) (ls' := [some (.ref h.length), some (.int (nI 8192))]) (st' := [(.int 109), (.int 97), (.int 115), (.ref h.length)]) rfl rfl ?_
  refine go_a (pc' := 970) (ls' := [some (.ref h.length), some (.int (nI 8192))]) (st' := [(.int 101), (.int 109), (.int 97), (.int 115), (.ref h.length)]) rfl rfl ?_
  refine go_a (pc' := 971) (ls' := [some (.ref h.length), some (.int (nI 8192))]) (st' := [(.int 0), (.int 101), (.int 109), (.int 97), (.int 115), (.ref h.length)]) rfl rfl ?_
  refine go_a (pc' := 972) (ls' := [some (.ref h.length), some (.int (nI 8192))]) (st' := [(.int 0), (.int 0), (.int 101), (.int 109), (.int 97), (.int 115), (.ref h.length)]) rfl rfl ?_
  refine go_a (pc' := 973) (ls' := [some (.ref h.length), some (.int (nI 8192))]) (st' := [(.int 0), (.int 0), (.int 0), (.int 101), (.int 109), (.int 97), (.int 115), (.ref h.length)]) rfl rfl ?_
  refine go_a (pc' := 974) (ls' := [some (.ref h.length), some (.int (nI 8192))]) (st' := [(.int 0), (.int 0), (.int 0), (.int 0), (.int 101), (.int 109), (.int 97), (.int 115), (.ref h.length)]) rfl rfl ?_
  refine go_v (m := 60) (as := [.ref h.length, .int 115, .int 97, .int 109, .int 101, .int 0, .int 0, .int 0, .int 0]) (r := []) rfl rfl rfl hfs rfl rfl (xm_said z d h h8 30 115 97 109 101 0 0 0 0 hc (by omega) hR8) (fun v h9 hq1 => ?_)
  obtain ⟨rfl, hR9⟩ := hq1
  clear hfs hR8
  show xx_go (xt_P z) (d + 3) 59 977 [some (.ref h.length), some (.int (nI 8192))] [] h9 Q
  obtain ⟨fs, hfs⟩ := xr_R_at hR9
  refine go_a (pc' := 978) (ls' := [some (.ref h.length), some (.int (nI 8192))]) (st' := [(.ref h.length)]) rfl rfl ?_
  refine go_a (pc' := 980) (ls' := [some (.ref h.length), some (.int (nI 8192))]) (st' := [(.int 118), (.ref h.length)]) rfl rfl ?_
  refine go_a (pc' := 982) (ls' := [some (.ref h.length), some (.int (nI 8192))]) (st' := [(.int 97), (.int 118), (.ref h.length)]) rfl rfl ?_
  refine go_a (pc' := 984) (ls' := [some (.ref h.length), some (.int (nI 8192))]) (st' := [(.int 108), (.int 97), (.int 118), (.ref h.length)]) rfl rfl ?_
  refine go_a (pc' := 986) (ls' := [some (.ref h.length), some (.int (nI 8192))]) (st' := [(.int 117), (.int 108), (.int 97), (.int 118), (.ref h.length)]) rfl rfl ?_
  refine go_a (pc' := 988) (ls' := [some (.ref h.length), some (.int (nI 8192))]) (st' := [(.int 101), (.int 117), (.int 108), (.int 97), (.int 118), (.ref h.length)]) rfl rfl ?_
  refine go_a (pc' := 989) (ls' := [some (.ref h.length), some (.int (nI 8192))]) (st' := [(.int 0), (.int 101), (.int 117), (.int 108), (.int 97), (.int 118), (.ref h.length)]) rfl rfl ?_
  refine go_a (pc' := 990) (ls' := [some (.ref h.length), some (.int (nI 8192))]) (st' := [(.int 0), (.int 0), (.int 101), (.int 117), (.int 108), (.int 97), (.int 118), (.ref h.length)]) rfl rfl ?_
  refine go_a (pc' := 991) (ls' := [some (.ref h.length), some (.int (nI 8192))]) (st' := [(.int 0), (.int 0), (.int 0), (.int 101), (.int 117), (.int 108), (.int 97), (.int 118), (.ref h.length)]) rfl rfl ?_
  refine go_v (m := 60) (as := [.ref h.length, .int 118, .int 97, .int 108, .int 117, .int 101, .int 0, .int 0, .int 0]) (r := []) rfl rfl rfl hfs rfl rfl (xm_said z d h h9 31 118 97 108 117 101 0 0 0 hc (by omega) hR9) (fun v h10 hq1 => ?_)
  obtain ⟨rfl, hR10⟩ := hq1
  clear hfs hR9
  show xx_go (xt_P z) (d + 3) 59 994 [some (.ref h.length), some (.int (nI 8192))] [] h10 Q
  obtain ⟨fs, hfs⟩ := xr_R_at hR10
  refine go_a (pc' := 995) (ls' := [some (.ref h.length), some (.int (nI 8192))]) (st' := [(.ref h.length)]) rfl rfl ?_
  refine go_a (pc' := 997) (ls' := [some (.ref h.length), some (.int (nI 8192))]) (st' := [(.int 102), (.ref h.length)]) rfl rfl ?_
  refine go_a (pc' := 999) (ls' := [some (.ref h.length), some (.int (nI 8192))]) (st' := [(.int 105), (.int 102), (.ref h.length)]) rfl rfl ?_
  refine go_a (pc' := 1001) (ls' := [some (.ref h.length), some (.int (nI 8192))]) (st' := [(.int 114), (.int 105), (.int 102), (.ref h.length)]) rfl rfl ?_
  refine go_a (pc' := 1003) (ls' := [some (.ref h.length), some (.int (nI 8192))]) (st' := [(.int 115), (.int 114), (.int 105), (.int 102), (.ref h.length)]) rfl rfl ?_
  refine go_a (pc' := 1005) (ls' := [some (.ref h.length), some (.int (nI 8192))]) (st' := [(.int 116), (.int 115), (.int 114), (.int 105), (.int 102), (.ref h.length)]) rfl rfl ?_
  refine go_a (pc' := 1006) (ls' := [some (.ref h.length), some (.int (nI 8192))]) (st' := [(.int 0), (.int 116), (.int 115), (.int 114), (.int 105), (.int 102), (.ref h.length)]) rfl rfl ?_
  refine go_a (pc' := 1007) (ls' := [some (.ref h.length), some (.int (nI 8192))]) (st' := [(.int 0), (.int 0), (.int 116), (.int 115), (.int 114), (.int 105), (.int 102), (.ref h.length)]) rfl rfl ?_
  refine go_a (pc' := 1008) (ls' := [some (.ref h.length), some (.int (nI 8192))]) (st' := [(.int 0), (.int 0), (.int 0), (.int 116), (.int 115), (.int 114), (.int 105), (.int 102), (.ref h.length)]) rfl rfl ?_
  refine go_v (m := 60) (as := [.ref h.length, .int 102, .int 105, .int 114, .int 115, .int 116, .int 0, .int 0, .int 0]) (r := []) rfl rfl rfl hfs rfl rfl (xm_said z d h h10 32 102 105 114 115 116 0 0 0 hc (by omega) hR10) (fun v h11 hq1 => ?_)
  obtain ⟨rfl, hR11⟩ := hq1
  clear hfs hR10
  exact hg _ hR11
set_option maxRecDepth 20000 in
theorem xm_saids3 (z : Value) (d : Nat) (h h0 : xx_H) (Q : Option Value → xx_H → Prop) (hc : 11 ≤ h.length) (hR0 : xr_R h 33 h0) (hg : ∀ h1 : xx_H, xr_R h 44 h1 → xx_go (xt_P z) (d + 3) 59 1182 [some (.ref h.length), some (.int (nI 8192))] [] h1 Q) : xx_go (xt_P z) (d + 3) 59 1011 [some (.ref h.length), some (.int (nI 8192))] [] h0 Q := by
  obtain ⟨fs, hfs⟩ := xr_R_at hR0
  refine go_a (pc' := 1012) (ls' := [some (.ref h.length), some (.int (nI 8192))]) (st' := [(.ref h.length)]) rfl rfl ?_
  refine go_a (pc' := 1014) (ls' := [some (.ref h.length), some (.int (nI 8192))]) (st' := [(.int 115), (.ref h.length)]) rfl rfl ?_
  refine go_a (pc' := 1016) (ls' := [some (.ref h.length), some (.int (nI 8192))]) (st' := [(.int 101), (.int 115), (.ref h.length)]) rfl rfl ?_
  refine go_a (pc' := 1018) (ls' := [some (.ref h.length), some (.int (nI 8192))]) (st' := [(.int 99), (.int 101), (.int 115), (.ref h.length)]) rfl rfl ?_
  refine go_a (pc' := 1020) (ls' := [some (.ref h.length), some (.int (nI 8192))]) (st' := [(.int 111), (.int 99), (.int 101), (.int 115), (.ref h.length)]) rfl rfl ?_
  refine go_a (pc' := 1022) (ls' := [some (.ref h.length), some (.int (nI 8192))]) (st' := [(.int 110), (.int 111), (.int 99), (.int 101), (.int 115), (.ref h.length)]) rfl rfl ?_
  refine go_a (pc' := 1024) (ls' := [some (.ref h.length), some (.int (nI 8192))]) (st' := [(.int 100), (.int 110), (.int 111), (.int 99), (.int 101), (.int 115), (.ref h.length)]) rfl rfl ?_
  refine go_a (pc' := 1025) (ls' := [some (.ref h.length), some (.int (nI 8192))]) (st' := [(.int 0), (.int 100), (.int 110), (.int 111), (.int 99), (.int 101), (.int 115), (.ref h.length)]) rfl rfl ?_
  refine go_a (pc' := 1026) (ls' := [some (.ref h.length), some (.int (nI 8192))]) (st' := [(.int 0), (.int 0), (.int 100), (.int 110), (.int 111), (.int 99), (.int 101), (.int 115), (.ref h.length)]) rfl rfl ?_
  refine go_v (m := 60) (as := [.ref h.length, .int 115, .int 101, .int 99, .int 111, .int 110, .int 100, .int 0, .int 0]) (r := []) rfl rfl rfl hfs rfl rfl (xm_said z d h h0 33 115 101 99 111 110 100 0 0 hc (by omega) hR0) (fun v h1 hq1 => ?_)
  obtain ⟨rfl, hR1⟩ := hq1
  clear hfs hR0
  show xx_go (xt_P z) (d + 3) 59 1029 [some (.ref h.length), some (.int (nI 8192))] [] h1 Q
  obtain ⟨fs, hfs⟩ := xr_R_at hR1
  refine go_a (pc' := 1030) (ls' := [some (.ref h.length), some (.int (nI 8192))]) (st' := [(.ref h.length)]) rfl rfl ?_
  refine go_a (pc' := 1032) (ls' := [some (.ref h.length), some (.int (nI 8192))]) (st' := [(.int 112), (.ref h.length)]) rfl rfl ?_
  refine go_a (pc' := 1034) (ls' := [some (.ref h.length), some (.int (nI 8192))]) (st' := [(.int 97), (.int 112), (.ref h.length)]) rfl rfl ?_
  refine go_a (pc' := 1036) (ls' := [some (.ref h.length), some (.int (nI 8192))]) (st' := [(.int 105), (.int 97), (.int 112), (.ref h.length)]) rfl rfl ?_
  refine go_a (pc' := 1038) (ls' := [some (.ref h.length), some (.int (nI 8192))]) (st' := [(.int 114), (.int 105), (.int 97), (.int 112), (.ref h.length)]) rfl rfl ?_
  refine go_a (pc' := 1039) (ls' := [some (.ref h.length), some (.int (nI 8192))]) (st' := [(.int 0), (.int 114), (.int 105), (.int 97), (.int 112), (.ref h.length)]) rfl rfl ?_
  refine go_a (pc' := 1040) (ls' := [some (.ref h.length), some (.int (nI 8192))]) (st' := [(.int 0), (.int 0), (.int 114), (.int 105), (.int 97), (.int 112), (.ref h.length)]) rfl rfl ?_
  refine go_a (pc' := 1041) (ls' := [some (.ref h.length), some (.int (nI 8192))]) (st' := [(.int 0), (.int 0), (.int 0), (.int 114), (.int 105), (.int 97), (.int 112), (.ref h.length)]) rfl rfl ?_
  refine go_a (pc' := 1042) (ls' := [some (.ref h.length), some (.int (nI 8192))]) (st' := [(.int 0), (.int 0), (.int 0), (.int 0), (.int 114), (.int 105), (.int 97), (.int 112), (.ref h.length)]) rfl rfl ?_
  refine go_v (m := 60) (as := [.ref h.length, .int 112, .int 97, .int 105, .int 114, .int 0, .int 0, .int 0, .int 0]) (r := []) rfl rfl rfl hfs rfl rfl (xm_said z d h h1 34 112 97 105 114 0 0 0 0 hc (by omega) hR1) (fun v h2 hq1 => ?_)
  obtain ⟨rfl, hR2⟩ := hq1
  clear hfs hR1
  show xx_go (xt_P z) (d + 3) 59 1045 [some (.ref h.length), some (.int (nI 8192))] [] h2 Q
  obtain ⟨fs, hfs⟩ := xr_R_at hR2
  refine go_a (pc' := 1046) (ls' := [some (.ref h.length), some (.int (nI 8192))]) (st' := [(.ref h.length)]) rfl rfl ?_
  refine go_a (pc' := 1048) (ls' := [some (.ref h.length), some (.int (nI 8192))]) (st' := [(.int 121), (.ref h.length)]) rfl rfl ?_
  refine go_a (pc' := 1050) (ls' := [some (.ref h.length), some (.int (nI 8192))]) (st' := [(.int 101), (.int 121), (.ref h.length)]) rfl rfl ?_
  refine go_a (pc' := 1052) (ls' := [some (.ref h.length), some (.int (nI 8192))]) (st' := [(.int 115), (.int 101), (.int 121), (.ref h.length)]) rfl rfl ?_
  refine go_a (pc' := 1053) (ls' := [some (.ref h.length), some (.int (nI 8192))]) (st' := [(.int 0), (.int 115), (.int 101), (.int 121), (.ref h.length)]) rfl rfl ?_
  refine go_a (pc' := 1054) (ls' := [some (.ref h.length), some (.int (nI 8192))]) (st' := [(.int 0), (.int 0), (.int 115), (.int 101), (.int 121), (.ref h.length)]) rfl rfl ?_
  refine go_a (pc' := 1055) (ls' := [some (.ref h.length), some (.int (nI 8192))]) (st' := [(.int 0), (.int 0), (.int 0), (.int 115), (.int 101), (.int 121), (.ref h.length)]) rfl rfl ?_
  refine go_a (pc' := 1056) (ls' := [some (.ref h.length), some (.int (nI 8192))]) (st' := [(.int 0), (.int 0), (.int 0), (.int 0), (.int 115), (.int 101), (.int 121), (.ref h.length)]) rfl rfl ?_
  refine go_a (pc' := 1057) (ls' := [some (.ref h.length), some (.int (nI 8192))]) (st' := [(.int 0), (.int 0), (.int 0), (.int 0), (.int 0), (.int 115), (.int 101), (.int 121), (.ref h.length)]) rfl rfl ?_
  refine go_v (m := 60) (as := [.ref h.length, .int 121, .int 101, .int 115, .int 0, .int 0, .int 0, .int 0, .int 0]) (r := []) rfl rfl rfl hfs rfl rfl (xm_said z d h h2 35 121 101 115 0 0 0 0 0 hc (by omega) hR2) (fun v h3 hq1 => ?_)
  obtain ⟨rfl, hR3⟩ := hq1
  clear hfs hR2
  show xx_go (xt_P z) (d + 3) 59 1060 [some (.ref h.length), some (.int (nI 8192))] [] h3 Q
  obtain ⟨fs, hfs⟩ := xr_R_at hR3
  refine go_a (pc' := 1061) (ls' := [some (.ref h.length), some (.int (nI 8192))]) (st' := [(.ref h.length)]) rfl rfl ?_
  refine go_a (pc' := 1063) (ls' := [some (.ref h.length), some (.int (nI 8192))]) (st' := [(.int 110), (.ref h.length)]) rfl rfl ?_
  refine go_a (pc' := 1065) (ls' := [some (.ref h.length), some (.int (nI 8192))]) (st' := [(.int 111), (.int 110), (.ref h.length)]) rfl rfl ?_
  refine go_a (pc' := 1066) (ls' := [some (.ref h.length), some (.int (nI 8192))]) (st' := [(.int 0), (.int 111), (.int 110), (.ref h.length)]) rfl rfl ?_
  refine go_a (pc' := 1067) (ls' := [some (.ref h.length), some (.int (nI 8192))]) (st' := [(.int 0), (.int 0), (.int 111), (.int 110), (.ref h.length)]) rfl rfl ?_
  refine go_a (pc' := 1068) (ls' := [some (.ref h.length), some (.int (nI 8192))]) (st' := [(.int 0), (.int 0), (.int 0), (.int 111), (.int 110), (.ref h.length)]) rfl rfl ?_
  refine go_a (pc' := 1069) (ls' := [some (.ref h.length), some (.int (nI 8192))]) (st' := [(.int 0), (.int 0), (.int 0), (.int 0), (.int 111), (.int 110), (.ref h.length)]) rfl rfl ?_
  refine go_a (pc' := 1070) (ls' := [some (.ref h.length), some (.int (nI 8192))]) (st' := [(.int 0), (.int 0), (.int 0), (.int 0), (.int 0), (.int 111), (.int 110), (.ref h.length)]) rfl rfl ?_
  refine go_a (pc' := 1071) (ls' := [some (.ref h.length), some (.int (nI 8192))]) (st' := [(.int 0), (.int 0), (.int 0), (.int 0), (.int 0), (.int 0), (.int 111), (.int 110), (.ref h.length)]) rfl rfl ?_
  refine go_v (m := 60) (as := [.ref h.length, .int 110, .int 111, .int 0, .int 0, .int 0, .int 0, .int 0, .int 0]) (r := []) rfl rfl rfl hfs rfl rfl (xm_said z d h h3 36 110 111 0 0 0 0 0 0 hc (by omega) hR3) (fun v h4 hq1 => ?_)
  obtain ⟨rfl, hR4⟩ := hq1
  clear hfs hR3
  show xx_go (xt_P z) (d + 3) 59 1074 [some (.ref h.length), some (.int (nI 8192))] [] h4 Q
  obtain ⟨fs, hfs⟩ := xr_R_at hR4
  refine go_a (pc' := 1075) (ls' := [some (.ref h.length), some (.int (nI 8192))]) (st' := [(.ref h.length)]) rfl rfl ?_
  refine go_a (pc' := 1077) (ls' := [some (.ref h.length), some (.int (nI 8192))]) (st' := [(.int 100), (.ref h.length)]) rfl rfl ?_
  refine go_a (pc' := 1079) (ls' := [some (.ref h.length), some (.int (nI 8192))]) (st' := [(.int 101), (.int 100), (.ref h.length)]) rfl rfl ?_
  refine go_a (pc' := 1081) (ls' := [some (.ref h.length), some (.int (nI 8192))]) (st' := [(.int 102), (.int 101), (.int 100), (.ref h.length)]) rfl rfl ?_
  refine go_a (pc' := 1082) (ls' := [some (.ref h.length), some (.int (nI 8192))]) (st' := [(.int 0), (.int 102), (.int 101), (.int 100), (.ref h.length)]) rfl rfl ?_
  refine go_a (pc' := 1083) (ls' := [some (.ref h.length), some (.int (nI 8192))]) (st' := [(.int 0), (.int 0), (.int 102), (.int 101), (.int 100), (.ref h.length)]) rfl rfl ?_
  refine go_a (pc' := 1084) (ls' := [some (.ref h.length), some (.int (nI 8192))]) (st' := [(.int 0), (.int 0), (.int 0), (.int 102), (.int 101), (.int 100), (.ref h.length)]) rfl rfl ?_
  refine go_a (pc' := 1085) (ls' := [some (.ref h.length), some (.int (nI 8192))]) (st' := [(.int 0), (.int 0), (.int 0), (.int 0), (.int 102), (.int 101), (.int 100), (.ref h.length)]) rfl rfl ?_
  refine go_a (pc' := 1086) (ls' := [some (.ref h.length), some (.int (nI 8192))]) (st' := [(.int 0), (.int 0), (.int 0), (.int 0), (.int 0), (.int 102), (.int 101), (.int 100), (.ref h.length)]) rfl rfl ?_
  refine go_v (m := 60) (as := [.ref h.length, .int 100, .int 101, .int 102, .int 0, .int 0, .int 0, .int 0, .int 0]) (r := []) rfl rfl rfl hfs rfl rfl (xm_said z d h h4 37 100 101 102 0 0 0 0 0 hc (by omega) hR4) (fun v h5 hq1 => ?_)
  obtain ⟨rfl, hR5⟩ := hq1
  clear hfs hR4
  show xx_go (xt_P z) (d + 3) 59 1089 [some (.ref h.length), some (.int (nI 8192))] [] h5 Q
  obtain ⟨fs, hfs⟩ := xr_R_at hR5
  refine go_a (pc' := 1090) (ls' := [some (.ref h.length), some (.int (nI 8192))]) (st' := [(.ref h.length)]) rfl rfl ?_
  refine go_a (pc' := 1092) (ls' := [some (.ref h.length), some (.int (nI 8192))]) (st' := [(.int 116), (.ref h.length)]) rfl rfl ?_
  refine go_a (pc' := 1094) (ls' := [some (.ref h.length), some (.int (nI 8192))]) (st' := [(.int 104), (.int 116), (.ref h.length)]) rfl rfl ?_
  refine go_a (pc' := 1096) (ls' := [some (.ref h.length), some (.int (nI 8192))]) (st' := [(.int 109), (.int 104), (.int 116), (.ref h.length)]) rfl rfl ?_
  refine go_a (pc' := 1097) (ls' := [some (.ref h.length), some (.int (nI 8192))]) (st' := [(.int 0), (.int 109), (.int 104), (.int 116), (.ref h.length)]) rfl rfl ?_
  refine go_a (pc' := 1098) (ls' := [some (.ref h.length), some (.int (nI 8192))]) (st' := [(.int 0), (.int 0), (.int 109), (.int 104), (.int 116), (.ref h.length)]) rfl rfl ?_
  refine go_a (pc' := 1099) (ls' := [some (.ref h.length), some (.int (nI 8192))]) (st' := [(.int 0), (.int 0), (.int 0), (.int 109), (.int 104), (.int 116), (.ref h.length)]) rfl rfl ?_
  refine go_a (pc' := 1100) (ls' := [some (.ref h.length), some (.int (nI 8192))]) (st' := [(.int 0), (.int 0), (.int 0), (.int 0), (.int 109), (.int 104), (.int 116), (.ref h.length)]) rfl rfl ?_
  refine go_a (pc' := 1101) (ls' := [some (.ref h.length), some (.int (nI 8192))]) (st' := [(.int 0), (.int 0), (.int 0), (.int 0), (.int 0), (.int 109), (.int 104), (.int 116), (.ref h.length)]) rfl rfl ?_
  refine go_v (m := 60) (as := [.ref h.length, .int 116, .int 104, .int 109, .int 0, .int 0, .int 0, .int 0, .int 0]) (r := []) rfl rfl rfl hfs rfl rfl (xm_said z d h h5 38 116 104 109 0 0 0 0 0 hc (by omega) hR5) (fun v h6 hq1 => ?_)
  obtain ⟨rfl, hR6⟩ := hq1
  clear hfs hR5
  show xx_go (xt_P z) (d + 3) 59 1104 [some (.ref h.length), some (.int (nI 8192))] [] h6 Q
  obtain ⟨fs, hfs⟩ := xr_R_at hR6
  refine go_a (pc' := 1105) (ls' := [some (.ref h.length), some (.int (nI 8192))]) (st' := [(.ref h.length)]) rfl rfl ?_
  refine go_a (pc' := 1107) (ls' := [some (.ref h.length), some (.int (nI 8192))]) (st' := [(.int 119), (.ref h.length)]) rfl rfl ?_
  refine go_a (pc' := 1109) (ls' := [some (.ref h.length), some (.int (nI 8192))]) (st' := [(.int 101), (.int 119), (.ref h.length)]) rfl rfl ?_
  refine go_a (pc' := 1111) (ls' := [some (.ref h.length), some (.int (nI 8192))]) (st' := [(.int 97), (.int 101), (.int 119), (.ref h.length)]) rfl rfl ?_
  refine go_a (pc' := 1113) (ls' := [some (.ref h.length), some (.int (nI 8192))]) (st' := [(.int 107), (.int 97), (.int 101), (.int 119), (.ref h.length)]) rfl rfl ?_
  refine go_a (pc' := 1114) (ls' := [some (.ref h.length), some (.int (nI 8192))]) (st' := [(.int 0), (.int 107), (.int 97), (.int 101), (.int 119), (.ref h.length)]) rfl rfl ?_
  refine go_a (pc' := 1115) (ls' := [some (.ref h.length), some (.int (nI 8192))]) (st' := [(.int 0), (.int 0), (.int 107), (.int 97), (.int 101), (.int 119), (.ref h.length)]) rfl rfl ?_
  refine go_a (pc' := 1116) (ls' := [some (.ref h.length), some (.int (nI 8192))]) (st' := [(.int 0), (.int 0), (.int 0), (.int 107), (.int 97), (.int 101), (.int 119), (.ref h.length)]) rfl rfl ?_
  refine go_a (pc' := 1117) (ls' := [some (.ref h.length), some (.int (nI 8192))]) (st' := [(.int 0), (.int 0), (.int 0), (.int 0), (.int 107), (.int 97), (.int 101), (.int 119), (.ref h.length)]) rfl rfl ?_
  refine go_v (m := 60) (as := [.ref h.length, .int 119, .int 101, .int 97, .int 107, .int 0, .int 0, .int 0, .int 0]) (r := []) rfl rfl rfl hfs rfl rfl (xm_said z d h h6 39 119 101 97 107 0 0 0 0 hc (by omega) hR6) (fun v h7 hq1 => ?_)
  obtain ⟨rfl, hR7⟩ := hq1
  clear hfs hR6
  show xx_go (xt_P z) (d + 3) 59 1120 [some (.ref h.length), some (.int (nI 8192))] [] h7 Q
  obtain ⟨fs, hfs⟩ := xr_R_at hR7
  refine go_a (pc' := 1121) (ls' := [some (.ref h.length), some (.int (nI 8192))]) (st' := [(.ref h.length)]) rfl rfl ?_
  refine go_a (pc' := 1123) (ls' := [some (.ref h.length), some (.int (nI 8192))]) (st' := [(.int 99), (.ref h.length)]) rfl rfl ?_
  refine go_a (pc' := 1125) (ls' := [some (.ref h.length), some (.int (nI 8192))]) (st' := [(.int 117), (.int 99), (.ref h.length)]) rfl rfl ?_
  refine go_a (pc' := 1127) (ls' := [some (.ref h.length), some (.int (nI 8192))]) (st' := [(.int 116), (.int 117), (.int 99), (.ref h.length)]) rfl rfl ?_
  refine go_a (pc' := 1128) (ls' := [some (.ref h.length), some (.int (nI 8192))]) (st' := [(.int 0), (.int 116), (.int 117), (.int 99), (.ref h.length)]) rfl rfl ?_
  refine go_a (pc' := 1129) (ls' := [some (.ref h.length), some (.int (nI 8192))]) (st' := [(.int 0), (.int 0), (.int 116), (.int 117), (.int 99), (.ref h.length)]) rfl rfl ?_
  refine go_a (pc' := 1130) (ls' := [some (.ref h.length), some (.int (nI 8192))]) (st' := [(.int 0), (.int 0), (.int 0), (.int 116), (.int 117), (.int 99), (.ref h.length)]) rfl rfl ?_
  refine go_a (pc' := 1131) (ls' := [some (.ref h.length), some (.int (nI 8192))]) (st' := [(.int 0), (.int 0), (.int 0), (.int 0), (.int 116), (.int 117), (.int 99), (.ref h.length)]) rfl rfl ?_
  refine go_a (pc' := 1132) (ls' := [some (.ref h.length), some (.int (nI 8192))]) (st' := [(.int 0), (.int 0), (.int 0), (.int 0), (.int 0), (.int 116), (.int 117), (.int 99), (.ref h.length)]) rfl rfl ?_
  refine go_v (m := 60) (as := [.ref h.length, .int 99, .int 117, .int 116, .int 0, .int 0, .int 0, .int 0, .int 0]) (r := []) rfl rfl rfl hfs rfl rfl (xm_said z d h h7 40 99 117 116 0 0 0 0 0 hc (by omega) hR7) (fun v h8 hq1 => ?_)
  obtain ⟨rfl, hR8⟩ := hq1
  clear hfs hR7
  show xx_go (xt_P z) (d + 3) 59 1135 [some (.ref h.length), some (.int (nI 8192))] [] h8 Q
  obtain ⟨fs, hfs⟩ := xr_R_at hR8
  refine go_a (pc' := 1136) (ls' := [some (.ref h.length), some (.int (nI 8192))]) (st' := [(.ref h.length)]) rfl rfl ?_
  refine go_a (pc' := 1138) (ls' := [some (.ref h.length), some (.int (nI 8192))]) (st' := [(.int 105), (.ref h.length)]) rfl rfl ?_
  refine go_a (pc' := 1140) (ls' := [some (.ref h.length), some (.int (nI 8192))]) (st' := [(.int 110), (.int 105), (.ref h.length)]) rfl rfl ?_
  refine go_a (pc' := 1142) (ls' := [some (.ref h.length), some (.int (nI 8192))]) (st' := [(.int 115), (.int 110), (.int 105), (.ref h.length)]) rfl rfl ?_
  refine go_a (pc' := 1144) (ls' := [some (.ref h.length), some (.int (nI 8192))]) (st' := [(.int 116), (.int 115), (.int 110), (.int 105), (.ref h.length)]) rfl rfl ?_
  refine go_a (pc' := 1145) (ls' := [some (.ref h.length), some (.int (nI 8192))]) (st' := [(.int 0), (.int 116), (.int 115), (.int 110), (.int 105), (.ref h.length)]) rfl rfl ?_
  refine go_a (pc' := 1146) (ls' := [some (.ref h.length), some (.int (nI 8192))]) (st' := [(.int 0), (.int 0), (.int 116), (.int 115), (.int 110), (.int 105), (.ref h.length)]) rfl rfl ?_
  refine go_a (pc' := 1147) (ls' := [some (.ref h.length), some (.int (nI 8192))]) (st' := [(.int 0), (.int 0), (.int 0), (.int 116), (.int 115), (.int 110), (.int 105), (.ref h.length)]) rfl rfl ?_
  refine go_a (pc' := 1148) (ls' := [some (.ref h.length), some (.int (nI 8192))]) (st' := [(.int 0), (.int 0), (.int 0), (.int 0), (.int 116), (.int 115), (.int 110), (.int 105), (.ref h.length)]) rfl rfl ?_
  refine go_v (m := 60) (as := [.ref h.length, .int 105, .int 110, .int 115, .int 116, .int 0, .int 0, .int 0, .int 0]) (r := []) rfl rfl rfl hfs rfl rfl (xm_said z d h h8 41 105 110 115 116 0 0 0 0 hc (by omega) hR8) (fun v h9 hq1 => ?_)
  obtain ⟨rfl, hR9⟩ := hq1
  clear hfs hR8
  show xx_go (xt_P z) (d + 3) 59 1151 [some (.ref h.length), some (.int (nI 8192))] [] h9 Q
  obtain ⟨fs, hfs⟩ := xr_R_at hR9
  refine go_a (pc' := 1152) (ls' := [some (.ref h.length), some (.int (nI 8192))]) (st' := [(.ref h.length)]) rfl rfl ?_
  refine go_a (pc' := 1154) (ls' := [some (.ref h.length), some (.int (nI 8192))]) (st' := [(.int 115), (.ref h.length)]) rfl rfl ?_
  refine go_a (pc' := 1156) (ls' := [some (.ref h.length), some (.int (nI 8192))]) (st' := [(.int 119), (.int 115), (.ref h.length)]) rfl rfl ?_
  refine go_a (pc' := 1158) (ls' := [some (.ref h.length), some (.int (nI 8192))]) (st' := [(.int 97), (.int 119), (.int 115), (.ref h.length)]) rfl rfl ?_
  refine go_a (pc' := 1160) (ls' := [some (.ref h.length), some (.int (nI 8192))]) (st' := [(.int 112), (.int 97), (.int 119), (.int 115), (.ref h.length)]) rfl rfl ?_
  refine go_a (pc' := 1161) (ls' := [some (.ref h.length), some (.int (nI 8192))]) (st' := [(.int 0), (.int 112), (.int 97), (.int 119), (.int 115), (.ref h.length)]) rfl rfl ?_
  refine go_a (pc' := 1162) (ls' := [some (.ref h.length), some (.int (nI 8192))]) (st' := [(.int 0), (.int 0), (.int 112), (.int 97), (.int 119), (.int 115), (.ref h.length)]) rfl rfl ?_
  refine go_a (pc' := 1163) (ls' := [some (.ref h.length), some (.int (nI 8192))]) (st' := [(.int 0), (.int 0), (.int 0), (.int 112), (.int 97), (.int 119), (.int 115), (.ref h.length)]) rfl rfl ?_
  refine go_a (pc' := 1164) (ls' := [some (.ref h.length), some (.int (nI 8192))]) (st' := [(.int 0), (.int 0), (.int 0), (.int 0), (.int 112), (.int 97), (.int 119), (.int 115), (.ref h.length)]) rfl rfl ?_
  refine go_v (m := 60) (as := [.ref h.length, .int 115, .int 119, .int 97, .int 112, .int 0, .int 0, .int 0, .int 0]) (r := []) rfl rfl rfl hfs rfl rfl (xm_said z d h h9 42 115 119 97 112 0 0 0 0 hc (by omega) hR9) (fun v h10 hq1 => ?_)
  obtain ⟨rfl, hR10⟩ := hq1
  clear hfs hR9
  show xx_go (xt_P z) (d + 3) 59 1167 [some (.ref h.length), some (.int (nI 8192))] [] h10 Q
  obtain ⟨fs, hfs⟩ := xr_R_at hR10
  refine go_a (pc' := 1168) (ls' := [some (.ref h.length), some (.int (nI 8192))]) (st' := [(.ref h.length)]) rfl rfl ?_
  refine go_a (pc' := 1170) (ls' := [some (.ref h.length), some (.int (nI 8192))]) (st' := [(.int 112), (.ref h.length)]) rfl rfl ?_
  refine go_a (pc' := 1172) (ls' := [some (.ref h.length), some (.int (nI 8192))]) (st' := [(.int 117), (.int 112), (.ref h.length)]) rfl rfl ?_
  refine go_a (pc' := 1174) (ls' := [some (.ref h.length), some (.int (nI 8192))]) (st' := [(.int 116), (.int 117), (.int 112), (.ref h.length)]) rfl rfl ?_
  refine go_a (pc' := 1175) (ls' := [some (.ref h.length), some (.int (nI 8192))]) (st' := [(.int 0), (.int 116), (.int 117), (.int 112), (.ref h.length)]) rfl rfl ?_
  refine go_a (pc' := 1176) (ls' := [some (.ref h.length), some (.int (nI 8192))]) (st' := [(.int 0), (.int 0), (.int 116), (.int 117), (.int 112), (.ref h.length)]) rfl rfl ?_
  refine go_a (pc' := 1177) (ls' := [some (.ref h.length), some (.int (nI 8192))]) (st' := [(.int 0), (.int 0), (.int 0), (.int 116), (.int 117), (.int 112), (.ref h.length)]) rfl rfl ?_
  refine go_a (pc' := 1178) (ls' := [some (.ref h.length), some (.int (nI 8192))]) (st' := [(.int 0), (.int 0), (.int 0), (.int 0), (.int 116), (.int 117), (.int 112), (.ref h.length)]) rfl rfl ?_
  refine go_a (pc' := 1179) (ls' := [some (.ref h.length), some (.int (nI 8192))]) (st' := [(.int 0), (.int 0), (.int 0), (.int 0), (.int 0), (.int 116), (.int 117), (.int 112), (.ref h.length)]) rfl rfl ?_
  refine go_v (m := 60) (as := [.ref h.length, .int 112, .int 117, .int 116, .int 0, .int 0, .int 0, .int 0, .int 0]) (r := []) rfl rfl rfl hfs rfl rfl (xm_said z d h h10 43 112 117 116 0 0 0 0 0 hc (by omega) hR10) (fun v h11 hq1 => ?_)
  obtain ⟨rfl, hR11⟩ := hq1
  clear hfs hR10
  exact hg _ hR11
set_option maxRecDepth 20000 in
/-- ClauseKernelModel(): from the new object to xr_R -/
theorem xm_model (z : Value) (d : Nat) (h : xx_H) (hc : 11 ≤ h.length) : xx_cl (xt_P z) (d + 4) 59 [.ref h.length] (h ++ xr_init h.length 0 0) (fun v h1 => v = none ∧ xr_R h 44 h1) := by
  refine cl_go rfl ?_
  show xx_go (xt_P z) (d + 3) 59 0 [some (.ref h.length), none] [] (h ++ xr_init h.length 0 0) _
  refine go_a (pc' := 1) (ls' := [some (.ref h.length), none]) (st' := [(.ref h.length)]) rfl rfl ?_
  refine go_o (st' := []) rfl rfl rfl rfl ?_
  refine xr_sts z (d + 3) h _ hc ?_
  refine go_a (pc' := 455) (ls' := [some (.ref h.length), none]) (st' := [(.int 0)]) rfl rfl ?_
  refine go_a (pc' := 456) (ls' := [some (.ref h.length), some (.int (nI 0))]) (st' := []) rfl rfl ?_
  refine xm_heads z (d + 3) h _ _ _ _ _ (xr_z 8192 0) _ _ _ _ hc ?_ 8192 0 (by omega)
  refine xm_saids0 z d h _ _ hc ⟨0, 0, _, _, _, _, _, _, _, _, _, by omega, by omega, xr_ok0, rfl⟩ (fun h1 hR1 => ?_)
  refine xm_saids1 z d h _ _ hc hR1 (fun h2 hR2 => ?_)
  refine xm_saids2 z d h _ _ hc hR2 (fun h3 hR3 => ?_)
  refine xm_saids3 z d h _ _ hc hR3 (fun h4 hR4 => ?_)
  exact go_r rfl rfl rfl rfl rfl rfl ⟨rfl, hR4⟩
