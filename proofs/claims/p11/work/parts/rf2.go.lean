theorem xm_kl_sz {h : xx_H} {N G X S : Int → Int} : xx_sz (xm_kl h 38 (xa_l 64 N) (xa_f 64 G) (xa_f 64 X) (xa_f 512 S)) = 1866 := by
  unfold xm_kl
  simp only [xx_sz, List.map_cons, List.map_nil, xx_sz1, xa_f_len, xa_l_len, List.length_replicate, List.length_cons, List.length_nil, List.sum_cons, List.sum_nil]
  rfl
theorem mb_szN {c : Nat} {I : Nat → Int} {A : Nat → Int → Int} {N : Int → Int} : xx_sz (mb c I A N) = 960830 := by
  unfold mb mfs
  simp only [xx_sz, List.map_cons, List.map_nil, xx_sz1, xa_f_len, xa_l_len, List.length_replicate, List.length_cons, List.length_nil, List.sum_cons, List.sum_nil]
  rfl
theorem kw_go (z : Value) (hz : z = .null ∨ ∃ k, z = .ref k) (d : Nat) (h : xx_H) (L : Int) (f : Int → Int) (hc : 12 ≤ h.length) (hO : OC h) (t1 : STR h 1 2 nmI1) (t2 : STR h 3 4 nmI2) (t3 : STR h 5 6 nmI3) (c0 : h[0]? = some (.inl (.int, xa_f L.toNat f))) (L0 : 0 ≤ L) (L1 : L ≤ 3072) (fR : ∀ e : Int, -2147483648 ≤ f e ∧ f e ≤ 2147483647) : xx_go (xt_P z) (d + 93) 0 0 [some (.ref 0), none, none, none] [] h (fun v h1 => v = some (.int 1) ∧ h1.length - h.length ≤ 600000 ∧ xx_sz h1 - xx_sz h ≤ 7302250) := by
  refine go_new (ci := 9) (fs := [.null, .null, .null, .null, .null, .null, .null, .null, .int 0, .int 0, .int 0, .int 0, .int 0, .int 0]) rfl rfl rfl ?_
  show xx_go (xt_P z) (d + 93) 0 3 [some (.ref 0), none, none, none] [.ref h.length] (h ++ [.inr (9, [.null, .null, .null, .null, .null, .null, .null, .null, .int 0, .int 0, .int 0, .int 0, .int 0, .int 0])]) _
  refine go_a (pc' := 4) (ls' := [some (.ref 0), none, none, none]) (st' := [.ref h.length, .ref h.length]) rfl rfl ?_
  refine go_i (m := 1) (as := [.ref h.length]) (r := [.ref h.length]) rfl rfl rfl rfl rfl (xm_kernelX z hz (d + 85) h hc hO t1 t2 t3) (fun v h1 hq => ?_)
  obtain ⟨rfl, N0, G0, X0, S0, rfl, hM, hH, r1, r2, r3, r4⟩ := hq
  have lk : (xm_kl h 38 (xa_l 64 N0) (xa_f 64 G0) (xa_f 64 X0) (xa_f 512 S0)).length = 32 := rfl
  obtain ⟨h1, e1⟩ : ∃ q : xx_H, q = h ++ xm_kl h 38 (xa_l 64 N0) (xa_f 64 G0) (xa_f 64 X0) (xa_f 512 S0) := ⟨_, rfl⟩
  have l1 : h1.length = h.length + 32 := by rw [e1, List.length_append, lk]
  rw [← e1]
  show xx_go (xt_P z) (d + 93) 0 7 [some (.ref 0), none, none, none] [.ref h.length] h1 _
  refine go_a (pc' := 8) (ls' := [some (.ref 0), some (.ref h.length), none, none]) (st' := []) rfl rfl ?_
  refine go_new (ci := 13) (fs := xp_dfl (xt_P .null) 13) rfl rfl rfl ?_
  rw [xr_beg h1.length _ rfl]
  show xx_go (xt_P z) (d + 93) 0 11 [some (.ref 0), some (.ref h.length), none, none] [.ref h1.length] (h1 ++ xr_init h1.length 0 0) _
  refine go_a (pc' := 12) (ls' := [some (.ref 0), some (.ref h.length), none, none]) (st' := [.ref h1.length, .ref h1.length]) rfl rfl ?_
  refine go_i (m := 59) (as := [.ref h1.length]) (r := [.ref h1.length]) rfl rfl rfl rfl rfl (xm_model z (d + 89) h1 (by omega)) (fun v h2 hq => ?_)
  obtain ⟨rfl, I, A, rfl, MD⟩ := hq
  obtain ⟨M, i13, i47⟩ := MIC0 MD
  obtain ⟨TB, i48, i50, a10⟩ := TBK0 MD
  show xx_go (xt_P z) (d + 93) 0 15 [some (.ref 0), some (.ref h.length), none, none] [.ref h1.length] (mh h1 [] I A (fun _ => 0)) _
  refine go_a (pc' := 16) (ls' := [some (.ref 0), some (.ref h.length), some (.ref h1.length), none]) (st' := []) rfl rfl ?_
  refine go_a (pc' := 17) (ls' := [some (.ref 0), some (.ref h.length), some (.ref h1.length), none]) (st' := [.int (iI 0)]) rfl rfl ?_
  refine go_a (pc' := 18) (ls' := [some (.ref 0), some (.ref h.length), some (.ref h1.length), some (.int (iI 0))]) (st' := []) rfl rfl ?_
  have eH : mh h1 [] I A (fun _ => 0) = h ++ (xm_kl h 38 (xa_l 64 N0) (xa_f 64 G0) (xa_f 64 X0) (xa_f 512 S0) ++ mb h1.length I A (fun _ => 0)) := by
    unfold mh
    rw [List.append_nil]
    conv => lhs; rw [e1]
    rw [List.append_assoc, ← e1]
  obtain ⟨s0, s, K, k0, k20, ⟨k22, k23, kw⟩, es⟩ := KIC0 h (mb h1.length I A (fun _ => 0)) hc hO hM hH ⟨r1, r2, r3, r4⟩ (Nat.le_refl _)
  rw [← eH] at K es
  have cH : (mh h1 [] I A (fun _ => 0))[0]? = some (.inl (.int, xa_f L.toNat f)) := by rw [eH, List.getElem?_append_left (by omega)]; exact c0
  have W : LWI h.length 0 s0 L f (mh h1 [] I A (fun _ => 0)) := ⟨h1, [], I, A, fun _ => 0, s, [], rfl, l1, K, M, k0.trans i13.symm, k20.trans i47.symm, ⟨fun e e0 e1 => absurd e1 (by omega), fun e e0 e1 => by rw [a10, kw (e / 4) (by omega) (by omega), sp_by_0], k22.trans i48.symm, k23.trans i50.symm⟩, TB, (fun th q => (by cases q)), cH⟩
  rw [l1]
  show xx_go (xt_P z) (d + 93) 0 18 [some (.ref 0), some (.ref h.length), some (.ref (h.length + 32)), some (.int (iI 0))] [] (mh h1 [] I A (fun _ => 0)) _
  have lH : ((mh h1 [] I A (fun _ => 0)).length : Int) = h.length + 84 := by
    rw [eH, List.length_append, List.length_append, lk, mb_len]
    omega
  have sH : (xx_sz (mh h1 [] I A (fun _ => 0)) : Int) = xx_sz h + 1866 + 960830 := by
    rw [eH, xq_sz, xq_sz, xm_kl_sz, mb_szN]
    omega
  refine go_w ?_ (kw_loop z hz d h.length L f s0 hc L0 L1 fR L.toNat 0 0 _ (by omega) (by decide) (by decide) L0 W)
  rintro v h9 ⟨rfl, b1, b2⟩
  rw [es] at b1 b2
  have b1 : 20 * (h9.length : Int) ≤ 20 * ((mh h1 [] I A (fun _ => 0)).length : Int) - 1275 + 10525144 := b1
  have b2 : (xx_sz h9 : Int) ≤ (xx_sz (mh h1 [] I A (fun _ => 0)) : Int) - 3825 + 4386432 := b2
  exact ⟨rfl, by omega, by omega⟩

