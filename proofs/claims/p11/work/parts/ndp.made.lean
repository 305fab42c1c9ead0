theorem xo_over_p {n m sp : Nat} {f g : Int → Int} (h1 : sp + m ≤ n) : xo_over (xa_f n f) (xa_f m g) sp 0 m = xa_f m (fun k => f (k + sp)) := by
  refine List.ext_getElem? (fun i => ?_)
  unfold xo_over
  have l1 := xa_f_len n f
  have l2 := xa_f_len m g
  rw [List.take_zero, List.nil_append]
  by_cases him : i < m
  · have R : (xa_f m (fun k => f (k + sp)))[i]? = some (.int (iI (f ((i : Int) + sp)))) := xa_f_get (n := m) (f := fun k => f (k + sp)) (e := (i : Int)) (by omega) (by omega)
    rw [R, List.getElem?_append_left (by rw [List.length_take, List.length_drop, l1]; omega), List.getElem?_take_of_lt him, List.getElem?_drop]
    have F : (xa_f n f)[sp + i]? = some (.int (iI (f ((sp + i : Nat) : Int)))) := xa_f_get (n := n) (f := f) (e := ((sp + i : Nat) : Int)) (by omega) (by omega)
    rw [F, show (((sp + i : Nat) : Int)) = (i : Int) + sp by omega]
  · rw [List.getElem?_eq_none (by rw [List.length_append, List.length_take, List.length_drop, List.length_drop, l1, l2]; omega), List.getElem?_eq_none (by rw [xa_f_len]; omega)]
theorem xm_checkLength (z : Value) (d : Nat) (p t : Int) (hp : xx_H) (p0 : 0 ≤ p) (h : p ≤ t) (t1 : t ≤ 1000000) : xx_cl (xt_P z) (d + 1) 277 [.int (iI p), .int (iI t)] hp (fun v h1 => v = none ∧ h1 = hp) := by
  refine cl_go rfl ?_
  show xx_go (xt_P z) d 277 0 [some (.int (iI p)), some (.int (iI t))] [] hp _
  refine go_a (pc' := 1) (ls' := [some (.int (iI p)), some (.int (iI t))]) (st' := [.int (iI t)]) rfl rfl ?_
  refine go_a (pc' := 2) (ls' := [some (.int (iI p)), some (.int (iI t))]) (st' := [.int (iI p), .int (iI t)]) rfl rfl ?_
  refine mi_ge (t := 37) rfl rfl (by omega) (by omega) (by omega) (by omega) (fun _ => ?_) (fun w => absurd (show t ≥ p by omega) w)
  exact go_r rfl rfl rfl rfl rfl rfl ⟨rfl, rfl⟩
theorem xm_rangeInt (z : Value) (d : Nat) (a : Nat) (n p t : Int) (f : Int → Int) (hp : xx_H) (h12 : 12 ≤ hp.length) (ha : hp[a]? = some (.inl (.int, xa_f n.toNat f))) (n1 : n ≤ 1000000) (p0 : 1 ≤ p) (h1 : p ≤ t) (h2 : t ≤ n) : xx_cl (xt_P z) (d + 2) 276 [.ref a, .int (iI p), .int (iI t)] hp (fun v h1 => v = some (.ref hp.length) ∧ h1 = hp ++ [.inl (.int, xa_f (t - p).toNat (fun k => f (k + p)))]) := by
  have la := (List.getElem?_eq_some_iff.mp ha).1
  refine cl_go rfl ?_
  show xx_go (xt_P z) (d + 1) 276 0 [some (.ref a), some (.int (iI p)), some (.int (iI t)), none, none] [] hp _
  refine go_a (pc' := 1) (ls' := [some (.ref a), some (.int (iI p)), some (.int (iI t)), none, none]) (st' := [.int (iI p)]) rfl rfl ?_
  refine go_a (pc' := 2) (ls' := [some (.ref a), some (.int (iI p)), some (.int (iI t)), none, none]) (st' := [.int (iI t), .int (iI p)]) rfl rfl ?_
  refine go_s (m := 277) (as := [.int (iI p), .int (iI t)]) (r := []) rfl rfl rfl rfl (xm_checkLength z d p t hp (by omega) h1 (by omega)) (fun v h3 hq => ?_)
  obtain ⟨rfl, e⟩ := hq
  rw [e]
  clear e h3
  show xx_go (xt_P z) (d + 1) 276 5 [some (.ref a), some (.int (iI p)), some (.int (iI t)), none, none] [] hp _
  refine go_a (pc' := 6) (ls' := [some (.ref a), some (.int (iI p)), some (.int (iI t)), none, none]) (st' := [.int (iI t)]) rfl rfl ?_
  refine go_a (pc' := 7) (ls' := [some (.ref a), some (.int (iI p)), some (.int (iI t)), none, none]) (st' := [.int (iI p), .int (iI t)]) rfl rfl ?_
  refine mi_sub rfl ?_
  refine go_a (pc' := 9) (ls' := [some (.ref a), some (.int (iI p)), some (.int (iI t)), some (.int (iI (t - p))), none]) (st' := []) rfl rfl ?_
  refine go_a (pc' := 10) (ls' := [some (.ref a), some (.int (iI p)), some (.int (iI t)), some (.int (iI (t - p))), none]) (st' := [.int (iI (t - p))]) rfl rfl ?_
  refine go_newa (m := (t - p).toNat) rfl rfl (iI_nn (by omega) (by omega)) (iI_clamp (by omega) (by omega)) (by omega) ?_
  show xx_go (xt_P z) (d + 1) 276 12 [some (.ref a), some (.int (iI p)), some (.int (iI t)), some (.int (iI (t - p))), none] [.ref hp.length] (hp ++ [.inl (.int, List.replicate (t - p).toNat (.int 0))]) _
  refine go_a (pc' := 14) (ls' := [some (.ref a), some (.int (iI p)), some (.int (iI t)), some (.int (iI (t - p))), some (.ref hp.length)]) (st' := []) rfl rfl ?_
  refine go_a (pc' := 15) (ls' := [some (.ref a), some (.int (iI p)), some (.int (iI t)), some (.int (iI (t - p))), some (.ref hp.length)]) (st' := [.ref a]) rfl rfl ?_
  refine go_a (pc' := 16) (ls' := [some (.ref a), some (.int (iI p)), some (.int (iI t)), some (.int (iI (t - p))), some (.ref hp.length)]) (st' := [.int (iI p), .ref a]) rfl rfl ?_
  refine go_a (pc' := 18) (ls' := [some (.ref a), some (.int (iI p)), some (.int (iI t)), some (.int (iI (t - p))), some (.ref hp.length)]) (st' := [.ref hp.length, .int (iI p), .ref a]) rfl rfl ?_
  refine go_a (pc' := 19) (ls' := [some (.ref a), some (.int (iI p)), some (.int (iI t)), some (.int (iI (t - p))), some (.ref hp.length)]) (st' := [.int (iI 0), .ref hp.length, .int (iI p), .ref a]) rfl rfl ?_
  refine go_a (pc' := 20) (ls' := [some (.ref a), some (.int (iI p)), some (.int (iI t)), some (.int (iI (t - p))), some (.ref hp.length)]) (st' := [.ref a, .int (iI 0), .ref hp.length, .int (iI p), .ref a]) rfl rfl ?_
  refine mk_len (n := n) rfl (app_old ha) (xa_f_len _ _) (by omega) (by omega) ?_
  refine go_a (pc' := 22) (ls' := [some (.ref a), some (.int (iI p)), some (.int (iI t)), some (.int (iI (t - p))), some (.ref hp.length)]) (st' := [.int (iI p), .int (iI n), .int (iI 0), .ref hp.length, .int (iI p), .ref a]) rfl rfl ?_
  refine mi_sub rfl ?_
  refine go_a (pc' := 24) (ls' := [some (.ref a), some (.int (iI p)), some (.int (iI t)), some (.int (iI (t - p))), some (.ref hp.length)]) (st' := [.int (iI (t - p)), .int (iI (n - p)), .int (iI 0), .ref hp.length, .int (iI p), .ref a]) rfl rfl ?_
  refine go_o (st' := [.int (iI (if (t - p) < (n - p) then (t - p) else (n - p))), .int (iI 0), .ref hp.length, .int (iI p), .ref a]) (h' := (hp ++ [.inl (.int, List.replicate (t - p).toNat (.int 0))])) rfl rfl rfl (by rw [iI_min (by omega) (by omega) (by omega) (by omega)]; rfl) ?_
  rw [show (if (t - p) < (n - p) then (t - p) else (n - p)) = t - p by split <;> omega]
  refine go_copy (n0 := (t - p).toNat) (sp := p.toNat) (dp := 0) rfl rfl (app_old ha) app_self (xa_f_pr _ _) (show 12 ≤ hp.length from h12) (by omega) (iI_nn (by omega) (by omega)) (iI_clamp (by omega) (by omega)) (by decide) rfl (iI_nn (by omega) (by omega)) (iI_clamp (by omega) (by omega)) (by rw [xa_f_len]; omega) (by rw [List.length_replicate]; omega) rfl ?_
  rw [app_set, rep_f, xo_over_p (by omega), show ((p.toNat : Nat) : Int) = p by omega]
  show xx_go (xt_P z) (d + 1) 276 30 [some (.ref a), some (.int (iI p)), some (.int (iI t)), some (.int (iI (t - p))), some (.ref hp.length)] [] (hp ++ [.inl (.int, xa_f (t - p).toNat (fun k => f (k + p)))]) _
  refine go_a (pc' := 32) (ls' := [some (.ref a), some (.int (iI p)), some (.int (iI t)), some (.int (iI (t - p))), some (.ref hp.length)]) (st' := [.ref hp.length]) rfl rfl ?_
  exact go_r rfl rfl rfl rfl rfl rfl ⟨rfl, rfl⟩
theorem xm_range (z : Value) (d : Nat) (a : Nat) (n p t : Int) (f : Int → Int) (hp : xx_H) (h12 : 12 ≤ hp.length) (ha : hp[a]? = some (.inl (.int, xa_f n.toNat f))) (n1 : n ≤ 1000000) (p0 : 1 ≤ p) (h1 : p ≤ t) (h2 : t ≤ n) : xx_cl (xt_P z) (d + 3) 275 [.ref a, .int (iI p), .int (iI t)] hp (fun v h1 => v = some (.ref hp.length) ∧ h1 = hp ++ [.inl (.int, xa_f (t - p).toNat (fun k => f (k + p)))]) := by
  refine cl_go rfl ?_
  show xx_go (xt_P z) (d + 2) 275 0 [some (.ref a), some (.int (iI p)), some (.int (iI t))] [] hp _
  refine go_a (pc' := 1) (ls' := [some (.ref a), some (.int (iI p)), some (.int (iI t))]) (st' := [.int (iI p)]) rfl rfl ?_
  refine mi_ne0 (t := 10) rfl rfl (by omega) (by omega) (fun _ => ?_) (fun w => absurd (show p ≠ 0 by omega) w)
  refine go_a (pc' := 11) (ls' := [some (.ref a), some (.int (iI p)), some (.int (iI t))]) (st' := [.ref a]) rfl rfl ?_
  refine go_a (pc' := 12) (ls' := [some (.ref a), some (.int (iI p)), some (.int (iI t))]) (st' := [.int (iI p), .ref a]) rfl rfl ?_
  refine go_a (pc' := 13) (ls' := [some (.ref a), some (.int (iI p)), some (.int (iI t))]) (st' := [.int (iI t), .int (iI p), .ref a]) rfl rfl ?_
  refine go_s (m := 276) (as := [.ref a, .int (iI p), .int (iI t)]) (r := []) rfl rfl rfl rfl (xm_rangeInt z d a n p t f hp h12 ha n1 p0 h1 h2) (fun v h3 hq => ?_)
  obtain ⟨rfl, rfl⟩ := hq
  show xx_go (xt_P z) (d + 2) 275 16 [some (.ref a), some (.int (iI p)), some (.int (iI t))] [.ref hp.length] (hp ++ [.inl (.int, xa_f (t - p).toNat (fun k => f (k + p)))]) _
  exact go_r rfl rfl rfl rfl rfl rfl ⟨rfl, rfl⟩
theorem kg_init (z : Value) (d a q : Nat) (x : Value) (hp : xx_H) (h12 : 12 ≤ a) (ha : hp[a]? = some (.inr (10, [x]))) : xx_cl (xt_P z) (d + 1) 225 [.ref a, .ref q] hp (fun v h1 => v = none ∧ h1 = hp.set a (.inr (10, [.ref q]))) := by
  refine cl_go rfl ?_
  show xx_go (xt_P z) d 225 0 [some (.ref a), some (.ref q)] [] hp _
  refine go_a (pc' := 1) (ls' := [some (.ref a), some (.ref q)]) (st' := [.ref a]) rfl rfl ?_
  refine go_o (st' := []) (h' := hp) rfl rfl rfl rfl ?_
  refine go_a (pc' := 5) (ls' := [some (.ref a), some (.ref q)]) (st' := [.ref a]) rfl rfl ?_
  refine go_a (pc' := 6) (ls' := [some (.ref a), some (.ref q)]) (st' := [.ref q, .ref a]) rfl rfl ?_
  refine go_put rfl ha rfl rfl h12 (show 0 < 1 by decide) rfl rfl ?_
  exact go_r rfl rfl rfl rfl rfl rfl ⟨rfl, rfl⟩
def mkT (hp : xx_H) (n : Int) (f : Int → Int) : xx_H := hp ++ [.inr (10, [.ref (hp.length + 1)]), .inl (.int, xa_f n.toNat f)]
theorem mkT_eq {hp : xx_H} {n : Int} {f : Int → Int} : ((hp ++ [(.inr (10, [.null]) : xx_E)]) ++ [(.inl (.int, xa_f n.toNat f) : xx_E)]).set hp.length (.inr (10, [.ref (hp.length + 1)])) = mkT hp n f := by
  unfold mkT
  simp
theorem mkT_KTL {hp : xx_H} {n : Int} {f : Int → Int} (n0 : 0 ≤ n) (n1 : n ≤ 120) (hf : ∀ k : Int, -2147483648 ≤ f k ∧ f k ≤ 2147483647) : KTL (mkT hp n f) hp.length (hp.length + 1) n f := by
  refine ⟨?_, ?_, ⟨n0, n1⟩, hf⟩
  · unfold mkT
    simp
  · unfold mkT
    simp
theorem mkT_KI {c : Nat} {hp : xx_H} {s : KS} {n : Int} {f : Int → Int} (n0 : 0 ≤ n) (h : KI c hp s) : KI c (mkT hp n f) s ∧ kx c hp s (mkT hp n f) s 2 (n + 1) ∧ kn c s hp.length ∧ kn c s (hp.length + 1) := by
  obtain ⟨a1, a2, a3⟩ := ki_app (e := (.inr (10, [.ref (hp.length + 1)]) : xx_E)) h
  obtain ⟨b1, b2, b3⟩ := ki_app (e := (.inl (.int, xa_f n.toNat f) : xx_E)) a1
  have e : mkT hp n f = hp ++ [(.inr (10, [.ref (hp.length + 1)]) : xx_E)] ++ [(.inl (.int, xa_f n.toNat f) : xx_E)] := by
    unfold mkT
    simp
  rw [e]
  refine ⟨b1, kx_w (kx_tr a2 b2) (by decide) ?_, a3, ?_⟩
  · show ((1 : Nat) : Int) + ((xa_f n.toNat f).length : Nat) ≤ n + 1
    rw [xa_f_len]
    omega
  · have := b3
    rw [List.length_append] at this
    exact this
theorem kg_part (z : Value) (d a q : Nat) (n p : Int) (f : Int → Int) (hp : xx_H) (hT : KTL hp a q n f) (h12 : 12 ≤ hp.length) (p0 : 1 ≤ p) (p1 : p ≤ n) : xx_cl (xt_P z) (d + 4) 274 [.ref a, .int (iI p)] hp (fun v h1 => v = some (.ref hp.length) ∧ h1 = mkT hp (bh n f p - p) (fun k => f (k + p))) := by
  have b := hT.2.2.1
  have r := bhf_R n f n.toNat 1 p
  have eb : bh n f p = bhf n f n.toNat 1 p := by
    unfold bh
    rw [if_neg (by omega)]
  refine cl_go rfl ?_
  show xx_go (xt_P z) (d + 3) 274 0 [some (.ref a), some (.int (iI p)), none] [] hp _
  refine go_a (pc' := 1) (ls' := [some (.ref a), some (.int (iI p)), none]) (st' := [.ref a]) rfl rfl ?_
  refine go_a (pc' := 2) (ls' := [some (.ref a), some (.int (iI p)), none]) (st' := [.int (iI p), .ref a]) rfl rfl ?_
  refine go_v (m := 231) (as := [.ref a, .int (iI p)]) (r := []) rfl rfl rfl hT.1 rfl rfl (kg_behind z (d + 2) p a q n f hp hT (by omega) (by omega)) (fun v h3 hq => ?_)
  obtain ⟨rfl, e⟩ := hq
  rw [e]
  clear e h3
  show xx_go (xt_P z) (d + 3) 274 5 [some (.ref a), some (.int (iI p)), none] [.int (iI (bh n f p))] hp _
  refine go_a (pc' := 6) (ls' := [some (.ref a), some (.int (iI p)), some (.int (iI (bh n f p)))]) (st' := []) rfl rfl ?_
  refine go_a (pc' := 7) (ls' := [some (.ref a), some (.int (iI p)), some (.int (iI (bh n f p)))]) (st' := [.int (iI p)]) rfl rfl ?_
  refine mi_lt0 (t := 24) rfl rfl (by omega) (by omega) (fun w => absurd w (by omega)) (fun _ => ?_)
  refine go_a (pc' := 11) (ls' := [some (.ref a), some (.int (iI p)), some (.int (iI (bh n f p)))]) (st' := [.int (iI p)]) rfl rfl ?_
  refine go_a (pc' := 12) (ls' := [some (.ref a), some (.int (iI p)), some (.int (iI (bh n f p)))]) (st' := [.int (iI (bh n f p)), .int (iI p)]) rfl rfl ?_
  refine mi_gt (t := 24) rfl rfl (by omega) (by omega) (by omega) (by omega) (fun w => absurd w (by omega)) (fun _ => ?_)
  refine go_a (pc' := 16) (ls' := [some (.ref a), some (.int (iI p)), some (.int (iI (bh n f p)))]) (st' := [.int (iI (bh n f p))]) rfl rfl ?_
  refine go_a (pc' := 17) (ls' := [some (.ref a), some (.int (iI p)), some (.int (iI (bh n f p)))]) (st' := [.ref a, .int (iI (bh n f p))]) rfl rfl ?_
  refine go_get (v := .ref q) rfl hT.1 rfl rfl ?_
  refine mk_len (n := n) rfl hT.2.1 (xa_f_len _ _) (by omega) (by omega) ?_
  refine mi_le (t := 26) rfl rfl (by omega) (by omega) (by omega) (by omega) (fun _ => ?_) (fun w => absurd (show bh n f p ≤ n by omega) w)
  refine go_new (ci := 10) (fs := [.null]) rfl rfl rfl ?_
  show xx_go (xt_P z) (d + 3) 274 29 [some (.ref a), some (.int (iI p)), some (.int (iI (bh n f p)))] [.ref hp.length] (hp ++ [.inr (10, [.null])]) _
  refine go_a (pc' := 30) (ls' := [some (.ref a), some (.int (iI p)), some (.int (iI (bh n f p)))]) (st' := [.ref hp.length, .ref hp.length]) rfl rfl ?_
  refine go_a (pc' := 31) (ls' := [some (.ref a), some (.int (iI p)), some (.int (iI (bh n f p)))]) (st' := [.ref a, .ref hp.length, .ref hp.length]) rfl rfl ?_
  refine go_get (v := .ref q) rfl (app_old hT.1) rfl rfl ?_
  refine go_a (pc' := 35) (ls' := [some (.ref a), some (.int (iI p)), some (.int (iI (bh n f p)))]) (st' := [.int (iI p), .ref q, .ref hp.length, .ref hp.length]) rfl rfl ?_
  refine go_a (pc' := 36) (ls' := [some (.ref a), some (.int (iI p)), some (.int (iI (bh n f p)))]) (st' := [.int (iI (bh n f p)), .int (iI p), .ref q, .ref hp.length, .ref hp.length]) rfl rfl ?_
  refine go_s (m := 275) (as := [.ref q, .int (iI p), .int (iI (bh n f p))]) (r := [.ref hp.length, .ref hp.length]) rfl rfl rfl rfl (xm_range z d q n p (bh n f p) f (hp ++ [.inr (10, [.null])]) (by rw [List.length_append]; omega) (app_old hT.2.1) (by omega) p0 (by omega) (by omega)) (fun v h3 hq => ?_)
  obtain ⟨rfl, rfl⟩ := hq
  rw [show (hp ++ [(.inr (10, [.null]) : xx_E)]).length = hp.length + 1 from List.length_append]
  show xx_go (xt_P z) (d + 3) 274 39 [some (.ref a), some (.int (iI p)), some (.int (iI (bh n f p)))] [.ref ((hp.length + 1)), .ref hp.length, .ref hp.length] ((hp ++ [.inr (10, [.null])]) ++ [.inl (.int, xa_f (bh n f p - p).toNat (fun k => f (k + p)))]) _
  refine go_i (m := 225) (as := [.ref hp.length, .ref ((hp.length + 1))]) (r := [.ref hp.length]) rfl rfl rfl rfl rfl (kg_init z (d + 2) hp.length (hp.length + 1) .null _ h12 (app_old app_self)) (fun v h3 hq => ?_)
  obtain ⟨rfl, rfl⟩ := hq
  rw [mkT_eq]
  show xx_go (xt_P z) (d + 3) 274 42 [some (.ref a), some (.int (iI p)), some (.int (iI (bh n f p)))] [.ref hp.length] (mkT hp (bh n f p - p) (fun k => f (k + p))) _
  exact go_r rfl rfl rfl rfl rfl rfl ⟨rfl, rfl⟩
theorem kr_copy_6 (z : Value) (d c : Nat) (hp : xx_H) (s : KS) (hK : KI c hp s) (hB : KB s) (l : s.I 6 ≤ 120) : xx_cl (xt_P z) (d + 2) 224 [.ref (c + 26)] hp (fun v h1 => v = some (.ref hp.length) ∧ h1 = hp ++ [.inl (.int, xa_f (s.I 6).toNat (s.A 6))]) := by
  have b4 := hB.2.2.2.1 6 (by decide)
  have b5 := hB.2.2.2.2.1
  have l0 := (List.getElem?_eq_some_iff.mp (hK.1 0 (by decide))).1
  have l1 := hK.2.1 0 (by decide)
  refine cl_go rfl ?_
  show xx_go (xt_P z) (d + 1) 224 0 [some (.ref (c + 26))] [] hp _
  refine go_a (pc' := 1) (ls' := [some (.ref (c + 26))]) (st' := [.ref (c + 26)]) rfl rfl ?_
  refine go_get (v := .ref (s.P 6)) rfl (hK.1 17 (by decide)) rfl rfl ?_
  refine go_a (pc' := 5) (ls' := [some (.ref (c + 26))]) (st' := [.ref (c + 26), .ref (s.P 6)]) rfl rfl ?_
  refine go_get (v := .int (iI (s.I 6))) rfl (hK.1 17 (by decide)) rfl rfl ?_
  refine go_s (m := 183) (as := [.ref (s.P 6), .int (iI (s.I 6))]) (r := []) rfl rfl rfl rfl (xm_copyOf_int z d (s.P 6) (s.C 6) (s.I 6) (s.A 6) hp (by omega) (hK.1 27 (by decide)) (by omega) (by omega) (by omega) (by omega) (by omega)) (fun v h3 hq => ?_)
  obtain ⟨rfl, rfl⟩ := hq
  rw [show xa_f (s.I 6).toNat (cf (s.C 6) (s.A 6)) = xa_f (s.I 6).toNat (s.A 6) from xa_f_ext (fun i hi => if_pos (by omega))]
  show xx_go (xt_P z) (d + 1) 224 11 [some (.ref (c + 26))] [.ref hp.length] (hp ++ [.inl (.int, xa_f (s.I 6).toNat (s.A 6))]) _
  exact go_r rfl rfl rfl rfl rfl rfl ⟨rfl, rfl⟩
def KS.wW (s : KS) (g : Int → Int) : KS := (s.I, sw s.A 6 g, s.N, s.C, s.P, s.T)
theorem ki_wW {c : Nat} {hp : xx_H} {s : KS} (hK : KI c hp s) (g : Int → Int) : KI c (hp.set (s.P 6) (.inl (.int, xa_f (s.C 6).toNat g))) (s.wW g) ∧ kx c hp s (hp.set (s.P 6) (.inl (.int, xa_f (s.C 6).toNat g))) (s.wW g) 0 0 := by
  refine ki_set (i := 27) (s1 := s.wW g) hK (by decide) (hK.2.1 27 (by decide)) rfl rfl rfl (fun j hj w => match j, hj, w with
    | 0, _, _ => rfl
    | 1, _, _ => rfl
    | 2, _, _ => rfl
    | 3, _, _ => rfl
    | 4, _, _ => rfl
    | 5, _, _ => rfl
    | 6, _, _ => rfl
    | 7, _, _ => rfl
    | 8, _, _ => rfl
    | 9, _, _ => rfl
    | 10, _, _ => rfl
    | 11, _, _ => rfl
    | 12, _, _ => rfl
    | 13, _, _ => rfl
    | 14, _, _ => rfl
    | 15, _, _ => rfl
    | 16, _, _ => rfl
    | 17, _, _ => rfl
    | 18, _, _ => rfl
    | 19, _, _ => rfl
    | 20, _, _ => rfl
    | 21, _, _ => rfl
    | 22, _, _ => rfl
    | 23, _, _ => rfl
    | 24, _, _ => rfl
    | 25, _, _ => rfl
    | 26, _, _ => rfl
    | 27, _, w => absurd rfl w
    | 28, _, _ => rfl
    | 29, _, _ => rfl
    | 30, _, _ => rfl
    | 31, _, _ => rfl
    | 32, _, _ => rfl
    | 33, _, _ => rfl
    | 34, _, _ => rfl
    | j + 35, q, _ => absurd q (by omega)) ?_
  show ((xa_f (s.C 6).toNat g).length : Nat) = (xa_f (s.C 6).toNat (s.A 6)).length
  rw [xa_f_len, xa_f_len]
theorem KB_wW {s : KS} (hB : KB s) {g : Int → Int} (hg : ∀ k : Int, -2147483648 ≤ g k ∧ g k ≤ 2147483647) : KB (s.wW g) := by
  refine ⟨fun b k => ?_, hB.2⟩
  show -2147483648 ≤ sw s.A 6 g b k ∧ sw s.A 6 g b k ≤ 2147483647
  by_cases e : b = 6
  · rw [e]
    exact hg k
  · rw [sw_ne e]
    exact hB.1 b k
theorem kr_addAll_6 (z : Value) (d c q : Nat) (n : Int) (f : Int → Int) (hp : xx_H) (s : KS) (hK : KI c hp s) (hB : KB s) (hA : KAL hp q n f) (hq0 : kn c s q) (n1 : n ≤ 120) (l : s.I 6 ≤ 241) : xx_cl (xt_P z) (d + 2) 260 [.ref (c + 26), .ref q] hp (fun v h1 => v = none ∧ ∃ s1 : KS, KI c h1 s1 ∧ KB s1 ∧ kx c hp s h1 s1 0 0 ∧ KRW 6 s s1 ∧ s1.I = su s.I 6 (s.I 6 + n) ∧ (∀ e : Int, e < s.I 6 → s1.A 6 e = s.A 6 e) ∧ ∀ e : Int, 0 ≤ e → e < n → s1.A 6 (s.I 6 + e) = f e) := by
  have b4 := hB.2.2.2.1 6 (by decide)
  have b5 := hB.2.2.2.2.1
  have b6 := hA.2.1
  have tail : ∀ (hp1 : xx_H) (t : KS), KI c hp1 t → KB t → kx c hp s hp1 t 0 0 → KRW 6 s t → t.I = s.I → (∀ e : Int, e < s.I 6 → t.A 6 e = s.A 6 e) → s.I 6 + n ≤ t.C 6 → KAL hp1 q n f → q ≠ t.P 6 → xx_go (xt_P z) (d + 1) 260 48 [some (.ref (c + 26)), some (.ref q)] [] hp1 (fun v h1 => v = none ∧ ∃ s1 : KS, KI c h1 s1 ∧ KB s1 ∧ kx c hp s h1 s1 0 0 ∧ KRW 6 s s1 ∧ s1.I = su s.I 6 (s.I 6 + n) ∧ (∀ e : Int, e < s.I 6 → s1.A 6 e = s.A 6 e) ∧ ∀ e : Int, 0 ≤ e → e < n → s1.A 6 (s.I 6 + e) = f e) := by
    intro hp1 t hK hB hX hW eI eA hC hA qn
    have b4' := hB.2.2.2.1 6 (by decide)
    have b5' := hB.2.2.2.2.1
    have e6 : t.I 6 = s.I 6 := by rw [eI]
    refine go_a (pc' := 49) (ls' := [some (.ref (c + 26)), some (.ref q)]) (st' := [.ref q]) rfl rfl ?_
    refine go_a (pc' := 50) (ls' := [some (.ref (c + 26)), some (.ref q)]) (st' := [.int (iI 0), .ref q]) rfl rfl ?_
    refine go_a (pc' := 51) (ls' := [some (.ref (c + 26)), some (.ref q)]) (st' := [.ref (c + 26), .int (iI 0), .ref q]) rfl rfl ?_
    refine go_get (v := .ref (t.P 6)) rfl (hK.1 17 (by decide)) rfl rfl ?_
    refine go_a (pc' := 55) (ls' := [some (.ref (c + 26)), some (.ref q)]) (st' := [.ref (c + 26), .ref (t.P 6), .int (iI 0), .ref q]) rfl rfl ?_
    refine go_get (v := .int (iI (t.I 6))) rfl (hK.1 17 (by decide)) rfl rfl ?_
    refine go_a (pc' := 59) (ls' := [some (.ref (c + 26)), some (.ref q)]) (st' := [.ref q, .int (iI (t.I 6)), .ref (t.P 6), .int (iI 0), .ref q]) rfl rfl ?_
    refine mk_len (n := n) rfl hA.1 (xa_f_len _ _) (by omega) (by omega) ?_
    refine go_copy (n0 := n.toNat) (sp := 0) (dp := (t.I 6).toNat) rfl rfl hA.1 (hK.1 27 (by decide)) (xa_f_pr _ _) (hK.2.1 27 (by decide)) qn (iI_nn (by omega) (by omega)) (iI_clamp (by omega) (by omega)) (iI_nn (by omega) (by omega)) (iI_clamp (by omega) (by omega)) (by decide) rfl (by rw [xa_f_len]; omega) (by rw [xa_f_len]; omega) rfl ?_
    rw [xo_over_f (by omega) (by omega)]
    generalize eg : (fun k : Int => if ((t.I 6).toNat : Int) ≤ k ∧ k < (t.I 6).toNat + (n.toNat : Int) then f (k - (t.I 6).toNat) else t.A 6 k) = w
    have hw : ∀ k : Int, -2147483648 ≤ w k ∧ w k ≤ 2147483647 := by
      intro k
      rw [← eg]
      dsimp only
      split
      · exact hA.2.2 _
      · exact hB.1 6 k
    obtain ⟨K1, X1⟩ := ki_wW hK w
    have B1 := KB_wW hB hw
    show xx_go (xt_P z) (d + 1) 260 63 [some (.ref (c + 26)), some (.ref q)] [] (hp1.set (t.P 6) (.inl (.int, xa_f (t.C 6).toNat w))) _
    have hA1 : (hp1.set (t.P 6) (.inl (.int, xa_f (t.C 6).toNat w)))[q]? = some (.inl (.int, xa_f n.toNat f)) := by
      rw [List.getElem?_set_ne (fun e => qn e.symm)]
      exact hA.1
    generalize hp1.set (t.P 6) (.inl (.int, xa_f (t.C 6).toNat w)) = hp2 at K1 X1 hA1 ⊢
    have X2 := kx_tr hX X1
    have b7 : (t.wW w).I 6 = t.I 6 := rfl
    refine go_a (pc' := 64) (ls' := [some (.ref (c + 26)), some (.ref q)]) (st' := [.ref (c + 26)]) rfl rfl ?_
    refine go_a (pc' := 65) (ls' := [some (.ref (c + 26)), some (.ref q)]) (st' := [.ref (c + 26), .ref (c + 26)]) rfl rfl ?_
    refine go_get (v := .int (iI ((t.wW w).I 6))) rfl (K1.1 17 (by decide)) rfl rfl ?_
    refine go_a (pc' := 69) (ls' := [some (.ref (c + 26)), some (.ref q)]) (st' := [.ref q, .int (iI ((t.wW w).I 6)), .ref (c + 26)]) rfl rfl ?_
    refine mk_len (n := n) rfl hA1 (xa_f_len _ _) (by omega) (by omega) ?_
    refine mi_add rfl ?_
    refine kput_6 (x := ((t.wW w).I 6) + n) K1 X2 rfl rfl (fun hp hK hX => ?_)
    refine go_r rfl rfl rfl rfl rfl rfl ⟨rfl, (t.wW w).wI 6 ((t.wW w).I 6 + n), hK, KB_wI B1 (by omega) (by omega) (fun _ => ⟨by omega, show _ ≤ t.C 6 by omega⟩) (fun q => absurd q (by decide)) (by decide), kx_w hX (by decide) (by decide), ⟨hW.1, hW.2.1, fun i hi => ⟨(sw_ne hi).trans (hW.2.2.1 i hi).1, (hW.2.2.1 i hi).2⟩, hW.2.2.2⟩, ?_, fun e he => ?_, fun e e0 e1 => ?_⟩
    · show su t.I 6 (t.I 6 + n) = _
      rw [eI]
    · show w e = s.A 6 e
      rw [← eg]
      exact (if_neg (by omega)).trans (eA e he)
    · show w (s.I 6 + e) = f e
      rw [← eg]
      dsimp only
      rw [if_pos (by omega), show s.I 6 + e - ((t.I 6).toNat : Int) = e by omega]
  have qn : q ≠ s.P 6 := by
    rcases hq0 with q0 | q0
    · have := hK.2.1 27 (by decide)
      exact fun w => absurd this (show ¬ 12 ≤ s.P 6 by omega)
    · exact fun w => q0 27 (by decide) w.symm
  refine cl_go rfl ?_
  show xx_go (xt_P z) (d + 1) 260 0 [some (.ref (c + 26)), some (.ref q)] [] hp _
  refine go_a (pc' := 1) (ls' := [some (.ref (c + 26)), some (.ref q)]) (st' := [.ref (c + 26)]) rfl rfl ?_
  refine go_get (v := .int (iI (s.I 6))) rfl (hK.1 17 (by decide)) rfl rfl ?_
  refine go_a (pc' := 5) (ls' := [some (.ref (c + 26)), some (.ref q)]) (st' := [.ref q, .int (iI (s.I 6))]) rfl rfl ?_
  refine mk_len (n := n) rfl hA.1 (xa_f_len _ _) (by omega) (by omega) ?_
  refine mi_add rfl ?_
  refine go_b (pc' := 9) (st' := [.int (iI 1048576), .int (iI ((s.I 6) + n))]) (h' := hp) rfl rfl rfl ?_
  refine mi_le (t := 13) rfl rfl (by omega) (by omega) (by omega) (by omega) (fun _ => ?_) (fun w => absurd (show _ ≤ _ by omega) w)
  refine go_a (pc' := 14) (ls' := [some (.ref (c + 26)), some (.ref q)]) (st' := [.ref (c + 26)]) rfl rfl ?_
  refine go_get (v := .int (iI (s.I 6))) rfl (hK.1 17 (by decide)) rfl rfl ?_
  refine go_a (pc' := 18) (ls' := [some (.ref (c + 26)), some (.ref q)]) (st' := [.ref q, .int (iI (s.I 6))]) rfl rfl ?_
  refine mk_len (n := n) rfl hA.1 (xa_f_len _ _) (by omega) (by omega) ?_
  refine mi_add rfl ?_
  refine go_a (pc' := 21) (ls' := [some (.ref (c + 26)), some (.ref q)]) (st' := [.ref (c + 26), .int (iI ((s.I 6) + n))]) rfl rfl ?_
  refine go_get (v := .ref (s.P 6)) rfl (hK.1 17 (by decide)) rfl rfl ?_
  refine mk_len (n := s.C 6) rfl (hK.1 27 (by decide)) (xa_f_len _ _) (by omega) (by omega) ?_
  refine mi_le (t := 48) rfl rfl (by omega) (by omega) (by omega) (by omega) (fun w => tail hp s hK hB kx_rf (KRW_rf b4.2.1) rfl (fun _ _ => rfl) (by omega) hA qn) (fun w => ?_)
  refine go_a (pc' := 29) (ls' := [some (.ref (c + 26)), some (.ref q)]) (st' := [.ref (c + 26)]) rfl rfl ?_
  refine go_a (pc' := 30) (ls' := [some (.ref (c + 26)), some (.ref q)]) (st' := [.ref (c + 26), .ref (c + 26)]) rfl rfl ?_
  refine go_get (v := .ref (s.P 6)) rfl (hK.1 17 (by decide)) rfl rfl ?_
  refine go_a (pc' := 34) (ls' := [some (.ref (c + 26)), some (.ref q)]) (st' := [.ref (c + 26), .ref (s.P 6), .ref (c + 26)]) rfl rfl ?_
  refine go_get (v := .int (iI (s.I 6))) rfl (hK.1 17 (by decide)) rfl rfl ?_
  refine go_a (pc' := 38) (ls' := [some (.ref (c + 26)), some (.ref q)]) (st' := [.ref q, .int (iI (s.I 6)), .ref (s.P 6), .ref (c + 26)]) rfl rfl ?_
  refine mk_len (n := n) rfl hA.1 (xa_f_len _ _) (by omega) (by omega) ?_
  refine mi_add rfl ?_
  refine go_a (pc' := 41) (ls' := [some (.ref (c + 26)), some (.ref q)]) (st' := [.int (iI 2), .int (iI ((s.I 6) + n)), .ref (s.P 6), .ref (c + 26)]) rfl rfl ?_
  refine mi_mul rfl ?_
  refine go_s (m := 183) (as := [.ref (s.P 6), .int (iI (((s.I 6) + n) * 2))]) (r := [.ref (c + 26)]) rfl rfl rfl rfl (xm_copyOf_int z d (s.P 6) (s.C 6) ((s.I 6 + n) * 2) (s.A 6) hp (ki_12 hK).2 (hK.1 27 (by decide)) (by omega) (by omega) (by omega) (by omega) (by omega)) (fun v h3 hq => ?_)
  obtain ⟨rfl, rfl⟩ := hq
  show xx_go (xt_P z) (d + 1) 260 45 [some (.ref (c + 26)), some (.ref q)] [.ref hp.length, .ref (c + 26)] (hp ++ [.inl (.int, xa_f ((s.I 6 + n) * 2).toNat (cf (s.C 6) (s.A 6)))]) _
  have ql : q < hp.length := (List.getElem?_eq_some_iff.mp hA.1).1
  refine kgrow_6 (hp0 := hp) (s0 := s) (a := 0) (b := 0) hK kx_rf rfl rfl (by omega) (by omega) (by omega) (fun hp1 K1 X1 => ?_)
  have e1 := X1.2.1 q ql hq0
  refine tail hp1 _ K1 (KB_wG hB (by decide) (by omega) (by omega) (cf_R (hB.1 6))) X1 ⟨rfl, rfl, fun i hi => ⟨sw_ne hi, su_ne hi, un_ne hi⟩, show s.C 6 ≤ (s.I 6 + n) * 2 by omega, show (s.I 6 + n) * 2 ≤ 8192 by omega⟩ rfl (fun e he => if_pos (show e < s.C 6 by omega)) (show s.I 6 + n ≤ (s.I 6 + n) * 2 by omega) ⟨e1.2.trans hA.1, hA.2⟩ (show q ≠ hp.length by omega)
theorem kg_made (z : Value) (d c : Nat) (hp : xx_H) (s : KS) (hK : KI c hp s) (hB : KB s) : xx_cl (xt_P z) (d + 3) 223 [.ref (c + 25)] hp (fun v h1 => (120 < s.I 6 ∧ v = some .null ∧ h1 = hp) ∨ (s.I 6 ≤ 120 ∧ v = some (.ref hp.length) ∧ h1 = mkT hp (s.I 6) (s.A 6))) := by
  have b4 := hB.2.2.2.1 6 (by decide)
  have l0 := (List.getElem?_eq_some_iff.mp (hK.1 0 (by decide))).1
  have l1 := hK.2.1 0 (by decide)
  refine cl_go rfl ?_
  show xx_go (xt_P z) (d + 2) 223 0 [some (.ref (c + 25))] [] hp _
  refine go_a (pc' := 1) (ls' := [some (.ref (c + 25))]) (st' := [.ref (c + 25)]) rfl rfl ?_
  refine go_get (v := .ref (c + 26)) rfl (hK.1 16 (by decide)) rfl rfl ?_
  refine go_v (m := 34) (as := [.ref (c + 26)]) (r := []) rfl rfl rfl (hK.1 17 (by decide)) rfl rfl (kr_length_6 z (d + 1) c hp s hK) (fun v h3 hq => ?_)
  obtain ⟨rfl, e⟩ := hq
  rw [e]
  clear e h3
  show xx_go (xt_P z) (d + 2) 223 7 [some (.ref (c + 25))] [.int (iI (s.I 6))] hp _
  refine go_a (pc' := 9) (ls' := [some (.ref (c + 25))]) (st' := [.int (iI 120), .int (iI (s.I 6))]) rfl rfl ?_
  refine mi_gt (t := 29) rfl rfl (by omega) (by omega) (by omega) (by omega) (fun w => ?_) (fun w => ?_)
  · refine go_a (pc' := 30) (ls' := [some (.ref (c + 25))]) (st' := [.null]) rfl rfl ?_
    exact go_r rfl rfl rfl rfl rfl rfl (Or.inl ⟨w, rfl, rfl⟩)
  · refine go_new (ci := 10) (fs := [.null]) rfl rfl rfl ?_
    show xx_go (xt_P z) (d + 2) 223 15 [some (.ref (c + 25))] [.ref hp.length] (hp ++ [.inr (10, [.null])]) _
    have K1 := (ki_app (e := (.inr (10, [.null]) : xx_E)) hK).1
    refine go_a (pc' := 16) (ls' := [some (.ref (c + 25))]) (st' := [.ref hp.length, .ref hp.length]) rfl rfl ?_
    refine go_a (pc' := 17) (ls' := [some (.ref (c + 25))]) (st' := [.ref (c + 25), .ref hp.length, .ref hp.length]) rfl rfl ?_
    refine go_get (v := .ref (c + 26)) rfl (K1.1 16 (by decide)) rfl rfl ?_
    refine go_v (m := 224) (as := [.ref (c + 26)]) (r := [.ref hp.length, .ref hp.length]) rfl rfl rfl (K1.1 17 (by decide)) rfl rfl (kr_copy_6 z d c (hp ++ [.inr (10, [.null])]) s K1 hB (by omega)) (fun v h3 hq => ?_)
    obtain ⟨rfl, rfl⟩ := hq
    rw [show (hp ++ [(.inr (10, [.null]) : xx_E)]).length = hp.length + 1 from List.length_append]
    show xx_go (xt_P z) (d + 2) 223 23 [some (.ref (c + 25))] [.ref ((hp.length + 1)), .ref hp.length, .ref hp.length] ((hp ++ [.inr (10, [.null])]) ++ [.inl (.int, xa_f (s.I 6).toNat (s.A 6))]) _
    refine go_i (m := 225) (as := [.ref hp.length, .ref ((hp.length + 1))]) (r := [.ref hp.length]) rfl rfl rfl rfl rfl (kg_init z (d + 1) hp.length (hp.length + 1) .null _ (by omega) (app_old app_self)) (fun v h3 hq => ?_)
    obtain ⟨rfl, rfl⟩ := hq
    rw [mkT_eq]
    show xx_go (xt_P z) (d + 2) 223 26 [some (.ref (c + 25))] [.ref hp.length] (mkT hp (s.I 6) (s.A 6)) _
    refine go_a (pc' := 30) (ls' := [some (.ref (c + 25))]) (st' := [.ref hp.length]) rfl rfl ?_
    exact go_r rfl rfl rfl rfl rfl rfl (Or.inr ⟨by omega, rfl, rfl⟩)
