def sT (T : Nat → Int → Option Nat) (j : Nat) (f : Int → Option Nat) : Nat → Int → Option Nat := fun i => match Nat.beq i j with
  | true => f
  | false => T i
theorem sT_ne {T : Nat → Int → Option Nat} {j i : Nat} {f : Int → Option Nat} (h : i ≠ j) : sT T j f i = T i := by
  unfold sT
  cases hb : Nat.beq i j with
  | true => exact absurd (Nat.eq_of_beq_eq_true hb) h
  | false => rfl
def KS.wT (s : KS) (j : Nat) (f : Int → Option Nat) : KS := (s.I, s.A, s.N, s.C, s.P, sT s.T j f)
def KS.wL (s : KS) (j : Nat) (m : Int) (f : Int → Option Nat) (q : Nat) : KS := (s.I, s.A, s.N, su s.C j m, un s.P j q, sT s.T j f)
def LFR (j a b : Nat) (s s1 : KS) : Prop := s1.A = s.A ∧ s1.N = s.N ∧ (∀ i : Nat, i ≠ j → s1.T i = s.T i ∧ s1.C i = s.C i ∧ s1.P i = s.P i) ∧ ∀ i : Nat, i ≠ a → i ≠ b → s1.I i = s.I i
theorem LFR_rf {j a b : Nat} {s : KS} : LFR j a b s s := ⟨rfl, rfl, fun _ _ => ⟨rfl, rfl, rfl⟩, fun _ _ _ => rfl⟩
theorem LFR_tr {j a b : Nat} {s s1 s2 : KS} (p : LFR j a b s s1) (q : LFR j a b s1 s2) : LFR j a b s s2 := ⟨q.1.trans p.1, q.2.1.trans p.2.1, fun i h => ⟨(q.2.2.1 i h).1.trans (p.2.2.1 i h).1, (q.2.2.1 i h).2.1.trans (p.2.2.1 i h).2.1, (q.2.2.1 i h).2.2.trans (p.2.2.1 i h).2.2⟩, fun i h1 h2 => (q.2.2.2 i h1 h2).trans (p.2.2.2 i h1 h2)⟩
theorem LFR_wI {j a b i : Nat} {x : Int} {s : KS} (h : i = a ∨ i = b) : LFR j a b s (s.wI i x) := ⟨rfl, rfl, fun _ _ => ⟨rfl, rfl, rfl⟩, fun k h1 h2 => su_ne (by omega)⟩
theorem LFR_wT {j a b : Nat} {f : Int → Option Nat} {s : KS} : LFR j a b s (s.wT j f) := ⟨rfl, rfl, fun i h => ⟨sT_ne h, rfl, rfl⟩, fun _ _ _ => rfl⟩
theorem LFR_SA {j a b : Nat} {s s1 : KS} (h : LFR j a b s s1) (ha : a ≠ 8) (hb : b ≠ 8) : KSA s s1 := ⟨h.2.1, by rw [h.1], h.2.2.2 8 (fun e => ha e.symm) (fun e => hb e.symm)⟩
theorem xa_r_setN {n : Nat} {O : Int → Option Nat} {e : Int} (h1 : 0 ≤ e) : (xa_r n O).set e.toNat .null = xa_r n (so O e none) := by
  refine List.ext_getElem? (fun i => ?_)
  by_cases hi : i < n
  · rw [xa_r_get hi]
    by_cases he : i = e.toNat
    · rw [he, List.getElem?_set_self (by rw [xa_r_len]; omega), show ((e.toNat : Nat) : Int) = e by omega, so_self]
      rfl
    · rw [List.getElem?_set_ne (fun q => he q.symm), xa_r_get hi, so_ne (by omega)]
  · rw [List.getElem?_eq_none (by rw [List.length_set, xa_r_len]; omega), List.getElem?_eq_none (by rw [xa_r_len]; omega)]
theorem mk_astN {P : xx_P} {d k pc a n : Nat} {ls : xx_L} {r : List Value} {hp : xx_H} {Q : Option Value → xx_H → Prop} {O : Int → Option Nat} {e : Int} {C : String} (hc : xp_code P k pc = some .aastore) (hh : hp[a]? = some (.inl (.object C, xa_r n O))) (ha : xp_n0 P ≤ a) (h0 : 0 ≤ e) (h1 : e < n) (h2 : n ≤ 1000000) (hg : xx_go P d k (pc + 1) ls r (hp.set a (.inl (.object C, xa_r n (so O e none)))) Q) : xx_go P d k pc ls (.null :: .int (iI e) :: .ref a :: r) hp Q := by
  refine go_ast (m := e.toNat) hc hh rfl ha rfl (iI_nn h0 (by omega)) (iI_clamp h0 (by omega)) (by rw [xa_r_len]; omega) ?_
  rw [xa_r_setN h0]
  exact hg
def TLS (c : Nat) (hp : xx_H) (s : KS) (j : Nat) (n : Int) : Prop := ∀ e : Int, 0 ≤ e → e < n → ∃ (t : Nat) (fs : List Value), s.T j e = some t ∧ hp[t]? = some (.inr (11, fs)) ∧ kn c s t
theorem TLS_kx {c j : Nat} {hp h1 : xx_H} {s s1 : KS} {n α β : Int} (h : TLS c hp s j n) (X : kx c hp s h1 s1 α β) (q : ∀ e : Int, 0 ≤ e → e < n → s1.T j e = s.T j e) : TLS c h1 s1 j n := by
  intro e e0 e1
  obtain ⟨t, fs, a1, a2, a3⟩ := h e e0 e1
  obtain ⟨b1, b2⟩ := X.2.1 t (List.getElem?_eq_some_iff.mp a2).1 a3
  exact ⟨t, fs, (q e e0 e1).trans a1, b2.trans a2, b1⟩
theorem TLS_ok {c j : Nat} {hp : xx_H} {s : KS} {n : Int} (z : Value) (h : TLS c hp s j n) : (xa_r n.toNat (s.T j)).all (fun v => xb_aok (xt_P z) (.object "java/lang/Object") v hp) = true := by
  rw [List.all_eq_true]
  intro v hv
  obtain ⟨i, hi, rfl⟩ := List.mem_map.mp hv
  have hi := List.mem_range.mp hi
  obtain ⟨t, fs, a1, a2, -⟩ := h i (by omega) (by omega)
  rw [a1]
  show xb_aok (xt_P z) (.object "java/lang/Object") (.ref t) hp = true
  unfold xb_aok
  simp only [a2]
  rfl
theorem xa_r_app {n m : Nat} {O : Int → Option Nat} (h : n ≤ m) : xa_r n O ++ List.replicate (m - n) .null = xa_r m (fun k => if k < n then O k else none) := by
  refine List.ext_getElem? (fun i => ?_)
  by_cases hi : i < m
  · rw [xa_r_get hi]
    by_cases h2 : i < n
    · rw [List.getElem?_append_left (by rw [xa_r_len]; exact h2), xa_r_get h2, if_pos (by omega)]
    · rw [List.getElem?_append_right (by rw [xa_r_len]; omega), xa_r_len, List.getElem?_replicate, if_pos (by omega), if_neg (by omega)]
      rfl
  · rw [List.getElem?_eq_none (by rw [List.length_append, xa_r_len, List.length_replicate]; omega), List.getElem?_eq_none (by rw [xa_r_len]; omega)]
theorem kl_check (z : Value) (d : Nat) (k n : Int) (y : Value) (hy : y = .null ∨ ∃ a : Nat, y = .ref a) (hp : xx_H) (k0 : 0 ≤ k) (k1 : k < n) (n1 : n ≤ 1000000) : xx_cl (xt_P z) (d + 1) 12 [.int (iI k), .int (iI n), y] hp (fun v h1 => v = some (.int (iI k)) ∧ h1 = hp) := by
  rcases hy with rfl | ⟨a, rfl⟩
  · refine cl_go rfl ?_
    show xx_go (xt_P z) d 12 0 [some (.int (iI k)), some (.int (iI n)), some (.null)] [] hp _
    refine go_a (pc' := 1) (ls' := [some (.int (iI k)), some (.int (iI n)), some (.null)]) (st' := [.int (iI k)]) rfl rfl ?_
    refine mi_lt0 (t := 9) rfl rfl (by omega) (by omega) (fun w => absurd w (by omega)) (fun _ => ?_)
    refine go_a (pc' := 5) (ls' := [some (.int (iI k)), some (.int (iI n)), some (.null)]) (st' := [.int (iI k)]) rfl rfl ?_
    refine go_a (pc' := 6) (ls' := [some (.int (iI k)), some (.int (iI n)), some (.null)]) (st' := [.int (iI n), .int (iI k)]) rfl rfl ?_
    refine mi_lt (t := 16) rfl rfl (by omega) (by omega) (by omega) (by omega) (fun _ => ?_) (fun w => absurd k1 w)
    refine go_a (pc' := 17) (ls' := [some (.int (iI k)), some (.int (iI n)), some (.null)]) (st' := [.int (iI k)]) rfl rfl ?_
    exact go_r rfl rfl rfl rfl rfl rfl ⟨rfl, rfl⟩
  · refine cl_go rfl ?_
    show xx_go (xt_P z) d 12 0 [some (.int (iI k)), some (.int (iI n)), some (.ref a)] [] hp _
    refine go_a (pc' := 1) (ls' := [some (.int (iI k)), some (.int (iI n)), some (.ref a)]) (st' := [.int (iI k)]) rfl rfl ?_
    refine mi_lt0 (t := 9) rfl rfl (by omega) (by omega) (fun w => absurd w (by omega)) (fun _ => ?_)
    refine go_a (pc' := 5) (ls' := [some (.int (iI k)), some (.int (iI n)), some (.ref a)]) (st' := [.int (iI k)]) rfl rfl ?_
    refine go_a (pc' := 6) (ls' := [some (.int (iI k)), some (.int (iI n)), some (.ref a)]) (st' := [.int (iI n), .int (iI k)]) rfl rfl ?_
    refine mi_lt (t := 16) rfl rfl (by omega) (by omega) (by omega) (by omega) (fun _ => ?_) (fun w => absurd k1 w)
    refine go_a (pc' := 17) (ls' := [some (.int (iI k)), some (.int (iI n)), some (.ref a)]) (st' := [.int (iI k)]) rfl rfl ?_
    exact go_r rfl rfl rfl rfl rfl rfl ⟨rfl, rfl⟩
theorem kl_checkIndex (z : Value) (d : Nat) (k n : Int) (hp : xx_H) (k0 : 0 ≤ k) (k1 : k < n) (n1 : n ≤ 1000000) : xx_cl (xt_P z) (d + 2) 218 [.int (iI k), .int (iI n)] hp (fun v h1 => v = some (.int (iI k)) ∧ h1 = hp) := by
  refine cl_go rfl ?_
  show xx_go (xt_P z) (d + 1) 218 0 [some (.int (iI k)), some (.int (iI n))] [] hp _
  refine go_a (pc' := 1) (ls' := [some (.int (iI k)), some (.int (iI n))]) (st' := [.int (iI k)]) rfl rfl ?_
  refine go_a (pc' := 2) (ls' := [some (.int (iI k)), some (.int (iI n))]) (st' := [.int (iI n), .int (iI k)]) rfl rfl ?_
  refine go_a (pc' := 3) (ls' := [some (.int (iI k)), some (.int (iI n))]) (st' := [.null, .int (iI n), .int (iI k)]) rfl rfl ?_
  refine go_s (m := 12) (as := [.int (iI k), .int (iI n), .null]) (r := []) rfl rfl rfl rfl (kl_check z d k n .null (Or.inl rfl) hp k0 k1 n1) (fun v h3 hq => ?_)
  obtain ⟨rfl, e⟩ := hq
  rw [e]
  clear e h3
  show xx_go (xt_P z) (d + 1) 218 6 [some (.int (iI k)), some (.int (iI n))] [.int (iI k)] hp _
  exact go_r rfl rfl rfl rfl rfl rfl ⟨rfl, rfl⟩
theorem kl_newLength (z : Value) (d : Nat) (a b e : Int) (hp : xx_H) (a0 : 0 ≤ a) (a1 : a ≤ 1000) (b0 : 1 ≤ b) (b1 : b ≤ 1000) (e0 : 0 ≤ e) (e1 : e ≤ 1000) : xx_cl (xt_P z) (d + 1) 240 [.int (iI a), .int (iI b), .int (iI e)] hp (fun v h1 => v = some (.int (iI (a + if b < e then e else b))) ∧ h1 = hp) := by
  have q0 : 1 ≤ (if b < e then e else b) ∧ (if b < e then e else b) ≤ 1000 := by split <;> omega
  refine cl_go rfl ?_
  show xx_go (xt_P z) d 240 0 [some (.int (iI a)), some (.int (iI b)), some (.int (iI e)), none] [] hp _
  refine go_a (pc' := 1) (ls' := [some (.int (iI a)), some (.int (iI b)), some (.int (iI e)), none]) (st' := [.int (iI a)]) rfl rfl ?_
  refine go_a (pc' := 2) (ls' := [some (.int (iI a)), some (.int (iI b)), some (.int (iI e)), none]) (st' := [.int (iI b), .int (iI a)]) rfl rfl ?_
  refine go_a (pc' := 3) (ls' := [some (.int (iI a)), some (.int (iI b)), some (.int (iI e)), none]) (st' := [.int (iI e), .int (iI b), .int (iI a)]) rfl rfl ?_
  refine go_o (st' := [.int (iI (if b < e then e else b)), .int (iI a)]) (h' := hp) rfl rfl rfl (by rw [iI_max (by omega) (by omega) (by omega) (by omega)]; rfl) ?_
  refine mi_add rfl ?_
  refine go_a (pc' := 8) (ls' := [some (.int (iI a)), some (.int (iI b)), some (.int (iI e)), some (.int (iI (a + (if b < e then e else b))))]) (st' := []) rfl rfl ?_
  refine go_a (pc' := 9) (ls' := [some (.int (iI a)), some (.int (iI b)), some (.int (iI e)), some (.int (iI (a + (if b < e then e else b))))]) (st' := [.int (iI 0)]) rfl rfl ?_
  refine go_a (pc' := 10) (ls' := [some (.int (iI a)), some (.int (iI b)), some (.int (iI e)), some (.int (iI (a + (if b < e then e else b))))]) (st' := [.int (iI (a + (if b < e then e else b))), .int (iI 0)]) rfl rfl ?_
  refine mi_ge (t := 21) rfl rfl (by omega) (by omega) (by omega) (by omega) (fun w => absurd w (by omega)) (fun _ => ?_)
  refine go_a (pc' := 14) (ls' := [some (.int (iI a)), some (.int (iI b)), some (.int (iI e)), some (.int (iI (a + (if b < e then e else b))))]) (st' := [.int (iI (a + (if b < e then e else b)))]) rfl rfl ?_
  refine go_b (pc' := 16) (st' := [.int (iI 2147483639), .int (iI (a + (if b < e then e else b)))]) (h' := hp) rfl rfl rfl ?_
  refine mi_gt (t := 21) rfl rfl (by omega) (by omega) (by omega) (by omega) (fun w => absurd w (by omega)) (fun _ => ?_)
  refine go_a (pc' := 20) (ls' := [some (.int (iI a)), some (.int (iI b)), some (.int (iI e)), some (.int (iI (a + (if b < e then e else b))))]) (st' := [.int (iI (a + (if b < e then e else b)))]) rfl rfl ?_
  exact go_r rfl rfl rfl rfl rfl rfl ⟨rfl, rfl⟩
theorem ki_wT_13 {c : Nat} {hp : xx_H} {s : KS} (hK : KI c hp s) (h12 : 12 ≤ s.P 13) (f : Int → Option Nat) : KI c (hp.set (s.P 13) (.inl ((.object "java/lang/Object"), xa_r (s.C 13).toNat f))) (s.wT 13 f) ∧ kx c hp s (hp.set (s.P 13) (.inl ((.object "java/lang/Object"), xa_r (s.C 13).toNat f))) (s.wT 13 f) 0 0 := by
  refine ki_set (i := 32) (s1 := s.wT 13 f) hK (by decide) h12 rfl rfl rfl (fun j hj w => match j, hj, w with
    | 0, _, _ => rfl
    | 1, _, _ => rfl
    | 2, _, _ => rfl
    | 3, _, _ => rfl
    | 4, _, _ => rfl
    | 5, _, _ => rfl
    | 6, _, _ => rfl
    | 7, _, _ => rfl
    | 8, _, _ => rfl
    | 9, _, _ => rfl
    | 10, _, _ => rfl
    | 11, _, _ => rfl
    | 12, _, _ => rfl
    | 13, _, _ => rfl
    | 14, _, _ => rfl
    | 15, _, _ => rfl
    | 16, _, _ => rfl
    | 17, _, _ => rfl
    | 18, _, _ => rfl
    | 19, _, _ => rfl
    | 20, _, _ => rfl
    | 21, _, _ => rfl
    | 22, _, _ => rfl
    | 23, _, _ => rfl
    | 24, _, _ => rfl
    | 25, _, _ => rfl
    | 26, _, _ => rfl
    | 27, _, _ => rfl
    | 28, _, _ => rfl
    | 29, _, _ => rfl
    | 30, _, _ => rfl
    | 31, _, _ => rfl
    | 32, _, w => absurd rfl w
    | 33, _, _ => rfl
    | 34, _, _ => rfl
    | j + 35, q, _ => absurd q (by omega)) ?_
  show ((xa_r (s.C 13).toNat f).length : Nat) = (xa_r (s.C 13).toNat (s.T 13)).length
  rw [xa_r_len, xa_r_len]
theorem ki_wL_13 {c : Nat} {hp : xx_H} {s : KS} (hK : KI c hp s) (m : Int) (f : Int → Option Nat) (m0 : 0 ≤ m) (h1 : s.C 13 + 1 ≤ m) (h2 : 3 * s.C 13 ≤ 2 * m + 1) : KI c ((hp ++ [(.inl ((.object "java/lang/Object"), xa_r m.toNat f) : xx_E)]).set (c + 22) (.inr (4, [.ref hp.length, .int (iI (s.I 26)), .int (iI (s.I 29))]))) (s.wL 13 m f hp.length) ∧ kx c hp s ((hp ++ [(.inl ((.object "java/lang/Object"), xa_r m.toNat f) : xx_E)]).set (c + 22) (.inr (4, [.ref hp.length, .int (iI (s.I 26)), .int (iI (s.I 29))]))) (s.wL 13 m f hp.length) 1 1 := by
  have q := ki_grow (i := 32) (i0 := 13) (e := .inl ((.object "java/lang/Object"), xa_r m.toNat f)) (s1 := s.wL 13 m f hp.length) hK (by decide) (by decide) (by decide) (hK.2.1 13 (by decide)) (fun j hj n0 => match j, hj, n0 with
    | 0, _, _ => rfl
    | 1, _, _ => rfl
    | 2, _, _ => rfl
    | 3, _, _ => rfl
    | 4, _, _ => rfl
    | 5, _, _ => rfl
    | 6, _, _ => rfl
    | 7, _, _ => rfl
    | 8, _, _ => rfl
    | 9, _, _ => rfl
    | 10, _, _ => rfl
    | 11, _, _ => rfl
    | 12, _, _ => rfl
    | 13, _, _ => rfl
    | 14, _, _ => rfl
    | 15, _, _ => rfl
    | 16, _, _ => rfl
    | 17, _, _ => rfl
    | 18, _, _ => rfl
    | 19, _, _ => rfl
    | 20, _, _ => rfl
    | 21, _, _ => rfl
    | 22, _, _ => rfl
    | 23, _, _ => rfl
    | 24, _, _ => rfl
    | 25, _, _ => rfl
    | 26, _, _ => rfl
    | 27, _, _ => rfl
    | 28, _, _ => rfl
    | 29, _, _ => rfl
    | 30, _, _ => rfl
    | 31, _, _ => rfl
    | 32, _, w => absurd rfl w
    | 33, _, _ => rfl
    | 34, _, _ => rfl
    | j + 35, q, _ => absurd q (by omega)) rfl rfl rfl (fun j hj n0 n1 => match j, hj, n0, n1 with
    | 0, _, _, _ => rfl
    | 1, _, _, _ => rfl
    | 2, _, _, _ => rfl
    | 3, _, _, _ => rfl
    | 4, _, _, _ => rfl
    | 5, _, _, _ => rfl
    | 6, _, _, _ => rfl
    | 7, _, _, _ => rfl
    | 8, _, _, _ => rfl
    | 9, _, _, _ => rfl
    | 10, _, _, _ => rfl
    | 11, _, _, _ => rfl
    | 12, _, _, _ => rfl
    | 13, _, _, w => absurd rfl w
    | 14, _, _, _ => rfl
    | 15, _, _, _ => rfl
    | 16, _, _, _ => rfl
    | 17, _, _, _ => rfl
    | 18, _, _, _ => rfl
    | 19, _, _, _ => rfl
    | 20, _, _, _ => rfl
    | 21, _, _, _ => rfl
    | 22, _, _, _ => rfl
    | 23, _, _, _ => rfl
    | 24, _, _, _ => rfl
    | 25, _, _, _ => rfl
    | 26, _, _, _ => rfl
    | 27, _, _, _ => rfl
    | 28, _, _, _ => rfl
    | 29, _, _, _ => rfl
    | 30, _, _, _ => rfl
    | 31, _, _, _ => rfl
    | 32, _, w, _ => absurd rfl w
    | 33, _, _, _ => rfl
    | 34, _, _, _ => rfl
    | j + 35, q, _, _ => absurd q (by omega)) rfl
  have ek : kt (s.wL 13 m f hp.length) = kt s - s.C 13 + m := by
    show su s.C 13 m 0 + su s.C 13 m 1 + su s.C 13 m 2 + su s.C 13 m 3 + su s.C 13 m 4 + su s.C 13 m 5 + su s.C 13 m 6 + su s.C 13 m 7 + su s.C 13 m 8 + su s.C 13 m 9 + su s.C 13 m 10 + su s.C 13 m 13 + su s.C 13 m 14 + su s.C 13 m 15 = _
    show s.C 0 + s.C 1 + s.C 2 + s.C 3 + s.C 4 + s.C 5 + s.C 6 + s.C 7 + s.C 8 + s.C 9 + s.C 10 + m + s.C 14 + s.C 15 = (s.C 0 + s.C 1 + s.C 2 + s.C 3 + s.C 4 + s.C 5 + s.C 6 + s.C 7 + s.C 8 + s.C 9 + s.C 10 + s.C 13 + s.C 14 + s.C 15) - s.C 13 + m
    omega
  have ez : (xx_sz1 (.inl ((.object "java/lang/Object"), xa_r m.toNat f)) : Int) = m := by
    show (((xa_r m.toNat f).length : Nat) : Int) = m
    rw [xa_r_len]
    omega
  exact ⟨q.1, q.2 1 1 (by omega) (by rw [ez]; omega)⟩
theorem KB_wL_13 {s : KS} {m : Int} {f : Int → Option Nat} {q : Nat} (hB : KB s) (h1 : s.C 13 ≤ m) (h2 : m ≤ 1000) : KB (s.wL 13 m f q) := by
  obtain ⟨a1, a2, a3, a4, a5, a6, a7, a8, a9⟩ := hB
  refine ⟨a1, a2, a3, fun i hi => ?_, a5, a6, ?_, ?_, ?_⟩
  · show 20 ≤ su s.C 13 m i ∧ su s.C 13 m i ≤ 8192 ∧ 0 ≤ s.I i ∧ s.I i ≤ su s.C 13 m i
    rw [su_ne (by omega)]
    exact a4 i hi
  · show 0 ≤ s.I 26 ∧ s.I 26 ≤ m ∧ m ≤ 1000
    omega
  · exact a8
  · exact a9
theorem kl_p12_13 {c : Nat} {hp : xx_H} {s : KS} (hK : KI c hp s) (hO : OC hp) (h : 1 ≤ s.C 13) : 12 ≤ s.P 13 := by
  rcases hK.2.2.2 32 (by decide) (by decide) with q | q
  · exact q
  · have e := hK.1 32 (by decide)
    rw [q, hO.2.2.2] at e
    have e2 : ([] : List Value) = xa_r (s.C 13).toNat (s.T 13) := by
      simpa [kc] using e
    have e3 := congrArg List.length e2
    rw [xa_r_len] at e3
    simp at e3
    omega
theorem KB_sz_13 {s : KS} {x : Int} (hB : KB s) (h0 : 0 ≤ x) (h1 : x ≤ s.C 13) : KB (s.wI 26 x) := by
  obtain ⟨a1, a2, a3, a4, a5, a6, a7, a8, a9⟩ := hB
  refine ⟨a1, fun i => ?_, a3, fun i hi => ?_, a5, ?_, ?_, ?_, ?_⟩
  · show -2147483648 ≤ su s.I 26 x i ∧ su s.I 26 x i ≤ 2147483647
    rcases su_or s.I 26 i x with e | ⟨-, e⟩
    · rw [e]
      exact a2 i
    · rw [e]
      omega
  · show 20 ≤ s.C i ∧ s.C i ≤ 8192 ∧ 0 ≤ su s.I 26 x i ∧ su s.I 26 x i ≤ s.C i
    rw [su_ne (by omega)]
    exact a4 i hi
  · exact a6
  · show 0 ≤ x ∧ x ≤ s.C 13 ∧ s.C 13 ≤ 1000
    omega
  · exact a8
  · exact a9
theorem kl_size_13 (z : Value) (d c : Nat) (hp : xx_H) (s : KS) (hK : KI c hp s) : xx_cl (xt_P z) (d + 1) 47 [.ref (c + 22)] hp (fun v h1 => v = some (.int (iI (s.I 26))) ∧ h1 = hp) := by
  refine cl_go rfl ?_
  show xx_go (xt_P z) d 47 0 [some (.ref (c + 22))] [] hp _
  refine go_a (pc' := 1) (ls' := [some (.ref (c + 22))]) (st' := [.ref (c + 22)]) rfl rfl ?_
  refine go_get (v := .int (iI (s.I 26))) rfl (hK.1 13 (by decide)) rfl rfl ?_
  exact go_r rfl rfl rfl rfl rfl rfl ⟨rfl, rfl⟩
theorem kl_isEmpty_13 (z : Value) (d c : Nat) (hp : xx_H) (s : KS) (hK : KI c hp s) (hB : KB s) : xx_cl (xt_P z) (d + 1) 305 [.ref (c + 22)] hp (fun v h1 => ((s.I 26 = 0 ∧ v = some (.int (iI 1))) ∨ (0 < s.I 26 ∧ v = some (.int (iI 0)))) ∧ h1 = hp) := by
  have b7 := hB.2.2.2.2.2.2.1
  refine cl_go rfl ?_
  show xx_go (xt_P z) d 305 0 [some (.ref (c + 22))] [] hp _
  refine go_a (pc' := 1) (ls' := [some (.ref (c + 22))]) (st' := [.ref (c + 22)]) rfl rfl ?_
  refine go_get (v := .int (iI (s.I 26))) rfl (hK.1 13 (by decide)) rfl rfl ?_
  refine mi_ne0 (t := 11) rfl rfl (by omega) (by omega) (fun w => ?_) (fun w => ?_)
  · refine go_a (pc' := 12) (ls' := [some (.ref (c + 22))]) (st' := [.int (iI 0)]) rfl rfl ?_
    exact go_r rfl rfl rfl rfl rfl rfl ⟨Or.inr ⟨by omega, rfl⟩, rfl⟩
  · refine go_a (pc' := 8) (ls' := [some (.ref (c + 22))]) (st' := [.int (iI 1)]) rfl rfl ?_
    refine go_a (pc' := 12) (ls' := [some (.ref (c + 22))]) (st' := [.int (iI 1)]) rfl rfl ?_
    exact go_r rfl rfl rfl rfl rfl rfl ⟨Or.inl ⟨by omega, rfl⟩, rfl⟩
theorem kl_get_13 (z : Value) (d c : Nat) (k : Int) (hp : xx_H) (s : KS) (hK : KI c hp s) (hB : KB s) (k0 : 0 ≤ k) (k1 : k < s.I 26) (a : Nat) (ha : s.T 13 k = some a) : xx_cl (xt_P z) (d + 3) 217 [.ref (c + 22), .int (iI k)] hp (fun v h1 => v = some (.ref a) ∧ h1 = hp) := by
  have b7 := hB.2.2.2.2.2.2.1
  have ed : xx_cl (xt_P z) (d + 2) 219 [.ref (c + 22), .int (iI k)] hp (fun v h1 => v = some (.ref a) ∧ h1 = hp) := by
    refine cl_go rfl ?_
    show xx_go (xt_P z) (d + 1) 219 0 [some (.ref (c + 22)), some (.int (iI k))] [] hp _
    refine go_a (pc' := 1) (ls' := [some (.ref (c + 22)), some (.int (iI k))]) (st' := [.ref (c + 22)]) rfl rfl ?_
    refine go_get (v := .ref (s.P 13)) rfl (hK.1 13 (by decide)) rfl rfl ?_
    refine go_a (pc' := 5) (ls' := [some (.ref (c + 22)), some (.int (iI k))]) (st' := [.int (iI k), .ref (s.P 13)]) rfl rfl ?_
    refine mk_ald rfl (hK.1 32 (by decide)) rfl k0 (by omega) (by omega) ?_
    rw [ha]
    show xx_go (xt_P z) (d + 1) 219 6 [some (.ref (c + 22)), some (.int (iI k))] [.ref a] hp _
    exact go_r rfl rfl rfl rfl rfl rfl ⟨rfl, rfl⟩
  refine cl_go rfl ?_
  show xx_go (xt_P z) (d + 2) 217 0 [some (.ref (c + 22)), some (.int (iI k))] [] hp _
  refine go_a (pc' := 1) (ls' := [some (.ref (c + 22)), some (.int (iI k))]) (st' := [.int (iI k)]) rfl rfl ?_
  refine go_a (pc' := 2) (ls' := [some (.ref (c + 22)), some (.int (iI k))]) (st' := [.ref (c + 22), .int (iI k)]) rfl rfl ?_
  refine go_get (v := .int (iI (s.I 26))) rfl (hK.1 13 (by decide)) rfl rfl ?_
  refine go_s (m := 218) (as := [.int (iI k), .int (iI (s.I 26))]) (r := []) rfl rfl rfl rfl (kl_checkIndex z d k (s.I 26) hp k0 k1 (by omega)) (fun v h3 hq => ?_)
  obtain ⟨rfl, e⟩ := hq
  rw [e]
  clear e h3
  show xx_go (xt_P z) (d + 2) 217 8 [some (.ref (c + 22)), some (.int (iI k))] [.int (iI k)] hp _
  refine go_a (pc' := 9) (ls' := [some (.ref (c + 22)), some (.int (iI k))]) (st' := []) rfl rfl ?_
  refine go_a (pc' := 10) (ls' := [some (.ref (c + 22)), some (.int (iI k))]) (st' := [.ref (c + 22)]) rfl rfl ?_
  refine go_a (pc' := 11) (ls' := [some (.ref (c + 22)), some (.int (iI k))]) (st' := [.int (iI k), .ref (c + 22)]) rfl rfl ?_
  refine go_v (m := 219) (as := [.ref (c + 22), .int (iI k)]) (r := []) rfl rfl rfl (hK.1 13 (by decide)) rfl rfl ed (fun v h3 hq => ?_)
  obtain ⟨rfl, e⟩ := hq
  rw [e]
  clear e h3
  show xx_go (xt_P z) (d + 2) 217 14 [some (.ref (c + 22)), some (.int (iI k))] [.ref a] hp _
  exact go_r rfl rfl rfl rfl rfl rfl ⟨rfl, rfl⟩
theorem kl_grow1_13 (z : Value) (d c : Nat) (hp : xx_H) (s : KS) (hK : KI c hp s) (hB : KB s) (hO : OC hp) (hT : TLS c hp s 13 (s.I 26)) (hP0 : s.C 13 = 0 → ¬ 12 ≤ s.P 13) (hs : s.I 26 = s.C 13) (hl : s.I 26 ≤ 200) : xx_cl (xt_P z) (d + 2) 239 [.ref (c + 22), .int (iI (s.I 26 + 1))] hp (fun v h1 => ∃ s1 : KS, v = some (.ref (s1.P 13)) ∧ KI c h1 s1 ∧ KB s1 ∧ kx c hp s h1 s1 1 1 ∧ LFR 13 26 29 s s1 ∧ s1.I = s.I ∧ s.C 13 + 1 ≤ s1.C 13 ∧ ∀ e : Int, 0 ≤ e → e < s.C 13 → s1.T 13 e = s.T 13 e) := by
  have b7 := hB.2.2.2.2.2.2.1
  refine cl_go rfl ?_
  show xx_go (xt_P z) (d + 1) 239 0 [some (.ref (c + 22)), some (.int (iI (s.I 26 + 1))), none, none] [] hp _
  refine go_a (pc' := 1) (ls' := [some (.ref (c + 22)), some (.int (iI (s.I 26 + 1))), none, none]) (st' := [.ref (c + 22)]) rfl rfl ?_
  refine go_get (v := .ref (s.P 13)) rfl (hK.1 13 (by decide)) rfl rfl ?_
  refine mk_len (n := s.C 13) rfl (hK.1 32 (by decide)) (xa_r_len _ _) (by omega) (by omega) ?_
  refine go_a (pc' := 6) (ls' := [some (.ref (c + 22)), some (.int (iI (s.I 26 + 1))), some (.int (iI (s.C 13))), none]) (st' := []) rfl rfl ?_
  refine go_a (pc' := 7) (ls' := [some (.ref (c + 22)), some (.int (iI (s.I 26 + 1))), some (.int (iI (s.C 13))), none]) (st' := [.int (iI (s.C 13))]) rfl rfl ?_
  refine mi_gt0 (t := 20) rfl rfl (by omega) (by omega) (fun w => ?_) (fun w => ?_)
  · refine go_a (pc' := 21) (ls' := [some (.ref (c + 22)), some (.int (iI (s.I 26 + 1))), some (.int (iI (s.C 13))), none]) (st' := [.int (iI (s.C 13))]) rfl rfl ?_
    refine go_a (pc' := 22) (ls' := [some (.ref (c + 22)), some (.int (iI (s.I 26 + 1))), some (.int (iI (s.C 13))), none]) (st' := [.int (iI (s.I 26 + 1)), .int (iI (s.C 13))]) rfl rfl ?_
    refine go_a (pc' := 23) (ls' := [some (.ref (c + 22)), some (.int (iI (s.I 26 + 1))), some (.int (iI (s.C 13))), none]) (st' := [.int (iI (s.C 13)), .int (iI (s.I 26 + 1)), .int (iI (s.C 13))]) rfl rfl ?_
    refine mi_sub rfl ?_
    refine go_a (pc' := 25) (ls' := [some (.ref (c + 22)), some (.int (iI (s.I 26 + 1))), some (.int (iI (s.C 13))), none]) (st' := [.int (iI (s.C 13)), .int (iI ((s.I 26 + 1) - (s.C 13))), .int (iI (s.C 13))]) rfl rfl ?_
    refine go_a (pc' := 26) (ls' := [some (.ref (c + 22)), some (.int (iI (s.I 26 + 1))), some (.int (iI (s.C 13))), none]) (st' := [.int (iI 1), .int (iI (s.C 13)), .int (iI ((s.I 26 + 1) - (s.C 13))), .int (iI (s.C 13))]) rfl rfl ?_
    refine go_a (pc' := 27) (ls' := [some (.ref (c + 22)), some (.int (iI (s.I 26 + 1))), some (.int (iI (s.C 13))), none]) (st' := [.int (iI (s.C 13 / 2)), .int (iI ((s.I 26 + 1) - (s.C 13))), .int (iI (s.C 13))]) rfl (by rw [show iI (s.C 13 / 2) = iI (s.C 13) >>> (iI 1 &&& 31) from (shr_i (by omega) (by omega) (iI 1) 1 (by decide) (by decide)).symm]; rfl) ?_
    refine go_s (m := 240) (as := [.int (iI (s.C 13)), .int (iI ((s.I 26 + 1) - (s.C 13))), .int (iI (s.C 13 / 2))]) (r := []) rfl rfl rfl rfl (kl_newLength z d (s.C 13) (s.I 26 + 1 - s.C 13) (s.C 13 / 2) hp (by omega) (by omega) (by omega) (by omega) (by omega) (by omega)) (fun v h3 hq => ?_)
    obtain ⟨rfl, e⟩ := hq
    rw [e]
    clear e h3
    show xx_go (xt_P z) (d + 1) 239 30 [some (.ref (c + 22)), some (.int (iI (s.I 26 + 1))), some (.int (iI (s.C 13))), none] [.int (iI (s.C 13 + if s.I 26 + 1 - s.C 13 < s.C 13 / 2 then s.C 13 / 2 else s.I 26 + 1 - s.C 13))] hp _
    have eM : ∃ M : Int, (s.C 13 + if s.I 26 + 1 - s.C 13 < s.C 13 / 2 then s.C 13 / 2 else s.I 26 + 1 - s.C 13) = M ∧ s.C 13 + 1 ≤ M ∧ 3 * s.C 13 ≤ 2 * M + 1 ∧ M ≤ 1000 := ⟨_, rfl, by split <;> omega, by split <;> omega, by split <;> omega⟩
    obtain ⟨M, eM, M1, M2, M3⟩ := eM
    rw [eM]
    show xx_go (xt_P z) (d + 1) 239 30 [some (.ref (c + 22)), some (.int (iI (s.I 26 + 1))), some (.int (iI (s.C 13))), none] [.int (iI M)] hp _
    refine go_a (pc' := 31) (ls' := [some (.ref (c + 22)), some (.int (iI (s.I 26 + 1))), some (.int (iI (s.C 13))), some (.int (iI M))]) (st' := []) rfl rfl ?_
    refine go_a (pc' := 32) (ls' := [some (.ref (c + 22)), some (.int (iI (s.I 26 + 1))), some (.int (iI (s.C 13))), some (.int (iI M))]) (st' := [.ref (c + 22)]) rfl rfl ?_
    refine go_a (pc' := 33) (ls' := [some (.ref (c + 22)), some (.int (iI (s.I 26 + 1))), some (.int (iI (s.C 13))), some (.int (iI M))]) (st' := [.ref (c + 22), .ref (c + 22)]) rfl rfl ?_
    refine go_get (v := .ref (s.P 13)) rfl (hK.1 13 (by decide)) rfl rfl ?_
    refine go_a (pc' := 37) (ls' := [some (.ref (c + 22)), some (.int (iI (s.I 26 + 1))), some (.int (iI (s.C 13))), some (.int (iI M))]) (st' := [.int (iI M), .ref (s.P 13), .ref (c + 22)]) rfl rfl ?_
    refine go_copyO (m := M.toNat) rfl rfl (hK.1 32 (by decide)) (show 12 ≤ _ from kl_p12_13 hK hO (by omega)) (by rw [hs] at hT; exact TLS_ok z hT) (iI_nn (by omega) (by omega)) (iI_clamp (by omega) (by omega)) (by rw [xa_r_len]; omega) (by omega) rfl ?_
    rw [xa_r_len, xa_r_app (by omega)]
    show xx_go (xt_P z) (d + 1) 239 40 [some (.ref (c + 22)), some (.int (iI (s.I 26 + 1))), some (.int (iI (s.C 13))), some (.int (iI M))] [.ref hp.length, .ref (c + 22)] (hp ++ [.inl ((.object "java/lang/Object"), xa_r M.toNat (fun k => if k < ((s.C 13).toNat : Int) then s.T 13 k else none))]) _
    refine go_a (pc' := 41) (ls' := [some (.ref (c + 22)), some (.int (iI (s.I 26 + 1))), some (.int (iI (s.C 13))), some (.int (iI M))]) (st' := [.ref hp.length, .ref (c + 22), .ref hp.length]) rfl rfl ?_
    refine go_put rfl (app_old (hK.1 13 (by decide))) rfl rfl (hK.2.1 13 (by decide)) (show 0 < 3 by decide) rfl rfl ?_
    obtain ⟨K1, X1⟩ := ki_wL_13 hK (M) (fun k => if k < ((s.C 13).toNat : Int) then s.T 13 k else none) (by omega) (by omega) (by omega)
    exact go_r rfl rfl rfl rfl rfl rfl ⟨s.wL 13 (M) (fun k => if k < ((s.C 13).toNat : Int) then s.T 13 k else none) hp.length, rfl, K1, KB_wL_13 hB (by omega) (by omega), X1, ⟨rfl, rfl, fun i h => ⟨sT_ne h, su_ne h, un_ne h⟩, fun _ _ _ => rfl⟩, rfl, show s.C 13 + 1 ≤ M by omega, fun e e0 e1 => if_pos (show e < ((s.C 13).toNat : Int) by omega)⟩
  · have e0 : s.C 13 = 0 := by omega
    have eP : s.P 13 = 10 := by
      rcases hK.2.2.2 32 (by decide) (by decide) with q | q
      · exact absurd q (hP0 e0)
      · exact q
    refine go_a (pc' := 11) (ls' := [some (.ref (c + 22)), some (.int (iI (s.I 26 + 1))), some (.int (iI (s.C 13))), none]) (st' := [.ref (c + 22)]) rfl rfl ?_
    refine go_get (v := .ref (s.P 13)) rfl (hK.1 13 (by decide)) rfl rfl ?_
    refine go_b (pc' := 17) (st' := [.ref 10, .ref (s.P 13)]) (h' := hp) rfl rfl rfl ?_
    rw [eP]
    refine go_acmp (t := 45) rfl rfl ?_
    show xx_go (xt_P z) (d + 1) 239 45 [some (.ref (c + 22)), some (.int (iI (s.I 26 + 1))), some (.int (iI (s.C 13))), none] [] hp _
    refine go_a (pc' := 46) (ls' := [some (.ref (c + 22)), some (.int (iI (s.I 26 + 1))), some (.int (iI (s.C 13))), none]) (st' := [.ref (c + 22)]) rfl rfl ?_
    refine go_a (pc' := 48) (ls' := [some (.ref (c + 22)), some (.int (iI (s.I 26 + 1))), some (.int (iI (s.C 13))), none]) (st' := [.int (iI 10), .ref (c + 22)]) rfl rfl ?_
    refine go_a (pc' := 49) (ls' := [some (.ref (c + 22)), some (.int (iI (s.I 26 + 1))), some (.int (iI (s.C 13))), none]) (st' := [.int (iI (s.I 26 + 1)), .int (iI 10), .ref (c + 22)]) rfl rfl ?_
    rw [show s.I 26 + 1 = 1 by omega]
    refine go_o (st' := [.int (iI 10), .ref (c + 22)]) (h' := hp) rfl rfl rfl rfl ?_
    refine go_newr (m := 10) rfl rfl (by decide) rfl (by decide) ?_
    rw [rep_r]
    show xx_go (xt_P z) (d + 1) 239 55 [some (.ref (c + 22)), some (.int (iI 1)), some (.int (iI (s.C 13))), none] [.ref hp.length, .ref (c + 22)] (hp ++ [.inl ((.object "java/lang/Object"), xa_r 10 (fun _ => none))]) _
    refine go_a (pc' := 56) (ls' := [some (.ref (c + 22)), some (.int (iI 1)), some (.int (iI (s.C 13))), none]) (st' := [.ref hp.length, .ref (c + 22), .ref hp.length]) rfl rfl ?_
    refine go_put rfl (app_old (hK.1 13 (by decide))) rfl rfl (hK.2.1 13 (by decide)) (show 0 < 3 by decide) rfl rfl ?_
    obtain ⟨K1, X1⟩ := ki_wL_13 hK (10) (fun _ => none) (by omega) (by omega) (by omega)
    exact go_r rfl rfl rfl rfl rfl rfl ⟨s.wL 13 (10) (fun _ => none) hp.length, rfl, K1, KB_wL_13 hB (by omega) (by omega), X1, ⟨rfl, rfl, fun i h => ⟨sT_ne h, su_ne h, un_ne h⟩, fun _ _ _ => rfl⟩, rfl, show s.C 13 + 1 ≤ 10 by omega, fun e e0 e1 => absurd e1 (by omega)⟩
theorem kl_grow_13 (z : Value) (d c : Nat) (hp : xx_H) (s : KS) (hK : KI c hp s) (hB : KB s) (hO : OC hp) (hT : TLS c hp s 13 (s.I 26)) (hP0 : s.C 13 = 0 → ¬ 12 ≤ s.P 13) (hs : s.I 26 = s.C 13) (hl : s.I 26 ≤ 200) : xx_cl (xt_P z) (d + 3) 238 [.ref (c + 22)] hp (fun v h1 => ∃ s1 : KS, v = some (.ref (s1.P 13)) ∧ KI c h1 s1 ∧ KB s1 ∧ kx c hp s h1 s1 1 1 ∧ LFR 13 26 29 s s1 ∧ s1.I = s.I ∧ s.C 13 + 1 ≤ s1.C 13 ∧ ∀ e : Int, 0 ≤ e → e < s.C 13 → s1.T 13 e = s.T 13 e) := by
  refine cl_go rfl ?_
  show xx_go (xt_P z) (d + 2) 238 0 [some (.ref (c + 22))] [] hp _
  refine go_a (pc' := 1) (ls' := [some (.ref (c + 22))]) (st' := [.ref (c + 22)]) rfl rfl ?_
  refine go_a (pc' := 2) (ls' := [some (.ref (c + 22))]) (st' := [.ref (c + 22), .ref (c + 22)]) rfl rfl ?_
  refine go_get (v := .int (iI (s.I 26))) rfl (hK.1 13 (by decide)) rfl rfl ?_
  refine go_a (pc' := 6) (ls' := [some (.ref (c + 22))]) (st' := [.int (iI 1), .int (iI (s.I 26)), .ref (c + 22)]) rfl rfl ?_
  refine mi_add rfl ?_
  refine go_v (m := 239) (as := [.ref (c + 22), .int (iI ((s.I 26) + 1))]) (r := []) rfl rfl rfl (hK.1 13 (by decide)) rfl rfl (kl_grow1_13 z d c hp s hK hB hO hT hP0 hs hl) (fun v h3 hq => ?_)
  obtain ⟨s1, rfl, q⟩ := hq
  show xx_go (xt_P z) (d + 2) 238 10 [some (.ref (c + 22))] [.ref (s1.P 13)] h3 _
  exact go_r rfl rfl rfl rfl rfl rfl ⟨s1, rfl, q⟩
theorem kl_put_13 (z : Value) (d c t : Nat) (fs : List Value) (hp0 : xx_H) (s0 : KS) (hp : xx_H) (s : KS) (hK : KI c hp s) (hB : KB s) (hO : OC hp) (hT : TLS c hp s 13 (s.I 26)) (hX : kx c hp0 s0 hp s 0 0) (hF : LFR 13 26 29 s0 s) (es : s.I 26 = s0.I 26) (em : s.I 29 = s0.I 29 + 1) (eT : s.T 13 = s0.T 13) (hP0 : s.C 13 = 0 → ¬ 12 ≤ s.P 13) (hl : s.I 26 ≤ 200) (ht : hp[t]? = some (.inr (11, fs))) (kt0 : kn c s t) : xx_cl (xt_P z) (d + 4) 237 [.ref (c + 22), .ref t, .ref (s.P 13), .int (iI (s.I 26))] hp (fun v h1 => v = none ∧ ∃ s1 : KS, KI c h1 s1 ∧ KB s1 ∧ kx c hp0 s0 h1 s1 1 1 ∧ LFR 13 26 29 s0 s1 ∧ s1.I 26 = s0.I 26 + 1 ∧ s1.I 29 = s0.I 29 + 1 ∧ 1 ≤ s1.C 13 ∧ (∀ e : Int, 0 ≤ e → e < s0.I 26 → s1.T 13 e = s0.T 13 e) ∧ s1.T 13 (s0.I 26) = some t) := by
  have b7 := hB.2.2.2.2.2.2.1
  have tail : ∀ (hp1 : xx_H) (t1 : KS), KI c hp1 t1 → KB t1 → OC hp1 → kx c hp0 s0 hp1 t1 1 1 → LFR 13 26 29 s0 t1 → t1.I 26 = s0.I 26 → t1.I 29 = s0.I 29 + 1 → (∀ e : Int, 0 ≤ e → e < s0.I 26 → t1.T 13 e = s0.T 13 e) → t1.I 26 + 1 ≤ t1.C 13 → hp1[t]? = some (.inr (11, fs)) → xx_go (xt_P z) (d + 3) 237 11 [some (.ref (c + 22)), some (.ref t), some (.ref (t1.P 13)), some (.int (iI (t1.I 26)))] [] hp1 (fun v h1 => v = none ∧ ∃ s1 : KS, KI c h1 s1 ∧ KB s1 ∧ kx c hp0 s0 h1 s1 1 1 ∧ LFR 13 26 29 s0 s1 ∧ s1.I 26 = s0.I 26 + 1 ∧ s1.I 29 = s0.I 29 + 1 ∧ 1 ≤ s1.C 13 ∧ (∀ e : Int, 0 ≤ e → e < s0.I 26 → s1.T 13 e = s0.T 13 e) ∧ s1.T 13 (s0.I 26) = some t) := by
    intro hp1 t1 hK hB hO hX hF es em eT hc ht
    have b7 := hB.2.2.2.2.2.2.1
    have p12 := kl_p12_13 hK hO (by omega)
    refine go_a (pc' := 12) (ls' := [some (.ref (c + 22)), some (.ref t), some (.ref (t1.P 13)), some (.int (iI (t1.I 26)))]) (st' := [.ref (t1.P 13)]) rfl rfl ?_
    refine go_a (pc' := 13) (ls' := [some (.ref (c + 22)), some (.ref t), some (.ref (t1.P 13)), some (.int (iI (t1.I 26)))]) (st' := [.int (iI (t1.I 26)), .ref (t1.P 13)]) rfl rfl ?_
    refine go_a (pc' := 14) (ls' := [some (.ref (c + 22)), some (.ref t), some (.ref (t1.P 13)), some (.int (iI (t1.I 26)))]) (st' := [.ref t, .int (iI (t1.I 26)), .ref (t1.P 13)]) rfl rfl ?_
    refine mk_ast rfl (hK.1 32 (by decide)) p12 ht rfl (by omega) (by omega) (by omega) ?_
    obtain ⟨K1, X1⟩ := ki_wT_13 hK p12 (so (t1.T 13) (t1.I 26) (some t))
    show xx_go (xt_P z) (d + 3) 237 15 [some (.ref (c + 22)), some (.ref t), some (.ref (t1.P 13)), some (.int (iI (t1.I 26)))] [] (hp1.set (t1.P 13) (.inl ((.object "java/lang/Object"), xa_r (t1.C 13).toNat (so (t1.T 13) (t1.I 26) (some t))))) _
    generalize hp1.set (t1.P 13) (.inl ((.object "java/lang/Object"), xa_r (t1.C 13).toNat (so (t1.T 13) (t1.I 26) (some t)))) = hp2 at K1 X1 ⊢
    have X2 := kx_tr hX X1
    refine go_a (pc' := 16) (ls' := [some (.ref (c + 22)), some (.ref t), some (.ref (t1.P 13)), some (.int (iI (t1.I 26)))]) (st' := [.ref (c + 22)]) rfl rfl ?_
    refine go_a (pc' := 17) (ls' := [some (.ref (c + 22)), some (.ref t), some (.ref (t1.P 13)), some (.int (iI (t1.I 26)))]) (st' := [.int (iI (t1.I 26)), .ref (c + 22)]) rfl rfl ?_
    refine go_a (pc' := 18) (ls' := [some (.ref (c + 22)), some (.ref t), some (.ref (t1.P 13)), some (.int (iI (t1.I 26)))]) (st' := [.int (iI 1), .int (iI (t1.I 26)), .ref (c + 22)]) rfl rfl ?_
    refine mi_add rfl ?_
    refine kput_26 (x := (t1.I 26) + 1) K1 X2 rfl rfl (fun hp hK hX => ?_)
    refine go_r rfl rfl rfl rfl rfl rfl ⟨rfl, _, hK, KB_sz_13 (s := (t1.wT 13 (so (t1.T 13) (t1.I 26) (some t)))) hB (by omega) (show _ ≤ t1.C 13 by omega), kx_w hX (by decide) (by decide), LFR_tr hF (LFR_tr LFR_wT (LFR_wI (Or.inl rfl))), ?_, em, show 1 ≤ t1.C 13 by omega, fun e e0 e1 => ?_, ?_⟩
    · show t1.I 26 + 1 = _
      omega
    · show so (t1.T 13) (t1.I 26) (some t) e = _
      rw [so_ne (by omega)]
      exact eT e e0 e1
    · show so (t1.T 13) (t1.I 26) (some t) _ = _
      rw [← es]
      exact so_self
  refine cl_go rfl ?_
  show xx_go (xt_P z) (d + 3) 237 0 [some (.ref (c + 22)), some (.ref t), some (.ref (s.P 13)), some (.int (iI (s.I 26)))] [] hp _
  refine go_a (pc' := 1) (ls' := [some (.ref (c + 22)), some (.ref t), some (.ref (s.P 13)), some (.int (iI (s.I 26)))]) (st' := [.int (iI (s.I 26))]) rfl rfl ?_
  refine go_a (pc' := 2) (ls' := [some (.ref (c + 22)), some (.ref t), some (.ref (s.P 13)), some (.int (iI (s.I 26)))]) (st' := [.ref (s.P 13), .int (iI (s.I 26))]) rfl rfl ?_
  refine mk_len (n := s.C 13) rfl (hK.1 32 (by decide)) (xa_r_len _ _) (by omega) (by omega) ?_
  refine mi_ne (t := 11) rfl rfl (by omega) (by omega) (by omega) (by omega) (fun w => tail hp s hK hB hO (kx_w hX (by decide) (by decide)) hF es em (fun e _ _ => by rw [eT]) (by omega) ht) (fun w => ?_)
  refine go_a (pc' := 7) (ls' := [some (.ref (c + 22)), some (.ref t), some (.ref (s.P 13)), some (.int (iI (s.I 26)))]) (st' := [.ref (c + 22)]) rfl rfl ?_
  refine go_v (m := 238) (as := [.ref (c + 22)]) (r := []) rfl rfl rfl (hK.1 13 (by decide)) rfl rfl (kl_grow_13 z d c hp s hK hB hO hT hP0 (by omega) hl) (fun v h3 hq => ?_)
  obtain ⟨s1, rfl, K1, B1, X1, F1, e1, e2, e3⟩ := hq
  have et := X1.2.1 t (List.getElem?_eq_some_iff.mp ht).1 kt0
  show xx_go (xt_P z) (d + 3) 237 10 [some (.ref (c + 22)), some (.ref t), some (.ref (s.P 13)), some (.int (iI (s.I 26)))] [.ref (s1.P 13)] h3 _
  refine go_a (pc' := 11) (ls' := [some (.ref (c + 22)), some (.ref t), some (.ref (s1.P 13)), some (.int (iI (s.I 26)))]) (st' := []) rfl rfl ?_
  rw [show s.I 26 = s1.I 26 by rw [e1]]
  exact tail h3 s1 K1 B1 (OC_kx hO X1) (kx_w (kx_tr hX X1) (by decide) (by decide)) (LFR_tr hF F1) (by rw [e1]; exact es) (by rw [e1]; exact em) (fun e e0 e9 => by rw [e3 e e0 (by omega), eT]) (by rw [e1]; omega) (et.2.trans ht)
theorem kl_add_13 (z : Value) (d c t : Nat) (fs : List Value) (hp : xx_H) (s : KS) (hK : KI c hp s) (hB : KB s) (hO : OC hp) (hT : TLS c hp s 13 (s.I 26)) (hP0 : s.C 13 = 0 → ¬ 12 ≤ s.P 13) (hl : s.I 26 ≤ 200) (hm : 0 ≤ s.I 29 ∧ s.I 29 ≤ 1000000) (ht : hp[t]? = some (.inr (11, fs))) (kt0 : kn c s t) : xx_cl (xt_P z) (d + 5) 236 [.ref (c + 22), .ref t] hp (fun v h1 => v = some (.int (iI 1)) ∧ ∃ s1 : KS, KI c h1 s1 ∧ KB s1 ∧ kx c hp s h1 s1 1 1 ∧ LFR 13 26 29 s s1 ∧ s1.I 26 = s.I 26 + 1 ∧ s1.I 29 = s.I 29 + 1 ∧ 1 ≤ s1.C 13 ∧ (∀ e : Int, 0 ≤ e → e < s.I 26 → s1.T 13 e = s.T 13 e) ∧ s1.T 13 (s.I 26) = some t) := by
  have hX := kx_rf (c := c) (hp := hp) (s := s)
  refine cl_go rfl ?_
  show xx_go (xt_P z) (d + 4) 236 0 [some (.ref (c + 22)), some (.ref t)] [] hp _
  refine go_a (pc' := 1) (ls' := [some (.ref (c + 22)), some (.ref t)]) (st' := [.ref (c + 22)]) rfl rfl ?_
  refine go_a (pc' := 2) (ls' := [some (.ref (c + 22)), some (.ref t)]) (st' := [.ref (c + 22), .ref (c + 22)]) rfl rfl ?_
  refine go_get (v := .int (iI (s.I 29))) rfl (hK.1 13 (by decide)) rfl rfl ?_
  refine go_a (pc' := 6) (ls' := [some (.ref (c + 22)), some (.ref t)]) (st' := [.int (iI 1), .int (iI (s.I 29)), .ref (c + 22)]) rfl rfl ?_
  refine mi_add rfl ?_
  refine kput_29 (x := (s.I 29) + 1) hK hX rfl rfl (fun hp2 hK hX => ?_)
  refine go_a (pc' := 11) (ls' := [some (.ref (c + 22)), some (.ref t)]) (st' := [.ref (c + 22)]) rfl rfl ?_
  refine go_a (pc' := 12) (ls' := [some (.ref (c + 22)), some (.ref t)]) (st' := [.ref t, .ref (c + 22)]) rfl rfl ?_
  refine go_a (pc' := 13) (ls' := [some (.ref (c + 22)), some (.ref t)]) (st' := [.ref (c + 22), .ref t, .ref (c + 22)]) rfl rfl ?_
  refine go_get (v := .ref (s.P 13)) rfl (hK.1 13 (by decide)) rfl rfl ?_
  refine go_a (pc' := 17) (ls' := [some (.ref (c + 22)), some (.ref t)]) (st' := [.ref (c + 22), .ref (s.P 13), .ref t, .ref (c + 22)]) rfl rfl ?_
  refine go_get (v := .int (iI (s.I 26))) rfl (hK.1 13 (by decide)) rfl rfl ?_
  have et := hX.2.1 t (List.getElem?_eq_some_iff.mp ht).1 kt0
  refine go_v (m := 237) (as := [.ref (c + 22), .ref t, .ref (s.P 13), .int (iI (s.I 26))]) (r := []) rfl rfl rfl (hK.1 13 (by decide)) rfl rfl (kl_put_13 z d c t fs hp s hp2 (s.wI 29 (s.I 29 + 1)) hK (KB_wF hB (by omega) (by omega) (by decide)) (OC_kx hO hX) (TLS_kx hT hX (fun _ _ _ => rfl)) hX (LFR_wI (Or.inr rfl)) rfl rfl rfl hP0 hl (et.2.trans ht) et.1) (fun v h3 hq => ?_)
  obtain ⟨rfl, s1, q⟩ := hq
  show xx_go (xt_P z) (d + 4) 236 23 [some (.ref (c + 22)), some (.ref t)] [] h3 _
  refine go_a (pc' := 24) (ls' := [some (.ref (c + 22)), some (.ref t)]) (st' := [.int (iI 1)]) rfl rfl ?_
  exact go_r rfl rfl rfl rfl rfl rfl ⟨rfl, s1, q⟩
theorem kl_remove_13 (z : Value) (d c t : Nat) (hp : xx_H) (s : KS) (hK : KI c hp s) (hB : KB s) (hO : OC hp) (h1 : 1 ≤ s.I 26) (hm : 0 ≤ s.I 29 ∧ s.I 29 ≤ 1000000) (ht : s.T 13 (s.I 26 - 1) = some t) : xx_cl (xt_P z) (d + 3) 306 [.ref (c + 22), .int (iI (s.I 26 - 1))] hp (fun v h1 => v = some (.ref t) ∧ ∃ s1 : KS, KI c h1 s1 ∧ KB s1 ∧ kx c hp s h1 s1 0 0 ∧ LFR 13 26 29 s s1 ∧ s1.I 26 = s.I 26 - 1 ∧ s1.I 29 = s.I 29 + 1 ∧ s1.C 13 = s.C 13 ∧ s1.P 13 = s.P 13 ∧ ∀ e : Int, 0 ≤ e → e < s.I 26 - 1 → s1.T 13 e = s.T 13 e) := by
  have b7 := hB.2.2.2.2.2.2.1
  have p12 := kl_p12_13 hK hO (by omega)
  have hX := kx_rf (c := c) (hp := hp) (s := s)
  have fr : xx_cl (xt_P z) (d + 2) 307 [.ref (c + 22), .ref (s.P 13), .int (iI (s.I 26 - 1))] hp (fun v h1 => v = none ∧ ∃ s1 : KS, KI c h1 s1 ∧ KB s1 ∧ kx c hp s h1 s1 0 0 ∧ LFR 13 26 29 s s1 ∧ s1.I 26 = s.I 26 - 1 ∧ s1.I 29 = s.I 29 + 1 ∧ s1.C 13 = s.C 13 ∧ s1.P 13 = s.P 13 ∧ ∀ e : Int, 0 ≤ e → e < s.I 26 - 1 → s1.T 13 e = s.T 13 e) := by
    refine cl_go rfl ?_
    show xx_go (xt_P z) (d + 1) 307 0 [some (.ref (c + 22)), some (.ref (s.P 13)), some (.int (iI (s.I 26 - 1))), none] [] hp _
    refine go_a (pc' := 1) (ls' := [some (.ref (c + 22)), some (.ref (s.P 13)), some (.int (iI (s.I 26 - 1))), none]) (st' := [.ref (c + 22)]) rfl rfl ?_
    refine go_a (pc' := 2) (ls' := [some (.ref (c + 22)), some (.ref (s.P 13)), some (.int (iI (s.I 26 - 1))), none]) (st' := [.ref (c + 22), .ref (c + 22)]) rfl rfl ?_
    refine go_get (v := .int (iI (s.I 29))) rfl (hK.1 13 (by decide)) rfl rfl ?_
    refine go_a (pc' := 6) (ls' := [some (.ref (c + 22)), some (.ref (s.P 13)), some (.int (iI (s.I 26 - 1))), none]) (st' := [.int (iI 1), .int (iI (s.I 29)), .ref (c + 22)]) rfl rfl ?_
    refine mi_add rfl ?_
    refine kput_29 (x := (s.I 29) + 1) hK hX rfl rfl (fun hp2 hK hX => ?_)
    refine go_a (pc' := 11) (ls' := [some (.ref (c + 22)), some (.ref (s.P 13)), some (.int (iI (s.I 26 - 1))), none]) (st' := [.ref (c + 22)]) rfl rfl ?_
    refine go_get (v := .int (iI (s.I 26))) rfl (hK.1 13 (by decide)) rfl rfl ?_
    refine go_a (pc' := 15) (ls' := [some (.ref (c + 22)), some (.ref (s.P 13)), some (.int (iI (s.I 26 - 1))), none]) (st' := [.int (iI 1), .int (iI (s.I 26))]) rfl rfl ?_
    refine mi_sub rfl ?_
    refine go_a (pc' := 17) (ls' := [some (.ref (c + 22)), some (.ref (s.P 13)), some (.int (iI (s.I 26 - 1))), none]) (st' := [.int (iI ((s.I 26) - 1)), .int (iI ((s.I 26) - 1))]) rfl rfl ?_
    refine go_a (pc' := 18) (ls' := [some (.ref (c + 22)), some (.ref (s.P 13)), some (.int (iI (s.I 26 - 1))), some (.int (iI ((s.I 26) - 1)))]) (st' := [.int (iI ((s.I 26) - 1))]) rfl rfl ?_
    refine go_a (pc' := 19) (ls' := [some (.ref (c + 22)), some (.ref (s.P 13)), some (.int (iI (s.I 26 - 1))), some (.int (iI ((s.I 26) - 1)))]) (st' := [.int (iI (s.I 26 - 1)), .int (iI ((s.I 26) - 1))]) rfl rfl ?_
    refine mi_le (t := 34) rfl rfl (by omega) (by omega) (by omega) (by omega) (fun _ => ?_) (fun w => absurd (Int.le_refl _) w)
    refine go_a (pc' := 35) (ls' := [some (.ref (c + 22)), some (.ref (s.P 13)), some (.int (iI (s.I 26 - 1))), some (.int (iI ((s.I 26) - 1)))]) (st' := [.ref (s.P 13)]) rfl rfl ?_
    refine go_a (pc' := 36) (ls' := [some (.ref (c + 22)), some (.ref (s.P 13)), some (.int (iI (s.I 26 - 1))), some (.int (iI ((s.I 26) - 1)))]) (st' := [.ref (c + 22), .ref (s.P 13)]) rfl rfl ?_
    refine go_a (pc' := 37) (ls' := [some (.ref (c + 22)), some (.ref (s.P 13)), some (.int (iI (s.I 26 - 1))), some (.int (iI ((s.I 26) - 1)))]) (st' := [.int (iI ((s.I 26) - 1)), .ref (c + 22), .ref (s.P 13)]) rfl rfl ?_
    refine go_a (pc' := 38) (ls' := [some (.ref (c + 22)), some (.ref (s.P 13)), some (.int (iI (s.I 26 - 1))), some (.int (iI ((s.I 26) - 1)))]) (st' := [.int (iI ((s.I 26) - 1)), .ref (c + 22), .int (iI ((s.I 26) - 1)), .ref (s.P 13)]) rfl rfl ?_
    refine kput_26 (x := (s.I 26) - 1) hK hX rfl rfl (fun hp2 hK hX => ?_)
    refine go_a (pc' := 42) (ls' := [some (.ref (c + 22)), some (.ref (s.P 13)), some (.int (iI (s.I 26 - 1))), some (.int (iI ((s.I 26) - 1)))]) (st' := [.null, .int (iI ((s.I 26) - 1)), .ref (s.P 13)]) rfl rfl ?_
    have p12b : 12 ≤ ((s.wI 29 (s.I 29 + 1)).wI 26 (s.I 26 - 1)).P 13 := p12
    refine mk_astN rfl (hK.1 32 (by decide)) p12 (show 0 ≤ s.I 26 - 1 by omega) (show s.I 26 - 1 < ((s.C 13).toNat : Int) by omega) (show (s.C 13).toNat ≤ 1000000 by omega) ?_
    obtain ⟨K1, X1⟩ := ki_wT_13 hK p12b (so (s.T 13) (s.I 26 - 1) none)
    refine go_r rfl rfl rfl rfl rfl rfl ⟨rfl, _, K1, ?_, kx_w (kx_tr hX X1) (by decide) (by decide), LFR_tr (LFR_wI (Or.inr rfl)) (LFR_tr (LFR_wI (Or.inl rfl)) LFR_wT), rfl, rfl, rfl, rfl, fun e e0 e1 => so_ne (by omega)⟩
    exact KB_sz_13 (s := s.wI 29 (s.I 29 + 1)) (KB_wF hB (by omega) (by omega) (by decide)) (by omega) (show _ ≤ s.C 13 by omega)
  refine cl_go rfl ?_
  show xx_go (xt_P z) (d + 2) 306 0 [some (.ref (c + 22)), some (.int (iI (s.I 26 - 1))), none, none] [] hp _
  refine go_a (pc' := 1) (ls' := [some (.ref (c + 22)), some (.int (iI (s.I 26 - 1))), none, none]) (st' := [.int (iI (s.I 26 - 1))]) rfl rfl ?_
  refine go_a (pc' := 2) (ls' := [some (.ref (c + 22)), some (.int (iI (s.I 26 - 1))), none, none]) (st' := [.ref (c + 22), .int (iI (s.I 26 - 1))]) rfl rfl ?_
  refine go_get (v := .int (iI (s.I 26))) rfl (hK.1 13 (by decide)) rfl rfl ?_
  refine go_s (m := 218) (as := [.int (iI (s.I 26 - 1)), .int (iI (s.I 26))]) (r := []) rfl rfl rfl rfl (kl_checkIndex z d (s.I 26 - 1) (s.I 26) hp (by omega) (by omega) (by omega)) (fun v h3 hq => ?_)
  obtain ⟨rfl, e⟩ := hq
  rw [e]
  clear e h3
  show xx_go (xt_P z) (d + 2) 306 8 [some (.ref (c + 22)), some (.int (iI (s.I 26 - 1))), none, none] [.int (iI (s.I 26 - 1))] hp _
  refine go_a (pc' := 9) (ls' := [some (.ref (c + 22)), some (.int (iI (s.I 26 - 1))), none, none]) (st' := []) rfl rfl ?_
  refine go_a (pc' := 10) (ls' := [some (.ref (c + 22)), some (.int (iI (s.I 26 - 1))), none, none]) (st' := [.ref (c + 22)]) rfl rfl ?_
  refine go_get (v := .ref (s.P 13)) rfl (hK.1 13 (by decide)) rfl rfl ?_
  refine go_a (pc' := 14) (ls' := [some (.ref (c + 22)), some (.int (iI (s.I 26 - 1))), some (.ref (s.P 13)), none]) (st' := []) rfl rfl ?_
  refine go_a (pc' := 15) (ls' := [some (.ref (c + 22)), some (.int (iI (s.I 26 - 1))), some (.ref (s.P 13)), none]) (st' := [.ref (s.P 13)]) rfl rfl ?_
  refine go_a (pc' := 16) (ls' := [some (.ref (c + 22)), some (.int (iI (s.I 26 - 1))), some (.ref (s.P 13)), none]) (st' := [.int (iI (s.I 26 - 1)), .ref (s.P 13)]) rfl rfl ?_
  refine mk_ald rfl (hK.1 32 (by decide)) rfl (by omega) (by omega) (by omega) ?_
  rw [ht]
  show xx_go (xt_P z) (d + 2) 306 17 [some (.ref (c + 22)), some (.int (iI (s.I 26 - 1))), some (.ref (s.P 13)), none] [.ref t] hp _
  refine go_a (pc' := 18) (ls' := [some (.ref (c + 22)), some (.int (iI (s.I 26 - 1))), some (.ref (s.P 13)), some (.ref t)]) (st' := []) rfl rfl ?_
  refine go_a (pc' := 19) (ls' := [some (.ref (c + 22)), some (.int (iI (s.I 26 - 1))), some (.ref (s.P 13)), some (.ref t)]) (st' := [.ref (c + 22)]) rfl rfl ?_
  refine go_a (pc' := 20) (ls' := [some (.ref (c + 22)), some (.int (iI (s.I 26 - 1))), some (.ref (s.P 13)), some (.ref t)]) (st' := [.ref (s.P 13), .ref (c + 22)]) rfl rfl ?_
  refine go_a (pc' := 21) (ls' := [some (.ref (c + 22)), some (.int (iI (s.I 26 - 1))), some (.ref (s.P 13)), some (.ref t)]) (st' := [.int (iI (s.I 26 - 1)), .ref (s.P 13), .ref (c + 22)]) rfl rfl ?_
  refine go_v (m := 307) (as := [.ref (c + 22), .ref (s.P 13), .int (iI (s.I 26 - 1))]) (r := []) rfl rfl rfl (hK.1 13 (by decide)) rfl rfl fr (fun v h3 hq => ?_)
  obtain ⟨rfl, s1, q⟩ := hq
  show xx_go (xt_P z) (d + 2) 306 24 [some (.ref (c + 22)), some (.int (iI (s.I 26 - 1))), some (.ref (s.P 13)), some (.ref t)] [] h3 _
  refine go_a (pc' := 25) (ls' := [some (.ref (c + 22)), some (.int (iI (s.I 26 - 1))), some (.ref (s.P 13)), some (.ref t)]) (st' := [.ref t]) rfl rfl ?_
  exact go_r rfl rfl rfl rfl rfl rfl ⟨rfl, s1, q⟩
theorem ki_wT_14 {c : Nat} {hp : xx_H} {s : KS} (hK : KI c hp s) (h12 : 12 ≤ s.P 14) (f : Int → Option Nat) : KI c (hp.set (s.P 14) (.inl ((.object "java/lang/Object"), xa_r (s.C 14).toNat f))) (s.wT 14 f) ∧ kx c hp s (hp.set (s.P 14) (.inl ((.object "java/lang/Object"), xa_r (s.C 14).toNat f))) (s.wT 14 f) 0 0 := by
  refine ki_set (i := 33) (s1 := s.wT 14 f) hK (by decide) h12 rfl rfl rfl (fun j hj w => match j, hj, w with
    | 0, _, _ => rfl
    | 1, _, _ => rfl
    | 2, _, _ => rfl
    | 3, _, _ => rfl
    | 4, _, _ => rfl
    | 5, _, _ => rfl
    | 6, _, _ => rfl
    | 7, _, _ => rfl
    | 8, _, _ => rfl
    | 9, _, _ => rfl
    | 10, _, _ => rfl
    | 11, _, _ => rfl
    | 12, _, _ => rfl
    | 13, _, _ => rfl
    | 14, _, _ => rfl
    | 15, _, _ => rfl
    | 16, _, _ => rfl
    | 17, _, _ => rfl
    | 18, _, _ => rfl
    | 19, _, _ => rfl
    | 20, _, _ => rfl
    | 21, _, _ => rfl
    | 22, _, _ => rfl
    | 23, _, _ => rfl
    | 24, _, _ => rfl
    | 25, _, _ => rfl
    | 26, _, _ => rfl
    | 27, _, _ => rfl
    | 28, _, _ => rfl
    | 29, _, _ => rfl
    | 30, _, _ => rfl
    | 31, _, _ => rfl
    | 32, _, _ => rfl
    | 33, _, w => absurd rfl w
    | 34, _, _ => rfl
    | j + 35, q, _ => absurd q (by omega)) ?_
  show ((xa_r (s.C 14).toNat f).length : Nat) = (xa_r (s.C 14).toNat (s.T 14)).length
  rw [xa_r_len, xa_r_len]
theorem ki_wL_14 {c : Nat} {hp : xx_H} {s : KS} (hK : KI c hp s) (m : Int) (f : Int → Option Nat) (m0 : 0 ≤ m) (h1 : s.C 14 + 1 ≤ m) (h2 : 3 * s.C 14 ≤ 2 * m + 1) : KI c ((hp ++ [(.inl ((.object "java/lang/Object"), xa_r m.toNat f) : xx_E)]).set (c + 23) (.inr (4, [.ref hp.length, .int (iI (s.I 27)), .int (iI (s.I 30))]))) (s.wL 14 m f hp.length) ∧ kx c hp s ((hp ++ [(.inl ((.object "java/lang/Object"), xa_r m.toNat f) : xx_E)]).set (c + 23) (.inr (4, [.ref hp.length, .int (iI (s.I 27)), .int (iI (s.I 30))]))) (s.wL 14 m f hp.length) 1 1 := by
  have q := ki_grow (i := 33) (i0 := 14) (e := .inl ((.object "java/lang/Object"), xa_r m.toNat f)) (s1 := s.wL 14 m f hp.length) hK (by decide) (by decide) (by decide) (hK.2.1 14 (by decide)) (fun j hj n0 => match j, hj, n0 with
    | 0, _, _ => rfl
    | 1, _, _ => rfl
    | 2, _, _ => rfl
    | 3, _, _ => rfl
    | 4, _, _ => rfl
    | 5, _, _ => rfl
    | 6, _, _ => rfl
    | 7, _, _ => rfl
    | 8, _, _ => rfl
    | 9, _, _ => rfl
    | 10, _, _ => rfl
    | 11, _, _ => rfl
    | 12, _, _ => rfl
    | 13, _, _ => rfl
    | 14, _, _ => rfl
    | 15, _, _ => rfl
    | 16, _, _ => rfl
    | 17, _, _ => rfl
    | 18, _, _ => rfl
    | 19, _, _ => rfl
    | 20, _, _ => rfl
    | 21, _, _ => rfl
    | 22, _, _ => rfl
    | 23, _, _ => rfl
    | 24, _, _ => rfl
    | 25, _, _ => rfl
    | 26, _, _ => rfl
    | 27, _, _ => rfl
    | 28, _, _ => rfl
    | 29, _, _ => rfl
    | 30, _, _ => rfl
    | 31, _, _ => rfl
    | 32, _, _ => rfl
    | 33, _, w => absurd rfl w
    | 34, _, _ => rfl
    | j + 35, q, _ => absurd q (by omega)) rfl rfl rfl (fun j hj n0 n1 => match j, hj, n0, n1 with
    | 0, _, _, _ => rfl
    | 1, _, _, _ => rfl
    | 2, _, _, _ => rfl
    | 3, _, _, _ => rfl
    | 4, _, _, _ => rfl
    | 5, _, _, _ => rfl
    | 6, _, _, _ => rfl
    | 7, _, _, _ => rfl
    | 8, _, _, _ => rfl
    | 9, _, _, _ => rfl
    | 10, _, _, _ => rfl
    | 11, _, _, _ => rfl
    | 12, _, _, _ => rfl
    | 13, _, _, _ => rfl
    | 14, _, _, w => absurd rfl w
    | 15, _, _, _ => rfl
    | 16, _, _, _ => rfl
    | 17, _, _, _ => rfl
    | 18, _, _, _ => rfl
    | 19, _, _, _ => rfl
    | 20, _, _, _ => rfl
    | 21, _, _, _ => rfl
    | 22, _, _, _ => rfl
    | 23, _, _, _ => rfl
    | 24, _, _, _ => rfl
    | 25, _, _, _ => rfl
    | 26, _, _, _ => rfl
    | 27, _, _, _ => rfl
    | 28, _, _, _ => rfl
    | 29, _, _, _ => rfl
    | 30, _, _, _ => rfl
    | 31, _, _, _ => rfl
    | 32, _, _, _ => rfl
    | 33, _, w, _ => absurd rfl w
    | 34, _, _, _ => rfl
    | j + 35, q, _, _ => absurd q (by omega)) rfl
  have ek : kt (s.wL 14 m f hp.length) = kt s - s.C 14 + m := by
    show su s.C 14 m 0 + su s.C 14 m 1 + su s.C 14 m 2 + su s.C 14 m 3 + su s.C 14 m 4 + su s.C 14 m 5 + su s.C 14 m 6 + su s.C 14 m 7 + su s.C 14 m 8 + su s.C 14 m 9 + su s.C 14 m 10 + su s.C 14 m 13 + su s.C 14 m 14 + su s.C 14 m 15 = _
    show s.C 0 + s.C 1 + s.C 2 + s.C 3 + s.C 4 + s.C 5 + s.C 6 + s.C 7 + s.C 8 + s.C 9 + s.C 10 + s.C 13 + m + s.C 15 = (s.C 0 + s.C 1 + s.C 2 + s.C 3 + s.C 4 + s.C 5 + s.C 6 + s.C 7 + s.C 8 + s.C 9 + s.C 10 + s.C 13 + s.C 14 + s.C 15) - s.C 14 + m
    omega
  have ez : (xx_sz1 (.inl ((.object "java/lang/Object"), xa_r m.toNat f)) : Int) = m := by
    show (((xa_r m.toNat f).length : Nat) : Int) = m
    rw [xa_r_len]
    omega
  exact ⟨q.1, q.2 1 1 (by omega) (by rw [ez]; omega)⟩
theorem KB_wL_14 {s : KS} {m : Int} {f : Int → Option Nat} {q : Nat} (hB : KB s) (h1 : s.C 14 ≤ m) (h2 : m ≤ 1000) : KB (s.wL 14 m f q) := by
  obtain ⟨a1, a2, a3, a4, a5, a6, a7, a8, a9⟩ := hB
  refine ⟨a1, a2, a3, fun i hi => ?_, a5, a6, ?_, ?_, ?_⟩
  · show 20 ≤ su s.C 14 m i ∧ su s.C 14 m i ≤ 8192 ∧ 0 ≤ s.I i ∧ s.I i ≤ su s.C 14 m i
    rw [su_ne (by omega)]
    exact a4 i hi
  · exact a7
  · show 0 ≤ s.I 27 ∧ s.I 27 ≤ m ∧ m ≤ 1000
    omega
  · exact a9
theorem kl_p12_14 {c : Nat} {hp : xx_H} {s : KS} (hK : KI c hp s) (hO : OC hp) (h : 1 ≤ s.C 14) : 12 ≤ s.P 14 := by
  rcases hK.2.2.2 33 (by decide) (by decide) with q | q
  · exact q
  · have e := hK.1 33 (by decide)
    rw [q, hO.2.2.2] at e
    have e2 : ([] : List Value) = xa_r (s.C 14).toNat (s.T 14) := by
      simpa [kc] using e
    have e3 := congrArg List.length e2
    rw [xa_r_len] at e3
    simp at e3
    omega
theorem KB_sz_14 {s : KS} {x : Int} (hB : KB s) (h0 : 0 ≤ x) (h1 : x ≤ s.C 14) : KB (s.wI 27 x) := by
  obtain ⟨a1, a2, a3, a4, a5, a6, a7, a8, a9⟩ := hB
  refine ⟨a1, fun i => ?_, a3, fun i hi => ?_, a5, ?_, ?_, ?_, ?_⟩
  · show -2147483648 ≤ su s.I 27 x i ∧ su s.I 27 x i ≤ 2147483647
    rcases su_or s.I 27 i x with e | ⟨-, e⟩
    · rw [e]
      exact a2 i
    · rw [e]
      omega
  · show 20 ≤ s.C i ∧ s.C i ≤ 8192 ∧ 0 ≤ su s.I 27 x i ∧ su s.I 27 x i ≤ s.C i
    rw [su_ne (by omega)]
    exact a4 i hi
  · exact a6
  · exact a7
  · show 0 ≤ x ∧ x ≤ s.C 14 ∧ s.C 14 ≤ 1000
    omega
  · exact a9
theorem kl_size_14 (z : Value) (d c : Nat) (hp : xx_H) (s : KS) (hK : KI c hp s) : xx_cl (xt_P z) (d + 1) 47 [.ref (c + 23)] hp (fun v h1 => v = some (.int (iI (s.I 27))) ∧ h1 = hp) := by
  refine cl_go rfl ?_
  show xx_go (xt_P z) d 47 0 [some (.ref (c + 23))] [] hp _
  refine go_a (pc' := 1) (ls' := [some (.ref (c + 23))]) (st' := [.ref (c + 23)]) rfl rfl ?_
  refine go_get (v := .int (iI (s.I 27))) rfl (hK.1 14 (by decide)) rfl rfl ?_
  exact go_r rfl rfl rfl rfl rfl rfl ⟨rfl, rfl⟩
theorem kl_isEmpty_14 (z : Value) (d c : Nat) (hp : xx_H) (s : KS) (hK : KI c hp s) (hB : KB s) : xx_cl (xt_P z) (d + 1) 305 [.ref (c + 23)] hp (fun v h1 => ((s.I 27 = 0 ∧ v = some (.int (iI 1))) ∨ (0 < s.I 27 ∧ v = some (.int (iI 0)))) ∧ h1 = hp) := by
  have b7 := hB.2.2.2.2.2.2.2.1
  refine cl_go rfl ?_
  show xx_go (xt_P z) d 305 0 [some (.ref (c + 23))] [] hp _
  refine go_a (pc' := 1) (ls' := [some (.ref (c + 23))]) (st' := [.ref (c + 23)]) rfl rfl ?_
  refine go_get (v := .int (iI (s.I 27))) rfl (hK.1 14 (by decide)) rfl rfl ?_
  refine mi_ne0 (t := 11) rfl rfl (by omega) (by omega) (fun w => ?_) (fun w => ?_)
  · refine go_a (pc' := 12) (ls' := [some (.ref (c + 23))]) (st' := [.int (iI 0)]) rfl rfl ?_
    exact go_r rfl rfl rfl rfl rfl rfl ⟨Or.inr ⟨by omega, rfl⟩, rfl⟩
  · refine go_a (pc' := 8) (ls' := [some (.ref (c + 23))]) (st' := [.int (iI 1)]) rfl rfl ?_
    refine go_a (pc' := 12) (ls' := [some (.ref (c + 23))]) (st' := [.int (iI 1)]) rfl rfl ?_
    exact go_r rfl rfl rfl rfl rfl rfl ⟨Or.inl ⟨by omega, rfl⟩, rfl⟩
theorem kl_get_14 (z : Value) (d c : Nat) (k : Int) (hp : xx_H) (s : KS) (hK : KI c hp s) (hB : KB s) (k0 : 0 ≤ k) (k1 : k < s.I 27) (a : Nat) (ha : s.T 14 k = some a) : xx_cl (xt_P z) (d + 3) 217 [.ref (c + 23), .int (iI k)] hp (fun v h1 => v = some (.ref a) ∧ h1 = hp) := by
  have b7 := hB.2.2.2.2.2.2.2.1
  have ed : xx_cl (xt_P z) (d + 2) 219 [.ref (c + 23), .int (iI k)] hp (fun v h1 => v = some (.ref a) ∧ h1 = hp) := by
    refine cl_go rfl ?_
    show xx_go (xt_P z) (d + 1) 219 0 [some (.ref (c + 23)), some (.int (iI k))] [] hp _
    refine go_a (pc' := 1) (ls' := [some (.ref (c + 23)), some (.int (iI k))]) (st' := [.ref (c + 23)]) rfl rfl ?_
    refine go_get (v := .ref (s.P 14)) rfl (hK.1 14 (by decide)) rfl rfl ?_
    refine go_a (pc' := 5) (ls' := [some (.ref (c + 23)), some (.int (iI k))]) (st' := [.int (iI k), .ref (s.P 14)]) rfl rfl ?_
    refine mk_ald rfl (hK.1 33 (by decide)) rfl k0 (by omega) (by omega) ?_
    rw [ha]
    show xx_go (xt_P z) (d + 1) 219 6 [some (.ref (c + 23)), some (.int (iI k))] [.ref a] hp _
    exact go_r rfl rfl rfl rfl rfl rfl ⟨rfl, rfl⟩
  refine cl_go rfl ?_
  show xx_go (xt_P z) (d + 2) 217 0 [some (.ref (c + 23)), some (.int (iI k))] [] hp _
  refine go_a (pc' := 1) (ls' := [some (.ref (c + 23)), some (.int (iI k))]) (st' := [.int (iI k)]) rfl rfl ?_
  refine go_a (pc' := 2) (ls' := [some (.ref (c + 23)), some (.int (iI k))]) (st' := [.ref (c + 23), .int (iI k)]) rfl rfl ?_
  refine go_get (v := .int (iI (s.I 27))) rfl (hK.1 14 (by decide)) rfl rfl ?_
  refine go_s (m := 218) (as := [.int (iI k), .int (iI (s.I 27))]) (r := []) rfl rfl rfl rfl (kl_checkIndex z d k (s.I 27) hp k0 k1 (by omega)) (fun v h3 hq => ?_)
  obtain ⟨rfl, e⟩ := hq
  rw [e]
  clear e h3
  show xx_go (xt_P z) (d + 2) 217 8 [some (.ref (c + 23)), some (.int (iI k))] [.int (iI k)] hp _
  refine go_a (pc' := 9) (ls' := [some (.ref (c + 23)), some (.int (iI k))]) (st' := []) rfl rfl ?_
  refine go_a (pc' := 10) (ls' := [some (.ref (c + 23)), some (.int (iI k))]) (st' := [.ref (c + 23)]) rfl rfl ?_
  refine go_a (pc' := 11) (ls' := [some (.ref (c + 23)), some (.int (iI k))]) (st' := [.int (iI k), .ref (c + 23)]) rfl rfl ?_
  refine go_v (m := 219) (as := [.ref (c + 23), .int (iI k)]) (r := []) rfl rfl rfl (hK.1 14 (by decide)) rfl rfl ed (fun v h3 hq => ?_)
  obtain ⟨rfl, e⟩ := hq
  rw [e]
  clear e h3
  show xx_go (xt_P z) (d + 2) 217 14 [some (.ref (c + 23)), some (.int (iI k))] [.ref a] hp _
  exact go_r rfl rfl rfl rfl rfl rfl ⟨rfl, rfl⟩
theorem kl_grow1_14 (z : Value) (d c : Nat) (hp : xx_H) (s : KS) (hK : KI c hp s) (hB : KB s) (hO : OC hp) (hT : TLS c hp s 14 (s.I 27)) (hP0 : s.C 14 = 0 → ¬ 12 ≤ s.P 14) (hs : s.I 27 = s.C 14) (hl : s.I 27 ≤ 200) : xx_cl (xt_P z) (d + 2) 239 [.ref (c + 23), .int (iI (s.I 27 + 1))] hp (fun v h1 => ∃ s1 : KS, v = some (.ref (s1.P 14)) ∧ KI c h1 s1 ∧ KB s1 ∧ kx c hp s h1 s1 1 1 ∧ LFR 14 27 30 s s1 ∧ s1.I = s.I ∧ s.C 14 + 1 ≤ s1.C 14 ∧ ∀ e : Int, 0 ≤ e → e < s.C 14 → s1.T 14 e = s.T 14 e) := by
  have b7 := hB.2.2.2.2.2.2.2.1
  refine cl_go rfl ?_
  show xx_go (xt_P z) (d + 1) 239 0 [some (.ref (c + 23)), some (.int (iI (s.I 27 + 1))), none, none] [] hp _
  refine go_a (pc' := 1) (ls' := [some (.ref (c + 23)), some (.int (iI (s.I 27 + 1))), none, none]) (st' := [.ref (c + 23)]) rfl rfl ?_
  refine go_get (v := .ref (s.P 14)) rfl (hK.1 14 (by decide)) rfl rfl ?_
  refine mk_len (n := s.C 14) rfl (hK.1 33 (by decide)) (xa_r_len _ _) (by omega) (by omega) ?_
  refine go_a (pc' := 6) (ls' := [some (.ref (c + 23)), some (.int (iI (s.I 27 + 1))), some (.int (iI (s.C 14))), none]) (st' := []) rfl rfl ?_
  refine go_a (pc' := 7) (ls' := [some (.ref (c + 23)), some (.int (iI (s.I 27 + 1))), some (.int (iI (s.C 14))), none]) (st' := [.int (iI (s.C 14))]) rfl rfl ?_
  refine mi_gt0 (t := 20) rfl rfl (by omega) (by omega) (fun w => ?_) (fun w => ?_)
  · refine go_a (pc' := 21) (ls' := [some (.ref (c + 23)), some (.int (iI (s.I 27 + 1))), some (.int (iI (s.C 14))), none]) (st' := [.int (iI (s.C 14))]) rfl rfl ?_
    refine go_a (pc' := 22) (ls' := [some (.ref (c + 23)), some (.int (iI (s.I 27 + 1))), some (.int (iI (s.C 14))), none]) (st' := [.int (iI (s.I 27 + 1)), .int (iI (s.C 14))]) rfl rfl ?_
    refine go_a (pc' := 23) (ls' := [some (.ref (c + 23)), some (.int (iI (s.I 27 + 1))), some (.int (iI (s.C 14))), none]) (st' := [.int (iI (s.C 14)), .int (iI (s.I 27 + 1)), .int (iI (s.C 14))]) rfl rfl ?_
    refine mi_sub rfl ?_
    refine go_a (pc' := 25) (ls' := [some (.ref (c + 23)), some (.int (iI (s.I 27 + 1))), some (.int (iI (s.C 14))), none]) (st' := [.int (iI (s.C 14)), .int (iI ((s.I 27 + 1) - (s.C 14))), .int (iI (s.C 14))]) rfl rfl ?_
    refine go_a (pc' := 26) (ls' := [some (.ref (c + 23)), some (.int (iI (s.I 27 + 1))), some (.int (iI (s.C 14))), none]) (st' := [.int (iI 1), .int (iI (s.C 14)), .int (iI ((s.I 27 + 1) - (s.C 14))), .int (iI (s.C 14))]) rfl rfl ?_
    refine go_a (pc' := 27) (ls' := [some (.ref (c + 23)), some (.int (iI (s.I 27 + 1))), some (.int (iI (s.C 14))), none]) (st' := [.int (iI (s.C 14 / 2)), .int (iI ((s.I 27 + 1) - (s.C 14))), .int (iI (s.C 14))]) rfl (by rw [show iI (s.C 14 / 2) = iI (s.C 14) >>> (iI 1 &&& 31) from (shr_i (by omega) (by omega) (iI 1) 1 (by decide) (by decide)).symm]; rfl) ?_
    refine go_s (m := 240) (as := [.int (iI (s.C 14)), .int (iI ((s.I 27 + 1) - (s.C 14))), .int (iI (s.C 14 / 2))]) (r := []) rfl rfl rfl rfl (kl_newLength z d (s.C 14) (s.I 27 + 1 - s.C 14) (s.C 14 / 2) hp (by omega) (by omega) (by omega) (by omega) (by omega) (by omega)) (fun v h3 hq => ?_)
    obtain ⟨rfl, e⟩ := hq
    rw [e]
    clear e h3
    show xx_go (xt_P z) (d + 1) 239 30 [some (.ref (c + 23)), some (.int (iI (s.I 27 + 1))), some (.int (iI (s.C 14))), none] [.int (iI (s.C 14 + if s.I 27 + 1 - s.C 14 < s.C 14 / 2 then s.C 14 / 2 else s.I 27 + 1 - s.C 14))] hp _
    have eM : ∃ M : Int, (s.C 14 + if s.I 27 + 1 - s.C 14 < s.C 14 / 2 then s.C 14 / 2 else s.I 27 + 1 - s.C 14) = M ∧ s.C 14 + 1 ≤ M ∧ 3 * s.C 14 ≤ 2 * M + 1 ∧ M ≤ 1000 := ⟨_, rfl, by split <;> omega, by split <;> omega, by split <;> omega⟩
    obtain ⟨M, eM, M1, M2, M3⟩ := eM
    rw [eM]
    show xx_go (xt_P z) (d + 1) 239 30 [some (.ref (c + 23)), some (.int (iI (s.I 27 + 1))), some (.int (iI (s.C 14))), none] [.int (iI M)] hp _
    refine go_a (pc' := 31) (ls' := [some (.ref (c + 23)), some (.int (iI (s.I 27 + 1))), some (.int (iI (s.C 14))), some (.int (iI M))]) (st' := []) rfl rfl ?_
    refine go_a (pc' := 32) (ls' := [some (.ref (c + 23)), some (.int (iI (s.I 27 + 1))), some (.int (iI (s.C 14))), some (.int (iI M))]) (st' := [.ref (c + 23)]) rfl rfl ?_
    refine go_a (pc' := 33) (ls' := [some (.ref (c + 23)), some (.int (iI (s.I 27 + 1))), some (.int (iI (s.C 14))), some (.int (iI M))]) (st' := [.ref (c + 23), .ref (c + 23)]) rfl rfl ?_
    refine go_get (v := .ref (s.P 14)) rfl (hK.1 14 (by decide)) rfl rfl ?_
    refine go_a (pc' := 37) (ls' := [some (.ref (c + 23)), some (.int (iI (s.I 27 + 1))), some (.int (iI (s.C 14))), some (.int (iI M))]) (st' := [.int (iI M), .ref (s.P 14), .ref (c + 23)]) rfl rfl ?_
    refine go_copyO (m := M.toNat) rfl rfl (hK.1 33 (by decide)) (show 12 ≤ _ from kl_p12_14 hK hO (by omega)) (by rw [hs] at hT; exact TLS_ok z hT) (iI_nn (by omega) (by omega)) (iI_clamp (by omega) (by omega)) (by rw [xa_r_len]; omega) (by omega) rfl ?_
    rw [xa_r_len, xa_r_app (by omega)]
    show xx_go (xt_P z) (d + 1) 239 40 [some (.ref (c + 23)), some (.int (iI (s.I 27 + 1))), some (.int (iI (s.C 14))), some (.int (iI M))] [.ref hp.length, .ref (c + 23)] (hp ++ [.inl ((.object "java/lang/Object"), xa_r M.toNat (fun k => if k < ((s.C 14).toNat : Int) then s.T 14 k else none))]) _
    refine go_a (pc' := 41) (ls' := [some (.ref (c + 23)), some (.int (iI (s.I 27 + 1))), some (.int (iI (s.C 14))), some (.int (iI M))]) (st' := [.ref hp.length, .ref (c + 23), .ref hp.length]) rfl rfl ?_
    refine go_put rfl (app_old (hK.1 14 (by decide))) rfl rfl (hK.2.1 14 (by decide)) (show 0 < 3 by decide) rfl rfl ?_
    obtain ⟨K1, X1⟩ := ki_wL_14 hK (M) (fun k => if k < ((s.C 14).toNat : Int) then s.T 14 k else none) (by omega) (by omega) (by omega)
    exact go_r rfl rfl rfl rfl rfl rfl ⟨s.wL 14 (M) (fun k => if k < ((s.C 14).toNat : Int) then s.T 14 k else none) hp.length, rfl, K1, KB_wL_14 hB (by omega) (by omega), X1, ⟨rfl, rfl, fun i h => ⟨sT_ne h, su_ne h, un_ne h⟩, fun _ _ _ => rfl⟩, rfl, show s.C 14 + 1 ≤ M by omega, fun e e0 e1 => if_pos (show e < ((s.C 14).toNat : Int) by omega)⟩
  · have e0 : s.C 14 = 0 := by omega
    have eP : s.P 14 = 10 := by
      rcases hK.2.2.2 33 (by decide) (by decide) with q | q
      · exact absurd q (hP0 e0)
      · exact q
    refine go_a (pc' := 11) (ls' := [some (.ref (c + 23)), some (.int (iI (s.I 27 + 1))), some (.int (iI (s.C 14))), none]) (st' := [.ref (c + 23)]) rfl rfl ?_
    refine go_get (v := .ref (s.P 14)) rfl (hK.1 14 (by decide)) rfl rfl ?_
    refine go_b (pc' := 17) (st' := [.ref 10, .ref (s.P 14)]) (h' := hp) rfl rfl rfl ?_
    rw [eP]
    refine go_acmp (t := 45) rfl rfl ?_
    show xx_go (xt_P z) (d + 1) 239 45 [some (.ref (c + 23)), some (.int (iI (s.I 27 + 1))), some (.int (iI (s.C 14))), none] [] hp _
    refine go_a (pc' := 46) (ls' := [some (.ref (c + 23)), some (.int (iI (s.I 27 + 1))), some (.int (iI (s.C 14))), none]) (st' := [.ref (c + 23)]) rfl rfl ?_
    refine go_a (pc' := 48) (ls' := [some (.ref (c + 23)), some (.int (iI (s.I 27 + 1))), some (.int (iI (s.C 14))), none]) (st' := [.int (iI 10), .ref (c + 23)]) rfl rfl ?_
    refine go_a (pc' := 49) (ls' := [some (.ref (c + 23)), some (.int (iI (s.I 27 + 1))), some (.int (iI (s.C 14))), none]) (st' := [.int (iI (s.I 27 + 1)), .int (iI 10), .ref (c + 23)]) rfl rfl ?_
    rw [show s.I 27 + 1 = 1 by omega]
    refine go_o (st' := [.int (iI 10), .ref (c + 23)]) (h' := hp) rfl rfl rfl rfl ?_
    refine go_newr (m := 10) rfl rfl (by decide) rfl (by decide) ?_
    rw [rep_r]
    show xx_go (xt_P z) (d + 1) 239 55 [some (.ref (c + 23)), some (.int (iI 1)), some (.int (iI (s.C 14))), none] [.ref hp.length, .ref (c + 23)] (hp ++ [.inl ((.object "java/lang/Object"), xa_r 10 (fun _ => none))]) _
    refine go_a (pc' := 56) (ls' := [some (.ref (c + 23)), some (.int (iI 1)), some (.int (iI (s.C 14))), none]) (st' := [.ref hp.length, .ref (c + 23), .ref hp.length]) rfl rfl ?_
    refine go_put rfl (app_old (hK.1 14 (by decide))) rfl rfl (hK.2.1 14 (by decide)) (show 0 < 3 by decide) rfl rfl ?_
    obtain ⟨K1, X1⟩ := ki_wL_14 hK (10) (fun _ => none) (by omega) (by omega) (by omega)
    exact go_r rfl rfl rfl rfl rfl rfl ⟨s.wL 14 (10) (fun _ => none) hp.length, rfl, K1, KB_wL_14 hB (by omega) (by omega), X1, ⟨rfl, rfl, fun i h => ⟨sT_ne h, su_ne h, un_ne h⟩, fun _ _ _ => rfl⟩, rfl, show s.C 14 + 1 ≤ 10 by omega, fun e e0 e1 => absurd e1 (by omega)⟩
theorem kl_grow_14 (z : Value) (d c : Nat) (hp : xx_H) (s : KS) (hK : KI c hp s) (hB : KB s) (hO : OC hp) (hT : TLS c hp s 14 (s.I 27)) (hP0 : s.C 14 = 0 → ¬ 12 ≤ s.P 14) (hs : s.I 27 = s.C 14) (hl : s.I 27 ≤ 200) : xx_cl (xt_P z) (d + 3) 238 [.ref (c + 23)] hp (fun v h1 => ∃ s1 : KS, v = some (.ref (s1.P 14)) ∧ KI c h1 s1 ∧ KB s1 ∧ kx c hp s h1 s1 1 1 ∧ LFR 14 27 30 s s1 ∧ s1.I = s.I ∧ s.C 14 + 1 ≤ s1.C 14 ∧ ∀ e : Int, 0 ≤ e → e < s.C 14 → s1.T 14 e = s.T 14 e) := by
  refine cl_go rfl ?_
  show xx_go (xt_P z) (d + 2) 238 0 [some (.ref (c + 23))] [] hp _
  refine go_a (pc' := 1) (ls' := [some (.ref (c + 23))]) (st' := [.ref (c + 23)]) rfl rfl ?_
  refine go_a (pc' := 2) (ls' := [some (.ref (c + 23))]) (st' := [.ref (c + 23), .ref (c + 23)]) rfl rfl ?_
  refine go_get (v := .int (iI (s.I 27))) rfl (hK.1 14 (by decide)) rfl rfl ?_
  refine go_a (pc' := 6) (ls' := [some (.ref (c + 23))]) (st' := [.int (iI 1), .int (iI (s.I 27)), .ref (c + 23)]) rfl rfl ?_
  refine mi_add rfl ?_
  refine go_v (m := 239) (as := [.ref (c + 23), .int (iI ((s.I 27) + 1))]) (r := []) rfl rfl rfl (hK.1 14 (by decide)) rfl rfl (kl_grow1_14 z d c hp s hK hB hO hT hP0 hs hl) (fun v h3 hq => ?_)
  obtain ⟨s1, rfl, q⟩ := hq
  show xx_go (xt_P z) (d + 2) 238 10 [some (.ref (c + 23))] [.ref (s1.P 14)] h3 _
  exact go_r rfl rfl rfl rfl rfl rfl ⟨s1, rfl, q⟩
theorem kl_put_14 (z : Value) (d c t : Nat) (fs : List Value) (hp0 : xx_H) (s0 : KS) (hp : xx_H) (s : KS) (hK : KI c hp s) (hB : KB s) (hO : OC hp) (hT : TLS c hp s 14 (s.I 27)) (hX : kx c hp0 s0 hp s 0 0) (hF : LFR 14 27 30 s0 s) (es : s.I 27 = s0.I 27) (em : s.I 30 = s0.I 30 + 1) (eT : s.T 14 = s0.T 14) (hP0 : s.C 14 = 0 → ¬ 12 ≤ s.P 14) (hl : s.I 27 ≤ 200) (ht : hp[t]? = some (.inr (11, fs))) (kt0 : kn c s t) : xx_cl (xt_P z) (d + 4) 237 [.ref (c + 23), .ref t, .ref (s.P 14), .int (iI (s.I 27))] hp (fun v h1 => v = none ∧ ∃ s1 : KS, KI c h1 s1 ∧ KB s1 ∧ kx c hp0 s0 h1 s1 1 1 ∧ LFR 14 27 30 s0 s1 ∧ s1.I 27 = s0.I 27 + 1 ∧ s1.I 30 = s0.I 30 + 1 ∧ 1 ≤ s1.C 14 ∧ (∀ e : Int, 0 ≤ e → e < s0.I 27 → s1.T 14 e = s0.T 14 e) ∧ s1.T 14 (s0.I 27) = some t) := by
  have b7 := hB.2.2.2.2.2.2.2.1
  have tail : ∀ (hp1 : xx_H) (t1 : KS), KI c hp1 t1 → KB t1 → OC hp1 → kx c hp0 s0 hp1 t1 1 1 → LFR 14 27 30 s0 t1 → t1.I 27 = s0.I 27 → t1.I 30 = s0.I 30 + 1 → (∀ e : Int, 0 ≤ e → e < s0.I 27 → t1.T 14 e = s0.T 14 e) → t1.I 27 + 1 ≤ t1.C 14 → hp1[t]? = some (.inr (11, fs)) → xx_go (xt_P z) (d + 3) 237 11 [some (.ref (c + 23)), some (.ref t), some (.ref (t1.P 14)), some (.int (iI (t1.I 27)))] [] hp1 (fun v h1 => v = none ∧ ∃ s1 : KS, KI c h1 s1 ∧ KB s1 ∧ kx c hp0 s0 h1 s1 1 1 ∧ LFR 14 27 30 s0 s1 ∧ s1.I 27 = s0.I 27 + 1 ∧ s1.I 30 = s0.I 30 + 1 ∧ 1 ≤ s1.C 14 ∧ (∀ e : Int, 0 ≤ e → e < s0.I 27 → s1.T 14 e = s0.T 14 e) ∧ s1.T 14 (s0.I 27) = some t) := by
    intro hp1 t1 hK hB hO hX hF es em eT hc ht
    have b7 := hB.2.2.2.2.2.2.2.1
    have p12 := kl_p12_14 hK hO (by omega)
    refine go_a (pc' := 12) (ls' := [some (.ref (c + 23)), some (.ref t), some (.ref (t1.P 14)), some (.int (iI (t1.I 27)))]) (st' := [.ref (t1.P 14)]) rfl rfl ?_
    refine go_a (pc' := 13) (ls' := [some (.ref (c + 23)), some (.ref t), some (.ref (t1.P 14)), some (.int (iI (t1.I 27)))]) (st' := [.int (iI (t1.I 27)), .ref (t1.P 14)]) rfl rfl ?_
    refine go_a (pc' := 14) (ls' := [some (.ref (c + 23)), some (.ref t), some (.ref (t1.P 14)), some (.int (iI (t1.I 27)))]) (st' := [.ref t, .int (iI (t1.I 27)), .ref (t1.P 14)]) rfl rfl ?_
    refine mk_ast rfl (hK.1 33 (by decide)) p12 ht rfl (by omega) (by omega) (by omega) ?_
    obtain ⟨K1, X1⟩ := ki_wT_14 hK p12 (so (t1.T 14) (t1.I 27) (some t))
    show xx_go (xt_P z) (d + 3) 237 15 [some (.ref (c + 23)), some (.ref t), some (.ref (t1.P 14)), some (.int (iI (t1.I 27)))] [] (hp1.set (t1.P 14) (.inl ((.object "java/lang/Object"), xa_r (t1.C 14).toNat (so (t1.T 14) (t1.I 27) (some t))))) _
    generalize hp1.set (t1.P 14) (.inl ((.object "java/lang/Object"), xa_r (t1.C 14).toNat (so (t1.T 14) (t1.I 27) (some t)))) = hp2 at K1 X1 ⊢
    have X2 := kx_tr hX X1
    refine go_a (pc' := 16) (ls' := [some (.ref (c + 23)), some (.ref t), some (.ref (t1.P 14)), some (.int (iI (t1.I 27)))]) (st' := [.ref (c + 23)]) rfl rfl ?_
    refine go_a (pc' := 17) (ls' := [some (.ref (c + 23)), some (.ref t), some (.ref (t1.P 14)), some (.int (iI (t1.I 27)))]) (st' := [.int (iI (t1.I 27)), .ref (c + 23)]) rfl rfl ?_
    refine go_a (pc' := 18) (ls' := [some (.ref (c + 23)), some (.ref t), some (.ref (t1.P 14)), some (.int (iI (t1.I 27)))]) (st' := [.int (iI 1), .int (iI (t1.I 27)), .ref (c + 23)]) rfl rfl ?_
    refine mi_add rfl ?_
    refine kput_27 (x := (t1.I 27) + 1) K1 X2 rfl rfl (fun hp hK hX => ?_)
    refine go_r rfl rfl rfl rfl rfl rfl ⟨rfl, _, hK, KB_sz_14 (s := (t1.wT 14 (so (t1.T 14) (t1.I 27) (some t)))) hB (by omega) (show _ ≤ t1.C 14 by omega), kx_w hX (by decide) (by decide), LFR_tr hF (LFR_tr LFR_wT (LFR_wI (Or.inl rfl))), ?_, em, show 1 ≤ t1.C 14 by omega, fun e e0 e1 => ?_, ?_⟩
    · show t1.I 27 + 1 = _
      omega
    · show so (t1.T 14) (t1.I 27) (some t) e = _
      rw [so_ne (by omega)]
      exact eT e e0 e1
    · show so (t1.T 14) (t1.I 27) (some t) _ = _
      rw [← es]
      exact so_self
  refine cl_go rfl ?_
  show xx_go (xt_P z) (d + 3) 237 0 [some (.ref (c + 23)), some (.ref t), some (.ref (s.P 14)), some (.int (iI (s.I 27)))] [] hp _
  refine go_a (pc' := 1) (ls' := [some (.ref (c + 23)), some (.ref t), some (.ref (s.P 14)), some (.int (iI (s.I 27)))]) (st' := [.int (iI (s.I 27))]) rfl rfl ?_
  refine go_a (pc' := 2) (ls' := [some (.ref (c + 23)), some (.ref t), some (.ref (s.P 14)), some (.int (iI (s.I 27)))]) (st' := [.ref (s.P 14), .int (iI (s.I 27))]) rfl rfl ?_
  refine mk_len (n := s.C 14) rfl (hK.1 33 (by decide)) (xa_r_len _ _) (by omega) (by omega) ?_
  refine mi_ne (t := 11) rfl rfl (by omega) (by omega) (by omega) (by omega) (fun w => tail hp s hK hB hO (kx_w hX (by decide) (by decide)) hF es em (fun e _ _ => by rw [eT]) (by omega) ht) (fun w => ?_)
  refine go_a (pc' := 7) (ls' := [some (.ref (c + 23)), some (.ref t), some (.ref (s.P 14)), some (.int (iI (s.I 27)))]) (st' := [.ref (c + 23)]) rfl rfl ?_
  refine go_v (m := 238) (as := [.ref (c + 23)]) (r := []) rfl rfl rfl (hK.1 14 (by decide)) rfl rfl (kl_grow_14 z d c hp s hK hB hO hT hP0 (by omega) hl) (fun v h3 hq => ?_)
  obtain ⟨s1, rfl, K1, B1, X1, F1, e1, e2, e3⟩ := hq
  have et := X1.2.1 t (List.getElem?_eq_some_iff.mp ht).1 kt0
  show xx_go (xt_P z) (d + 3) 237 10 [some (.ref (c + 23)), some (.ref t), some (.ref (s.P 14)), some (.int (iI (s.I 27)))] [.ref (s1.P 14)] h3 _
  refine go_a (pc' := 11) (ls' := [some (.ref (c + 23)), some (.ref t), some (.ref (s1.P 14)), some (.int (iI (s.I 27)))]) (st' := []) rfl rfl ?_
  rw [show s.I 27 = s1.I 27 by rw [e1]]
  exact tail h3 s1 K1 B1 (OC_kx hO X1) (kx_w (kx_tr hX X1) (by decide) (by decide)) (LFR_tr hF F1) (by rw [e1]; exact es) (by rw [e1]; exact em) (fun e e0 e9 => by rw [e3 e e0 (by omega), eT]) (by rw [e1]; omega) (et.2.trans ht)
theorem kl_add_14 (z : Value) (d c t : Nat) (fs : List Value) (hp : xx_H) (s : KS) (hK : KI c hp s) (hB : KB s) (hO : OC hp) (hT : TLS c hp s 14 (s.I 27)) (hP0 : s.C 14 = 0 → ¬ 12 ≤ s.P 14) (hl : s.I 27 ≤ 200) (hm : 0 ≤ s.I 30 ∧ s.I 30 ≤ 1000000) (ht : hp[t]? = some (.inr (11, fs))) (kt0 : kn c s t) : xx_cl (xt_P z) (d + 5) 236 [.ref (c + 23), .ref t] hp (fun v h1 => v = some (.int (iI 1)) ∧ ∃ s1 : KS, KI c h1 s1 ∧ KB s1 ∧ kx c hp s h1 s1 1 1 ∧ LFR 14 27 30 s s1 ∧ s1.I 27 = s.I 27 + 1 ∧ s1.I 30 = s.I 30 + 1 ∧ 1 ≤ s1.C 14 ∧ (∀ e : Int, 0 ≤ e → e < s.I 27 → s1.T 14 e = s.T 14 e) ∧ s1.T 14 (s.I 27) = some t) := by
  have hX := kx_rf (c := c) (hp := hp) (s := s)
  refine cl_go rfl ?_
  show xx_go (xt_P z) (d + 4) 236 0 [some (.ref (c + 23)), some (.ref t)] [] hp _
  refine go_a (pc' := 1) (ls' := [some (.ref (c + 23)), some (.ref t)]) (st' := [.ref (c + 23)]) rfl rfl ?_
  refine go_a (pc' := 2) (ls' := [some (.ref (c + 23)), some (.ref t)]) (st' := [.ref (c + 23), .ref (c + 23)]) rfl rfl ?_
  refine go_get (v := .int (iI (s.I 30))) rfl (hK.1 14 (by decide)) rfl rfl ?_
  refine go_a (pc' := 6) (ls' := [some (.ref (c + 23)), some (.ref t)]) (st' := [.int (iI 1), .int (iI (s.I 30)), .ref (c + 23)]) rfl rfl ?_
  refine mi_add rfl ?_
  refine kput_30 (x := (s.I 30) + 1) hK hX rfl rfl (fun hp2 hK hX => ?_)
  refine go_a (pc' := 11) (ls' := [some (.ref (c + 23)), some (.ref t)]) (st' := [.ref (c + 23)]) rfl rfl ?_
  refine go_a (pc' := 12) (ls' := [some (.ref (c + 23)), some (.ref t)]) (st' := [.ref t, .ref (c + 23)]) rfl rfl ?_
  refine go_a (pc' := 13) (ls' := [some (.ref (c + 23)), some (.ref t)]) (st' := [.ref (c + 23), .ref t, .ref (c + 23)]) rfl rfl ?_
  refine go_get (v := .ref (s.P 14)) rfl (hK.1 14 (by decide)) rfl rfl ?_
  refine go_a (pc' := 17) (ls' := [some (.ref (c + 23)), some (.ref t)]) (st' := [.ref (c + 23), .ref (s.P 14), .ref t, .ref (c + 23)]) rfl rfl ?_
  refine go_get (v := .int (iI (s.I 27))) rfl (hK.1 14 (by decide)) rfl rfl ?_
  have et := hX.2.1 t (List.getElem?_eq_some_iff.mp ht).1 kt0
  refine go_v (m := 237) (as := [.ref (c + 23), .ref t, .ref (s.P 14), .int (iI (s.I 27))]) (r := []) rfl rfl rfl (hK.1 14 (by decide)) rfl rfl (kl_put_14 z d c t fs hp s hp2 (s.wI 30 (s.I 30 + 1)) hK (KB_wF hB (by omega) (by omega) (by decide)) (OC_kx hO hX) (TLS_kx hT hX (fun _ _ _ => rfl)) hX (LFR_wI (Or.inr rfl)) rfl rfl rfl hP0 hl (et.2.trans ht) et.1) (fun v h3 hq => ?_)
  obtain ⟨rfl, s1, q⟩ := hq
  show xx_go (xt_P z) (d + 4) 236 23 [some (.ref (c + 23)), some (.ref t)] [] h3 _
  refine go_a (pc' := 24) (ls' := [some (.ref (c + 23)), some (.ref t)]) (st' := [.int (iI 1)]) rfl rfl ?_
  exact go_r rfl rfl rfl rfl rfl rfl ⟨rfl, s1, q⟩
theorem kl_remove_14 (z : Value) (d c t : Nat) (hp : xx_H) (s : KS) (hK : KI c hp s) (hB : KB s) (hO : OC hp) (h1 : 1 ≤ s.I 27) (hm : 0 ≤ s.I 30 ∧ s.I 30 ≤ 1000000) (ht : s.T 14 (s.I 27 - 1) = some t) : xx_cl (xt_P z) (d + 3) 306 [.ref (c + 23), .int (iI (s.I 27 - 1))] hp (fun v h1 => v = some (.ref t) ∧ ∃ s1 : KS, KI c h1 s1 ∧ KB s1 ∧ kx c hp s h1 s1 0 0 ∧ LFR 14 27 30 s s1 ∧ s1.I 27 = s.I 27 - 1 ∧ s1.I 30 = s.I 30 + 1 ∧ s1.C 14 = s.C 14 ∧ s1.P 14 = s.P 14 ∧ ∀ e : Int, 0 ≤ e → e < s.I 27 - 1 → s1.T 14 e = s.T 14 e) := by
  have b7 := hB.2.2.2.2.2.2.2.1
  have p12 := kl_p12_14 hK hO (by omega)
  have hX := kx_rf (c := c) (hp := hp) (s := s)
  have fr : xx_cl (xt_P z) (d + 2) 307 [.ref (c + 23), .ref (s.P 14), .int (iI (s.I 27 - 1))] hp (fun v h1 => v = none ∧ ∃ s1 : KS, KI c h1 s1 ∧ KB s1 ∧ kx c hp s h1 s1 0 0 ∧ LFR 14 27 30 s s1 ∧ s1.I 27 = s.I 27 - 1 ∧ s1.I 30 = s.I 30 + 1 ∧ s1.C 14 = s.C 14 ∧ s1.P 14 = s.P 14 ∧ ∀ e : Int, 0 ≤ e → e < s.I 27 - 1 → s1.T 14 e = s.T 14 e) := by
    refine cl_go rfl ?_
    show xx_go (xt_P z) (d + 1) 307 0 [some (.ref (c + 23)), some (.ref (s.P 14)), some (.int (iI (s.I 27 - 1))), none] [] hp _
    refine go_a (pc' := 1) (ls' := [some (.ref (c + 23)), some (.ref (s.P 14)), some (.int (iI (s.I 27 - 1))), none]) (st' := [.ref (c + 23)]) rfl rfl ?_
    refine go_a (pc' := 2) (ls' := [some (.ref (c + 23)), some (.ref (s.P 14)), some (.int (iI (s.I 27 - 1))), none]) (st' := [.ref (c + 23), .ref (c + 23)]) rfl rfl ?_
    refine go_get (v := .int (iI (s.I 30))) rfl (hK.1 14 (by decide)) rfl rfl ?_
    refine go_a (pc' := 6) (ls' := [some (.ref (c + 23)), some (.ref (s.P 14)), some (.int (iI (s.I 27 - 1))), none]) (st' := [.int (iI 1), .int (iI (s.I 30)), .ref (c + 23)]) rfl rfl ?_
    refine mi_add rfl ?_
    refine kput_30 (x := (s.I 30) + 1) hK hX rfl rfl (fun hp2 hK hX => ?_)
    refine go_a (pc' := 11) (ls' := [some (.ref (c + 23)), some (.ref (s.P 14)), some (.int (iI (s.I 27 - 1))), none]) (st' := [.ref (c + 23)]) rfl rfl ?_
    refine go_get (v := .int (iI (s.I 27))) rfl (hK.1 14 (by decide)) rfl rfl ?_
    refine go_a (pc' := 15) (ls' := [some (.ref (c + 23)), some (.ref (s.P 14)), some (.int (iI (s.I 27 - 1))), none]) (st' := [.int (iI 1), .int (iI (s.I 27))]) rfl rfl ?_
    refine mi_sub rfl ?_
    refine go_a (pc' := 17) (ls' := [some (.ref (c + 23)), some (.ref (s.P 14)), some (.int (iI (s.I 27 - 1))), none]) (st' := [.int (iI ((s.I 27) - 1)), .int (iI ((s.I 27) - 1))]) rfl rfl ?_
    refine go_a (pc' := 18) (ls' := [some (.ref (c + 23)), some (.ref (s.P 14)), some (.int (iI (s.I 27 - 1))), some (.int (iI ((s.I 27) - 1)))]) (st' := [.int (iI ((s.I 27) - 1))]) rfl rfl ?_
    refine go_a (pc' := 19) (ls' := [some (.ref (c + 23)), some (.ref (s.P 14)), some (.int (iI (s.I 27 - 1))), some (.int (iI ((s.I 27) - 1)))]) (st' := [.int (iI (s.I 27 - 1)), .int (iI ((s.I 27) - 1))]) rfl rfl ?_
    refine mi_le (t := 34) rfl rfl (by omega) (by omega) (by omega) (by omega) (fun _ => ?_) (fun w => absurd (Int.le_refl _) w)
    refine go_a (pc' := 35) (ls' := [some (.ref (c + 23)), some (.ref (s.P 14)), some (.int (iI (s.I 27 - 1))), some (.int (iI ((s.I 27) - 1)))]) (st' := [.ref (s.P 14)]) rfl rfl ?_
    refine go_a (pc' := 36) (ls' := [some (.ref (c + 23)), some (.ref (s.P 14)), some (.int (iI (s.I 27 - 1))), some (.int (iI ((s.I 27) - 1)))]) (st' := [.ref (c + 23), .ref (s.P 14)]) rfl rfl ?_
    refine go_a (pc' := 37) (ls' := [some (.ref (c + 23)), some (.ref (s.P 14)), some (.int (iI (s.I 27 - 1))), some (.int (iI ((s.I 27) - 1)))]) (st' := [.int (iI ((s.I 27) - 1)), .ref (c + 23), .ref (s.P 14)]) rfl rfl ?_
    refine go_a (pc' := 38) (ls' := [some (.ref (c + 23)), some (.ref (s.P 14)), some (.int (iI (s.I 27 - 1))), some (.int (iI ((s.I 27) - 1)))]) (st' := [.int (iI ((s.I 27) - 1)), .ref (c + 23), .int (iI ((s.I 27) - 1)), .ref (s.P 14)]) rfl rfl ?_
    refine kput_27 (x := (s.I 27) - 1) hK hX rfl rfl (fun hp2 hK hX => ?_)
    refine go_a (pc' := 42) (ls' := [some (.ref (c + 23)), some (.ref (s.P 14)), some (.int (iI (s.I 27 - 1))), some (.int (iI ((s.I 27) - 1)))]) (st' := [.null, .int (iI ((s.I 27) - 1)), .ref (s.P 14)]) rfl rfl ?_
    have p12b : 12 ≤ ((s.wI 30 (s.I 30 + 1)).wI 27 (s.I 27 - 1)).P 14 := p12
    refine mk_astN rfl (hK.1 33 (by decide)) p12 (show 0 ≤ s.I 27 - 1 by omega) (show s.I 27 - 1 < ((s.C 14).toNat : Int) by omega) (show (s.C 14).toNat ≤ 1000000 by omega) ?_
    obtain ⟨K1, X1⟩ := ki_wT_14 hK p12b (so (s.T 14) (s.I 27 - 1) none)
    refine go_r rfl rfl rfl rfl rfl rfl ⟨rfl, _, K1, ?_, kx_w (kx_tr hX X1) (by decide) (by decide), LFR_tr (LFR_wI (Or.inr rfl)) (LFR_tr (LFR_wI (Or.inl rfl)) LFR_wT), rfl, rfl, rfl, rfl, fun e e0 e1 => so_ne (by omega)⟩
    exact KB_sz_14 (s := s.wI 30 (s.I 30 + 1)) (KB_wF hB (by omega) (by omega) (by decide)) (by omega) (show _ ≤ s.C 14 by omega)
  refine cl_go rfl ?_
  show xx_go (xt_P z) (d + 2) 306 0 [some (.ref (c + 23)), some (.int (iI (s.I 27 - 1))), none, none] [] hp _
  refine go_a (pc' := 1) (ls' := [some (.ref (c + 23)), some (.int (iI (s.I 27 - 1))), none, none]) (st' := [.int (iI (s.I 27 - 1))]) rfl rfl ?_
  refine go_a (pc' := 2) (ls' := [some (.ref (c + 23)), some (.int (iI (s.I 27 - 1))), none, none]) (st' := [.ref (c + 23), .int (iI (s.I 27 - 1))]) rfl rfl ?_
  refine go_get (v := .int (iI (s.I 27))) rfl (hK.1 14 (by decide)) rfl rfl ?_
  refine go_s (m := 218) (as := [.int (iI (s.I 27 - 1)), .int (iI (s.I 27))]) (r := []) rfl rfl rfl rfl (kl_checkIndex z d (s.I 27 - 1) (s.I 27) hp (by omega) (by omega) (by omega)) (fun v h3 hq => ?_)
  obtain ⟨rfl, e⟩ := hq
  rw [e]
  clear e h3
  show xx_go (xt_P z) (d + 2) 306 8 [some (.ref (c + 23)), some (.int (iI (s.I 27 - 1))), none, none] [.int (iI (s.I 27 - 1))] hp _
  refine go_a (pc' := 9) (ls' := [some (.ref (c + 23)), some (.int (iI (s.I 27 - 1))), none, none]) (st' := []) rfl rfl ?_
  refine go_a (pc' := 10) (ls' := [some (.ref (c + 23)), some (.int (iI (s.I 27 - 1))), none, none]) (st' := [.ref (c + 23)]) rfl rfl ?_
  refine go_get (v := .ref (s.P 14)) rfl (hK.1 14 (by decide)) rfl rfl ?_
  refine go_a (pc' := 14) (ls' := [some (.ref (c + 23)), some (.int (iI (s.I 27 - 1))), some (.ref (s.P 14)), none]) (st' := []) rfl rfl ?_
  refine go_a (pc' := 15) (ls' := [some (.ref (c + 23)), some (.int (iI (s.I 27 - 1))), some (.ref (s.P 14)), none]) (st' := [.ref (s.P 14)]) rfl rfl ?_
  refine go_a (pc' := 16) (ls' := [some (.ref (c + 23)), some (.int (iI (s.I 27 - 1))), some (.ref (s.P 14)), none]) (st' := [.int (iI (s.I 27 - 1)), .ref (s.P 14)]) rfl rfl ?_
  refine mk_ald rfl (hK.1 33 (by decide)) rfl (by omega) (by omega) (by omega) ?_
  rw [ht]
  show xx_go (xt_P z) (d + 2) 306 17 [some (.ref (c + 23)), some (.int (iI (s.I 27 - 1))), some (.ref (s.P 14)), none] [.ref t] hp _
  refine go_a (pc' := 18) (ls' := [some (.ref (c + 23)), some (.int (iI (s.I 27 - 1))), some (.ref (s.P 14)), some (.ref t)]) (st' := []) rfl rfl ?_
  refine go_a (pc' := 19) (ls' := [some (.ref (c + 23)), some (.int (iI (s.I 27 - 1))), some (.ref (s.P 14)), some (.ref t)]) (st' := [.ref (c + 23)]) rfl rfl ?_
  refine go_a (pc' := 20) (ls' := [some (.ref (c + 23)), some (.int (iI (s.I 27 - 1))), some (.ref (s.P 14)), some (.ref t)]) (st' := [.ref (s.P 14), .ref (c + 23)]) rfl rfl ?_
  refine go_a (pc' := 21) (ls' := [some (.ref (c + 23)), some (.int (iI (s.I 27 - 1))), some (.ref (s.P 14)), some (.ref t)]) (st' := [.int (iI (s.I 27 - 1)), .ref (s.P 14), .ref (c + 23)]) rfl rfl ?_
  refine go_v (m := 307) (as := [.ref (c + 23), .ref (s.P 14), .int (iI (s.I 27 - 1))]) (r := []) rfl rfl rfl (hK.1 14 (by decide)) rfl rfl fr (fun v h3 hq => ?_)
  obtain ⟨rfl, s1, q⟩ := hq
  show xx_go (xt_P z) (d + 2) 306 24 [some (.ref (c + 23)), some (.int (iI (s.I 27 - 1))), some (.ref (s.P 14)), some (.ref t)] [] h3 _
  refine go_a (pc' := 25) (ls' := [some (.ref (c + 23)), some (.int (iI (s.I 27 - 1))), some (.ref (s.P 14)), some (.ref t)]) (st' := [.ref t]) rfl rfl ?_
  exact go_r rfl rfl rfl rfl rfl rfl ⟨rfl, s1, q⟩
theorem ki_wT_15 {c : Nat} {hp : xx_H} {s : KS} (hK : KI c hp s) (h12 : 12 ≤ s.P 15) (f : Int → Option Nat) : KI c (hp.set (s.P 15) (.inl ((.object "java/lang/Object"), xa_r (s.C 15).toNat f))) (s.wT 15 f) ∧ kx c hp s (hp.set (s.P 15) (.inl ((.object "java/lang/Object"), xa_r (s.C 15).toNat f))) (s.wT 15 f) 0 0 := by
  refine ki_set (i := 34) (s1 := s.wT 15 f) hK (by decide) h12 rfl rfl rfl (fun j hj w => match j, hj, w with
    | 0, _, _ => rfl
    | 1, _, _ => rfl
    | 2, _, _ => rfl
    | 3, _, _ => rfl
    | 4, _, _ => rfl
    | 5, _, _ => rfl
    | 6, _, _ => rfl
    | 7, _, _ => rfl
    | 8, _, _ => rfl
    | 9, _, _ => rfl
    | 10, _, _ => rfl
    | 11, _, _ => rfl
    | 12, _, _ => rfl
    | 13, _, _ => rfl
    | 14, _, _ => rfl
    | 15, _, _ => rfl
    | 16, _, _ => rfl
    | 17, _, _ => rfl
    | 18, _, _ => rfl
    | 19, _, _ => rfl
    | 20, _, _ => rfl
    | 21, _, _ => rfl
    | 22, _, _ => rfl
    | 23, _, _ => rfl
    | 24, _, _ => rfl
    | 25, _, _ => rfl
    | 26, _, _ => rfl
    | 27, _, _ => rfl
    | 28, _, _ => rfl
    | 29, _, _ => rfl
    | 30, _, _ => rfl
    | 31, _, _ => rfl
    | 32, _, _ => rfl
    | 33, _, _ => rfl
    | 34, _, w => absurd rfl w
    | j + 35, q, _ => absurd q (by omega)) ?_
  show ((xa_r (s.C 15).toNat f).length : Nat) = (xa_r (s.C 15).toNat (s.T 15)).length
  rw [xa_r_len, xa_r_len]
theorem ki_wL_15 {c : Nat} {hp : xx_H} {s : KS} (hK : KI c hp s) (m : Int) (f : Int → Option Nat) (m0 : 0 ≤ m) (h1 : s.C 15 + 1 ≤ m) (h2 : 3 * s.C 15 ≤ 2 * m + 1) : KI c ((hp ++ [(.inl ((.object "java/lang/Object"), xa_r m.toNat f) : xx_E)]).set (c + 24) (.inr (4, [.ref hp.length, .int (iI (s.I 28)), .int (iI (s.I 31))]))) (s.wL 15 m f hp.length) ∧ kx c hp s ((hp ++ [(.inl ((.object "java/lang/Object"), xa_r m.toNat f) : xx_E)]).set (c + 24) (.inr (4, [.ref hp.length, .int (iI (s.I 28)), .int (iI (s.I 31))]))) (s.wL 15 m f hp.length) 1 1 := by
  have q := ki_grow (i := 34) (i0 := 15) (e := .inl ((.object "java/lang/Object"), xa_r m.toNat f)) (s1 := s.wL 15 m f hp.length) hK (by decide) (by decide) (by decide) (hK.2.1 15 (by decide)) (fun j hj n0 => match j, hj, n0 with
    | 0, _, _ => rfl
    | 1, _, _ => rfl
    | 2, _, _ => rfl
    | 3, _, _ => rfl
    | 4, _, _ => rfl
    | 5, _, _ => rfl
    | 6, _, _ => rfl
    | 7, _, _ => rfl
    | 8, _, _ => rfl
    | 9, _, _ => rfl
    | 10, _, _ => rfl
    | 11, _, _ => rfl
    | 12, _, _ => rfl
    | 13, _, _ => rfl
    | 14, _, _ => rfl
    | 15, _, _ => rfl
    | 16, _, _ => rfl
    | 17, _, _ => rfl
    | 18, _, _ => rfl
    | 19, _, _ => rfl
    | 20, _, _ => rfl
    | 21, _, _ => rfl
    | 22, _, _ => rfl
    | 23, _, _ => rfl
    | 24, _, _ => rfl
    | 25, _, _ => rfl
    | 26, _, _ => rfl
    | 27, _, _ => rfl
    | 28, _, _ => rfl
    | 29, _, _ => rfl
    | 30, _, _ => rfl
    | 31, _, _ => rfl
    | 32, _, _ => rfl
    | 33, _, _ => rfl
    | 34, _, w => absurd rfl w
    | j + 35, q, _ => absurd q (by omega)) rfl rfl rfl (fun j hj n0 n1 => match j, hj, n0, n1 with
    | 0, _, _, _ => rfl
    | 1, _, _, _ => rfl
    | 2, _, _, _ => rfl
    | 3, _, _, _ => rfl
    | 4, _, _, _ => rfl
    | 5, _, _, _ => rfl
    | 6, _, _, _ => rfl
    | 7, _, _, _ => rfl
    | 8, _, _, _ => rfl
    | 9, _, _, _ => rfl
    | 10, _, _, _ => rfl
    | 11, _, _, _ => rfl
    | 12, _, _, _ => rfl
    | 13, _, _, _ => rfl
    | 14, _, _, _ => rfl
    | 15, _, _, w => absurd rfl w
    | 16, _, _, _ => rfl
    | 17, _, _, _ => rfl
    | 18, _, _, _ => rfl
    | 19, _, _, _ => rfl
    | 20, _, _, _ => rfl
    | 21, _, _, _ => rfl
    | 22, _, _, _ => rfl
    | 23, _, _, _ => rfl
    | 24, _, _, _ => rfl
    | 25, _, _, _ => rfl
    | 26, _, _, _ => rfl
    | 27, _, _, _ => rfl
    | 28, _, _, _ => rfl
    | 29, _, _, _ => rfl
    | 30, _, _, _ => rfl
    | 31, _, _, _ => rfl
    | 32, _, _, _ => rfl
    | 33, _, _, _ => rfl
    | 34, _, w, _ => absurd rfl w
    | j + 35, q, _, _ => absurd q (by omega)) rfl
  have ek : kt (s.wL 15 m f hp.length) = kt s - s.C 15 + m := by
    show su s.C 15 m 0 + su s.C 15 m 1 + su s.C 15 m 2 + su s.C 15 m 3 + su s.C 15 m 4 + su s.C 15 m 5 + su s.C 15 m 6 + su s.C 15 m 7 + su s.C 15 m 8 + su s.C 15 m 9 + su s.C 15 m 10 + su s.C 15 m 13 + su s.C 15 m 14 + su s.C 15 m 15 = _
    show s.C 0 + s.C 1 + s.C 2 + s.C 3 + s.C 4 + s.C 5 + s.C 6 + s.C 7 + s.C 8 + s.C 9 + s.C 10 + s.C 13 + s.C 14 + m = (s.C 0 + s.C 1 + s.C 2 + s.C 3 + s.C 4 + s.C 5 + s.C 6 + s.C 7 + s.C 8 + s.C 9 + s.C 10 + s.C 13 + s.C 14 + s.C 15) - s.C 15 + m
    omega
  have ez : (xx_sz1 (.inl ((.object "java/lang/Object"), xa_r m.toNat f)) : Int) = m := by
    show (((xa_r m.toNat f).length : Nat) : Int) = m
    rw [xa_r_len]
    omega
  exact ⟨q.1, q.2 1 1 (by omega) (by rw [ez]; omega)⟩
theorem KB_wL_15 {s : KS} {m : Int} {f : Int → Option Nat} {q : Nat} (hB : KB s) (h1 : s.C 15 ≤ m) (h2 : m ≤ 1000) : KB (s.wL 15 m f q) := by
  obtain ⟨a1, a2, a3, a4, a5, a6, a7, a8, a9⟩ := hB
  refine ⟨a1, a2, a3, fun i hi => ?_, a5, a6, ?_, ?_, ?_⟩
  · show 20 ≤ su s.C 15 m i ∧ su s.C 15 m i ≤ 8192 ∧ 0 ≤ s.I i ∧ s.I i ≤ su s.C 15 m i
    rw [su_ne (by omega)]
    exact a4 i hi
  · exact a7
  · exact a8
  · show 0 ≤ s.I 28 ∧ s.I 28 ≤ m ∧ m ≤ 1000
    omega
theorem kl_p12_15 {c : Nat} {hp : xx_H} {s : KS} (hK : KI c hp s) (hO : OC hp) (h : 1 ≤ s.C 15) : 12 ≤ s.P 15 := by
  rcases hK.2.2.2 34 (by decide) (by decide) with q | q
  · exact q
  · have e := hK.1 34 (by decide)
    rw [q, hO.2.2.2] at e
    have e2 : ([] : List Value) = xa_r (s.C 15).toNat (s.T 15) := by
      simpa [kc] using e
    have e3 := congrArg List.length e2
    rw [xa_r_len] at e3
    simp at e3
    omega
theorem KB_sz_15 {s : KS} {x : Int} (hB : KB s) (h0 : 0 ≤ x) (h1 : x ≤ s.C 15) : KB (s.wI 28 x) := by
  obtain ⟨a1, a2, a3, a4, a5, a6, a7, a8, a9⟩ := hB
  refine ⟨a1, fun i => ?_, a3, fun i hi => ?_, a5, ?_, ?_, ?_, ?_⟩
  · show -2147483648 ≤ su s.I 28 x i ∧ su s.I 28 x i ≤ 2147483647
    rcases su_or s.I 28 i x with e | ⟨-, e⟩
    · rw [e]
      exact a2 i
    · rw [e]
      omega
  · show 20 ≤ s.C i ∧ s.C i ≤ 8192 ∧ 0 ≤ su s.I 28 x i ∧ su s.I 28 x i ≤ s.C i
    rw [su_ne (by omega)]
    exact a4 i hi
  · exact a6
  · exact a7
  · exact a8
  · show 0 ≤ x ∧ x ≤ s.C 15 ∧ s.C 15 ≤ 1000
    omega
theorem kl_size_15 (z : Value) (d c : Nat) (hp : xx_H) (s : KS) (hK : KI c hp s) : xx_cl (xt_P z) (d + 1) 47 [.ref (c + 24)] hp (fun v h1 => v = some (.int (iI (s.I 28))) ∧ h1 = hp) := by
  refine cl_go rfl ?_
  show xx_go (xt_P z) d 47 0 [some (.ref (c + 24))] [] hp _
  refine go_a (pc' := 1) (ls' := [some (.ref (c + 24))]) (st' := [.ref (c + 24)]) rfl rfl ?_
  refine go_get (v := .int (iI (s.I 28))) rfl (hK.1 15 (by decide)) rfl rfl ?_
  exact go_r rfl rfl rfl rfl rfl rfl ⟨rfl, rfl⟩
theorem kl_isEmpty_15 (z : Value) (d c : Nat) (hp : xx_H) (s : KS) (hK : KI c hp s) (hB : KB s) : xx_cl (xt_P z) (d + 1) 305 [.ref (c + 24)] hp (fun v h1 => ((s.I 28 = 0 ∧ v = some (.int (iI 1))) ∨ (0 < s.I 28 ∧ v = some (.int (iI 0)))) ∧ h1 = hp) := by
  have b7 := hB.2.2.2.2.2.2.2.2
  refine cl_go rfl ?_
  show xx_go (xt_P z) d 305 0 [some (.ref (c + 24))] [] hp _
  refine go_a (pc' := 1) (ls' := [some (.ref (c + 24))]) (st' := [.ref (c + 24)]) rfl rfl ?_
  refine go_get (v := .int (iI (s.I 28))) rfl (hK.1 15 (by decide)) rfl rfl ?_
  refine mi_ne0 (t := 11) rfl rfl (by omega) (by omega) (fun w => ?_) (fun w => ?_)
  · refine go_a (pc' := 12) (ls' := [some (.ref (c + 24))]) (st' := [.int (iI 0)]) rfl rfl ?_
    exact go_r rfl rfl rfl rfl rfl rfl ⟨Or.inr ⟨by omega, rfl⟩, rfl⟩
  · refine go_a (pc' := 8) (ls' := [some (.ref (c + 24))]) (st' := [.int (iI 1)]) rfl rfl ?_
    refine go_a (pc' := 12) (ls' := [some (.ref (c + 24))]) (st' := [.int (iI 1)]) rfl rfl ?_
    exact go_r rfl rfl rfl rfl rfl rfl ⟨Or.inl ⟨by omega, rfl⟩, rfl⟩
theorem kl_get_15 (z : Value) (d c : Nat) (k : Int) (hp : xx_H) (s : KS) (hK : KI c hp s) (hB : KB s) (k0 : 0 ≤ k) (k1 : k < s.I 28) (a : Nat) (ha : s.T 15 k = some a) : xx_cl (xt_P z) (d + 3) 217 [.ref (c + 24), .int (iI k)] hp (fun v h1 => v = some (.ref a) ∧ h1 = hp) := by
  have b7 := hB.2.2.2.2.2.2.2.2
  have ed : xx_cl (xt_P z) (d + 2) 219 [.ref (c + 24), .int (iI k)] hp (fun v h1 => v = some (.ref a) ∧ h1 = hp) := by
    refine cl_go rfl ?_
    show xx_go (xt_P z) (d + 1) 219 0 [some (.ref (c + 24)), some (.int (iI k))] [] hp _
    refine go_a (pc' := 1) (ls' := [some (.ref (c + 24)), some (.int (iI k))]) (st' := [.ref (c + 24)]) rfl rfl ?_
    refine go_get (v := .ref (s.P 15)) rfl (hK.1 15 (by decide)) rfl rfl ?_
    refine go_a (pc' := 5) (ls' := [some (.ref (c + 24)), some (.int (iI k))]) (st' := [.int (iI k), .ref (s.P 15)]) rfl rfl ?_
    refine mk_ald rfl (hK.1 34 (by decide)) rfl k0 (by omega) (by omega) ?_
    rw [ha]
    show xx_go (xt_P z) (d + 1) 219 6 [some (.ref (c + 24)), some (.int (iI k))] [.ref a] hp _
    exact go_r rfl rfl rfl rfl rfl rfl ⟨rfl, rfl⟩
  refine cl_go rfl ?_
  show xx_go (xt_P z) (d + 2) 217 0 [some (.ref (c + 24)), some (.int (iI k))] [] hp _
  refine go_a (pc' := 1) (ls' := [some (.ref (c + 24)), some (.int (iI k))]) (st' := [.int (iI k)]) rfl rfl ?_
  refine go_a (pc' := 2) (ls' := [some (.ref (c + 24)), some (.int (iI k))]) (st' := [.ref (c + 24), .int (iI k)]) rfl rfl ?_
  refine go_get (v := .int (iI (s.I 28))) rfl (hK.1 15 (by decide)) rfl rfl ?_
  refine go_s (m := 218) (as := [.int (iI k), .int (iI (s.I 28))]) (r := []) rfl rfl rfl rfl (kl_checkIndex z d k (s.I 28) hp k0 k1 (by omega)) (fun v h3 hq => ?_)
  obtain ⟨rfl, e⟩ := hq
  rw [e]
  clear e h3
  show xx_go (xt_P z) (d + 2) 217 8 [some (.ref (c + 24)), some (.int (iI k))] [.int (iI k)] hp _
  refine go_a (pc' := 9) (ls' := [some (.ref (c + 24)), some (.int (iI k))]) (st' := []) rfl rfl ?_
  refine go_a (pc' := 10) (ls' := [some (.ref (c + 24)), some (.int (iI k))]) (st' := [.ref (c + 24)]) rfl rfl ?_
  refine go_a (pc' := 11) (ls' := [some (.ref (c + 24)), some (.int (iI k))]) (st' := [.int (iI k), .ref (c + 24)]) rfl rfl ?_
  refine go_v (m := 219) (as := [.ref (c + 24), .int (iI k)]) (r := []) rfl rfl rfl (hK.1 15 (by decide)) rfl rfl ed (fun v h3 hq => ?_)
  obtain ⟨rfl, e⟩ := hq
  rw [e]
  clear e h3
  show xx_go (xt_P z) (d + 2) 217 14 [some (.ref (c + 24)), some (.int (iI k))] [.ref a] hp _
  exact go_r rfl rfl rfl rfl rfl rfl ⟨rfl, rfl⟩
theorem kl_grow1_15 (z : Value) (d c : Nat) (hp : xx_H) (s : KS) (hK : KI c hp s) (hB : KB s) (hO : OC hp) (hT : TLS c hp s 15 (s.I 28)) (hP0 : s.C 15 = 0 → ¬ 12 ≤ s.P 15) (hs : s.I 28 = s.C 15) (hl : s.I 28 ≤ 200) : xx_cl (xt_P z) (d + 2) 239 [.ref (c + 24), .int (iI (s.I 28 + 1))] hp (fun v h1 => ∃ s1 : KS, v = some (.ref (s1.P 15)) ∧ KI c h1 s1 ∧ KB s1 ∧ kx c hp s h1 s1 1 1 ∧ LFR 15 28 31 s s1 ∧ s1.I = s.I ∧ s.C 15 + 1 ≤ s1.C 15 ∧ ∀ e : Int, 0 ≤ e → e < s.C 15 → s1.T 15 e = s.T 15 e) := by
  have b7 := hB.2.2.2.2.2.2.2.2
  refine cl_go rfl ?_
  show xx_go (xt_P z) (d + 1) 239 0 [some (.ref (c + 24)), some (.int (iI (s.I 28 + 1))), none, none] [] hp _
  refine go_a (pc' := 1) (ls' := [some (.ref (c + 24)), some (.int (iI (s.I 28 + 1))), none, none]) (st' := [.ref (c + 24)]) rfl rfl ?_
  refine go_get (v := .ref (s.P 15)) rfl (hK.1 15 (by decide)) rfl rfl ?_
  refine mk_len (n := s.C 15) rfl (hK.1 34 (by decide)) (xa_r_len _ _) (by omega) (by omega) ?_
  refine go_a (pc' := 6) (ls' := [some (.ref (c + 24)), some (.int (iI (s.I 28 + 1))), some (.int (iI (s.C 15))), none]) (st' := []) rfl rfl ?_
  refine go_a (pc' := 7) (ls' := [some (.ref (c + 24)), some (.int (iI (s.I 28 + 1))), some (.int (iI (s.C 15))), none]) (st' := [.int (iI (s.C 15))]) rfl rfl ?_
  refine mi_gt0 (t := 20) rfl rfl (by omega) (by omega) (fun w => ?_) (fun w => ?_)
  · refine go_a (pc' := 21) (ls' := [some (.ref (c + 24)), some (.int (iI (s.I 28 + 1))), some (.int (iI (s.C 15))), none]) (st' := [.int (iI (s.C 15))]) rfl rfl ?_
    refine go_a (pc' := 22) (ls' := [some (.ref (c + 24)), some (.int (iI (s.I 28 + 1))), some (.int (iI (s.C 15))), none]) (st' := [.int (iI (s.I 28 + 1)), .int (iI (s.C 15))]) rfl rfl ?_
    refine go_a (pc' := 23) (ls' := [some (.ref (c + 24)), some (.int (iI (s.I 28 + 1))), some (.int (iI (s.C 15))), none]) (st' := [.int (iI (s.C 15)), .int (iI (s.I 28 + 1)), .int (iI (s.C 15))]) rfl rfl ?_
    refine mi_sub rfl ?_
    refine go_a (pc' := 25) (ls' := [some (.ref (c + 24)), some (.int (iI (s.I 28 + 1))), some (.int (iI (s.C 15))), none]) (st' := [.int (iI (s.C 15)), .int (iI ((s.I 28 + 1) - (s.C 15))), .int (iI (s.C 15))]) rfl rfl ?_
    refine go_a (pc' := 26) (ls' := [some (.ref (c + 24)), some (.int (iI (s.I 28 + 1))), some (.int (iI (s.C 15))), none]) (st' := [.int (iI 1), .int (iI (s.C 15)), .int (iI ((s.I 28 + 1) - (s.C 15))), .int (iI (s.C 15))]) rfl rfl ?_
    refine go_a (pc' := 27) (ls' := [some (.ref (c + 24)), some (.int (iI (s.I 28 + 1))), some (.int (iI (s.C 15))), none]) (st' := [.int (iI (s.C 15 / 2)), .int (iI ((s.I 28 + 1) - (s.C 15))), .int (iI (s.C 15))]) rfl (by rw [show iI (s.C 15 / 2) = iI (s.C 15) >>> (iI 1 &&& 31) from (shr_i (by omega) (by omega) (iI 1) 1 (by decide) (by decide)).symm]; rfl) ?_
    refine go_s (m := 240) (as := [.int (iI (s.C 15)), .int (iI ((s.I 28 + 1) - (s.C 15))), .int (iI (s.C 15 / 2))]) (r := []) rfl rfl rfl rfl (kl_newLength z d (s.C 15) (s.I 28 + 1 - s.C 15) (s.C 15 / 2) hp (by omega) (by omega) (by omega) (by omega) (by omega) (by omega)) (fun v h3 hq => ?_)
    obtain ⟨rfl, e⟩ := hq
    rw [e]
    clear e h3
    show xx_go (xt_P z) (d + 1) 239 30 [some (.ref (c + 24)), some (.int (iI (s.I 28 + 1))), some (.int (iI (s.C 15))), none] [.int (iI (s.C 15 + if s.I 28 + 1 - s.C 15 < s.C 15 / 2 then s.C 15 / 2 else s.I 28 + 1 - s.C 15))] hp _
    have eM : ∃ M : Int, (s.C 15 + if s.I 28 + 1 - s.C 15 < s.C 15 / 2 then s.C 15 / 2 else s.I 28 + 1 - s.C 15) = M ∧ s.C 15 + 1 ≤ M ∧ 3 * s.C 15 ≤ 2 * M + 1 ∧ M ≤ 1000 := ⟨_, rfl, by split <;> omega, by split <;> omega, by split <;> omega⟩
    obtain ⟨M, eM, M1, M2, M3⟩ := eM
    rw [eM]
    show xx_go (xt_P z) (d + 1) 239 30 [some (.ref (c + 24)), some (.int (iI (s.I 28 + 1))), some (.int (iI (s.C 15))), none] [.int (iI M)] hp _
    refine go_a (pc' := 31) (ls' := [some (.ref (c + 24)), some (.int (iI (s.I 28 + 1))), some (.int (iI (s.C 15))), some (.int (iI M))]) (st' := []) rfl rfl ?_
    refine go_a (pc' := 32) (ls' := [some (.ref (c + 24)), some (.int (iI (s.I 28 + 1))), some (.int (iI (s.C 15))), some (.int (iI M))]) (st' := [.ref (c + 24)]) rfl rfl ?_
    refine go_a (pc' := 33) (ls' := [some (.ref (c + 24)), some (.int (iI (s.I 28 + 1))), some (.int (iI (s.C 15))), some (.int (iI M))]) (st' := [.ref (c + 24), .ref (c + 24)]) rfl rfl ?_
    refine go_get (v := .ref (s.P 15)) rfl (hK.1 15 (by decide)) rfl rfl ?_
    refine go_a (pc' := 37) (ls' := [some (.ref (c + 24)), some (.int (iI (s.I 28 + 1))), some (.int (iI (s.C 15))), some (.int (iI M))]) (st' := [.int (iI M), .ref (s.P 15), .ref (c + 24)]) rfl rfl ?_
    refine go_copyO (m := M.toNat) rfl rfl (hK.1 34 (by decide)) (show 12 ≤ _ from kl_p12_15 hK hO (by omega)) (by rw [hs] at hT; exact TLS_ok z hT) (iI_nn (by omega) (by omega)) (iI_clamp (by omega) (by omega)) (by rw [xa_r_len]; omega) (by omega) rfl ?_
    rw [xa_r_len, xa_r_app (by omega)]
    show xx_go (xt_P z) (d + 1) 239 40 [some (.ref (c + 24)), some (.int (iI (s.I 28 + 1))), some (.int (iI (s.C 15))), some (.int (iI M))] [.ref hp.length, .ref (c + 24)] (hp ++ [.inl ((.object "java/lang/Object"), xa_r M.toNat (fun k => if k < ((s.C 15).toNat : Int) then s.T 15 k else none))]) _
    refine go_a (pc' := 41) (ls' := [some (.ref (c + 24)), some (.int (iI (s.I 28 + 1))), some (.int (iI (s.C 15))), some (.int (iI M))]) (st' := [.ref hp.length, .ref (c + 24), .ref hp.length]) rfl rfl ?_
    refine go_put rfl (app_old (hK.1 15 (by decide))) rfl rfl (hK.2.1 15 (by decide)) (show 0 < 3 by decide) rfl rfl ?_
    obtain ⟨K1, X1⟩ := ki_wL_15 hK (M) (fun k => if k < ((s.C 15).toNat : Int) then s.T 15 k else none) (by omega) (by omega) (by omega)
    exact go_r rfl rfl rfl rfl rfl rfl ⟨s.wL 15 (M) (fun k => if k < ((s.C 15).toNat : Int) then s.T 15 k else none) hp.length, rfl, K1, KB_wL_15 hB (by omega) (by omega), X1, ⟨rfl, rfl, fun i h => ⟨sT_ne h, su_ne h, un_ne h⟩, fun _ _ _ => rfl⟩, rfl, show s.C 15 + 1 ≤ M by omega, fun e e0 e1 => if_pos (show e < ((s.C 15).toNat : Int) by omega)⟩
  · have e0 : s.C 15 = 0 := by omega
    have eP : s.P 15 = 10 := by
      rcases hK.2.2.2 34 (by decide) (by decide) with q | q
      · exact absurd q (hP0 e0)
      · exact q
    refine go_a (pc' := 11) (ls' := [some (.ref (c + 24)), some (.int (iI (s.I 28 + 1))), some (.int (iI (s.C 15))), none]) (st' := [.ref (c + 24)]) rfl rfl ?_
    refine go_get (v := .ref (s.P 15)) rfl (hK.1 15 (by decide)) rfl rfl ?_
    refine go_b (pc' := 17) (st' := [.ref 10, .ref (s.P 15)]) (h' := hp) rfl rfl rfl ?_
    rw [eP]
    refine go_acmp (t := 45) rfl rfl ?_
    show xx_go (xt_P z) (d + 1) 239 45 [some (.ref (c + 24)), some (.int (iI (s.I 28 + 1))), some (.int (iI (s.C 15))), none] [] hp _
    refine go_a (pc' := 46) (ls' := [some (.ref (c + 24)), some (.int (iI (s.I 28 + 1))), some (.int (iI (s.C 15))), none]) (st' := [.ref (c + 24)]) rfl rfl ?_
    refine go_a (pc' := 48) (ls' := [some (.ref (c + 24)), some (.int (iI (s.I 28 + 1))), some (.int (iI (s.C 15))), none]) (st' := [.int (iI 10), .ref (c + 24)]) rfl rfl ?_
    refine go_a (pc' := 49) (ls' := [some (.ref (c + 24)), some (.int (iI (s.I 28 + 1))), some (.int (iI (s.C 15))), none]) (st' := [.int (iI (s.I 28 + 1)), .int (iI 10), .ref (c + 24)]) rfl rfl ?_
    rw [show s.I 28 + 1 = 1 by omega]
    refine go_o (st' := [.int (iI 10), .ref (c + 24)]) (h' := hp) rfl rfl rfl rfl ?_
    refine go_newr (m := 10) rfl rfl (by decide) rfl (by decide) ?_
    rw [rep_r]
    show xx_go (xt_P z) (d + 1) 239 55 [some (.ref (c + 24)), some (.int (iI 1)), some (.int (iI (s.C 15))), none] [.ref hp.length, .ref (c + 24)] (hp ++ [.inl ((.object "java/lang/Object"), xa_r 10 (fun _ => none))]) _
    refine go_a (pc' := 56) (ls' := [some (.ref (c + 24)), some (.int (iI 1)), some (.int (iI (s.C 15))), none]) (st' := [.ref hp.length, .ref (c + 24), .ref hp.length]) rfl rfl ?_
    refine go_put rfl (app_old (hK.1 15 (by decide))) rfl rfl (hK.2.1 15 (by decide)) (show 0 < 3 by decide) rfl rfl ?_
    obtain ⟨K1, X1⟩ := ki_wL_15 hK (10) (fun _ => none) (by omega) (by omega) (by omega)
    exact go_r rfl rfl rfl rfl rfl rfl ⟨s.wL 15 (10) (fun _ => none) hp.length, rfl, K1, KB_wL_15 hB (by omega) (by omega), X1, ⟨rfl, rfl, fun i h => ⟨sT_ne h, su_ne h, un_ne h⟩, fun _ _ _ => rfl⟩, rfl, show s.C 15 + 1 ≤ 10 by omega, fun e e0 e1 => absurd e1 (by omega)⟩
theorem kl_grow_15 (z : Value) (d c : Nat) (hp : xx_H) (s : KS) (hK : KI c hp s) (hB : KB s) (hO : OC hp) (hT : TLS c hp s 15 (s.I 28)) (hP0 : s.C 15 = 0 → ¬ 12 ≤ s.P 15) (hs : s.I 28 = s.C 15) (hl : s.I 28 ≤ 200) : xx_cl (xt_P z) (d + 3) 238 [.ref (c + 24)] hp (fun v h1 => ∃ s1 : KS, v = some (.ref (s1.P 15)) ∧ KI c h1 s1 ∧ KB s1 ∧ kx c hp s h1 s1 1 1 ∧ LFR 15 28 31 s s1 ∧ s1.I = s.I ∧ s.C 15 + 1 ≤ s1.C 15 ∧ ∀ e : Int, 0 ≤ e → e < s.C 15 → s1.T 15 e = s.T 15 e) := by
  refine cl_go rfl ?_
  show xx_go (xt_P z) (d + 2) 238 0 [some (.ref (c + 24))] [] hp _
  refine go_a (pc' := 1) (ls' := [some (.ref (c + 24))]) (st' := [.ref (c + 24)]) rfl rfl ?_
  refine go_a (pc' := 2) (ls' := [some (.ref (c + 24))]) (st' := [.ref (c + 24), .ref (c + 24)]) rfl rfl ?_
  refine go_get (v := .int (iI (s.I 28))) rfl (hK.1 15 (by decide)) rfl rfl ?_
  refine go_a (pc' := 6) (ls' := [some (.ref (c + 24))]) (st' := [.int (iI 1), .int (iI (s.I 28)), .ref (c + 24)]) rfl rfl ?_
  refine mi_add rfl ?_
  refine go_v (m := 239) (as := [.ref (c + 24), .int (iI ((s.I 28) + 1))]) (r := []) rfl rfl rfl (hK.1 15 (by decide)) rfl rfl (kl_grow1_15 z d c hp s hK hB hO hT hP0 hs hl) (fun v h3 hq => ?_)
  obtain ⟨s1, rfl, q⟩ := hq
  show xx_go (xt_P z) (d + 2) 238 10 [some (.ref (c + 24))] [.ref (s1.P 15)] h3 _
  exact go_r rfl rfl rfl rfl rfl rfl ⟨s1, rfl, q⟩
theorem kl_put_15 (z : Value) (d c t : Nat) (fs : List Value) (hp0 : xx_H) (s0 : KS) (hp : xx_H) (s : KS) (hK : KI c hp s) (hB : KB s) (hO : OC hp) (hT : TLS c hp s 15 (s.I 28)) (hX : kx c hp0 s0 hp s 0 0) (hF : LFR 15 28 31 s0 s) (es : s.I 28 = s0.I 28) (em : s.I 31 = s0.I 31 + 1) (eT : s.T 15 = s0.T 15) (hP0 : s.C 15 = 0 → ¬ 12 ≤ s.P 15) (hl : s.I 28 ≤ 200) (ht : hp[t]? = some (.inr (11, fs))) (kt0 : kn c s t) : xx_cl (xt_P z) (d + 4) 237 [.ref (c + 24), .ref t, .ref (s.P 15), .int (iI (s.I 28))] hp (fun v h1 => v = none ∧ ∃ s1 : KS, KI c h1 s1 ∧ KB s1 ∧ kx c hp0 s0 h1 s1 1 1 ∧ LFR 15 28 31 s0 s1 ∧ s1.I 28 = s0.I 28 + 1 ∧ s1.I 31 = s0.I 31 + 1 ∧ 1 ≤ s1.C 15 ∧ (∀ e : Int, 0 ≤ e → e < s0.I 28 → s1.T 15 e = s0.T 15 e) ∧ s1.T 15 (s0.I 28) = some t) := by
  have b7 := hB.2.2.2.2.2.2.2.2
  have tail : ∀ (hp1 : xx_H) (t1 : KS), KI c hp1 t1 → KB t1 → OC hp1 → kx c hp0 s0 hp1 t1 1 1 → LFR 15 28 31 s0 t1 → t1.I 28 = s0.I 28 → t1.I 31 = s0.I 31 + 1 → (∀ e : Int, 0 ≤ e → e < s0.I 28 → t1.T 15 e = s0.T 15 e) → t1.I 28 + 1 ≤ t1.C 15 → hp1[t]? = some (.inr (11, fs)) → xx_go (xt_P z) (d + 3) 237 11 [some (.ref (c + 24)), some (.ref t), some (.ref (t1.P 15)), some (.int (iI (t1.I 28)))] [] hp1 (fun v h1 => v = none ∧ ∃ s1 : KS, KI c h1 s1 ∧ KB s1 ∧ kx c hp0 s0 h1 s1 1 1 ∧ LFR 15 28 31 s0 s1 ∧ s1.I 28 = s0.I 28 + 1 ∧ s1.I 31 = s0.I 31 + 1 ∧ 1 ≤ s1.C 15 ∧ (∀ e : Int, 0 ≤ e → e < s0.I 28 → s1.T 15 e = s0.T 15 e) ∧ s1.T 15 (s0.I 28) = some t) := by
    intro hp1 t1 hK hB hO hX hF es em eT hc ht
    have b7 := hB.2.2.2.2.2.2.2.2
    have p12 := kl_p12_15 hK hO (by omega)
    refine go_a (pc' := 12) (ls' := [some (.ref (c + 24)), some (.ref t), some (.ref (t1.P 15)), some (.int (iI (t1.I 28)))]) (st' := [.ref (t1.P 15)]) rfl rfl ?_
    refine go_a (pc' := 13) (ls' := [some (.ref (c + 24)), some (.ref t), some (.ref (t1.P 15)), some (.int (iI (t1.I 28)))]) (st' := [.int (iI (t1.I 28)), .ref (t1.P 15)]) rfl rfl ?_
    refine go_a (pc' := 14) (ls' := [some (.ref (c + 24)), some (.ref t), some (.ref (t1.P 15)), some (.int (iI (t1.I 28)))]) (st' := [.ref t, .int (iI (t1.I 28)), .ref (t1.P 15)]) rfl rfl ?_
    refine mk_ast rfl (hK.1 34 (by decide)) p12 ht rfl (by omega) (by omega) (by omega) ?_
    obtain ⟨K1, X1⟩ := ki_wT_15 hK p12 (so (t1.T 15) (t1.I 28) (some t))
    show xx_go (xt_P z) (d + 3) 237 15 [some (.ref (c + 24)), some (.ref t), some (.ref (t1.P 15)), some (.int (iI (t1.I 28)))] [] (hp1.set (t1.P 15) (.inl ((.object "java/lang/Object"), xa_r (t1.C 15).toNat (so (t1.T 15) (t1.I 28) (some t))))) _
    generalize hp1.set (t1.P 15) (.inl ((.object "java/lang/Object"), xa_r (t1.C 15).toNat (so (t1.T 15) (t1.I 28) (some t)))) = hp2 at K1 X1 ⊢
    have X2 := kx_tr hX X1
    refine go_a (pc' := 16) (ls' := [some (.ref (c + 24)), some (.ref t), some (.ref (t1.P 15)), some (.int (iI (t1.I 28)))]) (st' := [.ref (c + 24)]) rfl rfl ?_
    refine go_a (pc' := 17) (ls' := [some (.ref (c + 24)), some (.ref t), some (.ref (t1.P 15)), some (.int (iI (t1.I 28)))]) (st' := [.int (iI (t1.I 28)), .ref (c + 24)]) rfl rfl ?_
    refine go_a (pc' := 18) (ls' := [some (.ref (c + 24)), some (.ref t), some (.ref (t1.P 15)), some (.int (iI (t1.I 28)))]) (st' := [.int (iI 1), .int (iI (t1.I 28)), .ref (c + 24)]) rfl rfl ?_
    refine mi_add rfl ?_
    refine kput_28 (x := (t1.I 28) + 1) K1 X2 rfl rfl (fun hp hK hX => ?_)
    refine go_r rfl rfl rfl rfl rfl rfl ⟨rfl, _, hK, KB_sz_15 (s := (t1.wT 15 (so (t1.T 15) (t1.I 28) (some t)))) hB (by omega) (show _ ≤ t1.C 15 by omega), kx_w hX (by decide) (by decide), LFR_tr hF (LFR_tr LFR_wT (LFR_wI (Or.inl rfl))), ?_, em, show 1 ≤ t1.C 15 by omega, fun e e0 e1 => ?_, ?_⟩
    · show t1.I 28 + 1 = _
      omega
    · show so (t1.T 15) (t1.I 28) (some t) e = _
      rw [so_ne (by omega)]
      exact eT e e0 e1
    · show so (t1.T 15) (t1.I 28) (some t) _ = _
      rw [← es]
      exact so_self
  refine cl_go rfl ?_
  show xx_go (xt_P z) (d + 3) 237 0 [some (.ref (c + 24)), some (.ref t), some (.ref (s.P 15)), some (.int (iI (s.I 28)))] [] hp _
  refine go_a (pc' := 1) (ls' := [some (.ref (c + 24)), some (.ref t), some (.ref (s.P 15)), some (.int (iI (s.I 28)))]) (st' := [.int (iI (s.I 28))]) rfl rfl ?_
  refine go_a (pc' := 2) (ls' := [some (.ref (c + 24)), some (.ref t), some (.ref (s.P 15)), some (.int (iI (s.I 28)))]) (st' := [.ref (s.P 15), .int (iI (s.I 28))]) rfl rfl ?_
  refine mk_len (n := s.C 15) rfl (hK.1 34 (by decide)) (xa_r_len _ _) (by omega) (by omega) ?_
  refine mi_ne (t := 11) rfl rfl (by omega) (by omega) (by omega) (by omega) (fun w => tail hp s hK hB hO (kx_w hX (by decide) (by decide)) hF es em (fun e _ _ => by rw [eT]) (by omega) ht) (fun w => ?_)
  refine go_a (pc' := 7) (ls' := [some (.ref (c + 24)), some (.ref t), some (.ref (s.P 15)), some (.int (iI (s.I 28)))]) (st' := [.ref (c + 24)]) rfl rfl ?_
  refine go_v (m := 238) (as := [.ref (c + 24)]) (r := []) rfl rfl rfl (hK.1 15 (by decide)) rfl rfl (kl_grow_15 z d c hp s hK hB hO hT hP0 (by omega) hl) (fun v h3 hq => ?_)
  obtain ⟨s1, rfl, K1, B1, X1, F1, e1, e2, e3⟩ := hq
  have et := X1.2.1 t (List.getElem?_eq_some_iff.mp ht).1 kt0
  show xx_go (xt_P z) (d + 3) 237 10 [some (.ref (c + 24)), some (.ref t), some (.ref (s.P 15)), some (.int (iI (s.I 28)))] [.ref (s1.P 15)] h3 _
  refine go_a (pc' := 11) (ls' := [some (.ref (c + 24)), some (.ref t), some (.ref (s1.P 15)), some (.int (iI (s.I 28)))]) (st' := []) rfl rfl ?_
  rw [show s.I 28 = s1.I 28 by rw [e1]]
  exact tail h3 s1 K1 B1 (OC_kx hO X1) (kx_w (kx_tr hX X1) (by decide) (by decide)) (LFR_tr hF F1) (by rw [e1]; exact es) (by rw [e1]; exact em) (fun e e0 e9 => by rw [e3 e e0 (by omega), eT]) (by rw [e1]; omega) (et.2.trans ht)
theorem kl_add_15 (z : Value) (d c t : Nat) (fs : List Value) (hp : xx_H) (s : KS) (hK : KI c hp s) (hB : KB s) (hO : OC hp) (hT : TLS c hp s 15 (s.I 28)) (hP0 : s.C 15 = 0 → ¬ 12 ≤ s.P 15) (hl : s.I 28 ≤ 200) (hm : 0 ≤ s.I 31 ∧ s.I 31 ≤ 1000000) (ht : hp[t]? = some (.inr (11, fs))) (kt0 : kn c s t) : xx_cl (xt_P z) (d + 5) 236 [.ref (c + 24), .ref t] hp (fun v h1 => v = some (.int (iI 1)) ∧ ∃ s1 : KS, KI c h1 s1 ∧ KB s1 ∧ kx c hp s h1 s1 1 1 ∧ LFR 15 28 31 s s1 ∧ s1.I 28 = s.I 28 + 1 ∧ s1.I 31 = s.I 31 + 1 ∧ 1 ≤ s1.C 15 ∧ (∀ e : Int, 0 ≤ e → e < s.I 28 → s1.T 15 e = s.T 15 e) ∧ s1.T 15 (s.I 28) = some t) := by
  have hX := kx_rf (c := c) (hp := hp) (s := s)
  refine cl_go rfl ?_
  show xx_go (xt_P z) (d + 4) 236 0 [some (.ref (c + 24)), some (.ref t)] [] hp _
  refine go_a (pc' := 1) (ls' := [some (.ref (c + 24)), some (.ref t)]) (st' := [.ref (c + 24)]) rfl rfl ?_
  refine go_a (pc' := 2) (ls' := [some (.ref (c + 24)), some (.ref t)]) (st' := [.ref (c + 24), .ref (c + 24)]) rfl rfl ?_
  refine go_get (v := .int (iI (s.I 31))) rfl (hK.1 15 (by decide)) rfl rfl ?_
  refine go_a (pc' := 6) (ls' := [some (.ref (c + 24)), some (.ref t)]) (st' := [.int (iI 1), .int (iI (s.I 31)), .ref (c + 24)]) rfl rfl ?_
  refine mi_add rfl ?_
  refine kput_31 (x := (s.I 31) + 1) hK hX rfl rfl (fun hp2 hK hX => ?_)
  refine go_a (pc' := 11) (ls' := [some (.ref (c + 24)), some (.ref t)]) (st' := [.ref (c + 24)]) rfl rfl ?_
  refine go_a (pc' := 12) (ls' := [some (.ref (c + 24)), some (.ref t)]) (st' := [.ref t, .ref (c + 24)]) rfl rfl ?_
  refine go_a (pc' := 13) (ls' := [some (.ref (c + 24)), some (.ref t)]) (st' := [.ref (c + 24), .ref t, .ref (c + 24)]) rfl rfl ?_
  refine go_get (v := .ref (s.P 15)) rfl (hK.1 15 (by decide)) rfl rfl ?_
  refine go_a (pc' := 17) (ls' := [some (.ref (c + 24)), some (.ref t)]) (st' := [.ref (c + 24), .ref (s.P 15), .ref t, .ref (c + 24)]) rfl rfl ?_
  refine go_get (v := .int (iI (s.I 28))) rfl (hK.1 15 (by decide)) rfl rfl ?_
  have et := hX.2.1 t (List.getElem?_eq_some_iff.mp ht).1 kt0
  refine go_v (m := 237) (as := [.ref (c + 24), .ref t, .ref (s.P 15), .int (iI (s.I 28))]) (r := []) rfl rfl rfl (hK.1 15 (by decide)) rfl rfl (kl_put_15 z d c t fs hp s hp2 (s.wI 31 (s.I 31 + 1)) hK (KB_wF hB (by omega) (by omega) (by decide)) (OC_kx hO hX) (TLS_kx hT hX (fun _ _ _ => rfl)) hX (LFR_wI (Or.inr rfl)) rfl rfl rfl hP0 hl (et.2.trans ht) et.1) (fun v h3 hq => ?_)
  obtain ⟨rfl, s1, q⟩ := hq
  show xx_go (xt_P z) (d + 4) 236 23 [some (.ref (c + 24)), some (.ref t)] [] h3 _
  refine go_a (pc' := 24) (ls' := [some (.ref (c + 24)), some (.ref t)]) (st' := [.int (iI 1)]) rfl rfl ?_
  exact go_r rfl rfl rfl rfl rfl rfl ⟨rfl, s1, q⟩
theorem kl_remove_15 (z : Value) (d c t : Nat) (hp : xx_H) (s : KS) (hK : KI c hp s) (hB : KB s) (hO : OC hp) (h1 : 1 ≤ s.I 28) (hm : 0 ≤ s.I 31 ∧ s.I 31 ≤ 1000000) (ht : s.T 15 (s.I 28 - 1) = some t) : xx_cl (xt_P z) (d + 3) 306 [.ref (c + 24), .int (iI (s.I 28 - 1))] hp (fun v h1 => v = some (.ref t) ∧ ∃ s1 : KS, KI c h1 s1 ∧ KB s1 ∧ kx c hp s h1 s1 0 0 ∧ LFR 15 28 31 s s1 ∧ s1.I 28 = s.I 28 - 1 ∧ s1.I 31 = s.I 31 + 1 ∧ s1.C 15 = s.C 15 ∧ s1.P 15 = s.P 15 ∧ ∀ e : Int, 0 ≤ e → e < s.I 28 - 1 → s1.T 15 e = s.T 15 e) := by
  have b7 := hB.2.2.2.2.2.2.2.2
  have p12 := kl_p12_15 hK hO (by omega)
  have hX := kx_rf (c := c) (hp := hp) (s := s)
  have fr : xx_cl (xt_P z) (d + 2) 307 [.ref (c + 24), .ref (s.P 15), .int (iI (s.I 28 - 1))] hp (fun v h1 => v = none ∧ ∃ s1 : KS, KI c h1 s1 ∧ KB s1 ∧ kx c hp s h1 s1 0 0 ∧ LFR 15 28 31 s s1 ∧ s1.I 28 = s.I 28 - 1 ∧ s1.I 31 = s.I 31 + 1 ∧ s1.C 15 = s.C 15 ∧ s1.P 15 = s.P 15 ∧ ∀ e : Int, 0 ≤ e → e < s.I 28 - 1 → s1.T 15 e = s.T 15 e) := by
    refine cl_go rfl ?_
    show xx_go (xt_P z) (d + 1) 307 0 [some (.ref (c + 24)), some (.ref (s.P 15)), some (.int (iI (s.I 28 - 1))), none] [] hp _
    refine go_a (pc' := 1) (ls' := [some (.ref (c + 24)), some (.ref (s.P 15)), some (.int (iI (s.I 28 - 1))), none]) (st' := [.ref (c + 24)]) rfl rfl ?_
    refine go_a (pc' := 2) (ls' := [some (.ref (c + 24)), some (.ref (s.P 15)), some (.int (iI (s.I 28 - 1))), none]) (st' := [.ref (c + 24), .ref (c + 24)]) rfl rfl ?_
    refine go_get (v := .int (iI (s.I 31))) rfl (hK.1 15 (by decide)) rfl rfl ?_
    refine go_a (pc' := 6) (ls' := [some (.ref (c + 24)), some (.ref (s.P 15)), some (.int (iI (s.I 28 - 1))), none]) (st' := [.int (iI 1), .int (iI (s.I 31)), .ref (c + 24)]) rfl rfl ?_
    refine mi_add rfl ?_
    refine kput_31 (x := (s.I 31) + 1) hK hX rfl rfl (fun hp2 hK hX => ?_)
    refine go_a (pc' := 11) (ls' := [some (.ref (c + 24)), some (.ref (s.P 15)), some (.int (iI (s.I 28 - 1))), none]) (st' := [.ref (c + 24)]) rfl rfl ?_
    refine go_get (v := .int (iI (s.I 28))) rfl (hK.1 15 (by decide)) rfl rfl ?_
    refine go_a (pc' := 15) (ls' := [some (.ref (c + 24)), some (.ref (s.P 15)), some (.int (iI (s.I 28 - 1))), none]) (st' := [.int (iI 1), .int (iI (s.I 28))]) rfl rfl ?_
    refine mi_sub rfl ?_
    refine go_a (pc' := 17) (ls' := [some (.ref (c + 24)), some (.ref (s.P 15)), some (.int (iI (s.I 28 - 1))), none]) (st' := [.int (iI ((s.I 28) - 1)), .int (iI ((s.I 28) - 1))]) rfl rfl ?_
    refine go_a (pc' := 18) (ls' := [some (.ref (c + 24)), some (.ref (s.P 15)), some (.int (iI (s.I 28 - 1))), some (.int (iI ((s.I 28) - 1)))]) (st' := [.int (iI ((s.I 28) - 1))]) rfl rfl ?_
    refine go_a (pc' := 19) (ls' := [some (.ref (c + 24)), some (.ref (s.P 15)), some (.int (iI (s.I 28 - 1))), some (.int (iI ((s.I 28) - 1)))]) (st' := [.int (iI (s.I 28 - 1)), .int (iI ((s.I 28) - 1))]) rfl rfl ?_
    refine mi_le (t := 34) rfl rfl (by omega) (by omega) (by omega) (by omega) (fun _ => ?_) (fun w => absurd (Int.le_refl _) w)
    refine go_a (pc' := 35) (ls' := [some (.ref (c + 24)), some (.ref (s.P 15)), some (.int (iI (s.I 28 - 1))), some (.int (iI ((s.I 28) - 1)))]) (st' := [.ref (s.P 15)]) rfl rfl ?_
    refine go_a (pc' := 36) (ls' := [some (.ref (c + 24)), some (.ref (s.P 15)), some (.int (iI (s.I 28 - 1))), some (.int (iI ((s.I 28) - 1)))]) (st' := [.ref (c + 24), .ref (s.P 15)]) rfl rfl ?_
    refine go_a (pc' := 37) (ls' := [some (.ref (c + 24)), some (.ref (s.P 15)), some (.int (iI (s.I 28 - 1))), some (.int (iI ((s.I 28) - 1)))]) (st' := [.int (iI ((s.I 28) - 1)), .ref (c + 24), .ref (s.P 15)]) rfl rfl ?_
    refine go_a (pc' := 38) (ls' := [some (.ref (c + 24)), some (.ref (s.P 15)), some (.int (iI (s.I 28 - 1))), some (.int (iI ((s.I 28) - 1)))]) (st' := [.int (iI ((s.I 28) - 1)), .ref (c + 24), .int (iI ((s.I 28) - 1)), .ref (s.P 15)]) rfl rfl ?_
    refine kput_28 (x := (s.I 28) - 1) hK hX rfl rfl (fun hp2 hK hX => ?_)
    refine go_a (pc' := 42) (ls' := [some (.ref (c + 24)), some (.ref (s.P 15)), some (.int (iI (s.I 28 - 1))), some (.int (iI ((s.I 28) - 1)))]) (st' := [.null, .int (iI ((s.I 28) - 1)), .ref (s.P 15)]) rfl rfl ?_
    have p12b : 12 ≤ ((s.wI 31 (s.I 31 + 1)).wI 28 (s.I 28 - 1)).P 15 := p12
    refine mk_astN rfl (hK.1 34 (by decide)) p12 (show 0 ≤ s.I 28 - 1 by omega) (show s.I 28 - 1 < ((s.C 15).toNat : Int) by omega) (show (s.C 15).toNat ≤ 1000000 by omega) ?_
    obtain ⟨K1, X1⟩ := ki_wT_15 hK p12b (so (s.T 15) (s.I 28 - 1) none)
    refine go_r rfl rfl rfl rfl rfl rfl ⟨rfl, _, K1, ?_, kx_w (kx_tr hX X1) (by decide) (by decide), LFR_tr (LFR_wI (Or.inr rfl)) (LFR_tr (LFR_wI (Or.inl rfl)) LFR_wT), rfl, rfl, rfl, rfl, fun e e0 e1 => so_ne (by omega)⟩
    exact KB_sz_15 (s := s.wI 31 (s.I 31 + 1)) (KB_wF hB (by omega) (by omega) (by decide)) (by omega) (show _ ≤ s.C 15 by omega)
  refine cl_go rfl ?_
  show xx_go (xt_P z) (d + 2) 306 0 [some (.ref (c + 24)), some (.int (iI (s.I 28 - 1))), none, none] [] hp _
  refine go_a (pc' := 1) (ls' := [some (.ref (c + 24)), some (.int (iI (s.I 28 - 1))), none, none]) (st' := [.int (iI (s.I 28 - 1))]) rfl rfl ?_
  refine go_a (pc' := 2) (ls' := [some (.ref (c + 24)), some (.int (iI (s.I 28 - 1))), none, none]) (st' := [.ref (c + 24), .int (iI (s.I 28 - 1))]) rfl rfl ?_
  refine go_get (v := .int (iI (s.I 28))) rfl (hK.1 15 (by decide)) rfl rfl ?_
  refine go_s (m := 218) (as := [.int (iI (s.I 28 - 1)), .int (iI (s.I 28))]) (r := []) rfl rfl rfl rfl (kl_checkIndex z d (s.I 28 - 1) (s.I 28) hp (by omega) (by omega) (by omega)) (fun v h3 hq => ?_)
  obtain ⟨rfl, e⟩ := hq
  rw [e]
  clear e h3
  show xx_go (xt_P z) (d + 2) 306 8 [some (.ref (c + 24)), some (.int (iI (s.I 28 - 1))), none, none] [.int (iI (s.I 28 - 1))] hp _
  refine go_a (pc' := 9) (ls' := [some (.ref (c + 24)), some (.int (iI (s.I 28 - 1))), none, none]) (st' := []) rfl rfl ?_
  refine go_a (pc' := 10) (ls' := [some (.ref (c + 24)), some (.int (iI (s.I 28 - 1))), none, none]) (st' := [.ref (c + 24)]) rfl rfl ?_
  refine go_get (v := .ref (s.P 15)) rfl (hK.1 15 (by decide)) rfl rfl ?_
  refine go_a (pc' := 14) (ls' := [some (.ref (c + 24)), some (.int (iI (s.I 28 - 1))), some (.ref (s.P 15)), none]) (st' := []) rfl rfl ?_
  refine go_a (pc' := 15) (ls' := [some (.ref (c + 24)), some (.int (iI (s.I 28 - 1))), some (.ref (s.P 15)), none]) (st' := [.ref (s.P 15)]) rfl rfl ?_
  refine go_a (pc' := 16) (ls' := [some (.ref (c + 24)), some (.int (iI (s.I 28 - 1))), some (.ref (s.P 15)), none]) (st' := [.int (iI (s.I 28 - 1)), .ref (s.P 15)]) rfl rfl ?_
  refine mk_ald rfl (hK.1 34 (by decide)) rfl (by omega) (by omega) (by omega) ?_
  rw [ht]
  show xx_go (xt_P z) (d + 2) 306 17 [some (.ref (c + 24)), some (.int (iI (s.I 28 - 1))), some (.ref (s.P 15)), none] [.ref t] hp _
  refine go_a (pc' := 18) (ls' := [some (.ref (c + 24)), some (.int (iI (s.I 28 - 1))), some (.ref (s.P 15)), some (.ref t)]) (st' := []) rfl rfl ?_
  refine go_a (pc' := 19) (ls' := [some (.ref (c + 24)), some (.int (iI (s.I 28 - 1))), some (.ref (s.P 15)), some (.ref t)]) (st' := [.ref (c + 24)]) rfl rfl ?_
  refine go_a (pc' := 20) (ls' := [some (.ref (c + 24)), some (.int (iI (s.I 28 - 1))), some (.ref (s.P 15)), some (.ref t)]) (st' := [.ref (s.P 15), .ref (c + 24)]) rfl rfl ?_
  refine go_a (pc' := 21) (ls' := [some (.ref (c + 24)), some (.int (iI (s.I 28 - 1))), some (.ref (s.P 15)), some (.ref t)]) (st' := [.int (iI (s.I 28 - 1)), .ref (s.P 15), .ref (c + 24)]) rfl rfl ?_
  refine go_v (m := 307) (as := [.ref (c + 24), .ref (s.P 15), .int (iI (s.I 28 - 1))]) (r := []) rfl rfl rfl (hK.1 15 (by decide)) rfl rfl fr (fun v h3 hq => ?_)
  obtain ⟨rfl, s1, q⟩ := hq
  show xx_go (xt_P z) (d + 2) 306 24 [some (.ref (c + 24)), some (.int (iI (s.I 28 - 1))), some (.ref (s.P 15)), some (.ref t)] [] h3 _
  refine go_a (pc' := 25) (ls' := [some (.ref (c + 24)), some (.int (iI (s.I 28 - 1))), some (.ref (s.P 15)), some (.ref t)]) (st' := [.ref t]) rfl rfl ?_
  exact go_r rfl rfl rfl rfl rfl rfl ⟨rfl, s1, q⟩
