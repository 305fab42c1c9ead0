def zs : List (List Int) → Nat
  | [] => 0
  | r :: Z => r.length + zs Z
def clA (X : Int × List (List Int)) (r : List Int) : Int × List (List Int) := if r ∈ X.2 then X else if 30 ≤ X.2.length ∨ 400 < zs X.2 + r.length then (1, X.2) else (X.1, X.2 ++ [r])
theorem zs_app : ∀ (Z : List (List Int)) (r : List Int), zs (Z ++ [r]) = zs Z + r.length
  | [], r => by
    show r.length + 0 = 0 + r.length
    omega
  | x :: Z, r => by
    show x.length + zs (Z ++ [r]) = x.length + zs Z + r.length
    rw [zs_app Z r]
    omega
theorem ol_len {m : Int} {nO : Int → Int} {fO : Int → Int → Int} : (ol m nO fO).length = m.toNat := by
  unfold ol
  rw [List.length_map, List.length_range]
theorem ol_s {m : Int} {nO : Int → Int} {fO : Int → Int → Int} (m0 : 0 ≤ m) : ol (m + 1) nO fO = ol m nO fO ++ [rl (nO m) (fO m)] := by
  unfold ol
  rw [show (m + 1).toNat = m.toNat + 1 by omega, List.range_succ, List.map_append]
  show _ ++ [rl (nO ((m.toNat : Nat) : Int)) (fO ((m.toNat : Nat) : Int))] = _
  rw [show ((m.toNat : Nat) : Int) = m by omega]
theorem ol_ext {m : Int} {nO n2 : Int → Int} {fO f2 : Int → Int → Int} (h : ∀ i : Int, 0 ≤ i → i < m → nO i = n2 i ∧ fO i = f2 i) : ol m nO fO = ol m n2 f2 := by
  unfold ol
  refine List.map_congr_left (fun i hi => ?_)
  have := List.mem_range.mp hi
  have q := h i (by omega) (by omega)
  rw [q.1, q.2]
theorem ol_mem {m : Int} {nO : Int → Int} {fO : Int → Int → Int} {r : List Int} : r ∈ ol m nO fO ↔ ∃ j : Int, 0 ≤ j ∧ j < m ∧ rl (nO j) (fO j) = r := by
  unfold ol
  constructor
  · intro h
    obtain ⟨i, hi, e⟩ := List.mem_map.mp h
    have := List.mem_range.mp hi
    exact ⟨i, by omega, by omega, e⟩
  · rintro ⟨j, j0, j1, e⟩
    refine List.mem_map.mpr ⟨j.toNat, List.mem_range.mpr (by omega), ?_⟩
    show rl (nO ((j.toNat : Nat) : Int)) (fO ((j.toNat : Nat) : Int)) = r
    rw [show ((j.toNat : Nat) : Int) = j by omega]
    exact e
theorem ol_get {m : Int} {nO : Int → Int} {fO : Int → Int → Int} {k : Nat} (h : (k : Int) < m) : (ol m nO fO)[k]? = some (rl (nO k) (fO k)) := by
  unfold ol
  rw [List.getElem?_map, List.getElem?_range (by omega)]
  rfl
theorem ol_drop {m : Int} {nO : Int → Int} {fO : Int → Int → Int} {k : Nat} (h : (k : Int) < m) : (ol m nO fO).drop k = rl (nO k) (fO k) :: (ol m nO fO).drop (k + 1) := by
  rw [List.drop_eq_getElem_cons (by rw [ol_len]; omega)]
  congr 1
  have := ol_get (nO := nO) (fO := fO) h
  rw [List.getElem?_eq_getElem (by rw [ol_len]; omega)] at this
  injection this
def sq (g : Int → Int) : Nat → Int
  | 0 => 0
  | k + 1 => sq g k + g (k : Int)
theorem sq_ext {f g : Int → Int} : ∀ {n : Nat}, (∀ i : Int, 0 ≤ i → i < n → f i = g i) → sq f n = sq g n
  | 0, _ => rfl
  | n + 1, h => by
    show sq f n + f (n : Int) = sq g n + g (n : Int)
    rw [sq_ext (n := n) (fun i a b => h i a (by omega)), h (n : Int) (by omega) (by omega)]
theorem zs_ol {nO : Int → Int} {fO : Int → Int → Int} : ∀ {m : Nat}, (∀ j : Int, 0 ≤ j → j < m → 0 ≤ nO j) → sq nO m = (zs (ol m nO fO) : Nat)
  | 0, _ => rfl
  | m + 1, h => by
    have h0 := h m (by omega) (by omega)
    rw [show ((m + 1 : Nat) : Int) = (m : Int) + 1 by omega, ol_s (by omega), zs_app, rl_len]
    show sq nO m + nO (m : Int) = _
    rw [zs_ol (fO := fO) (m := m) (fun j a b => h j a (by omega))]
    omega
def so {α : Type} (O : Int → α) (e : Int) (y : α) : Int → α := fun k => if k = e then y else O k
theorem so_self {α : Type} {O : Int → α} {e : Int} {y : α} : so O e y e = y := if_pos rfl
theorem so_ne {α : Type} {O : Int → α} {e k : Int} {y : α} (h : k ≠ e) : so O e y k = O k := if_neg h
theorem xa_r_set {n : Nat} {O : Int → Option Nat} {e : Int} {b : Nat} (h1 : 0 ≤ e) : (xa_r n O).set e.toNat (.ref b) = xa_r n (so O e (some b)) := by
  refine List.ext_getElem? (fun i => ?_)
  by_cases hi : i < n
  · rw [xa_r_get hi]
    by_cases he : i = e.toNat
    · rw [he, List.getElem?_set_self (by rw [xa_r_len]; omega), show ((e.toNat : Nat) : Int) = e by omega, so_self]
      rfl
    · rw [List.getElem?_set_ne (fun q => he q.symm), xa_r_get hi, so_ne (by omega)]
  · rw [List.getElem?_eq_none (by rw [List.length_set, xa_r_len]; omega), List.getElem?_eq_none (by rw [xa_r_len]; omega)]
theorem rep_r (n : Nat) : List.replicate n Value.null = xa_r n (fun _ => none) := by
  unfold xa_r
  refine List.ext_getElem? (fun i => ?_)
  by_cases h : i < n
  · rw [List.getElem?_replicate, if_pos h, List.getElem?_map, List.getElem?_range h]
    rfl
  · rw [List.getElem?_eq_none (by rw [List.length_replicate]; omega), List.getElem?_eq_none (by rw [List.length_map, List.length_range]; omega)]
theorem mk_ast {P : xx_P} {d k pc a b n ci : Nat} {ls : xx_L} {r fs : List Value} {hp : xx_H} {Q : Option Value → xx_H → Prop} {O : Int → Option Nat} {e : Int} {C : String} (hc : xp_code P k pc = some .aastore) (hh : hp[a]? = some (.inl (.object C, xa_r n O))) (ha : xp_n0 P ≤ a) (hb : hp[b]? = some (.inr (ci, fs))) (hs : xp_asg P C ci = true) (h0 : 0 ≤ e) (h1 : e < n) (h2 : n ≤ 1000000) (hg : xx_go P d k (pc + 1) ls r (hp.set a (.inl (.object C, xa_r n (so O e (some b))))) Q) : xx_go P d k pc ls (.ref b :: .int (iI e) :: .ref a :: r) hp Q := by
  refine go_ast (m := e.toNat) hc hh rfl ha ?_ (iI_nn h0 (by omega)) (iI_clamp h0 (by omega)) (by rw [xa_r_len]; omega) ?_
  · unfold xb_aok
    simp only [hb]
    exact hs
  · rw [xa_r_set h0]
    exact hg
def CLo (x : Nat) (m w b : Int) : xx_E := .inr (12, [.ref (x + 1), .int (iI m), .int (iI w), .int (iI b)])
def CLS (c : Nat) (hp : xx_H) (s : KS) (u : Int) (x : Nat) (m w b : Int) (O : Int → Option Nat) (nO : Int → Int) (fO : Int → Int → Int) : Prop := hp[x]? = some (CLo x m w b) ∧ hp[x + 1]? = some (.inl (.object "ClauseKernel$Term", xa_r 30 O)) ∧ (kn c s x ∧ kn c s (x + 1) ∧ 12 ≤ x) ∧ (0 ≤ m ∧ m ≤ 30) ∧ (w = sq nO m.toNat ∧ 0 ≤ w ∧ w ≤ 400) ∧ (b = 0 ∨ b = 1) ∧ ∀ j : Int, 0 ≤ j → j < m → ∃ a : Nat, O j = some a ∧ TM c hp s u a (nO j) (fO j)
def CL (c : Nat) (hp : xx_H) (s : KS) (u : Int) (x : Nat) (b : Int) (Z : List (List Int)) : Prop := ∃ (m w : Int) (O : Int → Option Nat) (nO : Int → Int) (fO : Int → Int → Int), CLS c hp s u x m w b O nO fO ∧ ol m nO fO = Z
def KFE (x : Nat) (hp h1 : xx_H) : Prop := h1.length = hp.length ∧ xx_sz h1 = xx_sz hp ∧ ∀ p : Nat, p ≠ x → p ≠ x + 1 → h1[p]? = hp[p]?
section FES
variable {c x y : Nat} {hp h1 h2 hp0 : xx_H} {s s0 s1 : KS} {Z Z2 : List (List Int)} {u u1 m w b α β : Int} {O : Int → Option Nat} {nO : Int → Int} {fO : Int → Int → Int}
theorem KFE_rf : KFE x hp hp := ⟨rfl, rfl, fun _ _ _ => rfl⟩
theorem KFE_tr (a : KFE x hp h1) (b : KFE x h1 h2) : KFE x hp h2 := ⟨b.1.trans a.1, b.2.1.trans a.2.1, fun p q r => (b.2.2 p q r).trans (a.2.2 p q r)⟩
theorem KFE_set {e e0 : xx_E} (h : hp[x]? = some e0) (hz : xx_sz1 e = xx_sz1 e0) : KFE x hp (hp.set x e) := ⟨List.length_set, xx_sz_set h hz, fun p q _ => List.getElem?_set_ne (fun e => q e.symm)⟩
theorem KFE_set1 {e e0 : xx_E} (h : hp[x + 1]? = some e0) (hz : xx_sz1 e = xx_sz1 e0) : KFE x hp (hp.set (x + 1) e) := ⟨List.length_set, xx_sz_set h hz, fun p _ q => List.getElem?_set_ne (fun e => q e.symm)⟩
theorem KFE_KI (hK : KI c hp s) (k1 : kn c s x) (k2 : kn c s (x + 1)) (h12 : 12 ≤ x) (F : KFE x hp h1) : KI c h1 s := by
  refine ⟨fun i hi => ?_, hK.2⟩
  have n1 : kp c s.P i ≠ x := by
    rcases k1 with q | q
    · omega
    · exact q i hi
  have n2 : kp c s.P i ≠ x + 1 := by
    rcases k2 with q | q
    · omega
    · exact q i hi
  rw [F.2.2 _ n1 n2]
  exact hK.1 i hi
theorem KFE_kx (X : kx c hp0 s0 hp s α β) (hx : hp0.length ≤ x) (F : KFE x hp h1) : kx c hp0 s0 h1 s α β := by
  obtain ⟨a1, a2, a3, a4⟩ := X
  refine ⟨by rw [F.1]; exact a1, fun p q r => ⟨(a2 p q r).1, ?_⟩, by rw [F.1]; exact a3, by rw [F.2.1]; exact a4⟩
  rw [F.2.2 p (by omega) (by omega)]
  exact (a2 p q r).2
theorem KFE_TM {a : Nat} {n : Int} {f : Int → Int} (hC : hp[x]? = some (CLo x m w b)) (hL : hp[x + 1]? = some (.inl (.object "ClauseKernel$Term", xa_r 30 O))) (F : KFE x hp h1) (h : TM c hp s u a n f) : TM c h1 s u a n f := by
  obtain ⟨⟨q, ⟨l1, l2, l3⟩, k1, k2, k3⟩, h2⟩ := h
  have e1 : h1[a]? = hp[a]? := F.2.2 a (fun e => by rw [e, hC] at l1; simp [CLo] at l1) (fun e => by rw [e, hL] at l1; simp at l1)
  have e2 : h1[q]? = hp[q]? := F.2.2 q (fun e => by rw [e, hC] at l2; simp [CLo] at l2) (fun e => by rw [e, hL] at l2; simp at l2)
  exact ⟨⟨q, ⟨e1.trans l1, e2.trans l2, l3⟩, k1, k2, k3⟩, h2⟩
theorem CLS_kx (h : CLS c hp s u x m w b O nO fO) (X : kx c hp s h1 s1 α β) : CLS c h1 s1 u x m w b O nO fO := by
  obtain ⟨a1, a2, ⟨a3, a4, a5⟩, a6, a7, a8, a9⟩ := h
  have e1 := X.2.1 x (List.getElem?_eq_some_iff.mp a1).1 a3
  have e2 := X.2.1 (x + 1) (List.getElem?_eq_some_iff.mp a2).1 a4
  refine ⟨e1.2.trans a1, e2.2.trans a2, ⟨e1.1, e2.1, a5⟩, a6, a7, a8, fun j p q => ?_⟩
  obtain ⟨a, r, t⟩ := a9 j p q
  exact ⟨a, r, TM_kx t X⟩
theorem CLS_u (h : CLS c hp s u x m w b O nO fO) (hu : u ≤ u1) : CLS c hp s u1 x m w b O nO fO := by
  obtain ⟨a1, a2, a3, a6, a7, a8, a9⟩ := h
  refine ⟨a1, a2, a3, a6, a7, a8, fun j p q => ?_⟩
  obtain ⟨a, r, t⟩ := a9 j p q
  exact ⟨a, r, TM_u t hu⟩
theorem KFE_CLS {m2 w2 b2 : Int} {O2 : Int → Option Nat} (hC : hp[y]? = some (CLo y m2 w2 b2)) (hL : hp[y + 1]? = some (.inl (.object "ClauseKernel$Term", xa_r 30 O2))) (F : KFE y hp h1) (ne : x ≠ y) (h : CLS c hp s u x m w b O nO fO) : CLS c h1 s u x m w b O nO fO := by
  obtain ⟨a1, a2, a3, a6, a7, a8, a9⟩ := h
  have e1 : h1[x]? = hp[x]? := F.2.2 x ne (fun e => by rw [e, hL] at a1; simp [CLo] at a1)
  have e2 : h1[x + 1]? = hp[x + 1]? := F.2.2 (x + 1) (fun e => by rw [e, hC] at a2; simp [CLo] at a2) (fun e => ne (by omega))
  refine ⟨e1.trans a1, e2.trans a2, a3, a6, a7, a8, fun j p q => ?_⟩
  obtain ⟨a, r, t⟩ := a9 j p q
  exact ⟨a, r, KFE_TM hC hL F t⟩
theorem CL_kx (h : CL c hp s u x b Z) (X : kx c hp s h1 s1 α β) : CL c h1 s1 u x b Z := by
  obtain ⟨m, w, O, nO, fO, h, e⟩ := h
  exact ⟨m, w, O, nO, fO, CLS_kx h X, e⟩
theorem CL_u (h : CL c hp s u x b Z) (hu : u ≤ u1) : CL c hp s u1 x b Z := by
  obtain ⟨m, w, O, nO, fO, h, e⟩ := h
  exact ⟨m, w, O, nO, fO, CLS_u h hu, e⟩
theorem CL_fe (hy : CL c hp s u1 y β Z2) (F : KFE y hp h1) (ne : x ≠ y) (h : CL c hp s u x b Z) : CL c h1 s u x b Z := by
  obtain ⟨m, w, O, nO, fO, h, e⟩ := h
  obtain ⟨_, _, _, _, _, g, -⟩ := hy
  exact ⟨m, w, O, nO, fO, KFE_CLS g.1 g.2.1 F ne h, e⟩
theorem TM_fe {a : Nat} {n : Int} {f : Int → Int} (hy : CL c hp s u1 y β Z2) (F : KFE y hp h1) (h : TM c hp s u a n f) : TM c h1 s u a n f := by
  obtain ⟨_, _, _, _, _, g, -⟩ := hy
  exact KFE_TM g.1 g.2.1 F h
theorem CL_KI (hy : CL c hp s u1 y β Z2) (F : KFE y hp h1) (hK : KI c hp s) : KI c h1 s := by
  obtain ⟨_, _, _, _, _, g, -⟩ := hy
  exact KFE_KI hK g.2.2.1.1 g.2.2.1.2.1 g.2.2.1.2.2 F
end FES
def mkC (hp : xx_H) : xx_H := hp ++ [CLo hp.length 0 0 0, .inl (.object "ClauseKernel$Term", xa_r 30 (fun _ => none))]
theorem mkC_eq {hp : xx_H} : ((hp ++ [(.inr (12, [.null, .int 0, .int 0, .int 0]) : xx_E)]) ++ [(.inl (.object "ClauseKernel$Term", xa_r 30 (fun _ => none)) : xx_E)]).set hp.length (.inr (12, [.ref (hp.length + 1), .int 0, .int 0, .int 0])) = mkC hp := by
  unfold mkC
  simp
  rfl
theorem mkC_CL {c : Nat} {hp : xx_H} {s : KS} {u : Int} (hK : KI c hp s) : KI c (mkC hp) s ∧ kx c hp s (mkC hp) s 2 34 ∧ CLS c (mkC hp) s u hp.length 0 0 0 (fun _ => none) (fun _ => 0) (fun _ _ => 0) := by
  obtain ⟨a1, a2, a3⟩ := ki_app (e := CLo hp.length 0 0 0) hK
  obtain ⟨b1, b2, b3⟩ := ki_app (e := (.inl (.object "ClauseKernel$Term", xa_r 30 (fun _ => none)) : xx_E)) a1
  have e : mkC hp = hp ++ [CLo hp.length 0 0 0] ++ [(.inl (.object "ClauseKernel$Term", xa_r 30 (fun _ => none)) : xx_E)] := by
    unfold mkC
    simp
  have l := ki_12 hK
  rw [List.length_append] at b3
  refine ⟨by rw [e]; exact b1, by rw [e]; exact kx_w (kx_tr a2 b2) (by decide) (show ((4 : Nat) : Int) + ((xa_r 30 (fun _ => none)).length : Nat) ≤ 34 by rw [xa_r_len]; decide), ?_, ?_, ⟨a3, b3, l.2⟩, by decide, ⟨rfl, by decide, by decide⟩, Or.inl rfl, fun j p q => absurd q (by omega)⟩
  · unfold mkC
    simp
  · unfold mkC
    simp
theorem kh_init (z : Value) (d : Nat) (hp : xx_H) (h12 : 12 ≤ hp.length) : xx_cl (xt_P z) (d + 1) 257 [.ref hp.length] (hp ++ [.inr (12, [.null, .int 0, .int 0, .int 0])]) (fun v h1 => v = none ∧ h1 = mkC hp) := by
  refine cl_go rfl ?_
  show xx_go (xt_P z) d 257 0 [some (.ref hp.length)] [] (hp ++ [.inr (12, [.null, .int 0, .int 0, .int 0])]) _
  refine go_a (pc' := 1) (ls' := [some (.ref hp.length)]) (st' := [.ref hp.length]) rfl rfl ?_
  refine go_o (st' := []) (h' := (hp ++ [.inr (12, [.null, .int 0, .int 0, .int 0])])) rfl rfl rfl rfl ?_
  refine go_a (pc' := 5) (ls' := [some (.ref hp.length)]) (st' := [.ref hp.length]) rfl rfl ?_
  refine go_a (pc' := 7) (ls' := [some (.ref hp.length)]) (st' := [.int (iI 30), .ref hp.length]) rfl rfl ?_
  refine go_newr (m := 30) rfl rfl (by decide) rfl (by decide) ?_
  rw [rep_r, show (hp ++ [(.inr (12, [.null, .int 0, .int 0, .int 0]) : xx_E)]).length = hp.length + 1 from List.length_append]
  show xx_go (xt_P z) d 257 10 [some (.ref hp.length)] [.ref ((hp.length + 1)), .ref hp.length] ((hp ++ [.inr (12, [.null, .int 0, .int 0, .int 0])]) ++ [.inl (.object "ClauseKernel$Term", xa_r 30 (fun _ => none))]) _
  refine go_put rfl (app_old app_self) rfl rfl h12 (show 0 < 4 by decide) rfl rfl ?_
  show xx_go (xt_P z) d 257 13 _ [] (((hp ++ [(.inr (12, [.null, .int 0, .int 0, .int 0]) : xx_E)]) ++ [(.inl (.object "ClauseKernel$Term", xa_r 30 (fun _ => none)) : xx_E)]).set hp.length (.inr (12, [.ref (hp.length + 1), .int 0, .int 0, .int 0]))) _
  rw [mkC_eq]
  exact go_r rfl rfl rfl rfl rfl rfl ⟨rfl, rfl⟩
theorem kh_length (z : Value) (d c : Nat) (hp : xx_H) (s : KS) (u : Int) (x : Nat) (m w b : Int) (O : Int → Option Nat) (nO : Int → Int) (fO : Int → Int → Int) (hC : CLS c hp s u x m w b O nO fO) : xx_cl (xt_P z) (d + 1) 280 [.ref x] hp (fun v h1 => v = some (.int (iI m)) ∧ h1 = hp) := by
  refine cl_go rfl ?_
  show xx_go (xt_P z) d 280 0 [some (.ref x)] [] hp _
  refine go_a (pc' := 1) (ls' := [some (.ref x)]) (st' := [.ref x]) rfl rfl ?_
  refine go_get (v := .int (iI m)) rfl hC.1 rfl rfl ?_
  exact go_r rfl rfl rfl rfl rfl rfl ⟨rfl, rfl⟩
theorem kh_isTooBig (z : Value) (d c : Nat) (hp : xx_H) (s : KS) (u : Int) (x : Nat) (m w b : Int) (O : Int → Option Nat) (nO : Int → Int) (fO : Int → Int → Int) (hC : CLS c hp s u x m w b O nO fO) : xx_cl (xt_P z) (d + 1) 266 [.ref x] hp (fun v h1 => v = some (.int (iI b)) ∧ h1 = hp) := by
  refine cl_go rfl ?_
  show xx_go (xt_P z) d 266 0 [some (.ref x)] [] hp _
  refine go_a (pc' := 1) (ls' := [some (.ref x)]) (st' := [.ref x]) rfl rfl ?_
  refine go_get (v := .int (iI b)) rfl hC.1 rfl rfl ?_
  rcases hC.2.2.2.2.2.1 with e | e <;> rw [e] <;> exact go_r rfl rfl rfl rfl rfl rfl ⟨rfl, rfl⟩
theorem kh_at (z : Value) (d c : Nat) (k : Int) (hp : xx_H) (s : KS) (u : Int) (x : Nat) (m w b : Int) (O : Int → Option Nat) (nO : Int → Int) (fO : Int → Int → Int) (hC : CLS c hp s u x m w b O nO fO) (k0 : -2147483648 ≤ k) (k1 : k ≤ 2147483647) : xx_cl (xt_P z) (d + 1) 263 [.ref x, .int (iI k)] hp (fun v h1 => ((∃ (a : Nat), v = some (.ref a) ∧ (0 ≤ k ∧ k < m) ∧ O k = some a ∧ TM c hp s u a (nO k) (fO k)) ∨ (v = some .null ∧ ¬ (0 ≤ k ∧ k < m))) ∧ h1 = hp) := by
  have mb := hC.2.2.2.1
  have no : ¬ (0 ≤ k ∧ k < m) → xx_go (xt_P z) d 263 21 [some (.ref x), some (.int (iI k))] [] hp (fun v h1 => ((∃ (a : Nat), v = some (.ref a) ∧ (0 ≤ k ∧ k < m) ∧ O k = some a ∧ TM c hp s u a (nO k) (fO k)) ∨ (v = some .null ∧ ¬ (0 ≤ k ∧ k < m))) ∧ h1 = hp) := by
    intro w
    refine go_a (pc' := 22) (ls' := [some (.ref x), some (.int (iI k))]) (st' := [.null]) rfl rfl ?_
    exact go_r rfl rfl rfl rfl rfl rfl ⟨Or.inr ⟨rfl, w⟩, rfl⟩
  refine cl_go rfl ?_
  show xx_go (xt_P z) d 263 0 [some (.ref x), some (.int (iI k))] [] hp _
  refine go_a (pc' := 1) (ls' := [some (.ref x), some (.int (iI k))]) (st' := [.int (iI k)]) rfl rfl ?_
  refine mi_lt0 (t := 21) rfl rfl (by omega) (by omega) (fun w => no (by omega)) (fun w1 => ?_)
  refine go_a (pc' := 5) (ls' := [some (.ref x), some (.int (iI k))]) (st' := [.int (iI k)]) rfl rfl ?_
  refine go_a (pc' := 6) (ls' := [some (.ref x), some (.int (iI k))]) (st' := [.ref x, .int (iI k)]) rfl rfl ?_
  refine go_get (v := .int (iI m)) rfl hC.1 rfl rfl ?_
  refine mi_ge (t := 21) rfl rfl (by omega) (by omega) (by omega) (by omega) (fun w => no (by omega)) (fun w2 => ?_)
  refine go_a (pc' := 13) (ls' := [some (.ref x), some (.int (iI k))]) (st' := [.ref x]) rfl rfl ?_
  refine go_get (v := .ref ((x + 1))) rfl hC.1 rfl rfl ?_
  refine go_a (pc' := 17) (ls' := [some (.ref x), some (.int (iI k))]) (st' := [.int (iI k), .ref ((x + 1))]) rfl rfl ?_
  refine mk_ald rfl hC.2.1 rfl (by omega) (by omega) (by decide) ?_
  obtain ⟨a, ea, Ta⟩ := hC.2.2.2.2.2.2 k (by omega) (by omega)
  rw [ea]
  show xx_go (xt_P z) d 263 18 [some (.ref x), some (.int (iI k))] [.ref a] hp _
  refine go_a (pc' := 22) (ls' := [some (.ref x), some (.int (iI k))]) (st' := [.ref a]) rfl rfl ?_
  exact go_r rfl rfl rfl rfl rfl rfl ⟨Or.inl ⟨a, rfl, by omega, rfl, Ta⟩, rfl⟩
theorem kh_has_loop (z : Value) (d c : Nat) (hp : xx_H) (s : KS) (u : Int) (x : Nat) (m w b : Int) (O : Int → Option Nat) (nO : Int → Int) (fO : Int → Int → Int) (hC : CLS c hp s u x m w b O nO fO) (u2 : Int) (t : Nat) (nt : Int) (ft : Int → Int) (hT : TM c hp s u2 t nt ft) : ∀ (j : Nat) (k : Int) (y3 : Option Value), (m - k).toNat ≤ j → 0 ≤ k → k ≤ 100 → (∀ i : Int, 0 ≤ i → i < k → rl (nO i) (fO i) ≠ rl nt ft) → xx_go (xt_P z) (d + 1) 262 2 [some (.ref x), some (.ref t), some (.int (iI k)), y3] [] hp (fun v h1 => ((v = some (.int (iI 1)) ∧ rl nt ft ∈ ol m nO fO) ∨ (v = some (.int (iI 0)) ∧ rl nt ft ∉ ol m nO fO)) ∧ h1 = hp) := by
  have mb := hC.2.2.2.1
  obtain ⟨qt, Lt, Lta, Ltq⟩ := TMq hT
  intro j
  induction j with
  | zero =>
    intro k y3 hj k0 k1 hk9
    refine go_a (pc' := 3) (ls' := [some (.ref x), some (.ref t), some (.int (iI k)), y3]) (st' := [.int (iI k)]) rfl rfl ?_
    refine go_a (pc' := 4) (ls' := [some (.ref x), some (.ref t), some (.int (iI k)), y3]) (st' := [.ref x, .int (iI k)]) rfl rfl ?_
    refine go_get (v := .int (iI m)) rfl hC.1 rfl rfl ?_
    refine mi_ge (t := 36) rfl rfl (by omega) (by omega) (by omega) (by omega) (fun _ => ?_) (fun w => absurd (show k ≥ m by omega) w)
    refine go_a (pc' := 37) (ls' := [some (.ref x), some (.ref t), some (.int (iI k)), y3]) (st' := [.int (iI 0)]) rfl rfl ?_
    exact go_r rfl rfl rfl rfl rfl rfl ⟨Or.inr ⟨rfl, fun q => by obtain ⟨i, i0, i1, e⟩ := ol_mem.mp q; exact hk9 i i0 (by omega) e⟩, rfl⟩
  | succ j ih =>
    intro k y3 hj k0 k1 hk9
    refine go_a (pc' := 3) (ls' := [some (.ref x), some (.ref t), some (.int (iI k)), y3]) (st' := [.int (iI k)]) rfl rfl ?_
    refine go_a (pc' := 4) (ls' := [some (.ref x), some (.ref t), some (.int (iI k)), y3]) (st' := [.ref x, .int (iI k)]) rfl rfl ?_
    refine go_get (v := .int (iI m)) rfl hC.1 rfl rfl ?_
    refine mi_ge (t := 36) rfl rfl (by omega) (by omega) (by omega) (by omega) (fun w1 => ?_) (fun w1 => ?_)
    · refine go_a (pc' := 37) (ls' := [some (.ref x), some (.ref t), some (.int (iI k)), y3]) (st' := [.int (iI 0)]) rfl rfl ?_
      exact go_r rfl rfl rfl rfl rfl rfl ⟨Or.inr ⟨rfl, fun q => by obtain ⟨i, i0, i1, e⟩ := ol_mem.mp q; exact hk9 i i0 (by omega) e⟩, rfl⟩
    · refine go_a (pc' := 11) (ls' := [some (.ref x), some (.ref t), some (.int (iI k)), y3]) (st' := [.ref x]) rfl rfl ?_
      refine go_a (pc' := 12) (ls' := [some (.ref x), some (.ref t), some (.int (iI k)), y3]) (st' := [.int (iI k), .ref x]) rfl rfl ?_
      refine go_v (m := 263) (as := [.ref x, .int (iI k)]) (r := []) rfl rfl rfl hC.1 rfl rfl (kh_at z d c k hp s u x m w b O nO fO hC (by omega) (by omega)) (fun v h1 hq => ?_)
      obtain ⟨hq, e⟩ := hq
      rw [e]
      clear e h1
      rcases hq with ⟨a, rfl, hk, ea, Ta⟩ | ⟨-, q⟩
      · obtain ⟨qa, La, Laa, Laq⟩ := TMq Ta
        show xx_go (xt_P z) (d + 1) 262 15 [some (.ref x), some (.ref t), some (.int (iI k)), y3] [.ref a] hp _
        refine go_a (pc' := 16) (ls' := [some (.ref x), some (.ref t), some (.int (iI k)), some (.ref a)]) (st' := []) rfl rfl ?_
        refine go_a (pc' := 17) (ls' := [some (.ref x), some (.ref t), some (.int (iI k)), some (.ref a)]) (st' := [.ref a]) rfl rfl ?_
        refine go_a (pc' := 20) (ls' := [some (.ref x), some (.ref t), some (.int (iI k)), some (.ref a)]) (st' := []) rfl rfl ?_
        refine go_a (pc' := 21) (ls' := [some (.ref x), some (.ref t), some (.int (iI k)), some (.ref a)]) (st' := [.ref a]) rfl rfl ?_
        refine go_a (pc' := 22) (ls' := [some (.ref x), some (.ref t), some (.int (iI k)), some (.ref a)]) (st' := [.ref t, .ref a]) rfl rfl ?_
        refine go_v (m := 264) (as := [.ref a, .ref t]) (r := []) rfl rfl rfl La.1 rfl rfl (kg_isSame z d a qa (nO k) (fO k) hp La t qt nt ft Lt) (fun v h1 hq => ?_)
        obtain ⟨hq, e⟩ := hq
        rw [e]
        clear e h1
        rcases hq with ⟨rfl, hs⟩ | ⟨rfl, hs⟩
        · show xx_go (xt_P z) (d + 1) 262 25 [some (.ref x), some (.ref t), some (.int (iI k)), some (.ref a)] [.int (iI 1)] hp _
          refine mi_eq0 (t := 30) rfl rfl (by omega) (by omega) (fun q => absurd q (by decide)) (fun _ => ?_)
          refine go_a (pc' := 29) (ls' := [some (.ref x), some (.ref t), some (.int (iI k)), some (.ref a)]) (st' := [.int (iI 1)]) rfl rfl ?_
          exact go_r rfl rfl rfl rfl rfl rfl ⟨Or.inl ⟨rfl, ol_mem.mpr ⟨k, k0, by omega, hs⟩⟩, rfl⟩
        · show xx_go (xt_P z) (d + 1) 262 25 [some (.ref x), some (.ref t), some (.int (iI k)), some (.ref a)] [.int (iI 0)] hp _
          refine mi_eq0 (t := 30) rfl rfl (by omega) (by omega) (fun _ => ?_) (fun q => absurd rfl q)
          refine go_a (pc' := 33) (ls' := [some (.ref x), some (.ref t), some (.int (iI (k + 1))), some (.ref a)]) (st' := []) rfl (by rw [← iI_add k 1]; rfl) ?_
          refine go_a (pc' := 2) (ls' := [some (.ref x), some (.ref t), some (.int (iI (k + 1))), some (.ref a)]) (st' := []) rfl rfl ?_
          refine ih (k + 1) _ (by omega) (by omega) (by omega) (fun i i0 i1 => ?_)
          by_cases ci : i = k
          · rw [ci]
            exact hs
          · exact hk9 i i0 (by omega)
      · exact absurd (show 0 ≤ k ∧ k < m by omega) q
theorem kh_has (z : Value) (d c : Nat) (hp : xx_H) (s : KS) (u : Int) (x : Nat) (m w b : Int) (O : Int → Option Nat) (nO : Int → Int) (fO : Int → Int → Int) (hC : CLS c hp s u x m w b O nO fO) (u2 : Int) (t : Nat) (nt : Int) (ft : Int → Int) (hT : TM c hp s u2 t nt ft) : xx_cl (xt_P z) (d + 2) 262 [.ref x, .ref t] hp (fun v h1 => ((v = some (.int (iI 1)) ∧ rl nt ft ∈ ol m nO fO) ∨ (v = some (.int (iI 0)) ∧ rl nt ft ∉ ol m nO fO)) ∧ h1 = hp) := by
  refine cl_go rfl ?_
  show xx_go (xt_P z) (d + 1) 262 0 [some (.ref x), some (.ref t), none, none] [] hp _
  refine go_a (pc' := 1) (ls' := [some (.ref x), some (.ref t), none, none]) (st' := [.int (iI 0)]) rfl rfl ?_
  refine go_a (pc' := 2) (ls' := [some (.ref x), some (.ref t), some (.int (iI 0)), none]) (st' := []) rfl rfl ?_
  exact kh_has_loop z d c hp s u x m w b O nO fO hC u2 t nt ft hT _ 0 _ (Nat.le_refl _) (by decide) (by decide) (fun i i0 i1 => absurd i1 (by omega))
theorem CLo_sz {x : Nat} {m w b m1 w1 b1 : Int} : xx_sz1 (CLo x m w b) = xx_sz1 (CLo x m1 w1 b1) := rfl
theorem CL_big {c : Nat} {hp : xx_H} {s : KS} {u : Int} {x : Nat} {m w b : Int} {O : Int → Option Nat} {nO : Int → Int} {fO : Int → Int → Int} (hC : CLS c hp s u x m w b O nO fO) : KFE x hp (hp.set x (CLo x m w 1)) ∧ CL c (hp.set x (CLo x m w 1)) s u x 1 (ol m nO fO) := by
  have F : KFE x hp (hp.set x (CLo x m w 1)) := KFE_set hC.1 CLo_sz
  obtain ⟨a1, a2, a3, a4, a5, a6, a7⟩ := id hC
  refine ⟨F, m, w, O, nO, fO, ⟨List.getElem?_set_self (List.getElem?_eq_some_iff.mp a1).1, ?_, a3, a4, a5, Or.inr rfl, fun j p q => ?_⟩, rfl⟩
  · rw [List.getElem?_set_ne (by omega)]
    exact a2
  · obtain ⟨a, r, t⟩ := a7 j p q
    exact ⟨a, r, KFE_TM a1 a2 F t⟩
theorem kh_add0 (z : Value) (d c : Nat) (hp : xx_H) (s : KS) (u : Int) (x : Nat) (m w b : Int) (O : Int → Option Nat) (nO : Int → Int) (fO : Int → Int → Int) (hC : CLS c hp s u x m w b O nO fO) : xx_cl (xt_P z) (d + 3) 261 [.ref x, .null] hp (fun v h1 => v = none ∧ KFE x hp h1 ∧ CL c h1 s u x 1 (ol m nO fO)) := by
  refine cl_go rfl ?_
  show xx_go (xt_P z) (d + 2) 261 0 [some (.ref x), some (.null)] [] hp _
  refine go_a (pc' := 1) (ls' := [some (.ref x), some (.null)]) (st' := [.null]) rfl rfl ?_
  refine go_a (pc' := 4) (ls' := [some (.ref x), some (.null)]) (st' := []) rfl rfl ?_
  refine go_a (pc' := 5) (ls' := [some (.ref x), some (.null)]) (st' := [.ref x]) rfl rfl ?_
  refine go_a (pc' := 6) (ls' := [some (.ref x), some (.null)]) (st' := [.int (iI 1), .ref x]) rfl rfl ?_
  refine go_put rfl hC.1 rfl rfl hC.2.2.1.2.2 (show 3 < 4 by decide) rfl rfl ?_
  obtain ⟨F9, C9⟩ := CL_big hC
  exact go_r rfl rfl rfl rfl rfl rfl ⟨rfl, F9, C9⟩
theorem kh_add (z : Value) (d c : Nat) (hp : xx_H) (s : KS) (u : Int) (x : Nat) (m w b : Int) (O : Int → Option Nat) (nO : Int → Int) (fO : Int → Int → Int) (hC : CLS c hp s u x m w b O nO fO) (t : Nat) (nt : Int) (ft : Int → Int) (hT : TM c hp s u t nt ft) : xx_cl (xt_P z) (d + 3) 261 [.ref x, .ref t] hp (fun v h1 => v = none ∧ KFE x hp h1 ∧ ∃ (b1 : Int) (Z1 : List (List Int)), (b1, Z1) = clA (b, ol m nO fO) (rl nt ft) ∧ CL c h1 s u x b1 Z1) := by
  have mb := hC.2.2.2.1
  have wb := hC.2.2.2.2.1
  have tb := TM_n hT
  obtain ⟨qt, Lt, Lta, Ltq⟩ := TMq hT
  refine cl_go rfl ?_
  show xx_go (xt_P z) (d + 2) 261 0 [some (.ref x), some (.ref t)] [] hp _
  have tb9 : rl nt ft ∉ ol m nO fO → (30 ≤ (ol m nO fO).length ∨ 400 < zs (ol m nO fO) + (rl nt ft).length) → xx_go (xt_P z) (d + 2) 261 43 [some (.ref x), some (.ref t)] [] hp (fun v h1 => v = none ∧ KFE x hp h1 ∧ ∃ (b1 : Int) (Z1 : List (List Int)), (b1, Z1) = clA (b, ol m nO fO) (rl nt ft) ∧ CL c h1 s u x b1 Z1) := by
    intro n9 b9
    refine go_a (pc' := 44) (ls' := [some (.ref x), some (.ref t)]) (st' := [.ref x]) rfl rfl ?_
    refine go_a (pc' := 45) (ls' := [some (.ref x), some (.ref t)]) (st' := [.int (iI 1), .ref x]) rfl rfl ?_
    refine go_put rfl hC.1 rfl rfl hC.2.2.1.2.2 (show 3 < 4 by decide) rfl rfl ?_
    obtain ⟨F9, C9⟩ := CL_big hC
    exact go_r rfl rfl rfl rfl rfl rfl ⟨rfl, F9, 1, _, by unfold clA; rw [if_neg n9, if_pos b9], C9⟩
  refine go_a (pc' := 1) (ls' := [some (.ref x), some (.ref t)]) (st' := [.ref t]) rfl rfl ?_
  refine go_a (pc' := 10) (ls' := [some (.ref x), some (.ref t)]) (st' := []) rfl rfl ?_
  refine go_a (pc' := 11) (ls' := [some (.ref x), some (.ref t)]) (st' := [.ref x]) rfl rfl ?_
  refine go_a (pc' := 12) (ls' := [some (.ref x), some (.ref t)]) (st' := [.ref t, .ref x]) rfl rfl ?_
  refine go_v (m := 262) (as := [.ref x, .ref t]) (r := []) rfl rfl rfl hC.1 rfl rfl (kh_has z d c hp s u x m w b O nO fO hC u t nt ft hT) (fun v h1 hq => ?_)
  obtain ⟨hq, e⟩ := hq
  rw [e]
  clear e h1
  have zo := zs_ol (nO := nO) (fO := fO) (m := m.toNat) (fun j a b => by obtain ⟨a9, e9, t9⟩ := hC.2.2.2.2.2.2 j a (by omega); have := (TM_n t9).1; omega)
  rw [show ((m.toNat : Nat) : Int) = m by omega, ← wb.1] at zo
  rcases hq with ⟨rfl, hs⟩ | ⟨rfl, hs⟩
  · show xx_go (xt_P z) (d + 2) 261 15 [some (.ref x), some (.ref t)] [.int (iI 1)] hp _
    refine mi_eq0 (t := 19) rfl rfl (by omega) (by omega) (fun q => absurd q (by decide)) (fun _ => ?_)
    exact go_r rfl rfl rfl rfl rfl rfl ⟨rfl, KFE_rf, b, _, by unfold clA; rw [if_pos hs], m, w, O, nO, fO, hC, rfl⟩
  · show xx_go (xt_P z) (d + 2) 261 15 [some (.ref x), some (.ref t)] [.int (iI 0)] hp _
    refine mi_eq0 (t := 19) rfl rfl (by omega) (by omega) (fun _ => ?_) (fun q => absurd rfl q)
    refine go_a (pc' := 20) (ls' := [some (.ref x), some (.ref t)]) (st' := [.ref x]) rfl rfl ?_
    refine go_get (v := .int (iI m)) rfl hC.1 rfl rfl ?_
    refine go_a (pc' := 25) (ls' := [some (.ref x), some (.ref t)]) (st' := [.int (iI 30), .int (iI m)]) rfl rfl ?_
    refine mi_ge (t := 43) rfl rfl (by omega) (by omega) (by omega) (by omega) (fun w9 => tb9 hs (Or.inl (by rw [ol_len]; omega))) (fun w2 => ?_)
    refine go_a (pc' := 29) (ls' := [some (.ref x), some (.ref t)]) (st' := [.ref x]) rfl rfl ?_
    refine go_get (v := .int (iI w)) rfl hC.1 rfl rfl ?_
    refine go_a (pc' := 33) (ls' := [some (.ref x), some (.ref t)]) (st' := [.ref t, .int (iI w)]) rfl rfl ?_
    refine go_v (m := 229) (as := [.ref t]) (r := [.int (iI w)]) rfl rfl rfl Lt.1 rfl rfl (kg_length z (d + 1) t qt nt ft hp Lt) (fun v h1 hq => ?_)
    obtain ⟨rfl, e⟩ := hq
    rw [e]
    clear e h1
    show xx_go (xt_P z) (d + 2) 261 36 [some (.ref x), some (.ref t)] [.int (iI nt), .int (iI w)] hp _
    refine mi_add rfl ?_
    refine go_a (pc' := 40) (ls' := [some (.ref x), some (.ref t)]) (st' := [.int (iI 400), .int (iI (w + nt))]) rfl rfl ?_
    refine mi_le (t := 49) rfl rfl (by omega) (by omega) (by omega) (by omega) (fun w3 => ?_) (fun w9 => tb9 hs (Or.inr (by rw [rl_len]; omega)))
    refine go_a (pc' := 50) (ls' := [some (.ref x), some (.ref t)]) (st' := [.ref x]) rfl rfl ?_
    refine go_get (v := .ref ((x + 1))) rfl hC.1 rfl rfl ?_
    refine go_a (pc' := 54) (ls' := [some (.ref x), some (.ref t)]) (st' := [.ref x, .ref ((x + 1))]) rfl rfl ?_
    refine go_get (v := .int (iI m)) rfl hC.1 rfl rfl ?_
    refine go_a (pc' := 58) (ls' := [some (.ref x), some (.ref t)]) (st' := [.ref t, .int (iI m), .ref ((x + 1))]) rfl rfl ?_
    refine mk_ast rfl hC.2.1 (Nat.le_succ_of_le hC.2.2.1.2.2) Lt.1 rfl (by omega) (by omega) (by decide) ?_
    have F1 : KFE x hp (hp.set (x + 1) (.inl (.object "ClauseKernel$Term", xa_r 30 (so O m (some t))))) := KFE_set1 hC.2.1 (by show (xa_r 30 _).length = (xa_r 30 _).length; rw [xa_r_len, xa_r_len])
    have c1 : (hp.set (x + 1) (.inl (.object "ClauseKernel$Term", xa_r 30 (so O m (some t)))))[x]? = some (CLo x m w b) := by
      rw [List.getElem?_set_ne (by omega)]
      exact hC.1
    have c2 : (hp.set (x + 1) (.inl (.object "ClauseKernel$Term", xa_r 30 (so O m (some t)))))[x + 1]? = some (.inl (.object "ClauseKernel$Term", xa_r 30 (so O m (some t)))) := List.getElem?_set_self (List.getElem?_eq_some_iff.mp hC.2.1).1
    have T1 : ∀ (a : Nat) (n : Int) (f : Int → Int), TM c hp s u a n f → TM c (hp.set (x + 1) (.inl (.object "ClauseKernel$Term", xa_r 30 (so O m (some t))))) s u a n f := fun a n f q => KFE_TM hC.1 hC.2.1 F1 q
    generalize hp.set (x + 1) (.inl (.object "ClauseKernel$Term", xa_r 30 (so O m (some t)))) = h1 at F1 c1 c2 T1 ⊢
    show xx_go (xt_P z) (d + 2) 261 59 [some (.ref x), some (.ref t)] [] h1 _
    obtain ⟨qt1, Lt1, -, -⟩ := TMq (T1 _ _ _ hT)
    refine go_a (pc' := 60) (ls' := [some (.ref x), some (.ref t)]) (st' := [.ref x]) rfl rfl ?_
    refine go_a (pc' := 61) (ls' := [some (.ref x), some (.ref t)]) (st' := [.ref x, .ref x]) rfl rfl ?_
    refine go_get (v := .int (iI m)) rfl c1 rfl rfl ?_
    refine go_a (pc' := 65) (ls' := [some (.ref x), some (.ref t)]) (st' := [.int (iI 1), .int (iI m), .ref x]) rfl rfl ?_
    refine mi_add rfl ?_
    refine go_put rfl c1 rfl rfl hC.2.2.1.2.2 (show 1 < 4 by decide) rfl rfl ?_
    show xx_go (xt_P z) (d + 2) 261 69 [some (.ref x), some (.ref t)] [] (h1.set x (CLo x (m + 1) w b)) _
    have F2 : KFE x h1 (h1.set x (CLo x (m + 1) w b)) := KFE_set c1 CLo_sz
    have d1 : (h1.set x (CLo x (m + 1) w b))[x]? = some (CLo x (m + 1) w b) := List.getElem?_set_self (List.getElem?_eq_some_iff.mp c1).1
    have d2 : (h1.set x (CLo x (m + 1) w b))[x + 1]? = some (.inl (.object "ClauseKernel$Term", xa_r 30 (so O m (some t)))) := by
      rw [List.getElem?_set_ne (by omega)]
      exact c2
    have T2 : ∀ (a : Nat) (n : Int) (f : Int → Int), TM c h1 s u a n f → TM c (h1.set x (CLo x (m + 1) w b)) s u a n f := fun a n f q => KFE_TM c1 c2 F2 q
    generalize h1.set x (CLo x (m + 1) w b) = h2 at F2 d1 d2 T2 ⊢
    obtain ⟨qt2, Lt2, -, -⟩ := TMq (T2 _ _ _ (T1 _ _ _ hT))
    refine go_a (pc' := 70) (ls' := [some (.ref x), some (.ref t)]) (st' := [.ref x]) rfl rfl ?_
    refine go_a (pc' := 71) (ls' := [some (.ref x), some (.ref t)]) (st' := [.ref x, .ref x]) rfl rfl ?_
    refine go_get (v := .int (iI w)) rfl d1 rfl rfl ?_
    refine go_a (pc' := 75) (ls' := [some (.ref x), some (.ref t)]) (st' := [.ref t, .int (iI w), .ref x]) rfl rfl ?_
    refine go_v (m := 229) (as := [.ref t]) (r := [.int (iI w), .ref x]) rfl rfl rfl Lt2.1 rfl rfl (kg_length z (d + 1) t qt2 nt ft h2 Lt2) (fun v h3 hq => ?_)
    obtain ⟨rfl, e⟩ := hq
    rw [e]
    clear e h3
    show xx_go (xt_P z) (d + 2) 261 78 [some (.ref x), some (.ref t)] [.int (iI nt), .int (iI w), .ref x] h2 _
    refine mi_add rfl ?_
    refine go_put rfl d1 rfl rfl hC.2.2.1.2.2 (show 2 < 4 by decide) rfl rfl ?_
    have F3 : KFE x h2 (h2.set x (CLo x (m + 1) (w + nt) b)) := KFE_set d1 CLo_sz
    refine go_r rfl rfl rfl rfl rfl rfl ⟨rfl, KFE_tr F1 (KFE_tr F2 F3), b, _, by unfold clA; rw [if_neg hs, if_neg (show ¬ (30 ≤ (ol m nO fO).length ∨ 400 < zs (ol m nO fO) + (rl nt ft).length) by rw [ol_len, rl_len]; omega)], m + 1, w + nt, so O m (some t), so nO m nt, so fO m ft, ⟨List.getElem?_set_self (List.getElem?_eq_some_iff.mp d1).1, ?_, hC.2.2.1, by omega, ⟨?_, by omega, by omega⟩, hC.2.2.2.2.2.1, fun j p q => ?_⟩, by rw [ol_s mb.1, so_self, so_self, ol_ext (n2 := nO) (f2 := fO) (fun i a b => ⟨so_ne (by omega), so_ne (by omega)⟩)]⟩
    · show (h2.set x (CLo x (m + 1) (w + nt) b))[x + 1]? = _
      rw [List.getElem?_set_ne (by omega)]
      exact d2
    · rw [show (m + 1).toNat = m.toNat + 1 by omega]
      show w + nt = sq (so nO m nt) m.toNat + so nO m nt (m.toNat : Int)
      rw [show ((m.toNat : Nat) : Int) = m by omega, so_self, sq_ext (g := nO) (fun i a b => so_ne (by omega)), ← wb.1]
    · by_cases cj : j = m
      · rw [cj, so_self, so_self, so_self]
        exact ⟨t, rfl, KFE_TM d1 d2 F3 (T2 _ _ _ (T1 _ _ _ hT))⟩
      · rw [so_ne cj, so_ne cj, so_ne cj]
        obtain ⟨a, ea, Ta⟩ := hC.2.2.2.2.2.2 j p (by omega)
        exact ⟨a, ea, KFE_TM d1 d2 F3 (T2 _ _ _ (T1 _ _ _ Ta))⟩
