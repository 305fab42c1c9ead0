def sp_nu : ob_T → Int
  | .num n => n
  | _ => 0
def sp_isp : ob_T → Bool
  | .add _ _ => true
  | _ => false
def sp_isn : ob_T → Bool
  | .num _ => true
  | _ => false
def sp_isv : ob_T → Bool
  | .var _ => true
  | _ => false
def sp_ca : ob_T → ob_T
  | .add a _ => a
  | _ => .var 31361
def sp_cd : ob_T → ob_T
  | .add _ b => b
  | _ => .var 31361
noncomputable def sp_tr (p : Prop) : ob_T := ifc p (.var 20) (.var 31361)
noncomputable def sp_vl (i : Int) (a b c : ob_T) : Option ob_T := if i = 3 then some (ifc (a = .var 31361) c b) else if i = 4 then some (sp_tr (a = b)) else if i = 5 then some (.add a b) else if i = 6 then some (sp_tr (a = .var 31361 ∨ b ≠ .var 31361)) else if i = 7 then (if 4611686018427387903 < sp_nu a + sp_nu b then none else some (.num (sp_nu a + sp_nu b))) else if i = 8 then some (.num (if sp_nu a - sp_nu b < 0 then 0 else sp_nu a - sp_nu b)) else if i = 9 then some (sp_tr (sp_nu a < sp_nu b)) else if i = 10 then some (sp_tr (sp_isp a = true)) else if i = 11 then some (sp_ca a) else if i = 12 then some (sp_cd a) else if i = 13 then some (sp_tr (sp_isn a = true)) else if i = 14 then some (sp_tr (sp_isv a = true)) else if i = 15 then some (.num (ob_h a)) else some (sp_tr (a = .var 31361))
theorem kc_valueX (z : Value) (d c : Nat) (k : Int) (hp : xx_H) (s : KS) (hK : KI c hp s) (hB : KB s) (hX : KX s) (k0 : -2147483648 ≤ k) (k1 : k ≤ 2147483647) : xx_cl (xt_P z) (d + 2) 255 [.ref (c + 4), .int (iI k)] hp (fun v h1 => (∃ x : Int, v = some (.long (Int64.ofInt x)) ∧ 0 ≤ x ∧ x < 4611686018427387904 ∧ (OB s k → x = sp_nu (DK s.N k))) ∧ h1 = hp) := by
  have b := hB.2.2.2.2.2.1
  refine cl_go rfl ?_
  show xx_go (xt_P z) (d + 1) 255 0 [some (.ref (c + 4)), some (.int (iI k))] [] hp _
  refine go_a (pc' := 1) (ls' := [some (.ref (c + 4)), some (.int (iI k))]) (st' := [.ref (c + 4)]) rfl rfl ?_
  refine go_a (pc' := 2) (ls' := [some (.ref (c + 4)), some (.int (iI k))]) (st' := [.int (iI k), .ref (c + 4)]) rfl rfl ?_
  refine go_v (m := 256) (as := [.ref (c + 4), .int (iI k)]) (r := []) rfl rfl rfl (hK.1 3 (by decide)) rfl rfl (kc_isNatural z d c k hp s hK hB k0 k1) (fun v h1 hq => ?_)
  obtain ⟨hq, e⟩ := hq
  rw [e]
  rcases hq with ⟨q1, rfl⟩ | ⟨q1, rfl⟩
  · show xx_go (xt_P z) (d + 1) 255 5 [some (.ref (c + 4)), some (.int (iI k))] [.int (iI 1)] hp _
    refine mi_eq0 (t := 17) rfl rfl (by omega) (by omega) (fun q => absurd q (by decide)) (fun _ => ?_)
    refine go_a (pc' := 9) (ls' := [some (.ref (c + 4)), some (.int (iI k))]) (st' := [.ref (c + 4)]) rfl rfl ?_
    refine go_get (v := .ref (s.P 8)) rfl (hK.1 3 (by decide)) rfl rfl ?_
    refine go_a (pc' := 13) (ls' := [some (.ref (c + 4)), some (.int (iI k))]) (st' := [.int (iI k), .ref (s.P 8)]) rfl rfl ?_
    refine mi_lld (n := (s.C 8).toNat) (f := s.N) rfl (hK.1 29 (by decide)) (by omega) (by omega) (by omega) ?_
    refine go_a (pc' := 18) (ls' := [some (.ref (c + 4)), some (.int (iI k))]) (st' := [.long (Int64.ofInt (s.N k))]) rfl rfl ?_
    exact go_r rfl rfl rfl rfl rfl rfl ⟨⟨_, rfl, by omega, by omega, fun _ => by rw [DK_n (by omega) (by omega)]; rfl⟩, rfl⟩
  · show xx_go (xt_P z) (d + 1) 255 5 [some (.ref (c + 4)), some (.int (iI k))] [.int (iI 0)] hp _
    refine mi_eq0 (t := 17) rfl rfl (by omega) (by omega) (fun _ => ?_) (fun q => absurd rfl q)
    refine go_a (pc' := 18) (ls' := [some (.ref (c + 4)), some (.int (iI k))]) (st' := [.long (Int64.ofInt 0)]) rfl rfl ?_
    have zz : OB s k → 0 = sp_nu (DK s.N k) := by
      intro ok
      unfold OB at ok
      by_cases n0 : s.N k < 0
      · rw [DK_p hB hX ok.1 ok.2 n0]
        rfl
      · rw [DK_s (by omega)]
        rfl
    exact go_r rfl rfl rfl rfl rfl rfl ⟨⟨0, rfl, by decide, by decide, zz⟩, rfl⟩
theorem DK_kind {s : KS} {k : Int} (hB : KB s) (hX : KX s) (ok : OB s k) : (sp_isp (DK s.N k) = true ↔ s.N k < 0) ∧ (sp_isn (DK s.N k) = true ↔ 0 ≤ s.N k ∧ s.N k < 4611686018427387904) ∧ (sp_isv (DK s.N k) = true ↔ 4611686018427387904 ≤ s.N k) := by
  by_cases n : s.N k < 0
  · rw [DK_p hB hX ok.1 ok.2 n]
    exact ⟨⟨fun _ => n, fun _ => rfl⟩, ⟨fun q => (by cases q), fun q => absurd q.1 (by omega)⟩, ⟨fun q => (by cases q), fun q => absurd q (by omega)⟩⟩
  · by_cases v : 4611686018427387904 ≤ s.N k
    · rw [DK_s v]
      exact ⟨⟨fun q => (by cases q), fun q => absurd q n⟩, ⟨fun q => (by cases q), fun q => absurd q.2 (by omega)⟩, ⟨fun _ => v, fun _ => rfl⟩⟩
    · rw [DK_n (by omega) (by omega)]
      exact ⟨⟨fun q => (by cases q), fun q => absurd q n⟩, ⟨fun _ => by omega, fun _ => rfl⟩, ⟨fun q => (by cases q), fun q => absurd q v⟩⟩
theorem DK_side {s : KS} {k : Int} (hB : KB s) (hX : KX s) (ok : OB s k) (hN : DK s.N 0 = .var 31361) : DK s.N (fst s k) = sp_ca (DK s.N k) ∧ DK s.N (rst s k) = sp_cd (DK s.N k) := by
  unfold fst rst
  by_cases n : s.N k < 0
  · rw [if_pos ⟨ok.1, ok.2, n⟩, if_pos ⟨ok.1, ok.2, n⟩, DK_p hB hX ok.1 ok.2 n]
    exact ⟨rfl, rfl⟩
  · rw [if_neg (fun q => n q.2.2), if_neg (fun q => n q.2.2), hN]
    by_cases v : 4611686018427387904 ≤ s.N k
    · rw [DK_s v]
      exact ⟨rfl, rfl⟩
    · rw [DK_n (by omega) (by omega)]
      exact ⟨rfl, rfl⟩
theorem lmax0 {x : Int} (h1 : -9223372036854775808 ≤ x) (h2 : x < 9223372036854775808) : (if Int64.ofInt x < Int64.ofInt 0 then Int64.ofInt 0 else Int64.ofInt x) = Int64.ofInt (if x < 0 then 0 else x) := by
  have e : (Int64.ofInt x < Int64.ofInt 0) ↔ x < 0 := by
    rw [Int64.lt_iff_toInt_lt, Int64.toInt_ofInt_of_le h1 h2, Int64.toInt_ofInt_of_le (by decide) (by decide)]
  by_cases w : x < 0
  · rw [if_pos (e.mpr w), if_pos w]
  · rw [if_neg (fun q => w (e.mp q)), if_neg w]
theorem kq_valueOf (z : Value) (d c : Nat) (a : Nat) (n u : Int) (f : Int → Int) (hp : xx_H) (s : KS) (hK : KI c hp s) (hB : KB s) (hC : CX s) (hN : DK s.N 0 = .var 31361) (hN1 : DK s.N 1 = .var 20) (c5 : 3 ≤ f 0 / 32) (c4 : tk (f 0) = tkF (f 0 / 32 - 3)) (lt : s.I 8 < 30000) (hT : TM c hp s u a n f) (hu : u ≤ s.I 8) (c1 : f 0 % 4 = 2) (c2 : f 0 / 32 < 17) (c3 : ∀ i : Int, 1 ≤ i → i < n → f i % 4 = 1) : xx_cl (xt_P z) (d + 5) 253 [.ref (c + 30), .ref a] hp (fun v h1 => ∃ (y : Int) (s1 : KS), v = some (.int (iI y)) ∧ KI c h1 s1 ∧ KB s1 ∧ CX s1 ∧ kx c hp s h1 s1 0 0 ∧ KGR s s1 1 ∧ (y = -1 ∨ OB s1 y) ∧ (y = -1 → sp_vl (f 0 / 32) (DK s.N (tat n f 1 / 32)) (DK s.N (tat n f 2 / 32)) (DK s.N (tat n f 3 / 32)) = none) ∧ (y ≠ -1 → sp_vl (f 0 / 32) (DK s.N (tat n f 1 / 32)) (DK s.N (tat n f 2 / 32)) (DK s.N (tat n f 3 / 32)) = some (DK s1.N y))) := by
  have n_ := TM_n hT
  obtain ⟨q, La, Laa, Laq⟩ := TMq hT
  have b8 := hB.2.2.2.2.2.1
  have t0 : tat n f 0 = f 0 := if_pos (by omega)
  have V0 := hT.2.2 0 (by decide) (by omega)
  have f0 := V0.1
  have f1 := V0.2.1
  have r1 := tat_R (n := n) La.2.2.2 1
  have r2 := tat_R (n := n) La.2.2.2 2
  have r3 := tat_R (n := n) La.2.2.2 3
  have oi : ∀ i : Int, 1 ≤ i → i < n → OB s (tat n f i / 32) ∧ tk (f i) = 0 := by
    intro i i0 i1
    rw [tat_in (by omega) i1]
    have V := hT.2.2 i (by omega) i1
    have := c3 i i0 i1
    refine ⟨⟨by have := V.1; omega, by have := V.2.2.2; omega⟩, ?_⟩
    rcases V.2.2.1 with w | w
    · omega
    · exact w.2
  have hW := hT.2.1
  have e1 : sm f 1 = tk (f 0) - 1 := by
    show 0 + (tk (f 0) - 1) = _
    omega
  have hX : KX s := ⟨hC.1, hC.2.1⟩
  have sa : 1 ≤ tk (f 0) → OB s (tat n f 1 / 32) := fun w => (oi 1 (by decide) (WFT_lt hW (k := 1) (by omega) (by omega))).1
  have sb : 2 ≤ tk (f 0) → OB s (tat n f 1 / 32) ∧ OB s (tat n f 2 / 32) := by
    intro w
    have l1 := WFT_lt hW (k := 1) (by omega) (by omega)
    have g1 := (oi 1 (by decide) (by omega)).2
    have e2 : sm f 2 = sm f 1 + (tk (f 1) - 1) := rfl
    have l2 := WFT_lt hW (k := 2) (by omega) (by omega)
    exact ⟨sa (by omega), (oi 2 (by decide) (by omega)).1⟩
  have tk2 : 4 ≤ f 0 / 32 → f 0 / 32 ≤ 9 → 2 ≤ tk (f 0) := by
    intro i0 i1
    rw [c4]
    unfold tkF
    rw [if_neg (by omega), if_neg (by omega), if_pos (by omega)]
    decide
  have tk1 : 10 ≤ f 0 / 32 → 1 ≤ tk (f 0) := by
    intro i0
    rw [c4]
    unfold tkF
    rw [if_neg (by omega), if_neg (by omega), if_neg (by omega)]
    decide
  have o0 : OB s 0 := ⟨by decide, by omega⟩
  have inj : ∀ j k : Int, OB s j → OB s k → (DK s.N j = DK s.N k ↔ j = k) := fun j k a b => ⟨DK_inj hB hX a.1 a.2 b.1 b.2, fun e => by rw [e]⟩
  have nl : ∀ k : Int, OB s k → (DK s.N k = .var 31361 ↔ k = 0) := fun k a => by
    rw [← hN]
    exact inj k 0 a o0
  have trY : ∀ (p : Prop) (y : Int), y = 1 → p → some (sp_tr p) = some (DK s.N y) := by
    intro p y e h
    unfold sp_tr
    rw [ifc_pos h, e, hN1]
  have trN : ∀ (p : Prop) (y : Int), y = 0 → ¬ p → some (sp_tr p) = some (DK s.N y) := by
    intro p y e h
    unfold sp_tr
    rw [ifc_neg h, e, hN]
  have s3 : f 0 / 32 = 3 → 1 < n ∧ 2 < n ∧ 3 < n := by
    intro w
    have tk3 : tk (f 0) = 3 := by
      rcases V0.2.2.1 with w2 | w2
      · exact w2.2.1 w
      · omega
    have l1 := WFT_lt hW (k := 1) (by omega) (by omega)
    have g1 := (oi 1 (by decide) (by omega)).2
    have e2 : sm f 2 = sm f 1 + (tk (f 1) - 1) := rfl
    have l2 := WFT_lt hW (k := 2) (by omega) (by omega)
    have g2 := (oi 2 (by decide) (by omega)).2
    have e3 : sm f 3 = sm f 2 + (tk (f 2) - 1) := rfl
    have l3 := WFT_lt hW (k := 3) (by omega) (by omega)
    omega
  have s5 : f 0 / 32 = 5 → 1 < n ∧ 2 < n := by
    intro w
    have tk5 : tk (f 0) = 2 := by
      rcases V0.2.2.1 with w2 | w2
      · exact w2.2.2 w
      · omega
    have l1 := WFT_lt hW (k := 1) (by omega) (by omega)
    have g1 := (oi 1 (by decide) (by omega)).2
    have e2 : sm f 2 = sm f 1 + (tk (f 1) - 1) := rfl
    have l2 := WFT_lt hW (k := 2) (by omega) (by omega)
    omega
  refine cl_go rfl ?_
  show xx_go (xt_P z) (d + 4) 253 0 [some (.ref (c + 30)), some (.ref a), none, none, none, none] [] hp _
  refine go_a (pc' := 1) (ls' := [some (.ref (c + 30)), some (.ref a), none, none, none, none]) (st' := [.ref a]) rfl rfl ?_
  refine go_a (pc' := 2) (ls' := [some (.ref (c + 30)), some (.ref a), none, none, none, none]) (st' := [.int (iI 1), .ref a]) rfl rfl ?_
  refine go_v (m := 230) (as := [.ref a, .int (iI 1)]) (r := []) rfl rfl rfl La.1 rfl rfl (kg_at z (d + 3) 1 a q n f hp La (by decide) (by decide)) (fun v h3 hq => ?_)
  obtain ⟨rfl, e9⟩ := hq
  rw [e9]
  clear e9 h3
  show xx_go (xt_P z) (d + 4) 253 5 [some (.ref (c + 30)), some (.ref a), none, none, none, none] [.int (iI (tat n f 1))] hp _
  refine go_s (m := 251) (as := [.int (iI (tat n f 1))]) (r := []) rfl rfl rfl rfl (kg_what z (d + 3) (tat n f 1) hp (by omega) (by omega)) (fun v h3 hq => ?_)
  obtain ⟨rfl, e9⟩ := hq
  rw [e9]
  clear e9 h3
  show xx_go (xt_P z) (d + 4) 253 8 [some (.ref (c + 30)), some (.ref a), none, none, none, none] [.int (iI (tat n f 1 / 32))] hp _
  refine go_a (pc' := 9) (ls' := [some (.ref (c + 30)), some (.ref a), some (.int (iI (tat n f 1 / 32))), none, none, none]) (st' := []) rfl rfl ?_
  refine go_a (pc' := 10) (ls' := [some (.ref (c + 30)), some (.ref a), some (.int (iI (tat n f 1 / 32))), none, none, none]) (st' := [.ref a]) rfl rfl ?_
  refine go_a (pc' := 11) (ls' := [some (.ref (c + 30)), some (.ref a), some (.int (iI (tat n f 1 / 32))), none, none, none]) (st' := [.int (iI 2), .ref a]) rfl rfl ?_
  refine go_v (m := 230) (as := [.ref a, .int (iI 2)]) (r := []) rfl rfl rfl La.1 rfl rfl (kg_at z (d + 3) 2 a q n f hp La (by decide) (by decide)) (fun v h3 hq => ?_)
  obtain ⟨rfl, e9⟩ := hq
  rw [e9]
  clear e9 h3
  show xx_go (xt_P z) (d + 4) 253 14 [some (.ref (c + 30)), some (.ref a), some (.int (iI (tat n f 1 / 32))), none, none, none] [.int (iI (tat n f 2))] hp _
  refine go_s (m := 251) (as := [.int (iI (tat n f 2))]) (r := []) rfl rfl rfl rfl (kg_what z (d + 3) (tat n f 2) hp (by omega) (by omega)) (fun v h3 hq => ?_)
  obtain ⟨rfl, e9⟩ := hq
  rw [e9]
  clear e9 h3
  show xx_go (xt_P z) (d + 4) 253 17 [some (.ref (c + 30)), some (.ref a), some (.int (iI (tat n f 1 / 32))), none, none, none] [.int (iI (tat n f 2 / 32))] hp _
  refine go_a (pc' := 18) (ls' := [some (.ref (c + 30)), some (.ref a), some (.int (iI (tat n f 1 / 32))), some (.int (iI (tat n f 2 / 32))), none, none]) (st' := []) rfl rfl ?_
  refine go_a (pc' := 19) (ls' := [some (.ref (c + 30)), some (.ref a), some (.int (iI (tat n f 1 / 32))), some (.int (iI (tat n f 2 / 32))), none, none]) (st' := [.ref a]) rfl rfl ?_
  refine go_a (pc' := 20) (ls' := [some (.ref (c + 30)), some (.ref a), some (.int (iI (tat n f 1 / 32))), some (.int (iI (tat n f 2 / 32))), none, none]) (st' := [.int (iI 0), .ref a]) rfl rfl ?_
  refine go_v (m := 230) (as := [.ref a, .int (iI 0)]) (r := []) rfl rfl rfl La.1 rfl rfl (kg_at z (d + 3) 0 a q n f hp La (by decide) (by decide)) (fun v h3 hq => ?_)
  obtain ⟨rfl, e9⟩ := hq
  rw [e9, t0]
  clear e9 h3
  show xx_go (xt_P z) (d + 4) 253 23 [some (.ref (c + 30)), some (.ref a), some (.int (iI (tat n f 1 / 32))), some (.int (iI (tat n f 2 / 32))), none, none] [.int (iI (f 0))] hp _
  refine go_s (m := 251) (as := [.int (iI (f 0))]) (r := []) rfl rfl rfl rfl (kg_what z (d + 3) (f 0) hp (by omega) (by omega)) (fun v h3 hq => ?_)
  obtain ⟨rfl, e9⟩ := hq
  rw [e9]
  clear e9 h3
  show xx_go (xt_P z) (d + 4) 253 26 [some (.ref (c + 30)), some (.ref a), some (.int (iI (tat n f 1 / 32))), some (.int (iI (tat n f 2 / 32))), none, none] [.int (iI (f 0 / 32))] hp _
  have hc : f 0 / 32 = 0 ∨ f 0 / 32 = 1 ∨ f 0 / 32 = 2 ∨ f 0 / 32 = 3 ∨ f 0 / 32 = 4 ∨ f 0 / 32 = 5 ∨ f 0 / 32 = 6 ∨ f 0 / 32 = 7 ∨ f 0 / 32 = 8 ∨ f 0 / 32 = 9 ∨ f 0 / 32 = 10 ∨ f 0 / 32 = 11 ∨ f 0 / 32 = 12 ∨ f 0 / 32 = 13 ∨ f 0 / 32 = 14 ∨ f 0 / 32 = 15 ∨ f 0 / 32 = 16 := by omega
  rcases hc with hc | hc | hc | hc | hc | hc | hc | hc | hc | hc | hc | hc | hc | hc | hc | hc | hc
  · omega
  · omega
  · omega
  · rw [hc]
    refine go_a (pc' := 92) (ls' := [some (.ref (c + 30)), some (.ref a), some (.int (iI (tat n f 1 / 32))), some (.int (iI (tat n f 2 / 32))), none, none]) (st' := []) rfl rfl ?_
    have s9 := s3 hc
    refine go_a (pc' := 93) (ls' := [some (.ref (c + 30)), some (.ref a), some (.int (iI (tat n f 1 / 32))), some (.int (iI (tat n f 2 / 32))), none, none]) (st' := [.int (iI (tat n f 1 / 32))]) rfl rfl ?_
    refine mi_eq0 (t := 100) rfl rfl (by omega) (by omega) (fun w1 => ?_) (fun w1 => ?_)
    · refine go_a (pc' := 101) (ls' := [some (.ref (c + 30)), some (.ref a), some (.int (iI (tat n f 1 / 32))), some (.int (iI (tat n f 2 / 32))), none, none]) (st' := [.ref a]) rfl rfl ?_
      refine go_a (pc' := 102) (ls' := [some (.ref (c + 30)), some (.ref a), some (.int (iI (tat n f 1 / 32))), some (.int (iI (tat n f 2 / 32))), none, none]) (st' := [.int (iI 3), .ref a]) rfl rfl ?_
      refine go_v (m := 230) (as := [.ref a, .int (iI 3)]) (r := []) rfl rfl rfl La.1 rfl rfl (kg_at z (d + 3) 3 a q n f hp La (by decide) (by decide)) (fun v h3 hq => ?_)
      obtain ⟨rfl, e9⟩ := hq
      rw [e9]
      clear e9 h3
      show xx_go (xt_P z) (d + 4) 253 105 [some (.ref (c + 30)), some (.ref a), some (.int (iI (tat n f 1 / 32))), some (.int (iI (tat n f 2 / 32))), none, none] [.int (iI (tat n f 3))] hp _
      refine go_s (m := 251) (as := [.int (iI (tat n f 3))]) (r := []) rfl rfl rfl rfl (kg_what z (d + 3) (tat n f 3) hp (by omega) (by omega)) (fun v h3 hq => ?_)
      obtain ⟨rfl, e9⟩ := hq
      rw [e9]
      clear e9 h3
      show xx_go (xt_P z) (d + 4) 253 108 [some (.ref (c + 30)), some (.ref a), some (.int (iI (tat n f 1 / 32))), some (.int (iI (tat n f 2 / 32))), none, none] [.int (iI (tat n f 3 / 32))] hp _
      have oy := (oi 3 (by decide) s9.2.2).1
      have on := nl _ (oi 1 (by decide) s9.1).1
      exact go_r rfl rfl rfl rfl rfl rfl ⟨_, s, rfl, hK, hB, hC, kx_rf, KGR_w KGR_rf (by decide), Or.inr oy, fun q => absurd q (by have := oy.1; omega), fun _ => by show some (ifc _ _ _) = _; rw [ifc_pos (on.mpr (by omega))]⟩
    · refine go_a (pc' := 97) (ls' := [some (.ref (c + 30)), some (.ref a), some (.int (iI (tat n f 1 / 32))), some (.int (iI (tat n f 2 / 32))), none, none]) (st' := [.int (iI (tat n f 2 / 32))]) rfl rfl ?_
      refine go_a (pc' := 108) (ls' := [some (.ref (c + 30)), some (.ref a), some (.int (iI (tat n f 1 / 32))), some (.int (iI (tat n f 2 / 32))), none, none]) (st' := [.int (iI (tat n f 2 / 32))]) rfl rfl ?_
      have oy := (oi 2 (by decide) s9.2.1).1
      have on := nl _ (oi 1 (by decide) s9.1).1
      exact go_r rfl rfl rfl rfl rfl rfl ⟨_, s, rfl, hK, hB, hC, kx_rf, KGR_w KGR_rf (by decide), Or.inr oy, fun q => absurd q (by have := oy.1; omega), fun _ => by show some (ifc _ _ _) = _; rw [ifc_neg (fun q => absurd (on.mp q) (by omega))]⟩
  · have ob := sb (tk2 (by omega) (by omega))
    rw [hc]
    refine go_a (pc' := 109) (ls' := [some (.ref (c + 30)), some (.ref a), some (.int (iI (tat n f 1 / 32))), some (.int (iI (tat n f 2 / 32))), none, none]) (st' := []) rfl rfl ?_
    refine go_a (pc' := 110) (ls' := [some (.ref (c + 30)), some (.ref a), some (.int (iI (tat n f 1 / 32))), some (.int (iI (tat n f 2 / 32))), none, none]) (st' := [.int (iI (tat n f 1 / 32))]) rfl rfl ?_
    refine go_a (pc' := 111) (ls' := [some (.ref (c + 30)), some (.ref a), some (.int (iI (tat n f 1 / 32))), some (.int (iI (tat n f 2 / 32))), none, none]) (st' := [.int (iI (tat n f 2 / 32)), .int (iI (tat n f 1 / 32))]) rfl rfl ?_
    refine mi_ne (t := 118) rfl rfl (by omega) (by omega) (by omega) (by omega) (fun w1 => ?_) (fun w1 => ?_)
    · refine go_a (pc' := 119) (ls' := [some (.ref (c + 30)), some (.ref a), some (.int (iI (tat n f 1 / 32))), some (.int (iI (tat n f 2 / 32))), none, none]) (st' := [.int (iI 0)]) rfl rfl ?_
      refine go_s (m := 254) (as := [.int (iI 0)]) (r := []) rfl rfl rfl rfl (kq_truth z (d + 3) 0 hp (by decide) (by decide)) (fun v h3 hq => ?_)
      obtain ⟨⟨y, rfl, hy, hy2⟩, e9⟩ := hq
      rw [e9]
      clear e9 h3
      show xx_go (xt_P z) (d + 4) 253 122 [some (.ref (c + 30)), some (.ref a), some (.int (iI (tat n f 1 / 32))), some (.int (iI (tat n f 2 / 32))), none, none] [.int (iI y)] hp _
      have yz : y = 0 := by
        rw [hy2]
        rfl
      have vl : sp_vl 4 (DK s.N (tat n f 1 / 32)) (DK s.N (tat n f 2 / 32)) (DK s.N (tat n f 3 / 32)) = some (DK s.N y) := by
        exact trN _ y yz (by simp only [inj _ _ ob.1 ob.2]; omega)
      exact go_r rfl rfl rfl rfl rfl rfl ⟨y, s, rfl, hK, hB, hC, kx_rf, KGR_w KGR_rf (by decide), Or.inr ⟨by omega, by omega⟩, fun q => absurd q (by omega), fun _ => vl⟩
    · refine go_a (pc' := 115) (ls' := [some (.ref (c + 30)), some (.ref a), some (.int (iI (tat n f 1 / 32))), some (.int (iI (tat n f 2 / 32))), none, none]) (st' := [.int (iI 1)]) rfl rfl ?_
      refine go_a (pc' := 119) (ls' := [some (.ref (c + 30)), some (.ref a), some (.int (iI (tat n f 1 / 32))), some (.int (iI (tat n f 2 / 32))), none, none]) (st' := [.int (iI 1)]) rfl rfl ?_
      refine go_s (m := 254) (as := [.int (iI 1)]) (r := []) rfl rfl rfl rfl (kq_truth z (d + 3) 1 hp (by decide) (by decide)) (fun v h3 hq => ?_)
      obtain ⟨⟨y, rfl, hy, hy2⟩, e9⟩ := hq
      rw [e9]
      clear e9 h3
      show xx_go (xt_P z) (d + 4) 253 122 [some (.ref (c + 30)), some (.ref a), some (.int (iI (tat n f 1 / 32))), some (.int (iI (tat n f 2 / 32))), none, none] [.int (iI y)] hp _
      have yz : y = 1 := by
        rw [hy2]
        rfl
      have vl : sp_vl 4 (DK s.N (tat n f 1 / 32)) (DK s.N (tat n f 2 / 32)) (DK s.N (tat n f 3 / 32)) = some (DK s.N y) := by
        exact trY _ y yz (by simp only [inj _ _ ob.1 ob.2]; omega)
      exact go_r rfl rfl rfl rfl rfl rfl ⟨y, s, rfl, hK, hB, hC, kx_rf, KGR_w KGR_rf (by decide), Or.inr ⟨by omega, by omega⟩, fun q => absurd q (by omega), fun _ => vl⟩
  · have ob := sb (tk2 (by omega) (by omega))
    rw [hc]
    refine go_a (pc' := 123) (ls' := [some (.ref (c + 30)), some (.ref a), some (.int (iI (tat n f 1 / 32))), some (.int (iI (tat n f 2 / 32))), none, none]) (st' := []) rfl rfl ?_
    have s9 := s5 hc
    have o1 := (oi 1 (by decide) s9.1).1
    have o2 := (oi 2 (by decide) s9.2).1
    refine go_a (pc' := 124) (ls' := [some (.ref (c + 30)), some (.ref a), some (.int (iI (tat n f 1 / 32))), some (.int (iI (tat n f 2 / 32))), none, none]) (st' := [.ref (c + 30)]) rfl rfl ?_
    refine go_get (v := .ref (c + 4)) rfl (hK.1 19 (by decide)) rfl rfl ?_
    refine go_a (pc' := 128) (ls' := [some (.ref (c + 30)), some (.ref a), some (.int (iI (tat n f 1 / 32))), some (.int (iI (tat n f 2 / 32))), none, none]) (st' := [.int (iI (tat n f 1 / 32)), .ref (c + 4)]) rfl rfl ?_
    refine go_a (pc' := 129) (ls' := [some (.ref (c + 30)), some (.ref a), some (.int (iI (tat n f 1 / 32))), some (.int (iI (tat n f 2 / 32))), none, none]) (st' := [.int (iI (tat n f 2 / 32)), .int (iI (tat n f 1 / 32)), .ref (c + 4)]) rfl rfl ?_
    refine go_v (m := 194) (as := [.ref (c + 4), .int (iI (tat n f 1 / 32)), .int (iI (tat n f 2 / 32))]) (r := []) rfl rfl rfl (hK.1 3 (by decide)) rfl rfl (kc_pairX z (d + 1) c (tat n f 1 / 32) (tat n f 2 / 32) hp s hK hB hC (by omega) o1.1 o1.2 o2.1 o2.2) (fun v h3 hq => ?_)
    obtain ⟨k5, s5_, rfl, K5, B5, C5, X5, G5, O5, -, D5⟩ := hq
    show xx_go (xt_P z) (d + 4) 253 132 [some (.ref (c + 30)), some (.ref a), some (.int (iI (tat n f 1 / 32))), some (.int (iI (tat n f 2 / 32))), none, none] [.int (iI k5)] h3 _
    exact go_r rfl rfl rfl rfl rfl rfl ⟨k5, s5_, rfl, K5, B5, C5, X5, G5, Or.inr O5, fun q => absurd q (by have := O5.1; omega), fun _ => by rw [D5]; rfl⟩
  · have ob := sb (tk2 (by omega) (by omega))
    rw [hc]
    refine go_a (pc' := 133) (ls' := [some (.ref (c + 30)), some (.ref a), some (.int (iI (tat n f 1 / 32))), some (.int (iI (tat n f 2 / 32))), none, none]) (st' := []) rfl rfl ?_
    refine go_a (pc' := 134) (ls' := [some (.ref (c + 30)), some (.ref a), some (.int (iI (tat n f 1 / 32))), some (.int (iI (tat n f 2 / 32))), none, none]) (st' := [.int (iI (tat n f 1 / 32))]) rfl rfl ?_
    refine mi_eq0 (t := 141) rfl rfl (by omega) (by omega) (fun w1 => ?_) (fun w1 => ?_)
    · refine go_a (pc' := 142) (ls' := [some (.ref (c + 30)), some (.ref a), some (.int (iI (tat n f 1 / 32))), some (.int (iI (tat n f 2 / 32))), none, none]) (st' := [.int (iI 1)]) rfl rfl ?_
      refine go_a (pc' := 146) (ls' := [some (.ref (c + 30)), some (.ref a), some (.int (iI (tat n f 1 / 32))), some (.int (iI (tat n f 2 / 32))), none, none]) (st' := [.int (iI 1)]) rfl rfl ?_
      refine go_s (m := 254) (as := [.int (iI 1)]) (r := []) rfl rfl rfl rfl (kq_truth z (d + 3) 1 hp (by decide) (by decide)) (fun v h3 hq => ?_)
      obtain ⟨⟨y, rfl, hy, hy2⟩, e9⟩ := hq
      rw [e9]
      clear e9 h3
      show xx_go (xt_P z) (d + 4) 253 149 [some (.ref (c + 30)), some (.ref a), some (.int (iI (tat n f 1 / 32))), some (.int (iI (tat n f 2 / 32))), none, none] [.int (iI y)] hp _
      have yz : y = 1 := by
        rw [hy2]
        rfl
      have vl : sp_vl 6 (DK s.N (tat n f 1 / 32)) (DK s.N (tat n f 2 / 32)) (DK s.N (tat n f 3 / 32)) = some (DK s.N y) := by
        exact trY _ y yz (by simp only [nl _ ob.1, nl _ ob.2, ne_eq]; omega)
      exact go_r rfl rfl rfl rfl rfl rfl ⟨y, s, rfl, hK, hB, hC, kx_rf, KGR_w KGR_rf (by decide), Or.inr ⟨by omega, by omega⟩, fun q => absurd q (by omega), fun _ => vl⟩
    · refine go_a (pc' := 138) (ls' := [some (.ref (c + 30)), some (.ref a), some (.int (iI (tat n f 1 / 32))), some (.int (iI (tat n f 2 / 32))), none, none]) (st' := [.int (iI (tat n f 2 / 32))]) rfl rfl ?_
      refine mi_eq0 (t := 145) rfl rfl (by omega) (by omega) (fun w1 => ?_) (fun w1 => ?_)
      · refine go_a (pc' := 146) (ls' := [some (.ref (c + 30)), some (.ref a), some (.int (iI (tat n f 1 / 32))), some (.int (iI (tat n f 2 / 32))), none, none]) (st' := [.int (iI 0)]) rfl rfl ?_
        refine go_s (m := 254) (as := [.int (iI 0)]) (r := []) rfl rfl rfl rfl (kq_truth z (d + 3) 0 hp (by decide) (by decide)) (fun v h3 hq => ?_)
        obtain ⟨⟨y, rfl, hy, hy2⟩, e9⟩ := hq
        rw [e9]
        clear e9 h3
        show xx_go (xt_P z) (d + 4) 253 149 [some (.ref (c + 30)), some (.ref a), some (.int (iI (tat n f 1 / 32))), some (.int (iI (tat n f 2 / 32))), none, none] [.int (iI y)] hp _
        have yz : y = 0 := by
          rw [hy2]
          rfl
        have vl : sp_vl 6 (DK s.N (tat n f 1 / 32)) (DK s.N (tat n f 2 / 32)) (DK s.N (tat n f 3 / 32)) = some (DK s.N y) := by
          exact trN _ y yz (by simp only [nl _ ob.1, nl _ ob.2, ne_eq]; omega)
        exact go_r rfl rfl rfl rfl rfl rfl ⟨y, s, rfl, hK, hB, hC, kx_rf, KGR_w KGR_rf (by decide), Or.inr ⟨by omega, by omega⟩, fun q => absurd q (by omega), fun _ => vl⟩
      · refine go_a (pc' := 142) (ls' := [some (.ref (c + 30)), some (.ref a), some (.int (iI (tat n f 1 / 32))), some (.int (iI (tat n f 2 / 32))), none, none]) (st' := [.int (iI 1)]) rfl rfl ?_
        refine go_a (pc' := 146) (ls' := [some (.ref (c + 30)), some (.ref a), some (.int (iI (tat n f 1 / 32))), some (.int (iI (tat n f 2 / 32))), none, none]) (st' := [.int (iI 1)]) rfl rfl ?_
        refine go_s (m := 254) (as := [.int (iI 1)]) (r := []) rfl rfl rfl rfl (kq_truth z (d + 3) 1 hp (by decide) (by decide)) (fun v h3 hq => ?_)
        obtain ⟨⟨y, rfl, hy, hy2⟩, e9⟩ := hq
        rw [e9]
        clear e9 h3
        show xx_go (xt_P z) (d + 4) 253 149 [some (.ref (c + 30)), some (.ref a), some (.int (iI (tat n f 1 / 32))), some (.int (iI (tat n f 2 / 32))), none, none] [.int (iI y)] hp _
        have yz : y = 1 := by
          rw [hy2]
          rfl
        have vl : sp_vl 6 (DK s.N (tat n f 1 / 32)) (DK s.N (tat n f 2 / 32)) (DK s.N (tat n f 3 / 32)) = some (DK s.N y) := by
          exact trY _ y yz (by simp only [nl _ ob.1, nl _ ob.2, ne_eq]; omega)
        exact go_r rfl rfl rfl rfl rfl rfl ⟨y, s, rfl, hK, hB, hC, kx_rf, KGR_w KGR_rf (by decide), Or.inr ⟨by omega, by omega⟩, fun q => absurd q (by omega), fun _ => vl⟩
  · have ob := sb (tk2 (by omega) (by omega))
    rw [hc]
    refine go_a (pc' := 150) (ls' := [some (.ref (c + 30)), some (.ref a), some (.int (iI (tat n f 1 / 32))), some (.int (iI (tat n f 2 / 32))), none, none]) (st' := []) rfl rfl ?_
    refine go_a (pc' := 151) (ls' := [some (.ref (c + 30)), some (.ref a), some (.int (iI (tat n f 1 / 32))), some (.int (iI (tat n f 2 / 32))), none, none]) (st' := [.ref (c + 30)]) rfl rfl ?_
    refine go_get (v := .ref (c + 4)) rfl (hK.1 19 (by decide)) rfl rfl ?_
    refine go_a (pc' := 155) (ls' := [some (.ref (c + 30)), some (.ref a), some (.int (iI (tat n f 1 / 32))), some (.int (iI (tat n f 2 / 32))), none, none]) (st' := [.int (iI (tat n f 1 / 32)), .ref (c + 4)]) rfl rfl ?_
    refine go_v (m := 255) (as := [.ref (c + 4), .int (iI (tat n f 1 / 32))]) (r := []) rfl rfl rfl (hK.1 3 (by decide)) rfl rfl (kc_valueX z (d + 2) c (tat n f 1 / 32) hp s hK hB hX (by omega) (by omega)) (fun v h3 hq => ?_)
    obtain ⟨⟨x1, rfl, x10, x11, x12⟩, e9⟩ := hq
    rw [e9]
    clear e9 h3
    show xx_go (xt_P z) (d + 4) 253 158 [some (.ref (c + 30)), some (.ref a), some (.int (iI (tat n f 1 / 32))), some (.int (iI (tat n f 2 / 32))), none, none] [.long (Int64.ofInt x1)] hp _
    refine go_a (pc' := 159) (ls' := [some (.ref (c + 30)), some (.ref a), some (.int (iI (tat n f 1 / 32))), some (.int (iI (tat n f 2 / 32))), none, none]) (st' := [.ref (c + 30), .long (Int64.ofInt x1)]) rfl rfl ?_
    refine go_get (v := .ref (c + 4)) rfl (hK.1 19 (by decide)) rfl rfl ?_
    refine go_a (pc' := 163) (ls' := [some (.ref (c + 30)), some (.ref a), some (.int (iI (tat n f 1 / 32))), some (.int (iI (tat n f 2 / 32))), none, none]) (st' := [.int (iI (tat n f 2 / 32)), .ref (c + 4), .long (Int64.ofInt x1)]) rfl rfl ?_
    refine go_v (m := 255) (as := [.ref (c + 4), .int (iI (tat n f 2 / 32))]) (r := [.long (Int64.ofInt x1)]) rfl rfl rfl (hK.1 3 (by decide)) rfl rfl (kc_valueX z (d + 2) c (tat n f 2 / 32) hp s hK hB hX (by omega) (by omega)) (fun v h3 hq => ?_)
    obtain ⟨⟨x2, rfl, x20, x21, x22⟩, e9⟩ := hq
    rw [e9]
    clear e9 h3
    show xx_go (xt_P z) (d + 4) 253 166 [some (.ref (c + 30)), some (.ref a), some (.int (iI (tat n f 1 / 32))), some (.int (iI (tat n f 2 / 32))), none, none] [.long (Int64.ofInt x2), .long (Int64.ofInt x1)] hp _
    refine mi_ladd rfl ?_
    refine go_a (pc' := 169) (ls' := [some (.ref (c + 30)), some (.ref a), some (.int (iI (tat n f 1 / 32))), some (.int (iI (tat n f 2 / 32))), some (.long (Int64.ofInt (x1 + x2))), none]) (st' := []) rfl rfl ?_
    refine go_a (pc' := 171) (ls' := [some (.ref (c + 30)), some (.ref a), some (.int (iI (tat n f 1 / 32))), some (.int (iI (tat n f 2 / 32))), some (.long (Int64.ofInt (x1 + x2))), none]) (st' := [.long (Int64.ofInt (x1 + x2))]) rfl rfl ?_
    refine go_b (pc' := 174) (st' := [.long (Int64.ofInt 4611686018427387903), .long (Int64.ofInt (x1 + x2))]) (h' := hp) rfl rfl rfl ?_
    refine mi_lc_le (t := 182) rfl rfl rfl (by omega) (by omega) (by omega) (by omega) (fun w1 => ?_) (fun w1 => ?_)
    · refine go_a (pc' := 183) (ls' := [some (.ref (c + 30)), some (.ref a), some (.int (iI (tat n f 1 / 32))), some (.int (iI (tat n f 2 / 32))), some (.long (Int64.ofInt (x1 + x2))), none]) (st' := [.ref (c + 30)]) rfl rfl ?_
      refine go_get (v := .ref (c + 4)) rfl (hK.1 19 (by decide)) rfl rfl ?_
      refine go_a (pc' := 188) (ls' := [some (.ref (c + 30)), some (.ref a), some (.int (iI (tat n f 1 / 32))), some (.int (iI (tat n f 2 / 32))), some (.long (Int64.ofInt (x1 + x2))), none]) (st' := [.long (Int64.ofInt (x1 + x2)), .ref (c + 4)]) rfl rfl ?_
      refine go_v (m := 186) (as := [.ref (c + 4), .long (Int64.ofInt (x1 + x2))]) (r := []) rfl rfl rfl (hK.1 3 (by decide)) rfl rfl (kc_naturalX z (d + 1) c (x1 + x2) hp s hK hB hC (by omega) (by omega) (by omega)) (fun v h3 hq => ?_)
      obtain ⟨k5, s5_, rfl, K5, B5, C5, X5, G5, O5, -, D5⟩ := hq
      show xx_go (xt_P z) (d + 4) 253 191 [some (.ref (c + 30)), some (.ref a), some (.int (iI (tat n f 1 / 32))), some (.int (iI (tat n f 2 / 32))), some (.long (Int64.ofInt (x1 + x2))), none] [.int (iI k5)] h3 _
      exact go_r rfl rfl rfl rfl rfl rfl ⟨k5, s5_, rfl, K5, B5, C5, X5, G5, Or.inr O5, fun q => absurd q (by have := O5.1; omega), fun _ => by rw [D5]; show (if 4611686018427387903 < _ then none else some _) = _; rw [← x12 ob.1, ← x22 ob.2, if_neg (by omega)]⟩
    · refine go_a (pc' := 179) (ls' := [some (.ref (c + 30)), some (.ref a), some (.int (iI (tat n f 1 / 32))), some (.int (iI (tat n f 2 / 32))), some (.long (Int64.ofInt (x1 + x2))), none]) (st' := [.int (iI ((-1)))]) rfl rfl ?_
      refine go_a (pc' := 191) (ls' := [some (.ref (c + 30)), some (.ref a), some (.int (iI (tat n f 1 / 32))), some (.int (iI (tat n f 2 / 32))), some (.long (Int64.ofInt (x1 + x2))), none]) (st' := [.int (iI ((-1)))]) rfl rfl ?_
      exact go_r rfl rfl rfl rfl rfl rfl ⟨-1, s, rfl, hK, hB, hC, kx_rf, KGR_w KGR_rf (by decide), Or.inl rfl, fun _ => by show (if 4611686018427387903 < _ then none else some _) = _; rw [← x12 ob.1, ← x22 ob.2, if_pos (by omega)], fun q => absurd rfl q⟩
  · have ob := sb (tk2 (by omega) (by omega))
    rw [hc]
    refine go_a (pc' := 192) (ls' := [some (.ref (c + 30)), some (.ref a), some (.int (iI (tat n f 1 / 32))), some (.int (iI (tat n f 2 / 32))), none, none]) (st' := []) rfl rfl ?_
    refine go_a (pc' := 193) (ls' := [some (.ref (c + 30)), some (.ref a), some (.int (iI (tat n f 1 / 32))), some (.int (iI (tat n f 2 / 32))), none, none]) (st' := [.ref (c + 30)]) rfl rfl ?_
    refine go_get (v := .ref (c + 4)) rfl (hK.1 19 (by decide)) rfl rfl ?_
    refine go_a (pc' := 197) (ls' := [some (.ref (c + 30)), some (.ref a), some (.int (iI (tat n f 1 / 32))), some (.int (iI (tat n f 2 / 32))), none, none]) (st' := [.ref (c + 30), .ref (c + 4)]) rfl rfl ?_
    refine go_get (v := .ref (c + 4)) rfl (hK.1 19 (by decide)) rfl rfl ?_
    refine go_a (pc' := 201) (ls' := [some (.ref (c + 30)), some (.ref a), some (.int (iI (tat n f 1 / 32))), some (.int (iI (tat n f 2 / 32))), none, none]) (st' := [.int (iI (tat n f 1 / 32)), .ref (c + 4), .ref (c + 4)]) rfl rfl ?_
    refine go_v (m := 255) (as := [.ref (c + 4), .int (iI (tat n f 1 / 32))]) (r := [.ref (c + 4)]) rfl rfl rfl (hK.1 3 (by decide)) rfl rfl (kc_valueX z (d + 2) c (tat n f 1 / 32) hp s hK hB hX (by omega) (by omega)) (fun v h3 hq => ?_)
    obtain ⟨⟨x1, rfl, x10, x11, x12⟩, e9⟩ := hq
    rw [e9]
    clear e9 h3
    show xx_go (xt_P z) (d + 4) 253 204 [some (.ref (c + 30)), some (.ref a), some (.int (iI (tat n f 1 / 32))), some (.int (iI (tat n f 2 / 32))), none, none] [.long (Int64.ofInt x1), .ref (c + 4)] hp _
    refine go_a (pc' := 205) (ls' := [some (.ref (c + 30)), some (.ref a), some (.int (iI (tat n f 1 / 32))), some (.int (iI (tat n f 2 / 32))), none, none]) (st' := [.ref (c + 30), .long (Int64.ofInt x1), .ref (c + 4)]) rfl rfl ?_
    refine go_get (v := .ref (c + 4)) rfl (hK.1 19 (by decide)) rfl rfl ?_
    refine go_a (pc' := 209) (ls' := [some (.ref (c + 30)), some (.ref a), some (.int (iI (tat n f 1 / 32))), some (.int (iI (tat n f 2 / 32))), none, none]) (st' := [.int (iI (tat n f 2 / 32)), .ref (c + 4), .long (Int64.ofInt x1), .ref (c + 4)]) rfl rfl ?_
    refine go_v (m := 255) (as := [.ref (c + 4), .int (iI (tat n f 2 / 32))]) (r := [.long (Int64.ofInt x1), .ref (c + 4)]) rfl rfl rfl (hK.1 3 (by decide)) rfl rfl (kc_valueX z (d + 2) c (tat n f 2 / 32) hp s hK hB hX (by omega) (by omega)) (fun v h3 hq => ?_)
    obtain ⟨⟨x2, rfl, x20, x21, x22⟩, e9⟩ := hq
    rw [e9]
    clear e9 h3
    show xx_go (xt_P z) (d + 4) 253 212 [some (.ref (c + 30)), some (.ref a), some (.int (iI (tat n f 1 / 32))), some (.int (iI (tat n f 2 / 32))), none, none] [.long (Int64.ofInt x2), .long (Int64.ofInt x1), .ref (c + 4)] hp _
    refine mi_lsub rfl ?_
    refine go_a (pc' := 214) (ls' := [some (.ref (c + 30)), some (.ref a), some (.int (iI (tat n f 1 / 32))), some (.int (iI (tat n f 2 / 32))), none, none]) (st' := [.long (Int64.ofInt 0), .long (Int64.ofInt (x1 - x2)), .ref (c + 4)]) rfl rfl ?_
    refine go_maxL rfl rfl rfl ?_
    rw [show (if Int64.ofInt (x1 - x2) < Int64.ofInt 0 then Int64.ofInt 0 else Int64.ofInt (x1 - x2)) = Int64.ofInt (if x1 - x2 < 0 then 0 else x1 - x2) from lmax0 (by omega) (by omega)]
    have mr : 0 ≤ (if x1 - x2 < 0 then 0 else x1 - x2) ∧ (if x1 - x2 < 0 then 0 else x1 - x2) < 4611686018427387904 := by split <;> omega
    refine go_v (m := 186) (as := [.ref (c + 4), .long (Int64.ofInt (if x1 - x2 < 0 then 0 else x1 - x2))]) (r := []) rfl rfl rfl (hK.1 3 (by decide)) rfl rfl (kc_naturalX z (d + 1) c (if x1 - x2 < 0 then 0 else x1 - x2) hp s hK hB hC (by omega) mr.1 mr.2) (fun v h3 hq => ?_)
    obtain ⟨k5, s5_, rfl, K5, B5, C5, X5, G5, O5, -, D5⟩ := hq
    show xx_go (xt_P z) (d + 4) 253 220 [some (.ref (c + 30)), some (.ref a), some (.int (iI (tat n f 1 / 32))), some (.int (iI (tat n f 2 / 32))), none, none] [.int (iI k5)] h3 _
    exact go_r rfl rfl rfl rfl rfl rfl ⟨k5, s5_, rfl, K5, B5, C5, X5, G5, Or.inr O5, fun q => absurd q (by have := O5.1; omega), fun _ => by rw [D5, x12 ob.1, x22 ob.2]; rfl⟩
  · have ob := sb (tk2 (by omega) (by omega))
    rw [hc]
    refine go_a (pc' := 221) (ls' := [some (.ref (c + 30)), some (.ref a), some (.int (iI (tat n f 1 / 32))), some (.int (iI (tat n f 2 / 32))), none, none]) (st' := []) rfl rfl ?_
    refine go_a (pc' := 222) (ls' := [some (.ref (c + 30)), some (.ref a), some (.int (iI (tat n f 1 / 32))), some (.int (iI (tat n f 2 / 32))), none, none]) (st' := [.ref (c + 30)]) rfl rfl ?_
    refine go_get (v := .ref (c + 4)) rfl (hK.1 19 (by decide)) rfl rfl ?_
    refine go_a (pc' := 226) (ls' := [some (.ref (c + 30)), some (.ref a), some (.int (iI (tat n f 1 / 32))), some (.int (iI (tat n f 2 / 32))), none, none]) (st' := [.int (iI (tat n f 1 / 32)), .ref (c + 4)]) rfl rfl ?_
    refine go_v (m := 255) (as := [.ref (c + 4), .int (iI (tat n f 1 / 32))]) (r := []) rfl rfl rfl (hK.1 3 (by decide)) rfl rfl (kc_valueX z (d + 2) c (tat n f 1 / 32) hp s hK hB hX (by omega) (by omega)) (fun v h3 hq => ?_)
    obtain ⟨⟨x1, rfl, x10, x11, x12⟩, e9⟩ := hq
    rw [e9]
    clear e9 h3
    show xx_go (xt_P z) (d + 4) 253 229 [some (.ref (c + 30)), some (.ref a), some (.int (iI (tat n f 1 / 32))), some (.int (iI (tat n f 2 / 32))), none, none] [.long (Int64.ofInt x1)] hp _
    refine go_a (pc' := 230) (ls' := [some (.ref (c + 30)), some (.ref a), some (.int (iI (tat n f 1 / 32))), some (.int (iI (tat n f 2 / 32))), none, none]) (st' := [.ref (c + 30), .long (Int64.ofInt x1)]) rfl rfl ?_
    refine go_get (v := .ref (c + 4)) rfl (hK.1 19 (by decide)) rfl rfl ?_
    refine go_a (pc' := 234) (ls' := [some (.ref (c + 30)), some (.ref a), some (.int (iI (tat n f 1 / 32))), some (.int (iI (tat n f 2 / 32))), none, none]) (st' := [.int (iI (tat n f 2 / 32)), .ref (c + 4), .long (Int64.ofInt x1)]) rfl rfl ?_
    refine go_v (m := 255) (as := [.ref (c + 4), .int (iI (tat n f 2 / 32))]) (r := [.long (Int64.ofInt x1)]) rfl rfl rfl (hK.1 3 (by decide)) rfl rfl (kc_valueX z (d + 2) c (tat n f 2 / 32) hp s hK hB hX (by omega) (by omega)) (fun v h3 hq => ?_)
    obtain ⟨⟨x2, rfl, x20, x21, x22⟩, e9⟩ := hq
    rw [e9]
    clear e9 h3
    show xx_go (xt_P z) (d + 4) 253 237 [some (.ref (c + 30)), some (.ref a), some (.int (iI (tat n f 1 / 32))), some (.int (iI (tat n f 2 / 32))), none, none] [.long (Int64.ofInt x2), .long (Int64.ofInt x1)] hp _
    refine mi_lc_ge (t := 245) rfl rfl rfl (by omega) (by omega) (by omega) (by omega) (fun w1 => ?_) (fun w1 => ?_)
    · refine go_a (pc' := 246) (ls' := [some (.ref (c + 30)), some (.ref a), some (.int (iI (tat n f 1 / 32))), some (.int (iI (tat n f 2 / 32))), none, none]) (st' := [.int (iI 0)]) rfl rfl ?_
      refine go_s (m := 254) (as := [.int (iI 0)]) (r := []) rfl rfl rfl rfl (kq_truth z (d + 3) 0 hp (by decide) (by decide)) (fun v h3 hq => ?_)
      obtain ⟨⟨y, rfl, hy, hy2⟩, e9⟩ := hq
      rw [e9]
      clear e9 h3
      show xx_go (xt_P z) (d + 4) 253 249 [some (.ref (c + 30)), some (.ref a), some (.int (iI (tat n f 1 / 32))), some (.int (iI (tat n f 2 / 32))), none, none] [.int (iI y)] hp _
      have yz : y = 0 := by
        rw [hy2]
        rfl
      have vl : sp_vl 9 (DK s.N (tat n f 1 / 32)) (DK s.N (tat n f 2 / 32)) (DK s.N (tat n f 3 / 32)) = some (DK s.N y) := by
        exact trN _ y yz (by rw [← x12 ob.1, ← x22 ob.2]; omega)
      exact go_r rfl rfl rfl rfl rfl rfl ⟨y, s, rfl, hK, hB, hC, kx_rf, KGR_w KGR_rf (by decide), Or.inr ⟨by omega, by omega⟩, fun q => absurd q (by omega), fun _ => vl⟩
    · refine go_a (pc' := 242) (ls' := [some (.ref (c + 30)), some (.ref a), some (.int (iI (tat n f 1 / 32))), some (.int (iI (tat n f 2 / 32))), none, none]) (st' := [.int (iI 1)]) rfl rfl ?_
      refine go_a (pc' := 246) (ls' := [some (.ref (c + 30)), some (.ref a), some (.int (iI (tat n f 1 / 32))), some (.int (iI (tat n f 2 / 32))), none, none]) (st' := [.int (iI 1)]) rfl rfl ?_
      refine go_s (m := 254) (as := [.int (iI 1)]) (r := []) rfl rfl rfl rfl (kq_truth z (d + 3) 1 hp (by decide) (by decide)) (fun v h3 hq => ?_)
      obtain ⟨⟨y, rfl, hy, hy2⟩, e9⟩ := hq
      rw [e9]
      clear e9 h3
      show xx_go (xt_P z) (d + 4) 253 249 [some (.ref (c + 30)), some (.ref a), some (.int (iI (tat n f 1 / 32))), some (.int (iI (tat n f 2 / 32))), none, none] [.int (iI y)] hp _
      have yz : y = 1 := by
        rw [hy2]
        rfl
      have vl : sp_vl 9 (DK s.N (tat n f 1 / 32)) (DK s.N (tat n f 2 / 32)) (DK s.N (tat n f 3 / 32)) = some (DK s.N y) := by
        exact trY _ y yz (by rw [← x12 ob.1, ← x22 ob.2]; omega)
      exact go_r rfl rfl rfl rfl rfl rfl ⟨y, s, rfl, hK, hB, hC, kx_rf, KGR_w KGR_rf (by decide), Or.inr ⟨by omega, by omega⟩, fun q => absurd q (by omega), fun _ => vl⟩
  · have oa := sa (tk1 (by omega))
    rw [hc]
    refine go_a (pc' := 250) (ls' := [some (.ref (c + 30)), some (.ref a), some (.int (iI (tat n f 1 / 32))), some (.int (iI (tat n f 2 / 32))), none, none]) (st' := []) rfl rfl ?_
    refine go_a (pc' := 251) (ls' := [some (.ref (c + 30)), some (.ref a), some (.int (iI (tat n f 1 / 32))), some (.int (iI (tat n f 2 / 32))), none, none]) (st' := [.ref (c + 30)]) rfl rfl ?_
    refine go_get (v := .ref (c + 4)) rfl (hK.1 19 (by decide)) rfl rfl ?_
    refine go_a (pc' := 255) (ls' := [some (.ref (c + 30)), some (.ref a), some (.int (iI (tat n f 1 / 32))), some (.int (iI (tat n f 2 / 32))), none, none]) (st' := [.int (iI (tat n f 1 / 32)), .ref (c + 4)]) rfl rfl ?_
    refine go_v (m := 199) (as := [.ref (c + 4), .int (iI (tat n f 1 / 32))]) (r := []) rfl rfl rfl (hK.1 3 (by decide)) rfl rfl (kc_isPair z (d + 3) c (tat n f 1 / 32) hp s hK hB (by omega) (by omega)) (fun v h3 hq => ?_)
    obtain ⟨hq, e9⟩ := hq
    rw [e9]
    clear e9 h3
    rcases hq with ⟨kw, rfl⟩ | ⟨kw, rfl⟩
    · show xx_go (xt_P z) (d + 4) 253 258 [some (.ref (c + 30)), some (.ref a), some (.int (iI (tat n f 1 / 32))), some (.int (iI (tat n f 2 / 32))), none, none] [.int (iI 1)] hp _
      refine go_s (m := 254) (as := [.int (iI 1)]) (r := []) rfl rfl rfl rfl (kq_truth z (d + 3) 1 hp (by decide) (by decide)) (fun v h3 hq => ?_)
      obtain ⟨⟨y, rfl, hy, hy2⟩, e9⟩ := hq
      rw [e9]
      clear e9 h3
      show xx_go (xt_P z) (d + 4) 253 261 [some (.ref (c + 30)), some (.ref a), some (.int (iI (tat n f 1 / 32))), some (.int (iI (tat n f 2 / 32))), none, none] [.int (iI y)] hp _
      have yz : y = 1 := by
        rw [hy2]
        rfl
      have vl : sp_vl 10 (DK s.N (tat n f 1 / 32)) (DK s.N (tat n f 2 / 32)) (DK s.N (tat n f 3 / 32)) = some (DK s.N y) := by
        exact trY _ y yz (by rw [(DK_kind hB hX oa).1]; unfold OB at oa; omega)
      exact go_r rfl rfl rfl rfl rfl rfl ⟨y, s, rfl, hK, hB, hC, kx_rf, KGR_w KGR_rf (by decide), Or.inr ⟨by omega, by omega⟩, fun q => absurd q (by omega), fun _ => vl⟩
    · show xx_go (xt_P z) (d + 4) 253 258 [some (.ref (c + 30)), some (.ref a), some (.int (iI (tat n f 1 / 32))), some (.int (iI (tat n f 2 / 32))), none, none] [.int (iI 0)] hp _
      refine go_s (m := 254) (as := [.int (iI 0)]) (r := []) rfl rfl rfl rfl (kq_truth z (d + 3) 0 hp (by decide) (by decide)) (fun v h3 hq => ?_)
      obtain ⟨⟨y, rfl, hy, hy2⟩, e9⟩ := hq
      rw [e9]
      clear e9 h3
      show xx_go (xt_P z) (d + 4) 253 261 [some (.ref (c + 30)), some (.ref a), some (.int (iI (tat n f 1 / 32))), some (.int (iI (tat n f 2 / 32))), none, none] [.int (iI y)] hp _
      have yz : y = 0 := by
        rw [hy2]
        rfl
      have vl : sp_vl 10 (DK s.N (tat n f 1 / 32)) (DK s.N (tat n f 2 / 32)) (DK s.N (tat n f 3 / 32)) = some (DK s.N y) := by
        exact trN _ y yz (by rw [(DK_kind hB hX oa).1]; unfold OB at oa; omega)
      exact go_r rfl rfl rfl rfl rfl rfl ⟨y, s, rfl, hK, hB, hC, kx_rf, KGR_w KGR_rf (by decide), Or.inr ⟨by omega, by omega⟩, fun q => absurd q (by omega), fun _ => vl⟩
  · have oa := sa (tk1 (by omega))
    rw [hc]
    refine go_a (pc' := 262) (ls' := [some (.ref (c + 30)), some (.ref a), some (.int (iI (tat n f 1 / 32))), some (.int (iI (tat n f 2 / 32))), none, none]) (st' := []) rfl rfl ?_
    have oy := (fst_OB hC.1 hB (tat n f 1 / 32)).1
    have ds := (DK_side hB hX oa hN).1
    refine go_a (pc' := 263) (ls' := [some (.ref (c + 30)), some (.ref a), some (.int (iI (tat n f 1 / 32))), some (.int (iI (tat n f 2 / 32))), none, none]) (st' := [.ref (c + 30)]) rfl rfl ?_
    refine go_get (v := .ref (c + 4)) rfl (hK.1 19 (by decide)) rfl rfl ?_
    refine go_a (pc' := 267) (ls' := [some (.ref (c + 30)), some (.ref a), some (.int (iI (tat n f 1 / 32))), some (.int (iI (tat n f 2 / 32))), none, none]) (st' := [.int (iI (tat n f 1 / 32)), .ref (c + 4)]) rfl rfl ?_
    refine go_v (m := 197) (as := [.ref (c + 4), .int (iI (tat n f 1 / 32))]) (r := []) rfl rfl rfl (hK.1 3 (by decide)) rfl rfl (kc_first z (d + 3) c (tat n f 1 / 32) hp s hK hB (by omega) (by omega)) (fun v h3 hq => ?_)
    obtain ⟨rfl, e9⟩ := hq
    rw [e9]
    clear e9 h3
    show xx_go (xt_P z) (d + 4) 253 270 [some (.ref (c + 30)), some (.ref a), some (.int (iI (tat n f 1 / 32))), some (.int (iI (tat n f 2 / 32))), none, none] [.int (iI (fst s (tat n f 1 / 32)))] hp _
    exact go_r rfl rfl rfl rfl rfl rfl ⟨_, s, rfl, hK, hB, hC, kx_rf, KGR_w KGR_rf (by decide), Or.inr oy, fun q => absurd q (by have := oy.1; omega), fun _ => by rw [ds]; rfl⟩
  · have oa := sa (tk1 (by omega))
    rw [hc]
    refine go_a (pc' := 271) (ls' := [some (.ref (c + 30)), some (.ref a), some (.int (iI (tat n f 1 / 32))), some (.int (iI (tat n f 2 / 32))), none, none]) (st' := []) rfl rfl ?_
    have oy := (fst_OB hC.1 hB (tat n f 1 / 32)).2
    have ds := (DK_side hB hX oa hN).2
    refine go_a (pc' := 272) (ls' := [some (.ref (c + 30)), some (.ref a), some (.int (iI (tat n f 1 / 32))), some (.int (iI (tat n f 2 / 32))), none, none]) (st' := [.ref (c + 30)]) rfl rfl ?_
    refine go_get (v := .ref (c + 4)) rfl (hK.1 19 (by decide)) rfl rfl ?_
    refine go_a (pc' := 276) (ls' := [some (.ref (c + 30)), some (.ref a), some (.int (iI (tat n f 1 / 32))), some (.int (iI (tat n f 2 / 32))), none, none]) (st' := [.int (iI (tat n f 1 / 32)), .ref (c + 4)]) rfl rfl ?_
    refine go_v (m := 200) (as := [.ref (c + 4), .int (iI (tat n f 1 / 32))]) (r := []) rfl rfl rfl (hK.1 3 (by decide)) rfl rfl (kc_rest z (d + 3) c (tat n f 1 / 32) hp s hK hB (by omega) (by omega)) (fun v h3 hq => ?_)
    obtain ⟨rfl, e9⟩ := hq
    rw [e9]
    clear e9 h3
    show xx_go (xt_P z) (d + 4) 253 279 [some (.ref (c + 30)), some (.ref a), some (.int (iI (tat n f 1 / 32))), some (.int (iI (tat n f 2 / 32))), none, none] [.int (iI (rst s (tat n f 1 / 32)))] hp _
    exact go_r rfl rfl rfl rfl rfl rfl ⟨_, s, rfl, hK, hB, hC, kx_rf, KGR_w KGR_rf (by decide), Or.inr oy, fun q => absurd q (by have := oy.1; omega), fun _ => by rw [ds]; rfl⟩
  · have oa := sa (tk1 (by omega))
    rw [hc]
    refine go_a (pc' := 280) (ls' := [some (.ref (c + 30)), some (.ref a), some (.int (iI (tat n f 1 / 32))), some (.int (iI (tat n f 2 / 32))), none, none]) (st' := []) rfl rfl ?_
    refine go_a (pc' := 281) (ls' := [some (.ref (c + 30)), some (.ref a), some (.int (iI (tat n f 1 / 32))), some (.int (iI (tat n f 2 / 32))), none, none]) (st' := [.ref (c + 30)]) rfl rfl ?_
    refine go_get (v := .ref (c + 4)) rfl (hK.1 19 (by decide)) rfl rfl ?_
    refine go_a (pc' := 285) (ls' := [some (.ref (c + 30)), some (.ref a), some (.int (iI (tat n f 1 / 32))), some (.int (iI (tat n f 2 / 32))), none, none]) (st' := [.int (iI (tat n f 1 / 32)), .ref (c + 4)]) rfl rfl ?_
    refine go_v (m := 256) (as := [.ref (c + 4), .int (iI (tat n f 1 / 32))]) (r := []) rfl rfl rfl (hK.1 3 (by decide)) rfl rfl (kc_isNatural z (d + 3) c (tat n f 1 / 32) hp s hK hB (by omega) (by omega)) (fun v h3 hq => ?_)
    obtain ⟨hq, e9⟩ := hq
    rw [e9]
    clear e9 h3
    rcases hq with ⟨kw, rfl⟩ | ⟨kw, rfl⟩
    · show xx_go (xt_P z) (d + 4) 253 288 [some (.ref (c + 30)), some (.ref a), some (.int (iI (tat n f 1 / 32))), some (.int (iI (tat n f 2 / 32))), none, none] [.int (iI 1)] hp _
      refine go_s (m := 254) (as := [.int (iI 1)]) (r := []) rfl rfl rfl rfl (kq_truth z (d + 3) 1 hp (by decide) (by decide)) (fun v h3 hq => ?_)
      obtain ⟨⟨y, rfl, hy, hy2⟩, e9⟩ := hq
      rw [e9]
      clear e9 h3
      show xx_go (xt_P z) (d + 4) 253 291 [some (.ref (c + 30)), some (.ref a), some (.int (iI (tat n f 1 / 32))), some (.int (iI (tat n f 2 / 32))), none, none] [.int (iI y)] hp _
      have yz : y = 1 := by
        rw [hy2]
        rfl
      have vl : sp_vl 13 (DK s.N (tat n f 1 / 32)) (DK s.N (tat n f 2 / 32)) (DK s.N (tat n f 3 / 32)) = some (DK s.N y) := by
        exact trY _ y yz (by rw [(DK_kind hB hX oa).2.1]; unfold OB at oa; omega)
      exact go_r rfl rfl rfl rfl rfl rfl ⟨y, s, rfl, hK, hB, hC, kx_rf, KGR_w KGR_rf (by decide), Or.inr ⟨by omega, by omega⟩, fun q => absurd q (by omega), fun _ => vl⟩
    · show xx_go (xt_P z) (d + 4) 253 288 [some (.ref (c + 30)), some (.ref a), some (.int (iI (tat n f 1 / 32))), some (.int (iI (tat n f 2 / 32))), none, none] [.int (iI 0)] hp _
      refine go_s (m := 254) (as := [.int (iI 0)]) (r := []) rfl rfl rfl rfl (kq_truth z (d + 3) 0 hp (by decide) (by decide)) (fun v h3 hq => ?_)
      obtain ⟨⟨y, rfl, hy, hy2⟩, e9⟩ := hq
      rw [e9]
      clear e9 h3
      show xx_go (xt_P z) (d + 4) 253 291 [some (.ref (c + 30)), some (.ref a), some (.int (iI (tat n f 1 / 32))), some (.int (iI (tat n f 2 / 32))), none, none] [.int (iI y)] hp _
      have yz : y = 0 := by
        rw [hy2]
        rfl
      have vl : sp_vl 13 (DK s.N (tat n f 1 / 32)) (DK s.N (tat n f 2 / 32)) (DK s.N (tat n f 3 / 32)) = some (DK s.N y) := by
        exact trN _ y yz (by rw [(DK_kind hB hX oa).2.1]; unfold OB at oa; omega)
      exact go_r rfl rfl rfl rfl rfl rfl ⟨y, s, rfl, hK, hB, hC, kx_rf, KGR_w KGR_rf (by decide), Or.inr ⟨by omega, by omega⟩, fun q => absurd q (by omega), fun _ => vl⟩
  · have oa := sa (tk1 (by omega))
    rw [hc]
    refine go_a (pc' := 292) (ls' := [some (.ref (c + 30)), some (.ref a), some (.int (iI (tat n f 1 / 32))), some (.int (iI (tat n f 2 / 32))), none, none]) (st' := []) rfl rfl ?_
    refine go_a (pc' := 293) (ls' := [some (.ref (c + 30)), some (.ref a), some (.int (iI (tat n f 1 / 32))), some (.int (iI (tat n f 2 / 32))), none, none]) (st' := [.ref (c + 30)]) rfl rfl ?_
    refine go_get (v := .ref (c + 4)) rfl (hK.1 19 (by decide)) rfl rfl ?_
    refine go_a (pc' := 297) (ls' := [some (.ref (c + 30)), some (.ref a), some (.int (iI (tat n f 1 / 32))), some (.int (iI (tat n f 2 / 32))), none, none]) (st' := [.int (iI (tat n f 1 / 32)), .ref (c + 4)]) rfl rfl ?_
    refine go_v (m := 206) (as := [.ref (c + 4), .int (iI (tat n f 1 / 32))]) (r := []) rfl rfl rfl (hK.1 3 (by decide)) rfl rfl (kc_isSymbol z (d + 3) c (tat n f 1 / 32) hp s hK hB (by omega) (by omega)) (fun v h3 hq => ?_)
    obtain ⟨hq, e9⟩ := hq
    rw [e9]
    clear e9 h3
    rcases hq with ⟨kw, rfl⟩ | ⟨kw, rfl⟩
    · show xx_go (xt_P z) (d + 4) 253 300 [some (.ref (c + 30)), some (.ref a), some (.int (iI (tat n f 1 / 32))), some (.int (iI (tat n f 2 / 32))), none, none] [.int (iI 1)] hp _
      refine go_s (m := 254) (as := [.int (iI 1)]) (r := []) rfl rfl rfl rfl (kq_truth z (d + 3) 1 hp (by decide) (by decide)) (fun v h3 hq => ?_)
      obtain ⟨⟨y, rfl, hy, hy2⟩, e9⟩ := hq
      rw [e9]
      clear e9 h3
      show xx_go (xt_P z) (d + 4) 253 303 [some (.ref (c + 30)), some (.ref a), some (.int (iI (tat n f 1 / 32))), some (.int (iI (tat n f 2 / 32))), none, none] [.int (iI y)] hp _
      have yz : y = 1 := by
        rw [hy2]
        rfl
      have vl : sp_vl 14 (DK s.N (tat n f 1 / 32)) (DK s.N (tat n f 2 / 32)) (DK s.N (tat n f 3 / 32)) = some (DK s.N y) := by
        exact trY _ y yz (by rw [(DK_kind hB hX oa).2.2]; unfold OB at oa; omega)
      exact go_r rfl rfl rfl rfl rfl rfl ⟨y, s, rfl, hK, hB, hC, kx_rf, KGR_w KGR_rf (by decide), Or.inr ⟨by omega, by omega⟩, fun q => absurd q (by omega), fun _ => vl⟩
    · show xx_go (xt_P z) (d + 4) 253 300 [some (.ref (c + 30)), some (.ref a), some (.int (iI (tat n f 1 / 32))), some (.int (iI (tat n f 2 / 32))), none, none] [.int (iI 0)] hp _
      refine go_s (m := 254) (as := [.int (iI 0)]) (r := []) rfl rfl rfl rfl (kq_truth z (d + 3) 0 hp (by decide) (by decide)) (fun v h3 hq => ?_)
      obtain ⟨⟨y, rfl, hy, hy2⟩, e9⟩ := hq
      rw [e9]
      clear e9 h3
      show xx_go (xt_P z) (d + 4) 253 303 [some (.ref (c + 30)), some (.ref a), some (.int (iI (tat n f 1 / 32))), some (.int (iI (tat n f 2 / 32))), none, none] [.int (iI y)] hp _
      have yz : y = 0 := by
        rw [hy2]
        rfl
      have vl : sp_vl 14 (DK s.N (tat n f 1 / 32)) (DK s.N (tat n f 2 / 32)) (DK s.N (tat n f 3 / 32)) = some (DK s.N y) := by
        exact trN _ y yz (by rw [(DK_kind hB hX oa).2.2]; unfold OB at oa; omega)
      exact go_r rfl rfl rfl rfl rfl rfl ⟨y, s, rfl, hK, hB, hC, kx_rf, KGR_w KGR_rf (by decide), Or.inr ⟨by omega, by omega⟩, fun q => absurd q (by omega), fun _ => vl⟩
  · have oa := sa (tk1 (by omega))
    rw [hc]
    refine go_a (pc' := 304) (ls' := [some (.ref (c + 30)), some (.ref a), some (.int (iI (tat n f 1 / 32))), some (.int (iI (tat n f 2 / 32))), none, none]) (st' := []) rfl rfl ?_
    refine go_a (pc' := 305) (ls' := [some (.ref (c + 30)), some (.ref a), some (.int (iI (tat n f 1 / 32))), some (.int (iI (tat n f 2 / 32))), none, none]) (st' := [.ref (c + 30)]) rfl rfl ?_
    refine go_get (v := .ref (c + 4)) rfl (hK.1 19 (by decide)) rfl rfl ?_
    refine go_a (pc' := 309) (ls' := [some (.ref (c + 30)), some (.ref a), some (.int (iI (tat n f 1 / 32))), some (.int (iI (tat n f 2 / 32))), none, none]) (st' := [.ref (c + 30), .ref (c + 4)]) rfl rfl ?_
    refine go_get (v := .ref (c + 4)) rfl (hK.1 19 (by decide)) rfl rfl ?_
    refine go_a (pc' := 313) (ls' := [some (.ref (c + 30)), some (.ref a), some (.int (iI (tat n f 1 / 32))), some (.int (iI (tat n f 2 / 32))), none, none]) (st' := [.int (iI (tat n f 1 / 32)), .ref (c + 4), .ref (c + 4)]) rfl rfl ?_
    refine go_v (m := 195) (as := [.ref (c + 4), .int (iI (tat n f 1 / 32))]) (r := [.ref (c + 4)]) rfl rfl rfl (hK.1 3 (by decide)) rfl rfl (kc_height z (d + 3) c (tat n f 1 / 32) hp s hK hB (by omega) (by omega)) (fun v h3 hq => ?_)
    obtain ⟨hq, e9⟩ := hq
    rw [e9]
    clear e9 h3
    have M : ∃ y : Int, v = some (.int (iI y)) ∧ (0 ≤ y ∧ y ≤ 140000) ∧ y = s.A 9 (tat n f 1 / 32) := by
      rcases hq with ⟨w1, w2⟩ | ⟨nk, w2⟩
      · have := hC.1.2.1 _ w1.1 w1.2
        have l8 : s.I 8 ≤ 140000 := hC.1.1.1
        exact ⟨_, w2, ⟨this.1, by omega⟩, rfl⟩
      · exact absurd ⟨oa.1, oa.2⟩ nk
    clear hq
    obtain ⟨y, rfl, ⟨y0, y1⟩, ey⟩ := M
    have eh := hC.2.2 _ oa.1 oa.2
    show xx_go (xt_P z) (d + 4) 253 316 [some (.ref (c + 30)), some (.ref a), some (.int (iI (tat n f 1 / 32))), some (.int (iI (tat n f 2 / 32))), none, none] [.int (iI y), .ref (c + 4)] hp _
    refine mi_i2l rfl (by omega) (by omega) ?_
    refine go_v (m := 186) (as := [.ref (c + 4), .long (Int64.ofInt y)]) (r := []) rfl rfl rfl (hK.1 3 (by decide)) rfl rfl (kc_naturalX z (d + 1) c y hp s hK hB hC (by omega) (by omega) (by omega)) (fun v h3 hq => ?_)
    obtain ⟨k5, s5_, rfl, K5, B5, C5, X5, G5, O5, -, D5⟩ := hq
    show xx_go (xt_P z) (d + 4) 253 320 [some (.ref (c + 30)), some (.ref a), some (.int (iI (tat n f 1 / 32))), some (.int (iI (tat n f 2 / 32))), none, none] [.int (iI k5)] h3 _
    exact go_r rfl rfl rfl rfl rfl rfl ⟨k5, s5_, rfl, K5, B5, C5, X5, G5, Or.inr O5, fun q => absurd q (by have := O5.1; omega), fun _ => by rw [D5, ey, eh]; rfl⟩
  · have oa := sa (tk1 (by omega))
    rw [hc]
    refine go_a (pc' := 321) (ls' := [some (.ref (c + 30)), some (.ref a), some (.int (iI (tat n f 1 / 32))), some (.int (iI (tat n f 2 / 32))), none, none]) (st' := []) rfl rfl ?_
    refine go_a (pc' := 322) (ls' := [some (.ref (c + 30)), some (.ref a), some (.int (iI (tat n f 1 / 32))), some (.int (iI (tat n f 2 / 32))), none, none]) (st' := [.int (iI (tat n f 1 / 32))]) rfl rfl ?_
    refine mi_ne0 (t := 329) rfl rfl (by omega) (by omega) (fun w1 => ?_) (fun w1 => ?_)
    · refine go_a (pc' := 330) (ls' := [some (.ref (c + 30)), some (.ref a), some (.int (iI (tat n f 1 / 32))), some (.int (iI (tat n f 2 / 32))), none, none]) (st' := [.int (iI 0)]) rfl rfl ?_
      refine go_s (m := 254) (as := [.int (iI 0)]) (r := []) rfl rfl rfl rfl (kq_truth z (d + 3) 0 hp (by decide) (by decide)) (fun v h3 hq => ?_)
      obtain ⟨⟨y, rfl, hy, hy2⟩, e9⟩ := hq
      rw [e9]
      clear e9 h3
      show xx_go (xt_P z) (d + 4) 253 333 [some (.ref (c + 30)), some (.ref a), some (.int (iI (tat n f 1 / 32))), some (.int (iI (tat n f 2 / 32))), none, none] [.int (iI y)] hp _
      have yz : y = 0 := by
        rw [hy2]
        rfl
      have vl : sp_vl 16 (DK s.N (tat n f 1 / 32)) (DK s.N (tat n f 2 / 32)) (DK s.N (tat n f 3 / 32)) = some (DK s.N y) := by
        exact trN _ y yz (by simp only [nl _ oa]; omega)
      exact go_r rfl rfl rfl rfl rfl rfl ⟨y, s, rfl, hK, hB, hC, kx_rf, KGR_w KGR_rf (by decide), Or.inr ⟨by omega, by omega⟩, fun q => absurd q (by omega), fun _ => vl⟩
    · refine go_a (pc' := 326) (ls' := [some (.ref (c + 30)), some (.ref a), some (.int (iI (tat n f 1 / 32))), some (.int (iI (tat n f 2 / 32))), none, none]) (st' := [.int (iI 1)]) rfl rfl ?_
      refine go_a (pc' := 330) (ls' := [some (.ref (c + 30)), some (.ref a), some (.int (iI (tat n f 1 / 32))), some (.int (iI (tat n f 2 / 32))), none, none]) (st' := [.int (iI 1)]) rfl rfl ?_
      refine go_s (m := 254) (as := [.int (iI 1)]) (r := []) rfl rfl rfl rfl (kq_truth z (d + 3) 1 hp (by decide) (by decide)) (fun v h3 hq => ?_)
      obtain ⟨⟨y, rfl, hy, hy2⟩, e9⟩ := hq
      rw [e9]
      clear e9 h3
      show xx_go (xt_P z) (d + 4) 253 333 [some (.ref (c + 30)), some (.ref a), some (.int (iI (tat n f 1 / 32))), some (.int (iI (tat n f 2 / 32))), none, none] [.int (iI y)] hp _
      have yz : y = 1 := by
        rw [hy2]
        rfl
      have vl : sp_vl 16 (DK s.N (tat n f 1 / 32)) (DK s.N (tat n f 2 / 32)) (DK s.N (tat n f 3 / 32)) = some (DK s.N y) := by
        exact trY _ y yz (by simp only [nl _ oa]; omega)
      exact go_r rfl rfl rfl rfl rfl rfl ⟨y, s, rfl, hK, hB, hC, kx_rf, KGR_w KGR_rf (by decide), Or.inr ⟨by omega, by omega⟩, fun q => absurd q (by omega), fun _ => vl⟩
