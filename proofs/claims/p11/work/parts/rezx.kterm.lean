def nmo (nf : Int) (NM : BKM) (x : Int) : Int := if 17 ≤ x ∧ x - 17 < nf then (NM.1 (x - 17)).1 else x
def lft (N : Int → Int) (x : Int) : ob_T := if x % 4 = 0 then DK N (x / 32) else sp_cs (DK N (x / 32))
def bpu (N nm : Int → Int) (x : Int) (S : List ob_T) : List ob_T := if x % 4 = 2 then .add (DK N (nm (x / 32))) (sp_li (S.take (tk x).toNat)) :: S.drop (tk x).toNat else lft N x :: S
def bfo (N nm : Int → Int) : List Int → List ob_T
  | [] => []
  | x :: r => bpu N nm x (bfo N nm r)
def bok (N nm : Int → Int) : List Int → Prop
  | [] => True
  | x :: r => bok N nm r ∧ (x % 4 = 2 → tk x ≤ ((bfo N nm r).length : Int))
def stk (D : Int → ob_T) (A : Int → Int) : Nat → List ob_T
  | 0 => []
  | m + 1 => D (A (m : Int)) :: stk D A m
section BFO
variable {N nm : Int → Int} {U : Int} {ft : Nat → Int} {x k n : Int} {f : Int → Int} {S : List ob_T}
theorem bpu_c (h : x % 4 = 2) : bpu N nm x S = .add (DK N (nm (x / 32))) (sp_li (S.take (tk x).toNat)) :: S.drop (tk x).toNat := if_pos h
theorem bpu_l (h : ¬ x % 4 = 2) : bpu N nm x S = lft N x :: S := if_neg h
theorem lf_0 (h : x % 4 = 0) : lft N x = DK N (x / 32) := if_pos h
theorem lf_b (h : sp_ba (DK N (x / 32)) = true) : lft N x = DK N (x / 32) := by
  unfold lft sp_cs
  rw [if_pos h]
  split <;> rfl
theorem lf_q (h : ¬ x % 4 = 0) (b : ¬ sp_ba (DK N (x / 32)) = true) : lft N x = .add (.var 85168940) (.add (DK N (x / 32)) (.var 31361)) := by
  unfold lft sp_cs
  rw [if_neg h, if_neg b]
theorem lf_cg {N1 : Int → Int} (h : DK N1 (x / 32) = DK N (x / 32)) : lft N1 x = lft N x := by
  unfold lft
  rw [h]
theorem bfo_lf {L : List Int} {t : ob_T} (x2 : ¬ x % 4 = 2) (o : bok N nm L) (e : lft N x = t) : bok N nm (x :: L) ∧ bfo N nm (x :: L) = t :: bfo N nm L := by
  refine ⟨⟨o, fun h => absurd h x2⟩, ?_⟩
  show bpu N nm x (bfo N nm L) = _
  rw [bpu_l x2, e]
theorem bfo_hd {L S : List Int} {t : ob_T} (o : bok N nm S) (h : (∃ k : Int, (0 ≤ k ∧ k < U) ∧ L = [k * 32 + 1] ∧ t = sp_cs (DK N k)) ∨ (∃ (k : Int) (v : Nat), (0 ≤ k ∧ k < U) ∧ L = [k * 32] ∧ DK N k = .var v ∧ t = .var v ∧ v ≠ 31361 ∧ v ≠ 20)) : bok N nm (L ++ S) ∧ bfo N nm (L ++ S) = t :: bfo N nm S := by
  rcases h with ⟨k, k1, e, et⟩ | ⟨k, v, k1, e, ev, et, -⟩
  · rw [e]
    refine bfo_lf (x := k * 32 + 1) (by omega) o ?_
    unfold lft
    rw [if_neg (by omega), show (k * 32 + 1) / 32 = k by omega, et]
  · rw [e]
    refine bfo_lf (x := k * 32) (by omega) o ?_
    rw [lf_0 (by omega), show k * 32 / 32 = k by omega, ev, et]
theorem bfo_tr (hn : ∀ v : Nat, 0 ≤ ft v → ft v % 4 = 2 ∧ DK N (nm (ft v / 32)) = .var v) : ∀ t : ob_T, (∀ L S : List Int, TRT N U ft L t → bok N nm S → bok N nm (L ++ S) ∧ bfo N nm (L ++ S) = t :: bfo N nm S) ∧ (∀ L S : List Int, TRL N U ft L t → bok N nm S → bok N nm (L ++ S) ∧ bfo N nm (L ++ S) = sp_as t ++ bfo N nm S ∧ sp_li (sp_as t) = t ∧ (sp_ts ft t).2.2 = ((sp_as t).length : Int))
  | .num n => by
    refine ⟨fun L S h o => ?_, fun L S h _ => absurd h id⟩
    rcases TRT_hd h with q | q | ⟨v, b, r, e, -⟩
    · exact bfo_hd o (Or.inl q)
    · exact bfo_hd o (Or.inr q)
    · cases e
  | .var w => by
    refine ⟨fun L S h o => ?_, fun L S h o => ?_⟩
    · rcases TRT_hd h with q | q | ⟨v, b, r, e, -⟩
      · exact bfo_hd o (Or.inl q)
      · exact bfo_hd o (Or.inr q)
      · cases e
    · obtain ⟨e1, e2⟩ := TRL_var.mp h
      rw [e1, e2]
      exact ⟨o, rfl, rfl, rfl⟩
  | .add a b => by
    have ia := bfo_tr hn a
    have ib := bfo_tr hn b
    refine ⟨fun L S h o => ?_, fun L S h o => ?_⟩
    · rcases TRT_hd h with q | q | ⟨v, b1, r, e, q, f0, eL, hr, ea⟩
      · exact bfo_hd o (Or.inl q)
      · exact bfo_hd o (Or.inr q)
      · injection e with e1 e2
        rw [← e2] at hr ea
        obtain ⟨o2, eb, li, tn⟩ := ib.2 r S hr o
        have tkn : (tk (ft v)).toNat = (sp_as b).length := by
          unfold tk
          omega
        have tk0 : 0 ≤ tk (ft v) := (tk_R _).1
        rw [eL, e1]
        refine ⟨⟨o2, fun _ => ?_⟩, ?_⟩
        · show tk (ft v) ≤ ((bfo N nm (r ++ S)).length : Int)
          rw [eb, List.length_append]
          omega
        · show bpu N nm (ft v) (bfo N nm (r ++ S)) = _
          rw [bpu_c (hn v f0).1, eb, tkn, List.take_left, List.drop_left, li, (hn v f0).2]
    · obtain ⟨L1, L2, eL, h1, h2⟩ := h
      obtain ⟨o2, eb, li, tn⟩ := ib.2 L2 S h2 o
      obtain ⟨o1, ea⟩ := ia.1 L1 (L2 ++ S) h1 o2
      rw [eL, List.append_assoc]
      refine ⟨o1, by rw [ea, eb]; rfl, congrArg (Int.Internal.Linear.Expr.add a) li, ?_⟩
      show 1 + (sp_ts ft b).2.2 = ((a :: sp_as b).length : Int)
      rw [tn, List.length_cons]
      omega
  | .sub a b => ⟨fun L S h => absurd h id, fun L S h => absurd h id⟩
  | .neg a => ⟨fun L S h => absurd h id, fun L S h => absurd h id⟩
  | .mulL k a => ⟨fun L S h => absurd h id, fun L S h => absurd h id⟩
  | .mulR a k => ⟨fun L S h => absurd h id, fun L S h => absurd h id⟩
theorem bfo_1 (hn : ∀ v : Nat, 0 ≤ ft v → ft v % 4 = 2 ∧ DK N (nm (ft v / 32)) = .var v) {L : List Int} {t : ob_T} (h : TRT N U ft L t) : bok N nm L ∧ bfo N nm L = [t] := by
  have q := (bfo_tr hn t).1 L [] h trivial
  rw [List.append_nil] at q
  exact q
theorem bfo_at (k0 : 0 ≤ k) (k1 : k < n) : bfo N nm ((rl n f).drop k.toNat) = bpu N nm (f k) (bfo N nm ((rl n f).drop (k + 1).toNat)) := by
  rw [rl_drop (n := n) (f := f) (p := k.toNat) (by omega), show ((k.toNat : Nat) : Int) = k by omega, show (k + 1).toNat = k.toNat + 1 by omega]
  rfl
theorem bok_dr : ∀ {L : List Int}, bok N nm L → ∀ p : Nat, bok N nm (L.drop p)
  | [], _, p => by
    rw [List.drop_nil]
    exact trivial
  | _ :: _, h, 0 => h
  | _ :: _, h, p + 1 => bok_dr h.1 p
theorem bok_at (h : bok N nm (rl n f)) (k0 : 0 ≤ k) (k1 : k < n) : f k % 4 = 2 → tk (f k) ≤ ((bfo N nm ((rl n f).drop (k + 1).toNat)).length : Int) := by
  have q := bok_dr h k.toNat
  rw [rl_drop (n := n) (f := f) (p := k.toNat) (by omega), show ((k.toNat : Nat) : Int) = k by omega] at q
  rw [show (k + 1).toNat = k.toNat + 1 by omega]
  exact q.2
end BFO
section STK
variable {D D1 : Int → ob_T} {A A1 : Int → Int}
theorem stk_len : ∀ m : Nat, (stk D A m).length = m
  | 0 => rfl
  | m + 1 => congrArg Nat.succ (stk_len m)
theorem stk_cg : ∀ m : Nat, (∀ e : Int, 0 ≤ e → e < m → D1 (A1 e) = D (A e)) → stk D1 A1 m = stk D A m
  | 0, _ => rfl
  | m + 1, h => by
    show D1 (A1 (m : Int)) :: stk D1 A1 m = D (A (m : Int)) :: stk D A m
    rw [h (m : Int) (by omega) (by omega), stk_cg m (fun e e0 e1 => h e e0 (by omega))]
theorem stk_drop : ∀ t m : Nat, (stk D A (m + t)).drop t = stk D A m
  | 0, _ => rfl
  | t + 1, m => stk_drop t m
theorem stk_top {i : Int} {B : ob_T} {R : List ob_T} (h : 0 < i) (e : stk D A i.toNat = B :: R) : D (A (i - 1)) = B := by
  rw [show i.toNat = (i - 1).toNat + 1 by omega] at e
  injection e with e1 e2
  rw [show (((i - 1).toNat : Nat) : Int) = i - 1 by omega] at e1
  exact e1
theorem stk_push {i j y : Int} (i0 : 0 ≤ i) (e : j = i + 1) (a : A1 i = y) (b : ∀ e : Int, e < i → A1 e = A e) : stk D A1 j.toNat = D y :: stk D A i.toNat := by
  rw [e, show (i + 1).toNat = i.toNat + 1 by omega]
  show D (A1 ((i.toNat : Nat) : Int)) :: stk D A1 i.toNat = _
  rw [show ((i.toNat : Nat) : Int) = i by omega, a, stk_cg (D1 := D) (D := D) (A1 := A1) (A := A) i.toNat (fun e _ e1 => by rw [b e (by omega)])]
end STK
section KLF
variable {s s1 : KS} {k : Int}
theorem KX_ST2 (hB : KB s) (h : KX s) (hN : KNN s) : STo (SD s) (DK s.N) (s.I 8) := KX_ST hB h (KNN_D hN (i := 0) (by decide)) (KNN_D hN (i := 1) (by decide)) (KNN_D hN (i := 2) (by decide)) (by have := KB_38 hB; omega)
theorem lf_ba (h : STo (SD s) (DK s.N) (s.I 8)) (k0 : 0 ≤ k) (k1 : k < s.I 8) : sp_ba (DK s.N k) = true ↔ (0 ≤ k ∧ k < s.I 8 ∧ 0 ≤ s.N k ∧ s.N k < 4611686018427387904) ∨ k = 0 ∨ k = 1 := by
  have z0 := ST_0 h k0 k1
  have z1 := ST_1 h k0 k1
  have sd : SD s 1 k = (if s.N k < 0 then sd1 (s.N k) else if 4611686018427387904 ≤ s.N k then -2 else -1) := rfl
  have sn : 0 ≤ sd1 (s.N k) := by
    unfold sd1
    omega
  rcases h.1 k k0 k1 with ⟨a, n, e⟩ | ⟨a, v, e⟩ | ⟨a, e⟩
  · rw [e]
    refine ⟨fun _ => Or.inl ⟨k0, k1, ?_⟩, fun _ => rfl⟩
    rw [sd] at a
    by_cases c1 : s.N k < 0
    · rw [if_pos c1] at a
      omega
    · rw [if_neg c1] at a
      by_cases c2 : 4611686018427387904 ≤ s.N k
      · rw [if_pos c2] at a
        omega
      · omega
  · have nn : ¬ (0 ≤ k ∧ k < s.I 8 ∧ 0 ≤ s.N k ∧ s.N k < 4611686018427387904) := fun q => by
      rw [sd, if_neg (by omega), if_neg (by omega)] at a
      omega
    rw [e] at z0 z1 ⊢
    show ((v == 31361 || v == 20) = true) ↔ _
    rw [Bool.or_eq_true, beq_iff_eq, beq_iff_eq]
    refine ⟨fun q => ?_, fun q => ?_⟩
    · rcases q with q | q
      · exact Or.inr (Or.inl (z0.mp (by rw [q])))
      · exact Or.inr (Or.inr (z1.mp (by rw [q])))
    · rcases q with q | q | q
      · exact absurd q nn
      · have := z0.mpr q
        injection this with this
        exact Or.inl this
      · have := z1.mpr q
        injection this with this
        exact Or.inr this
  · have nn : ¬ (0 ≤ k ∧ k < s.I 8 ∧ 0 ≤ s.N k ∧ s.N k < 4611686018427387904) := fun q => by
      rw [sd, if_neg (by omega), if_neg (by omega)] at a
      omega
    rw [e] at z0 z1 ⊢
    refine ⟨fun q => Bool.noConfusion (show false = true from q), fun q => ?_⟩
    rcases q with q | q | q
    · exact absurd q nn
    · cases z0.mpr q
    · cases z1.mpr q
theorem PFR_D (hB : KB s) (h : CX s) (F : PFR s s1) (ho : OB s k) : DK s1.N k = DK s.N k := DK_e hB ⟨h.1, h.2.1⟩ (fun e he => (F.2.2.2.2 e he).1) ho.1 ho.2
theorem KNN_P (hB : KB s) (h : KNN s) (F : PFR s s1) : KNN s1 := fun i hi => by
  have u := KB_38 hB
  rw [(F.2.2.2.2 (i : Int) (by omega)).1]
  exact h i hi
end KLF
theorem kg_leafObjectX (z : Value) (d c : Nat) (x u : Int) (hp : xx_H) (s : KS) (hK : KI c hp s) (hB : KB s) (hC : CX s) (lt : s.I 8 < 32000) (hx : TVx u x) (hu : u ≤ s.I 8) (hN : KNN s) (nl : ¬ x % 4 = 2) : xx_cl (xt_P z) (d + 4) 301 [.ref (c + 25), .int (iI x)] hp (fun v h1 => ∃ (y : Int) (s1 : KS), v = some (.int (iI y)) ∧ KI c h1 s1 ∧ KB s1 ∧ CX s1 ∧ kx c hp s h1 s1 0 0 ∧ KGR s s1 2 ∧ OB s1 y ∧ DK s1.N y = lft s.N x) := by
  have x1 := hx.1
  have x2 := hx.2.1
  have x3 := hx.2.2.2
  have ow : OB s (x / 32) := ⟨by omega, by omega⟩
  have b8 := hB.2.2.2.2.2.1
  have o0 : OB s 0 := ⟨by decide, by omega⟩
  have o2 : OB s 2 := ⟨by decide, by omega⟩
  have hX : KX s := ⟨hC.1, hC.2.1⟩
  have ba := lf_ba (KX_ST2 hB hX hN) ow.1 ow.2
  have d0 : DK s.N 0 = .var 31361 := KNN_D hN (i := 0) (by decide)
  have d2 : DK s.N 2 = .var 85168940 := KNN_D hN (i := 2) (by decide)
  refine cl_go rfl ?_
  show xx_go (xt_P z) (d + 3) 301 0 [some (.ref (c + 25)), some (.int (iI x)), none, none] [] hp _
  refine go_a (pc' := 1) (ls' := [some (.ref (c + 25)), some (.int (iI x)), none, none]) (st' := [.int (iI x)]) rfl rfl ?_
  refine go_s (m := 251) (as := [.int (iI x)]) (r := []) rfl rfl rfl rfl (kg_what z (d + 2) x hp (by omega) x2) (fun v h3 hq => ?_)
  obtain ⟨rfl, e⟩ := hq
  rw [e]
  clear e h3
  show xx_go (xt_P z) (d + 3) 301 4 [some (.ref (c + 25)), some (.int (iI x)), none, none] [.int (iI (x / 32))] hp _
  refine go_a (pc' := 5) (ls' := [some (.ref (c + 25)), some (.int (iI x)), some (.int (iI (x / 32))), none]) (st' := []) rfl rfl ?_
  refine go_a (pc' := 6) (ls' := [some (.ref (c + 25)), some (.int (iI x)), some (.int (iI (x / 32))), none]) (st' := [.ref (c + 25)]) rfl rfl ?_
  refine go_get (v := .ref (c + 4)) rfl (hK.1 16 (by decide)) rfl rfl ?_
  refine go_a (pc' := 10) (ls' := [some (.ref (c + 25)), some (.int (iI x)), some (.int (iI (x / 32))), none]) (st' := [.int (iI (x / 32)), .ref (c + 4)]) rfl rfl ?_
  have br : DK s.N (x / 32) = lft s.N x → ∀ y3 : Option Value, xx_go (xt_P z) (d + 3) 301 42 [some (.ref (c + 25)), some (.int (iI x)), some (.int (iI (x / 32))), y3] [] hp (fun v h1 => ∃ (y : Int) (s1 : KS), v = some (.int (iI y)) ∧ KI c h1 s1 ∧ KB s1 ∧ CX s1 ∧ kx c hp s h1 s1 0 0 ∧ KGR s s1 2 ∧ OB s1 y ∧ DK s1.N y = lft s.N x) := by
    intro e9 y3
    refine go_a (pc' := 43) (ls' := [some (.ref (c + 25)), some (.int (iI x)), some (.int (iI (x / 32))), y3]) (st' := [.int (iI (x / 32))]) rfl rfl ?_
    refine go_a (pc' := 63) (ls' := [some (.ref (c + 25)), some (.int (iI x)), some (.int (iI (x / 32))), y3]) (st' := [.int (iI (x / 32))]) rfl rfl ?_
    exact go_r rfl rfl rfl rfl rfl rfl ⟨x / 32, s, rfl, hK, hB, hC, kx_rf, KGR_w KGR_rf (by decide), ow, e9⟩
  have qu : lft s.N x = .add (.var 85168940) (.add (DK s.N (x / 32)) (.var 31361)) → ∀ y3 : Option Value, xx_go (xt_P z) (d + 3) 301 46 [some (.ref (c + 25)), some (.int (iI x)), some (.int (iI (x / 32))), y3] [] hp (fun v h1 => ∃ (y : Int) (s1 : KS), v = some (.int (iI y)) ∧ KI c h1 s1 ∧ KB s1 ∧ CX s1 ∧ kx c hp s h1 s1 0 0 ∧ KGR s s1 2 ∧ OB s1 y ∧ DK s1.N y = lft s.N x) := by
    intro e9 y3
    refine go_a (pc' := 47) (ls' := [some (.ref (c + 25)), some (.int (iI x)), some (.int (iI (x / 32))), y3]) (st' := [.ref (c + 25)]) rfl rfl ?_
    refine go_get (v := .ref (c + 4)) rfl (hK.1 16 (by decide)) rfl rfl ?_
    refine go_a (pc' := 51) (ls' := [some (.ref (c + 25)), some (.int (iI x)), some (.int (iI (x / 32))), y3]) (st' := [.int (iI 2), .ref (c + 4)]) rfl rfl ?_
    refine go_a (pc' := 52) (ls' := [some (.ref (c + 25)), some (.int (iI x)), some (.int (iI (x / 32))), y3]) (st' := [.ref (c + 25), .int (iI 2), .ref (c + 4)]) rfl rfl ?_
    refine go_get (v := .ref (c + 4)) rfl (hK.1 16 (by decide)) rfl rfl ?_
    refine go_a (pc' := 56) (ls' := [some (.ref (c + 25)), some (.int (iI x)), some (.int (iI (x / 32))), y3]) (st' := [.int (iI (x / 32)), .ref (c + 4), .int (iI 2), .ref (c + 4)]) rfl rfl ?_
    refine go_a (pc' := 57) (ls' := [some (.ref (c + 25)), some (.int (iI x)), some (.int (iI (x / 32))), y3]) (st' := [.int (iI 0), .int (iI (x / 32)), .ref (c + 4), .int (iI 2), .ref (c + 4)]) rfl rfl ?_
    refine go_v (m := 194) (as := [.ref (c + 4), .int (iI (x / 32)), .int (iI 0)]) (r := [.int (iI 2), .ref (c + 4)]) rfl rfl rfl (hK.1 3 (by decide)) rfl rfl (kc_pairX z d c (x / 32) 0 hp s hK hB hC (by omega) ow.1 ow.2 o0.1 o0.2) (fun v h1 hq => ?_)
    obtain ⟨k1, s1, rfl, K1, B1, C1, X1, G1, O1, -, D1⟩ := hq
    show xx_go (xt_P z) (d + 3) 301 60 [some (.ref (c + 25)), some (.int (iI x)), some (.int (iI (x / 32))), y3] [.int (iI k1), .int (iI 2), .ref (c + 4)] h1 _
    have g1 := G1.2.2.1
    have o21 : OB s1 2 := PFR_OB (KGR_P G1) o2
    refine go_v (m := 194) (as := [.ref (c + 4), .int (iI 2), .int (iI k1)]) (r := []) rfl rfl rfl (K1.1 3 (by decide)) rfl rfl (kc_pairX z d c 2 k1 h1 s1 K1 B1 C1 (by omega) o21.1 o21.2 O1.1 O1.2) (fun v h2 hq => ?_)
    obtain ⟨k2, s2, rfl, K2, B2, C2, X2, G2, O2, -, D2⟩ := hq
    show xx_go (xt_P z) (d + 3) 301 63 [some (.ref (c + 25)), some (.int (iI x)), some (.int (iI (x / 32))), y3] [.int (iI k2)] h2 _
    exact go_r rfl rfl rfl rfl rfl rfl ⟨k2, s2, rfl, K2, B2, C2, kx_w (kx_tr X1 X2) (by decide) (by decide), KGR_w (KGR_tr G1 G2) (by decide), O2, by rw [D2, D1, DK_gr hB hX G1 (k := 2) (by decide) o2.2, d2, d0, e9]⟩
  have one : DK s.N (x / 32) = lft s.N x → ∀ y3 : Option Value, xx_go (xt_P z) (d + 3) 301 30 [some (.ref (c + 25)), some (.int (iI x)), some (.int (iI (x / 32))), y3] [.int (iI 1)] hp (fun v h1 => ∃ (y : Int) (s1 : KS), v = some (.int (iI y)) ∧ KI c h1 s1 ∧ KB s1 ∧ CX s1 ∧ kx c hp s h1 s1 0 0 ∧ KGR s s1 2 ∧ OB s1 y ∧ DK s1.N y = lft s.N x) := by
    intro e9 y3
    refine go_a (pc' := 31) (ls' := [some (.ref (c + 25)), some (.int (iI x)), some (.int (iI (x / 32))), some (.int (iI 1))]) (st' := []) rfl rfl ?_
    refine go_a (pc' := 32) (ls' := [some (.ref (c + 25)), some (.int (iI x)), some (.int (iI (x / 32))), some (.int (iI 1))]) (st' := [.int (iI 1)]) rfl rfl ?_
    refine mi_ne0 (t := 42) rfl rfl (by omega) (by omega) (fun _ => br e9 _) (fun q => absurd (show (1 : Int) ≠ 0 by decide) q)
  have zer : ¬ sp_ba (DK s.N (x / 32)) = true → ∀ y3 : Option Value, xx_go (xt_P z) (d + 3) 301 30 [some (.ref (c + 25)), some (.int (iI x)), some (.int (iI (x / 32))), y3] [.int (iI 0)] hp (fun v h1 => ∃ (y : Int) (s1 : KS), v = some (.int (iI y)) ∧ KI c h1 s1 ∧ KB s1 ∧ CX s1 ∧ kx c hp s h1 s1 0 0 ∧ KGR s s1 2 ∧ OB s1 y ∧ DK s1.N y = lft s.N x) := by
    intro e9 y3
    refine go_a (pc' := 31) (ls' := [some (.ref (c + 25)), some (.int (iI x)), some (.int (iI (x / 32))), some (.int (iI 0))]) (st' := []) rfl rfl ?_
    refine go_a (pc' := 32) (ls' := [some (.ref (c + 25)), some (.int (iI x)), some (.int (iI (x / 32))), some (.int (iI 0))]) (st' := [.int (iI 0)]) rfl rfl ?_
    refine mi_ne0 (t := 42) rfl rfl (by omega) (by omega) (fun q => absurd rfl q) (fun _ => ?_)
    refine go_a (pc' := 36) (ls' := [some (.ref (c + 25)), some (.int (iI x)), some (.int (iI (x / 32))), some (.int (iI 0))]) (st' := [.int (iI x)]) rfl rfl ?_
    refine go_s (m := 227) (as := [.int (iI x)]) (r := []) rfl rfl rfl rfl (kg_isVariable z (d + 2) x hp) (fun v h3 hq => ?_)
    obtain ⟨hq, e⟩ := hq
    rw [e]
    clear e h3
    rcases hq with ⟨c1, rfl⟩ | ⟨c1, rfl⟩
    · show xx_go (xt_P z) (d + 3) 301 39 [some (.ref (c + 25)), some (.int (iI x)), some (.int (iI (x / 32))), some (.int (iI 0))] [.int (iI 1)] hp _
      refine mi_eq0 (t := 46) rfl rfl (by omega) (by omega) (fun q => absurd q (by decide)) (fun _ => br (lf_0 c1).symm _)
    · show xx_go (xt_P z) (d + 3) 301 39 [some (.ref (c + 25)), some (.int (iI x)), some (.int (iI (x / 32))), some (.int (iI 0))] [.int (iI 0)] hp _
      refine mi_eq0 (t := 46) rfl rfl (by omega) (by omega) (fun _ => qu (lf_q c1 e9) _) (fun q => absurd rfl q)
  refine go_v (m := 256) (as := [.ref (c + 4), .int (iI (x / 32))]) (r := []) rfl rfl rfl (hK.1 3 (by decide)) rfl rfl (kc_isNatural z (d + 2) c (x / 32) hp s hK hB (by omega) (by omega)) (fun v h3 hq => ?_)
  obtain ⟨hq, e⟩ := hq
  rw [e]
  clear e h3
  rcases hq with ⟨c1, rfl⟩ | ⟨c1, rfl⟩
  · show xx_go (xt_P z) (d + 3) 301 13 [some (.ref (c + 25)), some (.int (iI x)), some (.int (iI (x / 32))), none] [.int (iI 1)] hp _
    refine mi_ne0 (t := 25) rfl rfl (by omega) (by omega) (fun _ => ?_) (fun q => absurd (show (1 : Int) ≠ 0 by decide) q)
    refine go_a (pc' := 26) (ls' := [some (.ref (c + 25)), some (.int (iI x)), some (.int (iI (x / 32))), none]) (st' := [.int (iI 1)]) rfl rfl ?_
    refine go_a (pc' := 30) (ls' := [some (.ref (c + 25)), some (.int (iI x)), some (.int (iI (x / 32))), none]) (st' := [.int (iI 1)]) rfl rfl ?_
    exact one (lf_b (ba.mpr (Or.inl c1))).symm _
  · show xx_go (xt_P z) (d + 3) 301 13 [some (.ref (c + 25)), some (.int (iI x)), some (.int (iI (x / 32))), none] [.int (iI 0)] hp _
    refine mi_ne0 (t := 25) rfl rfl (by omega) (by omega) (fun q => absurd rfl q) (fun _ => ?_)
    refine go_a (pc' := 17) (ls' := [some (.ref (c + 25)), some (.int (iI x)), some (.int (iI (x / 32))), none]) (st' := [.int (iI (x / 32))]) rfl rfl ?_
    refine mi_eq0 (t := 25) rfl rfl (by omega) (by omega) (fun w3 => ?_) (fun w3 => ?_)
    · refine go_a (pc' := 26) (ls' := [some (.ref (c + 25)), some (.int (iI x)), some (.int (iI (x / 32))), none]) (st' := [.int (iI 1)]) rfl rfl ?_
      refine go_a (pc' := 30) (ls' := [some (.ref (c + 25)), some (.int (iI x)), some (.int (iI (x / 32))), none]) (st' := [.int (iI 1)]) rfl rfl ?_
      exact one (lf_b (ba.mpr (by omega))).symm _
    · refine go_a (pc' := 21) (ls' := [some (.ref (c + 25)), some (.int (iI x)), some (.int (iI (x / 32))), none]) (st' := [.int (iI (x / 32))]) rfl rfl ?_
      refine go_a (pc' := 22) (ls' := [some (.ref (c + 25)), some (.int (iI x)), some (.int (iI (x / 32))), none]) (st' := [.int (iI 1), .int (iI (x / 32))]) rfl rfl ?_
      refine mi_ne (t := 29) rfl rfl (by omega) (by omega) (by omega) (by omega) (fun w4 => ?_) (fun w4 => ?_)
      · refine go_a (pc' := 30) (ls' := [some (.ref (c + 25)), some (.int (iI x)), some (.int (iI (x / 32))), none]) (st' := [.int (iI 0)]) rfl rfl ?_
        exact zer (fun q9 => by have q9 := ba.mp q9; omega) _
      · refine go_a (pc' := 26) (ls' := [some (.ref (c + 25)), some (.int (iI x)), some (.int (iI (x / 32))), none]) (st' := [.int (iI 1)]) rfl rfl ?_
        refine go_a (pc' := 30) (ls' := [some (.ref (c + 25)), some (.int (iI x)), some (.int (iI (x / 32))), none]) (st' := [.int (iI 1)]) rfl rfl ?_
        exact one (lf_b (ba.mpr (by omega))).symm _
theorem kg_cobj_loopX (z : Value) (d c : Nat) (x u p : Int) (NM : BKM) (hp0 : xx_H) (s0 : KS) (lt : s0.I 8 < 32000) (hx : TVx u x) (hu : u ≤ s0.I 8) (um : u ≤ 67108864) (hF0 : BF c hp0 s0 u NM) (p0 : s0.I 7 - 7 ≤ p) (p1 : p ≤ s0.I 7) (h7 : s0.I 7 ≤ 1000) (h70 : 0 ≤ s0.I 7) (pp : 0 ≤ p) (hB0 : KB s0) (hC0 : CX s0) (hD0 : TD s0) : ∀ (q : Nat) (k l : Int) (hp : xx_H) (s : KS), (s0.I 7 - k).toNat ≤ q → p ≤ k → k ≤ s0.I 7 → KI c hp s → KB s → CX s → kx c hp0 s0 hp s 0 0 → PFR s0 s → s.I 8 ≤ s0.I 8 + (k - p) → TD s → s.I 7 = s0.I 7 → OB s l → s.A 7 = s0.A 7 → DK s.N l = sp_li ((stk (DK s0.N) (s0.A 7) k.toNat).take (k - p).toNat) → xx_go (xt_P z) (d + 5) 299 18 [some (.ref (c + 25)), some (.int (iI x)), some (.int (iI p)), some (.int (iI l)), some (.int (iI k))] [] hp (fun v h1 => ∃ (y : Int) (s1 : KS), v = some (.int (iI y)) ∧ KI c h1 s1 ∧ KB s1 ∧ CX s1 ∧ kx c hp0 s0 h1 s1 0 0 ∧ PFR s0 s1 ∧ s1.I 8 ≤ s0.I 8 + 8 ∧ OB s1 y ∧ TD s1 ∧ s1.A 7 = s0.A 7 ∧ s1.I 7 = p ∧ (0 ≤ nmo (s0.I 27) NM (x / 32) ∧ nmo (s0.I 27) NM (x / 32) < u) ∧ DK s1.N y = .add (DK s0.N (nmo (s0.I 27) NM (x / 32))) (sp_li ((stk (DK s0.N) (s0.A 7) (s0.I 7).toNat).take (s0.I 7 - p).toNat))) := by
  have x1 := hx.1
  have x2 := hx.2.1
  have x3 := hx.2.2.2
  intro q
  induction q with
  | zero =>
    intro k l hp s hq k0 k1 hK hB hC hX hP h8 hD e7 hl hA hDl
    refine go_a (pc' := 20) (ls' := [some (.ref (c + 25)), some (.int (iI x)), some (.int (iI p)), some (.int (iI l)), some (.int (iI k))]) (st' := [.int (iI k)]) rfl rfl ?_
    refine go_a (pc' := 21) (ls' := [some (.ref (c + 25)), some (.int (iI x)), some (.int (iI p)), some (.int (iI l)), some (.int (iI k))]) (st' := [.ref (c + 25), .int (iI k)]) rfl rfl ?_
    refine go_get (v := .ref (c + 28)) rfl (hK.1 16 (by decide)) rfl rfl ?_
    refine go_v (m := 34) (as := [.ref (c + 28)]) (r := [.int (iI k)]) rfl rfl rfl (hK.1 18 (by decide)) rfl rfl (kr_length_7 z (d + 4) c hp s hK) (fun v h3 hq => ?_)
    obtain ⟨rfl, e⟩ := hq
    rw [e]
    clear e h3
    show xx_go (xt_P z) (d + 5) 299 27 [some (.ref (c + 25)), some (.int (iI x)), some (.int (iI p)), some (.int (iI l)), some (.int (iI k))] [.int (iI (s.I 7)), .int (iI k)] hp _
    refine mi_ge (t := 54) rfl rfl (by omega) (by omega) (by omega) (by omega) (fun _ => ?_) (fun w => absurd (show k ≥ s.I 7 by omega) w)
    refine go_a (pc' := 55) (ls' := [some (.ref (c + 25)), some (.int (iI x)), some (.int (iI p)), some (.int (iI l)), some (.int (iI k))]) (st' := [.ref (c + 25)]) rfl rfl ?_
    refine go_get (v := .ref (c + 28)) rfl (hK.1 16 (by decide)) rfl rfl ?_
    refine go_a (pc' := 59) (ls' := [some (.ref (c + 25)), some (.int (iI x)), some (.int (iI p)), some (.int (iI l)), some (.int (iI k))]) (st' := [.int (iI p), .ref (c + 28)]) rfl rfl ?_
    refine go_v (m := 39) (as := [.ref (c + 28), .int (iI p)]) (r := []) rfl rfl rfl (hK.1 18 (by decide)) rfl rfl (kr_cut_7 z (d + 4) c p hp s hK hB (by omega) (by omega)) (fun v h3 hq => ?_)
    obtain ⟨rfl, hq⟩ := hq
    have M : ∃ t : KS, KI c h3 t ∧ KB t ∧ kx c hp0 s0 h3 t 0 0 ∧ TF s t ∧ TD t ∧ t.A 7 = s.A 7 ∧ t.I 7 = p := by
      rcases hq with ⟨a1, a2, a3, a4, a5⟩ | ⟨a1, rfl⟩
      · refine ⟨_, a3, a4, kx_w (kx_tr hX a5) (by decide) (by decide), TF_wI (Or.inr rfl), fun j j0 j1 => ?_, rfl, rfl⟩
        have j2 : j < p := j1
        exact hD j j0 (by omega)
      · exact ⟨s, hK, hB, hX, TF_rf, hD, rfl, by omega⟩
    clear hq
    obtain ⟨t, Kt, Bt, Xt, Ft, Dt, At, It⟩ := M
    have Pt := PFR_tr hP (TF_P Ft)
    have Ct := TF_CX Ft hC
    have e8 : t.I 8 = s.I 8 := Ft.2.2.2 8 (by decide) (by decide)
    have p8 := hP.2.2.2.1
    show xx_go (xt_P z) (d + 5) 299 62 [some (.ref (c + 25)), some (.int (iI x)), some (.int (iI p)), some (.int (iI l)), some (.int (iI k))] [] h3 _
    refine go_a (pc' := 63) (ls' := [some (.ref (c + 25)), some (.int (iI x)), some (.int (iI p)), some (.int (iI l)), some (.int (iI k))]) (st' := [.ref (c + 25)]) rfl rfl ?_
    refine go_get (v := .ref (c + 4)) rfl (Kt.1 16 (by decide)) rfl rfl ?_
    refine go_a (pc' := 67) (ls' := [some (.ref (c + 25)), some (.int (iI x)), some (.int (iI p)), some (.int (iI l)), some (.int (iI k))]) (st' := [.ref (c + 25), .ref (c + 4)]) rfl rfl ?_
    refine go_get (v := .ref (c + 21)) rfl (Kt.1 16 (by decide)) rfl rfl ?_
    refine go_a (pc' := 71) (ls' := [some (.ref (c + 25)), some (.int (iI x)), some (.int (iI p)), some (.int (iI l)), some (.int (iI k))]) (st' := [.int (iI x), .ref (c + 21), .ref (c + 4)]) rfl rfl ?_
    refine go_s (m := 251) (as := [.int (iI x)]) (r := [.ref (c + 21), .ref (c + 4)]) rfl rfl rfl rfl (kg_what z (d + 4) x h3 (by omega) x2) (fun v h4 hq => ?_)
    obtain ⟨rfl, e⟩ := hq
    rw [e]
    clear e h4
    show xx_go (xt_P z) (d + 5) 299 74 [some (.ref (c + 25)), some (.int (iI x)), some (.int (iI p)), some (.int (iI l)), some (.int (iI k))] [.int (iI (x / 32)), .ref (c + 21), .ref (c + 4)] h3 _
    have Ft0 := BF_kx hF0 Xt (Int.le_refl _) (Pt.2.2.1 27 (by decide) (by decide) (by decide) (by decide) (by decide) (by decide)) (by rw [Pt.1])
    refine go_v (m := 300) (as := [.ref (c + 21), .int (iI (x / 32))]) (r := [.ref (c + 4)]) rfl rfl rfl (Kt.1 12 (by decide)) rfl rfl (kf_nameOf z (d + 1) c (x / 32) h3 t Kt Bt u NM Ft0 um (by omega) x3) (fun v h4 hq => ?_)
    obtain ⟨⟨y, rfl, ⟨y0, y1⟩, ey⟩, e⟩ := hq
    rw [e]
    clear e h4
    show xx_go (xt_P z) (d + 5) 299 77 [some (.ref (c + 25)), some (.int (iI x)), some (.int (iI p)), some (.int (iI l)), some (.int (iI k))] [.int (iI y), .ref (c + 4)] h3 _
    refine go_a (pc' := 78) (ls' := [some (.ref (c + 25)), some (.int (iI x)), some (.int (iI p)), some (.int (iI l)), some (.int (iI k))]) (st' := [.int (iI l), .int (iI y), .ref (c + 4)]) rfl rfl ?_
    have oy : OB t y := ⟨y0, by omega⟩
    have ol : OB t l := TF_OB Ft hl
    refine go_v (m := 194) (as := [.ref (c + 4), .int (iI y), .int (iI l)]) (r := []) rfl rfl rfl (Kt.1 3 (by decide)) rfl rfl (kc_pairX z (d + 2) c y l h3 t Kt Bt Ct (by omega) oy.1 oy.2 ol.1 ol.2) (fun v h5 hq => ?_)
    obtain ⟨k5, s5, rfl, K5, B5, C5, X5, G5, O5, -, D5⟩ := hq
    show xx_go (xt_P z) (d + 5) 299 81 [some (.ref (c + 25)), some (.int (iI x)), some (.int (iI p)), some (.int (iI l)), some (.int (iI k))] [.int (iI k5)] h5 _
    have ey : y = nmo (s0.I 27) NM (x / 32) := by rw [ey, Pt.2.2.1 27 (by decide) (by decide) (by decide) (by decide) (by decide) (by decide)]; rfl
    have g5 := G5.2.2.1
    have e7 : s5.I 7 = t.I 7 := G5.1.2.2.2 7 (by decide)
    have a7 : s5.A 7 = t.A 7 := G5.1.2.1 7 (by decide) (by decide) (by decide)
    exact go_r rfl rfl rfl rfl rfl rfl ⟨k5, s5, rfl, K5, B5, C5, kx_w (kx_tr Xt X5) (by decide) (by decide), PFR_tr Pt (KGR_P G5), by omega, O5, fun j j0 j1 => by
      rw [a7]
      exact PFR_OB (KGR_P G5) (Dt j j0 (by omega)), by rw [a7, At, hA], by omega, by rw [← ey]; exact ⟨y0, y1⟩, by
      rw [D5, Ft.1, hDl, ← ey, show k = s0.I 7 by omega, ← Ft.1, PFR_D hB0 hC0 Pt (k := y) ⟨y0, by omega⟩]⟩
  | succ q ih =>
    intro k l hp s hq k0 k1 hK hB hC hX hP h8 hD e7 hl hA hDl
    refine go_a (pc' := 20) (ls' := [some (.ref (c + 25)), some (.int (iI x)), some (.int (iI p)), some (.int (iI l)), some (.int (iI k))]) (st' := [.int (iI k)]) rfl rfl ?_
    refine go_a (pc' := 21) (ls' := [some (.ref (c + 25)), some (.int (iI x)), some (.int (iI p)), some (.int (iI l)), some (.int (iI k))]) (st' := [.ref (c + 25), .int (iI k)]) rfl rfl ?_
    refine go_get (v := .ref (c + 28)) rfl (hK.1 16 (by decide)) rfl rfl ?_
    refine go_v (m := 34) (as := [.ref (c + 28)]) (r := [.int (iI k)]) rfl rfl rfl (hK.1 18 (by decide)) rfl rfl (kr_length_7 z (d + 4) c hp s hK) (fun v h3 hq => ?_)
    obtain ⟨rfl, e⟩ := hq
    rw [e]
    clear e h3
    show xx_go (xt_P z) (d + 5) 299 27 [some (.ref (c + 25)), some (.int (iI x)), some (.int (iI p)), some (.int (iI l)), some (.int (iI k))] [.int (iI (s.I 7)), .int (iI k)] hp _
    refine mi_ge (t := 54) rfl rfl (by omega) (by omega) (by omega) (by omega) (fun w1 => ?_) (fun w1 => ?_)
    · refine go_a (pc' := 55) (ls' := [some (.ref (c + 25)), some (.int (iI x)), some (.int (iI p)), some (.int (iI l)), some (.int (iI k))]) (st' := [.ref (c + 25)]) rfl rfl ?_
      refine go_get (v := .ref (c + 28)) rfl (hK.1 16 (by decide)) rfl rfl ?_
      refine go_a (pc' := 59) (ls' := [some (.ref (c + 25)), some (.int (iI x)), some (.int (iI p)), some (.int (iI l)), some (.int (iI k))]) (st' := [.int (iI p), .ref (c + 28)]) rfl rfl ?_
      refine go_v (m := 39) (as := [.ref (c + 28), .int (iI p)]) (r := []) rfl rfl rfl (hK.1 18 (by decide)) rfl rfl (kr_cut_7 z (d + 4) c p hp s hK hB (by omega) (by omega)) (fun v h3 hq => ?_)
      obtain ⟨rfl, hq⟩ := hq
      have M : ∃ t : KS, KI c h3 t ∧ KB t ∧ kx c hp0 s0 h3 t 0 0 ∧ TF s t ∧ TD t ∧ t.A 7 = s.A 7 ∧ t.I 7 = p := by
        rcases hq with ⟨a1, a2, a3, a4, a5⟩ | ⟨a1, rfl⟩
        · refine ⟨_, a3, a4, kx_w (kx_tr hX a5) (by decide) (by decide), TF_wI (Or.inr rfl), fun j j0 j1 => ?_, rfl, rfl⟩
          have j2 : j < p := j1
          exact hD j j0 (by omega)
        · exact ⟨s, hK, hB, hX, TF_rf, hD, rfl, by omega⟩
      clear hq
      obtain ⟨t, Kt, Bt, Xt, Ft, Dt, At, It⟩ := M
      have Pt := PFR_tr hP (TF_P Ft)
      have Ct := TF_CX Ft hC
      have e8 : t.I 8 = s.I 8 := Ft.2.2.2 8 (by decide) (by decide)
      have p8 := hP.2.2.2.1
      show xx_go (xt_P z) (d + 5) 299 62 [some (.ref (c + 25)), some (.int (iI x)), some (.int (iI p)), some (.int (iI l)), some (.int (iI k))] [] h3 _
      refine go_a (pc' := 63) (ls' := [some (.ref (c + 25)), some (.int (iI x)), some (.int (iI p)), some (.int (iI l)), some (.int (iI k))]) (st' := [.ref (c + 25)]) rfl rfl ?_
      refine go_get (v := .ref (c + 4)) rfl (Kt.1 16 (by decide)) rfl rfl ?_
      refine go_a (pc' := 67) (ls' := [some (.ref (c + 25)), some (.int (iI x)), some (.int (iI p)), some (.int (iI l)), some (.int (iI k))]) (st' := [.ref (c + 25), .ref (c + 4)]) rfl rfl ?_
      refine go_get (v := .ref (c + 21)) rfl (Kt.1 16 (by decide)) rfl rfl ?_
      refine go_a (pc' := 71) (ls' := [some (.ref (c + 25)), some (.int (iI x)), some (.int (iI p)), some (.int (iI l)), some (.int (iI k))]) (st' := [.int (iI x), .ref (c + 21), .ref (c + 4)]) rfl rfl ?_
      refine go_s (m := 251) (as := [.int (iI x)]) (r := [.ref (c + 21), .ref (c + 4)]) rfl rfl rfl rfl (kg_what z (d + 4) x h3 (by omega) x2) (fun v h4 hq => ?_)
      obtain ⟨rfl, e⟩ := hq
      rw [e]
      clear e h4
      show xx_go (xt_P z) (d + 5) 299 74 [some (.ref (c + 25)), some (.int (iI x)), some (.int (iI p)), some (.int (iI l)), some (.int (iI k))] [.int (iI (x / 32)), .ref (c + 21), .ref (c + 4)] h3 _
      have Ft0 := BF_kx hF0 Xt (Int.le_refl _) (Pt.2.2.1 27 (by decide) (by decide) (by decide) (by decide) (by decide) (by decide)) (by rw [Pt.1])
      refine go_v (m := 300) (as := [.ref (c + 21), .int (iI (x / 32))]) (r := [.ref (c + 4)]) rfl rfl rfl (Kt.1 12 (by decide)) rfl rfl (kf_nameOf z (d + 1) c (x / 32) h3 t Kt Bt u NM Ft0 um (by omega) x3) (fun v h4 hq => ?_)
      obtain ⟨⟨y, rfl, ⟨y0, y1⟩, ey⟩, e⟩ := hq
      rw [e]
      clear e h4
      show xx_go (xt_P z) (d + 5) 299 77 [some (.ref (c + 25)), some (.int (iI x)), some (.int (iI p)), some (.int (iI l)), some (.int (iI k))] [.int (iI y), .ref (c + 4)] h3 _
      refine go_a (pc' := 78) (ls' := [some (.ref (c + 25)), some (.int (iI x)), some (.int (iI p)), some (.int (iI l)), some (.int (iI k))]) (st' := [.int (iI l), .int (iI y), .ref (c + 4)]) rfl rfl ?_
      have oy : OB t y := ⟨y0, by omega⟩
      have ol : OB t l := TF_OB Ft hl
      refine go_v (m := 194) (as := [.ref (c + 4), .int (iI y), .int (iI l)]) (r := []) rfl rfl rfl (Kt.1 3 (by decide)) rfl rfl (kc_pairX z (d + 2) c y l h3 t Kt Bt Ct (by omega) oy.1 oy.2 ol.1 ol.2) (fun v h5 hq => ?_)
      obtain ⟨k5, s5, rfl, K5, B5, C5, X5, G5, O5, -, D5⟩ := hq
      show xx_go (xt_P z) (d + 5) 299 81 [some (.ref (c + 25)), some (.int (iI x)), some (.int (iI p)), some (.int (iI l)), some (.int (iI k))] [.int (iI k5)] h5 _
      have ey : y = nmo (s0.I 27) NM (x / 32) := by rw [ey, Pt.2.2.1 27 (by decide) (by decide) (by decide) (by decide) (by decide) (by decide)]; rfl
      have g5 := G5.2.2.1
      have e7 : s5.I 7 = t.I 7 := G5.1.2.2.2 7 (by decide)
      have a7 : s5.A 7 = t.A 7 := G5.1.2.1 7 (by decide) (by decide) (by decide)
      exact go_r rfl rfl rfl rfl rfl rfl ⟨k5, s5, rfl, K5, B5, C5, kx_w (kx_tr Xt X5) (by decide) (by decide), PFR_tr Pt (KGR_P G5), by omega, O5, fun j j0 j1 => by
        rw [a7]
        exact PFR_OB (KGR_P G5) (Dt j j0 (by omega)), by rw [a7, At, hA], by omega, by rw [← ey]; exact ⟨y0, y1⟩, by
        rw [D5, Ft.1, hDl, ← ey, show k = s0.I 7 by omega, ← Ft.1, PFR_D hB0 hC0 Pt (k := y) ⟨y0, by omega⟩]⟩
    · have b8 := hB.2.2.2.2.2.1
      refine go_a (pc' := 31) (ls' := [some (.ref (c + 25)), some (.int (iI x)), some (.int (iI p)), some (.int (iI l)), some (.int (iI k))]) (st' := [.ref (c + 25)]) rfl rfl ?_
      refine go_get (v := .ref (c + 4)) rfl (hK.1 16 (by decide)) rfl rfl ?_
      refine go_a (pc' := 35) (ls' := [some (.ref (c + 25)), some (.int (iI x)), some (.int (iI p)), some (.int (iI l)), some (.int (iI k))]) (st' := [.ref (c + 25), .ref (c + 4)]) rfl rfl ?_
      refine go_get (v := .ref (c + 28)) rfl (hK.1 16 (by decide)) rfl rfl ?_
      refine go_a (pc' := 40) (ls' := [some (.ref (c + 25)), some (.int (iI x)), some (.int (iI p)), some (.int (iI l)), some (.int (iI k))]) (st' := [.int (iI k), .ref (c + 28), .ref (c + 4)]) rfl rfl ?_
      refine go_v (m := 43) (as := [.ref (c + 28), .int (iI k)]) (r := [.ref (c + 4)]) rfl rfl rfl (hK.1 18 (by decide)) rfl rfl (kr_at_7 z (d + 4) c k hp s hK hB (by omega) (by omega)) (fun v h3 hq => ?_)
      have M : ∃ y : Int, v = some (.int (iI y)) ∧ OB s y ∧ y = s.A 7 k := by
        rcases hq.1 with ⟨a1, a2, a3⟩ | ⟨a1, a3⟩
        · exact ⟨_, a3, hD k a1 a2, rfl⟩
        · exact absurd (show 0 ≤ k ∧ k < s.I 7 by omega) a1
      have e := hq.2
      clear hq
      obtain ⟨y, rfl, oy, ey⟩ := M
      rw [e]
      clear e h3
      show xx_go (xt_P z) (d + 5) 299 43 [some (.ref (c + 25)), some (.int (iI x)), some (.int (iI p)), some (.int (iI l)), some (.int (iI k))] [.int (iI y), .ref (c + 4)] hp _
      refine go_a (pc' := 44) (ls' := [some (.ref (c + 25)), some (.int (iI x)), some (.int (iI p)), some (.int (iI l)), some (.int (iI k))]) (st' := [.int (iI l), .int (iI y), .ref (c + 4)]) rfl rfl ?_
      refine go_v (m := 194) (as := [.ref (c + 4), .int (iI y), .int (iI l)]) (r := []) rfl rfl rfl (hK.1 3 (by decide)) rfl rfl (kc_pairX z (d + 2) c y l hp s hK hB hC (by omega) oy.1 oy.2 hl.1 hl.2) (fun v h5 hq => ?_)
      obtain ⟨k5, s5, rfl, K5, B5, C5, X5, G5, O5, -, D5⟩ := hq
      show xx_go (xt_P z) (d + 5) 299 47 [some (.ref (c + 25)), some (.int (iI x)), some (.int (iI p)), some (.int (iI l)), some (.int (iI k))] [.int (iI k5)] h5 _
      refine go_a (pc' := 48) (ls' := [some (.ref (c + 25)), some (.int (iI x)), some (.int (iI p)), some (.int (iI k5)), some (.int (iI k))]) (st' := []) rfl rfl ?_
      refine go_a (pc' := 51) (ls' := [some (.ref (c + 25)), some (.int (iI x)), some (.int (iI p)), some (.int (iI k5)), some (.int (iI (k + 1)))]) (st' := []) rfl (by rw [← iI_add k 1]; rfl) ?_
      refine go_a (pc' := 18) (ls' := [some (.ref (c + 25)), some (.int (iI x)), some (.int (iI p)), some (.int (iI k5)), some (.int (iI (k + 1)))]) (st' := []) rfl rfl ?_
      have g5 := G5.2.2.1
      have e75 : s5.I 7 = s.I 7 := G5.1.2.2.2 7 (by decide)
      have a7 : s5.A 7 = s.A 7 := G5.1.2.1 7 (by decide) (by decide) (by decide)
      have dl : DK s5.N k5 = sp_li ((stk (DK s0.N) (s0.A 7) (k + 1).toNat).take (k + 1 - p).toNat) := by
        rw [D5, hDl, ey, hA, PFR_D hB0 hC0 hP (hD0 k (by omega) (by omega)), show (k + 1).toNat = k.toNat + 1 by omega, show (k + 1 - p).toNat = (k - p).toNat + 1 by omega]
        show _ = Int.Internal.Linear.Expr.add (DK s0.N (s0.A 7 ((k.toNat : Nat) : Int))) _
        rw [show ((k.toNat : Nat) : Int) = k by omega]
      exact ih (k + 1) k5 h5 s5 (by omega) (by omega) (by omega) K5 B5 C5 (kx_w (kx_tr hX X5) (by decide) (by decide)) (PFR_tr hP (KGR_P G5)) (by omega) (fun j j0 j1 => by rw [a7]; exact PFR_OB (KGR_P G5) (hD j j0 (by omega))) (by omega) O5 (a7.trans hA) dl
theorem kg_callObjectX (z : Value) (d c : Nat) (x u : Int) (hp : xx_H) (s : KS) (hK : KI c hp s) (hB : KB s) (hC : CX s) (NM : BKM) (hF : BF c hp s u NM) (um : u ≤ 67108864) (hu : u ≤ s.I 8) (lt : s.I 8 < 32000) (hN : KNN s) (hx : TVx u x) (hD : TD s) (h7 : s.I 7 ≤ 1000) (ht : tk x ≤ s.I 7) : xx_cl (xt_P z) (d + 6) 299 [.ref (c + 25), .int (iI x)] hp (fun v h1 => ∃ (y : Int) (s1 : KS), v = some (.int (iI y)) ∧ KI c h1 s1 ∧ KB s1 ∧ CX s1 ∧ kx c hp s h1 s1 0 0 ∧ PFR s s1 ∧ s1.I 8 ≤ s.I 8 + 8 ∧ OB s1 y ∧ TD s1 ∧ s1.A 7 = s.A 7 ∧ s1.I 7 = s.I 7 - tk x ∧ (0 ≤ nmo (s.I 27) NM (x / 32) ∧ nmo (s.I 27) NM (x / 32) < u) ∧ DK s1.N y = .add (DK s.N (nmo (s.I 27) NM (x / 32))) (sp_li ((stk (DK s.N) (s.A 7) (s.I 7).toNat).take (s.I 7 - (s.I 7 - tk x)).toNat))) := by
  have x1 := hx.1
  have x2 := hx.2.1
  have tr := tk_R x
  have b8 := hB.2.2.2.2.2.1
  have b7 := hB.2.2.2.1 7 (by decide)
  refine cl_go rfl ?_
  show xx_go (xt_P z) (d + 5) 299 0 [some (.ref (c + 25)), some (.int (iI x)), none, none, none] [] hp _
  refine go_a (pc' := 1) (ls' := [some (.ref (c + 25)), some (.int (iI x)), none, none, none]) (st' := [.ref (c + 25)]) rfl rfl ?_
  refine go_get (v := .ref (c + 28)) rfl (hK.1 16 (by decide)) rfl rfl ?_
  refine go_v (m := 34) (as := [.ref (c + 28)]) (r := []) rfl rfl rfl (hK.1 18 (by decide)) rfl rfl (kr_length_7 z (d + 4) c hp s hK) (fun v h3 hq => ?_)
  obtain ⟨rfl, e⟩ := hq
  rw [e]
  clear e h3
  show xx_go (xt_P z) (d + 5) 299 7 [some (.ref (c + 25)), some (.int (iI x)), none, none, none] [.int (iI (s.I 7))] hp _
  refine go_a (pc' := 8) (ls' := [some (.ref (c + 25)), some (.int (iI x)), none, none, none]) (st' := [.int (iI x), .int (iI (s.I 7))]) rfl rfl ?_
  refine go_s (m := 221) (as := [.int (iI x)]) (r := [.int (iI (s.I 7))]) rfl rfl rfl rfl (kg_takes z (d + 4) x hp (by omega) x2) (fun v h3 hq => ?_)
  obtain ⟨rfl, e⟩ := hq
  rw [e]
  clear e h3
  show xx_go (xt_P z) (d + 5) 299 11 [some (.ref (c + 25)), some (.int (iI x)), none, none, none] [.int (iI (tk x)), .int (iI (s.I 7))] hp _
  refine mi_sub rfl ?_
  refine go_a (pc' := 13) (ls' := [some (.ref (c + 25)), some (.int (iI x)), some (.int (iI ((s.I 7) - (tk x)))), none, none]) (st' := []) rfl rfl ?_
  refine go_a (pc' := 14) (ls' := [some (.ref (c + 25)), some (.int (iI x)), some (.int (iI ((s.I 7) - (tk x)))), none, none]) (st' := [.int (iI 0)]) rfl rfl ?_
  refine go_a (pc' := 15) (ls' := [some (.ref (c + 25)), some (.int (iI x)), some (.int (iI ((s.I 7) - (tk x)))), some (.int (iI 0)), none]) (st' := []) rfl rfl ?_
  refine go_a (pc' := 16) (ls' := [some (.ref (c + 25)), some (.int (iI x)), some (.int (iI ((s.I 7) - (tk x)))), some (.int (iI 0)), none]) (st' := [.int (iI ((s.I 7) - (tk x)))]) rfl rfl ?_
  refine go_a (pc' := 18) (ls' := [some (.ref (c + 25)), some (.int (iI x)), some (.int (iI ((s.I 7) - (tk x)))), some (.int (iI 0)), some (.int (iI ((s.I 7) - (tk x))))]) (st' := []) rfl rfl ?_
  exact kg_cobj_loopX z d c x u (s.I 7 - tk x) NM hp s lt hx hu um hF (by omega) (by omega) h7 b7.2.2.1 (by omega) hB hC hD _ (s.I 7 - tk x) 0 hp s (Nat.le_refl _) (Int.le_refl _) (by omega) hK hB hC kx_rf PFR_rf (by omega) hD rfl ⟨by decide, by omega⟩ rfl (by rw [Int.sub_self]; exact (KNN_D hN (i := 0) (by decide)).trans rfl)
theorem kg_obj_loopX (z : Value) (d c a : Nat) (n u : Int) (f : Int → Int) (NM : BKM) (hp0 : xx_H) (s0 : KS) (lt : s0.I 8 < 30000) (hu : u ≤ s0.I 8) (um : u ≤ 67108864) (hF0 : BF c hp0 s0 u NM) (hT0 : TM c hp0 s0 u a n f) (hB0 : KB s0) (hC0 : CX s0) (hN0 : KNN s0) (B : ob_T) (R : List ob_T) (hok : bok s0.N (nmo (s0.I 27) NM) (rl n f)) (hbo : bfo s0.N (nmo (s0.I 27) NM) (rl n f) = B :: R) : ∀ (q : Nat) (k : Int) (y3 : Option Value) (hp : xx_H) (s : KS), (k + 1).toNat ≤ q → -1 ≤ k → k < n → KI c hp s → KB s → CX s → kx c hp0 s0 hp s 0 0 → PFR s0 s → s.I 8 ≤ s0.I 8 + 8 * (n - 1 - k) → TD s → s.I 7 ≤ n - 1 - k → stk (DK s.N) (s.A 7) (s.I 7).toNat = bfo s0.N (nmo (s0.I 27) NM) ((rl n f).drop (k + 1).toNat) → xx_go (xt_P z) (d + 6) 298 15 [some (.ref (c + 25)), some (.ref a), some (.int (iI k)), y3] [] hp (fun v h1 => ∃ (y : Int) (s1 : KS), v = some (.int (iI y)) ∧ KI c h1 s1 ∧ KB s1 ∧ CX s1 ∧ kx c hp0 s0 h1 s1 0 0 ∧ PFR s0 s1 ∧ s1.I 8 ≤ s0.I 8 + 8 * n ∧ OB s1 y ∧ DK s1.N y = B) := by
  have n_ := TM_n hT0
  intro q
  induction q with
  | zero =>
    intro k y3 hp s hq k0 k1 hK hB hC hX hP h8 hD h7 hst
    refine go_a (pc' := 16) (ls' := [some (.ref (c + 25)), some (.ref a), some (.int (iI k)), y3]) (st' := [.int (iI k)]) rfl rfl ?_
    refine mi_lt0 (t := 58) rfl rfl (by omega) (by omega) (fun _ => ?_) (fun w => absurd (show k < 0 by omega) w)
    have b8 := hB.2.2.2.2.2.1
    have b7 := hB.2.2.2.1 7 (by decide)
    refine go_a (pc' := 59) (ls' := [some (.ref (c + 25)), some (.ref a), some (.int (iI k)), y3]) (st' := [.ref (c + 25)]) rfl rfl ?_
    refine go_get (v := .ref (c + 28)) rfl (hK.1 16 (by decide)) rfl rfl ?_
    refine go_v (m := 44) (as := [.ref (c + 28)]) (r := []) rfl rfl rfl (hK.1 18 (by decide)) rfl rfl (kr_last_7 z (d + 5) c hp s hK hB) (fun v h3 hq => ?_)
    rw [show (k + 1).toNat = 0 by omega, List.drop_zero, hbo] at hst
    have M : ∃ y : Int, v = some (.int (iI y)) ∧ OB s y ∧ DK s.N y = B := by
      rcases hq.1 with ⟨a1, a3⟩ | ⟨a1, a3⟩
      · exact ⟨_, a3, hD _ (by omega) (by omega), stk_top a1 hst⟩
      · rw [a1] at hst
        cases hst
    have e := hq.2
    clear hq
    obtain ⟨y, rfl, oy, dy⟩ := M
    rw [e]
    clear e h3
    show xx_go (xt_P z) (d + 6) 298 65 [some (.ref (c + 25)), some (.ref a), some (.int (iI k)), y3] [.int (iI y)] hp _
    exact go_r rfl rfl rfl rfl rfl rfl ⟨y, s, rfl, hK, hB, hC, hX, hP, by omega, oy, dy⟩
  | succ q ih =>
    intro k y3 hp s hq k0 k1 hK hB hC hX hP h8 hD h7 hst
    refine go_a (pc' := 16) (ls' := [some (.ref (c + 25)), some (.ref a), some (.int (iI k)), y3]) (st' := [.int (iI k)]) rfl rfl ?_
    refine mi_lt0 (t := 58) rfl rfl (by omega) (by omega) (fun w1 => ?_) (fun w1 => ?_)
    · have b8 := hB.2.2.2.2.2.1
      have b7 := hB.2.2.2.1 7 (by decide)
      refine go_a (pc' := 59) (ls' := [some (.ref (c + 25)), some (.ref a), some (.int (iI k)), y3]) (st' := [.ref (c + 25)]) rfl rfl ?_
      refine go_get (v := .ref (c + 28)) rfl (hK.1 16 (by decide)) rfl rfl ?_
      refine go_v (m := 44) (as := [.ref (c + 28)]) (r := []) rfl rfl rfl (hK.1 18 (by decide)) rfl rfl (kr_last_7 z (d + 5) c hp s hK hB) (fun v h3 hq => ?_)
      rw [show (k + 1).toNat = 0 by omega, List.drop_zero, hbo] at hst
      have M : ∃ y : Int, v = some (.int (iI y)) ∧ OB s y ∧ DK s.N y = B := by
        rcases hq.1 with ⟨a1, a3⟩ | ⟨a1, a3⟩
        · exact ⟨_, a3, hD _ (by omega) (by omega), stk_top a1 hst⟩
        · rw [a1] at hst
          cases hst
      have e := hq.2
      clear hq
      obtain ⟨y, rfl, oy, dy⟩ := M
      rw [e]
      clear e h3
      show xx_go (xt_P z) (d + 6) 298 65 [some (.ref (c + 25)), some (.ref a), some (.int (iI k)), y3] [.int (iI y)] hp _
      exact go_r rfl rfl rfl rfl rfl rfl ⟨y, s, rfl, hK, hB, hC, hX, hP, by omega, oy, dy⟩
    · have b7 := hB.2.2.2.1 7 (by decide)
      have p8 := hP.2.2.2.1
      have hT := TM_kx hT0 hX
      obtain ⟨qa, La, Laa, Laq⟩ := TMq hT
      have t0 : tat n f k = f k := if_pos (by omega)
      have V0 := hT.2.2 k (by omega) (by omega)
      have V1 := V0.1
      have V2 := V0.2.1
      have hF := BF_kx hF0 hX (Int.le_refl _) (hP.2.2.1 27 (by decide) (by decide) (by decide) (by decide) (by decide) (by decide)) (by rw [hP.1])
      refine go_a (pc' := 20) (ls' := [some (.ref (c + 25)), some (.ref a), some (.int (iI k)), y3]) (st' := [.ref a]) rfl rfl ?_
      refine go_a (pc' := 21) (ls' := [some (.ref (c + 25)), some (.ref a), some (.int (iI k)), y3]) (st' := [.int (iI k), .ref a]) rfl rfl ?_
      refine go_v (m := 230) (as := [.ref a, .int (iI k)]) (r := []) rfl rfl rfl La.1 rfl rfl (kg_at z (d + 5) k a qa n f hp La (by omega) (by omega)) (fun v h3 hq => ?_)
      obtain ⟨rfl, e⟩ := hq
      rw [e, t0]
      clear e h3
      show xx_go (xt_P z) (d + 6) 298 24 [some (.ref (c + 25)), some (.ref a), some (.int (iI k)), y3] [.int (iI (f k))] hp _
      refine go_a (pc' := 25) (ls' := [some (.ref (c + 25)), some (.ref a), some (.int (iI k)), some (.int (iI (f k)))]) (st' := []) rfl rfl ?_
      refine go_a (pc' := 26) (ls' := [some (.ref (c + 25)), some (.ref a), some (.int (iI k)), some (.int (iI (f k)))]) (st' := [.ref (c + 25)]) rfl rfl ?_
      refine go_get (v := .ref (c + 28)) rfl (hK.1 16 (by decide)) rfl rfl ?_
      refine go_a (pc' := 30) (ls' := [some (.ref (c + 25)), some (.ref a), some (.int (iI k)), some (.int (iI (f k)))]) (st' := [.int (iI (f k)), .ref (c + 28)]) rfl rfl ?_
      have tail : ∀ (y : Int) (h5 : xx_H) (t : KS), KI c h5 t → KB t → CX t → kx c hp0 s0 h5 t 0 0 → PFR s0 t → t.I 8 ≤ s0.I 8 + 8 * (n - 1 - k) + 8 → TD t → t.I 7 ≤ n - 1 - k → OB t y → DK t.N y :: stk (DK t.N) (t.A 7) (t.I 7).toNat = bfo s0.N (nmo (s0.I 27) NM) ((rl n f).drop k.toNat) → xx_go (xt_P z) (d + 6) 298 49 [some (.ref (c + 25)), some (.ref a), some (.int (iI k)), some (.int (iI (f k)))] [.int (iI y), .ref (c + 28)] h5 (fun v h1 => ∃ (y : Int) (s1 : KS), v = some (.int (iI y)) ∧ KI c h1 s1 ∧ KB s1 ∧ CX s1 ∧ kx c hp0 s0 h1 s1 0 0 ∧ PFR s0 s1 ∧ s1.I 8 ≤ s0.I 8 + 8 * n ∧ OB s1 y ∧ DK s1.N y = B) := by
        intro y h5 t Kt Bt Ct Xt Pt t8 Dt t7 oy dst
        have oyr := OB_R Bt oy
        have bt7 := Bt.2.2.2.1 7 (by decide)
        refine go_v (m := 35) (as := [.ref (c + 28), .int (iI y)]) (r := []) rfl rfl rfl (Kt.1 18 (by decide)) rfl rfl (kr_add_7 z (d + 4) c y h5 t Kt Bt (by omega) oyr.1 oyr.2) (fun v h6 hq => ?_)
        obtain ⟨rfl, s1, K1, B1, X1, W1, e1, e2, e3, e4⟩ := hq
        have F1 := T7_row W1 e1
        have e5 : s1.I 7 = t.I 7 + 1 := by rw [e1]; rfl
        obtain ⟨D1, -⟩ := TD_add Dt oy bt7.2.2.1 F1 e5 e3 e4
        have e8 : s1.I 8 = t.I 8 := F1.2.2.2 8 (by decide)
        show xx_go (xt_P z) (d + 6) 298 52 [some (.ref (c + 25)), some (.ref a), some (.int (iI k)), some (.int (iI (f k)))] [] h6 _
        refine go_a (pc' := 55) (ls' := [some (.ref (c + 25)), some (.ref a), some (.int (iI (k + (-1)))), some (.int (iI (f k)))]) (st' := []) rfl (by rw [← iI_add k (-1)]; rfl) ?_
        refine go_a (pc' := 15) (ls' := [some (.ref (c + 25)), some (.ref a), some (.int (iI (k + (-1)))), some (.int (iI (f k)))]) (st' := []) rfl rfl ?_
        exact ih (k + (-1)) _ h6 s1 (by omega) (by omega) (by omega) K1 B1 (TF_CX (T7_F F1) Ct) (kx_w (kx_tr Xt X1) (by decide) (by decide)) (PFR_tr Pt (TF_P (T7_F F1))) (by omega) D1 (by omega) (by rw [show (k + (-1) + 1).toNat = k.toNat by omega, ← dst, F1.1]; exact stk_push bt7.2.2.1 e5 e3 e4)
      have bat := bfo_at (N := s0.N) (nm := nmo (s0.I 27) NM) (f := f) (show 0 ≤ k by omega) k1
      have okk := bok_at hok (show 0 ≤ k by omega) k1
      have tkr := tk_R (f k)
      have l7 := congrArg List.length hst
      rw [stk_len] at l7
      have hNs : KNN s := KNN_P hB0 hN0 hP
      have e27 := hP.2.2.1 27 (by decide) (by decide) (by decide) (by decide) (by decide) (by decide)
      refine go_s (m := 220) (as := [.int (iI (f k))]) (r := [.ref (c + 28)]) rfl rfl rfl rfl (kg_isCall z (d + 5) (f k) hp) (fun v h3 hq => ?_)
      obtain ⟨hq, e⟩ := hq
      rw [e]
      clear e h3
      rcases hq with ⟨c1, rfl⟩ | ⟨c1, rfl⟩
      · show xx_go (xt_P z) (d + 6) 298 33 [some (.ref (c + 25)), some (.ref a), some (.int (iI k)), some (.int (iI (f k)))] [.int (iI 1), .ref (c + 28)] hp _
        refine mi_eq0 (t := 44) rfl rfl (by omega) (by omega) (fun q => absurd q (by decide)) (fun _ => ?_)
        refine go_a (pc' := 37) (ls' := [some (.ref (c + 25)), some (.ref a), some (.int (iI k)), some (.int (iI (f k)))]) (st' := [.ref (c + 25), .ref (c + 28)]) rfl rfl ?_
        refine go_a (pc' := 38) (ls' := [some (.ref (c + 25)), some (.ref a), some (.int (iI k)), some (.int (iI (f k)))]) (st' := [.int (iI (f k)), .ref (c + 25), .ref (c + 28)]) rfl rfl ?_
        refine go_v (m := 299) (as := [.ref (c + 25), .int (iI (f k))]) (r := [.ref (c + 28)]) rfl rfl rfl (hK.1 16 (by decide)) rfl rfl (kg_callObjectX z d c (f k) u hp s hK hB hC NM hF um (by omega) (by omega) hNs V0 hD (by omega) (by have := okk c1; omega)) (fun v h3 hq => ?_)
        have ok9 := okk c1
        obtain ⟨y, s1, rfl, K1, B1, C1, X1, P1, g8, oy, D1, a71, g7, nb, dy⟩ := hq
        show xx_go (xt_P z) (d + 6) 298 41 [some (.ref (c + 25)), some (.ref a), some (.int (iI k)), some (.int (iI (f k)))] [.int (iI y), .ref (c + 28)] h3 _
        refine go_a (pc' := 49) (ls' := [some (.ref (c + 25)), some (.ref a), some (.int (iI k)), some (.int (iI (f k)))]) (st' := [.int (iI y), .ref (c + 28)]) rfl rfl ?_
        have dn : DK s.N (nmo (s0.I 27) NM (f k / 32)) = DK s0.N (nmo (s0.I 27) NM (f k / 32)) := PFR_D hB0 hC0 hP ⟨by rw [← e27]; exact nb.1, by rw [← e27]; omega⟩
        have sc : stk (DK s1.N) (s.A 7) (s1.I 7).toNat = stk (DK s.N) (s.A 7) (s1.I 7).toNat := stk_cg _ (fun e e0 e1 => PFR_D hB hC P1 (hD e e0 (by omega)))
        have sd : (stk (DK s.N) (s.A 7) (s.I 7).toNat).drop (tk (f k)).toNat = stk (DK s.N) (s.A 7) (s1.I 7).toNat := by
          rw [g7, show (s.I 7).toNat = (s.I 7 - tk (f k)).toNat + (tk (f k)).toNat by omega]
          exact stk_drop _ _
        exact tail y h3 s1 K1 B1 C1 (kx_w (kx_tr hX X1) (by decide) (by decide)) (PFR_tr hP P1) (by omega) D1 (by omega) oy (by rw [bat, bpu_c c1, ← hst, dy, e27, dn, a71, sc, show (s.I 7 - (s.I 7 - tk (f k))).toNat = (tk (f k)).toNat by omega, sd])
      · show xx_go (xt_P z) (d + 6) 298 33 [some (.ref (c + 25)), some (.ref a), some (.int (iI k)), some (.int (iI (f k)))] [.int (iI 0), .ref (c + 28)] hp _
        refine mi_eq0 (t := 44) rfl rfl (by omega) (by omega) (fun _ => ?_) (fun q => absurd rfl q)
        refine go_a (pc' := 45) (ls' := [some (.ref (c + 25)), some (.ref a), some (.int (iI k)), some (.int (iI (f k)))]) (st' := [.ref (c + 25), .ref (c + 28)]) rfl rfl ?_
        refine go_a (pc' := 46) (ls' := [some (.ref (c + 25)), some (.ref a), some (.int (iI k)), some (.int (iI (f k)))]) (st' := [.int (iI (f k)), .ref (c + 25), .ref (c + 28)]) rfl rfl ?_
        refine go_v (m := 301) (as := [.ref (c + 25), .int (iI (f k))]) (r := [.ref (c + 28)]) rfl rfl rfl (hK.1 16 (by decide)) rfl rfl (kg_leafObjectX z (d + 2) c (f k) u hp s hK hB hC (by omega) V0 (by omega) hNs c1) (fun v h3 hq => ?_)
        obtain ⟨y, s1, rfl, K1, B1, C1, X1, G1, oy, dy⟩ := hq
        have V3 := V0.2.2.2
        have lc := lf_cg (PFR_D hB0 hC0 hP (k := f k / 32) ⟨by omega, by omega⟩)
        have g8 := G1.2.2.1
        have e71 : s1.I 7 = s.I 7 := G1.1.2.2.2 7 (by decide)
        have a71 : s1.A 7 = s.A 7 := G1.1.2.1 7 (by decide) (by decide) (by decide)
        show xx_go (xt_P z) (d + 6) 298 49 [some (.ref (c + 25)), some (.ref a), some (.int (iI k)), some (.int (iI (f k)))] [.int (iI y), .ref (c + 28)] h3 _
        exact tail y h3 s1 K1 B1 C1 (kx_w (kx_tr hX X1) (by decide) (by decide)) (PFR_tr hP (KGR_P G1)) (by omega) (fun j j0 j1 => by rw [a71]; exact PFR_OB (KGR_P G1) (hD j j0 (by omega))) (by omega) oy (by rw [bat, bpu_l c1, ← hst, dy, e71, a71, stk_cg (D1 := DK s1.N) (D := DK s.N) (A := s.A 7) (A1 := s.A 7) (s.I 7).toNat (fun e e0 e1 => PFR_D hB hC (KGR_P G1) (hD e e0 (by omega))), lc])
theorem kg_objectX (z : Value) (d c a : Nat) (n u : Int) (f : Int → Int) (hp : xx_H) (s : KS) (hK : KI c hp s) (hB : KB s) (hC : CX s) (NM : BKM) (hF : BF c hp s u NM) (um : u ≤ 67108864) (hu : u ≤ s.I 8) (lt : s.I 8 < 30000) (hT : TM c hp s u a n f) (hN : KNN s) (B : ob_T) (R : List ob_T) (hok : bok s.N (nmo (s.I 27) NM) (rl n f)) (hbo : bfo s.N (nmo (s.I 27) NM) (rl n f) = B :: R) : xx_cl (xt_P z) (d + 7) 298 [.ref (c + 25), .ref a] hp (fun v h1 => ∃ (y : Int) (s1 : KS), v = some (.int (iI y)) ∧ KI c h1 s1 ∧ KB s1 ∧ CX s1 ∧ kx c hp s h1 s1 0 0 ∧ PFR s s1 ∧ s1.I 8 ≤ s.I 8 + 8 * n ∧ OB s1 y ∧ DK s1.N y = B) := by
  have n_ := TM_n hT
  refine cl_go rfl ?_
  show xx_go (xt_P z) (d + 6) 298 0 [some (.ref (c + 25)), some (.ref a), none, none] [] hp _
  refine go_a (pc' := 1) (ls' := [some (.ref (c + 25)), some (.ref a), none, none]) (st' := [.ref (c + 25)]) rfl rfl ?_
  refine go_get (v := .ref (c + 28)) rfl (hK.1 16 (by decide)) rfl rfl ?_
  refine go_a (pc' := 5) (ls' := [some (.ref (c + 25)), some (.ref a), none, none]) (st' := [.int (iI 0), .ref (c + 28)]) rfl rfl ?_
  refine go_v (m := 39) (as := [.ref (c + 28), .int (iI 0)]) (r := []) rfl rfl rfl (hK.1 18 (by decide)) rfl rfl (kr_cut0_7 z (d + 5) c hp s hK hB) (fun v h3 hq => ?_)
  obtain ⟨rfl, K1, B1, X1⟩ := hq
  obtain ⟨qa, La, Laa, Laq⟩ := TMq (TM_kx hT X1)
  have F1 : TF s (s.wI 7 0) := TF_wI (Or.inr rfl)
  show xx_go (xt_P z) (d + 6) 298 8 [some (.ref (c + 25)), some (.ref a), none, none] [] h3 _
  refine go_a (pc' := 9) (ls' := [some (.ref (c + 25)), some (.ref a), none, none]) (st' := [.ref a]) rfl rfl ?_
  refine go_v (m := 229) (as := [.ref a]) (r := []) rfl rfl rfl La.1 rfl rfl (kg_length z (d + 5) a qa n f h3 La) (fun v h4 hq => ?_)
  obtain ⟨rfl, e⟩ := hq
  rw [e]
  clear e h4
  show xx_go (xt_P z) (d + 6) 298 12 [some (.ref (c + 25)), some (.ref a), none, none] [.int (iI n)] h3 _
  refine go_a (pc' := 13) (ls' := [some (.ref (c + 25)), some (.ref a), none, none]) (st' := [.int (iI 1), .int (iI n)]) rfl rfl ?_
  refine mi_sub rfl ?_
  refine go_a (pc' := 15) (ls' := [some (.ref (c + 25)), some (.ref a), some (.int (iI (n - 1))), none]) (st' := []) rfl rfl ?_
  exact kg_obj_loopX z d c a n u f NM hp s lt hu um hF hT hB hC hN B R hok hbo _ (n - 1) _ h3 (s.wI 7 0) (Nat.le_refl _) (by omega) (by omega) K1 B1 (TF_CX F1 hC) X1 (TF_P F1) (show s.I 8 ≤ _ by omega) (fun j j0 j1 => absurd (show j < 0 from j1) (by omega)) (show (0 : Int) ≤ _ by omega) (by rw [show (n - 1 + 1).toNat = (rl n f).length from (by rw [rl_len]; omega), List.drop_length]; rfl)
theorem kg_vlist_loopX (z : Value) (d c q : Nat) (u m : Int) (g : Int → Int) (hp0 : xx_H) (s0 : KS) (lt : s0.I 8 < 30000) (hu : u ≤ s0.I 8) (m6 : m ≤ 6) (hA0 : KAL hp0 q m g) (kq0 : kn c s0 q) (hg : ∀ i : Int, 0 ≤ i → i < m → TVx u (g i)) (hB0 : KB s0) (hC0 : CX s0) : ∀ (j : Nat) (k l : Int) (hp : xx_H) (s : KS), (k + 1).toNat ≤ j → -1 ≤ k → k < m → KI c hp s → KB s → CX s → kx c hp0 s0 hp s 0 0 → PFR s0 s → s.I 8 ≤ s0.I 8 + (m - 1 - k) → OB s l → DK s.N l = sp_li (((rl m g).drop (k + 1).toNat).map (fun x => DK s0.N (x / 32))) → xx_go (xt_P z) (d + 4) 316 7 [some (.ref (c + 25)), some (.ref q), some (.int (iI l)), some (.int (iI k))] [] hp (fun v h1 => ∃ (y : Int) (s1 : KS), v = some (.int (iI y)) ∧ KI c h1 s1 ∧ KB s1 ∧ CX s1 ∧ kx c hp0 s0 h1 s1 0 0 ∧ PFR s0 s1 ∧ s1.I 8 ≤ s0.I 8 + m ∧ OB s1 y ∧ DK s1.N y = sp_li ((rl m g).map (fun x => DK s0.N (x / 32)))) := by
  intro j
  induction j with
  | zero =>
    intro k l hp s hj k0 k1 hK hB hC hX hP h8 hl dl
    refine go_a (pc' := 8) (ls' := [some (.ref (c + 25)), some (.ref q), some (.int (iI l)), some (.int (iI k))]) (st' := [.int (iI k)]) rfl rfl ?_
    refine mi_lt0 (t := 32) rfl rfl (by omega) (by omega) (fun _ => ?_) (fun w => absurd (show k < 0 by omega) w)
    refine go_a (pc' := 33) (ls' := [some (.ref (c + 25)), some (.ref q), some (.int (iI l)), some (.int (iI k))]) (st' := [.int (iI l)]) rfl rfl ?_
    exact go_r rfl rfl rfl rfl rfl rfl ⟨l, s, rfl, hK, hB, hC, hX, hP, by omega, hl, by rw [dl, show (k + 1).toNat = 0 by omega, List.drop_zero]⟩
  | succ j ih =>
    intro k l hp s hj k0 k1 hK hB hC hX hP h8 hl dl
    refine go_a (pc' := 8) (ls' := [some (.ref (c + 25)), some (.ref q), some (.int (iI l)), some (.int (iI k))]) (st' := [.int (iI k)]) rfl rfl ?_
    refine mi_lt0 (t := 32) rfl rfl (by omega) (by omega) (fun w1 => ?_) (fun w1 => ?_)
    · refine go_a (pc' := 33) (ls' := [some (.ref (c + 25)), some (.ref q), some (.int (iI l)), some (.int (iI k))]) (st' := [.int (iI l)]) rfl rfl ?_
      exact go_r rfl rfl rfl rfl rfl rfl ⟨l, s, rfl, hK, hB, hC, hX, hP, by omega, hl, by rw [dl, show (k + 1).toNat = 0 by omega, List.drop_zero]⟩
    · obtain ⟨hA, -⟩ := KAL_kx hA0 kq0 hX
      have V0 := hg k (by omega) (by omega)
      have V1 := V0.1
      have V2 := V0.2.1
      have V3 := V0.2.2.2
      have p8 := hP.2.2.2.1
      refine go_a (pc' := 12) (ls' := [some (.ref (c + 25)), some (.ref q), some (.int (iI l)), some (.int (iI k))]) (st' := [.ref (c + 25)]) rfl rfl ?_
      refine go_get (v := .ref (c + 4)) rfl (hK.1 16 (by decide)) rfl rfl ?_
      refine go_a (pc' := 16) (ls' := [some (.ref (c + 25)), some (.ref q), some (.int (iI l)), some (.int (iI k))]) (st' := [.ref q, .ref (c + 4)]) rfl rfl ?_
      refine go_a (pc' := 17) (ls' := [some (.ref (c + 25)), some (.ref q), some (.int (iI l)), some (.int (iI k))]) (st' := [.int (iI k), .ref q, .ref (c + 4)]) rfl rfl ?_
      refine mi_ild (n := (m).toNat) (f := g) rfl hA.1 (by omega) (by omega) (by omega) ?_
      refine go_s (m := 251) (as := [.int (iI (g k))]) (r := [.ref (c + 4)]) rfl rfl rfl rfl (kg_what z (d + 3) (g k) hp (by omega) V2) (fun v h3 hq => ?_)
      obtain ⟨rfl, e⟩ := hq
      rw [e]
      clear e h3
      show xx_go (xt_P z) (d + 4) 316 21 [some (.ref (c + 25)), some (.ref q), some (.int (iI l)), some (.int (iI k))] [.int (iI (g k / 32)), .ref (c + 4)] hp _
      refine go_a (pc' := 22) (ls' := [some (.ref (c + 25)), some (.ref q), some (.int (iI l)), some (.int (iI k))]) (st' := [.int (iI l), .int (iI (g k / 32)), .ref (c + 4)]) rfl rfl ?_
      have ow : OB s (g k / 32) := ⟨by omega, by omega⟩
      refine go_v (m := 194) (as := [.ref (c + 4), .int (iI (g k / 32)), .int (iI l)]) (r := []) rfl rfl rfl (hK.1 3 (by decide)) rfl rfl (kc_pairX z (d + 1) c (g k / 32) l hp s hK hB hC (by omega) ow.1 ow.2 hl.1 hl.2) (fun v h5 hq => ?_)
      obtain ⟨k5, s5, rfl, K5, B5, C5, X5, G5, O5, -, D5⟩ := hq
      show xx_go (xt_P z) (d + 4) 316 25 [some (.ref (c + 25)), some (.ref q), some (.int (iI l)), some (.int (iI k))] [.int (iI k5)] h5 _
      have g5 := G5.2.2.1
      refine go_a (pc' := 26) (ls' := [some (.ref (c + 25)), some (.ref q), some (.int (iI k5)), some (.int (iI k))]) (st' := []) rfl rfl ?_
      refine go_a (pc' := 29) (ls' := [some (.ref (c + 25)), some (.ref q), some (.int (iI k5)), some (.int (iI (k + (-1))))]) (st' := []) rfl (by rw [← iI_add k (-1)]; rfl) ?_
      refine go_a (pc' := 7) (ls' := [some (.ref (c + 25)), some (.ref q), some (.int (iI k5)), some (.int (iI (k + (-1))))]) (st' := []) rfl rfl ?_
      exact ih (k + (-1)) k5 h5 s5 (by omega) (by omega) (by omega) K5 B5 C5 (kx_w (kx_tr hX X5) (by decide) (by decide)) (PFR_tr hP (KGR_P G5)) (by omega) O5 (by rw [D5, dl, PFR_D hB0 hC0 hP (k := g k / 32) ⟨by omega, by omega⟩, show (k + (-1) + 1).toNat = k.toNat by omega, rl_drop (n := m) (f := g) (p := k.toNat) (by omega), show ((k.toNat : Nat) : Int) = k by omega, show (k + 1).toNat = k.toNat + 1 by omega]; rfl)
theorem kg_vlistX (z : Value) (d c q : Nat) (u m : Int) (g : Int → Int) (hp : xx_H) (s : KS) (hK : KI c hp s) (hB : KB s) (hC : CX s) (lt : s.I 8 < 30000) (hu : u ≤ s.I 8) (m6 : m ≤ 6) (hA : KAL hp q m g) (kq : kn c s q) (hg : ∀ i : Int, 0 ≤ i → i < m → TVx u (g i)) (hN : KNN s) : xx_cl (xt_P z) (d + 5) 316 [.ref (c + 25), .ref q] hp (fun v h1 => ∃ (y : Int) (s1 : KS), v = some (.int (iI y)) ∧ KI c h1 s1 ∧ KB s1 ∧ CX s1 ∧ kx c hp s h1 s1 0 0 ∧ PFR s s1 ∧ s1.I 8 ≤ s.I 8 + m ∧ OB s1 y ∧ DK s1.N y = sp_li ((rl m g).map (fun x => DK s.N (x / 32)))) := by
  have b8 := hB.2.2.2.2.2.1
  have mb := hA.2.1
  refine cl_go rfl ?_
  show xx_go (xt_P z) (d + 4) 316 0 [some (.ref (c + 25)), some (.ref q), none, none] [] hp _
  refine go_a (pc' := 1) (ls' := [some (.ref (c + 25)), some (.ref q), none, none]) (st' := [.int (iI 0)]) rfl rfl ?_
  refine go_a (pc' := 2) (ls' := [some (.ref (c + 25)), some (.ref q), some (.int (iI 0)), none]) (st' := []) rfl rfl ?_
  refine go_a (pc' := 3) (ls' := [some (.ref (c + 25)), some (.ref q), some (.int (iI 0)), none]) (st' := [.ref q]) rfl rfl ?_
  refine mk_len (n := m) rfl hA.1 (xa_f_len _ _) (by omega) (by omega) ?_
  refine go_a (pc' := 5) (ls' := [some (.ref (c + 25)), some (.ref q), some (.int (iI 0)), none]) (st' := [.int (iI 1), .int (iI m)]) rfl rfl ?_
  refine mi_sub rfl ?_
  refine go_a (pc' := 7) (ls' := [some (.ref (c + 25)), some (.ref q), some (.int (iI 0)), some (.int (iI (m - 1)))]) (st' := []) rfl rfl ?_
  exact kg_vlist_loopX z d c q u m g hp s lt hu m6 hA kq hg hB hC _ (m - 1) 0 hp s (Nat.le_refl _) (by omega) (by omega) hK hB hC kx_rf PFR_rf (by omega) ⟨by decide, by omega⟩ (by rw [show (m - 1 + 1).toNat = (rl m g).length from (by rw [rl_len]; omega), List.drop_length]; exact KNN_D hN (i := 0) (by decide))
