theorem nt_mul (A : Nat → Int → Int) (w : Int → Int) (c : Int) : ∀ (f : Nat) (k : Int), nt A (fun x => c * w x) f k = (c * (nt A w f k).1, c * (nt A w f k).2)
  | 0, k => by
    unfold nt
    rw [Int.mul_zero]
  | f + 1, k => by
    rw [nt_succ, nt_succ, nt_mul A w c f (A 1 k), nt_mul A w c f (A 2 k)]
    refine Prod.ext ?_ ?_
    · dsimp only
      split
      · rw [Int.mul_add, Int.mul_zero]
      · rw [Int.mul_add]
    · dsimp only
      split
      · rw [Int.mul_zero]
      · rw [Int.mul_add]
theorem NT_mul {A : Nat → Int → Int} {w : Int → Int} {c k : Int} : NT A (fun x => c * w x) k = c * NT A w k := by
  unfold NT
  rw [nt_mul]
def FNN (j : Nat) : Prop := FE j ∨ j = 61 ∨ j = 76
def GNN (a : Nat) : Prop := GE a ∨ a = 35 ∨ a = 45
theorem FNN_FQ : ∀ j, FNN j → FQ j := fun j h => by unfold FNN FE at h; unfold FQ; omega
theorem GNN_GQ : ∀ j, GNN j → GQ j := fun j h => by unfold GNN GE at h; unfold GQ; omega
theorem FNN_FC : ∀ j, FNN j → FC j := fun j h => by unfold FNN FE at h; unfold FC; omega
theorem GNN_GC : ∀ j, GNN j → GC j := fun j h => by unfold GNN GE at h; unfold GC; omega
theorem RZ_FNN {ar : Int → Int} {I I1 : Nat → Int} {A A1 : Nat → Int → Int} {N N1 : Int → Int} {c : Int} (x : RZ FE GE ar c I A N I1 A1 N1) : RZ FNN GNN ar c I A N I1 A1 N1 := ⟨BX_w2 (fun j q => Or.inl q) (fun j q => Or.inl q) x.1, x.2⟩
theorem mm_inductionRow (z : Value) (d m : Nat) (ar : Int → Int) (ft : Nat → Int) (fn : Nat) (e lv p fo : Int) (h R : xx_H) (I : Nat → Int) (A : Nat → Int → Int) (N : Int → Int) (hc : 12 ≤ h.length) (hB : BI ar I A N) (e0 : 0 ≤ e) (e1 : e < I 32) (em : A 21 e = m) (p0 : 0 ≤ p) (p1 : p < 120) (l0 : 0 ≤ lv) (l1 : lv < I 7) (hL : isL A m lv) (hV : ∀ j : Nat, j < m → A 1 (A 1 (rt A j lv)) = -2 ∧ 1 < A 1 (rt A j lv)) (hT : PTP ar I A (A 20 e) p) (q0 : 0 ≤ fo) (q1 : fo < I 7) (q2 : 1 ≤ TZ A ar fo) (q3 : TZ A ar fo ≤ 120) (hD : DR ar 0 0 0 I A) (ho : I 7 + 240 + TZ A ar fo * TZ A ar (A 39 p) + 250 ≤ 140000) (hX : TRX I A N) (hK : ART ar ft I A N) (hr : ∀ k : Int, 0 ≤ k → k < A 41 p → 1 ≤ TS A ar (A 40 (64 * p + k))) (he : 1 ≤ TS A ar (A 39 p)) (hs : 1 ≤ TS A ar fo) (ff : DM A N (A 20 e) = .var fn) (fq : A 20 e ≠ 2) : xx_cl (xt_P z) (d + 9) 168 [.ref h.length, .int (iI e), .int (iI lv), .int (iI p), .int (iI fo)] (mh h R I A N) (fun v h1 => v = none ∧ ∃ (I1 : Nat → Int) (A1 : Nat → Int → Int) (S V : Int), h1 = mh h R I1 A1 N ∧ RZ FNN GNN ar (240 + TZ A ar fo * TZ A ar (A 39 p)) I A N I1 A1 N ∧ DR ar 1190 S V I1 A1 ∧ (DIT [] I A N → ∃ its : List (Option ob_T), DIT its I1 A1 N ∧ ∀ x : Option ob_T, x ∈ its ↔ x ∈ itR (sp_in (VsP A N e m) (OsP A N lv m)) A N p (A 41 p) ++ ((sp_cc fn ((sp_in (VsP A N e m) (OsP A N lv m)) (DM A N (A 39 p))).1).1.map (sp_cI (VlP A N lv m) (DM A N fo)) ++ [some (DM A N fo)]))) := by
  have hP := BI_P hB
  have n0 := BI_n0 hB
  have i40 := hB.2.2.1.1.1
  have De := hB.2.2.1.2.1 e e0 e1
  have d1 := De.1
  have t4 := hT.2.2.2.1
  have t41 := hT.2.1
  have te := hT.1
  have tm : 0 ≤ TZ A ar fo * TZ A ar (A 39 p) := Int.mul_nonneg (by omega) (by omega)
  have s0 : 0 ≤ SG (fun x => TZ A ar x + 1) (fun k => A 40 (64 * p + k)) (A 41 p).toNat := SG_nn _ (fun e he => by have := (hT.2.2.1 e (by omega) (by omega)).2; show 0 ≤ TZ A ar (A 40 (64 * p + e)) + 1; omega)
  refine cl_go rfl ?_
  show xx_go (xt_P z) (d + 8) 168 0 [some (.ref h.length), some (.int (iI e)), some (.int (iI lv)), some (.int (iI p)), some (.int (iI fo)), none, none] [] (mh h R I A N) _
  refine go_a (pc' := 1) (ls' := [some (.ref h.length), some (.int (iI e)), some (.int (iI lv)), some (.int (iI p)), some (.int (iI fo)), none, none]) (st' := [.int (iI 0)]) rfl rfl ?_
  refine go_a (pc' := 3) (ls' := [some (.ref h.length), some (.int (iI e)), some (.int (iI lv)), some (.int (iI p)), some (.int (iI fo)), some (.int (iI 0)), none]) (st' := []) rfl rfl ?_
  refine mm_row_rulers z d m ar ft e lv p fo h R I A N hc hB e0 e1 em p0 p1 l0 l1 hL hV hT hX hK hr (by omega) _ ?_ (A 41 p).toNat 0 I A 0 0 none (by omega) (Int.le_refl _) t41.1 (RZ_rf hB (show (0 : Int) ≤ 2 * 0 by decide)) hD (fun h9 => h9)
  intro k I1 A1 S V y6 X D hJ1
  have P1 := RZ_P X
  have x7 := X.1.2.1
  have c7 := X.2.2.1
  have i9 := P1.1
  have f20 : A1 20 = A 20 := X.1.2.2.2.2 20 (by decide) (by decide) (by decide) (by decide) (by decide) (by decide) (by unfold GE; omega)
  have f39 : A1 39 = A 39 := X.1.2.2.2.2 39 (by decide) (by decide) (by decide) (by decide) (by decide) (by decide) (by unfold GE; omega)
  have f39p : A1 39 p = A 39 p := by rw [f39]
  have f20e : A1 20 e = A 20 e := by rw [f20]
  have tx := RZ_t hP X te.1.1 te.1.2 te.2
  refine go_a (pc' := 51) (ls' := [some (.ref h.length), some (.int (iI e)), some (.int (iI lv)), some (.int (iI p)), some (.int (iI fo)), some (.int (iI k)), y6]) (st' := [.ref h.length]) rfl rfl ?_
  refine go_a (pc' := 52) (ls' := [some (.ref h.length), some (.int (iI e)), some (.int (iI lv)), some (.int (iI p)), some (.int (iI fo)), some (.int (iI k)), y6]) (st' := [.ref h.length, .ref h.length]) rfl rfl ?_
  refine go_get rfl mh_o rfl rfl ?_
  refine go_a (pc' := 56) (ls' := [some (.ref h.length), some (.int (iI e)), some (.int (iI lv)), some (.int (iI p)), some (.int (iI fo)), some (.int (iI k)), y6]) (st' := [.int (iI p), .ref (h.length + 39), .ref h.length]) rfl rfl ?_
  refine mi_ild rfl mh_a39 (by omega) (by omega) (by decide) ?_
  refine go_a (pc' := 58) (ls' := [some (.ref h.length), some (.int (iI e)), some (.int (iI lv)), some (.int (iI p)), some (.int (iI fo)), some (.int (iI k)), y6]) (st' := [.ref h.length, .int (iI (A1 39 p)), .ref h.length]) rfl rfl ?_
  refine go_get rfl mh_o rfl rfl ?_
  refine go_a (pc' := 62) (ls' := [some (.ref h.length), some (.int (iI e)), some (.int (iI lv)), some (.int (iI p)), some (.int (iI fo)), some (.int (iI k)), y6]) (st' := [.int (iI e), .ref (h.length + 20), .int (iI (A1 39 p)), .ref h.length]) rfl rfl ?_
  refine mi_ild rfl mh_a20 (by omega) (by omega) (by decide) ?_
  rw [f39p, f20e]
  show xx_go (xt_P z) (d + 8) 168 63 [some (.ref h.length), some (.int (iI e)), some (.int (iI lv)), some (.int (iI p)), some (.int (iI fo)), some (.int (iI k)), y6] [.int (iI (A 20 e)), .int (iI (A 39 p)), .ref h.length] (mh h R I1 A1 N) _
  refine go_v (m := 131) (as := [.ref h.length, .int (iI (A 39 p)), .int (iI (A 20 e))]) (r := []) rfl rfl rfl mh_o rfl rfl (mm_find z (d + 4) ar (A 39 p) (A 20 e) h R I1 A1 N hc P1 (BI_n0 X.2.1) te.1.1 (by omega) (by rw [tx]; exact te.2) (by rw [tx]; omega) (by omega) (by omega)) (fun v h1 hq => ?_)
  obtain ⟨rfl, I2, A2, rfl, X2, F2, W2⟩ := hq
  show xx_go (xt_P z) (d + 8) 168 66 [some (.ref h.length), some (.int (iI e)), some (.int (iI lv)), some (.int (iI p)), some (.int (iI fo)), some (.int (iI k)), y6] [] (mh h R I2 A2 N) _
  refine go_a (pc' := 67) (ls' := [some (.ref h.length), some (.int (iI e)), some (.int (iI lv)), some (.int (iI p)), some (.int (iI fo)), some (.int (iI k)), y6]) (st' := [.int (iI 0)]) rfl rfl ?_
  refine go_a (pc' := 69) (ls' := [some (.ref h.length), some (.int (iI e)), some (.int (iI lv)), some (.int (iI p)), some (.int (iI fo)), some (.int (iI 0)), y6]) (st' := []) rfl rfl ?_
  have e72 : I2 7 = I1 7 := X2.1 7 (by decide) (by decide)
  have t12 := FX_tz (ar := ar) X2
  have b2 : BX (fun j => j = 61 ∨ j = 76) (fun a => a = 35 ∨ a = 45) I1 A1 N I2 A2 N := BX_of X.2.1.1.1 (fun j q => X2.1 j (fun e => q (Or.inl e)) (fun e => q (Or.inr e))) (fun a q => X2.2 a (fun e => q (Or.inl e)) (fun e => q (Or.inr e))) e72 (X2.1 10 (by decide) (by decide)) (X2.2 1 (by decide) (by decide)) (X2.2 2 (by decide) (by decide)) (X2.2 3 (by decide) (by decide)) (X2.2 4 (by decide) (by decide)) (X2.2 5 (by decide) (by decide)) (X2.2 7 (by decide) (by decide)) (X2.2 8 (by decide) (by decide)) (X2.2 9 (by decide) (by decide))
  have R2 : RZ FNN GNN ar 0 I1 A1 N I2 A2 N := RZ_of X.2.1 b2 (fun j q => by unfold FNN; omega) (fun a q => by unfold GNN; omega) FNN_FQ GNN_GQ (SZI_124 X.2.1.1.2.2 (X2.2 1 (by decide) (by decide)) (X2.2 2 (by decide) (by decide)) (X2.2 4 (by decide) (by decide)) e72) (X2.1 54 (by decide) (by decide)) (X2.1 56 (by decide) (by decide)) (by rw [X2.1 49 (by decide) (by decide)]; exact X.2.1.2.2.2.2) (by omega) (fun _ => X2.1 49 (by decide) (by decide))
  have P2 := RZ_P R2
  have X02 := RZ_tr (RZ_FNN X) R2 (Int.le_refl _)
  have tz : ∀ k : Int, 0 ≤ k → k < I 7 → 1 ≤ TZ A ar k → TZ A2 ar k = TZ A ar k := fun k a b c => RZ_t hP X02 a b c
  have h20 : A2 20 e = A 20 e := by rw [X2.2 20 (by decide) (by decide)]; exact f20e
  have F2b : FD ar (A2 20 e) 125 I2 A2 := by rw [h20]; exact F2
  have f2a := F2.1
  have T1p := PTP_BX (ar := ar) (f := A 20 e) (p := p) (by omega) hP X.1 (fun a p q => by unfold GE; omega) hT
  have wl9 := (wf_le (ar := ar) (f := A 20 e) P1 (by omega) _ (A 39 p) (Nat.lt_succ_self _) te.1.1 (by omega)).1 (by rw [tx]; exact te.2) (by have := T1p.2.2.2.2; rw [f39p] at this; exact this)
  rw [tx, ← W2 (wf A1 ar (A 20 e)) (fun k hk => wf_sup k hk)] at wl9
  have T1 : TRX I1 A1 N := TRX_BX hB.1.1 hB.1.2.1 hX X.1 (by unfold FE; omega) (by unfold GE; omega) (by unfold GE; omega)
  have T2 : TRX I2 A2 N := TRX_BX X.2.1.1.1 X.2.1.1.2.1 T1 b2 (by decide) (by decide) (by decide)
  have d12 : DM A2 N = DM A1 N := DM_12 (X2.2 1 (by decide) (by decide)) (X2.2 2 (by decide) (by decide)) (X2.2 8 (by decide) (by decide)) (X2.2 9 (by decide) (by decide))
  have de1 : DM A1 N (A 39 p) = DM A N (A 39 p) := DM_BX hB.1.1 hX X.1 (by unfold FE; omega) (by unfold GE; omega) (by unfold GE; omega) te.1.1 te.1.2
  have q20 := De.2.1
  have fb : 0 ≤ A 20 e ∧ A 20 e < I 7 := ⟨by omega, by omega⟩
  have ff1 : DM A1 N (A 20 e) = .var fn := by rw [DM_BX hB.1.1 hX X.1 (by unfold FE; omega) (by unfold GE; omega) (by unfold GE; omega) fb.1 fb.2]; exact ff
  have mem : ∀ b : ob_T, b ∈ (sp_cc fn (DM A N (A 39 p))).1 ↔ ∃ e9 : Int, (0 ≤ e9 ∧ e9 < I2 76) ∧ A1 1 (A2 45 e9) = A 20 e ∧ DM A1 N (A1 2 (A2 45 e9)) = b := fun b => by
    rw [← de1]
    exact FD_mem X.2.1.1.1 X.2.1.1.2.1 T1 fb.1 (by omega) ff1 fq te.1.1 (by omega) W2
  have K1 : ART ar ft I1 A1 N := ART_BX hB hX hK X.1 (by unfold FE; omega) (by unfold GE; omega) (by unfold GE; omega)
  have af2 : ∀ c : Int, 0 ≤ c → c < I2 76 → (0 ≤ A2 2 (A2 45 c) ∧ A2 2 (A2 45 c) < I2 7) ∧ isL A2 m (A2 2 (A2 45 c)) := fun c c0 c1 => by
    have f := F2.2 c c0 c1
    have ta := TZ_args (ar := ar) (RZ_P R2) (BI_n0 R2.2.1) f.1.1 f.1.2 (by rw [f.2.2]; omega) (by rw [f.2.2]; exact fq) f.2.1.1
    have af : ar (A2 1 (A2 45 c)) = m := by rw [f.2.2, De.2.1.2.2]; exact em
    rw [af] at ta
    have g := (RZ_P R2).2 _ f.1.1 f.1.2
    exact ⟨⟨g.2.2.1, by have := g.2.2.2.2 (by rw [f.2.2]; omega); have := f.1.2; omega⟩, ta.2.1⟩
  have hg2 : ∀ c : Int, 0 ≤ c → c < I2 76 → TZ A2 ar (A2 45 c) ≤ 121 ∧ ∀ j : Nat, j < m → 1 ≤ (sp_ts ft (DM A2 N (A2 1 (rt A2 j (A2 2 (A2 45 c)))))).1 := fun c c0 c1 => by
    have f := F2.2 c c0 c1
    have fa : A1 1 (A2 45 c) = A 20 e := by rw [← X2.2 1 (by decide) (by decide)]; exact f.2.2
    refine ⟨?_, fun j hj => ?_⟩
    · have s := SG_each (g := wf A1 ar (A 20 e)) (f := A2 45) (I2 76).toNat (fun e9 he9 => by
        show 0 ≤ (if A1 1 (A2 45 e9) = A 20 e then TZ A1 ar (A2 45 e9) else 0)
        have f9 := F2.2 e9 (by omega) (by omega)
        have fa9 : A1 1 (A2 45 e9) = A 20 e := by rw [← X2.2 1 (by decide) (by decide)]; exact f9.2.2
        rw [if_pos fa9, ← t12.1]
        omega) c.toNat (by omega)
      rw [show ((c.toNat : Nat) : Int) = c by omega] at s
      have w9 : wf A1 ar (A 20 e) (A2 45 c) = TZ A1 ar (A2 45 c) := if_pos fa
      rw [w9] at s
      rw [t12.1]
      omega
    · have a2 := af2 c c0 c1
      have mb := (mem (DM A1 N (A1 2 (A2 45 c)))).mpr ⟨c, ⟨c0, c1⟩, fa, rfl⟩
      have t9 : 1 ≤ (sp_ts ft (DM A N (A 39 p))).1 := by rw [TS_1 hB.1.1 hB.1.2.1 hX hK te.1.1 te.1.2]; exact he
      have p9 := (cc_ts (ft := ft) (fn := fn) (DM A N (A 39 p))).1 t9 _ mb
      refine ts_as _ p9 _ ?_
      rw [← d12, ← X2.2 2 (by decide) (by decide), DM_li R2.2.1.1.1 T2 m _ a2.1.1 a2.1.2 a2.2, as_li]
      exact List.mem_map.mpr ⟨j, List.mem_range.mpr hj, rfl⟩
  have sumf : SG (fun x => 2 * TZ A2 ar x + TZ A2 ar fo * TZ A2 ar x) (A2 45) (I2 76).toNat ≤ (2 + TZ A ar fo) * TZ A ar (A 39 p) := by
    have e1 : SG (fun x => 2 * TZ A2 ar x + TZ A2 ar fo * TZ A2 ar x) (A2 45) (I2 76).toNat = SG (fun x => (2 + TZ A ar fo) * wf A1 ar (A 20 e) x) (A2 45) (I2 76).toNat := by
      refine SG_congr _ (fun j hj => ?_)
      have f := F2.2 j (by omega) (by omega)
      have a2 : A1 1 (A2 45 j) = A 20 e := by
        rw [← X2.2 1 (by decide) (by decide)]
        exact f.2.2
      show 2 * TZ A2 ar (A2 45 j) + TZ A2 ar fo * TZ A2 ar (A2 45 j) = (2 + TZ A ar fo) * (if A1 1 (A2 45 j) = A 20 e then TZ A1 ar (A2 45 j) else 0)
      rw [if_pos a2, tz fo q0 q1 q2, t12.1, Int.add_mul]
    rw [e1, W2 (fun x => (2 + TZ A ar fo) * wf A1 ar (A 20 e) x) (fun k hk => by show (2 + TZ A ar fo) * wf A1 ar (A 20 e) k = 0; rw [wf_sup k hk, Int.mul_zero]), NT_mul]
    have T1 := PTP_BX (ar := ar) (f := A 20 e) (p := p) (by omega) hP X.1 (fun a p q => by unfold GE; omega) hT
    have wl := (wf_le (ar := ar) (f := A 20 e) P1 (by omega) _ (A 39 p) (Nat.lt_succ_self _) te.1.1 (by omega)).1 (by rw [tx]; exact te.2) (by have := T1.2.2.2.2; rw [f39p] at this; exact this)
    rw [tx] at wl
    exact Int.mul_le_mul_of_nonneg_left wl (by omega)
  rw [Int.add_mul] at sumf
  have tf2 := tz fo q0 q1 q2
  have D2 : DR ar (A 41 p) S V I2 A2 := DR_BX P1 D b2 (by decide) (by decide) (fun q => by rw [← X2.1 49 (by decide) (by decide)]; exact q)
  have x72 : I 7 ≤ I2 7 := X02.1.2.1
  have g21 : A2 21 = A 21 := X02.1.2.2.2.2 21 (by decide) (by decide) (by decide) (by decide) (by decide) (by decide) (by unfold GNN GE; omega)
  have g32 : I2 32 = I 32 := X02.1.2.2.2.1 32 (by decide) (by unfold FNN FE; omega)
  have VJ : ∀ j : Nat, j < m → A2 1 (A2 1 (rt A2 j lv)) = -2 ∧ 1 < A2 1 (rt A2 j lv) := by
    intro j hj
    have b := (VD_rt hP l0 l1 hL hj).2.1
    rw [it_BX hP X02.1 l0 l1 hL hj, (X02.1.2.2.1 _ b.1 b.2).1]
    exact hV j hj
  have K2 : ART ar ft I2 A2 N := ART_BX X.2.1 T1 K1 b2 (by decide) (by decide) (by decide)
  have hs2 : 1 ≤ TS A2 ar fo := by
    have s := TS_1 R2.2.1.1.1 R2.2.1.1.2.1 T2 K2 q0 (show fo < I2 7 by omega)
    rw [DM_BX hB.1.1 hX X02.1 (by unfold FNN FE; omega) (by unfold GNN GE; omega) (by unfold GNN GE; omega) q0 q1, TS_1 hB.1.1 hB.1.2.1 hX hK q0 q1] at s
    have s1 : TS A ar fo = TS A2 ar fo := congrArg (fun q => q.1) s
    rw [← s1]
    exact hs
  refine mm_row_calls z d m ar ft (itR (sp_in (VsP A N e m) (OsP A N lv m)) A N p (A 41 p)) e lv p fo h R I2 A2 N hc R2.2.1 e0 (by omega) (by rw [g21]; exact em) l0 (by omega) (isL_extB hP X02.1 m lv l0 l1 hL) VJ F2b q0 (by omega) (by rw [tf2]; exact q2) (by rw [tf2]; exact q3) (by omega) (A 41 p) (by omega) t41.1 T2 K2 hs2 hg2 _ ?_ (I2 76).toNat 0 I2 A2 S V y6 (by omega) (Int.le_refl _) f2a.1 (RZ_rf R2.2.1 (show (0 : Int) ≤ 0 by decide)) (by rw [Int.add_zero]; exact D2) (fun h9 => by rw [show itC _ _ _ A2 N m 0 = [] from rfl, List.append_nil]; exact h9)
  intro c I3 A3 S3 V3 y7 X3 D3 hJ3
  have X03 := RZ_tr X02 (RZ_FNN X3) (Int.le_refl _)
  have x73 := X03.1.2.1
  have tf3 := RZ_t hP X03 q0 q1 q2
  have P3 := RZ_P X3
  refine go_a (pc' := 214) (ls' := [some (.ref h.length), some (.int (iI e)), some (.int (iI lv)), some (.int (iI p)), some (.int (iI fo)), some (.int (iI c)), y7]) (st' := [.ref h.length]) rfl rfl ?_
  refine go_a (pc' := 216) (ls' := [some (.ref h.length), some (.int (iI e)), some (.int (iI lv)), some (.int (iI p)), some (.int (iI fo)), some (.int (iI c)), y7]) (st' := [.int (iI fo), .ref h.length]) rfl rfl ?_
  refine go_v (m := 155) (as := [.ref h.length, .int (iI fo)]) (r := []) rfl rfl rfl mh_o rfl rfl (mm_put z (d + 7) ar (A 41 p + 125) S3 V3 fo h R I3 A3 N hc P3 D3 (by omega) q0 (by omega) (by rw [tf3]; exact q2) (fun _ => by rw [tf3]; exact q3) P3.1) (fun v h1 hq => ?_)
  obtain ⟨rfl, I4, A4, rfl, X4, D4, J4⟩ := hq
  have hJ4 : DIT [] I A N → ∃ its : List (Option ob_T), DIT its I4 A4 N ∧ ∀ x : Option ob_T, x ∈ its ↔ x ∈ itR (sp_in (VsP A N e m) (OsP A N lv m)) A N p (A 41 p) ++ ((sp_cc fn ((sp_in (VsP A N e m) (OsP A N lv m)) (DM A N (A 39 p))).1).1.map (sp_cI (VlP A N lv m) (DM A N fo)) ++ [some (DM A N fo)]) := fun h9 => by
    have h2 := DIT_BX X.2.1 T1 D b2 (by decide) (by decide) (by decide) (by decide) (by decide) (X2.1 49 (by decide) (by decide)) (hJ1 h9)
    have h3 := hJ3 h2
    have T3 : TRX I3 A3 N := TRX_BX R2.2.1.1.1 R2.2.1.1.2.1 T2 X3.1 (by unfold FE; omega) (by unfold GE; omega) (by unfold GE; omega)
    have h4 := DIM_put X3.2.1 T3 D3 X4 J4 q0 (by omega) (DIM_have (x := fo) h3)
    refine ⟨_, h4, fun x => ?_⟩
    rw [DM_BX hB.1.1 hX X03.1 (by unfold FNN FE; omega) (by unfold GNN GE; omega) (by unfold GNN GE; omega) q0 q1]
    have ev : VsP A2 N e m = VsP A N e m := VsP_BX hB.1.1 hX X02.1 (by unfold FNN FE; omega) (by unfold GNN GE; omega) (by unfold GNN GE; omega) (by unfold GNN GE; omega) (fun k a b => (De.2.2.1 k a (by omega)).1)
    have eo := OsP_BX hB.1.1 hX X02.1 (by unfold FNN FE; omega) (by unfold GNN GE; omega) (by unfold GNN GE; omega) l0 l1 hL
    have ef2 : DM A2 N fo = DM A N fo := DM_BX hB.1.1 hX X02.1 (by unfold FNN FE; omega) (by unfold GNN GE; omega) (by unfold GNN GE; omega) q0 q1
    rw [ev, eo.1, eo.2, ef2, List.append_assoc, List.mem_append, List.mem_append, List.mem_append (s := itR _ _ _ _ _), List.mem_append (s := (sp_cc _ _).1.map _)]
    have hm : x ∈ itC (sp_in (VsP A N e m) (OsP A N lv m)) (VlP A N lv m) (DM A N fo) A2 N m (I2 76) ↔ x ∈ (sp_cc fn ((sp_in (VsP A N e m) (OsP A N lv m)) (DM A N (A 39 p))).1).1.map (sp_cI (VlP A N lv m) (DM A N fo)) := by
      rw [(cc_in (OsP_RNV hB.1.1 hB.1.2.1 hX hP l0 l1 hL hV) _).1, List.map_map]
      unfold itC
      rw [List.mem_map, List.mem_map]
      refine ⟨fun ⟨y, hy, ey⟩ => ?_, fun ⟨b, hb, eb⟩ => ?_⟩
      · obtain ⟨c9, c0, c1, ec⟩ := ixl_mem.mp hy
        have a2 := af2 c9 c0 c1
        have f := F2.2 c9 c0 c1
        rw [← ec, itD_cI R2.2.1.1.1 T2 a2.1.1 a2.1.2 a2.2] at ey
        refine ⟨_, (mem _).mpr ⟨c9, ⟨c0, c1⟩, by rw [← X2.2 1 (by decide) (by decide)]; exact f.2.2, rfl⟩, ?_⟩
        rw [← d12, ← X2.2 2 (by decide) (by decide)]
        exact ey
      · obtain ⟨c9, ⟨c0, c1⟩, f, eb2⟩ := (mem b).mp hb
        have a2 := af2 c9 c0 c1
        refine ⟨_, ixl_mem.mpr ⟨c9, c0, c1, rfl⟩, ?_⟩
        rw [itD_cI R2.2.1.1.1 T2 a2.1.1 a2.1.2 a2.2, d12, X2.2 2 (by decide) (by decide), eb2]
        exact eb
    rw [hm]
  have R4 := RE_DX X3.2.1 X4
  show xx_go (xt_P z) (d + 8) 168 219 [some (.ref h.length), some (.int (iI e)), some (.int (iI lv)), some (.int (iI p)), some (.int (iI fo)), some (.int (iI c)), y7] [] (mh h R I4 A4 N) _
  exact go_r rfl rfl rfl rfl rfl rfl ⟨rfl, I4, A4, _, _, rfl, RZ_tr X03 (RZ_FNN R4) (by omega), DR_w D4 (by omega) (Int.le_refl _) (Int.le_refl _), hJ4⟩

