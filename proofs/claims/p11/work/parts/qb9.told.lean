section SW
variable {P : xx_P} {d k pc : Nat} {ls : xx_L} {r : List Value} {hp : xx_H} {Q : Option Value → xx_H → Prop}
end SW
theorem mm_naturalB (F G : Nat → Prop) (z : Value) (d : Nat) (v : Int) (ar : Int → Int) (h R : xx_H) (I : Nat → Int) (A : Nat → Int → Int) (N : Int → Int) (hc : 12 ≤ h.length) (hS : MST I A N) (hZ : SZI ar I A) (ho : I 7 < 140000) (v0 : 0 ≤ v) (v1 : v < 4611686018427387904) : xx_cl (xt_P z) (d + 2) 93 [.ref h.length, .long (Int64.ofInt v)] (mh h R I A N) (fun w h1 => ∃ (k : Int) (I1 : Nat → Int) (A1 : Nat → Int → Int) (N1 : Int → Int), w = some (.int (iI k)) ∧ h1 = mh h R I1 A1 N1 ∧ BX F G I A N I1 A1 N1 ∧ SZI ar I1 A1 ∧ 0 ≤ k ∧ k < I1 7 ∧ I1 7 ≤ I 7 + 1 ∧ (A1 1 k = -1 ∧ N1 k = v)) := by
  refine cl_w (fun w h1 hq => ?_) (mm_natural z d v h R I A N hc hS ho v0 v1)
  obtain ⟨k, I1, A1, N1, rfl, rfl, S1, k0, k1, e1, e2, e3⟩ := hq
  rcases e3 with ⟨rfl, rfl, rfl⟩ | ⟨rfl, rfl, rfl, rfl⟩
  · exact ⟨k, _, _, _, rfl, rfl, BX_rf S1, hZ, k0, k1, by omega, e1, e2⟩
  · have X : BX F G I A N (su I 7 (I 7 + 1)) (addA A (I 7) (-1) 0 (msl (nlo v) (nhi v))) (sf N (I 7) v) := by
      refine ⟨S1, (show I 7 ≤ I 7 + 1 by omega), fun j j0 j1 => ?_, fun j p _ => su_ne p, fun a q1 q2 q3 q4 q5 q6 _ => addA_ne q1 q2 q3 q4 q5 q6⟩
      rw [addA_1, addA_2, addA_4, sf_ne (by omega), sf_ne (by omega), sf_ne (by omega), sf_ne (by omega)]
      exact ⟨rfl, rfl, rfl, id⟩
    refine ⟨_, _, _, _, rfl, rfl, X, ?_, k0, k1, Int.le_refl _, e1, e2⟩
    refine SZI_grow (k2 := I 7) (MST_PW hS) hZ X (Int.le_refl _) (fun j j0 j1 => ?_) (fun _ => ?_) (fun _ => rfl)
    · rw [addA_4, sf_ne (by omega)]
    · rw [addA_4, sf_self]
def mcl (f : Int) : Int := if f = 15 then 16 else if f = 16 then 15 else f
section VLS
variable {I : Nat → Int} {A : Nat → Int → Int} {N : Int → Int}
theorem tr_DM (hT : TRX I A N) {p : Prop} {t b : Int} (tb : t = b) (hb : b = 0 ∨ b = 1) (hp : b = 1 ↔ p) : sp_tr p = DM A N t := by
  unfold sp_tr
  rcases hb with h | h
  · rw [ifc_neg (fun q => by have := hp.mpr q; omega), tb, h, DM_0 hT]
  · rw [ifc_pos (hp.mp h), tb, h, DM_1 hT]
theorem DM_iff (hS : MST I A N) (hT : TRX I A N) {a b : Int} (a0 : 0 ≤ a) (a1 : a < I 7) (b0 : 0 ≤ b) (b1 : b < I 7) : DM A N a = DM A N b ↔ a = b := ⟨fun q => DM_inj ⟨hS, hT.1⟩ a0 a1 b0 b1 q, fun q => by rw [q]⟩
theorem imp_iff (hS : MST I A N) (hN : NM I A) (hT : TRX I A N) {a b : Int} (a0 : 0 ≤ a) (a1 : a < I 7) (b0 : 0 ≤ b) (b1 : b < I 7) : (DM A N a = .var 31361 ∨ DM A N b ≠ .var 31361) ↔ (a = 0 ∨ ¬ b = 0) := by
  have na := nil_0 hS hN hT a0 a1
  have nb := nil_0 hS hN hT b0 b1
  constructor
  · rintro (q | q)
    · exact Or.inl (na.mp q)
    · exact Or.inr (fun e => q (nb.mpr e))
  · rintro (q | q)
    · exact Or.inl (na.mpr q)
    · exact Or.inr (fun e => q (nb.mp e))
theorem kind_iff (hS : MST I A N) (hT : TRX I A N) {a : Int} (a0 : 0 ≤ a) (a1 : a < I 7) : (sp_isp (DM A N a) = true ↔ 0 ≤ A 1 a) ∧ (sp_isn (DM A N a) = true ↔ A 1 a = -1) ∧ (sp_isv (DM A N a) = true ↔ A 1 a = -2) := by
  by_cases e : A 1 a < 0
  · rcases DM_at hS a0 a1 e with ⟨k, n, q⟩ | ⟨k, v, q⟩
    · rw [q]
      exact ⟨⟨fun x => absurd (show false = true from x) (by decide), fun x => by omega⟩, ⟨fun _ => k, fun _ => rfl⟩, ⟨fun x => absurd (show false = true from x) (by decide), fun x => by omega⟩⟩
    · rw [q]
      exact ⟨⟨fun x => absurd (show false = true from x) (by decide), fun x => by omega⟩, ⟨fun x => absurd (show false = true from x) (by decide), fun x => by omega⟩, ⟨fun _ => k, fun _ => rfl⟩⟩
  · rw [DM_pr hS hT a0 a1 (by omega)]
    exact ⟨⟨fun _ => by omega, fun _ => rfl⟩, ⟨fun x => absurd (show false = true from x) (by decide), fun x => by omega⟩, ⟨fun x => absurd (show false = true from x) (by decide), fun x => by omega⟩⟩
theorem car_DM (hS : MST I A N) (hT : TRX I A N) {a : Int} (a0 : 0 ≤ a) (a1 : a < I 7) : (0 ≤ A 1 a → sp_ca (DM A N a) = DM A N (A 1 a) ∧ sp_cd (DM A N a) = DM A N (A 2 a)) ∧ (¬ 0 ≤ A 1 a → sp_ca (DM A N a) = DM A N 0 ∧ sp_cd (DM A N a) = DM A N 0) := by
  refine ⟨fun e => ?_, fun e => ?_⟩
  · rw [DM_pr hS hT a0 a1 e]
    exact ⟨rfl, rfl⟩
  · rw [DM_0 hT]
    rcases DM_at hS a0 a1 (by omega) with ⟨k, n, q⟩ | ⟨k, v, q⟩
    · rw [q]
      exact ⟨rfl, rfl⟩
    · rw [q]
      exact ⟨rfl, rfl⟩
theorem H_sp (hS : MST I A N) (hT : TRX I A N) : ∀ (f : Nat) (k : Int), k.toNat < f → 0 ≤ k → k < I 7 → ob_h (DM A N k) = A 5 k
  | f + 1, k, hf, k0, k1 => by
    have h5 := hS.2.2.2.2.2.2.2.2 k k0 k1
    by_cases e : A 1 k < 0
    · rw [if_pos e] at h5
      rw [h5]
      rcases DM_at hS k0 k1 e with ⟨-, n, q⟩ | ⟨-, v, q⟩
      · rw [q]
        rfl
      · rw [q]
        rfl
    · have q0 := (MST_PW hS).2 k k0 k1
      have q2 := q0.2.2.2.2 (by omega)
      rw [if_neg e] at h5
      rw [h5, DM_pr hS hT k0 k1 (by omega), ← H_sp hS hT f (A 1 k) (by omega) (by omega) (by omega), ← H_sp hS hT f (A 2 k) (by omega) (by omega) (by omega)]
      rfl
end VLS
theorem vl_3 (a b c : ob_T) : sp_vl 3 a b c = some (ifc (a = .var 31361) c b) := by
  unfold sp_vl
  rw [if_pos rfl]
theorem vl_4 (a b c : ob_T) : sp_vl 4 a b c = some (sp_tr (a = b)) := by
  unfold sp_vl
  rw [if_neg (by decide), if_pos rfl]
theorem vl_5 (a b c : ob_T) : sp_vl 5 a b c = some (.add a b) := by
  unfold sp_vl
  rw [if_neg (by decide), if_neg (by decide), if_pos rfl]
theorem vl_6 (a b c : ob_T) : sp_vl 6 a b c = some (sp_tr (a = .var 31361 ∨ b ≠ .var 31361)) := by
  unfold sp_vl
  rw [if_neg (by decide), if_neg (by decide), if_neg (by decide), if_pos rfl]
theorem vl_7 (a b c : ob_T) : sp_vl 7 a b c = (if 4611686018427387903 < sp_nu a + sp_nu b then none else some (.num (sp_nu a + sp_nu b))) := by
  unfold sp_vl
  rw [if_neg (by decide), if_neg (by decide), if_neg (by decide), if_neg (by decide), if_pos rfl]
theorem vl_8 (a b c : ob_T) : sp_vl 8 a b c = some (.num (if sp_nu a - sp_nu b < 0 then 0 else sp_nu a - sp_nu b)) := by
  unfold sp_vl
  rw [if_neg (by decide), if_neg (by decide), if_neg (by decide), if_neg (by decide), if_neg (by decide), if_pos rfl]
theorem vl_9 (a b c : ob_T) : sp_vl 9 a b c = some (sp_tr (sp_nu a < sp_nu b)) := by
  unfold sp_vl
  rw [if_neg (by decide), if_neg (by decide), if_neg (by decide), if_neg (by decide), if_neg (by decide), if_neg (by decide), if_pos rfl]
theorem vl_10 (a b c : ob_T) : sp_vl 10 a b c = some (sp_tr (sp_isp a = true)) := by
  unfold sp_vl
  rw [if_neg (by decide), if_neg (by decide), if_neg (by decide), if_neg (by decide), if_neg (by decide), if_neg (by decide), if_neg (by decide), if_pos rfl]
theorem vl_11 (a b c : ob_T) : sp_vl 11 a b c = some (sp_ca a) := by
  unfold sp_vl
  rw [if_neg (by decide), if_neg (by decide), if_neg (by decide), if_neg (by decide), if_neg (by decide), if_neg (by decide), if_neg (by decide), if_neg (by decide), if_pos rfl]
theorem vl_12 (a b c : ob_T) : sp_vl 12 a b c = some (sp_cd a) := by
  unfold sp_vl
  rw [if_neg (by decide), if_neg (by decide), if_neg (by decide), if_neg (by decide), if_neg (by decide), if_neg (by decide), if_neg (by decide), if_neg (by decide), if_neg (by decide), if_pos rfl]
theorem vl_13 (a b c : ob_T) : sp_vl 13 a b c = some (sp_tr (sp_isn a = true)) := by
  unfold sp_vl
  rw [if_neg (by decide), if_neg (by decide), if_neg (by decide), if_neg (by decide), if_neg (by decide), if_neg (by decide), if_neg (by decide), if_neg (by decide), if_neg (by decide), if_neg (by decide), if_pos rfl]
theorem vl_14 (a b c : ob_T) : sp_vl 14 a b c = some (sp_tr (sp_isv a = true)) := by
  unfold sp_vl
  rw [if_neg (by decide), if_neg (by decide), if_neg (by decide), if_neg (by decide), if_neg (by decide), if_neg (by decide), if_neg (by decide), if_neg (by decide), if_neg (by decide), if_neg (by decide), if_neg (by decide), if_pos rfl]
theorem vl_15 (a b c : ob_T) : sp_vl 15 a b c = some (.num (ob_h a)) := by
  unfold sp_vl
  rw [if_neg (by decide), if_neg (by decide), if_neg (by decide), if_neg (by decide), if_neg (by decide), if_neg (by decide), if_neg (by decide), if_neg (by decide), if_neg (by decide), if_neg (by decide), if_neg (by decide), if_neg (by decide), if_pos rfl]
theorem vl_16 (a b c : ob_T) : sp_vl 16 a b c = some (sp_tr (a = .var 31361)) := by
  unfold sp_vl
  rw [if_neg (by decide), if_neg (by decide), if_neg (by decide), if_neg (by decide), if_neg (by decide), if_neg (by decide), if_neg (by decide), if_neg (by decide), if_neg (by decide), if_neg (by decide), if_neg (by decide), if_neg (by decide), if_neg (by decide)]
theorem mm_truth (z : Value) (d : Nat) (b : Int) (hp : xx_H) (hb : b = 0 ∨ b = 1) : xx_cl (xt_P z) (d + 1) 146 [.int (iI b)] hp (fun v h1 => (∃ t : Int, v = some (.int (iI t)) ∧ (t = 0 ∨ t = 1) ∧ t = b) ∧ h1 = hp) := by
  refine cl_go rfl ?_
  show xx_go (xt_P z) d 146 0 [some (.int (iI b))] [] (hp) _
  refine go_a (pc' := 1) (ls' := [some (.int (iI b))]) (st' := [.int (iI b)]) rfl rfl ?_
  refine mi_eq0 (t := 8) rfl rfl (by omega) (by omega) (fun e9 => ?_) (fun e9 => ?_)
  · refine go_a (pc' := 9) (ls' := [some (.int (iI b))]) (st' := [.int (iI 0)]) rfl rfl ?_
    exact go_r rfl rfl rfl rfl rfl rfl ⟨⟨0, rfl, Or.inl rfl, by omega⟩, rfl⟩
  · refine go_a (pc' := 5) (ls' := [some (.int (iI b))]) (st' := [.int (iI 1)]) rfl rfl ?_
    refine go_a (pc' := 9) (ls' := [some (.int (iI b))]) (st' := [.int (iI 1)]) rfl rfl ?_
    exact go_r rfl rfl rfl rfl rfl rfl ⟨⟨1, rfl, Or.inr rfl, by omega⟩, rfl⟩
def nof (A : Nat → Int → Int) (N : Int → Int) (k : Int) : Int := if A 1 k = -1 then N k else 0
theorem nof_rng {I : Nat → Int} {A : Nat → Int → Int} {N : Int → Int} (hS : MST I A N) (k : Int) : 0 ≤ nof A N k ∧ nof A N k < 4611686018427387904 := by
  have r := hS.2.2.2.2.1.2.2 k
  unfold nof
  split
  · exact r
  · decide
theorem nu_nof {I : Nat → Int} {A : Nat → Int → Int} {N : Int → Int} (hS : MST I A N) (hT : TRX I A N) {k : Int} (k0 : 0 ≤ k) (k1 : k < I 7) : sp_nu (DM A N k) = nof A N k := by
  unfold nof
  by_cases e : A 1 k < 0
  · rcases DM_at hS k0 k1 e with ⟨a, -⟩ | ⟨a, v, q⟩
    · rw [if_pos a, DM_n a]
      rfl
    · rw [if_neg (by omega), q]
      rfl
  · rw [if_neg (by omega), DM_pr hS hT k0 k1 (by omega)]
    rfl
theorem mm_numberOf (z : Value) (d : Nat) (k : Int) (h R : xx_H) (I : Nat → Int) (A : Nat → Int → Int) (N : Int → Int) (hc : 12 ≤ h.length) (hS : MST I A N) (k0 : 0 ≤ k) (k1 : k < I 7) : xx_cl (xt_P z) (d + 2) 147 [.ref h.length, .int (iI k)] (mh h R I A N) (fun v h1 => v = some (.long (Int64.ofInt (nof A N k))) ∧ h1 = mh h R I A N) := by
  have hP := MST_PW hS
  have p1 := hP.1
  have r := hS.2.2.2.2.1.2.2 k
  refine cl_go rfl ?_
  show xx_go (xt_P z) (d + 1) 147 0 [some (.ref h.length), some (.int (iI k))] [] (mh h R I A N) _
  refine go_a (pc' := 1) (ls' := [some (.ref h.length), some (.int (iI k))]) (st' := [.ref h.length]) rfl rfl ?_
  refine go_a (pc' := 2) (ls' := [some (.ref h.length), some (.int (iI k))]) (st' := [.int (iI k), .ref h.length]) rfl rfl ?_
  refine go_v (m := 110) (as := [.ref h.length, .int (iI k)]) (r := []) rfl rfl rfl mh_o rfl rfl (mb_isNatural z d k h R I A N hc hP k0 k1) (fun v h1 hq => ?_)
  obtain ⟨⟨b, rfl, hb⟩, rfl⟩ := hq
  show xx_go (xt_P z) (d + 1) 147 5 [some (.ref h.length), some (.int (iI k))] [.int (iI b)] (mh h R I A N) _
  refine mi_eq0 (t := 17) rfl rfl (by omega) (by omega) (fun _ => ?_) (fun _ => ?_)
  · refine go_a (pc' := 18) (ls' := [some (.ref h.length), some (.int (iI k))]) (st' := [.long (Int64.ofInt 0)]) rfl rfl ?_
    exact go_r rfl rfl rfl rfl rfl rfl ⟨by unfold nof; rw [if_neg (by omega)], rfl⟩
  · refine go_a (pc' := 9) (ls' := [some (.ref h.length), some (.int (iI k))]) (st' := [.ref h.length]) rfl rfl ?_
    refine go_get rfl mh_o rfl rfl ?_
    refine go_a (pc' := 13) (ls' := [some (.ref h.length), some (.int (iI k))]) (st' := [.int (iI k), .ref (h.length + 6)]) rfl rfl ?_
    refine mi_lld rfl mh_a6 (by omega) (by omega) (by decide) ?_
    refine go_a (pc' := 18) (ls' := [some (.ref h.length), some (.int (iI k))]) (st' := [.long (Int64.ofInt (N k))]) rfl rfl ?_
    exact go_r rfl rfl rfl rfl rfl rfl ⟨by unfold nof; rw [if_pos (by omega)], rfl⟩
def vl (A : Nat → Int → Int) (k : Int) : Int := if 0 ≤ A 1 k then A 1 (A 2 k) else k
theorem vl_rng {I : Nat → Int} {A : Nat → Int → Int} {k : Int} (hP : PW I A) (k0 : 0 ≤ k) (k1 : k < I 7) (hk : 0 ≤ A 1 k → 0 ≤ A 1 (A 2 k)) : 0 ≤ vl A k ∧ vl A k < I 7 := by
  have q := hP.2 k k0 k1
  unfold vl
  split
  · rename_i c
    have q2 := q.2.2.2.2 c
    have q3 := hP.2 (A 2 k) q.2.2.1 (by omega)
    have q4 := hk c
    omega
  · omega
theorem mm_valueOf (z : Value) (d : Nat) (k : Int) (h R : xx_H) (I : Nat → Int) (A : Nat → Int → Int) (N : Int → Int) (hc : 12 ≤ h.length) (hP : PW I A) (k0 : 0 ≤ k) (k1 : k < I 7) (hk : 0 ≤ A 1 k → 0 ≤ A 1 (A 2 k)) : xx_cl (xt_P z) (d + 2) 143 [.ref h.length, .int (iI k)] (mh h R I A N) (fun v h1 => v = some (.int (iI (vl A k))) ∧ h1 = mh h R I A N) := by
  have p1 := hP.1
  have q := hP.2 k k0 k1
  refine cl_go rfl ?_
  show xx_go (xt_P z) (d + 1) 143 0 [some (.ref h.length), some (.int (iI k))] [] (mh h R I A N) _
  refine go_a (pc' := 1) (ls' := [some (.ref h.length), some (.int (iI k))]) (st' := [.ref h.length]) rfl rfl ?_
  refine go_a (pc' := 2) (ls' := [some (.ref h.length), some (.int (iI k))]) (st' := [.int (iI k), .ref h.length]) rfl rfl ?_
  refine go_v (m := 96) (as := [.ref h.length, .int (iI k)]) (r := []) rfl rfl rfl mh_o rfl rfl (mb_isPair z d k h R I A N hc hP k0 k1) (fun v h1 hq => ?_)
  obtain ⟨⟨b, rfl, hb⟩, rfl⟩ := hq
  show xx_go (xt_P z) (d + 1) 143 5 [some (.ref h.length), some (.int (iI k))] [.int (iI b)] (mh h R I A N) _
  refine mi_eq0 (t := 22) rfl rfl (by omega) (by omega) (fun _ => ?_) (fun _ => ?_)
  · refine go_a (pc' := 23) (ls' := [some (.ref h.length), some (.int (iI k))]) (st' := [.int (iI k)]) rfl rfl ?_
    exact go_r rfl rfl rfl rfl rfl rfl ⟨by unfold vl; rw [if_neg (by omega)], rfl⟩
  · have q2 := q.2.2.2.2 (by omega)
    have q3 := hP.2 (A 2 k) q.2.2.1 (by omega)
    have q4 := hk (by omega)
    refine go_a (pc' := 9) (ls' := [some (.ref h.length), some (.int (iI k))]) (st' := [.ref h.length]) rfl rfl ?_
    refine go_get rfl mh_o rfl rfl ?_
    refine go_a (pc' := 13) (ls' := [some (.ref h.length), some (.int (iI k))]) (st' := [.ref h.length, .ref (h.length + 1)]) rfl rfl ?_
    refine go_get rfl mh_o rfl rfl ?_
    refine go_a (pc' := 17) (ls' := [some (.ref h.length), some (.int (iI k))]) (st' := [.int (iI k), .ref (h.length + 2), .ref (h.length + 1)]) rfl rfl ?_
    refine mi_ild rfl mh_a2 (by omega) (by omega) (by decide) ?_
    refine mi_ild rfl mh_a1 (by omega) (by omega) (by decide) ?_
    refine go_a (pc' := 23) (ls' := [some (.ref h.length), some (.int (iI k))]) (st' := [.int (iI (A 1 (A 2 k)))]) rfl rfl ?_
    exact go_r rfl rfl rfl rfl rfl rfl ⟨by unfold vl; rw [if_pos (by omega)], rfl⟩
theorem mm_basic (F G : Nat → Prop) (f10 : ¬ F 10) (g8 : ¬ G 8) (g9 : ¬ G 9) (z : Value) (d : Nat) (ar : Int → Int) (f : Int) (h R : xx_H) (I : Nat → Int) (A : Nat → Int → Int) (N : Int → Int) (hc : 12 ≤ h.length) (hS : MST I A N) (hN : NM I A) (hZ : SZI ar I A) (hT : TRX I A N) (ho : I 7 < 140000) (f4 : 4 ≤ f) (f16 : f ≤ 16) (a0 : 0 ≤ A 37 0) (a1 : A 37 0 < I 7) (b0 : f ≤ 9 → 0 ≤ A 37 1 ∧ A 37 1 < I 7) : xx_cl (xt_P z) (d + 3) 145 [.ref h.length, .int (iI f), .int (iI 0)] (mh h R I A N) (fun v h1 => (v = some (.int (iI (-1))) ∧ h1 = mh h R I A N ∧ f = 7 ∧ 4611686018427387903 < nof A N (A 37 0) + nof A N (A 37 1)) ∨ ∃ (t : Int) (I1 : Nat → Int) (A1 : Nat → Int → Int) (N1 : Int → Int), v = some (.int (iI t)) ∧ h1 = mh h R I1 A1 N1 ∧ BX F G I A N I1 A1 N1 ∧ SZI ar I1 A1 ∧ 0 ≤ t ∧ t < I1 7 ∧ I1 7 ≤ I 7 + 1 ∧ (f = 7 → nof A N (A 37 0) + nof A N (A 37 1) ≤ 4611686018427387903) ∧ ∀ c9 : ob_T, sp_vl (mcl f) (DM A N (A 37 0)) (DM A N (A 37 1)) c9 = some (DM A1 N1 t)) := by
  have hP := MST_PW hS
  have p1 := hP.1
  have nn := hN.1
  have qa := hP.2 (A 37 0) a0 a1
  have ha := (hS.2.1 (A 37 0) a0 a1).2.2
  refine cl_go rfl ?_
  show xx_go (xt_P z) (d + 2) 145 0 [some (.ref h.length), some (.int (iI f)), some (.int (iI 0)), none, none] [] (mh h R I A N) _
  refine go_a (pc' := 1) (ls' := [some (.ref h.length), some (.int (iI f)), some (.int (iI 0)), none, none]) (st' := [.ref h.length]) rfl rfl ?_
  refine go_get rfl mh_o rfl rfl ?_
  refine go_a (pc' := 5) (ls' := [some (.ref h.length), some (.int (iI f)), some (.int (iI 0)), none, none]) (st' := [.int (iI 0), .ref (h.length + 37)]) rfl rfl ?_
  refine mi_ild rfl mh_a37 (by omega) (by omega) (by decide) ?_
  refine go_a (pc' := 7) (ls' := [some (.ref h.length), some (.int (iI f)), some (.int (iI 0)), some (.int (iI (A 37 0))), none]) (st' := []) rfl rfl ?_
  refine go_a (pc' := 8) (ls' := [some (.ref h.length), some (.int (iI f)), some (.int (iI 0)), some (.int (iI (A 37 0))), none]) (st' := [.ref h.length]) rfl rfl ?_
  refine go_get rfl mh_o rfl rfl ?_
  refine go_a (pc' := 12) (ls' := [some (.ref h.length), some (.int (iI f)), some (.int (iI 0)), some (.int (iI (A 37 0))), none]) (st' := [.int (iI 0), .ref (h.length + 37)]) rfl rfl ?_
  refine go_a (pc' := 13) (ls' := [some (.ref h.length), some (.int (iI f)), some (.int (iI 0)), some (.int (iI (A 37 0))), none]) (st' := [.int (iI 1), .int (iI 0), .ref (h.length + 37)]) rfl rfl ?_
  refine mi_add rfl ?_
  refine mi_ild rfl mh_a37 (by omega) (by omega) (by decide) ?_
  refine go_a (pc' := 17) (ls' := [some (.ref h.length), some (.int (iI f)), some (.int (iI 0)), some (.int (iI (A 37 0))), some (.int (iI (A 37 (0 + 1))))]) (st' := []) rfl rfl ?_
  refine go_a (pc' := 18) (ls' := [some (.ref h.length), some (.int (iI f)), some (.int (iI 0)), some (.int (iI (A 37 0))), some (.int (iI (A 37 (0 + 1))))]) (st' := [.int (iI f)]) rfl rfl ?_
  rw [show (0 : Int) + 1 = 1 from rfl]
  show xx_go (xt_P z) (d + 2) 145 18 [some (.ref h.length), some (.int (iI f)), some (.int (iI 0)), some (.int (iI (A 37 0))), some (.int (iI (A 37 1)))] [.int (iI f)] (mh h R I A N) _
  have cs : f = 4 ∨ f = 5 ∨ f = 6 ∨ f = 7 ∨ f = 8 ∨ f = 9 ∨ f = 10 ∨ f = 11 ∨ f = 12 ∨ f = 13 ∨ f = 14 ∨ f = 15 ∨ f = 16 := by omega
  rcases cs with ef | ef | ef | ef | ef | ef | ef | ef | ef | ef | ef | ef | ef
  · have b1 := b0 (by omega)
    refine mi_ts (c := 4) (t := 84) rfl ef rfl ?_
    refine go_a (pc' := 85) (ls' := [some (.ref h.length), some (.int (iI f)), some (.int (iI 0)), some (.int (iI (A 37 0))), some (.int (iI (A 37 1)))]) (st' := [.int (iI (A 37 0))]) rfl rfl ?_
    refine go_a (pc' := 87) (ls' := [some (.ref h.length), some (.int (iI f)), some (.int (iI 0)), some (.int (iI (A 37 0))), some (.int (iI (A 37 1)))]) (st' := [.int (iI (A 37 1)), .int (iI (A 37 0))]) rfl rfl ?_
    refine mi_ne (t := 94) rfl rfl (by omega) (by omega) (by omega) (by omega) (fun e9 => ?_) (fun e9 => ?_)
    · refine go_a (pc' := 95) (ls' := [some (.ref h.length), some (.int (iI f)), some (.int (iI 0)), some (.int (iI (A 37 0))), some (.int (iI (A 37 1)))]) (st' := [.int (iI 0)]) rfl rfl ?_
      refine go_s (m := 146) (as := [.int (iI 0)]) (r := []) rfl rfl rfl rfl (mm_truth z (d + 1) 0 _ (by omega)) (fun v h1 hq => ?_)
      obtain ⟨⟨t, rfl, ht, tb⟩, rfl⟩ := hq
      show xx_go (xt_P z) (d + 2) 145 98 [some (.ref h.length), some (.int (iI f)), some (.int (iI 0)), some (.int (iI (A 37 0))), some (.int (iI (A 37 1)))] [.int (iI t)] (mh h R I A N) _
      exact go_r rfl rfl rfl rfl rfl rfl (Or.inr ⟨t, I, A, N, rfl, rfl, BX_rf hS, hZ, by omega, by omega, by omega, fun q => by omega, fun c9 => by rw [ef, show mcl 4 = 4 from rfl, vl_4]; exact congrArg some (tr_DM hT tb (by omega) (by rw [DM_iff hS hT a0 a1 b1.1 b1.2]; omega))⟩)
    · refine go_a (pc' := 91) (ls' := [some (.ref h.length), some (.int (iI f)), some (.int (iI 0)), some (.int (iI (A 37 0))), some (.int (iI (A 37 1)))]) (st' := [.int (iI 1)]) rfl rfl ?_
      refine go_a (pc' := 95) (ls' := [some (.ref h.length), some (.int (iI f)), some (.int (iI 0)), some (.int (iI (A 37 0))), some (.int (iI (A 37 1)))]) (st' := [.int (iI 1)]) rfl rfl ?_
      refine go_s (m := 146) (as := [.int (iI 1)]) (r := []) rfl rfl rfl rfl (mm_truth z (d + 1) 1 _ (by omega)) (fun v h1 hq => ?_)
      obtain ⟨⟨t, rfl, ht, tb⟩, rfl⟩ := hq
      show xx_go (xt_P z) (d + 2) 145 98 [some (.ref h.length), some (.int (iI f)), some (.int (iI 0)), some (.int (iI (A 37 0))), some (.int (iI (A 37 1)))] [.int (iI t)] (mh h R I A N) _
      exact go_r rfl rfl rfl rfl rfl rfl (Or.inr ⟨t, I, A, N, rfl, rfl, BX_rf hS, hZ, by omega, by omega, by omega, fun q => by omega, fun c9 => by rw [ef, show mcl 4 = 4 from rfl, vl_4]; exact congrArg some (tr_DM hT tb (by omega) (by rw [DM_iff hS hT a0 a1 b1.1 b1.2]; omega))⟩)
  · have b1 := b0 (by omega)
    refine mi_ts (c := 5) (t := 99) rfl ef rfl ?_
    refine go_a (pc' := 100) (ls' := [some (.ref h.length), some (.int (iI f)), some (.int (iI 0)), some (.int (iI (A 37 0))), some (.int (iI (A 37 1)))]) (st' := [.ref h.length]) rfl rfl ?_
    refine go_a (pc' := 101) (ls' := [some (.ref h.length), some (.int (iI f)), some (.int (iI 0)), some (.int (iI (A 37 0))), some (.int (iI (A 37 1)))]) (st' := [.int (iI (A 37 0)), .ref h.length]) rfl rfl ?_
    refine go_a (pc' := 103) (ls' := [some (.ref h.length), some (.int (iI f)), some (.int (iI 0)), some (.int (iI (A 37 0))), some (.int (iI (A 37 1)))]) (st' := [.int (iI (A 37 1)), .int (iI (A 37 0)), .ref h.length]) rfl rfl ?_
    refine go_v (m := 85) (as := [.ref h.length, .int (iI (A 37 0)), .int (iI (A 37 1))]) (r := []) rfl rfl rfl mh_o rfl rfl (mm_pairB F G z d (A 37 0) (A 37 1) h R I A N hc hS ho a0 a1 b1.1 b1.2) (fun v h1 hq => ?_)
    obtain ⟨t, I1, A1, rfl, rfl, X, t0, t1, g1, g2, g3, g4, g5, g6, g7, hk2⟩ := hq
    show xx_go (xt_P z) (d + 2) 145 106 [some (.ref h.length), some (.int (iI f)), some (.int (iI 0)), some (.int (iI (A 37 0))), some (.int (iI (A 37 1)))] [.int (iI t)] (mh h R I1 A1 N) _
    exact go_r rfl rfl rfl rfl rfl rfl (Or.inr ⟨t, I1, A1, N, rfl, rfl, X, SZI_grow hP hZ X g3 g6 g7 hk2, t0, t1, g3, fun q => by omega, fun c9 => by rw [ef, show mcl 5 = 5 from rfl, vl_5, DM_pr X.1 (TRX_BX hS hN hT X f10 g8 g9) t0 t1 (by omega), g1, g2, DM_BX hS hT X f10 g8 g9 a0 a1, DM_BX hS hT X f10 g8 g9 b1.1 b1.2]⟩)
  · have b1 := b0 (by omega)
    refine mi_ts (c := 6) (t := 107) rfl ef rfl ?_
    refine go_a (pc' := 108) (ls' := [some (.ref h.length), some (.int (iI f)), some (.int (iI 0)), some (.int (iI (A 37 0))), some (.int (iI (A 37 1)))]) (st' := [.int (iI (A 37 0))]) rfl rfl ?_
    refine mi_eq0 (t := 116) rfl rfl (by omega) (by omega) (fun e9 => ?_) (fun e9 => ?_)
    · refine go_a (pc' := 117) (ls' := [some (.ref h.length), some (.int (iI f)), some (.int (iI 0)), some (.int (iI (A 37 0))), some (.int (iI (A 37 1)))]) (st' := [.int (iI 1)]) rfl rfl ?_
      refine go_a (pc' := 121) (ls' := [some (.ref h.length), some (.int (iI f)), some (.int (iI 0)), some (.int (iI (A 37 0))), some (.int (iI (A 37 1)))]) (st' := [.int (iI 1)]) rfl rfl ?_
      refine go_s (m := 146) (as := [.int (iI 1)]) (r := []) rfl rfl rfl rfl (mm_truth z (d + 1) 1 _ (by omega)) (fun v h1 hq => ?_)
      obtain ⟨⟨t, rfl, ht, tb⟩, rfl⟩ := hq
      show xx_go (xt_P z) (d + 2) 145 124 [some (.ref h.length), some (.int (iI f)), some (.int (iI 0)), some (.int (iI (A 37 0))), some (.int (iI (A 37 1)))] [.int (iI t)] (mh h R I A N) _
      exact go_r rfl rfl rfl rfl rfl rfl (Or.inr ⟨t, I, A, N, rfl, rfl, BX_rf hS, hZ, by omega, by omega, by omega, fun q => by omega, fun c9 => by rw [ef, show mcl 6 = 6 from rfl, vl_6]; exact congrArg some (tr_DM hT tb (by omega) (by rw [imp_iff hS hN hT a0 a1 b1.1 b1.2]; omega))⟩)
    · refine go_a (pc' := 113) (ls' := [some (.ref h.length), some (.int (iI f)), some (.int (iI 0)), some (.int (iI (A 37 0))), some (.int (iI (A 37 1)))]) (st' := [.int (iI (A 37 1))]) rfl rfl ?_
      refine mi_eq0 (t := 120) rfl rfl (by omega) (by omega) (fun e8 => ?_) (fun e8 => ?_)
      · refine go_a (pc' := 121) (ls' := [some (.ref h.length), some (.int (iI f)), some (.int (iI 0)), some (.int (iI (A 37 0))), some (.int (iI (A 37 1)))]) (st' := [.int (iI 0)]) rfl rfl ?_
        refine go_s (m := 146) (as := [.int (iI 0)]) (r := []) rfl rfl rfl rfl (mm_truth z (d + 1) 0 _ (by omega)) (fun v h1 hq => ?_)
        obtain ⟨⟨t, rfl, ht, tb⟩, rfl⟩ := hq
        show xx_go (xt_P z) (d + 2) 145 124 [some (.ref h.length), some (.int (iI f)), some (.int (iI 0)), some (.int (iI (A 37 0))), some (.int (iI (A 37 1)))] [.int (iI t)] (mh h R I A N) _
        exact go_r rfl rfl rfl rfl rfl rfl (Or.inr ⟨t, I, A, N, rfl, rfl, BX_rf hS, hZ, by omega, by omega, by omega, fun q => by omega, fun c9 => by rw [ef, show mcl 6 = 6 from rfl, vl_6]; exact congrArg some (tr_DM hT tb (by omega) (by rw [imp_iff hS hN hT a0 a1 b1.1 b1.2]; omega))⟩)
      · refine go_a (pc' := 117) (ls' := [some (.ref h.length), some (.int (iI f)), some (.int (iI 0)), some (.int (iI (A 37 0))), some (.int (iI (A 37 1)))]) (st' := [.int (iI 1)]) rfl rfl ?_
        refine go_a (pc' := 121) (ls' := [some (.ref h.length), some (.int (iI f)), some (.int (iI 0)), some (.int (iI (A 37 0))), some (.int (iI (A 37 1)))]) (st' := [.int (iI 1)]) rfl rfl ?_
        refine go_s (m := 146) (as := [.int (iI 1)]) (r := []) rfl rfl rfl rfl (mm_truth z (d + 1) 1 _ (by omega)) (fun v h1 hq => ?_)
        obtain ⟨⟨t, rfl, ht, tb⟩, rfl⟩ := hq
        show xx_go (xt_P z) (d + 2) 145 124 [some (.ref h.length), some (.int (iI f)), some (.int (iI 0)), some (.int (iI (A 37 0))), some (.int (iI (A 37 1)))] [.int (iI t)] (mh h R I A N) _
        exact go_r rfl rfl rfl rfl rfl rfl (Or.inr ⟨t, I, A, N, rfl, rfl, BX_rf hS, hZ, by omega, by omega, by omega, fun q => by omega, fun c9 => by rw [ef, show mcl 6 = 6 from rfl, vl_6]; exact congrArg some (tr_DM hT tb (by omega) (by rw [imp_iff hS hN hT a0 a1 b1.1 b1.2]; omega))⟩)
  · have b1 := b0 (by omega)
    have n1 := nof_rng hS (A 37 0)
    have n2 := nof_rng hS (A 37 1)
    refine mi_ts (c := 7) (t := 125) rfl ef rfl ?_
    refine go_a (pc' := 126) (ls' := [some (.ref h.length), some (.int (iI f)), some (.int (iI 0)), some (.int (iI (A 37 0))), some (.int (iI (A 37 1)))]) (st' := [.ref h.length]) rfl rfl ?_
    refine go_a (pc' := 127) (ls' := [some (.ref h.length), some (.int (iI f)), some (.int (iI 0)), some (.int (iI (A 37 0))), some (.int (iI (A 37 1)))]) (st' := [.int (iI (A 37 0)), .ref h.length]) rfl rfl ?_
    refine go_v (m := 147) (as := [.ref h.length, .int (iI (A 37 0))]) (r := []) rfl rfl rfl mh_o rfl rfl (mm_numberOf z d (A 37 0) h R I A N hc hS a0 a1) (fun v h1 hq => ?_)
    obtain ⟨rfl, rfl⟩ := hq
    show xx_go (xt_P z) (d + 2) 145 130 [some (.ref h.length), some (.int (iI f)), some (.int (iI 0)), some (.int (iI (A 37 0))), some (.int (iI (A 37 1)))] [.long (Int64.ofInt (nof A N (A 37 0)))] (mh h R I A N) _
    refine go_b (pc' := 133) (st' := [.long (Int64.ofInt 4611686018427387903), .long (Int64.ofInt (nof A N (A 37 0)))]) (h' := mh h R I A N) rfl rfl rfl ?_
    refine go_a (pc' := 134) (ls' := [some (.ref h.length), some (.int (iI f)), some (.int (iI 0)), some (.int (iI (A 37 0))), some (.int (iI (A 37 1)))]) (st' := [.ref h.length, .long (Int64.ofInt 4611686018427387903), .long (Int64.ofInt (nof A N (A 37 0)))]) rfl rfl ?_
    refine go_a (pc' := 136) (ls' := [some (.ref h.length), some (.int (iI f)), some (.int (iI 0)), some (.int (iI (A 37 0))), some (.int (iI (A 37 1)))]) (st' := [.int (iI (A 37 1)), .ref h.length, .long (Int64.ofInt 4611686018427387903), .long (Int64.ofInt (nof A N (A 37 0)))]) rfl rfl ?_
    refine go_v (m := 147) (as := [.ref h.length, .int (iI (A 37 1))]) (r := [.long (Int64.ofInt 4611686018427387903), .long (Int64.ofInt (nof A N (A 37 0)))]) rfl rfl rfl mh_o rfl rfl (mm_numberOf z d (A 37 1) h R I A N hc hS b1.1 b1.2) (fun v h1 hq => ?_)
    obtain ⟨rfl, rfl⟩ := hq
    show xx_go (xt_P z) (d + 2) 145 139 [some (.ref h.length), some (.int (iI f)), some (.int (iI 0)), some (.int (iI (A 37 0))), some (.int (iI (A 37 1)))] [.long (Int64.ofInt (nof A N (A 37 1))), .long (Int64.ofInt 4611686018427387903), .long (Int64.ofInt (nof A N (A 37 0)))] (mh h R I A N) _
    refine mi_lsub rfl ?_
    refine mi_lc_le (t := 148) rfl rfl rfl (by omega) (by omega) (by omega) (by omega) (fun e9 => ?_) (fun e9 => ?_)
    · refine go_a (pc' := 149) (ls' := [some (.ref h.length), some (.int (iI f)), some (.int (iI 0)), some (.int (iI (A 37 0))), some (.int (iI (A 37 1)))]) (st' := [.ref h.length]) rfl rfl ?_
      refine go_a (pc' := 150) (ls' := [some (.ref h.length), some (.int (iI f)), some (.int (iI 0)), some (.int (iI (A 37 0))), some (.int (iI (A 37 1)))]) (st' := [.ref h.length, .ref h.length]) rfl rfl ?_
      refine go_a (pc' := 151) (ls' := [some (.ref h.length), some (.int (iI f)), some (.int (iI 0)), some (.int (iI (A 37 0))), some (.int (iI (A 37 1)))]) (st' := [.int (iI (A 37 0)), .ref h.length, .ref h.length]) rfl rfl ?_
      refine go_v (m := 147) (as := [.ref h.length, .int (iI (A 37 0))]) (r := [.ref h.length]) rfl rfl rfl mh_o rfl rfl (mm_numberOf z d (A 37 0) h R I A N hc hS a0 a1) (fun v h1 hq => ?_)
      obtain ⟨rfl, rfl⟩ := hq
      show xx_go (xt_P z) (d + 2) 145 154 [some (.ref h.length), some (.int (iI f)), some (.int (iI 0)), some (.int (iI (A 37 0))), some (.int (iI (A 37 1)))] [.long (Int64.ofInt (nof A N (A 37 0))), .ref h.length] (mh h R I A N) _
      refine go_a (pc' := 155) (ls' := [some (.ref h.length), some (.int (iI f)), some (.int (iI 0)), some (.int (iI (A 37 0))), some (.int (iI (A 37 1)))]) (st' := [.ref h.length, .long (Int64.ofInt (nof A N (A 37 0))), .ref h.length]) rfl rfl ?_
      refine go_a (pc' := 157) (ls' := [some (.ref h.length), some (.int (iI f)), some (.int (iI 0)), some (.int (iI (A 37 0))), some (.int (iI (A 37 1)))]) (st' := [.int (iI (A 37 1)), .ref h.length, .long (Int64.ofInt (nof A N (A 37 0))), .ref h.length]) rfl rfl ?_
      refine go_v (m := 147) (as := [.ref h.length, .int (iI (A 37 1))]) (r := [.long (Int64.ofInt (nof A N (A 37 0))), .ref h.length]) rfl rfl rfl mh_o rfl rfl (mm_numberOf z d (A 37 1) h R I A N hc hS b1.1 b1.2) (fun v h1 hq => ?_)
      obtain ⟨rfl, rfl⟩ := hq
      show xx_go (xt_P z) (d + 2) 145 160 [some (.ref h.length), some (.int (iI f)), some (.int (iI 0)), some (.int (iI (A 37 0))), some (.int (iI (A 37 1)))] [.long (Int64.ofInt (nof A N (A 37 1))), .long (Int64.ofInt (nof A N (A 37 0))), .ref h.length] (mh h R I A N) _
      refine mi_ladd rfl ?_
      refine go_v (m := 93) (as := [.ref h.length, .long (Int64.ofInt ((nof A N (A 37 0)) + (nof A N (A 37 1))))]) (r := []) rfl rfl rfl mh_o rfl rfl (mm_naturalB F G z d (nof A N (A 37 0) + nof A N (A 37 1)) ar h R I A N hc hS hZ ho (by omega) (by omega)) (fun v h1 hq => ?_)
      obtain ⟨t, I1, A1, N1, rfl, rfl, X, Z1, t0, t1, t7, tn, tv⟩ := hq
      show xx_go (xt_P z) (d + 2) 145 164 [some (.ref h.length), some (.int (iI f)), some (.int (iI 0)), some (.int (iI (A 37 0))), some (.int (iI (A 37 1)))] [.int (iI t)] (mh h R I1 A1 N1) _
      exact go_r rfl rfl rfl rfl rfl rfl (Or.inr ⟨t, I1, A1, N1, rfl, rfl, X, Z1, t0, t1, t7, fun q => by omega, fun c9 => by rw [ef, show mcl 7 = 7 from rfl, vl_7, DM_n tn, tv, nu_nof hS hT a0 a1, nu_nof hS hT b1.1 b1.2, if_neg (by omega)]⟩)
    · refine go_a (pc' := 145) (ls' := [some (.ref h.length), some (.int (iI f)), some (.int (iI 0)), some (.int (iI (A 37 0))), some (.int (iI (A 37 1)))]) (st' := [.int (iI ((-1)))]) rfl rfl ?_
      refine go_a (pc' := 164) (ls' := [some (.ref h.length), some (.int (iI f)), some (.int (iI 0)), some (.int (iI (A 37 0))), some (.int (iI (A 37 1)))]) (st' := [.int (iI ((-1)))]) rfl rfl ?_
      exact go_r rfl rfl rfl rfl rfl rfl (Or.inl ⟨rfl, rfl, ef, by omega⟩)
  · have b1 := b0 (by omega)
    have n1 := nof_rng hS (A 37 0)
    have n2 := nof_rng hS (A 37 1)
    refine mi_ts (c := 8) (t := 165) rfl ef rfl ?_
    refine go_a (pc' := 166) (ls' := [some (.ref h.length), some (.int (iI f)), some (.int (iI 0)), some (.int (iI (A 37 0))), some (.int (iI (A 37 1)))]) (st' := [.ref h.length]) rfl rfl ?_
    refine go_a (pc' := 167) (ls' := [some (.ref h.length), some (.int (iI f)), some (.int (iI 0)), some (.int (iI (A 37 0))), some (.int (iI (A 37 1)))]) (st' := [.ref h.length, .ref h.length]) rfl rfl ?_
    refine go_a (pc' := 168) (ls' := [some (.ref h.length), some (.int (iI f)), some (.int (iI 0)), some (.int (iI (A 37 0))), some (.int (iI (A 37 1)))]) (st' := [.int (iI (A 37 0)), .ref h.length, .ref h.length]) rfl rfl ?_
    refine go_v (m := 147) (as := [.ref h.length, .int (iI (A 37 0))]) (r := [.ref h.length]) rfl rfl rfl mh_o rfl rfl (mm_numberOf z d (A 37 0) h R I A N hc hS a0 a1) (fun v h1 hq => ?_)
    obtain ⟨rfl, rfl⟩ := hq
    show xx_go (xt_P z) (d + 2) 145 171 [some (.ref h.length), some (.int (iI f)), some (.int (iI 0)), some (.int (iI (A 37 0))), some (.int (iI (A 37 1)))] [.long (Int64.ofInt (nof A N (A 37 0))), .ref h.length] (mh h R I A N) _
    refine go_a (pc' := 172) (ls' := [some (.ref h.length), some (.int (iI f)), some (.int (iI 0)), some (.int (iI (A 37 0))), some (.int (iI (A 37 1)))]) (st' := [.ref h.length, .long (Int64.ofInt (nof A N (A 37 0))), .ref h.length]) rfl rfl ?_
    refine go_a (pc' := 174) (ls' := [some (.ref h.length), some (.int (iI f)), some (.int (iI 0)), some (.int (iI (A 37 0))), some (.int (iI (A 37 1)))]) (st' := [.int (iI (A 37 1)), .ref h.length, .long (Int64.ofInt (nof A N (A 37 0))), .ref h.length]) rfl rfl ?_
    refine go_v (m := 147) (as := [.ref h.length, .int (iI (A 37 1))]) (r := [.long (Int64.ofInt (nof A N (A 37 0))), .ref h.length]) rfl rfl rfl mh_o rfl rfl (mm_numberOf z d (A 37 1) h R I A N hc hS b1.1 b1.2) (fun v h1 hq => ?_)
    obtain ⟨rfl, rfl⟩ := hq
    show xx_go (xt_P z) (d + 2) 145 177 [some (.ref h.length), some (.int (iI f)), some (.int (iI 0)), some (.int (iI (A 37 0))), some (.int (iI (A 37 1)))] [.long (Int64.ofInt (nof A N (A 37 1))), .long (Int64.ofInt (nof A N (A 37 0))), .ref h.length] (mh h R I A N) _
    refine mi_lc_le (t := 196) rfl rfl rfl (by omega) (by omega) (by omega) (by omega) (fun e9 => ?_) (fun e9 => ?_)
    · refine go_a (pc' := 197) (ls' := [some (.ref h.length), some (.int (iI f)), some (.int (iI 0)), some (.int (iI (A 37 0))), some (.int (iI (A 37 1)))]) (st' := [.long (Int64.ofInt 0), .ref h.length]) rfl rfl ?_
      refine go_v (m := 93) (as := [.ref h.length, .long (Int64.ofInt 0)]) (r := []) rfl rfl rfl mh_o rfl rfl (mm_naturalB F G z d 0 ar h R I A N hc hS hZ ho (by decide) (by decide)) (fun v h1 hq => ?_)
      obtain ⟨t, I1, A1, N1, rfl, rfl, X, Z1, t0, t1, t7, tn, tv⟩ := hq
      show xx_go (xt_P z) (d + 2) 145 200 [some (.ref h.length), some (.int (iI f)), some (.int (iI 0)), some (.int (iI (A 37 0))), some (.int (iI (A 37 1)))] [.int (iI t)] (mh h R I1 A1 N1) _
      exact go_r rfl rfl rfl rfl rfl rfl (Or.inr ⟨t, I1, A1, N1, rfl, rfl, X, Z1, t0, t1, t7, fun q => by omega, fun c9 => by rw [ef, show mcl 8 = 8 from rfl, vl_8, DM_n tn, tv, nu_nof hS hT a0 a1, nu_nof hS hT b1.1 b1.2]; refine congrArg (fun x => some (Int.Internal.Linear.Expr.num x)) ?_; split <;> omega⟩)
    · refine go_a (pc' := 182) (ls' := [some (.ref h.length), some (.int (iI f)), some (.int (iI 0)), some (.int (iI (A 37 0))), some (.int (iI (A 37 1)))]) (st' := [.ref h.length, .ref h.length]) rfl rfl ?_
      refine go_a (pc' := 183) (ls' := [some (.ref h.length), some (.int (iI f)), some (.int (iI 0)), some (.int (iI (A 37 0))), some (.int (iI (A 37 1)))]) (st' := [.int (iI (A 37 0)), .ref h.length, .ref h.length]) rfl rfl ?_
      refine go_v (m := 147) (as := [.ref h.length, .int (iI (A 37 0))]) (r := [.ref h.length]) rfl rfl rfl mh_o rfl rfl (mm_numberOf z d (A 37 0) h R I A N hc hS a0 a1) (fun v h1 hq => ?_)
      obtain ⟨rfl, rfl⟩ := hq
      show xx_go (xt_P z) (d + 2) 145 186 [some (.ref h.length), some (.int (iI f)), some (.int (iI 0)), some (.int (iI (A 37 0))), some (.int (iI (A 37 1)))] [.long (Int64.ofInt (nof A N (A 37 0))), .ref h.length] (mh h R I A N) _
      refine go_a (pc' := 187) (ls' := [some (.ref h.length), some (.int (iI f)), some (.int (iI 0)), some (.int (iI (A 37 0))), some (.int (iI (A 37 1)))]) (st' := [.ref h.length, .long (Int64.ofInt (nof A N (A 37 0))), .ref h.length]) rfl rfl ?_
      refine go_a (pc' := 189) (ls' := [some (.ref h.length), some (.int (iI f)), some (.int (iI 0)), some (.int (iI (A 37 0))), some (.int (iI (A 37 1)))]) (st' := [.int (iI (A 37 1)), .ref h.length, .long (Int64.ofInt (nof A N (A 37 0))), .ref h.length]) rfl rfl ?_
      refine go_v (m := 147) (as := [.ref h.length, .int (iI (A 37 1))]) (r := [.long (Int64.ofInt (nof A N (A 37 0))), .ref h.length]) rfl rfl rfl mh_o rfl rfl (mm_numberOf z d (A 37 1) h R I A N hc hS b1.1 b1.2) (fun v h1 hq => ?_)
      obtain ⟨rfl, rfl⟩ := hq
      show xx_go (xt_P z) (d + 2) 145 192 [some (.ref h.length), some (.int (iI f)), some (.int (iI 0)), some (.int (iI (A 37 0))), some (.int (iI (A 37 1)))] [.long (Int64.ofInt (nof A N (A 37 1))), .long (Int64.ofInt (nof A N (A 37 0))), .ref h.length] (mh h R I A N) _
      refine mi_lsub rfl ?_
      refine go_a (pc' := 197) (ls' := [some (.ref h.length), some (.int (iI f)), some (.int (iI 0)), some (.int (iI (A 37 0))), some (.int (iI (A 37 1)))]) (st' := [.long (Int64.ofInt ((nof A N (A 37 0)) - (nof A N (A 37 1)))), .ref h.length]) rfl rfl ?_
      refine go_v (m := 93) (as := [.ref h.length, .long (Int64.ofInt ((nof A N (A 37 0)) - (nof A N (A 37 1))))]) (r := []) rfl rfl rfl mh_o rfl rfl (mm_naturalB F G z d (nof A N (A 37 0) - nof A N (A 37 1)) ar h R I A N hc hS hZ ho (by omega) (by omega)) (fun v h1 hq => ?_)
      obtain ⟨t, I1, A1, N1, rfl, rfl, X, Z1, t0, t1, t7, tn, tv⟩ := hq
      show xx_go (xt_P z) (d + 2) 145 200 [some (.ref h.length), some (.int (iI f)), some (.int (iI 0)), some (.int (iI (A 37 0))), some (.int (iI (A 37 1)))] [.int (iI t)] (mh h R I1 A1 N1) _
      exact go_r rfl rfl rfl rfl rfl rfl (Or.inr ⟨t, I1, A1, N1, rfl, rfl, X, Z1, t0, t1, t7, fun q => by omega, fun c9 => by rw [ef, show mcl 8 = 8 from rfl, vl_8, DM_n tn, tv, nu_nof hS hT a0 a1, nu_nof hS hT b1.1 b1.2, if_neg (by omega)]⟩)
  · have b1 := b0 (by omega)
    have n1 := nof_rng hS (A 37 0)
    have n2 := nof_rng hS (A 37 1)
    refine mi_ts (c := 9) (t := 201) rfl ef rfl ?_
    refine go_a (pc' := 202) (ls' := [some (.ref h.length), some (.int (iI f)), some (.int (iI 0)), some (.int (iI (A 37 0))), some (.int (iI (A 37 1)))]) (st' := [.ref h.length]) rfl rfl ?_
    refine go_a (pc' := 203) (ls' := [some (.ref h.length), some (.int (iI f)), some (.int (iI 0)), some (.int (iI (A 37 0))), some (.int (iI (A 37 1)))]) (st' := [.int (iI (A 37 0)), .ref h.length]) rfl rfl ?_
    refine go_v (m := 147) (as := [.ref h.length, .int (iI (A 37 0))]) (r := []) rfl rfl rfl mh_o rfl rfl (mm_numberOf z d (A 37 0) h R I A N hc hS a0 a1) (fun v h1 hq => ?_)
    obtain ⟨rfl, rfl⟩ := hq
    show xx_go (xt_P z) (d + 2) 145 206 [some (.ref h.length), some (.int (iI f)), some (.int (iI 0)), some (.int (iI (A 37 0))), some (.int (iI (A 37 1)))] [.long (Int64.ofInt (nof A N (A 37 0)))] (mh h R I A N) _
    refine go_a (pc' := 207) (ls' := [some (.ref h.length), some (.int (iI f)), some (.int (iI 0)), some (.int (iI (A 37 0))), some (.int (iI (A 37 1)))]) (st' := [.ref h.length, .long (Int64.ofInt (nof A N (A 37 0)))]) rfl rfl ?_
    refine go_a (pc' := 209) (ls' := [some (.ref h.length), some (.int (iI f)), some (.int (iI 0)), some (.int (iI (A 37 0))), some (.int (iI (A 37 1)))]) (st' := [.int (iI (A 37 1)), .ref h.length, .long (Int64.ofInt (nof A N (A 37 0)))]) rfl rfl ?_
    refine go_v (m := 147) (as := [.ref h.length, .int (iI (A 37 1))]) (r := [.long (Int64.ofInt (nof A N (A 37 0)))]) rfl rfl rfl mh_o rfl rfl (mm_numberOf z d (A 37 1) h R I A N hc hS b1.1 b1.2) (fun v h1 hq => ?_)
    obtain ⟨rfl, rfl⟩ := hq
    show xx_go (xt_P z) (d + 2) 145 212 [some (.ref h.length), some (.int (iI f)), some (.int (iI 0)), some (.int (iI (A 37 0))), some (.int (iI (A 37 1)))] [.long (Int64.ofInt (nof A N (A 37 1))), .long (Int64.ofInt (nof A N (A 37 0)))] (mh h R I A N) _
    refine mi_lc_ge (t := 220) rfl rfl rfl (by omega) (by omega) (by omega) (by omega) (fun e9 => ?_) (fun e9 => ?_)
    · refine go_a (pc' := 221) (ls' := [some (.ref h.length), some (.int (iI f)), some (.int (iI 0)), some (.int (iI (A 37 0))), some (.int (iI (A 37 1)))]) (st' := [.int (iI 0)]) rfl rfl ?_
      refine go_s (m := 146) (as := [.int (iI 0)]) (r := []) rfl rfl rfl rfl (mm_truth z (d + 1) 0 _ (by omega)) (fun v h1 hq => ?_)
      obtain ⟨⟨t, rfl, ht, tb⟩, rfl⟩ := hq
      show xx_go (xt_P z) (d + 2) 145 224 [some (.ref h.length), some (.int (iI f)), some (.int (iI 0)), some (.int (iI (A 37 0))), some (.int (iI (A 37 1)))] [.int (iI t)] (mh h R I A N) _
      exact go_r rfl rfl rfl rfl rfl rfl (Or.inr ⟨t, I, A, N, rfl, rfl, BX_rf hS, hZ, by omega, by omega, by omega, fun q => by omega, fun c9 => by rw [ef, show mcl 9 = 9 from rfl, vl_9]; exact congrArg some (tr_DM hT tb (by omega) (by rw [nu_nof hS hT a0 a1, nu_nof hS hT b1.1 b1.2]; omega))⟩)
    · refine go_a (pc' := 217) (ls' := [some (.ref h.length), some (.int (iI f)), some (.int (iI 0)), some (.int (iI (A 37 0))), some (.int (iI (A 37 1)))]) (st' := [.int (iI 1)]) rfl rfl ?_
      refine go_a (pc' := 221) (ls' := [some (.ref h.length), some (.int (iI f)), some (.int (iI 0)), some (.int (iI (A 37 0))), some (.int (iI (A 37 1)))]) (st' := [.int (iI 1)]) rfl rfl ?_
      refine go_s (m := 146) (as := [.int (iI 1)]) (r := []) rfl rfl rfl rfl (mm_truth z (d + 1) 1 _ (by omega)) (fun v h1 hq => ?_)
      obtain ⟨⟨t, rfl, ht, tb⟩, rfl⟩ := hq
      show xx_go (xt_P z) (d + 2) 145 224 [some (.ref h.length), some (.int (iI f)), some (.int (iI 0)), some (.int (iI (A 37 0))), some (.int (iI (A 37 1)))] [.int (iI t)] (mh h R I A N) _
      exact go_r rfl rfl rfl rfl rfl rfl (Or.inr ⟨t, I, A, N, rfl, rfl, BX_rf hS, hZ, by omega, by omega, by omega, fun q => by omega, fun c9 => by rw [ef, show mcl 9 = 9 from rfl, vl_9]; exact congrArg some (tr_DM hT tb (by omega) (by rw [nu_nof hS hT a0 a1, nu_nof hS hT b1.1 b1.2]; omega))⟩)
  · refine mi_ts (c := 10) (t := 225) rfl ef rfl ?_
    refine go_a (pc' := 226) (ls' := [some (.ref h.length), some (.int (iI f)), some (.int (iI 0)), some (.int (iI (A 37 0))), some (.int (iI (A 37 1)))]) (st' := [.ref h.length]) rfl rfl ?_
    refine go_a (pc' := 227) (ls' := [some (.ref h.length), some (.int (iI f)), some (.int (iI 0)), some (.int (iI (A 37 0))), some (.int (iI (A 37 1)))]) (st' := [.int (iI (A 37 0)), .ref h.length]) rfl rfl ?_
    refine go_v (m := 96) (as := [.ref h.length, .int (iI (A 37 0))]) (r := []) rfl rfl rfl mh_o rfl rfl (mb_isPair z (d + 1) (A 37 0) h R I A N hc hP a0 a1) (fun v h1 hq => ?_)
    obtain ⟨⟨b, rfl, hb⟩, rfl⟩ := hq
    show xx_go (xt_P z) (d + 2) 145 230 [some (.ref h.length), some (.int (iI f)), some (.int (iI 0)), some (.int (iI (A 37 0))), some (.int (iI (A 37 1)))] [.int (iI b)] (mh h R I A N) _
    refine go_s (m := 146) (as := [.int (iI b)]) (r := []) rfl rfl rfl rfl (mm_truth z (d + 1) b _ (by omega)) (fun v h1 hq => ?_)
    obtain ⟨⟨t, rfl, ht, tb⟩, rfl⟩ := hq
    show xx_go (xt_P z) (d + 2) 145 233 [some (.ref h.length), some (.int (iI f)), some (.int (iI 0)), some (.int (iI (A 37 0))), some (.int (iI (A 37 1)))] [.int (iI t)] (mh h R I A N) _
    exact go_r rfl rfl rfl rfl rfl rfl (Or.inr ⟨t, I, A, N, rfl, rfl, BX_rf hS, hZ, by omega, by omega, by omega, fun q => by omega, fun c9 => by rw [ef, show mcl 10 = 10 from rfl, vl_10]; exact congrArg some (tr_DM hT tb (by omega) (by rw [(kind_iff hS hT a0 a1).1]; omega))⟩)
  · refine mi_ts (c := 11) (t := 234) rfl ef rfl ?_
    refine go_a (pc' := 235) (ls' := [some (.ref h.length), some (.int (iI f)), some (.int (iI 0)), some (.int (iI (A 37 0))), some (.int (iI (A 37 1)))]) (st' := [.ref h.length]) rfl rfl ?_
    refine go_a (pc' := 236) (ls' := [some (.ref h.length), some (.int (iI f)), some (.int (iI 0)), some (.int (iI (A 37 0))), some (.int (iI (A 37 1)))]) (st' := [.int (iI (A 37 0)), .ref h.length]) rfl rfl ?_
    refine go_v (m := 96) (as := [.ref h.length, .int (iI (A 37 0))]) (r := []) rfl rfl rfl mh_o rfl rfl (mb_isPair z (d + 1) (A 37 0) h R I A N hc hP a0 a1) (fun v h1 hq => ?_)
    obtain ⟨⟨b, rfl, hb⟩, rfl⟩ := hq
    show xx_go (xt_P z) (d + 2) 145 239 [some (.ref h.length), some (.int (iI f)), some (.int (iI 0)), some (.int (iI (A 37 0))), some (.int (iI (A 37 1)))] [.int (iI b)] (mh h R I A N) _
    refine mi_eq0 (t := 251) rfl rfl (by omega) (by omega) (fun e9 => ?_) (fun e9 => ?_)
    · refine go_a (pc' := 252) (ls' := [some (.ref h.length), some (.int (iI f)), some (.int (iI 0)), some (.int (iI (A 37 0))), some (.int (iI (A 37 1)))]) (st' := [.int (iI 0)]) rfl rfl ?_
      exact go_r rfl rfl rfl rfl rfl rfl (Or.inr ⟨0, I, A, N, rfl, rfl, BX_rf hS, hZ, by omega, by omega, by omega, fun q => by omega, fun c9 => by rw [ef, show mcl 11 = 11 from rfl, vl_11, ((car_DM hS hT a0 a1).2 (by omega)).1]⟩)
    · have q2 := qa.2.2.2.2 (by omega)
      refine go_a (pc' := 243) (ls' := [some (.ref h.length), some (.int (iI f)), some (.int (iI 0)), some (.int (iI (A 37 0))), some (.int (iI (A 37 1)))]) (st' := [.ref h.length]) rfl rfl ?_
      refine go_get rfl mh_o rfl rfl ?_
      refine go_a (pc' := 247) (ls' := [some (.ref h.length), some (.int (iI f)), some (.int (iI 0)), some (.int (iI (A 37 0))), some (.int (iI (A 37 1)))]) (st' := [.int (iI (A 37 0)), .ref (h.length + 1)]) rfl rfl ?_
      refine mi_ild rfl mh_a1 (by omega) (by omega) (by decide) ?_
      refine go_a (pc' := 252) (ls' := [some (.ref h.length), some (.int (iI f)), some (.int (iI 0)), some (.int (iI (A 37 0))), some (.int (iI (A 37 1)))]) (st' := [.int (iI (A 1 (A 37 0)))]) rfl rfl ?_
      exact go_r rfl rfl rfl rfl rfl rfl (Or.inr ⟨A 1 (A 37 0), I, A, N, rfl, rfl, BX_rf hS, hZ, by omega, by omega, by omega, fun q => by omega, fun c9 => by rw [ef, show mcl 11 = 11 from rfl, vl_11, ((car_DM hS hT a0 a1).1 (by omega)).1]⟩)
  · refine mi_ts (c := 12) (t := 253) rfl ef rfl ?_
    refine go_a (pc' := 254) (ls' := [some (.ref h.length), some (.int (iI f)), some (.int (iI 0)), some (.int (iI (A 37 0))), some (.int (iI (A 37 1)))]) (st' := [.ref h.length]) rfl rfl ?_
    refine go_a (pc' := 255) (ls' := [some (.ref h.length), some (.int (iI f)), some (.int (iI 0)), some (.int (iI (A 37 0))), some (.int (iI (A 37 1)))]) (st' := [.int (iI (A 37 0)), .ref h.length]) rfl rfl ?_
    refine go_v (m := 96) (as := [.ref h.length, .int (iI (A 37 0))]) (r := []) rfl rfl rfl mh_o rfl rfl (mb_isPair z (d + 1) (A 37 0) h R I A N hc hP a0 a1) (fun v h1 hq => ?_)
    obtain ⟨⟨b, rfl, hb⟩, rfl⟩ := hq
    show xx_go (xt_P z) (d + 2) 145 258 [some (.ref h.length), some (.int (iI f)), some (.int (iI 0)), some (.int (iI (A 37 0))), some (.int (iI (A 37 1)))] [.int (iI b)] (mh h R I A N) _
    refine mi_eq0 (t := 270) rfl rfl (by omega) (by omega) (fun e9 => ?_) (fun e9 => ?_)
    · refine go_a (pc' := 271) (ls' := [some (.ref h.length), some (.int (iI f)), some (.int (iI 0)), some (.int (iI (A 37 0))), some (.int (iI (A 37 1)))]) (st' := [.int (iI 0)]) rfl rfl ?_
      exact go_r rfl rfl rfl rfl rfl rfl (Or.inr ⟨0, I, A, N, rfl, rfl, BX_rf hS, hZ, by omega, by omega, by omega, fun q => by omega, fun c9 => by rw [ef, show mcl 12 = 12 from rfl, vl_12, ((car_DM hS hT a0 a1).2 (by omega)).2]⟩)
    · have q2 := qa.2.2.2.2 (by omega)
      refine go_a (pc' := 262) (ls' := [some (.ref h.length), some (.int (iI f)), some (.int (iI 0)), some (.int (iI (A 37 0))), some (.int (iI (A 37 1)))]) (st' := [.ref h.length]) rfl rfl ?_
      refine go_get rfl mh_o rfl rfl ?_
      refine go_a (pc' := 266) (ls' := [some (.ref h.length), some (.int (iI f)), some (.int (iI 0)), some (.int (iI (A 37 0))), some (.int (iI (A 37 1)))]) (st' := [.int (iI (A 37 0)), .ref (h.length + 2)]) rfl rfl ?_
      refine mi_ild rfl mh_a2 (by omega) (by omega) (by decide) ?_
      refine go_a (pc' := 271) (ls' := [some (.ref h.length), some (.int (iI f)), some (.int (iI 0)), some (.int (iI (A 37 0))), some (.int (iI (A 37 1)))]) (st' := [.int (iI (A 2 (A 37 0)))]) rfl rfl ?_
      exact go_r rfl rfl rfl rfl rfl rfl (Or.inr ⟨A 2 (A 37 0), I, A, N, rfl, rfl, BX_rf hS, hZ, by omega, by omega, by omega, fun q => by omega, fun c9 => by rw [ef, show mcl 12 = 12 from rfl, vl_12, ((car_DM hS hT a0 a1).1 (by omega)).2]⟩)
  · refine mi_ts (c := 13) (t := 272) rfl ef rfl ?_
    refine go_a (pc' := 273) (ls' := [some (.ref h.length), some (.int (iI f)), some (.int (iI 0)), some (.int (iI (A 37 0))), some (.int (iI (A 37 1)))]) (st' := [.ref h.length]) rfl rfl ?_
    refine go_a (pc' := 274) (ls' := [some (.ref h.length), some (.int (iI f)), some (.int (iI 0)), some (.int (iI (A 37 0))), some (.int (iI (A 37 1)))]) (st' := [.int (iI (A 37 0)), .ref h.length]) rfl rfl ?_
    refine go_v (m := 110) (as := [.ref h.length, .int (iI (A 37 0))]) (r := []) rfl rfl rfl mh_o rfl rfl (mb_isNatural z (d + 1) (A 37 0) h R I A N hc hP a0 a1) (fun v h1 hq => ?_)
    obtain ⟨⟨b, rfl, hb⟩, rfl⟩ := hq
    show xx_go (xt_P z) (d + 2) 145 277 [some (.ref h.length), some (.int (iI f)), some (.int (iI 0)), some (.int (iI (A 37 0))), some (.int (iI (A 37 1)))] [.int (iI b)] (mh h R I A N) _
    refine go_s (m := 146) (as := [.int (iI b)]) (r := []) rfl rfl rfl rfl (mm_truth z (d + 1) b _ (by omega)) (fun v h1 hq => ?_)
    obtain ⟨⟨t, rfl, ht, tb⟩, rfl⟩ := hq
    show xx_go (xt_P z) (d + 2) 145 280 [some (.ref h.length), some (.int (iI f)), some (.int (iI 0)), some (.int (iI (A 37 0))), some (.int (iI (A 37 1)))] [.int (iI t)] (mh h R I A N) _
    exact go_r rfl rfl rfl rfl rfl rfl (Or.inr ⟨t, I, A, N, rfl, rfl, BX_rf hS, hZ, by omega, by omega, by omega, fun q => by omega, fun c9 => by rw [ef, show mcl 13 = 13 from rfl, vl_13]; exact congrArg some (tr_DM hT tb (by omega) (by rw [(kind_iff hS hT a0 a1).2.1]; omega))⟩)
  · refine mi_ts (c := 14) (t := 281) rfl ef rfl ?_
    refine go_a (pc' := 282) (ls' := [some (.ref h.length), some (.int (iI f)), some (.int (iI 0)), some (.int (iI (A 37 0))), some (.int (iI (A 37 1)))]) (st' := [.ref h.length]) rfl rfl ?_
    refine go_a (pc' := 283) (ls' := [some (.ref h.length), some (.int (iI f)), some (.int (iI 0)), some (.int (iI (A 37 0))), some (.int (iI (A 37 1)))]) (st' := [.int (iI (A 37 0)), .ref h.length]) rfl rfl ?_
    refine go_v (m := 101) (as := [.ref h.length, .int (iI (A 37 0))]) (r := []) rfl rfl rfl mh_o rfl rfl (mb_isSymbol z (d + 1) (A 37 0) h R I A N hc hP a0 a1) (fun v h1 hq => ?_)
    obtain ⟨⟨b, rfl, hb⟩, rfl⟩ := hq
    show xx_go (xt_P z) (d + 2) 145 286 [some (.ref h.length), some (.int (iI f)), some (.int (iI 0)), some (.int (iI (A 37 0))), some (.int (iI (A 37 1)))] [.int (iI b)] (mh h R I A N) _
    refine go_s (m := 146) (as := [.int (iI b)]) (r := []) rfl rfl rfl rfl (mm_truth z (d + 1) b _ (by omega)) (fun v h1 hq => ?_)
    obtain ⟨⟨t, rfl, ht, tb⟩, rfl⟩ := hq
    show xx_go (xt_P z) (d + 2) 145 289 [some (.ref h.length), some (.int (iI f)), some (.int (iI 0)), some (.int (iI (A 37 0))), some (.int (iI (A 37 1)))] [.int (iI t)] (mh h R I A N) _
    exact go_r rfl rfl rfl rfl rfl rfl (Or.inr ⟨t, I, A, N, rfl, rfl, BX_rf hS, hZ, by omega, by omega, by omega, fun q => by omega, fun c9 => by rw [ef, show mcl 14 = 14 from rfl, vl_14]; exact congrArg some (tr_DM hT tb (by omega) (by rw [(kind_iff hS hT a0 a1).2.2]; omega))⟩)
  · refine mi_ts (c := 15) (t := 302) rfl ef rfl ?_
    refine go_a (pc' := 303) (ls' := [some (.ref h.length), some (.int (iI f)), some (.int (iI 0)), some (.int (iI (A 37 0))), some (.int (iI (A 37 1)))]) (st' := [.int (iI (A 37 0))]) rfl rfl ?_
    refine mi_ne0 (t := 310) rfl rfl (by omega) (by omega) (fun e9 => ?_) (fun e9 => ?_)
    · refine go_a (pc' := 311) (ls' := [some (.ref h.length), some (.int (iI f)), some (.int (iI 0)), some (.int (iI (A 37 0))), some (.int (iI (A 37 1)))]) (st' := [.int (iI 0)]) rfl rfl ?_
      refine go_s (m := 146) (as := [.int (iI 0)]) (r := []) rfl rfl rfl rfl (mm_truth z (d + 1) 0 _ (by omega)) (fun v h1 hq => ?_)
      obtain ⟨⟨t, rfl, ht, tb⟩, rfl⟩ := hq
      show xx_go (xt_P z) (d + 2) 145 314 [some (.ref h.length), some (.int (iI f)), some (.int (iI 0)), some (.int (iI (A 37 0))), some (.int (iI (A 37 1)))] [.int (iI t)] (mh h R I A N) _
      exact go_r rfl rfl rfl rfl rfl rfl (Or.inr ⟨t, I, A, N, rfl, rfl, BX_rf hS, hZ, by omega, by omega, by omega, fun q => by omega, fun c9 => by rw [ef, show mcl 15 = 16 from rfl, vl_16]; exact congrArg some (tr_DM hT tb (by omega) (by rw [nil_0 hS hN hT a0 a1]; omega))⟩)
    · refine go_a (pc' := 307) (ls' := [some (.ref h.length), some (.int (iI f)), some (.int (iI 0)), some (.int (iI (A 37 0))), some (.int (iI (A 37 1)))]) (st' := [.int (iI 1)]) rfl rfl ?_
      refine go_a (pc' := 311) (ls' := [some (.ref h.length), some (.int (iI f)), some (.int (iI 0)), some (.int (iI (A 37 0))), some (.int (iI (A 37 1)))]) (st' := [.int (iI 1)]) rfl rfl ?_
      refine go_s (m := 146) (as := [.int (iI 1)]) (r := []) rfl rfl rfl rfl (mm_truth z (d + 1) 1 _ (by omega)) (fun v h1 hq => ?_)
      obtain ⟨⟨t, rfl, ht, tb⟩, rfl⟩ := hq
      show xx_go (xt_P z) (d + 2) 145 314 [some (.ref h.length), some (.int (iI f)), some (.int (iI 0)), some (.int (iI (A 37 0))), some (.int (iI (A 37 1)))] [.int (iI t)] (mh h R I A N) _
      exact go_r rfl rfl rfl rfl rfl rfl (Or.inr ⟨t, I, A, N, rfl, rfl, BX_rf hS, hZ, by omega, by omega, by omega, fun q => by omega, fun c9 => by rw [ef, show mcl 15 = 16 from rfl, vl_16]; exact congrArg some (tr_DM hT tb (by omega) (by rw [nil_0 hS hN hT a0 a1]; omega))⟩)
  · refine mi_ts (c := 16) (t := 290) rfl ef rfl ?_
    refine go_a (pc' := 291) (ls' := [some (.ref h.length), some (.int (iI f)), some (.int (iI 0)), some (.int (iI (A 37 0))), some (.int (iI (A 37 1)))]) (st' := [.ref h.length]) rfl rfl ?_
    refine go_a (pc' := 292) (ls' := [some (.ref h.length), some (.int (iI f)), some (.int (iI 0)), some (.int (iI (A 37 0))), some (.int (iI (A 37 1)))]) (st' := [.ref h.length, .ref h.length]) rfl rfl ?_
    refine go_get rfl mh_o rfl rfl ?_
    refine go_a (pc' := 296) (ls' := [some (.ref h.length), some (.int (iI f)), some (.int (iI 0)), some (.int (iI (A 37 0))), some (.int (iI (A 37 1)))]) (st' := [.int (iI (A 37 0)), .ref (h.length + 5), .ref h.length]) rfl rfl ?_
    refine mi_ild rfl mh_a5 (by omega) (by omega) (by decide) ?_
    refine mi_i2l rfl (by omega) (by omega) ?_
    refine go_v (m := 93) (as := [.ref h.length, .long (Int64.ofInt (A 5 (A 37 0)))]) (r := []) rfl rfl rfl mh_o rfl rfl (mm_naturalB F G z d (A 5 (A 37 0)) ar h R I A N hc hS hZ ho (by omega) (by omega)) (fun v h1 hq => ?_)
    obtain ⟨t, I1, A1, N1, rfl, rfl, X, Z1, t0, t1, t7, tn, tv⟩ := hq
    show xx_go (xt_P z) (d + 2) 145 301 [some (.ref h.length), some (.int (iI f)), some (.int (iI 0)), some (.int (iI (A 37 0))), some (.int (iI (A 37 1)))] [.int (iI t)] (mh h R I1 A1 N1) _
    exact go_r rfl rfl rfl rfl rfl rfl (Or.inr ⟨t, I1, A1, N1, rfl, rfl, X, Z1, t0, t1, t7, fun q => by omega, fun c9 => by rw [ef, show mcl 16 = 15 from rfl, vl_15, DM_n tn, tv, H_sp hS hT _ _ (Nat.lt_succ_self _) a0 a1]⟩)

