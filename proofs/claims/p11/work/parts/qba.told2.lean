def CON (A : Nat → Int → Int) (x : Int) : Prop := A 1 x = -1 ∨ x = 0 ∨ x = 1 ∨ (A 1 x = 2 ∧ 0 ≤ A 1 (A 2 x) ∧ A 2 (A 2 x) = 0)
theorem CON_val {I : Nat → Int} {A : Nat → Int → Int} {x : Int} (hN : NM I A) (h : CON A x) : 0 ≤ A 1 x → 0 ≤ A 1 (A 2 x) := by
  intro p
  rcases h with h | h | h | h
  · omega
  · rw [h, hN.2 0 (by decide) (by decide)] at p
    omega
  · rw [h, hN.2 1 (by decide) (by decide)] at p
    omega
  · exact h.2.1
def FV (j : Nat) : Prop := j = 65
def GV (a : Nat) : Prop := a = 37
theorem vl_un {i : Int} (i0 : 10 ≤ i) (i1 : i ≤ 16) (a b c b2 c2 : ob_T) : sp_vl i a b c = sp_vl i a b2 c2 := by
  have cs : i = 10 ∨ i = 11 ∨ i = 12 ∨ i = 13 ∨ i = 14 ∨ i = 15 ∨ i = 16 := by omega
  rcases cs with h | h | h | h | h | h | h <;> rw [h]
  · rw [vl_10, vl_10]
  · rw [vl_11, vl_11]
  · rw [vl_12, vl_12]
  · rw [vl_13, vl_13]
  · rw [vl_14, vl_14]
  · rw [vl_15, vl_15]
  · rw [vl_16, vl_16]
theorem mcl_R {f : Int} (f0 : 10 ≤ f) (f1 : f ≤ 16) : 10 ≤ mcl f ∧ mcl f ≤ 16 := by
  unfold mcl
  split
  · omega
  · split <;> omega
def FTM (ft : Nat → Int) : Prop := (∀ x : Nat, 3 ≤ x → x ≤ 16 → 0 ≤ ft (mNm.getD x 0) ∧ ft (mNm.getD x 0) / 32 = mcl x) ∧ ∀ v : Nat, 0 ≤ ft v → (∀ x : Nat, 3 ≤ x → x ≤ 16 → v ≠ mNm.getD x 0) → 17 ≤ ft v / 32
theorem as_li : ∀ L : List ob_T, sp_as (sp_li L) = L
  | [] => rfl
  | a :: r => by
    show a :: sp_as (sp_li r) = _
    rw [as_li r]
section TDS
variable {I : Nat → Int} {A : Nat → Int → Int} {N : Int → Int} {ar : Int → Int} {ft : Nat → Int} {u : Int}
theorem ic_CON (hS : MST I A N) (hN : NM I A) (hT : TRX I A N) {x : Int} (x0 : 0 ≤ x) (x1 : x < I 7) (hp : A 1 x = 2 → 0 ≤ A 1 (A 2 x) ∧ A 2 (A 2 x) = 0) : sp_ic (DM A N x) = true ↔ CON A x := by
  unfold CON
  by_cases e : A 1 x < 0
  · have b := ba_0 hS hN hT x0 x1
    have h : sp_ic (DM A N x) = sp_ba (DM A N x) := by
      rcases DM_at hS x0 x1 e with ⟨-, n, q⟩ | ⟨-, v, q⟩
      · rw [q]
        rfl
      · rw [q]
        rfl
    rw [h, b]
    omega
  · have q0 := (MST_PW hS).2 x x0 x1
    have q2 := q0.2.2.2.2 (by omega)
    have iq := isq_2 hS hN hT (k := A 1 x) (by omega) (by omega)
    have z0 := hN.2 0 (by decide) (by decide)
    have z1 := hN.2 1 (by decide) (by decide)
    have n0 : x ≠ 0 := fun h => by rw [h, z0] at e; omega
    have n1 : x ≠ 1 := fun h => by rw [h, z1] at e; omega
    rw [DM_pr hS hT x0 x1 (by omega)]
    show sp_isq (DM A N (A 1 x)) = true ↔ _
    rw [iq]
    constructor
    · intro h
      exact Or.inr (Or.inr (Or.inr ⟨h, hp h⟩))
    · intro h
      omega
theorem qv_vl (hS : MST I A N) (hN : NM I A) (hT : TRX I A N) {x : Int} (x0 : 0 ≤ x) (x1 : x < I 7) (h : CON A x) : sp_qv (DM A N x) = DM A N (vl A x) := by
  unfold vl
  by_cases e : A 1 x < 0
  · rw [if_neg (by omega)]
    rcases DM_at hS x0 x1 e with ⟨-, n, q⟩ | ⟨-, v, q⟩
    · rw [q]
      rfl
    · rw [q]
      rfl
  · have c := CON_val hN h (by omega)
    have q0 := (MST_PW hS).2 x x0 x1
    have q2 := q0.2.2.2.2 (by omega)
    rw [if_pos (by omega), DM_pr hS hT x0 x1 (by omega), DM_pr hS hT (k := A 2 x) (by omega) (by omega) c]
    rfl
theorem va_nocall (hS : MST I A N) (hN : NM I A) (hT : TRX I A N) (u0 : 0 ≤ u) (u1 : u < I 7) (h : ¬ (0 ≤ A 1 u ∧ A 1 u ≠ 2)) : sp_va ft (DM A N u) = none := by
  by_cases e : A 1 u < 0
  · rcases DM_at hS u0 u1 e with ⟨-, n, q⟩ | ⟨-, v, q⟩
    · rw [q]
      rfl
    · rw [q]
      rfl
  · rw [DM_pr hS hT u0 u1 (by omega), show A 1 u = 2 by omega, DM_2 hT]
    show (if sp_isq (.var 85168940) = false ∧ ft 85168940 / 32 < 17 ∧ ∀ a ∈ sp_as (DM A N (A 2 u)), sp_ic a = true then sp_vl (ft 85168940 / 32) (sp_qv ((sp_as (DM A N (A 2 u))).getD 0 (.var 31361))) (sp_qv ((sp_as (DM A N (A 2 u))).getD 1 (.var 31361))) (sp_qv ((sp_as (DM A N (A 2 u))).getD 2 (.var 31361))) else none) = none
    rw [if_neg (fun q => absurd q.1 (by decide))]
theorem va_call (hS : MST I A N) (hN : NM I A) (hT : TRX I A N) (u0 : 0 ≤ u) (u1 : u < I 7) (cl : 0 ≤ A 1 u ∧ A 1 u ≠ 2) (hs : A 1 (A 1 u) = -2) {m : Nat} (hL : isL A m (A 2 u)) : ∃ v : Nat, DM A N (A 1 u) = .var v ∧ sp_va ft (DM A N u) = @ite _ (ft v / 32 < 17 ∧ ∀ j : Nat, j < m → sp_ic (DM A N (A 1 (rt A j (A 2 u)))) = true) (Classical.propDecidable _) (sp_vl (ft v / 32) (sp_qv (((List.range m).map (fun j => DM A N (A 1 (rt A j (A 2 u))))).getD 0 (.var 31361))) (sp_qv (((List.range m).map (fun j => DM A N (A 1 (rt A j (A 2 u))))).getD 1 (.var 31361))) (sp_qv (((List.range m).map (fun j => DM A N (A 1 (rt A j (A 2 u))))).getD 2 (.var 31361)))) none := by
  have q0 := (MST_PW hS).2 u u0 u1
  have q2 := q0.2.2.2.2 cl.1
  have iq := isq_f hS hN hT (k := A 1 u) (by omega) (by omega) cl.2
  refine ⟨_, DM_s hs, ?_⟩
  rw [DM_s hs] at iq
  rw [DM_pr hS hT u0 u1 cl.1, DM_s hs, DM_li hS hT m (A 2 u) (by omega) (by omega) hL]
  generalize (wcf (A 8) (A 9 (A 2 (A 1 u))).toNat (12 * A 2 (A 1 u)) 0).toNat = v at iq ⊢
  show (if sp_isq (.var v) = false ∧ ft v / 32 < 17 ∧ ∀ a ∈ sp_as (sp_li ((List.range m).map (fun j => DM A N (A 1 (rt A j (A 2 u)))))), sp_ic a = true then sp_vl (ft v / 32) (sp_qv ((sp_as (sp_li ((List.range m).map (fun j => DM A N (A 1 (rt A j (A 2 u))))))).getD 0 (.var 31361))) (sp_qv ((sp_as (sp_li ((List.range m).map (fun j => DM A N (A 1 (rt A j (A 2 u))))))).getD 1 (.var 31361))) (sp_qv ((sp_as (sp_li ((List.range m).map (fun j => DM A N (A 1 (rt A j (A 2 u))))))).getD 2 (.var 31361))) else none) = _
  rw [as_li]
  have e : (∀ a ∈ (List.range m).map (fun j => DM A N (A 1 (rt A j (A 2 u)))), sp_ic a = true) ↔ ∀ j : Nat, j < m → sp_ic (DM A N (A 1 (rt A j (A 2 u)))) = true := by
    constructor
    · intro h j hj
      exact h _ (List.mem_map.mpr ⟨j, List.mem_range.mpr hj, rfl⟩)
    · intro h a ha
      obtain ⟨j, hj, rfl⟩ := List.mem_map.mp ha
      exact h j (List.mem_range.mp hj)
  by_cases c : ft v / 32 < 17 ∧ ∀ j : Nat, j < m → sp_ic (DM A N (A 1 (rt A j (A 2 u)))) = true
  · rw [if_pos ⟨iq, c.1, e.mpr c.2⟩, if_pos c]
  · rw [if_neg (fun q => c ⟨q.2.1, e.mp q.2.2⟩), if_neg c]
theorem gD_at {f : Nat → ob_T} {m j : Nat} {x : ob_T} (h : j < m) : ((List.range m).map f).getD j x = f j := by
  rw [List.getD_eq_getElem?_getD, List.getElem?_map, List.getElem?_range h]
  rfl
theorem LS_items (hP : PW I A) (n0 : A 1 0 < 0) : ∀ (m : Nat) (l : Int), 0 ≤ l → l < I 7 → isL A m l → 0 ≤ LSq A ar l → ∀ j : Nat, j < m → 1 ≤ TS A ar (A 1 (rt A j l))
  | m + 1, l, l0, l1, hL, hs, j, hj => by
    have q0 := hP.2 l l0 l1
    have q2 := q0.2.2.2.2 hL.1
    have lz : 0 < l := by
      by_cases c : l = 0
      · have := hL.1
        rw [c] at this
        omega
      · omega
    rw [LS_pair hP lz l1 hL.1] at hs
    have d : 1 ≤ TS A ar (A 1 l) ∧ 0 ≤ LSq A ar (A 2 l) := by
      by_cases c : 1 ≤ TS A ar (A 1 l) ∧ 0 ≤ LSq A ar (A 2 l)
      · exact c
      · rw [if_neg c] at hs
        omega
    match j, hj with
    | 0, _ => exact d.1
    | j + 1, hj => exact LS_items hP n0 m (A 2 l) (by omega) (by omega) hL.2 d.2 j (by omega)
theorem TS_pq {k : Int} (h : 1 ≤ TS A ar k) (e : A 1 k = 2) : 0 ≤ A 1 (A 2 k) ∧ A 2 (A 2 k) = 0 := by
  rw [TS_quote e] at h
  by_cases c : 0 ≤ A 1 (A 2 k) ∧ A 2 (A 2 k) = 0
  · exact c
  · rw [if_neg c] at h
    omega
theorem TS_LS (hP : PW I A) (u0 : 0 ≤ u) (u1 : u < I 7) (cl : 0 ≤ A 1 u ∧ A 1 u ≠ 2) (h : 1 ≤ TS A ar u) : 0 ≤ LSq A ar (A 2 u) ∧ CZ A ar (A 2 u) = ar (A 1 u) := by
  rw [TS_call hP u0 u1 cl.1 cl.2] at h
  by_cases c : 0 ≤ LSq A ar (A 2 u) ∧ CZ A ar (A 2 u) = ar (A 1 u)
  · exact c
  · rw [if_neg c] at h
    omega
theorem va_all (hS : MST I A N) (hN : NM I A) (hT : TRX I A N) (hA : ART ar ft I A N) (hF : FTM ft) (u0 : 0 ≤ u) (u1 : u < I 7) (cl : 0 ≤ A 1 u ∧ A 1 u ≠ 2) (hs : 1 ≤ TS A ar u) {m : Nat} (hL : isL A m (A 2 u)) : (16 < A 1 u → sp_va ft (DM A N u) = none) ∧ ((∃ j : Nat, j < m ∧ ¬ CON A (A 1 (rt A j (A 2 u)))) → sp_va ft (DM A N u) = none) ∧ (3 ≤ A 1 u → A 1 u ≤ 16 → (∀ j : Nat, j < m → CON A (A 1 (rt A j (A 2 u)))) → ∃ y z : ob_T, sp_va ft (DM A N u) = sp_vl (mcl (A 1 u)) (if 0 < m then DM A N (vl A (A 1 (rt A 0 (A 2 u)))) else .var 31361) (if 1 < m then DM A N (vl A (A 1 (rt A 1 (A 2 u)))) else y) (if 2 < m then DM A N (vl A (A 1 (rt A 2 (A 2 u)))) else z)) := by
  have hP := MST_PW hS
  have n7 := hN.1
  have n0 : A 1 0 < 0 := by rw [hN.2 0 (by decide) (by decide)]; decide
  have q0 := hP.2 u u0 u1
  have q2 := q0.2.2.2.2 cl.1
  have ls := TS_LS hP u0 u1 cl hs
  have cz := CZ_nn (ar := ar) hP _ (A 2 u) (Nat.lt_succ_self _) (by omega) (by omega)
  have af := hA (A 1 u) cl.1 (by omega)
  have hs2 : A 1 (A 1 u) = -2 ∧ ∀ v : Nat, DM A N (A 1 u) = .var v → 0 ≤ ft v := by
    by_cases c : A 1 (A 1 u) < 0
    · rcases DM_at hS cl.1 (by omega) c with ⟨-, n, q⟩ | ⟨k, v, q⟩
      · rw [q] at af
        have af : ar (A 1 u) = -1 := af
        omega
      · refine ⟨k, fun v2 e => ?_⟩
        rw [e] at af
        have af : ar (A 1 u) = if ft v2 < 0 then -1 else ft v2 / 4 % 8 := af
        by_cases d : ft v2 < 0
        · rw [if_pos d] at af
          omega
        · omega
    · have p0 := hP.2 (A 1 u) cl.1 (by omega)
      have p2 := p0.2.2.2.2 (by omega)
      rw [DM_pr hS hT cl.1 (by omega) (by omega)] at af
      have af : ar (A 1 u) = -1 := af
      omega
  obtain ⟨v, ev, hv⟩ := va_call (ft := ft) hS hN hT u0 u1 cl hs2.1 hL
  have v0 := hs2.2 v ev
  have it : ∀ j : Nat, j < m → (0 ≤ A 1 (rt A j (A 2 u)) ∧ A 1 (rt A j (A 2 u)) < I 7) ∧ 1 ≤ TS A ar (A 1 (rt A j (A 2 u))) := fun j hj => by
    have r := isL_rt hP m j (A 2 u) (by omega) (by omega) hL hj
    have p0 := hP.2 _ r.1 (by omega : rt A j (A 2 u) < I 7)
    exact ⟨⟨r.2.2, by omega⟩, LS_items hP n0 m (A 2 u) (by omega) (by omega) hL ls.1 j hj⟩
  have ic : ∀ j : Nat, j < m → (sp_ic (DM A N (A 1 (rt A j (A 2 u)))) = true ↔ CON A (A 1 (rt A j (A 2 u)))) := fun j hj => ic_CON hS hN hT (it j hj).1.1 (it j hj).1.2 (TS_pq (it j hj).2)
  refine ⟨fun h => ?_, fun h => ?_, fun h3 h16 hC => ?_⟩
  · have w := hF.2 v v0 (fun x x3 x16 e => by
      have := (DM_nm hS hN hT cl.1 (by omega) (x := x) (by omega)).mp (by rw [ev, e])
      omega)
    rw [hv, if_neg (fun q => by omega)]
  · obtain ⟨j, hj, hn⟩ := h
    rw [hv, if_neg (fun q => hn ((ic j hj).mp (q.2 j hj)))]
  · have vx : v = mNm.getD (A 1 u).toNat 0 := by
      have := (DM_nm hS hN hT cl.1 (by omega) (x := (A 1 u).toNat) (by omega)).mpr (by omega)
      rw [ev] at this
      injection this
    have fx := hF.1 (A 1 u).toNat (by omega) (by omega)
    rw [← vx, show (((A 1 u).toNat : Nat) : Int) = A 1 u by omega] at fx
    have mc : mcl (A 1 u) < 17 := by
      unfold mcl
      split
      · omega
      · split <;> omega
    rw [hv, if_pos ⟨by rw [fx.2]; exact mc, fun j hj => (ic j hj).mpr (hC j hj)⟩, fx.2]
    have ga : ∀ j : Nat, j < m → sp_qv (((List.range m).map (fun j => DM A N (A 1 (rt A j (A 2 u))))).getD j (.var 31361)) = DM A N (vl A (A 1 (rt A j (A 2 u)))) := fun j hj => by
      rw [gD_at hj]
      exact qv_vl hS hN hT (it j hj).1.1 (it j hj).1.2 (hC j hj)
    have gn : ∀ j : Nat, ¬ j < m → sp_qv (((List.range m).map (fun j => DM A N (A 1 (rt A j (A 2 u))))).getD j (.var 31361)) = .var 31361 := fun j hj => by
      rw [List.getD_eq_getElem?_getD, List.getElem?_eq_none (by rw [List.length_map, List.length_range]; omega)]
      rfl
    refine ⟨.var 31361, .var 31361, ?_⟩
    have g3 : ∀ j : Nat, sp_qv (((List.range m).map (fun j => DM A N (A 1 (rt A j (A 2 u))))).getD j (.var 31361)) = if j < m then DM A N (vl A (A 1 (rt A j (A 2 u)))) else .var 31361 := fun j => by
      by_cases c : j < m
      · rw [if_pos c, ga j c]
      · rw [if_neg c, gn j c]
    rw [g3, g3, g3]
end TDS
theorem mm_areCon_loop (z : Value) (d : Nat) (u : Int) (h R : xx_H) (I : Nat → Int) (A : Nat → Int → Int) (N : Int → Int) (hc : 12 ≤ h.length) (hP : PW I A) (n0 : A 1 0 < 0) : ∀ (m : Nat) (k : Int), 0 ≤ k → k < I 7 → isL A m k → xx_go (xt_P z) (d + 3) 142 7 [some (.ref h.length), some (.int (iI u)), some (.int (iI k))] [] (mh h R I A N) (fun v h1 => ((v = some (.int (iI 0)) ∧ ∃ j : Nat, j < m ∧ ¬ CON A (A 1 (rt A j k))) ∨ (v = some (.int (iI 1)) ∧ ∀ j : Nat, j < m → CON A (A 1 (rt A j k)))) ∧ h1 = mh h R I A N) := by
  have p1 := hP.1
  intro m
  induction m with
  | zero =>
    intro k k0 k1 hL
    have e : k = 0 := hL
    subst e
    refine go_a (pc' := 8) (ls' := [some (.ref h.length), some (.int (iI u)), some (.int (iI 0))]) (st' := [.int (iI 0)]) rfl rfl ?_
    refine mi_eq0 (t := 36) rfl rfl (by omega) (by omega) (fun _ => ?_) (fun e => absurd rfl e)
    refine go_a (pc' := 37) (ls' := [some (.ref h.length), some (.int (iI u)), some (.int (iI 0))]) (st' := [.int (iI 1)]) rfl rfl ?_
    exact go_r rfl rfl rfl rfl rfl rfl ⟨Or.inr ⟨rfl, fun j hj => absurd hj (by omega)⟩, rfl⟩
  | succ m ih =>
    intro k k0 k1 hL
    have pk := hL.1
    have q := hP.2 k k0 k1
    have q2 := q.2.2.2.2 pk
    have kz : k ≠ 0 := by
      intro e
      rw [e] at pk
      omega
    refine go_a (pc' := 8) (ls' := [some (.ref h.length), some (.int (iI u)), some (.int (iI k))]) (st' := [.int (iI k)]) rfl rfl ?_
    refine mi_eq0 (t := 36) rfl rfl (by omega) (by omega) (fun e => absurd e kz) (fun _ => ?_)
    refine go_a (pc' := 12) (ls' := [some (.ref h.length), some (.int (iI u)), some (.int (iI k))]) (st' := [.ref h.length]) rfl rfl ?_
    refine go_a (pc' := 13) (ls' := [some (.ref h.length), some (.int (iI u)), some (.int (iI k))]) (st' := [.ref h.length, .ref h.length]) rfl rfl ?_
    refine go_get rfl mh_o rfl rfl ?_
    refine go_a (pc' := 17) (ls' := [some (.ref h.length), some (.int (iI u)), some (.int (iI k))]) (st' := [.int (iI k), .ref (h.length + 1), .ref h.length]) rfl rfl ?_
    refine mi_ild rfl mh_a1 (by omega) (by omega) (by decide) ?_
    refine go_v (m := 126) (as := [.ref h.length, .int (iI (A 1 k))]) (r := []) rfl rfl rfl mh_o rfl rfl (mb_isConstant z d (A 1 k) h R I A N hc hP pk (by omega)) (fun v h1 hq => ?_)
    obtain ⟨⟨b, rfl, hb⟩, rfl⟩ := hq
    have br : b = 0 ∨ b = 1 := by
      rcases hb with hb | hb
      · exact Or.inr hb.1
      · exact Or.inl hb.1
    show xx_go (xt_P z) (d + 3) 142 21 [some (.ref h.length), some (.int (iI u)), some (.int (iI k))] [.int (iI b)] (mh h R I A N) _
    refine mi_ne0 (t := 26) rfl rfl (by omega) (by omega) (fun e => ?_) (fun e => ?_)
    · have cn : CON A (A 1 k) := by
        rcases hb with hb | hb
        · exact hb.2
        · exact absurd hb.1 e
      refine go_a (pc' := 27) (ls' := [some (.ref h.length), some (.int (iI u)), some (.int (iI k))]) (st' := [.ref h.length]) rfl rfl ?_
      refine go_get rfl mh_o rfl rfl ?_
      refine go_a (pc' := 31) (ls' := [some (.ref h.length), some (.int (iI u)), some (.int (iI k))]) (st' := [.int (iI k), .ref (h.length + 2)]) rfl rfl ?_
      refine mi_ild rfl mh_a2 (by omega) (by omega) (by decide) ?_
      refine go_a (pc' := 33) (ls' := [some (.ref h.length), some (.int (iI u)), some (.int (iI (A 2 k)))]) (st' := []) rfl rfl ?_
      refine go_a (pc' := 7) (ls' := [some (.ref h.length), some (.int (iI u)), some (.int (iI (A 2 k)))]) (st' := []) rfl rfl ?_
      refine go_w (fun v h1 hq => ?_) (ih (A 2 k) (by omega) (by omega) hL.2)
      refine ⟨?_, hq.2⟩
      rcases hq.1 with hq | hq
      · obtain ⟨hq, j, hj, hn⟩ := hq
        exact Or.inl ⟨hq, j + 1, by omega, hn⟩
      · refine Or.inr ⟨hq.1, fun j hj => ?_⟩
        match j, hj with
        | 0, _ => exact cn
        | j + 1, hj => exact hq.2 j (by omega)
    · have nc : ¬ CON A (A 1 k) := by
        rcases hb with hb | hb
        · omega
        · exact hb.2
      refine go_a (pc' := 25) (ls' := [some (.ref h.length), some (.int (iI u)), some (.int (iI k))]) (st' := [.int (iI 0)]) rfl rfl ?_
      exact go_r rfl rfl rfl rfl rfl rfl ⟨Or.inl ⟨rfl, 0, by omega, nc⟩, rfl⟩
theorem mm_areConstants (z : Value) (d m : Nat) (u : Int) (h R : xx_H) (I : Nat → Int) (A : Nat → Int → Int) (N : Int → Int) (hc : 12 ≤ h.length) (hP : PW I A) (n0 : A 1 0 < 0) (k0 : 0 ≤ u) (k1 : u < I 7) (e0 : 0 ≤ A 2 u) (e1 : A 2 u < I 7) (hL : isL A m (A 2 u)) : xx_cl (xt_P z) (d + 4) 142 [.ref h.length, .int (iI u)] (mh h R I A N) (fun v h1 => ((v = some (.int (iI 0)) ∧ ∃ j : Nat, j < m ∧ ¬ CON A (A 1 (rt A j (A 2 u)))) ∨ (v = some (.int (iI 1)) ∧ ∀ j : Nat, j < m → CON A (A 1 (rt A j (A 2 u))))) ∧ h1 = mh h R I A N) := by
  have p1 := hP.1
  refine cl_go rfl ?_
  show xx_go (xt_P z) (d + 3) 142 0 [some (.ref h.length), some (.int (iI u)), none] [] (mh h R I A N) _
  refine go_a (pc' := 1) (ls' := [some (.ref h.length), some (.int (iI u)), none]) (st' := [.ref h.length]) rfl rfl ?_
  refine go_get rfl mh_o rfl rfl ?_
  refine go_a (pc' := 5) (ls' := [some (.ref h.length), some (.int (iI u)), none]) (st' := [.int (iI u), .ref (h.length + 2)]) rfl rfl ?_
  refine mi_ild rfl mh_a2 (by omega) (by omega) (by decide) ?_
  refine go_a (pc' := 7) (ls' := [some (.ref h.length), some (.int (iI u)), some (.int (iI (A 2 u)))]) (st' := []) rfl rfl ?_
  exact mm_areCon_loop z d u h R I A N hc hP n0 m (A 2 u) e0 e1 hL
theorem mm_conVal_loop (z : Value) (d m : Nat) (ar : Int → Int) (u f : Int) (h R : xx_H) (I : Nat → Int) (A : Nat → Int → Int) (N : Int → Int) (hc : 12 ≤ h.length) (hS : MST I A N) (hN : NM I A) (hZ : SZI ar I A) (hT : TRX I A N) (ho : I 7 < 140000) (f4 : 4 ≤ f) (f16 : f ≤ 16) (e0 : 0 ≤ A 2 u) (e1 : A 2 u < I 7) (hL : isL A m (A 2 u)) (m3 : m ≤ 3) (m1 : 1 ≤ m) (m2 : f ≤ 9 → 2 ≤ m) (hC : ∀ j : Nat, j < m → CON A (A 1 (rt A j (A 2 u)))) : ∀ (n c : Nat) (I1 : Nat → Int) (A1 : Nat → Int → Int), c + n = m → ((∀ j : Nat, j ≠ 65 → I1 j = I j) ∧ ∀ a : Nat, a ≠ 37 → A1 a = A a) → I1 65 = c → (∀ e : Nat, e < c → A1 37 e = vl A (A 1 (rt A e (A 2 u)))) → xx_go (xt_P z) (d + 4) 144 12 [some (.ref h.length), some (.int (iI u)), some (.int (iI f)), some (.int (iI (rt A c (A 2 u))))] [] (mh h R I1 A1 N) (fun v h1 => ∃ (t : Int) (I1 : Nat → Int) (A1 : Nat → Int → Int) (N1 : Int → Int), v = some (.int (iI t)) ∧ h1 = mh h R I1 A1 N1 ∧ BX FV GV I A N I1 A1 N1 ∧ SZI ar I1 A1 ∧ I1 7 ≤ I 7 + 1 ∧ ((t = -1 ∧ f = 7 ∧ 4611686018427387903 < nof A N (vl A (A 1 (rt A 0 (A 2 u)))) + nof A N (vl A (A 1 (rt A 1 (A 2 u))))) ∨ ((0 ≤ t ∧ t < I1 7) ∧ (f = 7 → nof A N (vl A (A 1 (rt A 0 (A 2 u)))) + nof A N (vl A (A 1 (rt A 1 (A 2 u)))) ≤ 4611686018427387903) ∧ (f ≤ 9 → ∀ c9 : ob_T, sp_vl (mcl f) (DM A N (vl A (A 1 (rt A 0 (A 2 u))))) (DM A N (vl A (A 1 (rt A 1 (A 2 u))))) c9 = some (DM A1 N1 t)) ∧ (10 ≤ f → ∀ b9 c9 : ob_T, sp_vl (mcl f) (DM A N (vl A (A 1 (rt A 0 (A 2 u))))) b9 c9 = some (DM A1 N1 t))))) := by
  have hP := MST_PW hS
  have p1 := hP.1
  have n0 : A 1 0 < 0 := by rw [hN.2 0 (by decide) (by decide)]; decide
  have vr : ∀ e : Nat, e < m → 0 ≤ vl A (A 1 (rt A e (A 2 u))) ∧ vl A (A 1 (rt A e (A 2 u))) < I 7 := fun e he => by
    have r := isL_rt hP m e (A 2 u) e0 e1 hL he
    have q := hP.2 _ r.1 (by omega : rt A e (A 2 u) < I 7)
    exact vl_rng hP r.2.2 (by omega) (CON_val hN (hC e he))
  intro n
  induction n with
  | zero =>
    intro c I1 A1 cm X e65 hv
    have e7 : I1 7 = I 7 := X.1 7 (by decide)
    have f1 : A1 1 = A 1 := X.2 1 (by decide)
    have ez : rt A c (A 2 u) = 0 := by
      rw [show c = m by omega]
      exact isL_end m _ hL
    have S1 : MST I1 A1 N := MST_congr hS e7 (X.1 10 (by decide)) f1 (X.2 2 (by decide)) (X.2 3 (by decide)) (X.2 4 (by decide)) (X.2 5 (by decide)) (X.2 7 (by decide)) (X.2 8 (by decide)) (X.2 9 (by decide))
    have N1 : NM I1 A1 := ⟨by rw [e7]; exact hN.1, fun k k0 k1 => by rw [f1]; exact hN.2 k k0 k1⟩
    have Z1 : SZI ar I1 A1 := SZI_124 hZ f1 (X.2 2 (by decide)) (X.2 4 (by decide)) e7
    have B1 : BX FV GV I A N I1 A1 N := ⟨S1, by omega, fun k _ _ => ⟨by rw [f1], by rw [X.2 2 (by decide)], rfl, fun e => by rw [X.2 4 (by decide)]; exact e⟩, fun j _ q => X.1 j (fun e => q e), fun a _ _ _ _ _ _ q => X.2 a (fun e => q e)⟩
    have g0 : A1 37 0 = vl A (A 1 (rt A 0 (A 2 u))) := hv 0 (by omega)
    have r0 := vr 0 (by omega)
    have nofx : ∀ x : Int, nof A1 N x = nof A N x := fun x => by unfold nof; rw [f1]
    have g1 : f ≤ 9 → A1 37 1 = vl A (A 1 (rt A 1 (A 2 u))) := fun q => hv 1 (by have := m2 q; omega)
    have r1 : f ≤ 9 → 0 ≤ vl A (A 1 (rt A 1 (A 2 u))) ∧ vl A (A 1 (rt A 1 (A 2 u))) < I 7 := fun q => vr 1 (by have := m2 q; omega)
    rw [ez]
    refine go_a (pc' := 13) (ls' := [some (.ref h.length), some (.int (iI u)), some (.int (iI f)), some (.int (iI 0))]) (st' := [.int (iI 0)]) rfl rfl ?_
    refine mi_eq0 (t := 55) rfl rfl (by omega) (by omega) (fun _ => ?_) (fun e => absurd rfl e)
    refine go_a (pc' := 56) (ls' := [some (.ref h.length), some (.int (iI u)), some (.int (iI f)), some (.int (iI 0))]) (st' := [.ref h.length]) rfl rfl ?_
    refine go_a (pc' := 57) (ls' := [some (.ref h.length), some (.int (iI u)), some (.int (iI f)), some (.int (iI 0))]) (st' := [.int (iI f), .ref h.length]) rfl rfl ?_
    refine go_a (pc' := 58) (ls' := [some (.ref h.length), some (.int (iI u)), some (.int (iI f)), some (.int (iI 0))]) (st' := [.int (iI 0), .int (iI f), .ref h.length]) rfl rfl ?_
    refine go_v (m := 145) (as := [.ref h.length, .int (iI f), .int (iI 0)]) (r := []) rfl rfl rfl mh_o rfl rfl (mm_basic FV GV (by unfold FV; omega) (by unfold GV; omega) (by unfold GV; omega) z (d + 1) ar f h R I1 A1 N hc S1 N1 Z1 (TRX_12 hT e7 f1 (X.2 2 (by decide)) (X.2 8 (by decide)) (X.2 9 (by decide))) (by omega) f4 f16 (by rw [g0]; exact r0.1) (by rw [g0]; omega) (fun q => by rw [g1 q]; have := r1 q; omega)) (fun v h1 hq => ?_)
    rcases hq with ⟨rfl, rfl, ef, es⟩ | ⟨t, I2, A2, N2, rfl, rfl, X2, Z2, t0, t1, t7, es, vs⟩
    · rw [nofx, nofx, g0, g1 (by omega)] at es
      show xx_go (xt_P z) (d + 4) 144 61 [some (.ref h.length), some (.int (iI u)), some (.int (iI f)), some (.int (iI 0))] [.int (iI ((-1)))] (mh h R I1 A1 N) _
      exact go_r rfl rfl rfl rfl rfl rfl ⟨-1, I1, A1, N, rfl, rfl, B1, Z1, by omega, Or.inl ⟨rfl, ef, es⟩⟩
    · rw [DM_12 (A := A) (A1 := A1) f1 (X.2 2 (by decide)) (X.2 8 (by decide)) (X.2 9 (by decide)), g0] at vs
      show xx_go (xt_P z) (d + 4) 144 61 [some (.ref h.length), some (.int (iI u)), some (.int (iI f)), some (.int (iI 0))] [.int (iI t)] (mh h R I2 A2 N2) _
      exact go_r rfl rfl rfl rfl rfl rfl ⟨t, I2, A2, N2, rfl, rfl, BX_tr B1 X2, Z2, by omega, Or.inr ⟨⟨t0, t1⟩, fun q => by have es := es q; rw [nofx, nofx, g0, g1 (by omega)] at es; exact es, fun q => by rw [g1 q] at vs; exact vs, fun q b9 c9 => by rw [← vs c9]; exact vl_un (mcl_R q f16).1 (mcl_R q f16).2 _ _ _ _ _⟩⟩
  | succ n ih =>
    intro c I1 A1 cm X e65 hv
    have rc := isL_rt hP m c (A 2 u) e0 e1 hL (by omega)
    have q := hP.2 _ rc.1 (by omega : rt A c (A 2 u) < I 7)
    have q2 := q.2.2.2.2 rc.2.2
    have kz : rt A c (A 2 u) ≠ 0 := by
      intro e
      rw [e] at rc
      omega
    have e7 : I1 7 = I 7 := X.1 7 (by decide)
    have f1 : A1 1 = A 1 := X.2 1 (by decide)
    have f2 : A1 2 = A 2 := X.2 2 (by decide)
    have P1 : PW I1 A1 := by
      unfold PW
      rw [e7, f1, f2]
      exact hP
    have ck := CON_val hN (hC c (by omega))
    have g1 : A1 1 (rt A c (A 2 u)) = A 1 (rt A c (A 2 u)) := by rw [f1]
    have g2 : A1 2 (rt A c (A 2 u)) = rt A (c + 1) (A 2 u) := by rw [f2, rt_succ]
    have vx : vl A1 = vl A := by
      funext k
      unfold vl
      rw [f1, f2]
    refine go_a (pc' := 13) (ls' := [some (.ref h.length), some (.int (iI u)), some (.int (iI f)), some (.int (iI (rt A c (A 2 u))))]) (st' := [.int (iI (rt A c (A 2 u)))]) rfl rfl ?_
    refine mi_eq0 (t := 55) rfl rfl (by omega) (by omega) (fun e => absurd e kz) (fun _ => ?_)
    refine go_a (pc' := 17) (ls' := [some (.ref h.length), some (.int (iI u)), some (.int (iI f)), some (.int (iI (rt A c (A 2 u))))]) (st' := [.ref h.length]) rfl rfl ?_
    refine go_get rfl mh_o rfl rfl ?_
    refine go_a (pc' := 21) (ls' := [some (.ref h.length), some (.int (iI u)), some (.int (iI f)), some (.int (iI (rt A c (A 2 u))))]) (st' := [.ref h.length, .ref (h.length + 37)]) rfl rfl ?_
    refine go_get (v := .int (iI (I1 65))) rfl mh_o rfl rfl ?_
    refine go_a (pc' := 25) (ls' := [some (.ref h.length), some (.int (iI u)), some (.int (iI f)), some (.int (iI (rt A c (A 2 u))))]) (st' := [.ref h.length, .int (iI (I1 65)), .ref (h.length + 37)]) rfl rfl ?_
    refine go_a (pc' := 26) (ls' := [some (.ref h.length), some (.int (iI u)), some (.int (iI f)), some (.int (iI (rt A c (A 2 u))))]) (st' := [.ref h.length, .ref h.length, .int (iI (I1 65)), .ref (h.length + 37)]) rfl rfl ?_
    refine go_get rfl mh_o rfl rfl ?_
    refine go_a (pc' := 30) (ls' := [some (.ref h.length), some (.int (iI u)), some (.int (iI f)), some (.int (iI (rt A c (A 2 u))))]) (st' := [.int (iI (rt A c (A 2 u))), .ref (h.length + 1), .ref h.length, .int (iI (I1 65)), .ref (h.length + 37)]) rfl rfl ?_
    refine mi_ild rfl mh_a1 (by omega) (by omega) (by decide) ?_
    rw [g1]
    refine go_v (m := 143) (as := [.ref h.length, .int (iI (A 1 (rt A c (A 2 u))))]) (r := [.int (iI (I1 65)), .ref (h.length + 37)]) rfl rfl rfl mh_o rfl rfl (mm_valueOf z (d + 2) (A 1 (rt A c (A 2 u))) h R I1 A1 N hc P1 rc.2.2 (by omega) (by rw [f1, f2]; exact ck)) (fun v h1 hq => ?_)
    obtain ⟨rfl, rfl⟩ := hq
    rw [vx]
    show xx_go (xt_P z) (d + 4) 144 34 [some (.ref h.length), some (.int (iI u)), some (.int (iI f)), some (.int (iI (rt A c (A 2 u))))] [.int (iI (vl A (A 1 (rt A c (A 2 u))))), .int (iI (I1 65)), .ref (h.length + 37)] (mh h R I1 A1 N) _
    refine mi_ist rfl mh_a37 (show 12 ≤ _ by omega) (by omega) (by omega) (by decide) ?_
    rw [mh_w37 (by omega)]
    refine go_a (pc' := 36) (ls' := [some (.ref h.length), some (.int (iI u)), some (.int (iI f)), some (.int (iI (rt A c (A 2 u))))]) (st' := [.ref h.length]) rfl rfl ?_
    refine go_a (pc' := 37) (ls' := [some (.ref h.length), some (.int (iI u)), some (.int (iI f)), some (.int (iI (rt A c (A 2 u))))]) (st' := [.ref h.length, .ref h.length]) rfl rfl ?_
    refine go_get (v := .int (iI (I1 65))) rfl mh_o rfl rfl ?_
    refine go_a (pc' := 41) (ls' := [some (.ref h.length), some (.int (iI u)), some (.int (iI f)), some (.int (iI (rt A c (A 2 u))))]) (st' := [.int (iI 1), .int (iI (I1 65)), .ref h.length]) rfl rfl ?_
    refine mi_add rfl ?_
    refine go_put (j := 65) rfl mh_o rfl rfl (show 12 ≤ _ from hc) (show 65 < 86 by decide) rfl rfl ?_
    rw [mh_p65]
    refine go_a (pc' := 46) (ls' := [some (.ref h.length), some (.int (iI u)), some (.int (iI f)), some (.int (iI (rt A c (A 2 u))))]) (st' := [.ref h.length]) rfl rfl ?_
    refine go_get rfl mh_o rfl rfl ?_
    refine go_a (pc' := 50) (ls' := [some (.ref h.length), some (.int (iI u)), some (.int (iI f)), some (.int (iI (rt A c (A 2 u))))]) (st' := [.int (iI (rt A c (A 2 u))), .ref (h.length + 2)]) rfl rfl ?_
    refine mi_ild rfl mh_a2 (by omega) (by omega) (by decide) ?_
    show xx_go (xt_P z) (d + 4) 144 51 [some (.ref h.length), some (.int (iI u)), some (.int (iI f)), some (.int (iI (rt A c (A 2 u))))] [.int (iI (A1 2 (rt A c (A 2 u))))] (mh h R (su I1 65 ((I1 65) + 1)) (sa A1 37 (I1 65) (vl A (A 1 (rt A c (A 2 u))))) N) _
    refine go_a (pc' := 52) (ls' := [some (.ref h.length), some (.int (iI u)), some (.int (iI f)), some (.int (iI (A1 2 (rt A c (A 2 u)))))]) (st' := []) rfl rfl ?_
    refine go_a (pc' := 12) (ls' := [some (.ref h.length), some (.int (iI u)), some (.int (iI f)), some (.int (iI (A1 2 (rt A c (A 2 u)))))]) (st' := []) rfl rfl ?_
    rw [g2]
    refine ih (c + 1) _ _ (by omega) ⟨fun j p => (su_ne p).trans (X.1 j p), fun a p => (sa_ne p).trans (X.2 a p)⟩ (show I1 65 + 1 = ((c + 1 : Nat) : Int) by omega) (fun e he => ?_)
    show sf (A1 37) (I1 65) (vl A (A 1 (rt A c (A 2 u)))) e = _
    by_cases w : e = c
    · rw [w, e65, sf_self]
    · rw [sf_ne (by omega)]
      exact hv e (by omega)
theorem mm_constantValue (z : Value) (d m : Nat) (ar : Int → Int) (u f : Int) (h R : xx_H) (I : Nat → Int) (A : Nat → Int → Int) (N : Int → Int) (hc : 12 ≤ h.length) (hS : MST I A N) (hN : NM I A) (hZ : SZI ar I A) (hT : TRX I A N) (ho : I 7 < 140000) (f4 : 4 ≤ f) (f16 : f ≤ 16) (e0 : 0 ≤ A 2 u) (e1 : A 2 u < I 7) (hL : isL A m (A 2 u)) (m3 : m ≤ 3) (m1 : 1 ≤ m) (m2 : f ≤ 9 → 2 ≤ m) (hC : ∀ j : Nat, j < m → CON A (A 1 (rt A j (A 2 u)))) (k0 : 0 ≤ u) (k1 : u < I 7) : xx_cl (xt_P z) (d + 5) 144 [.ref h.length, .int (iI u), .int (iI f)] (mh h R I A N) (fun v h1 => ∃ (t : Int) (I1 : Nat → Int) (A1 : Nat → Int → Int) (N1 : Int → Int), v = some (.int (iI t)) ∧ h1 = mh h R I1 A1 N1 ∧ BX FV GV I A N I1 A1 N1 ∧ SZI ar I1 A1 ∧ I1 7 ≤ I 7 + 1 ∧ ((t = -1 ∧ f = 7 ∧ 4611686018427387903 < nof A N (vl A (A 1 (rt A 0 (A 2 u)))) + nof A N (vl A (A 1 (rt A 1 (A 2 u))))) ∨ ((0 ≤ t ∧ t < I1 7) ∧ (f = 7 → nof A N (vl A (A 1 (rt A 0 (A 2 u)))) + nof A N (vl A (A 1 (rt A 1 (A 2 u)))) ≤ 4611686018427387903) ∧ (f ≤ 9 → ∀ c9 : ob_T, sp_vl (mcl f) (DM A N (vl A (A 1 (rt A 0 (A 2 u))))) (DM A N (vl A (A 1 (rt A 1 (A 2 u))))) c9 = some (DM A1 N1 t)) ∧ (10 ≤ f → ∀ b9 c9 : ob_T, sp_vl (mcl f) (DM A N (vl A (A 1 (rt A 0 (A 2 u))))) b9 c9 = some (DM A1 N1 t))))) := by
  have hP := MST_PW hS
  have p1 := hP.1
  refine cl_go rfl ?_
  show xx_go (xt_P z) (d + 4) 144 0 [some (.ref h.length), some (.int (iI u)), some (.int (iI f)), none] [] (mh h R I A N) _
  refine go_a (pc' := 1) (ls' := [some (.ref h.length), some (.int (iI u)), some (.int (iI f)), none]) (st' := [.ref h.length]) rfl rfl ?_
  refine go_a (pc' := 2) (ls' := [some (.ref h.length), some (.int (iI u)), some (.int (iI f)), none]) (st' := [.int (iI 0), .ref h.length]) rfl rfl ?_
  refine go_put (j := 65) rfl mh_o rfl rfl (show 12 ≤ _ from hc) (show 65 < 86 by decide) rfl rfl ?_
  rw [mh_p65]
  refine go_a (pc' := 6) (ls' := [some (.ref h.length), some (.int (iI u)), some (.int (iI f)), none]) (st' := [.ref h.length]) rfl rfl ?_
  refine go_get rfl mh_o rfl rfl ?_
  refine go_a (pc' := 10) (ls' := [some (.ref h.length), some (.int (iI u)), some (.int (iI f)), none]) (st' := [.int (iI u), .ref (h.length + 2)]) rfl rfl ?_
  refine mi_ild rfl mh_a2 (by omega) (by omega) (by decide) ?_
  refine go_a (pc' := 12) (ls' := [some (.ref h.length), some (.int (iI u)), some (.int (iI f)), some (.int (iI (A 2 u)))]) (st' := []) rfl rfl ?_
  exact mm_conVal_loop z d m ar u f h R I A N hc hS hN hZ hT ho f4 f16 e0 e1 hL m3 m1 m2 hC m 0 _ A (by omega) ⟨fun j p => su_ne p, fun _ _ => rfl⟩ rfl (fun e he => absurd he (by omega))
def TLD (A : Nat → Int → Int) (N : Int → Int) (ar : Int → Int) (u : Int) : Prop := (0 ≤ A 1 u ∧ A 1 u ≠ 2) ∧ A 1 u ≤ 16 ∧ (∀ j : Nat, (j : Int) < ar (A 1 u) → CON A (A 1 (rt A j (A 2 u)))) ∧ (A 1 u = 7 → nof A N (vl A (A 1 (rt A 0 (A 2 u)))) + nof A N (vl A (A 1 (rt A 1 (A 2 u)))) ≤ 4611686018427387903)
theorem mm_told (z : Value) (d : Nat) (ar : Int → Int) (ft : Nat → Int) (u : Int) (h R : xx_H) (I : Nat → Int) (A : Nat → Int → Int) (N : Int → Int) (hc : 12 ≤ h.length) (hS : MST I A N) (hN : NM I A) (hZ : SZI ar I A) (hT : TRX I A N) (hK : ART ar ft I A N) (hF : FTM ft) (hs : 1 ≤ TS A ar u) (hA : AR ar I A) (a01 : ar 0 = -1 ∧ ar 1 = -1) (ho : I 7 < 140000) (k0 : 0 ≤ u) (k1 : u < I 7) (k2 : 1 ≤ TZ A ar u) : xx_cl (xt_P z) (d + 6) 141 [.ref h.length, .int (iI u)] (mh h R I A N) (fun v h1 => ∃ (t : Int) (I1 : Nat → Int) (A1 : Nat → Int → Int) (N1 : Int → Int), v = some (.int (iI t)) ∧ h1 = mh h R I1 A1 N1 ∧ BX FV GV I A N I1 A1 N1 ∧ SZI ar I1 A1 ∧ I1 7 ≤ I 7 + 1 ∧ ((t = -1 ∧ ¬ TLD A N ar u ∧ sp_va ft (DM A N u) = none) ∨ ((0 ≤ t ∧ t < I1 7) ∧ TLD A N ar u ∧ sp_va ft (DM A N u) = some (DM A1 N1 t)))) := by
  have hP := MST_PW hS
  have p1 := hP.1
  have q := hP.2 u k0 k1
  have n0 : A 1 0 < 0 := by rw [hN.2 0 (by decide) (by decide)]; decide
  refine cl_go rfl ?_
  show xx_go (xt_P z) (d + 5) 141 0 [some (.ref h.length), some (.int (iI u))] [] (mh h R I A N) _
  refine go_a (pc' := 1) (ls' := [some (.ref h.length), some (.int (iI u))]) (st' := [.ref h.length]) rfl rfl ?_
  refine go_a (pc' := 2) (ls' := [some (.ref h.length), some (.int (iI u))]) (st' := [.int (iI u), .ref h.length]) rfl rfl ?_
  refine go_v (m := 116) (as := [.ref h.length, .int (iI u)]) (r := []) rfl rfl rfl mh_o rfl rfl (mb_isCall z (d + 3) u h R I A N hc hP k0 k1) (fun v h1 hq => ?_)
  obtain ⟨⟨b, rfl, hb⟩, rfl⟩ := hq
  show xx_go (xt_P z) (d + 5) 141 5 [some (.ref h.length), some (.int (iI u))] [.int (iI b)] (mh h R I A N) _
  refine mi_eq0 (t := 27) rfl rfl (by omega) (by omega) (fun e => ?_) (fun e => ?_)
  · refine go_a (pc' := 28) (ls' := [some (.ref h.length), some (.int (iI u))]) (st' := [.int (iI ((-1)))]) rfl rfl ?_
    exact go_r rfl rfl rfl rfl rfl rfl ⟨-1, I, A, N, rfl, rfl, BX_rf hS, hZ, by omega, Or.inl ⟨rfl, fun q => by have := q.1; omega, va_nocall hS hN hT k0 k1 (by omega)⟩⟩
  · have cl : 0 ≤ A 1 u ∧ A 1 u ≠ 2 := by omega
    have ta := TZ_args (ar := ar) hP n0 k0 k1 cl.1 cl.2 k2
    have va := va_all hS hN hT hK hF k0 k1 cl hs ta.2.1
    refine go_a (pc' := 9) (ls' := [some (.ref h.length), some (.int (iI u))]) (st' := [.ref h.length]) rfl rfl ?_
    refine go_get rfl mh_o rfl rfl ?_
    refine go_a (pc' := 13) (ls' := [some (.ref h.length), some (.int (iI u))]) (st' := [.int (iI u), .ref (h.length + 1)]) rfl rfl ?_
    refine mi_ild rfl mh_a1 (by omega) (by omega) (by decide) ?_
    refine go_a (pc' := 16) (ls' := [some (.ref h.length), some (.int (iI u))]) (st' := [.int (iI 16), .int (iI (A 1 u))]) rfl rfl ?_
    refine mi_gt (t := 27) rfl rfl (by omega) (by omega) (by omega) (by omega) (fun e2 => ?_) (fun e2 => ?_)
    · refine go_a (pc' := 28) (ls' := [some (.ref h.length), some (.int (iI u))]) (st' := [.int (iI ((-1)))]) rfl rfl ?_
      exact go_r rfl rfl rfl rfl rfl rfl ⟨-1, I, A, N, rfl, rfl, BX_rf hS, hZ, by omega, Or.inl ⟨rfl, fun q => by have := q.2.1; omega, va.1 (by omega)⟩⟩
    · have f3 : 3 ≤ A 1 u := by
        have a0 := ta.2.2.1
        by_cases z0 : A 1 u = 0
        · rw [z0, a01.1] at a0
          omega
        · by_cases z1 : A 1 u = 1
          · rw [z1, a01.2] at a0
            omega
          · omega
      refine go_a (pc' := 20) (ls' := [some (.ref h.length), some (.int (iI u))]) (st' := [.ref h.length]) rfl rfl ?_
      refine go_a (pc' := 21) (ls' := [some (.ref h.length), some (.int (iI u))]) (st' := [.int (iI u), .ref h.length]) rfl rfl ?_
      refine go_v (m := 142) (as := [.ref h.length, .int (iI u)]) (r := []) rfl rfl rfl mh_o rfl rfl (mm_areConstants z (d + 1) (ar (A 1 u)).toNat u h R I A N hc hP n0 k0 k1 ta.1.1 (by omega) ta.2.1) (fun v h1 hq => ?_)
      obtain ⟨hq, rfl⟩ := hq
      rcases hq with ⟨rfl, jn, hjn, hnc⟩ | ⟨rfl, hC⟩
      · show xx_go (xt_P z) (d + 5) 141 24 [some (.ref h.length), some (.int (iI u))] [.int (iI 0)] (mh h R I A N) _
        refine mi_ne0 (t := 29) rfl rfl (by omega) (by omega) (fun e3 => absurd rfl e3) (fun _ => ?_)
        refine go_a (pc' := 28) (ls' := [some (.ref h.length), some (.int (iI u))]) (st' := [.int (iI ((-1)))]) rfl rfl ?_
        exact go_r rfl rfl rfl rfl rfl rfl ⟨-1, I, A, N, rfl, rfl, BX_rf hS, hZ, by omega, Or.inl ⟨rfl, fun q => hnc (q.2.2.1 jn (by omega)), va.2.1 ⟨jn, hjn, hnc⟩⟩⟩
      · show xx_go (xt_P z) (d + 5) 141 24 [some (.ref h.length), some (.int (iI u))] [.int (iI 1)] (mh h R I A N) _
        refine mi_ne0 (t := 29) rfl rfl (by omega) (by omega) (fun _ => ?_) (fun e3 => e3 (by decide) |>.elim)
        refine go_a (pc' := 30) (ls' := [some (.ref h.length), some (.int (iI u))]) (st' := [.ref h.length]) rfl rfl ?_
        refine go_get rfl mh_o rfl rfl ?_
        refine go_a (pc' := 34) (ls' := [some (.ref h.length), some (.int (iI u))]) (st' := [.int (iI u), .ref (h.length + 1)]) rfl rfl ?_
        refine mi_ild rfl mh_a1 (by omega) (by omega) (by decide) ?_
        refine go_a (pc' := 36) (ls' := [some (.ref h.length), some (.int (iI u))]) (st' := [.int (iI 3), .int (iI (A 1 u))]) rfl rfl ?_
        refine mi_ne (t := 67) rfl rfl (by omega) (by omega) (by omega) (by omega) (fun e3 => ?_) (fun e3 => ?_)
        · have af : (A 1 u ≤ 9 → ar (A 1 u) = 2) ∧ (10 ≤ A 1 u → ar (A 1 u) = 1) := ⟨fun q => hA.1.2.1 _ (by omega) q, fun q => hA.1.2.2 _ q (by omega)⟩
          refine go_a (pc' := 68) (ls' := [some (.ref h.length), some (.int (iI u))]) (st' := [.ref h.length]) rfl rfl ?_
          refine go_a (pc' := 69) (ls' := [some (.ref h.length), some (.int (iI u))]) (st' := [.int (iI u), .ref h.length]) rfl rfl ?_
          refine go_a (pc' := 70) (ls' := [some (.ref h.length), some (.int (iI u))]) (st' := [.ref h.length, .int (iI u), .ref h.length]) rfl rfl ?_
          refine go_get rfl mh_o rfl rfl ?_
          refine go_a (pc' := 74) (ls' := [some (.ref h.length), some (.int (iI u))]) (st' := [.int (iI u), .ref (h.length + 1), .int (iI u), .ref h.length]) rfl rfl ?_
          refine mi_ild rfl mh_a1 (by omega) (by omega) (by decide) ?_
          refine go_v (m := 144) (as := [.ref h.length, .int (iI u), .int (iI (A 1 u))]) (r := []) rfl rfl rfl mh_o rfl rfl (mm_constantValue z d (ar (A 1 u)).toNat ar u (A 1 u) h R I A N hc hS hN hZ hT ho (by omega) (by omega) ta.1.1 (by omega) ta.2.1 (by omega) (by omega) (by omega) hC k0 k1) (fun v h1 hq => ?_)
          obtain ⟨t, I1, A1, N1, rfl, rfl, K1, K2, K3, K4⟩ := hq
          show xx_go (xt_P z) (d + 5) 141 78 [some (.ref h.length), some (.int (iI u))] [.int (iI t)] (mh h R I1 A1 N1) _
          refine go_r rfl rfl rfl rfl rfl rfl ⟨t, I1, A1, N1, rfl, rfl, K1, K2, K3, ?_⟩
          obtain ⟨y9, z9, vq⟩ := va.2.2 f3 (by omega) hC
          rw [if_pos (by omega)] at vq
          rcases K4 with K4 | K4
          · refine Or.inl ⟨K4.1, fun q => by have := q.2.2.2 K4.2.1; omega, ?_⟩
            have c9 := af.1 (by omega)
            have r9 : ∀ j : Nat, j < 2 → 0 ≤ vl A (A 1 (rt A j (A 2 u))) ∧ vl A (A 1 (rt A j (A 2 u))) < I 7 := fun j hj => by
              have r := ta.2.2.2.2.2 j (by omega)
              exact vl_rng hP r.1.1 r.1.2 (CON_val hN (hC j (by omega)))
            rw [vq, if_pos (by omega), K4.2.1, show mcl 7 = 7 from rfl, vl_7, nu_nof hS hT (r9 0 (by decide)).1 (r9 0 (by decide)).2, nu_nof hS hT (r9 1 (by decide)).1 (r9 1 (by decide)).2, if_pos K4.2.2]
          · refine Or.inr ⟨K4.1, ⟨cl, by omega, fun j hj => hC j (by omega), K4.2.1⟩, ?_⟩
            by_cases f9 : A 1 u ≤ 9
            · have c9 := af.1 f9
              rw [vq, if_pos (by omega)]
              exact K4.2.2.1 f9 _
            · rw [vq]
              exact K4.2.2.2 (by omega) _ _
        · have e3 : A 1 u = 3 := by omega
          have a3 : ar (A 1 u) = 3 := by rw [e3]; exact hA.1.1
          have q3 := TZ_three hP n0 k0 k1 cl.1 cl.2 a3 k2
          rw [a3] at hC ta
          have i1 := ta.2.2.2.2.2 0 (by decide)
          have i2 := ta.2.2.2.2.2 1 (by decide)
          have i3 := ta.2.2.2.2.2 2 (by decide)
          have L4 : isL A 4 u := ⟨cl.1, ta.2.1⟩
          have T1 : 0 ≤ A 1 (rt A 1 u) ∧ A 1 (rt A 1 u) < I 7 := i1.1
          have C1 : CON A (A 1 (rt A 1 u)) := hC 0 (by decide)
          refine go_a (pc' := 40) (ls' := [some (.ref h.length), some (.int (iI u))]) (st' := [.ref h.length]) rfl rfl ?_
          refine go_a (pc' := 41) (ls' := [some (.ref h.length), some (.int (iI u))]) (st' := [.ref h.length, .ref h.length]) rfl rfl ?_
          refine go_a (pc' := 42) (ls' := [some (.ref h.length), some (.int (iI u))]) (st' := [.int (iI u), .ref h.length, .ref h.length]) rfl rfl ?_
          refine go_a (pc' := 43) (ls' := [some (.ref h.length), some (.int (iI u))]) (st' := [.ref h.length, .int (iI u), .ref h.length, .ref h.length]) rfl rfl ?_
          refine go_a (pc' := 44) (ls' := [some (.ref h.length), some (.int (iI u))]) (st' := [.ref h.length, .ref h.length, .int (iI u), .ref h.length, .ref h.length]) rfl rfl ?_
          refine go_a (pc' := 45) (ls' := [some (.ref h.length), some (.int (iI u))]) (st' := [.int (iI u), .ref h.length, .ref h.length, .int (iI u), .ref h.length, .ref h.length]) rfl rfl ?_
          refine go_a (pc' := 46) (ls' := [some (.ref h.length), some (.int (iI u))]) (st' := [.int (iI 1), .int (iI u), .ref h.length, .ref h.length, .int (iI u), .ref h.length, .ref h.length]) rfl rfl ?_
          refine go_v (m := 124) (as := [.ref h.length, .int (iI u), .int (iI 1)]) (r := [.ref h.length, .int (iI u), .ref h.length, .ref h.length]) rfl rfl rfl mh_o rfl rfl (mm_term z (d + 3) 1 4 u h R I A N hc hP (by decide) k0 k1 L4 (by decide)) (fun v h1 hq => ?_)
          obtain ⟨rfl, rfl⟩ := hq
          show xx_go (xt_P z) (d + 5) 141 49 [some (.ref h.length), some (.int (iI u))] [.int (iI (A 1 (rt A 1 u))), .ref h.length, .int (iI u), .ref h.length, .ref h.length] (mh h R I A N) _
          refine go_v (m := 143) (as := [.ref h.length, .int (iI (A 1 (rt A 1 u)))]) (r := [.int (iI u), .ref h.length, .ref h.length]) rfl rfl rfl mh_o rfl rfl (mm_valueOf z (d + 3) (A 1 (rt A 1 u)) h R I A N hc hP T1.1 T1.2 (CON_val hN C1)) (fun v h1 hq => ?_)
          obtain ⟨rfl, rfl⟩ := hq
          have vr1 := vl_rng hP T1.1 T1.2 (CON_val hN C1)
          obtain ⟨y9, z9, vq⟩ := va.2.2 f3 (by omega) (fun j hj => hC j (by rw [a3] at hj; exact hj))
          rw [a3, if_pos (by decide), if_pos (by decide), if_pos (by decide), e3, show mcl 3 = 3 from rfl, vl_3] at vq
          have vq : sp_va ft (DM A N u) = some (ifc (DM A N (vl A (A 1 (rt A 1 u))) = .var 31361) (DM A N (vl A (A 1 (rt A 3 u)))) (DM A N (vl A (A 1 (rt A 2 u))))) := vq
          show xx_go (xt_P z) (d + 5) 141 52 [some (.ref h.length), some (.int (iI u))] [.int (iI (vl A (A 1 (rt A 1 u)))), .int (iI u), .ref h.length, .ref h.length] (mh h R I A N) _
          refine mi_ne0 (t := 59) rfl rfl (by omega) (by omega) (fun ez => ?_) (fun ez => ?_)
          · refine go_a (pc' := 60) (ls' := [some (.ref h.length), some (.int (iI u))]) (st' := [.int (iI 2), .int (iI u), .ref h.length, .ref h.length]) rfl rfl ?_
            have Tn : 0 ≤ A 1 (rt A 2 u) ∧ A 1 (rt A 2 u) < I 7 := i2.1
            have Cn : CON A (A 1 (rt A 2 u)) := hC 1 (by decide)
            refine go_v (m := 124) (as := [.ref h.length, .int (iI u), .int (iI 2)]) (r := [.ref h.length]) rfl rfl rfl mh_o rfl rfl (mm_term z (d + 3) 2 4 u h R I A N hc hP (by decide) k0 k1 L4 (by decide)) (fun v h1 hq => ?_)
            obtain ⟨rfl, rfl⟩ := hq
            show xx_go (xt_P z) (d + 5) 141 63 [some (.ref h.length), some (.int (iI u))] [.int (iI (A 1 (rt A 2 u))), .ref h.length] (mh h R I A N) _
            refine go_v (m := 143) (as := [.ref h.length, .int (iI (A 1 (rt A 2 u)))]) (r := []) rfl rfl rfl mh_o rfl rfl (mm_valueOf z (d + 3) (A 1 (rt A 2 u)) h R I A N hc hP Tn.1 Tn.2 (CON_val hN Cn)) (fun v h1 hq => ?_)
            obtain ⟨rfl, rfl⟩ := hq
            show xx_go (xt_P z) (d + 5) 141 66 [some (.ref h.length), some (.int (iI u))] [.int (iI (vl A (A 1 (rt A 2 u))))] (mh h R I A N) _
            exact go_r rfl rfl rfl rfl rfl rfl ⟨_, I, A, N, rfl, rfl, BX_rf hS, hZ, by omega, Or.inr ⟨vl_rng hP Tn.1 Tn.2 (CON_val hN Cn), ⟨cl, by omega, fun j hj => by rw [a3] at hj; exact hC j (by omega), fun q => by omega⟩, by rw [vq, ifc_neg (fun q => ez ((nil_0 hS hN hT vr1.1 vr1.2).mp q))]⟩⟩
          · refine go_a (pc' := 56) (ls' := [some (.ref h.length), some (.int (iI u))]) (st' := [.int (iI 3), .int (iI u), .ref h.length, .ref h.length]) rfl rfl ?_
            refine go_a (pc' := 60) (ls' := [some (.ref h.length), some (.int (iI u))]) (st' := [.int (iI 3), .int (iI u), .ref h.length, .ref h.length]) rfl rfl ?_
            have Tn : 0 ≤ A 1 (rt A 3 u) ∧ A 1 (rt A 3 u) < I 7 := i3.1
            have Cn : CON A (A 1 (rt A 3 u)) := hC 2 (by decide)
            refine go_v (m := 124) (as := [.ref h.length, .int (iI u), .int (iI 3)]) (r := [.ref h.length]) rfl rfl rfl mh_o rfl rfl (mm_term z (d + 3) 3 4 u h R I A N hc hP (by decide) k0 k1 L4 (by decide)) (fun v h1 hq => ?_)
            obtain ⟨rfl, rfl⟩ := hq
            show xx_go (xt_P z) (d + 5) 141 63 [some (.ref h.length), some (.int (iI u))] [.int (iI (A 1 (rt A 3 u))), .ref h.length] (mh h R I A N) _
            refine go_v (m := 143) (as := [.ref h.length, .int (iI (A 1 (rt A 3 u)))]) (r := []) rfl rfl rfl mh_o rfl rfl (mm_valueOf z (d + 3) (A 1 (rt A 3 u)) h R I A N hc hP Tn.1 Tn.2 (CON_val hN Cn)) (fun v h1 hq => ?_)
            obtain ⟨rfl, rfl⟩ := hq
            show xx_go (xt_P z) (d + 5) 141 66 [some (.ref h.length), some (.int (iI u))] [.int (iI (vl A (A 1 (rt A 3 u))))] (mh h R I A N) _
            exact go_r rfl rfl rfl rfl rfl rfl ⟨_, I, A, N, rfl, rfl, BX_rf hS, hZ, by omega, Or.inr ⟨vl_rng hP Tn.1 Tn.2 (CON_val hN Cn), ⟨cl, by omega, fun j hj => by rw [a3] at hj; exact hC j (by omega), fun q => by omega⟩, by rw [vq, ifc_pos ((nil_0 hS hN hT vr1.1 vr1.2).mpr (by omega))]⟩⟩

