theorem sp_vl_2 {i : Int} {a b c b1 c1 : ob_T} (h : 10 ≤ i) : sp_vl i a b c = sp_vl i a b1 c1 := by
  unfold sp_vl
  simp only [if_neg (show ¬ i = 3 by omega), if_neg (show ¬ i = 4 by omega), if_neg (show ¬ i = 5 by omega), if_neg (show ¬ i = 6 by omega), if_neg (show ¬ i = 7 by omega), if_neg (show ¬ i = 8 by omega), if_neg (show ¬ i = 9 by omega)]
theorem sp_vl_1 {i : Int} {a b c c1 : ob_T} (h : 4 ≤ i) : sp_vl i a b c = sp_vl i a b c1 := by
  unfold sp_vl
  simp only [if_neg (show ¬ i = 3 by omega)]
theorem sp_ba_c : ∀ (x : ob_T), sp_ic (sp_cs x) = true ∧ sp_qv (sp_cs x) = x
  | .num _ => ⟨rfl, rfl⟩
  | .add _ _ => ⟨rfl, rfl⟩
  | .sub _ _ => ⟨rfl, rfl⟩
  | .neg _ => ⟨rfl, rfl⟩
  | .mulL _ _ => ⟨rfl, rfl⟩
  | .mulR _ _ => ⟨rfl, rfl⟩
  | .var v => by
    unfold sp_cs
    by_cases c : sp_ba (.var v) = true
    · rw [if_pos c]
      exact ⟨c, rfl⟩
    · rw [if_neg c]
      exact ⟨rfl, rfl⟩
section VAS
variable {N : Int → Int} {U : Int} {ft : Nat → Int}
theorem TRT_cs1 (hI : HI ft) {L : List Int} {a : ob_T} (h : TRT N U ft L a) (q : ∀ x ∈ L, x % 4 = 1) : ∃ k : Int, L = [k * 32 + 1] ∧ a = sp_cs (DK N k) := by
  rcases TRT_hd h with ⟨k, k0, e1, e2⟩ | ⟨k, v, k0, e1, e2, e3, e4, e5⟩ | ⟨v, b, r, e1, e2, e3, e4, e5, e6⟩
  · exact ⟨k, e1, e2⟩
  · have := q (k * 32) (by rw [e1]; exact List.mem_singleton.mpr rfl)
    omega
  · have := q (ft v) (by rw [e4]; exact List.mem_cons_self)
    have := hI.1 v e3
    omega
theorem TRT_cs2 {L : List Int} {a : ob_T} (h : TRT N U ft L a) (q : sp_ic a = true) : ∃ k : Int, L = [k * 32 + 1] ∧ a = sp_cs (DK N k) := by
  rcases TRT_hd h with ⟨k, k0, e1, e2⟩ | ⟨k, v, k0, e1, e2, e3, e4, e5⟩ | ⟨v, b, r, e1, e2, e3, e4, e5, e6⟩
  · exact ⟨k, e1, e2⟩
  · rw [e3] at q
    have q1 : (v == 31361 || v == 20) = true := q
    simp at q1
    omega
  · rw [e1] at q
    have q1 : sp_isq (.var v) = true := q
    rw [e2] at q1
    cases q1
theorem TRL_cs (hI : HI ft) : ∀ (b : ob_T) (r : List Int), TRL N U ft r b → ((∀ x ∈ r, x % 4 = 1) ↔ ∀ a ∈ sp_as b, sp_ic a = true) ∧ ((∀ x ∈ r, x % 4 = 1) → sp_as b = r.map (fun x => sp_cs (DK N (x / 32))))
  | .add a c, r, h => by
    obtain ⟨L1, L2, e, h1, h2⟩ := TRL_add.mp h
    have ih := TRL_cs hI c L2 h2
    have one : ∀ k : Int, L1 = [k * 32 + 1] → a = sp_cs (DK N k) → (∀ x ∈ L1, x % 4 = 1) ∧ sp_ic a = true ∧ L1.map (fun x => sp_cs (DK N (x / 32))) = [a] := by
      intro k e1 e2
      refine ⟨fun x hx => ?_, by rw [e2]; exact (sp_ba_c _).1, by rw [e1, e2]; show [sp_cs (DK N ((k * 32 + 1) / 32))] = _; rw [show (k * 32 + 1) / 32 = k by omega]⟩
      rw [e1] at hx
      have := List.mem_singleton.mp hx
      omega
    subst e
    refine ⟨⟨fun q y hy => ?_, fun q x hx => ?_⟩, fun q => ?_⟩
    · rcases List.mem_cons.mp (show y ∈ a :: sp_as c from hy) with w | w
      · obtain ⟨k, e1, e2⟩ := TRT_cs1 hI h1 (fun x hx => q x (List.mem_append.mpr (Or.inl hx)))
        rw [w]
        exact (one k e1 e2).2.1
      · exact ih.1.mp (fun x hx => q x (List.mem_append.mpr (Or.inr hx))) y w
    · rcases List.mem_append.mp hx with w | w
      · obtain ⟨k, e1, e2⟩ := TRT_cs2 h1 (q a (show a ∈ a :: sp_as c from List.mem_cons_self))
        exact (one k e1 e2).1 x w
      · exact ih.1.mpr (fun y hy => q y (show y ∈ a :: sp_as c from List.mem_cons_of_mem _ hy)) x w
    · obtain ⟨k, e1, e2⟩ := TRT_cs1 hI h1 (fun x hx => q x (List.mem_append.mpr (Or.inl hx)))
      have ie := ih.2 (fun x hx => q x (List.mem_append.mpr (Or.inr hx)))
      rw [List.map_append, (one k e1 e2).2.2, ← ie]
      rfl
  | .var v, r, h => by
    obtain ⟨-, e⟩ := TRL_var.mp h
    subst e
    exact ⟨⟨fun _ y hy => absurd hy List.not_mem_nil, fun _ x hx => absurd hx List.not_mem_nil⟩, fun _ => rfl⟩
  | .num _, _, h => absurd h id
  | .sub _ _, _, h => absurd h id
  | .neg _, _, h => absurd h id
  | .mulL _ _, _, h => absurd h id
  | .mulR _ _, _, h => absurd h id
theorem TRL_cnt : ∀ (b : ob_T) (r : List Int), TRL N U ft r b → (sp_ts ft b).2.2 = ((sp_as b).length : Int)
  | .add a c, r, h => by
    obtain ⟨L1, L2, -, -, h2⟩ := TRL_add.mp h
    show 1 + (sp_ts ft c).2.2 = (((sp_as c).length + 1 : Nat) : Int)
    rw [TRL_cnt c L2 h2]
    omega
  | .var _, _, _ => rfl
  | .num _, _, h => absurd h id
  | .sub _ _, _, h => absurd h id
  | .neg _, _, h => absurd h id
  | .mulL _ _, _, h => absurd h id
  | .mulR _ _, _, h => absurd h id
end VAS
def CCR (n : Int) (f : Int → Int) : Prop := f 0 % 4 = 2 ∧ f 0 / 32 < 17 ∧ ∀ i : Int, 1 ≤ i → i < n → f i % 4 = 1
theorem sp_va_q (ft : Nat → Int) (b : ob_T) : sp_va ft (.add (.var 85168940) b) = none := by
  rw [sp_va, if_neg (fun q => absurd q.1 (by decide))]
theorem sp_va_cs (ft : Nat → Int) : ∀ (x : ob_T), sp_va ft (sp_cs x) = none
  | .num _ => rfl
  | .add _ _ => sp_va_q ft _
  | .sub _ _ => sp_va_q ft _
  | .neg _ => sp_va_q ft _
  | .mulL _ _ => sp_va_q ft _
  | .mulR _ _ => sp_va_q ft _
  | .var v => by
    unfold sp_cs
    by_cases c : sp_ba (.var v) = true
    · rw [if_pos c]
      rfl
    · rw [if_neg c]
      exact sp_va_q ft _
theorem VA_t {s : KS} {NM : BKM} (KN : KNT s NM) {n : Int} {f : Int → Int} {t : ob_T} (n1 : 1 ≤ n) (hW : WFT n f) (h : TRT s.N (s.I 8) NM.2.2.1 (rl n f) t) : (CCR n f → (3 ≤ f 0 / 32 ∧ tk (f 0) = tkF (f 0 / 32 - 3)) ∧ sp_va NM.2.2.1 t = sp_vl (f 0 / 32) (DK s.N (tat n f 1 / 32)) (DK s.N (tat n f 2 / 32)) (DK s.N (tat n f 3 / 32))) ∧ (¬ CCR n f → sp_va NM.2.2.1 t = none) := by
  have rc := rl_cons (f := f) n1
  rcases TRT_hd h with ⟨k, k0, e1, e2⟩ | ⟨k, v, k0, e1, e2, e3, e4, e5⟩ | ⟨v, b, r, e1, e2, e3, e4, e5, e6⟩
  · rw [rc] at e1
    injection e1 with e1 _
    rw [e2]
    exact ⟨fun q => absurd q.1 (by omega), fun _ => sp_va_cs _ _⟩
  · rw [rc] at e1
    injection e1 with e1 _
    rw [e3]
    exact ⟨fun q => absurd q.1 (by omega), fun _ => rfl⟩
  · rw [rc] at e4
    injection e4 with e4 er
    have cs := TRL_cs KN.2.2.2.2 b r e5
    have cc : CCR n f ↔ f 0 / 32 < 17 ∧ ∀ x ∈ r, x % 4 = 1 := by
      refine ⟨fun q => ⟨q.2.1, fun x hx => ?_⟩, fun q => ⟨by rw [e4]; exact KN.2.2.2.2.1 v e3, q.1, fun i i0 i1 => ?_⟩⟩
      · rw [← er] at hx
        obtain ⟨i, i0, i1, i2⟩ := rl_mem hx
        rw [← i2]
        exact q.2.2 (i + 1) (by omega) (by omega)
      · have := rl_mem2 (n := n - 1) (f := fun k => f (k + 1)) (i := i - 1) (by omega) (by omega)
        rw [er] at this
        have := q.2 _ this
        rw [show i - 1 + 1 = i by omega] at this
        exact this
    rw [e1]
    refine ⟨fun q => ?_, fun q => if_neg (fun w => q (cc.mpr ⟨by rw [e4]; exact w.2.1, cs.1.mpr w.2.2⟩))⟩
    have qq := cc.mp q
    have es := cs.2 qq.2
    have base : 3 ≤ f 0 / 32 ∧ tk (f 0) = tkF (f 0 / 32 - 3) := by
      rcases KN.2.2.1.2.2 v with w | ⟨-, ⟨x, x0, x1, x2⟩ | ⟨i, i0, i1, i2⟩⟩
      · omega
      · have e := KN.2.2.1.1 x x0 x1
        rw [x2] at e
        have e' : NM.2.2.1 v = x * 32 + tkF (x - 3) * 4 + 2 := e
        have tr : 0 ≤ tkF (x - 3) ∧ tkF (x - 3) ≤ 7 := by
          unfold tkF
          split
          · omega
          · split
            · omega
            · split <;> omega
        have x9 : f 0 / 32 = x := by omega
        refine ⟨by omega, ?_⟩
        rw [x9]
        unfold tk
        omega
      · have e := (KN.2.2.1.2.1 i i0 i1).2
        rw [i2] at e
        have e' : NM.2.2.1 v = fcl i ((NM.1 i).2.1.length : Int) := e
        unfold fcl at e'
        have := qq.1
        omega
    refine ⟨base, ?_⟩
    have lb : r.length = (n - 1).toNat := by rw [← er, rl_len]
    have gj : ∀ j : Nat, ((j + 1 : Nat) : Int) < n → sp_qv ((sp_as b).getD j (.var 31361)) = DK s.N (tat n f ((j + 1 : Nat) : Int) / 32) := by
      intro j hj
      have e9 : r[j]? = some (f ((j : Int) + 1)) := by
        rw [← er]
        exact rl_get (n := n - 1) (f := fun k => f (k + 1)) (by omega)
      rw [es, List.getD_eq_getElem?_getD, List.getElem?_map, e9, tat_in (by omega) hj]
      show sp_qv (sp_cs (DK s.N (f ((j : Int) + 1) / 32))) = _
      rw [(sp_ba_c _).2, show (((j + 1 : Nat) : Nat) : Int) = (j : Int) + 1 by omega]
    have cond : sp_isq (.var v) = false ∧ NM.2.2.1 v / 32 < 17 ∧ ∀ a ∈ sp_as b, sp_ic a = true := ⟨e2, by rw [← e4]; exact qq.1, cs.1.mp qq.2⟩
    refine (if_pos cond).trans ?_
    rw [← e4]
    have ln : tk (f 0) = n - 1 := by
      have l2 := congrArg List.length es
      rw [List.length_map, lb] at l2
      have l3 : (sp_ts NM.2.2.1 b).2.2 = ((sp_as b).length : Int) := TRL_cnt b r e5
      unfold tk
      rw [e4]
      omega
    by_cases c3 : f 0 / 32 = 3
    · have t3 : tkF (f 0 / 32 - 3) = 3 := by rw [c3]; decide
      have g1 := gj 0 (by omega)
      have g2 := gj 1 (by omega)
      have g3 := gj 2 (by omega)
      rw [g1, g2, g3]
      rfl
    · by_cases c9 : f 0 / 32 ≤ 9
      · have t2 : tkF (f 0 / 32 - 3) = 2 := by
          unfold tkF
          rw [if_neg (by omega), if_neg (by omega), if_pos (by omega)]
        have g1 := gj 0 (by omega)
        have g2 := gj 1 (by omega)
        rw [g1, g2]
        exact sp_vl_1 (by omega)
      · have t1 : tkF (f 0 / 32 - 3) = 1 := by
          unfold tkF
          rw [if_neg (by omega), if_neg (by omega), if_neg (by omega)]
        have g1 := gj 0 (by omega)
        rw [g1]
        exact sp_vl_2 (by omega)
