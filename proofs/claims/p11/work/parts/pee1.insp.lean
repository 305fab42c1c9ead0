def csl (Mx : Int) (nP : Int → Int) (k : Nat) : Int := if Mx = 1 then sq nP k + k else 121 * k
section EE
variable {c x y t : Nat} {hp h1 h2 : xx_H} {s s1 s2 : KS} {α β γ u u1 w b β0 Mx n m : Int} {NM : BKM} {v : Value} {o k : Int} {q B : Nat} {O : Int → Option Nat} {nO : Int → Int} {fO : Int → Int → Int} {f : Int → Int}
theorem csl_s (nP : Int → Int) (k : Nat) : csl Mx nP (k + 1) = csl Mx nP k + (if Mx = 1 then nP k + 1 else 121) := by
  unfold csl
  split
  · show sq nP k + nP (k : Int) + _ = _
    omega
  · omega
theorem csl_0 {nP : Int → Int} : csl Mx nP 0 = 0 := by
  unfold csl
  split
  · rfl
  · rfl
theorem csl_le {nP : Int → Int} {k : Nat} (hk : k ≤ 30) (hs : sq nP k ≤ 400) : csl Mx nP k ≤ (if Mx = 1 then 430 else 3630) := by
  unfold csl
  split <;> omega
theorem INS_M {v : Option Value} {V : List Int} (h : INS c hp s u n f Mx m fO V v h1) (n0 : 0 ≤ n) : ∃ (v1 : Value) (s2 : KS), v = some v1 ∧ STE c hp s h1 s2 2 (if Mx = 1 then n + 1 else 121) ∧ MTM c h1 s2 u v1 (opR V) := by
  obtain ⟨s2, K, B, F, ⟨e, X, -, lV⟩ | ⟨a1, N, g, e, l1, l2, -, X, T, hM, rV⟩⟩ := h
  · exact ⟨.null, s2, e, ⟨K, B, F, kx_w X (by decide) (by split <;> omega)⟩, Or.inl ⟨rfl, opR_n lV⟩⟩
  · refine ⟨.ref a1, s2, e, ⟨K, B, F, kx_w X (by omega) ?_⟩, by rw [opR_s rV l2]; exact MTM_T T⟩
    split
    · rename_i w
      have := (hM w).1
      omega
    · omega
theorem KAL_F1 {g : Int → Int} {p : Nat} (F : KF1 t hp h1) (ne : p ≠ t) (h : KAL hp p n g) : KAL h1 p n g := ⟨(F.2.2 p ne).trans h.1, h.2⟩
theorem two_w (hC : CI s) (ho : OB s o) (hL : isL (SD s) 2 o) : 1 + WD (SD s) (pi s 1 o) ≤ WD (SD s) o ∧ OB s (pi s 1 o) ∧ 1 ≤ WD (SD s) (pi s 1 o) := by
  obtain ⟨a1, a2, a3, a4⟩ := PI_w hC ho hL (j := 0) (by decide)
  obtain ⟨b1, b2, b3, b4⟩ := PI_w hC ho hL (j := 1) (by decide)
  have h := WD_pair (I := UI s) hC.1 ho.1 ho.2 hL.1
  refine ⟨?_, b2, b3⟩
  have e : SD s 1 (SD s 2 o) = pi s 1 o := rfl
  have e2 : VD (SD s) o = WD (SD s) (pi s 0 o) + VD (SD s) (rt (SD s) 1 o) := a1
  have e3 : VD (SD s) (rt (SD s) 1 o) = WD (SD s) (pi s 1 o) + VD (SD s) (rt (SD s) 2 o) := b1
  have e4 : 0 ≤ VD (SD s) (rt (SD s) 2 o) := b4
  by_cases w : SD s 1 o = 2 ∧ 0 ≤ SD s 1 (SD s 2 o) ∧ SD s 2 (SD s 2 o) = 0
  · rw [if_pos w, e] at h
    omega
  · rw [if_neg w] at h
    omega
theorem ki_arrI (hK : KI c hp s) (m : Int) (g : Int → Int) (m0 : 0 ≤ m) (m1 : m ≤ 1000) (hg : ∀ k : Int, -2147483648 ≤ g k ∧ g k ≤ 2147483647) : KI c (hp ++ [(.inl (.int, xa_f m.toNat g) : xx_E)]) s ∧ kx c hp s (hp ++ [(.inl (.int, xa_f m.toNat g) : xx_E)]) s 1 m ∧ KAL (hp ++ [(.inl (.int, xa_f m.toNat g) : xx_E)]) hp.length m g ∧ kn c s hp.length := by
  obtain ⟨a1, a2, a3⟩ := ki_app (e := (.inl (.int, xa_f m.toNat g) : xx_E)) hK
  refine ⟨a1, kx_w a2 (by decide) ?_, ⟨app_self, ⟨m0, m1⟩, hg⟩, a3⟩
  show ((xa_f m.toNat g).length : Int) ≤ m
  rw [xa_f_len]
  omega
end EE

def insI (G : List Int) (O : List (List Int)) (r : List Int) : Option (List Int) := opR (insR G O r)
theorem insI_tr {N : Int → Int} {U : Int} {ft : Nat → Int} (hD : HD N U) (hI : HI ft) {G : List Int} {Vs : List Nat} {O : List (List Int)} {Os : List ob_T} (hG : VRG N U G Vs) (hO : TRO N U ft O Os) : ∀ {Z : List (List Int)} {D : List ob_T}, TRO N U ft Z D → ITR N U ft (Z.map (insI G O)) (D.map (fun t => sp_opO (sp_in Vs Os t).1))
  | [], [], _ => trivial
  | [], _ :: _, h => absurd h id
  | _ :: _, [], h => absurd h id
  | r :: Z, t :: D, h => ITR_one (OTR_op ((TRT_ins hD hI hG hO t).1 r h.1)) (insI_tr hD hI hG hO (Z := Z) (D := D) h.2)
theorem STE_VRG {c : Nat} {hp h1 : xx_H} {s s1 : KS} {a b : Int} {G : List Int} {Vs : List Nat} (E : STE c hp s h1 s1 a b) (h : VRG s.N (s.I 8) G Vs) : VRG s1.N (s1.I 8) G Vs := by
  rw [E.2.2.1.1, STE_8 E]
  exact h
theorem KST_VRG {c : Nat} {hp h1 : xx_H} {s s1 : KS} {a b g : Int} {NM : BKM} {G : List Int} {Vs : List Nat} (P : KPS c hp s NM) (S : KST c hp s h1 s1 a b g) (h : VRG s.N (s.I 8) G Vs) : VRG s1.N (s1.I 8) G Vs := VRG_mono S.2.2.2.1.2.2.2.1 (fun k k0 k1 => KST_D P S ⟨k0, k1⟩) G Vs h
section INP
variable {N : Int → Int} {U : Int} {ft : Nat → Int} {ys : List ob_T} {y t x : ob_T} {k : Nat} {Ds : List ob_T}
theorem VRG_app {n : Int} {v : Nat} (n0 : 0 ≤ n ∧ n < U) (e : DK N n = .var v) (v1 : v ≠ 31361) (v2 : v ≠ 20) : ∀ {G : List Int} {Vs : List Nat}, VRG N U G Vs → VRG N U (G ++ [n * 32]) (Vs ++ [v])
  | [], [], _ => ⟨⟨n, n0, e, rfl, v1, v2⟩, trivial⟩
  | [], _ :: _, h => absurd h id
  | _ :: _, [], h => absurd h id
  | _ :: _, _ :: _, h => ⟨h.1, VRG_app n0 e v1 v2 h.2⟩
theorem VRG_mem (hD : HD N U) {n : Int} {v : Nat} (n0 : 0 ≤ n ∧ n < U) (e : DK N n = .var v) : ∀ {G : List Int} {Vs : List Nat}, VRG N U G Vs → (n * 32 ∈ G ↔ v ∈ Vs)
  | [], [], _ => ⟨fun q => absurd q List.not_mem_nil, fun q => absurd q List.not_mem_nil⟩
  | [], _ :: _, h => absurd h id
  | _ :: _, [], h => absurd h id
  | g :: G, w :: Vs, h => by
    obtain ⟨⟨k, k0, k1, k2, -⟩, h2⟩ := h
    have ih := VRG_mem hD n0 e h2
    rw [List.mem_cons, List.mem_cons, ih]
    have q : n * 32 = g ↔ v = w := by
      constructor
      · intro q
        have : n = k := by omega
        rw [this, k1] at e
        injection e with e
        exact e.symm
      · intro q
        rw [q, ← k1] at e
        rw [hD.1 n k n0.1 n0.2 k0.1 k0.2 e, k2]
    rw [q]
def sp_fk (ft : Nat → Int) (ys : List ob_T) (k : Nat) (Ds : List ob_T) : Prop := (∀ y ∈ ys.take k, sp_pl y = true ∧ (sp_as y).length = 2 ∧ sp_iv (sp_p 0 y) = true) ∧ ((ys.take k).map (sp_p 0)).Nodup ∧ sp_all ((ys.take k).map (fun y => sp_tm ft (sp_p 1 y))) = some Ds
theorem sp_fk_0 : sp_fk ft ys 0 [] := by
  unfold sp_fk
  rw [List.take_zero]
  exact ⟨fun y h => absurd h List.not_mem_nil, List.nodup_nil, rfl⟩
theorem take_s (h : ys[k]? = some y) : ys.take (k + 1) = ys.take k ++ [y] := by
  rw [List.take_succ, h]
  rfl
theorem sp_fk_s (F : sp_fk ft ys k Ds) (h : ys[k]? = some y) (hy : sp_pl y = true ∧ (sp_as y).length = 2 ∧ sp_iv (sp_p 0 y) = true) (hn : sp_p 0 y ∉ (ys.take k).map (sp_p 0)) (ht : sp_tm ft (sp_p 1 y) = some t) : sp_fk ft ys (k + 1) (Ds ++ [t]) := by
  obtain ⟨a, b, e⟩ := F
  unfold sp_fk
  rw [take_s h, List.map_append, List.map_append, sp_all_app e]
  refine ⟨fun y1 h1 => ?_, ?_, ?_⟩
  · rcases List.mem_append.mp h1 with q | q
    · exact a y1 q
    · rw [List.mem_singleton.mp q]
      exact hy
  · rw [List.nodup_append]
    refine ⟨b, List.nodup_cons.mpr ⟨List.not_mem_nil, List.nodup_nil⟩, fun p hp r hr w => ?_⟩
    have hr : r ∈ [sp_p 0 y] := hr
    rw [List.mem_singleton.mp hr] at w
    rw [w] at hp
    exact hn hp
  · show (sp_all [sp_tm ft (sp_p 1 y)]).map _ = _
    rw [ht]
    rfl
theorem sp_fk_e (F : sp_fk ft ((sp_as x).drop 2) k Ds) (hk : ((sp_as x).drop 2).length ≤ k) (f : ob_T → Int → Option (List ob_T × Int)) (st : Int) : sp_fi ft x ∧ sp_inst ft f x st = (f (sp_p 1 x) st).bind (fun p => sp_cs2 (sp_cz (p.1.map (fun t => sp_opO (sp_in ((((sp_as x).drop 2).take k).map (fun y => sp_hc (sp_p 0 y))) Ds t).1))) p.2) := by
  obtain ⟨a, b, e⟩ := F
  rw [List.take_of_length_le hk] at a b e ⊢
  refine ⟨⟨⟨a, b⟩, fun w => by rw [e] at w; cases w⟩, ?_⟩
  unfold sp_inst
  rw [ifc_pos ⟨a, b⟩, e]
  rfl
theorem sp_inst_n (f : ob_T → Int → Option (List ob_T × Int)) (st : Int) (h : ¬ sp_fi ft x) : sp_inst ft f x st = none := by
  unfold sp_inst
  by_cases c : (∀ y ∈ (sp_as x).drop 2, sp_pl y = true ∧ (sp_as y).length = 2 ∧ sp_iv (sp_p 0 y) = true) ∧ (((sp_as x).drop 2).map (sp_p 0)).Nodup
  · rw [ifc_pos c]
    by_cases e : sp_all (((sp_as x).drop 2).map (fun y => sp_tm ft (sp_p 1 y))) = none
    · rw [e]
      rfl
    · exact absurd ⟨c, e⟩ h
  · rw [ifc_neg c]
theorem fi_1 (h : ((sp_as x).drop 2)[k]? = some y) (hy : ¬ (sp_pl y = true ∧ (sp_as y).length = 2 ∧ sp_iv (sp_p 0 y) = true)) : ¬ sp_fi ft x := fun F => hy (F.1.1 y (List.mem_of_getElem? h))
theorem fi_2 (h : ((sp_as x).drop 2)[k]? = some y) (hy : sp_p 0 y ∈ (((sp_as x).drop 2).take k).map (sp_p 0)) : ¬ sp_fi ft x := by
  intro F
  have nd := F.1.2
  rw [← List.take_append_drop k ((sp_as x).drop 2), drop_get h, List.map_append, List.nodup_append] at nd
  exact nd.2.2 _ hy (sp_p 0 y) (by rw [List.map_cons]; exact List.mem_cons_self ..) rfl
theorem sp_all_n {α : Type} : ∀ {l : List (Option α)}, none ∈ l → sp_all l = none
  | [], h => absurd h List.not_mem_nil
  | none :: _, _ => rfl
  | some a :: r, h => by
    have : none ∈ r := by
      rcases List.mem_cons.mp h with q | q
      · cases q
      · exact q
    show (sp_all r).map _ = none
    rw [sp_all_n this]
    rfl
theorem fi_3 (h : ((sp_as x).drop 2)[k]? = some y) (hy : sp_tm ft (sp_p 1 y) = none) : ¬ sp_fi ft x := fun F => F.2 (sp_all_n (List.mem_map.mpr ⟨y, List.mem_of_getElem? h, hy⟩))
theorem hc_mem {v : Nat} : ∀ {L : List ob_T}, (∀ y ∈ L, sp_iv (sp_p 0 y) = true) → (v ∈ L.map (fun y => sp_hc (sp_p 0 y)) ↔ .var v ∈ L.map (sp_p 0))
  | [], _ => ⟨fun q => absurd q List.not_mem_nil, fun q => absurd q List.not_mem_nil⟩
  | y :: L, h => by
    have ih := hc_mem (v := v) (L := L) (fun y hy => h y (List.mem_cons_of_mem _ hy))
    obtain ⟨w, e, -, -⟩ := sp_iv_e (h y (List.mem_cons_self ..))
    rw [List.map_cons, List.map_cons, List.mem_cons, List.mem_cons, ih, e]
    show v = w ∨ _ ↔ _
    have q : v = w ↔ (.var v : ob_T) = .var w := ⟨fun q => by rw [q], fun q => by injection q⟩
    rw [q]
theorem vs_s {v : Nat} (h : ys[k]? = some y) (e : sp_p 0 y = .var v) : (ys.take (k + 1)).map (fun y => sp_hc (sp_p 0 y)) = (ys.take k).map (fun y => sp_hc (sp_p 0 y)) ++ [v] := by
  rw [take_s h, List.map_append, List.map_cons, e]
  rfl
end INP
theorem SD_v {s : KS} {k : Int} : SD s 1 k = -2 ↔ 4611686018427387904 ≤ s.N k := by
  by_cases n : s.N k < 0
  · have := SD_nn.mpr n
    constructor
    · intro q
      omega
    · intro q
      omega
  · show (if s.N k < 0 then sd1 (s.N k) else if 4611686018427387904 ≤ s.N k then -2 else -1) = -2 ↔ _
    rw [if_neg n]
    split
    · rename_i w
      exact ⟨fun _ => w, fun _ => rfl⟩
    · rename_i w
      exact ⟨fun q => absurd q (by decide), fun q => absurd q w⟩
theorem AS_get {c : Nat} {hp : xx_H} {s : KS} {NM : BKM} {o : Int} {q : Nat} (P : KPS c hp s NM) (ho : OB s o) (hL : isL (SD s) q o) {k : Nat} (hk : k < q) : (sp_as (DK s.N o))[k]? = some (DK s.N (pi s k o)) := (ST_rt (KNT_ST P.2.2.2.2.2.2.2.2 P.2.2.1 P.2.1).1 q k o ho.1 ho.2 hL hk).1
theorem LEN_two {c : Nat} {hp : xx_H} {s : KS} {NM : BKM} {o n : Int} (P : KPS c hp s NM) (ho : OB s o) (hn : (n = -1 ∧ sp_pl (DK s.N o) = false) ∨ ∃ q : Nat, n = q ∧ isL (SD s) q o) (ne : n ≠ 2) : ¬ (sp_pl (DK s.N o) = true ∧ (sp_as (DK s.N o)).length = 2) := by
  rintro ⟨a, b⟩
  rcases hn with ⟨-, q⟩ | ⟨q, e, L⟩
  · rw [a] at q
    cases q
  · have := (AS_len P ho L).2
    omega
