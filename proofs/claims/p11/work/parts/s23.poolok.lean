def xk_blk (b : Nat) : List Cond := match b with
  | 0 => k2_sels lw_privs
  | 1 => tables_1_1
  | 2 => tables_1_2
  | 3 => tables_1_3
  | 4 => tables_1_4
  | 5 => tables_1_5
  | 6 => tables_1_6
  | 7 => tables_1_7
  | 8 => tables_1_8
  | 9 => tables_1_9
  | _ => []
theorem xk_blk_in {b : Nat} {w : Cond} (h : w ∈ xk_blk b) : w ∈ lw_tbl := by
  show w ∈ k2_sels lw_privs ++ (tables_1_1 ++ (tables_1_2 ++ (tables_1_3 ++ (tables_1_4 ++ (tables_1_5 ++ (tables_1_6 ++ (tables_1_7 ++ (tables_1_8 ++ tables_1_9))))))))
  match b, h with
  | 0, h => exact List.mem_append_left _ h
  | 1, h => exact List.mem_append_right _ (List.mem_append_left _ h)
  | 2, h => exact List.mem_append_right _ (List.mem_append_right _ (List.mem_append_left _ h))
  | 3, h => exact List.mem_append_right _ (List.mem_append_right _ (List.mem_append_right _ (List.mem_append_left _ h)))
  | 4, h => exact List.mem_append_right _ (List.mem_append_right _ (List.mem_append_right _ (List.mem_append_right _ (List.mem_append_left _ h))))
  | 5, h => exact List.mem_append_right _ (List.mem_append_right _ (List.mem_append_right _ (List.mem_append_right _ (List.mem_append_right _ (List.mem_append_left _ h)))))
  | 6, h => exact List.mem_append_right _ (List.mem_append_right _ (List.mem_append_right _ (List.mem_append_right _ (List.mem_append_right _ (List.mem_append_right _ (List.mem_append_left _ h))))))
  | 7, h => exact List.mem_append_right _ (List.mem_append_right _ (List.mem_append_right _ (List.mem_append_right _ (List.mem_append_right _ (List.mem_append_right _ (List.mem_append_right _ (List.mem_append_left _ h)))))))
  | 8, h => exact List.mem_append_right _ (List.mem_append_right _ (List.mem_append_right _ (List.mem_append_right _ (List.mem_append_right _ (List.mem_append_right _ (List.mem_append_right _ (List.mem_append_right _ (List.mem_append_left _ h))))))))
  | 9, h => exact List.mem_append_right _ (List.mem_append_right _ (List.mem_append_right _ (List.mem_append_right _ (List.mem_append_right _ (List.mem_append_right _ (List.mem_append_right _ (List.mem_append_right _ (List.mem_append_right _ h))))))))
  | b + 10, h => cases h
def xk_w (p : Nat × Nat) (w : Cond) : Bool := decide ((xk_blk p.1)[p.2]? = some w) && goodWord w
theorem xk_w_ok {p : Nat × Nat} {w : Cond} (h : xk_w p w = true) : w ∈ xt_Ts := by
  unfold xk_w at h
  rw [Bool.and_eq_true] at h
  exact List.mem_filter.mpr ⟨xk_blk_in (List.mem_of_getElem? (of_decide_eq_true h.1)), h.2⟩
def xk_n (p : Nat × Nat) (w : Cond) : Bool := decide ((xk_blk p.1)[p.2]? = some w) && xx_nest w
theorem xk_n_ok {p : Nat × Nat} {w : Cond} (h : xk_n p w = true) : w ∈ xt_nst := by
  unfold xk_n at h
  rw [Bool.and_eq_true] at h
  exact List.mem_filter.mpr ⟨xk_blk_in (List.mem_of_getElem? (of_decide_eq_true h.1)), h.2⟩
theorem xk_good : GoodIn xt_Ts xt_Ts := fun w hw => ⟨hw, good_of_word (List.mem_filter.mp hw).2⟩
theorem xk_nest : ∀ w ∈ xt_nst, xx_nest w = true := fun w hw => (List.mem_filter.mp hw).2
def xk_ws : List Cond → List (Nat × Nat) → Bool
  | [], _ => true
  | w :: l, p :: ps => xk_w p w && xk_ws l ps
  | _ :: _, [] => false
theorem xk_ws_ok : ∀ {l : List Cond} {ps : List (Nat × Nat)}, xk_ws l ps = true → ∀ w ∈ l, w ∈ xt_Ts := by
  intro l
  induction l with
  | nil => intro ps _ w hw; cases hw
  | cons a l ih =>
    intro ps h w hw
    cases ps with
    | nil => cases h
    | cons p ps =>
      have h : (xk_w p a && xk_ws l ps) = true := h
      rw [Bool.and_eq_true] at h
      rcases List.mem_cons.mp hw with e | e
      · rw [e]; exact xk_w_ok h.1
      · exact ih h.2 w e
def xk_clc (ci : Nat) : Bool := match xt_cl[ci]? with
  | some r => xk_ws (u_ws r.1 r.2.1 r.2.2) (xt_clw ci)
  | none => true
theorem xk_cl_0 : xk_clc 0 = true := by decide +kernel
theorem xk_cl_1 : xk_clc 1 = true := by decide +kernel
theorem xk_cl_2 : xk_clc 2 = true := by decide +kernel
theorem xk_cl_3 : xk_clc 3 = true := by decide +kernel
theorem xk_cl_4 : xk_clc 4 = true := by decide +kernel
theorem xk_cl_5 : xk_clc 5 = true := by decide +kernel
theorem xk_cl_6 : xk_clc 6 = true := by decide +kernel
theorem xk_cl_7 : xk_clc 7 = true := by decide +kernel
theorem xk_cl_8 : xk_clc 8 = true := by decide +kernel
theorem xk_cl_9 : xk_clc 9 = true := by decide +kernel
theorem xk_cl_10 : xk_clc 10 = true := by decide +kernel
theorem xk_cl_11 : xk_clc 11 = true := by decide +kernel
theorem xk_cl_12 : xk_clc 12 = true := by decide +kernel
theorem xk_cl_13 : xk_clc 13 = true := by decide +kernel
theorem xk_cl {ci : Nat} {r : vw_C} (h : xt_cl[ci]? = some r) : ∀ w ∈ u_ws r.1 r.2.1 r.2.2, w ∈ xt_Ts := by
  have hc : xk_clc ci = true := by
    match ci with
    | 0 => exact xk_cl_0
    | 1 => exact xk_cl_1
    | 2 => exact xk_cl_2
    | 3 => exact xk_cl_3
    | 4 => exact xk_cl_4
    | 5 => exact xk_cl_5
    | 6 => exact xk_cl_6
    | 7 => exact xk_cl_7
    | 8 => exact xk_cl_8
    | 9 => exact xk_cl_9
    | 10 => exact xk_cl_10
    | 11 => exact xk_cl_11
    | 12 => exact xk_cl_12
    | 13 => exact xk_cl_13
    | c + 14 => rfl
  unfold xk_clc at hc
  rw [h] at hc
  exact xk_ws_ok hc
def xk_link (host : Option String) (p : Nat × Nat) (o idx : Nat) (ref : String) (t : String × String × String × Bool) : Bool := match host with
  | none => xk_w p (.fieldLink (xt_on o) idx ref t.2.1 t.2.2.1)
  | some hh => xk_n p (.fieldLinkNest (xt_on o) idx ref t.2.1 t.2.2.1 hh)
def xk_f (e : Nat × Nat × Nat × Nat × String × Option String × (Nat × Nat) × (Nat × Nat)) : Bool := match Nat.ble xt_cl.length e.2.2.1 with
  | true => match xt_ol[e.2.2.1 - xt_cl.length]? with
    | some r => (e.2.2.2.2.1 == (r.2.1 e.2.2.2.1).1) && xk_w e.2.2.2.2.2.2.1 (.fieldLink (xt_on e.1) e.2.1 e.2.2.2.2.1 (r.2.1 e.2.2.2.1).2.1 (r.2.1 e.2.2.2.1).2.2.1)
    | none => false
  | false => match xt_cl[e.2.2.1]? with
    | some r => Nat.blt e.2.2.2.1 r.2.2 && ((e.2.2.2.2.1 == (r.2.1 e.2.2.2.1).1 || xk_w e.2.2.2.2.2.2.2 (.sameField e.2.2.2.2.1 (r.2.1 e.2.2.2.1).1 (r.2.1 e.2.2.2.1).2.1 (r.2.1 e.2.2.2.1).2.2.1)) && xk_link e.2.2.2.2.2.1 e.2.2.2.2.2.2.1 e.1 e.2.1 e.2.2.2.2.1 (r.2.1 e.2.2.2.1))
    | none => false
theorem xk_fs : xt_fld.all xk_f = true := by decide +kernel
theorem xk_fld_of {o idx ci j : Nat} (h : xt_fldF o idx ci = some j) : ∃ e ∈ xt_fld, e.1 = o ∧ e.2.1 = idx ∧ e.2.2.1 = ci ∧ e.2.2.2.1 = j := by
  unfold xt_fldF at h
  obtain ⟨e, he, hj⟩ := Option.map_eq_some_iff.mp h
  have h1 := List.find?_some he
  rw [Bool.and_eq_true, Bool.and_eq_true] at h1
  exact ⟨e, List.mem_of_find?_eq_some he, Nat.eq_of_beq_eq_true h1.1, Nat.eq_of_beq_eq_true h1.2.1, Nat.eq_of_beq_eq_true h1.2.2, hj⟩
theorem xk_okf (z : Value) : xx_okf (xt_P z) xt_Ts xt_nst xt_cl xt_ol xt_on := by
  intro o idx ci j h
  obtain ⟨e, he, rfl, rfl, rfl, rfl⟩ := xk_fld_of h
  have hk := List.all_eq_true.mp xk_fs e he
  unfold xk_f at hk
  refine ⟨fun hle => ?_, fun hlt => ?_⟩
  · rw [Nat.ble_eq_true_of_le hle] at hk
    dsimp only at hk
    split at hk
    · rename_i r hr
      rw [Bool.and_eq_true] at hk
      exact ⟨r, e.2.2.2.2.1, hr, Or.inl (by simpa using hk.1), xk_w_ok hk.2⟩
    · cases hk
  · have hf : Nat.ble xt_cl.length e.2.2.1 = false := by
      cases hb : Nat.ble xt_cl.length e.2.2.1 with
      | false => rfl
      | true => have := Nat.le_of_ble_eq_true hb; omega
    rw [hf] at hk
    dsimp only at hk
    split at hk
    · rename_i r hr
      rw [Bool.and_eq_true, Bool.and_eq_true] at hk
      obtain ⟨k1, k2, k3⟩ := hk
      obtain ⟨C, T, N⟩ := r
      refine ⟨C, T, N, e.2.2.2.2.1, hr, by simpa [Nat.blt_eq] using k1, xk_cl hr, ?_, ?_⟩
      · rcases Bool.or_eq_true .. |>.mp k2 with q | q
        · exact Or.inl (by simpa using q)
        · exact Or.inr (xk_w_ok q)
      · unfold xk_link at k3
        split at k3
        · exact Or.inl (xk_w_ok k3)
        · rename_i hh _
          exact Or.inr ⟨hh, xk_n_ok k3⟩
    · cases hk

