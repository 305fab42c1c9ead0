def xi_fl : List Cond := flatC (Jvm.Cond.and given_1 narrow_1)
theorem xi_at {args : Array Value} {s : State} (hgv : (Jvm.Cond.and given_1 narrow_1).before args s = true) (i : Nat) {w : Cond} (h : xi_fl[i]? = some w) : w.before args s = true := flat_of_before _ hgv _ (List.mem_of_getElem? h)
def xi_tm (i : Nat) : Term := match i with
  | 0 => .string "ClauseKernel$Cells" 31
  | 1 => .string "ClauseKernel$Cells" 37
  | 2 => .string "ClauseKernel$Cells" 39
  | 3 => .string "ClauseKernel$Cells" 59
  | _ => .string "" 0
def xi_byt : List (List Int32) := [[110, 105, 108, 32, 116, 32, 113, 117, 111, 116, 101, 32, 105, 102, 32, 101, 113, 117, 97, 108, 32, 99, 111, 110, 115, 32, 105, 109, 112, 108, 105, 101, 115, 32, 43, 32, 45, 32, 60, 32, 99, 111, 110, 115, 112, 32, 99, 97, 114, 32, 99, 100, 114, 32, 110, 97, 116, 112, 32, 115, 121, 109, 98, 111, 108, 112, 32, 104, 101, 105, 103, 104, 116, 32, 110, 111, 116, 32], [100, 101, 102, 117, 110, 32, 99, 104, 101, 99, 107, 32, 99, 108, 97, 117, 115, 101, 32, 117, 110, 100, 111, 32, 116, 104, 101, 111, 114, 101, 109, 32], [116, 97, 117, 116, 32, 115, 97, 109, 101, 32, 118, 97, 108, 117, 101, 32, 102, 105, 114, 115, 116, 32, 115, 101, 99, 111, 110, 100, 32, 112, 97, 105, 114, 32, 121, 101, 115, 32, 110, 111, 32, 100, 101, 102, 32, 116, 104, 109, 32, 119, 101, 97, 107, 32, 99, 117, 116, 32, 105, 110, 115, 116, 32, 115, 119, 97, 112, 32, 112, 117, 116, 32, 105, 110, 100, 117, 99, 116, 32], [97, 98, 99, 100, 101, 102, 103, 104, 105, 106, 107, 108, 109, 110, 111, 112, 113, 114, 115, 116, 117, 118, 119, 120, 121, 122, 48, 49, 50, 51, 52, 53, 54, 55, 56, 57, 43, 45, 42, 47, 60, 62, 61, 63, 33, 95]]
def xi_len : List Nat := [78, 32, 79, 46]
def xi_ex : List Nat := [31, 164, 202, 113]
def xi_co : List Nat := [32, 165, 203, 114]
def xi_ar : List Nat := [33, 166, 204, 115]
def xi_le : List Nat := [34, 167, 205, 116]
def xi_el : List Nat := [35, 168, 206, 117]
theorem xi_ex_ok : ∀ i, i < 4 → xi_fl[xi_ex.getD i 0]? = some (Cond.exactly (xi_tm i) "java/lang/String") := by decide +kernel
theorem xi_co_ok : ∀ i, i < 4 → xi_fl[xi_co.getD i 0]? = some (Cond.eq (.field (xi_tm i) "java/lang/String" "coder" "B") (.int 0)) := by decide +kernel
theorem xi_ar_ok : ∀ i, i < 4 → xi_fl[xi_ar.getD i 0]? = some (Cond.arrayOf (.field (xi_tm i) "java/lang/String" "value" "[B") .byte) := by decide +kernel
theorem xi_le_ok : ∀ i, i < 4 → xi_fl[xi_le.getD i 0]? = some (Cond.eq (.length (.field (xi_tm i) "java/lang/String" "value" "[B")) (.int (Int32.ofNat (xi_len.getD i 0)))) := by decide +kernel
theorem xi_el_0 : ∀ j, j < 78 → xi_fl[35 + j]? = some (Cond.eq (.elem (.field (xi_tm 0) "java/lang/String" "value" "[B") (.int (Int32.ofNat j))) (.int ((xi_byt.getD 0 []).getD j 0))) := by decide +kernel
theorem xi_el_1 : ∀ j, j < 32 → xi_fl[168 + j]? = some (Cond.eq (.elem (.field (xi_tm 1) "java/lang/String" "value" "[B") (.int (Int32.ofNat j))) (.int ((xi_byt.getD 1 []).getD j 0))) := by decide +kernel
theorem xi_el_2 : ∀ j, j < 79 → xi_fl[206 + j]? = some (Cond.eq (.elem (.field (xi_tm 2) "java/lang/String" "value" "[B") (.int (Int32.ofNat j))) (.int ((xi_byt.getD 2 []).getD j 0))) := by decide +kernel
theorem xi_el_3 : ∀ j, j < 46 → xi_fl[117 + j]? = some (Cond.eq (.elem (.field (xi_tm 3) "java/lang/String" "value" "[B") (.int (Int32.ofNat j))) (.int ((xi_byt.getD 3 []).getD j 0))) := by decide +kernel
theorem xi_ne_0_1 : xi_fl[200]? = some (Cond.not (Cond.eq (xi_tm 0) (xi_tm 1))) := by decide +kernel
theorem xi_ne_0_2 : xi_fl[285]? = some (Cond.not (Cond.eq (xi_tm 0) (xi_tm 2))) := by decide +kernel
theorem xi_ne_0_3 : xi_fl[163]? = some (Cond.not (Cond.eq (xi_tm 0) (xi_tm 3))) := by decide +kernel
theorem xi_ne_1_2 : xi_fl[287]? = some (Cond.not (Cond.eq (xi_tm 1) (xi_tm 2))) := by decide +kernel
theorem xi_ne_3_1 : xi_fl[201]? = some (Cond.not (Cond.eq (xi_tm 3) (xi_tm 1))) := by decide +kernel
theorem xi_ne_3_2 : xi_fl[286]? = some (Cond.not (Cond.eq (xi_tm 3) (xi_tm 2))) := by decide +kernel
theorem xi_strs {args : Array Value} {s : State} {A : Nat → Prop} (hgv : (Jvm.Cond.and given_1 narrow_1).before args s = true) (hA : ∀ a : Nat, a < s.heap.size → ¬ A a) : ∃ adK adV : Nat → Nat, vk_S 4 xi_len xi_byt adK adV A s s.heap ∧ ∀ i : Nat, i < 4 → (xi_tm i).eval args s none [] s = some (.ref (adK i)) := by
  refine vk_Sof (tm := xi_tm) (by decide) (fun i hi => xi_at hgv _ (xi_ex_ok i hi)) (fun i hi => xi_at hgv _ (xi_co_ok i hi)) (fun i hi => xi_at hgv _ (xi_ar_ok i hi)) (fun i hi => xi_at hgv _ (xi_le_ok i hi)) (fun i hi => ?_) (fun i j hi hj hij => ?_) hA
  · exact match i, hi with
    | 0, _ => fun j hj => xi_at hgv _ (xi_el_0 j hj)
    | 1, _ => fun j hj => xi_at hgv _ (xi_el_1 j hj)
    | 2, _ => fun j hj => xi_at hgv _ (xi_el_2 j hj)
    | 3, _ => fun j hj => xi_at hgv _ (xi_el_3 j hj)
    | n + 4, h => absurd h (by omega)
  · match i, j with
    | 0, 0 => exact absurd rfl hij
    | 0, 1 => exact Or.inl (xi_at hgv _ xi_ne_0_1)
    | 0, 2 => exact Or.inl (xi_at hgv _ xi_ne_0_2)
    | 0, 3 => exact Or.inl (xi_at hgv _ xi_ne_0_3)
    | 1, 0 => exact Or.inr (xi_at hgv _ xi_ne_0_1)
    | 1, 1 => exact absurd rfl hij
    | 1, 2 => exact Or.inl (xi_at hgv _ xi_ne_1_2)
    | 1, 3 => exact Or.inr (xi_at hgv _ xi_ne_3_1)
    | 2, 0 => exact Or.inr (xi_at hgv _ xi_ne_0_2)
    | 2, 1 => exact Or.inr (xi_at hgv _ xi_ne_1_2)
    | 2, 2 => exact absurd rfl hij
    | 2, 3 => exact Or.inr (xi_at hgv _ xi_ne_3_2)
    | 3, 0 => exact Or.inr (xi_at hgv _ xi_ne_0_3)
    | 3, 1 => exact Or.inl (xi_at hgv _ xi_ne_3_1)
    | 3, 2 => exact Or.inl (xi_at hgv _ xi_ne_3_2)
    | 3, 3 => exact absurd rfl hij
    | n + 4, _ => exact absurd hi (by omega)
    | _, n + 4 => exact absurd hj (by omega)

