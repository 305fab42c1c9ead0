section CLP
variable {N : Int → Int} {U : Int} {ft : Nat → Int}
theorem TRO_hd {m : Int} {nO : Int → Int} {fO : Int → Int → Int} {D : List ob_T} (h : TRO N U ft (ol m nO fO) D) (h0 : 0 < m) : ∃ (t : ob_T) (D1 : List ob_T), D = t :: D1 ∧ TRT N U ft (rl (nO 0) (fO 0)) t := by
  have e := ol_drop (nO := nO) (fO := fO) (k := 0) (show ((0 : Nat) : Int) < m by omega)
  rw [List.drop_zero] at e
  rw [e] at h
  match D, h with
  | t :: D1, h => exact ⟨t, D1, rfl, h.1⟩
theorem TRO_0 : ∀ {Z : List (List Int)} {D : List ob_T}, TRO N U ft Z D → Z = [] → D = []
  | [], [], _, _ => rfl
  | [], _ :: _, h, _ => absurd h id
  | _ :: _, _, _, e => by cases e
theorem TRO_drop : ∀ (k : Nat) {Z : List (List Int)} {D : List ob_T}, TRO N U ft Z D → TRO N U ft (Z.drop k) (D.drop k)
  | 0, _, _, h => h
  | _ + 1, [], [], _ => trivial
  | _ + 1, [], _ :: _, h => absurd h id
  | _ + 1, _ :: _, [], h => absurd h id
  | k + 1, _ :: Z, _ :: D, h => TRO_drop k (Z := Z) (D := D) h.2
theorem TRO_rm (hD : HD N U) (hI : HI ft) {r : List Int} {t : ob_T} (ht : TRT N U ft r t) : ∀ {Z : List (List Int)} {D : List ob_T}, TRO N U ft Z D → TRO N U ft (Z.filter (fun x => decide (x ≠ r))) (sp_rm t D)
  | [], [], _ => trivial
  | [], _ :: _, h => absurd h id
  | _ :: _, [], h => absurd h id
  | x :: Z, y :: D, h => by
    have ih := TRO_rm hD hI ht (Z := Z) (D := D) h.2
    have e := TRT_eq hD hI h.1 ht
    by_cases c : x = r
    · rw [List.filter_cons_of_neg (by simpa using c)]
      show TRO N U ft _ (ifc (y = t) (sp_rm t D) (y :: sp_rm t D))
      rw [ifc_pos (e.mp c)]
      exact ih
    · rw [List.filter_cons_of_pos (by simpa using c)]
      show TRO N U ft _ (ifc (y = t) (sp_rm t D) (y :: sp_rm t D))
      rw [ifc_neg (fun q => c (e.mpr q))]
      exact ⟨h.1, ih⟩
theorem clO_A (Z : List (List Int)) (X : Int × List (List Int)) : Z.foldl clA X = (Z.map some).foldl clO X := by
  rw [List.foldl_map]
  rfl
theorem hz_app {b b1 : Int} {Z Z1 : List (List Int)} {R1 : List (Option (List Int))} (h : (b, Z) = R1.foldl clO (0, [])) {Z2 : List (List Int)} (h2 : (b1, Z1) = Z2.foldl clA (b, Z)) : (b1, Z1) = (R1 ++ Z2.map some).foldl clO (0, []) := by
  rw [List.foldl_append, ← h, h2, clO_A]
theorem hz_one {b b1 : Int} {Z Z1 : List (List Int)} {R1 : List (Option (List Int))} {R : Option (List Int)} (h : (b, Z) = R1.foldl clO (0, [])) (h2 : (b1, Z1) = clO (b, Z) R) : (b1, Z1) = (R1 ++ [R]).foldl clO (0, []) := by
  rw [List.foldl_append, ← h, h2]
  rfl
theorem ITR_s {R : Option (List Int)} {X : Option ob_T} (h : OTR N U ft R X) : ITR N U ft [R] [X] := ITR_one h ITR_nil
end CLP
