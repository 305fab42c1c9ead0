section PHS
variable {ft : Nat → Int} {Vs Vl : List Nat} {Os : List ob_T}
theorem itR_ph {A : Nat → Int → Int} {N : Int → Int} {w : Prop} {R : List (Bool × ob_T)} {p n : Int} (h : RNV Os) (hn : sp_arT ft (.var 31651) = 1) (hp : PEN N A w R n (fun k => A 40 (64 * p + k))) (hw : w) (hr : ∀ r ∈ R, 1 ≤ (sp_ts ft r.2).1 ∧ (sp_sz r.2).1 < 120) : itR (sp_in Vs Os) A N p n = (R.map (fun r => (r.1, (sp_in Vs Os r.2).1))).map sp_rI := by
  unfold itR ixl
  have en : n.toNat = R.length := by have := hp.1; omega
  rw [en]
  refine List.ext_getElem? (fun j => ?_)
  by_cases hj : j < R.length
  · obtain ⟨b, τ, e1, e2⟩ := hp.2 j hj
    have e2 := e2 hw
    have mr := hr (b, τ) (List.mem_of_getElem? e1)
    rw [List.getElem?_map, List.getElem?_map, List.getElem?_range hj, List.getElem?_map, List.getElem?_map, e1]
    show some (sp_ntO (sp_opO (sp_in Vs Os (DM A N (A 40 (64 * p + (j : Int))))).1)) = some (sp_rI (b, (sp_in Vs Os τ).1))
    have e2 : DM A N (A 40 (64 * p + (j : Int))) = (if b = true then τ else sp_not τ) := e2
    rw [e2]
    cases b with
    | true =>
      rw [if_pos rfl, sp_opO_s (by rw [(sz_in h τ).1]; have := mr.2; have : (sp_sz τ).1 < 120 := this; omega)]
      rfl
    | false =>
      rw [if_neg (by decide), ← not_in h τ (ts_hn hn mr.1)]
      rfl
  · rw [List.getElem?_eq_none (by rw [List.length_map, List.length_map, List.length_range]; omega), List.getElem?_eq_none (by rw [List.length_map, List.length_map]; omega)]
def RNC (fn : Nat) (Vs Vl : List Nat) (Os : List ob_T) (F τ : ob_T) (A : Nat → Int → Int) (N : Int → Int) (c p : Int) : Prop := ∃ (q : List (Bool × ob_T) × ob_T) (D : List ob_T), (sp_ph (sp_in Vs Os τ).1)[p.toNat]? = some q ∧ sp_cz (sp_du fn Vl F q) = some D ∧ ∀ k : Int, 0 ≤ k → k < A 51 (c + p) → DM A N (A 50 (30 * (c + p) + k)) ∈ D
theorem ROK_iff {A : Nat → Int → Int} {N : Int → Int} {w : Prop} {fn : Nat} {F τ : ob_T} {c p : Int} {pp : List (Bool × ob_T) × ob_T} (h : RNV Os) (hn : sp_arT ft (.var 31651) = 1) (e : (sp_ph τ)[p.toNat]? = some pp) (e2 : pp.2 = DM A N (A 39 p)) (hp : PEN N A w pp.1 (A 41 p) (fun k => A 40 (64 * p + k))) (hw : w) (hr : ∀ r ∈ pp.1, 1 ≤ (sp_ts ft r.2).1 ∧ (sp_sz r.2).1 < 120) : ROK fn Vs Vl Os F A N c p ↔ RNC fn Vs Vl Os F τ A N c p := by
  have ei : (sp_ph (sp_in Vs Os τ).1)[p.toNat]? = some (pp.1.map (fun r => (r.1, (sp_in Vs Os r.2).1)), (sp_in Vs Os pp.2).1) := by
    rw [ph_in h (tsz τ + 1) τ (by omega), List.getElem?_map, e]
    rfl
  have eu : itP fn Vs Vl Os F A N p = sp_du fn Vl F (pp.1.map (fun r => (r.1, (sp_in Vs Os r.2).1)), (sp_in Vs Os pp.2).1) := by
    unfold itP sp_du
    rw [itR_ph h hn hp hw hr, e2]
  unfold ROK RNC
  rw [eu]
  refine ⟨fun ⟨E, a, b⟩ => ⟨_, E, ei, a, b⟩, fun ⟨q, D, a, b, d⟩ => ?_⟩
  rw [ei] at a
  injection a with a
  rw [← a] at b
  exact ⟨D, b, d⟩
end PHS
