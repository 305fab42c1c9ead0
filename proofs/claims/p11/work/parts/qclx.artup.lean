section AUP
variable {I : Nat → Int} {A : Nat → Int → Int} {N : Int → Int} {ar : Int → Int} {ft : Nat → Int}
theorem ART_up {n m : Int} {v : Nat} (hS : MST I A N) (hT : TRX I A N) (h : ART ar ft I A N) (n0 : 0 ≤ n) (n1 : n < I 7) (ev : DM A N n = .var v) (m0 : 0 ≤ m) (m6 : m ≤ 6) : ART (up ar n m) (sp_fu ft v m) I A N := by
  intro f f0 f1
  by_cases c : f = n
  · rw [c, up_s, ev]
    have fa := fcl_ar (i := 0) (m := m) (by decide) m0 m6
    show m = (if sp_fu ft v m v < 0 then -1 else sp_fu ft v m v / 4 % 8)
    rw [show sp_fu ft v m v = fcl 0 m from if_pos rfl, if_neg fa.1, fa.2]
  · rw [up_n c, h f f0 f1]
    cases e : DM A N f with
    | var w =>
      have ne : w ≠ v := fun q => c (DM_inj ⟨hS, hT.1⟩ f0 f1 n0 n1 (by rw [e, ev, q]))
      show (if ft w < 0 then (-1 : Int) else ft w / 4 % 8) = (if sp_fu ft v m w < 0 then -1 else sp_fu ft v m w / 4 % 8)
      rw [show sp_fu ft v m w = ft w from if_neg ne]
    | _ => rfl
end AUP
