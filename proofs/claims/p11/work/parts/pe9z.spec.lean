def sp_tm (ft : Nat → Int) (x : ob_T) : Option ob_T := if 1 ≤ (sp_ts ft x).1 ∧ (sp_ts ft x).1 ≤ 120 then some (sp_nf x).1 else none
def sp_c1 (v : Nat) (a : ob_T) : ob_T := .add (.var v) (.add a (.var 31361))
def sp_c2 (v : Nat) (a b : ob_T) : ob_T := .add (.var v) (.add a (.add b (.var 31361)))
def sp_c3 (v : Nat) (a b c : ob_T) : ob_T := .add (.var v) (.add a (.add b (.add c (.var 31361))))
def sp_eq (a b : ob_T) : ob_T := sp_c2 26209844 a b
def sp_p (j : Nat) (x : ob_T) : ob_T := (sp_as x).getD j (.var 31361)
def sp_hc : ob_T → Nat
  | .var v => v
  | _ => 0
def sp_li : List ob_T → ob_T
  | [] => .var 31361
  | a :: r => .add a (sp_li r)
def sp_all {α : Type} : List (Option α) → Option (List α)
  | [] => some []
  | none :: _ => none
  | some a :: r => (sp_all r).map (fun q => a :: q)
def sp_ax (r : Nat) (l m n : ob_T) : List (Option ob_T) := if r = 2079676 then [some l, sp_ntO (some l)] else if r = 1975462 then [sp_opO (sp_eq l l)] else if r = 30253168 then [sp_opO (sp_eq (sp_c1 6692 (sp_c2 345281 l m)) l)] else if r = 4382298804 then [sp_opO (sp_eq (sp_c1 6833 (sp_c2 345281 l m)) m)] else if r = 1663818 then [sp_opO (sp_c1 16228223 (sp_c2 345281 l m))] else if r = 55479 then [sp_ntO (some l), sp_opO (sp_eq (sp_c3 429 l m n) m)] else [some l, sp_opO (sp_eq (sp_c3 429 l m n) n)]
def sp_axn (r : Nat) : Nat := if r = 2079676 ∨ r = 1975462 then 2 else if r = 30253168 ∨ r = 4382298804 ∨ r = 1663818 then 3 else if r = 55479 ∨ r = 673 then 4 else 0
def sp_ic : ob_T → Bool
  | .add a _ => sp_isq a
  | t => sp_ba t
def sp_qv : ob_T → ob_T
  | .add _ b => sp_fst b
  | t => t
noncomputable def sp_va (ft : Nat → Int) : ob_T → Option ob_T
  | .add (.var v) b => if sp_isq (.var v) = false ∧ ft v / 32 < 17 ∧ ∀ a ∈ sp_as b, sp_ic a = true then sp_vl (ft v / 32) (sp_qv ((sp_as b).getD 0 (.var 31361))) (sp_qv ((sp_as b).getD 1 (.var 31361))) (sp_qv ((sp_as b).getD 2 (.var 31361))) else none
  | _ => none
def sp_fb (FB : List (Nat × List Nat × ob_T)) (x : ob_T) : Option (Nat × List Nat × ob_T) := FB.find? (fun p => sp_ish p.1 x)
def sp_tb (TB : List (Nat × ob_T)) (x : ob_T) : Option (Nat × ob_T) := TB.find? (fun p => sp_ish p.1 x)
noncomputable def sp_lf (ft : Nat → Int) (FB : List (Nat × List Nat × ob_T)) (TB : List (Nat × ob_T)) (r : Nat) (x : ob_T) : Option (List ob_T) := if r = 107484305 then (if (sp_as x).length = 2 then (sp_tm ft (sp_p 1 x)).bind (fun t => (sp_va ft t).bind (fun w => sp_cz [sp_opO (sp_eq t (sp_cs w))])) else none) else if r = 9077 then (if (sp_as x).length = 2 then (sp_fb FB (sp_p 1 x)).bind (fun p => sp_cz [sp_opO (sp_eq (.add (.var p.1) (sp_li (p.2.1.map .var))) p.2.2)]) else none) else if r = 44569 then (if (sp_as x).length = 2 then (sp_tb TB (sp_p 1 x)).bind (fun p => sp_cz [some p.2]) else none) else if sp_axn r = (sp_as x).length ∧ sp_axn r ≠ 0 then (sp_tm ft (sp_p 1 x)).bind (fun l => (sp_tm ft (if 3 ≤ sp_axn r then sp_p 2 x else sp_p 1 x)).bind (fun m => (sp_tm ft (if 4 ≤ sp_axn r then sp_p 3 x else sp_p 1 x)).bind (fun n => sp_cz (sp_ax r l m n)))) else none
def sp_cs2 (D : Option (List ob_T)) (st : Int) : Option (List ob_T × Int) := D.map (fun D => (D, st))
def sp_sq (f : ob_T → Int → Option (List ob_T × Int)) : List ob_T → Int → Option (List (List ob_T) × Int)
  | [], st => some ([], st)
  | x :: r, st => (f x st).bind (fun p => (sp_sq f r p.2).map (fun q => (p.1 :: q.1, q.2)))
def sp_eqp : ob_T → Option (ob_T × ob_T)
  | .add (.var v) (.add a (.add b _)) => if v = 26209844 then some (a, b) else none
  | _ => none
noncomputable def sp_weak (ft : Nat → Int) (f : ob_T → Int → Option (List ob_T × Int)) (x : ob_T) (st : Int) : Option (List ob_T × Int) := if sp_pl (sp_p 1 x) = true then (sp_all ((sp_as (sp_p 1 x)).map (sp_tm ft))).bind (fun os => (f (sp_p 2 x) st).bind (fun p => sp_cs2 (sp_cz (p.1.map some ++ os.map some)) p.2)) else none
noncomputable def sp_rm (l : ob_T) : List ob_T → List ob_T
  | [] => []
  | t :: r => ifc (t = l) (sp_rm l r) (t :: sp_rm l r)
noncomputable def sp_cut (ft : Nat → Int) (f : ob_T → Int → Option (List ob_T × Int)) (x : ob_T) (st : Int) : Option (List ob_T × Int) := (sp_tm ft (sp_p 1 x)).bind (fun l => (f (sp_p 2 x) st).bind (fun p => (f (sp_p 3 x) p.2).bind (fun q => (sp_ntO (some l)).bind (fun nl => ifc (l ∈ p.1 ∧ nl ∈ q.1) (sp_cs2 (sp_cz ((sp_rm l p.1).map some ++ (sp_rm nl q.1).map some)) q.2) none))))
noncomputable def sp_inst (ft : Nat → Int) (f : ob_T → Int → Option (List ob_T × Int)) (x : ob_T) (st : Int) : Option (List ob_T × Int) := ifc ((∀ y ∈ (sp_as x).drop 2, sp_pl y = true ∧ (sp_as y).length = 2 ∧ sp_iv (sp_p 0 y) = true) ∧ (((sp_as x).drop 2).map (sp_p 0)).Nodup) ((sp_all (((sp_as x).drop 2).map (fun y => sp_tm ft (sp_p 1 y)))).bind (fun os => (f (sp_p 1 x) st).bind (fun p => sp_cs2 (sp_cz (p.1.map (fun t => sp_opO (sp_in (((sp_as x).drop 2).map (fun y => sp_hc (sp_p 0 y))) os t).1))) p.2))) none
noncomputable def sp_swap (f : ob_T → Int → Option (List ob_T × Int)) (x : ob_T) (st : Int) : Option (List ob_T × Int) := (f (sp_p 1 x) st).bind (fun p => (p.1.head?.bind sp_eqp).bind (fun e => sp_cs2 (sp_cz (sp_opO (sp_eq e.2 e.1) :: (p.1.drop 1).map some)) p.2))
noncomputable def sp_put (f : ob_T → Int → Option (List ob_T × Int)) (x : ob_T) (st : Int) : Option (List ob_T × Int) := (f (sp_p 1 x) st).bind (fun p => (f (sp_p 2 x) p.2).bind (fun q => (p.1.head?.bind sp_eqp).bind (fun e => sp_cs2 (sp_cz (q.1.map (fun t => sp_opO (sp_re e.1 e.2 t).1) ++ (p.1.drop 1).map some)) q.2)))
noncomputable def sp_ind (ft : Nat → Int) (FB : List (Nat × List Nat × ob_T)) (f : ob_T → Int → Option (List ob_T × Int)) (x : ob_T) (st : Int) : Option (List ob_T × Int) := (sp_tm ft (sp_p 1 x)).bind (fun F => (sp_fb FB (sp_p 0 (sp_p 2 x))).bind (fun fn => ifc (sp_pl (sp_p 2 x) = true ∧ sp_vs 6 (sp_cd (sp_p 2 x)) ∧ (sp_cc fn.1 fn.2.2).1 ≠ [] ∧ (sp_as (sp_cd (sp_p 2 x))).length = fn.2.1.length ∧ (sp_as x).length = (sp_ph fn.2.2).length + 3) ((sp_sq f ((sp_as x).drop 3) st).bind (fun Q => (sp_opO (sp_in fn.2.1 (sp_as (sp_cd (sp_p 2 x))) fn.2.2).1).bind (fun B => ifc (∀ k : Nat, k < (sp_ph fn.2.2).length → ∃ (p : List (Bool × ob_T) × ob_T) (D P : List ob_T), (sp_ph B)[k]? = some p ∧ sp_cz (sp_du fn.1 ((sp_as (sp_cd (sp_p 2 x))).map sp_hc) F p) = some D ∧ Q.1[k]? = some P ∧ ∀ t ∈ P, t ∈ D) (sp_cs2 (sp_cz [some F]) Q.2) none))) none))
noncomputable def sp_ru (ft : Nat → Int) (FB : List (Nat × List Nat × ob_T)) (TB : List (Nat × ob_T)) (f : ob_T → Int → Option (List ob_T × Int)) (r : Nat) (x : ob_T) (st : Int) : Option (List ob_T × Int) := if r = 2399032 then (if (sp_as x).length = 3 then sp_weak ft f x st else none) else if r = 7634 then (if (sp_as x).length = 4 then sp_cut ft f x st else none) else if r = 966246 then (if 2 ≤ (sp_as x).length then sp_inst ft f x st else none) else if r = 2023507 then (if (sp_as x).length = 2 then sp_swap f x st else none) else if r = 36351 then (if (sp_as x).length = 3 then sp_put f x st else none) else if r = 2132882439 then (if 3 ≤ (sp_as x).length then sp_ind ft FB f x st else none) else sp_cs2 (sp_lf ft FB TB r x) st
def sp_sg (f : ob_T → Int → Option (List ob_T × Int)) (g : ob_T → Int → Int) : List ob_T → Int → Int
  | [], st => st
  | x :: r, st => match f x st with
    | none => g x st
    | some p => sp_sg f g r p.2
theorem sp_sg_s {f : ob_T → Int → Option (List ob_T × Int)} {g : ob_T → Int → Int} {x : ob_T} {r : List ob_T} {st s1 : Int} {D : List ob_T} (h : f x st = some (D, s1)) : sp_sg f g (x :: r) st = sp_sg f g r s1 := by
  show (match f x st with
    | none => g x st
    | some p => sp_sg f g r p.2) = _
  rw [h]
theorem sp_sg_n {f : ob_T → Int → Option (List ob_T × Int)} {g : ob_T → Int → Int} {x : ob_T} {r : List ob_T} {st : Int} (h : f x st = none) : sp_sg f g (x :: r) st = g x st := by
  show (match f x st with
    | none => g x st
    | some p => sp_sg f g r p.2) = _
  rw [h]
def sp_fw (ft : Nat → Int) (x : ob_T) : Prop := sp_pl (sp_p 1 x) = true ∧ sp_all ((sp_as (sp_p 1 x)).map (sp_tm ft)) ≠ none
def sp_fi (ft : Nat → Int) (x : ob_T) : Prop := ((∀ y ∈ (sp_as x).drop 2, sp_pl y = true ∧ (sp_as y).length = 2 ∧ sp_iv (sp_p 0 y) = true) ∧ (((sp_as x).drop 2).map (sp_p 0)).Nodup) ∧ sp_all (((sp_as x).drop 2).map (fun y => sp_tm ft (sp_p 1 y))) ≠ none
def sp_fd (ft : Nat → Int) (FB : List (Nat × List Nat × ob_T)) (x : ob_T) : Prop := sp_tm ft (sp_p 1 x) ≠ none ∧ ∃ fn : Nat × List Nat × ob_T, sp_fb FB (sp_p 0 (sp_p 2 x)) = some fn ∧ sp_pl (sp_p 2 x) = true ∧ sp_vs 6 (sp_cd (sp_p 2 x)) ∧ (sp_cc fn.1 fn.2.2).1 ≠ [] ∧ (sp_as (sp_cd (sp_p 2 x))).length = fn.2.1.length ∧ (sp_as x).length = (sp_ph fn.2.2).length + 3
noncomputable def sp_ins (ft : Nat → Int) (FB : List (Nat × List Nat × ob_T)) (r : Nat) (x : ob_T) : List ob_T := if r = 2399032 then ifc ((sp_as x).length = 3 ∧ sp_fw ft x) [sp_p 2 x] [] else if r = 7634 then ifc ((sp_as x).length = 4 ∧ sp_tm ft (sp_p 1 x) ≠ none) [sp_p 2 x, sp_p 3 x] [] else if r = 966246 then ifc (2 ≤ (sp_as x).length ∧ sp_fi ft x) [sp_p 1 x] [] else if r = 2023507 then ifc ((sp_as x).length = 2) [sp_p 1 x] [] else if r = 36351 then ifc ((sp_as x).length = 3) [sp_p 1 x, sp_p 2 x] [] else if r = 2132882439 then ifc (3 ≤ (sp_as x).length ∧ sp_fd ft FB x) ((sp_as x).drop 3) [] else []
noncomputable def sp_pr (ft : Nat → Int) (FB : List (Nat × List Nat × ob_T)) (TB : List (Nat × ob_T)) (fuel : Int) : Nat → ob_T → Int → Option (List ob_T × Int)
  | 0, _, _ => none
  | d + 1, x, st => if fuel ≤ st ∨ sp_pl x = false then none else sp_ru ft FB TB (sp_pr ft FB TB fuel d) (sp_hc (sp_p 0 x)) x (st + 1)
noncomputable def sp_sn (ft : Nat → Int) (FB : List (Nat × List Nat × ob_T)) (TB : List (Nat × ob_T)) (fuel : Int) : Nat → ob_T → Int → Int
  | 0, _, st => st
  | d + 1, x, st => if fuel ≤ st then st else if sp_pl x = false then st + 1 else sp_sg (sp_pr ft FB TB fuel d) (sp_sn ft FB TB fuel d) (sp_ins ft FB (sp_hc (sp_p 0 x)) x) (st + 1)
