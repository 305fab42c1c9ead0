def sp_nil : ob_T := .var 31361
def sp_q (x : ob_T) : ob_T := .add (.var 85168940) (.add x sp_nil)
abbrev sp_F : Type := List (Int × List ob_T)
def sp_nk (k : Int) : Int := if k = 0 then 1 else if k = 5 then 6 else 4
def sp_add : sp_F → ob_T → sp_F
  | [], _ => []
  | (k, l) :: r, x => if k = 2 then sp_add r (sp_q x) else (sp_nk k, x :: l) :: r
def sp_ls : List ob_T → ob_T → ob_T
  | [], v => v
  | x :: l, v => sp_ls l (.add x v)
def sp_cv (k : Int) (l : List ob_T) : ob_T := if k = 6 then (match l with
  | [] => sp_nil
  | v :: l2 => sp_ls l2 v) else sp_ls l sp_nil
def sp_cl : sp_F → sp_F
  | [] => []
  | (k, l) :: r => sp_add r (sp_cv k l)
abbrev sp_may (w k : Int) : Prop := (w = 41 ∧ (k = 3 ∨ k = 4 ∨ k = 6)) ∨ (w = 46 ∧ k = 4) ∨ (w ≠ 41 ∧ w ≠ 46 ∧ k ≠ 1 ∧ k ≠ 6)
def sp_top : sp_F → Int
  | [] => 0
  | (k, _) :: _ => k
def sp_dot : sp_F → sp_F
  | [] => []
  | (_, l) :: r => (5, l) :: r
def sp_acc (w : Int) (x : ob_T) (F : sp_F) : sp_F := if w = 40 then (3, []) :: F else if w = 39 then (2, []) :: F else if w = 46 then sp_dot F else if w = 41 then sp_cl F else sp_add F x
def sp_end : sp_F → Option ob_T
  | [(1, [x])] => some x
  | _ => none
def sp_wd (f : Int → Int) (n p : Int) : Int := if 0 ≤ LIX (f p) then sp_ae f (n - p).toNat p else p + 1
def sp_wt (f : Int → Int) (n p : Int) : Option (Int × ob_T) := if 0 ≤ LIX (f p) then (sp_at f p (sp_ae f (n - p).toNat p - p).toNat).map (fun t => (3, t)) else if f p = 40 ∨ f p = 41 ∨ f p = 39 ∨ f p = 46 then some (f p, .num 0) else none
abbrev sp_ok (w v : Int) (F : sp_F) : Prop := sp_may v (sp_top F) ∧ w < 1000 ∧ ((v = 40 ∨ v = 39) → F.length ≤ 40)
def sp_rd (f : Int → Int) (n : Int) : Nat → Int → Int → sp_F → Option ob_T
  | 0, _, _, _ => none
  | m + 1, p, w, F => if n ≤ p then sp_end F else match sp_wt f n p with
    | none => none
    | some x => if sp_ok w x.1 F then sp_rd f n m (sp_sk f (n - sp_wd f n p).toNat (sp_wd f n p) 0) (w + 1) (sp_acc x.1 x.2 F) else none
def sp_RD (f : Int → Int) (n : Int) : Option ob_T := sp_rd f n (n.toNat + 1) (sp_sk f n.toNat 0 0) 0 [(0, [])]
def WFr : sp_F → Prop
  | [] => True
  | (k, l) :: r => ((k = 2 → l = []) ∧ (k = 3 → l = []) ∧ (k = 6 → 2 ≤ l.length) ∧ (k = 0 → l = [] ∧ r = []) ∧ (k = 1 → l.length = 1 ∧ r = []) ∧ (r = [] → k = 0 ∨ k = 1) ∧ (k = 4 → 1 ≤ l.length) ∧ (k = 5 → 1 ≤ l.length)) ∧ WFr r
