theorem ol_take {m : Int} {nO : Int → Int} {fO : Int → Int → Int} {k : Nat} (h : (k : Int) < m) : (ol m nO fO).take (k + 1) = (ol m nO fO).take k ++ [rl (nO k) (fO k)] := by
  have e := ol_drop (nO := nO) (fO := fO) (k := k) h
  have g : (ol m nO fO)[k]? = some (rl (nO k) (fO k)) := by
    have q := congrArg List.head? e
    rw [List.head?_drop] at q
    exact q
  rw [List.take_succ, g]
  rfl
def rpI (A B : List Int) (r : List Int) : Option (List Int) := opR (repR A B r.length r)
theorem rpI_tr {N : Int → Int} {U : Int} {ft : Nat → Int} (hD : HD N U) (hI : HI ft) {A B : List Int} {a b : ob_T} (ha : TRT N U ft A a) (hb : TRT N U ft B b) : ∀ {Z : List (List Int)} {D : List ob_T}, TRO N U ft Z D → ITR N U ft (Z.map (rpI A B)) (D.map (fun t => sp_opO (sp_re a b t).1))
  | [], [], _ => trivial
  | [], _ :: _, h => absurd h id
  | _ :: _, [], h => absurd h id
  | r :: Z, t :: D, h => ITR_one (OTR_op (TRT_rep hD hI ha hb h.1)) (rpI_tr hD hI ha hb (Z := Z) (D := D) h.2)
