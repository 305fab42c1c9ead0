/-! THE EXECUTOR, groups B and C: the heap, calls, returns. A picture of the heap is a list of cells: an array (component type, contents) or an object (number of its class, fields). -/
abbrev xx_E : Type := (FieldType × List Value) ⊕ (Nat × List Value)
abbrev xx_H : Type := List xx_E
/-- the tables of a program that the heap steps read: constants, fields' places, fields' types and which class makes them final, statics, classes made, their new fields, components of arrays made, casts, stores into arrays of references, the number of old cells -/
abbrev xx_T : Type := (Nat → Nat → Option Value) × (Nat → Nat → Nat → Option Nat) × (Nat → Nat → Option (FieldType × Option Nat)) × (Nat → Nat → Option Value) × (Nat → Nat → Option Nat) × (Nat → List Value) × (Nat → Nat → Option FieldType) × (Nat → Nat → Nat → Bool) × (String → Nat → Bool) × Nat
/-- the calls: static, special: the method, how many arguments (the receiver counted); virtual: how many arguments, and the method for each class of the receiver; Object.<init>, which does nothing -/
abbrev xx_C : Type := (Nat → Nat → Option (Nat × Nat)) × (Nat → Nat → Option (Nat × Nat)) × (Nat → Nat → Option (Nat × List (Nat × Nat))) × (Nat → Nat → Bool)
/-- a program: code, the class of a method, its locals, is it a constructor, what it returns; the tables; the calls -/
abbrev xx_P : Type := (Nat → Nat → Option Instr) × (Nat → Nat) × (Nat → Nat) × (Nat → Bool) × (Nat → Option FieldType) × xx_T × xx_C
def xp_code (P : xx_P) : Nat → Nat → Option Instr := P.1
def xp_own (P : xx_P) : Nat → Nat := P.2.1
def xp_nl (P : xx_P) : Nat → Nat := P.2.2.1
def xp_ini (P : xx_P) : Nat → Bool := P.2.2.2.1
def xp_ret (P : xx_P) : Nat → Option FieldType := P.2.2.2.2.1
def xp_con (P : xx_P) : Nat → Nat → Option Value := P.2.2.2.2.2.1.1
def xp_fld (P : xx_P) : Nat → Nat → Nat → Option Nat := P.2.2.2.2.2.1.2.1
def xp_fty (P : xx_P) : Nat → Nat → Option (FieldType × Option Nat) := P.2.2.2.2.2.1.2.2.1
def xp_sta (P : xx_P) : Nat → Nat → Option Value := P.2.2.2.2.2.1.2.2.2.1
def xp_cls (P : xx_P) : Nat → Nat → Option Nat := P.2.2.2.2.2.1.2.2.2.2.1
def xp_dfl (P : xx_P) : Nat → List Value := P.2.2.2.2.2.1.2.2.2.2.2.1
def xp_acl (P : xx_P) : Nat → Nat → Option FieldType := P.2.2.2.2.2.1.2.2.2.2.2.2.1
def xp_cst (P : xx_P) : Nat → Nat → Nat → Bool := P.2.2.2.2.2.1.2.2.2.2.2.2.2.1
def xp_asg (P : xx_P) : String → Nat → Bool := P.2.2.2.2.2.1.2.2.2.2.2.2.2.2.1
def xp_n0 (P : xx_P) : Nat := P.2.2.2.2.2.1.2.2.2.2.2.2.2.2.2
def xp_smt (P : xx_P) : Nat → Nat → Option (Nat × Nat) := P.2.2.2.2.2.2.1
def xp_pmt (P : xx_P) : Nat → Nat → Option (Nat × Nat) := P.2.2.2.2.2.2.2.1
def xp_vmt (P : xx_P) : Nat → Nat → Option (Nat × List (Nat × Nat)) := P.2.2.2.2.2.2.2.2.1
def xp_obi (P : xx_P) : Nat → Nat → Bool := P.2.2.2.2.2.2.2.2.2
/-- may a variable of this type hold this value as it is -/
def xx_fit (ty : FieldType) (v : Value) : Bool := match ty, v with
  | .int, .int _ => true
  | .long, .long _ => true
  | .boolean, .int x => x == 0 || x == 1
  | .byte, .int x => decide (x.toInt8.toInt32 = x) && fits .byte (.int x)
  | .char, .int x => decide (x.toUInt32.toUInt16.toUInt32.toInt32 = x) && fits .char (.int x)
  | .object _, .null => true
  | .object _, .ref _ => true
  | .array _, .null => true
  | .array _, .ref _ => true
  | _, _ => false
abbrev xb_O : Type := Option (Nat × List Value × xx_H)
def xb_push (n pc : Nat) (v : Option Value) (st : List Value) (h : xx_H) : xb_O := match v with
  | some v => some (pc + n, v :: st, h)
  | none => none
def xb_get (P : xx_P) (o idx pc : Nat) (st : List Value) (h : xx_H) : xb_O := match st with
  | .ref a :: r => match h[a]? with
    | some (.inr (ci, fs)) => match xp_fld P o idx ci with
      | some j => match fs[j]? with
        | some v => some (pc + 3, v :: r, h)
        | none => none
      | none => none
    | _ => none
  | _ => none
/-- a final field is put by its own class's constructor alone -/
def xb_may (P : xx_P) (k o : Nat) (fin : Option Nat) : Bool := match fin with
  | none => true
  | some o' => Nat.beq o' o && xp_ini P k
def xb_put (P : xx_P) (k o idx pc : Nat) (st : List Value) (h : xx_H) : xb_O := match st with
  | v :: .ref a :: r => match h[a]? with
    | some (.inr (ci, fs)) => match xp_fld P o idx ci with
      | some j => match xp_fty P ci j with
        | some (ty, fin) => xa_g (Nat.ble (xp_n0 P) a && (Nat.blt j fs.length && (xx_fit ty v && xb_may P k o fin))) (some (pc + 3, r, h.set a (.inr (ci, fs.set j v))))
        | none => none
      | none => none
    | _ => none
  | _ => none
/-- an index of an array -/
def xb_ix (j : Int32) (n : Nat) : Option Nat := if j < 0 then none else if j.toNatClampNeg < n then some j.toNatClampNeg else none
def xb_ald (ty : FieldType) (pc : Nat) (st : List Value) (h : xx_H) : xb_O := match st with
  | .int j :: .ref a :: r => match h[a]? with
    | some (.inl (ty', vs)) => match decide (ty' = ty) with
      | true => match xb_ix j vs.length with
        | some n => xb_push 1 pc vs[n]? r h
        | none => none
      | false => none
    | _ => none
  | _ => none
def xb_ast (P : xx_P) (ty : FieldType) (pc : Nat) (st : List Value) (h : xx_H) : xb_O := match st with
  | v :: .int j :: .ref a :: r => match h[a]? with
    | some (.inl (ty', vs)) => match decide (ty' = ty) && (Nat.ble (xp_n0 P) a && xx_fit ty v) with
      | true => match xb_ix j vs.length with
        | some n => some (pc + 1, r, h.set a (.inl (ty', vs.set n v)))
        | none => none
      | false => none
    | _ => none
  | _ => none
def xb_len (pc : Nat) (st : List Value) (h : xx_H) : xb_O := match st with
  | .ref a :: r => match h[a]? with
    | some (.inl (_, vs)) => some (pc + 1, .int (Int32.ofNat vs.length) :: r, h)
    | _ => none
  | _ => none
def xb_new (P : xx_P) (o idx pc : Nat) (st : List Value) (h : xx_H) : xb_O := match xp_cls P o idx with
  | some ci => some (pc + 3, .ref h.length :: st, h ++ [.inr (ci, xp_dfl P ci)])
  | none => none
def xb_newa (ty : FieldType) (pc : Nat) (st : List Value) (h : xx_H) : xb_O := match st with
  | .int j :: r => match decide (¬ j < 0) && Nat.ble (j.toNatClampNeg * 8) 536870912 with
    | true => some (pc + 2, .ref h.length :: r, h ++ [.inl (ty, List.replicate j.toNatClampNeg (defaultValue ty))])
    | false => none
  | _ => none
def xb_ty (t : ArrayType) : Option FieldType := match t with
  | .int => some .int
  | .long => some .long
  | .boolean => some .boolean
  | _ => none
/-- a step on the heap: the next place, stack and heap -/
def xb_step (P : xx_P) (k : Nat) (i : Instr) (pc : Nat) (st : List Value) (h : xx_H) : xb_O := match i with
  | .ldc n => match xp_con P (xp_own P k) n with
    | some (.int x) => some (pc + 2, .int x :: st, h)
    | some (.ref x) => some (pc + 2, .ref x :: st, h)
    | _ => none
  | .ldc_w n => match xp_con P (xp_own P k) n with
    | some (.int x) => some (pc + 3, .int x :: st, h)
    | _ => none
  | .ldc2_w n => match xp_con P (xp_own P k) n with
    | some (.long x) => some (pc + 3, .long x :: st, h)
    | _ => none
  | .getstatic n => xb_push 3 pc (xp_sta P (xp_own P k) n) st h
  | .getfield n => xb_get P (xp_own P k) n pc st h
  | .putfield n => xb_put P k (xp_own P k) n pc st h
  | .iaload => xb_ald .int pc st h
  | .laload => xb_ald .long pc st h
  | .baload => xb_ald .byte pc st h
  | .iastore => xb_ast P .int pc st h
  | .lastore => xb_ast P .long pc st h
  | .arraylength => xb_len pc st h
  | .new n => xb_new P (xp_own P k) n pc st h
  | .newarray t => match xb_ty t with
    | some ty => xb_newa ty pc st h
    | none => none
  | _ => none
/-- a call: the method, its arguments, what is left of the stack -/
abbrev xc_O : Type := Option (Nat × List Value × List Value)
def xc_cut (m n : Nat) (st : List Value) : xc_O := match Nat.ble n st.length && Nat.ble (((st.drop n).map Value.category).sum) 8 with
  | true => some (m, (st.take n).reverse, st.drop n)
  | false => none
def xc_recv (n : Nat) (st : List Value) (h : xx_H) : Option Nat := match st[n - 1]? with
  | some (.ref a) => match h[a]? with
    | some (.inr (ci, _)) => some ci
    | _ => none
  | _ => none
def xc_step (P : xx_P) (k : Nat) (i : Instr) (st : List Value) (h : xx_H) : xc_O := match i with
  | .invokestatic n => match xp_smt P (xp_own P k) n with
    | some (m, q) => xc_cut m q st
    | none => none
  | .invokespecial n => match xp_pmt P (xp_own P k) n with
    | some (m, q) => match st[q - 1]? with
      | some (.ref _) => xc_cut m q st
      | _ => none
    | none => none
  | .invokevirtual n => match xp_vmt P (xp_own P k) n with
    | some (q, l) => match xc_recv q st h with
      | some ci => match l.lookup ci with
        | some m => xc_cut m q st
        | none => none
      | none => none
    | none => none
  | _ => none
/-- Object.<init> -/
def xo_step (P : xx_P) (k : Nat) (i : Instr) (st : List Value) : Option (List Value) := match i with
  | .invokespecial n => match xp_obi P (xp_own P k) n with
    | true => match st with
      | .ref _ :: r => match Nat.ble ((r.map Value.category).sum) 8 with
        | true => some r
        | false => none
      | _ => none
    | false => none
  | _ => none
def xx_isref (t : FieldType) : Bool := match t with
  | .object _ => true
  | .array _ => true
  | _ => false
def xr_step (ret : Option FieldType) (i : Instr) (st : List Value) : Option (Option Value) := match i with
  | .return_ => match ret, st with
    | none, [] => some none
    | _, _ => none
  | .ireturn => match ret, st with
    | some ty, [.int x] => xa_g (xx_fit ty (.int x)) (some (some (.int x)))
    | _, _ => none
  | .lreturn => match ret, st with
    | some .long, [.long x] => some (some (.long x))
    | _, _ => none
  | .areturn => match ret, st with
    | some ty, [.ref x] => xa_g (xx_isref ty) (some (some (.ref x)))
    | some ty, [.null] => xa_g (xx_isref ty) (some (some .null))
    | _, _ => none
  | _ => none
abbrev xx_R : Type := Option (Option Value × xx_H)
/-- a method's run from a place on, its calls by Rc; f: so many instructions at most -/
def xx_run (P : xx_P) (Rc : Nat → List Value → xx_H → xx_R) : Nat → Nat → Nat → xx_L → List Value → xx_H → xx_R
  | 0, _, _, _, _, _ => none
  | f + 1, k, pc, ls, st, h => match xp_code P k pc with
    | none => none
    | some i => match xa_step i pc ls st with
      | some (pc', ls', st') => xx_run P Rc f k pc' ls' st' h
      | none => match xb_step P k i pc st h with
        | some (pc', st', h') => xx_run P Rc f k pc' ls st' h'
        | none => match xo_step P k i st with
          | some st' => xx_run P Rc f k (pc + 3) ls st' h
          | none => match xc_step P k i st h with
            | some (m, as, r) => match Rc m as h with
              | some (v, h') => xx_run P Rc f k (pc + 3) ls (v.toList ++ r) h'
              | none => none
            | none => match xr_step (xp_ret P k) i st with
              | some v => some (v, h)
              | none => none
/-- the locals at a method's entry -/
def xx_args : List Value → xx_L
  | [] => []
  | .long x :: l => some (.long x) :: none :: xx_args l
  | .double x :: l => some (.double x) :: none :: xx_args l
  | v :: l => some v :: xx_args l
def xx_ent (n : Nat) (as : List Value) : xx_L := xx_args as ++ List.replicate (n - (xx_args as).length) none
/-- a call: d frames deep at most, F instructions a method at most -/
def xx_call (P : xx_P) (F : Nat) : Nat → Nat → List Value → xx_H → xx_R
  | 0, _, _, _ => none
  | d + 1, k, as, h => match Nat.ble (xx_args as).length (xp_nl P k) with
    | true => xx_run P (xx_call P F d) F k 0 (xx_ent (xp_nl P k) as) [] h
    | false => none
