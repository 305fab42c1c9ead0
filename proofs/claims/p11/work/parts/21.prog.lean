def xt_fldF (o idx ci : Nat) : Option Nat := (xt_fld.find? (fun e => Nat.beq e.1 o && (Nat.beq e.2.1 idx && Nat.beq e.2.2.1 ci))).map (fun e => e.2.2.2.1)
def xt_ftyF (ci j : Nat) : Option (FieldType × Option Nat) := match xt_cl[ci]? with
  | some r => match Nat.blt j r.2.2 with
    | true => some (xt_ts ci j, match (r.2.1 j).2.2.2 with
      | true => some (xt_co ci)
      | false => none)
    | false => none
  | none => none
def xt_conF (o idx : Nat) : Option Value := (xt_con.find? (fun e => Nat.beq e.1 o && Nat.beq e.2.1 idx)).map (fun e => e.2.2.1)
def xt_stv (z : Value) : List (String × String × String × Value) := [("java/lang/String", "COMPACT_STRINGS", "Z", .int 1), ("jdk/internal/util/Preconditions", "SIOOBE_FORMATTER", "Ljava/util/function/BiFunction;", z), ("java/util/ArrayList", "DEFAULTCAPACITY_EMPTY_ELEMENTDATA", "[Ljava/lang/Object;", .ref 10), ("ClauseKernel", "TAKES", "[I", .ref 11)]
def xt_staF (z : Value) (o idx : Nat) : Option Value := match xt_sta.find? (fun e => Nat.beq e.1 o && Nat.beq e.2.1 idx) with
  | some e => (xt_stv z)[e.2.2.1]?.map (fun q => q.2.2.2)
  | none => none
def xt_clsF (o idx : Nat) : Option Nat := (xt_cls.find? (fun e => Nat.beq e.1 o && Nat.beq e.2.1 idx)).map (fun e => e.2.2.1)
def xt_dfl (ci : Nat) : List Value := match xt_cl[ci]? with
  | some r => (List.range r.2.2).map (fun k => defaultValue (xt_ts ci k))
  | none => []
def xt_smtF (o idx : Nat) : Option (Nat × Nat) := (xt_smt.find? (fun e => Nat.beq e.1 o && Nat.beq e.2.1 idx)).map (fun e => (e.2.2.1, e.2.2.2.1))
def xt_pmtF (o idx : Nat) : Option (Nat × Nat) := (xt_pmt.find? (fun e => Nat.beq e.1 o && Nat.beq e.2.1 idx)).map (fun e => (e.2.2.1, e.2.2.2.1))
def xt_vmtF (o idx : Nat) : Option (Nat × List (Nat × Nat)) := (xt_vmt.find? (fun e => Nat.beq e.1 o && Nat.beq e.2.1 idx)).map (fun e => (e.2.2.1, [(e.2.2.2.1, e.2.2.2.2.1)]))
def xt_obiF (o idx : Nat) : Nat := match xt_obi.find? (fun e => Nat.beq e.1 o && Nat.beq e.2.1 idx) with
  | some e => e.2.2.1
  | none => 0
def xt_aclF (o idx : Nat) : Option FieldType := (xt_acl.find? (fun e => Nat.beq e.1 o && Nat.beq e.2.1 idx)).map (fun e => e.2.2.1)
def xt_cstF (o idx ci : Nat) : Bool := (xt_cst.find? (fun e => Nat.beq e.1 o && (Nat.beq e.2.1 idx && Nat.beq e.2.2.1 ci))).isSome
def xt_asg (C : String) (ci : Nat) : Bool := match xt_cl[ci]? with
  | some r => C == r.1 || (C == "java/lang/Object" && r.1 == "ClauseKernel$Thing")
  | none => false
def xt_P (z : Value) : xx_P := (fun k pc => (xt_code k).lookup pc, xt_own, xt_nl, xt_ini, xt_ret, (xt_conF, xt_fldF, xt_ftyF, xt_staF z, xt_clsF, xt_dfl, xt_aclF, xt_cstF, xt_asg, 12), (xt_smtF, xt_pmtF, xt_vmtF, xt_obiF))
