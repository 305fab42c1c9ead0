abbrev xx_L : Type := List (Option Value)
def xx_v (ad : Nat → Nat) (v : Value) : Value := match v with
  | .ref a => .ref (ad a)
  | w => w
def xx_kill (x : Option Value) : Option Value := match x with
  | some (.long _) => none
  | some (.double _) => none
  | y => y
def xx_set1 : xx_L → Nat → Value → xx_L
  | [], _, _ => []
  | _ :: l, 0, v => some v :: l
  | x :: l, 1, v => xx_kill x :: xx_set1 l 0 v
  | x :: l, i + 2, v => x :: xx_set1 l (i + 1) v
def xx_set2 (ls : xx_L) (i : Nat) (v : Value) : xx_L := (xx_set1 ls i v).set (i + 1) none
def xx_len (i : Instr) : Nat := match i with
  | .aload _ => 2
  | .astore _ => 2
  | .bipush _ => 2
  | .iload _ => 2
  | .istore _ => 2
  | .lload _ => 2
  | .lstore _ => 2
  | .ldc _ => 2
  | .newarray _ => 2
  | .anewarray _ => 3
  | .checkcast _ => 3
  | .getfield _ => 3
  | .getstatic _ => 3
  | .goto _ => 3
  | .if_acmp _ _ => 3
  | .if_icmp _ _ => 3
  | .ifCond _ _ => 3
  | .ifnonnull _ => 3
  | .ifnull _ => 3
  | .iinc _ _ => 3
  | .instanceof _ => 3
  | .invokespecial _ => 3
  | .invokestatic _ => 3
  | .invokevirtual _ => 3
  | .ldc_w _ => 3
  | .ldc2_w _ => 3
  | .new _ => 3
  | .putfield _ => 3
  | .sipush _ => 3
  | _ => 1
def xx_sw (i : Instr) : Bool := match i with
  | .tableswitch _ _ _ _ => true
  | .lookupswitch _ _ => true
  | _ => false
def xx_dec (cc : ByteArray) (pc : Nat) (i : Instr) : Prop := ∃ len, decode cc pc = .ok (i, len) ∧ (xx_sw i = true ∨ len = xx_len i)
theorem xx_dec1 {cc : ByteArray} {pc : Nat} {i : Instr} (h : xx_dec cc pc i) (hs : xx_sw i = false) : decode cc pc = .ok (i, xx_len i) := by
  obtain ⟨len, h1, h2 | h2⟩ := h
  · rw [hs] at h2
    cases h2
  · rw [h2] at h1
    exact h1
def xa_br (pc : Nat) (off : Int) : Option Nat := match (pc : Int) + off with
  | .ofNat t => some t
  | .negSucc _ => none
abbrev xa_O : Type := Option (Nat × xx_L × List Value)
def xa_jmp (pc : Nat) (off : Int) (ls : xx_L) (st : List Value) : xa_O := match xa_br pc off with
  | some t => some (t, ls, st)
  | none => none
def xa_if (b : Bool) (pc : Nat) (off : Int) (ls : xx_L) (st : List Value) : xa_O := match xa_br pc off with
  | none => none
  | some t => match b with
    | true => some (t, ls, st)
    | false => some (pc + 3, ls, st)
def xa_ci (c : Jvm.ClassFile.Cond) (x y : Int32) : Bool := match c with
  | .eq => decide (x = y)
  | .ne => decide (¬ x = y)
  | .lt => decide (x < y)
  | .ge => decide (y ≤ x)
  | .gt => decide (y < x)
  | .le => decide (x ≤ y)
def xa_ild (j n pc : Nat) (ls : xx_L) (st : List Value) : xa_O := match ls[j]? with
  | some (some (.int x)) => some (pc + n, ls, .int x :: st)
  | _ => none
def xa_lld (j n pc : Nat) (ls : xx_L) (st : List Value) : xa_O := match ls[j]? with
  | some (some (.long x)) => some (pc + n, ls, .long x :: st)
  | _ => none
def xa_ald (j n pc : Nat) (ls : xx_L) (st : List Value) : xa_O := match ls[j]? with
  | some (some (.ref x)) => some (pc + n, ls, .ref x :: st)
  | some (some .null) => some (pc + n, ls, .null :: st)
  | _ => none
def xa_g {α : Type} (b : Bool) (x : Option α) : Option α := match b with
  | true => x
  | false => none
def xa_ist (j n pc : Nat) (ls : xx_L) (st : List Value) : xa_O := match st with
  | .int x :: r => xa_g (Nat.blt j ls.length) (some (pc + n, xx_set1 ls j (.int x), r))
  | _ => none
def xa_lst (j n pc : Nat) (ls : xx_L) (st : List Value) : xa_O := match st with
  | .long x :: r => xa_g (Nat.blt (j + 1) ls.length) (some (pc + n, xx_set2 ls j (.long x), r))
  | _ => none
def xa_ast (j n pc : Nat) (ls : xx_L) (st : List Value) : xa_O := match st with
  | .ref x :: r => xa_g (Nat.blt j ls.length) (some (pc + n, xx_set1 ls j (.ref x), r))
  | .null :: r => xa_g (Nat.blt j ls.length) (some (pc + n, xx_set1 ls j .null, r))
  | _ => none
def xa_inc (j : Nat) (n : Int) (pc : Nat) (ls : xx_L) (st : List Value) : xa_O := match ls[j]? with
  | some (some (.int x)) => some (pc + 3, xx_set1 ls j (.int (x + Int32.ofInt n)), st)
  | _ => none
def xa_ii (pc : Nat) (ls : xx_L) (st : List Value) (f : Int32 → Int32 → Int32) : xa_O := match st with
  | .int y :: .int x :: r => some (pc + 1, ls, .int (f x y) :: r)
  | _ => none
def xa_iid (pc : Nat) (ls : xx_L) (st : List Value) (f : Int32 → Int32 → Int32) : xa_O := match st with
  | .int y :: .int x :: r => xa_g (decide (¬ y = 0)) (some (pc + 1, ls, .int (f x y) :: r))
  | _ => none
def xa_ll (pc : Nat) (ls : xx_L) (st : List Value) (f : Int64 → Int64 → Int64) : xa_O := match st with
  | .long y :: .long x :: r => some (pc + 1, ls, .long (f x y) :: r)
  | _ => none
def xa_lld0 (pc : Nat) (ls : xx_L) (st : List Value) (f : Int64 → Int64 → Int64) : xa_O := match st with
  | .long y :: .long x :: r => xa_g (decide (¬ y = 0)) (some (pc + 1, ls, .long (f x y) :: r))
  | _ => none
def xa_li (pc : Nat) (ls : xx_L) (st : List Value) (f : Int64 → Int32 → Int64) : xa_O := match st with
  | .int y :: .long x :: r => some (pc + 1, ls, .long (f x y) :: r)
  | _ => none
def xa_i (pc : Nat) (ls : xx_L) (st : List Value) (f : Int32 → Int32) : xa_O := match st with
  | .int x :: r => some (pc + 1, ls, .int (f x) :: r)
  | _ => none
def xa_icmp (c : Jvm.ClassFile.Cond) (off : Int) (pc : Nat) (ls : xx_L) (st : List Value) : xa_O := match st with
  | .int y :: .int x :: r => xa_if (xa_ci c x y) pc off ls r
  | _ => none
def xa_ifc (c : Jvm.ClassFile.Cond) (off : Int) (pc : Nat) (ls : xx_L) (st : List Value) : xa_O := match st with
  | .int x :: r => xa_if (xa_ci c x 0) pc off ls r
  | _ => none
def xa_table (d lo hi : Int) (offs : Array Int) (pc : Nat) (ls : xx_L) (st : List Value) : xa_O := match st with
  | .int x :: r => if x.toInt < lo ∨ hi < x.toInt then xa_jmp pc d ls r else match offs[(x.toInt - lo).toNat]? with
    | some off => xa_jmp pc off ls r
    | none => none
  | _ => none
def xa_look (d : Int) (ps : Array (Int × Int)) (pc : Nat) (ls : xx_L) (st : List Value) : xa_O := match st with
  | .int x :: r => xa_g ((ps.toList.zip (ps.toList.drop 1)).all (fun (a, next) => a.1 < next.1)) (xa_jmp pc (Op.lookupswitch.offset ps.toList d x.toInt) ls r)
  | _ => none
def xa_step (i : Instr) (pc : Nat) (ls : xx_L) (st : List Value) : xa_O := match i with
  | .aconst_null => some (pc + 1, ls, .null :: st)
  | .iconst n => some (pc + 1, ls, .int (Int32.ofInt n) :: st)
  | .lconst n => some (pc + 1, ls, .long (Int64.ofNat (n : Nat)) :: st)
  | .bipush n => some (pc + 2, ls, .int (Int8.ofInt n).toInt32 :: st)
  | .sipush n => some (pc + 3, ls, .int (Int16.ofInt n).toInt32 :: st)
  | .iload j => xa_ild j 2 pc ls st
  | .iload_n j => xa_ild j 1 pc ls st
  | .lload j => xa_lld j 2 pc ls st
  | .lload_n j => xa_lld j 1 pc ls st
  | .aload j => xa_ald j 2 pc ls st
  | .aload_n j => xa_ald j 1 pc ls st
  | .istore j => xa_ist j 2 pc ls st
  | .istore_n j => xa_ist j 1 pc ls st
  | .lstore j => xa_lst j 2 pc ls st
  | .lstore_n j => xa_lst j 1 pc ls st
  | .astore j => xa_ast j 2 pc ls st
  | .astore_n j => xa_ast j 1 pc ls st
  | .iinc j n => xa_inc j n pc ls st
  | .iadd => xa_ii pc ls st (fun x y => x + y)
  | .isub => xa_ii pc ls st (fun x y => x - y)
  | .imul => xa_ii pc ls st (fun x y => x * y)
  | .iand => xa_ii pc ls st (fun x y => x &&& y)
  | .ior => xa_ii pc ls st (fun x y => x ||| y)
  | .ixor => xa_ii pc ls st (fun x y => x ^^^ y)
  | .ishl => xa_ii pc ls st (fun x y => x <<< (y &&& 31))
  | .ishr => xa_ii pc ls st (fun x y => x >>> (y &&& 31))
  | .iushr => xa_ii pc ls st (fun x y => (x.toUInt32 >>> (y.toUInt32 &&& Int32.toUInt32 31)).toInt32)
  | .idiv => xa_iid pc ls st (fun x y => x / y)
  | .irem => xa_iid pc ls st (fun x y => x - x / y * y)
  | .ladd => xa_ll pc ls st (fun x y => x + y)
  | .lsub => xa_ll pc ls st (fun x y => x - y)
  | .lmul => xa_ll pc ls st (fun x y => x * y)
  | .land => xa_ll pc ls st (fun x y => x &&& y)
  | .lor => xa_ll pc ls st (fun x y => x ||| y)
  | .lxor => xa_ll pc ls st (fun x y => x ^^^ y)
  | .ldiv => xa_lld0 pc ls st (fun x y => x / y)
  | .lrem => xa_lld0 pc ls st (fun x y => x - x / y * y)
  | .lshl => xa_li pc ls st (fun x y => x <<< (y.toInt64 &&& 63))
  | .lshr => xa_li pc ls st (fun x y => x >>> (y.toInt64 &&& 63))
  | .lushr => xa_li pc ls st (fun x y => (x.toUInt64 >>> (y.toInt64.toUInt64 &&& Int64.toUInt64 63)).toInt64)
  | .ineg => xa_i pc ls st (fun x => -x)
  | .i2b => xa_i pc ls st (fun x => x.toInt8.toInt32)
  | .i2c => xa_i pc ls st (fun x => (x.toUInt32 % 65536).toInt32)
  | .i2s => xa_i pc ls st (fun x => x.toInt16.toInt32)
  | .i2l => match st with
    | .int x :: r => some (pc + 1, ls, .long x.toInt64 :: r)
    | _ => none
  | .l2i => match st with
    | .long x :: r => some (pc + 1, ls, .int x.toInt32 :: r)
    | _ => none
  | .lcmp => match st with
    | .long y :: .long x :: r => some (pc + 1, ls, .int (lg_cmp x y) :: r)
    | _ => none
  | .dup => match st with
    | a :: r => xa_g (Nat.beq a.category 1) (some (pc + 1, ls, a :: a :: r))
    | _ => none
  | .pop => match st with
    | a :: r => xa_g (Nat.beq a.category 1) (some (pc + 1, ls, r))
    | _ => none
  | .dup_x1 => match st with
    | a :: b :: r => xa_g (Nat.beq a.category 1 && Nat.beq b.category 1) (some (pc + 1, ls, a :: b :: a :: r))
    | _ => none
  | .dup_x2 => match st with
    | a :: b :: d :: r => xa_g (Nat.beq a.category 1 && (Nat.beq b.category 1 && Nat.beq d.category 1)) (some (pc + 1, ls, a :: b :: d :: a :: r))
    | _ => none
  | .dup2 => match st with
    | .long x :: r => some (pc + 1, ls, .long x :: .long x :: r)
    | a :: b :: r => xa_g (Nat.beq a.category 1 && Nat.beq b.category 1) (some (pc + 1, ls, a :: b :: a :: b :: r))
    | _ => none
  | .dup2_x1 => match st with
    | .long x :: b :: r => xa_g (Nat.beq b.category 1) (some (pc + 1, ls, .long x :: b :: .long x :: r))
    | _ => none
  | .ifCond c off => xa_ifc c off pc ls st
  | .if_icmp c off => xa_icmp c off pc ls st
  | .ifnull off => match st with
    | .null :: r => xa_jmp pc off ls r
    | .ref _ :: r => some (pc + 3, ls, r)
    | _ => none
  | .ifnonnull off => match st with
    | .null :: r => some (pc + 3, ls, r)
    | .ref _ :: r => xa_jmp pc off ls r
    | _ => none
  | .goto off => xa_jmp pc off ls st
  | .tableswitch d lo hi offs => xa_table d lo hi offs pc ls st
  | .lookupswitch d ps => xa_look d ps pc ls st
  | _ => none
