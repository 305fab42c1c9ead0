def iI (n : Int) : Int32 := Int32.ofInt n
theorem iI_add (a b : Int) : iI a + iI b = iI (a + b) := (Int32.ofInt_add a b).symm
theorem iI_sub (a b : Int) : iI a - iI b = iI (a - b) := (Int32.ofInt_sub a b).symm
theorem iI_mul (a b : Int) : iI a * iI b = iI (a * b) := (Int32.ofInt_mul a b).symm
theorem iI_toInt {a : Int} (h1 : -2147483648 ≤ a) (h2 : a < 2147483648) : (iI a).toInt = a := Int32.toInt_ofInt_of_le h1 h2
theorem iI_lt {a b : Int} (h1 : -2147483648 ≤ a) (h2 : a < 2147483648) (h3 : -2147483648 ≤ b) (h4 : b < 2147483648) : iI a < iI b ↔ a < b := by
  rw [Int32.lt_iff_toInt_lt, iI_toInt h1 h2, iI_toInt h3 h4]
theorem iI_le {a b : Int} (h1 : -2147483648 ≤ a) (h2 : a < 2147483648) (h3 : -2147483648 ≤ b) (h4 : b < 2147483648) : iI a ≤ iI b ↔ a ≤ b := by
  rw [Int32.le_iff_toInt_le, iI_toInt h1 h2, iI_toInt h3 h4]
theorem iI_eq {a b : Int} (h1 : -2147483648 ≤ a) (h2 : a < 2147483648) (h3 : -2147483648 ≤ b) (h4 : b < 2147483648) : iI a = iI b ↔ a = b := by
  rw [← Int32.toInt_inj, iI_toInt h1 h2, iI_toInt h3 h4]
theorem iI_of (x : Int32) : x = iI x.toInt := (Int32.ofInt_toInt x).symm
theorem iI_nn {a : Int} (h1 : 0 ≤ a) (h2 : a < 2147483648) : ¬ iI a < 0 := by
  rw [show (0 : Int32) = iI 0 from rfl, iI_lt (by omega) h2 (by omega) (by omega)]
  omega
theorem iI_clamp {a : Int} (h1 : 0 ≤ a) (h2 : a < 2147483648) : (iI a).toNatClampNeg = a.toNat := by
  show (iI a).toInt.toNat = _
  rw [iI_toInt (by omega) h2]
def xa_f (n : Nat) (f : Int → Int) : List Value := (List.range n).map (fun i : Nat => .int (iI (f (i : Int))))
def xa_l (n : Nat) (f : Int → Int) : List Value := (List.range n).map (fun i : Nat => .long (Int64.ofInt (f (i : Int))))
theorem xa_f_len (n : Nat) (f : Int → Int) : (xa_f n f).length = n := by
  unfold xa_f
  rw [List.length_map, List.length_range]
theorem xa_l_len (n : Nat) (f : Int → Int) : (xa_l n f).length = n := by
  unfold xa_l
  rw [List.length_map, List.length_range]
theorem xa_f_get {n : Nat} {f : Int → Int} {e : Int} (h1 : 0 ≤ e) (h2 : e < n) : (xa_f n f)[e.toNat]? = some (.int (iI (f e))) := by
  unfold xa_f
  rw [List.getElem?_map, List.getElem?_range (by omega)]
  show some (Value.int (iI (f (e.toNat : Int)))) = _
  rw [Int.toNat_of_nonneg h1]
theorem xa_l_get {n : Nat} {f : Int → Int} {e : Int} (h1 : 0 ≤ e) (h2 : e < n) : (xa_l n f)[e.toNat]? = some (.long (Int64.ofInt (f e))) := by
  unfold xa_l
  rw [List.getElem?_map, List.getElem?_range (by omega)]
  show some (Value.long (Int64.ofInt (f (e.toNat : Int)))) = _
  rw [Int.toNat_of_nonneg h1]
def sf (f : Int → Int) (e x : Int) : Int → Int := fun i => if i = e then x else f i
def su (I : Nat → Int) (j : Nat) (x : Int) : Nat → Int := fun i => match Nat.beq i j with
  | true => x
  | false => I i
def sa (A : Nat → Int → Int) (a : Nat) (e x : Int) : Nat → Int → Int := fun b => match Nat.beq b a with
  | true => sf (A a) e x
  | false => A b
theorem xa_f_set {n : Nat} {f : Int → Int} {e x : Int} (h1 : 0 ≤ e) : (xa_f n f).set e.toNat (.int (iI x)) = xa_f n (sf f e x) := by
  apply List.ext_getElem?
  intro i
  unfold xa_f
  rw [List.getElem?_set, List.getElem?_map, List.getElem?_map, List.length_map, List.length_range]
  by_cases hi : i < n
  · rw [List.getElem?_range hi]
    by_cases he : e.toNat = i
    · rw [if_pos he, if_pos (by omega)]
      show _ = some (Value.int (iI (sf f e x (i : Int))))
      unfold sf
      rw [if_pos (by omega)]
    · rw [if_neg he]
      show some (Value.int (iI (f (i : Int)))) = some (Value.int (iI (sf f e x (i : Int))))
      unfold sf
      rw [if_neg (by omega)]
  · rw [List.getElem?_eq_none (by rw [List.length_range]; omega)]
    split <;> simp
    omega
theorem xa_l_set {n : Nat} {f : Int → Int} {e x : Int} (h1 : 0 ≤ e) : (xa_l n f).set e.toNat (.long (Int64.ofInt x)) = xa_l n (sf f e x) := by
  apply List.ext_getElem?
  intro i
  unfold xa_l
  rw [List.getElem?_set, List.getElem?_map, List.getElem?_map, List.length_map, List.length_range]
  by_cases hi : i < n
  · rw [List.getElem?_range hi]
    by_cases he : e.toNat = i
    · rw [if_pos he, if_pos (by omega)]
      show _ = some (Value.long (Int64.ofInt (sf f e x (i : Int))))
      unfold sf
      rw [if_pos (by omega)]
    · rw [if_neg he]
      show some (Value.long (Int64.ofInt (f (i : Int)))) = some (Value.long (Int64.ofInt (sf f e x (i : Int))))
      unfold sf
      rw [if_neg (by omega)]
  · rw [List.getElem?_eq_none (by rw [List.length_range]; omega)]
    split <;> simp
    omega
def mfs (c : Nat) (I : Nat → Int) : List Value := [.ref (c + 1), .ref (c + 2), .ref (c + 3), .ref (c + 4), .ref (c + 5), .ref (c + 6), .ref (c + 7), .int (iI (I 7)), .ref (c + 8), .ref (c + 9), .int (iI (I 10)), .ref (c + 10), .ref (c + 11), .int (iI (I 13)), .ref (c + 12), .int (iI (I 15)), .ref (c + 13), .int (iI (I 17)), .ref (c + 14), .int (iI (I 19)), .int (iI (I 20)), .int (iI (I 21)), .int (iI (I 22)), .ref (c + 15), .ref (c + 16), .ref (c + 17), .ref (c + 18), .int (iI (I 27)), .ref (c + 19), .int (iI (I 29)), .int (iI (I 30)), .int (iI (I 31)), .int (iI (I 32)), .ref (c + 20), .ref (c + 21), .ref (c + 22), .ref (c + 23), .ref (c + 24), .int (iI (I 38)), .ref (c + 25), .ref (c + 26), .int (iI (I 41)), .ref (c + 27), .ref (c + 28), .int (iI (I 44)), .int (iI (I 45)), .int (iI (I 46)), .int (iI (I 47)), .int (iI (I 48)), .int (iI (I 49)), .int (iI (I 50)), .ref (c + 29), .ref (c + 30), .ref (c + 31), .int (iI (I 54)), .ref (c + 32), .int (iI (I 56)), .ref (c + 33), .ref (c + 34), .int (iI (I 59)), .ref (c + 35), .int (iI (I 61)), .ref (c + 36), .int (iI (I 63)), .ref (c + 37), .int (iI (I 65)), .ref (c + 38), .int (iI (I 67)), .ref (c + 39), .ref (c + 40), .ref (c + 41), .int (iI (I 71)), .ref (c + 42), .ref (c + 43), .ref (c + 44), .ref (c + 45), .int (iI (I 76)), .ref (c + 46), .ref (c + 47), .ref (c + 48), .ref (c + 49), .int (iI (I 81)), .ref (c + 50), .ref (c + 51), .int (iI (I 84)), .int (iI (I 85))]
def mb (c : Nat) (I : Nat → Int) (A : Nat → Int → Int) (N : Int → Int) : xx_H := [.inr (13, mfs c I), .inl (.int, xa_f 140000 (A 1)), .inl (.int, xa_f 140000 (A 2)), .inl (.int, xa_f 140000 (A 3)), .inl (.int, xa_f 140000 (A 4)), .inl (.int, xa_f 140000 (A 5)), .inl (.long, xa_l 140000 N), .inl (.int, xa_f 8192 (A 7)), .inl (.int, xa_f 60000 (A 8)), .inl (.int, xa_f 5000 (A 9)), .inl (.int, xa_f 20 (A 10)), .inl (.int, xa_f 3000 (A 11)), .inl (.int, xa_f 2000 (A 12)), .inl (.int, xa_f 12 (A 13)), .inl (.int, xa_f 4000 (A 14)), .inl (.int, xa_f 40 (A 15)), .inl (.int, xa_f 40 (A 16)), .inl (.int, xa_f 40 (A 17)), .inl (.int, xa_f 40 (A 18)), .inl (.int, xa_f 1100 (A 19)), .inl (.int, xa_f 40 (A 20)), .inl (.int, xa_f 40 (A 21)), .inl (.int, xa_f 240 (A 22)), .inl (.int, xa_f 40 (A 23)), .inl (.boolean, xa_f 40 (A 24)), .inl (.int, xa_f 60 (A 25)), .inl (.int, xa_f 60 (A 26)), .inl (.boolean, xa_f 100 (A 27)), .inl (.int, xa_f 100 (A 28)), .inl (.int, xa_f 1200 (A 29)), .inl (.int, xa_f 1200 (A 30)), .inl (.int, xa_f 1200 (A 31)), .inl (.int, xa_f 2400 (A 32)), .inl (.int, xa_f 400 (A 33)), .inl (.int, xa_f 400 (A 34)), .inl (.int, xa_f 400 (A 35)), .inl (.int, xa_f 130 (A 36)), .inl (.int, xa_f 8 (A 37)), .inl (.int, xa_f 1200 (A 38)), .inl (.int, xa_f 128 (A 39)), .inl (.int, xa_f 8192 (A 40)), .inl (.int, xa_f 128 (A 41)), .inl (.int, xa_f 128 (A 42)), .inl (.int, xa_f 8192 (A 43)), .inl (.int, xa_f 128 (A 44)), .inl (.int, xa_f 130 (A 45)), .inl (.int, xa_f 6 (A 46)), .inl (.int, xa_f 40 (A 47)), .inl (.int, xa_f 40 (A 48)), .inl (.int, xa_f 40 (A 49)), .inl (.int, xa_f 10500 (A 50)), .inl (.int, xa_f 350 (A 51))]
def mh (h R : xx_H) (I : Nat → Int) (A : Nat → Int → Int) (N : Int → Int) : xx_H := h ++ (mb h.length I A N ++ R)
section MH
variable {h R : xx_H} {I : Nat → Int} {A : Nat → Int → Int} {N : Int → Int}
theorem mh_o : (mh h R I A N)[h.length]? = some (.inr (13, mfs h.length I)) := xq_get00
theorem mh_a1 : (mh h R I A N)[h.length + 1]? = some (.inl (.int, xa_f 140000 (A 1))) := xq_get 1
theorem mh_a2 : (mh h R I A N)[h.length + 2]? = some (.inl (.int, xa_f 140000 (A 2))) := xq_get 2
theorem mh_a3 : (mh h R I A N)[h.length + 3]? = some (.inl (.int, xa_f 140000 (A 3))) := xq_get 3
theorem mh_a4 : (mh h R I A N)[h.length + 4]? = some (.inl (.int, xa_f 140000 (A 4))) := xq_get 4
theorem mh_a5 : (mh h R I A N)[h.length + 5]? = some (.inl (.int, xa_f 140000 (A 5))) := xq_get 5
theorem mh_a6 : (mh h R I A N)[h.length + 6]? = some (.inl (.long, xa_l 140000 N)) := xq_get 6
theorem mh_a7 : (mh h R I A N)[h.length + 7]? = some (.inl (.int, xa_f 8192 (A 7))) := xq_get 7
theorem mh_a8 : (mh h R I A N)[h.length + 8]? = some (.inl (.int, xa_f 60000 (A 8))) := xq_get 8
theorem mh_a9 : (mh h R I A N)[h.length + 9]? = some (.inl (.int, xa_f 5000 (A 9))) := xq_get 9
theorem mh_a10 : (mh h R I A N)[h.length + 10]? = some (.inl (.int, xa_f 20 (A 10))) := xq_get 10
theorem mh_a11 : (mh h R I A N)[h.length + 11]? = some (.inl (.int, xa_f 3000 (A 11))) := xq_get 11
theorem mh_a12 : (mh h R I A N)[h.length + 12]? = some (.inl (.int, xa_f 2000 (A 12))) := xq_get 12
theorem mh_a13 : (mh h R I A N)[h.length + 13]? = some (.inl (.int, xa_f 12 (A 13))) := xq_get 13
theorem mh_a14 : (mh h R I A N)[h.length + 14]? = some (.inl (.int, xa_f 4000 (A 14))) := xq_get 14
theorem mh_a15 : (mh h R I A N)[h.length + 15]? = some (.inl (.int, xa_f 40 (A 15))) := xq_get 15
theorem mh_a16 : (mh h R I A N)[h.length + 16]? = some (.inl (.int, xa_f 40 (A 16))) := xq_get 16
theorem mh_a17 : (mh h R I A N)[h.length + 17]? = some (.inl (.int, xa_f 40 (A 17))) := xq_get 17
theorem mh_a18 : (mh h R I A N)[h.length + 18]? = some (.inl (.int, xa_f 40 (A 18))) := xq_get 18
theorem mh_a19 : (mh h R I A N)[h.length + 19]? = some (.inl (.int, xa_f 1100 (A 19))) := xq_get 19
theorem mh_a20 : (mh h R I A N)[h.length + 20]? = some (.inl (.int, xa_f 40 (A 20))) := xq_get 20
theorem mh_a21 : (mh h R I A N)[h.length + 21]? = some (.inl (.int, xa_f 40 (A 21))) := xq_get 21
theorem mh_a22 : (mh h R I A N)[h.length + 22]? = some (.inl (.int, xa_f 240 (A 22))) := xq_get 22
theorem mh_a23 : (mh h R I A N)[h.length + 23]? = some (.inl (.int, xa_f 40 (A 23))) := xq_get 23
theorem mh_a24 : (mh h R I A N)[h.length + 24]? = some (.inl (.boolean, xa_f 40 (A 24))) := xq_get 24
theorem mh_a25 : (mh h R I A N)[h.length + 25]? = some (.inl (.int, xa_f 60 (A 25))) := xq_get 25
theorem mh_a26 : (mh h R I A N)[h.length + 26]? = some (.inl (.int, xa_f 60 (A 26))) := xq_get 26
theorem mh_a27 : (mh h R I A N)[h.length + 27]? = some (.inl (.boolean, xa_f 100 (A 27))) := xq_get 27
theorem mh_a28 : (mh h R I A N)[h.length + 28]? = some (.inl (.int, xa_f 100 (A 28))) := xq_get 28
theorem mh_a29 : (mh h R I A N)[h.length + 29]? = some (.inl (.int, xa_f 1200 (A 29))) := xq_get 29
theorem mh_a30 : (mh h R I A N)[h.length + 30]? = some (.inl (.int, xa_f 1200 (A 30))) := xq_get 30
theorem mh_a31 : (mh h R I A N)[h.length + 31]? = some (.inl (.int, xa_f 1200 (A 31))) := xq_get 31
theorem mh_a32 : (mh h R I A N)[h.length + 32]? = some (.inl (.int, xa_f 2400 (A 32))) := xq_get 32
theorem mh_a33 : (mh h R I A N)[h.length + 33]? = some (.inl (.int, xa_f 400 (A 33))) := xq_get 33
theorem mh_a34 : (mh h R I A N)[h.length + 34]? = some (.inl (.int, xa_f 400 (A 34))) := xq_get 34
theorem mh_a35 : (mh h R I A N)[h.length + 35]? = some (.inl (.int, xa_f 400 (A 35))) := xq_get 35
theorem mh_a36 : (mh h R I A N)[h.length + 36]? = some (.inl (.int, xa_f 130 (A 36))) := xq_get 36
theorem mh_a37 : (mh h R I A N)[h.length + 37]? = some (.inl (.int, xa_f 8 (A 37))) := xq_get 37
theorem mh_a38 : (mh h R I A N)[h.length + 38]? = some (.inl (.int, xa_f 1200 (A 38))) := xq_get 38
theorem mh_a39 : (mh h R I A N)[h.length + 39]? = some (.inl (.int, xa_f 128 (A 39))) := xq_get 39
theorem mh_a40 : (mh h R I A N)[h.length + 40]? = some (.inl (.int, xa_f 8192 (A 40))) := xq_get 40
theorem mh_a41 : (mh h R I A N)[h.length + 41]? = some (.inl (.int, xa_f 128 (A 41))) := xq_get 41
theorem mh_a42 : (mh h R I A N)[h.length + 42]? = some (.inl (.int, xa_f 128 (A 42))) := xq_get 42
theorem mh_a43 : (mh h R I A N)[h.length + 43]? = some (.inl (.int, xa_f 8192 (A 43))) := xq_get 43
theorem mh_a44 : (mh h R I A N)[h.length + 44]? = some (.inl (.int, xa_f 128 (A 44))) := xq_get 44
theorem mh_a45 : (mh h R I A N)[h.length + 45]? = some (.inl (.int, xa_f 130 (A 45))) := xq_get 45
theorem mh_a46 : (mh h R I A N)[h.length + 46]? = some (.inl (.int, xa_f 6 (A 46))) := xq_get 46
theorem mh_a47 : (mh h R I A N)[h.length + 47]? = some (.inl (.int, xa_f 40 (A 47))) := xq_get 47
theorem mh_a48 : (mh h R I A N)[h.length + 48]? = some (.inl (.int, xa_f 40 (A 48))) := xq_get 48
theorem mh_a49 : (mh h R I A N)[h.length + 49]? = some (.inl (.int, xa_f 40 (A 49))) := xq_get 49
theorem mh_a50 : (mh h R I A N)[h.length + 50]? = some (.inl (.int, xa_f 10500 (A 50))) := xq_get 50
theorem mh_a51 : (mh h R I A N)[h.length + 51]? = some (.inl (.int, xa_f 350 (A 51))) := xq_get 51
theorem mh_p7 {x : Int} : (mh h R I A N).set h.length (.inr (13, (mfs h.length I).set 7 (.int (iI x)))) = mh h R (su I 7 x) A N := xq_set00
theorem mh_p10 {x : Int} : (mh h R I A N).set h.length (.inr (13, (mfs h.length I).set 10 (.int (iI x)))) = mh h R (su I 10 x) A N := xq_set00
theorem mh_p13 {x : Int} : (mh h R I A N).set h.length (.inr (13, (mfs h.length I).set 13 (.int (iI x)))) = mh h R (su I 13 x) A N := xq_set00
theorem mh_p15 {x : Int} : (mh h R I A N).set h.length (.inr (13, (mfs h.length I).set 15 (.int (iI x)))) = mh h R (su I 15 x) A N := xq_set00
theorem mh_p17 {x : Int} : (mh h R I A N).set h.length (.inr (13, (mfs h.length I).set 17 (.int (iI x)))) = mh h R (su I 17 x) A N := xq_set00
theorem mh_p19 {x : Int} : (mh h R I A N).set h.length (.inr (13, (mfs h.length I).set 19 (.int (iI x)))) = mh h R (su I 19 x) A N := xq_set00
theorem mh_p20 {x : Int} : (mh h R I A N).set h.length (.inr (13, (mfs h.length I).set 20 (.int (iI x)))) = mh h R (su I 20 x) A N := xq_set00
theorem mh_p21 {x : Int} : (mh h R I A N).set h.length (.inr (13, (mfs h.length I).set 21 (.int (iI x)))) = mh h R (su I 21 x) A N := xq_set00
theorem mh_p22 {x : Int} : (mh h R I A N).set h.length (.inr (13, (mfs h.length I).set 22 (.int (iI x)))) = mh h R (su I 22 x) A N := xq_set00
theorem mh_p27 {x : Int} : (mh h R I A N).set h.length (.inr (13, (mfs h.length I).set 27 (.int (iI x)))) = mh h R (su I 27 x) A N := xq_set00
theorem mh_p29 {x : Int} : (mh h R I A N).set h.length (.inr (13, (mfs h.length I).set 29 (.int (iI x)))) = mh h R (su I 29 x) A N := xq_set00
theorem mh_p30 {x : Int} : (mh h R I A N).set h.length (.inr (13, (mfs h.length I).set 30 (.int (iI x)))) = mh h R (su I 30 x) A N := xq_set00
theorem mh_p31 {x : Int} : (mh h R I A N).set h.length (.inr (13, (mfs h.length I).set 31 (.int (iI x)))) = mh h R (su I 31 x) A N := xq_set00
theorem mh_p32 {x : Int} : (mh h R I A N).set h.length (.inr (13, (mfs h.length I).set 32 (.int (iI x)))) = mh h R (su I 32 x) A N := xq_set00
theorem mh_p38 {x : Int} : (mh h R I A N).set h.length (.inr (13, (mfs h.length I).set 38 (.int (iI x)))) = mh h R (su I 38 x) A N := xq_set00
theorem mh_p41 {x : Int} : (mh h R I A N).set h.length (.inr (13, (mfs h.length I).set 41 (.int (iI x)))) = mh h R (su I 41 x) A N := xq_set00
theorem mh_p44 {x : Int} : (mh h R I A N).set h.length (.inr (13, (mfs h.length I).set 44 (.int (iI x)))) = mh h R (su I 44 x) A N := xq_set00
theorem mh_p45 {x : Int} : (mh h R I A N).set h.length (.inr (13, (mfs h.length I).set 45 (.int (iI x)))) = mh h R (su I 45 x) A N := xq_set00
theorem mh_p46 {x : Int} : (mh h R I A N).set h.length (.inr (13, (mfs h.length I).set 46 (.int (iI x)))) = mh h R (su I 46 x) A N := xq_set00
theorem mh_p47 {x : Int} : (mh h R I A N).set h.length (.inr (13, (mfs h.length I).set 47 (.int (iI x)))) = mh h R (su I 47 x) A N := xq_set00
theorem mh_p48 {x : Int} : (mh h R I A N).set h.length (.inr (13, (mfs h.length I).set 48 (.int (iI x)))) = mh h R (su I 48 x) A N := xq_set00
theorem mh_p49 {x : Int} : (mh h R I A N).set h.length (.inr (13, (mfs h.length I).set 49 (.int (iI x)))) = mh h R (su I 49 x) A N := xq_set00
theorem mh_p50 {x : Int} : (mh h R I A N).set h.length (.inr (13, (mfs h.length I).set 50 (.int (iI x)))) = mh h R (su I 50 x) A N := xq_set00
theorem mh_p54 {x : Int} : (mh h R I A N).set h.length (.inr (13, (mfs h.length I).set 54 (.int (iI x)))) = mh h R (su I 54 x) A N := xq_set00
theorem mh_p56 {x : Int} : (mh h R I A N).set h.length (.inr (13, (mfs h.length I).set 56 (.int (iI x)))) = mh h R (su I 56 x) A N := xq_set00
theorem mh_p59 {x : Int} : (mh h R I A N).set h.length (.inr (13, (mfs h.length I).set 59 (.int (iI x)))) = mh h R (su I 59 x) A N := xq_set00
theorem mh_p61 {x : Int} : (mh h R I A N).set h.length (.inr (13, (mfs h.length I).set 61 (.int (iI x)))) = mh h R (su I 61 x) A N := xq_set00
theorem mh_p63 {x : Int} : (mh h R I A N).set h.length (.inr (13, (mfs h.length I).set 63 (.int (iI x)))) = mh h R (su I 63 x) A N := xq_set00
theorem mh_p65 {x : Int} : (mh h R I A N).set h.length (.inr (13, (mfs h.length I).set 65 (.int (iI x)))) = mh h R (su I 65 x) A N := xq_set00
theorem mh_p67 {x : Int} : (mh h R I A N).set h.length (.inr (13, (mfs h.length I).set 67 (.int (iI x)))) = mh h R (su I 67 x) A N := xq_set00
theorem mh_p71 {x : Int} : (mh h R I A N).set h.length (.inr (13, (mfs h.length I).set 71 (.int (iI x)))) = mh h R (su I 71 x) A N := xq_set00
theorem mh_p76 {x : Int} : (mh h R I A N).set h.length (.inr (13, (mfs h.length I).set 76 (.int (iI x)))) = mh h R (su I 76 x) A N := xq_set00
theorem mh_p81 {x : Int} : (mh h R I A N).set h.length (.inr (13, (mfs h.length I).set 81 (.int (iI x)))) = mh h R (su I 81 x) A N := xq_set00
theorem mh_p84 {x : Int} : (mh h R I A N).set h.length (.inr (13, (mfs h.length I).set 84 (.int (iI x)))) = mh h R (su I 84 x) A N := xq_set00
theorem mh_p85 {x : Int} : (mh h R I A N).set h.length (.inr (13, (mfs h.length I).set 85 (.int (iI x)))) = mh h R (su I 85 x) A N := xq_set00
theorem mh_w1 {e x : Int} (h1 : 0 ≤ e) : (mh h R I A N).set (h.length + 1) (.inl (.int, (xa_f 140000 (A 1)).set e.toNat (.int (iI x)))) = mh h R I (sa A 1 e x) N := by
  rw [xa_f_set h1]
  exact xq_set 1
theorem mh_w2 {e x : Int} (h1 : 0 ≤ e) : (mh h R I A N).set (h.length + 2) (.inl (.int, (xa_f 140000 (A 2)).set e.toNat (.int (iI x)))) = mh h R I (sa A 2 e x) N := by
  rw [xa_f_set h1]
  exact xq_set 2
theorem mh_w3 {e x : Int} (h1 : 0 ≤ e) : (mh h R I A N).set (h.length + 3) (.inl (.int, (xa_f 140000 (A 3)).set e.toNat (.int (iI x)))) = mh h R I (sa A 3 e x) N := by
  rw [xa_f_set h1]
  exact xq_set 3
theorem mh_w4 {e x : Int} (h1 : 0 ≤ e) : (mh h R I A N).set (h.length + 4) (.inl (.int, (xa_f 140000 (A 4)).set e.toNat (.int (iI x)))) = mh h R I (sa A 4 e x) N := by
  rw [xa_f_set h1]
  exact xq_set 4
theorem mh_w5 {e x : Int} (h1 : 0 ≤ e) : (mh h R I A N).set (h.length + 5) (.inl (.int, (xa_f 140000 (A 5)).set e.toNat (.int (iI x)))) = mh h R I (sa A 5 e x) N := by
  rw [xa_f_set h1]
  exact xq_set 5
theorem mh_w6 {e x : Int} (h1 : 0 ≤ e) : (mh h R I A N).set (h.length + 6) (.inl (.long, (xa_l 140000 N).set e.toNat (.long (Int64.ofInt x)))) = mh h R I A (sf N e x) := by
  rw [xa_l_set h1]
  exact xq_set 6
theorem mh_w7 {e x : Int} (h1 : 0 ≤ e) : (mh h R I A N).set (h.length + 7) (.inl (.int, (xa_f 8192 (A 7)).set e.toNat (.int (iI x)))) = mh h R I (sa A 7 e x) N := by
  rw [xa_f_set h1]
  exact xq_set 7
theorem mh_w8 {e x : Int} (h1 : 0 ≤ e) : (mh h R I A N).set (h.length + 8) (.inl (.int, (xa_f 60000 (A 8)).set e.toNat (.int (iI x)))) = mh h R I (sa A 8 e x) N := by
  rw [xa_f_set h1]
  exact xq_set 8
theorem mh_w9 {e x : Int} (h1 : 0 ≤ e) : (mh h R I A N).set (h.length + 9) (.inl (.int, (xa_f 5000 (A 9)).set e.toNat (.int (iI x)))) = mh h R I (sa A 9 e x) N := by
  rw [xa_f_set h1]
  exact xq_set 9
theorem mh_w10 {e x : Int} (h1 : 0 ≤ e) : (mh h R I A N).set (h.length + 10) (.inl (.int, (xa_f 20 (A 10)).set e.toNat (.int (iI x)))) = mh h R I (sa A 10 e x) N := by
  rw [xa_f_set h1]
  exact xq_set 10
theorem mh_w11 {e x : Int} (h1 : 0 ≤ e) : (mh h R I A N).set (h.length + 11) (.inl (.int, (xa_f 3000 (A 11)).set e.toNat (.int (iI x)))) = mh h R I (sa A 11 e x) N := by
  rw [xa_f_set h1]
  exact xq_set 11
theorem mh_w12 {e x : Int} (h1 : 0 ≤ e) : (mh h R I A N).set (h.length + 12) (.inl (.int, (xa_f 2000 (A 12)).set e.toNat (.int (iI x)))) = mh h R I (sa A 12 e x) N := by
  rw [xa_f_set h1]
  exact xq_set 12
theorem mh_w13 {e x : Int} (h1 : 0 ≤ e) : (mh h R I A N).set (h.length + 13) (.inl (.int, (xa_f 12 (A 13)).set e.toNat (.int (iI x)))) = mh h R I (sa A 13 e x) N := by
  rw [xa_f_set h1]
  exact xq_set 13
theorem mh_w14 {e x : Int} (h1 : 0 ≤ e) : (mh h R I A N).set (h.length + 14) (.inl (.int, (xa_f 4000 (A 14)).set e.toNat (.int (iI x)))) = mh h R I (sa A 14 e x) N := by
  rw [xa_f_set h1]
  exact xq_set 14
theorem mh_w15 {e x : Int} (h1 : 0 ≤ e) : (mh h R I A N).set (h.length + 15) (.inl (.int, (xa_f 40 (A 15)).set e.toNat (.int (iI x)))) = mh h R I (sa A 15 e x) N := by
  rw [xa_f_set h1]
  exact xq_set 15
theorem mh_w16 {e x : Int} (h1 : 0 ≤ e) : (mh h R I A N).set (h.length + 16) (.inl (.int, (xa_f 40 (A 16)).set e.toNat (.int (iI x)))) = mh h R I (sa A 16 e x) N := by
  rw [xa_f_set h1]
  exact xq_set 16
theorem mh_w17 {e x : Int} (h1 : 0 ≤ e) : (mh h R I A N).set (h.length + 17) (.inl (.int, (xa_f 40 (A 17)).set e.toNat (.int (iI x)))) = mh h R I (sa A 17 e x) N := by
  rw [xa_f_set h1]
  exact xq_set 17
theorem mh_w18 {e x : Int} (h1 : 0 ≤ e) : (mh h R I A N).set (h.length + 18) (.inl (.int, (xa_f 40 (A 18)).set e.toNat (.int (iI x)))) = mh h R I (sa A 18 e x) N := by
  rw [xa_f_set h1]
  exact xq_set 18
theorem mh_w19 {e x : Int} (h1 : 0 ≤ e) : (mh h R I A N).set (h.length + 19) (.inl (.int, (xa_f 1100 (A 19)).set e.toNat (.int (iI x)))) = mh h R I (sa A 19 e x) N := by
  rw [xa_f_set h1]
  exact xq_set 19
theorem mh_w20 {e x : Int} (h1 : 0 ≤ e) : (mh h R I A N).set (h.length + 20) (.inl (.int, (xa_f 40 (A 20)).set e.toNat (.int (iI x)))) = mh h R I (sa A 20 e x) N := by
  rw [xa_f_set h1]
  exact xq_set 20
theorem mh_w21 {e x : Int} (h1 : 0 ≤ e) : (mh h R I A N).set (h.length + 21) (.inl (.int, (xa_f 40 (A 21)).set e.toNat (.int (iI x)))) = mh h R I (sa A 21 e x) N := by
  rw [xa_f_set h1]
  exact xq_set 21
theorem mh_w22 {e x : Int} (h1 : 0 ≤ e) : (mh h R I A N).set (h.length + 22) (.inl (.int, (xa_f 240 (A 22)).set e.toNat (.int (iI x)))) = mh h R I (sa A 22 e x) N := by
  rw [xa_f_set h1]
  exact xq_set 22
theorem mh_w23 {e x : Int} (h1 : 0 ≤ e) : (mh h R I A N).set (h.length + 23) (.inl (.int, (xa_f 40 (A 23)).set e.toNat (.int (iI x)))) = mh h R I (sa A 23 e x) N := by
  rw [xa_f_set h1]
  exact xq_set 23
theorem mh_w24 {e x : Int} (h1 : 0 ≤ e) : (mh h R I A N).set (h.length + 24) (.inl (.boolean, (xa_f 40 (A 24)).set e.toNat (.int (iI x)))) = mh h R I (sa A 24 e x) N := by
  rw [xa_f_set h1]
  exact xq_set 24
theorem mh_w25 {e x : Int} (h1 : 0 ≤ e) : (mh h R I A N).set (h.length + 25) (.inl (.int, (xa_f 60 (A 25)).set e.toNat (.int (iI x)))) = mh h R I (sa A 25 e x) N := by
  rw [xa_f_set h1]
  exact xq_set 25
theorem mh_w26 {e x : Int} (h1 : 0 ≤ e) : (mh h R I A N).set (h.length + 26) (.inl (.int, (xa_f 60 (A 26)).set e.toNat (.int (iI x)))) = mh h R I (sa A 26 e x) N := by
  rw [xa_f_set h1]
  exact xq_set 26
theorem mh_w27 {e x : Int} (h1 : 0 ≤ e) : (mh h R I A N).set (h.length + 27) (.inl (.boolean, (xa_f 100 (A 27)).set e.toNat (.int (iI x)))) = mh h R I (sa A 27 e x) N := by
  rw [xa_f_set h1]
  exact xq_set 27
theorem mh_w28 {e x : Int} (h1 : 0 ≤ e) : (mh h R I A N).set (h.length + 28) (.inl (.int, (xa_f 100 (A 28)).set e.toNat (.int (iI x)))) = mh h R I (sa A 28 e x) N := by
  rw [xa_f_set h1]
  exact xq_set 28
theorem mh_w29 {e x : Int} (h1 : 0 ≤ e) : (mh h R I A N).set (h.length + 29) (.inl (.int, (xa_f 1200 (A 29)).set e.toNat (.int (iI x)))) = mh h R I (sa A 29 e x) N := by
  rw [xa_f_set h1]
  exact xq_set 29
theorem mh_w30 {e x : Int} (h1 : 0 ≤ e) : (mh h R I A N).set (h.length + 30) (.inl (.int, (xa_f 1200 (A 30)).set e.toNat (.int (iI x)))) = mh h R I (sa A 30 e x) N := by
  rw [xa_f_set h1]
  exact xq_set 30
theorem mh_w31 {e x : Int} (h1 : 0 ≤ e) : (mh h R I A N).set (h.length + 31) (.inl (.int, (xa_f 1200 (A 31)).set e.toNat (.int (iI x)))) = mh h R I (sa A 31 e x) N := by
  rw [xa_f_set h1]
  exact xq_set 31
theorem mh_w32 {e x : Int} (h1 : 0 ≤ e) : (mh h R I A N).set (h.length + 32) (.inl (.int, (xa_f 2400 (A 32)).set e.toNat (.int (iI x)))) = mh h R I (sa A 32 e x) N := by
  rw [xa_f_set h1]
  exact xq_set 32
theorem mh_w33 {e x : Int} (h1 : 0 ≤ e) : (mh h R I A N).set (h.length + 33) (.inl (.int, (xa_f 400 (A 33)).set e.toNat (.int (iI x)))) = mh h R I (sa A 33 e x) N := by
  rw [xa_f_set h1]
  exact xq_set 33
theorem mh_w34 {e x : Int} (h1 : 0 ≤ e) : (mh h R I A N).set (h.length + 34) (.inl (.int, (xa_f 400 (A 34)).set e.toNat (.int (iI x)))) = mh h R I (sa A 34 e x) N := by
  rw [xa_f_set h1]
  exact xq_set 34
theorem mh_w35 {e x : Int} (h1 : 0 ≤ e) : (mh h R I A N).set (h.length + 35) (.inl (.int, (xa_f 400 (A 35)).set e.toNat (.int (iI x)))) = mh h R I (sa A 35 e x) N := by
  rw [xa_f_set h1]
  exact xq_set 35
theorem mh_w36 {e x : Int} (h1 : 0 ≤ e) : (mh h R I A N).set (h.length + 36) (.inl (.int, (xa_f 130 (A 36)).set e.toNat (.int (iI x)))) = mh h R I (sa A 36 e x) N := by
  rw [xa_f_set h1]
  exact xq_set 36
theorem mh_w37 {e x : Int} (h1 : 0 ≤ e) : (mh h R I A N).set (h.length + 37) (.inl (.int, (xa_f 8 (A 37)).set e.toNat (.int (iI x)))) = mh h R I (sa A 37 e x) N := by
  rw [xa_f_set h1]
  exact xq_set 37
theorem mh_w38 {e x : Int} (h1 : 0 ≤ e) : (mh h R I A N).set (h.length + 38) (.inl (.int, (xa_f 1200 (A 38)).set e.toNat (.int (iI x)))) = mh h R I (sa A 38 e x) N := by
  rw [xa_f_set h1]
  exact xq_set 38
theorem mh_w39 {e x : Int} (h1 : 0 ≤ e) : (mh h R I A N).set (h.length + 39) (.inl (.int, (xa_f 128 (A 39)).set e.toNat (.int (iI x)))) = mh h R I (sa A 39 e x) N := by
  rw [xa_f_set h1]
  exact xq_set 39
theorem mh_w40 {e x : Int} (h1 : 0 ≤ e) : (mh h R I A N).set (h.length + 40) (.inl (.int, (xa_f 8192 (A 40)).set e.toNat (.int (iI x)))) = mh h R I (sa A 40 e x) N := by
  rw [xa_f_set h1]
  exact xq_set 40
theorem mh_w41 {e x : Int} (h1 : 0 ≤ e) : (mh h R I A N).set (h.length + 41) (.inl (.int, (xa_f 128 (A 41)).set e.toNat (.int (iI x)))) = mh h R I (sa A 41 e x) N := by
  rw [xa_f_set h1]
  exact xq_set 41
theorem mh_w42 {e x : Int} (h1 : 0 ≤ e) : (mh h R I A N).set (h.length + 42) (.inl (.int, (xa_f 128 (A 42)).set e.toNat (.int (iI x)))) = mh h R I (sa A 42 e x) N := by
  rw [xa_f_set h1]
  exact xq_set 42
theorem mh_w43 {e x : Int} (h1 : 0 ≤ e) : (mh h R I A N).set (h.length + 43) (.inl (.int, (xa_f 8192 (A 43)).set e.toNat (.int (iI x)))) = mh h R I (sa A 43 e x) N := by
  rw [xa_f_set h1]
  exact xq_set 43
theorem mh_w44 {e x : Int} (h1 : 0 ≤ e) : (mh h R I A N).set (h.length + 44) (.inl (.int, (xa_f 128 (A 44)).set e.toNat (.int (iI x)))) = mh h R I (sa A 44 e x) N := by
  rw [xa_f_set h1]
  exact xq_set 44
theorem mh_w45 {e x : Int} (h1 : 0 ≤ e) : (mh h R I A N).set (h.length + 45) (.inl (.int, (xa_f 130 (A 45)).set e.toNat (.int (iI x)))) = mh h R I (sa A 45 e x) N := by
  rw [xa_f_set h1]
  exact xq_set 45
theorem mh_w46 {e x : Int} (h1 : 0 ≤ e) : (mh h R I A N).set (h.length + 46) (.inl (.int, (xa_f 6 (A 46)).set e.toNat (.int (iI x)))) = mh h R I (sa A 46 e x) N := by
  rw [xa_f_set h1]
  exact xq_set 46
theorem mh_w47 {e x : Int} (h1 : 0 ≤ e) : (mh h R I A N).set (h.length + 47) (.inl (.int, (xa_f 40 (A 47)).set e.toNat (.int (iI x)))) = mh h R I (sa A 47 e x) N := by
  rw [xa_f_set h1]
  exact xq_set 47
theorem mh_w48 {e x : Int} (h1 : 0 ≤ e) : (mh h R I A N).set (h.length + 48) (.inl (.int, (xa_f 40 (A 48)).set e.toNat (.int (iI x)))) = mh h R I (sa A 48 e x) N := by
  rw [xa_f_set h1]
  exact xq_set 48
theorem mh_w49 {e x : Int} (h1 : 0 ≤ e) : (mh h R I A N).set (h.length + 49) (.inl (.int, (xa_f 40 (A 49)).set e.toNat (.int (iI x)))) = mh h R I (sa A 49 e x) N := by
  rw [xa_f_set h1]
  exact xq_set 49
theorem mh_w50 {e x : Int} (h1 : 0 ≤ e) : (mh h R I A N).set (h.length + 50) (.inl (.int, (xa_f 10500 (A 50)).set e.toNat (.int (iI x)))) = mh h R I (sa A 50 e x) N := by
  rw [xa_f_set h1]
  exact xq_set 50
theorem mh_w51 {e x : Int} (h1 : 0 ≤ e) : (mh h R I A N).set (h.length + 51) (.inl (.int, (xa_f 350 (A 51)).set e.toNat (.int (iI x)))) = mh h R I (sa A 51 e x) N := by
  rw [xa_f_set h1]
  exact xq_set 51
end MH
section MI
variable {P : xx_P} {d k pc a n : Nat} {ls : xx_L} {r : List Value} {hp : xx_H} {Q : Option Value → xx_H → Prop} {f : Int → Int} {e x y : Int}
theorem mi_ild (hc : xp_code P k pc = some .iaload) (hh : hp[a]? = some (.inl (.int, xa_f n f))) (h1 : 0 ≤ e) (h2 : e < n) (hn : n ≤ 1000000) (hg : xx_go P d k (pc + 1) ls (.int (iI (f e)) :: r) hp Q) : xx_go P d k pc ls (.int (iI e) :: .ref a :: r) hp Q := go_ild hc hh (iI_nn h1 (by omega)) (iI_clamp h1 (by omega)) (xa_f_get h1 h2) hg
theorem mi_ist (hc : xp_code P k pc = some .iastore) (hh : hp[a]? = some (.inl (.int, xa_f n f))) (ha : xp_n0 P ≤ a) (h1 : 0 ≤ e) (h2 : e < n) (hn : n ≤ 1000000) (hg : xx_go P d k (pc + 1) ls r (hp.set a (.inl (.int, (xa_f n f).set e.toNat (.int (iI x))))) Q) : xx_go P d k pc ls (.int (iI x) :: .int (iI e) :: .ref a :: r) hp Q := go_ist hc hh ha (iI_nn h1 (by omega)) (iI_clamp h1 (by omega)) (by rw [xa_f_len]; omega) hg
theorem mi_lld (hc : xp_code P k pc = some .laload) (hh : hp[a]? = some (.inl (.long, xa_l n f))) (h1 : 0 ≤ e) (h2 : e < n) (hn : n ≤ 1000000) (hg : xx_go P d k (pc + 1) ls (.long (Int64.ofInt (f e)) :: r) hp Q) : xx_go P d k pc ls (.int (iI e) :: .ref a :: r) hp Q := go_lld hc hh (iI_nn h1 (by omega)) (iI_clamp h1 (by omega)) (xa_l_get h1 h2) hg
theorem mi_lst (hc : xp_code P k pc = some .lastore) (hh : hp[a]? = some (.inl (.long, xa_l n f))) (ha : xp_n0 P ≤ a) (h1 : 0 ≤ e) (h2 : e < n) (hn : n ≤ 1000000) (hg : xx_go P d k (pc + 1) ls r (hp.set a (.inl (.long, (xa_l n f).set e.toNat (.long (Int64.ofInt x))))) Q) : xx_go P d k pc ls (.long (Int64.ofInt x) :: .int (iI e) :: .ref a :: r) hp Q := go_lst hc hh ha (iI_nn h1 (by omega)) (iI_clamp h1 (by omega)) (by rw [xa_l_len]; omega) hg
theorem mi_eq {off : Int} {t : Nat} (hc : xp_code P k pc = some (.if_icmp .eq off)) (ht : xa_br pc off = some t) (x1 : -2147483648 ≤ x) (x2 : x < 2147483648) (y1 : -2147483648 ≤ y) (y2 : y < 2147483648) (h1 : x = y → xx_go P d k t ls r hp Q) (h2 : ¬ (x = y) → xx_go P d k (pc + 3) ls r hp Q) : xx_go P d k pc ls (.int (iI y) :: .int (iI x) :: r) hp Q := go_if hc rfl ht (fun hb => h1 ((iI_eq x1 x2 y1 y2).mp (of_decide_eq_true hb))) (fun hb => h2 (fun q => of_decide_eq_false hb ((iI_eq x1 x2 y1 y2).mpr q)))
theorem mi_eq0 {off : Int} {t : Nat} (hc : xp_code P k pc = some (.ifCond .eq off)) (ht : xa_br pc off = some t) (x1 : -2147483648 ≤ x) (x2 : x < 2147483648) (h1 : x = 0 → xx_go P d k t ls r hp Q) (h2 : ¬ (x = 0) → xx_go P d k (pc + 3) ls r hp Q) : xx_go P d k pc ls (.int (iI x) :: r) hp Q := by
  have y1 : -2147483648 ≤ (0 : Int) := by decide
  have y2 : (0 : Int) < 2147483648 := by decide
  exact go_if (b := xa_ci .eq (iI x) (iI 0)) hc rfl ht (fun hb => h1 ((iI_eq x1 x2 y1 y2).mp (of_decide_eq_true hb))) (fun hb => h2 (fun q => of_decide_eq_false hb ((iI_eq x1 x2 y1 y2).mpr q)))
theorem mi_ne {off : Int} {t : Nat} (hc : xp_code P k pc = some (.if_icmp .ne off)) (ht : xa_br pc off = some t) (x1 : -2147483648 ≤ x) (x2 : x < 2147483648) (y1 : -2147483648 ≤ y) (y2 : y < 2147483648) (h1 : ¬ x = y → xx_go P d k t ls r hp Q) (h2 : ¬ (¬ x = y) → xx_go P d k (pc + 3) ls r hp Q) : xx_go P d k pc ls (.int (iI y) :: .int (iI x) :: r) hp Q := go_if hc rfl ht (fun hb => h1 (fun q => of_decide_eq_true hb ((iI_eq x1 x2 y1 y2).mpr q))) (fun hb => h2 (fun q => of_decide_eq_false hb (fun q2 => q ((iI_eq x1 x2 y1 y2).mp q2))))
theorem mi_ne0 {off : Int} {t : Nat} (hc : xp_code P k pc = some (.ifCond .ne off)) (ht : xa_br pc off = some t) (x1 : -2147483648 ≤ x) (x2 : x < 2147483648) (h1 : ¬ x = 0 → xx_go P d k t ls r hp Q) (h2 : ¬ (¬ x = 0) → xx_go P d k (pc + 3) ls r hp Q) : xx_go P d k pc ls (.int (iI x) :: r) hp Q := by
  have y1 : -2147483648 ≤ (0 : Int) := by decide
  have y2 : (0 : Int) < 2147483648 := by decide
  exact go_if (b := xa_ci .ne (iI x) (iI 0)) hc rfl ht (fun hb => h1 (fun q => of_decide_eq_true hb ((iI_eq x1 x2 y1 y2).mpr q))) (fun hb => h2 (fun q => of_decide_eq_false hb (fun q2 => q ((iI_eq x1 x2 y1 y2).mp q2))))
theorem mi_lt {off : Int} {t : Nat} (hc : xp_code P k pc = some (.if_icmp .lt off)) (ht : xa_br pc off = some t) (x1 : -2147483648 ≤ x) (x2 : x < 2147483648) (y1 : -2147483648 ≤ y) (y2 : y < 2147483648) (h1 : x < y → xx_go P d k t ls r hp Q) (h2 : ¬ (x < y) → xx_go P d k (pc + 3) ls r hp Q) : xx_go P d k pc ls (.int (iI y) :: .int (iI x) :: r) hp Q := go_if hc rfl ht (fun hb => h1 ((iI_lt x1 x2 y1 y2).mp (of_decide_eq_true hb))) (fun hb => h2 (fun q => of_decide_eq_false hb ((iI_lt x1 x2 y1 y2).mpr q)))
theorem mi_lt0 {off : Int} {t : Nat} (hc : xp_code P k pc = some (.ifCond .lt off)) (ht : xa_br pc off = some t) (x1 : -2147483648 ≤ x) (x2 : x < 2147483648) (h1 : x < 0 → xx_go P d k t ls r hp Q) (h2 : ¬ (x < 0) → xx_go P d k (pc + 3) ls r hp Q) : xx_go P d k pc ls (.int (iI x) :: r) hp Q := by
  have y1 : -2147483648 ≤ (0 : Int) := by decide
  have y2 : (0 : Int) < 2147483648 := by decide
  exact go_if (b := xa_ci .lt (iI x) (iI 0)) hc rfl ht (fun hb => h1 ((iI_lt x1 x2 y1 y2).mp (of_decide_eq_true hb))) (fun hb => h2 (fun q => of_decide_eq_false hb ((iI_lt x1 x2 y1 y2).mpr q)))
theorem mi_ge {off : Int} {t : Nat} (hc : xp_code P k pc = some (.if_icmp .ge off)) (ht : xa_br pc off = some t) (x1 : -2147483648 ≤ x) (x2 : x < 2147483648) (y1 : -2147483648 ≤ y) (y2 : y < 2147483648) (h1 : y ≤ x → xx_go P d k t ls r hp Q) (h2 : ¬ (y ≤ x) → xx_go P d k (pc + 3) ls r hp Q) : xx_go P d k pc ls (.int (iI y) :: .int (iI x) :: r) hp Q := go_if hc rfl ht (fun hb => h1 ((iI_le y1 y2 x1 x2).mp (of_decide_eq_true hb))) (fun hb => h2 (fun q => of_decide_eq_false hb ((iI_le y1 y2 x1 x2).mpr q)))
theorem mi_ge0 {off : Int} {t : Nat} (hc : xp_code P k pc = some (.ifCond .ge off)) (ht : xa_br pc off = some t) (x1 : -2147483648 ≤ x) (x2 : x < 2147483648) (h1 : 0 ≤ x → xx_go P d k t ls r hp Q) (h2 : ¬ (0 ≤ x) → xx_go P d k (pc + 3) ls r hp Q) : xx_go P d k pc ls (.int (iI x) :: r) hp Q := by
  have y1 : -2147483648 ≤ (0 : Int) := by decide
  have y2 : (0 : Int) < 2147483648 := by decide
  exact go_if (b := xa_ci .ge (iI x) (iI 0)) hc rfl ht (fun hb => h1 ((iI_le y1 y2 x1 x2).mp (of_decide_eq_true hb))) (fun hb => h2 (fun q => of_decide_eq_false hb ((iI_le y1 y2 x1 x2).mpr q)))
theorem mi_gt {off : Int} {t : Nat} (hc : xp_code P k pc = some (.if_icmp .gt off)) (ht : xa_br pc off = some t) (x1 : -2147483648 ≤ x) (x2 : x < 2147483648) (y1 : -2147483648 ≤ y) (y2 : y < 2147483648) (h1 : y < x → xx_go P d k t ls r hp Q) (h2 : ¬ (y < x) → xx_go P d k (pc + 3) ls r hp Q) : xx_go P d k pc ls (.int (iI y) :: .int (iI x) :: r) hp Q := go_if hc rfl ht (fun hb => h1 ((iI_lt y1 y2 x1 x2).mp (of_decide_eq_true hb))) (fun hb => h2 (fun q => of_decide_eq_false hb ((iI_lt y1 y2 x1 x2).mpr q)))
theorem mi_gt0 {off : Int} {t : Nat} (hc : xp_code P k pc = some (.ifCond .gt off)) (ht : xa_br pc off = some t) (x1 : -2147483648 ≤ x) (x2 : x < 2147483648) (h1 : 0 < x → xx_go P d k t ls r hp Q) (h2 : ¬ (0 < x) → xx_go P d k (pc + 3) ls r hp Q) : xx_go P d k pc ls (.int (iI x) :: r) hp Q := by
  have y1 : -2147483648 ≤ (0 : Int) := by decide
  have y2 : (0 : Int) < 2147483648 := by decide
  exact go_if (b := xa_ci .gt (iI x) (iI 0)) hc rfl ht (fun hb => h1 ((iI_lt y1 y2 x1 x2).mp (of_decide_eq_true hb))) (fun hb => h2 (fun q => of_decide_eq_false hb ((iI_lt y1 y2 x1 x2).mpr q)))
theorem mi_le {off : Int} {t : Nat} (hc : xp_code P k pc = some (.if_icmp .le off)) (ht : xa_br pc off = some t) (x1 : -2147483648 ≤ x) (x2 : x < 2147483648) (y1 : -2147483648 ≤ y) (y2 : y < 2147483648) (h1 : x ≤ y → xx_go P d k t ls r hp Q) (h2 : ¬ (x ≤ y) → xx_go P d k (pc + 3) ls r hp Q) : xx_go P d k pc ls (.int (iI y) :: .int (iI x) :: r) hp Q := go_if hc rfl ht (fun hb => h1 ((iI_le x1 x2 y1 y2).mp (of_decide_eq_true hb))) (fun hb => h2 (fun q => of_decide_eq_false hb ((iI_le x1 x2 y1 y2).mpr q)))
theorem mi_le0 {off : Int} {t : Nat} (hc : xp_code P k pc = some (.ifCond .le off)) (ht : xa_br pc off = some t) (x1 : -2147483648 ≤ x) (x2 : x < 2147483648) (h1 : x ≤ 0 → xx_go P d k t ls r hp Q) (h2 : ¬ (x ≤ 0) → xx_go P d k (pc + 3) ls r hp Q) : xx_go P d k pc ls (.int (iI x) :: r) hp Q := by
  have y1 : -2147483648 ≤ (0 : Int) := by decide
  have y2 : (0 : Int) < 2147483648 := by decide
  exact go_if (b := xa_ci .le (iI x) (iI 0)) hc rfl ht (fun hb => h1 ((iI_le x1 x2 y1 y2).mp (of_decide_eq_true hb))) (fun hb => h2 (fun q => of_decide_eq_false hb ((iI_le x1 x2 y1 y2).mpr q)))
end MI
section MI2
variable {P : xx_P} {d k pc : Nat} {ls : xx_L} {r : List Value} {hp : xx_H} {Q : Option Value → xx_H → Prop} {x y : Int}
theorem mi_add (hc : xp_code P k pc = some .iadd) (hg : xx_go P d k (pc + 1) ls (.int (iI (x + y)) :: r) hp Q) : xx_go P d k pc ls (.int (iI y) :: .int (iI x) :: r) hp Q := go_a hc (by show some (pc + 1, ls, Value.int (iI x + iI y) :: r) = _; rw [iI_add]) hg
theorem mi_sub (hc : xp_code P k pc = some .isub) (hg : xx_go P d k (pc + 1) ls (.int (iI (x - y)) :: r) hp Q) : xx_go P d k pc ls (.int (iI y) :: .int (iI x) :: r) hp Q := go_a hc (by show some (pc + 1, ls, Value.int (iI x - iI y) :: r) = _; rw [iI_sub]) hg
theorem mi_mul (hc : xp_code P k pc = some .imul) (hg : xx_go P d k (pc + 1) ls (.int (iI (x * y)) :: r) hp Q) : xx_go P d k pc ls (.int (iI y) :: .int (iI x) :: r) hp Q := go_a hc (by show some (pc + 1, ls, Value.int (iI x * iI y) :: r) = _; rw [iI_mul]) hg
end MI2
