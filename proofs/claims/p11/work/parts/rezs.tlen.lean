def dgf (b : Int) : Nat → Int → Int
  | 0, _ => 1
  | n + 1, y => if y < b then 1 else 1 + dgf b n (y / b)
def dgn (b y : Int) : Int := dgf b (y.toNat + 1) y
def CP (a b : Int) : Prop := (a ≤ 2000 ∧ b = a) ∨ (2000 ≤ a ∧ b = 2000)
def DGU (b C u c : Int) : Prop := (u = 0 ∧ c = C) ∨ ∃ m : Nat, u = b ^ m ∧ c + m + 1 = C
def DGN (b y u : Int) : Prop := ∃ m : Nat, u = b ^ m ∧ dgn b y = (m : Int) + dgn b (y / u)
def DGM (b y u n : Int) : Prop := ∃ m : Nat, u = b ^ m ∧ n = m ∧ dgn b y = (m : Int) + dgn b (y / u)
section DGS
variable {b y : Int}
theorem dgf_same (hb : b = 10 ∨ b = 47) : ∀ (n m : Nat) (y : Int), 0 ≤ y → y.toNat < n → y.toNat < m → dgf b n y = dgf b m y
  | 0, _, _, _, h, _ => absurd h (Nat.not_lt_zero _)
  | _ + 1, 0, _, _, _, h => absurd h (Nat.not_lt_zero _)
  | n + 1, m + 1, y, y0, h1, h2 => by
    show (if y < b then 1 else 1 + dgf b n (y / b)) = (if y < b then 1 else 1 + dgf b m (y / b))
    by_cases c : y < b
    · rw [if_pos c, if_pos c]
    · have q : 0 ≤ y / b ∧ y / b < y := by
        rcases hb with rfl | rfl
        · omega
        · omega
      rw [if_neg c, if_neg c, dgf_same hb n m (y / b) q.1 (by omega) (by omega)]
theorem dgn_lt (c : y < b) : dgn b y = 1 := if_pos c
theorem dgn_ge (hb : b = 10 ∨ b = 47) (c : ¬ y < b) : dgn b y = 1 + dgn b (y / b) := by
  have q : 0 ≤ y / b ∧ y / b < y := by
    rcases hb with rfl | rfl
    · omega
    · omega
  show (if y < b then 1 else 1 + dgf b y.toNat (y / b)) = 1 + dgf b ((y / b).toNat + 1) (y / b)
  rw [if_neg c, dgf_same hb y.toNat ((y / b).toNat + 1) (y / b) q.1 (by omega) (by omega)]
theorem dgf_1 : ∀ (n : Nat) (y : Int), 1 ≤ dgf b n y
  | 0, _ => Int.le_refl _
  | n + 1, y => by
    have q := dgf_1 n (y / b)
    show 1 ≤ (if y < b then 1 else 1 + dgf b n (y / b))
    split <;> omega
theorem dgn_1 : 1 ≤ dgn b y := dgf_1 _ _
theorem wcf_dg {f : Int → Int} {e : Int} : ∀ n : Nat, (∀ q : Nat, q < n + 1 → atc (f (e + q))) → dgn 47 (wcf f (n + 1) e 0) = (n : Int) + 1 ∧ 1 ≤ wcf f (n + 1) e 0
  | 0, h => by
    have a := (LIX_atc (h 0 (by decide))).1
    have r := LIX_R (f (e + ((0 : Nat) : Int)))
    have w := wcf_last f 0 e 0
    have w0 : wcf f 0 e 0 = 0 := rfl
    rw [w0] at w
    rw [w]
    exact ⟨dgn_lt (by omega), by omega⟩
  | n + 1, h => by
    have i := wcf_dg (f := f) (e := e) n (fun q hq => h q (by omega))
    have a := (LIX_atc (h (n + 1) (by omega))).1
    have r := LIX_R (f (e + ((n + 1 : Nat) : Int)))
    rw [wcf_last f (n + 1) e 0, dgn_ge (Or.inr rfl) (by omega), show (47 * wcf f (n + 1) e 0 + (LIX (f (e + ((n + 1 : Nat) : Int))) + 1)) / 47 = wcf f (n + 1) e 0 by omega, i.1]
    omega
end DGS
def sp_ln (z : Int) : ob_T → Int × Int × Int
  | .num n => (dgn 10 n, 4 + dgn 10 n, 0)
  | .var v => (if v = 0 then z else dgn 47 (v : Int), if v = 31361 then 1 else 4 + (if v = 0 then z else dgn 47 (v : Int)), 0)
  | .add a b => (if sp_isq a = true ∧ sp_one b = true then 1 + (sp_ln z b).2.2 else 1 + (sp_ln z a).1 + (sp_ln z b).2.1, 1 + (sp_ln z a).1 + (sp_ln z b).2.1, (sp_ln z a).1)
  | _ => (0, 0, 0)
def sp_vp : ob_T → Prop
  | .var v => v ≠ 0
  | .add a b => sp_vp a ∧ sp_vp b
  | _ => True
theorem ln_nn {z : Int} (hz : 0 ≤ z) (t : ob_T) : 0 ≤ (sp_ln z t).1 ∧ 0 ≤ (sp_ln z t).2.1 ∧ 0 ≤ (sp_ln z t).2.2 := by
  induction t with
  | num n =>
    have q := dgn_1 (b := 10) (y := n)
    exact ⟨show 0 ≤ dgn 10 n by omega, show 0 ≤ 4 + dgn 10 n by omega, Int.le_refl _⟩
  | var v =>
    have q := dgn_1 (b := 47) (y := (v : Int))
    refine ⟨?_, ?_, Int.le_refl _⟩
    · show 0 ≤ (if v = 0 then z else dgn 47 (v : Int))
      split <;> omega
    · show 0 ≤ (if v = 31361 then 1 else 4 + (if v = 0 then z else dgn 47 (v : Int)))
      split
      · decide
      · split <;> omega
  | add a b ha hb =>
    refine ⟨?_, ?_, ha.1⟩
    · show 0 ≤ (if sp_isq a = true ∧ sp_one b = true then 1 + (sp_ln z b).2.2 else 1 + (sp_ln z a).1 + (sp_ln z b).2.1)
      split <;> omega
    · show 0 ≤ 1 + (sp_ln z a).1 + (sp_ln z b).2.1
      omega
  | _ => exact ⟨Int.le_refl _, Int.le_refl _, Int.le_refl _⟩
theorem ln_z {y z : Int} (t : ob_T) (h : sp_vp t) : sp_ln y t = sp_ln z t := by
  induction t with
  | var v =>
    have h : v ≠ 0 := h
    show ((if v = 0 then y else dgn 47 (v : Int)), (if v = 31361 then 1 else 4 + (if v = 0 then y else dgn 47 (v : Int))), (0 : Int)) = ((if v = 0 then z else dgn 47 (v : Int)), (if v = 31361 then 1 else 4 + (if v = 0 then z else dgn 47 (v : Int))), 0)
    rw [if_neg h, if_neg h]
  | add a b ha hb =>
    show ((if sp_isq a = true ∧ sp_one b = true then 1 + (sp_ln y b).2.2 else 1 + (sp_ln y a).1 + (sp_ln y b).2.1), 1 + (sp_ln y a).1 + (sp_ln y b).2.1, (sp_ln y a).1) = ((if sp_isq a = true ∧ sp_one b = true then 1 + (sp_ln z b).2.2 else 1 + (sp_ln z a).1 + (sp_ln z b).2.1), 1 + (sp_ln z a).1 + (sp_ln z b).2.1, (sp_ln z a).1)
    rw [ha h.1, hb h.2]
  | _ => rfl
def sp_tx : sp_Th → ob_T
  | (v, some ps, B) => sp_li [.var 20052094, .var v, sp_li (ps.map .var), B]
  | (v, none, B) => sp_li [.var 217445062396, .var v, B]
