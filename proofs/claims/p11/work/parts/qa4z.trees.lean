theorem SC_le {f : Int → Int} : ∀ (d n : Nat), SC f n ≤ SC f (n + d)
  | 0, _ => Int.le_refl _
  | d + 1, n => by
    have q := SC_le (f := f) d n
    show SC f n ≤ SC f (n + d) + (if f ((n + d : Nat) : Int) = -2 then 1 else 0)
    split <;> omega
theorem SC_no {f : Int → Int} {n m : Nat} {k : Int} (e : SC f m = SC f n) (k0 : (n : Int) ≤ k) (k1 : k < m) : f k ≠ -2 := by
  intro q
  have a := SC_le (f := f) (k.toNat - n) n
  have b := SC_le (f := f) (m - (k.toNat + 1)) (k.toNat + 1)
  rw [show n + (k.toNat - n) = k.toNat by omega] at a
  rw [show k.toNat + 1 + (m - (k.toNat + 1)) = m by omega] at b
  have c : SC f (k.toNat + 1) = SC f k.toNat + 1 := by
    show SC f k.toNat + (if f (k.toNat : Int) = -2 then 1 else 0) = _
    rw [show ((k.toNat : Nat) : Int) = k by omega, if_pos q]
  omega
def mNm : List Nat := [31361, 20, 85168940, 429, 26209844, 345281, 100073763959, 37, 38, 41, 16228223, 6692, 6833, 1456687, 210602393640, 31651, 1860108727, 20052094, 217445062396, 746742303, 9725913052809, 79977884, 942445940, 719, 33423, 2211412, 15480824, 2132882439, 47287, 2079676, 1975462, 107484305, 30253168, 4382298804, 1663818, 55479, 673, 9077, 44569, 2399032, 7634, 966246, 2023507, 36351]
def MNA (A : Nat → Int → Int) (N : Int → Int) : Prop := ∀ x : Nat, x < 44 → DM A N (x : Int) = .var (mNm.getD x 0)
def TRX (I : Nat → Int) (A : Nat → Int → Int) (N : Int → Int) : Prop := MU I A N ∧ MNA A N
section TXS
variable {F G : Nat → Prop} {I I1 : Nat → Int} {A A1 : Nat → Int → Int} {N N1 : Int → Int} {k : Int}
theorem MX_BX (h : MX I A N) (x : BX F G I A N I1 A1 N1) (f10 : ¬ F 10) (g8 : ¬ G 8) (g9 : ¬ G 9) : MX I1 A1 N1 ∧ MKE I A N A1 N1 := by
  obtain ⟨hS, u1, u2, u3⟩ := h
  have S1 := x.1
  have x7 := x.2.1
  have e10 : I1 10 = I 10 := x.2.2.2.1 10 (by decide) f10
  have e8 : A1 8 = A 8 := x.2.2.2.2 8 (by decide) (by decide) (by decide) (by decide) (by decide) (by decide) g8
  have e9 : A1 9 = A 9 := x.2.2.2.2 9 (by decide) (by decide) (by decide) (by decide) (by decide) (by decide) g9
  have i0 := hS.1.1
  have sc : SC (A1 1) (I1 7).toNat = SC (A1 1) (I 7).toNat := by
    have a := hS.1.2.2.2.2
    have b := S1.1.2.2.2.2
    have c := SC_ext (f := A 1) (g := A1 1) (I 7).toNat (fun k a b => (x.2.2.1 k a (by omega)).1)
    omega
  have ol : ∀ k : Int, 0 ≤ k → k < I1 7 → A1 1 k = -2 → k < I 7 := fun k k0 k1 e => by
    by_cases q : k < I 7
    · exact q
    · exact absurd e (SC_no sc (by omega) (by omega))
  have mke : MKE I A N A1 N1 := fun k k0 k1 => by
    obtain ⟨a, b, c, -⟩ := x.2.2.1 k k0 k1
    unfold mkd mka mkb
    rw [a, b, c, e8, e9]
    exact ⟨rfl, rfl, rfl⟩
  refine ⟨⟨S1, fun j k j0 jk k1 q => S1.2.2.2.2.2.2.2.1 j k j0 jk k1 q.1 q.2.1 q.2.2, fun j k j0 jk k1 q => ?_, fun k k0 k1 e q hq => ?_⟩, mke⟩
  · have kk := ol k (by omega) k1 q.2.1
    rw [(x.2.2.1 j j0 (by omega)).1, (x.2.2.1 k (by omega) kk).1, (mke j j0 (by omega)).2.1, (mke k (by omega) kk).2.1] at q
    exact u2 j k j0 jk kk q
  · have kk := ol k k0 k1 e
    have a := x.2.2.1 k k0 kk
    rw [a.2.1, e9] at hq
    rw [a.2.1, e8]
    exact u3 k k0 kk (a.1 ▸ e) q hq
theorem DM_BX (hS : MST I A N) (h : TRX I A N) (x : BX F G I A N I1 A1 N1) (f10 : ¬ F 10) (g8 : ¬ G 8) (g9 : ¬ G 9) (k0 : 0 ≤ k) (k1 : k < I 7) : DM A1 N1 k = DM A N k := ob_D_ext (MX_W ⟨hS, h.1⟩) (MX_BX ⟨hS, h.1⟩ x f10 g8 g9).2 k0 k1
theorem TRX_BX (hS : MST I A N) (hN : NM I A) (h : TRX I A N) (x : BX F G I A N I1 A1 N1) (f10 : ¬ F 10) (g8 : ¬ G 8) (g9 : ¬ G 9) : TRX I1 A1 N1 := ⟨(MX_BX ⟨hS, h.1⟩ x f10 g8 g9).1.2, fun j hj => by
  have := hN.1
  rw [DM_BX hS h x f10 g8 g9 (by omega) (by omega)]
  exact h.2 j hj⟩
theorem DM_12 (h1 : A1 1 = A 1) (h2 : A1 2 = A 2) (h8 : A1 8 = A 8) (h9 : A1 9 = A 9) : DM A1 N = DM A N := by
  have a : mkd A1 = mkd A := by
    funext k
    unfold mkd
    rw [h1]
  have b : mka A1 N = mka A N := by
    funext k
    unfold mka
    rw [h1, h2, h8, h9]
  have c : mkb A1 = mkb A := by
    funext k
    unfold mkb
    rw [h1, h2]
  funext k
  unfold DM
  rw [a, b, c]
theorem TRX_12 (h : TRX I A N) (h7 : I1 7 = I 7) (h1 : A1 1 = A 1) (h2 : A1 2 = A 2) (h8 : A1 8 = A 8) (h9 : A1 9 = A 9) : TRX I1 A1 N := by
  have b : mka A1 N = mka A N := by
    funext k
    unfold mka
    rw [h1, h2, h8, h9]
  unfold TRX MU MNA
  rw [h7, DM_12 h1 h2 h8 h9, b, h1, h2, h8, h9]
  exact h
theorem DM_0 (h : TRX I A N) : DM A N 0 = .var 31361 := h.2 0 (by decide)
theorem DM_1 (h : TRX I A N) : DM A N 1 = .var 20 := h.2 1 (by decide)
theorem DM_2 (h : TRX I A N) : DM A N 2 = .var 85168940 := h.2 2 (by decide)
theorem DM_nm (hS : MST I A N) (hN : NM I A) (h : TRX I A N) (k0 : 0 ≤ k) (k1 : k < I 7) {x : Nat} (hx : x < 44) : DM A N k = .var (mNm.getD x 0) ↔ k = x := by
  have n := hN.1
  constructor
  · intro e
    rw [← h.2 x hx] at e
    exact DM_inj ⟨hS, h.1⟩ k0 k1 (by omega) (by omega) e
  · intro e
    rw [e]
    exact h.2 x hx
theorem isq_2 (hS : MST I A N) (hN : NM I A) (h : TRX I A N) (k0 : 0 ≤ k) (k1 : k < I 7) : sp_isq (DM A N k) = true ↔ k = 2 := by
  constructor
  · intro e
    have n := hN.1
    generalize ed : DM A N k = t at e
    match t, e with
    | .var v, e =>
      have v2 : v = 85168940 := by
        have : (v == 85168940) = true := e
        exact beq_iff_eq.mp this
      rw [v2] at ed
      exact (DM_nm hS hN h k0 k1 (x := 2) (by decide)).mp ed
  · intro e
    rw [e, DM_2 h]
    rfl
theorem isq_f (hS : MST I A N) (hN : NM I A) (h : TRX I A N) (k0 : 0 ≤ k) (k1 : k < I 7) (e : k ≠ 2) : sp_isq (DM A N k) = false := by
  cases q : sp_isq (DM A N k) with
  | false => rfl
  | true => exact absurd ((isq_2 hS hN h k0 k1).mp q) e
theorem DM_at (hS : MST I A N) (k0 : 0 ≤ k) (k1 : k < I 7) (e : A 1 k < 0) : (A 1 k = -1 ∧ ∃ n : Int, DM A N k = .num n) ∨ (A 1 k = -2 ∧ ∃ v : Nat, DM A N k = .var v) := by
  have q := (hS.2.1 k k0 k1).1
  by_cases c : A 1 k = -1
  · exact Or.inl ⟨c, _, DM_n c⟩
  · exact Or.inr ⟨by omega, _, DM_s (by omega)⟩
theorem DM_pr (hS : MST I A N) (h : TRX I A N) (k0 : 0 ≤ k) (k1 : k < I 7) (e : 0 ≤ A 1 k) : DM A N k = .add (DM A N (A 1 k)) (DM A N (A 2 k)) := DM_p ⟨hS, h.1⟩ k0 k1 e
end TXS
