section RDX
variable {f g : Int → Int} {n : Int}
theorem sk_ext (E : ∀ e : Int, 0 ≤ e → e < n → g e = f e) : ∀ (m : Nat) (p r : Int), 0 ≤ p → p + m ≤ n → sp_sk g m p r = sp_sk f m p r
  | 0, _, _, _, _ => rfl
  | m + 1, p, r, p0, p1 => by
    rw [sp_sk_s, sp_sk_s, E p p0 (by omega), sk_ext E m (p + 1) 0 (by omega) (by omega), sk_ext E m (p + 1) 1 (by omega) (by omega), sk_ext E m (p + 1) r (by omega) (by omega)]
theorem ae_ext (E : ∀ e : Int, 0 ≤ e → e < n → g e = f e) : ∀ (m : Nat) (p : Int), 0 ≤ p → p + m ≤ n → sp_ae g m p = sp_ae f m p
  | 0, _, _, _ => rfl
  | m + 1, p, p0, p1 => by
    show (if 0 ≤ LIX (g p) then sp_ae g m (p + 1) else p) = (if 0 ≤ LIX (f p) then sp_ae f m (p + 1) else p)
    rw [E p p0 (by omega), ae_ext E m (p + 1) (by omega) (by omega)]
theorem ae_R : ∀ (m : Nat) (p : Int), p ≤ sp_ae f m p ∧ sp_ae f m p ≤ p + m
  | 0, p => ⟨Int.le_refl _, by show p ≤ p + ((0 : Nat) : Int); omega⟩
  | m + 1, p => by
    have q := ae_R m (p + 1)
    show p ≤ (if 0 ≤ LIX (f p) then sp_ae f m (p + 1) else p) ∧ (if 0 ≤ LIX (f p) then sp_ae f m (p + 1) else p) ≤ p + ((m + 1 : Nat) : Int)
    split <;> omega
theorem dg_ext (E : ∀ e : Int, 0 ≤ e → e < n → g e = f e) {p : Int} (p0 : 0 ≤ p) : ∀ m : Nat, p + m ≤ n → sp_dg g p m = sp_dg f p m
  | 0, _ => rfl
  | m + 1, p1 => by
    rw [sp_dg_s, sp_dg_s, E (p + m) (by omega) (by omega), dg_ext E p0 m (by omega)]
theorem nv_ext (E : ∀ e : Int, 0 ≤ e → e < n → g e = f e) {p : Int} (p0 : 0 ≤ p) : ∀ m : Nat, p + m ≤ n → sp_nv g p m = sp_nv f p m
  | 0, _ => rfl
  | m + 1, p1 => by
    show (match sp_nv g p m with
      | none => none
      | some v => if v ≤ (4611686018427387903 - (g (p + m) - 48)) / 10 then some (v * 10 + (g (p + m) - 48)) else none) = (match sp_nv f p m with
      | none => none
      | some v => if v ≤ (4611686018427387903 - (f (p + m) - 48)) / 10 then some (v * 10 + (f (p + m) - 48)) else none)
    rw [nv_ext E p0 m (by omega), E (p + m) (by omega) (by omega)]
theorem wcf_ex (E : ∀ e : Int, 0 ≤ e → e < n → g e = f e) : ∀ (m : Nat) (p a : Int), 0 ≤ p → p + m ≤ n → wcf g m p a = wcf f m p a
  | 0, _, _, _, _ => rfl
  | m + 1, p, a, p0, p1 => by
    show wcf g m (p + 1) (47 * a + (LIX (g p) + 1)) = wcf f m (p + 1) (47 * a + (LIX (f p) + 1))
    rw [E p p0 (by omega), wcf_ex E m (p + 1) _ (by omega) (by omega)]
theorem at_ext (E : ∀ e : Int, 0 ≤ e → e < n → g e = f e) {p : Int} (p0 : 0 ≤ p) (m : Nat) (p1 : p + m ≤ n) : sp_at g p m = sp_at f p m := by
  unfold sp_at
  rw [dg_ext E p0 m p1, nv_ext E p0 m p1, wcf_ex E m p 0 p0 p1]
theorem wd_ext (E : ∀ e : Int, 0 ≤ e → e < n → g e = f e) {p : Int} (p0 : 0 ≤ p) (p1 : p < n) : sp_wd g n p = sp_wd f n p ∧ 0 ≤ sp_wd f n p ∧ sp_wd f n p ≤ n := by
  have q := ae_R (f := f) (n - p).toNat p
  unfold sp_wd
  rw [E p p0 p1, ae_ext E (n - p).toNat p p0 (by omega)]
  refine ⟨rfl, ?_⟩
  split <;> omega
theorem wt_ext (E : ∀ e : Int, 0 ≤ e → e < n → g e = f e) {p : Int} (p0 : 0 ≤ p) (p1 : p < n) : sp_wt g n p = sp_wt f n p := by
  have q := ae_R (f := f) (n - p).toNat p
  unfold sp_wt
  rw [E p p0 p1, ae_ext E (n - p).toNat p p0 (by omega), at_ext E p0 _ (by omega)]
theorem rd_ext (E : ∀ e : Int, 0 ≤ e → e < n → g e = f e) : ∀ (m : Nat) (p w : Int) (F : sp_F), 0 ≤ p → sp_rd g n m p w F = sp_rd f n m p w F
  | 0, _, _, _, _ => rfl
  | m + 1, p, w, F, p0 => by
    show (if n ≤ p then sp_end F else match sp_wt g n p with
      | none => none
      | some x => if sp_ok w x.1 F then sp_rd g n m (sp_sk g (n - sp_wd g n p).toNat (sp_wd g n p) 0) (w + 1) (sp_acc x.1 x.2 F) else none) = (if n ≤ p then sp_end F else match sp_wt f n p with
      | none => none
      | some x => if sp_ok w x.1 F then sp_rd f n m (sp_sk f (n - sp_wd f n p).toNat (sp_wd f n p) 0) (w + 1) (sp_acc x.1 x.2 F) else none)
    by_cases c : n ≤ p
    · rw [if_pos c, if_pos c]
    · have d := wd_ext E p0 (by omega)
      rw [if_neg c, if_neg c, wt_ext E p0 (by omega), d.1, sk_ext E _ _ 0 d.2.1 (by omega)]
      have k := sp_sk_R f (n - sp_wd f n p).toNat (sp_wd f n p) 0
      cases sp_wt f n p with
      | none => rfl
      | some x =>
        show (if sp_ok w x.1 F then sp_rd g n m (sp_sk f (n - sp_wd f n p).toNat (sp_wd f n p) 0) (w + 1) (sp_acc x.1 x.2 F) else none) = (if sp_ok w x.1 F then sp_rd f n m (sp_sk f (n - sp_wd f n p).toNat (sp_wd f n p) 0) (w + 1) (sp_acc x.1 x.2 F) else none)
        rw [rd_ext E m _ _ _ (by omega)]
theorem RD_ext (E : ∀ e : Int, 0 ≤ e → e < n → g e = f e) (n0 : 0 ≤ n) : sp_RD g n = sp_RD f n := by
  have k := sp_sk_R f n.toNat 0 0
  unfold sp_RD
  rw [sk_ext E n.toNat 0 0 (by omega) (by omega), rd_ext E _ _ _ _ (by omega)]
end RDX
