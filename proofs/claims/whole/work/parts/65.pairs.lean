/-! both new objects side by side, and each call on them -/
def xl_H (h : xx_H) (u o w : Nat) (K G N S La Lb Lc Ld Le Lf Lg Lh Li : List Value) : xx_H := h ++ (xm_ko h.length u :: (xm_kt h.length u K G N S ++ xr_B (h.length + 32) (nI o) (nI o) (nI w) La Lb Lc Ld Le Lf Lg Lh Li))
/-- the model's own cells, as its constructor leaves them -/
def xl_M (hp : xx_H) (c o w : Nat) : Prop := hp[c]? = some (.inr (13, xr_fs c (nI o) (nI o) (nI w))) ∧ hp[c + 10]? = some (.inl (.int, List.replicate 20 (.int 0))) ∧ hp[c + 11]? = some (.inl (.int, List.replicate 3000 (.int 0)))
def xf_fuel (n : Int32) : Int32 := if n < 1 ∨ ¬ n ≤ 1000 then -1 else 1000
def xf_end (n : Int32) : Int32 := if n < 0 ∨ 20 < n then -1 else n
theorem xl_M_of (h : xx_H) (u o w : Nat) (K G N S La Lb Lc Ld Le Lf Lg Lh Li : List Value) (hc : 11 ≤ h.length) (hu : u < 2 ^ 30) : xl_M (xl_H h u o w K G N S La Lb Lc Ld Le Lf Lg Lh Li) (h.length + 32) o w := ⟨xq_get 32, xq_get 42, xq_get 43⟩
theorem xl_M_F {h h1 : xx_H} {c o w : Nat} (hM : xl_M h (c + 32) o w) (F : xs_F h h1 c 32) : xl_M h1 (c + 32) o w := ⟨(F.2.2 _ (Or.inr (by omega))).trans hM.1, (F.2.2 _ (Or.inr (by omega))).trans hM.2.1, (F.2.2 _ (Or.inr (by omega))).trans hM.2.2⟩
theorem xl_c0 (z : Value) (d : Nat) (a1 : Int32) (a2 : Int32) (a3 : Int32) (a4 : Int32) (a5 : Int32) (h : xx_H) (u o w : Nat) (K G N S La Lb Lc Ld Le Lf Lg Lh Li : List Value) (hc : 11 ≤ h.length) (hu : u < 2 ^ 30) : xx_cl (xt_P z) (d + 8) 32 [.ref h.length, .int a1, .int a2, .int a3, .int a4, .int a5] (xl_H h u o w K G N S La Lb Lc Ld Le Lf Lg Lh Li) (fun v h1 => v = none ∧ xs_F (xl_H h u o w K G N S La Lb Lc Ld Le Lf Lg Lh Li) h1 h.length 32) := by
  refine cl_w (fun v h1 hq => ?_) (xm_feed z (d + 7) h.length (h.length + 3) a1 a2 a3 a4 a5 _ (List.replicate 5 (.int 0)) _ xq_get00 rfl (xq_get 3) List.length_replicate (by omega) (by omega))
  obtain ⟨rfl, rfl⟩ := hq
  exact ⟨rfl, xs_F_set (xq_get 3) (by simp only [xx_sz1, List.length_set]) (by omega) (by omega)⟩
theorem xl_c1 (z : Value) (d : Nat) (n : Int32) (h : xx_H) (u o w : Nat) (K G N S La Lb Lc Ld Le Lf Lg Lh Li : List Value) (hc : 11 ≤ h.length) (hu : u < 2 ^ 30) : xx_cl (xt_P z) (d + 8) 33 [.ref h.length, .int n] (xl_H h u o w K G N S La Lb Lc Ld Le Lf Lg Lh Li) (fun v h1 => v = some (.int (xf_end n)) ∧ xs_F (xl_H h u o w K G N S La Lb Lc Ld Le Lf Lg Lh Li) h1 h.length 32) := by
  refine cl_w (fun v h1 hq => ?_) (xm_end z (d + 6) h.length n _ _ hc rfl rfl ⟨xs_F_rf, xq_get00, xq_get 1, ⟨_, List.length_replicate, xq_get 2⟩, _, List.length_replicate, xs_rep_i _ _, xq_get 3⟩)
  obtain ⟨F, ⟨hn, rfl⟩ | ⟨hn, rfl⟩⟩ := hq
  · exact ⟨by unfold xf_end; rw [if_pos hn], F⟩
  · exact ⟨by unfold xf_end; rw [if_neg hn], F⟩
theorem xl_c2 (z : Value) (d : Nat) (n : Int32) (h : xx_H) (u o w : Nat) (K G N S La Lb Lc Ld Le Lf Lg Lh Li : List Value) (hc : 11 ≤ h.length) (hu : u < 2 ^ 30) : xx_cl (xt_P z) (d + 8) 36 [.ref h.length, .int n] (xl_H h u o w K G N S La Lb Lc Ld Le Lf Lg Lh Li) (fun v h1 => v = some (.int (xf_fuel n)) ∧ xs_F (xl_H h u o w K G N S La Lb Lc Ld Le Lf Lg Lh Li) h1 h.length 32) := by
  refine cl_w (fun v h1 hq => ?_) (xm_fuel z (d + 7) h.length n 1000 _ _ xq_get00 hc rfl rfl)
  rcases hq with ⟨hn, rfl, rfl⟩ | ⟨hn, rfl, rfl⟩
  · exact ⟨by unfold xf_fuel; rw [if_pos hn], xs_F_rf⟩
  · exact ⟨by unfold xf_fuel; rw [if_neg hn], xs_F_set xq_get00 rfl (by omega) (by omega)⟩
theorem xl_c3 (z : Value) (d : Nat) (h : xx_H) (u o w : Nat) (K G N S La Lb Lc Ld Le Lf Lg Lh Li : List Value) (hc : 11 ≤ h.length) (hu : u < 2 ^ 30) : xx_cl (xt_P z) (d + 8) 37 [.ref h.length] (xl_H h u o w K G N S La Lb Lc Ld Le Lf Lg Lh Li) (fun v h1 => v = some (.int 1) ∧ xs_F (xl_H h u o w K G N S La Lb Lc Ld Le Lf Lg Lh Li) h1 h.length 32) := by
  exact xm_run z (d + 4) h u K G N S (xr_B (h.length + 32) (nI o) (nI o) (nI w) La Lb Lc Ld Le Lf Lg Lh Li) hc hu
theorem xl_c4 (z : Value) (d : Nat) (n : Int32) (h : xx_H) (u o w : Nat) (K G N S La Lb Lc Ld Le Lf Lg Lh Li : List Value) (hc : 11 ≤ h.length) (hu : u < 2 ^ 30) : xx_cl (xt_P z) (d + 8) 50 [.ref h.length, .int n] (xl_H h u o w K G N S La Lb Lc Ld Le Lf Lg Lh Li) (fun v h1 => v = some (.int (xf_fault n)) ∧ xs_F (xl_H h u o w K G N S La Lb Lc Ld Le Lf Lg Lh Li) h1 h.length 32) := by
  refine cl_w (fun v h1 hq => ?_) (xm_fault z (d + 7) h.length n (h.length + 9) _ _ _ xq_get00 rfl rfl (xq_get 9) rfl rfl)
  obtain ⟨rfl, rfl⟩ := hq
  exact ⟨rfl, xs_F_rf⟩
theorem xl_c5 (z : Value) (d : Nat) (h : xx_H) (u o w : Nat) (K G N S La Lb Lc Ld Le Lf Lg Lh Li : List Value) (hc : 11 ≤ h.length) (hu : u < 2 ^ 30) : xx_cl (xt_P z) (d + 8) 51 [.ref h.length] (xl_H h u o w K G N S La Lb Lc Ld Le Lf Lg Lh Li) (fun v h1 => v = some (.int 0) ∧ xs_F (xl_H h u o w K G N S La Lb Lc Ld Le Lf Lg Lh Li) h1 h.length 32) := by
  refine cl_w (fun v h1 hq => ?_) (xm_steps z (d + 7) h.length 0 _ _ xq_get00 rfl)
  obtain ⟨rfl, rfl⟩ := hq
  exact ⟨rfl, xs_F_rf⟩
theorem xl_c6 (z : Value) (d : Nat) (n : Int32) (h : xx_H) (u o w : Nat) (K G N S La Lb Lc Ld Le Lf Lg Lh Li : List Value) (hc : 11 ≤ h.length) (hu : u < 2 ^ 30) : xx_cl (xt_P z) (d + 8) 52 [.ref h.length, .int n] (xl_H h u o w K G N S La Lb Lc Ld Le Lf Lg Lh Li) (fun v h1 => v = some (.int (xf_count n)) ∧ xs_F (xl_H h u o w K G N S La Lb Lc Ld Le Lf Lg Lh Li) h1 h.length 32) := by
  refine cl_w (fun v h1 hq => ?_) (xm_count z (d + 5) h.length n (h.length + 21) (h.length + 23) (h.length + 24) _ _ _ _ _ xq_get00 rfl rfl (xq_get 21) rfl rfl (xq_get 23) (xq_get 24))
  obtain ⟨rfl, rfl⟩ := hq
  exact ⟨rfl, xs_F_rf⟩
theorem xl_c7 (z : Value) (d : Nat) (h : xx_H) (u o w : Nat) (K G N S La Lb Lc Ld Le Lf Lg Lh Li : List Value) (hc : 11 ≤ h.length) (hu : u < 2 ^ 30) : xx_cl (xt_P z) (d + 8) 53 [.ref h.length] (xl_H h u o w K G N S La Lb Lc Ld Le Lf Lg Lh Li) (fun v h1 => v = some (.int 0) ∧ xs_F (xl_H h u o w K G N S La Lb Lc Ld Le Lf Lg Lh Li) h1 h.length 32) := by
  refine cl_w (fun v h1 hq => ?_) (xm_size z (d + 5) h.length (h.length + 16) (h.length + 17) 0 _ _ _ _ _ xq_get00 rfl (xq_get 16) (xq_get 17))
  obtain ⟨rfl, rfl⟩ := hq
  exact ⟨rfl, xs_F_rf⟩
theorem xl_c8 (z : Value) (d : Nat) (n : Int32) (h : xx_H) (u o w : Nat) (K G N S La Lb Lc Ld Le Lf Lg Lh Li : List Value) (hc : 11 ≤ h.length) (hu : u < 2 ^ 30) : xx_cl (xt_P z) (d + 8) 55 [.ref h.length, .int n] (xl_H h u o w K G N S La Lb Lc Ld Le Lf Lg Lh Li) (fun v h1 => v = some (.int (-1)) ∧ xs_F (xl_H h u o w K G N S La Lb Lc Ld Le Lf Lg Lh Li) h1 h.length 32) := by
  refine cl_w (fun v h1 hq => ?_) (xm_letter0 z (d + 5) h.length (h.length + 16) (h.length + 17) n _ _ _ _ _ xq_get00 rfl (xq_get 16) (xq_get 17))
  obtain ⟨rfl, rfl⟩ := hq
  exact ⟨rfl, xs_F_rf⟩
theorem xl_c9 (z : Value) (d : Nat) (n : Int32) (h : xx_H) (u o w : Nat) (K G N S La Lb Lc Ld Le Lf Lg Lh Li : List Value) (hc : 11 ≤ h.length) (hu : u < 2 ^ 30) : xx_cl (xt_P z) (d + 8) 57 [.ref h.length, .int n] (xl_H h u o w K G N S La Lb Lc Ld Le Lf Lg Lh Li) (fun v h1 => v = some (.int (-1)) ∧ xs_F (xl_H h u o w K G N S La Lb Lc Ld Le Lf Lg Lh Li) h1 h.length 32) := by
  refine cl_w (fun v h1 hq => ?_) (xm_tell0 z (d + 5) h.length (h.length + 21) (h.length + 22) n _ _ _ _ _ xq_get00 rfl (xq_get 21) rfl (xq_get 22))
  obtain ⟨rfl, rfl⟩ := hq
  exact ⟨rfl, xs_F_rf⟩
theorem xl_m0 (z : Value) (d c o w : Nat) (a1 : Int32) (a2 : Int32) (a3 : Int32) (a4 : Int32) (a5 : Int32) (hp : xx_H) (hc : 11 ≤ c) (ho : o < 2 ^ 31) (hM : xl_M hp c o w) : xx_cl (xt_P z) (d + 8) 66 [.ref c, .int a1, .int a2, .int a3, .int a4, .int a5] hp (fun v h1 => v = none ∧ xs_F hp h1 c 52) := by
  exact xn_feed z (d + 7) c a1 a2 a3 a4 a5 _ _ hp hc hM.1 rfl hM.2.1 List.length_replicate
theorem xl_m1 (z : Value) (d c o w : Nat) (n : Int32) (hp : xx_H) (hc : 11 ≤ c) (ho : o < 2 ^ 31) (hM : xl_M hp c o w) : xx_cl (xt_P z) (d + 8) 67 [.ref c, .int n] hp (fun v h1 => v = some (.int (xf_end n)) ∧ xs_F hp h1 c 52) := by
  refine cl_w (fun v h1 hq => ?_) (xn_end z (d + 7) c n _ _ _ hp hc hM.1 (show 13 < 86 by decide) rfl rfl rfl hM.2.1 List.length_replicate (xs_rep_i _ _) hM.2.2 List.length_replicate)
  obtain ⟨F, ⟨hn, rfl⟩ | ⟨hn, rfl⟩⟩ := hq
  · exact ⟨by unfold xf_end; rw [if_pos hn], F⟩
  · exact ⟨by unfold xf_end; rw [if_neg hn], F⟩
theorem xl_m2 (z : Value) (d c o w : Nat) (n : Int32) (hp : xx_H) (hc : 11 ≤ c) (ho : o < 2 ^ 31) (hM : xl_M hp c o w) : xx_cl (xt_P z) (d + 8) 68 [.ref c, .int n] hp (fun v h1 => v = some (.int (xf_fuel n)) ∧ xs_F hp h1 c 52) := by
  refine cl_w (fun v h1 hq => ?_) (xn_fuel z (d + 7) c n 1000 _ _ hM.1 hc rfl rfl)
  rcases hq with ⟨hn, rfl, rfl⟩ | ⟨hn, rfl, rfl⟩
  · exact ⟨by unfold xf_fuel; rw [if_pos hn], xs_F_rf⟩
  · exact ⟨by unfold xf_fuel; rw [if_neg hn], xs_F_set hM.1 (by simp only [xx_sz1, List.length_set]) (by omega) (by omega)⟩
theorem xl_m3 (z : Value) (d c o w : Nat) (hp : xx_H) (hc : 11 ≤ c) (ho : o < 2 ^ 31) (hM : xl_M hp c o w) : xx_cl (xt_P z) (d + 8) 69 [.ref c] hp (fun v h1 => v = some (.int 1) ∧ xs_F hp h1 c 52) := by
  exact xn_run z (d + 5) c o w hp hc ho hM.1
theorem xl_m4 (z : Value) (d c o w : Nat) (n : Int32) (hp : xx_H) (hc : 11 ≤ c) (ho : o < 2 ^ 31) (hM : xl_M hp c o w) : xx_cl (xt_P z) (d + 8) 74 [.ref c, .int n] hp (fun v h1 => v = some (.int (xf_fault n)) ∧ xs_F hp h1 c 52) := by
  refine cl_w (fun v h1 hq => ?_) (xn_fault z (d + 7) c n _ _ hM.1 rfl rfl rfl)
  obtain ⟨rfl, rfl⟩ := hq
  exact ⟨rfl, xs_F_rf⟩
theorem xl_m5 (z : Value) (d c o w : Nat) (hp : xx_H) (hc : 11 ≤ c) (ho : o < 2 ^ 31) (hM : xl_M hp c o w) : xx_cl (xt_P z) (d + 8) 75 [.ref c] hp (fun v h1 => v = some (.int 0) ∧ xs_F hp h1 c 52) := by
  refine cl_w (fun v h1 hq => ?_) (xn_steps z (d + 7) c 0 _ _ hM.1 rfl)
  obtain ⟨rfl, rfl⟩ := hq
  exact ⟨rfl, xs_F_rf⟩
theorem xl_m6 (z : Value) (d c o w : Nat) (n : Int32) (hp : xx_H) (hc : 11 ≤ c) (ho : o < 2 ^ 31) (hM : xl_M hp c o w) : xx_cl (xt_P z) (d + 8) 76 [.ref c, .int n] hp (fun v h1 => v = some (.int (xf_count n)) ∧ xs_F hp h1 c 52) := by
  refine cl_w (fun v h1 hq => ?_) (xn_count z (d + 7) c n _ _ hM.1 rfl rfl rfl)
  obtain ⟨rfl, rfl⟩ := hq
  exact ⟨rfl, xs_F_rf⟩
theorem xl_m7 (z : Value) (d c o w : Nat) (hp : xx_H) (hc : 11 ≤ c) (ho : o < 2 ^ 31) (hM : xl_M hp c o w) : xx_cl (xt_P z) (d + 8) 77 [.ref c] hp (fun v h1 => v = some (.int 0) ∧ xs_F hp h1 c 52) := by
  refine cl_w (fun v h1 hq => ?_) (xn_size z (d + 7) c 0 _ _ hM.1 rfl)
  obtain ⟨rfl, rfl⟩ := hq
  exact ⟨rfl, xs_F_rf⟩
theorem xl_m8 (z : Value) (d c o w : Nat) (n : Int32) (hp : xx_H) (hc : 11 ≤ c) (ho : o < 2 ^ 31) (hM : xl_M hp c o w) : xx_cl (xt_P z) (d + 8) 78 [.ref c, .int n] hp (fun v h1 => v = some (.int (-1)) ∧ xs_F hp h1 c 52) := by
  refine cl_w (fun v h1 hq => ?_) (xn_letter0 z (d + 7) c n _ _ hM.1 rfl)
  obtain ⟨rfl, rfl⟩ := hq
  exact ⟨rfl, xs_F_rf⟩
theorem xl_m9 (z : Value) (d c o w : Nat) (n : Int32) (hp : xx_H) (hc : 11 ≤ c) (ho : o < 2 ^ 31) (hM : xl_M hp c o w) : xx_cl (xt_P z) (d + 8) 79 [.ref c, .int n] hp (fun v h1 => v = some (.int (-1)) ∧ xs_F hp h1 c 52) := by
  refine cl_w (fun v h1 hq => ?_) (xn_tell0 z (d + 7) c n _ _ hM.1 rfl)
  obtain ⟨rfl, rfl⟩ := hq
  exact ⟨rfl, xs_F_rf⟩
