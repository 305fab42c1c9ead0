/-! Cells.addNames: so many symbols at most as the text has blanks -/
def xs_sp (l : List Value) : Nat := l.countP (fun v => decide (v = .int 32))
/-- a text of ours: a String at a, its bytes at v -/
def xs_T (h : xx_H) (a v : Nat) (bs : List Value) : Prop := h[a]? = some (.inr (14, [.ref v, .int 0])) ∧ h[v]? = some (.inl (.byte, bs))
def xs_B (bs : List Value) : Prop := bs.length < 2 ^ 31 ∧ ∀ j, j < bs.length → ∃ x : Nat, x < 128 ∧ bs[j]? = some (.int (nI x))
theorem xs_T_F {h h1 : xx_H} {a v c : Nat} {bs : List Value} (hT : xs_T h a v bs) (hF : xs_F h h1 c 5) (ha : a < c) (hv : v < c) : xs_T h1 a v bs := ⟨(hF.2.2 a (Or.inl ha)).trans hT.1, (hF.2.2 v (Or.inl hv)).trans hT.2⟩
theorem xm_add_loop (z : Value) (hz : z = .null ∨ ∃ k, z = .ref k) (d c a v B : Nat) (bs ls : List Value) (hc : 11 ≤ c) (hav : a < 11 ∧ v < 11) (hB : B ≤ 63) (hbs : xs_B bs) (hls : xs_B ls) (hl0 : 0 < ls.length) : ∀ (r i : Nat) (y : Int64) (u : Nat) (h : xx_H), i + r = bs.length → xs_C h c u → xs_T h a v bs → xs_T h 7 8 ls → u + xs_sp (bs.drop i) ≤ B → xx_go (xt_P z) (d + 5) 5 5 [some (.ref c), some (.ref a), some (.long y), none, some (.int (nI i))] [] h (fun w h1 => w = none ∧ ∃ u1 : Nat, u1 ≤ B ∧ xs_C h1 c u1 ∧ xs_F h h1 c 5) := by
  intro r
  induction r with
  | zero =>
    intro i y u h hi hC hT hL hu
    have hi : i = bs.length := by omega
    subst hi
    refine go_a (pc' := 7) (ls' := [some (.ref c), some (.ref a), some (.long y), none, some (.int (nI bs.length))]) (st' := [(.int (nI bs.length))]) rfl rfl ?_
    refine go_a (pc' := 8) (ls' := [some (.ref c), some (.ref a), some (.long y), none, some (.int (nI bs.length))]) (st' := [(.ref a), (.int (nI bs.length))]) rfl rfl ?_
    refine go_v (m := 6) (as := [.ref a]) (r := [.int (nI bs.length)]) rfl rfl rfl hT.1 rfl rfl (xm_slen z (d + 3) a v h bs hT.1 hT.2 hbs.1) (fun w h5 hq => ?_)
    obtain ⟨rfl, rfl⟩ := hq
    refine go_if (t := 53) (off := 42) (b := decide (nI bs.length ≤ nI bs.length)) (r := []) rfl rfl rfl (fun _ => ?_) (fun hf => absurd (nI_le (Nat.le_refl _) hbs.1) (of_decide_eq_false hf))
    exact go_r rfl rfl rfl rfl rfl rfl ⟨rfl, u, by omega, hC, xs_F_rf⟩
  | succ r ih =>
    intro i y u h hi hC hT hL hu
    have hb1 := hbs.1
    obtain ⟨x, hx, hbx⟩ := hbs.2 i (by omega)
    have hdrop : bs.drop i = .int (nI x) :: bs.drop (i + 1) := by
      rw [List.drop_eq_getElem_cons (show i < bs.length by omega)]
      congr 1
      exact (List.getElem?_eq_some_iff.mp hbx).2
    refine go_a (pc' := 7) (ls' := [some (.ref c), some (.ref a), some (.long y), none, some (.int (nI i))]) (st' := [(.int (nI i))]) rfl rfl ?_
    refine go_a (pc' := 8) (ls' := [some (.ref c), some (.ref a), some (.long y), none, some (.int (nI i))]) (st' := [(.ref a), (.int (nI i))]) rfl rfl ?_
    refine go_v (m := 6) (as := [.ref a]) (r := [.int (nI i)]) rfl rfl rfl hT.1 rfl rfl (xm_slen z (d + 3) a v h bs hT.1 hT.2 hbs.1) (fun w h5 hq => ?_)
    obtain ⟨rfl, rfl⟩ := hq
    refine go_if (t := 53) (off := 42) (b := decide (nI bs.length ≤ nI i)) (r := []) rfl rfl rfl (fun hf => absurd (of_decide_eq_true hf) (nI_ge (by omega) hb1)) (fun _ => ?_)
    refine go_a (pc' := 15) (ls' := [some (.ref c), some (.ref a), some (.long y), none, some (.int (nI i))]) (st' := [(.ref a)]) rfl rfl ?_
    refine go_a (pc' := 17) (ls' := [some (.ref c), some (.ref a), some (.long y), none, some (.int (nI i))]) (st' := [(.int (nI i)), (.ref a)]) rfl rfl ?_
    refine go_v (m := 8) (as := [.ref a, .int (nI i)]) (r := []) rfl rfl rfl hT.1 rfl rfl (xm_charAt z hz (d + 1) a v i x h5 bs hT.1 hT.2 hb1 hbx hx) (fun w h6 hq => ?_)
    obtain ⟨rfl, rfl⟩ := hq
    refine go_a (pc' := 22) (ls' := [some (.ref c), some (.ref a), some (.long y), none, some (.int (nI i))]) (st' := [(.int 32), (.int (nI x))]) rfl rfl ?_
    refine go_if (t := 36) (off := 14) (b := decide (¬ nI x = 32)) (r := []) rfl rfl rfl (fun hne => ?_) (fun heq => ?_)
    · refine go_a (pc' := 37) (ls' := [some (.ref c), some (.ref a), some (.long y), none, some (.int (nI i))]) (st' := [(.long y)]) rfl rfl ?_
      refine go_a (pc' := 38) (ls' := [some (.ref c), some (.ref a), some (.long y), none, some (.int (nI i))]) (st' := [(.ref a), (.long y)]) rfl rfl ?_
      refine go_a (pc' := 40) (ls' := [some (.ref c), some (.ref a), some (.long y), none, some (.int (nI i))]) (st' := [(.int (nI i)), (.ref a), (.long y)]) rfl rfl ?_
      refine go_v (m := 8) (as := [.ref a, .int (nI i)]) (r := [.long y]) rfl rfl rfl hT.1 rfl rfl (xm_charAt z hz (d + 1) a v i x h6 bs hT.1 hT.2 hb1 hbx hx) (fun w h7 hq => ?_)
      obtain ⟨rfl, rfl⟩ := hq
      refine go_s (m := 16) (as := [.long y, .int (nI x)]) (r := []) rfl rfl rfl rfl (xm_longer z d x y h7 ls hL.1 hL.2 hl0 hls.1 (fun j hj => by
        obtain ⟨q, -, e⟩ := hls.2 j hj
        exact ⟨_, e⟩) hx) (fun w h8 hq => ?_)
      obtain ⟨y2, rfl, rfl⟩ := hq
      refine go_a (pc' := 47) (ls' := [some (.ref c), some (.ref a), some (.long y2), none, some (.int (nI i))]) (st' := []) rfl rfl ?_
      refine go_a (pc' := 50) (ls' := [some (.ref c), some (.ref a), some (.long y2), none, some (.int (nI (i + 1)))]) (st' := []) rfl (by rw [← nI_1 i]; rfl) ?_
      refine go_a (pc' := 5) rfl rfl (ih (i + 1) y2 u h8 (by omega) hC hT hL ?_)
      rw [hdrop] at hu
      have : xs_sp (bs.drop (i + 1)) ≤ xs_sp (.int (nI x) :: bs.drop (i + 1)) := by
        unfold xs_sp
        rw [List.countP_cons]
        omega
      omega
    · have hx32 : nI x = 32 := by simpa using of_decide_eq_false heq
      have hsp : xs_sp (bs.drop i) = xs_sp (bs.drop (i + 1)) + 1 := by
        rw [hdrop]
        unfold xs_sp
        rw [List.countP_cons_of_pos (by simp [hx32])]
      obtain ⟨K, G, N, S, h0, -⟩ := id hC
      refine go_a (pc' := 26) (ls' := [some (.ref c), some (.ref a), some (.long y), none, some (.int (nI i))]) (st' := [(.ref c)]) rfl rfl ?_
      refine go_a (pc' := 27) (ls' := [some (.ref c), some (.ref a), some (.long y), none, some (.int (nI i))]) (st' := [(.long y), (.ref c)]) rfl rfl ?_
      refine go_v (m := 13) (as := [.ref c, .long y]) (r := []) rfl rfl rfl h0 rfl rfl (xm_symbol z (d + 2) c u y h6 hc (by omega) hC) (fun w h7 hq => ?_)
      obtain ⟨x2, u1, rfl, e1, e2, e3, e4⟩ := hq
      refine go_a (pc' := 31) (ls' := [some (.ref c), some (.ref a), some (.long y), none, some (.int (nI i))]) (st' := []) rfl rfl ?_
      refine go_a (pc' := 32) (ls' := [some (.ref c), some (.ref a), some (.long y), none, some (.int (nI i))]) (st' := [(.long 0)]) rfl rfl ?_
      refine go_a (pc' := 33) (ls' := [some (.ref c), some (.ref a), some (.long 0), none, some (.int (nI i))]) (st' := []) rfl rfl ?_
      refine go_a (pc' := 47) (ls' := [some (.ref c), some (.ref a), some (.long 0), none, some (.int (nI i))]) (st' := []) rfl rfl ?_
      refine go_a (pc' := 50) (ls' := [some (.ref c), some (.ref a), some (.long 0), none, some (.int (nI (i + 1)))]) (st' := []) rfl (by rw [← nI_1 i]; rfl) ?_
      refine go_a (pc' := 5) rfl rfl (go_w (fun w h8 hq => ?_) (ih (i + 1) 0 u1 h7 (by omega) e3 (xs_T_F hT e4 (by omega) (by omega)) (xs_T_F hL e4 (by omega) (by omega)) (by omega)))
      obtain ⟨g1, u2, g2, g3, g4⟩ := hq
      exact ⟨g1, u2, g2, g3, xs_F_tr e4 g4⟩
theorem xm_addNames (z : Value) (hz : z = .null ∨ ∃ k, z = .ref k) (d c a v u B : Nat) (bs ls : List Value) (h : xx_H) (hc : 11 ≤ c) (hav : a < 11 ∧ v < 11) (hB : B ≤ 63) (hbs : xs_B bs) (hls : xs_B ls) (hl0 : 0 < ls.length) (hC : xs_C h c u) (hT : xs_T h a v bs) (hL : xs_T h 7 8 ls) (hu : u + xs_sp bs ≤ B) : xx_cl (xt_P z) (d + 6) 5 [.ref c, .ref a] h (fun w h1 => w = none ∧ ∃ u1 : Nat, u1 ≤ B ∧ xs_C h1 c u1 ∧ xs_F h h1 c 5) := by
  refine cl_go rfl ?_
  show xx_go (xt_P z) (d + 5) 5 0 [some (.ref c), some (.ref a), none, none, none] [] h _
  refine go_a (pc' := 1) (ls' := [some (.ref c), some (.ref a), none, none, none]) (st' := [(.long 0)]) rfl rfl ?_
  refine go_a (pc' := 2) (ls' := [some (.ref c), some (.ref a), some (.long 0), none, none]) (st' := []) rfl rfl ?_
  refine go_a (pc' := 3) (ls' := [some (.ref c), some (.ref a), some (.long 0), none, none]) (st' := [(.int 0)]) rfl rfl ?_
  refine go_a (pc' := 5) (ls' := [some (.ref c), some (.ref a), some (.long 0), none, some (.int 0)]) (st' := []) rfl rfl ?_
  exact xm_add_loop z hz d c a v B bs ls hc hav hB hbs hls hl0 bs.length 0 0 u h (by omega) hC hT hL (by rw [List.drop_zero]; exact hu)
