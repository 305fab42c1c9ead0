set_option maxHeartbeats 1000000 in
theorem xx_start {p : Program} {e : Env} {s : State} {m : MethodId} {below : List Frame} {meth : Method} {c : Code} (l : Launch) {b L : Nat} {xs : Nat → Int32} (C0 : lw_At p s m meth c b L xs) {z : Value} {ad : Nat → Nat} {D : va_G} {h0 : xx_H} {d : Nat} (hd : d ≤ 1000) (had : xx_ad 12 s.heap.size ad) (hb0 : ad 0 = b)
    (hrep : xx_rep D xt_cl xt_ol ad 12 s.heap.size s h0 s.heap) (hK : xx_K D xt_cl xt_nst xt_strs (xt_stv z) ad s.heap.size s s.heap)
    (hgo : xx_go (xt_P z) d 0 0 [some (.ref 0), none, none, none] [] h0 (fun v h1 => v = some (.int 1) ∧ h1.length - h0.length ≤ 600000 ∧ xx_sz h1 - xx_sz h0 ≤ 7302250)) :
    W p l e room_1 s m #[Value.ref b] below meth c s.heap [] 0 0 (lw_Z below #[Value.ref b] s) (entryFrame m ([Value.ref b] : List Value).toArray 4) := by
  obtain ⟨hx, hb, hr, hml, hown, hts, hX, hbl, hlocks, hgv⟩ := C0
  obtain ⟨F, v, h1, hrun, rfl, hc1, hs1⟩ := hgo
  have hl := lv_entry ([.ref b]) (n := 4) (Nat.le_of_ble_eq_true rfl)
  rw [lg_entry_eq]
  generalize (lg_sl ([.ref b]) ++ List.replicate (4 - (lg_sl ([.ref b])).length) Slot.unset).toArray = Ls at hl ⊢
  have hS0 : xx_S D xt_cl xt_ol ad (xp_n0 (xt_P z)) s.heap.size s h0 s.heap [] := ⟨hrep, fun _ _ => rfl, fun x hx => (by cases hx), Nat.le_refl _⟩
  have hhas : xx_has ad [some (.ref 0), none, none, none] Ls := by
    refine ⟨hl.1, hl.2.1, fun i w hw => ?_⟩
    match i, hw with
    | 0, hw =>
      cases hw
      have := hl.2.2 (0, .ref b) List.mem_cons_self
      rw [show xx_v ad (.ref 0) = .ref b from by rw [← hb0]; rfl]
      exact this
    | 1, hw => cases hw
    | 2, hw => cases hw
    | 3, hw => cases hw
    | i + 4, hw => simp at hw
  have hbs : b < s.heap.size := hbl
  have hret : ∀ (pc : Nat) (i : Instr) (Lr : Array Slot) (H : Heap) (locs : List Loc) (st : List Value), xx_dec (xt_bt 0) pc i → xr_step (xp_ret (xt_P z) 0) i st = some (some (.int 1)) → xx_S D xt_cl xt_ol ad (xp_n0 (xt_P z)) s.heap.size s h1 H locs → W p l e room_1 s m #[Value.ref b] below meth c H locs (h1.length - h0.length) (xx_sz h1 - xx_sz h0) (lw_Z below #[Value.ref b] s) (F0 m pc Lr (st.map (xx_v ad))) := by
    intro pc i Lr H locs st hdg hst hS
    have hi : i = .ireturn ∧ st = [.int 1] := by
      cases i <;> simp only [xr_step] at hst <;> (repeat' split at hst) <;> first
        | (cases hst; done)
        | (obtain ⟨-, hst⟩ := xa_g_some hst; cases hst; exact ⟨rfl, rfl⟩)
        | (obtain ⟨-, hst⟩ := xa_g_some hst; cases hst; done)
    obtain ⟨rfl, rfl⟩ := hi
    refine va_forget (fun q hq => hS.2.2.1 q hq) ?_
    refine W.widen (k := 600000) (n := 7302250) hc1 hs1 ?_
    exact lw_ret hx hb hr hlocks (xx_dec1 hdg rfl)
  exact W.cs (cells' := h0.length - h0.length) (slots' := xx_sz h0 - xx_sz h0) (by omega) (by omega) (xx_run_sound (P := xt_P z) (k := 0) (nm := xt_nm) (bt := xt_bt) (on := xt_on) (Ts := xt_Ts) (nst := xt_nst) (cl := xt_cl) (ol := xt_ol) (strs := xt_strs) (stv := xt_stv z) (ad := ad) (base := s.heap.size) (D := D) (F := F) (d := d) (c0 := h0.length) (s0 := xx_sz h0) (v := some (.int 1)) (h1 := h1) (e := e) (l := l) (below := below) (R := room_1) (Q := lw_Z below #[Value.ref b] s) (args := #[Value.ref b]) (meth := meth) hx hb hml (fun w hw => hts w (List.mem_filter.mp hw).1) hK hown (fun z => by cases z) (xk_OKb z) (xk_OKc z xk_codes) had (by show d + 3 ≤ 2048; omega) (by show (d + 3) * 60 ≤ 84000; omega) (fun q as h v h1 hok hc => xx_sound F (xk_OKb z) (xk_OKc z xk_codes) had d q as h v h1 hok hc) hc1 hs1 hret F 0 [some (.ref 0), none, none, none] [] h0 s.heap [] Ls (hrun F F (Nat.le_refl _) (Nat.le_refl _)) rfl hhas hS0 (Nat.le_refl _) (Nat.le_refl _))

