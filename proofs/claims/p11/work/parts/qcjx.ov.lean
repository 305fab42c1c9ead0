def ivx (x : Int) : Int → Int := fun k => if k = x then 1 else 0
theorem ivx_nn (x k : Int) : 0 ≤ ivx x k := by
  unfold ivx
  split <;> decide
section OVS
variable {I : Nat → Int} {A : Nat → Int → Int} {N : Int → Int} {ps : List Nat}
theorem ov_iff (hS : MST I A N) (hN : NM I A) (hT : TRX I A N) : ∀ (n : Nat) (k : Int), k.toNat < n → 0 ≤ k → k < I 7 → ((sp_ov ps (DM A N k)).1 ↔ ∀ x : Int, 0 ≤ x → x < I 7 → A 1 x = -2 → 1 < x → 0 < NT A (ivx x) k → sp_hc (DM A N x) ∈ ps) ∧ ((sp_ov ps (DM A N k)).2 ↔ ∀ x : Int, 0 ≤ x → x < I 7 → A 1 x = -2 → 1 < x → 0 < NL A (ivx x) k → sp_hc (DM A N x) ∈ ps)
  | n + 1, k, hn, k0, k1 => by
    have hP := MST_PW hS
    have n7 := hN.1
    have n0 : A 1 0 < 0 := by rw [hN.2 0 (by decide) (by decide)]; decide
    by_cases e : A 1 k < 0
    · have nl : ∀ x : Int, NL A (ivx x) k = 0 := fun x => NL_at e
      have ntk : ∀ x : Int, NT A (ivx x) k = ivx x k := fun x => NT_leaf hP k0 k1 (Or.inl e)
      rcases DM_at hS k0 k1 e with ⟨a1, m, q⟩ | ⟨a2, v, q⟩
      · rw [q]
        refine ⟨⟨fun _ x x0 x1 ax xx h => ?_, fun _ => trivial⟩, ⟨fun _ x x0 x1 ax xx h => ?_, fun _ => trivial⟩⟩
        · rw [ntk] at h
          by_cases c : k = x
          · rw [← c] at ax
            omega
          · rw [show ivx x k = 0 from if_neg c] at h
            exact absurd h (by decide)
        · rw [nl] at h
          exact absurd h (by decide)
      · rw [q]
        refine ⟨⟨fun hv x x0 x1 ax xx h => ?_, fun H => ?_⟩, ⟨fun _ x x0 x1 ax xx h => ?_, fun _ => trivial⟩⟩
        · have hv : v = 31361 ∨ v = 20 ∨ v ∈ ps := hv
          rw [ntk] at h
          by_cases c : k = x
          · rw [← c, q]
            rcases hv with hv | hv | hv
            · rw [hv] at q
              have := DM_inj ⟨hS, hT.1⟩ k0 k1 (by decide : (0 : Int) ≤ 0) (by omega) (q.trans (DM_0 hT).symm)
              omega
            · rw [hv] at q
              have := DM_inj ⟨hS, hT.1⟩ k0 k1 (by decide : (0 : Int) ≤ 1) (by omega) (q.trans (DM_1 hT).symm)
              omega
            · exact hv
          · rw [show ivx x k = 0 from if_neg c] at h
            exact absurd h (by decide)
        · show v = 31361 ∨ v = 20 ∨ v ∈ ps
          by_cases c0 : k = 0
          · rw [c0, DM_0 hT] at q
            injection q with q
            exact Or.inl q.symm
          · by_cases c1 : k = 1
            · rw [c1, DM_1 hT] at q
              injection q with q
              exact Or.inr (Or.inl q.symm)
            · have r := H k k0 k1 a2 (by omega) (by rw [ntk, show ivx k k = 1 from if_pos rfl]; decide)
              rw [q] at r
              exact Or.inr (Or.inr r)
        · rw [nl] at h
          exact absurd h (by decide)
    · have kp : 0 < k := by
        by_cases z : k = 0
        · rw [z] at e
          omega
        · omega
      have q0 := hP.2 k k0 k1
      have q := q0.2.2.2.2 (by omega)
      have ra := ov_iff hS hN hT n (A 1 k) (by omega) (by omega) (by omega)
      have rb := ov_iff hS hN hT n (A 2 k) (by omega) (by omega) (by omega)
      have ik : ∀ x : Int, A 1 x = -2 → ivx x k = 0 := fun x ax => if_neg (fun c => by rw [← c] at ax; omega)
      have nn : ∀ x : Int, 0 ≤ NT A (ivx x) (A 1 k) ∧ 0 ≤ NL A (ivx x) (A 2 k) := fun x => ⟨(NT_nn hP (fun j _ _ => ivx_nn x j) _ _ (Nat.lt_succ_self _) (by omega) (by omega)).1, (NT_nn hP (fun j _ _ => ivx_nn x j) _ _ (Nat.lt_succ_self _) (by omega) (by omega)).2⟩
      rw [DM_pr hS hT k0 k1 (by omega)]
      refine ⟨?_, ?_⟩
      · show (sp_isq (DM A N (A 1 k)) = true ∨ (sp_ov ps (DM A N (A 2 k))).2) ↔ _
        by_cases e2 : A 1 k = 2
        · refine ⟨fun _ x x0 x1 ax xx h => ?_, fun _ => Or.inl ((isq_2 hS hN hT (by omega) (by omega)).mpr e2)⟩
          rw [NT_leaf hP k0 k1 (Or.inr e2), ik x ax] at h
          exact absurd h (by decide)
        · rw [isq_f hS hN hT (by omega) (by omega) e2, rb.2]
          refine ⟨fun H x x0 x1 ax xx h => ?_, fun H => Or.inr (fun x x0 x1 ax xx h => ?_)⟩
          · rw [NT_call hP k0 k1 (by omega) e2, ik x ax] at h
            rcases H with H | H
            · cases H
            · exact H x x0 x1 ax xx (by omega)
          · refine H x x0 x1 ax xx ?_
            rw [NT_call hP k0 k1 (by omega) e2, ik x ax]
            omega
      · show ((sp_ov ps (DM A N (A 1 k))).1 ∧ (sp_ov ps (DM A N (A 2 k))).2) ↔ _
        rw [ra.1, rb.2]
        refine ⟨fun H x x0 x1 ax xx h => ?_, fun H => ⟨fun x x0 x1 ax xx h => ?_, fun x x0 x1 ax xx h => ?_⟩⟩
        · rw [NL_pair hP kp k1 (by omega)] at h
          have := nn x
          by_cases c : 0 < NT A (ivx x) (A 1 k)
          · exact H.1 x x0 x1 ax xx c
          · exact H.2 x x0 x1 ax xx (by omega)
        · refine H x x0 x1 ax xx ?_
          rw [NL_pair hP kp k1 (by omega)]
          have := nn x
          omega
        · refine H x x0 x1 ax xx ?_
          rw [NL_pair hP kp k1 (by omega)]
          have := nn x
          omega
end OVS
