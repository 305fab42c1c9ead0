def KS0 (c : Nat) (N G X S : Int → Int) : KS := (fun j => match j with
    | 8 => 38
    | 13 => (-1)
    | 14 => (-1)
    | 15 => (-1)
    | 20 => 1000
    | 24 => 38
    | _ => 0, fun j => match j with
    | 9 => G
    | 10 => X
    | 11 => S
    | _ => fun _ => 0, N, fun j => match j with
    | 0 => 256
    | 1 => 41
    | 2 => 41
    | 3 => 64
    | 4 => 256
    | 5 => 64
    | 6 => 241
    | 7 => 120
    | 8 => 64
    | 9 => 64
    | 10 => 64
    | _ => 0, fun j => match j with
    | 0 => c + 2
    | 1 => c + 11
    | 2 => c + 13
    | 3 => c + 15
    | 4 => c + 18
    | 5 => c + 20
    | 6 => c + 27
    | 7 => c + 29
    | 8 => c + 5
    | 9 => c + 6
    | 10 => c + 7
    | _ => 10, fun _ _ => none)
def kof : List Nat := [0, 1, 3, 4, 8, 9, 10, 12, 14, 16, 17, 19, 21, 22, 23, 24, 25, 26, 28, 30, 31, 2, 11, 13, 15, 18, 20, 27, 29, 5, 6, 7]
section KS0S
variable {c : Nat} {N G X S : Int → Int}
theorem kp0 : ∀ i : Nat, i < 32 → kp c (KS0 c N G X S).P i = c + kof.getD i 0
  | 0, _ => rfl
  | 1, _ => rfl
  | 2, _ => rfl
  | 3, _ => rfl
  | 4, _ => rfl
  | 5, _ => rfl
  | 6, _ => rfl
  | 7, _ => rfl
  | 8, _ => rfl
  | 9, _ => rfl
  | 10, _ => rfl
  | 11, _ => rfl
  | 12, _ => rfl
  | 13, _ => rfl
  | 14, _ => rfl
  | 15, _ => rfl
  | 16, _ => rfl
  | 17, _ => rfl
  | 18, _ => rfl
  | 19, _ => rfl
  | 20, _ => rfl
  | 21, _ => rfl
  | 22, _ => rfl
  | 23, _ => rfl
  | 24, _ => rfl
  | 25, _ => rfl
  | 26, _ => rfl
  | 27, _ => rfl
  | 28, _ => rfl
  | 29, _ => rfl
  | 30, _ => rfl
  | 31, _ => rfl
  | i + 32, h => absurd h (by omega)
theorem kp0' : ∀ i : Nat, 32 ≤ i → i < 35 → kp c (KS0 c N G X S).P i = 10
  | 32, _, _ => rfl
  | 33, _, _ => rfl
  | 34, _, _ => rfl
  | i + 35, _, h => absurd h (by omega)
  | 0, h, _ => absurd h (by decide)
  | 1, h, _ => absurd h (by decide)
  | 2, h, _ => absurd h (by decide)
  | 3, h, _ => absurd h (by decide)
  | 4, h, _ => absurd h (by decide)
  | 5, h, _ => absurd h (by decide)
  | 6, h, _ => absurd h (by decide)
  | 7, h, _ => absurd h (by decide)
  | 8, h, _ => absurd h (by decide)
  | 9, h, _ => absurd h (by decide)
  | 10, h, _ => absurd h (by decide)
  | 11, h, _ => absurd h (by decide)
  | 12, h, _ => absurd h (by decide)
  | 13, h, _ => absurd h (by decide)
  | 14, h, _ => absurd h (by decide)
  | 15, h, _ => absurd h (by decide)
  | 16, h, _ => absurd h (by decide)
  | 17, h, _ => absurd h (by decide)
  | 18, h, _ => absurd h (by decide)
  | 19, h, _ => absurd h (by decide)
  | 20, h, _ => absurd h (by decide)
  | 21, h, _ => absurd h (by decide)
  | 22, h, _ => absurd h (by decide)
  | 23, h, _ => absurd h (by decide)
  | 24, h, _ => absurd h (by decide)
  | 25, h, _ => absurd h (by decide)
  | 26, h, _ => absurd h (by decide)
  | 27, h, _ => absurd h (by decide)
  | 28, h, _ => absurd h (by decide)
  | 29, h, _ => absurd h (by decide)
  | 30, h, _ => absurd h (by decide)
  | 31, h, _ => absurd h (by decide)
theorem kof_R : ∀ i : Nat, i < 32 → kof.getD i 0 < 32 := by decide
theorem kof_ne : ∀ i : Nat, i < 32 → ∀ j : Nat, j < 32 → i ≠ j → kof.getD i 0 ≠ kof.getD j 0 := by decide +kernel
end KS0S
def KRG (N G X S : Int → Int) : Prop := (∀ e : Int, -9223372036854775808 ≤ N e ∧ N e ≤ 9223372036854775807) ∧ (∀ e : Int, -2147483648 ≤ G e ∧ G e ≤ 2147483647) ∧ (∀ e : Int, -2147483648 ≤ X e ∧ X e ≤ 2147483647) ∧ ∀ e : Int, -2147483648 ≤ S e ∧ S e ≤ 2147483647
theorem KB0 (c : Nat) {N G X S : Int → Int} (h : KRG N G X S) : KB (KS0 c N G X S) := by
  refine ⟨fun j e => ?_, fun j => ?_, h.1, fun j hj => ?_, by show (241 : Int) ≤ 241; decide, by show (64 : Int) ≤ 64 ∧ (64 : Int) ≤ 65536 ∧ (64 : Int) = 64 ∧ (64 : Int) = 64 ∧ (38 : Int) ≤ 38 ∧ (38 : Int) ≤ 64; decide, by show (0 : Int) ≤ 0 ∧ (0 : Int) ≤ 0 ∧ (0 : Int) ≤ 1000; decide, by show (0 : Int) ≤ 0 ∧ (0 : Int) ≤ 0 ∧ (0 : Int) ≤ 1000; decide, by show (0 : Int) ≤ 0 ∧ (0 : Int) ≤ 0 ∧ (0 : Int) ≤ 1000; decide⟩
  · show -2147483648 ≤ (match j with | 9 => G | 10 => X | 11 => S | _ => fun _ => 0 : Int → Int) e ∧ (match j with | 9 => G | 10 => X | 11 => S | _ => fun _ => 0 : Int → Int) e ≤ 2147483647
    split
    · exact h.2.1 e
    · exact h.2.2.1 e
    · exact h.2.2.2 e
    · show (-2147483648 : Int) ≤ 0 ∧ (0 : Int) ≤ 2147483647
      decide
  · show -2147483648 ≤ (match j with | 8 => 38 | 13 => (-1) | 14 => (-1) | 15 => (-1) | 20 => 1000 | 24 => 38 | _ => 0 : Int) ∧ (match j with | 8 => 38 | 13 => (-1) | 14 => (-1) | 15 => (-1) | 20 => 1000 | 24 => 38 | _ => 0 : Int) ≤ 2147483647
    split <;> decide
  · have hj : j = 0 ∨ j = 1 ∨ j = 2 ∨ j = 3 ∨ j = 4 ∨ j = 5 ∨ j = 6 ∨ j = 7 := by omega
    rcases hj with rfl | rfl | rfl | rfl | rfl | rfl | rfl | rfl
    · show (20 : Int) ≤ 256 ∧ (256 : Int) ≤ 8192 ∧ (0 : Int) ≤ 0 ∧ (0 : Int) ≤ 256
      decide
    · show (20 : Int) ≤ 41 ∧ (41 : Int) ≤ 8192 ∧ (0 : Int) ≤ 0 ∧ (0 : Int) ≤ 41
      decide
    · show (20 : Int) ≤ 41 ∧ (41 : Int) ≤ 8192 ∧ (0 : Int) ≤ 0 ∧ (0 : Int) ≤ 41
      decide
    · show (20 : Int) ≤ 64 ∧ (64 : Int) ≤ 8192 ∧ (0 : Int) ≤ 0 ∧ (0 : Int) ≤ 64
      decide
    · show (20 : Int) ≤ 256 ∧ (256 : Int) ≤ 8192 ∧ (0 : Int) ≤ 0 ∧ (0 : Int) ≤ 256
      decide
    · show (20 : Int) ≤ 64 ∧ (64 : Int) ≤ 8192 ∧ (0 : Int) ≤ 0 ∧ (0 : Int) ≤ 64
      decide
    · show (20 : Int) ≤ 241 ∧ (241 : Int) ≤ 8192 ∧ (0 : Int) ≤ 0 ∧ (0 : Int) ≤ 241
      decide
    · show (20 : Int) ≤ 120 ∧ (120 : Int) ≤ 8192 ∧ (0 : Int) ≤ 0 ∧ (0 : Int) ≤ 120
      decide
theorem CI0 (c : Nat) {N G X S : Int → Int} (hM : CNM NMF3 38 N G) : CI (KS0 c N G X S) := by
  have n : ∀ k : Int, 0 ≤ k → k < 38 → 4611686018427387904 ≤ N k ∧ G k = 0 := by
    intro k k0 k1
    obtain ⟨e, rfl⟩ : ∃ e : Nat, k = (e : Int) := ⟨k.toNat, by omega⟩
    have h := hM e (by omega)
    have h3 := CDS_3.2.1 e (by rw [NMF_l.2.2.1]; omega)
    exact ⟨by omega, h.2⟩
  refine ⟨⟨by show (38 : Int) ≤ 140000; decide, fun k k0 k1 => ?_⟩, fun k k0 k1 => ?_, fun k k0 k1 => (n k k0 k1).1⟩
  · have k1 : k < 38 := k1
    have h := (n k k0 k1).1
    have e1 : SD (KS0 c N G X S) 1 k = -2 := by
      show (if N k < 0 then sd1 (N k) else if 4611686018427387904 ≤ N k then -2 else -1) = -2
      rw [if_neg (by omega), if_pos h]
    have e2 : SD (KS0 c N G X S) 2 k = 0 := by
      show (if N k < 0 then sd2 (N k) else 0) = 0
      rw [if_neg (by omega)]
    rw [e1, e2]
    exact ⟨by decide, by omega, by decide, by decide, fun q => absurd q (by decide)⟩
  · have k1 : k < 38 := k1
    show 0 ≤ G k ∧ G k ≤ k
    rw [(n k k0 k1).2]
    omega
theorem KI0 (h R : xx_H) {N G X S : Int → Int} (hc : 12 ≤ h.length) (hO : OC h) : KI h.length (h ++ (xm_kl h 38 (xa_l 64 N) (xa_f 64 G) (xa_f 64 X) (xa_f 512 S) ++ R)) (KS0 h.length N G X S) := by
  have z0 : ∀ n : Nat, xa_f n (fun _ => 0) = List.replicate n (Value.int 0) := fun n => (rep_f n).symm
  refine ⟨fun i hi => ?_, fun i hi => ?_, fun i j hi hj ne => ?_, fun i h1 h2 => Or.inr (kp0' i h1 h2)⟩
  · by_cases c32 : 32 ≤ i
    · have e10 : (h ++ (xm_kl h 38 (xa_l 64 N) (xa_f 64 G) (xa_f 64 X) (xa_f 512 S) ++ R))[10]? = some (.inl (.object "java/lang/Object", [])) := by
        rw [List.getElem?_append_left (by omega)]
        exact hO.2.2.2
      rw [kp0' i c32 hi, e10]
      have hi : i = 32 ∨ i = 33 ∨ i = 34 := by omega
      rcases hi with rfl | rfl | rfl <;> rfl
    · rw [kp0 i (by omega), xq_get]
      have hi : i = 0 ∨ i = 1 ∨ i = 2 ∨ i = 3 ∨ i = 4 ∨ i = 5 ∨ i = 6 ∨ i = 7 ∨ i = 8 ∨ i = 9 ∨ i = 10 ∨ i = 11 ∨ i = 12 ∨ i = 13 ∨ i = 14 ∨ i = 15 ∨ i = 16 ∨ i = 17 ∨ i = 18 ∨ i = 19 ∨ i = 20 ∨ i = 21 ∨ i = 22 ∨ i = 23 ∨ i = 24 ∨ i = 25 ∨ i = 26 ∨ i = 27 ∨ i = 28 ∨ i = 29 ∨ i = 30 ∨ i = 31 := by omega
      rcases hi with rfl | rfl | rfl | rfl | rfl | rfl | rfl | rfl | rfl | rfl | rfl | rfl | rfl | rfl | rfl | rfl | rfl | rfl | rfl | rfl | rfl | rfl | rfl | rfl | rfl | rfl | rfl | rfl | rfl | rfl | rfl | rfl
      · rfl
      · rfl
      · show some (.inl (.int, List.replicate 5 (.int 0)) : xx_E) = some (.inl (.int, xa_f 5 (fun _ => 0)))
        rw [z0]
      · rfl
      · rfl
      · rfl
      · rfl
      · rfl
      · rfl
      · rfl
      · rfl
      · rfl
      · rfl
      · rfl
      · rfl
      · rfl
      · rfl
      · rfl
      · rfl
      · rfl
      · rfl
      · show some (.inl (.int, List.replicate 256 (.int 0)) : xx_E) = some (.inl (.int, xa_f 256 (fun _ => 0)))
        rw [z0]
      · show some (.inl (.int, List.replicate 41 (.int 0)) : xx_E) = some (.inl (.int, xa_f 41 (fun _ => 0)))
        rw [z0]
      · show some (.inl (.int, List.replicate 41 (.int 0)) : xx_E) = some (.inl (.int, xa_f 41 (fun _ => 0)))
        rw [z0]
      · show some (.inl (.int, List.replicate 64 (.int 0)) : xx_E) = some (.inl (.int, xa_f 64 (fun _ => 0)))
        rw [z0]
      · show some (.inl (.int, List.replicate 256 (.int 0)) : xx_E) = some (.inl (.int, xa_f 256 (fun _ => 0)))
        rw [z0]
      · show some (.inl (.int, List.replicate 64 (.int 0)) : xx_E) = some (.inl (.int, xa_f 64 (fun _ => 0)))
        rw [z0]
      · show some (.inl (.int, List.replicate 241 (.int 0)) : xx_E) = some (.inl (.int, xa_f 241 (fun _ => 0)))
        rw [z0]
      · show some (.inl (.int, List.replicate 120 (.int 0)) : xx_E) = some (.inl (.int, xa_f 120 (fun _ => 0)))
        rw [z0]
      · rfl
      · rfl
      · rfl
  · rw [kp0 i hi]
    omega
  · by_cases a : 32 ≤ i
    · by_cases b : 32 ≤ j
      · exact Or.inr ⟨kp0' i a hi, kp0' j b hj⟩
      · refine Or.inl ?_
        rw [kp0' i a hi, kp0 j (by omega)]
        omega
    · refine Or.inl ?_
      by_cases b : 32 ≤ j
      · rw [kp0 i (by omega), kp0' j b hj]
        omega
      · rw [kp0 i (by omega), kp0 j (by omega)]
        have := kof_ne i (by omega) j (by omega) ne
        omega
theorem kn0 {c p : Nat} {N G X S : Int → Int} (hc : 12 ≤ c) (p0 : c + 32 ≤ p) : kn c (KS0 c N G X S) p := by
  refine Or.inr (fun i hi => ?_)
  by_cases a : 32 ≤ i
  · rw [kp0' i a hi]
    omega
  · rw [kp0 i (by omega)]
    have := kof_R i (by omega)
    omega
theorem nm_c : ∀ i : Nat, i < 38 → NMF3.getD i 0 = ((cNm.getD i 0 : Nat) : Int) := by decide +kernel
theorem KIC0 (h R : xx_H) {N G X S : Int → Int} (hc : 12 ≤ h.length) (hO : OC h) (hM : CNM NMF3 38 N G) (hH : CHN 38 N X S) (hR : KRG N G X S) (lR : 52 ≤ R.length) : ∃ (s0 : Int × Int) (s : KS), KIC h.length (h ++ (xm_kl h 38 (xa_l 64 N) (xa_f 64 G) (xa_f 64 X) (xa_f 512 S) ++ R)) s0 0 (h ++ (xm_kl h 38 (xa_l 64 N) (xa_f 64 G) (xa_f 64 X) (xa_f 512 S) ++ R)) s [] ∧ s.I 0 = 0 ∧ s.I 20 = 1000 ∧ (s.I 22 = 0 ∧ s.I 23 = 0 ∧ W5 s) ∧ s0 = (20 * ((h ++ (xm_kl h 38 (xa_l 64 N) (xa_f 64 G) (xa_f 64 X) (xa_f 512 S) ++ R)).length : Int) - 1275, (xx_sz (h ++ (xm_kl h 38 (xa_l 64 N) (xa_f 64 G) (xa_f 64 X) (xa_f 512 S) ++ R)) : Int) - 3825) := by
  have K := KI0 h R (N := N) (G := G) (X := X) (S := S) hc hO
  have hO1 : OC (h ++ (xm_kl h 38 (xa_l 64 N) (xa_f 64 G) (xa_f 64 X) (xa_f 512 S) ++ R)) := ⟨(List.getElem?_append_left (by omega)).trans hO.1, (List.getElem?_append_left (by omega)).trans hO.2.1, (List.getElem?_append_left (by omega)).trans hO.2.2.1, (List.getElem?_append_left (by omega)).trans hO.2.2.2⟩
  have lH : h.length + 84 ≤ (h ++ (xm_kl h 38 (xa_l 64 N) (xa_f 64 G) (xa_f 64 X) (xa_f 512 S) ++ R)).length := by
    rw [List.length_append, List.length_append]
    have : (xm_kl h 38 (xa_l 64 N) (xa_f 64 G) (xa_f 64 X) (xa_f 512 S)).length = 32 := rfl
    omega
  have nk : ∀ k : Int, 0 ≤ k → k < 38 → 4611686018427387904 ≤ N k ∧ G k = 0 := by
    intro k k0 k1
    obtain ⟨e, rfl⟩ : ∃ e : Nat, k = (e : Int) := ⟨k.toNat, by omega⟩
    have h := hM e (by omega)
    have h3 := CDS_3.2.1 e (by rw [NMF_l.2.2.1]; omega)
    exact ⟨by omega, h.2⟩
  have hQ : KQ (KS0 h.length N G X S) := ⟨hH, fun k k0 k1 => by
    have k1 : k < 38 := k1
    have q := nk k k0 k1
    show G k = ob_h (DK N k)
    rw [DK_s q.1, q.2]
    rfl⟩
  have hNN : KNN (KS0 h.length N G X S) := fun i hi => by
    show N (i : Int) = 4611686018427387904 + ((cNm.getD i 0 : Nat) : Int)
    rw [(hM i hi).1, nm_c i hi]
    omega
  have ek : kt (KS0 h.length N G X S) = 1275 := rfl
  refine ⟨_, KS0 h.length N G X S, ⟨⟨((fun _ => (0, [], [])), (fun _ => (0, [], [])), sp_ft [], [], []), K, KB0 _ hR, CI0 _ hM, hO1, ⟨rfl, rfl, by show (38 : Int) ≤ 38; decide⟩, rfl, ⟨fun _ => by show ¬ 12 ≤ 10; decide, fun _ => by show ¬ 12 ≤ 10; decide, fun _ => by show ¬ 12 ≤ 10; decide, by show (0 : Int) ≤ 0 ∧ (0 : Int) ≤ 0; decide, by show (0 : Int) ≤ 0 ∧ (0 : Int) ≤ 0; decide, by show (0 : Int) ≤ 0 ∧ (0 : Int) ≤ 0; decide⟩, ⟨rfl, rfl⟩, Int.le_refl _, by show (0 : Int) ≤ 40 ∧ (0 : Int) ≤ 60; decide, by show (1 : Int) ≤ 1000 ∧ (1000 : Int) ≤ 1000; decide, hQ, hNN, rfl, rfl, rfl⟩, rfl, ⟨fun e e0 e1 => absurd e1 (by show ¬ e < 0; omega), by show (0 : Int) ≤ 3000; decide⟩, by show (0 : Int) ≤ 2000; decide, 0, 0, 0, Or.inl ⟨rfl, fun _ _ _ => rfl⟩, ⟨lH, ?_, ?_, fun p p0 => ⟨p0.elim Or.inl (fun q => kn0 hc q.1), rfl⟩⟩, by show (0 : Int) + 100 * 0 + 1000 * 0 ≤ 1000 * 0; decide, by show (0 : Int) + 700 * 0 + 7000 * 0 ≤ 7000 * 0; decide, by show (38 : Int) + 3 * 0 + 30 * 0 ≤ 38 + 30 * 0; decide⟩, rfl, rfl, ⟨rfl, rfl, fun _ _ _ => rfl⟩, rfl⟩
  · rw [ek]
    show _ ≤ (_ : Int) - 1275 + 20 * 0
    omega
  · rw [ek]
    show _ ≤ (_ : Int) - 3825 + 0
    omega

