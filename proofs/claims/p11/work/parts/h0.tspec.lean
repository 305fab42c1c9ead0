noncomputable def ifc {α : Type} (p : Prop) (a b : α) : α := @ite α p (Classical.propDecidable p) a b
theorem ifc_pos {α : Type} {p : Prop} {a b : α} (h : p) : ifc p a b = a := by
  unfold ifc
  exact if_pos h
theorem ifc_neg {α : Type} {p : Prop} {a b : α} (h : ¬ p) : ifc p a b = b := by
  unfold ifc
  exact if_neg h
def sp_t : ob_T := .var 20
def sp_isq : ob_T → Bool
  | .var v => v == 85168940
  | _ => false
def sp_one : ob_T → Bool
  | .add _ (.var v) => v == 31361
  | _ => false
def sp_ba : ob_T → Bool
  | .num _ => true
  | .var v => v == 31361 || v == 20
  | _ => false
def sp_fst : ob_T → ob_T
  | .add a _ => a
  | e => e
def sp_snd : ob_T → ob_T
  | .add _ b => b
  | e => e
def sp_arT (ft : Nat → Int) : ob_T → Int
  | .var v => if ft v < 0 then -1 else ft v / 4 % 8
  | _ => -1
def sp_ts (ft : Nat → Int) : ob_T → Int × Int × Int
  | .num _ => (1, -1, 0)
  | .var v => (1, if v = 31361 then 0 else -1, 0)
  | .add a b => (if sp_isq a = true then (if sp_one b = true then 1 else 0) else if 0 ≤ (sp_ts ft b).2.1 ∧ (sp_ts ft b).2.2 = sp_arT ft a then 1 + (sp_ts ft b).2.1 else 0, if 1 ≤ (sp_ts ft a).1 ∧ 0 ≤ (sp_ts ft b).2.1 then (sp_ts ft a).1 + (sp_ts ft b).2.1 else -1, 1 + (sp_ts ft b).2.2)
  | _ => (0, -1, 0)
def sp_nf : ob_T → ob_T × ob_T
  | .num n => (.num n, .num n)
  | .var v => (.var v, .var v)
  | .add a b => (if sp_isq a = true then (if sp_ba (sp_fst b) = true then sp_fst b else .add a b) else .add a (sp_nf b).2, .add (sp_nf a).1 (sp_nf b).2)
  | e => (e, e)
def sp_sz : ob_T → Int × Int
  | .num _ => (1, 0)
  | .var _ => (1, 0)
  | .add a b => (if sp_isq a = true then 1 else 1 + (sp_sz b).2, (sp_sz a).1 + (sp_sz b).2)
  | _ => (1, 0)
def sp_vt (v : Nat) (k : Int) : Int := if v = 31361 ∨ v = 20 then k * 32 + 1 else k * 32
def sp_rt (N : Int → Int) (U : Int) (ft : Nat → Int) : ob_T → (List Int → Prop) × (List Int → Prop)
  | .num n => (fun L => ∃ k : Int, (0 ≤ k ∧ k < U) ∧ DK N k = .num n ∧ L = [k * 32 + 1], fun _ => False)
  | .var v => (fun L => ∃ k : Int, (0 ≤ k ∧ k < U) ∧ DK N k = .var v ∧ L = [sp_vt v k], fun L => v = 31361 ∧ L = [])
  | .add a b => (fun L => (sp_isq a = true ∧ sp_one b = true ∧ sp_ba (sp_fst b) = false ∧ ∃ k : Int, (0 ≤ k ∧ k < U) ∧ DK N k = sp_fst b ∧ L = [k * 32 + 1]) ∨ (∃ (v : Nat) (L2 : List Int), a = .var v ∧ sp_isq a = false ∧ 0 ≤ ft v ∧ L = ft v :: L2 ∧ (sp_rt N U ft b).2 L2 ∧ (sp_ts ft b).2.2 = ft v / 4 % 8), fun L => ∃ L1 L2 : List Int, L = L1 ++ L2 ∧ (sp_rt N U ft a).1 L1 ∧ (sp_rt N U ft b).2 L2)
  | _ => (fun _ => False, fun _ => False)
def TRT (N : Int → Int) (U : Int) (ft : Nat → Int) (L : List Int) (t : ob_T) : Prop := (sp_rt N U ft t).1 L
def TRL (N : Int → Int) (U : Int) (ft : Nat → Int) (L : List Int) (t : ob_T) : Prop := (sp_rt N U ft t).2 L
section RTS
variable {N N1 : Int → Int} {U U1 : Int} {ft f1 : Nat → Int} {L L2 : List Int}
theorem TRT_num {n : Int} : TRT N U ft L (.num n) ↔ ∃ k : Int, (0 ≤ k ∧ k < U) ∧ DK N k = .num n ∧ L = [k * 32 + 1] := Iff.rfl
theorem TRT_var {v : Nat} : TRT N U ft L (.var v) ↔ ∃ k : Int, (0 ≤ k ∧ k < U) ∧ DK N k = .var v ∧ L = [sp_vt v k] := Iff.rfl
theorem TRT_add {a b : ob_T} : TRT N U ft L (.add a b) ↔ (sp_isq a = true ∧ sp_one b = true ∧ sp_ba (sp_fst b) = false ∧ ∃ k : Int, (0 ≤ k ∧ k < U) ∧ DK N k = sp_fst b ∧ L = [k * 32 + 1]) ∨ (∃ (v : Nat) (L2 : List Int), a = .var v ∧ sp_isq a = false ∧ 0 ≤ ft v ∧ L = ft v :: L2 ∧ TRL N U ft L2 b ∧ (sp_ts ft b).2.2 = ft v / 4 % 8) := Iff.rfl
theorem TRL_add {a b : ob_T} : TRL N U ft L (.add a b) ↔ ∃ L1 L2 : List Int, L = L1 ++ L2 ∧ TRT N U ft L1 a ∧ TRL N U ft L2 b := Iff.rfl
theorem TRL_nil : TRL N U ft L (.var 31361) ↔ L = [] := ⟨fun h => h.2, fun h => ⟨rfl, h⟩⟩
theorem TRL_var {v : Nat} : TRL N U ft L (.var v) ↔ v = 31361 ∧ L = [] := Iff.rfl
theorem TRT_mono (hU : U ≤ U1) (hN : ∀ k : Int, 0 ≤ k → k < U → DK N1 k = DK N k) (hf : ∀ v : Nat, 0 ≤ ft v → f1 v = ft v) : ∀ (t : ob_T), (∀ L : List Int, TRT N U ft L t → TRT N1 U1 f1 L t) ∧ (∀ L : List Int, TRL N U ft L t → TRL N1 U1 f1 L t ∧ (sp_ts f1 t).2.2 = (sp_ts ft t).2.2)
  | .num n => ⟨fun L h => by
      obtain ⟨k, k1, k2, k3⟩ := h
      exact ⟨k, ⟨k1.1, by omega⟩, (hN k k1.1 k1.2).trans k2, k3⟩, fun L h => absurd h id⟩
  | .var v => ⟨fun L h => by
      obtain ⟨k, k1, k2, k3⟩ := h
      exact ⟨k, ⟨k1.1, by omega⟩, (hN k k1.1 k1.2).trans k2, k3⟩, fun L h => ⟨h, rfl⟩⟩
  | .add a b => by
    have ia := TRT_mono hU hN hf a
    have ib := TRT_mono hU hN hf b
    refine ⟨fun L h => ?_, fun L h => ?_⟩
    · rcases h with ⟨h1, h2, h3, k, k1, k2, k3⟩ | ⟨v, L2, h1, h2, h3, h4, h5, h6⟩
      · exact Or.inl ⟨h1, h2, h3, k, ⟨k1.1, by omega⟩, (hN k k1.1 k1.2).trans k2, k3⟩
      · have e := hf v h3
        exact Or.inr ⟨v, L2, h1, h2, by rw [e]; exact h3, by rw [e]; exact h4, (ib.2 L2 h5).1, by rw [e, (ib.2 L2 h5).2]; exact h6⟩
    · obtain ⟨L1, L2, h1, h2, h3⟩ := h
      have q := ib.2 L2 h3
      refine ⟨⟨L1, L2, h1, ia.1 L1 h2, q.1⟩, ?_⟩
      show 1 + (sp_ts f1 b).2.2 = 1 + (sp_ts ft b).2.2
      rw [q.2]
  | .sub a b => ⟨fun L h => absurd h id, fun L h => absurd h id⟩
  | .neg a => ⟨fun L h => absurd h id, fun L h => absurd h id⟩
  | .mulL k a => ⟨fun L h => absurd h id, fun L h => absurd h id⟩
  | .mulR a k => ⟨fun L h => absurd h id, fun L h => absurd h id⟩
theorem TRT_len : ∀ (t : ob_T), (∀ L : List Int, TRT N U ft L t → (L.length : Int) = (sp_sz t).1 ∧ 1 ≤ L.length) ∧ (∀ L : List Int, TRL N U ft L t → (L.length : Int) = (sp_sz t).2)
  | .num n => ⟨fun L h => by
      obtain ⟨k, -, -, k3⟩ := h
      rw [k3]
      exact ⟨rfl, Nat.le_refl _⟩, fun L h => absurd h id⟩
  | .var v => ⟨fun L h => by
      obtain ⟨k, -, -, k3⟩ := h
      rw [k3]
      exact ⟨rfl, Nat.le_refl _⟩, fun L h => by rw [h.2]; rfl⟩
  | .add a b => by
    have ia := TRT_len a
    have ib := TRT_len b
    refine ⟨fun L h => ?_, fun L h => ?_⟩
    · show (L.length : Int) = (if sp_isq a = true then 1 else 1 + (sp_sz b).2) ∧ _
      rcases h with ⟨h1, h2, h3, k, k1, k2, k3⟩ | ⟨v, L2, h1, h2, h3, h4, h5, h6⟩
      · rw [k3, if_pos h1]
        exact ⟨rfl, Nat.le_refl _⟩
      · have q := ib.2 L2 h5
        rw [h4, if_neg (by rw [h2]; decide), List.length_cons]
        omega
    · obtain ⟨L1, L2, h1, h2, h3⟩ := h
      have q := ib.2 L2 h3
      have p := ia.1 L1 h2
      show (L.length : Int) = (sp_sz a).1 + (sp_sz b).2
      rw [h1, List.length_append]
      omega
  | .sub a b => ⟨fun L h => absurd h id, fun L h => absurd h id⟩
  | .neg a => ⟨fun L h => absurd h id, fun L h => absurd h id⟩
  | .mulL k a => ⟨fun L h => absurd h id, fun L h => absurd h id⟩
  | .mulR a k => ⟨fun L h => absurd h id, fun L h => absurd h id⟩
end RTS
