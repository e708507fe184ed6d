/-- the reference's number for where the reader stands -/
def q_so (x : PS) : Nat := match x.1 with
  | 0 => 0
  | 1 => 1
  | 2 => 2
  | 3 => (match x.2.2.2.1 with
    | none => 3
    | some w => if 1 ≤ w ∧ w ≤ 3 then 4 else 5)
  | _ => if x.2.2.2.2 = 0 then 6 else if x.2.1 ≠ 0 ∧ x.2.2.2.2 < 6 then 7 else 8
/-- what holds of a reader that reads a list -/
def PSr (x : PS) : Prop := PSok x ∧ (x.1 ≤ 2 → x.2.2.2.1 = none) ∧ (x.1 ≤ 3 → x.2.2.2.2 = 0) ∧ (x.1 = 4 → ∃ w, x.2.2.2.1 = some w) ∧ (x.1 = 0 → x = (0, 0, 0, none, 0)) ∧ (x.2.1 = 0 → x.2.2.2.2 ≤ 3)
/-- the last of the reference's m entries holds what the reader holds -/
def PRr (x : PS) (A : RW) (m : Nat) : Prop := (1 ≤ x.1 → 1 ≤ m ∧ A 5 (m - 1) = nI x.2.1) ∧ (2 ≤ x.1 → A 6 (m - 1) = nI x.2.2.1) ∧ (∀ w, x.2.2.2.1 = some w → A 7 (m - 1) = nI w) ∧ (0 < x.2.2.2.2 → A 8 (m - 1) = nI x.2.2.2.2)
def q_nr (x : PS) (c : Nat) : Int32 := match q_take x c with
  | none => -1
  | some x' => nI (q_so x')
theorem bI_congr {P P' : Prop} [Decidable P] [Decidable P'] (h : P ↔ P') : bI P = bI P' := by
  unfold bI
  by_cases hp : P
  · rw [if_pos hp, if_pos (h.mp hp)]
  · rw [if_neg hp, if_neg (fun z => hp (h.mpr z))]
theorem q_dg_iff {c : Nat} (h1 : 33 ≤ c) (h2 : c ≤ 126) : (nI 0 ≤ nI c - nI 48 ∧ nI c - nI 48 ≤ nI 9) ↔ q_dg c := by
  have e : (nI c - nI 48).toInt = (c : Int) - 48 := pk_sub_toInt (by omega) (by decide)
  rw [Int32.le_iff_toInt_le, Int32.le_iff_toInt_le, e, nI_toInt (by decide), nI_toInt (by decide)]
  show ((0 : Nat) : Int) ≤ _ ∧ _ ≤ ((9 : Nat) : Int) ↔ 48 ≤ c ∧ c ≤ 57
  omega
theorem PSr_0 : PSr (0, 0, 0, none, 0) := ⟨⟨by decide, by decide, by decide, fun b h => (by cases h), by decide⟩, fun _ => rfl, fun _ => rfl, fun h => absurd h (by decide), fun _ => rfl, fun _ => by decide⟩
