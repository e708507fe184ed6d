/-- the reference's number for where the reader stands -/
def q_so (x : PS) : Nat := match x.1 with
  | 0 => 0
  | 1 => 1
  | 2 => 2
  | 3 => (match x.2.2.2.1 with
    | none => 3
    | some w => if 1 ≤ w ∧ w ≤ 3 then 4 else 5)
  | _ => if x.2.2.2.2 = 0 then 6 else if x.2.1 ≠ 0 ∧ x.2.2.2.2 < 6 then 7 else 8
/-- what holds of a reader that reads a list -/
def PSr (x : PS) : Prop := PSok x ∧ (x.1 ≤ 2 → x.2.2.2.1 = none) ∧ (x.1 ≤ 3 → x.2.2.2.2 = 0) ∧ (x.1 = 4 → ∃ w, x.2.2.2.1 = some w) ∧ (x.1 = 0 → x = (0, 0, 0, none, 0)) ∧ (x.2.1 = 0 → x.2.2.2.2 ≤ 3)
/-- the last of the reference's m entries holds what the reader holds -/
def PRr (x : PS) (A : RW) (m : Nat) : Prop := (1 ≤ x.1 → 1 ≤ m ∧ A 5 (m - 1) = nI x.2.1) ∧ (2 ≤ x.1 → A 6 (m - 1) = nI x.2.2.1) ∧ (∀ w, x.2.2.2.1 = some w → A 7 (m - 1) = nI w) ∧ (0 < x.2.2.2.2 → A 8 (m - 1) = nI x.2.2.2.2)
def q_nr (x : PS) (c : Nat) : Int32 := match q_take x c with
  | none => -1
  | some x' => nI (q_so x')
theorem bI_congr {P P' : Prop} [Decidable P] [Decidable P'] (h : P ↔ P') : bI P = bI P' := by
  unfold bI
  by_cases hp : P
  · rw [if_pos hp, if_pos (h.mp hp)]
  · rw [if_neg hp, if_neg (fun z => hp (h.mpr z))]
theorem q_dg_iff {c : Nat} (h1 : 33 ≤ c) (h2 : c ≤ 126) : (nI 0 ≤ nI c - nI 48 ∧ nI c - nI 48 ≤ nI 9) ↔ q_dg c := by
  have e : (nI c - nI 48).toInt = (c : Int) - 48 := pk_sub_toInt (by omega) (by decide)
  rw [Int32.le_iff_toInt_le, Int32.le_iff_toInt_le, e, nI_toInt (by decide), nI_toInt (by decide)]
  show ((0 : Nat) : Int) ≤ _ ∧ _ ≤ ((9 : Nat) : Int) ↔ 48 ≤ c ∧ c ≤ 57
  omega
theorem PSr_0 : PSr (0, 0, 0, none, 0) := ⟨⟨by decide, by decide, by decide, fun b h => (by cases h), by decide⟩, fun _ => rfl, fun _ => rfl, fun h => absurd h (by decide), fun _ => rfl, fun _ => by decide⟩
theorem q_so_inv {x : PS} {sv : Nat} (hx : PSr x) (h : q_so x = sv) :
    (sv = 0 ∧ x = (0, 0, 0, none, 0)) ∨ (sv = 1 ∧ ∃ rs fm : Nat, rs ≤ 1 ∧ fm ≤ 9 ∧ x = (1, rs, fm, none, 0)) ∨ (sv = 2 ∧ ∃ rs fm : Nat, rs ≤ 1 ∧ fm ≤ 9 ∧ x = (2, rs, fm, none, 0)) ∨ (sv = 3 ∧ ∃ rs fm : Nat, rs ≤ 1 ∧ fm ≤ 9 ∧ x = (3, rs, fm, none, 0)) ∨
    (sv = 4 ∧ ∃ rs fm w : Nat, rs ≤ 1 ∧ fm ≤ 9 ∧ 1 ≤ w ∧ w ≤ 3 ∧ x = (3, rs, fm, some w, 0)) ∨ (sv = 5 ∧ ∃ rs fm w : Nat, rs ≤ 1 ∧ fm ≤ 9 ∧ w < 40 ∧ ¬ (1 ≤ w ∧ w ≤ 3) ∧ x = (3, rs, fm, some w, 0)) ∨
    (sv = 6 ∧ ∃ rs fm w : Nat, rs ≤ 1 ∧ fm ≤ 9 ∧ w < 40 ∧ x = (4, rs, fm, some w, 0)) ∨ (sv = 7 ∧ ∃ fm w n : Nat, fm ≤ 9 ∧ w < 40 ∧ 1 ≤ n ∧ n ≤ 5 ∧ x = (4, 1, fm, some w, n)) ∨
    (sv = 8 ∧ ∃ rs fm w n : Nat, rs ≤ 1 ∧ fm ≤ 9 ∧ w < 40 ∧ 1 ≤ n ∧ n ≤ 50 ∧ (rs = 0 → n ≤ 3) ∧ (rs = 1 → 6 ≤ n) ∧ x = (4, rs, fm, some w, n)) := by
  obtain ⟨st, rs, fm, pl, nm⟩ := x
  obtain ⟨⟨h1, h2, h3, h4, h5⟩, p1, p2, p3, p4, p5⟩ := hx
  simp only at h1 h2 h3 h4 h5 p1 p2 p3 p4 p5
  rcases (show st = 0 ∨ st = 1 ∨ st = 2 ∨ st = 3 ∨ st = 4 by omega) with rfl | rfl | rfl | rfl | rfl
  · exact Or.inl ⟨h.symm, p4 rfl⟩
  · rw [p1 (by omega), p2 (by omega)]
    exact Or.inr (Or.inl ⟨h.symm, rs, fm, h2, h3, rfl⟩)
  · rw [p1 (by omega), p2 (by omega)]
    exact Or.inr (Or.inr (Or.inl ⟨h.symm, rs, fm, h2, h3, rfl⟩))
  · rw [p2 (by omega)]
    cases pl with
    | none => exact Or.inr (Or.inr (Or.inr (Or.inl ⟨h.symm, rs, fm, h2, h3, rfl⟩)))
    | some w =>
      have h : (if 1 ≤ w ∧ w ≤ 3 then 4 else 5) = sv := h
      by_cases hw : 1 ≤ w ∧ w ≤ 3
      · rw [if_pos hw] at h
        exact Or.inr (Or.inr (Or.inr (Or.inr (Or.inl ⟨h.symm, rs, fm, w, h2, h3, hw.1, hw.2, rfl⟩))))
      · rw [if_neg hw] at h
        exact Or.inr (Or.inr (Or.inr (Or.inr (Or.inr (Or.inl ⟨h.symm, rs, fm, w, h2, h3, h4 w rfl, hw, rfl⟩)))))
  · obtain ⟨w, hw⟩ := p3 rfl
    subst hw
    have g : (if nm = 0 then 6 else if rs ≠ 0 ∧ nm < 6 then 7 else 8) = sv := h
    by_cases hn : nm = 0
    · rw [if_pos hn] at g
      subst hn
      exact Or.inr (Or.inr (Or.inr (Or.inr (Or.inr (Or.inr (Or.inl ⟨g.symm, rs, fm, w, h2, h3, h4 w rfl, rfl⟩))))))
    · rw [if_neg hn] at g
      by_cases h7 : rs ≠ 0 ∧ nm < 6
      · rw [if_pos h7] at g
        obtain rfl : rs = 1 := by omega
        exact Or.inr (Or.inr (Or.inr (Or.inr (Or.inr (Or.inr (Or.inr (Or.inl ⟨g.symm, fm, w, nm, h3, h4 w rfl, by omega, by omega, rfl⟩)))))))
      · rw [if_neg h7] at g
        exact Or.inr (Or.inr (Or.inr (Or.inr (Or.inr (Or.inr (Or.inr (Or.inr ⟨g.symm, rs, fm, w, nm, h2, h3, h4 w rfl, by omega, h5, p5, by omega, rfl⟩)))))))
