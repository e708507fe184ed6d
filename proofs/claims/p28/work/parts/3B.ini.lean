/-- the reference's new row z while it is filled -/
def q_zi (a b c : Nat) : Nat → Int32 := fun x => if x = 0 then nI 3 else if (40 ≤ x ∧ x < 40 + a) ∨ (80 ≤ x ∧ x < 80 + a) ∨ (120 ≤ x ∧ x < 120 + a) then -1 else if 160 ≤ x ∧ x < 160 + b then -1 else if 520 ≤ x ∧ x < 520 + c then nI 1 else 0
theorem q_zi_a {a : Nat} (ha : a < 40) : upd (upd (upd (q_zi a 0 0) (40 + a) (-1)) (80 + a) (-1)) (120 + a) (-1) = q_zi (a + 1) 0 0 := by
  funext x
  show (if x = 120 + a then -1 else if x = 80 + a then -1 else if x = 40 + a then -1 else q_zi a 0 0 x) = q_zi (a + 1) 0 0 x
  by_cases h : x = 120 + a ∨ x = 80 + a ∨ x = 40 + a
  · have e : q_zi (a + 1) 0 0 x = -1 := by unfold q_zi; rw [if_neg (by omega), if_pos (by omega)]
    rw [e]
    split
    · rfl
    · split
      · rfl
      · split
        · rfl
        · omega
  · rw [if_neg (by omega), if_neg (by omega), if_neg (by omega)]
    unfold q_zi
    by_cases h0 : x = 0
    · rw [if_pos h0, if_pos h0]
    · rw [if_neg h0, if_neg h0]
      by_cases h1 : (40 ≤ x ∧ x < 40 + a) ∨ (80 ≤ x ∧ x < 80 + a) ∨ (120 ≤ x ∧ x < 120 + a)
      · rw [if_pos h1, if_pos (by omega)]
      · rw [if_neg h1, if_neg (show ¬ ((40 ≤ x ∧ x < 40 + (a + 1)) ∨ (80 ≤ x ∧ x < 80 + (a + 1)) ∨ (120 ≤ x ∧ x < 120 + (a + 1))) by omega)]
theorem q_zi_b {b : Nat} : upd (q_zi 40 b 0) (160 + b) (-1) = q_zi 40 (b + 1) 0 := by
  funext x
  show (if x = 160 + b then -1 else q_zi 40 b 0 x) = q_zi 40 (b + 1) 0 x
  unfold q_zi
  by_cases h : x = 160 + b
  · rw [if_pos h, if_neg (by omega), if_neg (by omega), if_pos (by omega)]
  · rw [if_neg h]
    by_cases h0 : x = 0
    · rw [if_pos h0, if_pos h0]
    · rw [if_neg h0, if_neg h0]
      by_cases h1 : (40 ≤ x ∧ x < 40 + 40) ∨ (80 ≤ x ∧ x < 80 + 40) ∨ (120 ≤ x ∧ x < 120 + 40)
      · rw [if_pos h1, if_pos h1]
      · rw [if_neg h1, if_neg h1]
        by_cases h2 : 160 ≤ x ∧ x < 160 + b
        · rw [if_pos h2, if_pos (by omega)]
        · rw [if_neg h2, if_neg (show ¬ (160 ≤ x ∧ x < 160 + (b + 1)) by omega)]
theorem q_zi_c {c : Nat} : upd (q_zi 40 120 c) (520 + c) (nI 1) = q_zi 40 120 (c + 1) := by
  funext x
  show (if x = 520 + c then nI 1 else q_zi 40 120 c x) = q_zi 40 120 (c + 1) x
  unfold q_zi
  by_cases h : x = 520 + c
  · rw [if_pos h, if_neg (by omega), if_neg (by omega), if_neg (by omega), if_pos (by omega)]
  · rw [if_neg h]
    by_cases h0 : x = 0
    · rw [if_pos h0, if_pos h0]
    · rw [if_neg h0, if_neg h0]
      by_cases h1 : (40 ≤ x ∧ x < 40 + 40) ∨ (80 ≤ x ∧ x < 80 + 40) ∨ (120 ≤ x ∧ x < 120 + 40)
      · rw [if_pos h1, if_pos h1]
      · rw [if_neg h1, if_neg h1]
        by_cases h2 : 160 ≤ x ∧ x < 160 + 120
        · rw [if_pos h2, if_pos h2]
        · rw [if_neg h2, if_neg h2]
          by_cases h3 : 520 ≤ x ∧ x < 520 + c
          · rw [if_pos h3, if_pos (by omega)]
          · rw [if_neg h3, if_neg (by omega)]
theorem q_zi_0 : upd (fun _ => 0) 0 (nI 3) = q_zi 0 0 0 := by
  funext x
  show (if x = 0 then nI 3 else 0) = q_zi 0 0 0 x
  unfold q_zi
  by_cases h0 : x = 0
  · rw [if_pos h0, if_pos h0]
  · rw [if_neg h0, if_neg h0, if_neg (by omega), if_neg (by omega), if_neg (by omega)]
def q_A0 : RW := fun j => if j = 0 then q_zi 40 120 10 else fun _ => 0
