/-- an entry: reserves, family, plot, number -/
abbrev QE : Type := Nat × Nat × Nat × Nat
def q_en (x : PS) : QE := (x.2.1, x.2.2.1, x.2.2.2.1.getD 0, x.2.2.2.2)
/-- what a reader holds after k of a text's codes, and the entries that it has closed -/
def q_rd (tx : Nat → Nat) : Nat → Option (PS × List QE)
  | 0 => some ((0, 0, 0, none, 0), [])
  | k + 1 => match q_rd tx k with
    | none => none
    | some (x, E) => match q_take x (tx k) with
      | none => none
      | some x' => some (x', if x'.1 = 0 then E ++ [q_en x] else E)
/-- how many codes are taken -/
def q_ft (tx : Nat → Nat) : Nat → Nat
  | 0 => 0
  | k + 1 => if (q_rd tx (k + 1)).isSome then k + 1 else q_ft tx k
theorem q_rd_none {tx : Nat → Nat} {k : Nat} (h : q_rd tx k = none) : ∀ n, k ≤ n → q_rd tx n = none := by
  intro n
  induction n with
  | zero => intro hk; obtain rfl : k = 0 := by omega
            exact h
  | succ n ih =>
    intro hk
    by_cases e : k = n + 1
    · subst e; exact h
    · show (match q_rd tx n with | none => none | some (x, E) => _) = none
      rw [ih (by omega)]
theorem q_ft_some {tx : Nat → Nat} {k : Nat} {z : PS × List QE} (h : q_rd tx k = some z) : q_ft tx k = k := by
  cases k with
  | zero => rfl
  | succ k => exact if_pos (by rw [h]; rfl)
theorem q_ft_none {tx : Nat → Nat} {k : Nat} {z : PS × List QE} (h : q_rd tx k = some z) (h1 : q_rd tx (k + 1) = none) : ∀ n, k ≤ n → q_ft tx n = k := by
  intro n
  induction n with
  | zero => intro hk; obtain rfl : k = 0 := by omega
            rfl
  | succ n ih =>
    intro hk
    by_cases e : k = n + 1
    · subst e; exact q_ft_some h
    · show (if (q_rd tx (n + 1)).isSome then n + 1 else q_ft tx n) = k
      rw [q_rd_none h1 (n + 1) (by omega), if_neg (by simp)]
      exact ih (by omega)
def q_ps (x : PS) : Nat := match x.1 with
  | 0 => 0
  | 1 => 1
  | 2 => 2
  | 3 => if x.2.2.2.1 = none then 3 else 4
  | _ => if x.2.2.2.2 = 0 then 5 else 6
