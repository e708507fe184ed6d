/-- an entry: reserves, family, plot, number -/
abbrev QE : Type := Nat × Nat × Nat × Nat
def q_en (x : PS) : QE := (x.2.1, x.2.2.1, x.2.2.2.1.getD 0, x.2.2.2.2)
/-- what a reader holds after k of a text's codes, and the entries that it has closed -/
def q_rd (tx : Nat → Nat) : Nat → Option (PS × List QE)
  | 0 => some ((0, 0, 0, none, 0), [])
  | k + 1 => match q_rd tx k with
    | none => none
    | some (x, E) => match q_take x (tx k) with
      | none => none
      | some x' => some (x', if x'.1 = 0 then E ++ [q_en x] else E)
/-- how many codes are taken -/
def q_ft (tx : Nat → Nat) : Nat → Nat
  | 0 => 0
  | k + 1 => if (q_rd tx (k + 1)).isSome then k + 1 else q_ft tx k
theorem q_rd_none {tx : Nat → Nat} {k : Nat} (h : q_rd tx k = none) : ∀ n, k ≤ n → q_rd tx n = none := by
  intro n
  induction n with
  | zero => intro hk; obtain rfl : k = 0 := by omega
            exact h
  | succ n ih =>
    intro hk
    by_cases e : k = n + 1
    · subst e; exact h
    · show (match q_rd tx n with | none => none | some (x, E) => _) = none
      rw [ih (by omega)]
theorem q_ft_some {tx : Nat → Nat} {k : Nat} {z : PS × List QE} (h : q_rd tx k = some z) : q_ft tx k = k := by
  cases k with
  | zero => rfl
  | succ k => exact if_pos (by rw [h]; rfl)
theorem q_ft_none {tx : Nat → Nat} {k : Nat} {z : PS × List QE} (h : q_rd tx k = some z) (h1 : q_rd tx (k + 1) = none) : ∀ n, k ≤ n → q_ft tx n = k := by
  intro n
  induction n with
  | zero => intro hk; obtain rfl : k = 0 := by omega
            rfl
  | succ n ih =>
    intro hk
    by_cases e : k = n + 1
    · subst e; exact q_ft_some h
    · show (if (q_rd tx (n + 1)).isSome then n + 1 else q_ft tx n) = k
      rw [q_rd_none h1 (n + 1) (by omega), if_neg (by simp)]
      exact ih (by omega)
def q_ps (x : PS) : Nat := match x.1 with
  | 0 => 0
  | 1 => 1
  | 2 => 2
  | 3 => if x.2.2.2.1 = none then 3 else 4
  | _ => if x.2.2.2.2 = 0 then 5 else 6

theorem PSr_mk {st rs fm nm : Nat} {pl : Option Nat} (h0 : 1 ≤ st) (h1 : st ≤ 4) (h2 : rs ≤ 1) (h3 : fm ≤ 9) (h4 : ∀ b, pl = some b → b < 40) (h5 : nm ≤ 50) (p1 : st ≤ 2 → pl = none) (p2 : st ≤ 3 → nm = 0) (p3 : st = 4 → ∃ w, pl = some w) (p5 : rs = 0 → nm ≤ 3) : PSr (st, rs, fm, pl, nm) :=
  ⟨⟨h1, h2, h3, h4, h5⟩, p1, p2, p3, fun z => absurd (show st = 0 from z) (by omega), p5⟩
def TKo (x x' : PS) : Prop := (x'.1 = 0 ∧ x' = (0, 0, 0, none, 0) ∧ x.1 = 4 ∧ 0 < x.2.2.2.2 ∧ q_ps x = 6) ∨ (x'.1 ≠ 0 ∧ PSr x' ∧ q_ps x' ≤ q_ps x + 1)
theorem q_take_inv {x x' : PS} {c : Nat} (hx : PSr x) (h : q_take x c = some x') : TKo x x' := by
  obtain ⟨⟨h1, h2, h3, h4, h5⟩, p1, p2, p3, p4, p5⟩ := hx
  obtain ⟨st, rs, fm, pl, nm⟩ := x
  simp only at h1 h2 h3 h4 h5 p1 p2 p3 p4 p5
  rcases (show st = 0 ∨ st = 1 ∨ st = 2 ∨ st = 3 ∨ st = 4 by omega) with rfl | rfl | rfl | rfl | rfl
  · have h : q_tL (0, rs, fm, pl, nm) c = some x' := h
    rw [p4 rfl] at h ⊢
    unfold q_tL at h
    split at h
    · cases h
      exact Or.inr ⟨Nat.succ_ne_zero _, PSr_mk (by omega) (by omega) (by split <;> omega) (by omega) (fun b hb => by cases hb) (by omega) (fun _ => rfl) (fun _ => rfl) (fun z => absurd z (by decide)) (fun _ => by omega), Nat.le_refl _⟩
    · cases h
  · have h : q_tF (1, rs, fm, pl, nm) c = some x' := h
    obtain rfl := p1 (by omega)
    obtain rfl := p2 (by omega)
    unfold q_tF at h
    split at h
    · cases h
      exact Or.inr ⟨Nat.succ_ne_zero _, PSr_mk (by omega) (by omega) h2 (by omega) (fun b hb => by cases hb) (by omega) (fun _ => rfl) (fun _ => rfl) (fun z => absurd z (by decide)) (fun _ => by omega), Nat.le_refl _⟩
    · cases h
  · have h : q_tC (2, rs, fm, pl, nm) c = some x' := h
    obtain rfl := p1 (by omega)
    obtain rfl := p2 (by omega)
    unfold q_tC at h
    split at h
    · cases h
      exact Or.inr ⟨Nat.succ_ne_zero _, PSr_mk (by omega) (by omega) h2 (by omega) (fun b hb => by cases hb) (by omega) (fun _ => rfl) (fun _ => rfl) (fun z => absurd z (by decide)) (fun _ => by omega), Nat.le_refl _⟩
    · cases h
  · have h : q_tP (3, rs, fm, pl, nm) c = some x' := h
    obtain rfl := p2 (by omega)
    unfold q_tP at h
    dsimp only at h
    split at h
    · rename_i hc
      cases h
      have ho : ∃ w, pl = some w := by cases pl with | none => exact absurd rfl hc.2 | some w => exact ⟨w, rfl⟩
      obtain ⟨w, rfl⟩ := ho
      exact Or.inr ⟨Nat.succ_ne_zero _, PSr_mk (by omega) (by omega) h2 h3 h4 (by omega) (fun z => absurd z (by decide)) (fun _ => rfl) (fun _ => ⟨w, rfl⟩) (fun _ => by omega), Nat.le_refl _⟩
    · split at h
      · cases h
      · split at h
        · rename_i hl
          cases h
          refine Or.inr ⟨Nat.succ_ne_zero _, PSr_mk (by omega) (by omega) h2 h3 (fun b hb => by cases hb; exact hl) (by omega) (fun z => absurd z (by decide)) (fun _ => rfl) (fun z => absurd z (by decide)) (fun _ => by omega), ?_⟩
          show 4 ≤ (if pl = none then 3 else 4) + 1
          split <;> omega
        · cases h
  · have h : q_tN (4, rs, fm, pl, nm) c = some x' := h
    unfold q_tN at h
    dsimp only at h
    split at h
    · rename_i hc
      cases h
      exact Or.inl ⟨rfl, rfl, rfl, hc.2, if_neg (by show ¬ nm = 0; omega)⟩
    · split at h
      · cases h
      · by_cases hl : 1 ≤ 10 * nm + c - 48 ∧ 10 * nm + c - 48 ≤ (if rs = 0 then 3 else 50)
        · rw [if_pos hl] at h
          cases h
          refine Or.inr ⟨Nat.succ_ne_zero _, PSr_mk (by omega) (by omega) h2 h3 h4 (by split at hl <;> omega) (fun z => absurd z (by decide)) (fun z => absurd z (by decide)) p3 (fun z => by rw [if_pos z] at hl; omega), ?_⟩
          show (if _ then 5 else 6) ≤ (if _ then 5 else 6) + 1
          split <;> split <;> omega
        · rw [if_neg hl] at h
          cases h
