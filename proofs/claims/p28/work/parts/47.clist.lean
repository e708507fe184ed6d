theorem cr_s {tx : Nat → Nat} {k : Nat} {x x' : PS} {E : List QE} (h : q_rd tx k = some (x, E)) (h1 : q_take x (tx k) = some x') : q_rd tx (k + 1) = some (x', if x'.1 = 0 then E ++ [q_en x] else E) := by
  show (match q_rd tx k with | none => none | some (x, E) => (match q_take x (tx k) with | none => none | some x' => some (x', if x'.1 = 0 then E ++ [q_en x] else E))) = _
  rw [h]
  show (match q_take x (tx k) with | none => none | some x' => some (x', if x'.1 = 0 then E ++ [q_en x] else E)) = _
  rw [h1]
theorem cr_f {tx : Nat → Nat} {k : Nat} {x : PS} {E : List QE} (h : q_rd tx k = some (x, E)) (h1 : q_take x (tx k) = none) : q_rd tx (k + 1) = none := by
  show (match q_rd tx k with | none => none | some (x, E) => (match q_take x (tx k) with | none => none | some x' => some (x', if x'.1 = 0 then E ++ [q_en x] else E))) = _
  rw [h]
  show (match q_take x (tx k) with | none => none | some x' => some (x', if x'.1 = 0 then E ++ [q_en x] else E)) = _
  rw [h1]
theorem cr_ft {tx : Nat → Nat} : ∀ n, q_ft tx n ≤ n := by
  intro n
  induction n with
  | zero => exact Nat.le_refl _
  | succ n ih =>
    show (if (q_rd tx (n + 1)).isSome then n + 1 else q_ft tx n) ≤ n + 1
    split <;> omega
theorem cr_back {tx : Nat → Nat} : ∀ (n k : Nat) (x : PS) (E : List QE), q_rd tx n = some (x, E) → k ≤ n → ∃ x1 E1, q_rd tx k = some (x1, E1) ∧ E1 <+: E := by
  intro n
  induction n with
  | zero => intro k x E h hk
            obtain rfl : k = 0 := by omega
            exact ⟨x, E, h, List.prefix_refl _⟩
  | succ n ih =>
    intro k x E h hk
    by_cases e : k = n + 1
    · subst e; exact ⟨x, E, h, List.prefix_refl _⟩
    · cases h0 : q_rd tx n with
      | none => rw [q_rd_none h0 (n + 1) (by omega)] at h; cases h
      | some z =>
        obtain ⟨x0, E0⟩ := z
        cases h1 : q_take x0 (tx n) with
        | none => rw [cr_f h0 h1] at h; cases h
        | some x2 =>
          rw [cr_s h0 h1] at h
          obtain ⟨y1, F1, a, b⟩ := ih k x0 E0 h0 (by omega)
          refine ⟨y1, F1, a, b.trans ?_⟩
          cases h
          split
          · exact List.prefix_append _ _
          · exact List.prefix_refl _
theorem cr_59 {x x' : PS} {c : Nat} (hx : PSr x) (h : q_take x c = some x') : x'.1 = 0 ↔ c = 59 := by
  have hk := q_take_inv hx h
  obtain ⟨⟨h1, h2, h3, h4, h5⟩, p1, p2, p3, p4, p5⟩ := hx
  obtain ⟨st, rs, fm, pl, nm⟩ := x
  simp only at h1 h2 h3 h4 h5 p1 p2 p3 p4 p5
  rcases (show st = 0 ∨ st = 1 ∨ st = 2 ∨ st = 3 ∨ st = 4 by omega) with rfl | rfl | rfl | rfl | rfl
  · have h : q_tL (0, rs, fm, pl, nm) c = some x' := h
    unfold q_tL at h
    split at h
    · cases h; exact ⟨fun z => absurd z (Nat.succ_ne_zero _), fun z => by omega⟩
    · cases h
  · have h : q_tF (1, rs, fm, pl, nm) c = some x' := h
    unfold q_tF at h
    split at h
    · cases h; exact ⟨fun z => absurd z (Nat.succ_ne_zero _), fun z => by omega⟩
    · cases h
  · have h : q_tC (2, rs, fm, pl, nm) c = some x' := h
    unfold q_tC at h
    split at h
    · cases h; exact ⟨fun z => absurd z (Nat.succ_ne_zero _), fun z => by omega⟩
    · cases h
  · have h : q_tP (3, rs, fm, pl, nm) c = some x' := h
    unfold q_tP at h
    dsimp only at h
    split at h
    · rename_i hc
      cases h; exact ⟨fun z => absurd z (Nat.succ_ne_zero _), fun z => by omega⟩
    · split at h
      · cases h
      · rename_i hd
        split at h
        · cases h; exact ⟨fun z => absurd z (Nat.succ_ne_zero _), fun z => absurd (Or.inl (by omega)) hd⟩
        · cases h
  · have h : q_tN (4, rs, fm, pl, nm) c = some x' := h
    unfold q_tN at h
    dsimp only at h
    split at h
    · rename_i hc
      cases h; exact ⟨fun _ => hc.1, fun _ => rfl⟩
    · split at h
      · cases h
      · rename_i hd
        by_cases hl : 1 ≤ 10 * nm + c - 48 ∧ 10 * nm + c - 48 ≤ (if rs = 0 then 3 else 50)
        · rw [if_pos hl] at h
          cases h; exact ⟨fun z => absurd z (Nat.succ_ne_zero _), fun z => by omega⟩
        · rw [if_neg hl] at h
          cases h
/-- a complete list: what its reader holds after k + 1 codes -/
theorem cr_list {tx : Nat → Nat} {len : Nat} {L : List QE} (hw : q_whole tx len = some L) {k : Nat} (hk : k < len) : ∃ x E, q_rd tx (k + 1) = some (x, E) ∧ PSr x ∧
    ((k + 1 = len ∨ tx (k + 1) = 59) → x.1 = 4 ∧ 0 < x.2.2.2.2 ∧ L[E.length]? = some (q_en x) ∧ (k + 1 = len → L.length = E.length + 1) ∧ (k + 1 < len → ∃ x2 E2, q_rd tx (k + 2) = some (x2, E2) ∧ E2.length = E.length + 1)) ∧
    (k + 1 < len → tx (k + 1) ≠ 59 → ∃ x2 E2, q_rd tx (k + 2) = some (x2, E2) ∧ E2.length = E.length) := by
  unfold q_whole at hw
  split at hw
  · cases hw
  · rename_i xl El hl
    split at hw
    · rename_i hc
      cases hw
      obtain ⟨x, E, h1, hE⟩ := cr_back len (k + 1) xl El hl (by omega)
      have hr := (q_rd_ok (k + 1) x E h1).1
      refine ⟨x, E, h1, hr, fun hq => ?_, fun hlt hne => ?_⟩
      · by_cases hlt : k + 1 < len
        · have h59 : tx (k + 1) = 59 := by rcases hq with z | z; · omega
                                           · exact z
          obtain ⟨x2, E2, h2, hE2⟩ := cr_back len (k + 2) xl El hl (by omega)
          cases ht : q_take x (tx (k + 1)) with
          | none => rw [cr_f h1 ht] at h2; cases h2
          | some x3 =>
            have hs := cr_s h1 ht
            have h0 := (cr_59 hr ht).mpr h59
            rw [if_pos h0] at hs
            rw [hs] at h2
            cases h2
            rcases q_take_inv hr ht with ⟨b1, b2, b3, b4, b5⟩ | ⟨b1, b2, b3⟩
            · obtain ⟨W, hW⟩ := hE2
              refine ⟨b3, b4, ?_, fun z => by omega, fun _ => ⟨_, _, hs, by rw [List.length_append]; rfl⟩⟩
              rw [← hW, List.append_assoc, List.append_assoc, List.getElem?_append_right (Nat.le_refl _), Nat.sub_self]
              rfl
            · exact absurd h0 b1
        · have e : k + 1 = len := by omega
          rw [e] at h1
          rw [h1] at hl
          cases hl
          refine ⟨hc.1, hc.2, ?_, fun _ => by rw [List.length_append]; rfl, fun z => by omega⟩
          rw [List.getElem?_append_right (Nat.le_refl _), Nat.sub_self]
          rfl
      · obtain ⟨x2, E2, h2, hE2⟩ := cr_back len (k + 2) xl El hl (by omega)
        cases ht : q_take x (tx (k + 1)) with
        | none => rw [cr_f h1 ht] at h2; cases h2
        | some x3 =>
          have hs := cr_s h1 ht
          rw [if_neg (fun z => hne ((cr_59 hr ht).mp z))] at hs
          exact ⟨_, _, hs, rfl⟩
    · cases hw
theorem cr_0 {tx : Nat → Nat} {len : Nat} {L : List QE} (hw : q_whole tx len = some L) : 0 < len ∧ ∃ x E, q_rd tx 1 = some (x, E) ∧ E.length = 0 := by
  have h0 : 0 < len := by
    apply Nat.pos_of_ne_zero
    intro z
    subst z
    exact absurd hw (by unfold q_whole; intro h; cases h)
  refine ⟨h0, ?_⟩
  obtain ⟨x, E, h1, -, -, -⟩ := cr_list hw h0
  refine ⟨x, E, h1, ?_⟩
  have h9 := (q_rd_ok 1 x E h1).2.1
  omega
theorem cr_none {tx : Nat → Nat} {len : Nat} (h : q_ft tx len < len) : q_whole tx len = none := by
  unfold q_whole
  split
  · rfl
  · rename_i z1 z2 h1
    exact absurd (q_ft_some h1) (by omega)
theorem cr_no {tx : Nat → Nat} {len : Nat} {x : PS} {E : List QE} (h : q_rd tx len = some (x, E)) (hc : ¬ (x.1 = 4 ∧ 0 < x.2.2.2.2)) : q_whole tx len = none := by
  unfold q_whole
  rw [h]
  exact if_neg hc
theorem cr_yes {tx : Nat → Nat} {len : Nat} {x : PS} {E : List QE} (h : q_rd tx len = some (x, E)) (hc : x.1 = 4 ∧ 0 < x.2.2.2.2) : q_whole tx len = some (E ++ [q_en x]) := by
  unfold q_whole
  rw [h]
  exact if_pos hc
def k_ld (tx : Nat → Nat) (len : Nat) : Nat := if (q_whole tx len).isSome then 0 else 1
