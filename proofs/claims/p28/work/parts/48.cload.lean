theorem cr_take {tx : Nat → Nat} {k : Nat} {x x' : PS} {E E' : List QE} (h : q_rd tx k = some (x, E)) (h1 : q_rd tx (k + 1) = some (x', E')) : q_take x (tx k) = some x' := by
  cases ht : q_take x (tx k) with
  | none => rw [cr_f h ht] at h1; cases h1
  | some z => rw [cr_s h ht] at h1; cases h1; rfl
theorem cr_4 {x : PS} (h : PSr x) (h4 : x.1 = 4) (h0 : 0 < x.2.2.2.2) : ∃ rs fm w nm, x = (4, rs, fm, some w, nm) ∧ rs ≤ 1 ∧ fm ≤ 9 ∧ w < 40 ∧ 1 ≤ nm ∧ nm ≤ 50 ∧ (rs = 0 → nm ≤ 3) := by
  obtain ⟨⟨h1, h2, h3, h5, h6⟩, p1, p2, p3, p4, p5⟩ := h
  obtain ⟨w, hw⟩ := p3 h4
  obtain ⟨st, rs, fm, pl, nm⟩ := x
  simp only at h1 h2 h3 h4 h5 h6 h0 hw p5
  subst h4
  subst hw
  exact ⟨rs, fm, w, nm, rfl, h2, h3, h5 w rfl, h0, h6, p5⟩
theorem INV_ldE {d d2 : RW} {y : Int32} {rs fm w nm : Nat} (h2 : fm ≤ 9) (h3 : w < 40) (h4 : 1 ≤ nm) (h5 : rs = 0 → nm ≤ 3) (hki : INV d) (hy : nI 0 ≤ y) (h : q_ldE d y (rs, fm, w, nm) = some d2) : INV d2 := by
  by_cases h0 : rs = 0
  · subst h0
    have h5 := h5 rfl
    rw [q_ldE_b] at h
    split at h
    · rename_i hr
      cases h
      exact INV_addB hki hy (by omega) (by omega) (by omega) (by omega) (q_ref_kind hr)
    · cases h
  · rw [q_ldE_r h0] at h
    split at h
    · cases h
      exact INV_addR hki
    · cases h
