/-- the loop over a list's entries -/
def LDS (d0 : RW) (y : Int32) (L : List QE) (A : RW) (j : Nat) (gv : Int32) : Prop := j ≤ L.length ∧ q_ldn d0 y L j = some (q_nz (A 0)) ∧ (gv = nI 1 ∨ (gv = nI 0 ∧ q_ldn d0 y L (j + 1) = none)) ∧ INV (q_nz (A 0)) ∧ A 0 550 = y
theorem LDS_no {d0 : RW} {y : Int32} {L : List QE} {A A9 : RW} {j : Nat} {gv : Int32} {e : QE} (h : LDS d0 y L A j gv) (he : L[j]? = some e) (hn : q_ldE (q_nz (A 0)) y e = none) (h0 : A9 0 = A 0) : LDS d0 y L A9 j (nI 0) :=
  ⟨h.1, by rw [h0]; exact h.2.1, Or.inr ⟨rfl, by rw [q_ldn_s h.2.1 he]; exact hn⟩, by rw [h0]; exact h.2.2.2.1, by rw [h0]; exact h.2.2.2.2⟩
theorem LDS_yes {d0 : RW} {y : Int32} {L : List QE} {A A9 : RW} {j : Nat} {gv : Int32} {e : QE} (h : LDS d0 y L A j gv) (he : L[j]? = some e) (hn : q_ldE (q_nz (A 0)) y e = some (q_nz (A9 0))) (hi : INV (q_nz (A9 0))) (hy : A9 0 550 = y) : LDS d0 y L A9 (j + 1) (nI 1) :=
  ⟨(List.getElem?_eq_some_iff.mp he).1, by rw [q_ldn_s h.2.1 he]; exact hn, Or.inl rfl, hi, hy⟩
theorem q_ldE_b {d : RW} {y : Int32} {f p dep : Nat} : q_ldE d y (0, f, p, dep) = if q_ref d y (q_rc d) (nI f) p dep = nI 0 then some (q_addB d y f p dep) else none := rfl
theorem q_ldE_r {d : RW} {y : Int32} {rs f p dep : Nat} (h : rs ≠ 0) : q_ldE d y (rs, f, p, dep) = if d 3 p ≠ nI 3 ∧ d 4 p = -1 ∧ ¬ q_oth (q_hold d y p) (nI f) then some (q_addR d y f p dep) else none := if_neg h
theorem bI_y {P : Prop} [Decidable P] (h : P) : bI P = nI 1 := (bI_t h).symm
theorem bI_n {P : Prop} [Decidable P] (h : ¬ P) : bI P = nI 0 := (bI_f h).symm
theorem ENA_cong {E : List QE} {A A9 : RW} (h : ENA E A) (h9 : ∀ j, 5 ≤ j → A9 j = A j) : ENA E A9 := fun j e he => by
  rw [h9 5 (by decide), h9 6 (by decide), h9 7 (by decide), h9 8 (by decide)]
  exact h j e he
