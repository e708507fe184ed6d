/-! the law's helpers: their answers in the ground's words -/
abbrev PBY (v : Nat → Int32) (p : Nat) : Prop := ((7 < p ∧ v (p - 8) = nI 1) ∨ (p < 32 ∧ v (p + 8) = nI 1)) ∨ (0 < p % 8 ∧ v (p - 1) = nI 1) ∨ (p % 8 < 7 ∧ v (p + 1) = nI 1)
theorem by_0 (v : Nat → Int32) (p : Nat) : q_w1 v (q_bsd p 0) = true ↔ (7 < p ∧ v (p - 8) = nI 1) := by
  show q_w1 v (if p < 8 then none else some (p - 8)) = true ↔ _
  by_cases h : p < 8
  · rw [if_pos h]; exact ⟨fun z => absurd (show false = true from z) (by decide), fun z => absurd z.1 (by omega)⟩
  · rw [if_neg h]; exact ⟨fun z => ⟨by omega, of_decide_eq_true z⟩, fun z => decide_eq_true z.2⟩
theorem by_1 (v : Nat → Int32) (p : Nat) : q_w1 v (q_bsd p 1) = true ↔ (p % 8 < 7 ∧ v (p + 1) = nI 1) := by
  show q_w1 v (if p % 8 = 7 then none else some (p + 1)) = true ↔ _
  by_cases h : p % 8 = 7
  · rw [if_pos h]; exact ⟨fun z => absurd (show false = true from z) (by decide), fun z => absurd z.1 (by omega)⟩
  · rw [if_neg h]; exact ⟨fun z => ⟨by omega, of_decide_eq_true z⟩, fun z => decide_eq_true z.2⟩
theorem by_2 (v : Nat → Int32) (p : Nat) : q_w1 v (q_bsd p 2) = true ↔ (p < 32 ∧ v (p + 8) = nI 1) := by
  show q_w1 v (if 31 < p then none else some (p + 8)) = true ↔ _
  by_cases h : 31 < p
  · rw [if_pos h]; exact ⟨fun z => absurd (show false = true from z) (by decide), fun z => absurd z.1 (by omega)⟩
  · rw [if_neg h]; exact ⟨fun z => ⟨by omega, of_decide_eq_true z⟩, fun z => decide_eq_true z.2⟩
theorem by_3 (v : Nat → Int32) (p : Nat) : q_w1 v (q_bsd p 3) = true ↔ (0 < p % 8 ∧ v (p - 1) = nI 1) := by
  show q_w1 v (if p % 8 = 0 then none else some (p - 1)) = true ↔ _
  by_cases h : p % 8 = 0
  · rw [if_pos h]; exact ⟨fun z => absurd (show false = true from z) (by decide), fun z => absurd z.1 (by omega)⟩
  · rw [if_neg h]; exact ⟨fun z => ⟨by omega, of_decide_eq_true z⟩, fun z => decide_eq_true z.2⟩
theorem wr_by (v : Nat → Int32) (p : Nat) : q_wr v p = true ↔ (p = 0 ∨ PBY v p) := by
  show ((((decide (p = 0) || q_w1 v (q_bsd p 0)) || q_w1 v (q_bsd p 1)) || q_w1 v (q_bsd p 2)) || q_w1 v (q_bsd p 3)) = true ↔ _
  rw [Bool.or_eq_true, Bool.or_eq_true, Bool.or_eq_true, Bool.or_eq_true, by_0, by_1, by_2, by_3, decide_eq_true_iff]
  constructor
  · rintro ((((h | h) | h) | h) | h)
    · exact Or.inl h
    · exact Or.inr (Or.inl (Or.inl h))
    · exact Or.inr (Or.inr (Or.inr h))
    · exact Or.inr (Or.inl (Or.inr h))
    · exact Or.inr (Or.inr (Or.inl h))
  · rintro (h | (h | h) | h | h)
    · exact Or.inl (Or.inl (Or.inl (Or.inl h)))
    · exact Or.inl (Or.inl (Or.inl (Or.inr h)))
    · exact Or.inl (Or.inr h)
    · exact Or.inr h
    · exact Or.inl (Or.inl (Or.inr h))
theorem wr_f {v : Nat → Int32} {p : Nat} (h0 : 0 < p) (h : ¬ PBY v p) : q_wr v p = false := by
  cases e : q_wr v p with
  | false => rfl
  | true => rcases (wr_by v p).mp e with z | z
            · omega
            · exact absurd z h
theorem fee_0 {a b : Nat} (h : a = b) : nI a = nI b - nI 0 := by rw [h, nI_0, Int32.sub_zero]
theorem fee_5 {a b : Nat} (h : a = b) : nI a - nI 5 = nI b - nI 5 := by rw [h]
section SP
variable {d : RW} {yn : Nat} {x1 x3 x4 : Nat → Int32} {x2 : Nat → Int64} {p : Nat}
theorem lat_n (h : PKI d yn x1 x2 x3 x4) (hp : p < 40) : ∀ n, n ≤ 3 → ∃ M : Nat, M ≤ 2000 ∧ q_mx (fun j => d 8 (p * 3 + j)) n = nI M ∧ (∀ j, j < n → d 7 (p * 3 + j) ≠ -1 → ∃ w : Nat, w ≤ M ∧ d 8 (p * 3 + j) = nI w) ∧ (M = 0 ∨ ∃ j, j < n ∧ d 7 (p * 3 + j) ≠ -1 ∧ d 8 (p * 3 + j) = nI M) := by
  intro n
  induction n with
  | zero => intro _; exact ⟨0, by omega, rfl, fun j hj => absurd hj (Nat.not_lt_zero _), Or.inl rfl⟩
  | succ n ih =>
    intro hn
    obtain ⟨M, hM, e, h1, h2⟩ := ih (by omega)
    have es : q_mx (fun j => d 8 (p * 3 + j)) (n + 1) = if q_mx (fun j => d 8 (p * 3 + j)) n < d 8 (p * 3 + n) then d 8 (p * 3 + n) else q_mx (fun j => d 8 (p * 3 + j)) n := rfl
    rw [es, e]
    by_cases ho : d 7 (p * 3 + n) = -1
    · have e8 : d 8 (p * 3 + n) = -1 := (h.1.2.2.2.1 _ (by omega) ho).1
      have h9 : ¬ nI M < d 8 (p * 3 + n) := by rw [e8, Int32.lt_iff_toInt_lt, nI_toInt (by omega)]; have : (-1 : Int32).toInt = -1 := by decide
                                               omega
      rw [if_neg h9]
      refine ⟨M, hM, rfl, fun j hj o => ?_, ?_⟩
      · rcases Nat.lt_succ_iff_lt_or_eq.mp hj with hj | rfl
        · exact h1 j hj o
        · exact absurd ho o
      · rcases h2 with h2 | ⟨j, hj, a, b⟩
        · exact Or.inl h2
        · exact Or.inr ⟨j, by omega, a, b⟩
    · obtain ⟨w, f, hw, hf, e7, e8⟩ := rd_78 h.2.2.1 (k := p * 3 + n) (by omega) ho
      by_cases hlt : M < w
      · have h9 : nI M < d 8 (p * 3 + n) := by rw [e8]; exact nI_lt hlt (by omega)
        rw [if_pos h9]
        refine ⟨w, hw, e8, fun j hj o => ?_, Or.inr ⟨n, by omega, ho, e8⟩⟩
        rcases Nat.lt_succ_iff_lt_or_eq.mp hj with hj | rfl
        · obtain ⟨w2, h3, h4⟩ := h1 j hj o
          exact ⟨w2, by omega, h4⟩
        · exact ⟨w, Nat.le_refl _, e8⟩
      · have h9 : ¬ nI M < d 8 (p * 3 + n) := by rw [e8]; exact nI_nlt (by omega) (by omega)
        rw [if_neg h9]
        refine ⟨M, hM, rfl, fun j hj o => ?_, ?_⟩
        · rcases Nat.lt_succ_iff_lt_or_eq.mp hj with hj | rfl
          · exact h1 j hj o
          · exact ⟨w, by omega, e8⟩
        · rcases h2 with h2 | ⟨j, hj, a, b⟩
          · exact Or.inl h2
          · exact Or.inr ⟨j, by omega, a, b⟩
theorem bur_pos {j : Nat} (hj : j < 3) (ho : d 7 (p * 3 + j) ≠ -1) : 0 < q_bur d p := by
  show 0 < (((0 + (if d 7 (p * 3 + 0) ≠ -1 then 1 else 0)) + (if d 7 (p * 3 + 1) ≠ -1 then 1 else 0)) + (if d 7 (p * 3 + 2) ≠ -1 then 1 else 0) : Nat)
  rcases (show j = 0 ∨ j = 1 ∨ j = 2 by omega) with rfl | rfl | rfl <;> rw [if_pos ho] <;> omega
theorem bur_ex (h : 0 < q_bur d p) : ∃ j, j < 3 ∧ d 7 (p * 3 + j) ≠ -1 := by
  apply Classical.byContradiction
  intro hn
  have h0 : q_bur d p = 0 := q_cn_0 (P := fun j => d 7 (p * 3 + j) ≠ -1) 3 (fun j hj z => hn ⟨j, hj, z⟩)
  omega
/-- a burial within two years of the last one -/
theorem lat_iff (h : PKI d yn x1 x2 x3 x4) (hp : p < 40) {u : Nat} (hu : u < 100000) : (∃ j, j < 3 ∧ d 7 (p * 3 + j) ≠ -1 ∧ nI u < d 8 (p * 3 + j) + nI 2) ↔ (0 < q_bur d p ∧ nI u < q_lat d p + nI 2) := by
  obtain ⟨M, hM, e, h1, h2⟩ := lat_n h hp 3 (Nat.le_refl _)
  have el : q_lat d p = nI M := e
  rw [el, nI_add, nI_ltI (by omega) (by omega)]
  constructor
  · rintro ⟨j, hj, ho, hl⟩
    obtain ⟨w, hw, e8⟩ := h1 j hj ho
    rw [e8, nI_add, nI_ltI (by omega) (by omega)] at hl
    exact ⟨bur_pos hj ho, by omega⟩
  · rintro ⟨hb, hl⟩
    rcases h2 with rfl | ⟨j, hj, ho, e8⟩
    · obtain ⟨j, hj, ho⟩ := bur_ex hb
      obtain ⟨w, hw, e8⟩ := h1 j hj ho
      exact ⟨j, hj, ho, by rw [e8, nI_add, nI_ltI (by omega) (by omega)]; omega⟩
    · exact ⟨j, hj, ho, by rw [e8, nI_add, nI_ltI (by omega) (by omega)]; exact hl⟩
theorem free_1 (h : d 7 (p * 3 + 0) ≠ -1) : q_free d p + 1 = 1 := by unfold q_free; rw [if_pos h]
theorem free_2 (h0 : ¬ d 7 (p * 3 + 0) ≠ -1) (h : d 7 (p * 3 + 1) ≠ -1) : q_free d p + 1 = 2 := by unfold q_free; rw [if_neg h0, if_pos h]
theorem free_3 (h0 : ¬ d 7 (p * 3 + 0) ≠ -1) (h1 : ¬ d 7 (p * 3 + 1) ≠ -1) (h : d 7 (p * 3 + 2) ≠ -1) : q_free d p + 1 = 3 := by unfold q_free; rw [if_neg h0, if_neg h1, if_pos h]
theorem free_4 (h0 : ¬ d 7 (p * 3 + 0) ≠ -1) (h1 : ¬ d 7 (p * 3 + 1) ≠ -1) (h : ¬ d 7 (p * 3 + 2) ≠ -1) : q_free d p + 1 = 4 := by unfold q_free; rw [if_neg h0, if_neg h1, if_neg h]
def q_lap (d : RW) (y : Int32) : Nat := q_cn (fun p => d 5 p ≠ -1 ∧ d 6 p < y) 40
/-- the sums over the plots, as the law makes them -/
def q_cg (d : RW) (y : Int32) (rc : Nat → Bool) (what p : Nat) : Nat := q_i1 d y what p + q_i2 d rc what p + q_i3 d y what p
def q_clw (d : RW) (y : Int32) (rc : Nat → Bool) (what : Nat) : Int32 := if what = 0 then y else if what = 7 then q_sI (fun f => d 1 f) 10 else nI (q_sN (q_cg d y rc what) 40)
theorem q_clw_M {d : RW} {y sv : Int32} {rc : Nat → Bool} {what : Nat} (hw : what ≤ 7) : q_clw d y rc what = q_ctM d y y sv rc what := by
  unfold q_clw q_ctM
  by_cases h0 : what = 0
  · rw [if_pos h0, if_pos h0]
  · rw [if_neg h0, if_neg h0, if_neg (show ¬ what = 8 by omega)]
    by_cases h7 : what = 7
    · subst h7
      rw [if_pos rfl]
      have key : ∀ n, q_ct2 d y rc 7 n = q_ct1 d 7 10 := by
        intro n
        induction n with
        | zero => rfl
        | succ n ih =>
          show ((q_ct2 d y rc 7 n + nI (q_i1 d y 7 n)) + nI (q_i2 d rc 7 n)) + nI (q_i3 d y 7 n) = _
          rw [ih, q_i1_0 (by decide) (by decide), q_i2_0 (by decide) (by decide), q_i3_0 (by decide) (by decide), nI_0, Int32.add_zero, Int32.add_zero, Int32.add_zero]
      rw [key 40, q_ct1_7]
    · rw [if_neg h7]
      exact (q_ct2_N h7 (fun p _ => rfl) 40 (Nat.le_refl _)).symm
end SP
