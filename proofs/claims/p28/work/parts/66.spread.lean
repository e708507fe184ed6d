/-! the law's walk from the gate: sweep after sweep -/
def q_on (v : Nat → Int32) : Nat := q_cn (fun p => v p = nI 1) 40
def SP1 (d : RW) (b : Int32) (v : Nat → Int32) : Prop := (∀ p, p < 40 → v p = nI 1 ∨ v p = nI 0) ∧ v 0 = nI 1 ∧ (∀ p, p < 40 → v p = nI 1 → q_rn (q_op d b) (q_on v - 1) p)
def SPC (d : RW) (b : Int32) (v : Nat → Int32) (j : Nat) : Prop := ∀ p, 1 ≤ p → p < j → q_op d b p → PBY v p → v p = nI 1
def SPO (d : RW) (b : Int32) (g : Nat) (v : Nat → Int32) : Prop := g ≤ 1 ∧ SP1 d b v ∧ (g = 0 → SPC d b v 40)
def SPI (d : RW) (b : Int32) (v0 : Nat → Int32) (j g : Nat) (v : Nat → Int32) : Prop := 1 ≤ j ∧ j ≤ 40 ∧ g ≤ 1 ∧ SP1 d b v ∧ (g = 1 → q_on v0 < q_on v) ∧ (g = 0 → v = v0 ∧ SPC d b v j)
theorem by_ex {v : Nat → Int32} {p : Nat} : PBY v p ↔ ∃ s q : Nat, s < 4 ∧ q_bsd p s = some q ∧ v q = nI 1 := by
  have w1 : ∀ s, q_w1 v (q_bsd p s) = true ↔ ∃ q, q_bsd p s = some q ∧ v q = nI 1 := by
    intro s
    cases h : q_bsd p s with
    | none => exact ⟨fun z => absurd (show false = true from z) (by decide), fun ⟨q, z, _⟩ => by cases z⟩
    | some q => exact ⟨fun z => ⟨q, rfl, of_decide_eq_true z⟩, fun ⟨q2, z, e⟩ => by cases z; exact decide_eq_true e⟩
  constructor
  · rintro ((h | h) | h | h)
    · obtain ⟨q, a, b⟩ := (w1 0).mp ((by_0 v p).mpr h); exact ⟨0, q, by omega, a, b⟩
    · obtain ⟨q, a, b⟩ := (w1 2).mp ((by_2 v p).mpr h); exact ⟨2, q, by omega, a, b⟩
    · obtain ⟨q, a, b⟩ := (w1 3).mp ((by_3 v p).mpr h); exact ⟨3, q, by omega, a, b⟩
    · obtain ⟨q, a, b⟩ := (w1 1).mp ((by_1 v p).mpr h); exact ⟨1, q, by omega, a, b⟩
  · rintro ⟨s, q, hs, a, b⟩
    have h := (w1 s).mpr ⟨q, a, b⟩
    rcases (show s = 0 ∨ s = 1 ∨ s = 2 ∨ s = 3 by omega) with rfl | rfl | rfl | rfl
    · exact Or.inl (Or.inl ((by_0 v p).mp h))
    · exact Or.inr (Or.inr ((by_1 v p).mp h))
    · exact Or.inl (Or.inr ((by_2 v p).mp h))
    · exact Or.inr (Or.inl ((by_3 v p).mp h))
theorem rn_no {op : Nat → Prop} (h0 : ¬ op 0) : ∀ n p, ¬ q_rn op n p := by
  intro n
  induction n with
  | zero => rintro p ⟨rfl, h⟩; exact h0 h
  | succ n ih =>
    rintro p (h | ⟨-, s, q, -, -, h⟩)
    · exact ih p h
    · exact ih q h
theorem on_le (v : Nat → Int32) : q_on v ≤ 40 := q_cn_le _ _
theorem sp_0 {d : RW} {b : Int32} {v : Nat → Int32} (hi : INV d) (hb : ¬ b = 0) (hv : ∀ p, p < 40 → v p = nI 0) : SPO d b 1 (upd v 0 (nI 1)) := by
  have hn : ∀ p, p < 40 → ¬ v p = nI 1 := fun p hp => by rw [hv p hp]; decide
  have e1 : q_on (upd v 0 (nI 1)) = 1 := by
    show q_cn (fun p => upd v 0 (nI 1) p = nI 1) 40 = 1
    rw [q_cn_add (P := fun p => v p = nI 1) (P' := fun p => upd v 0 (nI 1) p = nI 1) (x := 0) (hn 0 (by omega)) (if_pos rfl) (fun p hp => by rw [upd_ne hp]) 40, q_cn_0 40 hn]
    rfl
  refine ⟨Nat.le_refl _, ⟨?_, if_pos rfl, ?_⟩, fun z => absurd z (by decide)⟩
  · intro p hp
    by_cases h : p = 0
    · rw [h]; exact Or.inl (if_pos rfl)
    · rw [upd_ne h]; exact Or.inr (hv p hp)
  · intro p hp h1
    rw [e1]
    by_cases h : p = 0
    · exact ⟨h, fun z => hb (z.symm.trans nI_0), Or.inl hi.2.2.2.2.2.2.1⟩
    · rw [upd_ne h] at h1; exact absurd h1 (hn p hp)
theorem sp_in {d : RW} {b : Int32} {g : Nat} {v : Nat → Int32} (h : SPO d b g v) : SPI d b v 1 0 v := ⟨by omega, by omega, by omega, h.2.1, fun z => absurd z (by decide), fun _ => ⟨rfl, fun p h1 h2 => by omega⟩⟩
theorem sp_skip {d : RW} {b : Int32} {v0 v : Nat → Int32} {j g : Nat} (h : SPI d b v0 j g v) (hj : j < 40) (hs : q_op d b j → PBY v j → v j = nI 1) : SPI d b v0 (j + 1) g v := by
  obtain ⟨h1, h2, h3, h4, h5, h6⟩ := h
  refine ⟨by omega, by omega, h3, h4, h5, fun z => ⟨(h6 z).1, fun p p1 p2 o y => ?_⟩⟩
  rcases Nat.lt_succ_iff_lt_or_eq.mp p2 with p2 | rfl
  · exact (h6 z).2 p p1 p2 o y
  · exact hs o y
theorem sp_mark {d : RW} {b : Int32} {v0 v : Nat → Int32} {j g : Nat} (h : SPI d b v0 j g v) (hj : j < 40) (ho : q_op d b j) (hy : PBY v j) (hn : ¬ v j = nI 1) : SPI d b v0 (j + 1) 1 (upd v j (nI 1)) := by
  obtain ⟨h1, h2, h3, ⟨s1, s2, s3⟩, h5, h6⟩ := h
  have e1 : q_on (upd v j (nI 1)) = q_on v + 1 := by
    show q_cn (fun p => upd v j (nI 1) p = nI 1) 40 = _
    rw [q_cn_add (P := fun p => v p = nI 1) (P' := fun p => upd v j (nI 1) p = nI 1) (x := j) hn (if_pos rfl) (fun p hp => by rw [upd_ne hp]) 40, if_pos hj]
    rfl
  have e0 : q_on v0 ≤ q_on v := by
    rcases (show g = 0 ∨ g = 1 by omega) with z | z
    · rw [(h6 z).1]; exact Nat.le_refl _
    · exact Nat.le_of_lt (h5 z)
  have c0 : 0 < q_on v := by
    rcases Nat.eq_zero_or_pos (q_on v) with z | z
    · have h9 : ∀ n, 0 < n → q_cn (fun p => v p = nI 1) n ≠ 0 := by
        intro n
        induction n with
        | zero => intro z; omega
        | succ n ih =>
          intro _ z
          rcases Nat.eq_zero_or_pos n with rfl | hn0
          · rw [q_cn_t (P := fun p => v p = nI 1) s2] at z; omega
          · by_cases q : v n = nI 1
            · rw [q_cn_t (P := fun p => v p = nI 1) q] at z; omega
            · rw [q_cn_f (P := fun p => v p = nI 1) q] at z; exact ih hn0 z
      exact absurd z (h9 40 (by omega))
    · exact z
  refine ⟨by omega, by omega, Nat.le_refl _, ⟨?_, ?_, ?_⟩, fun _ => by omega, fun z => absurd z (by decide)⟩
  · intro p hp
    by_cases q : p = j
    · rw [q]; exact Or.inl (if_pos rfl)
    · rw [upd_ne q]; exact s1 p hp
  · rw [upd_ne (by omega)]; exact s2
  · intro p hp hp1
    rw [e1]
    by_cases q : p = j
    · subst q
      obtain ⟨sd, q, hs, hq, hq1⟩ := by_ex.mp hy
      have hq4 := q_bsd_lt hp hq
      have hr := s3 q hq4 hq1
      rw [show q_on v + 1 - 1 = (q_on v - 1) + 1 by omega]
      exact Or.inr ⟨ho, sd, q, hs, hq, hr⟩
    · rw [upd_ne q] at hp1
      exact q_rn_mono (by omega) (s3 p hp hp1)
theorem sp_out {d : RW} {b : Int32} {v0 v : Nat → Int32} {g : Nat} (h : SPI d b v0 40 g v) : SPO d b g v ∧ g + (40 - q_on v) < 1 + (40 - q_on v0) := by
  obtain ⟨h1, h2, h3, h4, h5, h6⟩ := h
  have a := on_le v
  refine ⟨⟨h3, h4, fun z => (h6 z).2⟩, ?_⟩
  rcases (show g = 0 ∨ g = 1 by omega) with z | z
  · rw [(h6 z).1]; omega
  · have := h5 z; omega
theorem sp_end {d : RW} {b : Int32} {v : Nat → Int32} (h : SPO d b 0 v) : ∀ p, p < 40 → (v p = nI 1 ↔ q_rn (q_op d b) 40 p) := by
  obtain ⟨-, ⟨s1, s2, s3⟩, hc⟩ := h
  have hc := hc rfl
  have key : ∀ n p, p < 40 → q_rn (q_op d b) n p → v p = nI 1 := by
    intro n
    induction n with
    | zero => rintro p hp ⟨rfl, -⟩; exact s2
    | succ n ih =>
      rintro p hp (h | ⟨o, sd, q, hs, hq, hr⟩)
      · exact ih p hp h
      · rcases Nat.eq_zero_or_pos p with rfl | h0
        · exact s2
        · exact hc p h0 hp o (by_ex.mpr ⟨sd, q, hs, hq, ih q (q_bsd_lt hp hq) hr⟩)
  intro p hp
  have a := on_le v
  exact ⟨fun h => q_rn_mono (by omega) (s3 p hp h), key 40 p hp⟩
theorem sp_none {d : RW} {b : Int32} {v : Nat → Int32} (hb : b = 0) (hv : ∀ p, p < 40 → v p = nI 0) : ∀ p, p < 40 → (v p = nI 1 ↔ q_rn (q_op d b) 40 p) := fun p hp =>
  ⟨fun h => absurd ((hv p hp).symm.trans h) (by decide), fun h => absurd h (rn_no (fun z => z.1 (by rw [hb]; exact nI_0)) 40 p)⟩
section SPW
variable {dC : Nat → ClassId} {dI : Nat → Nat → Nat} {cI cL cJ : ClassId} {t : Nat → Nat} {x1 x3 x4 v : Nat → Int32} {x2 : Nat → Int64} {w : Nat} {s : State} {H : Heap}
abbrev SPA (t : Nat → Nat) (w : Nat) : List Nat := [t 0, t 1, t 2, t 3, w]
def SPM (dC : Nat → ClassId) (dI : Nat → Nat → Nat) (cI cL cJ : ClassId) (t : Nat → Nat) (x1 : Nat → Int32) (x2 : Nat → Int64) (x3 x4 : Nat → Int32) (w : Nat) (v : Nat → Int32) (U : State) : Prop := va_P (dC, dI) vwCl (PW cI cJ t x1 x2 x3 x4 ++ [WY cI w v]) U.heap ∧ va_D (fun q => q ∈ SPA t w) (PW cI cJ t x1 x2 x3 x4 ++ [WY cI w v]) ∧ EV dC dI cI cL cJ U
theorem SPM_bl : Bl (SPM dC dI cI cL cJ t x1 x2 x3 x4 w v) := fun U g mk a h => ⟨h.1, h.2.1, va_K.moved (u := U) (U := U.calling g mk a) (Vm.Alike.refl U.vm) h.2.2⟩
theorem SPM_at (hK : EV dC dI cI cL cJ s) (hP : va_P (dC, dI) vwCl (PW cI cJ t x1 x2 x3 x4 ++ [WY cI w v]) H) (hD : va_D (fun q => q ∈ SPA t w) (PW cI cJ t x1 x2 x3 x4 ++ [WY cI w v])) : ∀ U : State, U.heap = H → s.WarmedH U.vm → SPM dC dI cI cL cJ t x1 x2 x3 x4 w v U := by
  intro U hU hW
  subst hU
  exact ⟨hP, hD, va_K.moved hW.alike hK⟩
end SPW
