noncomputable def q_rc (d : RW) (p : Nat) : Bool := @decide (p = 0 ∨ ∃ s q : Nat, s < 4 ∧ q_bsd p s = some q ∧ q_rn (q_op d (-1)) 40 q) (Classical.propDecidable _)
theorem q_wn_iff (w : Nat → Int32) (p : Nat) : ∀ n, q_wn w p n = true ↔ (p = 0 ∨ ∃ s q : Nat, s < n ∧ q_bsd p s = some q ∧ w q = nI 1) := by
  intro n
  induction n with
  | zero => simp [q_wn]
  | succ n ih =>
    show (q_wn w p n || q_w1 w (q_bsd p n)) = true ↔ _
    rw [Bool.or_eq_true, ih]
    constructor
    · rintro ((h | ⟨s, q, h1, h2, h3⟩) | h)
      · exact Or.inl h
      · exact Or.inr ⟨s, q, by omega, h2, h3⟩
      · cases hq : q_bsd p n with
        | none => rw [hq] at h; exact absurd h (by simp [q_w1])
        | some q => rw [hq] at h; exact Or.inr ⟨n, q, by omega, hq, by simpa [q_w1] using h⟩
    · rintro (h | ⟨s, q, h1, h2, h3⟩)
      · exact Or.inl (Or.inl h)
      · by_cases e : s = n
        · subst e; exact Or.inr (by rw [h2]; simp [q_w1, h3])
        · exact Or.inl (Or.inr ⟨s, q, by omega, h2, h3⟩)
theorem q_wr_rc {d : RW} {w : Nat → Int32} (hw : ∀ p, p < 40 → (w p = nI 1 ↔ q_rn (q_op d (-1)) 40 p)) {p : Nat} (hp : p < 40) : q_wr w p = q_rc d p := by
  have e : (p = 0 ∨ ∃ s q : Nat, s < 4 ∧ q_bsd p s = some q ∧ w q = nI 1) ↔ (p = 0 ∨ ∃ s q : Nat, s < 4 ∧ q_bsd p s = some q ∧ q_rn (q_op d (-1)) 40 q) := by
    constructor
    · rintro (h | ⟨s, q, h1, h2, h3⟩)
      · exact Or.inl h
      · exact Or.inr ⟨s, q, h1, h2, (hw q (q_bsd_lt hp h2)).mp h3⟩
    · rintro (h | ⟨s, q, h1, h2, h3⟩)
      · exact Or.inl h
      · exact Or.inr ⟨s, q, h1, h2, (hw q (q_bsd_lt hp h2)).mpr h3⟩
  have e2 := (q_wn_iff w p 4).trans e
  unfold q_wr q_rc
  cases hb : q_wn w p 4 with
  | true => exact (@decide_eq_true _ (Classical.propDecidable _) (e2.mp hb)).symm
  | false => exact (@decide_eq_false _ (Classical.propDecidable _) (fun z => by rw [e2.mpr z] at hb; cases hb)).symm
theorem q_ref_rc {d : RW} {y : Int32} {rc rc2 : Nat → Bool} {f : Int32} {p dep : Nat} (h : rc p = rc2 p) : q_ref d y rc f p dep = q_ref d y rc2 f p dep := by unfold q_ref; rw [h]
theorem q_rng {v : Int32} {a b : Nat} (ha : a < 2147483648) (hb : b < 2147483648) (h : nI a ≤ v ∧ v ≤ nI b) : ∃ n : Nat, a ≤ n ∧ n ≤ b ∧ v = nI n := by
  have h0 : ¬ v < 0 := by
    intro z
    have h1 := h.1
    rw [Int32.le_iff_toInt_le, nI_toInt ha] at h1
    rw [Int32.lt_iff_toInt_lt, Int32.toInt_zero] at z
    omega
  obtain ⟨n, hn, rfl⟩ := nI_of h0
  exact ⟨n, (nI_leI ha (by omega)).mp h.1, (nI_leI (by omega) hb).mp h.2, rfl⟩
/-- the number behind an argument -/
abbrev q_n (v : Int32) : Nat := v.toNatClampNeg
theorem q_n_nI {n : Nat} (h : n < 2147483648) : q_n (nI n) = n := nI_clamp h
abbrev q_isP (v : Int32) : Prop := nI 0 ≤ v ∧ v ≤ nI 39
abbrev q_isF (v : Int32) : Prop := nI 0 ≤ v ∧ v ≤ nI 9
/-- the codes: 0 where a call answers, else the exception's place in the throws clause -/
def k_lay (d : RW) (p kv : Int32) : Nat := if ¬ (nI 1 ≤ p ∧ p ≤ nI 39) then 1 else if ¬ (nI 0 ≤ kv ∧ kv ≤ nI 3) then 2 else if ¬ (q_bur d (q_n p) = 0 ∧ d 4 (q_n p) = -1 ∧ d 5 (q_n p) = -1) then 3 else 0
def k_pass (y v : Int32) : Nat := if ¬ (nI 1 ≤ v ∧ v ≤ nI 100) then 1 else if nI 2000 < y + v then 2 else 0
def k_par (f : Int32) : Nat := if ¬ q_isF f then 1 else 0
noncomputable def k_bury (d : RW) (y f p dep : Int32) : Nat := if ¬ (q_isF f ∧ q_isP p) then 1 else if ¬ (nI 1 ≤ dep ∧ dep ≤ nI 3) then 2 else if q_ref d y (q_rc d) f (q_n p) (q_n dep) ≠ nI 0 then 3 else 0
def k_res (d : RW) (y f p v : Int32) : Nat := if ¬ (q_isF f ∧ q_isP p) then 1 else if ¬ (nI 1 ≤ v ∧ v ≤ nI 50) then 2 else if ¬ (d 3 (q_n p) ≠ nI 3 ∧ d 4 (q_n p) = -1 ∧ ¬ q_oth (q_hold d y (q_n p)) f) then 3 else 0
noncomputable def k_vau (d : RW) (y f p : Int32) : Nat := if ¬ (q_isF f ∧ q_isP p) then 1 else if ¬ (d 3 (q_n p) ≠ nI 3 ∧ d 3 (q_n p) ≠ nI 2 ∧ d 4 (q_n p) = -1 ∧ q_bur d (q_n p) = 0 ∧ ¬ q_oth (q_hold d y (q_n p)) f ∧ q_rc d (q_n p) = true) then 2 else 0
def k_clr (d : RW) (y p : Int32) : Nat := if ¬ q_isP p then 1 else if 0 < q_rsn d y (q_n p) then 2 else 0
def k_app (len : Nat) (c : Int32) : Nat := if ¬ (nI 33 ≤ c ∧ c ≤ nI 126) then 1 else if len = 60 then 2 else 0
/-- what a call of the reference leaves: the code, z', the saved rows one more where it answers -/
def PM (dC : Nat → ClassId) (dI : Nat → Nat → Nat) (cI : ClassId) (o : Nat) (t : Nat → Nat) (z0 r0 t0 : Nat → Int32) (l0 : Int32) (n cd : Nat) (z' : Nat → Int32) (H : Heap) : Prop :=
  ∃ (A' : RW) (i' : Nat → Int32) (h' : Int64), va_P (dC, dI) vwCl (MW cI o t A' i' h') H ∧ A' 0 = z' ∧ A' 1 = (if cd = 0 then q_rs r0 z0 n else r0) ∧ i' 0 = nI (if cd = 0 then min (n + 1) 6 else n) ∧ A' 2 = t0 ∧ i' 1 = l0 ∧ i' 2 = nI cd
