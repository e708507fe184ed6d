/-- an entry: reserves, family, plot, number -/
abbrev QE : Type := Nat × Nat × Nat × Nat
def q_en (x : PS) : QE := (x.2.1, x.2.2.1, x.2.2.2.1.getD 0, x.2.2.2.2)
/-- what a reader holds after k of a text's codes, and the entries that it has closed -/
def q_rd (tx : Nat → Nat) : Nat → Option (PS × List QE)
  | 0 => some ((0, 0, 0, none, 0), [])
  | k + 1 => match q_rd tx k with
    | none => none
    | some (x, E) => match q_take x (tx k) with
      | none => none
      | some x' => some (x', if x'.1 = 0 then E ++ [q_en x] else E)
/-- how many codes are taken -/
def q_ft (tx : Nat → Nat) : Nat → Nat
  | 0 => 0
  | k + 1 => if (q_rd tx (k + 1)).isSome then k + 1 else q_ft tx k
theorem q_rd_none {tx : Nat → Nat} {k : Nat} (h : q_rd tx k = none) : ∀ n, k ≤ n → q_rd tx n = none := by
  intro n
  induction n with
  | zero => intro hk; obtain rfl : k = 0 := by omega
            exact h
  | succ n ih =>
    intro hk
    by_cases e : k = n + 1
    · subst e; exact h
    · show (match q_rd tx n with | none => none | some (x, E) => _) = none
      rw [ih (by omega)]
theorem q_ft_some {tx : Nat → Nat} {k : Nat} {z : PS × List QE} (h : q_rd tx k = some z) : q_ft tx k = k := by
  cases k with
  | zero => rfl
  | succ k => exact if_pos (by rw [h]; rfl)
theorem q_ft_none {tx : Nat → Nat} {k : Nat} {z : PS × List QE} (h : q_rd tx k = some z) (h1 : q_rd tx (k + 1) = none) : ∀ n, k ≤ n → q_ft tx n = k := by
  intro n
  induction n with
  | zero => intro hk; obtain rfl : k = 0 := by omega
            rfl
  | succ n ih =>
    intro hk
    by_cases e : k = n + 1
    · subst e; exact q_ft_some h
    · show (if (q_rd tx (n + 1)).isSome then n + 1 else q_ft tx n) = k
      rw [q_rd_none h1 (n + 1) (by omega), if_neg (by simp)]
      exact ih (by omega)
def q_ps (x : PS) : Nat := match x.1 with
  | 0 => 0
  | 1 => 1
  | 2 => 2
  | 3 => if x.2.2.2.1 = none then 3 else 4
  | _ => if x.2.2.2.2 = 0 then 5 else 6

theorem PSr_mk {st rs fm nm : Nat} {pl : Option Nat} (h0 : 1 ≤ st) (h1 : st ≤ 4) (h2 : rs ≤ 1) (h3 : fm ≤ 9) (h4 : ∀ b, pl = some b → b < 40) (h5 : nm ≤ 50) (p1 : st ≤ 2 → pl = none) (p2 : st ≤ 3 → nm = 0) (p3 : st = 4 → ∃ w, pl = some w) (p5 : rs = 0 → nm ≤ 3) : PSr (st, rs, fm, pl, nm) :=
  ⟨⟨h1, h2, h3, h4, h5⟩, p1, p2, p3, fun z => absurd (show st = 0 from z) (by omega), p5⟩
def TKo (x x' : PS) : Prop := (x'.1 = 0 ∧ x' = (0, 0, 0, none, 0) ∧ x.1 = 4 ∧ 0 < x.2.2.2.2 ∧ q_ps x = 6) ∨ (x'.1 ≠ 0 ∧ PSr x' ∧ q_ps x' ≤ q_ps x + 1)
theorem q_take_inv {x x' : PS} {c : Nat} (hx : PSr x) (h : q_take x c = some x') : TKo x x' := by
  obtain ⟨⟨h1, h2, h3, h4, h5⟩, p1, p2, p3, p4, p5⟩ := hx
  obtain ⟨st, rs, fm, pl, nm⟩ := x
  simp only at h1 h2 h3 h4 h5 p1 p2 p3 p4 p5
  rcases (show st = 0 ∨ st = 1 ∨ st = 2 ∨ st = 3 ∨ st = 4 by omega) with rfl | rfl | rfl | rfl | rfl
  · have h : q_tL (0, rs, fm, pl, nm) c = some x' := h
    rw [p4 rfl] at h ⊢
    unfold q_tL at h
    split at h
    · cases h
      exact Or.inr ⟨Nat.succ_ne_zero _, PSr_mk (by omega) (by omega) (by split <;> omega) (by omega) (fun b hb => by cases hb) (by omega) (fun _ => rfl) (fun _ => rfl) (fun z => absurd z (by decide)) (fun _ => by omega), Nat.le_refl _⟩
    · cases h
  · have h : q_tF (1, rs, fm, pl, nm) c = some x' := h
    obtain rfl := p1 (by omega)
    obtain rfl := p2 (by omega)
    unfold q_tF at h
    split at h
    · cases h
      exact Or.inr ⟨Nat.succ_ne_zero _, PSr_mk (by omega) (by omega) h2 (by omega) (fun b hb => by cases hb) (by omega) (fun _ => rfl) (fun _ => rfl) (fun z => absurd z (by decide)) (fun _ => by omega), Nat.le_refl _⟩
    · cases h
  · have h : q_tC (2, rs, fm, pl, nm) c = some x' := h
    obtain rfl := p1 (by omega)
    obtain rfl := p2 (by omega)
    unfold q_tC at h
    split at h
    · cases h
      exact Or.inr ⟨Nat.succ_ne_zero _, PSr_mk (by omega) (by omega) h2 (by omega) (fun b hb => by cases hb) (by omega) (fun _ => rfl) (fun _ => rfl) (fun z => absurd z (by decide)) (fun _ => by omega), Nat.le_refl _⟩
    · cases h
  · have h : q_tP (3, rs, fm, pl, nm) c = some x' := h
    obtain rfl := p2 (by omega)
    unfold q_tP at h
    dsimp only at h
    split at h
    · rename_i hc
      cases h
      have ho : ∃ w, pl = some w := by cases pl with | none => exact absurd rfl hc.2 | some w => exact ⟨w, rfl⟩
      obtain ⟨w, rfl⟩ := ho
      exact Or.inr ⟨Nat.succ_ne_zero _, PSr_mk (by omega) (by omega) h2 h3 h4 (by omega) (fun z => absurd z (by decide)) (fun _ => rfl) (fun _ => ⟨w, rfl⟩) (fun _ => by omega), Nat.le_refl _⟩
    · split at h
      · cases h
      · split at h
        · rename_i hl
          cases h
          refine Or.inr ⟨Nat.succ_ne_zero _, PSr_mk (by omega) (by omega) h2 h3 (fun b hb => by cases hb; exact hl) (by omega) (fun z => absurd z (by decide)) (fun _ => rfl) (fun z => absurd z (by decide)) (fun _ => by omega), ?_⟩
          show 4 ≤ (if pl = none then 3 else 4) + 1
          split <;> omega
        · cases h
  · have h : q_tN (4, rs, fm, pl, nm) c = some x' := h
    unfold q_tN at h
    dsimp only at h
    split at h
    · rename_i hc
      cases h
      exact Or.inl ⟨rfl, rfl, rfl, hc.2, if_neg (by show ¬ nm = 0; omega)⟩
    · split at h
      · cases h
      · by_cases hl : 1 ≤ 10 * nm + c - 48 ∧ 10 * nm + c - 48 ≤ (if rs = 0 then 3 else 50)
        · rw [if_pos hl] at h
          cases h
          refine Or.inr ⟨Nat.succ_ne_zero _, PSr_mk (by omega) (by omega) h2 h3 h4 (by split at hl <;> omega) (fun z => absurd z (by decide)) (fun z => absurd z (by decide)) p3 (fun z => by rw [if_pos z] at hl; omega), ?_⟩
          show (if _ then 5 else 6) ≤ (if _ then 5 else 6) + 1
          split <;> split <;> omega
        · rw [if_neg hl] at h
          cases h

def QEok (e : QE) : Prop := e.1 ≤ 1 ∧ e.2.1 ≤ 9 ∧ e.2.2.1 < 40 ∧ 1 ≤ e.2.2.2 ∧ e.2.2.2 ≤ 50 ∧ (e.1 = 0 → e.2.2.2 ≤ 3)
theorem q_en_ok {x : PS} (h : PSr x) (h4 : x.1 = 4) (h0 : 0 < x.2.2.2.2) : QEok (q_en x) ∧ x.2.2.2.1 = some (q_en x).2.2.1 := by
  obtain ⟨⟨h1, h2, h3, h5, h6⟩, p1, p2, p3, p4, p5⟩ := h
  obtain ⟨w, hw⟩ := p3 h4
  have e : (q_en x).2.2.1 = w := by show x.2.2.2.1.getD 0 = w; rw [hw]; rfl
  exact ⟨⟨h2, h3, by rw [e]; exact h5 w hw, h0, h6, p5⟩, by rw [e]; exact hw⟩
theorem q_rd_ok {tx : Nat → Nat} : ∀ (k : Nat) (x : PS) (E : List QE), q_rd tx k = some (x, E) → PSr x ∧ 7 * E.length + q_ps x ≤ k ∧ ∀ e ∈ E, QEok e := by
  intro k
  induction k with
  | zero => intro x E h; cases h; exact ⟨PSr_0, Nat.le_refl _, fun e he => nomatch he⟩
  | succ k ih =>
    intro x E h
    unfold q_rd at h
    split at h
    · cases h
    · rename_i x0 E0 h0
      split at h
      · cases h
      · rename_i x1 h1
        obtain ⟨a1, a2, a3⟩ := ih x0 E0 h0
        cases h
        rcases q_take_inv a1 h1 with ⟨b1, b2, b3, b4, b5⟩ | ⟨b1, b2, b3⟩
        · rw [if_pos b1]
          refine ⟨by rw [b2]; exact PSr_0, ?_, fun e he => ?_⟩
          · rw [List.length_append, b2]
            show 7 * (E0.length + 1) + 0 ≤ k + 1
            omega
          · rcases List.mem_append.mp he with he | he
            · exact a3 e he
            · rw [List.mem_singleton.mp he]; exact (q_en_ok a1 b3 b4).1
        · rw [if_neg b1]
          exact ⟨b2, by omega, a3⟩
def ENA (E : List QE) (A : RW) : Prop := ∀ (j : Nat) (e : QE), E[j]? = some e → A 5 j = nI e.1 ∧ A 6 j = nI e.2.1 ∧ A 7 j = nI e.2.2.1 ∧ A 8 j = nI e.2.2.2
def RDI (A : RW) (i : Nat → Int32) (x : PS) (E : List QE) (m : Nat) : Prop := m = E.length + (if x.1 = 0 then 0 else 1) ∧ PRr x A m ∧ i 4 = nI m ∧ ENA E A
theorem ENA_add {x : PS} {E : List QE} {A : RW} {m : Nat} (hx : PSr x) (h4 : x.1 = 4) (h0 : 0 < x.2.2.2.2) (hm : m = E.length + 1) (hr : PRr x A m) (h : ENA E A) : ENA (E ++ [q_en x]) A := by
  intro j e he
  by_cases hj : j < E.length
  · rw [List.getElem?_append_left hj] at he
    exact h j e he
  · rw [List.getElem?_append_right (by omega)] at he
    have hl := (List.getElem?_eq_some_iff.mp he).1
    have hj2 : j = m - 1 := by simp at hl; omega
    rw [show j - E.length = 0 by simp at hl; omega] at he
    cases he
    subst hj2
    obtain ⟨r1, r2, r3, r4⟩ := hr
    exact ⟨(r1 (by omega)).2, r2 (by omega), r3 _ (q_en_ok hx h4 h0).2, r4 h0⟩
theorem RDI_step {A A9 : RW} {i i9 : Nat → Int32} {x x' : PS} {E : List QE} {m c : Nat} (hx : PSr x) (h : RDI A i x E m) (ht : q_take x c = some x') (hb : ∀ j k, k < q_mb x m → A9 j k = A j k) (hq : PRr x' A9 (q_ma x m) ∧ i9 4 = nI (q_ma x m) ∧ (x'.1 = 0 → A9 = A)) : RDI A9 i9 x' (if x'.1 = 0 then E ++ [q_en x] else E) (q_ma x m) := by
  obtain ⟨h1, h2, h3, h4⟩ := h
  obtain ⟨q1, q2, q3⟩ := hq
  rcases q_take_inv hx ht with ⟨b1, b2, b3, b4, b5⟩ | ⟨b1, b2, b3⟩
  · rw [if_pos b1]
    have hm : m = E.length + 1 := by rw [h1, if_neg (by omega)]
    have ha : q_ma x m = m := if_neg (by omega)
    refine ⟨?_, q1, q2, ?_⟩
    · rw [ha, if_pos b1, List.length_append]; exact hm
    · rw [q3 b1]; exact ENA_add hx b3 b4 hm h2 h4
  · rw [if_neg b1]
    refine ⟨?_, q1, q2, fun j e he => ?_⟩
    · rw [if_neg b1]
      unfold q_ma
      by_cases h0 : x.1 = 0
      · rw [if_pos h0]; rw [if_pos h0] at h1; omega
      · rw [if_neg h0]; rw [if_neg h0] at h1; omega
    · have hj : j < E.length := (List.getElem?_eq_some_iff.mp he).1
      have hk : j < q_mb x m := by
        unfold q_mb
        by_cases h0 : x.1 = 0
        · rw [if_pos h0]; rw [if_pos h0] at h1; omega
        · rw [if_neg h0]; rw [if_neg h0] at h1; omega
      obtain ⟨g1, g2, g3, g4⟩ := h4 j e he
      exact ⟨(hb 5 j hk).trans g1, (hb 6 j hk).trans g2, (hb 7 j hk).trans g3, (hb 8 j hk).trans g4⟩
/-- the entries of a complete list -/
def q_whole (tx : Nat → Nat) (len : Nat) : Option (List QE) := match q_rd tx len with
  | none => none
  | some (x, E) => if x.1 = 4 ∧ 0 < x.2.2.2.2 then some (E ++ [q_en x]) else none
theorem q_whole_ok {tx : Nat → Nat} {len : Nat} {L : List QE} (hl : len ≤ 60) (h : q_whole tx len = some L) : L.length ≤ 12 ∧ ∀ e ∈ L, QEok e := by
  unfold q_whole at h
  split at h
  · cases h
  · rename_i x E h0
    split at h
    · rename_i hc
      obtain ⟨a1, a2, a3⟩ := q_rd_ok len x E h0
      cases h
      refine ⟨by rw [List.length_append]; show E.length + 1 ≤ 12; omega, fun e he => ?_⟩
      rcases List.mem_append.mp he with he | he
      · exact a3 e he
      · rw [List.mem_singleton.mp he]; exact (q_en_ok a1 hc.1 hc.2).1
    · cases h
theorem q_so_le {x : PS} : q_so x ≤ 8 := by unfold q_so; repeat' split
                                            all_goals omega
theorem q_so_6 {x : PS} (hx : PSr x) : 6 < q_so x ↔ (x.1 = 4 ∧ 0 < x.2.2.2.2) := by
  have h1 : x.1 ≤ 4 := hx.1.1
  unfold q_so
  split
  · rename_i h; rw [h]; omega
  · rename_i h; rw [h]; omega
  · rename_i h; rw [h]; omega
  · rename_i h
    rw [h]
    split
    · omega
    · split <;> omega
  · rename_i g0 g1 g2 g3
    have h4 : x.1 = 4 := by
      have : x.1 ≠ 0 := g0
      have : x.1 ≠ 1 := g1
      have : x.1 ≠ 2 := g2
      have : x.1 ≠ 3 := g3
      omega
    split
    · omega
    · split <;> omega
theorem q_nr_ne {x x' : PS} {c : Nat} (h : q_take x c = some x') : q_nr x c = nI (q_so x') := by unfold q_nr; rw [h]
theorem q_nr_some {x : PS} {c : Nat} (h : q_nr x c ≠ -1) : ∃ x', q_take x c = some x' := by
  cases hq : q_take x c with
  | none => exact absurd (q_nr_no hq).symm h
  | some x' => exact ⟨x', rfl⟩
theorem q_nr_none {x : PS} {c : Nat} (h : q_nr x c = -1) : q_take x c = none := by
  cases hq : q_take x c with
  | none => rfl
  | some x' =>
    rw [q_nr_ne hq] at h
    have h1 : (nI (q_so x')).toInt = (-1 : Int32).toInt := congrArg Int32.toInt h
    have h2 : q_so x' ≤ 8 := q_so_le
    rw [nI_toInt (by omega)] at h1
    exact absurd h1 (by rw [show (-1 : Int32).toInt = -1 from rfl]; omega)
theorem q_rd_s {tx : Nat → Nat} {k : Nat} {x x' : PS} {E : List QE} (h : q_rd tx k = some (x, E)) (ht : q_take x (tx k) = some x') : q_rd tx (k + 1) = some (x', if x'.1 = 0 then E ++ [q_en x] else E) := by
  show (match q_rd tx k with | none => none | some (x, E) => (match q_take x (tx k) with | none => none | some x' => some (x', if x'.1 = 0 then E ++ [q_en x] else E))) = _
  rw [h]
  show (match q_take x (tx k) with | none => none | some x' => some (x', if x'.1 = 0 then E ++ [q_en x] else E)) = _
  rw [ht]
theorem q_rd_n {tx : Nat → Nat} {k : Nat} {x : PS} {E : List QE} (h : q_rd tx k = some (x, E)) (ht : q_take x (tx k) = none) : q_rd tx (k + 1) = none := by
  show (match q_rd tx k with | none => none | some (x, E) => (match q_take x (tx k) with | none => none | some x' => some (x', if x'.1 = 0 then E ++ [q_en x] else E))) = _
  rw [h]
  show (match q_take x (tx k) with | none => none | some x' => some (x', if x'.1 = 0 then E ++ [q_en x] else E)) = _
  rw [ht]
/-- what read leaves -/
def PRD (dC : Nat → ClassId) (dI : Nat → Nat → Nat) (cI : ClassId) (o : Nat) (t : Nat → Nat) (h : Int64) (A : RW) (i : Nat → Int32) (tx : Nat → Nat) (len : Nat) (H : Heap) : Prop :=
  ∃ (A9 : RW) (i9 : Nat → Int32), va_P (dC, dI) vwCl (MW cI o t A9 i9 h) H ∧ (∀ j, j ≤ 4 → A9 j = A j) ∧ (∀ k, k ≠ 4 → k ≠ 5 → i9 k = i k) ∧
    (∀ L, q_whole tx len = some L → i9 5 = nI 1 ∧ i9 4 = nI L.length ∧ ENA L A9) ∧ (q_whole tx len = none → i9 5 = nI 0)
theorem PRD_no {dC : Nat → ClassId} {dI : Nat → Nat → Nat} {cI : ClassId} {o : Nat} {t : Nat → Nat} {h : Int64} {A A9 : RW} {i i9 : Nat → Int32} {tx : Nat → Nat} {len k : Nat} {H : Heap} (hP : va_P (dC, dI) vwCl (MW cI o t A9 i9 h) H) (ha : ∀ j, j ≤ 4 → A9 j = A j) (hi : ∀ k, k ≠ 4 → k ≠ 5 → i9 k = i k) (h5 : i9 5 = nI 0) (hk : k < len) (hn : q_rd tx (k + 1) = none) : PRD dC dI cI o t h A i tx len H := by
  have e : q_whole tx len = none := by unfold q_whole; rw [q_rd_none hn len (by omega)]
  exact ⟨A9, i9, hP, ha, hi, fun L hL => by rw [e] at hL; (cases hL), fun _ => h5⟩
theorem PRD_ok {dC : Nat → ClassId} {dI : Nat → Nat → Nat} {cI : ClassId} {o : Nat} {t : Nat → Nat} {h : Int64} {A A9 : RW} {i i9 : Nat → Int32} {tx : Nat → Nat} {len m : Nat} {x : PS} {E : List QE} {H : Heap} (hP : va_P (dC, dI) vwCl (MW cI o t A9 (upd i9 5 (nI (if 6 < q_so x then 1 else 0))) h) H) (ha : ∀ j, j ≤ 4 → A9 j = A j) (hi : ∀ k, k ≠ 4 → k ≠ 5 → i9 k = i k) (hr : q_rd tx len = some (x, E)) (hR : RDI A9 i9 x E m) : PRD dC dI cI o t h A i tx len H := by
  have hx := (q_rd_ok len x E hr).1
  refine ⟨A9, _, hP, ha, fun k h4 h5 => (if_neg h5).trans (hi k h4 h5), fun L hL => ?_, fun hL => ?_⟩
  · unfold q_whole at hL
    rw [hr] at hL
    by_cases hc : x.1 = 4 ∧ 0 < x.2.2.2.2
    · have hL : (if x.1 = 4 ∧ 0 < x.2.2.2.2 then some (E ++ [q_en x]) else none) = some L := hL
      rw [if_pos hc] at hL
      cases hL
      obtain ⟨r1, r2, r3, r4⟩ := hR
      rw [if_neg (by omega)] at r1
      refine ⟨upd_at.trans (by rw [if_pos ((q_so_6 hx).mpr hc)]), ?_, ENA_add hx hc.1 hc.2 r1 r2 r4⟩
      show i9 4 = _
      rw [r3, r1, List.length_append]
      rfl
    · have hL : (if x.1 = 4 ∧ 0 < x.2.2.2.2 then some (E ++ [q_en x]) else none) = some L := hL
      rw [if_neg hc] at hL
      cases hL
  · unfold q_whole at hL
    rw [hr] at hL
    have hL : (if x.1 = 4 ∧ 0 < x.2.2.2.2 then some (E ++ [q_en x]) else none) = none := hL
    by_cases hc : x.1 = 4 ∧ 0 < x.2.2.2.2
    · rw [if_pos hc] at hL; cases hL
    · exact upd_at.trans (by rw [if_neg (fun z => hc ((q_so_6 hx).mp z))])
