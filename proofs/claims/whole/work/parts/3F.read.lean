/-- an entry: reserves, family, plot, number -/
abbrev QE : Type := Nat × Nat × Nat × Nat
def q_en (x : PS) : QE := (x.2.1, x.2.2.1, x.2.2.2.1.getD 0, x.2.2.2.2)
/-- what a reader holds after k of a text's codes, and the entries that it has closed -/
def q_rd (tx : Nat → Nat) : Nat → Option (PS × List QE)
  | 0 => some ((0, 0, 0, none, 0), [])
  | k + 1 => match q_rd tx k with
    | none => none
    | some (x, E) => match q_take x (tx k) with
      | none => none
      | some x' => some (x', if x'.1 = 0 then E ++ [q_en x] else E)
/-- how many codes are taken -/
def q_ft (tx : Nat → Nat) : Nat → Nat
  | 0 => 0
  | k + 1 => if (q_rd tx (k + 1)).isSome then k + 1 else q_ft tx k
theorem q_rd_none {tx : Nat → Nat} {k : Nat} (h : q_rd tx k = none) : ∀ n, k ≤ n → q_rd tx n = none := by
  intro n
  induction n with
  | zero => intro hk; obtain rfl : k = 0 := by omega
            exact h
  | succ n ih =>
    intro hk
    by_cases e : k = n + 1
    · subst e; exact h
    · show (match q_rd tx n with | none => none | some (x, E) => _) = none
      rw [ih (by omega)]
theorem q_ft_some {tx : Nat → Nat} {k : Nat} {z : PS × List QE} (h : q_rd tx k = some z) : q_ft tx k = k := by
  cases k with
  | zero => rfl
  | succ k => exact if_pos (by rw [h]; rfl)
theorem q_ft_none {tx : Nat → Nat} {k : Nat} {z : PS × List QE} (h : q_rd tx k = some z) (h1 : q_rd tx (k + 1) = none) : ∀ n, k ≤ n → q_ft tx n = k := by
  intro n
  induction n with
  | zero => intro hk; obtain rfl : k = 0 := by omega
            rfl
  | succ n ih =>
    intro hk
    by_cases e : k = n + 1
    · subst e; exact q_ft_some h
    · show (if (q_rd tx (n + 1)).isSome then n + 1 else q_ft tx n) = k
      rw [q_rd_none h1 (n + 1) (by omega), if_neg (by simp)]
      exact ih (by omega)
def q_ps (x : PS) : Nat := match x.1 with
  | 0 => 0
  | 1 => 1
  | 2 => 2
  | 3 => if x.2.2.2.1 = none then 3 else 4
  | _ => if x.2.2.2.2 = 0 then 5 else 6

theorem PSr_mk {st rs fm nm : Nat} {pl : Option Nat} (h0 : 1 ≤ st) (h1 : st ≤ 4) (h2 : rs ≤ 1) (h3 : fm ≤ 9) (h4 : ∀ b, pl = some b → b < 40) (h5 : nm ≤ 50) (p1 : st ≤ 2 → pl = none) (p2 : st ≤ 3 → nm = 0) (p3 : st = 4 → ∃ w, pl = some w) (p5 : rs = 0 → nm ≤ 3) : PSr (st, rs, fm, pl, nm) :=
  ⟨⟨h1, h2, h3, h4, h5⟩, p1, p2, p3, fun z => absurd (show st = 0 from z) (by omega), p5⟩
def TKo (x x' : PS) : Prop := (x'.1 = 0 ∧ x' = (0, 0, 0, none, 0) ∧ x.1 = 4 ∧ 0 < x.2.2.2.2 ∧ q_ps x = 6) ∨ (x'.1 ≠ 0 ∧ PSr x' ∧ q_ps x' ≤ q_ps x + 1)
theorem q_take_inv {x x' : PS} {c : Nat} (hx : PSr x) (h : q_take x c = some x') : TKo x x' := by
  obtain ⟨⟨h1, h2, h3, h4, h5⟩, p1, p2, p3, p4, p5⟩ := hx
  obtain ⟨st, rs, fm, pl, nm⟩ := x
  simp only at h1 h2 h3 h4 h5 p1 p2 p3 p4 p5
  rcases (show st = 0 ∨ st = 1 ∨ st = 2 ∨ st = 3 ∨ st = 4 by omega) with rfl | rfl | rfl | rfl | rfl
  · have h : q_tL (0, rs, fm, pl, nm) c = some x' := h
    rw [p4 rfl] at h ⊢
    unfold q_tL at h
    split at h
    · cases h
      exact Or.inr ⟨Nat.succ_ne_zero _, PSr_mk (by omega) (by omega) (by split <;> omega) (by omega) (fun b hb => by cases hb) (by omega) (fun _ => rfl) (fun _ => rfl) (fun z => absurd z (by decide)) (fun _ => by omega), Nat.le_refl _⟩
    · cases h
  · have h : q_tF (1, rs, fm, pl, nm) c = some x' := h
    obtain rfl := p1 (by omega)
    obtain rfl := p2 (by omega)
    unfold q_tF at h
    split at h
    · cases h
      exact Or.inr ⟨Nat.succ_ne_zero _, PSr_mk (by omega) (by omega) h2 (by omega) (fun b hb => by cases hb) (by omega) (fun _ => rfl) (fun _ => rfl) (fun z => absurd z (by decide)) (fun _ => by omega), Nat.le_refl _⟩
    · cases h
  · have h : q_tC (2, rs, fm, pl, nm) c = some x' := h
    obtain rfl := p1 (by omega)
    obtain rfl := p2 (by omega)
    unfold q_tC at h
    split at h
    · cases h
      exact Or.inr ⟨Nat.succ_ne_zero _, PSr_mk (by omega) (by omega) h2 (by omega) (fun b hb => by cases hb) (by omega) (fun _ => rfl) (fun _ => rfl) (fun z => absurd z (by decide)) (fun _ => by omega), Nat.le_refl _⟩
    · cases h
  · have h : q_tP (3, rs, fm, pl, nm) c = some x' := h
    obtain rfl := p2 (by omega)
    unfold q_tP at h
    dsimp only at h
    split at h
    · rename_i hc
      cases h
      have ho : ∃ w, pl = some w := by cases pl with | none => exact absurd rfl hc.2 | some w => exact ⟨w, rfl⟩
      obtain ⟨w, rfl⟩ := ho
      exact Or.inr ⟨Nat.succ_ne_zero _, PSr_mk (by omega) (by omega) h2 h3 h4 (by omega) (fun z => absurd z (by decide)) (fun _ => rfl) (fun _ => ⟨w, rfl⟩) (fun _ => by omega), Nat.le_refl _⟩
    · split at h
      · cases h
      · split at h
        · rename_i hl
          cases h
          refine Or.inr ⟨Nat.succ_ne_zero _, PSr_mk (by omega) (by omega) h2 h3 (fun b hb => by cases hb; exact hl) (by omega) (fun z => absurd z (by decide)) (fun _ => rfl) (fun z => absurd z (by decide)) (fun _ => by omega), ?_⟩
          show 4 ≤ (if pl = none then 3 else 4) + 1
          split <;> omega
        · cases h
  · have h : q_tN (4, rs, fm, pl, nm) c = some x' := h
    unfold q_tN at h
    dsimp only at h
    split at h
    · rename_i hc
      cases h
      exact Or.inl ⟨rfl, rfl, rfl, hc.2, if_neg (by show ¬ nm = 0; omega)⟩
    · split at h
      · cases h
      · by_cases hl : 1 ≤ 10 * nm + c - 48 ∧ 10 * nm + c - 48 ≤ (if rs = 0 then 3 else 50)
        · rw [if_pos hl] at h
          cases h
          refine Or.inr ⟨Nat.succ_ne_zero _, PSr_mk (by omega) (by omega) h2 h3 h4 (by split at hl <;> omega) (fun z => absurd z (by decide)) (fun z => absurd z (by decide)) p3 (fun z => by rw [if_pos z] at hl; omega), ?_⟩
          show (if _ then 5 else 6) ≤ (if _ then 5 else 6) + 1
          split <;> split <;> omega
        · rw [if_neg hl] at h
          cases h

def QEok (e : QE) : Prop := e.1 ≤ 1 ∧ e.2.1 ≤ 9 ∧ e.2.2.1 < 40 ∧ 1 ≤ e.2.2.2 ∧ e.2.2.2 ≤ 50 ∧ (e.1 = 0 → e.2.2.2 ≤ 3)
theorem q_en_ok {x : PS} (h : PSr x) (h4 : x.1 = 4) (h0 : 0 < x.2.2.2.2) : QEok (q_en x) ∧ x.2.2.2.1 = some (q_en x).2.2.1 := by
  obtain ⟨⟨h1, h2, h3, h5, h6⟩, p1, p2, p3, p4, p5⟩ := h
  obtain ⟨w, hw⟩ := p3 h4
  have e : (q_en x).2.2.1 = w := by show x.2.2.2.1.getD 0 = w; rw [hw]; rfl
  exact ⟨⟨h2, h3, by rw [e]; exact h5 w hw, h0, h6, p5⟩, by rw [e]; exact hw⟩
theorem q_rd_ok {tx : Nat → Nat} : ∀ (k : Nat) (x : PS) (E : List QE), q_rd tx k = some (x, E) → PSr x ∧ 7 * E.length + q_ps x ≤ k ∧ ∀ e ∈ E, QEok e := by
  intro k
  induction k with
  | zero => intro x E h; cases h; exact ⟨PSr_0, Nat.le_refl _, fun e he => nomatch he⟩
  | succ k ih =>
    intro x E h
    unfold q_rd at h
    split at h
    · cases h
    · rename_i x0 E0 h0
      split at h
      · cases h
      · rename_i x1 h1
        obtain ⟨a1, a2, a3⟩ := ih x0 E0 h0
        cases h
        rcases q_take_inv a1 h1 with ⟨b1, b2, b3, b4, b5⟩ | ⟨b1, b2, b3⟩
        · rw [if_pos b1]
          refine ⟨by rw [b2]; exact PSr_0, ?_, fun e he => ?_⟩
          · rw [List.length_append, b2]
            show 7 * (E0.length + 1) + 0 ≤ k + 1
            omega
          · rcases List.mem_append.mp he with he | he
            · exact a3 e he
            · rw [List.mem_singleton.mp he]; exact (q_en_ok a1 b3 b4).1
        · rw [if_neg b1]
          exact ⟨b2, by omega, a3⟩
def ENA (E : List QE) (A : RW) : Prop := ∀ (j : Nat) (e : QE), E[j]? = some e → A 5 j = nI e.1 ∧ A 6 j = nI e.2.1 ∧ A 7 j = nI e.2.2.1 ∧ A 8 j = nI e.2.2.2
def RDI (A : RW) (i : Nat → Int32) (x : PS) (E : List QE) (m : Nat) : Prop := m = E.length + (if x.1 = 0 then 0 else 1) ∧ PRr x A m ∧ i 4 = nI m ∧ ENA E A
theorem ENA_add {x : PS} {E : List QE} {A : RW} {m : Nat} (hx : PSr x) (h4 : x.1 = 4) (h0 : 0 < x.2.2.2.2) (hm : m = E.length + 1) (hr : PRr x A m) (h : ENA E A) : ENA (E ++ [q_en x]) A := by
  intro j e he
  by_cases hj : j < E.length
  · rw [List.getElem?_append_left hj] at he
    exact h j e he
  · rw [List.getElem?_append_right (by omega)] at he
    have hl := (List.getElem?_eq_some_iff.mp he).1
    have hj2 : j = m - 1 := by simp at hl; omega
    rw [show j - E.length = 0 by simp at hl; omega] at he
    cases he
    subst hj2
    obtain ⟨r1, r2, r3, r4⟩ := hr
    exact ⟨(r1 (by omega)).2, r2 (by omega), r3 _ (q_en_ok hx h4 h0).2, r4 h0⟩
theorem RDI_step {A A9 : RW} {i i9 : Nat → Int32} {x x' : PS} {E : List QE} {m c : Nat} (hx : PSr x) (h : RDI A i x E m) (ht : q_take x c = some x') (hb : ∀ j k, k < q_mb x m → A9 j k = A j k) (hq : PRr x' A9 (q_ma x m) ∧ i9 4 = nI (q_ma x m) ∧ (x'.1 = 0 → A9 = A)) : RDI A9 i9 x' (if x'.1 = 0 then E ++ [q_en x] else E) (q_ma x m) := by
  obtain ⟨h1, h2, h3, h4⟩ := h
  obtain ⟨q1, q2, q3⟩ := hq
  rcases q_take_inv hx ht with ⟨b1, b2, b3, b4, b5⟩ | ⟨b1, b2, b3⟩
  · rw [if_pos b1]
    have hm : m = E.length + 1 := by rw [h1, if_neg (by omega)]
    have ha : q_ma x m = m := if_neg (by omega)
    refine ⟨?_, q1, q2, ?_⟩
    · rw [ha, if_pos b1, List.length_append]; exact hm
    · rw [q3 b1]; exact ENA_add hx b3 b4 hm h2 h4
  · rw [if_neg b1]
    refine ⟨?_, q1, q2, fun j e he => ?_⟩
    · rw [if_neg b1]
      unfold q_ma
      by_cases h0 : x.1 = 0
      · rw [if_pos h0]; rw [if_pos h0] at h1; omega
      · rw [if_neg h0]; rw [if_neg h0] at h1; omega
    · have hj : j < E.length := (List.getElem?_eq_some_iff.mp he).1
      have hk : j < q_mb x m := by
        unfold q_mb
        by_cases h0 : x.1 = 0
        · rw [if_pos h0]; rw [if_pos h0] at h1; omega
        · rw [if_neg h0]; rw [if_neg h0] at h1; omega
      obtain ⟨g1, g2, g3, g4⟩ := h4 j e he
      exact ⟨(hb 5 j hk).trans g1, (hb 6 j hk).trans g2, (hb 7 j hk).trans g3, (hb 8 j hk).trans g4⟩
/-- the entries of a complete list -/
def q_whole (tx : Nat → Nat) (len : Nat) : Option (List QE) := match q_rd tx len with
  | none => none
  | some (x, E) => if x.1 = 4 ∧ 0 < x.2.2.2.2 then some (E ++ [q_en x]) else none
theorem q_whole_ok {tx : Nat → Nat} {len : Nat} {L : List QE} (hl : len ≤ 60) (h : q_whole tx len = some L) : L.length ≤ 12 ∧ ∀ e ∈ L, QEok e := by
  unfold q_whole at h
  split at h
  · cases h
  · rename_i x E h0
    split at h
    · rename_i hc
      obtain ⟨a1, a2, a3⟩ := q_rd_ok len x E h0
      cases h
      refine ⟨by rw [List.length_append]; show E.length + 1 ≤ 12; omega, fun e he => ?_⟩
      rcases List.mem_append.mp he with he | he
      · exact a3 e he
      · rw [List.mem_singleton.mp he]; exact (q_en_ok a1 hc.1 hc.2).1
    · cases h
theorem q_so_le {x : PS} : q_so x ≤ 8 := by unfold q_so; repeat' split
                                            all_goals omega
theorem q_so_6 {x : PS} (hx : PSr x) : 6 < q_so x ↔ (x.1 = 4 ∧ 0 < x.2.2.2.2) := by
  have h1 : x.1 ≤ 4 := hx.1.1
  unfold q_so
  split
  · rename_i h; rw [h]; omega
  · rename_i h; rw [h]; omega
  · rename_i h; rw [h]; omega
  · rename_i h
    rw [h]
    split
    · omega
    · split <;> omega
  · rename_i g0 g1 g2 g3
    have h4 : x.1 = 4 := by
      have : x.1 ≠ 0 := g0
      have : x.1 ≠ 1 := g1
      have : x.1 ≠ 2 := g2
      have : x.1 ≠ 3 := g3
      omega
    split
    · omega
    · split <;> omega
theorem q_nr_ne {x x' : PS} {c : Nat} (h : q_take x c = some x') : q_nr x c = nI (q_so x') := by unfold q_nr; rw [h]
theorem q_nr_some {x : PS} {c : Nat} (h : q_nr x c ≠ -1) : ∃ x', q_take x c = some x' := by
  cases hq : q_take x c with
  | none => exact absurd (q_nr_no hq).symm h
  | some x' => exact ⟨x', rfl⟩
theorem q_nr_none {x : PS} {c : Nat} (h : q_nr x c = -1) : q_take x c = none := by
  cases hq : q_take x c with
  | none => rfl
  | some x' =>
    rw [q_nr_ne hq] at h
    have h1 : (nI (q_so x')).toInt = (-1 : Int32).toInt := congrArg Int32.toInt h
    have h2 : q_so x' ≤ 8 := q_so_le
    rw [nI_toInt (by omega)] at h1
    exact absurd h1 (by rw [show (-1 : Int32).toInt = -1 from rfl]; omega)
theorem q_rd_s {tx : Nat → Nat} {k : Nat} {x x' : PS} {E : List QE} (h : q_rd tx k = some (x, E)) (ht : q_take x (tx k) = some x') : q_rd tx (k + 1) = some (x', if x'.1 = 0 then E ++ [q_en x] else E) := by
  show (match q_rd tx k with | none => none | some (x, E) => (match q_take x (tx k) with | none => none | some x' => some (x', if x'.1 = 0 then E ++ [q_en x] else E))) = _
  rw [h]
  show (match q_take x (tx k) with | none => none | some x' => some (x', if x'.1 = 0 then E ++ [q_en x] else E)) = _
  rw [ht]
theorem q_rd_n {tx : Nat → Nat} {k : Nat} {x : PS} {E : List QE} (h : q_rd tx k = some (x, E)) (ht : q_take x (tx k) = none) : q_rd tx (k + 1) = none := by
  show (match q_rd tx k with | none => none | some (x, E) => (match q_take x (tx k) with | none => none | some x' => some (x', if x'.1 = 0 then E ++ [q_en x] else E))) = _
  rw [h]
  show (match q_take x (tx k) with | none => none | some x' => some (x', if x'.1 = 0 then E ++ [q_en x] else E)) = _
  rw [ht]
/-- what read leaves -/
def PRD (dC : Nat → ClassId) (dI : Nat → Nat → Nat) (cI : ClassId) (o : Nat) (t : Nat → Nat) (h : Int64) (A : RW) (i : Nat → Int32) (tx : Nat → Nat) (len : Nat) (H : Heap) : Prop :=
  ∃ (A9 : RW) (i9 : Nat → Int32), va_P (dC, dI) vwCl (MW cI o t A9 i9 h) H ∧ (∀ j, j ≤ 4 → A9 j = A j) ∧ (∀ k, k ≠ 4 → k ≠ 5 → i9 k = i k) ∧
    (∀ L, q_whole tx len = some L → i9 5 = nI 1 ∧ i9 4 = nI L.length ∧ ENA L A9) ∧ (q_whole tx len = none → i9 5 = nI 0)
theorem PRD_no {dC : Nat → ClassId} {dI : Nat → Nat → Nat} {cI : ClassId} {o : Nat} {t : Nat → Nat} {h : Int64} {A A9 : RW} {i i9 : Nat → Int32} {tx : Nat → Nat} {len k : Nat} {H : Heap} (hP : va_P (dC, dI) vwCl (MW cI o t A9 i9 h) H) (ha : ∀ j, j ≤ 4 → A9 j = A j) (hi : ∀ k, k ≠ 4 → k ≠ 5 → i9 k = i k) (h5 : i9 5 = nI 0) (hk : k < len) (hn : q_rd tx (k + 1) = none) : PRD dC dI cI o t h A i tx len H := by
  have e : q_whole tx len = none := by unfold q_whole; rw [q_rd_none hn len (by omega)]
  exact ⟨A9, i9, hP, ha, hi, fun L hL => by rw [e] at hL; (cases hL), fun _ => h5⟩
theorem PRD_ok {dC : Nat → ClassId} {dI : Nat → Nat → Nat} {cI : ClassId} {o : Nat} {t : Nat → Nat} {h : Int64} {A A9 : RW} {i i9 : Nat → Int32} {tx : Nat → Nat} {len m : Nat} {x : PS} {E : List QE} {H : Heap} (hP : va_P (dC, dI) vwCl (MW cI o t A9 (upd i9 5 (nI (if 6 < q_so x then 1 else 0))) h) H) (ha : ∀ j, j ≤ 4 → A9 j = A j) (hi : ∀ k, k ≠ 4 → k ≠ 5 → i9 k = i k) (hr : q_rd tx len = some (x, E)) (hR : RDI A9 i9 x E m) : PRD dC dI cI o t h A i tx len H := by
  have hx := (q_rd_ok len x E hr).1
  refine ⟨A9, _, hP, ha, fun k h4 h5 => (if_neg h5).trans (hi k h4 h5), fun L hL => ?_, fun hL => ?_⟩
  · unfold q_whole at hL
    rw [hr] at hL
    by_cases hc : x.1 = 4 ∧ 0 < x.2.2.2.2
    · have hL : (if x.1 = 4 ∧ 0 < x.2.2.2.2 then some (E ++ [q_en x]) else none) = some L := hL
      rw [if_pos hc] at hL
      cases hL
      obtain ⟨r1, r2, r3, r4⟩ := hR
      rw [if_neg (by omega)] at r1
      refine ⟨upd_at.trans (by rw [if_pos ((q_so_6 hx).mpr hc)]), ?_, ENA_add hx hc.1 hc.2 r1 r2 r4⟩
      show i9 4 = _
      rw [r3, r1, List.length_append]
      rfl
    · have hL : (if x.1 = 4 ∧ 0 < x.2.2.2.2 then some (E ++ [q_en x]) else none) = some L := hL
      rw [if_neg hc] at hL
      cases hL
  · unfold q_whole at hL
    rw [hr] at hL
    have hL : (if x.1 = 4 ∧ 0 < x.2.2.2.2 then some (E ++ [q_en x]) else none) = none := hL
    by_cases hc : x.1 = 4 ∧ 0 < x.2.2.2.2
    · rw [if_pos hc] at hL; cases hL
    · exact upd_at.trans (by rw [if_neg (fun z => hc ((q_so_6 hx).mp z))])

set_option maxHeartbeats 4000000 in
set_option maxRecDepth 100000 in
theorem c_X3_read {l : Launch} {dC : Nat → ClassId} {dI : Nat → Nat → Nat} {cI cL cJ : ClassId} {o : Nat} {t : Nat → Nat} {A : RW} {i : Nat → Int32} {h : Int64} {tx : Nat → Nat} {len : Nat} (hl : len ≤ 60) (hlen : i 1 = nI len) (htx : ∀ j, j < len → A 2 j = nI (tx j) ∧ 33 ≤ tx j ∧ tx j ≤ 126) : Met l yX3_read (.code yX3_read cX3_read 4 (some .int) :: WG) (rmL 2) (va_Pc [.ref o] (MDM dC dI cI cL cJ o t A i h)) (bq_M (some (.int (nI (q_ft tx len)))) (PRD dC dI cI o t h A i tx len) (fun q => q ∈ MA o t)) 0 0 ((fun q => q ∈ MA o t)) := by
  refine bq_of [some (.ref o), none, none, none] rfl rfl (Nat.le_of_ble_eq_true rfl) (by decide) ?_
  intro P_ E_ s M_ B_ T_ K_ C hv
  obtain ⟨hP, hD, hK⟩ := hv
  have hS : va_S (fun q => q ∈ MA o t) s.heap s.heap [] := va_S.rf
  refine g_aload0 C dX3_read_0 ?_
  refine g_iconst C (nI 0) (by decide) dX3_read_1 ?_
  refine g_put (ci := 3) (T := TX3) (N := 16) C inX3 tyX3 tyX3_ok nmX3 hK hP hD hS 0 rfl rfl 9 (by decide) wf_X3_133 ⟨rfl, rfl, rfl⟩ rfl rfl rfl (Nat.le_of_ble_eq_true rfl) dX3_read_2 (fun H locs hP hD hS => ?_)
  have hP : va_P (dC, dI) vwCl (MW cI o t (A) (upd i 4 (nI 0)) (h)) H := hP
  have hD : va_D (fun q => q ∈ MA o t) (MW cI o t (A) (upd i 4 (nI 0)) (h)) := hD.fst rfl
  refine g_iconst C (nI 0) (by decide) dX3_read_5 ?_
  refine g_istore1 C rfl dX3_read_6 ?_
  refine g_iconst C (nI 0) (by decide) dX3_read_7 ?_
  refine g_istore2 C rfl dX3_read_8 ?_
  refine g_aload0 C dX3_read_9 ?_
  refine g_iconst C (nI 0) (by decide) dX3_read_10 ?_
  refine g_put (ci := 3) (T := TX3) (N := 16) C inX3 tyX3 tyX3_ok nmX3 hK hP hD hS 0 rfl rfl 14 (by decide) wf_X3_136 ⟨rfl, rfl, rfl⟩ rfl rfl rfl (Nat.le_of_ble_eq_true rfl) dX3_read_11 (fun H locs hP hD hS => ?_)
  have hP : va_P (dC, dI) vwCl (MW cI o t (A) (upd (upd i 4 (nI 0)) 5 (nI 0)) (h)) H := hP
  have hD : va_D (fun q => q ∈ MA o t) (MW cI o t (A) (upd (upd i 4 (nI 0)) 5 (nI 0)) (h)) := hD.fst rfl
  refine g_lpH (A1 := RW × (Nat → Int32) × PS × List QE × Nat × Nat) (fun a H locs => a.2.2.2.2.2 ≤ len ∧ q_rd tx a.2.2.2.2.2 = some (a.2.2.1, a.2.2.2.1) ∧ RDI a.1 a.2.1 a.2.2.1 a.2.2.2.1 a.2.2.2.2.1 ∧ (∀ j, j ≤ 4 → a.1 j = A j) ∧ (∀ q, q ≠ 4 → q ≠ 5 → a.2.1 q = i q) ∧ a.2.1 5 = nI 0 ∧ va_P (dC, dI) vwCl (MW cI o t a.1 a.2.1 h) H ∧ va_D (fun q => q ∈ MA o t) (MW cI o t a.1 a.2.1 h) ∧ va_S (fun q => q ∈ MA o t) s.heap H locs) (fun a => len - a.2.2.2.2.2) (fun a => [some (.ref o), some (.int (nI (q_so a.2.2.1))), some (.int (nI a.2.2.2.2.2)), none]) (A, upd (upd i 4 (nI 0)) 5 (nI 0), (0, 0, 0, none, 0), [], 0, 0) ⟨Nat.zero_le _, rfl, ⟨rfl, PRr_0, rfl, fun j e he => by simp at he⟩, fun _ _ => rfl, fun q h4 h5 => (if_neg h5).trans (if_neg h4), rfl, hP, hD, hS⟩ rfl ?_
  rintro ⟨A2, i2, x, E, m, k⟩ H locs ⟨hk, hrd, hR, ha2, hi2, h52, hP, hD, hS⟩ ih
  try dsimp only at hk hrd hR ha2 hi2 h52 hP hD hS ih ⊢
  have hso : q_so x ≤ 8 := q_so_le
  have hxo := q_rd_ok k x E hrd
  have hm : m ≤ 11 := by have h1 := hR.1; have h2 := hxo.2.1; split at h1 <;> omega
  refine g_iload2 C dX3_read_14 ?_
  refine g_aload0 C dX3_read_15 ?_
  refine g_get (ci := 3) (T := TX3) (N := 16) C inX3 hK hP 0 rfl rfl 4 (by decide) wf_X3_130 ⟨rfl, rfl, rfl⟩ rfl dX3_read_16 ?_
  rw [show i2 1 = nI len from (hi2 1 (by decide) (by decide)).trans hlen]
  refine g_icmp_geN C (by omega) (by omega) 49 dX3_read_19 (by decide) (fun h19 => ?_) (fun h19 => ?_)
  · obtain rfl : k = len := by omega
    refine g_aload0 C dX3_read_49 ?_
    refine g_iload1 C dX3_read_50 ?_
    refine g_bipush C (nI 6) (by decide) dX3_read_51 ?_
    refine g_d2 (v := nI (if 6 < q_so x then 1 else 0)) 61 (fun K53 => ?_) ?_
    · skip
      refine g_icmp_leN C (by omega) (by omega) 60 dX3_read_53 (by decide) (fun h53 => ?_) (fun h53 => ?_)
      · refine g_iconst C (nI 0) (by decide) dX3_read_60 ?_
        exact K53 _ (by rw [if_neg (by omega)])
      · refine g_iconst C (nI 1) (by decide) dX3_read_56 ?_
        refine g_goto C 61 dX3_read_57 (by decide) ?_
        exact K53 _ (by rw [if_pos (by omega)])
    refine g_put (ci := 3) (T := TX3) (N := 16) C inX3 tyX3 tyX3_ok nmX3 hK hP hD hS 0 rfl rfl 14 (by decide) wf_X3_136 ⟨rfl, rfl, rfl⟩ rfl (nb_z _) (nb_f _) (Nat.le_of_ble_eq_true rfl) dX3_read_61 (fun H locs hP hD hS => ?_)
    have hP : va_P (dC, dI) vwCl (MW cI o t (A2) (upd i2 5 (nI (if 6 < q_so x then 1 else 0))) (h)) H := hP
    have hD : va_D (fun q => q ∈ MA o t) (MW cI o t (A2) (upd i2 5 (nI (if 6 < q_so x then 1 else 0))) (h)) := hD.fst rfl
    refine g_iload2 C dX3_read_64 ?_
    exact g_iretM C (PRD_ok hP ha2 hi2 hrd hR) hS (congrArg nI (q_ft_some hrd).symm) dX3_read_65
  · refine g_aload0 C dX3_read_22 ?_
    refine g_iload1 C dX3_read_23 ?_
    refine g_aload0 C dX3_read_24 ?_
    refine g_get (ci := 3) (T := TX3) (N := 16) C inX3 hK hP 0 rfl rfl 3 (by decide) wf_X3_16 ⟨rfl, rfl, rfl⟩ rfl dX3_read_25 ?_
    refine g_iload2 C dX3_read_28 ?_
    refine g_iald C hK hP 3 0 rfl rfl (by omega) (by decide) dX3_read_29 ?_
    have htk := htx k (by omega)
    rw [show A2 2 k = nI (tx k) from (congrFun (ha2 2 (by decide)) k).trans htk.1]
    refine g_mV (As := [.int (nI (q_so x)), .int (nI (tx k))]) C 2 rfl (c_X3_next hxo.1 rfl hR.2.1 hm hR.2.2.1 htk.2.1 htk.2.2) wl_X3_140 wi_X3_next wv_X3_next wn_X3 wc_X3_next (by decide +kernel) ⟨rfl, rfl, by decide, by decide⟩ MDM_bl (va_recv (ci := 3) (q0 := 0) hK hP rfl rfl) (MDM_at hK hP hD) rfl rfl (by simp [Value.category]) ⟨by decide, by decide⟩ hS (fun _ h => h) dX3_read_30 (fun H locs hP _ _ hS => ?_)
    obtain ⟨A9, i9, hP, ha9, hi9, hb9, hx9⟩ := hP
    have hD : va_D (fun q => q ∈ MA o t) (MW cI o t A9 i9 h) := MW_D hD
    refine g_istore3 C rfl dX3_read_33 ?_
    refine g_iload3 C dX3_read_34 ?_
    refine g_iconst C (-1) (by decide) dX3_read_35 ?_
    refine g_icmp_ne C 41 dX3_read_36 (by decide) (fun h36 => ?_) (fun h36 => ?_)
    · obtain ⟨x2, hq⟩ := q_nr_some h36
      refine g_iload3 C dX3_read_41 ?_
      refine g_istore1 C rfl dX3_read_42 ?_
      refine g_iinc2 C _ rfl dX3_read_43 (nI_1 _) ?_
      refine g_goto C 14 dX3_read_46 (by decide) ?_
      refine g_fg3 ?_
      rw [q_nr_ne hq]
      exact ih (A9, i9, x2, _, q_ma x m, k + 1) H locs ⟨by show k + 1 ≤ len; omega, q_rd_s hrd hq, RDI_step hxo.1 hR hq hb9 (hx9 x2 hq), fun j hj => (ha9 j hj).trans (ha2 j hj), fun q h4 h5 => (hi9 q h4).trans (hi2 q h4 h5), (hi9 5 (by decide)).trans h52, hP, hD, hS⟩ (by show len - (k + 1) < len - k; omega)
    · have hq := q_nr_none (by first | exact h36 | exact Classical.byContradiction h36)
      refine g_iload2 C dX3_read_39 ?_
      rw [show (nI k) = nI (q_ft tx len) from congrArg nI (q_ft_none hrd (q_rd_n hrd hq) len (by omega)).symm]
      exact g_iretM C (PRD_no hP (fun j hj => (ha9 j hj).trans (ha2 j hj)) (fun q h4 h5 => (hi9 q h4).trans (hi2 q h4 h5)) ((hi9 5 (by decide)).trans h52) (by omega) (q_rd_n hrd hq)) hS rfl dX3_read_40

set_option maxHeartbeats 4000000 in
set_option maxRecDepth 100000 in
theorem c_X3_firstError {l : Launch} {dC : Nat → ClassId} {dI : Nat → Nat → Nat} {cI cL cJ : ClassId} {o : Nat} {t : Nat → Nat} {A : RW} {i : Nat → Int32} {h : Int64} {tx : Nat → Nat} {len : Nat} (hl : len ≤ 60) (hlen : i 1 = nI len) (htx : ∀ j, j < len → A 2 j = nI (tx j) ∧ 33 ≤ tx j ∧ tx j ≤ 126) : Met l yX3_firstError (.code yX3_firstError cX3_firstError 1 (some .int) :: WG) (rmL 3) (va_Pc [.ref o] (MDM dC dI cI cL cJ o t A i h)) (bq_M (some (.int (nI (q_ft tx len)))) (fun H => ∃ (A9 : RW) (i9 : Nat → Int32), va_P (dC, dI) vwCl (MW cI o t A9 i9 h) H ∧ A9 0 = A 0 ∧ A9 1 = A 1 ∧ A9 2 = A 2 ∧ i9 0 = i 0 ∧ i9 1 = i 1 ∧ i9 2 = nI 0) (fun q => q ∈ MA o t)) 0 0 ((fun q => q ∈ MA o t)) := by
  refine bq_of [some (.ref o)] rfl rfl (Nat.le_of_ble_eq_true rfl) (by decide) ?_
  intro P_ E_ s M_ B_ T_ K_ C hv
  obtain ⟨hP, hD, hK⟩ := hv
  have hS : va_S (fun q => q ∈ MA o t) s.heap s.heap [] := va_S.rf
  refine g_aload0 C dX3_firstError_0 ?_
  refine g_iconst C (nI 0) (by decide) dX3_firstError_1 ?_
  refine g_put (ci := 3) (T := TX3) (N := 16) C inX3 tyX3 tyX3_ok nmX3 hK hP hD hS 0 rfl rfl 5 (by decide) wf_X3_37 ⟨rfl, rfl, rfl⟩ rfl rfl rfl (Nat.le_of_ble_eq_true rfl) dX3_firstError_2 (fun H locs hP hD hS => ?_)
  have hP : va_P (dC, dI) vwCl (MW cI o t (A) (upd i 2 (nI 0)) (h)) H := hP
  have hD : va_D (fun q => q ∈ MA o t) (MW cI o t (A) (upd i 2 (nI 0)) (h)) := hD.fst rfl
  refine g_aload0 C dX3_firstError_5 ?_
  refine g_mV (As := []) C 0 rfl (c_X3_read (i := upd i 2 (nI 0)) hl hlen htx) wl_X3_143 wi_X3_read wv_X3_read wn_X3 wc_X3_read (by decide +kernel) ⟨rfl, rfl, by decide, by decide⟩ MDM_bl (va_recv (ci := 3) (q0 := 0) hK hP rfl rfl) (MDM_at hK hP hD) rfl rfl (by simp [Value.category]) ⟨by decide, by decide⟩ hS (fun _ h => h) dX3_firstError_6 (fun H locs hP _ _ hS => ?_)
  obtain ⟨A9, i9, hP, ha9, hi9, -, -⟩ := hP
  exact g_iretM C ⟨A9, i9, hP, ha9 0 (by decide), ha9 1 (by decide), ha9 2 (by decide), hi9 0 (by decide) (by decide), hi9 1 (by decide) (by decide), hi9 2 (by decide) (by decide)⟩ hS rfl dX3_firstError_9
