/-! ways: what a walk from the gate finds -/
def q_s2 (A : RW) (w u : Nat → Int32) : RW := fun j => if j = 3 then w else if j = 4 then u else A j
abbrev q_op (d : RW) (b : Int32) (q : Nat) : Prop := nI q ≠ b ∧ (d 3 q = nI 3 ∨ q_bur d q = 0)
def q_rn (op : Nat → Prop) : Nat → Nat → Prop
  | 0, p => p = 0 ∧ op 0
  | n + 1, p => q_rn op n p ∨ (op p ∧ ∃ s q : Nat, s < 4 ∧ q_bsd p s = some q ∧ q_rn op n q)
theorem q_rn_mono {op : Nat → Prop} {p : Nat} : ∀ {n m : Nat}, n ≤ m → q_rn op n p → q_rn op m p := by
  intro n m h
  induction h with
  | refl => exact id
  | step _ ih => exact fun q => Or.inl (ih q)
theorem q_bsd_sym {p s q : Nat} (hp : p < 40) (hs : s < 4) (h : q_bsd p s = some q) : ∃ s2, s2 < 4 ∧ q_bsd q s2 = some p := by
  rcases (show s = 0 ∨ s = 1 ∨ s = 2 ∨ s = 3 by omega) with rfl | rfl | rfl | rfl
  · have h : (if p < 8 then none else some (p - 8)) = some q := h
    split at h
    · cases h
    · cases h
      refine ⟨2, by omega, ?_⟩
      show (if 31 < p - 8 then none else some (p - 8 + 8)) = some p
      rw [if_neg (by omega)]
      congr 1; omega
  · have h : (if p % 8 = 7 then none else some (p + 1)) = some q := h
    split at h
    · cases h
    · cases h
      refine ⟨3, by omega, ?_⟩
      show (if (p + 1) % 8 = 0 then none else some (p + 1 - 1)) = some p
      rw [if_neg (by omega)]
      congr 1
  · have h : (if 31 < p then none else some (p + 8)) = some q := h
    split at h
    · cases h
    · cases h
      refine ⟨0, by omega, ?_⟩
      show (if p + 8 < 8 then none else some (p + 8 - 8)) = some p
      rw [if_neg (by omega)]
      congr 1
  · have h : (if p % 8 = 0 then none else some (p - 1)) = some q := h
    split at h
    · cases h
    · cases h
      refine ⟨1, by omega, ?_⟩
      show (if (p - 1) % 8 = 7 then none else some (p - 1 + 1)) = some p
      rw [if_neg (by omega)]
      congr 1; omega
theorem q_cn_congr {P P' : Nat → Prop} [DecidablePred P] [DecidablePred P'] : ∀ n, (∀ k, k < n → (P k ↔ P' k)) → q_cn P n = q_cn P' n := by
  intro n
  induction n with
  | zero => intro _; rfl
  | succ n ih =>
    intro h
    show q_cn P n + _ = q_cn P' n + _
    rw [ih (fun k hk => h k (by omega))]
    by_cases hp : P n
    · rw [if_pos hp, if_pos ((h n (by omega)).mp hp)]
    · rw [if_neg hp, if_neg (fun z => hp ((h n (by omega)).mpr z))]
theorem q_cn_add {P P' : Nat → Prop} [DecidablePred P] [DecidablePred P'] {x : Nat} (hx : ¬ P x) (hx2 : P' x) (h : ∀ k, k ≠ x → (P k ↔ P' k)) : ∀ n, q_cn P' n = q_cn P n + (if x < n then 1 else 0) := by
  intro n
  induction n with
  | zero => rfl
  | succ n ih =>
    show q_cn P' n + _ = q_cn P n + _ + _
    rw [ih]
    by_cases e : n = x
    · subst e
      rw [if_pos hx2, if_neg hx, if_neg (Nat.lt_irrefl _), if_pos (Nat.lt_succ_self _)]
    · by_cases hp : P n
      · rw [if_pos hp, if_pos ((h n e).mp hp)]
        by_cases h1 : x < n
        · rw [if_pos h1, if_pos (by omega)]
        · rw [if_neg h1, if_neg (by omega)]
      · rw [if_neg hp, if_neg (fun z => hp ((h n e).mpr z))]
        by_cases h1 : x < n
        · rw [if_pos h1, if_pos (by omega)]
        · rw [if_neg h1, if_neg (by omega)]
theorem q_cn_lt {P : Nat → Prop} [DecidablePred P] {x : Nat} (hx : ¬ P x) : ∀ n, x < n → q_cn P n < n := by
  intro n
  induction n with
  | zero => intro h; omega
  | succ n ih =>
    intro h
    by_cases e : x = n
    · subst e
      rw [q_cn_f hx]
      have := q_cn_le P x
      omega
    · have := ih (by omega)
      show q_cn P n + _ < n + 1
      split <;> omega
theorem q_cn_0 {P : Nat → Prop} [DecidablePred P] : ∀ n, (∀ k, k < n → ¬ P k) → q_cn P n = 0 := by
  intro n
  induction n with
  | zero => intro _; rfl
  | succ n ih => intro h; rw [q_cn_f (h n (by omega))]; exact ih (fun k hk => h k (by omega))
/-- the walk so far: e plots in the queue u, marked in w -/
def q_I1 (op : Nat → Prop) (b : Int32) (e : Nat) (w u : Nat → Int32) : Prop :=
  (∀ j, j < e → ∃ q, q < 40 ∧ u j = nI q ∧ w q = nI 1 ∧ q_rn op j q) ∧ (∀ p, p < 40 → w p = nI 1 → op p ∧ ∃ j, j < e ∧ u j = nI p) ∧ (∀ p, p < 40 → w p = nI 1 ∨ w p = nI 0) ∧ q_cn (fun p => w p = nI 1) 40 = e ∧ (b ≠ 0 → w 0 = nI 1)
/-- the first k of the queue have no unmarked open plot beside them -/
def q_cl (op : Nat → Prop) (w u : Nat → Int32) (k : Nat) : Prop := ∀ j, j < k → ∀ q, q < 40 → u j = nI q → ∀ s, s < 4 → ∀ q2, q_bsd q s = some q2 → op q2 → w q2 = nI 1
theorem q_I1_le {op : Nat → Prop} {b : Int32} {e : Nat} {w u : Nat → Int32} (h : q_I1 op b e w u) : e ≤ 40 := by rw [← h.2.2.2.1]; exact q_cn_le _ _
theorem q_I1_add {op : Nat → Prop} {b : Int32} {e k q s q2 : Nat} {w u : Nat → Int32} (h : q_I1 op b e w u) (hk : k < e) (hq : q < 40) (hu : u k = nI q) (hr : q_rn op k q) (hs : s < 4) (hb : q_bsd q s = some q2) (ho : op q2) (hw : w q2 = nI 0) :
    e < 40 ∧ q_I1 op b (e + 1) (upd w q2 (nI 1)) (upd u e (nI q2)) := by
  have h2 : q2 < 40 := q_bsd_lt hq hb
  have hn : ¬ w q2 = nI 1 := by rw [hw]; decide
  have he : e < 40 := by rw [← h.2.2.2.1]; exact q_cn_lt (P := fun p => w p = nI 1) hn 40 h2
  have ks : ∀ p, p ≠ q2 → upd w q2 (nI 1) p = w p := fun p hp => if_neg hp
  have kt : upd w q2 (nI 1) q2 = nI 1 := if_pos rfl
  have us : ∀ j, j ≠ e → upd u e (nI q2) j = u j := fun j hj => if_neg hj
  have ut : upd u e (nI q2) e = nI q2 := if_pos rfl
  have wk : ∀ p, w p = nI 1 → upd w q2 (nI 1) p = nI 1 := by
    intro p hp
    by_cases e1 : p = q2
    · rw [e1]; exact kt
    · rw [ks p e1]; exact hp
  refine ⟨he, ?_, ?_, ?_, ?_, ?_⟩
  · intro j hj
    by_cases e1 : j = e
    · subst e1
      refine ⟨q2, h2, ut, kt, ?_⟩
      obtain ⟨s2, hs2, hb2⟩ := q_bsd_sym hq hs hb
      exact q_rn_mono (by omega : k + 1 ≤ j) (Or.inr ⟨ho, s2, q, hs2, hb2, hr⟩)
    · obtain ⟨q', a1, a2, a3, a4⟩ := h.1 j (by omega)
      exact ⟨q', a1, by rw [us j e1]; exact a2, wk _ a3, a4⟩
  · intro p hp hw1
    by_cases e1 : p = q2
    · subst e1
      exact ⟨ho, e, by omega, ut⟩
    · rw [ks p e1] at hw1
      obtain ⟨a1, j, a2, a3⟩ := h.2.1 p hp hw1
      exact ⟨a1, j, by omega, by rw [us j (by omega)]; exact a3⟩
  · intro p hp
    by_cases e1 : p = q2
    · rw [e1]; exact Or.inl kt
    · rw [ks p e1]; exact h.2.2.1 p hp
  · rw [q_cn_add (P := fun p => w p = nI 1) (P' := fun p => upd w q2 (nI 1) p = nI 1) (x := q2) hn kt (fun p hp => by rw [ks p hp]) 40, if_pos h2, h.2.2.2.1]
  · intro hb0
    exact wk 0 (h.2.2.2.2 hb0)
theorem q_cl_add {op : Nat → Prop} {b : Int32} {e k q2 : Nat} {w u : Nat → Int32} (hk : k ≤ e) (h : q_cl op w u k) : q_cl op (upd w q2 (nI 1)) (upd u e (nI q2)) k := by
  intro j hj q hq hu s hs q3 hb ho
  have us : upd u e (nI q2) j = u j := if_neg (by omega)
  rw [us] at hu
  have h1 := h j hj q hq hu s hs q3 hb ho
  by_cases e1 : q3 = q2
  · rw [e1]; exact if_pos rfl
  · exact (if_neg e1).trans h1
/-- the walk at its end -/
theorem q_I1_end {op : Nat → Prop} {b : Int32} {e : Nat} {w u : Nat → Int32} (h : q_I1 op b e w u) (hc : q_cl op w u e) (hb : op 0 → b ≠ 0) : ∀ p, p < 40 → (w p = nI 1 ↔ q_rn op 40 p) := by
  have key : ∀ n p, p < 40 → q_rn op n p → w p = nI 1 := by
    intro n
    induction n with
    | zero =>
      intro p hp hr
      rw [hr.1]
      exact h.2.2.2.2 (hb hr.2)
    | succ n ih =>
      intro p hp hr
      rcases hr with hr | ⟨ho, s, q, hs, hq, hr⟩
      · exact ih p hp hr
      · have hq40 := q_bsd_lt hp hq
        obtain ⟨-, j, hj, hu⟩ := h.2.1 q hq40 (ih q hq40 hr)
        obtain ⟨s2, hs2, hb2⟩ := q_bsd_sym hp hs hq
        exact hc j hj q hq40 hu s2 hs2 p hb2 ho
  intro p hp
  refine ⟨fun hw => ?_, fun hr => key 40 p hp hr⟩
  obtain ⟨-, j, hj, hu⟩ := h.2.1 p hp hw
  obtain ⟨q, hq, hu2, -, hr⟩ := h.1 j hj
  have e1 : q = p := (nI_eq (by omega) (by omega)).mp (hu2.symm.trans hu)
  subst e1
  have := q_I1_le h
  exact q_rn_mono (by omega) hr
theorem q_I1_0 {op : Nat → Prop} {b : Int32} {w u : Nat → Int32} (hw : ∀ p, p < 40 → w p = nI 0) (hb : b = 0) : q_I1 op b 0 w u := by
  have hn : ∀ p, p < 40 → ¬ w p = nI 1 := fun p hp => by rw [hw p hp]; decide
  exact ⟨fun j hj => absurd hj (Nat.not_lt_zero j), fun p hp h1 => absurd h1 (hn p hp), fun p hp => Or.inr (hw p hp), q_cn_0 40 hn, fun h => absurd hb h⟩
theorem q_I1_1 {op : Nat → Prop} {b : Int32} {w u : Nat → Int32} (hw : ∀ p, p < 40 → w p = nI 0) (ho : op 0) : q_I1 op b 1 (upd w 0 (nI 1)) (upd u 0 (nI 0)) := by
  have hn : ∀ p, p < 40 → ¬ w p = nI 1 := fun p hp => by rw [hw p hp]; decide
  have ks : ∀ p, p ≠ 0 → upd w 0 (nI 1) p = w p := fun p hp => if_neg hp
  have kt : upd w 0 (nI 1) 0 = nI 1 := if_pos rfl
  have ut : upd u 0 (nI 0) 0 = nI 0 := if_pos rfl
  refine ⟨?_, ?_, ?_, ?_, fun _ => kt⟩
  · intro j hj
    obtain rfl : j = 0 := by omega
    exact ⟨0, by omega, ut, kt, rfl, ho⟩
  · intro p hp h1
    by_cases e1 : p = 0
    · subst e1; exact ⟨ho, 0, by omega, ut⟩
    · rw [ks p e1] at h1; exact absurd h1 (hn p hp)
  · intro p hp
    by_cases e1 : p = 0
    · subst e1; exact Or.inl kt
    · rw [ks p e1]; exact Or.inr (hw p hp)
  · rw [q_cn_add (P := fun p => w p = nI 1) (P' := fun p => upd w 0 (nI 1) p = nI 1) (x := 0) (hn 0 (by omega)) kt (fun p hp => by rw [ks p hp]) 40, q_cn_0 40 hn]
    rfl
theorem q_cl_rn {op : Nat → Prop} {b : Int32} {e k q : Nat} {w u : Nat → Int32} (h : q_I1 op b e w u) (hk : k < e) (hq : q < 40) (hu : u k = nI q) : q_rn op k q := by
  obtain ⟨q', a1, a2, -, a4⟩ := h.1 k hk
  have e1 : q' = q := (nI_eq (by omega) (by omega)).mp (a2.symm.trans hu)
  rw [← e1]; exact a4
/-- the rows A with the row j put in place -/
def q_s1 (A : RW) (j : Nat) (f : Nat → Int32) : RW := fun k => if k = j then f else A k
def q_r1 (r : Nat → Int32) (k : Nat) : Nat → Int32 := fun x => if x < k then r (551 + x) else r x
def q_r2 (r z : Nat → Int32) (n k : Nat) : Nat → Int32 := fun x => if 551 * n ≤ x ∧ x < 551 * n + k then z (x - 551 * n) else r x
theorem q_r1_s (r : Nat → Int32) (k : Nat) : upd (q_r1 r k) k (r (551 + k)) = q_r1 r (k + 1) := by
  funext x
  show (if x = k then r (551 + k) else if x < k then r (551 + x) else r x) = if x < k + 1 then r (551 + x) else r x
  by_cases h : x = k
  · subst h; rw [if_pos rfl, if_pos (by omega)]
  · rw [if_neg h]
    by_cases h2 : x < k
    · rw [if_pos h2, if_pos (by omega)]
    · rw [if_neg h2, if_neg (by omega)]
theorem q_r2_s (r z : Nat → Int32) (n k : Nat) : upd (q_r2 r z n k) (551 * n + k) (z k) = q_r2 r z n (k + 1) := by
  funext x
  show (if x = 551 * n + k then z k else if 551 * n ≤ x ∧ x < 551 * n + k then z (x - 551 * n) else r x) = if 551 * n ≤ x ∧ x < 551 * n + (k + 1) then z (x - 551 * n) else r x
  by_cases h : x = 551 * n + k
  · subst h; rw [if_pos rfl, if_pos (by omega), show 551 * n + k - 551 * n = k by omega]
  · rw [if_neg h]
    by_cases h2 : 551 * n ≤ x ∧ x < 551 * n + k
    · rw [if_pos h2, if_pos (by omega)]
    · rw [if_neg h2, if_neg (by omega)]
theorem q_r1_0 (r : Nat → Int32) : q_r1 r 0 = r := by funext x; exact if_neg (Nat.not_lt_zero x)
theorem q_r2_0 (r z : Nat → Int32) (n : Nat) : q_r2 r z n 0 = r := by funext x; exact if_neg (by omega)
/-- the saved rows r with one more, z; n of them were saved -/
def q_rs (r z : Nat → Int32) (n : Nat) : Nat → Int32 := if n = 6 then q_r2 (q_r1 r 2755) z 5 551 else q_r2 r z n 551
