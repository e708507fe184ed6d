theorem q_s1_le {A : RW} {r : Nat} {f : Nat → Int32} (hr : 5 ≤ r) : ∀ j, j ≤ 4 → q_s1 A r f j = A j := fun j hj => if_neg (by omega)
theorem q_s1_ne {A : RW} {r j : Nat} {f : Nat → Int32} (h : j ≠ r) : q_s1 A r f j = A j := if_neg h
theorem q_s1_at {A : RW} {r : Nat} {f : Nat → Int32} : q_s1 A r f r = f := if_pos rfl
theorem upd_at {f : Nat → Int32} {k : Nat} {v : Int32} : upd f k v k = v := if_pos rfl
theorem q_s1_below {A : RW} {r n k0 : Nat} {v : Int32} (h : n ≤ k0) : ∀ j k, k < n → q_s1 A r (upd (A r) k0 v) j k = A j k := by
  intro j k hk
  by_cases e : j = r
  · subst e
    rw [q_s1_at]
    exact if_neg (by omega)
  · rw [q_s1_ne e]
def q_ma (x : PS) (m : Nat) : Nat := if x.1 = 0 then m + 1 else m
def q_mb (x : PS) (m : Nat) : Nat := if x.1 = 0 then m else m - 1
def PN (dC : Nat → ClassId) (dI : Nat → Nat → Nat) (cI : ClassId) (o : Nat) (t : Nat → Nat) (h : Int64) (A : RW) (i : Nat → Int32) (x : PS) (m c : Nat) (H : Heap) : Prop :=
  ∃ (A9 : RW) (i9 : Nat → Int32), va_P (dC, dI) vwCl (MW cI o t A9 i9 h) H ∧ (∀ j, j ≤ 4 → A9 j = A j) ∧ (∀ k, k ≠ 4 → i9 k = i k) ∧ (∀ j k, k < q_mb x m → A9 j k = A j k) ∧
    ∀ x', q_take x c = some x' → PRr x' A9 (q_ma x m) ∧ i9 4 = nI (q_ma x m) ∧ (x'.1 = 0 → A9 = A)
theorem q_d2_iff {c k : Nat} (h1 : 33 ≤ c) (h2 : c ≤ 126) (hk : k ≤ 9) : (nI 1 ≤ nI c - nI 48 ∧ nI c - nI 48 ≤ nI k) ↔ (49 ≤ c ∧ c ≤ 48 + k) := by
  have e : (nI c - nI 48).toInt = (c : Int) - 48 := pk_sub_toInt (by omega) (by decide)
  rw [Int32.le_iff_toInt_le, Int32.le_iff_toInt_le, e, nI_toInt (by decide), nI_toInt (by omega)]
  omega
theorem q_d3_iff {c : Nat} (h1 : 33 ≤ c) (h2 : c ≤ 126) : (nI 1 ≤ nI c - nI 48 ∧ nI c - nI 48 ≤ nI 3) ↔ (49 ≤ c ∧ c ≤ 51) := q_d2_iff h1 h2 (by decide)
theorem PN_no {dC : Nat → ClassId} {dI : Nat → Nat → Nat} {cI : ClassId} {o : Nat} {t : Nat → Nat} {h : Int64} {A : RW} {i : Nat → Int32} {x : PS} {m c : Nat} {H : Heap} (hP : va_P (dC, dI) vwCl (MW cI o t A i h) H) (hq : q_take x c = none) : PN dC dI cI o t h A i x m c H :=
  ⟨A, i, hP, fun _ _ => rfl, fun _ _ => rfl, fun _ _ _ => rfl, fun x' h9 => by rw [hq] at h9; cases h9⟩
theorem PN_no1 {dC : Nat → ClassId} {dI : Nat → Nat → Nat} {cI : ClassId} {o : Nat} {t : Nat → Nat} {h : Int64} {A : RW} {i : Nat → Int32} {x : PS} {m c r : Nat} {v : Int32} {H : Heap} (hP : va_P (dC, dI) vwCl (MW cI o t (q_s1 A r (upd (A r) (m - 1) v)) i h) H) (hr : 5 ≤ r) (h1 : x.1 ≠ 0) (hq : q_take x c = none) : PN dC dI cI o t h A i x m c H :=
  ⟨_, i, hP, q_s1_le hr, fun _ _ => rfl, q_s1_below (by unfold q_mb; rw [if_neg h1]; exact Nat.le_refl _), fun x' h9 => by rw [hq] at h9; cases h9⟩
theorem PN_ok {dC : Nat → ClassId} {dI : Nat → Nat → Nat} {cI : ClassId} {o : Nat} {t : Nat → Nat} {h : Int64} {A : RW} {i : Nat → Int32} {x x9 : PS} {m c : Nat} {H : Heap} (hP : va_P (dC, dI) vwCl (MW cI o t A i h) H) (hq : q_take x c = some x9) (h1 : x.1 ≠ 0) (h4 : i 4 = nI m) (hr : PRr x9 A m) : PN dC dI cI o t h A i x m c H :=
  ⟨A, i, hP, fun _ _ => rfl, fun _ _ => rfl, fun _ _ _ => rfl, fun x' h9 => by
    rw [hq] at h9
    cases h9
    unfold q_ma
    rw [if_neg h1]
    exact ⟨hr, h4, fun _ => rfl⟩⟩
theorem PN_ok1 {dC : Nat → ClassId} {dI : Nat → Nat → Nat} {cI : ClassId} {o : Nat} {t : Nat → Nat} {h : Int64} {A : RW} {i : Nat → Int32} {x x9 : PS} {m c r : Nat} {v : Int32} {H : Heap} (hP : va_P (dC, dI) vwCl (MW cI o t (q_s1 A r (upd (A r) (m - 1) v)) i h) H) (hr5 : 5 ≤ r) (hq : q_take x c = some x9) (h1 : x.1 ≠ 0) (h9 : x9.1 ≠ 0) (h4 : i 4 = nI m) (hr : PRr x9 (q_s1 A r (upd (A r) (m - 1) v)) m) : PN dC dI cI o t h A i x m c H :=
  ⟨_, i, hP, q_s1_le hr5, fun _ _ => rfl, q_s1_below (by unfold q_mb; rw [if_neg h1]; exact Nat.le_refl _), fun x' h8 => by
    rw [hq] at h8
    cases h8
    unfold q_ma
    rw [if_neg h1]
    exact ⟨hr, h4, fun z => absurd z h9⟩⟩
theorem PN_new {dC : Nat → ClassId} {dI : Nat → Nat → Nat} {cI : ClassId} {o : Nat} {t : Nat → Nat} {h : Int64} {A : RW} {i : Nat → Int32} {m c rs : Nat} {v : Int32} {H : Heap} (hP : va_P (dC, dI) vwCl (MW cI o t (q_s1 A 5 (upd (A 5) m v)) (upd i 4 (nI (m + 1))) h) H) (hq : q_take (0, 0, 0, none, 0) c = some (1, rs, 0, none, 0)) (hv : v = nI rs) : PN dC dI cI o t h A i (0, 0, 0, none, 0) m c H :=
  ⟨_, _, hP, q_s1_le (Nat.le_refl _), fun k hk => if_neg hk, q_s1_below (Nat.le_refl _), fun x' h8 => by
    rw [hq] at h8
    cases h8
    refine ⟨⟨fun _ => ⟨by show 1 ≤ m + 1; omega, ?_⟩, fun z => absurd z (by decide : ¬ 2 ≤ 1), fun w z => (by cases z), fun z => absurd z (by decide : ¬ 0 < 0)⟩, upd_at, fun z => absurd z (by decide : ¬ (1 : Nat) = 0)⟩
    show q_s1 A 5 (upd (A 5) m v) 5 m = nI rs
    rw [q_s1_at, upd_at, hv]⟩
theorem PRr_who {A : RW} {m rs fm v : Nat} (h : PRr (1, rs, fm, none, 0) A m) : PRr (2, rs, v, none, 0) (q_s1 A 6 (upd (A 6) (m - 1) (nI v))) m :=
  ⟨fun _ => h.1 (Nat.le_of_ble_eq_true rfl), fun _ => upd_at, fun w z => (by cases z), fun z => absurd z (by decide : ¬ 0 < 0)⟩
theorem PRr_col {A : RW} {m rs fm : Nat} (h : PRr (2, rs, fm, none, 0) A m) : PRr (3, rs, fm, none, 0) A m :=
  ⟨fun _ => h.1 (Nat.le_of_ble_eq_true rfl), fun _ => h.2.1 (Nat.le_of_ble_eq_true rfl), fun w z => (by cases z), fun z => absurd z (by decide : ¬ 0 < 0)⟩
theorem PRr_plot {A : RW} {m rs fm v : Nat} {pl : Option Nat} (h : PRr (3, rs, fm, pl, 0) A m) : PRr (3, rs, fm, some v, 0) (q_s1 A 7 (upd (A 7) (m - 1) (nI v))) m :=
  ⟨fun _ => h.1 (Nat.le_of_ble_eq_true rfl), fun _ => h.2.1 (Nat.le_of_ble_eq_true rfl), fun w z => (by cases z; exact upd_at), fun z => absurd z (by decide : ¬ 0 < 0)⟩
theorem PRr_com {A : RW} {m rs fm w : Nat} (h : PRr (3, rs, fm, some w, 0) A m) : PRr (4, rs, fm, some w, 0) A m :=
  ⟨fun _ => h.1 (Nat.le_of_ble_eq_true rfl), fun _ => h.2.1 (Nat.le_of_ble_eq_true rfl), h.2.2.1, fun z => absurd z (by decide : ¬ 0 < 0)⟩
theorem PRr_num {A : RW} {m rs fm w n v : Nat} (h : PRr (4, rs, fm, some w, n) A m) : PRr (4, rs, fm, some w, v) (q_s1 A 8 (upd (A 8) (m - 1) (nI v))) m :=
  ⟨fun _ => h.1 (Nat.le_of_ble_eq_true rfl), fun _ => h.2.1 (Nat.le_of_ble_eq_true rfl), h.2.2.1, fun _ => upd_at⟩
theorem PRr_0 {A : RW} {m : Nat} : PRr (0, 0, 0, none, 0) A m :=
  ⟨fun z => absurd z (by decide : ¬ 1 ≤ 0), fun z => absurd z (by decide : ¬ 2 ≤ 0), fun w z => (by cases z), fun z => absurd z (by decide : ¬ 0 < 0)⟩
theorem q_nr_no {x : PS} {c : Nat} (h : q_take x c = none) : -1 = q_nr x c := by unfold q_nr; rw [h]
theorem q_nr_ok {x x9 : PS} {c k : Nat} (h : q_take x c = some x9) (hk : q_so x9 = k) : nI k = q_nr x c := by unfold q_nr; rw [h, ← hk]

theorem q_tP_no {c rs fm w : Nat} (hc : c ≠ 44) (hw : ¬ (1 ≤ w ∧ w ≤ 3)) : q_take (3, rs, fm, some w, 0) c = none := by
  show q_tP _ c = none
  unfold q_tP
  dsimp only
  rw [if_neg (fun z => hc z.1)]
  by_cases hz : ¬ q_dg c ∨ some w = some 0
  · rw [if_pos hz]
  · rw [if_neg hz, if_neg]
    have hw0 : w ≠ 0 := fun z => hz (Or.inr (by rw [z]))
    have hd : q_dg c := Classical.byContradiction (fun z => hz (Or.inl z))
    show ¬ 10 * w + c - 48 < 40
    omega
theorem q_tN_no0 {c rs fm w : Nat} (h : ¬ (49 ≤ c ∧ c ≤ 48 + (if rs = 0 then 3 else 9))) : q_take (4, rs, fm, some w, 0) c = none := by
  show q_tN _ c = none
  unfold q_tN
  dsimp only
  rw [if_neg (fun z => absurd z.2 (by decide))]
  by_cases hd : q_dg c
  · rw [if_neg (fun z => z hd), if_neg]
    intro z
    split at h <;> simp_all <;> omega
  · rw [if_pos hd]
theorem q_tN_ok0 {c rs fm w : Nat} (hrs : rs ≤ 1) (h : 49 ≤ c ∧ c ≤ 48 + (if rs = 0 then 3 else 9)) : q_take (4, rs, fm, some w, 0) c = some (4, rs, fm, some w, c - 48) := by
  have h9 : c ≤ 57 := by split at h <;> omega
  show q_tN _ c = _
  unfold q_tN
  dsimp only
  rw [if_neg (fun z => absurd z.2 (by decide)), if_neg (fun z => z ⟨by omega, h9⟩), if_pos (by split at h <;> simp_all <;> omega)]
  rw [show 10 * 0 + c - 48 = c - 48 by omega]
theorem q_tN_ok1 {c fm w n : Nat} (hd : q_dg c) (h1 : 1 ≤ n) (h : 10 * n + (c - 48) ≤ 50) : q_take (4, 1, fm, some w, n) c = some (4, 1, fm, some w, 10 * n + (c - 48)) := by
  show q_tN _ c = _
  unfold q_tN
  dsimp only
  rw [if_neg (by omega), if_neg (fun z => z hd), if_pos (by rw [if_neg (by decide)]; omega), show 10 * n + c - 48 = 10 * n + (c - 48) by omega]
theorem q_tN_no1 {c fm w n : Nat} (hc : c ≠ 59) (h : ¬ (q_dg c ∧ 10 * n + (c - 48) ≤ 50)) : q_take (4, 1, fm, some w, n) c = none := by
  show q_tN _ c = none
  unfold q_tN
  dsimp only
  rw [if_neg (fun z => hc z.1)]
  by_cases hd : q_dg c
  · rw [if_neg (fun z => z hd), if_neg]
    rw [if_neg (by decide)]
    intro z
    exact h ⟨hd, by omega⟩
  · rw [if_pos hd]
theorem q_tN_no2 {c rs fm w n : Nat} (hc : c ≠ 59) (h0 : 1 ≤ n) (h1 : rs ≠ 0 → 6 ≤ n) : q_take (4, rs, fm, some w, n) c = none := by
  show q_tN _ c = none
  unfold q_tN
  dsimp only
  rw [if_neg (fun z => hc z.1)]
  by_cases hd : q_dg c
  · rw [if_neg (fun z => z hd), if_neg]
    by_cases hr : rs = 0
    · rw [if_pos hr]; omega
    · rw [if_neg hr]; have := h1 hr; omega
  · rw [if_pos hd]
theorem q_tN_end {c rs fm w n : Nat} (hc : c = 59) (h0 : 1 ≤ n) : q_take (4, rs, fm, some w, n) c = some (0, 0, 0, none, 0) := by
  show q_tN _ c = _
  unfold q_tN
  exact if_pos ⟨hc, h0⟩
