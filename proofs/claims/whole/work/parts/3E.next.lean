theorem q_s1_le {A : RW} {r : Nat} {f : Nat → Int32} (hr : 5 ≤ r) : ∀ j, j ≤ 4 → q_s1 A r f j = A j := fun j hj => if_neg (by omega)
theorem q_s1_ne {A : RW} {r j : Nat} {f : Nat → Int32} (h : j ≠ r) : q_s1 A r f j = A j := if_neg h
theorem q_s1_at {A : RW} {r : Nat} {f : Nat → Int32} : q_s1 A r f r = f := if_pos rfl
theorem upd_at {f : Nat → Int32} {k : Nat} {v : Int32} : upd f k v k = v := if_pos rfl
theorem q_s1_below {A : RW} {r n k0 : Nat} {v : Int32} (h : n ≤ k0) : ∀ j k, k < n → q_s1 A r (upd (A r) k0 v) j k = A j k := by
  intro j k hk
  by_cases e : j = r
  · subst e
    rw [q_s1_at]
    exact if_neg (by omega)
  · rw [q_s1_ne e]
def q_ma (x : PS) (m : Nat) : Nat := if x.1 = 0 then m + 1 else m
def q_mb (x : PS) (m : Nat) : Nat := if x.1 = 0 then m else m - 1
def PN (dC : Nat → ClassId) (dI : Nat → Nat → Nat) (cI : ClassId) (o : Nat) (t : Nat → Nat) (h : Int64) (A : RW) (i : Nat → Int32) (x : PS) (m c : Nat) (H : Heap) : Prop :=
  ∃ (A9 : RW) (i9 : Nat → Int32), va_P (dC, dI) vwCl (MW cI o t A9 i9 h) H ∧ (∀ j, j ≤ 4 → A9 j = A j) ∧ (∀ k, k ≠ 4 → i9 k = i k) ∧ (∀ j k, k < q_mb x m → A9 j k = A j k) ∧
    ∀ x', q_take x c = some x' → PRr x' A9 (q_ma x m) ∧ i9 4 = nI (q_ma x m) ∧ (x'.1 = 0 → A9 = A)
theorem q_d2_iff {c k : Nat} (h1 : 33 ≤ c) (h2 : c ≤ 126) (hk : k ≤ 9) : (nI 1 ≤ nI c - nI 48 ∧ nI c - nI 48 ≤ nI k) ↔ (49 ≤ c ∧ c ≤ 48 + k) := by
  have e : (nI c - nI 48).toInt = (c : Int) - 48 := pk_sub_toInt (by omega) (by decide)
  rw [Int32.le_iff_toInt_le, Int32.le_iff_toInt_le, e, nI_toInt (by decide), nI_toInt (by omega)]
  omega
theorem q_d3_iff {c : Nat} (h1 : 33 ≤ c) (h2 : c ≤ 126) : (nI 1 ≤ nI c - nI 48 ∧ nI c - nI 48 ≤ nI 3) ↔ (49 ≤ c ∧ c ≤ 51) := q_d2_iff h1 h2 (by decide)
theorem PN_no {dC : Nat → ClassId} {dI : Nat → Nat → Nat} {cI : ClassId} {o : Nat} {t : Nat → Nat} {h : Int64} {A : RW} {i : Nat → Int32} {x : PS} {m c : Nat} {H : Heap} (hP : va_P (dC, dI) vwCl (MW cI o t A i h) H) (hq : q_take x c = none) : PN dC dI cI o t h A i x m c H :=
  ⟨A, i, hP, fun _ _ => rfl, fun _ _ => rfl, fun _ _ _ => rfl, fun x' h9 => by rw [hq] at h9; cases h9⟩
theorem PN_no1 {dC : Nat → ClassId} {dI : Nat → Nat → Nat} {cI : ClassId} {o : Nat} {t : Nat → Nat} {h : Int64} {A : RW} {i : Nat → Int32} {x : PS} {m c r : Nat} {v : Int32} {H : Heap} (hP : va_P (dC, dI) vwCl (MW cI o t (q_s1 A r (upd (A r) (m - 1) v)) i h) H) (hr : 5 ≤ r) (h1 : x.1 ≠ 0) (hq : q_take x c = none) : PN dC dI cI o t h A i x m c H :=
  ⟨_, i, hP, q_s1_le hr, fun _ _ => rfl, q_s1_below (by unfold q_mb; rw [if_neg h1]; exact Nat.le_refl _), fun x' h9 => by rw [hq] at h9; cases h9⟩
theorem PN_ok {dC : Nat → ClassId} {dI : Nat → Nat → Nat} {cI : ClassId} {o : Nat} {t : Nat → Nat} {h : Int64} {A : RW} {i : Nat → Int32} {x x9 : PS} {m c : Nat} {H : Heap} (hP : va_P (dC, dI) vwCl (MW cI o t A i h) H) (hq : q_take x c = some x9) (h1 : x.1 ≠ 0) (h4 : i 4 = nI m) (hr : PRr x9 A m) : PN dC dI cI o t h A i x m c H :=
  ⟨A, i, hP, fun _ _ => rfl, fun _ _ => rfl, fun _ _ _ => rfl, fun x' h9 => by
    rw [hq] at h9
    cases h9
    unfold q_ma
    rw [if_neg h1]
    exact ⟨hr, h4, fun _ => rfl⟩⟩
theorem PN_ok1 {dC : Nat → ClassId} {dI : Nat → Nat → Nat} {cI : ClassId} {o : Nat} {t : Nat → Nat} {h : Int64} {A : RW} {i : Nat → Int32} {x x9 : PS} {m c r : Nat} {v : Int32} {H : Heap} (hP : va_P (dC, dI) vwCl (MW cI o t (q_s1 A r (upd (A r) (m - 1) v)) i h) H) (hr5 : 5 ≤ r) (hq : q_take x c = some x9) (h1 : x.1 ≠ 0) (h9 : x9.1 ≠ 0) (h4 : i 4 = nI m) (hr : PRr x9 (q_s1 A r (upd (A r) (m - 1) v)) m) : PN dC dI cI o t h A i x m c H :=
  ⟨_, i, hP, q_s1_le hr5, fun _ _ => rfl, q_s1_below (by unfold q_mb; rw [if_neg h1]; exact Nat.le_refl _), fun x' h8 => by
    rw [hq] at h8
    cases h8
    unfold q_ma
    rw [if_neg h1]
    exact ⟨hr, h4, fun z => absurd z h9⟩⟩
theorem PN_new {dC : Nat → ClassId} {dI : Nat → Nat → Nat} {cI : ClassId} {o : Nat} {t : Nat → Nat} {h : Int64} {A : RW} {i : Nat → Int32} {m c rs : Nat} {v : Int32} {H : Heap} (hP : va_P (dC, dI) vwCl (MW cI o t (q_s1 A 5 (upd (A 5) m v)) (upd i 4 (nI (m + 1))) h) H) (hq : q_take (0, 0, 0, none, 0) c = some (1, rs, 0, none, 0)) (hv : v = nI rs) : PN dC dI cI o t h A i (0, 0, 0, none, 0) m c H :=
  ⟨_, _, hP, q_s1_le (Nat.le_refl _), fun k hk => if_neg hk, q_s1_below (Nat.le_refl _), fun x' h8 => by
    rw [hq] at h8
    cases h8
    refine ⟨⟨fun _ => ⟨by show 1 ≤ m + 1; omega, ?_⟩, fun z => absurd z (by decide : ¬ 2 ≤ 1), fun w z => (by cases z), fun z => absurd z (by decide : ¬ 0 < 0)⟩, upd_at, fun z => absurd z (by decide : ¬ (1 : Nat) = 0)⟩
    show q_s1 A 5 (upd (A 5) m v) 5 m = nI rs
    rw [q_s1_at, upd_at, hv]⟩
theorem PRr_who {A : RW} {m rs fm v : Nat} (h : PRr (1, rs, fm, none, 0) A m) : PRr (2, rs, v, none, 0) (q_s1 A 6 (upd (A 6) (m - 1) (nI v))) m :=
  ⟨fun _ => h.1 (Nat.le_of_ble_eq_true rfl), fun _ => upd_at, fun w z => (by cases z), fun z => absurd z (by decide : ¬ 0 < 0)⟩
theorem PRr_col {A : RW} {m rs fm : Nat} (h : PRr (2, rs, fm, none, 0) A m) : PRr (3, rs, fm, none, 0) A m :=
  ⟨fun _ => h.1 (Nat.le_of_ble_eq_true rfl), fun _ => h.2.1 (Nat.le_of_ble_eq_true rfl), fun w z => (by cases z), fun z => absurd z (by decide : ¬ 0 < 0)⟩
theorem PRr_plot {A : RW} {m rs fm v : Nat} {pl : Option Nat} (h : PRr (3, rs, fm, pl, 0) A m) : PRr (3, rs, fm, some v, 0) (q_s1 A 7 (upd (A 7) (m - 1) (nI v))) m :=
  ⟨fun _ => h.1 (Nat.le_of_ble_eq_true rfl), fun _ => h.2.1 (Nat.le_of_ble_eq_true rfl), fun w z => (by cases z; exact upd_at), fun z => absurd z (by decide : ¬ 0 < 0)⟩
theorem PRr_com {A : RW} {m rs fm w : Nat} (h : PRr (3, rs, fm, some w, 0) A m) : PRr (4, rs, fm, some w, 0) A m :=
  ⟨fun _ => h.1 (Nat.le_of_ble_eq_true rfl), fun _ => h.2.1 (Nat.le_of_ble_eq_true rfl), h.2.2.1, fun z => absurd z (by decide : ¬ 0 < 0)⟩
theorem PRr_num {A : RW} {m rs fm w n v : Nat} (h : PRr (4, rs, fm, some w, n) A m) : PRr (4, rs, fm, some w, v) (q_s1 A 8 (upd (A 8) (m - 1) (nI v))) m :=
  ⟨fun _ => h.1 (Nat.le_of_ble_eq_true rfl), fun _ => h.2.1 (Nat.le_of_ble_eq_true rfl), h.2.2.1, fun _ => upd_at⟩
theorem PRr_0 {A : RW} {m : Nat} : PRr (0, 0, 0, none, 0) A m :=
  ⟨fun z => absurd z (by decide : ¬ 1 ≤ 0), fun z => absurd z (by decide : ¬ 2 ≤ 0), fun w z => (by cases z), fun z => absurd z (by decide : ¬ 0 < 0)⟩
theorem q_nr_no {x : PS} {c : Nat} (h : q_take x c = none) : -1 = q_nr x c := by unfold q_nr; rw [h]
theorem q_nr_ok {x x9 : PS} {c k : Nat} (h : q_take x c = some x9) (hk : q_so x9 = k) : nI k = q_nr x c := by unfold q_nr; rw [h, ← hk]

theorem q_tP_no {c rs fm w : Nat} (hc : c ≠ 44) (hw : ¬ (1 ≤ w ∧ w ≤ 3)) : q_take (3, rs, fm, some w, 0) c = none := by
  show q_tP _ c = none
  unfold q_tP
  dsimp only
  rw [if_neg (fun z => hc z.1)]
  by_cases hz : ¬ q_dg c ∨ some w = some 0
  · rw [if_pos hz]
  · rw [if_neg hz, if_neg]
    have hw0 : w ≠ 0 := fun z => hz (Or.inr (by rw [z]))
    have hd : q_dg c := Classical.byContradiction (fun z => hz (Or.inl z))
    show ¬ 10 * w + c - 48 < 40
    omega
theorem q_tN_no0 {c rs fm w : Nat} (h : ¬ (49 ≤ c ∧ c ≤ 48 + (if rs = 0 then 3 else 9))) : q_take (4, rs, fm, some w, 0) c = none := by
  show q_tN _ c = none
  unfold q_tN
  dsimp only
  rw [if_neg (fun z => absurd z.2 (by decide))]
  by_cases hd : q_dg c
  · rw [if_neg (fun z => z hd), if_neg]
    intro z
    split at h <;> simp_all <;> omega
  · rw [if_pos hd]
theorem q_tN_ok0 {c rs fm w : Nat} (hrs : rs ≤ 1) (h : 49 ≤ c ∧ c ≤ 48 + (if rs = 0 then 3 else 9)) : q_take (4, rs, fm, some w, 0) c = some (4, rs, fm, some w, c - 48) := by
  have h9 : c ≤ 57 := by split at h <;> omega
  show q_tN _ c = _
  unfold q_tN
  dsimp only
  rw [if_neg (fun z => absurd z.2 (by decide)), if_neg (fun z => z ⟨by omega, h9⟩), if_pos (by split at h <;> simp_all <;> omega)]
  rw [show 10 * 0 + c - 48 = c - 48 by omega]
theorem q_tN_ok1 {c fm w n : Nat} (hd : q_dg c) (h1 : 1 ≤ n) (h : 10 * n + (c - 48) ≤ 50) : q_take (4, 1, fm, some w, n) c = some (4, 1, fm, some w, 10 * n + (c - 48)) := by
  show q_tN _ c = _
  unfold q_tN
  dsimp only
  rw [if_neg (by omega), if_neg (fun z => z hd), if_pos (by rw [if_neg (by decide)]; omega), show 10 * n + c - 48 = 10 * n + (c - 48) by omega]
theorem q_tN_no1 {c fm w n : Nat} (hc : c ≠ 59) (h : ¬ (q_dg c ∧ 10 * n + (c - 48) ≤ 50)) : q_take (4, 1, fm, some w, n) c = none := by
  show q_tN _ c = none
  unfold q_tN
  dsimp only
  rw [if_neg (fun z => hc z.1)]
  by_cases hd : q_dg c
  · rw [if_neg (fun z => z hd), if_neg]
    rw [if_neg (by decide)]
    intro z
    exact h ⟨hd, by omega⟩
  · rw [if_pos hd]
theorem q_tN_no2 {c rs fm w n : Nat} (hc : c ≠ 59) (h0 : 1 ≤ n) (h1 : rs ≠ 0 → 6 ≤ n) : q_take (4, rs, fm, some w, n) c = none := by
  show q_tN _ c = none
  unfold q_tN
  dsimp only
  rw [if_neg (fun z => hc z.1)]
  by_cases hd : q_dg c
  · rw [if_neg (fun z => z hd), if_neg]
    by_cases hr : rs = 0
    · rw [if_pos hr]; omega
    · rw [if_neg hr]; have := h1 hr; omega
  · rw [if_pos hd]
theorem q_tN_end {c rs fm w n : Nat} (hc : c = 59) (h0 : 1 ≤ n) : q_take (4, rs, fm, some w, n) c = some (0, 0, 0, none, 0) := by
  show q_tN _ c = _
  unfold q_tN
  exact if_pos ⟨hc, h0⟩

set_option maxHeartbeats 4000000 in
set_option maxRecDepth 100000 in
theorem c_X3_next {l : Launch} {dC : Nat → ClassId} {dI : Nat → Nat → Nat} {cI cL cJ : ClassId} {o : Nat} {t : Nat → Nat} {A : RW} {i : Nat → Int32} {h : Int64} {x : PS} {sv c m : Nat} (hx : PSr x) (hsv : q_so x = sv) (hr : PRr x A m) (hm : m ≤ 11) (hi4 : i 4 = nI m) (hc1 : 33 ≤ c) (hc2 : c ≤ 126) : Met l yX3_next (.code yX3_next cX3_next 6 (some .int) :: WG) (rmL 1) (va_Pc [.ref o, .int (nI sv), .int (nI c)] (MDM dC dI cI cL cJ o t A i h)) (bq_M (some (.int (q_nr x c))) (PN dC dI cI o t h A i x m c) (fun q => q ∈ MA o t)) 0 0 ((fun q => q ∈ MA o t)) := by
  refine bq_of [some (.ref o), some (.int (nI sv)), some (.int (nI c)), none, none, none] rfl rfl (Nat.le_of_ble_eq_true rfl) (by decide) ?_
  intro P_ E_ s M_ B_ T_ K_ C hv
  obtain ⟨hP, hD, hK⟩ := hv
  have hS : va_S (fun q => q ∈ MA o t) s.heap s.heap [] := va_S.rf
  refine g_iload2 C dX3_next_0 ?_
  refine g_bipush C (nI 48) (by decide) dX3_next_1 ?_
  refine g_isub C dX3_next_3 ?_
  refine g_istore3 C rfl dX3_next_4 ?_
  refine g_aload0 C dX3_next_5 ?_
  refine g_get (ci := 3) (T := TX3) (N := 16) C inX3 hK hP 0 rfl rfl 9 (by decide) wf_X3_133 ⟨rfl, rfl, rfl⟩ rfl dX3_next_6 ?_
  rw [hi4]
  refine g_iconst C (nI 1) (by decide) dX3_next_9 ?_
  refine g_isub C dX3_next_10 ?_
  refine g_istore4 C rfl dX3_next_11 ?_
  refine g_iload3 C dX3_next_13 ?_
  refine g_iconst C (nI 0) (by decide) dX3_next_14 ?_
  refine g_bipush C (nI 9) (by decide) dX3_next_15 ?_
  refine g_scS3 C (c_X3_within) wl_X3_41 wt_X3_within wn_X3 wc_X3_within (by decide +kernel) ⟨rfl, rfl, by decide, by decide⟩ rfl (by simp [Value.category]) ⟨by decide, by decide⟩ dX3_next_17 ?_
  refine g_top (bI_congr (q_dg_iff hc1 hc2)) ?_
  refine g_istore5 C rfl dX3_next_20 ?_
  refine g_iload1 C dX3_next_22 ?_
  rcases q_so_inv hx hsv with ⟨rfl, rfl⟩ | ⟨rfl, rs, fm, hrs, hfm, rfl⟩ | ⟨rfl, rs, fm, hrs, hfm, rfl⟩ | ⟨rfl, rs, fm, hrs, hfm, rfl⟩ | ⟨rfl, rs, fm, w, hrs, hfm, hw1, hw3, rfl⟩ | ⟨rfl, rs, fm, w, hrs, hfm, hw40, hw2, rfl⟩ | ⟨rfl, rs, fm, w, hrs, hfm, hw40, rfl⟩ | ⟨rfl, fm, w, n, hfm, hw40, hn1, hn5, rfl⟩ | ⟨rfl, rs, fm, w, n, hrs, hfm, hw40, hn1, hn50, hr0, hr1, rfl⟩
  · refine g_tsI C 68 dX3_next_23 (by decide) (by decide) rfl (by decide) ?_
    refine g_iload2 C dX3_next_68 ?_
    refine g_bipush C (nI 98) (by decide) dX3_next_69 ?_
    refine g_icmp_eqN C (by omega) (by omega) 82 dX3_next_71 (by decide) (fun h71 => ?_) (fun h71 => ?_)
    · refine g_aload0 C dX3_next_82 ?_
      refine g_get (ci := 3) (T := TX3) (N := 16) C inX3 hK hP 0 rfl rfl 10 (by decide) wf_X3_25 ⟨rfl, rfl, rfl⟩ rfl dX3_next_83 ?_
      refine g_aload0 C dX3_next_86 ?_
      refine g_get (ci := 3) (T := TX3) (N := 16) C inX3 hK hP 0 rfl rfl 9 (by decide) wf_X3_133 ⟨rfl, rfl, rfl⟩ rfl dX3_next_87 ?_
      rw [hi4]
      refine g_d0 (v := nI (if c = 114 then 1 else 0)) 101 (fun K90 => ?_) ?_
      · skip
        refine g_iload2 C dX3_next_90 ?_
        refine g_bipush C (nI 98) (by decide) dX3_next_91 ?_
        refine g_icmp_neN C (by omega) (by omega) 100 dX3_next_93 (by decide) (fun h93 => ?_) (fun h93 => ?_)
        · refine g_iconst C (nI 1) (by decide) dX3_next_100 ?_
          exact K90 _ (by rw [if_pos (by omega)])
        · refine g_iconst C (nI 0) (by decide) dX3_next_96 ?_
          refine g_goto C 101 dX3_next_97 (by decide) ?_
          exact K90 _ (by rw [if_neg (by omega)])
      refine g_iast C hK hP hD hS 6 0 rfl rfl (by omega) (by decide) dX3_next_101 (fun H locs hP hD hS => ?_)
      have hP : va_P (dC, dI) vwCl (MW cI o t (q_s1 A 5 (upd (A 5) m (nI (if c = 114 then 1 else 0)))) (i) (h)) H := hP
      have hD : va_D (fun q => q ∈ MA o t) (MW cI o t (q_s1 A 5 (upd (A 5) m (nI (if c = 114 then 1 else 0)))) (i) (h)) := hD.fst rfl
      refine g_aload0 C dX3_next_102 ?_
      refine g_dup C rfl dX3_next_103 ?_
      refine g_get (ci := 3) (T := TX3) (N := 16) C inX3 hK hP 0 rfl rfl 9 (by decide) wf_X3_133 ⟨rfl, rfl, rfl⟩ rfl dX3_next_104 ?_
      rw [hi4]
      refine g_iconst C (nI 1) (by decide) dX3_next_107 ?_
      refine g_iaddN C dX3_next_108 ?_
      refine g_put (ci := 3) (T := TX3) (N := 16) C inX3 tyX3 tyX3_ok nmX3 hK hP hD hS 0 rfl rfl 9 (by decide) wf_X3_133 ⟨rfl, rfl, rfl⟩ rfl rfl rfl (Nat.le_of_ble_eq_true rfl) dX3_next_109 (fun H locs hP hD hS => ?_)
      have hP : va_P (dC, dI) vwCl (MW cI o t (q_s1 A 5 (upd (A 5) m (nI (if c = 114 then 1 else 0)))) (upd i 4 (nI (m + 1))) (h)) H := hP
      have hD : va_D (fun q => q ∈ MA o t) (MW cI o t (q_s1 A 5 (upd (A 5) m (nI (if c = 114 then 1 else 0)))) (upd i 4 (nI (m + 1))) (h)) := hD.fst rfl
      refine g_iconst C (nI 1) (by decide) dX3_next_112 ?_
      have hq : q_take (0, 0, 0, none, 0) c = some (1, if c = 114 then 1 else 0, 0, none, 0) := by show q_tL _ c = _; unfold q_tL; rw [if_pos (by omega)]
      exact g_iretM C (PN_new hP hq rfl) hS (q_nr_ok hq rfl) dX3_next_113
    · refine g_iload2 C dX3_next_74 ?_
      refine g_bipush C (nI 114) (by decide) dX3_next_75 ?_
      refine g_icmp_eqN C (by omega) (by omega) 82 dX3_next_77 (by decide) (fun h77 => ?_) (fun h77 => ?_)
      · refine g_aload0 C dX3_next_82 ?_
        refine g_get (ci := 3) (T := TX3) (N := 16) C inX3 hK hP 0 rfl rfl 10 (by decide) wf_X3_25 ⟨rfl, rfl, rfl⟩ rfl dX3_next_83 ?_
        refine g_aload0 C dX3_next_86 ?_
        refine g_get (ci := 3) (T := TX3) (N := 16) C inX3 hK hP 0 rfl rfl 9 (by decide) wf_X3_133 ⟨rfl, rfl, rfl⟩ rfl dX3_next_87 ?_
        rw [hi4]
        refine g_d0 (v := nI (if c = 114 then 1 else 0)) 101 (fun K90 => ?_) ?_
        · skip
          refine g_iload2 C dX3_next_90 ?_
          refine g_bipush C (nI 98) (by decide) dX3_next_91 ?_
          refine g_icmp_neN C (by omega) (by omega) 100 dX3_next_93 (by decide) (fun h93 => ?_) (fun h93 => ?_)
          · refine g_iconst C (nI 1) (by decide) dX3_next_100 ?_
            exact K90 _ (by rw [if_pos (by omega)])
          · refine g_iconst C (nI 0) (by decide) dX3_next_96 ?_
            refine g_goto C 101 dX3_next_97 (by decide) ?_
            exact K90 _ (by rw [if_neg (by omega)])
        refine g_iast C hK hP hD hS 6 0 rfl rfl (by omega) (by decide) dX3_next_101 (fun H locs hP hD hS => ?_)
        have hP : va_P (dC, dI) vwCl (MW cI o t (q_s1 A 5 (upd (A 5) m (nI (if c = 114 then 1 else 0)))) (i) (h)) H := hP
        have hD : va_D (fun q => q ∈ MA o t) (MW cI o t (q_s1 A 5 (upd (A 5) m (nI (if c = 114 then 1 else 0)))) (i) (h)) := hD.fst rfl
        refine g_aload0 C dX3_next_102 ?_
        refine g_dup C rfl dX3_next_103 ?_
        refine g_get (ci := 3) (T := TX3) (N := 16) C inX3 hK hP 0 rfl rfl 9 (by decide) wf_X3_133 ⟨rfl, rfl, rfl⟩ rfl dX3_next_104 ?_
        rw [hi4]
        refine g_iconst C (nI 1) (by decide) dX3_next_107 ?_
        refine g_iaddN C dX3_next_108 ?_
        refine g_put (ci := 3) (T := TX3) (N := 16) C inX3 tyX3 tyX3_ok nmX3 hK hP hD hS 0 rfl rfl 9 (by decide) wf_X3_133 ⟨rfl, rfl, rfl⟩ rfl rfl rfl (Nat.le_of_ble_eq_true rfl) dX3_next_109 (fun H locs hP hD hS => ?_)
        have hP : va_P (dC, dI) vwCl (MW cI o t (q_s1 A 5 (upd (A 5) m (nI (if c = 114 then 1 else 0)))) (upd i 4 (nI (m + 1))) (h)) H := hP
        have hD : va_D (fun q => q ∈ MA o t) (MW cI o t (q_s1 A 5 (upd (A 5) m (nI (if c = 114 then 1 else 0)))) (upd i 4 (nI (m + 1))) (h)) := hD.fst rfl
        refine g_iconst C (nI 1) (by decide) dX3_next_112 ?_
        have hq : q_take (0, 0, 0, none, 0) c = some (1, if c = 114 then 1 else 0, 0, none, 0) := by show q_tL _ c = _; unfold q_tL; rw [if_pos (by omega)]
        exact g_iretM C (PN_new hP hq rfl) hS (q_nr_ok hq rfl) dX3_next_113
      · refine g_iconst C (-1) (by decide) dX3_next_80 ?_
        have hq : q_take (0, 0, 0, none, 0) c = none := by show q_tL _ c = none; unfold q_tL; rw [if_neg (by omega)]
        exact g_iretM C (PN_no hP hq) hS (q_nr_no hq) dX3_next_81
  · refine g_tsI C 114 dX3_next_23 (by decide) (by decide) rfl (by decide) ?_
    obtain ⟨hm1, hso⟩ := hr.1 (by show 1 ≤ _; omega)
    have e1 : nI m - nI 1 = nI (m - 1) := pk_sub (by omega)
    rw [e1]
    refine g_aload0 C dX3_next_114 ?_
    refine g_get (ci := 3) (T := TX3) (N := 16) C inX3 hK hP 0 rfl rfl 11 (by decide) wf_X3_28 ⟨rfl, rfl, rfl⟩ rfl dX3_next_115 ?_
    refine g_iload4 C dX3_next_118 ?_
    refine g_iload3 C dX3_next_120 ?_
    refine g_iast C hK hP hD hS 7 0 rfl rfl (by omega) (by decide) dX3_next_121 (fun H locs hP hD hS => ?_)
    have hP : va_P (dC, dI) vwCl (MW cI o t (q_s1 A 6 (upd (A 6) (m - 1) (nI c - nI 48))) (i) (h)) H := hP
    have hD : va_D (fun q => q ∈ MA o t) (MW cI o t (q_s1 A 6 (upd (A 6) (m - 1) (nI c - nI 48))) (i) (h)) := hD.fst rfl
    refine g_iload5 C dX3_next_122 ?_
    refine g_if_eqB C 131 dX3_next_124 (by decide) (fun h124 => ?_) (fun h124 => ?_)
    · refine g_iconst C (-1) (by decide) dX3_next_131 ?_
      have hq : q_take (1, rs, fm, none, 0) c = none := by show q_tF _ c = none; unfold q_tF; rw [if_neg h124]
      exact g_iretM C (PN_no1 hP (r := 6) (by decide) (Nat.succ_ne_zero _) hq) hS (q_nr_no hq) dX3_next_132
    · have e48 : nI c - nI 48 = nI (c - 48) := pk_sub (by omega)
      rw [e48] at hP
      refine g_iconst C (nI 2) (by decide) dX3_next_127 ?_
      refine g_goto C 132 dX3_next_128 (by decide) ?_
      have hq : q_take (1, rs, fm, none, 0) c = some (2, rs, c - 48, none, 0) := by show q_tF _ c = _; unfold q_tF; rw [if_pos h124]
      exact g_iretM C (PN_ok1 hP (r := 6) (by decide) hq (Nat.succ_ne_zero _) (Nat.succ_ne_zero _) hi4 (PRr_who hr)) hS (q_nr_ok hq (rfl)) dX3_next_132
  · refine g_tsI C 133 dX3_next_23 (by decide) (by decide) rfl (by decide) ?_
    refine g_iload2 C dX3_next_133 ?_
    refine g_bipush C (nI 58) (by decide) dX3_next_134 ?_
    refine g_icmp_neN C (by omega) (by omega) 143 dX3_next_136 (by decide) (fun h136 => ?_) (fun h136 => ?_)
    · refine g_iconst C (-1) (by decide) dX3_next_143 ?_
      have hq : q_take (2, rs, fm, none, 0) c = none := by show q_tC _ c = none; unfold q_tC; rw [if_neg h136]
      exact g_iretM C (PN_no hP hq) hS (q_nr_no hq) dX3_next_144
    · refine g_iconst C (nI 3) (by decide) dX3_next_139 ?_
      refine g_goto C 144 dX3_next_140 (by decide) ?_
      have hq : q_take (2, rs, fm, none, 0) c = some (3, rs, fm, none, 0) := by show q_tC _ c = _; unfold q_tC; rw [if_pos h136]
      exact g_iretM C (PN_ok hP hq (Nat.succ_ne_zero _) hi4 (PRr_col hr)) hS (q_nr_ok hq (rfl)) dX3_next_144
  · refine g_tsI C 145 dX3_next_23 (by decide) (by decide) rfl (by decide) ?_
    obtain ⟨hm1, hso⟩ := hr.1 (by show 1 ≤ _; omega)
    have e1 : nI m - nI 1 = nI (m - 1) := pk_sub (by omega)
    rw [e1]
    refine g_aload0 C dX3_next_145 ?_
    refine g_get (ci := 3) (T := TX3) (N := 16) C inX3 hK hP 0 rfl rfl 12 (by decide) wf_X3_31 ⟨rfl, rfl, rfl⟩ rfl dX3_next_146 ?_
    refine g_iload4 C dX3_next_149 ?_
    refine g_iload3 C dX3_next_151 ?_
    refine g_iast C hK hP hD hS 8 0 rfl rfl (by omega) (by decide) dX3_next_152 (fun H locs hP hD hS => ?_)
    have hP : va_P (dC, dI) vwCl (MW cI o t (q_s1 A 7 (upd (A 7) (m - 1) (nI c - nI 48))) (i) (h)) H := hP
    have hD : va_D (fun q => q ∈ MA o t) (MW cI o t (q_s1 A 7 (upd (A 7) (m - 1) (nI c - nI 48))) (i) (h)) := hD.fst rfl
    refine g_iload5 C dX3_next_153 ?_
    refine g_if_neB C 162 dX3_next_155 (by decide) (fun h155 => ?_) (fun h155 => ?_)
    · have e48 : nI c - nI 48 = nI (c - 48) := pk_sub (by omega)
      rw [e48] at hP
      refine g_iload3 C dX3_next_162 ?_
      refine g_iconst C (nI 1) (by decide) dX3_next_163 ?_
      refine g_iconst C (nI 3) (by decide) dX3_next_164 ?_
      refine g_scS3 C (c_X3_within) wl_X3_41 wt_X3_within wn_X3 wc_X3_within (by decide +kernel) ⟨rfl, rfl, by decide, by decide⟩ rfl (by simp [Value.category]) ⟨by decide, by decide⟩ dX3_next_165 ?_
      refine g_top (bI_congr (q_d3_iff hc1 hc2)) ?_
      refine g_if_eqB C 175 dX3_next_168 (by decide) (fun h168 => ?_) (fun h168 => ?_)
      · refine g_iconst C (nI 5) (by decide) dX3_next_175 ?_
        have hq : q_take (3, rs, fm, none, 0) c = some (3, rs, fm, some (c - 48), 0) := by show q_tP _ c = _; unfold q_tP; dsimp only; rw [if_neg (fun z => z.2 rfl), if_neg (fun z => z.elim (fun z => z h155) (fun z => by cases z)), if_pos (by show c - 48 < 40; omega)]; rfl
        exact g_iretM C (PN_ok1 hP (r := 7) (by decide) hq (Nat.succ_ne_zero _) (Nat.succ_ne_zero _) hi4 (PRr_plot hr)) hS (q_nr_ok hq (by show (if 1 ≤ c - 48 ∧ c - 48 ≤ 3 then 4 else 5) = _; rw [if_neg (by omega)])) dX3_next_176
      · refine g_iconst C (nI 4) (by decide) dX3_next_171 ?_
        refine g_goto C 176 dX3_next_172 (by decide) ?_
        have hq : q_take (3, rs, fm, none, 0) c = some (3, rs, fm, some (c - 48), 0) := by show q_tP _ c = _; unfold q_tP; dsimp only; rw [if_neg (fun z => z.2 rfl), if_neg (fun z => z.elim (fun z => z h155) (fun z => by cases z)), if_pos (by show c - 48 < 40; omega)]; rfl
        exact g_iretM C (PN_ok1 hP (r := 7) (by decide) hq (Nat.succ_ne_zero _) (Nat.succ_ne_zero _) hi4 (PRr_plot hr)) hS (q_nr_ok hq (by show (if 1 ≤ c - 48 ∧ c - 48 ≤ 3 then 4 else 5) = _; rw [if_pos (by omega)])) dX3_next_176
    · refine g_iconst C (-1) (by decide) dX3_next_158 ?_
      refine g_goto C 176 dX3_next_159 (by decide) ?_
      have hq : q_take (3, rs, fm, none, 0) c = none := by show q_tP _ c = none; unfold q_tP; dsimp only; rw [if_neg (fun z => z.2 rfl), if_pos (Or.inl h155)]
      exact g_iretM C (PN_no1 hP (r := 7) (by decide) (Nat.succ_ne_zero _) hq) hS (q_nr_no hq) dX3_next_176
  · refine g_tsI C 177 dX3_next_23 (by decide) (by decide) rfl (by decide) ?_
    obtain ⟨hm1, hso⟩ := hr.1 (by show 1 ≤ _; omega)
    have e1 : nI m - nI 1 = nI (m - 1) := pk_sub (by omega)
    rw [e1]
    refine g_iload5 C dX3_next_177 ?_
    refine g_if_eqB C 203 dX3_next_179 (by decide) (fun h179 => ?_) (fun h179 => ?_)
    · refine g_iload2 C dX3_next_203 ?_
      refine g_bipush C (nI 44) (by decide) dX3_next_204 ?_
      refine g_icmp_neN C (by omega) (by omega) 214 dX3_next_206 (by decide) (fun h206 => ?_) (fun h206 => ?_)
      · refine g_iconst C (-1) (by decide) dX3_next_214 ?_
        have hq : q_take (3, rs, fm, some w, 0) c = none := by show q_tP _ c = none; unfold q_tP; dsimp only; rw [if_neg (by omega), if_pos (Or.inl h179)]
        exact g_iretM C (PN_no hP hq) hS (q_nr_no hq) dX3_next_215
      · refine g_bipush C (nI 6) (by decide) dX3_next_209 ?_
        refine g_goto C 215 dX3_next_211 (by decide) ?_
        have hq : q_take (3, rs, fm, some w, 0) c = some (4, rs, fm, some w, 0) := by show q_tP _ c = _; unfold q_tP; dsimp only; rw [if_pos ⟨h206, fun z => by cases z⟩]
        exact g_iretM C (PN_ok hP hq (Nat.succ_ne_zero _) hi4 (PRr_com hr)) hS (q_nr_ok hq (rfl)) dX3_next_215
    · have e48 : nI c - nI 48 = nI (c - 48) := pk_sub (by omega)
      rw [e48]
      refine g_aload0 C dX3_next_182 ?_
      refine g_get (ci := 3) (T := TX3) (N := 16) C inX3 hK hP 0 rfl rfl 12 (by decide) wf_X3_31 ⟨rfl, rfl, rfl⟩ rfl dX3_next_183 ?_
      refine g_iload4 C dX3_next_186 ?_
      refine g_bipush C (nI 10) (by decide) dX3_next_188 ?_
      refine g_aload0 C dX3_next_190 ?_
      refine g_get (ci := 3) (T := TX3) (N := 16) C inX3 hK hP 0 rfl rfl 12 (by decide) wf_X3_31 ⟨rfl, rfl, rfl⟩ rfl dX3_next_191 ?_
      refine g_iload4 C dX3_next_194 ?_
      refine g_iald C hK hP 8 0 rfl rfl (by omega) (by decide) dX3_next_196 ?_
      rw [show A 7 (m - 1) = nI w from hr.2.2.1 w rfl]
      refine g_imulN C dX3_next_197 ?_
      refine g_iload3 C dX3_next_198 ?_
      refine g_iaddN C dX3_next_199 ?_
      refine g_iast C hK hP hD hS 8 0 rfl rfl (by omega) (by decide) dX3_next_200 (fun H locs hP hD hS => ?_)
      have hP : va_P (dC, dI) vwCl (MW cI o t (q_s1 A 7 (upd (A 7) (m - 1) (nI (10 * w + (c - 48))))) (i) (h)) H := hP
      have hD : va_D (fun q => q ∈ MA o t) (MW cI o t (q_s1 A 7 (upd (A 7) (m - 1) (nI (10 * w + (c - 48))))) (i) (h)) := hD.fst rfl
      refine g_iconst C (nI 5) (by decide) dX3_next_201 ?_
      have hq : q_take (3, rs, fm, some w, 0) c = some (3, rs, fm, some (10 * w + (c - 48)), 0) := by show q_tP _ c = _; unfold q_tP; dsimp only; rw [if_neg (by omega), if_neg (fun z => z.elim (fun z => z h179) (fun z => by cases z; omega)), if_pos (by show 10 * w + c - 48 < 40; omega)]; exact congrArg (fun z => some (3, rs, fm, some z, 0)) (by show 10 * w + c - 48 = _; omega)
      exact g_iretM C (PN_ok1 hP (r := 7) (by decide) hq (Nat.succ_ne_zero _) (Nat.succ_ne_zero _) hi4 (PRr_plot hr)) hS (q_nr_ok hq (if_neg (by omega))) dX3_next_202
  · refine g_tsI C 216 dX3_next_23 (by decide) (by decide) rfl (by decide) ?_
    refine g_iload2 C dX3_next_216 ?_
    refine g_bipush C (nI 44) (by decide) dX3_next_217 ?_
    refine g_icmp_neN C (by omega) (by omega) 227 dX3_next_219 (by decide) (fun h219 => ?_) (fun h219 => ?_)
    · refine g_iconst C (-1) (by decide) dX3_next_227 ?_
      have hq : q_take (3, rs, fm, some w, 0) c = none := by exact q_tP_no (by omega) hw2
      exact g_iretM C (PN_no hP hq) hS (q_nr_no hq) dX3_next_228
    · refine g_bipush C (nI 6) (by decide) dX3_next_222 ?_
      refine g_goto C 228 dX3_next_224 (by decide) ?_
      have hq : q_take (3, rs, fm, some w, 0) c = some (4, rs, fm, some w, 0) := by show q_tP _ c = _; unfold q_tP; dsimp only; rw [if_pos ⟨h219, fun z => by cases z⟩]
      exact g_iretM C (PN_ok hP hq (Nat.succ_ne_zero _) hi4 (PRr_com hr)) hS (q_nr_ok hq (rfl)) dX3_next_228
  · refine g_tsI C 229 dX3_next_23 (by decide) (by decide) rfl (by decide) ?_
    obtain ⟨hm1, hso⟩ := hr.1 (by show 1 ≤ _; omega)
    have e1 : nI m - nI 1 = nI (m - 1) := pk_sub (by omega)
    rw [e1]
    refine g_aload0 C dX3_next_229 ?_
    refine g_get (ci := 3) (T := TX3) (N := 16) C inX3 hK hP 0 rfl rfl 13 (by decide) wf_X3_34 ⟨rfl, rfl, rfl⟩ rfl dX3_next_230 ?_
    refine g_iload4 C dX3_next_233 ?_
    refine g_iload3 C dX3_next_235 ?_
    refine g_iast C hK hP hD hS 9 0 rfl rfl (by omega) (by decide) dX3_next_236 (fun H locs hP hD hS => ?_)
    have hP : va_P (dC, dI) vwCl (MW cI o t (q_s1 A 8 (upd (A 8) (m - 1) (nI c - nI 48))) (i) (h)) H := hP
    have hD : va_D (fun q => q ∈ MA o t) (MW cI o t (q_s1 A 8 (upd (A 8) (m - 1) (nI c - nI 48))) (i) (h)) := hD.fst rfl
    refine g_iload3 C dX3_next_237 ?_
    refine g_iconst C (nI 1) (by decide) dX3_next_238 ?_
    refine g_aload0 C dX3_next_239 ?_
    refine g_get (ci := 3) (T := TX3) (N := 16) C inX3 hK hP 0 rfl rfl 10 (by decide) wf_X3_25 ⟨rfl, rfl, rfl⟩ rfl dX3_next_240 ?_
    refine g_iload4 C dX3_next_243 ?_
    refine g_iald C hK hP 6 0 rfl rfl (by omega) (by decide) dX3_next_245 ?_
    rw [show q_s1 A 8 (upd (A 8) (m - 1) (nI c - nI 48)) 5 (m - 1) = nI rs from hso]
    refine g_d1 (v := nI (if rs = 0 then 3 else 9)) 255 (fun K246 => ?_) ?_
    · skip
      refine g_if_neN C (by omega) 253 dX3_next_246 (by decide) (fun h246 => ?_) (fun h246 => ?_)
      · refine g_bipush C (nI 9) (by decide) dX3_next_253 ?_
        exact K246 _ (by rw [if_neg h246])
      · refine g_iconst C (nI 3) (by decide) dX3_next_249 ?_
        refine g_goto C 255 dX3_next_250 (by decide) ?_
        exact K246 _ (by rw [if_pos h246])
    refine g_scS3 C (c_X3_within) wl_X3_41 wt_X3_within wn_X3 wc_X3_within (by decide +kernel) ⟨rfl, rfl, by decide, by decide⟩ rfl (by simp [Value.category]) ⟨by decide, by decide⟩ dX3_next_255 ?_
    refine g_top (bI_congr (q_d2_iff hc1 hc2 (by split <;> omega))) ?_
    refine g_if_neB C 265 dX3_next_258 (by decide) (fun h258 => ?_) (fun h258 => ?_)
    · have hc57 : 49 ≤ c ∧ c ≤ 57 := by split at h258 <;> omega
      have e48 : nI c - nI 48 = nI (c - 48) := pk_sub (by omega)
      rw [e48] at hP ⊢
      have hD : va_D (fun q => q ∈ MA o t) (MW cI o t (q_s1 A 8 (upd (A 8) (m - 1) (nI (c - 48)))) i h) := hD.fst rfl
      refine g_aload0 C dX3_next_265 ?_
      refine g_get (ci := 3) (T := TX3) (N := 16) C inX3 hK hP 0 rfl rfl 10 (by decide) wf_X3_25 ⟨rfl, rfl, rfl⟩ rfl dX3_next_266 ?_
      refine g_iload4 C dX3_next_269 ?_
      refine g_iald C hK hP 6 0 rfl rfl (by omega) (by decide) dX3_next_271 ?_
      rw [show q_s1 A 8 (upd (A 8) (m - 1) (nI (c - 48))) 5 (m - 1) = nI rs from hso]
      refine g_iconst C (nI 1) (by decide) dX3_next_272 ?_
      refine g_icmp_neN C (by omega) (by omega) 287 dX3_next_273 (by decide) (fun h273 => ?_) (fun h273 => ?_)
      · refine g_bipush C (nI 8) (by decide) dX3_next_287 ?_
        have hq : q_take (4, rs, fm, some w, 0) c = some (4, rs, fm, some w, c - 48) := by exact q_tN_ok0 hrs h258
        exact g_iretM C (PN_ok1 hP (r := 8) (by decide) hq (Nat.succ_ne_zero _) (Nat.succ_ne_zero _) hi4 (PRr_num hr)) hS (q_nr_ok hq (by show (if c - 48 = 0 then 6 else if rs ≠ 0 ∧ c - 48 < 6 then 7 else 8) = _; rw [if_neg (by omega)]; exact if_neg (by omega))) dX3_next_289
      · refine g_iload3 C dX3_next_276 ?_
        refine g_bipush C (nI 6) (by decide) dX3_next_277 ?_
        refine g_icmp_geN C (by omega) (by omega) 287 dX3_next_279 (by decide) (fun h279 => ?_) (fun h279 => ?_)
        · refine g_bipush C (nI 8) (by decide) dX3_next_287 ?_
          have hq : q_take (4, rs, fm, some w, 0) c = some (4, rs, fm, some w, c - 48) := by exact q_tN_ok0 hrs h258
          exact g_iretM C (PN_ok1 hP (r := 8) (by decide) hq (Nat.succ_ne_zero _) (Nat.succ_ne_zero _) hi4 (PRr_num hr)) hS (q_nr_ok hq (by show (if c - 48 = 0 then 6 else if rs ≠ 0 ∧ c - 48 < 6 then 7 else 8) = _; rw [if_neg (by omega)]; exact if_neg (by omega))) dX3_next_289
        · refine g_bipush C (nI 7) (by decide) dX3_next_282 ?_
          refine g_goto C 289 dX3_next_284 (by decide) ?_
          have hq : q_take (4, rs, fm, some w, 0) c = some (4, rs, fm, some w, c - 48) := by exact q_tN_ok0 hrs h258
          exact g_iretM C (PN_ok1 hP (r := 8) (by decide) hq (Nat.succ_ne_zero _) (Nat.succ_ne_zero _) hi4 (PRr_num hr)) hS (q_nr_ok hq (by show (if c - 48 = 0 then 6 else if rs ≠ 0 ∧ c - 48 < 6 then 7 else 8) = _; rw [if_neg (by omega)]; exact if_pos (by omega))) dX3_next_289
    · refine g_iconst C (-1) (by decide) dX3_next_261 ?_
      refine g_goto C 289 dX3_next_262 (by decide) ?_
      have hq : q_take (4, rs, fm, some w, 0) c = none := by exact q_tN_no0 (by first | exact h258 | omega)
      exact g_iretM C (PN_no1 hP (r := 8) (by decide) (Nat.succ_ne_zero _) hq) hS (q_nr_no hq) dX3_next_289
  · refine g_tsI C 290 dX3_next_23 (by decide) (by decide) rfl (by decide) ?_
    obtain ⟨hm1, hso⟩ := hr.1 (by show 1 ≤ _; omega)
    have e1 : nI m - nI 1 = nI (m - 1) := pk_sub (by omega)
    rw [e1]
    refine g_iload5 C dX3_next_290 ?_
    refine g_if_eqB C 334 dX3_next_292 (by decide) (fun h292 => ?_) (fun h292 => ?_)
    · refine g_iload2 C dX3_next_334 ?_
      refine g_bipush C (nI 59) (by decide) dX3_next_335 ?_
      refine g_icmp_neN C (by omega) (by omega) 344 dX3_next_337 (by decide) (fun h337 => ?_) (fun h337 => ?_)
      · refine g_iconst C (-1) (by decide) dX3_next_344 ?_
        have hq : q_take (4, 1, fm, some w, n) c = none := by exact q_tN_no1 h337 (by omega)
        exact g_iretM C (PN_no hP hq) hS (q_nr_no hq) dX3_next_345
      · refine g_iconst C (nI 0) (by decide) dX3_next_340 ?_
        refine g_goto C 345 dX3_next_341 (by decide) ?_
        have hq : q_take (4, 1, fm, some w, n) c = some (0, 0, 0, none, 0) := by exact q_tN_end h337 (by omega)
        exact g_iretM C (PN_ok hP hq (Nat.succ_ne_zero _) hi4 (PRr_0)) hS (q_nr_ok hq (rfl)) dX3_next_345
    · have e48 : nI c - nI 48 = nI (c - 48) := pk_sub (by omega)
      rw [e48]
      refine g_bipush C (nI 10) (by decide) dX3_next_295 ?_
      refine g_aload0 C dX3_next_297 ?_
      refine g_get (ci := 3) (T := TX3) (N := 16) C inX3 hK hP 0 rfl rfl 13 (by decide) wf_X3_34 ⟨rfl, rfl, rfl⟩ rfl dX3_next_298 ?_
      refine g_iload4 C dX3_next_301 ?_
      refine g_iald C hK hP 9 0 rfl rfl (by omega) (by decide) dX3_next_303 ?_
      rw [show A 8 (m - 1) = nI n from hr.2.2.2 (by show 0 < n; omega)]
      refine g_imulN C dX3_next_304 ?_
      refine g_iload3 C dX3_next_305 ?_
      refine g_iaddN C dX3_next_306 ?_
      refine g_bipush C (nI 50) (by decide) dX3_next_307 ?_
      refine g_icmp_gtN C (by omega) (by omega) 334 dX3_next_309 (by decide) (fun h309 => ?_) (fun h309 => ?_)
      · refine g_iload2 C dX3_next_334 ?_
        refine g_bipush C (nI 59) (by decide) dX3_next_335 ?_
        refine g_icmp_neN C (by omega) (by omega) 344 dX3_next_337 (by decide) (fun h337 => ?_) (fun h337 => ?_)
        · refine g_iconst C (-1) (by decide) dX3_next_344 ?_
          have hq : q_take (4, 1, fm, some w, n) c = none := by exact q_tN_no1 h337 (by omega)
          exact g_iretM C (PN_no hP hq) hS (q_nr_no hq) dX3_next_345
        · refine g_iconst C (nI 0) (by decide) dX3_next_340 ?_
          refine g_goto C 345 dX3_next_341 (by decide) ?_
          have hq : q_take (4, 1, fm, some w, n) c = some (0, 0, 0, none, 0) := by exact q_tN_end h337 (by omega)
          exact g_iretM C (PN_ok hP hq (Nat.succ_ne_zero _) hi4 (PRr_0)) hS (q_nr_ok hq (rfl)) dX3_next_345
      · refine g_aload0 C dX3_next_312 ?_
        refine g_get (ci := 3) (T := TX3) (N := 16) C inX3 hK hP 0 rfl rfl 13 (by decide) wf_X3_34 ⟨rfl, rfl, rfl⟩ rfl dX3_next_313 ?_
        refine g_iload4 C dX3_next_316 ?_
        refine g_bipush C (nI 10) (by decide) dX3_next_318 ?_
        refine g_aload0 C dX3_next_320 ?_
        refine g_get (ci := 3) (T := TX3) (N := 16) C inX3 hK hP 0 rfl rfl 13 (by decide) wf_X3_34 ⟨rfl, rfl, rfl⟩ rfl dX3_next_321 ?_
        refine g_iload4 C dX3_next_324 ?_
        refine g_iald C hK hP 9 0 rfl rfl (by omega) (by decide) dX3_next_326 ?_
        rw [show A 8 (m - 1) = nI n from hr.2.2.2 (by show 0 < n; omega)]
        refine g_imulN C dX3_next_327 ?_
        refine g_iload3 C dX3_next_328 ?_
        refine g_iaddN C dX3_next_329 ?_
        refine g_iast C hK hP hD hS 9 0 rfl rfl (by omega) (by decide) dX3_next_330 (fun H locs hP hD hS => ?_)
        have hP : va_P (dC, dI) vwCl (MW cI o t (q_s1 A 8 (upd (A 8) (m - 1) (nI (10 * n + (c - 48))))) (i) (h)) H := hP
        have hD : va_D (fun q => q ∈ MA o t) (MW cI o t (q_s1 A 8 (upd (A 8) (m - 1) (nI (10 * n + (c - 48))))) (i) (h)) := hD.fst rfl
        refine g_bipush C (nI 8) (by decide) dX3_next_331 ?_
        have hq : q_take (4, 1, fm, some w, n) c = some (4, 1, fm, some w, 10 * n + (c - 48)) := by exact q_tN_ok1 (by omega) (by omega) (by omega)
        exact g_iretM C (PN_ok1 hP (r := 8) (by decide) hq (Nat.succ_ne_zero _) (Nat.succ_ne_zero _) hi4 (PRr_num hr)) hS (q_nr_ok hq ((if_neg (by omega : ¬ 10 * n + (c - 48) = 0)).trans (if_neg (by omega : ¬ ((1 : Nat) ≠ 0 ∧ 10 * n + (c - 48) < 6))))) dX3_next_333
  · refine g_tsO C 346 dX3_next_23 (by decide) (by decide) ?_
    refine g_iload2 C dX3_next_346 ?_
    refine g_bipush C (nI 59) (by decide) dX3_next_347 ?_
    refine g_icmp_neN C (by omega) (by omega) 356 dX3_next_349 (by decide) (fun h349 => ?_) (fun h349 => ?_)
    · refine g_iconst C (-1) (by decide) dX3_next_356 ?_
      have hq : q_take (4, rs, fm, some w, n) c = none := by exact q_tN_no2 h349 hn1 (fun z => hr1 (by omega))
      exact g_iretM C (PN_no hP hq) hS (q_nr_no hq) dX3_next_357
    · refine g_iconst C (nI 0) (by decide) dX3_next_352 ?_
      refine g_goto C 357 dX3_next_353 (by decide) ?_
      have hq : q_take (4, rs, fm, some w, n) c = some (0, 0, 0, none, 0) := by exact q_tN_end h349 (by omega)
      exact g_iretM C (PN_ok hP hq (Nat.succ_ne_zero _) hi4 (PRr_0)) hS (q_nr_ok hq (rfl)) dX3_next_357
