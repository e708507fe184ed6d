theorem isP_iff {p : Int32} : q_isP p ↔ (¬ p < 0 ∧ p < nI 40) := by rw [← nI_0]; exact rng_iff (a := 0) (b := 39) (by decide) (by decide)
theorem isF_iff {p : Int32} : q_isF p ↔ (¬ p < 0 ∧ p < nI 10) := by rw [← nI_0]; exact rng_iff (a := 0) (b := 9) (by decide) (by decide)
theorem isD_iff {p : Int32} : (nI 1 ≤ p ∧ p ≤ nI 3) ↔ (¬ p < nI 1 ∧ ¬ nI 3 < p) := by
  rw [Int32.not_lt, Int32.not_lt]
theorem isQ_iff {p b : Int32} : (nI 0 ≤ p ∧ p ≤ b) ↔ (¬ p < 0 ∧ ¬ b < p) := by
  rw [Int32.not_lt, Int32.not_lt, nI_0]

set_option maxHeartbeats 4000000 in
set_option maxRecDepth 100000 in
theorem c_X2_needPlot {l : Launch} (hls : l.stackTraces = false) {p : Int32} : vx_Met l yX2_needPlot (.code yX2_needPlot cX2_needPlot 1 none :: WG) (rmC 6 1 6) (va_Pc [.int p] (fun U => XE (fun _ => False) U U.heap)) (bx_S (k_p p)) (bx_C (fun _ => XIO) (k_p p) (fun _ => True) (fun _ => False)) 1 6 (fun _ => False) := by
  refine bx_of [some (.int p)] rfl rfl (Nat.le_of_ble_eq_true rfl) (by decide) ?_
  intro P_ E_ s M_ B_ T_ K_ C hT hv
  have hX0 := hv
  have hS0 : va_S (fun _ => False) s.heap s.heap [] := va_S.rf
  refine g_iload0 C dX2_needPlot_0 ?_
  refine g_if_lt C 10 dX2_needPlot_1 (by decide) (fun h1 => ?_) (fun h1 => ?_)
  · have hk : k_p p = 1 := if_pos (fun z => (isP_iff.mp z).1 h1)
    exact g_thrIO C hT hls hX0 hS0 (List.mem_of_getElem? (i := 10) rfl) rfl dX2_needPlot_10 dX2_needPlot_13 dX2_needPlot_14 dX2_needPlot_16 dX2_needPlot_19 ⟨by decide, by decide, by decide, by decide⟩ ⟨by decide, by decide⟩ (by rw [hk]; decide) (by first | (rw [hk]; rfl) | rfl) (fun _ _ _ => trivial) (fun _ h => h) (fun z hz => absurd hz List.not_mem_nil)
  · refine g_iload0 C dX2_needPlot_4 ?_
    refine g_bipush C (nI 40) (by decide) dX2_needPlot_5 ?_
    refine g_icmp_lt C 20 dX2_needPlot_7 (by decide) (fun h7 => ?_) (fun h7 => ?_)
    · refine g_wd (k := 1) (n := 6) (by decide) (by decide) ?_
      exact g_xvret0 C (by exact k00.mpr (isP_iff.mpr ⟨h1, h7⟩)) dX2_needPlot_20
    · have hk : k_p p = 1 := if_pos (fun z => h7 (isP_iff.mp z).2)
      exact g_thrIO C hT hls hX0 hS0 (List.mem_of_getElem? (i := 10) rfl) rfl dX2_needPlot_10 dX2_needPlot_13 dX2_needPlot_14 dX2_needPlot_16 dX2_needPlot_19 ⟨by decide, by decide, by decide, by decide⟩ ⟨by decide, by decide⟩ (by rw [hk]; decide) (by first | (rw [hk]; rfl) | rfl) (fun _ _ _ => trivial) (fun _ h => h) (fun z hz => absurd hz List.not_mem_nil)

set_option maxHeartbeats 4000000 in
set_option maxRecDepth 100000 in
theorem c_X2_needFamily {l : Launch} (hls : l.stackTraces = false) {p : Int32} : vx_Met l yX2_needFamily (.code yX2_needFamily cX2_needFamily 1 none :: WG) (rmC 6 1 6) (va_Pc [.int p] (fun U => XE (fun _ => False) U U.heap)) (bx_S (k_par p)) (bx_C (fun _ => XIO) (k_par p) (fun _ => True) (fun _ => False)) 1 6 (fun _ => False) := by
  refine bx_of [some (.int p)] rfl rfl (Nat.le_of_ble_eq_true rfl) (by decide) ?_
  intro P_ E_ s M_ B_ T_ K_ C hT hv
  have hX0 := hv
  have hS0 : va_S (fun _ => False) s.heap s.heap [] := va_S.rf
  refine g_iload0 C dX2_needFamily_0 ?_
  refine g_if_lt C 10 dX2_needFamily_1 (by decide) (fun h1 => ?_) (fun h1 => ?_)
  · have hk : k_par p = 1 := if_pos (fun z => (isF_iff.mp z).1 h1)
    exact g_thrIO C hT hls hX0 hS0 (List.mem_of_getElem? (i := 11) rfl) rfl dX2_needFamily_10 dX2_needFamily_13 dX2_needFamily_14 dX2_needFamily_16 dX2_needFamily_19 ⟨by decide, by decide, by decide, by decide⟩ ⟨by decide, by decide⟩ (by rw [hk]; decide) (by first | (rw [hk]; rfl) | rfl) (fun _ _ _ => trivial) (fun _ h => h) (fun z hz => absurd hz List.not_mem_nil)
  · refine g_iload0 C dX2_needFamily_4 ?_
    refine g_bipush C (nI 10) (by decide) dX2_needFamily_5 ?_
    refine g_icmp_lt C 20 dX2_needFamily_7 (by decide) (fun h7 => ?_) (fun h7 => ?_)
    · refine g_wd (k := 1) (n := 6) (by decide) (by decide) ?_
      exact g_xvret0 C (by exact k00.mpr (isF_iff.mpr ⟨h1, h7⟩)) dX2_needFamily_20
    · have hk : k_par p = 1 := if_pos (fun z => h7 (isF_iff.mp z).2)
      exact g_thrIO C hT hls hX0 hS0 (List.mem_of_getElem? (i := 11) rfl) rfl dX2_needFamily_10 dX2_needFamily_13 dX2_needFamily_14 dX2_needFamily_16 dX2_needFamily_19 ⟨by decide, by decide, by decide, by decide⟩ ⟨by decide, by decide⟩ (by rw [hk]; decide) (by first | (rw [hk]; rfl) | rfl) (fun _ _ _ => trivial) (fun _ h => h) (fun z hz => absurd hz List.not_mem_nil)

set_option maxHeartbeats 4000000 in
set_option maxRecDepth 100000 in
theorem c_X2_isDepth {l : Launch} {p : Int32} : Met l yX2_isDepth (.code yX2_isDepth cX2_isDepth 1 (some .boolean) :: WG) (rmL 0) (va_Pc [.int p] (fun _ => True)) (bq_S (.int (bI (nI 1 ≤ p ∧ p ≤ nI 3)))) 0 0 (fun _ => False) := by
  refine bq_of [some (.int p)] rfl rfl (Nat.le_of_ble_eq_true rfl) (by decide) ?_
  intro P_ E_ s M_ B_ T_ K_ C hv
  refine g_iload0 C dX2_isDepth_0 ?_
  refine g_iconst C (nI 1) (by decide) dX2_isDepth_1 ?_
  refine g_icmp_lt C 14 dX2_isDepth_2 (by decide) (fun h2 => ?_) (fun h2 => ?_)
  · refine g_iconst C (nI 0) (by decide) dX2_isDepth_14 ?_
    exact g_iretz C (bI_f (fun z => (isD_iff.mp z).1 h2)) dX2_isDepth_15
  · refine g_iload0 C dX2_isDepth_5 ?_
    refine g_iconst C (nI 3) (by decide) dX2_isDepth_6 ?_
    refine g_icmp_gt C 14 dX2_isDepth_7 (by decide) (fun h7 => ?_) (fun h7 => ?_)
    · refine g_iconst C (nI 0) (by decide) dX2_isDepth_14 ?_
      exact g_iretz C (bI_f (fun z => (isD_iff.mp z).2 h7)) dX2_isDepth_15
    · refine g_iconst C (nI 1) (by decide) dX2_isDepth_10 ?_
      refine g_goto C 15 dX2_isDepth_11 (by decide) ?_
      exact g_iretz C (bI_t (isD_iff.mpr ⟨h2, h7⟩)) dX2_isDepth_15

set_option maxHeartbeats 4000000 in
set_option maxRecDepth 100000 in
theorem c_X2_needDepth {l : Launch} (hls : l.stackTraces = false) {p : Int32} : vx_Met l yX2_needDepth (.code yX2_needDepth cX2_needDepth 1 none :: WG) (rmC 6 1 6) (va_Pc [.int p] (fun U => XE (fun _ => False) U U.heap)) (bx_S (k_d p)) (bx_C (fun _ => XIA) (k_d p) (fun _ => True) (fun _ => False)) 1 6 (fun _ => False) := by
  refine bx_of [some (.int p)] rfl rfl (Nat.le_of_ble_eq_true rfl) (by decide) ?_
  intro P_ E_ s M_ B_ T_ K_ C hT hv
  have hX0 := hv
  have hS0 : va_S (fun _ => False) s.heap s.heap [] := va_S.rf
  refine g_iload0 C dX2_needDepth_0 ?_
  refine g_scS1 C (c_X2_isDepth) wl_X2_155 wt_X2_isDepth wn_X2 wc_X2_isDepth (by decide +kernel) ⟨rfl, rfl, by decide, by decide⟩ rfl (by simp [Value.category]) ⟨by decide, by decide⟩ dX2_needDepth_1 ?_
  refine g_if_neB C 17 dX2_needDepth_4 (by decide) (fun h4 => ?_) (fun h4 => ?_)
  · refine g_wd (k := 1) (n := 6) (by decide) (by decide) ?_
    exact g_xvret0 C (by exact k00.mpr h4) dX2_needDepth_17
  · have hk : k_d p = 1 := if_pos h4
    exact g_thrIA C hT hls hX0 hS0 (List.mem_of_getElem? (i := 12) rfl) rfl dX2_needDepth_7 dX2_needDepth_10 dX2_needDepth_11 dX2_needDepth_13 dX2_needDepth_16 ⟨by decide, by decide, by decide, by decide⟩ ⟨by decide, by decide⟩ (by rw [hk]; decide) (by first | (rw [hk]; rfl) | rfl) (fun _ _ _ => trivial) (fun _ h => h) (fun z hz => absurd hz List.not_mem_nil)

set_option maxHeartbeats 4000000 in
set_option maxRecDepth 100000 in
theorem c_X2_needProperty {l : Launch} (hls : l.stackTraces = false) {p : Int32} {b : Nat} : vx_Met l yX2_needProperty (.code yX2_needProperty cX2_needProperty 2 none :: WG) (rmC 6 1 6) (va_Pc [.int p, .int (nI b)] (fun U => XE (fun _ => False) U U.heap)) (bx_S (k_q p b)) (bx_C (fun _ => XIA) (k_q p b) (fun _ => True) (fun _ => False)) 1 6 (fun _ => False) := by
  refine bx_of [some (.int p), some (.int (nI b))] rfl rfl (Nat.le_of_ble_eq_true rfl) (by decide) ?_
  intro P_ E_ s M_ B_ T_ K_ C hT hv
  have hX0 := hv
  have hS0 : va_S (fun _ => False) s.heap s.heap [] := va_S.rf
  refine g_iload0 C dX2_needProperty_0 ?_
  refine g_if_lt C 9 dX2_needProperty_1 (by decide) (fun h1 => ?_) (fun h1 => ?_)
  · have hk : k_q p b = 1 := if_pos (fun z => (isQ_iff.mp z).1 h1)
    exact g_thrIA C hT hls hX0 hS0 (List.mem_of_getElem? (i := 13) rfl) rfl dX2_needProperty_9 dX2_needProperty_12 dX2_needProperty_13 dX2_needProperty_15 dX2_needProperty_18 ⟨by decide, by decide, by decide, by decide⟩ ⟨by decide, by decide⟩ (by rw [hk]; decide) (by first | (rw [hk]; rfl) | rfl) (fun _ _ _ => trivial) (fun _ h => h) (fun z hz => absurd hz List.not_mem_nil)
  · refine g_iload0 C dX2_needProperty_4 ?_
    refine g_iload1 C dX2_needProperty_5 ?_
    refine g_icmp_le C 19 dX2_needProperty_6 (by decide) (fun h6 => ?_) (fun h6 => ?_)
    · refine g_wd (k := 1) (n := 6) (by decide) (by decide) ?_
      exact g_xvret0 C (by exact k00.mpr (isQ_iff.mpr ⟨h1, Int32.not_lt.mpr h6⟩)) dX2_needProperty_19
    · have hk : k_q p b = 1 := if_pos (fun z => h6 z.2)
      exact g_thrIA C hT hls hX0 hS0 (List.mem_of_getElem? (i := 13) rfl) rfl dX2_needProperty_9 dX2_needProperty_12 dX2_needProperty_13 dX2_needProperty_15 dX2_needProperty_18 ⟨by decide, by decide, by decide, by decide⟩ ⟨by decide, by decide⟩ (by rw [hk]; decide) (by first | (rw [hk]; rfl) | rfl) (fun _ _ _ => trivial) (fun _ h => h) (fun z hz => absurd hz List.not_mem_nil)
