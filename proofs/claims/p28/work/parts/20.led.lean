set_option maxHeartbeats 4000000 in
set_option maxRecDepth 100000 in
theorem c_X1_isOther {l : Launch} {x f : Int32} : Met l yX1_isOther (.code yX1_isOther cX1_isOther 2 (some .boolean) :: WG) (rmL 0) (va_Pc [.int x, .int f] (fun _ => True)) (bq_S (.int (bI (q_oth x f)))) 0 0 (fun _ => False) := by
  refine bq_of [some (.int x), some (.int f)] rfl rfl (Nat.le_of_ble_eq_true rfl) (by decide) ?_
  intro P_ E_ s M_ B_ T_ K_ C hv
  refine g_iload0 C dX1_isOther_0 ?_
  refine g_iconst C (-1) (by decide) dX1_isOther_1 ?_
  refine g_icmp_eq C 14 dX1_isOther_2 (by decide) (fun h2 => ?_) (fun h2 => ?_)
  · refine g_iconst C (nI 0) (by decide) dX1_isOther_14 ?_
    exact g_iretz C (by simp [bI, q_oth, h2]) dX1_isOther_15
  · refine g_iload0 C dX1_isOther_5 ?_
    refine g_iload1 C dX1_isOther_6 ?_
    refine g_icmp_eq C 14 dX1_isOther_7 (by decide) (fun h7 => ?_) (fun h7 => ?_)
    · refine g_iconst C (nI 0) (by decide) dX1_isOther_14 ?_
      exact g_iretz C (by simp [bI, q_oth, h2, h7]) dX1_isOther_15
    · refine g_iconst C (nI 1) (by decide) dX1_isOther_10 ?_
      refine g_goto C 15 dX1_isOther_11 (by decide) ?_
      exact g_iretz C (by simp [bI, q_oth, h2, h7]) dX1_isOther_15

set_option maxHeartbeats 4000000 in
set_option maxRecDepth 100000 in
theorem c_X1_placeOf {l : Launch} {p dep : Nat} (hp : p < 40) (hd1 : 1 ≤ dep) (hd3 : dep ≤ 3) : Met l yX1_placeOf (.code yX1_placeOf cX1_placeOf 2 (some .int) :: WG) (rmL 0) (va_Pc [.int (nI p), .int (nI dep)] (fun _ => True)) (bq_S (.int (nI (p * 3 + (dep - 1))))) 0 0 (fun _ => False) := by
  refine bq_of [some (.int (nI p)), some (.int (nI dep))] rfl rfl (Nat.le_of_ble_eq_true rfl) (by decide) ?_
  intro P_ E_ s M_ B_ T_ K_ C hv
  refine g_iload0 C dX1_placeOf_0 ?_
  refine g_iconst C (nI 3) (by decide) dX1_placeOf_1 ?_
  refine g_imulN C dX1_placeOf_2 ?_
  refine g_iload1 C dX1_placeOf_3 ?_
  refine g_iaddN C dX1_placeOf_4 ?_
  refine g_iconst C (nI 1) (by decide) dX1_placeOf_5 ?_
  refine g_isubN C (by omega) dX1_placeOf_6 ?_
  exact g_ireti C (congrArg nI (by omega)) dX1_placeOf_7

set_option maxHeartbeats 4000000 in
set_option maxRecDepth 100000 in
theorem c_X1_priceFor {l : Launch} {dC : Nat → ClassId} {dI : Nat → Nat → Nat} {cI cL cJ : ClassId} {g1 g2 a : Nat} {t : Nat → Nat} {y : Int32} {d : RW} {r : Int64} {f : Nat} {x : Int32} (hf : f < 10) : Met l yX1_priceFor (.code yX1_priceFor cX1_priceFor 3 (some .int) :: WG) (rmL 0) (va_Pc [.ref a, .int (nI f), .int x] (LDP dC dI cI cL cJ g1 g2 a t y d r)) (bq_S (.int (q_pr d f x))) 0 0 (fun _ => False) := by
  refine bq_of [some (.ref a), some (.int (nI f)), some (.int x)] rfl rfl (Nat.le_of_ble_eq_true rfl) (by decide) ?_
  intro P_ E_ s M_ B_ T_ K_ C hv
  obtain ⟨hP, hK, hZ⟩ := hv
  have hS : va_S (fun _ => False) s.heap s.heap [] := va_S.rf
  refine g_aload0 C dX1_priceFor_0 ?_
  refine g_get (ci := 1) (T := TX1) (N := 12) C inX1 hK hP 0 rfl rfl 1 (by decide) wf_X1_15 ⟨rfl, rfl, rfl⟩ rfl dX1_priceFor_1 ?_
  refine g_iload1 C dX1_priceFor_4 ?_
  refine g_iald C hK hP 1 0 rfl rfl (by omega) (by decide) dX1_priceFor_5 ?_
  refine g_iconst C (nI 1) (by decide) dX1_priceFor_6 ?_
  refine g_icmp_ne C 14 dX1_priceFor_7 (by decide) (fun h7 => ?_) (fun h7 => ?_)
  · refine g_iconst C (nI 2) (by decide) dX1_priceFor_14 ?_
    refine g_iload2 C dX1_priceFor_15 ?_
    refine g_imul C dX1_priceFor_16 ?_
    exact g_ireti C (by simp [q_pr, h7]) dX1_priceFor_17
  · refine g_iload2 C dX1_priceFor_10 ?_
    refine g_goto C 17 dX1_priceFor_11 (by decide) ?_
    exact g_ireti C (by simp [q_pr, h7]) dX1_priceFor_17

set_option maxHeartbeats 4000000 in
set_option maxRecDepth 100000 in
theorem c_X1_burialsIn {l : Launch} {dC : Nat → ClassId} {dI : Nat → Nat → Nat} {cI cL cJ : ClassId} {g1 g2 a : Nat} {t : Nat → Nat} {y : Int32} {d : RW} {r : Int64} {p : Nat} (hp : p < 40) : Met l yX1_burialsIn (.code yX1_burialsIn cX1_burialsIn 5 (some .int) :: WG) (rmL 0) (va_Pc [.ref a, .int (nI p)] (LDP dC dI cI cL cJ g1 g2 a t y d r)) (bq_S (.int (nI (q_bur d p)))) 0 0 (fun _ => False) := by
  refine bq_of [some (.ref a), some (.int (nI p)), none, none, none] rfl rfl (Nat.le_of_ble_eq_true rfl) (by decide) ?_
  intro P_ E_ s M_ B_ T_ K_ C hv
  obtain ⟨hP, hK, hZ⟩ := hv
  have hS : va_S (fun _ => False) s.heap s.heap [] := va_S.rf
  refine g_iconst C (nI 0) (by decide) dX1_burialsIn_0 ?_
  refine g_istore2 C rfl dX1_burialsIn_1 ?_
  refine g_iload1 C dX1_burialsIn_2 ?_
  refine g_iconst C (nI 3) (by decide) dX1_burialsIn_3 ?_
  refine g_imulN C dX1_burialsIn_4 ?_
  refine g_istore3 C rfl dX1_burialsIn_5 ?_
  refine g_iload3 C dX1_burialsIn_6 ?_
  refine g_istore4 C rfl dX1_burialsIn_7 ?_
  refine g_lp2 (fun (j : Nat) (x : Nat) => j ≤ 3 ∧ x = q_cn (fun i => d 7 (p * 3 + i) ≠ -1) j) (fun (j : Nat) (x : Nat) => 3 - j) (fun (j : Nat) (x : Nat) => [some (.ref a), some (.int (nI p)), some (.int (nI x)), some (.int (nI (p * 3))), some (.int (nI (p * 3 + j)))]) 0 0 ⟨by omega, rfl⟩ rfl ?_
  rintro j x ⟨hj, hx⟩ ih
  try dsimp only at ih ⊢
  refine g_iload4 C dX1_burialsIn_9 ?_
  refine g_iload3 C dX1_burialsIn_11 ?_
  refine g_iconst C (nI 3) (by decide) dX1_burialsIn_12 ?_
  refine g_iaddN C dX1_burialsIn_13 ?_
  refine g_icmp_geN C (by omega) (by omega) 37 dX1_burialsIn_14 (by decide) (fun h14 => ?_) (fun h14 => ?_)
  · refine g_iload2 C dX1_burialsIn_37 ?_
    exact g_ireti C (by rw [hx, show j = 3 by omega]; rfl) dX1_burialsIn_38
  · refine g_aload0 C dX1_burialsIn_17 ?_
    refine g_get (ci := 1) (T := TX1) (N := 12) C inX1 hK hP 0 rfl rfl 8 (by decide) wf_X1_37 ⟨rfl, rfl, rfl⟩ rfl dX1_burialsIn_18 ?_
    refine g_iload4 C dX1_burialsIn_21 ?_
    refine g_iald C hK hP 8 0 rfl rfl (by omega) (by decide) dX1_burialsIn_23 ?_
    refine g_iconst C (-1) (by decide) dX1_burialsIn_24 ?_
    refine g_icmp_eq C 31 dX1_burialsIn_25 (by decide) (fun h25 => ?_) (fun h25 => ?_)
    · refine g_iinc4 C _ rfl dX1_burialsIn_31 (nI_1 _) ?_
      refine g_goto C 9 dX1_burialsIn_34 (by decide) ?_
      exact ih (j + 1) _ ⟨by omega, by first | rw [q_cn_t (P := fun i => d 7 (p * 3 + i) ≠ -1) h25, hx] | rw [q_cn_f (P := fun i => d 7 (p * 3 + i) ≠ -1) (fun z => z h25), hx]⟩ (by show 3 - (j + 1) < 3 - j; omega)
    · refine g_iinc2 C _ rfl dX1_burialsIn_28 (nI_1 _) ?_
      refine g_iinc4 C _ rfl dX1_burialsIn_31 (nI_1 _) ?_
      refine g_goto C 9 dX1_burialsIn_34 (by decide) ?_
      exact ih (j + 1) _ ⟨by omega, by first | rw [q_cn_t (P := fun i => d 7 (p * 3 + i) ≠ -1) h25, hx] | rw [q_cn_f (P := fun i => d 7 (p * 3 + i) ≠ -1) (fun z => z h25), hx]⟩ (by show 3 - (j + 1) < 3 - j; omega)

set_option maxHeartbeats 4000000 in
set_option maxRecDepth 100000 in
theorem c_X1_endOfRest {l : Launch} {dC : Nat → ClassId} {dI : Nat → Nat → Nat} {cI cL cJ : ClassId} {g1 g2 a : Nat} {t : Nat → Nat} {y : Int32} {d : RW} {r : Int64} {k : Nat} (hk : k < 120) (hki : INV d) (h3 : d 3 (k / 3) ≠ nI 3) : Met l yX1_endOfRest (.code yX1_endOfRest cX1_endOfRest 2 (some .int) :: WG) (rmL 0) (va_Pc [.ref a, .int (nI k)] (LDP dC dI cI cL cJ g1 g2 a t y d r)) (bq_S (.int (q_eor d k))) 0 0 (fun _ => False) := by
  refine bq_of [some (.ref a), some (.int (nI k))] rfl rfl (Nat.le_of_ble_eq_true rfl) (by decide) ?_
  intro P_ E_ s M_ B_ T_ K_ C hv
  obtain ⟨hP, hK, hZ⟩ := hv
  have hS : va_S (fun _ => False) s.heap s.heap [] := va_S.rf
  refine g_aload0 C dX1_endOfRest_0 ?_
  refine g_get (ci := 1) (T := TX1) (N := 12) C inX1 hK hP 0 rfl rfl 9 (by decide) wf_X1_40 ⟨rfl, rfl, rfl⟩ rfl dX1_endOfRest_1 ?_
  refine g_iload1 C dX1_endOfRest_4 ?_
  refine g_iald C hK hP 9 0 rfl rfl (by omega) (by decide) dX1_endOfRest_5 ?_
  refine g_gets C hZ.2.2.1 hS wf_X1_94 dX1_endOfRest_6 ?_
  refine g_aload0 C dX1_endOfRest_9 ?_
  refine g_get (ci := 1) (T := TX1) (N := 12) C inX1 hK hP 0 rfl rfl 4 (by decide) wf_X1_25 ⟨rfl, rfl, rfl⟩ rfl dX1_endOfRest_10 ?_
  refine g_iload1 C dX1_endOfRest_13 ?_
  refine g_iconst C (nI 3) (by decide) dX1_endOfRest_14 ?_
  refine g_idivN C (by omega) (by omega) (by omega) dX1_endOfRest_15 ?_
  refine g_iald C hK hP 4 0 rfl rfl (by omega) (by decide) dX1_endOfRest_16 ?_
  obtain ⟨kd, hkd, ekd⟩ := hki.1 (k / 3) (by omega)
  rw [ekd]
  refine g_ti C hZ.2.2.2 hS (by omega) (by decide) dX1_endOfRest_17 ?_
  refine g_iadd C dX1_endOfRest_18 ?_
  exact g_ireti C (by rw [ekd] at h3; unfold q_eor q_yr; rw [ekd]; rcases (show kd = 0 ∨ kd = 1 ∨ kd = 2 ∨ kd = 3 by omega) with rfl | rfl | rfl | rfl <;> first | exact absurd rfl h3 | rfl) dX1_endOfRest_19

set_option maxHeartbeats 4000000 in
set_option maxRecDepth 100000 in
theorem c_X1_isResting {l : Launch} {dC : Nat → ClassId} {dI : Nat → Nat → Nat} {cI cL cJ : ClassId} {g1 g2 a : Nat} {t : Nat → Nat} {y : Int32} {d : RW} {r : Int64} {k : Nat} {yr : Int32} (hk : k < 120) (hki : INV d) : Met l yX1_isResting (.code yX1_isResting cX1_isResting 3 (some .boolean) :: WG) (rmL 1) (va_Pc [.ref a, .int (nI k), .int yr] (LDP dC dI cI cL cJ g1 g2 a t y d r)) (bq_S (.int (bI (q_rst d yr k)))) 0 0 (fun _ => False) := by
  refine bq_of [some (.ref a), some (.int (nI k)), some (.int yr)] rfl rfl (Nat.le_of_ble_eq_true rfl) (by decide) ?_
  intro P_ E_ s M_ B_ T_ K_ C hv
  obtain ⟨hP, hK, hZ⟩ := hv
  have hS : va_S (fun _ => False) s.heap s.heap [] := va_S.rf
  refine g_aload0 C dX1_isResting_0 ?_
  refine g_get (ci := 1) (T := TX1) (N := 12) C inX1 hK hP 0 rfl rfl 8 (by decide) wf_X1_37 ⟨rfl, rfl, rfl⟩ rfl dX1_isResting_1 ?_
  refine g_iload1 C dX1_isResting_4 ?_
  refine g_iald C hK hP 8 0 rfl rfl (by omega) (by decide) dX1_isResting_5 ?_
  refine g_iconst C (-1) (by decide) dX1_isResting_6 ?_
  refine g_icmp_eq C 23 dX1_isResting_7 (by decide) (fun h7 => ?_) (fun h7 => ?_)
  · refine g_iconst C (nI 0) (by decide) dX1_isResting_23 ?_
    exact g_iretz C (bI_f (fun z => z.1 h7)) dX1_isResting_24
  · refine g_iload2 C dX1_isResting_10 ?_
    refine g_aload0 C dX1_isResting_11 ?_
    refine g_iload1 C dX1_isResting_12 ?_
    refine g_lcV1 C hK hP hZ hS (c_X1_endOfRest hk hki (hki.2.1 k hk h7)) wl_X1_97 wi_X1_endOfRest wv_X1_endOfRest wc_X1_endOfRest (by decide +kernel) ⟨rfl, rfl, by decide, by decide⟩ rfl (by simp [Value.category]) ⟨by decide, by decide⟩ dX1_isResting_13 ?_
    refine g_icmp_ge C 23 dX1_isResting_16 (by decide) (fun h16 => ?_) (fun h16 => ?_)
    · refine g_iconst C (nI 0) (by decide) dX1_isResting_23 ?_
      exact g_iretz C (by first | exact bI_t ⟨h7, Int32.not_le.mp h16⟩ | exact bI_f (fun z => absurd z.2 (Int32.not_lt.mpr h16))) dX1_isResting_24
    · refine g_iconst C (nI 1) (by decide) dX1_isResting_19 ?_
      refine g_goto C 24 dX1_isResting_20 (by decide) ?_
      exact g_iretz C (by first | exact bI_t ⟨h7, Int32.not_le.mp h16⟩ | exact bI_f (fun z => absurd z.2 (Int32.not_lt.mpr h16))) dX1_isResting_24

set_option maxHeartbeats 4000000 in
set_option maxRecDepth 100000 in
theorem c_X1_restingBurials {l : Launch} {dC : Nat → ClassId} {dI : Nat → Nat → Nat} {cI cL cJ : ClassId} {g1 g2 a : Nat} {t : Nat → Nat} {y : Int32} {d : RW} {r : Int64} {p : Nat} (hp : p < 40) (hki : INV d) : Met l yX1_restingBurials (.code yX1_restingBurials cX1_restingBurials 5 (some .int) :: WG) (rmL 2) (va_Pc [.ref a, .int (nI p)] (LDP dC dI cI cL cJ g1 g2 a t y d r)) (bq_S (.int (nI (q_rsn d y p)))) 0 0 (fun _ => False) := by
  refine bq_of [some (.ref a), some (.int (nI p)), none, none, none] rfl rfl (Nat.le_of_ble_eq_true rfl) (by decide) ?_
  intro P_ E_ s M_ B_ T_ K_ C hv
  obtain ⟨hP, hK, hZ⟩ := hv
  have hS : va_S (fun _ => False) s.heap s.heap [] := va_S.rf
  refine g_iconst C (nI 0) (by decide) dX1_restingBurials_0 ?_
  refine g_istore2 C rfl dX1_restingBurials_1 ?_
  refine g_iload1 C dX1_restingBurials_2 ?_
  refine g_iconst C (nI 3) (by decide) dX1_restingBurials_3 ?_
  refine g_imulN C dX1_restingBurials_4 ?_
  refine g_istore3 C rfl dX1_restingBurials_5 ?_
  refine g_iload3 C dX1_restingBurials_6 ?_
  refine g_istore4 C rfl dX1_restingBurials_7 ?_
  refine g_lp2 (fun (j : Nat) (x : Nat) => j ≤ 3 ∧ x = q_cn (fun i => q_rst d y (p * 3 + i)) j) (fun (j : Nat) (x : Nat) => 3 - j) (fun (j : Nat) (x : Nat) => [some (.ref a), some (.int (nI p)), some (.int (nI x)), some (.int (nI (p * 3))), some (.int (nI (p * 3 + j)))]) 0 0 ⟨by omega, rfl⟩ rfl ?_
  rintro j x ⟨hj, hx⟩ ih
  try dsimp only at ih ⊢
  refine g_iload4 C dX1_restingBurials_9 ?_
  refine g_iload3 C dX1_restingBurials_11 ?_
  refine g_iconst C (nI 3) (by decide) dX1_restingBurials_12 ?_
  refine g_iaddN C dX1_restingBurials_13 ?_
  refine g_icmp_geN C (by omega) (by omega) 39 dX1_restingBurials_14 (by decide) (fun h14 => ?_) (fun h14 => ?_)
  · refine g_iload2 C dX1_restingBurials_39 ?_
    exact g_ireti C (by rw [hx, show j = 3 by omega]; rfl) dX1_restingBurials_40
  · refine g_aload0 C dX1_restingBurials_17 ?_
    refine g_iload4 C dX1_restingBurials_18 ?_
    refine g_aload0 C dX1_restingBurials_20 ?_
    refine g_get (ci := 1) (T := TX1) (N := 12) C inX1 hK hP 0 rfl rfl 0 (by decide) wf_X1_9 ⟨rfl, rfl, rfl⟩ rfl dX1_restingBurials_21 ?_
    refine g_lcV2 C hK hP hZ hS (c_X1_isResting (by omega) hki) wl_X1_100 wi_X1_isResting wv_X1_isResting wc_X1_isResting (by decide +kernel) ⟨rfl, rfl, by decide, by decide⟩ rfl (by simp [Value.category]) ⟨by decide, by decide⟩ dX1_restingBurials_24 ?_
    refine g_if_eqB C 33 dX1_restingBurials_27 (by decide) (fun h27 => ?_) (fun h27 => ?_)
    · refine g_iinc4 C _ rfl dX1_restingBurials_33 (nI_1 _) ?_
      refine g_goto C 9 dX1_restingBurials_36 (by decide) ?_
      exact ih (j + 1) _ ⟨by omega, by first | rw [q_cn_t (P := fun i => q_rst d y (p * 3 + i)) h27, hx] | rw [q_cn_f (P := fun i => q_rst d y (p * 3 + i)) h27, hx]⟩ (by show 3 - (j + 1) < 3 - j; omega)
    · refine g_iinc2 C _ rfl dX1_restingBurials_30 (nI_1 _) ?_
      refine g_iinc4 C _ rfl dX1_restingBurials_33 (nI_1 _) ?_
      refine g_goto C 9 dX1_restingBurials_36 (by decide) ?_
      exact ih (j + 1) _ ⟨by omega, by first | rw [q_cn_t (P := fun i => q_rst d y (p * 3 + i)) h27, hx] | rw [q_cn_f (P := fun i => q_rst d y (p * 3 + i)) h27, hx]⟩ (by show 3 - (j + 1) < 3 - j; omega)

set_option maxHeartbeats 4000000 in
set_option maxRecDepth 100000 in
theorem c_X1_isReservedIn {l : Launch} {dC : Nat → ClassId} {dI : Nat → Nat → Nat} {cI cL cJ : ClassId} {g1 g2 a : Nat} {t : Nat → Nat} {y : Int32} {d : RW} {r : Int64} {p : Nat} {yr : Int32} (hp : p < 40) : Met l yX1_isReservedIn (.code yX1_isReservedIn cX1_isReservedIn 3 (some .boolean) :: WG) (rmL 0) (va_Pc [.ref a, .int (nI p), .int yr] (LDP dC dI cI cL cJ g1 g2 a t y d r)) (bq_S (.int (bI (q_kept d yr p)))) 0 0 (fun _ => False) := by
  refine bq_of [some (.ref a), some (.int (nI p)), some (.int yr)] rfl rfl (Nat.le_of_ble_eq_true rfl) (by decide) ?_
  intro P_ E_ s M_ B_ T_ K_ C hv
  obtain ⟨hP, hK, hZ⟩ := hv
  have hS : va_S (fun _ => False) s.heap s.heap [] := va_S.rf
  refine g_aload0 C dX1_isReservedIn_0 ?_
  refine g_get (ci := 1) (T := TX1) (N := 12) C inX1 hK hP 0 rfl rfl 6 (by decide) wf_X1_31 ⟨rfl, rfl, rfl⟩ rfl dX1_isReservedIn_1 ?_
  refine g_iload1 C dX1_isReservedIn_4 ?_
  refine g_iald C hK hP 6 0 rfl rfl (by omega) (by decide) dX1_isReservedIn_5 ?_
  refine g_iconst C (-1) (by decide) dX1_isReservedIn_6 ?_
  refine g_icmp_eq C 24 dX1_isReservedIn_7 (by decide) (fun h7 => ?_) (fun h7 => ?_)
  · refine g_iconst C (nI 0) (by decide) dX1_isReservedIn_24 ?_
    exact g_iretz C (bI_f (fun z => z.1 h7)) dX1_isReservedIn_25
  · refine g_iload2 C dX1_isReservedIn_10 ?_
    refine g_aload0 C dX1_isReservedIn_11 ?_
    refine g_get (ci := 1) (T := TX1) (N := 12) C inX1 hK hP 0 rfl rfl 7 (by decide) wf_X1_34 ⟨rfl, rfl, rfl⟩ rfl dX1_isReservedIn_12 ?_
    refine g_iload1 C dX1_isReservedIn_15 ?_
    refine g_iald C hK hP 7 0 rfl rfl (by omega) (by decide) dX1_isReservedIn_16 ?_
    refine g_icmp_gt C 24 dX1_isReservedIn_17 (by decide) (fun h17 => ?_) (fun h17 => ?_)
    · refine g_iconst C (nI 0) (by decide) dX1_isReservedIn_24 ?_
      exact g_iretz C (by first | exact bI_t ⟨h7, Int32.not_lt.mp h17⟩ | exact bI_f (fun z => absurd z.2 (Int32.not_le.mpr h17))) dX1_isReservedIn_25
    · refine g_iconst C (nI 1) (by decide) dX1_isReservedIn_20 ?_
      refine g_goto C 25 dX1_isReservedIn_21 (by decide) ?_
      exact g_iretz C (by first | exact bI_t ⟨h7, Int32.not_lt.mp h17⟩ | exact bI_f (fun z => absurd z.2 (Int32.not_le.mpr h17))) dX1_isReservedIn_25

set_option maxHeartbeats 4000000 in
set_option maxRecDepth 100000 in
theorem c_X1_hasReservation {l : Launch} {dC : Nat → ClassId} {dI : Nat → Nat → Nat} {cI cL cJ : ClassId} {g1 g2 a : Nat} {t : Nat → Nat} {y : Int32} {d : RW} {r : Int64} {f p : Nat} (hf : f < 10) (hp : p < 40) : Met l yX1_hasReservation (.code yX1_hasReservation cX1_hasReservation 3 (some .boolean) :: WG) (rmL 1) (va_Pc [.ref a, .int (nI f), .int (nI p)] (LDP dC dI cI cL cJ g1 g2 a t y d r)) (bq_S (.int (bI (d 5 p = nI f ∧ q_kept d y p)))) 0 0 (fun _ => False) := by
  refine bq_of [some (.ref a), some (.int (nI f)), some (.int (nI p))] rfl rfl (Nat.le_of_ble_eq_true rfl) (by decide) ?_
  intro P_ E_ s M_ B_ T_ K_ C hv
  obtain ⟨hP, hK, hZ⟩ := hv
  have hS : va_S (fun _ => False) s.heap s.heap [] := va_S.rf
  refine g_aload0 C dX1_hasReservation_0 ?_
  refine g_get (ci := 1) (T := TX1) (N := 12) C inX1 hK hP 0 rfl rfl 6 (by decide) wf_X1_31 ⟨rfl, rfl, rfl⟩ rfl dX1_hasReservation_1 ?_
  refine g_iload2 C dX1_hasReservation_4 ?_
  refine g_iald C hK hP 6 0 rfl rfl (by omega) (by decide) dX1_hasReservation_5 ?_
  refine g_iload1 C dX1_hasReservation_6 ?_
  refine g_icmp_ne C 26 dX1_hasReservation_7 (by decide) (fun h7 => ?_) (fun h7 => ?_)
  · refine g_iconst C (nI 0) (by decide) dX1_hasReservation_26 ?_
    exact g_iretz C (bI_f (fun z => h7 z.1)) dX1_hasReservation_27
  · refine g_aload0 C dX1_hasReservation_10 ?_
    refine g_iload2 C dX1_hasReservation_11 ?_
    refine g_aload0 C dX1_hasReservation_12 ?_
    refine g_get (ci := 1) (T := TX1) (N := 12) C inX1 hK hP 0 rfl rfl 0 (by decide) wf_X1_9 ⟨rfl, rfl, rfl⟩ rfl dX1_hasReservation_13 ?_
    refine g_lcV2 C hK hP hZ hS (c_X1_isReservedIn (by omega)) wl_X1_108 wi_X1_isReservedIn wv_X1_isReservedIn wc_X1_isReservedIn (by decide +kernel) ⟨rfl, rfl, by decide, by decide⟩ rfl (by simp [Value.category]) ⟨by decide, by decide⟩ dX1_hasReservation_16 ?_
    refine g_if_eqB C 26 dX1_hasReservation_19 (by decide) (fun h19 => ?_) (fun h19 => ?_)
    · refine g_iconst C (nI 0) (by decide) dX1_hasReservation_26 ?_
      exact g_iretz C (by first | exact bI_t ⟨by simpa using h7, h19⟩ | exact bI_f (fun z => h19 z.2)) dX1_hasReservation_27
    · refine g_iconst C (nI 1) (by decide) dX1_hasReservation_22 ?_
      refine g_goto C 27 dX1_hasReservation_23 (by decide) ?_
      exact g_iretz C (by first | exact bI_t ⟨by simpa using h7, h19⟩ | exact bI_f (fun z => h19 z.2)) dX1_hasReservation_27

set_option maxHeartbeats 4000000 in
set_option maxRecDepth 100000 in
theorem c_X1_holder {l : Launch} {dC : Nat → ClassId} {dI : Nat → Nat → Nat} {cI cL cJ : ClassId} {g1 g2 a : Nat} {t : Nat → Nat} {y : Int32} {d : RW} {r : Int64} {p : Nat} {yr : Int32} (hp : p < 40) (hki : INV d) : Met l yX1_holder (.code yX1_holder cX1_holder 5 (some .int) :: WG) (rmL 2) (va_Pc [.ref a, .int (nI p), .int yr] (LDP dC dI cI cL cJ g1 g2 a t y d r)) (bq_S (.int (q_hold d yr p))) 0 0 (fun _ => False) := by
  refine bq_of [some (.ref a), some (.int (nI p)), some (.int yr), none, none] rfl rfl (Nat.le_of_ble_eq_true rfl) (by decide) ?_
  intro P_ E_ s M_ B_ T_ K_ C hv
  obtain ⟨hP, hK, hZ⟩ := hv
  have hS : va_S (fun _ => False) s.heap s.heap [] := va_S.rf
  refine g_aload0 C dX1_holder_0 ?_
  refine g_get (ci := 1) (T := TX1) (N := 12) C inX1 hK hP 0 rfl rfl 5 (by decide) wf_X1_28 ⟨rfl, rfl, rfl⟩ rfl dX1_holder_1 ?_
  refine g_iload1 C dX1_holder_4 ?_
  refine g_iald C hK hP 5 0 rfl rfl (by omega) (by decide) dX1_holder_5 ?_
  refine g_iconst C (-1) (by decide) dX1_holder_6 ?_
  refine g_icmp_eq C 17 dX1_holder_7 (by decide) (fun h7 => ?_) (fun h7 => ?_)
  · refine g_aload0 C dX1_holder_17 ?_
    refine g_iload1 C dX1_holder_18 ?_
    refine g_iload2 C dX1_holder_19 ?_
    refine g_lcV2 C hK hP hZ hS (c_X1_isReservedIn (by omega)) wl_X1_108 wi_X1_isReservedIn wv_X1_isReservedIn wc_X1_isReservedIn (by decide +kernel) ⟨rfl, rfl, by decide, by decide⟩ rfl (by simp [Value.category]) ⟨by decide, by decide⟩ dX1_holder_20 ?_
    refine g_if_eqB C 33 dX1_holder_23 (by decide) (fun h23 => ?_) (fun h23 => ?_)
    · refine g_iload1 C dX1_holder_33 ?_
      refine g_iconst C (nI 3) (by decide) dX1_holder_34 ?_
      refine g_imulN C dX1_holder_35 ?_
      refine g_istore3 C rfl dX1_holder_36 ?_
      refine g_iload3 C dX1_holder_37 ?_
      refine g_istore4 C rfl dX1_holder_38 ?_
      refine g_lp1 (fun (j : Nat) => j ≤ 3 ∧ ∀ i, i < j → ¬ q_rst d yr (p * 3 + i)) (fun (j : Nat) => 3 - j) (fun (j : Nat) => [some (.ref a), some (.int (nI p)), some (.int yr), some (.int (nI (p * 3))), some (.int (nI (p * 3 + j)))]) 0 ⟨by omega, fun i hi => absurd hi (Nat.not_lt_zero i)⟩ rfl ?_
      rintro j ⟨hj, hn⟩ ih
      try dsimp only at ih ⊢
      refine g_iload4 C dX1_holder_40 ?_
      refine g_iload3 C dX1_holder_42 ?_
      refine g_iconst C (nI 3) (by decide) dX1_holder_43 ?_
      refine g_iaddN C dX1_holder_44 ?_
      refine g_icmp_geN C (by omega) (by omega) 72 dX1_holder_45 (by decide) (fun h45 => ?_) (fun h45 => ?_)
      · refine g_iconst C (-1) (by decide) dX1_holder_72 ?_
        exact g_ireti C (by simp only [q_hold]; rw [if_neg (fun z => z h7), if_neg h23, if_neg (hn 0 (by omega)), if_neg (hn 1 (by omega)), if_neg (hn 2 (by omega))]) dX1_holder_73
      · refine g_aload0 C dX1_holder_48 ?_
        refine g_iload4 C dX1_holder_49 ?_
        refine g_iload2 C dX1_holder_51 ?_
        refine g_lcV2 C hK hP hZ hS (c_X1_isResting (by omega) hki) wl_X1_100 wi_X1_isResting wv_X1_isResting wc_X1_isResting (by decide +kernel) ⟨rfl, rfl, by decide, by decide⟩ rfl (by simp [Value.category]) ⟨by decide, by decide⟩ dX1_holder_52 ?_
        refine g_if_eqB C 66 dX1_holder_55 (by decide) (fun h55 => ?_) (fun h55 => ?_)
        · refine g_iinc4 C _ rfl dX1_holder_66 (nI_1 _) ?_
          refine g_goto C 40 dX1_holder_69 (by decide) ?_
          exact ih (j + 1) ⟨by omega, lt_s hn h55⟩ (by show 3 - (j + 1) < 3 - j; omega)
        · refine g_aload0 C dX1_holder_58 ?_
          refine g_get (ci := 1) (T := TX1) (N := 12) C inX1 hK hP 0 rfl rfl 8 (by decide) wf_X1_37 ⟨rfl, rfl, rfl⟩ rfl dX1_holder_59 ?_
          refine g_iload4 C dX1_holder_62 ?_
          refine g_iald C hK hP 8 0 rfl rfl (by omega) (by decide) dX1_holder_64 ?_
          exact g_ireti C (by simp only [q_hold]; rw [if_neg (fun z => z h7), if_neg h23]; rcases (show j = 0 ∨ j = 1 ∨ j = 2 by omega) with rfl | rfl | rfl <;> first | (rw [if_pos h55]; done) | (rw [if_neg (hn 0 (by omega)), if_pos h55]; done) | (rw [if_neg (hn 0 (by omega)), if_neg (hn 1 (by omega)), if_pos h55]; done)) dX1_holder_65
    · refine g_aload0 C dX1_holder_26 ?_
      refine g_get (ci := 1) (T := TX1) (N := 12) C inX1 hK hP 0 rfl rfl 6 (by decide) wf_X1_31 ⟨rfl, rfl, rfl⟩ rfl dX1_holder_27 ?_
      refine g_iload1 C dX1_holder_30 ?_
      refine g_iald C hK hP 6 0 rfl rfl (by omega) (by decide) dX1_holder_31 ?_
      exact g_ireti C (by simp only [q_hold]; rw [if_neg (fun z => z h7), if_pos h23]) dX1_holder_32
  · refine g_aload0 C dX1_holder_10 ?_
    refine g_get (ci := 1) (T := TX1) (N := 12) C inX1 hK hP 0 rfl rfl 5 (by decide) wf_X1_28 ⟨rfl, rfl, rfl⟩ rfl dX1_holder_11 ?_
    refine g_iload1 C dX1_holder_14 ?_
    refine g_iald C hK hP 5 0 rfl rfl (by omega) (by decide) dX1_holder_15 ?_
    exact g_ireti C (by simp [q_hold, h7]) dX1_holder_16

set_option maxHeartbeats 4000000 in
set_option maxRecDepth 100000 in
theorem c_X1_greatestDepth {l : Launch} {dC : Nat → ClassId} {dI : Nat → Nat → Nat} {cI cL cJ : ClassId} {g1 g2 a : Nat} {t : Nat → Nat} {y : Int32} {d : RW} {r : Int64} {p : Nat} (hp : p < 40) (hki : INV d) : Met l yX1_greatestDepth (.code yX1_greatestDepth cX1_greatestDepth 2 (some .int) :: WG) (rmL 0) (va_Pc [.ref a, .int (nI p)] (LDP dC dI cI cL cJ g1 g2 a t y d r)) (bq_S (.int (nI (q_gd d p)))) 0 0 (fun _ => False) := by
  refine bq_of [some (.ref a), some (.int (nI p))] rfl rfl (Nat.le_of_ble_eq_true rfl) (by decide) ?_
  intro P_ E_ s M_ B_ T_ K_ C hv
  obtain ⟨hP, hK, hZ⟩ := hv
  have hS : va_S (fun _ => False) s.heap s.heap [] := va_S.rf
  refine g_aload0 C dX1_greatestDepth_0 ?_
  refine g_get (ci := 1) (T := TX1) (N := 12) C inX1 hK hP 0 rfl rfl 5 (by decide) wf_X1_28 ⟨rfl, rfl, rfl⟩ rfl dX1_greatestDepth_1 ?_
  refine g_iload1 C dX1_greatestDepth_4 ?_
  refine g_iald C hK hP 5 0 rfl rfl (by omega) (by decide) dX1_greatestDepth_5 ?_
  refine g_iconst C (-1) (by decide) dX1_greatestDepth_6 ?_
  refine g_icmp_eq C 14 dX1_greatestDepth_7 (by decide) (fun h7 => ?_) (fun h7 => ?_)
  · refine g_gets C hZ.1 hS wf_X1_111 dX1_greatestDepth_14 ?_
    refine g_aload0 C dX1_greatestDepth_17 ?_
    refine g_get (ci := 1) (T := TX1) (N := 12) C inX1 hK hP 0 rfl rfl 4 (by decide) wf_X1_25 ⟨rfl, rfl, rfl⟩ rfl dX1_greatestDepth_18 ?_
    refine g_iload1 C dX1_greatestDepth_21 ?_
    refine g_iald C hK hP 4 0 rfl rfl (by omega) (by decide) dX1_greatestDepth_22 ?_
    obtain ⟨kd, hkd, ekd⟩ := hki.1 p (by omega)
    rw [ekd]
    refine g_ti C hZ.2.1 hS (by omega) (by decide) dX1_greatestDepth_23 ?_
    exact g_ireti C (by first | (unfold q_gd; rw [if_pos h7]; done) | (rcases (show kd = 0 ∨ kd = 1 ∨ kd = 2 ∨ kd = 3 by omega) with rfl | rfl | rfl | rfl <;> (unfold q_gd; rw [if_neg (fun z => z h7), ekd]; rfl))) dX1_greatestDepth_24
  · refine g_iconst C (nI 3) (by decide) dX1_greatestDepth_10 ?_
    refine g_goto C 24 dX1_greatestDepth_11 (by decide) ?_
    exact g_ireti C (by first | (unfold q_gd; rw [if_pos h7]; done) | (rcases (show kd = 0 ∨ kd = 1 ∨ kd = 2 ∨ kd = 3 by omega) with rfl | rfl | rfl | rfl <;> (unfold q_gd; rw [if_neg (fun z => z h7), ekd]; rfl))) dX1_greatestDepth_24

set_option maxHeartbeats 4000000 in
set_option maxRecDepth 100000 in
theorem c_X1_freeDepth {l : Launch} {dC : Nat → ClassId} {dI : Nat → Nat → Nat} {cI cL cJ : ClassId} {g1 g2 a : Nat} {t : Nat → Nat} {y : Int32} {d : RW} {r : Int64} {p : Nat} (hp : p < 40) : Met l yX1_freeDepth (.code yX1_freeDepth cX1_freeDepth 4 (some .int) :: WG) (rmL 0) (va_Pc [.ref a, .int (nI p)] (LDP dC dI cI cL cJ g1 g2 a t y d r)) (bq_S (.int (nI (q_free d p)))) 0 0 (fun _ => False) := by
  refine bq_of [some (.ref a), some (.int (nI p)), none, none] rfl rfl (Nat.le_of_ble_eq_true rfl) (by decide) ?_
  intro P_ E_ s M_ B_ T_ K_ C hv
  obtain ⟨hP, hK, hZ⟩ := hv
  have hS : va_S (fun _ => False) s.heap s.heap [] := va_S.rf
  refine g_iload1 C dX1_freeDepth_0 ?_
  refine g_iconst C (nI 3) (by decide) dX1_freeDepth_1 ?_
  refine g_imulN C dX1_freeDepth_2 ?_
  refine g_istore2 C rfl dX1_freeDepth_3 ?_
  refine g_iconst C (nI 0) (by decide) dX1_freeDepth_4 ?_
  refine g_istore3 C rfl dX1_freeDepth_5 ?_
  refine g_lp1 (fun (j : Nat) => j ≤ 3 ∧ ∀ i, i < j → d 7 (p * 3 + i) = -1) (fun (j : Nat) => 3 - j) (fun (j : Nat) => [some (.ref a), some (.int (nI p)), some (.int (nI (p * 3))), some (.int (nI j))]) 0 ⟨by omega, fun i hi => absurd hi (Nat.not_lt_zero i)⟩ rfl ?_
  rintro j ⟨hj, hn⟩ ih
  try dsimp only at ih ⊢
  refine g_iload3 C dX1_freeDepth_6 ?_
  refine g_iconst C (nI 3) (by decide) dX1_freeDepth_7 ?_
  refine g_icmp_geN C (by omega) (by omega) 29 dX1_freeDepth_8 (by decide) (fun h8 => ?_) (fun h8 => ?_)
  · refine g_iload3 C dX1_freeDepth_29 ?_
    exact g_ireti C (by have e := hn 0 (by omega); have e1 := hn 1 (by omega); have e2 := hn 2 (by omega); rw [show j = 3 by omega]; simp only [q_free]; rw [if_neg (fun z => z e), if_neg (fun z => z e1), if_neg (fun z => z e2)]) dX1_freeDepth_30
  · refine g_aload0 C dX1_freeDepth_11 ?_
    refine g_get (ci := 1) (T := TX1) (N := 12) C inX1 hK hP 0 rfl rfl 8 (by decide) wf_X1_37 ⟨rfl, rfl, rfl⟩ rfl dX1_freeDepth_12 ?_
    refine g_iload2 C dX1_freeDepth_15 ?_
    refine g_iload3 C dX1_freeDepth_16 ?_
    refine g_iaddN C dX1_freeDepth_17 ?_
    refine g_iald C hK hP 8 0 rfl rfl (by omega) (by decide) dX1_freeDepth_18 ?_
    refine g_iconst C (-1) (by decide) dX1_freeDepth_19 ?_
    refine g_icmp_ne C 29 dX1_freeDepth_20 (by decide) (fun h20 => ?_) (fun h20 => ?_)
    · refine g_iload3 C dX1_freeDepth_29 ?_
      exact g_ireti C (by simp only [q_free]; rcases (show j = 0 ∨ j = 1 ∨ j = 2 by omega) with rfl | rfl | rfl <;> first | (rw [if_pos h20]; done) | (rw [if_neg (fun z => z (hn 0 (by omega))), if_pos h20]; done) | (rw [if_neg (fun z => z (hn 0 (by omega))), if_neg (fun z => z (hn 1 (by omega))), if_pos h20]; done)) dX1_freeDepth_30
    · refine g_iinc3 C _ rfl dX1_freeDepth_23 (nI_1 _) ?_
      refine g_goto C 6 dX1_freeDepth_26 (by decide) ?_
      exact ih (j + 1) ⟨by omega, lt_s hn h20⟩ (by show 3 - (j + 1) < 3 - j; omega)

set_option maxHeartbeats 4000000 in
set_option maxRecDepth 100000 in
theorem c_X1_latestBurial {l : Launch} {dC : Nat → ClassId} {dI : Nat → Nat → Nat} {cI cL cJ : ClassId} {g1 g2 a : Nat} {t : Nat → Nat} {y : Int32} {d : RW} {r : Int64} {p : Nat} (hp : p < 40) : Met l yX1_latestBurial (.code yX1_latestBurial cX1_latestBurial 5 (some .int) :: WG) (rmL 1) (va_Pc [.ref a, .int (nI p)] (LDP dC dI cI cL cJ g1 g2 a t y d r)) (bq_S (.int (q_lat d p))) 0 0 (fun _ => False) := by
  refine bq_of [some (.ref a), some (.int (nI p)), none, none, none] rfl rfl (Nat.le_of_ble_eq_true rfl) (by decide) ?_
  intro P_ E_ s M_ B_ T_ K_ C hv
  obtain ⟨hP, hK, hZ⟩ := hv
  have hS : va_S (fun _ => False) s.heap s.heap [] := va_S.rf
  refine g_iconst C (nI 0) (by decide) dX1_latestBurial_0 ?_
  refine g_istore2 C rfl dX1_latestBurial_1 ?_
  refine g_iload1 C dX1_latestBurial_2 ?_
  refine g_iconst C (nI 3) (by decide) dX1_latestBurial_3 ?_
  refine g_imulN C dX1_latestBurial_4 ?_
  refine g_istore3 C rfl dX1_latestBurial_5 ?_
  refine g_iload3 C dX1_latestBurial_6 ?_
  refine g_istore4 C rfl dX1_latestBurial_7 ?_
  refine g_lp2 (fun (j : Nat) (x : Int32) => j ≤ 3 ∧ x = q_mx (fun i => d 8 (p * 3 + i)) j) (fun (j : Nat) (x : Int32) => 3 - j) (fun (j : Nat) (x : Int32) => [some (.ref a), some (.int (nI p)), some (.int x), some (.int (nI (p * 3))), some (.int (nI (p * 3 + j)))]) 0 (nI 0) ⟨by omega, rfl⟩ rfl ?_
  rintro j x ⟨hj, hx⟩ ih
  try dsimp only at ih ⊢
  refine g_iload4 C dX1_latestBurial_9 ?_
  refine g_iload3 C dX1_latestBurial_11 ?_
  refine g_iconst C (nI 3) (by decide) dX1_latestBurial_12 ?_
  refine g_iaddN C dX1_latestBurial_13 ?_
  refine g_icmp_geN C (by omega) (by omega) 35 dX1_latestBurial_14 (by decide) (fun h14 => ?_) (fun h14 => ?_)
  · refine g_iload2 C dX1_latestBurial_35 ?_
    exact g_ireti C (by rw [hx, show j = 3 by omega]; rfl) dX1_latestBurial_36
  · refine g_iload2 C dX1_latestBurial_17 ?_
    refine g_aload0 C dX1_latestBurial_18 ?_
    refine g_get (ci := 1) (T := TX1) (N := 12) C inX1 hK hP 0 rfl rfl 9 (by decide) wf_X1_40 ⟨rfl, rfl, rfl⟩ rfl dX1_latestBurial_19 ?_
    refine g_iload4 C dX1_latestBurial_22 ?_
    refine g_iald C hK hP 9 0 rfl rfl (by omega) (by decide) dX1_latestBurial_24 ?_
    refine g_mmax C wl_X1_103 wt_J9_max_7cf53 wn_J9 wc_J9_max_7cf53 rfl ⟨by decide, by simp [Value.category, rmL]⟩ ⟨by decide, by decide⟩ dX1_latestBurial_25 ?_
    refine g_istore2 C rfl dX1_latestBurial_28 ?_
    refine g_iinc4 C _ rfl dX1_latestBurial_29 (nI_1 _) ?_
    refine g_goto C 9 dX1_latestBurial_32 (by decide) ?_
    exact ih (j + 1) _ ⟨by omega, by rw [hx]; rfl⟩ (by show 3 - (j + 1) < 3 - j; omega)

set_option maxHeartbeats 4000000 in
set_option maxRecDepth 100000 in
theorem c_X1_burialFee {l : Launch} {dC : Nat → ClassId} {dI : Nat → Nat → Nat} {cI cL cJ : ClassId} {g1 g2 a : Nat} {t : Nat → Nat} {y : Int32} {d : RW} {r : Int64} {f p dep : Nat} (hf : f < 10) (hp : p < 40) (hdp : dep < 100) : Met l yX1_burialFee (.code yX1_burialFee cX1_burialFee 5 (some .int) :: WG) (rmL 2) (va_Pc [.ref a, .int (nI f), .int (nI p), .int (nI dep)] (LDP dC dI cI cL cJ g1 g2 a t y d r)) (bq_S (.int (q_fee d y f p dep))) 0 0 (fun _ => False) := by
  refine bq_of [some (.ref a), some (.int (nI f)), some (.int (nI p)), some (.int (nI dep)), none] rfl rfl (Nat.le_of_ble_eq_true rfl) (by decide) ?_
  intro P_ E_ s M_ B_ T_ K_ C hv
  obtain ⟨hP, hK, hZ⟩ := hv
  have hS : va_S (fun _ => False) s.heap s.heap [] := va_S.rf
  refine g_bipush C (nI 10) (by decide) dX1_burialFee_0 ?_
  refine g_iload3 C dX1_burialFee_2 ?_
  refine g_imulN C dX1_burialFee_3 ?_
  refine g_bipush C (nI 20) (by decide) dX1_burialFee_4 ?_
  refine g_iaddN C dX1_burialFee_6 ?_
  refine g_aload0 C dX1_burialFee_7 ?_
  refine g_get (ci := 1) (T := TX1) (N := 12) C inX1 hK hP 0 rfl rfl 5 (by decide) wf_X1_28 ⟨rfl, rfl, rfl⟩ rfl dX1_burialFee_8 ?_
  refine g_iload2 C dX1_burialFee_11 ?_
  refine g_iald C hK hP 5 0 rfl rfl (by omega) (by decide) dX1_burialFee_12 ?_
  refine g_iconst C (-1) (by decide) dX1_burialFee_13 ?_
  refine g_d2 (v := if d 4 p ≠ -1 then nI 30 else nI 0) 23 (fun K14 => ?_) ?_
  · skip
    refine g_icmp_eq C 22 dX1_burialFee_14 (by decide) (fun h14 => ?_) (fun h14 => ?_)
    · refine g_iconst C (nI 0) (by decide) dX1_burialFee_22 ?_
      exact K14 _ (by simp [h14])
    · refine g_bipush C (nI 30) (by decide) dX1_burialFee_17 ?_
      refine g_goto C 23 dX1_burialFee_19 (by decide) ?_
      exact K14 _ (by simp [h14])
  refine g_iadd C dX1_burialFee_23 ?_
  refine g_istore4 C rfl dX1_burialFee_24 ?_
  refine g_aload0 C dX1_burialFee_26 ?_
  refine g_iload1 C dX1_burialFee_27 ?_
  refine g_iload4 C dX1_burialFee_28 ?_
  refine g_lcV2 C hK hP hZ hS (c_X1_priceFor (by omega)) wl_X1_91 wi_X1_priceFor wv_X1_priceFor wc_X1_priceFor (by decide +kernel) ⟨rfl, rfl, by decide, by decide⟩ rfl (by simp [Value.category]) ⟨by decide, by decide⟩ dX1_burialFee_30 ?_
  refine g_aload0 C dX1_burialFee_33 ?_
  refine g_iload1 C dX1_burialFee_34 ?_
  refine g_iload2 C dX1_burialFee_35 ?_
  refine g_lcV2 C hK hP hZ hS (c_X1_hasReservation (by omega) (by omega)) wl_X1_81 wi_X1_hasReservation wv_X1_hasReservation wc_X1_hasReservation (by decide +kernel) ⟨rfl, rfl, by decide, by decide⟩ rfl (by simp [Value.category]) ⟨by decide, by decide⟩ dX1_burialFee_36 ?_
  refine g_d1 (v := if d 5 p = nI f ∧ q_kept d y p then nI 5 else nI 0) 47 (fun K39 => ?_) ?_
  · skip
    refine g_if_eqB C 46 dX1_burialFee_39 (by decide) (fun h39 => ?_) (fun h39 => ?_)
    · refine g_iconst C (nI 0) (by decide) dX1_burialFee_46 ?_
      exact K39 _ (by first | exact (if_pos h39).symm | exact (if_neg h39).symm)
    · refine g_iconst C (nI 5) (by decide) dX1_burialFee_42 ?_
      refine g_goto C 47 dX1_burialFee_43 (by decide) ?_
      exact K39 _ (by first | exact (if_pos h39).symm | exact (if_neg h39).symm)
  refine g_isub C dX1_burialFee_47 ?_
  exact g_ireti C (rfl) dX1_burialFee_48

set_option maxHeartbeats 4000000 in
set_option maxRecDepth 100000 in
theorem c_X1_yearOfRest {l : Launch} {dC : Nat → ClassId} {dI : Nat → Nat → Nat} {cI cL cJ : ClassId} {g1 g2 a : Nat} {t : Nat → Nat} {y : Int32} {d : RW} {r : Int64} {p : Nat} (hp : p < 40) (hki : INV d) : Met l yX1_yearOfRest (.code yX1_yearOfRest cX1_yearOfRest 5 (some .int) :: WG) (rmL 1) (va_Pc [.ref a, .int (nI p)] (LDP dC dI cI cL cJ g1 g2 a t y d r)) (bq_S (.int (q_yor d y p 3))) 0 0 (fun _ => False) := by
  refine bq_of [some (.ref a), some (.int (nI p)), none, none, none] rfl rfl (Nat.le_of_ble_eq_true rfl) (by decide) ?_
  intro P_ E_ s M_ B_ T_ K_ C hv
  obtain ⟨hP, hK, hZ⟩ := hv
  have hS : va_S (fun _ => False) s.heap s.heap [] := va_S.rf
  refine g_aload0 C dX1_yearOfRest_0 ?_
  refine g_get (ci := 1) (T := TX1) (N := 12) C inX1 hK hP 0 rfl rfl 0 (by decide) wf_X1_9 ⟨rfl, rfl, rfl⟩ rfl dX1_yearOfRest_1 ?_
  refine g_istore2 C rfl dX1_yearOfRest_4 ?_
  refine g_iload1 C dX1_yearOfRest_5 ?_
  refine g_iconst C (nI 3) (by decide) dX1_yearOfRest_6 ?_
  refine g_imulN C dX1_yearOfRest_7 ?_
  refine g_istore3 C rfl dX1_yearOfRest_8 ?_
  refine g_iload3 C dX1_yearOfRest_9 ?_
  refine g_istore4 C rfl dX1_yearOfRest_10 ?_
  refine g_lp2 (fun (j : Nat) (x : Int32) => j ≤ 3 ∧ x = q_yor d y p j) (fun (j : Nat) (x : Int32) => 3 - j) (fun (j : Nat) (x : Int32) => [some (.ref a), some (.int (nI p)), some (.int x), some (.int (nI (p * 3))), some (.int (nI (p * 3 + j)))]) 0 y ⟨by omega, rfl⟩ rfl ?_
  rintro j x ⟨hj, hx⟩ ih
  try dsimp only at ih ⊢
  refine g_iload4 C dX1_yearOfRest_12 ?_
  refine g_iload3 C dX1_yearOfRest_14 ?_
  refine g_iconst C (nI 3) (by decide) dX1_yearOfRest_15 ?_
  refine g_iaddN C dX1_yearOfRest_16 ?_
  refine g_icmp_geN C (by omega) (by omega) 48 dX1_yearOfRest_17 (by decide) (fun h17 => ?_) (fun h17 => ?_)
  · refine g_iload2 C dX1_yearOfRest_48 ?_
    exact g_ireti C (by rw [hx, show j = 3 by omega]) dX1_yearOfRest_49
  · refine g_aload0 C dX1_yearOfRest_20 ?_
    refine g_get (ci := 1) (T := TX1) (N := 12) C inX1 hK hP 0 rfl rfl 8 (by decide) wf_X1_37 ⟨rfl, rfl, rfl⟩ rfl dX1_yearOfRest_21 ?_
    refine g_iload4 C dX1_yearOfRest_24 ?_
    refine g_iald C hK hP 8 0 rfl rfl (by omega) (by decide) dX1_yearOfRest_26 ?_
    refine g_iconst C (-1) (by decide) dX1_yearOfRest_27 ?_
    refine g_icmp_eq C 42 dX1_yearOfRest_28 (by decide) (fun h28 => ?_) (fun h28 => ?_)
    · refine g_iinc4 C _ rfl dX1_yearOfRest_42 (nI_1 _) ?_
      refine g_goto C 12 dX1_yearOfRest_45 (by decide) ?_
      exact ih (j + 1) _ ⟨by omega, by simp only [q_yor]; first | rw [if_pos h28, ← hx] | rw [if_neg (fun z => z h28), ← hx]⟩ (by show 3 - (j + 1) < 3 - j; omega)
    · refine g_iload2 C dX1_yearOfRest_31 ?_
      refine g_aload0 C dX1_yearOfRest_32 ?_
      refine g_iload4 C dX1_yearOfRest_33 ?_
      refine g_lcV1 C hK hP hZ hS (c_X1_endOfRest (by omega) hki (hki.2.1 _ (by omega) h28)) wl_X1_97 wi_X1_endOfRest wv_X1_endOfRest wc_X1_endOfRest (by decide +kernel) ⟨rfl, rfl, by decide, by decide⟩ rfl (by simp [Value.category]) ⟨by decide, by decide⟩ dX1_yearOfRest_35 ?_
      refine g_mmax C wl_X1_103 wt_J9_max_7cf53 wn_J9 wc_J9_max_7cf53 rfl ⟨by decide, by simp [Value.category, rmL]⟩ ⟨by decide, by decide⟩ dX1_yearOfRest_38 ?_
      refine g_istore2 C rfl dX1_yearOfRest_41 ?_
      refine g_iinc4 C _ rfl dX1_yearOfRest_42 (nI_1 _) ?_
      refine g_goto C 12 dX1_yearOfRest_45 (by decide) ?_
      exact ih (j + 1) _ ⟨by omega, by simp only [q_yor]; first | rw [if_pos h28, ← hx] | rw [if_neg (fun z => z h28), ← hx]⟩ (by show 3 - (j + 1) < 3 - j; omega)

set_option maxHeartbeats 4000000 in
set_option maxRecDepth 100000 in
theorem c_X1_bitOf {l : Launch} {p : Nat} : Met l yX1_bitOf (.code yX1_bitOf cX1_bitOf 1 (some .long) :: WG) (rmL 0) (va_Pc [.int (nI p)] (fun _ => True)) (bq_S (.long (q_bit p))) 0 0 (fun _ => False) := by
  refine bq_of [some (.int (nI p))] rfl rfl (Nat.le_of_ble_eq_true rfl) (by decide) ?_
  intro P_ E_ s M_ B_ T_ K_ C hv
  refine g_lconst C 1 (by decide) dX1_bitOf_0 ?_
  refine g_iload0 C dX1_bitOf_1 ?_
  refine g_lshl C _ rfl dX1_bitOf_2 ?_
  exact g_lret C (rfl) dX1_bitOf_3

set_option maxHeartbeats 4000000 in
set_option maxRecDepth 100000 in
theorem c_X1_isReached {l : Launch} {dC : Nat → ClassId} {dI : Nat → Nat → Nat} {cI cL cJ : ClassId} {g1 g2 a : Nat} {t : Nat → Nat} {y : Int32} {d : RW} {r : Int64} {p : Nat} (hp : p < 40) : Met l yX1_isReached (.code yX1_isReached cX1_isReached 2 (some .boolean) :: WG) (rmL 1) (va_Pc [.ref a, .int (nI p)] (LDP dC dI cI cL cJ g1 g2 a t y d r)) (bq_S (.int (bI (q_rb r p = true)))) 0 0 (fun _ => False) := by
  refine bq_of [some (.ref a), some (.int (nI p))] rfl rfl (Nat.le_of_ble_eq_true rfl) (by decide) ?_
  intro P_ E_ s M_ B_ T_ K_ C hv
  obtain ⟨hP, hK, hZ⟩ := hv
  have hS : va_S (fun _ => False) s.heap s.heap [] := va_S.rf
  refine g_aload0 C dX1_isReached_0 ?_
  refine g_get (ci := 1) (T := TX1) (N := 12) C inX1 hK hP 0 rfl rfl 11 (by decide) wf_X1_48 ⟨rfl, rfl, rfl⟩ rfl dX1_isReached_1 ?_
  refine g_iload1 C dX1_isReached_4 ?_
  refine g_scS1 C (c_X1_bitOf) wl_X1_114 wt_X1_bitOf wn_X1 wc_X1_bitOf (by decide +kernel) ⟨rfl, rfl, by decide, by decide⟩ rfl (by simp [Value.category]) ⟨by decide, by decide⟩ dX1_isReached_5 ?_
  refine g_land C dX1_isReached_8 ?_
  refine g_lconst C 0 (by decide) dX1_isReached_9 ?_
  refine g_lcmp C dX1_isReached_10 ?_
  refine g_if_eq C 18 dX1_isReached_11 (by decide) (fun h11 => ?_) (fun h11 => ?_)
  · refine g_iconst C (nI 0) (by decide) dX1_isReached_18 ?_
    exact g_iretz C (by first | exact bI_f (by simpa [q_rb, lg_cmp_eq] using h11) | exact bI_t (by simpa [q_rb, lg_cmp_eq] using h11)) dX1_isReached_19
  · refine g_iconst C (nI 1) (by decide) dX1_isReached_14 ?_
    refine g_goto C 19 dX1_isReached_15 (by decide) ?_
    exact g_iretz C (by first | exact bI_f (by simpa [q_rb, lg_cmp_eq] using h11) | exact bI_t (by simpa [q_rb, lg_cmp_eq] using h11)) dX1_isReached_19

set_option maxHeartbeats 4000000 in
set_option maxRecDepth 100000 in
theorem c_X1_vaultRefusal {l : Launch} {dC : Nat → ClassId} {dI : Nat → Nat → Nat} {cI cL cJ : ClassId} {g1 g2 a : Nat} {t : Nat → Nat} {y : Int32} {d : RW} {r : Int64} {p dep : Nat} {yr : Int32} (hp : p < 40) (hdp : dep < 100) (hki : INV d) : Met l yX1_vaultRefusal (.code yX1_vaultRefusal cX1_vaultRefusal 4 (some .int) :: WG) (rmL 2) (va_Pc [.ref a, .int (nI p), .int (nI dep), .int yr] (LDP dC dI cI cL cJ g1 g2 a t y d r)) (bq_S (.int (q_vref d yr p dep))) 0 0 (fun _ => False) := by
  refine bq_of [some (.ref a), some (.int (nI p)), some (.int (nI dep)), some (.int yr)] rfl rfl (Nat.le_of_ble_eq_true rfl) (by decide) ?_
  intro P_ E_ s M_ B_ T_ K_ C hv
  obtain ⟨hP, hK, hZ⟩ := hv
  have hS : va_S (fun _ => False) s.heap s.heap [] := va_S.rf
  refine g_aload0 C dX1_vaultRefusal_0 ?_
  refine g_iload1 C dX1_vaultRefusal_1 ?_
  refine g_lcV1 C hK hP hZ hS (c_X1_burialsIn (by omega)) wl_X1_58 wi_X1_burialsIn wv_X1_burialsIn wc_X1_burialsIn (by decide +kernel) ⟨rfl, rfl, by decide, by decide⟩ rfl (by simp [Value.category]) ⟨by decide, by decide⟩ dX1_vaultRefusal_2 ?_
  have hbu : q_bur d p ≤ 3 := q_cn_le _ 3
  refine g_if_leN C (by omega) 22 dX1_vaultRefusal_5 (by decide) (fun h5 => ?_) (fun h5 => ?_)
  · refine g_iload2 C dX1_vaultRefusal_22 ?_
    refine g_aload0 C dX1_vaultRefusal_23 ?_
    refine g_iload1 C dX1_vaultRefusal_24 ?_
    refine g_lcV1 C hK hP hZ hS (c_X1_freeDepth (by omega)) wl_X1_143 wi_X1_freeDepth wv_X1_freeDepth wc_X1_freeDepth (by decide +kernel) ⟨rfl, rfl, by decide, by decide⟩ rfl (by simp [Value.category]) ⟨by decide, by decide⟩ dX1_vaultRefusal_25 ?_
    refine g_aload0 C dX1_vaultRefusal_28 ?_
    refine g_iload1 C dX1_vaultRefusal_29 ?_
    refine g_lcV1 C hK hP hZ hS (c_X1_greatestDepth (by omega) hki) wl_X1_140 wi_X1_greatestDepth wv_X1_greatestDepth wc_X1_greatestDepth (by decide +kernel) ⟨rfl, rfl, by decide, by decide⟩ rfl (by simp [Value.category]) ⟨by decide, by decide⟩ dX1_vaultRefusal_30 ?_
    have hfr := q_free_le d p
    have hgr := q_gd_le d p
    refine g_mmin C wl_X1_152 wt_J9_min_7cf53 wn_J9 wc_J9_min_7cf53 rfl ⟨by decide, by simp [Value.category, rmL]⟩ ⟨by decide, by decide⟩ dX1_vaultRefusal_33 ?_
    have hfr := q_free_le d p
    have hgr := q_gd_le d p
    refine g_top (q_min (by omega) (by omega)) ?_
    refine g_icmp_eqN C (by omega) (by omega) 44 dX1_vaultRefusal_36 (by decide) (fun h36 => ?_) (fun h36 => ?_)
    · refine g_iconst C (nI 0) (by decide) dX1_vaultRefusal_44 ?_
      exact g_ireti C (by unfold q_vref; rw [if_neg (by rintro ⟨z, -⟩; omega)]; first | rw [if_pos h36] | rw [if_neg (fun z => z h36)]) dX1_vaultRefusal_45
    · refine g_bipush C (nI 7) (by decide) dX1_vaultRefusal_39 ?_
      refine g_goto C 45 dX1_vaultRefusal_41 (by decide) ?_
      exact g_ireti C (by unfold q_vref; rw [if_neg (by rintro ⟨z, -⟩; omega)]; first | rw [if_pos h36] | rw [if_neg (fun z => z h36)]) dX1_vaultRefusal_45
  · refine g_iload3 C dX1_vaultRefusal_8 ?_
    refine g_aload0 C dX1_vaultRefusal_9 ?_
    refine g_iload1 C dX1_vaultRefusal_10 ?_
    refine g_lcV1 C hK hP hZ hS (c_X1_latestBurial (by omega)) wl_X1_149 wi_X1_latestBurial wv_X1_latestBurial wc_X1_latestBurial (by decide +kernel) ⟨rfl, rfl, by decide, by decide⟩ rfl (by simp [Value.category]) ⟨by decide, by decide⟩ dX1_vaultRefusal_11 ?_
    refine g_iconst C (nI 2) (by decide) dX1_vaultRefusal_14 ?_
    refine g_iadd C dX1_vaultRefusal_15 ?_
    refine g_icmp_ge C 22 dX1_vaultRefusal_16 (by decide) (fun h16 => ?_) (fun h16 => ?_)
    · refine g_iload2 C dX1_vaultRefusal_22 ?_
      refine g_aload0 C dX1_vaultRefusal_23 ?_
      refine g_iload1 C dX1_vaultRefusal_24 ?_
      refine g_lcV1 C hK hP hZ hS (c_X1_freeDepth (by omega)) wl_X1_143 wi_X1_freeDepth wv_X1_freeDepth wc_X1_freeDepth (by decide +kernel) ⟨rfl, rfl, by decide, by decide⟩ rfl (by simp [Value.category]) ⟨by decide, by decide⟩ dX1_vaultRefusal_25 ?_
      refine g_aload0 C dX1_vaultRefusal_28 ?_
      refine g_iload1 C dX1_vaultRefusal_29 ?_
      refine g_lcV1 C hK hP hZ hS (c_X1_greatestDepth (by omega) hki) wl_X1_140 wi_X1_greatestDepth wv_X1_greatestDepth wc_X1_greatestDepth (by decide +kernel) ⟨rfl, rfl, by decide, by decide⟩ rfl (by simp [Value.category]) ⟨by decide, by decide⟩ dX1_vaultRefusal_30 ?_
      have hfr := q_free_le d p
      have hgr := q_gd_le d p
      refine g_mmin C wl_X1_152 wt_J9_min_7cf53 wn_J9 wc_J9_min_7cf53 rfl ⟨by decide, by simp [Value.category, rmL]⟩ ⟨by decide, by decide⟩ dX1_vaultRefusal_33 ?_
      have hfr := q_free_le d p
      have hgr := q_gd_le d p
      refine g_top (q_min (by omega) (by omega)) ?_
      refine g_icmp_eqN C (by omega) (by omega) 44 dX1_vaultRefusal_36 (by decide) (fun h36 => ?_) (fun h36 => ?_)
      · refine g_iconst C (nI 0) (by decide) dX1_vaultRefusal_44 ?_
        exact g_ireti C (by unfold q_vref; first | rw [if_pos ⟨h5, by simpa [Int32.not_le] using h16⟩] | (rw [if_neg (fun z => absurd z.2 (Int32.not_lt.mpr h16))]; first | rw [if_pos h36] | rw [if_neg (fun z => z h36)])) dX1_vaultRefusal_45
      · refine g_bipush C (nI 7) (by decide) dX1_vaultRefusal_39 ?_
        refine g_goto C 45 dX1_vaultRefusal_41 (by decide) ?_
        exact g_ireti C (by unfold q_vref; first | rw [if_pos ⟨h5, by simpa [Int32.not_le] using h16⟩] | (rw [if_neg (fun z => absurd z.2 (Int32.not_lt.mpr h16))]; first | rw [if_pos h36] | rw [if_neg (fun z => z h36)])) dX1_vaultRefusal_45
    · refine g_bipush C (nI 6) (by decide) dX1_vaultRefusal_19 ?_
      exact g_ireti C (by unfold q_vref; first | rw [if_pos ⟨h5, by simpa [Int32.not_le] using h16⟩] | (rw [if_neg (fun z => absurd z.2 (Int32.not_lt.mpr h16))]; first | rw [if_pos h36] | rw [if_neg (fun z => z h36)])) dX1_vaultRefusal_21

set_option maxHeartbeats 4000000 in
set_option maxRecDepth 100000 in
theorem c_X1_refusal {l : Launch} {dC : Nat → ClassId} {dI : Nat → Nat → Nat} {cI cL cJ : ClassId} {g1 g2 a : Nat} {t : Nat → Nat} {y : Int32} {d : RW} {r : Int64} {p dep : Nat} {fv yr : Int32} (hp : p < 40) (hdp : dep < 100) (hki : INV d) : Met l yX1_refusal (.code yX1_refusal cX1_refusal 5 (some .int) :: WG) (rmL 3) (va_Pc [.ref a, .int fv, .int (nI p), .int (nI dep), .int yr] (LDP dC dI cI cL cJ g1 g2 a t y d r)) (bq_S (.int (q_ref d yr (q_rb r) fv p dep))) 0 0 (fun _ => False) := by
  refine bq_of [some (.ref a), some (.int fv), some (.int (nI p)), some (.int (nI dep)), some (.int yr)] rfl rfl (Nat.le_of_ble_eq_true rfl) (by decide) ?_
  intro P_ E_ s M_ B_ T_ K_ C hv
  obtain ⟨hP, hK, hZ⟩ := hv
  have hS : va_S (fun _ => False) s.heap s.heap [] := va_S.rf
  refine g_aload0 C dX1_refusal_0 ?_
  refine g_get (ci := 1) (T := TX1) (N := 12) C inX1 hK hP 0 rfl rfl 4 (by decide) wf_X1_25 ⟨rfl, rfl, rfl⟩ rfl dX1_refusal_1 ?_
  refine g_iload2 C dX1_refusal_4 ?_
  refine g_iald C hK hP 4 0 rfl rfl (by omega) (by decide) dX1_refusal_5 ?_
  refine g_iconst C (nI 3) (by decide) dX1_refusal_6 ?_
  refine g_icmp_ne C 12 dX1_refusal_7 (by decide) (fun h7 => ?_) (fun h7 => ?_)
  · refine g_aload0 C dX1_refusal_12 ?_
    refine g_iload2 C dX1_refusal_13 ?_
    refine g_iload4 C dX1_refusal_14 ?_
    refine g_lcV2 C hK hP hZ hS (c_X1_holder (by omega) hki) wl_X1_74 wi_X1_holder wv_X1_holder wc_X1_holder (by decide +kernel) ⟨rfl, rfl, by decide, by decide⟩ rfl (by simp [Value.category]) ⟨by decide, by decide⟩ dX1_refusal_16 ?_
    refine g_iload1 C dX1_refusal_19 ?_
    refine g_scS2 C (c_X1_isOther) wl_X1_77 wt_X1_isOther wn_X1 wc_X1_isOther (by decide +kernel) ⟨rfl, rfl, by decide, by decide⟩ rfl (by simp [Value.category]) ⟨by decide, by decide⟩ dX1_refusal_20 ?_
    refine g_if_eqB C 28 dX1_refusal_23 (by decide) (fun h23 => ?_) (fun h23 => ?_)
    · refine g_iload3 C dX1_refusal_28 ?_
      refine g_aload0 C dX1_refusal_29 ?_
      refine g_iload2 C dX1_refusal_30 ?_
      refine g_lcV1 C hK hP hZ hS (c_X1_greatestDepth (by omega) hki) wl_X1_140 wi_X1_greatestDepth wv_X1_greatestDepth wc_X1_greatestDepth (by decide +kernel) ⟨rfl, rfl, by decide, by decide⟩ rfl (by simp [Value.category]) ⟨by decide, by decide⟩ dX1_refusal_31 ?_
      have hgr := q_gd_le d p
      refine g_icmp_leN C (by omega) (by omega) 39 dX1_refusal_34 (by decide) (fun h34 => ?_) (fun h34 => ?_)
      · refine g_iload3 C dX1_refusal_39 ?_
        refine g_aload0 C dX1_refusal_40 ?_
        refine g_iload2 C dX1_refusal_41 ?_
        refine g_lcV1 C hK hP hZ hS (c_X1_freeDepth (by omega)) wl_X1_143 wi_X1_freeDepth wv_X1_freeDepth wc_X1_freeDepth (by decide +kernel) ⟨rfl, rfl, by decide, by decide⟩ rfl (by simp [Value.category]) ⟨by decide, by decide⟩ dX1_refusal_42 ?_
        have hfr := q_free_le d p
        refine g_icmp_leN C (by omega) (by omega) 50 dX1_refusal_45 (by decide) (fun h45 => ?_) (fun h45 => ?_)
        · refine g_aload0 C dX1_refusal_50 ?_
          refine g_iload2 C dX1_refusal_51 ?_
          refine g_lcV1 C hK hP hZ hS (c_X1_isReached (by omega)) wl_X1_87 wi_X1_isReached wv_X1_isReached wc_X1_isReached (by decide +kernel) ⟨rfl, rfl, by decide, by decide⟩ rfl (by simp [Value.category]) ⟨by decide, by decide⟩ dX1_refusal_52 ?_
          refine g_if_neB C 60 dX1_refusal_55 (by decide) (fun h55 => ?_) (fun h55 => ?_)
          · refine g_aload0 C dX1_refusal_60 ?_
            refine g_get (ci := 1) (T := TX1) (N := 12) C inX1 hK hP 0 rfl rfl 5 (by decide) wf_X1_28 ⟨rfl, rfl, rfl⟩ rfl dX1_refusal_61 ?_
            refine g_iload2 C dX1_refusal_64 ?_
            refine g_iald C hK hP 5 0 rfl rfl (by omega) (by decide) dX1_refusal_65 ?_
            refine g_iconst C (-1) (by decide) dX1_refusal_66 ?_
            refine g_icmp_eq C 81 dX1_refusal_67 (by decide) (fun h67 => ?_) (fun h67 => ?_)
            · refine g_iconst C (nI 0) (by decide) dX1_refusal_81 ?_
              exact g_ireti C (by unfold q_ref; first | (simp [h7, h23, h34, h45, h55, h67]; done) | (simp [h7, h23, h34, h45, h55, h67, Nat.not_lt.mpr h34]; done) | (simp [h7, h23, h34, h45, h55, h67, Nat.not_lt.mpr h34, Nat.not_lt.mpr h45]; done)) dX1_refusal_82
            · refine g_aload0 C dX1_refusal_70 ?_
              refine g_iload2 C dX1_refusal_71 ?_
              refine g_iload3 C dX1_refusal_72 ?_
              refine g_iload4 C dX1_refusal_73 ?_
              refine g_lcV3 C hK hP hZ hS (c_X1_vaultRefusal (by omega) (by omega) hki) wl_X1_146 wi_X1_vaultRefusal wv_X1_vaultRefusal wc_X1_vaultRefusal (by decide +kernel) ⟨rfl, rfl, by decide, by decide⟩ rfl (by simp [Value.category]) ⟨by decide, by decide⟩ dX1_refusal_75 ?_
              refine g_goto C 82 dX1_refusal_78 (by decide) ?_
              exact g_ireti C (by unfold q_ref; first | (simp [h7, h23, h34, h45, h55, h67]; done) | (simp [h7, h23, h34, h45, h55, h67, Nat.not_lt.mpr h34]; done) | (simp [h7, h23, h34, h45, h55, h67, Nat.not_lt.mpr h34, Nat.not_lt.mpr h45]; done)) dX1_refusal_82
          · refine g_iconst C (nI 5) (by decide) dX1_refusal_58 ?_
            exact g_ireti C (by unfold q_ref; first | (simp [h7, h23, h34, h45, h55]; done) | (simp [h7, h23, h34, h45, h55, Nat.not_lt.mpr h34]; done) | (simp [h7, h23, h34, h45, h55, Nat.not_lt.mpr h34, Nat.not_lt.mpr h45]; done)) dX1_refusal_59
        · refine g_iconst C (nI 4) (by decide) dX1_refusal_48 ?_
          exact g_ireti C (by unfold q_ref; first | (simp [h7, h23, h34, h45]; done) | (simp [h7, h23, h34, h45, Nat.not_lt.mpr h34]; done) | (simp [h7, h23, h34, h45, Nat.not_lt.mpr h34, Nat.not_lt.mpr h45]; done)) dX1_refusal_49
      · refine g_iconst C (nI 3) (by decide) dX1_refusal_37 ?_
        exact g_ireti C (by unfold q_ref; simp [h7, h23, h34]) dX1_refusal_38
    · refine g_iconst C (nI 2) (by decide) dX1_refusal_26 ?_
      exact g_ireti C (by unfold q_ref; simp [h7, h23]) dX1_refusal_27
  · refine g_iconst C (nI 1) (by decide) dX1_refusal_10 ?_
    exact g_ireti C (by unfold q_ref; simp [h7]) dX1_refusal_11
