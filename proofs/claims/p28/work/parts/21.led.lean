set_option maxHeartbeats 4000000 in
set_option maxRecDepth 100000 in
theorem c_X1_burialsOf {l : Launch} {dC : Nat → ClassId} {dI : Nat → Nat → Nat} {cI cL cJ : ClassId} {g1 g2 a : Nat} {t : Nat → Nat} {y : Int32} {d : RW} {r : Int64} {f : Nat} (hf : f < 10) : Met l yX1_burialsOf (.code yX1_burialsOf cX1_burialsOf 4 (some .int) :: WG) (rmL 0) (va_Pc [.ref a, .int (nI f)] (LDP dC dI cI cL cJ g1 g2 a t y d r)) (bq_S (.int (nI (q_bof d f)))) 0 0 (fun _ => False) := by
  refine bq_of [some (.ref a), some (.int (nI f)), none, none] rfl rfl (Nat.le_of_ble_eq_true rfl) (by decide) ?_
  intro P_ E_ s M_ B_ T_ K_ C hv
  obtain ⟨hP, hK, hZ⟩ := hv
  have hS : va_S (fun _ => False) s.heap s.heap [] := va_S.rf
  refine g_iconst C (nI 0) (by decide) dX1_burialsOf_0 ?_
  refine g_istore2 C rfl dX1_burialsOf_1 ?_
  refine g_iconst C (nI 0) (by decide) dX1_burialsOf_2 ?_
  refine g_istore3 C rfl dX1_burialsOf_3 ?_
  refine g_lp2 (fun (j : Nat) (x : Nat) => j ≤ 120 ∧ x = q_cn (fun i => d 7 i = nI f) j) (fun (j : Nat) (x : Nat) => 120 - j) (fun (j : Nat) (x : Nat) => [some (.ref a), some (.int (nI f)), some (.int (nI x)), some (.int (nI j))]) 0 0 ⟨by omega, rfl⟩ rfl ?_
  rintro j x ⟨hj, hx⟩ ih
  try dsimp only at ih ⊢
  refine g_iload3 C dX1_burialsOf_4 ?_
  refine g_bipush C (nI 120) (by decide) dX1_burialsOf_5 ?_
  refine g_icmp_geN C (by omega) (by omega) 29 dX1_burialsOf_7 (by decide) (fun h7 => ?_) (fun h7 => ?_)
  · refine g_iload2 C dX1_burialsOf_29 ?_
    exact g_ireti C (by rw [hx, show j = 120 by omega]; rfl) dX1_burialsOf_30
  · refine g_aload0 C dX1_burialsOf_10 ?_
    refine g_get (ci := 1) (T := TX1) (N := 12) C inX1 hK hP 0 rfl rfl 8 (by decide) wf_X1_37 ⟨rfl, rfl, rfl⟩ rfl dX1_burialsOf_11 ?_
    refine g_iload3 C dX1_burialsOf_14 ?_
    refine g_iald C hK hP 8 0 rfl rfl (by omega) (by decide) dX1_burialsOf_15 ?_
    refine g_iload1 C dX1_burialsOf_16 ?_
    refine g_icmp_ne C 23 dX1_burialsOf_17 (by decide) (fun h17 => ?_) (fun h17 => ?_)
    · refine g_iinc3 C _ rfl dX1_burialsOf_23 (nI_1 _) ?_
      refine g_goto C 4 dX1_burialsOf_26 (by decide) ?_
      exact ih (j + 1) _ ⟨by omega, by first | rw [q_cn_t (P := fun i => d 7 i = nI f) h17, hx] | rw [q_cn_f (P := fun i => d 7 i = nI f) h17, hx]⟩ (by show 120 - (j + 1) < 120 - j; omega)
    · refine g_iinc2 C _ rfl dX1_burialsOf_20 (nI_1 _) ?_
      refine g_iinc3 C _ rfl dX1_burialsOf_23 (nI_1 _) ?_
      refine g_goto C 4 dX1_burialsOf_26 (by decide) ?_
      exact ih (j + 1) _ ⟨by omega, by first | rw [q_cn_t (P := fun i => d 7 i = nI f) h17, hx] | rw [q_cn_f (P := fun i => d 7 i = nI f) h17, hx]⟩ (by show 120 - (j + 1) < 120 - j; omega)

set_option maxHeartbeats 4000000 in
set_option maxRecDepth 100000 in
theorem c_X1_plotsHeldBy {l : Launch} {dC : Nat → ClassId} {dI : Nat → Nat → Nat} {cI cL cJ : ClassId} {g1 g2 a : Nat} {t : Nat → Nat} {y : Int32} {d : RW} {r : Int64} {f : Nat} (hf : f < 10) (hki : INV d) : Met l yX1_plotsHeldBy (.code yX1_plotsHeldBy cX1_plotsHeldBy 4 (some .int) :: WG) (rmL 3) (va_Pc [.ref a, .int (nI f)] (LDP dC dI cI cL cJ g1 g2 a t y d r)) (bq_S (.int (nI (q_phb d y f)))) 0 0 (fun _ => False) := by
  refine bq_of [some (.ref a), some (.int (nI f)), none, none] rfl rfl (Nat.le_of_ble_eq_true rfl) (by decide) ?_
  intro P_ E_ s M_ B_ T_ K_ C hv
  obtain ⟨hP, hK, hZ⟩ := hv
  have hS : va_S (fun _ => False) s.heap s.heap [] := va_S.rf
  refine g_iconst C (nI 0) (by decide) dX1_plotsHeldBy_0 ?_
  refine g_istore2 C rfl dX1_plotsHeldBy_1 ?_
  refine g_iconst C (nI 0) (by decide) dX1_plotsHeldBy_2 ?_
  refine g_istore3 C rfl dX1_plotsHeldBy_3 ?_
  refine g_lp2 (fun (j : Nat) (x : Nat) => j ≤ 40 ∧ x = q_cn (fun i => q_hold d y i = nI f) j) (fun (j : Nat) (x : Nat) => 40 - j) (fun (j : Nat) (x : Nat) => [some (.ref a), some (.int (nI f)), some (.int (nI x)), some (.int (nI j))]) 0 0 ⟨by omega, rfl⟩ rfl ?_
  rintro j x ⟨hj, hx⟩ ih
  try dsimp only at ih ⊢
  refine g_iload3 C dX1_plotsHeldBy_4 ?_
  refine g_bipush C (nI 40) (by decide) dX1_plotsHeldBy_5 ?_
  refine g_icmp_geN C (by omega) (by omega) 32 dX1_plotsHeldBy_7 (by decide) (fun h7 => ?_) (fun h7 => ?_)
  · refine g_iload2 C dX1_plotsHeldBy_32 ?_
    exact g_ireti C (by rw [hx, show j = 40 by omega]; rfl) dX1_plotsHeldBy_33
  · refine g_aload0 C dX1_plotsHeldBy_10 ?_
    refine g_iload3 C dX1_plotsHeldBy_11 ?_
    refine g_aload0 C dX1_plotsHeldBy_12 ?_
    refine g_get (ci := 1) (T := TX1) (N := 12) C inX1 hK hP 0 rfl rfl 0 (by decide) wf_X1_9 ⟨rfl, rfl, rfl⟩ rfl dX1_plotsHeldBy_13 ?_
    refine g_lcV2 C hK hP hZ hS (c_X1_holder (by omega) hki) wl_X1_74 wi_X1_holder wv_X1_holder wc_X1_holder (by decide +kernel) ⟨rfl, rfl, by decide, by decide⟩ rfl (by simp [Value.category]) ⟨by decide, by decide⟩ dX1_plotsHeldBy_16 ?_
    refine g_iload1 C dX1_plotsHeldBy_19 ?_
    refine g_icmp_ne C 26 dX1_plotsHeldBy_20 (by decide) (fun h20 => ?_) (fun h20 => ?_)
    · refine g_iinc3 C _ rfl dX1_plotsHeldBy_26 (nI_1 _) ?_
      refine g_goto C 4 dX1_plotsHeldBy_29 (by decide) ?_
      exact ih (j + 1) _ ⟨by omega, by first | rw [q_cn_t (P := fun i => q_hold d y i = nI f) h20, hx] | rw [q_cn_f (P := fun i => q_hold d y i = nI f) h20, hx]⟩ (by show 40 - (j + 1) < 40 - j; omega)
    · refine g_iinc2 C _ rfl dX1_plotsHeldBy_23 (nI_1 _) ?_
      refine g_iinc3 C _ rfl dX1_plotsHeldBy_26 (nI_1 _) ?_
      refine g_goto C 4 dX1_plotsHeldBy_29 (by decide) ?_
      exact ih (j + 1) _ ⟨by omega, by first | rw [q_cn_t (P := fun i => q_hold d y i = nI f) h20, hx] | rw [q_cn_f (P := fun i => q_hold d y i = nI f) h20, hx]⟩ (by show 40 - (j + 1) < 40 - j; omega)

set_option maxHeartbeats 4000000 in
set_option maxRecDepth 100000 in
theorem c_X1_vaultsOf {l : Launch} {dC : Nat → ClassId} {dI : Nat → Nat → Nat} {cI cL cJ : ClassId} {g1 g2 a : Nat} {t : Nat → Nat} {y : Int32} {d : RW} {r : Int64} {f : Nat} (hf : f < 10) : Met l yX1_vaultsOf (.code yX1_vaultsOf cX1_vaultsOf 4 (some .int) :: WG) (rmL 0) (va_Pc [.ref a, .int (nI f)] (LDP dC dI cI cL cJ g1 g2 a t y d r)) (bq_S (.int (nI (q_vof d f)))) 0 0 (fun _ => False) := by
  refine bq_of [some (.ref a), some (.int (nI f)), none, none] rfl rfl (Nat.le_of_ble_eq_true rfl) (by decide) ?_
  intro P_ E_ s M_ B_ T_ K_ C hv
  obtain ⟨hP, hK, hZ⟩ := hv
  have hS : va_S (fun _ => False) s.heap s.heap [] := va_S.rf
  refine g_iconst C (nI 0) (by decide) dX1_vaultsOf_0 ?_
  refine g_istore2 C rfl dX1_vaultsOf_1 ?_
  refine g_iconst C (nI 0) (by decide) dX1_vaultsOf_2 ?_
  refine g_istore3 C rfl dX1_vaultsOf_3 ?_
  refine g_lp2 (fun (j : Nat) (x : Nat) => j ≤ 40 ∧ x = q_cn (fun i => d 4 i = nI f) j) (fun (j : Nat) (x : Nat) => 40 - j) (fun (j : Nat) (x : Nat) => [some (.ref a), some (.int (nI f)), some (.int (nI x)), some (.int (nI j))]) 0 0 ⟨by omega, rfl⟩ rfl ?_
  rintro j x ⟨hj, hx⟩ ih
  try dsimp only at ih ⊢
  refine g_iload3 C dX1_vaultsOf_4 ?_
  refine g_bipush C (nI 40) (by decide) dX1_vaultsOf_5 ?_
  refine g_icmp_geN C (by omega) (by omega) 29 dX1_vaultsOf_7 (by decide) (fun h7 => ?_) (fun h7 => ?_)
  · refine g_iload2 C dX1_vaultsOf_29 ?_
    exact g_ireti C (by rw [hx, show j = 40 by omega]; rfl) dX1_vaultsOf_30
  · refine g_aload0 C dX1_vaultsOf_10 ?_
    refine g_get (ci := 1) (T := TX1) (N := 12) C inX1 hK hP 0 rfl rfl 5 (by decide) wf_X1_28 ⟨rfl, rfl, rfl⟩ rfl dX1_vaultsOf_11 ?_
    refine g_iload3 C dX1_vaultsOf_14 ?_
    refine g_iald C hK hP 5 0 rfl rfl (by omega) (by decide) dX1_vaultsOf_15 ?_
    refine g_iload1 C dX1_vaultsOf_16 ?_
    refine g_icmp_ne C 23 dX1_vaultsOf_17 (by decide) (fun h17 => ?_) (fun h17 => ?_)
    · refine g_iinc3 C _ rfl dX1_vaultsOf_23 (nI_1 _) ?_
      refine g_goto C 4 dX1_vaultsOf_26 (by decide) ?_
      exact ih (j + 1) _ ⟨by omega, by first | rw [q_cn_t (P := fun i => d 4 i = nI f) h17, hx] | rw [q_cn_f (P := fun i => d 4 i = nI f) h17, hx]⟩ (by show 40 - (j + 1) < 40 - j; omega)
    · refine g_iinc2 C _ rfl dX1_vaultsOf_20 (nI_1 _) ?_
      refine g_iinc3 C _ rfl dX1_vaultsOf_23 (nI_1 _) ?_
      refine g_goto C 4 dX1_vaultsOf_26 (by decide) ?_
      exact ih (j + 1) _ ⟨by omega, by first | rw [q_cn_t (P := fun i => d 4 i = nI f) h17, hx] | rw [q_cn_f (P := fun i => d 4 i = nI f) h17, hx]⟩ (by show 40 - (j + 1) < 40 - j; omega)

set_option maxHeartbeats 4000000 in
set_option maxRecDepth 100000 in
theorem c_X1_lastingReservations {l : Launch} {dC : Nat → ClassId} {dI : Nat → Nat → Nat} {cI cL cJ : ClassId} {g1 g2 a : Nat} {t : Nat → Nat} {y : Int32} {d : RW} {r : Int64}  : Met l yX1_lastingReservations (.code yX1_lastingReservations cX1_lastingReservations 3 (some .int) :: WG) (rmL 1) (va_Pc [.ref a] (LDP dC dI cI cL cJ g1 g2 a t y d r)) (bq_S (.int (nI (q_last d y)))) 0 0 (fun _ => False) := by
  refine bq_of [some (.ref a), none, none] rfl rfl (Nat.le_of_ble_eq_true rfl) (by decide) ?_
  intro P_ E_ s M_ B_ T_ K_ C hv
  obtain ⟨hP, hK, hZ⟩ := hv
  have hS : va_S (fun _ => False) s.heap s.heap [] := va_S.rf
  refine g_iconst C (nI 0) (by decide) dX1_lastingReservations_0 ?_
  refine g_istore1 C rfl dX1_lastingReservations_1 ?_
  refine g_iconst C (nI 0) (by decide) dX1_lastingReservations_2 ?_
  refine g_istore2 C rfl dX1_lastingReservations_3 ?_
  refine g_lp2 (fun (j : Nat) (x : Nat) => j ≤ 40 ∧ x = q_cn (fun i => q_kept d y i) j) (fun (j : Nat) (x : Nat) => 40 - j) (fun (j : Nat) (x : Nat) => [some (.ref a), some (.int (nI x)), some (.int (nI j))]) 0 0 ⟨by omega, rfl⟩ rfl ?_
  rintro j x ⟨hj, hx⟩ ih
  try dsimp only at ih ⊢
  refine g_iload2 C dX1_lastingReservations_4 ?_
  refine g_bipush C (nI 40) (by decide) dX1_lastingReservations_5 ?_
  refine g_icmp_geN C (by omega) (by omega) 31 dX1_lastingReservations_7 (by decide) (fun h7 => ?_) (fun h7 => ?_)
  · refine g_iload1 C dX1_lastingReservations_31 ?_
    exact g_ireti C (by rw [hx, show j = 40 by omega]; rfl) dX1_lastingReservations_32
  · refine g_aload0 C dX1_lastingReservations_10 ?_
    refine g_iload2 C dX1_lastingReservations_11 ?_
    refine g_aload0 C dX1_lastingReservations_12 ?_
    refine g_get (ci := 1) (T := TX1) (N := 12) C inX1 hK hP 0 rfl rfl 0 (by decide) wf_X1_9 ⟨rfl, rfl, rfl⟩ rfl dX1_lastingReservations_13 ?_
    refine g_lcV2 C hK hP hZ hS (c_X1_isReservedIn (by omega)) wl_X1_108 wi_X1_isReservedIn wv_X1_isReservedIn wc_X1_isReservedIn (by decide +kernel) ⟨rfl, rfl, by decide, by decide⟩ rfl (by simp [Value.category]) ⟨by decide, by decide⟩ dX1_lastingReservations_16 ?_
    refine g_if_eqB C 25 dX1_lastingReservations_19 (by decide) (fun h19 => ?_) (fun h19 => ?_)
    · refine g_iinc2 C _ rfl dX1_lastingReservations_25 (nI_1 _) ?_
      refine g_goto C 4 dX1_lastingReservations_28 (by decide) ?_
      exact ih (j + 1) _ ⟨by omega, by first | rw [q_cn_t (P := fun i => q_kept d y i) h19, hx] | rw [q_cn_f (P := fun i => q_kept d y i) h19, hx]⟩ (by show 40 - (j + 1) < 40 - j; omega)
    · refine g_iinc1 C _ rfl dX1_lastingReservations_22 (nI_1 _) ?_
      refine g_iinc2 C _ rfl dX1_lastingReservations_25 (nI_1 _) ?_
      refine g_goto C 4 dX1_lastingReservations_28 (by decide) ?_
      exact ih (j + 1) _ ⟨by omega, by first | rw [q_cn_t (P := fun i => q_kept d y i) h19, hx] | rw [q_cn_f (P := fun i => q_kept d y i) h19, hx]⟩ (by show 40 - (j + 1) < 40 - j; omega)

set_option maxHeartbeats 4000000 in
set_option maxRecDepth 100000 in
theorem c_X1_allBurials {l : Launch} {dC : Nat → ClassId} {dI : Nat → Nat → Nat} {cI cL cJ : ClassId} {g1 g2 a : Nat} {t : Nat → Nat} {y : Int32} {d : RW} {r : Int64}  : Met l yX1_allBurials (.code yX1_allBurials cX1_allBurials 3 (some .int) :: WG) (rmL 1) (va_Pc [.ref a] (LDP dC dI cI cL cJ g1 g2 a t y d r)) (bq_S (.int (nI (q_allB d)))) 0 0 (fun _ => False) := by
  refine bq_of [some (.ref a), none, none] rfl rfl (Nat.le_of_ble_eq_true rfl) (by decide) ?_
  intro P_ E_ s M_ B_ T_ K_ C hv
  obtain ⟨hP, hK, hZ⟩ := hv
  have hS : va_S (fun _ => False) s.heap s.heap [] := va_S.rf
  refine g_iconst C (nI 0) (by decide) dX1_allBurials_0 ?_
  refine g_istore1 C rfl dX1_allBurials_1 ?_
  refine g_iconst C (nI 0) (by decide) dX1_allBurials_2 ?_
  refine g_istore2 C rfl dX1_allBurials_3 ?_
  refine g_lp2 (fun (j : Nat) (x : Nat) => j ≤ 40 ∧ x = q_sN (fun p => q_bur d p) j) (fun (j : Nat) (x : Nat) => 40 - j) (fun (j : Nat) (x : Nat) => [some (.ref a), some (.int (nI x)), some (.int (nI j))]) 0 0 ⟨by omega, rfl⟩ rfl ?_
  rintro j x ⟨hj, hx⟩ ih
  try dsimp only at ih ⊢
  refine g_iload2 C dX1_allBurials_4 ?_
  refine g_bipush C (nI 40) (by decide) dX1_allBurials_5 ?_
  refine g_icmp_geN C (by omega) (by omega) 24 dX1_allBurials_7 (by decide) (fun h7 => ?_) (fun h7 => ?_)
  · refine g_iload1 C dX1_allBurials_24 ?_
    exact g_ireti C (by rw [hx, show j = 40 by omega]; rfl) dX1_allBurials_25
  · refine g_iload1 C dX1_allBurials_10 ?_
    refine g_aload0 C dX1_allBurials_11 ?_
    refine g_iload2 C dX1_allBurials_12 ?_
    refine g_lcV1 C hK hP hZ hS (c_X1_burialsIn (by omega)) wl_X1_58 wi_X1_burialsIn wv_X1_burialsIn wc_X1_burialsIn (by decide +kernel) ⟨rfl, rfl, by decide, by decide⟩ rfl (by simp [Value.category]) ⟨by decide, by decide⟩ dX1_allBurials_13 ?_
    refine g_iaddN C dX1_allBurials_16 ?_
    refine g_istore1 C rfl dX1_allBurials_17 ?_
    refine g_iinc2 C _ rfl dX1_allBurials_18 (nI_1 _) ?_
    refine g_goto C 4 dX1_allBurials_21 (by decide) ?_
    exact ih (j + 1) _ ⟨by omega, by rw [hx]; rfl⟩ (by show 40 - (j + 1) < 40 - j; omega)

set_option maxHeartbeats 4000000 in
set_option maxRecDepth 100000 in
theorem c_X1_allRestingBurials {l : Launch} {dC : Nat → ClassId} {dI : Nat → Nat → Nat} {cI cL cJ : ClassId} {g1 g2 a : Nat} {t : Nat → Nat} {y : Int32} {d : RW} {r : Int64} (hki : INV d) : Met l yX1_allRestingBurials (.code yX1_allRestingBurials cX1_allRestingBurials 3 (some .int) :: WG) (rmL 3) (va_Pc [.ref a] (LDP dC dI cI cL cJ g1 g2 a t y d r)) (bq_S (.int (nI (q_allR d y)))) 0 0 (fun _ => False) := by
  refine bq_of [some (.ref a), none, none] rfl rfl (Nat.le_of_ble_eq_true rfl) (by decide) ?_
  intro P_ E_ s M_ B_ T_ K_ C hv
  obtain ⟨hP, hK, hZ⟩ := hv
  have hS : va_S (fun _ => False) s.heap s.heap [] := va_S.rf
  refine g_iconst C (nI 0) (by decide) dX1_allRestingBurials_0 ?_
  refine g_istore1 C rfl dX1_allRestingBurials_1 ?_
  refine g_iconst C (nI 0) (by decide) dX1_allRestingBurials_2 ?_
  refine g_istore2 C rfl dX1_allRestingBurials_3 ?_
  refine g_lp2 (fun (j : Nat) (x : Nat) => j ≤ 40 ∧ x = q_sN (fun p => q_rsn d y p) j) (fun (j : Nat) (x : Nat) => 40 - j) (fun (j : Nat) (x : Nat) => [some (.ref a), some (.int (nI x)), some (.int (nI j))]) 0 0 ⟨by omega, rfl⟩ rfl ?_
  rintro j x ⟨hj, hx⟩ ih
  try dsimp only at ih ⊢
  refine g_iload2 C dX1_allRestingBurials_4 ?_
  refine g_bipush C (nI 40) (by decide) dX1_allRestingBurials_5 ?_
  refine g_icmp_geN C (by omega) (by omega) 24 dX1_allRestingBurials_7 (by decide) (fun h7 => ?_) (fun h7 => ?_)
  · refine g_iload1 C dX1_allRestingBurials_24 ?_
    exact g_ireti C (by rw [hx, show j = 40 by omega]; rfl) dX1_allRestingBurials_25
  · refine g_iload1 C dX1_allRestingBurials_10 ?_
    refine g_aload0 C dX1_allRestingBurials_11 ?_
    refine g_iload2 C dX1_allRestingBurials_12 ?_
    refine g_lcV1 C hK hP hZ hS (c_X1_restingBurials (by omega) hki) wl_X1_162 wi_X1_restingBurials wv_X1_restingBurials wc_X1_restingBurials (by decide +kernel) ⟨rfl, rfl, by decide, by decide⟩ rfl (by simp [Value.category]) ⟨by decide, by decide⟩ dX1_allRestingBurials_13 ?_
    refine g_iaddN C dX1_allRestingBurials_16 ?_
    refine g_istore1 C rfl dX1_allRestingBurials_17 ?_
    refine g_iinc2 C _ rfl dX1_allRestingBurials_18 (nI_1 _) ?_
    refine g_goto C 4 dX1_allRestingBurials_21 (by decide) ?_
    exact ih (j + 1) _ ⟨by omega, by rw [hx]; rfl⟩ (by show 40 - (j + 1) < 40 - j; omega)

set_option maxHeartbeats 4000000 in
set_option maxRecDepth 100000 in
theorem c_X1_allVaults {l : Launch} {dC : Nat → ClassId} {dI : Nat → Nat → Nat} {cI cL cJ : ClassId} {g1 g2 a : Nat} {t : Nat → Nat} {y : Int32} {d : RW} {r : Int64}  : Met l yX1_allVaults (.code yX1_allVaults cX1_allVaults 3 (some .int) :: WG) (rmL 1) (va_Pc [.ref a] (LDP dC dI cI cL cJ g1 g2 a t y d r)) (bq_S (.int (nI (q_allV d)))) 0 0 (fun _ => False) := by
  refine bq_of [some (.ref a), none, none] rfl rfl (Nat.le_of_ble_eq_true rfl) (by decide) ?_
  intro P_ E_ s M_ B_ T_ K_ C hv
  obtain ⟨hP, hK, hZ⟩ := hv
  have hS : va_S (fun _ => False) s.heap s.heap [] := va_S.rf
  refine g_iconst C (nI 0) (by decide) dX1_allVaults_0 ?_
  refine g_istore1 C rfl dX1_allVaults_1 ?_
  refine g_iconst C (nI 0) (by decide) dX1_allVaults_2 ?_
  refine g_istore2 C rfl dX1_allVaults_3 ?_
  refine g_lp2 (fun (j : Nat) (x : Nat) => j ≤ 10 ∧ x = q_sN (fun f => q_vof d f) j) (fun (j : Nat) (x : Nat) => 10 - j) (fun (j : Nat) (x : Nat) => [some (.ref a), some (.int (nI x)), some (.int (nI j))]) 0 0 ⟨by omega, rfl⟩ rfl ?_
  rintro j x ⟨hj, hx⟩ ih
  try dsimp only at ih ⊢
  refine g_iload2 C dX1_allVaults_4 ?_
  refine g_bipush C (nI 10) (by decide) dX1_allVaults_5 ?_
  refine g_icmp_geN C (by omega) (by omega) 24 dX1_allVaults_7 (by decide) (fun h7 => ?_) (fun h7 => ?_)
  · refine g_iload1 C dX1_allVaults_24 ?_
    exact g_ireti C (by rw [hx, show j = 10 by omega]; rfl) dX1_allVaults_25
  · refine g_iload1 C dX1_allVaults_10 ?_
    refine g_aload0 C dX1_allVaults_11 ?_
    refine g_iload2 C dX1_allVaults_12 ?_
    refine g_lcV1 C hK hP hZ hS (c_X1_vaultsOf (by omega)) wl_X1_171 wi_X1_vaultsOf wv_X1_vaultsOf wc_X1_vaultsOf (by decide +kernel) ⟨rfl, rfl, by decide, by decide⟩ rfl (by simp [Value.category]) ⟨by decide, by decide⟩ dX1_allVaults_13 ?_
    refine g_iaddN C dX1_allVaults_16 ?_
    refine g_istore1 C rfl dX1_allVaults_17 ?_
    refine g_iinc2 C _ rfl dX1_allVaults_18 (nI_1 _) ?_
    refine g_goto C 4 dX1_allVaults_21 (by decide) ?_
    exact ih (j + 1) _ ⟨by omega, by rw [hx]; rfl⟩ (by show 10 - (j + 1) < 10 - j; omega)

set_option maxHeartbeats 4000000 in
set_option maxRecDepth 100000 in
theorem c_X1_allPaid {l : Launch} {dC : Nat → ClassId} {dI : Nat → Nat → Nat} {cI cL cJ : ClassId} {g1 g2 a : Nat} {t : Nat → Nat} {y : Int32} {d : RW} {r : Int64}  : Met l yX1_allPaid (.code yX1_allPaid cX1_allPaid 3 (some .int) :: WG) (rmL 0) (va_Pc [.ref a] (LDP dC dI cI cL cJ g1 g2 a t y d r)) (bq_S (.int (q_allP d))) 0 0 (fun _ => False) := by
  refine bq_of [some (.ref a), none, none] rfl rfl (Nat.le_of_ble_eq_true rfl) (by decide) ?_
  intro P_ E_ s M_ B_ T_ K_ C hv
  obtain ⟨hP, hK, hZ⟩ := hv
  have hS : va_S (fun _ => False) s.heap s.heap [] := va_S.rf
  refine g_iconst C (nI 0) (by decide) dX1_allPaid_0 ?_
  refine g_istore1 C rfl dX1_allPaid_1 ?_
  refine g_iconst C (nI 0) (by decide) dX1_allPaid_2 ?_
  refine g_istore2 C rfl dX1_allPaid_3 ?_
  refine g_lp2 (fun (j : Nat) (x : Int32) => j ≤ 10 ∧ x = q_sI (fun f => d 1 f) j) (fun (j : Nat) (x : Int32) => 10 - j) (fun (j : Nat) (x : Int32) => [some (.ref a), some (.int x), some (.int (nI j))]) 0 (nI 0) ⟨by omega, rfl⟩ rfl ?_
  rintro j x ⟨hj, hx⟩ ih
  try dsimp only at ih ⊢
  refine g_iload2 C dX1_allPaid_4 ?_
  refine g_bipush C (nI 10) (by decide) dX1_allPaid_5 ?_
  refine g_icmp_geN C (by omega) (by omega) 25 dX1_allPaid_7 (by decide) (fun h7 => ?_) (fun h7 => ?_)
  · refine g_iload1 C dX1_allPaid_25 ?_
    exact g_ireti C (by rw [hx, show j = 10 by omega]; rfl) dX1_allPaid_26
  · refine g_iload1 C dX1_allPaid_10 ?_
    refine g_aload0 C dX1_allPaid_11 ?_
    refine g_get (ci := 1) (T := TX1) (N := 12) C inX1 hK hP 0 rfl rfl 2 (by decide) wf_X1_19 ⟨rfl, rfl, rfl⟩ rfl dX1_allPaid_12 ?_
    refine g_iload2 C dX1_allPaid_15 ?_
    refine g_iald C hK hP 2 0 rfl rfl (by omega) (by decide) dX1_allPaid_16 ?_
    refine g_iadd C dX1_allPaid_17 ?_
    refine g_istore1 C rfl dX1_allPaid_18 ?_
    refine g_iinc2 C _ rfl dX1_allPaid_19 (nI_1 _) ?_
    refine g_goto C 4 dX1_allPaid_22 (by decide) ?_
    exact ih (j + 1) _ ⟨by omega, by rw [hx]; rfl⟩ (by show 10 - (j + 1) < 10 - j; omega)

set_option maxHeartbeats 4000000 in
set_option maxRecDepth 100000 in
theorem c_X1_openPlots {l : Launch} {dC : Nat → ClassId} {dI : Nat → Nat → Nat} {cI cL cJ : ClassId} {g1 g2 a : Nat} {t : Nat → Nat} {y : Int32} {d : RW} {r : Int64}  : Met l yX1_openPlots (.code yX1_openPlots cX1_openPlots 4 (some .long) :: WG) (rmL 1) (va_Pc [.ref a] (LDP dC dI cI cL cJ g1 g2 a t y d r)) (bq_S (.long (q_opn d))) 0 0 (fun _ => False) := by
  refine bq_of [some (.ref a), none, none, none] rfl rfl (Nat.le_of_ble_eq_true rfl) (by decide) ?_
  intro P_ E_ s M_ B_ T_ K_ C hv
  obtain ⟨hP, hK, hZ⟩ := hv
  have hS : va_S (fun _ => False) s.heap s.heap [] := va_S.rf
  refine g_lconst C 0 (by decide) dX1_openPlots_0 ?_
  refine g_lstore1 C rfl dX1_openPlots_1 ?_
  refine g_iconst C (nI 0) (by decide) dX1_openPlots_2 ?_
  refine g_istore3 C rfl dX1_openPlots_3 ?_
  refine g_lp2 (fun (j : Nat) (x : Int64) => j ≤ 40 ∧ x = q_bs (fun p => d 3 p = nI 3 ∨ q_bur d p = 0) j) (fun (j : Nat) (x : Int64) => 40 - j) (fun (j : Nat) (x : Int64) => [some (.ref a), some (.long x), none, some (.int (nI j))]) 0 0 ⟨by omega, rfl⟩ rfl ?_
  rintro j x ⟨hj, hx⟩ ih
  try dsimp only at ih ⊢
  refine g_iload3 C dX1_openPlots_4 ?_
  refine g_bipush C (nI 40) (by decide) dX1_openPlots_5 ?_
  refine g_icmp_geN C (by omega) (by omega) 41 dX1_openPlots_7 (by decide) (fun h7 => ?_) (fun h7 => ?_)
  · refine g_lload1 C dX1_openPlots_41 ?_
    exact g_lret C (by rw [hx, show j = 40 by omega]; rfl) dX1_openPlots_42
  · refine g_aload0 C dX1_openPlots_10 ?_
    refine g_get (ci := 1) (T := TX1) (N := 12) C inX1 hK hP 0 rfl rfl 4 (by decide) wf_X1_25 ⟨rfl, rfl, rfl⟩ rfl dX1_openPlots_11 ?_
    refine g_iload3 C dX1_openPlots_14 ?_
    refine g_iald C hK hP 4 0 rfl rfl (by omega) (by decide) dX1_openPlots_15 ?_
    refine g_iconst C (nI 3) (by decide) dX1_openPlots_16 ?_
    refine g_icmp_eq C 28 dX1_openPlots_17 (by decide) (fun h17 => ?_) (fun h17 => ?_)
    · refine g_lload1 C dX1_openPlots_28 ?_
      refine g_iload3 C dX1_openPlots_29 ?_
      refine g_scS1 C (c_X1_bitOf) wl_X1_114 wt_X1_bitOf wn_X1 wc_X1_bitOf (by decide +kernel) ⟨rfl, rfl, by decide, by decide⟩ rfl (by simp [Value.category]) ⟨by decide, by decide⟩ dX1_openPlots_30 ?_
      refine g_lor C dX1_openPlots_33 ?_
      refine g_lstore1 C rfl dX1_openPlots_34 ?_
      refine g_iinc3 C _ rfl dX1_openPlots_35 (nI_1 _) ?_
      refine g_goto C 4 dX1_openPlots_38 (by decide) ?_
      exact ih (j + 1) _ ⟨by omega, by first | rw [q_bs_t (P := fun p => d 3 p = nI 3 ∨ q_bur d p = 0) (Or.inl h17), hx] | rw [q_bs_f (P := fun p => d 3 p = nI 3 ∨ q_bur d p = 0) (fun z => z.elim h17 h25), hx]⟩ (by show 40 - (j + 1) < 40 - j; omega)
    · refine g_aload0 C dX1_openPlots_20 ?_
      refine g_iload3 C dX1_openPlots_21 ?_
      refine g_lcV1 C hK hP hZ hS (c_X1_burialsIn (by omega)) wl_X1_58 wi_X1_burialsIn wv_X1_burialsIn wc_X1_burialsIn (by decide +kernel) ⟨rfl, rfl, by decide, by decide⟩ rfl (by simp [Value.category]) ⟨by decide, by decide⟩ dX1_openPlots_22 ?_
      have hbu : q_bur d j ≤ 3 := q_cn_le _ 3
      refine g_if_neN C (by omega) 35 dX1_openPlots_25 (by decide) (fun h25 => ?_) (fun h25 => ?_)
      · refine g_iinc3 C _ rfl dX1_openPlots_35 (nI_1 _) ?_
        refine g_goto C 4 dX1_openPlots_38 (by decide) ?_
        exact ih (j + 1) _ ⟨by omega, by first | rw [q_bs_t (P := fun p => d 3 p = nI 3 ∨ q_bur d p = 0) (Or.inr h25), hx] | rw [q_bs_f (P := fun p => d 3 p = nI 3 ∨ q_bur d p = 0) (fun z => z.elim h17 h25), hx]⟩ (by show 40 - (j + 1) < 40 - j; omega)
      · refine g_lload1 C dX1_openPlots_28 ?_
        refine g_iload3 C dX1_openPlots_29 ?_
        refine g_scS1 C (c_X1_bitOf) wl_X1_114 wt_X1_bitOf wn_X1 wc_X1_bitOf (by decide +kernel) ⟨rfl, rfl, by decide, by decide⟩ rfl (by simp [Value.category]) ⟨by decide, by decide⟩ dX1_openPlots_30 ?_
        refine g_lor C dX1_openPlots_33 ?_
        refine g_lstore1 C rfl dX1_openPlots_34 ?_
        refine g_iinc3 C _ rfl dX1_openPlots_35 (nI_1 _) ?_
        refine g_goto C 4 dX1_openPlots_38 (by decide) ?_
        exact ih (j + 1) _ ⟨by omega, by first | rw [q_bs_t (P := fun p => d 3 p = nI 3 ∨ q_bur d p = 0) (Or.inr h25), hx] | rw [q_bs_f (P := fun p => d 3 p = nI 3 ∨ q_bur d p = 0) (fun z => z.elim h17 h25), hx]⟩ (by show 40 - (j + 1) < 40 - j; omega)

set_option maxHeartbeats 4000000 in
set_option maxRecDepth 100000 in
theorem c_X1_soilPlots {l : Launch} {dC : Nat → ClassId} {dI : Nat → Nat → Nat} {cI cL cJ : ClassId} {g1 g2 a : Nat} {t : Nat → Nat} {y : Int32} {d : RW} {r : Int64}  : Met l yX1_soilPlots (.code yX1_soilPlots cX1_soilPlots 4 (some .long) :: WG) (rmL 1) (va_Pc [.ref a] (LDP dC dI cI cL cJ g1 g2 a t y d r)) (bq_S (.long (q_soil d))) 0 0 (fun _ => False) := by
  refine bq_of [some (.ref a), none, none, none] rfl rfl (Nat.le_of_ble_eq_true rfl) (by decide) ?_
  intro P_ E_ s M_ B_ T_ K_ C hv
  obtain ⟨hP, hK, hZ⟩ := hv
  have hS : va_S (fun _ => False) s.heap s.heap [] := va_S.rf
  refine g_lconst C 0 (by decide) dX1_soilPlots_0 ?_
  refine g_lstore1 C rfl dX1_soilPlots_1 ?_
  refine g_iconst C (nI 0) (by decide) dX1_soilPlots_2 ?_
  refine g_istore3 C rfl dX1_soilPlots_3 ?_
  refine g_lp2 (fun (j : Nat) (x : Int64) => j ≤ 40 ∧ x = q_bs (fun p => d 3 p ≠ nI 3) j) (fun (j : Nat) (x : Int64) => 40 - j) (fun (j : Nat) (x : Int64) => [some (.ref a), some (.long x), none, some (.int (nI j))]) 0 0 ⟨by omega, rfl⟩ rfl ?_
  rintro j x ⟨hj, hx⟩ ih
  try dsimp only at ih ⊢
  refine g_iload3 C dX1_soilPlots_4 ?_
  refine g_bipush C (nI 40) (by decide) dX1_soilPlots_5 ?_
  refine g_icmp_geN C (by omega) (by omega) 33 dX1_soilPlots_7 (by decide) (fun h7 => ?_) (fun h7 => ?_)
  · refine g_lload1 C dX1_soilPlots_33 ?_
    exact g_lret C (by rw [hx, show j = 40 by omega]; rfl) dX1_soilPlots_34
  · refine g_aload0 C dX1_soilPlots_10 ?_
    refine g_get (ci := 1) (T := TX1) (N := 12) C inX1 hK hP 0 rfl rfl 4 (by decide) wf_X1_25 ⟨rfl, rfl, rfl⟩ rfl dX1_soilPlots_11 ?_
    refine g_iload3 C dX1_soilPlots_14 ?_
    refine g_iald C hK hP 4 0 rfl rfl (by omega) (by decide) dX1_soilPlots_15 ?_
    refine g_iconst C (nI 3) (by decide) dX1_soilPlots_16 ?_
    refine g_icmp_eq C 27 dX1_soilPlots_17 (by decide) (fun h17 => ?_) (fun h17 => ?_)
    · refine g_iinc3 C _ rfl dX1_soilPlots_27 (nI_1 _) ?_
      refine g_goto C 4 dX1_soilPlots_30 (by decide) ?_
      exact ih (j + 1) _ ⟨by omega, by first | rw [q_bs_t (P := fun p => d 3 p ≠ nI 3) h17, hx] | rw [q_bs_f (P := fun p => d 3 p ≠ nI 3) (fun z => z h17), hx]⟩ (by show 40 - (j + 1) < 40 - j; omega)
    · refine g_lload1 C dX1_soilPlots_20 ?_
      refine g_iload3 C dX1_soilPlots_21 ?_
      refine g_scS1 C (c_X1_bitOf) wl_X1_114 wt_X1_bitOf wn_X1 wc_X1_bitOf (by decide +kernel) ⟨rfl, rfl, by decide, by decide⟩ rfl (by simp [Value.category]) ⟨by decide, by decide⟩ dX1_soilPlots_22 ?_
      refine g_lor C dX1_soilPlots_25 ?_
      refine g_lstore1 C rfl dX1_soilPlots_26 ?_
      refine g_iinc3 C _ rfl dX1_soilPlots_27 (nI_1 _) ?_
      refine g_goto C 4 dX1_soilPlots_30 (by decide) ?_
      exact ih (j + 1) _ ⟨by omega, by first | rw [q_bs_t (P := fun p => d 3 p ≠ nI 3) h17, hx] | rw [q_bs_f (P := fun p => d 3 p ≠ nI 3) (fun z => z h17), hx]⟩ (by show 40 - (j + 1) < 40 - j; omega)

set_option maxHeartbeats 4000000 in
set_option maxRecDepth 100000 in
theorem c_X1_neighboursOf {l : Launch} {x : Int64} : Met l yX1_neighboursOf (.code yX1_neighboursOf cX1_neighboursOf 6 (some .long) :: WG) (rmL 0) (va_Pc [.long x] (fun _ => True)) (bq_S (.long (q_nb x))) 0 0 (fun _ => False) := by
  refine bq_of [some (.long x), none, none, none, none, none] rfl rfl (Nat.le_of_ble_eq_true rfl) (by decide) ?_
  intro P_ E_ s M_ B_ T_ K_ C hv
  refine g_lload0 C dX1_neighboursOf_0 ?_
  refine g_bipush C (nI 8) (by decide) dX1_neighboursOf_1 ?_
  refine g_lshl C _ rfl dX1_neighboursOf_3 ?_
  refine g_lload0 C dX1_neighboursOf_4 ?_
  refine g_bipush C (nI 8) (by decide) dX1_neighboursOf_5 ?_
  refine g_lushr C _ rfl dX1_neighboursOf_7 ?_
  refine g_lor C dX1_neighboursOf_8 ?_
  refine g_lstore2 C rfl dX1_neighboursOf_9 ?_
  refine g_lload0 C dX1_neighboursOf_10 ?_
  refine g_ldc2 C wq_X1_118 dX1_neighboursOf_11 ?_
  refine g_land C dX1_neighboursOf_14 ?_
  refine g_iconst C (nI 1) (by decide) dX1_neighboursOf_15 ?_
  refine g_lshl C _ rfl dX1_neighboursOf_16 ?_
  refine g_lload0 C dX1_neighboursOf_17 ?_
  refine g_ldc2 C wq_X1_120 dX1_neighboursOf_18 ?_
  refine g_land C dX1_neighboursOf_21 ?_
  refine g_iconst C (nI 1) (by decide) dX1_neighboursOf_22 ?_
  refine g_lushr C _ rfl dX1_neighboursOf_23 ?_
  refine g_lor C dX1_neighboursOf_24 ?_
  refine g_lstore4 C rfl dX1_neighboursOf_25 ?_
  refine g_lload2 C dX1_neighboursOf_27 ?_
  refine g_lload4 C dX1_neighboursOf_28 ?_
  refine g_lor C dX1_neighboursOf_30 ?_
  refine g_ldc2 C wq_X1_46 dX1_neighboursOf_31 ?_
  refine g_land C dX1_neighboursOf_34 ?_
  exact g_lret C (rfl) dX1_neighboursOf_35

set_option maxHeartbeats 4000000 in
set_option maxRecDepth 100000 in
theorem c_X1_reachedWithout {l : Launch} {dC : Nat → ClassId} {dI : Nat → Nat → Nat} {cI cL cJ : ClassId} {g1 g2 a : Nat} {t : Nat → Nat} {y : Int32} {d : RW} {r : Int64} {x : Int64} : Met l yX1_reachedWithout (.code yX1_reachedWithout cX1_reachedWithout 8 (some .long) :: WG) (rmL 2) (va_Pc [.ref a, .long x] (LDP dC dI cI cL cJ g1 g2 a t y d r)) (bq_S (.long (q_rw d x))) 0 0 (fun _ => False) := by
  refine bq_of [some (.ref a), some (.long x), none, none, none, none, none, none] rfl rfl (Nat.le_of_ble_eq_true rfl) (by decide) ?_
  intro P_ E_ s M_ B_ T_ K_ C hv
  obtain ⟨hP, hK, hZ⟩ := hv
  have hS : va_S (fun _ => False) s.heap s.heap [] := va_S.rf
  refine g_aload0 C dX1_reachedWithout_0 ?_
  refine g_lcV0 C hK hP hZ hS (c_X1_openPlots) wl_X1_122 wi_X1_openPlots wv_X1_openPlots wc_X1_openPlots (by decide +kernel) ⟨rfl, rfl, by decide, by decide⟩ rfl (by simp [Value.category]) ⟨by decide, by decide⟩ dX1_reachedWithout_1 ?_
  refine g_lload1 C dX1_reachedWithout_4 ?_
  refine g_ldc2 C wq_X1_126 dX1_reachedWithout_5 ?_
  refine g_lxor C dX1_reachedWithout_8 ?_
  refine g_land C dX1_reachedWithout_9 ?_
  refine g_lstore3 C rfl dX1_reachedWithout_10 ?_
  refine g_lconst C 1 (by decide) dX1_reachedWithout_11 ?_
  refine g_lload3 C dX1_reachedWithout_12 ?_
  refine g_land C dX1_reachedWithout_13 ?_
  refine g_lstore5 C rfl dX1_reachedWithout_14 ?_
  refine g_iconst C (nI 0) (by decide) dX1_reachedWithout_16 ?_
  refine g_istore7 C rfl dX1_reachedWithout_17 ?_
  refine g_lp2 (fun (j : Nat) (w : Int64) => j ≤ 40 ∧ w = q_fl (q_opn d &&& (x ^^^ (-1))) j) (fun (j : Nat) (w : Int64) => 40 - j) (fun (j : Nat) (w : Int64) => [some (.ref a), some (.long x), none, some (.long (q_opn d &&& (x ^^^ (-1)))), none, some (.long w), none, some (.int (nI j))]) 0 _ ⟨by omega, rfl⟩ rfl ?_
  rintro j w ⟨hj, hw⟩ ih
  try dsimp only at ih ⊢
  refine g_iload7 C dX1_reachedWithout_19 ?_
  refine g_bipush C (nI 40) (by decide) dX1_reachedWithout_21 ?_
  refine g_icmp_geN C (by omega) (by omega) 44 dX1_reachedWithout_23 (by decide) (fun h23 => ?_) (fun h23 => ?_)
  · refine g_lload5 C dX1_reachedWithout_44 ?_
    refine g_scS1 C (c_X1_neighboursOf) wl_X1_128 wt_X1_neighboursOf wn_X1 wc_X1_neighboursOf (by decide +kernel) ⟨rfl, rfl, by decide, by decide⟩ rfl (by simp [Value.category]) ⟨by decide, by decide⟩ dX1_reachedWithout_46 ?_
    refine g_lconst C 1 (by decide) dX1_reachedWithout_49 ?_
    refine g_lor C dX1_reachedWithout_50 ?_
    exact g_lret C (by rw [hw, show j = 40 by omega]; rfl) dX1_reachedWithout_51
  · refine g_lload5 C dX1_reachedWithout_26 ?_
    refine g_lload5 C dX1_reachedWithout_28 ?_
    refine g_scS1 C (c_X1_neighboursOf) wl_X1_128 wt_X1_neighboursOf wn_X1 wc_X1_neighboursOf (by decide +kernel) ⟨rfl, rfl, by decide, by decide⟩ rfl (by simp [Value.category]) ⟨by decide, by decide⟩ dX1_reachedWithout_30 ?_
    refine g_lload3 C dX1_reachedWithout_33 ?_
    refine g_land C dX1_reachedWithout_34 ?_
    refine g_lor C dX1_reachedWithout_35 ?_
    refine g_lstore5 C rfl dX1_reachedWithout_36 ?_
    refine g_iinc7 C _ rfl dX1_reachedWithout_38 (nI_1 _) ?_
    refine g_goto C 19 dX1_reachedWithout_41 (by decide) ?_
    exact ih (j + 1) _ ⟨by omega, by rw [hw]; rfl⟩ (by show 40 - (j + 1) < 40 - j; omega)

set_option maxHeartbeats 4000000 in
set_option maxRecDepth 100000 in
theorem c_J13_bitCount_95d88 {l : Launch} {x : Int64} : Met l yJ13_bitCount_95d88 (.code yJ13_bitCount_95d88 cJ13_bitCount_95d88 2 (some .int) :: WG) (rmL 0) (va_Pc [.long x] (fun _ => True)) (bq_S (.int (q_bc x))) 0 0 (fun _ => False) := by
  refine bq_of [some (.long x), none] rfl rfl (Nat.le_of_ble_eq_true rfl) (by decide) ?_
  intro P_ E_ s M_ B_ T_ K_ C hv
  refine g_lload0 C dJ13_bitCount_95d88_0 ?_
  refine g_lload0 C dJ13_bitCount_95d88_1 ?_
  refine g_iconst C (nI 1) (by decide) dJ13_bitCount_95d88_2 ?_
  refine g_lushr C _ rfl dJ13_bitCount_95d88_3 ?_
  refine g_ldc2 C wq_J13_314 dJ13_bitCount_95d88_4 ?_
  refine g_land C dJ13_bitCount_95d88_7 ?_
  refine g_lsub C dJ13_bitCount_95d88_8 ?_
  refine g_lstore0 C dJ13_bitCount_95d88_9 ?_
  refine g_lload0 C dJ13_bitCount_95d88_10 ?_
  refine g_ldc2 C wq_J13_316 dJ13_bitCount_95d88_11 ?_
  refine g_land C dJ13_bitCount_95d88_14 ?_
  refine g_lload0 C dJ13_bitCount_95d88_15 ?_
  refine g_iconst C (nI 2) (by decide) dJ13_bitCount_95d88_16 ?_
  refine g_lushr C _ rfl dJ13_bitCount_95d88_17 ?_
  refine g_ldc2 C wq_J13_316 dJ13_bitCount_95d88_18 ?_
  refine g_land C dJ13_bitCount_95d88_21 ?_
  refine g_ladd C dJ13_bitCount_95d88_22 ?_
  refine g_lstore0 C dJ13_bitCount_95d88_23 ?_
  refine g_lload0 C dJ13_bitCount_95d88_24 ?_
  refine g_lload0 C dJ13_bitCount_95d88_25 ?_
  refine g_iconst C (nI 4) (by decide) dJ13_bitCount_95d88_26 ?_
  refine g_lushr C _ rfl dJ13_bitCount_95d88_27 ?_
  refine g_ladd C dJ13_bitCount_95d88_28 ?_
  refine g_ldc2 C wq_J13_318 dJ13_bitCount_95d88_29 ?_
  refine g_land C dJ13_bitCount_95d88_32 ?_
  refine g_lstore0 C dJ13_bitCount_95d88_33 ?_
  refine g_lload0 C dJ13_bitCount_95d88_34 ?_
  refine g_lload0 C dJ13_bitCount_95d88_35 ?_
  refine g_bipush C (nI 8) (by decide) dJ13_bitCount_95d88_36 ?_
  refine g_lushr C _ rfl dJ13_bitCount_95d88_38 ?_
  refine g_ladd C dJ13_bitCount_95d88_39 ?_
  refine g_lstore0 C dJ13_bitCount_95d88_40 ?_
  refine g_lload0 C dJ13_bitCount_95d88_41 ?_
  refine g_lload0 C dJ13_bitCount_95d88_42 ?_
  refine g_bipush C (nI 16) (by decide) dJ13_bitCount_95d88_43 ?_
  refine g_lushr C _ rfl dJ13_bitCount_95d88_45 ?_
  refine g_ladd C dJ13_bitCount_95d88_46 ?_
  refine g_lstore0 C dJ13_bitCount_95d88_47 ?_
  refine g_lload0 C dJ13_bitCount_95d88_48 ?_
  refine g_lload0 C dJ13_bitCount_95d88_49 ?_
  refine g_bipush C (nI 32) (by decide) dJ13_bitCount_95d88_50 ?_
  refine g_lushr C _ rfl dJ13_bitCount_95d88_52 ?_
  refine g_ladd C dJ13_bitCount_95d88_53 ?_
  refine g_lstore0 C dJ13_bitCount_95d88_54 ?_
  refine g_lload0 C dJ13_bitCount_95d88_55 ?_
  refine g_l2i C _ rfl dJ13_bitCount_95d88_56 ?_
  refine g_bipush C (nI 127) (by decide) dJ13_bitCount_95d88_57 ?_
  refine g_iand C dJ13_bitCount_95d88_59 ?_
  exact g_ireti C (rfl) dJ13_bitCount_95d88_60

set_option maxHeartbeats 4000000 in
set_option maxRecDepth 100000 in
theorem c_X1_lostWithout {l : Launch} {dC : Nat → ClassId} {dI : Nat → Nat → Nat} {cI cL cJ : ClassId} {g1 g2 a : Nat} {t : Nat → Nat} {y : Int32} {d : RW} {r : Int64} {p : Nat} (hp : p < 40) : Met l yX1_lostWithout (.code yX1_lostWithout cX1_lostWithout 4 (some .int) :: WG) (rmL 3) (va_Pc [.ref a, .int (nI p)] (LDP dC dI cI cL cJ g1 g2 a t y d r)) (bq_S (.int (q_bc (q_lw d r p)))) 0 0 (fun _ => False) := by
  refine bq_of [some (.ref a), some (.int (nI p)), none, none] rfl rfl (Nat.le_of_ble_eq_true rfl) (by decide) ?_
  intro P_ E_ s M_ B_ T_ K_ C hv
  obtain ⟨hP, hK, hZ⟩ := hv
  have hS : va_S (fun _ => False) s.heap s.heap [] := va_S.rf
  refine g_aload0 C dX1_lostWithout_0 ?_
  refine g_get (ci := 1) (T := TX1) (N := 12) C inX1 hK hP 0 rfl rfl 11 (by decide) wf_X1_48 ⟨rfl, rfl, rfl⟩ rfl dX1_lostWithout_1 ?_
  refine g_aload0 C dX1_lostWithout_4 ?_
  refine g_iload1 C dX1_lostWithout_5 ?_
  refine g_scS1 C (c_X1_bitOf) wl_X1_114 wt_X1_bitOf wn_X1 wc_X1_bitOf (by decide +kernel) ⟨rfl, rfl, by decide, by decide⟩ rfl (by simp [Value.category]) ⟨by decide, by decide⟩ dX1_lostWithout_6 ?_
  refine g_lcV1 C hK hP hZ hS (c_X1_reachedWithout) wl_X1_70 wi_X1_reachedWithout wv_X1_reachedWithout wc_X1_reachedWithout (by decide +kernel) ⟨rfl, rfl, by decide, by decide⟩ rfl (by simp [Value.category]) ⟨by decide, by decide⟩ dX1_lostWithout_9 ?_
  refine g_ldc2 C wq_X1_126 dX1_lostWithout_12 ?_
  refine g_lxor C dX1_lostWithout_15 ?_
  refine g_land C dX1_lostWithout_16 ?_
  refine g_lstore2 C rfl dX1_lostWithout_17 ?_
  refine g_lload2 C dX1_lostWithout_18 ?_
  refine g_aload0 C dX1_lostWithout_19 ?_
  refine g_lcV0 C hK hP hZ hS (c_X1_soilPlots) wl_X1_131 wi_X1_soilPlots wv_X1_soilPlots wc_X1_soilPlots (by decide +kernel) ⟨rfl, rfl, by decide, by decide⟩ rfl (by simp [Value.category]) ⟨by decide, by decide⟩ dX1_lostWithout_20 ?_
  refine g_land C dX1_lostWithout_23 ?_
  refine g_iload1 C dX1_lostWithout_24 ?_
  refine g_scS1 C (c_X1_bitOf) wl_X1_114 wt_X1_bitOf wn_X1 wc_X1_bitOf (by decide +kernel) ⟨rfl, rfl, by decide, by decide⟩ rfl (by simp [Value.category]) ⟨by decide, by decide⟩ dX1_lostWithout_25 ?_
  refine g_ldc2 C wq_X1_126 dX1_lostWithout_28 ?_
  refine g_lxor C dX1_lostWithout_31 ?_
  refine g_land C dX1_lostWithout_32 ?_
  refine g_pcT C c_J13_bitCount_95d88 wl_X1_134 wt_J13_bitCount_95d88 wn_J13 wc_J13_bitCount_95d88 (by decide +kernel) ⟨rfl, rfl, by decide, by decide⟩ rfl (by simp [Value.category]) ⟨by decide, by decide⟩ dX1_lostWithout_33 ?_
  exact g_ireti C (rfl) dX1_lostWithout_36

set_option maxHeartbeats 4000000 in
set_option maxRecDepth 100000 in
theorem c_X1_plotProperty {l : Launch} {dC : Nat → ClassId} {dI : Nat → Nat → Nat} {cI cL cJ : ClassId} {g1 g2 a : Nat} {t : Nat → Nat} {y : Int32} {d : RW} {r : Int64} {p what : Nat} (hp : p < 40) (hw : what ≤ 8) (hki : INV d) : Met l yX1_plotProperty (.code yX1_plotProperty cX1_plotProperty 3 (some .int) :: WG) (rmL 3) (va_Pc [.ref a, .int (nI p), .int (nI what)] (LDP dC dI cI cL cJ g1 g2 a t y d r)) (bq_S (.int (q_pp d y (q_rb r) p what))) 0 0 (fun _ => False) := by
  refine bq_of [some (.ref a), some (.int (nI p)), some (.int (nI what))] rfl rfl (Nat.le_of_ble_eq_true rfl) (by decide) ?_
  intro P_ E_ s M_ B_ T_ K_ C hv
  obtain ⟨hP, hK, hZ⟩ := hv
  have hS : va_S (fun _ => False) s.heap s.heap [] := va_S.rf
  refine g_iload2 C dX1_plotProperty_0 ?_
  rcases (show what = 0 ∨ what = 1 ∨ what = 2 ∨ what = 3 ∨ what = 4 ∨ what = 5 ∨ what = 6 ∨ what = 7 ∨ what = 8 by omega) with rfl | rfl | rfl | rfl | rfl | rfl | rfl | rfl | rfl
  · refine g_tsI C 48 dX1_plotProperty_1 (by decide) (by decide) rfl (by decide) ?_
    refine g_aload0 C dX1_plotProperty_48 ?_
    refine g_get (ci := 1) (T := TX1) (N := 12) C inX1 hK hP 0 rfl rfl 4 (by decide) wf_X1_25 ⟨rfl, rfl, rfl⟩ rfl dX1_plotProperty_49 ?_
    refine g_iload1 C dX1_plotProperty_52 ?_
    refine g_iald C hK hP 4 0 rfl rfl (by omega) (by decide) dX1_plotProperty_53 ?_
    exact g_ireti C (rfl) dX1_plotProperty_54
  · refine g_tsI C 55 dX1_plotProperty_1 (by decide) (by decide) rfl (by decide) ?_
    refine g_aload0 C dX1_plotProperty_55 ?_
    refine g_iload1 C dX1_plotProperty_56 ?_
    refine g_aload0 C dX1_plotProperty_57 ?_
    refine g_get (ci := 1) (T := TX1) (N := 12) C inX1 hK hP 0 rfl rfl 0 (by decide) wf_X1_9 ⟨rfl, rfl, rfl⟩ rfl dX1_plotProperty_58 ?_
    refine g_lcV2 C hK hP hZ hS (c_X1_holder (by omega) hki) wl_X1_74 wi_X1_holder wv_X1_holder wc_X1_holder (by decide +kernel) ⟨rfl, rfl, by decide, by decide⟩ rfl (by simp [Value.category]) ⟨by decide, by decide⟩ dX1_plotProperty_61 ?_
    exact g_ireti C (rfl) dX1_plotProperty_64
  · refine g_tsI C 65 dX1_plotProperty_1 (by decide) (by decide) rfl (by decide) ?_
    refine g_aload0 C dX1_plotProperty_65 ?_
    refine g_iload1 C dX1_plotProperty_66 ?_
    refine g_lcV1 C hK hP hZ hS (c_X1_burialsIn (by omega)) wl_X1_58 wi_X1_burialsIn wv_X1_burialsIn wc_X1_burialsIn (by decide +kernel) ⟨rfl, rfl, by decide, by decide⟩ rfl (by simp [Value.category]) ⟨by decide, by decide⟩ dX1_plotProperty_67 ?_
    exact g_ireti C (rfl) dX1_plotProperty_70
  · refine g_tsI C 71 dX1_plotProperty_1 (by decide) (by decide) rfl (by decide) ?_
    refine g_aload0 C dX1_plotProperty_71 ?_
    refine g_iload1 C dX1_plotProperty_72 ?_
    refine g_lcV1 C hK hP hZ hS (c_X1_restingBurials (by omega) hki) wl_X1_162 wi_X1_restingBurials wv_X1_restingBurials wc_X1_restingBurials (by decide +kernel) ⟨rfl, rfl, by decide, by decide⟩ rfl (by simp [Value.category]) ⟨by decide, by decide⟩ dX1_plotProperty_73 ?_
    exact g_ireti C (rfl) dX1_plotProperty_76
  · refine g_tsI C 77 dX1_plotProperty_1 (by decide) (by decide) rfl (by decide) ?_
    refine g_aload0 C dX1_plotProperty_77 ?_
    refine g_get (ci := 1) (T := TX1) (N := 12) C inX1 hK hP 0 rfl rfl 5 (by decide) wf_X1_28 ⟨rfl, rfl, rfl⟩ rfl dX1_plotProperty_78 ?_
    refine g_iload1 C dX1_plotProperty_81 ?_
    refine g_iald C hK hP 5 0 rfl rfl (by omega) (by decide) dX1_plotProperty_82 ?_
    exact g_ireti C (rfl) dX1_plotProperty_83
  · refine g_tsI C 84 dX1_plotProperty_1 (by decide) (by decide) rfl (by decide) ?_
    refine g_aload0 C dX1_plotProperty_84 ?_
    refine g_get (ci := 1) (T := TX1) (N := 12) C inX1 hK hP 0 rfl rfl 6 (by decide) wf_X1_31 ⟨rfl, rfl, rfl⟩ rfl dX1_plotProperty_85 ?_
    refine g_iload1 C dX1_plotProperty_88 ?_
    refine g_iald C hK hP 6 0 rfl rfl (by omega) (by decide) dX1_plotProperty_89 ?_
    exact g_ireti C (rfl) dX1_plotProperty_90
  · refine g_tsI C 91 dX1_plotProperty_1 (by decide) (by decide) rfl (by decide) ?_
    refine g_aload0 C dX1_plotProperty_91 ?_
    refine g_get (ci := 1) (T := TX1) (N := 12) C inX1 hK hP 0 rfl rfl 7 (by decide) wf_X1_34 ⟨rfl, rfl, rfl⟩ rfl dX1_plotProperty_92 ?_
    refine g_iload1 C dX1_plotProperty_95 ?_
    refine g_iald C hK hP 7 0 rfl rfl (by omega) (by decide) dX1_plotProperty_96 ?_
    exact g_ireti C (rfl) dX1_plotProperty_97
  · refine g_tsI C 98 dX1_plotProperty_1 (by decide) (by decide) rfl (by decide) ?_
    refine g_aload0 C dX1_plotProperty_98 ?_
    refine g_iload1 C dX1_plotProperty_99 ?_
    refine g_lcV1 C hK hP hZ hS (c_X1_isReached (by omega)) wl_X1_87 wi_X1_isReached wv_X1_isReached wc_X1_isReached (by decide +kernel) ⟨rfl, rfl, by decide, by decide⟩ rfl (by simp [Value.category]) ⟨by decide, by decide⟩ dX1_plotProperty_100 ?_
    refine g_if_eqB C 110 dX1_plotProperty_103 (by decide) (fun h103 => ?_) (fun h103 => ?_)
    · refine g_iconst C (nI 0) (by decide) dX1_plotProperty_110 ?_
      exact g_ireti C (by simp [q_pp, h103]) dX1_plotProperty_111
    · refine g_iconst C (nI 1) (by decide) dX1_plotProperty_106 ?_
      refine g_goto C 111 dX1_plotProperty_107 (by decide) ?_
      exact g_ireti C (by simp [q_pp, h103]) dX1_plotProperty_111
  · refine g_tsO C 112 dX1_plotProperty_1 (by decide) (by decide) ?_
    refine g_aload0 C dX1_plotProperty_112 ?_
    refine g_iload1 C dX1_plotProperty_113 ?_
    refine g_lcV1 C hK hP hZ hS (c_X1_greatestDepth (by omega) hki) wl_X1_140 wi_X1_greatestDepth wv_X1_greatestDepth wc_X1_greatestDepth (by decide +kernel) ⟨rfl, rfl, by decide, by decide⟩ rfl (by simp [Value.category]) ⟨by decide, by decide⟩ dX1_plotProperty_114 ?_
    exact g_ireti C (rfl) dX1_plotProperty_117

set_option maxHeartbeats 4000000 in
set_option maxRecDepth 100000 in
theorem c_X1_burialProperty {l : Launch} {dC : Nat → ClassId} {dI : Nat → Nat → Nat} {cI cL cJ : ClassId} {g1 g2 a : Nat} {t : Nat → Nat} {y : Int32} {d : RW} {r : Int64} {p dep what : Nat} (hp : p < 40) (hd1 : 1 ≤ dep) (hd3 : dep ≤ 3) (hw : what ≤ 3) (hki : INV d) : Met l yX1_burialProperty (.code yX1_burialProperty cX1_burialProperty 5 (some .int) :: WG) (rmL 2) (va_Pc [.ref a, .int (nI p), .int (nI dep), .int (nI what)] (LDP dC dI cI cL cJ g1 g2 a t y d r)) (bq_S (.int (q_bp d y (p * 3 + (dep - 1)) what))) 0 0 (fun _ => False) := by
  refine bq_of [some (.ref a), some (.int (nI p)), some (.int (nI dep)), some (.int (nI what)), none] rfl rfl (Nat.le_of_ble_eq_true rfl) (by decide) ?_
  intro P_ E_ s M_ B_ T_ K_ C hv
  obtain ⟨hP, hK, hZ⟩ := hv
  have hS : va_S (fun _ => False) s.heap s.heap [] := va_S.rf
  refine g_iload1 C dX1_burialProperty_0 ?_
  refine g_iload2 C dX1_burialProperty_1 ?_
  refine g_scS2 C (c_X1_placeOf (by omega) (by omega) (by omega)) wl_X1_62 wt_X1_placeOf wn_X1 wc_X1_placeOf (by decide +kernel) ⟨rfl, rfl, by decide, by decide⟩ rfl (by simp [Value.category]) ⟨by decide, by decide⟩ dX1_burialProperty_2 ?_
  refine g_istore4 C rfl dX1_burialProperty_5 ?_
  refine g_aload0 C dX1_burialProperty_7 ?_
  refine g_get (ci := 1) (T := TX1) (N := 12) C inX1 hK hP 0 rfl rfl 8 (by decide) wf_X1_37 ⟨rfl, rfl, rfl⟩ rfl dX1_burialProperty_8 ?_
  refine g_iload4 C dX1_burialProperty_11 ?_
  refine g_iald C hK hP 8 0 rfl rfl (by omega) (by decide) dX1_burialProperty_13 ?_
  refine g_iconst C (-1) (by decide) dX1_burialProperty_14 ?_
  refine g_icmp_ne C 20 dX1_burialProperty_15 (by decide) (fun h15 => ?_) (fun h15 => ?_)
  · refine g_iload3 C dX1_burialProperty_20 ?_
    rcases (show what = 0 ∨ what = 1 ∨ what = 2 ∨ what = 3 by omega) with rfl | rfl | rfl | rfl
    · refine g_tsI C 48 dX1_burialProperty_21 (by decide) (by decide) rfl (by decide) ?_
      refine g_aload0 C dX1_burialProperty_48 ?_
      refine g_get (ci := 1) (T := TX1) (N := 12) C inX1 hK hP 0 rfl rfl 8 (by decide) wf_X1_37 ⟨rfl, rfl, rfl⟩ rfl dX1_burialProperty_49 ?_
      refine g_iload4 C dX1_burialProperty_52 ?_
      refine g_iald C hK hP 8 0 rfl rfl (by omega) (by decide) dX1_burialProperty_54 ?_
      exact g_ireti C (by simp [q_bp, h15]) dX1_burialProperty_55
    · refine g_tsI C 56 dX1_burialProperty_21 (by decide) (by decide) rfl (by decide) ?_
      refine g_aload0 C dX1_burialProperty_56 ?_
      refine g_get (ci := 1) (T := TX1) (N := 12) C inX1 hK hP 0 rfl rfl 9 (by decide) wf_X1_40 ⟨rfl, rfl, rfl⟩ rfl dX1_burialProperty_57 ?_
      refine g_iload4 C dX1_burialProperty_60 ?_
      refine g_iald C hK hP 9 0 rfl rfl (by omega) (by decide) dX1_burialProperty_62 ?_
      exact g_ireti C (by simp [q_bp, h15]) dX1_burialProperty_63
    · refine g_tsI C 64 dX1_burialProperty_21 (by decide) (by decide) rfl (by decide) ?_
      refine g_aload0 C dX1_burialProperty_64 ?_
      refine g_iload4 C dX1_burialProperty_65 ?_
      refine g_aload0 C dX1_burialProperty_67 ?_
      refine g_get (ci := 1) (T := TX1) (N := 12) C inX1 hK hP 0 rfl rfl 0 (by decide) wf_X1_9 ⟨rfl, rfl, rfl⟩ rfl dX1_burialProperty_68 ?_
      refine g_lcV2 C hK hP hZ hS (c_X1_isResting (by omega) hki) wl_X1_100 wi_X1_isResting wv_X1_isResting wc_X1_isResting (by decide +kernel) ⟨rfl, rfl, by decide, by decide⟩ rfl (by simp [Value.category]) ⟨by decide, by decide⟩ dX1_burialProperty_71 ?_
      refine g_if_eqB C 81 dX1_burialProperty_74 (by decide) (fun h74 => ?_) (fun h74 => ?_)
      · refine g_iconst C (nI 1) (by decide) dX1_burialProperty_81 ?_
        exact g_ireti C (by unfold q_bp; rw [if_neg h15]; first | exact (if_pos h74).symm | exact (if_neg h74).symm) dX1_burialProperty_82
      · refine g_iconst C (nI 0) (by decide) dX1_burialProperty_77 ?_
        refine g_goto C 82 dX1_burialProperty_78 (by decide) ?_
        exact g_ireti C (by unfold q_bp; rw [if_neg h15]; first | exact (if_pos h74).symm | exact (if_neg h74).symm) dX1_burialProperty_82
    · refine g_tsO C 83 dX1_burialProperty_21 (by decide) (by decide) ?_
      refine g_aload0 C dX1_burialProperty_83 ?_
      refine g_get (ci := 1) (T := TX1) (N := 12) C inX1 hK hP 0 rfl rfl 10 (by decide) wf_X1_43 ⟨rfl, rfl, rfl⟩ rfl dX1_burialProperty_84 ?_
      refine g_iload4 C dX1_burialProperty_87 ?_
      refine g_iald C hK hP 10 0 rfl rfl (by omega) (by decide) dX1_burialProperty_89 ?_
      exact g_ireti C (by simp [q_bp, h15]) dX1_burialProperty_90
  · refine g_iconst C (-1) (by decide) dX1_burialProperty_18 ?_
    exact g_ireti C (by simp [q_bp, h15]) dX1_burialProperty_19

set_option maxHeartbeats 4000000 in
set_option maxRecDepth 100000 in
theorem c_X1_familyProperty {l : Launch} {dC : Nat → ClassId} {dI : Nat → Nat → Nat} {cI cL cJ : ClassId} {g1 g2 a : Nat} {t : Nat → Nat} {y : Int32} {d : RW} {r : Int64} {f what : Nat} (hf : f < 10) (hw : what ≤ 5) (hki : INV d) : Met l yX1_familyProperty (.code yX1_familyProperty cX1_familyProperty 3 (some .int) :: WG) (rmL 4) (va_Pc [.ref a, .int (nI f), .int (nI what)] (LDP dC dI cI cL cJ g1 g2 a t y d r)) (bq_S (.int (q_fp d y f what))) 0 0 (fun _ => False) := by
  refine bq_of [some (.ref a), some (.int (nI f)), some (.int (nI what))] rfl rfl (Nat.le_of_ble_eq_true rfl) (by decide) ?_
  intro P_ E_ s M_ B_ T_ K_ C hv
  obtain ⟨hP, hK, hZ⟩ := hv
  have hS : va_S (fun _ => False) s.heap s.heap [] := va_S.rf
  refine g_iload2 C dX1_familyProperty_0 ?_
  rcases (show what = 0 ∨ what = 1 ∨ what = 2 ∨ what = 3 ∨ what = 4 ∨ what = 5 by omega) with rfl | rfl | rfl | rfl | rfl | rfl
  · refine g_tsI C 36 dX1_familyProperty_1 (by decide) (by decide) rfl (by decide) ?_
    refine g_aload0 C dX1_familyProperty_36 ?_
    refine g_get (ci := 1) (T := TX1) (N := 12) C inX1 hK hP 0 rfl rfl 1 (by decide) wf_X1_15 ⟨rfl, rfl, rfl⟩ rfl dX1_familyProperty_37 ?_
    refine g_iload1 C dX1_familyProperty_40 ?_
    refine g_iald C hK hP 1 0 rfl rfl (by omega) (by decide) dX1_familyProperty_41 ?_
    exact g_ireti C (rfl) dX1_familyProperty_42
  · refine g_tsI C 43 dX1_familyProperty_1 (by decide) (by decide) rfl (by decide) ?_
    refine g_aload0 C dX1_familyProperty_43 ?_
    refine g_get (ci := 1) (T := TX1) (N := 12) C inX1 hK hP 0 rfl rfl 2 (by decide) wf_X1_19 ⟨rfl, rfl, rfl⟩ rfl dX1_familyProperty_44 ?_
    refine g_iload1 C dX1_familyProperty_47 ?_
    refine g_iald C hK hP 2 0 rfl rfl (by omega) (by decide) dX1_familyProperty_48 ?_
    exact g_ireti C (rfl) dX1_familyProperty_49
  · refine g_tsI C 50 dX1_familyProperty_1 (by decide) (by decide) rfl (by decide) ?_
    refine g_aload0 C dX1_familyProperty_50 ?_
    refine g_get (ci := 1) (T := TX1) (N := 12) C inX1 hK hP 0 rfl rfl 3 (by decide) wf_X1_22 ⟨rfl, rfl, rfl⟩ rfl dX1_familyProperty_51 ?_
    refine g_iload1 C dX1_familyProperty_54 ?_
    refine g_iald C hK hP 3 0 rfl rfl (by omega) (by decide) dX1_familyProperty_55 ?_
    exact g_ireti C (rfl) dX1_familyProperty_56
  · refine g_tsI C 57 dX1_familyProperty_1 (by decide) (by decide) rfl (by decide) ?_
    refine g_aload0 C dX1_familyProperty_57 ?_
    refine g_iload1 C dX1_familyProperty_58 ?_
    refine g_lcV1 C hK hP hZ hS (c_X1_burialsOf (by omega)) wl_X1_165 wi_X1_burialsOf wv_X1_burialsOf wc_X1_burialsOf (by decide +kernel) ⟨rfl, rfl, by decide, by decide⟩ rfl (by simp [Value.category]) ⟨by decide, by decide⟩ dX1_familyProperty_59 ?_
    exact g_ireti C (rfl) dX1_familyProperty_62
  · refine g_tsI C 63 dX1_familyProperty_1 (by decide) (by decide) rfl (by decide) ?_
    refine g_aload0 C dX1_familyProperty_63 ?_
    refine g_iload1 C dX1_familyProperty_64 ?_
    refine g_lcV1 C hK hP hZ hS (c_X1_plotsHeldBy (by omega) hki) wl_X1_168 wi_X1_plotsHeldBy wv_X1_plotsHeldBy wc_X1_plotsHeldBy (by decide +kernel) ⟨rfl, rfl, by decide, by decide⟩ rfl (by simp [Value.category]) ⟨by decide, by decide⟩ dX1_familyProperty_65 ?_
    exact g_ireti C (rfl) dX1_familyProperty_68
  · refine g_tsO C 69 dX1_familyProperty_1 (by decide) (by decide) ?_
    refine g_aload0 C dX1_familyProperty_69 ?_
    refine g_iload1 C dX1_familyProperty_70 ?_
    refine g_lcV1 C hK hP hZ hS (c_X1_vaultsOf (by omega)) wl_X1_171 wi_X1_vaultsOf wv_X1_vaultsOf wc_X1_vaultsOf (by decide +kernel) ⟨rfl, rfl, by decide, by decide⟩ rfl (by simp [Value.category]) ⟨by decide, by decide⟩ dX1_familyProperty_71 ?_
    exact g_ireti C (rfl) dX1_familyProperty_74

set_option maxHeartbeats 4000000 in
set_option maxRecDepth 100000 in
theorem c_X1_total {l : Launch} {dC : Nat → ClassId} {dI : Nat → Nat → Nat} {cI cL cJ : ClassId} {g1 g2 a : Nat} {t : Nat → Nat} {y : Int32} {d : RW} {r : Int64} {what : Nat} (hw : what ≤ 7) (hki : INV d) : Met l yX1_total (.code yX1_total cX1_total 2 (some .int) :: WG) (rmL 4) (va_Pc [.ref a, .int (nI what)] (LDP dC dI cI cL cJ g1 g2 a t y d r)) (bq_S (.int (q_tot d y r what))) 0 0 (fun _ => False) := by
  refine bq_of [some (.ref a), some (.int (nI what))] rfl rfl (Nat.le_of_ble_eq_true rfl) (by decide) ?_
  intro P_ E_ s M_ B_ T_ K_ C hv
  obtain ⟨hP, hK, hZ⟩ := hv
  have hS : va_S (fun _ => False) s.heap s.heap [] := va_S.rf
  refine g_iload1 C dX1_total_0 ?_
  rcases (show what = 0 ∨ what = 1 ∨ what = 2 ∨ what = 3 ∨ what = 4 ∨ what = 5 ∨ what = 6 ∨ what = 7 by omega) with rfl | rfl | rfl | rfl | rfl | rfl | rfl | rfl
  · refine g_tsI C 44 dX1_total_1 (by decide) (by decide) rfl (by decide) ?_
    refine g_aload0 C dX1_total_44 ?_
    refine g_get (ci := 1) (T := TX1) (N := 12) C inX1 hK hP 0 rfl rfl 0 (by decide) wf_X1_9 ⟨rfl, rfl, rfl⟩ rfl dX1_total_45 ?_
    exact g_ireti C (rfl) dX1_total_48
  · refine g_tsI C 49 dX1_total_1 (by decide) (by decide) rfl (by decide) ?_
    refine g_aload0 C dX1_total_49 ?_
    refine g_lcV0 C hK hP hZ hS (c_X1_allBurials) wl_X1_174 wi_X1_allBurials wv_X1_allBurials wc_X1_allBurials (by decide +kernel) ⟨rfl, rfl, by decide, by decide⟩ rfl (by simp [Value.category]) ⟨by decide, by decide⟩ dX1_total_50 ?_
    exact g_ireti C (rfl) dX1_total_53
  · refine g_tsI C 54 dX1_total_1 (by decide) (by decide) rfl (by decide) ?_
    refine g_aload0 C dX1_total_54 ?_
    refine g_lcV0 C hK hP hZ hS (c_X1_allRestingBurials hki) wl_X1_178 wi_X1_allRestingBurials wv_X1_allRestingBurials wc_X1_allRestingBurials (by decide +kernel) ⟨rfl, rfl, by decide, by decide⟩ rfl (by simp [Value.category]) ⟨by decide, by decide⟩ dX1_total_55 ?_
    exact g_ireti C (rfl) dX1_total_58
  · refine g_tsI C 59 dX1_total_1 (by decide) (by decide) rfl (by decide) ?_
    refine g_aload0 C dX1_total_59 ?_
    refine g_lcV0 C hK hP hZ hS (c_X1_soilPlots) wl_X1_131 wi_X1_soilPlots wv_X1_soilPlots wc_X1_soilPlots (by decide +kernel) ⟨rfl, rfl, by decide, by decide⟩ rfl (by simp [Value.category]) ⟨by decide, by decide⟩ dX1_total_60 ?_
    refine g_aload0 C dX1_total_63 ?_
    refine g_lcV0 C hK hP hZ hS (c_X1_openPlots) wl_X1_122 wi_X1_openPlots wv_X1_openPlots wc_X1_openPlots (by decide +kernel) ⟨rfl, rfl, by decide, by decide⟩ rfl (by simp [Value.category]) ⟨by decide, by decide⟩ dX1_total_64 ?_
    refine g_land C dX1_total_67 ?_
    refine g_pcT C c_J13_bitCount_95d88 wl_X1_134 wt_J13_bitCount_95d88 wn_J13 wc_J13_bitCount_95d88 (by decide +kernel) ⟨rfl, rfl, by decide, by decide⟩ rfl (by simp [Value.category]) ⟨by decide, by decide⟩ dX1_total_68 ?_
    exact g_ireti C (rfl) dX1_total_71
  · refine g_tsI C 72 dX1_total_1 (by decide) (by decide) rfl (by decide) ?_
    refine g_aload0 C dX1_total_72 ?_
    refine g_lcV0 C hK hP hZ hS (c_X1_soilPlots) wl_X1_131 wi_X1_soilPlots wv_X1_soilPlots wc_X1_soilPlots (by decide +kernel) ⟨rfl, rfl, by decide, by decide⟩ rfl (by simp [Value.category]) ⟨by decide, by decide⟩ dX1_total_73 ?_
    refine g_aload0 C dX1_total_76 ?_
    refine g_get (ci := 1) (T := TX1) (N := 12) C inX1 hK hP 0 rfl rfl 11 (by decide) wf_X1_48 ⟨rfl, rfl, rfl⟩ rfl dX1_total_77 ?_
    refine g_ldc2 C wq_X1_126 dX1_total_80 ?_
    refine g_lxor C dX1_total_83 ?_
    refine g_land C dX1_total_84 ?_
    refine g_pcT C c_J13_bitCount_95d88 wl_X1_134 wt_J13_bitCount_95d88 wn_J13 wc_J13_bitCount_95d88 (by decide +kernel) ⟨rfl, rfl, by decide, by decide⟩ rfl (by simp [Value.category]) ⟨by decide, by decide⟩ dX1_total_85 ?_
    exact g_ireti C (rfl) dX1_total_88
  · refine g_tsI C 89 dX1_total_1 (by decide) (by decide) rfl (by decide) ?_
    refine g_aload0 C dX1_total_89 ?_
    refine g_lcV0 C hK hP hZ hS (c_X1_lastingReservations) wl_X1_181 wi_X1_lastingReservations wv_X1_lastingReservations wc_X1_lastingReservations (by decide +kernel) ⟨rfl, rfl, by decide, by decide⟩ rfl (by simp [Value.category]) ⟨by decide, by decide⟩ dX1_total_90 ?_
    exact g_ireti C (rfl) dX1_total_93
  · refine g_tsI C 94 dX1_total_1 (by decide) (by decide) rfl (by decide) ?_
    refine g_aload0 C dX1_total_94 ?_
    refine g_lcV0 C hK hP hZ hS (c_X1_allVaults) wl_X1_184 wi_X1_allVaults wv_X1_allVaults wc_X1_allVaults (by decide +kernel) ⟨rfl, rfl, by decide, by decide⟩ rfl (by simp [Value.category]) ⟨by decide, by decide⟩ dX1_total_95 ?_
    exact g_ireti C (rfl) dX1_total_98
  · refine g_tsO C 99 dX1_total_1 (by decide) (by decide) ?_
    refine g_aload0 C dX1_total_99 ?_
    refine g_lcV0 C hK hP hZ hS (c_X1_allPaid) wl_X1_187 wi_X1_allPaid wv_X1_allPaid wc_X1_allPaid (by decide +kernel) ⟨rfl, rfl, by decide, by decide⟩ rfl (by simp [Value.category]) ⟨by decide, by decide⟩ dX1_total_100 ?_
    exact g_ireti C (rfl) dX1_total_103

set_option maxHeartbeats 4000000 in
set_option maxRecDepth 100000 in
theorem c_X1_leastFee {l : Launch} {dC : Nat → ClassId} {dI : Nat → Nat → Nat} {cI cL cJ : ClassId} {g1 g2 a : Nat} {t : Nat → Nat} {y : Int32} {d : RW} {r : Int64} {f p : Nat} (hf : f < 10) (hp : p < 40) (hki : INV d) : Met l yX1_leastFee (.code yX1_leastFee cX1_leastFee 6 (some .int) :: WG) (rmL 4) (va_Pc [.ref a, .int (nI f), .int (nI p)] (LDP dC dI cI cL cJ g1 g2 a t y d r)) (bq_S (.int (q_lf d y (q_rb r) f p 3))) 0 0 (fun _ => False) := by
  refine bq_of [some (.ref a), some (.int (nI f)), some (.int (nI p)), none, none, none] rfl rfl (Nat.le_of_ble_eq_true rfl) (by decide) ?_
  intro P_ E_ s M_ B_ T_ K_ C hv
  obtain ⟨hP, hK, hZ⟩ := hv
  have hS : va_S (fun _ => False) s.heap s.heap [] := va_S.rf
  refine g_iconst C (-1) (by decide) dX1_leastFee_0 ?_
  refine g_istore3 C rfl dX1_leastFee_1 ?_
  refine g_iconst C (nI 1) (by decide) dX1_leastFee_2 ?_
  refine g_istore4 C rfl dX1_leastFee_3 ?_
  refine g_lp2 (fun (j : Nat) (x : Int32) => j ≤ 3 ∧ x = q_lf d y (q_rb r) f p j) (fun (j : Nat) (x : Int32) => 3 - j) (fun (j : Nat) (x : Int32) => [some (.ref a), some (.int (nI f)), some (.int (nI p)), some (.int x), some (.int (nI (j + 1))), none]) 0 (-1) ⟨by omega, rfl⟩ rfl ?_
  rintro j x ⟨hj, hx⟩ ih
  try dsimp only at ih ⊢
  refine g_iload4 C dX1_leastFee_5 ?_
  refine g_iconst C (nI 3) (by decide) dX1_leastFee_7 ?_
  refine g_icmp_gtN C (by omega) (by omega) 59 dX1_leastFee_8 (by decide) (fun h8 => ?_) (fun h8 => ?_)
  · refine g_iload3 C dX1_leastFee_59 ?_
    exact g_ireti C (by rw [hx, show j = 3 by omega]) dX1_leastFee_60
  · refine g_aload0 C dX1_leastFee_11 ?_
    refine g_iload1 C dX1_leastFee_12 ?_
    refine g_iload2 C dX1_leastFee_13 ?_
    refine g_iload4 C dX1_leastFee_14 ?_
    refine g_aload0 C dX1_leastFee_16 ?_
    refine g_get (ci := 1) (T := TX1) (N := 12) C inX1 hK hP 0 rfl rfl 0 (by decide) wf_X1_9 ⟨rfl, rfl, rfl⟩ rfl dX1_leastFee_17 ?_
    refine g_lcV4 C hK hP hZ hS (c_X1_refusal (by omega) (by omega) hki) wl_X1_155 wi_X1_refusal wv_X1_refusal wc_X1_refusal (by decide +kernel) ⟨rfl, rfl, by decide, by decide⟩ rfl (by simp [Value.category]) ⟨by decide, by decide⟩ dX1_leastFee_20 ?_
    refine g_if_ne C 53 dX1_leastFee_23 (by decide) (fun h23 => ?_) (fun h23 => ?_)
    · refine g_iinc4 C _ rfl dX1_leastFee_53 (nI_1 _) ?_
      refine g_goto C 5 dX1_leastFee_56 (by decide) ?_
      refine g_fg5 ?_
      exact ih (j + 1) _ ⟨by omega, by simp only [q_lf]; first | rw [if_pos h23, ← hx] | rw [if_neg h23, ← hx]⟩ (by show 3 - (j + 1) < 3 - j; omega)
    · refine g_aload0 C dX1_leastFee_26 ?_
      refine g_iload1 C dX1_leastFee_27 ?_
      refine g_iload2 C dX1_leastFee_28 ?_
      refine g_iload4 C dX1_leastFee_29 ?_
      refine g_lcV3 C hK hP hZ hS (c_X1_burialFee (by omega) (by omega) (by omega)) wl_X1_66 wi_X1_burialFee wv_X1_burialFee wc_X1_burialFee (by decide +kernel) ⟨rfl, rfl, by decide, by decide⟩ rfl (by simp [Value.category]) ⟨by decide, by decide⟩ dX1_leastFee_31 ?_
      refine g_istore5 C rfl dX1_leastFee_34 ?_
      refine g_iload3 C dX1_leastFee_36 ?_
      refine g_iconst C (-1) (by decide) dX1_leastFee_37 ?_
      refine g_d2 (v := if x = -1 then q_fee d y f p (j + 1) else if q_fee d y f p (j + 1) < x then q_fee d y f p (j + 1) else x) 52 (fun K38 => ?_) ?_
      · skip
        refine g_icmp_ne C 46 dX1_leastFee_38 (by decide) (fun h38 => ?_) (fun h38 => ?_)
        · refine g_iload3 C dX1_leastFee_46 ?_
          refine g_iload5 C dX1_leastFee_47 ?_
          refine g_mmin C wl_X1_152 wt_J9_min_7cf53 wn_J9 wc_J9_min_7cf53 rfl ⟨by decide, by simp [Value.category, rmL]⟩ ⟨by decide, by decide⟩ dX1_leastFee_49 ?_
          exact K38 _ (by first | exact (if_neg h38).symm | exact (if_pos h38).symm)
        · refine g_iload5 C dX1_leastFee_41 ?_
          refine g_goto C 52 dX1_leastFee_43 (by decide) ?_
          exact K38 _ (by first | exact (if_neg h38).symm | exact (if_pos h38).symm)
      refine g_istore3 C rfl dX1_leastFee_52 ?_
      refine g_iinc4 C _ rfl dX1_leastFee_53 (nI_1 _) ?_
      refine g_goto C 5 dX1_leastFee_56 (by decide) ?_
      refine g_fg5 ?_
      exact ih (j + 1) _ ⟨by omega, by simp only [q_lf]; first | rw [if_pos h23, ← hx] | rw [if_neg h23, ← hx]⟩ (by show 3 - (j + 1) < 3 - j; omega)

set_option maxHeartbeats 4000000 in
set_option maxRecDepth 100000 in
theorem c_X1_cheapestPlot {l : Launch} {dC : Nat → ClassId} {dI : Nat → Nat → Nat} {cI cL cJ : ClassId} {g1 g2 a : Nat} {t : Nat → Nat} {y : Int32} {d : RW} {r : Int64} {f : Nat} (hf : f < 10) (hki : INV d) : Met l yX1_cheapestPlot (.code yX1_cheapestPlot cX1_cheapestPlot 7 (some .int) :: WG) (rmL 5) (va_Pc [.ref a, .int (nI f)] (LDP dC dI cI cL cJ g1 g2 a t y d r)) (bq_S (.int (oN (q_best d y (q_rb r) f 40).1))) 0 0 (fun _ => False) := by
  refine bq_of [some (.ref a), some (.int (nI f)), none, none, none, none, none] rfl rfl (Nat.le_of_ble_eq_true rfl) (by decide) ?_
  intro P_ E_ s M_ B_ T_ K_ C hv
  obtain ⟨hP, hK, hZ⟩ := hv
  have hS : va_S (fun _ => False) s.heap s.heap [] := va_S.rf
  refine g_iconst C (-1) (by decide) dX1_cheapestPlot_0 ?_
  refine g_istore2 C rfl dX1_cheapestPlot_1 ?_
  refine g_iconst C (nI 0) (by decide) dX1_cheapestPlot_2 ?_
  refine g_istore3 C rfl dX1_cheapestPlot_3 ?_
  refine g_iconst C (nI 0) (by decide) dX1_cheapestPlot_4 ?_
  refine g_istore4 C rfl dX1_cheapestPlot_5 ?_
  refine g_lp3 (fun (j : Nat) (o : Option Nat) (w : Int32) => j ≤ 40 ∧ q_best d y (q_rb r) f j = (o, w) ∧ ∀ b, o = some b → b < 40) (fun (j : Nat) (o : Option Nat) (w : Int32) => 40 - j) (fun (j : Nat) (o : Option Nat) (w : Int32) => [some (.ref a), some (.int (nI f)), some (.int (oN o)), some (.int w), some (.int (nI j)), none, none]) 0 none (nI 0) ⟨by omega, rfl, fun b h => by cases h⟩ rfl ?_
  rintro j o w ⟨hj, hx, hb⟩ ih
  try dsimp only at ih ⊢
  refine g_iload4 C dX1_cheapestPlot_7 ?_
  refine g_bipush C (nI 40) (by decide) dX1_cheapestPlot_9 ?_
  refine g_icmp_geN C (by omega) (by omega) 84 dX1_cheapestPlot_11 (by decide) (fun h11 => ?_) (fun h11 => ?_)
  · refine g_iload2 C dX1_cheapestPlot_84 ?_
    exact g_ireti C (by rw [show j = 40 by omega] at hx; rw [hx]) dX1_cheapestPlot_85
  · refine g_aload0 C dX1_cheapestPlot_14 ?_
    refine g_iload1 C dX1_cheapestPlot_15 ?_
    refine g_iload4 C dX1_cheapestPlot_16 ?_
    refine g_lcV2 C hK hP hZ hS (c_X1_leastFee (by omega) (by omega) hki) wl_X1_159 wi_X1_leastFee wv_X1_leastFee wc_X1_leastFee (by decide +kernel) ⟨rfl, rfl, by decide, by decide⟩ rfl (by simp [Value.category]) ⟨by decide, by decide⟩ dX1_cheapestPlot_18 ?_
    refine g_istore5 C rfl dX1_cheapestPlot_21 ?_
    refine g_iload2 C dX1_cheapestPlot_23 ?_
    refine g_iconst C (-1) (by decide) dX1_cheapestPlot_24 ?_
    refine g_d2 (v := bI (q_btr d o w (q_lf d y (q_rb r) f j 3) j)) 59 (fun K25 => ?_) ?_
    · skip
      refine g_icmp_eq C 54 dX1_cheapestPlot_25 (by decide) (fun h25 => ?_) (fun h25 => ?_)
      · refine g_iconst C (nI 1) (by decide) dX1_cheapestPlot_54 ?_
        refine g_goto C 59 dX1_cheapestPlot_55 (by decide) ?_
        exact K25 _ (by exact bI_t (Or.inl ((oN_n hb).mp h25)))
      · have ho : ∃ b, o = some b := by cases o with | none => exact absurd rfl h25 | some b => exact ⟨b, rfl⟩
        obtain ⟨b0, rfl⟩ := ho
        have hb0 := hb b0 rfl
        refine g_iload5 C dX1_cheapestPlot_28 ?_
        refine g_iload3 C dX1_cheapestPlot_30 ?_
        refine g_icmp_lt C 54 dX1_cheapestPlot_31 (by decide) (fun h31 => ?_) (fun h31 => ?_)
        · refine g_iconst C (nI 1) (by decide) dX1_cheapestPlot_54 ?_
          refine g_goto C 59 dX1_cheapestPlot_55 (by decide) ?_
          exact K25 _ (by exact bI_t (Or.inr (Or.inl h31)))
        · refine g_iload5 C dX1_cheapestPlot_34 ?_
          refine g_iload3 C dX1_cheapestPlot_36 ?_
          refine g_icmp_ne C 58 dX1_cheapestPlot_37 (by decide) (fun h37 => ?_) (fun h37 => ?_)
          · refine g_iconst C (nI 0) (by decide) dX1_cheapestPlot_58 ?_
            exact K25 _ (by exact bI_f (fun z => z.elim (fun z => h25 ((oN_n hb).mpr z)) (fun z => z.elim h31 (fun z => h37 z.1))))
          · refine g_aload0 C dX1_cheapestPlot_40 ?_
            refine g_iload4 C dX1_cheapestPlot_41 ?_
            refine g_lcV1 C hK hP hZ hS (c_X1_burialsIn (by omega)) wl_X1_58 wi_X1_burialsIn wv_X1_burialsIn wc_X1_burialsIn (by decide +kernel) ⟨rfl, rfl, by decide, by decide⟩ rfl (by simp [Value.category]) ⟨by decide, by decide⟩ dX1_cheapestPlot_43 ?_
            have hbu : q_bur d j ≤ 3 := q_cn_le _ 3
            refine g_aload0 C dX1_cheapestPlot_46 ?_
            refine g_iload2 C dX1_cheapestPlot_47 ?_
            refine g_lcV1 C hK hP hZ hS (c_X1_burialsIn (p := b0) (by omega)) wl_X1_58 wi_X1_burialsIn wv_X1_burialsIn wc_X1_burialsIn (by decide +kernel) ⟨rfl, rfl, by decide, by decide⟩ rfl (by simp [Value.category]) ⟨by decide, by decide⟩ dX1_cheapestPlot_48 ?_
            have hbu2 : q_bur d b0 ≤ 3 := q_cn_le _ 3
            refine g_icmp_geN C (by omega) (by omega) 58 dX1_cheapestPlot_51 (by decide) (fun h51 => ?_) (fun h51 => ?_)
            · refine g_iconst C (nI 0) (by decide) dX1_cheapestPlot_58 ?_
              exact K25 _ (by first | exact bI_t (Or.inr (Or.inr ⟨h37, h51⟩)) | exact bI_f (fun z => z.elim (fun z => h25 ((oN_n hb).mpr z)) (fun z => z.elim h31 (fun z => absurd z.2 (Nat.not_lt.mpr h51)))))
            · refine g_iconst C (nI 1) (by decide) dX1_cheapestPlot_54 ?_
              refine g_goto C 59 dX1_cheapestPlot_55 (by decide) ?_
              exact K25 _ (by first | exact bI_t (Or.inr (Or.inr ⟨h37, h51⟩)) | exact bI_f (fun z => z.elim (fun z => h25 ((oN_n hb).mpr z)) (fun z => z.elim h31 (fun z => absurd z.2 (Nat.not_lt.mpr h51)))))
    refine g_istore6 C rfl dX1_cheapestPlot_59 ?_
    refine g_iload5 C dX1_cheapestPlot_61 ?_
    refine g_iconst C (-1) (by decide) dX1_cheapestPlot_63 ?_
    refine g_icmp_eq C 78 dX1_cheapestPlot_64 (by decide) (fun h64 => ?_) (fun h64 => ?_)
    · refine g_iinc4 C _ rfl dX1_cheapestPlot_78 (nI_1 _) ?_
      refine g_goto C 7 dX1_cheapestPlot_81 (by decide) ?_
      refine g_fg5 (g_fg6 ?_)
      exact ih (j + 1) o w ⟨by omega, by simp only [q_best, hx]; rw [if_neg (fun z => z.1 h64)], hb⟩ (by show 40 - (j + 1) < 40 - j; omega)
    · refine g_iload6 C dX1_cheapestPlot_67 ?_
      refine g_if_eqB C 78 dX1_cheapestPlot_69 (by decide) (fun h69 => ?_) (fun h69 => ?_)
      · refine g_iinc4 C _ rfl dX1_cheapestPlot_78 (nI_1 _) ?_
        refine g_goto C 7 dX1_cheapestPlot_81 (by decide) ?_
        refine g_fg5 (g_fg6 ?_)
        exact ih (j + 1) o w ⟨by omega, by simp only [q_best, hx]; rw [if_neg (fun z => h69 z.2)], hb⟩ (by show 40 - (j + 1) < 40 - j; omega)
      · refine g_iload4 C dX1_cheapestPlot_72 ?_
        refine g_istore2 C rfl dX1_cheapestPlot_74 ?_
        refine g_iload5 C dX1_cheapestPlot_75 ?_
        refine g_istore3 C rfl dX1_cheapestPlot_77 ?_
        refine g_iinc4 C _ rfl dX1_cheapestPlot_78 (nI_1 _) ?_
        refine g_goto C 7 dX1_cheapestPlot_81 (by decide) ?_
        refine g_fg5 (g_fg6 ?_)
        exact ih (j + 1) (some j) _ ⟨by omega, by simp only [q_best, hx]; rw [if_pos ⟨h64, h69⟩], fun b h => by cases h; omega⟩ (by show 40 - (j + 1) < 40 - j; omega)

set_option maxHeartbeats 4000000 in
set_option maxRecDepth 100000 in
theorem c_X1_meanOfFees {l : Launch} {dC : Nat → ClassId} {dI : Nat → Nat → Nat} {cI cL cJ : ClassId} {g1 g2 a : Nat} {t : Nat → Nat} {y : Int32} {d : RW} {r : Int64} (hnn : q_allB d ≠ 0 → vf_n64 (FP.ddiv (FP.i2d (q_fs d 120)) (FP.i2d (nI (q_allB d))))) : Met l yX1_meanOfFees (.code yX1_meanOfFees cX1_meanOfFees 4 (some .double) :: WG) (rmL 2) (va_Pc [.ref a] (LDP dC dI cI cL cJ g1 g2 a t y d r)) (bq_S (.double (q_mean d))) 0 0 (fun _ => False) := by
  refine bq_of [some (.ref a), none, none, none] rfl rfl (Nat.le_of_ble_eq_true rfl) (by decide) ?_
  intro P_ E_ s M_ B_ T_ K_ C hv
  obtain ⟨hP, hK, hZ⟩ := hv
  have hS : va_S (fun _ => False) s.heap s.heap [] := va_S.rf
  refine g_aload0 C dX1_meanOfFees_0 ?_
  refine g_lcV0 C hK hP hZ hS (c_X1_allBurials) wl_X1_174 wi_X1_allBurials wv_X1_allBurials wc_X1_allBurials (by decide +kernel) ⟨rfl, rfl, by decide, by decide⟩ rfl (by simp [Value.category]) ⟨by decide, by decide⟩ dX1_meanOfFees_1 ?_
  have hab : q_allB d < 2147483648 := Nat.lt_of_le_of_lt (q_sN_le (fun p => q_bur d p) 3 (fun p => q_cn_le _ 3) 40) (by decide)
  refine g_istore1 C rfl dX1_meanOfFees_4 ?_
  refine g_iload1 C dX1_meanOfFees_5 ?_
  refine g_if_neN C (by omega) 11 dX1_meanOfFees_6 (by decide) (fun h6 => ?_) (fun h6 => ?_)
  · refine g_iconst C (nI 0) (by decide) dX1_meanOfFees_11 ?_
    refine g_istore2 C rfl dX1_meanOfFees_12 ?_
    refine g_iconst C (nI 0) (by decide) dX1_meanOfFees_13 ?_
    refine g_istore3 C rfl dX1_meanOfFees_14 ?_
    refine g_lp2 (fun (j : Nat) (x : Int32) => j ≤ 120 ∧ x = q_fs d j) (fun (j : Nat) (x : Int32) => 120 - j) (fun (j : Nat) (x : Int32) => [some (.ref a), some (.int (nI (q_allB d))), some (.int x), some (.int (nI j))]) 0 (nI 0) ⟨by omega, rfl⟩ rfl ?_
    rintro j x ⟨hj, hx⟩ ih
    try dsimp only at ih ⊢
    refine g_iload3 C dX1_meanOfFees_15 ?_
    refine g_bipush C (nI 120) (by decide) dX1_meanOfFees_16 ?_
    refine g_icmp_geN C (by omega) (by omega) 46 dX1_meanOfFees_18 (by decide) (fun h18 => ?_) (fun h18 => ?_)
    · refine g_iload2 C dX1_meanOfFees_46 ?_
      refine g_i2d C dX1_meanOfFees_47 ?_
      refine g_iload1 C dX1_meanOfFees_48 ?_
      refine g_i2d C dX1_meanOfFees_49 ?_
      rw [hx, show j = 120 by omega]
      refine g_ddiv C (hnn h6) dX1_meanOfFees_50 ?_
      exact g_dret C (by unfold q_mean; first | exact (if_pos h6).symm | exact (if_neg h6).symm) dX1_meanOfFees_51
    · refine g_aload0 C dX1_meanOfFees_21 ?_
      refine g_get (ci := 1) (T := TX1) (N := 12) C inX1 hK hP 0 rfl rfl 8 (by decide) wf_X1_37 ⟨rfl, rfl, rfl⟩ rfl dX1_meanOfFees_22 ?_
      refine g_iload3 C dX1_meanOfFees_25 ?_
      refine g_iald C hK hP 8 0 rfl rfl (by omega) (by decide) dX1_meanOfFees_26 ?_
      refine g_iconst C (-1) (by decide) dX1_meanOfFees_27 ?_
      refine g_icmp_eq C 40 dX1_meanOfFees_28 (by decide) (fun h28 => ?_) (fun h28 => ?_)
      · refine g_iinc3 C _ rfl dX1_meanOfFees_40 (nI_1 _) ?_
        refine g_goto C 15 dX1_meanOfFees_43 (by decide) ?_
        exact ih (j + 1) _ ⟨by omega, by simp only [q_fs]; first | rw [if_pos h28, hx] | rw [if_neg (fun z => z h28), hx]⟩ (by show 120 - (j + 1) < 120 - j; omega)
      · refine g_iload2 C dX1_meanOfFees_31 ?_
        refine g_aload0 C dX1_meanOfFees_32 ?_
        refine g_get (ci := 1) (T := TX1) (N := 12) C inX1 hK hP 0 rfl rfl 10 (by decide) wf_X1_43 ⟨rfl, rfl, rfl⟩ rfl dX1_meanOfFees_33 ?_
        refine g_iload3 C dX1_meanOfFees_36 ?_
        refine g_iald C hK hP 10 0 rfl rfl (by omega) (by decide) dX1_meanOfFees_37 ?_
        refine g_iadd C dX1_meanOfFees_38 ?_
        refine g_istore2 C rfl dX1_meanOfFees_39 ?_
        refine g_iinc3 C _ rfl dX1_meanOfFees_40 (nI_1 _) ?_
        refine g_goto C 15 dX1_meanOfFees_43 (by decide) ?_
        exact ih (j + 1) _ ⟨by omega, by simp only [q_fs]; first | rw [if_pos h28, hx] | rw [if_neg (fun z => z h28), hx]⟩ (by show 120 - (j + 1) < 120 - j; omega)
  · refine g_dconst0 C dX1_meanOfFees_9 ?_
    exact g_dret C (by unfold q_mean; first | exact (if_pos h6).symm | exact (if_neg h6).symm) dX1_meanOfFees_10

set_option maxHeartbeats 4000000 in
set_option maxRecDepth 100000 in
theorem c_X1_mayChangeKind {l : Launch} {dC : Nat → ClassId} {dI : Nat → Nat → Nat} {cI cL cJ : ClassId} {g1 g2 a : Nat} {t : Nat → Nat} {y : Int32} {d : RW} {r : Int64} {p : Nat} (hp : p < 40) : Met l yX1_mayChangeKind (.code yX1_mayChangeKind cX1_mayChangeKind 2 (some .boolean) :: WG) (rmL 1) (va_Pc [.ref a, .int (nI p)] (LDP dC dI cI cL cJ g1 g2 a t y d r)) (bq_S (.int (bI (q_bur d p = 0 ∧ d 4 p = -1 ∧ d 5 p = -1)))) 0 0 (fun _ => False) := by
  refine bq_of [some (.ref a), some (.int (nI p))] rfl rfl (Nat.le_of_ble_eq_true rfl) (by decide) ?_
  intro P_ E_ s M_ B_ T_ K_ C hv
  obtain ⟨hP, hK, hZ⟩ := hv
  have hS : va_S (fun _ => False) s.heap s.heap [] := va_S.rf
  refine g_aload0 C dX1_mayChangeKind_0 ?_
  refine g_iload1 C dX1_mayChangeKind_1 ?_
  refine g_lcV1 C hK hP hZ hS (c_X1_burialsIn (by omega)) wl_X1_58 wi_X1_burialsIn wv_X1_burialsIn wc_X1_burialsIn (by decide +kernel) ⟨rfl, rfl, by decide, by decide⟩ rfl (by simp [Value.category]) ⟨by decide, by decide⟩ dX1_mayChangeKind_2 ?_
  have hbu : q_bur d p ≤ 3 := q_cn_le _ 3
  refine g_if_neN C (by omega) 32 dX1_mayChangeKind_5 (by decide) (fun h5 => ?_) (fun h5 => ?_)
  · refine g_iconst C (nI 0) (by decide) dX1_mayChangeKind_32 ?_
    exact g_iretz C (by simp [bI, h5]) dX1_mayChangeKind_33
  · refine g_aload0 C dX1_mayChangeKind_8 ?_
    refine g_get (ci := 1) (T := TX1) (N := 12) C inX1 hK hP 0 rfl rfl 5 (by decide) wf_X1_28 ⟨rfl, rfl, rfl⟩ rfl dX1_mayChangeKind_9 ?_
    refine g_iload1 C dX1_mayChangeKind_12 ?_
    refine g_iald C hK hP 5 0 rfl rfl (by omega) (by decide) dX1_mayChangeKind_13 ?_
    refine g_iconst C (-1) (by decide) dX1_mayChangeKind_14 ?_
    refine g_icmp_ne C 32 dX1_mayChangeKind_15 (by decide) (fun h15 => ?_) (fun h15 => ?_)
    · refine g_iconst C (nI 0) (by decide) dX1_mayChangeKind_32 ?_
      exact g_iretz C (by simp [bI, h5, h15]) dX1_mayChangeKind_33
    · refine g_aload0 C dX1_mayChangeKind_18 ?_
      refine g_get (ci := 1) (T := TX1) (N := 12) C inX1 hK hP 0 rfl rfl 6 (by decide) wf_X1_31 ⟨rfl, rfl, rfl⟩ rfl dX1_mayChangeKind_19 ?_
      refine g_iload1 C dX1_mayChangeKind_22 ?_
      refine g_iald C hK hP 6 0 rfl rfl (by omega) (by decide) dX1_mayChangeKind_23 ?_
      refine g_iconst C (-1) (by decide) dX1_mayChangeKind_24 ?_
      refine g_icmp_ne C 32 dX1_mayChangeKind_25 (by decide) (fun h25 => ?_) (fun h25 => ?_)
      · refine g_iconst C (nI 0) (by decide) dX1_mayChangeKind_32 ?_
        exact g_iretz C (by simp [bI, h5, h15, h25]) dX1_mayChangeKind_33
      · refine g_iconst C (nI 1) (by decide) dX1_mayChangeKind_28 ?_
        refine g_goto C 33 dX1_mayChangeKind_29 (by decide) ?_
        exact g_iretz C (by simp [bI, h5, h15, h25]) dX1_mayChangeKind_33

set_option maxHeartbeats 4000000 in
set_option maxRecDepth 100000 in
theorem c_X1_mayReserve {l : Launch} {dC : Nat → ClassId} {dI : Nat → Nat → Nat} {cI cL cJ : ClassId} {g1 g2 a : Nat} {t : Nat → Nat} {y : Int32} {d : RW} {r : Int64} {f p : Nat} (hf : f < 10) (hp : p < 40) (hki : INV d) : Met l yX1_mayReserve (.code yX1_mayReserve cX1_mayReserve 3 (some .boolean) :: WG) (rmL 3) (va_Pc [.ref a, .int (nI f), .int (nI p)] (LDP dC dI cI cL cJ g1 g2 a t y d r)) (bq_S (.int (bI (d 3 p ≠ nI 3 ∧ d 4 p = -1 ∧ ¬ q_oth (q_hold d y p) (nI f))))) 0 0 (fun _ => False) := by
  refine bq_of [some (.ref a), some (.int (nI f)), some (.int (nI p))] rfl rfl (Nat.le_of_ble_eq_true rfl) (by decide) ?_
  intro P_ E_ s M_ B_ T_ K_ C hv
  obtain ⟨hP, hK, hZ⟩ := hv
  have hS : va_S (fun _ => False) s.heap s.heap [] := va_S.rf
  refine g_aload0 C dX1_mayReserve_0 ?_
  refine g_get (ci := 1) (T := TX1) (N := 12) C inX1 hK hP 0 rfl rfl 4 (by decide) wf_X1_25 ⟨rfl, rfl, rfl⟩ rfl dX1_mayReserve_1 ?_
  refine g_iload2 C dX1_mayReserve_4 ?_
  refine g_iald C hK hP 4 0 rfl rfl (by omega) (by decide) dX1_mayReserve_5 ?_
  refine g_iconst C (nI 3) (by decide) dX1_mayReserve_6 ?_
  refine g_icmp_eq C 40 dX1_mayReserve_7 (by decide) (fun h7 => ?_) (fun h7 => ?_)
  · refine g_iconst C (nI 0) (by decide) dX1_mayReserve_40 ?_
    exact g_iretz C (by first | exact bI_t ⟨h7, Classical.byContradiction h17, h33⟩ | exact bI_f (fun z => z.1 h7)) dX1_mayReserve_41
  · refine g_aload0 C dX1_mayReserve_10 ?_
    refine g_get (ci := 1) (T := TX1) (N := 12) C inX1 hK hP 0 rfl rfl 5 (by decide) wf_X1_28 ⟨rfl, rfl, rfl⟩ rfl dX1_mayReserve_11 ?_
    refine g_iload2 C dX1_mayReserve_14 ?_
    refine g_iald C hK hP 5 0 rfl rfl (by omega) (by decide) dX1_mayReserve_15 ?_
    refine g_iconst C (-1) (by decide) dX1_mayReserve_16 ?_
    refine g_icmp_ne C 40 dX1_mayReserve_17 (by decide) (fun h17 => ?_) (fun h17 => ?_)
    · refine g_iconst C (nI 0) (by decide) dX1_mayReserve_40 ?_
      exact g_iretz C (bI_f (fun z => h17 z.2.1)) dX1_mayReserve_41
    · refine g_aload0 C dX1_mayReserve_20 ?_
      refine g_iload2 C dX1_mayReserve_21 ?_
      refine g_aload0 C dX1_mayReserve_22 ?_
      refine g_get (ci := 1) (T := TX1) (N := 12) C inX1 hK hP 0 rfl rfl 0 (by decide) wf_X1_9 ⟨rfl, rfl, rfl⟩ rfl dX1_mayReserve_23 ?_
      refine g_lcV2 C hK hP hZ hS (c_X1_holder (by omega) hki) wl_X1_74 wi_X1_holder wv_X1_holder wc_X1_holder (by decide +kernel) ⟨rfl, rfl, by decide, by decide⟩ rfl (by simp [Value.category]) ⟨by decide, by decide⟩ dX1_mayReserve_26 ?_
      refine g_iload1 C dX1_mayReserve_29 ?_
      refine g_scS2 C (c_X1_isOther) wl_X1_77 wt_X1_isOther wn_X1 wc_X1_isOther (by decide +kernel) ⟨rfl, rfl, by decide, by decide⟩ rfl (by simp [Value.category]) ⟨by decide, by decide⟩ dX1_mayReserve_30 ?_
      refine g_if_neB C 40 dX1_mayReserve_33 (by decide) (fun h33 => ?_) (fun h33 => ?_)
      · refine g_iconst C (nI 0) (by decide) dX1_mayReserve_40 ?_
        exact g_iretz C (by first | exact bI_t ⟨h7, h17, h33⟩ | exact bI_f (fun z => z.2.2 h33)) dX1_mayReserve_41
      · refine g_iconst C (nI 1) (by decide) dX1_mayReserve_36 ?_
        refine g_goto C 41 dX1_mayReserve_37 (by decide) ?_
        exact g_iretz C (by first | exact bI_t ⟨h7, h17, h33⟩ | exact bI_f (fun z => z.2.2 h33)) dX1_mayReserve_41

set_option maxHeartbeats 4000000 in
set_option maxRecDepth 100000 in
theorem c_X1_mayBuildVault {l : Launch} {dC : Nat → ClassId} {dI : Nat → Nat → Nat} {cI cL cJ : ClassId} {g1 g2 a : Nat} {t : Nat → Nat} {y : Int32} {d : RW} {r : Int64} {f p : Nat} (hf : f < 10) (hp : p < 40) (hki : INV d) : Met l yX1_mayBuildVault (.code yX1_mayBuildVault cX1_mayBuildVault 3 (some .boolean) :: WG) (rmL 3) (va_Pc [.ref a, .int (nI f), .int (nI p)] (LDP dC dI cI cL cJ g1 g2 a t y d r)) (bq_S (.int (bI (d 3 p ≠ nI 3 ∧ d 3 p ≠ nI 2 ∧ d 4 p = -1 ∧ q_bur d p = 0 ∧ ¬ q_oth (q_hold d y p) (nI f) ∧ q_rb r p = true)))) 0 0 (fun _ => False) := by
  refine bq_of [some (.ref a), some (.int (nI f)), some (.int (nI p))] rfl rfl (Nat.le_of_ble_eq_true rfl) (by decide) ?_
  intro P_ E_ s M_ B_ T_ K_ C hv
  obtain ⟨hP, hK, hZ⟩ := hv
  have hS : va_S (fun _ => False) s.heap s.heap [] := va_S.rf
  refine g_aload0 C dX1_mayBuildVault_0 ?_
  refine g_get (ci := 1) (T := TX1) (N := 12) C inX1 hK hP 0 rfl rfl 4 (by decide) wf_X1_25 ⟨rfl, rfl, rfl⟩ rfl dX1_mayBuildVault_1 ?_
  refine g_iload2 C dX1_mayBuildVault_4 ?_
  refine g_iald C hK hP 4 0 rfl rfl (by omega) (by decide) dX1_mayBuildVault_5 ?_
  refine g_iconst C (nI 3) (by decide) dX1_mayBuildVault_6 ?_
  refine g_icmp_eq C 66 dX1_mayBuildVault_7 (by decide) (fun h7 => ?_) (fun h7 => ?_)
  · refine g_iconst C (nI 0) (by decide) dX1_mayBuildVault_66 ?_
    exact g_iretz C (bI_f (fun z => z.1 h7)) dX1_mayBuildVault_67
  · refine g_aload0 C dX1_mayBuildVault_10 ?_
    refine g_get (ci := 1) (T := TX1) (N := 12) C inX1 hK hP 0 rfl rfl 4 (by decide) wf_X1_25 ⟨rfl, rfl, rfl⟩ rfl dX1_mayBuildVault_11 ?_
    refine g_iload2 C dX1_mayBuildVault_14 ?_
    refine g_iald C hK hP 4 0 rfl rfl (by omega) (by decide) dX1_mayBuildVault_15 ?_
    refine g_iconst C (nI 2) (by decide) dX1_mayBuildVault_16 ?_
    refine g_icmp_eq C 66 dX1_mayBuildVault_17 (by decide) (fun h17 => ?_) (fun h17 => ?_)
    · refine g_iconst C (nI 0) (by decide) dX1_mayBuildVault_66 ?_
      exact g_iretz C (bI_f (fun z => z.2.1 h17)) dX1_mayBuildVault_67
    · refine g_aload0 C dX1_mayBuildVault_20 ?_
      refine g_get (ci := 1) (T := TX1) (N := 12) C inX1 hK hP 0 rfl rfl 5 (by decide) wf_X1_28 ⟨rfl, rfl, rfl⟩ rfl dX1_mayBuildVault_21 ?_
      refine g_iload2 C dX1_mayBuildVault_24 ?_
      refine g_iald C hK hP 5 0 rfl rfl (by omega) (by decide) dX1_mayBuildVault_25 ?_
      refine g_iconst C (-1) (by decide) dX1_mayBuildVault_26 ?_
      refine g_icmp_ne C 66 dX1_mayBuildVault_27 (by decide) (fun h27 => ?_) (fun h27 => ?_)
      · refine g_iconst C (nI 0) (by decide) dX1_mayBuildVault_66 ?_
        exact g_iretz C (bI_f (fun z => h27 z.2.2.1)) dX1_mayBuildVault_67
      · refine g_aload0 C dX1_mayBuildVault_30 ?_
        refine g_iload2 C dX1_mayBuildVault_31 ?_
        refine g_lcV1 C hK hP hZ hS (c_X1_burialsIn (by omega)) wl_X1_58 wi_X1_burialsIn wv_X1_burialsIn wc_X1_burialsIn (by decide +kernel) ⟨rfl, rfl, by decide, by decide⟩ rfl (by simp [Value.category]) ⟨by decide, by decide⟩ dX1_mayBuildVault_32 ?_
        have hbu : q_bur d p ≤ 3 := q_cn_le _ 3
        refine g_if_neN C (by omega) 66 dX1_mayBuildVault_35 (by decide) (fun h35 => ?_) (fun h35 => ?_)
        · refine g_iconst C (nI 0) (by decide) dX1_mayBuildVault_66 ?_
          exact g_iretz C (bI_f (fun z => h35 z.2.2.2.1)) dX1_mayBuildVault_67
        · refine g_aload0 C dX1_mayBuildVault_38 ?_
          refine g_iload2 C dX1_mayBuildVault_39 ?_
          refine g_aload0 C dX1_mayBuildVault_40 ?_
          refine g_get (ci := 1) (T := TX1) (N := 12) C inX1 hK hP 0 rfl rfl 0 (by decide) wf_X1_9 ⟨rfl, rfl, rfl⟩ rfl dX1_mayBuildVault_41 ?_
          refine g_lcV2 C hK hP hZ hS (c_X1_holder (by omega) hki) wl_X1_74 wi_X1_holder wv_X1_holder wc_X1_holder (by decide +kernel) ⟨rfl, rfl, by decide, by decide⟩ rfl (by simp [Value.category]) ⟨by decide, by decide⟩ dX1_mayBuildVault_44 ?_
          refine g_iload1 C dX1_mayBuildVault_47 ?_
          refine g_scS2 C (c_X1_isOther) wl_X1_77 wt_X1_isOther wn_X1 wc_X1_isOther (by decide +kernel) ⟨rfl, rfl, by decide, by decide⟩ rfl (by simp [Value.category]) ⟨by decide, by decide⟩ dX1_mayBuildVault_48 ?_
          refine g_if_neB C 66 dX1_mayBuildVault_51 (by decide) (fun h51 => ?_) (fun h51 => ?_)
          · refine g_iconst C (nI 0) (by decide) dX1_mayBuildVault_66 ?_
            exact g_iretz C (bI_f (fun z => z.2.2.2.2.1 h51)) dX1_mayBuildVault_67
          · refine g_aload0 C dX1_mayBuildVault_54 ?_
            refine g_iload2 C dX1_mayBuildVault_55 ?_
            refine g_lcV1 C hK hP hZ hS (c_X1_isReached (by omega)) wl_X1_87 wi_X1_isReached wv_X1_isReached wc_X1_isReached (by decide +kernel) ⟨rfl, rfl, by decide, by decide⟩ rfl (by simp [Value.category]) ⟨by decide, by decide⟩ dX1_mayBuildVault_56 ?_
            refine g_if_eqB C 66 dX1_mayBuildVault_59 (by decide) (fun h59 => ?_) (fun h59 => ?_)
            · refine g_iconst C (nI 0) (by decide) dX1_mayBuildVault_66 ?_
              exact g_iretz C (by first | exact bI_t ⟨h7, h17, h27, h35, h51, h59⟩ | exact bI_f (fun z => h59 z.2.2.2.2.2)) dX1_mayBuildVault_67
            · refine g_iconst C (nI 1) (by decide) dX1_mayBuildVault_62 ?_
              refine g_goto C 67 dX1_mayBuildVault_63 (by decide) ?_
              exact g_iretz C (by first | exact bI_t ⟨h7, h17, h27, h35, h51, h59⟩ | exact bI_f (fun z => h59 z.2.2.2.2.2)) dX1_mayBuildVault_67
