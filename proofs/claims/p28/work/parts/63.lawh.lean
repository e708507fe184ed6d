set_option maxHeartbeats 4000000 in
set_option maxRecDepth 100000 in
theorem c_L_at {l : Launch} {x : Int32} {n : Nat} (hn : 0 < n) (hn2 : n < 2147483648) : Met l yL_at (.code yL_at method_3_code 2 (some .int) :: WG) (rmL 0) (va_Pc [.int x, .int (nI n)] (fun _ => True)) (bq_S (.int (nI (ux x % n)))) 0 0 (fun _ => False) := by
  refine bq_of [some (.int x), some (.int (nI n))] rfl rfl (Nat.le_of_ble_eq_true rfl) (by decide) ?_
  intro P_ E_ s M_ B_ T_ K_ C hv
  refine g_iload0 C dL_at_0 ?_
  refine g_iconst C (nI 1) (by decide) dL_at_1 ?_
  refine g_iushr C _ (pb_ux _) dL_at_2 ?_
  refine g_iload1 C dL_at_3 ?_
  have hux := ux_lt x
  refine g_iremN C (by omega) (by omega) (by omega) dL_at_4 ?_
  exact g_ireti C (rfl) dL_at_5

set_option maxHeartbeats 4000000 in
set_option maxRecDepth 100000 in
theorem c_L_vault {l : Launch} {dC : Nat → ClassId} {dI : Nat → Nat → Nat} {cI cL cJ : ClassId} {t : Nat → Nat} {x1 x3 x4 : Nat → Int32} {x2 : Nat → Int64} {d : RW} {yn : Nat} (hk : PKI d yn x1 x2 x3 x4) {p : Nat} (hp : p < 40) : Met l yL_vault (.code yL_vault method_4_code 2 (some .int) :: WG) (rmL 0) (va_Pc [.ref (t 0), .int (nI p)] (PKR dC dI cI cL cJ t x1 x2 x3 x4)) (bq_S (.int (d 4 p))) 0 0 (fun _ => False) := by
  refine bq_of [some (.ref (t 0)), some (.int (nI p))] rfl rfl (Nat.le_of_ble_eq_true rfl) (by decide) ?_
  intro P_ E_ s M_ B_ T_ K_ C hv
  obtain ⟨hP, hK⟩ := hv
  have hki := hk.1
  have hkg := hk.2.1
  have hkb := hk.2.2.1
  have hke := hk.2.2.2.1
  have hkf := hk.2.2.2.2
  refine g_aload0 C dL_vault_0 ?_
  refine g_iload1 C dL_vault_1 ?_
  refine g_iald C hK hP 0 0 rfl rfl (by omega) (by decide) dL_vault_2 ?_
  refine g_iconst C (nI 2) (by decide) dL_vault_3 ?_
  refine g_ishr C dL_vault_4 ?_
  refine g_bipush C (nI 15) (by decide) dL_vault_5 ?_
  refine g_iand C dL_vault_7 ?_
  refine g_iconst C (nI 1) (by decide) dL_vault_8 ?_
  refine g_isub C dL_vault_9 ?_
  refine g_top (rd_v hkg hp) ?_
  exact g_ireti C (rfl) dL_vault_10

set_option maxHeartbeats 4000000 in
set_option maxRecDepth 100000 in
theorem c_L_keeps {l : Launch} {dC : Nat → ClassId} {dI : Nat → Nat → Nat} {cI cL cJ : ClassId} {t : Nat → Nat} {x1 x3 x4 : Nat → Int32} {x2 : Nat → Int64} {d : RW} {yn : Nat} (hk : PKI d yn x1 x2 x3 x4) {p : Nat} (hp : p < 40) : Met l yL_keeps (.code yL_keeps method_5_code 2 (some .int) :: WG) (rmL 0) (va_Pc [.ref (t 0), .int (nI p)] (PKR dC dI cI cL cJ t x1 x2 x3 x4)) (bq_S (.int (d 5 p))) 0 0 (fun _ => False) := by
  refine bq_of [some (.ref (t 0)), some (.int (nI p))] rfl rfl (Nat.le_of_ble_eq_true rfl) (by decide) ?_
  intro P_ E_ s M_ B_ T_ K_ C hv
  obtain ⟨hP, hK⟩ := hv
  have hki := hk.1
  have hkg := hk.2.1
  have hkb := hk.2.2.1
  have hke := hk.2.2.2.1
  have hkf := hk.2.2.2.2
  refine g_aload0 C dL_keeps_0 ?_
  refine g_iload1 C dL_keeps_1 ?_
  refine g_iald C hK hP 0 0 rfl rfl (by omega) (by decide) dL_keeps_2 ?_
  refine g_bipush C (nI 6) (by decide) dL_keeps_3 ?_
  refine g_ishr C dL_keeps_5 ?_
  refine g_bipush C (nI 15) (by decide) dL_keeps_6 ?_
  refine g_iand C dL_keeps_8 ?_
  refine g_iconst C (nI 1) (by decide) dL_keeps_9 ?_
  refine g_isub C dL_keeps_10 ?_
  refine g_top (rd_h hkg hp) ?_
  exact g_ireti C (rfl) dL_keeps_11

set_option maxHeartbeats 4000000 in
set_option maxRecDepth 100000 in
theorem c_L_upto {l : Launch} {dC : Nat → ClassId} {dI : Nat → Nat → Nat} {cI cL cJ : ClassId} {t : Nat → Nat} {x1 x3 x4 : Nat → Int32} {x2 : Nat → Int64} {d : RW} {yn : Nat} (hk : PKI d yn x1 x2 x3 x4) {p : Nat} (hp : p < 40) : Met l yL_upto (.code yL_upto method_6_code 2 (some .int) :: WG) (rmL 1) (va_Pc [.ref (t 0), .int (nI p)] (PKR dC dI cI cL cJ t x1 x2 x3 x4)) (bq_S (.int (d 6 p))) 0 0 (fun _ => False) := by
  refine bq_of [some (.ref (t 0)), some (.int (nI p))] rfl rfl (Nat.le_of_ble_eq_true rfl) (by decide) ?_
  intro P_ E_ s M_ B_ T_ K_ C hv
  obtain ⟨hP, hK⟩ := hv
  have hki := hk.1
  have hkg := hk.2.1
  have hkb := hk.2.2.1
  have hke := hk.2.2.2.1
  have hkf := hk.2.2.2.2
  refine g_aload0 C dL_upto_0 ?_
  refine g_iload1 C dL_upto_1 ?_
  refine g_pkS C 2 rfl (c_L_keeps hk (by omega)) wl_L_8 wt_L_keeps wn_L wc_L_keeps (by decide +kernel) ⟨rfl, rfl, by decide, by decide⟩ PKR_bl (PKR_at hK hP) rfl rfl (by simp [Value.category]) ⟨by decide, by decide⟩ dL_upto_2 ?_
  refine g_if_ge C 12 dL_upto_5 (by decide) (fun h5 => ?_) (fun h5 => ?_)
  · refine g_aload0 C dL_upto_12 ?_
    refine g_iload1 C dL_upto_13 ?_
    refine g_iald C hK hP 0 0 rfl rfl (by omega) (by decide) dL_upto_14 ?_
    refine g_bipush C (nI 10) (by decide) dL_upto_15 ?_
    refine g_ishr C dL_upto_17 ?_
    exact g_ireti C (rd_u hkg hp ((sgn (rd_5s hkg hp)).mp h5)) dL_upto_18
  · refine g_iconst C (-1) (by decide) dL_upto_8 ?_
    refine g_goto C 18 dL_upto_9 (by decide) ?_
    exact g_ireti C ((rd_u0 hkg hp (Classical.byContradiction fun z => h5 ((sgn (rd_5s hkg hp)).mpr z))).symm) dL_upto_18

set_option maxHeartbeats 4000000 in
set_option maxRecDepth 100000 in
theorem c_L_rest {l : Launch} {dC : Nat → ClassId} {dI : Nat → Nat → Nat} {cI cL cJ : ClassId} {t : Nat → Nat} {x1 x3 x4 : Nat → Int32} {x2 : Nat → Int64} {d : RW} {yn : Nat} (hk : PKI d yn x1 x2 x3 x4) {p : Nat} (hp : p < 40) : Met l yL_rest (.code yL_rest method_11_code 2 (some .int) :: WG) (rmL 0) (va_Pc [.ref (t 0), .int (nI p)] (PKR dC dI cI cL cJ t x1 x2 x3 x4)) (bq_S (.int (q_yr d p))) 0 0 (fun _ => False) := by
  refine bq_of [some (.ref (t 0)), some (.int (nI p))] rfl rfl (Nat.le_of_ble_eq_true rfl) (by decide) ?_
  intro P_ E_ s M_ B_ T_ K_ C hv
  obtain ⟨hP, hK⟩ := hv
  have hki := hk.1
  have hkg := hk.2.1
  have hkb := hk.2.2.1
  have hke := hk.2.2.2.1
  have hkf := hk.2.2.2.2
  refine g_aload0 C dL_rest_0 ?_
  refine g_iload1 C dL_rest_1 ?_
  refine g_iald C hK hP 0 0 rfl rfl (by omega) (by decide) dL_rest_2 ?_
  refine g_iconst C (nI 3) (by decide) dL_rest_3 ?_
  refine g_iand C dL_rest_4 ?_
  refine g_top (rd_k hkg hp) ?_
  refine g_if_ne C 13 dL_rest_5 (by decide) (fun h5 => ?_) (fun h5 => ?_)
  · refine g_aload0 C dL_rest_13 ?_
    refine g_iload1 C dL_rest_14 ?_
    refine g_iald C hK hP 0 0 rfl rfl (by omega) (by decide) dL_rest_15 ?_
    refine g_iconst C (nI 3) (by decide) dL_rest_16 ?_
    refine g_iand C dL_rest_17 ?_
    refine g_top (rd_k hkg hp) ?_
    refine g_iconst C (nI 1) (by decide) dL_rest_18 ?_
    refine g_icmp_ne C 27 dL_rest_19 (by decide) (fun h19 => ?_) (fun h19 => ?_)
    · refine g_bipush C (nI 60) (by decide) dL_rest_27 ?_
      exact g_ireti C (by unfold q_yr; rw [if_neg (fun z => h5 (z.trans nI_0)), if_neg h19]) dL_rest_29
    · refine g_bipush C (nI 15) (by decide) dL_rest_22 ?_
      refine g_goto C 29 dL_rest_24 (by decide) ?_
      exact g_ireti C (by unfold q_yr; rw [if_neg (fun z => h5 (z.trans nI_0)), if_pos h19]) dL_rest_29
  · refine g_bipush C (nI 30) (by decide) dL_rest_8 ?_
    refine g_goto C 29 dL_rest_10 (by decide) ?_
    exact g_ireti C (by unfold q_yr; rw [if_pos (h5.trans nI_0.symm)]) dL_rest_29

set_option maxHeartbeats 4000000 in
set_option maxRecDepth 100000 in
theorem c_L_isThere {l : Launch} {dC : Nat → ClassId} {dI : Nat → Nat → Nat} {cI cL cJ : ClassId} {t : Nat → Nat} {x1 x3 x4 : Nat → Int32} {x2 : Nat → Int64} {d : RW} {yn : Nat} (hk : PKI d yn x1 x2 x3 x4) {p j : Nat} (hp : p < 40) (hj : j < 3) : Met l yL_isThere (.code yL_isThere method_7_code 3 (some .boolean) :: WG) (rmL 0) (va_Pc [.ref (t 1), .int (nI p), .int (nI (j + 1))] (PKR dC dI cI cL cJ t x1 x2 x3 x4)) (bq_S (.int (bI (d 7 (p * 3 + j) ≠ -1)))) 0 0 (fun _ => False) := by
  refine bq_of [some (.ref (t 1)), some (.int (nI p)), some (.int (nI (j + 1)))] rfl rfl (Nat.le_of_ble_eq_true rfl) (by decide) ?_
  intro P_ E_ s M_ B_ T_ K_ C hv
  obtain ⟨hP, hK⟩ := hv
  have hki := hk.1
  have hkg := hk.2.1
  have hkb := hk.2.2.1
  have hke := hk.2.2.2.1
  have hkf := hk.2.2.2.2
  refine g_aload0 C dL_isThere_0 ?_
  refine g_iload1 C dL_isThere_1 ?_
  refine g_laldq C hK hP 1 2 rfl rfl (by omega) (by decide) dL_isThere_2 ?_
  refine g_bipush C (nI 16) (by decide) dL_isThere_3 ?_
  refine g_iload2 C dL_isThere_5 ?_
  refine g_imulN C dL_isThere_6 ?_
  refine g_iconst C (nI 1) (by decide) dL_isThere_7 ?_
  refine g_isubN C (by omega) dL_isThere_8 ?_
  refine g_lshr C dL_isThere_9 ?_
  refine g_lconst C 1 (by decide) dL_isThere_10 ?_
  refine g_land C dL_isThere_11 ?_
  rcases rd_there0 hkb hp hj with ⟨ho, e9⟩ | ⟨ho, e9⟩
  · refine g_topl e9 ?_
    refine g_lconst C 1 (by decide) dL_isThere_12 ?_
    refine g_lcmp C dL_isThere_13 ?_
    refine g_if_ne C 21 dL_isThere_14 (by decide) (fun h => (h (by decide)).elim) (fun _ => ?_)
    refine g_iconst C (nI 1) (by decide) dL_isThere_17 ?_
    refine g_goto C 22 dL_isThere_18 (by decide) ?_
    exact g_iretz C (bI_t ho) dL_isThere_22
  · refine g_topl e9 ?_
    refine g_lconst C 1 (by decide) dL_isThere_12 ?_
    refine g_lcmp C dL_isThere_13 ?_
    refine g_if_ne C 21 dL_isThere_14 (by decide) (fun _ => ?_) (fun h => absurd h (by decide))
    refine g_iconst C (nI 0) (by decide) dL_isThere_21 ?_
    exact g_iretz C (bI_f ho) dL_isThere_22

set_option maxHeartbeats 4000000 in
set_option maxRecDepth 100000 in
theorem c_L_who {l : Launch} {dC : Nat → ClassId} {dI : Nat → Nat → Nat} {cI cL cJ : ClassId} {t : Nat → Nat} {x1 x3 x4 : Nat → Int32} {x2 : Nat → Int64} {d : RW} {yn : Nat} (hk : PKI d yn x1 x2 x3 x4) {p j : Nat} (hp : p < 40) (hj : j < 3) (ho : d 7 (p * 3 + j) ≠ -1) : Met l yL_who (.code yL_who method_9_code 3 (some .int) :: WG) (rmL 0) (va_Pc [.ref (t 1), .int (nI p), .int (nI (j + 1))] (PKR dC dI cI cL cJ t x1 x2 x3 x4)) (bq_S (.int (d 7 (p * 3 + j)))) 0 0 (fun _ => False) := by
  refine bq_of [some (.ref (t 1)), some (.int (nI p)), some (.int (nI (j + 1)))] rfl rfl (Nat.le_of_ble_eq_true rfl) (by decide) ?_
  intro P_ E_ s M_ B_ T_ K_ C hv
  obtain ⟨hP, hK⟩ := hv
  have hki := hk.1
  have hkg := hk.2.1
  have hkb := hk.2.2.1
  have hke := hk.2.2.2.1
  have hkf := hk.2.2.2.2
  refine g_aload0 C dL_who_0 ?_
  refine g_iload1 C dL_who_1 ?_
  refine g_laldq C hK hP 1 2 rfl rfl (by omega) (by decide) dL_who_2 ?_
  refine g_bipush C (nI 16) (by decide) dL_who_3 ?_
  refine g_iload2 C dL_who_5 ?_
  refine g_imulN C dL_who_6 ?_
  refine g_bipush C (nI 16) (by decide) dL_who_7 ?_
  refine g_isubN C (by omega) dL_who_9 ?_
  refine g_lshr C dL_who_10 ?_
  refine g_ldc2 C wq_L_18 dL_who_11 ?_
  refine g_land C dL_who_14 ?_
  refine g_l2i C _ rfl dL_who_15 ?_
  exact g_ireti C (rd_who0 hkb hp hj ho) dL_who_16

set_option maxHeartbeats 4000000 in
set_option maxRecDepth 100000 in
theorem c_L_when {l : Launch} {dC : Nat → ClassId} {dI : Nat → Nat → Nat} {cI cL cJ : ClassId} {t : Nat → Nat} {x1 x3 x4 : Nat → Int32} {x2 : Nat → Int64} {d : RW} {yn : Nat} (hk : PKI d yn x1 x2 x3 x4) {p j : Nat} (hp : p < 40) (hj : j < 3) (ho : d 7 (p * 3 + j) ≠ -1) : Met l yL_when (.code yL_when method_10_code 3 (some .int) :: WG) (rmL 0) (va_Pc [.ref (t 1), .int (nI p), .int (nI (j + 1))] (PKR dC dI cI cL cJ t x1 x2 x3 x4)) (bq_S (.int (d 8 (p * 3 + j)))) 0 0 (fun _ => False) := by
  refine bq_of [some (.ref (t 1)), some (.int (nI p)), some (.int (nI (j + 1)))] rfl rfl (Nat.le_of_ble_eq_true rfl) (by decide) ?_
  intro P_ E_ s M_ B_ T_ K_ C hv
  obtain ⟨hP, hK⟩ := hv
  have hki := hk.1
  have hkg := hk.2.1
  have hkb := hk.2.2.1
  have hke := hk.2.2.2.1
  have hkf := hk.2.2.2.2
  refine g_aload0 C dL_when_0 ?_
  refine g_iload1 C dL_when_1 ?_
  refine g_laldq C hK hP 1 2 rfl rfl (by omega) (by decide) dL_when_2 ?_
  refine g_bipush C (nI 16) (by decide) dL_when_3 ?_
  refine g_iload2 C dL_when_5 ?_
  refine g_imulN C dL_when_6 ?_
  refine g_bipush C (nI 12) (by decide) dL_when_7 ?_
  refine g_isubN C (by omega) dL_when_9 ?_
  refine g_lshr C dL_when_10 ?_
  refine g_ldc2 C wq_L_20 dL_when_11 ?_
  refine g_land C dL_when_14 ?_
  refine g_l2i C _ rfl dL_when_15 ?_
  exact g_ireti C (rd_when0 hkb hp hj ho) dL_when_16

set_option maxHeartbeats 4000000 in
set_option maxRecDepth 100000 in
theorem c_L_buried {l : Launch} {dC : Nat → ClassId} {dI : Nat → Nat → Nat} {cI cL cJ : ClassId} {t : Nat → Nat} {x1 x3 x4 : Nat → Int32} {x2 : Nat → Int64} {d : RW} {yn : Nat} (hk : PKI d yn x1 x2 x3 x4) {p : Nat} (hp : p < 40) : Met l yL_buried (.code yL_buried method_8_code 2 (some .int) :: WG) (rmL 1) (va_Pc [.ref (t 1), .int (nI p)] (PKR dC dI cI cL cJ t x1 x2 x3 x4)) (bq_S (.int (nI (q_bur d p)))) 0 0 (fun _ => False) := by
  refine bq_of [some (.ref (t 1)), some (.int (nI p))] rfl rfl (Nat.le_of_ble_eq_true rfl) (by decide) ?_
  intro P_ E_ s M_ B_ T_ K_ C hv
  obtain ⟨hP, hK⟩ := hv
  have hki := hk.1
  have hkg := hk.2.1
  have hkb := hk.2.2.1
  have hke := hk.2.2.2.1
  have hkf := hk.2.2.2.2
  refine g_aload0 C dL_buried_0 ?_
  refine g_iload1 C dL_buried_1 ?_
  refine g_iconst C (nI 1) (by decide) dL_buried_2 ?_
  refine g_pkS C 3 rfl (c_L_isThere hk (j := 0) (by omega) (by omega)) wl_L_14 wt_L_isThere wn_L wc_L_isThere (by decide +kernel) ⟨rfl, rfl, by decide, by decide⟩ PKR_bl (PKR_at hK hP) rfl rfl (by simp [Value.category]) ⟨by decide, by decide⟩ dL_buried_3 ?_
  refine g_d1 (v := nI (if d 7 (p * 3 + 0) ≠ -1 then 1 else 0)) 14 (fun K6 => ?_) ?_
  · skip
    refine g_if_eqB C 13 dL_buried_6 (by decide) (fun h6 => ?_) (fun h6 => ?_)
    · refine g_iconst C (nI 0) (by decide) dL_buried_13 ?_
      exact K6 _ (by first | rw [if_pos h6] | rw [if_neg h6])
    · refine g_iconst C (nI 1) (by decide) dL_buried_9 ?_
      refine g_goto C 14 dL_buried_10 (by decide) ?_
      exact K6 _ (by first | rw [if_pos h6] | rw [if_neg h6])
  refine g_aload0 C dL_buried_14 ?_
  refine g_iload1 C dL_buried_15 ?_
  refine g_iconst C (nI 2) (by decide) dL_buried_16 ?_
  refine g_pkS C 3 rfl (c_L_isThere hk (j := 1) (by omega) (by omega)) wl_L_14 wt_L_isThere wn_L wc_L_isThere (by decide +kernel) ⟨rfl, rfl, by decide, by decide⟩ PKR_bl (PKR_at hK hP) rfl rfl (by simp [Value.category]) ⟨by decide, by decide⟩ dL_buried_17 ?_
  refine g_d1 (v := nI (if d 7 (p * 3 + 1) ≠ -1 then 1 else 0)) 28 (fun K20 => ?_) ?_
  · skip
    refine g_if_eqB C 27 dL_buried_20 (by decide) (fun h20 => ?_) (fun h20 => ?_)
    · refine g_iconst C (nI 0) (by decide) dL_buried_27 ?_
      exact K20 _ (by first | rw [if_pos h20] | rw [if_neg h20])
    · refine g_iconst C (nI 1) (by decide) dL_buried_23 ?_
      refine g_goto C 28 dL_buried_24 (by decide) ?_
      exact K20 _ (by first | rw [if_pos h20] | rw [if_neg h20])
  refine g_iaddN C dL_buried_28 ?_
  refine g_aload0 C dL_buried_29 ?_
  refine g_iload1 C dL_buried_30 ?_
  refine g_iconst C (nI 3) (by decide) dL_buried_31 ?_
  refine g_pkS C 3 rfl (c_L_isThere hk (j := 2) (by omega) (by omega)) wl_L_14 wt_L_isThere wn_L wc_L_isThere (by decide +kernel) ⟨rfl, rfl, by decide, by decide⟩ PKR_bl (PKR_at hK hP) rfl rfl (by simp [Value.category]) ⟨by decide, by decide⟩ dL_buried_32 ?_
  refine g_d1 (v := nI (if d 7 (p * 3 + 2) ≠ -1 then 1 else 0)) 43 (fun K35 => ?_) ?_
  · skip
    refine g_if_eqB C 42 dL_buried_35 (by decide) (fun h35 => ?_) (fun h35 => ?_)
    · refine g_iconst C (nI 0) (by decide) dL_buried_42 ?_
      exact K35 _ (by first | rw [if_pos h35] | rw [if_neg h35])
    · refine g_iconst C (nI 1) (by decide) dL_buried_38 ?_
      refine g_goto C 43 dL_buried_39 (by decide) ?_
      exact K35 _ (by first | rw [if_pos h35] | rw [if_neg h35])
  refine g_iaddN C dL_buried_43 ?_
  exact g_ireti C (by show _ = nI (((0 + (if d 7 (p * 3 + 0) ≠ -1 then 1 else 0)) + (if d 7 (p * 3 + 1) ≠ -1 then 1 else 0)) + (if d 7 (p * 3 + 2) ≠ -1 then 1 else 0)); rw [Nat.zero_add]) dL_buried_44

set_option maxHeartbeats 4000000 in
set_option maxRecDepth 100000 in
theorem c_L_fresh {l : Launch} {dC : Nat → ClassId} {dI : Nat → Nat → Nat} {cI cL cJ : ClassId} {t : Nat → Nat} {x1 x3 x4 : Nat → Int32} {x2 : Nat → Int64} {d : RW} {yn : Nat} (hk : PKI d yn x1 x2 x3 x4) {p u : Nat} (hp : p < 40) (hu : u < 100000) : Met l yL_fresh (.code yL_fresh method_12_code 6 (some .int) :: WG) (rmL 1) (va_Pc [.int (nI p), .int (nI u), .ref (t 0), .ref (t 1)] (PKR dC dI cI cL cJ t x1 x2 x3 x4)) (bq_S (.int (nI (q_rsn d (nI u) p)))) 0 0 (fun _ => False) := by
  refine bq_of [some (.int (nI p)), some (.int (nI u)), some (.ref (t 0)), some (.ref (t 1)), none, none] rfl rfl (Nat.le_of_ble_eq_true rfl) (by decide) ?_
  intro P_ E_ s M_ B_ T_ K_ C hv
  obtain ⟨hP, hK⟩ := hv
  have hki := hk.1
  have hkg := hk.2.1
  have hkb := hk.2.2.1
  have hke := hk.2.2.2.1
  have hkf := hk.2.2.2.2
  refine g_iconst C (nI 0) (by decide) dL_fresh_0 ?_
  refine g_istore4 C rfl dL_fresh_1 ?_
  refine g_iconst C (nI 1) (by decide) dL_fresh_3 ?_
  refine g_istore5 C rfl dL_fresh_4 ?_
  refine g_lp2 (fun (j : Nat) (x : Nat) => j ≤ 3 ∧ x = q_cn (fun k => q_rst d (nI u) (p * 3 + k)) j) (fun (j : Nat) (x : Nat) => 3 - j) (fun (j : Nat) (x : Nat) => [some (.int (nI p)), some (.int (nI u)), some (.ref (t 0)), some (.ref (t 1)), some (.int (nI x)), some (.int (nI (j + 1)))]) 0 0 ⟨by omega, rfl⟩ rfl ?_
  rintro j x ⟨hj, hx⟩ ih
  try dsimp only at ih ⊢
  refine g_iload5 C dL_fresh_6 ?_
  refine g_iconst C (nI 4) (by decide) dL_fresh_8 ?_
  refine g_icmp_geN C (by omega) (by omega) 55 dL_fresh_9 (by decide) (fun h9 => ?_) (fun h9 => ?_)
  · refine g_iload4 C dL_fresh_55 ?_
    exact g_ireti C (by rw [hx, show j = 3 by omega]; rfl) dL_fresh_57
  · refine g_iload4 C dL_fresh_12 ?_
    refine g_aload3 C dL_fresh_14 ?_
    refine g_iload0 C dL_fresh_15 ?_
    refine g_iload5 C dL_fresh_16 ?_
    refine g_pkS C 3 rfl (c_L_isThere hk (j := j) (by omega) (by omega)) wl_L_14 wt_L_isThere wn_L wc_L_isThere (by decide +kernel) ⟨rfl, rfl, by decide, by decide⟩ PKR_bl (PKR_at hK hP) rfl rfl (by simp [Value.category]) ⟨by decide, by decide⟩ dL_fresh_18 ?_
    refine g_d1 (v := nI (if q_rst d (nI u) (p * 3 + j) then 1 else 0)) 46 (fun K21 => ?_) ?_
    · skip
      refine g_if_eqB C 45 dL_fresh_21 (by decide) (fun h21 => ?_) (fun h21 => ?_)
      · refine g_iconst C (nI 0) (by decide) dL_fresh_45 ?_
        exact K21 _ (by rw [if_neg (fun z => z.1 (Classical.byContradiction fun q => h21 q))])
      · refine g_iload1 C dL_fresh_24 ?_
        refine g_aload3 C dL_fresh_25 ?_
        refine g_iload0 C dL_fresh_26 ?_
        refine g_iload5 C dL_fresh_27 ?_
        refine g_pkS C 3 rfl (c_L_when hk (j := j) (by omega) (by omega) (by assumption)) wl_L_22 wt_L_when wn_L wc_L_when (by decide +kernel) ⟨rfl, rfl, by decide, by decide⟩ PKR_bl (PKR_at hK hP) rfl rfl (by simp [Value.category]) ⟨by decide, by decide⟩ dL_fresh_29 ?_
        refine g_isub C dL_fresh_32 ?_
        refine g_aload2 C dL_fresh_33 ?_
        refine g_iload0 C dL_fresh_34 ?_
        refine g_pkS C 2 rfl (c_L_rest hk (by omega)) wl_L_26 wt_L_rest wn_L wc_L_rest (by decide +kernel) ⟨rfl, rfl, by decide, by decide⟩ PKR_bl (PKR_at hK hP) rfl rfl (by simp [Value.category]) ⟨by decide, by decide⟩ dL_fresh_35 ?_
        refine g_icmp_ge C 45 dL_fresh_38 (by decide) (fun h38 => ?_) (fun h38 => ?_)
        · refine g_iconst C (nI 0) (by decide) dL_fresh_45 ?_
          exact K21 _ (by rw [if_neg (fun z => absurd ((pk_rst hk hp (by omega) hu).mp z).2 (Int32.not_lt.mpr h38))])
        · refine g_iconst C (nI 1) (by decide) dL_fresh_41 ?_
          refine g_goto C 46 dL_fresh_42 (by decide) ?_
          exact K21 _ (by rw [if_pos ((pk_rst hk hp (by omega) hu).mpr ⟨h21, Int32.not_le.mp h38⟩)])
    refine g_iaddN C dL_fresh_46 ?_
    refine g_istore4 C rfl dL_fresh_47 ?_
    refine g_iinc5 C _ rfl dL_fresh_49 (nI_1 _) ?_
    refine g_goto C 6 dL_fresh_52 (by decide) ?_
    exact ih (j + 1) _ ⟨by omega, by rw [hx]; rfl⟩ (by show 3 - (j + 1) < 3 - j; omega)
