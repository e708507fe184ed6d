set_option maxHeartbeats 4000000 in
set_option maxRecDepth 100000 in
theorem c_X3_within {l : Launch} {v a b : Int32} : Met l yX3_within (.code yX3_within cX3_within 3 (some .boolean) :: WG) (rmL 0) (va_Pc [.int v, .int a, .int b] (fun _ => True)) (bq_S (.int (bI (a ≤ v ∧ v ≤ b)))) 0 0 (fun _ => False) := by
  refine bq_of [some (.int v), some (.int a), some (.int b)] rfl rfl (Nat.le_of_ble_eq_true rfl) (by decide) ?_
  intro P_ E_ s M_ B_ T_ K_ C hv
  refine g_iload0 C dX3_within_0 ?_
  refine g_iload1 C dX3_within_1 ?_
  refine g_icmp_lt C 14 dX3_within_2 (by decide) (fun h2 => ?_) (fun h2 => ?_)
  · refine g_iconst C (nI 0) (by decide) dX3_within_14 ?_
    exact g_iretz C (bI_f (fun z => absurd z.1 (Int32.not_le.mpr h2))) dX3_within_15
  · refine g_iload0 C dX3_within_5 ?_
    refine g_iload2 C dX3_within_6 ?_
    refine g_icmp_gt C 14 dX3_within_7 (by decide) (fun h7 => ?_) (fun h7 => ?_)
    · refine g_iconst C (nI 0) (by decide) dX3_within_14 ?_
      exact g_iretz C (bI_f (fun z => absurd z.2 (Int32.not_le.mpr h7))) dX3_within_15
    · refine g_iconst C (nI 1) (by decide) dX3_within_10 ?_
      refine g_goto C 15 dX3_within_11 (by decide) ?_
      exact g_iretz C (bI_t ⟨Int32.not_lt.mp h2, Int32.not_lt.mp h7⟩) dX3_within_15

set_option maxHeartbeats 4000000 in
set_option maxRecDepth 100000 in
theorem c_X3_isPlot {l : Launch} {v : Int32} : Met l yX3_isPlot (.code yX3_isPlot cX3_isPlot 1 (some .boolean) :: WG) (rmL 1) (va_Pc [.int v] (fun _ => True)) (bq_S (.int (bI (nI 0 ≤ v ∧ v ≤ nI 39)))) 0 0 (fun _ => False) := by
  refine bq_of [some (.int v)] rfl rfl (Nat.le_of_ble_eq_true rfl) (by decide) ?_
  intro P_ E_ s M_ B_ T_ K_ C hv
  refine g_iload0 C dX3_isPlot_0 ?_
  refine g_iconst C (nI 0) (by decide) dX3_isPlot_1 ?_
  refine g_bipush C (nI 39) (by decide) dX3_isPlot_2 ?_
  refine g_scS3 C (c_X3_within) wl_X3_41 wt_X3_within wn_X3 wc_X3_within (by decide +kernel) ⟨rfl, rfl, by decide, by decide⟩ rfl (by simp [Value.category]) ⟨by decide, by decide⟩ dX3_isPlot_4 ?_
  exact g_iretz C (rfl) dX3_isPlot_7

set_option maxHeartbeats 4000000 in
set_option maxRecDepth 100000 in
theorem c_X3_isFamily {l : Launch} {v : Int32} : Met l yX3_isFamily (.code yX3_isFamily cX3_isFamily 1 (some .boolean) :: WG) (rmL 1) (va_Pc [.int v] (fun _ => True)) (bq_S (.int (bI (nI 0 ≤ v ∧ v ≤ nI 9)))) 0 0 (fun _ => False) := by
  refine bq_of [some (.int v)] rfl rfl (Nat.le_of_ble_eq_true rfl) (by decide) ?_
  intro P_ E_ s M_ B_ T_ K_ C hv
  refine g_iload0 C dX3_isFamily_0 ?_
  refine g_iconst C (nI 0) (by decide) dX3_isFamily_1 ?_
  refine g_bipush C (nI 9) (by decide) dX3_isFamily_2 ?_
  refine g_scS3 C (c_X3_within) wl_X3_41 wt_X3_within wn_X3 wc_X3_within (by decide +kernel) ⟨rfl, rfl, by decide, by decide⟩ rfl (by simp [Value.category]) ⟨by decide, by decide⟩ dX3_isFamily_4 ?_
  exact g_iretz C (rfl) dX3_isFamily_7

set_option maxHeartbeats 4000000 in
set_option maxRecDepth 100000 in
theorem c_X3_buried {l : Launch} {dC : Nat → ClassId} {dI : Nat → Nat → Nat} {cI cL cJ : ClassId} {o : Nat} {t : Nat → Nat} {A : RW} {i : Nat → Int32} {h : Int64} {p : Nat} (hp : p < 40) : Met l yX3_buried (.code yX3_buried cX3_buried 4 (some .int) :: WG) (rmL 0) (va_Pc [.ref o, .int (nI p)] (MDP dC dI cI cL cJ o t A i h)) (bq_S (.int (nI (q_bur (q_nz (A 0)) p)))) 0 0 (fun _ => False) := by
  refine bq_of [some (.ref o), some (.int (nI p)), none, none] rfl rfl (Nat.le_of_ble_eq_true rfl) (by decide) ?_
  intro P_ E_ s M_ B_ T_ K_ C hv
  obtain ⟨hP, hK⟩ := hv
  refine g_iconst C (nI 0) (by decide) dX3_buried_0 ?_
  refine g_istore2 C rfl dX3_buried_1 ?_
  refine g_iconst C (nI 0) (by decide) dX3_buried_2 ?_
  refine g_istore3 C rfl dX3_buried_3 ?_
  refine g_lp2 (fun (j : Nat) (x : Nat) => j ≤ 3 ∧ x = q_cn (fun i => (q_nz (A 0)) 7 (p * 3 + i) ≠ -1) j) (fun (j : Nat) (x : Nat) => 3 - j) (fun (j : Nat) (x : Nat) => [some (.ref o), some (.int (nI p)), some (.int (nI x)), some (.int (nI j))]) 0 0 ⟨by omega, rfl⟩ rfl ?_
  rintro j x ⟨hj, hx⟩ ih
  try dsimp only at ih ⊢
  refine g_iload3 C dX3_buried_4 ?_
  refine g_iconst C (nI 3) (by decide) dX3_buried_5 ?_
  refine g_icmp_geN C (by omega) (by omega) 41 dX3_buried_6 (by decide) (fun h6 => ?_) (fun h6 => ?_)
  · refine g_iload2 C dX3_buried_41 ?_
    exact g_ireti C (by rw [hx, show j = 3 by omega]; rfl) dX3_buried_42
  · refine g_iload2 C dX3_buried_9 ?_
    refine g_aload0 C dX3_buried_10 ?_
    refine g_get (ci := 3) (T := TX3) (N := 16) C inX3 hK hP 0 rfl rfl 0 (by decide) wf_X3_7 ⟨rfl, rfl, rfl⟩ rfl dX3_buried_11 ?_
    refine g_sipush C (nI 160) (by decide) dX3_buried_14 ?_
    refine g_iconst C (nI 3) (by decide) dX3_buried_17 ?_
    refine g_iload1 C dX3_buried_18 ?_
    refine g_imulN C dX3_buried_19 ?_
    refine g_iaddN C dX3_buried_20 ?_
    refine g_iload3 C dX3_buried_21 ?_
    refine g_iaddN C dX3_buried_22 ?_
    refine g_zal C hK hP (by omega) (zr7 (k := p * 3 + j) (by omega) (by omega)) dX3_buried_23 ?_
    refine g_iconst C (-1) (by decide) dX3_buried_24 ?_
    refine g_d2 (v := nI (if (q_nz (A 0)) 7 (p * 3 + j) ≠ -1 then 1 else 0)) 33 (fun K25 => ?_) ?_
    · skip
      refine g_icmp_ne C 32 dX3_buried_25 (by decide) (fun h25 => ?_) (fun h25 => ?_)
      · refine g_iconst C (nI 1) (by decide) dX3_buried_32 ?_
        exact K25 _ (by simp [h25])
      · refine g_iconst C (nI 0) (by decide) dX3_buried_28 ?_
        refine g_goto C 33 dX3_buried_29 (by decide) ?_
        exact K25 _ (by simp [h25])
    refine g_iaddN C dX3_buried_33 ?_
    refine g_istore2 C rfl dX3_buried_34 ?_
    refine g_iinc3 C _ rfl dX3_buried_35 (nI_1 _) ?_
    refine g_goto C 4 dX3_buried_38 (by decide) ?_
    exact ih (j + 1) _ ⟨by omega, by rw [hx]; rfl⟩ (by show 3 - (j + 1) < 3 - j; omega)

set_option maxHeartbeats 4000000 in
set_option maxRecDepth 100000 in
theorem c_X3_rest {l : Launch} {dC : Nat → ClassId} {dI : Nat → Nat → Nat} {cI cL cJ : ClassId} {o : Nat} {t : Nat → Nat} {A : RW} {i : Nat → Int32} {h : Int64} {p : Nat} (hp : p < 40) : Met l yX3_rest (.code yX3_rest cX3_rest 2 (some .int) :: WG) (rmL 0) (va_Pc [.ref o, .int (nI p)] (MDP dC dI cI cL cJ o t A i h)) (bq_S (.int (q_yr (q_nz (A 0)) p))) 0 0 (fun _ => False) := by
  refine bq_of [some (.ref o), some (.int (nI p))] rfl rfl (Nat.le_of_ble_eq_true rfl) (by decide) ?_
  intro P_ E_ s M_ B_ T_ K_ C hv
  obtain ⟨hP, hK⟩ := hv
  refine g_aload0 C dX3_rest_0 ?_
  refine g_get (ci := 3) (T := TX3) (N := 16) C inX3 hK hP 0 rfl rfl 0 (by decide) wf_X3_7 ⟨rfl, rfl, rfl⟩ rfl dX3_rest_1 ?_
  refine g_iload1 C dX3_rest_4 ?_
  refine g_zal C hK hP (by omega) (zr3 (k := p) (by omega) (by omega)) dX3_rest_5 ?_
  refine g_if_ne C 14 dX3_rest_6 (by decide) (fun h6 => ?_) (fun h6 => ?_)
  · refine g_aload0 C dX3_rest_14 ?_
    refine g_get (ci := 3) (T := TX3) (N := 16) C inX3 hK hP 0 rfl rfl 0 (by decide) wf_X3_7 ⟨rfl, rfl, rfl⟩ rfl dX3_rest_15 ?_
    refine g_iload1 C dX3_rest_18 ?_
    refine g_zal C hK hP (by omega) (zr3 (k := p) (by omega) (by omega)) dX3_rest_19 ?_
    refine g_iconst C (nI 1) (by decide) dX3_rest_20 ?_
    refine g_icmp_ne C 29 dX3_rest_21 (by decide) (fun h21 => ?_) (fun h21 => ?_)
    · refine g_bipush C (nI 60) (by decide) dX3_rest_29 ?_
      exact g_ireti C (by unfold q_yr; rw [if_neg (show ¬ _ = nI 0 from h6), if_neg h21]) dX3_rest_31
    · refine g_bipush C (nI 15) (by decide) dX3_rest_24 ?_
      refine g_goto C 31 dX3_rest_26 (by decide) ?_
      exact g_ireti C (by unfold q_yr; rw [if_neg (show ¬ _ = nI 0 from h6), if_pos h21]) dX3_rest_31
  · refine g_bipush C (nI 30) (by decide) dX3_rest_9 ?_
    refine g_goto C 31 dX3_rest_11 (by decide) ?_
    exact g_ireti C (by unfold q_yr; rw [if_pos (show _ = nI 0 from h6)]) dX3_rest_31

set_option maxHeartbeats 4000000 in
set_option maxRecDepth 100000 in
theorem c_X3_isOld {l : Launch} {dC : Nat → ClassId} {dI : Nat → Nat → Nat} {cI cL cJ : ClassId} {o : Nat} {t : Nat → Nat} {A : RW} {i : Nat → Int32} {h : Int64} {p j : Nat} (hp : p < 40) (hj : j < 3) (hg : q_nz (A 0) 7 (p * 3 + j) ≠ -1) : Met l yX3_isOld (.code yX3_isOld cX3_isOld 3 (some .boolean) :: WG) (rmL 1) (va_Pc [.ref o, .int (nI p), .int (nI j)] (MDP dC dI cI cL cJ o t A i h)) (bq_S (.int (bI (¬ i 3 < q_eor (q_nz (A 0)) (p * 3 + j))))) 0 0 (fun _ => False) := by
  refine bq_of [some (.ref o), some (.int (nI p)), some (.int (nI j))] rfl rfl (Nat.le_of_ble_eq_true rfl) (by decide) ?_
  intro P_ E_ s M_ B_ T_ K_ C hv
  obtain ⟨hP, hK⟩ := hv
  refine g_aload0 C dX3_isOld_0 ?_
  refine g_get (ci := 3) (T := TX3) (N := 16) C inX3 hK hP 0 rfl rfl 6 (by decide) wf_X3_45 ⟨rfl, rfl, rfl⟩ rfl dX3_isOld_1 ?_
  refine g_aload0 C dX3_isOld_4 ?_
  refine g_get (ci := 3) (T := TX3) (N := 16) C inX3 hK hP 0 rfl rfl 0 (by decide) wf_X3_7 ⟨rfl, rfl, rfl⟩ rfl dX3_isOld_5 ?_
  refine g_sipush C (nI 280) (by decide) dX3_isOld_8 ?_
  refine g_iconst C (nI 3) (by decide) dX3_isOld_11 ?_
  refine g_iload1 C dX3_isOld_12 ?_
  refine g_imulN C dX3_isOld_13 ?_
  refine g_iaddN C dX3_isOld_14 ?_
  refine g_iload2 C dX3_isOld_15 ?_
  refine g_iaddN C dX3_isOld_16 ?_
  refine g_zal C hK hP (by omega) (zr8 (k := p * 3 + j) (by omega) (by omega) (hg)) dX3_isOld_17 ?_
  refine g_aload0 C dX3_isOld_18 ?_
  refine g_iload1 C dX3_isOld_19 ?_
  refine g_mcV1 C hK hP (c_X3_rest (by omega)) wl_X3_48 wi_X3_rest wv_X3_rest wc_X3_rest (by decide +kernel) ⟨rfl, rfl, by decide, by decide⟩ rfl (by simp [Value.category]) ⟨by decide, by decide⟩ dX3_isOld_20 ?_
  refine g_iadd C dX3_isOld_23 ?_
  have e3 : (p * 3 + j) / 3 = p := by omega
  refine g_icmp_lt C 31 dX3_isOld_24 (by decide) (fun h24 => ?_) (fun h24 => ?_)
  · refine g_iconst C (nI 0) (by decide) dX3_isOld_31 ?_
    exact g_iretz C (by unfold q_eor; rw [e3]; first | exact bI_t h24 | exact bI_f (fun z => z h24)) dX3_isOld_32
  · refine g_iconst C (nI 1) (by decide) dX3_isOld_27 ?_
    refine g_goto C 32 dX3_isOld_28 (by decide) ?_
    exact g_iretz C (by unfold q_eor; rw [e3]; first | exact bI_t h24 | exact bI_f (fun z => z h24)) dX3_isOld_32

set_option maxHeartbeats 4000000 in
set_option maxRecDepth 100000 in
theorem c_X3_fresh {l : Launch} {dC : Nat → ClassId} {dI : Nat → Nat → Nat} {cI cL cJ : ClassId} {o : Nat} {t : Nat → Nat} {A : RW} {i : Nat → Int32} {h : Int64} {p : Nat} (hp : p < 40) : Met l yX3_fresh (.code yX3_fresh cX3_fresh 4 (some .int) :: WG) (rmL 2) (va_Pc [.ref o, .int (nI p)] (MDP dC dI cI cL cJ o t A i h)) (bq_S (.int (nI (q_rsn (q_nz (A 0)) (i 3) p)))) 0 0 (fun _ => False) := by
  refine bq_of [some (.ref o), some (.int (nI p)), none, none] rfl rfl (Nat.le_of_ble_eq_true rfl) (by decide) ?_
  intro P_ E_ s M_ B_ T_ K_ C hv
  obtain ⟨hP, hK⟩ := hv
  refine g_iconst C (nI 0) (by decide) dX3_fresh_0 ?_
  refine g_istore2 C rfl dX3_fresh_1 ?_
  refine g_iconst C (nI 0) (by decide) dX3_fresh_2 ?_
  refine g_istore3 C rfl dX3_fresh_3 ?_
  refine g_lp2 (fun (j : Nat) (x : Nat) => j ≤ 3 ∧ x = q_cn (fun k => q_rst (q_nz (A 0)) (i 3) (p * 3 + k)) j) (fun (j : Nat) (x : Nat) => 3 - j) (fun (j : Nat) (x : Nat) => [some (.ref o), some (.int (nI p)), some (.int (nI x)), some (.int (nI j))]) 0 0 ⟨by omega, rfl⟩ rfl ?_
  rintro j x ⟨hj, hx⟩ ih
  try dsimp only at ih ⊢
  refine g_iload3 C dX3_fresh_4 ?_
  refine g_iconst C (nI 3) (by decide) dX3_fresh_5 ?_
  refine g_icmp_geN C (by omega) (by omega) 50 dX3_fresh_6 (by decide) (fun h6 => ?_) (fun h6 => ?_)
  · refine g_iload2 C dX3_fresh_50 ?_
    exact g_ireti C (by rw [hx, show j = 3 by omega]; rfl) dX3_fresh_51
  · refine g_iload2 C dX3_fresh_9 ?_
    refine g_aload0 C dX3_fresh_10 ?_
    refine g_get (ci := 3) (T := TX3) (N := 16) C inX3 hK hP 0 rfl rfl 0 (by decide) wf_X3_7 ⟨rfl, rfl, rfl⟩ rfl dX3_fresh_11 ?_
    refine g_sipush C (nI 160) (by decide) dX3_fresh_14 ?_
    refine g_iconst C (nI 3) (by decide) dX3_fresh_17 ?_
    refine g_iload1 C dX3_fresh_18 ?_
    refine g_imulN C dX3_fresh_19 ?_
    refine g_iaddN C dX3_fresh_20 ?_
    refine g_iload3 C dX3_fresh_21 ?_
    refine g_iaddN C dX3_fresh_22 ?_
    refine g_zal C hK hP (by omega) (zr7 (k := p * 3 + j) (by omega) (by omega)) dX3_fresh_23 ?_
    refine g_iconst C (-1) (by decide) dX3_fresh_24 ?_
    refine g_d2 (v := nI (if q_rst (q_nz (A 0)) (i 3) (p * 3 + j) then 1 else 0)) 42 (fun K25 => ?_) ?_
    · skip
      refine g_icmp_eq C 37 dX3_fresh_25 (by decide) (fun h25 => ?_) (fun h25 => ?_)
      · refine g_iconst C (nI 0) (by decide) dX3_fresh_37 ?_
        refine g_goto C 42 dX3_fresh_38 (by decide) ?_
        exact K25 _ (by rw [if_neg (fun z => z.1 h25)])
      · refine g_aload0 C dX3_fresh_28 ?_
        refine g_iload1 C dX3_fresh_29 ?_
        refine g_iload3 C dX3_fresh_30 ?_
        refine g_mcV2 C hK hP (c_X3_isOld (by omega) (by omega) (by assumption)) wl_X3_52 wi_X3_isOld wv_X3_isOld wc_X3_isOld (by decide +kernel) ⟨rfl, rfl, by decide, by decide⟩ rfl (by simp [Value.category]) ⟨by decide, by decide⟩ dX3_fresh_31 ?_
        refine g_if_eqB C 41 dX3_fresh_34 (by decide) (fun h34 => ?_) (fun h34 => ?_)
        · refine g_iconst C (nI 1) (by decide) dX3_fresh_41 ?_
          exact K25 _ (by rw [if_pos ⟨h25, Classical.byContradiction h34⟩])
        · refine g_iconst C (nI 0) (by decide) dX3_fresh_37 ?_
          refine g_goto C 42 dX3_fresh_38 (by decide) ?_
          exact K25 _ (by rw [if_neg (fun z => h34 z.2)])
    refine g_iaddN C dX3_fresh_42 ?_
    refine g_istore2 C rfl dX3_fresh_43 ?_
    refine g_iinc3 C _ rfl dX3_fresh_44 (nI_1 _) ?_
    refine g_goto C 4 dX3_fresh_47 (by decide) ?_
    exact ih (j + 1) _ ⟨by omega, by rw [hx]; rfl⟩ (by show 3 - (j + 1) < 3 - j; omega)

set_option maxHeartbeats 4000000 in
set_option maxRecDepth 100000 in
theorem c_X3_isKept {l : Launch} {dC : Nat → ClassId} {dI : Nat → Nat → Nat} {cI cL cJ : ClassId} {o : Nat} {t : Nat → Nat} {A : RW} {i : Nat → Int32} {h : Int64} {p : Nat} (hp : p < 40) : Met l yX3_isKept (.code yX3_isKept cX3_isKept 2 (some .boolean) :: WG) (rmL 0) (va_Pc [.ref o, .int (nI p)] (MDP dC dI cI cL cJ o t A i h)) (bq_S (.int (bI (q_kept (q_nz (A 0)) (i 3) p)))) 0 0 (fun _ => False) := by
  refine bq_of [some (.ref o), some (.int (nI p))] rfl rfl (Nat.le_of_ble_eq_true rfl) (by decide) ?_
  intro P_ E_ s M_ B_ T_ K_ C hv
  obtain ⟨hP, hK⟩ := hv
  refine g_aload0 C dX3_isKept_0 ?_
  refine g_get (ci := 3) (T := TX3) (N := 16) C inX3 hK hP 0 rfl rfl 0 (by decide) wf_X3_7 ⟨rfl, rfl, rfl⟩ rfl dX3_isKept_1 ?_
  refine g_bipush C (nI 80) (by decide) dX3_isKept_4 ?_
  refine g_iload1 C dX3_isKept_6 ?_
  refine g_iaddN C dX3_isKept_7 ?_
  refine g_zal C hK hP (by omega) (zr5 (k := p) (by omega) (by omega)) dX3_isKept_8 ?_
  refine g_iconst C (-1) (by decide) dX3_isKept_9 ?_
  refine g_icmp_eq C 33 dX3_isKept_10 (by decide) (fun h10 => ?_) (fun h10 => ?_)
  · refine g_iconst C (nI 0) (by decide) dX3_isKept_33 ?_
    exact g_iretz C (bI_f (fun z => z.1 h10)) dX3_isKept_34
  · refine g_aload0 C dX3_isKept_13 ?_
    refine g_get (ci := 3) (T := TX3) (N := 16) C inX3 hK hP 0 rfl rfl 6 (by decide) wf_X3_45 ⟨rfl, rfl, rfl⟩ rfl dX3_isKept_14 ?_
    refine g_aload0 C dX3_isKept_17 ?_
    refine g_get (ci := 3) (T := TX3) (N := 16) C inX3 hK hP 0 rfl rfl 0 (by decide) wf_X3_7 ⟨rfl, rfl, rfl⟩ rfl dX3_isKept_18 ?_
    refine g_bipush C (nI 120) (by decide) dX3_isKept_21 ?_
    refine g_iload1 C dX3_isKept_23 ?_
    refine g_iaddN C dX3_isKept_24 ?_
    refine g_zal C hK hP (by omega) (zr6 (k := p) (by omega) (by omega)) dX3_isKept_25 ?_
    refine g_icmp_gt C 33 dX3_isKept_26 (by decide) (fun h26 => ?_) (fun h26 => ?_)
    · refine g_iconst C (nI 0) (by decide) dX3_isKept_33 ?_
      exact g_iretz C (by first | exact bI_t ⟨h10, Int32.not_lt.mp h26⟩ | exact bI_f (fun z => absurd z.2 (Int32.not_le.mpr h26))) dX3_isKept_34
    · refine g_iconst C (nI 1) (by decide) dX3_isKept_29 ?_
      refine g_goto C 34 dX3_isKept_30 (by decide) ?_
      exact g_iretz C (by first | exact bI_t ⟨h10, Int32.not_lt.mp h26⟩ | exact bI_f (fun z => absurd z.2 (Int32.not_le.mpr h26))) dX3_isKept_34

set_option maxHeartbeats 4000000 in
set_option maxRecDepth 100000 in
theorem c_X3_holder {l : Launch} {dC : Nat → ClassId} {dI : Nat → Nat → Nat} {cI cL cJ : ClassId} {o : Nat} {t : Nat → Nat} {A : RW} {i : Nat → Int32} {h : Int64} {p : Nat} (hp : p < 40) : Met l yX3_holder (.code yX3_holder cX3_holder 3 (some .int) :: WG) (rmL 2) (va_Pc [.ref o, .int (nI p)] (MDP dC dI cI cL cJ o t A i h)) (bq_S (.int (q_hold (q_nz (A 0)) (i 3) p))) 0 0 (fun _ => False) := by
  refine bq_of [some (.ref o), some (.int (nI p)), none] rfl rfl (Nat.le_of_ble_eq_true rfl) (by decide) ?_
  intro P_ E_ s M_ B_ T_ K_ C hv
  obtain ⟨hP, hK⟩ := hv
  refine g_aload0 C dX3_holder_0 ?_
  refine g_get (ci := 3) (T := TX3) (N := 16) C inX3 hK hP 0 rfl rfl 0 (by decide) wf_X3_7 ⟨rfl, rfl, rfl⟩ rfl dX3_holder_1 ?_
  refine g_bipush C (nI 40) (by decide) dX3_holder_4 ?_
  refine g_iload1 C dX3_holder_6 ?_
  refine g_iaddN C dX3_holder_7 ?_
  refine g_zal C hK hP (by omega) (zr4 (k := p) (by omega) (by omega)) dX3_holder_8 ?_
  refine g_iconst C (-1) (by decide) dX3_holder_9 ?_
  refine g_icmp_eq C 23 dX3_holder_10 (by decide) (fun h10 => ?_) (fun h10 => ?_)
  · refine g_aload0 C dX3_holder_23 ?_
    refine g_iload1 C dX3_holder_24 ?_
    refine g_mcV1 C hK hP (c_X3_isKept (by omega)) wl_X3_56 wi_X3_isKept wv_X3_isKept wc_X3_isKept (by decide +kernel) ⟨rfl, rfl, by decide, by decide⟩ rfl (by simp [Value.category]) ⟨by decide, by decide⟩ dX3_holder_25 ?_
    refine g_if_eqB C 41 dX3_holder_28 (by decide) (fun h28 => ?_) (fun h28 => ?_)
    · refine g_iconst C (nI 0) (by decide) dX3_holder_41 ?_
      refine g_istore2 C rfl dX3_holder_42 ?_
      refine g_lp1 (fun (j : Nat) => j ≤ 3 ∧ ∀ k, k < j → ¬ q_rst (q_nz (A 0)) (i 3) (p * 3 + k)) (fun (j : Nat) => 3 - j) (fun (j : Nat) => [some (.ref o), some (.int (nI p)), some (.int (nI j))]) 0 ⟨by omega, fun k hk => absurd hk (Nat.not_lt_zero k)⟩ rfl ?_
      rintro j ⟨hj, hn⟩ ih
      try dsimp only at ih ⊢
      refine g_iload2 C dX3_holder_43 ?_
      refine g_iconst C (nI 3) (by decide) dX3_holder_44 ?_
      refine g_icmp_geN C (by omega) (by omega) 96 dX3_holder_45 (by decide) (fun h45 => ?_) (fun h45 => ?_)
      · refine g_iconst C (-1) (by decide) dX3_holder_96 ?_
        exact g_ireti C (by simp only [q_hold]; rw [if_neg (fun z => z h10), if_neg h28, if_neg (hn 0 (by omega)), if_neg (hn 1 (by omega)), if_neg (hn 2 (by omega))]) dX3_holder_97
      · refine g_aload0 C dX3_holder_48 ?_
        refine g_get (ci := 3) (T := TX3) (N := 16) C inX3 hK hP 0 rfl rfl 0 (by decide) wf_X3_7 ⟨rfl, rfl, rfl⟩ rfl dX3_holder_49 ?_
        refine g_sipush C (nI 160) (by decide) dX3_holder_52 ?_
        refine g_iconst C (nI 3) (by decide) dX3_holder_55 ?_
        refine g_iload1 C dX3_holder_56 ?_
        refine g_imulN C dX3_holder_57 ?_
        refine g_iaddN C dX3_holder_58 ?_
        refine g_iload2 C dX3_holder_59 ?_
        refine g_iaddN C dX3_holder_60 ?_
        refine g_zal C hK hP (by omega) (zr7 (k := p * 3 + j) (by omega) (by omega)) dX3_holder_61 ?_
        refine g_iconst C (-1) (by decide) dX3_holder_62 ?_
        refine g_icmp_eq C 90 dX3_holder_63 (by decide) (fun h63 => ?_) (fun h63 => ?_)
        · refine g_iinc2 C _ rfl dX3_holder_90 (nI_1 _) ?_
          refine g_goto C 43 dX3_holder_93 (by decide) ?_
          exact ih (j + 1) ⟨by omega, lt_s hn (fun z => z.1 h63)⟩ (by show 3 - (j + 1) < 3 - j; omega)
        · refine g_aload0 C dX3_holder_66 ?_
          refine g_iload1 C dX3_holder_67 ?_
          refine g_iload2 C dX3_holder_68 ?_
          refine g_mcV2 C hK hP (c_X3_isOld (by omega) (by omega) (by assumption)) wl_X3_52 wi_X3_isOld wv_X3_isOld wc_X3_isOld (by decide +kernel) ⟨rfl, rfl, by decide, by decide⟩ rfl (by simp [Value.category]) ⟨by decide, by decide⟩ dX3_holder_69 ?_
          refine g_if_neB C 90 dX3_holder_72 (by decide) (fun h72 => ?_) (fun h72 => ?_)
          · refine g_iinc2 C _ rfl dX3_holder_90 (nI_1 _) ?_
            refine g_goto C 43 dX3_holder_93 (by decide) ?_
            exact ih (j + 1) ⟨by omega, lt_s hn (fun z => h72 z.2)⟩ (by show 3 - (j + 1) < 3 - j; omega)
          · refine g_aload0 C dX3_holder_75 ?_
            refine g_get (ci := 3) (T := TX3) (N := 16) C inX3 hK hP 0 rfl rfl 0 (by decide) wf_X3_7 ⟨rfl, rfl, rfl⟩ rfl dX3_holder_76 ?_
            refine g_sipush C (nI 160) (by decide) dX3_holder_79 ?_
            refine g_iconst C (nI 3) (by decide) dX3_holder_82 ?_
            refine g_iload1 C dX3_holder_83 ?_
            refine g_imulN C dX3_holder_84 ?_
            refine g_iaddN C dX3_holder_85 ?_
            refine g_iload2 C dX3_holder_86 ?_
            refine g_iaddN C dX3_holder_87 ?_
            refine g_zal C hK hP (by omega) (zr7 (k := p * 3 + j) (by omega) (by omega)) dX3_holder_88 ?_
            exact g_ireti C (by simp only [q_hold]; rw [if_neg (fun z => z h10), if_neg h28]; have h9 : q_rst (q_nz (A 0)) (i 3) (p * 3 + j) := ⟨h63, Classical.byContradiction h72⟩; rcases (show j = 0 ∨ j = 1 ∨ j = 2 by omega) with rfl | rfl | rfl <;> first | (rw [if_pos h9]; done) | (rw [if_neg (hn 0 (by omega)), if_pos h9]; done) | (rw [if_neg (hn 0 (by omega)), if_neg (hn 1 (by omega)), if_pos h9]; done)) dX3_holder_89
    · refine g_aload0 C dX3_holder_31 ?_
      refine g_get (ci := 3) (T := TX3) (N := 16) C inX3 hK hP 0 rfl rfl 0 (by decide) wf_X3_7 ⟨rfl, rfl, rfl⟩ rfl dX3_holder_32 ?_
      refine g_bipush C (nI 80) (by decide) dX3_holder_35 ?_
      refine g_iload1 C dX3_holder_37 ?_
      refine g_iaddN C dX3_holder_38 ?_
      refine g_zal C hK hP (by omega) (zr5 (k := p) (by omega) (by omega)) dX3_holder_39 ?_
      exact g_ireti C (by simp only [q_hold]; rw [if_neg (fun z => z h10), if_pos h28]) dX3_holder_40
  · refine g_aload0 C dX3_holder_13 ?_
    refine g_get (ci := 3) (T := TX3) (N := 16) C inX3 hK hP 0 rfl rfl 0 (by decide) wf_X3_7 ⟨rfl, rfl, rfl⟩ rfl dX3_holder_14 ?_
    refine g_bipush C (nI 40) (by decide) dX3_holder_17 ?_
    refine g_iload1 C dX3_holder_19 ?_
    refine g_iaddN C dX3_holder_20 ?_
    refine g_zal C hK hP (by omega) (zr4 (k := p) (by omega) (by omega)) dX3_holder_21 ?_
    exact g_ireti C (by simp [q_hold, h10]) dX3_holder_22

set_option maxHeartbeats 4000000 in
set_option maxRecDepth 100000 in
theorem c_X3_isOthers {l : Launch} {dC : Nat → ClassId} {dI : Nat → Nat → Nat} {cI cL cJ : ClassId} {o : Nat} {t : Nat → Nat} {A : RW} {i : Nat → Int32} {h : Int64} {p : Nat} {fv : Int32} (hp : p < 40) : Met l yX3_isOthers (.code yX3_isOthers cX3_isOthers 3 (some .boolean) :: WG) (rmL 3) (va_Pc [.ref o, .int fv, .int (nI p)] (MDP dC dI cI cL cJ o t A i h)) (bq_S (.int (bI (q_oth (q_hold (q_nz (A 0)) (i 3) p) fv)))) 0 0 (fun _ => False) := by
  refine bq_of [some (.ref o), some (.int fv), some (.int (nI p))] rfl rfl (Nat.le_of_ble_eq_true rfl) (by decide) ?_
  intro P_ E_ s M_ B_ T_ K_ C hv
  obtain ⟨hP, hK⟩ := hv
  refine g_aload0 C dX3_isOthers_0 ?_
  refine g_iload2 C dX3_isOthers_1 ?_
  refine g_mcV1 C hK hP (c_X3_holder (by omega)) wl_X3_60 wi_X3_holder wv_X3_holder wc_X3_holder (by decide +kernel) ⟨rfl, rfl, by decide, by decide⟩ rfl (by simp [Value.category]) ⟨by decide, by decide⟩ dX3_isOthers_2 ?_
  refine g_iconst C (-1) (by decide) dX3_isOthers_5 ?_
  refine g_icmp_eq C 22 dX3_isOthers_6 (by decide) (fun h6 => ?_) (fun h6 => ?_)
  · refine g_iconst C (nI 0) (by decide) dX3_isOthers_22 ?_
    exact g_iretz C (by simp [bI, q_oth, h6]) dX3_isOthers_23
  · refine g_aload0 C dX3_isOthers_9 ?_
    refine g_iload2 C dX3_isOthers_10 ?_
    refine g_mcV1 C hK hP (c_X3_holder (by omega)) wl_X3_60 wi_X3_holder wv_X3_holder wc_X3_holder (by decide +kernel) ⟨rfl, rfl, by decide, by decide⟩ rfl (by simp [Value.category]) ⟨by decide, by decide⟩ dX3_isOthers_11 ?_
    refine g_iload1 C dX3_isOthers_14 ?_
    refine g_icmp_eq C 22 dX3_isOthers_15 (by decide) (fun h15 => ?_) (fun h15 => ?_)
    · refine g_iconst C (nI 0) (by decide) dX3_isOthers_22 ?_
      exact g_iretz C (by simp [bI, q_oth, h6, h15]) dX3_isOthers_23
    · refine g_iconst C (nI 1) (by decide) dX3_isOthers_18 ?_
      refine g_goto C 23 dX3_isOthers_19 (by decide) ?_
      exact g_iretz C (by simp [bI, q_oth, h6, h15]) dX3_isOthers_23

set_option maxHeartbeats 4000000 in
set_option maxRecDepth 100000 in
theorem c_X3_deep {l : Launch} {dC : Nat → ClassId} {dI : Nat → Nat → Nat} {cI cL cJ : ClassId} {o : Nat} {t : Nat → Nat} {A : RW} {i : Nat → Int32} {h : Int64} {p : Nat} (hp : p < 40) (hki : INV (q_nz (A 0))) : Met l yX3_deep (.code yX3_deep cX3_deep 2 (some .int) :: WG) (rmL 0) (va_Pc [.ref o, .int (nI p)] (MDP dC dI cI cL cJ o t A i h)) (bq_S (.int (nI (q_gd (q_nz (A 0)) p)))) 0 0 (fun _ => False) := by
  refine bq_of [some (.ref o), some (.int (nI p))] rfl rfl (Nat.le_of_ble_eq_true rfl) (by decide) ?_
  intro P_ E_ s M_ B_ T_ K_ C hv
  obtain ⟨hP, hK⟩ := hv
  refine g_aload0 C dX3_deep_0 ?_
  refine g_get (ci := 3) (T := TX3) (N := 16) C inX3 hK hP 0 rfl rfl 0 (by decide) wf_X3_7 ⟨rfl, rfl, rfl⟩ rfl dX3_deep_1 ?_
  refine g_iload1 C dX3_deep_4 ?_
  refine g_zal C hK hP (by omega) (zr3 (k := p) (by omega) (by omega)) dX3_deep_5 ?_
  refine g_iconst C (nI 3) (by decide) dX3_deep_6 ?_
  refine g_icmp_ne C 14 dX3_deep_7 (by decide) (fun h7 => ?_) (fun h7 => ?_)
  · refine g_aload0 C dX3_deep_14 ?_
    refine g_get (ci := 3) (T := TX3) (N := 16) C inX3 hK hP 0 rfl rfl 0 (by decide) wf_X3_7 ⟨rfl, rfl, rfl⟩ rfl dX3_deep_15 ?_
    refine g_bipush C (nI 40) (by decide) dX3_deep_18 ?_
    refine g_iload1 C dX3_deep_20 ?_
    refine g_iaddN C dX3_deep_21 ?_
    refine g_zal C hK hP (by omega) (zr4 (k := p) (by omega) (by omega)) dX3_deep_22 ?_
    refine g_iconst C (-1) (by decide) dX3_deep_23 ?_
    refine g_icmp_ne C 36 dX3_deep_24 (by decide) (fun h24 => ?_) (fun h24 => ?_)
    · refine g_iconst C (nI 3) (by decide) dX3_deep_36 ?_
      refine g_goto C 55 dX3_deep_37 (by decide) ?_
      exact g_ireti C (by obtain ⟨kd, hkd, ekd⟩ := hki.1 p hp; have hv3 := hki.2.2.1 p hp; unfold q_gd; by_cases hv : q_nz (A 0) 4 p = -1 <;> rcases (show kd = 0 ∨ kd = 1 ∨ kd = 2 ∨ kd = 3 by omega) with rfl | rfl | rfl | rfl <;> simp_all (decide := true)) dX3_deep_55
    · refine g_aload0 C dX3_deep_27 ?_
      refine g_get (ci := 3) (T := TX3) (N := 16) C inX3 hK hP 0 rfl rfl 0 (by decide) wf_X3_7 ⟨rfl, rfl, rfl⟩ rfl dX3_deep_28 ?_
      refine g_iload1 C dX3_deep_31 ?_
      refine g_zal C hK hP (by omega) (zr3 (k := p) (by omega) (by omega)) dX3_deep_32 ?_
      refine g_if_ne C 40 dX3_deep_33 (by decide) (fun h33 => ?_) (fun h33 => ?_)
      · refine g_aload0 C dX3_deep_40 ?_
        refine g_get (ci := 3) (T := TX3) (N := 16) C inX3 hK hP 0 rfl rfl 0 (by decide) wf_X3_7 ⟨rfl, rfl, rfl⟩ rfl dX3_deep_41 ?_
        refine g_iload1 C dX3_deep_44 ?_
        refine g_zal C hK hP (by omega) (zr3 (k := p) (by omega) (by omega)) dX3_deep_45 ?_
        refine g_iconst C (nI 1) (by decide) dX3_deep_46 ?_
        refine g_icmp_ne C 54 dX3_deep_47 (by decide) (fun h47 => ?_) (fun h47 => ?_)
        · refine g_iconst C (nI 1) (by decide) dX3_deep_54 ?_
          exact g_ireti C (by obtain ⟨kd, hkd, ekd⟩ := hki.1 p hp; have hv3 := hki.2.2.1 p hp; unfold q_gd; by_cases hv : q_nz (A 0) 4 p = -1 <;> rcases (show kd = 0 ∨ kd = 1 ∨ kd = 2 ∨ kd = 3 by omega) with rfl | rfl | rfl | rfl <;> simp_all (decide := true)) dX3_deep_55
        · refine g_iconst C (nI 2) (by decide) dX3_deep_50 ?_
          refine g_goto C 55 dX3_deep_51 (by decide) ?_
          exact g_ireti C (by obtain ⟨kd, hkd, ekd⟩ := hki.1 p hp; have hv3 := hki.2.2.1 p hp; unfold q_gd; by_cases hv : q_nz (A 0) 4 p = -1 <;> rcases (show kd = 0 ∨ kd = 1 ∨ kd = 2 ∨ kd = 3 by omega) with rfl | rfl | rfl | rfl <;> simp_all (decide := true)) dX3_deep_55
      · refine g_iconst C (nI 3) (by decide) dX3_deep_36 ?_
        refine g_goto C 55 dX3_deep_37 (by decide) ?_
        exact g_ireti C (by obtain ⟨kd, hkd, ekd⟩ := hki.1 p hp; have hv3 := hki.2.2.1 p hp; unfold q_gd; by_cases hv : q_nz (A 0) 4 p = -1 <;> rcases (show kd = 0 ∨ kd = 1 ∨ kd = 2 ∨ kd = 3 by omega) with rfl | rfl | rfl | rfl <;> simp_all (decide := true)) dX3_deep_55
  · refine g_iconst C (nI 0) (by decide) dX3_deep_10 ?_
    refine g_goto C 55 dX3_deep_11 (by decide) ?_
    exact g_ireti C (by obtain ⟨kd, hkd, ekd⟩ := hki.1 p hp; have hv3 := hki.2.2.1 p hp; unfold q_gd; by_cases hv : q_nz (A 0) 4 p = -1 <;> rcases (show kd = 0 ∨ kd = 1 ∨ kd = 2 ∨ kd = 3 by omega) with rfl | rfl | rfl | rfl <;> simp_all (decide := true)) dX3_deep_55

set_option maxHeartbeats 4000000 in
set_option maxRecDepth 100000 in
theorem c_X3_beside {l : Launch} {p side : Nat} (hp : p < 40) (hs4 : side ≤ 3) : Met l yX3_beside (.code yX3_beside cX3_beside 2 (some .int) :: WG) (rmL 0) (va_Pc [.int (nI p), .int (nI side)] (fun _ => True)) (bq_S (.int (oN (q_bsd p side)))) 0 0 (fun _ => False) := by
  refine bq_of [some (.int (nI p)), some (.int (nI side))] rfl rfl (Nat.le_of_ble_eq_true rfl) (by decide) ?_
  intro P_ E_ s M_ B_ T_ K_ C hv
  refine g_iload1 C dX3_beside_0 ?_
  rcases (show side = 0 ∨ side = 1 ∨ side = 2 ∨ side = 3 by omega) with rfl | rfl | rfl | rfl
  · refine g_tsI C 28 dX3_beside_1 (by decide) (by decide) rfl (by decide) ?_
    refine g_iload0 C dX3_beside_28 ?_
    refine g_bipush C (nI 8) (by decide) dX3_beside_29 ?_
    refine g_icmp_geN C (by omega) (by omega) 38 dX3_beside_31 (by decide) (fun h31 => ?_) (fun h31 => ?_)
    · refine g_iload0 C dX3_beside_38 ?_
      refine g_bipush C (nI 8) (by decide) dX3_beside_39 ?_
      refine g_isubN C (by omega) dX3_beside_41 ?_
      exact g_ireti C (by show _ = oN (if p < 8 then none else some (p - 8)); first | (rw [if_pos (by omega)]; rfl) | (rw [if_neg (by omega)]; rfl)) dX3_beside_42
    · refine g_iconst C (-1) (by decide) dX3_beside_34 ?_
      refine g_goto C 42 dX3_beside_35 (by decide) ?_
      exact g_ireti C (by show _ = oN (if p < 8 then none else some (p - 8)); first | (rw [if_pos (by omega)]; rfl) | (rw [if_neg (by omega)]; rfl)) dX3_beside_42
  · refine g_tsI C 43 dX3_beside_1 (by decide) (by decide) rfl (by decide) ?_
    refine g_iload0 C dX3_beside_43 ?_
    refine g_bipush C (nI 8) (by decide) dX3_beside_44 ?_
    refine g_iremN C (by omega) (by omega) (by omega) dX3_beside_46 ?_
    refine g_bipush C (nI 7) (by decide) dX3_beside_47 ?_
    refine g_icmp_neN C (by omega) (by omega) 56 dX3_beside_49 (by decide) (fun h49 => ?_) (fun h49 => ?_)
    · refine g_iload0 C dX3_beside_56 ?_
      refine g_iconst C (nI 1) (by decide) dX3_beside_57 ?_
      refine g_iaddN C dX3_beside_58 ?_
      exact g_ireti C (by show _ = oN (if p % 8 = 7 then none else some (p + 1)); first | (rw [if_pos (by omega)]; rfl) | (rw [if_neg (by omega)]; rfl)) dX3_beside_59
    · refine g_iconst C (-1) (by decide) dX3_beside_52 ?_
      refine g_goto C 59 dX3_beside_53 (by decide) ?_
      exact g_ireti C (by show _ = oN (if p % 8 = 7 then none else some (p + 1)); first | (rw [if_pos (by omega)]; rfl) | (rw [if_neg (by omega)]; rfl)) dX3_beside_59
  · refine g_tsI C 60 dX3_beside_1 (by decide) (by decide) rfl (by decide) ?_
    refine g_iload0 C dX3_beside_60 ?_
    refine g_bipush C (nI 31) (by decide) dX3_beside_61 ?_
    refine g_icmp_leN C (by omega) (by omega) 70 dX3_beside_63 (by decide) (fun h63 => ?_) (fun h63 => ?_)
    · refine g_iload0 C dX3_beside_70 ?_
      refine g_bipush C (nI 8) (by decide) dX3_beside_71 ?_
      refine g_iaddN C dX3_beside_73 ?_
      exact g_ireti C (by show _ = oN (if 31 < p then none else some (p + 8)); first | (rw [if_pos (by omega)]; rfl) | (rw [if_neg (by omega)]; rfl)) dX3_beside_74
    · refine g_iconst C (-1) (by decide) dX3_beside_66 ?_
      refine g_goto C 74 dX3_beside_67 (by decide) ?_
      exact g_ireti C (by show _ = oN (if 31 < p then none else some (p + 8)); first | (rw [if_pos (by omega)]; rfl) | (rw [if_neg (by omega)]; rfl)) dX3_beside_74
  · refine g_tsO C 75 dX3_beside_1 (by decide) (by decide) ?_
    refine g_iload0 C dX3_beside_75 ?_
    refine g_bipush C (nI 8) (by decide) dX3_beside_76 ?_
    refine g_iremN C (by omega) (by omega) (by omega) dX3_beside_78 ?_
    refine g_if_neN C (by omega) 86 dX3_beside_79 (by decide) (fun h79 => ?_) (fun h79 => ?_)
    · refine g_iload0 C dX3_beside_86 ?_
      refine g_iconst C (nI 1) (by decide) dX3_beside_87 ?_
      refine g_isubN C (by omega) dX3_beside_88 ?_
      exact g_ireti C (by show _ = oN (if p % 8 = 0 then none else some (p - 1)); first | (rw [if_pos (by omega)]; rfl) | (rw [if_neg (by omega)]; rfl)) dX3_beside_89
    · refine g_iconst C (-1) (by decide) dX3_beside_82 ?_
      refine g_goto C 89 dX3_beside_83 (by decide) ?_
      exact g_ireti C (by show _ = oN (if p % 8 = 0 then none else some (p - 1)); first | (rw [if_pos (by omega)]; rfl) | (rw [if_neg (by omega)]; rfl)) dX3_beside_89

set_option maxHeartbeats 4000000 in
set_option maxRecDepth 100000 in
theorem c_X3_isReached {l : Launch} {dC : Nat → ClassId} {dI : Nat → Nat → Nat} {cI cL cJ : ClassId} {o : Nat} {t : Nat → Nat} {A : RW} {i : Nat → Int32} {h : Int64} {p : Nat} (hp : p < 40) : Met l yX3_isReached (.code yX3_isReached cX3_isReached 5 (some .boolean) :: WG) (rmL 1) (va_Pc [.ref o, .int (nI p)] (MDP dC dI cI cL cJ o t A i h)) (bq_S (.int (bI (q_wr (A 3) p = true)))) 0 0 (fun _ => False) := by
  refine bq_of [some (.ref o), some (.int (nI p)), none, none, none] rfl rfl (Nat.le_of_ble_eq_true rfl) (by decide) ?_
  intro P_ E_ s M_ B_ T_ K_ C hv
  obtain ⟨hP, hK⟩ := hv
  refine g_iload1 C dX3_isReached_0 ?_
  refine g_d1 (v := bI (q_wn (A 3) p 0 = true)) 9 (fun K1 => ?_) ?_
  · skip
    refine g_if_neN C (by omega) 8 dX3_isReached_1 (by decide) (fun h1 => ?_) (fun h1 => ?_)
    · refine g_iconst C (nI 0) (by decide) dX3_isReached_8 ?_
      exact K1 _ (by simp [bI, q_wn, h1])
    · refine g_iconst C (nI 1) (by decide) dX3_isReached_4 ?_
      refine g_goto C 9 dX3_isReached_5 (by decide) ?_
      exact K1 _ (by simp [bI, q_wn, h1])
  refine g_istore2 C rfl dX3_isReached_9 ?_
  refine g_iconst C (nI 0) (by decide) dX3_isReached_10 ?_
  refine g_istore3 C rfl dX3_isReached_11 ?_
  refine g_lp1 (fun (j : Nat) => j ≤ 4) (fun (j : Nat) => 4 - j) (fun (j : Nat) => [some (.ref o), some (.int (nI p)), some (.int (bI (q_wn (A 3) p j = true))), some (.int (nI j)), none]) 0 (by omega) rfl ?_
  rintro j hj ih
  try dsimp only at ih ⊢
  refine g_iload3 C dX3_isReached_12 ?_
  refine g_iconst C (nI 4) (by decide) dX3_isReached_13 ?_
  refine g_icmp_geN C (by omega) (by omega) 57 dX3_isReached_14 (by decide) (fun h14 => ?_) (fun h14 => ?_)
  · refine g_iload2 C dX3_isReached_57 ?_
    exact g_iretz C (by rw [show j = 4 by omega]; rfl) dX3_isReached_58
  · refine g_iload1 C dX3_isReached_17 ?_
    refine g_iload3 C dX3_isReached_18 ?_
    refine g_scS2 C (c_X3_beside (by omega) (by omega)) wl_X3_63 wt_X3_beside wn_X3 wc_X3_beside (by decide +kernel) ⟨rfl, rfl, by decide, by decide⟩ rfl (by simp [Value.category]) ⟨by decide, by decide⟩ dX3_isReached_19 ?_
    refine g_istore4 C rfl dX3_isReached_22 ?_
    refine g_iload2 C dX3_isReached_24 ?_
    refine g_d1 (v := bI (q_wn (A 3) p (j + 1) = true)) 50 (fun K25 => ?_) ?_
    · skip
      refine g_if_neB C 45 dX3_isReached_25 (by decide) (fun h25 => ?_) (fun h25 => ?_)
      · refine g_iconst C (nI 1) (by decide) dX3_isReached_45 ?_
        refine g_goto C 50 dX3_isReached_46 (by decide) ?_
        exact K25 _ (by exact bI_t (by simp only [q_wn, h25, Bool.true_or]))
      · refine g_iload4 C dX3_isReached_28 ?_
        refine g_iconst C (-1) (by decide) dX3_isReached_30 ?_
        refine g_icmp_eq C 49 dX3_isReached_31 (by decide) (fun h31 => ?_) (fun h31 => ?_)
        · refine g_iconst C (nI 0) (by decide) dX3_isReached_49 ?_
          exact K25 _ (by exact bI_f (by have hn := (oN_n (fun b hb => q_bsd_lt hp hb)).mp h31; simp only [q_wn, hn, q_w1, Bool.or_false]; exact h25))
        · have ho : ∃ q, q_bsd p j = some q := by cases hq : q_bsd p j with | none => rw [hq] at h31; exact absurd rfl h31 | some q => exact ⟨q, rfl⟩
          obtain ⟨q, hq⟩ := ho
          have hq40 := q_bsd_lt hp hq
          refine g_aload0 C dX3_isReached_34 ?_
          refine g_get (ci := 3) (T := TX3) (N := 16) C inX3 hK hP 0 rfl rfl 7 (by decide) wf_X3_19 ⟨rfl, rfl, rfl⟩ rfl dX3_isReached_35 ?_
          refine g_iload4 C dX3_isReached_38 ?_
          refine g_top (y := nI q) (by rw [hq]; rfl) ?_
          refine g_iald C hK hP 4 0 rfl rfl ((by omega : q < 40)) (by decide) dX3_isReached_40 ?_
          refine g_iconst C (nI 1) (by decide) dX3_isReached_41 ?_
          refine g_icmp_ne C 49 dX3_isReached_42 (by decide) (fun h42 => ?_) (fun h42 => ?_)
          · refine g_iconst C (nI 0) (by decide) dX3_isReached_49 ?_
            exact K25 _ (by exact bI_f (by simp [q_wn, h25, hq, q_w1, h42]))
          · refine g_iconst C (nI 1) (by decide) dX3_isReached_45 ?_
            refine g_goto C 50 dX3_isReached_46 (by decide) ?_
            exact K25 _ (by exact bI_t (by simp [q_wn, h25, hq, q_w1, h42]))
    refine g_istore2 C rfl dX3_isReached_50 ?_
    refine g_iinc3 C _ rfl dX3_isReached_51 (nI_1 _) ?_
    refine g_goto C 12 dX3_isReached_54 (by decide) ?_
    refine g_fg4 ?_
    exact ih (j + 1) (by omega) (by show 4 - (j + 1) < 4 - j; omega)

set_option maxHeartbeats 4000000 in
set_option maxRecDepth 100000 in
theorem c_X3_highest {l : Launch} {dC : Nat → ClassId} {dI : Nat → Nat → Nat} {cI cL cJ : ClassId} {o : Nat} {t : Nat → Nat} {A : RW} {i : Nat → Int32} {h : Int64} {p : Nat} (hp : p < 40) : Met l yX3_highest (.code yX3_highest cX3_highest 4 (some .int) :: WG) (rmL 0) (va_Pc [.ref o, .int (nI p)] (MDP dC dI cI cL cJ o t A i h)) (bq_S (.int (nI (q_free (q_nz (A 0)) p + 1)))) 0 0 (fun _ => False) := by
  refine bq_of [some (.ref o), some (.int (nI p)), none, none] rfl rfl (Nat.le_of_ble_eq_true rfl) (by decide) ?_
  intro P_ E_ s M_ B_ T_ K_ C hv
  obtain ⟨hP, hK⟩ := hv
  refine g_iconst C (nI 4) (by decide) dX3_highest_0 ?_
  refine g_istore2 C rfl dX3_highest_1 ?_
  refine g_iconst C (nI 2) (by decide) dX3_highest_2 ?_
  refine g_istore3 C rfl dX3_highest_3 ?_
  refine g_lp2 (fun (j : Nat) (x : Nat) => j ≤ 3 ∧ x = q_hi (q_nz (A 0)) p j) (fun (j : Nat) (x : Nat) => j) (fun (j : Nat) (x : Nat) => [some (.ref o), some (.int (nI p)), some (.int (nI x)), some (.int (nJ j))]) 3 4 ⟨by omega, rfl⟩ rfl ?_
  rintro j x ⟨hj, hx⟩ ih
  try dsimp only at ih ⊢
  refine g_iload3 C dX3_highest_4 ?_
  refine g_if_lt C 40 dX3_highest_5 (by decide) (fun h5 => ?_) (fun h5 => ?_)
  · have hj0 : j = 0 := nJ_zero (by omega) h5
    refine g_iload2 C dX3_highest_40 ?_
    exact g_ireti C (by rw [hx, hj0]; exact congrArg nI (q_hi_free _ _)) dX3_highest_41
  · have hj0 : ∃ j2, j = j2 + 1 := ⟨j - 1, by rcases Nat.eq_zero_or_pos j with h0 | h0 <;> first | (subst h0; exact absurd (by decide) h5) | omega⟩
    obtain ⟨j, rfl⟩ := hj0
    refine g_aload0 C dX3_highest_8 ?_
    refine g_get (ci := 3) (T := TX3) (N := 16) C inX3 hK hP 0 rfl rfl 0 (by decide) wf_X3_7 ⟨rfl, rfl, rfl⟩ rfl dX3_highest_9 ?_
    refine g_sipush C (nI 160) (by decide) dX3_highest_12 ?_
    refine g_iconst C (nI 3) (by decide) dX3_highest_15 ?_
    refine g_iload1 C dX3_highest_16 ?_
    refine g_imulN C dX3_highest_17 ?_
    refine g_iaddN C dX3_highest_18 ?_
    refine g_iload3 C dX3_highest_19 ?_
    refine g_iaddN C dX3_highest_20 ?_
    refine g_zal C hK hP (by omega) (zr7 (k := p * 3 + j) (by omega) (by omega)) dX3_highest_21 ?_
    refine g_iconst C (-1) (by decide) dX3_highest_22 ?_
    refine g_d2 (v := nI (if (q_nz (A 0)) 7 (p * 3 + j) = -1 then x else j + 1)) 33 (fun K23 => ?_) ?_
    · skip
      refine g_icmp_ne C 30 dX3_highest_23 (by decide) (fun h23 => ?_) (fun h23 => ?_)
      · refine g_iload3 C dX3_highest_30 ?_
        refine g_iconst C (nI 1) (by decide) dX3_highest_31 ?_
        refine g_iaddN C dX3_highest_32 ?_
        exact K23 _ (by simp [h23])
      · refine g_iload2 C dX3_highest_26 ?_
        refine g_goto C 33 dX3_highest_27 (by decide) ?_
        exact K23 _ (by simp [h23])
    refine g_istore2 C rfl dX3_highest_33 ?_
    refine g_iinc3 C (nJ j) rfl dX3_highest_34 (nJ_dec j (by omega)) ?_
    refine g_goto C 4 dX3_highest_37 (by decide) ?_
    exact ih j _ ⟨by omega, by rw [q_hi_s _ _ _ (by omega), hx]⟩ (by show j < j + 1; omega)
