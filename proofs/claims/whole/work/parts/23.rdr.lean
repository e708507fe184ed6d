set_option maxHeartbeats 4000000 in
set_option maxRecDepth 100000 in
theorem c_X0_isDigit {l : Launch} {c : Nat} (hc : c < 127) : Met l yX0_isDigit (.code yX0_isDigit cX0_isDigit 1 (some .boolean) :: WG) (rmL 0) (va_Pc [.int (nI c)] (fun _ => True)) (bq_S (.int (bI (q_dg c)))) 0 0 (fun _ => False) := by
  refine bq_of [some (.int (nI c))] rfl rfl (Nat.le_of_ble_eq_true rfl) (by decide) ?_
  intro P_ E_ s M_ B_ T_ K_ C hv
  refine g_iload0 C dX0_isDigit_0 ?_
  refine g_bipush C (nI 48) (by decide) dX0_isDigit_1 ?_
  refine g_icmp_ltN C (by omega) (by omega) 16 dX0_isDigit_3 (by decide) (fun h3 => ?_) (fun h3 => ?_)
  · refine g_iconst C (nI 0) (by decide) dX0_isDigit_16 ?_
    exact g_iretz C (by first | exact bI_t ⟨by omega, by omega⟩ | exact bI_f (by omega)) dX0_isDigit_17
  · refine g_iload0 C dX0_isDigit_6 ?_
    refine g_bipush C (nI 57) (by decide) dX0_isDigit_7 ?_
    refine g_icmp_gtN C (by omega) (by omega) 16 dX0_isDigit_9 (by decide) (fun h9 => ?_) (fun h9 => ?_)
    · refine g_iconst C (nI 0) (by decide) dX0_isDigit_16 ?_
      exact g_iretz C (by first | exact bI_t ⟨by omega, by omega⟩ | exact bI_f (by omega)) dX0_isDigit_17
    · refine g_iconst C (nI 1) (by decide) dX0_isDigit_12 ?_
      refine g_goto C 17 dX0_isDigit_13 (by decide) ?_
      exact g_iretz C (by first | exact bI_t ⟨by omega, by omega⟩ | exact bI_f (by omega)) dX0_isDigit_17

set_option maxHeartbeats 4000000 in
set_option maxRecDepth 100000 in
theorem c_X0_takeLetter {l : Launch} {dC : Nat → ClassId} {dI : Nat → Nat → Nat} {cI cL cJ : ClassId} {e st rs fm nm : Nat} {pl : Option Nat} (hx : PSok (st, rs, fm, pl, nm)) {c : Nat} (hc : c < 127) : Met l yX0_takeLetter (.code yX0_takeLetter cX0_takeLetter 2 (some .boolean) :: WG) (rmL 1) (va_Pc [.ref e, .int (nI c)] (XDM dC dI cI cL cJ e (st, rs, fm, pl, nm))) (bq_M (some (.int (bI ((q_tL (st, rs, fm, pl, nm) c).isSome = true)))) (fun H => va_P (dC, dI) vwCl (XW e ((q_tL (st, rs, fm, pl, nm) c).getD (st, rs, fm, pl, nm))) H) (fun q => q = e)) 0 0 ((fun q => q = e)) := by
  refine bq_of [some (.ref e), some (.int (nI c))] rfl rfl (Nat.le_of_ble_eq_true rfl) (by decide) ?_
  intro P_ E_ s M_ B_ T_ K_ C hv
  obtain ⟨hP, hD, hK⟩ := hv
  have hS : va_S (fun q => q = e) s.heap s.heap [] := va_S.rf
  obtain ⟨hx1, hx2, hx3, hx4, hx5⟩ := hx
  simp only at hx1 hx2 hx3 hx4 hx5
  refine g_iload1 C dX0_takeLetter_0 ?_
  refine g_bipush C (nI 98) (by decide) dX0_takeLetter_1 ?_
  refine g_icmp_eqN C (by omega) (by omega) 14 dX0_takeLetter_3 (by decide) (fun h3 => ?_) (fun h3 => ?_)
  · refine g_aload0 C dX0_takeLetter_14 ?_
    refine g_iload1 C dX0_takeLetter_15 ?_
    refine g_bipush C (nI 114) (by decide) dX0_takeLetter_16 ?_
    refine g_d2 (v := nI (if c = 114 then 1 else 0)) 26 (fun K18 => ?_) ?_
    · skip
      refine g_icmp_neN C (by omega) (by omega) 25 dX0_takeLetter_18 (by decide) (fun h18 => ?_) (fun h18 => ?_)
      · refine g_iconst C (nI 0) (by decide) dX0_takeLetter_25 ?_
        exact K18 _ (by simp [h18])
      · refine g_iconst C (nI 1) (by decide) dX0_takeLetter_21 ?_
        refine g_goto C 26 dX0_takeLetter_22 (by decide) ?_
        exact K18 _ (by simp [h18])
    refine g_put (ci := 0) (T := TX0) (N := 5) C inX0 tyX0 tyX0_ok nmX0 hK hP hD hS 0 rfl rfl 1 (by decide) wf_X0_15 ⟨rfl, rfl, rfl⟩ rfl (nb_z _) (nb_f _) (Nat.le_of_ble_eq_true rfl) dX0_takeLetter_26 (fun H locs hP hD hS => ?_)
    refine g_aload0 C dX0_takeLetter_29 ?_
    refine g_iconst C (nI 1) (by decide) dX0_takeLetter_30 ?_
    refine g_put (ci := 0) (T := TX0) (N := 5) C inX0 tyX0 tyX0_ok nmX0 hK hP hD hS 0 rfl rfl 0 (by decide) wf_X0_11 ⟨rfl, rfl, rfl⟩ rfl rfl rfl (Nat.le_of_ble_eq_true rfl) dX0_takeLetter_31 (fun H locs hP hD hS => ?_)
    refine g_iconst C (nI 1) (by decide) dX0_takeLetter_34 ?_
    have hq : q_tL (st, rs, fm, pl, nm) c = some (1, if c = 114 then 1 else 0, fm, pl, nm) := by unfold q_tL; rw [if_pos (by omega)]
    rw [hq]
    exact g_zretM C hP hS (bI_t rfl) dX0_takeLetter_35
  · refine g_iload1 C dX0_takeLetter_6 ?_
    refine g_bipush C (nI 114) (by decide) dX0_takeLetter_7 ?_
    refine g_icmp_eqN C (by omega) (by omega) 14 dX0_takeLetter_9 (by decide) (fun h9 => ?_) (fun h9 => ?_)
    · refine g_aload0 C dX0_takeLetter_14 ?_
      refine g_iload1 C dX0_takeLetter_15 ?_
      refine g_bipush C (nI 114) (by decide) dX0_takeLetter_16 ?_
      refine g_d2 (v := nI (if c = 114 then 1 else 0)) 26 (fun K18 => ?_) ?_
      · skip
        refine g_icmp_neN C (by omega) (by omega) 25 dX0_takeLetter_18 (by decide) (fun h18 => ?_) (fun h18 => ?_)
        · refine g_iconst C (nI 0) (by decide) dX0_takeLetter_25 ?_
          exact K18 _ (by simp [h18])
        · refine g_iconst C (nI 1) (by decide) dX0_takeLetter_21 ?_
          refine g_goto C 26 dX0_takeLetter_22 (by decide) ?_
          exact K18 _ (by simp [h18])
      refine g_put (ci := 0) (T := TX0) (N := 5) C inX0 tyX0 tyX0_ok nmX0 hK hP hD hS 0 rfl rfl 1 (by decide) wf_X0_15 ⟨rfl, rfl, rfl⟩ rfl (nb_z _) (nb_f _) (Nat.le_of_ble_eq_true rfl) dX0_takeLetter_26 (fun H locs hP hD hS => ?_)
      refine g_aload0 C dX0_takeLetter_29 ?_
      refine g_iconst C (nI 1) (by decide) dX0_takeLetter_30 ?_
      refine g_put (ci := 0) (T := TX0) (N := 5) C inX0 tyX0 tyX0_ok nmX0 hK hP hD hS 0 rfl rfl 0 (by decide) wf_X0_11 ⟨rfl, rfl, rfl⟩ rfl rfl rfl (Nat.le_of_ble_eq_true rfl) dX0_takeLetter_31 (fun H locs hP hD hS => ?_)
      refine g_iconst C (nI 1) (by decide) dX0_takeLetter_34 ?_
      have hq : q_tL (st, rs, fm, pl, nm) c = some (1, if c = 114 then 1 else 0, fm, pl, nm) := by unfold q_tL; rw [if_pos (by omega)]
      rw [hq]
      exact g_zretM C hP hS (bI_t rfl) dX0_takeLetter_35
    · refine g_iconst C (nI 0) (by decide) dX0_takeLetter_12 ?_
      have hq : q_tL (st, rs, fm, pl, nm) c = none := by unfold q_tL; rw [if_neg (by omega)]
      rw [hq]
      exact g_zretM C hP hS (bI_f (by simp)) dX0_takeLetter_13

set_option maxHeartbeats 4000000 in
set_option maxRecDepth 100000 in
theorem c_X0_takeFamily {l : Launch} {dC : Nat → ClassId} {dI : Nat → Nat → Nat} {cI cL cJ : ClassId} {e st rs fm nm : Nat} {pl : Option Nat} (hx : PSok (st, rs, fm, pl, nm)) {c : Nat} (hc : c < 127) : Met l yX0_takeFamily (.code yX0_takeFamily cX0_takeFamily 2 (some .boolean) :: WG) (rmL 1) (va_Pc [.ref e, .int (nI c)] (XDM dC dI cI cL cJ e (st, rs, fm, pl, nm))) (bq_M (some (.int (bI ((q_tF (st, rs, fm, pl, nm) c).isSome = true)))) (fun H => va_P (dC, dI) vwCl (XW e ((q_tF (st, rs, fm, pl, nm) c).getD (st, rs, fm, pl, nm))) H) (fun q => q = e)) 0 0 ((fun q => q = e)) := by
  refine bq_of [some (.ref e), some (.int (nI c))] rfl rfl (Nat.le_of_ble_eq_true rfl) (by decide) ?_
  intro P_ E_ s M_ B_ T_ K_ C hv
  obtain ⟨hP, hD, hK⟩ := hv
  have hS : va_S (fun q => q = e) s.heap s.heap [] := va_S.rf
  obtain ⟨hx1, hx2, hx3, hx4, hx5⟩ := hx
  simp only at hx1 hx2 hx3 hx4 hx5
  refine g_iload1 C dX0_takeFamily_0 ?_
  refine g_scS1 C (c_X0_isDigit (by omega)) wl_X0_44 wt_X0_isDigit wn_X0 wc_X0_isDigit (by decide +kernel) ⟨rfl, rfl, by decide, by decide⟩ rfl (by simp [Value.category]) ⟨by decide, by decide⟩ dX0_takeFamily_1 ?_
  refine g_if_neB C 9 dX0_takeFamily_4 (by decide) (fun h4 => ?_) (fun h4 => ?_)
  · refine g_aload0 C dX0_takeFamily_9 ?_
    refine g_iload1 C dX0_takeFamily_10 ?_
    refine g_bipush C (nI 48) (by decide) dX0_takeFamily_11 ?_
    refine g_isubN C (by omega) dX0_takeFamily_13 ?_
    refine g_put (ci := 0) (T := TX0) (N := 5) C inX0 tyX0 tyX0_ok nmX0 hK hP hD hS 0 rfl rfl 2 (by decide) wf_X0_19 ⟨rfl, rfl, rfl⟩ rfl rfl rfl (Nat.le_of_ble_eq_true rfl) dX0_takeFamily_14 (fun H locs hP hD hS => ?_)
    refine g_aload0 C dX0_takeFamily_17 ?_
    refine g_iconst C (nI 2) (by decide) dX0_takeFamily_18 ?_
    refine g_put (ci := 0) (T := TX0) (N := 5) C inX0 tyX0 tyX0_ok nmX0 hK hP hD hS 0 rfl rfl 0 (by decide) wf_X0_11 ⟨rfl, rfl, rfl⟩ rfl rfl rfl (Nat.le_of_ble_eq_true rfl) dX0_takeFamily_19 (fun H locs hP hD hS => ?_)
    refine g_iconst C (nI 1) (by decide) dX0_takeFamily_22 ?_
    have hq : q_tF (st, rs, fm, pl, nm) c = some (2, rs, c - 48, pl, nm) := by unfold q_tF; rw [if_pos h4]
    rw [hq]
    exact g_zretM C hP hS (bI_t rfl) dX0_takeFamily_23
  · refine g_iconst C (nI 0) (by decide) dX0_takeFamily_7 ?_
    have hq : q_tF (st, rs, fm, pl, nm) c = none := by unfold q_tF; rw [if_neg h4]
    rw [hq]
    exact g_zretM C hP hS (bI_f (by simp)) dX0_takeFamily_8

set_option maxHeartbeats 4000000 in
set_option maxRecDepth 100000 in
theorem c_X0_takeColon {l : Launch} {dC : Nat → ClassId} {dI : Nat → Nat → Nat} {cI cL cJ : ClassId} {e st rs fm nm : Nat} {pl : Option Nat} (hx : PSok (st, rs, fm, pl, nm)) {c : Nat} (hc : c < 127) : Met l yX0_takeColon (.code yX0_takeColon cX0_takeColon 2 (some .boolean) :: WG) (rmL 1) (va_Pc [.ref e, .int (nI c)] (XDM dC dI cI cL cJ e (st, rs, fm, pl, nm))) (bq_M (some (.int (bI ((q_tC (st, rs, fm, pl, nm) c).isSome = true)))) (fun H => va_P (dC, dI) vwCl (XW e ((q_tC (st, rs, fm, pl, nm) c).getD (st, rs, fm, pl, nm))) H) (fun q => q = e)) 0 0 ((fun q => q = e)) := by
  refine bq_of [some (.ref e), some (.int (nI c))] rfl rfl (Nat.le_of_ble_eq_true rfl) (by decide) ?_
  intro P_ E_ s M_ B_ T_ K_ C hv
  obtain ⟨hP, hD, hK⟩ := hv
  have hS : va_S (fun q => q = e) s.heap s.heap [] := va_S.rf
  obtain ⟨hx1, hx2, hx3, hx4, hx5⟩ := hx
  simp only at hx1 hx2 hx3 hx4 hx5
  refine g_iload1 C dX0_takeColon_0 ?_
  refine g_bipush C (nI 58) (by decide) dX0_takeColon_1 ?_
  refine g_icmp_eqN C (by omega) (by omega) 8 dX0_takeColon_3 (by decide) (fun h3 => ?_) (fun h3 => ?_)
  · refine g_aload0 C dX0_takeColon_8 ?_
    refine g_iconst C (nI 3) (by decide) dX0_takeColon_9 ?_
    refine g_put (ci := 0) (T := TX0) (N := 5) C inX0 tyX0 tyX0_ok nmX0 hK hP hD hS 0 rfl rfl 0 (by decide) wf_X0_11 ⟨rfl, rfl, rfl⟩ rfl rfl rfl (Nat.le_of_ble_eq_true rfl) dX0_takeColon_10 (fun H locs hP hD hS => ?_)
    refine g_iconst C (nI 1) (by decide) dX0_takeColon_13 ?_
    have hq : q_tC (st, rs, fm, pl, nm) c = some (3, rs, fm, pl, nm) := by unfold q_tC; rw [if_pos h3]
    rw [hq]
    exact g_zretM C hP hS (bI_t rfl) dX0_takeColon_14
  · refine g_iconst C (nI 0) (by decide) dX0_takeColon_6 ?_
    have hq : q_tC (st, rs, fm, pl, nm) c = none := by unfold q_tC; rw [if_neg h3]
    rw [hq]
    exact g_zretM C hP hS (bI_f (by simp)) dX0_takeColon_7

set_option maxHeartbeats 4000000 in
set_option maxRecDepth 100000 in
theorem c_X0_startEntry {l : Launch} {dC : Nat → ClassId} {dI : Nat → Nat → Nat} {cI cL cJ : ClassId} {e st rs fm nm : Nat} {pl : Option Nat}  : Met l yX0_startEntry (.code yX0_startEntry cX0_startEntry 1 none :: WG) (rmL 0) (va_Pc [.ref e] (XDM dC dI cI cL cJ e (st, rs, fm, pl, nm))) (bq_M none (fun H => va_P (dC, dI) vwCl (XW e (0, 0, 0, none, 0)) H) (fun q => q = e)) 0 0 ((fun q => q = e)) := by
  refine bq_of [some (.ref e)] rfl rfl (Nat.le_of_ble_eq_true rfl) (by decide) ?_
  intro P_ E_ s M_ B_ T_ K_ C hv
  obtain ⟨hP, hD, hK⟩ := hv
  have hS : va_S (fun q => q = e) s.heap s.heap [] := va_S.rf
  refine g_aload0 C dX0_startEntry_0 ?_
  refine g_iconst C (nI 0) (by decide) dX0_startEntry_1 ?_
  refine g_put (ci := 0) (T := TX0) (N := 5) C inX0 tyX0 tyX0_ok nmX0 hK hP hD hS 0 rfl rfl 0 (by decide) wf_X0_11 ⟨rfl, rfl, rfl⟩ rfl rfl rfl (Nat.le_of_ble_eq_true rfl) dX0_startEntry_2 (fun H locs hP hD hS => ?_)
  refine g_aload0 C dX0_startEntry_5 ?_
  refine g_iconst C (nI 0) (by decide) dX0_startEntry_6 ?_
  refine g_put (ci := 0) (T := TX0) (N := 5) C inX0 tyX0 tyX0_ok nmX0 hK hP hD hS 0 rfl rfl 1 (by decide) wf_X0_15 ⟨rfl, rfl, rfl⟩ rfl rfl rfl (Nat.le_of_ble_eq_true rfl) dX0_startEntry_7 (fun H locs hP hD hS => ?_)
  refine g_aload0 C dX0_startEntry_10 ?_
  refine g_iconst C (nI 0) (by decide) dX0_startEntry_11 ?_
  refine g_put (ci := 0) (T := TX0) (N := 5) C inX0 tyX0 tyX0_ok nmX0 hK hP hD hS 0 rfl rfl 2 (by decide) wf_X0_19 ⟨rfl, rfl, rfl⟩ rfl rfl rfl (Nat.le_of_ble_eq_true rfl) dX0_startEntry_12 (fun H locs hP hD hS => ?_)
  refine g_aload0 C dX0_startEntry_15 ?_
  refine g_iconst C (-1) (by decide) dX0_startEntry_16 ?_
  refine g_put (ci := 0) (T := TX0) (N := 5) C inX0 tyX0 tyX0_ok nmX0 hK hP hD hS 0 rfl rfl 3 (by decide) wf_X0_22 ⟨rfl, rfl, rfl⟩ rfl rfl rfl (Nat.le_of_ble_eq_true rfl) dX0_startEntry_17 (fun H locs hP hD hS => ?_)
  refine g_aload0 C dX0_startEntry_20 ?_
  refine g_iconst C (nI 0) (by decide) dX0_startEntry_21 ?_
  refine g_put (ci := 0) (T := TX0) (N := 5) C inX0 tyX0 tyX0_ok nmX0 hK hP hD hS 0 rfl rfl 4 (by decide) wf_X0_25 ⟨rfl, rfl, rfl⟩ rfl rfl rfl (Nat.le_of_ble_eq_true rfl) dX0_startEntry_22 (fun H locs hP hD hS => ?_)
  exact g_vretM C hP hS dX0_startEntry_25

set_option maxHeartbeats 4000000 in
set_option maxRecDepth 100000 in
theorem c_X0_isComplete {l : Launch} {dC : Nat → ClassId} {dI : Nat → Nat → Nat} {cI cL cJ : ClassId} {e st rs fm nm : Nat} {pl : Option Nat} (hx : PSok (st, rs, fm, pl, nm))  : Met l yX0_isComplete (.code yX0_isComplete cX0_isComplete 1 (some .boolean) :: WG) (rmL 0) (va_Pc [.ref e] (XDM dC dI cI cL cJ e (st, rs, fm, pl, nm))) (bq_S (.int (bI (st = 4 ∧ 0 < nm)))) 0 0 (fun _ => False) := by
  refine bq_of [some (.ref e)] rfl rfl (Nat.le_of_ble_eq_true rfl) (by decide) ?_
  intro P_ E_ s M_ B_ T_ K_ C hv
  obtain ⟨hP, hD, hK⟩ := hv
  obtain ⟨hx1, hx2, hx3, hx4, hx5⟩ := hx
  simp only at hx1 hx2 hx3 hx4 hx5
  refine g_aload0 C dX0_isComplete_0 ?_
  refine g_get (ci := 0) (T := TX0) (N := 5) C inX0 hK hP 0 rfl rfl 0 (by decide) wf_X0_11 ⟨rfl, rfl, rfl⟩ rfl dX0_isComplete_1 ?_
  try dsimp only
  refine g_iconst C (nI 4) (by decide) dX0_isComplete_4 ?_
  refine g_icmp_neN C (by omega) (by omega) 19 dX0_isComplete_5 (by decide) (fun h5 => ?_) (fun h5 => ?_)
  · refine g_iconst C (nI 0) (by decide) dX0_isComplete_19 ?_
    exact g_iretz C (by first | exact bI_t ⟨by omega, by omega⟩ | exact bI_f (by omega)) dX0_isComplete_20
  · refine g_aload0 C dX0_isComplete_8 ?_
    refine g_get (ci := 0) (T := TX0) (N := 5) C inX0 hK hP 0 rfl rfl 4 (by decide) wf_X0_25 ⟨rfl, rfl, rfl⟩ rfl dX0_isComplete_9 ?_
    try dsimp only
    refine g_if_leN C (by omega) 19 dX0_isComplete_12 (by decide) (fun h12 => ?_) (fun h12 => ?_)
    · refine g_iconst C (nI 0) (by decide) dX0_isComplete_19 ?_
      exact g_iretz C (by first | exact bI_t ⟨by omega, by omega⟩ | exact bI_f (by omega)) dX0_isComplete_20
    · refine g_iconst C (nI 1) (by decide) dX0_isComplete_15 ?_
      refine g_goto C 20 dX0_isComplete_16 (by decide) ?_
      exact g_iretz C (by first | exact bI_t ⟨by omega, by omega⟩ | exact bI_f (by omega)) dX0_isComplete_20

set_option maxHeartbeats 4000000 in
set_option maxRecDepth 100000 in
theorem c_X0_takeOfPlot {l : Launch} {dC : Nat → ClassId} {dI : Nat → Nat → Nat} {cI cL cJ : ClassId} {e st rs fm nm : Nat} {pl : Option Nat} (hx : PSok (st, rs, fm, pl, nm)) {c : Nat} (hc : c < 127) : Met l yX0_takeOfPlot (.code yX0_takeOfPlot cX0_takeOfPlot 3 (some .boolean) :: WG) (rmL 1) (va_Pc [.ref e, .int (nI c)] (XDM dC dI cI cL cJ e (st, rs, fm, pl, nm))) (bq_M (some (.int (bI ((q_tP (st, rs, fm, pl, nm) c).isSome = true)))) (fun H => va_P (dC, dI) vwCl (XW e ((q_tP (st, rs, fm, pl, nm) c).getD (st, rs, fm, pl, nm))) H) (fun q => q = e)) 0 0 ((fun q => q = e)) := by
  refine bq_of [some (.ref e), some (.int (nI c)), none] rfl rfl (Nat.le_of_ble_eq_true rfl) (by decide) ?_
  intro P_ E_ s M_ B_ T_ K_ C hv
  obtain ⟨hP, hD, hK⟩ := hv
  have hS : va_S (fun q => q = e) s.heap s.heap [] := va_S.rf
  obtain ⟨hx1, hx2, hx3, hx4, hx5⟩ := hx
  simp only at hx1 hx2 hx3 hx4 hx5
  refine g_iload1 C dX0_takeOfPlot_0 ?_
  refine g_bipush C (nI 44) (by decide) dX0_takeOfPlot_1 ?_
  refine g_icmp_neN C (by omega) (by omega) 21 dX0_takeOfPlot_3 (by decide) (fun h3 => ?_) (fun h3 => ?_)
  · refine g_iload1 C dX0_takeOfPlot_21 ?_
    refine g_scS1 C (c_X0_isDigit (by omega)) wl_X0_44 wt_X0_isDigit wn_X0 wc_X0_isDigit (by decide +kernel) ⟨rfl, rfl, by decide, by decide⟩ rfl (by simp [Value.category]) ⟨by decide, by decide⟩ dX0_takeOfPlot_22 ?_
    refine g_if_eqB C 35 dX0_takeOfPlot_25 (by decide) (fun h25 => ?_) (fun h25 => ?_)
    · refine g_iconst C (nI 0) (by decide) dX0_takeOfPlot_35 ?_
      have hq : q_tP (st, rs, fm, pl, nm) c = none := by dsimp only [q_tP]; rw [if_neg (by first | exact fun z => h3 z.1 | exact fun z => z.2 ((oN_n hx4).mp h11)), if_pos (by first | exact Or.inl h25 | exact Or.inr ((oN_0 hx4).mp h32))]
      rw [hq]
      exact g_zretM C hP hS (bI_f (by simp)) dX0_takeOfPlot_36
    · refine g_aload0 C dX0_takeOfPlot_28 ?_
      refine g_get (ci := 0) (T := TX0) (N := 5) C inX0 hK hP 0 rfl rfl 3 (by decide) wf_X0_22 ⟨rfl, rfl, rfl⟩ rfl dX0_takeOfPlot_29 ?_
      try dsimp only
      refine g_if_ne C 37 dX0_takeOfPlot_32 (by decide) (fun h32 => ?_) (fun h32 => ?_)
      · refine g_aload0 C dX0_takeOfPlot_37 ?_
        refine g_get (ci := 0) (T := TX0) (N := 5) C inX0 hK hP 0 rfl rfl 3 (by decide) wf_X0_22 ⟨rfl, rfl, rfl⟩ rfl dX0_takeOfPlot_38 ?_
        try dsimp only
        refine g_iconst C (-1) (by decide) dX0_takeOfPlot_41 ?_
        refine g_d2 (v := nI (q_lp pl c)) 64 (fun K42 => ?_) ?_
        · skip
          refine g_icmp_ne C 52 dX0_takeOfPlot_42 (by decide) (fun h42 => ?_) (fun h42 => ?_)
          · have ho : ∃ b, pl = some b := by cases pl with | none => exact absurd rfl h42 | some b => exact ⟨b, rfl⟩
            obtain ⟨b0, rfl⟩ := ho
            have hb0 := hx4 b0 rfl
            refine g_bipush C (nI 10) (by decide) dX0_takeOfPlot_52 ?_
            refine g_aload0 C dX0_takeOfPlot_54 ?_
            refine g_get (ci := 0) (T := TX0) (N := 5) C inX0 hK hP 0 rfl rfl 3 (by decide) wf_X0_22 ⟨rfl, rfl, rfl⟩ rfl dX0_takeOfPlot_55 ?_
            try dsimp only
            refine g_imulN C dX0_takeOfPlot_58 ?_
            refine g_iload1 C dX0_takeOfPlot_59 ?_
            refine g_iaddN C dX0_takeOfPlot_60 ?_
            refine g_bipush C (nI 48) (by decide) dX0_takeOfPlot_61 ?_
            refine g_isubN C (by omega) dX0_takeOfPlot_63 ?_
            exact K42 _ (by first | (rw [(oN_n hx4).mp h42]; done) | (rw [(oN_n hx4).mp h42]; rfl) | rfl)
          · refine g_iload1 C dX0_takeOfPlot_45 ?_
            refine g_bipush C (nI 48) (by decide) dX0_takeOfPlot_46 ?_
            refine g_isubN C (by omega) dX0_takeOfPlot_48 ?_
            refine g_goto C 64 dX0_takeOfPlot_49 (by decide) ?_
            exact K42 _ (by first | (rw [(oN_n hx4).mp h42]; done) | (rw [(oN_n hx4).mp h42]; rfl) | rfl)
        refine g_istore2 C rfl dX0_takeOfPlot_64 ?_
        have hlp : q_lp pl c < 1000 := by cases pl with | none => show c - 48 < 1000; omega | some b => have := hx4 b rfl; show 10 * b + c - 48 < 1000; omega
        refine g_iload2 C dX0_takeOfPlot_65 ?_
        refine g_bipush C (nI 40) (by decide) dX0_takeOfPlot_66 ?_
        refine g_icmp_ltN C (by omega) (by omega) 73 dX0_takeOfPlot_68 (by decide) (fun h68 => ?_) (fun h68 => ?_)
        · refine g_aload0 C dX0_takeOfPlot_73 ?_
          refine g_iload2 C dX0_takeOfPlot_74 ?_
          refine g_put (ci := 0) (T := TX0) (N := 5) C inX0 tyX0 tyX0_ok nmX0 hK hP hD hS 0 rfl rfl 3 (by decide) wf_X0_22 ⟨rfl, rfl, rfl⟩ rfl rfl rfl (Nat.le_of_ble_eq_true rfl) dX0_takeOfPlot_75 (fun H locs hP hD hS => ?_)
          refine g_iconst C (nI 1) (by decide) dX0_takeOfPlot_78 ?_
          have hq : q_tP (st, rs, fm, pl, nm) c = some (st, rs, fm, some (q_lp pl c), nm) := by dsimp only [q_tP]; rw [if_neg (by first | exact fun z => h3 z.1 | exact fun z => z.2 ((oN_n hx4).mp h11)), if_neg (fun z => z.elim (fun z => z h25) (fun z => h32 ((oN_0 hx4).mpr z))), if_pos (by omega)]
          rw [hq]
          exact g_zretM C hP hS (bI_t rfl) dX0_takeOfPlot_79
        · refine g_iconst C (nI 0) (by decide) dX0_takeOfPlot_71 ?_
          have hq : q_tP (st, rs, fm, pl, nm) c = none := by dsimp only [q_tP]; rw [if_neg (by first | exact fun z => h3 z.1 | exact fun z => z.2 ((oN_n hx4).mp h11)), if_neg (fun z => z.elim (fun z => z h25) (fun z => h32 ((oN_0 hx4).mpr z))), if_neg (by omega)]
          rw [hq]
          exact g_zretM C hP hS (bI_f (by simp)) dX0_takeOfPlot_72
      · refine g_iconst C (nI 0) (by decide) dX0_takeOfPlot_35 ?_
        have hq : q_tP (st, rs, fm, pl, nm) c = none := by dsimp only [q_tP]; rw [if_neg (by first | exact fun z => h3 z.1 | exact fun z => z.2 ((oN_n hx4).mp h11)), if_pos (by first | exact Or.inl h25 | exact Or.inr ((oN_0 hx4).mp h32))]
        rw [hq]
        exact g_zretM C hP hS (bI_f (by simp)) dX0_takeOfPlot_36
  · refine g_aload0 C dX0_takeOfPlot_6 ?_
    refine g_get (ci := 0) (T := TX0) (N := 5) C inX0 hK hP 0 rfl rfl 3 (by decide) wf_X0_22 ⟨rfl, rfl, rfl⟩ rfl dX0_takeOfPlot_7 ?_
    try dsimp only
    refine g_iconst C (-1) (by decide) dX0_takeOfPlot_10 ?_
    refine g_icmp_eq C 21 dX0_takeOfPlot_11 (by decide) (fun h11 => ?_) (fun h11 => ?_)
    · refine g_iload1 C dX0_takeOfPlot_21 ?_
      refine g_scS1 C (c_X0_isDigit (by omega)) wl_X0_44 wt_X0_isDigit wn_X0 wc_X0_isDigit (by decide +kernel) ⟨rfl, rfl, by decide, by decide⟩ rfl (by simp [Value.category]) ⟨by decide, by decide⟩ dX0_takeOfPlot_22 ?_
      refine g_if_eqB C 35 dX0_takeOfPlot_25 (by decide) (fun h25 => ?_) (fun h25 => ?_)
      · refine g_iconst C (nI 0) (by decide) dX0_takeOfPlot_35 ?_
        have hq : q_tP (st, rs, fm, pl, nm) c = none := by dsimp only [q_tP]; rw [if_neg (by first | exact fun z => h3 z.1 | exact fun z => z.2 ((oN_n hx4).mp h11)), if_pos (by first | exact Or.inl h25 | exact Or.inr ((oN_0 hx4).mp h32))]
        rw [hq]
        exact g_zretM C hP hS (bI_f (by simp)) dX0_takeOfPlot_36
      · refine g_aload0 C dX0_takeOfPlot_28 ?_
        refine g_get (ci := 0) (T := TX0) (N := 5) C inX0 hK hP 0 rfl rfl 3 (by decide) wf_X0_22 ⟨rfl, rfl, rfl⟩ rfl dX0_takeOfPlot_29 ?_
        try dsimp only
        refine g_if_ne C 37 dX0_takeOfPlot_32 (by decide) (fun h32 => ?_) (fun h32 => ?_)
        · refine g_aload0 C dX0_takeOfPlot_37 ?_
          refine g_get (ci := 0) (T := TX0) (N := 5) C inX0 hK hP 0 rfl rfl 3 (by decide) wf_X0_22 ⟨rfl, rfl, rfl⟩ rfl dX0_takeOfPlot_38 ?_
          try dsimp only
          refine g_iconst C (-1) (by decide) dX0_takeOfPlot_41 ?_
          refine g_d2 (v := nI (q_lp pl c)) 64 (fun K42 => ?_) ?_
          · skip
            refine g_icmp_ne C 52 dX0_takeOfPlot_42 (by decide) (fun h42 => ?_) (fun h42 => ?_)
            · have ho : ∃ b, pl = some b := by cases pl with | none => exact absurd rfl h42 | some b => exact ⟨b, rfl⟩
              obtain ⟨b0, rfl⟩ := ho
              have hb0 := hx4 b0 rfl
              refine g_bipush C (nI 10) (by decide) dX0_takeOfPlot_52 ?_
              refine g_aload0 C dX0_takeOfPlot_54 ?_
              refine g_get (ci := 0) (T := TX0) (N := 5) C inX0 hK hP 0 rfl rfl 3 (by decide) wf_X0_22 ⟨rfl, rfl, rfl⟩ rfl dX0_takeOfPlot_55 ?_
              try dsimp only
              refine g_imulN C dX0_takeOfPlot_58 ?_
              refine g_iload1 C dX0_takeOfPlot_59 ?_
              refine g_iaddN C dX0_takeOfPlot_60 ?_
              refine g_bipush C (nI 48) (by decide) dX0_takeOfPlot_61 ?_
              refine g_isubN C (by omega) dX0_takeOfPlot_63 ?_
              exact K42 _ (by first | (rw [(oN_n hx4).mp h42]; done) | (rw [(oN_n hx4).mp h42]; rfl) | rfl)
            · refine g_iload1 C dX0_takeOfPlot_45 ?_
              refine g_bipush C (nI 48) (by decide) dX0_takeOfPlot_46 ?_
              refine g_isubN C (by omega) dX0_takeOfPlot_48 ?_
              refine g_goto C 64 dX0_takeOfPlot_49 (by decide) ?_
              exact K42 _ (by first | (rw [(oN_n hx4).mp h42]; done) | (rw [(oN_n hx4).mp h42]; rfl) | rfl)
          refine g_istore2 C rfl dX0_takeOfPlot_64 ?_
          have hlp : q_lp pl c < 1000 := by cases pl with | none => show c - 48 < 1000; omega | some b => have := hx4 b rfl; show 10 * b + c - 48 < 1000; omega
          refine g_iload2 C dX0_takeOfPlot_65 ?_
          refine g_bipush C (nI 40) (by decide) dX0_takeOfPlot_66 ?_
          refine g_icmp_ltN C (by omega) (by omega) 73 dX0_takeOfPlot_68 (by decide) (fun h68 => ?_) (fun h68 => ?_)
          · refine g_aload0 C dX0_takeOfPlot_73 ?_
            refine g_iload2 C dX0_takeOfPlot_74 ?_
            refine g_put (ci := 0) (T := TX0) (N := 5) C inX0 tyX0 tyX0_ok nmX0 hK hP hD hS 0 rfl rfl 3 (by decide) wf_X0_22 ⟨rfl, rfl, rfl⟩ rfl rfl rfl (Nat.le_of_ble_eq_true rfl) dX0_takeOfPlot_75 (fun H locs hP hD hS => ?_)
            refine g_iconst C (nI 1) (by decide) dX0_takeOfPlot_78 ?_
            have hq : q_tP (st, rs, fm, pl, nm) c = some (st, rs, fm, some (q_lp pl c), nm) := by dsimp only [q_tP]; rw [if_neg (by first | exact fun z => h3 z.1 | exact fun z => z.2 ((oN_n hx4).mp h11)), if_neg (fun z => z.elim (fun z => z h25) (fun z => h32 ((oN_0 hx4).mpr z))), if_pos (by omega)]
            rw [hq]
            exact g_zretM C hP hS (bI_t rfl) dX0_takeOfPlot_79
          · refine g_iconst C (nI 0) (by decide) dX0_takeOfPlot_71 ?_
            have hq : q_tP (st, rs, fm, pl, nm) c = none := by dsimp only [q_tP]; rw [if_neg (by first | exact fun z => h3 z.1 | exact fun z => z.2 ((oN_n hx4).mp h11)), if_neg (fun z => z.elim (fun z => z h25) (fun z => h32 ((oN_0 hx4).mpr z))), if_neg (by omega)]
            rw [hq]
            exact g_zretM C hP hS (bI_f (by simp)) dX0_takeOfPlot_72
        · refine g_iconst C (nI 0) (by decide) dX0_takeOfPlot_35 ?_
          have hq : q_tP (st, rs, fm, pl, nm) c = none := by dsimp only [q_tP]; rw [if_neg (by first | exact fun z => h3 z.1 | exact fun z => z.2 ((oN_n hx4).mp h11)), if_pos (by first | exact Or.inl h25 | exact Or.inr ((oN_0 hx4).mp h32))]
          rw [hq]
          exact g_zretM C hP hS (bI_f (by simp)) dX0_takeOfPlot_36
    · refine g_aload0 C dX0_takeOfPlot_14 ?_
      refine g_iconst C (nI 4) (by decide) dX0_takeOfPlot_15 ?_
      refine g_put (ci := 0) (T := TX0) (N := 5) C inX0 tyX0 tyX0_ok nmX0 hK hP hD hS 0 rfl rfl 0 (by decide) wf_X0_11 ⟨rfl, rfl, rfl⟩ rfl rfl rfl (Nat.le_of_ble_eq_true rfl) dX0_takeOfPlot_16 (fun H locs hP hD hS => ?_)
      refine g_iconst C (nI 1) (by decide) dX0_takeOfPlot_19 ?_
      have hq : q_tP (st, rs, fm, pl, nm) c = some (4, rs, fm, pl, nm) := by dsimp only [q_tP]; rw [if_pos ⟨h3, fun z => h11 ((oN_n hx4).mpr z)⟩]
      rw [hq]
      exact g_zretM C hP hS (bI_t rfl) dX0_takeOfPlot_20

set_option maxHeartbeats 4000000 in
set_option maxRecDepth 100000 in
theorem c_X0_takeOfNumber {l : Launch} {dC : Nat → ClassId} {dI : Nat → Nat → Nat} {cI cL cJ : ClassId} {e st rs fm nm : Nat} {pl : Option Nat} (hx : PSok (st, rs, fm, pl, nm)) {c : Nat} (hc : c < 127) : Met l yX0_takeOfNumber (.code yX0_takeOfNumber cX0_takeOfNumber 3 (some .boolean) :: WG) (rmL 2) (va_Pc [.ref e, .int (nI c)] (XDM dC dI cI cL cJ e (st, rs, fm, pl, nm))) (bq_M (some (.int (bI ((q_tN (st, rs, fm, pl, nm) c).isSome = true)))) (fun H => va_P (dC, dI) vwCl (XW e ((q_tN (st, rs, fm, pl, nm) c).getD (st, rs, fm, pl, nm))) H) (fun q => q = e)) 0 0 ((fun q => q = e)) := by
  refine bq_of [some (.ref e), some (.int (nI c)), none] rfl rfl (Nat.le_of_ble_eq_true rfl) (by decide) ?_
  intro P_ E_ s M_ B_ T_ K_ C hv
  obtain ⟨hP, hD, hK⟩ := hv
  have hS : va_S (fun q => q = e) s.heap s.heap [] := va_S.rf
  obtain ⟨hx1, hx2, hx3, hx4, hx5⟩ := hx
  simp only at hx1 hx2 hx3 hx4 hx5
  refine g_iload1 C dX0_takeOfNumber_0 ?_
  refine g_bipush C (nI 59) (by decide) dX0_takeOfNumber_1 ?_
  refine g_icmp_neN C (by omega) (by omega) 19 dX0_takeOfNumber_3 (by decide) (fun h3 => ?_) (fun h3 => ?_)
  · refine g_iload1 C dX0_takeOfNumber_19 ?_
    refine g_scS1 C (c_X0_isDigit (by omega)) wl_X0_44 wt_X0_isDigit wn_X0 wc_X0_isDigit (by decide +kernel) ⟨rfl, rfl, by decide, by decide⟩ rfl (by simp [Value.category]) ⟨by decide, by decide⟩ dX0_takeOfNumber_20 ?_
    refine g_if_neB C 28 dX0_takeOfNumber_23 (by decide) (fun h23 => ?_) (fun h23 => ?_)
    · refine g_bipush C (nI 10) (by decide) dX0_takeOfNumber_28 ?_
      refine g_aload0 C dX0_takeOfNumber_30 ?_
      refine g_get (ci := 0) (T := TX0) (N := 5) C inX0 hK hP 0 rfl rfl 4 (by decide) wf_X0_25 ⟨rfl, rfl, rfl⟩ rfl dX0_takeOfNumber_31 ?_
      try dsimp only
      refine g_imulN C dX0_takeOfNumber_34 ?_
      refine g_iload1 C dX0_takeOfNumber_35 ?_
      refine g_iaddN C dX0_takeOfNumber_36 ?_
      refine g_bipush C (nI 48) (by decide) dX0_takeOfNumber_37 ?_
      refine g_isubN C (by omega) dX0_takeOfNumber_39 ?_
      refine g_istore2 C rfl dX0_takeOfNumber_40 ?_
      refine g_iload2 C dX0_takeOfNumber_41 ?_
      refine g_iconst C (nI 1) (by decide) dX0_takeOfNumber_42 ?_
      refine g_icmp_ltN C (by omega) (by omega) 63 dX0_takeOfNumber_43 (by decide) (fun h43 => ?_) (fun h43 => ?_)
      · refine g_iconst C (nI 0) (by decide) dX0_takeOfNumber_63 ?_
        have hq : q_tN (st, rs, fm, pl, nm) c = none := by dsimp only [q_tN]; rw [if_neg (by omega), if_neg (fun z => z h23), if_neg (by omega)]
        rw [hq]
        exact g_zretM C hP hS (bI_f (by simp)) dX0_takeOfNumber_64
      · refine g_iload2 C dX0_takeOfNumber_46 ?_
        refine g_aload0 C dX0_takeOfNumber_47 ?_
        refine g_get (ci := 0) (T := TX0) (N := 5) C inX0 hK hP 0 rfl rfl 1 (by decide) wf_X0_15 ⟨rfl, rfl, rfl⟩ rfl dX0_takeOfNumber_48 ?_
        try dsimp only
        refine g_d1 (v := nI (if rs = 0 then 3 else 50)) 60 (fun K51 => ?_) ?_
        · skip
          refine g_if_eqN C (by omega) 59 dX0_takeOfNumber_51 (by decide) (fun h51 => ?_) (fun h51 => ?_)
          · refine g_iconst C (nI 3) (by decide) dX0_takeOfNumber_59 ?_
            exact K51 _ (by simp [h51])
          · refine g_bipush C (nI 50) (by decide) dX0_takeOfNumber_54 ?_
            refine g_goto C 60 dX0_takeOfNumber_56 (by decide) ?_
            exact K51 _ (by simp [h51])
        have hlim : (if rs = 0 then 3 else 50) ≤ 50 := by split <;> omega
        refine g_icmp_leN C (by omega) (by omega) 65 dX0_takeOfNumber_60 (by decide) (fun h60 => ?_) (fun h60 => ?_)
        · refine g_aload0 C dX0_takeOfNumber_65 ?_
          refine g_iload2 C dX0_takeOfNumber_66 ?_
          refine g_put (ci := 0) (T := TX0) (N := 5) C inX0 tyX0 tyX0_ok nmX0 hK hP hD hS 0 rfl rfl 4 (by decide) wf_X0_25 ⟨rfl, rfl, rfl⟩ rfl rfl rfl (Nat.le_of_ble_eq_true rfl) dX0_takeOfNumber_67 (fun H locs hP hD hS => ?_)
          refine g_iconst C (nI 1) (by decide) dX0_takeOfNumber_70 ?_
          have hq : q_tN (st, rs, fm, pl, nm) c = some (st, rs, fm, pl, 10 * nm + c - 48) := by dsimp only [q_tN]; rw [if_neg (by omega), if_neg (fun z => z h23), if_pos (by omega)]
          rw [hq]
          exact g_zretM C hP hS (bI_t rfl) dX0_takeOfNumber_71
        · refine g_iconst C (nI 0) (by decide) dX0_takeOfNumber_63 ?_
          have hq : q_tN (st, rs, fm, pl, nm) c = none := by dsimp only [q_tN]; rw [if_neg (by omega), if_neg (fun z => z h23), if_neg (by omega)]
          rw [hq]
          exact g_zretM C hP hS (bI_f (by simp)) dX0_takeOfNumber_64
    · refine g_iconst C (nI 0) (by decide) dX0_takeOfNumber_26 ?_
      have hq : q_tN (st, rs, fm, pl, nm) c = none := by dsimp only [q_tN]; rw [if_neg (by omega), if_pos h23]
      rw [hq]
      exact g_zretM C hP hS (bI_f (by simp)) dX0_takeOfNumber_27
  · refine g_aload0 C dX0_takeOfNumber_6 ?_
    refine g_get (ci := 0) (T := TX0) (N := 5) C inX0 hK hP 0 rfl rfl 4 (by decide) wf_X0_25 ⟨rfl, rfl, rfl⟩ rfl dX0_takeOfNumber_7 ?_
    try dsimp only
    refine g_if_leN C (by omega) 19 dX0_takeOfNumber_10 (by decide) (fun h10 => ?_) (fun h10 => ?_)
    · refine g_iload1 C dX0_takeOfNumber_19 ?_
      refine g_scS1 C (c_X0_isDigit (by omega)) wl_X0_44 wt_X0_isDigit wn_X0 wc_X0_isDigit (by decide +kernel) ⟨rfl, rfl, by decide, by decide⟩ rfl (by simp [Value.category]) ⟨by decide, by decide⟩ dX0_takeOfNumber_20 ?_
      refine g_if_neB C 28 dX0_takeOfNumber_23 (by decide) (fun h23 => ?_) (fun h23 => ?_)
      · refine g_bipush C (nI 10) (by decide) dX0_takeOfNumber_28 ?_
        refine g_aload0 C dX0_takeOfNumber_30 ?_
        refine g_get (ci := 0) (T := TX0) (N := 5) C inX0 hK hP 0 rfl rfl 4 (by decide) wf_X0_25 ⟨rfl, rfl, rfl⟩ rfl dX0_takeOfNumber_31 ?_
        try dsimp only
        refine g_imulN C dX0_takeOfNumber_34 ?_
        refine g_iload1 C dX0_takeOfNumber_35 ?_
        refine g_iaddN C dX0_takeOfNumber_36 ?_
        refine g_bipush C (nI 48) (by decide) dX0_takeOfNumber_37 ?_
        refine g_isubN C (by omega) dX0_takeOfNumber_39 ?_
        refine g_istore2 C rfl dX0_takeOfNumber_40 ?_
        refine g_iload2 C dX0_takeOfNumber_41 ?_
        refine g_iconst C (nI 1) (by decide) dX0_takeOfNumber_42 ?_
        refine g_icmp_ltN C (by omega) (by omega) 63 dX0_takeOfNumber_43 (by decide) (fun h43 => ?_) (fun h43 => ?_)
        · refine g_iconst C (nI 0) (by decide) dX0_takeOfNumber_63 ?_
          have hq : q_tN (st, rs, fm, pl, nm) c = none := by dsimp only [q_tN]; rw [if_neg (by omega), if_neg (fun z => z h23), if_neg (by omega)]
          rw [hq]
          exact g_zretM C hP hS (bI_f (by simp)) dX0_takeOfNumber_64
        · refine g_iload2 C dX0_takeOfNumber_46 ?_
          refine g_aload0 C dX0_takeOfNumber_47 ?_
          refine g_get (ci := 0) (T := TX0) (N := 5) C inX0 hK hP 0 rfl rfl 1 (by decide) wf_X0_15 ⟨rfl, rfl, rfl⟩ rfl dX0_takeOfNumber_48 ?_
          try dsimp only
          refine g_d1 (v := nI (if rs = 0 then 3 else 50)) 60 (fun K51 => ?_) ?_
          · skip
            refine g_if_eqN C (by omega) 59 dX0_takeOfNumber_51 (by decide) (fun h51 => ?_) (fun h51 => ?_)
            · refine g_iconst C (nI 3) (by decide) dX0_takeOfNumber_59 ?_
              exact K51 _ (by simp [h51])
            · refine g_bipush C (nI 50) (by decide) dX0_takeOfNumber_54 ?_
              refine g_goto C 60 dX0_takeOfNumber_56 (by decide) ?_
              exact K51 _ (by simp [h51])
          have hlim : (if rs = 0 then 3 else 50) ≤ 50 := by split <;> omega
          refine g_icmp_leN C (by omega) (by omega) 65 dX0_takeOfNumber_60 (by decide) (fun h60 => ?_) (fun h60 => ?_)
          · refine g_aload0 C dX0_takeOfNumber_65 ?_
            refine g_iload2 C dX0_takeOfNumber_66 ?_
            refine g_put (ci := 0) (T := TX0) (N := 5) C inX0 tyX0 tyX0_ok nmX0 hK hP hD hS 0 rfl rfl 4 (by decide) wf_X0_25 ⟨rfl, rfl, rfl⟩ rfl rfl rfl (Nat.le_of_ble_eq_true rfl) dX0_takeOfNumber_67 (fun H locs hP hD hS => ?_)
            refine g_iconst C (nI 1) (by decide) dX0_takeOfNumber_70 ?_
            have hq : q_tN (st, rs, fm, pl, nm) c = some (st, rs, fm, pl, 10 * nm + c - 48) := by dsimp only [q_tN]; rw [if_neg (by omega), if_neg (fun z => z h23), if_pos (by omega)]
            rw [hq]
            exact g_zretM C hP hS (bI_t rfl) dX0_takeOfNumber_71
          · refine g_iconst C (nI 0) (by decide) dX0_takeOfNumber_63 ?_
            have hq : q_tN (st, rs, fm, pl, nm) c = none := by dsimp only [q_tN]; rw [if_neg (by omega), if_neg (fun z => z h23), if_neg (by omega)]
            rw [hq]
            exact g_zretM C hP hS (bI_f (by simp)) dX0_takeOfNumber_64
      · refine g_iconst C (nI 0) (by decide) dX0_takeOfNumber_26 ?_
        have hq : q_tN (st, rs, fm, pl, nm) c = none := by dsimp only [q_tN]; rw [if_neg (by omega), if_pos h23]
        rw [hq]
        exact g_zretM C hP hS (bI_f (by simp)) dX0_takeOfNumber_27
    · refine g_aload0 C dX0_takeOfNumber_13 ?_
      refine g_mV (As := []) C 0 rfl (c_X0_startEntry) wl_X0_47 wi_X0_startEntry wv_X0_startEntry wn_X0 wc_X0_startEntry (by decide +kernel) ⟨rfl, rfl, by decide, by decide⟩ XDM_bl (va_recv (ci := 0) (q0 := 0) hK hP rfl rfl) (XDM_at hK hP hD) rfl rfl (by simp [Value.category]) ⟨by decide, by decide⟩ hS (fun _ h => h) dX0_takeOfNumber_14 (fun H locs hP _ _ hS => ?_)
      have hD : va_D (fun q => q = e) (XW e ((0, 0, 0, none, 0))) := hD.fst rfl
      refine g_iconst C (nI 1) (by decide) dX0_takeOfNumber_17 ?_
      have hq : q_tN (st, rs, fm, pl, nm) c = some (0, 0, 0, none, 0) := by dsimp only [q_tN]; rw [if_pos ⟨h3, h10⟩]
      rw [hq]
      exact g_zretM C hP hS (bI_t rfl) dX0_takeOfNumber_18

set_option maxHeartbeats 4000000 in
set_option maxRecDepth 100000 in
theorem c_X0_take {l : Launch} {dC : Nat → ClassId} {dI : Nat → Nat → Nat} {cI cL cJ : ClassId} {e st rs fm nm : Nat} {pl : Option Nat} (hx : PSok (st, rs, fm, pl, nm)) {c : Nat} (hc : c < 127) : Met l yX0_take (.code yX0_take cX0_take 2 (some .boolean) :: WG) (rmL 3) (va_Pc [.ref e, .int (nI c)] (XDM dC dI cI cL cJ e (st, rs, fm, pl, nm))) (bq_M (some (.int (bI ((q_take (st, rs, fm, pl, nm) c).isSome = true)))) (fun H => va_P (dC, dI) vwCl (XW e ((q_take (st, rs, fm, pl, nm) c).getD (st, rs, fm, pl, nm))) H) (fun q => q = e)) 0 0 ((fun q => q = e)) := by
  refine bq_of [some (.ref e), some (.int (nI c))] rfl rfl (Nat.le_of_ble_eq_true rfl) (by decide) ?_
  intro P_ E_ s M_ B_ T_ K_ C hv
  obtain ⟨hP, hD, hK⟩ := hv
  have hS : va_S (fun q => q = e) s.heap s.heap [] := va_S.rf
  obtain ⟨hx1, hx2, hx3, hx4, hx5⟩ := hx
  simp only at hx1 hx2 hx3 hx4 hx5
  refine g_aload0 C dX0_take_0 ?_
  refine g_get (ci := 0) (T := TX0) (N := 5) C inX0 hK hP 0 rfl rfl 0 (by decide) wf_X0_11 ⟨rfl, rfl, rfl⟩ rfl dX0_take_1 ?_
  try dsimp only
  rcases (show st = 0 ∨ st = 1 ∨ st = 2 ∨ st = 3 ∨ st = 4 by omega) with rfl | rfl | rfl | rfl | rfl
  · refine g_tsI C 36 dX0_take_4 (by decide) (by decide) rfl (by decide) ?_
    refine g_aload0 C dX0_take_36 ?_
    refine g_iload1 C dX0_take_37 ?_
    refine g_mV (As := [.int (nI c)]) C 1 rfl (c_X0_takeLetter ⟨by simpa using hx1, hx2, hx3, hx4, hx5⟩ (by omega)) wl_X0_28 wi_X0_takeLetter wv_X0_takeLetter wn_X0 wc_X0_takeLetter (by decide +kernel) ⟨rfl, rfl, by decide, by decide⟩ XDM_bl (va_recv (ci := 0) (q0 := 0) hK hP rfl rfl) (XDM_at hK hP hD) rfl rfl (by simp [Value.category]) ⟨by decide, by decide⟩ hS (fun _ h => h) dX0_take_38 (fun H locs hP _ _ hS => ?_)
    have hD : va_D (fun q => q = e) (XW e ((q_tL (0, rs, fm, pl, nm) c).getD (0, rs, fm, pl, nm))) := hD.fst rfl
    exact g_zretM C hP hS rfl dX0_take_41
  · refine g_tsI C 42 dX0_take_4 (by decide) (by decide) rfl (by decide) ?_
    refine g_aload0 C dX0_take_42 ?_
    refine g_iload1 C dX0_take_43 ?_
    refine g_mV (As := [.int (nI c)]) C 1 rfl (c_X0_takeFamily ⟨by simpa using hx1, hx2, hx3, hx4, hx5⟩ (by omega)) wl_X0_32 wi_X0_takeFamily wv_X0_takeFamily wn_X0 wc_X0_takeFamily (by decide +kernel) ⟨rfl, rfl, by decide, by decide⟩ XDM_bl (va_recv (ci := 0) (q0 := 0) hK hP rfl rfl) (XDM_at hK hP hD) rfl rfl (by simp [Value.category]) ⟨by decide, by decide⟩ hS (fun _ h => h) dX0_take_44 (fun H locs hP _ _ hS => ?_)
    have hD : va_D (fun q => q = e) (XW e ((q_tF (1, rs, fm, pl, nm) c).getD (1, rs, fm, pl, nm))) := hD.fst rfl
    exact g_zretM C hP hS rfl dX0_take_47
  · refine g_tsI C 48 dX0_take_4 (by decide) (by decide) rfl (by decide) ?_
    refine g_aload0 C dX0_take_48 ?_
    refine g_iload1 C dX0_take_49 ?_
    refine g_mV (As := [.int (nI c)]) C 1 rfl (c_X0_takeColon ⟨by simpa using hx1, hx2, hx3, hx4, hx5⟩ (by omega)) wl_X0_35 wi_X0_takeColon wv_X0_takeColon wn_X0 wc_X0_takeColon (by decide +kernel) ⟨rfl, rfl, by decide, by decide⟩ XDM_bl (va_recv (ci := 0) (q0 := 0) hK hP rfl rfl) (XDM_at hK hP hD) rfl rfl (by simp [Value.category]) ⟨by decide, by decide⟩ hS (fun _ h => h) dX0_take_50 (fun H locs hP _ _ hS => ?_)
    have hD : va_D (fun q => q = e) (XW e ((q_tC (2, rs, fm, pl, nm) c).getD (2, rs, fm, pl, nm))) := hD.fst rfl
    exact g_zretM C hP hS rfl dX0_take_53
  · refine g_tsI C 54 dX0_take_4 (by decide) (by decide) rfl (by decide) ?_
    refine g_aload0 C dX0_take_54 ?_
    refine g_iload1 C dX0_take_55 ?_
    refine g_mV (As := [.int (nI c)]) C 1 rfl (c_X0_takeOfPlot ⟨by simpa using hx1, hx2, hx3, hx4, hx5⟩ (by omega)) wl_X0_38 wi_X0_takeOfPlot wv_X0_takeOfPlot wn_X0 wc_X0_takeOfPlot (by decide +kernel) ⟨rfl, rfl, by decide, by decide⟩ XDM_bl (va_recv (ci := 0) (q0 := 0) hK hP rfl rfl) (XDM_at hK hP hD) rfl rfl (by simp [Value.category]) ⟨by decide, by decide⟩ hS (fun _ h => h) dX0_take_56 (fun H locs hP _ _ hS => ?_)
    have hD : va_D (fun q => q = e) (XW e ((q_tP (3, rs, fm, pl, nm) c).getD (3, rs, fm, pl, nm))) := hD.fst rfl
    exact g_zretM C hP hS rfl dX0_take_59
  · refine g_tsO C 60 dX0_take_4 (by decide) (by decide) ?_
    refine g_aload0 C dX0_take_60 ?_
    refine g_iload1 C dX0_take_61 ?_
    refine g_mV (As := [.int (nI c)]) C 1 rfl (c_X0_takeOfNumber ⟨by simpa using hx1, hx2, hx3, hx4, hx5⟩ (by omega)) wl_X0_41 wi_X0_takeOfNumber wv_X0_takeOfNumber wn_X0 wc_X0_takeOfNumber (by decide +kernel) ⟨rfl, rfl, by decide, by decide⟩ XDM_bl (va_recv (ci := 0) (q0 := 0) hK hP rfl rfl) (XDM_at hK hP hD) rfl rfl (by simp [Value.category]) ⟨by decide, by decide⟩ hS (fun _ h => h) dX0_take_62 (fun H locs hP _ _ hS => ?_)
    have hD : va_D (fun q => q = e) (XW e ((q_tN (4, rs, fm, pl, nm) c).getD (4, rs, fm, pl, nm))) := hD.fst rfl
    exact g_zretM C hP hS rfl dX0_take_65
