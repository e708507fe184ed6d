set_option maxHeartbeats 4000000 in
set_option maxRecDepth 100000 in
theorem c_X3_plot {l : Launch} {dC : Nat → ClassId} {dI : Nat → Nat → Nat} {cI cL cJ : ClassId} {o : Nat} {t : Nat → Nat} {A : RW} {i : Nat → Int32} {h : Int64} (hki : INV (q_nz (A 0))) {p what : Int32} : Met l yX3_plot (.code yX3_plot cX3_plot 3 (some .int) :: WG) (rmL 5) (va_Pc [.ref o, .int p, .int what] (MDM dC dI cI cL cJ o t A i h)) (bq_M (some (.int (if k_pw p what = 0 then q_pp (q_nz (A 0)) (A 0 550) (q_rc (q_nz (A 0))) (q_n p) (q_n what) else nI 0))) (PQ dC dI cI o t (A 0) (A 1) (A 2) (i 0) (i 1) (k_pw p what)) (fun q => q ∈ MA o t)) 0 0 ((fun q => q ∈ MA o t)) := by
  refine bq_of [some (.ref o), some (.int p), some (.int what)] rfl rfl (Nat.le_of_ble_eq_true rfl) (by decide) ?_
  intro P_ E_ s M_ B_ T_ K_ C hv
  obtain ⟨hP, hD, hK⟩ := hv
  have hS : va_S (fun q => q ∈ MA o t) s.heap s.heap [] := va_S.rf
  refine g_aload0 C dX3_plot_0 ?_
  refine g_mV (As := []) C 0 rfl (c_X3_look hki) wl_X3_92 wi_X3_look wv_X3_look wn_X3 wc_X3_look (by decide +kernel) ⟨rfl, rfl, by decide, by decide⟩ MDM_bl (va_recv (ci := 3) (q0 := 0) hK hP rfl rfl) (MDM_at hK hP hD) rfl rfl (by simp [Value.category]) ⟨by decide, by decide⟩ hS (fun _ h => h) dX3_plot_1 (fun H locs hP _ _ hS => ?_)
  obtain ⟨A, i, hP, e0, e1, e2, f0, f1, f2, f3, hw⟩ := hP
  rw [← e0] at hki f3 hw
  rw [← e0, ← e1, ← e2, ← f0, ← f1]
  have hD : va_D (fun q => q ∈ MA o t) (MW cI o t A i h) := hD.fst rfl
  refine g_iload1 C dX3_plot_4 ?_
  refine g_scS1 C (c_X3_isPlot) wl_X3_112 wt_X3_isPlot wn_X3 wc_X3_isPlot (by decide +kernel) ⟨rfl, rfl, by decide, by decide⟩ rfl (by simp [Value.category]) ⟨by decide, by decide⟩ dX3_plot_5 ?_
  refine g_if_neB C 17 dX3_plot_8 (by decide) (fun h8 => ?_) (fun h8 => ?_)
  · obtain ⟨m, hm1, hm2, rfl⟩ := q_rng (by decide) (by decide) h8
    have hqn : q_n (nI m) = m := q_n_nI (by omega)
    refine g_iload2 C dX3_plot_17 ?_
    refine g_iconst C (nI 0) (by decide) dX3_plot_18 ?_
    refine g_bipush C (nI 8) (by decide) dX3_plot_19 ?_
    refine g_scS3 C (c_X3_within) wl_X3_41 wt_X3_within wn_X3 wc_X3_within (by decide +kernel) ⟨rfl, rfl, by decide, by decide⟩ rfl (by simp [Value.category]) ⟨by decide, by decide⟩ dX3_plot_21 ?_
    refine g_if_eqB C 36 dX3_plot_24 (by decide) (fun h24 => ?_) (fun h24 => ?_)
    · refine g_aload0 C dX3_plot_36 ?_
      refine g_iconst C (nI 2) (by decide) dX3_plot_37 ?_
      refine g_mV (As := [.int (nI 2)]) C 1 rfl (c_X3_fails) wl_X3_95 wi_X3_fails wv_X3_fails wn_X3 wc_X3_fails (by decide +kernel) ⟨rfl, rfl, by decide, by decide⟩ MDM_bl (va_recv (ci := 3) (q0 := 0) hK hP rfl rfl) (MDM_at hK hP hD) rfl rfl (by simp [Value.category]) ⟨by decide, by decide⟩ hS (fun _ h => h) dX3_plot_38 (fun H locs hP _ _ hS => ?_)
      have hP : va_P (dC, dI) vwCl (MW cI o t (A) (upd i 2 (nI 2)) (h)) H := hP
      have hD : va_D (fun q => q ∈ MA o t) (MW cI o t (A) (upd i 2 (nI 2)) (h)) := hD.fst rfl
      have hk : k_pw (nI m) what = 2 := by unfold k_pw; rw [if_neg (fun z => z h8), if_pos h24]
      rw [hk]
      exact g_iretM C ⟨A, upd i 2 (nI 2), h, hP, rfl, rfl, rfl, rfl, rfl, rfl⟩ hS rfl dX3_plot_41
    · obtain ⟨mw, hw1, hw2, rfl⟩ := q_rng (by decide) (by decide) h24
      have hqw : q_n (nI mw) = mw := q_n_nI (by omega)
      refine g_aload0 C dX3_plot_27 ?_
      refine g_iload1 C dX3_plot_28 ?_
      refine g_iload2 C dX3_plot_29 ?_
      refine g_mcV2 C hK hP (c_X3_plotNow (by omega) (by omega) hki) wl_X3_146 wi_X3_plotNow wv_X3_plotNow wc_X3_plotNow (by decide +kernel) ⟨rfl, rfl, by decide, by decide⟩ rfl (by simp [Value.category]) ⟨by decide, by decide⟩ dX3_plot_30 ?_
      refine g_goto C 41 dX3_plot_33 (by decide) ?_
      have hk : k_pw (nI m) (nI mw) = 0 := by unfold k_pw; rw [if_neg (fun z => z h8), if_neg (fun z => z h24)]
      rw [hk]
      exact g_iretM C ⟨A, i, h, hP, rfl, rfl, rfl, rfl, rfl, f2⟩ hS (by rw [hqn, hqw, f3, q_pp_rc (rc2 := (q_rc (q_nz (A 0)))) (q_wr_rc hw (show m < 40 by omega))]; rfl) dX3_plot_41
  · refine g_aload0 C dX3_plot_11 ?_
    refine g_iconst C (nI 1) (by decide) dX3_plot_12 ?_
    refine g_mV (As := [.int (nI 1)]) C 1 rfl (c_X3_fails) wl_X3_95 wi_X3_fails wv_X3_fails wn_X3 wc_X3_fails (by decide +kernel) ⟨rfl, rfl, by decide, by decide⟩ MDM_bl (va_recv (ci := 3) (q0 := 0) hK hP rfl rfl) (MDM_at hK hP hD) rfl rfl (by simp [Value.category]) ⟨by decide, by decide⟩ hS (fun _ h => h) dX3_plot_13 (fun H locs hP _ _ hS => ?_)
    have hP : va_P (dC, dI) vwCl (MW cI o t (A) (upd i 2 (nI 1)) (h)) H := hP
    have hD : va_D (fun q => q ∈ MA o t) (MW cI o t (A) (upd i 2 (nI 1)) (h)) := hD.fst rfl
    have hk : k_pw p what = 1 := by unfold k_pw; rw [if_pos h8]
    rw [hk]
    exact g_iretM C ⟨A, upd i 2 (nI 1), h, hP, rfl, rfl, rfl, rfl, rfl, rfl⟩ hS rfl dX3_plot_16

set_option maxHeartbeats 4000000 in
set_option maxRecDepth 100000 in
theorem c_X3_family {l : Launch} {dC : Nat → ClassId} {dI : Nat → Nat → Nat} {cI cL cJ : ClassId} {o : Nat} {t : Nat → Nat} {A : RW} {i : Nat → Int32} {h : Int64} (hki : INV (q_nz (A 0))) {f what : Int32} : Met l yX3_family (.code yX3_family cX3_family 3 (some .int) :: WG) (rmL 5) (va_Pc [.ref o, .int f, .int what] (MDM dC dI cI cL cJ o t A i h)) (bq_M (some (.int (if k_fw f what = 0 then q_fpM (q_nz (A 0)) (A 0 550) (q_n f) (q_n what) else nI 0))) (PQ dC dI cI o t (A 0) (A 1) (A 2) (i 0) (i 1) (k_fw f what)) (fun q => q ∈ MA o t)) 0 0 ((fun q => q ∈ MA o t)) := by
  refine bq_of [some (.ref o), some (.int f), some (.int what)] rfl rfl (Nat.le_of_ble_eq_true rfl) (by decide) ?_
  intro P_ E_ s M_ B_ T_ K_ C hv
  obtain ⟨hP, hD, hK⟩ := hv
  have hS : va_S (fun q => q ∈ MA o t) s.heap s.heap [] := va_S.rf
  refine g_aload0 C dX3_family_0 ?_
  refine g_mV (As := []) C 0 rfl (c_X3_look hki) wl_X3_92 wi_X3_look wv_X3_look wn_X3 wc_X3_look (by decide +kernel) ⟨rfl, rfl, by decide, by decide⟩ MDM_bl (va_recv (ci := 3) (q0 := 0) hK hP rfl rfl) (MDM_at hK hP hD) rfl rfl (by simp [Value.category]) ⟨by decide, by decide⟩ hS (fun _ h => h) dX3_family_1 (fun H locs hP _ _ hS => ?_)
  obtain ⟨A, i, hP, e0, e1, e2, f0, f1, f2, f3, hw⟩ := hP
  rw [← e0] at hki f3 hw
  rw [← e0, ← e1, ← e2, ← f0, ← f1]
  have hD : va_D (fun q => q ∈ MA o t) (MW cI o t A i h) := hD.fst rfl
  refine g_iload1 C dX3_family_4 ?_
  refine g_scS1 C (c_X3_isFamily) wl_X3_105 wt_X3_isFamily wn_X3 wc_X3_isFamily (by decide +kernel) ⟨rfl, rfl, by decide, by decide⟩ rfl (by simp [Value.category]) ⟨by decide, by decide⟩ dX3_family_5 ?_
  refine g_if_neB C 17 dX3_family_8 (by decide) (fun h8 => ?_) (fun h8 => ?_)
  · obtain ⟨m, hm1, hm2, rfl⟩ := q_rng (by decide) (by decide) h8
    have hqn : q_n (nI m) = m := q_n_nI (by omega)
    refine g_iload2 C dX3_family_17 ?_
    refine g_iconst C (nI 0) (by decide) dX3_family_18 ?_
    refine g_iconst C (nI 5) (by decide) dX3_family_19 ?_
    refine g_scS3 C (c_X3_within) wl_X3_41 wt_X3_within wn_X3 wc_X3_within (by decide +kernel) ⟨rfl, rfl, by decide, by decide⟩ rfl (by simp [Value.category]) ⟨by decide, by decide⟩ dX3_family_20 ?_
    refine g_if_eqB C 35 dX3_family_23 (by decide) (fun h23 => ?_) (fun h23 => ?_)
    · refine g_aload0 C dX3_family_35 ?_
      refine g_iconst C (nI 2) (by decide) dX3_family_36 ?_
      refine g_mV (As := [.int (nI 2)]) C 1 rfl (c_X3_fails) wl_X3_95 wi_X3_fails wv_X3_fails wn_X3 wc_X3_fails (by decide +kernel) ⟨rfl, rfl, by decide, by decide⟩ MDM_bl (va_recv (ci := 3) (q0 := 0) hK hP rfl rfl) (MDM_at hK hP hD) rfl rfl (by simp [Value.category]) ⟨by decide, by decide⟩ hS (fun _ h => h) dX3_family_37 (fun H locs hP _ _ hS => ?_)
      have hP : va_P (dC, dI) vwCl (MW cI o t (A) (upd i 2 (nI 2)) (h)) H := hP
      have hD : va_D (fun q => q ∈ MA o t) (MW cI o t (A) (upd i 2 (nI 2)) (h)) := hD.fst rfl
      have hk : k_fw (nI m) what = 2 := by unfold k_fw; rw [if_neg (fun z => z h8), if_pos h23]
      rw [hk]
      exact g_iretM C ⟨A, upd i 2 (nI 2), h, hP, rfl, rfl, rfl, rfl, rfl, rfl⟩ hS rfl dX3_family_40
    · obtain ⟨mw, hw1, hw2, rfl⟩ := q_rng (by decide) (by decide) h23
      have hqw : q_n (nI mw) = mw := q_n_nI (by omega)
      refine g_aload0 C dX3_family_26 ?_
      refine g_iload1 C dX3_family_27 ?_
      refine g_iload2 C dX3_family_28 ?_
      refine g_mcV2 C hK hP (c_X3_familyNow (by omega) (by omega)) wl_X3_152 wi_X3_familyNow wv_X3_familyNow wc_X3_familyNow (by decide +kernel) ⟨rfl, rfl, by decide, by decide⟩ rfl (by simp [Value.category]) ⟨by decide, by decide⟩ dX3_family_29 ?_
      refine g_goto C 40 dX3_family_32 (by decide) ?_
      have hk : k_fw (nI m) (nI mw) = 0 := by unfold k_fw; rw [if_neg (fun z => z h8), if_neg (fun z => z h23)]
      rw [hk]
      exact g_iretM C ⟨A, i, h, hP, rfl, rfl, rfl, rfl, rfl, f2⟩ hS (by rw [hqn, hqw, f3]; rfl) dX3_family_40
  · refine g_aload0 C dX3_family_11 ?_
    refine g_iconst C (nI 1) (by decide) dX3_family_12 ?_
    refine g_mV (As := [.int (nI 1)]) C 1 rfl (c_X3_fails) wl_X3_95 wi_X3_fails wv_X3_fails wn_X3 wc_X3_fails (by decide +kernel) ⟨rfl, rfl, by decide, by decide⟩ MDM_bl (va_recv (ci := 3) (q0 := 0) hK hP rfl rfl) (MDM_at hK hP hD) rfl rfl (by simp [Value.category]) ⟨by decide, by decide⟩ hS (fun _ h => h) dX3_family_13 (fun H locs hP _ _ hS => ?_)
    have hP : va_P (dC, dI) vwCl (MW cI o t (A) (upd i 2 (nI 1)) (h)) H := hP
    have hD : va_D (fun q => q ∈ MA o t) (MW cI o t (A) (upd i 2 (nI 1)) (h)) := hD.fst rfl
    have hk : k_fw f what = 1 := by unfold k_fw; rw [if_pos h8]
    rw [hk]
    exact g_iretM C ⟨A, upd i 2 (nI 1), h, hP, rfl, rfl, rfl, rfl, rfl, rfl⟩ hS rfl dX3_family_16

set_option maxHeartbeats 4000000 in
set_option maxRecDepth 100000 in
theorem c_X3_count {l : Launch} {dC : Nat → ClassId} {dI : Nat → Nat → Nat} {cI cL cJ : ClassId} {o : Nat} {t : Nat → Nat} {A : RW} {i : Nat → Int32} {h : Int64} (hki : INV (q_nz (A 0))) {what : Int32} : Met l yX3_count (.code yX3_count cX3_count 2 (some .int) :: WG) (rmL 5) (va_Pc [.ref o, .int what] (MDM dC dI cI cL cJ o t A i h)) (bq_M (some (.int (if k_w what = 0 then q_ctM (q_nz (A 0)) (A 0 550) (A 0 550) (i 0) (q_rc (q_nz (A 0))) (q_n what) else nI 0))) (PQ dC dI cI o t (A 0) (A 1) (A 2) (i 0) (i 1) (k_w what)) (fun q => q ∈ MA o t)) 0 0 ((fun q => q ∈ MA o t)) := by
  refine bq_of [some (.ref o), some (.int what)] rfl rfl (Nat.le_of_ble_eq_true rfl) (by decide) ?_
  intro P_ E_ s M_ B_ T_ K_ C hv
  obtain ⟨hP, hD, hK⟩ := hv
  have hS : va_S (fun q => q ∈ MA o t) s.heap s.heap [] := va_S.rf
  refine g_aload0 C dX3_count_0 ?_
  refine g_mV (As := []) C 0 rfl (c_X3_look hki) wl_X3_92 wi_X3_look wv_X3_look wn_X3 wc_X3_look (by decide +kernel) ⟨rfl, rfl, by decide, by decide⟩ MDM_bl (va_recv (ci := 3) (q0 := 0) hK hP rfl rfl) (MDM_at hK hP hD) rfl rfl (by simp [Value.category]) ⟨by decide, by decide⟩ hS (fun _ h => h) dX3_count_1 (fun H locs hP _ _ hS => ?_)
  obtain ⟨A, i, hP, e0, e1, e2, f0, f1, f2, f3, hw⟩ := hP
  rw [← e0] at hki f3 hw
  rw [← e0, ← e1, ← e2, ← f0, ← f1]
  have hD : va_D (fun q => q ∈ MA o t) (MW cI o t A i h) := hD.fst rfl
  refine g_iload1 C dX3_count_4 ?_
  refine g_iconst C (nI 0) (by decide) dX3_count_5 ?_
  refine g_bipush C (nI 8) (by decide) dX3_count_6 ?_
  refine g_scS3 C (c_X3_within) wl_X3_41 wt_X3_within wn_X3 wc_X3_within (by decide +kernel) ⟨rfl, rfl, by decide, by decide⟩ rfl (by simp [Value.category]) ⟨by decide, by decide⟩ dX3_count_8 ?_
  refine g_if_eqB C 22 dX3_count_11 (by decide) (fun h11 => ?_) (fun h11 => ?_)
  · refine g_aload0 C dX3_count_22 ?_
    refine g_iconst C (nI 1) (by decide) dX3_count_23 ?_
    refine g_mV (As := [.int (nI 1)]) C 1 rfl (c_X3_fails) wl_X3_95 wi_X3_fails wv_X3_fails wn_X3 wc_X3_fails (by decide +kernel) ⟨rfl, rfl, by decide, by decide⟩ MDM_bl (va_recv (ci := 3) (q0 := 0) hK hP rfl rfl) (MDM_at hK hP hD) rfl rfl (by simp [Value.category]) ⟨by decide, by decide⟩ hS (fun _ h => h) dX3_count_24 (fun H locs hP _ _ hS => ?_)
    have hP : va_P (dC, dI) vwCl (MW cI o t (A) (upd i 2 (nI 1)) (h)) H := hP
    have hD : va_D (fun q => q ∈ MA o t) (MW cI o t (A) (upd i 2 (nI 1)) (h)) := hD.fst rfl
    have hk : k_w what = 1 := by unfold k_w; rw [if_pos h11]
    rw [hk]
    exact g_iretM C ⟨A, upd i 2 (nI 1), h, hP, rfl, rfl, rfl, rfl, rfl, rfl⟩ hS rfl dX3_count_27
  · obtain ⟨mw, hw1, hw2, rfl⟩ := q_rng (by decide) (by decide) h11
    have hqw : q_n (nI mw) = mw := q_n_nI (by omega)
    refine g_aload0 C dX3_count_14 ?_
    refine g_iload1 C dX3_count_15 ?_
    refine g_mcV1 C hK hP (c_X3_counted (by omega)) wl_X3_155 wi_X3_counted wv_X3_counted wc_X3_counted (by decide +kernel) ⟨rfl, rfl, by decide, by decide⟩ rfl (by simp [Value.category]) ⟨by decide, by decide⟩ dX3_count_16 ?_
    refine g_goto C 27 dX3_count_19 (by decide) ?_
    have hk : k_w (nI mw) = 0 := by unfold k_w; rw [if_neg (fun z => z h11)]
    rw [hk]
    exact g_iretM C ⟨A, i, h, hP, rfl, rfl, rfl, rfl, rfl, f2⟩ hS (by rw [hqw, f3, q_ctM_rc (rc2 := (q_rc (q_nz (A 0)))) (fun p hp => q_wr_rc hw hp)]; rfl) dX3_count_27

set_option maxHeartbeats 4000000 in
set_option maxRecDepth 100000 in
theorem c_X3_burial {l : Launch} {dC : Nat → ClassId} {dI : Nat → Nat → Nat} {cI cL cJ : ClassId} {o : Nat} {t : Nat → Nat} {A : RW} {i : Nat → Int32} {h : Int64} (hki : INV (q_nz (A 0))) {p dep what : Int32} : Met l yX3_burial (.code yX3_burial cX3_burial 4 (some .int) :: WG) (rmL 5) (va_Pc [.ref o, .int p, .int dep, .int what] (MDM dC dI cI cL cJ o t A i h)) (bq_M (some (.int (if k_bl p dep what = 0 then q_bp (q_nz (A 0)) (A 0 550) (q_n p * 3 + (q_n dep - 1)) (q_n what) else nI 0))) (PQ dC dI cI o t (A 0) (A 1) (A 2) (i 0) (i 1) (k_bl p dep what)) (fun q => q ∈ MA o t)) 0 0 ((fun q => q ∈ MA o t)) := by
  refine bq_of [some (.ref o), some (.int p), some (.int dep), some (.int what)] rfl rfl (Nat.le_of_ble_eq_true rfl) (by decide) ?_
  intro P_ E_ s M_ B_ T_ K_ C hv
  obtain ⟨hP, hD, hK⟩ := hv
  have hS : va_S (fun q => q ∈ MA o t) s.heap s.heap [] := va_S.rf
  refine g_aload0 C dX3_burial_0 ?_
  refine g_mV (As := []) C 0 rfl (c_X3_look hki) wl_X3_92 wi_X3_look wv_X3_look wn_X3 wc_X3_look (by decide +kernel) ⟨rfl, rfl, by decide, by decide⟩ MDM_bl (va_recv (ci := 3) (q0 := 0) hK hP rfl rfl) (MDM_at hK hP hD) rfl rfl (by simp [Value.category]) ⟨by decide, by decide⟩ hS (fun _ h => h) dX3_burial_1 (fun H locs hP _ _ hS => ?_)
  obtain ⟨A, i, hP, e0, e1, e2, f0, f1, f2, f3, hw⟩ := hP
  rw [← e0] at hki f3 hw
  rw [← e0, ← e1, ← e2, ← f0, ← f1]
  have hD : va_D (fun q => q ∈ MA o t) (MW cI o t A i h) := hD.fst rfl
  refine g_iload1 C dX3_burial_4 ?_
  refine g_scS1 C (c_X3_isPlot) wl_X3_112 wt_X3_isPlot wn_X3 wc_X3_isPlot (by decide +kernel) ⟨rfl, rfl, by decide, by decide⟩ rfl (by simp [Value.category]) ⟨by decide, by decide⟩ dX3_burial_5 ?_
  refine g_if_eqB C 20 dX3_burial_8 (by decide) (fun h8 => ?_) (fun h8 => ?_)
  · refine g_aload0 C dX3_burial_20 ?_
    refine g_iconst C (nI 1) (by decide) dX3_burial_21 ?_
    refine g_mV (As := [.int (nI 1)]) C 1 rfl (c_X3_fails) wl_X3_95 wi_X3_fails wv_X3_fails wn_X3 wc_X3_fails (by decide +kernel) ⟨rfl, rfl, by decide, by decide⟩ MDM_bl (va_recv (ci := 3) (q0 := 0) hK hP rfl rfl) (MDM_at hK hP hD) rfl rfl (by simp [Value.category]) ⟨by decide, by decide⟩ hS (fun _ h => h) dX3_burial_22 (fun H locs hP _ _ hS => ?_)
    have hP : va_P (dC, dI) vwCl (MW cI o t (A) (upd i 2 (nI 1)) (h)) H := hP
    have hD : va_D (fun q => q ∈ MA o t) (MW cI o t (A) (upd i 2 (nI 1)) (h)) := hD.fst rfl
    have hk : k_bl p dep what = 1 := by unfold k_bl; rw [if_pos (by first | exact fun z => h8 z.1 | exact fun z => h17 z.2)]
    rw [hk]
    exact g_iretM C ⟨A, upd i 2 (nI 1), h, hP, rfl, rfl, rfl, rfl, rfl, rfl⟩ hS rfl dX3_burial_25
  · obtain ⟨m, hm1, hm2, rfl⟩ := q_rng (by decide) (by decide) h8
    have hqn : q_n (nI m) = m := q_n_nI (by omega)
    refine g_iload2 C dX3_burial_11 ?_
    refine g_iconst C (nI 1) (by decide) dX3_burial_12 ?_
    refine g_iconst C (nI 3) (by decide) dX3_burial_13 ?_
    refine g_scS3 C (c_X3_within) wl_X3_41 wt_X3_within wn_X3 wc_X3_within (by decide +kernel) ⟨rfl, rfl, by decide, by decide⟩ rfl (by simp [Value.category]) ⟨by decide, by decide⟩ dX3_burial_14 ?_
    refine g_if_neB C 26 dX3_burial_17 (by decide) (fun h17 => ?_) (fun h17 => ?_)
    · obtain ⟨md, hd1, hd2, rfl⟩ := q_rng (by decide) (by decide) h17
      have hqd : q_n (nI md) = md := q_n_nI (by omega)
      refine g_iload3 C dX3_burial_26 ?_
      refine g_iconst C (nI 0) (by decide) dX3_burial_27 ?_
      refine g_iconst C (nI 3) (by decide) dX3_burial_28 ?_
      refine g_scS3 C (c_X3_within) wl_X3_41 wt_X3_within wn_X3 wc_X3_within (by decide +kernel) ⟨rfl, rfl, by decide, by decide⟩ rfl (by simp [Value.category]) ⟨by decide, by decide⟩ dX3_burial_29 ?_
      refine g_if_eqB C 47 dX3_burial_32 (by decide) (fun h32 => ?_) (fun h32 => ?_)
      · refine g_aload0 C dX3_burial_47 ?_
        refine g_iconst C (nI 2) (by decide) dX3_burial_48 ?_
        refine g_mV (As := [.int (nI 2)]) C 1 rfl (c_X3_fails) wl_X3_95 wi_X3_fails wv_X3_fails wn_X3 wc_X3_fails (by decide +kernel) ⟨rfl, rfl, by decide, by decide⟩ MDM_bl (va_recv (ci := 3) (q0 := 0) hK hP rfl rfl) (MDM_at hK hP hD) rfl rfl (by simp [Value.category]) ⟨by decide, by decide⟩ hS (fun _ h => h) dX3_burial_49 (fun H locs hP _ _ hS => ?_)
        have hP : va_P (dC, dI) vwCl (MW cI o t (A) (upd i 2 (nI 2)) (h)) H := hP
        have hD : va_D (fun q => q ∈ MA o t) (MW cI o t (A) (upd i 2 (nI 2)) (h)) := hD.fst rfl
        have hk : k_bl (nI m) (nI md) what = 2 := by unfold k_bl; rw [if_neg (fun z => z ⟨h8, h17⟩), if_pos h32]
        rw [hk]
        exact g_iretM C ⟨A, upd i 2 (nI 2), h, hP, rfl, rfl, rfl, rfl, rfl, rfl⟩ hS rfl dX3_burial_52
      · obtain ⟨mw, hw1, hw2, rfl⟩ := q_rng (by decide) (by decide) h32
        have hqw : q_n (nI mw) = mw := q_n_nI (by omega)
        refine g_aload0 C dX3_burial_35 ?_
        refine g_iload1 C dX3_burial_36 ?_
        refine g_iload2 C dX3_burial_37 ?_
        refine g_iconst C (nI 1) (by decide) dX3_burial_38 ?_
        refine g_isubN C (by omega) dX3_burial_39 ?_
        refine g_iload3 C dX3_burial_40 ?_
        refine g_mcV3 C hK hP (c_X3_burialNow (by omega) (by omega) (by omega)) wl_X3_149 wi_X3_burialNow wv_X3_burialNow wc_X3_burialNow (by decide +kernel) ⟨rfl, rfl, by decide, by decide⟩ rfl (by simp [Value.category]) ⟨by decide, by decide⟩ dX3_burial_41 ?_
        refine g_goto C 52 dX3_burial_44 (by decide) ?_
        have hk : k_bl (nI m) (nI md) (nI mw) = 0 := by unfold k_bl; rw [if_neg (fun z => z ⟨h8, h17⟩), if_neg (fun z => z h32)]
        rw [hk]
        exact g_iretM C ⟨A, i, h, hP, rfl, rfl, rfl, rfl, rfl, f2⟩ hS (by rw [hqn, hqd, hqw, f3]; rfl) dX3_burial_52
    · refine g_aload0 C dX3_burial_20 ?_
      refine g_iconst C (nI 1) (by decide) dX3_burial_21 ?_
      refine g_mV (As := [.int (nI 1)]) C 1 rfl (c_X3_fails) wl_X3_95 wi_X3_fails wv_X3_fails wn_X3 wc_X3_fails (by decide +kernel) ⟨rfl, rfl, by decide, by decide⟩ MDM_bl (va_recv (ci := 3) (q0 := 0) hK hP rfl rfl) (MDM_at hK hP hD) rfl rfl (by simp [Value.category]) ⟨by decide, by decide⟩ hS (fun _ h => h) dX3_burial_22 (fun H locs hP _ _ hS => ?_)
      have hP : va_P (dC, dI) vwCl (MW cI o t (A) (upd i 2 (nI 1)) (h)) H := hP
      have hD : va_D (fun q => q ∈ MA o t) (MW cI o t (A) (upd i 2 (nI 1)) (h)) := hD.fst rfl
      have hk : k_bl (nI m) dep what = 1 := by unfold k_bl; rw [if_pos (by first | exact fun z => h8 z.1 | exact fun z => h17 z.2)]
      rw [hk]
      exact g_iretM C ⟨A, upd i 2 (nI 1), h, hP, rfl, rfl, rfl, rfl, rfl, rfl⟩ hS rfl dX3_burial_25

set_option maxHeartbeats 4000000 in
set_option maxRecDepth 100000 in
theorem c_X3_why {l : Launch} {dC : Nat → ClassId} {dI : Nat → Nat → Nat} {cI cL cJ : ClassId} {o : Nat} {t : Nat → Nat} {A : RW} {i : Nat → Int32} {h : Int64} (hki : INV (q_nz (A 0))) {f p dep : Int32} : Met l yX3_why (.code yX3_why cX3_why 4 (some .int) :: WG) (rmL 5) (va_Pc [.ref o, .int f, .int p, .int dep] (MDM dC dI cI cL cJ o t A i h)) (bq_M (some (.int (if k_fpd f p dep = 0 then q_ref (q_nz (A 0)) (A 0 550) (q_rc (q_nz (A 0))) f (q_n p) (q_n dep) else nI 0))) (PQ dC dI cI o t (A 0) (A 1) (A 2) (i 0) (i 1) (k_fpd f p dep)) (fun q => q ∈ MA o t)) 0 0 ((fun q => q ∈ MA o t)) := by
  refine bq_of [some (.ref o), some (.int f), some (.int p), some (.int dep)] rfl rfl (Nat.le_of_ble_eq_true rfl) (by decide) ?_
  intro P_ E_ s M_ B_ T_ K_ C hv
  obtain ⟨hP, hD, hK⟩ := hv
  have hS : va_S (fun q => q ∈ MA o t) s.heap s.heap [] := va_S.rf
  refine g_aload0 C dX3_why_0 ?_
  refine g_mV (As := []) C 0 rfl (c_X3_look hki) wl_X3_92 wi_X3_look wv_X3_look wn_X3 wc_X3_look (by decide +kernel) ⟨rfl, rfl, by decide, by decide⟩ MDM_bl (va_recv (ci := 3) (q0 := 0) hK hP rfl rfl) (MDM_at hK hP hD) rfl rfl (by simp [Value.category]) ⟨by decide, by decide⟩ hS (fun _ h => h) dX3_why_1 (fun H locs hP _ _ hS => ?_)
  obtain ⟨A, i, hP, e0, e1, e2, f0, f1, f2, f3, hw⟩ := hP
  rw [← e0] at hki f3 hw
  rw [← e0, ← e1, ← e2, ← f0, ← f1]
  have hD : va_D (fun q => q ∈ MA o t) (MW cI o t A i h) := hD.fst rfl
  refine g_iload1 C dX3_why_4 ?_
  refine g_scS1 C (c_X3_isFamily) wl_X3_105 wt_X3_isFamily wn_X3 wc_X3_isFamily (by decide +kernel) ⟨rfl, rfl, by decide, by decide⟩ rfl (by simp [Value.category]) ⟨by decide, by decide⟩ dX3_why_5 ?_
  refine g_if_eqB C 18 dX3_why_8 (by decide) (fun h8 => ?_) (fun h8 => ?_)
  · refine g_aload0 C dX3_why_18 ?_
    refine g_iconst C (nI 1) (by decide) dX3_why_19 ?_
    refine g_mV (As := [.int (nI 1)]) C 1 rfl (c_X3_fails) wl_X3_95 wi_X3_fails wv_X3_fails wn_X3 wc_X3_fails (by decide +kernel) ⟨rfl, rfl, by decide, by decide⟩ MDM_bl (va_recv (ci := 3) (q0 := 0) hK hP rfl rfl) (MDM_at hK hP hD) rfl rfl (by simp [Value.category]) ⟨by decide, by decide⟩ hS (fun _ h => h) dX3_why_20 (fun H locs hP _ _ hS => ?_)
    have hP : va_P (dC, dI) vwCl (MW cI o t (A) (upd i 2 (nI 1)) (h)) H := hP
    have hD : va_D (fun q => q ∈ MA o t) (MW cI o t (A) (upd i 2 (nI 1)) (h)) := hD.fst rfl
    have hk : k_fpd f p dep = 1 := by unfold k_fpd; rw [if_pos (by first | exact fun z => h8 z.1 | exact fun z => h15 z.2)]
    rw [hk]
    exact g_iretM C ⟨A, upd i 2 (nI 1), h, hP, rfl, rfl, rfl, rfl, rfl, rfl⟩ hS rfl dX3_why_23
  · obtain ⟨mf, hf1, hf2, rfl⟩ := q_rng (by decide) (by decide) h8
    have hqf : q_n (nI mf) = mf := q_n_nI (by omega)
    refine g_iload2 C dX3_why_11 ?_
    refine g_scS1 C (c_X3_isPlot) wl_X3_112 wt_X3_isPlot wn_X3 wc_X3_isPlot (by decide +kernel) ⟨rfl, rfl, by decide, by decide⟩ rfl (by simp [Value.category]) ⟨by decide, by decide⟩ dX3_why_12 ?_
    refine g_if_neB C 24 dX3_why_15 (by decide) (fun h15 => ?_) (fun h15 => ?_)
    · obtain ⟨mp, hp1, hp2, rfl⟩ := q_rng (by decide) (by decide) h15
      have hqp : q_n (nI mp) = mp := q_n_nI (by omega)
      refine g_iload3 C dX3_why_24 ?_
      refine g_iconst C (nI 1) (by decide) dX3_why_25 ?_
      refine g_iconst C (nI 3) (by decide) dX3_why_26 ?_
      refine g_scS3 C (c_X3_within) wl_X3_41 wt_X3_within wn_X3 wc_X3_within (by decide +kernel) ⟨rfl, rfl, by decide, by decide⟩ rfl (by simp [Value.category]) ⟨by decide, by decide⟩ dX3_why_27 ?_
      refine g_if_eqB C 43 dX3_why_30 (by decide) (fun h30 => ?_) (fun h30 => ?_)
      · refine g_aload0 C dX3_why_43 ?_
        refine g_iconst C (nI 2) (by decide) dX3_why_44 ?_
        refine g_mV (As := [.int (nI 2)]) C 1 rfl (c_X3_fails) wl_X3_95 wi_X3_fails wv_X3_fails wn_X3 wc_X3_fails (by decide +kernel) ⟨rfl, rfl, by decide, by decide⟩ MDM_bl (va_recv (ci := 3) (q0 := 0) hK hP rfl rfl) (MDM_at hK hP hD) rfl rfl (by simp [Value.category]) ⟨by decide, by decide⟩ hS (fun _ h => h) dX3_why_45 (fun H locs hP _ _ hS => ?_)
        have hP : va_P (dC, dI) vwCl (MW cI o t (A) (upd i 2 (nI 2)) (h)) H := hP
        have hD : va_D (fun q => q ∈ MA o t) (MW cI o t (A) (upd i 2 (nI 2)) (h)) := hD.fst rfl
        have hk : k_fpd (nI mf) (nI mp) dep = 2 := by unfold k_fpd; rw [if_neg (fun z => z ⟨h8, h15⟩), if_pos h30]
        rw [hk]
        exact g_iretM C ⟨A, upd i 2 (nI 2), h, hP, rfl, rfl, rfl, rfl, rfl, rfl⟩ hS rfl dX3_why_48
      · obtain ⟨md, hd1, hd2, rfl⟩ := q_rng (by decide) (by decide) h30
        have hqd : q_n (nI md) = md := q_n_nI (by omega)
        refine g_aload0 C dX3_why_33 ?_
        refine g_iload1 C dX3_why_34 ?_
        refine g_iload2 C dX3_why_35 ?_
        refine g_iload3 C dX3_why_36 ?_
        refine g_mcV3 C hK hP (c_X3_reason (by omega) (by omega) hki) wl_X3_115 wi_X3_reason wv_X3_reason wc_X3_reason (by decide +kernel) ⟨rfl, rfl, by decide, by decide⟩ rfl (by simp [Value.category]) ⟨by decide, by decide⟩ dX3_why_37 ?_
        refine g_goto C 48 dX3_why_40 (by decide) ?_
        have hk : k_fpd (nI mf) (nI mp) (nI md) = 0 := by unfold k_fpd; rw [if_neg (fun z => z ⟨h8, h15⟩), if_neg (fun z => z h30)]
        rw [hk]
        exact g_iretM C ⟨A, i, h, hP, rfl, rfl, rfl, rfl, rfl, f2⟩ hS (by rw [hqp, hqd, f3, q_ref_rc (rc2 := (q_rc (q_nz (A 0)))) (q_wr_rc hw (show mp < 40 by omega))]; rfl) dX3_why_48
    · refine g_aload0 C dX3_why_18 ?_
      refine g_iconst C (nI 1) (by decide) dX3_why_19 ?_
      refine g_mV (As := [.int (nI 1)]) C 1 rfl (c_X3_fails) wl_X3_95 wi_X3_fails wv_X3_fails wn_X3 wc_X3_fails (by decide +kernel) ⟨rfl, rfl, by decide, by decide⟩ MDM_bl (va_recv (ci := 3) (q0 := 0) hK hP rfl rfl) (MDM_at hK hP hD) rfl rfl (by simp [Value.category]) ⟨by decide, by decide⟩ hS (fun _ h => h) dX3_why_20 (fun H locs hP _ _ hS => ?_)
      have hP : va_P (dC, dI) vwCl (MW cI o t (A) (upd i 2 (nI 1)) (h)) H := hP
      have hD : va_D (fun q => q ∈ MA o t) (MW cI o t (A) (upd i 2 (nI 1)) (h)) := hD.fst rfl
      have hk : k_fpd (nI mf) p dep = 1 := by unfold k_fpd; rw [if_pos (by first | exact fun z => h8 z.1 | exact fun z => h15 z.2)]
      rw [hk]
      exact g_iretM C ⟨A, upd i 2 (nI 1), h, hP, rfl, rfl, rfl, rfl, rfl, rfl⟩ hS rfl dX3_why_23

set_option maxHeartbeats 4000000 in
set_option maxRecDepth 100000 in
theorem c_X3_fee {l : Launch} {dC : Nat → ClassId} {dI : Nat → Nat → Nat} {cI cL cJ : ClassId} {o : Nat} {t : Nat → Nat} {A : RW} {i : Nat → Int32} {h : Int64} (hki : INV (q_nz (A 0))) {f p dep : Int32} : Met l yX3_fee (.code yX3_fee cX3_fee 4 (some .int) :: WG) (rmL 5) (va_Pc [.ref o, .int f, .int p, .int dep] (MDM dC dI cI cL cJ o t A i h)) (bq_M (some (.int (if k_fpd f p dep = 0 then q_fee (q_nz (A 0)) (A 0 550) (q_n f) (q_n p) (q_n dep) else nI 0))) (PQ dC dI cI o t (A 0) (A 1) (A 2) (i 0) (i 1) (k_fpd f p dep)) (fun q => q ∈ MA o t)) 0 0 ((fun q => q ∈ MA o t)) := by
  refine bq_of [some (.ref o), some (.int f), some (.int p), some (.int dep)] rfl rfl (Nat.le_of_ble_eq_true rfl) (by decide) ?_
  intro P_ E_ s M_ B_ T_ K_ C hv
  obtain ⟨hP, hD, hK⟩ := hv
  have hS : va_S (fun q => q ∈ MA o t) s.heap s.heap [] := va_S.rf
  refine g_aload0 C dX3_fee_0 ?_
  refine g_mV (As := []) C 0 rfl (c_X3_look hki) wl_X3_92 wi_X3_look wv_X3_look wn_X3 wc_X3_look (by decide +kernel) ⟨rfl, rfl, by decide, by decide⟩ MDM_bl (va_recv (ci := 3) (q0 := 0) hK hP rfl rfl) (MDM_at hK hP hD) rfl rfl (by simp [Value.category]) ⟨by decide, by decide⟩ hS (fun _ h => h) dX3_fee_1 (fun H locs hP _ _ hS => ?_)
  obtain ⟨A, i, hP, e0, e1, e2, f0, f1, f2, f3, hw⟩ := hP
  rw [← e0] at hki f3 hw
  rw [← e0, ← e1, ← e2, ← f0, ← f1]
  have hD : va_D (fun q => q ∈ MA o t) (MW cI o t A i h) := hD.fst rfl
  refine g_iload1 C dX3_fee_4 ?_
  refine g_scS1 C (c_X3_isFamily) wl_X3_105 wt_X3_isFamily wn_X3 wc_X3_isFamily (by decide +kernel) ⟨rfl, rfl, by decide, by decide⟩ rfl (by simp [Value.category]) ⟨by decide, by decide⟩ dX3_fee_5 ?_
  refine g_if_eqB C 18 dX3_fee_8 (by decide) (fun h8 => ?_) (fun h8 => ?_)
  · refine g_aload0 C dX3_fee_18 ?_
    refine g_iconst C (nI 1) (by decide) dX3_fee_19 ?_
    refine g_mV (As := [.int (nI 1)]) C 1 rfl (c_X3_fails) wl_X3_95 wi_X3_fails wv_X3_fails wn_X3 wc_X3_fails (by decide +kernel) ⟨rfl, rfl, by decide, by decide⟩ MDM_bl (va_recv (ci := 3) (q0 := 0) hK hP rfl rfl) (MDM_at hK hP hD) rfl rfl (by simp [Value.category]) ⟨by decide, by decide⟩ hS (fun _ h => h) dX3_fee_20 (fun H locs hP _ _ hS => ?_)
    have hP : va_P (dC, dI) vwCl (MW cI o t (A) (upd i 2 (nI 1)) (h)) H := hP
    have hD : va_D (fun q => q ∈ MA o t) (MW cI o t (A) (upd i 2 (nI 1)) (h)) := hD.fst rfl
    have hk : k_fpd f p dep = 1 := by unfold k_fpd; rw [if_pos (by first | exact fun z => h8 z.1 | exact fun z => h15 z.2)]
    rw [hk]
    exact g_iretM C ⟨A, upd i 2 (nI 1), h, hP, rfl, rfl, rfl, rfl, rfl, rfl⟩ hS rfl dX3_fee_23
  · obtain ⟨mf, hf1, hf2, rfl⟩ := q_rng (by decide) (by decide) h8
    have hqf : q_n (nI mf) = mf := q_n_nI (by omega)
    refine g_iload2 C dX3_fee_11 ?_
    refine g_scS1 C (c_X3_isPlot) wl_X3_112 wt_X3_isPlot wn_X3 wc_X3_isPlot (by decide +kernel) ⟨rfl, rfl, by decide, by decide⟩ rfl (by simp [Value.category]) ⟨by decide, by decide⟩ dX3_fee_12 ?_
    refine g_if_neB C 24 dX3_fee_15 (by decide) (fun h15 => ?_) (fun h15 => ?_)
    · obtain ⟨mp, hp1, hp2, rfl⟩ := q_rng (by decide) (by decide) h15
      have hqp : q_n (nI mp) = mp := q_n_nI (by omega)
      refine g_iload3 C dX3_fee_24 ?_
      refine g_iconst C (nI 1) (by decide) dX3_fee_25 ?_
      refine g_iconst C (nI 3) (by decide) dX3_fee_26 ?_
      refine g_scS3 C (c_X3_within) wl_X3_41 wt_X3_within wn_X3 wc_X3_within (by decide +kernel) ⟨rfl, rfl, by decide, by decide⟩ rfl (by simp [Value.category]) ⟨by decide, by decide⟩ dX3_fee_27 ?_
      refine g_if_eqB C 43 dX3_fee_30 (by decide) (fun h30 => ?_) (fun h30 => ?_)
      · refine g_aload0 C dX3_fee_43 ?_
        refine g_iconst C (nI 2) (by decide) dX3_fee_44 ?_
        refine g_mV (As := [.int (nI 2)]) C 1 rfl (c_X3_fails) wl_X3_95 wi_X3_fails wv_X3_fails wn_X3 wc_X3_fails (by decide +kernel) ⟨rfl, rfl, by decide, by decide⟩ MDM_bl (va_recv (ci := 3) (q0 := 0) hK hP rfl rfl) (MDM_at hK hP hD) rfl rfl (by simp [Value.category]) ⟨by decide, by decide⟩ hS (fun _ h => h) dX3_fee_45 (fun H locs hP _ _ hS => ?_)
        have hP : va_P (dC, dI) vwCl (MW cI o t (A) (upd i 2 (nI 2)) (h)) H := hP
        have hD : va_D (fun q => q ∈ MA o t) (MW cI o t (A) (upd i 2 (nI 2)) (h)) := hD.fst rfl
        have hk : k_fpd (nI mf) (nI mp) dep = 2 := by unfold k_fpd; rw [if_neg (fun z => z ⟨h8, h15⟩), if_pos h30]
        rw [hk]
        exact g_iretM C ⟨A, upd i 2 (nI 2), h, hP, rfl, rfl, rfl, rfl, rfl, rfl⟩ hS rfl dX3_fee_48
      · obtain ⟨md, hd1, hd2, rfl⟩ := q_rng (by decide) (by decide) h30
        have hqd : q_n (nI md) = md := q_n_nI (by omega)
        refine g_aload0 C dX3_fee_33 ?_
        refine g_iload1 C dX3_fee_34 ?_
        refine g_iload2 C dX3_fee_35 ?_
        refine g_iload3 C dX3_fee_36 ?_
        refine g_mcV3 C hK hP (c_X3_price (by omega) (by omega) (by omega)) wl_X3_108 wi_X3_price wv_X3_price wc_X3_price (by decide +kernel) ⟨rfl, rfl, by decide, by decide⟩ rfl (by simp [Value.category]) ⟨by decide, by decide⟩ dX3_fee_37 ?_
        refine g_goto C 48 dX3_fee_40 (by decide) ?_
        have hk : k_fpd (nI mf) (nI mp) (nI md) = 0 := by unfold k_fpd; rw [if_neg (fun z => z ⟨h8, h15⟩), if_neg (fun z => z h30)]
        rw [hk]
        exact g_iretM C ⟨A, i, h, hP, rfl, rfl, rfl, rfl, rfl, f2⟩ hS (by rw [hqf, hqp, hqd, f3]; rfl) dX3_fee_48
    · refine g_aload0 C dX3_fee_18 ?_
      refine g_iconst C (nI 1) (by decide) dX3_fee_19 ?_
      refine g_mV (As := [.int (nI 1)]) C 1 rfl (c_X3_fails) wl_X3_95 wi_X3_fails wv_X3_fails wn_X3 wc_X3_fails (by decide +kernel) ⟨rfl, rfl, by decide, by decide⟩ MDM_bl (va_recv (ci := 3) (q0 := 0) hK hP rfl rfl) (MDM_at hK hP hD) rfl rfl (by simp [Value.category]) ⟨by decide, by decide⟩ hS (fun _ h => h) dX3_fee_20 (fun H locs hP _ _ hS => ?_)
      have hP : va_P (dC, dI) vwCl (MW cI o t (A) (upd i 2 (nI 1)) (h)) H := hP
      have hD : va_D (fun q => q ∈ MA o t) (MW cI o t (A) (upd i 2 (nI 1)) (h)) := hD.fst rfl
      have hk : k_fpd (nI mf) p dep = 1 := by unfold k_fpd; rw [if_pos (by first | exact fun z => h8 z.1 | exact fun z => h15 z.2)]
      rw [hk]
      exact g_iretM C ⟨A, upd i 2 (nI 1), h, hP, rfl, rfl, rfl, rfl, rfl, rfl⟩ hS rfl dX3_fee_23

set_option maxHeartbeats 4000000 in
set_option maxRecDepth 100000 in
theorem c_X3_deepest {l : Launch} {dC : Nat → ClassId} {dI : Nat → Nat → Nat} {cI cL cJ : ClassId} {o : Nat} {t : Nat → Nat} {A : RW} {i : Nat → Int32} {h : Int64} (hki : INV (q_nz (A 0))) {f p : Int32} : Met l yX3_deepest (.code yX3_deepest cX3_deepest 5 (some .int) :: WG) (rmL 5) (va_Pc [.ref o, .int f, .int p] (MDM dC dI cI cL cJ o t A i h)) (bq_M (some (.int (if k_fp f p = 0 then q_dpM (q_nz (A 0)) (A 0 550) (q_rc (q_nz (A 0))) f (q_n p) 3 else nI 0))) (PQ dC dI cI o t (A 0) (A 1) (A 2) (i 0) (i 1) (k_fp f p)) (fun q => q ∈ MA o t)) 0 0 ((fun q => q ∈ MA o t)) := by
  refine bq_of [some (.ref o), some (.int f), some (.int p), none, none] rfl rfl (Nat.le_of_ble_eq_true rfl) (by decide) ?_
  intro P_ E_ s M_ B_ T_ K_ C hv
  obtain ⟨hP, hD, hK⟩ := hv
  have hS : va_S (fun q => q ∈ MA o t) s.heap s.heap [] := va_S.rf
  refine g_aload0 C dX3_deepest_0 ?_
  refine g_mV (As := []) C 0 rfl (c_X3_look hki) wl_X3_92 wi_X3_look wv_X3_look wn_X3 wc_X3_look (by decide +kernel) ⟨rfl, rfl, by decide, by decide⟩ MDM_bl (va_recv (ci := 3) (q0 := 0) hK hP rfl rfl) (MDM_at hK hP hD) rfl rfl (by simp [Value.category]) ⟨by decide, by decide⟩ hS (fun _ h => h) dX3_deepest_1 (fun H locs hP _ _ hS => ?_)
  obtain ⟨A, i, hP, e0, e1, e2, f0, f1, f2, f3, hw⟩ := hP
  rw [← e0] at hki f3 hw
  rw [← e0, ← e1, ← e2, ← f0, ← f1]
  have hD : va_D (fun q => q ∈ MA o t) (MW cI o t A i h) := hD.fst rfl
  refine g_iload1 C dX3_deepest_4 ?_
  refine g_scS1 C (c_X3_isFamily) wl_X3_105 wt_X3_isFamily wn_X3 wc_X3_isFamily (by decide +kernel) ⟨rfl, rfl, by decide, by decide⟩ rfl (by simp [Value.category]) ⟨by decide, by decide⟩ dX3_deepest_5 ?_
  refine g_if_eqB C 18 dX3_deepest_8 (by decide) (fun h8 => ?_) (fun h8 => ?_)
  · refine g_aload0 C dX3_deepest_18 ?_
    refine g_iconst C (nI 1) (by decide) dX3_deepest_19 ?_
    refine g_mV (As := [.int (nI 1)]) C 1 rfl (c_X3_fails) wl_X3_95 wi_X3_fails wv_X3_fails wn_X3 wc_X3_fails (by decide +kernel) ⟨rfl, rfl, by decide, by decide⟩ MDM_bl (va_recv (ci := 3) (q0 := 0) hK hP rfl rfl) (MDM_at hK hP hD) rfl rfl (by simp [Value.category]) ⟨by decide, by decide⟩ hS (fun _ h => h) dX3_deepest_20 (fun H locs hP _ _ hS => ?_)
    have hP : va_P (dC, dI) vwCl (MW cI o t (A) (upd i 2 (nI 1)) (h)) H := hP
    have hD : va_D (fun q => q ∈ MA o t) (MW cI o t (A) (upd i 2 (nI 1)) (h)) := hD.fst rfl
    have hk : k_fp f p = 1 := by unfold k_fp; rw [if_pos (by first | exact fun z => h8 z.1 | exact fun z => h15 z.2)]
    rw [hk]
    exact g_iretM C ⟨A, upd i 2 (nI 1), h, hP, rfl, rfl, rfl, rfl, rfl, rfl⟩ hS rfl dX3_deepest_23
  · obtain ⟨mf, hf1, hf2, rfl⟩ := q_rng (by decide) (by decide) h8
    have hqf : q_n (nI mf) = mf := q_n_nI (by omega)
    refine g_iload2 C dX3_deepest_11 ?_
    refine g_scS1 C (c_X3_isPlot) wl_X3_112 wt_X3_isPlot wn_X3 wc_X3_isPlot (by decide +kernel) ⟨rfl, rfl, by decide, by decide⟩ rfl (by simp [Value.category]) ⟨by decide, by decide⟩ dX3_deepest_12 ?_
    refine g_if_neB C 24 dX3_deepest_15 (by decide) (fun h15 => ?_) (fun h15 => ?_)
    · obtain ⟨mp, hp1, hp2, rfl⟩ := q_rng (by decide) (by decide) h15
      have hqp : q_n (nI mp) = mp := q_n_nI (by omega)
      refine g_iconst C (-1) (by decide) dX3_deepest_24 ?_
      refine g_istore3 C rfl dX3_deepest_25 ?_
      refine g_iconst C (nI 1) (by decide) dX3_deepest_26 ?_
      refine g_istore4 C rfl dX3_deepest_27 ?_
      refine g_lp2 (fun (j : Nat) (x : Int32) => j ≤ 3 ∧ x = q_dpM (q_nz (A 0)) (A 0 550) (q_rc (q_nz (A 0))) (nI mf) mp j) (fun (j : Nat) (x : Int32) => 3 - j) (fun (j : Nat) (x : Int32) => [some (.ref o), some (.int (nI mf)), some (.int (nI mp)), some (.int x), some (.int (nI (j + 1)))]) 0 (-1) ⟨by omega, rfl⟩ rfl ?_
      rintro j x ⟨hj, hx⟩ ih
      try dsimp only at ih ⊢
      refine g_iload4 C dX3_deepest_29 ?_
      refine g_iconst C (nI 4) (by decide) dX3_deepest_31 ?_
      refine g_icmp_geN C (by omega) (by omega) 59 dX3_deepest_32 (by decide) (fun h32 => ?_) (fun h32 => ?_)
      · refine g_iload3 C dX3_deepest_59 ?_
        have hk : k_fp (nI mf) (nI mp) = 0 := by unfold k_fp; rw [if_neg (fun z => z ⟨h8, h15⟩)]
        rw [hk]
        exact g_iretM C ⟨A, i, h, hP, rfl, rfl, rfl, rfl, rfl, f2⟩ hS (by rw [hqp, hx, show j = 3 by omega]; rfl) dX3_deepest_60
      · refine g_aload0 C dX3_deepest_35 ?_
        refine g_iload1 C dX3_deepest_36 ?_
        refine g_iload2 C dX3_deepest_37 ?_
        refine g_iload4 C dX3_deepest_38 ?_
        refine g_mcV3 C hK hP (c_X3_reason (by omega) (by omega) hki) wl_X3_115 wi_X3_reason wv_X3_reason wc_X3_reason (by decide +kernel) ⟨rfl, rfl, by decide, by decide⟩ rfl (by simp [Value.category]) ⟨by decide, by decide⟩ dX3_deepest_40 ?_
        rw [f3, q_ref_rc (rc2 := (q_rc (q_nz (A 0)))) (q_wr_rc hw (show mp < 40 by omega))]
        refine g_d1 (v := if q_ref (q_nz (A 0)) (A 0 550) (q_rc (q_nz (A 0))) (nI mf) mp (j + 1) = 0 then nI (j + 1) else x) 52 (fun K43 => ?_) ?_
        · skip
          refine g_if_ne C 51 dX3_deepest_43 (by decide) (fun h43 => ?_) (fun h43 => ?_)
          · refine g_iload3 C dX3_deepest_51 ?_
            exact K43 _ (by exact (if_neg h43).symm)
          · refine g_iload4 C dX3_deepest_46 ?_
            refine g_goto C 52 dX3_deepest_48 (by decide) ?_
            exact K43 _ (by exact (if_pos h43).symm)
        refine g_istore3 C rfl dX3_deepest_52 ?_
        refine g_iinc4 C _ rfl dX3_deepest_53 (nI_1 _) ?_
        refine g_goto C 29 dX3_deepest_56 (by decide) ?_
        exact ih (j + 1) _ ⟨by omega, by rw [hx]; rfl⟩ (by show 3 - (j + 1) < 3 - j; omega)
    · refine g_aload0 C dX3_deepest_18 ?_
      refine g_iconst C (nI 1) (by decide) dX3_deepest_19 ?_
      refine g_mV (As := [.int (nI 1)]) C 1 rfl (c_X3_fails) wl_X3_95 wi_X3_fails wv_X3_fails wn_X3 wc_X3_fails (by decide +kernel) ⟨rfl, rfl, by decide, by decide⟩ MDM_bl (va_recv (ci := 3) (q0 := 0) hK hP rfl rfl) (MDM_at hK hP hD) rfl rfl (by simp [Value.category]) ⟨by decide, by decide⟩ hS (fun _ h => h) dX3_deepest_20 (fun H locs hP _ _ hS => ?_)
      have hP : va_P (dC, dI) vwCl (MW cI o t (A) (upd i 2 (nI 1)) (h)) H := hP
      have hD : va_D (fun q => q ∈ MA o t) (MW cI o t (A) (upd i 2 (nI 1)) (h)) := hD.fst rfl
      have hk : k_fp (nI mf) p = 1 := by unfold k_fp; rw [if_pos (by first | exact fun z => h8 z.1 | exact fun z => h15 z.2)]
      rw [hk]
      exact g_iretM C ⟨A, upd i 2 (nI 1), h, hP, rfl, rfl, rfl, rfl, rfl, rfl⟩ hS rfl dX3_deepest_23

set_option maxHeartbeats 4000000 in
set_option maxRecDepth 100000 in
theorem c_X3_bestPlot {l : Launch} {dC : Nat → ClassId} {dI : Nat → Nat → Nat} {cI cL cJ : ClassId} {o : Nat} {t : Nat → Nat} {A : RW} {i : Nat → Int32} {h : Int64} (hki : INV (q_nz (A 0))) {f : Int32} : Met l yX3_bestPlot (.code yX3_bestPlot cX3_bestPlot 2 (some .int) :: WG) (rmL 6) (va_Pc [.ref o, .int f] (MDM dC dI cI cL cJ o t A i h)) (bq_M (some (.int (if k_par f = 0 then oN (q_bestM (q_nz (A 0)) (A 0 550) (q_rc (q_nz (A 0))) (q_n f) 40).1 else nI 0))) (PQ dC dI cI o t (A 0) (A 1) (A 2) (i 0) (i 1) (k_par f)) (fun q => q ∈ MA o t)) 0 0 ((fun q => q ∈ MA o t)) := by
  refine bq_of [some (.ref o), some (.int f)] rfl rfl (Nat.le_of_ble_eq_true rfl) (by decide) ?_
  intro P_ E_ s M_ B_ T_ K_ C hv
  obtain ⟨hP, hD, hK⟩ := hv
  have hS : va_S (fun q => q ∈ MA o t) s.heap s.heap [] := va_S.rf
  refine g_aload0 C dX3_bestPlot_0 ?_
  refine g_mV (As := []) C 0 rfl (c_X3_look hki) wl_X3_92 wi_X3_look wv_X3_look wn_X3 wc_X3_look (by decide +kernel) ⟨rfl, rfl, by decide, by decide⟩ MDM_bl (va_recv (ci := 3) (q0 := 0) hK hP rfl rfl) (MDM_at hK hP hD) rfl rfl (by simp [Value.category]) ⟨by decide, by decide⟩ hS (fun _ h => h) dX3_bestPlot_1 (fun H locs hP _ _ hS => ?_)
  obtain ⟨A, i, hP, e0, e1, e2, f0, f1, f2, f3, hw⟩ := hP
  rw [← e0] at hki f3 hw
  rw [← e0, ← e1, ← e2, ← f0, ← f1]
  have hD : va_D (fun q => q ∈ MA o t) (MW cI o t A i h) := hD.fst rfl
  refine g_iload1 C dX3_bestPlot_4 ?_
  refine g_scS1 C (c_X3_isFamily) wl_X3_105 wt_X3_isFamily wn_X3 wc_X3_isFamily (by decide +kernel) ⟨rfl, rfl, by decide, by decide⟩ rfl (by simp [Value.category]) ⟨by decide, by decide⟩ dX3_bestPlot_5 ?_
  refine g_if_eqB C 19 dX3_bestPlot_8 (by decide) (fun h8 => ?_) (fun h8 => ?_)
  · refine g_aload0 C dX3_bestPlot_19 ?_
    refine g_iconst C (nI 1) (by decide) dX3_bestPlot_20 ?_
    refine g_mV (As := [.int (nI 1)]) C 1 rfl (c_X3_fails) wl_X3_95 wi_X3_fails wv_X3_fails wn_X3 wc_X3_fails (by decide +kernel) ⟨rfl, rfl, by decide, by decide⟩ MDM_bl (va_recv (ci := 3) (q0 := 0) hK hP rfl rfl) (MDM_at hK hP hD) rfl rfl (by simp [Value.category]) ⟨by decide, by decide⟩ hS (fun _ h => h) dX3_bestPlot_21 (fun H locs hP _ _ hS => ?_)
    have hP : va_P (dC, dI) vwCl (MW cI o t (A) (upd i 2 (nI 1)) (h)) H := hP
    have hD : va_D (fun q => q ∈ MA o t) (MW cI o t (A) (upd i 2 (nI 1)) (h)) := hD.fst rfl
    have hk : k_par f = 1 := by unfold k_par; rw [if_pos h8]
    rw [hk]
    exact g_iretM C ⟨A, upd i 2 (nI 1), h, hP, rfl, rfl, rfl, rfl, rfl, rfl⟩ hS rfl dX3_bestPlot_24
  · obtain ⟨m, hm1, hm2, rfl⟩ := q_rng (by decide) (by decide) h8
    have hqn : q_n (nI m) = m := q_n_nI (by omega)
    refine g_aload0 C dX3_bestPlot_11 ?_
    refine g_iload1 C dX3_bestPlot_12 ?_
    refine g_mcV1 C hK hP (c_X3_bestNow (by omega) hki) wl_X3_158 wi_X3_bestNow wv_X3_bestNow wc_X3_bestNow (by decide +kernel) ⟨rfl, rfl, by decide, by decide⟩ rfl (by simp [Value.category]) ⟨by decide, by decide⟩ dX3_bestPlot_13 ?_
    refine g_goto C 24 dX3_bestPlot_16 (by decide) ?_
    have hk : k_par (nI m) = 0 := by unfold k_par; rw [if_neg (fun z => z h8)]
    rw [hk]
    exact g_iretM C ⟨A, i, h, hP, rfl, rfl, rfl, rfl, rfl, f2⟩ hS (by rw [hqn, f3, q_bestM_rc (rc2 := (q_rc (q_nz (A 0)))) 40 (fun p hp => q_wr_rc hw hp)]; rfl) dX3_bestPlot_24

set_option maxHeartbeats 4000000 in
set_option maxRecDepth 100000 in
theorem c_X3_clearYear {l : Launch} {dC : Nat → ClassId} {dI : Nat → Nat → Nat} {cI cL cJ : ClassId} {o : Nat} {t : Nat → Nat} {A : RW} {i : Nat → Int32} {h : Int64} (hki : INV (q_nz (A 0))) {p : Int32} : Met l yX3_clearYear (.code yX3_clearYear cX3_clearYear 2 (some .int) :: WG) (rmL 5) (va_Pc [.ref o, .int p] (MDM dC dI cI cL cJ o t A i h)) (bq_M (some (.int (if k_p p = 0 then q_yoM (q_nz (A 0)) (A 0 550) (q_n p) 3 else nI 0))) (PQ dC dI cI o t (A 0) (A 1) (A 2) (i 0) (i 1) (k_p p)) (fun q => q ∈ MA o t)) 0 0 ((fun q => q ∈ MA o t)) := by
  refine bq_of [some (.ref o), some (.int p)] rfl rfl (Nat.le_of_ble_eq_true rfl) (by decide) ?_
  intro P_ E_ s M_ B_ T_ K_ C hv
  obtain ⟨hP, hD, hK⟩ := hv
  have hS : va_S (fun q => q ∈ MA o t) s.heap s.heap [] := va_S.rf
  refine g_aload0 C dX3_clearYear_0 ?_
  refine g_mV (As := []) C 0 rfl (c_X3_look hki) wl_X3_92 wi_X3_look wv_X3_look wn_X3 wc_X3_look (by decide +kernel) ⟨rfl, rfl, by decide, by decide⟩ MDM_bl (va_recv (ci := 3) (q0 := 0) hK hP rfl rfl) (MDM_at hK hP hD) rfl rfl (by simp [Value.category]) ⟨by decide, by decide⟩ hS (fun _ h => h) dX3_clearYear_1 (fun H locs hP _ _ hS => ?_)
  obtain ⟨A, i, hP, e0, e1, e2, f0, f1, f2, f3, hw⟩ := hP
  rw [← e0] at hki f3 hw
  rw [← e0, ← e1, ← e2, ← f0, ← f1]
  have hD : va_D (fun q => q ∈ MA o t) (MW cI o t A i h) := hD.fst rfl
  refine g_iload1 C dX3_clearYear_4 ?_
  refine g_scS1 C (c_X3_isPlot) wl_X3_112 wt_X3_isPlot wn_X3 wc_X3_isPlot (by decide +kernel) ⟨rfl, rfl, by decide, by decide⟩ rfl (by simp [Value.category]) ⟨by decide, by decide⟩ dX3_clearYear_5 ?_
  refine g_if_eqB C 19 dX3_clearYear_8 (by decide) (fun h8 => ?_) (fun h8 => ?_)
  · refine g_aload0 C dX3_clearYear_19 ?_
    refine g_iconst C (nI 1) (by decide) dX3_clearYear_20 ?_
    refine g_mV (As := [.int (nI 1)]) C 1 rfl (c_X3_fails) wl_X3_95 wi_X3_fails wv_X3_fails wn_X3 wc_X3_fails (by decide +kernel) ⟨rfl, rfl, by decide, by decide⟩ MDM_bl (va_recv (ci := 3) (q0 := 0) hK hP rfl rfl) (MDM_at hK hP hD) rfl rfl (by simp [Value.category]) ⟨by decide, by decide⟩ hS (fun _ h => h) dX3_clearYear_21 (fun H locs hP _ _ hS => ?_)
    have hP : va_P (dC, dI) vwCl (MW cI o t (A) (upd i 2 (nI 1)) (h)) H := hP
    have hD : va_D (fun q => q ∈ MA o t) (MW cI o t (A) (upd i 2 (nI 1)) (h)) := hD.fst rfl
    have hk : k_p p = 1 := by unfold k_p; rw [if_pos h8]
    rw [hk]
    exact g_iretM C ⟨A, upd i 2 (nI 1), h, hP, rfl, rfl, rfl, rfl, rfl, rfl⟩ hS rfl dX3_clearYear_24
  · obtain ⟨m, hm1, hm2, rfl⟩ := q_rng (by decide) (by decide) h8
    have hqn : q_n (nI m) = m := q_n_nI (by omega)
    refine g_aload0 C dX3_clearYear_11 ?_
    refine g_iload1 C dX3_clearYear_12 ?_
    refine g_mcV1 C hK hP (c_X3_clearNow (by omega)) wl_X3_161 wi_X3_clearNow wv_X3_clearNow wc_X3_clearNow (by decide +kernel) ⟨rfl, rfl, by decide, by decide⟩ rfl (by simp [Value.category]) ⟨by decide, by decide⟩ dX3_clearYear_13 ?_
    refine g_goto C 24 dX3_clearYear_16 (by decide) ?_
    have hk : k_p (nI m) = 0 := by unfold k_p; rw [if_neg (fun z => z h8)]
    rw [hk]
    exact g_iretM C ⟨A, i, h, hP, rfl, rfl, rfl, rfl, rfl, f2⟩ hS (by rw [hqn]; rfl) dX3_clearYear_24
