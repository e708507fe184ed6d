set_option maxHeartbeats 4000000 in
set_option maxRecDepth 100000 in
theorem c_X1_changeKind {l : Launch} {dC : Nat → ClassId} {dI : Nat → Nat → Nat} {cI cL cJ : ClassId} {g1 g2 a : Nat} {t : Nat → Nat} {y : Int32} {d : RW} {r : Int64} {p : Nat} {kv : Int32} (hp : p < 40) : Met l yX1_changeKind (.code yX1_changeKind cX1_changeKind 4 (some .int) :: WG) (rmL 0) (va_Pc [.ref a, .int (nI p), .int kv] (LDM dC dI cI cL cJ g1 g2 a t y d r)) (bq_M (some (.int (d 3 p))) (fun H => va_P (dC, dI) vwCl (LW cI a t (y) (q_up d 3 p kv) (r)) H) (fun q => q ∈ LA a t)) 0 0 ((fun q => q ∈ LA a t)) := by
  refine bq_of [some (.ref a), some (.int (nI p)), some (.int kv), none] rfl rfl (Nat.le_of_ble_eq_true rfl) (by decide) ?_
  intro P_ E_ s M_ B_ T_ K_ C hv
  obtain ⟨hP, hD, hK, hZ⟩ := hv
  have hS : va_S (fun q => q ∈ LA a t) s.heap s.heap [] := va_S.rf
  refine g_aload0 C dX1_changeKind_0 ?_
  refine g_get (ci := 1) (T := TX1) (N := 12) C inX1 hK hP 0 rfl rfl 4 (by decide) wf_X1_25 ⟨rfl, rfl, rfl⟩ rfl dX1_changeKind_1 ?_
  refine g_iload1 C dX1_changeKind_4 ?_
  refine g_iald C hK hP 4 0 rfl rfl (by omega) (by decide) dX1_changeKind_5 ?_
  refine g_istore3 C rfl dX1_changeKind_6 ?_
  refine g_aload0 C dX1_changeKind_7 ?_
  refine g_get (ci := 1) (T := TX1) (N := 12) C inX1 hK hP 0 rfl rfl 4 (by decide) wf_X1_25 ⟨rfl, rfl, rfl⟩ rfl dX1_changeKind_8 ?_
  refine g_iload1 C dX1_changeKind_11 ?_
  refine g_iload2 C dX1_changeKind_12 ?_
  refine g_iast C hK hP hD hS 4 0 rfl rfl (by omega) (by decide) dX1_changeKind_13 (fun H locs hP hD hS => ?_)
  refine g_iload3 C dX1_changeKind_14 ?_
  exact g_iretM C hP hS (rfl) dX1_changeKind_15

set_option maxHeartbeats 4000000 in
set_option maxRecDepth 100000 in
theorem c_X1_charge {l : Launch} {dC : Nat → ClassId} {dI : Nat → Nat → Nat} {cI cL cJ : ClassId} {g1 g2 a : Nat} {t : Nat → Nat} {y : Int32} {d : RW} {r : Int64} {f : Nat} {x : Int32} (hf : f < 10) : Met l yX1_charge (.code yX1_charge cX1_charge 4 (some .int) :: WG) (rmL 1) (va_Pc [.ref a, .int (nI f), .int x] (LDM dC dI cI cL cJ g1 g2 a t y d r)) (bq_M (some (.int (q_pr d f x))) (fun H => va_P (dC, dI) vwCl (LW cI a t (y) (q_chg d f x) (r)) H) (fun q => q ∈ LA a t)) 0 0 ((fun q => q ∈ LA a t)) := by
  refine bq_of [some (.ref a), some (.int (nI f)), some (.int x), none] rfl rfl (Nat.le_of_ble_eq_true rfl) (by decide) ?_
  intro P_ E_ s M_ B_ T_ K_ C hv
  obtain ⟨hP, hD, hK, hZ⟩ := hv
  have hS : va_S (fun q => q ∈ LA a t) s.heap s.heap [] := va_S.rf
  refine g_aload0 C dX1_charge_0 ?_
  refine g_iload1 C dX1_charge_1 ?_
  refine g_iload2 C dX1_charge_2 ?_
  refine g_lcV2 C hK hP hZ hS (c_X1_priceFor (by omega)) wl_X1_91 wi_X1_priceFor wv_X1_priceFor wc_X1_priceFor (by decide +kernel) ⟨rfl, rfl, by decide, by decide⟩ rfl (by simp [Value.category]) ⟨by decide, by decide⟩ dX1_charge_3 ?_
  refine g_istore3 C rfl dX1_charge_6 ?_
  refine g_aload0 C dX1_charge_7 ?_
  refine g_get (ci := 1) (T := TX1) (N := 12) C inX1 hK hP 0 rfl rfl 2 (by decide) wf_X1_19 ⟨rfl, rfl, rfl⟩ rfl dX1_charge_8 ?_
  refine g_iload1 C dX1_charge_11 ?_
  refine g_dup2 C rfl rfl dX1_charge_12 ?_
  refine g_iald C hK hP 2 0 rfl rfl (by omega) (by decide) dX1_charge_13 ?_
  refine g_iload3 C dX1_charge_14 ?_
  refine g_iadd C dX1_charge_15 ?_
  refine g_iast C hK hP hD hS 2 0 rfl rfl (by omega) (by decide) dX1_charge_16 (fun H locs hP hD hS => ?_)
  refine g_iload3 C dX1_charge_17 ?_
  exact g_iretM C hP hS (rfl) dX1_charge_18

set_option maxHeartbeats 4000000 in
set_option maxRecDepth 100000 in
theorem c_X1_addBurial {l : Launch} {dC : Nat → ClassId} {dI : Nat → Nat → Nat} {cI cL cJ : ClassId} {g1 g2 a : Nat} {t : Nat → Nat} {y : Int32} {d : RW} {r : Int64} {f p dep : Nat} (hf : f < 10) (hp : p < 40) (hd1 : 1 ≤ dep) (hd3 : dep ≤ 3) : Met l yX1_addBurial (.code yX1_addBurial cX1_addBurial 6 (some .int) :: WG) (rmL 3) (va_Pc [.ref a, .int (nI f), .int (nI p), .int (nI dep)] (LDM dC dI cI cL cJ g1 g2 a t y d r)) (bq_M (some (.int (q_fee d y f p dep))) (fun H => va_P (dC, dI) vwCl (LW cI a t (y) (q_addB d y f p dep) (q_rw (q_addB d y f p dep) 0)) H) (fun q => q ∈ LA a t)) 0 0 ((fun q => q ∈ LA a t)) := by
  refine bq_of [some (.ref a), some (.int (nI f)), some (.int (nI p)), some (.int (nI dep)), none, none] rfl rfl (Nat.le_of_ble_eq_true rfl) (by decide) ?_
  intro P_ E_ s M_ B_ T_ K_ C hv
  obtain ⟨hP, hD, hK, hZ⟩ := hv
  have hS : va_S (fun q => q ∈ LA a t) s.heap s.heap [] := va_S.rf
  refine g_iload2 C dX1_addBurial_0 ?_
  refine g_iload3 C dX1_addBurial_1 ?_
  refine g_scS2 C (c_X1_placeOf (by omega) (by omega) (by omega)) wl_X1_62 wt_X1_placeOf wn_X1 wc_X1_placeOf (by decide +kernel) ⟨rfl, rfl, by decide, by decide⟩ rfl (by simp [Value.category]) ⟨by decide, by decide⟩ dX1_addBurial_2 ?_
  refine g_istore4 C rfl dX1_addBurial_5 ?_
  refine g_aload0 C dX1_addBurial_7 ?_
  refine g_iload1 C dX1_addBurial_8 ?_
  refine g_iload2 C dX1_addBurial_9 ?_
  refine g_iload3 C dX1_addBurial_10 ?_
  refine g_lcV3 C hK hP hZ hS (c_X1_burialFee (by omega) (by omega) (by omega)) wl_X1_66 wi_X1_burialFee wv_X1_burialFee wc_X1_burialFee (by decide +kernel) ⟨rfl, rfl, by decide, by decide⟩ rfl (by simp [Value.category]) ⟨by decide, by decide⟩ dX1_addBurial_11 ?_
  refine g_istore5 C rfl dX1_addBurial_14 ?_
  refine g_aload0 C dX1_addBurial_16 ?_
  refine g_get (ci := 1) (T := TX1) (N := 12) C inX1 hK hP 0 rfl rfl 8 (by decide) wf_X1_37 ⟨rfl, rfl, rfl⟩ rfl dX1_addBurial_17 ?_
  refine g_iload4 C dX1_addBurial_20 ?_
  refine g_iload1 C dX1_addBurial_22 ?_
  refine g_iast C hK hP hD hS 8 0 rfl rfl (by omega) (by decide) dX1_addBurial_23 (fun H locs hP hD hS => ?_)
  refine g_aload0 C dX1_addBurial_24 ?_
  refine g_get (ci := 1) (T := TX1) (N := 12) C inX1 hK hP 0 rfl rfl 9 (by decide) wf_X1_40 ⟨rfl, rfl, rfl⟩ rfl dX1_addBurial_25 ?_
  refine g_iload4 C dX1_addBurial_28 ?_
  refine g_aload0 C dX1_addBurial_30 ?_
  refine g_get (ci := 1) (T := TX1) (N := 12) C inX1 hK hP 0 rfl rfl 0 (by decide) wf_X1_9 ⟨rfl, rfl, rfl⟩ rfl dX1_addBurial_31 ?_
  refine g_iast C hK hP hD hS 9 0 rfl rfl (by omega) (by decide) dX1_addBurial_34 (fun H locs hP hD hS => ?_)
  refine g_aload0 C dX1_addBurial_35 ?_
  refine g_get (ci := 1) (T := TX1) (N := 12) C inX1 hK hP 0 rfl rfl 10 (by decide) wf_X1_43 ⟨rfl, rfl, rfl⟩ rfl dX1_addBurial_36 ?_
  refine g_iload4 C dX1_addBurial_39 ?_
  refine g_iload5 C dX1_addBurial_41 ?_
  refine g_iast C hK hP hD hS 10 0 rfl rfl (by omega) (by decide) dX1_addBurial_43 (fun H locs hP hD hS => ?_)
  refine g_aload0 C dX1_addBurial_44 ?_
  refine g_get (ci := 1) (T := TX1) (N := 12) C inX1 hK hP 0 rfl rfl 3 (by decide) wf_X1_22 ⟨rfl, rfl, rfl⟩ rfl dX1_addBurial_45 ?_
  refine g_iload1 C dX1_addBurial_48 ?_
  refine g_dup2 C rfl rfl dX1_addBurial_49 ?_
  refine g_iald C hK hP 3 0 rfl rfl (by omega) (by decide) dX1_addBurial_50 ?_
  refine g_iconst C (nI 1) (by decide) dX1_addBurial_51 ?_
  refine g_iadd C dX1_addBurial_52 ?_
  refine g_iast C hK hP hD hS 3 0 rfl rfl (by omega) (by decide) dX1_addBurial_53 (fun H locs hP hD hS => ?_)
  refine g_aload0 C dX1_addBurial_54 ?_
  refine g_get (ci := 1) (T := TX1) (N := 12) C inX1 hK hP 0 rfl rfl 2 (by decide) wf_X1_19 ⟨rfl, rfl, rfl⟩ rfl dX1_addBurial_55 ?_
  refine g_iload1 C dX1_addBurial_58 ?_
  refine g_dup2 C rfl rfl dX1_addBurial_59 ?_
  refine g_iald C hK hP 2 0 rfl rfl (by omega) (by decide) dX1_addBurial_60 ?_
  refine g_iload5 C dX1_addBurial_61 ?_
  refine g_iadd C dX1_addBurial_63 ?_
  refine g_iast C hK hP hD hS 2 0 rfl rfl (by omega) (by decide) dX1_addBurial_64 (fun H locs hP hD hS => ?_)
  have hP : va_P (dC, dI) vwCl (LW cI a t y (q_addB d y f p dep) r) H := hP
  have hD : va_D (fun q => q ∈ LA a t) (LW cI a t y (q_addB d y f p dep) r) := hD
  refine g_aload0 C dX1_addBurial_65 ?_
  refine g_aload0 C dX1_addBurial_66 ?_
  refine g_lconst C 0 (by decide) dX1_addBurial_67 ?_
  refine g_lcV1 C hK hP hZ hS (c_X1_reachedWithout) wl_X1_70 wi_X1_reachedWithout wv_X1_reachedWithout wc_X1_reachedWithout (by decide +kernel) ⟨rfl, rfl, by decide, by decide⟩ rfl (by simp [Value.category]) ⟨by decide, by decide⟩ dX1_addBurial_68 ?_
  refine g_put (ci := 1) (T := TX1) (N := 12) C inX1 tyX1 tyX1_ok nmX1 hK hP hD hS 0 rfl rfl 11 (by decide) wf_X1_48 ⟨rfl, rfl, rfl⟩ rfl rfl rfl (Nat.le_of_ble_eq_true rfl) dX1_addBurial_71 (fun H locs hP hD hS => ?_)
  refine g_iload5 C dX1_addBurial_74 ?_
  exact g_iretM C hP hS (rfl) dX1_addBurial_76

set_option maxHeartbeats 4000000 in
set_option maxRecDepth 100000 in
theorem c_X1_removeBurials {l : Launch} {dC : Nat → ClassId} {dI : Nat → Nat → Nat} {cI cL cJ : ClassId} {g1 g2 a : Nat} {t : Nat → Nat} {y : Int32} {d : RW} {r : Int64} {p : Nat} (hp : p < 40) : Met l yX1_removeBurials (.code yX1_removeBurials cX1_removeBurials 5 (some .int) :: WG) (rmL 3) (va_Pc [.ref a, .int (nI p)] (LDM dC dI cI cL cJ g1 g2 a t y d r)) (bq_M (some (.int (nI (q_bur d p)))) (fun H => va_P (dC, dI) vwCl (LW cI a t (y) (q_rm d p 3) (q_rw (q_rm d p 3) 0)) H) (fun q => q ∈ LA a t)) 0 0 ((fun q => q ∈ LA a t)) := by
  refine bq_of [some (.ref a), some (.int (nI p)), none, none, none] rfl rfl (Nat.le_of_ble_eq_true rfl) (by decide) ?_
  intro P_ E_ s M_ B_ T_ K_ C hv
  obtain ⟨hP, hD, hK, hZ⟩ := hv
  have hS : va_S (fun q => q ∈ LA a t) s.heap s.heap [] := va_S.rf
  refine g_aload0 C dX1_removeBurials_0 ?_
  refine g_iload1 C dX1_removeBurials_1 ?_
  refine g_lcV1 C hK hP hZ hS (c_X1_burialsIn (by omega)) wl_X1_58 wi_X1_burialsIn wv_X1_burialsIn wc_X1_burialsIn (by decide +kernel) ⟨rfl, rfl, by decide, by decide⟩ rfl (by simp [Value.category]) ⟨by decide, by decide⟩ dX1_removeBurials_2 ?_
  refine g_istore2 C rfl dX1_removeBurials_5 ?_
  refine g_iload1 C dX1_removeBurials_6 ?_
  refine g_iconst C (nI 3) (by decide) dX1_removeBurials_7 ?_
  refine g_imulN C dX1_removeBurials_8 ?_
  refine g_istore3 C rfl dX1_removeBurials_9 ?_
  refine g_iload3 C dX1_removeBurials_10 ?_
  refine g_istore4 C rfl dX1_removeBurials_11 ?_
  have hP : va_P (dC, dI) vwCl (LW cI a t y (q_rm d p 0) r) s.heap := hP
  have hD : va_D (fun q => q ∈ LA a t) (LW cI a t y (q_rm d p 0) r) := hD
  refine g_lpH (A1 := Nat) (fun j H locs => j ≤ 3 ∧ va_P (dC, dI) vwCl (LW cI a t y (q_rm d p j) r) H ∧ va_D (fun q => q ∈ LA a t) (LW cI a t y (q_rm d p j) r) ∧ va_S (fun q => q ∈ LA a t) s.heap H locs) (fun j => 3 - j) (fun j => [some (.ref a), some (.int (nI p)), some (.int (nI (q_bur d p))), some (.int (nI (p * 3))), some (.int (nI (p * 3 + j)))]) 0 ⟨by omega, hP, hD, hS⟩ rfl ?_
  rintro j H locs ⟨hj, hP, hD, hS⟩ ih
  try dsimp only at ih ⊢
  refine g_iload4 C dX1_removeBurials_13 ?_
  refine g_iload3 C dX1_removeBurials_15 ?_
  refine g_iconst C (nI 3) (by decide) dX1_removeBurials_16 ?_
  refine g_iaddN C dX1_removeBurials_17 ?_
  refine g_icmp_geN C (by omega) (by omega) 51 dX1_removeBurials_18 (by decide) (fun h18 => ?_) (fun h18 => ?_)
  · obtain rfl : j = 3 := by omega
    refine g_aload0 C dX1_removeBurials_51 ?_
    refine g_aload0 C dX1_removeBurials_52 ?_
    refine g_lconst C 0 (by decide) dX1_removeBurials_53 ?_
    refine g_lcV1 C hK hP hZ hS (c_X1_reachedWithout) wl_X1_70 wi_X1_reachedWithout wv_X1_reachedWithout wc_X1_reachedWithout (by decide +kernel) ⟨rfl, rfl, by decide, by decide⟩ rfl (by simp [Value.category]) ⟨by decide, by decide⟩ dX1_removeBurials_54 ?_
    refine g_put (ci := 1) (T := TX1) (N := 12) C inX1 tyX1 tyX1_ok nmX1 hK hP hD hS 0 rfl rfl 11 (by decide) wf_X1_48 ⟨rfl, rfl, rfl⟩ rfl rfl rfl (Nat.le_of_ble_eq_true rfl) dX1_removeBurials_57 (fun H locs hP hD hS => ?_)
    refine g_iload2 C dX1_removeBurials_60 ?_
    exact g_iretM C hP hS (rfl) dX1_removeBurials_61
  · refine g_aload0 C dX1_removeBurials_21 ?_
    refine g_get (ci := 1) (T := TX1) (N := 12) C inX1 hK hP 0 rfl rfl 8 (by decide) wf_X1_37 ⟨rfl, rfl, rfl⟩ rfl dX1_removeBurials_22 ?_
    refine g_iload4 C dX1_removeBurials_25 ?_
    refine g_iconst C (-1) (by decide) dX1_removeBurials_27 ?_
    refine g_iast C hK hP hD hS 8 0 rfl rfl (by omega) (by decide) dX1_removeBurials_28 (fun H locs hP hD hS => ?_)
    refine g_aload0 C dX1_removeBurials_29 ?_
    refine g_get (ci := 1) (T := TX1) (N := 12) C inX1 hK hP 0 rfl rfl 9 (by decide) wf_X1_40 ⟨rfl, rfl, rfl⟩ rfl dX1_removeBurials_30 ?_
    refine g_iload4 C dX1_removeBurials_33 ?_
    refine g_iconst C (-1) (by decide) dX1_removeBurials_35 ?_
    refine g_iast C hK hP hD hS 9 0 rfl rfl (by omega) (by decide) dX1_removeBurials_36 (fun H locs hP hD hS => ?_)
    refine g_aload0 C dX1_removeBurials_37 ?_
    refine g_get (ci := 1) (T := TX1) (N := 12) C inX1 hK hP 0 rfl rfl 10 (by decide) wf_X1_43 ⟨rfl, rfl, rfl⟩ rfl dX1_removeBurials_38 ?_
    refine g_iload4 C dX1_removeBurials_41 ?_
    refine g_iconst C (-1) (by decide) dX1_removeBurials_43 ?_
    refine g_iast C hK hP hD hS 10 0 rfl rfl (by omega) (by decide) dX1_removeBurials_44 (fun H locs hP hD hS => ?_)
    refine g_iinc4 C _ rfl dX1_removeBurials_45 (nI_1 _) ?_
    refine g_goto C 13 dX1_removeBurials_48 (by decide) ?_
    exact ih (j + 1) H locs ⟨by omega, hP, hD, hS⟩ (by show 3 - (j + 1) < 3 - j; omega)

set_option maxHeartbeats 4000000 in
set_option maxRecDepth 100000 in
theorem c_X1_addReservation {l : Launch} {dC : Nat → ClassId} {dI : Nat → Nat → Nat} {cI cL cJ : ClassId} {g1 g2 a : Nat} {t : Nat → Nat} {y : Int32} {d : RW} {r : Int64} {f p n : Nat} (hf : f < 10) (hp : p < 40) : Met l yX1_addReservation (.code yX1_addReservation cX1_addReservation 5 (some .int) :: WG) (rmL 2) (va_Pc [.ref a, .int (nI f), .int (nI p), .int (nI n)] (LDM dC dI cI cL cJ g1 g2 a t y d r)) (bq_M (some (.int (q_pr d f (nI (2 * n))))) (fun H => va_P (dC, dI) vwCl (LW cI a t (y) (q_addR d y f p n) (r)) H) (fun q => q ∈ LA a t)) 0 0 ((fun q => q ∈ LA a t)) := by
  refine bq_of [some (.ref a), some (.int (nI f)), some (.int (nI p)), some (.int (nI n)), none] rfl rfl (Nat.le_of_ble_eq_true rfl) (by decide) ?_
  intro P_ E_ s M_ B_ T_ K_ C hv
  obtain ⟨hP, hD, hK, hZ⟩ := hv
  have hS : va_S (fun q => q ∈ LA a t) s.heap s.heap [] := va_S.rf
  refine g_aload0 C dX1_addReservation_0 ?_
  refine g_iload1 C dX1_addReservation_1 ?_
  refine g_iload2 C dX1_addReservation_2 ?_
  refine g_lcV2 C hK hP hZ hS (c_X1_hasReservation (by omega) (by omega)) wl_X1_81 wi_X1_hasReservation wv_X1_hasReservation wc_X1_hasReservation (by decide +kernel) ⟨rfl, rfl, by decide, by decide⟩ rfl (by simp [Value.category]) ⟨by decide, by decide⟩ dX1_addReservation_3 ?_
  refine g_d1 (v := if d 5 p = nI f ∧ q_kept d y p then d 6 p else y) 22 (fun K6 => ?_) ?_
  · skip
    refine g_if_eqB C 18 dX1_addReservation_6 (by decide) (fun h6 => ?_) (fun h6 => ?_)
    · refine g_aload0 C dX1_addReservation_18 ?_
      refine g_get (ci := 1) (T := TX1) (N := 12) C inX1 hK hP 0 rfl rfl 0 (by decide) wf_X1_9 ⟨rfl, rfl, rfl⟩ rfl dX1_addReservation_19 ?_
      exact K6 _ (by first | exact (if_pos h6).symm | exact (if_neg h6).symm)
    · refine g_aload0 C dX1_addReservation_9 ?_
      refine g_get (ci := 1) (T := TX1) (N := 12) C inX1 hK hP 0 rfl rfl 7 (by decide) wf_X1_34 ⟨rfl, rfl, rfl⟩ rfl dX1_addReservation_10 ?_
      refine g_iload2 C dX1_addReservation_13 ?_
      refine g_iald C hK hP 7 0 rfl rfl (by omega) (by decide) dX1_addReservation_14 ?_
      refine g_goto C 22 dX1_addReservation_15 (by decide) ?_
      exact K6 _ (by first | exact (if_pos h6).symm | exact (if_neg h6).symm)
  refine g_istore4 C rfl dX1_addReservation_22 ?_
  refine g_aload0 C dX1_addReservation_24 ?_
  refine g_get (ci := 1) (T := TX1) (N := 12) C inX1 hK hP 0 rfl rfl 6 (by decide) wf_X1_31 ⟨rfl, rfl, rfl⟩ rfl dX1_addReservation_25 ?_
  refine g_iload2 C dX1_addReservation_28 ?_
  refine g_iload1 C dX1_addReservation_29 ?_
  refine g_iast C hK hP hD hS 6 0 rfl rfl (by omega) (by decide) dX1_addReservation_30 (fun H locs hP hD hS => ?_)
  refine g_aload0 C dX1_addReservation_31 ?_
  refine g_get (ci := 1) (T := TX1) (N := 12) C inX1 hK hP 0 rfl rfl 7 (by decide) wf_X1_34 ⟨rfl, rfl, rfl⟩ rfl dX1_addReservation_32 ?_
  refine g_iload2 C dX1_addReservation_35 ?_
  refine g_iload4 C dX1_addReservation_36 ?_
  refine g_iload3 C dX1_addReservation_38 ?_
  refine g_iadd C dX1_addReservation_39 ?_
  refine g_iast C hK hP hD hS 7 0 rfl rfl (by omega) (by decide) dX1_addReservation_40 (fun H locs hP hD hS => ?_)
  have hP : va_P (dC, dI) vwCl (LW cI a t y (q_up (q_up d 5 p (nI f)) 6 p ((if d 5 p = nI f ∧ q_kept d y p then d 6 p else y) + nI n)) r) H := hP
  have hD : va_D (fun q => q ∈ LA a t) (LW cI a t y (q_up (q_up d 5 p (nI f)) 6 p ((if d 5 p = nI f ∧ q_kept d y p then d 6 p else y) + nI n)) r) := hD
  refine g_aload0 C dX1_addReservation_41 ?_
  refine g_iload1 C dX1_addReservation_42 ?_
  refine g_iconst C (nI 2) (by decide) dX1_addReservation_43 ?_
  refine g_iload3 C dX1_addReservation_44 ?_
  refine g_imulN C dX1_addReservation_45 ?_
  refine g_mV (As := [.int (nI f), .int (nI (2 * n))]) C 2 rfl (c_X1_charge (by omega)) wl_X1_84 wi_X1_charge wv_X1_charge wn_X1 wc_X1_charge (by decide +kernel) ⟨rfl, rfl, by decide, by decide⟩ LDM_bl (va_recv (ci := 1) (q0 := 0) hK hP rfl rfl) (LDM_at hK hP hD hZ hS (fun _ h => h)) rfl rfl (by simp [Value.category]) ⟨by decide, by decide⟩ hS (fun _ h => h) dX1_addReservation_46 (fun H locs hP _ _ hS => ?_)
  have hD : va_D (fun q => q ∈ LA a t) (LW cI a t y (q_addR d y f p n) r) := hD.fst rfl
  exact g_iretM C hP hS (rfl) dX1_addReservation_49

set_option maxHeartbeats 4000000 in
set_option maxRecDepth 100000 in
theorem c_X1_addVault {l : Launch} {dC : Nat → ClassId} {dI : Nat → Nat → Nat} {cI cL cJ : ClassId} {g1 g2 a : Nat} {t : Nat → Nat} {y : Int32} {d : RW} {r : Int64} {f p : Nat} (hf : f < 10) (hp : p < 40) : Met l yX1_addVault (.code yX1_addVault cX1_addVault 3 (some .int) :: WG) (rmL 2) (va_Pc [.ref a, .int (nI f), .int (nI p)] (LDM dC dI cI cL cJ g1 g2 a t y d r)) (bq_M (some (.int (q_pr d f (nI 100)))) (fun H => va_P (dC, dI) vwCl (LW cI a t (y) (q_addV d f p) (r)) H) (fun q => q ∈ LA a t)) 0 0 ((fun q => q ∈ LA a t)) := by
  refine bq_of [some (.ref a), some (.int (nI f)), some (.int (nI p))] rfl rfl (Nat.le_of_ble_eq_true rfl) (by decide) ?_
  intro P_ E_ s M_ B_ T_ K_ C hv
  obtain ⟨hP, hD, hK, hZ⟩ := hv
  have hS : va_S (fun q => q ∈ LA a t) s.heap s.heap [] := va_S.rf
  refine g_aload0 C dX1_addVault_0 ?_
  refine g_get (ci := 1) (T := TX1) (N := 12) C inX1 hK hP 0 rfl rfl 5 (by decide) wf_X1_28 ⟨rfl, rfl, rfl⟩ rfl dX1_addVault_1 ?_
  refine g_iload2 C dX1_addVault_4 ?_
  refine g_iload1 C dX1_addVault_5 ?_
  refine g_iast C hK hP hD hS 5 0 rfl rfl (by omega) (by decide) dX1_addVault_6 (fun H locs hP hD hS => ?_)
  refine g_aload0 C dX1_addVault_7 ?_
  refine g_get (ci := 1) (T := TX1) (N := 12) C inX1 hK hP 0 rfl rfl 6 (by decide) wf_X1_31 ⟨rfl, rfl, rfl⟩ rfl dX1_addVault_8 ?_
  refine g_iload2 C dX1_addVault_11 ?_
  refine g_iconst C (-1) (by decide) dX1_addVault_12 ?_
  refine g_iast C hK hP hD hS 6 0 rfl rfl (by omega) (by decide) dX1_addVault_13 (fun H locs hP hD hS => ?_)
  refine g_aload0 C dX1_addVault_14 ?_
  refine g_get (ci := 1) (T := TX1) (N := 12) C inX1 hK hP 0 rfl rfl 7 (by decide) wf_X1_34 ⟨rfl, rfl, rfl⟩ rfl dX1_addVault_15 ?_
  refine g_iload2 C dX1_addVault_18 ?_
  refine g_iconst C (-1) (by decide) dX1_addVault_19 ?_
  refine g_iast C hK hP hD hS 7 0 rfl rfl (by omega) (by decide) dX1_addVault_20 (fun H locs hP hD hS => ?_)
  have hP : va_P (dC, dI) vwCl (LW cI a t y (q_up (q_up (q_up d 4 p (nI f)) 5 p (-1)) 6 p (-1)) r) H := hP
  have hD : va_D (fun q => q ∈ LA a t) (LW cI a t y (q_up (q_up (q_up d 4 p (nI f)) 5 p (-1)) 6 p (-1)) r) := hD
  refine g_aload0 C dX1_addVault_21 ?_
  refine g_iload1 C dX1_addVault_22 ?_
  refine g_bipush C (nI 100) (by decide) dX1_addVault_23 ?_
  refine g_mV (As := [.int (nI f), .int (nI 100)]) C 2 rfl (c_X1_charge (by omega)) wl_X1_84 wi_X1_charge wv_X1_charge wn_X1 wc_X1_charge (by decide +kernel) ⟨rfl, rfl, by decide, by decide⟩ LDM_bl (va_recv (ci := 1) (q0 := 0) hK hP rfl rfl) (LDM_at hK hP hD hZ hS (fun _ h => h)) rfl rfl (by simp [Value.category]) ⟨by decide, by decide⟩ hS (fun _ h => h) dX1_addVault_25 (fun H locs hP _ _ hS => ?_)
  have hD : va_D (fun q => q ∈ LA a t) (LW cI a t y (q_addV d f p) r) := hD.fst rfl
  exact g_iretM C hP hS (rfl) dX1_addVault_28
