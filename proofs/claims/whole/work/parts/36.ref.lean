set_option maxHeartbeats 4000000 in
set_option maxRecDepth 100000 in
theorem c_X3_buries {l : Launch} {dC : Nat → ClassId} {dI : Nat → Nat → Nat} {cI cL cJ : ClassId} {o : Nat} {t : Nat → Nat} {A : RW} {i : Nat → Int32} {h : Int64} {f p dep : Nat} (hf : f < 10) (hp : p < 40) (hd1 : 1 ≤ dep) (hd3 : dep ≤ 3) : Met l yX3_buries (.code yX3_buries cX3_buries 6 (some .int) :: WG) (rmL 2) (va_Pc [.ref o, .int (nI f), .int (nI p), .int (nI dep)] (MDM dC dI cI cL cJ o t A i h)) (bq_M (some (.int (q_fee (q_nz (A 0)) (i 3) f p dep))) (fun H => va_P (dC, dI) vwCl (MW cI o t (q_s1 A 0 (q_zb (A 0) (q_fee (q_nz (A 0)) (i 3) f p dep) f (3 * p + dep - 1))) i h) H) (fun q => q ∈ MA o t)) 0 0 ((fun q => q ∈ MA o t)) := by
  refine bq_of [some (.ref o), some (.int (nI f)), some (.int (nI p)), some (.int (nI dep)), none, none] rfl rfl (Nat.le_of_ble_eq_true rfl) (by decide) ?_
  intro P_ E_ s M_ B_ T_ K_ C hv
  obtain ⟨hP, hD, hK⟩ := hv
  have hS : va_S (fun q => q ∈ MA o t) s.heap s.heap [] := va_S.rf
  refine g_aload0 C dX3_buries_0 ?_
  refine g_iload1 C dX3_buries_1 ?_
  refine g_iload2 C dX3_buries_2 ?_
  refine g_iload3 C dX3_buries_3 ?_
  refine g_mcV3 C hK hP (c_X3_price (by omega) (by omega) (by omega)) wl_X3_108 wi_X3_price wv_X3_price wc_X3_price (by decide +kernel) ⟨rfl, rfl, by decide, by decide⟩ rfl (by simp [Value.category]) ⟨by decide, by decide⟩ dX3_buries_4 ?_
  refine g_istore4 C rfl dX3_buries_7 ?_
  refine g_iconst C (nI 3) (by decide) dX3_buries_9 ?_
  refine g_iload2 C dX3_buries_10 ?_
  refine g_imulN C dX3_buries_11 ?_
  refine g_iload3 C dX3_buries_12 ?_
  refine g_iaddN C dX3_buries_13 ?_
  refine g_iconst C (nI 1) (by decide) dX3_buries_14 ?_
  refine g_isubN C (by omega) dX3_buries_15 ?_
  refine g_istore5 C rfl dX3_buries_16 ?_
  refine g_aload0 C dX3_buries_18 ?_
  refine g_get (ci := 3) (T := TX3) (N := 16) C inX3 hK hP 0 rfl rfl 0 (by decide) wf_X3_7 ⟨rfl, rfl, rfl⟩ rfl dX3_buries_19 ?_
  refine g_sipush C (nI 160) (by decide) dX3_buries_22 ?_
  refine g_iload5 C dX3_buries_25 ?_
  refine g_iaddN C dX3_buries_27 ?_
  refine g_iload1 C dX3_buries_28 ?_
  refine g_iast C hK hP hD hS 1 0 rfl rfl (by omega) (by decide) dX3_buries_29 (fun H locs hP hD hS => ?_)
  have hP : va_P (dC, dI) vwCl (MW cI o t (q_s1 A 0 (upd (A 0) (160 + (3 * p + dep - 1)) (nI f))) (i) (h)) H := hP
  have hD : va_D (fun q => q ∈ MA o t) (MW cI o t (q_s1 A 0 (upd (A 0) (160 + (3 * p + dep - 1)) (nI f))) (i) (h)) := hD.fst rfl
  refine g_aload0 C dX3_buries_30 ?_
  refine g_get (ci := 3) (T := TX3) (N := 16) C inX3 hK hP 0 rfl rfl 0 (by decide) wf_X3_7 ⟨rfl, rfl, rfl⟩ rfl dX3_buries_31 ?_
  refine g_sipush C (nI 280) (by decide) dX3_buries_34 ?_
  refine g_iload5 C dX3_buries_37 ?_
  refine g_iaddN C dX3_buries_39 ?_
  refine g_aload0 C dX3_buries_40 ?_
  refine g_get (ci := 3) (T := TX3) (N := 16) C inX3 hK hP 0 rfl rfl 0 (by decide) wf_X3_7 ⟨rfl, rfl, rfl⟩ rfl dX3_buries_41 ?_
  refine g_sipush C (nI 550) (by decide) dX3_buries_44 ?_
  refine g_iald C hK hP 1 0 rfl rfl (by omega) (by decide) dX3_buries_47 ?_
  rw [show q_s1 A 0 (upd (A 0) (160 + (3 * p + dep - 1)) (nI f)) 0 550 = A 0 550 from if_neg (by omega)]
  refine g_iast C hK hP hD hS 1 0 rfl rfl (by omega) (by decide) dX3_buries_48 (fun H locs hP hD hS => ?_)
  have hP : va_P (dC, dI) vwCl (MW cI o t (q_s1 A 0 (upd (upd (A 0) (160 + (3 * p + dep - 1)) (nI f)) (280 + (3 * p + dep - 1)) (A 0 550))) (i) (h)) H := hP
  have hD : va_D (fun q => q ∈ MA o t) (MW cI o t (q_s1 A 0 (upd (upd (A 0) (160 + (3 * p + dep - 1)) (nI f)) (280 + (3 * p + dep - 1)) (A 0 550))) (i) (h)) := hD.fst rfl
  refine g_aload0 C dX3_buries_49 ?_
  refine g_get (ci := 3) (T := TX3) (N := 16) C inX3 hK hP 0 rfl rfl 0 (by decide) wf_X3_7 ⟨rfl, rfl, rfl⟩ rfl dX3_buries_50 ?_
  refine g_sipush C (nI 400) (by decide) dX3_buries_53 ?_
  refine g_iload5 C dX3_buries_56 ?_
  refine g_iaddN C dX3_buries_58 ?_
  refine g_iload4 C dX3_buries_59 ?_
  refine g_iast C hK hP hD hS 1 0 rfl rfl (by omega) (by decide) dX3_buries_61 (fun H locs hP hD hS => ?_)
  have hP : va_P (dC, dI) vwCl (MW cI o t (q_s1 A 0 (upd (upd (upd (A 0) (160 + (3 * p + dep - 1)) (nI f)) (280 + (3 * p + dep - 1)) (A 0 550)) (400 + (3 * p + dep - 1)) (q_fee (q_nz (A 0)) (i 3) f p dep))) (i) (h)) H := hP
  have hD : va_D (fun q => q ∈ MA o t) (MW cI o t (q_s1 A 0 (upd (upd (upd (A 0) (160 + (3 * p + dep - 1)) (nI f)) (280 + (3 * p + dep - 1)) (A 0 550)) (400 + (3 * p + dep - 1)) (q_fee (q_nz (A 0)) (i 3) f p dep))) (i) (h)) := hD.fst rfl
  refine g_aload0 C dX3_buries_62 ?_
  refine g_get (ci := 3) (T := TX3) (N := 16) C inX3 hK hP 0 rfl rfl 0 (by decide) wf_X3_7 ⟨rfl, rfl, rfl⟩ rfl dX3_buries_63 ?_
  refine g_sipush C (nI 530) (by decide) dX3_buries_66 ?_
  refine g_iload1 C dX3_buries_69 ?_
  refine g_iaddN C dX3_buries_70 ?_
  refine g_dup2 C rfl rfl dX3_buries_71 ?_
  refine g_iald C hK hP 1 0 rfl rfl (by omega) (by decide) dX3_buries_72 ?_
  refine g_iload4 C dX3_buries_73 ?_
  refine g_iadd C dX3_buries_75 ?_
  refine g_iast C hK hP hD hS 1 0 rfl rfl (by omega) (by decide) dX3_buries_76 (fun H locs hP hD hS => ?_)
  have hP : va_P (dC, dI) vwCl (MW cI o t (q_s1 A 0 (q_zp (upd (upd (upd (A 0) (160 + (3 * p + dep - 1)) (nI f)) (280 + (3 * p + dep - 1)) (A 0 550)) (400 + (3 * p + dep - 1)) (q_fee (q_nz (A 0)) (i 3) f p dep)) (q_fee (q_nz (A 0)) (i 3) f p dep) f)) (i) (h)) H := hP
  have hD : va_D (fun q => q ∈ MA o t) (MW cI o t (q_s1 A 0 (q_zp (upd (upd (upd (A 0) (160 + (3 * p + dep - 1)) (nI f)) (280 + (3 * p + dep - 1)) (A 0 550)) (400 + (3 * p + dep - 1)) (q_fee (q_nz (A 0)) (i 3) f p dep)) (q_fee (q_nz (A 0)) (i 3) f p dep) f)) (i) (h)) := hD.fst rfl
  refine g_aload0 C dX3_buries_77 ?_
  refine g_get (ci := 3) (T := TX3) (N := 16) C inX3 hK hP 0 rfl rfl 0 (by decide) wf_X3_7 ⟨rfl, rfl, rfl⟩ rfl dX3_buries_78 ?_
  refine g_sipush C (nI 540) (by decide) dX3_buries_81 ?_
  refine g_iload1 C dX3_buries_84 ?_
  refine g_iaddN C dX3_buries_85 ?_
  refine g_dup2 C rfl rfl dX3_buries_86 ?_
  refine g_iald C hK hP 1 0 rfl rfl (by omega) (by decide) dX3_buries_87 ?_
  refine g_iconst C (nI 1) (by decide) dX3_buries_88 ?_
  refine g_iadd C dX3_buries_89 ?_
  refine g_iast C hK hP hD hS 1 0 rfl rfl (by omega) (by decide) dX3_buries_90 (fun H locs hP hD hS => ?_)
  have hP : va_P (dC, dI) vwCl (MW cI o t (q_s1 A 0 (q_zb (A 0) (q_fee (q_nz (A 0)) (i 3) f p dep) f (3 * p + dep - 1))) (i) (h)) H := hP
  have hD : va_D (fun q => q ∈ MA o t) (MW cI o t (q_s1 A 0 (q_zb (A 0) (q_fee (q_nz (A 0)) (i 3) f p dep) f (3 * p + dep - 1))) (i) (h)) := hD.fst rfl
  refine g_iload4 C dX3_buries_91 ?_
  exact g_iretM C hP hS rfl dX3_buries_93

set_option maxHeartbeats 4000000 in
set_option maxRecDepth 100000 in
theorem c_X3_reserves {l : Launch} {dC : Nat → ClassId} {dI : Nat → Nat → Nat} {cI cL cJ : ClassId} {o : Nat} {t : Nat → Nat} {A : RW} {i : Nat → Int32} {h : Int64} {f p n : Nat} (hf : f < 10) (hp : p < 40) (hny : n ≤ 50) : Met l yX3_reserves (.code yX3_reserves cX3_reserves 5 (some .int) :: WG) (rmL 1) (va_Pc [.ref o, .int (nI f), .int (nI p), .int (nI n)] (MDM dC dI cI cL cJ o t A i h)) (bq_M (some (.int (q_zcr (q_zr2 (A 0) (q_zup (A 0) (i 3) p n) f p) f n))) (fun H => va_P (dC, dI) vwCl (MW cI o t (q_s1 A 0 (q_zrs (A 0) (i 3) f p n)) i h) H) (fun q => q ∈ MA o t)) 0 0 ((fun q => q ∈ MA o t)) := by
  refine bq_of [some (.ref o), some (.int (nI f)), some (.int (nI p)), some (.int (nI n)), none] rfl rfl (Nat.le_of_ble_eq_true rfl) (by decide) ?_
  intro P_ E_ s M_ B_ T_ K_ C hv
  obtain ⟨hP, hD, hK⟩ := hv
  have hS : va_S (fun q => q ∈ MA o t) s.heap s.heap [] := va_S.rf
  refine g_aload0 C dX3_reserves_0 ?_
  refine g_get (ci := 3) (T := TX3) (N := 16) C inX3 hK hP 0 rfl rfl 0 (by decide) wf_X3_7 ⟨rfl, rfl, rfl⟩ rfl dX3_reserves_1 ?_
  refine g_bipush C (nI 120) (by decide) dX3_reserves_4 ?_
  refine g_iload2 C dX3_reserves_6 ?_
  refine g_iaddN C dX3_reserves_7 ?_
  refine g_aload0 C dX3_reserves_8 ?_
  refine g_iload2 C dX3_reserves_9 ?_
  refine g_mcV1 C hK hP (c_X3_isKept (by omega)) wl_X3_56 wi_X3_isKept wv_X3_isKept wc_X3_isKept (by decide +kernel) ⟨rfl, rfl, by decide, by decide⟩ rfl (by simp [Value.category]) ⟨by decide, by decide⟩ dX3_reserves_10 ?_
  refine g_d1 (v := q_zup (A 0) (i 3) p n) 40 (fun K13 => ?_) ?_
  · skip
    refine g_if_eqB C 30 dX3_reserves_13 (by decide) (fun h13 => ?_) (fun h13 => ?_)
    · refine g_aload0 C dX3_reserves_30 ?_
      refine g_get (ci := 3) (T := TX3) (N := 16) C inX3 hK hP 0 rfl rfl 0 (by decide) wf_X3_7 ⟨rfl, rfl, rfl⟩ rfl dX3_reserves_31 ?_
      refine g_sipush C (nI 550) (by decide) dX3_reserves_34 ?_
      refine g_iald C hK hP 1 0 rfl rfl (by omega) (by decide) dX3_reserves_37 ?_
      refine g_iload3 C dX3_reserves_38 ?_
      refine g_iadd C dX3_reserves_39 ?_
      exact K13 _ (by unfold q_zup; rw [if_neg h13])
    · refine g_aload0 C dX3_reserves_16 ?_
      refine g_get (ci := 3) (T := TX3) (N := 16) C inX3 hK hP 0 rfl rfl 0 (by decide) wf_X3_7 ⟨rfl, rfl, rfl⟩ rfl dX3_reserves_17 ?_
      refine g_bipush C (nI 120) (by decide) dX3_reserves_20 ?_
      refine g_iload2 C dX3_reserves_22 ?_
      refine g_iaddN C dX3_reserves_23 ?_
      refine g_zal C hK hP (by omega) (zr6 (k := p) (by omega) (by omega)) dX3_reserves_24 ?_
      refine g_iload3 C dX3_reserves_25 ?_
      refine g_iadd C dX3_reserves_26 ?_
      refine g_goto C 40 dX3_reserves_27 (by decide) ?_
      exact K13 _ (by unfold q_zup; rw [if_pos h13])
  refine g_iast C hK hP hD hS 1 0 rfl rfl (by omega) (by decide) dX3_reserves_40 (fun H locs hP hD hS => ?_)
  have hP : va_P (dC, dI) vwCl (MW cI o t (q_s1 A 0 (upd (A 0) (120 + p) (q_zup (A 0) (i 3) p n))) (i) (h)) H := hP
  have hD : va_D (fun q => q ∈ MA o t) (MW cI o t (q_s1 A 0 (upd (A 0) (120 + p) (q_zup (A 0) (i 3) p n))) (i) (h)) := hD.fst rfl
  refine g_aload0 C dX3_reserves_41 ?_
  refine g_get (ci := 3) (T := TX3) (N := 16) C inX3 hK hP 0 rfl rfl 0 (by decide) wf_X3_7 ⟨rfl, rfl, rfl⟩ rfl dX3_reserves_42 ?_
  refine g_bipush C (nI 80) (by decide) dX3_reserves_45 ?_
  refine g_iload2 C dX3_reserves_47 ?_
  refine g_iaddN C dX3_reserves_48 ?_
  refine g_iload1 C dX3_reserves_49 ?_
  refine g_iast C hK hP hD hS 1 0 rfl rfl (by omega) (by decide) dX3_reserves_50 (fun H locs hP hD hS => ?_)
  have hP : va_P (dC, dI) vwCl (MW cI o t (q_s1 A 0 (q_zr2 (A 0) (q_zup (A 0) (i 3) p n) f p)) (i) (h)) H := hP
  have hD : va_D (fun q => q ∈ MA o t) (MW cI o t (q_s1 A 0 (q_zr2 (A 0) (q_zup (A 0) (i 3) p n) f p)) (i) (h)) := hD.fst rfl
  refine g_aload0 C dX3_reserves_51 ?_
  refine g_get (ci := 3) (T := TX3) (N := 16) C inX3 hK hP 0 rfl rfl 0 (by decide) wf_X3_7 ⟨rfl, rfl, rfl⟩ rfl dX3_reserves_52 ?_
  refine g_sipush C (nI 520) (by decide) dX3_reserves_55 ?_
  refine g_iload1 C dX3_reserves_58 ?_
  refine g_iaddN C dX3_reserves_59 ?_
  refine g_zal C hK hP (by omega) (zr0 (k := f) (by omega) (by omega)) dX3_reserves_60 ?_
  refine g_iconst C (nI 1) (by decide) dX3_reserves_61 ?_
  refine g_d2 (v := q_zcr (q_zr2 (A 0) (q_zup (A 0) (i 3) p n) f p) f n) 74 (fun K62 => ?_) ?_
  · skip
    refine g_icmp_ne C 71 dX3_reserves_62 (by decide) (fun h62 => ?_) (fun h62 => ?_)
    · refine g_iconst C (nI 4) (by decide) dX3_reserves_71 ?_
      refine g_iload3 C dX3_reserves_72 ?_
      refine g_imulN C dX3_reserves_73 ?_
      exact K62 _ (by unfold q_zcr; exact (if_neg h62).symm)
    · refine g_iconst C (nI 2) (by decide) dX3_reserves_65 ?_
      refine g_iload3 C dX3_reserves_66 ?_
      refine g_imulN C dX3_reserves_67 ?_
      refine g_goto C 74 dX3_reserves_68 (by decide) ?_
      exact K62 _ (by unfold q_zcr; exact (if_pos h62).symm)
  refine g_istore4 C rfl dX3_reserves_74 ?_
  refine g_aload0 C dX3_reserves_76 ?_
  refine g_get (ci := 3) (T := TX3) (N := 16) C inX3 hK hP 0 rfl rfl 0 (by decide) wf_X3_7 ⟨rfl, rfl, rfl⟩ rfl dX3_reserves_77 ?_
  refine g_sipush C (nI 530) (by decide) dX3_reserves_80 ?_
  refine g_iload1 C dX3_reserves_83 ?_
  refine g_iaddN C dX3_reserves_84 ?_
  refine g_dup2 C rfl rfl dX3_reserves_85 ?_
  refine g_iald C hK hP 1 0 rfl rfl (by omega) (by decide) dX3_reserves_86 ?_
  refine g_iload4 C dX3_reserves_87 ?_
  refine g_iadd C dX3_reserves_89 ?_
  refine g_iast C hK hP hD hS 1 0 rfl rfl (by omega) (by decide) dX3_reserves_90 (fun H locs hP hD hS => ?_)
  refine g_iload4 C dX3_reserves_91 ?_
  exact g_iretM C hP hS rfl dX3_reserves_93

set_option maxHeartbeats 4000000 in
set_option maxRecDepth 100000 in
theorem c_X3_bury {l : Launch} {dC : Nat → ClassId} {dI : Nat → Nat → Nat} {cI cL cJ : ClassId} {o : Nat} {t : Nat → Nat} {A : RW} {i : Nat → Int32} {h : Int64} {n : Nat} (hn : n ≤ 6) (hi0 : i 0 = nI n) (hki : INV (q_nz (A 0))) {f p dep : Int32} : Met l yX3_bury (.code yX3_bury cX3_bury 4 (some .int) :: WG) (rmL 5) (va_Pc [.ref o, .int f, .int p, .int dep] (MDM dC dI cI cL cJ o t A i h)) (bq_M (some (.int (if k_bury (q_nz (A 0)) (A 0 550) f p dep = 0 then q_fee (q_nz (A 0)) (A 0 550) (q_n f) (q_n p) (q_n dep) else nI 0))) (PM dC dI cI o t (A 0) (A 1) (A 2) (i 1) n (k_bury (q_nz (A 0)) (A 0 550) f p dep) (if k_bury (q_nz (A 0)) (A 0 550) f p dep = 0 then q_zb (A 0) (q_fee (q_nz (A 0)) (A 0 550) (q_n f) (q_n p) (q_n dep)) (q_n f) (3 * q_n p + q_n dep - 1) else A 0)) (fun q => q ∈ MA o t)) 0 0 ((fun q => q ∈ MA o t)) := by
  refine bq_of [some (.ref o), some (.int f), some (.int p), some (.int dep)] rfl rfl (Nat.le_of_ble_eq_true rfl) (by decide) ?_
  intro P_ E_ s M_ B_ T_ K_ C hv
  obtain ⟨hP, hD, hK⟩ := hv
  have hS : va_S (fun q => q ∈ MA o t) s.heap s.heap [] := va_S.rf
  refine g_aload0 C dX3_bury_0 ?_
  refine g_mV (As := []) C 0 rfl (c_X3_look hki) wl_X3_92 wi_X3_look wv_X3_look wn_X3 wc_X3_look (by decide +kernel) ⟨rfl, rfl, by decide, by decide⟩ MDM_bl (va_recv (ci := 3) (q0 := 0) hK hP rfl rfl) (MDM_at hK hP hD) rfl rfl (by simp [Value.category]) ⟨by decide, by decide⟩ hS (fun _ h => h) dX3_bury_1 (fun H locs hP _ _ hS => ?_)
  obtain ⟨A, i, hP, e0, e1, e2, f0, f1, f2, f3, hw⟩ := hP
  rw [← e0] at hki f3 hw
  rw [← f0] at hi0
  rw [← e0, ← e1, ← e2, ← f1]
  have hD : va_D (fun q => q ∈ MA o t) (MW cI o t A i h) := hD.fst rfl
  refine g_iload1 C dX3_bury_4 ?_
  refine g_scS1 C (c_X3_isFamily) wl_X3_105 wt_X3_isFamily wn_X3 wc_X3_isFamily (by decide +kernel) ⟨rfl, rfl, by decide, by decide⟩ rfl (by simp [Value.category]) ⟨by decide, by decide⟩ dX3_bury_5 ?_
  refine g_if_eqB C 18 dX3_bury_8 (by decide) (fun h8 => ?_) (fun h8 => ?_)
  · refine g_aload0 C dX3_bury_18 ?_
    refine g_iconst C (nI 1) (by decide) dX3_bury_19 ?_
    refine g_mV (As := [.int (nI 1)]) C 1 rfl (c_X3_fails) wl_X3_95 wi_X3_fails wv_X3_fails wn_X3 wc_X3_fails (by decide +kernel) ⟨rfl, rfl, by decide, by decide⟩ MDM_bl (va_recv (ci := 3) (q0 := 0) hK hP rfl rfl) (MDM_at hK hP hD) rfl rfl (by simp [Value.category]) ⟨by decide, by decide⟩ hS (fun _ h => h) dX3_bury_20 (fun H locs hP _ _ hS => ?_)
    have hP : va_P (dC, dI) vwCl (MW cI o t (A) (upd i 2 (nI 1)) (h)) H := hP
    have hD : va_D (fun q => q ∈ MA o t) (MW cI o t (A) (upd i 2 (nI 1)) (h)) := hD.fst rfl
    have hk : k_bury (q_nz (A 0)) (A 0 550) f p dep = 1 := by unfold k_bury; rw [if_pos (by first | exact fun z => h8 z.1 | exact fun z => h15 z.2)]
    rw [hk]
    exact g_iretM C ⟨A, upd i 2 (nI 1), h, hP, rfl, rfl, hi0, rfl, rfl, rfl⟩ hS rfl dX3_bury_23
  · obtain ⟨mf, hf1, hf2, rfl⟩ := q_rng (by decide) (by decide) h8
    have hqf : q_n (nI mf) = mf := q_n_nI (by omega)
    refine g_iload2 C dX3_bury_11 ?_
    refine g_scS1 C (c_X3_isPlot) wl_X3_112 wt_X3_isPlot wn_X3 wc_X3_isPlot (by decide +kernel) ⟨rfl, rfl, by decide, by decide⟩ rfl (by simp [Value.category]) ⟨by decide, by decide⟩ dX3_bury_12 ?_
    refine g_if_neB C 24 dX3_bury_15 (by decide) (fun h15 => ?_) (fun h15 => ?_)
    · obtain ⟨mp, hp1, hp2, rfl⟩ := q_rng (by decide) (by decide) h15
      have hqp : q_n (nI mp) = mp := q_n_nI (by omega)
      refine g_iload3 C dX3_bury_24 ?_
      refine g_iconst C (nI 1) (by decide) dX3_bury_25 ?_
      refine g_iconst C (nI 3) (by decide) dX3_bury_26 ?_
      refine g_scS3 C (c_X3_within) wl_X3_41 wt_X3_within wn_X3 wc_X3_within (by decide +kernel) ⟨rfl, rfl, by decide, by decide⟩ rfl (by simp [Value.category]) ⟨by decide, by decide⟩ dX3_bury_27 ?_
      refine g_if_neB C 39 dX3_bury_30 (by decide) (fun h30 => ?_) (fun h30 => ?_)
      · obtain ⟨md, hd1, hd2, rfl⟩ := q_rng (by decide) (by decide) h30
        have hqd : q_n (nI md) = md := q_n_nI (by omega)
        refine g_aload0 C dX3_bury_39 ?_
        refine g_iload1 C dX3_bury_40 ?_
        refine g_iload2 C dX3_bury_41 ?_
        refine g_iload3 C dX3_bury_42 ?_
        refine g_mcV3 C hK hP (c_X3_reason (by omega) (by omega) hki) wl_X3_115 wi_X3_reason wv_X3_reason wc_X3_reason (by decide +kernel) ⟨rfl, rfl, by decide, by decide⟩ rfl (by simp [Value.category]) ⟨by decide, by decide⟩ dX3_bury_43 ?_
        rw [f3, q_ref_rc (rc2 := q_rc (q_nz (A 0))) (q_wr_rc hw (by omega))]
        refine g_if_le C 55 dX3_bury_46 (by decide) (fun h46 => ?_) (fun h46 => ?_)
        · refine g_aload0 C dX3_bury_55 ?_
          refine g_mV (As := []) C 0 rfl (c_X3_save hn hi0) wl_X3_98 wi_X3_save wv_X3_save wn_X3 wc_X3_save (by decide +kernel) ⟨rfl, rfl, by decide, by decide⟩ MDM_bl (va_recv (ci := 3) (q0 := 0) hK hP rfl rfl) (MDM_at hK hP hD) rfl rfl (by simp [Value.category]) ⟨by decide, by decide⟩ hS (fun _ h => h) dX3_bury_56 (fun H locs hP _ _ hS => ?_)
          have hD : va_D (fun q => q ∈ MA o t) (MW cI o t (q_s1 A 1 (q_rs (A 1) (A 0) n)) (upd i 0 (nI (min (n + 1) 6))) h) := hD.fst rfl
          refine g_aload0 C dX3_bury_59 ?_
          refine g_iload1 C dX3_bury_60 ?_
          refine g_iload2 C dX3_bury_61 ?_
          refine g_iload3 C dX3_bury_62 ?_
          refine g_mV (As := [.int (nI mf), .int (nI mp), .int (nI md)]) C 3 rfl (c_X3_buries (by omega) (by omega) (by omega) (by omega)) wl_X3_118 wi_X3_buries wv_X3_buries wn_X3 wc_X3_buries (by decide +kernel) ⟨rfl, rfl, by decide, by decide⟩ MDM_bl (va_recv (ci := 3) (q0 := 0) hK hP rfl rfl) (MDM_at hK hP hD) rfl rfl (by simp [Value.category]) ⟨by decide, by decide⟩ hS (fun _ h => h) dX3_bury_63 (fun H locs hP _ _ hS => ?_)
          have hP : va_P (dC, dI) vwCl (MW cI o t (q_s1 (q_s1 A 1 (q_rs (A 1) (A 0) n)) 0 (q_zb (A 0) (q_fee (q_nz (A 0)) (i 3) mf mp md) mf (3 * mp + md - 1))) (upd i 0 (nI (min (n + 1) 6))) h) H := hP
          rw [f3] at hP
          have hk : k_bury (q_nz (A 0)) (A 0 550) (nI mf) (nI mp) (nI md) = 0 := by unfold k_bury; rw [if_neg (fun z => z ⟨h8, h15⟩), if_neg (fun z => z h30), if_neg (by rw [hqp, hqd]; exact fun z => z (q_ref_le.mp h46))]
          rw [hk]
          exact g_iretM C ⟨q_s1 (q_s1 A 1 (q_rs (A 1) (A 0) n)) 0 (q_zb (A 0) (q_fee (q_nz (A 0)) (A 0 550) mf mp md) mf (3 * mp + md - 1)), upd i 0 (nI (min (n + 1) 6)), h, hP, (by rw [hqf, hqp, hqd]; rfl), rfl, rfl, rfl, rfl, f2⟩ hS (by rw [hqf, hqp, hqd, ← f3]; rfl) dX3_bury_66
        · refine g_aload0 C dX3_bury_49 ?_
          refine g_iconst C (nI 3) (by decide) dX3_bury_50 ?_
          refine g_mV (As := [.int (nI 3)]) C 1 rfl (c_X3_fails) wl_X3_95 wi_X3_fails wv_X3_fails wn_X3 wc_X3_fails (by decide +kernel) ⟨rfl, rfl, by decide, by decide⟩ MDM_bl (va_recv (ci := 3) (q0 := 0) hK hP rfl rfl) (MDM_at hK hP hD) rfl rfl (by simp [Value.category]) ⟨by decide, by decide⟩ hS (fun _ h => h) dX3_bury_51 (fun H locs hP _ _ hS => ?_)
          have hP : va_P (dC, dI) vwCl (MW cI o t (A) (upd i 2 (nI 3)) (h)) H := hP
          have hD : va_D (fun q => q ∈ MA o t) (MW cI o t (A) (upd i 2 (nI 3)) (h)) := hD.fst rfl
          have hk : k_bury (q_nz (A 0)) (A 0 550) (nI mf) (nI mp) (nI md) = 3 := by unfold k_bury; rw [if_neg (fun z => z ⟨h8, h15⟩), if_neg (fun z => z h30), if_pos (by rw [hqp, hqd]; exact fun z => h46 (q_ref_le.mpr z))]
          rw [hk]
          exact g_iretM C ⟨A, upd i 2 (nI 3), h, hP, rfl, rfl, hi0, rfl, rfl, rfl⟩ hS rfl dX3_bury_54
      · refine g_aload0 C dX3_bury_33 ?_
        refine g_iconst C (nI 2) (by decide) dX3_bury_34 ?_
        refine g_mV (As := [.int (nI 2)]) C 1 rfl (c_X3_fails) wl_X3_95 wi_X3_fails wv_X3_fails wn_X3 wc_X3_fails (by decide +kernel) ⟨rfl, rfl, by decide, by decide⟩ MDM_bl (va_recv (ci := 3) (q0 := 0) hK hP rfl rfl) (MDM_at hK hP hD) rfl rfl (by simp [Value.category]) ⟨by decide, by decide⟩ hS (fun _ h => h) dX3_bury_35 (fun H locs hP _ _ hS => ?_)
        have hP : va_P (dC, dI) vwCl (MW cI o t (A) (upd i 2 (nI 2)) (h)) H := hP
        have hD : va_D (fun q => q ∈ MA o t) (MW cI o t (A) (upd i 2 (nI 2)) (h)) := hD.fst rfl
        have hk : k_bury (q_nz (A 0)) (A 0 550) (nI mf) (nI mp) dep = 2 := by unfold k_bury; rw [if_neg (fun z => z ⟨h8, h15⟩), if_pos h30]
        rw [hk]
        exact g_iretM C ⟨A, upd i 2 (nI 2), h, hP, rfl, rfl, hi0, rfl, rfl, rfl⟩ hS rfl dX3_bury_38
    · refine g_aload0 C dX3_bury_18 ?_
      refine g_iconst C (nI 1) (by decide) dX3_bury_19 ?_
      refine g_mV (As := [.int (nI 1)]) C 1 rfl (c_X3_fails) wl_X3_95 wi_X3_fails wv_X3_fails wn_X3 wc_X3_fails (by decide +kernel) ⟨rfl, rfl, by decide, by decide⟩ MDM_bl (va_recv (ci := 3) (q0 := 0) hK hP rfl rfl) (MDM_at hK hP hD) rfl rfl (by simp [Value.category]) ⟨by decide, by decide⟩ hS (fun _ h => h) dX3_bury_20 (fun H locs hP _ _ hS => ?_)
      have hP : va_P (dC, dI) vwCl (MW cI o t (A) (upd i 2 (nI 1)) (h)) H := hP
      have hD : va_D (fun q => q ∈ MA o t) (MW cI o t (A) (upd i 2 (nI 1)) (h)) := hD.fst rfl
      have hk : k_bury (q_nz (A 0)) (A 0 550) (nI mf) p dep = 1 := by unfold k_bury; rw [if_pos (by first | exact fun z => h8 z.1 | exact fun z => h15 z.2)]
      rw [hk]
      exact g_iretM C ⟨A, upd i 2 (nI 1), h, hP, rfl, rfl, hi0, rfl, rfl, rfl⟩ hS rfl dX3_bury_23

set_option maxHeartbeats 4000000 in
set_option maxRecDepth 100000 in
theorem c_X3_reserve {l : Launch} {dC : Nat → ClassId} {dI : Nat → Nat → Nat} {cI cL cJ : ClassId} {o : Nat} {t : Nat → Nat} {A : RW} {i : Nat → Int32} {h : Int64} {n : Nat} (hn : n ≤ 6) (hi0 : i 0 = nI n) (hki : INV (q_nz (A 0))) {f p v : Int32} : Met l yX3_reserve (.code yX3_reserve cX3_reserve 4 (some .int) :: WG) (rmL 5) (va_Pc [.ref o, .int f, .int p, .int v] (MDM dC dI cI cL cJ o t A i h)) (bq_M (some (.int (if k_res (q_nz (A 0)) (A 0 550) f p v = 0 then q_zcr (q_zr2 (A 0) (q_zup (A 0) (A 0 550) (q_n p) (q_n v)) (q_n f) (q_n p)) (q_n f) (q_n v) else nI 0))) (PM dC dI cI o t (A 0) (A 1) (A 2) (i 1) n (k_res (q_nz (A 0)) (A 0 550) f p v) (if k_res (q_nz (A 0)) (A 0 550) f p v = 0 then q_zrs (A 0) (A 0 550) (q_n f) (q_n p) (q_n v) else A 0)) (fun q => q ∈ MA o t)) 0 0 ((fun q => q ∈ MA o t)) := by
  refine bq_of [some (.ref o), some (.int f), some (.int p), some (.int v)] rfl rfl (Nat.le_of_ble_eq_true rfl) (by decide) ?_
  intro P_ E_ s M_ B_ T_ K_ C hv
  obtain ⟨hP, hD, hK⟩ := hv
  have hS : va_S (fun q => q ∈ MA o t) s.heap s.heap [] := va_S.rf
  refine g_aload0 C dX3_reserve_0 ?_
  refine g_mV (As := []) C 0 rfl (c_X3_look hki) wl_X3_92 wi_X3_look wv_X3_look wn_X3 wc_X3_look (by decide +kernel) ⟨rfl, rfl, by decide, by decide⟩ MDM_bl (va_recv (ci := 3) (q0 := 0) hK hP rfl rfl) (MDM_at hK hP hD) rfl rfl (by simp [Value.category]) ⟨by decide, by decide⟩ hS (fun _ h => h) dX3_reserve_1 (fun H locs hP _ _ hS => ?_)
  obtain ⟨A, i, hP, e0, e1, e2, f0, f1, f2, f3, hw⟩ := hP
  rw [← e0] at hki f3 hw
  rw [← f0] at hi0
  rw [← e0, ← e1, ← e2, ← f1]
  have hD : va_D (fun q => q ∈ MA o t) (MW cI o t A i h) := hD.fst rfl
  refine g_iload1 C dX3_reserve_4 ?_
  refine g_scS1 C (c_X3_isFamily) wl_X3_105 wt_X3_isFamily wn_X3 wc_X3_isFamily (by decide +kernel) ⟨rfl, rfl, by decide, by decide⟩ rfl (by simp [Value.category]) ⟨by decide, by decide⟩ dX3_reserve_5 ?_
  refine g_if_eqB C 18 dX3_reserve_8 (by decide) (fun h8 => ?_) (fun h8 => ?_)
  · refine g_aload0 C dX3_reserve_18 ?_
    refine g_iconst C (nI 1) (by decide) dX3_reserve_19 ?_
    refine g_mV (As := [.int (nI 1)]) C 1 rfl (c_X3_fails) wl_X3_95 wi_X3_fails wv_X3_fails wn_X3 wc_X3_fails (by decide +kernel) ⟨rfl, rfl, by decide, by decide⟩ MDM_bl (va_recv (ci := 3) (q0 := 0) hK hP rfl rfl) (MDM_at hK hP hD) rfl rfl (by simp [Value.category]) ⟨by decide, by decide⟩ hS (fun _ h => h) dX3_reserve_20 (fun H locs hP _ _ hS => ?_)
    have hP : va_P (dC, dI) vwCl (MW cI o t (A) (upd i 2 (nI 1)) (h)) H := hP
    have hD : va_D (fun q => q ∈ MA o t) (MW cI o t (A) (upd i 2 (nI 1)) (h)) := hD.fst rfl
    have hk : k_res (q_nz (A 0)) (A 0 550) f p v = 1 := by unfold k_res; rw [if_pos (by first | exact fun z => h8 z.1 | exact fun z => h15 z.2)]
    rw [hk]
    exact g_iretM C ⟨A, upd i 2 (nI 1), h, hP, rfl, rfl, hi0, rfl, rfl, rfl⟩ hS rfl dX3_reserve_23
  · obtain ⟨mf, hf1, hf2, rfl⟩ := q_rng (by decide) (by decide) h8
    have hqf : q_n (nI mf) = mf := q_n_nI (by omega)
    refine g_iload2 C dX3_reserve_11 ?_
    refine g_scS1 C (c_X3_isPlot) wl_X3_112 wt_X3_isPlot wn_X3 wc_X3_isPlot (by decide +kernel) ⟨rfl, rfl, by decide, by decide⟩ rfl (by simp [Value.category]) ⟨by decide, by decide⟩ dX3_reserve_12 ?_
    refine g_if_neB C 24 dX3_reserve_15 (by decide) (fun h15 => ?_) (fun h15 => ?_)
    · obtain ⟨mp, hp1, hp2, rfl⟩ := q_rng (by decide) (by decide) h15
      have hqp : q_n (nI mp) = mp := q_n_nI (by omega)
      refine g_iload3 C dX3_reserve_24 ?_
      refine g_iconst C (nI 1) (by decide) dX3_reserve_25 ?_
      refine g_bipush C (nI 50) (by decide) dX3_reserve_26 ?_
      refine g_scS3 C (c_X3_within) wl_X3_41 wt_X3_within wn_X3 wc_X3_within (by decide +kernel) ⟨rfl, rfl, by decide, by decide⟩ rfl (by simp [Value.category]) ⟨by decide, by decide⟩ dX3_reserve_28 ?_
      refine g_if_neB C 40 dX3_reserve_31 (by decide) (fun h31 => ?_) (fun h31 => ?_)
      · obtain ⟨mv, hv1, hv2, rfl⟩ := q_rng (by decide) (by decide) h31
        have hqv : q_n (nI mv) = mv := q_n_nI (by omega)
        refine g_aload0 C dX3_reserve_40 ?_
        refine g_iload1 C dX3_reserve_41 ?_
        refine g_iload2 C dX3_reserve_42 ?_
        refine g_mcV2 C hK hP (c_X3_mayReserve (by omega) (by omega)) wl_X3_121 wi_X3_mayReserve wv_X3_mayReserve wc_X3_mayReserve (by decide +kernel) ⟨rfl, rfl, by decide, by decide⟩ rfl (by simp [Value.category]) ⟨by decide, by decide⟩ dX3_reserve_43 ?_
        rw [f3]
        refine g_if_neB C 55 dX3_reserve_46 (by decide) (fun h46 => ?_) (fun h46 => ?_)
        · refine g_aload0 C dX3_reserve_55 ?_
          refine g_mV (As := []) C 0 rfl (c_X3_save hn hi0) wl_X3_98 wi_X3_save wv_X3_save wn_X3 wc_X3_save (by decide +kernel) ⟨rfl, rfl, by decide, by decide⟩ MDM_bl (va_recv (ci := 3) (q0 := 0) hK hP rfl rfl) (MDM_at hK hP hD) rfl rfl (by simp [Value.category]) ⟨by decide, by decide⟩ hS (fun _ h => h) dX3_reserve_56 (fun H locs hP _ _ hS => ?_)
          have hD : va_D (fun q => q ∈ MA o t) (MW cI o t (q_s1 A 1 (q_rs (A 1) (A 0) n)) (upd i 0 (nI (min (n + 1) 6))) h) := hD.fst rfl
          refine g_aload0 C dX3_reserve_59 ?_
          refine g_iload1 C dX3_reserve_60 ?_
          refine g_iload2 C dX3_reserve_61 ?_
          refine g_iload3 C dX3_reserve_62 ?_
          refine g_mV (As := [.int (nI mf), .int (nI mp), .int (nI mv)]) C 3 rfl (c_X3_reserves (by omega) (by omega) (by omega)) wl_X3_124 wi_X3_reserves wv_X3_reserves wn_X3 wc_X3_reserves (by decide +kernel) ⟨rfl, rfl, by decide, by decide⟩ MDM_bl (va_recv (ci := 3) (q0 := 0) hK hP rfl rfl) (MDM_at hK hP hD) rfl rfl (by simp [Value.category]) ⟨by decide, by decide⟩ hS (fun _ h => h) dX3_reserve_63 (fun H locs hP _ _ hS => ?_)
          have hP : va_P (dC, dI) vwCl (MW cI o t (q_s1 (q_s1 A 1 (q_rs (A 1) (A 0) n)) 0 (q_zrs (A 0) (i 3) mf mp mv)) (upd i 0 (nI (min (n + 1) 6))) h) H := hP
          rw [f3] at hP
          have hk : k_res (q_nz (A 0)) (A 0 550) (nI mf) (nI mp) (nI mv) = 0 := by unfold k_res; rw [if_neg (fun z => z ⟨h8, h15⟩), if_neg (fun z => z h31), if_neg (by rw [hqp]; exact fun z => z h46)]
          rw [hk]
          exact g_iretM C ⟨q_s1 (q_s1 A 1 (q_rs (A 1) (A 0) n)) 0 (q_zrs (A 0) (A 0 550) mf mp mv), upd i 0 (nI (min (n + 1) 6)), h, hP, (by rw [hqf, hqp, hqv]; rfl), rfl, rfl, rfl, rfl, f2⟩ hS (by rw [hqf, hqp, hqv, ← f3]; rfl) dX3_reserve_66
        · refine g_aload0 C dX3_reserve_49 ?_
          refine g_iconst C (nI 3) (by decide) dX3_reserve_50 ?_
          refine g_mV (As := [.int (nI 3)]) C 1 rfl (c_X3_fails) wl_X3_95 wi_X3_fails wv_X3_fails wn_X3 wc_X3_fails (by decide +kernel) ⟨rfl, rfl, by decide, by decide⟩ MDM_bl (va_recv (ci := 3) (q0 := 0) hK hP rfl rfl) (MDM_at hK hP hD) rfl rfl (by simp [Value.category]) ⟨by decide, by decide⟩ hS (fun _ h => h) dX3_reserve_51 (fun H locs hP _ _ hS => ?_)
          have hP : va_P (dC, dI) vwCl (MW cI o t (A) (upd i 2 (nI 3)) (h)) H := hP
          have hD : va_D (fun q => q ∈ MA o t) (MW cI o t (A) (upd i 2 (nI 3)) (h)) := hD.fst rfl
          have hk : k_res (q_nz (A 0)) (A 0 550) (nI mf) (nI mp) (nI mv) = 3 := by unfold k_res; rw [if_neg (fun z => z ⟨h8, h15⟩), if_neg (fun z => z h31), if_pos (by rw [hqp]; exact h46)]
          rw [hk]
          exact g_iretM C ⟨A, upd i 2 (nI 3), h, hP, rfl, rfl, hi0, rfl, rfl, rfl⟩ hS rfl dX3_reserve_54
      · refine g_aload0 C dX3_reserve_34 ?_
        refine g_iconst C (nI 2) (by decide) dX3_reserve_35 ?_
        refine g_mV (As := [.int (nI 2)]) C 1 rfl (c_X3_fails) wl_X3_95 wi_X3_fails wv_X3_fails wn_X3 wc_X3_fails (by decide +kernel) ⟨rfl, rfl, by decide, by decide⟩ MDM_bl (va_recv (ci := 3) (q0 := 0) hK hP rfl rfl) (MDM_at hK hP hD) rfl rfl (by simp [Value.category]) ⟨by decide, by decide⟩ hS (fun _ h => h) dX3_reserve_36 (fun H locs hP _ _ hS => ?_)
        have hP : va_P (dC, dI) vwCl (MW cI o t (A) (upd i 2 (nI 2)) (h)) H := hP
        have hD : va_D (fun q => q ∈ MA o t) (MW cI o t (A) (upd i 2 (nI 2)) (h)) := hD.fst rfl
        have hk : k_res (q_nz (A 0)) (A 0 550) (nI mf) (nI mp) v = 2 := by unfold k_res; rw [if_neg (fun z => z ⟨h8, h15⟩), if_pos h31]
        rw [hk]
        exact g_iretM C ⟨A, upd i 2 (nI 2), h, hP, rfl, rfl, hi0, rfl, rfl, rfl⟩ hS rfl dX3_reserve_39
    · refine g_aload0 C dX3_reserve_18 ?_
      refine g_iconst C (nI 1) (by decide) dX3_reserve_19 ?_
      refine g_mV (As := [.int (nI 1)]) C 1 rfl (c_X3_fails) wl_X3_95 wi_X3_fails wv_X3_fails wn_X3 wc_X3_fails (by decide +kernel) ⟨rfl, rfl, by decide, by decide⟩ MDM_bl (va_recv (ci := 3) (q0 := 0) hK hP rfl rfl) (MDM_at hK hP hD) rfl rfl (by simp [Value.category]) ⟨by decide, by decide⟩ hS (fun _ h => h) dX3_reserve_20 (fun H locs hP _ _ hS => ?_)
      have hP : va_P (dC, dI) vwCl (MW cI o t (A) (upd i 2 (nI 1)) (h)) H := hP
      have hD : va_D (fun q => q ∈ MA o t) (MW cI o t (A) (upd i 2 (nI 1)) (h)) := hD.fst rfl
      have hk : k_res (q_nz (A 0)) (A 0 550) (nI mf) p v = 1 := by unfold k_res; rw [if_pos (by first | exact fun z => h8 z.1 | exact fun z => h15 z.2)]
      rw [hk]
      exact g_iretM C ⟨A, upd i 2 (nI 1), h, hP, rfl, rfl, hi0, rfl, rfl, rfl⟩ hS rfl dX3_reserve_23
