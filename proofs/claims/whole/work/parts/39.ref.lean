set_option maxHeartbeats 4000000 in
set_option maxRecDepth 100000 in
theorem c_X3_yearFor {l : Launch} {dC : Nat → ClassId} {dI : Nat → Nat → Nat} {cI cL cJ : ClassId} {o : Nat} {t : Nat → Nat} {A : RW} {i : Nat → Int32} {h : Int64} (hki : INV (q_nz (A 0))) {f p dep : Int32} {yn : Nat} (hyn : yn ≤ 2000) (hy : A 0 550 = nI yn) : Met l yX3_yearFor (.code yX3_yearFor cX3_yearFor 4 (some .int) :: WG) (rmL 5) (va_Pc [.ref o, .int f, .int p, .int dep] (MDM dC dI cI cL cJ o t A i h)) (bq_M (some (.int (if k_fpd f p dep = 0 then q_yf (q_nz (A 0)) (q_rc (q_nz (A 0))) f (q_n p) (q_n dep) yn 101 else nI 0))) (PQ dC dI cI o t (A 0) (A 1) (A 2) (i 0) (i 1) (k_fpd f p dep)) (fun q => q ∈ MA o t)) 0 0 ((fun q => q ∈ MA o t)) := by
  refine bq_of [some (.ref o), some (.int f), some (.int p), some (.int dep)] rfl rfl (Nat.le_of_ble_eq_true rfl) (by decide) ?_
  intro P_ E_ s M_ B_ T_ K_ C hv
  obtain ⟨hP, hD, hK⟩ := hv
  have hS : va_S (fun q => q ∈ MA o t) s.heap s.heap [] := va_S.rf
  refine g_aload0 C dX3_yearFor_0 ?_
  refine g_mV (As := []) C 0 rfl (c_X3_look hki) wl_X3_92 wi_X3_look wv_X3_look wn_X3 wc_X3_look (by decide +kernel) ⟨rfl, rfl, by decide, by decide⟩ MDM_bl (va_recv (ci := 3) (q0 := 0) hK hP rfl rfl) (MDM_at hK hP hD) rfl rfl (by simp [Value.category]) ⟨by decide, by decide⟩ hS (fun _ h => h) dX3_yearFor_1 (fun H locs hP _ _ hS => ?_)
  obtain ⟨A, i, hP, e0, e1, e2, f0, f1, f2, f3, hw⟩ := hP
  rw [← e0] at hki f3 hw hy
  rw [← e0, ← e1, ← e2, ← f0, ← f1]
  have hD : va_D (fun q => q ∈ MA o t) (MW cI o t A i h) := hD.fst rfl
  refine g_iload1 C dX3_yearFor_4 ?_
  refine g_scS1 C (c_X3_isFamily) wl_X3_105 wt_X3_isFamily wn_X3 wc_X3_isFamily (by decide +kernel) ⟨rfl, rfl, by decide, by decide⟩ rfl (by simp [Value.category]) ⟨by decide, by decide⟩ dX3_yearFor_5 ?_
  refine g_if_eqB C 18 dX3_yearFor_8 (by decide) (fun h8 => ?_) (fun h8 => ?_)
  · refine g_aload0 C dX3_yearFor_18 ?_
    refine g_iconst C (nI 1) (by decide) dX3_yearFor_19 ?_
    refine g_mV (As := [.int (nI 1)]) C 1 rfl (c_X3_fails) wl_X3_95 wi_X3_fails wv_X3_fails wn_X3 wc_X3_fails (by decide +kernel) ⟨rfl, rfl, by decide, by decide⟩ MDM_bl (va_recv (ci := 3) (q0 := 0) hK hP rfl rfl) (MDM_at hK hP hD) rfl rfl (by simp [Value.category]) ⟨by decide, by decide⟩ hS (fun _ h => h) dX3_yearFor_20 (fun H locs hP _ _ hS => ?_)
    have hP : va_P (dC, dI) vwCl (MW cI o t (A) (upd i 2 (nI 1)) (h)) H := hP
    have hD : va_D (fun q => q ∈ MA o t) (MW cI o t (A) (upd i 2 (nI 1)) (h)) := hD.fst rfl
    have hk : k_fpd f p dep = 1 := by unfold k_fpd; rw [if_pos (by first | exact fun z => h8 z.1 | exact fun z => h15 z.2)]
    rw [hk]
    exact g_iretM C ⟨A, upd i 2 (nI 1), h, hP, rfl, rfl, rfl, rfl, rfl, rfl⟩ hS rfl dX3_yearFor_23
  · obtain ⟨mf, hf1, hf2, rfl⟩ := q_rng (by decide) (by decide) h8
    have hqf : q_n (nI mf) = mf := q_n_nI (by omega)
    refine g_iload2 C dX3_yearFor_11 ?_
    refine g_scS1 C (c_X3_isPlot) wl_X3_112 wt_X3_isPlot wn_X3 wc_X3_isPlot (by decide +kernel) ⟨rfl, rfl, by decide, by decide⟩ rfl (by simp [Value.category]) ⟨by decide, by decide⟩ dX3_yearFor_12 ?_
    refine g_if_neB C 24 dX3_yearFor_15 (by decide) (fun h15 => ?_) (fun h15 => ?_)
    · obtain ⟨mp, hp1, hp2, rfl⟩ := q_rng (by decide) (by decide) h15
      have hqp : q_n (nI mp) = mp := q_n_nI (by omega)
      refine g_iload3 C dX3_yearFor_24 ?_
      refine g_iconst C (nI 1) (by decide) dX3_yearFor_25 ?_
      refine g_iconst C (nI 3) (by decide) dX3_yearFor_26 ?_
      refine g_scS3 C (c_X3_within) wl_X3_41 wt_X3_within wn_X3 wc_X3_within (by decide +kernel) ⟨rfl, rfl, by decide, by decide⟩ rfl (by simp [Value.category]) ⟨by decide, by decide⟩ dX3_yearFor_27 ?_
      refine g_if_neB C 39 dX3_yearFor_30 (by decide) (fun h30 => ?_) (fun h30 => ?_)
      · obtain ⟨md, hd1, hd2, rfl⟩ := q_rng (by decide) (by decide) h30
        have hqd : q_n (nI md) = md := q_n_nI (by omega)
        have hP : va_P (dC, dI) vwCl (MW cI o t A (upd i 3 (nI (yn + 0))) h) H := by rw [show nI (yn + 0) = i 3 from (f3.trans hy).symm, upd_self]; exact hP
        have hD : va_D (fun q => q ∈ MA o t) (MW cI o t A (upd i 3 (nI (yn + 0))) h) := hD.fst rfl
        refine g_lpH (A1 := Nat) (fun k H locs => k ≤ 101 ∧ q_yf (q_nz (A 0)) (q_rc (q_nz (A 0))) (nI mf) mp md yn (101) = q_yf (q_nz (A 0)) (q_rc (q_nz (A 0))) (nI mf) mp md yn (101 - k) ∧ va_P (dC, dI) vwCl (MW cI o t A (upd i 3 (nI (yn + k))) h) H ∧ va_D (fun q => q ∈ MA o t) (MW cI o t A (upd i 3 (nI (yn + k))) h) ∧ va_S (fun q => q ∈ MA o t) s.heap H locs) (fun k => 101 - k) (fun k => [some (.ref o), some (.int (nI mf)), some (.int (nI mp)), some (.int (nI md))]) 0 ⟨by omega, rfl, hP, hD, hS⟩ rfl ?_
        rintro k H locs ⟨hk, hq, hP, hD, hS⟩ ih
        try dsimp only at ih ⊢
        refine g_aload0 C dX3_yearFor_39 ?_
        refine g_get (ci := 3) (T := TX3) (N := 16) C inX3 hK hP 0 rfl rfl 6 (by decide) wf_X3_45 ⟨rfl, rfl, rfl⟩ rfl dX3_yearFor_40 ?_
        rw [show (upd i 3 (nI (yn + k))) 3 = nI (yn + k) from rfl]
        refine g_aload0 C dX3_yearFor_43 ?_
        refine g_get (ci := 3) (T := TX3) (N := 16) C inX3 hK hP 0 rfl rfl 0 (by decide) wf_X3_7 ⟨rfl, rfl, rfl⟩ rfl dX3_yearFor_44 ?_
        refine g_sipush C (nI 550) (by decide) dX3_yearFor_47 ?_
        refine g_zal C hK hP (by omega) (rfl) dX3_yearFor_50 ?_
        rw [hy]
        refine g_bipush C (nI 100) (by decide) dX3_yearFor_51 ?_
        refine g_iaddN C dX3_yearFor_53 ?_
        refine g_icmp_gtN C (by omega) (by omega) 85 dX3_yearFor_54 (by decide) (fun h54 => ?_) (fun h54 => ?_)
        · refine g_iconst C (-1) (by decide) dX3_yearFor_85 ?_
          have hk : k_fpd (nI mf) (nI mp) (nI md) = 0 := by unfold k_fpd; rw [if_neg (fun z => z ⟨h8, h15⟩), if_neg (fun z => z h30)]
          rw [hk]
          exact g_iretM C ⟨A, upd i 3 (nI (yn + k)), h, hP, rfl, rfl, rfl, rfl, rfl, f2⟩ hS (by rw [hqp, hqd, if_pos rfl, hq, show k = 101 by omega]; rfl) dX3_yearFor_86
        · refine g_aload0 C dX3_yearFor_57 ?_
          refine g_iload1 C dX3_yearFor_58 ?_
          refine g_iload2 C dX3_yearFor_59 ?_
          refine g_iload3 C dX3_yearFor_60 ?_
          refine g_mcV3 C hK hP (c_X3_reason (by omega) (by omega) hki) wl_X3_115 wi_X3_reason wv_X3_reason wc_X3_reason (by decide +kernel) ⟨rfl, rfl, by decide, by decide⟩ rfl (by simp [Value.category]) ⟨by decide, by decide⟩ dX3_yearFor_61 ?_
          rw [show (upd i 3 (nI (yn + k))) 3 = nI (yn + k) from rfl, q_ref_rc (rc2 := (q_rc (q_nz (A 0)))) (q_wr_rc hw (show mp < 40 by omega))]
          refine g_if_ne C 72 dX3_yearFor_64 (by decide) (fun h64 => ?_) (fun h64 => ?_)
          · refine g_aload0 C dX3_yearFor_72 ?_
            refine g_dup C rfl dX3_yearFor_73 ?_
            refine g_get (ci := 3) (T := TX3) (N := 16) C inX3 hK hP 0 rfl rfl 6 (by decide) wf_X3_45 ⟨rfl, rfl, rfl⟩ rfl dX3_yearFor_74 ?_
            rw [show (upd i 3 (nI (yn + k))) 3 = nI (yn + k) from rfl]
            refine g_iconst C (nI 1) (by decide) dX3_yearFor_77 ?_
            refine g_iaddN C dX3_yearFor_78 ?_
            refine g_put (ci := 3) (T := TX3) (N := 16) C inX3 tyX3 tyX3_ok nmX3 hK hP hD hS 0 rfl rfl 6 (by decide) wf_X3_45 ⟨rfl, rfl, rfl⟩ rfl rfl rfl (Nat.le_of_ble_eq_true rfl) dX3_yearFor_79 (fun H locs hP hD hS => ?_)
            have hP : va_P (dC, dI) vwCl (MW cI o t (A) (upd i 3 (nI (yn + (k + 1)))) (h)) H := hP
            have hD : va_D (fun q => q ∈ MA o t) (MW cI o t (A) (upd i 3 (nI (yn + (k + 1)))) (h)) := hD.fst rfl
            refine g_goto C 39 dX3_yearFor_82 (by decide) ?_
            have hq2 : q_yf (q_nz (A 0)) (q_rc (q_nz (A 0))) (nI mf) mp md yn (101) = q_yf (q_nz (A 0)) (q_rc (q_nz (A 0))) (nI mf) mp md yn (101 - (k + 1)) := by
              rw [hq, show 101 - k = (100 - k) + 1 by omega, show 101 - (k + 1) = 100 - k by omega]
              exact if_neg (by rw [show 100 - (100 - k) = k by omega]; exact h64)
            exact ih (k + 1) H locs ⟨by omega, hq2, hP, hD, hS⟩ (by show 101 - (k + 1) < 101 - k; omega)
          · refine g_aload0 C dX3_yearFor_67 ?_
            refine g_get (ci := 3) (T := TX3) (N := 16) C inX3 hK hP 0 rfl rfl 6 (by decide) wf_X3_45 ⟨rfl, rfl, rfl⟩ rfl dX3_yearFor_68 ?_
            rw [show (upd i 3 (nI (yn + k))) 3 = nI (yn + k) from rfl]
            have hk : k_fpd (nI mf) (nI mp) (nI md) = 0 := by unfold k_fpd; rw [if_neg (fun z => z ⟨h8, h15⟩), if_neg (fun z => z h30)]
            rw [hk]
            exact g_iretM C ⟨A, upd i 3 (nI (yn + k)), h, hP, rfl, rfl, rfl, rfl, rfl, f2⟩ hS (by rw [hqp, hqd, if_pos rfl, hq, show 101 - k = (100 - k) + 1 by omega]; exact ((if_pos (by rw [show 100 - (100 - k) = k by omega]; exact h64)).trans (by rw [show 100 - (100 - k) = k by omega])).symm) dX3_yearFor_71
      · refine g_aload0 C dX3_yearFor_33 ?_
        refine g_iconst C (nI 2) (by decide) dX3_yearFor_34 ?_
        refine g_mV (As := [.int (nI 2)]) C 1 rfl (c_X3_fails) wl_X3_95 wi_X3_fails wv_X3_fails wn_X3 wc_X3_fails (by decide +kernel) ⟨rfl, rfl, by decide, by decide⟩ MDM_bl (va_recv (ci := 3) (q0 := 0) hK hP rfl rfl) (MDM_at hK hP hD) rfl rfl (by simp [Value.category]) ⟨by decide, by decide⟩ hS (fun _ h => h) dX3_yearFor_35 (fun H locs hP _ _ hS => ?_)
        have hP : va_P (dC, dI) vwCl (MW cI o t (A) (upd i 2 (nI 2)) (h)) H := hP
        have hD : va_D (fun q => q ∈ MA o t) (MW cI o t (A) (upd i 2 (nI 2)) (h)) := hD.fst rfl
        have hk : k_fpd (nI mf) (nI mp) dep = 2 := by unfold k_fpd; rw [if_neg (fun z => z ⟨h8, h15⟩), if_pos h30]
        rw [hk]
        exact g_iretM C ⟨A, upd i 2 (nI 2), h, hP, rfl, rfl, rfl, rfl, rfl, rfl⟩ hS rfl dX3_yearFor_38
    · refine g_aload0 C dX3_yearFor_18 ?_
      refine g_iconst C (nI 1) (by decide) dX3_yearFor_19 ?_
      refine g_mV (As := [.int (nI 1)]) C 1 rfl (c_X3_fails) wl_X3_95 wi_X3_fails wv_X3_fails wn_X3 wc_X3_fails (by decide +kernel) ⟨rfl, rfl, by decide, by decide⟩ MDM_bl (va_recv (ci := 3) (q0 := 0) hK hP rfl rfl) (MDM_at hK hP hD) rfl rfl (by simp [Value.category]) ⟨by decide, by decide⟩ hS (fun _ h => h) dX3_yearFor_20 (fun H locs hP _ _ hS => ?_)
      have hP : va_P (dC, dI) vwCl (MW cI o t (A) (upd i 2 (nI 1)) (h)) H := hP
      have hD : va_D (fun q => q ∈ MA o t) (MW cI o t (A) (upd i 2 (nI 1)) (h)) := hD.fst rfl
      have hk : k_fpd (nI mf) p dep = 1 := by unfold k_fpd; rw [if_pos (by first | exact fun z => h8 z.1 | exact fun z => h15 z.2)]
      rw [hk]
      exact g_iretM C ⟨A, upd i 2 (nI 1), h, hP, rfl, rfl, rfl, rfl, rfl, rfl⟩ hS rfl dX3_yearFor_23

set_option maxHeartbeats 4000000 in
set_option maxRecDepth 100000 in
theorem c_X3_cutNow {l : Launch} {dC : Nat → ClassId} {dI : Nat → Nat → Nat} {cI cL cJ : ClassId} {o : Nat} {t : Nat → Nat} {A : RW} {i : Nat → Int32} {h : Int64} (hki : INV (q_nz (A 0))) {m : Nat} (hm : m < 40) : Met l yX3_cutNow (.code yX3_cutNow cX3_cutNow 5 (some .int) :: WG) (rmL 3) (va_Pc [.ref o, .int (nI m)] (MDM dC dI cI cL cJ o t A i h)) (bq_M (some (.int (nI (q_cu (q_nz (A 0)) (q_wr (A 3)) m) - nI (q_cu (q_nz (A 0)) (q_rcb (q_nz (A 0)) (nI m)) m)))) (fun H => ∃ w u : Nat → Int32, va_P (dC, dI) vwCl (MW cI o t (q_s2 A w u) i h) H) (fun q => q ∈ MA o t)) 0 0 ((fun q => q ∈ MA o t)) := by
  refine bq_of [some (.ref o), some (.int (nI m)), none, none, none] rfl rfl (Nat.le_of_ble_eq_true rfl) (by decide) ?_
  intro P_ E_ s M_ B_ T_ K_ C hv
  obtain ⟨hP, hD, hK⟩ := hv
  have hS : va_S (fun q => q ∈ MA o t) s.heap s.heap [] := va_S.rf
  refine g_iconst C (nI 0) (by decide) dX3_cutNow_0 ?_
  refine g_istore2 C rfl dX3_cutNow_1 ?_
  refine g_iconst C (nI 0) (by decide) dX3_cutNow_2 ?_
  refine g_istore3 C rfl dX3_cutNow_3 ?_
  refine g_iconst C (nI 0) (by decide) dX3_cutNow_4 ?_
  refine g_istore4 C rfl dX3_cutNow_5 ?_
  refine g_lp2 (fun (j : Nat) (x : Nat) => j ≤ 40 ∧ x = q_cn (fun p => q_cuP (q_nz (A 0)) (q_wr (A 3)) m p) j) (fun (j : Nat) (x : Nat) => 40 - j) (fun (j : Nat) (x : Nat) => [some (.ref o), some (.int (nI m)), some (.int (nI x)), some (.int (nI 0)), some (.int (nI j))]) 0 0 ⟨by omega, rfl⟩ rfl ?_
  rintro j x ⟨hj, hx⟩ ih
  try dsimp only at ih ⊢
  refine g_iload4 C dX3_cutNow_7 ?_
  refine g_bipush C (nI 40) (by decide) dX3_cutNow_9 ?_
  refine g_icmp_geN C (by omega) (by omega) 54 dX3_cutNow_11 (by decide) (fun h11 => ?_) (fun h11 => ?_)
  · refine g_aload0 C dX3_cutNow_54 ?_
    refine g_iload1 C dX3_cutNow_55 ?_
    refine g_mV (As := [.int (nI m)]) C 1 rfl (c_X3_walk hki.2.2.2.2.2.2.1) wl_X3_88 wi_X3_walk wv_X3_walk wn_X3 wc_X3_walk (by decide +kernel) ⟨rfl, rfl, by decide, by decide⟩ MDM_bl (va_recv (ci := 3) (q0 := 0) hK hP rfl rfl) (MDM_at hK hP hD) rfl rfl (by simp [Value.category]) ⟨by decide, by decide⟩ hS (fun _ h => h) dX3_cutNow_56 (fun H locs hP _ _ hS => ?_)
    obtain ⟨w, u, hP, hw⟩ := hP
    have hD : va_D (fun q => q ∈ MA o t) (MW cI o t (q_s2 A w u) i h) := hD.fst rfl
    refine g_iconst C (nI 0) (by decide) dX3_cutNow_59 ?_
    refine g_istore4 C rfl dX3_cutNow_60 ?_
    refine g_lp2 (fun (p : Nat) (x2 : Nat) => p ≤ 40 ∧ x2 = q_cn (fun p => q_cuP (q_nz (A 0)) (q_wr w) m p) p) (fun (p : Nat) (_ : Nat) => 40 - p) (fun (p : Nat) (x2 : Nat) => [some (.ref o), some (.int (nI m)), some (.int (nI x)), some (.int (nI x2)), some (.int (nI p))]) 0 0 ⟨by omega, rfl⟩ rfl ?_
    rintro p x2 ⟨hp, hx2⟩ ih2
    try dsimp only at ih2 ⊢
    refine g_iload4 C dX3_cutNow_62 ?_
    refine g_bipush C (nI 40) (by decide) dX3_cutNow_64 ?_
    refine g_icmp_geN C (by omega) (by omega) 109 dX3_cutNow_66 (by decide) (fun h66 => ?_) (fun h66 => ?_)
    · refine g_iload2 C dX3_cutNow_109 ?_
      refine g_iload3 C dX3_cutNow_110 ?_
      refine g_isub C dX3_cutNow_111 ?_
      exact g_iretM C ⟨w, u, hP⟩ hS (by rw [show x = q_cu (q_nz (A 0)) (q_wr (A 3)) m by rw [hx, show j = 40 by omega]; rfl, show x2 = q_cu (q_nz (A 0)) (q_rcb (q_nz (A 0)) (nI m)) m by rw [hx2, show p = 40 by omega]; exact q_cu_rc (d := q_nz (A 0)) (fun k hk => q_wr_rcb hw hk)]) dX3_cutNow_112
    · refine g_iload3 C dX3_cutNow_69 ?_
      refine g_iload4 C dX3_cutNow_70 ?_
      refine g_iload1 C dX3_cutNow_72 ?_
      refine g_d2 (v := nI (if q_cuP (q_nz (A 0)) (q_wr w) m p then 1 else 0)) 101 (fun K73 => ?_) ?_
      · skip
        refine g_icmp_eqN C (by omega) (by omega) 100 dX3_cutNow_73 (by decide) (fun h73 => ?_) (fun h73 => ?_)
        · refine g_iconst C (nI 0) (by decide) dX3_cutNow_100 ?_
          exact K73 _ (by rw [if_neg (fun z => z.1 h73)])
        · refine g_aload0 C dX3_cutNow_76 ?_
          refine g_get (ci := 3) (T := TX3) (N := 16) C inX3 hK hP 0 rfl rfl 0 (by decide) wf_X3_7 ⟨rfl, rfl, rfl⟩ rfl dX3_cutNow_77 ?_
          refine g_iload4 C dX3_cutNow_80 ?_
          refine g_zal C hK hP (by omega) (zr3 (k := p) (by omega) (by omega)) dX3_cutNow_82 ?_
          refine g_iconst C (nI 3) (by decide) dX3_cutNow_83 ?_
          refine g_icmp_eq C 100 dX3_cutNow_84 (by decide) (fun h84 => ?_) (fun h84 => ?_)
          · refine g_iconst C (nI 0) (by decide) dX3_cutNow_100 ?_
            exact K73 _ (by rw [if_neg (fun z => z.2.1 h84)])
          · refine g_aload0 C dX3_cutNow_87 ?_
            refine g_iload4 C dX3_cutNow_88 ?_
            refine g_mcV1 C hK hP (c_X3_isReached (by omega)) wl_X3_79 wi_X3_isReached wv_X3_isReached wc_X3_isReached (by decide +kernel) ⟨rfl, rfl, by decide, by decide⟩ rfl (by simp [Value.category]) ⟨by decide, by decide⟩ dX3_cutNow_90 ?_
            refine g_if_eqB C 100 dX3_cutNow_93 (by decide) (fun h93 => ?_) (fun h93 => ?_)
            · refine g_iconst C (nI 0) (by decide) dX3_cutNow_100 ?_
              exact K73 _ (by rw [if_neg (fun z => h93 z.2.2)])
            · refine g_iconst C (nI 1) (by decide) dX3_cutNow_96 ?_
              refine g_goto C 101 dX3_cutNow_97 (by decide) ?_
              exact K73 _ (by rw [if_pos ⟨h73, h84, h93⟩])
      refine g_iaddN C dX3_cutNow_101 ?_
      refine g_istore3 C rfl dX3_cutNow_102 ?_
      refine g_iinc4 C _ rfl dX3_cutNow_103 (nI_1 _) ?_
      refine g_goto C 62 dX3_cutNow_106 (by decide) ?_
      exact ih2 (p + 1) _ ⟨by omega, by rw [hx2]; rfl⟩ (by show 40 - (p + 1) < 40 - p; omega)
  · refine g_iload2 C dX3_cutNow_14 ?_
    refine g_iload4 C dX3_cutNow_15 ?_
    refine g_iload1 C dX3_cutNow_17 ?_
    refine g_d2 (v := nI (if q_cuP (q_nz (A 0)) (q_wr (A 3)) m j then 1 else 0)) 46 (fun K18 => ?_) ?_
    · skip
      refine g_icmp_eqN C (by omega) (by omega) 45 dX3_cutNow_18 (by decide) (fun h18 => ?_) (fun h18 => ?_)
      · refine g_iconst C (nI 0) (by decide) dX3_cutNow_45 ?_
        exact K18 _ (by rw [if_neg (fun z => z.1 h18)])
      · refine g_aload0 C dX3_cutNow_21 ?_
        refine g_get (ci := 3) (T := TX3) (N := 16) C inX3 hK hP 0 rfl rfl 0 (by decide) wf_X3_7 ⟨rfl, rfl, rfl⟩ rfl dX3_cutNow_22 ?_
        refine g_iload4 C dX3_cutNow_25 ?_
        refine g_zal C hK hP (by omega) (zr3 (k := j) (by omega) (by omega)) dX3_cutNow_27 ?_
        refine g_iconst C (nI 3) (by decide) dX3_cutNow_28 ?_
        refine g_icmp_eq C 45 dX3_cutNow_29 (by decide) (fun h29 => ?_) (fun h29 => ?_)
        · refine g_iconst C (nI 0) (by decide) dX3_cutNow_45 ?_
          exact K18 _ (by rw [if_neg (fun z => z.2.1 h29)])
        · refine g_aload0 C dX3_cutNow_32 ?_
          refine g_iload4 C dX3_cutNow_33 ?_
          refine g_mcV1 C hK hP (c_X3_isReached (by omega)) wl_X3_79 wi_X3_isReached wv_X3_isReached wc_X3_isReached (by decide +kernel) ⟨rfl, rfl, by decide, by decide⟩ rfl (by simp [Value.category]) ⟨by decide, by decide⟩ dX3_cutNow_35 ?_
          refine g_if_eqB C 45 dX3_cutNow_38 (by decide) (fun h38 => ?_) (fun h38 => ?_)
          · refine g_iconst C (nI 0) (by decide) dX3_cutNow_45 ?_
            exact K18 _ (by rw [if_neg (fun z => h38 z.2.2)])
          · refine g_iconst C (nI 1) (by decide) dX3_cutNow_41 ?_
            refine g_goto C 46 dX3_cutNow_42 (by decide) ?_
            exact K18 _ (by rw [if_pos ⟨h18, h29, h38⟩])
    refine g_iaddN C dX3_cutNow_46 ?_
    refine g_istore2 C rfl dX3_cutNow_47 ?_
    refine g_iinc4 C _ rfl dX3_cutNow_48 (nI_1 _) ?_
    refine g_goto C 7 dX3_cutNow_51 (by decide) ?_
    exact ih (j + 1) _ ⟨by omega, by rw [hx]; rfl⟩ (by show 40 - (j + 1) < 40 - j; omega)

set_option maxHeartbeats 4000000 in
set_option maxRecDepth 100000 in
theorem c_X3_cutsOff {l : Launch} {dC : Nat → ClassId} {dI : Nat → Nat → Nat} {cI cL cJ : ClassId} {o : Nat} {t : Nat → Nat} {A : RW} {i : Nat → Int32} {h : Int64} (hki : INV (q_nz (A 0))) {p : Int32} : Met l yX3_cutsOff (.code yX3_cutsOff cX3_cutsOff 2 (some .int) :: WG) (rmL 5) (va_Pc [.ref o, .int p] (MDM dC dI cI cL cJ o t A i h)) (bq_M (some (.int (if k_p p = 0 then nI (q_cu (q_nz (A 0)) (q_rc (q_nz (A 0))) (q_n p)) - nI (q_cu (q_nz (A 0)) (q_rcb (q_nz (A 0)) (nI (q_n p))) (q_n p)) else nI 0))) (PQ dC dI cI o t (A 0) (A 1) (A 2) (i 0) (i 1) (k_p p)) (fun q => q ∈ MA o t)) 0 0 ((fun q => q ∈ MA o t)) := by
  refine bq_of [some (.ref o), some (.int p)] rfl rfl (Nat.le_of_ble_eq_true rfl) (by decide) ?_
  intro P_ E_ s M_ B_ T_ K_ C hv
  obtain ⟨hP, hD, hK⟩ := hv
  have hS : va_S (fun q => q ∈ MA o t) s.heap s.heap [] := va_S.rf
  refine g_aload0 C dX3_cutsOff_0 ?_
  refine g_mV (As := []) C 0 rfl (c_X3_look hki) wl_X3_92 wi_X3_look wv_X3_look wn_X3 wc_X3_look (by decide +kernel) ⟨rfl, rfl, by decide, by decide⟩ MDM_bl (va_recv (ci := 3) (q0 := 0) hK hP rfl rfl) (MDM_at hK hP hD) rfl rfl (by simp [Value.category]) ⟨by decide, by decide⟩ hS (fun _ h => h) dX3_cutsOff_1 (fun H locs hP _ _ hS => ?_)
  obtain ⟨A, i, hP, e0, e1, e2, f0, f1, f2, f3, hw⟩ := hP
  rw [← e0] at hki f3 hw
  rw [← e0, ← e1, ← e2, ← f0, ← f1]
  have hD : va_D (fun q => q ∈ MA o t) (MW cI o t A i h) := hD.fst rfl
  refine g_iload1 C dX3_cutsOff_4 ?_
  refine g_scS1 C (c_X3_isPlot) wl_X3_112 wt_X3_isPlot wn_X3 wc_X3_isPlot (by decide +kernel) ⟨rfl, rfl, by decide, by decide⟩ rfl (by simp [Value.category]) ⟨by decide, by decide⟩ dX3_cutsOff_5 ?_
  refine g_if_eqB C 19 dX3_cutsOff_8 (by decide) (fun h8 => ?_) (fun h8 => ?_)
  · refine g_aload0 C dX3_cutsOff_19 ?_
    refine g_iconst C (nI 1) (by decide) dX3_cutsOff_20 ?_
    refine g_mV (As := [.int (nI 1)]) C 1 rfl (c_X3_fails) wl_X3_95 wi_X3_fails wv_X3_fails wn_X3 wc_X3_fails (by decide +kernel) ⟨rfl, rfl, by decide, by decide⟩ MDM_bl (va_recv (ci := 3) (q0 := 0) hK hP rfl rfl) (MDM_at hK hP hD) rfl rfl (by simp [Value.category]) ⟨by decide, by decide⟩ hS (fun _ h => h) dX3_cutsOff_21 (fun H locs hP _ _ hS => ?_)
    have hP : va_P (dC, dI) vwCl (MW cI o t (A) (upd i 2 (nI 1)) (h)) H := hP
    have hD : va_D (fun q => q ∈ MA o t) (MW cI o t (A) (upd i 2 (nI 1)) (h)) := hD.fst rfl
    have hk : k_p p = 1 := by unfold k_p; rw [if_pos h8]
    rw [hk]
    exact g_iretM C ⟨A, upd i 2 (nI 1), h, hP, rfl, rfl, rfl, rfl, rfl, rfl⟩ hS rfl dX3_cutsOff_24
  · obtain ⟨m, hm1, hm2, rfl⟩ := q_rng (by decide) (by decide) h8
    have hqn : q_n (nI m) = m := q_n_nI (by omega)
    refine g_aload0 C dX3_cutsOff_11 ?_
    refine g_iload1 C dX3_cutsOff_12 ?_
    refine g_mV (As := [.int (nI m)]) C 1 rfl (c_X3_cutNow hki (show m < 40 by omega)) wl_X3_164 wi_X3_cutNow wv_X3_cutNow wn_X3 wc_X3_cutNow (by decide +kernel) ⟨rfl, rfl, by decide, by decide⟩ MDM_bl (va_recv (ci := 3) (q0 := 0) hK hP rfl rfl) (MDM_at hK hP hD) rfl rfl (by simp [Value.category]) ⟨by decide, by decide⟩ hS (fun _ h => h) dX3_cutsOff_13 (fun H locs hP _ _ hS => ?_)
    obtain ⟨w, u, hP⟩ := hP
    have hD : va_D (fun q => q ∈ MA o t) (MW cI o t (q_s2 A w u) i h) := hD.fst rfl
    refine g_goto C 24 dX3_cutsOff_16 (by decide) ?_
    have hk : k_p (nI m) = 0 := by unfold k_p; rw [if_neg (fun z => z h8)]
    rw [hk]
    exact g_iretM C ⟨q_s2 A w u, i, h, hP, rfl, rfl, rfl, rfl, rfl, f2⟩ hS (by rw [hqn, show q_cu (q_nz (A 0)) (q_wr (A 3)) m = q_cu (q_nz (A 0)) (q_rc (q_nz (A 0))) m from q_cu_rc (fun k hk => q_wr_rc hw hk)]; rfl) dX3_cutsOff_24

set_option maxHeartbeats 4000000 in
set_option maxRecDepth 100000 in
theorem c_X3_meanFee {l : Launch} {dC : Nat → ClassId} {dI : Nat → Nat → Nat} {cI cL cJ : ClassId} {o : Nat} {t : Nat → Nat} {A : RW} {i : Nat → Int32} {h : Int64} (hnn : q_nM (q_nz (A 0)) 120 ≠ 0 → vf_n64 (FP.ddiv (FP.i2d (q_fsM (q_nz (A 0)) 120)) (FP.i2d (nI (q_nM (q_nz (A 0)) 120))))) : Met l yX3_meanFee (.code yX3_meanFee cX3_meanFee 1 (some .double) :: WG) (rmL 2) (va_Pc [.ref o] (MDM dC dI cI cL cJ o t A i h)) (bq_M (some (.double (q_meanM (q_nz (A 0))))) (fun H => va_P (dC, dI) vwCl (MW cI o t A (upd i 2 (nI 0)) h) H) (fun q => q ∈ MA o t)) 0 0 ((fun q => q ∈ MA o t)) := by
  refine bq_of [some (.ref o)] rfl rfl (Nat.le_of_ble_eq_true rfl) (by decide) ?_
  intro P_ E_ s M_ B_ T_ K_ C hv
  obtain ⟨hP, hD, hK⟩ := hv
  have hS : va_S (fun q => q ∈ MA o t) s.heap s.heap [] := va_S.rf
  refine g_aload0 C dX3_meanFee_0 ?_
  refine g_iconst C (nI 0) (by decide) dX3_meanFee_1 ?_
  refine g_put (ci := 3) (T := TX3) (N := 16) C inX3 tyX3 tyX3_ok nmX3 hK hP hD hS 0 rfl rfl 5 (by decide) wf_X3_37 ⟨rfl, rfl, rfl⟩ rfl rfl rfl (Nat.le_of_ble_eq_true rfl) dX3_meanFee_2 (fun H locs hP hD hS => ?_)
  have hP : va_P (dC, dI) vwCl (MW cI o t (A) (upd i 2 (nI 0)) (h)) H := hP
  have hD : va_D (fun q => q ∈ MA o t) (MW cI o t (A) (upd i 2 (nI 0)) (h)) := hD.fst rfl
  refine g_aload0 C dX3_meanFee_5 ?_
  refine g_mcV0 C hK hP (c_X3_meanNow hnn) wl_X3_167 wi_X3_meanNow wv_X3_meanNow wc_X3_meanNow (by decide +kernel) ⟨rfl, rfl, by decide, by decide⟩ rfl (by simp [Value.category]) ⟨by decide, by decide⟩ dX3_meanFee_6 ?_
  exact g_dretM C hP hS rfl dX3_meanFee_9

set_option maxHeartbeats 4000000 in
set_option maxRecDepth 100000 in
theorem c_Jxe99ae_isNaN_b9ae7 {l : Launch} {b : UInt64} : Met l yJxe99ae_isNaN_b9ae7 (.code yJxe99ae_isNaN_b9ae7 cJxe99ae_isNaN_b9ae7 2 (some .boolean) :: WG) (rmL 0) (va_Pc [.double b] (fun _ => True)) (bq_S (.int (bI (q_nan b)))) 0 0 (fun _ => False) := by
  refine bq_of [some (.double b), none] rfl rfl (Nat.le_of_ble_eq_true rfl) (by decide) ?_
  intro P_ E_ s M_ B_ T_ K_ C hv
  refine g_dload0 C dJxe99ae_isNaN_b9ae7_0 ?_
  refine g_dload0 C dJxe99ae_isNaN_b9ae7_1 ?_
  refine g_dcmp C dJxe99ae_isNaN_b9ae7_2 ?_
  refine g_if_eq C 10 dJxe99ae_isNaN_b9ae7_3 (by decide) (fun h3 => ?_) (fun h3 => ?_)
  · refine g_iconst C (nI 0) (by decide) dJxe99ae_isNaN_b9ae7_10 ?_
    exact g_iretz C (bI_f (fun z => z h3)) dJxe99ae_isNaN_b9ae7_11
  · refine g_iconst C (nI 1) (by decide) dJxe99ae_isNaN_b9ae7_6 ?_
    refine g_goto C 11 dJxe99ae_isNaN_b9ae7_7 (by decide) ?_
    exact g_iretz C (bI_t h3) dJxe99ae_isNaN_b9ae7_11

set_option maxHeartbeats 4000000 in
set_option maxRecDepth 100000 in
theorem c_Jxe99ae_doubleToLongBits_ccdee {l : Launch} {b : UInt64} : Met l yJxe99ae_doubleToLongBits_ccdee (.code yJxe99ae_doubleToLongBits_ccdee cJxe99ae_doubleToLongBits_ccdee 2 (some .long) :: WG) (rmL 1) (va_Pc [.double b] (fun _ => True)) (bq_S (.long (q_d2b b))) 0 0 (fun _ => False) := by
  refine bq_of [some (.double b), none] rfl rfl (Nat.le_of_ble_eq_true rfl) (by decide) ?_
  intro P_ E_ s M_ B_ T_ K_ C hv
  refine g_dload0 C dJxe99ae_doubleToLongBits_ccdee_0 ?_
  refine g_scS1 C (c_Jxe99ae_isNaN_b9ae7) wl_Jxe99ae_122 wt_Jxe99ae_isNaN_b9ae7 wn_Jxe99ae wc_Jxe99ae_isNaN_b9ae7 (by decide +kernel) ⟨rfl, rfl, by decide, by decide⟩ rfl (by simp [Value.category]) ⟨by decide, by decide⟩ dJxe99ae_doubleToLongBits_ccdee_1 ?_
  refine g_if_neB C 12 dJxe99ae_doubleToLongBits_ccdee_4 (by decide) (fun h4 => ?_) (fun h4 => ?_)
  · refine g_ldc2 C wq_Jxe99ae_137 dJxe99ae_doubleToLongBits_ccdee_12 ?_
    exact g_lret C (by unfold q_d2b; rw [if_pos h4]) dJxe99ae_doubleToLongBits_ccdee_15
  · refine g_dload0 C dJxe99ae_doubleToLongBits_ccdee_7 ?_
    refine g_d2raw C wl_Jxe99ae_134 wz_Double_doubleToRawLongBits_df wt_Double_doubleToRawLongBits_df wn_Jxe99ae rfl ⟨by decide, by simp [Value.category, rmL]⟩ dJxe99ae_doubleToLongBits_ccdee_8 ?_
    exact g_lret C (by unfold q_d2b; rw [if_neg h4]) dJxe99ae_doubleToLongBits_ccdee_11

set_option maxHeartbeats 4000000 in
set_option maxRecDepth 100000 in
theorem c_X3_mix {l : Launch} {dC : Nat → ClassId} {dI : Nat → Nat → Nat} {cI cL cJ : ClassId} {o : Nat} {t : Nat → Nat} {A : RW} {i : Nat → Int32} {h : Int64} {v : Int64} : Met l yX3_mix (.code yX3_mix cX3_mix 3 none :: WG) (rmL 0) (va_Pc [.ref o, .long v] (MDM dC dI cI cL cJ o t A i h)) (bq_M (none) (fun H => va_P (dC, dI) vwCl (MW cI o t A i (q_mixv h v)) H) (fun q => q ∈ MA o t)) 0 0 ((fun q => q ∈ MA o t)) := by
  refine bq_of [some (.ref o), some (.long v), none] rfl rfl (Nat.le_of_ble_eq_true rfl) (by decide) ?_
  intro P_ E_ s M_ B_ T_ K_ C hv
  obtain ⟨hP, hD, hK⟩ := hv
  have hS : va_S (fun q => q ∈ MA o t) s.heap s.heap [] := va_S.rf
  refine g_aload0 C dX3_mix_0 ?_
  refine g_ldc2 C wq_X3_171 dX3_mix_1 ?_
  refine g_aload0 C dX3_mix_4 ?_
  refine g_get (ci := 3) (T := TX3) (N := 16) C inX3 hK hP 0 rfl rfl 15 (by decide) wf_X3_173 ⟨rfl, rfl, rfl⟩ rfl dX3_mix_5 ?_
  refine g_lmul C dX3_mix_8 ?_
  refine g_lload1 C dX3_mix_9 ?_
  refine g_ladd C dX3_mix_10 ?_
  refine g_put (ci := 3) (T := TX3) (N := 16) C inX3 tyX3 tyX3_ok nmX3 hK hP hD hS 0 rfl rfl 15 (by decide) wf_X3_173 ⟨rfl, rfl, rfl⟩ rfl rfl rfl (Nat.le_of_ble_eq_true rfl) dX3_mix_11 (fun H locs hP hD hS => ?_)
  exact g_vretM C hP hS dX3_mix_14
