set_option maxHeartbeats 4000000 in
set_option maxRecDepth 100000 in
theorem c_X3_lay {l : Launch} {dC : Nat → ClassId} {dI : Nat → Nat → Nat} {cI cL cJ : ClassId} {o : Nat} {t : Nat → Nat} {A : RW} {i : Nat → Int32} {h : Int64} {n : Nat} (hn : n ≤ 6) (hi0 : i 0 = nI n) (hki : INV (q_nz (A 0))) {p kv : Int32} : Met l yX3_lay (.code yX3_lay cX3_lay 4 (some .int) :: WG) (rmL 3) (va_Pc [.ref o, .int p, .int kv] (MDM dC dI cI cL cJ o t A i h)) (bq_M (some (.int (if k_lay (q_nz (A 0)) p kv = 0 then (q_nz (A 0)) 3 (q_n p) else nI 0))) (PM dC dI cI o t (A 0) (A 1) (A 2) (i 1) n (k_lay (q_nz (A 0)) p kv) (if k_lay (q_nz (A 0)) p kv = 0 then upd (A 0) (q_n p) kv else A 0)) (fun q => q ∈ MA o t)) 0 0 ((fun q => q ∈ MA o t)) := by
  refine bq_of [some (.ref o), some (.int p), some (.int kv), none] rfl rfl (Nat.le_of_ble_eq_true rfl) (by decide) ?_
  intro P_ E_ s M_ B_ T_ K_ C hv
  obtain ⟨hP, hD, hK⟩ := hv
  have hS : va_S (fun q => q ∈ MA o t) s.heap s.heap [] := va_S.rf
  refine g_aload0 C dX3_lay_0 ?_
  refine g_mV (As := []) C 0 rfl (c_X3_look hki) wl_X3_92 wi_X3_look wv_X3_look wn_X3 wc_X3_look (by decide +kernel) ⟨rfl, rfl, by decide, by decide⟩ MDM_bl (va_recv (ci := 3) (q0 := 0) hK hP rfl rfl) (MDM_at hK hP hD) rfl rfl (by simp [Value.category]) ⟨by decide, by decide⟩ hS (fun _ h => h) dX3_lay_1 (fun H locs hP _ _ hS => ?_)
  obtain ⟨A, i, hP, e0, e1, e2, f0, f1, f2, f3, hw⟩ := hP
  rw [← e0] at hki f3 hw
  rw [← f0] at hi0
  rw [← e0, ← e1, ← e2, ← f1]
  have hD : va_D (fun q => q ∈ MA o t) (MW cI o t A i h) := hD.fst rfl
  refine g_iload1 C dX3_lay_4 ?_
  refine g_iconst C (nI 1) (by decide) dX3_lay_5 ?_
  refine g_bipush C (nI 39) (by decide) dX3_lay_6 ?_
  refine g_scS3 C (c_X3_within) wl_X3_41 wt_X3_within wn_X3 wc_X3_within (by decide +kernel) ⟨rfl, rfl, by decide, by decide⟩ rfl (by simp [Value.category]) ⟨by decide, by decide⟩ dX3_lay_8 ?_
  refine g_if_neB C 20 dX3_lay_11 (by decide) (fun h11 => ?_) (fun h11 => ?_)
  · obtain ⟨m, hm1, hm2, rfl⟩ := q_rng (by decide) (by decide) h11
    have hqn : q_n (nI m) = m := q_n_nI (by omega)
    refine g_iload2 C dX3_lay_20 ?_
    refine g_iconst C (nI 0) (by decide) dX3_lay_21 ?_
    refine g_iconst C (nI 3) (by decide) dX3_lay_22 ?_
    refine g_scS3 C (c_X3_within) wl_X3_41 wt_X3_within wn_X3 wc_X3_within (by decide +kernel) ⟨rfl, rfl, by decide, by decide⟩ rfl (by simp [Value.category]) ⟨by decide, by decide⟩ dX3_lay_23 ?_
    refine g_if_neB C 35 dX3_lay_26 (by decide) (fun h26 => ?_) (fun h26 => ?_)
    · refine g_aload0 C dX3_lay_35 ?_
      refine g_iload1 C dX3_lay_36 ?_
      refine g_mcV1 C hK hP (c_X3_buried (by omega)) wl_X3_67 wi_X3_buried wv_X3_buried wc_X3_buried (by decide +kernel) ⟨rfl, rfl, by decide, by decide⟩ rfl (by simp [Value.category]) ⟨by decide, by decide⟩ dX3_lay_37 ?_
      have hbu : q_bur (q_nz (A 0)) m ≤ 3 := q_cn_le _ 3
      refine g_if_gtN C (by omega) 69 dX3_lay_40 (by decide) (fun h40 => ?_) (fun h40 => ?_)
      · refine g_aload0 C dX3_lay_69 ?_
        refine g_iconst C (nI 3) (by decide) dX3_lay_70 ?_
        refine g_mV (As := [.int (nI 3)]) C 1 rfl (c_X3_fails) wl_X3_95 wi_X3_fails wv_X3_fails wn_X3 wc_X3_fails (by decide +kernel) ⟨rfl, rfl, by decide, by decide⟩ MDM_bl (va_recv (ci := 3) (q0 := 0) hK hP rfl rfl) (MDM_at hK hP hD) rfl rfl (by simp [Value.category]) ⟨by decide, by decide⟩ hS (fun _ h => h) dX3_lay_71 (fun H locs hP _ _ hS => ?_)
        have hP : va_P (dC, dI) vwCl (MW cI o t (A) (upd i 2 (nI 3)) (h)) H := hP
        have hD : va_D (fun q => q ∈ MA o t) (MW cI o t (A) (upd i 2 (nI 3)) (h)) := hD
        have hk : k_lay (q_nz (A 0)) p kv = 3 := by unfold k_lay; rw [if_neg (fun z => z h11), if_neg (fun z => z h26), if_pos (by rw [hqn]; exact fun z => absurd z.1 (by omega))]
        rw [hk]
        exact g_iretM C ⟨A, upd i 2 (nI 3), h, hP, rfl, rfl, hi0, rfl, rfl, rfl⟩ hS rfl dX3_lay_74
      · refine g_aload0 C dX3_lay_43 ?_
        refine g_get (ci := 3) (T := TX3) (N := 16) C inX3 hK hP 0 rfl rfl 0 (by decide) wf_X3_7 ⟨rfl, rfl, rfl⟩ rfl dX3_lay_44 ?_
        refine g_bipush C (nI 40) (by decide) dX3_lay_47 ?_
        refine g_iload1 C dX3_lay_49 ?_
        refine g_iaddN C dX3_lay_50 ?_
        refine g_zal C hK hP (by omega) (zr4 (k := m) (by omega) (by omega)) dX3_lay_51 ?_
        refine g_iconst C (-1) (by decide) dX3_lay_52 ?_
        refine g_icmp_ne C 69 dX3_lay_53 (by decide) (fun h53 => ?_) (fun h53 => ?_)
        · refine g_aload0 C dX3_lay_69 ?_
          refine g_iconst C (nI 3) (by decide) dX3_lay_70 ?_
          refine g_mV (As := [.int (nI 3)]) C 1 rfl (c_X3_fails) wl_X3_95 wi_X3_fails wv_X3_fails wn_X3 wc_X3_fails (by decide +kernel) ⟨rfl, rfl, by decide, by decide⟩ MDM_bl (va_recv (ci := 3) (q0 := 0) hK hP rfl rfl) (MDM_at hK hP hD) rfl rfl (by simp [Value.category]) ⟨by decide, by decide⟩ hS (fun _ h => h) dX3_lay_71 (fun H locs hP _ _ hS => ?_)
          have hP : va_P (dC, dI) vwCl (MW cI o t (A) (upd i 2 (nI 3)) (h)) H := hP
          have hD : va_D (fun q => q ∈ MA o t) (MW cI o t (A) (upd i 2 (nI 3)) (h)) := hD
          have hk : k_lay (q_nz (A 0)) p kv = 3 := by unfold k_lay; rw [if_neg (fun z => z h11), if_neg (fun z => z h26), if_pos (by rw [hqn]; exact fun z => h53 z.2.1)]
          rw [hk]
          exact g_iretM C ⟨A, upd i 2 (nI 3), h, hP, rfl, rfl, hi0, rfl, rfl, rfl⟩ hS rfl dX3_lay_74
        · refine g_aload0 C dX3_lay_56 ?_
          refine g_get (ci := 3) (T := TX3) (N := 16) C inX3 hK hP 0 rfl rfl 0 (by decide) wf_X3_7 ⟨rfl, rfl, rfl⟩ rfl dX3_lay_57 ?_
          refine g_bipush C (nI 80) (by decide) dX3_lay_60 ?_
          refine g_iload1 C dX3_lay_62 ?_
          refine g_iaddN C dX3_lay_63 ?_
          refine g_zal C hK hP (by omega) (zr5 (k := m) (by omega) (by omega)) dX3_lay_64 ?_
          refine g_iconst C (-1) (by decide) dX3_lay_65 ?_
          refine g_icmp_eq C 75 dX3_lay_66 (by decide) (fun h66 => ?_) (fun h66 => ?_)
          · refine g_aload0 C dX3_lay_75 ?_
            refine g_mV (As := []) C 0 rfl (c_X3_save hn hi0) wl_X3_98 wi_X3_save wv_X3_save wn_X3 wc_X3_save (by decide +kernel) ⟨rfl, rfl, by decide, by decide⟩ MDM_bl (va_recv (ci := 3) (q0 := 0) hK hP rfl rfl) (MDM_at hK hP hD) rfl rfl (by simp [Value.category]) ⟨by decide, by decide⟩ hS (fun _ h => h) dX3_lay_76 (fun H locs hP _ _ hS => ?_)
            have hD : va_D (fun q => q ∈ MA o t) (MW cI o t (q_s1 A 1 (q_rs (A 1) (A 0) n)) (upd i 0 (nI (min (n + 1) 6))) h) := hD.fst rfl
            refine g_aload0 C dX3_lay_79 ?_
            refine g_get (ci := 3) (T := TX3) (N := 16) C inX3 hK hP 0 rfl rfl 0 (by decide) wf_X3_7 ⟨rfl, rfl, rfl⟩ rfl dX3_lay_80 ?_
            refine g_iload1 C dX3_lay_83 ?_
            refine g_iald C hK hP 1 0 rfl rfl (by omega) (by decide) dX3_lay_84 ?_
            refine g_istore3 C rfl dX3_lay_85 ?_
            refine g_aload0 C dX3_lay_86 ?_
            refine g_get (ci := 3) (T := TX3) (N := 16) C inX3 hK hP 0 rfl rfl 0 (by decide) wf_X3_7 ⟨rfl, rfl, rfl⟩ rfl dX3_lay_87 ?_
            refine g_iload1 C dX3_lay_90 ?_
            refine g_iload2 C dX3_lay_91 ?_
            refine g_iast C hK hP hD hS 1 0 rfl rfl (by omega) (by decide) dX3_lay_92 (fun H locs hP hD hS => ?_)
            have hP : va_P (dC, dI) vwCl (MW cI o t (q_s1 (q_s1 A 1 (q_rs (A 1) (A 0) n)) 0 (upd (A 0) (q_n (nI m)) kv)) (upd i 0 (nI (min (n + 1) 6))) h) H := by rw [hqn]; exact hP
            refine g_iload3 C dX3_lay_93 ?_
            have hk : k_lay (q_nz (A 0)) p kv = 0 := by unfold k_lay; rw [if_neg (fun z => z h11), if_neg (fun z => z h26), if_neg (by rw [hqn]; exact fun z => z ⟨h40, h53, h66⟩)]
            rw [hk]
            exact g_iretM C ⟨q_s1 (q_s1 A 1 (q_rs (A 1) (A 0) n)) 0 (upd (A 0) (q_n (nI m)) kv), upd i 0 (nI (min (n + 1) 6)), h, hP, rfl, rfl, rfl, rfl, rfl, f2⟩ hS rfl dX3_lay_94
          · refine g_aload0 C dX3_lay_69 ?_
            refine g_iconst C (nI 3) (by decide) dX3_lay_70 ?_
            refine g_mV (As := [.int (nI 3)]) C 1 rfl (c_X3_fails) wl_X3_95 wi_X3_fails wv_X3_fails wn_X3 wc_X3_fails (by decide +kernel) ⟨rfl, rfl, by decide, by decide⟩ MDM_bl (va_recv (ci := 3) (q0 := 0) hK hP rfl rfl) (MDM_at hK hP hD) rfl rfl (by simp [Value.category]) ⟨by decide, by decide⟩ hS (fun _ h => h) dX3_lay_71 (fun H locs hP _ _ hS => ?_)
            have hP : va_P (dC, dI) vwCl (MW cI o t (A) (upd i 2 (nI 3)) (h)) H := hP
            have hD : va_D (fun q => q ∈ MA o t) (MW cI o t (A) (upd i 2 (nI 3)) (h)) := hD
            have hk : k_lay (q_nz (A 0)) p kv = 3 := by unfold k_lay; rw [if_neg (fun z => z h11), if_neg (fun z => z h26), if_pos (by rw [hqn]; exact fun z => h66 z.2.2)]
            rw [hk]
            exact g_iretM C ⟨A, upd i 2 (nI 3), h, hP, rfl, rfl, hi0, rfl, rfl, rfl⟩ hS rfl dX3_lay_74
    · refine g_aload0 C dX3_lay_29 ?_
      refine g_iconst C (nI 2) (by decide) dX3_lay_30 ?_
      refine g_mV (As := [.int (nI 2)]) C 1 rfl (c_X3_fails) wl_X3_95 wi_X3_fails wv_X3_fails wn_X3 wc_X3_fails (by decide +kernel) ⟨rfl, rfl, by decide, by decide⟩ MDM_bl (va_recv (ci := 3) (q0 := 0) hK hP rfl rfl) (MDM_at hK hP hD) rfl rfl (by simp [Value.category]) ⟨by decide, by decide⟩ hS (fun _ h => h) dX3_lay_31 (fun H locs hP _ _ hS => ?_)
      have hP : va_P (dC, dI) vwCl (MW cI o t (A) (upd i 2 (nI 2)) (h)) H := hP
      have hD : va_D (fun q => q ∈ MA o t) (MW cI o t (A) (upd i 2 (nI 2)) (h)) := hD
      have hk : k_lay (q_nz (A 0)) p kv = 2 := by unfold k_lay; rw [if_neg (fun z => z h11), if_pos h26]
      rw [hk]
      exact g_iretM C ⟨A, upd i 2 (nI 2), h, hP, rfl, rfl, hi0, rfl, rfl, rfl⟩ hS rfl dX3_lay_34
  · refine g_aload0 C dX3_lay_14 ?_
    refine g_iconst C (nI 1) (by decide) dX3_lay_15 ?_
    refine g_mV (As := [.int (nI 1)]) C 1 rfl (c_X3_fails) wl_X3_95 wi_X3_fails wv_X3_fails wn_X3 wc_X3_fails (by decide +kernel) ⟨rfl, rfl, by decide, by decide⟩ MDM_bl (va_recv (ci := 3) (q0 := 0) hK hP rfl rfl) (MDM_at hK hP hD) rfl rfl (by simp [Value.category]) ⟨by decide, by decide⟩ hS (fun _ h => h) dX3_lay_16 (fun H locs hP _ _ hS => ?_)
    have hP : va_P (dC, dI) vwCl (MW cI o t (A) (upd i 2 (nI 1)) (h)) H := hP
    have hD : va_D (fun q => q ∈ MA o t) (MW cI o t (A) (upd i 2 (nI 1)) (h)) := hD
    have hk : k_lay (q_nz (A 0)) p kv = 1 := by unfold k_lay; rw [if_pos h11]
    rw [hk]
    exact g_iretM C ⟨A, upd i 2 (nI 1), h, hP, rfl, rfl, hi0, rfl, rfl, rfl⟩ hS rfl dX3_lay_19
