set_option maxHeartbeats 4000000 in
set_option maxRecDepth 100000 in
theorem c_X3_lay {l : Launch} {dC : Nat → ClassId} {dI : Nat → Nat → Nat} {cI cL cJ : ClassId} {o : Nat} {t : Nat → Nat} {A : RW} {i : Nat → Int32} {h : Int64} {n : Nat} (hn : n ≤ 6) (hi0 : i 0 = nI n) (hki : INV (q_nz (A 0))) {p kv : Int32} : Met l yX3_lay (.code yX3_lay cX3_lay 4 (some .int) :: WG) (rmL 3) (va_Pc [.ref o, .int p, .int kv] (MDM dC dI cI cL cJ o t A i h)) (bq_M (some (.int (if k_lay (q_nz (A 0)) p kv = 0 then (q_nz (A 0)) 3 (q_n p) else nI 0))) (PM dC dI cI o t (A 0) (A 1) (A 2) (i 1) n (k_lay (q_nz (A 0)) p kv) (if k_lay (q_nz (A 0)) p kv = 0 then upd (A 0) (q_n p) kv else A 0)) (fun q => q ∈ MA o t)) 0 0 ((fun q => q ∈ MA o t)) := by
  refine bq_of [some (.ref o), some (.int p), some (.int kv), none] rfl rfl (Nat.le_of_ble_eq_true rfl) (by decide) ?_
  intro P_ E_ s M_ B_ T_ K_ C hv
  obtain ⟨hP, hD, hK⟩ := hv
  have hS : va_S (fun q => q ∈ MA o t) s.heap s.heap [] := va_S.rf
  refine g_aload0 C dX3_lay_0 ?_
  refine g_mV (As := []) C 0 rfl (c_X3_look hki) wl_X3_92 wi_X3_look wv_X3_look wn_X3 wc_X3_look (by decide +kernel) ⟨rfl, rfl, by decide, by decide⟩ MDM_bl (va_recv (ci := 3) (q0 := 0) hK hP rfl rfl) (MDM_at hK hP hD) rfl rfl (by simp [Value.category]) ⟨by decide, by decide⟩ hS (fun _ h => h) dX3_lay_1 (fun H locs hP _ _ hS => ?_)
  obtain ⟨A, i, hP, e0, e1, e2, f0, f1, f2, f3, hw⟩ := hP
  rw [← e0] at hki f3 hw
  rw [← f0] at hi0
  rw [← e0, ← e1, ← e2, ← f1]
  have hD : va_D (fun q => q ∈ MA o t) (MW cI o t A i h) := hD.fst rfl
  refine g_iload1 C dX3_lay_4 ?_
  refine g_iconst C (nI 1) (by decide) dX3_lay_5 ?_
  refine g_bipush C (nI 39) (by decide) dX3_lay_6 ?_
  refine g_scS3 C (c_X3_within) wl_X3_41 wt_X3_within wn_X3 wc_X3_within (by decide +kernel) ⟨rfl, rfl, by decide, by decide⟩ rfl (by simp [Value.category]) ⟨by decide, by decide⟩ dX3_lay_8 ?_
  refine g_if_neB C 20 dX3_lay_11 (by decide) (fun h11 => ?_) (fun h11 => ?_)
  · obtain ⟨m, hm1, hm2, rfl⟩ := q_rng (by decide) (by decide) h11
    have hqn : q_n (nI m) = m := q_n_nI (by omega)
    refine g_iload2 C dX3_lay_20 ?_
    refine g_iconst C (nI 0) (by decide) dX3_lay_21 ?_
    refine g_iconst C (nI 3) (by decide) dX3_lay_22 ?_
    refine g_scS3 C (c_X3_within) wl_X3_41 wt_X3_within wn_X3 wc_X3_within (by decide +kernel) ⟨rfl, rfl, by decide, by decide⟩ rfl (by simp [Value.category]) ⟨by decide, by decide⟩ dX3_lay_23 ?_
    refine g_if_neB C 35 dX3_lay_26 (by decide) (fun h26 => ?_) (fun h26 => ?_)
    · refine g_aload0 C dX3_lay_35 ?_
      refine g_iload1 C dX3_lay_36 ?_
      refine g_mcV1 C hK hP (c_X3_buried (by omega)) wl_X3_67 wi_X3_buried wv_X3_buried wc_X3_buried (by decide +kernel) ⟨rfl, rfl, by decide, by decide⟩ rfl (by simp [Value.category]) ⟨by decide, by decide⟩ dX3_lay_37 ?_
      have hbu : q_bur (q_nz (A 0)) m ≤ 3 := q_cn_le _ 3
      refine g_if_gtN C (by omega) 69 dX3_lay_40 (by decide) (fun h40 => ?_) (fun h40 => ?_)
      · refine g_aload0 C dX3_lay_69 ?_
        refine g_iconst C (nI 3) (by decide) dX3_lay_70 ?_
        refine g_mV (As := [.int (nI 3)]) C 1 rfl (c_X3_fails) wl_X3_95 wi_X3_fails wv_X3_fails wn_X3 wc_X3_fails (by decide +kernel) ⟨rfl, rfl, by decide, by decide⟩ MDM_bl (va_recv (ci := 3) (q0 := 0) hK hP rfl rfl) (MDM_at hK hP hD) rfl rfl (by simp [Value.category]) ⟨by decide, by decide⟩ hS (fun _ h => h) dX3_lay_71 (fun H locs hP _ _ hS => ?_)
        have hP : va_P (dC, dI) vwCl (MW cI o t (A) (upd i 2 (nI 3)) (h)) H := hP
        have hD : va_D (fun q => q ∈ MA o t) (MW cI o t (A) (upd i 2 (nI 3)) (h)) := hD.fst rfl
        have hk : k_lay (q_nz (A 0)) (nI m) kv = 3 := by unfold k_lay; rw [if_neg (fun z => z h11), if_neg (fun z => z h26), if_pos (by rw [hqn]; exact fun z => absurd z.1 (by omega))]
        rw [hk]
        exact g_iretM C ⟨A, upd i 2 (nI 3), h, hP, rfl, rfl, hi0, rfl, rfl, rfl⟩ hS rfl dX3_lay_74
      · refine g_aload0 C dX3_lay_43 ?_
        refine g_get (ci := 3) (T := TX3) (N := 16) C inX3 hK hP 0 rfl rfl 0 (by decide) wf_X3_7 ⟨rfl, rfl, rfl⟩ rfl dX3_lay_44 ?_
        refine g_bipush C (nI 40) (by decide) dX3_lay_47 ?_
        refine g_iload1 C dX3_lay_49 ?_
        refine g_iaddN C dX3_lay_50 ?_
        refine g_zal C hK hP (by omega) (zr4 (k := m) (by omega) (by omega)) dX3_lay_51 ?_
        refine g_iconst C (-1) (by decide) dX3_lay_52 ?_
        refine g_icmp_ne C 69 dX3_lay_53 (by decide) (fun h53 => ?_) (fun h53 => ?_)
        · refine g_aload0 C dX3_lay_69 ?_
          refine g_iconst C (nI 3) (by decide) dX3_lay_70 ?_
          refine g_mV (As := [.int (nI 3)]) C 1 rfl (c_X3_fails) wl_X3_95 wi_X3_fails wv_X3_fails wn_X3 wc_X3_fails (by decide +kernel) ⟨rfl, rfl, by decide, by decide⟩ MDM_bl (va_recv (ci := 3) (q0 := 0) hK hP rfl rfl) (MDM_at hK hP hD) rfl rfl (by simp [Value.category]) ⟨by decide, by decide⟩ hS (fun _ h => h) dX3_lay_71 (fun H locs hP _ _ hS => ?_)
          have hP : va_P (dC, dI) vwCl (MW cI o t (A) (upd i 2 (nI 3)) (h)) H := hP
          have hD : va_D (fun q => q ∈ MA o t) (MW cI o t (A) (upd i 2 (nI 3)) (h)) := hD.fst rfl
          have hk : k_lay (q_nz (A 0)) (nI m) kv = 3 := by unfold k_lay; rw [if_neg (fun z => z h11), if_neg (fun z => z h26), if_pos (by rw [hqn]; exact fun z => h53 z.2.1)]
          rw [hk]
          exact g_iretM C ⟨A, upd i 2 (nI 3), h, hP, rfl, rfl, hi0, rfl, rfl, rfl⟩ hS rfl dX3_lay_74
        · refine g_aload0 C dX3_lay_56 ?_
          refine g_get (ci := 3) (T := TX3) (N := 16) C inX3 hK hP 0 rfl rfl 0 (by decide) wf_X3_7 ⟨rfl, rfl, rfl⟩ rfl dX3_lay_57 ?_
          refine g_bipush C (nI 80) (by decide) dX3_lay_60 ?_
          refine g_iload1 C dX3_lay_62 ?_
          refine g_iaddN C dX3_lay_63 ?_
          refine g_zal C hK hP (by omega) (zr5 (k := m) (by omega) (by omega)) dX3_lay_64 ?_
          refine g_iconst C (-1) (by decide) dX3_lay_65 ?_
          refine g_icmp_eq C 75 dX3_lay_66 (by decide) (fun h66 => ?_) (fun h66 => ?_)
          · refine g_aload0 C dX3_lay_75 ?_
            refine g_mV (As := []) C 0 rfl (c_X3_save hn hi0) wl_X3_98 wi_X3_save wv_X3_save wn_X3 wc_X3_save (by decide +kernel) ⟨rfl, rfl, by decide, by decide⟩ MDM_bl (va_recv (ci := 3) (q0 := 0) hK hP rfl rfl) (MDM_at hK hP hD) rfl rfl (by simp [Value.category]) ⟨by decide, by decide⟩ hS (fun _ h => h) dX3_lay_76 (fun H locs hP _ _ hS => ?_)
            have hD : va_D (fun q => q ∈ MA o t) (MW cI o t (q_s1 A 1 (q_rs (A 1) (A 0) n)) (upd i 0 (nI (min (n + 1) 6))) h) := hD.fst rfl
            refine g_aload0 C dX3_lay_79 ?_
            refine g_get (ci := 3) (T := TX3) (N := 16) C inX3 hK hP 0 rfl rfl 0 (by decide) wf_X3_7 ⟨rfl, rfl, rfl⟩ rfl dX3_lay_80 ?_
            refine g_iload1 C dX3_lay_83 ?_
            refine g_zal C hK hP (by omega) (zr3 (k := m) (by omega) (by omega)) dX3_lay_84 ?_
            refine g_istore3 C rfl dX3_lay_85 ?_
            refine g_aload0 C dX3_lay_86 ?_
            refine g_get (ci := 3) (T := TX3) (N := 16) C inX3 hK hP 0 rfl rfl 0 (by decide) wf_X3_7 ⟨rfl, rfl, rfl⟩ rfl dX3_lay_87 ?_
            refine g_iload1 C dX3_lay_90 ?_
            refine g_iload2 C dX3_lay_91 ?_
            refine g_iast C hK hP hD hS 1 0 rfl rfl (by omega) (by decide) dX3_lay_92 (fun H locs hP hD hS => ?_)
            have hP : va_P (dC, dI) vwCl (MW cI o t (q_s1 (q_s1 A 1 (q_rs (A 1) (A 0) n)) 0 (upd (A 0) (q_n (nI m)) kv)) (upd i 0 (nI (min (n + 1) 6))) h) H := by rw [hqn]; exact hP
            refine g_iload3 C dX3_lay_93 ?_
            have hk : k_lay (q_nz (A 0)) (nI m) kv = 0 := by unfold k_lay; rw [if_neg (fun z => z h11), if_neg (fun z => z h26), if_neg (by rw [hqn]; exact fun z => z ⟨h40, h53, h66⟩)]
            rw [hk]
            exact g_iretM C ⟨q_s1 (q_s1 A 1 (q_rs (A 1) (A 0) n)) 0 (upd (A 0) (q_n (nI m)) kv), upd i 0 (nI (min (n + 1) 6)), h, hP, rfl, rfl, rfl, rfl, rfl, f2⟩ hS (by rw [hqn]; rfl) dX3_lay_94
          · refine g_aload0 C dX3_lay_69 ?_
            refine g_iconst C (nI 3) (by decide) dX3_lay_70 ?_
            refine g_mV (As := [.int (nI 3)]) C 1 rfl (c_X3_fails) wl_X3_95 wi_X3_fails wv_X3_fails wn_X3 wc_X3_fails (by decide +kernel) ⟨rfl, rfl, by decide, by decide⟩ MDM_bl (va_recv (ci := 3) (q0 := 0) hK hP rfl rfl) (MDM_at hK hP hD) rfl rfl (by simp [Value.category]) ⟨by decide, by decide⟩ hS (fun _ h => h) dX3_lay_71 (fun H locs hP _ _ hS => ?_)
            have hP : va_P (dC, dI) vwCl (MW cI o t (A) (upd i 2 (nI 3)) (h)) H := hP
            have hD : va_D (fun q => q ∈ MA o t) (MW cI o t (A) (upd i 2 (nI 3)) (h)) := hD.fst rfl
            have hk : k_lay (q_nz (A 0)) (nI m) kv = 3 := by unfold k_lay; rw [if_neg (fun z => z h11), if_neg (fun z => z h26), if_pos (by rw [hqn]; exact fun z => h66 z.2.2)]
            rw [hk]
            exact g_iretM C ⟨A, upd i 2 (nI 3), h, hP, rfl, rfl, hi0, rfl, rfl, rfl⟩ hS rfl dX3_lay_74
    · refine g_aload0 C dX3_lay_29 ?_
      refine g_iconst C (nI 2) (by decide) dX3_lay_30 ?_
      refine g_mV (As := [.int (nI 2)]) C 1 rfl (c_X3_fails) wl_X3_95 wi_X3_fails wv_X3_fails wn_X3 wc_X3_fails (by decide +kernel) ⟨rfl, rfl, by decide, by decide⟩ MDM_bl (va_recv (ci := 3) (q0 := 0) hK hP rfl rfl) (MDM_at hK hP hD) rfl rfl (by simp [Value.category]) ⟨by decide, by decide⟩ hS (fun _ h => h) dX3_lay_31 (fun H locs hP _ _ hS => ?_)
      have hP : va_P (dC, dI) vwCl (MW cI o t (A) (upd i 2 (nI 2)) (h)) H := hP
      have hD : va_D (fun q => q ∈ MA o t) (MW cI o t (A) (upd i 2 (nI 2)) (h)) := hD.fst rfl
      have hk : k_lay (q_nz (A 0)) (nI m) kv = 2 := by unfold k_lay; rw [if_neg (fun z => z h11), if_pos h26]
      rw [hk]
      exact g_iretM C ⟨A, upd i 2 (nI 2), h, hP, rfl, rfl, hi0, rfl, rfl, rfl⟩ hS rfl dX3_lay_34
  · refine g_aload0 C dX3_lay_14 ?_
    refine g_iconst C (nI 1) (by decide) dX3_lay_15 ?_
    refine g_mV (As := [.int (nI 1)]) C 1 rfl (c_X3_fails) wl_X3_95 wi_X3_fails wv_X3_fails wn_X3 wc_X3_fails (by decide +kernel) ⟨rfl, rfl, by decide, by decide⟩ MDM_bl (va_recv (ci := 3) (q0 := 0) hK hP rfl rfl) (MDM_at hK hP hD) rfl rfl (by simp [Value.category]) ⟨by decide, by decide⟩ hS (fun _ h => h) dX3_lay_16 (fun H locs hP _ _ hS => ?_)
    have hP : va_P (dC, dI) vwCl (MW cI o t (A) (upd i 2 (nI 1)) (h)) H := hP
    have hD : va_D (fun q => q ∈ MA o t) (MW cI o t (A) (upd i 2 (nI 1)) (h)) := hD.fst rfl
    have hk : k_lay (q_nz (A 0)) p kv = 1 := by unfold k_lay; rw [if_pos h11]
    rw [hk]
    exact g_iretM C ⟨A, upd i 2 (nI 1), h, hP, rfl, rfl, hi0, rfl, rfl, rfl⟩ hS rfl dX3_lay_19

set_option maxHeartbeats 4000000 in
set_option maxRecDepth 100000 in
theorem c_X3_append {l : Launch} {dC : Nat → ClassId} {dI : Nat → Nat → Nat} {cI cL cJ : ClassId} {o : Nat} {t : Nat → Nat} {A : RW} {i : Nat → Int32} {h : Int64} {len : Nat} {c : Int32} (hl : len ≤ 60) (hlen : i 1 = nI len) : Met l yX3_append (.code yX3_append cX3_append 2 (some .int) :: WG) (rmL 2) (va_Pc [.ref o, .int c] (MDM dC dI cI cL cJ o t A i h)) (bq_M (some (.int (if k_app len c = 0 then nI (len + 1) else nI 0))) (fun H => ∃ (A9 : RW) (i9 : Nat → Int32), va_P (dC, dI) vwCl (MW cI o t A9 i9 h) H ∧ A9 0 = A 0 ∧ A9 1 = A 1 ∧ A9 2 = (if k_app len c = 0 then upd (A 2) len c else A 2) ∧ i9 0 = i 0 ∧ i9 1 = nI (if k_app len c = 0 then len + 1 else len) ∧ i9 2 = nI (k_app len c)) (fun q => q ∈ MA o t)) 0 0 ((fun q => q ∈ MA o t)) := by
  refine bq_of [some (.ref o), some (.int c)] rfl rfl (Nat.le_of_ble_eq_true rfl) (by decide) ?_
  intro P_ E_ s M_ B_ T_ K_ C hv
  obtain ⟨hP, hD, hK⟩ := hv
  have hS : va_S (fun q => q ∈ MA o t) s.heap s.heap [] := va_S.rf
  refine g_aload0 C dX3_append_0 ?_
  refine g_iconst C (nI 0) (by decide) dX3_append_1 ?_
  refine g_put (ci := 3) (T := TX3) (N := 16) C inX3 tyX3 tyX3_ok nmX3 hK hP hD hS 0 rfl rfl 5 (by decide) wf_X3_37 ⟨rfl, rfl, rfl⟩ rfl rfl rfl (Nat.le_of_ble_eq_true rfl) dX3_append_2 (fun H locs hP hD hS => ?_)
  have hP : va_P (dC, dI) vwCl (MW cI o t (A) (upd i 2 (nI 0)) (h)) H := hP
  have hD : va_D (fun q => q ∈ MA o t) (MW cI o t (A) (upd i 2 (nI 0)) (h)) := hD.fst rfl
  refine g_iload1 C dX3_append_5 ?_
  refine g_bipush C (nI 33) (by decide) dX3_append_6 ?_
  refine g_bipush C (nI 126) (by decide) dX3_append_8 ?_
  refine g_scS3 C (c_X3_within) wl_X3_41 wt_X3_within wn_X3 wc_X3_within (by decide +kernel) ⟨rfl, rfl, by decide, by decide⟩ rfl (by simp [Value.category]) ⟨by decide, by decide⟩ dX3_append_10 ?_
  refine g_if_neB C 22 dX3_append_13 (by decide) (fun h13 => ?_) (fun h13 => ?_)
  · refine g_aload0 C dX3_append_22 ?_
    refine g_get (ci := 3) (T := TX3) (N := 16) C inX3 hK hP 0 rfl rfl 4 (by decide) wf_X3_130 ⟨rfl, rfl, rfl⟩ rfl dX3_append_23 ?_
    rw [show upd i 2 (nI 0) 1 = nI len from hlen]
    refine g_bipush C (nI 60) (by decide) dX3_append_26 ?_
    refine g_icmp_neN C (by omega) (by omega) 37 dX3_append_28 (by decide) (fun h28 => ?_) (fun h28 => ?_)
    · refine g_aload0 C dX3_append_37 ?_
      refine g_get (ci := 3) (T := TX3) (N := 16) C inX3 hK hP 0 rfl rfl 3 (by decide) wf_X3_16 ⟨rfl, rfl, rfl⟩ rfl dX3_append_38 ?_
      refine g_aload0 C dX3_append_41 ?_
      refine g_get (ci := 3) (T := TX3) (N := 16) C inX3 hK hP 0 rfl rfl 4 (by decide) wf_X3_130 ⟨rfl, rfl, rfl⟩ rfl dX3_append_42 ?_
      rw [show upd i 2 (nI 0) 1 = nI len from hlen]
      refine g_iload1 C dX3_append_45 ?_
      refine g_iast C hK hP hD hS 3 0 rfl rfl (by omega) (by decide) dX3_append_46 (fun H locs hP hD hS => ?_)
      have hP : va_P (dC, dI) vwCl (MW cI o t (q_s1 A 2 (upd (A 2) len c)) (upd i 2 (nI 0)) (h)) H := hP
      have hD : va_D (fun q => q ∈ MA o t) (MW cI o t (q_s1 A 2 (upd (A 2) len c)) (upd i 2 (nI 0)) (h)) := hD.fst rfl
      refine g_aload0 C dX3_append_47 ?_
      refine g_dup C rfl dX3_append_48 ?_
      refine g_get (ci := 3) (T := TX3) (N := 16) C inX3 hK hP 0 rfl rfl 4 (by decide) wf_X3_130 ⟨rfl, rfl, rfl⟩ rfl dX3_append_49 ?_
      rw [show upd i 2 (nI 0) 1 = nI len from hlen]
      refine g_iconst C (nI 1) (by decide) dX3_append_52 ?_
      refine g_iaddN C dX3_append_53 ?_
      refine g_put (ci := 3) (T := TX3) (N := 16) C inX3 tyX3 tyX3_ok nmX3 hK hP hD hS 0 rfl rfl 4 (by decide) wf_X3_130 ⟨rfl, rfl, rfl⟩ rfl rfl rfl (Nat.le_of_ble_eq_true rfl) dX3_append_54 (fun H locs hP hD hS => ?_)
      have hP : va_P (dC, dI) vwCl (MW cI o t (q_s1 A 2 (upd (A 2) len c)) (upd (upd i 2 (nI 0)) 1 (nI (len + 1))) (h)) H := hP
      have hD : va_D (fun q => q ∈ MA o t) (MW cI o t (q_s1 A 2 (upd (A 2) len c)) (upd (upd i 2 (nI 0)) 1 (nI (len + 1))) (h)) := hD.fst rfl
      refine g_aload0 C dX3_append_57 ?_
      refine g_get (ci := 3) (T := TX3) (N := 16) C inX3 hK hP 0 rfl rfl 4 (by decide) wf_X3_130 ⟨rfl, rfl, rfl⟩ rfl dX3_append_58 ?_
      have hk : k_app len c = 0 := by unfold k_app; rw [if_neg (fun z => z h13), if_neg h28]
      rw [hk]
      exact g_iretM C ⟨q_s1 A 2 (upd (A 2) len c), upd (upd i 2 (nI 0)) 1 (nI (len + 1)), hP, rfl, rfl, rfl, rfl, rfl, rfl⟩ hS rfl dX3_append_61
    · refine g_aload0 C dX3_append_31 ?_
      refine g_iconst C (nI 2) (by decide) dX3_append_32 ?_
      refine g_mV (As := [.int (nI 2)]) C 1 rfl (c_X3_fails) wl_X3_95 wi_X3_fails wv_X3_fails wn_X3 wc_X3_fails (by decide +kernel) ⟨rfl, rfl, by decide, by decide⟩ MDM_bl (va_recv (ci := 3) (q0 := 0) hK hP rfl rfl) (MDM_at hK hP hD) rfl rfl (by simp [Value.category]) ⟨by decide, by decide⟩ hS (fun _ h => h) dX3_append_33 (fun H locs hP _ _ hS => ?_)
      have hP : va_P (dC, dI) vwCl (MW cI o t (A) (upd (upd i 2 (nI 0)) 2 (nI 2)) (h)) H := hP
      have hD : va_D (fun q => q ∈ MA o t) (MW cI o t (A) (upd (upd i 2 (nI 0)) 2 (nI 2)) (h)) := hD.fst rfl
      have hk : k_app len c = 2 := by unfold k_app; rw [if_neg (fun z => z h13), if_pos h28]
      rw [hk]
      exact g_iretM C ⟨A, upd (upd i 2 (nI 0)) 2 (nI 2), hP, rfl, rfl, rfl, rfl, hlen, rfl⟩ hS rfl dX3_append_36
  · refine g_aload0 C dX3_append_16 ?_
    refine g_iconst C (nI 1) (by decide) dX3_append_17 ?_
    refine g_mV (As := [.int (nI 1)]) C 1 rfl (c_X3_fails) wl_X3_95 wi_X3_fails wv_X3_fails wn_X3 wc_X3_fails (by decide +kernel) ⟨rfl, rfl, by decide, by decide⟩ MDM_bl (va_recv (ci := 3) (q0 := 0) hK hP rfl rfl) (MDM_at hK hP hD) rfl rfl (by simp [Value.category]) ⟨by decide, by decide⟩ hS (fun _ h => h) dX3_append_18 (fun H locs hP _ _ hS => ?_)
    have hP : va_P (dC, dI) vwCl (MW cI o t (A) (upd (upd i 2 (nI 0)) 2 (nI 1)) (h)) H := hP
    have hD : va_D (fun q => q ∈ MA o t) (MW cI o t (A) (upd (upd i 2 (nI 0)) 2 (nI 1)) (h)) := hD.fst rfl
    have hk : k_app len c = 1 := by unfold k_app; rw [if_pos h13]
    rw [hk]
    exact g_iretM C ⟨A, upd (upd i 2 (nI 0)) 2 (nI 1), hP, rfl, rfl, rfl, rfl, hlen, rfl⟩ hS rfl dX3_append_21

set_option maxHeartbeats 4000000 in
set_option maxRecDepth 100000 in
theorem c_X3_clearBuffer {l : Launch} {dC : Nat → ClassId} {dI : Nat → Nat → Nat} {cI cL cJ : ClassId} {o : Nat} {t : Nat → Nat} {A : RW} {i : Nat → Int32} {h : Int64}  : Met l yX3_clearBuffer (.code yX3_clearBuffer cX3_clearBuffer 2 (some .int) :: WG) (rmL 0) (va_Pc [.ref o] (MDM dC dI cI cL cJ o t A i h)) (bq_M (some (.int (i 1))) (fun H => ∃ (A9 : RW) (i9 : Nat → Int32), va_P (dC, dI) vwCl (MW cI o t A9 i9 h) H ∧ A9 0 = A 0 ∧ A9 1 = A 1 ∧ A9 2 = A 2 ∧ i9 0 = i 0 ∧ i9 1 = nI 0 ∧ i9 2 = nI (0)) (fun q => q ∈ MA o t)) 0 0 ((fun q => q ∈ MA o t)) := by
  refine bq_of [some (.ref o), none] rfl rfl (Nat.le_of_ble_eq_true rfl) (by decide) ?_
  intro P_ E_ s M_ B_ T_ K_ C hv
  obtain ⟨hP, hD, hK⟩ := hv
  have hS : va_S (fun q => q ∈ MA o t) s.heap s.heap [] := va_S.rf
  refine g_aload0 C dX3_clearBuffer_0 ?_
  refine g_iconst C (nI 0) (by decide) dX3_clearBuffer_1 ?_
  refine g_put (ci := 3) (T := TX3) (N := 16) C inX3 tyX3 tyX3_ok nmX3 hK hP hD hS 0 rfl rfl 5 (by decide) wf_X3_37 ⟨rfl, rfl, rfl⟩ rfl rfl rfl (Nat.le_of_ble_eq_true rfl) dX3_clearBuffer_2 (fun H locs hP hD hS => ?_)
  have hP : va_P (dC, dI) vwCl (MW cI o t (A) (upd i 2 (nI 0)) (h)) H := hP
  have hD : va_D (fun q => q ∈ MA o t) (MW cI o t (A) (upd i 2 (nI 0)) (h)) := hD.fst rfl
  refine g_aload0 C dX3_clearBuffer_5 ?_
  refine g_get (ci := 3) (T := TX3) (N := 16) C inX3 hK hP 0 rfl rfl 4 (by decide) wf_X3_130 ⟨rfl, rfl, rfl⟩ rfl dX3_clearBuffer_6 ?_
  refine g_istore1 C rfl dX3_clearBuffer_9 ?_
  refine g_aload0 C dX3_clearBuffer_10 ?_
  refine g_iconst C (nI 0) (by decide) dX3_clearBuffer_11 ?_
  refine g_put (ci := 3) (T := TX3) (N := 16) C inX3 tyX3 tyX3_ok nmX3 hK hP hD hS 0 rfl rfl 4 (by decide) wf_X3_130 ⟨rfl, rfl, rfl⟩ rfl rfl rfl (Nat.le_of_ble_eq_true rfl) dX3_clearBuffer_12 (fun H locs hP hD hS => ?_)
  have hP : va_P (dC, dI) vwCl (MW cI o t (A) (upd (upd i 2 (nI 0)) 1 (nI 0)) (h)) H := hP
  have hD : va_D (fun q => q ∈ MA o t) (MW cI o t (A) (upd (upd i 2 (nI 0)) 1 (nI 0)) (h)) := hD.fst rfl
  refine g_iload1 C dX3_clearBuffer_15 ?_
  exact g_iretM C ⟨A, upd (upd i 2 (nI 0)) 1 (nI 0), hP, rfl, rfl, rfl, rfl, rfl, rfl⟩ hS rfl dX3_clearBuffer_16

set_option maxHeartbeats 4000000 in
set_option maxRecDepth 100000 in
theorem c_X3_setParish {l : Launch} {dC : Nat → ClassId} {dI : Nat → Nat → Nat} {cI cL cJ : ClassId} {o : Nat} {t : Nat → Nat} {A : RW} {i : Nat → Int32} {h : Int64} {n : Nat} (hn : n ≤ 6) (hi0 : i 0 = nI n) (hki : INV (q_nz (A 0))) {f : Int32} {P9 : Prop} [Decidable P9] : Met l yX3_setParish (.code yX3_setParish cX3_setParish 4 (some .int) :: WG) (rmL 3) (va_Pc [.ref o, .int f, .int (bI P9)] (MDM dC dI cI cL cJ o t A i h)) (bq_M (some (.int (if k_par f = 0 then (q_nz (A 0)) 0 (q_n f) else nI 0))) (PM dC dI cI o t (A 0) (A 1) (A 2) (i 1) n (k_par f) (if k_par f = 0 then upd (A 0) (520 + q_n f) (nI (if P9 then 1 else 0)) else A 0)) (fun q => q ∈ MA o t)) 0 0 ((fun q => q ∈ MA o t)) := by
  refine bq_of [some (.ref o), some (.int f), some (.int (bI P9)), none] rfl rfl (Nat.le_of_ble_eq_true rfl) (by decide) ?_
  intro P_ E_ s M_ B_ T_ K_ C hv
  obtain ⟨hP, hD, hK⟩ := hv
  have hS : va_S (fun q => q ∈ MA o t) s.heap s.heap [] := va_S.rf
  refine g_aload0 C dX3_setParish_0 ?_
  refine g_mV (As := []) C 0 rfl (c_X3_look hki) wl_X3_92 wi_X3_look wv_X3_look wn_X3 wc_X3_look (by decide +kernel) ⟨rfl, rfl, by decide, by decide⟩ MDM_bl (va_recv (ci := 3) (q0 := 0) hK hP rfl rfl) (MDM_at hK hP hD) rfl rfl (by simp [Value.category]) ⟨by decide, by decide⟩ hS (fun _ h => h) dX3_setParish_1 (fun H locs hP _ _ hS => ?_)
  obtain ⟨A, i, hP, e0, e1, e2, f0, f1, f2, f3, hw⟩ := hP
  rw [← e0] at hki f3 hw
  rw [← f0] at hi0
  rw [← e0, ← e1, ← e2, ← f1]
  have hD : va_D (fun q => q ∈ MA o t) (MW cI o t A i h) := hD.fst rfl
  refine g_iload1 C dX3_setParish_4 ?_
  refine g_scS1 C (c_X3_isFamily) wl_X3_105 wt_X3_isFamily wn_X3 wc_X3_isFamily (by decide +kernel) ⟨rfl, rfl, by decide, by decide⟩ rfl (by simp [Value.category]) ⟨by decide, by decide⟩ dX3_setParish_5 ?_
  refine g_if_neB C 17 dX3_setParish_8 (by decide) (fun h8 => ?_) (fun h8 => ?_)
  · obtain ⟨m, hm1, hm2, rfl⟩ := q_rng (by decide) (by decide) h8
    have hqn : q_n (nI m) = m := q_n_nI (by omega)
    refine g_aload0 C dX3_setParish_17 ?_
    refine g_mV (As := []) C 0 rfl (c_X3_save hn hi0) wl_X3_98 wi_X3_save wv_X3_save wn_X3 wc_X3_save (by decide +kernel) ⟨rfl, rfl, by decide, by decide⟩ MDM_bl (va_recv (ci := 3) (q0 := 0) hK hP rfl rfl) (MDM_at hK hP hD) rfl rfl (by simp [Value.category]) ⟨by decide, by decide⟩ hS (fun _ h => h) dX3_setParish_18 (fun H locs hP _ _ hS => ?_)
    have hD : va_D (fun q => q ∈ MA o t) (MW cI o t (q_s1 A 1 (q_rs (A 1) (A 0) n)) (upd i 0 (nI (min (n + 1) 6))) h) := hD.fst rfl
    refine g_aload0 C dX3_setParish_21 ?_
    refine g_get (ci := 3) (T := TX3) (N := 16) C inX3 hK hP 0 rfl rfl 0 (by decide) wf_X3_7 ⟨rfl, rfl, rfl⟩ rfl dX3_setParish_22 ?_
    refine g_sipush C (nI 520) (by decide) dX3_setParish_25 ?_
    refine g_iload1 C dX3_setParish_28 ?_
    refine g_iaddN C dX3_setParish_29 ?_
    refine g_zal C hK hP (by omega) (zr0 (k := m) (by omega) (by omega)) dX3_setParish_30 ?_
    refine g_istore3 C rfl dX3_setParish_31 ?_
    refine g_aload0 C dX3_setParish_32 ?_
    refine g_get (ci := 3) (T := TX3) (N := 16) C inX3 hK hP 0 rfl rfl 0 (by decide) wf_X3_7 ⟨rfl, rfl, rfl⟩ rfl dX3_setParish_33 ?_
    refine g_sipush C (nI 520) (by decide) dX3_setParish_36 ?_
    refine g_iload1 C dX3_setParish_39 ?_
    refine g_iaddN C dX3_setParish_40 ?_
    refine g_iload2 C dX3_setParish_41 ?_
    refine g_d1 (v := nI (if P9 then 1 else 0)) 50 (fun K42 => ?_) ?_
    · skip
      refine g_if_eqB C 49 dX3_setParish_42 (by decide) (fun h42 => ?_) (fun h42 => ?_)
      · refine g_iconst C (nI 0) (by decide) dX3_setParish_49 ?_
        exact K42 _ (by rw [if_neg h42])
      · refine g_iconst C (nI 1) (by decide) dX3_setParish_45 ?_
        refine g_goto C 50 dX3_setParish_46 (by decide) ?_
        exact K42 _ (by rw [if_pos h42])
    refine g_iast C hK hP hD hS 1 0 rfl rfl (by omega) (by decide) dX3_setParish_50 (fun H locs hP hD hS => ?_)
    have hP : va_P (dC, dI) vwCl (MW cI o t (q_s1 (q_s1 A 1 (q_rs (A 1) (A 0) n)) 0 (upd (A 0) (520 + q_n (nI m)) (nI (if P9 then 1 else 0)))) (upd i 0 (nI (min (n + 1) 6))) h) H := by rw [hqn]; exact hP
    refine g_iload3 C dX3_setParish_51 ?_
    have hk : k_par (nI m) = 0 := by unfold k_par; rw [if_neg (fun z => z h8)]
    rw [hk]
    exact g_iretM C ⟨q_s1 (q_s1 A 1 (q_rs (A 1) (A 0) n)) 0 (upd (A 0) (520 + q_n (nI m)) (nI (if P9 then 1 else 0))), upd i 0 (nI (min (n + 1) 6)), h, hP, rfl, rfl, rfl, rfl, rfl, f2⟩ hS (by rw [hqn]; rfl) dX3_setParish_52
  · refine g_aload0 C dX3_setParish_11 ?_
    refine g_iconst C (nI 1) (by decide) dX3_setParish_12 ?_
    refine g_mV (As := [.int (nI 1)]) C 1 rfl (c_X3_fails) wl_X3_95 wi_X3_fails wv_X3_fails wn_X3 wc_X3_fails (by decide +kernel) ⟨rfl, rfl, by decide, by decide⟩ MDM_bl (va_recv (ci := 3) (q0 := 0) hK hP rfl rfl) (MDM_at hK hP hD) rfl rfl (by simp [Value.category]) ⟨by decide, by decide⟩ hS (fun _ h => h) dX3_setParish_13 (fun H locs hP _ _ hS => ?_)
    have hP : va_P (dC, dI) vwCl (MW cI o t (A) (upd i 2 (nI 1)) (h)) H := hP
    have hD : va_D (fun q => q ∈ MA o t) (MW cI o t (A) (upd i 2 (nI 1)) (h)) := hD.fst rfl
    have hk : k_par f = 1 := by unfold k_par; rw [if_pos h8]
    rw [hk]
    exact g_iretM C ⟨A, upd i 2 (nI 1), h, hP, rfl, rfl, hi0, rfl, rfl, rfl⟩ hS rfl dX3_setParish_16

set_option maxHeartbeats 4000000 in
set_option maxRecDepth 100000 in
theorem c_X3_pass {l : Launch} {dC : Nat → ClassId} {dI : Nat → Nat → Nat} {cI cL cJ : ClassId} {o : Nat} {t : Nat → Nat} {A : RW} {i : Nat → Int32} {h : Int64} {n : Nat} (hn : n ≤ 6) (hi0 : i 0 = nI n) (hki : INV (q_nz (A 0))) {v : Int32} : Met l yX3_pass (.code yX3_pass cX3_pass 3 (some .int) :: WG) (rmL 3) (va_Pc [.ref o, .int v] (MDM dC dI cI cL cJ o t A i h)) (bq_M (some (.int (if k_pass (A 0 550) v = 0 then nI (q_last (q_nz (A 0)) (A 0 550)) - nI (q_last (q_nz (A 0)) (A 0 550 + v)) else nI 0))) (PM dC dI cI o t (A 0) (A 1) (A 2) (i 1) n (k_pass (A 0 550) v) (if k_pass (A 0 550) v = 0 then upd (A 0) 550 (A 0 550 + v) else A 0)) (fun q => q ∈ MA o t)) 0 0 ((fun q => q ∈ MA o t)) := by
  refine bq_of [some (.ref o), some (.int v), none] rfl rfl (Nat.le_of_ble_eq_true rfl) (by decide) ?_
  intro P_ E_ s M_ B_ T_ K_ C hv
  obtain ⟨hP, hD, hK⟩ := hv
  have hS : va_S (fun q => q ∈ MA o t) s.heap s.heap [] := va_S.rf
  refine g_aload0 C dX3_pass_0 ?_
  refine g_mV (As := []) C 0 rfl (c_X3_look hki) wl_X3_92 wi_X3_look wv_X3_look wn_X3 wc_X3_look (by decide +kernel) ⟨rfl, rfl, by decide, by decide⟩ MDM_bl (va_recv (ci := 3) (q0 := 0) hK hP rfl rfl) (MDM_at hK hP hD) rfl rfl (by simp [Value.category]) ⟨by decide, by decide⟩ hS (fun _ h => h) dX3_pass_1 (fun H locs hP _ _ hS => ?_)
  obtain ⟨A, i, hP, e0, e1, e2, f0, f1, f2, f3, hw⟩ := hP
  rw [← e0] at hki f3 hw
  rw [← f0] at hi0
  rw [← e0, ← e1, ← e2, ← f1]
  have hD : va_D (fun q => q ∈ MA o t) (MW cI o t A i h) := hD.fst rfl
  refine g_iload1 C dX3_pass_4 ?_
  refine g_iconst C (nI 1) (by decide) dX3_pass_5 ?_
  refine g_bipush C (nI 100) (by decide) dX3_pass_6 ?_
  refine g_scS3 C (c_X3_within) wl_X3_41 wt_X3_within wn_X3 wc_X3_within (by decide +kernel) ⟨rfl, rfl, by decide, by decide⟩ rfl (by simp [Value.category]) ⟨by decide, by decide⟩ dX3_pass_8 ?_
  refine g_if_neB C 20 dX3_pass_11 (by decide) (fun h11 => ?_) (fun h11 => ?_)
  · refine g_aload0 C dX3_pass_20 ?_
    refine g_get (ci := 3) (T := TX3) (N := 16) C inX3 hK hP 0 rfl rfl 0 (by decide) wf_X3_7 ⟨rfl, rfl, rfl⟩ rfl dX3_pass_21 ?_
    refine g_sipush C (nI 550) (by decide) dX3_pass_24 ?_
    refine g_iald C hK hP 1 0 rfl rfl (by omega) (by decide) dX3_pass_27 ?_
    refine g_iload1 C dX3_pass_28 ?_
    refine g_iadd C dX3_pass_29 ?_
    refine g_sipush C (nI 2000) (by decide) dX3_pass_30 ?_
    refine g_icmp_le C 42 dX3_pass_33 (by decide) (fun h33 => ?_) (fun h33 => ?_)
    · refine g_aload0 C dX3_pass_42 ?_
      refine g_mV (As := []) C 0 rfl (c_X3_save hn hi0) wl_X3_98 wi_X3_save wv_X3_save wn_X3 wc_X3_save (by decide +kernel) ⟨rfl, rfl, by decide, by decide⟩ MDM_bl (va_recv (ci := 3) (q0 := 0) hK hP rfl rfl) (MDM_at hK hP hD) rfl rfl (by simp [Value.category]) ⟨by decide, by decide⟩ hS (fun _ h => h) dX3_pass_43 (fun H locs hP _ _ hS => ?_)
      have hD : va_D (fun q => q ∈ MA o t) (MW cI o t (q_s1 A 1 (q_rs (A 1) (A 0) n)) (upd i 0 (nI (min (n + 1) 6))) h) := hD.fst rfl
      refine g_aload0 C dX3_pass_46 ?_
      refine g_mcV0 C hK hP (c_X3_keptMany) wl_X3_101 wi_X3_keptMany wv_X3_keptMany wc_X3_keptMany (by decide +kernel) ⟨rfl, rfl, by decide, by decide⟩ rfl (by simp [Value.category]) ⟨by decide, by decide⟩ dX3_pass_47 ?_
      rw [show q_last (q_nz (q_s1 A 1 (q_rs (A 1) (A 0) n) 0)) (upd i 0 (nI (min (n + 1) 6)) 3) = q_last (q_nz (A 0)) (A 0 550) from by rw [← f3]; rfl]
      refine g_istore2 C rfl dX3_pass_50 ?_
      refine g_aload0 C dX3_pass_51 ?_
      refine g_get (ci := 3) (T := TX3) (N := 16) C inX3 hK hP 0 rfl rfl 0 (by decide) wf_X3_7 ⟨rfl, rfl, rfl⟩ rfl dX3_pass_52 ?_
      refine g_sipush C (nI 550) (by decide) dX3_pass_55 ?_
      refine g_dup2 C rfl rfl dX3_pass_58 ?_
      refine g_iald C hK hP 1 0 rfl rfl (by omega) (by decide) dX3_pass_59 ?_
      refine g_iload1 C dX3_pass_60 ?_
      refine g_iadd C dX3_pass_61 ?_
      refine g_iast C hK hP hD hS 1 0 rfl rfl (by omega) (by decide) dX3_pass_62 (fun H locs hP hD hS => ?_)
      have hP : va_P (dC, dI) vwCl (MW cI o t (q_s1 (q_s1 A 1 (q_rs (A 1) (A 0) n)) 0 (upd (A 0) 550 (A 0 550 + v))) (upd i 0 (nI (min (n + 1) 6))) (h)) H := hP
      have hD : va_D (fun q => q ∈ MA o t) (MW cI o t (q_s1 (q_s1 A 1 (q_rs (A 1) (A 0) n)) 0 (upd (A 0) 550 (A 0 550 + v))) (upd i 0 (nI (min (n + 1) 6))) (h)) := hD.fst rfl
      refine g_aload0 C dX3_pass_63 ?_
      refine g_aload0 C dX3_pass_64 ?_
      refine g_get (ci := 3) (T := TX3) (N := 16) C inX3 hK hP 0 rfl rfl 0 (by decide) wf_X3_7 ⟨rfl, rfl, rfl⟩ rfl dX3_pass_65 ?_
      refine g_sipush C (nI 550) (by decide) dX3_pass_68 ?_
      refine g_iald C hK hP 1 0 rfl rfl (by omega) (by decide) dX3_pass_71 ?_
      refine g_put (ci := 3) (T := TX3) (N := 16) C inX3 tyX3 tyX3_ok nmX3 hK hP hD hS 0 rfl rfl 6 (by decide) wf_X3_45 ⟨rfl, rfl, rfl⟩ rfl rfl rfl (Nat.le_of_ble_eq_true rfl) dX3_pass_72 (fun H locs hP hD hS => ?_)
      have hP : va_P (dC, dI) vwCl (MW cI o t (q_s1 (q_s1 A 1 (q_rs (A 1) (A 0) n)) 0 (upd (A 0) 550 (A 0 550 + v))) (upd (upd i 0 (nI (min (n + 1) 6))) 3 (A 0 550 + v)) (h)) H := hP
      have hD : va_D (fun q => q ∈ MA o t) (MW cI o t (q_s1 (q_s1 A 1 (q_rs (A 1) (A 0) n)) 0 (upd (A 0) 550 (A 0 550 + v))) (upd (upd i 0 (nI (min (n + 1) 6))) 3 (A 0 550 + v)) (h)) := hD.fst rfl
      refine g_iload2 C dX3_pass_75 ?_
      refine g_aload0 C dX3_pass_76 ?_
      refine g_mcV0 C hK hP (c_X3_keptMany) wl_X3_101 wi_X3_keptMany wv_X3_keptMany wc_X3_keptMany (by decide +kernel) ⟨rfl, rfl, by decide, by decide⟩ rfl (by simp [Value.category]) ⟨by decide, by decide⟩ dX3_pass_77 ?_
      refine g_isub C dX3_pass_80 ?_
      have hk : k_pass (A 0 550) v = 0 := by unfold k_pass; rw [if_neg (fun z => z h11), if_neg (Int32.not_lt.mpr h33)]
      rw [hk]
      exact g_iretM C ⟨q_s1 (q_s1 A 1 (q_rs (A 1) (A 0) n)) 0 (upd (A 0) 550 (A 0 550 + v)), upd (upd i 0 (nI (min (n + 1) 6))) 3 (A 0 550 + v), h, hP, rfl, rfl, rfl, rfl, rfl, f2⟩ hS (by show nI _ - nI (q_last (q_nz (upd (A 0) 550 (A 0 550 + v))) (A 0 550 + v)) = nI _ - nI _; rw [q_nz_y]) dX3_pass_81
    · refine g_aload0 C dX3_pass_36 ?_
      refine g_iconst C (nI 2) (by decide) dX3_pass_37 ?_
      refine g_mV (As := [.int (nI 2)]) C 1 rfl (c_X3_fails) wl_X3_95 wi_X3_fails wv_X3_fails wn_X3 wc_X3_fails (by decide +kernel) ⟨rfl, rfl, by decide, by decide⟩ MDM_bl (va_recv (ci := 3) (q0 := 0) hK hP rfl rfl) (MDM_at hK hP hD) rfl rfl (by simp [Value.category]) ⟨by decide, by decide⟩ hS (fun _ h => h) dX3_pass_38 (fun H locs hP _ _ hS => ?_)
      have hP : va_P (dC, dI) vwCl (MW cI o t (A) (upd i 2 (nI 2)) (h)) H := hP
      have hD : va_D (fun q => q ∈ MA o t) (MW cI o t (A) (upd i 2 (nI 2)) (h)) := hD.fst rfl
      have hk : k_pass (A 0 550) v = 2 := by unfold k_pass; rw [if_neg (fun z => z h11), if_pos (Int32.not_le.mp h33)]
      rw [hk]
      exact g_iretM C ⟨A, upd i 2 (nI 2), h, hP, rfl, rfl, hi0, rfl, rfl, rfl⟩ hS rfl dX3_pass_41
  · refine g_aload0 C dX3_pass_14 ?_
    refine g_iconst C (nI 1) (by decide) dX3_pass_15 ?_
    refine g_mV (As := [.int (nI 1)]) C 1 rfl (c_X3_fails) wl_X3_95 wi_X3_fails wv_X3_fails wn_X3 wc_X3_fails (by decide +kernel) ⟨rfl, rfl, by decide, by decide⟩ MDM_bl (va_recv (ci := 3) (q0 := 0) hK hP rfl rfl) (MDM_at hK hP hD) rfl rfl (by simp [Value.category]) ⟨by decide, by decide⟩ hS (fun _ h => h) dX3_pass_16 (fun H locs hP _ _ hS => ?_)
    have hP : va_P (dC, dI) vwCl (MW cI o t (A) (upd i 2 (nI 1)) (h)) H := hP
    have hD : va_D (fun q => q ∈ MA o t) (MW cI o t (A) (upd i 2 (nI 1)) (h)) := hD.fst rfl
    have hk : k_pass (A 0 550) v = 1 := by unfold k_pass; rw [if_pos h11]
    rw [hk]
    exact g_iretM C ⟨A, upd i 2 (nI 1), h, hP, rfl, rfl, hi0, rfl, rfl, rfl⟩ hS rfl dX3_pass_19
