set_option maxHeartbeats 4000000 in
set_option maxRecDepth 100000 in
theorem c_X3_digest {l : Launch} {dC : Nat → ClassId} {dI : Nat → Nat → Nat} {cI cL cJ : ClassId} {o : Nat} {t : Nat → Nat} {A : RW} {i : Nat → Int32} {h : Int64} (hki : INV (q_nz (A 0))) {len : Nat} (hl60 : len ≤ 60) (hlen : i 1 = nI len) (hnn : q_nM (q_nz (A 0)) 120 ≠ 0 → vf_n64 (FP.ddiv (FP.i2d (q_fsM (q_nz (A 0)) 120)) (FP.i2d (nI (q_nM (q_nz (A 0)) 120))))) : Met l yX3_digest (.code yX3_digest cX3_digest 3 (some .long) :: WG) (rmL 6) (va_Pc [.ref o] (MDM dC dI cI cL cJ o t A i h)) (bq_M (some (.long (q_dig (q_nz (A 0)) (A 0 550) (i 0) len (A 2)))) (fun H => ∃ (A9 : RW) (i9 : Nat → Int32) (h9 : Int64), va_P (dC, dI) vwCl (MW cI o t A9 i9 h9) H ∧ A9 0 = A 0 ∧ A9 1 = A 1 ∧ A9 2 = A 2 ∧ i9 0 = i 0 ∧ i9 1 = i 1 ∧ i9 2 = nI 0) (fun q => q ∈ MA o t)) 0 0 ((fun q => q ∈ MA o t)) := by
  refine bq_of [some (.ref o), none, none] rfl rfl (Nat.le_of_ble_eq_true rfl) (by decide) ?_
  intro P_ E_ s M_ B_ T_ K_ C hv
  obtain ⟨hP, hD, hK⟩ := hv
  have hS : va_S (fun q => q ∈ MA o t) s.heap s.heap [] := va_S.rf
  refine g_aload0 C dX3_digest_0 ?_
  refine g_mV (As := []) C 0 rfl (c_X3_look hki) wl_X3_92 wi_X3_look wv_X3_look wn_X3 wc_X3_look (by decide +kernel) ⟨rfl, rfl, by decide, by decide⟩ MDM_bl (va_recv (ci := 3) (q0 := 0) hK hP rfl rfl) (MDM_at hK hP hD) rfl rfl (by simp [Value.category]) ⟨by decide, by decide⟩ hS (fun _ h => h) dX3_digest_1 (fun H locs hP _ _ hS => ?_)
  obtain ⟨A, i, hP, e0, e1, e2, f0, f1, f2, f3, hw⟩ := hP
  rw [← e0] at hki f3 hw hnn
  rw [← f1] at hlen
  rw [← e0, ← e1, ← e2, ← f0, ← f1]
  have hD : va_D (fun q => q ∈ MA o t) (MW cI o t A i h) := hD.fst rfl
  refine g_aload0 C dX3_digest_4 ?_
  refine g_ldc2 C wq_X3_177 dX3_digest_5 ?_
  refine g_put (ci := 3) (T := TX3) (N := 16) C inX3 tyX3 tyX3_ok nmX3 hK hP hD hS 0 rfl rfl 15 (by decide) wf_X3_173 ⟨rfl, rfl, rfl⟩ rfl rfl rfl (Nat.le_of_ble_eq_true rfl) dX3_digest_8 (fun H locs hP hD hS => ?_)
  have hP : va_P (dC, dI) vwCl (MW cI o t A i (2267)) H := hP
  have hD : va_D (fun q => q ∈ MA o t) (MW cI o t A i (2267)) := MW_D hD
  refine g_iconst C (nI 0) (by decide) dX3_digest_11 ?_
  refine g_istore1 C rfl dX3_digest_12 ?_
  have hP : va_P (dC, dI) vwCl (MW cI o t A i (q_mxs (fun k => q_ctM (q_nz (A 0)) (A 0 550) (A 0 550) (i 0) (q_rc (q_nz (A 0))) k) 2267 (0))) H := hP
  have hD : va_D (fun q => q ∈ MA o t) (MW cI o t A i (q_mxs (fun k => q_ctM (q_nz (A 0)) (A 0 550) (A 0 550) (i 0) (q_rc (q_nz (A 0))) k) 2267 (0))) := MW_D hD
  refine g_lpH (A1 := Nat) (fun j H locs => j ≤ 9 ∧ va_P (dC, dI) vwCl (MW cI o t A i (q_mxs (fun k => q_ctM (q_nz (A 0)) (A 0 550) (A 0 550) (i 0) (q_rc (q_nz (A 0))) k) 2267 (j))) H ∧ va_D (fun q => q ∈ MA o t) (MW cI o t A i (q_mxs (fun k => q_ctM (q_nz (A 0)) (A 0 550) (A 0 550) (i 0) (q_rc (q_nz (A 0))) k) 2267 (j))) ∧ va_S (fun q => q ∈ MA o t) s.heap H locs) (fun j => 9 - j) (fun j => [some (.ref o), some (.int (nI j)), none]) 0 ⟨by omega, hP, hD, hS⟩ rfl ?_
  rintro j H locs ⟨hj, hP, hD, hS⟩ ihj
  try dsimp only at ihj ⊢
  refine g_iload1 C dX3_digest_13 ?_
  refine g_bipush C (nI 9) (by decide) dX3_digest_14 ?_
  refine g_icmp_geN C (by omega) (by omega) 35 dX3_digest_16 (by decide) (fun h16 => ?_) (fun h16 => ?_)
  · refine g_iconst C (nI 0) (by decide) dX3_digest_35 ?_
    refine g_istore1 C rfl dX3_digest_36 ?_
    obtain rfl : j = 9 := by omega
    have hP : va_P (dC, dI) vwCl (MW cI o t A i (q_dgP (q_nz (A 0)) (A 0 550) (q_mxs (fun k => q_ctM (q_nz (A 0)) (A 0 550) (A 0 550) (i 0) (q_rc (q_nz (A 0))) k) 2267 (9)) (0))) H := hP
    have hD : va_D (fun q => q ∈ MA o t) (MW cI o t A i (q_dgP (q_nz (A 0)) (A 0 550) (q_mxs (fun k => q_ctM (q_nz (A 0)) (A 0 550) (A 0 550) (i 0) (q_rc (q_nz (A 0))) k) 2267 (9)) (0))) := MW_D hD
    refine g_lpH (A1 := Nat) (fun p H locs => p ≤ 40 ∧ va_P (dC, dI) vwCl (MW cI o t A i (q_dgP (q_nz (A 0)) (A 0 550) (q_mxs (fun k => q_ctM (q_nz (A 0)) (A 0 550) (A 0 550) (i 0) (q_rc (q_nz (A 0))) k) 2267 (9)) (p))) H ∧ va_D (fun q => q ∈ MA o t) (MW cI o t A i (q_dgP (q_nz (A 0)) (A 0 550) (q_mxs (fun k => q_ctM (q_nz (A 0)) (A 0 550) (A 0 550) (i 0) (q_rc (q_nz (A 0))) k) 2267 (9)) (p))) ∧ va_S (fun q => q ∈ MA o t) s.heap H locs) (fun p => 40 - p) (fun p => [some (.ref o), some (.int (nI p)), none]) 0 ⟨by omega, hP, hD, hS⟩ rfl ?_
    rintro p H locs ⟨hp, hP, hD, hS⟩ ihp
    try dsimp only at ihp ⊢
    refine g_iload1 C dX3_digest_37 ?_
    refine g_bipush C (nI 40) (by decide) dX3_digest_38 ?_
    refine g_icmp_geN C (by omega) (by omega) 114 dX3_digest_40 (by decide) (fun h40 => ?_) (fun h40 => ?_)
    · refine g_iconst C (nI 0) (by decide) dX3_digest_114 ?_
      refine g_istore1 C rfl dX3_digest_115 ?_
      obtain rfl : p = 40 := by omega
      have hP : va_P (dC, dI) vwCl (MW cI o t A i (q_dgF (q_nz (A 0)) (A 0 550) (q_dgP (q_nz (A 0)) (A 0 550) (q_mxs (fun k => q_ctM (q_nz (A 0)) (A 0 550) (A 0 550) (i 0) (q_rc (q_nz (A 0))) k) 2267 (9)) (40)) (0))) H := hP
      have hD : va_D (fun q => q ∈ MA o t) (MW cI o t A i (q_dgF (q_nz (A 0)) (A 0 550) (q_dgP (q_nz (A 0)) (A 0 550) (q_mxs (fun k => q_ctM (q_nz (A 0)) (A 0 550) (A 0 550) (i 0) (q_rc (q_nz (A 0))) k) 2267 (9)) (40)) (0))) := MW_D hD
      refine g_lpH (A1 := Nat) (fun f H locs => f ≤ 10 ∧ va_P (dC, dI) vwCl (MW cI o t A i (q_dgF (q_nz (A 0)) (A 0 550) (q_dgP (q_nz (A 0)) (A 0 550) (q_mxs (fun k => q_ctM (q_nz (A 0)) (A 0 550) (A 0 550) (i 0) (q_rc (q_nz (A 0))) k) 2267 (9)) (40)) (f))) H ∧ va_D (fun q => q ∈ MA o t) (MW cI o t A i (q_dgF (q_nz (A 0)) (A 0 550) (q_dgP (q_nz (A 0)) (A 0 550) (q_mxs (fun k => q_ctM (q_nz (A 0)) (A 0 550) (A 0 550) (i 0) (q_rc (q_nz (A 0))) k) 2267 (9)) (40)) (f))) ∧ va_S (fun q => q ∈ MA o t) s.heap H locs) (fun f => 10 - f) (fun f => [some (.ref o), some (.int (nI f)), none]) 0 ⟨by omega, hP, hD, hS⟩ rfl ?_
      rintro f H locs ⟨hf, hP, hD, hS⟩ ihf
      try dsimp only at ihf ⊢
      refine g_iload1 C dX3_digest_116 ?_
      refine g_bipush C (nI 10) (by decide) dX3_digest_117 ?_
      refine g_icmp_geN C (by omega) (by omega) 163 dX3_digest_119 (by decide) (fun h119 => ?_) (fun h119 => ?_)
      · obtain rfl : f = 10 := by omega
        refine g_aload0 C dX3_digest_163 ?_
        refine g_aload0 C dX3_digest_164 ?_
        refine g_mcV0 C hK hP (c_X3_meanNow hnn) wl_X3_167 wi_X3_meanNow wv_X3_meanNow wc_X3_meanNow (by decide +kernel) ⟨rfl, rfl, by decide, by decide⟩ rfl (by simp [Value.category]) ⟨by decide, by decide⟩ dX3_digest_165 ?_
        refine g_pcT C c_Jxe99ae_doubleToLongBits_ccdee wl_X3_183 wt_Jxe99ae_doubleToLongBits_ccdee wn_Jxe99ae wc_Jxe99ae_doubleToLongBits_ccdee (by decide +kernel) ⟨rfl, rfl, by decide, by decide⟩ rfl (by simp [Value.category]) ⟨by decide, by decide⟩ dX3_digest_168 ?_
        refine g_mV (As := [.long (q_d2b (q_meanM (q_nz (A 0))))]) C 1 rfl (c_X3_mix) wl_X3_179 wi_X3_mix wv_X3_mix wn_X3 wc_X3_mix (by decide +kernel) ⟨rfl, rfl, by decide, by decide⟩ MDM_bl (va_recv (ci := 3) (q0 := 0) hK hP rfl rfl) (MDM_at hK hP hD) rfl rfl (by simp [Value.category]) ⟨by decide, by decide⟩ hS (fun _ h => h) dX3_digest_171 (fun H locs hP _ _ hS => ?_)
        have hP : va_P (dC, dI) vwCl (MW cI o t A i (q_mixv (q_dgF (q_nz (A 0)) (A 0 550) (q_dgP (q_nz (A 0)) (A 0 550) (q_mxs (fun k => q_ctM (q_nz (A 0)) (A 0 550) (A 0 550) (i 0) (q_rc (q_nz (A 0))) k) 2267 (9)) (40)) (10)) (q_d2b (q_meanM (q_nz (A 0)))))) H := hP
        have hD : va_D (fun q => q ∈ MA o t) (MW cI o t A i (q_mixv (q_dgF (q_nz (A 0)) (A 0 550) (q_dgP (q_nz (A 0)) (A 0 550) (q_mxs (fun k => q_ctM (q_nz (A 0)) (A 0 550) (A 0 550) (i 0) (q_rc (q_nz (A 0))) k) 2267 (9)) (40)) (10)) (q_d2b (q_meanM (q_nz (A 0)))))) := MW_D hD
        refine g_aload0 C dX3_digest_174 ?_
        refine g_aload0 C dX3_digest_175 ?_
        refine g_get (ci := 3) (T := TX3) (N := 16) C inX3 hK hP 0 rfl rfl 4 (by decide) wf_X3_130 ⟨rfl, rfl, rfl⟩ rfl dX3_digest_176 ?_
        rw [hlen]
        refine g_i2l C _ rfl dX3_digest_179 ?_
        refine g_mV (As := [.long ((nI len).toInt64)]) C 1 rfl (c_X3_mix) wl_X3_179 wi_X3_mix wv_X3_mix wn_X3 wc_X3_mix (by decide +kernel) ⟨rfl, rfl, by decide, by decide⟩ MDM_bl (va_recv (ci := 3) (q0 := 0) hK hP rfl rfl) (MDM_at hK hP hD) rfl rfl (by simp [Value.category]) ⟨by decide, by decide⟩ hS (fun _ h => h) dX3_digest_180 (fun H locs hP _ _ hS => ?_)
        have hP : va_P (dC, dI) vwCl (MW cI o t A i (q_mixv (q_mixv (q_dgF (q_nz (A 0)) (A 0 550) (q_dgP (q_nz (A 0)) (A 0 550) (q_mxs (fun k => q_ctM (q_nz (A 0)) (A 0 550) (A 0 550) (i 0) (q_rc (q_nz (A 0))) k) 2267 (9)) (40)) (10)) (q_d2b (q_meanM (q_nz (A 0))))) (nI len).toInt64)) H := hP
        have hD : va_D (fun q => q ∈ MA o t) (MW cI o t A i (q_mixv (q_mixv (q_dgF (q_nz (A 0)) (A 0 550) (q_dgP (q_nz (A 0)) (A 0 550) (q_mxs (fun k => q_ctM (q_nz (A 0)) (A 0 550) (A 0 550) (i 0) (q_rc (q_nz (A 0))) k) 2267 (9)) (40)) (10)) (q_d2b (q_meanM (q_nz (A 0))))) (nI len).toInt64)) := MW_D hD
        refine g_iconst C (nI 0) (by decide) dX3_digest_183 ?_
        refine g_istore1 C rfl dX3_digest_184 ?_
        have hP : va_P (dC, dI) vwCl (MW cI o t A i (q_mxs (A 2) (q_mixv (q_mixv (q_dgF (q_nz (A 0)) (A 0 550) (q_dgP (q_nz (A 0)) (A 0 550) (q_mxs (fun k => q_ctM (q_nz (A 0)) (A 0 550) (A 0 550) (i 0) (q_rc (q_nz (A 0))) k) 2267 (9)) (40)) (10)) (q_d2b (q_meanM (q_nz (A 0))))) (nI len).toInt64) (0))) H := hP
        have hD : va_D (fun q => q ∈ MA o t) (MW cI o t A i (q_mxs (A 2) (q_mixv (q_mixv (q_dgF (q_nz (A 0)) (A 0 550) (q_dgP (q_nz (A 0)) (A 0 550) (q_mxs (fun k => q_ctM (q_nz (A 0)) (A 0 550) (A 0 550) (i 0) (q_rc (q_nz (A 0))) k) 2267 (9)) (40)) (10)) (q_d2b (q_meanM (q_nz (A 0))))) (nI len).toInt64) (0))) := MW_D hD
        refine g_lpH (A1 := Nat) (fun k H locs => k ≤ len ∧ va_P (dC, dI) vwCl (MW cI o t A i (q_mxs (A 2) (q_mixv (q_mixv (q_dgF (q_nz (A 0)) (A 0 550) (q_dgP (q_nz (A 0)) (A 0 550) (q_mxs (fun k => q_ctM (q_nz (A 0)) (A 0 550) (A 0 550) (i 0) (q_rc (q_nz (A 0))) k) 2267 (9)) (40)) (10)) (q_d2b (q_meanM (q_nz (A 0))))) (nI len).toInt64) (k))) H ∧ va_D (fun q => q ∈ MA o t) (MW cI o t A i (q_mxs (A 2) (q_mixv (q_mixv (q_dgF (q_nz (A 0)) (A 0 550) (q_dgP (q_nz (A 0)) (A 0 550) (q_mxs (fun k => q_ctM (q_nz (A 0)) (A 0 550) (A 0 550) (i 0) (q_rc (q_nz (A 0))) k) 2267 (9)) (40)) (10)) (q_d2b (q_meanM (q_nz (A 0))))) (nI len).toInt64) (k))) ∧ va_S (fun q => q ∈ MA o t) s.heap H locs) (fun k => len - k) (fun k => [some (.ref o), some (.int (nI k)), none]) 0 ⟨by omega, hP, hD, hS⟩ rfl ?_
        rintro k H locs ⟨hk, hP, hD, hS⟩ ihk
        try dsimp only at ihk ⊢
        refine g_iload1 C dX3_digest_185 ?_
        refine g_aload0 C dX3_digest_186 ?_
        refine g_get (ci := 3) (T := TX3) (N := 16) C inX3 hK hP 0 rfl rfl 4 (by decide) wf_X3_130 ⟨rfl, rfl, rfl⟩ rfl dX3_digest_187 ?_
        rw [hlen]
        refine g_icmp_geN C (by omega) (by omega) 210 dX3_digest_190 (by decide) (fun h190 => ?_) (fun h190 => ?_)
        · obtain rfl : k = len := by omega
          refine g_aload0 C dX3_digest_210 ?_
          refine g_get (ci := 3) (T := TX3) (N := 16) C inX3 hK hP 0 rfl rfl 15 (by decide) wf_X3_173 ⟨rfl, rfl, rfl⟩ rfl dX3_digest_211 ?_
          exact g_lretM C ⟨A, i, _, hP, rfl, rfl, rfl, rfl, hlen, f2⟩ hS rfl dX3_digest_214
        · refine g_aload0 C dX3_digest_193 ?_
          refine g_aload0 C dX3_digest_194 ?_
          refine g_get (ci := 3) (T := TX3) (N := 16) C inX3 hK hP 0 rfl rfl 3 (by decide) wf_X3_16 ⟨rfl, rfl, rfl⟩ rfl dX3_digest_195 ?_
          refine g_iload1 C dX3_digest_198 ?_
          refine g_iald C hK hP 3 0 rfl rfl (by omega) (by decide) dX3_digest_199 ?_
          refine g_i2l C _ rfl dX3_digest_200 ?_
          refine g_mV (As := [.long ((A 2 k).toInt64)]) C 1 rfl (c_X3_mix) wl_X3_179 wi_X3_mix wv_X3_mix wn_X3 wc_X3_mix (by decide +kernel) ⟨rfl, rfl, by decide, by decide⟩ MDM_bl (va_recv (ci := 3) (q0 := 0) hK hP rfl rfl) (MDM_at hK hP hD) rfl rfl (by simp [Value.category]) ⟨by decide, by decide⟩ hS (fun _ h => h) dX3_digest_201 (fun H locs hP _ _ hS => ?_)
          have hP : va_P (dC, dI) vwCl (MW cI o t A i (q_mxs (A 2) (q_mixv (q_mixv (q_dgF (q_nz (A 0)) (A 0 550) (q_dgP (q_nz (A 0)) (A 0 550) (q_mxs (fun k => q_ctM (q_nz (A 0)) (A 0 550) (A 0 550) (i 0) (q_rc (q_nz (A 0))) k) 2267 (9)) (40)) (10)) (q_d2b (q_meanM (q_nz (A 0))))) (nI len).toInt64) (k + 1))) H := hP
          have hD : va_D (fun q => q ∈ MA o t) (MW cI o t A i (q_mxs (A 2) (q_mixv (q_mixv (q_dgF (q_nz (A 0)) (A 0 550) (q_dgP (q_nz (A 0)) (A 0 550) (q_mxs (fun k => q_ctM (q_nz (A 0)) (A 0 550) (A 0 550) (i 0) (q_rc (q_nz (A 0))) k) 2267 (9)) (40)) (10)) (q_d2b (q_meanM (q_nz (A 0))))) (nI len).toInt64) (k + 1))) := MW_D hD
          refine g_iinc1 C _ rfl dX3_digest_204 (nI_1 _) ?_
          refine g_goto C 185 dX3_digest_207 (by decide) ?_
          exact ihk (k + 1) H locs ⟨by omega, hP, hD, hS⟩ (by show len - (k + 1) < len - k; omega)
      · refine g_iconst C (nI 0) (by decide) dX3_digest_122 ?_
        refine g_istore2 C rfl dX3_digest_123 ?_
        have hP : va_P (dC, dI) vwCl (MW cI o t A i (q_mxs (fun k => q_fpM (q_nz (A 0)) (A 0 550) f k) (q_dgF (q_nz (A 0)) (A 0 550) (q_dgP (q_nz (A 0)) (A 0 550) (q_mxs (fun k => q_ctM (q_nz (A 0)) (A 0 550) (A 0 550) (i 0) (q_rc (q_nz (A 0))) k) 2267 (9)) (40)) (f)) (0))) H := hP
        have hD : va_D (fun q => q ∈ MA o t) (MW cI o t A i (q_mxs (fun k => q_fpM (q_nz (A 0)) (A 0 550) f k) (q_dgF (q_nz (A 0)) (A 0 550) (q_dgP (q_nz (A 0)) (A 0 550) (q_mxs (fun k => q_ctM (q_nz (A 0)) (A 0 550) (A 0 550) (i 0) (q_rc (q_nz (A 0))) k) 2267 (9)) (40)) (f)) (0))) := MW_D hD
        refine g_lpH (A1 := Nat) (fun k H locs => k ≤ 6 ∧ va_P (dC, dI) vwCl (MW cI o t A i (q_mxs (fun k => q_fpM (q_nz (A 0)) (A 0 550) f k) (q_dgF (q_nz (A 0)) (A 0 550) (q_dgP (q_nz (A 0)) (A 0 550) (q_mxs (fun k => q_ctM (q_nz (A 0)) (A 0 550) (A 0 550) (i 0) (q_rc (q_nz (A 0))) k) 2267 (9)) (40)) (f)) (k))) H ∧ va_D (fun q => q ∈ MA o t) (MW cI o t A i (q_mxs (fun k => q_fpM (q_nz (A 0)) (A 0 550) f k) (q_dgF (q_nz (A 0)) (A 0 550) (q_dgP (q_nz (A 0)) (A 0 550) (q_mxs (fun k => q_ctM (q_nz (A 0)) (A 0 550) (A 0 550) (i 0) (q_rc (q_nz (A 0))) k) 2267 (9)) (40)) (f)) (k))) ∧ va_S (fun q => q ∈ MA o t) s.heap H locs) (fun k => 6 - k) (fun k => [some (.ref o), some (.int (nI f)), some (.int (nI k))]) 0 ⟨by omega, hP, hD, hS⟩ rfl ?_
        rintro k H locs ⟨hk, hP, hD, hS⟩ ihk
        try dsimp only at ihk ⊢
        refine g_iload2 C dX3_digest_124 ?_
        refine g_bipush C (nI 6) (by decide) dX3_digest_125 ?_
        refine g_icmp_geN C (by omega) (by omega) 147 dX3_digest_127 (by decide) (fun h127 => ?_) (fun h127 => ?_)
        · obtain rfl : k = 6 := by omega
          refine g_aload0 C dX3_digest_147 ?_
          refine g_aload0 C dX3_digest_148 ?_
          refine g_iload1 C dX3_digest_149 ?_
          refine g_mcV1 C hK hP (c_X3_bestNow (by omega) hki) wl_X3_158 wi_X3_bestNow wv_X3_bestNow wc_X3_bestNow (by decide +kernel) ⟨rfl, rfl, by decide, by decide⟩ rfl (by simp [Value.category]) ⟨by decide, by decide⟩ dX3_digest_150 ?_
          rw [f3, q_bestM_rc (rc2 := (q_rc (q_nz (A 0)))) 40 (fun p hp => q_wr_rc hw hp)]
          refine g_i2l C _ rfl dX3_digest_153 ?_
          refine g_mV (As := [.long ((oN (q_bestM (q_nz (A 0)) (A 0 550) (q_rc (q_nz (A 0))) f 40).1).toInt64)]) C 1 rfl (c_X3_mix) wl_X3_179 wi_X3_mix wv_X3_mix wn_X3 wc_X3_mix (by decide +kernel) ⟨rfl, rfl, by decide, by decide⟩ MDM_bl (va_recv (ci := 3) (q0 := 0) hK hP rfl rfl) (MDM_at hK hP hD) rfl rfl (by simp [Value.category]) ⟨by decide, by decide⟩ hS (fun _ h => h) dX3_digest_154 (fun H locs hP _ _ hS => ?_)
          have hP : va_P (dC, dI) vwCl (MW cI o t A i (q_dgF (q_nz (A 0)) (A 0 550) (q_dgP (q_nz (A 0)) (A 0 550) (q_mxs (fun k => q_ctM (q_nz (A 0)) (A 0 550) (A 0 550) (i 0) (q_rc (q_nz (A 0))) k) 2267 (9)) (40)) (f + 1))) H := hP
          have hD : va_D (fun q => q ∈ MA o t) (MW cI o t A i (q_dgF (q_nz (A 0)) (A 0 550) (q_dgP (q_nz (A 0)) (A 0 550) (q_mxs (fun k => q_ctM (q_nz (A 0)) (A 0 550) (A 0 550) (i 0) (q_rc (q_nz (A 0))) k) 2267 (9)) (40)) (f + 1))) := MW_D hD
          refine g_iinc1 C _ rfl dX3_digest_157 (nI_1 _) ?_
          refine g_goto C 116 dX3_digest_160 (by decide) ?_
          refine g_fg2 ?_
          exact ihf (f + 1) H locs ⟨by omega, hP, hD, hS⟩ (by show 10 - (f + 1) < 10 - f; omega)
        · refine g_aload0 C dX3_digest_130 ?_
          refine g_aload0 C dX3_digest_131 ?_
          refine g_iload1 C dX3_digest_132 ?_
          refine g_iload2 C dX3_digest_133 ?_
          refine g_mcV2 C hK hP (c_X3_familyNow (by omega) (by omega)) wl_X3_152 wi_X3_familyNow wv_X3_familyNow wc_X3_familyNow (by decide +kernel) ⟨rfl, rfl, by decide, by decide⟩ rfl (by simp [Value.category]) ⟨by decide, by decide⟩ dX3_digest_134 ?_
          rw [f3]
          refine g_i2l C _ rfl dX3_digest_137 ?_
          refine g_mV (As := [.long (((fun k => q_fpM (q_nz (A 0)) (A 0 550) f k) k).toInt64)]) C 1 rfl (c_X3_mix) wl_X3_179 wi_X3_mix wv_X3_mix wn_X3 wc_X3_mix (by decide +kernel) ⟨rfl, rfl, by decide, by decide⟩ MDM_bl (va_recv (ci := 3) (q0 := 0) hK hP rfl rfl) (MDM_at hK hP hD) rfl rfl (by simp [Value.category]) ⟨by decide, by decide⟩ hS (fun _ h => h) dX3_digest_138 (fun H locs hP _ _ hS => ?_)
          have hP : va_P (dC, dI) vwCl (MW cI o t A i (q_mxs (fun k => q_fpM (q_nz (A 0)) (A 0 550) f k) (q_dgF (q_nz (A 0)) (A 0 550) (q_dgP (q_nz (A 0)) (A 0 550) (q_mxs (fun k => q_ctM (q_nz (A 0)) (A 0 550) (A 0 550) (i 0) (q_rc (q_nz (A 0))) k) 2267 (9)) (40)) (f)) (k + 1))) H := hP
          have hD : va_D (fun q => q ∈ MA o t) (MW cI o t A i (q_mxs (fun k => q_fpM (q_nz (A 0)) (A 0 550) f k) (q_dgF (q_nz (A 0)) (A 0 550) (q_dgP (q_nz (A 0)) (A 0 550) (q_mxs (fun k => q_ctM (q_nz (A 0)) (A 0 550) (A 0 550) (i 0) (q_rc (q_nz (A 0))) k) 2267 (9)) (40)) (f)) (k + 1))) := MW_D hD
          refine g_iinc2 C _ rfl dX3_digest_141 (nI_1 _) ?_
          refine g_goto C 124 dX3_digest_144 (by decide) ?_
          exact ihk (k + 1) H locs ⟨by omega, hP, hD, hS⟩ (by show 6 - (k + 1) < 6 - k; omega)
    · refine g_iconst C (nI 0) (by decide) dX3_digest_43 ?_
      refine g_istore2 C rfl dX3_digest_44 ?_
      have hP : va_P (dC, dI) vwCl (MW cI o t A i (q_mxs (fun k => q_pp (q_nz (A 0)) (A 0 550) (q_rc (q_nz (A 0))) p k) (q_dgP (q_nz (A 0)) (A 0 550) (q_mxs (fun k => q_ctM (q_nz (A 0)) (A 0 550) (A 0 550) (i 0) (q_rc (q_nz (A 0))) k) 2267 (9)) (p)) (0))) H := hP
      have hD : va_D (fun q => q ∈ MA o t) (MW cI o t A i (q_mxs (fun k => q_pp (q_nz (A 0)) (A 0 550) (q_rc (q_nz (A 0))) p k) (q_dgP (q_nz (A 0)) (A 0 550) (q_mxs (fun k => q_ctM (q_nz (A 0)) (A 0 550) (A 0 550) (i 0) (q_rc (q_nz (A 0))) k) 2267 (9)) (p)) (0))) := MW_D hD
      refine g_lpH (A1 := Nat) (fun k H locs => k ≤ 9 ∧ va_P (dC, dI) vwCl (MW cI o t A i (q_mxs (fun k => q_pp (q_nz (A 0)) (A 0 550) (q_rc (q_nz (A 0))) p k) (q_dgP (q_nz (A 0)) (A 0 550) (q_mxs (fun k => q_ctM (q_nz (A 0)) (A 0 550) (A 0 550) (i 0) (q_rc (q_nz (A 0))) k) 2267 (9)) (p)) (k))) H ∧ va_D (fun q => q ∈ MA o t) (MW cI o t A i (q_mxs (fun k => q_pp (q_nz (A 0)) (A 0 550) (q_rc (q_nz (A 0))) p k) (q_dgP (q_nz (A 0)) (A 0 550) (q_mxs (fun k => q_ctM (q_nz (A 0)) (A 0 550) (A 0 550) (i 0) (q_rc (q_nz (A 0))) k) 2267 (9)) (p)) (k))) ∧ va_S (fun q => q ∈ MA o t) s.heap H locs) (fun k => 9 - k) (fun k => [some (.ref o), some (.int (nI p)), some (.int (nI k))]) 0 ⟨by omega, hP, hD, hS⟩ rfl ?_
      rintro k H locs ⟨hk, hP, hD, hS⟩ ihk
      try dsimp only at ihk ⊢
      refine g_iload2 C dX3_digest_45 ?_
      refine g_bipush C (nI 9) (by decide) dX3_digest_46 ?_
      refine g_icmp_geN C (by omega) (by omega) 68 dX3_digest_48 (by decide) (fun h48 => ?_) (fun h48 => ?_)
      · refine g_iconst C (nI 0) (by decide) dX3_digest_68 ?_
        refine g_istore2 C rfl dX3_digest_69 ?_
        obtain rfl : k = 9 := by omega
        have hP : va_P (dC, dI) vwCl (MW cI o t A i (q_mxs (fun k => q_bp (q_nz (A 0)) (A 0 550) (p * 3 + k / 4) (k % 4)) (q_mxs (fun k => q_pp (q_nz (A 0)) (A 0 550) (q_rc (q_nz (A 0))) p k) (q_dgP (q_nz (A 0)) (A 0 550) (q_mxs (fun k => q_ctM (q_nz (A 0)) (A 0 550) (A 0 550) (i 0) (q_rc (q_nz (A 0))) k) 2267 (9)) (p)) (9)) (0))) H := hP
        have hD : va_D (fun q => q ∈ MA o t) (MW cI o t A i (q_mxs (fun k => q_bp (q_nz (A 0)) (A 0 550) (p * 3 + k / 4) (k % 4)) (q_mxs (fun k => q_pp (q_nz (A 0)) (A 0 550) (q_rc (q_nz (A 0))) p k) (q_dgP (q_nz (A 0)) (A 0 550) (q_mxs (fun k => q_ctM (q_nz (A 0)) (A 0 550) (A 0 550) (i 0) (q_rc (q_nz (A 0))) k) 2267 (9)) (p)) (9)) (0))) := MW_D hD
        refine g_lpH (A1 := Nat) (fun k H locs => k ≤ 12 ∧ va_P (dC, dI) vwCl (MW cI o t A i (q_mxs (fun k => q_bp (q_nz (A 0)) (A 0 550) (p * 3 + k / 4) (k % 4)) (q_mxs (fun k => q_pp (q_nz (A 0)) (A 0 550) (q_rc (q_nz (A 0))) p k) (q_dgP (q_nz (A 0)) (A 0 550) (q_mxs (fun k => q_ctM (q_nz (A 0)) (A 0 550) (A 0 550) (i 0) (q_rc (q_nz (A 0))) k) 2267 (9)) (p)) (9)) (k))) H ∧ va_D (fun q => q ∈ MA o t) (MW cI o t A i (q_mxs (fun k => q_bp (q_nz (A 0)) (A 0 550) (p * 3 + k / 4) (k % 4)) (q_mxs (fun k => q_pp (q_nz (A 0)) (A 0 550) (q_rc (q_nz (A 0))) p k) (q_dgP (q_nz (A 0)) (A 0 550) (q_mxs (fun k => q_ctM (q_nz (A 0)) (A 0 550) (A 0 550) (i 0) (q_rc (q_nz (A 0))) k) 2267 (9)) (p)) (9)) (k))) ∧ va_S (fun q => q ∈ MA o t) s.heap H locs) (fun k => 12 - k) (fun k => [some (.ref o), some (.int (nI p)), some (.int (nI k))]) 0 ⟨by omega, hP, hD, hS⟩ rfl ?_
        rintro k H locs ⟨hk, hP, hD, hS⟩ ihk
        try dsimp only at ihk ⊢
        refine g_iload2 C dX3_digest_70 ?_
        refine g_bipush C (nI 12) (by decide) dX3_digest_71 ?_
        refine g_icmp_geN C (by omega) (by omega) 98 dX3_digest_73 (by decide) (fun h73 => ?_) (fun h73 => ?_)
        · obtain rfl : k = 12 := by omega
          refine g_aload0 C dX3_digest_98 ?_
          refine g_aload0 C dX3_digest_99 ?_
          refine g_iload1 C dX3_digest_100 ?_
          refine g_mcV1 C hK hP (c_X3_clearNow (by omega)) wl_X3_161 wi_X3_clearNow wv_X3_clearNow wc_X3_clearNow (by decide +kernel) ⟨rfl, rfl, by decide, by decide⟩ rfl (by simp [Value.category]) ⟨by decide, by decide⟩ dX3_digest_101 ?_
          refine g_i2l C _ rfl dX3_digest_104 ?_
          refine g_mV (As := [.long ((q_yoM (q_nz (A 0)) (A 0 550) p 3).toInt64)]) C 1 rfl (c_X3_mix) wl_X3_179 wi_X3_mix wv_X3_mix wn_X3 wc_X3_mix (by decide +kernel) ⟨rfl, rfl, by decide, by decide⟩ MDM_bl (va_recv (ci := 3) (q0 := 0) hK hP rfl rfl) (MDM_at hK hP hD) rfl rfl (by simp [Value.category]) ⟨by decide, by decide⟩ hS (fun _ h => h) dX3_digest_105 (fun H locs hP _ _ hS => ?_)
          have hP : va_P (dC, dI) vwCl (MW cI o t A i (q_dgP (q_nz (A 0)) (A 0 550) (q_mxs (fun k => q_ctM (q_nz (A 0)) (A 0 550) (A 0 550) (i 0) (q_rc (q_nz (A 0))) k) 2267 (9)) (p + 1))) H := hP
          have hD : va_D (fun q => q ∈ MA o t) (MW cI o t A i (q_dgP (q_nz (A 0)) (A 0 550) (q_mxs (fun k => q_ctM (q_nz (A 0)) (A 0 550) (A 0 550) (i 0) (q_rc (q_nz (A 0))) k) 2267 (9)) (p + 1))) := MW_D hD
          refine g_iinc1 C _ rfl dX3_digest_108 (nI_1 _) ?_
          refine g_goto C 37 dX3_digest_111 (by decide) ?_
          refine g_fg2 ?_
          exact ihp (p + 1) H locs ⟨by omega, hP, hD, hS⟩ (by show 40 - (p + 1) < 40 - p; omega)
        · refine g_aload0 C dX3_digest_76 ?_
          refine g_aload0 C dX3_digest_77 ?_
          refine g_iload1 C dX3_digest_78 ?_
          refine g_iload2 C dX3_digest_79 ?_
          refine g_iconst C (nI 4) (by decide) dX3_digest_80 ?_
          refine g_idivN C (by omega) (by omega) (by omega) dX3_digest_81 ?_
          refine g_iload2 C dX3_digest_82 ?_
          refine g_iconst C (nI 4) (by decide) dX3_digest_83 ?_
          refine g_iremN C (by omega) (by omega) (by omega) dX3_digest_84 ?_
          refine g_mcV3 C hK hP (c_X3_burialNow (by omega) (by omega) (by omega)) wl_X3_149 wi_X3_burialNow wv_X3_burialNow wc_X3_burialNow (by decide +kernel) ⟨rfl, rfl, by decide, by decide⟩ rfl (by simp [Value.category]) ⟨by decide, by decide⟩ dX3_digest_85 ?_
          rw [f3]
          refine g_i2l C _ rfl dX3_digest_88 ?_
          refine g_mV (As := [.long (((fun k => q_bp (q_nz (A 0)) (A 0 550) (p * 3 + k / 4) (k % 4)) k).toInt64)]) C 1 rfl (c_X3_mix) wl_X3_179 wi_X3_mix wv_X3_mix wn_X3 wc_X3_mix (by decide +kernel) ⟨rfl, rfl, by decide, by decide⟩ MDM_bl (va_recv (ci := 3) (q0 := 0) hK hP rfl rfl) (MDM_at hK hP hD) rfl rfl (by simp [Value.category]) ⟨by decide, by decide⟩ hS (fun _ h => h) dX3_digest_89 (fun H locs hP _ _ hS => ?_)
          have hP : va_P (dC, dI) vwCl (MW cI o t A i (q_mxs (fun k => q_bp (q_nz (A 0)) (A 0 550) (p * 3 + k / 4) (k % 4)) (q_mxs (fun k => q_pp (q_nz (A 0)) (A 0 550) (q_rc (q_nz (A 0))) p k) (q_dgP (q_nz (A 0)) (A 0 550) (q_mxs (fun k => q_ctM (q_nz (A 0)) (A 0 550) (A 0 550) (i 0) (q_rc (q_nz (A 0))) k) 2267 (9)) (p)) (9)) (k + 1))) H := hP
          have hD : va_D (fun q => q ∈ MA o t) (MW cI o t A i (q_mxs (fun k => q_bp (q_nz (A 0)) (A 0 550) (p * 3 + k / 4) (k % 4)) (q_mxs (fun k => q_pp (q_nz (A 0)) (A 0 550) (q_rc (q_nz (A 0))) p k) (q_dgP (q_nz (A 0)) (A 0 550) (q_mxs (fun k => q_ctM (q_nz (A 0)) (A 0 550) (A 0 550) (i 0) (q_rc (q_nz (A 0))) k) 2267 (9)) (p)) (9)) (k + 1))) := MW_D hD
          refine g_iinc2 C _ rfl dX3_digest_92 (nI_1 _) ?_
          refine g_goto C 70 dX3_digest_95 (by decide) ?_
          exact ihk (k + 1) H locs ⟨by omega, hP, hD, hS⟩ (by show 12 - (k + 1) < 12 - k; omega)
      · refine g_aload0 C dX3_digest_51 ?_
        refine g_aload0 C dX3_digest_52 ?_
        refine g_iload1 C dX3_digest_53 ?_
        refine g_iload2 C dX3_digest_54 ?_
        refine g_mcV2 C hK hP (c_X3_plotNow (by omega) (by omega) hki) wl_X3_146 wi_X3_plotNow wv_X3_plotNow wc_X3_plotNow (by decide +kernel) ⟨rfl, rfl, by decide, by decide⟩ rfl (by simp [Value.category]) ⟨by decide, by decide⟩ dX3_digest_55 ?_
        rw [f3, q_pp_rc (rc2 := (q_rc (q_nz (A 0)))) (q_wr_rc hw (show p < 40 by omega))]
        refine g_i2l C _ rfl dX3_digest_58 ?_
        refine g_mV (As := [.long (((fun k => q_pp (q_nz (A 0)) (A 0 550) (q_rc (q_nz (A 0))) p k) k).toInt64)]) C 1 rfl (c_X3_mix) wl_X3_179 wi_X3_mix wv_X3_mix wn_X3 wc_X3_mix (by decide +kernel) ⟨rfl, rfl, by decide, by decide⟩ MDM_bl (va_recv (ci := 3) (q0 := 0) hK hP rfl rfl) (MDM_at hK hP hD) rfl rfl (by simp [Value.category]) ⟨by decide, by decide⟩ hS (fun _ h => h) dX3_digest_59 (fun H locs hP _ _ hS => ?_)
        have hP : va_P (dC, dI) vwCl (MW cI o t A i (q_mxs (fun k => q_pp (q_nz (A 0)) (A 0 550) (q_rc (q_nz (A 0))) p k) (q_dgP (q_nz (A 0)) (A 0 550) (q_mxs (fun k => q_ctM (q_nz (A 0)) (A 0 550) (A 0 550) (i 0) (q_rc (q_nz (A 0))) k) 2267 (9)) (p)) (k + 1))) H := hP
        have hD : va_D (fun q => q ∈ MA o t) (MW cI o t A i (q_mxs (fun k => q_pp (q_nz (A 0)) (A 0 550) (q_rc (q_nz (A 0))) p k) (q_dgP (q_nz (A 0)) (A 0 550) (q_mxs (fun k => q_ctM (q_nz (A 0)) (A 0 550) (A 0 550) (i 0) (q_rc (q_nz (A 0))) k) 2267 (9)) (p)) (k + 1))) := MW_D hD
        refine g_iinc2 C _ rfl dX3_digest_62 (nI_1 _) ?_
        refine g_goto C 45 dX3_digest_65 (by decide) ?_
        exact ihk (k + 1) H locs ⟨by omega, hP, hD, hS⟩ (by show 9 - (k + 1) < 9 - k; omega)
  · refine g_aload0 C dX3_digest_19 ?_
    refine g_aload0 C dX3_digest_20 ?_
    refine g_iload1 C dX3_digest_21 ?_
    refine g_mcV1 C hK hP (c_X3_counted (by omega)) wl_X3_155 wi_X3_counted wv_X3_counted wc_X3_counted (by decide +kernel) ⟨rfl, rfl, by decide, by decide⟩ rfl (by simp [Value.category]) ⟨by decide, by decide⟩ dX3_digest_22 ?_
    rw [f3, q_ctM_rc (rc2 := (q_rc (q_nz (A 0)))) (fun p hp => q_wr_rc hw hp)]
    refine g_i2l C _ rfl dX3_digest_25 ?_
    refine g_mV (As := [.long (((fun k => q_ctM (q_nz (A 0)) (A 0 550) (A 0 550) (i 0) (q_rc (q_nz (A 0))) k) j).toInt64)]) C 1 rfl (c_X3_mix) wl_X3_179 wi_X3_mix wv_X3_mix wn_X3 wc_X3_mix (by decide +kernel) ⟨rfl, rfl, by decide, by decide⟩ MDM_bl (va_recv (ci := 3) (q0 := 0) hK hP rfl rfl) (MDM_at hK hP hD) rfl rfl (by simp [Value.category]) ⟨by decide, by decide⟩ hS (fun _ h => h) dX3_digest_26 (fun H locs hP _ _ hS => ?_)
    have hP : va_P (dC, dI) vwCl (MW cI o t A i (q_mxs (fun k => q_ctM (q_nz (A 0)) (A 0 550) (A 0 550) (i 0) (q_rc (q_nz (A 0))) k) 2267 (j + 1))) H := hP
    have hD : va_D (fun q => q ∈ MA o t) (MW cI o t A i (q_mxs (fun k => q_ctM (q_nz (A 0)) (A 0 550) (A 0 550) (i 0) (q_rc (q_nz (A 0))) k) 2267 (j + 1))) := MW_D hD
    refine g_iinc1 C _ rfl dX3_digest_29 (nI_1 _) ?_
    refine g_goto C 13 dX3_digest_32 (by decide) ?_
    exact ihj (j + 1) H locs ⟨by omega, hP, hD, hS⟩ (by show 9 - (j + 1) < 9 - j; omega)
