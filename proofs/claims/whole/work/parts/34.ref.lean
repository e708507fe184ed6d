set_option maxHeartbeats 4000000 in
set_option maxRecDepth 100000 in
theorem c_X3_look {l : Launch} {dC : Nat → ClassId} {dI : Nat → Nat → Nat} {cI cL cJ : ClassId} {o : Nat} {t : Nat → Nat} {A : RW} {i : Nat → Int32} {h : Int64} (hki : INV (q_nz (A 0))) : Met l yX3_look (.code yX3_look cX3_look 1 none :: WG) (rmL 2) (va_Pc [.ref o] (MDM dC dI cI cL cJ o t A i h)) (bq_M (none) (fun H => ∃ (A1 : RW) (i1 : Nat → Int32), va_P (dC, dI) vwCl (MW cI o t A1 i1 h) H ∧ A1 0 = A 0 ∧ A1 1 = A 1 ∧ A1 2 = A 2 ∧ i1 0 = i 0 ∧ i1 1 = i 1 ∧ i1 2 = nI 0 ∧ i1 3 = A 0 550 ∧ ∀ p, p < 40 → (A1 3 p = nI 1 ↔ q_rn (q_op (q_nz (A 0)) (-1)) 40 p)) (fun q => q ∈ MA o t)) 0 0 ((fun q => q ∈ MA o t)) := by
  refine bq_of [some (.ref o)] rfl rfl (Nat.le_of_ble_eq_true rfl) (by decide) ?_
  intro P_ E_ s M_ B_ T_ K_ C hv
  obtain ⟨hP, hD, hK⟩ := hv
  have hS : va_S (fun q => q ∈ MA o t) s.heap s.heap [] := va_S.rf
  refine g_aload0 C dX3_look_0 ?_
  refine g_iconst C (nI 0) (by decide) dX3_look_1 ?_
  refine g_put (ci := 3) (T := TX3) (N := 16) C inX3 tyX3 tyX3_ok nmX3 hK hP hD hS 0 rfl rfl 5 (by decide) wf_X3_37 ⟨rfl, rfl, rfl⟩ rfl rfl rfl (Nat.le_of_ble_eq_true rfl) dX3_look_2 (fun H locs hP hD hS => ?_)
  have hP : va_P (dC, dI) vwCl (MW cI o t (A) (upd i 2 (nI 0)) (h)) H := hP
  have hD : va_D (fun q => q ∈ MA o t) (MW cI o t (A) (upd i 2 (nI 0)) (h)) := hD.fst rfl
  refine g_aload0 C dX3_look_5 ?_
  refine g_aload0 C dX3_look_6 ?_
  refine g_get (ci := 3) (T := TX3) (N := 16) C inX3 hK hP 0 rfl rfl 0 (by decide) wf_X3_7 ⟨rfl, rfl, rfl⟩ rfl dX3_look_7 ?_
  refine g_sipush C (nI 550) (by decide) dX3_look_10 ?_
  refine g_iald C hK hP 1 0 rfl rfl (by omega) (by decide) dX3_look_13 ?_
  refine g_put (ci := 3) (T := TX3) (N := 16) C inX3 tyX3 tyX3_ok nmX3 hK hP hD hS 0 rfl rfl 6 (by decide) wf_X3_45 ⟨rfl, rfl, rfl⟩ rfl rfl rfl (Nat.le_of_ble_eq_true rfl) dX3_look_14 (fun H locs hP hD hS => ?_)
  have hP : va_P (dC, dI) vwCl (MW cI o t (A) (upd (upd i 2 (nI 0)) 3 (A 0 550)) (h)) H := hP
  have hD : va_D (fun q => q ∈ MA o t) (MW cI o t (A) (upd (upd i 2 (nI 0)) 3 (A 0 550)) (h)) := hD.fst rfl
  refine g_aload0 C dX3_look_17 ?_
  refine g_iconst C (-1) (by decide) dX3_look_18 ?_
  refine g_mV (As := [.int (-1)]) C 1 rfl (c_X3_walk hki.2.2.2.2.2.2.1) wl_X3_88 wi_X3_walk wv_X3_walk wn_X3 wc_X3_walk (by decide +kernel) ⟨rfl, rfl, by decide, by decide⟩ MDM_bl (va_recv (ci := 3) (q0 := 0) hK hP rfl rfl) (MDM_at hK hP hD) rfl rfl (by simp [Value.category]) ⟨by decide, by decide⟩ hS (fun _ h => h) dX3_look_19 (fun H locs hP _ _ hS => ?_)
  obtain ⟨w, u, hP, hw⟩ := hP
  have hD : va_D (fun q => q ∈ MA o t) (MW cI o t (q_s2 A w u) (upd (upd i 2 (nI 0)) 3 (A 0 550)) h) := hD.fst rfl
  exact g_vretM C ⟨q_s2 A w u, upd (upd i 2 (nI 0)) 3 (A 0 550), hP, rfl, rfl, rfl, rfl, rfl, rfl, rfl, hw⟩ hS dX3_look_22

set_option maxHeartbeats 4000000 in
set_option maxRecDepth 100000 in
theorem c_X3_save {l : Launch} {dC : Nat → ClassId} {dI : Nat → Nat → Nat} {cI cL cJ : ClassId} {o : Nat} {t : Nat → Nat} {A : RW} {i : Nat → Int32} {h : Int64} {n : Nat} (hn : n ≤ 6) (hi0 : i 0 = nI n) : Met l yX3_save (.code yX3_save cX3_save 2 none :: WG) (rmL 0) (va_Pc [.ref o] (MDM dC dI cI cL cJ o t A i h)) (bq_M (none) (fun H => va_P (dC, dI) vwCl (MW cI o t (q_s1 A 1 (q_rs (A 1) (A 0) n)) (upd i 0 (nI (min (n + 1) 6))) h) H) (fun q => q ∈ MA o t)) 0 0 ((fun q => q ∈ MA o t)) := by
  refine bq_of [some (.ref o), none] rfl rfl (Nat.le_of_ble_eq_true rfl) (by decide) ?_
  intro P_ E_ s M_ B_ T_ K_ C hv
  obtain ⟨hP, hD, hK⟩ := hv
  have hS : va_S (fun q => q ∈ MA o t) s.heap s.heap [] := va_S.rf
  refine g_aload0 C dX3_save_0 ?_
  refine g_get (ci := 3) (T := TX3) (N := 16) C inX3 hK hP 0 rfl rfl 2 (by decide) wf_X3_85 ⟨rfl, rfl, rfl⟩ rfl dX3_save_1 ?_
  rw [hi0]
  refine g_bipush C (nI 6) (by decide) dX3_save_4 ?_
  refine g_icmp_neN C (by omega) (by omega) 50 dX3_save_6 (by decide) (fun h6 => ?_) (fun h6 => ?_)
  · refine g_iconst C (nI 0) (by decide) dX3_save_50 ?_
    refine g_istore1 C rfl dX3_save_51 ?_
    have hP : va_P (dC, dI) vwCl (MW cI o t (q_s1 A 1 (q_r2 (A 1) (A 0) n 0)) i h) s.heap := by rw [q_r2_0]; exact hP
    have hD : va_D (fun q => q ∈ MA o t) (MW cI o t (q_s1 A 1 (q_r2 (A 1) (A 0) n 0)) i h) := hD.fst rfl
    refine g_lpH (A1 := Nat) (fun k H locs => k ≤ 551 ∧ va_P (dC, dI) vwCl (MW cI o t (q_s1 A 1 (q_r2 (A 1) (A 0) n k)) i h) H ∧ va_D (fun q => q ∈ MA o t) (MW cI o t (q_s1 A 1 (q_r2 (A 1) (A 0) n k)) i h) ∧ va_S (fun q => q ∈ MA o t) s.heap H locs) (fun k => 551 - k) (fun k => [some (.ref o), some (.int (nI k))]) 0 ⟨by omega, hP, hD, hS⟩ rfl ?_
    rintro k H locs ⟨hk, hP, hD, hS⟩ ih
    try dsimp only at ih ⊢
    refine g_iload1 C dX3_save_52 ?_
    refine g_sipush C (nI 551) (by decide) dX3_save_53 ?_
    refine g_icmp_geN C (by omega) (by omega) 86 dX3_save_56 (by decide) (fun h56 => ?_) (fun h56 => ?_)
    · obtain rfl : k = 551 := by omega
      refine g_aload0 C dX3_save_86 ?_
      refine g_dup C rfl dX3_save_87 ?_
      refine g_get (ci := 3) (T := TX3) (N := 16) C inX3 hK hP 0 rfl rfl 2 (by decide) wf_X3_85 ⟨rfl, rfl, rfl⟩ rfl dX3_save_88 ?_
      rw [show i 0 = nI n from hi0]
      refine g_iconst C (nI 1) (by decide) dX3_save_91 ?_
      refine g_iaddN C dX3_save_92 ?_
      refine g_put (ci := 3) (T := TX3) (N := 16) C inX3 tyX3 tyX3_ok nmX3 hK hP hD hS 0 rfl rfl 2 (by decide) wf_X3_85 ⟨rfl, rfl, rfl⟩ rfl rfl rfl (Nat.le_of_ble_eq_true rfl) dX3_save_93 (fun H locs hP hD hS => ?_)
      have hP : va_P (dC, dI) vwCl (MW cI o t (q_s1 A 1 (q_r2 (A 1) (A 0) n 551)) (upd i 0 (nI (n + 1))) (h)) H := hP
      have hD : va_D (fun q => q ∈ MA o t) (MW cI o t (q_s1 A 1 (q_r2 (A 1) (A 0) n 551)) (upd i 0 (nI (n + 1))) (h)) := hD.fst rfl
      exact g_vretM C (by rw [show q_rs (A 1) (A 0) n = q_r2 (A 1) (A 0) n 551 from if_neg h6, show min (n + 1) 6 = n + 1 by omega]; exact hP) hS dX3_save_96
    · refine g_aload0 C dX3_save_59 ?_
      refine g_get (ci := 3) (T := TX3) (N := 16) C inX3 hK hP 0 rfl rfl 1 (by decide) wf_X3_13 ⟨rfl, rfl, rfl⟩ rfl dX3_save_60 ?_
      refine g_sipush C (nI 551) (by decide) dX3_save_63 ?_
      refine g_aload0 C dX3_save_66 ?_
      refine g_get (ci := 3) (T := TX3) (N := 16) C inX3 hK hP 0 rfl rfl 2 (by decide) wf_X3_85 ⟨rfl, rfl, rfl⟩ rfl dX3_save_67 ?_
      rw [show i 0 = nI n from hi0]
      refine g_imulN C dX3_save_70 ?_
      refine g_iload1 C dX3_save_71 ?_
      refine g_iaddN C dX3_save_72 ?_
      refine g_aload0 C dX3_save_73 ?_
      refine g_get (ci := 3) (T := TX3) (N := 16) C inX3 hK hP 0 rfl rfl 0 (by decide) wf_X3_7 ⟨rfl, rfl, rfl⟩ rfl dX3_save_74 ?_
      refine g_iload1 C dX3_save_77 ?_
      refine g_iald C hK hP 1 0 rfl rfl (by omega) (by decide) dX3_save_78 ?_
      refine g_iast C hK hP hD hS 2 0 rfl rfl (by omega) (by decide) dX3_save_79 (fun H locs hP hD hS => ?_)
      have hP : va_P (dC, dI) vwCl (MW cI o t (q_s1 A 1 (upd (q_r2 (A 1) (A 0) n k) (551 * n + k) (A 0 k))) i h) H := hP
      rw [q_r2_s] at hP
      have hD : va_D (fun q => q ∈ MA o t) (MW cI o t (q_s1 A 1 (q_r2 (A 1) (A 0) n (k + 1))) i h) := hD.fst rfl
      refine g_iinc1 C _ rfl dX3_save_80 (nI_1 _) ?_
      refine g_goto C 52 dX3_save_83 (by decide) ?_
      exact ih (k + 1) H locs ⟨by omega, hP, hD, hS⟩ (by show 551 - (k + 1) < 551 - k; omega)
  · subst h6
    refine g_iconst C (nI 0) (by decide) dX3_save_9 ?_
    refine g_istore1 C rfl dX3_save_10 ?_
    have hP : va_P (dC, dI) vwCl (MW cI o t (q_s1 A 1 (q_r1 (A 1) 0)) i h) s.heap := by rw [q_r1_0]; exact hP
    have hD : va_D (fun q => q ∈ MA o t) (MW cI o t (q_s1 A 1 (q_r1 (A 1) 0)) i h) := hD.fst rfl
    refine g_lpH (A1 := Nat) (fun k H locs => k ≤ 2755 ∧ va_P (dC, dI) vwCl (MW cI o t (q_s1 A 1 (q_r1 (A 1) k)) i h) H ∧ va_D (fun q => q ∈ MA o t) (MW cI o t (q_s1 A 1 (q_r1 (A 1) k)) i h) ∧ va_S (fun q => q ∈ MA o t) s.heap H locs) (fun k => 2755 - k) (fun k => [some (.ref o), some (.int (nI k))]) 0 ⟨by omega, hP, hD, hS⟩ rfl ?_
    rintro k H locs ⟨hk, hP, hD, hS⟩ ih
    try dsimp only at ih ⊢
    refine g_iload1 C dX3_save_11 ?_
    refine g_sipush C (nI 2755) (by decide) dX3_save_12 ?_
    refine g_icmp_geN C (by omega) (by omega) 40 dX3_save_15 (by decide) (fun h15 => ?_) (fun h15 => ?_)
    · obtain rfl : k = 2755 := by omega
      refine g_aload0 C dX3_save_40 ?_
      refine g_dup C rfl dX3_save_41 ?_
      refine g_get (ci := 3) (T := TX3) (N := 16) C inX3 hK hP 0 rfl rfl 2 (by decide) wf_X3_85 ⟨rfl, rfl, rfl⟩ rfl dX3_save_42 ?_
      rw [show i 0 = nI 6 from hi0]
      refine g_iconst C (nI 1) (by decide) dX3_save_45 ?_
      refine g_isubN C (by omega) dX3_save_46 ?_
      refine g_put (ci := 3) (T := TX3) (N := 16) C inX3 tyX3 tyX3_ok nmX3 hK hP hD hS 0 rfl rfl 2 (by decide) wf_X3_85 ⟨rfl, rfl, rfl⟩ rfl rfl rfl (Nat.le_of_ble_eq_true rfl) dX3_save_47 (fun H locs hP hD hS => ?_)
      have hP : va_P (dC, dI) vwCl (MW cI o t (q_s1 A 1 (q_r1 (A 1) 2755)) (upd i 0 (nI 5)) (h)) H := hP
      have hD : va_D (fun q => q ∈ MA o t) (MW cI o t (q_s1 A 1 (q_r1 (A 1) 2755)) (upd i 0 (nI 5)) (h)) := hD.fst rfl
      refine g_iconst C (nI 0) (by decide) dX3_save_50 ?_
      refine g_istore1 C rfl dX3_save_51 ?_
      have hP : va_P (dC, dI) vwCl (MW cI o t (q_s1 A 1 (q_r2 (q_r1 (A 1) 2755) (A 0) 5 0)) (upd i 0 (nI 5)) h) H := by rw [q_r2_0]; exact hP
      have hD : va_D (fun q => q ∈ MA o t) (MW cI o t (q_s1 A 1 (q_r2 (q_r1 (A 1) 2755) (A 0) 5 0)) (upd i 0 (nI 5)) h) := hD.fst rfl
      refine g_lpH (A1 := Nat) (fun k H locs => k ≤ 551 ∧ va_P (dC, dI) vwCl (MW cI o t (q_s1 A 1 (q_r2 (q_r1 (A 1) 2755) (A 0) 5 k)) (upd i 0 (nI 5)) h) H ∧ va_D (fun q => q ∈ MA o t) (MW cI o t (q_s1 A 1 (q_r2 (q_r1 (A 1) 2755) (A 0) 5 k)) (upd i 0 (nI 5)) h) ∧ va_S (fun q => q ∈ MA o t) s.heap H locs) (fun k => 551 - k) (fun k => [some (.ref o), some (.int (nI k))]) 0 ⟨by omega, hP, hD, hS⟩ rfl ?_
      rintro k H locs ⟨hk, hP, hD, hS⟩ ih
      try dsimp only at ih ⊢
      refine g_iload1 C dX3_save_52 ?_
      refine g_sipush C (nI 551) (by decide) dX3_save_53 ?_
      refine g_icmp_geN C (by omega) (by omega) 86 dX3_save_56 (by decide) (fun h56 => ?_) (fun h56 => ?_)
      · obtain rfl : k = 551 := by omega
        refine g_aload0 C dX3_save_86 ?_
        refine g_dup C rfl dX3_save_87 ?_
        refine g_get (ci := 3) (T := TX3) (N := 16) C inX3 hK hP 0 rfl rfl 2 (by decide) wf_X3_85 ⟨rfl, rfl, rfl⟩ rfl dX3_save_88 ?_
        rw [show upd i 0 (nI 5) 0 = nI 5 from rfl]
        refine g_iconst C (nI 1) (by decide) dX3_save_91 ?_
        refine g_iaddN C dX3_save_92 ?_
        refine g_put (ci := 3) (T := TX3) (N := 16) C inX3 tyX3 tyX3_ok nmX3 hK hP hD hS 0 rfl rfl 2 (by decide) wf_X3_85 ⟨rfl, rfl, rfl⟩ rfl rfl rfl (Nat.le_of_ble_eq_true rfl) dX3_save_93 (fun H locs hP hD hS => ?_)
        have hP : va_P (dC, dI) vwCl (MW cI o t (q_s1 A 1 (q_rs (A 1) (A 0) 6)) (upd i 0 (nI (min (6 + 1) 6))) h) H := hP
        exact g_vretM C hP hS dX3_save_96
      · refine g_aload0 C dX3_save_59 ?_
        refine g_get (ci := 3) (T := TX3) (N := 16) C inX3 hK hP 0 rfl rfl 1 (by decide) wf_X3_13 ⟨rfl, rfl, rfl⟩ rfl dX3_save_60 ?_
        refine g_sipush C (nI 551) (by decide) dX3_save_63 ?_
        refine g_aload0 C dX3_save_66 ?_
        refine g_get (ci := 3) (T := TX3) (N := 16) C inX3 hK hP 0 rfl rfl 2 (by decide) wf_X3_85 ⟨rfl, rfl, rfl⟩ rfl dX3_save_67 ?_
        rw [show upd i 0 (nI 5) 0 = nI 5 from rfl]
        refine g_imulN C dX3_save_70 ?_
        refine g_iload1 C dX3_save_71 ?_
        refine g_iaddN C dX3_save_72 ?_
        refine g_aload0 C dX3_save_73 ?_
        refine g_get (ci := 3) (T := TX3) (N := 16) C inX3 hK hP 0 rfl rfl 0 (by decide) wf_X3_7 ⟨rfl, rfl, rfl⟩ rfl dX3_save_74 ?_
        refine g_iload1 C dX3_save_77 ?_
        refine g_iald C hK hP 1 0 rfl rfl (by omega) (by decide) dX3_save_78 ?_
        refine g_iast C hK hP hD hS 2 0 rfl rfl (by omega) (by decide) dX3_save_79 (fun H locs hP hD hS => ?_)
        have hP : va_P (dC, dI) vwCl (MW cI o t (q_s1 A 1 (upd (q_r2 (q_r1 (A 1) 2755) (A 0) 5 k) (551 * 5 + k) (A 0 k))) (upd i 0 (nI 5)) h) H := hP
        rw [q_r2_s] at hP
        have hD : va_D (fun q => q ∈ MA o t) (MW cI o t (q_s1 A 1 (q_r2 (q_r1 (A 1) 2755) (A 0) 5 (k + 1))) (upd i 0 (nI 5)) h) := hD.fst rfl
        refine g_iinc1 C _ rfl dX3_save_80 (nI_1 _) ?_
        refine g_goto C 52 dX3_save_83 (by decide) ?_
        exact ih (k + 1) H locs ⟨by omega, hP, hD, hS⟩ (by show 551 - (k + 1) < 551 - k; omega)
    · refine g_aload0 C dX3_save_18 ?_
      refine g_get (ci := 3) (T := TX3) (N := 16) C inX3 hK hP 0 rfl rfl 1 (by decide) wf_X3_13 ⟨rfl, rfl, rfl⟩ rfl dX3_save_19 ?_
      refine g_iload1 C dX3_save_22 ?_
      refine g_aload0 C dX3_save_23 ?_
      refine g_get (ci := 3) (T := TX3) (N := 16) C inX3 hK hP 0 rfl rfl 1 (by decide) wf_X3_13 ⟨rfl, rfl, rfl⟩ rfl dX3_save_24 ?_
      refine g_sipush C (nI 551) (by decide) dX3_save_27 ?_
      refine g_iload1 C dX3_save_30 ?_
      refine g_iaddN C dX3_save_31 ?_
      refine g_iald C hK hP 2 0 rfl rfl (by omega) (by decide) dX3_save_32 ?_
      rw [show q_s1 A 1 (q_r1 (A 1) k) 1 (551 + k) = A 1 (551 + k) from if_neg (by omega)]
      refine g_iast C hK hP hD hS 2 0 rfl rfl (by omega) (by decide) dX3_save_33 (fun H locs hP hD hS => ?_)
      have hP : va_P (dC, dI) vwCl (MW cI o t (q_s1 A 1 (upd (q_r1 (A 1) k) k (A 1 (551 + k)))) i h) H := hP
      rw [q_r1_s] at hP
      have hD : va_D (fun q => q ∈ MA o t) (MW cI o t (q_s1 A 1 (q_r1 (A 1) (k + 1))) i h) := hD.fst rfl
      refine g_iinc1 C _ rfl dX3_save_34 (nI_1 _) ?_
      refine g_goto C 11 dX3_save_37 (by decide) ?_
      exact ih (k + 1) H locs ⟨by omega, hP, hD, hS⟩ (by show 2755 - (k + 1) < 2755 - k; omega)
