set_option maxHeartbeats 4000000 in
set_option maxRecDepth 100000 in
theorem c_X3_buildVault {l : Launch} {dC : Nat → ClassId} {dI : Nat → Nat → Nat} {cI cL cJ : ClassId} {o : Nat} {t : Nat → Nat} {A : RW} {i : Nat → Int32} {h : Int64} {n : Nat} (hn : n ≤ 6) (hi0 : i 0 = nI n) (hki : INV (q_nz (A 0))) {f p : Int32} : Met l yX3_buildVault (.code yX3_buildVault cX3_buildVault 5 (some .int) :: WG) (rmL 5) (va_Pc [.ref o, .int f, .int p] (MDM dC dI cI cL cJ o t A i h)) (bq_M (some (.int (if k_vau (q_nz (A 0)) (A 0 550) f p = 0 then q_zvc (q_zv3 (A 0) (q_n f) (q_n p)) (q_n f) else nI 0))) (PM dC dI cI o t (A 0) (A 1) (A 2) (i 1) n (k_vau (q_nz (A 0)) (A 0 550) f p) (if k_vau (q_nz (A 0)) (A 0 550) f p = 0 then q_zp (q_zv3 (A 0) (q_n f) (q_n p)) (q_zvc (q_zv3 (A 0) (q_n f) (q_n p)) (q_n f)) (q_n f) else A 0)) (fun q => q ∈ MA o t)) 0 0 ((fun q => q ∈ MA o t)) := by
  refine bq_of [some (.ref o), some (.int f), some (.int p), none, none] rfl rfl (Nat.le_of_ble_eq_true rfl) (by decide) ?_
  intro P_ E_ s M_ B_ T_ K_ C hv
  obtain ⟨hP, hD, hK⟩ := hv
  have hS : va_S (fun q => q ∈ MA o t) s.heap s.heap [] := va_S.rf
  refine g_aload0 C dX3_buildVault_0 ?_
  refine g_mV (As := []) C 0 rfl (c_X3_look hki) wl_X3_92 wi_X3_look wv_X3_look wn_X3 wc_X3_look (by decide +kernel) ⟨rfl, rfl, by decide, by decide⟩ MDM_bl (va_recv (ci := 3) (q0 := 0) hK hP rfl rfl) (MDM_at hK hP hD) rfl rfl (by simp [Value.category]) ⟨by decide, by decide⟩ hS (fun _ h => h) dX3_buildVault_1 (fun H locs hP _ _ hS => ?_)
  obtain ⟨A, i, hP, e0, e1, e2, f0, f1, f2, f3, hw⟩ := hP
  rw [← e0] at hki f3 hw
  rw [← f0] at hi0
  rw [← e0, ← e1, ← e2, ← f1]
  have hD : va_D (fun q => q ∈ MA o t) (MW cI o t A i h) := hD.fst rfl
  refine g_iload1 C dX3_buildVault_4 ?_
  refine g_scS1 C (c_X3_isFamily) wl_X3_105 wt_X3_isFamily wn_X3 wc_X3_isFamily (by decide +kernel) ⟨rfl, rfl, by decide, by decide⟩ rfl (by simp [Value.category]) ⟨by decide, by decide⟩ dX3_buildVault_5 ?_
  refine g_if_eqB C 18 dX3_buildVault_8 (by decide) (fun h8 => ?_) (fun h8 => ?_)
  · refine g_aload0 C dX3_buildVault_18 ?_
    refine g_iconst C (nI 1) (by decide) dX3_buildVault_19 ?_
    refine g_mV (As := [.int (nI 1)]) C 1 rfl (c_X3_fails) wl_X3_95 wi_X3_fails wv_X3_fails wn_X3 wc_X3_fails (by decide +kernel) ⟨rfl, rfl, by decide, by decide⟩ MDM_bl (va_recv (ci := 3) (q0 := 0) hK hP rfl rfl) (MDM_at hK hP hD) rfl rfl (by simp [Value.category]) ⟨by decide, by decide⟩ hS (fun _ h => h) dX3_buildVault_20 (fun H locs hP _ _ hS => ?_)
    have hP : va_P (dC, dI) vwCl (MW cI o t (A) (upd i 2 (nI 1)) (h)) H := hP
    have hD : va_D (fun q => q ∈ MA o t) (MW cI o t (A) (upd i 2 (nI 1)) (h)) := hD.fst rfl
    have hk : k_vau (q_nz (A 0)) (A 0 550) f p = 1 := by unfold k_vau; rw [if_pos (by first | exact fun z => h8 z.1 | exact fun z => h15 z.2)]
    rw [hk]
    exact g_iretM C ⟨A, upd i 2 (nI 1), h, hP, rfl, rfl, hi0, rfl, rfl, rfl⟩ hS rfl dX3_buildVault_23
  · obtain ⟨mf, hf1, hf2, rfl⟩ := q_rng (by decide) (by decide) h8
    have hqf : q_n (nI mf) = mf := q_n_nI (by omega)
    refine g_iload2 C dX3_buildVault_11 ?_
    refine g_scS1 C (c_X3_isPlot) wl_X3_112 wt_X3_isPlot wn_X3 wc_X3_isPlot (by decide +kernel) ⟨rfl, rfl, by decide, by decide⟩ rfl (by simp [Value.category]) ⟨by decide, by decide⟩ dX3_buildVault_12 ?_
    refine g_if_neB C 24 dX3_buildVault_15 (by decide) (fun h15 => ?_) (fun h15 => ?_)
    · obtain ⟨mp, hp1, hp2, rfl⟩ := q_rng (by decide) (by decide) h15
      have hqp : q_n (nI mp) = mp := q_n_nI (by omega)
      refine g_aload0 C dX3_buildVault_24 ?_
      refine g_get (ci := 3) (T := TX3) (N := 16) C inX3 hK hP 0 rfl rfl 0 (by decide) wf_X3_7 ⟨rfl, rfl, rfl⟩ rfl dX3_buildVault_25 ?_
      refine g_iload2 C dX3_buildVault_28 ?_
      refine g_zal C hK hP (by omega) (zr3 (k := mp) (by omega) (by omega)) dX3_buildVault_29 ?_
      refine g_iconst C (nI 3) (by decide) dX3_buildVault_30 ?_
      refine g_d2 (v := bI ((q_nz (A 0)) 3 mp ≠ nI 3 ∧ (q_nz (A 0)) 3 mp ≠ nI 2 ∧ (q_nz (A 0)) 4 mp = -1 ∧ q_bur (q_nz (A 0)) mp = 0)) 70 (fun K31 => ?_) ?_
      · skip
        refine g_icmp_eq C 69 dX3_buildVault_31 (by decide) (fun h31 => ?_) (fun h31 => ?_)
        · refine g_iconst C (nI 0) (by decide) dX3_buildVault_69 ?_
          exact K31 _ (bI_f (fun z => z.1 h31))
        · refine g_aload0 C dX3_buildVault_34 ?_
          refine g_get (ci := 3) (T := TX3) (N := 16) C inX3 hK hP 0 rfl rfl 0 (by decide) wf_X3_7 ⟨rfl, rfl, rfl⟩ rfl dX3_buildVault_35 ?_
          refine g_iload2 C dX3_buildVault_38 ?_
          refine g_zal C hK hP (by omega) (zr3 (k := mp) (by omega) (by omega)) dX3_buildVault_39 ?_
          refine g_iconst C (nI 2) (by decide) dX3_buildVault_40 ?_
          refine g_icmp_eq C 69 dX3_buildVault_41 (by decide) (fun h41 => ?_) (fun h41 => ?_)
          · refine g_iconst C (nI 0) (by decide) dX3_buildVault_69 ?_
            exact K31 _ (bI_f (fun z => z.2.1 h41))
          · refine g_aload0 C dX3_buildVault_44 ?_
            refine g_get (ci := 3) (T := TX3) (N := 16) C inX3 hK hP 0 rfl rfl 0 (by decide) wf_X3_7 ⟨rfl, rfl, rfl⟩ rfl dX3_buildVault_45 ?_
            refine g_bipush C (nI 40) (by decide) dX3_buildVault_48 ?_
            refine g_iload2 C dX3_buildVault_50 ?_
            refine g_iaddN C dX3_buildVault_51 ?_
            refine g_zal C hK hP (by omega) (zr4 (k := mp) (by omega) (by omega)) dX3_buildVault_52 ?_
            refine g_iconst C (-1) (by decide) dX3_buildVault_53 ?_
            refine g_icmp_ne C 69 dX3_buildVault_54 (by decide) (fun h54 => ?_) (fun h54 => ?_)
            · refine g_iconst C (nI 0) (by decide) dX3_buildVault_69 ?_
              exact K31 _ (bI_f (fun z => h54 z.2.2.1))
            · refine g_aload0 C dX3_buildVault_57 ?_
              refine g_iload2 C dX3_buildVault_58 ?_
              refine g_mcV1 C hK hP (c_X3_buried (by omega)) wl_X3_67 wi_X3_buried wv_X3_buried wc_X3_buried (by decide +kernel) ⟨rfl, rfl, by decide, by decide⟩ rfl (by simp [Value.category]) ⟨by decide, by decide⟩ dX3_buildVault_59 ?_
              have hbu : q_bur (q_nz (A 0)) mp ≤ 3 := q_cn_le _ 3
              refine g_if_neN C (by omega) 69 dX3_buildVault_62 (by decide) (fun h62 => ?_) (fun h62 => ?_)
              · refine g_iconst C (nI 0) (by decide) dX3_buildVault_69 ?_
                exact K31 _ (bI_f (fun z => h62 z.2.2.2))
              · refine g_iconst C (nI 1) (by decide) dX3_buildVault_65 ?_
                refine g_goto C 70 dX3_buildVault_66 (by decide) ?_
                exact K31 _ (bI_t ⟨h31, h41, h54, h62⟩)
      refine g_istore3 C rfl dX3_buildVault_70 ?_
      refine g_iload3 C dX3_buildVault_71 ?_
      refine g_if_eqB C 92 dX3_buildVault_72 (by decide) (fun h72 => ?_) (fun h72 => ?_)
      · refine g_aload0 C dX3_buildVault_92 ?_
        refine g_iconst C (nI 2) (by decide) dX3_buildVault_93 ?_
        refine g_mV (As := [.int (nI 2)]) C 1 rfl (c_X3_fails) wl_X3_95 wi_X3_fails wv_X3_fails wn_X3 wc_X3_fails (by decide +kernel) ⟨rfl, rfl, by decide, by decide⟩ MDM_bl (va_recv (ci := 3) (q0 := 0) hK hP rfl rfl) (MDM_at hK hP hD) rfl rfl (by simp [Value.category]) ⟨by decide, by decide⟩ hS (fun _ h => h) dX3_buildVault_94 (fun H locs hP _ _ hS => ?_)
        have hP : va_P (dC, dI) vwCl (MW cI o t (A) (upd i 2 (nI 2)) (h)) H := hP
        have hD : va_D (fun q => q ∈ MA o t) (MW cI o t (A) (upd i 2 (nI 2)) (h)) := hD.fst rfl
        have hk : k_vau (q_nz (A 0)) (A 0 550) (nI mf) (nI mp) = 2 := by unfold k_vau; rw [if_neg (fun z => z ⟨h8, h15⟩), if_pos (by rw [hqp]; exact fun z => h72 ⟨z.1, z.2.1, z.2.2.1, z.2.2.2.1⟩)]
        rw [hk]
        exact g_iretM C ⟨A, upd i 2 (nI 2), h, hP, rfl, rfl, hi0, rfl, rfl, rfl⟩ hS rfl dX3_buildVault_97
      · refine g_aload0 C dX3_buildVault_75 ?_
        refine g_iload1 C dX3_buildVault_76 ?_
        refine g_iload2 C dX3_buildVault_77 ?_
        refine g_mcV2 C hK hP (c_X3_isOthers (by omega)) wl_X3_70 wi_X3_isOthers wv_X3_isOthers wc_X3_isOthers (by decide +kernel) ⟨rfl, rfl, by decide, by decide⟩ rfl (by simp [Value.category]) ⟨by decide, by decide⟩ dX3_buildVault_78 ?_
        rw [f3]
        refine g_if_neB C 92 dX3_buildVault_81 (by decide) (fun h81 => ?_) (fun h81 => ?_)
        · refine g_aload0 C dX3_buildVault_92 ?_
          refine g_iconst C (nI 2) (by decide) dX3_buildVault_93 ?_
          refine g_mV (As := [.int (nI 2)]) C 1 rfl (c_X3_fails) wl_X3_95 wi_X3_fails wv_X3_fails wn_X3 wc_X3_fails (by decide +kernel) ⟨rfl, rfl, by decide, by decide⟩ MDM_bl (va_recv (ci := 3) (q0 := 0) hK hP rfl rfl) (MDM_at hK hP hD) rfl rfl (by simp [Value.category]) ⟨by decide, by decide⟩ hS (fun _ h => h) dX3_buildVault_94 (fun H locs hP _ _ hS => ?_)
          have hP : va_P (dC, dI) vwCl (MW cI o t (A) (upd i 2 (nI 2)) (h)) H := hP
          have hD : va_D (fun q => q ∈ MA o t) (MW cI o t (A) (upd i 2 (nI 2)) (h)) := hD.fst rfl
          have hk : k_vau (q_nz (A 0)) (A 0 550) (nI mf) (nI mp) = 2 := by unfold k_vau; rw [if_neg (fun z => z ⟨h8, h15⟩), if_pos (by rw [hqp]; exact fun z => z.2.2.2.2.1 h81)]
          rw [hk]
          exact g_iretM C ⟨A, upd i 2 (nI 2), h, hP, rfl, rfl, hi0, rfl, rfl, rfl⟩ hS rfl dX3_buildVault_97
        · refine g_aload0 C dX3_buildVault_84 ?_
          refine g_iload2 C dX3_buildVault_85 ?_
          refine g_mcV1 C hK hP (c_X3_isReached (by omega)) wl_X3_79 wi_X3_isReached wv_X3_isReached wc_X3_isReached (by decide +kernel) ⟨rfl, rfl, by decide, by decide⟩ rfl (by simp [Value.category]) ⟨by decide, by decide⟩ dX3_buildVault_86 ?_
          rw [q_wr_rc hw (show mp < 40 by omega)]
          refine g_if_neB C 98 dX3_buildVault_89 (by decide) (fun h89 => ?_) (fun h89 => ?_)
          · refine g_aload0 C dX3_buildVault_98 ?_
            refine g_mV (As := []) C 0 rfl (c_X3_save hn hi0) wl_X3_98 wi_X3_save wv_X3_save wn_X3 wc_X3_save (by decide +kernel) ⟨rfl, rfl, by decide, by decide⟩ MDM_bl (va_recv (ci := 3) (q0 := 0) hK hP rfl rfl) (MDM_at hK hP hD) rfl rfl (by simp [Value.category]) ⟨by decide, by decide⟩ hS (fun _ h => h) dX3_buildVault_99 (fun H locs hP _ _ hS => ?_)
            have hD : va_D (fun q => q ∈ MA o t) (MW cI o t (q_s1 A 1 (q_rs (A 1) (A 0) n)) (upd i 0 (nI (min (n + 1) 6))) h) := hD.fst rfl
            refine g_aload0 C dX3_buildVault_102 ?_
            refine g_get (ci := 3) (T := TX3) (N := 16) C inX3 hK hP 0 rfl rfl 0 (by decide) wf_X3_7 ⟨rfl, rfl, rfl⟩ rfl dX3_buildVault_103 ?_
            refine g_bipush C (nI 40) (by decide) dX3_buildVault_106 ?_
            refine g_iload2 C dX3_buildVault_108 ?_
            refine g_iaddN C dX3_buildVault_109 ?_
            refine g_iload1 C dX3_buildVault_110 ?_
            refine g_iast C hK hP hD hS 1 0 rfl rfl (by omega) (by decide) dX3_buildVault_111 (fun H locs hP hD hS => ?_)
            have hP : va_P (dC, dI) vwCl (MW cI o t (q_s1 (q_s1 A 1 (q_rs (A 1) (A 0) n)) 0 (upd (A 0) (40 + mp) (nI mf))) (upd i 0 (nI (min (n + 1) 6))) (h)) H := hP
            have hD : va_D (fun q => q ∈ MA o t) (MW cI o t (q_s1 (q_s1 A 1 (q_rs (A 1) (A 0) n)) 0 (upd (A 0) (40 + mp) (nI mf))) (upd i 0 (nI (min (n + 1) 6))) (h)) := hD.fst rfl
            refine g_aload0 C dX3_buildVault_112 ?_
            refine g_get (ci := 3) (T := TX3) (N := 16) C inX3 hK hP 0 rfl rfl 0 (by decide) wf_X3_7 ⟨rfl, rfl, rfl⟩ rfl dX3_buildVault_113 ?_
            refine g_bipush C (nI 80) (by decide) dX3_buildVault_116 ?_
            refine g_iload2 C dX3_buildVault_118 ?_
            refine g_iaddN C dX3_buildVault_119 ?_
            refine g_iconst C (-1) (by decide) dX3_buildVault_120 ?_
            refine g_iast C hK hP hD hS 1 0 rfl rfl (by omega) (by decide) dX3_buildVault_121 (fun H locs hP hD hS => ?_)
            have hP : va_P (dC, dI) vwCl (MW cI o t (q_s1 (q_s1 A 1 (q_rs (A 1) (A 0) n)) 0 (upd (upd (A 0) (40 + mp) (nI mf)) (80 + mp) (-1))) (upd i 0 (nI (min (n + 1) 6))) (h)) H := hP
            have hD : va_D (fun q => q ∈ MA o t) (MW cI o t (q_s1 (q_s1 A 1 (q_rs (A 1) (A 0) n)) 0 (upd (upd (A 0) (40 + mp) (nI mf)) (80 + mp) (-1))) (upd i 0 (nI (min (n + 1) 6))) (h)) := hD.fst rfl
            refine g_aload0 C dX3_buildVault_122 ?_
            refine g_get (ci := 3) (T := TX3) (N := 16) C inX3 hK hP 0 rfl rfl 0 (by decide) wf_X3_7 ⟨rfl, rfl, rfl⟩ rfl dX3_buildVault_123 ?_
            refine g_bipush C (nI 120) (by decide) dX3_buildVault_126 ?_
            refine g_iload2 C dX3_buildVault_128 ?_
            refine g_iaddN C dX3_buildVault_129 ?_
            refine g_iconst C (-1) (by decide) dX3_buildVault_130 ?_
            refine g_iast C hK hP hD hS 1 0 rfl rfl (by omega) (by decide) dX3_buildVault_131 (fun H locs hP hD hS => ?_)
            have hP : va_P (dC, dI) vwCl (MW cI o t (q_s1 (q_s1 A 1 (q_rs (A 1) (A 0) n)) 0 (q_zv3 (A 0) mf mp)) (upd i 0 (nI (min (n + 1) 6))) (h)) H := hP
            have hD : va_D (fun q => q ∈ MA o t) (MW cI o t (q_s1 (q_s1 A 1 (q_rs (A 1) (A 0) n)) 0 (q_zv3 (A 0) mf mp)) (upd i 0 (nI (min (n + 1) 6))) (h)) := hD.fst rfl
            refine g_aload0 C dX3_buildVault_132 ?_
            refine g_get (ci := 3) (T := TX3) (N := 16) C inX3 hK hP 0 rfl rfl 0 (by decide) wf_X3_7 ⟨rfl, rfl, rfl⟩ rfl dX3_buildVault_133 ?_
            refine g_sipush C (nI 520) (by decide) dX3_buildVault_136 ?_
            refine g_iload1 C dX3_buildVault_139 ?_
            refine g_iaddN C dX3_buildVault_140 ?_
            refine g_zal C hK hP (by omega) (zr0 (k := mf) (by omega) (by omega)) dX3_buildVault_141 ?_
            refine g_iconst C (nI 1) (by decide) dX3_buildVault_142 ?_
            refine g_d2 (v := q_zvc (q_zv3 (A 0) mf mp) mf) 154 (fun K143 => ?_) ?_
            · skip
              refine g_icmp_ne C 151 dX3_buildVault_143 (by decide) (fun h143 => ?_) (fun h143 => ?_)
              · refine g_sipush C (nI 200) (by decide) dX3_buildVault_151 ?_
                exact K143 _ (by unfold q_zvc; exact (if_neg h143).symm)
              · refine g_bipush C (nI 100) (by decide) dX3_buildVault_146 ?_
                refine g_goto C 154 dX3_buildVault_148 (by decide) ?_
                exact K143 _ (by unfold q_zvc; exact (if_pos h143).symm)
            refine g_istore4 C rfl dX3_buildVault_154 ?_
            refine g_aload0 C dX3_buildVault_156 ?_
            refine g_get (ci := 3) (T := TX3) (N := 16) C inX3 hK hP 0 rfl rfl 0 (by decide) wf_X3_7 ⟨rfl, rfl, rfl⟩ rfl dX3_buildVault_157 ?_
            refine g_sipush C (nI 530) (by decide) dX3_buildVault_160 ?_
            refine g_iload1 C dX3_buildVault_163 ?_
            refine g_iaddN C dX3_buildVault_164 ?_
            refine g_dup2 C rfl rfl dX3_buildVault_165 ?_
            refine g_iald C hK hP 1 0 rfl rfl (by omega) (by decide) dX3_buildVault_166 ?_
            refine g_iload4 C dX3_buildVault_167 ?_
            refine g_iadd C dX3_buildVault_169 ?_
            refine g_iast C hK hP hD hS 1 0 rfl rfl (by omega) (by decide) dX3_buildVault_170 (fun H locs hP hD hS => ?_)
            refine g_iload4 C dX3_buildVault_171 ?_
            have hk : k_vau (q_nz (A 0)) (A 0 550) (nI mf) (nI mp) = 0 := by unfold k_vau; rw [if_neg (fun z => z ⟨h8, h15⟩), if_neg (by rw [hqp]; exact fun z => z ⟨h72.1, h72.2.1, h72.2.2.1, h72.2.2.2, h81, h89⟩)]
            rw [hk]
            exact g_iretM C ⟨q_s1 (q_s1 A 1 (q_rs (A 1) (A 0) n)) 0 (q_zp (q_zv3 (A 0) mf mp) (q_zvc (q_zv3 (A 0) mf mp) mf) mf), upd i 0 (nI (min (n + 1) 6)), h, hP, (by rw [hqf, hqp]; rfl), rfl, rfl, rfl, rfl, f2⟩ hS (by rw [hqf, hqp]; rfl) dX3_buildVault_173
          · refine g_aload0 C dX3_buildVault_92 ?_
            refine g_iconst C (nI 2) (by decide) dX3_buildVault_93 ?_
            refine g_mV (As := [.int (nI 2)]) C 1 rfl (c_X3_fails) wl_X3_95 wi_X3_fails wv_X3_fails wn_X3 wc_X3_fails (by decide +kernel) ⟨rfl, rfl, by decide, by decide⟩ MDM_bl (va_recv (ci := 3) (q0 := 0) hK hP rfl rfl) (MDM_at hK hP hD) rfl rfl (by simp [Value.category]) ⟨by decide, by decide⟩ hS (fun _ h => h) dX3_buildVault_94 (fun H locs hP _ _ hS => ?_)
            have hP : va_P (dC, dI) vwCl (MW cI o t (A) (upd i 2 (nI 2)) (h)) H := hP
            have hD : va_D (fun q => q ∈ MA o t) (MW cI o t (A) (upd i 2 (nI 2)) (h)) := hD.fst rfl
            have hk : k_vau (q_nz (A 0)) (A 0 550) (nI mf) (nI mp) = 2 := by unfold k_vau; rw [if_neg (fun z => z ⟨h8, h15⟩), if_pos (by rw [hqp]; exact fun z => h89 z.2.2.2.2.2)]
            rw [hk]
            exact g_iretM C ⟨A, upd i 2 (nI 2), h, hP, rfl, rfl, hi0, rfl, rfl, rfl⟩ hS rfl dX3_buildVault_97
    · refine g_aload0 C dX3_buildVault_18 ?_
      refine g_iconst C (nI 1) (by decide) dX3_buildVault_19 ?_
      refine g_mV (As := [.int (nI 1)]) C 1 rfl (c_X3_fails) wl_X3_95 wi_X3_fails wv_X3_fails wn_X3 wc_X3_fails (by decide +kernel) ⟨rfl, rfl, by decide, by decide⟩ MDM_bl (va_recv (ci := 3) (q0 := 0) hK hP rfl rfl) (MDM_at hK hP hD) rfl rfl (by simp [Value.category]) ⟨by decide, by decide⟩ hS (fun _ h => h) dX3_buildVault_20 (fun H locs hP _ _ hS => ?_)
      have hP : va_P (dC, dI) vwCl (MW cI o t (A) (upd i 2 (nI 1)) (h)) H := hP
      have hD : va_D (fun q => q ∈ MA o t) (MW cI o t (A) (upd i 2 (nI 1)) (h)) := hD.fst rfl
      have hk : k_vau (q_nz (A 0)) (A 0 550) (nI mf) p = 1 := by unfold k_vau; rw [if_pos (by first | exact fun z => h8 z.1 | exact fun z => h15 z.2)]
      rw [hk]
      exact g_iretM C ⟨A, upd i 2 (nI 1), h, hP, rfl, rfl, hi0, rfl, rfl, rfl⟩ hS rfl dX3_buildVault_23

set_option maxHeartbeats 4000000 in
set_option maxRecDepth 100000 in
theorem c_X3_clear {l : Launch} {dC : Nat → ClassId} {dI : Nat → Nat → Nat} {cI cL cJ : ClassId} {o : Nat} {t : Nat → Nat} {A : RW} {i : Nat → Int32} {h : Int64} {n : Nat} (hn : n ≤ 6) (hi0 : i 0 = nI n) (hki : INV (q_nz (A 0))) {p : Int32} : Met l yX3_clear (.code yX3_clear cX3_clear 4 (some .int) :: WG) (rmL 5) (va_Pc [.ref o, .int p] (MDM dC dI cI cL cJ o t A i h)) (bq_M (some (.int (if k_clr (q_nz (A 0)) (A 0 550) p = 0 then nI (q_bur (q_nz (A 0)) (q_n p)) else nI 0))) (PM dC dI cI o t (A 0) (A 1) (A 2) (i 1) n (k_clr (q_nz (A 0)) (A 0 550) p) (if k_clr (q_nz (A 0)) (A 0 550) p = 0 then q_zc (A 0) (q_n p) 3 else A 0)) (fun q => q ∈ MA o t)) 0 0 ((fun q => q ∈ MA o t)) := by
  refine bq_of [some (.ref o), some (.int p), none, none] rfl rfl (Nat.le_of_ble_eq_true rfl) (by decide) ?_
  intro P_ E_ s M_ B_ T_ K_ C hv
  obtain ⟨hP, hD, hK⟩ := hv
  have hS : va_S (fun q => q ∈ MA o t) s.heap s.heap [] := va_S.rf
  refine g_aload0 C dX3_clear_0 ?_
  refine g_mV (As := []) C 0 rfl (c_X3_look hki) wl_X3_92 wi_X3_look wv_X3_look wn_X3 wc_X3_look (by decide +kernel) ⟨rfl, rfl, by decide, by decide⟩ MDM_bl (va_recv (ci := 3) (q0 := 0) hK hP rfl rfl) (MDM_at hK hP hD) rfl rfl (by simp [Value.category]) ⟨by decide, by decide⟩ hS (fun _ h => h) dX3_clear_1 (fun H locs hP _ _ hS => ?_)
  obtain ⟨A, i, hP, e0, e1, e2, f0, f1, f2, f3, hw⟩ := hP
  rw [← e0] at hki f3 hw
  rw [← f0] at hi0
  rw [← e0, ← e1, ← e2, ← f1]
  have hD : va_D (fun q => q ∈ MA o t) (MW cI o t A i h) := hD.fst rfl
  refine g_iload1 C dX3_clear_4 ?_
  refine g_scS1 C (c_X3_isPlot) wl_X3_112 wt_X3_isPlot wn_X3 wc_X3_isPlot (by decide +kernel) ⟨rfl, rfl, by decide, by decide⟩ rfl (by simp [Value.category]) ⟨by decide, by decide⟩ dX3_clear_5 ?_
  refine g_if_neB C 17 dX3_clear_8 (by decide) (fun h8 => ?_) (fun h8 => ?_)
  · obtain ⟨m, hm1, hm2, rfl⟩ := q_rng (by decide) (by decide) h8
    have hqn : q_n (nI m) = m := q_n_nI (by omega)
    refine g_aload0 C dX3_clear_17 ?_
    refine g_iload1 C dX3_clear_18 ?_
    refine g_mcV1 C hK hP (c_X3_fresh (by omega)) wl_X3_127 wi_X3_fresh wv_X3_fresh wc_X3_fresh (by decide +kernel) ⟨rfl, rfl, by decide, by decide⟩ rfl (by simp [Value.category]) ⟨by decide, by decide⟩ dX3_clear_19 ?_
    rw [f3]
    have hrn : q_rsn (q_nz (A 0)) (A 0 550) m ≤ 3 := q_cn_le _ 3
    refine g_if_leN C (by omega) 31 dX3_clear_22 (by decide) (fun h22 => ?_) (fun h22 => ?_)
    · refine g_aload0 C dX3_clear_31 ?_
      refine g_mV (As := []) C 0 rfl (c_X3_save hn hi0) wl_X3_98 wi_X3_save wv_X3_save wn_X3 wc_X3_save (by decide +kernel) ⟨rfl, rfl, by decide, by decide⟩ MDM_bl (va_recv (ci := 3) (q0 := 0) hK hP rfl rfl) (MDM_at hK hP hD) rfl rfl (by simp [Value.category]) ⟨by decide, by decide⟩ hS (fun _ h => h) dX3_clear_32 (fun H locs hP _ _ hS => ?_)
      have hD : va_D (fun q => q ∈ MA o t) (MW cI o t (q_s1 A 1 (q_rs (A 1) (A 0) n)) (upd i 0 (nI (min (n + 1) 6))) h) := hD.fst rfl
      refine g_aload0 C dX3_clear_35 ?_
      refine g_iload1 C dX3_clear_36 ?_
      refine g_mcV1 C hK hP (c_X3_buried (by omega)) wl_X3_67 wi_X3_buried wv_X3_buried wc_X3_buried (by decide +kernel) ⟨rfl, rfl, by decide, by decide⟩ rfl (by simp [Value.category]) ⟨by decide, by decide⟩ dX3_clear_37 ?_
      refine g_istore2 C rfl dX3_clear_40 ?_
      refine g_iconst C (nI 3) (by decide) dX3_clear_41 ?_
      refine g_iload1 C dX3_clear_42 ?_
      refine g_imulN C dX3_clear_43 ?_
      refine g_istore3 C rfl dX3_clear_44 ?_
      have hP : va_P (dC, dI) vwCl (MW cI o t (q_s1 (q_s1 A 1 (q_rs (A 1) (A 0) n)) 0 (q_zc (A 0) m 0)) (upd i 0 (nI (min (n + 1) 6))) (h)) H := hP
      have hD : va_D (fun q => q ∈ MA o t) (MW cI o t (q_s1 (q_s1 A 1 (q_rs (A 1) (A 0) n)) 0 (q_zc (A 0) m 0)) (upd i 0 (nI (min (n + 1) 6))) (h)) := hD.fst rfl
      refine g_lpH (A1 := Nat) (fun j H locs => j ≤ 3 ∧ va_P (dC, dI) vwCl (MW cI o t (q_s1 (q_s1 A 1 (q_rs (A 1) (A 0) n)) 0 (q_zc (A 0) m j)) (upd i 0 (nI (min (n + 1) 6))) h) H ∧ va_D (fun q => q ∈ MA o t) (MW cI o t (q_s1 (q_s1 A 1 (q_rs (A 1) (A 0) n)) 0 (q_zc (A 0) m j)) (upd i 0 (nI (min (n + 1) 6))) h) ∧ va_S (fun q => q ∈ MA o t) s.heap H locs) (fun j => 3 - j) (fun j => [some (.ref o), some (.int (nI m)), some (.int (nI (q_bur (q_nz (A 0)) m))), some (.int (nI (3 * m + j)))]) 0 ⟨by omega, hP, hD, hS⟩ rfl ?_
      rintro j H locs ⟨hj, hP, hD, hS⟩ ih
      try dsimp only at ih ⊢
      refine g_iload3 C dX3_clear_45 ?_
      refine g_iconst C (nI 3) (by decide) dX3_clear_46 ?_
      refine g_iload1 C dX3_clear_47 ?_
      refine g_imulN C dX3_clear_48 ?_
      refine g_iconst C (nI 3) (by decide) dX3_clear_49 ?_
      refine g_iaddN C dX3_clear_50 ?_
      refine g_icmp_geN C (by omega) (by omega) 93 dX3_clear_51 (by decide) (fun h51 => ?_) (fun h51 => ?_)
      · obtain rfl : j = 3 := by omega
        refine g_iload2 C dX3_clear_93 ?_
        have hk : k_clr (q_nz (A 0)) (A 0 550) (nI m) = 0 := by unfold k_clr; rw [if_neg (fun z => z h8), if_neg (by rw [hqn]; omega)]
        rw [hk]
        exact g_iretM C ⟨q_s1 (q_s1 A 1 (q_rs (A 1) (A 0) n)) 0 (q_zc (A 0) m 3), upd i 0 (nI (min (n + 1) 6)), h, hP, (by rw [hqn]; rfl), rfl, rfl, rfl, rfl, f2⟩ hS (by rw [hqn]; rfl) dX3_clear_94
      · refine g_aload0 C dX3_clear_54 ?_
        refine g_get (ci := 3) (T := TX3) (N := 16) C inX3 hK hP 0 rfl rfl 0 (by decide) wf_X3_7 ⟨rfl, rfl, rfl⟩ rfl dX3_clear_55 ?_
        refine g_sipush C (nI 160) (by decide) dX3_clear_58 ?_
        refine g_iload3 C dX3_clear_61 ?_
        refine g_iaddN C dX3_clear_62 ?_
        refine g_iconst C (-1) (by decide) dX3_clear_63 ?_
        refine g_iast C hK hP hD hS 1 0 rfl rfl (by omega) (by decide) dX3_clear_64 (fun H locs hP hD hS => ?_)
        refine g_aload0 C dX3_clear_65 ?_
        refine g_get (ci := 3) (T := TX3) (N := 16) C inX3 hK hP 0 rfl rfl 0 (by decide) wf_X3_7 ⟨rfl, rfl, rfl⟩ rfl dX3_clear_66 ?_
        refine g_sipush C (nI 280) (by decide) dX3_clear_69 ?_
        refine g_iload3 C dX3_clear_72 ?_
        refine g_iaddN C dX3_clear_73 ?_
        refine g_iconst C (nI 0) (by decide) dX3_clear_74 ?_
        refine g_iast C hK hP hD hS 1 0 rfl rfl (by omega) (by decide) dX3_clear_75 (fun H locs hP hD hS => ?_)
        refine g_aload0 C dX3_clear_76 ?_
        refine g_get (ci := 3) (T := TX3) (N := 16) C inX3 hK hP 0 rfl rfl 0 (by decide) wf_X3_7 ⟨rfl, rfl, rfl⟩ rfl dX3_clear_77 ?_
        refine g_sipush C (nI 400) (by decide) dX3_clear_80 ?_
        refine g_iload3 C dX3_clear_83 ?_
        refine g_iaddN C dX3_clear_84 ?_
        refine g_iconst C (nI 0) (by decide) dX3_clear_85 ?_
        refine g_iast C hK hP hD hS 1 0 rfl rfl (by omega) (by decide) dX3_clear_86 (fun H locs hP hD hS => ?_)
        have hP : va_P (dC, dI) vwCl (MW cI o t (q_s1 (q_s1 A 1 (q_rs (A 1) (A 0) n)) 0 (q_zc (A 0) m (j + 1))) (upd i 0 (nI (min (n + 1) 6))) (h)) H := hP
        have hD : va_D (fun q => q ∈ MA o t) (MW cI o t (q_s1 (q_s1 A 1 (q_rs (A 1) (A 0) n)) 0 (q_zc (A 0) m (j + 1))) (upd i 0 (nI (min (n + 1) 6))) (h)) := hD.fst rfl
        refine g_iinc3 C _ rfl dX3_clear_87 (nI_1 _) ?_
        refine g_goto C 45 dX3_clear_90 (by decide) ?_
        exact ih (j + 1) H locs ⟨by omega, hP, hD, hS⟩ (by show 3 - (j + 1) < 3 - j; omega)
    · refine g_aload0 C dX3_clear_25 ?_
      refine g_iconst C (nI 2) (by decide) dX3_clear_26 ?_
      refine g_mV (As := [.int (nI 2)]) C 1 rfl (c_X3_fails) wl_X3_95 wi_X3_fails wv_X3_fails wn_X3 wc_X3_fails (by decide +kernel) ⟨rfl, rfl, by decide, by decide⟩ MDM_bl (va_recv (ci := 3) (q0 := 0) hK hP rfl rfl) (MDM_at hK hP hD) rfl rfl (by simp [Value.category]) ⟨by decide, by decide⟩ hS (fun _ h => h) dX3_clear_27 (fun H locs hP _ _ hS => ?_)
      have hP : va_P (dC, dI) vwCl (MW cI o t (A) (upd i 2 (nI 2)) (h)) H := hP
      have hD : va_D (fun q => q ∈ MA o t) (MW cI o t (A) (upd i 2 (nI 2)) (h)) := hD.fst rfl
      have hk : k_clr (q_nz (A 0)) (A 0 550) (nI m) = 2 := by unfold k_clr; rw [if_neg (fun z => z h8), if_pos (by rw [hqn]; exact h22)]
      rw [hk]
      exact g_iretM C ⟨A, upd i 2 (nI 2), h, hP, rfl, rfl, hi0, rfl, rfl, rfl⟩ hS rfl dX3_clear_30
  · refine g_aload0 C dX3_clear_11 ?_
    refine g_iconst C (nI 1) (by decide) dX3_clear_12 ?_
    refine g_mV (As := [.int (nI 1)]) C 1 rfl (c_X3_fails) wl_X3_95 wi_X3_fails wv_X3_fails wn_X3 wc_X3_fails (by decide +kernel) ⟨rfl, rfl, by decide, by decide⟩ MDM_bl (va_recv (ci := 3) (q0 := 0) hK hP rfl rfl) (MDM_at hK hP hD) rfl rfl (by simp [Value.category]) ⟨by decide, by decide⟩ hS (fun _ h => h) dX3_clear_13 (fun H locs hP _ _ hS => ?_)
    have hP : va_P (dC, dI) vwCl (MW cI o t (A) (upd i 2 (nI 1)) (h)) H := hP
    have hD : va_D (fun q => q ∈ MA o t) (MW cI o t (A) (upd i 2 (nI 1)) (h)) := hD.fst rfl
    have hk : k_clr (q_nz (A 0)) (A 0 550) p = 1 := by unfold k_clr; rw [if_pos h8]
    rw [hk]
    exact g_iretM C ⟨A, upd i 2 (nI 1), h, hP, rfl, rfl, hi0, rfl, rfl, rfl⟩ hS rfl dX3_clear_16

set_option maxHeartbeats 4000000 in
set_option maxRecDepth 100000 in
theorem c_X3_undo {l : Launch} {dC : Nat → ClassId} {dI : Nat → Nat → Nat} {cI cL cJ : ClassId} {o : Nat} {t : Nat → Nat} {A : RW} {i : Nat → Int32} {h : Int64} {n : Nat} (hn : n ≤ 6) (hi0 : i 0 = nI n) : Met l yX3_undo (.code yX3_undo cX3_undo 2 (some .int) :: WG) (rmL 2) (va_Pc [.ref o] (MDM dC dI cI cL cJ o t A i h)) (bq_M (some (.int (nI (if n = 0 then 0 else n - 1)))) (fun H => ∃ (A9 : RW) (i9 : Nat → Int32), va_P (dC, dI) vwCl (MW cI o t A9 i9 h) H ∧ A9 0 = (if n = 0 then A 0 else q_ru (A 0) (A 1) (n - 1) 551) ∧ A9 1 = A 1 ∧ A9 2 = A 2 ∧ i9 0 = nI (n - 1) ∧ i9 1 = i 1 ∧ i9 2 = nI (if n = 0 then 1 else 0)) (fun q => q ∈ MA o t)) 0 0 ((fun q => q ∈ MA o t)) := by
  refine bq_of [some (.ref o), none] rfl rfl (Nat.le_of_ble_eq_true rfl) (by decide) ?_
  intro P_ E_ s M_ B_ T_ K_ C hv
  obtain ⟨hP, hD, hK⟩ := hv
  have hS : va_S (fun q => q ∈ MA o t) s.heap s.heap [] := va_S.rf
  refine g_aload0 C dX3_undo_0 ?_
  refine g_iconst C (nI 0) (by decide) dX3_undo_1 ?_
  refine g_put (ci := 3) (T := TX3) (N := 16) C inX3 tyX3 tyX3_ok nmX3 hK hP hD hS 0 rfl rfl 5 (by decide) wf_X3_37 ⟨rfl, rfl, rfl⟩ rfl rfl rfl (Nat.le_of_ble_eq_true rfl) dX3_undo_2 (fun H locs hP hD hS => ?_)
  have hP : va_P (dC, dI) vwCl (MW cI o t (A) (upd i 2 (nI 0)) (h)) H := hP
  have hD : va_D (fun q => q ∈ MA o t) (MW cI o t (A) (upd i 2 (nI 0)) (h)) := hD.fst rfl
  refine g_aload0 C dX3_undo_5 ?_
  refine g_get (ci := 3) (T := TX3) (N := 16) C inX3 hK hP 0 rfl rfl 2 (by decide) wf_X3_85 ⟨rfl, rfl, rfl⟩ rfl dX3_undo_6 ?_
  rw [show upd i 2 (nI 0) 0 = nI n from hi0]
  refine g_if_neN C (by omega) 18 dX3_undo_9 (by decide) (fun h9 => ?_) (fun h9 => ?_)
  · refine g_aload0 C dX3_undo_18 ?_
    refine g_dup C rfl dX3_undo_19 ?_
    refine g_get (ci := 3) (T := TX3) (N := 16) C inX3 hK hP 0 rfl rfl 2 (by decide) wf_X3_85 ⟨rfl, rfl, rfl⟩ rfl dX3_undo_20 ?_
    rw [show upd i 2 (nI 0) 0 = nI n from hi0]
    refine g_iconst C (nI 1) (by decide) dX3_undo_23 ?_
    refine g_isubN C (by omega) dX3_undo_24 ?_
    refine g_put (ci := 3) (T := TX3) (N := 16) C inX3 tyX3 tyX3_ok nmX3 hK hP hD hS 0 rfl rfl 2 (by decide) wf_X3_85 ⟨rfl, rfl, rfl⟩ rfl rfl rfl (Nat.le_of_ble_eq_true rfl) dX3_undo_25 (fun H locs hP hD hS => ?_)
    have hP : va_P (dC, dI) vwCl (MW cI o t (A) (upd (upd i 2 (nI 0)) 0 (nI (n - 1))) (h)) H := hP
    have hD : va_D (fun q => q ∈ MA o t) (MW cI o t (A) (upd (upd i 2 (nI 0)) 0 (nI (n - 1))) (h)) := hD.fst rfl
    refine g_iconst C (nI 0) (by decide) dX3_undo_28 ?_
    refine g_istore1 C rfl dX3_undo_29 ?_
    have hP : va_P (dC, dI) vwCl (MW cI o t (q_s1 A 0 (q_ru (A 0) (A 1) (n - 1) 0)) (upd (upd i 2 (nI 0)) 0 (nI (n - 1))) h) H := by rw [q_ru_0]; exact hP
    have hD : va_D (fun q => q ∈ MA o t) (MW cI o t (q_s1 A 0 (q_ru (A 0) (A 1) (n - 1) 0)) (upd (upd i 2 (nI 0)) 0 (nI (n - 1))) h) := hD.fst rfl
    refine g_lpH (A1 := Nat) (fun k H locs => k ≤ 551 ∧ va_P (dC, dI) vwCl (MW cI o t (q_s1 A 0 (q_ru (A 0) (A 1) (n - 1) k)) (upd (upd i 2 (nI 0)) 0 (nI (n - 1))) h) H ∧ va_D (fun q => q ∈ MA o t) (MW cI o t (q_s1 A 0 (q_ru (A 0) (A 1) (n - 1) k)) (upd (upd i 2 (nI 0)) 0 (nI (n - 1))) h) ∧ va_S (fun q => q ∈ MA o t) s.heap H locs) (fun k => 551 - k) (fun k => [some (.ref o), some (.int (nI k))]) 0 ⟨by omega, hP, hD, hS⟩ rfl ?_
    rintro k H locs ⟨hk, hP, hD, hS⟩ ih
    try dsimp only at ih ⊢
    refine g_iload1 C dX3_undo_30 ?_
    refine g_sipush C (nI 551) (by decide) dX3_undo_31 ?_
    refine g_icmp_geN C (by omega) (by omega) 64 dX3_undo_34 (by decide) (fun h34 => ?_) (fun h34 => ?_)
    · obtain rfl : k = 551 := by omega
      refine g_aload0 C dX3_undo_64 ?_
      refine g_get (ci := 3) (T := TX3) (N := 16) C inX3 hK hP 0 rfl rfl 2 (by decide) wf_X3_85 ⟨rfl, rfl, rfl⟩ rfl dX3_undo_65 ?_
      rw [show (upd (upd i 2 (nI 0)) 0 (nI (n - 1))) 0 = nI (n - 1) from rfl]
      exact g_iretM C ⟨q_s1 A 0 (q_ru (A 0) (A 1) (n - 1) 551), upd (upd i 2 (nI 0)) 0 (nI (n - 1)), hP, (if_neg h9).symm, rfl, rfl, rfl, rfl, congrArg nI (if_neg h9).symm⟩ hS (congrArg nI (if_neg h9).symm) dX3_undo_68
    · refine g_aload0 C dX3_undo_37 ?_
      refine g_get (ci := 3) (T := TX3) (N := 16) C inX3 hK hP 0 rfl rfl 0 (by decide) wf_X3_7 ⟨rfl, rfl, rfl⟩ rfl dX3_undo_38 ?_
      refine g_iload1 C dX3_undo_41 ?_
      refine g_aload0 C dX3_undo_42 ?_
      refine g_get (ci := 3) (T := TX3) (N := 16) C inX3 hK hP 0 rfl rfl 1 (by decide) wf_X3_13 ⟨rfl, rfl, rfl⟩ rfl dX3_undo_43 ?_
      refine g_sipush C (nI 551) (by decide) dX3_undo_46 ?_
      refine g_aload0 C dX3_undo_49 ?_
      refine g_get (ci := 3) (T := TX3) (N := 16) C inX3 hK hP 0 rfl rfl 2 (by decide) wf_X3_85 ⟨rfl, rfl, rfl⟩ rfl dX3_undo_50 ?_
      rw [show (upd (upd i 2 (nI 0)) 0 (nI (n - 1))) 0 = nI (n - 1) from rfl]
      refine g_imulN C dX3_undo_53 ?_
      refine g_iload1 C dX3_undo_54 ?_
      refine g_iaddN C dX3_undo_55 ?_
      refine g_iald C hK hP 2 0 rfl rfl (by omega) (by decide) dX3_undo_56 ?_
      refine g_iast C hK hP hD hS 1 0 rfl rfl (by omega) (by decide) dX3_undo_57 (fun H locs hP hD hS => ?_)
      have hP : va_P (dC, dI) vwCl (MW cI o t (q_s1 A 0 (upd (q_ru (A 0) (A 1) (n - 1) k) k (A 1 (551 * (n - 1) + k)))) (upd (upd i 2 (nI 0)) 0 (nI (n - 1))) h) H := hP
      rw [q_ru_s] at hP
      have hD : va_D (fun q => q ∈ MA o t) (MW cI o t (q_s1 A 0 (q_ru (A 0) (A 1) (n - 1) (k + 1))) (upd (upd i 2 (nI 0)) 0 (nI (n - 1))) h) := hD.fst rfl
      refine g_iinc1 C _ rfl dX3_undo_58 (nI_1 _) ?_
      refine g_goto C 30 dX3_undo_61 (by decide) ?_
      exact ih (k + 1) H locs ⟨by omega, hP, hD, hS⟩ (by show 551 - (k + 1) < 551 - k; omega)
  · subst h9
    refine g_aload0 C dX3_undo_12 ?_
    refine g_iconst C (nI 1) (by decide) dX3_undo_13 ?_
    refine g_mV (As := [.int (nI 1)]) C 1 rfl (c_X3_fails) wl_X3_95 wi_X3_fails wv_X3_fails wn_X3 wc_X3_fails (by decide +kernel) ⟨rfl, rfl, by decide, by decide⟩ MDM_bl (va_recv (ci := 3) (q0 := 0) hK hP rfl rfl) (MDM_at hK hP hD) rfl rfl (by simp [Value.category]) ⟨by decide, by decide⟩ hS (fun _ h => h) dX3_undo_14 (fun H locs hP _ _ hS => ?_)
    have hP : va_P (dC, dI) vwCl (MW cI o t (A) (upd (upd i 2 (nI 0)) 2 (nI 1)) (h)) H := hP
    have hD : va_D (fun q => q ∈ MA o t) (MW cI o t (A) (upd (upd i 2 (nI 0)) 2 (nI 1)) (h)) := hD.fst rfl
    exact g_iretM C ⟨A, upd (upd i 2 (nI 0)) 2 (nI 1), hP, rfl, rfl, rfl, hi0, rfl, rfl⟩ hS rfl dX3_undo_17
