set_option maxHeartbeats 4000000 in
set_option maxRecDepth 100000 in
theorem c_X3_latest {l : Launch} {dC : Nat → ClassId} {dI : Nat → Nat → Nat} {cI cL cJ : ClassId} {o : Nat} {t : Nat → Nat} {A : RW} {i : Nat → Int32} {h : Int64} {p : Nat} (hp : p < 40) : Met l yX3_latest (.code yX3_latest cX3_latest 4 (some .int) :: WG) (rmL 0) (va_Pc [.ref o, .int (nI p)] (MDP dC dI cI cL cJ o t A i h)) (bq_S (.int (q_lm (q_nz (A 0)) p 3))) 0 0 (fun _ => False) := by
  refine bq_of [some (.ref o), some (.int (nI p)), none, none] rfl rfl (Nat.le_of_ble_eq_true rfl) (by decide) ?_
  intro P_ E_ s M_ B_ T_ K_ C hv
  obtain ⟨hP, hK⟩ := hv
  refine g_iconst C (-1) (by decide) dX3_latest_0 ?_
  refine g_istore2 C rfl dX3_latest_1 ?_
  refine g_iconst C (nI 0) (by decide) dX3_latest_2 ?_
  refine g_istore3 C rfl dX3_latest_3 ?_
  refine g_lp2 (fun (j : Nat) (x : Int32) => j ≤ 3 ∧ x = q_lm (q_nz (A 0)) p j) (fun (j : Nat) (x : Int32) => 3 - j) (fun (j : Nat) (x : Int32) => [some (.ref o), some (.int (nI p)), some (.int x), some (.int (nI j))]) 0 (-1) ⟨by omega, rfl⟩ rfl ?_
  rintro j x ⟨hj, hx⟩ ih
  try dsimp only at ih ⊢
  refine g_iload3 C dX3_latest_4 ?_
  refine g_iconst C (nI 3) (by decide) dX3_latest_5 ?_
  refine g_icmp_geN C (by omega) (by omega) 70 dX3_latest_6 (by decide) (fun h6 => ?_) (fun h6 => ?_)
  · refine g_iload2 C dX3_latest_70 ?_
    exact g_ireti C (by rw [hx, show j = 3 by omega]) dX3_latest_71
  · refine g_aload0 C dX3_latest_9 ?_
    refine g_get (ci := 3) (T := TX3) (N := 16) C inX3 hK hP 0 rfl rfl 0 (by decide) wf_X3_7 ⟨rfl, rfl, rfl⟩ rfl dX3_latest_10 ?_
    refine g_sipush C (nI 160) (by decide) dX3_latest_13 ?_
    refine g_iconst C (nI 3) (by decide) dX3_latest_16 ?_
    refine g_iload1 C dX3_latest_17 ?_
    refine g_imulN C dX3_latest_18 ?_
    refine g_iaddN C dX3_latest_19 ?_
    refine g_iload3 C dX3_latest_20 ?_
    refine g_iaddN C dX3_latest_21 ?_
    refine g_zal C hK hP (by omega) (zr7 (k := p * 3 + j) (by omega) (by omega)) dX3_latest_22 ?_
    refine g_iconst C (-1) (by decide) dX3_latest_23 ?_
    refine g_d2 (v := if (q_nz (A 0)) 7 (p * 3 + j) ≠ -1 ∧ x < (q_nz (A 0)) 8 (p * 3 + j) then (q_nz (A 0)) 8 (p * 3 + j) else x) 63 (fun K24 => ?_) ?_
    · skip
      refine g_icmp_eq C 62 dX3_latest_24 (by decide) (fun h24 => ?_) (fun h24 => ?_)
      · refine g_iload2 C dX3_latest_62 ?_
        exact K24 _ (by exact (if_neg (fun z => z.1 h24)).symm)
      · refine g_aload0 C dX3_latest_27 ?_
        refine g_get (ci := 3) (T := TX3) (N := 16) C inX3 hK hP 0 rfl rfl 0 (by decide) wf_X3_7 ⟨rfl, rfl, rfl⟩ rfl dX3_latest_28 ?_
        refine g_sipush C (nI 280) (by decide) dX3_latest_31 ?_
        refine g_iconst C (nI 3) (by decide) dX3_latest_34 ?_
        refine g_iload1 C dX3_latest_35 ?_
        refine g_imulN C dX3_latest_36 ?_
        refine g_iaddN C dX3_latest_37 ?_
        refine g_iload3 C dX3_latest_38 ?_
        refine g_iaddN C dX3_latest_39 ?_
        refine g_zal C hK hP (by omega) (zr8 (k := p * 3 + j) (by omega) (by omega) (h24)) dX3_latest_40 ?_
        refine g_iload2 C dX3_latest_41 ?_
        refine g_icmp_le C 62 dX3_latest_42 (by decide) (fun h42 => ?_) (fun h42 => ?_)
        · refine g_iload2 C dX3_latest_62 ?_
          exact K24 _ (by exact (if_neg (fun z => absurd z.2 (Int32.not_lt.mpr h42))).symm)
        · refine g_aload0 C dX3_latest_45 ?_
          refine g_get (ci := 3) (T := TX3) (N := 16) C inX3 hK hP 0 rfl rfl 0 (by decide) wf_X3_7 ⟨rfl, rfl, rfl⟩ rfl dX3_latest_46 ?_
          refine g_sipush C (nI 280) (by decide) dX3_latest_49 ?_
          refine g_iconst C (nI 3) (by decide) dX3_latest_52 ?_
          refine g_iload1 C dX3_latest_53 ?_
          refine g_imulN C dX3_latest_54 ?_
          refine g_iaddN C dX3_latest_55 ?_
          refine g_iload3 C dX3_latest_56 ?_
          refine g_iaddN C dX3_latest_57 ?_
          refine g_zal C hK hP (by omega) (zr8 (k := p * 3 + j) (by omega) (by omega) (h24)) dX3_latest_58 ?_
          refine g_goto C 63 dX3_latest_59 (by decide) ?_
          exact K24 _ (by exact (if_pos ⟨h24, Int32.not_le.mp h42⟩).symm)
    refine g_istore2 C rfl dX3_latest_63 ?_
    refine g_iinc3 C _ rfl dX3_latest_64 (nI_1 _) ?_
    refine g_goto C 4 dX3_latest_67 (by decide) ?_
    exact ih (j + 1) _ ⟨by omega, by rw [hx]; rfl⟩ (by show 3 - (j + 1) < 3 - j; omega)

set_option maxHeartbeats 4000000 in
set_option maxRecDepth 100000 in
theorem c_X3_reason {l : Launch} {dC : Nat → ClassId} {dI : Nat → Nat → Nat} {cI cL cJ : ClassId} {o : Nat} {t : Nat → Nat} {A : RW} {i : Nat → Int32} {h : Int64} {p dep : Nat} {fv : Int32} (hp : p < 40) (hdp : dep < 100) (hki : INV (q_nz (A 0))) : Met l yX3_reason (.code yX3_reason cX3_reason 6 (some .int) :: WG) (rmL 4) (va_Pc [.ref o, .int fv, .int (nI p), .int (nI dep)] (MDP dC dI cI cL cJ o t A i h)) (bq_S (.int (q_ref (q_nz (A 0)) (i 3) (q_wr (A 3)) fv p dep))) 0 0 (fun _ => False) := by
  refine bq_of [some (.ref o), some (.int fv), some (.int (nI p)), some (.int (nI dep)), none, none] rfl rfl (Nat.le_of_ble_eq_true rfl) (by decide) ?_
  intro P_ E_ s M_ B_ T_ K_ C hv
  obtain ⟨hP, hK⟩ := hv
  refine g_aload0 C dX3_reason_0 ?_
  refine g_get (ci := 3) (T := TX3) (N := 16) C inX3 hK hP 0 rfl rfl 0 (by decide) wf_X3_7 ⟨rfl, rfl, rfl⟩ rfl dX3_reason_1 ?_
  refine g_bipush C (nI 40) (by decide) dX3_reason_4 ?_
  refine g_iload2 C dX3_reason_6 ?_
  refine g_iaddN C dX3_reason_7 ?_
  refine g_zal C hK hP (by omega) (zr4 (k := p) (by omega) (by omega)) dX3_reason_8 ?_
  refine g_iconst C (-1) (by decide) dX3_reason_9 ?_
  refine g_d2 (v := bI ((q_nz (A 0)) 4 p ≠ -1)) 18 (fun K10 => ?_) ?_
  · skip
    refine g_icmp_eq C 17 dX3_reason_10 (by decide) (fun h10 => ?_) (fun h10 => ?_)
    · refine g_iconst C (nI 0) (by decide) dX3_reason_17 ?_
      exact K10 _ (bI_f (fun z => z h10))
    · refine g_iconst C (nI 1) (by decide) dX3_reason_13 ?_
      refine g_goto C 18 dX3_reason_14 (by decide) ?_
      exact K10 _ (bI_t h10)
  refine g_istore4 C rfl dX3_reason_18 ?_
  refine g_aload0 C dX3_reason_20 ?_
  refine g_get (ci := 3) (T := TX3) (N := 16) C inX3 hK hP 0 rfl rfl 0 (by decide) wf_X3_7 ⟨rfl, rfl, rfl⟩ rfl dX3_reason_21 ?_
  refine g_iload2 C dX3_reason_24 ?_
  refine g_zal C hK hP (by omega) (zr3 (k := p) (by omega) (by omega)) dX3_reason_25 ?_
  refine g_iconst C (nI 3) (by decide) dX3_reason_26 ?_
  refine g_icmp_ne C 32 dX3_reason_27 (by decide) (fun h27 => ?_) (fun h27 => ?_)
  · refine g_aload0 C dX3_reason_32 ?_
    refine g_iload1 C dX3_reason_33 ?_
    refine g_iload2 C dX3_reason_34 ?_
    refine g_mcV2 C hK hP (c_X3_isOthers (by omega)) wl_X3_70 wi_X3_isOthers wv_X3_isOthers wc_X3_isOthers (by decide +kernel) ⟨rfl, rfl, by decide, by decide⟩ rfl (by simp [Value.category]) ⟨by decide, by decide⟩ dX3_reason_35 ?_
    refine g_if_eqB C 43 dX3_reason_38 (by decide) (fun h38 => ?_) (fun h38 => ?_)
    · refine g_iload3 C dX3_reason_43 ?_
      refine g_aload0 C dX3_reason_44 ?_
      refine g_iload2 C dX3_reason_45 ?_
      refine g_mcV1 C hK hP (c_X3_deep (by omega) hki) wl_X3_73 wi_X3_deep wv_X3_deep wc_X3_deep (by decide +kernel) ⟨rfl, rfl, by decide, by decide⟩ rfl (by simp [Value.category]) ⟨by decide, by decide⟩ dX3_reason_46 ?_
      have hgr := q_gd_le (q_nz (A 0)) p
      refine g_icmp_leN C (by omega) (by omega) 54 dX3_reason_49 (by decide) (fun h49 => ?_) (fun h49 => ?_)
      · refine g_aload0 C dX3_reason_54 ?_
        refine g_iload2 C dX3_reason_55 ?_
        refine g_mcV1 C hK hP (c_X3_highest (by omega)) wl_X3_76 wi_X3_highest wv_X3_highest wc_X3_highest (by decide +kernel) ⟨rfl, rfl, by decide, by decide⟩ rfl (by simp [Value.category]) ⟨by decide, by decide⟩ dX3_reason_56 ?_
        have hfr := q_free_le (q_nz (A 0)) p
        refine g_iload3 C dX3_reason_59 ?_
        refine g_icmp_gtN C (by omega) (by omega) 65 dX3_reason_60 (by decide) (fun h60 => ?_) (fun h60 => ?_)
        · refine g_aload0 C dX3_reason_65 ?_
          refine g_iload2 C dX3_reason_66 ?_
          refine g_mcV1 C hK hP (c_X3_isReached (by omega)) wl_X3_79 wi_X3_isReached wv_X3_isReached wc_X3_isReached (by decide +kernel) ⟨rfl, rfl, by decide, by decide⟩ rfl (by simp [Value.category]) ⟨by decide, by decide⟩ dX3_reason_67 ?_
          refine g_if_neB C 75 dX3_reason_70 (by decide) (fun h70 => ?_) (fun h70 => ?_)
          · refine g_iload4 C dX3_reason_75 ?_
            refine g_if_eqB C 105 dX3_reason_77 (by decide) (fun h77 => ?_) (fun h77 => ?_)
            · refine g_aload0 C dX3_reason_105 ?_
              refine g_iload2 C dX3_reason_106 ?_
              refine g_mcV1 C hK hP (c_X3_buried (by omega)) wl_X3_67 wi_X3_buried wv_X3_buried wc_X3_buried (by decide +kernel) ⟨rfl, rfl, by decide, by decide⟩ rfl (by simp [Value.category]) ⟨by decide, by decide⟩ dX3_reason_107 ?_
              have hbu : q_bur (q_nz (A 0)) p ≤ 3 := q_cn_le _ 3
              refine g_d1 (v := nI (if q_bur (q_nz (A 0)) p = 0 then q_gd (q_nz (A 0)) p else q_free (q_nz (A 0)) p)) 128 (fun K110 => ?_) ?_
              · skip
                refine g_if_neN C (by omega) 121 dX3_reason_110 (by decide) (fun h110 => ?_) (fun h110 => ?_)
                · refine g_aload0 C dX3_reason_121 ?_
                  refine g_iload2 C dX3_reason_122 ?_
                  refine g_mcV1 C hK hP (c_X3_highest (by omega)) wl_X3_76 wi_X3_highest wv_X3_highest wc_X3_highest (by decide +kernel) ⟨rfl, rfl, by decide, by decide⟩ rfl (by simp [Value.category]) ⟨by decide, by decide⟩ dX3_reason_123 ?_
                  refine g_iconst C (nI 1) (by decide) dX3_reason_126 ?_
                  refine g_isubN C (by omega) dX3_reason_127 ?_
                  exact K110 _ (by simp [h110])
                · refine g_aload0 C dX3_reason_113 ?_
                  refine g_iload2 C dX3_reason_114 ?_
                  refine g_mcV1 C hK hP (c_X3_deep (by omega) hki) wl_X3_73 wi_X3_deep wv_X3_deep wc_X3_deep (by decide +kernel) ⟨rfl, rfl, by decide, by decide⟩ rfl (by simp [Value.category]) ⟨by decide, by decide⟩ dX3_reason_115 ?_
                  refine g_goto C 128 dX3_reason_118 (by decide) ?_
                  exact K110 _ (by simp [h110])
              refine g_istore5 C rfl dX3_reason_128 ?_
              have hfx : (if q_bur (q_nz (A 0)) p = 0 then q_gd (q_nz (A 0)) p else q_free (q_nz (A 0)) p) ≤ 3 := by split <;> omega
              refine g_iload4 C dX3_reason_130 ?_
              refine g_if_eqB C 146 dX3_reason_132 (by decide) (fun h132 => ?_) (fun h132 => ?_)
              · refine g_iconst C (nI 0) (by decide) dX3_reason_146 ?_
                exact g_ireti C (by unfold q_ref; rw [if_neg h27, if_neg h38, if_neg (by omega), if_neg (by omega), if_neg (by simp [h70]), if_neg h77]) dX3_reason_147
              · refine g_iload3 C dX3_reason_135 ?_
                refine g_iload5 C dX3_reason_136 ?_
                refine g_icmp_eqN C (by omega) (by omega) 146 dX3_reason_138 (by decide) (fun h138 => ?_) (fun h138 => ?_)
                · refine g_iconst C (nI 0) (by decide) dX3_reason_146 ?_
                  exact g_ireti C (absurd h132 h77) dX3_reason_147
                · refine g_bipush C (nI 7) (by decide) dX3_reason_141 ?_
                  refine g_goto C 147 dX3_reason_143 (by decide) ?_
                  exact g_ireti C (absurd h132 h77) dX3_reason_147
            · refine g_aload0 C dX3_reason_80 ?_
              refine g_iload2 C dX3_reason_81 ?_
              refine g_mcV1 C hK hP (c_X3_buried (by omega)) wl_X3_67 wi_X3_buried wv_X3_buried wc_X3_buried (by decide +kernel) ⟨rfl, rfl, by decide, by decide⟩ rfl (by simp [Value.category]) ⟨by decide, by decide⟩ dX3_reason_82 ?_
              have hbu : q_bur (q_nz (A 0)) p ≤ 3 := q_cn_le _ 3
              refine g_if_leN C (by omega) 105 dX3_reason_85 (by decide) (fun h85 => ?_) (fun h85 => ?_)
              · refine g_aload0 C dX3_reason_105 ?_
                refine g_iload2 C dX3_reason_106 ?_
                refine g_mcV1 C hK hP (c_X3_buried (by omega)) wl_X3_67 wi_X3_buried wv_X3_buried wc_X3_buried (by decide +kernel) ⟨rfl, rfl, by decide, by decide⟩ rfl (by simp [Value.category]) ⟨by decide, by decide⟩ dX3_reason_107 ?_
                have hbu : q_bur (q_nz (A 0)) p ≤ 3 := q_cn_le _ 3
                refine g_d1 (v := nI (if q_bur (q_nz (A 0)) p = 0 then q_gd (q_nz (A 0)) p else q_free (q_nz (A 0)) p)) 128 (fun K110 => ?_) ?_
                · skip
                  refine g_if_neN C (by omega) 121 dX3_reason_110 (by decide) (fun h110 => ?_) (fun h110 => ?_)
                  · refine g_aload0 C dX3_reason_121 ?_
                    refine g_iload2 C dX3_reason_122 ?_
                    refine g_mcV1 C hK hP (c_X3_highest (by omega)) wl_X3_76 wi_X3_highest wv_X3_highest wc_X3_highest (by decide +kernel) ⟨rfl, rfl, by decide, by decide⟩ rfl (by simp [Value.category]) ⟨by decide, by decide⟩ dX3_reason_123 ?_
                    refine g_iconst C (nI 1) (by decide) dX3_reason_126 ?_
                    refine g_isubN C (by omega) dX3_reason_127 ?_
                    exact K110 _ (by simp [h110])
                  · refine g_aload0 C dX3_reason_113 ?_
                    refine g_iload2 C dX3_reason_114 ?_
                    refine g_mcV1 C hK hP (c_X3_deep (by omega) hki) wl_X3_73 wi_X3_deep wv_X3_deep wc_X3_deep (by decide +kernel) ⟨rfl, rfl, by decide, by decide⟩ rfl (by simp [Value.category]) ⟨by decide, by decide⟩ dX3_reason_115 ?_
                    refine g_goto C 128 dX3_reason_118 (by decide) ?_
                    exact K110 _ (by simp [h110])
                refine g_istore5 C rfl dX3_reason_128 ?_
                have hfx : (if q_bur (q_nz (A 0)) p = 0 then q_gd (q_nz (A 0)) p else q_free (q_nz (A 0)) p) ≤ 3 := by split <;> omega
                refine g_iload4 C dX3_reason_130 ?_
                refine g_if_eqB C 146 dX3_reason_132 (by decide) (fun h132 => ?_) (fun h132 => ?_)
                · refine g_iconst C (nI 0) (by decide) dX3_reason_146 ?_
                  exact g_ireti C (absurd h77 h132) dX3_reason_147
                · refine g_iload3 C dX3_reason_135 ?_
                  refine g_iload5 C dX3_reason_136 ?_
                  refine g_icmp_eqN C (by omega) (by omega) 146 dX3_reason_138 (by decide) (fun h138 => ?_) (fun h138 => ?_)
                  · refine g_iconst C (nI 0) (by decide) dX3_reason_146 ?_
                    exact g_ireti C (by rw [q_fr_min h77] at h138; unfold q_ref; rw [if_neg h27, if_neg h38, if_neg (by omega), if_neg (by omega), if_neg (by simp [h70]), if_pos h77]; unfold q_vref; rw [if_neg (fun z => by omega), if_neg (fun z => z h138)]) dX3_reason_147
                  · refine g_bipush C (nI 7) (by decide) dX3_reason_141 ?_
                    refine g_goto C 147 dX3_reason_143 (by decide) ?_
                    exact g_ireti C (by rw [q_fr_min h77] at h138; unfold q_ref; rw [if_neg h27, if_neg h38, if_neg (by omega), if_neg (by omega), if_neg (by simp [h70]), if_pos h77]; unfold q_vref; rw [if_neg (fun z => by omega), if_pos h138]) dX3_reason_147
              · refine g_aload0 C dX3_reason_88 ?_
                refine g_get (ci := 3) (T := TX3) (N := 16) C inX3 hK hP 0 rfl rfl 6 (by decide) wf_X3_45 ⟨rfl, rfl, rfl⟩ rfl dX3_reason_89 ?_
                refine g_aload0 C dX3_reason_92 ?_
                refine g_iload2 C dX3_reason_93 ?_
                refine g_mcV1 C hK hP (c_X3_latest (by omega)) wl_X3_82 wi_X3_latest wv_X3_latest wc_X3_latest (by decide +kernel) ⟨rfl, rfl, by decide, by decide⟩ rfl (by simp [Value.category]) ⟨by decide, by decide⟩ dX3_reason_94 ?_
                refine g_iconst C (nI 2) (by decide) dX3_reason_97 ?_
                refine g_iadd C dX3_reason_98 ?_
                refine g_icmp_ge C 105 dX3_reason_99 (by decide) (fun h99 => ?_) (fun h99 => ?_)
                · refine g_aload0 C dX3_reason_105 ?_
                  refine g_iload2 C dX3_reason_106 ?_
                  refine g_mcV1 C hK hP (c_X3_buried (by omega)) wl_X3_67 wi_X3_buried wv_X3_buried wc_X3_buried (by decide +kernel) ⟨rfl, rfl, by decide, by decide⟩ rfl (by simp [Value.category]) ⟨by decide, by decide⟩ dX3_reason_107 ?_
                  have hbu : q_bur (q_nz (A 0)) p ≤ 3 := q_cn_le _ 3
                  refine g_d1 (v := nI (if q_bur (q_nz (A 0)) p = 0 then q_gd (q_nz (A 0)) p else q_free (q_nz (A 0)) p)) 128 (fun K110 => ?_) ?_
                  · skip
                    refine g_if_neN C (by omega) 121 dX3_reason_110 (by decide) (fun h110 => ?_) (fun h110 => ?_)
                    · refine g_aload0 C dX3_reason_121 ?_
                      refine g_iload2 C dX3_reason_122 ?_
                      refine g_mcV1 C hK hP (c_X3_highest (by omega)) wl_X3_76 wi_X3_highest wv_X3_highest wc_X3_highest (by decide +kernel) ⟨rfl, rfl, by decide, by decide⟩ rfl (by simp [Value.category]) ⟨by decide, by decide⟩ dX3_reason_123 ?_
                      refine g_iconst C (nI 1) (by decide) dX3_reason_126 ?_
                      refine g_isubN C (by omega) dX3_reason_127 ?_
                      exact K110 _ (by simp [h110])
                    · refine g_aload0 C dX3_reason_113 ?_
                      refine g_iload2 C dX3_reason_114 ?_
                      refine g_mcV1 C hK hP (c_X3_deep (by omega) hki) wl_X3_73 wi_X3_deep wv_X3_deep wc_X3_deep (by decide +kernel) ⟨rfl, rfl, by decide, by decide⟩ rfl (by simp [Value.category]) ⟨by decide, by decide⟩ dX3_reason_115 ?_
                      refine g_goto C 128 dX3_reason_118 (by decide) ?_
                      exact K110 _ (by simp [h110])
                  refine g_istore5 C rfl dX3_reason_128 ?_
                  have hfx : (if q_bur (q_nz (A 0)) p = 0 then q_gd (q_nz (A 0)) p else q_free (q_nz (A 0)) p) ≤ 3 := by split <;> omega
                  refine g_iload4 C dX3_reason_130 ?_
                  refine g_if_eqB C 146 dX3_reason_132 (by decide) (fun h132 => ?_) (fun h132 => ?_)
                  · refine g_iconst C (nI 0) (by decide) dX3_reason_146 ?_
                    exact g_ireti C (absurd h77 h132) dX3_reason_147
                  · refine g_iload3 C dX3_reason_135 ?_
                    refine g_iload5 C dX3_reason_136 ?_
                    refine g_icmp_eqN C (by omega) (by omega) 146 dX3_reason_138 (by decide) (fun h138 => ?_) (fun h138 => ?_)
                    · refine g_iconst C (nI 0) (by decide) dX3_reason_146 ?_
                      exact g_ireti C (by rw [q_fr_min h77] at h138; unfold q_ref; rw [if_neg h27, if_neg h38, if_neg (by omega), if_neg (by omega), if_neg (by simp [h70]), if_pos h77]; unfold q_vref; rw [if_neg (fun z => absurd z.2 (Int32.not_lt.mpr (by rw [← q_lm_lat hki hp h85]; exact h99))), if_neg (fun z => z h138)]) dX3_reason_147
                    · refine g_bipush C (nI 7) (by decide) dX3_reason_141 ?_
                      refine g_goto C 147 dX3_reason_143 (by decide) ?_
                      exact g_ireti C (by rw [q_fr_min h77] at h138; unfold q_ref; rw [if_neg h27, if_neg h38, if_neg (by omega), if_neg (by omega), if_neg (by simp [h70]), if_pos h77]; unfold q_vref; rw [if_neg (fun z => absurd z.2 (Int32.not_lt.mpr (by rw [← q_lm_lat hki hp h85]; exact h99))), if_pos h138]) dX3_reason_147
                · refine g_bipush C (nI 6) (by decide) dX3_reason_102 ?_
                  exact g_ireti C (by unfold q_ref; rw [if_neg h27, if_neg h38, if_neg (by omega), if_neg (by omega), if_neg (by simp [h70]), if_pos h77]; unfold q_vref; rw [if_pos ⟨h85, by rw [← q_lm_lat hki hp h85]; exact Int32.not_le.mp h99⟩]) dX3_reason_104
          · refine g_iconst C (nI 5) (by decide) dX3_reason_73 ?_
            exact g_ireti C (by unfold q_ref; rw [if_neg h27, if_neg h38, if_neg (by omega), if_neg (by omega), if_pos (by simpa using h70)]) dX3_reason_74
        · refine g_iconst C (nI 4) (by decide) dX3_reason_63 ?_
          exact g_ireti C (by unfold q_ref; rw [if_neg h27, if_neg h38, if_neg (by omega), if_pos (by omega)]) dX3_reason_64
      · refine g_iconst C (nI 3) (by decide) dX3_reason_52 ?_
        exact g_ireti C (by unfold q_ref; rw [if_neg h27, if_neg h38, if_pos (by omega)]) dX3_reason_53
    · refine g_iconst C (nI 2) (by decide) dX3_reason_41 ?_
      exact g_ireti C (by unfold q_ref; rw [if_neg h27, if_pos h38]) dX3_reason_42
  · refine g_iconst C (nI 1) (by decide) dX3_reason_30 ?_
    exact g_ireti C (by unfold q_ref; rw [if_pos h27]) dX3_reason_31

set_option maxHeartbeats 4000000 in
set_option maxRecDepth 100000 in
theorem c_X3_price {l : Launch} {dC : Nat → ClassId} {dI : Nat → Nat → Nat} {cI cL cJ : ClassId} {o : Nat} {t : Nat → Nat} {A : RW} {i : Nat → Int32} {h : Int64} {f p dep : Nat} (hf : f < 10) (hp : p < 40) (hdp : dep < 100) : Met l yX3_price (.code yX3_price cX3_price 5 (some .int) :: WG) (rmL 1) (va_Pc [.ref o, .int (nI f), .int (nI p), .int (nI dep)] (MDP dC dI cI cL cJ o t A i h)) (bq_S (.int (q_fee (q_nz (A 0)) (i 3) f p dep))) 0 0 (fun _ => False) := by
  refine bq_of [some (.ref o), some (.int (nI f)), some (.int (nI p)), some (.int (nI dep)), none] rfl rfl (Nat.le_of_ble_eq_true rfl) (by decide) ?_
  intro P_ E_ s M_ B_ T_ K_ C hv
  obtain ⟨hP, hK⟩ := hv
  refine g_bipush C (nI 10) (by decide) dX3_price_0 ?_
  refine g_iload3 C dX3_price_2 ?_
  refine g_imulN C dX3_price_3 ?_
  refine g_bipush C (nI 20) (by decide) dX3_price_4 ?_
  refine g_iaddN C dX3_price_6 ?_
  refine g_aload0 C dX3_price_7 ?_
  refine g_get (ci := 3) (T := TX3) (N := 16) C inX3 hK hP 0 rfl rfl 0 (by decide) wf_X3_7 ⟨rfl, rfl, rfl⟩ rfl dX3_price_8 ?_
  refine g_bipush C (nI 40) (by decide) dX3_price_11 ?_
  refine g_iload2 C dX3_price_13 ?_
  refine g_iaddN C dX3_price_14 ?_
  refine g_zal C hK hP (by omega) (zr4 (k := p) (by omega) (by omega)) dX3_price_15 ?_
  refine g_iconst C (-1) (by decide) dX3_price_16 ?_
  refine g_d2 (v := if (q_nz (A 0)) 4 p ≠ -1 then nI 30 else nI 0) 26 (fun K17 => ?_) ?_
  · skip
    refine g_icmp_ne C 24 dX3_price_17 (by decide) (fun h17 => ?_) (fun h17 => ?_)
    · refine g_bipush C (nI 30) (by decide) dX3_price_24 ?_
      exact K17 _ (by simp [h17])
    · refine g_iconst C (nI 0) (by decide) dX3_price_20 ?_
      refine g_goto C 26 dX3_price_21 (by decide) ?_
      exact K17 _ (by simp [h17])
  refine g_iadd C dX3_price_26 ?_
  refine g_istore4 C rfl dX3_price_27 ?_
  refine g_iload4 C dX3_price_29 ?_
  refine g_aload0 C dX3_price_31 ?_
  refine g_get (ci := 3) (T := TX3) (N := 16) C inX3 hK hP 0 rfl rfl 0 (by decide) wf_X3_7 ⟨rfl, rfl, rfl⟩ rfl dX3_price_32 ?_
  refine g_sipush C (nI 520) (by decide) dX3_price_35 ?_
  refine g_iload1 C dX3_price_38 ?_
  refine g_iaddN C dX3_price_39 ?_
  refine g_zal C hK hP (by omega) (zr0 (k := f) (by omega) (by omega)) dX3_price_40 ?_
  refine g_iconst C (nI 1) (by decide) dX3_price_41 ?_
  refine g_d2 (v := if (q_nz (A 0)) 0 f = nI 1 then nI 1 else nI 2) 50 (fun K42 => ?_) ?_
  · skip
    refine g_icmp_ne C 49 dX3_price_42 (by decide) (fun h42 => ?_) (fun h42 => ?_)
    · refine g_iconst C (nI 2) (by decide) dX3_price_49 ?_
      exact K42 _ (by simp [h42])
    · refine g_iconst C (nI 1) (by decide) dX3_price_45 ?_
      refine g_goto C 50 dX3_price_46 (by decide) ?_
      exact K42 _ (by simp [h42])
  refine g_imul C dX3_price_50 ?_
  refine g_istore4 C rfl dX3_price_51 ?_
  refine g_iload4 C dX3_price_53 ?_
  refine g_aload0 C dX3_price_55 ?_
  refine g_iload2 C dX3_price_56 ?_
  refine g_mcV1 C hK hP (c_X3_isKept (by omega)) wl_X3_56 wi_X3_isKept wv_X3_isKept wc_X3_isKept (by decide +kernel) ⟨rfl, rfl, by decide, by decide⟩ rfl (by simp [Value.category]) ⟨by decide, by decide⟩ dX3_price_57 ?_
  refine g_d1 (v := if (q_nz (A 0)) 5 p = nI f ∧ q_kept (q_nz (A 0)) (i 3) p then nI 5 else nI 0) 81 (fun K60 => ?_) ?_
  · skip
    refine g_if_eqB C 80 dX3_price_60 (by decide) (fun h60 => ?_) (fun h60 => ?_)
    · refine g_iconst C (nI 0) (by decide) dX3_price_80 ?_
      exact K60 _ (by exact (if_neg (fun z => h60 z.2)).symm)
    · refine g_aload0 C dX3_price_63 ?_
      refine g_get (ci := 3) (T := TX3) (N := 16) C inX3 hK hP 0 rfl rfl 0 (by decide) wf_X3_7 ⟨rfl, rfl, rfl⟩ rfl dX3_price_64 ?_
      refine g_bipush C (nI 80) (by decide) dX3_price_67 ?_
      refine g_iload2 C dX3_price_69 ?_
      refine g_iaddN C dX3_price_70 ?_
      refine g_zal C hK hP (by omega) (zr5 (k := p) (by omega) (by omega)) dX3_price_71 ?_
      refine g_iload1 C dX3_price_72 ?_
      refine g_icmp_ne C 80 dX3_price_73 (by decide) (fun h73 => ?_) (fun h73 => ?_)
      · refine g_iconst C (nI 0) (by decide) dX3_price_80 ?_
        exact K60 _ (by exact (if_neg (fun z => h73 z.1)).symm)
      · refine g_iconst C (nI 5) (by decide) dX3_price_76 ?_
        refine g_goto C 81 dX3_price_77 (by decide) ?_
        exact K60 _ (by exact (if_pos ⟨h73, h60⟩).symm)
  refine g_isub C dX3_price_81 ?_
  exact g_ireti C (by unfold q_fee q_pr; rcases Classical.em (q_nz (A 0) 0 f = nI 1) with hpp | hpp <;> first | (rw [if_pos hpp, if_pos hpp, show nI 1 = 1 from rfl, Int32.mul_one]; done) | (rw [if_neg hpp, if_neg hpp, Int32.mul_comm]; done)) dX3_price_82

set_option maxHeartbeats 4000000 in
set_option maxRecDepth 100000 in
theorem c_X3_mayReserve {l : Launch} {dC : Nat → ClassId} {dI : Nat → Nat → Nat} {cI cL cJ : ClassId} {o : Nat} {t : Nat → Nat} {A : RW} {i : Nat → Int32} {h : Int64} {f p : Nat} (hf : f < 10) (hp : p < 40) : Met l yX3_mayReserve (.code yX3_mayReserve cX3_mayReserve 3 (some .boolean) :: WG) (rmL 4) (va_Pc [.ref o, .int (nI f), .int (nI p)] (MDP dC dI cI cL cJ o t A i h)) (bq_S (.int (bI ((q_nz (A 0)) 3 p ≠ nI 3 ∧ (q_nz (A 0)) 4 p = -1 ∧ ¬ q_oth (q_hold (q_nz (A 0)) (i 3) p) (nI f))))) 0 0 (fun _ => False) := by
  refine bq_of [some (.ref o), some (.int (nI f)), some (.int (nI p))] rfl rfl (Nat.le_of_ble_eq_true rfl) (by decide) ?_
  intro P_ E_ s M_ B_ T_ K_ C hv
  obtain ⟨hP, hK⟩ := hv
  refine g_aload0 C dX3_mayReserve_0 ?_
  refine g_get (ci := 3) (T := TX3) (N := 16) C inX3 hK hP 0 rfl rfl 0 (by decide) wf_X3_7 ⟨rfl, rfl, rfl⟩ rfl dX3_mayReserve_1 ?_
  refine g_iload2 C dX3_mayReserve_4 ?_
  refine g_zal C hK hP (by omega) (zr3 (k := p) (by omega) (by omega)) dX3_mayReserve_5 ?_
  refine g_iconst C (nI 3) (by decide) dX3_mayReserve_6 ?_
  refine g_icmp_eq C 36 dX3_mayReserve_7 (by decide) (fun h7 => ?_) (fun h7 => ?_)
  · refine g_iconst C (nI 0) (by decide) dX3_mayReserve_36 ?_
    exact g_iretz C (bI_f (fun z => z.1 h7)) dX3_mayReserve_37
  · refine g_aload0 C dX3_mayReserve_10 ?_
    refine g_get (ci := 3) (T := TX3) (N := 16) C inX3 hK hP 0 rfl rfl 0 (by decide) wf_X3_7 ⟨rfl, rfl, rfl⟩ rfl dX3_mayReserve_11 ?_
    refine g_bipush C (nI 40) (by decide) dX3_mayReserve_14 ?_
    refine g_iload2 C dX3_mayReserve_16 ?_
    refine g_iaddN C dX3_mayReserve_17 ?_
    refine g_zal C hK hP (by omega) (zr4 (k := p) (by omega) (by omega)) dX3_mayReserve_18 ?_
    refine g_iconst C (-1) (by decide) dX3_mayReserve_19 ?_
    refine g_icmp_ne C 36 dX3_mayReserve_20 (by decide) (fun h20 => ?_) (fun h20 => ?_)
    · refine g_iconst C (nI 0) (by decide) dX3_mayReserve_36 ?_
      exact g_iretz C (bI_f (fun z => h20 z.2.1)) dX3_mayReserve_37
    · refine g_aload0 C dX3_mayReserve_23 ?_
      refine g_iload1 C dX3_mayReserve_24 ?_
      refine g_iload2 C dX3_mayReserve_25 ?_
      refine g_mcV2 C hK hP (c_X3_isOthers (by omega)) wl_X3_70 wi_X3_isOthers wv_X3_isOthers wc_X3_isOthers (by decide +kernel) ⟨rfl, rfl, by decide, by decide⟩ rfl (by simp [Value.category]) ⟨by decide, by decide⟩ dX3_mayReserve_26 ?_
      refine g_if_neB C 36 dX3_mayReserve_29 (by decide) (fun h29 => ?_) (fun h29 => ?_)
      · refine g_iconst C (nI 0) (by decide) dX3_mayReserve_36 ?_
        exact g_iretz C (bI_f (fun z => z.2.2 h29)) dX3_mayReserve_37
      · refine g_iconst C (nI 1) (by decide) dX3_mayReserve_32 ?_
        refine g_goto C 37 dX3_mayReserve_33 (by decide) ?_
        exact g_iretz C (bI_t ⟨h7, h20, h29⟩) dX3_mayReserve_37

set_option maxHeartbeats 4000000 in
set_option maxRecDepth 100000 in
theorem c_X3_keptMany {l : Launch} {dC : Nat → ClassId} {dI : Nat → Nat → Nat} {cI cL cJ : ClassId} {o : Nat} {t : Nat → Nat} {A : RW} {i : Nat → Int32} {h : Int64}  : Met l yX3_keptMany (.code yX3_keptMany cX3_keptMany 3 (some .int) :: WG) (rmL 1) (va_Pc [.ref o] (MDP dC dI cI cL cJ o t A i h)) (bq_S (.int (nI (q_last (q_nz (A 0)) (i 3))))) 0 0 (fun _ => False) := by
  refine bq_of [some (.ref o), none, none] rfl rfl (Nat.le_of_ble_eq_true rfl) (by decide) ?_
  intro P_ E_ s M_ B_ T_ K_ C hv
  obtain ⟨hP, hK⟩ := hv
  refine g_iconst C (nI 0) (by decide) dX3_keptMany_0 ?_
  refine g_istore1 C rfl dX3_keptMany_1 ?_
  refine g_iconst C (nI 0) (by decide) dX3_keptMany_2 ?_
  refine g_istore2 C rfl dX3_keptMany_3 ?_
  refine g_lp2 (fun (j : Nat) (x : Nat) => j ≤ 40 ∧ x = q_cn (fun k => q_kept (q_nz (A 0)) (i 3) k) j) (fun (j : Nat) (x : Nat) => 40 - j) (fun (j : Nat) (x : Nat) => [some (.ref o), some (.int (nI x)), some (.int (nI j))]) 0 0 ⟨by omega, rfl⟩ rfl ?_
  rintro j x ⟨hj, hx⟩ ih
  try dsimp only at ih ⊢
  refine g_iload2 C dX3_keptMany_4 ?_
  refine g_bipush C (nI 40) (by decide) dX3_keptMany_5 ?_
  refine g_icmp_geN C (by omega) (by omega) 32 dX3_keptMany_7 (by decide) (fun h7 => ?_) (fun h7 => ?_)
  · refine g_iload1 C dX3_keptMany_32 ?_
    exact g_ireti C (by rw [hx, show j = 40 by omega]; rfl) dX3_keptMany_33
  · refine g_iload1 C dX3_keptMany_10 ?_
    refine g_aload0 C dX3_keptMany_11 ?_
    refine g_iload2 C dX3_keptMany_12 ?_
    refine g_mcV1 C hK hP (c_X3_isKept (by omega)) wl_X3_56 wi_X3_isKept wv_X3_isKept wc_X3_isKept (by decide +kernel) ⟨rfl, rfl, by decide, by decide⟩ rfl (by simp [Value.category]) ⟨by decide, by decide⟩ dX3_keptMany_13 ?_
    refine g_d1 (v := nI (if q_kept (q_nz (A 0)) (i 3) j then 1 else 0)) 24 (fun K16 => ?_) ?_
    · skip
      refine g_if_eqB C 23 dX3_keptMany_16 (by decide) (fun h16 => ?_) (fun h16 => ?_)
      · refine g_iconst C (nI 0) (by decide) dX3_keptMany_23 ?_
        exact K16 _ (by rw [if_neg h16])
      · refine g_iconst C (nI 1) (by decide) dX3_keptMany_19 ?_
        refine g_goto C 24 dX3_keptMany_20 (by decide) ?_
        exact K16 _ (by rw [if_pos h16])
    refine g_iaddN C dX3_keptMany_24 ?_
    refine g_istore1 C rfl dX3_keptMany_25 ?_
    refine g_iinc2 C _ rfl dX3_keptMany_26 (nI_1 _) ?_
    refine g_goto C 4 dX3_keptMany_29 (by decide) ?_
    exact ih (j + 1) _ ⟨by omega, by rw [hx]; rfl⟩ (by show 40 - (j + 1) < 40 - j; omega)

set_option maxHeartbeats 4000000 in
set_option maxRecDepth 100000 in
theorem c_X3_plotNow {l : Launch} {dC : Nat → ClassId} {dI : Nat → Nat → Nat} {cI cL cJ : ClassId} {o : Nat} {t : Nat → Nat} {A : RW} {i : Nat → Int32} {h : Int64} {p what : Nat} (hp : p < 40) (hw : what ≤ 8) (hki : INV (q_nz (A 0))) : Met l yX3_plotNow (.code yX3_plotNow cX3_plotNow 3 (some .int) :: WG) (rmL 3) (va_Pc [.ref o, .int (nI p), .int (nI what)] (MDP dC dI cI cL cJ o t A i h)) (bq_S (.int (q_pp (q_nz (A 0)) (i 3) (q_wr (A 3)) p what))) 0 0 (fun _ => False) := by
  refine bq_of [some (.ref o), some (.int (nI p)), some (.int (nI what))] rfl rfl (Nat.le_of_ble_eq_true rfl) (by decide) ?_
  intro P_ E_ s M_ B_ T_ K_ C hv
  obtain ⟨hP, hK⟩ := hv
  refine g_iload2 C dX3_plotNow_0 ?_
  rcases (show what = 0 ∨ what = 1 ∨ what = 2 ∨ what = 3 ∨ what = 4 ∨ what = 5 ∨ what = 6 ∨ what = 7 ∨ what = 8 by omega) with rfl | rfl | rfl | rfl | rfl | rfl | rfl | rfl | rfl
  · refine g_tsI C 48 dX3_plotNow_1 (by decide) (by decide) rfl (by decide) ?_
    refine g_aload0 C dX3_plotNow_48 ?_
    refine g_get (ci := 3) (T := TX3) (N := 16) C inX3 hK hP 0 rfl rfl 0 (by decide) wf_X3_7 ⟨rfl, rfl, rfl⟩ rfl dX3_plotNow_49 ?_
    refine g_iload1 C dX3_plotNow_52 ?_
    refine g_zal C hK hP (by omega) (zr3 (k := p) (by omega) (by omega)) dX3_plotNow_53 ?_
    exact g_ireti C (rfl) dX3_plotNow_54
  · refine g_tsI C 55 dX3_plotNow_1 (by decide) (by decide) rfl (by decide) ?_
    refine g_aload0 C dX3_plotNow_55 ?_
    refine g_iload1 C dX3_plotNow_56 ?_
    refine g_mcV1 C hK hP (c_X3_holder (by omega)) wl_X3_60 wi_X3_holder wv_X3_holder wc_X3_holder (by decide +kernel) ⟨rfl, rfl, by decide, by decide⟩ rfl (by simp [Value.category]) ⟨by decide, by decide⟩ dX3_plotNow_57 ?_
    exact g_ireti C (rfl) dX3_plotNow_60
  · refine g_tsI C 61 dX3_plotNow_1 (by decide) (by decide) rfl (by decide) ?_
    refine g_aload0 C dX3_plotNow_61 ?_
    refine g_iload1 C dX3_plotNow_62 ?_
    refine g_mcV1 C hK hP (c_X3_buried (by omega)) wl_X3_67 wi_X3_buried wv_X3_buried wc_X3_buried (by decide +kernel) ⟨rfl, rfl, by decide, by decide⟩ rfl (by simp [Value.category]) ⟨by decide, by decide⟩ dX3_plotNow_63 ?_
    exact g_ireti C (rfl) dX3_plotNow_66
  · refine g_tsI C 67 dX3_plotNow_1 (by decide) (by decide) rfl (by decide) ?_
    refine g_aload0 C dX3_plotNow_67 ?_
    refine g_iload1 C dX3_plotNow_68 ?_
    refine g_mcV1 C hK hP (c_X3_fresh (by omega)) wl_X3_127 wi_X3_fresh wv_X3_fresh wc_X3_fresh (by decide +kernel) ⟨rfl, rfl, by decide, by decide⟩ rfl (by simp [Value.category]) ⟨by decide, by decide⟩ dX3_plotNow_69 ?_
    exact g_ireti C (rfl) dX3_plotNow_72
  · refine g_tsI C 73 dX3_plotNow_1 (by decide) (by decide) rfl (by decide) ?_
    refine g_aload0 C dX3_plotNow_73 ?_
    refine g_get (ci := 3) (T := TX3) (N := 16) C inX3 hK hP 0 rfl rfl 0 (by decide) wf_X3_7 ⟨rfl, rfl, rfl⟩ rfl dX3_plotNow_74 ?_
    refine g_bipush C (nI 40) (by decide) dX3_plotNow_77 ?_
    refine g_iload1 C dX3_plotNow_79 ?_
    refine g_iaddN C dX3_plotNow_80 ?_
    refine g_zal C hK hP (by omega) (zr4 (k := p) (by omega) (by omega)) dX3_plotNow_81 ?_
    exact g_ireti C (rfl) dX3_plotNow_82
  · refine g_tsI C 83 dX3_plotNow_1 (by decide) (by decide) rfl (by decide) ?_
    refine g_aload0 C dX3_plotNow_83 ?_
    refine g_get (ci := 3) (T := TX3) (N := 16) C inX3 hK hP 0 rfl rfl 0 (by decide) wf_X3_7 ⟨rfl, rfl, rfl⟩ rfl dX3_plotNow_84 ?_
    refine g_bipush C (nI 80) (by decide) dX3_plotNow_87 ?_
    refine g_iload1 C dX3_plotNow_89 ?_
    refine g_iaddN C dX3_plotNow_90 ?_
    refine g_zal C hK hP (by omega) (zr5 (k := p) (by omega) (by omega)) dX3_plotNow_91 ?_
    exact g_ireti C (rfl) dX3_plotNow_92
  · refine g_tsI C 93 dX3_plotNow_1 (by decide) (by decide) rfl (by decide) ?_
    refine g_aload0 C dX3_plotNow_93 ?_
    refine g_get (ci := 3) (T := TX3) (N := 16) C inX3 hK hP 0 rfl rfl 0 (by decide) wf_X3_7 ⟨rfl, rfl, rfl⟩ rfl dX3_plotNow_94 ?_
    refine g_bipush C (nI 120) (by decide) dX3_plotNow_97 ?_
    refine g_iload1 C dX3_plotNow_99 ?_
    refine g_iaddN C dX3_plotNow_100 ?_
    refine g_zal C hK hP (by omega) (zr6 (k := p) (by omega) (by omega)) dX3_plotNow_101 ?_
    exact g_ireti C (rfl) dX3_plotNow_102
  · refine g_tsI C 103 dX3_plotNow_1 (by decide) (by decide) rfl (by decide) ?_
    refine g_aload0 C dX3_plotNow_103 ?_
    refine g_iload1 C dX3_plotNow_104 ?_
    refine g_mcV1 C hK hP (c_X3_isReached (by omega)) wl_X3_79 wi_X3_isReached wv_X3_isReached wc_X3_isReached (by decide +kernel) ⟨rfl, rfl, by decide, by decide⟩ rfl (by simp [Value.category]) ⟨by decide, by decide⟩ dX3_plotNow_105 ?_
    refine g_if_eqB C 115 dX3_plotNow_108 (by decide) (fun h108 => ?_) (fun h108 => ?_)
    · refine g_iconst C (nI 0) (by decide) dX3_plotNow_115 ?_
      exact g_ireti C (by simp [q_pp, h108]) dX3_plotNow_116
    · refine g_iconst C (nI 1) (by decide) dX3_plotNow_111 ?_
      refine g_goto C 116 dX3_plotNow_112 (by decide) ?_
      exact g_ireti C (by simp [q_pp, h108]) dX3_plotNow_116
  · refine g_tsO C 117 dX3_plotNow_1 (by decide) (by decide) ?_
    refine g_aload0 C dX3_plotNow_117 ?_
    refine g_iload1 C dX3_plotNow_118 ?_
    refine g_mcV1 C hK hP (c_X3_deep (by omega) hki) wl_X3_73 wi_X3_deep wv_X3_deep wc_X3_deep (by decide +kernel) ⟨rfl, rfl, by decide, by decide⟩ rfl (by simp [Value.category]) ⟨by decide, by decide⟩ dX3_plotNow_119 ?_
    exact g_ireti C (rfl) dX3_plotNow_122

set_option maxHeartbeats 4000000 in
set_option maxRecDepth 100000 in
theorem c_X3_burialNow {l : Launch} {dC : Nat → ClassId} {dI : Nat → Nat → Nat} {cI cL cJ : ClassId} {o : Nat} {t : Nat → Nat} {A : RW} {i : Nat → Int32} {h : Int64} {p j what : Nat} (hp : p < 40) (hj : j < 3) (hw : what ≤ 3) : Met l yX3_burialNow (.code yX3_burialNow cX3_burialNow 5 (some .int) :: WG) (rmL 2) (va_Pc [.ref o, .int (nI p), .int (nI j), .int (nI what)] (MDP dC dI cI cL cJ o t A i h)) (bq_S (.int (q_bp (q_nz (A 0)) (i 3) (p * 3 + j) what))) 0 0 (fun _ => False) := by
  refine bq_of [some (.ref o), some (.int (nI p)), some (.int (nI j)), some (.int (nI what)), none] rfl rfl (Nat.le_of_ble_eq_true rfl) (by decide) ?_
  intro P_ E_ s M_ B_ T_ K_ C hv
  obtain ⟨hP, hK⟩ := hv
  refine g_iconst C (nI 3) (by decide) dX3_burialNow_0 ?_
  refine g_iload1 C dX3_burialNow_1 ?_
  refine g_imulN C dX3_burialNow_2 ?_
  refine g_iload2 C dX3_burialNow_3 ?_
  refine g_iaddN C dX3_burialNow_4 ?_
  refine g_istore4 C rfl dX3_burialNow_5 ?_
  refine g_aload0 C dX3_burialNow_7 ?_
  refine g_get (ci := 3) (T := TX3) (N := 16) C inX3 hK hP 0 rfl rfl 0 (by decide) wf_X3_7 ⟨rfl, rfl, rfl⟩ rfl dX3_burialNow_8 ?_
  refine g_sipush C (nI 160) (by decide) dX3_burialNow_11 ?_
  refine g_iload4 C dX3_burialNow_14 ?_
  refine g_iaddN C dX3_burialNow_16 ?_
  refine g_zal C hK hP (by omega) (zr7 (k := p * 3 + j) (by omega) (by omega)) dX3_burialNow_17 ?_
  refine g_iconst C (-1) (by decide) dX3_burialNow_18 ?_
  refine g_icmp_ne C 24 dX3_burialNow_19 (by decide) (fun h19 => ?_) (fun h19 => ?_)
  · refine g_iload3 C dX3_burialNow_24 ?_
    refine g_if_neN C (by omega) 42 dX3_burialNow_25 (by decide) (fun h25 => ?_) (fun h25 => ?_)
    · refine g_iload3 C dX3_burialNow_42 ?_
      refine g_iconst C (nI 1) (by decide) dX3_burialNow_43 ?_
      refine g_icmp_neN C (by omega) (by omega) 61 dX3_burialNow_44 (by decide) (fun h44 => ?_) (fun h44 => ?_)
      · refine g_iload3 C dX3_burialNow_61 ?_
        refine g_iconst C (nI 2) (by decide) dX3_burialNow_62 ?_
        refine g_icmp_neN C (by omega) (by omega) 83 dX3_burialNow_63 (by decide) (fun h63 => ?_) (fun h63 => ?_)
        · refine g_aload0 C dX3_burialNow_83 ?_
          refine g_get (ci := 3) (T := TX3) (N := 16) C inX3 hK hP 0 rfl rfl 0 (by decide) wf_X3_7 ⟨rfl, rfl, rfl⟩ rfl dX3_burialNow_84 ?_
          refine g_sipush C (nI 400) (by decide) dX3_burialNow_87 ?_
          refine g_iload4 C dX3_burialNow_90 ?_
          refine g_iaddN C dX3_burialNow_92 ?_
          refine g_zal C hK hP (by omega) (zr9 (k := p * 3 + j) (by omega) (by omega) (h19)) dX3_burialNow_93 ?_
          exact g_ireti C (by unfold q_bp; rw [if_neg h19]; obtain rfl : what = 3 := (by omega); rfl) dX3_burialNow_94
        · refine g_aload0 C dX3_burialNow_66 ?_
          refine g_iload1 C dX3_burialNow_67 ?_
          refine g_iload2 C dX3_burialNow_68 ?_
          refine g_mcV2 C hK hP (c_X3_isOld hp hj h19) wl_X3_52 wi_X3_isOld wv_X3_isOld wc_X3_isOld (by decide +kernel) ⟨rfl, rfl, by decide, by decide⟩ rfl (by simp [Value.category]) ⟨by decide, by decide⟩ dX3_burialNow_69 ?_
          refine g_if_eqB C 79 dX3_burialNow_72 (by decide) (fun h72 => ?_) (fun h72 => ?_)
          · refine g_iconst C (nI 0) (by decide) dX3_burialNow_79 ?_
            refine g_goto C 94 dX3_burialNow_80 (by decide) ?_
            exact g_ireti C (by unfold q_bp; rw [if_neg h19]; subst h63; exact (if_pos ⟨h19, Classical.byContradiction h72⟩).symm) dX3_burialNow_94
          · refine g_iconst C (nI 1) (by decide) dX3_burialNow_75 ?_
            refine g_goto C 94 dX3_burialNow_76 (by decide) ?_
            exact g_ireti C (by unfold q_bp; rw [if_neg h19]; subst h63; exact (if_neg (fun z => h72 z.2)).symm) dX3_burialNow_94
      · refine g_aload0 C dX3_burialNow_47 ?_
        refine g_get (ci := 3) (T := TX3) (N := 16) C inX3 hK hP 0 rfl rfl 0 (by decide) wf_X3_7 ⟨rfl, rfl, rfl⟩ rfl dX3_burialNow_48 ?_
        refine g_sipush C (nI 280) (by decide) dX3_burialNow_51 ?_
        refine g_iload4 C dX3_burialNow_54 ?_
        refine g_iaddN C dX3_burialNow_56 ?_
        refine g_zal C hK hP (by omega) (zr8 (k := p * 3 + j) (by omega) (by omega) (h19)) dX3_burialNow_57 ?_
        refine g_goto C 94 dX3_burialNow_58 (by decide) ?_
        exact g_ireti C (by unfold q_bp; rw [if_neg h19]; subst h44; rfl) dX3_burialNow_94
    · refine g_aload0 C dX3_burialNow_28 ?_
      refine g_get (ci := 3) (T := TX3) (N := 16) C inX3 hK hP 0 rfl rfl 0 (by decide) wf_X3_7 ⟨rfl, rfl, rfl⟩ rfl dX3_burialNow_29 ?_
      refine g_sipush C (nI 160) (by decide) dX3_burialNow_32 ?_
      refine g_iload4 C dX3_burialNow_35 ?_
      refine g_iaddN C dX3_burialNow_37 ?_
      refine g_zal C hK hP (by omega) (zr7 (k := p * 3 + j) (by omega) (by omega)) dX3_burialNow_38 ?_
      refine g_goto C 94 dX3_burialNow_39 (by decide) ?_
      exact g_ireti C (by unfold q_bp; rw [if_neg h19]; subst h25; rfl) dX3_burialNow_94
  · refine g_iconst C (-1) (by decide) dX3_burialNow_22 ?_
    exact g_ireti C (by unfold q_bp; rw [if_pos h19]) dX3_burialNow_23

set_option maxHeartbeats 4000000 in
set_option maxRecDepth 100000 in
theorem c_X3_familyNow {l : Launch} {dC : Nat → ClassId} {dI : Nat → Nat → Nat} {cI cL cJ : ClassId} {o : Nat} {t : Nat → Nat} {A : RW} {i : Nat → Int32} {h : Int64} {f what : Nat} (hf : f < 10) (hw : what ≤ 5) : Met l yX3_familyNow (.code yX3_familyNow cX3_familyNow 6 (some .int) :: WG) (rmL 3) (va_Pc [.ref o, .int (nI f), .int (nI what)] (MDP dC dI cI cL cJ o t A i h)) (bq_S (.int (q_fpM (q_nz (A 0)) (i 3) f what))) 0 0 (fun _ => False) := by
  refine bq_of [some (.ref o), some (.int (nI f)), some (.int (nI what)), none, none, none] rfl rfl (Nat.le_of_ble_eq_true rfl) (by decide) ?_
  intro P_ E_ s M_ B_ T_ K_ C hv
  obtain ⟨hP, hK⟩ := hv
  refine g_iload2 C dX3_familyNow_0 ?_
  refine g_iconst C (nI 3) (by decide) dX3_familyNow_1 ?_
  refine g_icmp_geN C (by omega) (by omega) 51 dX3_familyNow_2 (by decide) (fun h2 => ?_) (fun h2 => ?_)
  · refine g_iconst C (nI 0) (by decide) dX3_familyNow_51 ?_
    refine g_istore3 C rfl dX3_familyNow_52 ?_
    refine g_iconst C (nI 0) (by decide) dX3_familyNow_53 ?_
    refine g_istore4 C rfl dX3_familyNow_54 ?_
    refine g_lp2 (fun (p : Nat) (x : Nat) => p ≤ 40 ∧ x = q_fm (q_nz (A 0)) (i 3) f what p) (fun (p : Nat) (x : Nat) => 40 - p) (fun (p : Nat) (x : Nat) => [some (.ref o), some (.int (nI f)), some (.int (nI what)), some (.int (nI x)), some (.int (nI p)), none]) 0 0 ⟨by omega, rfl⟩ rfl ?_
    rintro p x ⟨hp, hx⟩ ih
    try dsimp only at ih ⊢
    refine g_iload4 C dX3_familyNow_56 ?_
    refine g_bipush C (nI 40) (by decide) dX3_familyNow_58 ?_
    refine g_icmp_geN C (by omega) (by omega) 159 dX3_familyNow_60 (by decide) (fun h60 => ?_) (fun h60 => ?_)
    · refine g_iload3 C dX3_familyNow_159 ?_
      exact g_ireti C (by unfold q_fpM; rw [if_neg (by omega), hx, show p = 40 by omega]) dX3_familyNow_160
    · refine g_iload3 C dX3_familyNow_63 ?_
      refine g_iload2 C dX3_familyNow_64 ?_
      refine g_iconst C (nI 4) (by decide) dX3_familyNow_65 ?_
      refine g_d2 (v := nI (q_fm1 (q_nz (A 0)) (i 3) f what p)) 103 (fun K66 => ?_) ?_
      · skip
        refine g_icmp_neN C (by omega) (by omega) 79 dX3_familyNow_66 (by decide) (fun h66 => ?_) (fun h66 => ?_)
        · refine g_iload2 C dX3_familyNow_79 ?_
          refine g_iconst C (nI 5) (by decide) dX3_familyNow_80 ?_
          refine g_icmp_neN C (by omega) (by omega) 102 dX3_familyNow_81 (by decide) (fun h81 => ?_) (fun h81 => ?_)
          · refine g_iconst C (nI 0) (by decide) dX3_familyNow_102 ?_
            exact K66 _ (by unfold q_fm1; rw [if_neg (fun z => z.elim (fun z => h66 z.1) (fun z => h81 z.1))])
          · refine g_aload0 C dX3_familyNow_84 ?_
            refine g_get (ci := 3) (T := TX3) (N := 16) C inX3 hK hP 0 rfl rfl 0 (by decide) wf_X3_7 ⟨rfl, rfl, rfl⟩ rfl dX3_familyNow_85 ?_
            refine g_bipush C (nI 40) (by decide) dX3_familyNow_88 ?_
            refine g_iload4 C dX3_familyNow_90 ?_
            refine g_iaddN C dX3_familyNow_92 ?_
            refine g_zal C hK hP (by omega) (zr4 (k := p) (by omega) (by omega)) dX3_familyNow_93 ?_
            refine g_iload1 C dX3_familyNow_94 ?_
            refine g_icmp_ne C 102 dX3_familyNow_95 (by decide) (fun h95 => ?_) (fun h95 => ?_)
            · refine g_iconst C (nI 0) (by decide) dX3_familyNow_102 ?_
              exact K66 _ (by unfold q_fm1; rw [if_neg (fun z => z.elim (fun z => h66 z.1) (fun z => h95 z.2))])
            · refine g_iconst C (nI 1) (by decide) dX3_familyNow_98 ?_
              refine g_goto C 103 dX3_familyNow_99 (by decide) ?_
              exact K66 _ (by unfold q_fm1; rw [if_pos (Or.inr ⟨h81, h95⟩)])
        · refine g_aload0 C dX3_familyNow_69 ?_
          refine g_iload4 C dX3_familyNow_70 ?_
          refine g_mcV1 C hK hP (c_X3_holder (by omega)) wl_X3_60 wi_X3_holder wv_X3_holder wc_X3_holder (by decide +kernel) ⟨rfl, rfl, by decide, by decide⟩ rfl (by simp [Value.category]) ⟨by decide, by decide⟩ dX3_familyNow_72 ?_
          refine g_iload1 C dX3_familyNow_75 ?_
          refine g_icmp_eq C 98 dX3_familyNow_76 (by decide) (fun h76 => ?_) (fun h76 => ?_)
          · refine g_iconst C (nI 1) (by decide) dX3_familyNow_98 ?_
            refine g_goto C 103 dX3_familyNow_99 (by decide) ?_
            exact K66 _ (by unfold q_fm1; rw [if_pos (Or.inl ⟨h66, h76⟩)])
          · refine g_iload2 C dX3_familyNow_79 ?_
            refine g_iconst C (nI 5) (by decide) dX3_familyNow_80 ?_
            refine g_icmp_neN C (by omega) (by omega) 102 dX3_familyNow_81 (by decide) (fun h81 => ?_) (fun h81 => ?_)
            · refine g_iconst C (nI 0) (by decide) dX3_familyNow_102 ?_
              exact K66 _ (by unfold q_fm1; rw [if_neg (fun z => z.elim (fun z => h76 z.2) (fun z => h81 z.1))])
            · refine g_aload0 C dX3_familyNow_84 ?_
              refine g_get (ci := 3) (T := TX3) (N := 16) C inX3 hK hP 0 rfl rfl 0 (by decide) wf_X3_7 ⟨rfl, rfl, rfl⟩ rfl dX3_familyNow_85 ?_
              refine g_bipush C (nI 40) (by decide) dX3_familyNow_88 ?_
              refine g_iload4 C dX3_familyNow_90 ?_
              refine g_iaddN C dX3_familyNow_92 ?_
              refine g_zal C hK hP (by omega) (zr4 (k := p) (by omega) (by omega)) dX3_familyNow_93 ?_
              refine g_iload1 C dX3_familyNow_94 ?_
              refine g_icmp_ne C 102 dX3_familyNow_95 (by decide) (fun h95 => ?_) (fun h95 => ?_)
              · refine g_iconst C (nI 0) (by decide) dX3_familyNow_102 ?_
                exact K66 _ (by unfold q_fm1; rw [if_neg (fun z => z.elim (fun z => h76 z.2) (fun z => h95 z.2))])
              · refine g_iconst C (nI 1) (by decide) dX3_familyNow_98 ?_
                refine g_goto C 103 dX3_familyNow_99 (by decide) ?_
                exact K66 _ (by unfold q_fm1; rw [if_pos (Or.inr ⟨h81, h95⟩)])
      refine g_iaddN C dX3_familyNow_103 ?_
      refine g_istore3 C rfl dX3_familyNow_104 ?_
      refine g_iconst C (nI 0) (by decide) dX3_familyNow_105 ?_
      refine g_istore5 C rfl dX3_familyNow_106 ?_
      refine g_lp2 (fun (j : Nat) (x2 : Nat) => j ≤ 3 ∧ x2 = (q_fm (q_nz (A 0)) (i 3) f what p + q_fm1 (q_nz (A 0)) (i 3) f what p) + q_fm3 (q_nz (A 0)) f what p j) (fun (j : Nat) (_ : Nat) => 3 - j) (fun (j : Nat) (x2 : Nat) => [some (.ref o), some (.int (nI f)), some (.int (nI what)), some (.int (nI x2)), some (.int (nI p)), some (.int (nI j))]) 0 _ ⟨by omega, by rw [hx]; rfl⟩ rfl ?_
      rintro j x2 ⟨hj, hx2⟩ ih2
      try dsimp only at ih2 ⊢
      refine g_iload5 C dX3_familyNow_108 ?_
      refine g_iconst C (nI 3) (by decide) dX3_familyNow_110 ?_
      refine g_icmp_geN C (by omega) (by omega) 153 dX3_familyNow_111 (by decide) (fun h111 => ?_) (fun h111 => ?_)
      · refine g_iinc4 C _ rfl dX3_familyNow_153 (nI_1 _) ?_
        refine g_goto C 56 dX3_familyNow_156 (by decide) ?_
        refine g_fg5 ?_
        exact ih (p + 1) _ ⟨by omega, by rw [hx2, show j = 3 by omega]; rfl⟩ (by show 40 - (p + 1) < 40 - p; omega)
      · refine g_iload3 C dX3_familyNow_114 ?_
        refine g_iload2 C dX3_familyNow_115 ?_
        refine g_iconst C (nI 3) (by decide) dX3_familyNow_116 ?_
        refine g_d2 (v := nI (if what = 3 ∧ (q_nz (A 0)) 7 (p * 3 + j) = nI f then 1 else 0)) 145 (fun K117 => ?_) ?_
        · skip
          refine g_icmp_neN C (by omega) (by omega) 144 dX3_familyNow_117 (by decide) (fun h117 => ?_) (fun h117 => ?_)
          · refine g_iconst C (nI 0) (by decide) dX3_familyNow_144 ?_
            exact K117 _ (by rw [if_neg (fun z => h117 z.1)])
          · refine g_aload0 C dX3_familyNow_120 ?_
            refine g_get (ci := 3) (T := TX3) (N := 16) C inX3 hK hP 0 rfl rfl 0 (by decide) wf_X3_7 ⟨rfl, rfl, rfl⟩ rfl dX3_familyNow_121 ?_
            refine g_sipush C (nI 160) (by decide) dX3_familyNow_124 ?_
            refine g_iconst C (nI 3) (by decide) dX3_familyNow_127 ?_
            refine g_iload4 C dX3_familyNow_128 ?_
            refine g_imulN C dX3_familyNow_130 ?_
            refine g_iaddN C dX3_familyNow_131 ?_
            refine g_iload5 C dX3_familyNow_132 ?_
            refine g_iaddN C dX3_familyNow_134 ?_
            refine g_zal C hK hP (by omega) (zr7 (k := p * 3 + j) (by omega) (by omega)) dX3_familyNow_135 ?_
            refine g_iload1 C dX3_familyNow_136 ?_
            refine g_icmp_ne C 144 dX3_familyNow_137 (by decide) (fun h137 => ?_) (fun h137 => ?_)
            · refine g_iconst C (nI 0) (by decide) dX3_familyNow_144 ?_
              exact K117 _ (by rw [if_neg (fun z => h137 z.2)])
            · refine g_iconst C (nI 1) (by decide) dX3_familyNow_140 ?_
              refine g_goto C 145 dX3_familyNow_141 (by decide) ?_
              exact K117 _ (by rw [if_pos ⟨h117, h137⟩])
        refine g_iaddN C dX3_familyNow_145 ?_
        refine g_istore3 C rfl dX3_familyNow_146 ?_
        refine g_iinc5 C _ rfl dX3_familyNow_147 (nI_1 _) ?_
        refine g_goto C 108 dX3_familyNow_150 (by decide) ?_
        exact ih2 (j + 1) _ ⟨by omega, by rw [hx2]; exact Nat.add_assoc _ _ _⟩ (by show 3 - (j + 1) < 3 - j; omega)
  · refine g_iload2 C dX3_familyNow_5 ?_
    refine g_if_neN C (by omega) 22 dX3_familyNow_6 (by decide) (fun h6 => ?_) (fun h6 => ?_)
    · refine g_iload2 C dX3_familyNow_22 ?_
      refine g_iconst C (nI 1) (by decide) dX3_familyNow_23 ?_
      refine g_icmp_neN C (by omega) (by omega) 40 dX3_familyNow_24 (by decide) (fun h24 => ?_) (fun h24 => ?_)
      · refine g_aload0 C dX3_familyNow_40 ?_
        refine g_get (ci := 3) (T := TX3) (N := 16) C inX3 hK hP 0 rfl rfl 0 (by decide) wf_X3_7 ⟨rfl, rfl, rfl⟩ rfl dX3_familyNow_41 ?_
        refine g_sipush C (nI 540) (by decide) dX3_familyNow_44 ?_
        refine g_iload1 C dX3_familyNow_47 ?_
        refine g_iaddN C dX3_familyNow_48 ?_
        refine g_zal C hK hP (by omega) (zr2 (k := f) (by omega) (by omega)) dX3_familyNow_49 ?_
        exact g_ireti C (by unfold q_fpM; rw [if_pos (by omega)]; obtain rfl : what = 2 := (by omega); rfl) dX3_familyNow_50
      · refine g_aload0 C dX3_familyNow_27 ?_
        refine g_get (ci := 3) (T := TX3) (N := 16) C inX3 hK hP 0 rfl rfl 0 (by decide) wf_X3_7 ⟨rfl, rfl, rfl⟩ rfl dX3_familyNow_28 ?_
        refine g_sipush C (nI 530) (by decide) dX3_familyNow_31 ?_
        refine g_iload1 C dX3_familyNow_34 ?_
        refine g_iaddN C dX3_familyNow_35 ?_
        refine g_zal C hK hP (by omega) (zr1 (k := f) (by omega) (by omega)) dX3_familyNow_36 ?_
        refine g_goto C 50 dX3_familyNow_37 (by decide) ?_
        exact g_ireti C (by unfold q_fpM; rw [if_pos (by omega)]; subst h24; rfl) dX3_familyNow_50
    · refine g_aload0 C dX3_familyNow_9 ?_
      refine g_get (ci := 3) (T := TX3) (N := 16) C inX3 hK hP 0 rfl rfl 0 (by decide) wf_X3_7 ⟨rfl, rfl, rfl⟩ rfl dX3_familyNow_10 ?_
      refine g_sipush C (nI 520) (by decide) dX3_familyNow_13 ?_
      refine g_iload1 C dX3_familyNow_16 ?_
      refine g_iaddN C dX3_familyNow_17 ?_
      refine g_zal C hK hP (by omega) (zr0 (k := f) (by omega) (by omega)) dX3_familyNow_18 ?_
      refine g_goto C 50 dX3_familyNow_19 (by decide) ?_
      exact g_ireti C (by unfold q_fpM; rw [if_pos (by omega)]; subst h6; rfl) dX3_familyNow_50
