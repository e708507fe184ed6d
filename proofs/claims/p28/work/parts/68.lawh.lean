set_option maxHeartbeats 4000000 in
set_option maxRecDepth 100000 in
theorem c_L_counted0 {l : Launch} {dC : Nat → ClassId} {dI : Nat → Nat → Nat} {cI cL cJ : ClassId} {t : Nat → Nat} {x1 x3 x4 : Nat → Int32} {x2 : Nat → Int64} {d : RW} {yn : Nat} (hk : PKI d yn x1 x2 x3 x4) {w : Nat} {v : Nat → Int32} (hyn : yn < 100000) : Met l yL_counted (.code yL_counted method_20_code 8 (some .int) :: WG) (rmL 3) (va_Pc [.int (nI 0), .ref (t 0), .ref (t 1), .ref (t 3), .ref w] (PKW dC dI cI cL cJ t x1 x2 x3 x4 w v)) (bq_S (.int (q_clw d (nI yn) (q_wr v) 0))) 0 0 (fun _ => False) := by
  refine bq_of [some (.int (nI 0)), some (.ref (t 0)), some (.ref (t 1)), some (.ref (t 3)), some (.ref w), none, none, none] rfl rfl (Nat.le_of_ble_eq_true rfl) (by decide) ?_
  intro P_ E_ s M_ B_ T_ K_ C hv
  obtain ⟨hP, hK⟩ := hv
  have hki := hk.1
  have hkg := hk.2.1
  have hkb := hk.2.2.1
  have hke := hk.2.2.2.1
  have hkf := hk.2.2.2.2
  refine g_iconst C (nI 0) (by decide) dL_counted_0 ?_
  refine g_istore5 C rfl dL_counted_1 ?_
  refine g_iconst C (nI 0) (by decide) dL_counted_3 ?_
  refine g_istore6 C rfl dL_counted_4 ?_
  refine g_lp2 (fun (j : Nat) (x : Nat) => j ≤ 40 ∧ x = 0) (fun (j : Nat) (x : Nat) => 40 - j) (fun (j : Nat) (x : Nat) => [some (.int (nI 0)), some (.ref (t 0)), some (.ref (t 1)), some (.ref (t 3)), some (.ref w), some (.int (nI x)), some (.int (nI j)), none]) 0 0 ⟨by omega, rfl⟩ rfl ?_
  rintro j x ⟨hj, hx⟩ ih
  try dsimp only at ih ⊢
  refine g_iload6 C dL_counted_6 ?_
  refine g_bipush C (nI 40) (by decide) dL_counted_8 ?_
  refine g_icmp_geN C (by omega) (by omega) 194 dL_counted_10 (by decide) (fun h10 => ?_) (fun h10 => ?_)
  · refine g_iconst C (nI 0) (by decide) dL_counted_194 ?_
    refine g_istore6 C rfl dL_counted_195 ?_
    have e40 : j = 40 := by omega
    subst e40
    subst hx
    refine g_lp2 (fun (f : Nat) (z : Nat) => f ≤ 10 ∧ z = 0) (fun (f : Nat) (z : Nat) => 10 - f) (fun (f : Nat) (z : Nat) => [some (.int (nI 0)), some (.ref (t 0)), some (.ref (t 1)), some (.ref (t 3)), some (.ref w), some (.int (nI z)), some (.int (nI f)), none]) 0 0 ⟨by omega, rfl⟩ rfl ?_
    rintro f z ⟨hf, hz⟩ ih2
    try dsimp only at ih2 ⊢
    refine g_iload6 C dL_counted_197 ?_
    refine g_bipush C (nI 10) (by decide) dL_counted_199 ?_
    refine g_icmp_geN C (by omega) (by omega) 232 dL_counted_201 (by decide) (fun h201 => ?_) (fun h201 => ?_)
    · refine g_iload0 C dL_counted_232 ?_
      refine g_if_neN C (by omega) 243 dL_counted_233 (by decide) (fun h233 => ?_) (fun h233 => ?_)
      · exact absurd rfl h233
      · refine g_aload3 C dL_counted_236 ?_
        refine g_bipush C (nI 30) (by decide) dL_counted_237 ?_
        refine g_iald C hK hP 3 0 rfl rfl (by omega) (by decide) dL_counted_239 ?_
        refine g_top hkf.1 ?_
        refine g_goto C 245 dL_counted_240 (by decide) ?_
        exact g_ireti C (by unfold q_clw; rw [if_pos rfl]) dL_counted_245
    · refine g_iload5 C dL_counted_204 ?_
      refine g_iload0 C dL_counted_206 ?_
      refine g_bipush C (nI 7) (by decide) dL_counted_207 ?_
      refine g_icmp_neN C (by omega) (by omega) 222 dL_counted_209 (by decide) (fun h209 => ?_) (fun h209 => ?_)
      · refine g_iconst C (nI 0) (by decide) dL_counted_222 ?_
        refine g_iaddN C dL_counted_223 ?_
        refine g_istore5 C rfl dL_counted_224 ?_
        refine g_iinc6 C _ rfl dL_counted_226 (nI_1 _) ?_
        refine g_goto C 197 dL_counted_229 (by decide) ?_
        exact ih2 (f + 1) _ ⟨by omega, by omega⟩ (by show 10 - (f + 1) < 10 - f; omega)
      · exact absurd h209 (by decide)
  · refine g_aload1 C dL_counted_13 ?_
    refine g_iload6 C dL_counted_14 ?_
    refine g_iald C hK hP 0 0 rfl rfl (by omega) (by decide) dL_counted_16 ?_
    refine g_iconst C (nI 3) (by decide) dL_counted_17 ?_
    refine g_iand C dL_counted_18 ?_
    refine g_top (rd_k hkg (by omega)) ?_
    refine g_iconst C (nI 3) (by decide) dL_counted_19 ?_
    refine g_d2 (v := bI (d 3 j = nI 3)) 28 (fun K20 => ?_) ?_
    · skip
      refine g_icmp_ne C 27 dL_counted_20 (by decide) (fun h20 => ?_) (fun h20 => ?_)
      · refine g_iconst C (nI 0) (by decide) dL_counted_27 ?_
        exact K20 _ (bI_f h20)
      · refine g_iconst C (nI 1) (by decide) dL_counted_23 ?_
        refine g_goto C 28 dL_counted_24 (by decide) ?_
        exact K20 _ (bI_t h20)
    refine g_istore7 C rfl dL_counted_28 ?_
    refine g_iload0 C dL_counted_30 ?_
    refine g_iconst C (nI 1) (by decide) dL_counted_31 ?_
    refine g_icmp_neN C (by omega) (by omega) 46 dL_counted_32 (by decide) (fun h32 => ?_) (fun h32 => ?_)
    · refine g_iload0 C dL_counted_46 ?_
      refine g_iconst C (nI 2) (by decide) dL_counted_47 ?_
      refine g_icmp_neN C (by omega) (by omega) 67 dL_counted_48 (by decide) (fun h48 => ?_) (fun h48 => ?_)
      · refine g_iload0 C dL_counted_67 ?_
        refine g_iconst C (nI 3) (by decide) dL_counted_68 ?_
        refine g_icmp_neN C (by omega) (by omega) 96 dL_counted_69 (by decide) (fun h69 => ?_) (fun h69 => ?_)
        · refine g_iload0 C dL_counted_96 ?_
          refine g_iconst C (nI 4) (by decide) dL_counted_97 ?_
          refine g_icmp_neN C (by omega) (by omega) 126 dL_counted_98 (by decide) (fun h98 => ?_) (fun h98 => ?_)
          · refine g_iload0 C dL_counted_126 ?_
            refine g_iconst C (nI 5) (by decide) dL_counted_127 ?_
            refine g_icmp_neN C (by omega) (by omega) 163 dL_counted_128 (by decide) (fun h128 => ?_) (fun h128 => ?_)
            · refine g_iload0 C dL_counted_163 ?_
              refine g_bipush C (nI 6) (by decide) dL_counted_164 ?_
              refine g_icmp_neN C (by omega) (by omega) 188 dL_counted_166 (by decide) (fun h166 => ?_) (fun h166 => ?_)
              · refine g_iinc6 C _ rfl dL_counted_188 (nI_1 _) ?_
                refine g_goto C 6 dL_counted_191 (by decide) ?_
                refine g_fg7 ?_
                exact ih (j + 1) _ ⟨by omega, hx⟩ (by show 40 - (j + 1) < 40 - j; omega)
              · exact absurd h166 (by decide)
            · exact absurd h128 (by decide)
          · exact absurd h98 (by decide)
        · exact absurd h69 (by decide)
      · exact absurd h48 (by decide)
    · exact absurd h32 (by decide)

set_option maxHeartbeats 4000000 in
set_option maxRecDepth 100000 in
theorem c_L_counted1 {l : Launch} {dC : Nat → ClassId} {dI : Nat → Nat → Nat} {cI cL cJ : ClassId} {t : Nat → Nat} {x1 x3 x4 : Nat → Int32} {x2 : Nat → Int64} {d : RW} {yn : Nat} (hk : PKI d yn x1 x2 x3 x4) {w : Nat} {v : Nat → Int32} (hyn : yn < 100000) : Met l yL_counted (.code yL_counted method_20_code 8 (some .int) :: WG) (rmL 3) (va_Pc [.int (nI 1), .ref (t 0), .ref (t 1), .ref (t 3), .ref w] (PKW dC dI cI cL cJ t x1 x2 x3 x4 w v)) (bq_S (.int (q_clw d (nI yn) (q_wr v) 1))) 0 0 (fun _ => False) := by
  refine bq_of [some (.int (nI 1)), some (.ref (t 0)), some (.ref (t 1)), some (.ref (t 3)), some (.ref w), none, none, none] rfl rfl (Nat.le_of_ble_eq_true rfl) (by decide) ?_
  intro P_ E_ s M_ B_ T_ K_ C hv
  obtain ⟨hP, hK⟩ := hv
  have hki := hk.1
  have hkg := hk.2.1
  have hkb := hk.2.2.1
  have hke := hk.2.2.2.1
  have hkf := hk.2.2.2.2
  refine g_iconst C (nI 0) (by decide) dL_counted_0 ?_
  refine g_istore5 C rfl dL_counted_1 ?_
  refine g_iconst C (nI 0) (by decide) dL_counted_3 ?_
  refine g_istore6 C rfl dL_counted_4 ?_
  refine g_lp2 (fun (j : Nat) (x : Nat) => j ≤ 40 ∧ x = q_sN (q_cg d (nI yn) (q_wr v) 1) j) (fun (j : Nat) (x : Nat) => 40 - j) (fun (j : Nat) (x : Nat) => [some (.int (nI 1)), some (.ref (t 0)), some (.ref (t 1)), some (.ref (t 3)), some (.ref w), some (.int (nI x)), some (.int (nI j)), none]) 0 0 ⟨by omega, rfl⟩ rfl ?_
  rintro j x ⟨hj, hx⟩ ih
  try dsimp only at ih ⊢
  refine g_iload6 C dL_counted_6 ?_
  refine g_bipush C (nI 40) (by decide) dL_counted_8 ?_
  refine g_icmp_geN C (by omega) (by omega) 194 dL_counted_10 (by decide) (fun h10 => ?_) (fun h10 => ?_)
  · refine g_iconst C (nI 0) (by decide) dL_counted_194 ?_
    refine g_istore6 C rfl dL_counted_195 ?_
    have e40 : j = 40 := by omega
    subst e40
    refine g_lp2 (fun (f : Nat) (z : Nat) => f ≤ 10 ∧ z = x) (fun (f : Nat) (z : Nat) => 10 - f) (fun (f : Nat) (z : Nat) => [some (.int (nI 1)), some (.ref (t 0)), some (.ref (t 1)), some (.ref (t 3)), some (.ref w), some (.int (nI z)), some (.int (nI f)), none]) 0 x ⟨by omega, rfl⟩ rfl ?_
    rintro f z ⟨hf, hz⟩ ih2
    try dsimp only at ih2 ⊢
    refine g_iload6 C dL_counted_197 ?_
    refine g_bipush C (nI 10) (by decide) dL_counted_199 ?_
    refine g_icmp_geN C (by omega) (by omega) 232 dL_counted_201 (by decide) (fun h201 => ?_) (fun h201 => ?_)
    · refine g_iload0 C dL_counted_232 ?_
      refine g_if_neN C (by omega) 243 dL_counted_233 (by decide) (fun h233 => ?_) (fun h233 => ?_)
      · refine g_iload5 C dL_counted_243 ?_
        exact g_ireti C (by unfold q_clw; rw [if_neg (by decide), if_neg (by decide), hz, hx]) dL_counted_245
      · exact absurd h233 (by decide)
    · refine g_iload5 C dL_counted_204 ?_
      refine g_iload0 C dL_counted_206 ?_
      refine g_bipush C (nI 7) (by decide) dL_counted_207 ?_
      refine g_icmp_neN C (by omega) (by omega) 222 dL_counted_209 (by decide) (fun h209 => ?_) (fun h209 => ?_)
      · refine g_iconst C (nI 0) (by decide) dL_counted_222 ?_
        refine g_iaddN C dL_counted_223 ?_
        refine g_istore5 C rfl dL_counted_224 ?_
        refine g_iinc6 C _ rfl dL_counted_226 (nI_1 _) ?_
        refine g_goto C 197 dL_counted_229 (by decide) ?_
        exact ih2 (f + 1) _ ⟨by omega, by omega⟩ (by show 10 - (f + 1) < 10 - f; omega)
      · exact absurd h209 (by decide)
  · refine g_aload1 C dL_counted_13 ?_
    refine g_iload6 C dL_counted_14 ?_
    refine g_iald C hK hP 0 0 rfl rfl (by omega) (by decide) dL_counted_16 ?_
    refine g_iconst C (nI 3) (by decide) dL_counted_17 ?_
    refine g_iand C dL_counted_18 ?_
    refine g_top (rd_k hkg (by omega)) ?_
    refine g_iconst C (nI 3) (by decide) dL_counted_19 ?_
    refine g_d2 (v := bI (d 3 j = nI 3)) 28 (fun K20 => ?_) ?_
    · skip
      refine g_icmp_ne C 27 dL_counted_20 (by decide) (fun h20 => ?_) (fun h20 => ?_)
      · refine g_iconst C (nI 0) (by decide) dL_counted_27 ?_
        exact K20 _ (bI_f h20)
      · refine g_iconst C (nI 1) (by decide) dL_counted_23 ?_
        refine g_goto C 28 dL_counted_24 (by decide) ?_
        exact K20 _ (bI_t h20)
    refine g_istore7 C rfl dL_counted_28 ?_
    refine g_iload0 C dL_counted_30 ?_
    refine g_iconst C (nI 1) (by decide) dL_counted_31 ?_
    refine g_icmp_neN C (by omega) (by omega) 46 dL_counted_32 (by decide) (fun h32 => ?_) (fun h32 => ?_)
    · exact absurd rfl h32
    · refine g_iload5 C dL_counted_35 ?_
      refine g_aload2 C dL_counted_37 ?_
      refine g_iload6 C dL_counted_38 ?_
      refine g_pkS C 2 rfl (c_L_buried hk (by omega)) wl_L_38 wt_L_buried wn_L wc_L_buried (by decide +kernel) ⟨rfl, rfl, by decide, by decide⟩ PKR_bl (PKR_at hK (P_l hP)) rfl rfl (by simp [Value.category]) ⟨by decide, by decide⟩ dL_counted_40 ?_
      have hbu : q_bur d j ≤ 3 := q_cn_le _ 3
      refine g_iaddN C dL_counted_43 ?_
      refine g_istore5 C rfl dL_counted_44 ?_
      refine g_iload0 C dL_counted_46 ?_
      refine g_iconst C (nI 2) (by decide) dL_counted_47 ?_
      refine g_icmp_neN C (by omega) (by omega) 67 dL_counted_48 (by decide) (fun h48 => ?_) (fun h48 => ?_)
      · refine g_iload0 C dL_counted_67 ?_
        refine g_iconst C (nI 3) (by decide) dL_counted_68 ?_
        refine g_icmp_neN C (by omega) (by omega) 96 dL_counted_69 (by decide) (fun h69 => ?_) (fun h69 => ?_)
        · refine g_iload0 C dL_counted_96 ?_
          refine g_iconst C (nI 4) (by decide) dL_counted_97 ?_
          refine g_icmp_neN C (by omega) (by omega) 126 dL_counted_98 (by decide) (fun h98 => ?_) (fun h98 => ?_)
          · refine g_iload0 C dL_counted_126 ?_
            refine g_iconst C (nI 5) (by decide) dL_counted_127 ?_
            refine g_icmp_neN C (by omega) (by omega) 163 dL_counted_128 (by decide) (fun h128 => ?_) (fun h128 => ?_)
            · refine g_iload0 C dL_counted_163 ?_
              refine g_bipush C (nI 6) (by decide) dL_counted_164 ?_
              refine g_icmp_neN C (by omega) (by omega) 188 dL_counted_166 (by decide) (fun h166 => ?_) (fun h166 => ?_)
              · refine g_iinc6 C _ rfl dL_counted_188 (nI_1 _) ?_
                refine g_goto C 6 dL_counted_191 (by decide) ?_
                refine g_fg7 ?_
                exact ih (j + 1) _ ⟨by omega, by rw [hx]; show _ = q_sN _ j + q_cg d (nI yn) (q_wr v) 1 j; simp [q_cg, q_i1, q_i2, q_i3]⟩ (by show 40 - (j + 1) < 40 - j; omega)
              · exact absurd h166 (by decide)
            · exact absurd h128 (by decide)
          · exact absurd h98 (by decide)
        · exact absurd h69 (by decide)
      · exact absurd h48 (by decide)

set_option maxHeartbeats 4000000 in
set_option maxRecDepth 100000 in
theorem c_L_counted2 {l : Launch} {dC : Nat → ClassId} {dI : Nat → Nat → Nat} {cI cL cJ : ClassId} {t : Nat → Nat} {x1 x3 x4 : Nat → Int32} {x2 : Nat → Int64} {d : RW} {yn : Nat} (hk : PKI d yn x1 x2 x3 x4) {w : Nat} {v : Nat → Int32} (hyn : yn < 100000) : Met l yL_counted (.code yL_counted method_20_code 8 (some .int) :: WG) (rmL 3) (va_Pc [.int (nI 2), .ref (t 0), .ref (t 1), .ref (t 3), .ref w] (PKW dC dI cI cL cJ t x1 x2 x3 x4 w v)) (bq_S (.int (q_clw d (nI yn) (q_wr v) 2))) 0 0 (fun _ => False) := by
  refine bq_of [some (.int (nI 2)), some (.ref (t 0)), some (.ref (t 1)), some (.ref (t 3)), some (.ref w), none, none, none] rfl rfl (Nat.le_of_ble_eq_true rfl) (by decide) ?_
  intro P_ E_ s M_ B_ T_ K_ C hv
  obtain ⟨hP, hK⟩ := hv
  have hki := hk.1
  have hkg := hk.2.1
  have hkb := hk.2.2.1
  have hke := hk.2.2.2.1
  have hkf := hk.2.2.2.2
  refine g_iconst C (nI 0) (by decide) dL_counted_0 ?_
  refine g_istore5 C rfl dL_counted_1 ?_
  refine g_iconst C (nI 0) (by decide) dL_counted_3 ?_
  refine g_istore6 C rfl dL_counted_4 ?_
  refine g_lp2 (fun (j : Nat) (x : Nat) => j ≤ 40 ∧ x = q_sN (q_cg d (nI yn) (q_wr v) 2) j) (fun (j : Nat) (x : Nat) => 40 - j) (fun (j : Nat) (x : Nat) => [some (.int (nI 2)), some (.ref (t 0)), some (.ref (t 1)), some (.ref (t 3)), some (.ref w), some (.int (nI x)), some (.int (nI j)), none]) 0 0 ⟨by omega, rfl⟩ rfl ?_
  rintro j x ⟨hj, hx⟩ ih
  try dsimp only at ih ⊢
  refine g_iload6 C dL_counted_6 ?_
  refine g_bipush C (nI 40) (by decide) dL_counted_8 ?_
  refine g_icmp_geN C (by omega) (by omega) 194 dL_counted_10 (by decide) (fun h10 => ?_) (fun h10 => ?_)
  · refine g_iconst C (nI 0) (by decide) dL_counted_194 ?_
    refine g_istore6 C rfl dL_counted_195 ?_
    have e40 : j = 40 := by omega
    subst e40
    refine g_lp2 (fun (f : Nat) (z : Nat) => f ≤ 10 ∧ z = x) (fun (f : Nat) (z : Nat) => 10 - f) (fun (f : Nat) (z : Nat) => [some (.int (nI 2)), some (.ref (t 0)), some (.ref (t 1)), some (.ref (t 3)), some (.ref w), some (.int (nI z)), some (.int (nI f)), none]) 0 x ⟨by omega, rfl⟩ rfl ?_
    rintro f z ⟨hf, hz⟩ ih2
    try dsimp only at ih2 ⊢
    refine g_iload6 C dL_counted_197 ?_
    refine g_bipush C (nI 10) (by decide) dL_counted_199 ?_
    refine g_icmp_geN C (by omega) (by omega) 232 dL_counted_201 (by decide) (fun h201 => ?_) (fun h201 => ?_)
    · refine g_iload0 C dL_counted_232 ?_
      refine g_if_neN C (by omega) 243 dL_counted_233 (by decide) (fun h233 => ?_) (fun h233 => ?_)
      · refine g_iload5 C dL_counted_243 ?_
        exact g_ireti C (by unfold q_clw; rw [if_neg (by decide), if_neg (by decide), hz, hx]) dL_counted_245
      · exact absurd h233 (by decide)
    · refine g_iload5 C dL_counted_204 ?_
      refine g_iload0 C dL_counted_206 ?_
      refine g_bipush C (nI 7) (by decide) dL_counted_207 ?_
      refine g_icmp_neN C (by omega) (by omega) 222 dL_counted_209 (by decide) (fun h209 => ?_) (fun h209 => ?_)
      · refine g_iconst C (nI 0) (by decide) dL_counted_222 ?_
        refine g_iaddN C dL_counted_223 ?_
        refine g_istore5 C rfl dL_counted_224 ?_
        refine g_iinc6 C _ rfl dL_counted_226 (nI_1 _) ?_
        refine g_goto C 197 dL_counted_229 (by decide) ?_
        exact ih2 (f + 1) _ ⟨by omega, by omega⟩ (by show 10 - (f + 1) < 10 - f; omega)
      · exact absurd h209 (by decide)
  · refine g_aload1 C dL_counted_13 ?_
    refine g_iload6 C dL_counted_14 ?_
    refine g_iald C hK hP 0 0 rfl rfl (by omega) (by decide) dL_counted_16 ?_
    refine g_iconst C (nI 3) (by decide) dL_counted_17 ?_
    refine g_iand C dL_counted_18 ?_
    refine g_top (rd_k hkg (by omega)) ?_
    refine g_iconst C (nI 3) (by decide) dL_counted_19 ?_
    refine g_d2 (v := bI (d 3 j = nI 3)) 28 (fun K20 => ?_) ?_
    · skip
      refine g_icmp_ne C 27 dL_counted_20 (by decide) (fun h20 => ?_) (fun h20 => ?_)
      · refine g_iconst C (nI 0) (by decide) dL_counted_27 ?_
        exact K20 _ (bI_f h20)
      · refine g_iconst C (nI 1) (by decide) dL_counted_23 ?_
        refine g_goto C 28 dL_counted_24 (by decide) ?_
        exact K20 _ (bI_t h20)
    refine g_istore7 C rfl dL_counted_28 ?_
    refine g_iload0 C dL_counted_30 ?_
    refine g_iconst C (nI 1) (by decide) dL_counted_31 ?_
    refine g_icmp_neN C (by omega) (by omega) 46 dL_counted_32 (by decide) (fun h32 => ?_) (fun h32 => ?_)
    · refine g_iload0 C dL_counted_46 ?_
      refine g_iconst C (nI 2) (by decide) dL_counted_47 ?_
      refine g_icmp_neN C (by omega) (by omega) 67 dL_counted_48 (by decide) (fun h48 => ?_) (fun h48 => ?_)
      · exact absurd rfl h48
      · refine g_iload5 C dL_counted_51 ?_
        refine g_iload6 C dL_counted_53 ?_
        refine g_aload3 C dL_counted_55 ?_
        refine g_bipush C (nI 30) (by decide) dL_counted_56 ?_
        refine g_iald C hK hP 3 0 rfl rfl (by omega) (by decide) dL_counted_58 ?_
        refine g_top hkf.1 ?_
        refine g_aload1 C dL_counted_59 ?_
        refine g_aload2 C dL_counted_60 ?_
        refine g_pkS C 4 rfl (c_L_fresh hk (by omega) (by omega)) wl_L_53 wt_L_fresh wn_L wc_L_fresh (by decide +kernel) ⟨rfl, rfl, by decide, by decide⟩ PKR_bl (PKR_at hK (P_l hP)) rfl rfl (by simp [Value.category]) ⟨by decide, by decide⟩ dL_counted_61 ?_
        refine g_iaddN C dL_counted_64 ?_
        refine g_istore5 C rfl dL_counted_65 ?_
        refine g_iload0 C dL_counted_67 ?_
        refine g_iconst C (nI 3) (by decide) dL_counted_68 ?_
        refine g_icmp_neN C (by omega) (by omega) 96 dL_counted_69 (by decide) (fun h69 => ?_) (fun h69 => ?_)
        · refine g_iload0 C dL_counted_96 ?_
          refine g_iconst C (nI 4) (by decide) dL_counted_97 ?_
          refine g_icmp_neN C (by omega) (by omega) 126 dL_counted_98 (by decide) (fun h98 => ?_) (fun h98 => ?_)
          · refine g_iload0 C dL_counted_126 ?_
            refine g_iconst C (nI 5) (by decide) dL_counted_127 ?_
            refine g_icmp_neN C (by omega) (by omega) 163 dL_counted_128 (by decide) (fun h128 => ?_) (fun h128 => ?_)
            · refine g_iload0 C dL_counted_163 ?_
              refine g_bipush C (nI 6) (by decide) dL_counted_164 ?_
              refine g_icmp_neN C (by omega) (by omega) 188 dL_counted_166 (by decide) (fun h166 => ?_) (fun h166 => ?_)
              · refine g_iinc6 C _ rfl dL_counted_188 (nI_1 _) ?_
                refine g_goto C 6 dL_counted_191 (by decide) ?_
                refine g_fg7 ?_
                exact ih (j + 1) _ ⟨by omega, by rw [hx]; show _ = q_sN _ j + q_cg d (nI yn) (q_wr v) 2 j; simp [q_cg, q_i1, q_i2, q_i3]⟩ (by show 40 - (j + 1) < 40 - j; omega)
              · exact absurd h166 (by decide)
            · exact absurd h128 (by decide)
          · exact absurd h98 (by decide)
        · exact absurd h69 (by decide)
    · exact absurd h32 (by decide)

set_option maxHeartbeats 4000000 in
set_option maxRecDepth 100000 in
theorem c_L_counted3 {l : Launch} {dC : Nat → ClassId} {dI : Nat → Nat → Nat} {cI cL cJ : ClassId} {t : Nat → Nat} {x1 x3 x4 : Nat → Int32} {x2 : Nat → Int64} {d : RW} {yn : Nat} (hk : PKI d yn x1 x2 x3 x4) {w : Nat} {v : Nat → Int32} (hyn : yn < 100000) : Met l yL_counted (.code yL_counted method_20_code 8 (some .int) :: WG) (rmL 3) (va_Pc [.int (nI 3), .ref (t 0), .ref (t 1), .ref (t 3), .ref w] (PKW dC dI cI cL cJ t x1 x2 x3 x4 w v)) (bq_S (.int (q_clw d (nI yn) (q_wr v) 3))) 0 0 (fun _ => False) := by
  refine bq_of [some (.int (nI 3)), some (.ref (t 0)), some (.ref (t 1)), some (.ref (t 3)), some (.ref w), none, none, none] rfl rfl (Nat.le_of_ble_eq_true rfl) (by decide) ?_
  intro P_ E_ s M_ B_ T_ K_ C hv
  obtain ⟨hP, hK⟩ := hv
  have hki := hk.1
  have hkg := hk.2.1
  have hkb := hk.2.2.1
  have hke := hk.2.2.2.1
  have hkf := hk.2.2.2.2
  refine g_iconst C (nI 0) (by decide) dL_counted_0 ?_
  refine g_istore5 C rfl dL_counted_1 ?_
  refine g_iconst C (nI 0) (by decide) dL_counted_3 ?_
  refine g_istore6 C rfl dL_counted_4 ?_
  refine g_lp2 (fun (j : Nat) (x : Nat) => j ≤ 40 ∧ x = q_sN (q_cg d (nI yn) (q_wr v) 3) j) (fun (j : Nat) (x : Nat) => 40 - j) (fun (j : Nat) (x : Nat) => [some (.int (nI 3)), some (.ref (t 0)), some (.ref (t 1)), some (.ref (t 3)), some (.ref w), some (.int (nI x)), some (.int (nI j)), none]) 0 0 ⟨by omega, rfl⟩ rfl ?_
  rintro j x ⟨hj, hx⟩ ih
  try dsimp only at ih ⊢
  refine g_iload6 C dL_counted_6 ?_
  refine g_bipush C (nI 40) (by decide) dL_counted_8 ?_
  refine g_icmp_geN C (by omega) (by omega) 194 dL_counted_10 (by decide) (fun h10 => ?_) (fun h10 => ?_)
  · refine g_iconst C (nI 0) (by decide) dL_counted_194 ?_
    refine g_istore6 C rfl dL_counted_195 ?_
    have e40 : j = 40 := by omega
    subst e40
    refine g_lp2 (fun (f : Nat) (z : Nat) => f ≤ 10 ∧ z = x) (fun (f : Nat) (z : Nat) => 10 - f) (fun (f : Nat) (z : Nat) => [some (.int (nI 3)), some (.ref (t 0)), some (.ref (t 1)), some (.ref (t 3)), some (.ref w), some (.int (nI z)), some (.int (nI f)), none]) 0 x ⟨by omega, rfl⟩ rfl ?_
    rintro f z ⟨hf, hz⟩ ih2
    try dsimp only at ih2 ⊢
    refine g_iload6 C dL_counted_197 ?_
    refine g_bipush C (nI 10) (by decide) dL_counted_199 ?_
    refine g_icmp_geN C (by omega) (by omega) 232 dL_counted_201 (by decide) (fun h201 => ?_) (fun h201 => ?_)
    · refine g_iload0 C dL_counted_232 ?_
      refine g_if_neN C (by omega) 243 dL_counted_233 (by decide) (fun h233 => ?_) (fun h233 => ?_)
      · refine g_iload5 C dL_counted_243 ?_
        exact g_ireti C (by unfold q_clw; rw [if_neg (by decide), if_neg (by decide), hz, hx]) dL_counted_245
      · exact absurd h233 (by decide)
    · refine g_iload5 C dL_counted_204 ?_
      refine g_iload0 C dL_counted_206 ?_
      refine g_bipush C (nI 7) (by decide) dL_counted_207 ?_
      refine g_icmp_neN C (by omega) (by omega) 222 dL_counted_209 (by decide) (fun h209 => ?_) (fun h209 => ?_)
      · refine g_iconst C (nI 0) (by decide) dL_counted_222 ?_
        refine g_iaddN C dL_counted_223 ?_
        refine g_istore5 C rfl dL_counted_224 ?_
        refine g_iinc6 C _ rfl dL_counted_226 (nI_1 _) ?_
        refine g_goto C 197 dL_counted_229 (by decide) ?_
        exact ih2 (f + 1) _ ⟨by omega, by omega⟩ (by show 10 - (f + 1) < 10 - f; omega)
      · exact absurd h209 (by decide)
  · refine g_aload1 C dL_counted_13 ?_
    refine g_iload6 C dL_counted_14 ?_
    refine g_iald C hK hP 0 0 rfl rfl (by omega) (by decide) dL_counted_16 ?_
    refine g_iconst C (nI 3) (by decide) dL_counted_17 ?_
    refine g_iand C dL_counted_18 ?_
    refine g_top (rd_k hkg (by omega)) ?_
    refine g_iconst C (nI 3) (by decide) dL_counted_19 ?_
    refine g_d2 (v := bI (d 3 j = nI 3)) 28 (fun K20 => ?_) ?_
    · skip
      refine g_icmp_ne C 27 dL_counted_20 (by decide) (fun h20 => ?_) (fun h20 => ?_)
      · refine g_iconst C (nI 0) (by decide) dL_counted_27 ?_
        exact K20 _ (bI_f h20)
      · refine g_iconst C (nI 1) (by decide) dL_counted_23 ?_
        refine g_goto C 28 dL_counted_24 (by decide) ?_
        exact K20 _ (bI_t h20)
    refine g_istore7 C rfl dL_counted_28 ?_
    refine g_iload0 C dL_counted_30 ?_
    refine g_iconst C (nI 1) (by decide) dL_counted_31 ?_
    refine g_icmp_neN C (by omega) (by omega) 46 dL_counted_32 (by decide) (fun h32 => ?_) (fun h32 => ?_)
    · refine g_iload0 C dL_counted_46 ?_
      refine g_iconst C (nI 2) (by decide) dL_counted_47 ?_
      refine g_icmp_neN C (by omega) (by omega) 67 dL_counted_48 (by decide) (fun h48 => ?_) (fun h48 => ?_)
      · refine g_iload0 C dL_counted_67 ?_
        refine g_iconst C (nI 3) (by decide) dL_counted_68 ?_
        refine g_icmp_neN C (by omega) (by omega) 96 dL_counted_69 (by decide) (fun h69 => ?_) (fun h69 => ?_)
        · exact absurd rfl h69
        · refine g_iload5 C dL_counted_72 ?_
          refine g_iload7 C dL_counted_74 ?_
          refine g_d1 (v := nI (if d 3 j ≠ nI 3 ∧ q_bur d j = 0 then 1 else 0)) 93 (fun K76 => ?_) ?_
          · skip
            refine g_if_neB C 92 dL_counted_76 (by decide) (fun h76 => ?_) (fun h76 => ?_)
            · refine g_iconst C (nI 0) (by decide) dL_counted_92 ?_
              exact K76 _ (by rw [if_neg (fun z => z.1 h76)])
            · refine g_aload2 C dL_counted_79 ?_
              refine g_iload6 C dL_counted_80 ?_
              refine g_pkS C 2 rfl (c_L_buried hk (by omega)) wl_L_38 wt_L_buried wn_L wc_L_buried (by decide +kernel) ⟨rfl, rfl, by decide, by decide⟩ PKR_bl (PKR_at hK (P_l hP)) rfl rfl (by simp [Value.category]) ⟨by decide, by decide⟩ dL_counted_82 ?_
              have hbu : q_bur d j ≤ 3 := q_cn_le _ 3
              refine g_if_neN C (by omega) 92 dL_counted_85 (by decide) (fun h85 => ?_) (fun h85 => ?_)
              · refine g_iconst C (nI 0) (by decide) dL_counted_92 ?_
                exact K76 _ (by rw [if_neg (fun z => h85 z.2)])
              · refine g_iconst C (nI 1) (by decide) dL_counted_88 ?_
                refine g_goto C 93 dL_counted_89 (by decide) ?_
                exact K76 _ (by rw [if_pos ⟨h76, h85⟩])
          refine g_iaddN C dL_counted_93 ?_
          refine g_istore5 C rfl dL_counted_94 ?_
          refine g_iload0 C dL_counted_96 ?_
          refine g_iconst C (nI 4) (by decide) dL_counted_97 ?_
          refine g_icmp_neN C (by omega) (by omega) 126 dL_counted_98 (by decide) (fun h98 => ?_) (fun h98 => ?_)
          · refine g_iload0 C dL_counted_126 ?_
            refine g_iconst C (nI 5) (by decide) dL_counted_127 ?_
            refine g_icmp_neN C (by omega) (by omega) 163 dL_counted_128 (by decide) (fun h128 => ?_) (fun h128 => ?_)
            · refine g_iload0 C dL_counted_163 ?_
              refine g_bipush C (nI 6) (by decide) dL_counted_164 ?_
              refine g_icmp_neN C (by omega) (by omega) 188 dL_counted_166 (by decide) (fun h166 => ?_) (fun h166 => ?_)
              · refine g_iinc6 C _ rfl dL_counted_188 (nI_1 _) ?_
                refine g_goto C 6 dL_counted_191 (by decide) ?_
                refine g_fg7 ?_
                exact ih (j + 1) _ ⟨by omega, by rw [hx]; show _ = q_sN _ j + q_cg d (nI yn) (q_wr v) 3 j; simp [q_cg, q_i1, q_i2, q_i3]⟩ (by show 40 - (j + 1) < 40 - j; omega)
              · exact absurd h166 (by decide)
            · exact absurd h128 (by decide)
          · exact absurd h98 (by decide)
      · exact absurd h48 (by decide)
    · exact absurd h32 (by decide)

set_option maxHeartbeats 4000000 in
set_option maxRecDepth 100000 in
theorem c_L_counted4 {l : Launch} {dC : Nat → ClassId} {dI : Nat → Nat → Nat} {cI cL cJ : ClassId} {t : Nat → Nat} {x1 x3 x4 : Nat → Int32} {x2 : Nat → Int64} {d : RW} {yn : Nat} (hk : PKI d yn x1 x2 x3 x4) {w : Nat} {v : Nat → Int32} (hyn : yn < 100000) : Met l yL_counted (.code yL_counted method_20_code 8 (some .int) :: WG) (rmL 3) (va_Pc [.int (nI 4), .ref (t 0), .ref (t 1), .ref (t 3), .ref w] (PKW dC dI cI cL cJ t x1 x2 x3 x4 w v)) (bq_S (.int (q_clw d (nI yn) (q_wr v) 4))) 0 0 (fun _ => False) := by
  refine bq_of [some (.int (nI 4)), some (.ref (t 0)), some (.ref (t 1)), some (.ref (t 3)), some (.ref w), none, none, none] rfl rfl (Nat.le_of_ble_eq_true rfl) (by decide) ?_
  intro P_ E_ s M_ B_ T_ K_ C hv
  obtain ⟨hP, hK⟩ := hv
  have hki := hk.1
  have hkg := hk.2.1
  have hkb := hk.2.2.1
  have hke := hk.2.2.2.1
  have hkf := hk.2.2.2.2
  refine g_iconst C (nI 0) (by decide) dL_counted_0 ?_
  refine g_istore5 C rfl dL_counted_1 ?_
  refine g_iconst C (nI 0) (by decide) dL_counted_3 ?_
  refine g_istore6 C rfl dL_counted_4 ?_
  refine g_lp2 (fun (j : Nat) (x : Nat) => j ≤ 40 ∧ x = q_sN (q_cg d (nI yn) (q_wr v) 4) j) (fun (j : Nat) (x : Nat) => 40 - j) (fun (j : Nat) (x : Nat) => [some (.int (nI 4)), some (.ref (t 0)), some (.ref (t 1)), some (.ref (t 3)), some (.ref w), some (.int (nI x)), some (.int (nI j)), none]) 0 0 ⟨by omega, rfl⟩ rfl ?_
  rintro j x ⟨hj, hx⟩ ih
  try dsimp only at ih ⊢
  refine g_iload6 C dL_counted_6 ?_
  refine g_bipush C (nI 40) (by decide) dL_counted_8 ?_
  refine g_icmp_geN C (by omega) (by omega) 194 dL_counted_10 (by decide) (fun h10 => ?_) (fun h10 => ?_)
  · refine g_iconst C (nI 0) (by decide) dL_counted_194 ?_
    refine g_istore6 C rfl dL_counted_195 ?_
    have e40 : j = 40 := by omega
    subst e40
    refine g_lp2 (fun (f : Nat) (z : Nat) => f ≤ 10 ∧ z = x) (fun (f : Nat) (z : Nat) => 10 - f) (fun (f : Nat) (z : Nat) => [some (.int (nI 4)), some (.ref (t 0)), some (.ref (t 1)), some (.ref (t 3)), some (.ref w), some (.int (nI z)), some (.int (nI f)), none]) 0 x ⟨by omega, rfl⟩ rfl ?_
    rintro f z ⟨hf, hz⟩ ih2
    try dsimp only at ih2 ⊢
    refine g_iload6 C dL_counted_197 ?_
    refine g_bipush C (nI 10) (by decide) dL_counted_199 ?_
    refine g_icmp_geN C (by omega) (by omega) 232 dL_counted_201 (by decide) (fun h201 => ?_) (fun h201 => ?_)
    · refine g_iload0 C dL_counted_232 ?_
      refine g_if_neN C (by omega) 243 dL_counted_233 (by decide) (fun h233 => ?_) (fun h233 => ?_)
      · refine g_iload5 C dL_counted_243 ?_
        exact g_ireti C (by unfold q_clw; rw [if_neg (by decide), if_neg (by decide), hz, hx]) dL_counted_245
      · exact absurd h233 (by decide)
    · refine g_iload5 C dL_counted_204 ?_
      refine g_iload0 C dL_counted_206 ?_
      refine g_bipush C (nI 7) (by decide) dL_counted_207 ?_
      refine g_icmp_neN C (by omega) (by omega) 222 dL_counted_209 (by decide) (fun h209 => ?_) (fun h209 => ?_)
      · refine g_iconst C (nI 0) (by decide) dL_counted_222 ?_
        refine g_iaddN C dL_counted_223 ?_
        refine g_istore5 C rfl dL_counted_224 ?_
        refine g_iinc6 C _ rfl dL_counted_226 (nI_1 _) ?_
        refine g_goto C 197 dL_counted_229 (by decide) ?_
        exact ih2 (f + 1) _ ⟨by omega, by omega⟩ (by show 10 - (f + 1) < 10 - f; omega)
      · exact absurd h209 (by decide)
  · refine g_aload1 C dL_counted_13 ?_
    refine g_iload6 C dL_counted_14 ?_
    refine g_iald C hK hP 0 0 rfl rfl (by omega) (by decide) dL_counted_16 ?_
    refine g_iconst C (nI 3) (by decide) dL_counted_17 ?_
    refine g_iand C dL_counted_18 ?_
    refine g_top (rd_k hkg (by omega)) ?_
    refine g_iconst C (nI 3) (by decide) dL_counted_19 ?_
    refine g_d2 (v := bI (d 3 j = nI 3)) 28 (fun K20 => ?_) ?_
    · skip
      refine g_icmp_ne C 27 dL_counted_20 (by decide) (fun h20 => ?_) (fun h20 => ?_)
      · refine g_iconst C (nI 0) (by decide) dL_counted_27 ?_
        exact K20 _ (bI_f h20)
      · refine g_iconst C (nI 1) (by decide) dL_counted_23 ?_
        refine g_goto C 28 dL_counted_24 (by decide) ?_
        exact K20 _ (bI_t h20)
    refine g_istore7 C rfl dL_counted_28 ?_
    refine g_iload0 C dL_counted_30 ?_
    refine g_iconst C (nI 1) (by decide) dL_counted_31 ?_
    refine g_icmp_neN C (by omega) (by omega) 46 dL_counted_32 (by decide) (fun h32 => ?_) (fun h32 => ?_)
    · refine g_iload0 C dL_counted_46 ?_
      refine g_iconst C (nI 2) (by decide) dL_counted_47 ?_
      refine g_icmp_neN C (by omega) (by omega) 67 dL_counted_48 (by decide) (fun h48 => ?_) (fun h48 => ?_)
      · refine g_iload0 C dL_counted_67 ?_
        refine g_iconst C (nI 3) (by decide) dL_counted_68 ?_
        refine g_icmp_neN C (by omega) (by omega) 96 dL_counted_69 (by decide) (fun h69 => ?_) (fun h69 => ?_)
        · refine g_iload0 C dL_counted_96 ?_
          refine g_iconst C (nI 4) (by decide) dL_counted_97 ?_
          refine g_icmp_neN C (by omega) (by omega) 126 dL_counted_98 (by decide) (fun h98 => ?_) (fun h98 => ?_)
          · exact absurd rfl h98
          · refine g_iload5 C dL_counted_101 ?_
            refine g_iload7 C dL_counted_103 ?_
            refine g_d1 (v := nI (if d 3 j ≠ nI 3 ∧ q_wr v j = false then 1 else 0)) 123 (fun K105 => ?_) ?_
            · skip
              refine g_if_neB C 122 dL_counted_105 (by decide) (fun h105 => ?_) (fun h105 => ?_)
              · refine g_iconst C (nI 0) (by decide) dL_counted_122 ?_
                exact K105 _ (by rw [if_neg (fun z => z.1 h105)])
              · refine g_iload6 C dL_counted_108 ?_
                refine g_aload4 C dL_counted_110 ?_
                refine g_pkS C 2 rfl (c_L_beside (by omega)) wl_L_42 wt_L_beside wn_L wc_L_beside (by decide +kernel) ⟨rfl, rfl, by decide, by decide⟩ PKV_bl (PKV_at hK (P_r hP)) rfl rfl (by simp [Value.category]) ⟨by decide, by decide⟩ dL_counted_112 ?_
                refine g_if_neB C 122 dL_counted_115 (by decide) (fun h115 => ?_) (fun h115 => ?_)
                · refine g_iconst C (nI 0) (by decide) dL_counted_122 ?_
                  exact K105 _ (by rw [if_neg (fun z => absurd (z.2.symm.trans ((wr_by v j).mpr (Or.inr h115))) (by decide))])
                · refine g_iconst C (nI 1) (by decide) dL_counted_118 ?_
                  refine g_goto C 123 dL_counted_119 (by decide) ?_
                  exact K105 _ (by rw [if_pos ⟨h105, wr_f (Nat.pos_of_ne_zero (fun z => h105 (by rw [z]; exact hki.2.2.2.2.2.2.1))) h115⟩])
            refine g_iaddN C dL_counted_123 ?_
            refine g_istore5 C rfl dL_counted_124 ?_
            refine g_iload0 C dL_counted_126 ?_
            refine g_iconst C (nI 5) (by decide) dL_counted_127 ?_
            refine g_icmp_neN C (by omega) (by omega) 163 dL_counted_128 (by decide) (fun h128 => ?_) (fun h128 => ?_)
            · refine g_iload0 C dL_counted_163 ?_
              refine g_bipush C (nI 6) (by decide) dL_counted_164 ?_
              refine g_icmp_neN C (by omega) (by omega) 188 dL_counted_166 (by decide) (fun h166 => ?_) (fun h166 => ?_)
              · refine g_iinc6 C _ rfl dL_counted_188 (nI_1 _) ?_
                refine g_goto C 6 dL_counted_191 (by decide) ?_
                refine g_fg7 ?_
                exact ih (j + 1) _ ⟨by omega, by rw [hx]; show _ = q_sN _ j + q_cg d (nI yn) (q_wr v) 4 j; simp [q_cg, q_i1, q_i2, q_i3]⟩ (by show 40 - (j + 1) < 40 - j; omega)
              · exact absurd h166 (by decide)
            · exact absurd h128 (by decide)
        · exact absurd h69 (by decide)
      · exact absurd h48 (by decide)
    · exact absurd h32 (by decide)

set_option maxHeartbeats 4000000 in
set_option maxRecDepth 100000 in
theorem c_L_counted5 {l : Launch} {dC : Nat → ClassId} {dI : Nat → Nat → Nat} {cI cL cJ : ClassId} {t : Nat → Nat} {x1 x3 x4 : Nat → Int32} {x2 : Nat → Int64} {d : RW} {yn : Nat} (hk : PKI d yn x1 x2 x3 x4) {w : Nat} {v : Nat → Int32} (hyn : yn < 100000) : Met l yL_counted (.code yL_counted method_20_code 8 (some .int) :: WG) (rmL 3) (va_Pc [.int (nI 5), .ref (t 0), .ref (t 1), .ref (t 3), .ref w] (PKW dC dI cI cL cJ t x1 x2 x3 x4 w v)) (bq_S (.int (q_clw d (nI yn) (q_wr v) 5))) 0 0 (fun _ => False) := by
  refine bq_of [some (.int (nI 5)), some (.ref (t 0)), some (.ref (t 1)), some (.ref (t 3)), some (.ref w), none, none, none] rfl rfl (Nat.le_of_ble_eq_true rfl) (by decide) ?_
  intro P_ E_ s M_ B_ T_ K_ C hv
  obtain ⟨hP, hK⟩ := hv
  have hki := hk.1
  have hkg := hk.2.1
  have hkb := hk.2.2.1
  have hke := hk.2.2.2.1
  have hkf := hk.2.2.2.2
  refine g_iconst C (nI 0) (by decide) dL_counted_0 ?_
  refine g_istore5 C rfl dL_counted_1 ?_
  refine g_iconst C (nI 0) (by decide) dL_counted_3 ?_
  refine g_istore6 C rfl dL_counted_4 ?_
  refine g_lp2 (fun (j : Nat) (x : Nat) => j ≤ 40 ∧ x = q_sN (q_cg d (nI yn) (q_wr v) 5) j) (fun (j : Nat) (x : Nat) => 40 - j) (fun (j : Nat) (x : Nat) => [some (.int (nI 5)), some (.ref (t 0)), some (.ref (t 1)), some (.ref (t 3)), some (.ref w), some (.int (nI x)), some (.int (nI j)), none]) 0 0 ⟨by omega, rfl⟩ rfl ?_
  rintro j x ⟨hj, hx⟩ ih
  try dsimp only at ih ⊢
  refine g_iload6 C dL_counted_6 ?_
  refine g_bipush C (nI 40) (by decide) dL_counted_8 ?_
  refine g_icmp_geN C (by omega) (by omega) 194 dL_counted_10 (by decide) (fun h10 => ?_) (fun h10 => ?_)
  · refine g_iconst C (nI 0) (by decide) dL_counted_194 ?_
    refine g_istore6 C rfl dL_counted_195 ?_
    have e40 : j = 40 := by omega
    subst e40
    refine g_lp2 (fun (f : Nat) (z : Nat) => f ≤ 10 ∧ z = x) (fun (f : Nat) (z : Nat) => 10 - f) (fun (f : Nat) (z : Nat) => [some (.int (nI 5)), some (.ref (t 0)), some (.ref (t 1)), some (.ref (t 3)), some (.ref w), some (.int (nI z)), some (.int (nI f)), none]) 0 x ⟨by omega, rfl⟩ rfl ?_
    rintro f z ⟨hf, hz⟩ ih2
    try dsimp only at ih2 ⊢
    refine g_iload6 C dL_counted_197 ?_
    refine g_bipush C (nI 10) (by decide) dL_counted_199 ?_
    refine g_icmp_geN C (by omega) (by omega) 232 dL_counted_201 (by decide) (fun h201 => ?_) (fun h201 => ?_)
    · refine g_iload0 C dL_counted_232 ?_
      refine g_if_neN C (by omega) 243 dL_counted_233 (by decide) (fun h233 => ?_) (fun h233 => ?_)
      · refine g_iload5 C dL_counted_243 ?_
        exact g_ireti C (by unfold q_clw; rw [if_neg (by decide), if_neg (by decide), hz, hx]) dL_counted_245
      · exact absurd h233 (by decide)
    · refine g_iload5 C dL_counted_204 ?_
      refine g_iload0 C dL_counted_206 ?_
      refine g_bipush C (nI 7) (by decide) dL_counted_207 ?_
      refine g_icmp_neN C (by omega) (by omega) 222 dL_counted_209 (by decide) (fun h209 => ?_) (fun h209 => ?_)
      · refine g_iconst C (nI 0) (by decide) dL_counted_222 ?_
        refine g_iaddN C dL_counted_223 ?_
        refine g_istore5 C rfl dL_counted_224 ?_
        refine g_iinc6 C _ rfl dL_counted_226 (nI_1 _) ?_
        refine g_goto C 197 dL_counted_229 (by decide) ?_
        exact ih2 (f + 1) _ ⟨by omega, by omega⟩ (by show 10 - (f + 1) < 10 - f; omega)
      · exact absurd h209 (by decide)
  · refine g_aload1 C dL_counted_13 ?_
    refine g_iload6 C dL_counted_14 ?_
    refine g_iald C hK hP 0 0 rfl rfl (by omega) (by decide) dL_counted_16 ?_
    refine g_iconst C (nI 3) (by decide) dL_counted_17 ?_
    refine g_iand C dL_counted_18 ?_
    refine g_top (rd_k hkg (by omega)) ?_
    refine g_iconst C (nI 3) (by decide) dL_counted_19 ?_
    refine g_d2 (v := bI (d 3 j = nI 3)) 28 (fun K20 => ?_) ?_
    · skip
      refine g_icmp_ne C 27 dL_counted_20 (by decide) (fun h20 => ?_) (fun h20 => ?_)
      · refine g_iconst C (nI 0) (by decide) dL_counted_27 ?_
        exact K20 _ (bI_f h20)
      · refine g_iconst C (nI 1) (by decide) dL_counted_23 ?_
        refine g_goto C 28 dL_counted_24 (by decide) ?_
        exact K20 _ (bI_t h20)
    refine g_istore7 C rfl dL_counted_28 ?_
    refine g_iload0 C dL_counted_30 ?_
    refine g_iconst C (nI 1) (by decide) dL_counted_31 ?_
    refine g_icmp_neN C (by omega) (by omega) 46 dL_counted_32 (by decide) (fun h32 => ?_) (fun h32 => ?_)
    · refine g_iload0 C dL_counted_46 ?_
      refine g_iconst C (nI 2) (by decide) dL_counted_47 ?_
      refine g_icmp_neN C (by omega) (by omega) 67 dL_counted_48 (by decide) (fun h48 => ?_) (fun h48 => ?_)
      · refine g_iload0 C dL_counted_67 ?_
        refine g_iconst C (nI 3) (by decide) dL_counted_68 ?_
        refine g_icmp_neN C (by omega) (by omega) 96 dL_counted_69 (by decide) (fun h69 => ?_) (fun h69 => ?_)
        · refine g_iload0 C dL_counted_96 ?_
          refine g_iconst C (nI 4) (by decide) dL_counted_97 ?_
          refine g_icmp_neN C (by omega) (by omega) 126 dL_counted_98 (by decide) (fun h98 => ?_) (fun h98 => ?_)
          · refine g_iload0 C dL_counted_126 ?_
            refine g_iconst C (nI 5) (by decide) dL_counted_127 ?_
            refine g_icmp_neN C (by omega) (by omega) 163 dL_counted_128 (by decide) (fun h128 => ?_) (fun h128 => ?_)
            · exact absurd rfl h128
            · refine g_iload5 C dL_counted_131 ?_
              refine g_aload1 C dL_counted_133 ?_
              refine g_iload6 C dL_counted_134 ?_
              refine g_pkS C 2 rfl (c_L_keeps hk (by omega)) wl_L_8 wt_L_keeps wn_L wc_L_keeps (by decide +kernel) ⟨rfl, rfl, by decide, by decide⟩ PKR_bl (PKR_at hK (P_l hP)) rfl rfl (by simp [Value.category]) ⟨by decide, by decide⟩ dL_counted_136 ?_
              refine g_d1 (v := nI (if q_kept d (nI yn) j then 1 else 0)) 160 (fun K139 => ?_) ?_
              · skip
                refine g_if_lt C 159 dL_counted_139 (by decide) (fun h139 => ?_) (fun h139 => ?_)
                · refine g_iconst C (nI 0) (by decide) dL_counted_159 ?_
                  exact K139 _ (by rw [if_neg (fun z => z.1 ((sgn2 (rd_5s hkg (by omega))).mp h139))])
                · refine g_aload1 C dL_counted_142 ?_
                  refine g_iload6 C dL_counted_143 ?_
                  refine g_pkS C 2 rfl (c_L_upto hk (by omega)) wl_L_32 wt_L_upto wn_L wc_L_upto (by decide +kernel) ⟨rfl, rfl, by decide, by decide⟩ PKR_bl (PKR_at hK (P_l hP)) rfl rfl (by simp [Value.category]) ⟨by decide, by decide⟩ dL_counted_145 ?_
                  refine g_aload3 C dL_counted_148 ?_
                  refine g_bipush C (nI 30) (by decide) dL_counted_149 ?_
                  refine g_iald C hK hP 3 0 rfl rfl (by omega) (by decide) dL_counted_151 ?_
                  refine g_top hkf.1 ?_
                  refine g_icmp_lt C 159 dL_counted_152 (by decide) (fun h152 => ?_) (fun h152 => ?_)
                  · refine g_iconst C (nI 0) (by decide) dL_counted_159 ?_
                    exact K139 _ (by rw [if_neg (fun z => absurd z.2 (Int32.not_le.mpr h152))])
                  · refine g_iconst C (nI 1) (by decide) dL_counted_155 ?_
                    refine g_goto C 160 dL_counted_156 (by decide) ?_
                    exact K139 _ (by rw [if_pos ⟨fun z => h139 ((sgn2 (rd_5s hkg (by omega))).mpr z), Int32.not_lt.mp h152⟩])
              refine g_iaddN C dL_counted_160 ?_
              refine g_istore5 C rfl dL_counted_161 ?_
              refine g_iload0 C dL_counted_163 ?_
              refine g_bipush C (nI 6) (by decide) dL_counted_164 ?_
              refine g_icmp_neN C (by omega) (by omega) 188 dL_counted_166 (by decide) (fun h166 => ?_) (fun h166 => ?_)
              · refine g_iinc6 C _ rfl dL_counted_188 (nI_1 _) ?_
                refine g_goto C 6 dL_counted_191 (by decide) ?_
                refine g_fg7 ?_
                exact ih (j + 1) _ ⟨by omega, by rw [hx]; show _ = q_sN _ j + q_cg d (nI yn) (q_wr v) 5 j; simp [q_cg, q_i1, q_i2, q_i3]⟩ (by show 40 - (j + 1) < 40 - j; omega)
              · exact absurd h166 (by decide)
          · exact absurd h98 (by decide)
        · exact absurd h69 (by decide)
      · exact absurd h48 (by decide)
    · exact absurd h32 (by decide)

set_option maxHeartbeats 4000000 in
set_option maxRecDepth 100000 in
theorem c_L_counted6 {l : Launch} {dC : Nat → ClassId} {dI : Nat → Nat → Nat} {cI cL cJ : ClassId} {t : Nat → Nat} {x1 x3 x4 : Nat → Int32} {x2 : Nat → Int64} {d : RW} {yn : Nat} (hk : PKI d yn x1 x2 x3 x4) {w : Nat} {v : Nat → Int32} (hyn : yn < 100000) : Met l yL_counted (.code yL_counted method_20_code 8 (some .int) :: WG) (rmL 3) (va_Pc [.int (nI 6), .ref (t 0), .ref (t 1), .ref (t 3), .ref w] (PKW dC dI cI cL cJ t x1 x2 x3 x4 w v)) (bq_S (.int (q_clw d (nI yn) (q_wr v) 6))) 0 0 (fun _ => False) := by
  refine bq_of [some (.int (nI 6)), some (.ref (t 0)), some (.ref (t 1)), some (.ref (t 3)), some (.ref w), none, none, none] rfl rfl (Nat.le_of_ble_eq_true rfl) (by decide) ?_
  intro P_ E_ s M_ B_ T_ K_ C hv
  obtain ⟨hP, hK⟩ := hv
  have hki := hk.1
  have hkg := hk.2.1
  have hkb := hk.2.2.1
  have hke := hk.2.2.2.1
  have hkf := hk.2.2.2.2
  refine g_iconst C (nI 0) (by decide) dL_counted_0 ?_
  refine g_istore5 C rfl dL_counted_1 ?_
  refine g_iconst C (nI 0) (by decide) dL_counted_3 ?_
  refine g_istore6 C rfl dL_counted_4 ?_
  refine g_lp2 (fun (j : Nat) (x : Nat) => j ≤ 40 ∧ x = q_sN (q_cg d (nI yn) (q_wr v) 6) j) (fun (j : Nat) (x : Nat) => 40 - j) (fun (j : Nat) (x : Nat) => [some (.int (nI 6)), some (.ref (t 0)), some (.ref (t 1)), some (.ref (t 3)), some (.ref w), some (.int (nI x)), some (.int (nI j)), none]) 0 0 ⟨by omega, rfl⟩ rfl ?_
  rintro j x ⟨hj, hx⟩ ih
  try dsimp only at ih ⊢
  refine g_iload6 C dL_counted_6 ?_
  refine g_bipush C (nI 40) (by decide) dL_counted_8 ?_
  refine g_icmp_geN C (by omega) (by omega) 194 dL_counted_10 (by decide) (fun h10 => ?_) (fun h10 => ?_)
  · refine g_iconst C (nI 0) (by decide) dL_counted_194 ?_
    refine g_istore6 C rfl dL_counted_195 ?_
    have e40 : j = 40 := by omega
    subst e40
    refine g_lp2 (fun (f : Nat) (z : Nat) => f ≤ 10 ∧ z = x) (fun (f : Nat) (z : Nat) => 10 - f) (fun (f : Nat) (z : Nat) => [some (.int (nI 6)), some (.ref (t 0)), some (.ref (t 1)), some (.ref (t 3)), some (.ref w), some (.int (nI z)), some (.int (nI f)), none]) 0 x ⟨by omega, rfl⟩ rfl ?_
    rintro f z ⟨hf, hz⟩ ih2
    try dsimp only at ih2 ⊢
    refine g_iload6 C dL_counted_197 ?_
    refine g_bipush C (nI 10) (by decide) dL_counted_199 ?_
    refine g_icmp_geN C (by omega) (by omega) 232 dL_counted_201 (by decide) (fun h201 => ?_) (fun h201 => ?_)
    · refine g_iload0 C dL_counted_232 ?_
      refine g_if_neN C (by omega) 243 dL_counted_233 (by decide) (fun h233 => ?_) (fun h233 => ?_)
      · refine g_iload5 C dL_counted_243 ?_
        exact g_ireti C (by unfold q_clw; rw [if_neg (by decide), if_neg (by decide), hz, hx]) dL_counted_245
      · exact absurd h233 (by decide)
    · refine g_iload5 C dL_counted_204 ?_
      refine g_iload0 C dL_counted_206 ?_
      refine g_bipush C (nI 7) (by decide) dL_counted_207 ?_
      refine g_icmp_neN C (by omega) (by omega) 222 dL_counted_209 (by decide) (fun h209 => ?_) (fun h209 => ?_)
      · refine g_iconst C (nI 0) (by decide) dL_counted_222 ?_
        refine g_iaddN C dL_counted_223 ?_
        refine g_istore5 C rfl dL_counted_224 ?_
        refine g_iinc6 C _ rfl dL_counted_226 (nI_1 _) ?_
        refine g_goto C 197 dL_counted_229 (by decide) ?_
        exact ih2 (f + 1) _ ⟨by omega, by omega⟩ (by show 10 - (f + 1) < 10 - f; omega)
      · exact absurd h209 (by decide)
  · refine g_aload1 C dL_counted_13 ?_
    refine g_iload6 C dL_counted_14 ?_
    refine g_iald C hK hP 0 0 rfl rfl (by omega) (by decide) dL_counted_16 ?_
    refine g_iconst C (nI 3) (by decide) dL_counted_17 ?_
    refine g_iand C dL_counted_18 ?_
    refine g_top (rd_k hkg (by omega)) ?_
    refine g_iconst C (nI 3) (by decide) dL_counted_19 ?_
    refine g_d2 (v := bI (d 3 j = nI 3)) 28 (fun K20 => ?_) ?_
    · skip
      refine g_icmp_ne C 27 dL_counted_20 (by decide) (fun h20 => ?_) (fun h20 => ?_)
      · refine g_iconst C (nI 0) (by decide) dL_counted_27 ?_
        exact K20 _ (bI_f h20)
      · refine g_iconst C (nI 1) (by decide) dL_counted_23 ?_
        refine g_goto C 28 dL_counted_24 (by decide) ?_
        exact K20 _ (bI_t h20)
    refine g_istore7 C rfl dL_counted_28 ?_
    refine g_iload0 C dL_counted_30 ?_
    refine g_iconst C (nI 1) (by decide) dL_counted_31 ?_
    refine g_icmp_neN C (by omega) (by omega) 46 dL_counted_32 (by decide) (fun h32 => ?_) (fun h32 => ?_)
    · refine g_iload0 C dL_counted_46 ?_
      refine g_iconst C (nI 2) (by decide) dL_counted_47 ?_
      refine g_icmp_neN C (by omega) (by omega) 67 dL_counted_48 (by decide) (fun h48 => ?_) (fun h48 => ?_)
      · refine g_iload0 C dL_counted_67 ?_
        refine g_iconst C (nI 3) (by decide) dL_counted_68 ?_
        refine g_icmp_neN C (by omega) (by omega) 96 dL_counted_69 (by decide) (fun h69 => ?_) (fun h69 => ?_)
        · refine g_iload0 C dL_counted_96 ?_
          refine g_iconst C (nI 4) (by decide) dL_counted_97 ?_
          refine g_icmp_neN C (by omega) (by omega) 126 dL_counted_98 (by decide) (fun h98 => ?_) (fun h98 => ?_)
          · refine g_iload0 C dL_counted_126 ?_
            refine g_iconst C (nI 5) (by decide) dL_counted_127 ?_
            refine g_icmp_neN C (by omega) (by omega) 163 dL_counted_128 (by decide) (fun h128 => ?_) (fun h128 => ?_)
            · refine g_iload0 C dL_counted_163 ?_
              refine g_bipush C (nI 6) (by decide) dL_counted_164 ?_
              refine g_icmp_neN C (by omega) (by omega) 188 dL_counted_166 (by decide) (fun h166 => ?_) (fun h166 => ?_)
              · exact absurd rfl h166
              · refine g_iload5 C dL_counted_169 ?_
                refine g_aload1 C dL_counted_171 ?_
                refine g_iload6 C dL_counted_172 ?_
                refine g_pkS C 2 rfl (c_L_vault hk (by omega)) wl_L_35 wt_L_vault wn_L wc_L_vault (by decide +kernel) ⟨rfl, rfl, by decide, by decide⟩ PKR_bl (PKR_at hK (P_l hP)) rfl rfl (by simp [Value.category]) ⟨by decide, by decide⟩ dL_counted_174 ?_
                refine g_d1 (v := nI (if d 4 j ≠ -1 then 1 else 0)) 185 (fun K177 => ?_) ?_
                · skip
                  refine g_if_lt C 184 dL_counted_177 (by decide) (fun h177 => ?_) (fun h177 => ?_)
                  · refine g_iconst C (nI 0) (by decide) dL_counted_184 ?_
                    exact K177 _ (by rw [if_neg (fun z => z ((sgn2 (rd_4 hkg (by omega))).mp h177))])
                  · refine g_iconst C (nI 1) (by decide) dL_counted_180 ?_
                    refine g_goto C 185 dL_counted_181 (by decide) ?_
                    exact K177 _ (by rw [if_pos (fun z => h177 ((sgn2 (rd_4 hkg (by omega))).mpr z))])
                refine g_iaddN C dL_counted_185 ?_
                refine g_istore5 C rfl dL_counted_186 ?_
                refine g_iinc6 C _ rfl dL_counted_188 (nI_1 _) ?_
                refine g_goto C 6 dL_counted_191 (by decide) ?_
                refine g_fg7 ?_
                exact ih (j + 1) _ ⟨by omega, by rw [hx]; show _ = q_sN _ j + q_cg d (nI yn) (q_wr v) 6 j; simp [q_cg, q_i1, q_i2, q_i3]⟩ (by show 40 - (j + 1) < 40 - j; omega)
            · exact absurd h128 (by decide)
          · exact absurd h98 (by decide)
        · exact absurd h69 (by decide)
      · exact absurd h48 (by decide)
    · exact absurd h32 (by decide)

set_option maxHeartbeats 4000000 in
set_option maxRecDepth 100000 in
theorem c_L_counted7 {l : Launch} {dC : Nat → ClassId} {dI : Nat → Nat → Nat} {cI cL cJ : ClassId} {t : Nat → Nat} {x1 x3 x4 : Nat → Int32} {x2 : Nat → Int64} {d : RW} {yn : Nat} (hk : PKI d yn x1 x2 x3 x4) {w : Nat} {v : Nat → Int32} (hyn : yn < 100000) : Met l yL_counted (.code yL_counted method_20_code 8 (some .int) :: WG) (rmL 3) (va_Pc [.int (nI 7), .ref (t 0), .ref (t 1), .ref (t 3), .ref w] (PKW dC dI cI cL cJ t x1 x2 x3 x4 w v)) (bq_S (.int (q_clw d (nI yn) (q_wr v) 7))) 0 0 (fun _ => False) := by
  refine bq_of [some (.int (nI 7)), some (.ref (t 0)), some (.ref (t 1)), some (.ref (t 3)), some (.ref w), none, none, none] rfl rfl (Nat.le_of_ble_eq_true rfl) (by decide) ?_
  intro P_ E_ s M_ B_ T_ K_ C hv
  obtain ⟨hP, hK⟩ := hv
  have hki := hk.1
  have hkg := hk.2.1
  have hkb := hk.2.2.1
  have hke := hk.2.2.2.1
  have hkf := hk.2.2.2.2
  refine g_iconst C (nI 0) (by decide) dL_counted_0 ?_
  refine g_istore5 C rfl dL_counted_1 ?_
  refine g_iconst C (nI 0) (by decide) dL_counted_3 ?_
  refine g_istore6 C rfl dL_counted_4 ?_
  refine g_lp2 (fun (j : Nat) (x : Nat) => j ≤ 40 ∧ x = 0) (fun (j : Nat) (x : Nat) => 40 - j) (fun (j : Nat) (x : Nat) => [some (.int (nI 7)), some (.ref (t 0)), some (.ref (t 1)), some (.ref (t 3)), some (.ref w), some (.int (nI x)), some (.int (nI j)), none]) 0 0 ⟨by omega, rfl⟩ rfl ?_
  rintro j x ⟨hj, hx⟩ ih
  try dsimp only at ih ⊢
  refine g_iload6 C dL_counted_6 ?_
  refine g_bipush C (nI 40) (by decide) dL_counted_8 ?_
  refine g_icmp_geN C (by omega) (by omega) 194 dL_counted_10 (by decide) (fun h10 => ?_) (fun h10 => ?_)
  · refine g_iconst C (nI 0) (by decide) dL_counted_194 ?_
    refine g_istore6 C rfl dL_counted_195 ?_
    have e40 : j = 40 := by omega
    subst e40
    subst hx
    refine g_lp2 (fun (f : Nat) (z : Int32) => f ≤ 10 ∧ z = q_sI (fun f => d 1 f) f) (fun (f : Nat) (z : Int32) => 10 - f) (fun (f : Nat) (z : Int32) => [some (.int (nI 7)), some (.ref (t 0)), some (.ref (t 1)), some (.ref (t 3)), some (.ref w), some (.int z), some (.int (nI f)), none]) 0 (nI 0) ⟨by omega, rfl⟩ rfl ?_
    rintro f z ⟨hf, hz⟩ ih2
    try dsimp only at ih2 ⊢
    refine g_iload6 C dL_counted_197 ?_
    refine g_bipush C (nI 10) (by decide) dL_counted_199 ?_
    refine g_icmp_geN C (by omega) (by omega) 232 dL_counted_201 (by decide) (fun h201 => ?_) (fun h201 => ?_)
    · refine g_iload0 C dL_counted_232 ?_
      refine g_if_neN C (by omega) 243 dL_counted_233 (by decide) (fun h233 => ?_) (fun h233 => ?_)
      · refine g_iload5 C dL_counted_243 ?_
        exact g_ireti C (by unfold q_clw; rw [if_neg (by decide), if_pos rfl, hz, show f = 10 by omega]) dL_counted_245
      · exact absurd h233 (by decide)
    · refine g_iload5 C dL_counted_204 ?_
      refine g_iload0 C dL_counted_206 ?_
      refine g_bipush C (nI 7) (by decide) dL_counted_207 ?_
      refine g_icmp_neN C (by omega) (by omega) 222 dL_counted_209 (by decide) (fun h209 => ?_) (fun h209 => ?_)
      · exact absurd rfl h209
      · refine g_aload3 C dL_counted_212 ?_
        refine g_bipush C (nI 10) (by decide) dL_counted_213 ?_
        refine g_iload6 C dL_counted_215 ?_
        refine g_iaddN C dL_counted_217 ?_
        refine g_iald C hK hP 3 0 rfl rfl (by omega) (by decide) dL_counted_218 ?_
        refine g_top ((hkf.2 f (by omega)).2.1) ?_
        refine g_goto C 223 dL_counted_219 (by decide) ?_
        refine g_iadd C dL_counted_223 ?_
        refine g_istore5 C rfl dL_counted_224 ?_
        refine g_iinc6 C _ rfl dL_counted_226 (nI_1 _) ?_
        refine g_goto C 197 dL_counted_229 (by decide) ?_
        exact ih2 (f + 1) _ ⟨by omega, by rw [hz]; rfl⟩ (by show 10 - (f + 1) < 10 - f; omega)
  · refine g_aload1 C dL_counted_13 ?_
    refine g_iload6 C dL_counted_14 ?_
    refine g_iald C hK hP 0 0 rfl rfl (by omega) (by decide) dL_counted_16 ?_
    refine g_iconst C (nI 3) (by decide) dL_counted_17 ?_
    refine g_iand C dL_counted_18 ?_
    refine g_top (rd_k hkg (by omega)) ?_
    refine g_iconst C (nI 3) (by decide) dL_counted_19 ?_
    refine g_d2 (v := bI (d 3 j = nI 3)) 28 (fun K20 => ?_) ?_
    · skip
      refine g_icmp_ne C 27 dL_counted_20 (by decide) (fun h20 => ?_) (fun h20 => ?_)
      · refine g_iconst C (nI 0) (by decide) dL_counted_27 ?_
        exact K20 _ (bI_f h20)
      · refine g_iconst C (nI 1) (by decide) dL_counted_23 ?_
        refine g_goto C 28 dL_counted_24 (by decide) ?_
        exact K20 _ (bI_t h20)
    refine g_istore7 C rfl dL_counted_28 ?_
    refine g_iload0 C dL_counted_30 ?_
    refine g_iconst C (nI 1) (by decide) dL_counted_31 ?_
    refine g_icmp_neN C (by omega) (by omega) 46 dL_counted_32 (by decide) (fun h32 => ?_) (fun h32 => ?_)
    · refine g_iload0 C dL_counted_46 ?_
      refine g_iconst C (nI 2) (by decide) dL_counted_47 ?_
      refine g_icmp_neN C (by omega) (by omega) 67 dL_counted_48 (by decide) (fun h48 => ?_) (fun h48 => ?_)
      · refine g_iload0 C dL_counted_67 ?_
        refine g_iconst C (nI 3) (by decide) dL_counted_68 ?_
        refine g_icmp_neN C (by omega) (by omega) 96 dL_counted_69 (by decide) (fun h69 => ?_) (fun h69 => ?_)
        · refine g_iload0 C dL_counted_96 ?_
          refine g_iconst C (nI 4) (by decide) dL_counted_97 ?_
          refine g_icmp_neN C (by omega) (by omega) 126 dL_counted_98 (by decide) (fun h98 => ?_) (fun h98 => ?_)
          · refine g_iload0 C dL_counted_126 ?_
            refine g_iconst C (nI 5) (by decide) dL_counted_127 ?_
            refine g_icmp_neN C (by omega) (by omega) 163 dL_counted_128 (by decide) (fun h128 => ?_) (fun h128 => ?_)
            · refine g_iload0 C dL_counted_163 ?_
              refine g_bipush C (nI 6) (by decide) dL_counted_164 ?_
              refine g_icmp_neN C (by omega) (by omega) 188 dL_counted_166 (by decide) (fun h166 => ?_) (fun h166 => ?_)
              · refine g_iinc6 C _ rfl dL_counted_188 (nI_1 _) ?_
                refine g_goto C 6 dL_counted_191 (by decide) ?_
                refine g_fg7 ?_
                exact ih (j + 1) _ ⟨by omega, hx⟩ (by show 40 - (j + 1) < 40 - j; omega)
              · exact absurd h166 (by decide)
            · exact absurd h128 (by decide)
          · exact absurd h98 (by decide)
        · exact absurd h69 (by decide)
      · exact absurd h48 (by decide)
    · exact absurd h32 (by decide)

theorem c_L_counted {l : Launch} {dC : Nat → ClassId} {dI : Nat → Nat → Nat} {cI cL cJ : ClassId} {t : Nat → Nat} {x1 x3 x4 : Nat → Int32} {x2 : Nat → Int64} {d : RW} {yn : Nat} (hk : PKI d yn x1 x2 x3 x4) {w : Nat} {v : Nat → Int32} (hyn : yn < 100000) {what : Nat} (hw : what ≤ 7) : Met l yL_counted (.code yL_counted method_20_code 8 (some .int) :: WG) (rmL 3) (va_Pc [.int (nI what), .ref (t 0), .ref (t 1), .ref (t 3), .ref w] (PKW dC dI cI cL cJ t x1 x2 x3 x4 w v)) (bq_S (.int (q_clw d (nI yn) (q_wr v) what))) 0 0 (fun _ => False) := by
  rcases (show what = 0 ∨ what = 1 ∨ what = 2 ∨ what = 3 ∨ what = 4 ∨ what = 5 ∨ what = 6 ∨ what = 7 by omega) with rfl | rfl | rfl | rfl | rfl | rfl | rfl | rfl
  · exact c_L_counted0 hk hyn
  · exact c_L_counted1 hk hyn
  · exact c_L_counted2 hk hyn
  · exact c_L_counted3 hk hyn
  · exact c_L_counted4 hk hyn
  · exact c_L_counted5 hk hyn
  · exact c_L_counted6 hk hyn
  · exact c_L_counted7 hk hyn
