set_option maxHeartbeats 4000000 in
set_option maxRecDepth 100000 in
theorem c_L_spread {l : Launch} {dC : Nat → ClassId} {dI : Nat → Nat → Nat} {cI cL cJ : ClassId} {t : Nat → Nat} {x1 x3 x4 : Nat → Int32} {x2 : Nat → Int64} {d : RW} {yn : Nat} (hk : PKI d yn x1 x2 x3 x4) {w : Nat} {v : Nat → Int32} {b : Int32} : Met l yL_spread (.code yL_spread method_15_code 6 none :: WG) (rmL 2) (va_Pc [.int b, .ref (t 0), .ref (t 1), .ref w] (SPM dC dI cI cL cJ t x1 x2 x3 x4 w v)) (bq_M none (fun H => ∃ v2 : Nat → Int32, va_P (dC, dI) vwCl (PW cI cJ t x1 x2 x3 x4 ++ [WY cI w v2]) H ∧ ∀ p, p < 40 → (v2 p = nI 1 ↔ q_rn (q_op d b) 40 p)) (fun q => q ∈ SPA t w)) 0 0 ((fun q => q ∈ SPA t w)) := by
  refine bq_of [some (.int b), some (.ref (t 0)), some (.ref (t 1)), some (.ref w), none, none] rfl rfl (Nat.le_of_ble_eq_true rfl) (by decide) ?_
  intro P_ E_ s M_ B_ T_ K_ C hv
  obtain ⟨hP, hD, hK⟩ := hv
  have hS : va_S (fun q => q ∈ SPA t w) s.heap s.heap [] := va_S.rf
  have hki := hk.1
  have hkg := hk.2.1
  have hkb := hk.2.2.1
  have hke := hk.2.2.2.1
  have hkf := hk.2.2.2.2
  refine g_iconst C (nI 0) (by decide) dL_spread_0 ?_
  refine g_istore4 C rfl dL_spread_1 ?_
  refine g_lpH (A1 := Nat × (Nat → Int32)) (fun a H locs => a.1 ≤ 40 ∧ (∀ p, p < a.1 → a.2 p = nI 0) ∧ va_P (dC, dI) vwCl (PW cI cJ t x1 x2 x3 x4 ++ [WY cI w a.2]) H ∧ va_D (fun q => q ∈ SPA t w) (PW cI cJ t x1 x2 x3 x4 ++ [WY cI w a.2]) ∧ va_S (fun q => q ∈ SPA t w) s.heap H locs) (fun a => 40 - a.1) (fun a => [some (.int b), some (.ref (t 0)), some (.ref (t 1)), some (.ref w), some (.int (nI a.1)), none]) (0, v) ⟨by omega, fun p hp => absurd hp (Nat.not_lt_zero p), hP, hD, hS⟩ rfl ?_
  rintro ⟨j, v⟩ H locs ⟨hj, hz, hP, hD, hS⟩ ih
  try dsimp only at hj hz hP hD hS ih ⊢
  refine g_iload4 C dL_spread_3 ?_
  refine g_bipush C (nI 40) (by decide) dL_spread_5 ?_
  refine g_icmp_geN C (by omega) (by omega) 21 dL_spread_7 (by decide) (fun h7 => ?_) (fun h7 => ?_)
  · refine g_iload0 C dL_spread_21 ?_
    refine g_if_ne C 26 dL_spread_22 (by decide) (fun h22 => ?_) (fun h22 => ?_)
    · refine g_aload3 C dL_spread_26 ?_
      refine g_iconst C (nI 0) (by decide) dL_spread_27 ?_
      refine g_iconst C (nI 1) (by decide) dL_spread_28 ?_
      refine g_iast C hK hP hD hS 4 0 rfl rfl (by omega) (by decide) dL_spread_29 (fun H locs hP hD hS => ?_)
      have hP : va_P (dC, dI) vwCl (PW cI cJ t x1 x2 x3 x4 ++ [WY cI w (upd v 0 (nI 1))]) H := hP
      have hD : va_D (fun q => q ∈ SPA t w) (PW cI cJ t x1 x2 x3 x4 ++ [WY cI w (upd v 0 (nI 1))]) := hD
      refine g_iconst C (nI 1) (by decide) dL_spread_30 ?_
      refine g_istore4 C rfl dL_spread_31 ?_
      have hsp := sp_0 hki h22 (fun p hp => hz p (by omega))
      refine g_lpH (A1 := Nat × (Nat → Int32)) (fun a H locs => SPO d b a.1 a.2 ∧ va_P (dC, dI) vwCl (PW cI cJ t x1 x2 x3 x4 ++ [WY cI w a.2]) H ∧ va_D (fun q => q ∈ SPA t w) (PW cI cJ t x1 x2 x3 x4 ++ [WY cI w a.2]) ∧ va_S (fun q => q ∈ SPA t w) s.heap H locs) (fun a => a.1 + (40 - q_on a.2)) (fun a => [some (.int b), some (.ref (t 0)), some (.ref (t 1)), some (.ref w), some (.int (nI a.1)), none]) (1, upd v 0 (nI 1)) ⟨hsp, hP, hD, hS⟩ rfl ?_
      clear hsp ih hz hj h7
      rintro ⟨g, v⟩ H locs ⟨ho, hP, hD, hS⟩ ih
      try dsimp only at ho hP hD hS ih ⊢
      have hg1 := ho.1
      refine g_iload4 C dL_spread_33 ?_
      refine g_if_eqN C (by omega) 113 dL_spread_35 (by decide) (fun h35 => ?_) (fun h35 => ?_)
      · exact g_vretM C ⟨v, hP, sp_end (by rw [show g = 0 by omega] at ho; exact ho)⟩ hS dL_spread_113
      · refine g_iconst C (nI 0) (by decide) dL_spread_38 ?_
        refine g_istore4 C rfl dL_spread_39 ?_
        refine g_iconst C (nI 1) (by decide) dL_spread_41 ?_
        refine g_istore5 C rfl dL_spread_42 ?_
        refine g_lpH (A1 := Nat × Nat × (Nat → Int32)) (fun a H locs => SPI d b v a.1 a.2.1 a.2.2 ∧ va_P (dC, dI) vwCl (PW cI cJ t x1 x2 x3 x4 ++ [WY cI w a.2.2]) H ∧ va_D (fun q => q ∈ SPA t w) (PW cI cJ t x1 x2 x3 x4 ++ [WY cI w a.2.2]) ∧ va_S (fun q => q ∈ SPA t w) s.heap H locs) (fun a => 40 - a.1) (fun a => [some (.int b), some (.ref (t 0)), some (.ref (t 1)), some (.ref w), some (.int (nI a.2.1)), some (.int (nI a.1))]) (1, 0, v) ⟨sp_in ho, hP, hD, hS⟩ rfl ?_
        clear hP hD hS
        rintro ⟨j, g2, v2⟩ H locs ⟨hI, hP, hD, hS⟩ ih2
        try dsimp only at hI hP hD hS ih2 ⊢
        have hj1 := hI.1
        have hj2 := hI.2.1
        have hg2 := hI.2.2.1
        refine g_iload5 C dL_spread_44 ?_
        refine g_bipush C (nI 40) (by decide) dL_spread_46 ?_
        refine g_icmp_geN C (by omega) (by omega) 110 dL_spread_48 (by decide) (fun h48 => ?_) (fun h48 => ?_)
        · refine g_goto C 33 dL_spread_110 (by decide) ?_
          have e40 : j = 40 := by omega
          subst e40
          obtain ⟨ho2, hlt⟩ := sp_out hI
          have e1 : g = 1 := by omega
          refine g_fg5 ?_
          exact ih (g2, v2) H locs ⟨ho2, hP, hD, hS⟩ (by show g2 + (40 - q_on v2) < g + (40 - q_on v); omega)
        · refine g_aload3 C dL_spread_51 ?_
          refine g_iload5 C dL_spread_52 ?_
          refine g_iald C hK hP 4 0 rfl rfl (by omega) (by decide) dL_spread_54 ?_
          refine g_iconst C (nI 1) (by decide) dL_spread_55 ?_
          refine g_icmp_eq C 104 dL_spread_56 (by decide) (fun h56 => ?_) (fun h56 => ?_)
          · refine g_iinc5 C _ rfl dL_spread_104 (nI_1 _) ?_
            refine g_goto C 44 dL_spread_107 (by decide) ?_
            exact ih2 (j + 1, g2, v2) H locs ⟨sp_skip hI h48 (fun _ _ => h56), hP, hD, hS⟩ (by show 40 - (j + 1) < 40 - j; omega)
          · refine g_iload5 C dL_spread_59 ?_
            refine g_iload0 C dL_spread_61 ?_
            refine g_icmp_eq C 104 dL_spread_62 (by decide) (fun h62 => ?_) (fun h62 => ?_)
            · refine g_iinc5 C _ rfl dL_spread_104 (nI_1 _) ?_
              refine g_goto C 44 dL_spread_107 (by decide) ?_
              exact ih2 (j + 1, g2, v2) H locs ⟨sp_skip hI h48 (fun z _ => absurd h62 z.1), hP, hD, hS⟩ (by show 40 - (j + 1) < 40 - j; omega)
            · refine g_aload1 C dL_spread_65 ?_
              refine g_iload5 C dL_spread_66 ?_
              refine g_iald C hK hP 0 0 rfl rfl (by omega) (by decide) dL_spread_68 ?_
              refine g_iconst C (nI 3) (by decide) dL_spread_69 ?_
              refine g_iand C dL_spread_70 ?_
              refine g_top (rd_k hkg (by omega)) ?_
              refine g_iconst C (nI 3) (by decide) dL_spread_71 ?_
              refine g_icmp_eq C 84 dL_spread_72 (by decide) (fun h72 => ?_) (fun h72 => ?_)
              · refine g_iload5 C dL_spread_84 ?_
                refine g_aload3 C dL_spread_86 ?_
                refine g_pkS C 2 rfl (c_L_beside (by omega)) wl_L_42 wt_L_beside wn_L wc_L_beside (by decide +kernel) ⟨rfl, rfl, by decide, by decide⟩ PKV_bl (PKV_at hK (P_r hP)) rfl rfl (by simp [Value.category]) ⟨by decide, by decide⟩ dL_spread_87 ?_
                refine g_if_neB C 96 dL_spread_90 (by decide) (fun h90 => ?_) (fun h90 => ?_)
                · refine g_aload3 C dL_spread_96 ?_
                  refine g_iload5 C dL_spread_97 ?_
                  refine g_iconst C (nI 1) (by decide) dL_spread_99 ?_
                  refine g_iast C hK hP hD hS 4 0 rfl rfl (by omega) (by decide) dL_spread_100 (fun H locs hP hD hS => ?_)
                  have hP : va_P (dC, dI) vwCl (PW cI cJ t x1 x2 x3 x4 ++ [WY cI w (upd v2 j (nI 1))]) H := hP
                  have hD : va_D (fun q => q ∈ SPA t w) (PW cI cJ t x1 x2 x3 x4 ++ [WY cI w (upd v2 j (nI 1))]) := hD
                  refine g_iconst C (nI 1) (by decide) dL_spread_101 ?_
                  refine g_istore4 C rfl dL_spread_102 ?_
                  refine g_iinc5 C _ rfl dL_spread_104 (nI_1 _) ?_
                  refine g_goto C 44 dL_spread_107 (by decide) ?_
                  exact ih2 (j + 1, 1, upd v2 j (nI 1)) H locs ⟨sp_mark hI h48 ⟨fun z => h62 z, Or.inl h72⟩ h90 h56, hP, hD, hS⟩ (by show 40 - (j + 1) < 40 - j; omega)
                · refine g_goto C 104 dL_spread_93 (by decide) ?_
                  refine g_iinc5 C _ rfl dL_spread_104 (nI_1 _) ?_
                  refine g_goto C 44 dL_spread_107 (by decide) ?_
                  exact ih2 (j + 1, g2, v2) H locs ⟨sp_skip hI h48 (fun _ z => absurd z h90), hP, hD, hS⟩ (by show 40 - (j + 1) < 40 - j; omega)
              · refine g_aload2 C dL_spread_75 ?_
                refine g_iload5 C dL_spread_76 ?_
                refine g_pkS C 2 rfl (c_L_buried hk (by omega)) wl_L_38 wt_L_buried wn_L wc_L_buried (by decide +kernel) ⟨rfl, rfl, by decide, by decide⟩ PKR_bl (PKR_at hK (P_l hP)) rfl rfl (by simp [Value.category]) ⟨by decide, by decide⟩ dL_spread_78 ?_
                have hbu : q_bur d j ≤ 3 := q_cn_le _ 3
                refine g_if_gtN C (by omega) 104 dL_spread_81 (by decide) (fun h81 => ?_) (fun h81 => ?_)
                · refine g_iinc5 C _ rfl dL_spread_104 (nI_1 _) ?_
                  refine g_goto C 44 dL_spread_107 (by decide) ?_
                  exact ih2 (j + 1, g2, v2) H locs ⟨sp_skip hI h48 (fun z _ => z.2.elim (fun q => absurd q h72) (fun q => by omega)), hP, hD, hS⟩ (by show 40 - (j + 1) < 40 - j; omega)
                · refine g_iload5 C dL_spread_84 ?_
                  refine g_aload3 C dL_spread_86 ?_
                  refine g_pkS C 2 rfl (c_L_beside (by omega)) wl_L_42 wt_L_beside wn_L wc_L_beside (by decide +kernel) ⟨rfl, rfl, by decide, by decide⟩ PKV_bl (PKV_at hK (P_r hP)) rfl rfl (by simp [Value.category]) ⟨by decide, by decide⟩ dL_spread_87 ?_
                  refine g_if_neB C 96 dL_spread_90 (by decide) (fun h90 => ?_) (fun h90 => ?_)
                  · refine g_aload3 C dL_spread_96 ?_
                    refine g_iload5 C dL_spread_97 ?_
                    refine g_iconst C (nI 1) (by decide) dL_spread_99 ?_
                    refine g_iast C hK hP hD hS 4 0 rfl rfl (by omega) (by decide) dL_spread_100 (fun H locs hP hD hS => ?_)
                    have hP : va_P (dC, dI) vwCl (PW cI cJ t x1 x2 x3 x4 ++ [WY cI w (upd v2 j (nI 1))]) H := hP
                    have hD : va_D (fun q => q ∈ SPA t w) (PW cI cJ t x1 x2 x3 x4 ++ [WY cI w (upd v2 j (nI 1))]) := hD
                    refine g_iconst C (nI 1) (by decide) dL_spread_101 ?_
                    refine g_istore4 C rfl dL_spread_102 ?_
                    refine g_iinc5 C _ rfl dL_spread_104 (nI_1 _) ?_
                    refine g_goto C 44 dL_spread_107 (by decide) ?_
                    exact ih2 (j + 1, 1, upd v2 j (nI 1)) H locs ⟨sp_mark hI h48 ⟨fun z => h62 z, Or.inr h81⟩ h90 h56, hP, hD, hS⟩ (by show 40 - (j + 1) < 40 - j; omega)
                  · refine g_goto C 104 dL_spread_93 (by decide) ?_
                    refine g_iinc5 C _ rfl dL_spread_104 (nI_1 _) ?_
                    refine g_goto C 44 dL_spread_107 (by decide) ?_
                    exact ih2 (j + 1, g2, v2) H locs ⟨sp_skip hI h48 (fun _ z => absurd z h90), hP, hD, hS⟩ (by show 40 - (j + 1) < 40 - j; omega)
    · exact g_vretM C ⟨v, hP, sp_none h22 (fun p hp => hz p (by omega))⟩ hS dL_spread_25
  · refine g_aload3 C dL_spread_10 ?_
    refine g_iload4 C dL_spread_11 ?_
    refine g_iconst C (nI 0) (by decide) dL_spread_13 ?_
    refine g_iast C hK hP hD hS 4 0 rfl rfl (by omega) (by decide) dL_spread_14 (fun H locs hP hD hS => ?_)
    have hP : va_P (dC, dI) vwCl (PW cI cJ t x1 x2 x3 x4 ++ [WY cI w (upd v j (nI 0))]) H := hP
    have hD : va_D (fun q => q ∈ SPA t w) (PW cI cJ t x1 x2 x3 x4 ++ [WY cI w (upd v j (nI 0))]) := hD
    refine g_iinc4 C _ rfl dL_spread_15 (nI_1 _) ?_
    refine g_goto C 3 dL_spread_18 (by decide) ?_
    exact ih (j + 1, upd v j (nI 0)) H locs ⟨by show j + 1 ≤ 40; omega, fun p hp => by by_cases q : p = j; exact q ▸ if_pos rfl; exact (if_neg q).trans (hz p (by have : p < j + 1 := hp; omega)), hP, hD, hS⟩ (by show 40 - (j + 1) < 40 - j; omega)

set_option maxHeartbeats 4000000 in
set_option maxRecDepth 100000 in
theorem c_L_why {l : Launch} {dC : Nat → ClassId} {dI : Nat → Nat → Nat} {cI cL cJ : ClassId} {t : Nat → Nat} {x1 x3 x4 : Nat → Int32} {x2 : Nat → Int64} {d : RW} {yn : Nat} (hk : PKI d yn x1 x2 x3 x4) {w : Nat} {v : Nat → Int32} {f p dep u : Nat} (hf : f < 10) (hp : p < 40) (h1d : 1 ≤ dep) (h3d : dep ≤ 3) (hu : u < 100000) : Met l yL_why (.code yL_why method_17_code 10 (some .int) :: WG) (rmL 3) (va_Pc [.int (nI f), .int (nI p), .int (nI dep), .int (nI u), .ref (t 0), .ref (t 1), .ref w] (PKW dC dI cI cL cJ t x1 x2 x3 x4 w v)) (bq_S (.int (q_ref d (nI u) (q_wr v) (nI f) p dep))) 0 0 (fun _ => False) := by
  refine bq_of [some (.int (nI f)), some (.int (nI p)), some (.int (nI dep)), some (.int (nI u)), some (.ref (t 0)), some (.ref (t 1)), some (.ref w), none, none, none] rfl rfl (Nat.le_of_ble_eq_true rfl) (by decide) ?_
  intro P_ E_ s M_ B_ T_ K_ C hv
  obtain ⟨hP, hK⟩ := hv
  have hki := hk.1
  have hkg := hk.2.1
  have hkb := hk.2.2.1
  have hke := hk.2.2.2.1
  have hkf := hk.2.2.2.2
  have hgd := q_gd_le d p
  have hfr := q_free_le d p
  refine g_aload4 C dL_why_0 ?_
  refine g_iload1 C dL_why_2 ?_
  refine g_iald C hK hP 0 0 rfl rfl (by omega) (by decide) dL_why_3 ?_
  refine g_iconst C (nI 3) (by decide) dL_why_4 ?_
  refine g_iand C dL_why_5 ?_
  refine g_top (rd_k hkg hp) ?_
  refine g_iconst C (nI 3) (by decide) dL_why_6 ?_
  refine g_icmp_ne C 12 dL_why_7 (by decide) (fun h7 => ?_) (fun h7 => ?_)
  · refine g_iload1 C dL_why_12 ?_
    refine g_iload3 C dL_why_13 ?_
    refine g_aload4 C dL_why_14 ?_
    refine g_aload5 C dL_why_16 ?_
    refine g_pkS C 4 rfl (c_L_holder hk (by omega) (by omega)) wl_L_46 wt_L_holder wn_L wc_L_holder (by decide +kernel) ⟨rfl, rfl, by decide, by decide⟩ PKR_bl (PKR_at hK (P_l hP)) rfl rfl (by simp [Value.category]) ⟨by decide, by decide⟩ dL_why_18 ?_
    refine g_istore7 C rfl dL_why_21 ?_
    refine g_iload7 C dL_why_23 ?_
    refine g_fj (F := ¬ q_oth (q_hold d (nI u) p) (nI f)) (st1 := []) 36 (fun K25 => ?_) (fun hF36 => ?_)
    · skip
      refine g_if_lt C 36 dL_why_25 (by decide) (fun h25 => ?_) (fun h25 => ?_)
      · exact K25 (fun z => z.1 ((sgn2 (hold_sg hk hp _)).mp h25))
      · refine g_iload7 C dL_why_28 ?_
        refine g_iload0 C dL_why_30 ?_
        refine g_icmp_eq C 36 dL_why_31 (by decide) (fun h31 => ?_) (fun h31 => ?_)
        · exact K25 (fun z => z.2 h31)
        · refine g_iconst C (nI 2) (by decide) dL_why_34 ?_
          exact g_ireti C (by unfold q_ref; rw [if_neg h7, if_pos ⟨fun z => h25 ((sgn2 (hold_sg hk hp _)).mpr z), h31⟩]) dL_why_35
    refine g_iload2 C dL_why_36 ?_
    refine g_aload4 C dL_why_37 ?_
    refine g_iload1 C dL_why_39 ?_
    refine g_pkS C 2 rfl (c_L_most hk (by omega)) wl_L_50 wt_L_most wn_L wc_L_most (by decide +kernel) ⟨rfl, rfl, by decide, by decide⟩ PKR_bl (PKR_at hK (P_l hP)) rfl rfl (by simp [Value.category]) ⟨by decide, by decide⟩ dL_why_40 ?_
    refine g_icmp_leN C (by omega) (by omega) 48 dL_why_43 (by decide) (fun h43 => ?_) (fun h43 => ?_)
    · refine g_aload5 C dL_why_48 ?_
      refine g_iload1 C dL_why_50 ?_
      refine g_iconst C (nI 1) (by decide) dL_why_51 ?_
      refine g_pkS C 3 rfl (c_L_isThere hk (j := 0) (by omega) (by omega)) wl_L_14 wt_L_isThere wn_L wc_L_isThere (by decide +kernel) ⟨rfl, rfl, by decide, by decide⟩ PKR_bl (PKR_at hK (P_l hP)) rfl rfl (by simp [Value.category]) ⟨by decide, by decide⟩ dL_why_52 ?_
      refine g_d1 (v := nI (q_free d p + 1)) 91 (fun K55 => ?_) ?_
      · skip
        refine g_if_eqB C 62 dL_why_55 (by decide) (fun h55 => ?_) (fun h55 => ?_)
        · refine g_aload5 C dL_why_62 ?_
          refine g_iload1 C dL_why_64 ?_
          refine g_iconst C (nI 2) (by decide) dL_why_65 ?_
          refine g_pkS C 3 rfl (c_L_isThere hk (j := 1) (by omega) (by omega)) wl_L_14 wt_L_isThere wn_L wc_L_isThere (by decide +kernel) ⟨rfl, rfl, by decide, by decide⟩ PKR_bl (PKR_at hK (P_l hP)) rfl rfl (by simp [Value.category]) ⟨by decide, by decide⟩ dL_why_66 ?_
          refine g_if_eqB C 76 dL_why_69 (by decide) (fun h69 => ?_) (fun h69 => ?_)
          · refine g_aload5 C dL_why_76 ?_
            refine g_iload1 C dL_why_78 ?_
            refine g_iconst C (nI 3) (by decide) dL_why_79 ?_
            refine g_pkS C 3 rfl (c_L_isThere hk (j := 2) (by omega) (by omega)) wl_L_14 wt_L_isThere wn_L wc_L_isThere (by decide +kernel) ⟨rfl, rfl, by decide, by decide⟩ PKR_bl (PKR_at hK (P_l hP)) rfl rfl (by simp [Value.category]) ⟨by decide, by decide⟩ dL_why_80 ?_
            refine g_if_eqB C 90 dL_why_83 (by decide) (fun h83 => ?_) (fun h83 => ?_)
            · refine g_iconst C (nI 4) (by decide) dL_why_90 ?_
              exact K55 _ (congrArg nI (free_4 h55 h69 h83).symm)
            · refine g_iconst C (nI 3) (by decide) dL_why_86 ?_
              refine g_goto C 91 dL_why_87 (by decide) ?_
              exact K55 _ (congrArg nI (free_3 h55 h69 h83).symm)
          · refine g_iconst C (nI 2) (by decide) dL_why_72 ?_
            refine g_goto C 91 dL_why_73 (by decide) ?_
            exact K55 _ (congrArg nI (free_2 h55 h69).symm)
        · refine g_iconst C (nI 1) (by decide) dL_why_58 ?_
          refine g_goto C 91 dL_why_59 (by decide) ?_
          exact K55 _ (congrArg nI (free_1 h55).symm)
      refine g_istore8 C rfl dL_why_91 ?_
      refine g_iload8 C dL_why_93 ?_
      refine g_iload2 C dL_why_95 ?_
      refine g_icmp_gtN C (by omega) (by omega) 101 dL_why_96 (by decide) (fun h96 => ?_) (fun h96 => ?_)
      · refine g_iload1 C dL_why_101 ?_
        refine g_fj (F := q_wr v p = true) (st1 := []) 116 (fun K102 => ?_) (fun hF116 => ?_)
        · skip
          refine g_if_leN C (by omega) 116 dL_why_102 (by decide) (fun h102 => ?_) (fun h102 => ?_)
          · exact K102 ((wr_by v p).mpr (Or.inl h102))
          · refine g_iload1 C dL_why_105 ?_
            refine g_aload6 C dL_why_106 ?_
            refine g_pkS C 2 rfl (c_L_beside (by omega)) wl_L_42 wt_L_beside wn_L wc_L_beside (by decide +kernel) ⟨rfl, rfl, by decide, by decide⟩ PKV_bl (PKV_at hK (P_r hP)) rfl rfl (by simp [Value.category]) ⟨by decide, by decide⟩ dL_why_108 ?_
            refine g_if_neB C 116 dL_why_111 (by decide) (fun h111 => ?_) (fun h111 => ?_)
            · exact K102 ((wr_by v p).mpr (Or.inr h111))
            · refine g_iconst C (nI 5) (by decide) dL_why_114 ?_
              exact g_ireti C (by unfold q_ref; rw [if_neg h7, if_neg hF36, if_neg (by omega), if_neg (by omega), if_pos (wr_f h102 h111)]) dL_why_115
        refine g_aload4 C dL_why_116 ?_
        refine g_iload1 C dL_why_118 ?_
        refine g_pkS C 2 rfl (c_L_vault hk (by omega)) wl_L_35 wt_L_vault wn_L wc_L_vault (by decide +kernel) ⟨rfl, rfl, by decide, by decide⟩ PKR_bl (PKR_at hK (P_l hP)) rfl rfl (by simp [Value.category]) ⟨by decide, by decide⟩ dL_why_119 ?_
        refine g_if_ge C 127 dL_why_122 (by decide) (fun h122 => ?_) (fun h122 => ?_)
        · have h122 : d 4 p ≠ -1 := (sgn (rd_4 hkg hp)).mp h122
          refine g_iconst C (nI 1) (by decide) dL_why_127 ?_
          refine g_istore9 C rfl dL_why_128 ?_
          refine g_lp1 (fun (j : Nat) => j ≤ 3 ∧ ∀ k, k < j → ¬ (d 7 (p * 3 + k) ≠ -1 ∧ nI u < d 8 (p * 3 + k) + nI 2)) (fun (j : Nat) => 3 - j) (fun (j : Nat) => [some (.int (nI f)), some (.int (nI p)), some (.int (nI dep)), some (.int (nI u)), some (.ref (t 0)), some (.ref (t 1)), some (.ref w), some (.int (q_hold d (nI u) p)), some (.int (nI (q_free d p + 1))), some (.int (nI (j + 1)))]) 0 ⟨by omega, fun k hk => absurd hk (Nat.not_lt_zero k)⟩ rfl ?_
          rintro j ⟨hj, hn⟩ ih
          try dsimp only at ih ⊢
          refine g_iload9 C dL_why_130 ?_
          refine g_iconst C (nI 4) (by decide) dL_why_132 ?_
          refine g_icmp_geN C (by omega) (by omega) 170 dL_why_133 (by decide) (fun h133 => ?_) (fun h133 => ?_)
          · refine g_iload2 C dL_why_170 ?_
            refine g_iload8 C dL_why_171 ?_
            refine g_iconst C (nI 3) (by decide) dL_why_173 ?_
            refine g_d2 (v := nI (min (q_free d p) (q_gd d p))) 190 (fun K174 => ?_) ?_
            · skip
              refine g_icmp_leN C (by omega) (by omega) 186 dL_why_174 (by decide) (fun h174 => ?_) (fun h174 => ?_)
              · refine g_iload8 C dL_why_186 ?_
                refine g_iconst C (nI 1) (by decide) dL_why_188 ?_
                refine g_isubN C (by omega) dL_why_189 ?_
                exact K174 _ (congrArg nI (by have : q_gd d p = 3 := if_pos h122; omega))
              · refine g_aload4 C dL_why_177 ?_
                refine g_iload1 C dL_why_179 ?_
                refine g_pkS C 2 rfl (c_L_most hk (by omega)) wl_L_50 wt_L_most wn_L wc_L_most (by decide +kernel) ⟨rfl, rfl, by decide, by decide⟩ PKR_bl (PKR_at hK (P_l hP)) rfl rfl (by simp [Value.category]) ⟨by decide, by decide⟩ dL_why_180 ?_
                refine g_goto C 190 dL_why_183 (by decide) ?_
                exact K174 _ (congrArg nI (by have : q_gd d p = 3 := if_pos h122; omega))
            refine g_icmp_neN C (by omega) (by omega) 197 dL_why_190 (by decide) (fun h190 => ?_) (fun h190 => ?_)
            · refine g_bipush C (nI 7) (by decide) dL_why_197 ?_
              exact g_ireti C (by unfold q_ref q_vref; rw [if_neg h7, if_neg hF36, if_neg (by omega), if_neg (by omega), if_neg (by rw [hF116]; decide), if_pos h122, if_neg (fun z => by obtain ⟨k, hk3, o, l⟩ := (lat_iff hk hp hu).mpr z; exact hn k (by omega) ⟨o, l⟩), if_pos h190]) dL_why_199
            · refine g_iconst C (nI 0) (by decide) dL_why_193 ?_
              refine g_goto C 199 dL_why_194 (by decide) ?_
              exact g_ireti C (by unfold q_ref q_vref; rw [if_neg h7, if_neg hF36, if_neg (by omega), if_neg (by omega), if_neg (by rw [hF116]; decide), if_pos h122, if_neg (fun z => by obtain ⟨k, hk3, o, l⟩ := (lat_iff hk hp hu).mpr z; exact hn k (by omega) ⟨o, l⟩), if_neg (fun z => z h190)]) dL_why_199
          · refine g_aload5 C dL_why_136 ?_
            refine g_iload1 C dL_why_138 ?_
            refine g_iload9 C dL_why_139 ?_
            refine g_pkS C 3 rfl (c_L_isThere hk (j := j) (by omega) (by omega)) wl_L_14 wt_L_isThere wn_L wc_L_isThere (by decide +kernel) ⟨rfl, rfl, by decide, by decide⟩ PKR_bl (PKR_at hK (P_l hP)) rfl rfl (by simp [Value.category]) ⟨by decide, by decide⟩ dL_why_141 ?_
            refine g_if_eqB C 164 dL_why_144 (by decide) (fun h144 => ?_) (fun h144 => ?_)
            · refine g_iinc9 C _ rfl dL_why_164 (nI_1 _) ?_
              refine g_goto C 130 dL_why_167 (by decide) ?_
              exact ih (j + 1) ⟨by omega, fun k hk => by rcases Nat.lt_succ_iff_lt_or_eq.mp hk with hk | rfl; exact hn k hk; exact fun z => h144 z.1⟩ (by show 3 - (j + 1) < 3 - j; omega)
            · refine g_iload3 C dL_why_147 ?_
              refine g_aload5 C dL_why_148 ?_
              refine g_iload1 C dL_why_150 ?_
              refine g_iload9 C dL_why_151 ?_
              refine g_pkS C 3 rfl (c_L_when hk (j := j) (by omega) (by omega) (by assumption)) wl_L_22 wt_L_when wn_L wc_L_when (by decide +kernel) ⟨rfl, rfl, by decide, by decide⟩ PKR_bl (PKR_at hK (P_l hP)) rfl rfl (by simp [Value.category]) ⟨by decide, by decide⟩ dL_why_153 ?_
              refine g_iconst C (nI 2) (by decide) dL_why_156 ?_
              refine g_iadd C dL_why_157 ?_
              refine g_icmp_ge C 164 dL_why_158 (by decide) (fun h158 => ?_) (fun h158 => ?_)
              · refine g_iinc9 C _ rfl dL_why_164 (nI_1 _) ?_
                refine g_goto C 130 dL_why_167 (by decide) ?_
                exact ih (j + 1) ⟨by omega, fun k hk => by rcases Nat.lt_succ_iff_lt_or_eq.mp hk with hk | rfl; exact hn k hk; exact fun z => absurd z.2 (Int32.not_lt.mpr h158)⟩ (by show 3 - (j + 1) < 3 - j; omega)
              · refine g_bipush C (nI 6) (by decide) dL_why_161 ?_
                exact g_ireti C (by unfold q_ref q_vref; rw [if_neg h7, if_neg hF36, if_neg (by omega), if_neg (by omega), if_neg (by rw [hF116]; decide), if_pos h122, if_pos ((lat_iff hk hp hu).mp ⟨j, by omega, h144, Int32.not_le.mp h158⟩)]) dL_why_163
        · have h122 : ¬ d 4 p ≠ -1 := fun z => h122 ((sgn (rd_4 hkg hp)).mpr z)
          refine g_iconst C (nI 0) (by decide) dL_why_125 ?_
          exact g_ireti C (by unfold q_ref; rw [if_neg h7, if_neg hF36, if_neg (by omega), if_neg (by omega), if_neg (by rw [hF116]; decide), if_neg h122]) dL_why_126
      · refine g_iconst C (nI 4) (by decide) dL_why_99 ?_
        exact g_ireti C (by unfold q_ref; rw [if_neg h7, if_neg hF36, if_neg (by omega), if_pos (by omega)]) dL_why_100
    · refine g_iconst C (nI 3) (by decide) dL_why_46 ?_
      exact g_ireti C (by unfold q_ref; rw [if_neg h7, if_neg hF36, if_pos h43]) dL_why_47
  · refine g_iconst C (nI 1) (by decide) dL_why_10 ?_
    exact g_ireti C (by unfold q_ref; rw [if_pos h7]) dL_why_11
