set_option maxHeartbeats 4000000 in
set_option maxRecDepth 100000 in
theorem c_L_holder {l : Launch} {dC : Nat → ClassId} {dI : Nat → Nat → Nat} {cI cL cJ : ClassId} {t : Nat → Nat} {x1 x3 x4 : Nat → Int32} {x2 : Nat → Int64} {d : RW} {yn : Nat} (hk : PKI d yn x1 x2 x3 x4) {p u : Nat} (hp : p < 40) (hu : u < 100000) : Met l yL_holder (.code yL_holder method_13_code 6 (some .int) :: WG) (rmL 2) (va_Pc [.int (nI p), .int (nI u), .ref (t 0), .ref (t 1)] (PKR dC dI cI cL cJ t x1 x2 x3 x4)) (bq_S (.int (q_hold d (nI u) p))) 0 0 (fun _ => False) := by
  refine bq_of [some (.int (nI p)), some (.int (nI u)), some (.ref (t 0)), some (.ref (t 1)), none, none] rfl rfl (Nat.le_of_ble_eq_true rfl) (by decide) ?_
  intro P_ E_ s M_ B_ T_ K_ C hv
  obtain ⟨hP, hK⟩ := hv
  have hki := hk.1
  have hkg := hk.2.1
  have hkb := hk.2.2.1
  have hke := hk.2.2.2.1
  have hkf := hk.2.2.2.2
  refine g_iconst C (-1) (by decide) dL_holder_0 ?_
  refine g_istore4 C rfl dL_holder_1 ?_
  refine g_iconst C (nI 3) (by decide) dL_holder_3 ?_
  refine g_istore5 C rfl dL_holder_4 ?_
  refine g_lp2 (fun (j : Nat) (x : Int32) => j ≤ 3 ∧ x = q_hs d (nI u) p j) (fun (j : Nat) (x : Int32) => j) (fun (j : Nat) (x : Int32) => [some (.int (nI p)), some (.int (nI u)), some (.ref (t 0)), some (.ref (t 1)), some (.int x), some (.int (nI j))]) 3 (-1) ⟨by omega, by simp [q_hs]⟩ rfl ?_
  rintro j x ⟨hj, hx⟩ ih
  try dsimp only at ih ⊢
  refine g_iload5 C dL_holder_6 ?_
  refine g_if_leN C (by omega) 53 dL_holder_8 (by decide) (fun h8 => ?_) (fun h8 => ?_)
  · refine g_aload2 C dL_holder_53 ?_
    refine g_iload0 C dL_holder_54 ?_
    refine g_pkS C 2 rfl (c_L_keeps hk (by omega)) wl_L_8 wt_L_keeps wn_L wc_L_keeps (by decide +kernel) ⟨rfl, rfl, by decide, by decide⟩ PKR_bl (PKR_at hK hP) rfl rfl (by simp [Value.category]) ⟨by decide, by decide⟩ dL_holder_55 ?_
    refine g_if_lt C 77 dL_holder_58 (by decide) (fun h58 => ?_) (fun h58 => ?_)
    · refine g_aload2 C dL_holder_77 ?_
      refine g_iload0 C dL_holder_78 ?_
      refine g_pkS C 2 rfl (c_L_vault hk (by omega)) wl_L_35 wt_L_vault wn_L wc_L_vault (by decide +kernel) ⟨rfl, rfl, by decide, by decide⟩ PKR_bl (PKR_at hK hP) rfl rfl (by simp [Value.category]) ⟨by decide, by decide⟩ dL_holder_79 ?_
      refine g_if_lt C 93 dL_holder_82 (by decide) (fun h82 => ?_) (fun h82 => ?_)
      · refine g_iload4 C dL_holder_93 ?_
        exact g_ireti C (by rw [q_hold_hs, if_neg (fun z => z ((sgn2 (rd_4 hkg hp)).mp h82)), if_neg (fun z => z.1 ((sgn2 (rd_5s hkg hp)).mp h58)), hx, show j = 0 by omega]) dL_holder_95
      · refine g_aload2 C dL_holder_85 ?_
        refine g_iload0 C dL_holder_86 ?_
        refine g_pkS C 2 rfl (c_L_vault hk (by omega)) wl_L_35 wt_L_vault wn_L wc_L_vault (by decide +kernel) ⟨rfl, rfl, by decide, by decide⟩ PKR_bl (PKR_at hK hP) rfl rfl (by simp [Value.category]) ⟨by decide, by decide⟩ dL_holder_87 ?_
        refine g_goto C 95 dL_holder_90 (by decide) ?_
        exact g_ireti C (by rw [q_hold_hs, if_pos (fun z => h82 ((sgn2 (rd_4 hkg hp)).mpr z))]) dL_holder_95
    · refine g_aload2 C dL_holder_61 ?_
      refine g_iload0 C dL_holder_62 ?_
      refine g_pkS C 2 rfl (c_L_upto hk (by omega)) wl_L_32 wt_L_upto wn_L wc_L_upto (by decide +kernel) ⟨rfl, rfl, by decide, by decide⟩ PKR_bl (PKR_at hK hP) rfl rfl (by simp [Value.category]) ⟨by decide, by decide⟩ dL_holder_63 ?_
      refine g_iload1 C dL_holder_66 ?_
      refine g_icmp_lt C 77 dL_holder_67 (by decide) (fun h67 => ?_) (fun h67 => ?_)
      · refine g_aload2 C dL_holder_77 ?_
        refine g_iload0 C dL_holder_78 ?_
        refine g_pkS C 2 rfl (c_L_vault hk (by omega)) wl_L_35 wt_L_vault wn_L wc_L_vault (by decide +kernel) ⟨rfl, rfl, by decide, by decide⟩ PKR_bl (PKR_at hK hP) rfl rfl (by simp [Value.category]) ⟨by decide, by decide⟩ dL_holder_79 ?_
        refine g_if_lt C 93 dL_holder_82 (by decide) (fun h82 => ?_) (fun h82 => ?_)
        · refine g_iload4 C dL_holder_93 ?_
          exact g_ireti C (by rw [q_hold_hs, if_neg (fun z => z ((sgn2 (rd_4 hkg hp)).mp h82)), if_neg (fun z => absurd z.2 (Int32.not_le.mpr h67)), hx, show j = 0 by omega]) dL_holder_95
        · refine g_aload2 C dL_holder_85 ?_
          refine g_iload0 C dL_holder_86 ?_
          refine g_pkS C 2 rfl (c_L_vault hk (by omega)) wl_L_35 wt_L_vault wn_L wc_L_vault (by decide +kernel) ⟨rfl, rfl, by decide, by decide⟩ PKR_bl (PKR_at hK hP) rfl rfl (by simp [Value.category]) ⟨by decide, by decide⟩ dL_holder_87 ?_
          refine g_goto C 95 dL_holder_90 (by decide) ?_
          exact g_ireti C (by rw [q_hold_hs, if_pos (fun z => h82 ((sgn2 (rd_4 hkg hp)).mpr z))]) dL_holder_95
      · refine g_aload2 C dL_holder_70 ?_
        refine g_iload0 C dL_holder_71 ?_
        refine g_pkS C 2 rfl (c_L_keeps hk (by omega)) wl_L_8 wt_L_keeps wn_L wc_L_keeps (by decide +kernel) ⟨rfl, rfl, by decide, by decide⟩ PKR_bl (PKR_at hK hP) rfl rfl (by simp [Value.category]) ⟨by decide, by decide⟩ dL_holder_72 ?_
        refine g_istore4 C rfl dL_holder_75 ?_
        refine g_aload2 C dL_holder_77 ?_
        refine g_iload0 C dL_holder_78 ?_
        refine g_pkS C 2 rfl (c_L_vault hk (by omega)) wl_L_35 wt_L_vault wn_L wc_L_vault (by decide +kernel) ⟨rfl, rfl, by decide, by decide⟩ PKR_bl (PKR_at hK hP) rfl rfl (by simp [Value.category]) ⟨by decide, by decide⟩ dL_holder_79 ?_
        refine g_if_lt C 93 dL_holder_82 (by decide) (fun h82 => ?_) (fun h82 => ?_)
        · refine g_iload4 C dL_holder_93 ?_
          exact g_ireti C (by rw [q_hold_hs, if_neg (fun z => z ((sgn2 (rd_4 hkg hp)).mp h82)), if_pos ⟨fun z => h58 ((sgn2 (rd_5s hkg hp)).mpr z), Int32.not_lt.mp h67⟩]) dL_holder_95
        · refine g_aload2 C dL_holder_85 ?_
          refine g_iload0 C dL_holder_86 ?_
          refine g_pkS C 2 rfl (c_L_vault hk (by omega)) wl_L_35 wt_L_vault wn_L wc_L_vault (by decide +kernel) ⟨rfl, rfl, by decide, by decide⟩ PKR_bl (PKR_at hK hP) rfl rfl (by simp [Value.category]) ⟨by decide, by decide⟩ dL_holder_87 ?_
          refine g_goto C 95 dL_holder_90 (by decide) ?_
          exact g_ireti C (by rw [q_hold_hs, if_pos (fun z => h82 ((sgn2 (rd_4 hkg hp)).mpr z))]) dL_holder_95
  · obtain ⟨i, rfl⟩ : ∃ i, j = i + 1 := ⟨j - 1, by omega⟩
    refine g_aload3 C dL_holder_11 ?_
    refine g_iload0 C dL_holder_12 ?_
    refine g_iload5 C dL_holder_13 ?_
    refine g_pkS C 3 rfl (c_L_isThere hk (j := i) (by omega) (by omega)) wl_L_14 wt_L_isThere wn_L wc_L_isThere (by decide +kernel) ⟨rfl, rfl, by decide, by decide⟩ PKR_bl (PKR_at hK hP) rfl rfl (by simp [Value.category]) ⟨by decide, by decide⟩ dL_holder_15 ?_
    refine g_if_eqB C 47 dL_holder_18 (by decide) (fun h18 => ?_) (fun h18 => ?_)
    · refine g_iinc5 C (nI i) rfl dL_holder_47 (nI_dec1 (by omega)) ?_
      refine g_goto C 6 dL_holder_50 (by decide) ?_
      exact ih i _ ⟨by omega, by rw [q_hs_s (by omega), if_neg (fun z => h18 z.1)]; exact hx⟩ (by show i < i + 1; omega)
    · refine g_iload1 C dL_holder_21 ?_
      refine g_aload3 C dL_holder_22 ?_
      refine g_iload0 C dL_holder_23 ?_
      refine g_iload5 C dL_holder_24 ?_
      refine g_pkS C 3 rfl (c_L_when hk (j := i) (by omega) (by omega) (by assumption)) wl_L_22 wt_L_when wn_L wc_L_when (by decide +kernel) ⟨rfl, rfl, by decide, by decide⟩ PKR_bl (PKR_at hK hP) rfl rfl (by simp [Value.category]) ⟨by decide, by decide⟩ dL_holder_26 ?_
      refine g_isub C dL_holder_29 ?_
      refine g_aload2 C dL_holder_30 ?_
      refine g_iload0 C dL_holder_31 ?_
      refine g_pkS C 2 rfl (c_L_rest hk (by omega)) wl_L_26 wt_L_rest wn_L wc_L_rest (by decide +kernel) ⟨rfl, rfl, by decide, by decide⟩ PKR_bl (PKR_at hK hP) rfl rfl (by simp [Value.category]) ⟨by decide, by decide⟩ dL_holder_32 ?_
      refine g_icmp_ge C 47 dL_holder_35 (by decide) (fun h35 => ?_) (fun h35 => ?_)
      · refine g_iinc5 C (nI i) rfl dL_holder_47 (nI_dec1 (by omega)) ?_
        refine g_goto C 6 dL_holder_50 (by decide) ?_
        exact ih i _ ⟨by omega, by rw [q_hs_s (by omega), if_neg (fun z => absurd ((pk_rst hk hp (by omega) hu).mp z).2 (Int32.not_lt.mpr h35))]; exact hx⟩ (by show i < i + 1; omega)
      · refine g_aload3 C dL_holder_38 ?_
        refine g_iload0 C dL_holder_39 ?_
        refine g_iload5 C dL_holder_40 ?_
        refine g_pkS C 3 rfl (c_L_who hk (j := i) (by omega) (by omega) (by assumption)) wl_L_29 wt_L_who wn_L wc_L_who (by decide +kernel) ⟨rfl, rfl, by decide, by decide⟩ PKR_bl (PKR_at hK hP) rfl rfl (by simp [Value.category]) ⟨by decide, by decide⟩ dL_holder_42 ?_
        refine g_istore4 C rfl dL_holder_45 ?_
        refine g_iinc5 C (nI i) rfl dL_holder_47 (nI_dec1 (by omega)) ?_
        refine g_goto C 6 dL_holder_50 (by decide) ?_
        exact ih i _ ⟨by omega, by rw [q_hs_s (by omega), if_pos ((pk_rst hk hp (by omega) hu).mpr ⟨h18, Int32.not_le.mp h35⟩)]⟩ (by show i < i + 1; omega)

set_option maxHeartbeats 4000000 in
set_option maxRecDepth 100000 in
theorem c_L_most {l : Launch} {dC : Nat → ClassId} {dI : Nat → Nat → Nat} {cI cL cJ : ClassId} {t : Nat → Nat} {x1 x3 x4 : Nat → Int32} {x2 : Nat → Int64} {d : RW} {yn : Nat} (hk : PKI d yn x1 x2 x3 x4) {p : Nat} (hp : p < 40) : Met l yL_most (.code yL_most method_14_code 3 (some .int) :: WG) (rmL 1) (va_Pc [.ref (t 0), .int (nI p)] (PKR dC dI cI cL cJ t x1 x2 x3 x4)) (bq_S (.int (nI (q_gd d p)))) 0 0 (fun _ => False) := by
  refine bq_of [some (.ref (t 0)), some (.int (nI p)), none] rfl rfl (Nat.le_of_ble_eq_true rfl) (by decide) ?_
  intro P_ E_ s M_ B_ T_ K_ C hv
  obtain ⟨hP, hK⟩ := hv
  have hki := hk.1
  have hkg := hk.2.1
  have hkb := hk.2.2.1
  have hke := hk.2.2.2.1
  have hkf := hk.2.2.2.2
  refine g_aload0 C dL_most_0 ?_
  refine g_iload1 C dL_most_1 ?_
  refine g_iald C hK hP 0 0 rfl rfl (by omega) (by decide) dL_most_2 ?_
  refine g_iconst C (nI 3) (by decide) dL_most_3 ?_
  refine g_iand C dL_most_4 ?_
  refine g_top (rd_k hkg hp) ?_
  refine g_istore2 C rfl dL_most_5 ?_
  refine g_iload2 C dL_most_6 ?_
  refine g_iconst C (nI 3) (by decide) dL_most_7 ?_
  refine g_icmp_ne C 15 dL_most_8 (by decide) (fun h8 => ?_) (fun h8 => ?_)
  · refine g_aload0 C dL_most_15 ?_
    refine g_iload1 C dL_most_16 ?_
    refine g_pkS C 2 rfl (c_L_vault hk (by omega)) wl_L_35 wt_L_vault wn_L wc_L_vault (by decide +kernel) ⟨rfl, rfl, by decide, by decide⟩ PKR_bl (PKR_at hK hP) rfl rfl (by simp [Value.category]) ⟨by decide, by decide⟩ dL_most_17 ?_
    refine g_if_lt C 27 dL_most_20 (by decide) (fun h20 => ?_) (fun h20 => ?_)
    · have h20 := (sgn2 (rd_4 hkg hp)).mp h20
      refine g_iconst C (nI 3) (by decide) dL_most_27 ?_
      refine g_iload2 C dL_most_28 ?_
      refine g_isub C dL_most_29 ?_
      exact g_ireti C (by obtain ⟨k, hk4, ek⟩ := rd_3 hkg hp; have hv3 := hki.2.2.1 p hp; clear hP hK hki hkg hkb hke hkf hk C; unfold q_gd; by_cases hv : d 4 p = -1 <;> rcases (show k = 0 ∨ k = 1 ∨ k = 2 ∨ k = 3 by omega) with rfl | rfl | rfl | rfl <;> simp_all (decide := true)) dL_most_30
    · have h20 : d 4 p ≠ -1 := fun z => h20 ((sgn2 (rd_4 hkg hp)).mpr z)
      refine g_iconst C (nI 3) (by decide) dL_most_23 ?_
      refine g_goto C 30 dL_most_24 (by decide) ?_
      exact g_ireti C (by obtain ⟨k, hk4, ek⟩ := rd_3 hkg hp; have hv3 := hki.2.2.1 p hp; clear hP hK hki hkg hkb hke hkf hk C; unfold q_gd; by_cases hv : d 4 p = -1 <;> rcases (show k = 0 ∨ k = 1 ∨ k = 2 ∨ k = 3 by omega) with rfl | rfl | rfl | rfl <;> simp_all (decide := true)) dL_most_30
  · refine g_iconst C (nI 0) (by decide) dL_most_11 ?_
    refine g_goto C 30 dL_most_12 (by decide) ?_
    exact g_ireti C (by obtain ⟨k, hk4, ek⟩ := rd_3 hkg hp; have hv3 := hki.2.2.1 p hp; clear hP hK hki hkg hkb hke hkf hk C; unfold q_gd; by_cases hv : d 4 p = -1 <;> rcases (show k = 0 ∨ k = 1 ∨ k = 2 ∨ k = 3 by omega) with rfl | rfl | rfl | rfl <;> simp_all (decide := true)) dL_most_30

set_option maxHeartbeats 4000000 in
set_option maxRecDepth 100000 in
theorem c_L_fee {l : Launch} {dC : Nat → ClassId} {dI : Nat → Nat → Nat} {cI cL cJ : ClassId} {t : Nat → Nat} {x1 x3 x4 : Nat → Int32} {x2 : Nat → Int64} {d : RW} {yn : Nat} (hk : PKI d yn x1 x2 x3 x4) {f p dep : Nat} (hf : f < 10) (hp : p < 40) (h1d : 1 ≤ dep) (h3d : dep ≤ 3) : Met l yL_fee (.code yL_fee method_18_code 6 (some .int) :: WG) (rmL 2) (va_Pc [.int (nI f), .int (nI p), .int (nI dep), .ref (t 0), .ref (t 3)] (PKR dC dI cI cL cJ t x1 x2 x3 x4)) (bq_S (.int (q_fee d (nI yn) f p dep))) 0 0 (fun _ => False) := by
  refine bq_of [some (.int (nI f)), some (.int (nI p)), some (.int (nI dep)), some (.ref (t 0)), some (.ref (t 3)), none] rfl rfl (Nat.le_of_ble_eq_true rfl) (by decide) ?_
  intro P_ E_ s M_ B_ T_ K_ C hv
  obtain ⟨hP, hK⟩ := hv
  have hki := hk.1
  have hkg := hk.2.1
  have hkb := hk.2.2.1
  have hke := hk.2.2.2.1
  have hkf := hk.2.2.2.2
  refine g_bipush C (nI 20) (by decide) dL_fee_0 ?_
  refine g_bipush C (nI 10) (by decide) dL_fee_2 ?_
  refine g_iload2 C dL_fee_4 ?_
  refine g_imulN C dL_fee_5 ?_
  refine g_iaddN C dL_fee_6 ?_
  refine g_istore5 C rfl dL_fee_7 ?_
  refine g_aload3 C dL_fee_9 ?_
  refine g_iload1 C dL_fee_10 ?_
  refine g_pkS C 2 rfl (c_L_vault hk (by omega)) wl_L_35 wt_L_vault wn_L wc_L_vault (by decide +kernel) ⟨rfl, rfl, by decide, by decide⟩ PKR_bl (PKR_at hK hP) rfl rfl (by simp [Value.category]) ⟨by decide, by decide⟩ dL_fee_11 ?_
  refine g_if_lt C 20 dL_fee_14 (by decide) (fun h14 => ?_) (fun h14 => ?_)
  · have h14 : ¬ d 4 p ≠ -1 := fun z => z ((sgn2 (rd_4 hkg hp)).mp h14)
    refine g_aload4 C dL_fee_20 ?_
    refine g_iload0 C dL_fee_22 ?_
    refine g_iald C hK hP 3 0 rfl rfl (by omega) (by decide) dL_fee_23 ?_
    refine g_if_ne C 34 dL_fee_24 (by decide) (fun h24 => ?_) (fun h24 => ?_)
    · have h24 : d 0 f = nI 1 := (hkf.2 f hf).2.2.2.resolve_left (fun z => h24 ((hkf.2 f hf).1.trans (z.trans nI_0)))
      refine g_aload3 C dL_fee_34 ?_
      refine g_iload1 C dL_fee_35 ?_
      refine g_pkS C 2 rfl (c_L_keeps hk (by omega)) wl_L_8 wt_L_keeps wn_L wc_L_keeps (by decide +kernel) ⟨rfl, rfl, by decide, by decide⟩ PKR_bl (PKR_at hK hP) rfl rfl (by simp [Value.category]) ⟨by decide, by decide⟩ dL_fee_36 ?_
      refine g_iload0 C dL_fee_39 ?_
      refine g_icmp_ne C 63 dL_fee_40 (by decide) (fun h40 => ?_) (fun h40 => ?_)
      · have h40 : ¬ (d 5 p = nI f ∧ q_kept d (nI yn) p) := fun z => h40 z.1
        refine g_iload5 C dL_fee_63 ?_
        exact g_ireti C (by unfold q_fee q_pr; (first | rw [if_pos h24] | rw [if_neg h24]); (first | rw [if_pos h14] | rw [if_neg h14]); (first | rw [if_pos h40] | rw [if_neg h40]); simp only [nI_add, pk_mul]; first | exact fee_5 (by omega) | exact fee_0 (by omega)) dL_fee_65
      · refine g_aload3 C dL_fee_43 ?_
        refine g_iload1 C dL_fee_44 ?_
        refine g_pkS C 2 rfl (c_L_upto hk (by omega)) wl_L_32 wt_L_upto wn_L wc_L_upto (by decide +kernel) ⟨rfl, rfl, by decide, by decide⟩ PKR_bl (PKR_at hK hP) rfl rfl (by simp [Value.category]) ⟨by decide, by decide⟩ dL_fee_45 ?_
        refine g_aload4 C dL_fee_48 ?_
        refine g_bipush C (nI 30) (by decide) dL_fee_50 ?_
        refine g_iald C hK hP 3 0 rfl rfl (by omega) (by decide) dL_fee_52 ?_
        refine g_icmp_lt C 63 dL_fee_53 (by decide) (fun h53 => ?_) (fun h53 => ?_)
        · have h40 : ¬ (d 5 p = nI f ∧ q_kept d (nI yn) p) := fun z => absurd z.2.2 (Int32.not_le.mpr (by rw [← hkf.1]; exact h53))
          refine g_iload5 C dL_fee_63 ?_
          exact g_ireti C (by unfold q_fee q_pr; (first | rw [if_pos h24] | rw [if_neg h24]); (first | rw [if_pos h14] | rw [if_neg h14]); (first | rw [if_pos h40] | rw [if_neg h40]); simp only [nI_add, pk_mul]; first | exact fee_5 (by omega) | exact fee_0 (by omega)) dL_fee_65
        · have h40 : d 5 p = nI f ∧ q_kept d (nI yn) p := ⟨h40, by rw [h40]; exact nI_ne1 (by omega), by rw [← hkf.1]; exact Int32.not_lt.mp h53⟩
          refine g_iload5 C dL_fee_56 ?_
          refine g_iconst C (nI 5) (by decide) dL_fee_58 ?_
          refine g_isub C dL_fee_59 ?_
          refine g_goto C 65 dL_fee_60 (by decide) ?_
          exact g_ireti C (by unfold q_fee q_pr; (first | rw [if_pos h24] | rw [if_neg h24]); (first | rw [if_pos h14] | rw [if_neg h14]); (first | rw [if_pos h40] | rw [if_neg h40]); simp only [nI_add, pk_mul]; first | exact fee_5 (by omega) | exact fee_0 (by omega)) dL_fee_65
    · have h24 : ¬ d 0 f = nI 1 := fun z => absurd ((hkf.2 f hf).1.symm.trans h24 |>.symm.trans z) (by decide)
      refine g_iload5 C dL_fee_27 ?_
      refine g_iload5 C dL_fee_29 ?_
      refine g_iaddN C dL_fee_31 ?_
      refine g_istore5 C rfl dL_fee_32 ?_
      refine g_aload3 C dL_fee_34 ?_
      refine g_iload1 C dL_fee_35 ?_
      refine g_pkS C 2 rfl (c_L_keeps hk (by omega)) wl_L_8 wt_L_keeps wn_L wc_L_keeps (by decide +kernel) ⟨rfl, rfl, by decide, by decide⟩ PKR_bl (PKR_at hK hP) rfl rfl (by simp [Value.category]) ⟨by decide, by decide⟩ dL_fee_36 ?_
      refine g_iload0 C dL_fee_39 ?_
      refine g_icmp_ne C 63 dL_fee_40 (by decide) (fun h40 => ?_) (fun h40 => ?_)
      · have h40 : ¬ (d 5 p = nI f ∧ q_kept d (nI yn) p) := fun z => h40 z.1
        refine g_iload5 C dL_fee_63 ?_
        exact g_ireti C (by unfold q_fee q_pr; (first | rw [if_pos h24] | rw [if_neg h24]); (first | rw [if_pos h14] | rw [if_neg h14]); (first | rw [if_pos h40] | rw [if_neg h40]); simp only [nI_add, pk_mul]; first | exact fee_5 (by omega) | exact fee_0 (by omega)) dL_fee_65
      · refine g_aload3 C dL_fee_43 ?_
        refine g_iload1 C dL_fee_44 ?_
        refine g_pkS C 2 rfl (c_L_upto hk (by omega)) wl_L_32 wt_L_upto wn_L wc_L_upto (by decide +kernel) ⟨rfl, rfl, by decide, by decide⟩ PKR_bl (PKR_at hK hP) rfl rfl (by simp [Value.category]) ⟨by decide, by decide⟩ dL_fee_45 ?_
        refine g_aload4 C dL_fee_48 ?_
        refine g_bipush C (nI 30) (by decide) dL_fee_50 ?_
        refine g_iald C hK hP 3 0 rfl rfl (by omega) (by decide) dL_fee_52 ?_
        refine g_icmp_lt C 63 dL_fee_53 (by decide) (fun h53 => ?_) (fun h53 => ?_)
        · have h40 : ¬ (d 5 p = nI f ∧ q_kept d (nI yn) p) := fun z => absurd z.2.2 (Int32.not_le.mpr (by rw [← hkf.1]; exact h53))
          refine g_iload5 C dL_fee_63 ?_
          exact g_ireti C (by unfold q_fee q_pr; (first | rw [if_pos h24] | rw [if_neg h24]); (first | rw [if_pos h14] | rw [if_neg h14]); (first | rw [if_pos h40] | rw [if_neg h40]); simp only [nI_add, pk_mul]; first | exact fee_5 (by omega) | exact fee_0 (by omega)) dL_fee_65
        · have h40 : d 5 p = nI f ∧ q_kept d (nI yn) p := ⟨h40, by rw [h40]; exact nI_ne1 (by omega), by rw [← hkf.1]; exact Int32.not_lt.mp h53⟩
          refine g_iload5 C dL_fee_56 ?_
          refine g_iconst C (nI 5) (by decide) dL_fee_58 ?_
          refine g_isub C dL_fee_59 ?_
          refine g_goto C 65 dL_fee_60 (by decide) ?_
          exact g_ireti C (by unfold q_fee q_pr; (first | rw [if_pos h24] | rw [if_neg h24]); (first | rw [if_pos h14] | rw [if_neg h14]); (first | rw [if_pos h40] | rw [if_neg h40]); simp only [nI_add, pk_mul]; first | exact fee_5 (by omega) | exact fee_0 (by omega)) dL_fee_65
  · have h14 : d 4 p ≠ -1 := fun z => h14 ((sgn2 (rd_4 hkg hp)).mpr z)
    refine g_iinc5 C (nI (20 + 10 * dep + 30)) rfl dL_fee_17 (by rw [show Int32.ofInt 30 = nI 30 from rfl, nI_add]) ?_
    refine g_aload4 C dL_fee_20 ?_
    refine g_iload0 C dL_fee_22 ?_
    refine g_iald C hK hP 3 0 rfl rfl (by omega) (by decide) dL_fee_23 ?_
    refine g_if_ne C 34 dL_fee_24 (by decide) (fun h24 => ?_) (fun h24 => ?_)
    · have h24 : d 0 f = nI 1 := (hkf.2 f hf).2.2.2.resolve_left (fun z => h24 ((hkf.2 f hf).1.trans (z.trans nI_0)))
      refine g_aload3 C dL_fee_34 ?_
      refine g_iload1 C dL_fee_35 ?_
      refine g_pkS C 2 rfl (c_L_keeps hk (by omega)) wl_L_8 wt_L_keeps wn_L wc_L_keeps (by decide +kernel) ⟨rfl, rfl, by decide, by decide⟩ PKR_bl (PKR_at hK hP) rfl rfl (by simp [Value.category]) ⟨by decide, by decide⟩ dL_fee_36 ?_
      refine g_iload0 C dL_fee_39 ?_
      refine g_icmp_ne C 63 dL_fee_40 (by decide) (fun h40 => ?_) (fun h40 => ?_)
      · have h40 : ¬ (d 5 p = nI f ∧ q_kept d (nI yn) p) := fun z => h40 z.1
        refine g_iload5 C dL_fee_63 ?_
        exact g_ireti C (by unfold q_fee q_pr; (first | rw [if_pos h24] | rw [if_neg h24]); (first | rw [if_pos h14] | rw [if_neg h14]); (first | rw [if_pos h40] | rw [if_neg h40]); simp only [nI_add, pk_mul]; first | exact fee_5 (by omega) | exact fee_0 (by omega)) dL_fee_65
      · refine g_aload3 C dL_fee_43 ?_
        refine g_iload1 C dL_fee_44 ?_
        refine g_pkS C 2 rfl (c_L_upto hk (by omega)) wl_L_32 wt_L_upto wn_L wc_L_upto (by decide +kernel) ⟨rfl, rfl, by decide, by decide⟩ PKR_bl (PKR_at hK hP) rfl rfl (by simp [Value.category]) ⟨by decide, by decide⟩ dL_fee_45 ?_
        refine g_aload4 C dL_fee_48 ?_
        refine g_bipush C (nI 30) (by decide) dL_fee_50 ?_
        refine g_iald C hK hP 3 0 rfl rfl (by omega) (by decide) dL_fee_52 ?_
        refine g_icmp_lt C 63 dL_fee_53 (by decide) (fun h53 => ?_) (fun h53 => ?_)
        · have h40 : ¬ (d 5 p = nI f ∧ q_kept d (nI yn) p) := fun z => absurd z.2.2 (Int32.not_le.mpr (by rw [← hkf.1]; exact h53))
          refine g_iload5 C dL_fee_63 ?_
          exact g_ireti C (by unfold q_fee q_pr; (first | rw [if_pos h24] | rw [if_neg h24]); (first | rw [if_pos h14] | rw [if_neg h14]); (first | rw [if_pos h40] | rw [if_neg h40]); simp only [nI_add, pk_mul]; first | exact fee_5 (by omega) | exact fee_0 (by omega)) dL_fee_65
        · have h40 : d 5 p = nI f ∧ q_kept d (nI yn) p := ⟨h40, by rw [h40]; exact nI_ne1 (by omega), by rw [← hkf.1]; exact Int32.not_lt.mp h53⟩
          refine g_iload5 C dL_fee_56 ?_
          refine g_iconst C (nI 5) (by decide) dL_fee_58 ?_
          refine g_isub C dL_fee_59 ?_
          refine g_goto C 65 dL_fee_60 (by decide) ?_
          exact g_ireti C (by unfold q_fee q_pr; (first | rw [if_pos h24] | rw [if_neg h24]); (first | rw [if_pos h14] | rw [if_neg h14]); (first | rw [if_pos h40] | rw [if_neg h40]); simp only [nI_add, pk_mul]; first | exact fee_5 (by omega) | exact fee_0 (by omega)) dL_fee_65
    · have h24 : ¬ d 0 f = nI 1 := fun z => absurd ((hkf.2 f hf).1.symm.trans h24 |>.symm.trans z) (by decide)
      refine g_iload5 C dL_fee_27 ?_
      refine g_iload5 C dL_fee_29 ?_
      refine g_iaddN C dL_fee_31 ?_
      refine g_istore5 C rfl dL_fee_32 ?_
      refine g_aload3 C dL_fee_34 ?_
      refine g_iload1 C dL_fee_35 ?_
      refine g_pkS C 2 rfl (c_L_keeps hk (by omega)) wl_L_8 wt_L_keeps wn_L wc_L_keeps (by decide +kernel) ⟨rfl, rfl, by decide, by decide⟩ PKR_bl (PKR_at hK hP) rfl rfl (by simp [Value.category]) ⟨by decide, by decide⟩ dL_fee_36 ?_
      refine g_iload0 C dL_fee_39 ?_
      refine g_icmp_ne C 63 dL_fee_40 (by decide) (fun h40 => ?_) (fun h40 => ?_)
      · have h40 : ¬ (d 5 p = nI f ∧ q_kept d (nI yn) p) := fun z => h40 z.1
        refine g_iload5 C dL_fee_63 ?_
        exact g_ireti C (by unfold q_fee q_pr; (first | rw [if_pos h24] | rw [if_neg h24]); (first | rw [if_pos h14] | rw [if_neg h14]); (first | rw [if_pos h40] | rw [if_neg h40]); simp only [nI_add, pk_mul]; first | exact fee_5 (by omega) | exact fee_0 (by omega)) dL_fee_65
      · refine g_aload3 C dL_fee_43 ?_
        refine g_iload1 C dL_fee_44 ?_
        refine g_pkS C 2 rfl (c_L_upto hk (by omega)) wl_L_32 wt_L_upto wn_L wc_L_upto (by decide +kernel) ⟨rfl, rfl, by decide, by decide⟩ PKR_bl (PKR_at hK hP) rfl rfl (by simp [Value.category]) ⟨by decide, by decide⟩ dL_fee_45 ?_
        refine g_aload4 C dL_fee_48 ?_
        refine g_bipush C (nI 30) (by decide) dL_fee_50 ?_
        refine g_iald C hK hP 3 0 rfl rfl (by omega) (by decide) dL_fee_52 ?_
        refine g_icmp_lt C 63 dL_fee_53 (by decide) (fun h53 => ?_) (fun h53 => ?_)
        · have h40 : ¬ (d 5 p = nI f ∧ q_kept d (nI yn) p) := fun z => absurd z.2.2 (Int32.not_le.mpr (by rw [← hkf.1]; exact h53))
          refine g_iload5 C dL_fee_63 ?_
          exact g_ireti C (by unfold q_fee q_pr; (first | rw [if_pos h24] | rw [if_neg h24]); (first | rw [if_pos h14] | rw [if_neg h14]); (first | rw [if_pos h40] | rw [if_neg h40]); simp only [nI_add, pk_mul]; first | exact fee_5 (by omega) | exact fee_0 (by omega)) dL_fee_65
        · have h40 : d 5 p = nI f ∧ q_kept d (nI yn) p := ⟨h40, by rw [h40]; exact nI_ne1 (by omega), by rw [← hkf.1]; exact Int32.not_lt.mp h53⟩
          refine g_iload5 C dL_fee_56 ?_
          refine g_iconst C (nI 5) (by decide) dL_fee_58 ?_
          refine g_isub C dL_fee_59 ?_
          refine g_goto C 65 dL_fee_60 (by decide) ?_
          exact g_ireti C (by unfold q_fee q_pr; (first | rw [if_pos h24] | rw [if_neg h24]); (first | rw [if_pos h14] | rw [if_neg h14]); (first | rw [if_pos h40] | rw [if_neg h40]); simp only [nI_add, pk_mul]; first | exact fee_5 (by omega) | exact fee_0 (by omega)) dL_fee_65

set_option maxHeartbeats 4000000 in
set_option maxRecDepth 100000 in
theorem c_L_lapsed {l : Launch} {dC : Nat → ClassId} {dI : Nat → Nat → Nat} {cI cL cJ : ClassId} {t : Nat → Nat} {x1 x3 x4 : Nat → Int32} {x2 : Nat → Int64} {d : RW} {yn : Nat} (hk : PKI d yn x1 x2 x3 x4) {u : Nat} : Met l yL_lapsed (.code yL_lapsed method_19_code 4 (some .int) :: WG) (rmL 2) (va_Pc [.int (nI u), .ref (t 0)] (PKR dC dI cI cL cJ t x1 x2 x3 x4)) (bq_S (.int (nI (q_lap d (nI u))))) 0 0 (fun _ => False) := by
  refine bq_of [some (.int (nI u)), some (.ref (t 0)), none, none] rfl rfl (Nat.le_of_ble_eq_true rfl) (by decide) ?_
  intro P_ E_ s M_ B_ T_ K_ C hv
  obtain ⟨hP, hK⟩ := hv
  have hki := hk.1
  have hkg := hk.2.1
  have hkb := hk.2.2.1
  have hke := hk.2.2.2.1
  have hkf := hk.2.2.2.2
  refine g_iconst C (nI 0) (by decide) dL_lapsed_0 ?_
  refine g_istore2 C rfl dL_lapsed_1 ?_
  refine g_iconst C (nI 0) (by decide) dL_lapsed_2 ?_
  refine g_istore3 C rfl dL_lapsed_3 ?_
  refine g_lp2 (fun (j : Nat) (x : Nat) => j ≤ 40 ∧ x = q_cn (fun p => d 5 p ≠ -1 ∧ d 6 p < nI u) j) (fun (j : Nat) (x : Nat) => 40 - j) (fun (j : Nat) (x : Nat) => [some (.int (nI u)), some (.ref (t 0)), some (.int (nI x)), some (.int (nI j))]) 0 0 ⟨by omega, rfl⟩ rfl ?_
  rintro j x ⟨hj, hx⟩ ih
  try dsimp only at ih ⊢
  refine g_iload3 C dL_lapsed_4 ?_
  refine g_bipush C (nI 40) (by decide) dL_lapsed_5 ?_
  refine g_icmp_geN C (by omega) (by omega) 41 dL_lapsed_7 (by decide) (fun h7 => ?_) (fun h7 => ?_)
  · refine g_iload2 C dL_lapsed_41 ?_
    exact g_ireti C (by rw [hx, show j = 40 by omega]; rfl) dL_lapsed_42
  · refine g_iload2 C dL_lapsed_10 ?_
    refine g_aload1 C dL_lapsed_11 ?_
    refine g_iload3 C dL_lapsed_12 ?_
    refine g_pkS C 2 rfl (c_L_keeps hk (by omega)) wl_L_8 wt_L_keeps wn_L wc_L_keeps (by decide +kernel) ⟨rfl, rfl, by decide, by decide⟩ PKR_bl (PKR_at hK hP) rfl rfl (by simp [Value.category]) ⟨by decide, by decide⟩ dL_lapsed_13 ?_
    refine g_d1 (v := nI (if d 5 j ≠ -1 ∧ d 6 j < nI u then 1 else 0)) 33 (fun K16 => ?_) ?_
    · skip
      refine g_if_lt C 32 dL_lapsed_16 (by decide) (fun h16 => ?_) (fun h16 => ?_)
      · refine g_iconst C (nI 0) (by decide) dL_lapsed_32 ?_
        exact K16 _ (by rw [if_neg (fun z => z.1 ((sgn2 (rd_5s hkg (by omega))).mp h16))])
      · refine g_aload1 C dL_lapsed_19 ?_
        refine g_iload3 C dL_lapsed_20 ?_
        refine g_pkS C 2 rfl (c_L_upto hk (by omega)) wl_L_32 wt_L_upto wn_L wc_L_upto (by decide +kernel) ⟨rfl, rfl, by decide, by decide⟩ PKR_bl (PKR_at hK hP) rfl rfl (by simp [Value.category]) ⟨by decide, by decide⟩ dL_lapsed_21 ?_
        refine g_iload0 C dL_lapsed_24 ?_
        refine g_icmp_ge C 32 dL_lapsed_25 (by decide) (fun h25 => ?_) (fun h25 => ?_)
        · refine g_iconst C (nI 0) (by decide) dL_lapsed_32 ?_
          exact K16 _ (by rw [if_neg (fun z => absurd z.2 (Int32.not_lt.mpr h25))])
        · refine g_iconst C (nI 1) (by decide) dL_lapsed_28 ?_
          refine g_goto C 33 dL_lapsed_29 (by decide) ?_
          exact K16 _ (by rw [if_pos ⟨fun z => h16 ((sgn2 (rd_5s hkg (by omega))).mpr z), Int32.not_le.mp h25⟩])
    refine g_iaddN C dL_lapsed_33 ?_
    refine g_istore2 C rfl dL_lapsed_34 ?_
    refine g_iinc3 C _ rfl dL_lapsed_35 (nI_1 _) ?_
    refine g_goto C 4 dL_lapsed_38 (by decide) ?_
    exact ih (j + 1) _ ⟨by omega, by rw [hx]; rfl⟩ (by show 40 - (j + 1) < 40 - j; omega)

set_option maxHeartbeats 4000000 in
set_option maxRecDepth 100000 in
theorem c_L_beside {l : Launch} {dC : Nat → ClassId} {dI : Nat → Nat → Nat} {cI cL cJ : ClassId} {w : Nat} {v : Nat → Int32} {p : Nat} (hp : p < 40) : Met l yL_beside (.code yL_beside method_16_code 3 (some .boolean) :: WG) (rmL 0) (va_Pc [.int (nI p), .ref w] (PKV dC dI cI cL cJ w v)) (bq_S (.int (bI (PBY v p)))) 0 0 (fun _ => False) := by
  refine bq_of [some (.int (nI p)), some (.ref w), none] rfl rfl (Nat.le_of_ble_eq_true rfl) (by decide) ?_
  intro P_ E_ s M_ B_ T_ K_ C hv
  obtain ⟨hP, hK⟩ := hv
  refine g_iload0 C dL_beside_0 ?_
  refine g_bipush C (nI 7) (by decide) dL_beside_1 ?_
  refine g_d2 (v := bI ((7 < p ∧ v (p - 8) = nI 1) ∨ (p < 32 ∧ v (p + 8) = nI 1))) 37 (fun K3 => ?_) ?_
  · skip
    refine g_icmp_leN C (by omega) (by omega) 16 dL_beside_3 (by decide) (fun h3 => ?_) (fun h3 => ?_)
    · refine g_iload0 C dL_beside_16 ?_
      refine g_bipush C (nI 32) (by decide) dL_beside_17 ?_
      refine g_icmp_geN C (by omega) (by omega) 36 dL_beside_19 (by decide) (fun h19 => ?_) (fun h19 => ?_)
      · refine g_iconst C (nI 0) (by decide) dL_beside_36 ?_
        exact K3 _ (by first | exact bI_t (Or.inl ⟨by omega, by assumption⟩) | exact bI_t (Or.inr ⟨by omega, by assumption⟩) | exact bI_f (by rintro (⟨a, b⟩ | ⟨a, b⟩) <;> first | omega | contradiction))
      · refine g_aload1 C dL_beside_22 ?_
        refine g_iload0 C dL_beside_23 ?_
        refine g_bipush C (nI 8) (by decide) dL_beside_24 ?_
        refine g_iaddN C dL_beside_26 ?_
        refine g_iald C hK hP 0 0 rfl rfl (by omega) (by decide) dL_beside_27 ?_
        refine g_iconst C (nI 1) (by decide) dL_beside_28 ?_
        refine g_icmp_ne C 36 dL_beside_29 (by decide) (fun h29 => ?_) (fun h29 => ?_)
        · refine g_iconst C (nI 0) (by decide) dL_beside_36 ?_
          exact K3 _ (by first | exact bI_t (Or.inl ⟨by omega, by assumption⟩) | exact bI_t (Or.inr ⟨by omega, by assumption⟩) | exact bI_f (by rintro (⟨a, b⟩ | ⟨a, b⟩) <;> first | omega | contradiction))
        · refine g_iconst C (nI 1) (by decide) dL_beside_32 ?_
          refine g_goto C 37 dL_beside_33 (by decide) ?_
          exact K3 _ (by first | exact bI_t (Or.inl ⟨by omega, by assumption⟩) | exact bI_t (Or.inr ⟨by omega, by assumption⟩) | exact bI_f (by rintro (⟨a, b⟩ | ⟨a, b⟩) <;> first | omega | contradiction))
    · refine g_aload1 C dL_beside_6 ?_
      refine g_iload0 C dL_beside_7 ?_
      refine g_bipush C (nI 8) (by decide) dL_beside_8 ?_
      refine g_isubN C (by omega) dL_beside_10 ?_
      refine g_iald C hK hP 0 0 rfl rfl (by omega) (by decide) dL_beside_11 ?_
      refine g_iconst C (nI 1) (by decide) dL_beside_12 ?_
      refine g_icmp_eq C 32 dL_beside_13 (by decide) (fun h13 => ?_) (fun h13 => ?_)
      · refine g_iconst C (nI 1) (by decide) dL_beside_32 ?_
        refine g_goto C 37 dL_beside_33 (by decide) ?_
        exact K3 _ (by first | exact bI_t (Or.inl ⟨by omega, by assumption⟩) | exact bI_t (Or.inr ⟨by omega, by assumption⟩) | exact bI_f (by rintro (⟨a, b⟩ | ⟨a, b⟩) <;> first | omega | contradiction))
      · refine g_iload0 C dL_beside_16 ?_
        refine g_bipush C (nI 32) (by decide) dL_beside_17 ?_
        refine g_icmp_geN C (by omega) (by omega) 36 dL_beside_19 (by decide) (fun h19 => ?_) (fun h19 => ?_)
        · refine g_iconst C (nI 0) (by decide) dL_beside_36 ?_
          exact K3 _ (by first | exact bI_t (Or.inl ⟨by omega, by assumption⟩) | exact bI_t (Or.inr ⟨by omega, by assumption⟩) | exact bI_f (by rintro (⟨a, b⟩ | ⟨a, b⟩) <;> first | omega | contradiction))
        · refine g_aload1 C dL_beside_22 ?_
          refine g_iload0 C dL_beside_23 ?_
          refine g_bipush C (nI 8) (by decide) dL_beside_24 ?_
          refine g_iaddN C dL_beside_26 ?_
          refine g_iald C hK hP 0 0 rfl rfl (by omega) (by decide) dL_beside_27 ?_
          refine g_iconst C (nI 1) (by decide) dL_beside_28 ?_
          refine g_icmp_ne C 36 dL_beside_29 (by decide) (fun h29 => ?_) (fun h29 => ?_)
          · refine g_iconst C (nI 0) (by decide) dL_beside_36 ?_
            exact K3 _ (by first | exact bI_t (Or.inl ⟨by omega, by assumption⟩) | exact bI_t (Or.inr ⟨by omega, by assumption⟩) | exact bI_f (by rintro (⟨a, b⟩ | ⟨a, b⟩) <;> first | omega | contradiction))
          · refine g_iconst C (nI 1) (by decide) dL_beside_32 ?_
            refine g_goto C 37 dL_beside_33 (by decide) ?_
            exact K3 _ (by first | exact bI_t (Or.inl ⟨by omega, by assumption⟩) | exact bI_t (Or.inr ⟨by omega, by assumption⟩) | exact bI_f (by rintro (⟨a, b⟩ | ⟨a, b⟩) <;> first | omega | contradiction))
  refine g_istore2 C rfl dL_beside_37 ?_
  refine g_iload2 C dL_beside_38 ?_
  refine g_if_neB C 76 dL_beside_39 (by decide) (fun h39 => ?_) (fun h39 => ?_)
  · refine g_iconst C (nI 1) (by decide) dL_beside_76 ?_
    refine g_goto C 81 dL_beside_77 (by decide) ?_
    exact g_iretz C (by first | exact bI_t (Or.inl h39) | exact bI_t (Or.inr (Or.inl ⟨by omega, by assumption⟩)) | exact bI_t (Or.inr (Or.inr ⟨by omega, by assumption⟩)) | exact bI_f (by rintro (a | ⟨a, b⟩ | ⟨a, b⟩) <;> first | omega | contradiction)) dL_beside_81
  · refine g_iload0 C dL_beside_42 ?_
    refine g_bipush C (nI 8) (by decide) dL_beside_43 ?_
    refine g_iremN C (by omega) (by omega) (by omega) dL_beside_45 ?_
    refine g_if_leN C (by omega) 58 dL_beside_46 (by decide) (fun h46 => ?_) (fun h46 => ?_)
    · refine g_iload0 C dL_beside_58 ?_
      refine g_bipush C (nI 8) (by decide) dL_beside_59 ?_
      refine g_iremN C (by omega) (by omega) (by omega) dL_beside_61 ?_
      refine g_bipush C (nI 7) (by decide) dL_beside_62 ?_
      refine g_icmp_geN C (by omega) (by omega) 80 dL_beside_64 (by decide) (fun h64 => ?_) (fun h64 => ?_)
      · refine g_iconst C (nI 0) (by decide) dL_beside_80 ?_
        exact g_iretz C (by first | exact bI_t (Or.inl h39) | exact bI_t (Or.inr (Or.inl ⟨by omega, by assumption⟩)) | exact bI_t (Or.inr (Or.inr ⟨by omega, by assumption⟩)) | exact bI_f (by rintro (a | ⟨a, b⟩ | ⟨a, b⟩) <;> first | omega | contradiction)) dL_beside_81
      · refine g_aload1 C dL_beside_67 ?_
        refine g_iload0 C dL_beside_68 ?_
        refine g_iconst C (nI 1) (by decide) dL_beside_69 ?_
        refine g_iaddN C dL_beside_70 ?_
        refine g_iald C hK hP 0 0 rfl rfl (by omega) (by decide) dL_beside_71 ?_
        refine g_iconst C (nI 1) (by decide) dL_beside_72 ?_
        refine g_icmp_ne C 80 dL_beside_73 (by decide) (fun h73 => ?_) (fun h73 => ?_)
        · refine g_iconst C (nI 0) (by decide) dL_beside_80 ?_
          exact g_iretz C (by first | exact bI_t (Or.inl h39) | exact bI_t (Or.inr (Or.inl ⟨by omega, by assumption⟩)) | exact bI_t (Or.inr (Or.inr ⟨by omega, by assumption⟩)) | exact bI_f (by rintro (a | ⟨a, b⟩ | ⟨a, b⟩) <;> first | omega | contradiction)) dL_beside_81
        · refine g_iconst C (nI 1) (by decide) dL_beside_76 ?_
          refine g_goto C 81 dL_beside_77 (by decide) ?_
          exact g_iretz C (by first | exact bI_t (Or.inl h39) | exact bI_t (Or.inr (Or.inl ⟨by omega, by assumption⟩)) | exact bI_t (Or.inr (Or.inr ⟨by omega, by assumption⟩)) | exact bI_f (by rintro (a | ⟨a, b⟩ | ⟨a, b⟩) <;> first | omega | contradiction)) dL_beside_81
    · refine g_aload1 C dL_beside_49 ?_
      refine g_iload0 C dL_beside_50 ?_
      refine g_iconst C (nI 1) (by decide) dL_beside_51 ?_
      refine g_isubN C (by omega) dL_beside_52 ?_
      refine g_iald C hK hP 0 0 rfl rfl (by omega) (by decide) dL_beside_53 ?_
      refine g_iconst C (nI 1) (by decide) dL_beside_54 ?_
      refine g_icmp_eq C 76 dL_beside_55 (by decide) (fun h55 => ?_) (fun h55 => ?_)
      · refine g_iconst C (nI 1) (by decide) dL_beside_76 ?_
        refine g_goto C 81 dL_beside_77 (by decide) ?_
        exact g_iretz C (by first | exact bI_t (Or.inl h39) | exact bI_t (Or.inr (Or.inl ⟨by omega, by assumption⟩)) | exact bI_t (Or.inr (Or.inr ⟨by omega, by assumption⟩)) | exact bI_f (by rintro (a | ⟨a, b⟩ | ⟨a, b⟩) <;> first | omega | contradiction)) dL_beside_81
      · refine g_iload0 C dL_beside_58 ?_
        refine g_bipush C (nI 8) (by decide) dL_beside_59 ?_
        refine g_iremN C (by omega) (by omega) (by omega) dL_beside_61 ?_
        refine g_bipush C (nI 7) (by decide) dL_beside_62 ?_
        refine g_icmp_geN C (by omega) (by omega) 80 dL_beside_64 (by decide) (fun h64 => ?_) (fun h64 => ?_)
        · refine g_iconst C (nI 0) (by decide) dL_beside_80 ?_
          exact g_iretz C (by first | exact bI_t (Or.inl h39) | exact bI_t (Or.inr (Or.inl ⟨by omega, by assumption⟩)) | exact bI_t (Or.inr (Or.inr ⟨by omega, by assumption⟩)) | exact bI_f (by rintro (a | ⟨a, b⟩ | ⟨a, b⟩) <;> first | omega | contradiction)) dL_beside_81
        · refine g_aload1 C dL_beside_67 ?_
          refine g_iload0 C dL_beside_68 ?_
          refine g_iconst C (nI 1) (by decide) dL_beside_69 ?_
          refine g_iaddN C dL_beside_70 ?_
          refine g_iald C hK hP 0 0 rfl rfl (by omega) (by decide) dL_beside_71 ?_
          refine g_iconst C (nI 1) (by decide) dL_beside_72 ?_
          refine g_icmp_ne C 80 dL_beside_73 (by decide) (fun h73 => ?_) (fun h73 => ?_)
          · refine g_iconst C (nI 0) (by decide) dL_beside_80 ?_
            exact g_iretz C (by first | exact bI_t (Or.inl h39) | exact bI_t (Or.inr (Or.inl ⟨by omega, by assumption⟩)) | exact bI_t (Or.inr (Or.inr ⟨by omega, by assumption⟩)) | exact bI_f (by rintro (a | ⟨a, b⟩ | ⟨a, b⟩) <;> first | omega | contradiction)) dL_beside_81
          · refine g_iconst C (nI 1) (by decide) dL_beside_76 ?_
            refine g_goto C 81 dL_beside_77 (by decide) ?_
            exact g_iretz C (by first | exact bI_t (Or.inl h39) | exact bI_t (Or.inr (Or.inl ⟨by omega, by assumption⟩)) | exact bI_t (Or.inr (Or.inr ⟨by omega, by assumption⟩)) | exact bI_f (by rintro (a | ⟨a, b⟩ | ⟨a, b⟩) <;> first | omega | contradiction)) dL_beside_81
