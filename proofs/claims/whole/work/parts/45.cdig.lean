theorem q_d2b_n {x : UInt64} {c : Nat} {q : Int} (h : FPN x c q) : q_d2b x = x.toInt64 := by
  unfold q_d2b
  rw [if_neg (fp_self h.1)]
theorem fp_low2 {x : UInt64} {c : Nat} (h : FPN x c (-52)) : FP.d2l (FP.dmul (FP.dsub x 4607182418800017408) 4841369599423283200) = lN (c - 4503599627370496) := (fp_low h).2.2
theorem q_d2b_0 : q_d2b 0 = 0 := by
  have h : ¬ q_nan 0 := by
    unfold q_nan
    have e : Op.cmpValue (FP.dcmp 0 0) CmpOp.l = 0 := by decide +kernel
    rw [e]
    exact fun z => z rfl
  unfold q_d2b
  rw [if_neg h]
  rfl
theorem fp_0lt : ¬ (0 ≤ Op.cmpValue (FP.dcmp 0 4607182418800017408) CmpOp.g) := by decide +kernel
theorem fp_join {k T : Nat} (hT : T < 4503599627370496) : (lN (1023 + k) <<< ((nI 52).toInt64 &&& 63)) ||| lN T = lN ((1023 + k) * 4503599627370496 + T) := by
  have e : (nI 52).toInt64 &&& 63 = lN 52 := wb_c 52 (by decide)
  have e2 : lN (1023 + k) <<< ((nI 52).toInt64 &&& 63) = lN ((1023 + k) * 2 ^ 52) := by
    rw [e]
    apply wb_inj
    rw [Int64.toBitVec_shiftLeft, wb_tb, wb_tb, wb_tb, wb_sm 52 (by decide)]
    apply BitVec.eq_of_toNat_eq
    rw [BitVec.shiftLeft_eq', BitVec.toNat_shiftLeft, BitVec.toNat_ofNat, BitVec.toNat_ofNat, BitVec.toNat_ofNat, Nat.mod_eq_of_lt (show 52 < 2 ^ 64 by decide), Nat.shiftLeft_eq, Nat.mul_mod, Nat.mod_mod, ← Nat.mul_mod]
  rw [e2]
  apply wb_inj
  rw [Int64.toBitVec_or, wb_tb, wb_tb, wb_tb]
  have h2 : (1023 + k) * 2 ^ 52 ||| T = (1023 + k) * 4503599627370496 + T := by
    rw [Nat.mul_comm, ← Nat.two_pow_add_eq_or_of_lt (show T < 2 ^ 52 from hT)]
  rw [← h2]
  apply BitVec.eq_of_getLsbD_eq
  intro i hi
  rw [BitVec.getLsbD_or, BitVec.getLsbD_ofNat, BitVec.getLsbD_ofNat, BitVec.getLsbD_ofNat, Nat.testBit_or]
  simp [hi]

set_option maxHeartbeats 4000000 in
set_option maxRecDepth 100000 in
theorem c_X2_bitsOf_z {l : Launch}  : Met l yX2_bitsOf (.code yX2_bitsOf cX2_bitsOf 7 (some .long) :: WG) (rmL 0) (va_Pc [.double 0] (fun _ => True)) (bq_S (.long (q_d2b 0))) 0 0 (fun _ => False) := by
  refine bq_of [some (.double 0), none, none, none, none, none, none] rfl rfl (Nat.le_of_ble_eq_true rfl) (by decide) ?_
  intro P_ E_ s M_ B_ T_ K_ C hv
  refine g_dload0 C dX2_bitsOf_0 ?_
  refine g_dconst1 C dX2_bitsOf_1 ?_
  refine g_dcmp C dX2_bitsOf_2 ?_
  refine g_if_ge C 8 dX2_bitsOf_3 (by decide) (fun h3 => ?_) (fun h3 => ?_)
  · exact absurd h3 fp_0lt
  · refine g_lconst C 0 (by decide) dX2_bitsOf_6 ?_
    exact g_lret C (q_d2b_0.symm) dX2_bitsOf_7

set_option maxHeartbeats 4000000 in
set_option maxRecDepth 100000 in
theorem c_X2_bitsOf_n {l : Launch} {b : UInt64} {c : Nat} {q : Int} (hF : FPN b c q) (hq : q ≤ -44) : Met l yX2_bitsOf (.code yX2_bitsOf cX2_bitsOf 7 (some .long) :: WG) (rmL 0) (va_Pc [.double b] (fun _ => True)) (bq_S (.long (q_d2b b))) 0 0 (fun _ => False) := by
  refine bq_of [some (.double b), none, none, none, none, none, none] rfl rfl (Nat.le_of_ble_eq_true rfl) (by decide) ?_
  intro P_ E_ s M_ B_ T_ K_ C hv
  refine g_dload0 C dX2_bitsOf_0 ?_
  refine g_dconst1 C dX2_bitsOf_1 ?_
  refine g_dcmp C dX2_bitsOf_2 ?_
  refine g_if_ge C 8 dX2_bitsOf_3 (by decide) (fun h3 => ?_) (fun h3 => ?_)
  · refine g_ldc2 C wq_X2_204 dX2_bitsOf_8 ?_
    refine g_lstore2 C rfl dX2_bitsOf_11 ?_
    refine g_dload0 C dX2_bitsOf_12 ?_
    refine g_dstore4 C rfl dX2_bitsOf_13 ?_
    refine g_iconst C (nI 0) (by decide) dX2_bitsOf_15 ?_
    refine g_istore6 C rfl dX2_bitsOf_16 ?_
    refine g_lp2 (fun (k : Nat) (z : UInt64) => FPN z c (q - k)) (fun (k : Nat) (z : UInt64) => 100 - k) (fun (k : Nat) (z : UInt64) => [some (.double b), none, some (.long (lN (1023 + k))), none, some (.double z), none, some (.int (nI k))]) 0 b (by rw [show q - ((0 : Nat) : Int) = q by omega]; exact hF) rfl ?_
    rintro k z hz ih
    try dsimp only at ih ⊢
    have hk9 : k ≤ 8 := by have := hz.2.2.2.1; omega
    refine g_iload6 C dX2_bitsOf_18 ?_
    refine g_sipush C (nI 1023) (by decide) dX2_bitsOf_20 ?_
    refine g_icmp_geN C (by omega) (by omega) 53 dX2_bitsOf_23 (by decide) (fun h23 => ?_) (fun h23 => ?_)
    · omega
    · refine g_dload4 C dX2_bitsOf_26 ?_
      refine g_ldc2d C wq_X2_206 dX2_bitsOf_28 ?_
      refine g_dcmp C dX2_bitsOf_31 ?_
      refine g_if_lt C 53 dX2_bitsOf_32 (by decide) (fun h32 => ?_) (fun h32 => ?_)
      · have hqk := (fp_lt2 hz).mp h32
        have hz2 : FPN z c (-52) := by rw [← hqk]; exact hz
        have hq9 := q_d2b_n hF
        refine g_lload2 C dX2_bitsOf_53 ?_
        refine g_bipush C (nI 52) (by decide) dX2_bitsOf_54 ?_
        refine g_lshl C _ rfl dX2_bitsOf_56 ?_
        refine g_dload4 C dX2_bitsOf_57 ?_
        refine g_dconst1 C dX2_bitsOf_59 ?_
        refine g_dsub C ((fp_low hz2).1) dX2_bitsOf_60 ?_
        refine g_ldc2d C wq_X2_208 dX2_bitsOf_61 ?_
        refine g_dmul C ((fp_low hz2).2.1) dX2_bitsOf_64 ?_
        refine g_d2l C dX2_bitsOf_65 ?_
        refine g_lor C dX2_bitsOf_66 ?_
        exact g_lret C (by rw [hq9, fp_bits hF, fp_low2 hz2, fp_join (by have := hz2.2.2.1; omega), show (q + 1075).toNat = 1023 + k by omega]) dX2_bitsOf_67
      · refine g_dload4 C dX2_bitsOf_35 ?_
        refine g_ldc2d C wq_X2_206 dX2_bitsOf_37 ?_
        refine g_ddiv C (fp_nn (fp_half hz (by have := mt (fp_lt2 hz).mpr h32; have := hz.2.2.2.1; omega)).1) dX2_bitsOf_40 ?_
        refine g_dstore4 C rfl dX2_bitsOf_41 ?_
        refine g_lload2 C dX2_bitsOf_43 ?_
        refine g_lconst C 1 (by decide) dX2_bitsOf_44 ?_
        refine g_ladd C dX2_bitsOf_45 ?_
        refine g_lstore2 C rfl dX2_bitsOf_46 ?_
        refine g_iinc6 C _ rfl dX2_bitsOf_47 (nI_1 _) ?_
        refine g_goto C 18 dX2_bitsOf_50 (by decide) ?_
        rw [show lN (1023 + k) + 1 = lN (1023 + (k + 1)) from lN_1 _]
        exact ih (k + 1) _ (by have h9 := fp_half hz (by have := mt (fp_lt2 hz).mpr h32; have := hz.2.2.2.1; omega); rw [show q - ((k + 1 : Nat) : Int) = q - (k : Int) - 1 by omega]; exact h9) (by show 100 - (k + 1) < 100 - k; omega)
  · exact absurd (Int32.not_le.mp h3) (fp_ge1 hF)

set_option maxHeartbeats 4000000 in
set_option maxRecDepth 100000 in
theorem c_X2_plotDigest {l : Launch} {dC : Nat → ClassId} {dI : Nat → Nat → Nat} {cI cL cJ : ClassId} {g1 g2 : Nat} {A : Nat → Prop} {o sa ba a e : Nat} {t : Nat → Nat} {n len : Nat} {tx : Nat → Int32} {y : Int32} {d : RW} {x : PS} {sv : Nat → LO} {h0 : Int64} {p : Nat} (hp : p < 40) (hki : INV d)  : Met l yX2_plotDigest (.code yX2_plotDigest cX2_plotDigest 8 (some .long) :: WG) (rmL 5) (va_Pc [.ref o, .long h0, .int (nI p)] (BDM dC dI cI cL cJ g1 g2 A o sa ba a e t n len tx y d (q_rw d 0) x sv)) (bq_S (.long (q_mixv (q_mxs (fun k => q_bp d y (p * 3 + k / 4) (k % 4)) (q_mxs (fun k => q_pp d y (q_rc d) p k) h0 9) 12) (q_yoM d y p 3).toInt64))) 0 0 (fun _ => False) := by
  refine bq_of [some (.ref o), some (.long h0), none, some (.int (nI p)), none, none, none, none] rfl rfl (Nat.le_of_ble_eq_true rfl) (by decide) ?_
  intro P_ E_ s M_ B_ T_ K_ C hv
  obtain ⟨hP, hD, hK, hZ, hX⟩ := hv
  have hS : va_S A s.heap s.heap [] := va_S.rf
  refine g_lload1 C dX2_plotDigest_0 ?_
  refine g_lstore4 C rfl dX2_plotDigest_1 ?_
  refine g_iconst C (nI 0) (by decide) dX2_plotDigest_3 ?_
  refine g_istore6 C rfl dX2_plotDigest_4 ?_
  refine g_lp1 (fun (j : Nat) => j ≤ 9) (fun j => 9 - j) (fun j => [some (.ref o), some (.long h0), none, some (.int (nI p)), some (.long (q_mxs (fun k => q_pp d y (q_rc d) p k) h0 j)), none, some (.int (nI j)), none]) 0 (by omega) rfl ?_
  rintro j hj ih
  try dsimp only at ih ⊢
  refine g_iload6 C dX2_plotDigest_6 ?_
  refine g_bipush C (nI 8) (by decide) dX2_plotDigest_8 ?_
  refine g_icmp_gtN C (by omega) (by omega) 39 dX2_plotDigest_10 (by decide) (fun h10 => ?_) (fun h10 => ?_)
  · refine g_iconst C (nI 1) (by decide) dX2_plotDigest_39 ?_
    refine g_istore6 C rfl dX2_plotDigest_40 ?_
    obtain rfl : j = 9 := by omega
    refine g_lp1 (fun (dd : Nat) => dd ≤ 3) (fun dd => 3 - dd) (fun dd => [some (.ref o), some (.long h0), none, some (.int (nI p)), some (.long (q_mxs (fun k => q_bp d y (p * 3 + k / 4) (k % 4)) (q_mxs (fun k => q_pp d y (q_rc d) p k) h0 9) (4 * dd))), none, some (.int (nI (dd + 1))), none]) 0 (by omega) rfl ?_
    rintro dd hdd ihd
    try dsimp only at ihd ⊢
    refine g_iload6 C dX2_plotDigest_42 ?_
    refine g_iconst C (nI 3) (by decide) dX2_plotDigest_44 ?_
    refine g_icmp_gtN C (by omega) (by omega) 91 dX2_plotDigest_45 (by decide) (fun h45 => ?_) (fun h45 => ?_)
    · obtain rfl : dd = 3 := by omega
      refine g_ldc2 C wq_X2_187 dX2_plotDigest_91 ?_
      refine g_lload4 C dX2_plotDigest_94 ?_
      refine g_lmul C dX2_plotDigest_96 ?_
      refine g_aload0 C dX2_plotDigest_97 ?_
      refine g_get (ci := 2) (T := TX2) (N := 6) C inX2 hK hP 0 rfl rfl 0 (by decide) wf_X2_10 ⟨rfl, rfl, rfl⟩ rfl dX2_plotDigest_98 ?_
      refine g_iload3 C dX2_plotDigest_101 ?_
      refine g_lcV1 C hK (P_n hP) hZ hS (c_X1_yearOfRest (by omega) hki) wl_X2_175 wi_X1_yearOfRest wv_X1_yearOfRest wc_X1_yearOfRest (by decide +kernel) ⟨rfl, rfl, by decide, by decide⟩ rfl (by simp [Value.category]) ⟨by decide, by decide⟩ dX2_plotDigest_102 ?_
      rw [q_yor_M 3 (by decide)]
      refine g_i2l C _ rfl dX2_plotDigest_105 ?_
      refine g_ladd C dX2_plotDigest_106 ?_
      exact g_lret C (rfl) dX2_plotDigest_107
    · refine g_iconst C (nI 0) (by decide) dX2_plotDigest_48 ?_
      refine g_istore7 C rfl dX2_plotDigest_49 ?_
      refine g_lp1 (fun (w : Nat) => w ≤ 4) (fun w => 4 - w) (fun w => [some (.ref o), some (.long h0), none, some (.int (nI p)), some (.long (q_mxs (fun k => q_bp d y (p * 3 + k / 4) (k % 4)) (q_mxs (fun k => q_pp d y (q_rc d) p k) h0 9) (4 * dd + w))), none, some (.int (nI (dd + 1))), some (.int (nI w))]) 0 (by omega) rfl ?_
      rintro w hw ihw
      try dsimp only at ihw ⊢
      refine g_iload7 C dX2_plotDigest_51 ?_
      refine g_iconst C (nI 3) (by decide) dX2_plotDigest_53 ?_
      refine g_icmp_gtN C (by omega) (by omega) 85 dX2_plotDigest_54 (by decide) (fun h54 => ?_) (fun h54 => ?_)
      · obtain rfl : w = 4 := by omega
        refine g_iinc6 C _ rfl dX2_plotDigest_85 (nI_1 _) ?_
        refine g_goto C 42 dX2_plotDigest_88 (by decide) ?_
        refine g_fg7 ?_
        exact ihd (dd + 1) (by omega) (by show 3 - (dd + 1) < 3 - dd; omega)
      · refine g_ldc2 C wq_X2_187 dX2_plotDigest_57 ?_
        refine g_lload4 C dX2_plotDigest_60 ?_
        refine g_lmul C dX2_plotDigest_62 ?_
        refine g_aload0 C dX2_plotDigest_63 ?_
        refine g_get (ci := 2) (T := TX2) (N := 6) C inX2 hK hP 0 rfl rfl 0 (by decide) wf_X2_10 ⟨rfl, rfl, rfl⟩ rfl dX2_plotDigest_64 ?_
        refine g_iload3 C dX2_plotDigest_67 ?_
        refine g_iload6 C dX2_plotDigest_68 ?_
        refine g_iload7 C dX2_plotDigest_70 ?_
        refine g_lcV3 C hK (P_n hP) hZ hS (c_X1_burialProperty (by omega) (by omega) (by omega) (by omega) hki) wl_X2_160 wi_X1_burialProperty wv_X1_burialProperty wc_X1_burialProperty (by decide +kernel) ⟨rfl, rfl, by decide, by decide⟩ rfl (by simp [Value.category]) ⟨by decide, by decide⟩ dX2_plotDigest_72 ?_
        refine g_top (show q_bp d y (p * 3 + (dd + 1 - 1)) w = q_bp d y (p * 3 + (4 * dd + w) / 4) ((4 * dd + w) % 4) from by rw [show (4 * dd + w) / 4 = dd by omega, show (4 * dd + w) % 4 = w by omega]; rfl) ?_
        refine g_i2l C _ rfl dX2_plotDigest_75 ?_
        refine g_ladd C dX2_plotDigest_76 ?_
        refine g_lstore4 C rfl dX2_plotDigest_77 ?_
        refine g_iinc7 C _ rfl dX2_plotDigest_79 (nI_1 _) ?_
        refine g_goto C 51 dX2_plotDigest_82 (by decide) ?_
        exact ihw (w + 1) (by omega) (by show 4 - (w + 1) < 4 - w; omega)
  · refine g_ldc2 C wq_X2_187 dX2_plotDigest_13 ?_
    refine g_lload4 C dX2_plotDigest_16 ?_
    refine g_lmul C dX2_plotDigest_18 ?_
    refine g_aload0 C dX2_plotDigest_19 ?_
    refine g_get (ci := 2) (T := TX2) (N := 6) C inX2 hK hP 0 rfl rfl 0 (by decide) wf_X2_10 ⟨rfl, rfl, rfl⟩ rfl dX2_plotDigest_20 ?_
    refine g_iload3 C dX2_plotDigest_23 ?_
    refine g_iload6 C dX2_plotDigest_24 ?_
    refine g_lcV2 C hK (P_n hP) hZ hS (c_X1_plotProperty (by omega) (by omega) hki) wl_X2_152 wi_X1_plotProperty wv_X1_plotProperty wc_X1_plotProperty (by decide +kernel) ⟨rfl, rfl, by decide, by decide⟩ rfl (by simp [Value.category]) ⟨by decide, by decide⟩ dX2_plotDigest_26 ?_
    refine g_top (q_pp_rc (q_rb_rc d (by omega))) ?_
    refine g_i2l C _ rfl dX2_plotDigest_29 ?_
    refine g_ladd C dX2_plotDigest_30 ?_
    refine g_lstore4 C rfl dX2_plotDigest_31 ?_
    refine g_iinc6 C _ rfl dX2_plotDigest_33 (nI_1 _) ?_
    refine g_goto C 6 dX2_plotDigest_36 (by decide) ?_
    exact ih (j + 1) (by omega) (by show 9 - (j + 1) < 9 - j; omega)

set_option maxHeartbeats 4000000 in
set_option maxRecDepth 100000 in
theorem c_X2_familyDigest {l : Launch} {dC : Nat → ClassId} {dI : Nat → Nat → Nat} {cI cL cJ : ClassId} {g1 g2 : Nat} {A : Nat → Prop} {o sa ba a e : Nat} {t : Nat → Nat} {n len : Nat} {tx : Nat → Int32} {y : Int32} {d : RW} {x : PS} {sv : Nat → LO} {h0 : Int64} {f : Nat} (hf : f < 10) (hki : INV d)  : Met l yX2_familyDigest (.code yX2_familyDigest cX2_familyDigest 7 (some .long) :: WG) (rmL 5) (va_Pc [.ref o, .long h0, .int (nI f)] (BDM dC dI cI cL cJ g1 g2 A o sa ba a e t n len tx y d (q_rw d 0) x sv)) (bq_S (.long (q_mxs (fun k => q_fpM d y f k) h0 6))) 0 0 (fun _ => False) := by
  refine bq_of [some (.ref o), some (.long h0), none, some (.int (nI f)), none, none, none] rfl rfl (Nat.le_of_ble_eq_true rfl) (by decide) ?_
  intro P_ E_ s M_ B_ T_ K_ C hv
  obtain ⟨hP, hD, hK, hZ, hX⟩ := hv
  have hS : va_S A s.heap s.heap [] := va_S.rf
  refine g_lload1 C dX2_familyDigest_0 ?_
  refine g_lstore4 C rfl dX2_familyDigest_1 ?_
  refine g_iconst C (nI 0) (by decide) dX2_familyDigest_3 ?_
  refine g_istore6 C rfl dX2_familyDigest_4 ?_
  refine g_lp1 (fun (j : Nat) => j ≤ 6) (fun j => 6 - j) (fun j => [some (.ref o), some (.long h0), none, some (.int (nI f)), some (.long (q_mxs (fun k => q_fpM d y f k) h0 j)), none, some (.int (nI j))]) 0 (by omega) rfl ?_
  rintro j hj ih
  try dsimp only at ih ⊢
  refine g_iload6 C dX2_familyDigest_6 ?_
  refine g_iconst C (nI 5) (by decide) dX2_familyDigest_8 ?_
  refine g_icmp_gtN C (by omega) (by omega) 38 dX2_familyDigest_9 (by decide) (fun h9 => ?_) (fun h9 => ?_)
  · obtain rfl : j = 6 := by omega
    refine g_lload4 C dX2_familyDigest_38 ?_
    exact g_lret C (rfl) dX2_familyDigest_40
  · refine g_ldc2 C wq_X2_187 dX2_familyDigest_12 ?_
    refine g_lload4 C dX2_familyDigest_15 ?_
    refine g_lmul C dX2_familyDigest_17 ?_
    refine g_aload0 C dX2_familyDigest_18 ?_
    refine g_get (ci := 2) (T := TX2) (N := 6) C inX2 hK hP 0 rfl rfl 0 (by decide) wf_X2_10 ⟨rfl, rfl, rfl⟩ rfl dX2_familyDigest_19 ?_
    refine g_iload3 C dX2_familyDigest_22 ?_
    refine g_iload6 C dX2_familyDigest_23 ?_
    refine g_lcV2 C hK (P_n hP) hZ hS (c_X1_familyProperty (by omega) (by omega) hki) wl_X2_163 wi_X1_familyProperty wv_X1_familyProperty wc_X1_familyProperty (by decide +kernel) ⟨rfl, rfl, by decide, by decide⟩ rfl (by simp [Value.category]) ⟨by decide, by decide⟩ dX2_familyDigest_25 ?_
    refine g_top (q_fp_M (by omega)) ?_
    refine g_i2l C _ rfl dX2_familyDigest_28 ?_
    refine g_ladd C dX2_familyDigest_29 ?_
    refine g_lstore4 C rfl dX2_familyDigest_30 ?_
    refine g_iinc6 C _ rfl dX2_familyDigest_32 (nI_1 _) ?_
    refine g_goto C 6 dX2_familyDigest_35 (by decide) ?_
    exact ih (j + 1) (by omega) (by show 6 - (j + 1) < 6 - j; omega)

set_option maxHeartbeats 4000000 in
set_option maxRecDepth 100000 in
theorem c_X2_bufferDigest {l : Launch} {dC : Nat → ClassId} {dI : Nat → Nat → Nat} {cI cL cJ : ClassId} {g1 g2 : Nat} {A : Nat → Prop} {o sa ba a e : Nat} {t : Nat → Nat} {n len : Nat} {tx : Nat → Int32} {y : Int32} {d : RW} {x : PS} {sv : Nat → LO} {h0 : Int64} (hl60 : len ≤ 60)  : Met l yX2_bufferDigest (.code yX2_bufferDigest cX2_bufferDigest 6 (some .long) :: WG) (rmL 0) (va_Pc [.ref o, .long h0] (BDM dC dI cI cL cJ g1 g2 A o sa ba a e t n len tx y d (q_rw d 0) x sv)) (bq_S (.long (q_mxs tx (q_mixv h0 (nI len).toInt64) len))) 0 0 (fun _ => False) := by
  refine bq_of [some (.ref o), some (.long h0), none, none, none, none] rfl rfl (Nat.le_of_ble_eq_true rfl) (by decide) ?_
  intro P_ E_ s M_ B_ T_ K_ C hv
  obtain ⟨hP, hD, hK, hZ, hX⟩ := hv
  have hS : va_S A s.heap s.heap [] := va_S.rf
  refine g_ldc2 C wq_X2_187 dX2_bufferDigest_0 ?_
  refine g_lload1 C dX2_bufferDigest_3 ?_
  refine g_lmul C dX2_bufferDigest_4 ?_
  refine g_aload0 C dX2_bufferDigest_5 ?_
  refine g_get (ci := 2) (T := TX2) (N := 6) C inX2 hK hP 0 rfl rfl 4 (by decide) wf_X2_28 ⟨rfl, rfl, rfl⟩ rfl dX2_bufferDigest_6 ?_
  refine g_i2l C _ rfl dX2_bufferDigest_9 ?_
  refine g_ladd C dX2_bufferDigest_10 ?_
  refine g_lstore3 C rfl dX2_bufferDigest_11 ?_
  refine g_iconst C (nI 0) (by decide) dX2_bufferDigest_12 ?_
  refine g_istore5 C rfl dX2_bufferDigest_13 ?_
  refine g_lp1 (fun (j : Nat) => j ≤ len) (fun j => len - j) (fun j => [some (.ref o), some (.long h0), none, some (.long (q_mxs tx (q_mixv h0 (nI len).toInt64) j)), none, some (.int (nI j))]) 0 (by omega) rfl ?_
  rintro j hj ih
  try dsimp only at ih ⊢
  refine g_iload5 C dX2_bufferDigest_15 ?_
  refine g_aload0 C dX2_bufferDigest_17 ?_
  refine g_get (ci := 2) (T := TX2) (N := 6) C inX2 hK hP 0 rfl rfl 4 (by decide) wf_X2_28 ⟨rfl, rfl, rfl⟩ rfl dX2_bufferDigest_18 ?_
  refine g_icmp_geN C (by omega) (by omega) 52 dX2_bufferDigest_21 (by decide) (fun h21 => ?_) (fun h21 => ?_)
  · obtain rfl : j = len := by omega
    refine g_lload3 C dX2_bufferDigest_52 ?_
    exact g_lret C (rfl) dX2_bufferDigest_53
  · refine g_iload5 C dX2_bufferDigest_24 ?_
    refine g_bipush C (nI 60) (by decide) dX2_bufferDigest_26 ?_
    refine g_icmp_geN C (by omega) (by omega) 52 dX2_bufferDigest_28 (by decide) (fun h28 => ?_) (fun h28 => ?_)
    · omega
    · refine g_ldc2 C wq_X2_187 dX2_bufferDigest_31 ?_
      refine g_lload3 C dX2_bufferDigest_34 ?_
      refine g_lmul C dX2_bufferDigest_35 ?_
      refine g_aload0 C dX2_bufferDigest_36 ?_
      refine g_get (ci := 2) (T := TX2) (N := 6) C inX2 hK hP 0 rfl rfl 3 (by decide) wf_X2_24 ⟨rfl, rfl, rfl⟩ rfl dX2_bufferDigest_37 ?_
      refine g_iload5 C dX2_bufferDigest_40 ?_
      refine g_iald C hK hP 2 0 rfl rfl (by omega) (by decide) dX2_bufferDigest_42 ?_
      refine g_i2l C _ rfl dX2_bufferDigest_43 ?_
      refine g_ladd C dX2_bufferDigest_44 ?_
      refine g_lstore3 C rfl dX2_bufferDigest_45 ?_
      refine g_iinc5 C _ rfl dX2_bufferDigest_46 (nI_1 _) ?_
      refine g_goto C 15 dX2_bufferDigest_49 (by decide) ?_
      exact ih (j + 1) (by omega) (by show len - (j + 1) < len - j; omega)

set_option maxHeartbeats 4000000 in
set_option maxRecDepth 100000 in
theorem c_X2_digest {l : Launch} {dC : Nat → ClassId} {dI : Nat → Nat → Nat} {cI cL cJ : ClassId} {g1 g2 : Nat} {A : Nat → Prop} {o sa ba a e : Nat} {t : Nat → Nat} {n len : Nat} {tx : Nat → Int32} {y : Int32} {d : RW} {x : PS} {sv : Nat → LO} (hl60 : len ≤ 60) (hki : INV d)  : Met l yX2_digest (.code yX2_digest cX2_digest 4 (some .long) :: WG) (rmL 6) (va_Pc [.ref o] (BDM dC dI cI cL cJ g1 g2 A o sa ba a e t n len tx y d (q_rw d 0) x sv)) (bq_S (.long (q_dig d y (nI n) len tx))) 0 0 (fun _ => False) := by
  refine bq_of [some (.ref o), none, none, none] rfl rfl (Nat.le_of_ble_eq_true rfl) (by decide) ?_
  intro P_ E_ s M_ B_ T_ K_ C hv
  obtain ⟨hP, hD, hK, hZ, hX⟩ := hv
  have hS : va_S A s.heap s.heap [] := va_S.rf
  have hbits : Met l yX2_bitsOf (.code yX2_bitsOf cX2_bitsOf 7 (some .long) :: WG) (rmL 0) (va_Pc [.double (q_meanM d)] (fun _ => True)) (bq_S (.long (q_d2b (q_meanM d)))) 0 0 (fun _ => False) := by
    rcases fp_meanM hki with ⟨-, z⟩ | ⟨-, c, q, z1, z2⟩
    · rw [z]; exact c_X2_bitsOf_z
    · exact c_X2_bitsOf_n z1 z2
  refine g_ldc2 C wq_X2_185 dX2_digest_0 ?_
  refine g_lstore1 C rfl dX2_digest_3 ?_
  refine g_iconst C (nI 0) (by decide) dX2_digest_4 ?_
  refine g_istore3 C rfl dX2_digest_5 ?_
  refine g_lp1 (fun (j : Nat) => j ≤ 9) (fun j => 9 - j) (fun j => [some (.ref o), some (.long (q_mxs (fun k => q_ctM d y y (nI n) (q_rc d) k) 2267 (j))), none, some (.int (nI j))]) 0 (by omega) rfl ?_
  rintro j hj ihj
  try dsimp only at ihj ⊢
  refine g_iload3 C dX2_digest_6 ?_
  refine g_bipush C (nI 8) (by decide) dX2_digest_7 ?_
  refine g_icmp_gtN C (by omega) (by omega) 31 dX2_digest_9 (by decide) (fun h9 => ?_) (fun h9 => ?_)
  · refine g_iconst C (nI 0) (by decide) dX2_digest_31 ?_
    refine g_istore3 C rfl dX2_digest_32 ?_
    obtain rfl : j = 9 := by omega
    refine g_lp1 (fun (p : Nat) => p ≤ 40) (fun p => 40 - p) (fun p => [some (.ref o), some (.long (q_dgP d y (q_mxs (fun k => q_ctM d y y (nI n) (q_rc d) k) 2267 (9)) (p))), none, some (.int (nI p))]) 0 (by omega) rfl ?_
    rintro p hp ihp
    try dsimp only at ihp ⊢
    refine g_iload3 C dX2_digest_33 ?_
    refine g_bipush C (nI 40) (by decide) dX2_digest_34 ?_
    refine g_icmp_geN C (by omega) (by omega) 52 dX2_digest_36 (by decide) (fun h36 => ?_) (fun h36 => ?_)
    · refine g_iconst C (nI 0) (by decide) dX2_digest_52 ?_
      refine g_istore3 C rfl dX2_digest_53 ?_
      obtain rfl : p = 40 := by omega
      refine g_lp1 (fun (f : Nat) => f ≤ 10) (fun f => 10 - f) (fun f => [some (.ref o), some (.long (q_dgF d y (q_dgP d y (q_mxs (fun k => q_ctM d y y (nI n) (q_rc d) k) 2267 (9)) (40)) (f))), none, some (.int (nI f))]) 0 (by omega) rfl ?_
      rintro f hf ihf
      try dsimp only at ihf ⊢
      refine g_iload3 C dX2_digest_54 ?_
      refine g_bipush C (nI 10) (by decide) dX2_digest_55 ?_
      refine g_icmp_geN C (by omega) (by omega) 87 dX2_digest_57 (by decide) (fun h57 => ?_) (fun h57 => ?_)
      · obtain rfl : f = 10 := by omega
        refine g_ldc2 C wq_X2_187 dX2_digest_87 ?_
        refine g_lload1 C dX2_digest_90 ?_
        refine g_lmul C dX2_digest_91 ?_
        refine g_aload0 C dX2_digest_92 ?_
        refine g_get (ci := 2) (T := TX2) (N := 6) C inX2 hK hP 0 rfl rfl 0 (by decide) wf_X2_10 ⟨rfl, rfl, rfl⟩ rfl dX2_digest_93 ?_
        refine g_lcV0 C hK (P_n hP) hZ hS (c_X1_meanOfFees (fp_nanC hki)) wl_X2_181 wi_X1_meanOfFees wv_X1_meanOfFees wc_X1_meanOfFees (by decide +kernel) ⟨rfl, rfl, by decide, by decide⟩ rfl (by simp [Value.category]) ⟨by decide, by decide⟩ dX2_digest_96 ?_
        rw [q_mean_M]
        refine g_scS1 C (hbits) wl_X2_196 wt_X2_bitsOf wn_X2 wc_X2_bitsOf (by decide +kernel) ⟨rfl, rfl, by decide, by decide⟩ rfl (by simp [Value.category]) ⟨by decide, by decide⟩ dX2_digest_99 ?_
        refine g_ladd C dX2_digest_102 ?_
        refine g_lstore1 C rfl dX2_digest_103 ?_
        refine g_aload0 C dX2_digest_104 ?_
        refine g_lload1 C dX2_digest_105 ?_
        refine g_pcN (As := [.long (q_mixv (q_dgF d y (q_dgP d y (q_mxs (fun k => q_ctM d y y (nI n) (q_rc d) k) 2267 (9)) (40)) (10)) (q_d2b (q_meanM d)))]) C 1 rfl (c_X2_bufferDigest hl60) wl_X2_200 wi_X2_bufferDigest wv_X2_bufferDigest wn_X2 wc_X2_bufferDigest (by decide +kernel) ⟨rfl, rfl, by decide, by decide⟩ BDM_bl (va_recv (ci := 2) (q0 := 0) hK hP rfl rfl) (BDM_at hK hP hD hZ hX hS (fun _ h => h)) rfl rfl (by simp [Value.category]) ⟨by decide, by decide⟩ dX2_digest_106 ?_
        exact g_lret C (rfl) dX2_digest_109
      · refine g_ldc2 C wq_X2_187 dX2_digest_60 ?_
        refine g_aload0 C dX2_digest_63 ?_
        refine g_lload1 C dX2_digest_64 ?_
        refine g_iload3 C dX2_digest_65 ?_
        refine g_pcN (As := [.long (q_dgF d y (q_dgP d y (q_mxs (fun k => q_ctM d y y (nI n) (q_rc d) k) 2267 (9)) (40)) (f)), .int (nI f)]) C 2 rfl (c_X2_familyDigest (by omega) hki) wl_X2_193 wi_X2_familyDigest wv_X2_familyDigest wn_X2 wc_X2_familyDigest (by decide +kernel) ⟨rfl, rfl, by decide, by decide⟩ BDM_bl (va_recv (ci := 2) (q0 := 0) hK hP rfl rfl) (BDM_at hK hP hD hZ hX hS (fun _ h => h)) rfl rfl (by simp [Value.category]) ⟨by decide, by decide⟩ dX2_digest_66 ?_
        refine g_lmul C dX2_digest_69 ?_
        refine g_aload0 C dX2_digest_70 ?_
        refine g_get (ci := 2) (T := TX2) (N := 6) C inX2 hK hP 0 rfl rfl 0 (by decide) wf_X2_10 ⟨rfl, rfl, rfl⟩ rfl dX2_digest_71 ?_
        refine g_iload3 C dX2_digest_74 ?_
        refine g_lcV1 C hK (P_n hP) hZ hS (c_X1_cheapestPlot (by omega) hki) wl_X2_172 wi_X1_cheapestPlot wv_X1_cheapestPlot wc_X1_cheapestPlot (by decide +kernel) ⟨rfl, rfl, by decide, by decide⟩ rfl (by simp [Value.category]) ⟨by decide, by decide⟩ dX2_digest_75 ?_
        rw [q_best_M, q_bestM_rc (rc2 := q_rc d) 40 (fun p hp => q_rb_rc d hp)]
        refine g_i2l C _ rfl dX2_digest_78 ?_
        refine g_ladd C dX2_digest_79 ?_
        refine g_lstore1 C rfl dX2_digest_80 ?_
        refine g_iinc3 C _ rfl dX2_digest_81 (nI_1 _) ?_
        refine g_goto C 54 dX2_digest_84 (by decide) ?_
        exact ihf (f + 1) (by omega) (by show 10 - (f + 1) < 10 - f; omega)
    · refine g_aload0 C dX2_digest_39 ?_
      refine g_lload1 C dX2_digest_40 ?_
      refine g_iload3 C dX2_digest_41 ?_
      refine g_pcN (As := [.long (q_dgP d y (q_mxs (fun k => q_ctM d y y (nI n) (q_rc d) k) 2267 (9)) (p)), .int (nI p)]) C 2 rfl (c_X2_plotDigest (by omega) hki) wl_X2_189 wi_X2_plotDigest wv_X2_plotDigest wn_X2 wc_X2_plotDigest (by decide +kernel) ⟨rfl, rfl, by decide, by decide⟩ BDM_bl (va_recv (ci := 2) (q0 := 0) hK hP rfl rfl) (BDM_at hK hP hD hZ hX hS (fun _ h => h)) rfl rfl (by simp [Value.category]) ⟨by decide, by decide⟩ dX2_digest_42 ?_
      refine g_lstore1 C rfl dX2_digest_45 ?_
      refine g_iinc3 C _ rfl dX2_digest_46 (nI_1 _) ?_
      refine g_goto C 33 dX2_digest_49 (by decide) ?_
      exact ihp (p + 1) (by omega) (by show 40 - (p + 1) < 40 - p; omega)
  · refine g_ldc2 C wq_X2_187 dX2_digest_12 ?_
    refine g_lload1 C dX2_digest_15 ?_
    refine g_lmul C dX2_digest_16 ?_
    refine g_aload0 C dX2_digest_17 ?_
    refine g_iload3 C dX2_digest_18 ?_
    refine g_pcN (As := [.int (nI j)]) C 1 rfl (c_X2_number (by omega) hki) wl_X2_166 wi_X2_number wv_X2_number wn_X2 wc_X2_number (by decide +kernel) ⟨rfl, rfl, by decide, by decide⟩ BDM_bl (va_recv (ci := 2) (q0 := 0) hK hP rfl rfl) (BDM_at hK hP hD hZ hX hS (fun _ h => h)) rfl rfl (by simp [Value.category]) ⟨by decide, by decide⟩ dX2_digest_19 ?_
    refine g_i2l C _ rfl dX2_digest_22 ?_
    refine g_ladd C dX2_digest_23 ?_
    refine g_lstore1 C rfl dX2_digest_24 ?_
    refine g_iinc3 C _ rfl dX2_digest_25 (nI_1 _) ?_
    refine g_goto C 6 dX2_digest_28 (by decide) ?_
    exact ihj (j + 1) (by omega) (by show 9 - (j + 1) < 9 - j; omega)
