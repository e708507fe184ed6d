section TN
variable {D : va_G} {cl : List vw_C} {A : Nat → Prop} {dC : Nat → ClassId} {dI : Nat → Nat → Nat} {cI cL cJ : ClassId} {g1 g2 : Nat} {t : Nat → Nat} {x1 x3 x4 v v2 : Nat → Int32} {x2 : Nat → Int64} {w : Nat} {s : State} {H H1 : Heap} {locs : List Loc} {ws bw : va_W} {x : Nat × va_E}
theorem tn_perm : ((PW cI cJ t x1 x2 x3 x4 ++ bw) ++ [x]).Perm (PW cI cJ t x1 x2 x3 x4 ++ (x :: bw)) := by
  rw [List.append_assoc]
  exact List.Perm.append_left _ List.perm_append_comm
def TLN (dC : Nat → ClassId) (dI : Nat → Nat → Nat) (cI cL cJ : ClassId) (g1 g2 : Nat) (A : Nat → Prop) (ws : va_W) (U : State) : Prop := TLM dC dI cI cL cJ g1 g2 A ws U ∧ ∀ q, U.heap.size ≤ q → A q
theorem TLN_bl : Bl (TLN dC dI cI cL cJ g1 g2 A ws) := fun U g mk a h => ⟨TLM_bl U g mk a h.1, h.2⟩
theorem TLN_at {A0 : Nat → Prop} (hK : EV dC dI cI cL cJ s) (hP : va_P (dC, dI) vwCl ws H) (hD : va_D A ws) (hZ : ST g1 g2 A0 s s.heap) (hX : XE A0 s s.heap) (hS : va_S A0 s.heap H locs) (hA : ∀ q, A q → A0 q) (hB : ∀ q, H.size ≤ q → A q) : ∀ U : State, U.heap = H → s.WarmedH U.vm → TLN dC dI cI cL cJ g1 g2 A ws U := fun U hU hW => ⟨TLM_at hK hP hD hZ hX hS hA U hU hW, by rw [hU]; exact hB⟩
theorem tw_dw (hD : va_D A (PW cI cJ t x1 x2 x3 x4 ++ (WY cI w v :: bw))) : va_D (fun q => q ∈ SPA t w) (PW cI cJ t x1 x2 x3 x4 ++ [WY cI w v]) ∧ ∀ q, q ∈ SPA t w → A q := D_l (u := PW cI cJ t x1 x2 x3 x4 ++ [WY cI w v]) (v := bw) hD
theorem tw_jn (hP : va_P D cl (PW cI cJ t x1 x2 x3 x4 ++ (WY cI w v :: bw)) H) (hD : va_D A (PW cI cJ t x1 x2 x3 x4 ++ (WY cI w v :: bw))) (hv : va_P D cl (PW cI cJ t x1 x2 x3 x4 ++ [WY cI w v2]) H1) (hk : ∀ q : Nat, q < H.size → ¬ q ∈ SPA t w → H1[q]? = H[q]?) : va_P D cl (PW cI cJ t x1 x2 x3 x4 ++ (WY cI w v2 :: bw)) H1 ∧ va_D A (PW cI cJ t x1 x2 x3 x4 ++ (WY cI w v2 :: bw)) :=
  PD_join (v := PW cI cJ t x1 x2 x3 x4 ++ [WY cI w v]) (v' := PW cI cJ t x1 x2 x3 x4 ++ [WY cI w v2]) (w := bw) hP hD hv (List.Perm.refl _) hk
end TN
section TS
variable {d : RW} {yn : Nat} {x1 x3 x4 v : Nat → Int32} {x2 : Nat → Int64}
theorem clw_eq {sv : Int32} (hwr : ∀ q, q < 40 → q_wr v q = q_rc d q) {k : Nat} (hk : k ≤ 7) : q_clw d (nI yn) (q_wr v) k = q_ctM d (nI yn) (nI yn) sv (q_rc d) k := by
  rw [q_clw_M (sv := sv) hk]; exact q_ctM_rc hwr
theorem clw_1 {rc : Nat → Bool} : q_clw d (nI yn) rc 1 = nI (q_allB d) := by
  unfold q_clw
  rw [if_neg (by decide), if_neg (by decide)]
  have h : q_cg d (nI yn) rc 1 = fun p => q_bur d p := by
    funext p
    simp [q_cg, q_i1, q_i2, q_i3]
  rw [h]; rfl
theorem fp_i2 {s : Nat} (h0 : 0 < s) (hs : s < 19201) : ∃ (c : Nat) (q : Int), FPN (FP.i2d (nI s)) c q ∧ q ≤ 0 ∧ FP.Core.fits FP.Core.b64 (.fin false c q) := by
  obtain ⟨c, q, j, f1, f2, f3, f4⟩ := fp_rep (T := s) (by omega) 0 (by decide) (by decide)
  obtain ⟨hq, hj⟩ := f3 h0
  have f0 := f1
  obtain ⟨g1, g2, g3, g4⟩ := f0
  rw [fpk_p] at g1
  rw [fpk_lo, fpk_t] at g4
  refine ⟨c, q, ⟨?_, g4.resolve_left (by omega), g1, by omega, by omega⟩, by omega, f1⟩
  refine (FP.Core.val64_i2d (nI s)).trans ?_
  rw [nI_toInt (by omega)]
  show FP.Core.roundRatio FP.Core.b64 (decide ((s : Int) < 0)) (s : Int).natAbs 1 0 = _
  rw [decide_eq_false (by omega), Int.natAbs_natCast]
  exact fp_exact f1 f2 f3 f4
theorem fp_one {x : UInt64} {c : Nat} {q : Int} (h : FPN x c q) (hq : q ≤ 0) (hf : FP.Core.fits FP.Core.b64 (.fin false c q)) : FP.dmul 4607182418800017408 x = x := by
  have hm : FP.Core.val64 (FP.dmul 4607182418800017408 x) = .fin false c q := by
    refine (FP.Core.val64_dmul 4607182418800017408 x).trans ?_
    rw [h.1, fpv_1]
    show FP.Core.roundRatio FP.Core.b64 (false != false) (4503599627370496 * c) 1 (-52 + q) = _
    refine FP.Core.roundRatio_exact FP.Core.good_b64 (by decide) hf ?_
    rw [show (-52 + q - q).toNat = 0 by omega, show (q - (-52 + q)).toNat = 52 by omega]
    omega
  have h2 : FPN (FP.dmul 4607182418800017408 x) c q := ⟨hm, h.2.1, h.2.2.1, h.2.2.2.1, h.2.2.2.2⟩
  have e := (fp_bits h2).trans (fp_bits h).symm
  exact UInt64.toBitVec_inj.mp (by have := congrArg Int64.toBitVec e; exact this)
theorem fp_mul1 {s : Nat} (h : s < 19201) : FP.dmul 4607182418800017408 (FP.i2d (nI s)) = FP.i2d (nI s) := by
  rcases Nat.eq_zero_or_pos s with rfl | h0
  · decide +kernel
  · obtain ⟨c, q, h1, h2, h3⟩ := fp_i2 h0 h
    exact fp_one h1 h2 h3
theorem fp_i2n {s : Nat} (h : s < 19201) : vf_n64 (FP.i2d (nI s)) := by
  rcases Nat.eq_zero_or_pos s with rfl | h0
  · show (FP.i2d (nI 0) &&& 0x7fffffffffffffff) ≤ 0x7ff0000000000000
    decide +kernel
  · obtain ⟨c, q, h1, h2, h3⟩ := fp_i2 h0 h
    exact fp_nn h1.1
theorem allB_le : q_allB d ≤ 120 := by
  have h := q_sN_le (fun p => q_bur d p) 3 (fun p => q_cn_le _ 3) 40
  exact h
theorem fs_n (h : INV d) : ∃ s : Nat, s < 19201 ∧ q_fs d 120 = nI s := by
  obtain ⟨s, e, h1, h2⟩ := q_fsM_rng h 120 (Nat.le_refl _)
  have h3 : q_nM d 120 ≤ 120 := by rw [← q_allB_nM]; exact allB_le
  exact ⟨s, by omega, by rw [q_fs_M]; exact e⟩
theorem fp_mulfs (h : INV d) : FP.dmul 4607182418800017408 (FP.i2d (q_fs d 120)) = FP.i2d (q_fs d 120) := by
  obtain ⟨s, hs, e⟩ := fs_n h
  rw [e]; exact fp_mul1 hs
end TS

section MC
variable {d : RW}
theorem fp_self0 {x : UInt64} {c : Nat} {q : Int} (h : FPN x c q) : Op.cmpValue (FP.dcmp x x) CmpOp.l = 0 := by
  rw [fp_dcmp, h.1, fp_order]
  simp [Op.cmpValue]
theorem mean_c0 (h : nI (q_allB d) = 0) : Op.cmpValue (FP.dcmp (q_meanM d) 0) CmpOp.l = 0 := by
  have h0 : q_allB d = 0 := by
    have := allB_le (d := d)
    rw [← nI_0] at h
    exact (nI_eq (by omega) (by decide)).mp h
  have e : q_meanM d = 0 := by rw [← q_mean_M]; exact if_pos h0
  rw [e]
  decide +kernel
theorem mean_c1 (hi : INV d) (h : ¬ nI (q_allB d) = 0) : Op.cmpValue (FP.dcmp (q_meanM d) (FP.ddiv (FP.i2d (q_fs d 120)) (FP.i2d (nI (q_allB d))))) CmpOp.l = 0 := by
  have h0 : q_allB d ≠ 0 := fun z => h (by rw [z]; rfl)
  have e : q_meanM d = FP.ddiv (FP.i2d (q_fs d 120)) (FP.i2d (nI (q_allB d))) := by rw [← q_mean_M]; exact if_neg h0
  rw [← e]
  rcases fp_meanM hi with ⟨z, -⟩ | ⟨-, c, q, hc, -⟩
  · exact absurd (q_allB_nM.trans z) h0
  · exact fp_self0 hc
theorem mean_n1 (hi : INV d) : vf_n64 (FP.dmul 4607182418800017408 (FP.i2d (q_fs d 120))) := by
  obtain ⟨s, hs, e⟩ := fs_n hi
  rw [e, fp_mul1 hs]
  exact fp_i2n hs
end MC

set_option maxHeartbeats 4000000 in
set_option maxRecDepth 100000 in
theorem c_L_told {l : Launch} {dC : Nat → ClassId} {dI : Nat → Nat → Nat} {cI cL cJ : ClassId} {g1 g2 : Nat} {A : Nat → Prop} {t : Nat → Nat} {x1 x3 x4 : Nat → Int32} {x2 : Nat → Int64} {d : RW} {yn : Nat} (hk : PKI d yn x1 x2 x3 x4) (hyn : yn ≤ 1900) {o sa ba a e : Nat} {tt : Nat → Nat} {n len : Nat} {tx : Nat → Int32} {ps : PS} {sv : Nat → LO} (hls : l.stackTraces = false) {ax ay : Int32} : Met l yL_told (.code yL_told method_22_code 15 (some .boolean) :: WG) (rmC 9 425 2584) (va_Pc [.ref o, .int ax, .int ay, .ref (t 0), .ref (t 1), .ref (t 2), .ref (t 3)] (TLN dC dI cI cL cJ g1 g2 A (PW cI cJ t x1 x2 x3 x4 ++ BW cI cL o sa ba a e tt n len (svg sv) tx (nI yn) d (q_rw d 0) ps sv))) (bq_M (some (.int (bI True))) (fun H => ∃ w9 : va_W, va_P (dC, dI) vwCl (PW cI cJ t x1 x2 x3 x4 ++ BW cI cL o sa ba a e tt n len (svg sv) tx (nI yn) d (q_rw d 0) ps sv ++ w9) H) A) 425 2584 (A) := by
  refine bq_of [some (.ref o), some (.int ax), some (.int ay), some (.ref (t 0)), some (.ref (t 1)), some (.ref (t 2)), some (.ref (t 3)), none, none, none, none, none, none, none, none] rfl rfl (Nat.le_of_ble_eq_true rfl) (by decide) ?_
  intro P_ E_ s M_ B_ T_ K_ C hv
  obtain ⟨⟨hP, hD, hK, hZ, hX⟩, hAA⟩ := hv
  have hS : va_S A s.heap s.heap [] := va_S.rf
  have hki := hk.1
  have hkg := hk.2.1
  have hkb := hk.2.2.1
  have hke := hk.2.2.2.1
  have hkf := hk.2.2.2.2
  refine g_bipush C (nI 40) (by decide) dL_told_0 ?_
  refine g_newa C hK hP hD hS hAA (by decide) (by decide) (by show _ ≤ 425; omega) (by show _ ≤ 2584; omega) dL_told_2 (fun w H hP hD hS => ?_)
  have hP := P_perm tn_perm hP
  have hD := D_perm tn_perm hD
  refine g_astore7 C rfl dL_told_4 ?_
  refine g_iconst C (-1) (by decide) dL_told_6 ?_
  refine g_aload3 C dL_told_7 ?_
  refine g_aload4 C dL_told_8 ?_
  refine g_aload7 C dL_told_10 ?_
  refine g_mS C 4 rfl (c_L_spread hk (b := -1)) wl_L_70 wt_L_spread wn_L wc_L_spread (by decide +kernel) ⟨rfl, rfl, by decide, by decide⟩ SPM_bl (SPM_at hK (tw_w hP) (tw_dw hD).1) rfl rfl (by simp [Value.category]) ⟨by show _ ≤ 425; omega, by show _ ≤ 2584; omega⟩ hS (fun q _ hq => (tw_dw hD).2 q hq) (fun q hq => (tw_dw hD).2 q hq) dL_told_12 (fun H locs hV _ hk9 hS => ?_)
  obtain ⟨v, hV, hvr⟩ := hV
  obtain ⟨hP, hD⟩ := tw_jn hP hD hV hk9
  have hwr : ∀ q, q < 40 → q_wr v q = q_rc d q := fun q hq => q_wr_rc hvr hq
  refine g_iconst C (nI 0) (by decide) dL_told_15 ?_
  refine g_istore8 C rfl dL_told_16 ?_
  refine g_lpC (A2 := Nat) (fun k H locs => k ≤ 4 ∧ va_P (dC, dI) vwCl (PW cI cJ t x1 x2 x3 x4 ++ (WY cI w v :: BW cI cL o sa ba a e tt n len (svg sv) tx (nI yn) d (q_rw d 0) ps sv)) H ∧ va_S A s.heap H locs) (fun k => 4 - k) (fun k => 1 + 92 * k) (fun k => 40 + 552 * k) (fun k => [some (.ref o), some (.int ax), some (.int ay), some (.ref (t 0)), some (.ref (t 1)), some (.ref (t 2)), some (.ref (t 3)), some (.ref w), some (.int (nI k)), none, none, none, none, none, none]) 0 ⟨by omega, hP, hS⟩ rfl rfl rfl ?_
  clear hP hS
  rintro k H locs ⟨hk4, hP, hS⟩ ih
  try dsimp only at hP hS ih ⊢
  have hat : ∀ z : Nat, z % (if k < 2 then 40 else 14) < 40 := fun z => by split <;> omega
  refine g_iload8 C dL_told_18 ?_
  refine g_iconst C (nI 4) (by decide) dL_told_20 ?_
  refine g_icmp_geN C (by omega) (by omega) 75 dL_told_21 (by decide) (fun h21 => ?_) (fun h21 => ?_)
  · refine g_iconst C (nI 0) (by decide) dL_told_75 ?_
    refine g_istore8 C rfl dL_told_76 ?_
    refine g_wd (k := 369) (n := 2248) (by omega) (by omega) ?_
    refine g_lpC (A2 := Nat) (fun k H locs => k ≤ 8 ∧ va_P (dC, dI) vwCl (PW cI cJ t x1 x2 x3 x4 ++ (WY cI w v :: BW cI cL o sa ba a e tt n len (svg sv) tx (nI yn) d (q_rw d 0) ps sv)) H ∧ va_S A s.heap H locs) (fun k => 8 - k) (fun k => 369 + 4 * k) (fun k => 2248 + 24 * k) (fun k => [some (.ref o), some (.int ax), some (.int ay), some (.ref (t 0)), some (.ref (t 1)), some (.ref (t 2)), some (.ref (t 3)), some (.ref w), some (.int (nI k)), none, none, none, none, none, none]) 0 ⟨by omega, hP, hS⟩ rfl rfl rfl ?_
    clear hP hS hat ih hk4
    rintro k H locs ⟨hk8, hP, hS⟩ ih
    try dsimp only at hP hS ih ⊢
    refine g_iload8 C dL_told_78 ?_
    refine g_bipush C (nI 8) (by decide) dL_told_80 ?_
    refine g_icmp_geN C (by omega) (by omega) 114 dL_told_82 (by decide) (fun h82 => ?_) (fun h82 => ?_)
    · refine g_iload2 C dL_told_114 ?_
      refine g_bipush C (nI 10) (by decide) dL_told_115 ?_
      refine g_pkS C 2 rfl (c_L_at (by first | decide | (split <;> omega)) (by first | decide | (split <;> omega))) wl_L_74 wt_L_at wn_L wc_L_at (by decide +kernel) ⟨rfl, rfl, by decide, by decide⟩ TR_bl (fun _ _ _ => trivial) rfl rfl (by simp [Value.category]) ⟨by show _ ≤ 425; omega, by show _ ≤ 2584; omega⟩ dL_told_117 ?_
      obtain ⟨f, hf, ef⟩ : ∃ f, f < 10 ∧ ux ay % 10 = f := ⟨_, Nat.mod_lt _ (by decide), rfl⟩
      rw [ef]
      refine g_istore8 C rfl dL_told_120 ?_
      refine g_iconst C (nI 0) (by decide) dL_told_122 ?_
      refine g_istore9 C rfl dL_told_123 ?_
      refine g_iconst C (nI 0) (by decide) dL_told_125 ?_
      refine g_istore10 C rfl dL_told_126 ?_
      refine g_iconst C (nI 0) (by decide) dL_told_128 ?_
      refine g_istore11 C rfl dL_told_129 ?_
      refine g_iconst C (nI 0) (by decide) dL_told_131 ?_
      refine g_istore12 C rfl dL_told_132 ?_
      refine g_iconst C (nI 0) (by decide) dL_told_134 ?_
      refine g_istore13 C rfl dL_told_135 ?_
      refine g_wd (k := 401) (n := 2440) (by omega) (by omega) ?_
      clear ih
      refine g_lp1 (fun (u : Nat × Nat × Nat × Nat × Int32) => u.1 ≤ 40 ∧ u.2.1 = q_cn (fun k => d 7 k = nI f) (u.1 * 3) ∧ u.2.2.1 = q_cn (fun q => q_hold d (nI yn) q = nI f) u.1 ∧ u.2.2.2.1 = q_cn (fun q => d 4 q = nI f) u.1 ∧ u.2.2.2.2 = q_fs d (u.1 * 3)) (fun u => 40 - u.1) (fun u => [some (.ref o), some (.int ax), some (.int ay), some (.ref (t 0)), some (.ref (t 1)), some (.ref (t 2)), some (.ref (t 3)), some (.ref w), some (.int (nI f)), some (.int (nI u.2.1)), some (.int (nI u.2.2.1)), some (.int (nI u.2.2.2.1)), some (.int u.2.2.2.2), some (.int (nI u.1)), none]) (0, 0, 0, 0, nI 0) ⟨by omega, rfl, rfl, rfl, rfl⟩ rfl ?_
      rintro ⟨p, th, ho, va, su⟩ ⟨hp, hth, hho, hva, hsu⟩ ih
      try dsimp only at hp hth hho hva hsu ih ⊢
      refine g_iload13 C dL_told_137 ?_
      refine g_bipush C (nI 40) (by decide) dL_told_139 ?_
      refine g_icmp_geN C (by omega) (by omega) 289 dL_told_141 (by decide) (fun h141 => ?_) (fun h141 => ?_)
      · refine g_iconst C (nI 1) (by decide) dL_told_289 ?_
        refine g_aload3 C dL_told_290 ?_
        refine g_aload4 C dL_told_291 ?_
        refine g_aload6 C dL_told_293 ?_
        refine g_aload7 C dL_told_295 ?_
        refine g_pkS C 5 rfl (c_L_counted hk (by omega) (by omega)) wl_L_84 wt_L_counted wn_L wc_L_counted (by decide +kernel) ⟨rfl, rfl, by decide, by decide⟩ PKW_bl (PKW_at hK (tw_w hP)) rfl rfl (by simp [Value.category]) ⟨by show _ ≤ 425; omega, by show _ ≤ 2584; omega⟩ dL_told_297 ?_
        refine g_top clw_1 ?_
        refine g_istore13 C rfl dL_told_300 ?_
        have e40 : p = 40 := by omega
        subst e40
        refine g_aload0 C dL_told_302 ?_
        refine g_pcN C 0 rfl (c_X2_meanFee hki) wl_L_88 wi_X2_meanFee wv_X2_meanFee wn_X2 wc_X2_meanFee (by decide +kernel) ⟨rfl, rfl, by decide, by decide⟩ BDM_bl (va_recv (ci := 2) (q0 := 0) hK (tw_b hP) rfl rfl) (BDM_at hK (tw_b hP) (tw_db hD) hZ hX hS (fun _ h => h)) rfl rfl (by simp [Value.category]) ⟨by show _ ≤ 425; omega, by show _ ≤ 2584; omega⟩ dL_told_303 ?_
        refine g_iload13 C dL_told_306 ?_
        refine g_if_ne C 315 dL_told_308 (by decide) (fun h308 => ?_) (fun h308 => ?_)
        · have hcmp : Op.cmpValue (FP.dcmp (q_meanM d) (FP.ddiv (FP.i2d (q_fs d 120)) (FP.i2d (nI (q_allB d))))) CmpOp.l = 0 := mean_c1 hki h308
          refine g_dconst1 C dL_told_315 ?_
          refine g_iload12 C dL_told_316 ?_
          refine g_i2d C dL_told_318 ?_
          refine g_dmul C (by rw [hsu]; exact mean_n1 hki) dL_told_319 ?_
          refine g_topr (show _ = Value.double (FP.i2d (q_fs d 120)) from congrArg Value.double (by rw [hsu]; exact fp_mulfs hki)) ?_
          refine g_iload13 C dL_told_320 ?_
          refine g_i2d C dL_told_322 ?_
          refine g_ddiv C (fp_nanC hki (fun z => h308 (by rw [z]; rfl))) dL_told_323 ?_
          refine g_dcmp C dL_told_324 ?_
          refine g_if_ne C 364 dL_told_325 (by decide) (fun h325 => ?_) (fun h325 => ?_)
          · exact (h325 hcmp).elim
          · refine g_aload0 C dL_told_328 ?_
            refine g_iload8 C dL_told_329 ?_
            refine g_iconst C (nI 3) (by decide) dL_told_331 ?_
            refine g_xR C 2 rfl (n_family hls hki (by omega) (by omega)) wl_L_92 wi_X2_family wv_X2_family wc_X2_family (by decide +kernel) ⟨by decide, by decide⟩ BDM_bl (va_recv (ci := 2) (q0 := 0) hK (tw_b hP) rfl rfl) (BDM_at hK (tw_b hP) (tw_db hD) hZ hX hS (fun _ h => h)) rfl rfl (by simp [Value.category]) ⟨by show _ ≤ 425; omega, by show _ ≤ 2584; omega⟩ hS dL_told_332 (fun H locs hk9 hS => ?_)
            have hP := P_kept hP hk9
            refine g_iload9 C dL_told_335 ?_
            refine g_icmp_ne C 364 dL_told_337 (by decide) (fun h337 => ?_) (fun h337 => ?_)
            · exact (h337 (by rw [← q_fp_M (by decide), hth]; rfl)).elim
            · refine g_aload0 C dL_told_340 ?_
              refine g_iload8 C dL_told_341 ?_
              refine g_iconst C (nI 4) (by decide) dL_told_343 ?_
              refine g_xR C 2 rfl (n_family hls hki (by omega) (by omega)) wl_L_92 wi_X2_family wv_X2_family wc_X2_family (by decide +kernel) ⟨by decide, by decide⟩ BDM_bl (va_recv (ci := 2) (q0 := 0) hK (tw_b hP) rfl rfl) (BDM_at hK (tw_b hP) (tw_db hD) hZ hX hS (fun _ h => h)) rfl rfl (by simp [Value.category]) ⟨by show _ ≤ 425; omega, by show _ ≤ 2584; omega⟩ hS dL_told_344 (fun H locs hk9 hS => ?_)
              have hP := P_kept hP hk9
              refine g_iload10 C dL_told_347 ?_
              refine g_icmp_ne C 364 dL_told_349 (by decide) (fun h349 => ?_) (fun h349 => ?_)
              · exact (h349 (by rw [← q_fp_M (by decide), hho]; rfl)).elim
              · refine g_aload0 C dL_told_352 ?_
                refine g_iload8 C dL_told_353 ?_
                refine g_iconst C (nI 5) (by decide) dL_told_355 ?_
                refine g_xR C 2 rfl (n_family hls hki (by omega) (by omega)) wl_L_92 wi_X2_family wv_X2_family wc_X2_family (by decide +kernel) ⟨by decide, by decide⟩ BDM_bl (va_recv (ci := 2) (q0 := 0) hK (tw_b hP) rfl rfl) (BDM_at hK (tw_b hP) (tw_db hD) hZ hX hS (fun _ h => h)) rfl rfl (by simp [Value.category]) ⟨by show _ ≤ 425; omega, by show _ ≤ 2584; omega⟩ hS dL_told_356 (fun H locs hk9 hS => ?_)
                have hP := P_kept hP hk9
                refine g_iload11 C dL_told_359 ?_
                refine g_icmp_eq C 366 dL_told_361 (by decide) (fun h361 => ?_) (fun h361 => ?_)
                · refine g_aload0 C dL_told_366 ?_
                  refine g_iload8 C dL_told_367 ?_
                  refine g_iconst C (nI 0) (by decide) dL_told_369 ?_
                  refine g_xR C 2 rfl (n_family hls hki (by omega) (by omega)) wl_L_92 wi_X2_family wv_X2_family wc_X2_family (by decide +kernel) ⟨by decide, by decide⟩ BDM_bl (va_recv (ci := 2) (q0 := 0) hK (tw_b hP) rfl rfl) (BDM_at hK (tw_b hP) (tw_db hD) hZ hX hS (fun _ h => h)) rfl rfl (by simp [Value.category]) ⟨by show _ ≤ 425; omega, by show _ ≤ 2584; omega⟩ hS dL_told_370 (fun H locs hk9 hS => ?_)
                  have hP := P_kept hP hk9
                  refine g_aload6 C dL_told_373 ?_
                  refine g_iload8 C dL_told_375 ?_
                  refine g_iald C hK hP 3 0 rfl rfl (by omega) (by decide) dL_told_377 ?_
                  refine g_top (hkf.2 f hf).1 ?_
                  refine g_icmp_ne C 421 dL_told_378 (by decide) (fun h378 => ?_) (fun h378 => ?_)
                  · exact (h378 (by rw [← q_fp_M (by decide)]; rfl)).elim
                  · refine g_aload0 C dL_told_381 ?_
                    refine g_iload8 C dL_told_382 ?_
                    refine g_iconst C (nI 1) (by decide) dL_told_384 ?_
                    refine g_xR C 2 rfl (n_family hls hki (by omega) (by omega)) wl_L_92 wi_X2_family wv_X2_family wc_X2_family (by decide +kernel) ⟨by decide, by decide⟩ BDM_bl (va_recv (ci := 2) (q0 := 0) hK (tw_b hP) rfl rfl) (BDM_at hK (tw_b hP) (tw_db hD) hZ hX hS (fun _ h => h)) rfl rfl (by simp [Value.category]) ⟨by show _ ≤ 425; omega, by show _ ≤ 2584; omega⟩ hS dL_told_385 (fun H locs hk9 hS => ?_)
                    have hP := P_kept hP hk9
                    refine g_aload6 C dL_told_388 ?_
                    refine g_bipush C (nI 10) (by decide) dL_told_390 ?_
                    refine g_iload8 C dL_told_392 ?_
                    refine g_iaddN C dL_told_394 ?_
                    refine g_iald C hK hP 3 0 rfl rfl (by omega) (by decide) dL_told_395 ?_
                    refine g_top (hkf.2 f hf).2.1 ?_
                    refine g_icmp_ne C 421 dL_told_396 (by decide) (fun h396 => ?_) (fun h396 => ?_)
                    · exact (h396 (by rw [← q_fp_M (by decide)]; rfl)).elim
                    · refine g_aload0 C dL_told_399 ?_
                      refine g_iload8 C dL_told_400 ?_
                      refine g_iconst C (nI 2) (by decide) dL_told_402 ?_
                      refine g_xR C 2 rfl (n_family hls hki (by omega) (by omega)) wl_L_92 wi_X2_family wv_X2_family wc_X2_family (by decide +kernel) ⟨by decide, by decide⟩ BDM_bl (va_recv (ci := 2) (q0 := 0) hK (tw_b hP) rfl rfl) (BDM_at hK (tw_b hP) (tw_db hD) hZ hX hS (fun _ h => h)) rfl rfl (by simp [Value.category]) ⟨by show _ ≤ 425; omega, by show _ ≤ 2584; omega⟩ hS dL_told_403 (fun H locs hk9 hS => ?_)
                      have hP := P_kept hP hk9
                      refine g_aload6 C dL_told_406 ?_
                      refine g_bipush C (nI 20) (by decide) dL_told_408 ?_
                      refine g_iload8 C dL_told_410 ?_
                      refine g_iaddN C dL_told_412 ?_
                      refine g_iald C hK hP 3 0 rfl rfl (by omega) (by decide) dL_told_413 ?_
                      refine g_top (hkf.2 f hf).2.2.1 ?_
                      refine g_icmp_ne C 421 dL_told_414 (by decide) (fun h414 => ?_) (fun h414 => ?_)
                      · exact (h414 (by rw [← q_fp_M (by decide)]; rfl)).elim
                      · refine g_iconst C (nI 1) (by decide) dL_told_417 ?_
                        refine g_goto C 422 dL_told_418 (by decide) ?_
                        refine g_wd (k := 425) (n := 2584) (by omega) (by omega) ?_
                        exact g_zretM C ⟨[WY cI w v], P_perm tn_perm.symm hP⟩ hS (bI_t trivial) dL_told_422
                · exact (h361 (by rw [← q_fp_M (by decide), hva]; rfl)).elim
        · have hcmp : Op.cmpValue (FP.dcmp (q_meanM d) 0) CmpOp.l = 0 := mean_c0 h308
          refine g_dconst0 C dL_told_311 ?_
          refine g_goto C 324 dL_told_312 (by decide) ?_
          refine g_dcmp C dL_told_324 ?_
          refine g_if_ne C 364 dL_told_325 (by decide) (fun h325 => ?_) (fun h325 => ?_)
          · exact (h325 hcmp).elim
          · refine g_aload0 C dL_told_328 ?_
            refine g_iload8 C dL_told_329 ?_
            refine g_iconst C (nI 3) (by decide) dL_told_331 ?_
            refine g_xR C 2 rfl (n_family hls hki (by omega) (by omega)) wl_L_92 wi_X2_family wv_X2_family wc_X2_family (by decide +kernel) ⟨by decide, by decide⟩ BDM_bl (va_recv (ci := 2) (q0 := 0) hK (tw_b hP) rfl rfl) (BDM_at hK (tw_b hP) (tw_db hD) hZ hX hS (fun _ h => h)) rfl rfl (by simp [Value.category]) ⟨by show _ ≤ 425; omega, by show _ ≤ 2584; omega⟩ hS dL_told_332 (fun H locs hk9 hS => ?_)
            have hP := P_kept hP hk9
            refine g_iload9 C dL_told_335 ?_
            refine g_icmp_ne C 364 dL_told_337 (by decide) (fun h337 => ?_) (fun h337 => ?_)
            · exact (h337 (by rw [← q_fp_M (by decide), hth]; rfl)).elim
            · refine g_aload0 C dL_told_340 ?_
              refine g_iload8 C dL_told_341 ?_
              refine g_iconst C (nI 4) (by decide) dL_told_343 ?_
              refine g_xR C 2 rfl (n_family hls hki (by omega) (by omega)) wl_L_92 wi_X2_family wv_X2_family wc_X2_family (by decide +kernel) ⟨by decide, by decide⟩ BDM_bl (va_recv (ci := 2) (q0 := 0) hK (tw_b hP) rfl rfl) (BDM_at hK (tw_b hP) (tw_db hD) hZ hX hS (fun _ h => h)) rfl rfl (by simp [Value.category]) ⟨by show _ ≤ 425; omega, by show _ ≤ 2584; omega⟩ hS dL_told_344 (fun H locs hk9 hS => ?_)
              have hP := P_kept hP hk9
              refine g_iload10 C dL_told_347 ?_
              refine g_icmp_ne C 364 dL_told_349 (by decide) (fun h349 => ?_) (fun h349 => ?_)
              · exact (h349 (by rw [← q_fp_M (by decide), hho]; rfl)).elim
              · refine g_aload0 C dL_told_352 ?_
                refine g_iload8 C dL_told_353 ?_
                refine g_iconst C (nI 5) (by decide) dL_told_355 ?_
                refine g_xR C 2 rfl (n_family hls hki (by omega) (by omega)) wl_L_92 wi_X2_family wv_X2_family wc_X2_family (by decide +kernel) ⟨by decide, by decide⟩ BDM_bl (va_recv (ci := 2) (q0 := 0) hK (tw_b hP) rfl rfl) (BDM_at hK (tw_b hP) (tw_db hD) hZ hX hS (fun _ h => h)) rfl rfl (by simp [Value.category]) ⟨by show _ ≤ 425; omega, by show _ ≤ 2584; omega⟩ hS dL_told_356 (fun H locs hk9 hS => ?_)
                have hP := P_kept hP hk9
                refine g_iload11 C dL_told_359 ?_
                refine g_icmp_eq C 366 dL_told_361 (by decide) (fun h361 => ?_) (fun h361 => ?_)
                · refine g_aload0 C dL_told_366 ?_
                  refine g_iload8 C dL_told_367 ?_
                  refine g_iconst C (nI 0) (by decide) dL_told_369 ?_
                  refine g_xR C 2 rfl (n_family hls hki (by omega) (by omega)) wl_L_92 wi_X2_family wv_X2_family wc_X2_family (by decide +kernel) ⟨by decide, by decide⟩ BDM_bl (va_recv (ci := 2) (q0 := 0) hK (tw_b hP) rfl rfl) (BDM_at hK (tw_b hP) (tw_db hD) hZ hX hS (fun _ h => h)) rfl rfl (by simp [Value.category]) ⟨by show _ ≤ 425; omega, by show _ ≤ 2584; omega⟩ hS dL_told_370 (fun H locs hk9 hS => ?_)
                  have hP := P_kept hP hk9
                  refine g_aload6 C dL_told_373 ?_
                  refine g_iload8 C dL_told_375 ?_
                  refine g_iald C hK hP 3 0 rfl rfl (by omega) (by decide) dL_told_377 ?_
                  refine g_top (hkf.2 f hf).1 ?_
                  refine g_icmp_ne C 421 dL_told_378 (by decide) (fun h378 => ?_) (fun h378 => ?_)
                  · exact (h378 (by rw [← q_fp_M (by decide)]; rfl)).elim
                  · refine g_aload0 C dL_told_381 ?_
                    refine g_iload8 C dL_told_382 ?_
                    refine g_iconst C (nI 1) (by decide) dL_told_384 ?_
                    refine g_xR C 2 rfl (n_family hls hki (by omega) (by omega)) wl_L_92 wi_X2_family wv_X2_family wc_X2_family (by decide +kernel) ⟨by decide, by decide⟩ BDM_bl (va_recv (ci := 2) (q0 := 0) hK (tw_b hP) rfl rfl) (BDM_at hK (tw_b hP) (tw_db hD) hZ hX hS (fun _ h => h)) rfl rfl (by simp [Value.category]) ⟨by show _ ≤ 425; omega, by show _ ≤ 2584; omega⟩ hS dL_told_385 (fun H locs hk9 hS => ?_)
                    have hP := P_kept hP hk9
                    refine g_aload6 C dL_told_388 ?_
                    refine g_bipush C (nI 10) (by decide) dL_told_390 ?_
                    refine g_iload8 C dL_told_392 ?_
                    refine g_iaddN C dL_told_394 ?_
                    refine g_iald C hK hP 3 0 rfl rfl (by omega) (by decide) dL_told_395 ?_
                    refine g_top (hkf.2 f hf).2.1 ?_
                    refine g_icmp_ne C 421 dL_told_396 (by decide) (fun h396 => ?_) (fun h396 => ?_)
                    · exact (h396 (by rw [← q_fp_M (by decide)]; rfl)).elim
                    · refine g_aload0 C dL_told_399 ?_
                      refine g_iload8 C dL_told_400 ?_
                      refine g_iconst C (nI 2) (by decide) dL_told_402 ?_
                      refine g_xR C 2 rfl (n_family hls hki (by omega) (by omega)) wl_L_92 wi_X2_family wv_X2_family wc_X2_family (by decide +kernel) ⟨by decide, by decide⟩ BDM_bl (va_recv (ci := 2) (q0 := 0) hK (tw_b hP) rfl rfl) (BDM_at hK (tw_b hP) (tw_db hD) hZ hX hS (fun _ h => h)) rfl rfl (by simp [Value.category]) ⟨by show _ ≤ 425; omega, by show _ ≤ 2584; omega⟩ hS dL_told_403 (fun H locs hk9 hS => ?_)
                      have hP := P_kept hP hk9
                      refine g_aload6 C dL_told_406 ?_
                      refine g_bipush C (nI 20) (by decide) dL_told_408 ?_
                      refine g_iload8 C dL_told_410 ?_
                      refine g_iaddN C dL_told_412 ?_
                      refine g_iald C hK hP 3 0 rfl rfl (by omega) (by decide) dL_told_413 ?_
                      refine g_top (hkf.2 f hf).2.2.1 ?_
                      refine g_icmp_ne C 421 dL_told_414 (by decide) (fun h414 => ?_) (fun h414 => ?_)
                      · exact (h414 (by rw [← q_fp_M (by decide)]; rfl)).elim
                      · refine g_iconst C (nI 1) (by decide) dL_told_417 ?_
                        refine g_goto C 422 dL_told_418 (by decide) ?_
                        refine g_wd (k := 425) (n := 2584) (by omega) (by omega) ?_
                        exact g_zretM C ⟨[WY cI w v], P_perm tn_perm.symm hP⟩ hS (bI_t trivial) dL_told_422
                · exact (h361 (by rw [← q_fp_M (by decide), hva]; rfl)).elim
      · refine g_iload10 C dL_told_144 ?_
        refine g_iload13 C dL_told_146 ?_
        refine g_aload6 C dL_told_148 ?_
        refine g_bipush C (nI 30) (by decide) dL_told_150 ?_
        refine g_iald C hK hP 3 0 rfl rfl (by omega) (by decide) dL_told_152 ?_
        refine g_top hkf.1 ?_
        refine g_aload3 C dL_told_153 ?_
        refine g_aload4 C dL_told_154 ?_
        refine g_pkS C 4 rfl (c_L_holder hk (by omega) (by omega)) wl_L_46 wt_L_holder wn_L wc_L_holder (by decide +kernel) ⟨rfl, rfl, by decide, by decide⟩ PKR_bl (PKR_at hK (tw_p hP)) rfl rfl (by simp [Value.category]) ⟨by show _ ≤ 425; omega, by show _ ≤ 2584; omega⟩ dL_told_156 ?_
        refine g_iload8 C dL_told_159 ?_
        refine g_d2 (v := nI (if q_hold d (nI yn) p = nI f then 1 else 0)) 169 (fun K161 => ?_) ?_
        · skip
          refine g_icmp_ne C 168 dL_told_161 (by decide) (fun h161 => ?_) (fun h161 => ?_)
          · refine g_iconst C (nI 0) (by decide) dL_told_168 ?_
            exact K161 _ (by rw [if_neg h161])
          · refine g_iconst C (nI 1) (by decide) dL_told_164 ?_
            refine g_goto C 169 dL_told_165 (by decide) ?_
            exact K161 _ (by rw [if_pos h161])
        refine g_iaddN C dL_told_169 ?_
        refine g_istore10 C rfl dL_told_170 ?_
        refine g_iload11 C dL_told_172 ?_
        refine g_aload3 C dL_told_174 ?_
        refine g_iload13 C dL_told_175 ?_
        refine g_pkS C 2 rfl (c_L_vault hk (by omega)) wl_L_35 wt_L_vault wn_L wc_L_vault (by decide +kernel) ⟨rfl, rfl, by decide, by decide⟩ PKR_bl (PKR_at hK (tw_p hP)) rfl rfl (by simp [Value.category]) ⟨by show _ ≤ 425; omega, by show _ ≤ 2584; omega⟩ dL_told_177 ?_
        refine g_iload8 C dL_told_180 ?_
        refine g_d2 (v := nI (if d 4 p = nI f then 1 else 0)) 190 (fun K182 => ?_) ?_
        · skip
          refine g_icmp_ne C 189 dL_told_182 (by decide) (fun h182 => ?_) (fun h182 => ?_)
          · refine g_iconst C (nI 0) (by decide) dL_told_189 ?_
            exact K182 _ (by rw [if_neg h182])
          · refine g_iconst C (nI 1) (by decide) dL_told_185 ?_
            refine g_goto C 190 dL_told_186 (by decide) ?_
            exact K182 _ (by rw [if_pos h182])
        refine g_iaddN C dL_told_190 ?_
        refine g_istore11 C rfl dL_told_191 ?_
        refine g_iconst C (nI 1) (by decide) dL_told_193 ?_
        refine g_istore14 C rfl dL_told_194 ?_
        refine g_lp1 (fun (u : Nat × Nat × Int32) => u.1 ≤ 3 ∧ u.2.1 = q_cn (fun k => d 7 k = nI f) (p * 3 + u.1) ∧ u.2.2 = q_fs d (p * 3 + u.1)) (fun u => 3 - u.1) (fun u => [some (.ref o), some (.int ax), some (.int ay), some (.ref (t 0)), some (.ref (t 1)), some (.ref (t 2)), some (.ref (t 3)), some (.ref w), some (.int (nI f)), some (.int (nI u.2.1)), some (.int (nI (ho + (if q_hold d (nI yn) p = nI f then 1 else 0)))), some (.int (nI (va + (if d 4 p = nI f then 1 else 0)))), some (.int u.2.2), some (.int (nI p)), some (.int (nI (u.1 + 1)))]) (0, th, su) ⟨by omega, hth, hsu⟩ rfl ?_
        rintro ⟨j, th2, su2⟩ ⟨hj, hth2, hsu2⟩ ih2
        try dsimp only at hj hth2 hsu2 ih2 ⊢
        refine g_iload14 C dL_told_196 ?_
        refine g_iconst C (nI 4) (by decide) dL_told_198 ?_
        refine g_icmp_geN C (by omega) (by omega) 283 dL_told_199 (by decide) (fun h199 => ?_) (fun h199 => ?_)
        · refine g_iinc13 C _ rfl dL_told_283 (nI_1 _) ?_
          refine g_goto C 137 dL_told_286 (by decide) ?_
          have e3 : j = 3 := by omega
          subst e3
          refine g_fg14 ?_
          exact ih (p + 1, _, _, _, _) ⟨by show p + 1 ≤ 40; omega, by show _ = q_cn (fun k => d 7 k = nI f) ((p + 1) * 3); rw [hth2, Nat.succ_mul], by show _ = q_cn (fun q => q_hold d (nI yn) q = nI f) (p + 1); rw [hho]; rfl, by show _ = q_cn (fun q => d 4 q = nI f) (p + 1); rw [hva]; rfl, by show _ = q_fs d ((p + 1) * 3); rw [hsu2, Nat.succ_mul]⟩ (by show 40 - (p + 1) < 40 - p; omega)
        · refine g_iload9 C dL_told_202 ?_
          refine g_aload4 C dL_told_204 ?_
          refine g_iload13 C dL_told_206 ?_
          refine g_iload14 C dL_told_208 ?_
          refine g_pkS C 3 rfl (c_L_isThere hk (j := j) (by omega) (by omega)) wl_L_14 wt_L_isThere wn_L wc_L_isThere (by decide +kernel) ⟨rfl, rfl, by decide, by decide⟩ PKR_bl (PKR_at hK (tw_p hP)) rfl rfl (by simp [Value.category]) ⟨by show _ ≤ 425; omega, by show _ ≤ 2584; omega⟩ dL_told_210 ?_
          refine g_d1 (v := nI (if d 7 (p * 3 + j) = nI f then 1 else 0)) 235 (fun K213 => ?_) ?_
          · skip
            refine g_if_eqB C 234 dL_told_213 (by decide) (fun h213 => ?_) (fun h213 => ?_)
            · refine g_iconst C (nI 0) (by decide) dL_told_234 ?_
              exact K213 _ (by rw [if_neg (fun z => h213 (by rw [z]; exact nI_ne1 (by omega)))])
            · refine g_aload4 C dL_told_216 ?_
              refine g_iload13 C dL_told_218 ?_
              refine g_iload14 C dL_told_220 ?_
              refine g_pkS C 3 rfl (c_L_who hk (j := j) (by omega) (by omega) (by assumption)) wl_L_29 wt_L_who wn_L wc_L_who (by decide +kernel) ⟨rfl, rfl, by decide, by decide⟩ PKR_bl (PKR_at hK (tw_p hP)) rfl rfl (by simp [Value.category]) ⟨by show _ ≤ 425; omega, by show _ ≤ 2584; omega⟩ dL_told_222 ?_
              refine g_iload8 C dL_told_225 ?_
              refine g_icmp_ne C 234 dL_told_227 (by decide) (fun h227 => ?_) (fun h227 => ?_)
              · refine g_iconst C (nI 0) (by decide) dL_told_234 ?_
                exact K213 _ (by rw [if_neg h227])
              · refine g_iconst C (nI 1) (by decide) dL_told_230 ?_
                refine g_goto C 235 dL_told_231 (by decide) ?_
                exact K213 _ (by rw [if_pos h227])
          refine g_iaddN C dL_told_235 ?_
          refine g_istore9 C rfl dL_told_236 ?_
          refine g_iload12 C dL_told_238 ?_
          refine g_aload4 C dL_told_240 ?_
          refine g_iload13 C dL_told_242 ?_
          refine g_iload14 C dL_told_244 ?_
          refine g_pkS C 3 rfl (c_L_isThere hk (j := j) (by omega) (by omega)) wl_L_14 wt_L_isThere wn_L wc_L_isThere (by decide +kernel) ⟨rfl, rfl, by decide, by decide⟩ PKR_bl (PKR_at hK (tw_p hP)) rfl rfl (by simp [Value.category]) ⟨by show _ ≤ 425; omega, by show _ ≤ 2584; omega⟩ dL_told_246 ?_
          refine g_d1 (v := (if d 7 (p * 3 + j) ≠ -1 then d 9 (p * 3 + j) else nI 0)) 274 (fun K249 => ?_) ?_
          · skip
            refine g_if_eqB C 273 dL_told_249 (by decide) (fun h249 => ?_) (fun h249 => ?_)
            · refine g_iconst C (nI 0) (by decide) dL_told_273 ?_
              exact K249 _ (by rw [if_neg h249])
            · refine g_aload5 C dL_told_252 ?_
              refine g_iload13 C dL_told_254 ?_
              refine g_iald C hK hP 2 0 rfl rfl (by omega) (by decide) dL_told_256 ?_
              refine g_bipush C (nI 9) (by decide) dL_told_257 ?_
              refine g_iload14 C dL_told_259 ?_
              refine g_imulN C dL_told_261 ?_
              refine g_bipush C (nI 9) (by decide) dL_told_262 ?_
              refine g_isubN C (by omega) dL_told_264 ?_
              refine g_ishr C dL_told_265 ?_
              refine g_sipush C (nI 511) (by decide) dL_told_266 ?_
              refine g_iand C dL_told_269 ?_
              refine g_top (rd_e0 hke (by omega) (by omega) h249) ?_
              refine g_goto C 274 dL_told_270 (by decide) ?_
              exact K249 _ (by rw [if_pos h249])
          refine g_iadd C dL_told_274 ?_
          refine g_istore12 C rfl dL_told_275 ?_
          refine g_iinc14 C _ rfl dL_told_277 (nI_1 _) ?_
          refine g_goto C 196 dL_told_280 (by decide) ?_
          exact ih2 (j + 1, _, _) ⟨by show j + 1 ≤ 3; omega, by show th2 + (if d 7 (p * 3 + j) = nI f then 1 else 0) = q_cn (fun k => d 7 k = nI f) (p * 3 + j) + (if d 7 (p * 3 + j) = nI f then 1 else 0); rw [hth2], by show _ = if d 7 (p * 3 + j) ≠ -1 then q_fs d (p * 3 + j) + d 9 (p * 3 + j) else q_fs d (p * 3 + j); rw [hsu2]; by_cases o9 : d 7 (p * 3 + j) ≠ -1; rw [if_pos o9, if_pos o9]; rw [if_neg o9, if_neg o9, nI_0, Int32.add_zero]⟩ (by show 3 - (j + 1) < 3 - j; omega)
    · refine g_aload0 C dL_told_85 ?_
      refine g_iload8 C dL_told_86 ?_
      refine g_xR C 1 rfl (n_count hls hki (by omega)) wl_L_81 wi_X2_count wv_X2_count wc_X2_count (by decide +kernel) ⟨by decide, by decide⟩ BDM_bl (va_recv (ci := 2) (q0 := 0) hK (tw_b hP) rfl rfl) (BDM_at hK (tw_b hP) (tw_db hD) hZ hX hS (fun _ h => h)) rfl rfl (by simp [Value.category]) ⟨by show _ ≤ 425; omega, by show _ ≤ 2584; omega⟩ hS dL_told_88 (fun H locs hk9 hS => ?_)
      have hP := P_kept hP hk9
      refine g_iload8 C dL_told_91 ?_
      refine g_aload3 C dL_told_93 ?_
      refine g_aload4 C dL_told_94 ?_
      refine g_aload6 C dL_told_96 ?_
      refine g_aload7 C dL_told_98 ?_
      refine g_pkS C 5 rfl (c_L_counted hk (by omega) (by omega)) wl_L_84 wt_L_counted wn_L wc_L_counted (by decide +kernel) ⟨rfl, rfl, by decide, by decide⟩ PKW_bl (PKW_at hK (tw_w hP)) rfl rfl (by simp [Value.category]) ⟨by show _ ≤ 425; omega, by show _ ≤ 2584; omega⟩ dL_told_100 ?_
      refine g_icmp_eq C 108 dL_told_103 (by decide) (fun h103 => ?_) (fun h103 => ?_)
      · refine g_iinc8 C _ rfl dL_told_108 (nI_1 _) ?_
        refine g_goto C 78 dL_told_111 (by decide) ?_
        refine g_wd (k := 369 + 4 * (k + 1)) (n := 2248 + 24 * (k + 1)) (by omega) (by omega) (ih (k + 1) _ _ ⟨by omega, hP, hS⟩ (by show 8 - (k + 1) < 8 - k; omega))
      · exact (h103 (clw_eq hwr (by omega)).symm).elim
  · refine g_aload0 C dL_told_24 ?_
    refine g_iload1 C dL_told_25 ?_
    refine g_iconst C (nI 3) (by decide) dL_told_26 ?_
    refine g_iload8 C dL_told_27 ?_
    refine g_imulN C dL_told_29 ?_
    refine g_ishr C dL_told_30 ?_
    refine g_iconst C (nI 5) (by decide) dL_told_31 ?_
    refine g_iload8 C dL_told_32 ?_
    refine g_imulN C dL_told_34 ?_
    refine g_iadd C dL_told_35 ?_
    refine g_iload8 C dL_told_36 ?_
    refine g_iconst C (nI 2) (by decide) dL_told_38 ?_
    refine g_d2 (v := nI (if k < 2 then 40 else 14)) 49 (fun K39 => ?_) ?_
    · skip
      refine g_icmp_geN C (by omega) (by omega) 47 dL_told_39 (by decide) (fun h39 => ?_) (fun h39 => ?_)
      · refine g_bipush C (nI 14) (by decide) dL_told_47 ?_
        exact K39 _ (by rw [if_neg (by omega)])
      · refine g_bipush C (nI 40) (by decide) dL_told_42 ?_
        refine g_goto C 49 dL_told_44 (by decide) ?_
        exact K39 _ (by rw [if_pos (by omega)])
    refine g_pkS C 2 rfl (c_L_at (by first | decide | (split <;> omega)) (by first | decide | (split <;> omega))) wl_L_74 wt_L_at wn_L wc_L_at (by decide +kernel) ⟨rfl, rfl, by decide, by decide⟩ TR_bl (fun _ _ _ => trivial) rfl rfl (by simp [Value.category]) ⟨by show _ ≤ 425; omega, by show _ ≤ 2584; omega⟩ dL_told_49 ?_
    refine g_aload3 C dL_told_52 ?_
    refine g_aload4 C dL_told_53 ?_
    refine g_aload5 C dL_told_55 ?_
    refine g_aload6 C dL_told_57 ?_
    refine g_aload7 C dL_told_59 ?_
    refine g_mS C 7 rfl (c_L_plots hk hyn hls hwr (hat _)) wl_L_77 wt_L_plots wn_L wc_L_plots (by decide +kernel) ⟨rfl, rfl, by decide, by decide⟩ TLM_bl (TLM_at hK hP hD hZ hX hS (fun _ h => h)) rfl rfl (by simp [Value.category]) ⟨by show _ ≤ 425; omega, by show _ ≤ 2584; omega⟩ hS (fun _ _ h => h) (fun _ h => h) dL_told_61 (fun H locs hP _ _ hS => ?_)
    refine g_if_neB C 69 dL_told_64 (by decide) (fun h64 => ?_) (fun h64 => ?_)
    · refine g_iinc8 C _ rfl dL_told_69 (nI_1 _) ?_
      refine g_goto C 18 dL_told_72 (by decide) ?_
      refine g_wd (k := 1 + 92 * (k + 1)) (n := 40 + 552 * (k + 1)) (by omega) (by omega) (ih (k + 1) _ _ ⟨by omega, hP, hS⟩ (by show 4 - (k + 1) < 4 - k; omega))
    · exact absurd trivial h64
