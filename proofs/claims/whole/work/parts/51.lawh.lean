theorem wW_L_lay : Cond.codeWith yL_lay cL_lay 5 (some .int) [(0, 10, 13, 13), (0, 10, 17, 15), (0, 10, 21, 17)] ∈ WG := List.mem_filter.mpr ⟨wr_2 _ (List.mem_of_getElem? (i := 112) rfl), rfl⟩
set_option maxHeartbeats 4000000 in
theorem c_L_lay {l : Launch} {dC : Nat → ClassId} {dI : Nat → Nat → Nat} {cI cL cJ : ClassId} {g1 g2 : Nat} {A : Nat → Prop} {o oa : Nat} {f : Nat → Int64} {W : va_W} {cd : Nat} {v : Int32} {x0 x1 : Int32} {cls : Nat → String} {Pre : State → Prop} {Post PX : Heap → Prop} {PW PV : va_W → Prop} (hPost : ∀ H, Post H → ∃ W1, PW W1 ∧ va_P (dC, dI) vwCl W1 H ∧ va_D (fun q => q ∈ W.map Prod.fst) W1) (hPX : ∀ H, PX H → ∃ W1, PV W1 ∧ va_P (dC, dI) vwCl W1 H ∧ va_D (fun q => q ∈ W.map Prod.fst) W1) (hcd : cd = 0 ∨ cd = 1 ∨ cd = 2 ∨ cd = 3) (hc1 : cls 1 = XIO) (hc2 : cls 2 = XIA) (hc3 : cls 3 = XIS) (hW0 : ∃ fs, W[0]? = some (o, .inr (2, fs))) (hbl : Bl Pre) (hat : ∀ U, va_P (dC, dI) vwCl W U.heap → va_D (fun q => q ∈ W.map Prod.fst) W → EV dC dI cI cL cJ U → ST g1 g2 (fun q => q ∈ W.map Prod.fst) U U.heap → XE (fun q => q ∈ W.map Prod.fst) U U.heap → Pre U)
    (hM : vx_Met l yX2_lay (.code yX2_lay cX2_lay 3 (some .int) :: WG) (rmC 7 4 24) (va_Pc [Value.ref o, .int x0, .int x1] Pre) (bx_Q cd (some (.int v)) Post (fun q => q ∈ W.map Prod.fst)) (bx_C cls cd PX (fun q => q ∈ W.map Prod.fst)) 4 24 (fun q => q ∈ W.map Prod.fst)) :
    Met l yL_lay (.codeWith yL_lay cL_lay 5 (some .int) [(0, 10, 13, 13), (0, 10, 17, 15), (0, 10, 21, 17)] :: WG) (rmC 8 4 24) (va_Pc [Value.ref o, .int x0, .int x1, .ref oa] (LHM dC dI cI cL cJ g1 g2 A oa f W)) (bq_M (some (.int (nI cd))) (fun H => ∃ (f1 : Nat → Int64) (W1 : va_W), (cd = 0 → f1 0 = v.toInt64 ∧ PW W1) ∧ (cd ≠ 0 → PV W1) ∧ va_P (dC, dI) vwCl (JR cJ oa f1 :: W1) H ∧ va_D A (JR cJ oa f1 :: W1)) A) 4 24 A := by
  refine bl_of [some (.ref o), some (.int x0), some (.int x1), some (.ref oa), none] rfl rfl (Nat.le_of_ble_eq_true rfl) (by decide) ?_
  intro P_ E_ s M_ B_ T_ K_ C hT hv
  obtain ⟨hP, hD, hK, hZ, hX⟩ := hv
  have hS : va_S A s.heap s.heap [] := va_S.rf
  obtain ⟨hDr, hAr⟩ := D_r (u := [JR cJ oa f]) hD
  have hPr := P_r (u := [JR cJ oa f]) hP
  obtain ⟨fs, hW0⟩ := hW0
  refine g_aload3 C dL_lay_0 ?_
  refine g_iconst C (nI 0) (by decide) dL_lay_1 ?_
  refine g_aload0 C dL_lay_2 ?_
  refine g_iload1 C dL_lay_3 ?_
  refine g_iload2 C dL_lay_4 ?_
  refine g_xV (As := [.int x0, .int x1]) C 2 rfl hM wl_L_7 wi_X2_lay wv_X2_lay wn_X2 wc_X2_lay (by decide +kernel) ⟨rfl, rfl, by decide, by decide⟩ hbl (va_recv (ci := 2) (q0 := 0) hK hPr rfl hW0) (fun U hU hW => hat U (by rw [hU]; exact hPr) hDr (va_K.moved hW.alike hK) (by rw [hU]; exact (hZ.moved hW.alike).narrow hAr) ((hX.at hS hU hW).narrow hAr)) rfl rfl (by simp [Value.category]) ⟨by decide, by decide⟩ hS hAr dL_lay_5 (fun H locs h0 hP1 _ hk1 hS => ?_) (fun H locs q ce h0 hP1 _ hk1 hS hce hcv hcl => ?_)
  · obtain ⟨W1, hW1, hPw, hDw⟩ := hPost _ hP1
    obtain ⟨hP, hD⟩ := PD_put (u := [JR cJ oa f]) hP hD hPw hDw hk1
    refine g_i2l C _ rfl dL_lay_8 ?_
    refine g_last C hK hP hD hS dL_lay_9 (fun H locs hP hD hS => ?_)
    refine g_goto C 25 dL_lay_10 (by decide) ?_
    refine g_iconst C (nI 0) (by decide) dL_lay_25 ?_
    exact g_iretM C ⟨_, W1, fun _ => ⟨rfl, hW1⟩, fun z => absurd h0 z, hP, hD⟩ hS (by rw [h0]) dL_lay_26
  · obtain ⟨W1, hW1, hPw, hDw⟩ := hPX _ hP1
    obtain ⟨hP, hD⟩ := PD_put (u := [JR cJ oa f]) hP hD hPw hDw hk1
    rcases hcd with h9 | h9 | h9 | h9
    · exact absurd h9 h0
    · rw [h9, hc1] at hcl
      refine g_catch C [] ⟨0, 10, 13, 13⟩ [⟨0, 10, 17, 15⟩, ⟨0, 10, 21, 17⟩] hT hX (fun z hz => absurd hz List.not_mem_nil) rfl (by decide) wk_L_13 (by decide) hce hcv hcl ?_
      refine g_astore4 C rfl dL_lay_13 ?_
      refine g_iconst C (nI 1) (by decide) dL_lay_15 ?_
      exact g_iretM C ⟨_, W1, fun z => absurd z h0, fun _ => hW1, hP, hD⟩ hS (by rw [h9]) dL_lay_16
    · rw [h9, hc2] at hcl
      refine g_catch C [⟨0, 10, 13, 13⟩] ⟨0, 10, 17, 15⟩ [⟨0, 10, 21, 17⟩] hT hX (List.forall_mem_cons.mpr ⟨⟨by decide, _, wk_L_13, by decide⟩, fun _ h => absurd h List.not_mem_nil⟩) rfl (by decide) wk_L_15 (by decide) hce hcv hcl ?_
      refine g_astore4 C rfl dL_lay_17 ?_
      refine g_iconst C (nI 2) (by decide) dL_lay_19 ?_
      exact g_iretM C ⟨_, W1, fun z => absurd z h0, fun _ => hW1, hP, hD⟩ hS (by rw [h9]) dL_lay_20
    · rw [h9, hc3] at hcl
      refine g_catch C [⟨0, 10, 13, 13⟩, ⟨0, 10, 17, 15⟩] ⟨0, 10, 21, 17⟩ [] hT hX (List.forall_mem_cons.mpr ⟨⟨by decide, _, wk_L_13, by decide⟩, List.forall_mem_cons.mpr ⟨⟨by decide, _, wk_L_15, by decide⟩, fun _ h => absurd h List.not_mem_nil⟩⟩) rfl (by decide) wk_L_17 (by decide) hce hcv hcl ?_
      refine g_astore4 C rfl dL_lay_21 ?_
      refine g_iconst C (nI 3) (by decide) dL_lay_23 ?_
      exact g_iretM C ⟨_, W1, fun z => absurd z h0, fun _ => hW1, hP, hD⟩ hS (by rw [h9]) dL_lay_24
theorem wW_L_pass : Cond.codeWith yL_pass cL_pass 4 (some .int) [(0, 9, 12, 15), (0, 9, 15, 17)] ∈ WG := List.mem_filter.mpr ⟨wr_3 _ (List.mem_of_getElem? (i := 9) rfl), rfl⟩
set_option maxHeartbeats 4000000 in
theorem c_L_pass {l : Launch} {dC : Nat → ClassId} {dI : Nat → Nat → Nat} {cI cL cJ : ClassId} {g1 g2 : Nat} {A : Nat → Prop} {o oa : Nat} {f : Nat → Int64} {W : va_W} {cd : Nat} {v : Int32} {x0 : Int32} {cls : Nat → String} {Pre : State → Prop} {Post PX : Heap → Prop} {PW PV : va_W → Prop} (hPost : ∀ H, Post H → ∃ W1, PW W1 ∧ va_P (dC, dI) vwCl W1 H ∧ va_D (fun q => q ∈ W.map Prod.fst) W1) (hPX : ∀ H, PX H → ∃ W1, PV W1 ∧ va_P (dC, dI) vwCl W1 H ∧ va_D (fun q => q ∈ W.map Prod.fst) W1) (hcd : cd = 0 ∨ cd = 1 ∨ cd = 2) (hc1 : cls 1 = XIA) (hc2 : cls 2 = XIS) (hW0 : ∃ fs, W[0]? = some (o, .inr (2, fs))) (hbl : Bl Pre) (hat : ∀ U, va_P (dC, dI) vwCl W U.heap → va_D (fun q => q ∈ W.map Prod.fst) W → EV dC dI cI cL cJ U → ST g1 g2 (fun q => q ∈ W.map Prod.fst) U U.heap → XE (fun q => q ∈ W.map Prod.fst) U U.heap → Pre U)
    (hM : vx_Met l yX2_pass (.code yX2_pass cX2_pass 3 (some .int) :: WG) (rmC 7 4 24) (va_Pc [Value.ref o, .int x0] Pre) (bx_Q cd (some (.int v)) Post (fun q => q ∈ W.map Prod.fst)) (bx_C cls cd PX (fun q => q ∈ W.map Prod.fst)) 4 24 (fun q => q ∈ W.map Prod.fst)) :
    Met l yL_pass (.codeWith yL_pass cL_pass 4 (some .int) [(0, 9, 12, 15), (0, 9, 15, 17)] :: WG) (rmC 8 4 24) (va_Pc [Value.ref o, .int x0, .ref oa] (LHM dC dI cI cL cJ g1 g2 A oa f W)) (bq_M (some (.int (nI cd))) (fun H => ∃ (f1 : Nat → Int64) (W1 : va_W), (cd = 0 → f1 0 = v.toInt64 ∧ PW W1) ∧ (cd ≠ 0 → PV W1) ∧ va_P (dC, dI) vwCl (JR cJ oa f1 :: W1) H ∧ va_D A (JR cJ oa f1 :: W1)) A) 4 24 A := by
  refine bl_of [some (.ref o), some (.int x0), some (.ref oa), none] rfl rfl (Nat.le_of_ble_eq_true rfl) (by decide) ?_
  intro P_ E_ s M_ B_ T_ K_ C hT hv
  obtain ⟨hP, hD, hK, hZ, hX⟩ := hv
  have hS : va_S A s.heap s.heap [] := va_S.rf
  obtain ⟨hDr, hAr⟩ := D_r (u := [JR cJ oa f]) hD
  have hPr := P_r (u := [JR cJ oa f]) hP
  obtain ⟨fs, hW0⟩ := hW0
  refine g_aload2 C dL_pass_0 ?_
  refine g_iconst C (nI 0) (by decide) dL_pass_1 ?_
  refine g_aload0 C dL_pass_2 ?_
  refine g_iload1 C dL_pass_3 ?_
  refine g_xV (As := [.int x0]) C 1 rfl hM wl_L_19 wi_X2_pass wv_X2_pass wn_X2 wc_X2_pass (by decide +kernel) ⟨rfl, rfl, by decide, by decide⟩ hbl (va_recv (ci := 2) (q0 := 0) hK hPr rfl hW0) (fun U hU hW => hat U (by rw [hU]; exact hPr) hDr (va_K.moved hW.alike hK) (by rw [hU]; exact (hZ.moved hW.alike).narrow hAr) ((hX.at hS hU hW).narrow hAr)) rfl rfl (by simp [Value.category]) ⟨by decide, by decide⟩ hS hAr dL_pass_4 (fun H locs h0 hP1 _ hk1 hS => ?_) (fun H locs q ce h0 hP1 _ hk1 hS hce hcv hcl => ?_)
  · obtain ⟨W1, hW1, hPw, hDw⟩ := hPost _ hP1
    obtain ⟨hP, hD⟩ := PD_put (u := [JR cJ oa f]) hP hD hPw hDw hk1
    refine g_i2l C _ rfl dL_pass_7 ?_
    refine g_last C hK hP hD hS dL_pass_8 (fun H locs hP hD hS => ?_)
    refine g_goto C 18 dL_pass_9 (by decide) ?_
    refine g_iconst C (nI 0) (by decide) dL_pass_18 ?_
    exact g_iretM C ⟨_, W1, fun _ => ⟨rfl, hW1⟩, fun z => absurd h0 z, hP, hD⟩ hS (by rw [h0]) dL_pass_19
  · obtain ⟨W1, hW1, hPw, hDw⟩ := hPX _ hP1
    obtain ⟨hP, hD⟩ := PD_put (u := [JR cJ oa f]) hP hD hPw hDw hk1
    rcases hcd with h9 | h9 | h9
    · exact absurd h9 h0
    · rw [h9, hc1] at hcl
      refine g_catch C [] ⟨0, 9, 12, 15⟩ [⟨0, 9, 15, 17⟩] hT hX (fun z hz => absurd hz List.not_mem_nil) rfl (by decide) wk_L_15 (by decide) hce hcv hcl ?_
      refine g_astore3 C rfl dL_pass_12 ?_
      refine g_iconst C (nI 1) (by decide) dL_pass_13 ?_
      exact g_iretM C ⟨_, W1, fun z => absurd z h0, fun _ => hW1, hP, hD⟩ hS (by rw [h9]) dL_pass_14
    · rw [h9, hc2] at hcl
      refine g_catch C [⟨0, 9, 12, 15⟩] ⟨0, 9, 15, 17⟩ [] hT hX (List.forall_mem_cons.mpr ⟨⟨by decide, _, wk_L_15, by decide⟩, fun _ h => absurd h List.not_mem_nil⟩) rfl (by decide) wk_L_17 (by decide) hce hcv hcl ?_
      refine g_astore3 C rfl dL_pass_15 ?_
      refine g_iconst C (nI 2) (by decide) dL_pass_16 ?_
      exact g_iretM C ⟨_, W1, fun z => absurd z h0, fun _ => hW1, hP, hD⟩ hS (by rw [h9]) dL_pass_17
theorem wW_L_setParish : Cond.codeWith yL_setParish cL_setParish 5 (some .int) [(0, 10, 13, 13)] ∈ WG := List.mem_filter.mpr ⟨wr_3 _ (List.mem_of_getElem? (i := 19) rfl), rfl⟩
set_option maxHeartbeats 4000000 in
theorem c_L_setParish {l : Launch} {dC : Nat → ClassId} {dI : Nat → Nat → Nat} {cI cL cJ : ClassId} {g1 g2 : Nat} {A : Nat → Prop} {o oa : Nat} {f : Nat → Int64} {W : va_W} {cd : Nat} {v : Int32} {x0 x1 : Int32} {cls : Nat → String} {Pre : State → Prop} {Post PX : Heap → Prop} {PW PV : va_W → Prop} (hPost : ∀ H, Post H → ∃ W1, PW W1 ∧ va_P (dC, dI) vwCl W1 H ∧ va_D (fun q => q ∈ W.map Prod.fst) W1) (hPX : ∀ H, PX H → ∃ W1, PV W1 ∧ va_P (dC, dI) vwCl W1 H ∧ va_D (fun q => q ∈ W.map Prod.fst) W1) (hcd : cd = 0 ∨ cd = 1) (hc1 : cls 1 = XIO) (hW0 : ∃ fs, W[0]? = some (o, .inr (2, fs))) (hbl : Bl Pre) (hat : ∀ U, va_P (dC, dI) vwCl W U.heap → va_D (fun q => q ∈ W.map Prod.fst) W → EV dC dI cI cL cJ U → ST g1 g2 (fun q => q ∈ W.map Prod.fst) U U.heap → XE (fun q => q ∈ W.map Prod.fst) U U.heap → Pre U)
    (hM : vx_Met l yX2_setParish (.code yX2_setParish cX2_setParish 4 (some .int) :: WG) (rmC 7 4 24) (va_Pc [Value.ref o, .int x0, .int x1] Pre) (bx_Q cd (some (.int v)) Post (fun q => q ∈ W.map Prod.fst)) (bx_C cls cd PX (fun q => q ∈ W.map Prod.fst)) 4 24 (fun q => q ∈ W.map Prod.fst)) :
    Met l yL_setParish (.codeWith yL_setParish cL_setParish 5 (some .int) [(0, 10, 13, 13)] :: WG) (rmC 8 4 24) (va_Pc [Value.ref o, .int x0, .int x1, .ref oa] (LHM dC dI cI cL cJ g1 g2 A oa f W)) (bq_M (some (.int (nI cd))) (fun H => ∃ (f1 : Nat → Int64) (W1 : va_W), (cd = 0 → f1 0 = v.toInt64 ∧ PW W1) ∧ (cd ≠ 0 → PV W1) ∧ va_P (dC, dI) vwCl (JR cJ oa f1 :: W1) H ∧ va_D A (JR cJ oa f1 :: W1)) A) 4 24 A := by
  refine bl_of [some (.ref o), some (.int x0), some (.int x1), some (.ref oa), none] rfl rfl (Nat.le_of_ble_eq_true rfl) (by decide) ?_
  intro P_ E_ s M_ B_ T_ K_ C hT hv
  obtain ⟨hP, hD, hK, hZ, hX⟩ := hv
  have hS : va_S A s.heap s.heap [] := va_S.rf
  obtain ⟨hDr, hAr⟩ := D_r (u := [JR cJ oa f]) hD
  have hPr := P_r (u := [JR cJ oa f]) hP
  obtain ⟨fs, hW0⟩ := hW0
  refine g_aload3 C dL_setParish_0 ?_
  refine g_iconst C (nI 0) (by decide) dL_setParish_1 ?_
  refine g_aload0 C dL_setParish_2 ?_
  refine g_iload1 C dL_setParish_3 ?_
  refine g_iload2 C dL_setParish_4 ?_
  refine g_xV (As := [.int x0, .int x1]) C 2 rfl hM wl_L_23 wi_X2_setParish wv_X2_setParish wn_X2 wc_X2_setParish (by decide +kernel) ⟨rfl, rfl, by decide, by decide⟩ hbl (va_recv (ci := 2) (q0 := 0) hK hPr rfl hW0) (fun U hU hW => hat U (by rw [hU]; exact hPr) hDr (va_K.moved hW.alike hK) (by rw [hU]; exact (hZ.moved hW.alike).narrow hAr) ((hX.at hS hU hW).narrow hAr)) rfl rfl (by simp [Value.category]) ⟨by decide, by decide⟩ hS hAr dL_setParish_5 (fun H locs h0 hP1 _ hk1 hS => ?_) (fun H locs q ce h0 hP1 _ hk1 hS hce hcv hcl => ?_)
  · obtain ⟨W1, hW1, hPw, hDw⟩ := hPost _ hP1
    obtain ⟨hP, hD⟩ := PD_put (u := [JR cJ oa f]) hP hD hPw hDw hk1
    refine g_i2l C _ rfl dL_setParish_8 ?_
    refine g_last C hK hP hD hS dL_setParish_9 (fun H locs hP hD hS => ?_)
    refine g_goto C 17 dL_setParish_10 (by decide) ?_
    refine g_iconst C (nI 0) (by decide) dL_setParish_17 ?_
    exact g_iretM C ⟨_, W1, fun _ => ⟨rfl, hW1⟩, fun z => absurd h0 z, hP, hD⟩ hS (by rw [h0]) dL_setParish_18
  · obtain ⟨W1, hW1, hPw, hDw⟩ := hPX _ hP1
    obtain ⟨hP, hD⟩ := PD_put (u := [JR cJ oa f]) hP hD hPw hDw hk1
    rcases hcd with h9 | h9
    · exact absurd h9 h0
    · rw [h9, hc1] at hcl
      refine g_catch C [] ⟨0, 10, 13, 13⟩ [] hT hX (fun z hz => absurd hz List.not_mem_nil) rfl (by decide) wk_L_13 (by decide) hce hcv hcl ?_
      refine g_astore4 C rfl dL_setParish_13 ?_
      refine g_iconst C (nI 1) (by decide) dL_setParish_15 ?_
      exact g_iretM C ⟨_, W1, fun z => absurd z h0, fun _ => hW1, hP, hD⟩ hS (by rw [h9]) dL_setParish_16
theorem wW_L_bury : Cond.codeWith yL_bury cL_bury 6 (some .int) [(0, 12, 15, 13), (0, 12, 19, 15), (0, 12, 23, 17)] ∈ WG := List.mem_filter.mpr ⟨wr_3 _ (List.mem_of_getElem? (i := 30) rfl), rfl⟩
set_option maxHeartbeats 4000000 in
theorem c_L_bury {l : Launch} {dC : Nat → ClassId} {dI : Nat → Nat → Nat} {cI cL cJ : ClassId} {g1 g2 : Nat} {A : Nat → Prop} {o oa : Nat} {f : Nat → Int64} {W : va_W} {cd : Nat} {v : Int32} {x0 x1 x2 : Int32} {cls : Nat → String} {Pre : State → Prop} {Post PX : Heap → Prop} {PW PV : va_W → Prop} (hPost : ∀ H, Post H → ∃ W1, PW W1 ∧ va_P (dC, dI) vwCl W1 H ∧ va_D (fun q => q ∈ W.map Prod.fst) W1) (hPX : ∀ H, PX H → ∃ W1, PV W1 ∧ va_P (dC, dI) vwCl W1 H ∧ va_D (fun q => q ∈ W.map Prod.fst) W1) (hcd : cd = 0 ∨ cd = 1 ∨ cd = 2 ∨ cd = 3) (hc1 : cls 1 = XIO) (hc2 : cls 2 = XIA) (hc3 : cls 3 = XIS) (hW0 : ∃ fs, W[0]? = some (o, .inr (2, fs))) (hbl : Bl Pre) (hat : ∀ U, va_P (dC, dI) vwCl W U.heap → va_D (fun q => q ∈ W.map Prod.fst) W → EV dC dI cI cL cJ U → ST g1 g2 (fun q => q ∈ W.map Prod.fst) U U.heap → XE (fun q => q ∈ W.map Prod.fst) U U.heap → Pre U)
    (hM : vx_Met l yX2_bury (.code yX2_bury cX2_bury 4 (some .int) :: WG) (rmC 7 4 24) (va_Pc [Value.ref o, .int x0, .int x1, .int x2] Pre) (bx_Q cd (some (.int v)) Post (fun q => q ∈ W.map Prod.fst)) (bx_C cls cd PX (fun q => q ∈ W.map Prod.fst)) 4 24 (fun q => q ∈ W.map Prod.fst)) :
    Met l yL_bury (.codeWith yL_bury cL_bury 6 (some .int) [(0, 12, 15, 13), (0, 12, 19, 15), (0, 12, 23, 17)] :: WG) (rmC 8 4 24) (va_Pc [Value.ref o, .int x0, .int x1, .int x2, .ref oa] (LHM dC dI cI cL cJ g1 g2 A oa f W)) (bq_M (some (.int (nI cd))) (fun H => ∃ (f1 : Nat → Int64) (W1 : va_W), (cd = 0 → f1 0 = v.toInt64 ∧ PW W1) ∧ (cd ≠ 0 → PV W1) ∧ va_P (dC, dI) vwCl (JR cJ oa f1 :: W1) H ∧ va_D A (JR cJ oa f1 :: W1)) A) 4 24 A := by
  refine bl_of [some (.ref o), some (.int x0), some (.int x1), some (.int x2), some (.ref oa), none] rfl rfl (Nat.le_of_ble_eq_true rfl) (by decide) ?_
  intro P_ E_ s M_ B_ T_ K_ C hT hv
  obtain ⟨hP, hD, hK, hZ, hX⟩ := hv
  have hS : va_S A s.heap s.heap [] := va_S.rf
  obtain ⟨hDr, hAr⟩ := D_r (u := [JR cJ oa f]) hD
  have hPr := P_r (u := [JR cJ oa f]) hP
  obtain ⟨fs, hW0⟩ := hW0
  refine g_aload4 C dL_bury_0 ?_
  refine g_iconst C (nI 0) (by decide) dL_bury_2 ?_
  refine g_aload0 C dL_bury_3 ?_
  refine g_iload1 C dL_bury_4 ?_
  refine g_iload2 C dL_bury_5 ?_
  refine g_iload3 C dL_bury_6 ?_
  refine g_xV (As := [.int x0, .int x1, .int x2]) C 3 rfl hM wl_L_27 wi_X2_bury wv_X2_bury wn_X2 wc_X2_bury (by decide +kernel) ⟨rfl, rfl, by decide, by decide⟩ hbl (va_recv (ci := 2) (q0 := 0) hK hPr rfl hW0) (fun U hU hW => hat U (by rw [hU]; exact hPr) hDr (va_K.moved hW.alike hK) (by rw [hU]; exact (hZ.moved hW.alike).narrow hAr) ((hX.at hS hU hW).narrow hAr)) rfl rfl (by simp [Value.category]) ⟨by decide, by decide⟩ hS hAr dL_bury_7 (fun H locs h0 hP1 _ hk1 hS => ?_) (fun H locs q ce h0 hP1 _ hk1 hS hce hcv hcl => ?_)
  · obtain ⟨W1, hW1, hPw, hDw⟩ := hPost _ hP1
    obtain ⟨hP, hD⟩ := PD_put (u := [JR cJ oa f]) hP hD hPw hDw hk1
    refine g_i2l C _ rfl dL_bury_10 ?_
    refine g_last C hK hP hD hS dL_bury_11 (fun H locs hP hD hS => ?_)
    refine g_goto C 27 dL_bury_12 (by decide) ?_
    refine g_iconst C (nI 0) (by decide) dL_bury_27 ?_
    exact g_iretM C ⟨_, W1, fun _ => ⟨rfl, hW1⟩, fun z => absurd h0 z, hP, hD⟩ hS (by rw [h0]) dL_bury_28
  · obtain ⟨W1, hW1, hPw, hDw⟩ := hPX _ hP1
    obtain ⟨hP, hD⟩ := PD_put (u := [JR cJ oa f]) hP hD hPw hDw hk1
    rcases hcd with h9 | h9 | h9 | h9
    · exact absurd h9 h0
    · rw [h9, hc1] at hcl
      refine g_catch C [] ⟨0, 12, 15, 13⟩ [⟨0, 12, 19, 15⟩, ⟨0, 12, 23, 17⟩] hT hX (fun z hz => absurd hz List.not_mem_nil) rfl (by decide) wk_L_13 (by decide) hce hcv hcl ?_
      refine g_astore5 C rfl dL_bury_15 ?_
      refine g_iconst C (nI 1) (by decide) dL_bury_17 ?_
      exact g_iretM C ⟨_, W1, fun z => absurd z h0, fun _ => hW1, hP, hD⟩ hS (by rw [h9]) dL_bury_18
    · rw [h9, hc2] at hcl
      refine g_catch C [⟨0, 12, 15, 13⟩] ⟨0, 12, 19, 15⟩ [⟨0, 12, 23, 17⟩] hT hX (List.forall_mem_cons.mpr ⟨⟨by decide, _, wk_L_13, by decide⟩, fun _ h => absurd h List.not_mem_nil⟩) rfl (by decide) wk_L_15 (by decide) hce hcv hcl ?_
      refine g_astore5 C rfl dL_bury_19 ?_
      refine g_iconst C (nI 2) (by decide) dL_bury_21 ?_
      exact g_iretM C ⟨_, W1, fun z => absurd z h0, fun _ => hW1, hP, hD⟩ hS (by rw [h9]) dL_bury_22
    · rw [h9, hc3] at hcl
      refine g_catch C [⟨0, 12, 15, 13⟩, ⟨0, 12, 19, 15⟩] ⟨0, 12, 23, 17⟩ [] hT hX (List.forall_mem_cons.mpr ⟨⟨by decide, _, wk_L_13, by decide⟩, List.forall_mem_cons.mpr ⟨⟨by decide, _, wk_L_15, by decide⟩, fun _ h => absurd h List.not_mem_nil⟩⟩) rfl (by decide) wk_L_17 (by decide) hce hcv hcl ?_
      refine g_astore5 C rfl dL_bury_23 ?_
      refine g_iconst C (nI 3) (by decide) dL_bury_25 ?_
      exact g_iretM C ⟨_, W1, fun z => absurd z h0, fun _ => hW1, hP, hD⟩ hS (by rw [h9]) dL_bury_26
theorem wW_L_reserve : Cond.codeWith yL_reserve cL_reserve 6 (some .int) [(0, 12, 15, 13), (0, 12, 19, 15), (0, 12, 23, 17)] ∈ WG := List.mem_filter.mpr ⟨wr_3 _ (List.mem_of_getElem? (i := 59) rfl), rfl⟩
set_option maxHeartbeats 4000000 in
theorem c_L_reserve {l : Launch} {dC : Nat → ClassId} {dI : Nat → Nat → Nat} {cI cL cJ : ClassId} {g1 g2 : Nat} {A : Nat → Prop} {o oa : Nat} {f : Nat → Int64} {W : va_W} {cd : Nat} {v : Int32} {x0 x1 x2 : Int32} {cls : Nat → String} {Pre : State → Prop} {Post PX : Heap → Prop} {PW PV : va_W → Prop} (hPost : ∀ H, Post H → ∃ W1, PW W1 ∧ va_P (dC, dI) vwCl W1 H ∧ va_D (fun q => q ∈ W.map Prod.fst) W1) (hPX : ∀ H, PX H → ∃ W1, PV W1 ∧ va_P (dC, dI) vwCl W1 H ∧ va_D (fun q => q ∈ W.map Prod.fst) W1) (hcd : cd = 0 ∨ cd = 1 ∨ cd = 2 ∨ cd = 3) (hc1 : cls 1 = XIO) (hc2 : cls 2 = XIA) (hc3 : cls 3 = XIS) (hW0 : ∃ fs, W[0]? = some (o, .inr (2, fs))) (hbl : Bl Pre) (hat : ∀ U, va_P (dC, dI) vwCl W U.heap → va_D (fun q => q ∈ W.map Prod.fst) W → EV dC dI cI cL cJ U → ST g1 g2 (fun q => q ∈ W.map Prod.fst) U U.heap → XE (fun q => q ∈ W.map Prod.fst) U U.heap → Pre U)
    (hM : vx_Met l yX2_reserve (.code yX2_reserve cX2_reserve 4 (some .int) :: WG) (rmC 7 4 24) (va_Pc [Value.ref o, .int x0, .int x1, .int x2] Pre) (bx_Q cd (some (.int v)) Post (fun q => q ∈ W.map Prod.fst)) (bx_C cls cd PX (fun q => q ∈ W.map Prod.fst)) 4 24 (fun q => q ∈ W.map Prod.fst)) :
    Met l yL_reserve (.codeWith yL_reserve cL_reserve 6 (some .int) [(0, 12, 15, 13), (0, 12, 19, 15), (0, 12, 23, 17)] :: WG) (rmC 8 4 24) (va_Pc [Value.ref o, .int x0, .int x1, .int x2, .ref oa] (LHM dC dI cI cL cJ g1 g2 A oa f W)) (bq_M (some (.int (nI cd))) (fun H => ∃ (f1 : Nat → Int64) (W1 : va_W), (cd = 0 → f1 0 = v.toInt64 ∧ PW W1) ∧ (cd ≠ 0 → PV W1) ∧ va_P (dC, dI) vwCl (JR cJ oa f1 :: W1) H ∧ va_D A (JR cJ oa f1 :: W1)) A) 4 24 A := by
  refine bl_of [some (.ref o), some (.int x0), some (.int x1), some (.int x2), some (.ref oa), none] rfl rfl (Nat.le_of_ble_eq_true rfl) (by decide) ?_
  intro P_ E_ s M_ B_ T_ K_ C hT hv
  obtain ⟨hP, hD, hK, hZ, hX⟩ := hv
  have hS : va_S A s.heap s.heap [] := va_S.rf
  obtain ⟨hDr, hAr⟩ := D_r (u := [JR cJ oa f]) hD
  have hPr := P_r (u := [JR cJ oa f]) hP
  obtain ⟨fs, hW0⟩ := hW0
  refine g_aload4 C dL_reserve_0 ?_
  refine g_iconst C (nI 0) (by decide) dL_reserve_2 ?_
  refine g_aload0 C dL_reserve_3 ?_
  refine g_iload1 C dL_reserve_4 ?_
  refine g_iload2 C dL_reserve_5 ?_
  refine g_iload3 C dL_reserve_6 ?_
  refine g_xV (As := [.int x0, .int x1, .int x2]) C 3 rfl hM wl_L_31 wi_X2_reserve wv_X2_reserve wn_X2 wc_X2_reserve (by decide +kernel) ⟨rfl, rfl, by decide, by decide⟩ hbl (va_recv (ci := 2) (q0 := 0) hK hPr rfl hW0) (fun U hU hW => hat U (by rw [hU]; exact hPr) hDr (va_K.moved hW.alike hK) (by rw [hU]; exact (hZ.moved hW.alike).narrow hAr) ((hX.at hS hU hW).narrow hAr)) rfl rfl (by simp [Value.category]) ⟨by decide, by decide⟩ hS hAr dL_reserve_7 (fun H locs h0 hP1 _ hk1 hS => ?_) (fun H locs q ce h0 hP1 _ hk1 hS hce hcv hcl => ?_)
  · obtain ⟨W1, hW1, hPw, hDw⟩ := hPost _ hP1
    obtain ⟨hP, hD⟩ := PD_put (u := [JR cJ oa f]) hP hD hPw hDw hk1
    refine g_i2l C _ rfl dL_reserve_10 ?_
    refine g_last C hK hP hD hS dL_reserve_11 (fun H locs hP hD hS => ?_)
    refine g_goto C 27 dL_reserve_12 (by decide) ?_
    refine g_iconst C (nI 0) (by decide) dL_reserve_27 ?_
    exact g_iretM C ⟨_, W1, fun _ => ⟨rfl, hW1⟩, fun z => absurd h0 z, hP, hD⟩ hS (by rw [h0]) dL_reserve_28
  · obtain ⟨W1, hW1, hPw, hDw⟩ := hPX _ hP1
    obtain ⟨hP, hD⟩ := PD_put (u := [JR cJ oa f]) hP hD hPw hDw hk1
    rcases hcd with h9 | h9 | h9 | h9
    · exact absurd h9 h0
    · rw [h9, hc1] at hcl
      refine g_catch C [] ⟨0, 12, 15, 13⟩ [⟨0, 12, 19, 15⟩, ⟨0, 12, 23, 17⟩] hT hX (fun z hz => absurd hz List.not_mem_nil) rfl (by decide) wk_L_13 (by decide) hce hcv hcl ?_
      refine g_astore5 C rfl dL_reserve_15 ?_
      refine g_iconst C (nI 1) (by decide) dL_reserve_17 ?_
      exact g_iretM C ⟨_, W1, fun z => absurd z h0, fun _ => hW1, hP, hD⟩ hS (by rw [h9]) dL_reserve_18
    · rw [h9, hc2] at hcl
      refine g_catch C [⟨0, 12, 15, 13⟩] ⟨0, 12, 19, 15⟩ [⟨0, 12, 23, 17⟩] hT hX (List.forall_mem_cons.mpr ⟨⟨by decide, _, wk_L_13, by decide⟩, fun _ h => absurd h List.not_mem_nil⟩) rfl (by decide) wk_L_15 (by decide) hce hcv hcl ?_
      refine g_astore5 C rfl dL_reserve_19 ?_
      refine g_iconst C (nI 2) (by decide) dL_reserve_21 ?_
      exact g_iretM C ⟨_, W1, fun z => absurd z h0, fun _ => hW1, hP, hD⟩ hS (by rw [h9]) dL_reserve_22
    · rw [h9, hc3] at hcl
      refine g_catch C [⟨0, 12, 15, 13⟩, ⟨0, 12, 19, 15⟩] ⟨0, 12, 23, 17⟩ [] hT hX (List.forall_mem_cons.mpr ⟨⟨by decide, _, wk_L_13, by decide⟩, List.forall_mem_cons.mpr ⟨⟨by decide, _, wk_L_15, by decide⟩, fun _ h => absurd h List.not_mem_nil⟩⟩) rfl (by decide) wk_L_17 (by decide) hce hcv hcl ?_
      refine g_astore5 C rfl dL_reserve_23 ?_
      refine g_iconst C (nI 3) (by decide) dL_reserve_25 ?_
      exact g_iretM C ⟨_, W1, fun z => absurd z h0, fun _ => hW1, hP, hD⟩ hS (by rw [h9]) dL_reserve_26
theorem wW_L_buildVault : Cond.codeWith yL_buildVault cL_buildVault 5 (some .int) [(0, 10, 13, 13), (0, 10, 17, 17)] ∈ WG := List.mem_filter.mpr ⟨wr_3 _ (List.mem_of_getElem? (i := 79) rfl), rfl⟩
set_option maxHeartbeats 4000000 in
theorem c_L_buildVault {l : Launch} {dC : Nat → ClassId} {dI : Nat → Nat → Nat} {cI cL cJ : ClassId} {g1 g2 : Nat} {A : Nat → Prop} {o oa : Nat} {f : Nat → Int64} {W : va_W} {cd : Nat} {v : Int32} {x0 x1 : Int32} {cls : Nat → String} {Pre : State → Prop} {Post PX : Heap → Prop} {PW PV : va_W → Prop} (hPost : ∀ H, Post H → ∃ W1, PW W1 ∧ va_P (dC, dI) vwCl W1 H ∧ va_D (fun q => q ∈ W.map Prod.fst) W1) (hPX : ∀ H, PX H → ∃ W1, PV W1 ∧ va_P (dC, dI) vwCl W1 H ∧ va_D (fun q => q ∈ W.map Prod.fst) W1) (hcd : cd = 0 ∨ cd = 1 ∨ cd = 2) (hc1 : cls 1 = XIO) (hc2 : cls 2 = XIS) (hW0 : ∃ fs, W[0]? = some (o, .inr (2, fs))) (hbl : Bl Pre) (hat : ∀ U, va_P (dC, dI) vwCl W U.heap → va_D (fun q => q ∈ W.map Prod.fst) W → EV dC dI cI cL cJ U → ST g1 g2 (fun q => q ∈ W.map Prod.fst) U U.heap → XE (fun q => q ∈ W.map Prod.fst) U U.heap → Pre U)
    (hM : vx_Met l yX2_buildVault (.code yX2_buildVault cX2_buildVault 3 (some .int) :: WG) (rmC 7 4 24) (va_Pc [Value.ref o, .int x0, .int x1] Pre) (bx_Q cd (some (.int v)) Post (fun q => q ∈ W.map Prod.fst)) (bx_C cls cd PX (fun q => q ∈ W.map Prod.fst)) 4 24 (fun q => q ∈ W.map Prod.fst)) :
    Met l yL_buildVault (.codeWith yL_buildVault cL_buildVault 5 (some .int) [(0, 10, 13, 13), (0, 10, 17, 17)] :: WG) (rmC 8 4 24) (va_Pc [Value.ref o, .int x0, .int x1, .ref oa] (LHM dC dI cI cL cJ g1 g2 A oa f W)) (bq_M (some (.int (nI cd))) (fun H => ∃ (f1 : Nat → Int64) (W1 : va_W), (cd = 0 → f1 0 = v.toInt64 ∧ PW W1) ∧ (cd ≠ 0 → PV W1) ∧ va_P (dC, dI) vwCl (JR cJ oa f1 :: W1) H ∧ va_D A (JR cJ oa f1 :: W1)) A) 4 24 A := by
  refine bl_of [some (.ref o), some (.int x0), some (.int x1), some (.ref oa), none] rfl rfl (Nat.le_of_ble_eq_true rfl) (by decide) ?_
  intro P_ E_ s M_ B_ T_ K_ C hT hv
  obtain ⟨hP, hD, hK, hZ, hX⟩ := hv
  have hS : va_S A s.heap s.heap [] := va_S.rf
  obtain ⟨hDr, hAr⟩ := D_r (u := [JR cJ oa f]) hD
  have hPr := P_r (u := [JR cJ oa f]) hP
  obtain ⟨fs, hW0⟩ := hW0
  refine g_aload3 C dL_buildVault_0 ?_
  refine g_iconst C (nI 0) (by decide) dL_buildVault_1 ?_
  refine g_aload0 C dL_buildVault_2 ?_
  refine g_iload1 C dL_buildVault_3 ?_
  refine g_iload2 C dL_buildVault_4 ?_
  refine g_xV (As := [.int x0, .int x1]) C 2 rfl hM wl_L_34 wi_X2_buildVault wv_X2_buildVault wn_X2 wc_X2_buildVault (by decide +kernel) ⟨rfl, rfl, by decide, by decide⟩ hbl (va_recv (ci := 2) (q0 := 0) hK hPr rfl hW0) (fun U hU hW => hat U (by rw [hU]; exact hPr) hDr (va_K.moved hW.alike hK) (by rw [hU]; exact (hZ.moved hW.alike).narrow hAr) ((hX.at hS hU hW).narrow hAr)) rfl rfl (by simp [Value.category]) ⟨by decide, by decide⟩ hS hAr dL_buildVault_5 (fun H locs h0 hP1 _ hk1 hS => ?_) (fun H locs q ce h0 hP1 _ hk1 hS hce hcv hcl => ?_)
  · obtain ⟨W1, hW1, hPw, hDw⟩ := hPost _ hP1
    obtain ⟨hP, hD⟩ := PD_put (u := [JR cJ oa f]) hP hD hPw hDw hk1
    refine g_i2l C _ rfl dL_buildVault_8 ?_
    refine g_last C hK hP hD hS dL_buildVault_9 (fun H locs hP hD hS => ?_)
    refine g_goto C 21 dL_buildVault_10 (by decide) ?_
    refine g_iconst C (nI 0) (by decide) dL_buildVault_21 ?_
    exact g_iretM C ⟨_, W1, fun _ => ⟨rfl, hW1⟩, fun z => absurd h0 z, hP, hD⟩ hS (by rw [h0]) dL_buildVault_22
  · obtain ⟨W1, hW1, hPw, hDw⟩ := hPX _ hP1
    obtain ⟨hP, hD⟩ := PD_put (u := [JR cJ oa f]) hP hD hPw hDw hk1
    rcases hcd with h9 | h9 | h9
    · exact absurd h9 h0
    · rw [h9, hc1] at hcl
      refine g_catch C [] ⟨0, 10, 13, 13⟩ [⟨0, 10, 17, 17⟩] hT hX (fun z hz => absurd hz List.not_mem_nil) rfl (by decide) wk_L_13 (by decide) hce hcv hcl ?_
      refine g_astore4 C rfl dL_buildVault_13 ?_
      refine g_iconst C (nI 1) (by decide) dL_buildVault_15 ?_
      exact g_iretM C ⟨_, W1, fun z => absurd z h0, fun _ => hW1, hP, hD⟩ hS (by rw [h9]) dL_buildVault_16
    · rw [h9, hc2] at hcl
      refine g_catch C [⟨0, 10, 13, 13⟩] ⟨0, 10, 17, 17⟩ [] hT hX (List.forall_mem_cons.mpr ⟨⟨by decide, _, wk_L_13, by decide⟩, fun _ h => absurd h List.not_mem_nil⟩) rfl (by decide) wk_L_17 (by decide) hce hcv hcl ?_
      refine g_astore4 C rfl dL_buildVault_17 ?_
      refine g_iconst C (nI 2) (by decide) dL_buildVault_19 ?_
      exact g_iretM C ⟨_, W1, fun z => absurd z h0, fun _ => hW1, hP, hD⟩ hS (by rw [h9]) dL_buildVault_20
theorem wW_L_clear : Cond.codeWith yL_clear cL_clear 4 (some .int) [(0, 9, 12, 13), (0, 9, 15, 17)] ∈ WG := List.mem_filter.mpr ⟨wr_3 _ (List.mem_of_getElem? (i := 95) rfl), rfl⟩
set_option maxHeartbeats 4000000 in
theorem c_L_clear {l : Launch} {dC : Nat → ClassId} {dI : Nat → Nat → Nat} {cI cL cJ : ClassId} {g1 g2 : Nat} {A : Nat → Prop} {o oa : Nat} {f : Nat → Int64} {W : va_W} {cd : Nat} {v : Int32} {x0 : Int32} {cls : Nat → String} {Pre : State → Prop} {Post PX : Heap → Prop} {PW PV : va_W → Prop} (hPost : ∀ H, Post H → ∃ W1, PW W1 ∧ va_P (dC, dI) vwCl W1 H ∧ va_D (fun q => q ∈ W.map Prod.fst) W1) (hPX : ∀ H, PX H → ∃ W1, PV W1 ∧ va_P (dC, dI) vwCl W1 H ∧ va_D (fun q => q ∈ W.map Prod.fst) W1) (hcd : cd = 0 ∨ cd = 1 ∨ cd = 2) (hc1 : cls 1 = XIO) (hc2 : cls 2 = XIS) (hW0 : ∃ fs, W[0]? = some (o, .inr (2, fs))) (hbl : Bl Pre) (hat : ∀ U, va_P (dC, dI) vwCl W U.heap → va_D (fun q => q ∈ W.map Prod.fst) W → EV dC dI cI cL cJ U → ST g1 g2 (fun q => q ∈ W.map Prod.fst) U U.heap → XE (fun q => q ∈ W.map Prod.fst) U U.heap → Pre U)
    (hM : vx_Met l yX2_clear (.code yX2_clear cX2_clear 2 (some .int) :: WG) (rmC 7 4 24) (va_Pc [Value.ref o, .int x0] Pre) (bx_Q cd (some (.int v)) Post (fun q => q ∈ W.map Prod.fst)) (bx_C cls cd PX (fun q => q ∈ W.map Prod.fst)) 4 24 (fun q => q ∈ W.map Prod.fst)) :
    Met l yL_clear (.codeWith yL_clear cL_clear 4 (some .int) [(0, 9, 12, 13), (0, 9, 15, 17)] :: WG) (rmC 8 4 24) (va_Pc [Value.ref o, .int x0, .ref oa] (LHM dC dI cI cL cJ g1 g2 A oa f W)) (bq_M (some (.int (nI cd))) (fun H => ∃ (f1 : Nat → Int64) (W1 : va_W), (cd = 0 → f1 0 = v.toInt64 ∧ PW W1) ∧ (cd ≠ 0 → PV W1) ∧ va_P (dC, dI) vwCl (JR cJ oa f1 :: W1) H ∧ va_D A (JR cJ oa f1 :: W1)) A) 4 24 A := by
  refine bl_of [some (.ref o), some (.int x0), some (.ref oa), none] rfl rfl (Nat.le_of_ble_eq_true rfl) (by decide) ?_
  intro P_ E_ s M_ B_ T_ K_ C hT hv
  obtain ⟨hP, hD, hK, hZ, hX⟩ := hv
  have hS : va_S A s.heap s.heap [] := va_S.rf
  obtain ⟨hDr, hAr⟩ := D_r (u := [JR cJ oa f]) hD
  have hPr := P_r (u := [JR cJ oa f]) hP
  obtain ⟨fs, hW0⟩ := hW0
  refine g_aload2 C dL_clear_0 ?_
  refine g_iconst C (nI 0) (by decide) dL_clear_1 ?_
  refine g_aload0 C dL_clear_2 ?_
  refine g_iload1 C dL_clear_3 ?_
  refine g_xV (As := [.int x0]) C 1 rfl hM wl_L_37 wi_X2_clear wv_X2_clear wn_X2 wc_X2_clear (by decide +kernel) ⟨rfl, rfl, by decide, by decide⟩ hbl (va_recv (ci := 2) (q0 := 0) hK hPr rfl hW0) (fun U hU hW => hat U (by rw [hU]; exact hPr) hDr (va_K.moved hW.alike hK) (by rw [hU]; exact (hZ.moved hW.alike).narrow hAr) ((hX.at hS hU hW).narrow hAr)) rfl rfl (by simp [Value.category]) ⟨by decide, by decide⟩ hS hAr dL_clear_4 (fun H locs h0 hP1 _ hk1 hS => ?_) (fun H locs q ce h0 hP1 _ hk1 hS hce hcv hcl => ?_)
  · obtain ⟨W1, hW1, hPw, hDw⟩ := hPost _ hP1
    obtain ⟨hP, hD⟩ := PD_put (u := [JR cJ oa f]) hP hD hPw hDw hk1
    refine g_i2l C _ rfl dL_clear_7 ?_
    refine g_last C hK hP hD hS dL_clear_8 (fun H locs hP hD hS => ?_)
    refine g_goto C 18 dL_clear_9 (by decide) ?_
    refine g_iconst C (nI 0) (by decide) dL_clear_18 ?_
    exact g_iretM C ⟨_, W1, fun _ => ⟨rfl, hW1⟩, fun z => absurd h0 z, hP, hD⟩ hS (by rw [h0]) dL_clear_19
  · obtain ⟨W1, hW1, hPw, hDw⟩ := hPX _ hP1
    obtain ⟨hP, hD⟩ := PD_put (u := [JR cJ oa f]) hP hD hPw hDw hk1
    rcases hcd with h9 | h9 | h9
    · exact absurd h9 h0
    · rw [h9, hc1] at hcl
      refine g_catch C [] ⟨0, 9, 12, 13⟩ [⟨0, 9, 15, 17⟩] hT hX (fun z hz => absurd hz List.not_mem_nil) rfl (by decide) wk_L_13 (by decide) hce hcv hcl ?_
      refine g_astore3 C rfl dL_clear_12 ?_
      refine g_iconst C (nI 1) (by decide) dL_clear_13 ?_
      exact g_iretM C ⟨_, W1, fun z => absurd z h0, fun _ => hW1, hP, hD⟩ hS (by rw [h9]) dL_clear_14
    · rw [h9, hc2] at hcl
      refine g_catch C [⟨0, 9, 12, 13⟩] ⟨0, 9, 15, 17⟩ [] hT hX (List.forall_mem_cons.mpr ⟨⟨by decide, _, wk_L_13, by decide⟩, fun _ h => absurd h List.not_mem_nil⟩) rfl (by decide) wk_L_17 (by decide) hce hcv hcl ?_
      refine g_astore3 C rfl dL_clear_15 ?_
      refine g_iconst C (nI 2) (by decide) dL_clear_16 ?_
      exact g_iretM C ⟨_, W1, fun z => absurd z h0, fun _ => hW1, hP, hD⟩ hS (by rw [h9]) dL_clear_17
theorem wW_L_append : Cond.codeWith yL_append cL_append 4 (some .int) [(0, 9, 12, 15), (0, 9, 15, 17)] ∈ WG := List.mem_filter.mpr ⟨wr_3 _ (List.mem_of_getElem? (i := 108) rfl), rfl⟩
set_option maxHeartbeats 4000000 in
theorem c_L_append {l : Launch} {dC : Nat → ClassId} {dI : Nat → Nat → Nat} {cI cL cJ : ClassId} {g1 g2 : Nat} {A : Nat → Prop} {o oa : Nat} {f : Nat → Int64} {W : va_W} {cd : Nat} {v : Int32} {x0 : Int32} {cls : Nat → String} {Pre : State → Prop} {Post PX : Heap → Prop} {PW PV : va_W → Prop} (hPost : ∀ H, Post H → ∃ W1, PW W1 ∧ va_P (dC, dI) vwCl W1 H ∧ va_D (fun q => q ∈ W.map Prod.fst) W1) (hPX : ∀ H, PX H → ∃ W1, PV W1 ∧ va_P (dC, dI) vwCl W1 H ∧ va_D (fun q => q ∈ W.map Prod.fst) W1) (hcd : cd = 0 ∨ cd = 1 ∨ cd = 2) (hc1 : cls 1 = XIA) (hc2 : cls 2 = XIS) (hW0 : ∃ fs, W[0]? = some (o, .inr (2, fs))) (hbl : Bl Pre) (hat : ∀ U, va_P (dC, dI) vwCl W U.heap → va_D (fun q => q ∈ W.map Prod.fst) W → EV dC dI cI cL cJ U → ST g1 g2 (fun q => q ∈ W.map Prod.fst) U U.heap → XE (fun q => q ∈ W.map Prod.fst) U U.heap → Pre U)
    (hM : vx_Met l yX2_append (.code yX2_append cX2_append 2 (some .int) :: WG) (rmC 7 4 24) (va_Pc [Value.ref o, .int x0] Pre) (bx_Q cd (some (.int v)) Post (fun q => q ∈ W.map Prod.fst)) (bx_C cls cd PX (fun q => q ∈ W.map Prod.fst)) 4 24 (fun q => q ∈ W.map Prod.fst)) :
    Met l yL_append (.codeWith yL_append cL_append 4 (some .int) [(0, 9, 12, 15), (0, 9, 15, 17)] :: WG) (rmC 8 4 24) (va_Pc [Value.ref o, .int x0, .ref oa] (LHM dC dI cI cL cJ g1 g2 A oa f W)) (bq_M (some (.int (nI cd))) (fun H => ∃ (f1 : Nat → Int64) (W1 : va_W), (cd = 0 → f1 0 = v.toInt64 ∧ PW W1) ∧ (cd ≠ 0 → PV W1) ∧ va_P (dC, dI) vwCl (JR cJ oa f1 :: W1) H ∧ va_D A (JR cJ oa f1 :: W1)) A) 4 24 A := by
  refine bl_of [some (.ref o), some (.int x0), some (.ref oa), none] rfl rfl (Nat.le_of_ble_eq_true rfl) (by decide) ?_
  intro P_ E_ s M_ B_ T_ K_ C hT hv
  obtain ⟨hP, hD, hK, hZ, hX⟩ := hv
  have hS : va_S A s.heap s.heap [] := va_S.rf
  obtain ⟨hDr, hAr⟩ := D_r (u := [JR cJ oa f]) hD
  have hPr := P_r (u := [JR cJ oa f]) hP
  obtain ⟨fs, hW0⟩ := hW0
  refine g_aload2 C dL_append_0 ?_
  refine g_iconst C (nI 0) (by decide) dL_append_1 ?_
  refine g_aload0 C dL_append_2 ?_
  refine g_iload1 C dL_append_3 ?_
  refine g_xV (As := [.int x0]) C 1 rfl hM wl_L_40 wi_X2_append wv_X2_append wn_X2 wc_X2_append (by decide +kernel) ⟨rfl, rfl, by decide, by decide⟩ hbl (va_recv (ci := 2) (q0 := 0) hK hPr rfl hW0) (fun U hU hW => hat U (by rw [hU]; exact hPr) hDr (va_K.moved hW.alike hK) (by rw [hU]; exact (hZ.moved hW.alike).narrow hAr) ((hX.at hS hU hW).narrow hAr)) rfl rfl (by simp [Value.category]) ⟨by decide, by decide⟩ hS hAr dL_append_4 (fun H locs h0 hP1 _ hk1 hS => ?_) (fun H locs q ce h0 hP1 _ hk1 hS hce hcv hcl => ?_)
  · obtain ⟨W1, hW1, hPw, hDw⟩ := hPost _ hP1
    obtain ⟨hP, hD⟩ := PD_put (u := [JR cJ oa f]) hP hD hPw hDw hk1
    refine g_i2l C _ rfl dL_append_7 ?_
    refine g_last C hK hP hD hS dL_append_8 (fun H locs hP hD hS => ?_)
    refine g_goto C 18 dL_append_9 (by decide) ?_
    refine g_iconst C (nI 0) (by decide) dL_append_18 ?_
    exact g_iretM C ⟨_, W1, fun _ => ⟨rfl, hW1⟩, fun z => absurd h0 z, hP, hD⟩ hS (by rw [h0]) dL_append_19
  · obtain ⟨W1, hW1, hPw, hDw⟩ := hPX _ hP1
    obtain ⟨hP, hD⟩ := PD_put (u := [JR cJ oa f]) hP hD hPw hDw hk1
    rcases hcd with h9 | h9 | h9
    · exact absurd h9 h0
    · rw [h9, hc1] at hcl
      refine g_catch C [] ⟨0, 9, 12, 15⟩ [⟨0, 9, 15, 17⟩] hT hX (fun z hz => absurd hz List.not_mem_nil) rfl (by decide) wk_L_15 (by decide) hce hcv hcl ?_
      refine g_astore3 C rfl dL_append_12 ?_
      refine g_iconst C (nI 1) (by decide) dL_append_13 ?_
      exact g_iretM C ⟨_, W1, fun z => absurd z h0, fun _ => hW1, hP, hD⟩ hS (by rw [h9]) dL_append_14
    · rw [h9, hc2] at hcl
      refine g_catch C [⟨0, 9, 12, 15⟩] ⟨0, 9, 15, 17⟩ [] hT hX (List.forall_mem_cons.mpr ⟨⟨by decide, _, wk_L_15, by decide⟩, fun _ h => absurd h List.not_mem_nil⟩) rfl (by decide) wk_L_17 (by decide) hce hcv hcl ?_
      refine g_astore3 C rfl dL_append_15 ?_
      refine g_iconst C (nI 2) (by decide) dL_append_16 ?_
      exact g_iretM C ⟨_, W1, fun z => absurd z h0, fun _ => hW1, hP, hD⟩ hS (by rw [h9]) dL_append_17
theorem wW_L_load : Cond.codeWith yL_load cL_load 3 (some .int) [(0, 8, 11, 15)] ∈ WG := List.mem_filter.mpr ⟨wr_3 _ (List.mem_of_getElem? (i := 117) rfl), rfl⟩
set_option maxHeartbeats 4000000 in
theorem c_L_load {l : Launch} {dC : Nat → ClassId} {dI : Nat → Nat → Nat} {cI cL cJ : ClassId} {g1 g2 : Nat} {A : Nat → Prop} {o oa : Nat} {f : Nat → Int64} {W : va_W} {cd : Nat} {v : Int32} {cls : Nat → String} {Pre : State → Prop} {Post PX : Heap → Prop} {PW PV : va_W → Prop} (hPost : ∀ H, Post H → ∃ W1, PW W1 ∧ va_P (dC, dI) vwCl W1 H ∧ va_D (fun q => q ∈ W.map Prod.fst) W1) (hPX : ∀ H, PX H → ∃ W1, PV W1 ∧ va_P (dC, dI) vwCl W1 H ∧ va_D (fun q => q ∈ W.map Prod.fst) W1) (hcd : cd = 0 ∨ cd = 1) (hc1 : cls 1 = XIA) (hW0 : ∃ fs, W[0]? = some (o, .inr (2, fs))) (hbl : Bl Pre) (hat : ∀ U, va_P (dC, dI) vwCl W U.heap → va_D (fun q => q ∈ W.map Prod.fst) W → EV dC dI cI cL cJ U → ST g1 g2 (fun q => q ∈ W.map Prod.fst) U U.heap → XE (fun q => q ∈ W.map Prod.fst) U U.heap → Pre U)
    (hM : vx_Met l yX2_load (.code yX2_load cX2_load 2 (some .int) :: WG) (rmC 7 4 24) (va_Pc [Value.ref o] Pre) (bx_Q cd (some (.int v)) Post (fun q => q ∈ W.map Prod.fst)) (bx_C cls cd PX (fun q => q ∈ W.map Prod.fst)) 4 24 (fun q => q ∈ W.map Prod.fst)) :
    Met l yL_load (.codeWith yL_load cL_load 3 (some .int) [(0, 8, 11, 15)] :: WG) (rmC 8 4 24) (va_Pc [Value.ref o, .ref oa] (LHM dC dI cI cL cJ g1 g2 A oa f W)) (bq_M (some (.int (nI cd))) (fun H => ∃ (f1 : Nat → Int64) (W1 : va_W), (cd = 0 → f1 0 = v.toInt64 ∧ PW W1) ∧ (cd ≠ 0 → PV W1) ∧ va_P (dC, dI) vwCl (JR cJ oa f1 :: W1) H ∧ va_D A (JR cJ oa f1 :: W1)) A) 4 24 A := by
  refine bl_of [some (.ref o), some (.ref oa), none] rfl rfl (Nat.le_of_ble_eq_true rfl) (by decide) ?_
  intro P_ E_ s M_ B_ T_ K_ C hT hv
  obtain ⟨hP, hD, hK, hZ, hX⟩ := hv
  have hS : va_S A s.heap s.heap [] := va_S.rf
  obtain ⟨hDr, hAr⟩ := D_r (u := [JR cJ oa f]) hD
  have hPr := P_r (u := [JR cJ oa f]) hP
  obtain ⟨fs, hW0⟩ := hW0
  refine g_aload1 C dL_load_0 ?_
  refine g_iconst C (nI 0) (by decide) dL_load_1 ?_
  refine g_aload0 C dL_load_2 ?_
  refine g_xV (As := []) C 0 rfl hM wl_L_43 wi_X2_load wv_X2_load wn_X2 wc_X2_load (by decide +kernel) ⟨rfl, rfl, by decide, by decide⟩ hbl (va_recv (ci := 2) (q0 := 0) hK hPr rfl hW0) (fun U hU hW => hat U (by rw [hU]; exact hPr) hDr (va_K.moved hW.alike hK) (by rw [hU]; exact (hZ.moved hW.alike).narrow hAr) ((hX.at hS hU hW).narrow hAr)) rfl rfl (by simp [Value.category]) ⟨by decide, by decide⟩ hS hAr dL_load_3 (fun H locs h0 hP1 _ hk1 hS => ?_) (fun H locs q ce h0 hP1 _ hk1 hS hce hcv hcl => ?_)
  · obtain ⟨W1, hW1, hPw, hDw⟩ := hPost _ hP1
    obtain ⟨hP, hD⟩ := PD_put (u := [JR cJ oa f]) hP hD hPw hDw hk1
    refine g_i2l C _ rfl dL_load_6 ?_
    refine g_last C hK hP hD hS dL_load_7 (fun H locs hP hD hS => ?_)
    refine g_goto C 14 dL_load_8 (by decide) ?_
    refine g_iconst C (nI 0) (by decide) dL_load_14 ?_
    exact g_iretM C ⟨_, W1, fun _ => ⟨rfl, hW1⟩, fun z => absurd h0 z, hP, hD⟩ hS (by rw [h0]) dL_load_15
  · obtain ⟨W1, hW1, hPw, hDw⟩ := hPX _ hP1
    obtain ⟨hP, hD⟩ := PD_put (u := [JR cJ oa f]) hP hD hPw hDw hk1
    rcases hcd with h9 | h9
    · exact absurd h9 h0
    · rw [h9, hc1] at hcl
      refine g_catch C [] ⟨0, 8, 11, 15⟩ [] hT hX (fun z hz => absurd hz List.not_mem_nil) rfl (by decide) wk_L_15 (by decide) hce hcv hcl ?_
      refine g_astore2 C rfl dL_load_11 ?_
      refine g_iconst C (nI 1) (by decide) dL_load_12 ?_
      exact g_iretM C ⟨_, W1, fun z => absurd z h0, fun _ => hW1, hP, hD⟩ hS (by rw [h9]) dL_load_13
theorem wW_L_undo : Cond.codeWith yL_undo cL_undo 3 (some .int) [(0, 8, 11, 17)] ∈ WG := List.mem_filter.mpr ⟨wr_3 _ (List.mem_of_getElem? (i := 137) rfl), rfl⟩
set_option maxHeartbeats 4000000 in
theorem c_L_undo {l : Launch} {dC : Nat → ClassId} {dI : Nat → Nat → Nat} {cI cL cJ : ClassId} {g1 g2 : Nat} {A : Nat → Prop} {o oa : Nat} {f : Nat → Int64} {W : va_W} {cd : Nat} {v : Int32} {cls : Nat → String} {Pre : State → Prop} {Post PX : Heap → Prop} {PW PV : va_W → Prop} (hPost : ∀ H, Post H → ∃ W1, PW W1 ∧ va_P (dC, dI) vwCl W1 H ∧ va_D (fun q => q ∈ W.map Prod.fst) W1) (hPX : ∀ H, PX H → ∃ W1, PV W1 ∧ va_P (dC, dI) vwCl W1 H ∧ va_D (fun q => q ∈ W.map Prod.fst) W1) (hcd : cd = 0 ∨ cd = 1) (hc1 : cls 1 = XIS) (hW0 : ∃ fs, W[0]? = some (o, .inr (2, fs))) (hbl : Bl Pre) (hat : ∀ U, va_P (dC, dI) vwCl W U.heap → va_D (fun q => q ∈ W.map Prod.fst) W → EV dC dI cI cL cJ U → ST g1 g2 (fun q => q ∈ W.map Prod.fst) U U.heap → XE (fun q => q ∈ W.map Prod.fst) U U.heap → Pre U)
    (hM : vx_Met l yX2_undo (.code yX2_undo cX2_undo 1 (some .int) :: WG) (rmC 7 4 24) (va_Pc [Value.ref o] Pre) (bx_Q cd (some (.int v)) Post (fun q => q ∈ W.map Prod.fst)) (bx_C cls cd PX (fun q => q ∈ W.map Prod.fst)) 4 24 (fun q => q ∈ W.map Prod.fst)) :
    Met l yL_undo (.codeWith yL_undo cL_undo 3 (some .int) [(0, 8, 11, 17)] :: WG) (rmC 8 4 24) (va_Pc [Value.ref o, .ref oa] (LHM dC dI cI cL cJ g1 g2 A oa f W)) (bq_M (some (.int (nI cd))) (fun H => ∃ (f1 : Nat → Int64) (W1 : va_W), (cd = 0 → f1 0 = v.toInt64 ∧ PW W1) ∧ (cd ≠ 0 → PV W1) ∧ va_P (dC, dI) vwCl (JR cJ oa f1 :: W1) H ∧ va_D A (JR cJ oa f1 :: W1)) A) 4 24 A := by
  refine bl_of [some (.ref o), some (.ref oa), none] rfl rfl (Nat.le_of_ble_eq_true rfl) (by decide) ?_
  intro P_ E_ s M_ B_ T_ K_ C hT hv
  obtain ⟨hP, hD, hK, hZ, hX⟩ := hv
  have hS : va_S A s.heap s.heap [] := va_S.rf
  obtain ⟨hDr, hAr⟩ := D_r (u := [JR cJ oa f]) hD
  have hPr := P_r (u := [JR cJ oa f]) hP
  obtain ⟨fs, hW0⟩ := hW0
  refine g_aload1 C dL_undo_0 ?_
  refine g_iconst C (nI 0) (by decide) dL_undo_1 ?_
  refine g_aload0 C dL_undo_2 ?_
  refine g_xV (As := []) C 0 rfl hM wl_L_47 wi_X2_undo wv_X2_undo wn_X2 wc_X2_undo (by decide +kernel) ⟨rfl, rfl, by decide, by decide⟩ hbl (va_recv (ci := 2) (q0 := 0) hK hPr rfl hW0) (fun U hU hW => hat U (by rw [hU]; exact hPr) hDr (va_K.moved hW.alike hK) (by rw [hU]; exact (hZ.moved hW.alike).narrow hAr) ((hX.at hS hU hW).narrow hAr)) rfl rfl (by simp [Value.category]) ⟨by decide, by decide⟩ hS hAr dL_undo_3 (fun H locs h0 hP1 _ hk1 hS => ?_) (fun H locs q ce h0 hP1 _ hk1 hS hce hcv hcl => ?_)
  · obtain ⟨W1, hW1, hPw, hDw⟩ := hPost _ hP1
    obtain ⟨hP, hD⟩ := PD_put (u := [JR cJ oa f]) hP hD hPw hDw hk1
    refine g_i2l C _ rfl dL_undo_6 ?_
    refine g_last C hK hP hD hS dL_undo_7 (fun H locs hP hD hS => ?_)
    refine g_goto C 14 dL_undo_8 (by decide) ?_
    refine g_iconst C (nI 0) (by decide) dL_undo_14 ?_
    exact g_iretM C ⟨_, W1, fun _ => ⟨rfl, hW1⟩, fun z => absurd h0 z, hP, hD⟩ hS (by rw [h0]) dL_undo_15
  · obtain ⟨W1, hW1, hPw, hDw⟩ := hPX _ hP1
    obtain ⟨hP, hD⟩ := PD_put (u := [JR cJ oa f]) hP hD hPw hDw hk1
    rcases hcd with h9 | h9
    · exact absurd h9 h0
    · rw [h9, hc1] at hcl
      refine g_catch C [] ⟨0, 8, 11, 17⟩ [] hT hX (fun z hz => absurd hz List.not_mem_nil) rfl (by decide) wk_L_17 (by decide) hce hcv hcl ?_
      refine g_astore2 C rfl dL_undo_11 ?_
      refine g_iconst C (nI 1) (by decide) dL_undo_12 ?_
      exact g_iretM C ⟨_, W1, fun z => absurd z h0, fun _ => hW1, hP, hD⟩ hS (by rw [h9]) dL_undo_13
theorem wW_L_plot : Cond.codeWith yL_plot cL_plot 5 (some .int) [(0, 10, 13, 13), (0, 10, 17, 15)] ∈ WG := List.mem_filter.mpr ⟨wr_3 _ (List.mem_of_getElem? (i := 145) rfl), rfl⟩
set_option maxHeartbeats 4000000 in
theorem c_L_plot {l : Launch} {dC : Nat → ClassId} {dI : Nat → Nat → Nat} {cI cL cJ : ClassId} {g1 g2 : Nat} {A : Nat → Prop} {o oa : Nat} {f : Nat → Int64} {W : va_W} {cd : Nat} {v : Int32} {x0 x1 : Int32} {cls : Nat → String} {Pre : State → Prop} (hcd : cd = 0 ∨ cd = 1 ∨ cd = 2) (hc1 : cls 1 = XIO) (hc2 : cls 2 = XIA) (hW0 : ∃ fs, W[0]? = some (o, .inr (2, fs))) (hbl : Bl Pre) (hat : ∀ U, va_P (dC, dI) vwCl W U.heap → va_D (fun q => q ∈ W.map Prod.fst) W → EV dC dI cI cL cJ U → ST g1 g2 (fun q => q ∈ W.map Prod.fst) U U.heap → XE (fun q => q ∈ W.map Prod.fst) U U.heap → Pre U)
    (hM : vx_Met l yX2_plot (.code yX2_plot cX2_plot 3 (some .int) :: WG) (rmC 7 4 24) (va_Pc [Value.ref o, .int x0, .int x1] Pre) (bx_Q cd (some (.int v)) (fun _ => True) (fun _ => False)) (bx_C cls cd (fun _ => True) (fun _ => False)) 4 24 (fun _ => False)) :
    Met l yL_plot (.codeWith yL_plot cL_plot 5 (some .int) [(0, 10, 13, 13), (0, 10, 17, 15)] :: WG) (rmC 8 4 24) (va_Pc [Value.ref o, .int x0, .int x1, .ref oa] (LHM dC dI cI cL cJ g1 g2 A oa f W)) (bq_M (some (.int (nI cd))) (fun H => ∃ f1 : Nat → Int64, (cd = 0 → f1 0 = v.toInt64) ∧ va_P (dC, dI) vwCl (JR cJ oa f1 :: W) H ∧ va_D A (JR cJ oa f1 :: W)) A) 4 24 A := by
  refine bl_of [some (.ref o), some (.int x0), some (.int x1), some (.ref oa), none] rfl rfl (Nat.le_of_ble_eq_true rfl) (by decide) ?_
  intro P_ E_ s M_ B_ T_ K_ C hT hv
  obtain ⟨hP, hD, hK, hZ, hX⟩ := hv
  have hS : va_S A s.heap s.heap [] := va_S.rf
  obtain ⟨hDr, hAr⟩ := D_r (u := [JR cJ oa f]) hD
  have hPr := P_r (u := [JR cJ oa f]) hP
  obtain ⟨fs, hW0⟩ := hW0
  refine g_aload3 C dL_plot_0 ?_
  refine g_iconst C (nI 0) (by decide) dL_plot_1 ?_
  refine g_aload0 C dL_plot_2 ?_
  refine g_iload1 C dL_plot_3 ?_
  refine g_iload2 C dL_plot_4 ?_
  refine g_xV (As := [.int x0, .int x1]) C 2 rfl hM wl_L_50 wi_X2_plot wv_X2_plot wn_X2 wc_X2_plot (by decide +kernel) ⟨rfl, rfl, by decide, by decide⟩ hbl (va_recv (ci := 2) (q0 := 0) hK hPr rfl hW0) (fun U hU hW => hat U (by rw [hU]; exact hPr) hDr (va_K.moved hW.alike hK) (by rw [hU]; exact (hZ.moved hW.alike).narrow hAr) ((hX.at hS hU hW).narrow hAr)) rfl rfl (by simp [Value.category]) ⟨by decide, by decide⟩ hS (fun _ z => z.elim) dL_plot_5 (fun H locs h0 hP1 _ hk1 hS => ?_) (fun H locs q ce h0 hP1 _ hk1 hS hce hcv hcl => ?_)
  · have hP : va_P (dC, dI) vwCl (JR cJ oa f :: W) H := P_kept hP (fun q hq => hk1 q hq (fun z => z))
    refine g_i2l C _ rfl dL_plot_8 ?_
    refine g_last C hK hP hD hS dL_plot_9 (fun H locs hP hD hS => ?_)
    refine g_goto C 21 dL_plot_10 (by decide) ?_
    refine g_iconst C (nI 0) (by decide) dL_plot_21 ?_
    exact g_iretM C ⟨_, fun _ => rfl, hP, hD⟩ hS (by rw [h0]) dL_plot_22
  · have hP : va_P (dC, dI) vwCl (JR cJ oa f :: W) H := P_kept hP (fun q hq => hk1 q hq (fun z => z))
    rcases hcd with h9 | h9 | h9
    · exact absurd h9 h0
    · rw [h9, hc1] at hcl
      refine g_catch C [] ⟨0, 10, 13, 13⟩ [⟨0, 10, 17, 15⟩] hT hX (fun z hz => absurd hz List.not_mem_nil) rfl (by decide) wk_L_13 (by decide) hce hcv hcl ?_
      refine g_astore4 C rfl dL_plot_13 ?_
      refine g_iconst C (nI 1) (by decide) dL_plot_15 ?_
      exact g_iretM C ⟨_, fun z => absurd z h0, hP, hD⟩ hS (by rw [h9]) dL_plot_16
    · rw [h9, hc2] at hcl
      refine g_catch C [⟨0, 10, 13, 13⟩] ⟨0, 10, 17, 15⟩ [] hT hX (List.forall_mem_cons.mpr ⟨⟨by decide, _, wk_L_13, by decide⟩, fun _ h => absurd h List.not_mem_nil⟩) rfl (by decide) wk_L_15 (by decide) hce hcv hcl ?_
      refine g_astore4 C rfl dL_plot_17 ?_
      refine g_iconst C (nI 2) (by decide) dL_plot_19 ?_
      exact g_iretM C ⟨_, fun z => absurd z h0, hP, hD⟩ hS (by rw [h9]) dL_plot_20
theorem wW_L_burial : Cond.codeWith yL_burial cL_burial 6 (some .int) [(0, 12, 15, 13), (0, 12, 19, 15)] ∈ WG := List.mem_filter.mpr ⟨wr_3 _ (List.mem_of_getElem? (i := 156) rfl), rfl⟩
set_option maxHeartbeats 4000000 in
theorem c_L_burial {l : Launch} {dC : Nat → ClassId} {dI : Nat → Nat → Nat} {cI cL cJ : ClassId} {g1 g2 : Nat} {A : Nat → Prop} {o oa : Nat} {f : Nat → Int64} {W : va_W} {cd : Nat} {v : Int32} {x0 x1 x2 : Int32} {cls : Nat → String} {Pre : State → Prop} (hcd : cd = 0 ∨ cd = 1 ∨ cd = 2) (hc1 : cls 1 = XIO) (hc2 : cls 2 = XIA) (hW0 : ∃ fs, W[0]? = some (o, .inr (2, fs))) (hbl : Bl Pre) (hat : ∀ U, va_P (dC, dI) vwCl W U.heap → va_D (fun q => q ∈ W.map Prod.fst) W → EV dC dI cI cL cJ U → ST g1 g2 (fun q => q ∈ W.map Prod.fst) U U.heap → XE (fun q => q ∈ W.map Prod.fst) U U.heap → Pre U)
    (hM : vx_Met l yX2_burial (.code yX2_burial cX2_burial 4 (some .int) :: WG) (rmC 7 4 24) (va_Pc [Value.ref o, .int x0, .int x1, .int x2] Pre) (bx_Q cd (some (.int v)) (fun _ => True) (fun _ => False)) (bx_C cls cd (fun _ => True) (fun _ => False)) 4 24 (fun _ => False)) :
    Met l yL_burial (.codeWith yL_burial cL_burial 6 (some .int) [(0, 12, 15, 13), (0, 12, 19, 15)] :: WG) (rmC 8 4 24) (va_Pc [Value.ref o, .int x0, .int x1, .int x2, .ref oa] (LHM dC dI cI cL cJ g1 g2 A oa f W)) (bq_M (some (.int (nI cd))) (fun H => ∃ f1 : Nat → Int64, (cd = 0 → f1 0 = v.toInt64) ∧ va_P (dC, dI) vwCl (JR cJ oa f1 :: W) H ∧ va_D A (JR cJ oa f1 :: W)) A) 4 24 A := by
  refine bl_of [some (.ref o), some (.int x0), some (.int x1), some (.int x2), some (.ref oa), none] rfl rfl (Nat.le_of_ble_eq_true rfl) (by decide) ?_
  intro P_ E_ s M_ B_ T_ K_ C hT hv
  obtain ⟨hP, hD, hK, hZ, hX⟩ := hv
  have hS : va_S A s.heap s.heap [] := va_S.rf
  obtain ⟨hDr, hAr⟩ := D_r (u := [JR cJ oa f]) hD
  have hPr := P_r (u := [JR cJ oa f]) hP
  obtain ⟨fs, hW0⟩ := hW0
  refine g_aload4 C dL_burial_0 ?_
  refine g_iconst C (nI 0) (by decide) dL_burial_2 ?_
  refine g_aload0 C dL_burial_3 ?_
  refine g_iload1 C dL_burial_4 ?_
  refine g_iload2 C dL_burial_5 ?_
  refine g_iload3 C dL_burial_6 ?_
  refine g_xV (As := [.int x0, .int x1, .int x2]) C 3 rfl hM wl_L_53 wi_X2_burial wv_X2_burial wn_X2 wc_X2_burial (by decide +kernel) ⟨rfl, rfl, by decide, by decide⟩ hbl (va_recv (ci := 2) (q0 := 0) hK hPr rfl hW0) (fun U hU hW => hat U (by rw [hU]; exact hPr) hDr (va_K.moved hW.alike hK) (by rw [hU]; exact (hZ.moved hW.alike).narrow hAr) ((hX.at hS hU hW).narrow hAr)) rfl rfl (by simp [Value.category]) ⟨by decide, by decide⟩ hS (fun _ z => z.elim) dL_burial_7 (fun H locs h0 hP1 _ hk1 hS => ?_) (fun H locs q ce h0 hP1 _ hk1 hS hce hcv hcl => ?_)
  · have hP : va_P (dC, dI) vwCl (JR cJ oa f :: W) H := P_kept hP (fun q hq => hk1 q hq (fun z => z))
    refine g_i2l C _ rfl dL_burial_10 ?_
    refine g_last C hK hP hD hS dL_burial_11 (fun H locs hP hD hS => ?_)
    refine g_goto C 23 dL_burial_12 (by decide) ?_
    refine g_iconst C (nI 0) (by decide) dL_burial_23 ?_
    exact g_iretM C ⟨_, fun _ => rfl, hP, hD⟩ hS (by rw [h0]) dL_burial_24
  · have hP : va_P (dC, dI) vwCl (JR cJ oa f :: W) H := P_kept hP (fun q hq => hk1 q hq (fun z => z))
    rcases hcd with h9 | h9 | h9
    · exact absurd h9 h0
    · rw [h9, hc1] at hcl
      refine g_catch C [] ⟨0, 12, 15, 13⟩ [⟨0, 12, 19, 15⟩] hT hX (fun z hz => absurd hz List.not_mem_nil) rfl (by decide) wk_L_13 (by decide) hce hcv hcl ?_
      refine g_astore5 C rfl dL_burial_15 ?_
      refine g_iconst C (nI 1) (by decide) dL_burial_17 ?_
      exact g_iretM C ⟨_, fun z => absurd z h0, hP, hD⟩ hS (by rw [h9]) dL_burial_18
    · rw [h9, hc2] at hcl
      refine g_catch C [⟨0, 12, 15, 13⟩] ⟨0, 12, 19, 15⟩ [] hT hX (List.forall_mem_cons.mpr ⟨⟨by decide, _, wk_L_13, by decide⟩, fun _ h => absurd h List.not_mem_nil⟩) rfl (by decide) wk_L_15 (by decide) hce hcv hcl ?_
      refine g_astore5 C rfl dL_burial_19 ?_
      refine g_iconst C (nI 2) (by decide) dL_burial_21 ?_
      exact g_iretM C ⟨_, fun z => absurd z h0, hP, hD⟩ hS (by rw [h9]) dL_burial_22
theorem wW_L_family : Cond.codeWith yL_family cL_family 5 (some .int) [(0, 10, 13, 13), (0, 10, 17, 15)] ∈ WG := List.mem_filter.mpr ⟨wr_3 _ (List.mem_of_getElem? (i := 164) rfl), rfl⟩
set_option maxHeartbeats 4000000 in
theorem c_L_family {l : Launch} {dC : Nat → ClassId} {dI : Nat → Nat → Nat} {cI cL cJ : ClassId} {g1 g2 : Nat} {A : Nat → Prop} {o oa : Nat} {f : Nat → Int64} {W : va_W} {cd : Nat} {v : Int32} {x0 x1 : Int32} {cls : Nat → String} {Pre : State → Prop} (hcd : cd = 0 ∨ cd = 1 ∨ cd = 2) (hc1 : cls 1 = XIO) (hc2 : cls 2 = XIA) (hW0 : ∃ fs, W[0]? = some (o, .inr (2, fs))) (hbl : Bl Pre) (hat : ∀ U, va_P (dC, dI) vwCl W U.heap → va_D (fun q => q ∈ W.map Prod.fst) W → EV dC dI cI cL cJ U → ST g1 g2 (fun q => q ∈ W.map Prod.fst) U U.heap → XE (fun q => q ∈ W.map Prod.fst) U U.heap → Pre U)
    (hM : vx_Met l yX2_family (.code yX2_family cX2_family 3 (some .int) :: WG) (rmC 7 4 24) (va_Pc [Value.ref o, .int x0, .int x1] Pre) (bx_Q cd (some (.int v)) (fun _ => True) (fun _ => False)) (bx_C cls cd (fun _ => True) (fun _ => False)) 4 24 (fun _ => False)) :
    Met l yL_family (.codeWith yL_family cL_family 5 (some .int) [(0, 10, 13, 13), (0, 10, 17, 15)] :: WG) (rmC 8 4 24) (va_Pc [Value.ref o, .int x0, .int x1, .ref oa] (LHM dC dI cI cL cJ g1 g2 A oa f W)) (bq_M (some (.int (nI cd))) (fun H => ∃ f1 : Nat → Int64, (cd = 0 → f1 0 = v.toInt64) ∧ va_P (dC, dI) vwCl (JR cJ oa f1 :: W) H ∧ va_D A (JR cJ oa f1 :: W)) A) 4 24 A := by
  refine bl_of [some (.ref o), some (.int x0), some (.int x1), some (.ref oa), none] rfl rfl (Nat.le_of_ble_eq_true rfl) (by decide) ?_
  intro P_ E_ s M_ B_ T_ K_ C hT hv
  obtain ⟨hP, hD, hK, hZ, hX⟩ := hv
  have hS : va_S A s.heap s.heap [] := va_S.rf
  obtain ⟨hDr, hAr⟩ := D_r (u := [JR cJ oa f]) hD
  have hPr := P_r (u := [JR cJ oa f]) hP
  obtain ⟨fs, hW0⟩ := hW0
  refine g_aload3 C dL_family_0 ?_
  refine g_iconst C (nI 0) (by decide) dL_family_1 ?_
  refine g_aload0 C dL_family_2 ?_
  refine g_iload1 C dL_family_3 ?_
  refine g_iload2 C dL_family_4 ?_
  refine g_xV (As := [.int x0, .int x1]) C 2 rfl hM wl_L_56 wi_X2_family wv_X2_family wn_X2 wc_X2_family (by decide +kernel) ⟨rfl, rfl, by decide, by decide⟩ hbl (va_recv (ci := 2) (q0 := 0) hK hPr rfl hW0) (fun U hU hW => hat U (by rw [hU]; exact hPr) hDr (va_K.moved hW.alike hK) (by rw [hU]; exact (hZ.moved hW.alike).narrow hAr) ((hX.at hS hU hW).narrow hAr)) rfl rfl (by simp [Value.category]) ⟨by decide, by decide⟩ hS (fun _ z => z.elim) dL_family_5 (fun H locs h0 hP1 _ hk1 hS => ?_) (fun H locs q ce h0 hP1 _ hk1 hS hce hcv hcl => ?_)
  · have hP : va_P (dC, dI) vwCl (JR cJ oa f :: W) H := P_kept hP (fun q hq => hk1 q hq (fun z => z))
    refine g_i2l C _ rfl dL_family_8 ?_
    refine g_last C hK hP hD hS dL_family_9 (fun H locs hP hD hS => ?_)
    refine g_goto C 21 dL_family_10 (by decide) ?_
    refine g_iconst C (nI 0) (by decide) dL_family_21 ?_
    exact g_iretM C ⟨_, fun _ => rfl, hP, hD⟩ hS (by rw [h0]) dL_family_22
  · have hP : va_P (dC, dI) vwCl (JR cJ oa f :: W) H := P_kept hP (fun q hq => hk1 q hq (fun z => z))
    rcases hcd with h9 | h9 | h9
    · exact absurd h9 h0
    · rw [h9, hc1] at hcl
      refine g_catch C [] ⟨0, 10, 13, 13⟩ [⟨0, 10, 17, 15⟩] hT hX (fun z hz => absurd hz List.not_mem_nil) rfl (by decide) wk_L_13 (by decide) hce hcv hcl ?_
      refine g_astore4 C rfl dL_family_13 ?_
      refine g_iconst C (nI 1) (by decide) dL_family_15 ?_
      exact g_iretM C ⟨_, fun z => absurd z h0, hP, hD⟩ hS (by rw [h9]) dL_family_16
    · rw [h9, hc2] at hcl
      refine g_catch C [⟨0, 10, 13, 13⟩] ⟨0, 10, 17, 15⟩ [] hT hX (List.forall_mem_cons.mpr ⟨⟨by decide, _, wk_L_13, by decide⟩, fun _ h => absurd h List.not_mem_nil⟩) rfl (by decide) wk_L_15 (by decide) hce hcv hcl ?_
      refine g_astore4 C rfl dL_family_17 ?_
      refine g_iconst C (nI 2) (by decide) dL_family_19 ?_
      exact g_iretM C ⟨_, fun z => absurd z h0, hP, hD⟩ hS (by rw [h9]) dL_family_20
theorem wW_L_count : Cond.codeWith yL_count cL_count 4 (some .int) [(0, 9, 12, 15)] ∈ WG := List.mem_filter.mpr ⟨wr_3 _ (List.mem_of_getElem? (i := 171) rfl), rfl⟩
set_option maxHeartbeats 4000000 in
theorem c_L_count {l : Launch} {dC : Nat → ClassId} {dI : Nat → Nat → Nat} {cI cL cJ : ClassId} {g1 g2 : Nat} {A : Nat → Prop} {o oa : Nat} {f : Nat → Int64} {W : va_W} {cd : Nat} {v : Int32} {x0 : Int32} {cls : Nat → String} {Pre : State → Prop} (hcd : cd = 0 ∨ cd = 1) (hc1 : cls 1 = XIA) (hW0 : ∃ fs, W[0]? = some (o, .inr (2, fs))) (hbl : Bl Pre) (hat : ∀ U, va_P (dC, dI) vwCl W U.heap → va_D (fun q => q ∈ W.map Prod.fst) W → EV dC dI cI cL cJ U → ST g1 g2 (fun q => q ∈ W.map Prod.fst) U U.heap → XE (fun q => q ∈ W.map Prod.fst) U U.heap → Pre U)
    (hM : vx_Met l yX2_count (.code yX2_count cX2_count 2 (some .int) :: WG) (rmC 7 4 24) (va_Pc [Value.ref o, .int x0] Pre) (bx_Q cd (some (.int v)) (fun _ => True) (fun _ => False)) (bx_C cls cd (fun _ => True) (fun _ => False)) 4 24 (fun _ => False)) :
    Met l yL_count (.codeWith yL_count cL_count 4 (some .int) [(0, 9, 12, 15)] :: WG) (rmC 8 4 24) (va_Pc [Value.ref o, .int x0, .ref oa] (LHM dC dI cI cL cJ g1 g2 A oa f W)) (bq_M (some (.int (nI cd))) (fun H => ∃ f1 : Nat → Int64, (cd = 0 → f1 0 = v.toInt64) ∧ va_P (dC, dI) vwCl (JR cJ oa f1 :: W) H ∧ va_D A (JR cJ oa f1 :: W)) A) 4 24 A := by
  refine bl_of [some (.ref o), some (.int x0), some (.ref oa), none] rfl rfl (Nat.le_of_ble_eq_true rfl) (by decide) ?_
  intro P_ E_ s M_ B_ T_ K_ C hT hv
  obtain ⟨hP, hD, hK, hZ, hX⟩ := hv
  have hS : va_S A s.heap s.heap [] := va_S.rf
  obtain ⟨hDr, hAr⟩ := D_r (u := [JR cJ oa f]) hD
  have hPr := P_r (u := [JR cJ oa f]) hP
  obtain ⟨fs, hW0⟩ := hW0
  refine g_aload2 C dL_count_0 ?_
  refine g_iconst C (nI 0) (by decide) dL_count_1 ?_
  refine g_aload0 C dL_count_2 ?_
  refine g_iload1 C dL_count_3 ?_
  refine g_xV (As := [.int x0]) C 1 rfl hM wl_L_59 wi_X2_count wv_X2_count wn_X2 wc_X2_count (by decide +kernel) ⟨rfl, rfl, by decide, by decide⟩ hbl (va_recv (ci := 2) (q0 := 0) hK hPr rfl hW0) (fun U hU hW => hat U (by rw [hU]; exact hPr) hDr (va_K.moved hW.alike hK) (by rw [hU]; exact (hZ.moved hW.alike).narrow hAr) ((hX.at hS hU hW).narrow hAr)) rfl rfl (by simp [Value.category]) ⟨by decide, by decide⟩ hS (fun _ z => z.elim) dL_count_4 (fun H locs h0 hP1 _ hk1 hS => ?_) (fun H locs q ce h0 hP1 _ hk1 hS hce hcv hcl => ?_)
  · have hP : va_P (dC, dI) vwCl (JR cJ oa f :: W) H := P_kept hP (fun q hq => hk1 q hq (fun z => z))
    refine g_i2l C _ rfl dL_count_7 ?_
    refine g_last C hK hP hD hS dL_count_8 (fun H locs hP hD hS => ?_)
    refine g_goto C 15 dL_count_9 (by decide) ?_
    refine g_iconst C (nI 0) (by decide) dL_count_15 ?_
    exact g_iretM C ⟨_, fun _ => rfl, hP, hD⟩ hS (by rw [h0]) dL_count_16
  · have hP : va_P (dC, dI) vwCl (JR cJ oa f :: W) H := P_kept hP (fun q hq => hk1 q hq (fun z => z))
    rcases hcd with h9 | h9
    · exact absurd h9 h0
    · rw [h9, hc1] at hcl
      refine g_catch C [] ⟨0, 9, 12, 15⟩ [] hT hX (fun z hz => absurd hz List.not_mem_nil) rfl (by decide) wk_L_15 (by decide) hce hcv hcl ?_
      refine g_astore3 C rfl dL_count_12 ?_
      refine g_iconst C (nI 1) (by decide) dL_count_13 ?_
      exact g_iretM C ⟨_, fun z => absurd z h0, hP, hD⟩ hS (by rw [h9]) dL_count_14
theorem wW_L_why : Cond.codeWith yL_why cL_why 6 (some .int) [(0, 12, 15, 13), (0, 12, 19, 15)] ∈ WG := List.mem_filter.mpr ⟨wr_3 _ (List.mem_of_getElem? (i := 178) rfl), rfl⟩
set_option maxHeartbeats 4000000 in
theorem c_L_why {l : Launch} {dC : Nat → ClassId} {dI : Nat → Nat → Nat} {cI cL cJ : ClassId} {g1 g2 : Nat} {A : Nat → Prop} {o oa : Nat} {f : Nat → Int64} {W : va_W} {cd : Nat} {v : Int32} {x0 x1 x2 : Int32} {cls : Nat → String} {Pre : State → Prop} (hcd : cd = 0 ∨ cd = 1 ∨ cd = 2) (hc1 : cls 1 = XIO) (hc2 : cls 2 = XIA) (hW0 : ∃ fs, W[0]? = some (o, .inr (2, fs))) (hbl : Bl Pre) (hat : ∀ U, va_P (dC, dI) vwCl W U.heap → va_D (fun q => q ∈ W.map Prod.fst) W → EV dC dI cI cL cJ U → ST g1 g2 (fun q => q ∈ W.map Prod.fst) U U.heap → XE (fun q => q ∈ W.map Prod.fst) U U.heap → Pre U)
    (hM : vx_Met l yX2_why (.code yX2_why cX2_why 4 (some .int) :: WG) (rmC 7 4 24) (va_Pc [Value.ref o, .int x0, .int x1, .int x2] Pre) (bx_Q cd (some (.int v)) (fun _ => True) (fun _ => False)) (bx_C cls cd (fun _ => True) (fun _ => False)) 4 24 (fun _ => False)) :
    Met l yL_why (.codeWith yL_why cL_why 6 (some .int) [(0, 12, 15, 13), (0, 12, 19, 15)] :: WG) (rmC 8 4 24) (va_Pc [Value.ref o, .int x0, .int x1, .int x2, .ref oa] (LHM dC dI cI cL cJ g1 g2 A oa f W)) (bq_M (some (.int (nI cd))) (fun H => ∃ f1 : Nat → Int64, (cd = 0 → f1 0 = v.toInt64) ∧ va_P (dC, dI) vwCl (JR cJ oa f1 :: W) H ∧ va_D A (JR cJ oa f1 :: W)) A) 4 24 A := by
  refine bl_of [some (.ref o), some (.int x0), some (.int x1), some (.int x2), some (.ref oa), none] rfl rfl (Nat.le_of_ble_eq_true rfl) (by decide) ?_
  intro P_ E_ s M_ B_ T_ K_ C hT hv
  obtain ⟨hP, hD, hK, hZ, hX⟩ := hv
  have hS : va_S A s.heap s.heap [] := va_S.rf
  obtain ⟨hDr, hAr⟩ := D_r (u := [JR cJ oa f]) hD
  have hPr := P_r (u := [JR cJ oa f]) hP
  obtain ⟨fs, hW0⟩ := hW0
  refine g_aload4 C dL_why_0 ?_
  refine g_iconst C (nI 0) (by decide) dL_why_2 ?_
  refine g_aload0 C dL_why_3 ?_
  refine g_iload1 C dL_why_4 ?_
  refine g_iload2 C dL_why_5 ?_
  refine g_iload3 C dL_why_6 ?_
  refine g_xV (As := [.int x0, .int x1, .int x2]) C 3 rfl hM wl_L_62 wi_X2_why wv_X2_why wn_X2 wc_X2_why (by decide +kernel) ⟨rfl, rfl, by decide, by decide⟩ hbl (va_recv (ci := 2) (q0 := 0) hK hPr rfl hW0) (fun U hU hW => hat U (by rw [hU]; exact hPr) hDr (va_K.moved hW.alike hK) (by rw [hU]; exact (hZ.moved hW.alike).narrow hAr) ((hX.at hS hU hW).narrow hAr)) rfl rfl (by simp [Value.category]) ⟨by decide, by decide⟩ hS (fun _ z => z.elim) dL_why_7 (fun H locs h0 hP1 _ hk1 hS => ?_) (fun H locs q ce h0 hP1 _ hk1 hS hce hcv hcl => ?_)
  · have hP : va_P (dC, dI) vwCl (JR cJ oa f :: W) H := P_kept hP (fun q hq => hk1 q hq (fun z => z))
    refine g_i2l C _ rfl dL_why_10 ?_
    refine g_last C hK hP hD hS dL_why_11 (fun H locs hP hD hS => ?_)
    refine g_goto C 23 dL_why_12 (by decide) ?_
    refine g_iconst C (nI 0) (by decide) dL_why_23 ?_
    exact g_iretM C ⟨_, fun _ => rfl, hP, hD⟩ hS (by rw [h0]) dL_why_24
  · have hP : va_P (dC, dI) vwCl (JR cJ oa f :: W) H := P_kept hP (fun q hq => hk1 q hq (fun z => z))
    rcases hcd with h9 | h9 | h9
    · exact absurd h9 h0
    · rw [h9, hc1] at hcl
      refine g_catch C [] ⟨0, 12, 15, 13⟩ [⟨0, 12, 19, 15⟩] hT hX (fun z hz => absurd hz List.not_mem_nil) rfl (by decide) wk_L_13 (by decide) hce hcv hcl ?_
      refine g_astore5 C rfl dL_why_15 ?_
      refine g_iconst C (nI 1) (by decide) dL_why_17 ?_
      exact g_iretM C ⟨_, fun z => absurd z h0, hP, hD⟩ hS (by rw [h9]) dL_why_18
    · rw [h9, hc2] at hcl
      refine g_catch C [⟨0, 12, 15, 13⟩] ⟨0, 12, 19, 15⟩ [] hT hX (List.forall_mem_cons.mpr ⟨⟨by decide, _, wk_L_13, by decide⟩, fun _ h => absurd h List.not_mem_nil⟩) rfl (by decide) wk_L_15 (by decide) hce hcv hcl ?_
      refine g_astore5 C rfl dL_why_19 ?_
      refine g_iconst C (nI 2) (by decide) dL_why_21 ?_
      exact g_iretM C ⟨_, fun z => absurd z h0, hP, hD⟩ hS (by rw [h9]) dL_why_22
theorem wW_L_fee : Cond.codeWith yL_fee cL_fee 6 (some .int) [(0, 12, 15, 13), (0, 12, 19, 15)] ∈ WG := List.mem_filter.mpr ⟨wr_3 _ (List.mem_of_getElem? (i := 185) rfl), rfl⟩
set_option maxHeartbeats 4000000 in
theorem c_L_fee {l : Launch} {dC : Nat → ClassId} {dI : Nat → Nat → Nat} {cI cL cJ : ClassId} {g1 g2 : Nat} {A : Nat → Prop} {o oa : Nat} {f : Nat → Int64} {W : va_W} {cd : Nat} {v : Int32} {x0 x1 x2 : Int32} {cls : Nat → String} {Pre : State → Prop} (hcd : cd = 0 ∨ cd = 1 ∨ cd = 2) (hc1 : cls 1 = XIO) (hc2 : cls 2 = XIA) (hW0 : ∃ fs, W[0]? = some (o, .inr (2, fs))) (hbl : Bl Pre) (hat : ∀ U, va_P (dC, dI) vwCl W U.heap → va_D (fun q => q ∈ W.map Prod.fst) W → EV dC dI cI cL cJ U → ST g1 g2 (fun q => q ∈ W.map Prod.fst) U U.heap → XE (fun q => q ∈ W.map Prod.fst) U U.heap → Pre U)
    (hM : vx_Met l yX2_fee (.code yX2_fee cX2_fee 4 (some .int) :: WG) (rmC 7 4 24) (va_Pc [Value.ref o, .int x0, .int x1, .int x2] Pre) (bx_Q cd (some (.int v)) (fun _ => True) (fun _ => False)) (bx_C cls cd (fun _ => True) (fun _ => False)) 4 24 (fun _ => False)) :
    Met l yL_fee (.codeWith yL_fee cL_fee 6 (some .int) [(0, 12, 15, 13), (0, 12, 19, 15)] :: WG) (rmC 8 4 24) (va_Pc [Value.ref o, .int x0, .int x1, .int x2, .ref oa] (LHM dC dI cI cL cJ g1 g2 A oa f W)) (bq_M (some (.int (nI cd))) (fun H => ∃ f1 : Nat → Int64, (cd = 0 → f1 0 = v.toInt64) ∧ va_P (dC, dI) vwCl (JR cJ oa f1 :: W) H ∧ va_D A (JR cJ oa f1 :: W)) A) 4 24 A := by
  refine bl_of [some (.ref o), some (.int x0), some (.int x1), some (.int x2), some (.ref oa), none] rfl rfl (Nat.le_of_ble_eq_true rfl) (by decide) ?_
  intro P_ E_ s M_ B_ T_ K_ C hT hv
  obtain ⟨hP, hD, hK, hZ, hX⟩ := hv
  have hS : va_S A s.heap s.heap [] := va_S.rf
  obtain ⟨hDr, hAr⟩ := D_r (u := [JR cJ oa f]) hD
  have hPr := P_r (u := [JR cJ oa f]) hP
  obtain ⟨fs, hW0⟩ := hW0
  refine g_aload4 C dL_fee_0 ?_
  refine g_iconst C (nI 0) (by decide) dL_fee_2 ?_
  refine g_aload0 C dL_fee_3 ?_
  refine g_iload1 C dL_fee_4 ?_
  refine g_iload2 C dL_fee_5 ?_
  refine g_iload3 C dL_fee_6 ?_
  refine g_xV (As := [.int x0, .int x1, .int x2]) C 3 rfl hM wl_L_65 wi_X2_fee wv_X2_fee wn_X2 wc_X2_fee (by decide +kernel) ⟨rfl, rfl, by decide, by decide⟩ hbl (va_recv (ci := 2) (q0 := 0) hK hPr rfl hW0) (fun U hU hW => hat U (by rw [hU]; exact hPr) hDr (va_K.moved hW.alike hK) (by rw [hU]; exact (hZ.moved hW.alike).narrow hAr) ((hX.at hS hU hW).narrow hAr)) rfl rfl (by simp [Value.category]) ⟨by decide, by decide⟩ hS (fun _ z => z.elim) dL_fee_7 (fun H locs h0 hP1 _ hk1 hS => ?_) (fun H locs q ce h0 hP1 _ hk1 hS hce hcv hcl => ?_)
  · have hP : va_P (dC, dI) vwCl (JR cJ oa f :: W) H := P_kept hP (fun q hq => hk1 q hq (fun z => z))
    refine g_i2l C _ rfl dL_fee_10 ?_
    refine g_last C hK hP hD hS dL_fee_11 (fun H locs hP hD hS => ?_)
    refine g_goto C 23 dL_fee_12 (by decide) ?_
    refine g_iconst C (nI 0) (by decide) dL_fee_23 ?_
    exact g_iretM C ⟨_, fun _ => rfl, hP, hD⟩ hS (by rw [h0]) dL_fee_24
  · have hP : va_P (dC, dI) vwCl (JR cJ oa f :: W) H := P_kept hP (fun q hq => hk1 q hq (fun z => z))
    rcases hcd with h9 | h9 | h9
    · exact absurd h9 h0
    · rw [h9, hc1] at hcl
      refine g_catch C [] ⟨0, 12, 15, 13⟩ [⟨0, 12, 19, 15⟩] hT hX (fun z hz => absurd hz List.not_mem_nil) rfl (by decide) wk_L_13 (by decide) hce hcv hcl ?_
      refine g_astore5 C rfl dL_fee_15 ?_
      refine g_iconst C (nI 1) (by decide) dL_fee_17 ?_
      exact g_iretM C ⟨_, fun z => absurd z h0, hP, hD⟩ hS (by rw [h9]) dL_fee_18
    · rw [h9, hc2] at hcl
      refine g_catch C [⟨0, 12, 15, 13⟩] ⟨0, 12, 19, 15⟩ [] hT hX (List.forall_mem_cons.mpr ⟨⟨by decide, _, wk_L_13, by decide⟩, fun _ h => absurd h List.not_mem_nil⟩) rfl (by decide) wk_L_15 (by decide) hce hcv hcl ?_
      refine g_astore5 C rfl dL_fee_19 ?_
      refine g_iconst C (nI 2) (by decide) dL_fee_21 ?_
      exact g_iretM C ⟨_, fun z => absurd z h0, hP, hD⟩ hS (by rw [h9]) dL_fee_22
theorem wW_L_deepest : Cond.codeWith yL_deepest cL_deepest 5 (some .int) [(0, 10, 13, 13)] ∈ WG := List.mem_filter.mpr ⟨wr_3 _ (List.mem_of_getElem? (i := 193) rfl), rfl⟩
set_option maxHeartbeats 4000000 in
theorem c_L_deepest {l : Launch} {dC : Nat → ClassId} {dI : Nat → Nat → Nat} {cI cL cJ : ClassId} {g1 g2 : Nat} {A : Nat → Prop} {o oa : Nat} {f : Nat → Int64} {W : va_W} {cd : Nat} {v : Int32} {x0 x1 : Int32} {cls : Nat → String} {Pre : State → Prop} (hcd : cd = 0 ∨ cd = 1) (hc1 : cls 1 = XIO) (hW0 : ∃ fs, W[0]? = some (o, .inr (2, fs))) (hbl : Bl Pre) (hat : ∀ U, va_P (dC, dI) vwCl W U.heap → va_D (fun q => q ∈ W.map Prod.fst) W → EV dC dI cI cL cJ U → ST g1 g2 (fun q => q ∈ W.map Prod.fst) U U.heap → XE (fun q => q ∈ W.map Prod.fst) U U.heap → Pre U)
    (hM : vx_Met l yX2_deepest (.code yX2_deepest cX2_deepest 4 (some .int) :: WG) (rmC 7 4 24) (va_Pc [Value.ref o, .int x0, .int x1] Pre) (bx_Q cd (some (.int v)) (fun _ => True) (fun _ => False)) (bx_C cls cd (fun _ => True) (fun _ => False)) 4 24 (fun _ => False)) :
    Met l yL_deepest (.codeWith yL_deepest cL_deepest 5 (some .int) [(0, 10, 13, 13)] :: WG) (rmC 8 4 24) (va_Pc [Value.ref o, .int x0, .int x1, .ref oa] (LHM dC dI cI cL cJ g1 g2 A oa f W)) (bq_M (some (.int (nI cd))) (fun H => ∃ f1 : Nat → Int64, (cd = 0 → f1 0 = v.toInt64) ∧ va_P (dC, dI) vwCl (JR cJ oa f1 :: W) H ∧ va_D A (JR cJ oa f1 :: W)) A) 4 24 A := by
  refine bl_of [some (.ref o), some (.int x0), some (.int x1), some (.ref oa), none] rfl rfl (Nat.le_of_ble_eq_true rfl) (by decide) ?_
  intro P_ E_ s M_ B_ T_ K_ C hT hv
  obtain ⟨hP, hD, hK, hZ, hX⟩ := hv
  have hS : va_S A s.heap s.heap [] := va_S.rf
  obtain ⟨hDr, hAr⟩ := D_r (u := [JR cJ oa f]) hD
  have hPr := P_r (u := [JR cJ oa f]) hP
  obtain ⟨fs, hW0⟩ := hW0
  refine g_aload3 C dL_deepest_0 ?_
  refine g_iconst C (nI 0) (by decide) dL_deepest_1 ?_
  refine g_aload0 C dL_deepest_2 ?_
  refine g_iload1 C dL_deepest_3 ?_
  refine g_iload2 C dL_deepest_4 ?_
  refine g_xV (As := [.int x0, .int x1]) C 2 rfl hM wl_L_68 wi_X2_deepest wv_X2_deepest wn_X2 wc_X2_deepest (by decide +kernel) ⟨rfl, rfl, by decide, by decide⟩ hbl (va_recv (ci := 2) (q0 := 0) hK hPr rfl hW0) (fun U hU hW => hat U (by rw [hU]; exact hPr) hDr (va_K.moved hW.alike hK) (by rw [hU]; exact (hZ.moved hW.alike).narrow hAr) ((hX.at hS hU hW).narrow hAr)) rfl rfl (by simp [Value.category]) ⟨by decide, by decide⟩ hS (fun _ z => z.elim) dL_deepest_5 (fun H locs h0 hP1 _ hk1 hS => ?_) (fun H locs q ce h0 hP1 _ hk1 hS hce hcv hcl => ?_)
  · have hP : va_P (dC, dI) vwCl (JR cJ oa f :: W) H := P_kept hP (fun q hq => hk1 q hq (fun z => z))
    refine g_i2l C _ rfl dL_deepest_8 ?_
    refine g_last C hK hP hD hS dL_deepest_9 (fun H locs hP hD hS => ?_)
    refine g_goto C 17 dL_deepest_10 (by decide) ?_
    refine g_iconst C (nI 0) (by decide) dL_deepest_17 ?_
    exact g_iretM C ⟨_, fun _ => rfl, hP, hD⟩ hS (by rw [h0]) dL_deepest_18
  · have hP : va_P (dC, dI) vwCl (JR cJ oa f :: W) H := P_kept hP (fun q hq => hk1 q hq (fun z => z))
    rcases hcd with h9 | h9
    · exact absurd h9 h0
    · rw [h9, hc1] at hcl
      refine g_catch C [] ⟨0, 10, 13, 13⟩ [] hT hX (fun z hz => absurd hz List.not_mem_nil) rfl (by decide) wk_L_13 (by decide) hce hcv hcl ?_
      refine g_astore4 C rfl dL_deepest_13 ?_
      refine g_iconst C (nI 1) (by decide) dL_deepest_15 ?_
      exact g_iretM C ⟨_, fun z => absurd z h0, hP, hD⟩ hS (by rw [h9]) dL_deepest_16
theorem wW_L_bestPlot : Cond.codeWith yL_bestPlot cL_bestPlot 4 (some .int) [(0, 9, 12, 13)] ∈ WG := List.mem_filter.mpr ⟨wr_3 _ (List.mem_of_getElem? (i := 200) rfl), rfl⟩
set_option maxHeartbeats 4000000 in
theorem c_L_bestPlot {l : Launch} {dC : Nat → ClassId} {dI : Nat → Nat → Nat} {cI cL cJ : ClassId} {g1 g2 : Nat} {A : Nat → Prop} {o oa : Nat} {f : Nat → Int64} {W : va_W} {cd : Nat} {v : Int32} {x0 : Int32} {cls : Nat → String} {Pre : State → Prop} (hcd : cd = 0 ∨ cd = 1) (hc1 : cls 1 = XIO) (hW0 : ∃ fs, W[0]? = some (o, .inr (2, fs))) (hbl : Bl Pre) (hat : ∀ U, va_P (dC, dI) vwCl W U.heap → va_D (fun q => q ∈ W.map Prod.fst) W → EV dC dI cI cL cJ U → ST g1 g2 (fun q => q ∈ W.map Prod.fst) U U.heap → XE (fun q => q ∈ W.map Prod.fst) U U.heap → Pre U)
    (hM : vx_Met l yX2_bestPlot (.code yX2_bestPlot cX2_bestPlot 2 (some .int) :: WG) (rmC 7 4 24) (va_Pc [Value.ref o, .int x0] Pre) (bx_Q cd (some (.int v)) (fun _ => True) (fun _ => False)) (bx_C cls cd (fun _ => True) (fun _ => False)) 4 24 (fun _ => False)) :
    Met l yL_bestPlot (.codeWith yL_bestPlot cL_bestPlot 4 (some .int) [(0, 9, 12, 13)] :: WG) (rmC 8 4 24) (va_Pc [Value.ref o, .int x0, .ref oa] (LHM dC dI cI cL cJ g1 g2 A oa f W)) (bq_M (some (.int (nI cd))) (fun H => ∃ f1 : Nat → Int64, (cd = 0 → f1 0 = v.toInt64) ∧ va_P (dC, dI) vwCl (JR cJ oa f1 :: W) H ∧ va_D A (JR cJ oa f1 :: W)) A) 4 24 A := by
  refine bl_of [some (.ref o), some (.int x0), some (.ref oa), none] rfl rfl (Nat.le_of_ble_eq_true rfl) (by decide) ?_
  intro P_ E_ s M_ B_ T_ K_ C hT hv
  obtain ⟨hP, hD, hK, hZ, hX⟩ := hv
  have hS : va_S A s.heap s.heap [] := va_S.rf
  obtain ⟨hDr, hAr⟩ := D_r (u := [JR cJ oa f]) hD
  have hPr := P_r (u := [JR cJ oa f]) hP
  obtain ⟨fs, hW0⟩ := hW0
  refine g_aload2 C dL_bestPlot_0 ?_
  refine g_iconst C (nI 0) (by decide) dL_bestPlot_1 ?_
  refine g_aload0 C dL_bestPlot_2 ?_
  refine g_iload1 C dL_bestPlot_3 ?_
  refine g_xV (As := [.int x0]) C 1 rfl hM wl_L_71 wi_X2_bestPlot wv_X2_bestPlot wn_X2 wc_X2_bestPlot (by decide +kernel) ⟨rfl, rfl, by decide, by decide⟩ hbl (va_recv (ci := 2) (q0 := 0) hK hPr rfl hW0) (fun U hU hW => hat U (by rw [hU]; exact hPr) hDr (va_K.moved hW.alike hK) (by rw [hU]; exact (hZ.moved hW.alike).narrow hAr) ((hX.at hS hU hW).narrow hAr)) rfl rfl (by simp [Value.category]) ⟨by decide, by decide⟩ hS (fun _ z => z.elim) dL_bestPlot_4 (fun H locs h0 hP1 _ hk1 hS => ?_) (fun H locs q ce h0 hP1 _ hk1 hS hce hcv hcl => ?_)
  · have hP : va_P (dC, dI) vwCl (JR cJ oa f :: W) H := P_kept hP (fun q hq => hk1 q hq (fun z => z))
    refine g_i2l C _ rfl dL_bestPlot_7 ?_
    refine g_last C hK hP hD hS dL_bestPlot_8 (fun H locs hP hD hS => ?_)
    refine g_goto C 15 dL_bestPlot_9 (by decide) ?_
    refine g_iconst C (nI 0) (by decide) dL_bestPlot_15 ?_
    exact g_iretM C ⟨_, fun _ => rfl, hP, hD⟩ hS (by rw [h0]) dL_bestPlot_16
  · have hP : va_P (dC, dI) vwCl (JR cJ oa f :: W) H := P_kept hP (fun q hq => hk1 q hq (fun z => z))
    rcases hcd with h9 | h9
    · exact absurd h9 h0
    · rw [h9, hc1] at hcl
      refine g_catch C [] ⟨0, 9, 12, 13⟩ [] hT hX (fun z hz => absurd hz List.not_mem_nil) rfl (by decide) wk_L_13 (by decide) hce hcv hcl ?_
      refine g_astore3 C rfl dL_bestPlot_12 ?_
      refine g_iconst C (nI 1) (by decide) dL_bestPlot_13 ?_
      exact g_iretM C ⟨_, fun z => absurd z h0, hP, hD⟩ hS (by rw [h9]) dL_bestPlot_14
theorem wW_L_yearFor : Cond.codeWith yL_yearFor cL_yearFor 6 (some .int) [(0, 12, 15, 13), (0, 12, 19, 15)] ∈ WG := List.mem_filter.mpr ⟨wr_3 _ (List.mem_of_getElem? (i := 207) rfl), rfl⟩
set_option maxHeartbeats 4000000 in
theorem c_L_yearFor {l : Launch} {dC : Nat → ClassId} {dI : Nat → Nat → Nat} {cI cL cJ : ClassId} {g1 g2 : Nat} {A : Nat → Prop} {o oa : Nat} {f : Nat → Int64} {W : va_W} {cd : Nat} {v : Int32} {x0 x1 x2 : Int32} {cls : Nat → String} {Pre : State → Prop} (hcd : cd = 0 ∨ cd = 1 ∨ cd = 2) (hc1 : cls 1 = XIO) (hc2 : cls 2 = XIA) (hW0 : ∃ fs, W[0]? = some (o, .inr (2, fs))) (hbl : Bl Pre) (hat : ∀ U, va_P (dC, dI) vwCl W U.heap → va_D (fun q => q ∈ W.map Prod.fst) W → EV dC dI cI cL cJ U → ST g1 g2 (fun q => q ∈ W.map Prod.fst) U U.heap → XE (fun q => q ∈ W.map Prod.fst) U U.heap → Pre U)
    (hM : vx_Met l yX2_yearFor (.code yX2_yearFor cX2_yearFor 5 (some .int) :: WG) (rmC 7 4 24) (va_Pc [Value.ref o, .int x0, .int x1, .int x2] Pre) (bx_Q cd (some (.int v)) (fun _ => True) (fun _ => False)) (bx_C cls cd (fun _ => True) (fun _ => False)) 4 24 (fun _ => False)) :
    Met l yL_yearFor (.codeWith yL_yearFor cL_yearFor 6 (some .int) [(0, 12, 15, 13), (0, 12, 19, 15)] :: WG) (rmC 8 4 24) (va_Pc [Value.ref o, .int x0, .int x1, .int x2, .ref oa] (LHM dC dI cI cL cJ g1 g2 A oa f W)) (bq_M (some (.int (nI cd))) (fun H => ∃ f1 : Nat → Int64, (cd = 0 → f1 0 = v.toInt64) ∧ va_P (dC, dI) vwCl (JR cJ oa f1 :: W) H ∧ va_D A (JR cJ oa f1 :: W)) A) 4 24 A := by
  refine bl_of [some (.ref o), some (.int x0), some (.int x1), some (.int x2), some (.ref oa), none] rfl rfl (Nat.le_of_ble_eq_true rfl) (by decide) ?_
  intro P_ E_ s M_ B_ T_ K_ C hT hv
  obtain ⟨hP, hD, hK, hZ, hX⟩ := hv
  have hS : va_S A s.heap s.heap [] := va_S.rf
  obtain ⟨hDr, hAr⟩ := D_r (u := [JR cJ oa f]) hD
  have hPr := P_r (u := [JR cJ oa f]) hP
  obtain ⟨fs, hW0⟩ := hW0
  refine g_aload4 C dL_yearFor_0 ?_
  refine g_iconst C (nI 0) (by decide) dL_yearFor_2 ?_
  refine g_aload0 C dL_yearFor_3 ?_
  refine g_iload1 C dL_yearFor_4 ?_
  refine g_iload2 C dL_yearFor_5 ?_
  refine g_iload3 C dL_yearFor_6 ?_
  refine g_xV (As := [.int x0, .int x1, .int x2]) C 3 rfl hM wl_L_74 wi_X2_yearFor wv_X2_yearFor wn_X2 wc_X2_yearFor (by decide +kernel) ⟨rfl, rfl, by decide, by decide⟩ hbl (va_recv (ci := 2) (q0 := 0) hK hPr rfl hW0) (fun U hU hW => hat U (by rw [hU]; exact hPr) hDr (va_K.moved hW.alike hK) (by rw [hU]; exact (hZ.moved hW.alike).narrow hAr) ((hX.at hS hU hW).narrow hAr)) rfl rfl (by simp [Value.category]) ⟨by decide, by decide⟩ hS (fun _ z => z.elim) dL_yearFor_7 (fun H locs h0 hP1 _ hk1 hS => ?_) (fun H locs q ce h0 hP1 _ hk1 hS hce hcv hcl => ?_)
  · have hP : va_P (dC, dI) vwCl (JR cJ oa f :: W) H := P_kept hP (fun q hq => hk1 q hq (fun z => z))
    refine g_i2l C _ rfl dL_yearFor_10 ?_
    refine g_last C hK hP hD hS dL_yearFor_11 (fun H locs hP hD hS => ?_)
    refine g_goto C 23 dL_yearFor_12 (by decide) ?_
    refine g_iconst C (nI 0) (by decide) dL_yearFor_23 ?_
    exact g_iretM C ⟨_, fun _ => rfl, hP, hD⟩ hS (by rw [h0]) dL_yearFor_24
  · have hP : va_P (dC, dI) vwCl (JR cJ oa f :: W) H := P_kept hP (fun q hq => hk1 q hq (fun z => z))
    rcases hcd with h9 | h9 | h9
    · exact absurd h9 h0
    · rw [h9, hc1] at hcl
      refine g_catch C [] ⟨0, 12, 15, 13⟩ [⟨0, 12, 19, 15⟩] hT hX (fun z hz => absurd hz List.not_mem_nil) rfl (by decide) wk_L_13 (by decide) hce hcv hcl ?_
      refine g_astore5 C rfl dL_yearFor_15 ?_
      refine g_iconst C (nI 1) (by decide) dL_yearFor_17 ?_
      exact g_iretM C ⟨_, fun z => absurd z h0, hP, hD⟩ hS (by rw [h9]) dL_yearFor_18
    · rw [h9, hc2] at hcl
      refine g_catch C [⟨0, 12, 15, 13⟩] ⟨0, 12, 19, 15⟩ [] hT hX (List.forall_mem_cons.mpr ⟨⟨by decide, _, wk_L_13, by decide⟩, fun _ h => absurd h List.not_mem_nil⟩) rfl (by decide) wk_L_15 (by decide) hce hcv hcl ?_
      refine g_astore5 C rfl dL_yearFor_19 ?_
      refine g_iconst C (nI 2) (by decide) dL_yearFor_21 ?_
      exact g_iretM C ⟨_, fun z => absurd z h0, hP, hD⟩ hS (by rw [h9]) dL_yearFor_22
theorem wW_L_clearYear : Cond.codeWith yL_clearYear cL_clearYear 4 (some .int) [(0, 9, 12, 13)] ∈ WG := List.mem_filter.mpr ⟨wr_3 _ (List.mem_of_getElem? (i := 214) rfl), rfl⟩
set_option maxHeartbeats 4000000 in
theorem c_L_clearYear {l : Launch} {dC : Nat → ClassId} {dI : Nat → Nat → Nat} {cI cL cJ : ClassId} {g1 g2 : Nat} {A : Nat → Prop} {o oa : Nat} {f : Nat → Int64} {W : va_W} {cd : Nat} {v : Int32} {x0 : Int32} {cls : Nat → String} {Pre : State → Prop} (hcd : cd = 0 ∨ cd = 1) (hc1 : cls 1 = XIO) (hW0 : ∃ fs, W[0]? = some (o, .inr (2, fs))) (hbl : Bl Pre) (hat : ∀ U, va_P (dC, dI) vwCl W U.heap → va_D (fun q => q ∈ W.map Prod.fst) W → EV dC dI cI cL cJ U → ST g1 g2 (fun q => q ∈ W.map Prod.fst) U U.heap → XE (fun q => q ∈ W.map Prod.fst) U U.heap → Pre U)
    (hM : vx_Met l yX2_clearYear (.code yX2_clearYear cX2_clearYear 2 (some .int) :: WG) (rmC 7 4 24) (va_Pc [Value.ref o, .int x0] Pre) (bx_Q cd (some (.int v)) (fun _ => True) (fun _ => False)) (bx_C cls cd (fun _ => True) (fun _ => False)) 4 24 (fun _ => False)) :
    Met l yL_clearYear (.codeWith yL_clearYear cL_clearYear 4 (some .int) [(0, 9, 12, 13)] :: WG) (rmC 8 4 24) (va_Pc [Value.ref o, .int x0, .ref oa] (LHM dC dI cI cL cJ g1 g2 A oa f W)) (bq_M (some (.int (nI cd))) (fun H => ∃ f1 : Nat → Int64, (cd = 0 → f1 0 = v.toInt64) ∧ va_P (dC, dI) vwCl (JR cJ oa f1 :: W) H ∧ va_D A (JR cJ oa f1 :: W)) A) 4 24 A := by
  refine bl_of [some (.ref o), some (.int x0), some (.ref oa), none] rfl rfl (Nat.le_of_ble_eq_true rfl) (by decide) ?_
  intro P_ E_ s M_ B_ T_ K_ C hT hv
  obtain ⟨hP, hD, hK, hZ, hX⟩ := hv
  have hS : va_S A s.heap s.heap [] := va_S.rf
  obtain ⟨hDr, hAr⟩ := D_r (u := [JR cJ oa f]) hD
  have hPr := P_r (u := [JR cJ oa f]) hP
  obtain ⟨fs, hW0⟩ := hW0
  refine g_aload2 C dL_clearYear_0 ?_
  refine g_iconst C (nI 0) (by decide) dL_clearYear_1 ?_
  refine g_aload0 C dL_clearYear_2 ?_
  refine g_iload1 C dL_clearYear_3 ?_
  refine g_xV (As := [.int x0]) C 1 rfl hM wl_L_77 wi_X2_clearYear wv_X2_clearYear wn_X2 wc_X2_clearYear (by decide +kernel) ⟨rfl, rfl, by decide, by decide⟩ hbl (va_recv (ci := 2) (q0 := 0) hK hPr rfl hW0) (fun U hU hW => hat U (by rw [hU]; exact hPr) hDr (va_K.moved hW.alike hK) (by rw [hU]; exact (hZ.moved hW.alike).narrow hAr) ((hX.at hS hU hW).narrow hAr)) rfl rfl (by simp [Value.category]) ⟨by decide, by decide⟩ hS (fun _ z => z.elim) dL_clearYear_4 (fun H locs h0 hP1 _ hk1 hS => ?_) (fun H locs q ce h0 hP1 _ hk1 hS hce hcv hcl => ?_)
  · have hP : va_P (dC, dI) vwCl (JR cJ oa f :: W) H := P_kept hP (fun q hq => hk1 q hq (fun z => z))
    refine g_i2l C _ rfl dL_clearYear_7 ?_
    refine g_last C hK hP hD hS dL_clearYear_8 (fun H locs hP hD hS => ?_)
    refine g_goto C 15 dL_clearYear_9 (by decide) ?_
    refine g_iconst C (nI 0) (by decide) dL_clearYear_15 ?_
    exact g_iretM C ⟨_, fun _ => rfl, hP, hD⟩ hS (by rw [h0]) dL_clearYear_16
  · have hP : va_P (dC, dI) vwCl (JR cJ oa f :: W) H := P_kept hP (fun q hq => hk1 q hq (fun z => z))
    rcases hcd with h9 | h9
    · exact absurd h9 h0
    · rw [h9, hc1] at hcl
      refine g_catch C [] ⟨0, 9, 12, 13⟩ [] hT hX (fun z hz => absurd hz List.not_mem_nil) rfl (by decide) wk_L_13 (by decide) hce hcv hcl ?_
      refine g_astore3 C rfl dL_clearYear_12 ?_
      refine g_iconst C (nI 1) (by decide) dL_clearYear_13 ?_
      exact g_iretM C ⟨_, fun z => absurd z h0, hP, hD⟩ hS (by rw [h9]) dL_clearYear_14
theorem wW_L_cutsOff : Cond.codeWith yL_cutsOff cL_cutsOff 4 (some .int) [(0, 9, 12, 13)] ∈ WG := List.mem_filter.mpr ⟨wr_3 _ (List.mem_of_getElem? (i := 221) rfl), rfl⟩
set_option maxHeartbeats 4000000 in
theorem c_L_cutsOff {l : Launch} {dC : Nat → ClassId} {dI : Nat → Nat → Nat} {cI cL cJ : ClassId} {g1 g2 : Nat} {A : Nat → Prop} {o oa : Nat} {f : Nat → Int64} {W : va_W} {cd : Nat} {v : Int32} {x0 : Int32} {cls : Nat → String} {Pre : State → Prop} (hcd : cd = 0 ∨ cd = 1) (hc1 : cls 1 = XIO) (hW0 : ∃ fs, W[0]? = some (o, .inr (2, fs))) (hbl : Bl Pre) (hat : ∀ U, va_P (dC, dI) vwCl W U.heap → va_D (fun q => q ∈ W.map Prod.fst) W → EV dC dI cI cL cJ U → ST g1 g2 (fun q => q ∈ W.map Prod.fst) U U.heap → XE (fun q => q ∈ W.map Prod.fst) U U.heap → Pre U)
    (hM : vx_Met l yX2_cutsOff (.code yX2_cutsOff cX2_cutsOff 2 (some .int) :: WG) (rmC 7 4 24) (va_Pc [Value.ref o, .int x0] Pre) (bx_Q cd (some (.int v)) (fun _ => True) (fun _ => False)) (bx_C cls cd (fun _ => True) (fun _ => False)) 4 24 (fun _ => False)) :
    Met l yL_cutsOff (.codeWith yL_cutsOff cL_cutsOff 4 (some .int) [(0, 9, 12, 13)] :: WG) (rmC 8 4 24) (va_Pc [Value.ref o, .int x0, .ref oa] (LHM dC dI cI cL cJ g1 g2 A oa f W)) (bq_M (some (.int (nI cd))) (fun H => ∃ f1 : Nat → Int64, (cd = 0 → f1 0 = v.toInt64) ∧ va_P (dC, dI) vwCl (JR cJ oa f1 :: W) H ∧ va_D A (JR cJ oa f1 :: W)) A) 4 24 A := by
  refine bl_of [some (.ref o), some (.int x0), some (.ref oa), none] rfl rfl (Nat.le_of_ble_eq_true rfl) (by decide) ?_
  intro P_ E_ s M_ B_ T_ K_ C hT hv
  obtain ⟨hP, hD, hK, hZ, hX⟩ := hv
  have hS : va_S A s.heap s.heap [] := va_S.rf
  obtain ⟨hDr, hAr⟩ := D_r (u := [JR cJ oa f]) hD
  have hPr := P_r (u := [JR cJ oa f]) hP
  obtain ⟨fs, hW0⟩ := hW0
  refine g_aload2 C dL_cutsOff_0 ?_
  refine g_iconst C (nI 0) (by decide) dL_cutsOff_1 ?_
  refine g_aload0 C dL_cutsOff_2 ?_
  refine g_iload1 C dL_cutsOff_3 ?_
  refine g_xV (As := [.int x0]) C 1 rfl hM wl_L_80 wi_X2_cutsOff wv_X2_cutsOff wn_X2 wc_X2_cutsOff (by decide +kernel) ⟨rfl, rfl, by decide, by decide⟩ hbl (va_recv (ci := 2) (q0 := 0) hK hPr rfl hW0) (fun U hU hW => hat U (by rw [hU]; exact hPr) hDr (va_K.moved hW.alike hK) (by rw [hU]; exact (hZ.moved hW.alike).narrow hAr) ((hX.at hS hU hW).narrow hAr)) rfl rfl (by simp [Value.category]) ⟨by decide, by decide⟩ hS (fun _ z => z.elim) dL_cutsOff_4 (fun H locs h0 hP1 _ hk1 hS => ?_) (fun H locs q ce h0 hP1 _ hk1 hS hce hcv hcl => ?_)
  · have hP : va_P (dC, dI) vwCl (JR cJ oa f :: W) H := P_kept hP (fun q hq => hk1 q hq (fun z => z))
    refine g_i2l C _ rfl dL_cutsOff_7 ?_
    refine g_last C hK hP hD hS dL_cutsOff_8 (fun H locs hP hD hS => ?_)
    refine g_goto C 15 dL_cutsOff_9 (by decide) ?_
    refine g_iconst C (nI 0) (by decide) dL_cutsOff_15 ?_
    exact g_iretM C ⟨_, fun _ => rfl, hP, hD⟩ hS (by rw [h0]) dL_cutsOff_16
  · have hP : va_P (dC, dI) vwCl (JR cJ oa f :: W) H := P_kept hP (fun q hq => hk1 q hq (fun z => z))
    rcases hcd with h9 | h9
    · exact absurd h9 h0
    · rw [h9, hc1] at hcl
      refine g_catch C [] ⟨0, 9, 12, 13⟩ [] hT hX (fun z hz => absurd hz List.not_mem_nil) rfl (by decide) wk_L_13 (by decide) hce hcv hcl ?_
      refine g_astore3 C rfl dL_cutsOff_12 ?_
      refine g_iconst C (nI 1) (by decide) dL_cutsOff_13 ?_
      exact g_iretM C ⟨_, fun z => absurd z h0, hP, hD⟩ hS (by rw [h9]) dL_cutsOff_14
