theorem yo_ge {d : RW} {y : Int32} {p : Nat} : ∀ n, y ≤ q_yoM d y p n := by
  intro n
  induction n with
  | zero => exact Int32.le_refl y
  | succ n ih =>
    show y ≤ if d 7 (p * 3 + n) ≠ -1 ∧ q_yoM d y p n < d 8 (p * 3 + n) + q_yr d p then d 8 (p * 3 + n) + q_yr d p else q_yoM d y p n
    split
    · rename_i h; exact Int32.le_trans ih (Int32.le_of_lt h.2)
    · exact ih
theorem yo_s {d : RW} {y : Int32} {p n : Nat} : q_yoM d y p (n + 1) = if d 7 (p * 3 + n) ≠ -1 ∧ q_yoM d y p n < d 8 (p * 3 + n) + q_yr d p then d 8 (p * 3 + n) + q_yr d p else q_yoM d y p n := rfl

set_option maxHeartbeats 4000000 in
set_option maxRecDepth 100000 in
theorem c_L_plots {l : Launch} {dC : Nat → ClassId} {dI : Nat → Nat → Nat} {cI cL cJ : ClassId} {g1 g2 : Nat} {A : Nat → Prop} {t : Nat → Nat} {x1 x3 x4 : Nat → Int32} {x2 : Nat → Int64} {d : RW} {yn : Nat} (hk : PKI d yn x1 x2 x3 x4) (hyn : yn ≤ 1900) {o sa ba a e : Nat} {tt : Nat → Nat} {n len : Nat} {tx : Nat → Int32} {ps : PS} {sv : Nat → LO} (hls : l.stackTraces = false) {w : Nat} {v : Nat → Int32} (hwr : ∀ q, q < 40 → q_wr v q = q_rc d q) {p : Nat} (hp : p < 40) : Met l yL_plots (.code yL_plots method_21_code 12 (some .boolean) :: WG) (rmC 8 92 552) (va_Pc [.ref o, .int (nI p), .ref (t 0), .ref (t 1), .ref (t 2), .ref (t 3), .ref w] (TLM dC dI cI cL cJ g1 g2 A (PW cI cJ t x1 x2 x3 x4 ++ (WY cI w v :: BW cI cL o sa ba a e tt n len (svg sv) tx (nI yn) d (q_rw d 0) ps sv)))) (bq_M (some (.int (bI True))) (fun H => va_P (dC, dI) vwCl (PW cI cJ t x1 x2 x3 x4 ++ (WY cI w v :: BW cI cL o sa ba a e tt n len (svg sv) tx (nI yn) d (q_rw d 0) ps sv)) H) A) 92 552 (A) := by
  refine bq_of [some (.ref o), some (.int (nI p)), some (.ref (t 0)), some (.ref (t 1)), some (.ref (t 2)), some (.ref (t 3)), some (.ref w), none, none, none, none, none] rfl rfl (Nat.le_of_ble_eq_true rfl) (by decide) ?_
  intro P_ E_ s M_ B_ T_ K_ C hv
  obtain ⟨hP, hD, hK, hZ, hX⟩ := hv
  have hS : va_S A s.heap s.heap [] := va_S.rf
  have hki := hk.1
  have hkg := hk.2.1
  have hkb := hk.2.2.1
  have hke := hk.2.2.2.1
  have hkf := hk.2.2.2.2
  have hdv : nI 1900 < 0 → False := by decide
  refine g_aload5 C dL_plots_0 ?_
  refine g_bipush C (nI 30) (by decide) dL_plots_2 ?_
  refine g_iald C hK hP 3 0 rfl rfl (by omega) (by decide) dL_plots_4 ?_
  refine g_top hkf.1 ?_
  refine g_istore7 C rfl dL_plots_5 ?_
  refine g_iload7 C dL_plots_7 ?_
  refine g_istore8 C rfl dL_plots_9 ?_
  refine g_iconst C (nI 1) (by decide) dL_plots_11 ?_
  refine g_istore9 C rfl dL_plots_12 ?_
  refine g_lpC (A2 := Nat × Int32) (fun u H locs => u.1 ≤ 3 ∧ u.2 = q_yoM d (nI yn) p u.1 ∧ va_P (dC, dI) vwCl (PW cI cJ t x1 x2 x3 x4 ++ (WY cI w v :: BW cI cL o sa ba a e tt n len (svg sv) tx (nI yn) d (q_rw d 0) ps sv)) H ∧ va_S A s.heap H locs) (fun u => 3 - u.1) (fun u => 16 * u.1) (fun u => 96 * u.1) (fun u => [some (.ref o), some (.int (nI p)), some (.ref (t 0)), some (.ref (t 1)), some (.ref (t 2)), some (.ref (t 3)), some (.ref w), some (.int (nI yn)), some (.int u.2), some (.int (nI (u.1 + 1))), none, none]) (0, nI yn) ⟨by omega, rfl, hP, hS⟩ rfl rfl rfl ?_
  clear hP hS
  rintro ⟨j, x⟩ H locs ⟨hj, hx, hP, hS⟩ ih
  try dsimp only at hj hx hP hS ih ⊢
  refine g_iload9 C dL_plots_14 ?_
  refine g_iconst C (nI 4) (by decide) dL_plots_16 ?_
  refine g_icmp_geN C (by omega) (by omega) 200 dL_plots_17 (by decide) (fun h17 => ?_) (fun h17 => ?_)
  · refine g_aload0 C dL_plots_200 ?_
    refine g_iload1 C dL_plots_201 ?_
    refine g_iconst C (nI 0) (by decide) dL_plots_202 ?_
    refine g_xR C 2 rfl (n_plot hls hki (by omega) (by omega)) wl_L_62 wi_X2_plot wv_X2_plot wc_X2_plot (by decide +kernel) ⟨by decide, by decide⟩ BDM_bl (va_recv (ci := 2) (q0 := 0) hK (tw_b hP) rfl rfl) (BDM_at hK (tw_b hP) (tw_db hD) hZ hX hS (fun _ h => h)) rfl rfl (by simp [Value.category]) ⟨by show _ ≤ 92; omega, by show _ ≤ 552; omega⟩ hS dL_plots_203 (fun H locs hk9 hS => ?_)
    have hP := P_kept hP hk9
    refine g_aload2 C dL_plots_206 ?_
    refine g_iload1 C dL_plots_207 ?_
    refine g_iald C hK hP 0 0 rfl rfl (by omega) (by decide) dL_plots_208 ?_
    refine g_iconst C (nI 3) (by decide) dL_plots_209 ?_
    refine g_iand C dL_plots_210 ?_
    refine g_top (rd_k hkg (by omega)) ?_
    refine g_icmp_ne C 276 dL_plots_211 (by decide) (fun h211 => ?_) (fun h211 => ?_)
    · exact absurd rfl h211
    · refine g_aload0 C dL_plots_214 ?_
      refine g_iload1 C dL_plots_215 ?_
      refine g_iconst C (nI 1) (by decide) dL_plots_216 ?_
      refine g_xR C 2 rfl (n_plot hls hki (by omega) (by omega)) wl_L_62 wi_X2_plot wv_X2_plot wc_X2_plot (by decide +kernel) ⟨by decide, by decide⟩ BDM_bl (va_recv (ci := 2) (q0 := 0) hK (tw_b hP) rfl rfl) (BDM_at hK (tw_b hP) (tw_db hD) hZ hX hS (fun _ h => h)) rfl rfl (by simp [Value.category]) ⟨by show _ ≤ 92; omega, by show _ ≤ 552; omega⟩ hS dL_plots_217 (fun H locs hk9 hS => ?_)
      have hP := P_kept hP hk9
      refine g_iload1 C dL_plots_220 ?_
      refine g_iload7 C dL_plots_221 ?_
      refine g_aload2 C dL_plots_223 ?_
      refine g_aload3 C dL_plots_224 ?_
      refine g_pkS C 4 rfl (c_L_holder hk (by omega) (by omega)) wl_L_46 wt_L_holder wn_L wc_L_holder (by decide +kernel) ⟨rfl, rfl, by decide, by decide⟩ PKR_bl (PKR_at hK (tw_p hP)) rfl rfl (by simp [Value.category]) ⟨by show _ ≤ 92; omega, by show _ ≤ 552; omega⟩ dL_plots_225 ?_
      refine g_icmp_ne C 276 dL_plots_228 (by decide) (fun h228 => ?_) (fun h228 => ?_)
      · exact absurd rfl h228
      · refine g_aload0 C dL_plots_231 ?_
        refine g_iload1 C dL_plots_232 ?_
        refine g_iconst C (nI 2) (by decide) dL_plots_233 ?_
        refine g_xR C 2 rfl (n_plot hls hki (by omega) (by omega)) wl_L_62 wi_X2_plot wv_X2_plot wc_X2_plot (by decide +kernel) ⟨by decide, by decide⟩ BDM_bl (va_recv (ci := 2) (q0 := 0) hK (tw_b hP) rfl rfl) (BDM_at hK (tw_b hP) (tw_db hD) hZ hX hS (fun _ h => h)) rfl rfl (by simp [Value.category]) ⟨by show _ ≤ 92; omega, by show _ ≤ 552; omega⟩ hS dL_plots_234 (fun H locs hk9 hS => ?_)
        have hP := P_kept hP hk9
        refine g_aload3 C dL_plots_237 ?_
        refine g_iload1 C dL_plots_238 ?_
        refine g_pkS C 2 rfl (c_L_buried hk (by omega)) wl_L_38 wt_L_buried wn_L wc_L_buried (by decide +kernel) ⟨rfl, rfl, by decide, by decide⟩ PKR_bl (PKR_at hK (tw_p hP)) rfl rfl (by simp [Value.category]) ⟨by show _ ≤ 92; omega, by show _ ≤ 552; omega⟩ dL_plots_239 ?_
        have hbu : q_bur d p ≤ 3 := q_cn_le _ 3
        refine g_icmp_ne C 276 dL_plots_242 (by decide) (fun h242 => ?_) (fun h242 => ?_)
        · exact absurd rfl h242
        · refine g_aload0 C dL_plots_245 ?_
          refine g_iload1 C dL_plots_246 ?_
          refine g_iconst C (nI 3) (by decide) dL_plots_247 ?_
          refine g_xR C 2 rfl (n_plot hls hki (by omega) (by omega)) wl_L_62 wi_X2_plot wv_X2_plot wc_X2_plot (by decide +kernel) ⟨by decide, by decide⟩ BDM_bl (va_recv (ci := 2) (q0 := 0) hK (tw_b hP) rfl rfl) (BDM_at hK (tw_b hP) (tw_db hD) hZ hX hS (fun _ h => h)) rfl rfl (by simp [Value.category]) ⟨by show _ ≤ 92; omega, by show _ ≤ 552; omega⟩ hS dL_plots_248 (fun H locs hk9 hS => ?_)
          have hP := P_kept hP hk9
          refine g_iload1 C dL_plots_251 ?_
          refine g_iload7 C dL_plots_252 ?_
          refine g_aload2 C dL_plots_254 ?_
          refine g_aload3 C dL_plots_255 ?_
          refine g_pkS C 4 rfl (c_L_fresh hk (by omega) (by omega)) wl_L_53 wt_L_fresh wn_L wc_L_fresh (by decide +kernel) ⟨rfl, rfl, by decide, by decide⟩ PKR_bl (PKR_at hK (tw_p hP)) rfl rfl (by simp [Value.category]) ⟨by show _ ≤ 92; omega, by show _ ≤ 552; omega⟩ dL_plots_256 ?_
          refine g_icmp_ne C 276 dL_plots_259 (by decide) (fun h259 => ?_) (fun h259 => ?_)
          · exact absurd rfl h259
          · refine g_aload0 C dL_plots_262 ?_
            refine g_iload1 C dL_plots_263 ?_
            refine g_iconst C (nI 4) (by decide) dL_plots_264 ?_
            refine g_xR C 2 rfl (n_plot hls hki (by omega) (by omega)) wl_L_62 wi_X2_plot wv_X2_plot wc_X2_plot (by decide +kernel) ⟨by decide, by decide⟩ BDM_bl (va_recv (ci := 2) (q0 := 0) hK (tw_b hP) rfl rfl) (BDM_at hK (tw_b hP) (tw_db hD) hZ hX hS (fun _ h => h)) rfl rfl (by simp [Value.category]) ⟨by show _ ≤ 92; omega, by show _ ≤ 552; omega⟩ hS dL_plots_265 (fun H locs hk9 hS => ?_)
            have hP := P_kept hP hk9
            refine g_aload2 C dL_plots_268 ?_
            refine g_iload1 C dL_plots_269 ?_
            refine g_pkS C 2 rfl (c_L_vault hk (by omega)) wl_L_35 wt_L_vault wn_L wc_L_vault (by decide +kernel) ⟨rfl, rfl, by decide, by decide⟩ PKR_bl (PKR_at hK (tw_p hP)) rfl rfl (by simp [Value.category]) ⟨by show _ ≤ 92; omega, by show _ ≤ 552; omega⟩ dL_plots_270 ?_
            refine g_icmp_eq C 278 dL_plots_273 (by decide) (fun h273 => ?_) (fun h273 => ?_)
            · refine g_aload0 C dL_plots_278 ?_
              refine g_iload1 C dL_plots_279 ?_
              refine g_iconst C (nI 5) (by decide) dL_plots_280 ?_
              refine g_xR C 2 rfl (n_plot hls hki (by omega) (by omega)) wl_L_62 wi_X2_plot wv_X2_plot wc_X2_plot (by decide +kernel) ⟨by decide, by decide⟩ BDM_bl (va_recv (ci := 2) (q0 := 0) hK (tw_b hP) rfl rfl) (BDM_at hK (tw_b hP) (tw_db hD) hZ hX hS (fun _ h => h)) rfl rfl (by simp [Value.category]) ⟨by show _ ≤ 92; omega, by show _ ≤ 552; omega⟩ hS dL_plots_281 (fun H locs hk9 hS => ?_)
              have hP := P_kept hP hk9
              refine g_aload2 C dL_plots_284 ?_
              refine g_iload1 C dL_plots_285 ?_
              refine g_pkS C 2 rfl (c_L_keeps hk (by omega)) wl_L_8 wt_L_keeps wn_L wc_L_keeps (by decide +kernel) ⟨rfl, rfl, by decide, by decide⟩ PKR_bl (PKR_at hK (tw_p hP)) rfl rfl (by simp [Value.category]) ⟨by show _ ≤ 92; omega, by show _ ≤ 552; omega⟩ dL_plots_286 ?_
              refine g_icmp_ne C 373 dL_plots_289 (by decide) (fun h289 => ?_) (fun h289 => ?_)
              · exact absurd rfl h289
              · refine g_aload0 C dL_plots_292 ?_
                refine g_iload1 C dL_plots_293 ?_
                refine g_bipush C (nI 6) (by decide) dL_plots_294 ?_
                refine g_xR C 2 rfl (n_plot hls hki (by omega) (by omega)) wl_L_62 wi_X2_plot wv_X2_plot wc_X2_plot (by decide +kernel) ⟨by decide, by decide⟩ BDM_bl (va_recv (ci := 2) (q0 := 0) hK (tw_b hP) rfl rfl) (BDM_at hK (tw_b hP) (tw_db hD) hZ hX hS (fun _ h => h)) rfl rfl (by simp [Value.category]) ⟨by show _ ≤ 92; omega, by show _ ≤ 552; omega⟩ hS dL_plots_296 (fun H locs hk9 hS => ?_)
                have hP := P_kept hP hk9
                refine g_aload2 C dL_plots_299 ?_
                refine g_iload1 C dL_plots_300 ?_
                refine g_pkS C 2 rfl (c_L_upto hk (by omega)) wl_L_32 wt_L_upto wn_L wc_L_upto (by decide +kernel) ⟨rfl, rfl, by decide, by decide⟩ PKR_bl (PKR_at hK (tw_p hP)) rfl rfl (by simp [Value.category]) ⟨by show _ ≤ 92; omega, by show _ ≤ 552; omega⟩ dL_plots_301 ?_
                refine g_icmp_ne C 373 dL_plots_304 (by decide) (fun h304 => ?_) (fun h304 => ?_)
                · exact absurd rfl h304
                · refine g_aload0 C dL_plots_307 ?_
                  refine g_iload1 C dL_plots_308 ?_
                  refine g_bipush C (nI 7) (by decide) dL_plots_309 ?_
                  refine g_xR C 2 rfl (n_plot hls hki (by omega) (by omega)) wl_L_62 wi_X2_plot wv_X2_plot wc_X2_plot (by decide +kernel) ⟨by decide, by decide⟩ BDM_bl (va_recv (ci := 2) (q0 := 0) hK (tw_b hP) rfl rfl) (BDM_at hK (tw_b hP) (tw_db hD) hZ hX hS (fun _ h => h)) rfl rfl (by simp [Value.category]) ⟨by show _ ≤ 92; omega, by show _ ≤ 552; omega⟩ hS dL_plots_311 (fun H locs hk9 hS => ?_)
                  have hP := P_kept hP hk9
                  refine g_iconst C (nI 1) (by decide) dL_plots_314 ?_
                  refine g_d2 (v := bI (q_rc d p = true)) 323 (fun K315 => ?_) ?_
                  · skip
                    refine g_icmp_ne C 322 dL_plots_315 (by decide) (fun h315 => ?_) (fun h315 => ?_)
                    · refine g_iconst C (nI 0) (by decide) dL_plots_322 ?_
                      exact K315 _ (bI_f (fun z => h315 (if_pos z)))
                    · refine g_iconst C (nI 1) (by decide) dL_plots_318 ?_
                      refine g_goto C 323 dL_plots_319 (by decide) ?_
                      exact K315 _ (bI_t (Classical.byContradiction fun z => absurd (h315.symm.trans (if_neg z)) (by decide)))
                  refine g_iload1 C dL_plots_323 ?_
                  refine g_d1 (v := bI (q_rc d p = true)) 341 (fun K324 => ?_) ?_
                  · skip
                    refine g_if_eqN C (by omega) 336 dL_plots_324 (by decide) (fun h324 => ?_) (fun h324 => ?_)
                    · refine g_iconst C (nI 1) (by decide) dL_plots_336 ?_
                      refine g_goto C 341 dL_plots_337 (by decide) ?_
                      exact K324 _ (bI_t (by rw [← hwr p hp]; exact (wr_by v p).mpr (Or.inl h324)))
                    · refine g_iload1 C dL_plots_327 ?_
                      refine g_aload6 C dL_plots_328 ?_
                      refine g_pkS C 2 rfl (c_L_beside (by omega)) wl_L_42 wt_L_beside wn_L wc_L_beside (by decide +kernel) ⟨rfl, rfl, by decide, by decide⟩ PKV_bl (PKV_at hK (tw_v hP)) rfl rfl (by simp [Value.category]) ⟨by show _ ≤ 92; omega, by show _ ≤ 552; omega⟩ dL_plots_330 ?_
                      refine g_if_eqB C 340 dL_plots_333 (by decide) (fun h333 => ?_) (fun h333 => ?_)
                      · refine g_iconst C (nI 0) (by decide) dL_plots_340 ?_
                        exact K324 _ (bI_f (fun z => by rw [← hwr p hp] at z; rcases (wr_by v p).mp z with q | q; exact h324 q; exact h333 q))
                      · refine g_iconst C (nI 1) (by decide) dL_plots_336 ?_
                        refine g_goto C 341 dL_plots_337 (by decide) ?_
                        exact K324 _ (bI_t (by rw [← hwr p hp]; exact (wr_by v p).mpr (Or.inr h333)))
                  refine g_icmp_ne C 373 dL_plots_341 (by decide) (fun h341 => ?_) (fun h341 => ?_)
                  · exact absurd rfl h341
                  · refine g_aload0 C dL_plots_344 ?_
                    refine g_iload1 C dL_plots_345 ?_
                    refine g_bipush C (nI 8) (by decide) dL_plots_346 ?_
                    refine g_xR C 2 rfl (n_plot hls hki (by omega) (by omega)) wl_L_62 wi_X2_plot wv_X2_plot wc_X2_plot (by decide +kernel) ⟨by decide, by decide⟩ BDM_bl (va_recv (ci := 2) (q0 := 0) hK (tw_b hP) rfl rfl) (BDM_at hK (tw_b hP) (tw_db hD) hZ hX hS (fun _ h => h)) rfl rfl (by simp [Value.category]) ⟨by show _ ≤ 92; omega, by show _ ≤ 552; omega⟩ hS dL_plots_348 (fun H locs hk9 hS => ?_)
                    have hP := P_kept hP hk9
                    refine g_aload2 C dL_plots_351 ?_
                    refine g_iload1 C dL_plots_352 ?_
                    refine g_pkS C 2 rfl (c_L_most hk (by omega)) wl_L_50 wt_L_most wn_L wc_L_most (by decide +kernel) ⟨rfl, rfl, by decide, by decide⟩ PKR_bl (PKR_at hK (tw_p hP)) rfl rfl (by simp [Value.category]) ⟨by show _ ≤ 92; omega, by show _ ≤ 552; omega⟩ dL_plots_353 ?_
                    refine g_icmp_ne C 373 dL_plots_356 (by decide) (fun h356 => ?_) (fun h356 => ?_)
                    · exact absurd rfl h356
                    · refine g_aload0 C dL_plots_359 ?_
                      refine g_iload1 C dL_plots_360 ?_
                      refine g_xR C 1 rfl (n_clearYear hls hki (by omega)) wl_L_66 wi_X2_clearYear wv_X2_clearYear wc_X2_clearYear (by decide +kernel) ⟨by decide, by decide⟩ BDM_bl (va_recv (ci := 2) (q0 := 0) hK (tw_b hP) rfl rfl) (BDM_at hK (tw_b hP) (tw_db hD) hZ hX hS (fun _ h => h)) rfl rfl (by simp [Value.category]) ⟨by show _ ≤ 92; omega, by show _ ≤ 552; omega⟩ hS dL_plots_361 (fun H locs hk9 hS => ?_)
                      have hP := P_kept hP hk9
                      refine g_iload8 C dL_plots_364 ?_
                      refine g_icmp_ne C 373 dL_plots_366 (by decide) (fun h366 => ?_) (fun h366 => ?_)
                      · exact absurd (by rw [hx, show j = 3 by omega]) h366
                      · refine g_iconst C (nI 1) (by decide) dL_plots_369 ?_
                        refine g_goto C 374 dL_plots_370 (by decide) ?_
                        refine g_wd (k := 92) (n := 552) (by omega) (by omega) ?_
                        exact g_zretM C hP hS (bI_t trivial) dL_plots_374
            · exact absurd rfl h273
  · refine g_aload3 C dL_plots_20 ?_
    refine g_iload1 C dL_plots_21 ?_
    refine g_iload9 C dL_plots_22 ?_
    refine g_pkS C 3 rfl (c_L_isThere hk (j := j) (by omega) (by omega)) wl_L_14 wt_L_isThere wn_L wc_L_isThere (by decide +kernel) ⟨rfl, rfl, by decide, by decide⟩ PKR_bl (PKR_at hK (tw_p hP)) rfl rfl (by simp [Value.category]) ⟨by show _ ≤ 92; omega, by show _ ≤ 552; omega⟩ dL_plots_24 ?_
    refine g_istore10 C rfl dL_plots_27 ?_
    refine g_iload10 C dL_plots_29 ?_
    refine g_d1 (v := (if d 7 (p * 3 + j) ≠ -1 then d 8 (p * 3 + j) + q_yr d p else nI 0)) 51 (fun K31 => ?_) ?_
    · skip
      refine g_if_eqB C 50 dL_plots_31 (by decide) (fun h31 => ?_) (fun h31 => ?_)
      · refine g_iconst C (nI 0) (by decide) dL_plots_50 ?_
        exact K31 _ (by rw [if_neg h31])
      · refine g_aload3 C dL_plots_34 ?_
        refine g_iload1 C dL_plots_35 ?_
        refine g_iload9 C dL_plots_36 ?_
        refine g_pkS C 3 rfl (c_L_when hk (j := j) (by omega) (by omega) (by assumption)) wl_L_22 wt_L_when wn_L wc_L_when (by decide +kernel) ⟨rfl, rfl, by decide, by decide⟩ PKR_bl (PKR_at hK (tw_p hP)) rfl rfl (by simp [Value.category]) ⟨by show _ ≤ 92; omega, by show _ ≤ 552; omega⟩ dL_plots_38 ?_
        refine g_aload2 C dL_plots_41 ?_
        refine g_iload1 C dL_plots_42 ?_
        refine g_pkS C 2 rfl (c_L_rest hk (by omega)) wl_L_26 wt_L_rest wn_L wc_L_rest (by decide +kernel) ⟨rfl, rfl, by decide, by decide⟩ PKR_bl (PKR_at hK (tw_p hP)) rfl rfl (by simp [Value.category]) ⟨by show _ ≤ 92; omega, by show _ ≤ 552; omega⟩ dL_plots_43 ?_
        refine g_iadd C dL_plots_46 ?_
        refine g_goto C 51 dL_plots_47 (by decide) ?_
        exact K31 _ (by rw [if_pos h31])
    refine g_istore11 C rfl dL_plots_51 ?_
    refine g_iload11 C dL_plots_53 ?_
    refine g_iload8 C dL_plots_55 ?_
    refine g_d2 (v := q_yoM d (nI yn) p (j + 1)) 67 (fun K57 => ?_) ?_
    · skip
      refine g_icmp_le C 65 dL_plots_57 (by decide) (fun h57 => ?_) (fun h57 => ?_)
      · refine g_iload8 C dL_plots_65 ?_
        exact K57 _ (by rw [yo_s, hx]; rw [hx] at h57; by_cases ho : d 7 (p * 3 + j) ≠ -1; rw [if_pos ho] at h57; exact (if_neg (fun z => absurd z.2 (Int32.not_lt.mpr h57))).symm; exact (if_neg (fun z => ho z.1)).symm)
      · refine g_iload11 C dL_plots_60 ?_
        refine g_goto C 67 dL_plots_62 (by decide) ?_
        exact K57 _ (by rw [yo_s]; rw [hx] at h57; have h57 := Int32.not_le.mp h57; by_cases ho : d 7 (p * 3 + j) ≠ -1; rw [if_pos ho] at h57 ⊢; exact (if_pos ⟨ho, h57⟩).symm; rw [if_neg ho] at h57; exact absurd (Int32.lt_of_le_of_lt (yo_ge (d := d) (y := nI yn) (p := p) j) h57) (nI_nlt (Nat.zero_le _) (by omega)))
    refine g_istore8 C rfl dL_plots_67 ?_
    refine g_aload0 C dL_plots_69 ?_
    refine g_iload1 C dL_plots_70 ?_
    refine g_iload9 C dL_plots_71 ?_
    refine g_iconst C (nI 0) (by decide) dL_plots_73 ?_
    refine g_xR C 3 rfl (n_burial hls hki (j := j) (by omega) (by omega) (by omega)) wl_L_56 wi_X2_burial wv_X2_burial wc_X2_burial (by decide +kernel) ⟨by decide, by decide⟩ BDM_bl (va_recv (ci := 2) (q0 := 0) hK (tw_b hP) rfl rfl) (BDM_at hK (tw_b hP) (tw_db hD) hZ hX hS (fun _ h => h)) rfl rfl (by simp [Value.category]) ⟨by show _ ≤ 92; omega, by show _ ≤ 552; omega⟩ hS dL_plots_74 (fun H locs hk9 hS => ?_)
    have hP := P_kept hP hk9
    refine g_iload10 C dL_plots_77 ?_
    refine g_d1 (v := q_bp d (nI yn) (p * 3 + j) 0) 93 (fun K79 => ?_) ?_
    · skip
      refine g_if_eqB C 92 dL_plots_79 (by decide) (fun h79 => ?_) (fun h79 => ?_)
      · refine g_iconst C (-1) (by decide) dL_plots_92 ?_
        exact K79 _ (by unfold q_bp; rw [if_pos (Classical.byContradiction h79)])
      · refine g_aload3 C dL_plots_82 ?_
        refine g_iload1 C dL_plots_83 ?_
        refine g_iload9 C dL_plots_84 ?_
        refine g_pkS C 3 rfl (c_L_who hk (j := j) (by omega) (by omega) (by assumption)) wl_L_29 wt_L_who wn_L wc_L_who (by decide +kernel) ⟨rfl, rfl, by decide, by decide⟩ PKR_bl (PKR_at hK (tw_p hP)) rfl rfl (by simp [Value.category]) ⟨by show _ ≤ 92; omega, by show _ ≤ 552; omega⟩ dL_plots_86 ?_
        refine g_goto C 93 dL_plots_89 (by decide) ?_
        exact K79 _ (by exact (if_neg h79).symm)
    refine g_icmp_ne C 192 dL_plots_93 (by decide) (fun h93 => ?_) (fun h93 => ?_)
    · exact absurd rfl h93
    · refine g_aload0 C dL_plots_96 ?_
      refine g_iload1 C dL_plots_97 ?_
      refine g_iload9 C dL_plots_98 ?_
      refine g_iconst C (nI 1) (by decide) dL_plots_100 ?_
      refine g_xR C 3 rfl (n_burial hls hki (j := j) (by omega) (by omega) (by omega)) wl_L_56 wi_X2_burial wv_X2_burial wc_X2_burial (by decide +kernel) ⟨by decide, by decide⟩ BDM_bl (va_recv (ci := 2) (q0 := 0) hK (tw_b hP) rfl rfl) (BDM_at hK (tw_b hP) (tw_db hD) hZ hX hS (fun _ h => h)) rfl rfl (by simp [Value.category]) ⟨by show _ ≤ 92; omega, by show _ ≤ 552; omega⟩ hS dL_plots_101 (fun H locs hk9 hS => ?_)
      have hP := P_kept hP hk9
      refine g_iload10 C dL_plots_104 ?_
      refine g_d1 (v := q_bp d (nI yn) (p * 3 + j) 1) 120 (fun K106 => ?_) ?_
      · skip
        refine g_if_eqB C 119 dL_plots_106 (by decide) (fun h106 => ?_) (fun h106 => ?_)
        · refine g_iconst C (-1) (by decide) dL_plots_119 ?_
          exact K106 _ (by unfold q_bp; rw [if_pos (Classical.byContradiction h106)])
        · refine g_aload3 C dL_plots_109 ?_
          refine g_iload1 C dL_plots_110 ?_
          refine g_iload9 C dL_plots_111 ?_
          refine g_pkS C 3 rfl (c_L_when hk (j := j) (by omega) (by omega) (by assumption)) wl_L_22 wt_L_when wn_L wc_L_when (by decide +kernel) ⟨rfl, rfl, by decide, by decide⟩ PKR_bl (PKR_at hK (tw_p hP)) rfl rfl (by simp [Value.category]) ⟨by show _ ≤ 92; omega, by show _ ≤ 552; omega⟩ dL_plots_113 ?_
          refine g_goto C 120 dL_plots_116 (by decide) ?_
          exact K106 _ (by exact (if_neg h106).symm)
      refine g_icmp_ne C 192 dL_plots_120 (by decide) (fun h120 => ?_) (fun h120 => ?_)
      · exact absurd rfl h120
      · refine g_aload0 C dL_plots_123 ?_
        refine g_iload1 C dL_plots_124 ?_
        refine g_iload9 C dL_plots_125 ?_
        refine g_iconst C (nI 2) (by decide) dL_plots_127 ?_
        refine g_xR C 3 rfl (n_burial hls hki (j := j) (by omega) (by omega) (by omega)) wl_L_56 wi_X2_burial wv_X2_burial wc_X2_burial (by decide +kernel) ⟨by decide, by decide⟩ BDM_bl (va_recv (ci := 2) (q0 := 0) hK (tw_b hP) rfl rfl) (BDM_at hK (tw_b hP) (tw_db hD) hZ hX hS (fun _ h => h)) rfl rfl (by simp [Value.category]) ⟨by show _ ≤ 92; omega, by show _ ≤ 552; omega⟩ hS dL_plots_128 (fun H locs hk9 hS => ?_)
        have hP := P_kept hP hk9
        refine g_iload10 C dL_plots_131 ?_
        refine g_d1 (v := q_bp d (nI yn) (p * 3 + j) 2) 152 (fun K133 => ?_) ?_
        · skip
          refine g_if_eqB C 151 dL_plots_133 (by decide) (fun h133 => ?_) (fun h133 => ?_)
          · refine g_iconst C (-1) (by decide) dL_plots_151 ?_
            exact K133 _ (by unfold q_bp; rw [if_pos (Classical.byContradiction h133)])
          · refine g_iload11 C dL_plots_136 ?_
            refine g_iload7 C dL_plots_138 ?_
            refine g_icmp_gt C 147 dL_plots_140 (by decide) (fun h140 => ?_) (fun h140 => ?_)
            · refine g_iconst C (nI 0) (by decide) dL_plots_147 ?_
              refine g_goto C 152 dL_plots_148 (by decide) ?_
              exact K133 _ (by unfold q_bp; rw [if_pos h133] at h140; rw [if_neg h133]; exact (if_pos ⟨h133, by show nI yn < d 8 (p * 3 + j) + q_yr d ((p * 3 + j) / 3); rw [show (p * 3 + j) / 3 = p by omega]; exact h140⟩).symm)
            · refine g_iconst C (nI 1) (by decide) dL_plots_143 ?_
              refine g_goto C 152 dL_plots_144 (by decide) ?_
              exact K133 _ (by unfold q_bp; rw [if_pos h133] at h140; rw [if_neg h133]; exact (if_neg (fun z => h140 (by have z2 : nI yn < d 8 (p * 3 + j) + q_yr d ((p * 3 + j) / 3) := z.2; rw [show (p * 3 + j) / 3 = p by omega] at z2; exact z2))).symm)
        refine g_icmp_ne C 192 dL_plots_152 (by decide) (fun h152 => ?_) (fun h152 => ?_)
        · exact absurd rfl h152
        · refine g_aload0 C dL_plots_155 ?_
          refine g_iload1 C dL_plots_156 ?_
          refine g_iload9 C dL_plots_157 ?_
          refine g_iconst C (nI 3) (by decide) dL_plots_159 ?_
          refine g_xR C 3 rfl (n_burial hls hki (j := j) (by omega) (by omega) (by omega)) wl_L_56 wi_X2_burial wv_X2_burial wc_X2_burial (by decide +kernel) ⟨by decide, by decide⟩ BDM_bl (va_recv (ci := 2) (q0 := 0) hK (tw_b hP) rfl rfl) (BDM_at hK (tw_b hP) (tw_db hD) hZ hX hS (fun _ h => h)) rfl rfl (by simp [Value.category]) ⟨by show _ ≤ 92; omega, by show _ ≤ 552; omega⟩ hS dL_plots_160 (fun H locs hk9 hS => ?_)
          have hP := P_kept hP hk9
          refine g_iload10 C dL_plots_163 ?_
          refine g_d1 (v := q_bp d (nI yn) (p * 3 + j) 3) 189 (fun K165 => ?_) ?_
          · skip
            refine g_if_eqB C 188 dL_plots_165 (by decide) (fun h165 => ?_) (fun h165 => ?_)
            · refine g_iconst C (-1) (by decide) dL_plots_188 ?_
              exact K165 _ (by unfold q_bp; rw [if_pos (Classical.byContradiction h165)])
            · refine g_aload4 C dL_plots_168 ?_
              refine g_iload1 C dL_plots_170 ?_
              refine g_iald C hK hP 2 0 rfl rfl (by omega) (by decide) dL_plots_171 ?_
              refine g_bipush C (nI 9) (by decide) dL_plots_172 ?_
              refine g_iload9 C dL_plots_174 ?_
              refine g_imulN C dL_plots_176 ?_
              refine g_bipush C (nI 9) (by decide) dL_plots_177 ?_
              refine g_isubN C (by omega) dL_plots_179 ?_
              refine g_ishr C dL_plots_180 ?_
              refine g_sipush C (nI 511) (by decide) dL_plots_181 ?_
              refine g_iand C dL_plots_184 ?_
              refine g_top (rd_e0 hke (by omega) (by omega) h165) ?_
              refine g_goto C 189 dL_plots_185 (by decide) ?_
              exact K165 _ (by exact (if_neg h165).symm)
          refine g_icmp_eq C 194 dL_plots_189 (by decide) (fun h189 => ?_) (fun h189 => ?_)
          · refine g_iinc9 C _ rfl dL_plots_194 (nI_1 _) ?_
            refine g_goto C 14 dL_plots_197 (by decide) ?_
            refine g_fg10 ?_
            refine g_fg11 ?_
            refine g_wd (k := 16 * (j + 1)) (n := 96 * (j + 1)) (by omega) (by omega) (ih (j + 1, _) _ _ ⟨by show j + 1 ≤ 3; omega, rfl, hP, hS⟩ (by show 3 - (j + 1) < 3 - j; omega))
          · exact absurd rfl h189
