set_option maxHeartbeats 4000000 in
set_option maxRecDepth 100000 in
/-- from the entry, for every script of at most 260 ints, the law comes to its end with true -/
theorem whole_start {p : Program} {e : Env} {s : State} {m : MethodId} {below : List Frame} {meth : Method} {c : Code} (l : Launch) (hflags : l.flags = flags0) {b L : Nat} {xs : Nat → Int32} (hL : L ≤ 260) (C0 : lw_At p s m meth c b L xs) : W p l e room_1 s m #[Value.ref b] below meth c s.heap [] 0 0 (lw_Z below #[Value.ref b] s) (entryFrame m ([Value.ref b] : List Value).toArray 9) := by
  obtain ⟨hx, hb, hr, hml, hown, hts, hXs, hbl, hlocks, hgv⟩ := id C0
  have hs := flat_of_before _ hgv
  have hls : l.stackTraces = false := by unfold Launch.stackTraces; rw [hflags]; decide +kernel
  have hnA : ∀ a : Nat, a < s.heap.size → ¬ (fun q : Nat => s.heap.size ≤ q) a := fun a h => Nat.not_le.mpr h
  have C : CX p s m #[Value.ref b] meth c cL_law RL 9 ret := ⟨hx, hb, hml, hown, fun w h => hts w (List.mem_filter.mp h).1, hr, hlocks⟩
  obtain ⟨dC, dI, cI, cL, cJ, hK⟩ := EV_0 hts
  obtain ⟨g1, g2, hZ⟩ := ST_0 hts hs hnA
  have hX := XE_0 hts hs hnA
  have hN : va_Nw (.methodLinkNest RX2 33 yX0_init RX2) s := va_Nw.of rfl (hts _ tb_NE)
  have hO : va_AO RX1 s := va_AO.of (hts _ tb_AO)
  have hS : va_S (fun q : Nat => s.heap.size ≤ q) s.heap s.heap [] := va_S.rf
  have hA : ∀ q : Nat, s.heap.size ≤ q → (fun q : Nat => s.heap.size ≤ q) q := fun _ h => h
  have hP : va_P (dC, dI) vwCl [] s.heap := fun k q h => by cases h
  have hD : va_D (fun q : Nat => s.heap.size ≤ q) [] := ⟨fun i j p q h _ _ => (by cases h), fun k q h => (by cases h)⟩
  have hl := lv_entry [.ref b] (n := 9) (Nat.le_of_ble_eq_true rfl)
  rw [lg_entry_eq]
  suffices K : G p l e room_1 s m #[Value.ref b] below meth c s.heap [] 0 0 (lw_Z below #[Value.ref b] s) [some (.ref b), none, none, none, none, none, none, none, none] 0 [] from K _ hl
  refine g_newo (ci := 2) (T := TX2) (N := 6) C inX2 tyX2 tyX2_ok wk_L_57 wb_X2 wn_X2 hK hP hD hS hA rfl df_X2 (by decide) (by decide) dL_law_0 (fun o H hP hD hS => ?_)
  refine g_dup C rfl dL_law_3 ?_
  have hS8 := hS.1
  refine g_mI (As := []) C 0 rfl (c_X2_init (o := o) (sz := H.size)) wl_L_147 wi_X2_init wn_X2 wc_X2_init rfl (by decide +kernel) ⟨rfl, rfl, by decide, by decide⟩ (fun U g mk v h => ⟨h.1, h.2.1, va_K.moved (u := U) (U := U.calling g mk v) (Vm.Alike.refl U.vm) h.2.2.1, va_Nw.same (u := U) (U := U.calling g mk v) rfl rfl h.2.2.2.1, va_AO.moved (u := U) (U := U.calling g mk v) (Vm.Alike.refl U.vm) h.2.2.2.2⟩) (fun U hU hW => ⟨by rw [hU], by rw [hU]; exact P_r hP, va_K.moved hW.alike hK, va_Nw.warmM hW hN, va_AO.moved hW.alike hO⟩) rfl rfl (by simp [Value.category]) ⟨by decide, by decide⟩ hS (fun q h => h.elim (fun z => by subst z; exact (va_D_iff.mp hD).2 _ (List.mem_append_right _ List.mem_cons_self)) (fun z => Nat.le_trans hS.1 z)) dL_law_4 (fun H1 locs hP1 _ hk1 hS => ?_)
  obtain ⟨sa, ba, a, e0, tt, sv, hP9, hD9⟩ := hP1
  obtain ⟨hP, hD⟩ := PD_init hP hD hP9 hD9 (fun q z => Nat.le_trans hS8 z) hk1
  have eB : (BW cI cL o sa ba a e0 tt 0 0 (svg sv) (fun _ => 0) 0 q_d0 1099511627775 (0, 0, 0, none, 0) sv) = BW cI cL o sa ba a e0 tt 0 0 (svg sv) (fun _ => 0) (nI 0) q_d0 (q_rw q_d0 0) (0, 0, 0, none, 0) sv := by rw [rw_d0, nI_0]
  replace hP : va_P (dC, dI) vwCl (BW cI cL o sa ba a e0 tt 0 0 (svg sv) (fun _ => 0) 0 q_d0 1099511627775 (0, 0, 0, none, 0) sv) H1 := hP
  replace hD : va_D (fun q : Nat => s.heap.size ≤ q) (BW cI cL o sa ba a e0 tt 0 0 (svg sv) (fun _ => 0) 0 q_d0 1099511627775 (0, 0, 0, none, 0) sv) := hD
  rw [eB] at hP hD
  refine g_astore1 C rfl dL_law_7 ?_
  refine g_bipush C (nI 40) (by decide) dL_law_8 ?_
  refine g_newa C hK hP hD hS hA (by decide) (by decide) (by decide) (by decide) dL_law_10 (fun q1 H hP hD hS => ?_)
  refine g_astore2 C rfl dL_law_12 ?_
  refine g_bipush C (nI 40) (by decide) dL_law_13 ?_
  refine g_newaL C hK hP hD hS hA (by decide) (by decide) (by decide) (by decide) dL_law_15 (fun q2 H hP hD hS => ?_)
  refine g_astore3 C rfl dL_law_17 ?_
  refine g_bipush C (nI 40) (by decide) dL_law_18 ?_
  refine g_newa C hK hP hD hS hA (by decide) (by decide) (by decide) (by decide) dL_law_20 (fun q3 H hP hD hS => ?_)
  refine g_astore4 C rfl dL_law_22 ?_
  refine g_bipush C (nI 31) (by decide) dL_law_24 ?_
  refine g_newa C hK hP hD hS hA (by decide) (by decide) (by decide) (by decide) dL_law_26 (fun q4 H hP hD hS => ?_)
  refine g_astore5 C rfl dL_law_28 ?_
  have hP := P_perm pw_0 hP
  have hD := D_perm pw_0 hD
  have et : ∃ t : Nat → Nat, t 0 = q1 ∧ t 1 = q2 ∧ t 2 = q3 ∧ t 3 = q4 := ⟨fun k => match k with
    | 0 => q1
    | 1 => q2
    | 2 => q3
    | _ => q4, rfl, rfl, rfl, rfl⟩
  obtain ⟨t, ht1, ht2, ht3, ht4⟩ := et
  subst ht1
  subst ht2
  subst ht3
  subst ht4
  replace hP : va_P (dC, dI) vwCl (PW cI cJ t (fun _ => 0) (fun _ => 0) (fun _ => 0) (fun _ => 0) ++ BW cI cL o sa ba a e0 tt 0 0 (svg sv) (fun _ => 0) (nI 0) q_d0 (q_rw q_d0 0) (0, 0, 0, none, 0) sv) H := hP
  replace hD : va_D (fun q : Nat => s.heap.size ≤ q) (PW cI cJ t (fun _ => 0) (fun _ => 0) (fun _ => 0) (fun _ => 0) ++ BW cI cL o sa ba a e0 tt 0 0 (svg sv) (fun _ => 0) (nI 0) q_d0 (q_rw q_d0 0) (0, 0, 0, none, 0) sv) := hD
  refine g_aload2 C dL_law_30 ?_
  refine g_iconst C (nI 0) (by decide) dL_law_31 ?_
  refine g_iconst C (nI 3) (by decide) dL_law_32 ?_
  refine g_iast C hK hP hD hS 0 0 rfl rfl (by omega) (by decide) dL_law_33 (fun H locs hP hD hS => ?_)
  have hP : va_P (dC, dI) vwCl (PW cI cJ t (upd (fun _ => 0) 0 (nI 3)) (fun _ => 0) (fun _ => 0) (fun _ => 0) ++ BW cI cL o sa ba a e0 tt 0 0 (svg sv) (fun _ => 0) (nI 0) q_d0 (q_rw q_d0 0) (0, 0, 0, none, 0) sv) H := hP
  have hD : va_D (fun q : Nat => s.heap.size ≤ q) (PW cI cJ t (upd (fun _ => 0) 0 (nI 3)) (fun _ => 0) (fun _ => 0) (fun _ => 0) ++ BW cI cL o sa ba a e0 tt 0 0 (svg sv) (fun _ => 0) (nI 0) q_d0 (q_rw q_d0 0) (0, 0, 0, none, 0) sv) := hD
  refine g_iconst C (nI 0) (by decide) dL_law_34 ?_
  refine g_istore6 C rfl dL_law_35 ?_
  refine g_lpH (A1 := Nat × (Nat → Int32)) (fun u H locs => u.1 ≤ 10 ∧ (∀ k, k < u.1 → u.2 k = nI 1) ∧ (∀ k, u.1 ≤ k → u.2 k = 0) ∧ va_P (dC, dI) vwCl (PW cI cJ t (upd (fun _ => 0) 0 (nI 3)) (fun _ => 0) (fun _ => 0) (u.2) ++ BW cI cL o sa ba a e0 tt 0 0 (svg sv) (fun _ => 0) (nI 0) q_d0 (q_rw q_d0 0) (0, 0, 0, none, 0) sv) H ∧ va_D (fun q : Nat => s.heap.size ≤ q) (PW cI cJ t (upd (fun _ => 0) 0 (nI 3)) (fun _ => 0) (fun _ => 0) (u.2) ++ BW cI cL o sa ba a e0 tt 0 0 (svg sv) (fun _ => 0) (nI 0) q_d0 (q_rw q_d0 0) (0, 0, 0, none, 0) sv) ∧ va_S (fun q : Nat => s.heap.size ≤ q) s.heap H locs) (fun u => 10 - u.1) (fun u => [some (.ref b), some (.ref o), some (.ref (t 0)), some (.ref (t 1)), some (.ref (t 2)), some (.ref (t 3)), some (.int (nI u.1)), none, none]) (0, fun _ => 0) ⟨Nat.zero_le _, fun k hk => absurd hk (Nat.not_lt_zero _), fun _ _ => rfl, hP, hD, hS⟩ rfl ?_
  clear hP hD hS
  rintro ⟨f, x4⟩ H locs ⟨hf, h1, h0, hP, hD, hS⟩ ih
  try dsimp only at hf h1 h0 hP hD hS ih ⊢
  refine g_iload6 C dL_law_37 ?_
  refine g_bipush C (nI 10) (by decide) dL_law_39 ?_
  refine g_icmp_geN C (by omega) (by omega) 56 dL_law_41 (by decide) (fun h41 => ?_) (fun h41 => ?_)
  · have e10 : f = 10 := by omega
    subst e10
    have hk := PKI_0 h1 (fun k hk => h0 k hk)
    refine g_aload1 C dL_law_56 ?_
    refine g_iconst C (nI 3) (by decide) dL_law_57 ?_
    refine g_iconst C (nI 5) (by decide) dL_law_58 ?_
    refine g_aload2 C dL_law_59 ?_
    refine g_aload3 C dL_law_60 ?_
    refine g_aload4 C dL_law_61 ?_
    refine g_aload5 C dL_law_63 ?_
    refine g_mS C 7 rfl (c_L_told hk (by omega) hls) wl_L_148 wt_L_told wn_L wc_L_told (by decide +kernel) ⟨rfl, rfl, by decide, by decide⟩ TLN_bl (TLN_at hK hP hD hZ hX hS (fun _ h => h) (fun q h => Nat.le_trans hS.1 h)) rfl rfl (by simp [Value.category]) ⟨by show _ ≤ 600130; omega, by show _ ≤ 7301080; omega⟩ hS (fun _ _ h => h) (fun _ h => h) dL_law_65 (fun H locs hV _ _ hS => ?_)
    obtain ⟨w9, hP⟩ := hV
    have hP := P_l hP
    refine g_if_eqB C 82 dL_law_68 (by decide) (fun h68 => ?_) (fun h68 => ?_)
    · exact absurd trivial h68
    · refine g_aload1 C dL_law_71 ?_
      refine g_bipush C (nI 9) (by decide) dL_law_72 ?_
      refine g_iconst C (nI 0) (by decide) dL_law_74 ?_
      refine g_xM (A1 := fun q => q ∈ (BW cI cL o sa ba a e0 tt 0 0 (svg sv) (fun _ => 0) (nI 0) q_d0 (q_rw q_d0 0) (0, 0, 0, none, 0) sv).map Prod.fst) C 2 rfl (n_setParish hls (Nat.zero_le _) (f := 9) (by decide) (P9 := False)) wl_L_129 wi_X2_setParish wv_X2_setParish wc_X2_setParish (by decide +kernel) ⟨by decide, by decide⟩ BDM_bl (va_recv (ci := 2) (q0 := 0) hK (P_r (u := PW cI cJ t (upd (fun _ => 0) 0 (nI 3)) (fun _ => 0) (fun _ => 0) x4) hP) rfl rfl) (BDM_at hK (P_r (u := PW cI cJ t (upd (fun _ => 0) 0 (nI 3)) (fun _ => 0) (fun _ => 0) x4) hP) (D_r (u := PW cI cJ t (upd (fun _ => 0) 0 (nI 3)) (fun _ => 0) (fun _ => 0) x4) hD).1 hZ hX hS (D_r (u := PW cI cJ t (upd (fun _ => 0) 0 (nI 3)) (fun _ => 0) (fun _ => 0) x4) hD).2) rfl rfl (by simp [Value.category]) ⟨by show _ ≤ 600130; omega, by show _ ≤ 7301080; omega⟩ hS (D_r (u := PW cI cJ t (upd (fun _ => 0) 0 (nI 3)) (fun _ => 0) (fun _ => 0) x4) hD).2 dL_law_75 (fun H locs hB hk9 hS => ?_)
      obtain ⟨hP, hD⟩ := pw_put hP hD hB hk9
      refine g_iconst C (nI 1) (by decide) dL_law_78 ?_
      refine g_icmp_eq C 84 dL_law_79 (by decide) (fun h79 => ?_) (fun h79 => ?_)
      · refine g_aload5 C dL_law_84 ?_
        refine g_bipush C (nI 9) (by decide) dL_law_86 ?_
        refine g_iconst C (nI 0) (by decide) dL_law_88 ?_
        refine g_iast C hK hP hD hS 3 0 rfl rfl (by omega) (by decide) dL_law_89 (fun H locs hP hD hS => ?_)
        have hP : va_P (dC, dI) vwCl (PW cI cJ t (upd (fun _ => 0) 0 (nI 3)) (fun _ => 0) (fun _ => 0) (upd x4 9 (nI 0)) ++ BW cI cL o sa ba a e0 tt (min (0 + 1) 6) 0 (svg (sv_save sv 0 (nI 0) q_d0 (q_rw q_d0 0))) (fun _ => 0) (nI 0) (q_up q_d0 0 9 (nI (if False then 1 else 0))) (q_rw (q_up q_d0 0 9 (nI (if False then 1 else 0))) 0) (0, 0, 0, none, 0) (sv_save sv 0 (nI 0) q_d0 (q_rw q_d0 0))) H := hP
        have hD : va_D (fun q : Nat => s.heap.size ≤ q) (PW cI cJ t (upd (fun _ => 0) 0 (nI 3)) (fun _ => 0) (fun _ => 0) (upd x4 9 (nI 0)) ++ BW cI cL o sa ba a e0 tt (min (0 + 1) 6) 0 (svg (sv_save sv 0 (nI 0) q_d0 (q_rw q_d0 0))) (fun _ => 0) (nI 0) (q_up q_d0 0 9 (nI (if False then 1 else 0))) (q_rw (q_up q_d0 0 9 (nI (if False then 1 else 0))) 0) (0, 0, 0, none, 0) (sv_save sv 0 (nI 0) q_d0 (q_rw q_d0 0))) := hD
        refine g_iconst C (nI 0) (by decide) dL_law_90 ?_
        refine g_istore6 C rfl dL_law_91 ?_
        refine g_wd (k := 1000) (n := 10000) (by omega) (by omega) ?_
        exact law_loop l hls hL C0 C hK hZ hX hP hD hS (up_par (z := 0) hk (by decide) (by decide)) (by decide) (by decide) PKU_0
      · exact absurd rfl h79
  · refine g_aload5 C dL_law_44 ?_
    refine g_iload6 C dL_law_46 ?_
    refine g_iconst C (nI 1) (by decide) dL_law_48 ?_
    refine g_iast C hK hP hD hS 3 0 rfl rfl (by omega) (by decide) dL_law_49 (fun H locs hP hD hS => ?_)
    have hP : va_P (dC, dI) vwCl (PW cI cJ t (upd (fun _ => 0) 0 (nI 3)) (fun _ => 0) (fun _ => 0) (upd x4 f (nI 1)) ++ BW cI cL o sa ba a e0 tt 0 0 (svg sv) (fun _ => 0) (nI 0) q_d0 (q_rw q_d0 0) (0, 0, 0, none, 0) sv) H := hP
    have hD : va_D (fun q : Nat => s.heap.size ≤ q) (PW cI cJ t (upd (fun _ => 0) 0 (nI 3)) (fun _ => 0) (fun _ => 0) (upd x4 f (nI 1)) ++ BW cI cL o sa ba a e0 tt 0 0 (svg sv) (fun _ => 0) (nI 0) q_d0 (q_rw q_d0 0) (0, 0, 0, none, 0) sv) := hD
    refine g_iinc6 C _ rfl dL_law_50 (nI_1 _) ?_
    refine g_goto C 37 dL_law_53 (by decide) ?_
    exact ih (f + 1, upd x4 f (nI 1)) H locs ⟨by show f + 1 ≤ 10; omega, fun k hk => by have hk : k < f + 1 := hk; by_cases q : k = f; exact q ▸ pk_us; exact (upd_ne q).trans (h1 k (by omega)), fun k hk => by have hk : f + 1 ≤ k := hk; exact (upd_ne (by omega)).trans (h0 k (by omega)), hP, hD, hS⟩ (by show 10 - (f + 1) < 10 - f; omega)
