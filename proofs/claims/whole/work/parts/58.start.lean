theorem zA0 : (q_s1 (fun _ _ => 0) 0 (q_zi 40 120 10)) 0 = q_zi 40 120 10 := rfl
theorem RLs_0 {sv : Nat → LO} : RLs 0 0 (fun _ => 0) sv (q_s1 (fun _ _ => 0) 0 (q_zi 40 120 10)) (fun _ => 0) := by
  refine ⟨Nat.zero_le _, Nat.zero_le _, rfl, rfl, ?_, ⟨0, Nat.zero_le _, ?_⟩, TXR_0, fun j hj => absurd hj (Nat.not_lt_zero _)⟩
  · rw [zA0, zi_nz]; exact INV_d0
  · rfl
theorem W_0 {cI cL cJ : ClassId} {o sa ba a e0 : Nat} {t : Nat → Nat} {om : Nat} {tm : Nat → Nat} {oa : Nat} {sv : Nat → LO} : (((BW cI cL o sa ba a e0 t 0 0 (svg sv) (fun _ => 0) 0 q_d0 1099511627775 (0, 0, 0, none, 0) sv : va_W) ++ MW cI om tm (q_s1 (fun _ _ => 0) 0 (q_zi 40 120 10)) (fun _ => 0) 0) ++ ([(oa, .inl (cJ, 1, .inr (.inl (fun _ => 0))))] : va_W)).Perm (LWW cI cL cJ o sa ba a e0 t om tm oa 0 0 (fun _ => 0) sv (0, 0, 0, none, 0) (fun _ => 0) (q_s1 (fun _ _ => 0) 0 (q_zi 40 120 10)) (fun _ => 0) 0) := by
  have e : LWW cI cL cJ o sa ba a e0 t om tm oa 0 0 (fun _ => 0) sv (0, 0, 0, none, 0) (fun _ => 0) (q_s1 (fun _ _ => 0) 0 (q_zi 40 120 10)) (fun _ => 0) 0 = MW cI om tm (q_s1 (fun _ _ => 0) 0 (q_zi 40 120 10)) (fun _ => 0) 0 ++ (JR cJ oa (fun _ => 0) :: BW cI cL o sa ba a e0 t 0 0 (svg sv) (fun _ => 0) 0 q_d0 1099511627775 (0, 0, 0, none, 0) sv) := by
    show MW cI om tm (q_s1 (fun _ _ => 0) 0 (q_zi 40 120 10)) (fun _ => 0) 0 ++ (JR cJ oa (fun _ => 0) :: BW cI cL o sa ba a e0 t 0 0 (svg sv) (fun _ => 0) ((q_s1 (fun _ _ => 0) 0 (q_zi 40 120 10)) 0 550) (q_nz ((q_s1 (fun _ _ => 0) 0 (q_zi 40 120 10)) 0)) (q_rw (q_nz ((q_s1 (fun _ _ => 0) 0 (q_zi 40 120 10)) 0)) 0) (0, 0, 0, none, 0) sv) = _
    rw [zA0, zi_nz, rw_d0]
    rfl
  rw [e, List.append_assoc]
  refine (List.perm_append_comm).trans ?_
  rw [List.append_assoc]
  exact List.Perm.refl _
set_option maxHeartbeats 4000000 in
set_option maxRecDepth 100000 in
/-- from the entry, for every script of at most 2048 ints, the law comes to its end with true -/
theorem whole_start {p : Program} {e : Env} {s : State} {m : MethodId} {below : List Frame} {meth : Method} {c : Code} (l : Launch) (hflags : l.flags = flags0) {b L : Nat} {xs : Nat → Int32} (hL : L ≤ 2048) (C0 : lw_At p s m meth c b L xs) : W p l e room_1 s m #[Value.ref b] below meth c s.heap [] 0 0 (lw_Z below #[Value.ref b] s) (entryFrame m ([Value.ref b] : List Value).toArray 9) := by
  obtain ⟨hx, hb, hr, hml, hown, hts, hXs, hbl, hlocks, hgv⟩ := id C0
  have hs := flat_of_before _ hgv
  have hls : l.stackTraces = false := by unfold Launch.stackTraces; rw [hflags]; decide +kernel
  have hnA : ∀ a : Nat, a < s.heap.size → ¬ (fun q : Nat => s.heap.size ≤ q) a := fun a h => Nat.not_le.mpr h
  have C : CX p s m #[Value.ref b] meth c cL_law RL 9 ret := ⟨hx, hb, hml, hown, fun w h => hts w (List.mem_filter.mp h).1, hr, hlocks⟩
  obtain ⟨dC, dI, cI, cL, cJ, hK⟩ := EV_0 hts
  obtain ⟨g1, g2, hZ⟩ := ST_0 hts hs hnA
  have hX := XE_0 hts hs hnA
  have hN : va_Nw (.methodLinkNest RX2 33 yX0_init RX2) s := va_Nw.of rfl (hts _ tb_NE)
  have hO : va_AO RX1 s := va_AO.of (hts _ tb_AO)
  have hS : va_S (fun q : Nat => s.heap.size ≤ q) s.heap s.heap [] := va_S.rf
  have hA : ∀ q : Nat, s.heap.size ≤ q → (fun q : Nat => s.heap.size ≤ q) q := fun _ h => h
  have hP : va_P (dC, dI) vwCl [] s.heap := fun k q h => by cases h
  have hD : va_D (fun q : Nat => s.heap.size ≤ q) [] := ⟨fun i j p q h _ _ => (by cases h), fun k q h => (by cases h)⟩
  have hl := lv_entry [.ref b] (n := 9) (Nat.le_of_ble_eq_true rfl)
  rw [lg_entry_eq]
  suffices K : G p l e room_1 s m #[Value.ref b] below meth c s.heap [] 0 0 (lw_Z below #[Value.ref b] s) [some (.ref b), none, none, none, none, none, none, none, none] 0 [] from K _ hl
  refine g_newo (ci := 2) (T := TX2) (N := 6) C inX2 tyX2 tyX2_ok wk_L_8 wb_X2 wn_X2 hK hP hD hS hA rfl df_X2 (by decide) (by decide) dL_law_0 (fun o H hP hD hS => ?_)
  refine g_dup C rfl dL_law_3 ?_
  have hS8 := hS.1
  refine g_mI (As := []) C 0 rfl (c_X2_init (o := o) (sz := H.size)) wl_L_83 wi_X2_init wn_X2 wc_X2_init rfl (by decide +kernel) ⟨rfl, rfl, by decide, by decide⟩ (fun U g mk v h => ⟨h.1, h.2.1, va_K.moved (u := U) (U := U.calling g mk v) (Vm.Alike.refl U.vm) h.2.2.1, va_Nw.same (u := U) (U := U.calling g mk v) rfl rfl h.2.2.2.1, va_AO.moved (u := U) (U := U.calling g mk v) (Vm.Alike.refl U.vm) h.2.2.2.2⟩) (fun U hU hW => ⟨by rw [hU], by rw [hU]; exact P_r hP, va_K.moved hW.alike hK, va_Nw.warmM hW hN, va_AO.moved hW.alike hO⟩) rfl rfl (by simp [Value.category]) ⟨by decide, by decide⟩ hS (fun q h => h.elim (fun z => by subst z; exact (va_D_iff.mp hD).2 _ (List.mem_append_right _ List.mem_cons_self)) (fun z => Nat.le_trans hS.1 z)) dL_law_4 (fun H1 locs hP1 _ hk1 hS => ?_)
  obtain ⟨sa, ba, a, e0, t, sv, hP9, hD9⟩ := hP1
  obtain ⟨hP, hD⟩ := PD_init hP hD hP9 hD9 (fun q z => Nat.le_trans hS8 z) hk1
  replace hP : va_P (dC, dI) vwCl (BW cI cL o sa ba a e0 t 0 0 (svg sv) (fun _ => 0) 0 q_d0 1099511627775 (0, 0, 0, none, 0) sv) H1 := hP
  replace hD : va_D (fun q : Nat => s.heap.size ≤ q) (BW cI cL o sa ba a e0 t 0 0 (svg sv) (fun _ => 0) 0 q_d0 1099511627775 (0, 0, 0, none, 0) sv) := hD
  refine g_astore1 C rfl dL_law_7 ?_
  refine g_newo (ci := 3) (T := TX3) (N := 16) C inX3 tyX3 tyX3_ok wk_L_84 wb_X3 wn_X3 hK hP hD hS hA rfl df_X3 (by decide) (by decide) dL_law_8 (fun om H hP hD hS => ?_)
  refine g_dup C rfl dL_law_11 ?_
  have hS8 := hS.1
  refine g_mI (As := []) C 0 rfl (c_X3_init (o := om) (sz := H.size)) wl_L_86 wi_X3_init wn_X3 wc_X3_init rfl (by decide +kernel) ⟨rfl, rfl, by decide, by decide⟩ (fun U g mk v h => ⟨h.1, h.2.1, va_K.moved (u := U) (U := U.calling g mk v) (Vm.Alike.refl U.vm) h.2.2⟩) (fun U hU hW => ⟨by rw [hU], by rw [hU]; exact P_r hP, va_K.moved hW.alike hK⟩) rfl rfl (by simp [Value.category]) ⟨by decide, by decide⟩ hS (fun q h => h.elim (fun z => by subst z; exact (va_D_iff.mp hD).2 _ (List.mem_append_right _ List.mem_cons_self)) (fun z => Nat.le_trans hS.1 z)) dL_law_12 (fun H1 locs hP1 _ hk1 hS => ?_)
  obtain ⟨tm, hP9, hD9⟩ := hP1
  obtain ⟨hP, hD⟩ := PD_init hP hD hP9 hD9 (fun q z => Nat.le_trans hS8 z) hk1
  refine g_astore2 C rfl dL_law_15 ?_
  refine g_iconst C (nI 1) (by decide) dL_law_16 ?_
  refine g_newaL C hK hP hD hS hA (by decide) (by decide) (by decide) (by decide) dL_law_17 (fun oa H hP hD hS => ?_)
  refine g_astore3 C rfl dL_law_19 ?_
  refine g_iconst C (nI 0) (by decide) dL_law_20 ?_
  refine g_istore4 C rfl dL_law_21 ?_
  refine g_wd (k := 92) (n := 8073) (by decide) (by decide) ?_
  exact law_loop l hls hL C0 C hK hZ hX ⟨RLs_0, P_perm W_0 hP, D_perm W_0 hD, hS⟩
