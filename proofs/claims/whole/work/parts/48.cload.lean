theorem cr_take {tx : Nat → Nat} {k : Nat} {x x' : PS} {E E' : List QE} (h : q_rd tx k = some (x, E)) (h1 : q_rd tx (k + 1) = some (x', E')) : q_take x (tx k) = some x' := by
  cases ht : q_take x (tx k) with
  | none => rw [cr_f h ht] at h1; cases h1
  | some z => rw [cr_s h ht] at h1; cases h1; rfl
theorem cr_4 {x : PS} (h : PSr x) (h4 : x.1 = 4) (h0 : 0 < x.2.2.2.2) : ∃ rs fm w nm, x = (4, rs, fm, some w, nm) ∧ rs ≤ 1 ∧ fm ≤ 9 ∧ w < 40 ∧ 1 ≤ nm ∧ nm ≤ 50 ∧ (rs = 0 → nm ≤ 3) := by
  obtain ⟨⟨h1, h2, h3, h5, h6⟩, p1, p2, p3, p4, p5⟩ := h
  obtain ⟨w, hw⟩ := p3 h4
  obtain ⟨st, rs, fm, pl, nm⟩ := x
  simp only at h1 h2 h3 h4 h5 h6 h0 hw p5
  subst h4
  subst hw
  exact ⟨rs, fm, w, nm, rfl, h2, h3, h5 w rfl, h0, h6, p5⟩
theorem INV_ldE {d d2 : RW} {y : Int32} {rs fm w nm : Nat} (h2 : fm ≤ 9) (h3 : w < 40) (h4 : 1 ≤ nm) (h5 : rs = 0 → nm ≤ 3) (hki : INV d) (hy : nI 0 ≤ y) (h : q_ldE d y (rs, fm, w, nm) = some d2) : INV d2 := by
  by_cases h0 : rs = 0
  · subst h0
    have h5 := h5 rfl
    rw [q_ldE_b] at h
    split at h
    · rename_i hr
      cases h
      exact INV_addB hki hy (by omega) (by omega) (by omega) (by omega) (q_ref_kind hr)
    · cases h
  · rw [q_ldE_r h0] at h
    split at h
    · cases h
      exact INV_addR hki
    · cases h

set_option maxHeartbeats 4000000 in
set_option maxRecDepth 100000 in
theorem c_X2_carryOutEntries {l : Launch} {dC : Nat → ClassId} {dI : Nat → Nat → Nat} {cI cL cJ : ClassId} {g1 g2 : Nat} {A : Nat → Prop} {o sa ba a e : Nat} {t : Nat → Nat} {n len : Nat} {tx : Nat → Int32} {y : Int32} {d : RW} {x : PS} {sv : Nat → LO} {tn : Nat → Nat} (hl : len ≤ 60) (htx : ∀ j, j < len → tx j = nI (tn j) ∧ 33 ≤ tn j ∧ tn j ≤ 126) {L : List QE} (hw : q_whole tn len = some L) (hki : INV d) (hy : nI 0 ≤ y)  : Met l yX2_carryOutEntries (.code yX2_carryOutEntries cX2_carryOutEntries 3 (some .int) :: WG) (rmL 5) (va_Pc [.ref o] (BDM dC dI cI cL cJ g1 g2 A o sa ba a e t n len tx y d (q_rw d 0) x sv)) (bq_M (some (.int (nI (q_ldk d y L)))) (fun H => ∃ x' : PS, PSok x' ∧ BP dC dI cI cL A o sa ba a e t n len tx y (q_ldd d y L) (q_rw (q_ldd d y L) 0) x' sv H) A) 0 0 (A) := by
  refine bq_of [some (.ref o), none, none] rfl rfl (Nat.le_of_ble_eq_true rfl) (by decide) ?_
  intro P_ E_ s M_ B_ T_ K_ C hv
  obtain ⟨st, rs, fm, pl, nm⟩ := x
  obtain ⟨hP, hD, hK, hZ, hX⟩ := hv
  have hS : va_S A s.heap s.heap [] := va_S.rf
  obtain ⟨hlen0, hfst⟩ := cr_0 hw
  refine g_iconst C (nI 0) (by decide) dX2_carryOutEntries_0 ?_
  refine g_istore1 C rfl dX2_carryOutEntries_1 ?_
  refine g_aload0 C dX2_carryOutEntries_2 ?_
  refine g_get (ci := 2) (T := TX2) (N := 6) C inX2 hK hP 0 rfl rfl 5 (by decide) wf_X2_34 ⟨rfl, rfl, rfl⟩ rfl dX2_carryOutEntries_3 ?_
  refine g_mV (As := []) C 0 rfl (c_X0_startEntry) wl_X2_224 wi_X0_startEntry wv_X0_startEntry wn_X0 wc_X0_startEntry (by decide +kernel) ⟨rfl, rfl, by decide, by decide⟩ XDM_bl (va_recv (ci := 0) (q0 := 0) hK (P_x hP) rfl rfl) (XDM_at hK (P_x hP) (D_x hD)) rfl rfl (by simp [Value.category]) ⟨by decide, by decide⟩ hS (A_x hD) dX2_carryOutEntries_6 (fun H locs hP1 _ hk1 hS => ?_)
  obtain ⟨hP, hD⟩ := PD_x hP hD hP1 hk1
  refine g_iconst C (nI 0) (by decide) dX2_carryOutEntries_9 ?_
  refine g_istore2 C rfl dX2_carryOutEntries_10 ?_
  refine g_lpH (A1 := PS × RW × Nat × Nat) (fun u H locs => (u.2.2.2 < len → ∃ x1 E1, q_rd tn (u.2.2.2 + 1) = some (x1, E1) ∧ E1.length = u.2.2.1) ∧ (u.2.2.2 = len → u.2.2.1 = L.length) ∧ (∃ E, q_rd tn u.2.2.2 = some (u.1, E)) ∧ u.2.2.2 ≤ len ∧ u.2.2.1 ≤ L.length ∧ q_ldn d y L u.2.2.1 = some u.2.1 ∧ INV u.2.1 ∧ va_P (dC, dI) vwCl (BW cI cL o sa ba a e t n len (svg sv) tx y u.2.1 (q_rw u.2.1 0) u.1 sv) H ∧ va_D A (BW cI cL o sa ba a e t n len (svg sv) tx y u.2.1 (q_rw u.2.1 0) u.1 sv) ∧ va_S A s.heap H locs) (fun u => len - u.2.2.2) (fun u => [some (.ref o), some (.int (nI u.2.2.1)), some (.int (nI u.2.2.2))]) ((0, 0, 0, none, 0), d, 0, 0) ⟨fun _ => hfst, fun z => absurd z (by show ¬ 0 = len; omega), ⟨[], rfl⟩, Nat.zero_le _, Nat.zero_le _, rfl, hki, hP, hD, hS⟩ rfl ?_
  rintro ⟨⟨st, rs, fm, pl, nm⟩, d2, j, k⟩ H locs ⟨hnx, hend, ⟨E, hrd⟩, hk, hj, hld, hki2, hP, hD, hS⟩ ih
  try dsimp only at hnx hend hrd hk hj hld hki2 hP hD hS ih ⊢
  have hx9 : PSok (st, rs, fm, pl, nm) := (q_rd_ok k _ E hrd).1.1
  have hL12 := (q_whole_ok hl hw).1
  refine g_iload2 C dX2_carryOutEntries_11 ?_
  refine g_aload0 C dX2_carryOutEntries_12 ?_
  refine g_get (ci := 2) (T := TX2) (N := 6) C inX2 hK hP 0 rfl rfl 4 (by decide) wf_X2_28 ⟨rfl, rfl, rfl⟩ rfl dX2_carryOutEntries_13 ?_
  refine g_icmp_geN C (by omega) (by omega) 80 dX2_carryOutEntries_16 (by decide) (fun h16 => ?_) (fun h16 => ?_)
  · refine g_iload1 C dX2_carryOutEntries_80 ?_
    obtain ⟨z1, z2⟩ := q_ld_end hj hld (Or.inl (hend (by omega)))
    rw [z1, z2]
    exact g_iretM C ⟨(st, rs, fm, pl, nm), hx9, hP, hD⟩ hS rfl dX2_carryOutEntries_81
  · refine g_iload2 C dX2_carryOutEntries_19 ?_
    refine g_bipush C (nI 60) (by decide) dX2_carryOutEntries_20 ?_
    refine g_icmp_geN C (by omega) (by omega) 80 dX2_carryOutEntries_22 (by decide) (fun h22 => ?_) (fun h22 => ?_)
    · omega
    · obtain ⟨xx, EE, c1, c2, c3, c4⟩ := cr_list hw h16
      obtain ⟨x1, E1, n1, hEj⟩ := hnx h16
      rw [c1] at n1
      cases n1
      have htk := cr_take hrd c1
      refine g_aload0 C dX2_carryOutEntries_25 ?_
      refine g_get (ci := 2) (T := TX2) (N := 6) C inX2 hK hP 0 rfl rfl 5 (by decide) wf_X2_34 ⟨rfl, rfl, rfl⟩ rfl dX2_carryOutEntries_26 ?_
      refine g_aload0 C dX2_carryOutEntries_29 ?_
      refine g_get (ci := 2) (T := TX2) (N := 6) C inX2 hK hP 0 rfl rfl 3 (by decide) wf_X2_24 ⟨rfl, rfl, rfl⟩ rfl dX2_carryOutEntries_30 ?_
      refine g_iload2 C dX2_carryOutEntries_33 ?_
      refine g_iald C hK hP 2 0 rfl rfl (by omega) (by decide) dX2_carryOutEntries_34 ?_
      obtain ⟨ht1, ht2, ht3⟩ := htx k (by omega)
      rw [ht1]
      refine g_mV (As := [.int (nI (tn k))]) C 1 rfl (c_X0_take hx9 (by omega)) wl_X2_227 wi_X0_take wv_X0_take wn_X0 wc_X0_take (by decide +kernel) ⟨rfl, rfl, by decide, by decide⟩ XDM_bl (va_recv (ci := 0) (q0 := 0) hK (P_x hP) rfl rfl) (XDM_at hK (P_x hP) (D_x hD)) rfl rfl (by simp [Value.category]) ⟨by decide, by decide⟩ hS (A_x hD) dX2_carryOutEntries_35 (fun H locs hP1 _ hk1 hS => ?_)
      obtain ⟨hP, hD⟩ := PD_x hP hD hP1 hk1
      rw [htk] at hP hD
      replace hP : va_P (dC, dI) vwCl (BW cI cL o sa ba a e t n len (svg sv) tx y d2 (q_rw d2 0) xx sv) H := hP
      replace hD : va_D A (BW cI cL o sa ba a e t n len (svg sv) tx y d2 (q_rw d2 0) xx sv) := hD
      refine g_pop C rfl dX2_carryOutEntries_38 ?_
      refine g_iload2 C dX2_carryOutEntries_39 ?_
      refine g_iconst C (nI 1) (by decide) dX2_carryOutEntries_40 ?_
      refine g_iaddN C dX2_carryOutEntries_41 ?_
      refine g_aload0 C dX2_carryOutEntries_42 ?_
      refine g_get (ci := 2) (T := TX2) (N := 6) C inX2 hK hP 0 rfl rfl 4 (by decide) wf_X2_28 ⟨rfl, rfl, rfl⟩ rfl dX2_carryOutEntries_43 ?_
      refine g_icmp_eqN C (by omega) (by omega) 62 dX2_carryOutEntries_46 (by decide) (fun h46 => ?_) (fun h46 => ?_)
      · obtain ⟨c31, c32, c33, c34, c35⟩ := c3 (Or.inl h46)
        rw [hEj] at c33
        obtain ⟨rs, fm, w, nm, rfl, hx1, hx2, hx3, hx4, hx5, hx6⟩ := cr_4 c2 c31 c32
        replace c33 : L[j]? = some (rs, fm, w, nm) := c33
        refine g_aload0 C dX2_carryOutEntries_62 ?_
        refine g_mV (As := []) C 0 rfl ((c_X2_carryOutEntry hx1 hx2 hx3 hx4 hx5 hx6 hki2)) wl_X2_230 wi_X2_carryOutEntry wv_X2_carryOutEntry wn_X2 wc_X2_carryOutEntry (by decide +kernel) ⟨rfl, rfl, by decide, by decide⟩ BDM_bl (va_recv (ci := 2) (q0 := 0) hK hP rfl rfl) (BDM_at hK hP hD hZ hX hS (fun _ h => h)) rfl rfl (by simp [Value.category]) ⟨by decide, by decide⟩ hS (fun _ h => h) dX2_carryOutEntries_63 (fun H locs hP1 _ _ hS => ?_)
        obtain ⟨hP, hD⟩ := hP1
        refine g_if_neB C 71 dX2_carryOutEntries_66 (by decide) (fun h66 => ?_) (fun h66 => ?_)
        · refine g_iinc1 C _ rfl dX2_carryOutEntries_71 (nI_1 _) ?_
          refine g_iinc2 C _ rfl dX2_carryOutEntries_74 (nI_1 _) ?_
          refine g_goto C 11 dX2_carryOutEntries_77 (by decide) ?_
          obtain ⟨d3, hd3⟩ := Option.isSome_iff_exists.mp h66
          rw [hd3] at hP hD
          exact ih ((4, rs, fm, some w, nm), d3, j + 1, k + 1) H locs ⟨fun z => by obtain ⟨q1, q2, q3, q4⟩ := c35 z; exact ⟨q1, q2, q3, by rw [q4, hEj]⟩, fun z => by have := c34 z; show j + 1 = L.length; omega, ⟨EE, c1⟩, by show k + 1 ≤ len; omega, (List.getElem?_eq_some_iff.mp c33).1, (q_ldn_s hld c33).trans hd3, INV_ldE hx2 hx3 hx4 hx6 hki2 hy hd3, hP, hD, hS⟩ (by show len - (k + 1) < len - k; omega)
        · have hn2 := Option.not_isSome_iff_eq_none.mp h66
          rw [hn2] at hP hD
          obtain ⟨z1, z2⟩ := q_ld_end hj hld (Or.inr ((q_ldn_s hld c33).trans hn2))
          rw [z1, z2]
          refine g_iload1 C dX2_carryOutEntries_69 ?_
          exact g_iretM C ⟨_, c2.1, hP, hD⟩ hS rfl dX2_carryOutEntries_70
      · refine g_aload0 C dX2_carryOutEntries_49 ?_
        refine g_get (ci := 2) (T := TX2) (N := 6) C inX2 hK hP 0 rfl rfl 3 (by decide) wf_X2_24 ⟨rfl, rfl, rfl⟩ rfl dX2_carryOutEntries_50 ?_
        refine g_iload2 C dX2_carryOutEntries_53 ?_
        refine g_iconst C (nI 1) (by decide) dX2_carryOutEntries_54 ?_
        refine g_iaddN C dX2_carryOutEntries_55 ?_
        refine g_iald C hK hP 2 0 rfl rfl (by omega) (by decide) dX2_carryOutEntries_56 ?_
        obtain ⟨hu1, hu2, hu3⟩ := htx (k + 1) (by omega)
        rw [hu1]
        refine g_bipush C (nI 59) (by decide) dX2_carryOutEntries_57 ?_
        refine g_icmp_neN C (by omega) (by omega) 74 dX2_carryOutEntries_59 (by decide) (fun h59 => ?_) (fun h59 => ?_)
        · refine g_iinc2 C _ rfl dX2_carryOutEntries_74 (nI_1 _) ?_
          refine g_goto C 11 dX2_carryOutEntries_77 (by decide) ?_
          exact ih (xx, d2, j, k + 1) H locs ⟨fun z => by obtain ⟨q1, q2, q3, q4⟩ := c4 z h59; exact ⟨q1, q2, q3, q4.trans hEj⟩, fun z => by change k + 1 = len at z; omega, ⟨EE, c1⟩, by show k + 1 ≤ len; omega, hj, hld, hki2, hP, hD, hS⟩ (by show len - (k + 1) < len - k; omega)
        · obtain ⟨c31, c32, c33, c34, c35⟩ := c3 (Or.inr h59)
          rw [hEj] at c33
          obtain ⟨rs, fm, w, nm, rfl, hx1, hx2, hx3, hx4, hx5, hx6⟩ := cr_4 c2 c31 c32
          replace c33 : L[j]? = some (rs, fm, w, nm) := c33
          refine g_aload0 C dX2_carryOutEntries_62 ?_
          refine g_mV (As := []) C 0 rfl ((c_X2_carryOutEntry hx1 hx2 hx3 hx4 hx5 hx6 hki2)) wl_X2_230 wi_X2_carryOutEntry wv_X2_carryOutEntry wn_X2 wc_X2_carryOutEntry (by decide +kernel) ⟨rfl, rfl, by decide, by decide⟩ BDM_bl (va_recv (ci := 2) (q0 := 0) hK hP rfl rfl) (BDM_at hK hP hD hZ hX hS (fun _ h => h)) rfl rfl (by simp [Value.category]) ⟨by decide, by decide⟩ hS (fun _ h => h) dX2_carryOutEntries_63 (fun H locs hP1 _ _ hS => ?_)
          obtain ⟨hP, hD⟩ := hP1
          refine g_if_neB C 71 dX2_carryOutEntries_66 (by decide) (fun h66 => ?_) (fun h66 => ?_)
          · refine g_iinc1 C _ rfl dX2_carryOutEntries_71 (nI_1 _) ?_
            refine g_iinc2 C _ rfl dX2_carryOutEntries_74 (nI_1 _) ?_
            refine g_goto C 11 dX2_carryOutEntries_77 (by decide) ?_
            obtain ⟨d3, hd3⟩ := Option.isSome_iff_exists.mp h66
            rw [hd3] at hP hD
            exact ih ((4, rs, fm, some w, nm), d3, j + 1, k + 1) H locs ⟨fun z => by obtain ⟨q1, q2, q3, q4⟩ := c35 z; exact ⟨q1, q2, q3, by rw [q4, hEj]⟩, fun z => by have := c34 z; show j + 1 = L.length; omega, ⟨EE, c1⟩, by show k + 1 ≤ len; omega, (List.getElem?_eq_some_iff.mp c33).1, (q_ldn_s hld c33).trans hd3, INV_ldE hx2 hx3 hx4 hx6 hki2 hy hd3, hP, hD, hS⟩ (by show len - (k + 1) < len - k; omega)
          · have hn2 := Option.not_isSome_iff_eq_none.mp h66
            rw [hn2] at hP hD
            obtain ⟨z1, z2⟩ := q_ld_end hj hld (Or.inr ((q_ldn_s hld c33).trans hn2))
            rw [z1, z2]
            refine g_iload1 C dX2_carryOutEntries_69 ?_
            exact g_iretM C ⟨_, c2.1, hP, hD⟩ hS rfl dX2_carryOutEntries_70

set_option maxHeartbeats 4000000 in
set_option maxRecDepth 100000 in
theorem c_X2_load {l : Launch} {dC : Nat → ClassId} {dI : Nat → Nat → Nat} {cI cL cJ : ClassId} {g1 g2 : Nat} {A : Nat → Prop} {o sa ba a e : Nat} {t : Nat → Nat} {n len : Nat} {tx : Nat → Int32} {y : Int32} {d : RW} {x : PS} {sv : Nat → LO} (hls : l.stackTraces = false) {tn : Nat → Nat} (hl : len ≤ 60) (htx : ∀ j, j < len → tx j = nI (tn j) ∧ 33 ≤ tn j ∧ tn j ≤ 126) (hn : n ≤ 6) (hki : INV d) (hy : nI 0 ≤ y)  : vx_Met l yX2_load (.code yX2_load cX2_load 2 (some .int) :: WG) (rmC 7 4 24) (va_Pc [.ref o] (BDM dC dI cI cL cJ g1 g2 A o sa ba a e t n len tx y d (q_rw d 0) x sv)) (bx_Q (k_ld tn len) (some (.int (nI (q_ldk d y ((q_whole tn len).getD []))))) (fun H => ∃ x' : PS, PSok x' ∧ BP dC dI cI cL A o sa ba a e t (min (n + 1) 6) 0 tx y (q_ldd d y ((q_whole tn len).getD [])) (q_rw (q_ldd d y ((q_whole tn len).getD [])) 0) x' (sv_save sv n y d (q_rw d 0)) H) A) (bx_C (fun _ => XIA) (k_ld tn len) (fun H => ∃ x' : PS, PSok x' ∧ BP dC dI cI cL A o sa ba a e t n len tx y d (q_rw d 0) x' sv H) A) 4 24 (A) := by
  refine bx_of [some (.ref o), none] rfl rfl (Nat.le_of_ble_eq_true rfl) (by decide) ?_
  intro P_ E_ s M_ B_ T_ K_ C hT hv
  obtain ⟨hP, hD, hK, hZ, hX⟩ := hv
  have hS : va_S A s.heap s.heap [] := va_S.rf
  refine g_aload0 C dX2_load_0 ?_
  refine g_mV (As := []) C 0 rfl ((c_X2_errorIndex hl htx)) wl_X2_130 wi_X2_errorIndex wv_X2_errorIndex wn_X2 wc_X2_errorIndex (by decide +kernel) ⟨rfl, rfl, by decide, by decide⟩ BDM_bl (va_recv (ci := 2) (q0 := 0) hK hP rfl rfl) (BDM_at hK hP hD hZ hX hS (fun _ h => h)) rfl rfl (by simp [Value.category]) ⟨by decide, by decide⟩ hS (fun _ h => h) dX2_load_1 (fun H locs hP1 _ _ hS => ?_)
  obtain ⟨⟨st, rs, fm, pl, nm⟩, hx2, hE, hP, hD⟩ := hP1
  have hft := cr_ft (tx := tn) len
  refine g_aload0 C dX2_load_4 ?_
  refine g_get (ci := 2) (T := TX2) (N := 6) C inX2 hK hP 0 rfl rfl 4 (by decide) wf_X2_28 ⟨rfl, rfl, rfl⟩ rfl dX2_load_5 ?_
  refine g_icmp_ltN C (by omega) (by omega) 21 dX2_load_8 (by decide) (fun h8 => ?_) (fun h8 => ?_)
  · have hk : k_ld tn len = 1 := by unfold k_ld; rw [cr_none h8]; rfl
    exact g_thrIA C hT hls hX hS (List.mem_of_getElem? (i := 11) rfl) rfl dX2_load_21 dX2_load_24 dX2_load_25 dX2_load_27 dX2_load_30 ⟨by decide, by decide, by decide, by decide⟩ ⟨by decide, by decide⟩ (by rw [hk]; decide) (by first | (rw [hk]; rfl) | rfl) (fun t hz hkk => ⟨_, hx2, P_kept hP hkk, hD⟩) (fun _ h => h) hS.2.2
  · obtain ⟨E, hrd⟩ := hE (by omega)
    refine g_aload0 C dX2_load_11 ?_
    refine g_get (ci := 2) (T := TX2) (N := 6) C inX2 hK hP 0 rfl rfl 5 (by decide) wf_X2_34 ⟨rfl, rfl, rfl⟩ rfl dX2_load_12 ?_
    refine g_pcN (As := []) C 0 rfl (c_X0_isComplete hx2) wl_X2_133 wi_X0_isComplete wv_X0_isComplete wn_X0 wc_X0_isComplete (by decide +kernel) ⟨rfl, rfl, by decide, by decide⟩ XDM_bl (va_recv (ci := 0) (q0 := 0) hK (P_x hP) rfl rfl) (XDM_at hK (P_x hP) (D_x hD)) rfl rfl (by simp [Value.category]) ⟨by decide, by decide⟩ dX2_load_15 ?_
    refine g_if_neB C 31 dX2_load_18 (by decide) (fun h18 => ?_) (fun h18 => ?_)
    · have hw := cr_yes hrd h18
      refine g_aload0 C dX2_load_31 ?_
      refine g_mV (As := []) C 0 rfl ((c_X2_save hn)) wl_X2_63 wi_X2_save wv_X2_save wn_X2 wc_X2_save (by decide +kernel) ⟨rfl, rfl, by decide, by decide⟩ BDM_bl (va_recv (ci := 2) (q0 := 0) hK hP rfl rfl) (BDM_at hK hP hD hZ hX hS (fun _ h => h)) rfl rfl (by simp [Value.category]) ⟨by decide, by decide⟩ hS (fun _ h => h) dX2_load_32 (fun H locs hP1 _ _ hS => ?_)
      obtain ⟨hP, hD⟩ := hP1
      refine g_aload0 C dX2_load_35 ?_
      refine g_mV (As := []) C 0 rfl ((c_X2_carryOutEntries hl htx hw hki hy)) wl_X2_139 wi_X2_carryOutEntries wv_X2_carryOutEntries wn_X2 wc_X2_carryOutEntries (by decide +kernel) ⟨rfl, rfl, by decide, by decide⟩ BDM_bl (va_recv (ci := 2) (q0 := 0) hK hP rfl rfl) (BDM_at hK hP hD hZ hX hS (fun _ h => h)) rfl rfl (by simp [Value.category]) ⟨by decide, by decide⟩ hS (fun _ h => h) dX2_load_36 (fun H locs hP1 _ _ hS => ?_)
      obtain ⟨x9, hx9, hP, hD⟩ := hP1
      refine g_istore1 C rfl dX2_load_39 ?_
      refine g_aload0 C dX2_load_40 ?_
      refine g_iconst C (nI 0) (by decide) dX2_load_41 ?_
      refine g_put (ci := 2) (T := TX2) (N := 6) C inX2 tyX2 tyX2_ok nmX2 hK hP hD hS 0 rfl rfl 4 (by decide) wf_X2_28 ⟨rfl, rfl, rfl⟩ rfl rfl rfl (Nat.le_of_ble_eq_true rfl) dX2_load_42 (fun H locs hP hD hS => ?_)
      refine g_iload1 C dX2_load_45 ?_
      have hk : k_ld tn len = 0 := by unfold k_ld; rw [hw]; rfl
      refine g_wd (k := 4) (n := 24) (by decide) (by decide) ?_
      exact g_xiret C hk (by rw [hw]; exact ⟨x9, hx9, hP, hD⟩) hS (by rw [hw]; rfl) dX2_load_46
    · have hk : k_ld tn len = 1 := by unfold k_ld; rw [cr_no hrd h18]; rfl
      exact g_thrIA C hT hls hX hS (List.mem_of_getElem? (i := 11) rfl) rfl dX2_load_21 dX2_load_24 dX2_load_25 dX2_load_27 dX2_load_30 ⟨by decide, by decide, by decide, by decide⟩ ⟨by decide, by decide⟩ (by rw [hk]; decide) (by first | (rw [hk]; rfl) | rfl) (fun t hz hkk => ⟨_, hx2, P_kept hP hkk, hD⟩) (fun _ h => h) hS.2.2
