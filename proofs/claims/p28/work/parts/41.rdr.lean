set_option maxHeartbeats 4000000 in
set_option maxRecDepth 100000 in
theorem c_X0_init {l : Launch} {dC : Nat → ClassId} {dI : Nat → Nat → Nat} {cI cL cJ : ClassId} {e : Nat}  : Met l yX0_init (.code yX0_init cX0_init 1 none :: WG) (rmC 1 0 0) (va_Pc [.ref e] (fun U => va_P (dC, dI) vwCl [(e, .inr (0, [.int 0, .int 0, .int 0, .int 0, .int 0]))] U.heap ∧ va_D (fun q => q = e) [(e, .inr (0, [.int 0, .int 0, .int 0, .int 0, .int 0]))] ∧ EV dC dI cI cL cJ U)) (bq_M none (fun H => va_P (dC, dI) vwCl (XW e (0, 0, 0, none, 0)) H) (fun q => q = e)) 0 0 ((fun q => q = e)) := by
  refine bq_ofN [some (.ref e)] rfl rfl (Nat.le_of_ble_eq_true rfl) (by decide) ?_
  intro P_ E_ s M_ B_ T_ K_ C hnm hv
  obtain ⟨hP, hD, hK⟩ := hv
  have hS : va_S (fun q => q = e) s.heap s.heap [] := va_S.rf
  refine g_aload0 C dX0_init_0 ?_
  refine g_objInit C wl_X0_3 wi_Object__init__a7 wc_Object__init__a7 rfl ⟨by decide, by simp [rmC, Value.category]⟩ dX0_init_1 ?_
  refine g_aload0 C dX0_init_4 ?_
  refine g_iconst C (nI 0) (by decide) dX0_init_5 ?_
  refine g_put (ci := 0) (T := TX0) (N := 5) C inX0 tyX0 tyX0_ok nmX0 hK hP hD hS 0 rfl rfl 0 (by decide) wf_X0_11 ⟨rfl, rfl, rfl⟩ rfl rfl rfl (Nat.le_of_ble_eq_true rfl) dX0_init_6 (fun H locs hP hD hS => ?_)
  refine g_aload0 C dX0_init_9 ?_
  refine g_iconst C (nI 0) (by decide) dX0_init_10 ?_
  refine g_put (ci := 0) (T := TX0) (N := 5) C inX0 tyX0 tyX0_ok nmX0 hK hP hD hS 0 rfl rfl 1 (by decide) wf_X0_15 ⟨rfl, rfl, rfl⟩ rfl rfl rfl (Nat.le_of_ble_eq_true rfl) dX0_init_11 (fun H locs hP hD hS => ?_)
  refine g_aload0 C dX0_init_14 ?_
  refine g_iconst C (nI 0) (by decide) dX0_init_15 ?_
  refine g_put (ci := 0) (T := TX0) (N := 5) C inX0 tyX0 tyX0_ok nmX0 hK hP hD hS 0 rfl rfl 2 (by decide) wf_X0_19 ⟨rfl, rfl, rfl⟩ rfl rfl rfl (Nat.le_of_ble_eq_true rfl) dX0_init_16 (fun H locs hP hD hS => ?_)
  refine g_aload0 C dX0_init_19 ?_
  refine g_iconst C (-1) (by decide) dX0_init_20 ?_
  refine g_put (ci := 0) (T := TX0) (N := 5) C inX0 tyX0 tyX0_ok nmX0 hK hP hD hS 0 rfl rfl 3 (by decide) wf_X0_22 ⟨rfl, rfl, rfl⟩ rfl rfl rfl (Nat.le_of_ble_eq_true rfl) dX0_init_21 (fun H locs hP hD hS => ?_)
  refine g_aload0 C dX0_init_24 ?_
  refine g_iconst C (nI 0) (by decide) dX0_init_25 ?_
  refine g_put (ci := 0) (T := TX0) (N := 5) C inX0 tyX0 tyX0_ok nmX0 hK hP hD hS 0 rfl rfl 4 (by decide) wf_X0_25 ⟨rfl, rfl, rfl⟩ rfl rfl rfl (Nat.le_of_ble_eq_true rfl) dX0_init_26 (fun H locs hP hD hS => ?_)
  exact g_vretM C hP hS dX0_init_29
