set_option maxHeartbeats 4000000 in
set_option maxRecDepth 100000 in
theorem c_X1_copyFrom {l : Launch} {dC : Nat → ClassId} {dI : Nat → Nat → Nat} {cI cL cJ : ClassId} {a : Nat} {t : Nat → Nat} {y : Int32} {d : RW} {r : Int64} {a2 : Nat} {t2 : Nat → Nat} {y2 : Int32} {d2 : RW} {r2 : Int64}  : Met l yX1_copyFrom (.code yX1_copyFrom cX1_copyFrom 2 none :: WG) (rmL 1) (va_Pc [.ref a, .ref a2] (LD2 dC dI cI cL cJ a t y d r a2 t2 y2 d2 r2)) (bq_M none (fun H => va_P (dC, dI) vwCl (LW cI a t y2 d2 r2 ++ LW cI a2 t2 y2 d2 r2) H) (fun q => q ∈ LA a t ++ LA a2 t2)) 0 0 ((fun q => q ∈ LA a t ++ LA a2 t2)) := by
  refine bq_of [some (.ref a), some (.ref a2)] rfl rfl (Nat.le_of_ble_eq_true rfl) (by decide) ?_
  intro P_ E_ s M_ B_ T_ K_ C hv
  obtain ⟨hP, hD, hK⟩ := hv
  have hS : va_S (fun q => q ∈ LA a t ++ LA a2 t2) s.heap s.heap [] := va_S.rf
  refine g_aload0 C dX1_copyFrom_0 ?_
  refine g_aload1 C dX1_copyFrom_1 ?_
  refine g_get (ci := 1) (T := TX1) (N := 12) C inX1 hK hP 11 rfl rfl 0 (by decide) wf_X1_9 ⟨rfl, rfl, rfl⟩ rfl dX1_copyFrom_2 ?_
  refine g_put (ci := 1) (T := TX1) (N := 12) C inX1 tyX1 tyX1_ok nmX1 hK hP hD hS 0 rfl rfl 0 (by decide) wf_X1_9 ⟨rfl, rfl, rfl⟩ rfl rfl rfl (Nat.le_of_ble_eq_true rfl) dX1_copyFrom_5 (fun H locs hP hD hS => ?_)
  refine g_aload1 C dX1_copyFrom_8 ?_
  refine g_get (ci := 1) (T := TX1) (N := 12) C inX1 hK hP 11 rfl rfl 1 (by decide) wf_X1_15 ⟨rfl, rfl, rfl⟩ rfl dX1_copyFrom_9 ?_
  refine g_iconst C (nI 0) (by decide) dX1_copyFrom_12 ?_
  refine g_aload0 C dX1_copyFrom_13 ?_
  refine g_get (ci := 1) (T := TX1) (N := 12) C inX1 hK hP 0 rfl rfl 1 (by decide) wf_X1_15 ⟨rfl, rfl, rfl⟩ rfl dX1_copyFrom_14 ?_
  refine g_iconst C (nI 0) (by decide) dX1_copyFrom_17 ?_
  refine g_bipush C (nI 10) (by decide) dX1_copyFrom_18 ?_
  refine g_acopy C wl_X1_52 wt_System_arraycopy_e82 wn_J10 (C.2.2.2.2.1 _ wz_System_arraycopy_e82) hK hP hD hS 12 1 0 rfl rfl rfl (by decide) rfl ⟨by decide, by decide⟩ dX1_copyFrom_20 (fun H locs hP hD hS => ?_)
  refine g_aload1 C dX1_copyFrom_23 ?_
  refine g_get (ci := 1) (T := TX1) (N := 12) C inX1 hK hP 11 rfl rfl 2 (by decide) wf_X1_19 ⟨rfl, rfl, rfl⟩ rfl dX1_copyFrom_24 ?_
  refine g_iconst C (nI 0) (by decide) dX1_copyFrom_27 ?_
  refine g_aload0 C dX1_copyFrom_28 ?_
  refine g_get (ci := 1) (T := TX1) (N := 12) C inX1 hK hP 0 rfl rfl 2 (by decide) wf_X1_19 ⟨rfl, rfl, rfl⟩ rfl dX1_copyFrom_29 ?_
  refine g_iconst C (nI 0) (by decide) dX1_copyFrom_32 ?_
  refine g_bipush C (nI 10) (by decide) dX1_copyFrom_33 ?_
  refine g_acopy C wl_X1_52 wt_System_arraycopy_e82 wn_J10 (C.2.2.2.2.1 _ wz_System_arraycopy_e82) hK hP hD hS 13 2 0 rfl rfl rfl (by decide) rfl ⟨by decide, by decide⟩ dX1_copyFrom_35 (fun H locs hP hD hS => ?_)
  refine g_aload1 C dX1_copyFrom_38 ?_
  refine g_get (ci := 1) (T := TX1) (N := 12) C inX1 hK hP 11 rfl rfl 3 (by decide) wf_X1_22 ⟨rfl, rfl, rfl⟩ rfl dX1_copyFrom_39 ?_
  refine g_iconst C (nI 0) (by decide) dX1_copyFrom_42 ?_
  refine g_aload0 C dX1_copyFrom_43 ?_
  refine g_get (ci := 1) (T := TX1) (N := 12) C inX1 hK hP 0 rfl rfl 3 (by decide) wf_X1_22 ⟨rfl, rfl, rfl⟩ rfl dX1_copyFrom_44 ?_
  refine g_iconst C (nI 0) (by decide) dX1_copyFrom_47 ?_
  refine g_bipush C (nI 10) (by decide) dX1_copyFrom_48 ?_
  refine g_acopy C wl_X1_52 wt_System_arraycopy_e82 wn_J10 (C.2.2.2.2.1 _ wz_System_arraycopy_e82) hK hP hD hS 14 3 0 rfl rfl rfl (by decide) rfl ⟨by decide, by decide⟩ dX1_copyFrom_50 (fun H locs hP hD hS => ?_)
  refine g_aload1 C dX1_copyFrom_53 ?_
  refine g_get (ci := 1) (T := TX1) (N := 12) C inX1 hK hP 11 rfl rfl 4 (by decide) wf_X1_25 ⟨rfl, rfl, rfl⟩ rfl dX1_copyFrom_54 ?_
  refine g_iconst C (nI 0) (by decide) dX1_copyFrom_57 ?_
  refine g_aload0 C dX1_copyFrom_58 ?_
  refine g_get (ci := 1) (T := TX1) (N := 12) C inX1 hK hP 0 rfl rfl 4 (by decide) wf_X1_25 ⟨rfl, rfl, rfl⟩ rfl dX1_copyFrom_59 ?_
  refine g_iconst C (nI 0) (by decide) dX1_copyFrom_62 ?_
  refine g_bipush C (nI 40) (by decide) dX1_copyFrom_63 ?_
  refine g_acopy C wl_X1_52 wt_System_arraycopy_e82 wn_J10 (C.2.2.2.2.1 _ wz_System_arraycopy_e82) hK hP hD hS 15 4 0 rfl rfl rfl (by decide) rfl ⟨by decide, by decide⟩ dX1_copyFrom_65 (fun H locs hP hD hS => ?_)
  refine g_aload1 C dX1_copyFrom_68 ?_
  refine g_get (ci := 1) (T := TX1) (N := 12) C inX1 hK hP 11 rfl rfl 5 (by decide) wf_X1_28 ⟨rfl, rfl, rfl⟩ rfl dX1_copyFrom_69 ?_
  refine g_iconst C (nI 0) (by decide) dX1_copyFrom_72 ?_
  refine g_aload0 C dX1_copyFrom_73 ?_
  refine g_get (ci := 1) (T := TX1) (N := 12) C inX1 hK hP 0 rfl rfl 5 (by decide) wf_X1_28 ⟨rfl, rfl, rfl⟩ rfl dX1_copyFrom_74 ?_
  refine g_iconst C (nI 0) (by decide) dX1_copyFrom_77 ?_
  refine g_bipush C (nI 40) (by decide) dX1_copyFrom_78 ?_
  refine g_acopy C wl_X1_52 wt_System_arraycopy_e82 wn_J10 (C.2.2.2.2.1 _ wz_System_arraycopy_e82) hK hP hD hS 16 5 0 rfl rfl rfl (by decide) rfl ⟨by decide, by decide⟩ dX1_copyFrom_80 (fun H locs hP hD hS => ?_)
  refine g_aload1 C dX1_copyFrom_83 ?_
  refine g_get (ci := 1) (T := TX1) (N := 12) C inX1 hK hP 11 rfl rfl 6 (by decide) wf_X1_31 ⟨rfl, rfl, rfl⟩ rfl dX1_copyFrom_84 ?_
  refine g_iconst C (nI 0) (by decide) dX1_copyFrom_87 ?_
  refine g_aload0 C dX1_copyFrom_88 ?_
  refine g_get (ci := 1) (T := TX1) (N := 12) C inX1 hK hP 0 rfl rfl 6 (by decide) wf_X1_31 ⟨rfl, rfl, rfl⟩ rfl dX1_copyFrom_89 ?_
  refine g_iconst C (nI 0) (by decide) dX1_copyFrom_92 ?_
  refine g_bipush C (nI 40) (by decide) dX1_copyFrom_93 ?_
  refine g_acopy C wl_X1_52 wt_System_arraycopy_e82 wn_J10 (C.2.2.2.2.1 _ wz_System_arraycopy_e82) hK hP hD hS 17 6 0 rfl rfl rfl (by decide) rfl ⟨by decide, by decide⟩ dX1_copyFrom_95 (fun H locs hP hD hS => ?_)
  refine g_aload1 C dX1_copyFrom_98 ?_
  refine g_get (ci := 1) (T := TX1) (N := 12) C inX1 hK hP 11 rfl rfl 7 (by decide) wf_X1_34 ⟨rfl, rfl, rfl⟩ rfl dX1_copyFrom_99 ?_
  refine g_iconst C (nI 0) (by decide) dX1_copyFrom_102 ?_
  refine g_aload0 C dX1_copyFrom_103 ?_
  refine g_get (ci := 1) (T := TX1) (N := 12) C inX1 hK hP 0 rfl rfl 7 (by decide) wf_X1_34 ⟨rfl, rfl, rfl⟩ rfl dX1_copyFrom_104 ?_
  refine g_iconst C (nI 0) (by decide) dX1_copyFrom_107 ?_
  refine g_bipush C (nI 40) (by decide) dX1_copyFrom_108 ?_
  refine g_acopy C wl_X1_52 wt_System_arraycopy_e82 wn_J10 (C.2.2.2.2.1 _ wz_System_arraycopy_e82) hK hP hD hS 18 7 0 rfl rfl rfl (by decide) rfl ⟨by decide, by decide⟩ dX1_copyFrom_110 (fun H locs hP hD hS => ?_)
  refine g_aload1 C dX1_copyFrom_113 ?_
  refine g_get (ci := 1) (T := TX1) (N := 12) C inX1 hK hP 11 rfl rfl 8 (by decide) wf_X1_37 ⟨rfl, rfl, rfl⟩ rfl dX1_copyFrom_114 ?_
  refine g_iconst C (nI 0) (by decide) dX1_copyFrom_117 ?_
  refine g_aload0 C dX1_copyFrom_118 ?_
  refine g_get (ci := 1) (T := TX1) (N := 12) C inX1 hK hP 0 rfl rfl 8 (by decide) wf_X1_37 ⟨rfl, rfl, rfl⟩ rfl dX1_copyFrom_119 ?_
  refine g_iconst C (nI 0) (by decide) dX1_copyFrom_122 ?_
  refine g_bipush C (nI 120) (by decide) dX1_copyFrom_123 ?_
  refine g_acopy C wl_X1_52 wt_System_arraycopy_e82 wn_J10 (C.2.2.2.2.1 _ wz_System_arraycopy_e82) hK hP hD hS 19 8 0 rfl rfl rfl (by decide) rfl ⟨by decide, by decide⟩ dX1_copyFrom_125 (fun H locs hP hD hS => ?_)
  refine g_aload1 C dX1_copyFrom_128 ?_
  refine g_get (ci := 1) (T := TX1) (N := 12) C inX1 hK hP 11 rfl rfl 9 (by decide) wf_X1_40 ⟨rfl, rfl, rfl⟩ rfl dX1_copyFrom_129 ?_
  refine g_iconst C (nI 0) (by decide) dX1_copyFrom_132 ?_
  refine g_aload0 C dX1_copyFrom_133 ?_
  refine g_get (ci := 1) (T := TX1) (N := 12) C inX1 hK hP 0 rfl rfl 9 (by decide) wf_X1_40 ⟨rfl, rfl, rfl⟩ rfl dX1_copyFrom_134 ?_
  refine g_iconst C (nI 0) (by decide) dX1_copyFrom_137 ?_
  refine g_bipush C (nI 120) (by decide) dX1_copyFrom_138 ?_
  refine g_acopy C wl_X1_52 wt_System_arraycopy_e82 wn_J10 (C.2.2.2.2.1 _ wz_System_arraycopy_e82) hK hP hD hS 20 9 0 rfl rfl rfl (by decide) rfl ⟨by decide, by decide⟩ dX1_copyFrom_140 (fun H locs hP hD hS => ?_)
  refine g_aload1 C dX1_copyFrom_143 ?_
  refine g_get (ci := 1) (T := TX1) (N := 12) C inX1 hK hP 11 rfl rfl 10 (by decide) wf_X1_43 ⟨rfl, rfl, rfl⟩ rfl dX1_copyFrom_144 ?_
  refine g_iconst C (nI 0) (by decide) dX1_copyFrom_147 ?_
  refine g_aload0 C dX1_copyFrom_148 ?_
  refine g_get (ci := 1) (T := TX1) (N := 12) C inX1 hK hP 0 rfl rfl 10 (by decide) wf_X1_43 ⟨rfl, rfl, rfl⟩ rfl dX1_copyFrom_149 ?_
  refine g_iconst C (nI 0) (by decide) dX1_copyFrom_152 ?_
  refine g_bipush C (nI 120) (by decide) dX1_copyFrom_153 ?_
  refine g_acopy C wl_X1_52 wt_System_arraycopy_e82 wn_J10 (C.2.2.2.2.1 _ wz_System_arraycopy_e82) hK hP hD hS 21 10 0 rfl rfl rfl (by decide) rfl ⟨by decide, by decide⟩ dX1_copyFrom_155 (fun H locs hP hD hS => ?_)
  refine g_aload0 C dX1_copyFrom_158 ?_
  refine g_aload1 C dX1_copyFrom_159 ?_
  refine g_get (ci := 1) (T := TX1) (N := 12) C inX1 hK hP 11 rfl rfl 11 (by decide) wf_X1_48 ⟨rfl, rfl, rfl⟩ rfl dX1_copyFrom_160 ?_
  refine g_put (ci := 1) (T := TX1) (N := 12) C inX1 tyX1 tyX1_ok nmX1 hK hP hD hS 0 rfl rfl 11 (by decide) wf_X1_48 ⟨rfl, rfl, rfl⟩ rfl rfl rfl (Nat.le_of_ble_eq_true rfl) dX1_copyFrom_163 (fun H locs hP hD hS => ?_)
  exact g_vretM C hP hS dX1_copyFrom_166
