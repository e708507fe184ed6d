set_option maxHeartbeats 4000000 in
set_option maxRecDepth 100000 in
theorem c_X1_init {l : Launch} {dC : Nat → ClassId} {dI : Nat → Nat → Nat} {cI cL cJ : ClassId} {a sz : Nat}  : Met l yX1_init (.code yX1_init cX1_init 2 none :: WG) (rmC 1 10 550) (va_Pc [.ref a] (fun U => U.heap.size = sz ∧ va_P (dC, dI) vwCl [(a, .inr (1, [.int 0, .null, .null, .null, .null, .null, .null, .null, .null, .null, .null, .long 0]))] U.heap ∧ EV dC dI cI cL cJ U)) (bq_M none (fun H => ∃ t : Nat → Nat, va_P (dC, dI) vwCl (LW cI a t 0 q_d0 1099511627775) H ∧ va_D (fun q => q = a ∨ sz ≤ q) (LW cI a t 0 q_d0 1099511627775)) (fun q => q = a ∨ sz ≤ q)) 10 550 ((fun q => q = a ∨ sz ≤ q)) := by
  refine bq_ofN [some (.ref a), none] rfl rfl (Nat.le_of_ble_eq_true rfl) (by decide) ?_
  intro P_ E_ s M_ B_ T_ K_ C hnm hv
  obtain ⟨hsz, hP, hK⟩ := hv
  subst hsz
  have hS : va_S (fun q => q = a ∨ s.heap.size ≤ q) s.heap s.heap [] := va_S.rf
  have hA : ∀ q, s.heap.size ≤ q → (fun q => q = a ∨ s.heap.size ≤ q) q := fun q h => Or.inr h
  have hD : va_D (fun q => q = a ∨ s.heap.size ≤ q) [(a, .inr (1, [.int 0, .null, .null, .null, .null, .null, .null, .null, .null, .null, .null, .long 0]))] := ⟨fun i j p q hi hj _ => by have h1 := (List.getElem?_eq_some_iff.mp hi).1; have h2 := (List.getElem?_eq_some_iff.mp hj).1; simp at h1 h2; omega, fun k q hk => by have h1 := (List.getElem?_eq_some_iff.mp hk).1; simp at h1; subst h1; cases hk; exact Or.inl rfl⟩
  refine g_aload0 C dX1_init_0 ?_
  refine g_objInit C wl_X1_3 wi_Object__init__a7 wc_Object__init__a7 rfl ⟨by decide, by simp [rmC, Value.category]⟩ dX1_init_1 ?_
  refine g_aload0 C dX1_init_4 ?_
  refine g_iconst C (nI 0) (by decide) dX1_init_5 ?_
  refine g_put (ci := 1) (T := TX1) (N := 12) C inX1 tyX1 tyX1_ok nmX1 hK hP hD hS 0 rfl rfl 0 (by decide) wf_X1_9 ⟨rfl, rfl, rfl⟩ rfl rfl rfl (Nat.le_of_ble_eq_true rfl) dX1_init_6 (fun H locs hP hD hS => ?_)
  have hP : va_P (dC, dI) vwCl [(a, .inr (1, [.int 0, .null, .null, .null, .null, .null, .null, .null, .null, .null, .null, .long 0]))] H := hP
  have hD : va_D (fun q => q = a ∨ s.heap.size ≤ q) [(a, .inr (1, [.int 0, .null, .null, .null, .null, .null, .null, .null, .null, .null, .null, .long 0]))] := hD
  refine g_aload0 C dX1_init_9 ?_
  refine g_bipush C (nI 10) (by decide) dX1_init_10 ?_
  refine g_newa C hK hP hD hS hA (by decide) (by decide) (Nat.le_of_ble_eq_true rfl) (Nat.le_of_ble_eq_true rfl) dX1_init_12 (fun q1 H hP hD hS => ?_)
  refine g_putF (ci := 1) (T := TX1) (N := 12) C inX1 tyX1 tyX1_ok nmX1 hK hP hD hS 0 rfl rfl 1 (by decide) wf_X1_15 ⟨rfl, rfl, rfl⟩ rfl hnm rfl rfl rfl (Nat.le_of_ble_eq_true rfl) dX1_init_14 (fun H locs hP hD hS => ?_)
  have hP : va_P (dC, dI) vwCl [(a, .inr (1, [.int 0, .ref q1, .null, .null, .null, .null, .null, .null, .null, .null, .null, .long 0])), (q1, .inl (cI, 10, .inl (fun _ => 0)))] H := hP
  have hD : va_D (fun q => q = a ∨ s.heap.size ≤ q) [(a, .inr (1, [.int 0, .ref q1, .null, .null, .null, .null, .null, .null, .null, .null, .null, .long 0])), (q1, .inl (cI, 10, .inl (fun _ => 0)))] := hD
  refine g_aload0 C dX1_init_17 ?_
  refine g_bipush C (nI 10) (by decide) dX1_init_18 ?_
  refine g_newa C hK hP hD hS hA (by decide) (by decide) (Nat.le_of_ble_eq_true rfl) (Nat.le_of_ble_eq_true rfl) dX1_init_20 (fun q2 H hP hD hS => ?_)
  refine g_putF (ci := 1) (T := TX1) (N := 12) C inX1 tyX1 tyX1_ok nmX1 hK hP hD hS 0 rfl rfl 2 (by decide) wf_X1_19 ⟨rfl, rfl, rfl⟩ rfl hnm rfl rfl rfl (Nat.le_of_ble_eq_true rfl) dX1_init_22 (fun H locs hP hD hS => ?_)
  have hP : va_P (dC, dI) vwCl [(a, .inr (1, [.int 0, .ref q1, .ref q2, .null, .null, .null, .null, .null, .null, .null, .null, .long 0])), (q1, .inl (cI, 10, .inl (fun _ => 0))), (q2, .inl (cI, 10, .inl (fun _ => 0)))] H := hP
  have hD : va_D (fun q => q = a ∨ s.heap.size ≤ q) [(a, .inr (1, [.int 0, .ref q1, .ref q2, .null, .null, .null, .null, .null, .null, .null, .null, .long 0])), (q1, .inl (cI, 10, .inl (fun _ => 0))), (q2, .inl (cI, 10, .inl (fun _ => 0)))] := hD
  refine g_aload0 C dX1_init_25 ?_
  refine g_bipush C (nI 10) (by decide) dX1_init_26 ?_
  refine g_newa C hK hP hD hS hA (by decide) (by decide) (Nat.le_of_ble_eq_true rfl) (Nat.le_of_ble_eq_true rfl) dX1_init_28 (fun q3 H hP hD hS => ?_)
  refine g_putF (ci := 1) (T := TX1) (N := 12) C inX1 tyX1 tyX1_ok nmX1 hK hP hD hS 0 rfl rfl 3 (by decide) wf_X1_22 ⟨rfl, rfl, rfl⟩ rfl hnm rfl rfl rfl (Nat.le_of_ble_eq_true rfl) dX1_init_30 (fun H locs hP hD hS => ?_)
  have hP : va_P (dC, dI) vwCl [(a, .inr (1, [.int 0, .ref q1, .ref q2, .ref q3, .null, .null, .null, .null, .null, .null, .null, .long 0])), (q1, .inl (cI, 10, .inl (fun _ => 0))), (q2, .inl (cI, 10, .inl (fun _ => 0))), (q3, .inl (cI, 10, .inl (fun _ => 0)))] H := hP
  have hD : va_D (fun q => q = a ∨ s.heap.size ≤ q) [(a, .inr (1, [.int 0, .ref q1, .ref q2, .ref q3, .null, .null, .null, .null, .null, .null, .null, .long 0])), (q1, .inl (cI, 10, .inl (fun _ => 0))), (q2, .inl (cI, 10, .inl (fun _ => 0))), (q3, .inl (cI, 10, .inl (fun _ => 0)))] := hD
  refine g_aload0 C dX1_init_33 ?_
  refine g_bipush C (nI 40) (by decide) dX1_init_34 ?_
  refine g_newa C hK hP hD hS hA (by decide) (by decide) (Nat.le_of_ble_eq_true rfl) (Nat.le_of_ble_eq_true rfl) dX1_init_36 (fun q4 H hP hD hS => ?_)
  refine g_putF (ci := 1) (T := TX1) (N := 12) C inX1 tyX1 tyX1_ok nmX1 hK hP hD hS 0 rfl rfl 4 (by decide) wf_X1_25 ⟨rfl, rfl, rfl⟩ rfl hnm rfl rfl rfl (Nat.le_of_ble_eq_true rfl) dX1_init_38 (fun H locs hP hD hS => ?_)
  have hP : va_P (dC, dI) vwCl [(a, .inr (1, [.int 0, .ref q1, .ref q2, .ref q3, .ref q4, .null, .null, .null, .null, .null, .null, .long 0])), (q1, .inl (cI, 10, .inl (fun _ => 0))), (q2, .inl (cI, 10, .inl (fun _ => 0))), (q3, .inl (cI, 10, .inl (fun _ => 0))), (q4, .inl (cI, 40, .inl (fun _ => 0)))] H := hP
  have hD : va_D (fun q => q = a ∨ s.heap.size ≤ q) [(a, .inr (1, [.int 0, .ref q1, .ref q2, .ref q3, .ref q4, .null, .null, .null, .null, .null, .null, .long 0])), (q1, .inl (cI, 10, .inl (fun _ => 0))), (q2, .inl (cI, 10, .inl (fun _ => 0))), (q3, .inl (cI, 10, .inl (fun _ => 0))), (q4, .inl (cI, 40, .inl (fun _ => 0)))] := hD
  refine g_aload0 C dX1_init_41 ?_
  refine g_bipush C (nI 40) (by decide) dX1_init_42 ?_
  refine g_newa C hK hP hD hS hA (by decide) (by decide) (Nat.le_of_ble_eq_true rfl) (Nat.le_of_ble_eq_true rfl) dX1_init_44 (fun q5 H hP hD hS => ?_)
  refine g_putF (ci := 1) (T := TX1) (N := 12) C inX1 tyX1 tyX1_ok nmX1 hK hP hD hS 0 rfl rfl 5 (by decide) wf_X1_28 ⟨rfl, rfl, rfl⟩ rfl hnm rfl rfl rfl (Nat.le_of_ble_eq_true rfl) dX1_init_46 (fun H locs hP hD hS => ?_)
  have hP : va_P (dC, dI) vwCl [(a, .inr (1, [.int 0, .ref q1, .ref q2, .ref q3, .ref q4, .ref q5, .null, .null, .null, .null, .null, .long 0])), (q1, .inl (cI, 10, .inl (fun _ => 0))), (q2, .inl (cI, 10, .inl (fun _ => 0))), (q3, .inl (cI, 10, .inl (fun _ => 0))), (q4, .inl (cI, 40, .inl (fun _ => 0))), (q5, .inl (cI, 40, .inl (fun _ => 0)))] H := hP
  have hD : va_D (fun q => q = a ∨ s.heap.size ≤ q) [(a, .inr (1, [.int 0, .ref q1, .ref q2, .ref q3, .ref q4, .ref q5, .null, .null, .null, .null, .null, .long 0])), (q1, .inl (cI, 10, .inl (fun _ => 0))), (q2, .inl (cI, 10, .inl (fun _ => 0))), (q3, .inl (cI, 10, .inl (fun _ => 0))), (q4, .inl (cI, 40, .inl (fun _ => 0))), (q5, .inl (cI, 40, .inl (fun _ => 0)))] := hD
  refine g_aload0 C dX1_init_49 ?_
  refine g_bipush C (nI 40) (by decide) dX1_init_50 ?_
  refine g_newa C hK hP hD hS hA (by decide) (by decide) (Nat.le_of_ble_eq_true rfl) (Nat.le_of_ble_eq_true rfl) dX1_init_52 (fun q6 H hP hD hS => ?_)
  refine g_putF (ci := 1) (T := TX1) (N := 12) C inX1 tyX1 tyX1_ok nmX1 hK hP hD hS 0 rfl rfl 6 (by decide) wf_X1_31 ⟨rfl, rfl, rfl⟩ rfl hnm rfl rfl rfl (Nat.le_of_ble_eq_true rfl) dX1_init_54 (fun H locs hP hD hS => ?_)
  have hP : va_P (dC, dI) vwCl [(a, .inr (1, [.int 0, .ref q1, .ref q2, .ref q3, .ref q4, .ref q5, .ref q6, .null, .null, .null, .null, .long 0])), (q1, .inl (cI, 10, .inl (fun _ => 0))), (q2, .inl (cI, 10, .inl (fun _ => 0))), (q3, .inl (cI, 10, .inl (fun _ => 0))), (q4, .inl (cI, 40, .inl (fun _ => 0))), (q5, .inl (cI, 40, .inl (fun _ => 0))), (q6, .inl (cI, 40, .inl (fun _ => 0)))] H := hP
  have hD : va_D (fun q => q = a ∨ s.heap.size ≤ q) [(a, .inr (1, [.int 0, .ref q1, .ref q2, .ref q3, .ref q4, .ref q5, .ref q6, .null, .null, .null, .null, .long 0])), (q1, .inl (cI, 10, .inl (fun _ => 0))), (q2, .inl (cI, 10, .inl (fun _ => 0))), (q3, .inl (cI, 10, .inl (fun _ => 0))), (q4, .inl (cI, 40, .inl (fun _ => 0))), (q5, .inl (cI, 40, .inl (fun _ => 0))), (q6, .inl (cI, 40, .inl (fun _ => 0)))] := hD
  refine g_aload0 C dX1_init_57 ?_
  refine g_bipush C (nI 40) (by decide) dX1_init_58 ?_
  refine g_newa C hK hP hD hS hA (by decide) (by decide) (Nat.le_of_ble_eq_true rfl) (Nat.le_of_ble_eq_true rfl) dX1_init_60 (fun q7 H hP hD hS => ?_)
  refine g_putF (ci := 1) (T := TX1) (N := 12) C inX1 tyX1 tyX1_ok nmX1 hK hP hD hS 0 rfl rfl 7 (by decide) wf_X1_34 ⟨rfl, rfl, rfl⟩ rfl hnm rfl rfl rfl (Nat.le_of_ble_eq_true rfl) dX1_init_62 (fun H locs hP hD hS => ?_)
  have hP : va_P (dC, dI) vwCl [(a, .inr (1, [.int 0, .ref q1, .ref q2, .ref q3, .ref q4, .ref q5, .ref q6, .ref q7, .null, .null, .null, .long 0])), (q1, .inl (cI, 10, .inl (fun _ => 0))), (q2, .inl (cI, 10, .inl (fun _ => 0))), (q3, .inl (cI, 10, .inl (fun _ => 0))), (q4, .inl (cI, 40, .inl (fun _ => 0))), (q5, .inl (cI, 40, .inl (fun _ => 0))), (q6, .inl (cI, 40, .inl (fun _ => 0))), (q7, .inl (cI, 40, .inl (fun _ => 0)))] H := hP
  have hD : va_D (fun q => q = a ∨ s.heap.size ≤ q) [(a, .inr (1, [.int 0, .ref q1, .ref q2, .ref q3, .ref q4, .ref q5, .ref q6, .ref q7, .null, .null, .null, .long 0])), (q1, .inl (cI, 10, .inl (fun _ => 0))), (q2, .inl (cI, 10, .inl (fun _ => 0))), (q3, .inl (cI, 10, .inl (fun _ => 0))), (q4, .inl (cI, 40, .inl (fun _ => 0))), (q5, .inl (cI, 40, .inl (fun _ => 0))), (q6, .inl (cI, 40, .inl (fun _ => 0))), (q7, .inl (cI, 40, .inl (fun _ => 0)))] := hD
  refine g_aload0 C dX1_init_65 ?_
  refine g_bipush C (nI 120) (by decide) dX1_init_66 ?_
  refine g_newa C hK hP hD hS hA (by decide) (by decide) (Nat.le_of_ble_eq_true rfl) (Nat.le_of_ble_eq_true rfl) dX1_init_68 (fun q8 H hP hD hS => ?_)
  refine g_putF (ci := 1) (T := TX1) (N := 12) C inX1 tyX1 tyX1_ok nmX1 hK hP hD hS 0 rfl rfl 8 (by decide) wf_X1_37 ⟨rfl, rfl, rfl⟩ rfl hnm rfl rfl rfl (Nat.le_of_ble_eq_true rfl) dX1_init_70 (fun H locs hP hD hS => ?_)
  have hP : va_P (dC, dI) vwCl [(a, .inr (1, [.int 0, .ref q1, .ref q2, .ref q3, .ref q4, .ref q5, .ref q6, .ref q7, .ref q8, .null, .null, .long 0])), (q1, .inl (cI, 10, .inl (fun _ => 0))), (q2, .inl (cI, 10, .inl (fun _ => 0))), (q3, .inl (cI, 10, .inl (fun _ => 0))), (q4, .inl (cI, 40, .inl (fun _ => 0))), (q5, .inl (cI, 40, .inl (fun _ => 0))), (q6, .inl (cI, 40, .inl (fun _ => 0))), (q7, .inl (cI, 40, .inl (fun _ => 0))), (q8, .inl (cI, 120, .inl (fun _ => 0)))] H := hP
  have hD : va_D (fun q => q = a ∨ s.heap.size ≤ q) [(a, .inr (1, [.int 0, .ref q1, .ref q2, .ref q3, .ref q4, .ref q5, .ref q6, .ref q7, .ref q8, .null, .null, .long 0])), (q1, .inl (cI, 10, .inl (fun _ => 0))), (q2, .inl (cI, 10, .inl (fun _ => 0))), (q3, .inl (cI, 10, .inl (fun _ => 0))), (q4, .inl (cI, 40, .inl (fun _ => 0))), (q5, .inl (cI, 40, .inl (fun _ => 0))), (q6, .inl (cI, 40, .inl (fun _ => 0))), (q7, .inl (cI, 40, .inl (fun _ => 0))), (q8, .inl (cI, 120, .inl (fun _ => 0)))] := hD
  refine g_aload0 C dX1_init_73 ?_
  refine g_bipush C (nI 120) (by decide) dX1_init_74 ?_
  refine g_newa C hK hP hD hS hA (by decide) (by decide) (Nat.le_of_ble_eq_true rfl) (Nat.le_of_ble_eq_true rfl) dX1_init_76 (fun q9 H hP hD hS => ?_)
  refine g_putF (ci := 1) (T := TX1) (N := 12) C inX1 tyX1 tyX1_ok nmX1 hK hP hD hS 0 rfl rfl 9 (by decide) wf_X1_40 ⟨rfl, rfl, rfl⟩ rfl hnm rfl rfl rfl (Nat.le_of_ble_eq_true rfl) dX1_init_78 (fun H locs hP hD hS => ?_)
  have hP : va_P (dC, dI) vwCl [(a, .inr (1, [.int 0, .ref q1, .ref q2, .ref q3, .ref q4, .ref q5, .ref q6, .ref q7, .ref q8, .ref q9, .null, .long 0])), (q1, .inl (cI, 10, .inl (fun _ => 0))), (q2, .inl (cI, 10, .inl (fun _ => 0))), (q3, .inl (cI, 10, .inl (fun _ => 0))), (q4, .inl (cI, 40, .inl (fun _ => 0))), (q5, .inl (cI, 40, .inl (fun _ => 0))), (q6, .inl (cI, 40, .inl (fun _ => 0))), (q7, .inl (cI, 40, .inl (fun _ => 0))), (q8, .inl (cI, 120, .inl (fun _ => 0))), (q9, .inl (cI, 120, .inl (fun _ => 0)))] H := hP
  have hD : va_D (fun q => q = a ∨ s.heap.size ≤ q) [(a, .inr (1, [.int 0, .ref q1, .ref q2, .ref q3, .ref q4, .ref q5, .ref q6, .ref q7, .ref q8, .ref q9, .null, .long 0])), (q1, .inl (cI, 10, .inl (fun _ => 0))), (q2, .inl (cI, 10, .inl (fun _ => 0))), (q3, .inl (cI, 10, .inl (fun _ => 0))), (q4, .inl (cI, 40, .inl (fun _ => 0))), (q5, .inl (cI, 40, .inl (fun _ => 0))), (q6, .inl (cI, 40, .inl (fun _ => 0))), (q7, .inl (cI, 40, .inl (fun _ => 0))), (q8, .inl (cI, 120, .inl (fun _ => 0))), (q9, .inl (cI, 120, .inl (fun _ => 0)))] := hD
  refine g_aload0 C dX1_init_81 ?_
  refine g_bipush C (nI 120) (by decide) dX1_init_82 ?_
  refine g_newa C hK hP hD hS hA (by decide) (by decide) (Nat.le_of_ble_eq_true rfl) (Nat.le_of_ble_eq_true rfl) dX1_init_84 (fun q10 H hP hD hS => ?_)
  refine g_putF (ci := 1) (T := TX1) (N := 12) C inX1 tyX1 tyX1_ok nmX1 hK hP hD hS 0 rfl rfl 10 (by decide) wf_X1_43 ⟨rfl, rfl, rfl⟩ rfl hnm rfl rfl rfl (Nat.le_of_ble_eq_true rfl) dX1_init_86 (fun H locs hP hD hS => ?_)
  have hP : va_P (dC, dI) vwCl [(a, .inr (1, [.int 0, .ref q1, .ref q2, .ref q3, .ref q4, .ref q5, .ref q6, .ref q7, .ref q8, .ref q9, .ref q10, .long 0])), (q1, .inl (cI, 10, .inl (fun _ => 0))), (q2, .inl (cI, 10, .inl (fun _ => 0))), (q3, .inl (cI, 10, .inl (fun _ => 0))), (q4, .inl (cI, 40, .inl (fun _ => 0))), (q5, .inl (cI, 40, .inl (fun _ => 0))), (q6, .inl (cI, 40, .inl (fun _ => 0))), (q7, .inl (cI, 40, .inl (fun _ => 0))), (q8, .inl (cI, 120, .inl (fun _ => 0))), (q9, .inl (cI, 120, .inl (fun _ => 0))), (q10, .inl (cI, 120, .inl (fun _ => 0)))] H := hP
  have hD : va_D (fun q => q = a ∨ s.heap.size ≤ q) [(a, .inr (1, [.int 0, .ref q1, .ref q2, .ref q3, .ref q4, .ref q5, .ref q6, .ref q7, .ref q8, .ref q9, .ref q10, .long 0])), (q1, .inl (cI, 10, .inl (fun _ => 0))), (q2, .inl (cI, 10, .inl (fun _ => 0))), (q3, .inl (cI, 10, .inl (fun _ => 0))), (q4, .inl (cI, 40, .inl (fun _ => 0))), (q5, .inl (cI, 40, .inl (fun _ => 0))), (q6, .inl (cI, 40, .inl (fun _ => 0))), (q7, .inl (cI, 40, .inl (fun _ => 0))), (q8, .inl (cI, 120, .inl (fun _ => 0))), (q9, .inl (cI, 120, .inl (fun _ => 0))), (q10, .inl (cI, 120, .inl (fun _ => 0)))] := hD
  refine g_aload0 C dX1_init_89 ?_
  refine g_ldc2 C wq_X1_46 dX1_init_90 ?_
  refine g_put (ci := 1) (T := TX1) (N := 12) C inX1 tyX1 tyX1_ok nmX1 hK hP hD hS 0 rfl rfl 11 (by decide) wf_X1_48 ⟨rfl, rfl, rfl⟩ rfl rfl rfl (Nat.le_of_ble_eq_true rfl) dX1_init_93 (fun H locs hP hD hS => ?_)
  obtain ⟨t, ht⟩ : ∃ t : Nat → Nat, t = (fun j => match j with | 0 => q1 | 1 => q2 | 2 => q3 | 3 => q4 | 4 => q5 | 5 => q6 | 6 => q7 | 7 => q8 | 8 => q9 | _ => q10) := ⟨_, rfl⟩
  have hP : va_P (dC, dI) vwCl (LW cI a t 0 (q_ini 0 0 0) 1099511627775) H := by subst ht; exact hP
  have hD : va_D (fun q => q = a ∨ s.heap.size ≤ q) (LW cI a t 0 (q_ini 0 0 0) 1099511627775) := by subst ht; exact hD.fst rfl
  refine g_iconst C (nI 0) (by decide) dX1_init_96 ?_
  refine g_istore1 C rfl dX1_init_97 ?_
  refine g_lpH (A1 := Nat) (fun j H locs => j ≤ 10 ∧ va_P (dC, dI) vwCl (LW cI a t 0 (q_ini j 0 0) 1099511627775) H ∧ va_D (fun q => q = a ∨ s.heap.size ≤ q) (LW cI a t 0 (q_ini j 0 0) 1099511627775) ∧ va_S (fun q => q = a ∨ s.heap.size ≤ q) s.heap H locs) (fun j => 10 - j) (fun j => [some (.ref a), some (.int (nI j))]) 0 ⟨by omega, hP, hD, hS⟩ rfl ?_
  rintro j H locs ⟨hj, hP, hD, hS⟩ ih
  try dsimp only at ih ⊢
  refine g_iload1 C dX1_init_98 ?_
  refine g_bipush C (nI 10) (by decide) dX1_init_99 ?_
  refine g_icmp_geN C (by omega) (by omega) 117 dX1_init_101 (by decide) (fun h101 => ?_) (fun h101 => ?_)
  · obtain rfl : j = 10 := by omega
    refine g_iconst C (nI 0) (by decide) dX1_init_117 ?_
    refine g_istore1 C rfl dX1_init_118 ?_
    refine g_lpH (A1 := Nat) (fun j H locs => j ≤ 40 ∧ va_P (dC, dI) vwCl (LW cI a t 0 (q_ini 10 j 0) 1099511627775) H ∧ va_D (fun q => q = a ∨ s.heap.size ≤ q) (LW cI a t 0 (q_ini 10 j 0) 1099511627775) ∧ va_S (fun q => q = a ∨ s.heap.size ≤ q) s.heap H locs) (fun j => 40 - j) (fun j => [some (.ref a), some (.int (nI j))]) 0 ⟨by omega, hP, hD, hS⟩ rfl ?_
    rintro j H locs ⟨hj, hP, hD, hS⟩ ih
    try dsimp only at ih ⊢
    refine g_iload1 C dX1_init_119 ?_
    refine g_bipush C (nI 40) (by decide) dX1_init_120 ?_
    refine g_icmp_geN C (by omega) (by omega) 159 dX1_init_122 (by decide) (fun h122 => ?_) (fun h122 => ?_)
    · obtain rfl : j = 40 := by omega
      refine g_iconst C (nI 0) (by decide) dX1_init_159 ?_
      refine g_istore1 C rfl dX1_init_160 ?_
      refine g_lpH (A1 := Nat) (fun j H locs => j ≤ 120 ∧ va_P (dC, dI) vwCl (LW cI a t 0 (q_ini 10 40 j) 1099511627775) H ∧ va_D (fun q => q = a ∨ s.heap.size ≤ q) (LW cI a t 0 (q_ini 10 40 j) 1099511627775) ∧ va_S (fun q => q = a ∨ s.heap.size ≤ q) s.heap H locs) (fun j => 120 - j) (fun j => [some (.ref a), some (.int (nI j))]) 0 ⟨by omega, hP, hD, hS⟩ rfl ?_
      rintro j H locs ⟨hj, hP, hD, hS⟩ ih
      try dsimp only at ih ⊢
      refine g_iload1 C dX1_init_161 ?_
      refine g_bipush C (nI 120) (by decide) dX1_init_162 ?_
      refine g_icmp_geN C (by omega) (by omega) 194 dX1_init_164 (by decide) (fun h164 => ?_) (fun h164 => ?_)
      · obtain rfl : j = 120 := by omega
        refine g_aload0 C dX1_init_194 ?_
        refine g_get (ci := 1) (T := TX1) (N := 12) C inX1 hK hP 0 rfl rfl 4 (by decide) wf_X1_25 ⟨rfl, rfl, rfl⟩ rfl dX1_init_195 ?_
        refine g_iconst C (nI 0) (by decide) dX1_init_198 ?_
        refine g_iconst C (nI 3) (by decide) dX1_init_199 ?_
        refine g_iast C hK hP hD hS 4 0 rfl rfl (by omega) (by decide) dX1_init_200 (fun H locs hP hD hS => ?_)
        exact g_vretM C ⟨t, LW_ext (d := q_s1 (q_ini 10 40 120) 3 (upd (q_ini 10 40 120 3) 0 (nI 3))) hP q_ini_d0, hD.fst rfl⟩ hS dX1_init_201
      · refine g_aload0 C dX1_init_167 ?_
        refine g_get (ci := 1) (T := TX1) (N := 12) C inX1 hK hP 0 rfl rfl 8 (by decide) wf_X1_37 ⟨rfl, rfl, rfl⟩ rfl dX1_init_168 ?_
        refine g_iload1 C dX1_init_171 ?_
        refine g_iconst C (-1) (by decide) dX1_init_172 ?_
        refine g_iast C hK hP hD hS 8 0 rfl rfl (by omega) (by decide) dX1_init_173 (fun H locs hP hD hS => ?_)
        refine g_aload0 C dX1_init_174 ?_
        refine g_get (ci := 1) (T := TX1) (N := 12) C inX1 hK hP 0 rfl rfl 9 (by decide) wf_X1_40 ⟨rfl, rfl, rfl⟩ rfl dX1_init_175 ?_
        refine g_iload1 C dX1_init_178 ?_
        refine g_iconst C (-1) (by decide) dX1_init_179 ?_
        refine g_iast C hK hP hD hS 9 0 rfl rfl (by omega) (by decide) dX1_init_180 (fun H locs hP hD hS => ?_)
        refine g_aload0 C dX1_init_181 ?_
        refine g_get (ci := 1) (T := TX1) (N := 12) C inX1 hK hP 0 rfl rfl 10 (by decide) wf_X1_43 ⟨rfl, rfl, rfl⟩ rfl dX1_init_182 ?_
        refine g_iload1 C dX1_init_185 ?_
        refine g_iconst C (-1) (by decide) dX1_init_186 ?_
        refine g_iast C hK hP hD hS 10 0 rfl rfl (by omega) (by decide) dX1_init_187 (fun H locs hP hD hS => ?_)
        have hP : va_P (dC, dI) vwCl (LW cI a t 0 (q_s1 (q_s1 (q_s1 (q_ini 10 40 j) 7 (upd (q_ini 10 40 j 7) j (-1))) 8 (upd (q_ini 10 40 j 8) j (-1))) 9 (upd (q_ini 10 40 j 9) j (-1))) 1099511627775) H := hP
        rw [q_ini_c] at hP
        have hD : va_D (fun q => q = a ∨ s.heap.size ≤ q) (LW cI a t 0 (q_ini 10 40 (j + 1)) 1099511627775) := hD.fst rfl
        refine g_iinc1 C _ rfl dX1_init_188 (nI_1 _) ?_
        refine g_goto C 161 dX1_init_191 (by decide) ?_
        exact ih (j + 1) H locs ⟨by omega, hP, hD, hS⟩ (by show 120 - (j + 1) < 120 - j; omega)
    · refine g_aload0 C dX1_init_125 ?_
      refine g_get (ci := 1) (T := TX1) (N := 12) C inX1 hK hP 0 rfl rfl 4 (by decide) wf_X1_25 ⟨rfl, rfl, rfl⟩ rfl dX1_init_126 ?_
      refine g_iload1 C dX1_init_129 ?_
      refine g_iconst C (nI 0) (by decide) dX1_init_130 ?_
      refine g_iast C hK hP hD hS 4 0 rfl rfl (by omega) (by decide) dX1_init_131 (fun H locs hP hD hS => ?_)
      refine g_aload0 C dX1_init_132 ?_
      refine g_get (ci := 1) (T := TX1) (N := 12) C inX1 hK hP 0 rfl rfl 5 (by decide) wf_X1_28 ⟨rfl, rfl, rfl⟩ rfl dX1_init_133 ?_
      refine g_iload1 C dX1_init_136 ?_
      refine g_iconst C (-1) (by decide) dX1_init_137 ?_
      refine g_iast C hK hP hD hS 5 0 rfl rfl (by omega) (by decide) dX1_init_138 (fun H locs hP hD hS => ?_)
      refine g_aload0 C dX1_init_139 ?_
      refine g_get (ci := 1) (T := TX1) (N := 12) C inX1 hK hP 0 rfl rfl 6 (by decide) wf_X1_31 ⟨rfl, rfl, rfl⟩ rfl dX1_init_140 ?_
      refine g_iload1 C dX1_init_143 ?_
      refine g_iconst C (-1) (by decide) dX1_init_144 ?_
      refine g_iast C hK hP hD hS 6 0 rfl rfl (by omega) (by decide) dX1_init_145 (fun H locs hP hD hS => ?_)
      refine g_aload0 C dX1_init_146 ?_
      refine g_get (ci := 1) (T := TX1) (N := 12) C inX1 hK hP 0 rfl rfl 7 (by decide) wf_X1_34 ⟨rfl, rfl, rfl⟩ rfl dX1_init_147 ?_
      refine g_iload1 C dX1_init_150 ?_
      refine g_iconst C (-1) (by decide) dX1_init_151 ?_
      refine g_iast C hK hP hD hS 7 0 rfl rfl (by omega) (by decide) dX1_init_152 (fun H locs hP hD hS => ?_)
      have hP : va_P (dC, dI) vwCl (LW cI a t 0 (q_s1 (q_s1 (q_s1 (q_s1 (q_ini 10 j 0) 3 (upd (q_ini 10 j 0 3) j (nI 0))) 4 (upd (q_ini 10 j 0 4) j (-1))) 5 (upd (q_ini 10 j 0 5) j (-1))) 6 (upd (q_ini 10 j 0 6) j (-1))) 1099511627775) H := hP
      rw [q_ini_b] at hP
      have hD : va_D (fun q => q = a ∨ s.heap.size ≤ q) (LW cI a t 0 (q_ini 10 (j + 1) 0) 1099511627775) := hD.fst rfl
      refine g_iinc1 C _ rfl dX1_init_153 (nI_1 _) ?_
      refine g_goto C 119 dX1_init_156 (by decide) ?_
      exact ih (j + 1) H locs ⟨by omega, hP, hD, hS⟩ (by show 40 - (j + 1) < 40 - j; omega)
  · refine g_aload0 C dX1_init_104 ?_
    refine g_get (ci := 1) (T := TX1) (N := 12) C inX1 hK hP 0 rfl rfl 1 (by decide) wf_X1_15 ⟨rfl, rfl, rfl⟩ rfl dX1_init_105 ?_
    refine g_iload1 C dX1_init_108 ?_
    refine g_iconst C (nI 1) (by decide) dX1_init_109 ?_
    refine g_iast C hK hP hD hS 1 0 rfl rfl (by omega) (by decide) dX1_init_110 (fun H locs hP hD hS => ?_)
    have hP : va_P (dC, dI) vwCl (LW cI a t 0 (q_s1 (q_ini j 0 0) 0 (upd (q_ini j 0 0 0) j (nI 1))) 1099511627775) H := hP
    rw [q_ini_a] at hP
    have hD : va_D (fun q => q = a ∨ s.heap.size ≤ q) (LW cI a t 0 (q_ini (j + 1) 0 0) 1099511627775) := hD.fst rfl
    refine g_iinc1 C _ rfl dX1_init_111 (nI_1 _) ?_
    refine g_goto C 98 dX1_init_114 (by decide) ?_
    exact ih (j + 1) H locs ⟨by omega, hP, hD, hS⟩ (by show 10 - (j + 1) < 10 - j; omega)
