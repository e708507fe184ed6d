set_option maxHeartbeats 4000000 in
set_option maxRecDepth 100000 in
theorem c_X3_init {l : Launch} {dC : Nat → ClassId} {dI : Nat → Nat → Nat} {cI cL cJ : ClassId} {o sz : Nat}  : Met l yX3_init (.code yX3_init cX3_init 2 none :: WG) (rmC 1 9 4045) (va_Pc [.ref o] (fun U => U.heap.size = sz ∧ va_P (dC, dI) vwCl [(o, .inr (3, [.null, .null, .int 0, .null, .int 0, .int 0, .int 0, .null, .null, .int 0, .null, .null, .null, .null, .int 0, .long 0]))] U.heap ∧ EV dC dI cI cL cJ U)) (bq_M none (fun H => ∃ t : Nat → Nat, va_P (dC, dI) vwCl (MW cI o t (q_s1 (fun _ _ => 0) 0 (q_zi 40 120 10)) (fun _ => 0) 0) H ∧ va_D (fun q => q = o ∨ sz ≤ q) (MW cI o t (q_s1 (fun _ _ => 0) 0 (q_zi 40 120 10)) (fun _ => 0) 0)) (fun q => q = o ∨ sz ≤ q)) 9 4045 ((fun q => q = o ∨ sz ≤ q)) := by
  refine bq_ofN [some (.ref o), none] rfl rfl (Nat.le_of_ble_eq_true rfl) (by decide) ?_
  intro P_ E_ s M_ B_ T_ K_ C hnm hv
  obtain ⟨hsz, hP, hK⟩ := hv
  subst hsz
  have hS : va_S (fun q => q = o ∨ s.heap.size ≤ q) s.heap s.heap [] := va_S.rf
  have hA : ∀ q, s.heap.size ≤ q → (fun q => q = o ∨ s.heap.size ≤ q) q := fun q h => Or.inr h
  have hD : va_D (fun q => q = o ∨ s.heap.size ≤ q) [(o, .inr (3, [.null, .null, .int 0, .null, .int 0, .int 0, .int 0, .null, .null, .int 0, .null, .null, .null, .null, .int 0, .long 0]))] := ⟨fun i j p q hi hj _ => by have h1 := (List.getElem?_eq_some_iff.mp hi).1; have h2 := (List.getElem?_eq_some_iff.mp hj).1; simp at h1 h2; omega, fun k q hk => by have h1 := (List.getElem?_eq_some_iff.mp hk).1; simp at h1; subst h1; cases hk; exact Or.inl rfl⟩
  refine g_aload0 C dX3_init_0 ?_
  refine g_objInit C wl_X3_1 wi_Object__init__a7 wc_Object__init__a7 rfl ⟨by decide, by simp [rmC, Value.category]⟩ dX3_init_1 ?_
  refine g_aload0 C dX3_init_4 ?_
  refine g_sipush C (nI 551) (by decide) dX3_init_5 ?_
  refine g_newa C hK hP hD hS hA (by decide) (by decide) (Nat.le_of_ble_eq_true rfl) (Nat.le_of_ble_eq_true rfl) dX3_init_8 (fun q1 H hP hD hS => ?_)
  refine g_putF (ci := 3) (T := TX3) (N := 16) C inX3 tyX3 tyX3_ok nmX3 hK hP hD hS 0 rfl rfl 0 (by decide) wf_X3_7 ⟨rfl, rfl, rfl⟩ rfl hnm rfl rfl rfl (Nat.le_of_ble_eq_true rfl) dX3_init_10 (fun H locs hP hD hS => ?_)
  have hP : va_P (dC, dI) vwCl [(o, .inr (3, [.ref q1, .null, .int 0, .null, .int 0, .int 0, .int 0, .null, .null, .int 0, .null, .null, .null, .null, .int 0, .long 0])), (q1, .inl (cI, 551, .inl (fun _ => 0)))] H := hP
  have hD : va_D (fun q => q = o ∨ s.heap.size ≤ q) [(o, .inr (3, [.ref q1, .null, .int 0, .null, .int 0, .int 0, .int 0, .null, .null, .int 0, .null, .null, .null, .null, .int 0, .long 0])), (q1, .inl (cI, 551, .inl (fun _ => 0)))] := hD
  refine g_aload0 C dX3_init_13 ?_
  refine g_sipush C (nI 3306) (by decide) dX3_init_14 ?_
  refine g_newa C hK hP hD hS hA (by decide) (by decide) (Nat.le_of_ble_eq_true rfl) (Nat.le_of_ble_eq_true rfl) dX3_init_17 (fun q2 H hP hD hS => ?_)
  refine g_putF (ci := 3) (T := TX3) (N := 16) C inX3 tyX3 tyX3_ok nmX3 hK hP hD hS 0 rfl rfl 1 (by decide) wf_X3_13 ⟨rfl, rfl, rfl⟩ rfl hnm rfl rfl rfl (Nat.le_of_ble_eq_true rfl) dX3_init_19 (fun H locs hP hD hS => ?_)
  have hP : va_P (dC, dI) vwCl [(o, .inr (3, [.ref q1, .ref q2, .int 0, .null, .int 0, .int 0, .int 0, .null, .null, .int 0, .null, .null, .null, .null, .int 0, .long 0])), (q1, .inl (cI, 551, .inl (fun _ => 0))), (q2, .inl (cI, 3306, .inl (fun _ => 0)))] H := hP
  have hD : va_D (fun q => q = o ∨ s.heap.size ≤ q) [(o, .inr (3, [.ref q1, .ref q2, .int 0, .null, .int 0, .int 0, .int 0, .null, .null, .int 0, .null, .null, .null, .null, .int 0, .long 0])), (q1, .inl (cI, 551, .inl (fun _ => 0))), (q2, .inl (cI, 3306, .inl (fun _ => 0)))] := hD
  refine g_aload0 C dX3_init_22 ?_
  refine g_bipush C (nI 60) (by decide) dX3_init_23 ?_
  refine g_newa C hK hP hD hS hA (by decide) (by decide) (Nat.le_of_ble_eq_true rfl) (Nat.le_of_ble_eq_true rfl) dX3_init_25 (fun q3 H hP hD hS => ?_)
  refine g_putF (ci := 3) (T := TX3) (N := 16) C inX3 tyX3 tyX3_ok nmX3 hK hP hD hS 0 rfl rfl 3 (by decide) wf_X3_16 ⟨rfl, rfl, rfl⟩ rfl hnm rfl rfl rfl (Nat.le_of_ble_eq_true rfl) dX3_init_27 (fun H locs hP hD hS => ?_)
  have hP : va_P (dC, dI) vwCl [(o, .inr (3, [.ref q1, .ref q2, .int 0, .ref q3, .int 0, .int 0, .int 0, .null, .null, .int 0, .null, .null, .null, .null, .int 0, .long 0])), (q1, .inl (cI, 551, .inl (fun _ => 0))), (q2, .inl (cI, 3306, .inl (fun _ => 0))), (q3, .inl (cI, 60, .inl (fun _ => 0)))] H := hP
  have hD : va_D (fun q => q = o ∨ s.heap.size ≤ q) [(o, .inr (3, [.ref q1, .ref q2, .int 0, .ref q3, .int 0, .int 0, .int 0, .null, .null, .int 0, .null, .null, .null, .null, .int 0, .long 0])), (q1, .inl (cI, 551, .inl (fun _ => 0))), (q2, .inl (cI, 3306, .inl (fun _ => 0))), (q3, .inl (cI, 60, .inl (fun _ => 0)))] := hD
  refine g_aload0 C dX3_init_30 ?_
  refine g_bipush C (nI 40) (by decide) dX3_init_31 ?_
  refine g_newa C hK hP hD hS hA (by decide) (by decide) (Nat.le_of_ble_eq_true rfl) (Nat.le_of_ble_eq_true rfl) dX3_init_33 (fun q4 H hP hD hS => ?_)
  refine g_putF (ci := 3) (T := TX3) (N := 16) C inX3 tyX3 tyX3_ok nmX3 hK hP hD hS 0 rfl rfl 7 (by decide) wf_X3_19 ⟨rfl, rfl, rfl⟩ rfl hnm rfl rfl rfl (Nat.le_of_ble_eq_true rfl) dX3_init_35 (fun H locs hP hD hS => ?_)
  have hP : va_P (dC, dI) vwCl [(o, .inr (3, [.ref q1, .ref q2, .int 0, .ref q3, .int 0, .int 0, .int 0, .ref q4, .null, .int 0, .null, .null, .null, .null, .int 0, .long 0])), (q1, .inl (cI, 551, .inl (fun _ => 0))), (q2, .inl (cI, 3306, .inl (fun _ => 0))), (q3, .inl (cI, 60, .inl (fun _ => 0))), (q4, .inl (cI, 40, .inl (fun _ => 0)))] H := hP
  have hD : va_D (fun q => q = o ∨ s.heap.size ≤ q) [(o, .inr (3, [.ref q1, .ref q2, .int 0, .ref q3, .int 0, .int 0, .int 0, .ref q4, .null, .int 0, .null, .null, .null, .null, .int 0, .long 0])), (q1, .inl (cI, 551, .inl (fun _ => 0))), (q2, .inl (cI, 3306, .inl (fun _ => 0))), (q3, .inl (cI, 60, .inl (fun _ => 0))), (q4, .inl (cI, 40, .inl (fun _ => 0)))] := hD
  refine g_aload0 C dX3_init_38 ?_
  refine g_bipush C (nI 40) (by decide) dX3_init_39 ?_
  refine g_newa C hK hP hD hS hA (by decide) (by decide) (Nat.le_of_ble_eq_true rfl) (Nat.le_of_ble_eq_true rfl) dX3_init_41 (fun q5 H hP hD hS => ?_)
  refine g_putF (ci := 3) (T := TX3) (N := 16) C inX3 tyX3 tyX3_ok nmX3 hK hP hD hS 0 rfl rfl 8 (by decide) wf_X3_22 ⟨rfl, rfl, rfl⟩ rfl hnm rfl rfl rfl (Nat.le_of_ble_eq_true rfl) dX3_init_43 (fun H locs hP hD hS => ?_)
  have hP : va_P (dC, dI) vwCl [(o, .inr (3, [.ref q1, .ref q2, .int 0, .ref q3, .int 0, .int 0, .int 0, .ref q4, .ref q5, .int 0, .null, .null, .null, .null, .int 0, .long 0])), (q1, .inl (cI, 551, .inl (fun _ => 0))), (q2, .inl (cI, 3306, .inl (fun _ => 0))), (q3, .inl (cI, 60, .inl (fun _ => 0))), (q4, .inl (cI, 40, .inl (fun _ => 0))), (q5, .inl (cI, 40, .inl (fun _ => 0)))] H := hP
  have hD : va_D (fun q => q = o ∨ s.heap.size ≤ q) [(o, .inr (3, [.ref q1, .ref q2, .int 0, .ref q3, .int 0, .int 0, .int 0, .ref q4, .ref q5, .int 0, .null, .null, .null, .null, .int 0, .long 0])), (q1, .inl (cI, 551, .inl (fun _ => 0))), (q2, .inl (cI, 3306, .inl (fun _ => 0))), (q3, .inl (cI, 60, .inl (fun _ => 0))), (q4, .inl (cI, 40, .inl (fun _ => 0))), (q5, .inl (cI, 40, .inl (fun _ => 0)))] := hD
  refine g_aload0 C dX3_init_46 ?_
  refine g_bipush C (nI 12) (by decide) dX3_init_47 ?_
  refine g_newa C hK hP hD hS hA (by decide) (by decide) (Nat.le_of_ble_eq_true rfl) (Nat.le_of_ble_eq_true rfl) dX3_init_49 (fun q6 H hP hD hS => ?_)
  refine g_putF (ci := 3) (T := TX3) (N := 16) C inX3 tyX3 tyX3_ok nmX3 hK hP hD hS 0 rfl rfl 10 (by decide) wf_X3_25 ⟨rfl, rfl, rfl⟩ rfl hnm rfl rfl rfl (Nat.le_of_ble_eq_true rfl) dX3_init_51 (fun H locs hP hD hS => ?_)
  have hP : va_P (dC, dI) vwCl [(o, .inr (3, [.ref q1, .ref q2, .int 0, .ref q3, .int 0, .int 0, .int 0, .ref q4, .ref q5, .int 0, .ref q6, .null, .null, .null, .int 0, .long 0])), (q1, .inl (cI, 551, .inl (fun _ => 0))), (q2, .inl (cI, 3306, .inl (fun _ => 0))), (q3, .inl (cI, 60, .inl (fun _ => 0))), (q4, .inl (cI, 40, .inl (fun _ => 0))), (q5, .inl (cI, 40, .inl (fun _ => 0))), (q6, .inl (cI, 12, .inl (fun _ => 0)))] H := hP
  have hD : va_D (fun q => q = o ∨ s.heap.size ≤ q) [(o, .inr (3, [.ref q1, .ref q2, .int 0, .ref q3, .int 0, .int 0, .int 0, .ref q4, .ref q5, .int 0, .ref q6, .null, .null, .null, .int 0, .long 0])), (q1, .inl (cI, 551, .inl (fun _ => 0))), (q2, .inl (cI, 3306, .inl (fun _ => 0))), (q3, .inl (cI, 60, .inl (fun _ => 0))), (q4, .inl (cI, 40, .inl (fun _ => 0))), (q5, .inl (cI, 40, .inl (fun _ => 0))), (q6, .inl (cI, 12, .inl (fun _ => 0)))] := hD
  refine g_aload0 C dX3_init_54 ?_
  refine g_bipush C (nI 12) (by decide) dX3_init_55 ?_
  refine g_newa C hK hP hD hS hA (by decide) (by decide) (Nat.le_of_ble_eq_true rfl) (Nat.le_of_ble_eq_true rfl) dX3_init_57 (fun q7 H hP hD hS => ?_)
  refine g_putF (ci := 3) (T := TX3) (N := 16) C inX3 tyX3 tyX3_ok nmX3 hK hP hD hS 0 rfl rfl 11 (by decide) wf_X3_28 ⟨rfl, rfl, rfl⟩ rfl hnm rfl rfl rfl (Nat.le_of_ble_eq_true rfl) dX3_init_59 (fun H locs hP hD hS => ?_)
  have hP : va_P (dC, dI) vwCl [(o, .inr (3, [.ref q1, .ref q2, .int 0, .ref q3, .int 0, .int 0, .int 0, .ref q4, .ref q5, .int 0, .ref q6, .ref q7, .null, .null, .int 0, .long 0])), (q1, .inl (cI, 551, .inl (fun _ => 0))), (q2, .inl (cI, 3306, .inl (fun _ => 0))), (q3, .inl (cI, 60, .inl (fun _ => 0))), (q4, .inl (cI, 40, .inl (fun _ => 0))), (q5, .inl (cI, 40, .inl (fun _ => 0))), (q6, .inl (cI, 12, .inl (fun _ => 0))), (q7, .inl (cI, 12, .inl (fun _ => 0)))] H := hP
  have hD : va_D (fun q => q = o ∨ s.heap.size ≤ q) [(o, .inr (3, [.ref q1, .ref q2, .int 0, .ref q3, .int 0, .int 0, .int 0, .ref q4, .ref q5, .int 0, .ref q6, .ref q7, .null, .null, .int 0, .long 0])), (q1, .inl (cI, 551, .inl (fun _ => 0))), (q2, .inl (cI, 3306, .inl (fun _ => 0))), (q3, .inl (cI, 60, .inl (fun _ => 0))), (q4, .inl (cI, 40, .inl (fun _ => 0))), (q5, .inl (cI, 40, .inl (fun _ => 0))), (q6, .inl (cI, 12, .inl (fun _ => 0))), (q7, .inl (cI, 12, .inl (fun _ => 0)))] := hD
  refine g_aload0 C dX3_init_62 ?_
  refine g_bipush C (nI 12) (by decide) dX3_init_63 ?_
  refine g_newa C hK hP hD hS hA (by decide) (by decide) (Nat.le_of_ble_eq_true rfl) (Nat.le_of_ble_eq_true rfl) dX3_init_65 (fun q8 H hP hD hS => ?_)
  refine g_putF (ci := 3) (T := TX3) (N := 16) C inX3 tyX3 tyX3_ok nmX3 hK hP hD hS 0 rfl rfl 12 (by decide) wf_X3_31 ⟨rfl, rfl, rfl⟩ rfl hnm rfl rfl rfl (Nat.le_of_ble_eq_true rfl) dX3_init_67 (fun H locs hP hD hS => ?_)
  have hP : va_P (dC, dI) vwCl [(o, .inr (3, [.ref q1, .ref q2, .int 0, .ref q3, .int 0, .int 0, .int 0, .ref q4, .ref q5, .int 0, .ref q6, .ref q7, .ref q8, .null, .int 0, .long 0])), (q1, .inl (cI, 551, .inl (fun _ => 0))), (q2, .inl (cI, 3306, .inl (fun _ => 0))), (q3, .inl (cI, 60, .inl (fun _ => 0))), (q4, .inl (cI, 40, .inl (fun _ => 0))), (q5, .inl (cI, 40, .inl (fun _ => 0))), (q6, .inl (cI, 12, .inl (fun _ => 0))), (q7, .inl (cI, 12, .inl (fun _ => 0))), (q8, .inl (cI, 12, .inl (fun _ => 0)))] H := hP
  have hD : va_D (fun q => q = o ∨ s.heap.size ≤ q) [(o, .inr (3, [.ref q1, .ref q2, .int 0, .ref q3, .int 0, .int 0, .int 0, .ref q4, .ref q5, .int 0, .ref q6, .ref q7, .ref q8, .null, .int 0, .long 0])), (q1, .inl (cI, 551, .inl (fun _ => 0))), (q2, .inl (cI, 3306, .inl (fun _ => 0))), (q3, .inl (cI, 60, .inl (fun _ => 0))), (q4, .inl (cI, 40, .inl (fun _ => 0))), (q5, .inl (cI, 40, .inl (fun _ => 0))), (q6, .inl (cI, 12, .inl (fun _ => 0))), (q7, .inl (cI, 12, .inl (fun _ => 0))), (q8, .inl (cI, 12, .inl (fun _ => 0)))] := hD
  refine g_aload0 C dX3_init_70 ?_
  refine g_bipush C (nI 12) (by decide) dX3_init_71 ?_
  refine g_newa C hK hP hD hS hA (by decide) (by decide) (Nat.le_of_ble_eq_true rfl) (Nat.le_of_ble_eq_true rfl) dX3_init_73 (fun q9 H hP hD hS => ?_)
  refine g_putF (ci := 3) (T := TX3) (N := 16) C inX3 tyX3 tyX3_ok nmX3 hK hP hD hS 0 rfl rfl 13 (by decide) wf_X3_34 ⟨rfl, rfl, rfl⟩ rfl hnm rfl rfl rfl (Nat.le_of_ble_eq_true rfl) dX3_init_75 (fun H locs hP hD hS => ?_)
  have hP : va_P (dC, dI) vwCl [(o, .inr (3, [.ref q1, .ref q2, .int 0, .ref q3, .int 0, .int 0, .int 0, .ref q4, .ref q5, .int 0, .ref q6, .ref q7, .ref q8, .ref q9, .int 0, .long 0])), (q1, .inl (cI, 551, .inl (fun _ => 0))), (q2, .inl (cI, 3306, .inl (fun _ => 0))), (q3, .inl (cI, 60, .inl (fun _ => 0))), (q4, .inl (cI, 40, .inl (fun _ => 0))), (q5, .inl (cI, 40, .inl (fun _ => 0))), (q6, .inl (cI, 12, .inl (fun _ => 0))), (q7, .inl (cI, 12, .inl (fun _ => 0))), (q8, .inl (cI, 12, .inl (fun _ => 0))), (q9, .inl (cI, 12, .inl (fun _ => 0)))] H := hP
  have hD : va_D (fun q => q = o ∨ s.heap.size ≤ q) [(o, .inr (3, [.ref q1, .ref q2, .int 0, .ref q3, .int 0, .int 0, .int 0, .ref q4, .ref q5, .int 0, .ref q6, .ref q7, .ref q8, .ref q9, .int 0, .long 0])), (q1, .inl (cI, 551, .inl (fun _ => 0))), (q2, .inl (cI, 3306, .inl (fun _ => 0))), (q3, .inl (cI, 60, .inl (fun _ => 0))), (q4, .inl (cI, 40, .inl (fun _ => 0))), (q5, .inl (cI, 40, .inl (fun _ => 0))), (q6, .inl (cI, 12, .inl (fun _ => 0))), (q7, .inl (cI, 12, .inl (fun _ => 0))), (q8, .inl (cI, 12, .inl (fun _ => 0))), (q9, .inl (cI, 12, .inl (fun _ => 0)))] := hD
  refine g_aload0 C dX3_init_78 ?_
  refine g_get (ci := 3) (T := TX3) (N := 16) C inX3 hK hP 0 rfl rfl 0 (by decide) wf_X3_7 ⟨rfl, rfl, rfl⟩ rfl dX3_init_79 ?_
  refine g_iconst C (nI 0) (by decide) dX3_init_82 ?_
  refine g_iconst C (nI 3) (by decide) dX3_init_83 ?_
  refine g_iast C hK hP hD hS 1 0 rfl rfl (by omega) (by decide) dX3_init_84 (fun H locs hP hD hS => ?_)
  obtain ⟨t, ht⟩ : ∃ t : Nat → Nat, t = (fun j => match j with | 0 => q1 | 1 => q2 | 2 => q3 | 3 => q4 | 4 => q5 | 5 => q6 | 6 => q7 | 7 => q8 | _ => q9) := ⟨_, rfl⟩
  have hP : va_P (dC, dI) vwCl (MW cI o t (q_s1 (fun _ _ => 0) 0 (upd (fun _ => 0) 0 (nI 3))) (fun _ => 0) 0) H := by subst ht; exact hP
  have hD : va_D (fun q => q = o ∨ s.heap.size ≤ q) (MW cI o t (q_s1 (fun _ _ => 0) 0 (q_zi 0 0 0)) (fun _ => 0) 0) := by subst ht; exact hD.fst rfl
  rw [q_zi_0] at hP
  refine g_iconst C (nI 0) (by decide) dX3_init_85 ?_
  refine g_istore1 C rfl dX3_init_86 ?_
  refine g_lpH (A1 := Nat) (fun j H locs => j ≤ 40 ∧ va_P (dC, dI) vwCl (MW cI o t (q_s1 (fun _ _ => 0) 0 (q_zi j 0 0)) (fun _ => 0) 0) H ∧ va_D (fun q => q = o ∨ s.heap.size ≤ q) (MW cI o t (q_s1 (fun _ _ => 0) 0 (q_zi j 0 0)) (fun _ => 0) 0) ∧ va_S (fun q => q = o ∨ s.heap.size ≤ q) s.heap H locs) (fun j => 40 - j) (fun j => [some (.ref o), some (.int (nI j))]) 0 ⟨by omega, hP, hD, hS⟩ rfl ?_
  rintro j H locs ⟨hj, hP, hD, hS⟩ ih
  try dsimp only at ih ⊢
  refine g_iload1 C dX3_init_87 ?_
  refine g_bipush C (nI 40) (by decide) dX3_init_88 ?_
  refine g_icmp_geN C (by omega) (by omega) 129 dX3_init_90 (by decide) (fun h90 => ?_) (fun h90 => ?_)
  · obtain rfl : j = 40 := by omega
    refine g_iconst C (nI 0) (by decide) dX3_init_129 ?_
    refine g_istore1 C rfl dX3_init_130 ?_
    refine g_lpH (A1 := Nat) (fun j H locs => j ≤ 120 ∧ va_P (dC, dI) vwCl (MW cI o t (q_s1 (fun _ _ => 0) 0 (q_zi 40 j 0)) (fun _ => 0) 0) H ∧ va_D (fun q => q = o ∨ s.heap.size ≤ q) (MW cI o t (q_s1 (fun _ _ => 0) 0 (q_zi 40 j 0)) (fun _ => 0) 0) ∧ va_S (fun q => q = o ∨ s.heap.size ≤ q) s.heap H locs) (fun j => 120 - j) (fun j => [some (.ref o), some (.int (nI j))]) 0 ⟨by omega, hP, hD, hS⟩ rfl ?_
    rintro j H locs ⟨hj, hP, hD, hS⟩ ih
    try dsimp only at ih ⊢
    refine g_iload1 C dX3_init_131 ?_
    refine g_bipush C (nI 120) (by decide) dX3_init_132 ?_
    refine g_icmp_geN C (by omega) (by omega) 154 dX3_init_134 (by decide) (fun h134 => ?_) (fun h134 => ?_)
    · obtain rfl : j = 120 := by omega
      refine g_iconst C (nI 0) (by decide) dX3_init_154 ?_
      refine g_istore1 C rfl dX3_init_155 ?_
      refine g_lpH (A1 := Nat) (fun j H locs => j ≤ 10 ∧ va_P (dC, dI) vwCl (MW cI o t (q_s1 (fun _ _ => 0) 0 (q_zi 40 120 j)) (fun _ => 0) 0) H ∧ va_D (fun q => q = o ∨ s.heap.size ≤ q) (MW cI o t (q_s1 (fun _ _ => 0) 0 (q_zi 40 120 j)) (fun _ => 0) 0) ∧ va_S (fun q => q = o ∨ s.heap.size ≤ q) s.heap H locs) (fun j => 10 - j) (fun j => [some (.ref o), some (.int (nI j))]) 0 ⟨by omega, hP, hD, hS⟩ rfl ?_
      rintro j H locs ⟨hj, hP, hD, hS⟩ ih
      try dsimp only at ih ⊢
      refine g_iload1 C dX3_init_156 ?_
      refine g_bipush C (nI 10) (by decide) dX3_init_157 ?_
      refine g_icmp_geN C (by omega) (by omega) 179 dX3_init_159 (by decide) (fun h159 => ?_) (fun h159 => ?_)
      · obtain rfl : j = 10 := by omega
        exact g_vretM C ⟨t, hP, hD⟩ hS dX3_init_179
      · refine g_aload0 C dX3_init_162 ?_
        refine g_get (ci := 3) (T := TX3) (N := 16) C inX3 hK hP 0 rfl rfl 0 (by decide) wf_X3_7 ⟨rfl, rfl, rfl⟩ rfl dX3_init_163 ?_
        refine g_sipush C (nI 520) (by decide) dX3_init_166 ?_
        refine g_iload1 C dX3_init_169 ?_
        refine g_iaddN C dX3_init_170 ?_
        refine g_iconst C (nI 1) (by decide) dX3_init_171 ?_
        refine g_iast C hK hP hD hS 1 0 rfl rfl (by omega) (by decide) dX3_init_172 (fun H locs hP hD hS => ?_)
        have hP : va_P (dC, dI) vwCl (MW cI o t (q_s1 (fun _ _ => 0) 0 (upd (q_zi 40 120 j) (520 + j) (nI 1))) (fun _ => 0) 0) H := hP
        rw [q_zi_c] at hP
        have hD : va_D (fun q => q = o ∨ s.heap.size ≤ q) (MW cI o t (q_s1 (fun _ _ => 0) 0 (q_zi 40 120 (j + 1))) (fun _ => 0) 0) := hD.fst rfl
        refine g_iinc1 C _ rfl dX3_init_173 (nI_1 _) ?_
        refine g_goto C 156 dX3_init_176 (by decide) ?_
        exact ih (j + 1) H locs ⟨by omega, hP, hD, hS⟩ (by show 10 - (j + 1) < 10 - j; omega)
    · refine g_aload0 C dX3_init_137 ?_
      refine g_get (ci := 3) (T := TX3) (N := 16) C inX3 hK hP 0 rfl rfl 0 (by decide) wf_X3_7 ⟨rfl, rfl, rfl⟩ rfl dX3_init_138 ?_
      refine g_sipush C (nI 160) (by decide) dX3_init_141 ?_
      refine g_iload1 C dX3_init_144 ?_
      refine g_iaddN C dX3_init_145 ?_
      refine g_iconst C (-1) (by decide) dX3_init_146 ?_
      refine g_iast C hK hP hD hS 1 0 rfl rfl (by omega) (by decide) dX3_init_147 (fun H locs hP hD hS => ?_)
      have hP : va_P (dC, dI) vwCl (MW cI o t (q_s1 (fun _ _ => 0) 0 (upd (q_zi 40 j 0) (160 + j) (-1))) (fun _ => 0) 0) H := hP
      rw [q_zi_b] at hP
      have hD : va_D (fun q => q = o ∨ s.heap.size ≤ q) (MW cI o t (q_s1 (fun _ _ => 0) 0 (q_zi 40 (j + 1) 0)) (fun _ => 0) 0) := hD.fst rfl
      refine g_iinc1 C _ rfl dX3_init_148 (nI_1 _) ?_
      refine g_goto C 131 dX3_init_151 (by decide) ?_
      exact ih (j + 1) H locs ⟨by omega, hP, hD, hS⟩ (by show 120 - (j + 1) < 120 - j; omega)
  · refine g_aload0 C dX3_init_93 ?_
    refine g_get (ci := 3) (T := TX3) (N := 16) C inX3 hK hP 0 rfl rfl 0 (by decide) wf_X3_7 ⟨rfl, rfl, rfl⟩ rfl dX3_init_94 ?_
    refine g_bipush C (nI 40) (by decide) dX3_init_97 ?_
    refine g_iload1 C dX3_init_99 ?_
    refine g_iaddN C dX3_init_100 ?_
    refine g_iconst C (-1) (by decide) dX3_init_101 ?_
    refine g_iast C hK hP hD hS 1 0 rfl rfl (by omega) (by decide) dX3_init_102 (fun H locs hP hD hS => ?_)
    have hP : va_P (dC, dI) vwCl (MW cI o t (q_s1 (fun _ _ => 0) 0 (upd (q_zi j 0 0) (40 + j) (-1))) (fun _ => 0) 0) H := hP
    have hD : va_D (fun q => q = o ∨ s.heap.size ≤ q) (MW cI o t (q_s1 (fun _ _ => 0) 0 (upd (q_zi j 0 0) (40 + j) (-1))) (fun _ => 0) 0) := MW_D (A := q_s1 (fun _ _ => 0) 0 (q_zi j 0 0)) (i := fun _ => 0) (h := 0) (hD.fst rfl)
    refine g_aload0 C dX3_init_103 ?_
    refine g_get (ci := 3) (T := TX3) (N := 16) C inX3 hK hP 0 rfl rfl 0 (by decide) wf_X3_7 ⟨rfl, rfl, rfl⟩ rfl dX3_init_104 ?_
    refine g_bipush C (nI 80) (by decide) dX3_init_107 ?_
    refine g_iload1 C dX3_init_109 ?_
    refine g_iaddN C dX3_init_110 ?_
    refine g_iconst C (-1) (by decide) dX3_init_111 ?_
    refine g_iast C hK hP hD hS 1 0 rfl rfl (by omega) (by decide) dX3_init_112 (fun H locs hP hD hS => ?_)
    have hP : va_P (dC, dI) vwCl (MW cI o t (q_s1 (fun _ _ => 0) 0 (upd (upd (q_zi j 0 0) (40 + j) (-1)) (80 + j) (-1))) (fun _ => 0) 0) H := hP
    have hD : va_D (fun q => q = o ∨ s.heap.size ≤ q) (MW cI o t (q_s1 (fun _ _ => 0) 0 (upd (upd (q_zi j 0 0) (40 + j) (-1)) (80 + j) (-1))) (fun _ => 0) 0) := hD.fst rfl
    refine g_aload0 C dX3_init_113 ?_
    refine g_get (ci := 3) (T := TX3) (N := 16) C inX3 hK hP 0 rfl rfl 0 (by decide) wf_X3_7 ⟨rfl, rfl, rfl⟩ rfl dX3_init_114 ?_
    refine g_bipush C (nI 120) (by decide) dX3_init_117 ?_
    refine g_iload1 C dX3_init_119 ?_
    refine g_iaddN C dX3_init_120 ?_
    refine g_iconst C (-1) (by decide) dX3_init_121 ?_
    refine g_iast C hK hP hD hS 1 0 rfl rfl (by omega) (by decide) dX3_init_122 (fun H locs hP hD hS => ?_)
    have hP : va_P (dC, dI) vwCl (MW cI o t (q_s1 (fun _ _ => 0) 0 (upd (upd (upd (q_zi j 0 0) (40 + j) (-1)) (80 + j) (-1)) (120 + j) (-1))) (fun _ => 0) 0) H := hP
    rw [q_zi_a (by omega)] at hP
    have hD : va_D (fun q => q = o ∨ s.heap.size ≤ q) (MW cI o t (q_s1 (fun _ _ => 0) 0 (q_zi (j + 1) 0 0)) (fun _ => 0) 0) := hD.fst rfl
    refine g_iinc1 C _ rfl dX3_init_123 (nI_1 _) ?_
    refine g_goto C 87 dX3_init_126 (by decide) ?_
    exact ih (j + 1) H locs ⟨by omega, hP, hD, hS⟩ (by show 40 - (j + 1) < 40 - j; omega)
