theorem df_X0 : ∀ j, j < 5 → defaultValue (tyX0 j) = vp_V [.int 0, .int 0, .int 0, .int 0, .int 0] j := fun j hj => match j with
  | 0 => rfl
  | 1 => rfl
  | 2 => rfl
  | 3 => rfl
  | 4 => rfl
  | n + 5 => absurd hj (by omega)
theorem df_X1 : ∀ j, j < 12 → defaultValue (tyX1 j) = vp_V [.int 0, .null, .null, .null, .null, .null, .null, .null, .null, .null, .null, .long 0] j := fun j hj => match j with
  | 0 => rfl
  | 1 => rfl
  | 2 => rfl
  | 3 => rfl
  | 4 => rfl
  | 5 => rfl
  | 6 => rfl
  | 7 => rfl
  | 8 => rfl
  | 9 => rfl
  | 10 => rfl
  | 11 => rfl
  | n + 12 => absurd hj (by omega)
theorem df_X2 : ∀ j, j < 6 → defaultValue (tyX2 j) = vp_V [.null, .null, .int 0, .null, .int 0, .null] j := fun j hj => match j with
  | 0 => rfl
  | 1 => rfl
  | 2 => rfl
  | 3 => rfl
  | 4 => rfl
  | 5 => rfl
  | n + 6 => absurd hj (by omega)
theorem D_one {e : Nat} {f : va_E} : va_D (fun q => q = e) [(e, f)] := va_D_iff.mpr ⟨List.nodup_cons.mpr ⟨List.not_mem_nil, List.nodup_nil⟩, fun q hq => by rw [List.mem_singleton.mp hq]⟩
/-- the class's world while its saved Ledgers are made -/
abbrev BI (cI cL : ClassId) (o sa ba a e : Nat) (t : Nat → Nat) (g : Nat → Option Nat) : va_W := BM cI cL o sa ba a e 0 0 g (fun _ => 0) ++ (LW cI a t 0 q_d0 1099511627775 ++ XW e (0, 0, 0, none, 0))
theorem BI_g {dC : Nat → ClassId} {dI : Nat → Nat → Nat} {cI cL : ClassId} {o sa ba a e : Nat} {t : Nat → Nat} {g g' : Nat → Option Nat} {w : va_W} {H : Heap} (h : ∀ j, j < 6 → g j = g' j) (hP : va_P (dC, dI) vwCl (BI cI cL o sa ba a e t g ++ w) H) : va_P (dC, dI) vwCl (BI cI cL o sa ba a e t g' ++ w) H := by
  intro k q hk
  match k with
  | 0 => exact hP 0 q hk
  | 1 =>
    cases hk
    have h1 := hP 1 _ rfl
    show H[sa]? = some (vp_cell _ _)
    rw [← cell_extq h]
    exact h1
  | k + 2 => exact hP (k + 2) q hk
theorem BI_p (cI cL : ClassId) (o sa ba a e : Nat) (t : Nat → Nat) (g : Nat → Option Nat) : ((([(o, .inr (2, [.ref a, .ref sa, .int (nI 0), .ref ba, .int (nI 0), .ref e]))] : va_W) ++ LW cI a t 0 q_d0 1099511627775) ++ ([(sa, .inl (cL, 6, .inr (.inr (.inr (.inr g))))), (ba, .inl (cI, 60, .inl (fun _ => 0)))] : va_W) ++ XW e (0, 0, 0, none, 0)).Perm (BI cI cL o sa ba a e t g) := by
  rw [List.append_assoc, List.append_assoc]
  exact (List.perm_append_comm_assoc (LW cI a t 0 q_d0 1099511627775) ([(sa, .inl (cL, 6, .inr (.inr (.inr (.inr g))))), (ba, .inl (cI, 60, .inl (fun _ => 0)))] : va_W) (XW e (0, 0, 0, none, 0))).cons _
theorem BI_6 (cI cL : ClassId) (o sa ba a e : Nat) (t : Nat → Nat) (sv : Nat → LO) : BI cI cL o sa ba a e t (svg sv) ++ SWp cI sv 6 = BW cI cL o sa ba a e t 0 0 (svg sv) (fun _ => 0) 0 q_d0 1099511627775 (0, 0, 0, none, 0) sv := by
  rw [SWp_6]
  show (BM cI cL o sa ba a e 0 0 (svg sv) (fun _ => 0) ++ (LW cI a t 0 q_d0 1099511627775 ++ XW e (0, 0, 0, none, 0))) ++ SW cI sv = BM cI cL o sa ba a e 0 0 (svg sv) (fun _ => 0) ++ (LW cI a t 0 q_d0 1099511627775 ++ (XW e (0, 0, 0, none, 0) ++ SW cI sv))
  rw [List.append_assoc, List.append_assoc]
/-- a saved Ledger made and put in its place -/
theorem BI_step {dC : Nat → ClassId} {dI : Nat → Nat → Nat} {cI cL : ClassId} {o sa ba a e i b : Nat} {t t2 : Nat → Nat} {sv : Nat → LO} {A : Nat → Prop} {H : Heap} (hP : va_P (dC, dI) vwCl (BI cI cL o sa ba a e t (va_up (fun j => if j < i then some (sv j).1 else none) i (some b)) ++ SWp cI sv i ++ LW cI b t2 0 q_d0 1099511627775) H) (hD : va_D A (BI cI cL o sa ba a e t (va_up (fun j => if j < i then some (sv j).1 else none) i (some b)) ++ SWp cI sv i ++ LW cI b t2 0 q_d0 1099511627775)) : ∃ sv' : Nat → LO, va_P (dC, dI) vwCl (BI cI cL o sa ba a e t (fun j => if j < i + 1 then some (sv' j).1 else none) ++ SWp cI sv' (i + 1)) H ∧ va_D A (BI cI cL o sa ba a e t (fun j => if j < i + 1 then some (sv' j).1 else none) ++ SWp cI sv' (i + 1)) := by
  have e1 : ∀ g, BI cI cL o sa ba a e t g ++ SWp cI (sv_set sv i (b, t2, 0, q_d0, 1099511627775)) (i + 1) = BI cI cL o sa ba a e t g ++ SWp cI sv i ++ LW cI b t2 0 q_d0 1099511627775 := fun g => by rw [SWp_set]; exact (List.append_assoc _ _ _).symm
  refine ⟨sv_set sv i (b, t2, 0, q_d0, 1099511627775), ?_, ?_⟩
  · rw [← e1] at hP
    refine BI_g (fun j hj => ?_) hP
    show (if j = i then some b else if j < i then some (sv j).1 else none) = if j < i + 1 then some (if j = i then ((b, t2, 0, q_d0, 1099511627775) : LO) else sv j).1 else none
    by_cases h : j = i
    · rw [if_pos h, if_pos h, if_pos (by omega)]
    · rw [if_neg h, if_neg h]
      by_cases h2 : j < i
      · rw [if_pos h2, if_pos (by omega)]
      · rw [if_neg h2, if_neg (by omega)]
  · rw [← e1] at hD
    exact hD.fst rfl

set_option maxHeartbeats 4000000 in
set_option maxRecDepth 100000 in
theorem c_X2_init {l : Launch} {dC : Nat → ClassId} {dI : Nat → Nat → Nat} {cI cL cJ : ClassId} {o sz : Nat}  : Met l yX2_init (.code yX2_init cX2_init 2 none :: WG) (rmC 2 80 4005) (va_Pc [.ref o] (fun U => U.heap.size = sz ∧ va_P (dC, dI) vwCl [(o, .inr (2, [.null, .null, .int 0, .null, .int 0, .null]))] U.heap ∧ EV dC dI cI cL cJ U ∧ va_Nw (.methodLinkNest RX2 33 yX0_init RX2) U ∧ va_AO RX1 U)) (bq_M none (fun H => ∃ (sa ba a e : Nat) (t : Nat → Nat) (sv : Nat → LO), va_P (dC, dI) vwCl (BW cI cL o sa ba a e t 0 0 (svg sv) (fun _ => 0) 0 q_d0 1099511627775 (0, 0, 0, none, 0) sv) H ∧ va_D (fun q => q = o ∨ sz ≤ q) (BW cI cL o sa ba a e t 0 0 (svg sv) (fun _ => 0) 0 q_d0 1099511627775 (0, 0, 0, none, 0) sv)) (fun q => q = o ∨ sz ≤ q)) 80 4005 ((fun q => q = o ∨ sz ≤ q)) := by
  refine bq_ofN [some (.ref o), none] rfl rfl (Nat.le_of_ble_eq_true rfl) (by decide) ?_
  intro P_ E_ s M_ B_ T_ K_ C hnm hv
  obtain ⟨hsz, hP, hK, hN, hO⟩ := hv
  subst hsz
  have hS : va_S (fun q => q = o ∨ s.heap.size ≤ q) s.heap s.heap [] := va_S.rf
  have hA : ∀ q, s.heap.size ≤ q → (fun q => q = o ∨ s.heap.size ≤ q) q := fun q h => Or.inr h
  have hD : va_D (fun q => q = o ∨ s.heap.size ≤ q) [(o, .inr (2, [.null, .null, .int 0, .null, .int 0, .null]))] := D_one.weaken (fun k q _ h => Or.inl h)
  have hS8 := hS.1
  refine g_aload0 C dX2_init_0 ?_
  refine g_objInit C wl_X2_1 wi_Object__init__a7 wc_Object__init__a7 rfl ⟨by decide, by simp [rmC, Value.category]⟩ dX2_init_1 ?_
  refine g_aload0 C dX2_init_4 ?_
  refine g_newo (ci := 1) (T := TX1) (N := 12) C inX1 tyX1 tyX1_ok wk_X2_7 wb_X1 wn_X1 hK hP hD hS hA rfl df_X1 (by decide) (by decide) dX2_init_5 (fun a H hP hD hS => ?_)
  refine g_dup C rfl dX2_init_8 ?_
  have hS8 := hS.1
  refine g_mI (As := []) C 0 rfl (c_X1_init (a := a) (sz := H.size)) wl_X2_9 wi_X1_init wn_X1 wc_X1_init rfl (by decide +kernel) ⟨rfl, rfl, by decide, by decide⟩ (fun U g mk v h => ⟨h.1, h.2.1, va_K.moved (u := U) (U := U.calling g mk v) (Vm.Alike.refl U.vm) h.2.2⟩) (fun U hU hW => ⟨by rw [hU], by rw [hU]; exact P_r hP, va_K.moved hW.alike hK⟩) rfl rfl (by simp [Value.category]) ⟨by decide, by decide⟩ hS (fun q h => h.elim (fun z => by subst z; exact (va_D_iff.mp hD).2 _ (List.mem_append_right _ List.mem_cons_self)) (fun z => Or.inr (Nat.le_trans hS.1 z))) dX2_init_9 (fun H1 locs hP1 _ hk1 hS => ?_)
  obtain ⟨t, hP9, hD9⟩ := hP1
  obtain ⟨hP, hD⟩ := PD_init hP hD hP9 hD9 (fun q z => Or.inr (Nat.le_trans hS8 z)) hk1
  refine g_putF (ci := 2) (T := TX2) (N := 6) C inX2 tyX2 tyX2_ok nmX2 hK hP hD hS 0 rfl rfl 0 (by decide) wf_X2_10 ⟨rfl, rfl, rfl⟩ rfl hnm rfl rfl rfl (Nat.le_of_ble_eq_true rfl) dX2_init_12 (fun H locs hP hD hS => ?_)
  have hP : va_P (dC, dI) vwCl (([(o, .inr (2, [.ref a, .null, .int 0, .null, .int 0, .null]))] ++ LW cI a t 0 q_d0 1099511627775) ++ []) H := hP
  have hD : va_D (fun q => q = o ∨ s.heap.size ≤ q) (([(o, .inr (2, [.ref a, .null, .int 0, .null, .int 0, .null]))] ++ LW cI a t 0 q_d0 1099511627775) ++ []) := hD.fst rfl
  refine g_aload0 C dX2_init_15 ?_
  refine g_bipush C (nI 6) (by decide) dX2_init_16 ?_
  refine g_newq C wk_X2_7 hO hK hP hD hS hA (by decide) (by decide) (by decide) (by decide) dX2_init_18 (fun sa H hP hD hS => ?_)
  have hP : va_P (dC, dI) vwCl (([(o, .inr (2, [.ref a, .null, .int 0, .null, .int 0, .null]))] ++ LW cI a t 0 q_d0 1099511627775) ++ [(sa, .inl (cL, 6, .inr (.inr (.inr (.inr (fun _ => none))))))]) H := hP
  have hD : va_D (fun q => q = o ∨ s.heap.size ≤ q) (([(o, .inr (2, [.ref a, .null, .int 0, .null, .int 0, .null]))] ++ LW cI a t 0 q_d0 1099511627775) ++ [(sa, .inl (cL, 6, .inr (.inr (.inr (.inr (fun _ => none))))))]) := hD.fst rfl
  refine g_putF (ci := 2) (T := TX2) (N := 6) C inX2 tyX2 tyX2_ok nmX2 hK hP hD hS 0 rfl rfl 1 (by decide) wf_X2_16 ⟨rfl, rfl, rfl⟩ rfl hnm rfl rfl rfl (Nat.le_of_ble_eq_true rfl) dX2_init_21 (fun H locs hP hD hS => ?_)
  have hP : va_P (dC, dI) vwCl (([(o, .inr (2, [.ref a, .ref sa, .int 0, .null, .int 0, .null]))] ++ LW cI a t 0 q_d0 1099511627775) ++ [(sa, .inl (cL, 6, .inr (.inr (.inr (.inr (fun _ => none))))))]) H := hP
  have hD : va_D (fun q => q = o ∨ s.heap.size ≤ q) (([(o, .inr (2, [.ref a, .ref sa, .int 0, .null, .int 0, .null]))] ++ LW cI a t 0 q_d0 1099511627775) ++ [(sa, .inl (cL, 6, .inr (.inr (.inr (.inr (fun _ => none))))))]) := hD.fst rfl
  refine g_aload0 C dX2_init_24 ?_
  refine g_iconst C (nI 0) (by decide) dX2_init_25 ?_
  refine g_put (ci := 2) (T := TX2) (N := 6) C inX2 tyX2 tyX2_ok nmX2 hK hP hD hS 0 rfl rfl 2 (by decide) wf_X2_20 ⟨rfl, rfl, rfl⟩ rfl rfl rfl (Nat.le_of_ble_eq_true rfl) dX2_init_26 (fun H locs hP hD hS => ?_)
  have hP : va_P (dC, dI) vwCl (([(o, .inr (2, [.ref a, .ref sa, .int (nI 0), .null, .int 0, .null]))] ++ LW cI a t 0 q_d0 1099511627775) ++ [(sa, .inl (cL, 6, .inr (.inr (.inr (.inr (fun _ => none))))))]) H := hP
  have hD : va_D (fun q => q = o ∨ s.heap.size ≤ q) (([(o, .inr (2, [.ref a, .ref sa, .int (nI 0), .null, .int 0, .null]))] ++ LW cI a t 0 q_d0 1099511627775) ++ [(sa, .inl (cL, 6, .inr (.inr (.inr (.inr (fun _ => none))))))]) := hD.fst rfl
  refine g_aload0 C dX2_init_29 ?_
  refine g_bipush C (nI 60) (by decide) dX2_init_30 ?_
  refine g_newa C hK hP hD hS hA (by decide) (by decide) (Nat.le_of_ble_eq_true rfl) (Nat.le_of_ble_eq_true rfl) dX2_init_32 (fun q1 H hP hD hS => ?_)
  refine g_putF (ci := 2) (T := TX2) (N := 6) C inX2 tyX2 tyX2_ok nmX2 hK hP hD hS 0 rfl rfl 3 (by decide) wf_X2_24 ⟨rfl, rfl, rfl⟩ rfl hnm rfl rfl rfl (Nat.le_of_ble_eq_true rfl) dX2_init_34 (fun H locs hP hD hS => ?_)
  have hP : va_P (dC, dI) vwCl (([(o, .inr (2, [.ref a, .ref sa, .int (nI 0), .ref q1, .int 0, .null]))] ++ LW cI a t 0 q_d0 1099511627775) ++ [(sa, .inl (cL, 6, .inr (.inr (.inr (.inr (fun _ => none)))))), (q1, .inl (cI, 60, .inl (fun _ => 0)))]) H := hP
  have hD : va_D (fun q => q = o ∨ s.heap.size ≤ q) (([(o, .inr (2, [.ref a, .ref sa, .int (nI 0), .ref q1, .int 0, .null]))] ++ LW cI a t 0 q_d0 1099511627775) ++ [(sa, .inl (cL, 6, .inr (.inr (.inr (.inr (fun _ => none)))))), (q1, .inl (cI, 60, .inl (fun _ => 0)))]) := hD.fst rfl
  refine g_aload0 C dX2_init_37 ?_
  refine g_iconst C (nI 0) (by decide) dX2_init_38 ?_
  refine g_put (ci := 2) (T := TX2) (N := 6) C inX2 tyX2 tyX2_ok nmX2 hK hP hD hS 0 rfl rfl 4 (by decide) wf_X2_28 ⟨rfl, rfl, rfl⟩ rfl rfl rfl (Nat.le_of_ble_eq_true rfl) dX2_init_39 (fun H locs hP hD hS => ?_)
  have hP : va_P (dC, dI) vwCl (([(o, .inr (2, [.ref a, .ref sa, .int (nI 0), .ref q1, .int (nI 0), .null]))] ++ LW cI a t 0 q_d0 1099511627775) ++ [(sa, .inl (cL, 6, .inr (.inr (.inr (.inr (fun _ => none)))))), (q1, .inl (cI, 60, .inl (fun _ => 0)))]) H := hP
  have hD : va_D (fun q => q = o ∨ s.heap.size ≤ q) (([(o, .inr (2, [.ref a, .ref sa, .int (nI 0), .ref q1, .int (nI 0), .null]))] ++ LW cI a t 0 q_d0 1099511627775) ++ [(sa, .inl (cL, 6, .inr (.inr (.inr (.inr (fun _ => none)))))), (q1, .inl (cI, 60, .inl (fun _ => 0)))]) := hD.fst rfl
  refine g_aload0 C dX2_init_42 ?_
  refine g_newo (ci := 0) (T := TX0) (N := 5) C inX0 tyX0 tyX0_ok wk_X2_31 wb_X0 wn_X0 hK hP hD hS hA rfl df_X0 (by decide) (by decide) dX2_init_43 (fun e H hP hD hS => ?_)
  refine g_dup C rfl dX2_init_46 ?_
  refine g_mIN (As := []) (host := RX2) C 0 rfl (c_X0_init (e := e)) hN wi_X0_init wn_X0 wc_X0_init rfl (by decide +kernel) ⟨rfl, rfl, by decide, by decide⟩ (fun U g mk v h => ⟨h.1, h.2.1, va_K.moved (u := U) (U := U.calling g mk v) (Vm.Alike.refl U.vm) h.2.2⟩) (fun U hU hW => ⟨by rw [hU]; exact P_r hP, D_one, va_K.moved hW.alike hK⟩) rfl rfl (by simp [Value.category]) ⟨by decide, by decide⟩ hS (fun q h => by subst h; exact (va_D_iff.mp hD).2 _ (List.mem_append_right _ List.mem_cons_self)) dX2_init_47 (fun H1 locs hP1 _ hk1 hS => ?_)
  obtain ⟨hP, hD⟩ := PD_join (P_perm List.perm_append_comm hP) (D_perm List.perm_append_comm hD) hP1 (List.Perm.refl _) (fun q hq hn => hk1 q hq (fun z => hn (by subst z; exact List.mem_cons_self)))
  replace hP := P_perm List.perm_append_comm hP
  replace hD := D_perm List.perm_append_comm hD
  refine g_putF (ci := 2) (T := TX2) (N := 6) C inX2 tyX2 tyX2_ok nmX2 hK hP hD hS 0 rfl rfl 5 (by decide) wf_X2_34 ⟨rfl, rfl, rfl⟩ rfl hnm rfl rfl rfl (Nat.le_of_ble_eq_true rfl) dX2_init_50 (fun H locs hP hD hS => ?_)
  have hP : va_P (dC, dI) vwCl ((([(o, .inr (2, [.ref a, .ref sa, .int (nI 0), .ref q1, .int (nI 0), .ref e]))] ++ LW cI a t 0 q_d0 1099511627775) ++ [(sa, .inl (cL, 6, .inr (.inr (.inr (.inr (fun _ => none)))))), (q1, .inl (cI, 60, .inl (fun _ => 0)))]) ++ XW e (0, 0, 0, none, 0)) H := hP
  have hD : va_D (fun q => q = o ∨ s.heap.size ≤ q) ((([(o, .inr (2, [.ref a, .ref sa, .int (nI 0), .ref q1, .int (nI 0), .ref e]))] ++ LW cI a t 0 q_d0 1099511627775) ++ [(sa, .inl (cL, 6, .inr (.inr (.inr (.inr (fun _ => none)))))), (q1, .inl (cI, 60, .inl (fun _ => 0)))]) ++ XW e (0, 0, 0, none, 0)) := hD.fst rfl
  refine g_iconst C (nI 0) (by decide) dX2_init_53 ?_
  refine g_istore1 C rfl dX2_init_54 ?_
  have hS8 := hS.1
  have hP9 : va_P (dC, dI) vwCl (BI cI cL o sa q1 a e t (fun _ => none) ++ []) H := by rw [List.append_nil]; exact P_perm (BI_p cI cL o sa q1 a e t (fun _ => none)) hP
  have hD9 : va_D (fun q => q = o ∨ s.heap.size ≤ q) (BI cI cL o sa q1 a e t (fun _ => none) ++ []) := by rw [List.append_nil]; exact D_perm (BI_p cI cL o sa q1 a e t (fun _ => none)) hD
  refine g_lpC (A2 := (Nat → LO) × Nat) (fun u H locs => u.2 ≤ 6 ∧ va_P (dC, dI) vwCl (BI cI cL o sa q1 a e t (fun j => if j < u.2 then some (u.1 j).1 else none) ++ SWp cI u.1 u.2) H ∧ va_D (fun q => q = o ∨ s.heap.size ≤ q) (BI cI cL o sa q1 a e t (fun j => if j < u.2 then some (u.1 j).1 else none) ++ SWp cI u.1 u.2) ∧ va_S (fun q => q = o ∨ s.heap.size ≤ q) s.heap H locs) (fun u => 6 - u.2) (fun u => 14 + 11 * u.2) (fun u => 633 + 562 * u.2) (fun u => [some (.ref o), some (.int (nI u.2))]) (fun _ => (0, fun _ => 0, 0, fun _ _ => 0, 0), 0) ⟨Nat.zero_le _, BI_g (fun j _ => (if_neg (by omega)).symm) hP9, hD9.fst rfl, hS⟩ rfl rfl rfl ?_
  rintro ⟨sv, i⟩ H locs ⟨hi6, hP, hD, hS⟩ ih
  try dsimp only at hi6 hP hD hS ih ⊢
  have hS8 := hS.1
  refine g_iload1 C dX2_init_55 ?_
  refine g_bipush C (nI 6) (by decide) dX2_init_56 ?_
  refine g_icmp_geN C (by omega) (by omega) 80 dX2_init_58 (by decide) (fun h58 => ?_) (fun h58 => ?_)
  · obtain rfl : i = 6 := by omega
    refine g_wd (k := 80) (n := 4005) (by decide) (by decide) ?_
    have hP := BI_g (g' := svg sv) (fun j hj => if_pos hj) hP
    have hD : va_D (fun q => q = o ∨ s.heap.size ≤ q) (BI cI cL o sa q1 a e t (svg sv) ++ SWp cI sv 6) := hD.fst rfl
    rw [BI_6] at hP hD
    exact g_vretM C ⟨sa, q1, a, e, t, sv, hP, hD⟩ hS dX2_init_80
  · refine g_aload0 C dX2_init_61 ?_
    refine g_get (ci := 2) (T := TX2) (N := 6) C inX2 hK hP 0 rfl rfl 1 (by decide) wf_X2_16 ⟨rfl, rfl, rfl⟩ rfl dX2_init_62 ?_
    refine g_iload1 C dX2_init_65 ?_
    refine g_newo (ci := 1) (T := TX1) (N := 12) C inX1 tyX1 tyX1_ok wk_X2_7 wb_X1 wn_X1 hK hP hD hS hA rfl df_X1 (by show 14 + 11 * i + 1 ≤ 80; omega) (by show 633 + 562 * i + 12 ≤ 4005; omega) dX2_init_66 (fun b H hP hD hS => ?_)
    refine g_dup C rfl dX2_init_69 ?_
    have hS8 := hS.1
    refine g_mI (As := []) C 0 rfl (c_X1_init (a := b) (sz := H.size)) wl_X2_9 wi_X1_init wn_X1 wc_X1_init rfl (by decide +kernel) ⟨rfl, rfl, by decide, by decide⟩ (fun U g mk v h => ⟨h.1, h.2.1, va_K.moved (u := U) (U := U.calling g mk v) (Vm.Alike.refl U.vm) h.2.2⟩) (fun U hU hW => ⟨by rw [hU], by rw [hU]; exact P_r hP, va_K.moved hW.alike hK⟩) rfl rfl (by simp [Value.category]) ⟨by show 14 + 11 * i + 1 + 10 ≤ 80; omega, by show 633 + 562 * i + 12 + 550 ≤ 4005; omega⟩ hS (fun q h => h.elim (fun z => by subst z; exact (va_D_iff.mp hD).2 _ (List.mem_append_right _ List.mem_cons_self)) (fun z => Or.inr (Nat.le_trans hS.1 z))) dX2_init_70 (fun H1 locs hP1 _ hk1 hS => ?_)
    obtain ⟨t2, hP9, hD9⟩ := hP1
    obtain ⟨hP, hD⟩ := PD_init hP hD hP9 hD9 (fun q z => Or.inr (Nat.le_trans hS8 z)) hk1
    refine g_astq C hK hP hD hS 1 rfl (List.mem_append_right _ List.mem_cons_self) rfl (by omega) (by decide) dX2_init_73 (fun H locs hP hD hS => ?_)
    have hP : va_P (dC, dI) vwCl (BI cI cL o sa q1 a e t (va_up (fun j => if j < i then some (sv j).1 else none) i (some b)) ++ SWp cI sv i ++ LW cI b t2 0 q_d0 1099511627775) H := hP
    have hD : va_D (fun q => q = o ∨ s.heap.size ≤ q) (BI cI cL o sa q1 a e t (va_up (fun j => if j < i then some (sv j).1 else none) i (some b)) ++ SWp cI sv i ++ LW cI b t2 0 q_d0 1099511627775) := hD.fst rfl
    obtain ⟨sv2, hP, hD⟩ := BI_step hP hD
    refine g_iinc1 C _ rfl dX2_init_74 (nI_1 _) ?_
    refine g_goto C 55 dX2_init_77 (by decide) ?_
    refine g_wd (k := 14 + 11 * (i + 1)) (n := 633 + 562 * (i + 1)) (by omega) (by omega) ?_
    exact ih (sv2, i + 1) H locs ⟨by show i + 1 ≤ 6; omega, hP, hD, hS⟩ (by show 6 - (i + 1) < 6 - i; omega)
