/-! the law, from its entry -/
theorem tb_NB : ∀ w ∈ NB, w ∈ lw_tbl := List.forall_mem_cons.mpr ⟨wr_1 _ (List.mem_of_getElem? (i := 121) rfl), List.forall_mem_cons.mpr ⟨wr_1 _ (List.mem_of_getElem? (i := 123) rfl), List.forall_mem_cons.mpr ⟨wr_1 _ (List.mem_of_getElem? (i := 125) rfl), List.forall_mem_cons.mpr ⟨wr_1 _ (List.mem_of_getElem? (i := 119) rfl), List.forall_mem_cons.mpr ⟨wr_1 _ (List.mem_of_getElem? (i := 209) rfl), List.forall_mem_cons.mpr ⟨wr_3 _ (List.mem_of_getElem? (i := 57) rfl), fun _ h => absurd h List.not_mem_nil⟩⟩⟩⟩⟩⟩
theorem tb_s44 : Cond.stringRef RX2 44 "the gate stays a path" ∈ lw_tbl := wr_3 _ (List.mem_of_getElem? (i := 49) rfl)
theorem tb_s51 : Cond.stringRef RX2 51 "no such kind" ∈ lw_tbl := wr_3 _ (List.mem_of_getElem? (i := 50) rfl)
theorem tb_s60 : Cond.stringRef RX2 60 "the plot is in use" ∈ lw_tbl := wr_3 _ (List.mem_of_getElem? (i := 64) rfl)
theorem tb_s70 : Cond.stringRef RX2 70 "years out of range" ∈ lw_tbl := wr_3 _ (List.mem_of_getElem? (i := 82) rfl)
theorem tb_s75 : Cond.stringRef RX2 75 "the ledger ends before that year" ∈ lw_tbl := wr_3 _ (List.mem_of_getElem? (i := 83) rfl)
theorem tb_s94 : Cond.stringRef RX2 94 "the burial is refused" ∈ lw_tbl := wr_3 _ (List.mem_of_getElem? (i := 130) rfl)
theorem tb_s104 : Cond.stringRef RX2 104 "the plot cannot be reserved" ∈ lw_tbl := wr_3 _ (List.mem_of_getElem? (i := 93) rfl)
theorem tb_s112 : Cond.stringRef RX2 112 "the plot cannot become a vault" ∈ lw_tbl := wr_3 _ (List.mem_of_getElem? (i := 110) rfl)
theorem tb_s121 : Cond.stringRef RX2 121 "a burial is not old yet" ∈ lw_tbl := wr_3 _ (List.mem_of_getElem? (i := 120) rfl)
theorem tb_s158 : Cond.stringRef RX2 158 "no such depth" ∈ lw_tbl := wr_2 _ (List.mem_of_getElem? (i := 98) rfl)
theorem tb_s213 : Cond.stringRef RX2 213 "no such plot" ∈ lw_tbl := wr_2 _ (List.mem_of_getElem? (i := 94) rfl)
theorem tb_s215 : Cond.stringRef RX2 215 "no such family" ∈ lw_tbl := wr_1 _ (List.mem_of_getElem? (i := 158) rfl)
theorem tb_s217 : Cond.stringRef RX2 217 "depth out of range" ∈ lw_tbl := wr_2 _ (List.mem_of_getElem? (i := 201) rfl)
theorem tb_s219 : Cond.stringRef RX2 219 "no such property" ∈ lw_tbl := wr_1 _ (List.mem_of_getElem? (i := 216) rfl)
theorem tb_AO : Cond.arrayOver (.object RX1) ∈ lw_tbl := wr_1 _ (List.mem_of_getElem? (i := 68) rfl)
theorem tb_NE : Cond.methodLinkNest RX2 33 yX0_init RX2 ∈ lw_tbl := wr_1 _ (List.mem_of_getElem? (i := 71) rfl)
theorem tb_SY : Cond.laysStatic RX1 SY "[I" ∈ lw_tbl := wr_2 _ (List.mem_of_getElem? (i := 16) rfl)
theorem tb_SG : Cond.laysStatic RX1 SG "[I" ∈ lw_tbl := wr_2 _ (List.mem_of_getElem? (i := 131) rfl)
theorem tb_US : Cond.laysStatic Bundle.tN "UNASSIGNED_STACK" Bundle.steD ∈ lw_tbl := wr_1 _ (List.mem_of_getElem? (i := 144) rfl)
theorem tb_SS : Cond.laysStatic Bundle.tN "SUPPRESSED_SENTINEL" Bundle.listD ∈ lw_tbl := wr_1 _ (List.mem_of_getElem? (i := 146) rfl)
theorem tb_Th : Cond.initialized Bundle.tN ∈ lw_tbl := wr_1 _ (List.mem_of_getElem? (i := 4) rfl)
abbrev FL : List Cond := flatC (Jvm.Cond.and given_1 narrow_1)
set_option maxRecDepth 100000 in
theorem fl_s44 : (.exactly (.string "BurialGround" 44) "java/lang/String" : Cond) ∈ FL := by decide +kernel
set_option maxRecDepth 100000 in
theorem fl_s51 : (.exactly (.string "BurialGround" 51) "java/lang/String" : Cond) ∈ FL := by decide +kernel
set_option maxRecDepth 100000 in
theorem fl_s60 : (.exactly (.string "BurialGround" 60) "java/lang/String" : Cond) ∈ FL := by decide +kernel
set_option maxRecDepth 100000 in
theorem fl_s70 : (.exactly (.string "BurialGround" 70) "java/lang/String" : Cond) ∈ FL := by decide +kernel
set_option maxRecDepth 100000 in
theorem fl_s75 : (.exactly (.string "BurialGround" 75) "java/lang/String" : Cond) ∈ FL := by decide +kernel
set_option maxRecDepth 100000 in
theorem fl_s94 : (.exactly (.string "BurialGround" 94) "java/lang/String" : Cond) ∈ FL := by decide +kernel
set_option maxRecDepth 100000 in
theorem fl_s104 : (.exactly (.string "BurialGround" 104) "java/lang/String" : Cond) ∈ FL := by decide +kernel
set_option maxRecDepth 100000 in
theorem fl_s112 : (.exactly (.string "BurialGround" 112) "java/lang/String" : Cond) ∈ FL := by decide +kernel
set_option maxRecDepth 100000 in
theorem fl_s121 : (.exactly (.string "BurialGround" 121) "java/lang/String" : Cond) ∈ FL := by decide +kernel
set_option maxRecDepth 100000 in
theorem fl_s158 : (.exactly (.string "BurialGround" 158) "java/lang/String" : Cond) ∈ FL := by decide +kernel
set_option maxRecDepth 100000 in
theorem fl_s213 : (.exactly (.string "BurialGround" 213) "java/lang/String" : Cond) ∈ FL := by decide +kernel
set_option maxRecDepth 100000 in
theorem fl_s215 : (.exactly (.string "BurialGround" 215) "java/lang/String" : Cond) ∈ FL := by decide +kernel
set_option maxRecDepth 100000 in
theorem fl_s217 : (.exactly (.string "BurialGround" 217) "java/lang/String" : Cond) ∈ FL := by decide +kernel
set_option maxRecDepth 100000 in
theorem fl_s219 : (.exactly (.string "BurialGround" 219) "java/lang/String" : Cond) ∈ FL := by decide +kernel
set_option maxRecDepth 100000 in
theorem fl_SG_a : (.arrayOf (.static "BurialGround$Ledger" "GREATEST_DEPTH" "[I") .int : Cond) ∈ FL := by decide +kernel
set_option maxRecDepth 100000 in
theorem fl_SG_l : (.eq (.length (.static "BurialGround$Ledger" "GREATEST_DEPTH" "[I")) (.int 4) : Cond) ∈ FL := by decide +kernel
set_option maxRecDepth 100000 in
theorem fl_SG_0 : (.eq (.elem (.static "BurialGround$Ledger" "GREATEST_DEPTH" "[I") (.int 0)) (.int 3) : Cond) ∈ FL := by decide +kernel
set_option maxRecDepth 100000 in
theorem fl_SG_1 : (.eq (.elem (.static "BurialGround$Ledger" "GREATEST_DEPTH" "[I") (.int 1)) (.int 2) : Cond) ∈ FL := by decide +kernel
set_option maxRecDepth 100000 in
theorem fl_SG_2 : (.eq (.elem (.static "BurialGround$Ledger" "GREATEST_DEPTH" "[I") (.int 2)) (.int 1) : Cond) ∈ FL := by decide +kernel
set_option maxRecDepth 100000 in
theorem fl_SG_3 : (.eq (.elem (.static "BurialGround$Ledger" "GREATEST_DEPTH" "[I") (.int 3)) (.int 0) : Cond) ∈ FL := by decide +kernel
set_option maxRecDepth 100000 in
theorem fl_SY_a : (.arrayOf (.static "BurialGround$Ledger" "YEARS_OF_REST" "[I") .int : Cond) ∈ FL := by decide +kernel
set_option maxRecDepth 100000 in
theorem fl_SY_l : (.eq (.length (.static "BurialGround$Ledger" "YEARS_OF_REST" "[I")) (.int 4) : Cond) ∈ FL := by decide +kernel
set_option maxRecDepth 100000 in
theorem fl_SY_0 : (.eq (.elem (.static "BurialGround$Ledger" "YEARS_OF_REST" "[I") (.int 0)) (.int 30) : Cond) ∈ FL := by decide +kernel
set_option maxRecDepth 100000 in
theorem fl_SY_1 : (.eq (.elem (.static "BurialGround$Ledger" "YEARS_OF_REST" "[I") (.int 1)) (.int 15) : Cond) ∈ FL := by decide +kernel
set_option maxRecDepth 100000 in
theorem fl_SY_2 : (.eq (.elem (.static "BurialGround$Ledger" "YEARS_OF_REST" "[I") (.int 2)) (.int 60) : Cond) ∈ FL := by decide +kernel
set_option maxRecDepth 100000 in
theorem fl_SY_3 : (.eq (.elem (.static "BurialGround$Ledger" "YEARS_OF_REST" "[I") (.int 3)) (.int 0) : Cond) ∈ FL := by decide +kernel
set_option maxRecDepth 100000 in
theorem fl_US : (.isRef (.static "java/lang/Throwable" "UNASSIGNED_STACK" "[Ljava/lang/StackTraceElement;") : Cond) ∈ FL := by decide +kernel
set_option maxRecDepth 100000 in
theorem fl_SS : (.isRef (.static "java/lang/Throwable" "SUPPRESSED_SENTINEL" "Ljava/util/List;") : Cond) ∈ FL := by decide +kernel
theorem XE_0 {args : Array Value} {s : State} (hts : ∀ w ∈ lw_tbl, w.before args s = true) (hs : ∀ c ∈ FL, c.before args s = true) {A : Nat → Prop} (hA : ∀ a : Nat, a < s.heap.size → ¬ A a) : XE A s s.heap := by
  refine ⟨fun w hw => va_tabs (NB_face w hw).2 rfl (hts w (tb_NB w hw)), ?_, ?_, vx_Zqof (hts _ tb_US) (hts _ tb_Th) (hs _ fl_US) hA, vx_Zqof (hts _ tb_SS) (hts _ tb_Th) (hs _ fl_SS) hA⟩
  · have one : ∀ (k : Nat) (tx : String), Cond.stringRef RX2 k tx ∈ lw_tbl → (Cond.exactly (.string RX2 k) "java/lang/String") ∈ FL → ∃ sa, vk_R RX2 k tx sa s := fun k tx h1 h2 => by
      obtain ⟨a, _, _, _, h, _⟩ := Cond.exactly_spec (hs _ h2)
      exact ⟨a, vk_R.of (hts _ h1) h⟩
    exact List.forall_mem_cons.mpr ⟨one _ _ tb_s44 fl_s44, List.forall_mem_cons.mpr ⟨one _ _ tb_s51 fl_s51, List.forall_mem_cons.mpr ⟨one _ _ tb_s60 fl_s60, List.forall_mem_cons.mpr ⟨one _ _ tb_s70 fl_s70, List.forall_mem_cons.mpr ⟨one _ _ tb_s75 fl_s75, List.forall_mem_cons.mpr ⟨one _ _ tb_s94 fl_s94, List.forall_mem_cons.mpr ⟨one _ _ tb_s104 fl_s104, List.forall_mem_cons.mpr ⟨one _ _ tb_s112 fl_s112, List.forall_mem_cons.mpr ⟨one _ _ tb_s121 fl_s121, List.forall_mem_cons.mpr ⟨one _ _ tb_s158 fl_s158, List.forall_mem_cons.mpr ⟨one _ _ tb_s213 fl_s213, List.forall_mem_cons.mpr ⟨one _ _ tb_s215 fl_s215, List.forall_mem_cons.mpr ⟨one _ _ tb_s217 fl_s217, List.forall_mem_cons.mpr ⟨one _ _ tb_s219 fl_s219, fun _ h => absurd h List.not_mem_nil⟩⟩⟩⟩⟩⟩⟩⟩⟩⟩⟩⟩⟩⟩
  · exact fun _ h => absurd h List.not_mem_nil
theorem ST_0 {args : Array Value} {s : State} (hts : ∀ w ∈ lw_tbl, w.before args s = true) (hs : ∀ c ∈ FL, c.before args s = true) {A : Nat → Prop} (hA : ∀ a : Nat, a < s.heap.size → ¬ A a) : ∃ g1 g2, ST g1 g2 A s s.heap := by
  have hn : (Cond.initialized RX1).before args s = true := hts _ (List.mem_filter.mp wn_X1).1
  obtain ⟨g1, e1, t1⟩ := va_Tof (tm := .static RX1 SG "[I") (ty := .int) (N := 4) (f := fun j => .int (tbG j)) (by decide) (hs _ fl_SG_a) (va_eqt (z := 4) (hs _ fl_SG_l)) (fun j hj => match j, hj with
    | 0, _ => va_eqt (z := 3) (hs _ fl_SG_0)
    | 1, _ => va_eqt (z := 2) (hs _ fl_SG_1)
    | 2, _ => va_eqt (z := 1) (hs _ fl_SG_2)
    | 3, _ => va_eqt (z := 0) (hs _ fl_SG_3)
    | n + 4, h => absurd h (by omega)) hA
  obtain ⟨g2, e2, t2⟩ := va_Tof (tm := .static RX1 SY "[I") (ty := .int) (N := 4) (f := fun j => .int (tbY j)) (by decide) (hs _ fl_SY_a) (va_eqt (z := 4) (hs _ fl_SY_l)) (fun j hj => match j, hj with
    | 0, _ => va_eqt (z := 30) (hs _ fl_SY_0)
    | 1, _ => va_eqt (z := 15) (hs _ fl_SY_1)
    | 2, _ => va_eqt (z := 60) (hs _ fl_SY_2)
    | 3, _ => va_eqt (z := 0) (hs _ fl_SY_3)
    | n + 4, h => absurd h (by omega)) hA
  exact ⟨g1, g2, va_Zref (hts _ tb_SG) hn e1 hA, t1, va_Zref (hts _ tb_SY) hn e2 hA, t2⟩
theorem EV_0 {args : Array Value} {s : State} (hts : ∀ w ∈ lw_tbl, w.before args s = true) : ∃ (dC : Nat → ClassId) (dI : Nat → Nat → Nat) (cI cL cJ : ClassId), EV dC dI cI cL cJ s := by
  have hw : ∀ w ∈ WG, w.before args s = true := fun w h => hts w (List.mem_filter.mp h).1
  obtain ⟨c0, i0, k0⟩ := u_known (C := RX0) (T := TX0) (N := 5) (n := 5) hw inX0 (hw _ wb_X0)
  obtain ⟨c1, i1, k1⟩ := u_known (C := RX1) (T := TX1) (N := 12) (n := 12) hw inX1 (hw _ wb_X1)
  obtain ⟨c2, i2, k2⟩ := u_known (C := RX2) (T := TX2) (N := 6) (n := 6) hw inX2 (hw _ wb_X2)
  obtain ⟨cI, kI, pI, a1, a2, a3⟩ := Cond.arrayClass_spec (hw _ wa_int)
  obtain ⟨cJ, kJ, pJ, j1, j2, j3⟩ := Cond.arrayClass_spec (hw _ wa_long)
  obtain ⟨pL, cL, kL, b1, b2, b3, b4, b5⟩ := Cond.arrayOver_spec (hts _ tb_AO)
  refine ⟨fun k => if k = 0 then c0 else if k = 1 then c1 else c2, fun k => if k = 0 then i0 else if k = 1 then i1 else i2, cI, cL, cJ, fun k q hq => ?_, fun k q hq => ?_⟩
  · match k, hq with
    | 0, hq => cases hq; exact k0
    | 1, hq => cases hq; exact k1
    | 2, hq => cases hq; exact k2
    | n + 3, hq => cases hq
  · match k, hq with
    | 0, hq => cases hq; exact ⟨fun n z => ⟨fun k h => (by cases h), kI, a2, pI, a3⟩, a1⟩
    | 1, hq => cases hq; exact ⟨fun n z => ⟨fun k h => (by cases h), kL, b3, pL, b4⟩, kL, pL, b3, b4, b1, b5⟩
    | 2, hq => cases hq; exact ⟨fun n z => ⟨fun k h => (by cases h), kJ, j2, pJ, j3⟩, j1⟩
    | n + 3, hq => cases hq

