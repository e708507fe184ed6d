def WG : List Cond := lw_tbl.filter goodWord
theorem WG_good : ∀ w ∈ WG, goodWord w = true := fun w h => (List.mem_filter.mp h).2
theorem WG_tbl : ∀ w ∈ WG, w ∈ lw_tbl := fun w h => (List.mem_filter.mp h).1
theorem wr_1 : ∀ w ∈ tables_1_1, w ∈ lw_tbl := fun _ h => List.mem_append_right _ (List.mem_append_left _ h)
theorem wr_2 : ∀ w ∈ tables_1_2, w ∈ lw_tbl := fun _ h => List.mem_append_right _ (List.mem_append_right _ (List.mem_append_left _ h))
theorem wr_3 : ∀ w ∈ tables_1_3, w ∈ lw_tbl := fun _ h => List.mem_append_right _ (List.mem_append_right _ (List.mem_append_right _ (List.mem_append_left _ h)))
theorem wr_4 : ∀ w ∈ tables_1_4, w ∈ lw_tbl := fun _ h => List.mem_append_right _ (List.mem_append_right _ (List.mem_append_right _ (List.mem_append_right _ (List.mem_append_left _ h))))
theorem wr_5 : ∀ w ∈ tables_1_5, w ∈ lw_tbl := fun _ h => List.mem_append_right _ (List.mem_append_right _ (List.mem_append_right _ (List.mem_append_right _ (List.mem_append_right _ h))))
theorem wp_1 : ∀ q ∈ lw_privs_1, Cond.selects q.1.cls q.1 q.1 ∈ lw_tbl := fun q h => List.mem_append_left _ (List.mem_map.mpr ⟨q, (List.mem_append_left _ h), rfl⟩)
theorem wp_2 : ∀ q ∈ lw_privs_2, Cond.selects q.1.cls q.1 q.1 ∈ lw_tbl := fun q h => List.mem_append_left _ (List.mem_map.mpr ⟨q, (List.mem_append_right _ (List.mem_append_left _ h)), rfl⟩)
theorem wp_3 : ∀ q ∈ lw_privs_3, Cond.selects q.1.cls q.1 q.1 ∈ lw_tbl := fun q h => List.mem_append_left _ (List.mem_map.mpr ⟨q, (List.mem_append_right _ (List.mem_append_right _ (List.mem_append_left _ h))), rfl⟩)
theorem wp_4 : ∀ q ∈ lw_privs_4, Cond.selects q.1.cls q.1 q.1 ∈ lw_tbl := fun q h => List.mem_append_left _ (List.mem_map.mpr ⟨q, (List.mem_append_right _ (List.mem_append_right _ (List.mem_append_right _ (List.mem_append_left _ h)))), rfl⟩)
theorem wp_5 : ∀ q ∈ lw_privs_5, Cond.selects q.1.cls q.1 q.1 ∈ lw_tbl := fun q h => List.mem_append_left _ (List.mem_map.mpr ⟨q, (List.mem_append_right _ (List.mem_append_right _ (List.mem_append_right _ (List.mem_append_right _ h)))), rfl⟩)
theorem wn_L : Cond.initialized RL ∈ WG := List.mem_filter.mpr ⟨wr_1 _ (List.mem_of_getElem? (i := 0) rfl), rfl⟩
theorem wn_X2 : Cond.initialized RX2 ∈ WG := List.mem_filter.mpr ⟨wr_1 _ (List.mem_of_getElem? (i := 1) rfl), rfl⟩
theorem wn_X1 : Cond.initialized RX1 ∈ WG := List.mem_filter.mpr ⟨wr_1 _ (List.mem_of_getElem? (i := 2) rfl), rfl⟩
theorem wn_X0 : Cond.initialized RX0 ∈ WG := List.mem_filter.mpr ⟨wr_1 _ (List.mem_of_getElem? (i := 3) rfl), rfl⟩
theorem wn_X3 : Cond.initialized RX3 ∈ WG := List.mem_filter.mpr ⟨wr_1 _ (List.mem_of_getElem? (i := 4) rfl), rfl⟩
theorem wn_Throwable : Cond.initialized "java/lang/Throwable" ∈ WG := List.mem_filter.mpr ⟨wr_1 _ (List.mem_of_getElem? (i := 5) rfl), rfl⟩
theorem wn_Exception : Cond.initialized "java/lang/Exception" ∈ WG := List.mem_filter.mpr ⟨wr_1 _ (List.mem_of_getElem? (i := 6) rfl), rfl⟩
theorem wn_RuntimeException : Cond.initialized "java/lang/RuntimeException" ∈ WG := List.mem_filter.mpr ⟨wr_1 _ (List.mem_of_getElem? (i := 7) rfl), rfl⟩
theorem wn_IndexOutOfBoundsException : Cond.initialized "java/lang/IndexOutOfBoundsException" ∈ WG := List.mem_filter.mpr ⟨wr_1 _ (List.mem_of_getElem? (i := 8) rfl), rfl⟩
theorem wn_IllegalArgumentException : Cond.initialized "java/lang/IllegalArgumentException" ∈ WG := List.mem_filter.mpr ⟨wr_1 _ (List.mem_of_getElem? (i := 9) rfl), rfl⟩
theorem wn_IllegalStateException : Cond.initialized "java/lang/IllegalStateException" ∈ WG := List.mem_filter.mpr ⟨wr_1 _ (List.mem_of_getElem? (i := 10) rfl), rfl⟩
theorem wn_J10 : Cond.initialized RJ10 ∈ WG := List.mem_filter.mpr ⟨wr_1 _ (List.mem_of_getElem? (i := 11) rfl), rfl⟩
theorem wn_J9 : Cond.initialized RJ9 ∈ WG := List.mem_filter.mpr ⟨wr_1 _ (List.mem_of_getElem? (i := 12) rfl), rfl⟩
theorem wn_J13 : Cond.initialized RJ13 ∈ WG := List.mem_filter.mpr ⟨wr_1 _ (List.mem_of_getElem? (i := 13) rfl), rfl⟩
theorem wn_Jxe99ae : Cond.initialized RJxe99ae ∈ WG := List.mem_filter.mpr ⟨wr_1 _ (List.mem_of_getElem? (i := 14) rfl), rfl⟩
theorem wk_L_8 : Cond.classLink RL 8 RX2 ∈ WG := List.mem_filter.mpr ⟨wr_1 _ (List.mem_of_getElem? (i := 15) rfl), rfl⟩
theorem wb_X2 : Cond.instantiable RX2 6 ∈ WG := List.mem_filter.mpr ⟨wr_1 _ (List.mem_of_getElem? (i := 16) rfl), rfl⟩
theorem wl_L_83 : Cond.methodLink RL 83 yX2_init ∈ WG := List.mem_filter.mpr ⟨wr_1 _ (List.mem_of_getElem? (i := 17) rfl), rfl⟩
theorem wi_X2_init : Cond.instanceMethod yX2_init ∈ WG := List.mem_filter.mpr ⟨wr_1 _ (List.mem_of_getElem? (i := 18) rfl), rfl⟩
theorem wc_X2_init : Cond.code yX2_init cX2_init 2 none ∈ WG := List.mem_filter.mpr ⟨wr_1 _ (List.mem_of_getElem? (i := 19) rfl), rfl⟩
theorem wl_X2_1 : Cond.methodLink RX2 1 (⟨"java/lang/Object", "<init>", "()V"⟩ : MethodName) ∈ WG := List.mem_filter.mpr ⟨wr_1 _ (List.mem_of_getElem? (i := 20) rfl), rfl⟩
theorem wi_Object__init__a7 : Cond.instanceMethod (⟨"java/lang/Object", "<init>", "()V"⟩ : MethodName) ∈ WG := List.mem_filter.mpr ⟨wr_1 _ (List.mem_of_getElem? (i := 21) rfl), rfl⟩
theorem wc_Object__init__a7 : Cond.code (⟨"java/lang/Object", "<init>", "()V"⟩ : MethodName) object_method_1_code 1 none ∈ WG := List.mem_filter.mpr ⟨wr_1 _ (List.mem_of_getElem? (i := 22) rfl), rfl⟩
theorem wk_X2_7 : Cond.classLink RX2 7 RX1 ∈ WG := List.mem_filter.mpr ⟨wr_1 _ (List.mem_of_getElem? (i := 23) rfl), rfl⟩
theorem wb_X1 : Cond.instantiable RX1 12 ∈ WG := List.mem_filter.mpr ⟨wr_1 _ (List.mem_of_getElem? (i := 24) rfl), rfl⟩
theorem wl_X2_9 : Cond.methodLink RX2 9 yX1_init ∈ WG := List.mem_filter.mpr ⟨wr_1 _ (List.mem_of_getElem? (i := 25) rfl), rfl⟩
theorem wi_X1_init : Cond.instanceMethod yX1_init ∈ WG := List.mem_filter.mpr ⟨wr_1 _ (List.mem_of_getElem? (i := 26) rfl), rfl⟩
theorem wc_X1_init : Cond.code yX1_init cX1_init 2 none ∈ WG := List.mem_filter.mpr ⟨wr_1 _ (List.mem_of_getElem? (i := 27) rfl), rfl⟩
theorem wl_X1_3 : Cond.methodLink RX1 3 (⟨"java/lang/Object", "<init>", "()V"⟩ : MethodName) ∈ WG := List.mem_filter.mpr ⟨wr_1 _ (List.mem_of_getElem? (i := 28) rfl), rfl⟩
theorem wq_X1_46 : Cond.constantLong RX1 46 (1099511627775) ∈ WG := List.mem_filter.mpr ⟨wr_1 _ (List.mem_of_getElem? (i := 29) rfl), rfl⟩
theorem wf_X1_9 : Cond.fieldLink RX1 9 "BurialGround$Ledger" "year" "I" ∈ WG := List.mem_filter.mpr ⟨wr_1 _ (List.mem_of_getElem? (i := 30) rfl), rfl⟩
theorem wf_X2_72 : Cond.fieldLink RX2 72 "BurialGround$Ledger" "year" "I" ∈ WG := List.mem_filter.mpr ⟨wr_1 _ (List.mem_of_getElem? (i := 31) rfl), rfl⟩
theorem wf_X1_15 : Cond.fieldLink RX1 15 "BurialGround$Ledger" "parish" "[I" ∈ WG := List.mem_filter.mpr ⟨wr_1 _ (List.mem_of_getElem? (i := 32) rfl), rfl⟩
theorem wf_X2_84 : Cond.fieldLink RX2 84 "BurialGround$Ledger" "parish" "[I" ∈ WG := List.mem_filter.mpr ⟨wr_1 _ (List.mem_of_getElem? (i := 33) rfl), rfl⟩
theorem wf_X1_19 : Cond.fieldLink RX1 19 "BurialGround$Ledger" "paid" "[I" ∈ WG := List.mem_filter.mpr ⟨wr_1 _ (List.mem_of_getElem? (i := 34) rfl), rfl⟩
theorem wf_X1_22 : Cond.fieldLink RX1 22 "BurialGround$Ledger" "burialsSoFar" "[I" ∈ WG := List.mem_filter.mpr ⟨wr_1 _ (List.mem_of_getElem? (i := 35) rfl), rfl⟩
theorem wf_X1_25 : Cond.fieldLink RX1 25 "BurialGround$Ledger" "kind" "[I" ∈ WG := List.mem_filter.mpr ⟨wr_1 _ (List.mem_of_getElem? (i := 36) rfl), rfl⟩
theorem wf_X1_28 : Cond.fieldLink RX1 28 "BurialGround$Ledger" "vaultOf" "[I" ∈ WG := List.mem_filter.mpr ⟨wr_1 _ (List.mem_of_getElem? (i := 37) rfl), rfl⟩
theorem wf_X1_31 : Cond.fieldLink RX1 31 "BurialGround$Ledger" "reservedFor" "[I" ∈ WG := List.mem_filter.mpr ⟨wr_1 _ (List.mem_of_getElem? (i := 38) rfl), rfl⟩
theorem wf_X1_34 : Cond.fieldLink RX1 34 "BurialGround$Ledger" "reservedUpTo" "[I" ∈ WG := List.mem_filter.mpr ⟨wr_1 _ (List.mem_of_getElem? (i := 39) rfl), rfl⟩
theorem wf_X1_37 : Cond.fieldLink RX1 37 "BurialGround$Ledger" "buried" "[I" ∈ WG := List.mem_filter.mpr ⟨wr_1 _ (List.mem_of_getElem? (i := 40) rfl), rfl⟩
theorem wf_X1_40 : Cond.fieldLink RX1 40 "BurialGround$Ledger" "buriedIn" "[I" ∈ WG := List.mem_filter.mpr ⟨wr_1 _ (List.mem_of_getElem? (i := 41) rfl), rfl⟩
theorem wf_X1_43 : Cond.fieldLink RX1 43 "BurialGround$Ledger" "feePaid" "[I" ∈ WG := List.mem_filter.mpr ⟨wr_1 _ (List.mem_of_getElem? (i := 42) rfl), rfl⟩
theorem wf_X1_48 : Cond.fieldLink RX1 48 "BurialGround$Ledger" "reached" "J" ∈ WG := List.mem_filter.mpr ⟨wr_1 _ (List.mem_of_getElem? (i := 43) rfl), rfl⟩
theorem wy_X1_year : Cond.lays RX1 "BurialGround$Ledger" "year" "I" ∈ WG := List.mem_filter.mpr ⟨wr_1 _ (List.mem_of_getElem? (i := 44) rfl), rfl⟩
theorem wy_X1_parish : Cond.laysFinal RX1 "BurialGround$Ledger" "parish" "[I" ∈ WG := List.mem_filter.mpr ⟨wr_1 _ (List.mem_of_getElem? (i := 46) rfl), rfl⟩
theorem wy_X1_paid : Cond.laysFinal RX1 "BurialGround$Ledger" "paid" "[I" ∈ WG := List.mem_filter.mpr ⟨wr_1 _ (List.mem_of_getElem? (i := 48) rfl), rfl⟩
theorem wy_X1_burialsSoFar : Cond.laysFinal RX1 "BurialGround$Ledger" "burialsSoFar" "[I" ∈ WG := List.mem_filter.mpr ⟨wr_1 _ (List.mem_of_getElem? (i := 50) rfl), rfl⟩
theorem wy_X1_kind : Cond.laysFinal RX1 "BurialGround$Ledger" "kind" "[I" ∈ WG := List.mem_filter.mpr ⟨wr_1 _ (List.mem_of_getElem? (i := 52) rfl), rfl⟩
theorem wy_X1_vaultOf : Cond.laysFinal RX1 "BurialGround$Ledger" "vaultOf" "[I" ∈ WG := List.mem_filter.mpr ⟨wr_1 _ (List.mem_of_getElem? (i := 54) rfl), rfl⟩
theorem wy_X1_reservedFor : Cond.laysFinal RX1 "BurialGround$Ledger" "reservedFor" "[I" ∈ WG := List.mem_filter.mpr ⟨wr_1 _ (List.mem_of_getElem? (i := 56) rfl), rfl⟩
theorem wy_X1_reservedUpTo : Cond.laysFinal RX1 "BurialGround$Ledger" "reservedUpTo" "[I" ∈ WG := List.mem_filter.mpr ⟨wr_1 _ (List.mem_of_getElem? (i := 58) rfl), rfl⟩
theorem wy_X1_buried : Cond.laysFinal RX1 "BurialGround$Ledger" "buried" "[I" ∈ WG := List.mem_filter.mpr ⟨wr_1 _ (List.mem_of_getElem? (i := 60) rfl), rfl⟩
theorem wy_X1_buriedIn : Cond.laysFinal RX1 "BurialGround$Ledger" "buriedIn" "[I" ∈ WG := List.mem_filter.mpr ⟨wr_1 _ (List.mem_of_getElem? (i := 62) rfl), rfl⟩
theorem wy_X1_feePaid : Cond.laysFinal RX1 "BurialGround$Ledger" "feePaid" "[I" ∈ WG := List.mem_filter.mpr ⟨wr_1 _ (List.mem_of_getElem? (i := 64) rfl), rfl⟩
theorem wy_X1_reached : Cond.lays RX1 "BurialGround$Ledger" "reached" "J" ∈ WG := List.mem_filter.mpr ⟨wr_1 _ (List.mem_of_getElem? (i := 66) rfl), rfl⟩
theorem wa_int : Cond.arrayClass Jvm.ClassFile.FieldType.int ∈ WG := List.mem_filter.mpr ⟨wr_1 _ (List.mem_of_getElem? (i := 69) rfl), rfl⟩
theorem wk_X2_31 : Cond.classLink RX2 31 RX0 ∈ WG := List.mem_filter.mpr ⟨wr_1 _ (List.mem_of_getElem? (i := 71) rfl), rfl⟩
theorem wb_X0 : Cond.instantiable RX0 5 ∈ WG := List.mem_filter.mpr ⟨wr_1 _ (List.mem_of_getElem? (i := 72) rfl), rfl⟩
theorem wi_X0_init : Cond.instanceMethod yX0_init ∈ WG := List.mem_filter.mpr ⟨wr_1 _ (List.mem_of_getElem? (i := 74) rfl), rfl⟩
theorem wc_X0_init : Cond.code yX0_init cX0_init 1 none ∈ WG := List.mem_filter.mpr ⟨wr_1 _ (List.mem_of_getElem? (i := 75) rfl), rfl⟩
theorem wl_X0_3 : Cond.methodLink RX0 3 (⟨"java/lang/Object", "<init>", "()V"⟩ : MethodName) ∈ WG := List.mem_filter.mpr ⟨wr_1 _ (List.mem_of_getElem? (i := 76) rfl), rfl⟩
theorem wf_X0_11 : Cond.fieldLink RX0 11 "BurialGround$EntryReader" "stage" "I" ∈ WG := List.mem_filter.mpr ⟨wr_1 _ (List.mem_of_getElem? (i := 77) rfl), rfl⟩
theorem wf_X0_15 : Cond.fieldLink RX0 15 "BurialGround$EntryReader" "reserves" "Z" ∈ WG := List.mem_filter.mpr ⟨wr_1 _ (List.mem_of_getElem? (i := 78) rfl), rfl⟩
theorem wf_X2_233 : Cond.fieldLink RX2 233 "BurialGround$EntryReader" "reserves" "Z" ∈ WG := List.mem_filter.mpr ⟨wr_1 _ (List.mem_of_getElem? (i := 79) rfl), rfl⟩
theorem wf_X0_19 : Cond.fieldLink RX0 19 "BurialGround$EntryReader" "family" "I" ∈ WG := List.mem_filter.mpr ⟨wr_1 _ (List.mem_of_getElem? (i := 80) rfl), rfl⟩
theorem wf_X2_237 : Cond.fieldLink RX2 237 "BurialGround$EntryReader" "family" "I" ∈ WG := List.mem_filter.mpr ⟨wr_1 _ (List.mem_of_getElem? (i := 81) rfl), rfl⟩
theorem wf_X0_22 : Cond.fieldLink RX0 22 "BurialGround$EntryReader" "plot" "I" ∈ WG := List.mem_filter.mpr ⟨wr_1 _ (List.mem_of_getElem? (i := 82) rfl), rfl⟩
theorem wf_X2_240 : Cond.fieldLink RX2 240 "BurialGround$EntryReader" "plot" "I" ∈ WG := List.mem_filter.mpr ⟨wr_1 _ (List.mem_of_getElem? (i := 83) rfl), rfl⟩
theorem wf_X0_25 : Cond.fieldLink RX0 25 "BurialGround$EntryReader" "number" "I" ∈ WG := List.mem_filter.mpr ⟨wr_1 _ (List.mem_of_getElem? (i := 84) rfl), rfl⟩
theorem wf_X2_243 : Cond.fieldLink RX2 243 "BurialGround$EntryReader" "number" "I" ∈ WG := List.mem_filter.mpr ⟨wr_1 _ (List.mem_of_getElem? (i := 85) rfl), rfl⟩
theorem wy_X0_stage : Cond.lays RX0 "BurialGround$EntryReader" "stage" "I" ∈ WG := List.mem_filter.mpr ⟨wr_1 _ (List.mem_of_getElem? (i := 86) rfl), rfl⟩
theorem wy_X0_reserves : Cond.lays RX0 "BurialGround$EntryReader" "reserves" "Z" ∈ WG := List.mem_filter.mpr ⟨wr_1 _ (List.mem_of_getElem? (i := 88) rfl), rfl⟩
theorem wy_X0_family : Cond.lays RX0 "BurialGround$EntryReader" "family" "I" ∈ WG := List.mem_filter.mpr ⟨wr_1 _ (List.mem_of_getElem? (i := 90) rfl), rfl⟩
theorem wy_X0_plot : Cond.lays RX0 "BurialGround$EntryReader" "plot" "I" ∈ WG := List.mem_filter.mpr ⟨wr_1 _ (List.mem_of_getElem? (i := 92) rfl), rfl⟩
theorem wy_X0_number : Cond.lays RX0 "BurialGround$EntryReader" "number" "I" ∈ WG := List.mem_filter.mpr ⟨wr_1 _ (List.mem_of_getElem? (i := 94) rfl), rfl⟩
theorem wf_X2_10 : Cond.fieldLink RX2 10 "BurialGround" "now" "LBurialGround$Ledger;" ∈ WG := List.mem_filter.mpr ⟨wr_1 _ (List.mem_of_getElem? (i := 97) rfl), rfl⟩
theorem wf_X2_16 : Cond.fieldLink RX2 16 "BurialGround" "saved" "[LBurialGround$Ledger;" ∈ WG := List.mem_filter.mpr ⟨wr_1 _ (List.mem_of_getElem? (i := 98) rfl), rfl⟩
theorem wf_X2_20 : Cond.fieldLink RX2 20 "BurialGround" "savedCount" "I" ∈ WG := List.mem_filter.mpr ⟨wr_1 _ (List.mem_of_getElem? (i := 99) rfl), rfl⟩
theorem wf_X2_24 : Cond.fieldLink RX2 24 "BurialGround" "buffer" "[I" ∈ WG := List.mem_filter.mpr ⟨wr_1 _ (List.mem_of_getElem? (i := 100) rfl), rfl⟩
theorem wf_X2_28 : Cond.fieldLink RX2 28 "BurialGround" "length" "I" ∈ WG := List.mem_filter.mpr ⟨wr_1 _ (List.mem_of_getElem? (i := 101) rfl), rfl⟩
theorem wf_X2_34 : Cond.fieldLink RX2 34 "BurialGround" "reader" "LBurialGround$EntryReader;" ∈ WG := List.mem_filter.mpr ⟨wr_1 _ (List.mem_of_getElem? (i := 102) rfl), rfl⟩
theorem wy_X2_now : Cond.laysFinal RX2 "BurialGround" "now" "LBurialGround$Ledger;" ∈ WG := List.mem_filter.mpr ⟨wr_1 _ (List.mem_of_getElem? (i := 103) rfl), rfl⟩
theorem wy_X2_saved : Cond.laysFinal RX2 "BurialGround" "saved" "[LBurialGround$Ledger;" ∈ WG := List.mem_filter.mpr ⟨wr_1 _ (List.mem_of_getElem? (i := 105) rfl), rfl⟩
theorem wy_X2_savedCount : Cond.lays RX2 "BurialGround" "savedCount" "I" ∈ WG := List.mem_filter.mpr ⟨wr_1 _ (List.mem_of_getElem? (i := 107) rfl), rfl⟩
theorem wy_X2_buffer : Cond.laysFinal RX2 "BurialGround" "buffer" "[I" ∈ WG := List.mem_filter.mpr ⟨wr_1 _ (List.mem_of_getElem? (i := 109) rfl), rfl⟩
theorem wy_X2_length : Cond.lays RX2 "BurialGround" "length" "I" ∈ WG := List.mem_filter.mpr ⟨wr_1 _ (List.mem_of_getElem? (i := 111) rfl), rfl⟩
theorem wy_X2_reader : Cond.laysFinal RX2 "BurialGround" "reader" "LBurialGround$EntryReader;" ∈ WG := List.mem_filter.mpr ⟨wr_1 _ (List.mem_of_getElem? (i := 113) rfl), rfl⟩
theorem wl_L_120 : Cond.methodLink RL 120 yX2_clearBuffer ∈ WG := List.mem_filter.mpr ⟨wr_1 _ (List.mem_of_getElem? (i := 116) rfl), rfl⟩
theorem wi_X2_clearBuffer : Cond.instanceMethod yX2_clearBuffer ∈ WG := List.mem_filter.mpr ⟨wr_1 _ (List.mem_of_getElem? (i := 117) rfl), rfl⟩
theorem wv_X2_clearBuffer : Cond.selects RX2 yX2_clearBuffer yX2_clearBuffer ∈ WG := List.mem_filter.mpr ⟨wr_1 _ (List.mem_of_getElem? (i := 118) rfl), rfl⟩
theorem wc_X2_clearBuffer : Cond.code yX2_clearBuffer cX2_clearBuffer 2 (some .int) ∈ WG := List.mem_filter.mpr ⟨wr_1 _ (List.mem_of_getElem? (i := 119) rfl), rfl⟩
theorem wl_L_124 : Cond.methodLink RL 124 yX2_firstError ∈ WG := List.mem_filter.mpr ⟨wr_1 _ (List.mem_of_getElem? (i := 120) rfl), rfl⟩
theorem wi_X2_firstError : Cond.instanceMethod yX2_firstError ∈ WG := List.mem_filter.mpr ⟨wr_1 _ (List.mem_of_getElem? (i := 121) rfl), rfl⟩
theorem wv_X2_firstError : Cond.selects RX2 yX2_firstError yX2_firstError ∈ WG := List.mem_filter.mpr ⟨wr_1 _ (List.mem_of_getElem? (i := 122) rfl), rfl⟩
theorem wc_X2_firstError : Cond.code yX2_firstError cX2_firstError 1 (some .int) ∈ WG := List.mem_filter.mpr ⟨wr_1 _ (List.mem_of_getElem? (i := 123) rfl), rfl⟩
theorem wl_X2_130 : Cond.methodLink RX2 130 yX2_errorIndex ∈ WG := List.mem_filter.mpr ⟨wr_1 _ (List.mem_of_getElem? (i := 124) rfl), rfl⟩
theorem wi_X2_errorIndex : Cond.instanceMethod yX2_errorIndex ∈ WG := List.mem_filter.mpr ⟨wr_1 _ (List.mem_of_getElem? (i := 126) rfl), rfl⟩
theorem wc_X2_errorIndex : Cond.code yX2_errorIndex cX2_errorIndex 2 (some .int) ∈ WG := List.mem_filter.mpr ⟨wr_1 _ (List.mem_of_getElem? (i := 127) rfl), rfl⟩
theorem wl_X2_224 : Cond.methodLink RX2 224 yX0_startEntry ∈ WG := List.mem_filter.mpr ⟨wr_1 _ (List.mem_of_getElem? (i := 128) rfl), rfl⟩
theorem wi_X0_startEntry : Cond.instanceMethod yX0_startEntry ∈ WG := List.mem_filter.mpr ⟨wr_1 _ (List.mem_of_getElem? (i := 129) rfl), rfl⟩
theorem wv_X0_startEntry : Cond.selects RX0 yX0_startEntry yX0_startEntry ∈ WG := List.mem_filter.mpr ⟨wr_1 _ (List.mem_of_getElem? (i := 130) rfl), rfl⟩
theorem wc_X0_startEntry : Cond.code yX0_startEntry cX0_startEntry 1 none ∈ WG := List.mem_filter.mpr ⟨wr_1 _ (List.mem_of_getElem? (i := 131) rfl), rfl⟩
theorem wl_X2_227 : Cond.methodLink RX2 227 yX0_take ∈ WG := List.mem_filter.mpr ⟨wr_1 _ (List.mem_of_getElem? (i := 132) rfl), rfl⟩
theorem wi_X0_take : Cond.instanceMethod yX0_take ∈ WG := List.mem_filter.mpr ⟨wr_1 _ (List.mem_of_getElem? (i := 133) rfl), rfl⟩
theorem wv_X0_take : Cond.selects RX0 yX0_take yX0_take ∈ WG := List.mem_filter.mpr ⟨wr_1 _ (List.mem_of_getElem? (i := 134) rfl), rfl⟩
theorem wc_X0_take : Cond.code yX0_take cX0_take 2 (some .boolean) ∈ WG := List.mem_filter.mpr ⟨wr_1 _ (List.mem_of_getElem? (i := 135) rfl), rfl⟩
theorem wl_X0_28 : Cond.methodLink RX0 28 yX0_takeLetter ∈ WG := List.mem_filter.mpr ⟨wr_1 _ (List.mem_of_getElem? (i := 136) rfl), rfl⟩
theorem wi_X0_takeLetter : Cond.instanceMethod yX0_takeLetter ∈ WG := List.mem_filter.mpr ⟨wr_1 _ (List.mem_of_getElem? (i := 138) rfl), rfl⟩
theorem wc_X0_takeLetter : Cond.code yX0_takeLetter cX0_takeLetter 2 (some .boolean) ∈ WG := List.mem_filter.mpr ⟨wr_1 _ (List.mem_of_getElem? (i := 139) rfl), rfl⟩
theorem wl_X0_32 : Cond.methodLink RX0 32 yX0_takeFamily ∈ WG := List.mem_filter.mpr ⟨wr_1 _ (List.mem_of_getElem? (i := 140) rfl), rfl⟩
theorem wi_X0_takeFamily : Cond.instanceMethod yX0_takeFamily ∈ WG := List.mem_filter.mpr ⟨wr_1 _ (List.mem_of_getElem? (i := 142) rfl), rfl⟩
theorem wc_X0_takeFamily : Cond.code yX0_takeFamily cX0_takeFamily 2 (some .boolean) ∈ WG := List.mem_filter.mpr ⟨wr_1 _ (List.mem_of_getElem? (i := 143) rfl), rfl⟩
theorem wl_X0_44 : Cond.methodLink RX0 44 yX0_isDigit ∈ WG := List.mem_filter.mpr ⟨wr_1 _ (List.mem_of_getElem? (i := 144) rfl), rfl⟩
theorem wt_X0_isDigit : Cond.static yX0_isDigit ∈ WG := List.mem_filter.mpr ⟨wr_1 _ (List.mem_of_getElem? (i := 145) rfl), rfl⟩
theorem wc_X0_isDigit : Cond.code yX0_isDigit cX0_isDigit 1 (some .boolean) ∈ WG := List.mem_filter.mpr ⟨wr_1 _ (List.mem_of_getElem? (i := 146) rfl), rfl⟩
theorem wl_X0_35 : Cond.methodLink RX0 35 yX0_takeColon ∈ WG := List.mem_filter.mpr ⟨wr_1 _ (List.mem_of_getElem? (i := 147) rfl), rfl⟩
theorem wi_X0_takeColon : Cond.instanceMethod yX0_takeColon ∈ WG := List.mem_filter.mpr ⟨wr_1 _ (List.mem_of_getElem? (i := 149) rfl), rfl⟩
theorem wc_X0_takeColon : Cond.code yX0_takeColon cX0_takeColon 2 (some .boolean) ∈ WG := List.mem_filter.mpr ⟨wr_1 _ (List.mem_of_getElem? (i := 150) rfl), rfl⟩
theorem wl_X0_38 : Cond.methodLink RX0 38 yX0_takeOfPlot ∈ WG := List.mem_filter.mpr ⟨wr_1 _ (List.mem_of_getElem? (i := 151) rfl), rfl⟩
theorem wi_X0_takeOfPlot : Cond.instanceMethod yX0_takeOfPlot ∈ WG := List.mem_filter.mpr ⟨wr_1 _ (List.mem_of_getElem? (i := 153) rfl), rfl⟩
theorem wc_X0_takeOfPlot : Cond.code yX0_takeOfPlot cX0_takeOfPlot 3 (some .boolean) ∈ WG := List.mem_filter.mpr ⟨wr_1 _ (List.mem_of_getElem? (i := 154) rfl), rfl⟩
theorem wl_X0_41 : Cond.methodLink RX0 41 yX0_takeOfNumber ∈ WG := List.mem_filter.mpr ⟨wr_1 _ (List.mem_of_getElem? (i := 155) rfl), rfl⟩
theorem wi_X0_takeOfNumber : Cond.instanceMethod yX0_takeOfNumber ∈ WG := List.mem_filter.mpr ⟨wr_1 _ (List.mem_of_getElem? (i := 157) rfl), rfl⟩
theorem wc_X0_takeOfNumber : Cond.code yX0_takeOfNumber cX0_takeOfNumber 3 (some .boolean) ∈ WG := List.mem_filter.mpr ⟨wr_1 _ (List.mem_of_getElem? (i := 158) rfl), rfl⟩
theorem wl_X0_47 : Cond.methodLink RX0 47 yX0_startEntry ∈ WG := List.mem_filter.mpr ⟨wr_1 _ (List.mem_of_getElem? (i := 159) rfl), rfl⟩
theorem wl_L_168 : Cond.methodLink RL 168 yX2_meanFee ∈ WG := List.mem_filter.mpr ⟨wr_1 _ (List.mem_of_getElem? (i := 160) rfl), rfl⟩
theorem wi_X2_meanFee : Cond.instanceMethod yX2_meanFee ∈ WG := List.mem_filter.mpr ⟨wr_1 _ (List.mem_of_getElem? (i := 161) rfl), rfl⟩
theorem wv_X2_meanFee : Cond.selects RX2 yX2_meanFee yX2_meanFee ∈ WG := List.mem_filter.mpr ⟨wr_1 _ (List.mem_of_getElem? (i := 162) rfl), rfl⟩
theorem wc_X2_meanFee : Cond.code yX2_meanFee cX2_meanFee 1 (some .double) ∈ WG := List.mem_filter.mpr ⟨wr_1 _ (List.mem_of_getElem? (i := 163) rfl), rfl⟩
theorem wl_X2_181 : Cond.methodLink RX2 181 yX1_meanOfFees ∈ WG := List.mem_filter.mpr ⟨wr_1 _ (List.mem_of_getElem? (i := 164) rfl), rfl⟩
theorem wi_X1_meanOfFees : Cond.instanceMethod yX1_meanOfFees ∈ WG := List.mem_filter.mpr ⟨wr_1 _ (List.mem_of_getElem? (i := 165) rfl), rfl⟩
theorem wv_X1_meanOfFees : Cond.selects RX1 yX1_meanOfFees yX1_meanOfFees ∈ WG := List.mem_filter.mpr ⟨wr_1 _ (List.mem_of_getElem? (i := 166) rfl), rfl⟩
theorem wc_X1_meanOfFees : Cond.code yX1_meanOfFees cX1_meanOfFees 4 (some .double) ∈ WG := List.mem_filter.mpr ⟨wr_1 _ (List.mem_of_getElem? (i := 167) rfl), rfl⟩
theorem wl_X1_174 : Cond.methodLink RX1 174 yX1_allBurials ∈ WG := List.mem_filter.mpr ⟨wr_1 _ (List.mem_of_getElem? (i := 168) rfl), rfl⟩
theorem wi_X1_allBurials : Cond.instanceMethod yX1_allBurials ∈ WG := List.mem_filter.mpr ⟨wr_1 _ (List.mem_of_getElem? (i := 170) rfl), rfl⟩
theorem wc_X1_allBurials : Cond.code yX1_allBurials cX1_allBurials 3 (some .int) ∈ WG := List.mem_filter.mpr ⟨wr_1 _ (List.mem_of_getElem? (i := 171) rfl), rfl⟩
theorem wl_X1_58 : Cond.methodLink RX1 58 yX1_burialsIn ∈ WG := List.mem_filter.mpr ⟨wr_1 _ (List.mem_of_getElem? (i := 172) rfl), rfl⟩
theorem wi_X1_burialsIn : Cond.instanceMethod yX1_burialsIn ∈ WG := List.mem_filter.mpr ⟨wr_1 _ (List.mem_of_getElem? (i := 174) rfl), rfl⟩
theorem wc_X1_burialsIn : Cond.code yX1_burialsIn cX1_burialsIn 5 (some .int) ∈ WG := List.mem_filter.mpr ⟨wr_1 _ (List.mem_of_getElem? (i := 175) rfl), rfl⟩
theorem wl_L_173 : Cond.methodLink RL 173 yX2_digest ∈ WG := List.mem_filter.mpr ⟨wr_1 _ (List.mem_of_getElem? (i := 176) rfl), rfl⟩
theorem wi_X2_digest : Cond.instanceMethod yX2_digest ∈ WG := List.mem_filter.mpr ⟨wr_1 _ (List.mem_of_getElem? (i := 177) rfl), rfl⟩
theorem wv_X2_digest : Cond.selects RX2 yX2_digest yX2_digest ∈ WG := List.mem_filter.mpr ⟨wr_1 _ (List.mem_of_getElem? (i := 178) rfl), rfl⟩
theorem wc_X2_digest : Cond.code yX2_digest cX2_digest 4 (some .long) ∈ WG := List.mem_filter.mpr ⟨wr_1 _ (List.mem_of_getElem? (i := 179) rfl), rfl⟩
theorem wq_X2_185 : Cond.constantLong RX2 185 (2267) ∈ WG := List.mem_filter.mpr ⟨wr_1 _ (List.mem_of_getElem? (i := 180) rfl), rfl⟩
theorem wq_X2_187 : Cond.constantLong RX2 187 (31) ∈ WG := List.mem_filter.mpr ⟨wr_1 _ (List.mem_of_getElem? (i := 181) rfl), rfl⟩
theorem wl_X2_166 : Cond.methodLink RX2 166 yX2_number ∈ WG := List.mem_filter.mpr ⟨wr_1 _ (List.mem_of_getElem? (i := 182) rfl), rfl⟩
theorem wi_X2_number : Cond.instanceMethod yX2_number ∈ WG := List.mem_filter.mpr ⟨wr_1 _ (List.mem_of_getElem? (i := 184) rfl), rfl⟩
theorem wc_X2_number : Cond.code yX2_number cX2_number 2 (some .int) ∈ WG := List.mem_filter.mpr ⟨wr_1 _ (List.mem_of_getElem? (i := 185) rfl), rfl⟩
theorem wl_X2_210 : Cond.methodLink RX2 210 yX1_total ∈ WG := List.mem_filter.mpr ⟨wr_1 _ (List.mem_of_getElem? (i := 186) rfl), rfl⟩
theorem wi_X1_total : Cond.instanceMethod yX1_total ∈ WG := List.mem_filter.mpr ⟨wr_1 _ (List.mem_of_getElem? (i := 187) rfl), rfl⟩
theorem wv_X1_total : Cond.selects RX1 yX1_total yX1_total ∈ WG := List.mem_filter.mpr ⟨wr_1 _ (List.mem_of_getElem? (i := 188) rfl), rfl⟩
theorem wc_X1_total : Cond.code yX1_total cX1_total 2 (some .int) ∈ WG := List.mem_filter.mpr ⟨wr_1 _ (List.mem_of_getElem? (i := 189) rfl), rfl⟩
theorem wl_X1_178 : Cond.methodLink RX1 178 yX1_allRestingBurials ∈ WG := List.mem_filter.mpr ⟨wr_1 _ (List.mem_of_getElem? (i := 190) rfl), rfl⟩
theorem wi_X1_allRestingBurials : Cond.instanceMethod yX1_allRestingBurials ∈ WG := List.mem_filter.mpr ⟨wr_1 _ (List.mem_of_getElem? (i := 192) rfl), rfl⟩
theorem wc_X1_allRestingBurials : Cond.code yX1_allRestingBurials cX1_allRestingBurials 3 (some .int) ∈ WG := List.mem_filter.mpr ⟨wr_1 _ (List.mem_of_getElem? (i := 193) rfl), rfl⟩
theorem wl_X1_162 : Cond.methodLink RX1 162 yX1_restingBurials ∈ WG := List.mem_filter.mpr ⟨wr_1 _ (List.mem_of_getElem? (i := 194) rfl), rfl⟩
theorem wi_X1_restingBurials : Cond.instanceMethod yX1_restingBurials ∈ WG := List.mem_filter.mpr ⟨wr_1 _ (List.mem_of_getElem? (i := 195) rfl), rfl⟩
theorem wv_X1_restingBurials : Cond.selects RX1 yX1_restingBurials yX1_restingBurials ∈ WG := List.mem_filter.mpr ⟨wr_1 _ (List.mem_of_getElem? (i := 196) rfl), rfl⟩
theorem wc_X1_restingBurials : Cond.code yX1_restingBurials cX1_restingBurials 5 (some .int) ∈ WG := List.mem_filter.mpr ⟨wr_1 _ (List.mem_of_getElem? (i := 197) rfl), rfl⟩
theorem wl_X1_100 : Cond.methodLink RX1 100 yX1_isResting ∈ WG := List.mem_filter.mpr ⟨wr_1 _ (List.mem_of_getElem? (i := 198) rfl), rfl⟩
theorem wi_X1_isResting : Cond.instanceMethod yX1_isResting ∈ WG := List.mem_filter.mpr ⟨wr_1 _ (List.mem_of_getElem? (i := 200) rfl), rfl⟩
theorem wc_X1_isResting : Cond.code yX1_isResting cX1_isResting 3 (some .boolean) ∈ WG := List.mem_filter.mpr ⟨wr_1 _ (List.mem_of_getElem? (i := 201) rfl), rfl⟩
theorem wl_X1_97 : Cond.methodLink RX1 97 yX1_endOfRest ∈ WG := List.mem_filter.mpr ⟨wr_1 _ (List.mem_of_getElem? (i := 202) rfl), rfl⟩
theorem wi_X1_endOfRest : Cond.instanceMethod yX1_endOfRest ∈ WG := List.mem_filter.mpr ⟨wr_1 _ (List.mem_of_getElem? (i := 204) rfl), rfl⟩
theorem wc_X1_endOfRest : Cond.code yX1_endOfRest cX1_endOfRest 2 (some .int) ∈ WG := List.mem_filter.mpr ⟨wr_1 _ (List.mem_of_getElem? (i := 205) rfl), rfl⟩
theorem wf_X1_94 : Cond.fieldLink RX1 94 "BurialGround$Ledger" "YEARS_OF_REST" "[I" ∈ WG := List.mem_filter.mpr ⟨wr_1 _ (List.mem_of_getElem? (i := 206) rfl), rfl⟩
theorem wl_X1_131 : Cond.methodLink RX1 131 yX1_soilPlots ∈ WG := List.mem_filter.mpr ⟨wr_1 _ (List.mem_of_getElem? (i := 208) rfl), rfl⟩
theorem wi_X1_soilPlots : Cond.instanceMethod yX1_soilPlots ∈ WG := List.mem_filter.mpr ⟨wr_1 _ (List.mem_of_getElem? (i := 210) rfl), rfl⟩
theorem wc_X1_soilPlots : Cond.code yX1_soilPlots cX1_soilPlots 4 (some .long) ∈ WG := List.mem_filter.mpr ⟨wr_1 _ (List.mem_of_getElem? (i := 211) rfl), rfl⟩
theorem wl_X1_114 : Cond.methodLink RX1 114 yX1_bitOf ∈ WG := List.mem_filter.mpr ⟨wr_1 _ (List.mem_of_getElem? (i := 212) rfl), rfl⟩
theorem wt_X1_bitOf : Cond.static yX1_bitOf ∈ WG := List.mem_filter.mpr ⟨wr_1 _ (List.mem_of_getElem? (i := 213) rfl), rfl⟩
theorem wc_X1_bitOf : Cond.code yX1_bitOf cX1_bitOf 1 (some .long) ∈ WG := List.mem_filter.mpr ⟨wr_1 _ (List.mem_of_getElem? (i := 214) rfl), rfl⟩
theorem wl_X1_122 : Cond.methodLink RX1 122 yX1_openPlots ∈ WG := List.mem_filter.mpr ⟨wr_1 _ (List.mem_of_getElem? (i := 215) rfl), rfl⟩
theorem wi_X1_openPlots : Cond.instanceMethod yX1_openPlots ∈ WG := List.mem_filter.mpr ⟨wr_1 _ (List.mem_of_getElem? (i := 217) rfl), rfl⟩
theorem wc_X1_openPlots : Cond.code yX1_openPlots cX1_openPlots 4 (some .long) ∈ WG := List.mem_filter.mpr ⟨wr_1 _ (List.mem_of_getElem? (i := 218) rfl), rfl⟩
theorem wl_X1_134 : Cond.methodLink RX1 134 yJ13_bitCount_95d88 ∈ WG := List.mem_filter.mpr ⟨wr_1 _ (List.mem_of_getElem? (i := 219) rfl), rfl⟩
theorem wt_J13_bitCount_95d88 : Cond.static yJ13_bitCount_95d88 ∈ WG := List.mem_filter.mpr ⟨wr_1 _ (List.mem_of_getElem? (i := 220) rfl), rfl⟩
theorem wc_J13_bitCount_95d88 : Cond.code yJ13_bitCount_95d88 cJ13_bitCount_95d88 2 (some .int) ∈ WG := List.mem_filter.mpr ⟨wr_1 _ (List.mem_of_getElem? (i := 221) rfl), rfl⟩
theorem wq_J13_314 : Cond.constantLong RJ13 314 (6148914691236517205) ∈ WG := List.mem_filter.mpr ⟨wr_1 _ (List.mem_of_getElem? (i := 222) rfl), rfl⟩
theorem wq_J13_316 : Cond.constantLong RJ13 316 (3689348814741910323) ∈ WG := List.mem_filter.mpr ⟨wr_1 _ (List.mem_of_getElem? (i := 223) rfl), rfl⟩
theorem wq_J13_318 : Cond.constantLong RJ13 318 (1085102592571150095) ∈ WG := List.mem_filter.mpr ⟨wr_1 _ (List.mem_of_getElem? (i := 224) rfl), rfl⟩
theorem wq_X1_126 : Cond.constantLong RX1 126 (-1) ∈ WG := List.mem_filter.mpr ⟨wr_1 _ (List.mem_of_getElem? (i := 225) rfl), rfl⟩
theorem wl_X1_181 : Cond.methodLink RX1 181 yX1_lastingReservations ∈ WG := List.mem_filter.mpr ⟨wr_1 _ (List.mem_of_getElem? (i := 226) rfl), rfl⟩
theorem wi_X1_lastingReservations : Cond.instanceMethod yX1_lastingReservations ∈ WG := List.mem_filter.mpr ⟨wr_1 _ (List.mem_of_getElem? (i := 227) rfl), rfl⟩
theorem wv_X1_lastingReservations : Cond.selects RX1 yX1_lastingReservations yX1_lastingReservations ∈ WG := List.mem_filter.mpr ⟨wr_1 _ (List.mem_of_getElem? (i := 228) rfl), rfl⟩
theorem wc_X1_lastingReservations : Cond.code yX1_lastingReservations cX1_lastingReservations 3 (some .int) ∈ WG := List.mem_filter.mpr ⟨wr_1 _ (List.mem_of_getElem? (i := 229) rfl), rfl⟩
theorem wl_X1_108 : Cond.methodLink RX1 108 yX1_isReservedIn ∈ WG := List.mem_filter.mpr ⟨wr_1 _ (List.mem_of_getElem? (i := 230) rfl), rfl⟩
theorem wi_X1_isReservedIn : Cond.instanceMethod yX1_isReservedIn ∈ WG := List.mem_filter.mpr ⟨wr_1 _ (List.mem_of_getElem? (i := 232) rfl), rfl⟩
theorem wc_X1_isReservedIn : Cond.code yX1_isReservedIn cX1_isReservedIn 3 (some .boolean) ∈ WG := List.mem_filter.mpr ⟨wr_1 _ (List.mem_of_getElem? (i := 233) rfl), rfl⟩
theorem wl_X1_184 : Cond.methodLink RX1 184 yX1_allVaults ∈ WG := List.mem_filter.mpr ⟨wr_1 _ (List.mem_of_getElem? (i := 234) rfl), rfl⟩
theorem wi_X1_allVaults : Cond.instanceMethod yX1_allVaults ∈ WG := List.mem_filter.mpr ⟨wr_1 _ (List.mem_of_getElem? (i := 236) rfl), rfl⟩
theorem wc_X1_allVaults : Cond.code yX1_allVaults cX1_allVaults 3 (some .int) ∈ WG := List.mem_filter.mpr ⟨wr_1 _ (List.mem_of_getElem? (i := 237) rfl), rfl⟩
theorem wl_X1_171 : Cond.methodLink RX1 171 yX1_vaultsOf ∈ WG := List.mem_filter.mpr ⟨wr_1 _ (List.mem_of_getElem? (i := 238) rfl), rfl⟩
theorem wi_X1_vaultsOf : Cond.instanceMethod yX1_vaultsOf ∈ WG := List.mem_filter.mpr ⟨wr_2 _ (List.mem_of_getElem? (i := 0) rfl), rfl⟩
theorem wc_X1_vaultsOf : Cond.code yX1_vaultsOf cX1_vaultsOf 4 (some .int) ∈ WG := List.mem_filter.mpr ⟨wr_2 _ (List.mem_of_getElem? (i := 1) rfl), rfl⟩
theorem wl_X1_187 : Cond.methodLink RX1 187 yX1_allPaid ∈ WG := List.mem_filter.mpr ⟨wr_2 _ (List.mem_of_getElem? (i := 2) rfl), rfl⟩
theorem wi_X1_allPaid : Cond.instanceMethod yX1_allPaid ∈ WG := List.mem_filter.mpr ⟨wr_2 _ (List.mem_of_getElem? (i := 4) rfl), rfl⟩
theorem wc_X1_allPaid : Cond.code yX1_allPaid cX1_allPaid 3 (some .int) ∈ WG := List.mem_filter.mpr ⟨wr_2 _ (List.mem_of_getElem? (i := 5) rfl), rfl⟩
theorem wl_X2_189 : Cond.methodLink RX2 189 yX2_plotDigest ∈ WG := List.mem_filter.mpr ⟨wr_2 _ (List.mem_of_getElem? (i := 6) rfl), rfl⟩
theorem wi_X2_plotDigest : Cond.instanceMethod yX2_plotDigest ∈ WG := List.mem_filter.mpr ⟨wr_2 _ (List.mem_of_getElem? (i := 8) rfl), rfl⟩
theorem wc_X2_plotDigest : Cond.code yX2_plotDigest cX2_plotDigest 8 (some .long) ∈ WG := List.mem_filter.mpr ⟨wr_2 _ (List.mem_of_getElem? (i := 9) rfl), rfl⟩
theorem wl_X2_152 : Cond.methodLink RX2 152 yX1_plotProperty ∈ WG := List.mem_filter.mpr ⟨wr_2 _ (List.mem_of_getElem? (i := 10) rfl), rfl⟩
theorem wi_X1_plotProperty : Cond.instanceMethod yX1_plotProperty ∈ WG := List.mem_filter.mpr ⟨wr_2 _ (List.mem_of_getElem? (i := 11) rfl), rfl⟩
theorem wv_X1_plotProperty : Cond.selects RX1 yX1_plotProperty yX1_plotProperty ∈ WG := List.mem_filter.mpr ⟨wr_2 _ (List.mem_of_getElem? (i := 12) rfl), rfl⟩
theorem wc_X1_plotProperty : Cond.code yX1_plotProperty cX1_plotProperty 3 (some .int) ∈ WG := List.mem_filter.mpr ⟨wr_2 _ (List.mem_of_getElem? (i := 13) rfl), rfl⟩
theorem wl_X1_74 : Cond.methodLink RX1 74 yX1_holder ∈ WG := List.mem_filter.mpr ⟨wr_2 _ (List.mem_of_getElem? (i := 14) rfl), rfl⟩
theorem wi_X1_holder : Cond.instanceMethod yX1_holder ∈ WG := List.mem_filter.mpr ⟨wr_2 _ (List.mem_of_getElem? (i := 16) rfl), rfl⟩
theorem wc_X1_holder : Cond.code yX1_holder cX1_holder 5 (some .int) ∈ WG := List.mem_filter.mpr ⟨wr_2 _ (List.mem_of_getElem? (i := 17) rfl), rfl⟩
theorem wl_X1_87 : Cond.methodLink RX1 87 yX1_isReached ∈ WG := List.mem_filter.mpr ⟨wr_2 _ (List.mem_of_getElem? (i := 18) rfl), rfl⟩
theorem wi_X1_isReached : Cond.instanceMethod yX1_isReached ∈ WG := List.mem_filter.mpr ⟨wr_2 _ (List.mem_of_getElem? (i := 20) rfl), rfl⟩
theorem wc_X1_isReached : Cond.code yX1_isReached cX1_isReached 2 (some .boolean) ∈ WG := List.mem_filter.mpr ⟨wr_2 _ (List.mem_of_getElem? (i := 21) rfl), rfl⟩
theorem wl_X1_140 : Cond.methodLink RX1 140 yX1_greatestDepth ∈ WG := List.mem_filter.mpr ⟨wr_2 _ (List.mem_of_getElem? (i := 22) rfl), rfl⟩
theorem wi_X1_greatestDepth : Cond.instanceMethod yX1_greatestDepth ∈ WG := List.mem_filter.mpr ⟨wr_2 _ (List.mem_of_getElem? (i := 24) rfl), rfl⟩
theorem wc_X1_greatestDepth : Cond.code yX1_greatestDepth cX1_greatestDepth 2 (some .int) ∈ WG := List.mem_filter.mpr ⟨wr_2 _ (List.mem_of_getElem? (i := 25) rfl), rfl⟩
theorem wf_X1_111 : Cond.fieldLink RX1 111 "BurialGround$Ledger" "GREATEST_DEPTH" "[I" ∈ WG := List.mem_filter.mpr ⟨wr_2 _ (List.mem_of_getElem? (i := 26) rfl), rfl⟩
theorem wl_X2_160 : Cond.methodLink RX2 160 yX1_burialProperty ∈ WG := List.mem_filter.mpr ⟨wr_2 _ (List.mem_of_getElem? (i := 28) rfl), rfl⟩
theorem wi_X1_burialProperty : Cond.instanceMethod yX1_burialProperty ∈ WG := List.mem_filter.mpr ⟨wr_2 _ (List.mem_of_getElem? (i := 29) rfl), rfl⟩
theorem wv_X1_burialProperty : Cond.selects RX1 yX1_burialProperty yX1_burialProperty ∈ WG := List.mem_filter.mpr ⟨wr_2 _ (List.mem_of_getElem? (i := 30) rfl), rfl⟩
theorem wc_X1_burialProperty : Cond.code yX1_burialProperty cX1_burialProperty 5 (some .int) ∈ WG := List.mem_filter.mpr ⟨wr_2 _ (List.mem_of_getElem? (i := 31) rfl), rfl⟩
theorem wl_X1_62 : Cond.methodLink RX1 62 yX1_placeOf ∈ WG := List.mem_filter.mpr ⟨wr_2 _ (List.mem_of_getElem? (i := 32) rfl), rfl⟩
theorem wt_X1_placeOf : Cond.static yX1_placeOf ∈ WG := List.mem_filter.mpr ⟨wr_2 _ (List.mem_of_getElem? (i := 33) rfl), rfl⟩
theorem wc_X1_placeOf : Cond.code yX1_placeOf cX1_placeOf 2 (some .int) ∈ WG := List.mem_filter.mpr ⟨wr_2 _ (List.mem_of_getElem? (i := 34) rfl), rfl⟩
theorem wl_X2_175 : Cond.methodLink RX2 175 yX1_yearOfRest ∈ WG := List.mem_filter.mpr ⟨wr_2 _ (List.mem_of_getElem? (i := 35) rfl), rfl⟩
theorem wi_X1_yearOfRest : Cond.instanceMethod yX1_yearOfRest ∈ WG := List.mem_filter.mpr ⟨wr_2 _ (List.mem_of_getElem? (i := 36) rfl), rfl⟩
theorem wv_X1_yearOfRest : Cond.selects RX1 yX1_yearOfRest yX1_yearOfRest ∈ WG := List.mem_filter.mpr ⟨wr_2 _ (List.mem_of_getElem? (i := 37) rfl), rfl⟩
theorem wc_X1_yearOfRest : Cond.code yX1_yearOfRest cX1_yearOfRest 5 (some .int) ∈ WG := List.mem_filter.mpr ⟨wr_2 _ (List.mem_of_getElem? (i := 38) rfl), rfl⟩
theorem wl_X1_103 : Cond.methodLink RX1 103 yJ9_max_7cf53 ∈ WG := List.mem_filter.mpr ⟨wr_2 _ (List.mem_of_getElem? (i := 39) rfl), rfl⟩
theorem wt_J9_max_7cf53 : Cond.static yJ9_max_7cf53 ∈ WG := List.mem_filter.mpr ⟨wr_2 _ (List.mem_of_getElem? (i := 40) rfl), rfl⟩
theorem wc_J9_max_7cf53 : Cond.code yJ9_max_7cf53 cJ9_max_7cf53 2 (some .int) ∈ WG := List.mem_filter.mpr ⟨wr_2 _ (List.mem_of_getElem? (i := 41) rfl), rfl⟩
theorem wl_X2_193 : Cond.methodLink RX2 193 yX2_familyDigest ∈ WG := List.mem_filter.mpr ⟨wr_2 _ (List.mem_of_getElem? (i := 42) rfl), rfl⟩
theorem wi_X2_familyDigest : Cond.instanceMethod yX2_familyDigest ∈ WG := List.mem_filter.mpr ⟨wr_2 _ (List.mem_of_getElem? (i := 44) rfl), rfl⟩
theorem wc_X2_familyDigest : Cond.code yX2_familyDigest cX2_familyDigest 7 (some .long) ∈ WG := List.mem_filter.mpr ⟨wr_2 _ (List.mem_of_getElem? (i := 45) rfl), rfl⟩
theorem wl_X2_163 : Cond.methodLink RX2 163 yX1_familyProperty ∈ WG := List.mem_filter.mpr ⟨wr_2 _ (List.mem_of_getElem? (i := 46) rfl), rfl⟩
theorem wi_X1_familyProperty : Cond.instanceMethod yX1_familyProperty ∈ WG := List.mem_filter.mpr ⟨wr_2 _ (List.mem_of_getElem? (i := 47) rfl), rfl⟩
theorem wv_X1_familyProperty : Cond.selects RX1 yX1_familyProperty yX1_familyProperty ∈ WG := List.mem_filter.mpr ⟨wr_2 _ (List.mem_of_getElem? (i := 48) rfl), rfl⟩
theorem wc_X1_familyProperty : Cond.code yX1_familyProperty cX1_familyProperty 3 (some .int) ∈ WG := List.mem_filter.mpr ⟨wr_2 _ (List.mem_of_getElem? (i := 49) rfl), rfl⟩
theorem wl_X1_165 : Cond.methodLink RX1 165 yX1_burialsOf ∈ WG := List.mem_filter.mpr ⟨wr_2 _ (List.mem_of_getElem? (i := 50) rfl), rfl⟩
theorem wi_X1_burialsOf : Cond.instanceMethod yX1_burialsOf ∈ WG := List.mem_filter.mpr ⟨wr_2 _ (List.mem_of_getElem? (i := 52) rfl), rfl⟩
theorem wc_X1_burialsOf : Cond.code yX1_burialsOf cX1_burialsOf 4 (some .int) ∈ WG := List.mem_filter.mpr ⟨wr_2 _ (List.mem_of_getElem? (i := 53) rfl), rfl⟩
theorem wl_X1_168 : Cond.methodLink RX1 168 yX1_plotsHeldBy ∈ WG := List.mem_filter.mpr ⟨wr_2 _ (List.mem_of_getElem? (i := 54) rfl), rfl⟩
theorem wi_X1_plotsHeldBy : Cond.instanceMethod yX1_plotsHeldBy ∈ WG := List.mem_filter.mpr ⟨wr_2 _ (List.mem_of_getElem? (i := 56) rfl), rfl⟩
theorem wc_X1_plotsHeldBy : Cond.code yX1_plotsHeldBy cX1_plotsHeldBy 4 (some .int) ∈ WG := List.mem_filter.mpr ⟨wr_2 _ (List.mem_of_getElem? (i := 57) rfl), rfl⟩
theorem wl_X2_172 : Cond.methodLink RX2 172 yX1_cheapestPlot ∈ WG := List.mem_filter.mpr ⟨wr_2 _ (List.mem_of_getElem? (i := 58) rfl), rfl⟩
theorem wi_X1_cheapestPlot : Cond.instanceMethod yX1_cheapestPlot ∈ WG := List.mem_filter.mpr ⟨wr_2 _ (List.mem_of_getElem? (i := 59) rfl), rfl⟩
theorem wv_X1_cheapestPlot : Cond.selects RX1 yX1_cheapestPlot yX1_cheapestPlot ∈ WG := List.mem_filter.mpr ⟨wr_2 _ (List.mem_of_getElem? (i := 60) rfl), rfl⟩
theorem wc_X1_cheapestPlot : Cond.code yX1_cheapestPlot cX1_cheapestPlot 7 (some .int) ∈ WG := List.mem_filter.mpr ⟨wr_2 _ (List.mem_of_getElem? (i := 61) rfl), rfl⟩
theorem wl_X1_159 : Cond.methodLink RX1 159 yX1_leastFee ∈ WG := List.mem_filter.mpr ⟨wr_2 _ (List.mem_of_getElem? (i := 62) rfl), rfl⟩
theorem wi_X1_leastFee : Cond.instanceMethod yX1_leastFee ∈ WG := List.mem_filter.mpr ⟨wr_2 _ (List.mem_of_getElem? (i := 64) rfl), rfl⟩
theorem wc_X1_leastFee : Cond.code yX1_leastFee cX1_leastFee 6 (some .int) ∈ WG := List.mem_filter.mpr ⟨wr_2 _ (List.mem_of_getElem? (i := 65) rfl), rfl⟩
theorem wl_X1_155 : Cond.methodLink RX1 155 yX1_refusal ∈ WG := List.mem_filter.mpr ⟨wr_2 _ (List.mem_of_getElem? (i := 66) rfl), rfl⟩
theorem wi_X1_refusal : Cond.instanceMethod yX1_refusal ∈ WG := List.mem_filter.mpr ⟨wr_2 _ (List.mem_of_getElem? (i := 67) rfl), rfl⟩
theorem wv_X1_refusal : Cond.selects RX1 yX1_refusal yX1_refusal ∈ WG := List.mem_filter.mpr ⟨wr_2 _ (List.mem_of_getElem? (i := 68) rfl), rfl⟩
theorem wc_X1_refusal : Cond.code yX1_refusal cX1_refusal 5 (some .int) ∈ WG := List.mem_filter.mpr ⟨wr_2 _ (List.mem_of_getElem? (i := 69) rfl), rfl⟩
theorem wl_X1_77 : Cond.methodLink RX1 77 yX1_isOther ∈ WG := List.mem_filter.mpr ⟨wr_2 _ (List.mem_of_getElem? (i := 70) rfl), rfl⟩
theorem wt_X1_isOther : Cond.static yX1_isOther ∈ WG := List.mem_filter.mpr ⟨wr_2 _ (List.mem_of_getElem? (i := 71) rfl), rfl⟩
theorem wc_X1_isOther : Cond.code yX1_isOther cX1_isOther 2 (some .boolean) ∈ WG := List.mem_filter.mpr ⟨wr_2 _ (List.mem_of_getElem? (i := 72) rfl), rfl⟩
theorem wl_X1_143 : Cond.methodLink RX1 143 yX1_freeDepth ∈ WG := List.mem_filter.mpr ⟨wr_2 _ (List.mem_of_getElem? (i := 73) rfl), rfl⟩
theorem wi_X1_freeDepth : Cond.instanceMethod yX1_freeDepth ∈ WG := List.mem_filter.mpr ⟨wr_2 _ (List.mem_of_getElem? (i := 75) rfl), rfl⟩
theorem wc_X1_freeDepth : Cond.code yX1_freeDepth cX1_freeDepth 4 (some .int) ∈ WG := List.mem_filter.mpr ⟨wr_2 _ (List.mem_of_getElem? (i := 76) rfl), rfl⟩
theorem wl_X1_146 : Cond.methodLink RX1 146 yX1_vaultRefusal ∈ WG := List.mem_filter.mpr ⟨wr_2 _ (List.mem_of_getElem? (i := 77) rfl), rfl⟩
theorem wi_X1_vaultRefusal : Cond.instanceMethod yX1_vaultRefusal ∈ WG := List.mem_filter.mpr ⟨wr_2 _ (List.mem_of_getElem? (i := 79) rfl), rfl⟩
theorem wc_X1_vaultRefusal : Cond.code yX1_vaultRefusal cX1_vaultRefusal 4 (some .int) ∈ WG := List.mem_filter.mpr ⟨wr_2 _ (List.mem_of_getElem? (i := 80) rfl), rfl⟩
theorem wl_X1_149 : Cond.methodLink RX1 149 yX1_latestBurial ∈ WG := List.mem_filter.mpr ⟨wr_2 _ (List.mem_of_getElem? (i := 81) rfl), rfl⟩
theorem wi_X1_latestBurial : Cond.instanceMethod yX1_latestBurial ∈ WG := List.mem_filter.mpr ⟨wr_2 _ (List.mem_of_getElem? (i := 83) rfl), rfl⟩
theorem wc_X1_latestBurial : Cond.code yX1_latestBurial cX1_latestBurial 5 (some .int) ∈ WG := List.mem_filter.mpr ⟨wr_2 _ (List.mem_of_getElem? (i := 84) rfl), rfl⟩
theorem wl_X1_152 : Cond.methodLink RX1 152 yJ9_min_7cf53 ∈ WG := List.mem_filter.mpr ⟨wr_2 _ (List.mem_of_getElem? (i := 85) rfl), rfl⟩
theorem wt_J9_min_7cf53 : Cond.static yJ9_min_7cf53 ∈ WG := List.mem_filter.mpr ⟨wr_2 _ (List.mem_of_getElem? (i := 86) rfl), rfl⟩
theorem wc_J9_min_7cf53 : Cond.code yJ9_min_7cf53 cJ9_min_7cf53 2 (some .int) ∈ WG := List.mem_filter.mpr ⟨wr_2 _ (List.mem_of_getElem? (i := 87) rfl), rfl⟩
theorem wl_X1_66 : Cond.methodLink RX1 66 yX1_burialFee ∈ WG := List.mem_filter.mpr ⟨wr_2 _ (List.mem_of_getElem? (i := 88) rfl), rfl⟩
theorem wi_X1_burialFee : Cond.instanceMethod yX1_burialFee ∈ WG := List.mem_filter.mpr ⟨wr_2 _ (List.mem_of_getElem? (i := 89) rfl), rfl⟩
theorem wv_X1_burialFee : Cond.selects RX1 yX1_burialFee yX1_burialFee ∈ WG := List.mem_filter.mpr ⟨wr_2 _ (List.mem_of_getElem? (i := 90) rfl), rfl⟩
theorem wc_X1_burialFee : Cond.code yX1_burialFee cX1_burialFee 5 (some .int) ∈ WG := List.mem_filter.mpr ⟨wr_2 _ (List.mem_of_getElem? (i := 91) rfl), rfl⟩
theorem wl_X1_91 : Cond.methodLink RX1 91 yX1_priceFor ∈ WG := List.mem_filter.mpr ⟨wr_2 _ (List.mem_of_getElem? (i := 92) rfl), rfl⟩
theorem wi_X1_priceFor : Cond.instanceMethod yX1_priceFor ∈ WG := List.mem_filter.mpr ⟨wr_2 _ (List.mem_of_getElem? (i := 94) rfl), rfl⟩
theorem wc_X1_priceFor : Cond.code yX1_priceFor cX1_priceFor 3 (some .int) ∈ WG := List.mem_filter.mpr ⟨wr_2 _ (List.mem_of_getElem? (i := 95) rfl), rfl⟩
theorem wl_X1_81 : Cond.methodLink RX1 81 yX1_hasReservation ∈ WG := List.mem_filter.mpr ⟨wr_2 _ (List.mem_of_getElem? (i := 96) rfl), rfl⟩
theorem wi_X1_hasReservation : Cond.instanceMethod yX1_hasReservation ∈ WG := List.mem_filter.mpr ⟨wr_2 _ (List.mem_of_getElem? (i := 98) rfl), rfl⟩
theorem wc_X1_hasReservation : Cond.code yX1_hasReservation cX1_hasReservation 3 (some .boolean) ∈ WG := List.mem_filter.mpr ⟨wr_2 _ (List.mem_of_getElem? (i := 99) rfl), rfl⟩
theorem wl_X2_196 : Cond.methodLink RX2 196 yX2_bitsOf ∈ WG := List.mem_filter.mpr ⟨wr_2 _ (List.mem_of_getElem? (i := 100) rfl), rfl⟩
theorem wt_X2_bitsOf : Cond.static yX2_bitsOf ∈ WG := List.mem_filter.mpr ⟨wr_2 _ (List.mem_of_getElem? (i := 101) rfl), rfl⟩
theorem wc_X2_bitsOf : Cond.code yX2_bitsOf cX2_bitsOf 7 (some .long) ∈ WG := List.mem_filter.mpr ⟨wr_2 _ (List.mem_of_getElem? (i := 102) rfl), rfl⟩
theorem wq_X2_204 : Cond.constantLong RX2 204 (1023) ∈ WG := List.mem_filter.mpr ⟨wr_2 _ (List.mem_of_getElem? (i := 103) rfl), rfl⟩
theorem wq_X2_206 : Cond.constantDouble RX2 206 (4611686018427387904) ∈ WG := List.mem_filter.mpr ⟨wr_2 _ (List.mem_of_getElem? (i := 104) rfl), rfl⟩
theorem wq_X2_208 : Cond.constantDouble RX2 208 (4841369599423283200) ∈ WG := List.mem_filter.mpr ⟨wr_2 _ (List.mem_of_getElem? (i := 105) rfl), rfl⟩
theorem wl_X2_200 : Cond.methodLink RX2 200 yX2_bufferDigest ∈ WG := List.mem_filter.mpr ⟨wr_2 _ (List.mem_of_getElem? (i := 106) rfl), rfl⟩
theorem wi_X2_bufferDigest : Cond.instanceMethod yX2_bufferDigest ∈ WG := List.mem_filter.mpr ⟨wr_2 _ (List.mem_of_getElem? (i := 108) rfl), rfl⟩
theorem wc_X2_bufferDigest : Cond.code yX2_bufferDigest cX2_bufferDigest 6 (some .long) ∈ WG := List.mem_filter.mpr ⟨wr_2 _ (List.mem_of_getElem? (i := 109) rfl), rfl⟩
theorem wl_L_87 : Cond.methodLink RL 87 yL_lay ∈ WG := List.mem_filter.mpr ⟨wr_2 _ (List.mem_of_getElem? (i := 110) rfl), rfl⟩
theorem wt_L_lay : Cond.static yL_lay ∈ WG := List.mem_filter.mpr ⟨wr_2 _ (List.mem_of_getElem? (i := 111) rfl), rfl⟩
theorem wk_L_13 : Cond.classLink RL 13 "java/lang/IndexOutOfBoundsException" ∈ WG := List.mem_filter.mpr ⟨wr_2 _ (List.mem_of_getElem? (i := 113) rfl), rfl⟩
theorem wk_L_15 : Cond.classLink RL 15 "java/lang/IllegalArgumentException" ∈ WG := List.mem_filter.mpr ⟨wr_2 _ (List.mem_of_getElem? (i := 114) rfl), rfl⟩
theorem wk_L_17 : Cond.classLink RL 17 "java/lang/IllegalStateException" ∈ WG := List.mem_filter.mpr ⟨wr_2 _ (List.mem_of_getElem? (i := 115) rfl), rfl⟩
theorem wl_L_7 : Cond.methodLink RL 7 yX2_lay ∈ WG := List.mem_filter.mpr ⟨wr_2 _ (List.mem_of_getElem? (i := 116) rfl), rfl⟩
theorem wi_X2_lay : Cond.instanceMethod yX2_lay ∈ WG := List.mem_filter.mpr ⟨wr_2 _ (List.mem_of_getElem? (i := 117) rfl), rfl⟩
theorem wv_X2_lay : Cond.selects RX2 yX2_lay yX2_lay ∈ WG := List.mem_filter.mpr ⟨wr_2 _ (List.mem_of_getElem? (i := 118) rfl), rfl⟩
theorem wc_X2_lay : Cond.code yX2_lay cX2_lay 3 (some .int) ∈ WG := List.mem_filter.mpr ⟨wr_2 _ (List.mem_of_getElem? (i := 119) rfl), rfl⟩
theorem wl_X2_38 : Cond.methodLink RX2 38 yX2_needPlot ∈ WG := List.mem_filter.mpr ⟨wr_2 _ (List.mem_of_getElem? (i := 120) rfl), rfl⟩
theorem wt_X2_needPlot : Cond.static yX2_needPlot ∈ WG := List.mem_filter.mpr ⟨wr_2 _ (List.mem_of_getElem? (i := 121) rfl), rfl⟩
theorem wc_X2_needPlot : Cond.code yX2_needPlot cX2_needPlot 1 none ∈ WG := List.mem_filter.mpr ⟨wr_2 _ (List.mem_of_getElem? (i := 122) rfl), rfl⟩
theorem wk_X2_42 : Cond.classLink RX2 42 "java/lang/IndexOutOfBoundsException" ∈ WG := List.mem_filter.mpr ⟨wr_2 _ (List.mem_of_getElem? (i := 123) rfl), rfl⟩
theorem wb_IndexOutOfBoundsException : Cond.instantiable "java/lang/IndexOutOfBoundsException" 6 ∈ WG := List.mem_filter.mpr ⟨wr_2 _ (List.mem_of_getElem? (i := 124) rfl), rfl⟩
theorem wv_Throwable_fillInStackTrace_86b : Cond.selects "java/lang/IndexOutOfBoundsException" (⟨"java/lang/Throwable", "fillInStackTrace", "(I)Ljava/lang/Throwable;"⟩ : MethodName) (⟨"java/lang/Throwable", "fillInStackTrace", "(I)Ljava/lang/Throwable;"⟩ : MethodName) ∈ WG := List.mem_filter.mpr ⟨wr_2 _ (List.mem_of_getElem? (i := 132) rfl), rfl⟩
theorem wv_Throwable_fillInStackTrace_822 : Cond.selects "java/lang/IndexOutOfBoundsException" (⟨"java/lang/Throwable", "fillInStackTrace", "()Ljava/lang/Throwable;"⟩ : MethodName) (⟨"java/lang/Throwable", "fillInStackTrace", "()Ljava/lang/Throwable;"⟩ : MethodName) ∈ WG := List.mem_filter.mpr ⟨wr_2 _ (List.mem_of_getElem? (i := 133) rfl), rfl⟩
theorem wy_IndexOutOfBoundsException_cause : Cond.lays "java/lang/IndexOutOfBoundsException" "java/lang/Throwable" "cause" "Ljava/lang/Throwable;" ∈ WG := List.mem_filter.mpr ⟨wr_2 _ (List.mem_of_getElem? (i := 134) rfl), rfl⟩
theorem wy_Throwable_cause : Cond.lays "java/lang/Throwable" "java/lang/Throwable" "cause" "Ljava/lang/Throwable;" ∈ WG := List.mem_filter.mpr ⟨wr_2 _ (List.mem_of_getElem? (i := 135) rfl), rfl⟩
theorem wy_IndexOutOfBoundsException_stackTrace : Cond.lays "java/lang/IndexOutOfBoundsException" "java/lang/Throwable" "stackTrace" "[Ljava/lang/StackTraceElement;" ∈ WG := List.mem_filter.mpr ⟨wr_2 _ (List.mem_of_getElem? (i := 136) rfl), rfl⟩
theorem wy_Throwable_stackTrace : Cond.lays "java/lang/Throwable" "java/lang/Throwable" "stackTrace" "[Ljava/lang/StackTraceElement;" ∈ WG := List.mem_filter.mpr ⟨wr_2 _ (List.mem_of_getElem? (i := 137) rfl), rfl⟩
theorem wy_IndexOutOfBoundsException_suppressedExceptions : Cond.lays "java/lang/IndexOutOfBoundsException" "java/lang/Throwable" "suppressedExceptions" "Ljava/util/List;" ∈ WG := List.mem_filter.mpr ⟨wr_2 _ (List.mem_of_getElem? (i := 138) rfl), rfl⟩
theorem wy_Throwable_suppressedExceptions : Cond.lays "java/lang/Throwable" "java/lang/Throwable" "suppressedExceptions" "Ljava/util/List;" ∈ WG := List.mem_filter.mpr ⟨wr_2 _ (List.mem_of_getElem? (i := 139) rfl), rfl⟩
theorem wy_IndexOutOfBoundsException_detailMessage : Cond.lays "java/lang/IndexOutOfBoundsException" "java/lang/Throwable" "detailMessage" "Ljava/lang/String;" ∈ WG := List.mem_filter.mpr ⟨wr_2 _ (List.mem_of_getElem? (i := 140) rfl), rfl⟩
theorem wy_Throwable_detailMessage : Cond.lays "java/lang/Throwable" "java/lang/Throwable" "detailMessage" "Ljava/lang/String;" ∈ WG := List.mem_filter.mpr ⟨wr_2 _ (List.mem_of_getElem? (i := 141) rfl), rfl⟩
theorem wy_IndexOutOfBoundsException_backtrace : Cond.lays "java/lang/IndexOutOfBoundsException" "java/lang/Throwable" "backtrace" "Ljava/lang/Object;" ∈ WG := List.mem_filter.mpr ⟨wr_2 _ (List.mem_of_getElem? (i := 142) rfl), rfl⟩
theorem wy_Throwable_backtrace : Cond.lays "java/lang/Throwable" "java/lang/Throwable" "backtrace" "Ljava/lang/Object;" ∈ WG := List.mem_filter.mpr ⟨wr_2 _ (List.mem_of_getElem? (i := 143) rfl), rfl⟩
theorem wf_Throwable_198 : Cond.fieldLink "java/lang/Throwable" 198 "java/lang/Throwable" "backtrace" "Ljava/lang/Object;" ∈ WG := List.mem_filter.mpr ⟨wr_2 _ (List.mem_of_getElem? (i := 144) rfl), rfl⟩
theorem wi_Throwable__init__a7 : Cond.instanceMethod (⟨"java/lang/Throwable", "<init>", "()V"⟩ : MethodName) ∈ WG := List.mem_filter.mpr ⟨wr_2 _ (List.mem_of_getElem? (i := 146) rfl), rfl⟩
theorem wc_Throwable__init__a7 : Cond.code (⟨"java/lang/Throwable", "<init>", "()V"⟩ : MethodName) prog_16_method_1_code 1 none ∈ WG := List.mem_filter.mpr ⟨wr_2 _ (List.mem_of_getElem? (i := 147) rfl), rfl⟩
theorem wl_Throwable_1 : Cond.methodLink "java/lang/Throwable" 1 (⟨"java/lang/Object", "<init>", "()V"⟩ : MethodName) ∈ WG := List.mem_filter.mpr ⟨wr_2 _ (List.mem_of_getElem? (i := 148) rfl), rfl⟩
theorem wf_Throwable_13 : Cond.fieldLink "java/lang/Throwable" 13 "java/lang/Throwable" "UNASSIGNED_STACK" "[Ljava/lang/StackTraceElement;" ∈ WG := List.mem_filter.mpr ⟨wr_2 _ (List.mem_of_getElem? (i := 149) rfl), rfl⟩
theorem wf_Throwable_20 : Cond.fieldLink "java/lang/Throwable" 20 "java/lang/Throwable" "SUPPRESSED_SENTINEL" "Ljava/util/List;" ∈ WG := List.mem_filter.mpr ⟨wr_2 _ (List.mem_of_getElem? (i := 151) rfl), rfl⟩
theorem wl_Throwable_27 : Cond.methodLink "java/lang/Throwable" 27 (⟨"java/lang/Throwable", "fillInStackTrace", "()Ljava/lang/Throwable;"⟩ : MethodName) ∈ WG := List.mem_filter.mpr ⟨wr_2 _ (List.mem_of_getElem? (i := 153) rfl), rfl⟩
theorem wi_Throwable_fillInStackTrace_822 : Cond.instanceMethod (⟨"java/lang/Throwable", "fillInStackTrace", "()Ljava/lang/Throwable;"⟩ : MethodName) ∈ WG := List.mem_filter.mpr ⟨wr_2 _ (List.mem_of_getElem? (i := 154) rfl), rfl⟩
theorem wl_Throwable_202 : Cond.methodLink "java/lang/Throwable" 202 (⟨"java/lang/Throwable", "fillInStackTrace", "(I)Ljava/lang/Throwable;"⟩ : MethodName) ∈ WG := List.mem_filter.mpr ⟨wr_2 _ (List.mem_of_getElem? (i := 159) rfl), rfl⟩
theorem wi_Throwable_fillInStackTrace_86b : Cond.instanceMethod (⟨"java/lang/Throwable", "fillInStackTrace", "(I)Ljava/lang/Throwable;"⟩ : MethodName) ∈ WG := List.mem_filter.mpr ⟨wr_2 _ (List.mem_of_getElem? (i := 161) rfl), rfl⟩
theorem wb_Throwable : Cond.instantiable "java/lang/Throwable" 6 ∈ WG := List.mem_filter.mpr ⟨wr_2 _ (List.mem_of_getElem? (i := 162) rfl), rfl⟩
theorem wz_Throwable_fillInStackTrace_86b : Cond.native (⟨"java/lang/Throwable", "fillInStackTrace", "(I)Ljava/lang/Throwable;"⟩ : MethodName) ∈ WG := List.mem_filter.mpr ⟨wr_2 _ (List.mem_of_getElem? (i := 163) rfl), rfl⟩
theorem wl_X2_46 : Cond.methodLink RX2 46 (⟨"java/lang/IndexOutOfBoundsException", "<init>", "(Ljava/lang/String;)V"⟩ : MethodName) ∈ WG := List.mem_filter.mpr ⟨wr_2 _ (List.mem_of_getElem? (i := 165) rfl), rfl⟩
theorem wi_IndexOutOfBoundsException__init__747 : Cond.instanceMethod (⟨"java/lang/IndexOutOfBoundsException", "<init>", "(Ljava/lang/String;)V"⟩ : MethodName) ∈ WG := List.mem_filter.mpr ⟨wr_2 _ (List.mem_of_getElem? (i := 166) rfl), rfl⟩
theorem wc_IndexOutOfBoundsException__init__747 : Cond.code (⟨"java/lang/IndexOutOfBoundsException", "<init>", "(Ljava/lang/String;)V"⟩ : MethodName) prog_10_method_2_code 2 none ∈ WG := List.mem_filter.mpr ⟨wr_2 _ (List.mem_of_getElem? (i := 167) rfl), rfl⟩
theorem wl_IndexOutOfBoundsException_7 : Cond.methodLink "java/lang/IndexOutOfBoundsException" 7 (⟨"java/lang/RuntimeException", "<init>", "(Ljava/lang/String;)V"⟩ : MethodName) ∈ WG := List.mem_filter.mpr ⟨wr_2 _ (List.mem_of_getElem? (i := 168) rfl), rfl⟩
theorem wi_RuntimeException__init__747 : Cond.instanceMethod (⟨"java/lang/RuntimeException", "<init>", "(Ljava/lang/String;)V"⟩ : MethodName) ∈ WG := List.mem_filter.mpr ⟨wr_2 _ (List.mem_of_getElem? (i := 169) rfl), rfl⟩
theorem wc_RuntimeException__init__747 : Cond.code (⟨"java/lang/RuntimeException", "<init>", "(Ljava/lang/String;)V"⟩ : MethodName) prog_13_method_2_code 2 none ∈ WG := List.mem_filter.mpr ⟨wr_2 _ (List.mem_of_getElem? (i := 170) rfl), rfl⟩
theorem wl_RuntimeException_7 : Cond.methodLink "java/lang/RuntimeException" 7 (⟨"java/lang/Exception", "<init>", "(Ljava/lang/String;)V"⟩ : MethodName) ∈ WG := List.mem_filter.mpr ⟨wr_2 _ (List.mem_of_getElem? (i := 171) rfl), rfl⟩
theorem wi_Exception__init__747 : Cond.instanceMethod (⟨"java/lang/Exception", "<init>", "(Ljava/lang/String;)V"⟩ : MethodName) ∈ WG := List.mem_filter.mpr ⟨wr_2 _ (List.mem_of_getElem? (i := 172) rfl), rfl⟩
theorem wc_Exception__init__747 : Cond.code (⟨"java/lang/Exception", "<init>", "(Ljava/lang/String;)V"⟩ : MethodName) prog_7_method_2_code 2 none ∈ WG := List.mem_filter.mpr ⟨wr_2 _ (List.mem_of_getElem? (i := 173) rfl), rfl⟩
theorem wl_Exception_7 : Cond.methodLink "java/lang/Exception" 7 (⟨"java/lang/Throwable", "<init>", "(Ljava/lang/String;)V"⟩ : MethodName) ∈ WG := List.mem_filter.mpr ⟨wr_2 _ (List.mem_of_getElem? (i := 174) rfl), rfl⟩
theorem wi_Throwable__init__747 : Cond.instanceMethod (⟨"java/lang/Throwable", "<init>", "(Ljava/lang/String;)V"⟩ : MethodName) ∈ WG := List.mem_filter.mpr ⟨wr_2 _ (List.mem_of_getElem? (i := 175) rfl), rfl⟩
theorem wc_Throwable__init__747 : Cond.code (⟨"java/lang/Throwable", "<init>", "(Ljava/lang/String;)V"⟩ : MethodName) prog_16_method_2_code 2 none ∈ WG := List.mem_filter.mpr ⟨wr_2 _ (List.mem_of_getElem? (i := 176) rfl), rfl⟩
theorem wf_Throwable_31 : Cond.fieldLink "java/lang/Throwable" 31 "java/lang/Throwable" "detailMessage" "Ljava/lang/String;" ∈ WG := List.mem_filter.mpr ⟨wr_2 _ (List.mem_of_getElem? (i := 178) rfl), rfl⟩
theorem wf_Throwable_7 : Cond.fieldLink "java/lang/Throwable" 7 "java/lang/Throwable" "cause" "Ljava/lang/Throwable;" ∈ WG := List.mem_filter.mpr ⟨wr_2 _ (List.mem_of_getElem? (i := 179) rfl), rfl⟩
theorem wf_Throwable_17 : Cond.fieldLink "java/lang/Throwable" 17 "java/lang/Throwable" "stackTrace" "[Ljava/lang/StackTraceElement;" ∈ WG := List.mem_filter.mpr ⟨wr_2 _ (List.mem_of_getElem? (i := 180) rfl), rfl⟩
theorem wf_Throwable_24 : Cond.fieldLink "java/lang/Throwable" 24 "java/lang/Throwable" "suppressedExceptions" "Ljava/util/List;" ∈ WG := List.mem_filter.mpr ⟨wr_2 _ (List.mem_of_getElem? (i := 181) rfl), rfl⟩
theorem wy_IndexOutOfBoundsException_depth : Cond.lays "java/lang/IndexOutOfBoundsException" "java/lang/Throwable" "depth" "I" ∈ WG := List.mem_filter.mpr ⟨wr_2 _ (List.mem_of_getElem? (i := 186) rfl), rfl⟩
theorem wa_byte : Cond.arrayClass Jvm.ClassFile.FieldType.byte ∈ WG := List.mem_filter.mpr ⟨wr_2 _ (List.mem_of_getElem? (i := 190) rfl), rfl⟩
theorem wk_X2_49 : Cond.classLink RX2 49 "java/lang/IllegalArgumentException" ∈ WG := List.mem_filter.mpr ⟨wr_2 _ (List.mem_of_getElem? (i := 192) rfl), rfl⟩
theorem wb_IllegalArgumentException : Cond.instantiable "java/lang/IllegalArgumentException" 6 ∈ WG := List.mem_filter.mpr ⟨wr_2 _ (List.mem_of_getElem? (i := 193) rfl), rfl⟩
theorem wy_IllegalArgumentException_cause : Cond.lays "java/lang/IllegalArgumentException" "java/lang/Throwable" "cause" "Ljava/lang/Throwable;" ∈ WG := List.mem_filter.mpr ⟨wr_2 _ (List.mem_of_getElem? (i := 196) rfl), rfl⟩
theorem wy_IllegalArgumentException_stackTrace : Cond.lays "java/lang/IllegalArgumentException" "java/lang/Throwable" "stackTrace" "[Ljava/lang/StackTraceElement;" ∈ WG := List.mem_filter.mpr ⟨wr_2 _ (List.mem_of_getElem? (i := 197) rfl), rfl⟩
theorem wy_IllegalArgumentException_suppressedExceptions : Cond.lays "java/lang/IllegalArgumentException" "java/lang/Throwable" "suppressedExceptions" "Ljava/util/List;" ∈ WG := List.mem_filter.mpr ⟨wr_2 _ (List.mem_of_getElem? (i := 198) rfl), rfl⟩
theorem wy_IllegalArgumentException_detailMessage : Cond.lays "java/lang/IllegalArgumentException" "java/lang/Throwable" "detailMessage" "Ljava/lang/String;" ∈ WG := List.mem_filter.mpr ⟨wr_2 _ (List.mem_of_getElem? (i := 199) rfl), rfl⟩
theorem wy_IllegalArgumentException_backtrace : Cond.lays "java/lang/IllegalArgumentException" "java/lang/Throwable" "backtrace" "Ljava/lang/Object;" ∈ WG := List.mem_filter.mpr ⟨wr_2 _ (List.mem_of_getElem? (i := 200) rfl), rfl⟩
theorem wl_X2_53 : Cond.methodLink RX2 53 (⟨"java/lang/IllegalArgumentException", "<init>", "(Ljava/lang/String;)V"⟩ : MethodName) ∈ WG := List.mem_filter.mpr ⟨wr_2 _ (List.mem_of_getElem? (i := 202) rfl), rfl⟩
theorem wi_IllegalArgumentException__init__747 : Cond.instanceMethod (⟨"java/lang/IllegalArgumentException", "<init>", "(Ljava/lang/String;)V"⟩ : MethodName) ∈ WG := List.mem_filter.mpr ⟨wr_2 _ (List.mem_of_getElem? (i := 203) rfl), rfl⟩
theorem wc_IllegalArgumentException__init__747 : Cond.code (⟨"java/lang/IllegalArgumentException", "<init>", "(Ljava/lang/String;)V"⟩ : MethodName) prog_8_method_2_code 2 none ∈ WG := List.mem_filter.mpr ⟨wr_2 _ (List.mem_of_getElem? (i := 204) rfl), rfl⟩
theorem wl_IllegalArgumentException_7 : Cond.methodLink "java/lang/IllegalArgumentException" 7 (⟨"java/lang/RuntimeException", "<init>", "(Ljava/lang/String;)V"⟩ : MethodName) ∈ WG := List.mem_filter.mpr ⟨wr_2 _ (List.mem_of_getElem? (i := 205) rfl), rfl⟩
theorem wy_IllegalArgumentException_depth : Cond.lays "java/lang/IllegalArgumentException" "java/lang/Throwable" "depth" "I" ∈ WG := List.mem_filter.mpr ⟨wr_2 _ (List.mem_of_getElem? (i := 206) rfl), rfl⟩
theorem wl_X2_54 : Cond.methodLink RX2 54 yX1_mayChangeKind ∈ WG := List.mem_filter.mpr ⟨wr_2 _ (List.mem_of_getElem? (i := 208) rfl), rfl⟩
theorem wi_X1_mayChangeKind : Cond.instanceMethod yX1_mayChangeKind ∈ WG := List.mem_filter.mpr ⟨wr_2 _ (List.mem_of_getElem? (i := 209) rfl), rfl⟩
theorem wv_X1_mayChangeKind : Cond.selects RX1 yX1_mayChangeKind yX1_mayChangeKind ∈ WG := List.mem_filter.mpr ⟨wr_2 _ (List.mem_of_getElem? (i := 210) rfl), rfl⟩
theorem wc_X1_mayChangeKind : Cond.code yX1_mayChangeKind cX1_mayChangeKind 2 (some .boolean) ∈ WG := List.mem_filter.mpr ⟨wr_2 _ (List.mem_of_getElem? (i := 211) rfl), rfl⟩
theorem wk_X2_58 : Cond.classLink RX2 58 "java/lang/IllegalStateException" ∈ WG := List.mem_filter.mpr ⟨wr_2 _ (List.mem_of_getElem? (i := 212) rfl), rfl⟩
theorem wb_IllegalStateException : Cond.instantiable "java/lang/IllegalStateException" 6 ∈ WG := List.mem_filter.mpr ⟨wr_2 _ (List.mem_of_getElem? (i := 213) rfl), rfl⟩
theorem wy_IllegalStateException_cause : Cond.lays "java/lang/IllegalStateException" "java/lang/Throwable" "cause" "Ljava/lang/Throwable;" ∈ WG := List.mem_filter.mpr ⟨wr_2 _ (List.mem_of_getElem? (i := 216) rfl), rfl⟩
theorem wy_IllegalStateException_stackTrace : Cond.lays "java/lang/IllegalStateException" "java/lang/Throwable" "stackTrace" "[Ljava/lang/StackTraceElement;" ∈ WG := List.mem_filter.mpr ⟨wr_2 _ (List.mem_of_getElem? (i := 217) rfl), rfl⟩
theorem wy_IllegalStateException_suppressedExceptions : Cond.lays "java/lang/IllegalStateException" "java/lang/Throwable" "suppressedExceptions" "Ljava/util/List;" ∈ WG := List.mem_filter.mpr ⟨wr_2 _ (List.mem_of_getElem? (i := 218) rfl), rfl⟩
theorem wy_IllegalStateException_detailMessage : Cond.lays "java/lang/IllegalStateException" "java/lang/Throwable" "detailMessage" "Ljava/lang/String;" ∈ WG := List.mem_filter.mpr ⟨wr_2 _ (List.mem_of_getElem? (i := 219) rfl), rfl⟩
theorem wy_IllegalStateException_backtrace : Cond.lays "java/lang/IllegalStateException" "java/lang/Throwable" "backtrace" "Ljava/lang/Object;" ∈ WG := List.mem_filter.mpr ⟨wr_2 _ (List.mem_of_getElem? (i := 220) rfl), rfl⟩
theorem wl_X2_62 : Cond.methodLink RX2 62 (⟨"java/lang/IllegalStateException", "<init>", "(Ljava/lang/String;)V"⟩ : MethodName) ∈ WG := List.mem_filter.mpr ⟨wr_2 _ (List.mem_of_getElem? (i := 222) rfl), rfl⟩
theorem wi_IllegalStateException__init__747 : Cond.instanceMethod (⟨"java/lang/IllegalStateException", "<init>", "(Ljava/lang/String;)V"⟩ : MethodName) ∈ WG := List.mem_filter.mpr ⟨wr_2 _ (List.mem_of_getElem? (i := 223) rfl), rfl⟩
theorem wc_IllegalStateException__init__747 : Cond.code (⟨"java/lang/IllegalStateException", "<init>", "(Ljava/lang/String;)V"⟩ : MethodName) prog_9_method_2_code 2 none ∈ WG := List.mem_filter.mpr ⟨wr_2 _ (List.mem_of_getElem? (i := 224) rfl), rfl⟩
theorem wl_IllegalStateException_7 : Cond.methodLink "java/lang/IllegalStateException" 7 (⟨"java/lang/RuntimeException", "<init>", "(Ljava/lang/String;)V"⟩ : MethodName) ∈ WG := List.mem_filter.mpr ⟨wr_2 _ (List.mem_of_getElem? (i := 225) rfl), rfl⟩
theorem wy_IllegalStateException_depth : Cond.lays "java/lang/IllegalStateException" "java/lang/Throwable" "depth" "I" ∈ WG := List.mem_filter.mpr ⟨wr_2 _ (List.mem_of_getElem? (i := 226) rfl), rfl⟩
theorem wl_X2_63 : Cond.methodLink RX2 63 yX2_save ∈ WG := List.mem_filter.mpr ⟨wr_2 _ (List.mem_of_getElem? (i := 228) rfl), rfl⟩
theorem wi_X2_save : Cond.instanceMethod yX2_save ∈ WG := List.mem_filter.mpr ⟨wr_2 _ (List.mem_of_getElem? (i := 230) rfl), rfl⟩
theorem wc_X2_save : Cond.code yX2_save cX2_save 1 none ∈ WG := List.mem_filter.mpr ⟨wr_2 _ (List.mem_of_getElem? (i := 231) rfl), rfl⟩
theorem wl_X2_221 : Cond.methodLink RX2 221 yX2_dropOldest ∈ WG := List.mem_filter.mpr ⟨wr_2 _ (List.mem_of_getElem? (i := 232) rfl), rfl⟩
theorem wi_X2_dropOldest : Cond.instanceMethod yX2_dropOldest ∈ WG := List.mem_filter.mpr ⟨wr_2 _ (List.mem_of_getElem? (i := 234) rfl), rfl⟩
theorem wc_X2_dropOldest : Cond.code yX2_dropOldest cX2_dropOldest 3 none ∈ WG := List.mem_filter.mpr ⟨wr_2 _ (List.mem_of_getElem? (i := 235) rfl), rfl⟩
theorem wl_X2_144 : Cond.methodLink RX2 144 yX1_copyFrom ∈ WG := List.mem_filter.mpr ⟨wr_2 _ (List.mem_of_getElem? (i := 236) rfl), rfl⟩
theorem wi_X1_copyFrom : Cond.instanceMethod yX1_copyFrom ∈ WG := List.mem_filter.mpr ⟨wr_2 _ (List.mem_of_getElem? (i := 237) rfl), rfl⟩
theorem wv_X1_copyFrom : Cond.selects RX1 yX1_copyFrom yX1_copyFrom ∈ WG := List.mem_filter.mpr ⟨wr_2 _ (List.mem_of_getElem? (i := 238) rfl), rfl⟩
theorem wc_X1_copyFrom : Cond.code yX1_copyFrom cX1_copyFrom 2 none ∈ WG := List.mem_filter.mpr ⟨wr_2 _ (List.mem_of_getElem? (i := 239) rfl), rfl⟩
theorem wl_X1_52 : Cond.methodLink RX1 52 (⟨"java/lang/System", "arraycopy", "(Ljava/lang/Object;ILjava/lang/Object;II)V"⟩ : MethodName) ∈ WG := List.mem_filter.mpr ⟨wr_3 _ (List.mem_of_getElem? (i := 0) rfl), rfl⟩
theorem wt_System_arraycopy_e82 : Cond.static (⟨"java/lang/System", "arraycopy", "(Ljava/lang/Object;ILjava/lang/Object;II)V"⟩ : MethodName) ∈ WG := List.mem_filter.mpr ⟨wr_3 _ (List.mem_of_getElem? (i := 1) rfl), rfl⟩
theorem wz_System_arraycopy_e82 : Cond.native (⟨"java/lang/System", "arraycopy", "(Ljava/lang/Object;ILjava/lang/Object;II)V"⟩ : MethodName) ∈ WG := List.mem_filter.mpr ⟨wr_3 _ (List.mem_of_getElem? (i := 2) rfl), rfl⟩
theorem wl_X2_66 : Cond.methodLink RX2 66 yX1_changeKind ∈ WG := List.mem_filter.mpr ⟨wr_3 _ (List.mem_of_getElem? (i := 3) rfl), rfl⟩
theorem wi_X1_changeKind : Cond.instanceMethod yX1_changeKind ∈ WG := List.mem_filter.mpr ⟨wr_3 _ (List.mem_of_getElem? (i := 4) rfl), rfl⟩
theorem wv_X1_changeKind : Cond.selects RX1 yX1_changeKind yX1_changeKind ∈ WG := List.mem_filter.mpr ⟨wr_3 _ (List.mem_of_getElem? (i := 5) rfl), rfl⟩
theorem wc_X1_changeKind : Cond.code yX1_changeKind cX1_changeKind 4 (some .int) ∈ WG := List.mem_filter.mpr ⟨wr_3 _ (List.mem_of_getElem? (i := 6) rfl), rfl⟩
theorem wl_L_96 : Cond.methodLink RL 96 yL_pass ∈ WG := List.mem_filter.mpr ⟨wr_3 _ (List.mem_of_getElem? (i := 7) rfl), rfl⟩
theorem wt_L_pass : Cond.static yL_pass ∈ WG := List.mem_filter.mpr ⟨wr_3 _ (List.mem_of_getElem? (i := 8) rfl), rfl⟩
theorem wl_L_19 : Cond.methodLink RL 19 yX2_pass ∈ WG := List.mem_filter.mpr ⟨wr_3 _ (List.mem_of_getElem? (i := 10) rfl), rfl⟩
theorem wi_X2_pass : Cond.instanceMethod yX2_pass ∈ WG := List.mem_filter.mpr ⟨wr_3 _ (List.mem_of_getElem? (i := 11) rfl), rfl⟩
theorem wv_X2_pass : Cond.selects RX2 yX2_pass yX2_pass ∈ WG := List.mem_filter.mpr ⟨wr_3 _ (List.mem_of_getElem? (i := 12) rfl), rfl⟩
theorem wc_X2_pass : Cond.code yX2_pass cX2_pass 3 (some .int) ∈ WG := List.mem_filter.mpr ⟨wr_3 _ (List.mem_of_getElem? (i := 13) rfl), rfl⟩
theorem wl_X2_77 : Cond.methodLink RX2 77 yX1_lastingReservations ∈ WG := List.mem_filter.mpr ⟨wr_3 _ (List.mem_of_getElem? (i := 16) rfl), rfl⟩
theorem wl_L_100 : Cond.methodLink RL 100 yL_setParish ∈ WG := List.mem_filter.mpr ⟨wr_3 _ (List.mem_of_getElem? (i := 17) rfl), rfl⟩
theorem wt_L_setParish : Cond.static yL_setParish ∈ WG := List.mem_filter.mpr ⟨wr_3 _ (List.mem_of_getElem? (i := 18) rfl), rfl⟩
theorem wl_L_23 : Cond.methodLink RL 23 yX2_setParish ∈ WG := List.mem_filter.mpr ⟨wr_3 _ (List.mem_of_getElem? (i := 20) rfl), rfl⟩
theorem wi_X2_setParish : Cond.instanceMethod yX2_setParish ∈ WG := List.mem_filter.mpr ⟨wr_3 _ (List.mem_of_getElem? (i := 21) rfl), rfl⟩
theorem wv_X2_setParish : Cond.selects RX2 yX2_setParish yX2_setParish ∈ WG := List.mem_filter.mpr ⟨wr_3 _ (List.mem_of_getElem? (i := 22) rfl), rfl⟩
theorem wc_X2_setParish : Cond.code yX2_setParish cX2_setParish 4 (some .int) ∈ WG := List.mem_filter.mpr ⟨wr_3 _ (List.mem_of_getElem? (i := 23) rfl), rfl⟩
theorem wl_X2_81 : Cond.methodLink RX2 81 yX2_needFamily ∈ WG := List.mem_filter.mpr ⟨wr_3 _ (List.mem_of_getElem? (i := 24) rfl), rfl⟩
theorem wt_X2_needFamily : Cond.static yX2_needFamily ∈ WG := List.mem_filter.mpr ⟨wr_3 _ (List.mem_of_getElem? (i := 25) rfl), rfl⟩
theorem wc_X2_needFamily : Cond.code yX2_needFamily cX2_needFamily 1 none ∈ WG := List.mem_filter.mpr ⟨wr_3 _ (List.mem_of_getElem? (i := 26) rfl), rfl⟩
theorem wl_L_104 : Cond.methodLink RL 104 yL_bury ∈ WG := List.mem_filter.mpr ⟨wr_3 _ (List.mem_of_getElem? (i := 28) rfl), rfl⟩
theorem wt_L_bury : Cond.static yL_bury ∈ WG := List.mem_filter.mpr ⟨wr_3 _ (List.mem_of_getElem? (i := 29) rfl), rfl⟩
theorem wl_L_27 : Cond.methodLink RL 27 yX2_bury ∈ WG := List.mem_filter.mpr ⟨wr_3 _ (List.mem_of_getElem? (i := 31) rfl), rfl⟩
theorem wi_X2_bury : Cond.instanceMethod yX2_bury ∈ WG := List.mem_filter.mpr ⟨wr_3 _ (List.mem_of_getElem? (i := 32) rfl), rfl⟩
theorem wv_X2_bury : Cond.selects RX2 yX2_bury yX2_bury ∈ WG := List.mem_filter.mpr ⟨wr_3 _ (List.mem_of_getElem? (i := 33) rfl), rfl⟩
theorem wc_X2_bury : Cond.code yX2_bury cX2_bury 4 (some .int) ∈ WG := List.mem_filter.mpr ⟨wr_3 _ (List.mem_of_getElem? (i := 34) rfl), rfl⟩
theorem wl_X2_87 : Cond.methodLink RX2 87 yX2_needDepth ∈ WG := List.mem_filter.mpr ⟨wr_3 _ (List.mem_of_getElem? (i := 35) rfl), rfl⟩
theorem wt_X2_needDepth : Cond.static yX2_needDepth ∈ WG := List.mem_filter.mpr ⟨wr_3 _ (List.mem_of_getElem? (i := 36) rfl), rfl⟩
theorem wc_X2_needDepth : Cond.code yX2_needDepth cX2_needDepth 1 none ∈ WG := List.mem_filter.mpr ⟨wr_3 _ (List.mem_of_getElem? (i := 37) rfl), rfl⟩
theorem wl_X2_155 : Cond.methodLink RX2 155 yX2_isDepth ∈ WG := List.mem_filter.mpr ⟨wr_3 _ (List.mem_of_getElem? (i := 38) rfl), rfl⟩
theorem wt_X2_isDepth : Cond.static yX2_isDepth ∈ WG := List.mem_filter.mpr ⟨wr_3 _ (List.mem_of_getElem? (i := 39) rfl), rfl⟩
theorem wc_X2_isDepth : Cond.code yX2_isDepth cX2_isDepth 1 (some .boolean) ∈ WG := List.mem_filter.mpr ⟨wr_3 _ (List.mem_of_getElem? (i := 40) rfl), rfl⟩
theorem wl_X2_90 : Cond.methodLink RX2 90 yX1_refusal ∈ WG := List.mem_filter.mpr ⟨wr_3 _ (List.mem_of_getElem? (i := 42) rfl), rfl⟩
theorem wl_X2_96 : Cond.methodLink RX2 96 yX1_addBurial ∈ WG := List.mem_filter.mpr ⟨wr_3 _ (List.mem_of_getElem? (i := 44) rfl), rfl⟩
theorem wi_X1_addBurial : Cond.instanceMethod yX1_addBurial ∈ WG := List.mem_filter.mpr ⟨wr_3 _ (List.mem_of_getElem? (i := 45) rfl), rfl⟩
theorem wv_X1_addBurial : Cond.selects RX1 yX1_addBurial yX1_addBurial ∈ WG := List.mem_filter.mpr ⟨wr_3 _ (List.mem_of_getElem? (i := 46) rfl), rfl⟩
theorem wc_X1_addBurial : Cond.code yX1_addBurial cX1_addBurial 6 (some .int) ∈ WG := List.mem_filter.mpr ⟨wr_3 _ (List.mem_of_getElem? (i := 47) rfl), rfl⟩
theorem wl_X1_70 : Cond.methodLink RX1 70 yX1_reachedWithout ∈ WG := List.mem_filter.mpr ⟨wr_3 _ (List.mem_of_getElem? (i := 48) rfl), rfl⟩
theorem wi_X1_reachedWithout : Cond.instanceMethod yX1_reachedWithout ∈ WG := List.mem_filter.mpr ⟨wr_3 _ (List.mem_of_getElem? (i := 50) rfl), rfl⟩
theorem wc_X1_reachedWithout : Cond.code yX1_reachedWithout cX1_reachedWithout 8 (some .long) ∈ WG := List.mem_filter.mpr ⟨wr_3 _ (List.mem_of_getElem? (i := 51) rfl), rfl⟩
theorem wl_X1_128 : Cond.methodLink RX1 128 yX1_neighboursOf ∈ WG := List.mem_filter.mpr ⟨wr_3 _ (List.mem_of_getElem? (i := 52) rfl), rfl⟩
theorem wt_X1_neighboursOf : Cond.static yX1_neighboursOf ∈ WG := List.mem_filter.mpr ⟨wr_3 _ (List.mem_of_getElem? (i := 53) rfl), rfl⟩
theorem wc_X1_neighboursOf : Cond.code yX1_neighboursOf cX1_neighboursOf 6 (some .long) ∈ WG := List.mem_filter.mpr ⟨wr_3 _ (List.mem_of_getElem? (i := 54) rfl), rfl⟩
theorem wq_X1_118 : Cond.constantLong RX1 118 (-551911719041) ∈ WG := List.mem_filter.mpr ⟨wr_3 _ (List.mem_of_getElem? (i := 55) rfl), rfl⟩
theorem wq_X1_120 : Cond.constantLong RX1 120 (-4311810306) ∈ WG := List.mem_filter.mpr ⟨wr_3 _ (List.mem_of_getElem? (i := 56) rfl), rfl⟩
theorem wl_L_108 : Cond.methodLink RL 108 yL_reserve ∈ WG := List.mem_filter.mpr ⟨wr_3 _ (List.mem_of_getElem? (i := 57) rfl), rfl⟩
theorem wt_L_reserve : Cond.static yL_reserve ∈ WG := List.mem_filter.mpr ⟨wr_3 _ (List.mem_of_getElem? (i := 58) rfl), rfl⟩
theorem wl_L_31 : Cond.methodLink RL 31 yX2_reserve ∈ WG := List.mem_filter.mpr ⟨wr_3 _ (List.mem_of_getElem? (i := 60) rfl), rfl⟩
theorem wi_X2_reserve : Cond.instanceMethod yX2_reserve ∈ WG := List.mem_filter.mpr ⟨wr_3 _ (List.mem_of_getElem? (i := 61) rfl), rfl⟩
theorem wv_X2_reserve : Cond.selects RX2 yX2_reserve yX2_reserve ∈ WG := List.mem_filter.mpr ⟨wr_3 _ (List.mem_of_getElem? (i := 62) rfl), rfl⟩
theorem wc_X2_reserve : Cond.code yX2_reserve cX2_reserve 4 (some .int) ∈ WG := List.mem_filter.mpr ⟨wr_3 _ (List.mem_of_getElem? (i := 63) rfl), rfl⟩
theorem wl_X2_100 : Cond.methodLink RX2 100 yX1_mayReserve ∈ WG := List.mem_filter.mpr ⟨wr_3 _ (List.mem_of_getElem? (i := 64) rfl), rfl⟩
theorem wi_X1_mayReserve : Cond.instanceMethod yX1_mayReserve ∈ WG := List.mem_filter.mpr ⟨wr_3 _ (List.mem_of_getElem? (i := 65) rfl), rfl⟩
theorem wv_X1_mayReserve : Cond.selects RX1 yX1_mayReserve yX1_mayReserve ∈ WG := List.mem_filter.mpr ⟨wr_3 _ (List.mem_of_getElem? (i := 66) rfl), rfl⟩
theorem wc_X1_mayReserve : Cond.code yX1_mayReserve cX1_mayReserve 3 (some .boolean) ∈ WG := List.mem_filter.mpr ⟨wr_3 _ (List.mem_of_getElem? (i := 67) rfl), rfl⟩
theorem wl_X2_106 : Cond.methodLink RX2 106 yX1_addReservation ∈ WG := List.mem_filter.mpr ⟨wr_3 _ (List.mem_of_getElem? (i := 69) rfl), rfl⟩
theorem wi_X1_addReservation : Cond.instanceMethod yX1_addReservation ∈ WG := List.mem_filter.mpr ⟨wr_3 _ (List.mem_of_getElem? (i := 70) rfl), rfl⟩
theorem wv_X1_addReservation : Cond.selects RX1 yX1_addReservation yX1_addReservation ∈ WG := List.mem_filter.mpr ⟨wr_3 _ (List.mem_of_getElem? (i := 71) rfl), rfl⟩
theorem wc_X1_addReservation : Cond.code yX1_addReservation cX1_addReservation 5 (some .int) ∈ WG := List.mem_filter.mpr ⟨wr_3 _ (List.mem_of_getElem? (i := 72) rfl), rfl⟩
theorem wl_X1_84 : Cond.methodLink RX1 84 yX1_charge ∈ WG := List.mem_filter.mpr ⟨wr_3 _ (List.mem_of_getElem? (i := 73) rfl), rfl⟩
theorem wi_X1_charge : Cond.instanceMethod yX1_charge ∈ WG := List.mem_filter.mpr ⟨wr_3 _ (List.mem_of_getElem? (i := 75) rfl), rfl⟩
theorem wc_X1_charge : Cond.code yX1_charge cX1_charge 4 (some .int) ∈ WG := List.mem_filter.mpr ⟨wr_3 _ (List.mem_of_getElem? (i := 76) rfl), rfl⟩
theorem wl_L_111 : Cond.methodLink RL 111 yL_buildVault ∈ WG := List.mem_filter.mpr ⟨wr_3 _ (List.mem_of_getElem? (i := 77) rfl), rfl⟩
theorem wt_L_buildVault : Cond.static yL_buildVault ∈ WG := List.mem_filter.mpr ⟨wr_3 _ (List.mem_of_getElem? (i := 78) rfl), rfl⟩
theorem wl_L_34 : Cond.methodLink RL 34 yX2_buildVault ∈ WG := List.mem_filter.mpr ⟨wr_3 _ (List.mem_of_getElem? (i := 80) rfl), rfl⟩
theorem wi_X2_buildVault : Cond.instanceMethod yX2_buildVault ∈ WG := List.mem_filter.mpr ⟨wr_3 _ (List.mem_of_getElem? (i := 81) rfl), rfl⟩
theorem wv_X2_buildVault : Cond.selects RX2 yX2_buildVault yX2_buildVault ∈ WG := List.mem_filter.mpr ⟨wr_3 _ (List.mem_of_getElem? (i := 82) rfl), rfl⟩
theorem wc_X2_buildVault : Cond.code yX2_buildVault cX2_buildVault 3 (some .int) ∈ WG := List.mem_filter.mpr ⟨wr_3 _ (List.mem_of_getElem? (i := 83) rfl), rfl⟩
theorem wl_X2_109 : Cond.methodLink RX2 109 yX1_mayBuildVault ∈ WG := List.mem_filter.mpr ⟨wr_3 _ (List.mem_of_getElem? (i := 84) rfl), rfl⟩
theorem wi_X1_mayBuildVault : Cond.instanceMethod yX1_mayBuildVault ∈ WG := List.mem_filter.mpr ⟨wr_3 _ (List.mem_of_getElem? (i := 85) rfl), rfl⟩
theorem wv_X1_mayBuildVault : Cond.selects RX1 yX1_mayBuildVault yX1_mayBuildVault ∈ WG := List.mem_filter.mpr ⟨wr_3 _ (List.mem_of_getElem? (i := 86) rfl), rfl⟩
theorem wc_X1_mayBuildVault : Cond.code yX1_mayBuildVault cX1_mayBuildVault 3 (some .boolean) ∈ WG := List.mem_filter.mpr ⟨wr_3 _ (List.mem_of_getElem? (i := 87) rfl), rfl⟩
theorem wl_X2_114 : Cond.methodLink RX2 114 yX1_addVault ∈ WG := List.mem_filter.mpr ⟨wr_3 _ (List.mem_of_getElem? (i := 89) rfl), rfl⟩
theorem wi_X1_addVault : Cond.instanceMethod yX1_addVault ∈ WG := List.mem_filter.mpr ⟨wr_3 _ (List.mem_of_getElem? (i := 90) rfl), rfl⟩
theorem wv_X1_addVault : Cond.selects RX1 yX1_addVault yX1_addVault ∈ WG := List.mem_filter.mpr ⟨wr_3 _ (List.mem_of_getElem? (i := 91) rfl), rfl⟩
theorem wc_X1_addVault : Cond.code yX1_addVault cX1_addVault 3 (some .int) ∈ WG := List.mem_filter.mpr ⟨wr_3 _ (List.mem_of_getElem? (i := 92) rfl), rfl⟩
theorem wl_L_114 : Cond.methodLink RL 114 yL_clear ∈ WG := List.mem_filter.mpr ⟨wr_3 _ (List.mem_of_getElem? (i := 93) rfl), rfl⟩
theorem wt_L_clear : Cond.static yL_clear ∈ WG := List.mem_filter.mpr ⟨wr_3 _ (List.mem_of_getElem? (i := 94) rfl), rfl⟩
theorem wl_L_37 : Cond.methodLink RL 37 yX2_clear ∈ WG := List.mem_filter.mpr ⟨wr_3 _ (List.mem_of_getElem? (i := 96) rfl), rfl⟩
theorem wi_X2_clear : Cond.instanceMethod yX2_clear ∈ WG := List.mem_filter.mpr ⟨wr_3 _ (List.mem_of_getElem? (i := 97) rfl), rfl⟩
theorem wv_X2_clear : Cond.selects RX2 yX2_clear yX2_clear ∈ WG := List.mem_filter.mpr ⟨wr_3 _ (List.mem_of_getElem? (i := 98) rfl), rfl⟩
theorem wc_X2_clear : Cond.code yX2_clear cX2_clear 2 (some .int) ∈ WG := List.mem_filter.mpr ⟨wr_3 _ (List.mem_of_getElem? (i := 99) rfl), rfl⟩
theorem wl_X2_117 : Cond.methodLink RX2 117 yX1_restingBurials ∈ WG := List.mem_filter.mpr ⟨wr_3 _ (List.mem_of_getElem? (i := 100) rfl), rfl⟩
theorem wl_X2_123 : Cond.methodLink RX2 123 yX1_removeBurials ∈ WG := List.mem_filter.mpr ⟨wr_3 _ (List.mem_of_getElem? (i := 102) rfl), rfl⟩
theorem wi_X1_removeBurials : Cond.instanceMethod yX1_removeBurials ∈ WG := List.mem_filter.mpr ⟨wr_3 _ (List.mem_of_getElem? (i := 103) rfl), rfl⟩
theorem wv_X1_removeBurials : Cond.selects RX1 yX1_removeBurials yX1_removeBurials ∈ WG := List.mem_filter.mpr ⟨wr_3 _ (List.mem_of_getElem? (i := 104) rfl), rfl⟩
theorem wc_X1_removeBurials : Cond.code yX1_removeBurials cX1_removeBurials 5 (some .int) ∈ WG := List.mem_filter.mpr ⟨wr_3 _ (List.mem_of_getElem? (i := 105) rfl), rfl⟩
theorem wl_L_117 : Cond.methodLink RL 117 yL_append ∈ WG := List.mem_filter.mpr ⟨wr_3 _ (List.mem_of_getElem? (i := 106) rfl), rfl⟩
theorem wt_L_append : Cond.static yL_append ∈ WG := List.mem_filter.mpr ⟨wr_3 _ (List.mem_of_getElem? (i := 107) rfl), rfl⟩
theorem wl_L_40 : Cond.methodLink RL 40 yX2_append ∈ WG := List.mem_filter.mpr ⟨wr_3 _ (List.mem_of_getElem? (i := 109) rfl), rfl⟩
theorem wi_X2_append : Cond.instanceMethod yX2_append ∈ WG := List.mem_filter.mpr ⟨wr_3 _ (List.mem_of_getElem? (i := 110) rfl), rfl⟩
theorem wv_X2_append : Cond.selects RX2 yX2_append yX2_append ∈ WG := List.mem_filter.mpr ⟨wr_3 _ (List.mem_of_getElem? (i := 111) rfl), rfl⟩
theorem wc_X2_append : Cond.code yX2_append cX2_append 2 (some .int) ∈ WG := List.mem_filter.mpr ⟨wr_3 _ (List.mem_of_getElem? (i := 112) rfl), rfl⟩
theorem wl_L_128 : Cond.methodLink RL 128 yL_load ∈ WG := List.mem_filter.mpr ⟨wr_3 _ (List.mem_of_getElem? (i := 115) rfl), rfl⟩
theorem wt_L_load : Cond.static yL_load ∈ WG := List.mem_filter.mpr ⟨wr_3 _ (List.mem_of_getElem? (i := 116) rfl), rfl⟩
theorem wl_L_43 : Cond.methodLink RL 43 yX2_load ∈ WG := List.mem_filter.mpr ⟨wr_3 _ (List.mem_of_getElem? (i := 118) rfl), rfl⟩
theorem wi_X2_load : Cond.instanceMethod yX2_load ∈ WG := List.mem_filter.mpr ⟨wr_3 _ (List.mem_of_getElem? (i := 119) rfl), rfl⟩
theorem wv_X2_load : Cond.selects RX2 yX2_load yX2_load ∈ WG := List.mem_filter.mpr ⟨wr_3 _ (List.mem_of_getElem? (i := 120) rfl), rfl⟩
theorem wc_X2_load : Cond.code yX2_load cX2_load 2 (some .int) ∈ WG := List.mem_filter.mpr ⟨wr_3 _ (List.mem_of_getElem? (i := 121) rfl), rfl⟩
theorem wl_X2_133 : Cond.methodLink RX2 133 yX0_isComplete ∈ WG := List.mem_filter.mpr ⟨wr_3 _ (List.mem_of_getElem? (i := 122) rfl), rfl⟩
theorem wi_X0_isComplete : Cond.instanceMethod yX0_isComplete ∈ WG := List.mem_filter.mpr ⟨wr_3 _ (List.mem_of_getElem? (i := 123) rfl), rfl⟩
theorem wv_X0_isComplete : Cond.selects RX0 yX0_isComplete yX0_isComplete ∈ WG := List.mem_filter.mpr ⟨wr_3 _ (List.mem_of_getElem? (i := 124) rfl), rfl⟩
theorem wc_X0_isComplete : Cond.code yX0_isComplete cX0_isComplete 1 (some .boolean) ∈ WG := List.mem_filter.mpr ⟨wr_3 _ (List.mem_of_getElem? (i := 125) rfl), rfl⟩
theorem wl_X2_139 : Cond.methodLink RX2 139 yX2_carryOutEntries ∈ WG := List.mem_filter.mpr ⟨wr_3 _ (List.mem_of_getElem? (i := 127) rfl), rfl⟩
theorem wi_X2_carryOutEntries : Cond.instanceMethod yX2_carryOutEntries ∈ WG := List.mem_filter.mpr ⟨wr_3 _ (List.mem_of_getElem? (i := 129) rfl), rfl⟩
theorem wc_X2_carryOutEntries : Cond.code yX2_carryOutEntries cX2_carryOutEntries 3 (some .int) ∈ WG := List.mem_filter.mpr ⟨wr_3 _ (List.mem_of_getElem? (i := 130) rfl), rfl⟩
theorem wl_X2_230 : Cond.methodLink RX2 230 yX2_carryOutEntry ∈ WG := List.mem_filter.mpr ⟨wr_3 _ (List.mem_of_getElem? (i := 131) rfl), rfl⟩
theorem wi_X2_carryOutEntry : Cond.instanceMethod yX2_carryOutEntry ∈ WG := List.mem_filter.mpr ⟨wr_3 _ (List.mem_of_getElem? (i := 133) rfl), rfl⟩
theorem wc_X2_carryOutEntry : Cond.code yX2_carryOutEntry cX2_carryOutEntry 1 (some .boolean) ∈ WG := List.mem_filter.mpr ⟨wr_3 _ (List.mem_of_getElem? (i := 134) rfl), rfl⟩
theorem wl_L_132 : Cond.methodLink RL 132 yL_undo ∈ WG := List.mem_filter.mpr ⟨wr_3 _ (List.mem_of_getElem? (i := 135) rfl), rfl⟩
theorem wt_L_undo : Cond.static yL_undo ∈ WG := List.mem_filter.mpr ⟨wr_3 _ (List.mem_of_getElem? (i := 136) rfl), rfl⟩
theorem wl_L_47 : Cond.methodLink RL 47 yX2_undo ∈ WG := List.mem_filter.mpr ⟨wr_3 _ (List.mem_of_getElem? (i := 138) rfl), rfl⟩
theorem wi_X2_undo : Cond.instanceMethod yX2_undo ∈ WG := List.mem_filter.mpr ⟨wr_3 _ (List.mem_of_getElem? (i := 139) rfl), rfl⟩
theorem wv_X2_undo : Cond.selects RX2 yX2_undo yX2_undo ∈ WG := List.mem_filter.mpr ⟨wr_3 _ (List.mem_of_getElem? (i := 140) rfl), rfl⟩
theorem wc_X2_undo : Cond.code yX2_undo cX2_undo 1 (some .int) ∈ WG := List.mem_filter.mpr ⟨wr_3 _ (List.mem_of_getElem? (i := 141) rfl), rfl⟩
theorem wl_L_135 : Cond.methodLink RL 135 yL_plot ∈ WG := List.mem_filter.mpr ⟨wr_3 _ (List.mem_of_getElem? (i := 143) rfl), rfl⟩
theorem wt_L_plot : Cond.static yL_plot ∈ WG := List.mem_filter.mpr ⟨wr_3 _ (List.mem_of_getElem? (i := 144) rfl), rfl⟩
theorem wl_L_50 : Cond.methodLink RL 50 yX2_plot ∈ WG := List.mem_filter.mpr ⟨wr_3 _ (List.mem_of_getElem? (i := 146) rfl), rfl⟩
theorem wi_X2_plot : Cond.instanceMethod yX2_plot ∈ WG := List.mem_filter.mpr ⟨wr_3 _ (List.mem_of_getElem? (i := 147) rfl), rfl⟩
theorem wv_X2_plot : Cond.selects RX2 yX2_plot yX2_plot ∈ WG := List.mem_filter.mpr ⟨wr_3 _ (List.mem_of_getElem? (i := 148) rfl), rfl⟩
theorem wc_X2_plot : Cond.code yX2_plot cX2_plot 3 (some .int) ∈ WG := List.mem_filter.mpr ⟨wr_3 _ (List.mem_of_getElem? (i := 149) rfl), rfl⟩
theorem wl_X2_148 : Cond.methodLink RX2 148 yX2_needProperty ∈ WG := List.mem_filter.mpr ⟨wr_3 _ (List.mem_of_getElem? (i := 150) rfl), rfl⟩
theorem wt_X2_needProperty : Cond.static yX2_needProperty ∈ WG := List.mem_filter.mpr ⟨wr_3 _ (List.mem_of_getElem? (i := 151) rfl), rfl⟩
theorem wc_X2_needProperty : Cond.code yX2_needProperty cX2_needProperty 2 none ∈ WG := List.mem_filter.mpr ⟨wr_3 _ (List.mem_of_getElem? (i := 152) rfl), rfl⟩
theorem wl_L_138 : Cond.methodLink RL 138 yL_burial ∈ WG := List.mem_filter.mpr ⟨wr_3 _ (List.mem_of_getElem? (i := 154) rfl), rfl⟩
theorem wt_L_burial : Cond.static yL_burial ∈ WG := List.mem_filter.mpr ⟨wr_3 _ (List.mem_of_getElem? (i := 155) rfl), rfl⟩
theorem wl_L_53 : Cond.methodLink RL 53 yX2_burial ∈ WG := List.mem_filter.mpr ⟨wr_3 _ (List.mem_of_getElem? (i := 157) rfl), rfl⟩
theorem wi_X2_burial : Cond.instanceMethod yX2_burial ∈ WG := List.mem_filter.mpr ⟨wr_3 _ (List.mem_of_getElem? (i := 158) rfl), rfl⟩
theorem wv_X2_burial : Cond.selects RX2 yX2_burial yX2_burial ∈ WG := List.mem_filter.mpr ⟨wr_3 _ (List.mem_of_getElem? (i := 159) rfl), rfl⟩
theorem wc_X2_burial : Cond.code yX2_burial cX2_burial 4 (some .int) ∈ WG := List.mem_filter.mpr ⟨wr_3 _ (List.mem_of_getElem? (i := 160) rfl), rfl⟩
theorem wl_L_141 : Cond.methodLink RL 141 yL_family ∈ WG := List.mem_filter.mpr ⟨wr_3 _ (List.mem_of_getElem? (i := 162) rfl), rfl⟩
theorem wt_L_family : Cond.static yL_family ∈ WG := List.mem_filter.mpr ⟨wr_3 _ (List.mem_of_getElem? (i := 163) rfl), rfl⟩
theorem wl_L_56 : Cond.methodLink RL 56 yX2_family ∈ WG := List.mem_filter.mpr ⟨wr_3 _ (List.mem_of_getElem? (i := 165) rfl), rfl⟩
theorem wi_X2_family : Cond.instanceMethod yX2_family ∈ WG := List.mem_filter.mpr ⟨wr_3 _ (List.mem_of_getElem? (i := 166) rfl), rfl⟩
theorem wv_X2_family : Cond.selects RX2 yX2_family yX2_family ∈ WG := List.mem_filter.mpr ⟨wr_3 _ (List.mem_of_getElem? (i := 167) rfl), rfl⟩
theorem wc_X2_family : Cond.code yX2_family cX2_family 3 (some .int) ∈ WG := List.mem_filter.mpr ⟨wr_3 _ (List.mem_of_getElem? (i := 168) rfl), rfl⟩
theorem wl_L_144 : Cond.methodLink RL 144 yL_count ∈ WG := List.mem_filter.mpr ⟨wr_3 _ (List.mem_of_getElem? (i := 169) rfl), rfl⟩
theorem wt_L_count : Cond.static yL_count ∈ WG := List.mem_filter.mpr ⟨wr_3 _ (List.mem_of_getElem? (i := 170) rfl), rfl⟩
theorem wl_L_59 : Cond.methodLink RL 59 yX2_count ∈ WG := List.mem_filter.mpr ⟨wr_3 _ (List.mem_of_getElem? (i := 172) rfl), rfl⟩
theorem wi_X2_count : Cond.instanceMethod yX2_count ∈ WG := List.mem_filter.mpr ⟨wr_3 _ (List.mem_of_getElem? (i := 173) rfl), rfl⟩
theorem wv_X2_count : Cond.selects RX2 yX2_count yX2_count ∈ WG := List.mem_filter.mpr ⟨wr_3 _ (List.mem_of_getElem? (i := 174) rfl), rfl⟩
theorem wc_X2_count : Cond.code yX2_count cX2_count 2 (some .int) ∈ WG := List.mem_filter.mpr ⟨wr_3 _ (List.mem_of_getElem? (i := 175) rfl), rfl⟩
theorem wl_L_147 : Cond.methodLink RL 147 yL_why ∈ WG := List.mem_filter.mpr ⟨wr_3 _ (List.mem_of_getElem? (i := 176) rfl), rfl⟩
theorem wt_L_why : Cond.static yL_why ∈ WG := List.mem_filter.mpr ⟨wr_3 _ (List.mem_of_getElem? (i := 177) rfl), rfl⟩
theorem wl_L_62 : Cond.methodLink RL 62 yX2_why ∈ WG := List.mem_filter.mpr ⟨wr_3 _ (List.mem_of_getElem? (i := 179) rfl), rfl⟩
theorem wi_X2_why : Cond.instanceMethod yX2_why ∈ WG := List.mem_filter.mpr ⟨wr_3 _ (List.mem_of_getElem? (i := 180) rfl), rfl⟩
theorem wv_X2_why : Cond.selects RX2 yX2_why yX2_why ∈ WG := List.mem_filter.mpr ⟨wr_3 _ (List.mem_of_getElem? (i := 181) rfl), rfl⟩
theorem wc_X2_why : Cond.code yX2_why cX2_why 4 (some .int) ∈ WG := List.mem_filter.mpr ⟨wr_3 _ (List.mem_of_getElem? (i := 182) rfl), rfl⟩
theorem wl_L_150 : Cond.methodLink RL 150 yL_fee ∈ WG := List.mem_filter.mpr ⟨wr_3 _ (List.mem_of_getElem? (i := 183) rfl), rfl⟩
theorem wt_L_fee : Cond.static yL_fee ∈ WG := List.mem_filter.mpr ⟨wr_3 _ (List.mem_of_getElem? (i := 184) rfl), rfl⟩
theorem wl_L_65 : Cond.methodLink RL 65 yX2_fee ∈ WG := List.mem_filter.mpr ⟨wr_3 _ (List.mem_of_getElem? (i := 186) rfl), rfl⟩
theorem wi_X2_fee : Cond.instanceMethod yX2_fee ∈ WG := List.mem_filter.mpr ⟨wr_3 _ (List.mem_of_getElem? (i := 187) rfl), rfl⟩
theorem wv_X2_fee : Cond.selects RX2 yX2_fee yX2_fee ∈ WG := List.mem_filter.mpr ⟨wr_3 _ (List.mem_of_getElem? (i := 188) rfl), rfl⟩
theorem wc_X2_fee : Cond.code yX2_fee cX2_fee 4 (some .int) ∈ WG := List.mem_filter.mpr ⟨wr_3 _ (List.mem_of_getElem? (i := 189) rfl), rfl⟩
theorem wl_X2_169 : Cond.methodLink RX2 169 yX1_burialFee ∈ WG := List.mem_filter.mpr ⟨wr_3 _ (List.mem_of_getElem? (i := 190) rfl), rfl⟩
theorem wl_L_153 : Cond.methodLink RL 153 yL_deepest ∈ WG := List.mem_filter.mpr ⟨wr_3 _ (List.mem_of_getElem? (i := 191) rfl), rfl⟩
theorem wt_L_deepest : Cond.static yL_deepest ∈ WG := List.mem_filter.mpr ⟨wr_3 _ (List.mem_of_getElem? (i := 192) rfl), rfl⟩
theorem wl_L_68 : Cond.methodLink RL 68 yX2_deepest ∈ WG := List.mem_filter.mpr ⟨wr_3 _ (List.mem_of_getElem? (i := 194) rfl), rfl⟩
theorem wi_X2_deepest : Cond.instanceMethod yX2_deepest ∈ WG := List.mem_filter.mpr ⟨wr_3 _ (List.mem_of_getElem? (i := 195) rfl), rfl⟩
theorem wv_X2_deepest : Cond.selects RX2 yX2_deepest yX2_deepest ∈ WG := List.mem_filter.mpr ⟨wr_3 _ (List.mem_of_getElem? (i := 196) rfl), rfl⟩
theorem wc_X2_deepest : Cond.code yX2_deepest cX2_deepest 4 (some .int) ∈ WG := List.mem_filter.mpr ⟨wr_3 _ (List.mem_of_getElem? (i := 197) rfl), rfl⟩
theorem wl_L_156 : Cond.methodLink RL 156 yL_bestPlot ∈ WG := List.mem_filter.mpr ⟨wr_3 _ (List.mem_of_getElem? (i := 198) rfl), rfl⟩
theorem wt_L_bestPlot : Cond.static yL_bestPlot ∈ WG := List.mem_filter.mpr ⟨wr_3 _ (List.mem_of_getElem? (i := 199) rfl), rfl⟩
theorem wl_L_71 : Cond.methodLink RL 71 yX2_bestPlot ∈ WG := List.mem_filter.mpr ⟨wr_3 _ (List.mem_of_getElem? (i := 201) rfl), rfl⟩
theorem wi_X2_bestPlot : Cond.instanceMethod yX2_bestPlot ∈ WG := List.mem_filter.mpr ⟨wr_3 _ (List.mem_of_getElem? (i := 202) rfl), rfl⟩
theorem wv_X2_bestPlot : Cond.selects RX2 yX2_bestPlot yX2_bestPlot ∈ WG := List.mem_filter.mpr ⟨wr_3 _ (List.mem_of_getElem? (i := 203) rfl), rfl⟩
theorem wc_X2_bestPlot : Cond.code yX2_bestPlot cX2_bestPlot 2 (some .int) ∈ WG := List.mem_filter.mpr ⟨wr_3 _ (List.mem_of_getElem? (i := 204) rfl), rfl⟩
theorem wl_L_159 : Cond.methodLink RL 159 yL_yearFor ∈ WG := List.mem_filter.mpr ⟨wr_3 _ (List.mem_of_getElem? (i := 205) rfl), rfl⟩
theorem wt_L_yearFor : Cond.static yL_yearFor ∈ WG := List.mem_filter.mpr ⟨wr_3 _ (List.mem_of_getElem? (i := 206) rfl), rfl⟩
theorem wl_L_74 : Cond.methodLink RL 74 yX2_yearFor ∈ WG := List.mem_filter.mpr ⟨wr_3 _ (List.mem_of_getElem? (i := 208) rfl), rfl⟩
theorem wi_X2_yearFor : Cond.instanceMethod yX2_yearFor ∈ WG := List.mem_filter.mpr ⟨wr_3 _ (List.mem_of_getElem? (i := 209) rfl), rfl⟩
theorem wv_X2_yearFor : Cond.selects RX2 yX2_yearFor yX2_yearFor ∈ WG := List.mem_filter.mpr ⟨wr_3 _ (List.mem_of_getElem? (i := 210) rfl), rfl⟩
theorem wc_X2_yearFor : Cond.code yX2_yearFor cX2_yearFor 5 (some .int) ∈ WG := List.mem_filter.mpr ⟨wr_3 _ (List.mem_of_getElem? (i := 211) rfl), rfl⟩
theorem wl_L_162 : Cond.methodLink RL 162 yL_clearYear ∈ WG := List.mem_filter.mpr ⟨wr_3 _ (List.mem_of_getElem? (i := 212) rfl), rfl⟩
theorem wt_L_clearYear : Cond.static yL_clearYear ∈ WG := List.mem_filter.mpr ⟨wr_3 _ (List.mem_of_getElem? (i := 213) rfl), rfl⟩
theorem wl_L_77 : Cond.methodLink RL 77 yX2_clearYear ∈ WG := List.mem_filter.mpr ⟨wr_3 _ (List.mem_of_getElem? (i := 215) rfl), rfl⟩
theorem wi_X2_clearYear : Cond.instanceMethod yX2_clearYear ∈ WG := List.mem_filter.mpr ⟨wr_3 _ (List.mem_of_getElem? (i := 216) rfl), rfl⟩
theorem wv_X2_clearYear : Cond.selects RX2 yX2_clearYear yX2_clearYear ∈ WG := List.mem_filter.mpr ⟨wr_3 _ (List.mem_of_getElem? (i := 217) rfl), rfl⟩
theorem wc_X2_clearYear : Cond.code yX2_clearYear cX2_clearYear 2 (some .int) ∈ WG := List.mem_filter.mpr ⟨wr_3 _ (List.mem_of_getElem? (i := 218) rfl), rfl⟩
theorem wl_L_165 : Cond.methodLink RL 165 yL_cutsOff ∈ WG := List.mem_filter.mpr ⟨wr_3 _ (List.mem_of_getElem? (i := 219) rfl), rfl⟩
theorem wt_L_cutsOff : Cond.static yL_cutsOff ∈ WG := List.mem_filter.mpr ⟨wr_3 _ (List.mem_of_getElem? (i := 220) rfl), rfl⟩
theorem wl_L_80 : Cond.methodLink RL 80 yX2_cutsOff ∈ WG := List.mem_filter.mpr ⟨wr_3 _ (List.mem_of_getElem? (i := 222) rfl), rfl⟩
theorem wi_X2_cutsOff : Cond.instanceMethod yX2_cutsOff ∈ WG := List.mem_filter.mpr ⟨wr_3 _ (List.mem_of_getElem? (i := 223) rfl), rfl⟩
theorem wv_X2_cutsOff : Cond.selects RX2 yX2_cutsOff yX2_cutsOff ∈ WG := List.mem_filter.mpr ⟨wr_3 _ (List.mem_of_getElem? (i := 224) rfl), rfl⟩
theorem wc_X2_cutsOff : Cond.code yX2_cutsOff cX2_cutsOff 2 (some .int) ∈ WG := List.mem_filter.mpr ⟨wr_3 _ (List.mem_of_getElem? (i := 225) rfl), rfl⟩
theorem wl_X2_178 : Cond.methodLink RX2 178 yX1_lostWithout ∈ WG := List.mem_filter.mpr ⟨wr_3 _ (List.mem_of_getElem? (i := 226) rfl), rfl⟩
theorem wi_X1_lostWithout : Cond.instanceMethod yX1_lostWithout ∈ WG := List.mem_filter.mpr ⟨wr_3 _ (List.mem_of_getElem? (i := 227) rfl), rfl⟩
theorem wv_X1_lostWithout : Cond.selects RX1 yX1_lostWithout yX1_lostWithout ∈ WG := List.mem_filter.mpr ⟨wr_3 _ (List.mem_of_getElem? (i := 228) rfl), rfl⟩
theorem wc_X1_lostWithout : Cond.code yX1_lostWithout cX1_lostWithout 4 (some .int) ∈ WG := List.mem_filter.mpr ⟨wr_3 _ (List.mem_of_getElem? (i := 229) rfl), rfl⟩
theorem wk_L_84 : Cond.classLink RL 84 RX3 ∈ WG := List.mem_filter.mpr ⟨wr_3 _ (List.mem_of_getElem? (i := 230) rfl), rfl⟩
theorem wb_X3 : Cond.instantiable RX3 16 ∈ WG := List.mem_filter.mpr ⟨wr_3 _ (List.mem_of_getElem? (i := 231) rfl), rfl⟩
theorem wl_L_86 : Cond.methodLink RL 86 yX3_init ∈ WG := List.mem_filter.mpr ⟨wr_3 _ (List.mem_of_getElem? (i := 232) rfl), rfl⟩
theorem wi_X3_init : Cond.instanceMethod yX3_init ∈ WG := List.mem_filter.mpr ⟨wr_3 _ (List.mem_of_getElem? (i := 233) rfl), rfl⟩
theorem wc_X3_init : Cond.code yX3_init cX3_init 2 none ∈ WG := List.mem_filter.mpr ⟨wr_3 _ (List.mem_of_getElem? (i := 234) rfl), rfl⟩
theorem wl_X3_1 : Cond.methodLink RX3 1 (⟨"java/lang/Object", "<init>", "()V"⟩ : MethodName) ∈ WG := List.mem_filter.mpr ⟨wr_3 _ (List.mem_of_getElem? (i := 235) rfl), rfl⟩
theorem wf_X3_7 : Cond.fieldLink RX3 7 "BurialGroundModel" "z" "[I" ∈ WG := List.mem_filter.mpr ⟨wr_3 _ (List.mem_of_getElem? (i := 236) rfl), rfl⟩
theorem wf_X3_13 : Cond.fieldLink RX3 13 "BurialGroundModel" "rows" "[I" ∈ WG := List.mem_filter.mpr ⟨wr_3 _ (List.mem_of_getElem? (i := 237) rfl), rfl⟩
theorem wf_X3_85 : Cond.fieldLink RX3 85 "BurialGroundModel" "saved" "I" ∈ WG := List.mem_filter.mpr ⟨wr_3 _ (List.mem_of_getElem? (i := 238) rfl), rfl⟩
theorem wf_X3_16 : Cond.fieldLink RX3 16 "BurialGroundModel" "text" "[I" ∈ WG := List.mem_filter.mpr ⟨wr_3 _ (List.mem_of_getElem? (i := 239) rfl), rfl⟩
theorem wf_X3_130 : Cond.fieldLink RX3 130 "BurialGroundModel" "length" "I" ∈ WG := List.mem_filter.mpr ⟨wr_4 _ (List.mem_of_getElem? (i := 0) rfl), rfl⟩
theorem wf_X3_37 : Cond.fieldLink RX3 37 "BurialGroundModel" "thrown" "I" ∈ WG := List.mem_filter.mpr ⟨wr_4 _ (List.mem_of_getElem? (i := 1) rfl), rfl⟩
theorem wf_X3_45 : Cond.fieldLink RX3 45 "BurialGroundModel" "now" "I" ∈ WG := List.mem_filter.mpr ⟨wr_4 _ (List.mem_of_getElem? (i := 2) rfl), rfl⟩
theorem wf_X3_19 : Cond.fieldLink RX3 19 "BurialGroundModel" "way" "[I" ∈ WG := List.mem_filter.mpr ⟨wr_4 _ (List.mem_of_getElem? (i := 3) rfl), rfl⟩
theorem wf_X3_22 : Cond.fieldLink RX3 22 "BurialGroundModel" "queue" "[I" ∈ WG := List.mem_filter.mpr ⟨wr_4 _ (List.mem_of_getElem? (i := 4) rfl), rfl⟩
theorem wf_X3_133 : Cond.fieldLink RX3 133 "BurialGroundModel" "many" "I" ∈ WG := List.mem_filter.mpr ⟨wr_4 _ (List.mem_of_getElem? (i := 5) rfl), rfl⟩
theorem wf_X3_25 : Cond.fieldLink RX3 25 "BurialGroundModel" "sort" "[I" ∈ WG := List.mem_filter.mpr ⟨wr_4 _ (List.mem_of_getElem? (i := 6) rfl), rfl⟩
theorem wf_X3_28 : Cond.fieldLink RX3 28 "BurialGroundModel" "who" "[I" ∈ WG := List.mem_filter.mpr ⟨wr_4 _ (List.mem_of_getElem? (i := 7) rfl), rfl⟩
theorem wf_X3_31 : Cond.fieldLink RX3 31 "BurialGroundModel" "where" "[I" ∈ WG := List.mem_filter.mpr ⟨wr_4 _ (List.mem_of_getElem? (i := 8) rfl), rfl⟩
theorem wf_X3_34 : Cond.fieldLink RX3 34 "BurialGroundModel" "much" "[I" ∈ WG := List.mem_filter.mpr ⟨wr_4 _ (List.mem_of_getElem? (i := 9) rfl), rfl⟩
theorem wf_X3_136 : Cond.fieldLink RX3 136 "BurialGroundModel" "isWhole" "Z" ∈ WG := List.mem_filter.mpr ⟨wr_4 _ (List.mem_of_getElem? (i := 10) rfl), rfl⟩
theorem wf_X3_173 : Cond.fieldLink RX3 173 "BurialGroundModel" "h" "J" ∈ WG := List.mem_filter.mpr ⟨wr_4 _ (List.mem_of_getElem? (i := 11) rfl), rfl⟩
theorem wy_X3_z : Cond.laysFinal RX3 "BurialGroundModel" "z" "[I" ∈ WG := List.mem_filter.mpr ⟨wr_4 _ (List.mem_of_getElem? (i := 12) rfl), rfl⟩
theorem wy_X3_rows : Cond.laysFinal RX3 "BurialGroundModel" "rows" "[I" ∈ WG := List.mem_filter.mpr ⟨wr_4 _ (List.mem_of_getElem? (i := 14) rfl), rfl⟩
theorem wy_X3_saved : Cond.lays RX3 "BurialGroundModel" "saved" "I" ∈ WG := List.mem_filter.mpr ⟨wr_4 _ (List.mem_of_getElem? (i := 16) rfl), rfl⟩
theorem wy_X3_text : Cond.laysFinal RX3 "BurialGroundModel" "text" "[I" ∈ WG := List.mem_filter.mpr ⟨wr_4 _ (List.mem_of_getElem? (i := 18) rfl), rfl⟩
theorem wy_X3_length : Cond.lays RX3 "BurialGroundModel" "length" "I" ∈ WG := List.mem_filter.mpr ⟨wr_4 _ (List.mem_of_getElem? (i := 20) rfl), rfl⟩
theorem wy_X3_thrown : Cond.lays RX3 "BurialGroundModel" "thrown" "I" ∈ WG := List.mem_filter.mpr ⟨wr_4 _ (List.mem_of_getElem? (i := 22) rfl), rfl⟩
theorem wy_X3_now : Cond.lays RX3 "BurialGroundModel" "now" "I" ∈ WG := List.mem_filter.mpr ⟨wr_4 _ (List.mem_of_getElem? (i := 24) rfl), rfl⟩
theorem wy_X3_way : Cond.laysFinal RX3 "BurialGroundModel" "way" "[I" ∈ WG := List.mem_filter.mpr ⟨wr_4 _ (List.mem_of_getElem? (i := 26) rfl), rfl⟩
theorem wy_X3_queue : Cond.laysFinal RX3 "BurialGroundModel" "queue" "[I" ∈ WG := List.mem_filter.mpr ⟨wr_4 _ (List.mem_of_getElem? (i := 28) rfl), rfl⟩
theorem wy_X3_many : Cond.lays RX3 "BurialGroundModel" "many" "I" ∈ WG := List.mem_filter.mpr ⟨wr_4 _ (List.mem_of_getElem? (i := 30) rfl), rfl⟩
theorem wy_X3_sort : Cond.laysFinal RX3 "BurialGroundModel" "sort" "[I" ∈ WG := List.mem_filter.mpr ⟨wr_4 _ (List.mem_of_getElem? (i := 32) rfl), rfl⟩
theorem wy_X3_who : Cond.laysFinal RX3 "BurialGroundModel" "who" "[I" ∈ WG := List.mem_filter.mpr ⟨wr_4 _ (List.mem_of_getElem? (i := 34) rfl), rfl⟩
theorem wy_X3_where : Cond.laysFinal RX3 "BurialGroundModel" "where" "[I" ∈ WG := List.mem_filter.mpr ⟨wr_4 _ (List.mem_of_getElem? (i := 36) rfl), rfl⟩
theorem wy_X3_much : Cond.laysFinal RX3 "BurialGroundModel" "much" "[I" ∈ WG := List.mem_filter.mpr ⟨wr_4 _ (List.mem_of_getElem? (i := 38) rfl), rfl⟩
theorem wy_X3_isWhole : Cond.lays RX3 "BurialGroundModel" "isWhole" "Z" ∈ WG := List.mem_filter.mpr ⟨wr_4 _ (List.mem_of_getElem? (i := 40) rfl), rfl⟩
theorem wy_X3_h : Cond.lays RX3 "BurialGroundModel" "h" "J" ∈ WG := List.mem_filter.mpr ⟨wr_4 _ (List.mem_of_getElem? (i := 42) rfl), rfl⟩
theorem wl_L_93 : Cond.methodLink RL 93 yX3_thrown ∈ WG := List.mem_filter.mpr ⟨wr_4 _ (List.mem_of_getElem? (i := 45) rfl), rfl⟩
theorem wi_X3_thrown : Cond.instanceMethod yX3_thrown ∈ WG := List.mem_filter.mpr ⟨wr_4 _ (List.mem_of_getElem? (i := 46) rfl), rfl⟩
theorem wv_X3_thrown : Cond.selects RX3 yX3_thrown yX3_thrown ∈ WG := List.mem_filter.mpr ⟨wr_4 _ (List.mem_of_getElem? (i := 47) rfl), rfl⟩
theorem wc_X3_thrown : Cond.code yX3_thrown cX3_thrown 1 (some .int) ∈ WG := List.mem_filter.mpr ⟨wr_4 _ (List.mem_of_getElem? (i := 48) rfl), rfl⟩
theorem wl_L_92 : Cond.methodLink RL 92 yX3_lay ∈ WG := List.mem_filter.mpr ⟨wr_4 _ (List.mem_of_getElem? (i := 49) rfl), rfl⟩
theorem wi_X3_lay : Cond.instanceMethod yX3_lay ∈ WG := List.mem_filter.mpr ⟨wr_4 _ (List.mem_of_getElem? (i := 50) rfl), rfl⟩
theorem wv_X3_lay : Cond.selects RX3 yX3_lay yX3_lay ∈ WG := List.mem_filter.mpr ⟨wr_4 _ (List.mem_of_getElem? (i := 51) rfl), rfl⟩
theorem wc_X3_lay : Cond.code yX3_lay cX3_lay 4 (some .int) ∈ WG := List.mem_filter.mpr ⟨wr_4 _ (List.mem_of_getElem? (i := 52) rfl), rfl⟩
theorem wl_X3_92 : Cond.methodLink RX3 92 yX3_look ∈ WG := List.mem_filter.mpr ⟨wr_4 _ (List.mem_of_getElem? (i := 53) rfl), rfl⟩
theorem wi_X3_look : Cond.instanceMethod yX3_look ∈ WG := List.mem_filter.mpr ⟨wr_4 _ (List.mem_of_getElem? (i := 55) rfl), rfl⟩
theorem wc_X3_look : Cond.code yX3_look cX3_look 1 none ∈ WG := List.mem_filter.mpr ⟨wr_4 _ (List.mem_of_getElem? (i := 56) rfl), rfl⟩
theorem wl_X3_88 : Cond.methodLink RX3 88 yX3_walk ∈ WG := List.mem_filter.mpr ⟨wr_4 _ (List.mem_of_getElem? (i := 57) rfl), rfl⟩
theorem wi_X3_walk : Cond.instanceMethod yX3_walk ∈ WG := List.mem_filter.mpr ⟨wr_4 _ (List.mem_of_getElem? (i := 59) rfl), rfl⟩
theorem wc_X3_walk : Cond.code yX3_walk cX3_walk 6 none ∈ WG := List.mem_filter.mpr ⟨wr_4 _ (List.mem_of_getElem? (i := 60) rfl), rfl⟩
theorem wl_X3_63 : Cond.methodLink RX3 63 yX3_beside ∈ WG := List.mem_filter.mpr ⟨wr_4 _ (List.mem_of_getElem? (i := 61) rfl), rfl⟩
theorem wt_X3_beside : Cond.static yX3_beside ∈ WG := List.mem_filter.mpr ⟨wr_4 _ (List.mem_of_getElem? (i := 62) rfl), rfl⟩
theorem wc_X3_beside : Cond.code yX3_beside cX3_beside 2 (some .int) ∈ WG := List.mem_filter.mpr ⟨wr_4 _ (List.mem_of_getElem? (i := 63) rfl), rfl⟩
theorem wl_X3_67 : Cond.methodLink RX3 67 yX3_buried ∈ WG := List.mem_filter.mpr ⟨wr_4 _ (List.mem_of_getElem? (i := 64) rfl), rfl⟩
theorem wi_X3_buried : Cond.instanceMethod yX3_buried ∈ WG := List.mem_filter.mpr ⟨wr_4 _ (List.mem_of_getElem? (i := 66) rfl), rfl⟩
theorem wc_X3_buried : Cond.code yX3_buried cX3_buried 4 (some .int) ∈ WG := List.mem_filter.mpr ⟨wr_4 _ (List.mem_of_getElem? (i := 67) rfl), rfl⟩
theorem wl_X3_41 : Cond.methodLink RX3 41 yX3_within ∈ WG := List.mem_filter.mpr ⟨wr_4 _ (List.mem_of_getElem? (i := 68) rfl), rfl⟩
theorem wt_X3_within : Cond.static yX3_within ∈ WG := List.mem_filter.mpr ⟨wr_4 _ (List.mem_of_getElem? (i := 69) rfl), rfl⟩
theorem wc_X3_within : Cond.code yX3_within cX3_within 3 (some .boolean) ∈ WG := List.mem_filter.mpr ⟨wr_4 _ (List.mem_of_getElem? (i := 70) rfl), rfl⟩
theorem wl_X3_95 : Cond.methodLink RX3 95 yX3_fails ∈ WG := List.mem_filter.mpr ⟨wr_4 _ (List.mem_of_getElem? (i := 71) rfl), rfl⟩
theorem wi_X3_fails : Cond.instanceMethod yX3_fails ∈ WG := List.mem_filter.mpr ⟨wr_4 _ (List.mem_of_getElem? (i := 73) rfl), rfl⟩
theorem wc_X3_fails : Cond.code yX3_fails cX3_fails 2 (some .int) ∈ WG := List.mem_filter.mpr ⟨wr_4 _ (List.mem_of_getElem? (i := 74) rfl), rfl⟩
theorem wl_X3_98 : Cond.methodLink RX3 98 yX3_save ∈ WG := List.mem_filter.mpr ⟨wr_4 _ (List.mem_of_getElem? (i := 75) rfl), rfl⟩
theorem wi_X3_save : Cond.instanceMethod yX3_save ∈ WG := List.mem_filter.mpr ⟨wr_4 _ (List.mem_of_getElem? (i := 77) rfl), rfl⟩
theorem wc_X3_save : Cond.code yX3_save cX3_save 2 none ∈ WG := List.mem_filter.mpr ⟨wr_4 _ (List.mem_of_getElem? (i := 78) rfl), rfl⟩
theorem wl_L_99 : Cond.methodLink RL 99 yX3_pass ∈ WG := List.mem_filter.mpr ⟨wr_4 _ (List.mem_of_getElem? (i := 79) rfl), rfl⟩
theorem wi_X3_pass : Cond.instanceMethod yX3_pass ∈ WG := List.mem_filter.mpr ⟨wr_4 _ (List.mem_of_getElem? (i := 80) rfl), rfl⟩
theorem wv_X3_pass : Cond.selects RX3 yX3_pass yX3_pass ∈ WG := List.mem_filter.mpr ⟨wr_4 _ (List.mem_of_getElem? (i := 81) rfl), rfl⟩
theorem wc_X3_pass : Cond.code yX3_pass cX3_pass 3 (some .int) ∈ WG := List.mem_filter.mpr ⟨wr_4 _ (List.mem_of_getElem? (i := 82) rfl), rfl⟩
theorem wl_X3_101 : Cond.methodLink RX3 101 yX3_keptMany ∈ WG := List.mem_filter.mpr ⟨wr_4 _ (List.mem_of_getElem? (i := 83) rfl), rfl⟩
theorem wi_X3_keptMany : Cond.instanceMethod yX3_keptMany ∈ WG := List.mem_filter.mpr ⟨wr_4 _ (List.mem_of_getElem? (i := 85) rfl), rfl⟩
theorem wc_X3_keptMany : Cond.code yX3_keptMany cX3_keptMany 3 (some .int) ∈ WG := List.mem_filter.mpr ⟨wr_4 _ (List.mem_of_getElem? (i := 86) rfl), rfl⟩
theorem wl_X3_56 : Cond.methodLink RX3 56 yX3_isKept ∈ WG := List.mem_filter.mpr ⟨wr_4 _ (List.mem_of_getElem? (i := 87) rfl), rfl⟩
theorem wi_X3_isKept : Cond.instanceMethod yX3_isKept ∈ WG := List.mem_filter.mpr ⟨wr_4 _ (List.mem_of_getElem? (i := 89) rfl), rfl⟩
theorem wc_X3_isKept : Cond.code yX3_isKept cX3_isKept 2 (some .boolean) ∈ WG := List.mem_filter.mpr ⟨wr_4 _ (List.mem_of_getElem? (i := 90) rfl), rfl⟩
theorem wl_L_103 : Cond.methodLink RL 103 yX3_setParish ∈ WG := List.mem_filter.mpr ⟨wr_4 _ (List.mem_of_getElem? (i := 91) rfl), rfl⟩
theorem wi_X3_setParish : Cond.instanceMethod yX3_setParish ∈ WG := List.mem_filter.mpr ⟨wr_4 _ (List.mem_of_getElem? (i := 92) rfl), rfl⟩
theorem wv_X3_setParish : Cond.selects RX3 yX3_setParish yX3_setParish ∈ WG := List.mem_filter.mpr ⟨wr_4 _ (List.mem_of_getElem? (i := 93) rfl), rfl⟩
theorem wc_X3_setParish : Cond.code yX3_setParish cX3_setParish 4 (some .int) ∈ WG := List.mem_filter.mpr ⟨wr_4 _ (List.mem_of_getElem? (i := 94) rfl), rfl⟩
theorem wl_X3_105 : Cond.methodLink RX3 105 yX3_isFamily ∈ WG := List.mem_filter.mpr ⟨wr_4 _ (List.mem_of_getElem? (i := 95) rfl), rfl⟩
theorem wt_X3_isFamily : Cond.static yX3_isFamily ∈ WG := List.mem_filter.mpr ⟨wr_4 _ (List.mem_of_getElem? (i := 96) rfl), rfl⟩
theorem wc_X3_isFamily : Cond.code yX3_isFamily cX3_isFamily 1 (some .boolean) ∈ WG := List.mem_filter.mpr ⟨wr_4 _ (List.mem_of_getElem? (i := 97) rfl), rfl⟩
theorem wl_L_107 : Cond.methodLink RL 107 yX3_bury ∈ WG := List.mem_filter.mpr ⟨wr_4 _ (List.mem_of_getElem? (i := 98) rfl), rfl⟩
theorem wi_X3_bury : Cond.instanceMethod yX3_bury ∈ WG := List.mem_filter.mpr ⟨wr_4 _ (List.mem_of_getElem? (i := 99) rfl), rfl⟩
theorem wv_X3_bury : Cond.selects RX3 yX3_bury yX3_bury ∈ WG := List.mem_filter.mpr ⟨wr_4 _ (List.mem_of_getElem? (i := 100) rfl), rfl⟩
theorem wc_X3_bury : Cond.code yX3_bury cX3_bury 4 (some .int) ∈ WG := List.mem_filter.mpr ⟨wr_4 _ (List.mem_of_getElem? (i := 101) rfl), rfl⟩
theorem wl_X3_112 : Cond.methodLink RX3 112 yX3_isPlot ∈ WG := List.mem_filter.mpr ⟨wr_4 _ (List.mem_of_getElem? (i := 102) rfl), rfl⟩
theorem wt_X3_isPlot : Cond.static yX3_isPlot ∈ WG := List.mem_filter.mpr ⟨wr_4 _ (List.mem_of_getElem? (i := 103) rfl), rfl⟩
theorem wc_X3_isPlot : Cond.code yX3_isPlot cX3_isPlot 1 (some .boolean) ∈ WG := List.mem_filter.mpr ⟨wr_4 _ (List.mem_of_getElem? (i := 104) rfl), rfl⟩
theorem wl_X3_115 : Cond.methodLink RX3 115 yX3_reason ∈ WG := List.mem_filter.mpr ⟨wr_4 _ (List.mem_of_getElem? (i := 105) rfl), rfl⟩
theorem wi_X3_reason : Cond.instanceMethod yX3_reason ∈ WG := List.mem_filter.mpr ⟨wr_4 _ (List.mem_of_getElem? (i := 107) rfl), rfl⟩
theorem wc_X3_reason : Cond.code yX3_reason cX3_reason 6 (some .int) ∈ WG := List.mem_filter.mpr ⟨wr_4 _ (List.mem_of_getElem? (i := 108) rfl), rfl⟩
theorem wl_X3_70 : Cond.methodLink RX3 70 yX3_isOthers ∈ WG := List.mem_filter.mpr ⟨wr_4 _ (List.mem_of_getElem? (i := 109) rfl), rfl⟩
theorem wi_X3_isOthers : Cond.instanceMethod yX3_isOthers ∈ WG := List.mem_filter.mpr ⟨wr_4 _ (List.mem_of_getElem? (i := 111) rfl), rfl⟩
theorem wc_X3_isOthers : Cond.code yX3_isOthers cX3_isOthers 3 (some .boolean) ∈ WG := List.mem_filter.mpr ⟨wr_4 _ (List.mem_of_getElem? (i := 112) rfl), rfl⟩
theorem wl_X3_60 : Cond.methodLink RX3 60 yX3_holder ∈ WG := List.mem_filter.mpr ⟨wr_4 _ (List.mem_of_getElem? (i := 113) rfl), rfl⟩
theorem wi_X3_holder : Cond.instanceMethod yX3_holder ∈ WG := List.mem_filter.mpr ⟨wr_4 _ (List.mem_of_getElem? (i := 115) rfl), rfl⟩
theorem wc_X3_holder : Cond.code yX3_holder cX3_holder 3 (some .int) ∈ WG := List.mem_filter.mpr ⟨wr_4 _ (List.mem_of_getElem? (i := 116) rfl), rfl⟩
theorem wl_X3_52 : Cond.methodLink RX3 52 yX3_isOld ∈ WG := List.mem_filter.mpr ⟨wr_4 _ (List.mem_of_getElem? (i := 117) rfl), rfl⟩
theorem wi_X3_isOld : Cond.instanceMethod yX3_isOld ∈ WG := List.mem_filter.mpr ⟨wr_4 _ (List.mem_of_getElem? (i := 119) rfl), rfl⟩
theorem wc_X3_isOld : Cond.code yX3_isOld cX3_isOld 3 (some .boolean) ∈ WG := List.mem_filter.mpr ⟨wr_4 _ (List.mem_of_getElem? (i := 120) rfl), rfl⟩
theorem wl_X3_48 : Cond.methodLink RX3 48 yX3_rest ∈ WG := List.mem_filter.mpr ⟨wr_4 _ (List.mem_of_getElem? (i := 121) rfl), rfl⟩
theorem wi_X3_rest : Cond.instanceMethod yX3_rest ∈ WG := List.mem_filter.mpr ⟨wr_4 _ (List.mem_of_getElem? (i := 123) rfl), rfl⟩
theorem wc_X3_rest : Cond.code yX3_rest cX3_rest 2 (some .int) ∈ WG := List.mem_filter.mpr ⟨wr_4 _ (List.mem_of_getElem? (i := 124) rfl), rfl⟩
theorem wl_X3_73 : Cond.methodLink RX3 73 yX3_deep ∈ WG := List.mem_filter.mpr ⟨wr_4 _ (List.mem_of_getElem? (i := 125) rfl), rfl⟩
theorem wi_X3_deep : Cond.instanceMethod yX3_deep ∈ WG := List.mem_filter.mpr ⟨wr_4 _ (List.mem_of_getElem? (i := 127) rfl), rfl⟩
theorem wc_X3_deep : Cond.code yX3_deep cX3_deep 2 (some .int) ∈ WG := List.mem_filter.mpr ⟨wr_4 _ (List.mem_of_getElem? (i := 128) rfl), rfl⟩
theorem wl_X3_76 : Cond.methodLink RX3 76 yX3_highest ∈ WG := List.mem_filter.mpr ⟨wr_4 _ (List.mem_of_getElem? (i := 129) rfl), rfl⟩
theorem wi_X3_highest : Cond.instanceMethod yX3_highest ∈ WG := List.mem_filter.mpr ⟨wr_4 _ (List.mem_of_getElem? (i := 131) rfl), rfl⟩
theorem wc_X3_highest : Cond.code yX3_highest cX3_highest 4 (some .int) ∈ WG := List.mem_filter.mpr ⟨wr_4 _ (List.mem_of_getElem? (i := 132) rfl), rfl⟩
theorem wl_X3_79 : Cond.methodLink RX3 79 yX3_isReached ∈ WG := List.mem_filter.mpr ⟨wr_4 _ (List.mem_of_getElem? (i := 133) rfl), rfl⟩
theorem wi_X3_isReached : Cond.instanceMethod yX3_isReached ∈ WG := List.mem_filter.mpr ⟨wr_4 _ (List.mem_of_getElem? (i := 135) rfl), rfl⟩
theorem wc_X3_isReached : Cond.code yX3_isReached cX3_isReached 5 (some .boolean) ∈ WG := List.mem_filter.mpr ⟨wr_4 _ (List.mem_of_getElem? (i := 136) rfl), rfl⟩
theorem wl_X3_82 : Cond.methodLink RX3 82 yX3_latest ∈ WG := List.mem_filter.mpr ⟨wr_4 _ (List.mem_of_getElem? (i := 137) rfl), rfl⟩
theorem wi_X3_latest : Cond.instanceMethod yX3_latest ∈ WG := List.mem_filter.mpr ⟨wr_4 _ (List.mem_of_getElem? (i := 139) rfl), rfl⟩
theorem wc_X3_latest : Cond.code yX3_latest cX3_latest 4 (some .int) ∈ WG := List.mem_filter.mpr ⟨wr_4 _ (List.mem_of_getElem? (i := 140) rfl), rfl⟩
theorem wl_X3_118 : Cond.methodLink RX3 118 yX3_buries ∈ WG := List.mem_filter.mpr ⟨wr_4 _ (List.mem_of_getElem? (i := 141) rfl), rfl⟩
theorem wi_X3_buries : Cond.instanceMethod yX3_buries ∈ WG := List.mem_filter.mpr ⟨wr_4 _ (List.mem_of_getElem? (i := 143) rfl), rfl⟩
theorem wc_X3_buries : Cond.code yX3_buries cX3_buries 6 (some .int) ∈ WG := List.mem_filter.mpr ⟨wr_4 _ (List.mem_of_getElem? (i := 144) rfl), rfl⟩
theorem wl_X3_108 : Cond.methodLink RX3 108 yX3_price ∈ WG := List.mem_filter.mpr ⟨wr_4 _ (List.mem_of_getElem? (i := 145) rfl), rfl⟩
theorem wi_X3_price : Cond.instanceMethod yX3_price ∈ WG := List.mem_filter.mpr ⟨wr_4 _ (List.mem_of_getElem? (i := 147) rfl), rfl⟩
theorem wc_X3_price : Cond.code yX3_price cX3_price 5 (some .int) ∈ WG := List.mem_filter.mpr ⟨wr_4 _ (List.mem_of_getElem? (i := 148) rfl), rfl⟩
theorem wl_L_110 : Cond.methodLink RL 110 yX3_reserve ∈ WG := List.mem_filter.mpr ⟨wr_4 _ (List.mem_of_getElem? (i := 149) rfl), rfl⟩
theorem wi_X3_reserve : Cond.instanceMethod yX3_reserve ∈ WG := List.mem_filter.mpr ⟨wr_4 _ (List.mem_of_getElem? (i := 150) rfl), rfl⟩
theorem wv_X3_reserve : Cond.selects RX3 yX3_reserve yX3_reserve ∈ WG := List.mem_filter.mpr ⟨wr_4 _ (List.mem_of_getElem? (i := 151) rfl), rfl⟩
theorem wc_X3_reserve : Cond.code yX3_reserve cX3_reserve 4 (some .int) ∈ WG := List.mem_filter.mpr ⟨wr_4 _ (List.mem_of_getElem? (i := 152) rfl), rfl⟩
theorem wl_X3_121 : Cond.methodLink RX3 121 yX3_mayReserve ∈ WG := List.mem_filter.mpr ⟨wr_4 _ (List.mem_of_getElem? (i := 153) rfl), rfl⟩
theorem wi_X3_mayReserve : Cond.instanceMethod yX3_mayReserve ∈ WG := List.mem_filter.mpr ⟨wr_4 _ (List.mem_of_getElem? (i := 155) rfl), rfl⟩
theorem wc_X3_mayReserve : Cond.code yX3_mayReserve cX3_mayReserve 3 (some .boolean) ∈ WG := List.mem_filter.mpr ⟨wr_4 _ (List.mem_of_getElem? (i := 156) rfl), rfl⟩
theorem wl_X3_124 : Cond.methodLink RX3 124 yX3_reserves ∈ WG := List.mem_filter.mpr ⟨wr_4 _ (List.mem_of_getElem? (i := 157) rfl), rfl⟩
theorem wi_X3_reserves : Cond.instanceMethod yX3_reserves ∈ WG := List.mem_filter.mpr ⟨wr_4 _ (List.mem_of_getElem? (i := 159) rfl), rfl⟩
theorem wc_X3_reserves : Cond.code yX3_reserves cX3_reserves 5 (some .int) ∈ WG := List.mem_filter.mpr ⟨wr_4 _ (List.mem_of_getElem? (i := 160) rfl), rfl⟩
theorem wl_L_113 : Cond.methodLink RL 113 yX3_buildVault ∈ WG := List.mem_filter.mpr ⟨wr_4 _ (List.mem_of_getElem? (i := 161) rfl), rfl⟩
theorem wi_X3_buildVault : Cond.instanceMethod yX3_buildVault ∈ WG := List.mem_filter.mpr ⟨wr_4 _ (List.mem_of_getElem? (i := 162) rfl), rfl⟩
theorem wv_X3_buildVault : Cond.selects RX3 yX3_buildVault yX3_buildVault ∈ WG := List.mem_filter.mpr ⟨wr_4 _ (List.mem_of_getElem? (i := 163) rfl), rfl⟩
theorem wc_X3_buildVault : Cond.code yX3_buildVault cX3_buildVault 5 (some .int) ∈ WG := List.mem_filter.mpr ⟨wr_4 _ (List.mem_of_getElem? (i := 164) rfl), rfl⟩
theorem wl_L_116 : Cond.methodLink RL 116 yX3_clear ∈ WG := List.mem_filter.mpr ⟨wr_4 _ (List.mem_of_getElem? (i := 165) rfl), rfl⟩
theorem wi_X3_clear : Cond.instanceMethod yX3_clear ∈ WG := List.mem_filter.mpr ⟨wr_4 _ (List.mem_of_getElem? (i := 166) rfl), rfl⟩
theorem wv_X3_clear : Cond.selects RX3 yX3_clear yX3_clear ∈ WG := List.mem_filter.mpr ⟨wr_4 _ (List.mem_of_getElem? (i := 167) rfl), rfl⟩
theorem wc_X3_clear : Cond.code yX3_clear cX3_clear 4 (some .int) ∈ WG := List.mem_filter.mpr ⟨wr_4 _ (List.mem_of_getElem? (i := 168) rfl), rfl⟩
theorem wl_X3_127 : Cond.methodLink RX3 127 yX3_fresh ∈ WG := List.mem_filter.mpr ⟨wr_4 _ (List.mem_of_getElem? (i := 169) rfl), rfl⟩
theorem wi_X3_fresh : Cond.instanceMethod yX3_fresh ∈ WG := List.mem_filter.mpr ⟨wr_4 _ (List.mem_of_getElem? (i := 171) rfl), rfl⟩
theorem wc_X3_fresh : Cond.code yX3_fresh cX3_fresh 4 (some .int) ∈ WG := List.mem_filter.mpr ⟨wr_4 _ (List.mem_of_getElem? (i := 172) rfl), rfl⟩
theorem wl_L_119 : Cond.methodLink RL 119 yX3_append ∈ WG := List.mem_filter.mpr ⟨wr_4 _ (List.mem_of_getElem? (i := 173) rfl), rfl⟩
theorem wi_X3_append : Cond.instanceMethod yX3_append ∈ WG := List.mem_filter.mpr ⟨wr_4 _ (List.mem_of_getElem? (i := 174) rfl), rfl⟩
theorem wv_X3_append : Cond.selects RX3 yX3_append yX3_append ∈ WG := List.mem_filter.mpr ⟨wr_4 _ (List.mem_of_getElem? (i := 175) rfl), rfl⟩
theorem wc_X3_append : Cond.code yX3_append cX3_append 2 (some .int) ∈ WG := List.mem_filter.mpr ⟨wr_4 _ (List.mem_of_getElem? (i := 176) rfl), rfl⟩
theorem wl_L_123 : Cond.methodLink RL 123 yX3_clearBuffer ∈ WG := List.mem_filter.mpr ⟨wr_4 _ (List.mem_of_getElem? (i := 177) rfl), rfl⟩
theorem wi_X3_clearBuffer : Cond.instanceMethod yX3_clearBuffer ∈ WG := List.mem_filter.mpr ⟨wr_4 _ (List.mem_of_getElem? (i := 178) rfl), rfl⟩
theorem wv_X3_clearBuffer : Cond.selects RX3 yX3_clearBuffer yX3_clearBuffer ∈ WG := List.mem_filter.mpr ⟨wr_4 _ (List.mem_of_getElem? (i := 179) rfl), rfl⟩
theorem wc_X3_clearBuffer : Cond.code yX3_clearBuffer cX3_clearBuffer 2 (some .int) ∈ WG := List.mem_filter.mpr ⟨wr_4 _ (List.mem_of_getElem? (i := 180) rfl), rfl⟩
theorem wl_L_127 : Cond.methodLink RL 127 yX3_firstError ∈ WG := List.mem_filter.mpr ⟨wr_4 _ (List.mem_of_getElem? (i := 181) rfl), rfl⟩
theorem wi_X3_firstError : Cond.instanceMethod yX3_firstError ∈ WG := List.mem_filter.mpr ⟨wr_4 _ (List.mem_of_getElem? (i := 182) rfl), rfl⟩
theorem wv_X3_firstError : Cond.selects RX3 yX3_firstError yX3_firstError ∈ WG := List.mem_filter.mpr ⟨wr_4 _ (List.mem_of_getElem? (i := 183) rfl), rfl⟩
theorem wc_X3_firstError : Cond.code yX3_firstError cX3_firstError 1 (some .int) ∈ WG := List.mem_filter.mpr ⟨wr_4 _ (List.mem_of_getElem? (i := 184) rfl), rfl⟩
theorem wl_X3_143 : Cond.methodLink RX3 143 yX3_read ∈ WG := List.mem_filter.mpr ⟨wr_4 _ (List.mem_of_getElem? (i := 185) rfl), rfl⟩
theorem wi_X3_read : Cond.instanceMethod yX3_read ∈ WG := List.mem_filter.mpr ⟨wr_4 _ (List.mem_of_getElem? (i := 187) rfl), rfl⟩
theorem wc_X3_read : Cond.code yX3_read cX3_read 4 (some .int) ∈ WG := List.mem_filter.mpr ⟨wr_4 _ (List.mem_of_getElem? (i := 188) rfl), rfl⟩
theorem wl_X3_140 : Cond.methodLink RX3 140 yX3_next ∈ WG := List.mem_filter.mpr ⟨wr_4 _ (List.mem_of_getElem? (i := 189) rfl), rfl⟩
theorem wi_X3_next : Cond.instanceMethod yX3_next ∈ WG := List.mem_filter.mpr ⟨wr_4 _ (List.mem_of_getElem? (i := 191) rfl), rfl⟩
theorem wc_X3_next : Cond.code yX3_next cX3_next 6 (some .int) ∈ WG := List.mem_filter.mpr ⟨wr_4 _ (List.mem_of_getElem? (i := 192) rfl), rfl⟩
theorem wl_L_131 : Cond.methodLink RL 131 yX3_load ∈ WG := List.mem_filter.mpr ⟨wr_4 _ (List.mem_of_getElem? (i := 193) rfl), rfl⟩
theorem wi_X3_load : Cond.instanceMethod yX3_load ∈ WG := List.mem_filter.mpr ⟨wr_4 _ (List.mem_of_getElem? (i := 194) rfl), rfl⟩
theorem wv_X3_load : Cond.selects RX3 yX3_load yX3_load ∈ WG := List.mem_filter.mpr ⟨wr_4 _ (List.mem_of_getElem? (i := 195) rfl), rfl⟩
theorem wc_X3_load : Cond.code yX3_load cX3_load 5 (some .int) ∈ WG := List.mem_filter.mpr ⟨wr_4 _ (List.mem_of_getElem? (i := 196) rfl), rfl⟩
theorem wl_L_134 : Cond.methodLink RL 134 yX3_undo ∈ WG := List.mem_filter.mpr ⟨wr_4 _ (List.mem_of_getElem? (i := 197) rfl), rfl⟩
theorem wi_X3_undo : Cond.instanceMethod yX3_undo ∈ WG := List.mem_filter.mpr ⟨wr_4 _ (List.mem_of_getElem? (i := 198) rfl), rfl⟩
theorem wv_X3_undo : Cond.selects RX3 yX3_undo yX3_undo ∈ WG := List.mem_filter.mpr ⟨wr_4 _ (List.mem_of_getElem? (i := 199) rfl), rfl⟩
theorem wc_X3_undo : Cond.code yX3_undo cX3_undo 2 (some .int) ∈ WG := List.mem_filter.mpr ⟨wr_4 _ (List.mem_of_getElem? (i := 200) rfl), rfl⟩
theorem wl_L_137 : Cond.methodLink RL 137 yX3_plot ∈ WG := List.mem_filter.mpr ⟨wr_4 _ (List.mem_of_getElem? (i := 201) rfl), rfl⟩
theorem wi_X3_plot : Cond.instanceMethod yX3_plot ∈ WG := List.mem_filter.mpr ⟨wr_4 _ (List.mem_of_getElem? (i := 202) rfl), rfl⟩
theorem wv_X3_plot : Cond.selects RX3 yX3_plot yX3_plot ∈ WG := List.mem_filter.mpr ⟨wr_4 _ (List.mem_of_getElem? (i := 203) rfl), rfl⟩
theorem wc_X3_plot : Cond.code yX3_plot cX3_plot 3 (some .int) ∈ WG := List.mem_filter.mpr ⟨wr_4 _ (List.mem_of_getElem? (i := 204) rfl), rfl⟩
theorem wl_X3_146 : Cond.methodLink RX3 146 yX3_plotNow ∈ WG := List.mem_filter.mpr ⟨wr_4 _ (List.mem_of_getElem? (i := 205) rfl), rfl⟩
theorem wi_X3_plotNow : Cond.instanceMethod yX3_plotNow ∈ WG := List.mem_filter.mpr ⟨wr_4 _ (List.mem_of_getElem? (i := 207) rfl), rfl⟩
theorem wc_X3_plotNow : Cond.code yX3_plotNow cX3_plotNow 3 (some .int) ∈ WG := List.mem_filter.mpr ⟨wr_4 _ (List.mem_of_getElem? (i := 208) rfl), rfl⟩
theorem wl_L_140 : Cond.methodLink RL 140 yX3_burial ∈ WG := List.mem_filter.mpr ⟨wr_4 _ (List.mem_of_getElem? (i := 209) rfl), rfl⟩
theorem wi_X3_burial : Cond.instanceMethod yX3_burial ∈ WG := List.mem_filter.mpr ⟨wr_4 _ (List.mem_of_getElem? (i := 210) rfl), rfl⟩
theorem wv_X3_burial : Cond.selects RX3 yX3_burial yX3_burial ∈ WG := List.mem_filter.mpr ⟨wr_4 _ (List.mem_of_getElem? (i := 211) rfl), rfl⟩
theorem wc_X3_burial : Cond.code yX3_burial cX3_burial 4 (some .int) ∈ WG := List.mem_filter.mpr ⟨wr_4 _ (List.mem_of_getElem? (i := 212) rfl), rfl⟩
theorem wl_X3_149 : Cond.methodLink RX3 149 yX3_burialNow ∈ WG := List.mem_filter.mpr ⟨wr_4 _ (List.mem_of_getElem? (i := 213) rfl), rfl⟩
theorem wi_X3_burialNow : Cond.instanceMethod yX3_burialNow ∈ WG := List.mem_filter.mpr ⟨wr_4 _ (List.mem_of_getElem? (i := 215) rfl), rfl⟩
theorem wc_X3_burialNow : Cond.code yX3_burialNow cX3_burialNow 5 (some .int) ∈ WG := List.mem_filter.mpr ⟨wr_4 _ (List.mem_of_getElem? (i := 216) rfl), rfl⟩
theorem wl_L_143 : Cond.methodLink RL 143 yX3_family ∈ WG := List.mem_filter.mpr ⟨wr_4 _ (List.mem_of_getElem? (i := 217) rfl), rfl⟩
theorem wi_X3_family : Cond.instanceMethod yX3_family ∈ WG := List.mem_filter.mpr ⟨wr_4 _ (List.mem_of_getElem? (i := 218) rfl), rfl⟩
theorem wv_X3_family : Cond.selects RX3 yX3_family yX3_family ∈ WG := List.mem_filter.mpr ⟨wr_4 _ (List.mem_of_getElem? (i := 219) rfl), rfl⟩
theorem wc_X3_family : Cond.code yX3_family cX3_family 3 (some .int) ∈ WG := List.mem_filter.mpr ⟨wr_4 _ (List.mem_of_getElem? (i := 220) rfl), rfl⟩
theorem wl_X3_152 : Cond.methodLink RX3 152 yX3_familyNow ∈ WG := List.mem_filter.mpr ⟨wr_4 _ (List.mem_of_getElem? (i := 221) rfl), rfl⟩
theorem wi_X3_familyNow : Cond.instanceMethod yX3_familyNow ∈ WG := List.mem_filter.mpr ⟨wr_4 _ (List.mem_of_getElem? (i := 223) rfl), rfl⟩
theorem wc_X3_familyNow : Cond.code yX3_familyNow cX3_familyNow 6 (some .int) ∈ WG := List.mem_filter.mpr ⟨wr_4 _ (List.mem_of_getElem? (i := 224) rfl), rfl⟩
theorem wl_L_146 : Cond.methodLink RL 146 yX3_count ∈ WG := List.mem_filter.mpr ⟨wr_4 _ (List.mem_of_getElem? (i := 225) rfl), rfl⟩
theorem wi_X3_count : Cond.instanceMethod yX3_count ∈ WG := List.mem_filter.mpr ⟨wr_4 _ (List.mem_of_getElem? (i := 226) rfl), rfl⟩
theorem wv_X3_count : Cond.selects RX3 yX3_count yX3_count ∈ WG := List.mem_filter.mpr ⟨wr_4 _ (List.mem_of_getElem? (i := 227) rfl), rfl⟩
theorem wc_X3_count : Cond.code yX3_count cX3_count 2 (some .int) ∈ WG := List.mem_filter.mpr ⟨wr_4 _ (List.mem_of_getElem? (i := 228) rfl), rfl⟩
theorem wl_X3_155 : Cond.methodLink RX3 155 yX3_counted ∈ WG := List.mem_filter.mpr ⟨wr_4 _ (List.mem_of_getElem? (i := 229) rfl), rfl⟩
theorem wi_X3_counted : Cond.instanceMethod yX3_counted ∈ WG := List.mem_filter.mpr ⟨wr_4 _ (List.mem_of_getElem? (i := 231) rfl), rfl⟩
theorem wc_X3_counted : Cond.code yX3_counted cX3_counted 5 (some .int) ∈ WG := List.mem_filter.mpr ⟨wr_4 _ (List.mem_of_getElem? (i := 232) rfl), rfl⟩
theorem wl_L_149 : Cond.methodLink RL 149 yX3_why ∈ WG := List.mem_filter.mpr ⟨wr_4 _ (List.mem_of_getElem? (i := 233) rfl), rfl⟩
theorem wi_X3_why : Cond.instanceMethod yX3_why ∈ WG := List.mem_filter.mpr ⟨wr_4 _ (List.mem_of_getElem? (i := 234) rfl), rfl⟩
theorem wv_X3_why : Cond.selects RX3 yX3_why yX3_why ∈ WG := List.mem_filter.mpr ⟨wr_4 _ (List.mem_of_getElem? (i := 235) rfl), rfl⟩
theorem wc_X3_why : Cond.code yX3_why cX3_why 4 (some .int) ∈ WG := List.mem_filter.mpr ⟨wr_4 _ (List.mem_of_getElem? (i := 236) rfl), rfl⟩
theorem wl_L_152 : Cond.methodLink RL 152 yX3_fee ∈ WG := List.mem_filter.mpr ⟨wr_4 _ (List.mem_of_getElem? (i := 237) rfl), rfl⟩
theorem wi_X3_fee : Cond.instanceMethod yX3_fee ∈ WG := List.mem_filter.mpr ⟨wr_4 _ (List.mem_of_getElem? (i := 238) rfl), rfl⟩
theorem wv_X3_fee : Cond.selects RX3 yX3_fee yX3_fee ∈ WG := List.mem_filter.mpr ⟨wr_4 _ (List.mem_of_getElem? (i := 239) rfl), rfl⟩
theorem wc_X3_fee : Cond.code yX3_fee cX3_fee 4 (some .int) ∈ WG := List.mem_filter.mpr ⟨wr_5 _ (List.mem_of_getElem? (i := 0) rfl), rfl⟩
theorem wl_L_155 : Cond.methodLink RL 155 yX3_deepest ∈ WG := List.mem_filter.mpr ⟨wr_5 _ (List.mem_of_getElem? (i := 1) rfl), rfl⟩
theorem wi_X3_deepest : Cond.instanceMethod yX3_deepest ∈ WG := List.mem_filter.mpr ⟨wr_5 _ (List.mem_of_getElem? (i := 2) rfl), rfl⟩
theorem wv_X3_deepest : Cond.selects RX3 yX3_deepest yX3_deepest ∈ WG := List.mem_filter.mpr ⟨wr_5 _ (List.mem_of_getElem? (i := 3) rfl), rfl⟩
theorem wc_X3_deepest : Cond.code yX3_deepest cX3_deepest 5 (some .int) ∈ WG := List.mem_filter.mpr ⟨wr_5 _ (List.mem_of_getElem? (i := 4) rfl), rfl⟩
theorem wl_L_158 : Cond.methodLink RL 158 yX3_bestPlot ∈ WG := List.mem_filter.mpr ⟨wr_5 _ (List.mem_of_getElem? (i := 5) rfl), rfl⟩
theorem wi_X3_bestPlot : Cond.instanceMethod yX3_bestPlot ∈ WG := List.mem_filter.mpr ⟨wr_5 _ (List.mem_of_getElem? (i := 6) rfl), rfl⟩
theorem wv_X3_bestPlot : Cond.selects RX3 yX3_bestPlot yX3_bestPlot ∈ WG := List.mem_filter.mpr ⟨wr_5 _ (List.mem_of_getElem? (i := 7) rfl), rfl⟩
theorem wc_X3_bestPlot : Cond.code yX3_bestPlot cX3_bestPlot 2 (some .int) ∈ WG := List.mem_filter.mpr ⟨wr_5 _ (List.mem_of_getElem? (i := 8) rfl), rfl⟩
theorem wl_X3_158 : Cond.methodLink RX3 158 yX3_bestNow ∈ WG := List.mem_filter.mpr ⟨wr_5 _ (List.mem_of_getElem? (i := 9) rfl), rfl⟩
theorem wi_X3_bestNow : Cond.instanceMethod yX3_bestNow ∈ WG := List.mem_filter.mpr ⟨wr_5 _ (List.mem_of_getElem? (i := 11) rfl), rfl⟩
theorem wc_X3_bestNow : Cond.code yX3_bestNow cX3_bestNow 7 (some .int) ∈ WG := List.mem_filter.mpr ⟨wr_5 _ (List.mem_of_getElem? (i := 12) rfl), rfl⟩
theorem wl_L_161 : Cond.methodLink RL 161 yX3_yearFor ∈ WG := List.mem_filter.mpr ⟨wr_5 _ (List.mem_of_getElem? (i := 13) rfl), rfl⟩
theorem wi_X3_yearFor : Cond.instanceMethod yX3_yearFor ∈ WG := List.mem_filter.mpr ⟨wr_5 _ (List.mem_of_getElem? (i := 14) rfl), rfl⟩
theorem wv_X3_yearFor : Cond.selects RX3 yX3_yearFor yX3_yearFor ∈ WG := List.mem_filter.mpr ⟨wr_5 _ (List.mem_of_getElem? (i := 15) rfl), rfl⟩
theorem wc_X3_yearFor : Cond.code yX3_yearFor cX3_yearFor 4 (some .int) ∈ WG := List.mem_filter.mpr ⟨wr_5 _ (List.mem_of_getElem? (i := 16) rfl), rfl⟩
theorem wl_L_164 : Cond.methodLink RL 164 yX3_clearYear ∈ WG := List.mem_filter.mpr ⟨wr_5 _ (List.mem_of_getElem? (i := 17) rfl), rfl⟩
theorem wi_X3_clearYear : Cond.instanceMethod yX3_clearYear ∈ WG := List.mem_filter.mpr ⟨wr_5 _ (List.mem_of_getElem? (i := 18) rfl), rfl⟩
theorem wv_X3_clearYear : Cond.selects RX3 yX3_clearYear yX3_clearYear ∈ WG := List.mem_filter.mpr ⟨wr_5 _ (List.mem_of_getElem? (i := 19) rfl), rfl⟩
theorem wc_X3_clearYear : Cond.code yX3_clearYear cX3_clearYear 2 (some .int) ∈ WG := List.mem_filter.mpr ⟨wr_5 _ (List.mem_of_getElem? (i := 20) rfl), rfl⟩
theorem wl_X3_161 : Cond.methodLink RX3 161 yX3_clearNow ∈ WG := List.mem_filter.mpr ⟨wr_5 _ (List.mem_of_getElem? (i := 21) rfl), rfl⟩
theorem wi_X3_clearNow : Cond.instanceMethod yX3_clearNow ∈ WG := List.mem_filter.mpr ⟨wr_5 _ (List.mem_of_getElem? (i := 23) rfl), rfl⟩
theorem wc_X3_clearNow : Cond.code yX3_clearNow cX3_clearNow 5 (some .int) ∈ WG := List.mem_filter.mpr ⟨wr_5 _ (List.mem_of_getElem? (i := 24) rfl), rfl⟩
theorem wl_L_167 : Cond.methodLink RL 167 yX3_cutsOff ∈ WG := List.mem_filter.mpr ⟨wr_5 _ (List.mem_of_getElem? (i := 25) rfl), rfl⟩
theorem wi_X3_cutsOff : Cond.instanceMethod yX3_cutsOff ∈ WG := List.mem_filter.mpr ⟨wr_5 _ (List.mem_of_getElem? (i := 26) rfl), rfl⟩
theorem wv_X3_cutsOff : Cond.selects RX3 yX3_cutsOff yX3_cutsOff ∈ WG := List.mem_filter.mpr ⟨wr_5 _ (List.mem_of_getElem? (i := 27) rfl), rfl⟩
theorem wc_X3_cutsOff : Cond.code yX3_cutsOff cX3_cutsOff 2 (some .int) ∈ WG := List.mem_filter.mpr ⟨wr_5 _ (List.mem_of_getElem? (i := 28) rfl), rfl⟩
theorem wl_X3_164 : Cond.methodLink RX3 164 yX3_cutNow ∈ WG := List.mem_filter.mpr ⟨wr_5 _ (List.mem_of_getElem? (i := 29) rfl), rfl⟩
theorem wi_X3_cutNow : Cond.instanceMethod yX3_cutNow ∈ WG := List.mem_filter.mpr ⟨wr_5 _ (List.mem_of_getElem? (i := 31) rfl), rfl⟩
theorem wc_X3_cutNow : Cond.code yX3_cutNow cX3_cutNow 5 (some .int) ∈ WG := List.mem_filter.mpr ⟨wr_5 _ (List.mem_of_getElem? (i := 32) rfl), rfl⟩
theorem wl_L_172 : Cond.methodLink RL 172 yX3_meanFee ∈ WG := List.mem_filter.mpr ⟨wr_5 _ (List.mem_of_getElem? (i := 33) rfl), rfl⟩
theorem wi_X3_meanFee : Cond.instanceMethod yX3_meanFee ∈ WG := List.mem_filter.mpr ⟨wr_5 _ (List.mem_of_getElem? (i := 34) rfl), rfl⟩
theorem wv_X3_meanFee : Cond.selects RX3 yX3_meanFee yX3_meanFee ∈ WG := List.mem_filter.mpr ⟨wr_5 _ (List.mem_of_getElem? (i := 35) rfl), rfl⟩
theorem wc_X3_meanFee : Cond.code yX3_meanFee cX3_meanFee 1 (some .double) ∈ WG := List.mem_filter.mpr ⟨wr_5 _ (List.mem_of_getElem? (i := 36) rfl), rfl⟩
theorem wl_X3_167 : Cond.methodLink RX3 167 yX3_meanNow ∈ WG := List.mem_filter.mpr ⟨wr_5 _ (List.mem_of_getElem? (i := 37) rfl), rfl⟩
theorem wi_X3_meanNow : Cond.instanceMethod yX3_meanNow ∈ WG := List.mem_filter.mpr ⟨wr_5 _ (List.mem_of_getElem? (i := 39) rfl), rfl⟩
theorem wc_X3_meanNow : Cond.code yX3_meanNow cX3_meanNow 4 (some .double) ∈ WG := List.mem_filter.mpr ⟨wr_5 _ (List.mem_of_getElem? (i := 40) rfl), rfl⟩
theorem wl_L_177 : Cond.methodLink RL 177 yX3_digest ∈ WG := List.mem_filter.mpr ⟨wr_5 _ (List.mem_of_getElem? (i := 41) rfl), rfl⟩
theorem wi_X3_digest : Cond.instanceMethod yX3_digest ∈ WG := List.mem_filter.mpr ⟨wr_5 _ (List.mem_of_getElem? (i := 42) rfl), rfl⟩
theorem wv_X3_digest : Cond.selects RX3 yX3_digest yX3_digest ∈ WG := List.mem_filter.mpr ⟨wr_5 _ (List.mem_of_getElem? (i := 43) rfl), rfl⟩
theorem wc_X3_digest : Cond.code yX3_digest cX3_digest 3 (some .long) ∈ WG := List.mem_filter.mpr ⟨wr_5 _ (List.mem_of_getElem? (i := 44) rfl), rfl⟩
theorem wq_X3_177 : Cond.constantLong RX3 177 (2267) ∈ WG := List.mem_filter.mpr ⟨wr_5 _ (List.mem_of_getElem? (i := 45) rfl), rfl⟩
theorem wl_X3_179 : Cond.methodLink RX3 179 yX3_mix ∈ WG := List.mem_filter.mpr ⟨wr_5 _ (List.mem_of_getElem? (i := 46) rfl), rfl⟩
theorem wi_X3_mix : Cond.instanceMethod yX3_mix ∈ WG := List.mem_filter.mpr ⟨wr_5 _ (List.mem_of_getElem? (i := 48) rfl), rfl⟩
theorem wc_X3_mix : Cond.code yX3_mix cX3_mix 3 none ∈ WG := List.mem_filter.mpr ⟨wr_5 _ (List.mem_of_getElem? (i := 49) rfl), rfl⟩
theorem wq_X3_171 : Cond.constantLong RX3 171 (31) ∈ WG := List.mem_filter.mpr ⟨wr_5 _ (List.mem_of_getElem? (i := 50) rfl), rfl⟩
theorem wl_X3_183 : Cond.methodLink RX3 183 yJxe99ae_doubleToLongBits_ccdee ∈ WG := List.mem_filter.mpr ⟨wr_5 _ (List.mem_of_getElem? (i := 51) rfl), rfl⟩
theorem wt_Jxe99ae_doubleToLongBits_ccdee : Cond.static yJxe99ae_doubleToLongBits_ccdee ∈ WG := List.mem_filter.mpr ⟨wr_5 _ (List.mem_of_getElem? (i := 52) rfl), rfl⟩
theorem wc_Jxe99ae_doubleToLongBits_ccdee : Cond.code yJxe99ae_doubleToLongBits_ccdee cJxe99ae_doubleToLongBits_ccdee 2 (some .long) ∈ WG := List.mem_filter.mpr ⟨wr_5 _ (List.mem_of_getElem? (i := 53) rfl), rfl⟩
theorem wl_Jxe99ae_122 : Cond.methodLink RJxe99ae 122 yJxe99ae_isNaN_b9ae7 ∈ WG := List.mem_filter.mpr ⟨wr_5 _ (List.mem_of_getElem? (i := 54) rfl), rfl⟩
theorem wt_Jxe99ae_isNaN_b9ae7 : Cond.static yJxe99ae_isNaN_b9ae7 ∈ WG := List.mem_filter.mpr ⟨wr_5 _ (List.mem_of_getElem? (i := 55) rfl), rfl⟩
theorem wc_Jxe99ae_isNaN_b9ae7 : Cond.code yJxe99ae_isNaN_b9ae7 cJxe99ae_isNaN_b9ae7 2 (some .boolean) ∈ WG := List.mem_filter.mpr ⟨wr_5 _ (List.mem_of_getElem? (i := 56) rfl), rfl⟩
theorem wl_Jxe99ae_134 : Cond.methodLink RJxe99ae 134 (⟨"java/lang/Double", "doubleToRawLongBits", "(D)J"⟩ : MethodName) ∈ WG := List.mem_filter.mpr ⟨wr_5 _ (List.mem_of_getElem? (i := 57) rfl), rfl⟩
theorem wt_Double_doubleToRawLongBits_df : Cond.static (⟨"java/lang/Double", "doubleToRawLongBits", "(D)J"⟩ : MethodName) ∈ WG := List.mem_filter.mpr ⟨wr_5 _ (List.mem_of_getElem? (i := 58) rfl), rfl⟩
theorem wz_Double_doubleToRawLongBits_df : Cond.native (⟨"java/lang/Double", "doubleToRawLongBits", "(D)J"⟩ : MethodName) ∈ WG := List.mem_filter.mpr ⟨wr_5 _ (List.mem_of_getElem? (i := 59) rfl), rfl⟩
theorem wq_Jxe99ae_137 : Cond.constantLong RJxe99ae 137 (9221120237041090560) ∈ WG := List.mem_filter.mpr ⟨wr_5 _ (List.mem_of_getElem? (i := 60) rfl), rfl⟩
theorem wa_long : Cond.arrayClass Jvm.ClassFile.FieldType.long ∈ WG := List.mem_filter.mpr ⟨wr_5 _ (List.mem_of_getElem? (i := 61) rfl), rfl⟩
theorem wv_X2_errorIndex : Cond.selects RX2 yX2_errorIndex yX2_errorIndex ∈ WG := List.mem_filter.mpr ⟨wp_1 (⟨"BurialGround", "errorIndex", "()I"⟩, 6) (List.mem_of_getElem? (i := 0) rfl), rfl⟩
theorem wv_X0_takeLetter : Cond.selects RX0 yX0_takeLetter yX0_takeLetter ∈ WG := List.mem_filter.mpr ⟨wp_1 (⟨"BurialGround$EntryReader", "takeLetter", "(I)Z"⟩, 5) (List.mem_of_getElem? (i := 1) rfl), rfl⟩
theorem wv_X0_takeFamily : Cond.selects RX0 yX0_takeFamily yX0_takeFamily ∈ WG := List.mem_filter.mpr ⟨wp_1 (⟨"BurialGround$EntryReader", "takeFamily", "(I)Z"⟩, 5) (List.mem_of_getElem? (i := 2) rfl), rfl⟩
theorem wv_X0_takeColon : Cond.selects RX0 yX0_takeColon yX0_takeColon ∈ WG := List.mem_filter.mpr ⟨wp_1 (⟨"BurialGround$EntryReader", "takeColon", "(I)Z"⟩, 5) (List.mem_of_getElem? (i := 3) rfl), rfl⟩
theorem wv_X0_takeOfPlot : Cond.selects RX0 yX0_takeOfPlot yX0_takeOfPlot ∈ WG := List.mem_filter.mpr ⟨wp_1 (⟨"BurialGround$EntryReader", "takeOfPlot", "(I)Z"⟩, 5) (List.mem_of_getElem? (i := 4) rfl), rfl⟩
theorem wv_X0_takeOfNumber : Cond.selects RX0 yX0_takeOfNumber yX0_takeOfNumber ∈ WG := List.mem_filter.mpr ⟨wp_1 (⟨"BurialGround$EntryReader", "takeOfNumber", "(I)Z"⟩, 5) (List.mem_of_getElem? (i := 5) rfl), rfl⟩
theorem wv_X1_allBurials : Cond.selects RX1 yX1_allBurials yX1_allBurials ∈ WG := List.mem_filter.mpr ⟨wp_1 (⟨"BurialGround$Ledger", "allBurials", "()I"⟩, 12) (List.mem_of_getElem? (i := 6) rfl), rfl⟩
theorem wv_X1_burialsIn : Cond.selects RX1 yX1_burialsIn yX1_burialsIn ∈ WG := List.mem_filter.mpr ⟨wp_1 (⟨"BurialGround$Ledger", "burialsIn", "(I)I"⟩, 12) (List.mem_of_getElem? (i := 7) rfl), rfl⟩
theorem wv_X2_number : Cond.selects RX2 yX2_number yX2_number ∈ WG := List.mem_filter.mpr ⟨wp_1 (⟨"BurialGround", "number", "(I)I"⟩, 6) (List.mem_of_getElem? (i := 8) rfl), rfl⟩
theorem wv_X1_allRestingBurials : Cond.selects RX1 yX1_allRestingBurials yX1_allRestingBurials ∈ WG := List.mem_filter.mpr ⟨wp_1 (⟨"BurialGround$Ledger", "allRestingBurials", "()I"⟩, 12) (List.mem_of_getElem? (i := 9) rfl), rfl⟩
theorem wv_X1_isResting : Cond.selects RX1 yX1_isResting yX1_isResting ∈ WG := List.mem_filter.mpr ⟨wp_1 (⟨"BurialGround$Ledger", "isResting", "(II)Z"⟩, 12) (List.mem_of_getElem? (i := 10) rfl), rfl⟩
theorem wv_X1_endOfRest : Cond.selects RX1 yX1_endOfRest yX1_endOfRest ∈ WG := List.mem_filter.mpr ⟨wp_1 (⟨"BurialGround$Ledger", "endOfRest", "(I)I"⟩, 12) (List.mem_of_getElem? (i := 11) rfl), rfl⟩
theorem wv_X1_soilPlots : Cond.selects RX1 yX1_soilPlots yX1_soilPlots ∈ WG := List.mem_filter.mpr ⟨wp_1 (⟨"BurialGround$Ledger", "soilPlots", "()J"⟩, 12) (List.mem_of_getElem? (i := 12) rfl), rfl⟩
theorem wv_X1_openPlots : Cond.selects RX1 yX1_openPlots yX1_openPlots ∈ WG := List.mem_filter.mpr ⟨wp_1 (⟨"BurialGround$Ledger", "openPlots", "()J"⟩, 12) (List.mem_of_getElem? (i := 13) rfl), rfl⟩
theorem wv_X1_isReservedIn : Cond.selects RX1 yX1_isReservedIn yX1_isReservedIn ∈ WG := List.mem_filter.mpr ⟨wp_1 (⟨"BurialGround$Ledger", "isReservedIn", "(II)Z"⟩, 12) (List.mem_of_getElem? (i := 14) rfl), rfl⟩
theorem wv_X1_allVaults : Cond.selects RX1 yX1_allVaults yX1_allVaults ∈ WG := List.mem_filter.mpr ⟨wp_1 (⟨"BurialGround$Ledger", "allVaults", "()I"⟩, 12) (List.mem_of_getElem? (i := 15) rfl), rfl⟩
theorem wv_X1_vaultsOf : Cond.selects RX1 yX1_vaultsOf yX1_vaultsOf ∈ WG := List.mem_filter.mpr ⟨wp_2 (⟨"BurialGround$Ledger", "vaultsOf", "(I)I"⟩, 12) (List.mem_of_getElem? (i := 0) rfl), rfl⟩
theorem wv_X1_allPaid : Cond.selects RX1 yX1_allPaid yX1_allPaid ∈ WG := List.mem_filter.mpr ⟨wp_2 (⟨"BurialGround$Ledger", "allPaid", "()I"⟩, 12) (List.mem_of_getElem? (i := 1) rfl), rfl⟩
theorem wv_X2_plotDigest : Cond.selects RX2 yX2_plotDigest yX2_plotDigest ∈ WG := List.mem_filter.mpr ⟨wp_2 (⟨"BurialGround", "plotDigest", "(JI)J"⟩, 6) (List.mem_of_getElem? (i := 2) rfl), rfl⟩
theorem wv_X1_holder : Cond.selects RX1 yX1_holder yX1_holder ∈ WG := List.mem_filter.mpr ⟨wp_2 (⟨"BurialGround$Ledger", "holder", "(II)I"⟩, 12) (List.mem_of_getElem? (i := 3) rfl), rfl⟩
theorem wv_X1_isReached : Cond.selects RX1 yX1_isReached yX1_isReached ∈ WG := List.mem_filter.mpr ⟨wp_2 (⟨"BurialGround$Ledger", "isReached", "(I)Z"⟩, 12) (List.mem_of_getElem? (i := 4) rfl), rfl⟩
theorem wv_X1_greatestDepth : Cond.selects RX1 yX1_greatestDepth yX1_greatestDepth ∈ WG := List.mem_filter.mpr ⟨wp_2 (⟨"BurialGround$Ledger", "greatestDepth", "(I)I"⟩, 12) (List.mem_of_getElem? (i := 5) rfl), rfl⟩
theorem wv_X2_familyDigest : Cond.selects RX2 yX2_familyDigest yX2_familyDigest ∈ WG := List.mem_filter.mpr ⟨wp_2 (⟨"BurialGround", "familyDigest", "(JI)J"⟩, 6) (List.mem_of_getElem? (i := 6) rfl), rfl⟩
theorem wv_X1_burialsOf : Cond.selects RX1 yX1_burialsOf yX1_burialsOf ∈ WG := List.mem_filter.mpr ⟨wp_2 (⟨"BurialGround$Ledger", "burialsOf", "(I)I"⟩, 12) (List.mem_of_getElem? (i := 7) rfl), rfl⟩
theorem wv_X1_plotsHeldBy : Cond.selects RX1 yX1_plotsHeldBy yX1_plotsHeldBy ∈ WG := List.mem_filter.mpr ⟨wp_2 (⟨"BurialGround$Ledger", "plotsHeldBy", "(I)I"⟩, 12) (List.mem_of_getElem? (i := 8) rfl), rfl⟩
theorem wv_X1_leastFee : Cond.selects RX1 yX1_leastFee yX1_leastFee ∈ WG := List.mem_filter.mpr ⟨wp_2 (⟨"BurialGround$Ledger", "leastFee", "(II)I"⟩, 12) (List.mem_of_getElem? (i := 9) rfl), rfl⟩
theorem wv_X1_freeDepth : Cond.selects RX1 yX1_freeDepth yX1_freeDepth ∈ WG := List.mem_filter.mpr ⟨wp_2 (⟨"BurialGround$Ledger", "freeDepth", "(I)I"⟩, 12) (List.mem_of_getElem? (i := 10) rfl), rfl⟩
theorem wv_X1_vaultRefusal : Cond.selects RX1 yX1_vaultRefusal yX1_vaultRefusal ∈ WG := List.mem_filter.mpr ⟨wp_2 (⟨"BurialGround$Ledger", "vaultRefusal", "(III)I"⟩, 12) (List.mem_of_getElem? (i := 11) rfl), rfl⟩
theorem wv_X1_latestBurial : Cond.selects RX1 yX1_latestBurial yX1_latestBurial ∈ WG := List.mem_filter.mpr ⟨wp_2 (⟨"BurialGround$Ledger", "latestBurial", "(I)I"⟩, 12) (List.mem_of_getElem? (i := 12) rfl), rfl⟩
theorem wv_X1_priceFor : Cond.selects RX1 yX1_priceFor yX1_priceFor ∈ WG := List.mem_filter.mpr ⟨wp_2 (⟨"BurialGround$Ledger", "priceFor", "(II)I"⟩, 12) (List.mem_of_getElem? (i := 13) rfl), rfl⟩
theorem wv_X1_hasReservation : Cond.selects RX1 yX1_hasReservation yX1_hasReservation ∈ WG := List.mem_filter.mpr ⟨wp_2 (⟨"BurialGround$Ledger", "hasReservation", "(II)Z"⟩, 12) (List.mem_of_getElem? (i := 14) rfl), rfl⟩
theorem wv_X2_bufferDigest : Cond.selects RX2 yX2_bufferDigest yX2_bufferDigest ∈ WG := List.mem_filter.mpr ⟨wp_2 (⟨"BurialGround", "bufferDigest", "(J)J"⟩, 6) (List.mem_of_getElem? (i := 15) rfl), rfl⟩
theorem wv_X2_save : Cond.selects RX2 yX2_save yX2_save ∈ WG := List.mem_filter.mpr ⟨wp_3 (⟨"BurialGround", "save", "()V"⟩, 6) (List.mem_of_getElem? (i := 1) rfl), rfl⟩
theorem wv_X2_dropOldest : Cond.selects RX2 yX2_dropOldest yX2_dropOldest ∈ WG := List.mem_filter.mpr ⟨wp_3 (⟨"BurialGround", "dropOldest", "()V"⟩, 6) (List.mem_of_getElem? (i := 2) rfl), rfl⟩
theorem wv_X1_reachedWithout : Cond.selects RX1 yX1_reachedWithout yX1_reachedWithout ∈ WG := List.mem_filter.mpr ⟨wp_3 (⟨"BurialGround$Ledger", "reachedWithout", "(J)J"⟩, 12) (List.mem_of_getElem? (i := 3) rfl), rfl⟩
theorem wv_X1_charge : Cond.selects RX1 yX1_charge yX1_charge ∈ WG := List.mem_filter.mpr ⟨wp_3 (⟨"BurialGround$Ledger", "charge", "(II)I"⟩, 12) (List.mem_of_getElem? (i := 4) rfl), rfl⟩
theorem wv_X2_carryOutEntries : Cond.selects RX2 yX2_carryOutEntries yX2_carryOutEntries ∈ WG := List.mem_filter.mpr ⟨wp_3 (⟨"BurialGround", "carryOutEntries", "()I"⟩, 6) (List.mem_of_getElem? (i := 5) rfl), rfl⟩
theorem wv_X2_carryOutEntry : Cond.selects RX2 yX2_carryOutEntry yX2_carryOutEntry ∈ WG := List.mem_filter.mpr ⟨wp_3 (⟨"BurialGround", "carryOutEntry", "()Z"⟩, 6) (List.mem_of_getElem? (i := 6) rfl), rfl⟩
theorem wv_X3_look : Cond.selects RX3 yX3_look yX3_look ∈ WG := List.mem_filter.mpr ⟨wp_3 (⟨"BurialGroundModel", "look", "()V"⟩, 16) (List.mem_of_getElem? (i := 7) rfl), rfl⟩
theorem wv_X3_walk : Cond.selects RX3 yX3_walk yX3_walk ∈ WG := List.mem_filter.mpr ⟨wp_3 (⟨"BurialGroundModel", "walk", "(I)V"⟩, 16) (List.mem_of_getElem? (i := 8) rfl), rfl⟩
theorem wv_X3_buried : Cond.selects RX3 yX3_buried yX3_buried ∈ WG := List.mem_filter.mpr ⟨wp_3 (⟨"BurialGroundModel", "buried", "(I)I"⟩, 16) (List.mem_of_getElem? (i := 9) rfl), rfl⟩
theorem wv_X3_fails : Cond.selects RX3 yX3_fails yX3_fails ∈ WG := List.mem_filter.mpr ⟨wp_3 (⟨"BurialGroundModel", "fails", "(I)I"⟩, 16) (List.mem_of_getElem? (i := 10) rfl), rfl⟩
theorem wv_X3_save : Cond.selects RX3 yX3_save yX3_save ∈ WG := List.mem_filter.mpr ⟨wp_3 (⟨"BurialGroundModel", "save", "()V"⟩, 16) (List.mem_of_getElem? (i := 11) rfl), rfl⟩
theorem wv_X3_keptMany : Cond.selects RX3 yX3_keptMany yX3_keptMany ∈ WG := List.mem_filter.mpr ⟨wp_3 (⟨"BurialGroundModel", "keptMany", "()I"⟩, 16) (List.mem_of_getElem? (i := 12) rfl), rfl⟩
theorem wv_X3_isKept : Cond.selects RX3 yX3_isKept yX3_isKept ∈ WG := List.mem_filter.mpr ⟨wp_3 (⟨"BurialGroundModel", "isKept", "(I)Z"⟩, 16) (List.mem_of_getElem? (i := 13) rfl), rfl⟩
theorem wv_X3_reason : Cond.selects RX3 yX3_reason yX3_reason ∈ WG := List.mem_filter.mpr ⟨wp_3 (⟨"BurialGroundModel", "reason", "(III)I"⟩, 16) (List.mem_of_getElem? (i := 14) rfl), rfl⟩
theorem wv_X3_isOthers : Cond.selects RX3 yX3_isOthers yX3_isOthers ∈ WG := List.mem_filter.mpr ⟨wp_3 (⟨"BurialGroundModel", "isOthers", "(II)Z"⟩, 16) (List.mem_of_getElem? (i := 15) rfl), rfl⟩
theorem wv_X3_holder : Cond.selects RX3 yX3_holder yX3_holder ∈ WG := List.mem_filter.mpr ⟨wp_4 (⟨"BurialGroundModel", "holder", "(I)I"⟩, 16) (List.mem_of_getElem? (i := 0) rfl), rfl⟩
theorem wv_X3_isOld : Cond.selects RX3 yX3_isOld yX3_isOld ∈ WG := List.mem_filter.mpr ⟨wp_4 (⟨"BurialGroundModel", "isOld", "(II)Z"⟩, 16) (List.mem_of_getElem? (i := 1) rfl), rfl⟩
theorem wv_X3_rest : Cond.selects RX3 yX3_rest yX3_rest ∈ WG := List.mem_filter.mpr ⟨wp_4 (⟨"BurialGroundModel", "rest", "(I)I"⟩, 16) (List.mem_of_getElem? (i := 2) rfl), rfl⟩
theorem wv_X3_deep : Cond.selects RX3 yX3_deep yX3_deep ∈ WG := List.mem_filter.mpr ⟨wp_4 (⟨"BurialGroundModel", "deep", "(I)I"⟩, 16) (List.mem_of_getElem? (i := 3) rfl), rfl⟩
theorem wv_X3_highest : Cond.selects RX3 yX3_highest yX3_highest ∈ WG := List.mem_filter.mpr ⟨wp_4 (⟨"BurialGroundModel", "highest", "(I)I"⟩, 16) (List.mem_of_getElem? (i := 4) rfl), rfl⟩
theorem wv_X3_isReached : Cond.selects RX3 yX3_isReached yX3_isReached ∈ WG := List.mem_filter.mpr ⟨wp_4 (⟨"BurialGroundModel", "isReached", "(I)Z"⟩, 16) (List.mem_of_getElem? (i := 5) rfl), rfl⟩
theorem wv_X3_latest : Cond.selects RX3 yX3_latest yX3_latest ∈ WG := List.mem_filter.mpr ⟨wp_4 (⟨"BurialGroundModel", "latest", "(I)I"⟩, 16) (List.mem_of_getElem? (i := 6) rfl), rfl⟩
theorem wv_X3_buries : Cond.selects RX3 yX3_buries yX3_buries ∈ WG := List.mem_filter.mpr ⟨wp_4 (⟨"BurialGroundModel", "buries", "(III)I"⟩, 16) (List.mem_of_getElem? (i := 7) rfl), rfl⟩
theorem wv_X3_price : Cond.selects RX3 yX3_price yX3_price ∈ WG := List.mem_filter.mpr ⟨wp_4 (⟨"BurialGroundModel", "price", "(III)I"⟩, 16) (List.mem_of_getElem? (i := 8) rfl), rfl⟩
theorem wv_X3_mayReserve : Cond.selects RX3 yX3_mayReserve yX3_mayReserve ∈ WG := List.mem_filter.mpr ⟨wp_4 (⟨"BurialGroundModel", "mayReserve", "(II)Z"⟩, 16) (List.mem_of_getElem? (i := 9) rfl), rfl⟩
theorem wv_X3_reserves : Cond.selects RX3 yX3_reserves yX3_reserves ∈ WG := List.mem_filter.mpr ⟨wp_4 (⟨"BurialGroundModel", "reserves", "(III)I"⟩, 16) (List.mem_of_getElem? (i := 10) rfl), rfl⟩
theorem wv_X3_fresh : Cond.selects RX3 yX3_fresh yX3_fresh ∈ WG := List.mem_filter.mpr ⟨wp_4 (⟨"BurialGroundModel", "fresh", "(I)I"⟩, 16) (List.mem_of_getElem? (i := 11) rfl), rfl⟩
theorem wv_X3_read : Cond.selects RX3 yX3_read yX3_read ∈ WG := List.mem_filter.mpr ⟨wp_4 (⟨"BurialGroundModel", "read", "()I"⟩, 16) (List.mem_of_getElem? (i := 12) rfl), rfl⟩
theorem wv_X3_next : Cond.selects RX3 yX3_next yX3_next ∈ WG := List.mem_filter.mpr ⟨wp_4 (⟨"BurialGroundModel", "next", "(II)I"⟩, 16) (List.mem_of_getElem? (i := 13) rfl), rfl⟩
theorem wv_X3_plotNow : Cond.selects RX3 yX3_plotNow yX3_plotNow ∈ WG := List.mem_filter.mpr ⟨wp_4 (⟨"BurialGroundModel", "plotNow", "(II)I"⟩, 16) (List.mem_of_getElem? (i := 14) rfl), rfl⟩
theorem wv_X3_burialNow : Cond.selects RX3 yX3_burialNow yX3_burialNow ∈ WG := List.mem_filter.mpr ⟨wp_4 (⟨"BurialGroundModel", "burialNow", "(III)I"⟩, 16) (List.mem_of_getElem? (i := 15) rfl), rfl⟩
theorem wv_X3_familyNow : Cond.selects RX3 yX3_familyNow yX3_familyNow ∈ WG := List.mem_filter.mpr ⟨wp_5 (⟨"BurialGroundModel", "familyNow", "(II)I"⟩, 16) (List.mem_of_getElem? (i := 0) rfl), rfl⟩
theorem wv_X3_counted : Cond.selects RX3 yX3_counted yX3_counted ∈ WG := List.mem_filter.mpr ⟨wp_5 (⟨"BurialGroundModel", "counted", "(I)I"⟩, 16) (List.mem_of_getElem? (i := 1) rfl), rfl⟩
theorem wv_X3_bestNow : Cond.selects RX3 yX3_bestNow yX3_bestNow ∈ WG := List.mem_filter.mpr ⟨wp_5 (⟨"BurialGroundModel", "bestNow", "(I)I"⟩, 16) (List.mem_of_getElem? (i := 2) rfl), rfl⟩
theorem wv_X3_clearNow : Cond.selects RX3 yX3_clearNow yX3_clearNow ∈ WG := List.mem_filter.mpr ⟨wp_5 (⟨"BurialGroundModel", "clearNow", "(I)I"⟩, 16) (List.mem_of_getElem? (i := 3) rfl), rfl⟩
theorem wv_X3_cutNow : Cond.selects RX3 yX3_cutNow yX3_cutNow ∈ WG := List.mem_filter.mpr ⟨wp_5 (⟨"BurialGroundModel", "cutNow", "(I)I"⟩, 16) (List.mem_of_getElem? (i := 4) rfl), rfl⟩
theorem wv_X3_meanNow : Cond.selects RX3 yX3_meanNow yX3_meanNow ∈ WG := List.mem_filter.mpr ⟨wp_5 (⟨"BurialGroundModel", "meanNow", "()D"⟩, 16) (List.mem_of_getElem? (i := 5) rfl), rfl⟩
theorem wv_X3_mix : Cond.selects RX3 yX3_mix yX3_mix ∈ WG := List.mem_filter.mpr ⟨wp_5 (⟨"BurialGroundModel", "mix", "(J)V"⟩, 16) (List.mem_of_getElem? (i := 6) rfl), rfl⟩
theorem inX0 : ∀ w ∈ wsX00, w ∈ WG := by
  intro w h
  obtain ⟨k, hk, rfl⟩ := List.mem_map.mp h
  have hk := List.mem_range.mp hk
  match k, hk with
  | 0, _ => exact wy_X0_stage
  | 1, _ => exact wy_X0_reserves
  | 2, _ => exact wy_X0_family
  | 3, _ => exact wy_X0_plot
  | 4, _ => exact wy_X0_number
  | k + 5, hk => exact absurd hk (by omega)
theorem inX1 : ∀ w ∈ wsX10, w ∈ WG := by
  intro w h
  obtain ⟨k, hk, rfl⟩ := List.mem_map.mp h
  have hk := List.mem_range.mp hk
  match k, hk with
  | 0, _ => exact wy_X1_year
  | 1, _ => exact wy_X1_parish
  | 2, _ => exact wy_X1_paid
  | 3, _ => exact wy_X1_burialsSoFar
  | 4, _ => exact wy_X1_kind
  | 5, _ => exact wy_X1_vaultOf
  | 6, _ => exact wy_X1_reservedFor
  | 7, _ => exact wy_X1_reservedUpTo
  | 8, _ => exact wy_X1_buried
  | 9, _ => exact wy_X1_buriedIn
  | 10, _ => exact wy_X1_feePaid
  | 11, _ => exact wy_X1_reached
  | k + 12, hk => exact absurd hk (by omega)
theorem inX2 : ∀ w ∈ wsX20, w ∈ WG := by
  intro w h
  obtain ⟨k, hk, rfl⟩ := List.mem_map.mp h
  have hk := List.mem_range.mp hk
  match k, hk with
  | 0, _ => exact wy_X2_now
  | 1, _ => exact wy_X2_saved
  | 2, _ => exact wy_X2_savedCount
  | 3, _ => exact wy_X2_buffer
  | 4, _ => exact wy_X2_length
  | 5, _ => exact wy_X2_reader
  | k + 6, hk => exact absurd hk (by omega)
theorem inX3 : ∀ w ∈ wsX30, w ∈ WG := by
  intro w h
  obtain ⟨k, hk, rfl⟩ := List.mem_map.mp h
  have hk := List.mem_range.mp hk
  match k, hk with
  | 0, _ => exact wy_X3_z
  | 1, _ => exact wy_X3_rows
  | 2, _ => exact wy_X3_saved
  | 3, _ => exact wy_X3_text
  | 4, _ => exact wy_X3_length
  | 5, _ => exact wy_X3_thrown
  | 6, _ => exact wy_X3_now
  | 7, _ => exact wy_X3_way
  | 8, _ => exact wy_X3_queue
  | 9, _ => exact wy_X3_many
  | 10, _ => exact wy_X3_sort
  | 11, _ => exact wy_X3_who
  | 12, _ => exact wy_X3_where
  | 13, _ => exact wy_X3_much
  | 14, _ => exact wy_X3_isWhole
  | 15, _ => exact wy_X3_h
  | k + 16, hk => exact absurd hk (by omega)
