def WG : List Cond := lw_tbl.filter goodWord
theorem WG_good : ∀ w ∈ WG, goodWord w = true := fun w h => (List.mem_filter.mp h).2
theorem WG_tbl : ∀ w ∈ WG, w ∈ lw_tbl := fun w h => (List.mem_filter.mp h).1
theorem wr_1 : ∀ w ∈ tables_1_1, w ∈ lw_tbl := fun _ h => List.mem_append_right _ (List.mem_append_left _ h)
theorem wr_2 : ∀ w ∈ tables_1_2, w ∈ lw_tbl := fun _ h => List.mem_append_right _ (List.mem_append_right _ (List.mem_append_left _ h))
theorem wr_3 : ∀ w ∈ tables_1_3, w ∈ lw_tbl := fun _ h => List.mem_append_right _ (List.mem_append_right _ (List.mem_append_right _ h))
theorem wp_1 : ∀ q ∈ lw_privs_1, Cond.selects q.1.cls q.1 q.1 ∈ lw_tbl := fun q h => List.mem_append_left _ (List.mem_map.mpr ⟨q, (List.mem_append_left _ h), rfl⟩)
theorem wp_2 : ∀ q ∈ lw_privs_2, Cond.selects q.1.cls q.1 q.1 ∈ lw_tbl := fun q h => List.mem_append_left _ (List.mem_map.mpr ⟨q, (List.mem_append_right _ h), rfl⟩)
theorem wn_L : Cond.initialized RL ∈ WG := List.mem_filter.mpr ⟨wr_1 _ (List.mem_of_getElem? (i := 0) rfl), rfl⟩
theorem wn_X2 : Cond.initialized RX2 ∈ WG := List.mem_filter.mpr ⟨wr_1 _ (List.mem_of_getElem? (i := 1) rfl), rfl⟩
theorem wn_X1 : Cond.initialized RX1 ∈ WG := List.mem_filter.mpr ⟨wr_1 _ (List.mem_of_getElem? (i := 2) rfl), rfl⟩
theorem wn_X0 : Cond.initialized RX0 ∈ WG := List.mem_filter.mpr ⟨wr_1 _ (List.mem_of_getElem? (i := 3) rfl), rfl⟩
theorem wn_Throwable : Cond.initialized "java/lang/Throwable" ∈ WG := List.mem_filter.mpr ⟨wr_1 _ (List.mem_of_getElem? (i := 4) rfl), rfl⟩
theorem wn_Exception : Cond.initialized "java/lang/Exception" ∈ WG := List.mem_filter.mpr ⟨wr_1 _ (List.mem_of_getElem? (i := 5) rfl), rfl⟩
theorem wn_RuntimeException : Cond.initialized "java/lang/RuntimeException" ∈ WG := List.mem_filter.mpr ⟨wr_1 _ (List.mem_of_getElem? (i := 6) rfl), rfl⟩
theorem wn_IndexOutOfBoundsException : Cond.initialized "java/lang/IndexOutOfBoundsException" ∈ WG := List.mem_filter.mpr ⟨wr_1 _ (List.mem_of_getElem? (i := 7) rfl), rfl⟩
theorem wn_IllegalArgumentException : Cond.initialized "java/lang/IllegalArgumentException" ∈ WG := List.mem_filter.mpr ⟨wr_1 _ (List.mem_of_getElem? (i := 8) rfl), rfl⟩
theorem wn_J9 : Cond.initialized RJ9 ∈ WG := List.mem_filter.mpr ⟨wr_1 _ (List.mem_of_getElem? (i := 9) rfl), rfl⟩
theorem wn_J13 : Cond.initialized RJ13 ∈ WG := List.mem_filter.mpr ⟨wr_1 _ (List.mem_of_getElem? (i := 10) rfl), rfl⟩
theorem wn_J10 : Cond.initialized RJ10 ∈ WG := List.mem_filter.mpr ⟨wr_1 _ (List.mem_of_getElem? (i := 11) rfl), rfl⟩
theorem wn_IllegalStateException : Cond.initialized "java/lang/IllegalStateException" ∈ WG := List.mem_filter.mpr ⟨wr_1 _ (List.mem_of_getElem? (i := 12) rfl), rfl⟩
theorem wk_L_57 : Cond.classLink RL 57 RX2 ∈ WG := List.mem_filter.mpr ⟨wr_1 _ (List.mem_of_getElem? (i := 13) rfl), rfl⟩
theorem wb_X2 : Cond.instantiable RX2 6 ∈ WG := List.mem_filter.mpr ⟨wr_1 _ (List.mem_of_getElem? (i := 14) rfl), rfl⟩
theorem wl_L_147 : Cond.methodLink RL 147 yX2_init ∈ WG := List.mem_filter.mpr ⟨wr_1 _ (List.mem_of_getElem? (i := 15) rfl), rfl⟩
theorem wi_X2_init : Cond.instanceMethod yX2_init ∈ WG := List.mem_filter.mpr ⟨wr_1 _ (List.mem_of_getElem? (i := 16) rfl), rfl⟩
theorem wc_X2_init : Cond.code yX2_init cX2_init 2 none ∈ WG := List.mem_filter.mpr ⟨wr_1 _ (List.mem_of_getElem? (i := 17) rfl), rfl⟩
theorem wl_X2_1 : Cond.methodLink RX2 1 (⟨"java/lang/Object", "<init>", "()V"⟩ : MethodName) ∈ WG := List.mem_filter.mpr ⟨wr_1 _ (List.mem_of_getElem? (i := 18) rfl), rfl⟩
theorem wi_Object__init__a7 : Cond.instanceMethod (⟨"java/lang/Object", "<init>", "()V"⟩ : MethodName) ∈ WG := List.mem_filter.mpr ⟨wr_1 _ (List.mem_of_getElem? (i := 19) rfl), rfl⟩
theorem wc_Object__init__a7 : Cond.code (⟨"java/lang/Object", "<init>", "()V"⟩ : MethodName) object_method_1_code 1 none ∈ WG := List.mem_filter.mpr ⟨wr_1 _ (List.mem_of_getElem? (i := 20) rfl), rfl⟩
theorem wk_X2_7 : Cond.classLink RX2 7 RX1 ∈ WG := List.mem_filter.mpr ⟨wr_1 _ (List.mem_of_getElem? (i := 21) rfl), rfl⟩
theorem wb_X1 : Cond.instantiable RX1 12 ∈ WG := List.mem_filter.mpr ⟨wr_1 _ (List.mem_of_getElem? (i := 22) rfl), rfl⟩
theorem wl_X2_9 : Cond.methodLink RX2 9 yX1_init ∈ WG := List.mem_filter.mpr ⟨wr_1 _ (List.mem_of_getElem? (i := 23) rfl), rfl⟩
theorem wi_X1_init : Cond.instanceMethod yX1_init ∈ WG := List.mem_filter.mpr ⟨wr_1 _ (List.mem_of_getElem? (i := 24) rfl), rfl⟩
theorem wc_X1_init : Cond.code yX1_init cX1_init 2 none ∈ WG := List.mem_filter.mpr ⟨wr_1 _ (List.mem_of_getElem? (i := 25) rfl), rfl⟩
theorem wl_X1_3 : Cond.methodLink RX1 3 (⟨"java/lang/Object", "<init>", "()V"⟩ : MethodName) ∈ WG := List.mem_filter.mpr ⟨wr_1 _ (List.mem_of_getElem? (i := 26) rfl), rfl⟩
theorem wq_X1_46 : Cond.constantLong RX1 46 (1099511627775) ∈ WG := List.mem_filter.mpr ⟨wr_1 _ (List.mem_of_getElem? (i := 27) rfl), rfl⟩
theorem wf_X1_9 : Cond.fieldLink RX1 9 "BurialGround$Ledger" "year" "I" ∈ WG := List.mem_filter.mpr ⟨wr_1 _ (List.mem_of_getElem? (i := 28) rfl), rfl⟩
theorem wf_X2_72 : Cond.fieldLink RX2 72 "BurialGround$Ledger" "year" "I" ∈ WG := List.mem_filter.mpr ⟨wr_1 _ (List.mem_of_getElem? (i := 29) rfl), rfl⟩
theorem wf_X1_15 : Cond.fieldLink RX1 15 "BurialGround$Ledger" "parish" "[I" ∈ WG := List.mem_filter.mpr ⟨wr_1 _ (List.mem_of_getElem? (i := 30) rfl), rfl⟩
theorem wf_X2_84 : Cond.fieldLink RX2 84 "BurialGround$Ledger" "parish" "[I" ∈ WG := List.mem_filter.mpr ⟨wr_1 _ (List.mem_of_getElem? (i := 31) rfl), rfl⟩
theorem wf_X1_19 : Cond.fieldLink RX1 19 "BurialGround$Ledger" "paid" "[I" ∈ WG := List.mem_filter.mpr ⟨wr_1 _ (List.mem_of_getElem? (i := 32) rfl), rfl⟩
theorem wf_X1_22 : Cond.fieldLink RX1 22 "BurialGround$Ledger" "burialsSoFar" "[I" ∈ WG := List.mem_filter.mpr ⟨wr_1 _ (List.mem_of_getElem? (i := 33) rfl), rfl⟩
theorem wf_X1_25 : Cond.fieldLink RX1 25 "BurialGround$Ledger" "kind" "[I" ∈ WG := List.mem_filter.mpr ⟨wr_1 _ (List.mem_of_getElem? (i := 34) rfl), rfl⟩
theorem wf_X1_28 : Cond.fieldLink RX1 28 "BurialGround$Ledger" "vaultOf" "[I" ∈ WG := List.mem_filter.mpr ⟨wr_1 _ (List.mem_of_getElem? (i := 35) rfl), rfl⟩
theorem wf_X1_31 : Cond.fieldLink RX1 31 "BurialGround$Ledger" "reservedFor" "[I" ∈ WG := List.mem_filter.mpr ⟨wr_1 _ (List.mem_of_getElem? (i := 36) rfl), rfl⟩
theorem wf_X1_34 : Cond.fieldLink RX1 34 "BurialGround$Ledger" "reservedUpTo" "[I" ∈ WG := List.mem_filter.mpr ⟨wr_1 _ (List.mem_of_getElem? (i := 37) rfl), rfl⟩
theorem wf_X1_37 : Cond.fieldLink RX1 37 "BurialGround$Ledger" "buried" "[I" ∈ WG := List.mem_filter.mpr ⟨wr_1 _ (List.mem_of_getElem? (i := 38) rfl), rfl⟩
theorem wf_X1_40 : Cond.fieldLink RX1 40 "BurialGround$Ledger" "buriedIn" "[I" ∈ WG := List.mem_filter.mpr ⟨wr_1 _ (List.mem_of_getElem? (i := 39) rfl), rfl⟩
theorem wf_X1_43 : Cond.fieldLink RX1 43 "BurialGround$Ledger" "feePaid" "[I" ∈ WG := List.mem_filter.mpr ⟨wr_1 _ (List.mem_of_getElem? (i := 40) rfl), rfl⟩
theorem wf_X1_48 : Cond.fieldLink RX1 48 "BurialGround$Ledger" "reached" "J" ∈ WG := List.mem_filter.mpr ⟨wr_1 _ (List.mem_of_getElem? (i := 41) rfl), rfl⟩
theorem wy_X1_year : Cond.lays RX1 "BurialGround$Ledger" "year" "I" ∈ WG := List.mem_filter.mpr ⟨wr_1 _ (List.mem_of_getElem? (i := 42) rfl), rfl⟩
theorem wy_X1_parish : Cond.laysFinal RX1 "BurialGround$Ledger" "parish" "[I" ∈ WG := List.mem_filter.mpr ⟨wr_1 _ (List.mem_of_getElem? (i := 44) rfl), rfl⟩
theorem wy_X1_paid : Cond.laysFinal RX1 "BurialGround$Ledger" "paid" "[I" ∈ WG := List.mem_filter.mpr ⟨wr_1 _ (List.mem_of_getElem? (i := 46) rfl), rfl⟩
theorem wy_X1_burialsSoFar : Cond.laysFinal RX1 "BurialGround$Ledger" "burialsSoFar" "[I" ∈ WG := List.mem_filter.mpr ⟨wr_1 _ (List.mem_of_getElem? (i := 48) rfl), rfl⟩
theorem wy_X1_kind : Cond.laysFinal RX1 "BurialGround$Ledger" "kind" "[I" ∈ WG := List.mem_filter.mpr ⟨wr_1 _ (List.mem_of_getElem? (i := 50) rfl), rfl⟩
theorem wy_X1_vaultOf : Cond.laysFinal RX1 "BurialGround$Ledger" "vaultOf" "[I" ∈ WG := List.mem_filter.mpr ⟨wr_1 _ (List.mem_of_getElem? (i := 52) rfl), rfl⟩
theorem wy_X1_reservedFor : Cond.laysFinal RX1 "BurialGround$Ledger" "reservedFor" "[I" ∈ WG := List.mem_filter.mpr ⟨wr_1 _ (List.mem_of_getElem? (i := 54) rfl), rfl⟩
theorem wy_X1_reservedUpTo : Cond.laysFinal RX1 "BurialGround$Ledger" "reservedUpTo" "[I" ∈ WG := List.mem_filter.mpr ⟨wr_1 _ (List.mem_of_getElem? (i := 56) rfl), rfl⟩
theorem wy_X1_buried : Cond.laysFinal RX1 "BurialGround$Ledger" "buried" "[I" ∈ WG := List.mem_filter.mpr ⟨wr_1 _ (List.mem_of_getElem? (i := 58) rfl), rfl⟩
theorem wy_X1_buriedIn : Cond.laysFinal RX1 "BurialGround$Ledger" "buriedIn" "[I" ∈ WG := List.mem_filter.mpr ⟨wr_1 _ (List.mem_of_getElem? (i := 60) rfl), rfl⟩
theorem wy_X1_feePaid : Cond.laysFinal RX1 "BurialGround$Ledger" "feePaid" "[I" ∈ WG := List.mem_filter.mpr ⟨wr_1 _ (List.mem_of_getElem? (i := 62) rfl), rfl⟩
theorem wy_X1_reached : Cond.lays RX1 "BurialGround$Ledger" "reached" "J" ∈ WG := List.mem_filter.mpr ⟨wr_1 _ (List.mem_of_getElem? (i := 64) rfl), rfl⟩
theorem wa_int : Cond.arrayClass Jvm.ClassFile.FieldType.int ∈ WG := List.mem_filter.mpr ⟨wr_1 _ (List.mem_of_getElem? (i := 67) rfl), rfl⟩
theorem wk_X2_31 : Cond.classLink RX2 31 RX0 ∈ WG := List.mem_filter.mpr ⟨wr_1 _ (List.mem_of_getElem? (i := 69) rfl), rfl⟩
theorem wb_X0 : Cond.instantiable RX0 5 ∈ WG := List.mem_filter.mpr ⟨wr_1 _ (List.mem_of_getElem? (i := 70) rfl), rfl⟩
theorem wi_X0_init : Cond.instanceMethod yX0_init ∈ WG := List.mem_filter.mpr ⟨wr_1 _ (List.mem_of_getElem? (i := 72) rfl), rfl⟩
theorem wc_X0_init : Cond.code yX0_init cX0_init 1 none ∈ WG := List.mem_filter.mpr ⟨wr_1 _ (List.mem_of_getElem? (i := 73) rfl), rfl⟩
theorem wl_X0_3 : Cond.methodLink RX0 3 (⟨"java/lang/Object", "<init>", "()V"⟩ : MethodName) ∈ WG := List.mem_filter.mpr ⟨wr_1 _ (List.mem_of_getElem? (i := 74) rfl), rfl⟩
theorem wf_X0_11 : Cond.fieldLink RX0 11 "BurialGround$EntryReader" "stage" "I" ∈ WG := List.mem_filter.mpr ⟨wr_1 _ (List.mem_of_getElem? (i := 75) rfl), rfl⟩
theorem wf_X0_15 : Cond.fieldLink RX0 15 "BurialGround$EntryReader" "reserves" "Z" ∈ WG := List.mem_filter.mpr ⟨wr_1 _ (List.mem_of_getElem? (i := 76) rfl), rfl⟩
theorem wf_X0_19 : Cond.fieldLink RX0 19 "BurialGround$EntryReader" "family" "I" ∈ WG := List.mem_filter.mpr ⟨wr_1 _ (List.mem_of_getElem? (i := 77) rfl), rfl⟩
theorem wf_X0_22 : Cond.fieldLink RX0 22 "BurialGround$EntryReader" "plot" "I" ∈ WG := List.mem_filter.mpr ⟨wr_1 _ (List.mem_of_getElem? (i := 78) rfl), rfl⟩
theorem wf_X0_25 : Cond.fieldLink RX0 25 "BurialGround$EntryReader" "number" "I" ∈ WG := List.mem_filter.mpr ⟨wr_1 _ (List.mem_of_getElem? (i := 79) rfl), rfl⟩
theorem wy_X0_stage : Cond.lays RX0 "BurialGround$EntryReader" "stage" "I" ∈ WG := List.mem_filter.mpr ⟨wr_1 _ (List.mem_of_getElem? (i := 80) rfl), rfl⟩
theorem wy_X0_reserves : Cond.lays RX0 "BurialGround$EntryReader" "reserves" "Z" ∈ WG := List.mem_filter.mpr ⟨wr_1 _ (List.mem_of_getElem? (i := 82) rfl), rfl⟩
theorem wy_X0_family : Cond.lays RX0 "BurialGround$EntryReader" "family" "I" ∈ WG := List.mem_filter.mpr ⟨wr_1 _ (List.mem_of_getElem? (i := 84) rfl), rfl⟩
theorem wy_X0_plot : Cond.lays RX0 "BurialGround$EntryReader" "plot" "I" ∈ WG := List.mem_filter.mpr ⟨wr_1 _ (List.mem_of_getElem? (i := 86) rfl), rfl⟩
theorem wy_X0_number : Cond.lays RX0 "BurialGround$EntryReader" "number" "I" ∈ WG := List.mem_filter.mpr ⟨wr_1 _ (List.mem_of_getElem? (i := 88) rfl), rfl⟩
theorem wf_X2_10 : Cond.fieldLink RX2 10 "BurialGround" "now" "LBurialGround$Ledger;" ∈ WG := List.mem_filter.mpr ⟨wr_1 _ (List.mem_of_getElem? (i := 91) rfl), rfl⟩
theorem wf_X2_16 : Cond.fieldLink RX2 16 "BurialGround" "saved" "[LBurialGround$Ledger;" ∈ WG := List.mem_filter.mpr ⟨wr_1 _ (List.mem_of_getElem? (i := 92) rfl), rfl⟩
theorem wf_X2_20 : Cond.fieldLink RX2 20 "BurialGround" "savedCount" "I" ∈ WG := List.mem_filter.mpr ⟨wr_1 _ (List.mem_of_getElem? (i := 93) rfl), rfl⟩
theorem wf_X2_24 : Cond.fieldLink RX2 24 "BurialGround" "buffer" "[I" ∈ WG := List.mem_filter.mpr ⟨wr_1 _ (List.mem_of_getElem? (i := 94) rfl), rfl⟩
theorem wf_X2_28 : Cond.fieldLink RX2 28 "BurialGround" "length" "I" ∈ WG := List.mem_filter.mpr ⟨wr_1 _ (List.mem_of_getElem? (i := 95) rfl), rfl⟩
theorem wf_X2_34 : Cond.fieldLink RX2 34 "BurialGround" "reader" "LBurialGround$EntryReader;" ∈ WG := List.mem_filter.mpr ⟨wr_1 _ (List.mem_of_getElem? (i := 96) rfl), rfl⟩
theorem wy_X2_now : Cond.laysFinal RX2 "BurialGround" "now" "LBurialGround$Ledger;" ∈ WG := List.mem_filter.mpr ⟨wr_1 _ (List.mem_of_getElem? (i := 97) rfl), rfl⟩
theorem wy_X2_saved : Cond.laysFinal RX2 "BurialGround" "saved" "[LBurialGround$Ledger;" ∈ WG := List.mem_filter.mpr ⟨wr_1 _ (List.mem_of_getElem? (i := 99) rfl), rfl⟩
theorem wy_X2_savedCount : Cond.lays RX2 "BurialGround" "savedCount" "I" ∈ WG := List.mem_filter.mpr ⟨wr_1 _ (List.mem_of_getElem? (i := 101) rfl), rfl⟩
theorem wy_X2_buffer : Cond.laysFinal RX2 "BurialGround" "buffer" "[I" ∈ WG := List.mem_filter.mpr ⟨wr_1 _ (List.mem_of_getElem? (i := 103) rfl), rfl⟩
theorem wy_X2_length : Cond.lays RX2 "BurialGround" "length" "I" ∈ WG := List.mem_filter.mpr ⟨wr_1 _ (List.mem_of_getElem? (i := 105) rfl), rfl⟩
theorem wy_X2_reader : Cond.laysFinal RX2 "BurialGround" "reader" "LBurialGround$EntryReader;" ∈ WG := List.mem_filter.mpr ⟨wr_1 _ (List.mem_of_getElem? (i := 107) rfl), rfl⟩
theorem wl_L_129 : Cond.methodLink RL 129 yX2_setParish ∈ WG := List.mem_filter.mpr ⟨wr_1 _ (List.mem_of_getElem? (i := 110) rfl), rfl⟩
theorem wi_X2_setParish : Cond.instanceMethod yX2_setParish ∈ WG := List.mem_filter.mpr ⟨wr_1 _ (List.mem_of_getElem? (i := 111) rfl), rfl⟩
theorem wv_X2_setParish : Cond.selects RX2 yX2_setParish yX2_setParish ∈ WG := List.mem_filter.mpr ⟨wr_1 _ (List.mem_of_getElem? (i := 112) rfl), rfl⟩
theorem wc_X2_setParish : Cond.code yX2_setParish cX2_setParish 4 (some .int) ∈ WG := List.mem_filter.mpr ⟨wr_1 _ (List.mem_of_getElem? (i := 113) rfl), rfl⟩
theorem wl_X2_81 : Cond.methodLink RX2 81 yX2_needFamily ∈ WG := List.mem_filter.mpr ⟨wr_1 _ (List.mem_of_getElem? (i := 114) rfl), rfl⟩
theorem wt_X2_needFamily : Cond.static yX2_needFamily ∈ WG := List.mem_filter.mpr ⟨wr_1 _ (List.mem_of_getElem? (i := 115) rfl), rfl⟩
theorem wc_X2_needFamily : Cond.code yX2_needFamily cX2_needFamily 1 none ∈ WG := List.mem_filter.mpr ⟨wr_1 _ (List.mem_of_getElem? (i := 116) rfl), rfl⟩
theorem wk_X2_42 : Cond.classLink RX2 42 "java/lang/IndexOutOfBoundsException" ∈ WG := List.mem_filter.mpr ⟨wr_1 _ (List.mem_of_getElem? (i := 117) rfl), rfl⟩
theorem wb_IndexOutOfBoundsException : Cond.instantiable "java/lang/IndexOutOfBoundsException" 6 ∈ WG := List.mem_filter.mpr ⟨wr_1 _ (List.mem_of_getElem? (i := 118) rfl), rfl⟩
theorem wv_Throwable_fillInStackTrace_86b : Cond.selects "java/lang/IndexOutOfBoundsException" (⟨"java/lang/Throwable", "fillInStackTrace", "(I)Ljava/lang/Throwable;"⟩ : MethodName) (⟨"java/lang/Throwable", "fillInStackTrace", "(I)Ljava/lang/Throwable;"⟩ : MethodName) ∈ WG := List.mem_filter.mpr ⟨wr_1 _ (List.mem_of_getElem? (i := 126) rfl), rfl⟩
theorem wv_Throwable_fillInStackTrace_822 : Cond.selects "java/lang/IndexOutOfBoundsException" (⟨"java/lang/Throwable", "fillInStackTrace", "()Ljava/lang/Throwable;"⟩ : MethodName) (⟨"java/lang/Throwable", "fillInStackTrace", "()Ljava/lang/Throwable;"⟩ : MethodName) ∈ WG := List.mem_filter.mpr ⟨wr_1 _ (List.mem_of_getElem? (i := 127) rfl), rfl⟩
theorem wy_IndexOutOfBoundsException_cause : Cond.lays "java/lang/IndexOutOfBoundsException" "java/lang/Throwable" "cause" "Ljava/lang/Throwable;" ∈ WG := List.mem_filter.mpr ⟨wr_1 _ (List.mem_of_getElem? (i := 128) rfl), rfl⟩
theorem wy_Throwable_cause : Cond.lays "java/lang/Throwable" "java/lang/Throwable" "cause" "Ljava/lang/Throwable;" ∈ WG := List.mem_filter.mpr ⟨wr_1 _ (List.mem_of_getElem? (i := 129) rfl), rfl⟩
theorem wy_IndexOutOfBoundsException_stackTrace : Cond.lays "java/lang/IndexOutOfBoundsException" "java/lang/Throwable" "stackTrace" "[Ljava/lang/StackTraceElement;" ∈ WG := List.mem_filter.mpr ⟨wr_1 _ (List.mem_of_getElem? (i := 130) rfl), rfl⟩
theorem wy_Throwable_stackTrace : Cond.lays "java/lang/Throwable" "java/lang/Throwable" "stackTrace" "[Ljava/lang/StackTraceElement;" ∈ WG := List.mem_filter.mpr ⟨wr_1 _ (List.mem_of_getElem? (i := 131) rfl), rfl⟩
theorem wy_IndexOutOfBoundsException_suppressedExceptions : Cond.lays "java/lang/IndexOutOfBoundsException" "java/lang/Throwable" "suppressedExceptions" "Ljava/util/List;" ∈ WG := List.mem_filter.mpr ⟨wr_1 _ (List.mem_of_getElem? (i := 132) rfl), rfl⟩
theorem wy_Throwable_suppressedExceptions : Cond.lays "java/lang/Throwable" "java/lang/Throwable" "suppressedExceptions" "Ljava/util/List;" ∈ WG := List.mem_filter.mpr ⟨wr_1 _ (List.mem_of_getElem? (i := 133) rfl), rfl⟩
theorem wy_IndexOutOfBoundsException_detailMessage : Cond.lays "java/lang/IndexOutOfBoundsException" "java/lang/Throwable" "detailMessage" "Ljava/lang/String;" ∈ WG := List.mem_filter.mpr ⟨wr_1 _ (List.mem_of_getElem? (i := 134) rfl), rfl⟩
theorem wy_Throwable_detailMessage : Cond.lays "java/lang/Throwable" "java/lang/Throwable" "detailMessage" "Ljava/lang/String;" ∈ WG := List.mem_filter.mpr ⟨wr_1 _ (List.mem_of_getElem? (i := 135) rfl), rfl⟩
theorem wy_IndexOutOfBoundsException_backtrace : Cond.lays "java/lang/IndexOutOfBoundsException" "java/lang/Throwable" "backtrace" "Ljava/lang/Object;" ∈ WG := List.mem_filter.mpr ⟨wr_1 _ (List.mem_of_getElem? (i := 136) rfl), rfl⟩
theorem wy_Throwable_backtrace : Cond.lays "java/lang/Throwable" "java/lang/Throwable" "backtrace" "Ljava/lang/Object;" ∈ WG := List.mem_filter.mpr ⟨wr_1 _ (List.mem_of_getElem? (i := 137) rfl), rfl⟩
theorem wf_Throwable_198 : Cond.fieldLink "java/lang/Throwable" 198 "java/lang/Throwable" "backtrace" "Ljava/lang/Object;" ∈ WG := List.mem_filter.mpr ⟨wr_1 _ (List.mem_of_getElem? (i := 138) rfl), rfl⟩
theorem wi_Throwable__init__a7 : Cond.instanceMethod (⟨"java/lang/Throwable", "<init>", "()V"⟩ : MethodName) ∈ WG := List.mem_filter.mpr ⟨wr_1 _ (List.mem_of_getElem? (i := 140) rfl), rfl⟩
theorem wc_Throwable__init__a7 : Cond.code (⟨"java/lang/Throwable", "<init>", "()V"⟩ : MethodName) prog_15_method_1_code 1 none ∈ WG := List.mem_filter.mpr ⟨wr_1 _ (List.mem_of_getElem? (i := 141) rfl), rfl⟩
theorem wl_Throwable_1 : Cond.methodLink "java/lang/Throwable" 1 (⟨"java/lang/Object", "<init>", "()V"⟩ : MethodName) ∈ WG := List.mem_filter.mpr ⟨wr_1 _ (List.mem_of_getElem? (i := 142) rfl), rfl⟩
theorem wf_Throwable_13 : Cond.fieldLink "java/lang/Throwable" 13 "java/lang/Throwable" "UNASSIGNED_STACK" "[Ljava/lang/StackTraceElement;" ∈ WG := List.mem_filter.mpr ⟨wr_1 _ (List.mem_of_getElem? (i := 143) rfl), rfl⟩
theorem wf_Throwable_20 : Cond.fieldLink "java/lang/Throwable" 20 "java/lang/Throwable" "SUPPRESSED_SENTINEL" "Ljava/util/List;" ∈ WG := List.mem_filter.mpr ⟨wr_1 _ (List.mem_of_getElem? (i := 145) rfl), rfl⟩
theorem wl_Throwable_27 : Cond.methodLink "java/lang/Throwable" 27 (⟨"java/lang/Throwable", "fillInStackTrace", "()Ljava/lang/Throwable;"⟩ : MethodName) ∈ WG := List.mem_filter.mpr ⟨wr_1 _ (List.mem_of_getElem? (i := 147) rfl), rfl⟩
theorem wi_Throwable_fillInStackTrace_822 : Cond.instanceMethod (⟨"java/lang/Throwable", "fillInStackTrace", "()Ljava/lang/Throwable;"⟩ : MethodName) ∈ WG := List.mem_filter.mpr ⟨wr_1 _ (List.mem_of_getElem? (i := 148) rfl), rfl⟩
theorem wl_Throwable_202 : Cond.methodLink "java/lang/Throwable" 202 (⟨"java/lang/Throwable", "fillInStackTrace", "(I)Ljava/lang/Throwable;"⟩ : MethodName) ∈ WG := List.mem_filter.mpr ⟨wr_1 _ (List.mem_of_getElem? (i := 153) rfl), rfl⟩
theorem wi_Throwable_fillInStackTrace_86b : Cond.instanceMethod (⟨"java/lang/Throwable", "fillInStackTrace", "(I)Ljava/lang/Throwable;"⟩ : MethodName) ∈ WG := List.mem_filter.mpr ⟨wr_1 _ (List.mem_of_getElem? (i := 155) rfl), rfl⟩
theorem wb_Throwable : Cond.instantiable "java/lang/Throwable" 6 ∈ WG := List.mem_filter.mpr ⟨wr_1 _ (List.mem_of_getElem? (i := 156) rfl), rfl⟩
theorem wz_Throwable_fillInStackTrace_86b : Cond.native (⟨"java/lang/Throwable", "fillInStackTrace", "(I)Ljava/lang/Throwable;"⟩ : MethodName) ∈ WG := List.mem_filter.mpr ⟨wr_1 _ (List.mem_of_getElem? (i := 157) rfl), rfl⟩
theorem wl_X2_46 : Cond.methodLink RX2 46 (⟨"java/lang/IndexOutOfBoundsException", "<init>", "(Ljava/lang/String;)V"⟩ : MethodName) ∈ WG := List.mem_filter.mpr ⟨wr_1 _ (List.mem_of_getElem? (i := 159) rfl), rfl⟩
theorem wi_IndexOutOfBoundsException__init__747 : Cond.instanceMethod (⟨"java/lang/IndexOutOfBoundsException", "<init>", "(Ljava/lang/String;)V"⟩ : MethodName) ∈ WG := List.mem_filter.mpr ⟨wr_1 _ (List.mem_of_getElem? (i := 160) rfl), rfl⟩
theorem wc_IndexOutOfBoundsException__init__747 : Cond.code (⟨"java/lang/IndexOutOfBoundsException", "<init>", "(Ljava/lang/String;)V"⟩ : MethodName) prog_9_method_2_code 2 none ∈ WG := List.mem_filter.mpr ⟨wr_1 _ (List.mem_of_getElem? (i := 161) rfl), rfl⟩
theorem wl_IndexOutOfBoundsException_7 : Cond.methodLink "java/lang/IndexOutOfBoundsException" 7 (⟨"java/lang/RuntimeException", "<init>", "(Ljava/lang/String;)V"⟩ : MethodName) ∈ WG := List.mem_filter.mpr ⟨wr_1 _ (List.mem_of_getElem? (i := 162) rfl), rfl⟩
theorem wi_RuntimeException__init__747 : Cond.instanceMethod (⟨"java/lang/RuntimeException", "<init>", "(Ljava/lang/String;)V"⟩ : MethodName) ∈ WG := List.mem_filter.mpr ⟨wr_1 _ (List.mem_of_getElem? (i := 163) rfl), rfl⟩
theorem wc_RuntimeException__init__747 : Cond.code (⟨"java/lang/RuntimeException", "<init>", "(Ljava/lang/String;)V"⟩ : MethodName) prog_12_method_2_code 2 none ∈ WG := List.mem_filter.mpr ⟨wr_1 _ (List.mem_of_getElem? (i := 164) rfl), rfl⟩
theorem wl_RuntimeException_7 : Cond.methodLink "java/lang/RuntimeException" 7 (⟨"java/lang/Exception", "<init>", "(Ljava/lang/String;)V"⟩ : MethodName) ∈ WG := List.mem_filter.mpr ⟨wr_1 _ (List.mem_of_getElem? (i := 165) rfl), rfl⟩
theorem wi_Exception__init__747 : Cond.instanceMethod (⟨"java/lang/Exception", "<init>", "(Ljava/lang/String;)V"⟩ : MethodName) ∈ WG := List.mem_filter.mpr ⟨wr_1 _ (List.mem_of_getElem? (i := 166) rfl), rfl⟩
theorem wc_Exception__init__747 : Cond.code (⟨"java/lang/Exception", "<init>", "(Ljava/lang/String;)V"⟩ : MethodName) prog_6_method_2_code 2 none ∈ WG := List.mem_filter.mpr ⟨wr_1 _ (List.mem_of_getElem? (i := 167) rfl), rfl⟩
theorem wl_Exception_7 : Cond.methodLink "java/lang/Exception" 7 (⟨"java/lang/Throwable", "<init>", "(Ljava/lang/String;)V"⟩ : MethodName) ∈ WG := List.mem_filter.mpr ⟨wr_1 _ (List.mem_of_getElem? (i := 168) rfl), rfl⟩
theorem wi_Throwable__init__747 : Cond.instanceMethod (⟨"java/lang/Throwable", "<init>", "(Ljava/lang/String;)V"⟩ : MethodName) ∈ WG := List.mem_filter.mpr ⟨wr_1 _ (List.mem_of_getElem? (i := 169) rfl), rfl⟩
theorem wc_Throwable__init__747 : Cond.code (⟨"java/lang/Throwable", "<init>", "(Ljava/lang/String;)V"⟩ : MethodName) prog_15_method_2_code 2 none ∈ WG := List.mem_filter.mpr ⟨wr_1 _ (List.mem_of_getElem? (i := 170) rfl), rfl⟩
theorem wf_Throwable_31 : Cond.fieldLink "java/lang/Throwable" 31 "java/lang/Throwable" "detailMessage" "Ljava/lang/String;" ∈ WG := List.mem_filter.mpr ⟨wr_1 _ (List.mem_of_getElem? (i := 172) rfl), rfl⟩
theorem wf_Throwable_7 : Cond.fieldLink "java/lang/Throwable" 7 "java/lang/Throwable" "cause" "Ljava/lang/Throwable;" ∈ WG := List.mem_filter.mpr ⟨wr_1 _ (List.mem_of_getElem? (i := 173) rfl), rfl⟩
theorem wf_Throwable_17 : Cond.fieldLink "java/lang/Throwable" 17 "java/lang/Throwable" "stackTrace" "[Ljava/lang/StackTraceElement;" ∈ WG := List.mem_filter.mpr ⟨wr_1 _ (List.mem_of_getElem? (i := 174) rfl), rfl⟩
theorem wf_Throwable_24 : Cond.fieldLink "java/lang/Throwable" 24 "java/lang/Throwable" "suppressedExceptions" "Ljava/util/List;" ∈ WG := List.mem_filter.mpr ⟨wr_1 _ (List.mem_of_getElem? (i := 175) rfl), rfl⟩
theorem wy_IndexOutOfBoundsException_depth : Cond.lays "java/lang/IndexOutOfBoundsException" "java/lang/Throwable" "depth" "I" ∈ WG := List.mem_filter.mpr ⟨wr_1 _ (List.mem_of_getElem? (i := 180) rfl), rfl⟩
theorem wa_byte : Cond.arrayClass Jvm.ClassFile.FieldType.byte ∈ WG := List.mem_filter.mpr ⟨wr_1 _ (List.mem_of_getElem? (i := 184) rfl), rfl⟩
theorem wl_X2_63 : Cond.methodLink RX2 63 yX2_save ∈ WG := List.mem_filter.mpr ⟨wr_1 _ (List.mem_of_getElem? (i := 185) rfl), rfl⟩
theorem wi_X2_save : Cond.instanceMethod yX2_save ∈ WG := List.mem_filter.mpr ⟨wr_1 _ (List.mem_of_getElem? (i := 187) rfl), rfl⟩
theorem wc_X2_save : Cond.code yX2_save cX2_save 1 none ∈ WG := List.mem_filter.mpr ⟨wr_1 _ (List.mem_of_getElem? (i := 188) rfl), rfl⟩
theorem wl_X2_221 : Cond.methodLink RX2 221 yX2_dropOldest ∈ WG := List.mem_filter.mpr ⟨wr_1 _ (List.mem_of_getElem? (i := 189) rfl), rfl⟩
theorem wi_X2_dropOldest : Cond.instanceMethod yX2_dropOldest ∈ WG := List.mem_filter.mpr ⟨wr_1 _ (List.mem_of_getElem? (i := 191) rfl), rfl⟩
theorem wc_X2_dropOldest : Cond.code yX2_dropOldest cX2_dropOldest 3 none ∈ WG := List.mem_filter.mpr ⟨wr_1 _ (List.mem_of_getElem? (i := 192) rfl), rfl⟩
theorem wl_X2_144 : Cond.methodLink RX2 144 yX1_copyFrom ∈ WG := List.mem_filter.mpr ⟨wr_1 _ (List.mem_of_getElem? (i := 193) rfl), rfl⟩
theorem wi_X1_copyFrom : Cond.instanceMethod yX1_copyFrom ∈ WG := List.mem_filter.mpr ⟨wr_1 _ (List.mem_of_getElem? (i := 194) rfl), rfl⟩
theorem wv_X1_copyFrom : Cond.selects RX1 yX1_copyFrom yX1_copyFrom ∈ WG := List.mem_filter.mpr ⟨wr_1 _ (List.mem_of_getElem? (i := 195) rfl), rfl⟩
theorem wc_X1_copyFrom : Cond.code yX1_copyFrom cX1_copyFrom 2 none ∈ WG := List.mem_filter.mpr ⟨wr_1 _ (List.mem_of_getElem? (i := 196) rfl), rfl⟩
theorem wl_X1_52 : Cond.methodLink RX1 52 (⟨"java/lang/System", "arraycopy", "(Ljava/lang/Object;ILjava/lang/Object;II)V"⟩ : MethodName) ∈ WG := List.mem_filter.mpr ⟨wr_1 _ (List.mem_of_getElem? (i := 197) rfl), rfl⟩
theorem wt_System_arraycopy_e82 : Cond.static (⟨"java/lang/System", "arraycopy", "(Ljava/lang/Object;ILjava/lang/Object;II)V"⟩ : MethodName) ∈ WG := List.mem_filter.mpr ⟨wr_1 _ (List.mem_of_getElem? (i := 198) rfl), rfl⟩
theorem wz_System_arraycopy_e82 : Cond.native (⟨"java/lang/System", "arraycopy", "(Ljava/lang/Object;ILjava/lang/Object;II)V"⟩ : MethodName) ∈ WG := List.mem_filter.mpr ⟨wr_1 _ (List.mem_of_getElem? (i := 199) rfl), rfl⟩
theorem wl_L_81 : Cond.methodLink RL 81 yX2_count ∈ WG := List.mem_filter.mpr ⟨wr_1 _ (List.mem_of_getElem? (i := 200) rfl), rfl⟩
theorem wi_X2_count : Cond.instanceMethod yX2_count ∈ WG := List.mem_filter.mpr ⟨wr_1 _ (List.mem_of_getElem? (i := 201) rfl), rfl⟩
theorem wv_X2_count : Cond.selects RX2 yX2_count yX2_count ∈ WG := List.mem_filter.mpr ⟨wr_1 _ (List.mem_of_getElem? (i := 202) rfl), rfl⟩
theorem wc_X2_count : Cond.code yX2_count cX2_count 2 (some .int) ∈ WG := List.mem_filter.mpr ⟨wr_1 _ (List.mem_of_getElem? (i := 203) rfl), rfl⟩
theorem wl_X2_148 : Cond.methodLink RX2 148 yX2_needProperty ∈ WG := List.mem_filter.mpr ⟨wr_1 _ (List.mem_of_getElem? (i := 204) rfl), rfl⟩
theorem wt_X2_needProperty : Cond.static yX2_needProperty ∈ WG := List.mem_filter.mpr ⟨wr_1 _ (List.mem_of_getElem? (i := 205) rfl), rfl⟩
theorem wc_X2_needProperty : Cond.code yX2_needProperty cX2_needProperty 2 none ∈ WG := List.mem_filter.mpr ⟨wr_1 _ (List.mem_of_getElem? (i := 206) rfl), rfl⟩
theorem wk_X2_49 : Cond.classLink RX2 49 "java/lang/IllegalArgumentException" ∈ WG := List.mem_filter.mpr ⟨wr_1 _ (List.mem_of_getElem? (i := 207) rfl), rfl⟩
theorem wb_IllegalArgumentException : Cond.instantiable "java/lang/IllegalArgumentException" 6 ∈ WG := List.mem_filter.mpr ⟨wr_1 _ (List.mem_of_getElem? (i := 208) rfl), rfl⟩
theorem wy_IllegalArgumentException_cause : Cond.lays "java/lang/IllegalArgumentException" "java/lang/Throwable" "cause" "Ljava/lang/Throwable;" ∈ WG := List.mem_filter.mpr ⟨wr_1 _ (List.mem_of_getElem? (i := 211) rfl), rfl⟩
theorem wy_IllegalArgumentException_stackTrace : Cond.lays "java/lang/IllegalArgumentException" "java/lang/Throwable" "stackTrace" "[Ljava/lang/StackTraceElement;" ∈ WG := List.mem_filter.mpr ⟨wr_1 _ (List.mem_of_getElem? (i := 212) rfl), rfl⟩
theorem wy_IllegalArgumentException_suppressedExceptions : Cond.lays "java/lang/IllegalArgumentException" "java/lang/Throwable" "suppressedExceptions" "Ljava/util/List;" ∈ WG := List.mem_filter.mpr ⟨wr_1 _ (List.mem_of_getElem? (i := 213) rfl), rfl⟩
theorem wy_IllegalArgumentException_detailMessage : Cond.lays "java/lang/IllegalArgumentException" "java/lang/Throwable" "detailMessage" "Ljava/lang/String;" ∈ WG := List.mem_filter.mpr ⟨wr_1 _ (List.mem_of_getElem? (i := 214) rfl), rfl⟩
theorem wy_IllegalArgumentException_backtrace : Cond.lays "java/lang/IllegalArgumentException" "java/lang/Throwable" "backtrace" "Ljava/lang/Object;" ∈ WG := List.mem_filter.mpr ⟨wr_1 _ (List.mem_of_getElem? (i := 215) rfl), rfl⟩
theorem wl_X2_53 : Cond.methodLink RX2 53 (⟨"java/lang/IllegalArgumentException", "<init>", "(Ljava/lang/String;)V"⟩ : MethodName) ∈ WG := List.mem_filter.mpr ⟨wr_1 _ (List.mem_of_getElem? (i := 217) rfl), rfl⟩
theorem wi_IllegalArgumentException__init__747 : Cond.instanceMethod (⟨"java/lang/IllegalArgumentException", "<init>", "(Ljava/lang/String;)V"⟩ : MethodName) ∈ WG := List.mem_filter.mpr ⟨wr_1 _ (List.mem_of_getElem? (i := 218) rfl), rfl⟩
theorem wc_IllegalArgumentException__init__747 : Cond.code (⟨"java/lang/IllegalArgumentException", "<init>", "(Ljava/lang/String;)V"⟩ : MethodName) prog_7_method_2_code 2 none ∈ WG := List.mem_filter.mpr ⟨wr_1 _ (List.mem_of_getElem? (i := 219) rfl), rfl⟩
theorem wl_IllegalArgumentException_7 : Cond.methodLink "java/lang/IllegalArgumentException" 7 (⟨"java/lang/RuntimeException", "<init>", "(Ljava/lang/String;)V"⟩ : MethodName) ∈ WG := List.mem_filter.mpr ⟨wr_1 _ (List.mem_of_getElem? (i := 220) rfl), rfl⟩
theorem wy_IllegalArgumentException_depth : Cond.lays "java/lang/IllegalArgumentException" "java/lang/Throwable" "depth" "I" ∈ WG := List.mem_filter.mpr ⟨wr_1 _ (List.mem_of_getElem? (i := 221) rfl), rfl⟩
theorem wl_X2_166 : Cond.methodLink RX2 166 yX2_number ∈ WG := List.mem_filter.mpr ⟨wr_1 _ (List.mem_of_getElem? (i := 223) rfl), rfl⟩
theorem wi_X2_number : Cond.instanceMethod yX2_number ∈ WG := List.mem_filter.mpr ⟨wr_1 _ (List.mem_of_getElem? (i := 225) rfl), rfl⟩
theorem wc_X2_number : Cond.code yX2_number cX2_number 2 (some .int) ∈ WG := List.mem_filter.mpr ⟨wr_1 _ (List.mem_of_getElem? (i := 226) rfl), rfl⟩
theorem wl_X2_210 : Cond.methodLink RX2 210 yX1_total ∈ WG := List.mem_filter.mpr ⟨wr_1 _ (List.mem_of_getElem? (i := 227) rfl), rfl⟩
theorem wi_X1_total : Cond.instanceMethod yX1_total ∈ WG := List.mem_filter.mpr ⟨wr_1 _ (List.mem_of_getElem? (i := 228) rfl), rfl⟩
theorem wv_X1_total : Cond.selects RX1 yX1_total yX1_total ∈ WG := List.mem_filter.mpr ⟨wr_1 _ (List.mem_of_getElem? (i := 229) rfl), rfl⟩
theorem wc_X1_total : Cond.code yX1_total cX1_total 2 (some .int) ∈ WG := List.mem_filter.mpr ⟨wr_1 _ (List.mem_of_getElem? (i := 230) rfl), rfl⟩
theorem wl_X1_174 : Cond.methodLink RX1 174 yX1_allBurials ∈ WG := List.mem_filter.mpr ⟨wr_1 _ (List.mem_of_getElem? (i := 231) rfl), rfl⟩
theorem wi_X1_allBurials : Cond.instanceMethod yX1_allBurials ∈ WG := List.mem_filter.mpr ⟨wr_1 _ (List.mem_of_getElem? (i := 233) rfl), rfl⟩
theorem wc_X1_allBurials : Cond.code yX1_allBurials cX1_allBurials 3 (some .int) ∈ WG := List.mem_filter.mpr ⟨wr_1 _ (List.mem_of_getElem? (i := 234) rfl), rfl⟩
theorem wl_X1_58 : Cond.methodLink RX1 58 yX1_burialsIn ∈ WG := List.mem_filter.mpr ⟨wr_1 _ (List.mem_of_getElem? (i := 235) rfl), rfl⟩
theorem wi_X1_burialsIn : Cond.instanceMethod yX1_burialsIn ∈ WG := List.mem_filter.mpr ⟨wr_1 _ (List.mem_of_getElem? (i := 237) rfl), rfl⟩
theorem wc_X1_burialsIn : Cond.code yX1_burialsIn cX1_burialsIn 5 (some .int) ∈ WG := List.mem_filter.mpr ⟨wr_1 _ (List.mem_of_getElem? (i := 238) rfl), rfl⟩
theorem wl_X1_178 : Cond.methodLink RX1 178 yX1_allRestingBurials ∈ WG := List.mem_filter.mpr ⟨wr_1 _ (List.mem_of_getElem? (i := 239) rfl), rfl⟩
theorem wi_X1_allRestingBurials : Cond.instanceMethod yX1_allRestingBurials ∈ WG := List.mem_filter.mpr ⟨wr_2 _ (List.mem_of_getElem? (i := 1) rfl), rfl⟩
theorem wc_X1_allRestingBurials : Cond.code yX1_allRestingBurials cX1_allRestingBurials 3 (some .int) ∈ WG := List.mem_filter.mpr ⟨wr_2 _ (List.mem_of_getElem? (i := 2) rfl), rfl⟩
theorem wl_X1_162 : Cond.methodLink RX1 162 yX1_restingBurials ∈ WG := List.mem_filter.mpr ⟨wr_2 _ (List.mem_of_getElem? (i := 3) rfl), rfl⟩
theorem wi_X1_restingBurials : Cond.instanceMethod yX1_restingBurials ∈ WG := List.mem_filter.mpr ⟨wr_2 _ (List.mem_of_getElem? (i := 4) rfl), rfl⟩
theorem wv_X1_restingBurials : Cond.selects RX1 yX1_restingBurials yX1_restingBurials ∈ WG := List.mem_filter.mpr ⟨wr_2 _ (List.mem_of_getElem? (i := 5) rfl), rfl⟩
theorem wc_X1_restingBurials : Cond.code yX1_restingBurials cX1_restingBurials 5 (some .int) ∈ WG := List.mem_filter.mpr ⟨wr_2 _ (List.mem_of_getElem? (i := 6) rfl), rfl⟩
theorem wl_X1_100 : Cond.methodLink RX1 100 yX1_isResting ∈ WG := List.mem_filter.mpr ⟨wr_2 _ (List.mem_of_getElem? (i := 7) rfl), rfl⟩
theorem wi_X1_isResting : Cond.instanceMethod yX1_isResting ∈ WG := List.mem_filter.mpr ⟨wr_2 _ (List.mem_of_getElem? (i := 9) rfl), rfl⟩
theorem wc_X1_isResting : Cond.code yX1_isResting cX1_isResting 3 (some .boolean) ∈ WG := List.mem_filter.mpr ⟨wr_2 _ (List.mem_of_getElem? (i := 10) rfl), rfl⟩
theorem wl_X1_97 : Cond.methodLink RX1 97 yX1_endOfRest ∈ WG := List.mem_filter.mpr ⟨wr_2 _ (List.mem_of_getElem? (i := 11) rfl), rfl⟩
theorem wi_X1_endOfRest : Cond.instanceMethod yX1_endOfRest ∈ WG := List.mem_filter.mpr ⟨wr_2 _ (List.mem_of_getElem? (i := 13) rfl), rfl⟩
theorem wc_X1_endOfRest : Cond.code yX1_endOfRest cX1_endOfRest 2 (some .int) ∈ WG := List.mem_filter.mpr ⟨wr_2 _ (List.mem_of_getElem? (i := 14) rfl), rfl⟩
theorem wf_X1_94 : Cond.fieldLink RX1 94 "BurialGround$Ledger" "YEARS_OF_REST" "[I" ∈ WG := List.mem_filter.mpr ⟨wr_2 _ (List.mem_of_getElem? (i := 15) rfl), rfl⟩
theorem wl_X1_131 : Cond.methodLink RX1 131 yX1_soilPlots ∈ WG := List.mem_filter.mpr ⟨wr_2 _ (List.mem_of_getElem? (i := 17) rfl), rfl⟩
theorem wi_X1_soilPlots : Cond.instanceMethod yX1_soilPlots ∈ WG := List.mem_filter.mpr ⟨wr_2 _ (List.mem_of_getElem? (i := 19) rfl), rfl⟩
theorem wc_X1_soilPlots : Cond.code yX1_soilPlots cX1_soilPlots 4 (some .long) ∈ WG := List.mem_filter.mpr ⟨wr_2 _ (List.mem_of_getElem? (i := 20) rfl), rfl⟩
theorem wl_X1_114 : Cond.methodLink RX1 114 yX1_bitOf ∈ WG := List.mem_filter.mpr ⟨wr_2 _ (List.mem_of_getElem? (i := 21) rfl), rfl⟩
theorem wt_X1_bitOf : Cond.static yX1_bitOf ∈ WG := List.mem_filter.mpr ⟨wr_2 _ (List.mem_of_getElem? (i := 22) rfl), rfl⟩
theorem wc_X1_bitOf : Cond.code yX1_bitOf cX1_bitOf 1 (some .long) ∈ WG := List.mem_filter.mpr ⟨wr_2 _ (List.mem_of_getElem? (i := 23) rfl), rfl⟩
theorem wl_X1_122 : Cond.methodLink RX1 122 yX1_openPlots ∈ WG := List.mem_filter.mpr ⟨wr_2 _ (List.mem_of_getElem? (i := 24) rfl), rfl⟩
theorem wi_X1_openPlots : Cond.instanceMethod yX1_openPlots ∈ WG := List.mem_filter.mpr ⟨wr_2 _ (List.mem_of_getElem? (i := 26) rfl), rfl⟩
theorem wc_X1_openPlots : Cond.code yX1_openPlots cX1_openPlots 4 (some .long) ∈ WG := List.mem_filter.mpr ⟨wr_2 _ (List.mem_of_getElem? (i := 27) rfl), rfl⟩
theorem wl_X1_134 : Cond.methodLink RX1 134 yJ13_bitCount_95d88 ∈ WG := List.mem_filter.mpr ⟨wr_2 _ (List.mem_of_getElem? (i := 28) rfl), rfl⟩
theorem wt_J13_bitCount_95d88 : Cond.static yJ13_bitCount_95d88 ∈ WG := List.mem_filter.mpr ⟨wr_2 _ (List.mem_of_getElem? (i := 29) rfl), rfl⟩
theorem wc_J13_bitCount_95d88 : Cond.code yJ13_bitCount_95d88 cJ13_bitCount_95d88 2 (some .int) ∈ WG := List.mem_filter.mpr ⟨wr_2 _ (List.mem_of_getElem? (i := 30) rfl), rfl⟩
theorem wq_J13_314 : Cond.constantLong RJ13 314 (6148914691236517205) ∈ WG := List.mem_filter.mpr ⟨wr_2 _ (List.mem_of_getElem? (i := 31) rfl), rfl⟩
theorem wq_J13_316 : Cond.constantLong RJ13 316 (3689348814741910323) ∈ WG := List.mem_filter.mpr ⟨wr_2 _ (List.mem_of_getElem? (i := 32) rfl), rfl⟩
theorem wq_J13_318 : Cond.constantLong RJ13 318 (1085102592571150095) ∈ WG := List.mem_filter.mpr ⟨wr_2 _ (List.mem_of_getElem? (i := 33) rfl), rfl⟩
theorem wq_X1_126 : Cond.constantLong RX1 126 (-1) ∈ WG := List.mem_filter.mpr ⟨wr_2 _ (List.mem_of_getElem? (i := 34) rfl), rfl⟩
theorem wl_X1_181 : Cond.methodLink RX1 181 yX1_lastingReservations ∈ WG := List.mem_filter.mpr ⟨wr_2 _ (List.mem_of_getElem? (i := 35) rfl), rfl⟩
theorem wi_X1_lastingReservations : Cond.instanceMethod yX1_lastingReservations ∈ WG := List.mem_filter.mpr ⟨wr_2 _ (List.mem_of_getElem? (i := 36) rfl), rfl⟩
theorem wv_X1_lastingReservations : Cond.selects RX1 yX1_lastingReservations yX1_lastingReservations ∈ WG := List.mem_filter.mpr ⟨wr_2 _ (List.mem_of_getElem? (i := 37) rfl), rfl⟩
theorem wc_X1_lastingReservations : Cond.code yX1_lastingReservations cX1_lastingReservations 3 (some .int) ∈ WG := List.mem_filter.mpr ⟨wr_2 _ (List.mem_of_getElem? (i := 38) rfl), rfl⟩
theorem wl_X1_108 : Cond.methodLink RX1 108 yX1_isReservedIn ∈ WG := List.mem_filter.mpr ⟨wr_2 _ (List.mem_of_getElem? (i := 39) rfl), rfl⟩
theorem wi_X1_isReservedIn : Cond.instanceMethod yX1_isReservedIn ∈ WG := List.mem_filter.mpr ⟨wr_2 _ (List.mem_of_getElem? (i := 41) rfl), rfl⟩
theorem wc_X1_isReservedIn : Cond.code yX1_isReservedIn cX1_isReservedIn 3 (some .boolean) ∈ WG := List.mem_filter.mpr ⟨wr_2 _ (List.mem_of_getElem? (i := 42) rfl), rfl⟩
theorem wl_X1_184 : Cond.methodLink RX1 184 yX1_allVaults ∈ WG := List.mem_filter.mpr ⟨wr_2 _ (List.mem_of_getElem? (i := 43) rfl), rfl⟩
theorem wi_X1_allVaults : Cond.instanceMethod yX1_allVaults ∈ WG := List.mem_filter.mpr ⟨wr_2 _ (List.mem_of_getElem? (i := 45) rfl), rfl⟩
theorem wc_X1_allVaults : Cond.code yX1_allVaults cX1_allVaults 3 (some .int) ∈ WG := List.mem_filter.mpr ⟨wr_2 _ (List.mem_of_getElem? (i := 46) rfl), rfl⟩
theorem wl_X1_171 : Cond.methodLink RX1 171 yX1_vaultsOf ∈ WG := List.mem_filter.mpr ⟨wr_2 _ (List.mem_of_getElem? (i := 47) rfl), rfl⟩
theorem wi_X1_vaultsOf : Cond.instanceMethod yX1_vaultsOf ∈ WG := List.mem_filter.mpr ⟨wr_2 _ (List.mem_of_getElem? (i := 49) rfl), rfl⟩
theorem wc_X1_vaultsOf : Cond.code yX1_vaultsOf cX1_vaultsOf 4 (some .int) ∈ WG := List.mem_filter.mpr ⟨wr_2 _ (List.mem_of_getElem? (i := 50) rfl), rfl⟩
theorem wl_X1_187 : Cond.methodLink RX1 187 yX1_allPaid ∈ WG := List.mem_filter.mpr ⟨wr_2 _ (List.mem_of_getElem? (i := 51) rfl), rfl⟩
theorem wi_X1_allPaid : Cond.instanceMethod yX1_allPaid ∈ WG := List.mem_filter.mpr ⟨wr_2 _ (List.mem_of_getElem? (i := 53) rfl), rfl⟩
theorem wc_X1_allPaid : Cond.code yX1_allPaid cX1_allPaid 3 (some .int) ∈ WG := List.mem_filter.mpr ⟨wr_2 _ (List.mem_of_getElem? (i := 54) rfl), rfl⟩
theorem wl_L_152 : Cond.methodLink RL 152 yL_cell ∈ WG := List.mem_filter.mpr ⟨wr_2 _ (List.mem_of_getElem? (i := 55) rfl), rfl⟩
theorem wt_L_cell : Cond.static yL_cell ∈ WG := List.mem_filter.mpr ⟨wr_2 _ (List.mem_of_getElem? (i := 56) rfl), rfl⟩
theorem wc_L_cell : Cond.code yL_cell method_2_code 2 (some .int) ∈ WG := List.mem_filter.mpr ⟨wr_2 _ (List.mem_of_getElem? (i := 57) rfl), rfl⟩
theorem wl_L_74 : Cond.methodLink RL 74 yL_at ∈ WG := List.mem_filter.mpr ⟨wr_2 _ (List.mem_of_getElem? (i := 59) rfl), rfl⟩
theorem wt_L_at : Cond.static yL_at ∈ WG := List.mem_filter.mpr ⟨wr_2 _ (List.mem_of_getElem? (i := 60) rfl), rfl⟩
theorem wc_L_at : Cond.code yL_at method_3_code 2 (some .int) ∈ WG := List.mem_filter.mpr ⟨wr_2 _ (List.mem_of_getElem? (i := 61) rfl), rfl⟩
theorem wl_L_148 : Cond.methodLink RL 148 yL_told ∈ WG := List.mem_filter.mpr ⟨wr_2 _ (List.mem_of_getElem? (i := 62) rfl), rfl⟩
theorem wt_L_told : Cond.static yL_told ∈ WG := List.mem_filter.mpr ⟨wr_2 _ (List.mem_of_getElem? (i := 63) rfl), rfl⟩
theorem wc_L_told : Cond.code yL_told method_22_code 15 (some .boolean) ∈ WG := List.mem_filter.mpr ⟨wr_2 _ (List.mem_of_getElem? (i := 64) rfl), rfl⟩
theorem wl_L_70 : Cond.methodLink RL 70 yL_spread ∈ WG := List.mem_filter.mpr ⟨wr_2 _ (List.mem_of_getElem? (i := 65) rfl), rfl⟩
theorem wt_L_spread : Cond.static yL_spread ∈ WG := List.mem_filter.mpr ⟨wr_2 _ (List.mem_of_getElem? (i := 66) rfl), rfl⟩
theorem wc_L_spread : Cond.code yL_spread method_15_code 6 none ∈ WG := List.mem_filter.mpr ⟨wr_2 _ (List.mem_of_getElem? (i := 67) rfl), rfl⟩
theorem wl_L_38 : Cond.methodLink RL 38 yL_buried ∈ WG := List.mem_filter.mpr ⟨wr_2 _ (List.mem_of_getElem? (i := 68) rfl), rfl⟩
theorem wt_L_buried : Cond.static yL_buried ∈ WG := List.mem_filter.mpr ⟨wr_2 _ (List.mem_of_getElem? (i := 69) rfl), rfl⟩
theorem wc_L_buried : Cond.code yL_buried method_8_code 2 (some .int) ∈ WG := List.mem_filter.mpr ⟨wr_2 _ (List.mem_of_getElem? (i := 70) rfl), rfl⟩
theorem wl_L_14 : Cond.methodLink RL 14 yL_isThere ∈ WG := List.mem_filter.mpr ⟨wr_2 _ (List.mem_of_getElem? (i := 71) rfl), rfl⟩
theorem wt_L_isThere : Cond.static yL_isThere ∈ WG := List.mem_filter.mpr ⟨wr_2 _ (List.mem_of_getElem? (i := 72) rfl), rfl⟩
theorem wc_L_isThere : Cond.code yL_isThere method_7_code 3 (some .boolean) ∈ WG := List.mem_filter.mpr ⟨wr_2 _ (List.mem_of_getElem? (i := 73) rfl), rfl⟩
theorem wl_L_42 : Cond.methodLink RL 42 yL_beside ∈ WG := List.mem_filter.mpr ⟨wr_2 _ (List.mem_of_getElem? (i := 74) rfl), rfl⟩
theorem wt_L_beside : Cond.static yL_beside ∈ WG := List.mem_filter.mpr ⟨wr_2 _ (List.mem_of_getElem? (i := 75) rfl), rfl⟩
theorem wc_L_beside : Cond.code yL_beside method_16_code 3 (some .boolean) ∈ WG := List.mem_filter.mpr ⟨wr_2 _ (List.mem_of_getElem? (i := 76) rfl), rfl⟩
theorem wl_L_77 : Cond.methodLink RL 77 yL_plots ∈ WG := List.mem_filter.mpr ⟨wr_2 _ (List.mem_of_getElem? (i := 77) rfl), rfl⟩
theorem wt_L_plots : Cond.static yL_plots ∈ WG := List.mem_filter.mpr ⟨wr_2 _ (List.mem_of_getElem? (i := 78) rfl), rfl⟩
theorem wc_L_plots : Cond.code yL_plots method_21_code 12 (some .boolean) ∈ WG := List.mem_filter.mpr ⟨wr_2 _ (List.mem_of_getElem? (i := 79) rfl), rfl⟩
theorem wl_L_22 : Cond.methodLink RL 22 yL_when ∈ WG := List.mem_filter.mpr ⟨wr_2 _ (List.mem_of_getElem? (i := 80) rfl), rfl⟩
theorem wt_L_when : Cond.static yL_when ∈ WG := List.mem_filter.mpr ⟨wr_2 _ (List.mem_of_getElem? (i := 81) rfl), rfl⟩
theorem wc_L_when : Cond.code yL_when method_10_code 3 (some .int) ∈ WG := List.mem_filter.mpr ⟨wr_2 _ (List.mem_of_getElem? (i := 82) rfl), rfl⟩
theorem wq_L_20 : Cond.constantLong RL 20 (2047) ∈ WG := List.mem_filter.mpr ⟨wr_2 _ (List.mem_of_getElem? (i := 83) rfl), rfl⟩
theorem wl_L_26 : Cond.methodLink RL 26 yL_rest ∈ WG := List.mem_filter.mpr ⟨wr_2 _ (List.mem_of_getElem? (i := 84) rfl), rfl⟩
theorem wt_L_rest : Cond.static yL_rest ∈ WG := List.mem_filter.mpr ⟨wr_2 _ (List.mem_of_getElem? (i := 85) rfl), rfl⟩
theorem wc_L_rest : Cond.code yL_rest method_11_code 2 (some .int) ∈ WG := List.mem_filter.mpr ⟨wr_2 _ (List.mem_of_getElem? (i := 86) rfl), rfl⟩
theorem wl_L_56 : Cond.methodLink RL 56 yX2_burial ∈ WG := List.mem_filter.mpr ⟨wr_2 _ (List.mem_of_getElem? (i := 87) rfl), rfl⟩
theorem wi_X2_burial : Cond.instanceMethod yX2_burial ∈ WG := List.mem_filter.mpr ⟨wr_2 _ (List.mem_of_getElem? (i := 88) rfl), rfl⟩
theorem wv_X2_burial : Cond.selects RX2 yX2_burial yX2_burial ∈ WG := List.mem_filter.mpr ⟨wr_2 _ (List.mem_of_getElem? (i := 89) rfl), rfl⟩
theorem wc_X2_burial : Cond.code yX2_burial cX2_burial 4 (some .int) ∈ WG := List.mem_filter.mpr ⟨wr_2 _ (List.mem_of_getElem? (i := 90) rfl), rfl⟩
theorem wl_X2_38 : Cond.methodLink RX2 38 yX2_needPlot ∈ WG := List.mem_filter.mpr ⟨wr_2 _ (List.mem_of_getElem? (i := 91) rfl), rfl⟩
theorem wt_X2_needPlot : Cond.static yX2_needPlot ∈ WG := List.mem_filter.mpr ⟨wr_2 _ (List.mem_of_getElem? (i := 92) rfl), rfl⟩
theorem wc_X2_needPlot : Cond.code yX2_needPlot cX2_needPlot 1 none ∈ WG := List.mem_filter.mpr ⟨wr_2 _ (List.mem_of_getElem? (i := 93) rfl), rfl⟩
theorem wl_X2_155 : Cond.methodLink RX2 155 yX2_isDepth ∈ WG := List.mem_filter.mpr ⟨wr_2 _ (List.mem_of_getElem? (i := 95) rfl), rfl⟩
theorem wt_X2_isDepth : Cond.static yX2_isDepth ∈ WG := List.mem_filter.mpr ⟨wr_2 _ (List.mem_of_getElem? (i := 96) rfl), rfl⟩
theorem wc_X2_isDepth : Cond.code yX2_isDepth cX2_isDepth 1 (some .boolean) ∈ WG := List.mem_filter.mpr ⟨wr_2 _ (List.mem_of_getElem? (i := 97) rfl), rfl⟩
theorem wl_X2_160 : Cond.methodLink RX2 160 yX1_burialProperty ∈ WG := List.mem_filter.mpr ⟨wr_2 _ (List.mem_of_getElem? (i := 99) rfl), rfl⟩
theorem wi_X1_burialProperty : Cond.instanceMethod yX1_burialProperty ∈ WG := List.mem_filter.mpr ⟨wr_2 _ (List.mem_of_getElem? (i := 100) rfl), rfl⟩
theorem wv_X1_burialProperty : Cond.selects RX1 yX1_burialProperty yX1_burialProperty ∈ WG := List.mem_filter.mpr ⟨wr_2 _ (List.mem_of_getElem? (i := 101) rfl), rfl⟩
theorem wc_X1_burialProperty : Cond.code yX1_burialProperty cX1_burialProperty 5 (some .int) ∈ WG := List.mem_filter.mpr ⟨wr_2 _ (List.mem_of_getElem? (i := 102) rfl), rfl⟩
theorem wl_X1_62 : Cond.methodLink RX1 62 yX1_placeOf ∈ WG := List.mem_filter.mpr ⟨wr_2 _ (List.mem_of_getElem? (i := 103) rfl), rfl⟩
theorem wt_X1_placeOf : Cond.static yX1_placeOf ∈ WG := List.mem_filter.mpr ⟨wr_2 _ (List.mem_of_getElem? (i := 104) rfl), rfl⟩
theorem wc_X1_placeOf : Cond.code yX1_placeOf cX1_placeOf 2 (some .int) ∈ WG := List.mem_filter.mpr ⟨wr_2 _ (List.mem_of_getElem? (i := 105) rfl), rfl⟩
theorem wl_L_29 : Cond.methodLink RL 29 yL_who ∈ WG := List.mem_filter.mpr ⟨wr_2 _ (List.mem_of_getElem? (i := 106) rfl), rfl⟩
theorem wt_L_who : Cond.static yL_who ∈ WG := List.mem_filter.mpr ⟨wr_2 _ (List.mem_of_getElem? (i := 107) rfl), rfl⟩
theorem wc_L_who : Cond.code yL_who method_9_code 3 (some .int) ∈ WG := List.mem_filter.mpr ⟨wr_2 _ (List.mem_of_getElem? (i := 108) rfl), rfl⟩
theorem wq_L_18 : Cond.constantLong RL 18 (15) ∈ WG := List.mem_filter.mpr ⟨wr_2 _ (List.mem_of_getElem? (i := 109) rfl), rfl⟩
theorem wl_L_62 : Cond.methodLink RL 62 yX2_plot ∈ WG := List.mem_filter.mpr ⟨wr_2 _ (List.mem_of_getElem? (i := 110) rfl), rfl⟩
theorem wi_X2_plot : Cond.instanceMethod yX2_plot ∈ WG := List.mem_filter.mpr ⟨wr_2 _ (List.mem_of_getElem? (i := 111) rfl), rfl⟩
theorem wv_X2_plot : Cond.selects RX2 yX2_plot yX2_plot ∈ WG := List.mem_filter.mpr ⟨wr_2 _ (List.mem_of_getElem? (i := 112) rfl), rfl⟩
theorem wc_X2_plot : Cond.code yX2_plot cX2_plot 3 (some .int) ∈ WG := List.mem_filter.mpr ⟨wr_2 _ (List.mem_of_getElem? (i := 113) rfl), rfl⟩
theorem wl_X2_152 : Cond.methodLink RX2 152 yX1_plotProperty ∈ WG := List.mem_filter.mpr ⟨wr_2 _ (List.mem_of_getElem? (i := 114) rfl), rfl⟩
theorem wi_X1_plotProperty : Cond.instanceMethod yX1_plotProperty ∈ WG := List.mem_filter.mpr ⟨wr_2 _ (List.mem_of_getElem? (i := 115) rfl), rfl⟩
theorem wv_X1_plotProperty : Cond.selects RX1 yX1_plotProperty yX1_plotProperty ∈ WG := List.mem_filter.mpr ⟨wr_2 _ (List.mem_of_getElem? (i := 116) rfl), rfl⟩
theorem wc_X1_plotProperty : Cond.code yX1_plotProperty cX1_plotProperty 3 (some .int) ∈ WG := List.mem_filter.mpr ⟨wr_2 _ (List.mem_of_getElem? (i := 117) rfl), rfl⟩
theorem wl_X1_74 : Cond.methodLink RX1 74 yX1_holder ∈ WG := List.mem_filter.mpr ⟨wr_2 _ (List.mem_of_getElem? (i := 118) rfl), rfl⟩
theorem wi_X1_holder : Cond.instanceMethod yX1_holder ∈ WG := List.mem_filter.mpr ⟨wr_2 _ (List.mem_of_getElem? (i := 120) rfl), rfl⟩
theorem wc_X1_holder : Cond.code yX1_holder cX1_holder 5 (some .int) ∈ WG := List.mem_filter.mpr ⟨wr_2 _ (List.mem_of_getElem? (i := 121) rfl), rfl⟩
theorem wl_X1_87 : Cond.methodLink RX1 87 yX1_isReached ∈ WG := List.mem_filter.mpr ⟨wr_2 _ (List.mem_of_getElem? (i := 122) rfl), rfl⟩
theorem wi_X1_isReached : Cond.instanceMethod yX1_isReached ∈ WG := List.mem_filter.mpr ⟨wr_2 _ (List.mem_of_getElem? (i := 124) rfl), rfl⟩
theorem wc_X1_isReached : Cond.code yX1_isReached cX1_isReached 2 (some .boolean) ∈ WG := List.mem_filter.mpr ⟨wr_2 _ (List.mem_of_getElem? (i := 125) rfl), rfl⟩
theorem wl_X1_140 : Cond.methodLink RX1 140 yX1_greatestDepth ∈ WG := List.mem_filter.mpr ⟨wr_2 _ (List.mem_of_getElem? (i := 126) rfl), rfl⟩
theorem wi_X1_greatestDepth : Cond.instanceMethod yX1_greatestDepth ∈ WG := List.mem_filter.mpr ⟨wr_2 _ (List.mem_of_getElem? (i := 128) rfl), rfl⟩
theorem wc_X1_greatestDepth : Cond.code yX1_greatestDepth cX1_greatestDepth 2 (some .int) ∈ WG := List.mem_filter.mpr ⟨wr_2 _ (List.mem_of_getElem? (i := 129) rfl), rfl⟩
theorem wf_X1_111 : Cond.fieldLink RX1 111 "BurialGround$Ledger" "GREATEST_DEPTH" "[I" ∈ WG := List.mem_filter.mpr ⟨wr_2 _ (List.mem_of_getElem? (i := 130) rfl), rfl⟩
theorem wl_L_46 : Cond.methodLink RL 46 yL_holder ∈ WG := List.mem_filter.mpr ⟨wr_2 _ (List.mem_of_getElem? (i := 132) rfl), rfl⟩
theorem wt_L_holder : Cond.static yL_holder ∈ WG := List.mem_filter.mpr ⟨wr_2 _ (List.mem_of_getElem? (i := 133) rfl), rfl⟩
theorem wc_L_holder : Cond.code yL_holder method_13_code 6 (some .int) ∈ WG := List.mem_filter.mpr ⟨wr_2 _ (List.mem_of_getElem? (i := 134) rfl), rfl⟩
theorem wl_L_8 : Cond.methodLink RL 8 yL_keeps ∈ WG := List.mem_filter.mpr ⟨wr_2 _ (List.mem_of_getElem? (i := 135) rfl), rfl⟩
theorem wt_L_keeps : Cond.static yL_keeps ∈ WG := List.mem_filter.mpr ⟨wr_2 _ (List.mem_of_getElem? (i := 136) rfl), rfl⟩
theorem wc_L_keeps : Cond.code yL_keeps method_5_code 2 (some .int) ∈ WG := List.mem_filter.mpr ⟨wr_2 _ (List.mem_of_getElem? (i := 137) rfl), rfl⟩
theorem wl_L_32 : Cond.methodLink RL 32 yL_upto ∈ WG := List.mem_filter.mpr ⟨wr_2 _ (List.mem_of_getElem? (i := 138) rfl), rfl⟩
theorem wt_L_upto : Cond.static yL_upto ∈ WG := List.mem_filter.mpr ⟨wr_2 _ (List.mem_of_getElem? (i := 139) rfl), rfl⟩
theorem wc_L_upto : Cond.code yL_upto method_6_code 2 (some .int) ∈ WG := List.mem_filter.mpr ⟨wr_2 _ (List.mem_of_getElem? (i := 140) rfl), rfl⟩
theorem wl_L_35 : Cond.methodLink RL 35 yL_vault ∈ WG := List.mem_filter.mpr ⟨wr_2 _ (List.mem_of_getElem? (i := 141) rfl), rfl⟩
theorem wt_L_vault : Cond.static yL_vault ∈ WG := List.mem_filter.mpr ⟨wr_2 _ (List.mem_of_getElem? (i := 142) rfl), rfl⟩
theorem wc_L_vault : Cond.code yL_vault method_4_code 2 (some .int) ∈ WG := List.mem_filter.mpr ⟨wr_2 _ (List.mem_of_getElem? (i := 143) rfl), rfl⟩
theorem wl_L_53 : Cond.methodLink RL 53 yL_fresh ∈ WG := List.mem_filter.mpr ⟨wr_2 _ (List.mem_of_getElem? (i := 144) rfl), rfl⟩
theorem wt_L_fresh : Cond.static yL_fresh ∈ WG := List.mem_filter.mpr ⟨wr_2 _ (List.mem_of_getElem? (i := 145) rfl), rfl⟩
theorem wc_L_fresh : Cond.code yL_fresh method_12_code 6 (some .int) ∈ WG := List.mem_filter.mpr ⟨wr_2 _ (List.mem_of_getElem? (i := 146) rfl), rfl⟩
theorem wl_L_50 : Cond.methodLink RL 50 yL_most ∈ WG := List.mem_filter.mpr ⟨wr_2 _ (List.mem_of_getElem? (i := 147) rfl), rfl⟩
theorem wt_L_most : Cond.static yL_most ∈ WG := List.mem_filter.mpr ⟨wr_2 _ (List.mem_of_getElem? (i := 148) rfl), rfl⟩
theorem wc_L_most : Cond.code yL_most method_14_code 3 (some .int) ∈ WG := List.mem_filter.mpr ⟨wr_2 _ (List.mem_of_getElem? (i := 149) rfl), rfl⟩
theorem wl_L_66 : Cond.methodLink RL 66 yX2_clearYear ∈ WG := List.mem_filter.mpr ⟨wr_2 _ (List.mem_of_getElem? (i := 150) rfl), rfl⟩
theorem wi_X2_clearYear : Cond.instanceMethod yX2_clearYear ∈ WG := List.mem_filter.mpr ⟨wr_2 _ (List.mem_of_getElem? (i := 151) rfl), rfl⟩
theorem wv_X2_clearYear : Cond.selects RX2 yX2_clearYear yX2_clearYear ∈ WG := List.mem_filter.mpr ⟨wr_2 _ (List.mem_of_getElem? (i := 152) rfl), rfl⟩
theorem wc_X2_clearYear : Cond.code yX2_clearYear cX2_clearYear 2 (some .int) ∈ WG := List.mem_filter.mpr ⟨wr_2 _ (List.mem_of_getElem? (i := 153) rfl), rfl⟩
theorem wl_X2_175 : Cond.methodLink RX2 175 yX1_yearOfRest ∈ WG := List.mem_filter.mpr ⟨wr_2 _ (List.mem_of_getElem? (i := 154) rfl), rfl⟩
theorem wi_X1_yearOfRest : Cond.instanceMethod yX1_yearOfRest ∈ WG := List.mem_filter.mpr ⟨wr_2 _ (List.mem_of_getElem? (i := 155) rfl), rfl⟩
theorem wv_X1_yearOfRest : Cond.selects RX1 yX1_yearOfRest yX1_yearOfRest ∈ WG := List.mem_filter.mpr ⟨wr_2 _ (List.mem_of_getElem? (i := 156) rfl), rfl⟩
theorem wc_X1_yearOfRest : Cond.code yX1_yearOfRest cX1_yearOfRest 5 (some .int) ∈ WG := List.mem_filter.mpr ⟨wr_2 _ (List.mem_of_getElem? (i := 157) rfl), rfl⟩
theorem wl_X1_103 : Cond.methodLink RX1 103 yJ9_max_7cf53 ∈ WG := List.mem_filter.mpr ⟨wr_2 _ (List.mem_of_getElem? (i := 158) rfl), rfl⟩
theorem wt_J9_max_7cf53 : Cond.static yJ9_max_7cf53 ∈ WG := List.mem_filter.mpr ⟨wr_2 _ (List.mem_of_getElem? (i := 159) rfl), rfl⟩
theorem wc_J9_max_7cf53 : Cond.code yJ9_max_7cf53 cJ9_max_7cf53 2 (some .int) ∈ WG := List.mem_filter.mpr ⟨wr_2 _ (List.mem_of_getElem? (i := 160) rfl), rfl⟩
theorem wl_L_84 : Cond.methodLink RL 84 yL_counted ∈ WG := List.mem_filter.mpr ⟨wr_2 _ (List.mem_of_getElem? (i := 161) rfl), rfl⟩
theorem wt_L_counted : Cond.static yL_counted ∈ WG := List.mem_filter.mpr ⟨wr_2 _ (List.mem_of_getElem? (i := 162) rfl), rfl⟩
theorem wc_L_counted : Cond.code yL_counted method_20_code 8 (some .int) ∈ WG := List.mem_filter.mpr ⟨wr_2 _ (List.mem_of_getElem? (i := 163) rfl), rfl⟩
theorem wl_L_88 : Cond.methodLink RL 88 yX2_meanFee ∈ WG := List.mem_filter.mpr ⟨wr_2 _ (List.mem_of_getElem? (i := 164) rfl), rfl⟩
theorem wi_X2_meanFee : Cond.instanceMethod yX2_meanFee ∈ WG := List.mem_filter.mpr ⟨wr_2 _ (List.mem_of_getElem? (i := 165) rfl), rfl⟩
theorem wv_X2_meanFee : Cond.selects RX2 yX2_meanFee yX2_meanFee ∈ WG := List.mem_filter.mpr ⟨wr_2 _ (List.mem_of_getElem? (i := 166) rfl), rfl⟩
theorem wc_X2_meanFee : Cond.code yX2_meanFee cX2_meanFee 1 (some .double) ∈ WG := List.mem_filter.mpr ⟨wr_2 _ (List.mem_of_getElem? (i := 167) rfl), rfl⟩
theorem wl_X2_181 : Cond.methodLink RX2 181 yX1_meanOfFees ∈ WG := List.mem_filter.mpr ⟨wr_2 _ (List.mem_of_getElem? (i := 168) rfl), rfl⟩
theorem wi_X1_meanOfFees : Cond.instanceMethod yX1_meanOfFees ∈ WG := List.mem_filter.mpr ⟨wr_2 _ (List.mem_of_getElem? (i := 169) rfl), rfl⟩
theorem wv_X1_meanOfFees : Cond.selects RX1 yX1_meanOfFees yX1_meanOfFees ∈ WG := List.mem_filter.mpr ⟨wr_2 _ (List.mem_of_getElem? (i := 170) rfl), rfl⟩
theorem wc_X1_meanOfFees : Cond.code yX1_meanOfFees cX1_meanOfFees 4 (some .double) ∈ WG := List.mem_filter.mpr ⟨wr_2 _ (List.mem_of_getElem? (i := 171) rfl), rfl⟩
theorem wl_L_92 : Cond.methodLink RL 92 yX2_family ∈ WG := List.mem_filter.mpr ⟨wr_2 _ (List.mem_of_getElem? (i := 172) rfl), rfl⟩
theorem wi_X2_family : Cond.instanceMethod yX2_family ∈ WG := List.mem_filter.mpr ⟨wr_2 _ (List.mem_of_getElem? (i := 173) rfl), rfl⟩
theorem wv_X2_family : Cond.selects RX2 yX2_family yX2_family ∈ WG := List.mem_filter.mpr ⟨wr_2 _ (List.mem_of_getElem? (i := 174) rfl), rfl⟩
theorem wc_X2_family : Cond.code yX2_family cX2_family 3 (some .int) ∈ WG := List.mem_filter.mpr ⟨wr_2 _ (List.mem_of_getElem? (i := 175) rfl), rfl⟩
theorem wl_X2_163 : Cond.methodLink RX2 163 yX1_familyProperty ∈ WG := List.mem_filter.mpr ⟨wr_2 _ (List.mem_of_getElem? (i := 176) rfl), rfl⟩
theorem wi_X1_familyProperty : Cond.instanceMethod yX1_familyProperty ∈ WG := List.mem_filter.mpr ⟨wr_2 _ (List.mem_of_getElem? (i := 177) rfl), rfl⟩
theorem wv_X1_familyProperty : Cond.selects RX1 yX1_familyProperty yX1_familyProperty ∈ WG := List.mem_filter.mpr ⟨wr_2 _ (List.mem_of_getElem? (i := 178) rfl), rfl⟩
theorem wc_X1_familyProperty : Cond.code yX1_familyProperty cX1_familyProperty 3 (some .int) ∈ WG := List.mem_filter.mpr ⟨wr_2 _ (List.mem_of_getElem? (i := 179) rfl), rfl⟩
theorem wl_X1_165 : Cond.methodLink RX1 165 yX1_burialsOf ∈ WG := List.mem_filter.mpr ⟨wr_2 _ (List.mem_of_getElem? (i := 180) rfl), rfl⟩
theorem wi_X1_burialsOf : Cond.instanceMethod yX1_burialsOf ∈ WG := List.mem_filter.mpr ⟨wr_2 _ (List.mem_of_getElem? (i := 182) rfl), rfl⟩
theorem wc_X1_burialsOf : Cond.code yX1_burialsOf cX1_burialsOf 4 (some .int) ∈ WG := List.mem_filter.mpr ⟨wr_2 _ (List.mem_of_getElem? (i := 183) rfl), rfl⟩
theorem wl_X1_168 : Cond.methodLink RX1 168 yX1_plotsHeldBy ∈ WG := List.mem_filter.mpr ⟨wr_2 _ (List.mem_of_getElem? (i := 184) rfl), rfl⟩
theorem wi_X1_plotsHeldBy : Cond.instanceMethod yX1_plotsHeldBy ∈ WG := List.mem_filter.mpr ⟨wr_2 _ (List.mem_of_getElem? (i := 186) rfl), rfl⟩
theorem wc_X1_plotsHeldBy : Cond.code yX1_plotsHeldBy cX1_plotsHeldBy 4 (some .int) ∈ WG := List.mem_filter.mpr ⟨wr_2 _ (List.mem_of_getElem? (i := 187) rfl), rfl⟩
theorem wl_L_160 : Cond.methodLink RL 160 yL_ahead ∈ WG := List.mem_filter.mpr ⟨wr_2 _ (List.mem_of_getElem? (i := 188) rfl), rfl⟩
theorem wt_L_ahead : Cond.static yL_ahead ∈ WG := List.mem_filter.mpr ⟨wr_2 _ (List.mem_of_getElem? (i := 189) rfl), rfl⟩
theorem wc_L_ahead : Cond.code yL_ahead method_23_code 15 (some .boolean) ∈ WG := List.mem_filter.mpr ⟨wr_2 _ (List.mem_of_getElem? (i := 190) rfl), rfl⟩
theorem wl_L_95 : Cond.methodLink RL 95 yL_why ∈ WG := List.mem_filter.mpr ⟨wr_2 _ (List.mem_of_getElem? (i := 191) rfl), rfl⟩
theorem wt_L_why : Cond.static yL_why ∈ WG := List.mem_filter.mpr ⟨wr_2 _ (List.mem_of_getElem? (i := 192) rfl), rfl⟩
theorem wc_L_why : Cond.code yL_why method_17_code 10 (some .int) ∈ WG := List.mem_filter.mpr ⟨wr_2 _ (List.mem_of_getElem? (i := 193) rfl), rfl⟩
theorem wl_L_99 : Cond.methodLink RL 99 yX2_why ∈ WG := List.mem_filter.mpr ⟨wr_2 _ (List.mem_of_getElem? (i := 194) rfl), rfl⟩
theorem wi_X2_why : Cond.instanceMethod yX2_why ∈ WG := List.mem_filter.mpr ⟨wr_2 _ (List.mem_of_getElem? (i := 195) rfl), rfl⟩
theorem wv_X2_why : Cond.selects RX2 yX2_why yX2_why ∈ WG := List.mem_filter.mpr ⟨wr_2 _ (List.mem_of_getElem? (i := 196) rfl), rfl⟩
theorem wc_X2_why : Cond.code yX2_why cX2_why 4 (some .int) ∈ WG := List.mem_filter.mpr ⟨wr_2 _ (List.mem_of_getElem? (i := 197) rfl), rfl⟩
theorem wl_X2_87 : Cond.methodLink RX2 87 yX2_needDepth ∈ WG := List.mem_filter.mpr ⟨wr_2 _ (List.mem_of_getElem? (i := 198) rfl), rfl⟩
theorem wt_X2_needDepth : Cond.static yX2_needDepth ∈ WG := List.mem_filter.mpr ⟨wr_2 _ (List.mem_of_getElem? (i := 199) rfl), rfl⟩
theorem wc_X2_needDepth : Cond.code yX2_needDepth cX2_needDepth 1 none ∈ WG := List.mem_filter.mpr ⟨wr_2 _ (List.mem_of_getElem? (i := 200) rfl), rfl⟩
theorem wl_X2_90 : Cond.methodLink RX2 90 yX1_refusal ∈ WG := List.mem_filter.mpr ⟨wr_2 _ (List.mem_of_getElem? (i := 202) rfl), rfl⟩
theorem wi_X1_refusal : Cond.instanceMethod yX1_refusal ∈ WG := List.mem_filter.mpr ⟨wr_2 _ (List.mem_of_getElem? (i := 203) rfl), rfl⟩
theorem wv_X1_refusal : Cond.selects RX1 yX1_refusal yX1_refusal ∈ WG := List.mem_filter.mpr ⟨wr_2 _ (List.mem_of_getElem? (i := 204) rfl), rfl⟩
theorem wc_X1_refusal : Cond.code yX1_refusal cX1_refusal 5 (some .int) ∈ WG := List.mem_filter.mpr ⟨wr_2 _ (List.mem_of_getElem? (i := 205) rfl), rfl⟩
theorem wl_X1_77 : Cond.methodLink RX1 77 yX1_isOther ∈ WG := List.mem_filter.mpr ⟨wr_2 _ (List.mem_of_getElem? (i := 206) rfl), rfl⟩
theorem wt_X1_isOther : Cond.static yX1_isOther ∈ WG := List.mem_filter.mpr ⟨wr_2 _ (List.mem_of_getElem? (i := 207) rfl), rfl⟩
theorem wc_X1_isOther : Cond.code yX1_isOther cX1_isOther 2 (some .boolean) ∈ WG := List.mem_filter.mpr ⟨wr_2 _ (List.mem_of_getElem? (i := 208) rfl), rfl⟩
theorem wl_X1_143 : Cond.methodLink RX1 143 yX1_freeDepth ∈ WG := List.mem_filter.mpr ⟨wr_2 _ (List.mem_of_getElem? (i := 209) rfl), rfl⟩
theorem wi_X1_freeDepth : Cond.instanceMethod yX1_freeDepth ∈ WG := List.mem_filter.mpr ⟨wr_2 _ (List.mem_of_getElem? (i := 211) rfl), rfl⟩
theorem wc_X1_freeDepth : Cond.code yX1_freeDepth cX1_freeDepth 4 (some .int) ∈ WG := List.mem_filter.mpr ⟨wr_2 _ (List.mem_of_getElem? (i := 212) rfl), rfl⟩
theorem wl_X1_146 : Cond.methodLink RX1 146 yX1_vaultRefusal ∈ WG := List.mem_filter.mpr ⟨wr_2 _ (List.mem_of_getElem? (i := 213) rfl), rfl⟩
theorem wi_X1_vaultRefusal : Cond.instanceMethod yX1_vaultRefusal ∈ WG := List.mem_filter.mpr ⟨wr_2 _ (List.mem_of_getElem? (i := 215) rfl), rfl⟩
theorem wc_X1_vaultRefusal : Cond.code yX1_vaultRefusal cX1_vaultRefusal 4 (some .int) ∈ WG := List.mem_filter.mpr ⟨wr_2 _ (List.mem_of_getElem? (i := 216) rfl), rfl⟩
theorem wl_X1_149 : Cond.methodLink RX1 149 yX1_latestBurial ∈ WG := List.mem_filter.mpr ⟨wr_2 _ (List.mem_of_getElem? (i := 217) rfl), rfl⟩
theorem wi_X1_latestBurial : Cond.instanceMethod yX1_latestBurial ∈ WG := List.mem_filter.mpr ⟨wr_2 _ (List.mem_of_getElem? (i := 219) rfl), rfl⟩
theorem wc_X1_latestBurial : Cond.code yX1_latestBurial cX1_latestBurial 5 (some .int) ∈ WG := List.mem_filter.mpr ⟨wr_2 _ (List.mem_of_getElem? (i := 220) rfl), rfl⟩
theorem wl_X1_152 : Cond.methodLink RX1 152 yJ9_min_7cf53 ∈ WG := List.mem_filter.mpr ⟨wr_2 _ (List.mem_of_getElem? (i := 221) rfl), rfl⟩
theorem wt_J9_min_7cf53 : Cond.static yJ9_min_7cf53 ∈ WG := List.mem_filter.mpr ⟨wr_2 _ (List.mem_of_getElem? (i := 222) rfl), rfl⟩
theorem wc_J9_min_7cf53 : Cond.code yJ9_min_7cf53 cJ9_min_7cf53 2 (some .int) ∈ WG := List.mem_filter.mpr ⟨wr_2 _ (List.mem_of_getElem? (i := 223) rfl), rfl⟩
theorem wl_L_101 : Cond.methodLink RL 101 yX2_fee ∈ WG := List.mem_filter.mpr ⟨wr_2 _ (List.mem_of_getElem? (i := 224) rfl), rfl⟩
theorem wi_X2_fee : Cond.instanceMethod yX2_fee ∈ WG := List.mem_filter.mpr ⟨wr_2 _ (List.mem_of_getElem? (i := 225) rfl), rfl⟩
theorem wv_X2_fee : Cond.selects RX2 yX2_fee yX2_fee ∈ WG := List.mem_filter.mpr ⟨wr_2 _ (List.mem_of_getElem? (i := 226) rfl), rfl⟩
theorem wc_X2_fee : Cond.code yX2_fee cX2_fee 4 (some .int) ∈ WG := List.mem_filter.mpr ⟨wr_2 _ (List.mem_of_getElem? (i := 227) rfl), rfl⟩
theorem wl_X2_169 : Cond.methodLink RX2 169 yX1_burialFee ∈ WG := List.mem_filter.mpr ⟨wr_2 _ (List.mem_of_getElem? (i := 228) rfl), rfl⟩
theorem wi_X1_burialFee : Cond.instanceMethod yX1_burialFee ∈ WG := List.mem_filter.mpr ⟨wr_2 _ (List.mem_of_getElem? (i := 229) rfl), rfl⟩
theorem wv_X1_burialFee : Cond.selects RX1 yX1_burialFee yX1_burialFee ∈ WG := List.mem_filter.mpr ⟨wr_2 _ (List.mem_of_getElem? (i := 230) rfl), rfl⟩
theorem wc_X1_burialFee : Cond.code yX1_burialFee cX1_burialFee 5 (some .int) ∈ WG := List.mem_filter.mpr ⟨wr_2 _ (List.mem_of_getElem? (i := 231) rfl), rfl⟩
theorem wl_X1_91 : Cond.methodLink RX1 91 yX1_priceFor ∈ WG := List.mem_filter.mpr ⟨wr_2 _ (List.mem_of_getElem? (i := 232) rfl), rfl⟩
theorem wi_X1_priceFor : Cond.instanceMethod yX1_priceFor ∈ WG := List.mem_filter.mpr ⟨wr_2 _ (List.mem_of_getElem? (i := 234) rfl), rfl⟩
theorem wc_X1_priceFor : Cond.code yX1_priceFor cX1_priceFor 3 (some .int) ∈ WG := List.mem_filter.mpr ⟨wr_2 _ (List.mem_of_getElem? (i := 235) rfl), rfl⟩
theorem wl_X1_81 : Cond.methodLink RX1 81 yX1_hasReservation ∈ WG := List.mem_filter.mpr ⟨wr_2 _ (List.mem_of_getElem? (i := 236) rfl), rfl⟩
theorem wi_X1_hasReservation : Cond.instanceMethod yX1_hasReservation ∈ WG := List.mem_filter.mpr ⟨wr_2 _ (List.mem_of_getElem? (i := 238) rfl), rfl⟩
theorem wc_X1_hasReservation : Cond.code yX1_hasReservation cX1_hasReservation 3 (some .boolean) ∈ WG := List.mem_filter.mpr ⟨wr_2 _ (List.mem_of_getElem? (i := 239) rfl), rfl⟩
theorem wl_L_104 : Cond.methodLink RL 104 yL_fee ∈ WG := List.mem_filter.mpr ⟨wr_3 _ (List.mem_of_getElem? (i := 0) rfl), rfl⟩
theorem wt_L_fee : Cond.static yL_fee ∈ WG := List.mem_filter.mpr ⟨wr_3 _ (List.mem_of_getElem? (i := 1) rfl), rfl⟩
theorem wc_L_fee : Cond.code yL_fee method_18_code 6 (some .int) ∈ WG := List.mem_filter.mpr ⟨wr_3 _ (List.mem_of_getElem? (i := 2) rfl), rfl⟩
theorem wl_L_107 : Cond.methodLink RL 107 yX2_yearFor ∈ WG := List.mem_filter.mpr ⟨wr_3 _ (List.mem_of_getElem? (i := 3) rfl), rfl⟩
theorem wi_X2_yearFor : Cond.instanceMethod yX2_yearFor ∈ WG := List.mem_filter.mpr ⟨wr_3 _ (List.mem_of_getElem? (i := 4) rfl), rfl⟩
theorem wv_X2_yearFor : Cond.selects RX2 yX2_yearFor yX2_yearFor ∈ WG := List.mem_filter.mpr ⟨wr_3 _ (List.mem_of_getElem? (i := 5) rfl), rfl⟩
theorem wc_X2_yearFor : Cond.code yX2_yearFor cX2_yearFor 5 (some .int) ∈ WG := List.mem_filter.mpr ⟨wr_3 _ (List.mem_of_getElem? (i := 6) rfl), rfl⟩
theorem wl_L_110 : Cond.methodLink RL 110 yX2_deepest ∈ WG := List.mem_filter.mpr ⟨wr_3 _ (List.mem_of_getElem? (i := 7) rfl), rfl⟩
theorem wi_X2_deepest : Cond.instanceMethod yX2_deepest ∈ WG := List.mem_filter.mpr ⟨wr_3 _ (List.mem_of_getElem? (i := 8) rfl), rfl⟩
theorem wv_X2_deepest : Cond.selects RX2 yX2_deepest yX2_deepest ∈ WG := List.mem_filter.mpr ⟨wr_3 _ (List.mem_of_getElem? (i := 9) rfl), rfl⟩
theorem wc_X2_deepest : Cond.code yX2_deepest cX2_deepest 4 (some .int) ∈ WG := List.mem_filter.mpr ⟨wr_3 _ (List.mem_of_getElem? (i := 10) rfl), rfl⟩
theorem wl_L_113 : Cond.methodLink RL 113 yX2_bestPlot ∈ WG := List.mem_filter.mpr ⟨wr_3 _ (List.mem_of_getElem? (i := 11) rfl), rfl⟩
theorem wi_X2_bestPlot : Cond.instanceMethod yX2_bestPlot ∈ WG := List.mem_filter.mpr ⟨wr_3 _ (List.mem_of_getElem? (i := 12) rfl), rfl⟩
theorem wv_X2_bestPlot : Cond.selects RX2 yX2_bestPlot yX2_bestPlot ∈ WG := List.mem_filter.mpr ⟨wr_3 _ (List.mem_of_getElem? (i := 13) rfl), rfl⟩
theorem wc_X2_bestPlot : Cond.code yX2_bestPlot cX2_bestPlot 2 (some .int) ∈ WG := List.mem_filter.mpr ⟨wr_3 _ (List.mem_of_getElem? (i := 14) rfl), rfl⟩
theorem wl_X2_172 : Cond.methodLink RX2 172 yX1_cheapestPlot ∈ WG := List.mem_filter.mpr ⟨wr_3 _ (List.mem_of_getElem? (i := 15) rfl), rfl⟩
theorem wi_X1_cheapestPlot : Cond.instanceMethod yX1_cheapestPlot ∈ WG := List.mem_filter.mpr ⟨wr_3 _ (List.mem_of_getElem? (i := 16) rfl), rfl⟩
theorem wv_X1_cheapestPlot : Cond.selects RX1 yX1_cheapestPlot yX1_cheapestPlot ∈ WG := List.mem_filter.mpr ⟨wr_3 _ (List.mem_of_getElem? (i := 17) rfl), rfl⟩
theorem wc_X1_cheapestPlot : Cond.code yX1_cheapestPlot cX1_cheapestPlot 7 (some .int) ∈ WG := List.mem_filter.mpr ⟨wr_3 _ (List.mem_of_getElem? (i := 18) rfl), rfl⟩
theorem wl_X1_159 : Cond.methodLink RX1 159 yX1_leastFee ∈ WG := List.mem_filter.mpr ⟨wr_3 _ (List.mem_of_getElem? (i := 19) rfl), rfl⟩
theorem wi_X1_leastFee : Cond.instanceMethod yX1_leastFee ∈ WG := List.mem_filter.mpr ⟨wr_3 _ (List.mem_of_getElem? (i := 21) rfl), rfl⟩
theorem wc_X1_leastFee : Cond.code yX1_leastFee cX1_leastFee 6 (some .int) ∈ WG := List.mem_filter.mpr ⟨wr_3 _ (List.mem_of_getElem? (i := 22) rfl), rfl⟩
theorem wl_X1_155 : Cond.methodLink RX1 155 yX1_refusal ∈ WG := List.mem_filter.mpr ⟨wr_3 _ (List.mem_of_getElem? (i := 23) rfl), rfl⟩
theorem wl_X1_66 : Cond.methodLink RX1 66 yX1_burialFee ∈ WG := List.mem_filter.mpr ⟨wr_3 _ (List.mem_of_getElem? (i := 24) rfl), rfl⟩
theorem wl_L_116 : Cond.methodLink RL 116 yX2_cutsOff ∈ WG := List.mem_filter.mpr ⟨wr_3 _ (List.mem_of_getElem? (i := 25) rfl), rfl⟩
theorem wi_X2_cutsOff : Cond.instanceMethod yX2_cutsOff ∈ WG := List.mem_filter.mpr ⟨wr_3 _ (List.mem_of_getElem? (i := 26) rfl), rfl⟩
theorem wv_X2_cutsOff : Cond.selects RX2 yX2_cutsOff yX2_cutsOff ∈ WG := List.mem_filter.mpr ⟨wr_3 _ (List.mem_of_getElem? (i := 27) rfl), rfl⟩
theorem wc_X2_cutsOff : Cond.code yX2_cutsOff cX2_cutsOff 2 (some .int) ∈ WG := List.mem_filter.mpr ⟨wr_3 _ (List.mem_of_getElem? (i := 28) rfl), rfl⟩
theorem wl_X2_178 : Cond.methodLink RX2 178 yX1_lostWithout ∈ WG := List.mem_filter.mpr ⟨wr_3 _ (List.mem_of_getElem? (i := 29) rfl), rfl⟩
theorem wi_X1_lostWithout : Cond.instanceMethod yX1_lostWithout ∈ WG := List.mem_filter.mpr ⟨wr_3 _ (List.mem_of_getElem? (i := 30) rfl), rfl⟩
theorem wv_X1_lostWithout : Cond.selects RX1 yX1_lostWithout yX1_lostWithout ∈ WG := List.mem_filter.mpr ⟨wr_3 _ (List.mem_of_getElem? (i := 31) rfl), rfl⟩
theorem wc_X1_lostWithout : Cond.code yX1_lostWithout cX1_lostWithout 4 (some .int) ∈ WG := List.mem_filter.mpr ⟨wr_3 _ (List.mem_of_getElem? (i := 32) rfl), rfl⟩
theorem wl_X1_70 : Cond.methodLink RX1 70 yX1_reachedWithout ∈ WG := List.mem_filter.mpr ⟨wr_3 _ (List.mem_of_getElem? (i := 33) rfl), rfl⟩
theorem wi_X1_reachedWithout : Cond.instanceMethod yX1_reachedWithout ∈ WG := List.mem_filter.mpr ⟨wr_3 _ (List.mem_of_getElem? (i := 35) rfl), rfl⟩
theorem wc_X1_reachedWithout : Cond.code yX1_reachedWithout cX1_reachedWithout 8 (some .long) ∈ WG := List.mem_filter.mpr ⟨wr_3 _ (List.mem_of_getElem? (i := 36) rfl), rfl⟩
theorem wl_X1_128 : Cond.methodLink RX1 128 yX1_neighboursOf ∈ WG := List.mem_filter.mpr ⟨wr_3 _ (List.mem_of_getElem? (i := 37) rfl), rfl⟩
theorem wt_X1_neighboursOf : Cond.static yX1_neighboursOf ∈ WG := List.mem_filter.mpr ⟨wr_3 _ (List.mem_of_getElem? (i := 38) rfl), rfl⟩
theorem wc_X1_neighboursOf : Cond.code yX1_neighboursOf cX1_neighboursOf 6 (some .long) ∈ WG := List.mem_filter.mpr ⟨wr_3 _ (List.mem_of_getElem? (i := 39) rfl), rfl⟩
theorem wq_X1_118 : Cond.constantLong RX1 118 (-551911719041) ∈ WG := List.mem_filter.mpr ⟨wr_3 _ (List.mem_of_getElem? (i := 40) rfl), rfl⟩
theorem wq_X1_120 : Cond.constantLong RX1 120 (-4311810306) ∈ WG := List.mem_filter.mpr ⟨wr_3 _ (List.mem_of_getElem? (i := 41) rfl), rfl⟩
theorem wl_L_156 : Cond.methodLink RL 156 yL_act ∈ WG := List.mem_filter.mpr ⟨wr_3 _ (List.mem_of_getElem? (i := 42) rfl), rfl⟩
theorem wt_L_act : Cond.static yL_act ∈ WG := List.mem_filter.mpr ⟨wr_3 _ (List.mem_of_getElem? (i := 43) rfl), rfl⟩
theorem wc_L_act : Cond.code yL_act method_24_code 16 (some .boolean) ∈ WG := List.mem_filter.mpr ⟨wr_3 _ (List.mem_of_getElem? (i := 44) rfl), rfl⟩
theorem wl_L_119 : Cond.methodLink RL 119 yX2_lay ∈ WG := List.mem_filter.mpr ⟨wr_3 _ (List.mem_of_getElem? (i := 45) rfl), rfl⟩
theorem wi_X2_lay : Cond.instanceMethod yX2_lay ∈ WG := List.mem_filter.mpr ⟨wr_3 _ (List.mem_of_getElem? (i := 46) rfl), rfl⟩
theorem wv_X2_lay : Cond.selects RX2 yX2_lay yX2_lay ∈ WG := List.mem_filter.mpr ⟨wr_3 _ (List.mem_of_getElem? (i := 47) rfl), rfl⟩
theorem wc_X2_lay : Cond.code yX2_lay cX2_lay 3 (some .int) ∈ WG := List.mem_filter.mpr ⟨wr_3 _ (List.mem_of_getElem? (i := 48) rfl), rfl⟩
theorem wl_X2_54 : Cond.methodLink RX2 54 yX1_mayChangeKind ∈ WG := List.mem_filter.mpr ⟨wr_3 _ (List.mem_of_getElem? (i := 51) rfl), rfl⟩
theorem wi_X1_mayChangeKind : Cond.instanceMethod yX1_mayChangeKind ∈ WG := List.mem_filter.mpr ⟨wr_3 _ (List.mem_of_getElem? (i := 52) rfl), rfl⟩
theorem wv_X1_mayChangeKind : Cond.selects RX1 yX1_mayChangeKind yX1_mayChangeKind ∈ WG := List.mem_filter.mpr ⟨wr_3 _ (List.mem_of_getElem? (i := 53) rfl), rfl⟩
theorem wc_X1_mayChangeKind : Cond.code yX1_mayChangeKind cX1_mayChangeKind 2 (some .boolean) ∈ WG := List.mem_filter.mpr ⟨wr_3 _ (List.mem_of_getElem? (i := 54) rfl), rfl⟩
theorem wk_X2_58 : Cond.classLink RX2 58 "java/lang/IllegalStateException" ∈ WG := List.mem_filter.mpr ⟨wr_3 _ (List.mem_of_getElem? (i := 55) rfl), rfl⟩
theorem wb_IllegalStateException : Cond.instantiable "java/lang/IllegalStateException" 6 ∈ WG := List.mem_filter.mpr ⟨wr_3 _ (List.mem_of_getElem? (i := 56) rfl), rfl⟩
theorem wy_IllegalStateException_cause : Cond.lays "java/lang/IllegalStateException" "java/lang/Throwable" "cause" "Ljava/lang/Throwable;" ∈ WG := List.mem_filter.mpr ⟨wr_3 _ (List.mem_of_getElem? (i := 59) rfl), rfl⟩
theorem wy_IllegalStateException_stackTrace : Cond.lays "java/lang/IllegalStateException" "java/lang/Throwable" "stackTrace" "[Ljava/lang/StackTraceElement;" ∈ WG := List.mem_filter.mpr ⟨wr_3 _ (List.mem_of_getElem? (i := 60) rfl), rfl⟩
theorem wy_IllegalStateException_suppressedExceptions : Cond.lays "java/lang/IllegalStateException" "java/lang/Throwable" "suppressedExceptions" "Ljava/util/List;" ∈ WG := List.mem_filter.mpr ⟨wr_3 _ (List.mem_of_getElem? (i := 61) rfl), rfl⟩
theorem wy_IllegalStateException_detailMessage : Cond.lays "java/lang/IllegalStateException" "java/lang/Throwable" "detailMessage" "Ljava/lang/String;" ∈ WG := List.mem_filter.mpr ⟨wr_3 _ (List.mem_of_getElem? (i := 62) rfl), rfl⟩
theorem wy_IllegalStateException_backtrace : Cond.lays "java/lang/IllegalStateException" "java/lang/Throwable" "backtrace" "Ljava/lang/Object;" ∈ WG := List.mem_filter.mpr ⟨wr_3 _ (List.mem_of_getElem? (i := 63) rfl), rfl⟩
theorem wl_X2_62 : Cond.methodLink RX2 62 (⟨"java/lang/IllegalStateException", "<init>", "(Ljava/lang/String;)V"⟩ : MethodName) ∈ WG := List.mem_filter.mpr ⟨wr_3 _ (List.mem_of_getElem? (i := 65) rfl), rfl⟩
theorem wi_IllegalStateException__init__747 : Cond.instanceMethod (⟨"java/lang/IllegalStateException", "<init>", "(Ljava/lang/String;)V"⟩ : MethodName) ∈ WG := List.mem_filter.mpr ⟨wr_3 _ (List.mem_of_getElem? (i := 66) rfl), rfl⟩
theorem wc_IllegalStateException__init__747 : Cond.code (⟨"java/lang/IllegalStateException", "<init>", "(Ljava/lang/String;)V"⟩ : MethodName) prog_8_method_2_code 2 none ∈ WG := List.mem_filter.mpr ⟨wr_3 _ (List.mem_of_getElem? (i := 67) rfl), rfl⟩
theorem wl_IllegalStateException_7 : Cond.methodLink "java/lang/IllegalStateException" 7 (⟨"java/lang/RuntimeException", "<init>", "(Ljava/lang/String;)V"⟩ : MethodName) ∈ WG := List.mem_filter.mpr ⟨wr_3 _ (List.mem_of_getElem? (i := 68) rfl), rfl⟩
theorem wy_IllegalStateException_depth : Cond.lays "java/lang/IllegalStateException" "java/lang/Throwable" "depth" "I" ∈ WG := List.mem_filter.mpr ⟨wr_3 _ (List.mem_of_getElem? (i := 69) rfl), rfl⟩
theorem wl_X2_66 : Cond.methodLink RX2 66 yX1_changeKind ∈ WG := List.mem_filter.mpr ⟨wr_3 _ (List.mem_of_getElem? (i := 71) rfl), rfl⟩
theorem wi_X1_changeKind : Cond.instanceMethod yX1_changeKind ∈ WG := List.mem_filter.mpr ⟨wr_3 _ (List.mem_of_getElem? (i := 72) rfl), rfl⟩
theorem wv_X1_changeKind : Cond.selects RX1 yX1_changeKind yX1_changeKind ∈ WG := List.mem_filter.mpr ⟨wr_3 _ (List.mem_of_getElem? (i := 73) rfl), rfl⟩
theorem wc_X1_changeKind : Cond.code yX1_changeKind cX1_changeKind 4 (some .int) ∈ WG := List.mem_filter.mpr ⟨wr_3 _ (List.mem_of_getElem? (i := 74) rfl), rfl⟩
theorem wl_L_122 : Cond.methodLink RL 122 yL_lapsed ∈ WG := List.mem_filter.mpr ⟨wr_3 _ (List.mem_of_getElem? (i := 75) rfl), rfl⟩
theorem wt_L_lapsed : Cond.static yL_lapsed ∈ WG := List.mem_filter.mpr ⟨wr_3 _ (List.mem_of_getElem? (i := 76) rfl), rfl⟩
theorem wc_L_lapsed : Cond.code yL_lapsed method_19_code 4 (some .int) ∈ WG := List.mem_filter.mpr ⟨wr_3 _ (List.mem_of_getElem? (i := 77) rfl), rfl⟩
theorem wl_L_126 : Cond.methodLink RL 126 yX2_pass ∈ WG := List.mem_filter.mpr ⟨wr_3 _ (List.mem_of_getElem? (i := 78) rfl), rfl⟩
theorem wi_X2_pass : Cond.instanceMethod yX2_pass ∈ WG := List.mem_filter.mpr ⟨wr_3 _ (List.mem_of_getElem? (i := 79) rfl), rfl⟩
theorem wv_X2_pass : Cond.selects RX2 yX2_pass yX2_pass ∈ WG := List.mem_filter.mpr ⟨wr_3 _ (List.mem_of_getElem? (i := 80) rfl), rfl⟩
theorem wc_X2_pass : Cond.code yX2_pass cX2_pass 3 (some .int) ∈ WG := List.mem_filter.mpr ⟨wr_3 _ (List.mem_of_getElem? (i := 81) rfl), rfl⟩
theorem wl_X2_77 : Cond.methodLink RX2 77 yX1_lastingReservations ∈ WG := List.mem_filter.mpr ⟨wr_3 _ (List.mem_of_getElem? (i := 84) rfl), rfl⟩
theorem wl_L_133 : Cond.methodLink RL 133 yX2_reserve ∈ WG := List.mem_filter.mpr ⟨wr_3 _ (List.mem_of_getElem? (i := 85) rfl), rfl⟩
theorem wi_X2_reserve : Cond.instanceMethod yX2_reserve ∈ WG := List.mem_filter.mpr ⟨wr_3 _ (List.mem_of_getElem? (i := 86) rfl), rfl⟩
theorem wv_X2_reserve : Cond.selects RX2 yX2_reserve yX2_reserve ∈ WG := List.mem_filter.mpr ⟨wr_3 _ (List.mem_of_getElem? (i := 87) rfl), rfl⟩
theorem wc_X2_reserve : Cond.code yX2_reserve cX2_reserve 4 (some .int) ∈ WG := List.mem_filter.mpr ⟨wr_3 _ (List.mem_of_getElem? (i := 88) rfl), rfl⟩
theorem wl_X2_100 : Cond.methodLink RX2 100 yX1_mayReserve ∈ WG := List.mem_filter.mpr ⟨wr_3 _ (List.mem_of_getElem? (i := 89) rfl), rfl⟩
theorem wi_X1_mayReserve : Cond.instanceMethod yX1_mayReserve ∈ WG := List.mem_filter.mpr ⟨wr_3 _ (List.mem_of_getElem? (i := 90) rfl), rfl⟩
theorem wv_X1_mayReserve : Cond.selects RX1 yX1_mayReserve yX1_mayReserve ∈ WG := List.mem_filter.mpr ⟨wr_3 _ (List.mem_of_getElem? (i := 91) rfl), rfl⟩
theorem wc_X1_mayReserve : Cond.code yX1_mayReserve cX1_mayReserve 3 (some .boolean) ∈ WG := List.mem_filter.mpr ⟨wr_3 _ (List.mem_of_getElem? (i := 92) rfl), rfl⟩
theorem wl_X2_106 : Cond.methodLink RX2 106 yX1_addReservation ∈ WG := List.mem_filter.mpr ⟨wr_3 _ (List.mem_of_getElem? (i := 94) rfl), rfl⟩
theorem wi_X1_addReservation : Cond.instanceMethod yX1_addReservation ∈ WG := List.mem_filter.mpr ⟨wr_3 _ (List.mem_of_getElem? (i := 95) rfl), rfl⟩
theorem wv_X1_addReservation : Cond.selects RX1 yX1_addReservation yX1_addReservation ∈ WG := List.mem_filter.mpr ⟨wr_3 _ (List.mem_of_getElem? (i := 96) rfl), rfl⟩
theorem wc_X1_addReservation : Cond.code yX1_addReservation cX1_addReservation 5 (some .int) ∈ WG := List.mem_filter.mpr ⟨wr_3 _ (List.mem_of_getElem? (i := 97) rfl), rfl⟩
theorem wl_X1_84 : Cond.methodLink RX1 84 yX1_charge ∈ WG := List.mem_filter.mpr ⟨wr_3 _ (List.mem_of_getElem? (i := 98) rfl), rfl⟩
theorem wi_X1_charge : Cond.instanceMethod yX1_charge ∈ WG := List.mem_filter.mpr ⟨wr_3 _ (List.mem_of_getElem? (i := 100) rfl), rfl⟩
theorem wc_X1_charge : Cond.code yX1_charge cX1_charge 4 (some .int) ∈ WG := List.mem_filter.mpr ⟨wr_3 _ (List.mem_of_getElem? (i := 101) rfl), rfl⟩
theorem wl_L_136 : Cond.methodLink RL 136 yX2_buildVault ∈ WG := List.mem_filter.mpr ⟨wr_3 _ (List.mem_of_getElem? (i := 102) rfl), rfl⟩
theorem wi_X2_buildVault : Cond.instanceMethod yX2_buildVault ∈ WG := List.mem_filter.mpr ⟨wr_3 _ (List.mem_of_getElem? (i := 103) rfl), rfl⟩
theorem wv_X2_buildVault : Cond.selects RX2 yX2_buildVault yX2_buildVault ∈ WG := List.mem_filter.mpr ⟨wr_3 _ (List.mem_of_getElem? (i := 104) rfl), rfl⟩
theorem wc_X2_buildVault : Cond.code yX2_buildVault cX2_buildVault 3 (some .int) ∈ WG := List.mem_filter.mpr ⟨wr_3 _ (List.mem_of_getElem? (i := 105) rfl), rfl⟩
theorem wl_X2_109 : Cond.methodLink RX2 109 yX1_mayBuildVault ∈ WG := List.mem_filter.mpr ⟨wr_3 _ (List.mem_of_getElem? (i := 106) rfl), rfl⟩
theorem wi_X1_mayBuildVault : Cond.instanceMethod yX1_mayBuildVault ∈ WG := List.mem_filter.mpr ⟨wr_3 _ (List.mem_of_getElem? (i := 107) rfl), rfl⟩
theorem wv_X1_mayBuildVault : Cond.selects RX1 yX1_mayBuildVault yX1_mayBuildVault ∈ WG := List.mem_filter.mpr ⟨wr_3 _ (List.mem_of_getElem? (i := 108) rfl), rfl⟩
theorem wc_X1_mayBuildVault : Cond.code yX1_mayBuildVault cX1_mayBuildVault 3 (some .boolean) ∈ WG := List.mem_filter.mpr ⟨wr_3 _ (List.mem_of_getElem? (i := 109) rfl), rfl⟩
theorem wl_X2_114 : Cond.methodLink RX2 114 yX1_addVault ∈ WG := List.mem_filter.mpr ⟨wr_3 _ (List.mem_of_getElem? (i := 111) rfl), rfl⟩
theorem wi_X1_addVault : Cond.instanceMethod yX1_addVault ∈ WG := List.mem_filter.mpr ⟨wr_3 _ (List.mem_of_getElem? (i := 112) rfl), rfl⟩
theorem wv_X1_addVault : Cond.selects RX1 yX1_addVault yX1_addVault ∈ WG := List.mem_filter.mpr ⟨wr_3 _ (List.mem_of_getElem? (i := 113) rfl), rfl⟩
theorem wc_X1_addVault : Cond.code yX1_addVault cX1_addVault 3 (some .int) ∈ WG := List.mem_filter.mpr ⟨wr_3 _ (List.mem_of_getElem? (i := 114) rfl), rfl⟩
theorem wl_L_139 : Cond.methodLink RL 139 yX2_clear ∈ WG := List.mem_filter.mpr ⟨wr_3 _ (List.mem_of_getElem? (i := 115) rfl), rfl⟩
theorem wi_X2_clear : Cond.instanceMethod yX2_clear ∈ WG := List.mem_filter.mpr ⟨wr_3 _ (List.mem_of_getElem? (i := 116) rfl), rfl⟩
theorem wv_X2_clear : Cond.selects RX2 yX2_clear yX2_clear ∈ WG := List.mem_filter.mpr ⟨wr_3 _ (List.mem_of_getElem? (i := 117) rfl), rfl⟩
theorem wc_X2_clear : Cond.code yX2_clear cX2_clear 2 (some .int) ∈ WG := List.mem_filter.mpr ⟨wr_3 _ (List.mem_of_getElem? (i := 118) rfl), rfl⟩
theorem wl_X2_117 : Cond.methodLink RX2 117 yX1_restingBurials ∈ WG := List.mem_filter.mpr ⟨wr_3 _ (List.mem_of_getElem? (i := 119) rfl), rfl⟩
theorem wl_X2_123 : Cond.methodLink RX2 123 yX1_removeBurials ∈ WG := List.mem_filter.mpr ⟨wr_3 _ (List.mem_of_getElem? (i := 121) rfl), rfl⟩
theorem wi_X1_removeBurials : Cond.instanceMethod yX1_removeBurials ∈ WG := List.mem_filter.mpr ⟨wr_3 _ (List.mem_of_getElem? (i := 122) rfl), rfl⟩
theorem wv_X1_removeBurials : Cond.selects RX1 yX1_removeBurials yX1_removeBurials ∈ WG := List.mem_filter.mpr ⟨wr_3 _ (List.mem_of_getElem? (i := 123) rfl), rfl⟩
theorem wc_X1_removeBurials : Cond.code yX1_removeBurials cX1_removeBurials 5 (some .int) ∈ WG := List.mem_filter.mpr ⟨wr_3 _ (List.mem_of_getElem? (i := 124) rfl), rfl⟩
theorem wq_L_142 : Cond.constantLong RL 142 (32768) ∈ WG := List.mem_filter.mpr ⟨wr_3 _ (List.mem_of_getElem? (i := 125) rfl), rfl⟩
theorem wl_L_144 : Cond.methodLink RL 144 yX2_bury ∈ WG := List.mem_filter.mpr ⟨wr_3 _ (List.mem_of_getElem? (i := 126) rfl), rfl⟩
theorem wi_X2_bury : Cond.instanceMethod yX2_bury ∈ WG := List.mem_filter.mpr ⟨wr_3 _ (List.mem_of_getElem? (i := 127) rfl), rfl⟩
theorem wv_X2_bury : Cond.selects RX2 yX2_bury yX2_bury ∈ WG := List.mem_filter.mpr ⟨wr_3 _ (List.mem_of_getElem? (i := 128) rfl), rfl⟩
theorem wc_X2_bury : Cond.code yX2_bury cX2_bury 4 (some .int) ∈ WG := List.mem_filter.mpr ⟨wr_3 _ (List.mem_of_getElem? (i := 129) rfl), rfl⟩
theorem wl_X2_96 : Cond.methodLink RX2 96 yX1_addBurial ∈ WG := List.mem_filter.mpr ⟨wr_3 _ (List.mem_of_getElem? (i := 131) rfl), rfl⟩
theorem wi_X1_addBurial : Cond.instanceMethod yX1_addBurial ∈ WG := List.mem_filter.mpr ⟨wr_3 _ (List.mem_of_getElem? (i := 132) rfl), rfl⟩
theorem wv_X1_addBurial : Cond.selects RX1 yX1_addBurial yX1_addBurial ∈ WG := List.mem_filter.mpr ⟨wr_3 _ (List.mem_of_getElem? (i := 133) rfl), rfl⟩
theorem wc_X1_addBurial : Cond.code yX1_addBurial cX1_addBurial 6 (some .int) ∈ WG := List.mem_filter.mpr ⟨wr_3 _ (List.mem_of_getElem? (i := 134) rfl), rfl⟩
theorem wa_long : Cond.arrayClass Jvm.ClassFile.FieldType.long ∈ WG := List.mem_filter.mpr ⟨wr_3 _ (List.mem_of_getElem? (i := 136) rfl), rfl⟩
theorem wv_X2_save : Cond.selects RX2 yX2_save yX2_save ∈ WG := List.mem_filter.mpr ⟨wp_1 (⟨"BurialGround", "save", "()V"⟩, 6) (List.mem_of_getElem? (i := 1) rfl), rfl⟩
theorem wv_X2_dropOldest : Cond.selects RX2 yX2_dropOldest yX2_dropOldest ∈ WG := List.mem_filter.mpr ⟨wp_1 (⟨"BurialGround", "dropOldest", "()V"⟩, 6) (List.mem_of_getElem? (i := 2) rfl), rfl⟩
theorem wv_X2_number : Cond.selects RX2 yX2_number yX2_number ∈ WG := List.mem_filter.mpr ⟨wp_1 (⟨"BurialGround", "number", "(I)I"⟩, 6) (List.mem_of_getElem? (i := 3) rfl), rfl⟩
theorem wv_X1_allBurials : Cond.selects RX1 yX1_allBurials yX1_allBurials ∈ WG := List.mem_filter.mpr ⟨wp_1 (⟨"BurialGround$Ledger", "allBurials", "()I"⟩, 12) (List.mem_of_getElem? (i := 4) rfl), rfl⟩
theorem wv_X1_burialsIn : Cond.selects RX1 yX1_burialsIn yX1_burialsIn ∈ WG := List.mem_filter.mpr ⟨wp_1 (⟨"BurialGround$Ledger", "burialsIn", "(I)I"⟩, 12) (List.mem_of_getElem? (i := 5) rfl), rfl⟩
theorem wv_X1_allRestingBurials : Cond.selects RX1 yX1_allRestingBurials yX1_allRestingBurials ∈ WG := List.mem_filter.mpr ⟨wp_1 (⟨"BurialGround$Ledger", "allRestingBurials", "()I"⟩, 12) (List.mem_of_getElem? (i := 6) rfl), rfl⟩
theorem wv_X1_isResting : Cond.selects RX1 yX1_isResting yX1_isResting ∈ WG := List.mem_filter.mpr ⟨wp_1 (⟨"BurialGround$Ledger", "isResting", "(II)Z"⟩, 12) (List.mem_of_getElem? (i := 7) rfl), rfl⟩
theorem wv_X1_endOfRest : Cond.selects RX1 yX1_endOfRest yX1_endOfRest ∈ WG := List.mem_filter.mpr ⟨wp_1 (⟨"BurialGround$Ledger", "endOfRest", "(I)I"⟩, 12) (List.mem_of_getElem? (i := 8) rfl), rfl⟩
theorem wv_X1_soilPlots : Cond.selects RX1 yX1_soilPlots yX1_soilPlots ∈ WG := List.mem_filter.mpr ⟨wp_1 (⟨"BurialGround$Ledger", "soilPlots", "()J"⟩, 12) (List.mem_of_getElem? (i := 9) rfl), rfl⟩
theorem wv_X1_openPlots : Cond.selects RX1 yX1_openPlots yX1_openPlots ∈ WG := List.mem_filter.mpr ⟨wp_1 (⟨"BurialGround$Ledger", "openPlots", "()J"⟩, 12) (List.mem_of_getElem? (i := 10) rfl), rfl⟩
theorem wv_X1_isReservedIn : Cond.selects RX1 yX1_isReservedIn yX1_isReservedIn ∈ WG := List.mem_filter.mpr ⟨wp_1 (⟨"BurialGround$Ledger", "isReservedIn", "(II)Z"⟩, 12) (List.mem_of_getElem? (i := 11) rfl), rfl⟩
theorem wv_X1_allVaults : Cond.selects RX1 yX1_allVaults yX1_allVaults ∈ WG := List.mem_filter.mpr ⟨wp_1 (⟨"BurialGround$Ledger", "allVaults", "()I"⟩, 12) (List.mem_of_getElem? (i := 12) rfl), rfl⟩
theorem wv_X1_vaultsOf : Cond.selects RX1 yX1_vaultsOf yX1_vaultsOf ∈ WG := List.mem_filter.mpr ⟨wp_1 (⟨"BurialGround$Ledger", "vaultsOf", "(I)I"⟩, 12) (List.mem_of_getElem? (i := 13) rfl), rfl⟩
theorem wv_X1_allPaid : Cond.selects RX1 yX1_allPaid yX1_allPaid ∈ WG := List.mem_filter.mpr ⟨wp_1 (⟨"BurialGround$Ledger", "allPaid", "()I"⟩, 12) (List.mem_of_getElem? (i := 14) rfl), rfl⟩
theorem wv_X1_holder : Cond.selects RX1 yX1_holder yX1_holder ∈ WG := List.mem_filter.mpr ⟨wp_1 (⟨"BurialGround$Ledger", "holder", "(II)I"⟩, 12) (List.mem_of_getElem? (i := 15) rfl), rfl⟩
theorem wv_X1_isReached : Cond.selects RX1 yX1_isReached yX1_isReached ∈ WG := List.mem_filter.mpr ⟨wp_2 (⟨"BurialGround$Ledger", "isReached", "(I)Z"⟩, 12) (List.mem_of_getElem? (i := 0) rfl), rfl⟩
theorem wv_X1_greatestDepth : Cond.selects RX1 yX1_greatestDepth yX1_greatestDepth ∈ WG := List.mem_filter.mpr ⟨wp_2 (⟨"BurialGround$Ledger", "greatestDepth", "(I)I"⟩, 12) (List.mem_of_getElem? (i := 1) rfl), rfl⟩
theorem wv_X1_burialsOf : Cond.selects RX1 yX1_burialsOf yX1_burialsOf ∈ WG := List.mem_filter.mpr ⟨wp_2 (⟨"BurialGround$Ledger", "burialsOf", "(I)I"⟩, 12) (List.mem_of_getElem? (i := 2) rfl), rfl⟩
theorem wv_X1_plotsHeldBy : Cond.selects RX1 yX1_plotsHeldBy yX1_plotsHeldBy ∈ WG := List.mem_filter.mpr ⟨wp_2 (⟨"BurialGround$Ledger", "plotsHeldBy", "(I)I"⟩, 12) (List.mem_of_getElem? (i := 3) rfl), rfl⟩
theorem wv_X1_freeDepth : Cond.selects RX1 yX1_freeDepth yX1_freeDepth ∈ WG := List.mem_filter.mpr ⟨wp_2 (⟨"BurialGround$Ledger", "freeDepth", "(I)I"⟩, 12) (List.mem_of_getElem? (i := 4) rfl), rfl⟩
theorem wv_X1_vaultRefusal : Cond.selects RX1 yX1_vaultRefusal yX1_vaultRefusal ∈ WG := List.mem_filter.mpr ⟨wp_2 (⟨"BurialGround$Ledger", "vaultRefusal", "(III)I"⟩, 12) (List.mem_of_getElem? (i := 5) rfl), rfl⟩
theorem wv_X1_latestBurial : Cond.selects RX1 yX1_latestBurial yX1_latestBurial ∈ WG := List.mem_filter.mpr ⟨wp_2 (⟨"BurialGround$Ledger", "latestBurial", "(I)I"⟩, 12) (List.mem_of_getElem? (i := 6) rfl), rfl⟩
theorem wv_X1_priceFor : Cond.selects RX1 yX1_priceFor yX1_priceFor ∈ WG := List.mem_filter.mpr ⟨wp_2 (⟨"BurialGround$Ledger", "priceFor", "(II)I"⟩, 12) (List.mem_of_getElem? (i := 7) rfl), rfl⟩
theorem wv_X1_hasReservation : Cond.selects RX1 yX1_hasReservation yX1_hasReservation ∈ WG := List.mem_filter.mpr ⟨wp_2 (⟨"BurialGround$Ledger", "hasReservation", "(II)Z"⟩, 12) (List.mem_of_getElem? (i := 8) rfl), rfl⟩
theorem wv_X1_leastFee : Cond.selects RX1 yX1_leastFee yX1_leastFee ∈ WG := List.mem_filter.mpr ⟨wp_2 (⟨"BurialGround$Ledger", "leastFee", "(II)I"⟩, 12) (List.mem_of_getElem? (i := 9) rfl), rfl⟩
theorem wv_X1_reachedWithout : Cond.selects RX1 yX1_reachedWithout yX1_reachedWithout ∈ WG := List.mem_filter.mpr ⟨wp_2 (⟨"BurialGround$Ledger", "reachedWithout", "(J)J"⟩, 12) (List.mem_of_getElem? (i := 10) rfl), rfl⟩
theorem wv_X1_charge : Cond.selects RX1 yX1_charge yX1_charge ∈ WG := List.mem_filter.mpr ⟨wp_2 (⟨"BurialGround$Ledger", "charge", "(II)I"⟩, 12) (List.mem_of_getElem? (i := 11) rfl), rfl⟩
theorem inX0 : ∀ w ∈ wsX00, w ∈ WG := by
  intro w h
  obtain ⟨k, hk, rfl⟩ := List.mem_map.mp h
  have hk := List.mem_range.mp hk
  match k, hk with
  | 0, _ => exact wy_X0_stage
  | 1, _ => exact wy_X0_reserves
  | 2, _ => exact wy_X0_family
  | 3, _ => exact wy_X0_plot
  | 4, _ => exact wy_X0_number
  | k + 5, hk => exact absurd hk (by omega)
theorem inX1 : ∀ w ∈ wsX10, w ∈ WG := by
  intro w h
  obtain ⟨k, hk, rfl⟩ := List.mem_map.mp h
  have hk := List.mem_range.mp hk
  match k, hk with
  | 0, _ => exact wy_X1_year
  | 1, _ => exact wy_X1_parish
  | 2, _ => exact wy_X1_paid
  | 3, _ => exact wy_X1_burialsSoFar
  | 4, _ => exact wy_X1_kind
  | 5, _ => exact wy_X1_vaultOf
  | 6, _ => exact wy_X1_reservedFor
  | 7, _ => exact wy_X1_reservedUpTo
  | 8, _ => exact wy_X1_buried
  | 9, _ => exact wy_X1_buriedIn
  | 10, _ => exact wy_X1_feePaid
  | 11, _ => exact wy_X1_reached
  | k + 12, hk => exact absurd hk (by omega)
theorem inX2 : ∀ w ∈ wsX20, w ∈ WG := by
  intro w h
  obtain ⟨k, hk, rfl⟩ := List.mem_map.mp h
  have hk := List.mem_range.mp hk
  match k, hk with
  | 0, _ => exact wy_X2_now
  | 1, _ => exact wy_X2_saved
  | 2, _ => exact wy_X2_savedCount
  | 3, _ => exact wy_X2_buffer
  | 4, _ => exact wy_X2_length
  | 5, _ => exact wy_X2_reader
  | k + 6, hk => exact absurd hk (by omega)
