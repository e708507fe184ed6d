section
-- ===== PART A: goes FIRST, ahead of the names: the tables' words, and 'selects' of the private methods out of them =====
/-- a private method of a class that the tables say can be made, by its rows of tables_1 -/
def lw_okq (q : MethodName × Nat) : Prop := (q.1.cls ≠ "java/lang/invoke/MethodHandle" ∧ q.1.cls ≠ "java/lang/invoke/VarHandle") ∧ Cond.instantiable q.1.cls q.2 ∈ tables_1 ∧ Cond.privateMethod q.1 ∈ tables_1 ∧ Cond.instanceMethod q.1 ∈ tables_1
theorem lw_p0 : lw_okq (⟨"BurialGround", "errorIndex", "()I"⟩, 6) := ⟨⟨by decide +kernel, by decide +kernel⟩, List.mem_of_getElem? (i := 16) (by decide +kernel), List.mem_of_getElem? (i := 125) (by decide +kernel), List.mem_of_getElem? (i := 126) (by decide +kernel)⟩
theorem lw_p1 : lw_okq (⟨"BurialGround$EntryReader", "takeLetter", "(I)Z"⟩, 5) := ⟨⟨by decide +kernel, by decide +kernel⟩, List.mem_of_getElem? (i := 72) (by decide +kernel), List.mem_of_getElem? (i := 137) (by decide +kernel), List.mem_of_getElem? (i := 138) (by decide +kernel)⟩
theorem lw_p2 : lw_okq (⟨"BurialGround$EntryReader", "takeFamily", "(I)Z"⟩, 5) := ⟨⟨by decide +kernel, by decide +kernel⟩, List.mem_of_getElem? (i := 72) (by decide +kernel), List.mem_of_getElem? (i := 141) (by decide +kernel), List.mem_of_getElem? (i := 142) (by decide +kernel)⟩
theorem lw_p3 : lw_okq (⟨"BurialGround$EntryReader", "takeColon", "(I)Z"⟩, 5) := ⟨⟨by decide +kernel, by decide +kernel⟩, List.mem_of_getElem? (i := 72) (by decide +kernel), List.mem_of_getElem? (i := 148) (by decide +kernel), List.mem_of_getElem? (i := 149) (by decide +kernel)⟩
theorem lw_p4 : lw_okq (⟨"BurialGround$EntryReader", "takeOfPlot", "(I)Z"⟩, 5) := ⟨⟨by decide +kernel, by decide +kernel⟩, List.mem_of_getElem? (i := 72) (by decide +kernel), List.mem_of_getElem? (i := 152) (by decide +kernel), List.mem_of_getElem? (i := 153) (by decide +kernel)⟩
theorem lw_p5 : lw_okq (⟨"BurialGround$EntryReader", "takeOfNumber", "(I)Z"⟩, 5) := ⟨⟨by decide +kernel, by decide +kernel⟩, List.mem_of_getElem? (i := 72) (by decide +kernel), List.mem_of_getElem? (i := 156) (by decide +kernel), List.mem_of_getElem? (i := 157) (by decide +kernel)⟩
theorem lw_p6 : lw_okq (⟨"BurialGround$Ledger", "allBurials", "()I"⟩, 12) := ⟨⟨by decide +kernel, by decide +kernel⟩, List.mem_of_getElem? (i := 24) (by decide +kernel), List.mem_of_getElem? (i := 169) (by decide +kernel), List.mem_of_getElem? (i := 170) (by decide +kernel)⟩
theorem lw_p7 : lw_okq (⟨"BurialGround$Ledger", "burialsIn", "(I)I"⟩, 12) := ⟨⟨by decide +kernel, by decide +kernel⟩, List.mem_of_getElem? (i := 24) (by decide +kernel), List.mem_of_getElem? (i := 173) (by decide +kernel), List.mem_of_getElem? (i := 174) (by decide +kernel)⟩
theorem lw_p8 : lw_okq (⟨"BurialGround", "number", "(I)I"⟩, 6) := ⟨⟨by decide +kernel, by decide +kernel⟩, List.mem_of_getElem? (i := 16) (by decide +kernel), List.mem_of_getElem? (i := 183) (by decide +kernel), List.mem_of_getElem? (i := 184) (by decide +kernel)⟩
theorem lw_p9 : lw_okq (⟨"BurialGround$Ledger", "allRestingBurials", "()I"⟩, 12) := ⟨⟨by decide +kernel, by decide +kernel⟩, List.mem_of_getElem? (i := 24) (by decide +kernel), List.mem_of_getElem? (i := 191) (by decide +kernel), List.mem_of_getElem? (i := 192) (by decide +kernel)⟩
theorem lw_p10 : lw_okq (⟨"BurialGround$Ledger", "isResting", "(II)Z"⟩, 12) := ⟨⟨by decide +kernel, by decide +kernel⟩, List.mem_of_getElem? (i := 24) (by decide +kernel), List.mem_of_getElem? (i := 199) (by decide +kernel), List.mem_of_getElem? (i := 200) (by decide +kernel)⟩
theorem lw_p11 : lw_okq (⟨"BurialGround$Ledger", "endOfRest", "(I)I"⟩, 12) := ⟨⟨by decide +kernel, by decide +kernel⟩, List.mem_of_getElem? (i := 24) (by decide +kernel), List.mem_of_getElem? (i := 203) (by decide +kernel), List.mem_of_getElem? (i := 204) (by decide +kernel)⟩
theorem lw_p12 : lw_okq (⟨"BurialGround$Ledger", "soilPlots", "()J"⟩, 12) := ⟨⟨by decide +kernel, by decide +kernel⟩, List.mem_of_getElem? (i := 24) (by decide +kernel), List.mem_of_getElem? (i := 209) (by decide +kernel), List.mem_of_getElem? (i := 210) (by decide +kernel)⟩
theorem lw_p13 : lw_okq (⟨"BurialGround$Ledger", "openPlots", "()J"⟩, 12) := ⟨⟨by decide +kernel, by decide +kernel⟩, List.mem_of_getElem? (i := 24) (by decide +kernel), List.mem_of_getElem? (i := 216) (by decide +kernel), List.mem_of_getElem? (i := 217) (by decide +kernel)⟩
theorem lw_p14 : lw_okq (⟨"BurialGround$Ledger", "isReservedIn", "(II)Z"⟩, 12) := ⟨⟨by decide +kernel, by decide +kernel⟩, List.mem_of_getElem? (i := 24) (by decide +kernel), List.mem_of_getElem? (i := 231) (by decide +kernel), List.mem_of_getElem? (i := 232) (by decide +kernel)⟩
theorem lw_p15 : lw_okq (⟨"BurialGround$Ledger", "allVaults", "()I"⟩, 12) := ⟨⟨by decide +kernel, by decide +kernel⟩, List.mem_of_getElem? (i := 24) (by decide +kernel), List.mem_of_getElem? (i := 235) (by decide +kernel), List.mem_of_getElem? (i := 236) (by decide +kernel)⟩
def lw_privs_1 : List (MethodName × Nat) := [(⟨"BurialGround", "errorIndex", "()I"⟩, 6), (⟨"BurialGround$EntryReader", "takeLetter", "(I)Z"⟩, 5), (⟨"BurialGround$EntryReader", "takeFamily", "(I)Z"⟩, 5), (⟨"BurialGround$EntryReader", "takeColon", "(I)Z"⟩, 5), (⟨"BurialGround$EntryReader", "takeOfPlot", "(I)Z"⟩, 5), (⟨"BurialGround$EntryReader", "takeOfNumber", "(I)Z"⟩, 5), (⟨"BurialGround$Ledger", "allBurials", "()I"⟩, 12), (⟨"BurialGround$Ledger", "burialsIn", "(I)I"⟩, 12), (⟨"BurialGround", "number", "(I)I"⟩, 6), (⟨"BurialGround$Ledger", "allRestingBurials", "()I"⟩, 12), (⟨"BurialGround$Ledger", "isResting", "(II)Z"⟩, 12), (⟨"BurialGround$Ledger", "endOfRest", "(I)I"⟩, 12), (⟨"BurialGround$Ledger", "soilPlots", "()J"⟩, 12), (⟨"BurialGround$Ledger", "openPlots", "()J"⟩, 12), (⟨"BurialGround$Ledger", "isReservedIn", "(II)Z"⟩, 12), (⟨"BurialGround$Ledger", "allVaults", "()I"⟩, 12)]
theorem lw_r1 : ∀ q ∈ lw_privs_1, lw_okq q := List.forall_mem_cons.mpr ⟨lw_p0, List.forall_mem_cons.mpr ⟨lw_p1, List.forall_mem_cons.mpr ⟨lw_p2, List.forall_mem_cons.mpr ⟨lw_p3, List.forall_mem_cons.mpr ⟨lw_p4, List.forall_mem_cons.mpr ⟨lw_p5, List.forall_mem_cons.mpr ⟨lw_p6, List.forall_mem_cons.mpr ⟨lw_p7, List.forall_mem_cons.mpr ⟨lw_p8, List.forall_mem_cons.mpr ⟨lw_p9, List.forall_mem_cons.mpr ⟨lw_p10, List.forall_mem_cons.mpr ⟨lw_p11, List.forall_mem_cons.mpr ⟨lw_p12, List.forall_mem_cons.mpr ⟨lw_p13, List.forall_mem_cons.mpr ⟨lw_p14, List.forall_mem_cons.mpr ⟨lw_p15, fun _ h => absurd h List.not_mem_nil⟩⟩⟩⟩⟩⟩⟩⟩⟩⟩⟩⟩⟩⟩⟩⟩
theorem lw_p16 : lw_okq (⟨"BurialGround$Ledger", "vaultsOf", "(I)I"⟩, 12) := ⟨⟨by decide +kernel, by decide +kernel⟩, List.mem_of_getElem? (i := 24) (by decide +kernel), List.mem_of_getElem? (i := 239) (by decide +kernel), List.mem_of_getElem? (i := 240) (by decide +kernel)⟩
theorem lw_p17 : lw_okq (⟨"BurialGround$Ledger", "allPaid", "()I"⟩, 12) := ⟨⟨by decide +kernel, by decide +kernel⟩, List.mem_of_getElem? (i := 24) (by decide +kernel), List.mem_of_getElem? (i := 243) (by decide +kernel), List.mem_of_getElem? (i := 244) (by decide +kernel)⟩
theorem lw_p18 : lw_okq (⟨"BurialGround", "plotDigest", "(JI)J"⟩, 6) := ⟨⟨by decide +kernel, by decide +kernel⟩, List.mem_of_getElem? (i := 16) (by decide +kernel), List.mem_of_getElem? (i := 247) (by decide +kernel), List.mem_of_getElem? (i := 248) (by decide +kernel)⟩
theorem lw_p19 : lw_okq (⟨"BurialGround$Ledger", "holder", "(II)I"⟩, 12) := ⟨⟨by decide +kernel, by decide +kernel⟩, List.mem_of_getElem? (i := 24) (by decide +kernel), List.mem_of_getElem? (i := 255) (by decide +kernel), List.mem_of_getElem? (i := 256) (by decide +kernel)⟩
theorem lw_p20 : lw_okq (⟨"BurialGround$Ledger", "isReached", "(I)Z"⟩, 12) := ⟨⟨by decide +kernel, by decide +kernel⟩, List.mem_of_getElem? (i := 24) (by decide +kernel), List.mem_of_getElem? (i := 259) (by decide +kernel), List.mem_of_getElem? (i := 260) (by decide +kernel)⟩
theorem lw_p21 : lw_okq (⟨"BurialGround$Ledger", "greatestDepth", "(I)I"⟩, 12) := ⟨⟨by decide +kernel, by decide +kernel⟩, List.mem_of_getElem? (i := 24) (by decide +kernel), List.mem_of_getElem? (i := 263) (by decide +kernel), List.mem_of_getElem? (i := 264) (by decide +kernel)⟩
theorem lw_p22 : lw_okq (⟨"BurialGround", "familyDigest", "(JI)J"⟩, 6) := ⟨⟨by decide +kernel, by decide +kernel⟩, List.mem_of_getElem? (i := 16) (by decide +kernel), List.mem_of_getElem? (i := 283) (by decide +kernel), List.mem_of_getElem? (i := 284) (by decide +kernel)⟩
theorem lw_p23 : lw_okq (⟨"BurialGround$Ledger", "burialsOf", "(I)I"⟩, 12) := ⟨⟨by decide +kernel, by decide +kernel⟩, List.mem_of_getElem? (i := 24) (by decide +kernel), List.mem_of_getElem? (i := 291) (by decide +kernel), List.mem_of_getElem? (i := 292) (by decide +kernel)⟩
theorem lw_p24 : lw_okq (⟨"BurialGround$Ledger", "plotsHeldBy", "(I)I"⟩, 12) := ⟨⟨by decide +kernel, by decide +kernel⟩, List.mem_of_getElem? (i := 24) (by decide +kernel), List.mem_of_getElem? (i := 295) (by decide +kernel), List.mem_of_getElem? (i := 296) (by decide +kernel)⟩
theorem lw_p25 : lw_okq (⟨"BurialGround$Ledger", "leastFee", "(II)I"⟩, 12) := ⟨⟨by decide +kernel, by decide +kernel⟩, List.mem_of_getElem? (i := 24) (by decide +kernel), List.mem_of_getElem? (i := 303) (by decide +kernel), List.mem_of_getElem? (i := 304) (by decide +kernel)⟩
theorem lw_p26 : lw_okq (⟨"BurialGround$Ledger", "freeDepth", "(I)I"⟩, 12) := ⟨⟨by decide +kernel, by decide +kernel⟩, List.mem_of_getElem? (i := 24) (by decide +kernel), List.mem_of_getElem? (i := 314) (by decide +kernel), List.mem_of_getElem? (i := 315) (by decide +kernel)⟩
theorem lw_p27 : lw_okq (⟨"BurialGround$Ledger", "vaultRefusal", "(III)I"⟩, 12) := ⟨⟨by decide +kernel, by decide +kernel⟩, List.mem_of_getElem? (i := 24) (by decide +kernel), List.mem_of_getElem? (i := 318) (by decide +kernel), List.mem_of_getElem? (i := 319) (by decide +kernel)⟩
theorem lw_p28 : lw_okq (⟨"BurialGround$Ledger", "latestBurial", "(I)I"⟩, 12) := ⟨⟨by decide +kernel, by decide +kernel⟩, List.mem_of_getElem? (i := 24) (by decide +kernel), List.mem_of_getElem? (i := 322) (by decide +kernel), List.mem_of_getElem? (i := 323) (by decide +kernel)⟩
theorem lw_p29 : lw_okq (⟨"BurialGround$Ledger", "priceFor", "(II)I"⟩, 12) := ⟨⟨by decide +kernel, by decide +kernel⟩, List.mem_of_getElem? (i := 24) (by decide +kernel), List.mem_of_getElem? (i := 333) (by decide +kernel), List.mem_of_getElem? (i := 334) (by decide +kernel)⟩
theorem lw_p30 : lw_okq (⟨"BurialGround$Ledger", "hasReservation", "(II)Z"⟩, 12) := ⟨⟨by decide +kernel, by decide +kernel⟩, List.mem_of_getElem? (i := 24) (by decide +kernel), List.mem_of_getElem? (i := 337) (by decide +kernel), List.mem_of_getElem? (i := 338) (by decide +kernel)⟩
theorem lw_p31 : lw_okq (⟨"BurialGround", "bufferDigest", "(J)J"⟩, 6) := ⟨⟨by decide +kernel, by decide +kernel⟩, List.mem_of_getElem? (i := 16) (by decide +kernel), List.mem_of_getElem? (i := 347) (by decide +kernel), List.mem_of_getElem? (i := 348) (by decide +kernel)⟩
def lw_privs_2 : List (MethodName × Nat) := [(⟨"BurialGround$Ledger", "vaultsOf", "(I)I"⟩, 12), (⟨"BurialGround$Ledger", "allPaid", "()I"⟩, 12), (⟨"BurialGround", "plotDigest", "(JI)J"⟩, 6), (⟨"BurialGround$Ledger", "holder", "(II)I"⟩, 12), (⟨"BurialGround$Ledger", "isReached", "(I)Z"⟩, 12), (⟨"BurialGround$Ledger", "greatestDepth", "(I)I"⟩, 12), (⟨"BurialGround", "familyDigest", "(JI)J"⟩, 6), (⟨"BurialGround$Ledger", "burialsOf", "(I)I"⟩, 12), (⟨"BurialGround$Ledger", "plotsHeldBy", "(I)I"⟩, 12), (⟨"BurialGround$Ledger", "leastFee", "(II)I"⟩, 12), (⟨"BurialGround$Ledger", "freeDepth", "(I)I"⟩, 12), (⟨"BurialGround$Ledger", "vaultRefusal", "(III)I"⟩, 12), (⟨"BurialGround$Ledger", "latestBurial", "(I)I"⟩, 12), (⟨"BurialGround$Ledger", "priceFor", "(II)I"⟩, 12), (⟨"BurialGround$Ledger", "hasReservation", "(II)Z"⟩, 12), (⟨"BurialGround", "bufferDigest", "(J)J"⟩, 6)]
theorem lw_r2 : ∀ q ∈ lw_privs_2, lw_okq q := List.forall_mem_cons.mpr ⟨lw_p16, List.forall_mem_cons.mpr ⟨lw_p17, List.forall_mem_cons.mpr ⟨lw_p18, List.forall_mem_cons.mpr ⟨lw_p19, List.forall_mem_cons.mpr ⟨lw_p20, List.forall_mem_cons.mpr ⟨lw_p21, List.forall_mem_cons.mpr ⟨lw_p22, List.forall_mem_cons.mpr ⟨lw_p23, List.forall_mem_cons.mpr ⟨lw_p24, List.forall_mem_cons.mpr ⟨lw_p25, List.forall_mem_cons.mpr ⟨lw_p26, List.forall_mem_cons.mpr ⟨lw_p27, List.forall_mem_cons.mpr ⟨lw_p28, List.forall_mem_cons.mpr ⟨lw_p29, List.forall_mem_cons.mpr ⟨lw_p30, List.forall_mem_cons.mpr ⟨lw_p31, fun _ h => absurd h List.not_mem_nil⟩⟩⟩⟩⟩⟩⟩⟩⟩⟩⟩⟩⟩⟩⟩⟩
theorem lw_p32 : lw_okq (⟨"java/lang/Throwable", "fillInStackTrace", "(I)Ljava/lang/Throwable;"⟩, 6) := ⟨⟨by decide +kernel, by decide +kernel⟩, List.mem_of_getElem? (i := 402) (by decide +kernel), List.mem_of_getElem? (i := 400) (by decide +kernel), List.mem_of_getElem? (i := 401) (by decide +kernel)⟩
theorem lw_p33 : lw_okq (⟨"BurialGround", "save", "()V"⟩, 6) := ⟨⟨by decide +kernel, by decide +kernel⟩, List.mem_of_getElem? (i := 16) (by decide +kernel), List.mem_of_getElem? (i := 469) (by decide +kernel), List.mem_of_getElem? (i := 470) (by decide +kernel)⟩
theorem lw_p34 : lw_okq (⟨"BurialGround", "dropOldest", "()V"⟩, 6) := ⟨⟨by decide +kernel, by decide +kernel⟩, List.mem_of_getElem? (i := 16) (by decide +kernel), List.mem_of_getElem? (i := 473) (by decide +kernel), List.mem_of_getElem? (i := 474) (by decide +kernel)⟩
theorem lw_p35 : lw_okq (⟨"BurialGround$Ledger", "reachedWithout", "(J)J"⟩, 12) := ⟨⟨by decide +kernel, by decide +kernel⟩, List.mem_of_getElem? (i := 24) (by decide +kernel), List.mem_of_getElem? (i := 529) (by decide +kernel), List.mem_of_getElem? (i := 530) (by decide +kernel)⟩
theorem lw_p36 : lw_okq (⟨"BurialGround$Ledger", "charge", "(II)I"⟩, 12) := ⟨⟨by decide +kernel, by decide +kernel⟩, List.mem_of_getElem? (i := 24) (by decide +kernel), List.mem_of_getElem? (i := 554) (by decide +kernel), List.mem_of_getElem? (i := 555) (by decide +kernel)⟩
theorem lw_p37 : lw_okq (⟨"BurialGround", "carryOutEntries", "()I"⟩, 6) := ⟨⟨by decide +kernel, by decide +kernel⟩, List.mem_of_getElem? (i := 16) (by decide +kernel), List.mem_of_getElem? (i := 608) (by decide +kernel), List.mem_of_getElem? (i := 609) (by decide +kernel)⟩
theorem lw_p38 : lw_okq (⟨"BurialGround", "carryOutEntry", "()Z"⟩, 6) := ⟨⟨by decide +kernel, by decide +kernel⟩, List.mem_of_getElem? (i := 16) (by decide +kernel), List.mem_of_getElem? (i := 612) (by decide +kernel), List.mem_of_getElem? (i := 613) (by decide +kernel)⟩
theorem lw_p39 : lw_okq (⟨"BurialGroundModel", "look", "()V"⟩, 16) := ⟨⟨by decide +kernel, by decide +kernel⟩, List.mem_of_getElem? (i := 711) (by decide +kernel), List.mem_of_getElem? (i := 774) (by decide +kernel), List.mem_of_getElem? (i := 775) (by decide +kernel)⟩
theorem lw_p40 : lw_okq (⟨"BurialGroundModel", "walk", "(I)V"⟩, 16) := ⟨⟨by decide +kernel, by decide +kernel⟩, List.mem_of_getElem? (i := 711) (by decide +kernel), List.mem_of_getElem? (i := 778) (by decide +kernel), List.mem_of_getElem? (i := 779) (by decide +kernel)⟩
theorem lw_p41 : lw_okq (⟨"BurialGroundModel", "buried", "(I)I"⟩, 16) := ⟨⟨by decide +kernel, by decide +kernel⟩, List.mem_of_getElem? (i := 711) (by decide +kernel), List.mem_of_getElem? (i := 785) (by decide +kernel), List.mem_of_getElem? (i := 786) (by decide +kernel)⟩
theorem lw_p42 : lw_okq (⟨"BurialGroundModel", "fails", "(I)I"⟩, 16) := ⟨⟨by decide +kernel, by decide +kernel⟩, List.mem_of_getElem? (i := 711) (by decide +kernel), List.mem_of_getElem? (i := 792) (by decide +kernel), List.mem_of_getElem? (i := 793) (by decide +kernel)⟩
theorem lw_p43 : lw_okq (⟨"BurialGroundModel", "save", "()V"⟩, 16) := ⟨⟨by decide +kernel, by decide +kernel⟩, List.mem_of_getElem? (i := 711) (by decide +kernel), List.mem_of_getElem? (i := 796) (by decide +kernel), List.mem_of_getElem? (i := 797) (by decide +kernel)⟩
theorem lw_p44 : lw_okq (⟨"BurialGroundModel", "keptMany", "()I"⟩, 16) := ⟨⟨by decide +kernel, by decide +kernel⟩, List.mem_of_getElem? (i := 711) (by decide +kernel), List.mem_of_getElem? (i := 804) (by decide +kernel), List.mem_of_getElem? (i := 805) (by decide +kernel)⟩
theorem lw_p45 : lw_okq (⟨"BurialGroundModel", "isKept", "(I)Z"⟩, 16) := ⟨⟨by decide +kernel, by decide +kernel⟩, List.mem_of_getElem? (i := 711) (by decide +kernel), List.mem_of_getElem? (i := 808) (by decide +kernel), List.mem_of_getElem? (i := 809) (by decide +kernel)⟩
theorem lw_p46 : lw_okq (⟨"BurialGroundModel", "reason", "(III)I"⟩, 16) := ⟨⟨by decide +kernel, by decide +kernel⟩, List.mem_of_getElem? (i := 711) (by decide +kernel), List.mem_of_getElem? (i := 826) (by decide +kernel), List.mem_of_getElem? (i := 827) (by decide +kernel)⟩
theorem lw_p47 : lw_okq (⟨"BurialGroundModel", "isOthers", "(II)Z"⟩, 16) := ⟨⟨by decide +kernel, by decide +kernel⟩, List.mem_of_getElem? (i := 711) (by decide +kernel), List.mem_of_getElem? (i := 830) (by decide +kernel), List.mem_of_getElem? (i := 831) (by decide +kernel)⟩
def lw_privs_3 : List (MethodName × Nat) := [(⟨"java/lang/Throwable", "fillInStackTrace", "(I)Ljava/lang/Throwable;"⟩, 6), (⟨"BurialGround", "save", "()V"⟩, 6), (⟨"BurialGround", "dropOldest", "()V"⟩, 6), (⟨"BurialGround$Ledger", "reachedWithout", "(J)J"⟩, 12), (⟨"BurialGround$Ledger", "charge", "(II)I"⟩, 12), (⟨"BurialGround", "carryOutEntries", "()I"⟩, 6), (⟨"BurialGround", "carryOutEntry", "()Z"⟩, 6), (⟨"BurialGroundModel", "look", "()V"⟩, 16), (⟨"BurialGroundModel", "walk", "(I)V"⟩, 16), (⟨"BurialGroundModel", "buried", "(I)I"⟩, 16), (⟨"BurialGroundModel", "fails", "(I)I"⟩, 16), (⟨"BurialGroundModel", "save", "()V"⟩, 16), (⟨"BurialGroundModel", "keptMany", "()I"⟩, 16), (⟨"BurialGroundModel", "isKept", "(I)Z"⟩, 16), (⟨"BurialGroundModel", "reason", "(III)I"⟩, 16), (⟨"BurialGroundModel", "isOthers", "(II)Z"⟩, 16)]
theorem lw_r3 : ∀ q ∈ lw_privs_3, lw_okq q := List.forall_mem_cons.mpr ⟨lw_p32, List.forall_mem_cons.mpr ⟨lw_p33, List.forall_mem_cons.mpr ⟨lw_p34, List.forall_mem_cons.mpr ⟨lw_p35, List.forall_mem_cons.mpr ⟨lw_p36, List.forall_mem_cons.mpr ⟨lw_p37, List.forall_mem_cons.mpr ⟨lw_p38, List.forall_mem_cons.mpr ⟨lw_p39, List.forall_mem_cons.mpr ⟨lw_p40, List.forall_mem_cons.mpr ⟨lw_p41, List.forall_mem_cons.mpr ⟨lw_p42, List.forall_mem_cons.mpr ⟨lw_p43, List.forall_mem_cons.mpr ⟨lw_p44, List.forall_mem_cons.mpr ⟨lw_p45, List.forall_mem_cons.mpr ⟨lw_p46, List.forall_mem_cons.mpr ⟨lw_p47, fun _ h => absurd h List.not_mem_nil⟩⟩⟩⟩⟩⟩⟩⟩⟩⟩⟩⟩⟩⟩⟩⟩
theorem lw_p48 : lw_okq (⟨"BurialGroundModel", "holder", "(I)I"⟩, 16) := ⟨⟨by decide +kernel, by decide +kernel⟩, List.mem_of_getElem? (i := 711) (by decide +kernel), List.mem_of_getElem? (i := 834) (by decide +kernel), List.mem_of_getElem? (i := 835) (by decide +kernel)⟩
theorem lw_p49 : lw_okq (⟨"BurialGroundModel", "isOld", "(II)Z"⟩, 16) := ⟨⟨by decide +kernel, by decide +kernel⟩, List.mem_of_getElem? (i := 711) (by decide +kernel), List.mem_of_getElem? (i := 838) (by decide +kernel), List.mem_of_getElem? (i := 839) (by decide +kernel)⟩
theorem lw_p50 : lw_okq (⟨"BurialGroundModel", "rest", "(I)I"⟩, 16) := ⟨⟨by decide +kernel, by decide +kernel⟩, List.mem_of_getElem? (i := 711) (by decide +kernel), List.mem_of_getElem? (i := 842) (by decide +kernel), List.mem_of_getElem? (i := 843) (by decide +kernel)⟩
theorem lw_p51 : lw_okq (⟨"BurialGroundModel", "deep", "(I)I"⟩, 16) := ⟨⟨by decide +kernel, by decide +kernel⟩, List.mem_of_getElem? (i := 711) (by decide +kernel), List.mem_of_getElem? (i := 846) (by decide +kernel), List.mem_of_getElem? (i := 847) (by decide +kernel)⟩
theorem lw_p52 : lw_okq (⟨"BurialGroundModel", "highest", "(I)I"⟩, 16) := ⟨⟨by decide +kernel, by decide +kernel⟩, List.mem_of_getElem? (i := 711) (by decide +kernel), List.mem_of_getElem? (i := 850) (by decide +kernel), List.mem_of_getElem? (i := 851) (by decide +kernel)⟩
theorem lw_p53 : lw_okq (⟨"BurialGroundModel", "isReached", "(I)Z"⟩, 16) := ⟨⟨by decide +kernel, by decide +kernel⟩, List.mem_of_getElem? (i := 711) (by decide +kernel), List.mem_of_getElem? (i := 854) (by decide +kernel), List.mem_of_getElem? (i := 855) (by decide +kernel)⟩
theorem lw_p54 : lw_okq (⟨"BurialGroundModel", "latest", "(I)I"⟩, 16) := ⟨⟨by decide +kernel, by decide +kernel⟩, List.mem_of_getElem? (i := 711) (by decide +kernel), List.mem_of_getElem? (i := 858) (by decide +kernel), List.mem_of_getElem? (i := 859) (by decide +kernel)⟩
theorem lw_p55 : lw_okq (⟨"BurialGroundModel", "buries", "(III)I"⟩, 16) := ⟨⟨by decide +kernel, by decide +kernel⟩, List.mem_of_getElem? (i := 711) (by decide +kernel), List.mem_of_getElem? (i := 862) (by decide +kernel), List.mem_of_getElem? (i := 863) (by decide +kernel)⟩
theorem lw_p56 : lw_okq (⟨"BurialGroundModel", "price", "(III)I"⟩, 16) := ⟨⟨by decide +kernel, by decide +kernel⟩, List.mem_of_getElem? (i := 711) (by decide +kernel), List.mem_of_getElem? (i := 866) (by decide +kernel), List.mem_of_getElem? (i := 867) (by decide +kernel)⟩
theorem lw_p57 : lw_okq (⟨"BurialGroundModel", "mayReserve", "(II)Z"⟩, 16) := ⟨⟨by decide +kernel, by decide +kernel⟩, List.mem_of_getElem? (i := 711) (by decide +kernel), List.mem_of_getElem? (i := 874) (by decide +kernel), List.mem_of_getElem? (i := 875) (by decide +kernel)⟩
theorem lw_p58 : lw_okq (⟨"BurialGroundModel", "reserves", "(III)I"⟩, 16) := ⟨⟨by decide +kernel, by decide +kernel⟩, List.mem_of_getElem? (i := 711) (by decide +kernel), List.mem_of_getElem? (i := 878) (by decide +kernel), List.mem_of_getElem? (i := 879) (by decide +kernel)⟩
theorem lw_p59 : lw_okq (⟨"BurialGroundModel", "fresh", "(I)I"⟩, 16) := ⟨⟨by decide +kernel, by decide +kernel⟩, List.mem_of_getElem? (i := 711) (by decide +kernel), List.mem_of_getElem? (i := 890) (by decide +kernel), List.mem_of_getElem? (i := 891) (by decide +kernel)⟩
theorem lw_p60 : lw_okq (⟨"BurialGroundModel", "read", "()I"⟩, 16) := ⟨⟨by decide +kernel, by decide +kernel⟩, List.mem_of_getElem? (i := 711) (by decide +kernel), List.mem_of_getElem? (i := 906) (by decide +kernel), List.mem_of_getElem? (i := 907) (by decide +kernel)⟩
theorem lw_p61 : lw_okq (⟨"BurialGroundModel", "next", "(II)I"⟩, 16) := ⟨⟨by decide +kernel, by decide +kernel⟩, List.mem_of_getElem? (i := 711) (by decide +kernel), List.mem_of_getElem? (i := 910) (by decide +kernel), List.mem_of_getElem? (i := 911) (by decide +kernel)⟩
theorem lw_p62 : lw_okq (⟨"BurialGroundModel", "plotNow", "(II)I"⟩, 16) := ⟨⟨by decide +kernel, by decide +kernel⟩, List.mem_of_getElem? (i := 711) (by decide +kernel), List.mem_of_getElem? (i := 926) (by decide +kernel), List.mem_of_getElem? (i := 927) (by decide +kernel)⟩
theorem lw_p63 : lw_okq (⟨"BurialGroundModel", "burialNow", "(III)I"⟩, 16) := ⟨⟨by decide +kernel, by decide +kernel⟩, List.mem_of_getElem? (i := 711) (by decide +kernel), List.mem_of_getElem? (i := 934) (by decide +kernel), List.mem_of_getElem? (i := 935) (by decide +kernel)⟩
def lw_privs_4 : List (MethodName × Nat) := [(⟨"BurialGroundModel", "holder", "(I)I"⟩, 16), (⟨"BurialGroundModel", "isOld", "(II)Z"⟩, 16), (⟨"BurialGroundModel", "rest", "(I)I"⟩, 16), (⟨"BurialGroundModel", "deep", "(I)I"⟩, 16), (⟨"BurialGroundModel", "highest", "(I)I"⟩, 16), (⟨"BurialGroundModel", "isReached", "(I)Z"⟩, 16), (⟨"BurialGroundModel", "latest", "(I)I"⟩, 16), (⟨"BurialGroundModel", "buries", "(III)I"⟩, 16), (⟨"BurialGroundModel", "price", "(III)I"⟩, 16), (⟨"BurialGroundModel", "mayReserve", "(II)Z"⟩, 16), (⟨"BurialGroundModel", "reserves", "(III)I"⟩, 16), (⟨"BurialGroundModel", "fresh", "(I)I"⟩, 16), (⟨"BurialGroundModel", "read", "()I"⟩, 16), (⟨"BurialGroundModel", "next", "(II)I"⟩, 16), (⟨"BurialGroundModel", "plotNow", "(II)I"⟩, 16), (⟨"BurialGroundModel", "burialNow", "(III)I"⟩, 16)]
theorem lw_r4 : ∀ q ∈ lw_privs_4, lw_okq q := List.forall_mem_cons.mpr ⟨lw_p48, List.forall_mem_cons.mpr ⟨lw_p49, List.forall_mem_cons.mpr ⟨lw_p50, List.forall_mem_cons.mpr ⟨lw_p51, List.forall_mem_cons.mpr ⟨lw_p52, List.forall_mem_cons.mpr ⟨lw_p53, List.forall_mem_cons.mpr ⟨lw_p54, List.forall_mem_cons.mpr ⟨lw_p55, List.forall_mem_cons.mpr ⟨lw_p56, List.forall_mem_cons.mpr ⟨lw_p57, List.forall_mem_cons.mpr ⟨lw_p58, List.forall_mem_cons.mpr ⟨lw_p59, List.forall_mem_cons.mpr ⟨lw_p60, List.forall_mem_cons.mpr ⟨lw_p61, List.forall_mem_cons.mpr ⟨lw_p62, List.forall_mem_cons.mpr ⟨lw_p63, fun _ h => absurd h List.not_mem_nil⟩⟩⟩⟩⟩⟩⟩⟩⟩⟩⟩⟩⟩⟩⟩⟩
theorem lw_p64 : lw_okq (⟨"BurialGroundModel", "familyNow", "(II)I"⟩, 16) := ⟨⟨by decide +kernel, by decide +kernel⟩, List.mem_of_getElem? (i := 711) (by decide +kernel), List.mem_of_getElem? (i := 942) (by decide +kernel), List.mem_of_getElem? (i := 943) (by decide +kernel)⟩
theorem lw_p65 : lw_okq (⟨"BurialGroundModel", "counted", "(I)I"⟩, 16) := ⟨⟨by decide +kernel, by decide +kernel⟩, List.mem_of_getElem? (i := 711) (by decide +kernel), List.mem_of_getElem? (i := 950) (by decide +kernel), List.mem_of_getElem? (i := 951) (by decide +kernel)⟩
theorem lw_p66 : lw_okq (⟨"BurialGroundModel", "bestNow", "(I)I"⟩, 16) := ⟨⟨by decide +kernel, by decide +kernel⟩, List.mem_of_getElem? (i := 711) (by decide +kernel), List.mem_of_getElem? (i := 970) (by decide +kernel), List.mem_of_getElem? (i := 971) (by decide +kernel)⟩
theorem lw_p67 : lw_okq (⟨"BurialGroundModel", "clearNow", "(I)I"⟩, 16) := ⟨⟨by decide +kernel, by decide +kernel⟩, List.mem_of_getElem? (i := 711) (by decide +kernel), List.mem_of_getElem? (i := 982) (by decide +kernel), List.mem_of_getElem? (i := 983) (by decide +kernel)⟩
theorem lw_p68 : lw_okq (⟨"BurialGroundModel", "cutNow", "(I)I"⟩, 16) := ⟨⟨by decide +kernel, by decide +kernel⟩, List.mem_of_getElem? (i := 711) (by decide +kernel), List.mem_of_getElem? (i := 990) (by decide +kernel), List.mem_of_getElem? (i := 991) (by decide +kernel)⟩
theorem lw_p69 : lw_okq (⟨"BurialGroundModel", "meanNow", "()D"⟩, 16) := ⟨⟨by decide +kernel, by decide +kernel⟩, List.mem_of_getElem? (i := 711) (by decide +kernel), List.mem_of_getElem? (i := 998) (by decide +kernel), List.mem_of_getElem? (i := 999) (by decide +kernel)⟩
theorem lw_p70 : lw_okq (⟨"BurialGroundModel", "mix", "(J)V"⟩, 16) := ⟨⟨by decide +kernel, by decide +kernel⟩, List.mem_of_getElem? (i := 711) (by decide +kernel), List.mem_of_getElem? (i := 1007) (by decide +kernel), List.mem_of_getElem? (i := 1008) (by decide +kernel)⟩
def lw_privs_5 : List (MethodName × Nat) := [(⟨"BurialGroundModel", "familyNow", "(II)I"⟩, 16), (⟨"BurialGroundModel", "counted", "(I)I"⟩, 16), (⟨"BurialGroundModel", "bestNow", "(I)I"⟩, 16), (⟨"BurialGroundModel", "clearNow", "(I)I"⟩, 16), (⟨"BurialGroundModel", "cutNow", "(I)I"⟩, 16), (⟨"BurialGroundModel", "meanNow", "()D"⟩, 16), (⟨"BurialGroundModel", "mix", "(J)V"⟩, 16)]
theorem lw_r5 : ∀ q ∈ lw_privs_5, lw_okq q := List.forall_mem_cons.mpr ⟨lw_p64, List.forall_mem_cons.mpr ⟨lw_p65, List.forall_mem_cons.mpr ⟨lw_p66, List.forall_mem_cons.mpr ⟨lw_p67, List.forall_mem_cons.mpr ⟨lw_p68, List.forall_mem_cons.mpr ⟨lw_p69, List.forall_mem_cons.mpr ⟨lw_p70, fun _ h => absurd h List.not_mem_nil⟩⟩⟩⟩⟩⟩⟩
def lw_privs : List (MethodName × Nat) := lw_privs_1 ++ (lw_privs_2 ++ (lw_privs_3 ++ (lw_privs_4 ++ (lw_privs_5))))
def lw_tbl : List Cond := k2_sels lw_privs ++ tables_1
theorem lw_privs_ok : ∀ q ∈ lw_privs, lw_okq q := by
  show ∀ q ∈ lw_privs_1 ++ (lw_privs_2 ++ (lw_privs_3 ++ (lw_privs_4 ++ (lw_privs_5)))), lw_okq q
  exact List.forall_mem_append.mpr ⟨lw_r1, List.forall_mem_append.mpr ⟨lw_r2, List.forall_mem_append.mpr ⟨lw_r3, List.forall_mem_append.mpr ⟨lw_r4, lw_r5⟩⟩⟩⟩
/-- the streams that the claim lets the run draw from -/
abbrev lw_cs : List Choice := [Jvm.Choice.named "NaN.bits"]
theorem lw_bits : nanBits ∈ lw_cs := by first | decide | exact List.mem_cons_self | simp [lw_cs, nanBits]
end
section
/-! ===== BEGIN words of one list among another's, by their places ===== -/
theorem goodIn_r {big : List Cond} (ws : List Cond) (ps : List Nat) (hp : ws = ps.filterMap (fun i => big[i]?)) (h : ws.all goodWord = true) : GoodIn big ws := by
  intro w hw
  have h1 := List.all_eq_true.mp h w hw
  rw [hp] at hw
  obtain ⟨i, -, hi⟩ := List.mem_filterMap.mp hw
  have hm : w ∈ big := by first | exact List.mem_of_getElem? hi | exact List.getElem?_mem hi
  exact ⟨hm, good_of_word h1⟩
theorem goodIn_app {big a b : List Cond} (ha : GoodIn big a) (hb : GoodIn big b) : GoodIn big (a ++ b) := fun w h => (List.mem_append.mp h).elim (ha w) (hb w)
theorem goodIn_ca {big a b : List Cond} {c : Cond} (ha : GoodIn big (c :: a)) (hb : GoodIn big b) : GoodIn big (c :: (a ++ b)) := fun w h => (List.mem_cons.mp h).elim (fun e => ha w (List.mem_cons.mpr (Or.inl e))) (fun h => (List.mem_append.mp h).elim (fun h => ha w (List.mem_cons.mpr (Or.inr h))) (hb w))
theorem goodIn_sub {big ws : List Cond} (hm : ∀ w ∈ ws, w ∈ big) (h : ws.all goodWord = true) : GoodIn big ws := fun w hw => ⟨hm w hw, good_of_word (List.all_eq_true.mp h w hw)⟩
/-! ===== END ===== -/

/-! ===== BEGIN exceptions that leave a method, and their catching by the caller (launches without stack traces) ===== -/
section VXA
/-! The laws vx_back, vx_callV, vx_callS, vx_callSW, vx_throw0, vx_throwS follow proofs of the library, with one case more: JvmDerived/Free/Laws.lean (Back.of_free), Shelf42/LK1.lean (callV, callS), Shelf/KitTraced.lean (throwNew0V, throwNewS). -/
/-- where a method has thrown q: the class by its name, the cell, what was written, the world -/
def vx_T (XC : String → State → State → Prop) (st : State) (q : Addr) (t : State) (mc ms : Nat) (free : Addr → Prop) : Prop :=
  ∃ (E : String) (ce : Cell) (L : List Loc), XC E st t ∧ t.heap[q]? = some ce ∧ ce.vm = .none ∧ st.vm.findClass E = some ce.cls ∧ st.WarmedH t.vm ∧ st.sameButNew ({ t with vm := st.vm } : State) L mc ms ∧ ∀ z ∈ L, free z.base
def vx_Q (Qc : Array Value → State → Outcome → State → Prop) (XC : String → State → State → Prop) (mc ms : Nat) (free : Addr → Prop) : Array Value → State → Outcome → State → Prop := fun a st o t =>
  (Qc a st o t ∧ ∃ L, FrameEnd st o t L mc ms ∧ ∀ q ∈ L, free q.base) ∨ ∃ q, o = .threw q ∧ vx_T XC st q t mc ms free
/-- a callee that returns or throws -/
def vx_Met (l : Launch) (y : MethodName) (ws : List Cond) (rm : Room) (Pc : Array Value → State → Prop) (Qc : Array Value → State → Outcome → State → Prop) (XC : String → State → State → Prop) (mc ms : Nat) (free : Addr → Prop) : Prop :=
  MetFree l y (headSpec ws rm) Pc (fun _ _ _ _ _ => True) (vx_Q Qc XC mc ms free)
def vx_Post (XC : String → State → State → Prop) (mc ms : Nat) (free : Addr → Prop) : Pt → Array Value → Addr → Pt → Prop := fun A a q B =>
  ∃ (g : JFrame) (mk : MethodId) (t : State) (L : List Loc) (E : String) (ce : Cell), B.U.heap = t.heap ∧ B.U.vm = t.vm ∧ XC E (A.U.calling g mk a) t ∧ t.heap[q]? = some ce ∧ ce.vm = .none ∧ A.U.vm.findClass E = some ce.cls ∧ B.locs = A.locs ++ L ∧ (∀ z ∈ L, free z.base) ∧ B.cells = A.cells + mc ∧ B.slots = A.slots + ms
def vx_Back (l : Launch) (R : Room) (p : Program) (e : Env) (below : List Frame) (s : State) (sargs : Array Value) (y : MethodName) (len W9 : Nat)
    (Pre : Pt → Array Value → Prop) (Post : Pt → Array Value → Option Value → Pt → Prop) (PostX : Pt → Array Value → Addr → Pt → Prop) : Prop :=
  ∀ (m : MethodId) (meth : Method) (c : Code) (A : Pt) (g : JFrame) (ig : Instr) (mk : MethodId) (a : Array Value),
    Stand p l e R s m sargs below meth c A.U A.locs A.cells A.slots → g.method = m → g.locals.size = c.maxLocals → decode c.code g.pc = .ok (ig, len) →
    2 * g.monitorRoom + (g.stack.map fun v => v.category).sum ≤ W9 → A.U.methodNamed? y = some mk → Pre A a →
    (∃ (v : Option Value) (B : Pt), Stand p l e R s m sargs below meth c B.U B.locs B.cells B.slots ∧ Post A a v B ∧
      Steps p.tables e below (doInvoke e (A.U.setTop g) [] mk a).1 (B.U.setTop { g with pc := g.pc + len, stack := v.toList ++ g.stack })) ∨
    (∃ (q : Addr) (B : Pt), Stand p l e R s m sargs below meth c B.U B.locs B.cells B.slots ∧ PostX A a q B ∧
      Steps p.tables e below (doInvoke e (A.U.setTop g) [] mk a).1 ((B.U.setTop g).pushFrame (.throwing q)))
section Payer
variable {l : Launch} {R : Room} {p : Program} {e : Env} {below : List Frame} {s : State} {sargs : Array Value} {y : MethodName} {len W9 : Nat}
theorem vx_back {ws : List Cond} {rm : Room} {Pc : Array Value → State → Prop} {Qc : Array Value → State → Outcome → State → Prop} {XC : String → State → State → Prop} {mc ms : Nat} {free : Addr → Prop} {bytes : ByteArray} {maxL : Nat} {ret : Option FieldType}
    (hM : vx_Met l y ws rm Pc Qc XC mc ms free) (hblind : FrameBlind Pc) (hrc : rm.cells = mc) (hrs : rm.slots = ms)
    (hframes : rm.frames + 1 ≤ R.frames) (hlocals : W9 + (maxL + 11) + rm.locals ≤ R.locals)
    (hws : ∀ w ∈ ws, ∀ a' U, s.WarmedH U.vm → w.before a' U = true) (hcode : Cond.code y bytes maxL ret ∈ ws) (hinit : ∀ a' U, s.WarmedH U.vm → (Cond.initialized y.cls).before a' U = true) :
    vx_Back l R p e below s sargs y len W9 (PreOf R mc ms Pc) (PostOf Qc mc ms free) (vx_Post XC mc ms free) := by
  intro m meth c A g ig mk a X hg hsize hdg hW hn hp
  have h1 : (headSpec ws rm).pre.before a A.U = true := atoms_intro fun w hw => hws w hw _ _ X.warmed
  have h2 : (Cond.code y bytes maxL ret).before a A.U = true := hws _ hcode _ _ X.warmed
  have h3 : (Cond.initialized y.cls).before a A.U = true := hinit _ _ X.warmed
  have h4 : A.cells + (headSpec ws rm).room.cells ≤ R.cells := by rw [show (headSpec ws rm).room.cells = mc from hrc]; exact hp.1
  have h5 : A.slots + (headSpec ws rm).room.slots ≤ R.slots := by rw [show (headSpec ws rm).room.slots = ms from hrs]; exact hp.2.1
  have hPc : Pc a (A.U.calling g mk a) := hblind _ _ _ _ hp.2.2
  obtain ⟨U, Ls, c0, s0⟩ := A
  dsimp only [Pt.U, Pt.locs, Pt.cells, Pt.slots] at h1 h2 h3 h4 h5 X hn hPc ⊢
  obtain ⟨methY, cY, hmY, hcY, -, hlY, -, -, -, -⟩ := Cond.code_spec hn h2
  obtain ⟨kY, hkY, -⟩ := className_of_methodNamed hn
  have hinitY : kY.init = .initialized := Cond.initialized_spec (findClass_of_methodNamed hn) hkY h3
  have h : At U g.method c below := by rw [hg]; exact X.here
  have hlocals9 : W9 + (maxL + 11) + (headSpec ws rm).room.locals ≤ R.locals := hlocals
  have happ : (headSpec ws rm).appliesLoose y e.platform (U.calling g mk a) = true :=
    Spec.appliesLoose_calling (g := g) h hdg hn hkY hinitY
      (X.room_calling (g := g) (R' := (headSpec ws rm).room) hsize hmY hcY hframes (by rw [hlY]; omega) h4 h5) h1
  obtain ⟨mid, hmid⟩ := h.above
  have hfr : (U.setTop g).frames = (.java g :: mid) ++ below := by rw [State.frames_setTop' g h.top, hmid]; rfl
  obtain ⟨o, s₂, hsteps, -, hend, hq⟩ := Steps.callFree hM p X.admits X.cas X.clock (acts := []) hfr happ hPc trivial
  have hq' : vx_Q Qc XC mc ms free a (U.calling g mk a) o s₂ := hq
  rw [State.frames_setTop' g h.top] at hend
  obtain ⟨g₀, hg0⟩ := Option.isSome_iff_exists.mp h.top
  obtain ⟨r, hr⟩ := State.topJava?_eq_some.mp hg0
  have hr' : (({ U with heap := s₂.heap, slotsUsed := s₂.slotsUsed } : State).setVm s₂.vm).frames = .java g₀ :: r := hr
  rcases hq' with ⟨hqc, L, hfe, hL⟩ | ⟨q, rfl, E, ce, L, hx, hce, hcv, hcl, hW₂, hsm, hL⟩
  · obtain ⟨⟨v, rfl⟩, hW₂, e2, q2, q3, q4, q5, q6⟩ := id hfe
    have e3 : s₂ = ({ (U.calling g mk a).setFrames s₂.frames with heap := s₂.heap, slotsUsed := s₂.slotsUsed } : State).setVm s₂.vm := by
      have : s₂ = ({ s₂ with vm := (U.calling g mk a).vm } : State).setVm s₂.vm := rfl
      rw [e2] at this
      exact this
    obtain ⟨c₂, i₂, len₂, hc₂, hd₂, hf₂⟩ := hend
    have hW' : U.WarmedH s₂.vm := hW₂
    have hcc : c₂ = c := by
      have h1 : s₂.code? g.method = U.code? g.method := by
        rw [State.code?_eq, State.code?_eq, hW'.alike.method?]
      exact Option.some.inj (hc₂.symm.trans (h1.trans h.code))
    subst hcc
    have hlen : len₂ = len := by rw [hdg] at hd₂; cases hd₂; rfl
    subst hlen
    have hs₂ : s₂ = (({ U with heap := s₂.heap, slotsUsed := s₂.slotsUsed } : State).setVm s₂.vm).setTop { g with pc := g.pc + len₂, stack := v.toList ++ g.stack } := by
      refine e3.trans ?_
      rw [hf₂, State.calling_eq h.top, State.setFrames_setFrames, State.setTop_of_frames _ hr', hr]
      rfl
    have hsame : U.sameButNew ({ U with heap := s₂.heap, slotsUsed := s₂.slotsUsed } : State) L mc ms := by
      refine ⟨?_, q2, q3, q4, q5, q6⟩
      obtain ⟨t, ht, -⟩ := State.frames_cons hr
      show ({ U with heap := s₂.heap, slotsUsed := s₂.slotsUsed } : State) = { U.setFrames U.frames with heap := s₂.heap, slotsUsed := s₂.slotsUsed }
      rw [State.setFrames_self ht]
    subst hg
    refine Or.inl ⟨v, ⟨(({ U with heap := s₂.heap, slotsUsed := s₂.slotsUsed } : State).setVm s₂.vm), Ls ++ L, c0 + mc, s0 + ms⟩,
      ⟨X.admits, X.cas, X.clock, X.frames, X.room, X.hears, X.method, X.code, (X.here.setHeapUsed s₂.heap s₂.slotsUsed).setVm hW'.alike, X.tail, State.WarmedH.trans X.warmed hW', X.limits, X.bytes, X.same.trans (hsame.setVm s.vm)⟩,
      ⟨g, mk, s₂, L, rfl, rfl, hqc, rfl, hL, rfl, rfl⟩, ?_⟩
    show Steps p.tables e below _ ((({ U with heap := s₂.heap, slotsUsed := s₂.slotsUsed } : State).setVm s₂.vm).setTop { g with pc := g.pc + len₂, stack := v.toList ++ g.stack })
    rw [← hs₂]
    exact hsteps
  · obtain ⟨e2, q2, q3, q4, q5, q6⟩ := id hsm
    have e3 : s₂ = ({ (U.calling g mk a).setFrames s₂.frames with heap := s₂.heap, slotsUsed := s₂.slotsUsed } : State).setVm s₂.vm := by
      have : s₂ = ({ s₂ with vm := (U.calling g mk a).vm } : State).setVm s₂.vm := rfl
      rw [e2] at this
      exact this
    have hf₂ : s₂.frames = .throwing q :: .java g :: U.frames.tail := hend
    have hW' : U.WarmedH s₂.vm := hW₂
    have hs₂ : s₂ = ((({ U with heap := s₂.heap, slotsUsed := s₂.slotsUsed } : State).setVm s₂.vm).setTop g).pushFrame (.throwing q) := by
      refine e3.trans ?_
      rw [hf₂, State.calling_eq h.top, State.setFrames_setFrames, State.pushFrame, State.frames_setTop _ hr', State.setTop_of_frames _ hr', State.setFrames_setFrames, hr]
      rfl
    have hsame : U.sameButNew ({ U with heap := s₂.heap, slotsUsed := s₂.slotsUsed } : State) L mc ms := by
      refine ⟨?_, q2, q3, q4, q5, q6⟩
      obtain ⟨t, ht, -⟩ := State.frames_cons hr
      show ({ U with heap := s₂.heap, slotsUsed := s₂.slotsUsed } : State) = { U.setFrames U.frames with heap := s₂.heap, slotsUsed := s₂.slotsUsed }
      rw [State.setFrames_self ht]
    subst hg
    refine Or.inr ⟨q, ⟨(({ U with heap := s₂.heap, slotsUsed := s₂.slotsUsed } : State).setVm s₂.vm), Ls ++ L, c0 + mc, s0 + ms⟩,
      ⟨X.admits, X.cas, X.clock, X.frames, X.room, X.hears, X.method, X.code, (X.here.setHeapUsed s₂.heap s₂.slotsUsed).setVm hW'.alike, X.tail, State.WarmedH.trans X.warmed hW', X.limits, X.bytes, X.same.trans (hsame.setVm s.vm)⟩,
      ⟨g, mk, s₂, L, E, ce, rfl, rfl, hx, hce, hcv, hcl, rfl, hL, rfl, rfl⟩, ?_⟩
    show Steps p.tables e below _ (((({ U with heap := s₂.heap, slotsUsed := s₂.slotsUsed } : State).setVm s₂.vm).setTop g).pushFrame (.throwing q))
    rw [← hs₂]
    exact hsteps
end Payer
section Calls
variable {p : Program} {l : Launch} {e : Env} {R : Room} {s : State} {m : MethodId} {args : Array Value} {below : List Frame} {meth : Method} {c : Code} {T : State} {locs : List Loc} {cells slots : Nat}
theorem vx_callV (X : Stand p l e R s m args below meth c T locs cells slots) (hexec : p.tables.exec = Jvm.exec) {own C : String} {index : Nat} {y : MethodName} {bytes : ByteArray} {maxL : Nat} {ret : Option FieldType}
    (hown : s.vm.findClass own = some m.cls) (hlink : (Cond.methodLink own index y).before args s = true) (hinst : (Cond.instanceMethod y).before args s = true) (hsel : (Cond.selects C y y).before args s = true)
    (hcode : (Cond.code y bytes maxL ret).before args s = true) (hy : y.cls ≠ "java/lang/invoke/MethodHandle" ∧ y.cls ≠ "java/lang/invoke/VarHandle")
    {W9 : Nat} {Pre : Pt → Array Value → Prop} {Post : Pt → Array Value → Option Value → Pt → Prop} {PostX : Pt → Array Value → Addr → Pt → Prop} (hK : vx_Back l R p e below s args y 3 W9 Pre Post PostX)
    {b : Addr} {cellB : Cell} (hcell : T.heap[b]? = some cellB) (hobj : cellB.vm.isStatics = false) (hcls : s.vm.findClass C = some cellB.cls)
    {g : JFrame} (hg : g.method = m) (hsize : g.locals.size = c.maxLocals) {argsL rest : List Value} (hlen : ∀ sig, parseMethodDescriptor y.desc = some sig → argsL.length = sig.parameters.length)
    (hstack : g.stack = argsL.reverse ++ .ref b :: rest) (hW : 2 * g.monitorRoom + (rest.map fun v => v.category).sum ≤ W9) (hdg : decode c.code g.pc = .ok (.invokevirtual index, 3))
    (hpre : ∀ vm₁, s.WarmedH vm₁ → Pre ⟨T.setVm vm₁, locs, cells, slots⟩ (Value.ref b :: argsL).toArray) :
    (∃ (v : Option Value) (vm₁ : Vm) (B : Pt), s.WarmedH vm₁ ∧ Stand p l e R s m args below meth c B.U B.locs B.cells B.slots ∧ Post ⟨T.setVm vm₁, locs, cells, slots⟩ (Value.ref b :: argsL).toArray v B ∧
      ∀ target, Steps p.tables e below (B.U.setTop { g with pc := g.pc + 3, stack := v.toList ++ rest }) target → Steps p.tables e below (T.setTop g) target) ∨
    (∃ (q : Addr) (vm₁ : Vm) (B : Pt), s.WarmedH vm₁ ∧ Stand p l e R s m args below meth c B.U B.locs B.cells B.slots ∧ PostX ⟨T.setVm vm₁, locs, cells, slots⟩ (Value.ref b :: argsL).toArray q B ∧
      Steps p.tables e below (T.setTop g) ((B.U.setTop { g with stack := rest }).pushFrame (.throwing q))) := by
  obtain ⟨mk, methM, hnamed, hmethM, hstM, habM⟩ := Cond.instanceMethod_spec hinst
  obtain ⟨methM', cM, hmethM', -, -, -, -, -, -, hsigM⟩ := Cond.code_spec hnamed hcode
  cases hmethM.symm.trans hmethM'
  obtain ⟨c2, r2, m2, q1, q2, q3, q4, kP, hkP, hkPi⟩ := Cond.selects_spec hsel
  cases hcls.symm.trans q1
  cases (State.methodFound?_of_named hnamed hy).symm.trans q2
  cases hnamed.symm.trans q3
  have hselP : selectMethod e.platform s.vm cellB.cls mk = .method mk := by rw [Launch.admits_selectMethod X.admits]; exact q4
  obtain ⟨vm₁, X₁, hstep₁⟩ := X.invokevirtual hexec hown hlink hnamed hmethM hstM hkP hkPi hy (a := b) (cell := cellB) hcell
    (fun z h => by rw [h] at hobj; cases hobj) hselP hmethM habM hkP hkPi (g := g) hg (argsL := argsL) (rest := rest) (hlen _ hsigM) hstack hdg
  rcases hK m meth c ⟨T.setVm vm₁, locs, cells, slots⟩ { g with stack := rest } (.invokevirtual index) mk (Value.ref b :: argsL).toArray X₁ hg hsize hdg hW (X₁.named hnamed) (hpre vm₁ X₁.warmed) with ⟨v, B, X', hpost, hsteps⟩ | ⟨q, B, X', hpost, hsteps⟩
  · exact Or.inl ⟨v, vm₁, B, X₁.warmed, X', hpost, fun target h => hstep₁ _ fun acts => by rw [doInvoke_state]; exact hsteps.trans h⟩
  · exact Or.inr ⟨q, vm₁, B, X₁.warmed, X', hpost, hstep₁ _ fun acts => by rw [doInvoke_state]; exact hsteps⟩
theorem vx_callS (X : Stand p l e R s m args below meth c T locs cells slots) (hexec : p.tables.exec = Jvm.exec) {own : String} {index : Nat} {y : MethodName} {bytes : ByteArray} {maxL : Nat} {ret : Option FieldType}
    (hown : s.vm.findClass own = some m.cls) (hlink : (Cond.methodLink own index y).before args s = true) (hstat : (Cond.static y).before args s = true) (hinit : (Cond.initialized y.cls).before args s = true)
    (hcode : (Cond.code y bytes maxL ret).before args s = true) (hy : y.cls ≠ "java/lang/invoke/MethodHandle" ∧ y.cls ≠ "java/lang/invoke/VarHandle")
    {W9 : Nat} {Pre : Pt → Array Value → Prop} {Post : Pt → Array Value → Option Value → Pt → Prop} {PostX : Pt → Array Value → Addr → Pt → Prop} (hK : vx_Back l R p e below s args y 3 W9 Pre Post PostX)
    {g : JFrame} (hg : g.method = m) (hsize : g.locals.size = c.maxLocals) {argsL rest : List Value} (hlen : ∀ sig, parseMethodDescriptor y.desc = some sig → argsL.length = sig.parameters.length)
    (hstack : g.stack = argsL.reverse ++ rest) (hW : 2 * g.monitorRoom + (rest.map fun v => v.category).sum ≤ W9) (hdg : decode c.code g.pc = .ok (.invokestatic index, 3))
    (hpre : ∀ vm₁, s.WarmedH vm₁ → Pre ⟨T.setVm vm₁, locs, cells, slots⟩ argsL.toArray) :
    (∃ (v : Option Value) (vm₁ : Vm) (B : Pt), s.WarmedH vm₁ ∧ Stand p l e R s m args below meth c B.U B.locs B.cells B.slots ∧ Post ⟨T.setVm vm₁, locs, cells, slots⟩ argsL.toArray v B ∧
      ∀ target, Steps p.tables e below (B.U.setTop { g with pc := g.pc + 3, stack := v.toList ++ rest }) target → Steps p.tables e below (T.setTop g) target) ∨
    (∃ (q : Addr) (vm₁ : Vm) (B : Pt), s.WarmedH vm₁ ∧ Stand p l e R s m args below meth c B.U B.locs B.cells B.slots ∧ PostX ⟨T.setVm vm₁, locs, cells, slots⟩ argsL.toArray q B ∧
      Steps p.tables e below (T.setTop g) ((B.U.setTop { g with stack := rest }).pushFrame (.throwing q))) := by
  obtain ⟨mk, hnamed⟩ := Cond.code_named hcode
  obtain ⟨methM, cM, hmethM, -, -, -, -, -, -, hsigM⟩ := Cond.code_spec hnamed hcode
  have hstatic : methM.isStatic = true := Cond.static_spec hnamed hmethM hstat
  obtain ⟨kP, hkP, -⟩ := className_of_methodNamed hnamed
  have hinitP : kP.init = .initialized := Cond.initialized_spec (findClass_of_methodNamed hnamed) hkP hinit
  obtain ⟨vm₁, X₁, hstep₁⟩ := X.invokestatic hexec hown hlink hnamed hmethM hstatic hkP hinitP hy (g := g) hg (argsL := argsL) (rest := rest) (hlen _ hsigM) hstack hdg
  rcases hK m meth c ⟨T.setVm vm₁, locs, cells, slots⟩ { g with stack := rest } (.invokestatic index) mk argsL.toArray X₁ hg hsize hdg hW (X₁.named hnamed) (hpre vm₁ X₁.warmed) with ⟨v, B, X', hpost, hsteps⟩ | ⟨q, B, X', hpost, hsteps⟩
  · exact Or.inl ⟨v, vm₁, B, X₁.warmed, X', hpost, fun target h => hstep₁ _ fun acts => by rw [doInvoke_state]; exact hsteps.trans h⟩
  · exact Or.inr ⟨q, vm₁, B, X₁.warmed, X', hpost, hstep₁ _ fun acts => by rw [doInvoke_state]; exact hsteps⟩
end Calls
theorem vx_cls {s : State} {T : State} {vm₁ : Vm} {E : String} {k : ClassId} (hW : s.WarmedH vm₁) (h : (T.setVm vm₁).vm.findClass E = some k) : s.vm.findClass E = some k := by
  have h1 : vm₁.findClass E = some k := h
  rw [hW.alike.findClass] at h1
  exact h1
/-- the method's frame g, with q thrown over it -/
def vx_W (p : Program) (l : Launch) (e : Env) (R : Room) (s : State) (m : MethodId) (args : Array Value) (below : List Frame) (meth : Method) (c : Code) (H : Heap) (locs : List Loc) (cells slots : Nat) (Q : State → Prop) (g : JFrame) (q : Addr) : Prop :=
  ∀ T : State, T.heap = H → Stand p l e R s m args below meth c T locs cells slots → ∃ t, Steps p.tables e below ((T.setTop g).pushFrame (.throwing q)) t ∧ Q t
def vx_Run (p : Program) (l : Launch) (e : Env) (R : Room) (s : State) (m : MethodId) (args : Array Value) (below : List Frame) (meth : Method) (c : Code) (H : Heap) (locs : List Loc) (cells slots mc ms : Nat) (g : JFrame) (rest : List Value) (Qa : State → Outcome → State → Prop) (XC : String → State → State → Prop) (free : Addr → Prop) : Prop :=
  ∀ T : State, T.heap = H → Stand p l e R s m args below meth c T locs cells slots →
    (∃ (v : Option Value) (st₀ t T' : State) (L : List Loc), st₀.heap = H ∧ Stand p l e R s m args below meth c T' (locs ++ L) (cells + mc) (slots + ms) ∧ (∀ q ∈ L, free q.base) ∧ T'.heap = t.heap ∧ T'.vm = t.vm ∧ Qa st₀ (.returned v) t ∧
      Goes p e below T g T' { g with pc := g.pc + 3, stack := v.toList ++ rest }) ∨
    (∃ (q : Addr) (st₀ t T' : State) (L : List Loc) (E : String) (ce : Cell), st₀.heap = H ∧ Stand p l e R s m args below meth c T' (locs ++ L) (cells + mc) (slots + ms) ∧ (∀ z ∈ L, free z.base) ∧ T'.heap = t.heap ∧ T'.vm = t.vm ∧ XC E st₀ t ∧ t.heap[q]? = some ce ∧ ce.vm = .none ∧ s.vm.findClass E = some ce.cls ∧
      Steps p.tables e below (T.setTop g) ((T'.setTop { g with stack := rest }).pushFrame (.throwing q)))
def vx_X {S : Type} (px : S → Prop) (B : String → S → State → Prop) (A : Nat → Prop) : String → State → State → Prop := fun E st t => ∃ u : S, px u ∧ B E u t ∧ va_F A st t
section Runs
variable {p : Program} {l : Launch} {e : Env} {R : Room} {s : State} {m : MethodId} {args : Array Value} {below : List Frame} {meth : Method} {c : Code} {H : Heap} {locs : List Loc} {cells slots : Nat}
variable {y : MethodName} {bytes cc : ByteArray} {maxL nL mc ms n index : Nat} {ret : Option FieldType} {ws : List Cond} {rm : Room} {Pc : Array Value → State → Prop} {Qc : Array Value → State → Outcome → State → Prop} {XC : String → State → State → Prop} {free : Addr → Prop} {Ts : List Cond} {own C : String} {b : Addr} {As rest : List Value} {g : JFrame}
theorem vx_callBack (cb : CallB R s args own index y bytes maxL ret ws rm mc ms n) (hM : vx_Met l y ws rm Pc Qc XC mc ms free) (hbl : FrameBlind Pc) : vx_Back l R p e below s args y 3 8 (PreOf R mc ms Pc) (PostOf Qc mc ms free) (vx_Post XC mc ms free) := by
  obtain ⟨hrc, hrs, hfr, hlo, hws, hcw, -, hini, -⟩ := cb
  exact vx_back (bytes := bytes) (maxL := maxL) (ret := ret) hM hbl hrc hrs hfr hlo hws hcw (fun a' U hW => word_at hW (Or.inl (by first | rfl | simp [Cond.onTables, Cond.keeps, Cond.steady])) hini)
theorem vx_runV (S : CallFix p m c cc nL s args Ts own) (hM : vx_Met l y ws rm Pc Qc XC mc ms free) (cw : CallW R s args own C index y bytes maxL ret ws rm mc ms n) (hp : PreV s H C b Pc As)
    (hg : g.method = m) (hn : As.length = n) (hsize : g.locals.size = nL) (hstack : g.stack = As.reverse ++ .ref b :: rest) (hW : 2 * g.monitorRoom + (rest.map fun v => v.category).sum ≤ 8) (hdg : decode cc g.pc = .ok (.invokevirtual index, 3)) (hf : cells + mc ≤ R.cells ∧ slots + ms ≤ R.slots) :
    vx_Run p l e R s m args below meth c H locs cells slots mc ms g rest (Qc (Value.ref b :: As).toArray) XC free := by
  have hK : vx_Back l R p e below s args y 3 8 (PreOf R mc ms Pc) (PostOf Qc mc ms free) (vx_Post XC mc ms free) := vx_callBack cw.1 hM hp.1
  obtain ⟨⟨-, -, -, -, -, -, hcode, -, hy, hlen, hl⟩, hin, hse⟩ := cw
  obtain ⟨hx, hb, hml, ho, -⟩ := S
  obtain ⟨-, ⟨cellB, hcB, hoB, hclB⟩, hPc⟩ := hp
  intro T hT X
  rcases vx_callV X hx (C := C) (bytes := bytes) (maxL := maxL) (ret := ret) ho hl hin hse hcode hy hK (by rw [hT]; exact hcB) hoB hclB hg (hsize.trans hml.symm) (argsL := As) (rest := rest) (fun sig h => hn.trans (hlen sig h)) hstack hW (by rw [hb]; exact hdg)
    (fun vm₁ hW₁ => ⟨hf.1, hf.2, hPc (T.setVm vm₁) hT hW₁⟩) with ⟨v, vm₁, ⟨U', l2, c2, s2⟩, hW₁, X', ⟨g', mk, t, L, e1, e2, hq, h1, hL, h2, h3⟩, st⟩ | ⟨q, vm₁, ⟨U', l2, c2, s2⟩, hW₁, X', ⟨g', mk, t, L, E, ce, e1, e2, hq, hce, hcv, hcl, h1, hL, h2, h3⟩, st⟩
  · dsimp only [Pt.U, Pt.locs, Pt.cells, Pt.slots] at X' e1 e2 h1 h2 h3 st
    subst h1; subst h2; subst h3
    exact Or.inl ⟨v, (T.setVm vm₁).calling g' mk (Value.ref b :: As).toArray, t, U', L, hT, X', hL, e1, e2, hq, st⟩
  · dsimp only [Pt.U, Pt.locs, Pt.cells, Pt.slots] at X' e1 e2 h1 h2 h3 st hcl
    subst h1; subst h2; subst h3
    exact Or.inr ⟨q, (T.setVm vm₁).calling g' mk (Value.ref b :: As).toArray, t, U', L, E, ce, hT, X', hL, e1, e2, hq, hce, hcv, vx_cls hW₁ hcl, st⟩
theorem vx_runS (S : CallFix p m c cc nL s args Ts own) (hM : vx_Met l y ws rm Pc Qc XC mc ms free) (cw : CallB R s args own index y bytes maxL ret ws rm mc ms n ∧ (Cond.static y).before args s = true) (hp : PreS s H Pc As)
    (hg : g.method = m) (hn : As.length = n) (hsize : g.locals.size = nL) (hstack : g.stack = As.reverse ++ rest) (hW : 2 * g.monitorRoom + (rest.map fun v => v.category).sum ≤ 8) (hdg : decode cc g.pc = .ok (.invokestatic index, 3)) (hf : cells + mc ≤ R.cells ∧ slots + ms ≤ R.slots) :
    vx_Run p l e R s m args below meth c H locs cells slots mc ms g rest (Qc As.toArray) XC free := by
  have hK : vx_Back l R p e below s args y 3 8 (PreOf R mc ms Pc) (PostOf Qc mc ms free) (vx_Post XC mc ms free) := vx_callBack cw.1 hM hp.1
  obtain ⟨⟨-, -, -, -, -, -, hcode, hini, hy, hlen, hl⟩, hstt⟩ := cw
  obtain ⟨hx, hb, hml, ho, -⟩ := S
  intro T hT X
  rcases vx_callS X hx (bytes := bytes) (maxL := maxL) (ret := ret) ho hl hstt hini hcode hy hK hg (hsize.trans hml.symm) (argsL := As) (rest := rest) (fun sig h => hn.trans (hlen sig h)) hstack hW (by rw [hb]; exact hdg)
    (fun vm₁ hW₁ => ⟨hf.1, hf.2, hp.2 (T.setVm vm₁) hT hW₁⟩) with ⟨v, vm₁, ⟨U', l2, c2, s2⟩, hW₁, X', ⟨g', mk, t, L, e1, e2, hq, h1, hL, h2, h3⟩, st⟩ | ⟨q, vm₁, ⟨U', l2, c2, s2⟩, hW₁, X', ⟨g', mk, t, L, E, ce, e1, e2, hq, hce, hcv, hcl, h1, hL, h2, h3⟩, st⟩
  · dsimp only [Pt.U, Pt.locs, Pt.cells, Pt.slots] at X' e1 e2 h1 h2 h3 st
    subst h1; subst h2; subst h3
    exact Or.inl ⟨v, (T.setVm vm₁).calling g' mk As.toArray, t, U', L, hT, X', hL, e1, e2, hq, st⟩
  · dsimp only [Pt.U, Pt.locs, Pt.cells, Pt.slots] at X' e1 e2 h1 h2 h3 st hcl
    subst h1; subst h2; subst h3
    exact Or.inr ⟨q, (T.setVm vm₁).calling g' mk As.toArray, t, U', L, E, ce, hT, X', hL, e1, e2, hq, hce, hcv, vx_cls hW₁ hcl, st⟩
end Runs
section Rows
variable {p : Program} {l : Launch} {e : Env} {R : Room} {s : State} {m : MethodId} {args : Array Value} {below : List Frame} {meth : Method} {c : Code} {H : Heap} {locs : List Loc} {cells slots : Nat} {Q : State → Prop}
variable {mc ms : Nat} {free : Addr → Prop} {A0 A1 : Nat → Prop} {H0 : Heap} {a : Array Value} {pc : Nat} {ls : Array Slot} {st0 rest : List Value}
theorem vx_keep {st₀ t T' : State} {L : List Loc} (h0 : st₀.heap = H) (e1 : T'.heap = t.heap) (hS : va_S A0 H0 H locs) (hA : ∀ q, q < H.size → A1 q → A0 q) (hf : ∀ q, free q → A0 q) (hL : ∀ q ∈ L, free q.base) (hF : va_F A1 st₀ t) :
    H.size ≤ T'.heap.size ∧ (∀ q : Nat, q < H.size → ¬ A1 q → T'.heap[q]? = H[q]?) ∧ va_S A0 H0 T'.heap (locs ++ L) := by
  obtain ⟨hz, hk⟩ := hF
  rw [h0] at hz hk
  exact ⟨by rw [e1]; exact hz, fun q h1 h2 => by rw [e1]; exact hk q h1 h2,
    ⟨Nat.le_trans hS.1 (by rw [e1]; exact hz), fun q h1 h2 => by rw [e1, hk q (Nat.lt_of_lt_of_le h1 hS.1) (fun z => h2 (hA q (Nat.lt_of_lt_of_le h1 hS.1) z))]; exact hS.2.1 q h1 h2, fun q hq => by
      rcases List.mem_append.mp hq with h | h
      · exact hS.2.2 q h
      · exact hf _ (hL q h)⟩⟩
theorem vx_calli {S SX : Type} {post : Int32 → S → Prop} {px : SX → Prop} {B : S → State → Prop} {BX : String → SX → State → Prop} {AX : Nat → Prop} (hr : vx_Run p l e R s m args below meth c H locs cells slots mc ms (F0 m pc ls st0) rest (va_Qi post B A1 a) (vx_X px BX AX) free) (hS : va_S A0 H0 H locs) (hA : ∀ q, q < H.size → A1 q → A0 q) (hf : ∀ q, free q → A0 q) (hAX : ∀ q, q < H.size → AX q → A0 q)
    (kx : ∀ (E : String) (ce : Cell) (q9 : Addr) (u : SX) (t : State) (H1 : Heap) (locs1 : List Loc), t.heap = H1 → s.vm.Alike t.vm → px u → BX E u t → H.size ≤ H1.size → (∀ q : Nat, q < H.size → ¬ AX q → H1[q]? = H[q]?) → va_S A0 H0 H1 locs1 → H1[q9]? = some ce → ce.vm = .none → s.vm.findClass E = some ce.cls → vx_W p l e R s m args below meth c H1 locs1 (cells + mc) (slots + ms) Q (F0 m pc ls rest) q9)
    (kk : ∀ (r : Int32) (u : S) (t : State) (H1 : Heap) (locs1 : List Loc), t.heap = H1 → s.vm.Alike t.vm → post r u → B u t → H.size ≤ H1.size → (∀ q : Nat, q < H.size → ¬ A1 q → H1[q]? = H[q]?) → va_S A0 H0 H1 locs1 → W p l e R s m args below meth c H1 locs1 (cells + mc) (slots + ms) Q (F0 m (pc + 3) ls (.int r :: rest))) : W p l e R s m args below meth c H locs cells slots Q (F0 m pc ls st0) := by
  intro T hT X
  rcases hr T hT X with ⟨v, st₀, t, T', L, h0, X', hL, e1, e2, ⟨⟨r, u, hv, hp, hb⟩, hF⟩, st⟩ | ⟨q, st₀, t, T', L, E, ce, h0, X', hL, e1, e2, ⟨u, hp, hb, hF⟩, hce, hcv, hcl, st⟩
  · cases hv
    obtain ⟨k1, k2, k3⟩ := vx_keep h0 e1 hS hA hf hL hF
    obtain ⟨t2, a1, b1⟩ := kk r u t T'.heap (locs ++ L) e1.symm (by rw [← e2]; exact X'.warmed.alike) hp hb k1 k2 k3 T' rfl X'
    exact ⟨t2, st t2 a1, b1⟩
  · obtain ⟨k1, k2, k3⟩ := vx_keep h0 e1 hS hAX hf hL hF
    obtain ⟨t2, a1, b1⟩ := kx E ce q u t T'.heap (locs ++ L) e1.symm (by rw [← e2]; exact X'.warmed.alike) hp hb k1 k2 k3 (by rw [e1]; exact hce) hcv hcl T' rfl X'
    exact ⟨t2, st.trans a1, b1⟩
theorem vx_calll {S SX : Type} {post : Int64 → S → Prop} {px : SX → Prop} {B : S → State → Prop} {BX : String → SX → State → Prop} {AX : Nat → Prop} (hr : vx_Run p l e R s m args below meth c H locs cells slots mc ms (F0 m pc ls st0) rest (va_Ql post B A1 a) (vx_X px BX AX) free) (hS : va_S A0 H0 H locs) (hA : ∀ q, q < H.size → A1 q → A0 q) (hf : ∀ q, free q → A0 q) (hAX : ∀ q, q < H.size → AX q → A0 q)
    (kx : ∀ (E : String) (ce : Cell) (q9 : Addr) (u : SX) (t : State) (H1 : Heap) (locs1 : List Loc), t.heap = H1 → s.vm.Alike t.vm → px u → BX E u t → H.size ≤ H1.size → (∀ q : Nat, q < H.size → ¬ AX q → H1[q]? = H[q]?) → va_S A0 H0 H1 locs1 → H1[q9]? = some ce → ce.vm = .none → s.vm.findClass E = some ce.cls → vx_W p l e R s m args below meth c H1 locs1 (cells + mc) (slots + ms) Q (F0 m pc ls rest) q9)
    (kk : ∀ (r : Int64) (u : S) (t : State) (H1 : Heap) (locs1 : List Loc), t.heap = H1 → s.vm.Alike t.vm → post r u → B u t → H.size ≤ H1.size → (∀ q : Nat, q < H.size → ¬ A1 q → H1[q]? = H[q]?) → va_S A0 H0 H1 locs1 → W p l e R s m args below meth c H1 locs1 (cells + mc) (slots + ms) Q (F0 m (pc + 3) ls (.long r :: rest))) : W p l e R s m args below meth c H locs cells slots Q (F0 m pc ls st0) := by
  intro T hT X
  rcases hr T hT X with ⟨v, st₀, t, T', L, h0, X', hL, e1, e2, ⟨⟨r, u, hv, hp, hb⟩, hF⟩, st⟩ | ⟨q, st₀, t, T', L, E, ce, h0, X', hL, e1, e2, ⟨u, hp, hb, hF⟩, hce, hcv, hcl, st⟩
  · cases hv
    obtain ⟨k1, k2, k3⟩ := vx_keep h0 e1 hS hA hf hL hF
    obtain ⟨t2, a1, b1⟩ := kk r u t T'.heap (locs ++ L) e1.symm (by rw [← e2]; exact X'.warmed.alike) hp hb k1 k2 k3 T' rfl X'
    exact ⟨t2, st t2 a1, b1⟩
  · obtain ⟨k1, k2, k3⟩ := vx_keep h0 e1 hS hAX hf hL hF
    obtain ⟨t2, a1, b1⟩ := kx E ce q u t T'.heap (locs ++ L) e1.symm (by rw [← e2]; exact X'.warmed.alike) hp hb k1 k2 k3 (by rw [e1]; exact hce) hcv hcl T' rfl X'
    exact ⟨t2, st.trans a1, b1⟩
theorem vx_callf {S SX : Type} {post : UInt32 → S → Prop} {px : SX → Prop} {B : S → State → Prop} {BX : String → SX → State → Prop} {AX : Nat → Prop} (hr : vx_Run p l e R s m args below meth c H locs cells slots mc ms (F0 m pc ls st0) rest (va_Qf post B A1 a) (vx_X px BX AX) free) (hS : va_S A0 H0 H locs) (hA : ∀ q, q < H.size → A1 q → A0 q) (hf : ∀ q, free q → A0 q) (hAX : ∀ q, q < H.size → AX q → A0 q)
    (kx : ∀ (E : String) (ce : Cell) (q9 : Addr) (u : SX) (t : State) (H1 : Heap) (locs1 : List Loc), t.heap = H1 → s.vm.Alike t.vm → px u → BX E u t → H.size ≤ H1.size → (∀ q : Nat, q < H.size → ¬ AX q → H1[q]? = H[q]?) → va_S A0 H0 H1 locs1 → H1[q9]? = some ce → ce.vm = .none → s.vm.findClass E = some ce.cls → vx_W p l e R s m args below meth c H1 locs1 (cells + mc) (slots + ms) Q (F0 m pc ls rest) q9)
    (kk : ∀ (r : UInt32) (u : S) (t : State) (H1 : Heap) (locs1 : List Loc), t.heap = H1 → s.vm.Alike t.vm → post r u → B u t → H.size ≤ H1.size → (∀ q : Nat, q < H.size → ¬ A1 q → H1[q]? = H[q]?) → va_S A0 H0 H1 locs1 → W p l e R s m args below meth c H1 locs1 (cells + mc) (slots + ms) Q (F0 m (pc + 3) ls (.float r :: rest))) : W p l e R s m args below meth c H locs cells slots Q (F0 m pc ls st0) := by
  intro T hT X
  rcases hr T hT X with ⟨v, st₀, t, T', L, h0, X', hL, e1, e2, ⟨⟨r, u, hv, hp, hb⟩, hF⟩, st⟩ | ⟨q, st₀, t, T', L, E, ce, h0, X', hL, e1, e2, ⟨u, hp, hb, hF⟩, hce, hcv, hcl, st⟩
  · cases hv
    obtain ⟨k1, k2, k3⟩ := vx_keep h0 e1 hS hA hf hL hF
    obtain ⟨t2, a1, b1⟩ := kk r u t T'.heap (locs ++ L) e1.symm (by rw [← e2]; exact X'.warmed.alike) hp hb k1 k2 k3 T' rfl X'
    exact ⟨t2, st t2 a1, b1⟩
  · obtain ⟨k1, k2, k3⟩ := vx_keep h0 e1 hS hAX hf hL hF
    obtain ⟨t2, a1, b1⟩ := kx E ce q u t T'.heap (locs ++ L) e1.symm (by rw [← e2]; exact X'.warmed.alike) hp hb k1 k2 k3 (by rw [e1]; exact hce) hcv hcl T' rfl X'
    exact ⟨t2, st.trans a1, b1⟩
theorem vx_calld {S SX : Type} {post : UInt64 → S → Prop} {px : SX → Prop} {B : S → State → Prop} {BX : String → SX → State → Prop} {AX : Nat → Prop} (hr : vx_Run p l e R s m args below meth c H locs cells slots mc ms (F0 m pc ls st0) rest (va_Qd post B A1 a) (vx_X px BX AX) free) (hS : va_S A0 H0 H locs) (hA : ∀ q, q < H.size → A1 q → A0 q) (hf : ∀ q, free q → A0 q) (hAX : ∀ q, q < H.size → AX q → A0 q)
    (kx : ∀ (E : String) (ce : Cell) (q9 : Addr) (u : SX) (t : State) (H1 : Heap) (locs1 : List Loc), t.heap = H1 → s.vm.Alike t.vm → px u → BX E u t → H.size ≤ H1.size → (∀ q : Nat, q < H.size → ¬ AX q → H1[q]? = H[q]?) → va_S A0 H0 H1 locs1 → H1[q9]? = some ce → ce.vm = .none → s.vm.findClass E = some ce.cls → vx_W p l e R s m args below meth c H1 locs1 (cells + mc) (slots + ms) Q (F0 m pc ls rest) q9)
    (kk : ∀ (r : UInt64) (u : S) (t : State) (H1 : Heap) (locs1 : List Loc), t.heap = H1 → s.vm.Alike t.vm → post r u → B u t → H.size ≤ H1.size → (∀ q : Nat, q < H.size → ¬ A1 q → H1[q]? = H[q]?) → va_S A0 H0 H1 locs1 → W p l e R s m args below meth c H1 locs1 (cells + mc) (slots + ms) Q (F0 m (pc + 3) ls (.double r :: rest))) : W p l e R s m args below meth c H locs cells slots Q (F0 m pc ls st0) := by
  intro T hT X
  rcases hr T hT X with ⟨v, st₀, t, T', L, h0, X', hL, e1, e2, ⟨⟨r, u, hv, hp, hb⟩, hF⟩, st⟩ | ⟨q, st₀, t, T', L, E, ce, h0, X', hL, e1, e2, ⟨u, hp, hb, hF⟩, hce, hcv, hcl, st⟩
  · cases hv
    obtain ⟨k1, k2, k3⟩ := vx_keep h0 e1 hS hA hf hL hF
    obtain ⟨t2, a1, b1⟩ := kk r u t T'.heap (locs ++ L) e1.symm (by rw [← e2]; exact X'.warmed.alike) hp hb k1 k2 k3 T' rfl X'
    exact ⟨t2, st t2 a1, b1⟩
  · obtain ⟨k1, k2, k3⟩ := vx_keep h0 e1 hS hAX hf hL hF
    obtain ⟨t2, a1, b1⟩ := kx E ce q u t T'.heap (locs ++ L) e1.symm (by rw [← e2]; exact X'.warmed.alike) hp hb k1 k2 k3 (by rw [e1]; exact hce) hcv hcl T' rfl X'
    exact ⟨t2, st.trans a1, b1⟩
theorem vx_callv {S SX : Type} {post : S → Prop} {px : SX → Prop} {B : S → State → Prop} {BX : String → SX → State → Prop} {AX : Nat → Prop} (hr : vx_Run p l e R s m args below meth c H locs cells slots mc ms (F0 m pc ls st0) rest (va_Qv post B A1 a) (vx_X px BX AX) free) (hS : va_S A0 H0 H locs) (hA : ∀ q, q < H.size → A1 q → A0 q) (hf : ∀ q, free q → A0 q) (hAX : ∀ q, q < H.size → AX q → A0 q)
    (kx : ∀ (E : String) (ce : Cell) (q9 : Addr) (u : SX) (t : State) (H1 : Heap) (locs1 : List Loc), t.heap = H1 → s.vm.Alike t.vm → px u → BX E u t → H.size ≤ H1.size → (∀ q : Nat, q < H.size → ¬ AX q → H1[q]? = H[q]?) → va_S A0 H0 H1 locs1 → H1[q9]? = some ce → ce.vm = .none → s.vm.findClass E = some ce.cls → vx_W p l e R s m args below meth c H1 locs1 (cells + mc) (slots + ms) Q (F0 m pc ls rest) q9)
    (kk : ∀ (u : S) (t : State) (H1 : Heap) (locs1 : List Loc), t.heap = H1 → s.vm.Alike t.vm → post u → B u t → H.size ≤ H1.size → (∀ q : Nat, q < H.size → ¬ A1 q → H1[q]? = H[q]?) → va_S A0 H0 H1 locs1 → W p l e R s m args below meth c H1 locs1 (cells + mc) (slots + ms) Q (F0 m (pc + 3) ls (rest))) : W p l e R s m args below meth c H locs cells slots Q (F0 m pc ls st0) := by
  intro T hT X
  rcases hr T hT X with ⟨v, st₀, t, T', L, h0, X', hL, e1, e2, ⟨⟨u, hv, hp, hb⟩, hF⟩, st⟩ | ⟨q, st₀, t, T', L, E, ce, h0, X', hL, e1, e2, ⟨u, hp, hb, hF⟩, hce, hcv, hcl, st⟩
  · cases hv
    obtain ⟨k1, k2, k3⟩ := vx_keep h0 e1 hS hA hf hL hF
    obtain ⟨t2, a1, b1⟩ := kk u t T'.heap (locs ++ L) e1.symm (by rw [← e2]; exact X'.warmed.alike) hp hb k1 k2 k3 T' rfl X'
    exact ⟨t2, st t2 a1, b1⟩
  · obtain ⟨k1, k2, k3⟩ := vx_keep h0 e1 hS hAX hf hL hF
    obtain ⟨t2, a1, b1⟩ := kx E ce q u t T'.heap (locs ++ L) e1.symm (by rw [← e2]; exact X'.warmed.alike) hp hb k1 k2 k3 (by rw [e1]; exact hce) hcv hcl T' rfl X'
    exact ⟨t2, st.trans a1, b1⟩
/-- caught by the row x of this method's table; the rows ahead don't take it -/
theorem vx_catch {own name : String} {E : String} {ce : Cell} {q : Addr} (hown : s.vm.findClass own = some m.cls) (pre : List ExceptionTableEntry) (x : ExceptionTableEntry) (suf : List ExceptionTableEntry) (hsplit : c.exceptionTable.toList = pre ++ x :: suf)
    (hpass : ∀ z ∈ pre, covers z pc = false ∨ (z.catchType ≠ 0 ∧ ∃ nm : String, (Cond.classLink own z.catchType nm).before args s = true ∧ va_Nc E nm s)) (hx : covers x pc = true) (h0 : x.catchType ≠ 0)
    (hlink : (Cond.classLink own x.catchType name).before args s = true) (hcast : (Cond.castable E name).before args s = true) (hcell : H[q]? = some ce) (hv : ce.vm = .none) (hcl : s.vm.findClass E = some ce.cls)
    (kk : W p l e R s m args below meth c H locs cells slots Q (F0 m x.handlerPc ls [.ref q])) : vx_W p l e R s m args below meth c H locs cells slots Q (F0 m pc ls rest) q := by
  intro T hT X
  have hpl : e.platform.magicAccessors = ({} : Platform).magicAccessors := by rw [X.admits.platform]
  obtain ⟨c3, c4, hc3, hc4, hasg⟩ := Cond.castable_spec hcast
  cases Option.some.inj (hc3.symm.trans hcl)
  obtain ⟨c5, hc5, hcl5⟩ := Cond.classLink_spec hown hlink e.platform hpl
  cases Option.some.inj (hc4.symm.trans hc5)
  obtain ⟨vm', X', st⟩ := X.thenCaughtThrough q (g := F0 m pc ls rest) rfl (Steps.refl _) (by rw [hT]; exact hcell) (by rw [hv]; rfl) (by obtain ⟨k9, h9, -⟩ := Vm.findClass_spec hcl; exact ⟨k9, h9⟩) pre x suf hsplit
    (fun z hz => by
      rcases hpass z hz with h | ⟨hz0, nm, hl1, hn1⟩
      · exact Or.inl h
      · obtain ⟨c6, hc6, hcl6⟩ := Cond.classLink_spec hown hl1 e.platform hpl
        obtain ⟨a8, b8, h1, h2, h3⟩ := hn1
        cases Option.some.inj (h1.symm.trans hcl)
        cases Option.some.inj (h2.symm.trans hc6)
        exact Or.inr ⟨hz0, _, hcl6, h3⟩) hx (Or.inr ⟨h0, c4, hcl5, hasg⟩)
  obtain ⟨t, a1, b1⟩ := kk (T.setVm vm') hT X'
  exact ⟨t, st.trans a1, b1⟩
end Rows
section Ends
variable {p : Program} {l : Launch} {e : Env} {R : Room} {s : State} {m : MethodId} {args : Array Value} {below : List Frame} {meth : Method} {c : Code} {H : Heap} {locs : List Loc} {cells slots : Nat} {Q : State → Prop}
variable {mc ms : Nat} {free : Addr → Prop} {A0 A1 : Nat → Prop} {H0 : Heap} {a : Array Value} {ls : Array Slot} {st0 rest : List Value}
variable {Qc : Array Value → State → Outcome → State → Prop} {XC : String → State → State → Prop}
/-- what a body that may throw owes at its end -/
def vx_MQ (below : List Frame) (Qc : Array Value → State → Outcome → State → Prop) (XC : String → State → State → Prop) (a : Array Value) (s : State) (mc ms : Nat) (free : Addr → Prop) : State → Prop := fun t =>
  ∃ o, t.status = .running ∧ Ended t below o ∧ vx_Q Qc XC mc ms free a s o t
theorem vx_ret {g : JFrame} {mc ms : Nat} (k : W p l e R s m args below meth c H locs cells slots (MQ below Qc args s mc ms free) g) : W p l e R s m args below meth c H locs cells slots (vx_MQ below Qc XC args s mc ms free) g := by
  intro T hT X
  obtain ⟨t, a1, o, b1, b2, b3, b4⟩ := k T hT X
  exact ⟨t, a1, o, b1, b2, Or.inl ⟨b3, b4⟩⟩
/-- not caught here: it goes on to the caller -/
theorem vx_widen {g : JFrame} {q : Addr} {k n : Nat} (h1 : cells ≤ k) (h2 : slots ≤ n) (kk : vx_W p l e R s m args below meth c H locs k n Q g q) : vx_W p l e R s m args below meth c H locs cells slots Q g q := fun T hT X => kk T hT (stand_widen X h1 h2)
theorem vx_out {pc : Nat} {E : String} {ce : Cell} {q : Addr} {mc ms : Nat} (hout : ∀ x ∈ c.exceptionTable.toList, covers x pc = false) (hlocks : meth.locks = false) (hcell : H[q]? = some ce) (hv : ce.vm = .none) (hcl : s.vm.findClass E = some ce.cls)
    (hx : ∀ t : State, t.heap = H → s.vm.Alike t.vm → XC E s t) (hf : ∀ z ∈ locs, free z.base) (hc : cells ≤ mc) (hs : slots ≤ ms) :
    vx_W p l e R s m args below meth c H locs cells slots (vx_MQ below Qc XC args s mc ms free) (F0 m pc ls rest) q := by
  intro T hT X
  obtain ⟨st1, hrun, hend, hW, hsm⟩ := X.leaveThrown q (g := F0 m pc ls rest) rfl rfl rfl hout hlocks
  have hcell9 : (T.setFrames (.throwing q :: below)).heap[q]? = some ce := by
    show T.heap[q]? = some ce
    rw [hT]; exact hcell
  exact ⟨_, st1, .threw q, hrun, hend, Or.inr ⟨q, rfl, E, ce, locs, hx _ hT hW.alike, hcell9, hv, hcl, hW, hsm.mono hc hs, hf⟩⟩
theorem vx_frame {U : State} {k n : Nat} (h : s.sameButNew ({ U with vm := s.vm } : State) locs k n) : s.heap.size ≤ U.heap.size ∧ ∀ q : Nat, q < s.heap.size → (∀ z ∈ locs, z.base ≠ q) → U.heap[q]? = s.heap[q]? := by
  obtain ⟨-, h2, -, -, -, h6⟩ := h
  refine ⟨h2, fun q hq hz => ?_⟩
  obtain ⟨c9, e1, e2, e3, e4⟩ := h6 q _ (Array.getElem?_eq_getElem hq)
  have hs : c9.slots = (s.heap[q]).slots := Array.ext_getElem? fun i => e4 i fun hm => hz _ hm rfl
  have h9 : c9 = s.heap[q] := by
    rw [hs] at e2
    exact e2
  have e5 : U.heap[q]? = some c9 := e1
  rw [e5, h9, Array.getElem?_eq_getElem hq]
/-- the words of a throw but the four that speak of the heap -/
def vx_no (w : Cond) : Bool := decide (w ≠ .isRef (.static Bundle.tN "UNASSIGNED_STACK" Bundle.steD)) && decide (w ≠ .isRef (.static Bundle.tN "SUPPRESSED_SENTINEL" Bundle.listD)) && decide (w ≠ .laysStatic Bundle.tN "UNASSIGNED_STACK" Bundle.steD) && decide (w ≠ .laysStatic Bundle.tN "SUPPRESSED_SENTINEL" Bundle.listD)
def vx_at0 (own : String) (ic : Nat) (X : String) (names : List String) : List Cond := (Bundle.ownAtoms0 own ic X names).filter vx_no
def vx_atS (own : String) (ic : Nat) (X : String) (names : List String) : List Cond := (Bundle.ownAtoms own ic X names).filter vx_no
/-- a word that the tables alone decide, or a good one -/
def vx_ot (w : Cond) : Bool := w.onTables || goodWord w
theorem vx_ot_at {args a' : Array Value} {s U : State} {w : Cond} (hW : s.WarmedH U.vm) (hvm : s.vm = U.vm) (hg : vx_ot w = true) (h : w.before args s = true) : w.before a' U = true := by
  simp only [vx_ot, Bool.or_eq_true] at hg
  rcases hg with hg | hg
  · exact va_tabs hg hvm h
  · exact word_at hW (good_of_word hg) h
/-- a list's words: the good ones out of the method's own list, the others by premises of their own -/
theorem vx_hat {args : Array Value} {s : State} {L B : List Cond} (h1 : ∀ w ∈ L.filter goodWord, w.before args s = true) (h2 : ∀ w ∈ L.filter (fun w => !goodWord w), w ∈ B) (h3 : ∀ w ∈ B, w.before args s = true) : ∀ w ∈ L, w.before args s = true := by
  intro w hw
  by_cases g : goodWord w = true
  · exact h1 w (List.mem_filter.mpr ⟨hw, g⟩)
  · refine h3 w (h2 w (List.mem_filter.mpr ⟨hw, ?_⟩))
    show (!goodWord w) = true
    cases hgw : goodWord w
    · rfl
    · exact absurd hgw g
theorem vx_c {args : Array Value} {s : State} {w : Cond} {B : List Cond} (h : w.before args s = true) (t : ∀ w ∈ B, w.before args s = true) : ∀ w' ∈ w :: B, w'.before args s = true := fun w' h' => (List.mem_cons.mp h').elim (fun e => by rw [e]; exact h) (t w')
theorem vx_n {args : Array Value} {s : State} : ∀ w ∈ ([] : List Cond), w.before args s = true := fun _ h => nomatch h
theorem vx_own {args : Array Value} {s : State} {L : List Cond} (h1 : ∀ w ∈ L.filter vx_no, w.before args s = true)
    (hU : (Cond.isRef (.static Bundle.tN "UNASSIGNED_STACK" Bundle.steD)).before args s = true) (hN : (Cond.isRef (.static Bundle.tN "SUPPRESSED_SENTINEL" Bundle.listD)).before args s = true)
    (lU : (Cond.laysStatic Bundle.tN "UNASSIGNED_STACK" Bundle.steD).before args s = true) (lN : (Cond.laysStatic Bundle.tN "SUPPRESSED_SENTINEL" Bundle.listD).before args s = true) : ∀ w ∈ L, w.before args s = true := by
  intro w hw
  by_cases e1 : w = .isRef (.static Bundle.tN "UNASSIGNED_STACK" Bundle.steD)
  · rw [e1]; exact hU
  · by_cases e2 : w = .isRef (.static Bundle.tN "SUPPRESSED_SENTINEL" Bundle.listD)
    · rw [e2]; exact hN
    · by_cases e3 : w = .laysStatic Bundle.tN "UNASSIGNED_STACK" Bundle.steD
      · rw [e3]; exact lU
      · by_cases e4 : w = .laysStatic Bundle.tN "SUPPRESSED_SENTINEL" Bundle.listD
        · rw [e4]; exact lN
        · exact h1 w (List.mem_filter.mpr ⟨hw, by unfold vx_no; rw [decide_eq_true e1, decide_eq_true e2, decide_eq_true e3, decide_eq_true e4]; rfl⟩)
/-- where a static field lies, its class's statics cell in H -/
def vx_L (C n d : String) (A : Nat → Prop) (U : State) (H : Heap) : Prop := ∃ (c : ClassId) (k : Class) (i : Nat) (f : Field) (a : Nat) (cell : Cell), U.vm.findClass C = some c ∧ U.fieldFound? C n d = some (c, k, i, f) ∧ f.isStatic = true ∧ k.statics = some a ∧ H[a]? = some cell ∧ cell.vm.isStatics = true ∧ cell.cls = c ∧ f.slot < cell.slots.size ∧ k.staticTypes[f.slot]? = some f.type ∧ ¬ A a
theorem vx_L.moved {C n d : String} {A : Nat → Prop} {u U : State} {H : Heap} (hvm : u.vm.Alike U.vm) (h : vx_L C n d A u H) : vx_L C n d A U H := by
  obtain ⟨c, k, i, f, a, cell, h1, h2, h3, h4, h5, h6, h7, h8, h9, h10⟩ := h
  obtain ⟨k', hi', he⟩ := State.fieldFound?_setVm hvm h2
  exact ⟨c, k', i, f, a, cell, by rw [hvm.findClass]; exact h1, hi', h3, by rw [he]; exact h4, h5, h6, h7, h8, by rw [he]; exact h9, h10⟩
theorem vx_L.kept {C n d : String} {A : Nat → Prop} {U : State} {H H1 : Heap} (h : vx_L C n d A U H) (hq : ∀ a : Nat, a < H.size → ¬ A a → H1[a]? = H[a]?) : vx_L C n d A U H1 := by
  obtain ⟨c, k, i, f, a, cell, h1, h2, h3, h4, h5, h6, h7, h8, h9, h10⟩ := h
  exact ⟨c, k, i, f, a, cell, h1, h2, h3, h4, by rw [hq a (Array.getElem?_eq_some_iff.mp h5).1 h10]; exact h5, h6, h7, h8, h9, h10⟩
theorem vx_L.narrow {C n d : String} {A B : Nat → Prop} {U : State} {H : Heap} (h : vx_L C n d A U H) (hAB : ∀ q, B q → A q) : vx_L C n d B U H := by
  obtain ⟨c, k, i, f, a, cell, h1, h2, h3, h4, h5, h6, h7, h8, h9, h10⟩ := h
  exact ⟨c, k, i, f, a, cell, h1, h2, h3, h4, h5, h6, h7, h8, h9, fun z => h10 (hAB _ z)⟩
theorem vx_L.word {C n d : String} {A : Nat → Prop} {s : State} {args : Array Value} (h : vx_L C n d A s s.heap) : (Cond.laysStatic C n d).before args s = true := by
  obtain ⟨c, k, i, f, a, cell, h1, h2, h3, h4, h5, h6, h7, h8, h9, -⟩ := h
  show (Cond.laysStatic C n d).holds args s none s [] = true
  exact Cond.laysStatic_of h1 h2 h3 h4 h5 h6 h7 h8 h9
/-- .. and what it holds: null or some reference -/
def vx_Zq (C n d : String) (A : Nat → Prop) (U : State) (H : Heap) : Prop := va_Zq C n d A U H ∧ vx_L C n d A U H
theorem vx_Zq.moved {C n d : String} {A : Nat → Prop} {u U : State} {H : Heap} (hvm : u.vm.Alike U.vm) (h : vx_Zq C n d A u H) : vx_Zq C n d A U H := ⟨va_Zq.moved hvm h.1, vx_L.moved hvm h.2⟩
theorem vx_Zq.kept {C n d : String} {A : Nat → Prop} {U : State} {H H1 : Heap} (h : vx_Zq C n d A U H) (hq : ∀ a : Nat, a < H.size → ¬ A a → H1[a]? = H[a]?) : vx_Zq C n d A U H1 := ⟨va_Zq.kept h.1 hq, vx_L.kept h.2 hq⟩
theorem vx_Zq.narrow {C n d : String} {A B : Nat → Prop} {U : State} {H : Heap} (h : vx_Zq C n d A U H) (hAB : ∀ q, B q → A q) : vx_Zq C n d B U H := ⟨va_Zq.narrow h.1 hAB, vx_L.narrow h.2 hAB⟩
theorem vx_Zqof {args : Array Value} {s : State} {C n d : String} {A : Nat → Prop} (hl : (Cond.laysStatic C n d).before args s = true) (hini : (Cond.initialized C).before args s = true) (h : (Cond.isRef (.static C n d)).before args s = true) (hA : ∀ a : Nat, a < s.heap.size → ¬ A a) : vx_Zq C n d A s s.heap := by
  refine ⟨va_Zqof hl hini h hA, ?_⟩
  obtain ⟨c, k, i, f, a, cell, h1, h2, h3, h4, h5, h6, h7, h8, h9⟩ := Cond.laysStatic_spec hl
  exact ⟨c, k, i, f, a, cell, h1, h2, h3, h4, h5, h6, h7, h8, h9, hA a (Array.getElem?_eq_some_iff.mp h5).1⟩
theorem vx_isRef {C n d : String} {v : Value} {A : Nat → Prop} {s : State} {args : Array Value} (h : va_Z C n d v A s s.heap) (hv : v.isRef = true) : (Cond.isRef (.static C n d)).before args s = true := by
  obtain ⟨cf, kf, fi, f, a, cell, h1, h2, h3, h4, h5, h6, h7, -⟩ := h
  have he : (Term.static C n d).eval args s none [] s = some v := by
    simp [Term.eval, State.fieldNamed?, h1, h2, h4, h5, h6, h7]
  simp only [Cond.before, Cond.holds, Cond.value, he]
  cases v <;> simp_all [Value.isRef]
theorem vx_isRefq {C n d : String} {A : Nat → Prop} {s : State} {args : Array Value} (h : va_Zq C n d A s s.heap) : (Cond.isRef (.static C n d)).before args s = true := by
  rcases h with h | ⟨t, h⟩
  · exact vx_isRef h rfl
  · exact vx_isRef h rfl
/-- the same frame, seen from here: as if the method were called anew in this heap -/
theorem vx_rebase {T : State} (X : Stand p l e R s m args below meth c T locs cells slots) {R' : Room} (hf : R'.frames ≤ R.frames) (hl : R'.locals ≤ R.locals) (hc : cells + R'.cells ≤ R.cells) (hs : slots + R'.slots ≤ R.slots) :
    Stand p l e R' ((T.setVm s.vm).setFrames (.invoking m args :: below)) m args below meth c T [] 0 0 := by
  have htop : (T.setVm s.vm).topJava?.isSome := X.here.top
  have hF : ((T.setVm s.vm).setFrames (.invoking m args :: below)).frames = .invoking m args :: below := State.frames_setFrames _ (State.cur_lt_of_top htop)
  obtain ⟨g₀, hg0⟩ := Option.isSome_iff_exists.mp htop
  obtain ⟨r, hr⟩ := State.topJava?_eq_some.mp hg0
  have hl9 : e.platform.stackLimits (T.setVm s.vm).me = e.platform.stackLimits s.me := X.limits
  have hb9 : (T.setVm s.vm).me.stackBytes = s.me.stackBytes := X.bytes
  refine ⟨X.admits, X.cas, X.clock, hF, ?_, X.hears, X.method, X.code, X.here, X.tail, X.warmed, ?_, ?_, ?_⟩
  · have h := X.room
    have hU : ((T.setVm s.vm).setFrames (.invoking m args :: below)).localsInUse = s.localsInUse := by
      rw [State.localsInUse_invoking hF (meth := meth) (c := c) X.method X.code, State.localsInUse_invoking X.frames X.method X.code]
    simp only [State.hasRoom, Bool.and_eq_true, decide_eq_true_eq] at h ⊢
    obtain ⟨⟨⟨⟨h1, h2, h3, h4, h5, h6⟩, h7⟩, h8⟩, h9⟩ := h
    rw [X.frames, List.length_cons] at h2 h3
    have q1 := X.heapSize
    have q2 := X.used
    simp only [hF, hU, List.length_cons, State.stackLimits_setFrames, State.stackBytes_setFrames, hl9, hb9]
    refine ⟨⟨⟨⟨by omega, by omega, by omega, by omega, by omega, h6⟩, ?_⟩, ?_⟩, X.book⟩
    · show T.heap.size + R'.cells ≤ e.platform.maxCells
      omega
    · show T.slotsUsed + R'.slots ≤ e.platform.maxSlots
      omega
  · rw [State.stackLimits_setFrames]; rfl
  · rw [State.stackBytes_setFrames]; rfl
  · refine ⟨?_, Nat.le_refl _, Nat.le_refl _, ?_, ?_, fun a c9 h9 => ⟨c9, h9, rfl, rfl, fun _ _ => rfl⟩⟩
    · obtain ⟨t, ht, -⟩ := State.frames_cons hr
      show T.setVm s.vm = { ((T.setVm s.vm).setFrames (.invoking m args :: below)).setFrames (T.setVm s.vm).frames with heap := T.heap, slotsUsed := T.slotsUsed }
      rw [State.setFrames_setFrames, State.setFrames_self ht]
      rfl
    · show T.slotsUsed = T.slotsUsed + ((T.heap.toList.drop T.heap.size).map (·.slots.size)).sum
      rw [List.drop_eq_nil_of_le (Nat.le_of_eq Array.length_toList)]
      rfl
    · show ((T.heap.toList.drop T.heap.size).map (·.slots.size)).sum ≤ 0
      rw [List.drop_eq_nil_of_le (Nat.le_of_eq Array.length_toList)]
      exact Nat.le_refl _
/-- 'throw new E()': new; dup; invokespecial; athrow -/
theorem vx_throw0 {cc : ByteArray} {pc : Nat} (hexec : p.tables.exec = Jvm.exec) (hb : c.code = cc) (hl : l.stackTraces = false) {own cls : String} {names : List String} {ik ic mc ms : Nat} {A : Nat → Prop}
    (hown : s.vm.findClass own = some m.cls) (hcls : Bundle.fit cls = true) (hnames : ∀ n ∈ names, Bundle.fit n = true)
    (hk : (Cond.classLink own ik cls).before args s = true) (hini : (Cond.initialized cls).before args s = true) (hat : ∀ w ∈ vx_at0 own ic cls names, w.before args s = true)
    (hgood : ∀ w ∈ Cond.classLink own ik cls :: Cond.initialized cls :: vx_at0 own ic cls names, vx_ot w = true)
    (hU : vx_Zq Bundle.tN "UNASSIGNED_STACK" Bundle.steD A s s.heap) (hN : vx_Zq Bundle.tN "SUPPRESSED_SENTINEL" Bundle.listD A s s.heap) (hS : va_S A s.heap H locs) (hsize : ls.size = c.maxLocals)
    (d0 : decode cc pc = .ok (.new ik, 3)) (d3 : decode cc (pc + 3) = .ok (.dup, 1)) (d4 : decode cc (pc + 4) = .ok (.invokespecial ic, 3)) (d7 : decode cc (pc + 7) = .ok (.athrow, 1))
    (hout : ∀ x ∈ c.exceptionTable.toList, covers x (pc + 7) = false)
    (hRframes : names.length + 3 < R.frames) (hRlocals : (rest.map fun v => v.category).sum + (13 * (names.length + 1) + 42) ≤ R.locals) (hRcells : cells + 1 ≤ R.cells) (hRslots : slots + 6 ≤ R.slots) (hlocks : meth.locks = false)
    (hx : ∀ t : State, s.vm.Alike t.vm → H.size ≤ t.heap.size → (∀ q : Nat, q < H.size → t.heap[q]? = H[q]?) → XC cls s t)
    (hf : ∀ z ∈ locs, free z.base) (hc : cells + 1 ≤ mc) (hs : slots + 6 ≤ ms) :
    W p l e R s m args below meth c H locs cells slots (vx_MQ below Qc XC args s mc ms free) (F0 m pc ls rest) := by
  intro T hT X
  have htr : e.platform.stackTraces = false := (show e.platform.stackTraces = l.stackTraces by rw [X.admits.platform]).trans hl
  have Y := vx_rebase X (R' := { frames := R.frames, locals := R.locals, cells := 1, slots := 6 }) (Nat.le_refl _) (Nat.le_refl _) hRcells hRslots
  obtain ⟨s', hA⟩ : ∃ z, z = (T.setVm s.vm).setFrames (.invoking m args :: below) := ⟨_, rfl⟩
  rw [← hA] at Y
  have hvm : s'.vm = s.vm := by rw [hA]; rfl
  have hhp : s'.heap = H := by rw [hA]; exact hT
  have hW0 : s.WarmedH s'.vm := by rw [hvm]; exact State.WarmedH.refl s
  have hat' : ∀ w ∈ vx_at0 own ic cls names, w.before args s' = true := fun w hw => vx_ot_at hW0 hvm.symm (hgood w (List.mem_cons_of_mem _ (List.mem_cons_of_mem _ hw))) (hat w hw)
  have hk' : (Cond.classLink own ik cls).before args s' = true := vx_ot_at hW0 hvm.symm (hgood _ List.mem_cons_self) hk
  have hini' : (Cond.initialized cls).before args s' = true := vx_ot_at hW0 hvm.symm (hgood _ (List.mem_cons_of_mem _ List.mem_cons_self)) hini
  have hU' : vx_Zq Bundle.tN "UNASSIGNED_STACK" Bundle.steD A s' s'.heap := by rw [hhp]; exact vx_Zq.moved hW0.alike (hU.kept hS.2.1)
  have hN' : vx_Zq Bundle.tN "SUPPRESSED_SENTINEL" Bundle.listD A s' s'.heap := by rw [hhp]; exact vx_Zq.moved hW0.alike (hN.kept hS.2.1)
  have h : ∀ w ∈ Bundle.ownAtoms0 own ic cls names, w.before args s' = true := vx_own hat' (vx_isRefq hU'.1) (vx_isRefq hN'.1) hU'.2.word hN'.2.word
  have hown' : s'.vm.findClass own = some m.cls := by rw [hvm]; exact hown
  have hins : (Cond.instantiable cls 6).before args s' = true := h _ (by simp [Bundle.ownAtoms0])
  obtain ⟨vm₁, cX, kX, hfX, hkX, -, -, X₁, st1⟩ := Y.newCold hexec (own := own) (C := cls) (index := ik) (n := 6) hown' hk' hins hini'
    (g := F0 m pc ls rest) rfl (by rw [hb]; exact d0) (Nat.le_refl _) (Nat.le_refl _)
  generalize hT1 : (T.setVm vm₁).pushCell { cls := cX, slots := kX.instanceTypes.map defaultValue, vm := .none } = T1 at X₁ st1
  have hcat : (Value.ref T.heap.size).category = 1 := rfl
  have hcellA : T1.heap[T.heap.size]? = some (freshCell cX kX) := by rw [← hT1]; exact State.heap_pushCell_size _ _
  have d3' : decode c.code (pc + 3) = .ok (.dup, 1) := by rw [hb]; exact d3
  obtain ⟨U, hsteps, hrun, hend, hW, hsame, ce, hce, hO⟩ := X₁.ctorThrow0 hexec htr (own := own) (cls := cls) (names := names) (ic := ic) hown' hcls hnames h (fun x hx => nomatch hx) hfX hkX hcellA (by rw [hhp, hT]; exact Nat.le_refl _)
    (g := { method := m, pc := pc + 4, locals := ls, stack := .ref T.heap.size :: .ref T.heap.size :: rest, locked := none }) rfl hsize rfl rfl (rest := rest) rfl
    (by rw [hb]; exact d4) (by rw [hb]; exact d7) hout hRframes (by simp only [List.map_cons, List.sum_cons, hcat]; omega) hlocks
  obtain ⟨f1, f2⟩ := vx_frame hsame
  rw [hhp] at f1 f2
  have hWs : s.WarmedH U.vm := State.WarmedH.trans hW0 hW
  have hcl : s.vm.findClass cls = some ce.cls := by
    have h9 := hO.cls
    rw [hvm] at h9
    exact h9
  have hall : s.sameButNew ({ U with vm := s.vm } : State) locs mc ms := by
    subst hA
    obtain ⟨e1, e2⟩ := hsame
    rw [State.setFrames_setFrames] at e1
    have h2 : (T.setVm s.vm).sameButNew ({ U with vm := s.vm } : State) [] (0 + 1) (0 + 6) := ⟨e1, e2⟩
    have h3 := X.same.trans h2
    rw [List.append_nil] at h3
    exact h3.mono hc hs
  refine ⟨U, ?_, .threw T.heap.size, hrun, hend, Or.inr ⟨T.heap.size, rfl, cls, ce, locs, hx U hWs.alike f1 (fun q hq => f2 q hq (fun z hz => nomatch hz)), hce, hO.vm, hcl, hWs, hall, hf⟩⟩
  refine st1 _ ?_
  show Steps p.tables e below (T1.setTop { method := m, pc := pc + 3, locals := ls, stack := .ref T.heap.size :: rest, locked := none }) _
  jvm_step X₁.here [X₁.here.top, hexec, d3', Value.category]
  exact hsteps
/-- 'throw new E("text")': new; dup; ldc; invokespecial; athrow -/
theorem vx_throwS {cc : ByteArray} {pc : Nat} (hexec : p.tables.exec = Jvm.exec) (hb : c.code = cc) (hl : l.stackTraces = false) {own cls text : String} {names : List String} {ik is ic mc ms sa : Nat} {A : Nat → Prop}
    (hown : s.vm.findClass own = some m.cls) (hcls : Bundle.fit cls = true) (hnames : ∀ n ∈ names, Bundle.fit n = true)
    (hk : (Cond.classLink own ik cls).before args s = true) (hini : (Cond.initialized cls).before args s = true) (hstr : vk_R own is text sa s) (hat : ∀ w ∈ vx_atS own ic cls names, w.before args s = true)
    (hgood : ∀ w ∈ Cond.classLink own ik cls :: Cond.initialized cls :: vx_atS own ic cls names, vx_ot w = true)
    (hU : vx_Zq Bundle.tN "UNASSIGNED_STACK" Bundle.steD A s s.heap) (hN : vx_Zq Bundle.tN "SUPPRESSED_SENTINEL" Bundle.listD A s s.heap) (hS : va_S A s.heap H locs) (hsize : ls.size = c.maxLocals)
    (d0 : decode cc pc = .ok (.new ik, 3)) (d3 : decode cc (pc + 3) = .ok (.dup, 1)) (d4 : decode cc (pc + 4) = .ok (.ldc is, 2)) (d6 : decode cc (pc + 6) = .ok (.invokespecial ic, 3)) (d9 : decode cc (pc + 9) = .ok (.athrow, 1))
    (hout : ∀ x ∈ c.exceptionTable.toList, covers x (pc + 9) = false)
    (hRframes : names.length + 3 < R.frames) (hRlocals : (rest.map fun v => v.category).sum + (13 * (names.length + 1) + 43) ≤ R.locals) (hRcells : cells + 1 ≤ R.cells) (hRslots : slots + 6 ≤ R.slots) (hlocks : meth.locks = false)
    (hx : ∀ t : State, s.vm.Alike t.vm → H.size ≤ t.heap.size → (∀ q : Nat, q < H.size → t.heap[q]? = H[q]?) → XC cls s t)
    (hf : ∀ z ∈ locs, free z.base) (hc : cells + 1 ≤ mc) (hs : slots + 6 ≤ ms) :
    W p l e R s m args below meth c H locs cells slots (vx_MQ below Qc XC args s mc ms free) (F0 m pc ls rest) := by
  intro T hT X
  have htr : e.platform.stackTraces = false := (show e.platform.stackTraces = l.stackTraces by rw [X.admits.platform]).trans hl
  have Y := vx_rebase X (R' := { frames := R.frames, locals := R.locals, cells := 1, slots := 6 }) (Nat.le_refl _) (Nat.le_refl _) hRcells hRslots
  obtain ⟨s', hA⟩ : ∃ z, z = (T.setVm s.vm).setFrames (.invoking m args :: below) := ⟨_, rfl⟩
  rw [← hA] at Y
  have hvm : s'.vm = s.vm := by rw [hA]; rfl
  have hhp : s'.heap = H := by rw [hA]; exact hT
  have hW0 : s.WarmedH s'.vm := by rw [hvm]; exact State.WarmedH.refl s
  have hat' : ∀ w ∈ vx_atS own ic cls names, w.before args s' = true := fun w hw => vx_ot_at hW0 hvm.symm (hgood w (List.mem_cons_of_mem _ (List.mem_cons_of_mem _ hw))) (hat w hw)
  have hk' : (Cond.classLink own ik cls).before args s' = true := vx_ot_at hW0 hvm.symm (hgood _ List.mem_cons_self) hk
  have hini' : (Cond.initialized cls).before args s' = true := vx_ot_at hW0 hvm.symm (hgood _ (List.mem_cons_of_mem _ List.mem_cons_self)) hini
  have hU' : vx_Zq Bundle.tN "UNASSIGNED_STACK" Bundle.steD A s' s'.heap := by rw [hhp]; exact vx_Zq.moved hW0.alike (hU.kept hS.2.1)
  have hN' : vx_Zq Bundle.tN "SUPPRESSED_SENTINEL" Bundle.listD A s' s'.heap := by rw [hhp]; exact vx_Zq.moved hW0.alike (hN.kept hS.2.1)
  have h : ∀ w ∈ Bundle.ownAtoms own ic cls names, w.before args s' = true := vx_own hat' (vx_isRefq hU'.1) (vx_isRefq hN'.1) hU'.2.word hN'.2.word
  have hown' : s'.vm.findClass own = some m.cls := by rw [hvm]; exact hown
  have hins : (Cond.instantiable cls 6).before args s' = true := h _ (by simp [Bundle.ownAtoms])
  obtain ⟨vm₁, cX, kX, hfX, hkX, -, -, X₁, st1⟩ := Y.newCold hexec (own := own) (C := cls) (index := ik) (n := 6) hown' hk' hins hini'
    (g := F0 m pc ls rest) rfl (by rw [hb]; exact d0) (Nat.le_refl _) (Nat.le_refl _)
  generalize hT1 : (T.setVm vm₁).pushCell { cls := cX, slots := kX.instanceTypes.map defaultValue, vm := .none } = T1 at X₁ st1
  have hcat : (Value.ref T.heap.size).category = 1 := rfl
  have hcellA : T1.heap[T.heap.size]? = some (freshCell cX kX) := by rw [← hT1]; exact State.heap_pushCell_size _ _
  have d3' : decode c.code (pc + 3) = .ok (.dup, 1) := by rw [hb]; exact d3
  have d4' : decode c.code (pc + 4) = .ok (.ldc is, 2) := by rw [hb]; exact d4
  have hstr' : vk_R own is text sa s' := vk_R.warm hW0 hstr
  obtain ⟨U, hsteps, hrun, hend, hW, hsame, ce, hce, hO⟩ := X₁.ctorThrowS hexec htr (own := own) (cls := cls) (names := names) (ic := ic) hown' hcls hnames h (fun x hx => nomatch hx) hfX hkX hcellA (by rw [hhp, hT]; exact Nat.le_refl _) (msg := .ref sa) rfl
    (g := { method := m, pc := pc + 6, locals := ls, stack := .ref sa :: .ref T.heap.size :: .ref T.heap.size :: rest, locked := none }) rfl hsize rfl rfl (rest := rest) rfl
    (by rw [hb]; exact d6) (by rw [hb]; exact d9) hout hRframes (by simp only [List.map_cons, List.sum_cons, hcat]; omega) hlocks
  obtain ⟨f1, f2⟩ := vx_frame hsame
  rw [hhp] at f1 f2
  have hWs : s.WarmedH U.vm := State.WarmedH.trans hW0 hW
  have hcl : s.vm.findClass cls = some ce.cls := by
    have h9 := hO.cls
    rw [hvm] at h9
    exact h9
  have hall : s.sameButNew ({ U with vm := s.vm } : State) locs mc ms := by
    subst hA
    obtain ⟨e1, e2⟩ := hsame
    rw [State.setFrames_setFrames] at e1
    have h2 : (T.setVm s.vm).sameButNew ({ U with vm := s.vm } : State) [] (0 + 1) (0 + 6) := ⟨e1, e2⟩
    have h3 := X.same.trans h2
    rw [List.append_nil] at h3
    exact h3.mono hc hs
  refine ⟨U, ?_, .threw T.heap.size, hrun, hend, Or.inr ⟨T.heap.size, rfl, cls, ce, locs, hx U hWs.alike f1 (fun q hq => f2 q hq (fun z hz => nomatch hz)), hce, hO.vm, hcl, hWs, hall, hf⟩⟩
  refine st1 _ ?_
  show Steps p.tables e below (T1.setTop { method := m, pc := pc + 3, locals := ls, stack := .ref T.heap.size :: rest, locked := none }) _
  jvm_step X₁.here [X₁.here.top, hexec, d3', Value.category]
  exact X₁.ldcString hexec (own := own) (text := text) (index := is) (a := sa) hown' hstr'.1 hstr'.2
    (g := { method := m, pc := pc + 4, locals := ls, stack := .ref T.heap.size :: .ref T.heap.size :: rest, locked := none }) rfl d4' _ hsteps
/-- 'throw new E("text")', the text by a wide index -/
theorem vx_throwSW {cc : ByteArray} {pc : Nat} (hexec : p.tables.exec = Jvm.exec) (hb : c.code = cc) (hl : l.stackTraces = false) {own cls text : String} {names : List String} {ik is ic mc ms sa : Nat} {A : Nat → Prop}
    (hown : s.vm.findClass own = some m.cls) (hcls : Bundle.fit cls = true) (hnames : ∀ n ∈ names, Bundle.fit n = true)
    (hk : (Cond.classLink own ik cls).before args s = true) (hini : (Cond.initialized cls).before args s = true) (hstr : vk_R own is text sa s) (hat : ∀ w ∈ vx_atS own ic cls names, w.before args s = true)
    (hgood : ∀ w ∈ Cond.classLink own ik cls :: Cond.initialized cls :: vx_atS own ic cls names, vx_ot w = true)
    (hU : vx_Zq Bundle.tN "UNASSIGNED_STACK" Bundle.steD A s s.heap) (hN : vx_Zq Bundle.tN "SUPPRESSED_SENTINEL" Bundle.listD A s s.heap) (hS : va_S A s.heap H locs) (hsize : ls.size = c.maxLocals)
    (d0 : decode cc pc = .ok (.new ik, 3)) (d3 : decode cc (pc + 3) = .ok (.dup, 1)) (d4 : decode cc (pc + 4) = .ok (.ldc_w is, 3)) (d7 : decode cc (pc + 7) = .ok (.invokespecial ic, 3)) (d10 : decode cc (pc + 10) = .ok (.athrow, 1))
    (hout : ∀ x ∈ c.exceptionTable.toList, covers x (pc + 10) = false)
    (hRframes : names.length + 3 < R.frames) (hRlocals : (rest.map fun v => v.category).sum + (13 * (names.length + 1) + 43) ≤ R.locals) (hRcells : cells + 1 ≤ R.cells) (hRslots : slots + 6 ≤ R.slots) (hlocks : meth.locks = false)
    (hx : ∀ t : State, s.vm.Alike t.vm → H.size ≤ t.heap.size → (∀ q : Nat, q < H.size → t.heap[q]? = H[q]?) → XC cls s t)
    (hf : ∀ z ∈ locs, free z.base) (hc : cells + 1 ≤ mc) (hs : slots + 6 ≤ ms) :
    W p l e R s m args below meth c H locs cells slots (vx_MQ below Qc XC args s mc ms free) (F0 m pc ls rest) := by
  intro T hT X
  have htr : e.platform.stackTraces = false := (show e.platform.stackTraces = l.stackTraces by rw [X.admits.platform]).trans hl
  have Y := vx_rebase X (R' := { frames := R.frames, locals := R.locals, cells := 1, slots := 6 }) (Nat.le_refl _) (Nat.le_refl _) hRcells hRslots
  obtain ⟨s', hA⟩ : ∃ z, z = (T.setVm s.vm).setFrames (.invoking m args :: below) := ⟨_, rfl⟩
  rw [← hA] at Y
  have hvm : s'.vm = s.vm := by rw [hA]; rfl
  have hhp : s'.heap = H := by rw [hA]; exact hT
  have hW0 : s.WarmedH s'.vm := by rw [hvm]; exact State.WarmedH.refl s
  have hat' : ∀ w ∈ vx_atS own ic cls names, w.before args s' = true := fun w hw => vx_ot_at hW0 hvm.symm (hgood w (List.mem_cons_of_mem _ (List.mem_cons_of_mem _ hw))) (hat w hw)
  have hk' : (Cond.classLink own ik cls).before args s' = true := vx_ot_at hW0 hvm.symm (hgood _ List.mem_cons_self) hk
  have hini' : (Cond.initialized cls).before args s' = true := vx_ot_at hW0 hvm.symm (hgood _ (List.mem_cons_of_mem _ List.mem_cons_self)) hini
  have hU' : vx_Zq Bundle.tN "UNASSIGNED_STACK" Bundle.steD A s' s'.heap := by rw [hhp]; exact vx_Zq.moved hW0.alike (hU.kept hS.2.1)
  have hN' : vx_Zq Bundle.tN "SUPPRESSED_SENTINEL" Bundle.listD A s' s'.heap := by rw [hhp]; exact vx_Zq.moved hW0.alike (hN.kept hS.2.1)
  have h : ∀ w ∈ Bundle.ownAtoms own ic cls names, w.before args s' = true := vx_own hat' (vx_isRefq hU'.1) (vx_isRefq hN'.1) hU'.2.word hN'.2.word
  have hown' : s'.vm.findClass own = some m.cls := by rw [hvm]; exact hown
  have hins : (Cond.instantiable cls 6).before args s' = true := h _ (by simp [Bundle.ownAtoms])
  obtain ⟨vm₁, cX, kX, hfX, hkX, -, -, X₁, st1⟩ := Y.newCold hexec (own := own) (C := cls) (index := ik) (n := 6) hown' hk' hins hini'
    (g := F0 m pc ls rest) rfl (by rw [hb]; exact d0) (Nat.le_refl _) (Nat.le_refl _)
  generalize hT1 : (T.setVm vm₁).pushCell { cls := cX, slots := kX.instanceTypes.map defaultValue, vm := .none } = T1 at X₁ st1
  have hcat : (Value.ref T.heap.size).category = 1 := rfl
  have hcellA : T1.heap[T.heap.size]? = some (freshCell cX kX) := by rw [← hT1]; exact State.heap_pushCell_size _ _
  have d3' : decode c.code (pc + 3) = .ok (.dup, 1) := by rw [hb]; exact d3
  have d4' : decode c.code (pc + 4) = .ok (.ldc_w is, 3) := by rw [hb]; exact d4
  have hstr' : vk_R own is text sa s' := vk_R.warm hW0 hstr
  obtain ⟨U, hsteps, hrun, hend, hW, hsame, ce, hce, hO⟩ := X₁.ctorThrowS hexec htr (own := own) (cls := cls) (names := names) (ic := ic) hown' hcls hnames h (fun x hx => nomatch hx) hfX hkX hcellA (by rw [hhp, hT]; exact Nat.le_refl _) (msg := .ref sa) rfl
    (g := { method := m, pc := pc + 7, locals := ls, stack := .ref sa :: .ref T.heap.size :: .ref T.heap.size :: rest, locked := none }) rfl hsize rfl rfl (rest := rest) rfl
    (by rw [hb]; exact d7) (by rw [hb]; exact d10) hout hRframes (by simp only [List.map_cons, List.sum_cons, hcat]; omega) hlocks
  obtain ⟨f1, f2⟩ := vx_frame hsame
  rw [hhp] at f1 f2
  have hWs : s.WarmedH U.vm := State.WarmedH.trans hW0 hW
  have hcl : s.vm.findClass cls = some ce.cls := by
    have h9 := hO.cls
    rw [hvm] at h9
    exact h9
  have hall : s.sameButNew ({ U with vm := s.vm } : State) locs mc ms := by
    subst hA
    obtain ⟨e1, e2⟩ := hsame
    rw [State.setFrames_setFrames] at e1
    have h2 : (T.setVm s.vm).sameButNew ({ U with vm := s.vm } : State) [] (0 + 1) (0 + 6) := ⟨e1, e2⟩
    have h3 := X.same.trans h2
    rw [List.append_nil] at h3
    exact h3.mono hc hs
  refine ⟨U, ?_, .threw T.heap.size, hrun, hend, Or.inr ⟨T.heap.size, rfl, cls, ce, locs, hx U hWs.alike f1 (fun q hq => f2 q hq (fun z hz => nomatch hz)), hce, hO.vm, hcl, hWs, hall, hf⟩⟩
  refine st1 _ ?_
  show Steps p.tables e below (T1.setTop { method := m, pc := pc + 3, locals := ls, stack := .ref T.heap.size :: rest, locked := none }) _
  jvm_step X₁.here [X₁.here.top, hexec, d3', Value.category]
  exact X₁.ldcStringW hexec (own := own) (text := text) (index := is) (a := sa) hown' hstr'.1 hstr'.2
    (g := { method := m, pc := pc + 4, locals := ls, stack := .ref T.heap.size :: .ref T.heap.size :: rest, locked := none }) rfl d4' _ hsteps
end Ends
section Bodies
variable {l : Launch}
theorem vx_ofW {y : MethodName} {ws ws' : List Cond} {rm : Room} {Pc : Array Value → State → Prop} {Qc : Array Value → State → Outcome → State → Prop} {XC : String → State → State → Prop} {mc ms : Nat} {free : Addr → Prop} {cc : ByteArray} {maxL : Nat} {ret : Option FieldType}
    (hy : plainName y.cls = true) (hw : ws = Cond.code y cc maxL ret :: ws')
    (body : ∀ p e s m args below meth c s₁, BodyLoose p l y (headSpec ws rm) cc maxL ret e s m args below meth c s₁ → c.maxLocals = maxL → (∀ x ∈ c.exceptionTable.toList, False) → Pc args s →
      W p l e (headSpec ws rm).room s m args below meth c s.heap [] 0 0 (vx_MQ below Qc XC args s mc ms free) (entryFrame m args maxL)) : vx_Met l y ws rm Pc Qc XC mc ms free := by
  refine MetFree.of_bodyS (code := cc) (maxLocals := maxL) (ret := ret) hy ?_ ?_
  · intro args s m h hn
    obtain ⟨meth, c, h1, h2, h3, h4, h5, h6, -, -⟩ := Cond.code_spec hn (atoms_spec (ws := ws) h _ (by rw [hw]; exact List.mem_cons_self))
    exact ⟨meth, c, h1, h2, h3, h4, h5, h6⟩
  · intro p e s m args below meth c s₁ B hml hP _
    have hh0 : s₁.heap = s.heap := by rw [B.state]; rfl
    have ht : ∀ x ∈ c.exceptionTable.toList, False := by
      obtain ⟨meth9, c9, h1, h2, -, -, -, -, h7, -⟩ := Cond.code_spec B.named (atoms_spec (ws := ws) B.pre _ (by rw [hw]; exact List.mem_cons_self))
      cases Option.some.inj (h1.symm.trans B.method)
      cases Option.some.inj (h2.symm.trans (Stand.of_body B).code)
      intro x hx
      rw [Array.isEmpty_iff.mp h7] at hx
      cases hx
    obtain ⟨t, a1, o, b1, b2, b3⟩ := body p e s m args below meth c s₁ B hml ht hP s₁ hh0 (Stand.of_body B)
    exact ⟨t, o, a1, b1, b2, b3⟩
/-- the table of a body with handlers -/
theorem vx_table {p : Program} {x y : MethodName} {S : Spec} {cc bytes : ByteArray} {maxL maxL' : Nat} {ret ret' : Option FieldType} {e : Env} {s s₁ : State} {m : MethodId} {args : Array Value} {below : List Frame} {meth : Method} {c : Code} {hh : List (Nat × Nat × Nat × Nat)}
    (B : BodyLoose p l y S cc maxL ret e s m args below meth c s₁) (h : (Cond.codeWith y bytes maxL' ret' hh).before args s = true) : c.exceptionTable.toList = tableOf hh := by
  obtain ⟨m9, meth9, c9, hn9, h1, h2, -, -, h6, -⟩ := Cond.codeWith_spec h
  cases Option.some.inj (hn9.symm.trans B.named)
  cases Option.some.inj (h1.symm.trans B.method)
  cases Option.some.inj (h2.symm.trans (Stand.of_body B).code)
  rw [← h6, table_eq]
end Bodies
end VXA
/-! ===== END ===== -/
/-! ===== BEGIN a static call of a method with an exception table ===== -/
section VXS
variable {p : Program} {l : Launch} {e : Env} {R : Room} {s : State} {m : MethodId} {args : Array Value} {below : List Frame} {meth : Method} {c : Code} {T : State} {H : Heap} {locs : List Loc} {cells slots : Nat}
abbrev vx_CSW (R : Room) (s : State) (args : Array Value) (own : String) (index : Nat) (y : MethodName) (bytes : ByteArray) (maxL : Nat) (ret : Option FieldType) (hh : List (Nat × Nat × Nat × Nat)) (ws : List Cond) (rm : Room) (mc ms n : Nat) : Prop :=
  (rm.cells = mc ∧ rm.slots = ms ∧ rm.frames + 1 ≤ R.frames ∧ 8 + (maxL + 11) + rm.locals ≤ R.locals ∧ (∀ w ∈ ws, ∀ (a' : Array Value) (U : State), s.WarmedH U.vm → w.before a' U = true) ∧ Cond.codeWith y bytes maxL ret hh ∈ ws) ∧
  (Cond.codeWith y bytes maxL ret hh).before args s = true ∧ (Cond.initialized y.cls).before args s = true ∧ (y.cls ≠ "java/lang/invoke/MethodHandle" ∧ y.cls ≠ "java/lang/invoke/VarHandle") ∧
  (∀ sig, parseMethodDescriptor y.desc = some sig → n = sig.parameters.length) ∧ (Cond.methodLink own index y).before args s = true ∧ (Cond.static y).before args s = true
theorem vx_cwSW {own : String} {index maxL mc ms : Nat} {y : MethodName} {bytes : ByteArray} {ret : Option FieldType} {hh : List (Nat × Nat × Nat × Nat)} {Ts ws ws' : List Cond} {rm : Room} (n : Nat) (ht : ∀ w ∈ Ts, w.before args s = true) (hT : GoodIn Ts (va_wsS own index y ws)) (hw : ws = Cond.codeWith y bytes maxL ret hh :: ws') (hrc : rm.cells = mc) (hrs : rm.slots = ms)
    (hd : y.cls ≠ "java/lang/invoke/MethodHandle" ∧ y.cls ≠ "java/lang/invoke/VarHandle" ∧ (parseMethodDescriptor y.desc).map (fun d => d.parameters.length) = some n) (hR : rm.frames + 1 ≤ R.frames ∧ 8 + (maxL + 11) + rm.locals ≤ R.locals) :
    vx_CSW R s args own index y bytes maxL ret hh ws rm mc ms n := by
  have ok : ∀ w ∈ va_wsS own index y ws, w.before args s = true := fun w h => ht w (hT w h).1
  have hG : GoodIn Ts ws := fun w h => hT w (by unfold va_wsS; exact List.mem_append_right _ h)
  have hc : Cond.codeWith y bytes maxL ret hh ∈ ws := by rw [hw]; exact List.mem_cons_self
  refine ⟨⟨hrc, hrs, hR.1, hR.2, pay_in ht hG, hc⟩, ht _ (hG _ hc).1, ok _ (by simp [va_wsS]), ⟨hd.1, hd.2.1⟩, fun sig h => ?_, ok _ (by simp [va_wsS]), ok _ (by simp [va_wsS])⟩
  have h2 := hd.2.2
  rw [h] at h2
  exact (Option.some.inj h2).symm
theorem vx_callSW (X : Stand p l e R s m args below meth c T locs cells slots) (hexec : p.tables.exec = Jvm.exec) {own : String} {index : Nat} {y : MethodName} {bytes : ByteArray} {maxL : Nat} {ret : Option FieldType} {hh : List (Nat × Nat × Nat × Nat)}
    (hown : s.vm.findClass own = some m.cls) (hlink : (Cond.methodLink own index y).before args s = true) (hstat : (Cond.static y).before args s = true) (hinit : (Cond.initialized y.cls).before args s = true)
    (hcode : (Cond.codeWith y bytes maxL ret hh).before args s = true) (hy : y.cls ≠ "java/lang/invoke/MethodHandle" ∧ y.cls ≠ "java/lang/invoke/VarHandle")
    {W9 : Nat} {Pre : Pt → Array Value → Prop} {Post : Pt → Array Value → Option Value → Pt → Prop} (hK : Back l R p e below s args y 3 W9 Pre Post)
    {g : JFrame} (hg : g.method = m) (hsize : g.locals.size = c.maxLocals) {argsL rest : List Value} (hlen : ∀ sig, parseMethodDescriptor y.desc = some sig → argsL.length = sig.parameters.length)
    (hstack : g.stack = argsL.reverse ++ rest) (hW : 2 * g.monitorRoom + (rest.map fun v => v.category).sum ≤ W9) (hdg : decode c.code g.pc = .ok (.invokestatic index, 3))
    (hpre : ∀ vm₁, s.WarmedH vm₁ → Pre ⟨T.setVm vm₁, locs, cells, slots⟩ argsL.toArray) :
    ∃ (v : Option Value) (vm₁ : Vm) (B : Pt), s.WarmedH vm₁ ∧ Stand p l e R s m args below meth c B.U B.locs B.cells B.slots ∧ Post ⟨T.setVm vm₁, locs, cells, slots⟩ argsL.toArray v B ∧
      ∀ target, Steps p.tables e below (B.U.setTop { g with pc := g.pc + 3, stack := v.toList ++ rest }) target → Steps p.tables e below (T.setTop g) target := by
  obtain ⟨mk, methM, cM, hnamed, hmethM, -, -, -, -, -, -, hsigM⟩ := Cond.codeWith_spec hcode
  have hstatic : methM.isStatic = true := Cond.static_spec hnamed hmethM hstat
  obtain ⟨kP, hkP, -⟩ := className_of_methodNamed hnamed
  have hinitP : kP.init = .initialized := Cond.initialized_spec (findClass_of_methodNamed hnamed) hkP hinit
  obtain ⟨vm₁, X₁, hstep₁⟩ := X.invokestatic hexec hown hlink hnamed hmethM hstatic hkP hinitP hy (g := g) hg (argsL := argsL) (rest := rest) (hlen _ hsigM) hstack hdg
  obtain ⟨v, B, X', hpost, hsteps⟩ := hK m meth c ⟨T.setVm vm₁, locs, cells, slots⟩ { g with stack := rest } (.invokestatic index) mk argsL.toArray X₁ hg hsize hdg hW (X₁.named hnamed) (hpre vm₁ X₁.warmed)
  exact ⟨v, vm₁, B, X₁.warmed, X', hpost, fun target h => hstep₁ _ fun acts => by rw [doInvoke_state]; exact hsteps.trans h⟩
theorem vx_runSW {y : MethodName} {bytes cc : ByteArray} {maxL nL mc ms n index : Nat} {ret : Option FieldType} {hh : List (Nat × Nat × Nat × Nat)} {ws : List Cond} {rm : Room} {Pc : Array Value → State → Prop} {Qc : Array Value → State → Outcome → State → Prop} {free : Addr → Prop} {Ts : List Cond} {own : String} {As rest : List Value} {g : JFrame}
    (S : CallFix p m c cc nL s args Ts own) (hM : Met l y ws rm Pc Qc mc ms free) (cw : vx_CSW R s args own index y bytes maxL ret hh ws rm mc ms n) (hp : PreS s H Pc As)
    (hg : g.method = m) (hn : As.length = n) (hsize : g.locals.size = nL) (hstack : g.stack = As.reverse ++ rest) (hW : 2 * g.monitorRoom + (rest.map fun v => v.category).sum ≤ 8) (hdg : decode cc g.pc = .ok (.invokestatic index, 3)) (hf : cells + mc ≤ R.cells ∧ slots + ms ≤ R.slots) :
    va_Run p l e R s m args below meth c H locs cells slots mc ms g rest (Qc As.toArray) (free) := by
  obtain ⟨⟨hrc, hrs, hfr, hlo, hws, hcw⟩, hcode, hini, hy, hlen, hl, hstt⟩ := cw
  have hK : Back l R p e below s args y 3 8 (PreOf R mc ms Pc) (PostOf Qc mc ms free) := va_backW (hh := hh) (bytes := bytes) (maxL := maxL) (ret := ret) hM hp.1 hrc hrs hfr hlo hws hcw (fun a' U hW => word_at hW (Or.inl (by first | rfl | simp [Cond.onTables, Cond.keeps, Cond.steady])) hini)
  obtain ⟨hx, hb, hml, ho, -⟩ := S
  intro T hT X
  obtain ⟨v, vm₁, ⟨U', l2, c2, s2⟩, hW₁, X', ⟨g', mk, t, L, e1, e2, hq, h1, hL, h2, h3⟩, st⟩ := vx_callSW X hx (hh := hh) (bytes := bytes) (maxL := maxL) (ret := ret) ho hl hstt hini hcode hy hK hg (hsize.trans hml.symm) (argsL := As) (rest := rest) (fun sig h => hn.trans (hlen sig h)) hstack hW (by rw [hb]; exact hdg)
    (fun vm₁ hW₁ => ⟨hf.1, hf.2, hp.2 (T.setVm vm₁) hT hW₁⟩)
  dsimp only [Pt.U, Pt.locs, Pt.cells, Pt.slots] at X' e1 e2 h1 h2 h3 st
  subst h1; subst h2; subst h3
  exact ⟨v, (T.setVm vm₁).calling g' mk As.toArray, t, U', L, hT, X', hL, e1, e2, hq, st⟩
/-- not caught here, past rows that name other classes: it goes on to the caller -/
theorem vx_outP {p : Program} {l : Launch} {e : Env} {R : Room} {s : State} {m : MethodId} {args : Array Value} {below : List Frame} {meth : Method} {c : Code} {H : Heap} {locs : List Loc} {cells slots : Nat} {free : Addr → Prop} {ls : Array Slot} {rest : List Value} {Qc : Array Value → State → Outcome → State → Prop} {XC : String → State → State → Prop}
    {pc : Nat} {own E : String} {ce : Cell} {q : Addr} {mc ms : Nat} (hown : s.vm.findClass own = some m.cls) (hlocks : meth.locks = false)
    (hpass : ∀ z ∈ c.exceptionTable.toList, covers z pc = false ∨ (z.catchType ≠ 0 ∧ ∃ nm : String, (Cond.classLink own z.catchType nm).before args s = true ∧ va_Nc E nm s)) (hcell : H[q]? = some ce) (hv : ce.vm = .none) (hcl : s.vm.findClass E = some ce.cls)
    (hx : ∀ t : State, t.heap = H → s.vm.Alike t.vm → XC E s t) (hf : ∀ z ∈ locs, free z.base) (hc : cells ≤ mc) (hs : slots ≤ ms) :
    vx_W p l e R s m args below meth c H locs cells slots (vx_MQ below Qc XC args s mc ms free) (F0 m pc ls rest) q := by
  intro T hT X
  have hpl : e.platform.magicAccessors = ({} : Platform).magicAccessors := by rw [X.admits.platform]
  obtain ⟨vm', hW', X', st⟩ := X.outThrough hlocks q (g := F0 m pc ls rest) rfl rfl rfl (cell := ce) (by rw [hT]; exact hcell) (by rw [hv]; rfl)
    (by obtain ⟨k9, h9, -⟩ := Vm.findClass_spec hcl; exact ⟨k9, h9⟩) (fun z hz => by
      rcases hpass z hz with h | ⟨hz0, nm, hl1, hn1⟩
      · exact Or.inl h
      · obtain ⟨c6, hc6, hcl6⟩ := Cond.classLink_spec hown hl1 e.platform hpl
        obtain ⟨a8, b8, h1, h2, h3⟩ := hn1
        cases Option.some.inj (h1.symm.trans hcl)
        cases Option.some.inj (h2.symm.trans hc6)
        exact Or.inr ⟨hz0, _, hcl6, h3⟩)
  obtain ⟨g₀, hfr⟩ := X'.frames_eq
  have hcell9 : ((T.setVm vm').setFrames (.throwing q :: below)).heap[q]? = some ce := by
    show T.heap[q]? = some ce
    rw [hT]; exact hcell
  have hend : Ended ((T.setVm vm').setFrames (.throwing q :: below)) below (.threw q) := State.frames_setFrames _ (State.cur_lt_of_frames hfr)
  refine ⟨(T.setVm vm').setFrames (.throwing q :: below), ?_, .threw q, X'.here.running, hend, Or.inr ⟨q, rfl, E, ce, locs, hx _ hT (X'.ends _).1.alike, hcell9, hv, hcl, (X'.ends _).1, (X'.ends _).2.mono hc hs, hf⟩⟩
  rw [X.pushThrowing_eq]
  exact st
/-- a thing of a world lies in the heap -/
theorem vx_lt {D : va_G} {cl : List vw_C} {ws : va_W} {H1 : Heap} (h : va_P D cl ws H1) {k : Nat} {q : Nat × va_E} (hk : ws[k]? = some q) : q.1 < H1.size := (h k q hk).lt
end VXS
/-! ===== END ===== -/
/-! ===== BEGIN methods with a table of their own: called by a name, returning or throwing ===== -/
section VXH
/-! vx_backW, vx_callVX, vx_callSX, vx_callVW, vx_runVW, vx_runVX, vx_runSX, vx_ofWH follow the same proofs as their sisters above (Free/Laws.lean, Shelf42/LK1.lean); vx_outP calls Shelf42/NT130.lean (outThrough). -/
section
variable {l : Launch} {R : Room} {p : Program} {e : Env} {below : List Frame} {s : State} {sargs : Array Value} {y : MethodName} {len W9 : Nat}
theorem vx_backW {ws : List Cond} {rm : Room} {Pc : Array Value → State → Prop} {Qc : Array Value → State → Outcome → State → Prop} {XC : String → State → State → Prop} {mc ms : Nat} {free : Addr → Prop} {bytes : ByteArray} {maxL : Nat} {ret : Option FieldType} {hh : List (Nat × Nat × Nat × Nat)}
    (hM : vx_Met l y ws rm Pc Qc XC mc ms free) (hblind : FrameBlind Pc) (hrc : rm.cells = mc) (hrs : rm.slots = ms)
    (hframes : rm.frames + 1 ≤ R.frames) (hlocals : W9 + (maxL + 11) + rm.locals ≤ R.locals)
    (hws : ∀ w ∈ ws, ∀ a' U, s.WarmedH U.vm → w.before a' U = true) (hcode : Cond.codeWith y bytes maxL ret hh ∈ ws) (hinit : ∀ a' U, s.WarmedH U.vm → (Cond.initialized y.cls).before a' U = true) :
    vx_Back l R p e below s sargs y len W9 (PreOf R mc ms Pc) (PostOf Qc mc ms free) (vx_Post XC mc ms free) := by
  intro m meth c A g ig mk a X hg hsize hdg hW hn hp
  have h1 : (headSpec ws rm).pre.before a A.U = true := atoms_intro fun w hw => hws w hw _ _ X.warmed
  have h2 : (Cond.codeWith y bytes maxL ret hh).before a A.U = true := hws _ hcode _ _ X.warmed
  have h3 : (Cond.initialized y.cls).before a A.U = true := hinit _ _ X.warmed
  have h4 : A.cells + (headSpec ws rm).room.cells ≤ R.cells := by rw [show (headSpec ws rm).room.cells = mc from hrc]; exact hp.1
  have h5 : A.slots + (headSpec ws rm).room.slots ≤ R.slots := by rw [show (headSpec ws rm).room.slots = ms from hrs]; exact hp.2.1
  have hPc : Pc a (A.U.calling g mk a) := hblind _ _ _ _ hp.2.2
  obtain ⟨U, Ls, c0, s0⟩ := A
  dsimp only [Pt.U, Pt.locs, Pt.cells, Pt.slots] at h1 h2 h3 h4 h5 X hn hPc ⊢
  obtain ⟨m9, methY, cY, hn9, hmY, hcY, -, hlY, -⟩ := Cond.codeWith_spec h2
  cases Option.some.inj (hn9.symm.trans hn)
  obtain ⟨kY, hkY, -⟩ := className_of_methodNamed hn
  have hinitY : kY.init = .initialized := Cond.initialized_spec (findClass_of_methodNamed hn) hkY h3
  have h : At U g.method c below := by rw [hg]; exact X.here
  have hlocals9 : W9 + (maxL + 11) + (headSpec ws rm).room.locals ≤ R.locals := hlocals
  have happ : (headSpec ws rm).appliesLoose y e.platform (U.calling g mk a) = true :=
    Spec.appliesLoose_calling (g := g) h hdg hn hkY hinitY
      (X.room_calling (g := g) (R' := (headSpec ws rm).room) hsize hmY hcY hframes (by rw [hlY]; omega) h4 h5) h1
  obtain ⟨mid, hmid⟩ := h.above
  have hfr : (U.setTop g).frames = (.java g :: mid) ++ below := by rw [State.frames_setTop' g h.top, hmid]; rfl
  obtain ⟨o, s₂, hsteps, -, hend, hq⟩ := Steps.callFree hM p X.admits X.cas X.clock (acts := []) hfr happ hPc trivial
  have hq' : vx_Q Qc XC mc ms free a (U.calling g mk a) o s₂ := hq
  rw [State.frames_setTop' g h.top] at hend
  obtain ⟨g₀, hg0⟩ := Option.isSome_iff_exists.mp h.top
  obtain ⟨r, hr⟩ := State.topJava?_eq_some.mp hg0
  have hr' : (({ U with heap := s₂.heap, slotsUsed := s₂.slotsUsed } : State).setVm s₂.vm).frames = .java g₀ :: r := hr
  rcases hq' with ⟨hqc, L, hfe, hL⟩ | ⟨q, rfl, E, ce, L, hx, hce, hcv, hcl, hW₂, hsm, hL⟩
  · obtain ⟨⟨v, rfl⟩, hW₂, e2, q2, q3, q4, q5, q6⟩ := id hfe
    have e3 : s₂ = ({ (U.calling g mk a).setFrames s₂.frames with heap := s₂.heap, slotsUsed := s₂.slotsUsed } : State).setVm s₂.vm := by
      have : s₂ = ({ s₂ with vm := (U.calling g mk a).vm } : State).setVm s₂.vm := rfl
      rw [e2] at this
      exact this
    obtain ⟨c₂, i₂, len₂, hc₂, hd₂, hf₂⟩ := hend
    have hW' : U.WarmedH s₂.vm := hW₂
    have hcc : c₂ = c := by
      have h1 : s₂.code? g.method = U.code? g.method := by
        rw [State.code?_eq, State.code?_eq, hW'.alike.method?]
      exact Option.some.inj (hc₂.symm.trans (h1.trans h.code))
    subst hcc
    have hlen : len₂ = len := by rw [hdg] at hd₂; cases hd₂; rfl
    subst hlen
    have hs₂ : s₂ = (({ U with heap := s₂.heap, slotsUsed := s₂.slotsUsed } : State).setVm s₂.vm).setTop { g with pc := g.pc + len₂, stack := v.toList ++ g.stack } := by
      refine e3.trans ?_
      rw [hf₂, State.calling_eq h.top, State.setFrames_setFrames, State.setTop_of_frames _ hr', hr]
      rfl
    have hsame : U.sameButNew ({ U with heap := s₂.heap, slotsUsed := s₂.slotsUsed } : State) L mc ms := by
      refine ⟨?_, q2, q3, q4, q5, q6⟩
      obtain ⟨t, ht, -⟩ := State.frames_cons hr
      show ({ U with heap := s₂.heap, slotsUsed := s₂.slotsUsed } : State) = { U.setFrames U.frames with heap := s₂.heap, slotsUsed := s₂.slotsUsed }
      rw [State.setFrames_self ht]
    subst hg
    refine Or.inl ⟨v, ⟨(({ U with heap := s₂.heap, slotsUsed := s₂.slotsUsed } : State).setVm s₂.vm), Ls ++ L, c0 + mc, s0 + ms⟩,
      ⟨X.admits, X.cas, X.clock, X.frames, X.room, X.hears, X.method, X.code, (X.here.setHeapUsed s₂.heap s₂.slotsUsed).setVm hW'.alike, X.tail, State.WarmedH.trans X.warmed hW', X.limits, X.bytes, X.same.trans (hsame.setVm s.vm)⟩,
      ⟨g, mk, s₂, L, rfl, rfl, hqc, rfl, hL, rfl, rfl⟩, ?_⟩
    show Steps p.tables e below _ ((({ U with heap := s₂.heap, slotsUsed := s₂.slotsUsed } : State).setVm s₂.vm).setTop { g with pc := g.pc + len₂, stack := v.toList ++ g.stack })
    rw [← hs₂]
    exact hsteps
  · obtain ⟨e2, q2, q3, q4, q5, q6⟩ := id hsm
    have e3 : s₂ = ({ (U.calling g mk a).setFrames s₂.frames with heap := s₂.heap, slotsUsed := s₂.slotsUsed } : State).setVm s₂.vm := by
      have : s₂ = ({ s₂ with vm := (U.calling g mk a).vm } : State).setVm s₂.vm := rfl
      rw [e2] at this
      exact this
    have hf₂ : s₂.frames = .throwing q :: .java g :: U.frames.tail := hend
    have hW' : U.WarmedH s₂.vm := hW₂
    have hs₂ : s₂ = ((({ U with heap := s₂.heap, slotsUsed := s₂.slotsUsed } : State).setVm s₂.vm).setTop g).pushFrame (.throwing q) := by
      refine e3.trans ?_
      rw [hf₂, State.calling_eq h.top, State.setFrames_setFrames, State.pushFrame, State.frames_setTop _ hr', State.setTop_of_frames _ hr', State.setFrames_setFrames, hr]
      rfl
    have hsame : U.sameButNew ({ U with heap := s₂.heap, slotsUsed := s₂.slotsUsed } : State) L mc ms := by
      refine ⟨?_, q2, q3, q4, q5, q6⟩
      obtain ⟨t, ht, -⟩ := State.frames_cons hr
      show ({ U with heap := s₂.heap, slotsUsed := s₂.slotsUsed } : State) = { U.setFrames U.frames with heap := s₂.heap, slotsUsed := s₂.slotsUsed }
      rw [State.setFrames_self ht]
    subst hg
    refine Or.inr ⟨q, ⟨(({ U with heap := s₂.heap, slotsUsed := s₂.slotsUsed } : State).setVm s₂.vm), Ls ++ L, c0 + mc, s0 + ms⟩,
      ⟨X.admits, X.cas, X.clock, X.frames, X.room, X.hears, X.method, X.code, (X.here.setHeapUsed s₂.heap s₂.slotsUsed).setVm hW'.alike, X.tail, State.WarmedH.trans X.warmed hW', X.limits, X.bytes, X.same.trans (hsame.setVm s.vm)⟩,
      ⟨g, mk, s₂, L, E, ce, rfl, rfl, hx, hce, hcv, hcl, rfl, hL, rfl, rfl⟩, ?_⟩
    show Steps p.tables e below _ (((({ U with heap := s₂.heap, slotsUsed := s₂.slotsUsed } : State).setVm s₂.vm).setTop g).pushFrame (.throwing q))
    rw [← hs₂]
    exact hsteps
end
variable {p : Program} {l : Launch} {e : Env} {R : Room} {s : State} {m : MethodId} {args : Array Value} {below : List Frame} {meth : Method} {c : Code} {T : State} {H : Heap} {locs : List Loc} {cells slots : Nat}
theorem vx_callVX (X : Stand p l e R s m args below meth c T locs cells slots) (hexec : p.tables.exec = Jvm.exec) {own C : String} {index : Nat} {y : MethodName} {bytes : ByteArray} {maxL : Nat} {ret : Option FieldType} {hh : List (Nat × Nat × Nat × Nat)}
    (hown : s.vm.findClass own = some m.cls) (hlink : (Cond.methodLink own index y).before args s = true) (hinst : (Cond.instanceMethod y).before args s = true) (hsel : (Cond.selects C y y).before args s = true)
    (hcode : (Cond.codeWith y bytes maxL ret hh).before args s = true) (hy : y.cls ≠ "java/lang/invoke/MethodHandle" ∧ y.cls ≠ "java/lang/invoke/VarHandle")
    {W9 : Nat} {Pre : Pt → Array Value → Prop} {Post : Pt → Array Value → Option Value → Pt → Prop} {PostX : Pt → Array Value → Addr → Pt → Prop} (hK : vx_Back l R p e below s args y 3 W9 Pre Post PostX)
    {b : Addr} {cellB : Cell} (hcell : T.heap[b]? = some cellB) (hobj : cellB.vm.isStatics = false) (hcls : s.vm.findClass C = some cellB.cls)
    {g : JFrame} (hg : g.method = m) (hsize : g.locals.size = c.maxLocals) {argsL rest : List Value} (hlen : ∀ sig, parseMethodDescriptor y.desc = some sig → argsL.length = sig.parameters.length)
    (hstack : g.stack = argsL.reverse ++ .ref b :: rest) (hW : 2 * g.monitorRoom + (rest.map fun v => v.category).sum ≤ W9) (hdg : decode c.code g.pc = .ok (.invokevirtual index, 3))
    (hpre : ∀ vm₁, s.WarmedH vm₁ → Pre ⟨T.setVm vm₁, locs, cells, slots⟩ (Value.ref b :: argsL).toArray) :
    (∃ (v : Option Value) (vm₁ : Vm) (B : Pt), s.WarmedH vm₁ ∧ Stand p l e R s m args below meth c B.U B.locs B.cells B.slots ∧ Post ⟨T.setVm vm₁, locs, cells, slots⟩ (Value.ref b :: argsL).toArray v B ∧
      ∀ target, Steps p.tables e below (B.U.setTop { g with pc := g.pc + 3, stack := v.toList ++ rest }) target → Steps p.tables e below (T.setTop g) target) ∨
    (∃ (q : Addr) (vm₁ : Vm) (B : Pt), s.WarmedH vm₁ ∧ Stand p l e R s m args below meth c B.U B.locs B.cells B.slots ∧ PostX ⟨T.setVm vm₁, locs, cells, slots⟩ (Value.ref b :: argsL).toArray q B ∧
      Steps p.tables e below (T.setTop g) ((B.U.setTop { g with stack := rest }).pushFrame (.throwing q))) := by
  obtain ⟨mk, methM, hnamed, hmethM, hstM, habM⟩ := Cond.instanceMethod_spec hinst
  obtain ⟨m8, methM', cM, hn8, hmethM', -, -, -, -, -, -, hsigM⟩ := Cond.codeWith_spec hcode
  cases Option.some.inj (hn8.symm.trans hnamed)
  cases hmethM.symm.trans hmethM'
  obtain ⟨c2, r2, m2, q1, q2, q3, q4, kP, hkP, hkPi⟩ := Cond.selects_spec hsel
  cases hcls.symm.trans q1
  cases (State.methodFound?_of_named hnamed hy).symm.trans q2
  cases hnamed.symm.trans q3
  have hselP : selectMethod e.platform s.vm cellB.cls mk = .method mk := by rw [Launch.admits_selectMethod X.admits]; exact q4
  obtain ⟨vm₁, X₁, hstep₁⟩ := X.invokevirtual hexec hown hlink hnamed hmethM hstM hkP hkPi hy (a := b) (cell := cellB) hcell
    (fun z h => by rw [h] at hobj; cases hobj) hselP hmethM habM hkP hkPi (g := g) hg (argsL := argsL) (rest := rest) (hlen _ hsigM) hstack hdg
  rcases hK m meth c ⟨T.setVm vm₁, locs, cells, slots⟩ { g with stack := rest } (.invokevirtual index) mk (Value.ref b :: argsL).toArray X₁ hg hsize hdg hW (X₁.named hnamed) (hpre vm₁ X₁.warmed) with ⟨v, B, X', hpost, hsteps⟩ | ⟨q, B, X', hpost, hsteps⟩
  · exact Or.inl ⟨v, vm₁, B, X₁.warmed, X', hpost, fun target h => hstep₁ _ fun acts => by rw [doInvoke_state]; exact hsteps.trans h⟩
  · exact Or.inr ⟨q, vm₁, B, X₁.warmed, X', hpost, hstep₁ _ fun acts => by rw [doInvoke_state]; exact hsteps⟩
theorem vx_callSX (X : Stand p l e R s m args below meth c T locs cells slots) (hexec : p.tables.exec = Jvm.exec) {own : String} {index : Nat} {y : MethodName} {bytes : ByteArray} {maxL : Nat} {ret : Option FieldType} {hh : List (Nat × Nat × Nat × Nat)}
    (hown : s.vm.findClass own = some m.cls) (hlink : (Cond.methodLink own index y).before args s = true) (hstat : (Cond.static y).before args s = true) (hinit : (Cond.initialized y.cls).before args s = true)
    (hcode : (Cond.codeWith y bytes maxL ret hh).before args s = true) (hy : y.cls ≠ "java/lang/invoke/MethodHandle" ∧ y.cls ≠ "java/lang/invoke/VarHandle")
    {W9 : Nat} {Pre : Pt → Array Value → Prop} {Post : Pt → Array Value → Option Value → Pt → Prop} {PostX : Pt → Array Value → Addr → Pt → Prop} (hK : vx_Back l R p e below s args y 3 W9 Pre Post PostX)
    {g : JFrame} (hg : g.method = m) (hsize : g.locals.size = c.maxLocals) {argsL rest : List Value} (hlen : ∀ sig, parseMethodDescriptor y.desc = some sig → argsL.length = sig.parameters.length)
    (hstack : g.stack = argsL.reverse ++ rest) (hW : 2 * g.monitorRoom + (rest.map fun v => v.category).sum ≤ W9) (hdg : decode c.code g.pc = .ok (.invokestatic index, 3))
    (hpre : ∀ vm₁, s.WarmedH vm₁ → Pre ⟨T.setVm vm₁, locs, cells, slots⟩ argsL.toArray) :
    (∃ (v : Option Value) (vm₁ : Vm) (B : Pt), s.WarmedH vm₁ ∧ Stand p l e R s m args below meth c B.U B.locs B.cells B.slots ∧ Post ⟨T.setVm vm₁, locs, cells, slots⟩ argsL.toArray v B ∧
      ∀ target, Steps p.tables e below (B.U.setTop { g with pc := g.pc + 3, stack := v.toList ++ rest }) target → Steps p.tables e below (T.setTop g) target) ∨
    (∃ (q : Addr) (vm₁ : Vm) (B : Pt), s.WarmedH vm₁ ∧ Stand p l e R s m args below meth c B.U B.locs B.cells B.slots ∧ PostX ⟨T.setVm vm₁, locs, cells, slots⟩ argsL.toArray q B ∧
      Steps p.tables e below (T.setTop g) ((B.U.setTop { g with stack := rest }).pushFrame (.throwing q))) := by
  obtain ⟨mk, methM, cM, hnamed, hmethM, -, -, -, -, -, -, hsigM⟩ := Cond.codeWith_spec hcode
  have hstatic : methM.isStatic = true := Cond.static_spec hnamed hmethM hstat
  obtain ⟨kP, hkP, -⟩ := className_of_methodNamed hnamed
  have hinitP : kP.init = .initialized := Cond.initialized_spec (findClass_of_methodNamed hnamed) hkP hinit
  obtain ⟨vm₁, X₁, hstep₁⟩ := X.invokestatic hexec hown hlink hnamed hmethM hstatic hkP hinitP hy (g := g) hg (argsL := argsL) (rest := rest) (hlen _ hsigM) hstack hdg
  rcases hK m meth c ⟨T.setVm vm₁, locs, cells, slots⟩ { g with stack := rest } (.invokestatic index) mk argsL.toArray X₁ hg hsize hdg hW (X₁.named hnamed) (hpre vm₁ X₁.warmed) with ⟨v, B, X', hpost, hsteps⟩ | ⟨q, B, X', hpost, hsteps⟩
  · exact Or.inl ⟨v, vm₁, B, X₁.warmed, X', hpost, fun target h => hstep₁ _ fun acts => by rw [doInvoke_state]; exact hsteps.trans h⟩
  · exact Or.inr ⟨q, vm₁, B, X₁.warmed, X', hpost, hstep₁ _ fun acts => by rw [doInvoke_state]; exact hsteps⟩
theorem vx_callVW (X : Stand p l e R s m args below meth c T locs cells slots) (hexec : p.tables.exec = Jvm.exec) {own C : String} {index : Nat} {y : MethodName} {bytes : ByteArray} {maxL : Nat} {ret : Option FieldType} {hh : List (Nat × Nat × Nat × Nat)}
    (hown : s.vm.findClass own = some m.cls) (hlink : (Cond.methodLink own index y).before args s = true) (hinst : (Cond.instanceMethod y).before args s = true) (hsel : (Cond.selects C y y).before args s = true)
    (hcode : (Cond.codeWith y bytes maxL ret hh).before args s = true) (hy : y.cls ≠ "java/lang/invoke/MethodHandle" ∧ y.cls ≠ "java/lang/invoke/VarHandle")
    {W9 : Nat} {Pre : Pt → Array Value → Prop} {Post : Pt → Array Value → Option Value → Pt → Prop} (hK : Back l R p e below s args y 3 W9 Pre Post)
    {b : Addr} {cellB : Cell} (hcell : T.heap[b]? = some cellB) (hobj : cellB.vm.isStatics = false) (hcls : s.vm.findClass C = some cellB.cls)
    {g : JFrame} (hg : g.method = m) (hsize : g.locals.size = c.maxLocals) {argsL rest : List Value} (hlen : ∀ sig, parseMethodDescriptor y.desc = some sig → argsL.length = sig.parameters.length)
    (hstack : g.stack = argsL.reverse ++ .ref b :: rest) (hW : 2 * g.monitorRoom + (rest.map fun v => v.category).sum ≤ W9) (hdg : decode c.code g.pc = .ok (.invokevirtual index, 3))
    (hpre : ∀ vm₁, s.WarmedH vm₁ → Pre ⟨T.setVm vm₁, locs, cells, slots⟩ (Value.ref b :: argsL).toArray) :
    ∃ (v : Option Value) (vm₁ : Vm) (B : Pt), s.WarmedH vm₁ ∧ Stand p l e R s m args below meth c B.U B.locs B.cells B.slots ∧ Post ⟨T.setVm vm₁, locs, cells, slots⟩ (Value.ref b :: argsL).toArray v B ∧
      ∀ target, Steps p.tables e below (B.U.setTop { g with pc := g.pc + 3, stack := v.toList ++ rest }) target → Steps p.tables e below (T.setTop g) target := by
  obtain ⟨mk, methM, hnamed, hmethM, hstM, habM⟩ := Cond.instanceMethod_spec hinst
  obtain ⟨m8, methM', cM, hn8, hmethM', -, -, -, -, -, -, hsigM⟩ := Cond.codeWith_spec hcode
  cases Option.some.inj (hn8.symm.trans hnamed)
  cases hmethM.symm.trans hmethM'
  obtain ⟨c2, r2, m2, q1, q2, q3, q4, kP, hkP, hkPi⟩ := Cond.selects_spec hsel
  cases hcls.symm.trans q1
  cases (State.methodFound?_of_named hnamed hy).symm.trans q2
  cases hnamed.symm.trans q3
  have hselP : selectMethod e.platform s.vm cellB.cls mk = .method mk := by rw [Launch.admits_selectMethod X.admits]; exact q4
  obtain ⟨vm₁, X₁, hstep₁⟩ := X.invokevirtual hexec hown hlink hnamed hmethM hstM hkP hkPi hy (a := b) (cell := cellB) hcell
    (fun z h => by rw [h] at hobj; cases hobj) hselP hmethM habM hkP hkPi (g := g) hg (argsL := argsL) (rest := rest) (hlen _ hsigM) hstack hdg
  obtain ⟨v, B, X', hpost, hsteps⟩ := hK m meth c ⟨T.setVm vm₁, locs, cells, slots⟩ { g with stack := rest } (.invokevirtual index) mk (Value.ref b :: argsL).toArray X₁ hg hsize hdg hW (X₁.named hnamed) (hpre vm₁ X₁.warmed)
  exact ⟨v, vm₁, B, X₁.warmed, X', hpost, fun target h => hstep₁ _ fun acts => by rw [doInvoke_state]; exact hsteps.trans h⟩
abbrev vx_CVW (R : Room) (s : State) (args : Array Value) (own C : String) (index : Nat) (y : MethodName) (bytes : ByteArray) (maxL : Nat) (ret : Option FieldType) (hh : List (Nat × Nat × Nat × Nat)) (ws : List Cond) (rm : Room) (mc ms n : Nat) : Prop :=
  (rm.cells = mc ∧ rm.slots = ms ∧ rm.frames + 1 ≤ R.frames ∧ 8 + (maxL + 11) + rm.locals ≤ R.locals ∧ (∀ w ∈ ws, ∀ (a' : Array Value) (U : State), s.WarmedH U.vm → w.before a' U = true) ∧ Cond.codeWith y bytes maxL ret hh ∈ ws) ∧
  (Cond.codeWith y bytes maxL ret hh).before args s = true ∧ (Cond.initialized y.cls).before args s = true ∧ (y.cls ≠ "java/lang/invoke/MethodHandle" ∧ y.cls ≠ "java/lang/invoke/VarHandle") ∧
  (∀ sig, parseMethodDescriptor y.desc = some sig → n = sig.parameters.length) ∧ (Cond.methodLink own index y).before args s = true ∧ (Cond.instanceMethod y).before args s = true ∧ (Cond.selects C y y).before args s = true
theorem vx_cwVW {own C : String} {index maxL mc ms : Nat} {y : MethodName} {bytes : ByteArray} {ret : Option FieldType} {hh : List (Nat × Nat × Nat × Nat)} {Ts ws ws' : List Cond} {rm : Room} (n : Nat) (ht : ∀ w ∈ Ts, w.before args s = true) (hT : GoodIn Ts (wsV own index C y ws)) (hw : ws = Cond.codeWith y bytes maxL ret hh :: ws') (hrc : rm.cells = mc) (hrs : rm.slots = ms)
    (hd : y.cls = C ∧ y.cls ≠ "java/lang/invoke/MethodHandle" ∧ y.cls ≠ "java/lang/invoke/VarHandle" ∧ (parseMethodDescriptor y.desc).map (fun d => d.parameters.length) = some n) (hR : rm.frames + 1 ≤ R.frames ∧ 8 + (maxL + 11) + rm.locals ≤ R.locals) :
    vx_CVW R s args own C index y bytes maxL ret hh ws rm mc ms n := by
  obtain ⟨hC, hd⟩ := hd
  subst hC
  have ok : ∀ w ∈ wsV own index y.cls y ws, w.before args s = true := fun w h => ht w (hT w h).1
  have hG : GoodIn Ts ws := fun w h => hT w (by unfold wsV; exact List.mem_append_right _ h)
  have hc : Cond.codeWith y bytes maxL ret hh ∈ ws := by rw [hw]; exact List.mem_cons_self
  refine ⟨⟨hrc, hrs, hR.1, hR.2, pay_in ht hG, hc⟩, ht _ (hG _ hc).1, ok _ (by simp [wsV]), ⟨hd.1, hd.2.1⟩, fun sig h => ?_, ok _ (by simp [wsV]), ok _ (by simp [wsV]), ok _ (by simp [wsV])⟩
  have h2 := hd.2.2
  rw [h] at h2
  exact (Option.some.inj h2).symm
theorem vx_runVW {y : MethodName} {bytes cc : ByteArray} {maxL nL mc ms n index : Nat} {ret : Option FieldType} {hh : List (Nat × Nat × Nat × Nat)} {ws : List Cond} {rm : Room} {Pc : Array Value → State → Prop} {Qc : Array Value → State → Outcome → State → Prop} {free : Addr → Prop} {Ts : List Cond} {own C : String} {b : Addr} {As rest : List Value} {g : JFrame}
    (S : CallFix p m c cc nL s args Ts own) (hM : Met l y ws rm Pc Qc mc ms free) (cw : vx_CVW R s args own C index y bytes maxL ret hh ws rm mc ms n) (hp : PreV s H C b Pc As)
    (hg : g.method = m) (hn : As.length = n) (hsize : g.locals.size = nL) (hstack : g.stack = As.reverse ++ .ref b :: rest) (hW : 2 * g.monitorRoom + (rest.map fun v => v.category).sum ≤ 8) (hdg : decode cc g.pc = .ok (.invokevirtual index, 3)) (hf : cells + mc ≤ R.cells ∧ slots + ms ≤ R.slots) :
    va_Run p l e R s m args below meth c H locs cells slots mc ms g rest (Qc (Value.ref b :: As).toArray) free := by
  obtain ⟨⟨hrc, hrs, hfr, hlo, hws, hcw⟩, hcode, hini, hy, hlen, hl, hin, hse⟩ := cw
  have hK : Back l R p e below s args y 3 8 (PreOf R mc ms Pc) (PostOf Qc mc ms free) := va_backW (hh := hh) (bytes := bytes) (maxL := maxL) (ret := ret) hM hp.1 hrc hrs hfr hlo hws hcw (fun a' U hW => word_at hW (Or.inl (by first | rfl | simp [Cond.onTables, Cond.keeps, Cond.steady])) hini)
  obtain ⟨hx, hb, hml, ho, -⟩ := S
  obtain ⟨-, ⟨cellB, hcB, hoB, hclB⟩, hPc⟩ := hp
  intro T hT X
  obtain ⟨v, vm₁, ⟨U', l2, c2, s2⟩, hW₁, X', ⟨g', mk, t, L, e1, e2, hq, h1, hL, h2, h3⟩, st⟩ := vx_callVW X hx (C := C) (hh := hh) (bytes := bytes) (maxL := maxL) (ret := ret) ho hl hin hse hcode hy hK (by rw [hT]; exact hcB) hoB hclB hg (hsize.trans hml.symm) (argsL := As) (rest := rest) (fun sig h => hn.trans (hlen sig h)) hstack hW (by rw [hb]; exact hdg)
    (fun vm₁ hW₁ => ⟨hf.1, hf.2, hPc (T.setVm vm₁) hT hW₁⟩)
  dsimp only [Pt.U, Pt.locs, Pt.cells, Pt.slots] at X' e1 e2 h1 h2 h3 st
  subst h1; subst h2; subst h3
  exact ⟨v, (T.setVm vm₁).calling g' mk (Value.ref b :: As).toArray, t, U', L, hT, X', hL, e1, e2, hq, st⟩
section
variable {y : MethodName} {bytes cc : ByteArray} {maxL nL mc ms n index : Nat} {ret : Option FieldType} {ws : List Cond} {rm : Room} {Pc : Array Value → State → Prop} {Qc : Array Value → State → Outcome → State → Prop} {XC : String → State → State → Prop} {free : Addr → Prop} {Ts : List Cond} {own C : String} {b : Addr} {As rest : List Value} {g : JFrame}
theorem vx_runVX {hh : List (Nat × Nat × Nat × Nat)} (S : CallFix p m c cc nL s args Ts own) (hM : vx_Met l y ws rm Pc Qc XC mc ms free) (cw : vx_CVW R s args own C index y bytes maxL ret hh ws rm mc ms n) (hp : PreV s H C b Pc As)
    (hg : g.method = m) (hn : As.length = n) (hsize : g.locals.size = nL) (hstack : g.stack = As.reverse ++ .ref b :: rest) (hW : 2 * g.monitorRoom + (rest.map fun v => v.category).sum ≤ 8) (hdg : decode cc g.pc = .ok (.invokevirtual index, 3)) (hf : cells + mc ≤ R.cells ∧ slots + ms ≤ R.slots) :
    vx_Run p l e R s m args below meth c H locs cells slots mc ms g rest (Qc (Value.ref b :: As).toArray) XC free := by
  obtain ⟨⟨hrc, hrs, hfr, hlo, hws, hcw⟩, hcode, hini, hy, hlen, hl, hin, hse⟩ := cw
  have hK : vx_Back l R p e below s args y 3 8 (PreOf R mc ms Pc) (PostOf Qc mc ms free) (vx_Post XC mc ms free) := vx_backW (hh := hh) (bytes := bytes) (maxL := maxL) (ret := ret) hM hp.1 hrc hrs hfr hlo hws hcw (fun a' U hW => word_at hW (Or.inl (by first | rfl | simp [Cond.onTables, Cond.keeps, Cond.steady])) hini)
  obtain ⟨hx, hb, hml, ho, -⟩ := S
  obtain ⟨-, ⟨cellB, hcB, hoB, hclB⟩, hPc⟩ := hp
  intro T hT X
  rcases vx_callVX X hx (C := C) (hh := hh) (bytes := bytes) (maxL := maxL) (ret := ret) ho hl hin hse hcode hy hK (by rw [hT]; exact hcB) hoB hclB hg (hsize.trans hml.symm) (argsL := As) (rest := rest) (fun sig h => hn.trans (hlen sig h)) hstack hW (by rw [hb]; exact hdg)
    (fun vm₁ hW₁ => ⟨hf.1, hf.2, hPc (T.setVm vm₁) hT hW₁⟩) with ⟨v, vm₁, ⟨U', l2, c2, s2⟩, hW₁, X', ⟨g', mk, t, L, e1, e2, hq, h1, hL, h2, h3⟩, st⟩ | ⟨q, vm₁, ⟨U', l2, c2, s2⟩, hW₁, X', ⟨g', mk, t, L, E, ce, e1, e2, hq, hce, hcv, hcl, h1, hL, h2, h3⟩, st⟩
  · dsimp only [Pt.U, Pt.locs, Pt.cells, Pt.slots] at X' e1 e2 h1 h2 h3 st
    subst h1; subst h2; subst h3
    exact Or.inl ⟨v, (T.setVm vm₁).calling g' mk (Value.ref b :: As).toArray, t, U', L, hT, X', hL, e1, e2, hq, st⟩
  · dsimp only [Pt.U, Pt.locs, Pt.cells, Pt.slots] at X' e1 e2 h1 h2 h3 st hcl
    subst h1; subst h2; subst h3
    exact Or.inr ⟨q, (T.setVm vm₁).calling g' mk (Value.ref b :: As).toArray, t, U', L, E, ce, hT, X', hL, e1, e2, hq, hce, hcv, vx_cls hW₁ hcl, st⟩
theorem vx_runSX {hh : List (Nat × Nat × Nat × Nat)} (S : CallFix p m c cc nL s args Ts own) (hM : vx_Met l y ws rm Pc Qc XC mc ms free) (cw : vx_CSW R s args own index y bytes maxL ret hh ws rm mc ms n) (hp : PreS s H Pc As)
    (hg : g.method = m) (hn : As.length = n) (hsize : g.locals.size = nL) (hstack : g.stack = As.reverse ++ rest) (hW : 2 * g.monitorRoom + (rest.map fun v => v.category).sum ≤ 8) (hdg : decode cc g.pc = .ok (.invokestatic index, 3)) (hf : cells + mc ≤ R.cells ∧ slots + ms ≤ R.slots) :
    vx_Run p l e R s m args below meth c H locs cells slots mc ms g rest (Qc As.toArray) XC free := by
  obtain ⟨⟨hrc, hrs, hfr, hlo, hws, hcw⟩, hcode, hini, hy, hlen, hl, hstt⟩ := cw
  have hK : vx_Back l R p e below s args y 3 8 (PreOf R mc ms Pc) (PostOf Qc mc ms free) (vx_Post XC mc ms free) := vx_backW (hh := hh) (bytes := bytes) (maxL := maxL) (ret := ret) hM hp.1 hrc hrs hfr hlo hws hcw (fun a' U hW => word_at hW (Or.inl (by first | rfl | simp [Cond.onTables, Cond.keeps, Cond.steady])) hini)
  obtain ⟨hx, hb, hml, ho, -⟩ := S
  intro T hT X
  rcases vx_callSX X hx (hh := hh) (bytes := bytes) (maxL := maxL) (ret := ret) ho hl hstt hini hcode hy hK hg (hsize.trans hml.symm) (argsL := As) (rest := rest) (fun sig h => hn.trans (hlen sig h)) hstack hW (by rw [hb]; exact hdg)
    (fun vm₁ hW₁ => ⟨hf.1, hf.2, hp.2 (T.setVm vm₁) hT hW₁⟩) with ⟨v, vm₁, ⟨U', l2, c2, s2⟩, hW₁, X', ⟨g', mk, t, L, e1, e2, hq, h1, hL, h2, h3⟩, st⟩ | ⟨q, vm₁, ⟨U', l2, c2, s2⟩, hW₁, X', ⟨g', mk, t, L, E, ce, e1, e2, hq, hce, hcv, hcl, h1, hL, h2, h3⟩, st⟩
  · dsimp only [Pt.U, Pt.locs, Pt.cells, Pt.slots] at X' e1 e2 h1 h2 h3 st
    subst h1; subst h2; subst h3
    exact Or.inl ⟨v, (T.setVm vm₁).calling g' mk As.toArray, t, U', L, hT, X', hL, e1, e2, hq, st⟩
  · dsimp only [Pt.U, Pt.locs, Pt.cells, Pt.slots] at X' e1 e2 h1 h2 h3 st hcl
    subst h1; subst h2; subst h3
    exact Or.inr ⟨q, (T.setVm vm₁).calling g' mk As.toArray, t, U', L, E, ce, hT, X', hL, e1, e2, hq, hce, hcv, vx_cls hW₁ hcl, st⟩
end
end VXH
theorem vx_ofWH {l : Launch} {y : MethodName} {ws ws' : List Cond} {rm : Room} {Pc : Array Value → State → Prop} {Qc : Array Value → State → Outcome → State → Prop} {XC : String → State → State → Prop} {mc ms : Nat} {free : Addr → Prop} {cc : ByteArray} {maxL : Nat} {ret : Option FieldType} {hh : List (Nat × Nat × Nat × Nat)}
    (hy : plainName y.cls = true) (hw : ws = Cond.codeWith y cc maxL ret hh :: ws')
    (body : ∀ p e s m args below meth c s₁, BodyLoose p l y (headSpec ws rm) cc maxL ret e s m args below meth c s₁ → c.maxLocals = maxL → Pc args s →
      W p l e (headSpec ws rm).room s m args below meth c s.heap [] 0 0 (vx_MQ below Qc XC args s mc ms free) (entryFrame m args maxL)) : vx_Met l y ws rm Pc Qc XC mc ms free := by
  refine MetFree.of_bodyS (code := cc) (maxLocals := maxL) (ret := ret) hy ?_ ?_
  · intro args s m h hn
    obtain ⟨m9, meth, c, hn9, h1, h2, h3, h4, -, h5, h6, -⟩ := Cond.codeWith_spec (atoms_spec (ws := ws) h _ (by rw [hw]; exact List.mem_cons_self))
    cases hn.symm.trans hn9
    exact ⟨meth, c, h1, h2, h3, h4, h5, h6⟩
  · intro p e s m args below meth c s₁ B hml hP _
    have hh0 : s₁.heap = s.heap := by rw [B.state]; rfl
    obtain ⟨t, a1, o, b1, b2, b3⟩ := body p e s m args below meth c s₁ B hml hP s₁ hh0 (Stand.of_body B)
    exact ⟨t, o, a1, b1, b2, b3⟩
/-! ===== END ===== -/
end
section
def RX0 : String := "BurialGround$EntryReader"
def TX0 : u_T := fun k => match k with
  | 0 => ("BurialGround$EntryReader", "stage", "I", false)
  | 1 => ("BurialGround$EntryReader", "reserves", "Z", false)
  | 2 => ("BurialGround$EntryReader", "family", "I", false)
  | 3 => ("BurialGround$EntryReader", "plot", "I", false)
  | _ => ("BurialGround$EntryReader", "number", "I", false)
def tyX0 : Nat → FieldType := fun k => match k with
  | 0 => .int
  | 1 => .boolean
  | 2 => .int
  | 3 => .int
  | _ => .int
abbrev wsX00 : List Cond := u_ws RX0 TX0 5
theorem nmX0 : ∀ a, a < 5 → ∀ b, b < 5 → a ≠ b → (TX0 a).2.1 ≠ (TX0 b).2.1 := by decide +kernel
theorem tyX0_ok : ∀ k, k < 5 → parseFieldDescriptor (TX0 k).2.2.1 = some (tyX0 k) := by decide +kernel
abbrev cX0_init : ByteArray := prog_2_method_1_code
def yX0_init : MethodName := ⟨RX0, "<init>", "()V"⟩
abbrev cX0_startEntry : ByteArray := prog_2_method_2_code
def yX0_startEntry : MethodName := ⟨RX0, "startEntry", "()V"⟩
abbrev cX0_isComplete : ByteArray := prog_2_method_3_code
def yX0_isComplete : MethodName := ⟨RX0, "isComplete", "()Z"⟩
abbrev cX0_take : ByteArray := prog_2_method_4_code
def yX0_take : MethodName := ⟨RX0, "take", "(I)Z"⟩
abbrev cX0_takeLetter : ByteArray := prog_2_method_5_code
def yX0_takeLetter : MethodName := ⟨RX0, "takeLetter", "(I)Z"⟩
abbrev cX0_takeFamily : ByteArray := prog_2_method_6_code
def yX0_takeFamily : MethodName := ⟨RX0, "takeFamily", "(I)Z"⟩
abbrev cX0_takeColon : ByteArray := prog_2_method_7_code
def yX0_takeColon : MethodName := ⟨RX0, "takeColon", "(I)Z"⟩
abbrev cX0_takeOfPlot : ByteArray := prog_2_method_8_code
def yX0_takeOfPlot : MethodName := ⟨RX0, "takeOfPlot", "(I)Z"⟩
abbrev cX0_takeOfNumber : ByteArray := prog_2_method_9_code
def yX0_takeOfNumber : MethodName := ⟨RX0, "takeOfNumber", "(I)Z"⟩
abbrev cX0_isDigit : ByteArray := prog_2_method_10_code
def yX0_isDigit : MethodName := ⟨RX0, "isDigit", "(I)Z"⟩
def RX1 : String := "BurialGround$Ledger"
def TX1 : u_T := fun k => match k with
  | 0 => ("BurialGround$Ledger", "year", "I", false)
  | 1 => ("BurialGround$Ledger", "parish", "[I", true)
  | 2 => ("BurialGround$Ledger", "paid", "[I", true)
  | 3 => ("BurialGround$Ledger", "burialsSoFar", "[I", true)
  | 4 => ("BurialGround$Ledger", "kind", "[I", true)
  | 5 => ("BurialGround$Ledger", "vaultOf", "[I", true)
  | 6 => ("BurialGround$Ledger", "reservedFor", "[I", true)
  | 7 => ("BurialGround$Ledger", "reservedUpTo", "[I", true)
  | 8 => ("BurialGround$Ledger", "buried", "[I", true)
  | 9 => ("BurialGround$Ledger", "buriedIn", "[I", true)
  | 10 => ("BurialGround$Ledger", "feePaid", "[I", true)
  | _ => ("BurialGround$Ledger", "reached", "J", false)
def tyX1 : Nat → FieldType := fun k => match k with
  | 0 => .int
  | 1 => .array .int
  | 2 => .array .int
  | 3 => .array .int
  | 4 => .array .int
  | 5 => .array .int
  | 6 => .array .int
  | 7 => .array .int
  | 8 => .array .int
  | 9 => .array .int
  | 10 => .array .int
  | _ => .long
abbrev wsX10 : List Cond := u_ws RX1 TX1 12
theorem nmX1 : ∀ a, a < 12 → ∀ b, b < 12 → a ≠ b → (TX1 a).2.1 ≠ (TX1 b).2.1 := by decide +kernel
theorem tyX1_ok : ∀ k, k < 12 → parseFieldDescriptor (TX1 k).2.2.1 = some (tyX1 k) := by decide +kernel
abbrev cX1_init : ByteArray := prog_3_method_1_code
def yX1_init : MethodName := ⟨RX1, "<init>", "()V"⟩
abbrev cX1_copyFrom : ByteArray := prog_3_method_2_code
def yX1_copyFrom : MethodName := ⟨RX1, "copyFrom", "(LBurialGround$Ledger;)V"⟩
abbrev cX1_mayChangeKind : ByteArray := prog_3_method_3_code
def yX1_mayChangeKind : MethodName := ⟨RX1, "mayChangeKind", "(I)Z"⟩
abbrev cX1_changeKind : ByteArray := prog_3_method_4_code
def yX1_changeKind : MethodName := ⟨RX1, "changeKind", "(II)I"⟩
abbrev cX1_addBurial : ByteArray := prog_3_method_5_code
def yX1_addBurial : MethodName := ⟨RX1, "addBurial", "(III)I"⟩
abbrev cX1_removeBurials : ByteArray := prog_3_method_6_code
def yX1_removeBurials : MethodName := ⟨RX1, "removeBurials", "(I)I"⟩
abbrev cX1_mayReserve : ByteArray := prog_3_method_7_code
def yX1_mayReserve : MethodName := ⟨RX1, "mayReserve", "(II)Z"⟩
abbrev cX1_addReservation : ByteArray := prog_3_method_8_code
def yX1_addReservation : MethodName := ⟨RX1, "addReservation", "(III)I"⟩
abbrev cX1_mayBuildVault : ByteArray := prog_3_method_9_code
def yX1_mayBuildVault : MethodName := ⟨RX1, "mayBuildVault", "(II)Z"⟩
abbrev cX1_addVault : ByteArray := prog_3_method_10_code
def yX1_addVault : MethodName := ⟨RX1, "addVault", "(II)I"⟩
abbrev cX1_charge : ByteArray := prog_3_method_11_code
def yX1_charge : MethodName := ⟨RX1, "charge", "(II)I"⟩
abbrev cX1_placeOf : ByteArray := prog_3_method_12_code
def yX1_placeOf : MethodName := ⟨RX1, "placeOf", "(II)I"⟩
abbrev cX1_endOfRest : ByteArray := prog_3_method_13_code
def yX1_endOfRest : MethodName := ⟨RX1, "endOfRest", "(I)I"⟩
abbrev cX1_isResting : ByteArray := prog_3_method_14_code
def yX1_isResting : MethodName := ⟨RX1, "isResting", "(II)Z"⟩
abbrev cX1_burialsIn : ByteArray := prog_3_method_15_code
def yX1_burialsIn : MethodName := ⟨RX1, "burialsIn", "(I)I"⟩
abbrev cX1_restingBurials : ByteArray := prog_3_method_16_code
def yX1_restingBurials : MethodName := ⟨RX1, "restingBurials", "(I)I"⟩
abbrev cX1_yearOfRest : ByteArray := prog_3_method_17_code
def yX1_yearOfRest : MethodName := ⟨RX1, "yearOfRest", "(I)I"⟩
abbrev cX1_isReservedIn : ByteArray := prog_3_method_18_code
def yX1_isReservedIn : MethodName := ⟨RX1, "isReservedIn", "(II)Z"⟩
abbrev cX1_hasReservation : ByteArray := prog_3_method_19_code
def yX1_hasReservation : MethodName := ⟨RX1, "hasReservation", "(II)Z"⟩
abbrev cX1_holder : ByteArray := prog_3_method_20_code
def yX1_holder : MethodName := ⟨RX1, "holder", "(II)I"⟩
abbrev cX1_isOther : ByteArray := prog_3_method_21_code
def yX1_isOther : MethodName := ⟨RX1, "isOther", "(II)Z"⟩
abbrev cX1_greatestDepth : ByteArray := prog_3_method_22_code
def yX1_greatestDepth : MethodName := ⟨RX1, "greatestDepth", "(I)I"⟩
abbrev cX1_bitOf : ByteArray := prog_3_method_23_code
def yX1_bitOf : MethodName := ⟨RX1, "bitOf", "(I)J"⟩
abbrev cX1_isReached : ByteArray := prog_3_method_24_code
def yX1_isReached : MethodName := ⟨RX1, "isReached", "(I)Z"⟩
abbrev cX1_openPlots : ByteArray := prog_3_method_25_code
def yX1_openPlots : MethodName := ⟨RX1, "openPlots", "()J"⟩
abbrev cX1_soilPlots : ByteArray := prog_3_method_26_code
def yX1_soilPlots : MethodName := ⟨RX1, "soilPlots", "()J"⟩
abbrev cX1_neighboursOf : ByteArray := prog_3_method_27_code
def yX1_neighboursOf : MethodName := ⟨RX1, "neighboursOf", "(J)J"⟩
abbrev cX1_reachedWithout : ByteArray := prog_3_method_28_code
def yX1_reachedWithout : MethodName := ⟨RX1, "reachedWithout", "(J)J"⟩
abbrev cX1_lostWithout : ByteArray := prog_3_method_29_code
def yX1_lostWithout : MethodName := ⟨RX1, "lostWithout", "(I)I"⟩
abbrev cX1_refusal : ByteArray := prog_3_method_30_code
def yX1_refusal : MethodName := ⟨RX1, "refusal", "(IIII)I"⟩
abbrev cX1_vaultRefusal : ByteArray := prog_3_method_31_code
def yX1_vaultRefusal : MethodName := ⟨RX1, "vaultRefusal", "(III)I"⟩
abbrev cX1_freeDepth : ByteArray := prog_3_method_32_code
def yX1_freeDepth : MethodName := ⟨RX1, "freeDepth", "(I)I"⟩
abbrev cX1_latestBurial : ByteArray := prog_3_method_33_code
def yX1_latestBurial : MethodName := ⟨RX1, "latestBurial", "(I)I"⟩
abbrev cX1_priceFor : ByteArray := prog_3_method_34_code
def yX1_priceFor : MethodName := ⟨RX1, "priceFor", "(II)I"⟩
abbrev cX1_burialFee : ByteArray := prog_3_method_35_code
def yX1_burialFee : MethodName := ⟨RX1, "burialFee", "(III)I"⟩
abbrev cX1_leastFee : ByteArray := prog_3_method_36_code
def yX1_leastFee : MethodName := ⟨RX1, "leastFee", "(II)I"⟩
abbrev cX1_cheapestPlot : ByteArray := prog_3_method_37_code
def yX1_cheapestPlot : MethodName := ⟨RX1, "cheapestPlot", "(I)I"⟩
abbrev cX1_plotProperty : ByteArray := prog_3_method_38_code
def yX1_plotProperty : MethodName := ⟨RX1, "plotProperty", "(II)I"⟩
abbrev cX1_burialProperty : ByteArray := prog_3_method_39_code
def yX1_burialProperty : MethodName := ⟨RX1, "burialProperty", "(III)I"⟩
abbrev cX1_familyProperty : ByteArray := prog_3_method_40_code
def yX1_familyProperty : MethodName := ⟨RX1, "familyProperty", "(II)I"⟩
abbrev cX1_burialsOf : ByteArray := prog_3_method_41_code
def yX1_burialsOf : MethodName := ⟨RX1, "burialsOf", "(I)I"⟩
abbrev cX1_plotsHeldBy : ByteArray := prog_3_method_42_code
def yX1_plotsHeldBy : MethodName := ⟨RX1, "plotsHeldBy", "(I)I"⟩
abbrev cX1_vaultsOf : ByteArray := prog_3_method_43_code
def yX1_vaultsOf : MethodName := ⟨RX1, "vaultsOf", "(I)I"⟩
abbrev cX1_total : ByteArray := prog_3_method_44_code
def yX1_total : MethodName := ⟨RX1, "total", "(I)I"⟩
abbrev cX1_allBurials : ByteArray := prog_3_method_45_code
def yX1_allBurials : MethodName := ⟨RX1, "allBurials", "()I"⟩
abbrev cX1_allRestingBurials : ByteArray := prog_3_method_46_code
def yX1_allRestingBurials : MethodName := ⟨RX1, "allRestingBurials", "()I"⟩
abbrev cX1_lastingReservations : ByteArray := prog_3_method_47_code
def yX1_lastingReservations : MethodName := ⟨RX1, "lastingReservations", "()I"⟩
abbrev cX1_allVaults : ByteArray := prog_3_method_48_code
def yX1_allVaults : MethodName := ⟨RX1, "allVaults", "()I"⟩
abbrev cX1_allPaid : ByteArray := prog_3_method_49_code
def yX1_allPaid : MethodName := ⟨RX1, "allPaid", "()I"⟩
abbrev cX1_meanOfFees : ByteArray := prog_3_method_50_code
def yX1_meanOfFees : MethodName := ⟨RX1, "meanOfFees", "()D"⟩
def RX2 : String := "BurialGround"
def TX2 : u_T := fun k => match k with
  | 0 => ("BurialGround", "now", "LBurialGround$Ledger;", true)
  | 1 => ("BurialGround", "saved", "[LBurialGround$Ledger;", true)
  | 2 => ("BurialGround", "savedCount", "I", false)
  | 3 => ("BurialGround", "buffer", "[I", true)
  | 4 => ("BurialGround", "length", "I", false)
  | _ => ("BurialGround", "reader", "LBurialGround$EntryReader;", true)
def tyX2 : Nat → FieldType := fun k => match k with
  | 0 => .object "BurialGround$Ledger"
  | 1 => .array (.object "BurialGround$Ledger")
  | 2 => .int
  | 3 => .array .int
  | 4 => .int
  | _ => .object "BurialGround$EntryReader"
abbrev wsX20 : List Cond := u_ws RX2 TX2 6
theorem nmX2 : ∀ a, a < 6 → ∀ b, b < 6 → a ≠ b → (TX2 a).2.1 ≠ (TX2 b).2.1 := by decide +kernel
theorem tyX2_ok : ∀ k, k < 6 → parseFieldDescriptor (TX2 k).2.2.1 = some (tyX2 k) := by decide +kernel
abbrev cX2_init : ByteArray := prog_1_method_1_code
def yX2_init : MethodName := ⟨RX2, "<init>", "()V"⟩
abbrev cX2_lay : ByteArray := prog_1_method_2_code
def yX2_lay : MethodName := ⟨RX2, "lay", "(II)I"⟩
abbrev cX2_pass : ByteArray := prog_1_method_3_code
def yX2_pass : MethodName := ⟨RX2, "pass", "(I)I"⟩
abbrev cX2_setParish : ByteArray := prog_1_method_4_code
def yX2_setParish : MethodName := ⟨RX2, "setParish", "(IZ)I"⟩
abbrev cX2_bury : ByteArray := prog_1_method_5_code
def yX2_bury : MethodName := ⟨RX2, "bury", "(III)I"⟩
abbrev cX2_reserve : ByteArray := prog_1_method_6_code
def yX2_reserve : MethodName := ⟨RX2, "reserve", "(III)I"⟩
abbrev cX2_buildVault : ByteArray := prog_1_method_7_code
def yX2_buildVault : MethodName := ⟨RX2, "buildVault", "(II)I"⟩
abbrev cX2_clear : ByteArray := prog_1_method_8_code
def yX2_clear : MethodName := ⟨RX2, "clear", "(I)I"⟩
abbrev cX2_append : ByteArray := prog_1_method_9_code
def yX2_append : MethodName := ⟨RX2, "append", "(I)I"⟩
abbrev cX2_clearBuffer : ByteArray := prog_1_method_10_code
def yX2_clearBuffer : MethodName := ⟨RX2, "clearBuffer", "()I"⟩
abbrev cX2_firstError : ByteArray := prog_1_method_11_code
def yX2_firstError : MethodName := ⟨RX2, "firstError", "()I"⟩
abbrev cX2_load : ByteArray := prog_1_method_12_code
def yX2_load : MethodName := ⟨RX2, "load", "()I"⟩
abbrev cX2_undo : ByteArray := prog_1_method_13_code
def yX2_undo : MethodName := ⟨RX2, "undo", "()I"⟩
abbrev cX2_plot : ByteArray := prog_1_method_14_code
def yX2_plot : MethodName := ⟨RX2, "plot", "(II)I"⟩
abbrev cX2_burial : ByteArray := prog_1_method_15_code
def yX2_burial : MethodName := ⟨RX2, "burial", "(III)I"⟩
abbrev cX2_family : ByteArray := prog_1_method_16_code
def yX2_family : MethodName := ⟨RX2, "family", "(II)I"⟩
abbrev cX2_count : ByteArray := prog_1_method_17_code
def yX2_count : MethodName := ⟨RX2, "count", "(I)I"⟩
abbrev cX2_why : ByteArray := prog_1_method_18_code
def yX2_why : MethodName := ⟨RX2, "why", "(III)I"⟩
abbrev cX2_fee : ByteArray := prog_1_method_19_code
def yX2_fee : MethodName := ⟨RX2, "fee", "(III)I"⟩
abbrev cX2_deepest : ByteArray := prog_1_method_20_code
def yX2_deepest : MethodName := ⟨RX2, "deepest", "(II)I"⟩
abbrev cX2_bestPlot : ByteArray := prog_1_method_21_code
def yX2_bestPlot : MethodName := ⟨RX2, "bestPlot", "(I)I"⟩
abbrev cX2_yearFor : ByteArray := prog_1_method_22_code
def yX2_yearFor : MethodName := ⟨RX2, "yearFor", "(III)I"⟩
abbrev cX2_clearYear : ByteArray := prog_1_method_23_code
def yX2_clearYear : MethodName := ⟨RX2, "clearYear", "(I)I"⟩
abbrev cX2_cutsOff : ByteArray := prog_1_method_24_code
def yX2_cutsOff : MethodName := ⟨RX2, "cutsOff", "(I)I"⟩
abbrev cX2_meanFee : ByteArray := prog_1_method_25_code
def yX2_meanFee : MethodName := ⟨RX2, "meanFee", "()D"⟩
abbrev cX2_digest : ByteArray := prog_1_method_26_code
def yX2_digest : MethodName := ⟨RX2, "digest", "()J"⟩
abbrev cX2_plotDigest : ByteArray := prog_1_method_27_code
def yX2_plotDigest : MethodName := ⟨RX2, "plotDigest", "(JI)J"⟩
abbrev cX2_familyDigest : ByteArray := prog_1_method_28_code
def yX2_familyDigest : MethodName := ⟨RX2, "familyDigest", "(JI)J"⟩
abbrev cX2_bufferDigest : ByteArray := prog_1_method_29_code
def yX2_bufferDigest : MethodName := ⟨RX2, "bufferDigest", "(J)J"⟩
abbrev cX2_bitsOf : ByteArray := prog_1_method_30_code
def yX2_bitsOf : MethodName := ⟨RX2, "bitsOf", "(D)J"⟩
abbrev cX2_number : ByteArray := prog_1_method_31_code
def yX2_number : MethodName := ⟨RX2, "number", "(I)I"⟩
abbrev cX2_needPlot : ByteArray := prog_1_method_32_code
def yX2_needPlot : MethodName := ⟨RX2, "needPlot", "(I)V"⟩
abbrev cX2_needFamily : ByteArray := prog_1_method_33_code
def yX2_needFamily : MethodName := ⟨RX2, "needFamily", "(I)V"⟩
abbrev cX2_isDepth : ByteArray := prog_1_method_34_code
def yX2_isDepth : MethodName := ⟨RX2, "isDepth", "(I)Z"⟩
abbrev cX2_needDepth : ByteArray := prog_1_method_35_code
def yX2_needDepth : MethodName := ⟨RX2, "needDepth", "(I)V"⟩
abbrev cX2_needProperty : ByteArray := prog_1_method_36_code
def yX2_needProperty : MethodName := ⟨RX2, "needProperty", "(II)V"⟩
abbrev cX2_save : ByteArray := prog_1_method_37_code
def yX2_save : MethodName := ⟨RX2, "save", "()V"⟩
abbrev cX2_dropOldest : ByteArray := prog_1_method_38_code
def yX2_dropOldest : MethodName := ⟨RX2, "dropOldest", "()V"⟩
abbrev cX2_errorIndex : ByteArray := prog_1_method_39_code
def yX2_errorIndex : MethodName := ⟨RX2, "errorIndex", "()I"⟩
abbrev cX2_carryOutEntries : ByteArray := prog_1_method_40_code
def yX2_carryOutEntries : MethodName := ⟨RX2, "carryOutEntries", "()I"⟩
abbrev cX2_carryOutEntry : ByteArray := prog_1_method_41_code
def yX2_carryOutEntry : MethodName := ⟨RX2, "carryOutEntry", "()Z"⟩
def RX3 : String := "BurialGroundModel"
def TX3 : u_T := fun k => match k with
  | 0 => ("BurialGroundModel", "z", "[I", true)
  | 1 => ("BurialGroundModel", "rows", "[I", true)
  | 2 => ("BurialGroundModel", "saved", "I", false)
  | 3 => ("BurialGroundModel", "text", "[I", true)
  | 4 => ("BurialGroundModel", "length", "I", false)
  | 5 => ("BurialGroundModel", "thrown", "I", false)
  | 6 => ("BurialGroundModel", "now", "I", false)
  | 7 => ("BurialGroundModel", "way", "[I", true)
  | 8 => ("BurialGroundModel", "queue", "[I", true)
  | 9 => ("BurialGroundModel", "many", "I", false)
  | 10 => ("BurialGroundModel", "sort", "[I", true)
  | 11 => ("BurialGroundModel", "who", "[I", true)
  | 12 => ("BurialGroundModel", "where", "[I", true)
  | 13 => ("BurialGroundModel", "much", "[I", true)
  | 14 => ("BurialGroundModel", "isWhole", "Z", false)
  | _ => ("BurialGroundModel", "h", "J", false)
def tyX3 : Nat → FieldType := fun k => match k with
  | 0 => .array .int
  | 1 => .array .int
  | 2 => .int
  | 3 => .array .int
  | 4 => .int
  | 5 => .int
  | 6 => .int
  | 7 => .array .int
  | 8 => .array .int
  | 9 => .int
  | 10 => .array .int
  | 11 => .array .int
  | 12 => .array .int
  | 13 => .array .int
  | 14 => .boolean
  | _ => .long
abbrev wsX30 : List Cond := u_ws RX3 TX3 16
theorem nmX3 : ∀ a, a < 16 → ∀ b, b < 16 → a ≠ b → (TX3 a).2.1 ≠ (TX3 b).2.1 := by decide +kernel
theorem tyX3_ok : ∀ k, k < 16 → parseFieldDescriptor (TX3 k).2.2.1 = some (tyX3 k) := by decide +kernel
abbrev cX3_init : ByteArray := prog_5_method_1_code
def yX3_init : MethodName := ⟨RX3, "<init>", "()V"⟩
abbrev cX3_thrown : ByteArray := prog_5_method_2_code
def yX3_thrown : MethodName := ⟨RX3, "thrown", "()I"⟩
abbrev cX3_within : ByteArray := prog_5_method_3_code
def yX3_within : MethodName := ⟨RX3, "within", "(III)Z"⟩
abbrev cX3_isPlot : ByteArray := prog_5_method_4_code
def yX3_isPlot : MethodName := ⟨RX3, "isPlot", "(I)Z"⟩
abbrev cX3_isFamily : ByteArray := prog_5_method_5_code
def yX3_isFamily : MethodName := ⟨RX3, "isFamily", "(I)Z"⟩
abbrev cX3_fails : ByteArray := prog_5_method_6_code
def yX3_fails : MethodName := ⟨RX3, "fails", "(I)I"⟩
abbrev cX3_buried : ByteArray := prog_5_method_7_code
def yX3_buried : MethodName := ⟨RX3, "buried", "(I)I"⟩
abbrev cX3_rest : ByteArray := prog_5_method_8_code
def yX3_rest : MethodName := ⟨RX3, "rest", "(I)I"⟩
abbrev cX3_isOld : ByteArray := prog_5_method_9_code
def yX3_isOld : MethodName := ⟨RX3, "isOld", "(II)Z"⟩
abbrev cX3_fresh : ByteArray := prog_5_method_10_code
def yX3_fresh : MethodName := ⟨RX3, "fresh", "(I)I"⟩
abbrev cX3_isKept : ByteArray := prog_5_method_11_code
def yX3_isKept : MethodName := ⟨RX3, "isKept", "(I)Z"⟩
abbrev cX3_holder : ByteArray := prog_5_method_12_code
def yX3_holder : MethodName := ⟨RX3, "holder", "(I)I"⟩
abbrev cX3_isOthers : ByteArray := prog_5_method_13_code
def yX3_isOthers : MethodName := ⟨RX3, "isOthers", "(II)Z"⟩
abbrev cX3_deep : ByteArray := prog_5_method_14_code
def yX3_deep : MethodName := ⟨RX3, "deep", "(I)I"⟩
abbrev cX3_beside : ByteArray := prog_5_method_15_code
def yX3_beside : MethodName := ⟨RX3, "beside", "(II)I"⟩
abbrev cX3_walk : ByteArray := prog_5_method_16_code
def yX3_walk : MethodName := ⟨RX3, "walk", "(I)V"⟩
abbrev cX3_isReached : ByteArray := prog_5_method_17_code
def yX3_isReached : MethodName := ⟨RX3, "isReached", "(I)Z"⟩
abbrev cX3_highest : ByteArray := prog_5_method_18_code
def yX3_highest : MethodName := ⟨RX3, "highest", "(I)I"⟩
abbrev cX3_latest : ByteArray := prog_5_method_19_code
def yX3_latest : MethodName := ⟨RX3, "latest", "(I)I"⟩
abbrev cX3_reason : ByteArray := prog_5_method_20_code
def yX3_reason : MethodName := ⟨RX3, "reason", "(III)I"⟩
abbrev cX3_price : ByteArray := prog_5_method_21_code
def yX3_price : MethodName := ⟨RX3, "price", "(III)I"⟩
abbrev cX3_save : ByteArray := prog_5_method_22_code
def yX3_save : MethodName := ⟨RX3, "save", "()V"⟩
abbrev cX3_look : ByteArray := prog_5_method_23_code
def yX3_look : MethodName := ⟨RX3, "look", "()V"⟩
abbrev cX3_lay : ByteArray := prog_5_method_24_code
def yX3_lay : MethodName := ⟨RX3, "lay", "(II)I"⟩
abbrev cX3_pass : ByteArray := prog_5_method_25_code
def yX3_pass : MethodName := ⟨RX3, "pass", "(I)I"⟩
abbrev cX3_keptMany : ByteArray := prog_5_method_26_code
def yX3_keptMany : MethodName := ⟨RX3, "keptMany", "()I"⟩
abbrev cX3_setParish : ByteArray := prog_5_method_27_code
def yX3_setParish : MethodName := ⟨RX3, "setParish", "(IZ)I"⟩
abbrev cX3_buries : ByteArray := prog_5_method_28_code
def yX3_buries : MethodName := ⟨RX3, "buries", "(III)I"⟩
abbrev cX3_bury : ByteArray := prog_5_method_29_code
def yX3_bury : MethodName := ⟨RX3, "bury", "(III)I"⟩
abbrev cX3_mayReserve : ByteArray := prog_5_method_30_code
def yX3_mayReserve : MethodName := ⟨RX3, "mayReserve", "(II)Z"⟩
abbrev cX3_reserves : ByteArray := prog_5_method_31_code
def yX3_reserves : MethodName := ⟨RX3, "reserves", "(III)I"⟩
abbrev cX3_reserve : ByteArray := prog_5_method_32_code
def yX3_reserve : MethodName := ⟨RX3, "reserve", "(III)I"⟩
abbrev cX3_buildVault : ByteArray := prog_5_method_33_code
def yX3_buildVault : MethodName := ⟨RX3, "buildVault", "(II)I"⟩
abbrev cX3_clear : ByteArray := prog_5_method_34_code
def yX3_clear : MethodName := ⟨RX3, "clear", "(I)I"⟩
abbrev cX3_append : ByteArray := prog_5_method_35_code
def yX3_append : MethodName := ⟨RX3, "append", "(I)I"⟩
abbrev cX3_clearBuffer : ByteArray := prog_5_method_36_code
def yX3_clearBuffer : MethodName := ⟨RX3, "clearBuffer", "()I"⟩
abbrev cX3_next : ByteArray := prog_5_method_37_code
def yX3_next : MethodName := ⟨RX3, "next", "(II)I"⟩
abbrev cX3_read : ByteArray := prog_5_method_38_code
def yX3_read : MethodName := ⟨RX3, "read", "()I"⟩
abbrev cX3_firstError : ByteArray := prog_5_method_39_code
def yX3_firstError : MethodName := ⟨RX3, "firstError", "()I"⟩
abbrev cX3_load : ByteArray := prog_5_method_40_code
def yX3_load : MethodName := ⟨RX3, "load", "()I"⟩
abbrev cX3_undo : ByteArray := prog_5_method_41_code
def yX3_undo : MethodName := ⟨RX3, "undo", "()I"⟩
abbrev cX3_plotNow : ByteArray := prog_5_method_42_code
def yX3_plotNow : MethodName := ⟨RX3, "plotNow", "(II)I"⟩
abbrev cX3_plot : ByteArray := prog_5_method_43_code
def yX3_plot : MethodName := ⟨RX3, "plot", "(II)I"⟩
abbrev cX3_burialNow : ByteArray := prog_5_method_44_code
def yX3_burialNow : MethodName := ⟨RX3, "burialNow", "(III)I"⟩
abbrev cX3_burial : ByteArray := prog_5_method_45_code
def yX3_burial : MethodName := ⟨RX3, "burial", "(III)I"⟩
abbrev cX3_familyNow : ByteArray := prog_5_method_46_code
def yX3_familyNow : MethodName := ⟨RX3, "familyNow", "(II)I"⟩
abbrev cX3_family : ByteArray := prog_5_method_47_code
def yX3_family : MethodName := ⟨RX3, "family", "(II)I"⟩
abbrev cX3_counted : ByteArray := prog_5_method_48_code
def yX3_counted : MethodName := ⟨RX3, "counted", "(I)I"⟩
abbrev cX3_count : ByteArray := prog_5_method_49_code
def yX3_count : MethodName := ⟨RX3, "count", "(I)I"⟩
abbrev cX3_why : ByteArray := prog_5_method_50_code
def yX3_why : MethodName := ⟨RX3, "why", "(III)I"⟩
abbrev cX3_fee : ByteArray := prog_5_method_51_code
def yX3_fee : MethodName := ⟨RX3, "fee", "(III)I"⟩
abbrev cX3_deepest : ByteArray := prog_5_method_52_code
def yX3_deepest : MethodName := ⟨RX3, "deepest", "(II)I"⟩
abbrev cX3_bestNow : ByteArray := prog_5_method_53_code
def yX3_bestNow : MethodName := ⟨RX3, "bestNow", "(I)I"⟩
abbrev cX3_bestPlot : ByteArray := prog_5_method_54_code
def yX3_bestPlot : MethodName := ⟨RX3, "bestPlot", "(I)I"⟩
abbrev cX3_yearFor : ByteArray := prog_5_method_55_code
def yX3_yearFor : MethodName := ⟨RX3, "yearFor", "(III)I"⟩
abbrev cX3_clearNow : ByteArray := prog_5_method_56_code
def yX3_clearNow : MethodName := ⟨RX3, "clearNow", "(I)I"⟩
abbrev cX3_clearYear : ByteArray := prog_5_method_57_code
def yX3_clearYear : MethodName := ⟨RX3, "clearYear", "(I)I"⟩
abbrev cX3_cutNow : ByteArray := prog_5_method_58_code
def yX3_cutNow : MethodName := ⟨RX3, "cutNow", "(I)I"⟩
abbrev cX3_cutsOff : ByteArray := prog_5_method_59_code
def yX3_cutsOff : MethodName := ⟨RX3, "cutsOff", "(I)I"⟩
abbrev cX3_meanNow : ByteArray := prog_5_method_60_code
def yX3_meanNow : MethodName := ⟨RX3, "meanNow", "()D"⟩
abbrev cX3_meanFee : ByteArray := prog_5_method_61_code
def yX3_meanFee : MethodName := ⟨RX3, "meanFee", "()D"⟩
abbrev cX3_mix : ByteArray := prog_5_method_62_code
def yX3_mix : MethodName := ⟨RX3, "mix", "(J)V"⟩
abbrev cX3_digest : ByteArray := prog_5_method_63_code
def yX3_digest : MethodName := ⟨RX3, "digest", "()J"⟩
def RJxe99ae : String := "java/lang/Double"
def TJxe99ae : u_T := fun k => match k with
  | _ => ("", "", "", false)
def tyJxe99ae : Nat → FieldType := fun k => match k with
  | _ => .int
abbrev wsJxe99ae0 : List Cond := u_ws RJxe99ae TJxe99ae 0
theorem nmJxe99ae : ∀ a, a < 0 → ∀ b, b < 0 → a ≠ b → (TJxe99ae a).2.1 ≠ (TJxe99ae b).2.1 := by decide +kernel
theorem tyJxe99ae_ok : ∀ k, k < 0 → parseFieldDescriptor (TJxe99ae k).2.2.1 = some (tyJxe99ae k) := by decide +kernel
abbrev cJxe99ae_isNaN_b9ae7 : ByteArray := prog_6_method_6_code
def yJxe99ae_isNaN_b9ae7 : MethodName := ⟨RJxe99ae, "isNaN", "(D)Z"⟩
abbrev cJxe99ae_doubleToLongBits_ccdee : ByteArray := prog_6_method_23_code
def yJxe99ae_doubleToLongBits_ccdee : MethodName := ⟨RJxe99ae, "doubleToLongBits", "(D)J"⟩
def RJ13 : String := "java/lang/Long"
def TJ13 : u_T := fun k => match k with
  | _ => ("", "", "", false)
def tyJ13 : Nat → FieldType := fun k => match k with
  | _ => .int
abbrev wsJ130 : List Cond := u_ws RJ13 TJ13 0
theorem nmJ13 : ∀ a, a < 0 → ∀ b, b < 0 → a ≠ b → (TJ13 a).2.1 ≠ (TJ13 b).2.1 := by decide +kernel
theorem tyJ13_ok : ∀ k, k < 0 → parseFieldDescriptor (TJ13 k).2.2.1 = some (tyJ13 k) := by decide +kernel
abbrev cJ13_bitCount_95d88 : ByteArray := prog_11_method_50_code
def yJ13_bitCount_95d88 : MethodName := ⟨RJ13, "bitCount", "(J)I"⟩
def RJ9 : String := "java/lang/Math"
def TJ9 : u_T := fun k => match k with
  | _ => ("", "", "", false)
def tyJ9 : Nat → FieldType := fun k => match k with
  | _ => .int
abbrev wsJ90 : List Cond := u_ws RJ9 TJ9 0
theorem nmJ9 : ∀ a, a < 0 → ∀ b, b < 0 → a ≠ b → (TJ9 a).2.1 ≠ (TJ9 b).2.1 := by decide +kernel
theorem tyJ9_ok : ∀ k, k < 0 → parseFieldDescriptor (TJ9 k).2.2.1 = some (tyJ9 k) := by decide +kernel
abbrev cJ9_max_7cf53 : ByteArray := prog_12_method_65_code
def yJ9_max_7cf53 : MethodName := ⟨RJ9, "max", "(II)I"⟩
abbrev cJ9_min_7cf53 : ByteArray := prog_12_method_69_code
def yJ9_min_7cf53 : MethodName := ⟨RJ9, "min", "(II)I"⟩
def RJ0 : String := "java/lang/String"
def TJ0 : u_T := fun k => match k with
  | _ => ("", "", "", false)
def tyJ0 : Nat → FieldType := fun k => match k with
  | _ => .int
abbrev wsJ00 : List Cond := u_ws RJ0 TJ0 0
theorem nmJ0 : ∀ a, a < 0 → ∀ b, b < 0 → a ≠ b → (TJ0 a).2.1 ≠ (TJ0 b).2.1 := by decide +kernel
theorem tyJ0_ok : ∀ k, k < 0 → parseFieldDescriptor (TJ0 k).2.2.1 = some (tyJ0 k) := by decide +kernel
def RJ10 : String := "java/lang/System"
def TJ10 : u_T := fun k => match k with
  | _ => ("", "", "", false)
def tyJ10 : Nat → FieldType := fun k => match k with
  | _ => .int
abbrev wsJ100 : List Cond := u_ws RJ10 TJ10 0
theorem nmJ10 : ∀ a, a < 0 → ∀ b, b < 0 → a ≠ b → (TJ10 a).2.1 ≠ (TJ10 b).2.1 := by decide +kernel
theorem tyJ10_ok : ∀ k, k < 0 → parseFieldDescriptor (TJ10 k).2.2.1 = some (tyJ10 k) := by decide +kernel
def RL : String := "BurialGroundLaw"
abbrev cL_lay : ByteArray := method_3_code
def yL_lay : MethodName := ⟨RL, "lay", "(LBurialGround;II[J)I"⟩
abbrev cL_pass : ByteArray := method_4_code
def yL_pass : MethodName := ⟨RL, "pass", "(LBurialGround;I[J)I"⟩
abbrev cL_setParish : ByteArray := method_5_code
def yL_setParish : MethodName := ⟨RL, "setParish", "(LBurialGround;IZ[J)I"⟩
abbrev cL_bury : ByteArray := method_6_code
def yL_bury : MethodName := ⟨RL, "bury", "(LBurialGround;III[J)I"⟩
abbrev cL_reserve : ByteArray := method_7_code
def yL_reserve : MethodName := ⟨RL, "reserve", "(LBurialGround;III[J)I"⟩
abbrev cL_buildVault : ByteArray := method_8_code
def yL_buildVault : MethodName := ⟨RL, "buildVault", "(LBurialGround;II[J)I"⟩
abbrev cL_clear : ByteArray := method_9_code
def yL_clear : MethodName := ⟨RL, "clear", "(LBurialGround;I[J)I"⟩
abbrev cL_append : ByteArray := method_10_code
def yL_append : MethodName := ⟨RL, "append", "(LBurialGround;I[J)I"⟩
abbrev cL_load : ByteArray := method_11_code
def yL_load : MethodName := ⟨RL, "load", "(LBurialGround;[J)I"⟩
abbrev cL_undo : ByteArray := method_12_code
def yL_undo : MethodName := ⟨RL, "undo", "(LBurialGround;[J)I"⟩
abbrev cL_plot : ByteArray := method_13_code
def yL_plot : MethodName := ⟨RL, "plot", "(LBurialGround;II[J)I"⟩
abbrev cL_burial : ByteArray := method_14_code
def yL_burial : MethodName := ⟨RL, "burial", "(LBurialGround;III[J)I"⟩
abbrev cL_family : ByteArray := method_15_code
def yL_family : MethodName := ⟨RL, "family", "(LBurialGround;II[J)I"⟩
abbrev cL_count : ByteArray := method_16_code
def yL_count : MethodName := ⟨RL, "count", "(LBurialGround;I[J)I"⟩
abbrev cL_why : ByteArray := method_17_code
def yL_why : MethodName := ⟨RL, "why", "(LBurialGround;III[J)I"⟩
abbrev cL_fee : ByteArray := method_18_code
def yL_fee : MethodName := ⟨RL, "fee", "(LBurialGround;III[J)I"⟩
abbrev cL_deepest : ByteArray := method_19_code
def yL_deepest : MethodName := ⟨RL, "deepest", "(LBurialGround;II[J)I"⟩
abbrev cL_bestPlot : ByteArray := method_20_code
def yL_bestPlot : MethodName := ⟨RL, "bestPlot", "(LBurialGround;I[J)I"⟩
abbrev cL_yearFor : ByteArray := method_21_code
def yL_yearFor : MethodName := ⟨RL, "yearFor", "(LBurialGround;III[J)I"⟩
abbrev cL_clearYear : ByteArray := method_22_code
def yL_clearYear : MethodName := ⟨RL, "clearYear", "(LBurialGround;I[J)I"⟩
abbrev cL_cutsOff : ByteArray := method_23_code
def yL_cutsOff : MethodName := ⟨RL, "cutsOff", "(LBurialGround;I[J)I"⟩
abbrev cL_law : ByteArray := code
def yL_law : MethodName := ⟨RL, "law", "([I)Z"⟩
abbrev vwCl : List vw_C := [(RX0, TX0, 5), (RX1, TX1, 12), (RX2, TX2, 6), (RX3, TX3, 16)]
end
section
def WG : List Cond := lw_tbl.filter goodWord
theorem WG_good : ∀ w ∈ WG, goodWord w = true := fun w h => (List.mem_filter.mp h).2
theorem WG_tbl : ∀ w ∈ WG, w ∈ lw_tbl := fun w h => (List.mem_filter.mp h).1
theorem wr_1 : ∀ w ∈ tables_1_1, w ∈ lw_tbl := fun _ h => List.mem_append_right _ (List.mem_append_left _ h)
theorem wr_2 : ∀ w ∈ tables_1_2, w ∈ lw_tbl := fun _ h => List.mem_append_right _ (List.mem_append_right _ (List.mem_append_left _ h))
theorem wr_3 : ∀ w ∈ tables_1_3, w ∈ lw_tbl := fun _ h => List.mem_append_right _ (List.mem_append_right _ (List.mem_append_right _ (List.mem_append_left _ h)))
theorem wr_4 : ∀ w ∈ tables_1_4, w ∈ lw_tbl := fun _ h => List.mem_append_right _ (List.mem_append_right _ (List.mem_append_right _ (List.mem_append_right _ (List.mem_append_left _ h))))
theorem wr_5 : ∀ w ∈ tables_1_5, w ∈ lw_tbl := fun _ h => List.mem_append_right _ (List.mem_append_right _ (List.mem_append_right _ (List.mem_append_right _ (List.mem_append_right _ h))))
theorem wp_1 : ∀ q ∈ lw_privs_1, Cond.selects q.1.cls q.1 q.1 ∈ lw_tbl := fun q h => List.mem_append_left _ (List.mem_map.mpr ⟨q, (List.mem_append_left _ h), rfl⟩)
theorem wp_2 : ∀ q ∈ lw_privs_2, Cond.selects q.1.cls q.1 q.1 ∈ lw_tbl := fun q h => List.mem_append_left _ (List.mem_map.mpr ⟨q, (List.mem_append_right _ (List.mem_append_left _ h)), rfl⟩)
theorem wp_3 : ∀ q ∈ lw_privs_3, Cond.selects q.1.cls q.1 q.1 ∈ lw_tbl := fun q h => List.mem_append_left _ (List.mem_map.mpr ⟨q, (List.mem_append_right _ (List.mem_append_right _ (List.mem_append_left _ h))), rfl⟩)
theorem wp_4 : ∀ q ∈ lw_privs_4, Cond.selects q.1.cls q.1 q.1 ∈ lw_tbl := fun q h => List.mem_append_left _ (List.mem_map.mpr ⟨q, (List.mem_append_right _ (List.mem_append_right _ (List.mem_append_right _ (List.mem_append_left _ h)))), rfl⟩)
theorem wp_5 : ∀ q ∈ lw_privs_5, Cond.selects q.1.cls q.1 q.1 ∈ lw_tbl := fun q h => List.mem_append_left _ (List.mem_map.mpr ⟨q, (List.mem_append_right _ (List.mem_append_right _ (List.mem_append_right _ (List.mem_append_right _ h)))), rfl⟩)
theorem wn_L : Cond.initialized RL ∈ WG := List.mem_filter.mpr ⟨wr_1 _ (List.mem_of_getElem? (i := 0) rfl), rfl⟩
theorem wn_X2 : Cond.initialized RX2 ∈ WG := List.mem_filter.mpr ⟨wr_1 _ (List.mem_of_getElem? (i := 1) rfl), rfl⟩
theorem wn_X1 : Cond.initialized RX1 ∈ WG := List.mem_filter.mpr ⟨wr_1 _ (List.mem_of_getElem? (i := 2) rfl), rfl⟩
theorem wn_X0 : Cond.initialized RX0 ∈ WG := List.mem_filter.mpr ⟨wr_1 _ (List.mem_of_getElem? (i := 3) rfl), rfl⟩
theorem wn_X3 : Cond.initialized RX3 ∈ WG := List.mem_filter.mpr ⟨wr_1 _ (List.mem_of_getElem? (i := 4) rfl), rfl⟩
theorem wn_Throwable : Cond.initialized "java/lang/Throwable" ∈ WG := List.mem_filter.mpr ⟨wr_1 _ (List.mem_of_getElem? (i := 5) rfl), rfl⟩
theorem wn_Exception : Cond.initialized "java/lang/Exception" ∈ WG := List.mem_filter.mpr ⟨wr_1 _ (List.mem_of_getElem? (i := 6) rfl), rfl⟩
theorem wn_RuntimeException : Cond.initialized "java/lang/RuntimeException" ∈ WG := List.mem_filter.mpr ⟨wr_1 _ (List.mem_of_getElem? (i := 7) rfl), rfl⟩
theorem wn_IndexOutOfBoundsException : Cond.initialized "java/lang/IndexOutOfBoundsException" ∈ WG := List.mem_filter.mpr ⟨wr_1 _ (List.mem_of_getElem? (i := 8) rfl), rfl⟩
theorem wn_IllegalArgumentException : Cond.initialized "java/lang/IllegalArgumentException" ∈ WG := List.mem_filter.mpr ⟨wr_1 _ (List.mem_of_getElem? (i := 9) rfl), rfl⟩
theorem wn_IllegalStateException : Cond.initialized "java/lang/IllegalStateException" ∈ WG := List.mem_filter.mpr ⟨wr_1 _ (List.mem_of_getElem? (i := 10) rfl), rfl⟩
theorem wn_J10 : Cond.initialized RJ10 ∈ WG := List.mem_filter.mpr ⟨wr_1 _ (List.mem_of_getElem? (i := 11) rfl), rfl⟩
theorem wn_J9 : Cond.initialized RJ9 ∈ WG := List.mem_filter.mpr ⟨wr_1 _ (List.mem_of_getElem? (i := 12) rfl), rfl⟩
theorem wn_J13 : Cond.initialized RJ13 ∈ WG := List.mem_filter.mpr ⟨wr_1 _ (List.mem_of_getElem? (i := 13) rfl), rfl⟩
theorem wn_Jxe99ae : Cond.initialized RJxe99ae ∈ WG := List.mem_filter.mpr ⟨wr_1 _ (List.mem_of_getElem? (i := 14) rfl), rfl⟩
theorem wk_L_8 : Cond.classLink RL 8 RX2 ∈ WG := List.mem_filter.mpr ⟨wr_1 _ (List.mem_of_getElem? (i := 15) rfl), rfl⟩
theorem wb_X2 : Cond.instantiable RX2 6 ∈ WG := List.mem_filter.mpr ⟨wr_1 _ (List.mem_of_getElem? (i := 16) rfl), rfl⟩
theorem wl_L_83 : Cond.methodLink RL 83 yX2_init ∈ WG := List.mem_filter.mpr ⟨wr_1 _ (List.mem_of_getElem? (i := 17) rfl), rfl⟩
theorem wi_X2_init : Cond.instanceMethod yX2_init ∈ WG := List.mem_filter.mpr ⟨wr_1 _ (List.mem_of_getElem? (i := 18) rfl), rfl⟩
theorem wc_X2_init : Cond.code yX2_init cX2_init 2 none ∈ WG := List.mem_filter.mpr ⟨wr_1 _ (List.mem_of_getElem? (i := 19) rfl), rfl⟩
theorem wl_X2_1 : Cond.methodLink RX2 1 (⟨"java/lang/Object", "<init>", "()V"⟩ : MethodName) ∈ WG := List.mem_filter.mpr ⟨wr_1 _ (List.mem_of_getElem? (i := 20) rfl), rfl⟩
theorem wi_Object__init__a7 : Cond.instanceMethod (⟨"java/lang/Object", "<init>", "()V"⟩ : MethodName) ∈ WG := List.mem_filter.mpr ⟨wr_1 _ (List.mem_of_getElem? (i := 21) rfl), rfl⟩
theorem wc_Object__init__a7 : Cond.code (⟨"java/lang/Object", "<init>", "()V"⟩ : MethodName) object_method_1_code 1 none ∈ WG := List.mem_filter.mpr ⟨wr_1 _ (List.mem_of_getElem? (i := 22) rfl), rfl⟩
theorem wk_X2_7 : Cond.classLink RX2 7 RX1 ∈ WG := List.mem_filter.mpr ⟨wr_1 _ (List.mem_of_getElem? (i := 23) rfl), rfl⟩
theorem wb_X1 : Cond.instantiable RX1 12 ∈ WG := List.mem_filter.mpr ⟨wr_1 _ (List.mem_of_getElem? (i := 24) rfl), rfl⟩
theorem wl_X2_9 : Cond.methodLink RX2 9 yX1_init ∈ WG := List.mem_filter.mpr ⟨wr_1 _ (List.mem_of_getElem? (i := 25) rfl), rfl⟩
theorem wi_X1_init : Cond.instanceMethod yX1_init ∈ WG := List.mem_filter.mpr ⟨wr_1 _ (List.mem_of_getElem? (i := 26) rfl), rfl⟩
theorem wc_X1_init : Cond.code yX1_init cX1_init 2 none ∈ WG := List.mem_filter.mpr ⟨wr_1 _ (List.mem_of_getElem? (i := 27) rfl), rfl⟩
theorem wl_X1_3 : Cond.methodLink RX1 3 (⟨"java/lang/Object", "<init>", "()V"⟩ : MethodName) ∈ WG := List.mem_filter.mpr ⟨wr_1 _ (List.mem_of_getElem? (i := 28) rfl), rfl⟩
theorem wq_X1_46 : Cond.constantLong RX1 46 (1099511627775) ∈ WG := List.mem_filter.mpr ⟨wr_1 _ (List.mem_of_getElem? (i := 29) rfl), rfl⟩
theorem wf_X1_9 : Cond.fieldLink RX1 9 "BurialGround$Ledger" "year" "I" ∈ WG := List.mem_filter.mpr ⟨wr_1 _ (List.mem_of_getElem? (i := 30) rfl), rfl⟩
theorem wf_X2_72 : Cond.fieldLink RX2 72 "BurialGround$Ledger" "year" "I" ∈ WG := List.mem_filter.mpr ⟨wr_1 _ (List.mem_of_getElem? (i := 31) rfl), rfl⟩
theorem wf_X1_15 : Cond.fieldLink RX1 15 "BurialGround$Ledger" "parish" "[I" ∈ WG := List.mem_filter.mpr ⟨wr_1 _ (List.mem_of_getElem? (i := 32) rfl), rfl⟩
theorem wf_X2_84 : Cond.fieldLink RX2 84 "BurialGround$Ledger" "parish" "[I" ∈ WG := List.mem_filter.mpr ⟨wr_1 _ (List.mem_of_getElem? (i := 33) rfl), rfl⟩
theorem wf_X1_19 : Cond.fieldLink RX1 19 "BurialGround$Ledger" "paid" "[I" ∈ WG := List.mem_filter.mpr ⟨wr_1 _ (List.mem_of_getElem? (i := 34) rfl), rfl⟩
theorem wf_X1_22 : Cond.fieldLink RX1 22 "BurialGround$Ledger" "burialsSoFar" "[I" ∈ WG := List.mem_filter.mpr ⟨wr_1 _ (List.mem_of_getElem? (i := 35) rfl), rfl⟩
theorem wf_X1_25 : Cond.fieldLink RX1 25 "BurialGround$Ledger" "kind" "[I" ∈ WG := List.mem_filter.mpr ⟨wr_1 _ (List.mem_of_getElem? (i := 36) rfl), rfl⟩
theorem wf_X1_28 : Cond.fieldLink RX1 28 "BurialGround$Ledger" "vaultOf" "[I" ∈ WG := List.mem_filter.mpr ⟨wr_1 _ (List.mem_of_getElem? (i := 37) rfl), rfl⟩
theorem wf_X1_31 : Cond.fieldLink RX1 31 "BurialGround$Ledger" "reservedFor" "[I" ∈ WG := List.mem_filter.mpr ⟨wr_1 _ (List.mem_of_getElem? (i := 38) rfl), rfl⟩
theorem wf_X1_34 : Cond.fieldLink RX1 34 "BurialGround$Ledger" "reservedUpTo" "[I" ∈ WG := List.mem_filter.mpr ⟨wr_1 _ (List.mem_of_getElem? (i := 39) rfl), rfl⟩
theorem wf_X1_37 : Cond.fieldLink RX1 37 "BurialGround$Ledger" "buried" "[I" ∈ WG := List.mem_filter.mpr ⟨wr_1 _ (List.mem_of_getElem? (i := 40) rfl), rfl⟩
theorem wf_X1_40 : Cond.fieldLink RX1 40 "BurialGround$Ledger" "buriedIn" "[I" ∈ WG := List.mem_filter.mpr ⟨wr_1 _ (List.mem_of_getElem? (i := 41) rfl), rfl⟩
theorem wf_X1_43 : Cond.fieldLink RX1 43 "BurialGround$Ledger" "feePaid" "[I" ∈ WG := List.mem_filter.mpr ⟨wr_1 _ (List.mem_of_getElem? (i := 42) rfl), rfl⟩
theorem wf_X1_48 : Cond.fieldLink RX1 48 "BurialGround$Ledger" "reached" "J" ∈ WG := List.mem_filter.mpr ⟨wr_1 _ (List.mem_of_getElem? (i := 43) rfl), rfl⟩
theorem wy_X1_year : Cond.lays RX1 "BurialGround$Ledger" "year" "I" ∈ WG := List.mem_filter.mpr ⟨wr_1 _ (List.mem_of_getElem? (i := 44) rfl), rfl⟩
theorem wy_X1_parish : Cond.laysFinal RX1 "BurialGround$Ledger" "parish" "[I" ∈ WG := List.mem_filter.mpr ⟨wr_1 _ (List.mem_of_getElem? (i := 46) rfl), rfl⟩
theorem wy_X1_paid : Cond.laysFinal RX1 "BurialGround$Ledger" "paid" "[I" ∈ WG := List.mem_filter.mpr ⟨wr_1 _ (List.mem_of_getElem? (i := 48) rfl), rfl⟩
theorem wy_X1_burialsSoFar : Cond.laysFinal RX1 "BurialGround$Ledger" "burialsSoFar" "[I" ∈ WG := List.mem_filter.mpr ⟨wr_1 _ (List.mem_of_getElem? (i := 50) rfl), rfl⟩
theorem wy_X1_kind : Cond.laysFinal RX1 "BurialGround$Ledger" "kind" "[I" ∈ WG := List.mem_filter.mpr ⟨wr_1 _ (List.mem_of_getElem? (i := 52) rfl), rfl⟩
theorem wy_X1_vaultOf : Cond.laysFinal RX1 "BurialGround$Ledger" "vaultOf" "[I" ∈ WG := List.mem_filter.mpr ⟨wr_1 _ (List.mem_of_getElem? (i := 54) rfl), rfl⟩
theorem wy_X1_reservedFor : Cond.laysFinal RX1 "BurialGround$Ledger" "reservedFor" "[I" ∈ WG := List.mem_filter.mpr ⟨wr_1 _ (List.mem_of_getElem? (i := 56) rfl), rfl⟩
theorem wy_X1_reservedUpTo : Cond.laysFinal RX1 "BurialGround$Ledger" "reservedUpTo" "[I" ∈ WG := List.mem_filter.mpr ⟨wr_1 _ (List.mem_of_getElem? (i := 58) rfl), rfl⟩
theorem wy_X1_buried : Cond.laysFinal RX1 "BurialGround$Ledger" "buried" "[I" ∈ WG := List.mem_filter.mpr ⟨wr_1 _ (List.mem_of_getElem? (i := 60) rfl), rfl⟩
theorem wy_X1_buriedIn : Cond.laysFinal RX1 "BurialGround$Ledger" "buriedIn" "[I" ∈ WG := List.mem_filter.mpr ⟨wr_1 _ (List.mem_of_getElem? (i := 62) rfl), rfl⟩
theorem wy_X1_feePaid : Cond.laysFinal RX1 "BurialGround$Ledger" "feePaid" "[I" ∈ WG := List.mem_filter.mpr ⟨wr_1 _ (List.mem_of_getElem? (i := 64) rfl), rfl⟩
theorem wy_X1_reached : Cond.lays RX1 "BurialGround$Ledger" "reached" "J" ∈ WG := List.mem_filter.mpr ⟨wr_1 _ (List.mem_of_getElem? (i := 66) rfl), rfl⟩
theorem wa_int : Cond.arrayClass Jvm.ClassFile.FieldType.int ∈ WG := List.mem_filter.mpr ⟨wr_1 _ (List.mem_of_getElem? (i := 69) rfl), rfl⟩
theorem wk_X2_31 : Cond.classLink RX2 31 RX0 ∈ WG := List.mem_filter.mpr ⟨wr_1 _ (List.mem_of_getElem? (i := 71) rfl), rfl⟩
theorem wb_X0 : Cond.instantiable RX0 5 ∈ WG := List.mem_filter.mpr ⟨wr_1 _ (List.mem_of_getElem? (i := 72) rfl), rfl⟩
theorem wi_X0_init : Cond.instanceMethod yX0_init ∈ WG := List.mem_filter.mpr ⟨wr_1 _ (List.mem_of_getElem? (i := 74) rfl), rfl⟩
theorem wc_X0_init : Cond.code yX0_init cX0_init 1 none ∈ WG := List.mem_filter.mpr ⟨wr_1 _ (List.mem_of_getElem? (i := 75) rfl), rfl⟩
theorem wl_X0_3 : Cond.methodLink RX0 3 (⟨"java/lang/Object", "<init>", "()V"⟩ : MethodName) ∈ WG := List.mem_filter.mpr ⟨wr_1 _ (List.mem_of_getElem? (i := 76) rfl), rfl⟩
theorem wf_X0_11 : Cond.fieldLink RX0 11 "BurialGround$EntryReader" "stage" "I" ∈ WG := List.mem_filter.mpr ⟨wr_1 _ (List.mem_of_getElem? (i := 77) rfl), rfl⟩
theorem wf_X0_15 : Cond.fieldLink RX0 15 "BurialGround$EntryReader" "reserves" "Z" ∈ WG := List.mem_filter.mpr ⟨wr_1 _ (List.mem_of_getElem? (i := 78) rfl), rfl⟩
theorem wf_X2_233 : Cond.fieldLink RX2 233 "BurialGround$EntryReader" "reserves" "Z" ∈ WG := List.mem_filter.mpr ⟨wr_1 _ (List.mem_of_getElem? (i := 79) rfl), rfl⟩
theorem wf_X0_19 : Cond.fieldLink RX0 19 "BurialGround$EntryReader" "family" "I" ∈ WG := List.mem_filter.mpr ⟨wr_1 _ (List.mem_of_getElem? (i := 80) rfl), rfl⟩
theorem wf_X2_237 : Cond.fieldLink RX2 237 "BurialGround$EntryReader" "family" "I" ∈ WG := List.mem_filter.mpr ⟨wr_1 _ (List.mem_of_getElem? (i := 81) rfl), rfl⟩
theorem wf_X0_22 : Cond.fieldLink RX0 22 "BurialGround$EntryReader" "plot" "I" ∈ WG := List.mem_filter.mpr ⟨wr_1 _ (List.mem_of_getElem? (i := 82) rfl), rfl⟩
theorem wf_X2_240 : Cond.fieldLink RX2 240 "BurialGround$EntryReader" "plot" "I" ∈ WG := List.mem_filter.mpr ⟨wr_1 _ (List.mem_of_getElem? (i := 83) rfl), rfl⟩
theorem wf_X0_25 : Cond.fieldLink RX0 25 "BurialGround$EntryReader" "number" "I" ∈ WG := List.mem_filter.mpr ⟨wr_1 _ (List.mem_of_getElem? (i := 84) rfl), rfl⟩
theorem wf_X2_243 : Cond.fieldLink RX2 243 "BurialGround$EntryReader" "number" "I" ∈ WG := List.mem_filter.mpr ⟨wr_1 _ (List.mem_of_getElem? (i := 85) rfl), rfl⟩
theorem wy_X0_stage : Cond.lays RX0 "BurialGround$EntryReader" "stage" "I" ∈ WG := List.mem_filter.mpr ⟨wr_1 _ (List.mem_of_getElem? (i := 86) rfl), rfl⟩
theorem wy_X0_reserves : Cond.lays RX0 "BurialGround$EntryReader" "reserves" "Z" ∈ WG := List.mem_filter.mpr ⟨wr_1 _ (List.mem_of_getElem? (i := 88) rfl), rfl⟩
theorem wy_X0_family : Cond.lays RX0 "BurialGround$EntryReader" "family" "I" ∈ WG := List.mem_filter.mpr ⟨wr_1 _ (List.mem_of_getElem? (i := 90) rfl), rfl⟩
theorem wy_X0_plot : Cond.lays RX0 "BurialGround$EntryReader" "plot" "I" ∈ WG := List.mem_filter.mpr ⟨wr_1 _ (List.mem_of_getElem? (i := 92) rfl), rfl⟩
theorem wy_X0_number : Cond.lays RX0 "BurialGround$EntryReader" "number" "I" ∈ WG := List.mem_filter.mpr ⟨wr_1 _ (List.mem_of_getElem? (i := 94) rfl), rfl⟩
theorem wf_X2_10 : Cond.fieldLink RX2 10 "BurialGround" "now" "LBurialGround$Ledger;" ∈ WG := List.mem_filter.mpr ⟨wr_1 _ (List.mem_of_getElem? (i := 97) rfl), rfl⟩
theorem wf_X2_16 : Cond.fieldLink RX2 16 "BurialGround" "saved" "[LBurialGround$Ledger;" ∈ WG := List.mem_filter.mpr ⟨wr_1 _ (List.mem_of_getElem? (i := 98) rfl), rfl⟩
theorem wf_X2_20 : Cond.fieldLink RX2 20 "BurialGround" "savedCount" "I" ∈ WG := List.mem_filter.mpr ⟨wr_1 _ (List.mem_of_getElem? (i := 99) rfl), rfl⟩
theorem wf_X2_24 : Cond.fieldLink RX2 24 "BurialGround" "buffer" "[I" ∈ WG := List.mem_filter.mpr ⟨wr_1 _ (List.mem_of_getElem? (i := 100) rfl), rfl⟩
theorem wf_X2_28 : Cond.fieldLink RX2 28 "BurialGround" "length" "I" ∈ WG := List.mem_filter.mpr ⟨wr_1 _ (List.mem_of_getElem? (i := 101) rfl), rfl⟩
theorem wf_X2_34 : Cond.fieldLink RX2 34 "BurialGround" "reader" "LBurialGround$EntryReader;" ∈ WG := List.mem_filter.mpr ⟨wr_1 _ (List.mem_of_getElem? (i := 102) rfl), rfl⟩
theorem wy_X2_now : Cond.laysFinal RX2 "BurialGround" "now" "LBurialGround$Ledger;" ∈ WG := List.mem_filter.mpr ⟨wr_1 _ (List.mem_of_getElem? (i := 103) rfl), rfl⟩
theorem wy_X2_saved : Cond.laysFinal RX2 "BurialGround" "saved" "[LBurialGround$Ledger;" ∈ WG := List.mem_filter.mpr ⟨wr_1 _ (List.mem_of_getElem? (i := 105) rfl), rfl⟩
theorem wy_X2_savedCount : Cond.lays RX2 "BurialGround" "savedCount" "I" ∈ WG := List.mem_filter.mpr ⟨wr_1 _ (List.mem_of_getElem? (i := 107) rfl), rfl⟩
theorem wy_X2_buffer : Cond.laysFinal RX2 "BurialGround" "buffer" "[I" ∈ WG := List.mem_filter.mpr ⟨wr_1 _ (List.mem_of_getElem? (i := 109) rfl), rfl⟩
theorem wy_X2_length : Cond.lays RX2 "BurialGround" "length" "I" ∈ WG := List.mem_filter.mpr ⟨wr_1 _ (List.mem_of_getElem? (i := 111) rfl), rfl⟩
theorem wy_X2_reader : Cond.laysFinal RX2 "BurialGround" "reader" "LBurialGround$EntryReader;" ∈ WG := List.mem_filter.mpr ⟨wr_1 _ (List.mem_of_getElem? (i := 113) rfl), rfl⟩
theorem wl_L_120 : Cond.methodLink RL 120 yX2_clearBuffer ∈ WG := List.mem_filter.mpr ⟨wr_1 _ (List.mem_of_getElem? (i := 116) rfl), rfl⟩
theorem wi_X2_clearBuffer : Cond.instanceMethod yX2_clearBuffer ∈ WG := List.mem_filter.mpr ⟨wr_1 _ (List.mem_of_getElem? (i := 117) rfl), rfl⟩
theorem wv_X2_clearBuffer : Cond.selects RX2 yX2_clearBuffer yX2_clearBuffer ∈ WG := List.mem_filter.mpr ⟨wr_1 _ (List.mem_of_getElem? (i := 118) rfl), rfl⟩
theorem wc_X2_clearBuffer : Cond.code yX2_clearBuffer cX2_clearBuffer 2 (some .int) ∈ WG := List.mem_filter.mpr ⟨wr_1 _ (List.mem_of_getElem? (i := 119) rfl), rfl⟩
theorem wl_L_124 : Cond.methodLink RL 124 yX2_firstError ∈ WG := List.mem_filter.mpr ⟨wr_1 _ (List.mem_of_getElem? (i := 120) rfl), rfl⟩
theorem wi_X2_firstError : Cond.instanceMethod yX2_firstError ∈ WG := List.mem_filter.mpr ⟨wr_1 _ (List.mem_of_getElem? (i := 121) rfl), rfl⟩
theorem wv_X2_firstError : Cond.selects RX2 yX2_firstError yX2_firstError ∈ WG := List.mem_filter.mpr ⟨wr_1 _ (List.mem_of_getElem? (i := 122) rfl), rfl⟩
theorem wc_X2_firstError : Cond.code yX2_firstError cX2_firstError 1 (some .int) ∈ WG := List.mem_filter.mpr ⟨wr_1 _ (List.mem_of_getElem? (i := 123) rfl), rfl⟩
theorem wl_X2_130 : Cond.methodLink RX2 130 yX2_errorIndex ∈ WG := List.mem_filter.mpr ⟨wr_1 _ (List.mem_of_getElem? (i := 124) rfl), rfl⟩
theorem wi_X2_errorIndex : Cond.instanceMethod yX2_errorIndex ∈ WG := List.mem_filter.mpr ⟨wr_1 _ (List.mem_of_getElem? (i := 126) rfl), rfl⟩
theorem wc_X2_errorIndex : Cond.code yX2_errorIndex cX2_errorIndex 2 (some .int) ∈ WG := List.mem_filter.mpr ⟨wr_1 _ (List.mem_of_getElem? (i := 127) rfl), rfl⟩
theorem wl_X2_224 : Cond.methodLink RX2 224 yX0_startEntry ∈ WG := List.mem_filter.mpr ⟨wr_1 _ (List.mem_of_getElem? (i := 128) rfl), rfl⟩
theorem wi_X0_startEntry : Cond.instanceMethod yX0_startEntry ∈ WG := List.mem_filter.mpr ⟨wr_1 _ (List.mem_of_getElem? (i := 129) rfl), rfl⟩
theorem wv_X0_startEntry : Cond.selects RX0 yX0_startEntry yX0_startEntry ∈ WG := List.mem_filter.mpr ⟨wr_1 _ (List.mem_of_getElem? (i := 130) rfl), rfl⟩
theorem wc_X0_startEntry : Cond.code yX0_startEntry cX0_startEntry 1 none ∈ WG := List.mem_filter.mpr ⟨wr_1 _ (List.mem_of_getElem? (i := 131) rfl), rfl⟩
theorem wl_X2_227 : Cond.methodLink RX2 227 yX0_take ∈ WG := List.mem_filter.mpr ⟨wr_1 _ (List.mem_of_getElem? (i := 132) rfl), rfl⟩
theorem wi_X0_take : Cond.instanceMethod yX0_take ∈ WG := List.mem_filter.mpr ⟨wr_1 _ (List.mem_of_getElem? (i := 133) rfl), rfl⟩
theorem wv_X0_take : Cond.selects RX0 yX0_take yX0_take ∈ WG := List.mem_filter.mpr ⟨wr_1 _ (List.mem_of_getElem? (i := 134) rfl), rfl⟩
theorem wc_X0_take : Cond.code yX0_take cX0_take 2 (some .boolean) ∈ WG := List.mem_filter.mpr ⟨wr_1 _ (List.mem_of_getElem? (i := 135) rfl), rfl⟩
theorem wl_X0_28 : Cond.methodLink RX0 28 yX0_takeLetter ∈ WG := List.mem_filter.mpr ⟨wr_1 _ (List.mem_of_getElem? (i := 136) rfl), rfl⟩
theorem wi_X0_takeLetter : Cond.instanceMethod yX0_takeLetter ∈ WG := List.mem_filter.mpr ⟨wr_1 _ (List.mem_of_getElem? (i := 138) rfl), rfl⟩
theorem wc_X0_takeLetter : Cond.code yX0_takeLetter cX0_takeLetter 2 (some .boolean) ∈ WG := List.mem_filter.mpr ⟨wr_1 _ (List.mem_of_getElem? (i := 139) rfl), rfl⟩
theorem wl_X0_32 : Cond.methodLink RX0 32 yX0_takeFamily ∈ WG := List.mem_filter.mpr ⟨wr_1 _ (List.mem_of_getElem? (i := 140) rfl), rfl⟩
theorem wi_X0_takeFamily : Cond.instanceMethod yX0_takeFamily ∈ WG := List.mem_filter.mpr ⟨wr_1 _ (List.mem_of_getElem? (i := 142) rfl), rfl⟩
theorem wc_X0_takeFamily : Cond.code yX0_takeFamily cX0_takeFamily 2 (some .boolean) ∈ WG := List.mem_filter.mpr ⟨wr_1 _ (List.mem_of_getElem? (i := 143) rfl), rfl⟩
theorem wl_X0_44 : Cond.methodLink RX0 44 yX0_isDigit ∈ WG := List.mem_filter.mpr ⟨wr_1 _ (List.mem_of_getElem? (i := 144) rfl), rfl⟩
theorem wt_X0_isDigit : Cond.static yX0_isDigit ∈ WG := List.mem_filter.mpr ⟨wr_1 _ (List.mem_of_getElem? (i := 145) rfl), rfl⟩
theorem wc_X0_isDigit : Cond.code yX0_isDigit cX0_isDigit 1 (some .boolean) ∈ WG := List.mem_filter.mpr ⟨wr_1 _ (List.mem_of_getElem? (i := 146) rfl), rfl⟩
theorem wl_X0_35 : Cond.methodLink RX0 35 yX0_takeColon ∈ WG := List.mem_filter.mpr ⟨wr_1 _ (List.mem_of_getElem? (i := 147) rfl), rfl⟩
theorem wi_X0_takeColon : Cond.instanceMethod yX0_takeColon ∈ WG := List.mem_filter.mpr ⟨wr_1 _ (List.mem_of_getElem? (i := 149) rfl), rfl⟩
theorem wc_X0_takeColon : Cond.code yX0_takeColon cX0_takeColon 2 (some .boolean) ∈ WG := List.mem_filter.mpr ⟨wr_1 _ (List.mem_of_getElem? (i := 150) rfl), rfl⟩
theorem wl_X0_38 : Cond.methodLink RX0 38 yX0_takeOfPlot ∈ WG := List.mem_filter.mpr ⟨wr_1 _ (List.mem_of_getElem? (i := 151) rfl), rfl⟩
theorem wi_X0_takeOfPlot : Cond.instanceMethod yX0_takeOfPlot ∈ WG := List.mem_filter.mpr ⟨wr_1 _ (List.mem_of_getElem? (i := 153) rfl), rfl⟩
theorem wc_X0_takeOfPlot : Cond.code yX0_takeOfPlot cX0_takeOfPlot 3 (some .boolean) ∈ WG := List.mem_filter.mpr ⟨wr_1 _ (List.mem_of_getElem? (i := 154) rfl), rfl⟩
theorem wl_X0_41 : Cond.methodLink RX0 41 yX0_takeOfNumber ∈ WG := List.mem_filter.mpr ⟨wr_1 _ (List.mem_of_getElem? (i := 155) rfl), rfl⟩
theorem wi_X0_takeOfNumber : Cond.instanceMethod yX0_takeOfNumber ∈ WG := List.mem_filter.mpr ⟨wr_1 _ (List.mem_of_getElem? (i := 157) rfl), rfl⟩
theorem wc_X0_takeOfNumber : Cond.code yX0_takeOfNumber cX0_takeOfNumber 3 (some .boolean) ∈ WG := List.mem_filter.mpr ⟨wr_1 _ (List.mem_of_getElem? (i := 158) rfl), rfl⟩
theorem wl_X0_47 : Cond.methodLink RX0 47 yX0_startEntry ∈ WG := List.mem_filter.mpr ⟨wr_1 _ (List.mem_of_getElem? (i := 159) rfl), rfl⟩
theorem wl_L_168 : Cond.methodLink RL 168 yX2_meanFee ∈ WG := List.mem_filter.mpr ⟨wr_1 _ (List.mem_of_getElem? (i := 160) rfl), rfl⟩
theorem wi_X2_meanFee : Cond.instanceMethod yX2_meanFee ∈ WG := List.mem_filter.mpr ⟨wr_1 _ (List.mem_of_getElem? (i := 161) rfl), rfl⟩
theorem wv_X2_meanFee : Cond.selects RX2 yX2_meanFee yX2_meanFee ∈ WG := List.mem_filter.mpr ⟨wr_1 _ (List.mem_of_getElem? (i := 162) rfl), rfl⟩
theorem wc_X2_meanFee : Cond.code yX2_meanFee cX2_meanFee 1 (some .double) ∈ WG := List.mem_filter.mpr ⟨wr_1 _ (List.mem_of_getElem? (i := 163) rfl), rfl⟩
theorem wl_X2_181 : Cond.methodLink RX2 181 yX1_meanOfFees ∈ WG := List.mem_filter.mpr ⟨wr_1 _ (List.mem_of_getElem? (i := 164) rfl), rfl⟩
theorem wi_X1_meanOfFees : Cond.instanceMethod yX1_meanOfFees ∈ WG := List.mem_filter.mpr ⟨wr_1 _ (List.mem_of_getElem? (i := 165) rfl), rfl⟩
theorem wv_X1_meanOfFees : Cond.selects RX1 yX1_meanOfFees yX1_meanOfFees ∈ WG := List.mem_filter.mpr ⟨wr_1 _ (List.mem_of_getElem? (i := 166) rfl), rfl⟩
theorem wc_X1_meanOfFees : Cond.code yX1_meanOfFees cX1_meanOfFees 4 (some .double) ∈ WG := List.mem_filter.mpr ⟨wr_1 _ (List.mem_of_getElem? (i := 167) rfl), rfl⟩
theorem wl_X1_174 : Cond.methodLink RX1 174 yX1_allBurials ∈ WG := List.mem_filter.mpr ⟨wr_1 _ (List.mem_of_getElem? (i := 168) rfl), rfl⟩
theorem wi_X1_allBurials : Cond.instanceMethod yX1_allBurials ∈ WG := List.mem_filter.mpr ⟨wr_1 _ (List.mem_of_getElem? (i := 170) rfl), rfl⟩
theorem wc_X1_allBurials : Cond.code yX1_allBurials cX1_allBurials 3 (some .int) ∈ WG := List.mem_filter.mpr ⟨wr_1 _ (List.mem_of_getElem? (i := 171) rfl), rfl⟩
theorem wl_X1_58 : Cond.methodLink RX1 58 yX1_burialsIn ∈ WG := List.mem_filter.mpr ⟨wr_1 _ (List.mem_of_getElem? (i := 172) rfl), rfl⟩
theorem wi_X1_burialsIn : Cond.instanceMethod yX1_burialsIn ∈ WG := List.mem_filter.mpr ⟨wr_1 _ (List.mem_of_getElem? (i := 174) rfl), rfl⟩
theorem wc_X1_burialsIn : Cond.code yX1_burialsIn cX1_burialsIn 5 (some .int) ∈ WG := List.mem_filter.mpr ⟨wr_1 _ (List.mem_of_getElem? (i := 175) rfl), rfl⟩
theorem wl_L_173 : Cond.methodLink RL 173 yX2_digest ∈ WG := List.mem_filter.mpr ⟨wr_1 _ (List.mem_of_getElem? (i := 176) rfl), rfl⟩
theorem wi_X2_digest : Cond.instanceMethod yX2_digest ∈ WG := List.mem_filter.mpr ⟨wr_1 _ (List.mem_of_getElem? (i := 177) rfl), rfl⟩
theorem wv_X2_digest : Cond.selects RX2 yX2_digest yX2_digest ∈ WG := List.mem_filter.mpr ⟨wr_1 _ (List.mem_of_getElem? (i := 178) rfl), rfl⟩
theorem wc_X2_digest : Cond.code yX2_digest cX2_digest 4 (some .long) ∈ WG := List.mem_filter.mpr ⟨wr_1 _ (List.mem_of_getElem? (i := 179) rfl), rfl⟩
theorem wq_X2_185 : Cond.constantLong RX2 185 (2267) ∈ WG := List.mem_filter.mpr ⟨wr_1 _ (List.mem_of_getElem? (i := 180) rfl), rfl⟩
theorem wq_X2_187 : Cond.constantLong RX2 187 (31) ∈ WG := List.mem_filter.mpr ⟨wr_1 _ (List.mem_of_getElem? (i := 181) rfl), rfl⟩
theorem wl_X2_166 : Cond.methodLink RX2 166 yX2_number ∈ WG := List.mem_filter.mpr ⟨wr_1 _ (List.mem_of_getElem? (i := 182) rfl), rfl⟩
theorem wi_X2_number : Cond.instanceMethod yX2_number ∈ WG := List.mem_filter.mpr ⟨wr_1 _ (List.mem_of_getElem? (i := 184) rfl), rfl⟩
theorem wc_X2_number : Cond.code yX2_number cX2_number 2 (some .int) ∈ WG := List.mem_filter.mpr ⟨wr_1 _ (List.mem_of_getElem? (i := 185) rfl), rfl⟩
theorem wl_X2_210 : Cond.methodLink RX2 210 yX1_total ∈ WG := List.mem_filter.mpr ⟨wr_1 _ (List.mem_of_getElem? (i := 186) rfl), rfl⟩
theorem wi_X1_total : Cond.instanceMethod yX1_total ∈ WG := List.mem_filter.mpr ⟨wr_1 _ (List.mem_of_getElem? (i := 187) rfl), rfl⟩
theorem wv_X1_total : Cond.selects RX1 yX1_total yX1_total ∈ WG := List.mem_filter.mpr ⟨wr_1 _ (List.mem_of_getElem? (i := 188) rfl), rfl⟩
theorem wc_X1_total : Cond.code yX1_total cX1_total 2 (some .int) ∈ WG := List.mem_filter.mpr ⟨wr_1 _ (List.mem_of_getElem? (i := 189) rfl), rfl⟩
theorem wl_X1_178 : Cond.methodLink RX1 178 yX1_allRestingBurials ∈ WG := List.mem_filter.mpr ⟨wr_1 _ (List.mem_of_getElem? (i := 190) rfl), rfl⟩
theorem wi_X1_allRestingBurials : Cond.instanceMethod yX1_allRestingBurials ∈ WG := List.mem_filter.mpr ⟨wr_1 _ (List.mem_of_getElem? (i := 192) rfl), rfl⟩
theorem wc_X1_allRestingBurials : Cond.code yX1_allRestingBurials cX1_allRestingBurials 3 (some .int) ∈ WG := List.mem_filter.mpr ⟨wr_1 _ (List.mem_of_getElem? (i := 193) rfl), rfl⟩
theorem wl_X1_162 : Cond.methodLink RX1 162 yX1_restingBurials ∈ WG := List.mem_filter.mpr ⟨wr_1 _ (List.mem_of_getElem? (i := 194) rfl), rfl⟩
theorem wi_X1_restingBurials : Cond.instanceMethod yX1_restingBurials ∈ WG := List.mem_filter.mpr ⟨wr_1 _ (List.mem_of_getElem? (i := 195) rfl), rfl⟩
theorem wv_X1_restingBurials : Cond.selects RX1 yX1_restingBurials yX1_restingBurials ∈ WG := List.mem_filter.mpr ⟨wr_1 _ (List.mem_of_getElem? (i := 196) rfl), rfl⟩
theorem wc_X1_restingBurials : Cond.code yX1_restingBurials cX1_restingBurials 5 (some .int) ∈ WG := List.mem_filter.mpr ⟨wr_1 _ (List.mem_of_getElem? (i := 197) rfl), rfl⟩
theorem wl_X1_100 : Cond.methodLink RX1 100 yX1_isResting ∈ WG := List.mem_filter.mpr ⟨wr_1 _ (List.mem_of_getElem? (i := 198) rfl), rfl⟩
theorem wi_X1_isResting : Cond.instanceMethod yX1_isResting ∈ WG := List.mem_filter.mpr ⟨wr_1 _ (List.mem_of_getElem? (i := 200) rfl), rfl⟩
theorem wc_X1_isResting : Cond.code yX1_isResting cX1_isResting 3 (some .boolean) ∈ WG := List.mem_filter.mpr ⟨wr_1 _ (List.mem_of_getElem? (i := 201) rfl), rfl⟩
theorem wl_X1_97 : Cond.methodLink RX1 97 yX1_endOfRest ∈ WG := List.mem_filter.mpr ⟨wr_1 _ (List.mem_of_getElem? (i := 202) rfl), rfl⟩
theorem wi_X1_endOfRest : Cond.instanceMethod yX1_endOfRest ∈ WG := List.mem_filter.mpr ⟨wr_1 _ (List.mem_of_getElem? (i := 204) rfl), rfl⟩
theorem wc_X1_endOfRest : Cond.code yX1_endOfRest cX1_endOfRest 2 (some .int) ∈ WG := List.mem_filter.mpr ⟨wr_1 _ (List.mem_of_getElem? (i := 205) rfl), rfl⟩
theorem wf_X1_94 : Cond.fieldLink RX1 94 "BurialGround$Ledger" "YEARS_OF_REST" "[I" ∈ WG := List.mem_filter.mpr ⟨wr_1 _ (List.mem_of_getElem? (i := 206) rfl), rfl⟩
theorem wl_X1_131 : Cond.methodLink RX1 131 yX1_soilPlots ∈ WG := List.mem_filter.mpr ⟨wr_1 _ (List.mem_of_getElem? (i := 208) rfl), rfl⟩
theorem wi_X1_soilPlots : Cond.instanceMethod yX1_soilPlots ∈ WG := List.mem_filter.mpr ⟨wr_1 _ (List.mem_of_getElem? (i := 210) rfl), rfl⟩
theorem wc_X1_soilPlots : Cond.code yX1_soilPlots cX1_soilPlots 4 (some .long) ∈ WG := List.mem_filter.mpr ⟨wr_1 _ (List.mem_of_getElem? (i := 211) rfl), rfl⟩
theorem wl_X1_114 : Cond.methodLink RX1 114 yX1_bitOf ∈ WG := List.mem_filter.mpr ⟨wr_1 _ (List.mem_of_getElem? (i := 212) rfl), rfl⟩
theorem wt_X1_bitOf : Cond.static yX1_bitOf ∈ WG := List.mem_filter.mpr ⟨wr_1 _ (List.mem_of_getElem? (i := 213) rfl), rfl⟩
theorem wc_X1_bitOf : Cond.code yX1_bitOf cX1_bitOf 1 (some .long) ∈ WG := List.mem_filter.mpr ⟨wr_1 _ (List.mem_of_getElem? (i := 214) rfl), rfl⟩
theorem wl_X1_122 : Cond.methodLink RX1 122 yX1_openPlots ∈ WG := List.mem_filter.mpr ⟨wr_1 _ (List.mem_of_getElem? (i := 215) rfl), rfl⟩
theorem wi_X1_openPlots : Cond.instanceMethod yX1_openPlots ∈ WG := List.mem_filter.mpr ⟨wr_1 _ (List.mem_of_getElem? (i := 217) rfl), rfl⟩
theorem wc_X1_openPlots : Cond.code yX1_openPlots cX1_openPlots 4 (some .long) ∈ WG := List.mem_filter.mpr ⟨wr_1 _ (List.mem_of_getElem? (i := 218) rfl), rfl⟩
theorem wl_X1_134 : Cond.methodLink RX1 134 yJ13_bitCount_95d88 ∈ WG := List.mem_filter.mpr ⟨wr_1 _ (List.mem_of_getElem? (i := 219) rfl), rfl⟩
theorem wt_J13_bitCount_95d88 : Cond.static yJ13_bitCount_95d88 ∈ WG := List.mem_filter.mpr ⟨wr_1 _ (List.mem_of_getElem? (i := 220) rfl), rfl⟩
theorem wc_J13_bitCount_95d88 : Cond.code yJ13_bitCount_95d88 cJ13_bitCount_95d88 2 (some .int) ∈ WG := List.mem_filter.mpr ⟨wr_1 _ (List.mem_of_getElem? (i := 221) rfl), rfl⟩
theorem wq_J13_314 : Cond.constantLong RJ13 314 (6148914691236517205) ∈ WG := List.mem_filter.mpr ⟨wr_1 _ (List.mem_of_getElem? (i := 222) rfl), rfl⟩
theorem wq_J13_316 : Cond.constantLong RJ13 316 (3689348814741910323) ∈ WG := List.mem_filter.mpr ⟨wr_1 _ (List.mem_of_getElem? (i := 223) rfl), rfl⟩
theorem wq_J13_318 : Cond.constantLong RJ13 318 (1085102592571150095) ∈ WG := List.mem_filter.mpr ⟨wr_1 _ (List.mem_of_getElem? (i := 224) rfl), rfl⟩
theorem wq_X1_126 : Cond.constantLong RX1 126 (-1) ∈ WG := List.mem_filter.mpr ⟨wr_1 _ (List.mem_of_getElem? (i := 225) rfl), rfl⟩
theorem wl_X1_181 : Cond.methodLink RX1 181 yX1_lastingReservations ∈ WG := List.mem_filter.mpr ⟨wr_1 _ (List.mem_of_getElem? (i := 226) rfl), rfl⟩
theorem wi_X1_lastingReservations : Cond.instanceMethod yX1_lastingReservations ∈ WG := List.mem_filter.mpr ⟨wr_1 _ (List.mem_of_getElem? (i := 227) rfl), rfl⟩
theorem wv_X1_lastingReservations : Cond.selects RX1 yX1_lastingReservations yX1_lastingReservations ∈ WG := List.mem_filter.mpr ⟨wr_1 _ (List.mem_of_getElem? (i := 228) rfl), rfl⟩
theorem wc_X1_lastingReservations : Cond.code yX1_lastingReservations cX1_lastingReservations 3 (some .int) ∈ WG := List.mem_filter.mpr ⟨wr_1 _ (List.mem_of_getElem? (i := 229) rfl), rfl⟩
theorem wl_X1_108 : Cond.methodLink RX1 108 yX1_isReservedIn ∈ WG := List.mem_filter.mpr ⟨wr_1 _ (List.mem_of_getElem? (i := 230) rfl), rfl⟩
theorem wi_X1_isReservedIn : Cond.instanceMethod yX1_isReservedIn ∈ WG := List.mem_filter.mpr ⟨wr_1 _ (List.mem_of_getElem? (i := 232) rfl), rfl⟩
theorem wc_X1_isReservedIn : Cond.code yX1_isReservedIn cX1_isReservedIn 3 (some .boolean) ∈ WG := List.mem_filter.mpr ⟨wr_1 _ (List.mem_of_getElem? (i := 233) rfl), rfl⟩
theorem wl_X1_184 : Cond.methodLink RX1 184 yX1_allVaults ∈ WG := List.mem_filter.mpr ⟨wr_1 _ (List.mem_of_getElem? (i := 234) rfl), rfl⟩
theorem wi_X1_allVaults : Cond.instanceMethod yX1_allVaults ∈ WG := List.mem_filter.mpr ⟨wr_1 _ (List.mem_of_getElem? (i := 236) rfl), rfl⟩
theorem wc_X1_allVaults : Cond.code yX1_allVaults cX1_allVaults 3 (some .int) ∈ WG := List.mem_filter.mpr ⟨wr_1 _ (List.mem_of_getElem? (i := 237) rfl), rfl⟩
theorem wl_X1_171 : Cond.methodLink RX1 171 yX1_vaultsOf ∈ WG := List.mem_filter.mpr ⟨wr_1 _ (List.mem_of_getElem? (i := 238) rfl), rfl⟩
theorem wi_X1_vaultsOf : Cond.instanceMethod yX1_vaultsOf ∈ WG := List.mem_filter.mpr ⟨wr_2 _ (List.mem_of_getElem? (i := 0) rfl), rfl⟩
theorem wc_X1_vaultsOf : Cond.code yX1_vaultsOf cX1_vaultsOf 4 (some .int) ∈ WG := List.mem_filter.mpr ⟨wr_2 _ (List.mem_of_getElem? (i := 1) rfl), rfl⟩
theorem wl_X1_187 : Cond.methodLink RX1 187 yX1_allPaid ∈ WG := List.mem_filter.mpr ⟨wr_2 _ (List.mem_of_getElem? (i := 2) rfl), rfl⟩
theorem wi_X1_allPaid : Cond.instanceMethod yX1_allPaid ∈ WG := List.mem_filter.mpr ⟨wr_2 _ (List.mem_of_getElem? (i := 4) rfl), rfl⟩
theorem wc_X1_allPaid : Cond.code yX1_allPaid cX1_allPaid 3 (some .int) ∈ WG := List.mem_filter.mpr ⟨wr_2 _ (List.mem_of_getElem? (i := 5) rfl), rfl⟩
theorem wl_X2_189 : Cond.methodLink RX2 189 yX2_plotDigest ∈ WG := List.mem_filter.mpr ⟨wr_2 _ (List.mem_of_getElem? (i := 6) rfl), rfl⟩
theorem wi_X2_plotDigest : Cond.instanceMethod yX2_plotDigest ∈ WG := List.mem_filter.mpr ⟨wr_2 _ (List.mem_of_getElem? (i := 8) rfl), rfl⟩
theorem wc_X2_plotDigest : Cond.code yX2_plotDigest cX2_plotDigest 8 (some .long) ∈ WG := List.mem_filter.mpr ⟨wr_2 _ (List.mem_of_getElem? (i := 9) rfl), rfl⟩
theorem wl_X2_152 : Cond.methodLink RX2 152 yX1_plotProperty ∈ WG := List.mem_filter.mpr ⟨wr_2 _ (List.mem_of_getElem? (i := 10) rfl), rfl⟩
theorem wi_X1_plotProperty : Cond.instanceMethod yX1_plotProperty ∈ WG := List.mem_filter.mpr ⟨wr_2 _ (List.mem_of_getElem? (i := 11) rfl), rfl⟩
theorem wv_X1_plotProperty : Cond.selects RX1 yX1_plotProperty yX1_plotProperty ∈ WG := List.mem_filter.mpr ⟨wr_2 _ (List.mem_of_getElem? (i := 12) rfl), rfl⟩
theorem wc_X1_plotProperty : Cond.code yX1_plotProperty cX1_plotProperty 3 (some .int) ∈ WG := List.mem_filter.mpr ⟨wr_2 _ (List.mem_of_getElem? (i := 13) rfl), rfl⟩
theorem wl_X1_74 : Cond.methodLink RX1 74 yX1_holder ∈ WG := List.mem_filter.mpr ⟨wr_2 _ (List.mem_of_getElem? (i := 14) rfl), rfl⟩
theorem wi_X1_holder : Cond.instanceMethod yX1_holder ∈ WG := List.mem_filter.mpr ⟨wr_2 _ (List.mem_of_getElem? (i := 16) rfl), rfl⟩
theorem wc_X1_holder : Cond.code yX1_holder cX1_holder 5 (some .int) ∈ WG := List.mem_filter.mpr ⟨wr_2 _ (List.mem_of_getElem? (i := 17) rfl), rfl⟩
theorem wl_X1_87 : Cond.methodLink RX1 87 yX1_isReached ∈ WG := List.mem_filter.mpr ⟨wr_2 _ (List.mem_of_getElem? (i := 18) rfl), rfl⟩
theorem wi_X1_isReached : Cond.instanceMethod yX1_isReached ∈ WG := List.mem_filter.mpr ⟨wr_2 _ (List.mem_of_getElem? (i := 20) rfl), rfl⟩
theorem wc_X1_isReached : Cond.code yX1_isReached cX1_isReached 2 (some .boolean) ∈ WG := List.mem_filter.mpr ⟨wr_2 _ (List.mem_of_getElem? (i := 21) rfl), rfl⟩
theorem wl_X1_140 : Cond.methodLink RX1 140 yX1_greatestDepth ∈ WG := List.mem_filter.mpr ⟨wr_2 _ (List.mem_of_getElem? (i := 22) rfl), rfl⟩
theorem wi_X1_greatestDepth : Cond.instanceMethod yX1_greatestDepth ∈ WG := List.mem_filter.mpr ⟨wr_2 _ (List.mem_of_getElem? (i := 24) rfl), rfl⟩
theorem wc_X1_greatestDepth : Cond.code yX1_greatestDepth cX1_greatestDepth 2 (some .int) ∈ WG := List.mem_filter.mpr ⟨wr_2 _ (List.mem_of_getElem? (i := 25) rfl), rfl⟩
theorem wf_X1_111 : Cond.fieldLink RX1 111 "BurialGround$Ledger" "GREATEST_DEPTH" "[I" ∈ WG := List.mem_filter.mpr ⟨wr_2 _ (List.mem_of_getElem? (i := 26) rfl), rfl⟩
theorem wl_X2_160 : Cond.methodLink RX2 160 yX1_burialProperty ∈ WG := List.mem_filter.mpr ⟨wr_2 _ (List.mem_of_getElem? (i := 28) rfl), rfl⟩
theorem wi_X1_burialProperty : Cond.instanceMethod yX1_burialProperty ∈ WG := List.mem_filter.mpr ⟨wr_2 _ (List.mem_of_getElem? (i := 29) rfl), rfl⟩
theorem wv_X1_burialProperty : Cond.selects RX1 yX1_burialProperty yX1_burialProperty ∈ WG := List.mem_filter.mpr ⟨wr_2 _ (List.mem_of_getElem? (i := 30) rfl), rfl⟩
theorem wc_X1_burialProperty : Cond.code yX1_burialProperty cX1_burialProperty 5 (some .int) ∈ WG := List.mem_filter.mpr ⟨wr_2 _ (List.mem_of_getElem? (i := 31) rfl), rfl⟩
theorem wl_X1_62 : Cond.methodLink RX1 62 yX1_placeOf ∈ WG := List.mem_filter.mpr ⟨wr_2 _ (List.mem_of_getElem? (i := 32) rfl), rfl⟩
theorem wt_X1_placeOf : Cond.static yX1_placeOf ∈ WG := List.mem_filter.mpr ⟨wr_2 _ (List.mem_of_getElem? (i := 33) rfl), rfl⟩
theorem wc_X1_placeOf : Cond.code yX1_placeOf cX1_placeOf 2 (some .int) ∈ WG := List.mem_filter.mpr ⟨wr_2 _ (List.mem_of_getElem? (i := 34) rfl), rfl⟩
theorem wl_X2_175 : Cond.methodLink RX2 175 yX1_yearOfRest ∈ WG := List.mem_filter.mpr ⟨wr_2 _ (List.mem_of_getElem? (i := 35) rfl), rfl⟩
theorem wi_X1_yearOfRest : Cond.instanceMethod yX1_yearOfRest ∈ WG := List.mem_filter.mpr ⟨wr_2 _ (List.mem_of_getElem? (i := 36) rfl), rfl⟩
theorem wv_X1_yearOfRest : Cond.selects RX1 yX1_yearOfRest yX1_yearOfRest ∈ WG := List.mem_filter.mpr ⟨wr_2 _ (List.mem_of_getElem? (i := 37) rfl), rfl⟩
theorem wc_X1_yearOfRest : Cond.code yX1_yearOfRest cX1_yearOfRest 5 (some .int) ∈ WG := List.mem_filter.mpr ⟨wr_2 _ (List.mem_of_getElem? (i := 38) rfl), rfl⟩
theorem wl_X1_103 : Cond.methodLink RX1 103 yJ9_max_7cf53 ∈ WG := List.mem_filter.mpr ⟨wr_2 _ (List.mem_of_getElem? (i := 39) rfl), rfl⟩
theorem wt_J9_max_7cf53 : Cond.static yJ9_max_7cf53 ∈ WG := List.mem_filter.mpr ⟨wr_2 _ (List.mem_of_getElem? (i := 40) rfl), rfl⟩
theorem wc_J9_max_7cf53 : Cond.code yJ9_max_7cf53 cJ9_max_7cf53 2 (some .int) ∈ WG := List.mem_filter.mpr ⟨wr_2 _ (List.mem_of_getElem? (i := 41) rfl), rfl⟩
theorem wl_X2_193 : Cond.methodLink RX2 193 yX2_familyDigest ∈ WG := List.mem_filter.mpr ⟨wr_2 _ (List.mem_of_getElem? (i := 42) rfl), rfl⟩
theorem wi_X2_familyDigest : Cond.instanceMethod yX2_familyDigest ∈ WG := List.mem_filter.mpr ⟨wr_2 _ (List.mem_of_getElem? (i := 44) rfl), rfl⟩
theorem wc_X2_familyDigest : Cond.code yX2_familyDigest cX2_familyDigest 7 (some .long) ∈ WG := List.mem_filter.mpr ⟨wr_2 _ (List.mem_of_getElem? (i := 45) rfl), rfl⟩
theorem wl_X2_163 : Cond.methodLink RX2 163 yX1_familyProperty ∈ WG := List.mem_filter.mpr ⟨wr_2 _ (List.mem_of_getElem? (i := 46) rfl), rfl⟩
theorem wi_X1_familyProperty : Cond.instanceMethod yX1_familyProperty ∈ WG := List.mem_filter.mpr ⟨wr_2 _ (List.mem_of_getElem? (i := 47) rfl), rfl⟩
theorem wv_X1_familyProperty : Cond.selects RX1 yX1_familyProperty yX1_familyProperty ∈ WG := List.mem_filter.mpr ⟨wr_2 _ (List.mem_of_getElem? (i := 48) rfl), rfl⟩
theorem wc_X1_familyProperty : Cond.code yX1_familyProperty cX1_familyProperty 3 (some .int) ∈ WG := List.mem_filter.mpr ⟨wr_2 _ (List.mem_of_getElem? (i := 49) rfl), rfl⟩
theorem wl_X1_165 : Cond.methodLink RX1 165 yX1_burialsOf ∈ WG := List.mem_filter.mpr ⟨wr_2 _ (List.mem_of_getElem? (i := 50) rfl), rfl⟩
theorem wi_X1_burialsOf : Cond.instanceMethod yX1_burialsOf ∈ WG := List.mem_filter.mpr ⟨wr_2 _ (List.mem_of_getElem? (i := 52) rfl), rfl⟩
theorem wc_X1_burialsOf : Cond.code yX1_burialsOf cX1_burialsOf 4 (some .int) ∈ WG := List.mem_filter.mpr ⟨wr_2 _ (List.mem_of_getElem? (i := 53) rfl), rfl⟩
theorem wl_X1_168 : Cond.methodLink RX1 168 yX1_plotsHeldBy ∈ WG := List.mem_filter.mpr ⟨wr_2 _ (List.mem_of_getElem? (i := 54) rfl), rfl⟩
theorem wi_X1_plotsHeldBy : Cond.instanceMethod yX1_plotsHeldBy ∈ WG := List.mem_filter.mpr ⟨wr_2 _ (List.mem_of_getElem? (i := 56) rfl), rfl⟩
theorem wc_X1_plotsHeldBy : Cond.code yX1_plotsHeldBy cX1_plotsHeldBy 4 (some .int) ∈ WG := List.mem_filter.mpr ⟨wr_2 _ (List.mem_of_getElem? (i := 57) rfl), rfl⟩
theorem wl_X2_172 : Cond.methodLink RX2 172 yX1_cheapestPlot ∈ WG := List.mem_filter.mpr ⟨wr_2 _ (List.mem_of_getElem? (i := 58) rfl), rfl⟩
theorem wi_X1_cheapestPlot : Cond.instanceMethod yX1_cheapestPlot ∈ WG := List.mem_filter.mpr ⟨wr_2 _ (List.mem_of_getElem? (i := 59) rfl), rfl⟩
theorem wv_X1_cheapestPlot : Cond.selects RX1 yX1_cheapestPlot yX1_cheapestPlot ∈ WG := List.mem_filter.mpr ⟨wr_2 _ (List.mem_of_getElem? (i := 60) rfl), rfl⟩
theorem wc_X1_cheapestPlot : Cond.code yX1_cheapestPlot cX1_cheapestPlot 7 (some .int) ∈ WG := List.mem_filter.mpr ⟨wr_2 _ (List.mem_of_getElem? (i := 61) rfl), rfl⟩
theorem wl_X1_159 : Cond.methodLink RX1 159 yX1_leastFee ∈ WG := List.mem_filter.mpr ⟨wr_2 _ (List.mem_of_getElem? (i := 62) rfl), rfl⟩
theorem wi_X1_leastFee : Cond.instanceMethod yX1_leastFee ∈ WG := List.mem_filter.mpr ⟨wr_2 _ (List.mem_of_getElem? (i := 64) rfl), rfl⟩
theorem wc_X1_leastFee : Cond.code yX1_leastFee cX1_leastFee 6 (some .int) ∈ WG := List.mem_filter.mpr ⟨wr_2 _ (List.mem_of_getElem? (i := 65) rfl), rfl⟩
theorem wl_X1_155 : Cond.methodLink RX1 155 yX1_refusal ∈ WG := List.mem_filter.mpr ⟨wr_2 _ (List.mem_of_getElem? (i := 66) rfl), rfl⟩
theorem wi_X1_refusal : Cond.instanceMethod yX1_refusal ∈ WG := List.mem_filter.mpr ⟨wr_2 _ (List.mem_of_getElem? (i := 67) rfl), rfl⟩
theorem wv_X1_refusal : Cond.selects RX1 yX1_refusal yX1_refusal ∈ WG := List.mem_filter.mpr ⟨wr_2 _ (List.mem_of_getElem? (i := 68) rfl), rfl⟩
theorem wc_X1_refusal : Cond.code yX1_refusal cX1_refusal 5 (some .int) ∈ WG := List.mem_filter.mpr ⟨wr_2 _ (List.mem_of_getElem? (i := 69) rfl), rfl⟩
theorem wl_X1_77 : Cond.methodLink RX1 77 yX1_isOther ∈ WG := List.mem_filter.mpr ⟨wr_2 _ (List.mem_of_getElem? (i := 70) rfl), rfl⟩
theorem wt_X1_isOther : Cond.static yX1_isOther ∈ WG := List.mem_filter.mpr ⟨wr_2 _ (List.mem_of_getElem? (i := 71) rfl), rfl⟩
theorem wc_X1_isOther : Cond.code yX1_isOther cX1_isOther 2 (some .boolean) ∈ WG := List.mem_filter.mpr ⟨wr_2 _ (List.mem_of_getElem? (i := 72) rfl), rfl⟩
theorem wl_X1_143 : Cond.methodLink RX1 143 yX1_freeDepth ∈ WG := List.mem_filter.mpr ⟨wr_2 _ (List.mem_of_getElem? (i := 73) rfl), rfl⟩
theorem wi_X1_freeDepth : Cond.instanceMethod yX1_freeDepth ∈ WG := List.mem_filter.mpr ⟨wr_2 _ (List.mem_of_getElem? (i := 75) rfl), rfl⟩
theorem wc_X1_freeDepth : Cond.code yX1_freeDepth cX1_freeDepth 4 (some .int) ∈ WG := List.mem_filter.mpr ⟨wr_2 _ (List.mem_of_getElem? (i := 76) rfl), rfl⟩
theorem wl_X1_146 : Cond.methodLink RX1 146 yX1_vaultRefusal ∈ WG := List.mem_filter.mpr ⟨wr_2 _ (List.mem_of_getElem? (i := 77) rfl), rfl⟩
theorem wi_X1_vaultRefusal : Cond.instanceMethod yX1_vaultRefusal ∈ WG := List.mem_filter.mpr ⟨wr_2 _ (List.mem_of_getElem? (i := 79) rfl), rfl⟩
theorem wc_X1_vaultRefusal : Cond.code yX1_vaultRefusal cX1_vaultRefusal 4 (some .int) ∈ WG := List.mem_filter.mpr ⟨wr_2 _ (List.mem_of_getElem? (i := 80) rfl), rfl⟩
theorem wl_X1_149 : Cond.methodLink RX1 149 yX1_latestBurial ∈ WG := List.mem_filter.mpr ⟨wr_2 _ (List.mem_of_getElem? (i := 81) rfl), rfl⟩
theorem wi_X1_latestBurial : Cond.instanceMethod yX1_latestBurial ∈ WG := List.mem_filter.mpr ⟨wr_2 _ (List.mem_of_getElem? (i := 83) rfl), rfl⟩
theorem wc_X1_latestBurial : Cond.code yX1_latestBurial cX1_latestBurial 5 (some .int) ∈ WG := List.mem_filter.mpr ⟨wr_2 _ (List.mem_of_getElem? (i := 84) rfl), rfl⟩
theorem wl_X1_152 : Cond.methodLink RX1 152 yJ9_min_7cf53 ∈ WG := List.mem_filter.mpr ⟨wr_2 _ (List.mem_of_getElem? (i := 85) rfl), rfl⟩
theorem wt_J9_min_7cf53 : Cond.static yJ9_min_7cf53 ∈ WG := List.mem_filter.mpr ⟨wr_2 _ (List.mem_of_getElem? (i := 86) rfl), rfl⟩
theorem wc_J9_min_7cf53 : Cond.code yJ9_min_7cf53 cJ9_min_7cf53 2 (some .int) ∈ WG := List.mem_filter.mpr ⟨wr_2 _ (List.mem_of_getElem? (i := 87) rfl), rfl⟩
theorem wl_X1_66 : Cond.methodLink RX1 66 yX1_burialFee ∈ WG := List.mem_filter.mpr ⟨wr_2 _ (List.mem_of_getElem? (i := 88) rfl), rfl⟩
theorem wi_X1_burialFee : Cond.instanceMethod yX1_burialFee ∈ WG := List.mem_filter.mpr ⟨wr_2 _ (List.mem_of_getElem? (i := 89) rfl), rfl⟩
theorem wv_X1_burialFee : Cond.selects RX1 yX1_burialFee yX1_burialFee ∈ WG := List.mem_filter.mpr ⟨wr_2 _ (List.mem_of_getElem? (i := 90) rfl), rfl⟩
theorem wc_X1_burialFee : Cond.code yX1_burialFee cX1_burialFee 5 (some .int) ∈ WG := List.mem_filter.mpr ⟨wr_2 _ (List.mem_of_getElem? (i := 91) rfl), rfl⟩
theorem wl_X1_91 : Cond.methodLink RX1 91 yX1_priceFor ∈ WG := List.mem_filter.mpr ⟨wr_2 _ (List.mem_of_getElem? (i := 92) rfl), rfl⟩
theorem wi_X1_priceFor : Cond.instanceMethod yX1_priceFor ∈ WG := List.mem_filter.mpr ⟨wr_2 _ (List.mem_of_getElem? (i := 94) rfl), rfl⟩
theorem wc_X1_priceFor : Cond.code yX1_priceFor cX1_priceFor 3 (some .int) ∈ WG := List.mem_filter.mpr ⟨wr_2 _ (List.mem_of_getElem? (i := 95) rfl), rfl⟩
theorem wl_X1_81 : Cond.methodLink RX1 81 yX1_hasReservation ∈ WG := List.mem_filter.mpr ⟨wr_2 _ (List.mem_of_getElem? (i := 96) rfl), rfl⟩
theorem wi_X1_hasReservation : Cond.instanceMethod yX1_hasReservation ∈ WG := List.mem_filter.mpr ⟨wr_2 _ (List.mem_of_getElem? (i := 98) rfl), rfl⟩
theorem wc_X1_hasReservation : Cond.code yX1_hasReservation cX1_hasReservation 3 (some .boolean) ∈ WG := List.mem_filter.mpr ⟨wr_2 _ (List.mem_of_getElem? (i := 99) rfl), rfl⟩
theorem wl_X2_196 : Cond.methodLink RX2 196 yX2_bitsOf ∈ WG := List.mem_filter.mpr ⟨wr_2 _ (List.mem_of_getElem? (i := 100) rfl), rfl⟩
theorem wt_X2_bitsOf : Cond.static yX2_bitsOf ∈ WG := List.mem_filter.mpr ⟨wr_2 _ (List.mem_of_getElem? (i := 101) rfl), rfl⟩
theorem wc_X2_bitsOf : Cond.code yX2_bitsOf cX2_bitsOf 7 (some .long) ∈ WG := List.mem_filter.mpr ⟨wr_2 _ (List.mem_of_getElem? (i := 102) rfl), rfl⟩
theorem wq_X2_204 : Cond.constantLong RX2 204 (1023) ∈ WG := List.mem_filter.mpr ⟨wr_2 _ (List.mem_of_getElem? (i := 103) rfl), rfl⟩
theorem wq_X2_206 : Cond.constantDouble RX2 206 (4611686018427387904) ∈ WG := List.mem_filter.mpr ⟨wr_2 _ (List.mem_of_getElem? (i := 104) rfl), rfl⟩
theorem wq_X2_208 : Cond.constantDouble RX2 208 (4841369599423283200) ∈ WG := List.mem_filter.mpr ⟨wr_2 _ (List.mem_of_getElem? (i := 105) rfl), rfl⟩
theorem wl_X2_200 : Cond.methodLink RX2 200 yX2_bufferDigest ∈ WG := List.mem_filter.mpr ⟨wr_2 _ (List.mem_of_getElem? (i := 106) rfl), rfl⟩
theorem wi_X2_bufferDigest : Cond.instanceMethod yX2_bufferDigest ∈ WG := List.mem_filter.mpr ⟨wr_2 _ (List.mem_of_getElem? (i := 108) rfl), rfl⟩
theorem wc_X2_bufferDigest : Cond.code yX2_bufferDigest cX2_bufferDigest 6 (some .long) ∈ WG := List.mem_filter.mpr ⟨wr_2 _ (List.mem_of_getElem? (i := 109) rfl), rfl⟩
theorem wl_L_87 : Cond.methodLink RL 87 yL_lay ∈ WG := List.mem_filter.mpr ⟨wr_2 _ (List.mem_of_getElem? (i := 110) rfl), rfl⟩
theorem wt_L_lay : Cond.static yL_lay ∈ WG := List.mem_filter.mpr ⟨wr_2 _ (List.mem_of_getElem? (i := 111) rfl), rfl⟩
theorem wk_L_13 : Cond.classLink RL 13 "java/lang/IndexOutOfBoundsException" ∈ WG := List.mem_filter.mpr ⟨wr_2 _ (List.mem_of_getElem? (i := 113) rfl), rfl⟩
theorem wk_L_15 : Cond.classLink RL 15 "java/lang/IllegalArgumentException" ∈ WG := List.mem_filter.mpr ⟨wr_2 _ (List.mem_of_getElem? (i := 114) rfl), rfl⟩
theorem wk_L_17 : Cond.classLink RL 17 "java/lang/IllegalStateException" ∈ WG := List.mem_filter.mpr ⟨wr_2 _ (List.mem_of_getElem? (i := 115) rfl), rfl⟩
theorem wl_L_7 : Cond.methodLink RL 7 yX2_lay ∈ WG := List.mem_filter.mpr ⟨wr_2 _ (List.mem_of_getElem? (i := 116) rfl), rfl⟩
theorem wi_X2_lay : Cond.instanceMethod yX2_lay ∈ WG := List.mem_filter.mpr ⟨wr_2 _ (List.mem_of_getElem? (i := 117) rfl), rfl⟩
theorem wv_X2_lay : Cond.selects RX2 yX2_lay yX2_lay ∈ WG := List.mem_filter.mpr ⟨wr_2 _ (List.mem_of_getElem? (i := 118) rfl), rfl⟩
theorem wc_X2_lay : Cond.code yX2_lay cX2_lay 3 (some .int) ∈ WG := List.mem_filter.mpr ⟨wr_2 _ (List.mem_of_getElem? (i := 119) rfl), rfl⟩
theorem wl_X2_38 : Cond.methodLink RX2 38 yX2_needPlot ∈ WG := List.mem_filter.mpr ⟨wr_2 _ (List.mem_of_getElem? (i := 120) rfl), rfl⟩
theorem wt_X2_needPlot : Cond.static yX2_needPlot ∈ WG := List.mem_filter.mpr ⟨wr_2 _ (List.mem_of_getElem? (i := 121) rfl), rfl⟩
theorem wc_X2_needPlot : Cond.code yX2_needPlot cX2_needPlot 1 none ∈ WG := List.mem_filter.mpr ⟨wr_2 _ (List.mem_of_getElem? (i := 122) rfl), rfl⟩
theorem wk_X2_42 : Cond.classLink RX2 42 "java/lang/IndexOutOfBoundsException" ∈ WG := List.mem_filter.mpr ⟨wr_2 _ (List.mem_of_getElem? (i := 123) rfl), rfl⟩
theorem wb_IndexOutOfBoundsException : Cond.instantiable "java/lang/IndexOutOfBoundsException" 6 ∈ WG := List.mem_filter.mpr ⟨wr_2 _ (List.mem_of_getElem? (i := 124) rfl), rfl⟩
theorem wv_Throwable_fillInStackTrace_86b : Cond.selects "java/lang/IndexOutOfBoundsException" (⟨"java/lang/Throwable", "fillInStackTrace", "(I)Ljava/lang/Throwable;"⟩ : MethodName) (⟨"java/lang/Throwable", "fillInStackTrace", "(I)Ljava/lang/Throwable;"⟩ : MethodName) ∈ WG := List.mem_filter.mpr ⟨wr_2 _ (List.mem_of_getElem? (i := 132) rfl), rfl⟩
theorem wv_Throwable_fillInStackTrace_822 : Cond.selects "java/lang/IndexOutOfBoundsException" (⟨"java/lang/Throwable", "fillInStackTrace", "()Ljava/lang/Throwable;"⟩ : MethodName) (⟨"java/lang/Throwable", "fillInStackTrace", "()Ljava/lang/Throwable;"⟩ : MethodName) ∈ WG := List.mem_filter.mpr ⟨wr_2 _ (List.mem_of_getElem? (i := 133) rfl), rfl⟩
theorem wy_IndexOutOfBoundsException_cause : Cond.lays "java/lang/IndexOutOfBoundsException" "java/lang/Throwable" "cause" "Ljava/lang/Throwable;" ∈ WG := List.mem_filter.mpr ⟨wr_2 _ (List.mem_of_getElem? (i := 134) rfl), rfl⟩
theorem wy_Throwable_cause : Cond.lays "java/lang/Throwable" "java/lang/Throwable" "cause" "Ljava/lang/Throwable;" ∈ WG := List.mem_filter.mpr ⟨wr_2 _ (List.mem_of_getElem? (i := 135) rfl), rfl⟩
theorem wy_IndexOutOfBoundsException_stackTrace : Cond.lays "java/lang/IndexOutOfBoundsException" "java/lang/Throwable" "stackTrace" "[Ljava/lang/StackTraceElement;" ∈ WG := List.mem_filter.mpr ⟨wr_2 _ (List.mem_of_getElem? (i := 136) rfl), rfl⟩
theorem wy_Throwable_stackTrace : Cond.lays "java/lang/Throwable" "java/lang/Throwable" "stackTrace" "[Ljava/lang/StackTraceElement;" ∈ WG := List.mem_filter.mpr ⟨wr_2 _ (List.mem_of_getElem? (i := 137) rfl), rfl⟩
theorem wy_IndexOutOfBoundsException_suppressedExceptions : Cond.lays "java/lang/IndexOutOfBoundsException" "java/lang/Throwable" "suppressedExceptions" "Ljava/util/List;" ∈ WG := List.mem_filter.mpr ⟨wr_2 _ (List.mem_of_getElem? (i := 138) rfl), rfl⟩
theorem wy_Throwable_suppressedExceptions : Cond.lays "java/lang/Throwable" "java/lang/Throwable" "suppressedExceptions" "Ljava/util/List;" ∈ WG := List.mem_filter.mpr ⟨wr_2 _ (List.mem_of_getElem? (i := 139) rfl), rfl⟩
theorem wy_IndexOutOfBoundsException_detailMessage : Cond.lays "java/lang/IndexOutOfBoundsException" "java/lang/Throwable" "detailMessage" "Ljava/lang/String;" ∈ WG := List.mem_filter.mpr ⟨wr_2 _ (List.mem_of_getElem? (i := 140) rfl), rfl⟩
theorem wy_Throwable_detailMessage : Cond.lays "java/lang/Throwable" "java/lang/Throwable" "detailMessage" "Ljava/lang/String;" ∈ WG := List.mem_filter.mpr ⟨wr_2 _ (List.mem_of_getElem? (i := 141) rfl), rfl⟩
theorem wy_IndexOutOfBoundsException_backtrace : Cond.lays "java/lang/IndexOutOfBoundsException" "java/lang/Throwable" "backtrace" "Ljava/lang/Object;" ∈ WG := List.mem_filter.mpr ⟨wr_2 _ (List.mem_of_getElem? (i := 142) rfl), rfl⟩
theorem wy_Throwable_backtrace : Cond.lays "java/lang/Throwable" "java/lang/Throwable" "backtrace" "Ljava/lang/Object;" ∈ WG := List.mem_filter.mpr ⟨wr_2 _ (List.mem_of_getElem? (i := 143) rfl), rfl⟩
theorem wf_Throwable_198 : Cond.fieldLink "java/lang/Throwable" 198 "java/lang/Throwable" "backtrace" "Ljava/lang/Object;" ∈ WG := List.mem_filter.mpr ⟨wr_2 _ (List.mem_of_getElem? (i := 144) rfl), rfl⟩
theorem wi_Throwable__init__a7 : Cond.instanceMethod (⟨"java/lang/Throwable", "<init>", "()V"⟩ : MethodName) ∈ WG := List.mem_filter.mpr ⟨wr_2 _ (List.mem_of_getElem? (i := 146) rfl), rfl⟩
theorem wc_Throwable__init__a7 : Cond.code (⟨"java/lang/Throwable", "<init>", "()V"⟩ : MethodName) prog_16_method_1_code 1 none ∈ WG := List.mem_filter.mpr ⟨wr_2 _ (List.mem_of_getElem? (i := 147) rfl), rfl⟩
theorem wl_Throwable_1 : Cond.methodLink "java/lang/Throwable" 1 (⟨"java/lang/Object", "<init>", "()V"⟩ : MethodName) ∈ WG := List.mem_filter.mpr ⟨wr_2 _ (List.mem_of_getElem? (i := 148) rfl), rfl⟩
theorem wf_Throwable_13 : Cond.fieldLink "java/lang/Throwable" 13 "java/lang/Throwable" "UNASSIGNED_STACK" "[Ljava/lang/StackTraceElement;" ∈ WG := List.mem_filter.mpr ⟨wr_2 _ (List.mem_of_getElem? (i := 149) rfl), rfl⟩
theorem wf_Throwable_20 : Cond.fieldLink "java/lang/Throwable" 20 "java/lang/Throwable" "SUPPRESSED_SENTINEL" "Ljava/util/List;" ∈ WG := List.mem_filter.mpr ⟨wr_2 _ (List.mem_of_getElem? (i := 151) rfl), rfl⟩
theorem wl_Throwable_27 : Cond.methodLink "java/lang/Throwable" 27 (⟨"java/lang/Throwable", "fillInStackTrace", "()Ljava/lang/Throwable;"⟩ : MethodName) ∈ WG := List.mem_filter.mpr ⟨wr_2 _ (List.mem_of_getElem? (i := 153) rfl), rfl⟩
theorem wi_Throwable_fillInStackTrace_822 : Cond.instanceMethod (⟨"java/lang/Throwable", "fillInStackTrace", "()Ljava/lang/Throwable;"⟩ : MethodName) ∈ WG := List.mem_filter.mpr ⟨wr_2 _ (List.mem_of_getElem? (i := 154) rfl), rfl⟩
theorem wl_Throwable_202 : Cond.methodLink "java/lang/Throwable" 202 (⟨"java/lang/Throwable", "fillInStackTrace", "(I)Ljava/lang/Throwable;"⟩ : MethodName) ∈ WG := List.mem_filter.mpr ⟨wr_2 _ (List.mem_of_getElem? (i := 159) rfl), rfl⟩
theorem wi_Throwable_fillInStackTrace_86b : Cond.instanceMethod (⟨"java/lang/Throwable", "fillInStackTrace", "(I)Ljava/lang/Throwable;"⟩ : MethodName) ∈ WG := List.mem_filter.mpr ⟨wr_2 _ (List.mem_of_getElem? (i := 161) rfl), rfl⟩
theorem wb_Throwable : Cond.instantiable "java/lang/Throwable" 6 ∈ WG := List.mem_filter.mpr ⟨wr_2 _ (List.mem_of_getElem? (i := 162) rfl), rfl⟩
theorem wl_X2_46 : Cond.methodLink RX2 46 (⟨"java/lang/IndexOutOfBoundsException", "<init>", "(Ljava/lang/String;)V"⟩ : MethodName) ∈ WG := List.mem_filter.mpr ⟨wr_2 _ (List.mem_of_getElem? (i := 165) rfl), rfl⟩
theorem wi_IndexOutOfBoundsException__init__747 : Cond.instanceMethod (⟨"java/lang/IndexOutOfBoundsException", "<init>", "(Ljava/lang/String;)V"⟩ : MethodName) ∈ WG := List.mem_filter.mpr ⟨wr_2 _ (List.mem_of_getElem? (i := 166) rfl), rfl⟩
theorem wc_IndexOutOfBoundsException__init__747 : Cond.code (⟨"java/lang/IndexOutOfBoundsException", "<init>", "(Ljava/lang/String;)V"⟩ : MethodName) prog_10_method_2_code 2 none ∈ WG := List.mem_filter.mpr ⟨wr_2 _ (List.mem_of_getElem? (i := 167) rfl), rfl⟩
theorem wl_IndexOutOfBoundsException_7 : Cond.methodLink "java/lang/IndexOutOfBoundsException" 7 (⟨"java/lang/RuntimeException", "<init>", "(Ljava/lang/String;)V"⟩ : MethodName) ∈ WG := List.mem_filter.mpr ⟨wr_2 _ (List.mem_of_getElem? (i := 168) rfl), rfl⟩
theorem wi_RuntimeException__init__747 : Cond.instanceMethod (⟨"java/lang/RuntimeException", "<init>", "(Ljava/lang/String;)V"⟩ : MethodName) ∈ WG := List.mem_filter.mpr ⟨wr_2 _ (List.mem_of_getElem? (i := 169) rfl), rfl⟩
theorem wc_RuntimeException__init__747 : Cond.code (⟨"java/lang/RuntimeException", "<init>", "(Ljava/lang/String;)V"⟩ : MethodName) prog_13_method_2_code 2 none ∈ WG := List.mem_filter.mpr ⟨wr_2 _ (List.mem_of_getElem? (i := 170) rfl), rfl⟩
theorem wl_RuntimeException_7 : Cond.methodLink "java/lang/RuntimeException" 7 (⟨"java/lang/Exception", "<init>", "(Ljava/lang/String;)V"⟩ : MethodName) ∈ WG := List.mem_filter.mpr ⟨wr_2 _ (List.mem_of_getElem? (i := 171) rfl), rfl⟩
theorem wi_Exception__init__747 : Cond.instanceMethod (⟨"java/lang/Exception", "<init>", "(Ljava/lang/String;)V"⟩ : MethodName) ∈ WG := List.mem_filter.mpr ⟨wr_2 _ (List.mem_of_getElem? (i := 172) rfl), rfl⟩
theorem wc_Exception__init__747 : Cond.code (⟨"java/lang/Exception", "<init>", "(Ljava/lang/String;)V"⟩ : MethodName) prog_7_method_2_code 2 none ∈ WG := List.mem_filter.mpr ⟨wr_2 _ (List.mem_of_getElem? (i := 173) rfl), rfl⟩
theorem wl_Exception_7 : Cond.methodLink "java/lang/Exception" 7 (⟨"java/lang/Throwable", "<init>", "(Ljava/lang/String;)V"⟩ : MethodName) ∈ WG := List.mem_filter.mpr ⟨wr_2 _ (List.mem_of_getElem? (i := 174) rfl), rfl⟩
theorem wi_Throwable__init__747 : Cond.instanceMethod (⟨"java/lang/Throwable", "<init>", "(Ljava/lang/String;)V"⟩ : MethodName) ∈ WG := List.mem_filter.mpr ⟨wr_2 _ (List.mem_of_getElem? (i := 175) rfl), rfl⟩
theorem wc_Throwable__init__747 : Cond.code (⟨"java/lang/Throwable", "<init>", "(Ljava/lang/String;)V"⟩ : MethodName) prog_16_method_2_code 2 none ∈ WG := List.mem_filter.mpr ⟨wr_2 _ (List.mem_of_getElem? (i := 176) rfl), rfl⟩
theorem wf_Throwable_31 : Cond.fieldLink "java/lang/Throwable" 31 "java/lang/Throwable" "detailMessage" "Ljava/lang/String;" ∈ WG := List.mem_filter.mpr ⟨wr_2 _ (List.mem_of_getElem? (i := 178) rfl), rfl⟩
theorem wf_Throwable_7 : Cond.fieldLink "java/lang/Throwable" 7 "java/lang/Throwable" "cause" "Ljava/lang/Throwable;" ∈ WG := List.mem_filter.mpr ⟨wr_2 _ (List.mem_of_getElem? (i := 179) rfl), rfl⟩
theorem wf_Throwable_17 : Cond.fieldLink "java/lang/Throwable" 17 "java/lang/Throwable" "stackTrace" "[Ljava/lang/StackTraceElement;" ∈ WG := List.mem_filter.mpr ⟨wr_2 _ (List.mem_of_getElem? (i := 180) rfl), rfl⟩
theorem wf_Throwable_24 : Cond.fieldLink "java/lang/Throwable" 24 "java/lang/Throwable" "suppressedExceptions" "Ljava/util/List;" ∈ WG := List.mem_filter.mpr ⟨wr_2 _ (List.mem_of_getElem? (i := 181) rfl), rfl⟩
theorem wy_IndexOutOfBoundsException_depth : Cond.lays "java/lang/IndexOutOfBoundsException" "java/lang/Throwable" "depth" "I" ∈ WG := List.mem_filter.mpr ⟨wr_2 _ (List.mem_of_getElem? (i := 186) rfl), rfl⟩
theorem wa_byte : Cond.arrayClass Jvm.ClassFile.FieldType.byte ∈ WG := List.mem_filter.mpr ⟨wr_2 _ (List.mem_of_getElem? (i := 190) rfl), rfl⟩
theorem wk_X2_49 : Cond.classLink RX2 49 "java/lang/IllegalArgumentException" ∈ WG := List.mem_filter.mpr ⟨wr_2 _ (List.mem_of_getElem? (i := 192) rfl), rfl⟩
theorem wb_IllegalArgumentException : Cond.instantiable "java/lang/IllegalArgumentException" 6 ∈ WG := List.mem_filter.mpr ⟨wr_2 _ (List.mem_of_getElem? (i := 193) rfl), rfl⟩
theorem wy_IllegalArgumentException_cause : Cond.lays "java/lang/IllegalArgumentException" "java/lang/Throwable" "cause" "Ljava/lang/Throwable;" ∈ WG := List.mem_filter.mpr ⟨wr_2 _ (List.mem_of_getElem? (i := 196) rfl), rfl⟩
theorem wy_IllegalArgumentException_stackTrace : Cond.lays "java/lang/IllegalArgumentException" "java/lang/Throwable" "stackTrace" "[Ljava/lang/StackTraceElement;" ∈ WG := List.mem_filter.mpr ⟨wr_2 _ (List.mem_of_getElem? (i := 197) rfl), rfl⟩
theorem wy_IllegalArgumentException_suppressedExceptions : Cond.lays "java/lang/IllegalArgumentException" "java/lang/Throwable" "suppressedExceptions" "Ljava/util/List;" ∈ WG := List.mem_filter.mpr ⟨wr_2 _ (List.mem_of_getElem? (i := 198) rfl), rfl⟩
theorem wy_IllegalArgumentException_detailMessage : Cond.lays "java/lang/IllegalArgumentException" "java/lang/Throwable" "detailMessage" "Ljava/lang/String;" ∈ WG := List.mem_filter.mpr ⟨wr_2 _ (List.mem_of_getElem? (i := 199) rfl), rfl⟩
theorem wy_IllegalArgumentException_backtrace : Cond.lays "java/lang/IllegalArgumentException" "java/lang/Throwable" "backtrace" "Ljava/lang/Object;" ∈ WG := List.mem_filter.mpr ⟨wr_2 _ (List.mem_of_getElem? (i := 200) rfl), rfl⟩
theorem wl_X2_53 : Cond.methodLink RX2 53 (⟨"java/lang/IllegalArgumentException", "<init>", "(Ljava/lang/String;)V"⟩ : MethodName) ∈ WG := List.mem_filter.mpr ⟨wr_2 _ (List.mem_of_getElem? (i := 202) rfl), rfl⟩
theorem wi_IllegalArgumentException__init__747 : Cond.instanceMethod (⟨"java/lang/IllegalArgumentException", "<init>", "(Ljava/lang/String;)V"⟩ : MethodName) ∈ WG := List.mem_filter.mpr ⟨wr_2 _ (List.mem_of_getElem? (i := 203) rfl), rfl⟩
theorem wc_IllegalArgumentException__init__747 : Cond.code (⟨"java/lang/IllegalArgumentException", "<init>", "(Ljava/lang/String;)V"⟩ : MethodName) prog_8_method_2_code 2 none ∈ WG := List.mem_filter.mpr ⟨wr_2 _ (List.mem_of_getElem? (i := 204) rfl), rfl⟩
theorem wl_IllegalArgumentException_7 : Cond.methodLink "java/lang/IllegalArgumentException" 7 (⟨"java/lang/RuntimeException", "<init>", "(Ljava/lang/String;)V"⟩ : MethodName) ∈ WG := List.mem_filter.mpr ⟨wr_2 _ (List.mem_of_getElem? (i := 205) rfl), rfl⟩
theorem wy_IllegalArgumentException_depth : Cond.lays "java/lang/IllegalArgumentException" "java/lang/Throwable" "depth" "I" ∈ WG := List.mem_filter.mpr ⟨wr_2 _ (List.mem_of_getElem? (i := 206) rfl), rfl⟩
theorem wl_X2_54 : Cond.methodLink RX2 54 yX1_mayChangeKind ∈ WG := List.mem_filter.mpr ⟨wr_2 _ (List.mem_of_getElem? (i := 208) rfl), rfl⟩
theorem wi_X1_mayChangeKind : Cond.instanceMethod yX1_mayChangeKind ∈ WG := List.mem_filter.mpr ⟨wr_2 _ (List.mem_of_getElem? (i := 209) rfl), rfl⟩
theorem wv_X1_mayChangeKind : Cond.selects RX1 yX1_mayChangeKind yX1_mayChangeKind ∈ WG := List.mem_filter.mpr ⟨wr_2 _ (List.mem_of_getElem? (i := 210) rfl), rfl⟩
theorem wc_X1_mayChangeKind : Cond.code yX1_mayChangeKind cX1_mayChangeKind 2 (some .boolean) ∈ WG := List.mem_filter.mpr ⟨wr_2 _ (List.mem_of_getElem? (i := 211) rfl), rfl⟩
theorem wk_X2_58 : Cond.classLink RX2 58 "java/lang/IllegalStateException" ∈ WG := List.mem_filter.mpr ⟨wr_2 _ (List.mem_of_getElem? (i := 212) rfl), rfl⟩
theorem wb_IllegalStateException : Cond.instantiable "java/lang/IllegalStateException" 6 ∈ WG := List.mem_filter.mpr ⟨wr_2 _ (List.mem_of_getElem? (i := 213) rfl), rfl⟩
theorem wy_IllegalStateException_cause : Cond.lays "java/lang/IllegalStateException" "java/lang/Throwable" "cause" "Ljava/lang/Throwable;" ∈ WG := List.mem_filter.mpr ⟨wr_2 _ (List.mem_of_getElem? (i := 216) rfl), rfl⟩
theorem wy_IllegalStateException_stackTrace : Cond.lays "java/lang/IllegalStateException" "java/lang/Throwable" "stackTrace" "[Ljava/lang/StackTraceElement;" ∈ WG := List.mem_filter.mpr ⟨wr_2 _ (List.mem_of_getElem? (i := 217) rfl), rfl⟩
theorem wy_IllegalStateException_suppressedExceptions : Cond.lays "java/lang/IllegalStateException" "java/lang/Throwable" "suppressedExceptions" "Ljava/util/List;" ∈ WG := List.mem_filter.mpr ⟨wr_2 _ (List.mem_of_getElem? (i := 218) rfl), rfl⟩
theorem wy_IllegalStateException_detailMessage : Cond.lays "java/lang/IllegalStateException" "java/lang/Throwable" "detailMessage" "Ljava/lang/String;" ∈ WG := List.mem_filter.mpr ⟨wr_2 _ (List.mem_of_getElem? (i := 219) rfl), rfl⟩
theorem wy_IllegalStateException_backtrace : Cond.lays "java/lang/IllegalStateException" "java/lang/Throwable" "backtrace" "Ljava/lang/Object;" ∈ WG := List.mem_filter.mpr ⟨wr_2 _ (List.mem_of_getElem? (i := 220) rfl), rfl⟩
theorem wl_X2_62 : Cond.methodLink RX2 62 (⟨"java/lang/IllegalStateException", "<init>", "(Ljava/lang/String;)V"⟩ : MethodName) ∈ WG := List.mem_filter.mpr ⟨wr_2 _ (List.mem_of_getElem? (i := 222) rfl), rfl⟩
theorem wi_IllegalStateException__init__747 : Cond.instanceMethod (⟨"java/lang/IllegalStateException", "<init>", "(Ljava/lang/String;)V"⟩ : MethodName) ∈ WG := List.mem_filter.mpr ⟨wr_2 _ (List.mem_of_getElem? (i := 223) rfl), rfl⟩
theorem wc_IllegalStateException__init__747 : Cond.code (⟨"java/lang/IllegalStateException", "<init>", "(Ljava/lang/String;)V"⟩ : MethodName) prog_9_method_2_code 2 none ∈ WG := List.mem_filter.mpr ⟨wr_2 _ (List.mem_of_getElem? (i := 224) rfl), rfl⟩
theorem wl_IllegalStateException_7 : Cond.methodLink "java/lang/IllegalStateException" 7 (⟨"java/lang/RuntimeException", "<init>", "(Ljava/lang/String;)V"⟩ : MethodName) ∈ WG := List.mem_filter.mpr ⟨wr_2 _ (List.mem_of_getElem? (i := 225) rfl), rfl⟩
theorem wy_IllegalStateException_depth : Cond.lays "java/lang/IllegalStateException" "java/lang/Throwable" "depth" "I" ∈ WG := List.mem_filter.mpr ⟨wr_2 _ (List.mem_of_getElem? (i := 226) rfl), rfl⟩
theorem wl_X2_63 : Cond.methodLink RX2 63 yX2_save ∈ WG := List.mem_filter.mpr ⟨wr_2 _ (List.mem_of_getElem? (i := 228) rfl), rfl⟩
theorem wi_X2_save : Cond.instanceMethod yX2_save ∈ WG := List.mem_filter.mpr ⟨wr_2 _ (List.mem_of_getElem? (i := 230) rfl), rfl⟩
theorem wc_X2_save : Cond.code yX2_save cX2_save 1 none ∈ WG := List.mem_filter.mpr ⟨wr_2 _ (List.mem_of_getElem? (i := 231) rfl), rfl⟩
theorem wl_X2_221 : Cond.methodLink RX2 221 yX2_dropOldest ∈ WG := List.mem_filter.mpr ⟨wr_2 _ (List.mem_of_getElem? (i := 232) rfl), rfl⟩
theorem wi_X2_dropOldest : Cond.instanceMethod yX2_dropOldest ∈ WG := List.mem_filter.mpr ⟨wr_2 _ (List.mem_of_getElem? (i := 234) rfl), rfl⟩
theorem wc_X2_dropOldest : Cond.code yX2_dropOldest cX2_dropOldest 3 none ∈ WG := List.mem_filter.mpr ⟨wr_2 _ (List.mem_of_getElem? (i := 235) rfl), rfl⟩
theorem wl_X2_144 : Cond.methodLink RX2 144 yX1_copyFrom ∈ WG := List.mem_filter.mpr ⟨wr_2 _ (List.mem_of_getElem? (i := 236) rfl), rfl⟩
theorem wi_X1_copyFrom : Cond.instanceMethod yX1_copyFrom ∈ WG := List.mem_filter.mpr ⟨wr_2 _ (List.mem_of_getElem? (i := 237) rfl), rfl⟩
theorem wv_X1_copyFrom : Cond.selects RX1 yX1_copyFrom yX1_copyFrom ∈ WG := List.mem_filter.mpr ⟨wr_2 _ (List.mem_of_getElem? (i := 238) rfl), rfl⟩
theorem wc_X1_copyFrom : Cond.code yX1_copyFrom cX1_copyFrom 2 none ∈ WG := List.mem_filter.mpr ⟨wr_2 _ (List.mem_of_getElem? (i := 239) rfl), rfl⟩
theorem wl_X1_52 : Cond.methodLink RX1 52 (⟨"java/lang/System", "arraycopy", "(Ljava/lang/Object;ILjava/lang/Object;II)V"⟩ : MethodName) ∈ WG := List.mem_filter.mpr ⟨wr_3 _ (List.mem_of_getElem? (i := 0) rfl), rfl⟩
theorem wt_System_arraycopy_e82 : Cond.static (⟨"java/lang/System", "arraycopy", "(Ljava/lang/Object;ILjava/lang/Object;II)V"⟩ : MethodName) ∈ WG := List.mem_filter.mpr ⟨wr_3 _ (List.mem_of_getElem? (i := 1) rfl), rfl⟩
theorem wl_X2_66 : Cond.methodLink RX2 66 yX1_changeKind ∈ WG := List.mem_filter.mpr ⟨wr_3 _ (List.mem_of_getElem? (i := 3) rfl), rfl⟩
theorem wi_X1_changeKind : Cond.instanceMethod yX1_changeKind ∈ WG := List.mem_filter.mpr ⟨wr_3 _ (List.mem_of_getElem? (i := 4) rfl), rfl⟩
theorem wv_X1_changeKind : Cond.selects RX1 yX1_changeKind yX1_changeKind ∈ WG := List.mem_filter.mpr ⟨wr_3 _ (List.mem_of_getElem? (i := 5) rfl), rfl⟩
theorem wc_X1_changeKind : Cond.code yX1_changeKind cX1_changeKind 4 (some .int) ∈ WG := List.mem_filter.mpr ⟨wr_3 _ (List.mem_of_getElem? (i := 6) rfl), rfl⟩
theorem wl_L_96 : Cond.methodLink RL 96 yL_pass ∈ WG := List.mem_filter.mpr ⟨wr_3 _ (List.mem_of_getElem? (i := 7) rfl), rfl⟩
theorem wt_L_pass : Cond.static yL_pass ∈ WG := List.mem_filter.mpr ⟨wr_3 _ (List.mem_of_getElem? (i := 8) rfl), rfl⟩
theorem wl_L_19 : Cond.methodLink RL 19 yX2_pass ∈ WG := List.mem_filter.mpr ⟨wr_3 _ (List.mem_of_getElem? (i := 10) rfl), rfl⟩
theorem wi_X2_pass : Cond.instanceMethod yX2_pass ∈ WG := List.mem_filter.mpr ⟨wr_3 _ (List.mem_of_getElem? (i := 11) rfl), rfl⟩
theorem wv_X2_pass : Cond.selects RX2 yX2_pass yX2_pass ∈ WG := List.mem_filter.mpr ⟨wr_3 _ (List.mem_of_getElem? (i := 12) rfl), rfl⟩
theorem wc_X2_pass : Cond.code yX2_pass cX2_pass 3 (some .int) ∈ WG := List.mem_filter.mpr ⟨wr_3 _ (List.mem_of_getElem? (i := 13) rfl), rfl⟩
theorem wl_X2_77 : Cond.methodLink RX2 77 yX1_lastingReservations ∈ WG := List.mem_filter.mpr ⟨wr_3 _ (List.mem_of_getElem? (i := 16) rfl), rfl⟩
theorem wl_L_100 : Cond.methodLink RL 100 yL_setParish ∈ WG := List.mem_filter.mpr ⟨wr_3 _ (List.mem_of_getElem? (i := 17) rfl), rfl⟩
theorem wt_L_setParish : Cond.static yL_setParish ∈ WG := List.mem_filter.mpr ⟨wr_3 _ (List.mem_of_getElem? (i := 18) rfl), rfl⟩
theorem wl_L_23 : Cond.methodLink RL 23 yX2_setParish ∈ WG := List.mem_filter.mpr ⟨wr_3 _ (List.mem_of_getElem? (i := 20) rfl), rfl⟩
theorem wi_X2_setParish : Cond.instanceMethod yX2_setParish ∈ WG := List.mem_filter.mpr ⟨wr_3 _ (List.mem_of_getElem? (i := 21) rfl), rfl⟩
theorem wv_X2_setParish : Cond.selects RX2 yX2_setParish yX2_setParish ∈ WG := List.mem_filter.mpr ⟨wr_3 _ (List.mem_of_getElem? (i := 22) rfl), rfl⟩
theorem wc_X2_setParish : Cond.code yX2_setParish cX2_setParish 4 (some .int) ∈ WG := List.mem_filter.mpr ⟨wr_3 _ (List.mem_of_getElem? (i := 23) rfl), rfl⟩
theorem wl_X2_81 : Cond.methodLink RX2 81 yX2_needFamily ∈ WG := List.mem_filter.mpr ⟨wr_3 _ (List.mem_of_getElem? (i := 24) rfl), rfl⟩
theorem wt_X2_needFamily : Cond.static yX2_needFamily ∈ WG := List.mem_filter.mpr ⟨wr_3 _ (List.mem_of_getElem? (i := 25) rfl), rfl⟩
theorem wc_X2_needFamily : Cond.code yX2_needFamily cX2_needFamily 1 none ∈ WG := List.mem_filter.mpr ⟨wr_3 _ (List.mem_of_getElem? (i := 26) rfl), rfl⟩
theorem wl_L_104 : Cond.methodLink RL 104 yL_bury ∈ WG := List.mem_filter.mpr ⟨wr_3 _ (List.mem_of_getElem? (i := 28) rfl), rfl⟩
theorem wt_L_bury : Cond.static yL_bury ∈ WG := List.mem_filter.mpr ⟨wr_3 _ (List.mem_of_getElem? (i := 29) rfl), rfl⟩
theorem wl_L_27 : Cond.methodLink RL 27 yX2_bury ∈ WG := List.mem_filter.mpr ⟨wr_3 _ (List.mem_of_getElem? (i := 31) rfl), rfl⟩
theorem wi_X2_bury : Cond.instanceMethod yX2_bury ∈ WG := List.mem_filter.mpr ⟨wr_3 _ (List.mem_of_getElem? (i := 32) rfl), rfl⟩
theorem wv_X2_bury : Cond.selects RX2 yX2_bury yX2_bury ∈ WG := List.mem_filter.mpr ⟨wr_3 _ (List.mem_of_getElem? (i := 33) rfl), rfl⟩
theorem wc_X2_bury : Cond.code yX2_bury cX2_bury 4 (some .int) ∈ WG := List.mem_filter.mpr ⟨wr_3 _ (List.mem_of_getElem? (i := 34) rfl), rfl⟩
theorem wl_X2_87 : Cond.methodLink RX2 87 yX2_needDepth ∈ WG := List.mem_filter.mpr ⟨wr_3 _ (List.mem_of_getElem? (i := 35) rfl), rfl⟩
theorem wt_X2_needDepth : Cond.static yX2_needDepth ∈ WG := List.mem_filter.mpr ⟨wr_3 _ (List.mem_of_getElem? (i := 36) rfl), rfl⟩
theorem wc_X2_needDepth : Cond.code yX2_needDepth cX2_needDepth 1 none ∈ WG := List.mem_filter.mpr ⟨wr_3 _ (List.mem_of_getElem? (i := 37) rfl), rfl⟩
theorem wl_X2_155 : Cond.methodLink RX2 155 yX2_isDepth ∈ WG := List.mem_filter.mpr ⟨wr_3 _ (List.mem_of_getElem? (i := 38) rfl), rfl⟩
theorem wt_X2_isDepth : Cond.static yX2_isDepth ∈ WG := List.mem_filter.mpr ⟨wr_3 _ (List.mem_of_getElem? (i := 39) rfl), rfl⟩
theorem wc_X2_isDepth : Cond.code yX2_isDepth cX2_isDepth 1 (some .boolean) ∈ WG := List.mem_filter.mpr ⟨wr_3 _ (List.mem_of_getElem? (i := 40) rfl), rfl⟩
theorem wl_X2_90 : Cond.methodLink RX2 90 yX1_refusal ∈ WG := List.mem_filter.mpr ⟨wr_3 _ (List.mem_of_getElem? (i := 42) rfl), rfl⟩
theorem wl_X2_96 : Cond.methodLink RX2 96 yX1_addBurial ∈ WG := List.mem_filter.mpr ⟨wr_3 _ (List.mem_of_getElem? (i := 44) rfl), rfl⟩
theorem wi_X1_addBurial : Cond.instanceMethod yX1_addBurial ∈ WG := List.mem_filter.mpr ⟨wr_3 _ (List.mem_of_getElem? (i := 45) rfl), rfl⟩
theorem wv_X1_addBurial : Cond.selects RX1 yX1_addBurial yX1_addBurial ∈ WG := List.mem_filter.mpr ⟨wr_3 _ (List.mem_of_getElem? (i := 46) rfl), rfl⟩
theorem wc_X1_addBurial : Cond.code yX1_addBurial cX1_addBurial 6 (some .int) ∈ WG := List.mem_filter.mpr ⟨wr_3 _ (List.mem_of_getElem? (i := 47) rfl), rfl⟩
theorem wl_X1_70 : Cond.methodLink RX1 70 yX1_reachedWithout ∈ WG := List.mem_filter.mpr ⟨wr_3 _ (List.mem_of_getElem? (i := 48) rfl), rfl⟩
theorem wi_X1_reachedWithout : Cond.instanceMethod yX1_reachedWithout ∈ WG := List.mem_filter.mpr ⟨wr_3 _ (List.mem_of_getElem? (i := 50) rfl), rfl⟩
theorem wc_X1_reachedWithout : Cond.code yX1_reachedWithout cX1_reachedWithout 8 (some .long) ∈ WG := List.mem_filter.mpr ⟨wr_3 _ (List.mem_of_getElem? (i := 51) rfl), rfl⟩
theorem wl_X1_128 : Cond.methodLink RX1 128 yX1_neighboursOf ∈ WG := List.mem_filter.mpr ⟨wr_3 _ (List.mem_of_getElem? (i := 52) rfl), rfl⟩
theorem wt_X1_neighboursOf : Cond.static yX1_neighboursOf ∈ WG := List.mem_filter.mpr ⟨wr_3 _ (List.mem_of_getElem? (i := 53) rfl), rfl⟩
theorem wc_X1_neighboursOf : Cond.code yX1_neighboursOf cX1_neighboursOf 6 (some .long) ∈ WG := List.mem_filter.mpr ⟨wr_3 _ (List.mem_of_getElem? (i := 54) rfl), rfl⟩
theorem wq_X1_118 : Cond.constantLong RX1 118 (-551911719041) ∈ WG := List.mem_filter.mpr ⟨wr_3 _ (List.mem_of_getElem? (i := 55) rfl), rfl⟩
theorem wq_X1_120 : Cond.constantLong RX1 120 (-4311810306) ∈ WG := List.mem_filter.mpr ⟨wr_3 _ (List.mem_of_getElem? (i := 56) rfl), rfl⟩
theorem wl_L_108 : Cond.methodLink RL 108 yL_reserve ∈ WG := List.mem_filter.mpr ⟨wr_3 _ (List.mem_of_getElem? (i := 57) rfl), rfl⟩
theorem wt_L_reserve : Cond.static yL_reserve ∈ WG := List.mem_filter.mpr ⟨wr_3 _ (List.mem_of_getElem? (i := 58) rfl), rfl⟩
theorem wl_L_31 : Cond.methodLink RL 31 yX2_reserve ∈ WG := List.mem_filter.mpr ⟨wr_3 _ (List.mem_of_getElem? (i := 60) rfl), rfl⟩
theorem wi_X2_reserve : Cond.instanceMethod yX2_reserve ∈ WG := List.mem_filter.mpr ⟨wr_3 _ (List.mem_of_getElem? (i := 61) rfl), rfl⟩
theorem wv_X2_reserve : Cond.selects RX2 yX2_reserve yX2_reserve ∈ WG := List.mem_filter.mpr ⟨wr_3 _ (List.mem_of_getElem? (i := 62) rfl), rfl⟩
theorem wc_X2_reserve : Cond.code yX2_reserve cX2_reserve 4 (some .int) ∈ WG := List.mem_filter.mpr ⟨wr_3 _ (List.mem_of_getElem? (i := 63) rfl), rfl⟩
theorem wl_X2_100 : Cond.methodLink RX2 100 yX1_mayReserve ∈ WG := List.mem_filter.mpr ⟨wr_3 _ (List.mem_of_getElem? (i := 64) rfl), rfl⟩
theorem wi_X1_mayReserve : Cond.instanceMethod yX1_mayReserve ∈ WG := List.mem_filter.mpr ⟨wr_3 _ (List.mem_of_getElem? (i := 65) rfl), rfl⟩
theorem wv_X1_mayReserve : Cond.selects RX1 yX1_mayReserve yX1_mayReserve ∈ WG := List.mem_filter.mpr ⟨wr_3 _ (List.mem_of_getElem? (i := 66) rfl), rfl⟩
theorem wc_X1_mayReserve : Cond.code yX1_mayReserve cX1_mayReserve 3 (some .boolean) ∈ WG := List.mem_filter.mpr ⟨wr_3 _ (List.mem_of_getElem? (i := 67) rfl), rfl⟩
theorem wl_X2_106 : Cond.methodLink RX2 106 yX1_addReservation ∈ WG := List.mem_filter.mpr ⟨wr_3 _ (List.mem_of_getElem? (i := 69) rfl), rfl⟩
theorem wi_X1_addReservation : Cond.instanceMethod yX1_addReservation ∈ WG := List.mem_filter.mpr ⟨wr_3 _ (List.mem_of_getElem? (i := 70) rfl), rfl⟩
theorem wv_X1_addReservation : Cond.selects RX1 yX1_addReservation yX1_addReservation ∈ WG := List.mem_filter.mpr ⟨wr_3 _ (List.mem_of_getElem? (i := 71) rfl), rfl⟩
theorem wc_X1_addReservation : Cond.code yX1_addReservation cX1_addReservation 5 (some .int) ∈ WG := List.mem_filter.mpr ⟨wr_3 _ (List.mem_of_getElem? (i := 72) rfl), rfl⟩
theorem wl_X1_84 : Cond.methodLink RX1 84 yX1_charge ∈ WG := List.mem_filter.mpr ⟨wr_3 _ (List.mem_of_getElem? (i := 73) rfl), rfl⟩
theorem wi_X1_charge : Cond.instanceMethod yX1_charge ∈ WG := List.mem_filter.mpr ⟨wr_3 _ (List.mem_of_getElem? (i := 75) rfl), rfl⟩
theorem wc_X1_charge : Cond.code yX1_charge cX1_charge 4 (some .int) ∈ WG := List.mem_filter.mpr ⟨wr_3 _ (List.mem_of_getElem? (i := 76) rfl), rfl⟩
theorem wl_L_111 : Cond.methodLink RL 111 yL_buildVault ∈ WG := List.mem_filter.mpr ⟨wr_3 _ (List.mem_of_getElem? (i := 77) rfl), rfl⟩
theorem wt_L_buildVault : Cond.static yL_buildVault ∈ WG := List.mem_filter.mpr ⟨wr_3 _ (List.mem_of_getElem? (i := 78) rfl), rfl⟩
theorem wl_L_34 : Cond.methodLink RL 34 yX2_buildVault ∈ WG := List.mem_filter.mpr ⟨wr_3 _ (List.mem_of_getElem? (i := 80) rfl), rfl⟩
theorem wi_X2_buildVault : Cond.instanceMethod yX2_buildVault ∈ WG := List.mem_filter.mpr ⟨wr_3 _ (List.mem_of_getElem? (i := 81) rfl), rfl⟩
theorem wv_X2_buildVault : Cond.selects RX2 yX2_buildVault yX2_buildVault ∈ WG := List.mem_filter.mpr ⟨wr_3 _ (List.mem_of_getElem? (i := 82) rfl), rfl⟩
theorem wc_X2_buildVault : Cond.code yX2_buildVault cX2_buildVault 3 (some .int) ∈ WG := List.mem_filter.mpr ⟨wr_3 _ (List.mem_of_getElem? (i := 83) rfl), rfl⟩
theorem wl_X2_109 : Cond.methodLink RX2 109 yX1_mayBuildVault ∈ WG := List.mem_filter.mpr ⟨wr_3 _ (List.mem_of_getElem? (i := 84) rfl), rfl⟩
theorem wi_X1_mayBuildVault : Cond.instanceMethod yX1_mayBuildVault ∈ WG := List.mem_filter.mpr ⟨wr_3 _ (List.mem_of_getElem? (i := 85) rfl), rfl⟩
theorem wv_X1_mayBuildVault : Cond.selects RX1 yX1_mayBuildVault yX1_mayBuildVault ∈ WG := List.mem_filter.mpr ⟨wr_3 _ (List.mem_of_getElem? (i := 86) rfl), rfl⟩
theorem wc_X1_mayBuildVault : Cond.code yX1_mayBuildVault cX1_mayBuildVault 3 (some .boolean) ∈ WG := List.mem_filter.mpr ⟨wr_3 _ (List.mem_of_getElem? (i := 87) rfl), rfl⟩
theorem wl_X2_114 : Cond.methodLink RX2 114 yX1_addVault ∈ WG := List.mem_filter.mpr ⟨wr_3 _ (List.mem_of_getElem? (i := 89) rfl), rfl⟩
theorem wi_X1_addVault : Cond.instanceMethod yX1_addVault ∈ WG := List.mem_filter.mpr ⟨wr_3 _ (List.mem_of_getElem? (i := 90) rfl), rfl⟩
theorem wv_X1_addVault : Cond.selects RX1 yX1_addVault yX1_addVault ∈ WG := List.mem_filter.mpr ⟨wr_3 _ (List.mem_of_getElem? (i := 91) rfl), rfl⟩
theorem wc_X1_addVault : Cond.code yX1_addVault cX1_addVault 3 (some .int) ∈ WG := List.mem_filter.mpr ⟨wr_3 _ (List.mem_of_getElem? (i := 92) rfl), rfl⟩
theorem wl_L_114 : Cond.methodLink RL 114 yL_clear ∈ WG := List.mem_filter.mpr ⟨wr_3 _ (List.mem_of_getElem? (i := 93) rfl), rfl⟩
theorem wt_L_clear : Cond.static yL_clear ∈ WG := List.mem_filter.mpr ⟨wr_3 _ (List.mem_of_getElem? (i := 94) rfl), rfl⟩
theorem wl_L_37 : Cond.methodLink RL 37 yX2_clear ∈ WG := List.mem_filter.mpr ⟨wr_3 _ (List.mem_of_getElem? (i := 96) rfl), rfl⟩
theorem wi_X2_clear : Cond.instanceMethod yX2_clear ∈ WG := List.mem_filter.mpr ⟨wr_3 _ (List.mem_of_getElem? (i := 97) rfl), rfl⟩
theorem wv_X2_clear : Cond.selects RX2 yX2_clear yX2_clear ∈ WG := List.mem_filter.mpr ⟨wr_3 _ (List.mem_of_getElem? (i := 98) rfl), rfl⟩
theorem wc_X2_clear : Cond.code yX2_clear cX2_clear 2 (some .int) ∈ WG := List.mem_filter.mpr ⟨wr_3 _ (List.mem_of_getElem? (i := 99) rfl), rfl⟩
theorem wl_X2_117 : Cond.methodLink RX2 117 yX1_restingBurials ∈ WG := List.mem_filter.mpr ⟨wr_3 _ (List.mem_of_getElem? (i := 100) rfl), rfl⟩
theorem wl_X2_123 : Cond.methodLink RX2 123 yX1_removeBurials ∈ WG := List.mem_filter.mpr ⟨wr_3 _ (List.mem_of_getElem? (i := 102) rfl), rfl⟩
theorem wi_X1_removeBurials : Cond.instanceMethod yX1_removeBurials ∈ WG := List.mem_filter.mpr ⟨wr_3 _ (List.mem_of_getElem? (i := 103) rfl), rfl⟩
theorem wv_X1_removeBurials : Cond.selects RX1 yX1_removeBurials yX1_removeBurials ∈ WG := List.mem_filter.mpr ⟨wr_3 _ (List.mem_of_getElem? (i := 104) rfl), rfl⟩
theorem wc_X1_removeBurials : Cond.code yX1_removeBurials cX1_removeBurials 5 (some .int) ∈ WG := List.mem_filter.mpr ⟨wr_3 _ (List.mem_of_getElem? (i := 105) rfl), rfl⟩
theorem wl_L_117 : Cond.methodLink RL 117 yL_append ∈ WG := List.mem_filter.mpr ⟨wr_3 _ (List.mem_of_getElem? (i := 106) rfl), rfl⟩
theorem wt_L_append : Cond.static yL_append ∈ WG := List.mem_filter.mpr ⟨wr_3 _ (List.mem_of_getElem? (i := 107) rfl), rfl⟩
theorem wl_L_40 : Cond.methodLink RL 40 yX2_append ∈ WG := List.mem_filter.mpr ⟨wr_3 _ (List.mem_of_getElem? (i := 109) rfl), rfl⟩
theorem wi_X2_append : Cond.instanceMethod yX2_append ∈ WG := List.mem_filter.mpr ⟨wr_3 _ (List.mem_of_getElem? (i := 110) rfl), rfl⟩
theorem wv_X2_append : Cond.selects RX2 yX2_append yX2_append ∈ WG := List.mem_filter.mpr ⟨wr_3 _ (List.mem_of_getElem? (i := 111) rfl), rfl⟩
theorem wc_X2_append : Cond.code yX2_append cX2_append 2 (some .int) ∈ WG := List.mem_filter.mpr ⟨wr_3 _ (List.mem_of_getElem? (i := 112) rfl), rfl⟩
theorem wl_L_128 : Cond.methodLink RL 128 yL_load ∈ WG := List.mem_filter.mpr ⟨wr_3 _ (List.mem_of_getElem? (i := 115) rfl), rfl⟩
theorem wt_L_load : Cond.static yL_load ∈ WG := List.mem_filter.mpr ⟨wr_3 _ (List.mem_of_getElem? (i := 116) rfl), rfl⟩
theorem wl_L_43 : Cond.methodLink RL 43 yX2_load ∈ WG := List.mem_filter.mpr ⟨wr_3 _ (List.mem_of_getElem? (i := 118) rfl), rfl⟩
theorem wi_X2_load : Cond.instanceMethod yX2_load ∈ WG := List.mem_filter.mpr ⟨wr_3 _ (List.mem_of_getElem? (i := 119) rfl), rfl⟩
theorem wv_X2_load : Cond.selects RX2 yX2_load yX2_load ∈ WG := List.mem_filter.mpr ⟨wr_3 _ (List.mem_of_getElem? (i := 120) rfl), rfl⟩
theorem wc_X2_load : Cond.code yX2_load cX2_load 2 (some .int) ∈ WG := List.mem_filter.mpr ⟨wr_3 _ (List.mem_of_getElem? (i := 121) rfl), rfl⟩
theorem wl_X2_133 : Cond.methodLink RX2 133 yX0_isComplete ∈ WG := List.mem_filter.mpr ⟨wr_3 _ (List.mem_of_getElem? (i := 122) rfl), rfl⟩
theorem wi_X0_isComplete : Cond.instanceMethod yX0_isComplete ∈ WG := List.mem_filter.mpr ⟨wr_3 _ (List.mem_of_getElem? (i := 123) rfl), rfl⟩
theorem wv_X0_isComplete : Cond.selects RX0 yX0_isComplete yX0_isComplete ∈ WG := List.mem_filter.mpr ⟨wr_3 _ (List.mem_of_getElem? (i := 124) rfl), rfl⟩
theorem wc_X0_isComplete : Cond.code yX0_isComplete cX0_isComplete 1 (some .boolean) ∈ WG := List.mem_filter.mpr ⟨wr_3 _ (List.mem_of_getElem? (i := 125) rfl), rfl⟩
theorem wl_X2_139 : Cond.methodLink RX2 139 yX2_carryOutEntries ∈ WG := List.mem_filter.mpr ⟨wr_3 _ (List.mem_of_getElem? (i := 127) rfl), rfl⟩
theorem wi_X2_carryOutEntries : Cond.instanceMethod yX2_carryOutEntries ∈ WG := List.mem_filter.mpr ⟨wr_3 _ (List.mem_of_getElem? (i := 129) rfl), rfl⟩
theorem wc_X2_carryOutEntries : Cond.code yX2_carryOutEntries cX2_carryOutEntries 3 (some .int) ∈ WG := List.mem_filter.mpr ⟨wr_3 _ (List.mem_of_getElem? (i := 130) rfl), rfl⟩
theorem wl_X2_230 : Cond.methodLink RX2 230 yX2_carryOutEntry ∈ WG := List.mem_filter.mpr ⟨wr_3 _ (List.mem_of_getElem? (i := 131) rfl), rfl⟩
theorem wi_X2_carryOutEntry : Cond.instanceMethod yX2_carryOutEntry ∈ WG := List.mem_filter.mpr ⟨wr_3 _ (List.mem_of_getElem? (i := 133) rfl), rfl⟩
theorem wc_X2_carryOutEntry : Cond.code yX2_carryOutEntry cX2_carryOutEntry 1 (some .boolean) ∈ WG := List.mem_filter.mpr ⟨wr_3 _ (List.mem_of_getElem? (i := 134) rfl), rfl⟩
theorem wl_L_132 : Cond.methodLink RL 132 yL_undo ∈ WG := List.mem_filter.mpr ⟨wr_3 _ (List.mem_of_getElem? (i := 135) rfl), rfl⟩
theorem wt_L_undo : Cond.static yL_undo ∈ WG := List.mem_filter.mpr ⟨wr_3 _ (List.mem_of_getElem? (i := 136) rfl), rfl⟩
theorem wl_L_47 : Cond.methodLink RL 47 yX2_undo ∈ WG := List.mem_filter.mpr ⟨wr_3 _ (List.mem_of_getElem? (i := 138) rfl), rfl⟩
theorem wi_X2_undo : Cond.instanceMethod yX2_undo ∈ WG := List.mem_filter.mpr ⟨wr_3 _ (List.mem_of_getElem? (i := 139) rfl), rfl⟩
theorem wv_X2_undo : Cond.selects RX2 yX2_undo yX2_undo ∈ WG := List.mem_filter.mpr ⟨wr_3 _ (List.mem_of_getElem? (i := 140) rfl), rfl⟩
theorem wc_X2_undo : Cond.code yX2_undo cX2_undo 1 (some .int) ∈ WG := List.mem_filter.mpr ⟨wr_3 _ (List.mem_of_getElem? (i := 141) rfl), rfl⟩
theorem wl_L_135 : Cond.methodLink RL 135 yL_plot ∈ WG := List.mem_filter.mpr ⟨wr_3 _ (List.mem_of_getElem? (i := 143) rfl), rfl⟩
theorem wt_L_plot : Cond.static yL_plot ∈ WG := List.mem_filter.mpr ⟨wr_3 _ (List.mem_of_getElem? (i := 144) rfl), rfl⟩
theorem wl_L_50 : Cond.methodLink RL 50 yX2_plot ∈ WG := List.mem_filter.mpr ⟨wr_3 _ (List.mem_of_getElem? (i := 146) rfl), rfl⟩
theorem wi_X2_plot : Cond.instanceMethod yX2_plot ∈ WG := List.mem_filter.mpr ⟨wr_3 _ (List.mem_of_getElem? (i := 147) rfl), rfl⟩
theorem wv_X2_plot : Cond.selects RX2 yX2_plot yX2_plot ∈ WG := List.mem_filter.mpr ⟨wr_3 _ (List.mem_of_getElem? (i := 148) rfl), rfl⟩
theorem wc_X2_plot : Cond.code yX2_plot cX2_plot 3 (some .int) ∈ WG := List.mem_filter.mpr ⟨wr_3 _ (List.mem_of_getElem? (i := 149) rfl), rfl⟩
theorem wl_X2_148 : Cond.methodLink RX2 148 yX2_needProperty ∈ WG := List.mem_filter.mpr ⟨wr_3 _ (List.mem_of_getElem? (i := 150) rfl), rfl⟩
theorem wt_X2_needProperty : Cond.static yX2_needProperty ∈ WG := List.mem_filter.mpr ⟨wr_3 _ (List.mem_of_getElem? (i := 151) rfl), rfl⟩
theorem wc_X2_needProperty : Cond.code yX2_needProperty cX2_needProperty 2 none ∈ WG := List.mem_filter.mpr ⟨wr_3 _ (List.mem_of_getElem? (i := 152) rfl), rfl⟩
theorem wl_L_138 : Cond.methodLink RL 138 yL_burial ∈ WG := List.mem_filter.mpr ⟨wr_3 _ (List.mem_of_getElem? (i := 154) rfl), rfl⟩
theorem wt_L_burial : Cond.static yL_burial ∈ WG := List.mem_filter.mpr ⟨wr_3 _ (List.mem_of_getElem? (i := 155) rfl), rfl⟩
theorem wl_L_53 : Cond.methodLink RL 53 yX2_burial ∈ WG := List.mem_filter.mpr ⟨wr_3 _ (List.mem_of_getElem? (i := 157) rfl), rfl⟩
theorem wi_X2_burial : Cond.instanceMethod yX2_burial ∈ WG := List.mem_filter.mpr ⟨wr_3 _ (List.mem_of_getElem? (i := 158) rfl), rfl⟩
theorem wv_X2_burial : Cond.selects RX2 yX2_burial yX2_burial ∈ WG := List.mem_filter.mpr ⟨wr_3 _ (List.mem_of_getElem? (i := 159) rfl), rfl⟩
theorem wc_X2_burial : Cond.code yX2_burial cX2_burial 4 (some .int) ∈ WG := List.mem_filter.mpr ⟨wr_3 _ (List.mem_of_getElem? (i := 160) rfl), rfl⟩
theorem wl_L_141 : Cond.methodLink RL 141 yL_family ∈ WG := List.mem_filter.mpr ⟨wr_3 _ (List.mem_of_getElem? (i := 162) rfl), rfl⟩
theorem wt_L_family : Cond.static yL_family ∈ WG := List.mem_filter.mpr ⟨wr_3 _ (List.mem_of_getElem? (i := 163) rfl), rfl⟩
theorem wl_L_56 : Cond.methodLink RL 56 yX2_family ∈ WG := List.mem_filter.mpr ⟨wr_3 _ (List.mem_of_getElem? (i := 165) rfl), rfl⟩
theorem wi_X2_family : Cond.instanceMethod yX2_family ∈ WG := List.mem_filter.mpr ⟨wr_3 _ (List.mem_of_getElem? (i := 166) rfl), rfl⟩
theorem wv_X2_family : Cond.selects RX2 yX2_family yX2_family ∈ WG := List.mem_filter.mpr ⟨wr_3 _ (List.mem_of_getElem? (i := 167) rfl), rfl⟩
theorem wc_X2_family : Cond.code yX2_family cX2_family 3 (some .int) ∈ WG := List.mem_filter.mpr ⟨wr_3 _ (List.mem_of_getElem? (i := 168) rfl), rfl⟩
theorem wl_L_144 : Cond.methodLink RL 144 yL_count ∈ WG := List.mem_filter.mpr ⟨wr_3 _ (List.mem_of_getElem? (i := 169) rfl), rfl⟩
theorem wt_L_count : Cond.static yL_count ∈ WG := List.mem_filter.mpr ⟨wr_3 _ (List.mem_of_getElem? (i := 170) rfl), rfl⟩
theorem wl_L_59 : Cond.methodLink RL 59 yX2_count ∈ WG := List.mem_filter.mpr ⟨wr_3 _ (List.mem_of_getElem? (i := 172) rfl), rfl⟩
theorem wi_X2_count : Cond.instanceMethod yX2_count ∈ WG := List.mem_filter.mpr ⟨wr_3 _ (List.mem_of_getElem? (i := 173) rfl), rfl⟩
theorem wv_X2_count : Cond.selects RX2 yX2_count yX2_count ∈ WG := List.mem_filter.mpr ⟨wr_3 _ (List.mem_of_getElem? (i := 174) rfl), rfl⟩
theorem wc_X2_count : Cond.code yX2_count cX2_count 2 (some .int) ∈ WG := List.mem_filter.mpr ⟨wr_3 _ (List.mem_of_getElem? (i := 175) rfl), rfl⟩
theorem wl_L_147 : Cond.methodLink RL 147 yL_why ∈ WG := List.mem_filter.mpr ⟨wr_3 _ (List.mem_of_getElem? (i := 176) rfl), rfl⟩
theorem wt_L_why : Cond.static yL_why ∈ WG := List.mem_filter.mpr ⟨wr_3 _ (List.mem_of_getElem? (i := 177) rfl), rfl⟩
theorem wl_L_62 : Cond.methodLink RL 62 yX2_why ∈ WG := List.mem_filter.mpr ⟨wr_3 _ (List.mem_of_getElem? (i := 179) rfl), rfl⟩
theorem wi_X2_why : Cond.instanceMethod yX2_why ∈ WG := List.mem_filter.mpr ⟨wr_3 _ (List.mem_of_getElem? (i := 180) rfl), rfl⟩
theorem wv_X2_why : Cond.selects RX2 yX2_why yX2_why ∈ WG := List.mem_filter.mpr ⟨wr_3 _ (List.mem_of_getElem? (i := 181) rfl), rfl⟩
theorem wc_X2_why : Cond.code yX2_why cX2_why 4 (some .int) ∈ WG := List.mem_filter.mpr ⟨wr_3 _ (List.mem_of_getElem? (i := 182) rfl), rfl⟩
theorem wl_L_150 : Cond.methodLink RL 150 yL_fee ∈ WG := List.mem_filter.mpr ⟨wr_3 _ (List.mem_of_getElem? (i := 183) rfl), rfl⟩
theorem wt_L_fee : Cond.static yL_fee ∈ WG := List.mem_filter.mpr ⟨wr_3 _ (List.mem_of_getElem? (i := 184) rfl), rfl⟩
theorem wl_L_65 : Cond.methodLink RL 65 yX2_fee ∈ WG := List.mem_filter.mpr ⟨wr_3 _ (List.mem_of_getElem? (i := 186) rfl), rfl⟩
theorem wi_X2_fee : Cond.instanceMethod yX2_fee ∈ WG := List.mem_filter.mpr ⟨wr_3 _ (List.mem_of_getElem? (i := 187) rfl), rfl⟩
theorem wv_X2_fee : Cond.selects RX2 yX2_fee yX2_fee ∈ WG := List.mem_filter.mpr ⟨wr_3 _ (List.mem_of_getElem? (i := 188) rfl), rfl⟩
theorem wc_X2_fee : Cond.code yX2_fee cX2_fee 4 (some .int) ∈ WG := List.mem_filter.mpr ⟨wr_3 _ (List.mem_of_getElem? (i := 189) rfl), rfl⟩
theorem wl_X2_169 : Cond.methodLink RX2 169 yX1_burialFee ∈ WG := List.mem_filter.mpr ⟨wr_3 _ (List.mem_of_getElem? (i := 190) rfl), rfl⟩
theorem wl_L_153 : Cond.methodLink RL 153 yL_deepest ∈ WG := List.mem_filter.mpr ⟨wr_3 _ (List.mem_of_getElem? (i := 191) rfl), rfl⟩
theorem wt_L_deepest : Cond.static yL_deepest ∈ WG := List.mem_filter.mpr ⟨wr_3 _ (List.mem_of_getElem? (i := 192) rfl), rfl⟩
theorem wl_L_68 : Cond.methodLink RL 68 yX2_deepest ∈ WG := List.mem_filter.mpr ⟨wr_3 _ (List.mem_of_getElem? (i := 194) rfl), rfl⟩
theorem wi_X2_deepest : Cond.instanceMethod yX2_deepest ∈ WG := List.mem_filter.mpr ⟨wr_3 _ (List.mem_of_getElem? (i := 195) rfl), rfl⟩
theorem wv_X2_deepest : Cond.selects RX2 yX2_deepest yX2_deepest ∈ WG := List.mem_filter.mpr ⟨wr_3 _ (List.mem_of_getElem? (i := 196) rfl), rfl⟩
theorem wc_X2_deepest : Cond.code yX2_deepest cX2_deepest 4 (some .int) ∈ WG := List.mem_filter.mpr ⟨wr_3 _ (List.mem_of_getElem? (i := 197) rfl), rfl⟩
theorem wl_L_156 : Cond.methodLink RL 156 yL_bestPlot ∈ WG := List.mem_filter.mpr ⟨wr_3 _ (List.mem_of_getElem? (i := 198) rfl), rfl⟩
theorem wt_L_bestPlot : Cond.static yL_bestPlot ∈ WG := List.mem_filter.mpr ⟨wr_3 _ (List.mem_of_getElem? (i := 199) rfl), rfl⟩
theorem wl_L_71 : Cond.methodLink RL 71 yX2_bestPlot ∈ WG := List.mem_filter.mpr ⟨wr_3 _ (List.mem_of_getElem? (i := 201) rfl), rfl⟩
theorem wi_X2_bestPlot : Cond.instanceMethod yX2_bestPlot ∈ WG := List.mem_filter.mpr ⟨wr_3 _ (List.mem_of_getElem? (i := 202) rfl), rfl⟩
theorem wv_X2_bestPlot : Cond.selects RX2 yX2_bestPlot yX2_bestPlot ∈ WG := List.mem_filter.mpr ⟨wr_3 _ (List.mem_of_getElem? (i := 203) rfl), rfl⟩
theorem wc_X2_bestPlot : Cond.code yX2_bestPlot cX2_bestPlot 2 (some .int) ∈ WG := List.mem_filter.mpr ⟨wr_3 _ (List.mem_of_getElem? (i := 204) rfl), rfl⟩
theorem wl_L_159 : Cond.methodLink RL 159 yL_yearFor ∈ WG := List.mem_filter.mpr ⟨wr_3 _ (List.mem_of_getElem? (i := 205) rfl), rfl⟩
theorem wt_L_yearFor : Cond.static yL_yearFor ∈ WG := List.mem_filter.mpr ⟨wr_3 _ (List.mem_of_getElem? (i := 206) rfl), rfl⟩
theorem wl_L_74 : Cond.methodLink RL 74 yX2_yearFor ∈ WG := List.mem_filter.mpr ⟨wr_3 _ (List.mem_of_getElem? (i := 208) rfl), rfl⟩
theorem wi_X2_yearFor : Cond.instanceMethod yX2_yearFor ∈ WG := List.mem_filter.mpr ⟨wr_3 _ (List.mem_of_getElem? (i := 209) rfl), rfl⟩
theorem wv_X2_yearFor : Cond.selects RX2 yX2_yearFor yX2_yearFor ∈ WG := List.mem_filter.mpr ⟨wr_3 _ (List.mem_of_getElem? (i := 210) rfl), rfl⟩
theorem wc_X2_yearFor : Cond.code yX2_yearFor cX2_yearFor 5 (some .int) ∈ WG := List.mem_filter.mpr ⟨wr_3 _ (List.mem_of_getElem? (i := 211) rfl), rfl⟩
theorem wl_L_162 : Cond.methodLink RL 162 yL_clearYear ∈ WG := List.mem_filter.mpr ⟨wr_3 _ (List.mem_of_getElem? (i := 212) rfl), rfl⟩
theorem wt_L_clearYear : Cond.static yL_clearYear ∈ WG := List.mem_filter.mpr ⟨wr_3 _ (List.mem_of_getElem? (i := 213) rfl), rfl⟩
theorem wl_L_77 : Cond.methodLink RL 77 yX2_clearYear ∈ WG := List.mem_filter.mpr ⟨wr_3 _ (List.mem_of_getElem? (i := 215) rfl), rfl⟩
theorem wi_X2_clearYear : Cond.instanceMethod yX2_clearYear ∈ WG := List.mem_filter.mpr ⟨wr_3 _ (List.mem_of_getElem? (i := 216) rfl), rfl⟩
theorem wv_X2_clearYear : Cond.selects RX2 yX2_clearYear yX2_clearYear ∈ WG := List.mem_filter.mpr ⟨wr_3 _ (List.mem_of_getElem? (i := 217) rfl), rfl⟩
theorem wc_X2_clearYear : Cond.code yX2_clearYear cX2_clearYear 2 (some .int) ∈ WG := List.mem_filter.mpr ⟨wr_3 _ (List.mem_of_getElem? (i := 218) rfl), rfl⟩
theorem wl_L_165 : Cond.methodLink RL 165 yL_cutsOff ∈ WG := List.mem_filter.mpr ⟨wr_3 _ (List.mem_of_getElem? (i := 219) rfl), rfl⟩
theorem wt_L_cutsOff : Cond.static yL_cutsOff ∈ WG := List.mem_filter.mpr ⟨wr_3 _ (List.mem_of_getElem? (i := 220) rfl), rfl⟩
theorem wl_L_80 : Cond.methodLink RL 80 yX2_cutsOff ∈ WG := List.mem_filter.mpr ⟨wr_3 _ (List.mem_of_getElem? (i := 222) rfl), rfl⟩
theorem wi_X2_cutsOff : Cond.instanceMethod yX2_cutsOff ∈ WG := List.mem_filter.mpr ⟨wr_3 _ (List.mem_of_getElem? (i := 223) rfl), rfl⟩
theorem wv_X2_cutsOff : Cond.selects RX2 yX2_cutsOff yX2_cutsOff ∈ WG := List.mem_filter.mpr ⟨wr_3 _ (List.mem_of_getElem? (i := 224) rfl), rfl⟩
theorem wc_X2_cutsOff : Cond.code yX2_cutsOff cX2_cutsOff 2 (some .int) ∈ WG := List.mem_filter.mpr ⟨wr_3 _ (List.mem_of_getElem? (i := 225) rfl), rfl⟩
theorem wl_X2_178 : Cond.methodLink RX2 178 yX1_lostWithout ∈ WG := List.mem_filter.mpr ⟨wr_3 _ (List.mem_of_getElem? (i := 226) rfl), rfl⟩
theorem wi_X1_lostWithout : Cond.instanceMethod yX1_lostWithout ∈ WG := List.mem_filter.mpr ⟨wr_3 _ (List.mem_of_getElem? (i := 227) rfl), rfl⟩
theorem wv_X1_lostWithout : Cond.selects RX1 yX1_lostWithout yX1_lostWithout ∈ WG := List.mem_filter.mpr ⟨wr_3 _ (List.mem_of_getElem? (i := 228) rfl), rfl⟩
theorem wc_X1_lostWithout : Cond.code yX1_lostWithout cX1_lostWithout 4 (some .int) ∈ WG := List.mem_filter.mpr ⟨wr_3 _ (List.mem_of_getElem? (i := 229) rfl), rfl⟩
theorem wk_L_84 : Cond.classLink RL 84 RX3 ∈ WG := List.mem_filter.mpr ⟨wr_3 _ (List.mem_of_getElem? (i := 230) rfl), rfl⟩
theorem wb_X3 : Cond.instantiable RX3 16 ∈ WG := List.mem_filter.mpr ⟨wr_3 _ (List.mem_of_getElem? (i := 231) rfl), rfl⟩
theorem wl_L_86 : Cond.methodLink RL 86 yX3_init ∈ WG := List.mem_filter.mpr ⟨wr_3 _ (List.mem_of_getElem? (i := 232) rfl), rfl⟩
theorem wi_X3_init : Cond.instanceMethod yX3_init ∈ WG := List.mem_filter.mpr ⟨wr_3 _ (List.mem_of_getElem? (i := 233) rfl), rfl⟩
theorem wc_X3_init : Cond.code yX3_init cX3_init 2 none ∈ WG := List.mem_filter.mpr ⟨wr_3 _ (List.mem_of_getElem? (i := 234) rfl), rfl⟩
theorem wl_X3_1 : Cond.methodLink RX3 1 (⟨"java/lang/Object", "<init>", "()V"⟩ : MethodName) ∈ WG := List.mem_filter.mpr ⟨wr_3 _ (List.mem_of_getElem? (i := 235) rfl), rfl⟩
theorem wf_X3_7 : Cond.fieldLink RX3 7 "BurialGroundModel" "z" "[I" ∈ WG := List.mem_filter.mpr ⟨wr_3 _ (List.mem_of_getElem? (i := 236) rfl), rfl⟩
theorem wf_X3_13 : Cond.fieldLink RX3 13 "BurialGroundModel" "rows" "[I" ∈ WG := List.mem_filter.mpr ⟨wr_3 _ (List.mem_of_getElem? (i := 237) rfl), rfl⟩
theorem wf_X3_85 : Cond.fieldLink RX3 85 "BurialGroundModel" "saved" "I" ∈ WG := List.mem_filter.mpr ⟨wr_3 _ (List.mem_of_getElem? (i := 238) rfl), rfl⟩
theorem wf_X3_16 : Cond.fieldLink RX3 16 "BurialGroundModel" "text" "[I" ∈ WG := List.mem_filter.mpr ⟨wr_3 _ (List.mem_of_getElem? (i := 239) rfl), rfl⟩
theorem wf_X3_130 : Cond.fieldLink RX3 130 "BurialGroundModel" "length" "I" ∈ WG := List.mem_filter.mpr ⟨wr_4 _ (List.mem_of_getElem? (i := 0) rfl), rfl⟩
theorem wf_X3_37 : Cond.fieldLink RX3 37 "BurialGroundModel" "thrown" "I" ∈ WG := List.mem_filter.mpr ⟨wr_4 _ (List.mem_of_getElem? (i := 1) rfl), rfl⟩
theorem wf_X3_45 : Cond.fieldLink RX3 45 "BurialGroundModel" "now" "I" ∈ WG := List.mem_filter.mpr ⟨wr_4 _ (List.mem_of_getElem? (i := 2) rfl), rfl⟩
theorem wf_X3_19 : Cond.fieldLink RX3 19 "BurialGroundModel" "way" "[I" ∈ WG := List.mem_filter.mpr ⟨wr_4 _ (List.mem_of_getElem? (i := 3) rfl), rfl⟩
theorem wf_X3_22 : Cond.fieldLink RX3 22 "BurialGroundModel" "queue" "[I" ∈ WG := List.mem_filter.mpr ⟨wr_4 _ (List.mem_of_getElem? (i := 4) rfl), rfl⟩
theorem wf_X3_133 : Cond.fieldLink RX3 133 "BurialGroundModel" "many" "I" ∈ WG := List.mem_filter.mpr ⟨wr_4 _ (List.mem_of_getElem? (i := 5) rfl), rfl⟩
theorem wf_X3_25 : Cond.fieldLink RX3 25 "BurialGroundModel" "sort" "[I" ∈ WG := List.mem_filter.mpr ⟨wr_4 _ (List.mem_of_getElem? (i := 6) rfl), rfl⟩
theorem wf_X3_28 : Cond.fieldLink RX3 28 "BurialGroundModel" "who" "[I" ∈ WG := List.mem_filter.mpr ⟨wr_4 _ (List.mem_of_getElem? (i := 7) rfl), rfl⟩
theorem wf_X3_31 : Cond.fieldLink RX3 31 "BurialGroundModel" "where" "[I" ∈ WG := List.mem_filter.mpr ⟨wr_4 _ (List.mem_of_getElem? (i := 8) rfl), rfl⟩
theorem wf_X3_34 : Cond.fieldLink RX3 34 "BurialGroundModel" "much" "[I" ∈ WG := List.mem_filter.mpr ⟨wr_4 _ (List.mem_of_getElem? (i := 9) rfl), rfl⟩
theorem wf_X3_136 : Cond.fieldLink RX3 136 "BurialGroundModel" "isWhole" "Z" ∈ WG := List.mem_filter.mpr ⟨wr_4 _ (List.mem_of_getElem? (i := 10) rfl), rfl⟩
theorem wf_X3_173 : Cond.fieldLink RX3 173 "BurialGroundModel" "h" "J" ∈ WG := List.mem_filter.mpr ⟨wr_4 _ (List.mem_of_getElem? (i := 11) rfl), rfl⟩
theorem wy_X3_z : Cond.laysFinal RX3 "BurialGroundModel" "z" "[I" ∈ WG := List.mem_filter.mpr ⟨wr_4 _ (List.mem_of_getElem? (i := 12) rfl), rfl⟩
theorem wy_X3_rows : Cond.laysFinal RX3 "BurialGroundModel" "rows" "[I" ∈ WG := List.mem_filter.mpr ⟨wr_4 _ (List.mem_of_getElem? (i := 14) rfl), rfl⟩
theorem wy_X3_saved : Cond.lays RX3 "BurialGroundModel" "saved" "I" ∈ WG := List.mem_filter.mpr ⟨wr_4 _ (List.mem_of_getElem? (i := 16) rfl), rfl⟩
theorem wy_X3_text : Cond.laysFinal RX3 "BurialGroundModel" "text" "[I" ∈ WG := List.mem_filter.mpr ⟨wr_4 _ (List.mem_of_getElem? (i := 18) rfl), rfl⟩
theorem wy_X3_length : Cond.lays RX3 "BurialGroundModel" "length" "I" ∈ WG := List.mem_filter.mpr ⟨wr_4 _ (List.mem_of_getElem? (i := 20) rfl), rfl⟩
theorem wy_X3_thrown : Cond.lays RX3 "BurialGroundModel" "thrown" "I" ∈ WG := List.mem_filter.mpr ⟨wr_4 _ (List.mem_of_getElem? (i := 22) rfl), rfl⟩
theorem wy_X3_now : Cond.lays RX3 "BurialGroundModel" "now" "I" ∈ WG := List.mem_filter.mpr ⟨wr_4 _ (List.mem_of_getElem? (i := 24) rfl), rfl⟩
theorem wy_X3_way : Cond.laysFinal RX3 "BurialGroundModel" "way" "[I" ∈ WG := List.mem_filter.mpr ⟨wr_4 _ (List.mem_of_getElem? (i := 26) rfl), rfl⟩
theorem wy_X3_queue : Cond.laysFinal RX3 "BurialGroundModel" "queue" "[I" ∈ WG := List.mem_filter.mpr ⟨wr_4 _ (List.mem_of_getElem? (i := 28) rfl), rfl⟩
theorem wy_X3_many : Cond.lays RX3 "BurialGroundModel" "many" "I" ∈ WG := List.mem_filter.mpr ⟨wr_4 _ (List.mem_of_getElem? (i := 30) rfl), rfl⟩
theorem wy_X3_sort : Cond.laysFinal RX3 "BurialGroundModel" "sort" "[I" ∈ WG := List.mem_filter.mpr ⟨wr_4 _ (List.mem_of_getElem? (i := 32) rfl), rfl⟩
theorem wy_X3_who : Cond.laysFinal RX3 "BurialGroundModel" "who" "[I" ∈ WG := List.mem_filter.mpr ⟨wr_4 _ (List.mem_of_getElem? (i := 34) rfl), rfl⟩
theorem wy_X3_where : Cond.laysFinal RX3 "BurialGroundModel" "where" "[I" ∈ WG := List.mem_filter.mpr ⟨wr_4 _ (List.mem_of_getElem? (i := 36) rfl), rfl⟩
theorem wy_X3_much : Cond.laysFinal RX3 "BurialGroundModel" "much" "[I" ∈ WG := List.mem_filter.mpr ⟨wr_4 _ (List.mem_of_getElem? (i := 38) rfl), rfl⟩
theorem wy_X3_isWhole : Cond.lays RX3 "BurialGroundModel" "isWhole" "Z" ∈ WG := List.mem_filter.mpr ⟨wr_4 _ (List.mem_of_getElem? (i := 40) rfl), rfl⟩
theorem wy_X3_h : Cond.lays RX3 "BurialGroundModel" "h" "J" ∈ WG := List.mem_filter.mpr ⟨wr_4 _ (List.mem_of_getElem? (i := 42) rfl), rfl⟩
theorem wl_L_93 : Cond.methodLink RL 93 yX3_thrown ∈ WG := List.mem_filter.mpr ⟨wr_4 _ (List.mem_of_getElem? (i := 45) rfl), rfl⟩
theorem wi_X3_thrown : Cond.instanceMethod yX3_thrown ∈ WG := List.mem_filter.mpr ⟨wr_4 _ (List.mem_of_getElem? (i := 46) rfl), rfl⟩
theorem wv_X3_thrown : Cond.selects RX3 yX3_thrown yX3_thrown ∈ WG := List.mem_filter.mpr ⟨wr_4 _ (List.mem_of_getElem? (i := 47) rfl), rfl⟩
theorem wc_X3_thrown : Cond.code yX3_thrown cX3_thrown 1 (some .int) ∈ WG := List.mem_filter.mpr ⟨wr_4 _ (List.mem_of_getElem? (i := 48) rfl), rfl⟩
theorem wl_L_92 : Cond.methodLink RL 92 yX3_lay ∈ WG := List.mem_filter.mpr ⟨wr_4 _ (List.mem_of_getElem? (i := 49) rfl), rfl⟩
theorem wi_X3_lay : Cond.instanceMethod yX3_lay ∈ WG := List.mem_filter.mpr ⟨wr_4 _ (List.mem_of_getElem? (i := 50) rfl), rfl⟩
theorem wv_X3_lay : Cond.selects RX3 yX3_lay yX3_lay ∈ WG := List.mem_filter.mpr ⟨wr_4 _ (List.mem_of_getElem? (i := 51) rfl), rfl⟩
theorem wc_X3_lay : Cond.code yX3_lay cX3_lay 4 (some .int) ∈ WG := List.mem_filter.mpr ⟨wr_4 _ (List.mem_of_getElem? (i := 52) rfl), rfl⟩
theorem wl_X3_92 : Cond.methodLink RX3 92 yX3_look ∈ WG := List.mem_filter.mpr ⟨wr_4 _ (List.mem_of_getElem? (i := 53) rfl), rfl⟩
theorem wi_X3_look : Cond.instanceMethod yX3_look ∈ WG := List.mem_filter.mpr ⟨wr_4 _ (List.mem_of_getElem? (i := 55) rfl), rfl⟩
theorem wc_X3_look : Cond.code yX3_look cX3_look 1 none ∈ WG := List.mem_filter.mpr ⟨wr_4 _ (List.mem_of_getElem? (i := 56) rfl), rfl⟩
theorem wl_X3_88 : Cond.methodLink RX3 88 yX3_walk ∈ WG := List.mem_filter.mpr ⟨wr_4 _ (List.mem_of_getElem? (i := 57) rfl), rfl⟩
theorem wi_X3_walk : Cond.instanceMethod yX3_walk ∈ WG := List.mem_filter.mpr ⟨wr_4 _ (List.mem_of_getElem? (i := 59) rfl), rfl⟩
theorem wc_X3_walk : Cond.code yX3_walk cX3_walk 6 none ∈ WG := List.mem_filter.mpr ⟨wr_4 _ (List.mem_of_getElem? (i := 60) rfl), rfl⟩
theorem wl_X3_63 : Cond.methodLink RX3 63 yX3_beside ∈ WG := List.mem_filter.mpr ⟨wr_4 _ (List.mem_of_getElem? (i := 61) rfl), rfl⟩
theorem wt_X3_beside : Cond.static yX3_beside ∈ WG := List.mem_filter.mpr ⟨wr_4 _ (List.mem_of_getElem? (i := 62) rfl), rfl⟩
theorem wc_X3_beside : Cond.code yX3_beside cX3_beside 2 (some .int) ∈ WG := List.mem_filter.mpr ⟨wr_4 _ (List.mem_of_getElem? (i := 63) rfl), rfl⟩
theorem wl_X3_67 : Cond.methodLink RX3 67 yX3_buried ∈ WG := List.mem_filter.mpr ⟨wr_4 _ (List.mem_of_getElem? (i := 64) rfl), rfl⟩
theorem wi_X3_buried : Cond.instanceMethod yX3_buried ∈ WG := List.mem_filter.mpr ⟨wr_4 _ (List.mem_of_getElem? (i := 66) rfl), rfl⟩
theorem wc_X3_buried : Cond.code yX3_buried cX3_buried 4 (some .int) ∈ WG := List.mem_filter.mpr ⟨wr_4 _ (List.mem_of_getElem? (i := 67) rfl), rfl⟩
theorem wl_X3_41 : Cond.methodLink RX3 41 yX3_within ∈ WG := List.mem_filter.mpr ⟨wr_4 _ (List.mem_of_getElem? (i := 68) rfl), rfl⟩
theorem wt_X3_within : Cond.static yX3_within ∈ WG := List.mem_filter.mpr ⟨wr_4 _ (List.mem_of_getElem? (i := 69) rfl), rfl⟩
theorem wc_X3_within : Cond.code yX3_within cX3_within 3 (some .boolean) ∈ WG := List.mem_filter.mpr ⟨wr_4 _ (List.mem_of_getElem? (i := 70) rfl), rfl⟩
theorem wl_X3_95 : Cond.methodLink RX3 95 yX3_fails ∈ WG := List.mem_filter.mpr ⟨wr_4 _ (List.mem_of_getElem? (i := 71) rfl), rfl⟩
theorem wi_X3_fails : Cond.instanceMethod yX3_fails ∈ WG := List.mem_filter.mpr ⟨wr_4 _ (List.mem_of_getElem? (i := 73) rfl), rfl⟩
theorem wc_X3_fails : Cond.code yX3_fails cX3_fails 2 (some .int) ∈ WG := List.mem_filter.mpr ⟨wr_4 _ (List.mem_of_getElem? (i := 74) rfl), rfl⟩
theorem wl_X3_98 : Cond.methodLink RX3 98 yX3_save ∈ WG := List.mem_filter.mpr ⟨wr_4 _ (List.mem_of_getElem? (i := 75) rfl), rfl⟩
theorem wi_X3_save : Cond.instanceMethod yX3_save ∈ WG := List.mem_filter.mpr ⟨wr_4 _ (List.mem_of_getElem? (i := 77) rfl), rfl⟩
theorem wc_X3_save : Cond.code yX3_save cX3_save 2 none ∈ WG := List.mem_filter.mpr ⟨wr_4 _ (List.mem_of_getElem? (i := 78) rfl), rfl⟩
theorem wl_L_99 : Cond.methodLink RL 99 yX3_pass ∈ WG := List.mem_filter.mpr ⟨wr_4 _ (List.mem_of_getElem? (i := 79) rfl), rfl⟩
theorem wi_X3_pass : Cond.instanceMethod yX3_pass ∈ WG := List.mem_filter.mpr ⟨wr_4 _ (List.mem_of_getElem? (i := 80) rfl), rfl⟩
theorem wv_X3_pass : Cond.selects RX3 yX3_pass yX3_pass ∈ WG := List.mem_filter.mpr ⟨wr_4 _ (List.mem_of_getElem? (i := 81) rfl), rfl⟩
theorem wc_X3_pass : Cond.code yX3_pass cX3_pass 3 (some .int) ∈ WG := List.mem_filter.mpr ⟨wr_4 _ (List.mem_of_getElem? (i := 82) rfl), rfl⟩
theorem wl_X3_101 : Cond.methodLink RX3 101 yX3_keptMany ∈ WG := List.mem_filter.mpr ⟨wr_4 _ (List.mem_of_getElem? (i := 83) rfl), rfl⟩
theorem wi_X3_keptMany : Cond.instanceMethod yX3_keptMany ∈ WG := List.mem_filter.mpr ⟨wr_4 _ (List.mem_of_getElem? (i := 85) rfl), rfl⟩
theorem wc_X3_keptMany : Cond.code yX3_keptMany cX3_keptMany 3 (some .int) ∈ WG := List.mem_filter.mpr ⟨wr_4 _ (List.mem_of_getElem? (i := 86) rfl), rfl⟩
theorem wl_X3_56 : Cond.methodLink RX3 56 yX3_isKept ∈ WG := List.mem_filter.mpr ⟨wr_4 _ (List.mem_of_getElem? (i := 87) rfl), rfl⟩
theorem wi_X3_isKept : Cond.instanceMethod yX3_isKept ∈ WG := List.mem_filter.mpr ⟨wr_4 _ (List.mem_of_getElem? (i := 89) rfl), rfl⟩
theorem wc_X3_isKept : Cond.code yX3_isKept cX3_isKept 2 (some .boolean) ∈ WG := List.mem_filter.mpr ⟨wr_4 _ (List.mem_of_getElem? (i := 90) rfl), rfl⟩
theorem wl_L_103 : Cond.methodLink RL 103 yX3_setParish ∈ WG := List.mem_filter.mpr ⟨wr_4 _ (List.mem_of_getElem? (i := 91) rfl), rfl⟩
theorem wi_X3_setParish : Cond.instanceMethod yX3_setParish ∈ WG := List.mem_filter.mpr ⟨wr_4 _ (List.mem_of_getElem? (i := 92) rfl), rfl⟩
theorem wv_X3_setParish : Cond.selects RX3 yX3_setParish yX3_setParish ∈ WG := List.mem_filter.mpr ⟨wr_4 _ (List.mem_of_getElem? (i := 93) rfl), rfl⟩
theorem wc_X3_setParish : Cond.code yX3_setParish cX3_setParish 4 (some .int) ∈ WG := List.mem_filter.mpr ⟨wr_4 _ (List.mem_of_getElem? (i := 94) rfl), rfl⟩
theorem wl_X3_105 : Cond.methodLink RX3 105 yX3_isFamily ∈ WG := List.mem_filter.mpr ⟨wr_4 _ (List.mem_of_getElem? (i := 95) rfl), rfl⟩
theorem wt_X3_isFamily : Cond.static yX3_isFamily ∈ WG := List.mem_filter.mpr ⟨wr_4 _ (List.mem_of_getElem? (i := 96) rfl), rfl⟩
theorem wc_X3_isFamily : Cond.code yX3_isFamily cX3_isFamily 1 (some .boolean) ∈ WG := List.mem_filter.mpr ⟨wr_4 _ (List.mem_of_getElem? (i := 97) rfl), rfl⟩
theorem wl_L_107 : Cond.methodLink RL 107 yX3_bury ∈ WG := List.mem_filter.mpr ⟨wr_4 _ (List.mem_of_getElem? (i := 98) rfl), rfl⟩
theorem wi_X3_bury : Cond.instanceMethod yX3_bury ∈ WG := List.mem_filter.mpr ⟨wr_4 _ (List.mem_of_getElem? (i := 99) rfl), rfl⟩
theorem wv_X3_bury : Cond.selects RX3 yX3_bury yX3_bury ∈ WG := List.mem_filter.mpr ⟨wr_4 _ (List.mem_of_getElem? (i := 100) rfl), rfl⟩
theorem wc_X3_bury : Cond.code yX3_bury cX3_bury 4 (some .int) ∈ WG := List.mem_filter.mpr ⟨wr_4 _ (List.mem_of_getElem? (i := 101) rfl), rfl⟩
theorem wl_X3_112 : Cond.methodLink RX3 112 yX3_isPlot ∈ WG := List.mem_filter.mpr ⟨wr_4 _ (List.mem_of_getElem? (i := 102) rfl), rfl⟩
theorem wt_X3_isPlot : Cond.static yX3_isPlot ∈ WG := List.mem_filter.mpr ⟨wr_4 _ (List.mem_of_getElem? (i := 103) rfl), rfl⟩
theorem wc_X3_isPlot : Cond.code yX3_isPlot cX3_isPlot 1 (some .boolean) ∈ WG := List.mem_filter.mpr ⟨wr_4 _ (List.mem_of_getElem? (i := 104) rfl), rfl⟩
theorem wl_X3_115 : Cond.methodLink RX3 115 yX3_reason ∈ WG := List.mem_filter.mpr ⟨wr_4 _ (List.mem_of_getElem? (i := 105) rfl), rfl⟩
theorem wi_X3_reason : Cond.instanceMethod yX3_reason ∈ WG := List.mem_filter.mpr ⟨wr_4 _ (List.mem_of_getElem? (i := 107) rfl), rfl⟩
theorem wc_X3_reason : Cond.code yX3_reason cX3_reason 6 (some .int) ∈ WG := List.mem_filter.mpr ⟨wr_4 _ (List.mem_of_getElem? (i := 108) rfl), rfl⟩
theorem wl_X3_70 : Cond.methodLink RX3 70 yX3_isOthers ∈ WG := List.mem_filter.mpr ⟨wr_4 _ (List.mem_of_getElem? (i := 109) rfl), rfl⟩
theorem wi_X3_isOthers : Cond.instanceMethod yX3_isOthers ∈ WG := List.mem_filter.mpr ⟨wr_4 _ (List.mem_of_getElem? (i := 111) rfl), rfl⟩
theorem wc_X3_isOthers : Cond.code yX3_isOthers cX3_isOthers 3 (some .boolean) ∈ WG := List.mem_filter.mpr ⟨wr_4 _ (List.mem_of_getElem? (i := 112) rfl), rfl⟩
theorem wl_X3_60 : Cond.methodLink RX3 60 yX3_holder ∈ WG := List.mem_filter.mpr ⟨wr_4 _ (List.mem_of_getElem? (i := 113) rfl), rfl⟩
theorem wi_X3_holder : Cond.instanceMethod yX3_holder ∈ WG := List.mem_filter.mpr ⟨wr_4 _ (List.mem_of_getElem? (i := 115) rfl), rfl⟩
theorem wc_X3_holder : Cond.code yX3_holder cX3_holder 3 (some .int) ∈ WG := List.mem_filter.mpr ⟨wr_4 _ (List.mem_of_getElem? (i := 116) rfl), rfl⟩
theorem wl_X3_52 : Cond.methodLink RX3 52 yX3_isOld ∈ WG := List.mem_filter.mpr ⟨wr_4 _ (List.mem_of_getElem? (i := 117) rfl), rfl⟩
theorem wi_X3_isOld : Cond.instanceMethod yX3_isOld ∈ WG := List.mem_filter.mpr ⟨wr_4 _ (List.mem_of_getElem? (i := 119) rfl), rfl⟩
theorem wc_X3_isOld : Cond.code yX3_isOld cX3_isOld 3 (some .boolean) ∈ WG := List.mem_filter.mpr ⟨wr_4 _ (List.mem_of_getElem? (i := 120) rfl), rfl⟩
theorem wl_X3_48 : Cond.methodLink RX3 48 yX3_rest ∈ WG := List.mem_filter.mpr ⟨wr_4 _ (List.mem_of_getElem? (i := 121) rfl), rfl⟩
theorem wi_X3_rest : Cond.instanceMethod yX3_rest ∈ WG := List.mem_filter.mpr ⟨wr_4 _ (List.mem_of_getElem? (i := 123) rfl), rfl⟩
theorem wc_X3_rest : Cond.code yX3_rest cX3_rest 2 (some .int) ∈ WG := List.mem_filter.mpr ⟨wr_4 _ (List.mem_of_getElem? (i := 124) rfl), rfl⟩
theorem wl_X3_73 : Cond.methodLink RX3 73 yX3_deep ∈ WG := List.mem_filter.mpr ⟨wr_4 _ (List.mem_of_getElem? (i := 125) rfl), rfl⟩
theorem wi_X3_deep : Cond.instanceMethod yX3_deep ∈ WG := List.mem_filter.mpr ⟨wr_4 _ (List.mem_of_getElem? (i := 127) rfl), rfl⟩
theorem wc_X3_deep : Cond.code yX3_deep cX3_deep 2 (some .int) ∈ WG := List.mem_filter.mpr ⟨wr_4 _ (List.mem_of_getElem? (i := 128) rfl), rfl⟩
theorem wl_X3_76 : Cond.methodLink RX3 76 yX3_highest ∈ WG := List.mem_filter.mpr ⟨wr_4 _ (List.mem_of_getElem? (i := 129) rfl), rfl⟩
theorem wi_X3_highest : Cond.instanceMethod yX3_highest ∈ WG := List.mem_filter.mpr ⟨wr_4 _ (List.mem_of_getElem? (i := 131) rfl), rfl⟩
theorem wc_X3_highest : Cond.code yX3_highest cX3_highest 4 (some .int) ∈ WG := List.mem_filter.mpr ⟨wr_4 _ (List.mem_of_getElem? (i := 132) rfl), rfl⟩
theorem wl_X3_79 : Cond.methodLink RX3 79 yX3_isReached ∈ WG := List.mem_filter.mpr ⟨wr_4 _ (List.mem_of_getElem? (i := 133) rfl), rfl⟩
theorem wi_X3_isReached : Cond.instanceMethod yX3_isReached ∈ WG := List.mem_filter.mpr ⟨wr_4 _ (List.mem_of_getElem? (i := 135) rfl), rfl⟩
theorem wc_X3_isReached : Cond.code yX3_isReached cX3_isReached 5 (some .boolean) ∈ WG := List.mem_filter.mpr ⟨wr_4 _ (List.mem_of_getElem? (i := 136) rfl), rfl⟩
theorem wl_X3_82 : Cond.methodLink RX3 82 yX3_latest ∈ WG := List.mem_filter.mpr ⟨wr_4 _ (List.mem_of_getElem? (i := 137) rfl), rfl⟩
theorem wi_X3_latest : Cond.instanceMethod yX3_latest ∈ WG := List.mem_filter.mpr ⟨wr_4 _ (List.mem_of_getElem? (i := 139) rfl), rfl⟩
theorem wc_X3_latest : Cond.code yX3_latest cX3_latest 4 (some .int) ∈ WG := List.mem_filter.mpr ⟨wr_4 _ (List.mem_of_getElem? (i := 140) rfl), rfl⟩
theorem wl_X3_118 : Cond.methodLink RX3 118 yX3_buries ∈ WG := List.mem_filter.mpr ⟨wr_4 _ (List.mem_of_getElem? (i := 141) rfl), rfl⟩
theorem wi_X3_buries : Cond.instanceMethod yX3_buries ∈ WG := List.mem_filter.mpr ⟨wr_4 _ (List.mem_of_getElem? (i := 143) rfl), rfl⟩
theorem wc_X3_buries : Cond.code yX3_buries cX3_buries 6 (some .int) ∈ WG := List.mem_filter.mpr ⟨wr_4 _ (List.mem_of_getElem? (i := 144) rfl), rfl⟩
theorem wl_X3_108 : Cond.methodLink RX3 108 yX3_price ∈ WG := List.mem_filter.mpr ⟨wr_4 _ (List.mem_of_getElem? (i := 145) rfl), rfl⟩
theorem wi_X3_price : Cond.instanceMethod yX3_price ∈ WG := List.mem_filter.mpr ⟨wr_4 _ (List.mem_of_getElem? (i := 147) rfl), rfl⟩
theorem wc_X3_price : Cond.code yX3_price cX3_price 5 (some .int) ∈ WG := List.mem_filter.mpr ⟨wr_4 _ (List.mem_of_getElem? (i := 148) rfl), rfl⟩
theorem wl_L_110 : Cond.methodLink RL 110 yX3_reserve ∈ WG := List.mem_filter.mpr ⟨wr_4 _ (List.mem_of_getElem? (i := 149) rfl), rfl⟩
theorem wi_X3_reserve : Cond.instanceMethod yX3_reserve ∈ WG := List.mem_filter.mpr ⟨wr_4 _ (List.mem_of_getElem? (i := 150) rfl), rfl⟩
theorem wv_X3_reserve : Cond.selects RX3 yX3_reserve yX3_reserve ∈ WG := List.mem_filter.mpr ⟨wr_4 _ (List.mem_of_getElem? (i := 151) rfl), rfl⟩
theorem wc_X3_reserve : Cond.code yX3_reserve cX3_reserve 4 (some .int) ∈ WG := List.mem_filter.mpr ⟨wr_4 _ (List.mem_of_getElem? (i := 152) rfl), rfl⟩
theorem wl_X3_121 : Cond.methodLink RX3 121 yX3_mayReserve ∈ WG := List.mem_filter.mpr ⟨wr_4 _ (List.mem_of_getElem? (i := 153) rfl), rfl⟩
theorem wi_X3_mayReserve : Cond.instanceMethod yX3_mayReserve ∈ WG := List.mem_filter.mpr ⟨wr_4 _ (List.mem_of_getElem? (i := 155) rfl), rfl⟩
theorem wc_X3_mayReserve : Cond.code yX3_mayReserve cX3_mayReserve 3 (some .boolean) ∈ WG := List.mem_filter.mpr ⟨wr_4 _ (List.mem_of_getElem? (i := 156) rfl), rfl⟩
theorem wl_X3_124 : Cond.methodLink RX3 124 yX3_reserves ∈ WG := List.mem_filter.mpr ⟨wr_4 _ (List.mem_of_getElem? (i := 157) rfl), rfl⟩
theorem wi_X3_reserves : Cond.instanceMethod yX3_reserves ∈ WG := List.mem_filter.mpr ⟨wr_4 _ (List.mem_of_getElem? (i := 159) rfl), rfl⟩
theorem wc_X3_reserves : Cond.code yX3_reserves cX3_reserves 5 (some .int) ∈ WG := List.mem_filter.mpr ⟨wr_4 _ (List.mem_of_getElem? (i := 160) rfl), rfl⟩
theorem wl_L_113 : Cond.methodLink RL 113 yX3_buildVault ∈ WG := List.mem_filter.mpr ⟨wr_4 _ (List.mem_of_getElem? (i := 161) rfl), rfl⟩
theorem wi_X3_buildVault : Cond.instanceMethod yX3_buildVault ∈ WG := List.mem_filter.mpr ⟨wr_4 _ (List.mem_of_getElem? (i := 162) rfl), rfl⟩
theorem wv_X3_buildVault : Cond.selects RX3 yX3_buildVault yX3_buildVault ∈ WG := List.mem_filter.mpr ⟨wr_4 _ (List.mem_of_getElem? (i := 163) rfl), rfl⟩
theorem wc_X3_buildVault : Cond.code yX3_buildVault cX3_buildVault 5 (some .int) ∈ WG := List.mem_filter.mpr ⟨wr_4 _ (List.mem_of_getElem? (i := 164) rfl), rfl⟩
theorem wl_L_116 : Cond.methodLink RL 116 yX3_clear ∈ WG := List.mem_filter.mpr ⟨wr_4 _ (List.mem_of_getElem? (i := 165) rfl), rfl⟩
theorem wi_X3_clear : Cond.instanceMethod yX3_clear ∈ WG := List.mem_filter.mpr ⟨wr_4 _ (List.mem_of_getElem? (i := 166) rfl), rfl⟩
theorem wv_X3_clear : Cond.selects RX3 yX3_clear yX3_clear ∈ WG := List.mem_filter.mpr ⟨wr_4 _ (List.mem_of_getElem? (i := 167) rfl), rfl⟩
theorem wc_X3_clear : Cond.code yX3_clear cX3_clear 4 (some .int) ∈ WG := List.mem_filter.mpr ⟨wr_4 _ (List.mem_of_getElem? (i := 168) rfl), rfl⟩
theorem wl_X3_127 : Cond.methodLink RX3 127 yX3_fresh ∈ WG := List.mem_filter.mpr ⟨wr_4 _ (List.mem_of_getElem? (i := 169) rfl), rfl⟩
theorem wi_X3_fresh : Cond.instanceMethod yX3_fresh ∈ WG := List.mem_filter.mpr ⟨wr_4 _ (List.mem_of_getElem? (i := 171) rfl), rfl⟩
theorem wc_X3_fresh : Cond.code yX3_fresh cX3_fresh 4 (some .int) ∈ WG := List.mem_filter.mpr ⟨wr_4 _ (List.mem_of_getElem? (i := 172) rfl), rfl⟩
theorem wl_L_119 : Cond.methodLink RL 119 yX3_append ∈ WG := List.mem_filter.mpr ⟨wr_4 _ (List.mem_of_getElem? (i := 173) rfl), rfl⟩
theorem wi_X3_append : Cond.instanceMethod yX3_append ∈ WG := List.mem_filter.mpr ⟨wr_4 _ (List.mem_of_getElem? (i := 174) rfl), rfl⟩
theorem wv_X3_append : Cond.selects RX3 yX3_append yX3_append ∈ WG := List.mem_filter.mpr ⟨wr_4 _ (List.mem_of_getElem? (i := 175) rfl), rfl⟩
theorem wc_X3_append : Cond.code yX3_append cX3_append 2 (some .int) ∈ WG := List.mem_filter.mpr ⟨wr_4 _ (List.mem_of_getElem? (i := 176) rfl), rfl⟩
theorem wl_L_123 : Cond.methodLink RL 123 yX3_clearBuffer ∈ WG := List.mem_filter.mpr ⟨wr_4 _ (List.mem_of_getElem? (i := 177) rfl), rfl⟩
theorem wi_X3_clearBuffer : Cond.instanceMethod yX3_clearBuffer ∈ WG := List.mem_filter.mpr ⟨wr_4 _ (List.mem_of_getElem? (i := 178) rfl), rfl⟩
theorem wv_X3_clearBuffer : Cond.selects RX3 yX3_clearBuffer yX3_clearBuffer ∈ WG := List.mem_filter.mpr ⟨wr_4 _ (List.mem_of_getElem? (i := 179) rfl), rfl⟩
theorem wc_X3_clearBuffer : Cond.code yX3_clearBuffer cX3_clearBuffer 2 (some .int) ∈ WG := List.mem_filter.mpr ⟨wr_4 _ (List.mem_of_getElem? (i := 180) rfl), rfl⟩
theorem wl_L_127 : Cond.methodLink RL 127 yX3_firstError ∈ WG := List.mem_filter.mpr ⟨wr_4 _ (List.mem_of_getElem? (i := 181) rfl), rfl⟩
theorem wi_X3_firstError : Cond.instanceMethod yX3_firstError ∈ WG := List.mem_filter.mpr ⟨wr_4 _ (List.mem_of_getElem? (i := 182) rfl), rfl⟩
theorem wv_X3_firstError : Cond.selects RX3 yX3_firstError yX3_firstError ∈ WG := List.mem_filter.mpr ⟨wr_4 _ (List.mem_of_getElem? (i := 183) rfl), rfl⟩
theorem wc_X3_firstError : Cond.code yX3_firstError cX3_firstError 1 (some .int) ∈ WG := List.mem_filter.mpr ⟨wr_4 _ (List.mem_of_getElem? (i := 184) rfl), rfl⟩
theorem wl_X3_143 : Cond.methodLink RX3 143 yX3_read ∈ WG := List.mem_filter.mpr ⟨wr_4 _ (List.mem_of_getElem? (i := 185) rfl), rfl⟩
theorem wi_X3_read : Cond.instanceMethod yX3_read ∈ WG := List.mem_filter.mpr ⟨wr_4 _ (List.mem_of_getElem? (i := 187) rfl), rfl⟩
theorem wc_X3_read : Cond.code yX3_read cX3_read 4 (some .int) ∈ WG := List.mem_filter.mpr ⟨wr_4 _ (List.mem_of_getElem? (i := 188) rfl), rfl⟩
theorem wl_X3_140 : Cond.methodLink RX3 140 yX3_next ∈ WG := List.mem_filter.mpr ⟨wr_4 _ (List.mem_of_getElem? (i := 189) rfl), rfl⟩
theorem wi_X3_next : Cond.instanceMethod yX3_next ∈ WG := List.mem_filter.mpr ⟨wr_4 _ (List.mem_of_getElem? (i := 191) rfl), rfl⟩
theorem wc_X3_next : Cond.code yX3_next cX3_next 6 (some .int) ∈ WG := List.mem_filter.mpr ⟨wr_4 _ (List.mem_of_getElem? (i := 192) rfl), rfl⟩
theorem wl_L_131 : Cond.methodLink RL 131 yX3_load ∈ WG := List.mem_filter.mpr ⟨wr_4 _ (List.mem_of_getElem? (i := 193) rfl), rfl⟩
theorem wi_X3_load : Cond.instanceMethod yX3_load ∈ WG := List.mem_filter.mpr ⟨wr_4 _ (List.mem_of_getElem? (i := 194) rfl), rfl⟩
theorem wv_X3_load : Cond.selects RX3 yX3_load yX3_load ∈ WG := List.mem_filter.mpr ⟨wr_4 _ (List.mem_of_getElem? (i := 195) rfl), rfl⟩
theorem wc_X3_load : Cond.code yX3_load cX3_load 5 (some .int) ∈ WG := List.mem_filter.mpr ⟨wr_4 _ (List.mem_of_getElem? (i := 196) rfl), rfl⟩
theorem wl_L_134 : Cond.methodLink RL 134 yX3_undo ∈ WG := List.mem_filter.mpr ⟨wr_4 _ (List.mem_of_getElem? (i := 197) rfl), rfl⟩
theorem wi_X3_undo : Cond.instanceMethod yX3_undo ∈ WG := List.mem_filter.mpr ⟨wr_4 _ (List.mem_of_getElem? (i := 198) rfl), rfl⟩
theorem wv_X3_undo : Cond.selects RX3 yX3_undo yX3_undo ∈ WG := List.mem_filter.mpr ⟨wr_4 _ (List.mem_of_getElem? (i := 199) rfl), rfl⟩
theorem wc_X3_undo : Cond.code yX3_undo cX3_undo 2 (some .int) ∈ WG := List.mem_filter.mpr ⟨wr_4 _ (List.mem_of_getElem? (i := 200) rfl), rfl⟩
theorem wl_L_137 : Cond.methodLink RL 137 yX3_plot ∈ WG := List.mem_filter.mpr ⟨wr_4 _ (List.mem_of_getElem? (i := 201) rfl), rfl⟩
theorem wi_X3_plot : Cond.instanceMethod yX3_plot ∈ WG := List.mem_filter.mpr ⟨wr_4 _ (List.mem_of_getElem? (i := 202) rfl), rfl⟩
theorem wv_X3_plot : Cond.selects RX3 yX3_plot yX3_plot ∈ WG := List.mem_filter.mpr ⟨wr_4 _ (List.mem_of_getElem? (i := 203) rfl), rfl⟩
theorem wc_X3_plot : Cond.code yX3_plot cX3_plot 3 (some .int) ∈ WG := List.mem_filter.mpr ⟨wr_4 _ (List.mem_of_getElem? (i := 204) rfl), rfl⟩
theorem wl_X3_146 : Cond.methodLink RX3 146 yX3_plotNow ∈ WG := List.mem_filter.mpr ⟨wr_4 _ (List.mem_of_getElem? (i := 205) rfl), rfl⟩
theorem wi_X3_plotNow : Cond.instanceMethod yX3_plotNow ∈ WG := List.mem_filter.mpr ⟨wr_4 _ (List.mem_of_getElem? (i := 207) rfl), rfl⟩
theorem wc_X3_plotNow : Cond.code yX3_plotNow cX3_plotNow 3 (some .int) ∈ WG := List.mem_filter.mpr ⟨wr_4 _ (List.mem_of_getElem? (i := 208) rfl), rfl⟩
theorem wl_L_140 : Cond.methodLink RL 140 yX3_burial ∈ WG := List.mem_filter.mpr ⟨wr_4 _ (List.mem_of_getElem? (i := 209) rfl), rfl⟩
theorem wi_X3_burial : Cond.instanceMethod yX3_burial ∈ WG := List.mem_filter.mpr ⟨wr_4 _ (List.mem_of_getElem? (i := 210) rfl), rfl⟩
theorem wv_X3_burial : Cond.selects RX3 yX3_burial yX3_burial ∈ WG := List.mem_filter.mpr ⟨wr_4 _ (List.mem_of_getElem? (i := 211) rfl), rfl⟩
theorem wc_X3_burial : Cond.code yX3_burial cX3_burial 4 (some .int) ∈ WG := List.mem_filter.mpr ⟨wr_4 _ (List.mem_of_getElem? (i := 212) rfl), rfl⟩
theorem wl_X3_149 : Cond.methodLink RX3 149 yX3_burialNow ∈ WG := List.mem_filter.mpr ⟨wr_4 _ (List.mem_of_getElem? (i := 213) rfl), rfl⟩
theorem wi_X3_burialNow : Cond.instanceMethod yX3_burialNow ∈ WG := List.mem_filter.mpr ⟨wr_4 _ (List.mem_of_getElem? (i := 215) rfl), rfl⟩
theorem wc_X3_burialNow : Cond.code yX3_burialNow cX3_burialNow 5 (some .int) ∈ WG := List.mem_filter.mpr ⟨wr_4 _ (List.mem_of_getElem? (i := 216) rfl), rfl⟩
theorem wl_L_143 : Cond.methodLink RL 143 yX3_family ∈ WG := List.mem_filter.mpr ⟨wr_4 _ (List.mem_of_getElem? (i := 217) rfl), rfl⟩
theorem wi_X3_family : Cond.instanceMethod yX3_family ∈ WG := List.mem_filter.mpr ⟨wr_4 _ (List.mem_of_getElem? (i := 218) rfl), rfl⟩
theorem wv_X3_family : Cond.selects RX3 yX3_family yX3_family ∈ WG := List.mem_filter.mpr ⟨wr_4 _ (List.mem_of_getElem? (i := 219) rfl), rfl⟩
theorem wc_X3_family : Cond.code yX3_family cX3_family 3 (some .int) ∈ WG := List.mem_filter.mpr ⟨wr_4 _ (List.mem_of_getElem? (i := 220) rfl), rfl⟩
theorem wl_X3_152 : Cond.methodLink RX3 152 yX3_familyNow ∈ WG := List.mem_filter.mpr ⟨wr_4 _ (List.mem_of_getElem? (i := 221) rfl), rfl⟩
theorem wi_X3_familyNow : Cond.instanceMethod yX3_familyNow ∈ WG := List.mem_filter.mpr ⟨wr_4 _ (List.mem_of_getElem? (i := 223) rfl), rfl⟩
theorem wc_X3_familyNow : Cond.code yX3_familyNow cX3_familyNow 6 (some .int) ∈ WG := List.mem_filter.mpr ⟨wr_4 _ (List.mem_of_getElem? (i := 224) rfl), rfl⟩
theorem wl_L_146 : Cond.methodLink RL 146 yX3_count ∈ WG := List.mem_filter.mpr ⟨wr_4 _ (List.mem_of_getElem? (i := 225) rfl), rfl⟩
theorem wi_X3_count : Cond.instanceMethod yX3_count ∈ WG := List.mem_filter.mpr ⟨wr_4 _ (List.mem_of_getElem? (i := 226) rfl), rfl⟩
theorem wv_X3_count : Cond.selects RX3 yX3_count yX3_count ∈ WG := List.mem_filter.mpr ⟨wr_4 _ (List.mem_of_getElem? (i := 227) rfl), rfl⟩
theorem wc_X3_count : Cond.code yX3_count cX3_count 2 (some .int) ∈ WG := List.mem_filter.mpr ⟨wr_4 _ (List.mem_of_getElem? (i := 228) rfl), rfl⟩
theorem wl_X3_155 : Cond.methodLink RX3 155 yX3_counted ∈ WG := List.mem_filter.mpr ⟨wr_4 _ (List.mem_of_getElem? (i := 229) rfl), rfl⟩
theorem wi_X3_counted : Cond.instanceMethod yX3_counted ∈ WG := List.mem_filter.mpr ⟨wr_4 _ (List.mem_of_getElem? (i := 231) rfl), rfl⟩
theorem wc_X3_counted : Cond.code yX3_counted cX3_counted 5 (some .int) ∈ WG := List.mem_filter.mpr ⟨wr_4 _ (List.mem_of_getElem? (i := 232) rfl), rfl⟩
theorem wl_L_149 : Cond.methodLink RL 149 yX3_why ∈ WG := List.mem_filter.mpr ⟨wr_4 _ (List.mem_of_getElem? (i := 233) rfl), rfl⟩
theorem wi_X3_why : Cond.instanceMethod yX3_why ∈ WG := List.mem_filter.mpr ⟨wr_4 _ (List.mem_of_getElem? (i := 234) rfl), rfl⟩
theorem wv_X3_why : Cond.selects RX3 yX3_why yX3_why ∈ WG := List.mem_filter.mpr ⟨wr_4 _ (List.mem_of_getElem? (i := 235) rfl), rfl⟩
theorem wc_X3_why : Cond.code yX3_why cX3_why 4 (some .int) ∈ WG := List.mem_filter.mpr ⟨wr_4 _ (List.mem_of_getElem? (i := 236) rfl), rfl⟩
theorem wl_L_152 : Cond.methodLink RL 152 yX3_fee ∈ WG := List.mem_filter.mpr ⟨wr_4 _ (List.mem_of_getElem? (i := 237) rfl), rfl⟩
theorem wi_X3_fee : Cond.instanceMethod yX3_fee ∈ WG := List.mem_filter.mpr ⟨wr_4 _ (List.mem_of_getElem? (i := 238) rfl), rfl⟩
theorem wv_X3_fee : Cond.selects RX3 yX3_fee yX3_fee ∈ WG := List.mem_filter.mpr ⟨wr_4 _ (List.mem_of_getElem? (i := 239) rfl), rfl⟩
theorem wc_X3_fee : Cond.code yX3_fee cX3_fee 4 (some .int) ∈ WG := List.mem_filter.mpr ⟨wr_5 _ (List.mem_of_getElem? (i := 0) rfl), rfl⟩
theorem wl_L_155 : Cond.methodLink RL 155 yX3_deepest ∈ WG := List.mem_filter.mpr ⟨wr_5 _ (List.mem_of_getElem? (i := 1) rfl), rfl⟩
theorem wi_X3_deepest : Cond.instanceMethod yX3_deepest ∈ WG := List.mem_filter.mpr ⟨wr_5 _ (List.mem_of_getElem? (i := 2) rfl), rfl⟩
theorem wv_X3_deepest : Cond.selects RX3 yX3_deepest yX3_deepest ∈ WG := List.mem_filter.mpr ⟨wr_5 _ (List.mem_of_getElem? (i := 3) rfl), rfl⟩
theorem wc_X3_deepest : Cond.code yX3_deepest cX3_deepest 5 (some .int) ∈ WG := List.mem_filter.mpr ⟨wr_5 _ (List.mem_of_getElem? (i := 4) rfl), rfl⟩
theorem wl_L_158 : Cond.methodLink RL 158 yX3_bestPlot ∈ WG := List.mem_filter.mpr ⟨wr_5 _ (List.mem_of_getElem? (i := 5) rfl), rfl⟩
theorem wi_X3_bestPlot : Cond.instanceMethod yX3_bestPlot ∈ WG := List.mem_filter.mpr ⟨wr_5 _ (List.mem_of_getElem? (i := 6) rfl), rfl⟩
theorem wv_X3_bestPlot : Cond.selects RX3 yX3_bestPlot yX3_bestPlot ∈ WG := List.mem_filter.mpr ⟨wr_5 _ (List.mem_of_getElem? (i := 7) rfl), rfl⟩
theorem wc_X3_bestPlot : Cond.code yX3_bestPlot cX3_bestPlot 2 (some .int) ∈ WG := List.mem_filter.mpr ⟨wr_5 _ (List.mem_of_getElem? (i := 8) rfl), rfl⟩
theorem wl_X3_158 : Cond.methodLink RX3 158 yX3_bestNow ∈ WG := List.mem_filter.mpr ⟨wr_5 _ (List.mem_of_getElem? (i := 9) rfl), rfl⟩
theorem wi_X3_bestNow : Cond.instanceMethod yX3_bestNow ∈ WG := List.mem_filter.mpr ⟨wr_5 _ (List.mem_of_getElem? (i := 11) rfl), rfl⟩
theorem wc_X3_bestNow : Cond.code yX3_bestNow cX3_bestNow 7 (some .int) ∈ WG := List.mem_filter.mpr ⟨wr_5 _ (List.mem_of_getElem? (i := 12) rfl), rfl⟩
theorem wl_L_161 : Cond.methodLink RL 161 yX3_yearFor ∈ WG := List.mem_filter.mpr ⟨wr_5 _ (List.mem_of_getElem? (i := 13) rfl), rfl⟩
theorem wi_X3_yearFor : Cond.instanceMethod yX3_yearFor ∈ WG := List.mem_filter.mpr ⟨wr_5 _ (List.mem_of_getElem? (i := 14) rfl), rfl⟩
theorem wv_X3_yearFor : Cond.selects RX3 yX3_yearFor yX3_yearFor ∈ WG := List.mem_filter.mpr ⟨wr_5 _ (List.mem_of_getElem? (i := 15) rfl), rfl⟩
theorem wc_X3_yearFor : Cond.code yX3_yearFor cX3_yearFor 4 (some .int) ∈ WG := List.mem_filter.mpr ⟨wr_5 _ (List.mem_of_getElem? (i := 16) rfl), rfl⟩
theorem wl_L_164 : Cond.methodLink RL 164 yX3_clearYear ∈ WG := List.mem_filter.mpr ⟨wr_5 _ (List.mem_of_getElem? (i := 17) rfl), rfl⟩
theorem wi_X3_clearYear : Cond.instanceMethod yX3_clearYear ∈ WG := List.mem_filter.mpr ⟨wr_5 _ (List.mem_of_getElem? (i := 18) rfl), rfl⟩
theorem wv_X3_clearYear : Cond.selects RX3 yX3_clearYear yX3_clearYear ∈ WG := List.mem_filter.mpr ⟨wr_5 _ (List.mem_of_getElem? (i := 19) rfl), rfl⟩
theorem wc_X3_clearYear : Cond.code yX3_clearYear cX3_clearYear 2 (some .int) ∈ WG := List.mem_filter.mpr ⟨wr_5 _ (List.mem_of_getElem? (i := 20) rfl), rfl⟩
theorem wl_X3_161 : Cond.methodLink RX3 161 yX3_clearNow ∈ WG := List.mem_filter.mpr ⟨wr_5 _ (List.mem_of_getElem? (i := 21) rfl), rfl⟩
theorem wi_X3_clearNow : Cond.instanceMethod yX3_clearNow ∈ WG := List.mem_filter.mpr ⟨wr_5 _ (List.mem_of_getElem? (i := 23) rfl), rfl⟩
theorem wc_X3_clearNow : Cond.code yX3_clearNow cX3_clearNow 5 (some .int) ∈ WG := List.mem_filter.mpr ⟨wr_5 _ (List.mem_of_getElem? (i := 24) rfl), rfl⟩
theorem wl_L_167 : Cond.methodLink RL 167 yX3_cutsOff ∈ WG := List.mem_filter.mpr ⟨wr_5 _ (List.mem_of_getElem? (i := 25) rfl), rfl⟩
theorem wi_X3_cutsOff : Cond.instanceMethod yX3_cutsOff ∈ WG := List.mem_filter.mpr ⟨wr_5 _ (List.mem_of_getElem? (i := 26) rfl), rfl⟩
theorem wv_X3_cutsOff : Cond.selects RX3 yX3_cutsOff yX3_cutsOff ∈ WG := List.mem_filter.mpr ⟨wr_5 _ (List.mem_of_getElem? (i := 27) rfl), rfl⟩
theorem wc_X3_cutsOff : Cond.code yX3_cutsOff cX3_cutsOff 2 (some .int) ∈ WG := List.mem_filter.mpr ⟨wr_5 _ (List.mem_of_getElem? (i := 28) rfl), rfl⟩
theorem wl_X3_164 : Cond.methodLink RX3 164 yX3_cutNow ∈ WG := List.mem_filter.mpr ⟨wr_5 _ (List.mem_of_getElem? (i := 29) rfl), rfl⟩
theorem wi_X3_cutNow : Cond.instanceMethod yX3_cutNow ∈ WG := List.mem_filter.mpr ⟨wr_5 _ (List.mem_of_getElem? (i := 31) rfl), rfl⟩
theorem wc_X3_cutNow : Cond.code yX3_cutNow cX3_cutNow 5 (some .int) ∈ WG := List.mem_filter.mpr ⟨wr_5 _ (List.mem_of_getElem? (i := 32) rfl), rfl⟩
theorem wl_L_172 : Cond.methodLink RL 172 yX3_meanFee ∈ WG := List.mem_filter.mpr ⟨wr_5 _ (List.mem_of_getElem? (i := 33) rfl), rfl⟩
theorem wi_X3_meanFee : Cond.instanceMethod yX3_meanFee ∈ WG := List.mem_filter.mpr ⟨wr_5 _ (List.mem_of_getElem? (i := 34) rfl), rfl⟩
theorem wv_X3_meanFee : Cond.selects RX3 yX3_meanFee yX3_meanFee ∈ WG := List.mem_filter.mpr ⟨wr_5 _ (List.mem_of_getElem? (i := 35) rfl), rfl⟩
theorem wc_X3_meanFee : Cond.code yX3_meanFee cX3_meanFee 1 (some .double) ∈ WG := List.mem_filter.mpr ⟨wr_5 _ (List.mem_of_getElem? (i := 36) rfl), rfl⟩
theorem wl_X3_167 : Cond.methodLink RX3 167 yX3_meanNow ∈ WG := List.mem_filter.mpr ⟨wr_5 _ (List.mem_of_getElem? (i := 37) rfl), rfl⟩
theorem wi_X3_meanNow : Cond.instanceMethod yX3_meanNow ∈ WG := List.mem_filter.mpr ⟨wr_5 _ (List.mem_of_getElem? (i := 39) rfl), rfl⟩
theorem wc_X3_meanNow : Cond.code yX3_meanNow cX3_meanNow 4 (some .double) ∈ WG := List.mem_filter.mpr ⟨wr_5 _ (List.mem_of_getElem? (i := 40) rfl), rfl⟩
theorem wl_L_177 : Cond.methodLink RL 177 yX3_digest ∈ WG := List.mem_filter.mpr ⟨wr_5 _ (List.mem_of_getElem? (i := 41) rfl), rfl⟩
theorem wi_X3_digest : Cond.instanceMethod yX3_digest ∈ WG := List.mem_filter.mpr ⟨wr_5 _ (List.mem_of_getElem? (i := 42) rfl), rfl⟩
theorem wv_X3_digest : Cond.selects RX3 yX3_digest yX3_digest ∈ WG := List.mem_filter.mpr ⟨wr_5 _ (List.mem_of_getElem? (i := 43) rfl), rfl⟩
theorem wc_X3_digest : Cond.code yX3_digest cX3_digest 3 (some .long) ∈ WG := List.mem_filter.mpr ⟨wr_5 _ (List.mem_of_getElem? (i := 44) rfl), rfl⟩
theorem wq_X3_177 : Cond.constantLong RX3 177 (2267) ∈ WG := List.mem_filter.mpr ⟨wr_5 _ (List.mem_of_getElem? (i := 45) rfl), rfl⟩
theorem wl_X3_179 : Cond.methodLink RX3 179 yX3_mix ∈ WG := List.mem_filter.mpr ⟨wr_5 _ (List.mem_of_getElem? (i := 46) rfl), rfl⟩
theorem wi_X3_mix : Cond.instanceMethod yX3_mix ∈ WG := List.mem_filter.mpr ⟨wr_5 _ (List.mem_of_getElem? (i := 48) rfl), rfl⟩
theorem wc_X3_mix : Cond.code yX3_mix cX3_mix 3 none ∈ WG := List.mem_filter.mpr ⟨wr_5 _ (List.mem_of_getElem? (i := 49) rfl), rfl⟩
theorem wq_X3_171 : Cond.constantLong RX3 171 (31) ∈ WG := List.mem_filter.mpr ⟨wr_5 _ (List.mem_of_getElem? (i := 50) rfl), rfl⟩
theorem wl_X3_183 : Cond.methodLink RX3 183 yJxe99ae_doubleToLongBits_ccdee ∈ WG := List.mem_filter.mpr ⟨wr_5 _ (List.mem_of_getElem? (i := 51) rfl), rfl⟩
theorem wt_Jxe99ae_doubleToLongBits_ccdee : Cond.static yJxe99ae_doubleToLongBits_ccdee ∈ WG := List.mem_filter.mpr ⟨wr_5 _ (List.mem_of_getElem? (i := 52) rfl), rfl⟩
theorem wc_Jxe99ae_doubleToLongBits_ccdee : Cond.code yJxe99ae_doubleToLongBits_ccdee cJxe99ae_doubleToLongBits_ccdee 2 (some .long) ∈ WG := List.mem_filter.mpr ⟨wr_5 _ (List.mem_of_getElem? (i := 53) rfl), rfl⟩
theorem wl_Jxe99ae_122 : Cond.methodLink RJxe99ae 122 yJxe99ae_isNaN_b9ae7 ∈ WG := List.mem_filter.mpr ⟨wr_5 _ (List.mem_of_getElem? (i := 54) rfl), rfl⟩
theorem wt_Jxe99ae_isNaN_b9ae7 : Cond.static yJxe99ae_isNaN_b9ae7 ∈ WG := List.mem_filter.mpr ⟨wr_5 _ (List.mem_of_getElem? (i := 55) rfl), rfl⟩
theorem wc_Jxe99ae_isNaN_b9ae7 : Cond.code yJxe99ae_isNaN_b9ae7 cJxe99ae_isNaN_b9ae7 2 (some .boolean) ∈ WG := List.mem_filter.mpr ⟨wr_5 _ (List.mem_of_getElem? (i := 56) rfl), rfl⟩
theorem wl_Jxe99ae_134 : Cond.methodLink RJxe99ae 134 (⟨"java/lang/Double", "doubleToRawLongBits", "(D)J"⟩ : MethodName) ∈ WG := List.mem_filter.mpr ⟨wr_5 _ (List.mem_of_getElem? (i := 57) rfl), rfl⟩
theorem wt_Double_doubleToRawLongBits_df : Cond.static (⟨"java/lang/Double", "doubleToRawLongBits", "(D)J"⟩ : MethodName) ∈ WG := List.mem_filter.mpr ⟨wr_5 _ (List.mem_of_getElem? (i := 58) rfl), rfl⟩
theorem wq_Jxe99ae_137 : Cond.constantLong RJxe99ae 137 (9221120237041090560) ∈ WG := List.mem_filter.mpr ⟨wr_5 _ (List.mem_of_getElem? (i := 60) rfl), rfl⟩
theorem wa_long : Cond.arrayClass Jvm.ClassFile.FieldType.long ∈ WG := List.mem_filter.mpr ⟨wr_5 _ (List.mem_of_getElem? (i := 61) rfl), rfl⟩
theorem wv_X2_errorIndex : Cond.selects RX2 yX2_errorIndex yX2_errorIndex ∈ WG := List.mem_filter.mpr ⟨wp_1 (⟨"BurialGround", "errorIndex", "()I"⟩, 6) (List.mem_of_getElem? (i := 0) rfl), rfl⟩
theorem wv_X0_takeLetter : Cond.selects RX0 yX0_takeLetter yX0_takeLetter ∈ WG := List.mem_filter.mpr ⟨wp_1 (⟨"BurialGround$EntryReader", "takeLetter", "(I)Z"⟩, 5) (List.mem_of_getElem? (i := 1) rfl), rfl⟩
theorem wv_X0_takeFamily : Cond.selects RX0 yX0_takeFamily yX0_takeFamily ∈ WG := List.mem_filter.mpr ⟨wp_1 (⟨"BurialGround$EntryReader", "takeFamily", "(I)Z"⟩, 5) (List.mem_of_getElem? (i := 2) rfl), rfl⟩
theorem wv_X0_takeColon : Cond.selects RX0 yX0_takeColon yX0_takeColon ∈ WG := List.mem_filter.mpr ⟨wp_1 (⟨"BurialGround$EntryReader", "takeColon", "(I)Z"⟩, 5) (List.mem_of_getElem? (i := 3) rfl), rfl⟩
theorem wv_X0_takeOfPlot : Cond.selects RX0 yX0_takeOfPlot yX0_takeOfPlot ∈ WG := List.mem_filter.mpr ⟨wp_1 (⟨"BurialGround$EntryReader", "takeOfPlot", "(I)Z"⟩, 5) (List.mem_of_getElem? (i := 4) rfl), rfl⟩
theorem wv_X0_takeOfNumber : Cond.selects RX0 yX0_takeOfNumber yX0_takeOfNumber ∈ WG := List.mem_filter.mpr ⟨wp_1 (⟨"BurialGround$EntryReader", "takeOfNumber", "(I)Z"⟩, 5) (List.mem_of_getElem? (i := 5) rfl), rfl⟩
theorem wv_X1_allBurials : Cond.selects RX1 yX1_allBurials yX1_allBurials ∈ WG := List.mem_filter.mpr ⟨wp_1 (⟨"BurialGround$Ledger", "allBurials", "()I"⟩, 12) (List.mem_of_getElem? (i := 6) rfl), rfl⟩
theorem wv_X1_burialsIn : Cond.selects RX1 yX1_burialsIn yX1_burialsIn ∈ WG := List.mem_filter.mpr ⟨wp_1 (⟨"BurialGround$Ledger", "burialsIn", "(I)I"⟩, 12) (List.mem_of_getElem? (i := 7) rfl), rfl⟩
theorem wv_X2_number : Cond.selects RX2 yX2_number yX2_number ∈ WG := List.mem_filter.mpr ⟨wp_1 (⟨"BurialGround", "number", "(I)I"⟩, 6) (List.mem_of_getElem? (i := 8) rfl), rfl⟩
theorem wv_X1_allRestingBurials : Cond.selects RX1 yX1_allRestingBurials yX1_allRestingBurials ∈ WG := List.mem_filter.mpr ⟨wp_1 (⟨"BurialGround$Ledger", "allRestingBurials", "()I"⟩, 12) (List.mem_of_getElem? (i := 9) rfl), rfl⟩
theorem wv_X1_isResting : Cond.selects RX1 yX1_isResting yX1_isResting ∈ WG := List.mem_filter.mpr ⟨wp_1 (⟨"BurialGround$Ledger", "isResting", "(II)Z"⟩, 12) (List.mem_of_getElem? (i := 10) rfl), rfl⟩
theorem wv_X1_endOfRest : Cond.selects RX1 yX1_endOfRest yX1_endOfRest ∈ WG := List.mem_filter.mpr ⟨wp_1 (⟨"BurialGround$Ledger", "endOfRest", "(I)I"⟩, 12) (List.mem_of_getElem? (i := 11) rfl), rfl⟩
theorem wv_X1_soilPlots : Cond.selects RX1 yX1_soilPlots yX1_soilPlots ∈ WG := List.mem_filter.mpr ⟨wp_1 (⟨"BurialGround$Ledger", "soilPlots", "()J"⟩, 12) (List.mem_of_getElem? (i := 12) rfl), rfl⟩
theorem wv_X1_openPlots : Cond.selects RX1 yX1_openPlots yX1_openPlots ∈ WG := List.mem_filter.mpr ⟨wp_1 (⟨"BurialGround$Ledger", "openPlots", "()J"⟩, 12) (List.mem_of_getElem? (i := 13) rfl), rfl⟩
theorem wv_X1_isReservedIn : Cond.selects RX1 yX1_isReservedIn yX1_isReservedIn ∈ WG := List.mem_filter.mpr ⟨wp_1 (⟨"BurialGround$Ledger", "isReservedIn", "(II)Z"⟩, 12) (List.mem_of_getElem? (i := 14) rfl), rfl⟩
theorem wv_X1_allVaults : Cond.selects RX1 yX1_allVaults yX1_allVaults ∈ WG := List.mem_filter.mpr ⟨wp_1 (⟨"BurialGround$Ledger", "allVaults", "()I"⟩, 12) (List.mem_of_getElem? (i := 15) rfl), rfl⟩
theorem wv_X1_vaultsOf : Cond.selects RX1 yX1_vaultsOf yX1_vaultsOf ∈ WG := List.mem_filter.mpr ⟨wp_2 (⟨"BurialGround$Ledger", "vaultsOf", "(I)I"⟩, 12) (List.mem_of_getElem? (i := 0) rfl), rfl⟩
theorem wv_X1_allPaid : Cond.selects RX1 yX1_allPaid yX1_allPaid ∈ WG := List.mem_filter.mpr ⟨wp_2 (⟨"BurialGround$Ledger", "allPaid", "()I"⟩, 12) (List.mem_of_getElem? (i := 1) rfl), rfl⟩
theorem wv_X2_plotDigest : Cond.selects RX2 yX2_plotDigest yX2_plotDigest ∈ WG := List.mem_filter.mpr ⟨wp_2 (⟨"BurialGround", "plotDigest", "(JI)J"⟩, 6) (List.mem_of_getElem? (i := 2) rfl), rfl⟩
theorem wv_X1_holder : Cond.selects RX1 yX1_holder yX1_holder ∈ WG := List.mem_filter.mpr ⟨wp_2 (⟨"BurialGround$Ledger", "holder", "(II)I"⟩, 12) (List.mem_of_getElem? (i := 3) rfl), rfl⟩
theorem wv_X1_isReached : Cond.selects RX1 yX1_isReached yX1_isReached ∈ WG := List.mem_filter.mpr ⟨wp_2 (⟨"BurialGround$Ledger", "isReached", "(I)Z"⟩, 12) (List.mem_of_getElem? (i := 4) rfl), rfl⟩
theorem wv_X1_greatestDepth : Cond.selects RX1 yX1_greatestDepth yX1_greatestDepth ∈ WG := List.mem_filter.mpr ⟨wp_2 (⟨"BurialGround$Ledger", "greatestDepth", "(I)I"⟩, 12) (List.mem_of_getElem? (i := 5) rfl), rfl⟩
theorem wv_X2_familyDigest : Cond.selects RX2 yX2_familyDigest yX2_familyDigest ∈ WG := List.mem_filter.mpr ⟨wp_2 (⟨"BurialGround", "familyDigest", "(JI)J"⟩, 6) (List.mem_of_getElem? (i := 6) rfl), rfl⟩
theorem wv_X1_burialsOf : Cond.selects RX1 yX1_burialsOf yX1_burialsOf ∈ WG := List.mem_filter.mpr ⟨wp_2 (⟨"BurialGround$Ledger", "burialsOf", "(I)I"⟩, 12) (List.mem_of_getElem? (i := 7) rfl), rfl⟩
theorem wv_X1_plotsHeldBy : Cond.selects RX1 yX1_plotsHeldBy yX1_plotsHeldBy ∈ WG := List.mem_filter.mpr ⟨wp_2 (⟨"BurialGround$Ledger", "plotsHeldBy", "(I)I"⟩, 12) (List.mem_of_getElem? (i := 8) rfl), rfl⟩
theorem wv_X1_leastFee : Cond.selects RX1 yX1_leastFee yX1_leastFee ∈ WG := List.mem_filter.mpr ⟨wp_2 (⟨"BurialGround$Ledger", "leastFee", "(II)I"⟩, 12) (List.mem_of_getElem? (i := 9) rfl), rfl⟩
theorem wv_X1_freeDepth : Cond.selects RX1 yX1_freeDepth yX1_freeDepth ∈ WG := List.mem_filter.mpr ⟨wp_2 (⟨"BurialGround$Ledger", "freeDepth", "(I)I"⟩, 12) (List.mem_of_getElem? (i := 10) rfl), rfl⟩
theorem wv_X1_vaultRefusal : Cond.selects RX1 yX1_vaultRefusal yX1_vaultRefusal ∈ WG := List.mem_filter.mpr ⟨wp_2 (⟨"BurialGround$Ledger", "vaultRefusal", "(III)I"⟩, 12) (List.mem_of_getElem? (i := 11) rfl), rfl⟩
theorem wv_X1_latestBurial : Cond.selects RX1 yX1_latestBurial yX1_latestBurial ∈ WG := List.mem_filter.mpr ⟨wp_2 (⟨"BurialGround$Ledger", "latestBurial", "(I)I"⟩, 12) (List.mem_of_getElem? (i := 12) rfl), rfl⟩
theorem wv_X1_priceFor : Cond.selects RX1 yX1_priceFor yX1_priceFor ∈ WG := List.mem_filter.mpr ⟨wp_2 (⟨"BurialGround$Ledger", "priceFor", "(II)I"⟩, 12) (List.mem_of_getElem? (i := 13) rfl), rfl⟩
theorem wv_X1_hasReservation : Cond.selects RX1 yX1_hasReservation yX1_hasReservation ∈ WG := List.mem_filter.mpr ⟨wp_2 (⟨"BurialGround$Ledger", "hasReservation", "(II)Z"⟩, 12) (List.mem_of_getElem? (i := 14) rfl), rfl⟩
theorem wv_X2_bufferDigest : Cond.selects RX2 yX2_bufferDigest yX2_bufferDigest ∈ WG := List.mem_filter.mpr ⟨wp_2 (⟨"BurialGround", "bufferDigest", "(J)J"⟩, 6) (List.mem_of_getElem? (i := 15) rfl), rfl⟩
theorem wv_X2_save : Cond.selects RX2 yX2_save yX2_save ∈ WG := List.mem_filter.mpr ⟨wp_3 (⟨"BurialGround", "save", "()V"⟩, 6) (List.mem_of_getElem? (i := 1) rfl), rfl⟩
theorem wv_X2_dropOldest : Cond.selects RX2 yX2_dropOldest yX2_dropOldest ∈ WG := List.mem_filter.mpr ⟨wp_3 (⟨"BurialGround", "dropOldest", "()V"⟩, 6) (List.mem_of_getElem? (i := 2) rfl), rfl⟩
theorem wv_X1_reachedWithout : Cond.selects RX1 yX1_reachedWithout yX1_reachedWithout ∈ WG := List.mem_filter.mpr ⟨wp_3 (⟨"BurialGround$Ledger", "reachedWithout", "(J)J"⟩, 12) (List.mem_of_getElem? (i := 3) rfl), rfl⟩
theorem wv_X1_charge : Cond.selects RX1 yX1_charge yX1_charge ∈ WG := List.mem_filter.mpr ⟨wp_3 (⟨"BurialGround$Ledger", "charge", "(II)I"⟩, 12) (List.mem_of_getElem? (i := 4) rfl), rfl⟩
theorem wv_X2_carryOutEntries : Cond.selects RX2 yX2_carryOutEntries yX2_carryOutEntries ∈ WG := List.mem_filter.mpr ⟨wp_3 (⟨"BurialGround", "carryOutEntries", "()I"⟩, 6) (List.mem_of_getElem? (i := 5) rfl), rfl⟩
theorem wv_X2_carryOutEntry : Cond.selects RX2 yX2_carryOutEntry yX2_carryOutEntry ∈ WG := List.mem_filter.mpr ⟨wp_3 (⟨"BurialGround", "carryOutEntry", "()Z"⟩, 6) (List.mem_of_getElem? (i := 6) rfl), rfl⟩
theorem wv_X3_look : Cond.selects RX3 yX3_look yX3_look ∈ WG := List.mem_filter.mpr ⟨wp_3 (⟨"BurialGroundModel", "look", "()V"⟩, 16) (List.mem_of_getElem? (i := 7) rfl), rfl⟩
theorem wv_X3_walk : Cond.selects RX3 yX3_walk yX3_walk ∈ WG := List.mem_filter.mpr ⟨wp_3 (⟨"BurialGroundModel", "walk", "(I)V"⟩, 16) (List.mem_of_getElem? (i := 8) rfl), rfl⟩
theorem wv_X3_buried : Cond.selects RX3 yX3_buried yX3_buried ∈ WG := List.mem_filter.mpr ⟨wp_3 (⟨"BurialGroundModel", "buried", "(I)I"⟩, 16) (List.mem_of_getElem? (i := 9) rfl), rfl⟩
theorem wv_X3_fails : Cond.selects RX3 yX3_fails yX3_fails ∈ WG := List.mem_filter.mpr ⟨wp_3 (⟨"BurialGroundModel", "fails", "(I)I"⟩, 16) (List.mem_of_getElem? (i := 10) rfl), rfl⟩
theorem wv_X3_save : Cond.selects RX3 yX3_save yX3_save ∈ WG := List.mem_filter.mpr ⟨wp_3 (⟨"BurialGroundModel", "save", "()V"⟩, 16) (List.mem_of_getElem? (i := 11) rfl), rfl⟩
theorem wv_X3_keptMany : Cond.selects RX3 yX3_keptMany yX3_keptMany ∈ WG := List.mem_filter.mpr ⟨wp_3 (⟨"BurialGroundModel", "keptMany", "()I"⟩, 16) (List.mem_of_getElem? (i := 12) rfl), rfl⟩
theorem wv_X3_isKept : Cond.selects RX3 yX3_isKept yX3_isKept ∈ WG := List.mem_filter.mpr ⟨wp_3 (⟨"BurialGroundModel", "isKept", "(I)Z"⟩, 16) (List.mem_of_getElem? (i := 13) rfl), rfl⟩
theorem wv_X3_reason : Cond.selects RX3 yX3_reason yX3_reason ∈ WG := List.mem_filter.mpr ⟨wp_3 (⟨"BurialGroundModel", "reason", "(III)I"⟩, 16) (List.mem_of_getElem? (i := 14) rfl), rfl⟩
theorem wv_X3_isOthers : Cond.selects RX3 yX3_isOthers yX3_isOthers ∈ WG := List.mem_filter.mpr ⟨wp_3 (⟨"BurialGroundModel", "isOthers", "(II)Z"⟩, 16) (List.mem_of_getElem? (i := 15) rfl), rfl⟩
theorem wv_X3_holder : Cond.selects RX3 yX3_holder yX3_holder ∈ WG := List.mem_filter.mpr ⟨wp_4 (⟨"BurialGroundModel", "holder", "(I)I"⟩, 16) (List.mem_of_getElem? (i := 0) rfl), rfl⟩
theorem wv_X3_isOld : Cond.selects RX3 yX3_isOld yX3_isOld ∈ WG := List.mem_filter.mpr ⟨wp_4 (⟨"BurialGroundModel", "isOld", "(II)Z"⟩, 16) (List.mem_of_getElem? (i := 1) rfl), rfl⟩
theorem wv_X3_rest : Cond.selects RX3 yX3_rest yX3_rest ∈ WG := List.mem_filter.mpr ⟨wp_4 (⟨"BurialGroundModel", "rest", "(I)I"⟩, 16) (List.mem_of_getElem? (i := 2) rfl), rfl⟩
theorem wv_X3_deep : Cond.selects RX3 yX3_deep yX3_deep ∈ WG := List.mem_filter.mpr ⟨wp_4 (⟨"BurialGroundModel", "deep", "(I)I"⟩, 16) (List.mem_of_getElem? (i := 3) rfl), rfl⟩
theorem wv_X3_highest : Cond.selects RX3 yX3_highest yX3_highest ∈ WG := List.mem_filter.mpr ⟨wp_4 (⟨"BurialGroundModel", "highest", "(I)I"⟩, 16) (List.mem_of_getElem? (i := 4) rfl), rfl⟩
theorem wv_X3_isReached : Cond.selects RX3 yX3_isReached yX3_isReached ∈ WG := List.mem_filter.mpr ⟨wp_4 (⟨"BurialGroundModel", "isReached", "(I)Z"⟩, 16) (List.mem_of_getElem? (i := 5) rfl), rfl⟩
theorem wv_X3_latest : Cond.selects RX3 yX3_latest yX3_latest ∈ WG := List.mem_filter.mpr ⟨wp_4 (⟨"BurialGroundModel", "latest", "(I)I"⟩, 16) (List.mem_of_getElem? (i := 6) rfl), rfl⟩
theorem wv_X3_buries : Cond.selects RX3 yX3_buries yX3_buries ∈ WG := List.mem_filter.mpr ⟨wp_4 (⟨"BurialGroundModel", "buries", "(III)I"⟩, 16) (List.mem_of_getElem? (i := 7) rfl), rfl⟩
theorem wv_X3_price : Cond.selects RX3 yX3_price yX3_price ∈ WG := List.mem_filter.mpr ⟨wp_4 (⟨"BurialGroundModel", "price", "(III)I"⟩, 16) (List.mem_of_getElem? (i := 8) rfl), rfl⟩
theorem wv_X3_mayReserve : Cond.selects RX3 yX3_mayReserve yX3_mayReserve ∈ WG := List.mem_filter.mpr ⟨wp_4 (⟨"BurialGroundModel", "mayReserve", "(II)Z"⟩, 16) (List.mem_of_getElem? (i := 9) rfl), rfl⟩
theorem wv_X3_reserves : Cond.selects RX3 yX3_reserves yX3_reserves ∈ WG := List.mem_filter.mpr ⟨wp_4 (⟨"BurialGroundModel", "reserves", "(III)I"⟩, 16) (List.mem_of_getElem? (i := 10) rfl), rfl⟩
theorem wv_X3_fresh : Cond.selects RX3 yX3_fresh yX3_fresh ∈ WG := List.mem_filter.mpr ⟨wp_4 (⟨"BurialGroundModel", "fresh", "(I)I"⟩, 16) (List.mem_of_getElem? (i := 11) rfl), rfl⟩
theorem wv_X3_read : Cond.selects RX3 yX3_read yX3_read ∈ WG := List.mem_filter.mpr ⟨wp_4 (⟨"BurialGroundModel", "read", "()I"⟩, 16) (List.mem_of_getElem? (i := 12) rfl), rfl⟩
theorem wv_X3_next : Cond.selects RX3 yX3_next yX3_next ∈ WG := List.mem_filter.mpr ⟨wp_4 (⟨"BurialGroundModel", "next", "(II)I"⟩, 16) (List.mem_of_getElem? (i := 13) rfl), rfl⟩
theorem wv_X3_plotNow : Cond.selects RX3 yX3_plotNow yX3_plotNow ∈ WG := List.mem_filter.mpr ⟨wp_4 (⟨"BurialGroundModel", "plotNow", "(II)I"⟩, 16) (List.mem_of_getElem? (i := 14) rfl), rfl⟩
theorem wv_X3_burialNow : Cond.selects RX3 yX3_burialNow yX3_burialNow ∈ WG := List.mem_filter.mpr ⟨wp_4 (⟨"BurialGroundModel", "burialNow", "(III)I"⟩, 16) (List.mem_of_getElem? (i := 15) rfl), rfl⟩
theorem wv_X3_familyNow : Cond.selects RX3 yX3_familyNow yX3_familyNow ∈ WG := List.mem_filter.mpr ⟨wp_5 (⟨"BurialGroundModel", "familyNow", "(II)I"⟩, 16) (List.mem_of_getElem? (i := 0) rfl), rfl⟩
theorem wv_X3_counted : Cond.selects RX3 yX3_counted yX3_counted ∈ WG := List.mem_filter.mpr ⟨wp_5 (⟨"BurialGroundModel", "counted", "(I)I"⟩, 16) (List.mem_of_getElem? (i := 1) rfl), rfl⟩
theorem wv_X3_bestNow : Cond.selects RX3 yX3_bestNow yX3_bestNow ∈ WG := List.mem_filter.mpr ⟨wp_5 (⟨"BurialGroundModel", "bestNow", "(I)I"⟩, 16) (List.mem_of_getElem? (i := 2) rfl), rfl⟩
theorem wv_X3_clearNow : Cond.selects RX3 yX3_clearNow yX3_clearNow ∈ WG := List.mem_filter.mpr ⟨wp_5 (⟨"BurialGroundModel", "clearNow", "(I)I"⟩, 16) (List.mem_of_getElem? (i := 3) rfl), rfl⟩
theorem wv_X3_cutNow : Cond.selects RX3 yX3_cutNow yX3_cutNow ∈ WG := List.mem_filter.mpr ⟨wp_5 (⟨"BurialGroundModel", "cutNow", "(I)I"⟩, 16) (List.mem_of_getElem? (i := 4) rfl), rfl⟩
theorem wv_X3_meanNow : Cond.selects RX3 yX3_meanNow yX3_meanNow ∈ WG := List.mem_filter.mpr ⟨wp_5 (⟨"BurialGroundModel", "meanNow", "()D"⟩, 16) (List.mem_of_getElem? (i := 5) rfl), rfl⟩
theorem wv_X3_mix : Cond.selects RX3 yX3_mix yX3_mix ∈ WG := List.mem_filter.mpr ⟨wp_5 (⟨"BurialGroundModel", "mix", "(J)V"⟩, 16) (List.mem_of_getElem? (i := 6) rfl), rfl⟩
theorem inX0 : ∀ w ∈ wsX00, w ∈ WG := by
  intro w h
  obtain ⟨k, hk, rfl⟩ := List.mem_map.mp h
  have hk := List.mem_range.mp hk
  match k, hk with
  | 0, _ => exact wy_X0_stage
  | 1, _ => exact wy_X0_reserves
  | 2, _ => exact wy_X0_family
  | 3, _ => exact wy_X0_plot
  | 4, _ => exact wy_X0_number
  | k + 5, hk => exact absurd hk (by omega)
theorem inX1 : ∀ w ∈ wsX10, w ∈ WG := by
  intro w h
  obtain ⟨k, hk, rfl⟩ := List.mem_map.mp h
  have hk := List.mem_range.mp hk
  match k, hk with
  | 0, _ => exact wy_X1_year
  | 1, _ => exact wy_X1_parish
  | 2, _ => exact wy_X1_paid
  | 3, _ => exact wy_X1_burialsSoFar
  | 4, _ => exact wy_X1_kind
  | 5, _ => exact wy_X1_vaultOf
  | 6, _ => exact wy_X1_reservedFor
  | 7, _ => exact wy_X1_reservedUpTo
  | 8, _ => exact wy_X1_buried
  | 9, _ => exact wy_X1_buriedIn
  | 10, _ => exact wy_X1_feePaid
  | 11, _ => exact wy_X1_reached
  | k + 12, hk => exact absurd hk (by omega)
theorem inX2 : ∀ w ∈ wsX20, w ∈ WG := by
  intro w h
  obtain ⟨k, hk, rfl⟩ := List.mem_map.mp h
  have hk := List.mem_range.mp hk
  match k, hk with
  | 0, _ => exact wy_X2_now
  | 1, _ => exact wy_X2_saved
  | 2, _ => exact wy_X2_savedCount
  | 3, _ => exact wy_X2_buffer
  | 4, _ => exact wy_X2_length
  | 5, _ => exact wy_X2_reader
  | k + 6, hk => exact absurd hk (by omega)
theorem inX3 : ∀ w ∈ wsX30, w ∈ WG := by
  intro w h
  obtain ⟨k, hk, rfl⟩ := List.mem_map.mp h
  have hk := List.mem_range.mp hk
  match k, hk with
  | 0, _ => exact wy_X3_z
  | 1, _ => exact wy_X3_rows
  | 2, _ => exact wy_X3_saved
  | 3, _ => exact wy_X3_text
  | 4, _ => exact wy_X3_length
  | 5, _ => exact wy_X3_thrown
  | 6, _ => exact wy_X3_now
  | 7, _ => exact wy_X3_way
  | 8, _ => exact wy_X3_queue
  | 9, _ => exact wy_X3_many
  | 10, _ => exact wy_X3_sort
  | 11, _ => exact wy_X3_who
  | 12, _ => exact wy_X3_where
  | 13, _ => exact wy_X3_much
  | 14, _ => exact wy_X3_isWhole
  | 15, _ => exact wy_X3_h
  | k + 16, hk => exact absurd hk (by omega)
end
section
/-! G: W with the locals as a written list, one place a local -/
def en : Nat → List (Option Value) → List (Nat × Value)
  | _, [] => []
  | k, none :: t => en (k + 1) t
  | k, some v :: t => (k, v) :: en (k + 1) t
theorem en_mem {q : Nat × Value} : ∀ {vs : List (Option Value)} {k : Nat}, q ∈ en k vs ↔ ∃ j : Nat, q.1 = k + j ∧ vs[j]? = some (some q.2) := by
  intro vs
  induction vs with
  | nil => intro k; simp [en]
  | cons a t ih =>
    intro k
    cases a with
    | none =>
      show q ∈ en (k + 1) t ↔ _
      rw [ih]
      constructor
      · rintro ⟨j, h1, h2⟩
        exact ⟨j + 1, by omega, by simpa using h2⟩
      · rintro ⟨j, h1, h2⟩
        cases j with
        | zero => simp at h2
        | succ j => exact ⟨j, by omega, by simpa using h2⟩
    | some v =>
      show q ∈ (k, v) :: en (k + 1) t ↔ _
      rw [List.mem_cons, ih]
      constructor
      · rintro (h | ⟨j, h1, h2⟩)
        · subst h
          exact ⟨0, rfl, rfl⟩
        · exact ⟨j + 1, by omega, by simpa using h2⟩
      · rintro ⟨j, h1, h2⟩
        cases j with
        | zero =>
          refine Or.inl ?_
          simp at h2
          rw [h2, ← Nat.add_zero k, ← h1]
        | succ j => exact Or.inr ⟨j, by omega, by simpa using h2⟩
def c1 (a : Option Value) : Bool := match a with
  | some w => w.category == 1
  | none => true
section GA
variable {p : Program} {l : Launch} {e : Env} {R : Room} {s : State} {m : MethodId} {args : Array Value} {below : List Frame} {meth : Method} {c : Code} {H : Heap} {locs : List Loc} {cells slots : Nat} {Q : State → Prop}
variable {cc : ByteArray} {own : String} {nL pc : Nat} {ret : Option FieldType} {vs : List (Option Value)} {st : List Value}
def G (p : Program) (l : Launch) (e : Env) (R : Room) (s : State) (m : MethodId) (args : Array Value) (below : List Frame) (meth : Method) (c : Code) (H : Heap) (locs : List Loc) (cells slots : Nat) (Q : State → Prop) (vs : List (Option Value)) (pc : Nat) (st : List Value) : Prop :=
  ∀ ls : Array Slot, lv_has ls vs.length (en 0 vs) → W p l e R s m args below meth c H locs cells slots Q (F0 m pc ls st)
abbrev CX (p : Program) (s : State) (m : MethodId) (args : Array Value) (meth : Method) (c : Code) (cc : ByteArray) (own : String) (nL : Nat) (ret : Option FieldType) : Prop :=
  p.tables.exec = Jvm.exec ∧ c.code = cc ∧ c.maxLocals = nL ∧ s.vm.findClass own = some m.cls ∧ (∀ w ∈ WG, w.before args s = true) ∧ meth.sig.returnType = ret ∧ meth.locks = false
theorem G.load {ls : Array Slot} (h : lv_has ls vs.length (en 0 vs)) {i : Nat} {v : Value} (hv : vs[i]? = some (some v)) : ls[i]? = some (.val v) := h.2.2 (i, v) (en_mem.mpr ⟨i, (Nat.zero_add i).symm, hv⟩)
/-- what holds of the new list's places, out of the old ones -/
theorem G.sto {ls : Array Slot} {vs' : List (Option Value)} {i : Nat} {x : Value} {f : Nat × Value → Bool} (hlen : vs'.length = vs.length) (hf : ∀ (j : Nat) (w : Value), vs'[j]? = some (some w) → (j = i ∧ w = x) ∨ (vs[j]? = some (some w) ∧ f (j, w) = true)) (h : lv_has ls vs.length ((i, x) :: (en 0 vs).filter f)) : lv_has ls vs'.length (en 0 vs') := by
  refine ⟨by rw [hlen]; exact h.1, h.2.1, fun q hq => ?_⟩
  obtain ⟨j, h1, h2⟩ := en_mem.mp hq
  have h1 : q.1 = j := by omega
  rcases hf j q.2 h2 with ⟨h3, h4⟩ | ⟨h3, h4⟩
  · have : q = (i, x) := Prod.ext (h1.trans h3) h4
    rw [this]
    exact h.2.2 _ List.mem_cons_self
  · refine h.2.2 q (List.mem_cons_of_mem _ (List.mem_filter.mpr ⟨en_mem.mpr ⟨j, by omega, h3⟩, ?_⟩))
    rw [show q = (j, q.2) from Prod.ext h1 rfl]
    exact h4

theorem g_iload0 (C : CX p s m args meth c cc own nL ret) {t : List (Option Value)} {x : Int32} (hd : decode cc pc = .ok (.iload_n 0, 1)) (k : G p l e R s m args below meth c H locs cells slots Q (some (.int x) :: t) (pc + 1) (.int x :: st)) : G p l e R s m args below meth c H locs cells slots Q (some (.int x) :: t) pc st := fun ls h => lv_iload_n C.1 C.2.1 hd rfl (G.load (i := 0) h rfl) (k ls h)
theorem g_iload1 (C : CX p s m args meth c cc own nL ret) {a0 : Option Value} {t : List (Option Value)} {x : Int32} (hd : decode cc pc = .ok (.iload_n 1, 1)) (k : G p l e R s m args below meth c H locs cells slots Q (a0 :: some (.int x) :: t) (pc + 1) (.int x :: st)) : G p l e R s m args below meth c H locs cells slots Q (a0 :: some (.int x) :: t) pc st := fun ls h => lv_iload_n C.1 C.2.1 hd rfl (G.load (i := 1) h rfl) (k ls h)
theorem g_iload2 (C : CX p s m args meth c cc own nL ret) {a0 a1 : Option Value} {t : List (Option Value)} {x : Int32} (hd : decode cc pc = .ok (.iload_n 2, 1)) (k : G p l e R s m args below meth c H locs cells slots Q (a0 :: a1 :: some (.int x) :: t) (pc + 1) (.int x :: st)) : G p l e R s m args below meth c H locs cells slots Q (a0 :: a1 :: some (.int x) :: t) pc st := fun ls h => lv_iload_n C.1 C.2.1 hd rfl (G.load (i := 2) h rfl) (k ls h)
theorem g_iload3 (C : CX p s m args meth c cc own nL ret) {a0 a1 a2 : Option Value} {t : List (Option Value)} {x : Int32} (hd : decode cc pc = .ok (.iload_n 3, 1)) (k : G p l e R s m args below meth c H locs cells slots Q (a0 :: a1 :: a2 :: some (.int x) :: t) (pc + 1) (.int x :: st)) : G p l e R s m args below meth c H locs cells slots Q (a0 :: a1 :: a2 :: some (.int x) :: t) pc st := fun ls h => lv_iload_n C.1 C.2.1 hd rfl (G.load (i := 3) h rfl) (k ls h)
theorem g_iload4 (C : CX p s m args meth c cc own nL ret) {a0 a1 a2 a3 : Option Value} {t : List (Option Value)} {x : Int32} (hd : decode cc pc = .ok (.iload 4, 2)) (k : G p l e R s m args below meth c H locs cells slots Q (a0 :: a1 :: a2 :: a3 :: some (.int x) :: t) (pc + 2) (.int x :: st)) : G p l e R s m args below meth c H locs cells slots Q (a0 :: a1 :: a2 :: a3 :: some (.int x) :: t) pc st := fun ls h => lv_iload C.1 C.2.1 hd (G.load (i := 4) h rfl) (k ls h)
theorem g_iload5 (C : CX p s m args meth c cc own nL ret) {a0 a1 a2 a3 a4 : Option Value} {t : List (Option Value)} {x : Int32} (hd : decode cc pc = .ok (.iload 5, 2)) (k : G p l e R s m args below meth c H locs cells slots Q (a0 :: a1 :: a2 :: a3 :: a4 :: some (.int x) :: t) (pc + 2) (.int x :: st)) : G p l e R s m args below meth c H locs cells slots Q (a0 :: a1 :: a2 :: a3 :: a4 :: some (.int x) :: t) pc st := fun ls h => lv_iload C.1 C.2.1 hd (G.load (i := 5) h rfl) (k ls h)
theorem g_iload6 (C : CX p s m args meth c cc own nL ret) {a0 a1 a2 a3 a4 a5 : Option Value} {t : List (Option Value)} {x : Int32} (hd : decode cc pc = .ok (.iload 6, 2)) (k : G p l e R s m args below meth c H locs cells slots Q (a0 :: a1 :: a2 :: a3 :: a4 :: a5 :: some (.int x) :: t) (pc + 2) (.int x :: st)) : G p l e R s m args below meth c H locs cells slots Q (a0 :: a1 :: a2 :: a3 :: a4 :: a5 :: some (.int x) :: t) pc st := fun ls h => lv_iload C.1 C.2.1 hd (G.load (i := 6) h rfl) (k ls h)
theorem g_iload7 (C : CX p s m args meth c cc own nL ret) {a0 a1 a2 a3 a4 a5 a6 : Option Value} {t : List (Option Value)} {x : Int32} (hd : decode cc pc = .ok (.iload 7, 2)) (k : G p l e R s m args below meth c H locs cells slots Q (a0 :: a1 :: a2 :: a3 :: a4 :: a5 :: a6 :: some (.int x) :: t) (pc + 2) (.int x :: st)) : G p l e R s m args below meth c H locs cells slots Q (a0 :: a1 :: a2 :: a3 :: a4 :: a5 :: a6 :: some (.int x) :: t) pc st := fun ls h => lv_iload C.1 C.2.1 hd (G.load (i := 7) h rfl) (k ls h)
theorem g_iload8 (C : CX p s m args meth c cc own nL ret) {a0 a1 a2 a3 a4 a5 a6 a7 : Option Value} {t : List (Option Value)} {x : Int32} (hd : decode cc pc = .ok (.iload 8, 2)) (k : G p l e R s m args below meth c H locs cells slots Q (a0 :: a1 :: a2 :: a3 :: a4 :: a5 :: a6 :: a7 :: some (.int x) :: t) (pc + 2) (.int x :: st)) : G p l e R s m args below meth c H locs cells slots Q (a0 :: a1 :: a2 :: a3 :: a4 :: a5 :: a6 :: a7 :: some (.int x) :: t) pc st := fun ls h => lv_iload C.1 C.2.1 hd (G.load (i := 8) h rfl) (k ls h)
theorem g_aload0 (C : CX p s m args meth c cc own nL ret) {t : List (Option Value)} {x : Nat} (hd : decode cc pc = .ok (.aload_n 0, 1)) (k : G p l e R s m args below meth c H locs cells slots Q (some (.ref x) :: t) (pc + 1) (.ref x :: st)) : G p l e R s m args below meth c H locs cells slots Q (some (.ref x) :: t) pc st := fun ls h => lv_aload_n C.1 C.2.1 hd rfl (G.load (i := 0) h rfl) (k ls h)
theorem g_aload1 (C : CX p s m args meth c cc own nL ret) {a0 : Option Value} {t : List (Option Value)} {x : Nat} (hd : decode cc pc = .ok (.aload_n 1, 1)) (k : G p l e R s m args below meth c H locs cells slots Q (a0 :: some (.ref x) :: t) (pc + 1) (.ref x :: st)) : G p l e R s m args below meth c H locs cells slots Q (a0 :: some (.ref x) :: t) pc st := fun ls h => lv_aload_n C.1 C.2.1 hd rfl (G.load (i := 1) h rfl) (k ls h)
theorem g_aload2 (C : CX p s m args meth c cc own nL ret) {a0 a1 : Option Value} {t : List (Option Value)} {x : Nat} (hd : decode cc pc = .ok (.aload_n 2, 1)) (k : G p l e R s m args below meth c H locs cells slots Q (a0 :: a1 :: some (.ref x) :: t) (pc + 1) (.ref x :: st)) : G p l e R s m args below meth c H locs cells slots Q (a0 :: a1 :: some (.ref x) :: t) pc st := fun ls h => lv_aload_n C.1 C.2.1 hd rfl (G.load (i := 2) h rfl) (k ls h)
theorem g_aload3 (C : CX p s m args meth c cc own nL ret) {a0 a1 a2 : Option Value} {t : List (Option Value)} {x : Nat} (hd : decode cc pc = .ok (.aload_n 3, 1)) (k : G p l e R s m args below meth c H locs cells slots Q (a0 :: a1 :: a2 :: some (.ref x) :: t) (pc + 1) (.ref x :: st)) : G p l e R s m args below meth c H locs cells slots Q (a0 :: a1 :: a2 :: some (.ref x) :: t) pc st := fun ls h => lv_aload_n C.1 C.2.1 hd rfl (G.load (i := 3) h rfl) (k ls h)
theorem g_aload4 (C : CX p s m args meth c cc own nL ret) {a0 a1 a2 a3 : Option Value} {t : List (Option Value)} {x : Nat} (hd : decode cc pc = .ok (.aload 4, 2)) (k : G p l e R s m args below meth c H locs cells slots Q (a0 :: a1 :: a2 :: a3 :: some (.ref x) :: t) (pc + 2) (.ref x :: st)) : G p l e R s m args below meth c H locs cells slots Q (a0 :: a1 :: a2 :: a3 :: some (.ref x) :: t) pc st := fun ls h => lv_aload C.1 C.2.1 hd (G.load (i := 4) h rfl) (k ls h)
theorem g_aload5 (C : CX p s m args meth c cc own nL ret) {a0 a1 a2 a3 a4 : Option Value} {t : List (Option Value)} {x : Nat} (hd : decode cc pc = .ok (.aload 5, 2)) (k : G p l e R s m args below meth c H locs cells slots Q (a0 :: a1 :: a2 :: a3 :: a4 :: some (.ref x) :: t) (pc + 2) (.ref x :: st)) : G p l e R s m args below meth c H locs cells slots Q (a0 :: a1 :: a2 :: a3 :: a4 :: some (.ref x) :: t) pc st := fun ls h => lv_aload C.1 C.2.1 hd (G.load (i := 5) h rfl) (k ls h)
theorem g_aload6 (C : CX p s m args meth c cc own nL ret) {a0 a1 a2 a3 a4 a5 : Option Value} {t : List (Option Value)} {x : Nat} (hd : decode cc pc = .ok (.aload 6, 2)) (k : G p l e R s m args below meth c H locs cells slots Q (a0 :: a1 :: a2 :: a3 :: a4 :: a5 :: some (.ref x) :: t) (pc + 2) (.ref x :: st)) : G p l e R s m args below meth c H locs cells slots Q (a0 :: a1 :: a2 :: a3 :: a4 :: a5 :: some (.ref x) :: t) pc st := fun ls h => lv_aload C.1 C.2.1 hd (G.load (i := 6) h rfl) (k ls h)
theorem g_aload7 (C : CX p s m args meth c cc own nL ret) {a0 a1 a2 a3 a4 a5 a6 : Option Value} {t : List (Option Value)} {x : Nat} (hd : decode cc pc = .ok (.aload 7, 2)) (k : G p l e R s m args below meth c H locs cells slots Q (a0 :: a1 :: a2 :: a3 :: a4 :: a5 :: a6 :: some (.ref x) :: t) (pc + 2) (.ref x :: st)) : G p l e R s m args below meth c H locs cells slots Q (a0 :: a1 :: a2 :: a3 :: a4 :: a5 :: a6 :: some (.ref x) :: t) pc st := fun ls h => lv_aload C.1 C.2.1 hd (G.load (i := 7) h rfl) (k ls h)
theorem g_aload8 (C : CX p s m args meth c cc own nL ret) {a0 a1 a2 a3 a4 a5 a6 a7 : Option Value} {t : List (Option Value)} {x : Nat} (hd : decode cc pc = .ok (.aload 8, 2)) (k : G p l e R s m args below meth c H locs cells slots Q (a0 :: a1 :: a2 :: a3 :: a4 :: a5 :: a6 :: a7 :: some (.ref x) :: t) (pc + 2) (.ref x :: st)) : G p l e R s m args below meth c H locs cells slots Q (a0 :: a1 :: a2 :: a3 :: a4 :: a5 :: a6 :: a7 :: some (.ref x) :: t) pc st := fun ls h => lv_aload C.1 C.2.1 hd (G.load (i := 8) h rfl) (k ls h)
theorem g_lload0 (C : CX p s m args meth c cc own nL ret) {t : List (Option Value)} {x : Int64} (hd : decode cc pc = .ok (.lload_n 0, 1)) (k : G p l e R s m args below meth c H locs cells slots Q (some (.long x) :: t) (pc + 1) (.long x :: st)) : G p l e R s m args below meth c H locs cells slots Q (some (.long x) :: t) pc st := fun ls h => lv_lload_n C.1 C.2.1 hd rfl (G.load (i := 0) h rfl) (k ls h)
theorem g_lload1 (C : CX p s m args meth c cc own nL ret) {a0 : Option Value} {t : List (Option Value)} {x : Int64} (hd : decode cc pc = .ok (.lload_n 1, 1)) (k : G p l e R s m args below meth c H locs cells slots Q (a0 :: some (.long x) :: t) (pc + 1) (.long x :: st)) : G p l e R s m args below meth c H locs cells slots Q (a0 :: some (.long x) :: t) pc st := fun ls h => lv_lload_n C.1 C.2.1 hd rfl (G.load (i := 1) h rfl) (k ls h)
theorem g_lload2 (C : CX p s m args meth c cc own nL ret) {a0 a1 : Option Value} {t : List (Option Value)} {x : Int64} (hd : decode cc pc = .ok (.lload_n 2, 1)) (k : G p l e R s m args below meth c H locs cells slots Q (a0 :: a1 :: some (.long x) :: t) (pc + 1) (.long x :: st)) : G p l e R s m args below meth c H locs cells slots Q (a0 :: a1 :: some (.long x) :: t) pc st := fun ls h => lv_lload_n C.1 C.2.1 hd rfl (G.load (i := 2) h rfl) (k ls h)
theorem g_lload3 (C : CX p s m args meth c cc own nL ret) {a0 a1 a2 : Option Value} {t : List (Option Value)} {x : Int64} (hd : decode cc pc = .ok (.lload_n 3, 1)) (k : G p l e R s m args below meth c H locs cells slots Q (a0 :: a1 :: a2 :: some (.long x) :: t) (pc + 1) (.long x :: st)) : G p l e R s m args below meth c H locs cells slots Q (a0 :: a1 :: a2 :: some (.long x) :: t) pc st := fun ls h => lv_lload_n C.1 C.2.1 hd rfl (G.load (i := 3) h rfl) (k ls h)
theorem g_lload4 (C : CX p s m args meth c cc own nL ret) {a0 a1 a2 a3 : Option Value} {t : List (Option Value)} {x : Int64} (hd : decode cc pc = .ok (.lload 4, 2)) (k : G p l e R s m args below meth c H locs cells slots Q (a0 :: a1 :: a2 :: a3 :: some (.long x) :: t) (pc + 2) (.long x :: st)) : G p l e R s m args below meth c H locs cells slots Q (a0 :: a1 :: a2 :: a3 :: some (.long x) :: t) pc st := fun ls h => lv_lload C.1 C.2.1 hd (G.load (i := 4) h rfl) (k ls h)
theorem g_lload5 (C : CX p s m args meth c cc own nL ret) {a0 a1 a2 a3 a4 : Option Value} {t : List (Option Value)} {x : Int64} (hd : decode cc pc = .ok (.lload 5, 2)) (k : G p l e R s m args below meth c H locs cells slots Q (a0 :: a1 :: a2 :: a3 :: a4 :: some (.long x) :: t) (pc + 2) (.long x :: st)) : G p l e R s m args below meth c H locs cells slots Q (a0 :: a1 :: a2 :: a3 :: a4 :: some (.long x) :: t) pc st := fun ls h => lv_lload C.1 C.2.1 hd (G.load (i := 5) h rfl) (k ls h)
theorem g_lload6 (C : CX p s m args meth c cc own nL ret) {a0 a1 a2 a3 a4 a5 : Option Value} {t : List (Option Value)} {x : Int64} (hd : decode cc pc = .ok (.lload 6, 2)) (k : G p l e R s m args below meth c H locs cells slots Q (a0 :: a1 :: a2 :: a3 :: a4 :: a5 :: some (.long x) :: t) (pc + 2) (.long x :: st)) : G p l e R s m args below meth c H locs cells slots Q (a0 :: a1 :: a2 :: a3 :: a4 :: a5 :: some (.long x) :: t) pc st := fun ls h => lv_lload C.1 C.2.1 hd (G.load (i := 6) h rfl) (k ls h)
theorem g_lload7 (C : CX p s m args meth c cc own nL ret) {a0 a1 a2 a3 a4 a5 a6 : Option Value} {t : List (Option Value)} {x : Int64} (hd : decode cc pc = .ok (.lload 7, 2)) (k : G p l e R s m args below meth c H locs cells slots Q (a0 :: a1 :: a2 :: a3 :: a4 :: a5 :: a6 :: some (.long x) :: t) (pc + 2) (.long x :: st)) : G p l e R s m args below meth c H locs cells slots Q (a0 :: a1 :: a2 :: a3 :: a4 :: a5 :: a6 :: some (.long x) :: t) pc st := fun ls h => lv_lload C.1 C.2.1 hd (G.load (i := 7) h rfl) (k ls h)
theorem g_lload8 (C : CX p s m args meth c cc own nL ret) {a0 a1 a2 a3 a4 a5 a6 a7 : Option Value} {t : List (Option Value)} {x : Int64} (hd : decode cc pc = .ok (.lload 8, 2)) (k : G p l e R s m args below meth c H locs cells slots Q (a0 :: a1 :: a2 :: a3 :: a4 :: a5 :: a6 :: a7 :: some (.long x) :: t) (pc + 2) (.long x :: st)) : G p l e R s m args below meth c H locs cells slots Q (a0 :: a1 :: a2 :: a3 :: a4 :: a5 :: a6 :: a7 :: some (.long x) :: t) pc st := fun ls h => lv_lload C.1 C.2.1 hd (G.load (i := 8) h rfl) (k ls h)
theorem g_dload0 (C : CX p s m args meth c cc own nL ret) {t : List (Option Value)} {x : UInt64} (hd : decode cc pc = .ok (.dload_n 0, 1)) (k : G p l e R s m args below meth c H locs cells slots Q (some (.double x) :: t) (pc + 1) (.double x :: st)) : G p l e R s m args below meth c H locs cells slots Q (some (.double x) :: t) pc st := fun ls h => lv_dload_n C.1 C.2.1 hd rfl (G.load (i := 0) h rfl) (k ls h)
theorem g_dload1 (C : CX p s m args meth c cc own nL ret) {a0 : Option Value} {t : List (Option Value)} {x : UInt64} (hd : decode cc pc = .ok (.dload_n 1, 1)) (k : G p l e R s m args below meth c H locs cells slots Q (a0 :: some (.double x) :: t) (pc + 1) (.double x :: st)) : G p l e R s m args below meth c H locs cells slots Q (a0 :: some (.double x) :: t) pc st := fun ls h => lv_dload_n C.1 C.2.1 hd rfl (G.load (i := 1) h rfl) (k ls h)
theorem g_dload2 (C : CX p s m args meth c cc own nL ret) {a0 a1 : Option Value} {t : List (Option Value)} {x : UInt64} (hd : decode cc pc = .ok (.dload_n 2, 1)) (k : G p l e R s m args below meth c H locs cells slots Q (a0 :: a1 :: some (.double x) :: t) (pc + 1) (.double x :: st)) : G p l e R s m args below meth c H locs cells slots Q (a0 :: a1 :: some (.double x) :: t) pc st := fun ls h => lv_dload_n C.1 C.2.1 hd rfl (G.load (i := 2) h rfl) (k ls h)
theorem g_dload3 (C : CX p s m args meth c cc own nL ret) {a0 a1 a2 : Option Value} {t : List (Option Value)} {x : UInt64} (hd : decode cc pc = .ok (.dload_n 3, 1)) (k : G p l e R s m args below meth c H locs cells slots Q (a0 :: a1 :: a2 :: some (.double x) :: t) (pc + 1) (.double x :: st)) : G p l e R s m args below meth c H locs cells slots Q (a0 :: a1 :: a2 :: some (.double x) :: t) pc st := fun ls h => lv_dload_n C.1 C.2.1 hd rfl (G.load (i := 3) h rfl) (k ls h)
theorem g_dload4 (C : CX p s m args meth c cc own nL ret) {a0 a1 a2 a3 : Option Value} {t : List (Option Value)} {x : UInt64} (hd : decode cc pc = .ok (.dload 4, 2)) (k : G p l e R s m args below meth c H locs cells slots Q (a0 :: a1 :: a2 :: a3 :: some (.double x) :: t) (pc + 2) (.double x :: st)) : G p l e R s m args below meth c H locs cells slots Q (a0 :: a1 :: a2 :: a3 :: some (.double x) :: t) pc st := fun ls h => lv_dload C.1 C.2.1 hd (G.load (i := 4) h rfl) (k ls h)
theorem g_dload5 (C : CX p s m args meth c cc own nL ret) {a0 a1 a2 a3 a4 : Option Value} {t : List (Option Value)} {x : UInt64} (hd : decode cc pc = .ok (.dload 5, 2)) (k : G p l e R s m args below meth c H locs cells slots Q (a0 :: a1 :: a2 :: a3 :: a4 :: some (.double x) :: t) (pc + 2) (.double x :: st)) : G p l e R s m args below meth c H locs cells slots Q (a0 :: a1 :: a2 :: a3 :: a4 :: some (.double x) :: t) pc st := fun ls h => lv_dload C.1 C.2.1 hd (G.load (i := 5) h rfl) (k ls h)
theorem g_dload6 (C : CX p s m args meth c cc own nL ret) {a0 a1 a2 a3 a4 a5 : Option Value} {t : List (Option Value)} {x : UInt64} (hd : decode cc pc = .ok (.dload 6, 2)) (k : G p l e R s m args below meth c H locs cells slots Q (a0 :: a1 :: a2 :: a3 :: a4 :: a5 :: some (.double x) :: t) (pc + 2) (.double x :: st)) : G p l e R s m args below meth c H locs cells slots Q (a0 :: a1 :: a2 :: a3 :: a4 :: a5 :: some (.double x) :: t) pc st := fun ls h => lv_dload C.1 C.2.1 hd (G.load (i := 6) h rfl) (k ls h)
theorem g_dload7 (C : CX p s m args meth c cc own nL ret) {a0 a1 a2 a3 a4 a5 a6 : Option Value} {t : List (Option Value)} {x : UInt64} (hd : decode cc pc = .ok (.dload 7, 2)) (k : G p l e R s m args below meth c H locs cells slots Q (a0 :: a1 :: a2 :: a3 :: a4 :: a5 :: a6 :: some (.double x) :: t) (pc + 2) (.double x :: st)) : G p l e R s m args below meth c H locs cells slots Q (a0 :: a1 :: a2 :: a3 :: a4 :: a5 :: a6 :: some (.double x) :: t) pc st := fun ls h => lv_dload C.1 C.2.1 hd (G.load (i := 7) h rfl) (k ls h)
theorem g_dload8 (C : CX p s m args meth c cc own nL ret) {a0 a1 a2 a3 a4 a5 a6 a7 : Option Value} {t : List (Option Value)} {x : UInt64} (hd : decode cc pc = .ok (.dload 8, 2)) (k : G p l e R s m args below meth c H locs cells slots Q (a0 :: a1 :: a2 :: a3 :: a4 :: a5 :: a6 :: a7 :: some (.double x) :: t) (pc + 2) (.double x :: st)) : G p l e R s m args below meth c H locs cells slots Q (a0 :: a1 :: a2 :: a3 :: a4 :: a5 :: a6 :: a7 :: some (.double x) :: t) pc st := fun ls h => lv_dload C.1 C.2.1 hd (G.load (i := 8) h rfl) (k ls h)
theorem g_istore0 (C : CX p s m args meth c cc own nL ret) {b : Option Value} {t : List (Option Value)} {x : Int32} (hd : decode cc pc = .ok (.istore_n 0, 1)) (k : G p l e R s m args below meth c H locs cells slots Q (some (.int x) :: t) (pc + 1) st) : G p l e R s m args below meth c H locs cells slots Q (b :: t) pc (.int x :: st) := by
  intro ls h
  refine lv_istore_n (i := 0) C.1 C.2.1 hd rfl h (by simp only [List.length_cons]; omega) rfl (fun ls2 h2 => k ls2 (G.sto (by simp only [List.length_cons]) ?_ h2))
  intro j w hw
  match j, hw with
  | 0, hw => exact Or.inl ⟨rfl, (Option.some.inj (Option.some.inj hw)).symm⟩
  | j + 1, hw => exact Or.inr ⟨hw, by first | (simp; done) | (simp; omega)⟩
theorem g_istore1 (C : CX p s m args meth c cc own nL ret) {a0 b : Option Value} {t : List (Option Value)} {x : Int32} (hc : c1 a0 = true) (hd : decode cc pc = .ok (.istore_n 1, 1)) (k : G p l e R s m args below meth c H locs cells slots Q (a0 :: some (.int x) :: t) (pc + 1) st) : G p l e R s m args below meth c H locs cells slots Q (a0 :: b :: t) pc (.int x :: st) := by
  intro ls h
  refine lv_istore_n (i := 1) C.1 C.2.1 hd rfl h (by simp only [List.length_cons]; omega) rfl (fun ls2 h2 => k ls2 (G.sto (by simp only [List.length_cons]) ?_ h2))
  intro j w hw
  match j, hw with
  | 0, hw =>
    have hw2 : a0 = some w := Option.some.inj hw
    subst hw2
    have hc2 : w.category = 1 := by simpa [c1] using hc
    exact Or.inr ⟨hw, by simp [hc2]⟩
  | 1, hw => exact Or.inl ⟨rfl, (Option.some.inj (Option.some.inj hw)).symm⟩
  | j + 2, hw => exact Or.inr ⟨hw, by first | (simp; done) | (simp; omega)⟩
theorem g_istore2 (C : CX p s m args meth c cc own nL ret) {a0 a1 b : Option Value} {t : List (Option Value)} {x : Int32} (hc : c1 a1 = true) (hd : decode cc pc = .ok (.istore_n 2, 1)) (k : G p l e R s m args below meth c H locs cells slots Q (a0 :: a1 :: some (.int x) :: t) (pc + 1) st) : G p l e R s m args below meth c H locs cells slots Q (a0 :: a1 :: b :: t) pc (.int x :: st) := by
  intro ls h
  refine lv_istore_n (i := 2) C.1 C.2.1 hd rfl h (by simp only [List.length_cons]; omega) rfl (fun ls2 h2 => k ls2 (G.sto (by simp only [List.length_cons]) ?_ h2))
  intro j w hw
  match j, hw with
  | 0, hw => exact Or.inr ⟨hw, by simp⟩
  | 1, hw =>
    have hw2 : a1 = some w := Option.some.inj hw
    subst hw2
    have hc2 : w.category = 1 := by simpa [c1] using hc
    exact Or.inr ⟨hw, by simp [hc2]⟩
  | 2, hw => exact Or.inl ⟨rfl, (Option.some.inj (Option.some.inj hw)).symm⟩
  | j + 3, hw => exact Or.inr ⟨hw, by first | (simp; done) | (simp; omega)⟩
theorem g_istore3 (C : CX p s m args meth c cc own nL ret) {a0 a1 a2 b : Option Value} {t : List (Option Value)} {x : Int32} (hc : c1 a2 = true) (hd : decode cc pc = .ok (.istore_n 3, 1)) (k : G p l e R s m args below meth c H locs cells slots Q (a0 :: a1 :: a2 :: some (.int x) :: t) (pc + 1) st) : G p l e R s m args below meth c H locs cells slots Q (a0 :: a1 :: a2 :: b :: t) pc (.int x :: st) := by
  intro ls h
  refine lv_istore_n (i := 3) C.1 C.2.1 hd rfl h (by simp only [List.length_cons]; omega) rfl (fun ls2 h2 => k ls2 (G.sto (by simp only [List.length_cons]) ?_ h2))
  intro j w hw
  match j, hw with
  | 0, hw => exact Or.inr ⟨hw, by simp⟩
  | 1, hw => exact Or.inr ⟨hw, by simp⟩
  | 2, hw =>
    have hw2 : a2 = some w := Option.some.inj hw
    subst hw2
    have hc2 : w.category = 1 := by simpa [c1] using hc
    exact Or.inr ⟨hw, by simp [hc2]⟩
  | 3, hw => exact Or.inl ⟨rfl, (Option.some.inj (Option.some.inj hw)).symm⟩
  | j + 4, hw => exact Or.inr ⟨hw, by first | (simp; done) | (simp; omega)⟩
theorem g_istore4 (C : CX p s m args meth c cc own nL ret) {a0 a1 a2 a3 b : Option Value} {t : List (Option Value)} {x : Int32} (hc : c1 a3 = true) (hd : decode cc pc = .ok (.istore 4, 2)) (k : G p l e R s m args below meth c H locs cells slots Q (a0 :: a1 :: a2 :: a3 :: some (.int x) :: t) (pc + 2) st) : G p l e R s m args below meth c H locs cells slots Q (a0 :: a1 :: a2 :: a3 :: b :: t) pc (.int x :: st) := by
  intro ls h
  refine lv_istore C.1 C.2.1 hd h (by simp only [List.length_cons]; omega) rfl (fun ls2 h2 => k ls2 (G.sto (by simp only [List.length_cons]) ?_ h2))
  intro j w hw
  match j, hw with
  | 0, hw => exact Or.inr ⟨hw, by simp⟩
  | 1, hw => exact Or.inr ⟨hw, by simp⟩
  | 2, hw => exact Or.inr ⟨hw, by simp⟩
  | 3, hw =>
    have hw2 : a3 = some w := Option.some.inj hw
    subst hw2
    have hc2 : w.category = 1 := by simpa [c1] using hc
    exact Or.inr ⟨hw, by simp [hc2]⟩
  | 4, hw => exact Or.inl ⟨rfl, (Option.some.inj (Option.some.inj hw)).symm⟩
  | j + 5, hw => exact Or.inr ⟨hw, by first | (simp; done) | (simp; omega)⟩
theorem g_istore5 (C : CX p s m args meth c cc own nL ret) {a0 a1 a2 a3 a4 b : Option Value} {t : List (Option Value)} {x : Int32} (hc : c1 a4 = true) (hd : decode cc pc = .ok (.istore 5, 2)) (k : G p l e R s m args below meth c H locs cells slots Q (a0 :: a1 :: a2 :: a3 :: a4 :: some (.int x) :: t) (pc + 2) st) : G p l e R s m args below meth c H locs cells slots Q (a0 :: a1 :: a2 :: a3 :: a4 :: b :: t) pc (.int x :: st) := by
  intro ls h
  refine lv_istore C.1 C.2.1 hd h (by simp only [List.length_cons]; omega) rfl (fun ls2 h2 => k ls2 (G.sto (by simp only [List.length_cons]) ?_ h2))
  intro j w hw
  match j, hw with
  | 0, hw => exact Or.inr ⟨hw, by simp⟩
  | 1, hw => exact Or.inr ⟨hw, by simp⟩
  | 2, hw => exact Or.inr ⟨hw, by simp⟩
  | 3, hw => exact Or.inr ⟨hw, by simp⟩
  | 4, hw =>
    have hw2 : a4 = some w := Option.some.inj hw
    subst hw2
    have hc2 : w.category = 1 := by simpa [c1] using hc
    exact Or.inr ⟨hw, by simp [hc2]⟩
  | 5, hw => exact Or.inl ⟨rfl, (Option.some.inj (Option.some.inj hw)).symm⟩
  | j + 6, hw => exact Or.inr ⟨hw, by first | (simp; done) | (simp; omega)⟩
theorem g_istore6 (C : CX p s m args meth c cc own nL ret) {a0 a1 a2 a3 a4 a5 b : Option Value} {t : List (Option Value)} {x : Int32} (hc : c1 a5 = true) (hd : decode cc pc = .ok (.istore 6, 2)) (k : G p l e R s m args below meth c H locs cells slots Q (a0 :: a1 :: a2 :: a3 :: a4 :: a5 :: some (.int x) :: t) (pc + 2) st) : G p l e R s m args below meth c H locs cells slots Q (a0 :: a1 :: a2 :: a3 :: a4 :: a5 :: b :: t) pc (.int x :: st) := by
  intro ls h
  refine lv_istore C.1 C.2.1 hd h (by simp only [List.length_cons]; omega) rfl (fun ls2 h2 => k ls2 (G.sto (by simp only [List.length_cons]) ?_ h2))
  intro j w hw
  match j, hw with
  | 0, hw => exact Or.inr ⟨hw, by simp⟩
  | 1, hw => exact Or.inr ⟨hw, by simp⟩
  | 2, hw => exact Or.inr ⟨hw, by simp⟩
  | 3, hw => exact Or.inr ⟨hw, by simp⟩
  | 4, hw => exact Or.inr ⟨hw, by simp⟩
  | 5, hw =>
    have hw2 : a5 = some w := Option.some.inj hw
    subst hw2
    have hc2 : w.category = 1 := by simpa [c1] using hc
    exact Or.inr ⟨hw, by simp [hc2]⟩
  | 6, hw => exact Or.inl ⟨rfl, (Option.some.inj (Option.some.inj hw)).symm⟩
  | j + 7, hw => exact Or.inr ⟨hw, by first | (simp; done) | (simp; omega)⟩
theorem g_istore7 (C : CX p s m args meth c cc own nL ret) {a0 a1 a2 a3 a4 a5 a6 b : Option Value} {t : List (Option Value)} {x : Int32} (hc : c1 a6 = true) (hd : decode cc pc = .ok (.istore 7, 2)) (k : G p l e R s m args below meth c H locs cells slots Q (a0 :: a1 :: a2 :: a3 :: a4 :: a5 :: a6 :: some (.int x) :: t) (pc + 2) st) : G p l e R s m args below meth c H locs cells slots Q (a0 :: a1 :: a2 :: a3 :: a4 :: a5 :: a6 :: b :: t) pc (.int x :: st) := by
  intro ls h
  refine lv_istore C.1 C.2.1 hd h (by simp only [List.length_cons]; omega) rfl (fun ls2 h2 => k ls2 (G.sto (by simp only [List.length_cons]) ?_ h2))
  intro j w hw
  match j, hw with
  | 0, hw => exact Or.inr ⟨hw, by simp⟩
  | 1, hw => exact Or.inr ⟨hw, by simp⟩
  | 2, hw => exact Or.inr ⟨hw, by simp⟩
  | 3, hw => exact Or.inr ⟨hw, by simp⟩
  | 4, hw => exact Or.inr ⟨hw, by simp⟩
  | 5, hw => exact Or.inr ⟨hw, by simp⟩
  | 6, hw =>
    have hw2 : a6 = some w := Option.some.inj hw
    subst hw2
    have hc2 : w.category = 1 := by simpa [c1] using hc
    exact Or.inr ⟨hw, by simp [hc2]⟩
  | 7, hw => exact Or.inl ⟨rfl, (Option.some.inj (Option.some.inj hw)).symm⟩
  | j + 8, hw => exact Or.inr ⟨hw, by first | (simp; done) | (simp; omega)⟩
theorem g_istore8 (C : CX p s m args meth c cc own nL ret) {a0 a1 a2 a3 a4 a5 a6 a7 b : Option Value} {t : List (Option Value)} {x : Int32} (hc : c1 a7 = true) (hd : decode cc pc = .ok (.istore 8, 2)) (k : G p l e R s m args below meth c H locs cells slots Q (a0 :: a1 :: a2 :: a3 :: a4 :: a5 :: a6 :: a7 :: some (.int x) :: t) (pc + 2) st) : G p l e R s m args below meth c H locs cells slots Q (a0 :: a1 :: a2 :: a3 :: a4 :: a5 :: a6 :: a7 :: b :: t) pc (.int x :: st) := by
  intro ls h
  refine lv_istore C.1 C.2.1 hd h (by simp only [List.length_cons]; omega) rfl (fun ls2 h2 => k ls2 (G.sto (by simp only [List.length_cons]) ?_ h2))
  intro j w hw
  match j, hw with
  | 0, hw => exact Or.inr ⟨hw, by simp⟩
  | 1, hw => exact Or.inr ⟨hw, by simp⟩
  | 2, hw => exact Or.inr ⟨hw, by simp⟩
  | 3, hw => exact Or.inr ⟨hw, by simp⟩
  | 4, hw => exact Or.inr ⟨hw, by simp⟩
  | 5, hw => exact Or.inr ⟨hw, by simp⟩
  | 6, hw => exact Or.inr ⟨hw, by simp⟩
  | 7, hw =>
    have hw2 : a7 = some w := Option.some.inj hw
    subst hw2
    have hc2 : w.category = 1 := by simpa [c1] using hc
    exact Or.inr ⟨hw, by simp [hc2]⟩
  | 8, hw => exact Or.inl ⟨rfl, (Option.some.inj (Option.some.inj hw)).symm⟩
  | j + 9, hw => exact Or.inr ⟨hw, by first | (simp; done) | (simp; omega)⟩
theorem g_astore0 (C : CX p s m args meth c cc own nL ret) {b : Option Value} {t : List (Option Value)} {x : Nat} (hd : decode cc pc = .ok (.astore_n 0, 1)) (k : G p l e R s m args below meth c H locs cells slots Q (some (.ref x) :: t) (pc + 1) st) : G p l e R s m args below meth c H locs cells slots Q (b :: t) pc (.ref x :: st) := by
  intro ls h
  refine lv_astore_n (i := 0) C.1 C.2.1 hd rfl h (by simp only [List.length_cons]; omega) rfl (fun ls2 h2 => k ls2 (G.sto (by simp only [List.length_cons]) ?_ h2))
  intro j w hw
  match j, hw with
  | 0, hw => exact Or.inl ⟨rfl, (Option.some.inj (Option.some.inj hw)).symm⟩
  | j + 1, hw => exact Or.inr ⟨hw, by first | (simp; done) | (simp; omega)⟩
theorem g_astore1 (C : CX p s m args meth c cc own nL ret) {a0 b : Option Value} {t : List (Option Value)} {x : Nat} (hc : c1 a0 = true) (hd : decode cc pc = .ok (.astore_n 1, 1)) (k : G p l e R s m args below meth c H locs cells slots Q (a0 :: some (.ref x) :: t) (pc + 1) st) : G p l e R s m args below meth c H locs cells slots Q (a0 :: b :: t) pc (.ref x :: st) := by
  intro ls h
  refine lv_astore_n (i := 1) C.1 C.2.1 hd rfl h (by simp only [List.length_cons]; omega) rfl (fun ls2 h2 => k ls2 (G.sto (by simp only [List.length_cons]) ?_ h2))
  intro j w hw
  match j, hw with
  | 0, hw =>
    have hw2 : a0 = some w := Option.some.inj hw
    subst hw2
    have hc2 : w.category = 1 := by simpa [c1] using hc
    exact Or.inr ⟨hw, by simp [hc2]⟩
  | 1, hw => exact Or.inl ⟨rfl, (Option.some.inj (Option.some.inj hw)).symm⟩
  | j + 2, hw => exact Or.inr ⟨hw, by first | (simp; done) | (simp; omega)⟩
theorem g_astore2 (C : CX p s m args meth c cc own nL ret) {a0 a1 b : Option Value} {t : List (Option Value)} {x : Nat} (hc : c1 a1 = true) (hd : decode cc pc = .ok (.astore_n 2, 1)) (k : G p l e R s m args below meth c H locs cells slots Q (a0 :: a1 :: some (.ref x) :: t) (pc + 1) st) : G p l e R s m args below meth c H locs cells slots Q (a0 :: a1 :: b :: t) pc (.ref x :: st) := by
  intro ls h
  refine lv_astore_n (i := 2) C.1 C.2.1 hd rfl h (by simp only [List.length_cons]; omega) rfl (fun ls2 h2 => k ls2 (G.sto (by simp only [List.length_cons]) ?_ h2))
  intro j w hw
  match j, hw with
  | 0, hw => exact Or.inr ⟨hw, by simp⟩
  | 1, hw =>
    have hw2 : a1 = some w := Option.some.inj hw
    subst hw2
    have hc2 : w.category = 1 := by simpa [c1] using hc
    exact Or.inr ⟨hw, by simp [hc2]⟩
  | 2, hw => exact Or.inl ⟨rfl, (Option.some.inj (Option.some.inj hw)).symm⟩
  | j + 3, hw => exact Or.inr ⟨hw, by first | (simp; done) | (simp; omega)⟩
theorem g_astore3 (C : CX p s m args meth c cc own nL ret) {a0 a1 a2 b : Option Value} {t : List (Option Value)} {x : Nat} (hc : c1 a2 = true) (hd : decode cc pc = .ok (.astore_n 3, 1)) (k : G p l e R s m args below meth c H locs cells slots Q (a0 :: a1 :: a2 :: some (.ref x) :: t) (pc + 1) st) : G p l e R s m args below meth c H locs cells slots Q (a0 :: a1 :: a2 :: b :: t) pc (.ref x :: st) := by
  intro ls h
  refine lv_astore_n (i := 3) C.1 C.2.1 hd rfl h (by simp only [List.length_cons]; omega) rfl (fun ls2 h2 => k ls2 (G.sto (by simp only [List.length_cons]) ?_ h2))
  intro j w hw
  match j, hw with
  | 0, hw => exact Or.inr ⟨hw, by simp⟩
  | 1, hw => exact Or.inr ⟨hw, by simp⟩
  | 2, hw =>
    have hw2 : a2 = some w := Option.some.inj hw
    subst hw2
    have hc2 : w.category = 1 := by simpa [c1] using hc
    exact Or.inr ⟨hw, by simp [hc2]⟩
  | 3, hw => exact Or.inl ⟨rfl, (Option.some.inj (Option.some.inj hw)).symm⟩
  | j + 4, hw => exact Or.inr ⟨hw, by first | (simp; done) | (simp; omega)⟩
theorem g_astore4 (C : CX p s m args meth c cc own nL ret) {a0 a1 a2 a3 b : Option Value} {t : List (Option Value)} {x : Nat} (hc : c1 a3 = true) (hd : decode cc pc = .ok (.astore 4, 2)) (k : G p l e R s m args below meth c H locs cells slots Q (a0 :: a1 :: a2 :: a3 :: some (.ref x) :: t) (pc + 2) st) : G p l e R s m args below meth c H locs cells slots Q (a0 :: a1 :: a2 :: a3 :: b :: t) pc (.ref x :: st) := by
  intro ls h
  refine lv_astore C.1 C.2.1 hd h (by simp only [List.length_cons]; omega) rfl (fun ls2 h2 => k ls2 (G.sto (by simp only [List.length_cons]) ?_ h2))
  intro j w hw
  match j, hw with
  | 0, hw => exact Or.inr ⟨hw, by simp⟩
  | 1, hw => exact Or.inr ⟨hw, by simp⟩
  | 2, hw => exact Or.inr ⟨hw, by simp⟩
  | 3, hw =>
    have hw2 : a3 = some w := Option.some.inj hw
    subst hw2
    have hc2 : w.category = 1 := by simpa [c1] using hc
    exact Or.inr ⟨hw, by simp [hc2]⟩
  | 4, hw => exact Or.inl ⟨rfl, (Option.some.inj (Option.some.inj hw)).symm⟩
  | j + 5, hw => exact Or.inr ⟨hw, by first | (simp; done) | (simp; omega)⟩
theorem g_astore5 (C : CX p s m args meth c cc own nL ret) {a0 a1 a2 a3 a4 b : Option Value} {t : List (Option Value)} {x : Nat} (hc : c1 a4 = true) (hd : decode cc pc = .ok (.astore 5, 2)) (k : G p l e R s m args below meth c H locs cells slots Q (a0 :: a1 :: a2 :: a3 :: a4 :: some (.ref x) :: t) (pc + 2) st) : G p l e R s m args below meth c H locs cells slots Q (a0 :: a1 :: a2 :: a3 :: a4 :: b :: t) pc (.ref x :: st) := by
  intro ls h
  refine lv_astore C.1 C.2.1 hd h (by simp only [List.length_cons]; omega) rfl (fun ls2 h2 => k ls2 (G.sto (by simp only [List.length_cons]) ?_ h2))
  intro j w hw
  match j, hw with
  | 0, hw => exact Or.inr ⟨hw, by simp⟩
  | 1, hw => exact Or.inr ⟨hw, by simp⟩
  | 2, hw => exact Or.inr ⟨hw, by simp⟩
  | 3, hw => exact Or.inr ⟨hw, by simp⟩
  | 4, hw =>
    have hw2 : a4 = some w := Option.some.inj hw
    subst hw2
    have hc2 : w.category = 1 := by simpa [c1] using hc
    exact Or.inr ⟨hw, by simp [hc2]⟩
  | 5, hw => exact Or.inl ⟨rfl, (Option.some.inj (Option.some.inj hw)).symm⟩
  | j + 6, hw => exact Or.inr ⟨hw, by first | (simp; done) | (simp; omega)⟩
theorem g_astore6 (C : CX p s m args meth c cc own nL ret) {a0 a1 a2 a3 a4 a5 b : Option Value} {t : List (Option Value)} {x : Nat} (hc : c1 a5 = true) (hd : decode cc pc = .ok (.astore 6, 2)) (k : G p l e R s m args below meth c H locs cells slots Q (a0 :: a1 :: a2 :: a3 :: a4 :: a5 :: some (.ref x) :: t) (pc + 2) st) : G p l e R s m args below meth c H locs cells slots Q (a0 :: a1 :: a2 :: a3 :: a4 :: a5 :: b :: t) pc (.ref x :: st) := by
  intro ls h
  refine lv_astore C.1 C.2.1 hd h (by simp only [List.length_cons]; omega) rfl (fun ls2 h2 => k ls2 (G.sto (by simp only [List.length_cons]) ?_ h2))
  intro j w hw
  match j, hw with
  | 0, hw => exact Or.inr ⟨hw, by simp⟩
  | 1, hw => exact Or.inr ⟨hw, by simp⟩
  | 2, hw => exact Or.inr ⟨hw, by simp⟩
  | 3, hw => exact Or.inr ⟨hw, by simp⟩
  | 4, hw => exact Or.inr ⟨hw, by simp⟩
  | 5, hw =>
    have hw2 : a5 = some w := Option.some.inj hw
    subst hw2
    have hc2 : w.category = 1 := by simpa [c1] using hc
    exact Or.inr ⟨hw, by simp [hc2]⟩
  | 6, hw => exact Or.inl ⟨rfl, (Option.some.inj (Option.some.inj hw)).symm⟩
  | j + 7, hw => exact Or.inr ⟨hw, by first | (simp; done) | (simp; omega)⟩
theorem g_astore7 (C : CX p s m args meth c cc own nL ret) {a0 a1 a2 a3 a4 a5 a6 b : Option Value} {t : List (Option Value)} {x : Nat} (hc : c1 a6 = true) (hd : decode cc pc = .ok (.astore 7, 2)) (k : G p l e R s m args below meth c H locs cells slots Q (a0 :: a1 :: a2 :: a3 :: a4 :: a5 :: a6 :: some (.ref x) :: t) (pc + 2) st) : G p l e R s m args below meth c H locs cells slots Q (a0 :: a1 :: a2 :: a3 :: a4 :: a5 :: a6 :: b :: t) pc (.ref x :: st) := by
  intro ls h
  refine lv_astore C.1 C.2.1 hd h (by simp only [List.length_cons]; omega) rfl (fun ls2 h2 => k ls2 (G.sto (by simp only [List.length_cons]) ?_ h2))
  intro j w hw
  match j, hw with
  | 0, hw => exact Or.inr ⟨hw, by simp⟩
  | 1, hw => exact Or.inr ⟨hw, by simp⟩
  | 2, hw => exact Or.inr ⟨hw, by simp⟩
  | 3, hw => exact Or.inr ⟨hw, by simp⟩
  | 4, hw => exact Or.inr ⟨hw, by simp⟩
  | 5, hw => exact Or.inr ⟨hw, by simp⟩
  | 6, hw =>
    have hw2 : a6 = some w := Option.some.inj hw
    subst hw2
    have hc2 : w.category = 1 := by simpa [c1] using hc
    exact Or.inr ⟨hw, by simp [hc2]⟩
  | 7, hw => exact Or.inl ⟨rfl, (Option.some.inj (Option.some.inj hw)).symm⟩
  | j + 8, hw => exact Or.inr ⟨hw, by first | (simp; done) | (simp; omega)⟩
theorem g_astore8 (C : CX p s m args meth c cc own nL ret) {a0 a1 a2 a3 a4 a5 a6 a7 b : Option Value} {t : List (Option Value)} {x : Nat} (hc : c1 a7 = true) (hd : decode cc pc = .ok (.astore 8, 2)) (k : G p l e R s m args below meth c H locs cells slots Q (a0 :: a1 :: a2 :: a3 :: a4 :: a5 :: a6 :: a7 :: some (.ref x) :: t) (pc + 2) st) : G p l e R s m args below meth c H locs cells slots Q (a0 :: a1 :: a2 :: a3 :: a4 :: a5 :: a6 :: a7 :: b :: t) pc (.ref x :: st) := by
  intro ls h
  refine lv_astore C.1 C.2.1 hd h (by simp only [List.length_cons]; omega) rfl (fun ls2 h2 => k ls2 (G.sto (by simp only [List.length_cons]) ?_ h2))
  intro j w hw
  match j, hw with
  | 0, hw => exact Or.inr ⟨hw, by simp⟩
  | 1, hw => exact Or.inr ⟨hw, by simp⟩
  | 2, hw => exact Or.inr ⟨hw, by simp⟩
  | 3, hw => exact Or.inr ⟨hw, by simp⟩
  | 4, hw => exact Or.inr ⟨hw, by simp⟩
  | 5, hw => exact Or.inr ⟨hw, by simp⟩
  | 6, hw => exact Or.inr ⟨hw, by simp⟩
  | 7, hw =>
    have hw2 : a7 = some w := Option.some.inj hw
    subst hw2
    have hc2 : w.category = 1 := by simpa [c1] using hc
    exact Or.inr ⟨hw, by simp [hc2]⟩
  | 8, hw => exact Or.inl ⟨rfl, (Option.some.inj (Option.some.inj hw)).symm⟩
  | j + 9, hw => exact Or.inr ⟨hw, by first | (simp; done) | (simp; omega)⟩
theorem g_lstore0 (C : CX p s m args meth c cc own nL ret) {b b2 : Option Value} {t : List (Option Value)} {x : Int64} (hd : decode cc pc = .ok (.lstore_n 0, 1)) (k : G p l e R s m args below meth c H locs cells slots Q (some (.long x) :: none :: t) (pc + 1) st) : G p l e R s m args below meth c H locs cells slots Q (b :: b2 :: t) pc (.long x :: st) := by
  intro ls h
  refine lv_lstore_n (i := 0) C.1 C.2.1 hd rfl h (by simp only [List.length_cons]; omega) rfl (fun ls2 h2 => k ls2 (G.sto (by simp only [List.length_cons]) ?_ h2))
  intro j w hw
  match j, hw with
  | 0, hw => exact Or.inl ⟨rfl, (Option.some.inj (Option.some.inj hw)).symm⟩
  | 1, hw => exact absurd hw (by simp)
  | j + 2, hw => exact Or.inr ⟨hw, by first | (simp; done) | (simp; omega)⟩
theorem g_lstore1 (C : CX p s m args meth c cc own nL ret) {a0 b b2 : Option Value} {t : List (Option Value)} {x : Int64} (hc : c1 a0 = true) (hd : decode cc pc = .ok (.lstore_n 1, 1)) (k : G p l e R s m args below meth c H locs cells slots Q (a0 :: some (.long x) :: none :: t) (pc + 1) st) : G p l e R s m args below meth c H locs cells slots Q (a0 :: b :: b2 :: t) pc (.long x :: st) := by
  intro ls h
  refine lv_lstore_n (i := 1) C.1 C.2.1 hd rfl h (by simp only [List.length_cons]; omega) rfl (fun ls2 h2 => k ls2 (G.sto (by simp only [List.length_cons]) ?_ h2))
  intro j w hw
  match j, hw with
  | 0, hw =>
    have hw2 : a0 = some w := Option.some.inj hw
    subst hw2
    have hc2 : w.category = 1 := by simpa [c1] using hc
    exact Or.inr ⟨hw, by simp [hc2]⟩
  | 1, hw => exact Or.inl ⟨rfl, (Option.some.inj (Option.some.inj hw)).symm⟩
  | 2, hw => exact absurd hw (by simp)
  | j + 3, hw => exact Or.inr ⟨hw, by first | (simp; done) | (simp; omega)⟩
theorem g_lstore2 (C : CX p s m args meth c cc own nL ret) {a0 a1 b b2 : Option Value} {t : List (Option Value)} {x : Int64} (hc : c1 a1 = true) (hd : decode cc pc = .ok (.lstore_n 2, 1)) (k : G p l e R s m args below meth c H locs cells slots Q (a0 :: a1 :: some (.long x) :: none :: t) (pc + 1) st) : G p l e R s m args below meth c H locs cells slots Q (a0 :: a1 :: b :: b2 :: t) pc (.long x :: st) := by
  intro ls h
  refine lv_lstore_n (i := 2) C.1 C.2.1 hd rfl h (by simp only [List.length_cons]; omega) rfl (fun ls2 h2 => k ls2 (G.sto (by simp only [List.length_cons]) ?_ h2))
  intro j w hw
  match j, hw with
  | 0, hw => exact Or.inr ⟨hw, by simp⟩
  | 1, hw =>
    have hw2 : a1 = some w := Option.some.inj hw
    subst hw2
    have hc2 : w.category = 1 := by simpa [c1] using hc
    exact Or.inr ⟨hw, by simp [hc2]⟩
  | 2, hw => exact Or.inl ⟨rfl, (Option.some.inj (Option.some.inj hw)).symm⟩
  | 3, hw => exact absurd hw (by simp)
  | j + 4, hw => exact Or.inr ⟨hw, by first | (simp; done) | (simp; omega)⟩
theorem g_lstore3 (C : CX p s m args meth c cc own nL ret) {a0 a1 a2 b b2 : Option Value} {t : List (Option Value)} {x : Int64} (hc : c1 a2 = true) (hd : decode cc pc = .ok (.lstore_n 3, 1)) (k : G p l e R s m args below meth c H locs cells slots Q (a0 :: a1 :: a2 :: some (.long x) :: none :: t) (pc + 1) st) : G p l e R s m args below meth c H locs cells slots Q (a0 :: a1 :: a2 :: b :: b2 :: t) pc (.long x :: st) := by
  intro ls h
  refine lv_lstore_n (i := 3) C.1 C.2.1 hd rfl h (by simp only [List.length_cons]; omega) rfl (fun ls2 h2 => k ls2 (G.sto (by simp only [List.length_cons]) ?_ h2))
  intro j w hw
  match j, hw with
  | 0, hw => exact Or.inr ⟨hw, by simp⟩
  | 1, hw => exact Or.inr ⟨hw, by simp⟩
  | 2, hw =>
    have hw2 : a2 = some w := Option.some.inj hw
    subst hw2
    have hc2 : w.category = 1 := by simpa [c1] using hc
    exact Or.inr ⟨hw, by simp [hc2]⟩
  | 3, hw => exact Or.inl ⟨rfl, (Option.some.inj (Option.some.inj hw)).symm⟩
  | 4, hw => exact absurd hw (by simp)
  | j + 5, hw => exact Or.inr ⟨hw, by first | (simp; done) | (simp; omega)⟩
theorem g_lstore4 (C : CX p s m args meth c cc own nL ret) {a0 a1 a2 a3 b b2 : Option Value} {t : List (Option Value)} {x : Int64} (hc : c1 a3 = true) (hd : decode cc pc = .ok (.lstore 4, 2)) (k : G p l e R s m args below meth c H locs cells slots Q (a0 :: a1 :: a2 :: a3 :: some (.long x) :: none :: t) (pc + 2) st) : G p l e R s m args below meth c H locs cells slots Q (a0 :: a1 :: a2 :: a3 :: b :: b2 :: t) pc (.long x :: st) := by
  intro ls h
  refine lv_lstore C.1 C.2.1 hd h (by simp only [List.length_cons]; omega) rfl (fun ls2 h2 => k ls2 (G.sto (by simp only [List.length_cons]) ?_ h2))
  intro j w hw
  match j, hw with
  | 0, hw => exact Or.inr ⟨hw, by simp⟩
  | 1, hw => exact Or.inr ⟨hw, by simp⟩
  | 2, hw => exact Or.inr ⟨hw, by simp⟩
  | 3, hw =>
    have hw2 : a3 = some w := Option.some.inj hw
    subst hw2
    have hc2 : w.category = 1 := by simpa [c1] using hc
    exact Or.inr ⟨hw, by simp [hc2]⟩
  | 4, hw => exact Or.inl ⟨rfl, (Option.some.inj (Option.some.inj hw)).symm⟩
  | 5, hw => exact absurd hw (by simp)
  | j + 6, hw => exact Or.inr ⟨hw, by first | (simp; done) | (simp; omega)⟩
theorem g_lstore5 (C : CX p s m args meth c cc own nL ret) {a0 a1 a2 a3 a4 b b2 : Option Value} {t : List (Option Value)} {x : Int64} (hc : c1 a4 = true) (hd : decode cc pc = .ok (.lstore 5, 2)) (k : G p l e R s m args below meth c H locs cells slots Q (a0 :: a1 :: a2 :: a3 :: a4 :: some (.long x) :: none :: t) (pc + 2) st) : G p l e R s m args below meth c H locs cells slots Q (a0 :: a1 :: a2 :: a3 :: a4 :: b :: b2 :: t) pc (.long x :: st) := by
  intro ls h
  refine lv_lstore C.1 C.2.1 hd h (by simp only [List.length_cons]; omega) rfl (fun ls2 h2 => k ls2 (G.sto (by simp only [List.length_cons]) ?_ h2))
  intro j w hw
  match j, hw with
  | 0, hw => exact Or.inr ⟨hw, by simp⟩
  | 1, hw => exact Or.inr ⟨hw, by simp⟩
  | 2, hw => exact Or.inr ⟨hw, by simp⟩
  | 3, hw => exact Or.inr ⟨hw, by simp⟩
  | 4, hw =>
    have hw2 : a4 = some w := Option.some.inj hw
    subst hw2
    have hc2 : w.category = 1 := by simpa [c1] using hc
    exact Or.inr ⟨hw, by simp [hc2]⟩
  | 5, hw => exact Or.inl ⟨rfl, (Option.some.inj (Option.some.inj hw)).symm⟩
  | 6, hw => exact absurd hw (by simp)
  | j + 7, hw => exact Or.inr ⟨hw, by first | (simp; done) | (simp; omega)⟩
theorem g_lstore6 (C : CX p s m args meth c cc own nL ret) {a0 a1 a2 a3 a4 a5 b b2 : Option Value} {t : List (Option Value)} {x : Int64} (hc : c1 a5 = true) (hd : decode cc pc = .ok (.lstore 6, 2)) (k : G p l e R s m args below meth c H locs cells slots Q (a0 :: a1 :: a2 :: a3 :: a4 :: a5 :: some (.long x) :: none :: t) (pc + 2) st) : G p l e R s m args below meth c H locs cells slots Q (a0 :: a1 :: a2 :: a3 :: a4 :: a5 :: b :: b2 :: t) pc (.long x :: st) := by
  intro ls h
  refine lv_lstore C.1 C.2.1 hd h (by simp only [List.length_cons]; omega) rfl (fun ls2 h2 => k ls2 (G.sto (by simp only [List.length_cons]) ?_ h2))
  intro j w hw
  match j, hw with
  | 0, hw => exact Or.inr ⟨hw, by simp⟩
  | 1, hw => exact Or.inr ⟨hw, by simp⟩
  | 2, hw => exact Or.inr ⟨hw, by simp⟩
  | 3, hw => exact Or.inr ⟨hw, by simp⟩
  | 4, hw => exact Or.inr ⟨hw, by simp⟩
  | 5, hw =>
    have hw2 : a5 = some w := Option.some.inj hw
    subst hw2
    have hc2 : w.category = 1 := by simpa [c1] using hc
    exact Or.inr ⟨hw, by simp [hc2]⟩
  | 6, hw => exact Or.inl ⟨rfl, (Option.some.inj (Option.some.inj hw)).symm⟩
  | 7, hw => exact absurd hw (by simp)
  | j + 8, hw => exact Or.inr ⟨hw, by first | (simp; done) | (simp; omega)⟩
theorem g_lstore7 (C : CX p s m args meth c cc own nL ret) {a0 a1 a2 a3 a4 a5 a6 b b2 : Option Value} {t : List (Option Value)} {x : Int64} (hc : c1 a6 = true) (hd : decode cc pc = .ok (.lstore 7, 2)) (k : G p l e R s m args below meth c H locs cells slots Q (a0 :: a1 :: a2 :: a3 :: a4 :: a5 :: a6 :: some (.long x) :: none :: t) (pc + 2) st) : G p l e R s m args below meth c H locs cells slots Q (a0 :: a1 :: a2 :: a3 :: a4 :: a5 :: a6 :: b :: b2 :: t) pc (.long x :: st) := by
  intro ls h
  refine lv_lstore C.1 C.2.1 hd h (by simp only [List.length_cons]; omega) rfl (fun ls2 h2 => k ls2 (G.sto (by simp only [List.length_cons]) ?_ h2))
  intro j w hw
  match j, hw with
  | 0, hw => exact Or.inr ⟨hw, by simp⟩
  | 1, hw => exact Or.inr ⟨hw, by simp⟩
  | 2, hw => exact Or.inr ⟨hw, by simp⟩
  | 3, hw => exact Or.inr ⟨hw, by simp⟩
  | 4, hw => exact Or.inr ⟨hw, by simp⟩
  | 5, hw => exact Or.inr ⟨hw, by simp⟩
  | 6, hw =>
    have hw2 : a6 = some w := Option.some.inj hw
    subst hw2
    have hc2 : w.category = 1 := by simpa [c1] using hc
    exact Or.inr ⟨hw, by simp [hc2]⟩
  | 7, hw => exact Or.inl ⟨rfl, (Option.some.inj (Option.some.inj hw)).symm⟩
  | 8, hw => exact absurd hw (by simp)
  | j + 9, hw => exact Or.inr ⟨hw, by first | (simp; done) | (simp; omega)⟩
theorem g_lstore8 (C : CX p s m args meth c cc own nL ret) {a0 a1 a2 a3 a4 a5 a6 a7 b b2 : Option Value} {t : List (Option Value)} {x : Int64} (hc : c1 a7 = true) (hd : decode cc pc = .ok (.lstore 8, 2)) (k : G p l e R s m args below meth c H locs cells slots Q (a0 :: a1 :: a2 :: a3 :: a4 :: a5 :: a6 :: a7 :: some (.long x) :: none :: t) (pc + 2) st) : G p l e R s m args below meth c H locs cells slots Q (a0 :: a1 :: a2 :: a3 :: a4 :: a5 :: a6 :: a7 :: b :: b2 :: t) pc (.long x :: st) := by
  intro ls h
  refine lv_lstore C.1 C.2.1 hd h (by simp only [List.length_cons]; omega) rfl (fun ls2 h2 => k ls2 (G.sto (by simp only [List.length_cons]) ?_ h2))
  intro j w hw
  match j, hw with
  | 0, hw => exact Or.inr ⟨hw, by simp⟩
  | 1, hw => exact Or.inr ⟨hw, by simp⟩
  | 2, hw => exact Or.inr ⟨hw, by simp⟩
  | 3, hw => exact Or.inr ⟨hw, by simp⟩
  | 4, hw => exact Or.inr ⟨hw, by simp⟩
  | 5, hw => exact Or.inr ⟨hw, by simp⟩
  | 6, hw => exact Or.inr ⟨hw, by simp⟩
  | 7, hw =>
    have hw2 : a7 = some w := Option.some.inj hw
    subst hw2
    have hc2 : w.category = 1 := by simpa [c1] using hc
    exact Or.inr ⟨hw, by simp [hc2]⟩
  | 8, hw => exact Or.inl ⟨rfl, (Option.some.inj (Option.some.inj hw)).symm⟩
  | 9, hw => exact absurd hw (by simp)
  | j + 10, hw => exact Or.inr ⟨hw, by first | (simp; done) | (simp; omega)⟩
theorem g_dstore0 (C : CX p s m args meth c cc own nL ret) {b b2 : Option Value} {t : List (Option Value)} {x : UInt64} (hd : decode cc pc = .ok (.dstore_n 0, 1)) (k : G p l e R s m args below meth c H locs cells slots Q (some (.double x) :: none :: t) (pc + 1) st) : G p l e R s m args below meth c H locs cells slots Q (b :: b2 :: t) pc (.double x :: st) := by
  intro ls h
  refine lv_dstore_n (i := 0) C.1 C.2.1 hd rfl h (by simp only [List.length_cons]; omega) rfl (fun ls2 h2 => k ls2 (G.sto (by simp only [List.length_cons]) ?_ h2))
  intro j w hw
  match j, hw with
  | 0, hw => exact Or.inl ⟨rfl, (Option.some.inj (Option.some.inj hw)).symm⟩
  | 1, hw => exact absurd hw (by simp)
  | j + 2, hw => exact Or.inr ⟨hw, by first | (simp; done) | (simp; omega)⟩
theorem g_dstore1 (C : CX p s m args meth c cc own nL ret) {a0 b b2 : Option Value} {t : List (Option Value)} {x : UInt64} (hc : c1 a0 = true) (hd : decode cc pc = .ok (.dstore_n 1, 1)) (k : G p l e R s m args below meth c H locs cells slots Q (a0 :: some (.double x) :: none :: t) (pc + 1) st) : G p l e R s m args below meth c H locs cells slots Q (a0 :: b :: b2 :: t) pc (.double x :: st) := by
  intro ls h
  refine lv_dstore_n (i := 1) C.1 C.2.1 hd rfl h (by simp only [List.length_cons]; omega) rfl (fun ls2 h2 => k ls2 (G.sto (by simp only [List.length_cons]) ?_ h2))
  intro j w hw
  match j, hw with
  | 0, hw =>
    have hw2 : a0 = some w := Option.some.inj hw
    subst hw2
    have hc2 : w.category = 1 := by simpa [c1] using hc
    exact Or.inr ⟨hw, by simp [hc2]⟩
  | 1, hw => exact Or.inl ⟨rfl, (Option.some.inj (Option.some.inj hw)).symm⟩
  | 2, hw => exact absurd hw (by simp)
  | j + 3, hw => exact Or.inr ⟨hw, by first | (simp; done) | (simp; omega)⟩
theorem g_dstore2 (C : CX p s m args meth c cc own nL ret) {a0 a1 b b2 : Option Value} {t : List (Option Value)} {x : UInt64} (hc : c1 a1 = true) (hd : decode cc pc = .ok (.dstore_n 2, 1)) (k : G p l e R s m args below meth c H locs cells slots Q (a0 :: a1 :: some (.double x) :: none :: t) (pc + 1) st) : G p l e R s m args below meth c H locs cells slots Q (a0 :: a1 :: b :: b2 :: t) pc (.double x :: st) := by
  intro ls h
  refine lv_dstore_n (i := 2) C.1 C.2.1 hd rfl h (by simp only [List.length_cons]; omega) rfl (fun ls2 h2 => k ls2 (G.sto (by simp only [List.length_cons]) ?_ h2))
  intro j w hw
  match j, hw with
  | 0, hw => exact Or.inr ⟨hw, by simp⟩
  | 1, hw =>
    have hw2 : a1 = some w := Option.some.inj hw
    subst hw2
    have hc2 : w.category = 1 := by simpa [c1] using hc
    exact Or.inr ⟨hw, by simp [hc2]⟩
  | 2, hw => exact Or.inl ⟨rfl, (Option.some.inj (Option.some.inj hw)).symm⟩
  | 3, hw => exact absurd hw (by simp)
  | j + 4, hw => exact Or.inr ⟨hw, by first | (simp; done) | (simp; omega)⟩
theorem g_dstore3 (C : CX p s m args meth c cc own nL ret) {a0 a1 a2 b b2 : Option Value} {t : List (Option Value)} {x : UInt64} (hc : c1 a2 = true) (hd : decode cc pc = .ok (.dstore_n 3, 1)) (k : G p l e R s m args below meth c H locs cells slots Q (a0 :: a1 :: a2 :: some (.double x) :: none :: t) (pc + 1) st) : G p l e R s m args below meth c H locs cells slots Q (a0 :: a1 :: a2 :: b :: b2 :: t) pc (.double x :: st) := by
  intro ls h
  refine lv_dstore_n (i := 3) C.1 C.2.1 hd rfl h (by simp only [List.length_cons]; omega) rfl (fun ls2 h2 => k ls2 (G.sto (by simp only [List.length_cons]) ?_ h2))
  intro j w hw
  match j, hw with
  | 0, hw => exact Or.inr ⟨hw, by simp⟩
  | 1, hw => exact Or.inr ⟨hw, by simp⟩
  | 2, hw =>
    have hw2 : a2 = some w := Option.some.inj hw
    subst hw2
    have hc2 : w.category = 1 := by simpa [c1] using hc
    exact Or.inr ⟨hw, by simp [hc2]⟩
  | 3, hw => exact Or.inl ⟨rfl, (Option.some.inj (Option.some.inj hw)).symm⟩
  | 4, hw => exact absurd hw (by simp)
  | j + 5, hw => exact Or.inr ⟨hw, by first | (simp; done) | (simp; omega)⟩
theorem g_dstore4 (C : CX p s m args meth c cc own nL ret) {a0 a1 a2 a3 b b2 : Option Value} {t : List (Option Value)} {x : UInt64} (hc : c1 a3 = true) (hd : decode cc pc = .ok (.dstore 4, 2)) (k : G p l e R s m args below meth c H locs cells slots Q (a0 :: a1 :: a2 :: a3 :: some (.double x) :: none :: t) (pc + 2) st) : G p l e R s m args below meth c H locs cells slots Q (a0 :: a1 :: a2 :: a3 :: b :: b2 :: t) pc (.double x :: st) := by
  intro ls h
  refine lv_dstore C.1 C.2.1 hd h (by simp only [List.length_cons]; omega) rfl (fun ls2 h2 => k ls2 (G.sto (by simp only [List.length_cons]) ?_ h2))
  intro j w hw
  match j, hw with
  | 0, hw => exact Or.inr ⟨hw, by simp⟩
  | 1, hw => exact Or.inr ⟨hw, by simp⟩
  | 2, hw => exact Or.inr ⟨hw, by simp⟩
  | 3, hw =>
    have hw2 : a3 = some w := Option.some.inj hw
    subst hw2
    have hc2 : w.category = 1 := by simpa [c1] using hc
    exact Or.inr ⟨hw, by simp [hc2]⟩
  | 4, hw => exact Or.inl ⟨rfl, (Option.some.inj (Option.some.inj hw)).symm⟩
  | 5, hw => exact absurd hw (by simp)
  | j + 6, hw => exact Or.inr ⟨hw, by first | (simp; done) | (simp; omega)⟩
theorem g_dstore5 (C : CX p s m args meth c cc own nL ret) {a0 a1 a2 a3 a4 b b2 : Option Value} {t : List (Option Value)} {x : UInt64} (hc : c1 a4 = true) (hd : decode cc pc = .ok (.dstore 5, 2)) (k : G p l e R s m args below meth c H locs cells slots Q (a0 :: a1 :: a2 :: a3 :: a4 :: some (.double x) :: none :: t) (pc + 2) st) : G p l e R s m args below meth c H locs cells slots Q (a0 :: a1 :: a2 :: a3 :: a4 :: b :: b2 :: t) pc (.double x :: st) := by
  intro ls h
  refine lv_dstore C.1 C.2.1 hd h (by simp only [List.length_cons]; omega) rfl (fun ls2 h2 => k ls2 (G.sto (by simp only [List.length_cons]) ?_ h2))
  intro j w hw
  match j, hw with
  | 0, hw => exact Or.inr ⟨hw, by simp⟩
  | 1, hw => exact Or.inr ⟨hw, by simp⟩
  | 2, hw => exact Or.inr ⟨hw, by simp⟩
  | 3, hw => exact Or.inr ⟨hw, by simp⟩
  | 4, hw =>
    have hw2 : a4 = some w := Option.some.inj hw
    subst hw2
    have hc2 : w.category = 1 := by simpa [c1] using hc
    exact Or.inr ⟨hw, by simp [hc2]⟩
  | 5, hw => exact Or.inl ⟨rfl, (Option.some.inj (Option.some.inj hw)).symm⟩
  | 6, hw => exact absurd hw (by simp)
  | j + 7, hw => exact Or.inr ⟨hw, by first | (simp; done) | (simp; omega)⟩
theorem g_dstore6 (C : CX p s m args meth c cc own nL ret) {a0 a1 a2 a3 a4 a5 b b2 : Option Value} {t : List (Option Value)} {x : UInt64} (hc : c1 a5 = true) (hd : decode cc pc = .ok (.dstore 6, 2)) (k : G p l e R s m args below meth c H locs cells slots Q (a0 :: a1 :: a2 :: a3 :: a4 :: a5 :: some (.double x) :: none :: t) (pc + 2) st) : G p l e R s m args below meth c H locs cells slots Q (a0 :: a1 :: a2 :: a3 :: a4 :: a5 :: b :: b2 :: t) pc (.double x :: st) := by
  intro ls h
  refine lv_dstore C.1 C.2.1 hd h (by simp only [List.length_cons]; omega) rfl (fun ls2 h2 => k ls2 (G.sto (by simp only [List.length_cons]) ?_ h2))
  intro j w hw
  match j, hw with
  | 0, hw => exact Or.inr ⟨hw, by simp⟩
  | 1, hw => exact Or.inr ⟨hw, by simp⟩
  | 2, hw => exact Or.inr ⟨hw, by simp⟩
  | 3, hw => exact Or.inr ⟨hw, by simp⟩
  | 4, hw => exact Or.inr ⟨hw, by simp⟩
  | 5, hw =>
    have hw2 : a5 = some w := Option.some.inj hw
    subst hw2
    have hc2 : w.category = 1 := by simpa [c1] using hc
    exact Or.inr ⟨hw, by simp [hc2]⟩
  | 6, hw => exact Or.inl ⟨rfl, (Option.some.inj (Option.some.inj hw)).symm⟩
  | 7, hw => exact absurd hw (by simp)
  | j + 8, hw => exact Or.inr ⟨hw, by first | (simp; done) | (simp; omega)⟩
theorem g_dstore7 (C : CX p s m args meth c cc own nL ret) {a0 a1 a2 a3 a4 a5 a6 b b2 : Option Value} {t : List (Option Value)} {x : UInt64} (hc : c1 a6 = true) (hd : decode cc pc = .ok (.dstore 7, 2)) (k : G p l e R s m args below meth c H locs cells slots Q (a0 :: a1 :: a2 :: a3 :: a4 :: a5 :: a6 :: some (.double x) :: none :: t) (pc + 2) st) : G p l e R s m args below meth c H locs cells slots Q (a0 :: a1 :: a2 :: a3 :: a4 :: a5 :: a6 :: b :: b2 :: t) pc (.double x :: st) := by
  intro ls h
  refine lv_dstore C.1 C.2.1 hd h (by simp only [List.length_cons]; omega) rfl (fun ls2 h2 => k ls2 (G.sto (by simp only [List.length_cons]) ?_ h2))
  intro j w hw
  match j, hw with
  | 0, hw => exact Or.inr ⟨hw, by simp⟩
  | 1, hw => exact Or.inr ⟨hw, by simp⟩
  | 2, hw => exact Or.inr ⟨hw, by simp⟩
  | 3, hw => exact Or.inr ⟨hw, by simp⟩
  | 4, hw => exact Or.inr ⟨hw, by simp⟩
  | 5, hw => exact Or.inr ⟨hw, by simp⟩
  | 6, hw =>
    have hw2 : a6 = some w := Option.some.inj hw
    subst hw2
    have hc2 : w.category = 1 := by simpa [c1] using hc
    exact Or.inr ⟨hw, by simp [hc2]⟩
  | 7, hw => exact Or.inl ⟨rfl, (Option.some.inj (Option.some.inj hw)).symm⟩
  | 8, hw => exact absurd hw (by simp)
  | j + 9, hw => exact Or.inr ⟨hw, by first | (simp; done) | (simp; omega)⟩
theorem g_dstore8 (C : CX p s m args meth c cc own nL ret) {a0 a1 a2 a3 a4 a5 a6 a7 b b2 : Option Value} {t : List (Option Value)} {x : UInt64} (hc : c1 a7 = true) (hd : decode cc pc = .ok (.dstore 8, 2)) (k : G p l e R s m args below meth c H locs cells slots Q (a0 :: a1 :: a2 :: a3 :: a4 :: a5 :: a6 :: a7 :: some (.double x) :: none :: t) (pc + 2) st) : G p l e R s m args below meth c H locs cells slots Q (a0 :: a1 :: a2 :: a3 :: a4 :: a5 :: a6 :: a7 :: b :: b2 :: t) pc (.double x :: st) := by
  intro ls h
  refine lv_dstore C.1 C.2.1 hd h (by simp only [List.length_cons]; omega) rfl (fun ls2 h2 => k ls2 (G.sto (by simp only [List.length_cons]) ?_ h2))
  intro j w hw
  match j, hw with
  | 0, hw => exact Or.inr ⟨hw, by simp⟩
  | 1, hw => exact Or.inr ⟨hw, by simp⟩
  | 2, hw => exact Or.inr ⟨hw, by simp⟩
  | 3, hw => exact Or.inr ⟨hw, by simp⟩
  | 4, hw => exact Or.inr ⟨hw, by simp⟩
  | 5, hw => exact Or.inr ⟨hw, by simp⟩
  | 6, hw => exact Or.inr ⟨hw, by simp⟩
  | 7, hw =>
    have hw2 : a7 = some w := Option.some.inj hw
    subst hw2
    have hc2 : w.category = 1 := by simpa [c1] using hc
    exact Or.inr ⟨hw, by simp [hc2]⟩
  | 8, hw => exact Or.inl ⟨rfl, (Option.some.inj (Option.some.inj hw)).symm⟩
  | 9, hw => exact absurd hw (by simp)
  | j + 10, hw => exact Or.inr ⟨hw, by first | (simp; done) | (simp; omega)⟩
theorem g_iinc0 (C : CX p s m args meth c cc own nL ret) {t : List (Option Value)} {n : Int} {x : Int32} (v : Int32) (hd : decode cc pc = .ok (.iinc 0 n, 3)) (hv : x + Int32.ofInt n = v) (k : G p l e R s m args below meth c H locs cells slots Q (some (.int v) :: t) (pc + 3) st) : G p l e R s m args below meth c H locs cells slots Q (some (.int x) :: t) pc st := by
  intro ls h
  obtain ⟨k0, hk0⟩ : ∃ k0 : Nat, (en 0 (some (.int x) :: t))[k0]? = some (0, .int x) := List.mem_iff_getElem?.mp (en_mem.mpr ⟨0, rfl, rfl⟩)
  refine lv_iinc (k := k0) (v := v) C.1 C.2.1 hd h hk0 hv (by simp only [List.length_cons]; omega) rfl (fun ls2 h2 => k ls2 (G.sto (by simp only [List.length_cons]) ?_ h2))
  intro j w hw
  match j, hw with
  | 0, hw => exact Or.inl ⟨rfl, (Option.some.inj (Option.some.inj hw)).symm⟩
  | j + 1, hw => exact Or.inr ⟨hw, by first | (simp; done) | (simp; omega)⟩
theorem g_iinc1 (C : CX p s m args meth c cc own nL ret) {a0 : Option Value} {t : List (Option Value)} {n : Int} {x : Int32} (v : Int32) (hc : c1 a0 = true) (hd : decode cc pc = .ok (.iinc 1 n, 3)) (hv : x + Int32.ofInt n = v) (k : G p l e R s m args below meth c H locs cells slots Q (a0 :: some (.int v) :: t) (pc + 3) st) : G p l e R s m args below meth c H locs cells slots Q (a0 :: some (.int x) :: t) pc st := by
  intro ls h
  obtain ⟨k0, hk0⟩ : ∃ k0 : Nat, (en 0 (a0 :: some (.int x) :: t))[k0]? = some (1, .int x) := List.mem_iff_getElem?.mp (en_mem.mpr ⟨1, rfl, rfl⟩)
  refine lv_iinc (k := k0) (v := v) C.1 C.2.1 hd h hk0 hv (by simp only [List.length_cons]; omega) rfl (fun ls2 h2 => k ls2 (G.sto (by simp only [List.length_cons]) ?_ h2))
  intro j w hw
  match j, hw with
  | 0, hw =>
    have hw2 : a0 = some w := Option.some.inj hw
    subst hw2
    have hc2 : w.category = 1 := by simpa [c1] using hc
    exact Or.inr ⟨hw, by simp [hc2]⟩
  | 1, hw => exact Or.inl ⟨rfl, (Option.some.inj (Option.some.inj hw)).symm⟩
  | j + 2, hw => exact Or.inr ⟨hw, by first | (simp; done) | (simp; omega)⟩
theorem g_iinc2 (C : CX p s m args meth c cc own nL ret) {a0 a1 : Option Value} {t : List (Option Value)} {n : Int} {x : Int32} (v : Int32) (hc : c1 a1 = true) (hd : decode cc pc = .ok (.iinc 2 n, 3)) (hv : x + Int32.ofInt n = v) (k : G p l e R s m args below meth c H locs cells slots Q (a0 :: a1 :: some (.int v) :: t) (pc + 3) st) : G p l e R s m args below meth c H locs cells slots Q (a0 :: a1 :: some (.int x) :: t) pc st := by
  intro ls h
  obtain ⟨k0, hk0⟩ : ∃ k0 : Nat, (en 0 (a0 :: a1 :: some (.int x) :: t))[k0]? = some (2, .int x) := List.mem_iff_getElem?.mp (en_mem.mpr ⟨2, rfl, rfl⟩)
  refine lv_iinc (k := k0) (v := v) C.1 C.2.1 hd h hk0 hv (by simp only [List.length_cons]; omega) rfl (fun ls2 h2 => k ls2 (G.sto (by simp only [List.length_cons]) ?_ h2))
  intro j w hw
  match j, hw with
  | 0, hw => exact Or.inr ⟨hw, by simp⟩
  | 1, hw =>
    have hw2 : a1 = some w := Option.some.inj hw
    subst hw2
    have hc2 : w.category = 1 := by simpa [c1] using hc
    exact Or.inr ⟨hw, by simp [hc2]⟩
  | 2, hw => exact Or.inl ⟨rfl, (Option.some.inj (Option.some.inj hw)).symm⟩
  | j + 3, hw => exact Or.inr ⟨hw, by first | (simp; done) | (simp; omega)⟩
theorem g_iinc3 (C : CX p s m args meth c cc own nL ret) {a0 a1 a2 : Option Value} {t : List (Option Value)} {n : Int} {x : Int32} (v : Int32) (hc : c1 a2 = true) (hd : decode cc pc = .ok (.iinc 3 n, 3)) (hv : x + Int32.ofInt n = v) (k : G p l e R s m args below meth c H locs cells slots Q (a0 :: a1 :: a2 :: some (.int v) :: t) (pc + 3) st) : G p l e R s m args below meth c H locs cells slots Q (a0 :: a1 :: a2 :: some (.int x) :: t) pc st := by
  intro ls h
  obtain ⟨k0, hk0⟩ : ∃ k0 : Nat, (en 0 (a0 :: a1 :: a2 :: some (.int x) :: t))[k0]? = some (3, .int x) := List.mem_iff_getElem?.mp (en_mem.mpr ⟨3, rfl, rfl⟩)
  refine lv_iinc (k := k0) (v := v) C.1 C.2.1 hd h hk0 hv (by simp only [List.length_cons]; omega) rfl (fun ls2 h2 => k ls2 (G.sto (by simp only [List.length_cons]) ?_ h2))
  intro j w hw
  match j, hw with
  | 0, hw => exact Or.inr ⟨hw, by simp⟩
  | 1, hw => exact Or.inr ⟨hw, by simp⟩
  | 2, hw =>
    have hw2 : a2 = some w := Option.some.inj hw
    subst hw2
    have hc2 : w.category = 1 := by simpa [c1] using hc
    exact Or.inr ⟨hw, by simp [hc2]⟩
  | 3, hw => exact Or.inl ⟨rfl, (Option.some.inj (Option.some.inj hw)).symm⟩
  | j + 4, hw => exact Or.inr ⟨hw, by first | (simp; done) | (simp; omega)⟩
theorem g_iinc4 (C : CX p s m args meth c cc own nL ret) {a0 a1 a2 a3 : Option Value} {t : List (Option Value)} {n : Int} {x : Int32} (v : Int32) (hc : c1 a3 = true) (hd : decode cc pc = .ok (.iinc 4 n, 3)) (hv : x + Int32.ofInt n = v) (k : G p l e R s m args below meth c H locs cells slots Q (a0 :: a1 :: a2 :: a3 :: some (.int v) :: t) (pc + 3) st) : G p l e R s m args below meth c H locs cells slots Q (a0 :: a1 :: a2 :: a3 :: some (.int x) :: t) pc st := by
  intro ls h
  obtain ⟨k0, hk0⟩ : ∃ k0 : Nat, (en 0 (a0 :: a1 :: a2 :: a3 :: some (.int x) :: t))[k0]? = some (4, .int x) := List.mem_iff_getElem?.mp (en_mem.mpr ⟨4, rfl, rfl⟩)
  refine lv_iinc (k := k0) (v := v) C.1 C.2.1 hd h hk0 hv (by simp only [List.length_cons]; omega) rfl (fun ls2 h2 => k ls2 (G.sto (by simp only [List.length_cons]) ?_ h2))
  intro j w hw
  match j, hw with
  | 0, hw => exact Or.inr ⟨hw, by simp⟩
  | 1, hw => exact Or.inr ⟨hw, by simp⟩
  | 2, hw => exact Or.inr ⟨hw, by simp⟩
  | 3, hw =>
    have hw2 : a3 = some w := Option.some.inj hw
    subst hw2
    have hc2 : w.category = 1 := by simpa [c1] using hc
    exact Or.inr ⟨hw, by simp [hc2]⟩
  | 4, hw => exact Or.inl ⟨rfl, (Option.some.inj (Option.some.inj hw)).symm⟩
  | j + 5, hw => exact Or.inr ⟨hw, by first | (simp; done) | (simp; omega)⟩
theorem g_iinc5 (C : CX p s m args meth c cc own nL ret) {a0 a1 a2 a3 a4 : Option Value} {t : List (Option Value)} {n : Int} {x : Int32} (v : Int32) (hc : c1 a4 = true) (hd : decode cc pc = .ok (.iinc 5 n, 3)) (hv : x + Int32.ofInt n = v) (k : G p l e R s m args below meth c H locs cells slots Q (a0 :: a1 :: a2 :: a3 :: a4 :: some (.int v) :: t) (pc + 3) st) : G p l e R s m args below meth c H locs cells slots Q (a0 :: a1 :: a2 :: a3 :: a4 :: some (.int x) :: t) pc st := by
  intro ls h
  obtain ⟨k0, hk0⟩ : ∃ k0 : Nat, (en 0 (a0 :: a1 :: a2 :: a3 :: a4 :: some (.int x) :: t))[k0]? = some (5, .int x) := List.mem_iff_getElem?.mp (en_mem.mpr ⟨5, rfl, rfl⟩)
  refine lv_iinc (k := k0) (v := v) C.1 C.2.1 hd h hk0 hv (by simp only [List.length_cons]; omega) rfl (fun ls2 h2 => k ls2 (G.sto (by simp only [List.length_cons]) ?_ h2))
  intro j w hw
  match j, hw with
  | 0, hw => exact Or.inr ⟨hw, by simp⟩
  | 1, hw => exact Or.inr ⟨hw, by simp⟩
  | 2, hw => exact Or.inr ⟨hw, by simp⟩
  | 3, hw => exact Or.inr ⟨hw, by simp⟩
  | 4, hw =>
    have hw2 : a4 = some w := Option.some.inj hw
    subst hw2
    have hc2 : w.category = 1 := by simpa [c1] using hc
    exact Or.inr ⟨hw, by simp [hc2]⟩
  | 5, hw => exact Or.inl ⟨rfl, (Option.some.inj (Option.some.inj hw)).symm⟩
  | j + 6, hw => exact Or.inr ⟨hw, by first | (simp; done) | (simp; omega)⟩
theorem g_iinc6 (C : CX p s m args meth c cc own nL ret) {a0 a1 a2 a3 a4 a5 : Option Value} {t : List (Option Value)} {n : Int} {x : Int32} (v : Int32) (hc : c1 a5 = true) (hd : decode cc pc = .ok (.iinc 6 n, 3)) (hv : x + Int32.ofInt n = v) (k : G p l e R s m args below meth c H locs cells slots Q (a0 :: a1 :: a2 :: a3 :: a4 :: a5 :: some (.int v) :: t) (pc + 3) st) : G p l e R s m args below meth c H locs cells slots Q (a0 :: a1 :: a2 :: a3 :: a4 :: a5 :: some (.int x) :: t) pc st := by
  intro ls h
  obtain ⟨k0, hk0⟩ : ∃ k0 : Nat, (en 0 (a0 :: a1 :: a2 :: a3 :: a4 :: a5 :: some (.int x) :: t))[k0]? = some (6, .int x) := List.mem_iff_getElem?.mp (en_mem.mpr ⟨6, rfl, rfl⟩)
  refine lv_iinc (k := k0) (v := v) C.1 C.2.1 hd h hk0 hv (by simp only [List.length_cons]; omega) rfl (fun ls2 h2 => k ls2 (G.sto (by simp only [List.length_cons]) ?_ h2))
  intro j w hw
  match j, hw with
  | 0, hw => exact Or.inr ⟨hw, by simp⟩
  | 1, hw => exact Or.inr ⟨hw, by simp⟩
  | 2, hw => exact Or.inr ⟨hw, by simp⟩
  | 3, hw => exact Or.inr ⟨hw, by simp⟩
  | 4, hw => exact Or.inr ⟨hw, by simp⟩
  | 5, hw =>
    have hw2 : a5 = some w := Option.some.inj hw
    subst hw2
    have hc2 : w.category = 1 := by simpa [c1] using hc
    exact Or.inr ⟨hw, by simp [hc2]⟩
  | 6, hw => exact Or.inl ⟨rfl, (Option.some.inj (Option.some.inj hw)).symm⟩
  | j + 7, hw => exact Or.inr ⟨hw, by first | (simp; done) | (simp; omega)⟩
theorem g_iinc7 (C : CX p s m args meth c cc own nL ret) {a0 a1 a2 a3 a4 a5 a6 : Option Value} {t : List (Option Value)} {n : Int} {x : Int32} (v : Int32) (hc : c1 a6 = true) (hd : decode cc pc = .ok (.iinc 7 n, 3)) (hv : x + Int32.ofInt n = v) (k : G p l e R s m args below meth c H locs cells slots Q (a0 :: a1 :: a2 :: a3 :: a4 :: a5 :: a6 :: some (.int v) :: t) (pc + 3) st) : G p l e R s m args below meth c H locs cells slots Q (a0 :: a1 :: a2 :: a3 :: a4 :: a5 :: a6 :: some (.int x) :: t) pc st := by
  intro ls h
  obtain ⟨k0, hk0⟩ : ∃ k0 : Nat, (en 0 (a0 :: a1 :: a2 :: a3 :: a4 :: a5 :: a6 :: some (.int x) :: t))[k0]? = some (7, .int x) := List.mem_iff_getElem?.mp (en_mem.mpr ⟨7, rfl, rfl⟩)
  refine lv_iinc (k := k0) (v := v) C.1 C.2.1 hd h hk0 hv (by simp only [List.length_cons]; omega) rfl (fun ls2 h2 => k ls2 (G.sto (by simp only [List.length_cons]) ?_ h2))
  intro j w hw
  match j, hw with
  | 0, hw => exact Or.inr ⟨hw, by simp⟩
  | 1, hw => exact Or.inr ⟨hw, by simp⟩
  | 2, hw => exact Or.inr ⟨hw, by simp⟩
  | 3, hw => exact Or.inr ⟨hw, by simp⟩
  | 4, hw => exact Or.inr ⟨hw, by simp⟩
  | 5, hw => exact Or.inr ⟨hw, by simp⟩
  | 6, hw =>
    have hw2 : a6 = some w := Option.some.inj hw
    subst hw2
    have hc2 : w.category = 1 := by simpa [c1] using hc
    exact Or.inr ⟨hw, by simp [hc2]⟩
  | 7, hw => exact Or.inl ⟨rfl, (Option.some.inj (Option.some.inj hw)).symm⟩
  | j + 8, hw => exact Or.inr ⟨hw, by first | (simp; done) | (simp; omega)⟩
theorem g_iinc8 (C : CX p s m args meth c cc own nL ret) {a0 a1 a2 a3 a4 a5 a6 a7 : Option Value} {t : List (Option Value)} {n : Int} {x : Int32} (v : Int32) (hc : c1 a7 = true) (hd : decode cc pc = .ok (.iinc 8 n, 3)) (hv : x + Int32.ofInt n = v) (k : G p l e R s m args below meth c H locs cells slots Q (a0 :: a1 :: a2 :: a3 :: a4 :: a5 :: a6 :: a7 :: some (.int v) :: t) (pc + 3) st) : G p l e R s m args below meth c H locs cells slots Q (a0 :: a1 :: a2 :: a3 :: a4 :: a5 :: a6 :: a7 :: some (.int x) :: t) pc st := by
  intro ls h
  obtain ⟨k0, hk0⟩ : ∃ k0 : Nat, (en 0 (a0 :: a1 :: a2 :: a3 :: a4 :: a5 :: a6 :: a7 :: some (.int x) :: t))[k0]? = some (8, .int x) := List.mem_iff_getElem?.mp (en_mem.mpr ⟨8, rfl, rfl⟩)
  refine lv_iinc (k := k0) (v := v) C.1 C.2.1 hd h hk0 hv (by simp only [List.length_cons]; omega) rfl (fun ls2 h2 => k ls2 (G.sto (by simp only [List.length_cons]) ?_ h2))
  intro j w hw
  match j, hw with
  | 0, hw => exact Or.inr ⟨hw, by simp⟩
  | 1, hw => exact Or.inr ⟨hw, by simp⟩
  | 2, hw => exact Or.inr ⟨hw, by simp⟩
  | 3, hw => exact Or.inr ⟨hw, by simp⟩
  | 4, hw => exact Or.inr ⟨hw, by simp⟩
  | 5, hw => exact Or.inr ⟨hw, by simp⟩
  | 6, hw => exact Or.inr ⟨hw, by simp⟩
  | 7, hw =>
    have hw2 : a7 = some w := Option.some.inj hw
    subst hw2
    have hc2 : w.category = 1 := by simpa [c1] using hc
    exact Or.inr ⟨hw, by simp [hc2]⟩
  | 8, hw => exact Or.inl ⟨rfl, (Option.some.inj (Option.some.inj hw)).symm⟩
  | j + 9, hw => exact Or.inr ⟨hw, by first | (simp; done) | (simp; omega)⟩
theorem g_iconst (C : CX p s m args meth c cc own nL ret) {n : Int} (v : Int32) (hv : Int32.ofInt n = v) (hd : decode cc pc = .ok (.iconst n, 1)) (k : G p l e R s m args below meth c H locs cells slots Q vs (pc + 1) (.int v :: st)) : G p l e R s m args below meth c H locs cells slots Q vs pc (st) := fun ls h => lv_iconst C.1 C.2.1 hd hv (k ls h)
theorem g_bipush (C : CX p s m args meth c cc own nL ret) {n : Int} (v : Int32) (hv : (Int8.ofInt n).toInt32 = v) (hd : decode cc pc = .ok (.bipush n, 2)) (k : G p l e R s m args below meth c H locs cells slots Q vs (pc + 2) (.int v :: st)) : G p l e R s m args below meth c H locs cells slots Q vs pc (st) := fun ls h => lv_bipush C.1 C.2.1 hd hv (k ls h)
theorem g_sipush (C : CX p s m args meth c cc own nL ret) {n : Int} (v : Int32) (hv : (Int16.ofInt n).toInt32 = v) (hd : decode cc pc = .ok (.sipush n, 3)) (k : G p l e R s m args below meth c H locs cells slots Q vs (pc + 3) (.int v :: st)) : G p l e R s m args below meth c H locs cells slots Q vs pc (st) := fun ls h => lv_sipush C.1 C.2.1 hd hv (k ls h)
theorem g_iadd (C : CX p s m args meth c cc own nL ret) {x y : Int32} (hd : decode cc pc = .ok (.iadd, 1)) (k : G p l e R s m args below meth c H locs cells slots Q vs (pc + 1) (.int (x + y) :: st)) : G p l e R s m args below meth c H locs cells slots Q vs pc (.int y :: .int x :: st) := fun ls h => lv_iadd C.1 C.2.1 hd (k ls h)
theorem g_isub (C : CX p s m args meth c cc own nL ret) {x y : Int32} (hd : decode cc pc = .ok (.isub, 1)) (k : G p l e R s m args below meth c H locs cells slots Q vs (pc + 1) (.int (x - y) :: st)) : G p l e R s m args below meth c H locs cells slots Q vs pc (.int y :: .int x :: st) := fun ls h => lv_isub C.1 C.2.1 hd (k ls h)
theorem g_imul (C : CX p s m args meth c cc own nL ret) {x y : Int32} (hd : decode cc pc = .ok (.imul, 1)) (k : G p l e R s m args below meth c H locs cells slots Q vs (pc + 1) (.int (x * y) :: st)) : G p l e R s m args below meth c H locs cells slots Q vs pc (.int y :: .int x :: st) := fun ls h => lv_imul C.1 C.2.1 hd (k ls h)
theorem g_iand (C : CX p s m args meth c cc own nL ret) {x y : Int32} (hd : decode cc pc = .ok (.iand, 1)) (k : G p l e R s m args below meth c H locs cells slots Q vs (pc + 1) (.int (x &&& y) :: st)) : G p l e R s m args below meth c H locs cells slots Q vs pc (.int y :: .int x :: st) := fun ls h => lv_iand C.1 C.2.1 hd (k ls h)
theorem g_iaddN (C : CX p s m args meth c cc own nL ret) {a b : Nat} (hd : decode cc pc = .ok (.iadd, 1)) (k : G p l e R s m args below meth c H locs cells slots Q vs (pc + 1) (.int (nI (a + b)) :: st)) : G p l e R s m args below meth c H locs cells slots Q vs pc (.int (nI b) :: .int (nI a) :: st) := fun ls h => lv_iadd C.1 C.2.1 hd (by rw [nI_add]; exact k ls h)
theorem g_imulN (C : CX p s m args meth c cc own nL ret) {a b : Nat} (hd : decode cc pc = .ok (.imul, 1)) (k : G p l e R s m args below meth c H locs cells slots Q vs (pc + 1) (.int (nI (a * b)) :: st)) : G p l e R s m args below meth c H locs cells slots Q vs pc (.int (nI b) :: .int (nI a) :: st) := fun ls h => lv_imul C.1 C.2.1 hd (by rw [pk_mul]; exact k ls h)
theorem g_isubN (C : CX p s m args meth c cc own nL ret) {a b : Nat} (hab : b ≤ a) (hd : decode cc pc = .ok (.isub, 1)) (k : G p l e R s m args below meth c H locs cells slots Q vs (pc + 1) (.int (nI (a - b)) :: st)) : G p l e R s m args below meth c H locs cells slots Q vs pc (.int (nI b) :: .int (nI a) :: st) := fun ls h => lv_isub C.1 C.2.1 hd (by rw [pk_sub hab]; exact k ls h)
theorem g_idivN (C : CX p s m args meth c cc own nL ret) {a b : Nat} (h0 : 0 < b) (ha : a < 2147483648) (hb : b < 2147483648) (hd : decode cc pc = .ok (.idiv, 1)) (k : G p l e R s m args below meth c H locs cells slots Q vs (pc + 1) (.int (nI (a / b)) :: st)) : G p l e R s m args below meth c H locs cells slots Q vs pc (.int (nI b) :: .int (nI a) :: st) := fun ls h => lv_idiv C.1 C.2.1 hd (nI_ne0 h0 hb) (by rw [pk_div ha h0 hb]; exact k ls h)
theorem g_ladd (C : CX p s m args meth c cc own nL ret) {x y : Int64} (hd : decode cc pc = .ok (.ladd, 1)) (k : G p l e R s m args below meth c H locs cells slots Q vs (pc + 1) (.long (x + y) :: st)) : G p l e R s m args below meth c H locs cells slots Q vs pc (.long y :: .long x :: st) := fun ls h => lv_ladd C.1 C.2.1 hd (k ls h)
theorem g_lsub (C : CX p s m args meth c cc own nL ret) {x y : Int64} (hd : decode cc pc = .ok (.lsub, 1)) (k : G p l e R s m args below meth c H locs cells slots Q vs (pc + 1) (.long (x - y) :: st)) : G p l e R s m args below meth c H locs cells slots Q vs pc (.long y :: .long x :: st) := fun ls h => lv_lsub C.1 C.2.1 hd (k ls h)
theorem g_lmul (C : CX p s m args meth c cc own nL ret) {x y : Int64} (hd : decode cc pc = .ok (.lmul, 1)) (k : G p l e R s m args below meth c H locs cells slots Q vs (pc + 1) (.long (x * y) :: st)) : G p l e R s m args below meth c H locs cells slots Q vs pc (.long y :: .long x :: st) := fun ls h => lv_lmul C.1 C.2.1 hd (k ls h)
theorem g_land (C : CX p s m args meth c cc own nL ret) {x y : Int64} (hd : decode cc pc = .ok (.land, 1)) (k : G p l e R s m args below meth c H locs cells slots Q vs (pc + 1) (.long (x &&& y) :: st)) : G p l e R s m args below meth c H locs cells slots Q vs pc (.long y :: .long x :: st) := fun ls h => lv_land C.1 C.2.1 hd (k ls h)
theorem g_lor (C : CX p s m args meth c cc own nL ret) {x y : Int64} (hd : decode cc pc = .ok (.lor, 1)) (k : G p l e R s m args below meth c H locs cells slots Q vs (pc + 1) (.long (x ||| y) :: st)) : G p l e R s m args below meth c H locs cells slots Q vs pc (.long y :: .long x :: st) := fun ls h => lv_lor C.1 C.2.1 hd (k ls h)
theorem g_lxor (C : CX p s m args meth c cc own nL ret) {x y : Int64} (hd : decode cc pc = .ok (.lxor, 1)) (k : G p l e R s m args below meth c H locs cells slots Q vs (pc + 1) (.long (x ^^^ y) :: st)) : G p l e R s m args below meth c H locs cells slots Q vs pc (.long y :: .long x :: st) := fun ls h => lv_lxor C.1 C.2.1 hd (k ls h)
theorem g_i2l (C : CX p s m args meth c cc own nL ret) {x : Int32} (v : Int64) (hv : x.toInt64 = v) (hd : decode cc pc = .ok (.i2l, 1)) (k : G p l e R s m args below meth c H locs cells slots Q vs (pc + 1) (.long v :: st)) : G p l e R s m args below meth c H locs cells slots Q vs pc (.int x :: st) := fun ls h => lv_i2l C.1 C.2.1 hd hv (k ls h)
theorem g_lconst (C : CX p s m args meth c cc own nL ret) {n : Fin 2} (v : Int64) (hv : Int64.ofNat (n : Nat) = v) (hd : decode cc pc = .ok (.lconst n, 1)) (k : G p l e R s m args below meth c H locs cells slots Q vs (pc + 1) (.long v :: st)) : G p l e R s m args below meth c H locs cells slots Q vs pc (st) := fun ls h => lv_lconst C.1 C.2.1 hd hv (k ls h)
theorem g_lushr (C : CX p s m args meth c cc own nL ret) {x : Int64} {y : Int32}  (v : Int64) (hv : (x.toUInt64 >>> (y.toInt64.toUInt64 &&& Int64.toUInt64 63)).toInt64 = v) (hd : decode cc pc = .ok (.lushr, 1)) (k : G p l e R s m args below meth c H locs cells slots Q vs (pc + 1) (.long v :: st)) : G p l e R s m args below meth c H locs cells slots Q vs pc (.int y :: .long x :: st) := fun ls h => lv_lushr C.1 C.2.1 hd hv (k ls h)
theorem g_dup (C : CX p s m args meth c cc own nL ret) {v : Value} (hva : v.category = 1) (hd : decode cc pc = .ok (.dup, 1)) (k : G p l e R s m args below meth c H locs cells slots Q vs (pc + 1) (v :: v :: st)) : G p l e R s m args below meth c H locs cells slots Q vs pc (v :: st) := fun ls h => lv_dup C.1 C.2.1 hd hva (k ls h)
theorem g_dup2 (C : CX p s m args meth c cc own nL ret) {v w : Value} (hva : v.category = 1) (hvb : w.category = 1) (hd : decode cc pc = .ok (.dup2, 1)) (k : G p l e R s m args below meth c H locs cells slots Q vs (pc + 1) (v :: w :: v :: w :: st)) : G p l e R s m args below meth c H locs cells slots Q vs pc (v :: w :: st) := fun ls h => lv_dup2_11 C.1 C.2.1 hd hva hvb (k ls h)
theorem g_pop (C : CX p s m args meth c cc own nL ret) {v : Value} (hva : v.category = 1) (hd : decode cc pc = .ok (.pop, 1)) (k : G p l e R s m args below meth c H locs cells slots Q vs (pc + 1) (st)) : G p l e R s m args below meth c H locs cells slots Q vs pc (v :: st) := fun ls h => lv_pop C.1 C.2.1 hd hva (k ls h)
theorem g_goto (C : CX p s m args meth c cc own nL ret) {off : Int} (tgt : Nat) (hd : decode cc pc = .ok (.goto off, 3)) (ht : (pc : Int) + off = (tgt : Int)) (k : G p l e R s m args below meth c H locs cells slots Q vs tgt st) : G p l e R s m args below meth c H locs cells slots Q vs pc st := fun ls h => lv_goto C.1 C.2.1 hd ht (k ls h)
theorem g_icmp_eq (C : CX p s m args meth c cc own nL ret) {x y : Int32} {off : Int} (tgt : Nat) (hd : decode cc pc = .ok (.if_icmp .eq off, 3)) (ht : (pc : Int) + off = (tgt : Int)) (kt : x = y → G p l e R s m args below meth c H locs cells slots Q vs tgt st) (kf : ¬ x = y → G p l e R s m args below meth c H locs cells slots Q vs (pc + 3) st) : G p l e R s m args below meth c H locs cells slots Q vs pc (.int y :: .int x :: st) := fun ls h => lv_icmp_eq C.1 C.2.1 hd ht (fun q => kt q ls h) (fun q => kf q ls h)
theorem g_if_eq (C : CX p s m args meth c cc own nL ret) {x : Int32} {off : Int} (tgt : Nat) (hd : decode cc pc = .ok (.ifCond .eq off, 3)) (ht : (pc : Int) + off = (tgt : Int)) (kt : x = 0 → G p l e R s m args below meth c H locs cells slots Q vs tgt st) (kf : ¬ x = 0 → G p l e R s m args below meth c H locs cells slots Q vs (pc + 3) st) : G p l e R s m args below meth c H locs cells slots Q vs pc (.int x :: st) := fun ls h => lv_if_eq C.1 C.2.1 hd ht (fun q => kt q ls h) (fun q => kf q ls h)
theorem g_icmp_ne (C : CX p s m args meth c cc own nL ret) {x y : Int32} {off : Int} (tgt : Nat) (hd : decode cc pc = .ok (.if_icmp .ne off, 3)) (ht : (pc : Int) + off = (tgt : Int)) (kt : ¬ x = y → G p l e R s m args below meth c H locs cells slots Q vs tgt st) (kf : x = y → G p l e R s m args below meth c H locs cells slots Q vs (pc + 3) st) : G p l e R s m args below meth c H locs cells slots Q vs pc (.int y :: .int x :: st) := fun ls h => lv_icmp_ne C.1 C.2.1 hd ht (fun q => kt q ls h) (fun q => kf q ls h)
theorem g_if_ne (C : CX p s m args meth c cc own nL ret) {x : Int32} {off : Int} (tgt : Nat) (hd : decode cc pc = .ok (.ifCond .ne off, 3)) (ht : (pc : Int) + off = (tgt : Int)) (kt : ¬ x = 0 → G p l e R s m args below meth c H locs cells slots Q vs tgt st) (kf : x = 0 → G p l e R s m args below meth c H locs cells slots Q vs (pc + 3) st) : G p l e R s m args below meth c H locs cells slots Q vs pc (.int x :: st) := fun ls h => lv_if_ne C.1 C.2.1 hd ht (fun q => kt q ls h) (fun q => kf q ls h)
theorem g_icmp_lt (C : CX p s m args meth c cc own nL ret) {x y : Int32} {off : Int} (tgt : Nat) (hd : decode cc pc = .ok (.if_icmp .lt off, 3)) (ht : (pc : Int) + off = (tgt : Int)) (kt : x < y → G p l e R s m args below meth c H locs cells slots Q vs tgt st) (kf : ¬ x < y → G p l e R s m args below meth c H locs cells slots Q vs (pc + 3) st) : G p l e R s m args below meth c H locs cells slots Q vs pc (.int y :: .int x :: st) := fun ls h => lv_icmp_lt C.1 C.2.1 hd ht (fun q => kt q ls h) (fun q => kf q ls h)
theorem g_if_lt (C : CX p s m args meth c cc own nL ret) {x : Int32} {off : Int} (tgt : Nat) (hd : decode cc pc = .ok (.ifCond .lt off, 3)) (ht : (pc : Int) + off = (tgt : Int)) (kt : x < 0 → G p l e R s m args below meth c H locs cells slots Q vs tgt st) (kf : ¬ x < 0 → G p l e R s m args below meth c H locs cells slots Q vs (pc + 3) st) : G p l e R s m args below meth c H locs cells slots Q vs pc (.int x :: st) := fun ls h => lv_if_lt C.1 C.2.1 hd ht (fun q => kt q ls h) (fun q => kf q ls h)
theorem g_icmp_ge (C : CX p s m args meth c cc own nL ret) {x y : Int32} {off : Int} (tgt : Nat) (hd : decode cc pc = .ok (.if_icmp .ge off, 3)) (ht : (pc : Int) + off = (tgt : Int)) (kt : y ≤ x → G p l e R s m args below meth c H locs cells slots Q vs tgt st) (kf : ¬ y ≤ x → G p l e R s m args below meth c H locs cells slots Q vs (pc + 3) st) : G p l e R s m args below meth c H locs cells slots Q vs pc (.int y :: .int x :: st) := fun ls h => lv_icmp_ge C.1 C.2.1 hd ht (fun q => kt q ls h) (fun q => kf q ls h)
theorem g_if_ge (C : CX p s m args meth c cc own nL ret) {x : Int32} {off : Int} (tgt : Nat) (hd : decode cc pc = .ok (.ifCond .ge off, 3)) (ht : (pc : Int) + off = (tgt : Int)) (kt : 0 ≤ x → G p l e R s m args below meth c H locs cells slots Q vs tgt st) (kf : ¬ 0 ≤ x → G p l e R s m args below meth c H locs cells slots Q vs (pc + 3) st) : G p l e R s m args below meth c H locs cells slots Q vs pc (.int x :: st) := fun ls h => lv_if_ge C.1 C.2.1 hd ht (fun q => kt q ls h) (fun q => kf q ls h)
theorem g_icmp_gt (C : CX p s m args meth c cc own nL ret) {x y : Int32} {off : Int} (tgt : Nat) (hd : decode cc pc = .ok (.if_icmp .gt off, 3)) (ht : (pc : Int) + off = (tgt : Int)) (kt : y < x → G p l e R s m args below meth c H locs cells slots Q vs tgt st) (kf : ¬ y < x → G p l e R s m args below meth c H locs cells slots Q vs (pc + 3) st) : G p l e R s m args below meth c H locs cells slots Q vs pc (.int y :: .int x :: st) := fun ls h => lv_icmp_gt C.1 C.2.1 hd ht (fun q => kt q ls h) (fun q => kf q ls h)
theorem g_if_gt (C : CX p s m args meth c cc own nL ret) {x : Int32} {off : Int} (tgt : Nat) (hd : decode cc pc = .ok (.ifCond .gt off, 3)) (ht : (pc : Int) + off = (tgt : Int)) (kt : 0 < x → G p l e R s m args below meth c H locs cells slots Q vs tgt st) (kf : ¬ 0 < x → G p l e R s m args below meth c H locs cells slots Q vs (pc + 3) st) : G p l e R s m args below meth c H locs cells slots Q vs pc (.int x :: st) := fun ls h => lv_if_gt C.1 C.2.1 hd ht (fun q => kt q ls h) (fun q => kf q ls h)
theorem g_icmp_le (C : CX p s m args meth c cc own nL ret) {x y : Int32} {off : Int} (tgt : Nat) (hd : decode cc pc = .ok (.if_icmp .le off, 3)) (ht : (pc : Int) + off = (tgt : Int)) (kt : x ≤ y → G p l e R s m args below meth c H locs cells slots Q vs tgt st) (kf : ¬ x ≤ y → G p l e R s m args below meth c H locs cells slots Q vs (pc + 3) st) : G p l e R s m args below meth c H locs cells slots Q vs pc (.int y :: .int x :: st) := fun ls h => lv_icmp_le C.1 C.2.1 hd ht (fun q => kt q ls h) (fun q => kf q ls h)
theorem g_if_le (C : CX p s m args meth c cc own nL ret) {x : Int32} {off : Int} (tgt : Nat) (hd : decode cc pc = .ok (.ifCond .le off, 3)) (ht : (pc : Int) + off = (tgt : Int)) (kt : x ≤ 0 → G p l e R s m args below meth c H locs cells slots Q vs tgt st) (kf : ¬ x ≤ 0 → G p l e R s m args below meth c H locs cells slots Q vs (pc + 3) st) : G p l e R s m args below meth c H locs cells slots Q vs pc (.int x :: st) := fun ls h => lv_if_le C.1 C.2.1 hd ht (fun q => kt q ls h) (fun q => kf q ls h)
theorem g_icmp_eqN (C : CX p s m args meth c cc own nL ret) {a b : Nat} (ha : a < 2147483648) (hb : b < 2147483648) {off : Int} (tgt : Nat) (hd : decode cc pc = .ok (.if_icmp .eq off, 3)) (ht : (pc : Int) + off = (tgt : Int)) (kt : a = b → G p l e R s m args below meth c H locs cells slots Q vs tgt st) (kf : ¬ a = b → G p l e R s m args below meth c H locs cells slots Q vs (pc + 3) st) : G p l e R s m args below meth c H locs cells slots Q vs pc (.int (nI b) :: .int (nI a) :: st) :=
  g_icmp_eq C tgt hd ht (fun q => kt ((nI_eq ha hb).mp q)) (fun q => kf (fun z => q ((nI_eq ha hb).mpr z)))
theorem g_icmp_neN (C : CX p s m args meth c cc own nL ret) {a b : Nat} (ha : a < 2147483648) (hb : b < 2147483648) {off : Int} (tgt : Nat) (hd : decode cc pc = .ok (.if_icmp .ne off, 3)) (ht : (pc : Int) + off = (tgt : Int)) (kt : ¬ a = b → G p l e R s m args below meth c H locs cells slots Q vs tgt st) (kf : a = b → G p l e R s m args below meth c H locs cells slots Q vs (pc + 3) st) : G p l e R s m args below meth c H locs cells slots Q vs pc (.int (nI b) :: .int (nI a) :: st) :=
  g_icmp_ne C tgt hd ht (fun q => kt (fun z => q (by rw [z]))) (fun q => kf ((nI_eq ha hb).mp q))
theorem g_icmp_ltN (C : CX p s m args meth c cc own nL ret) {a b : Nat} (ha : a < 2147483648) (hb : b < 2147483648) {off : Int} (tgt : Nat) (hd : decode cc pc = .ok (.if_icmp .lt off, 3)) (ht : (pc : Int) + off = (tgt : Int)) (kt : a < b → G p l e R s m args below meth c H locs cells slots Q vs tgt st) (kf : b ≤ a → G p l e R s m args below meth c H locs cells slots Q vs (pc + 3) st) : G p l e R s m args below meth c H locs cells slots Q vs pc (.int (nI b) :: .int (nI a) :: st) :=
  g_icmp_lt C tgt hd ht (fun q => kt ((nI_ltI ha hb).mp q)) (fun q => kf (Nat.not_lt.mp fun z => q ((nI_ltI ha hb).mpr z)))
theorem g_icmp_geN (C : CX p s m args meth c cc own nL ret) {a b : Nat} (ha : a < 2147483648) (hb : b < 2147483648) {off : Int} (tgt : Nat) (hd : decode cc pc = .ok (.if_icmp .ge off, 3)) (ht : (pc : Int) + off = (tgt : Int)) (kt : b ≤ a → G p l e R s m args below meth c H locs cells slots Q vs tgt st) (kf : a < b → G p l e R s m args below meth c H locs cells slots Q vs (pc + 3) st) : G p l e R s m args below meth c H locs cells slots Q vs pc (.int (nI b) :: .int (nI a) :: st) :=
  g_icmp_ge C tgt hd ht (fun q => kt ((nI_leI hb ha).mp q)) (fun q => kf (Nat.not_le.mp fun z => q ((nI_leI hb ha).mpr z)))
theorem g_icmp_gtN (C : CX p s m args meth c cc own nL ret) {a b : Nat} (ha : a < 2147483648) (hb : b < 2147483648) {off : Int} (tgt : Nat) (hd : decode cc pc = .ok (.if_icmp .gt off, 3)) (ht : (pc : Int) + off = (tgt : Int)) (kt : b < a → G p l e R s m args below meth c H locs cells slots Q vs tgt st) (kf : a ≤ b → G p l e R s m args below meth c H locs cells slots Q vs (pc + 3) st) : G p l e R s m args below meth c H locs cells slots Q vs pc (.int (nI b) :: .int (nI a) :: st) :=
  g_icmp_gt C tgt hd ht (fun q => kt ((nI_ltI hb ha).mp q)) (fun q => kf (Nat.not_lt.mp fun z => q ((nI_ltI hb ha).mpr z)))
theorem g_icmp_leN (C : CX p s m args meth c cc own nL ret) {a b : Nat} (ha : a < 2147483648) (hb : b < 2147483648) {off : Int} (tgt : Nat) (hd : decode cc pc = .ok (.if_icmp .le off, 3)) (ht : (pc : Int) + off = (tgt : Int)) (kt : a ≤ b → G p l e R s m args below meth c H locs cells slots Q vs tgt st) (kf : b < a → G p l e R s m args below meth c H locs cells slots Q vs (pc + 3) st) : G p l e R s m args below meth c H locs cells slots Q vs pc (.int (nI b) :: .int (nI a) :: st) :=
  g_icmp_le C tgt hd ht (fun q => kt ((nI_leI ha hb).mp q)) (fun q => kf (Nat.not_le.mp fun z => q ((nI_leI ha hb).mpr z)))
def bI (P : Prop) [Decidable P] : Int32 := if P then 1 else 0
theorem bI_t {P : Prop} [Decidable P] (h : P) : bI P = 1 := if_pos h
theorem bI_f {P : Prop} [Decidable P] (h : ¬ P) : bI P = 0 := if_neg h
theorem bI_0 {P : Prop} [Decidable P] : bI P = 0 ↔ ¬ P := by unfold bI; split <;> simp_all
theorem bI_z (P : Prop) [Decidable P] : narrow .boolean (.int (bI P)) = .int (bI P) := by unfold bI; split <;> rfl
theorem g_if_eqB (C : CX p s m args meth c cc own nL ret) {P : Prop} [Decidable P] {off : Int} (tgt : Nat) (hd : decode cc pc = .ok (.ifCond .eq off, 3)) (ht : (pc : Int) + off = (tgt : Int)) (kt : ¬ P → G p l e R s m args below meth c H locs cells slots Q vs tgt st) (kf : P → G p l e R s m args below meth c H locs cells slots Q vs (pc + 3) st) : G p l e R s m args below meth c H locs cells slots Q vs pc (.int (bI P) :: st) := g_if_eq C tgt hd ht (fun q => kt (bI_0.mp q)) (fun q => kf (Classical.byContradiction fun z => q (bI_0.mpr z)))
theorem g_if_neB (C : CX p s m args meth c cc own nL ret) {P : Prop} [Decidable P] {off : Int} (tgt : Nat) (hd : decode cc pc = .ok (.ifCond .ne off, 3)) (ht : (pc : Int) + off = (tgt : Int)) (kt : P → G p l e R s m args below meth c H locs cells slots Q vs tgt st) (kf : ¬ P → G p l e R s m args below meth c H locs cells slots Q vs (pc + 3) st) : G p l e R s m args below meth c H locs cells slots Q vs pc (.int (bI P) :: st) := g_if_ne C tgt hd ht (fun q => kt (Classical.byContradiction fun z => q (bI_0.mpr z))) (fun q => kf (bI_0.mp q))
theorem g_top {x y : Int32} (h : x = y) (k : G p l e R s m args below meth c H locs cells slots Q vs pc (.int y :: st)) : G p l e R s m args below meth c H locs cells slots Q vs pc (.int x :: st) := h ▸ k
theorem g_topl {x y : Int64} (h : x = y) (k : G p l e R s m args below meth c H locs cells slots Q vs pc (.long y :: st)) : G p l e R s m args below meth c H locs cells slots Q vs pc (.long x :: st) := h ▸ k
theorem g_gen {x : Int32} (k : ∀ y : Int32, y = x → G p l e R s m args below meth c H locs cells slots Q vs pc (.int y :: st)) : G p l e R s m args below meth c H locs cells slots Q vs pc (.int x :: st) := k x rfl
theorem g_genl {x : Int64} (k : ∀ y : Int64, y = x → G p l e R s m args below meth c H locs cells slots Q vs pc (.long y :: st)) : G p l e R s m args below meth c H locs cells slots Q vs pc (.long x :: st) := k x rfl
/-! the heap's rows -/
section GH
variable {D : va_G} {cl : List vw_C} {A : Nat → Prop} {tys : List (ClassId × FieldType)} {ws : va_W} {H0 : Heap}
theorem g_get (C : CX p s m args meth c cc own nL ret) {a : Nat} {ref Cn : String} {T : u_T} {N ci index : Nat} (hin : ∀ w ∈ u_ws Cn T N, w ∈ WG) (hK : va_K D cl tys s) (hP : va_P D cl ws H) (q0 : Nat) {fs : List Value} (he : ws[q0]? = some (a, .inr (ci, fs))) (hc : cl[ci]? = some (Cn, T, N)) (k : Nat) (hk : k < N) {rn rd : String} (hlink : Cond.fieldLink own index ref rn rd ∈ WG) (hsame : ref = (T k).1 ∧ rn = (T k).2.1 ∧ rd = (T k).2.2.1) {v : Value} (hv : fs[k]? = some v) (hd : decode cc pc = .ok (.getfield index, 3))
    (kk : G p l e R s m args below meth c H locs cells slots Q vs (pc + 3) (v :: st)) : G p l e R s m args below meth c H locs cells slots Q vs pc (.ref a :: st) := by
  obtain ⟨rfl, rfl, rfl⟩ := hsame
  exact fun ls h => va_get C.1 C.2.1 C.2.2.2.2.1 hin C.2.2.2.1 hK hP q0 he hc k hk (C.2.2.2.2.1 _ hlink) (fun _ h => h) hv hd (kk ls h)
theorem g_put (C : CX p s m args meth c cc own nL ret) {a : Nat} {ref Cn : String} {T : u_T} {N ci index : Nat} (hin : ∀ w ∈ u_ws Cn T N, w ∈ WG) (ty0 : Nat → FieldType) (hty : ∀ k, k < N → parseFieldDescriptor (T k).2.2.1 = some (ty0 k)) (hnm : ∀ a, a < N → ∀ b, b < N → a ≠ b → (T a).2.1 ≠ (T b).2.1) (hK : va_K D cl tys s) (hP : va_P D cl ws H) (hD : va_D A ws) (hS : va_S A H0 H locs) (q0 : Nat) {fs : List Value} (he : ws[q0]? = some (a, .inr (ci, fs))) (hc : cl[ci]? = some (Cn, T, N)) (k : Nat) (hk : k < N) {rn rd : String} (hlink : Cond.fieldLink own index ref rn rd ∈ WG) (hsame : ref = (T k).1 ∧ rn = (T k).2.1 ∧ rd = (T k).2.2.1) (hfin : (T k).2.2.2 = false) {v : Value} (hn : narrow (ty0 k) v = v) (hfit : fits (ty0 k) v = true) (hl : k < fs.length) (hd : decode cc pc = .ok (.putfield index, 3))
    (kk : ∀ (H1 : Heap) (locs1 : List Loc), va_P D cl (ws.set q0 (a, .inr (ci, fs.set k v))) H1 → va_D A (ws.set q0 (a, .inr (ci, fs.set k v))) → va_S A H0 H1 locs1 → G p l e R s m args below meth c H1 locs1 cells slots Q vs (pc + 3) st) : G p l e R s m args below meth c H locs cells slots Q vs pc (v :: .ref a :: st) := by
  obtain ⟨rfl, rfl, rfl⟩ := hsame
  exact fun ls h => va_put (ty := ty0 k) C.1 C.2.1 C.2.2.2.2.1 hin ty0 hty hnm C.2.2.2.1 hK hP hD hS q0 he hc k hk (C.2.2.2.2.1 _ hlink) (fun _ h => h) hfin (hty k hk) hn hfit hl hd (fun H1 locs1 h1 h2 h3 => kk H1 locs1 h1 h2 h3 ls h)
theorem g_iald (C : CX p s m args meth c cc own nL ret) {a : Nat} (hK : va_K D cl tys s) (hP : va_P D cl ws H) (q0 t0 : Nat) {cA : ClassId} {n : Nat} {f : Nat → Int32} (ha : ws[q0]? = some (a, .inl (cA, n, .inl f))) (ht : tys[t0]? = some (cA, .int)) {i : Nat} (hi : i < n) (hn : n < 2147483648) (hd : decode cc pc = .ok (.iaload, 1))
    (kk : G p l e R s m args below meth c H locs cells slots Q vs (pc + 1) (.int (f i) :: st)) : G p l e R s m args below meth c H locs cells slots Q vs pc (.int (nI i) :: .ref a :: st) := by
  have e : (nI i).toNatClampNeg = i := nI_clamp (Nat.lt_trans hi hn)
  intro ls h
  refine va_iald C.1 C.2.1 hK hP q0 t0 ha ht (vp_in_nI hi hn) hd ?_
  rw [e]
  exact kk ls h
theorem g_iast (C : CX p s m args meth c cc own nL ret) {a : Nat} (hK : va_K D cl tys s) (hP : va_P D cl ws H) (hD : va_D A ws) (hS : va_S A H0 H locs) (q0 t0 : Nat) {cA : ClassId} {n : Nat} {f : Nat → Int32} (ha : ws[q0]? = some (a, .inl (cA, n, .inl f))) (ht : tys[t0]? = some (cA, .int)) {i : Nat} {x : Int32} (hi : i < n) (hn : n < 2147483648) (hd : decode cc pc = .ok (.iastore, 1))
    (kk : ∀ (H1 : Heap) (locs1 : List Loc), va_P D cl (ws.set q0 (a, .inl (cA, n, .inl (upd f i x)))) H1 → va_D A (ws.set q0 (a, .inl (cA, n, .inl (upd f i x)))) → va_S A H0 H1 locs1 → G p l e R s m args below meth c H1 locs1 cells slots Q vs (pc + 1) st) : G p l e R s m args below meth c H locs cells slots Q vs pc (.int x :: .int (nI i) :: .ref a :: st) := by
  have e : (nI i).toNatClampNeg = i := nI_clamp (Nat.lt_trans hi hn)
  intro ls h
  refine va_iast C.1 C.2.1 hK hP hD hS q0 t0 ha ht (vp_in_nI hi hn) hd ?_
  rw [e]
  exact fun H1 locs1 h1 h2 h3 => kk H1 locs1 h1 h2 h3 ls h
theorem g_gets (C : CX p s m args meth c cc own nL ret) {Cn n d : String} {v : Value} {index : Nat} (hZ : va_Z Cn n d v A s s.heap) (hS : va_S A s.heap H locs) (hlink : Cond.fieldLink own index Cn n d ∈ WG) (hd : decode cc pc = .ok (.getstatic index, 3))
    (kk : G p l e R s m args below meth c H locs cells slots Q vs (pc + 3) (v :: st)) : G p l e R s m args below meth c H locs cells slots Q vs pc st := fun ls h => va_gets C.1 C.2.1 hZ hS C.2.2.2.1 (C.2.2.2.2.1 _ hlink) (fun _ h => h) hd (kk ls h)
end GH
/-! the ends -/
/-- a method that reads and answers v: the heap as it was -/
def bq_S (v : Value) : Array Value → State → Outcome → State → Prop := fun _ st oc t => oc = .returned (some v) ∧ t.heap = st.heap
theorem g_ireti (C : CX p s m args meth c cc own nL (some .int)) {x y : Int32} (hv : x = y) (hd : decode cc pc = .ok (.ireturn, 1)) : G p l e R s m args below meth c s.heap [] cells slots (MQ below (bq_S (.int y)) args s cells slots (fun _ => False)) vs pc [.int x] := by
  subst hv
  exact fun ls h => W.iret C.1 C.2.1 C.2.2.2.2.2.1 (fun t ht hW => ⟨rfl, ht⟩) (fun q hq => absurd hq List.not_mem_nil) hd C.2.2.2.2.2.2
theorem g_iretz (C : CX p s m args meth c cc own nL (some .boolean)) {x : Int32} {P : Prop} [Decidable P] (hv : x = bI P) (hd : decode cc pc = .ok (.ireturn, 1)) : G p l e R s m args below meth c s.heap [] cells slots (MQ below (bq_S (.int (bI P))) args s cells slots (fun _ => False)) vs pc [.int x] := by
  subst hv
  exact fun ls h => W.zret C.1 C.2.1 C.2.2.2.2.2.1 (bI_z P) (fun t ht hW => ⟨rfl, ht⟩) (fun q hq => absurd hq List.not_mem_nil) hd C.2.2.2.2.2.2
theorem g_lret (C : CX p s m args meth c cc own nL (some .long)) {x y : Int64} (hv : x = y) (hd : decode cc pc = .ok (.lreturn, 1)) : G p l e R s m args below meth c s.heap [] cells slots (MQ below (bq_S (.long y)) args s cells slots (fun _ => False)) vs pc [.long x] := by
  subst hv
  exact fun ls h => W.lret C.1 C.2.1 C.2.2.2.2.2.1 (fun t ht hW => ⟨rfl, ht⟩) (fun q hq => absurd hq List.not_mem_nil) hd C.2.2.2.2.2.2
end GA

/-! a method from its entry -/
def rmL (k : Nat) : Room := { frames := k, cells := 0, slots := 0, locals := 40 * k }
theorem bq_of {l : Launch} {y : MethodName} {cc : ByteArray} {nL : Nat} {ret : Option FieldType} {rm : Room} {av : List Value} {Pre : State → Prop} {Qc : Array Value → State → Outcome → State → Prop} {mc ms : Nat} {free : Addr → Prop} (vs : List (Option Value)) (hvs : en 0 vs = lv_args 0 av) (hlen : vs.length = nL) (hle : (lg_sl av).length ≤ nL) (hy : plainName y.cls = true)
    (body : ∀ (p : Program) (e : Env) (s : State) (m : MethodId) (below : List Frame) (meth : Method) (c : Code), CX p s m av.toArray meth c cc y.cls nL ret → Pre s → G p l e rm s m av.toArray below meth c s.heap [] 0 0 (MQ below Qc av.toArray s mc ms free) vs 0 []) :
    Met l y (.code y cc nL ret :: WG) rm (va_Pc av Pre) Qc mc ms free := by
  refine Met.ofW (cc := cc) (maxL := nL) (ret := ret) hy rfl ?_
  intro p e s m args below meth c s₁ B hml hv
  obtain ⟨rfl, hv⟩ := hv
  have hts := atoms_spec (ws := .code y cc nL ret :: WG) B.pre
  have hl := lv_entry av (n := nL) hle
  have K := body p e s m below meth c ⟨B.exec, B.bytes, hml, findClass_of_methodNamed B.named, fun w h => hts w (List.mem_cons_of_mem _ h), B.returns, B.notSynchronized⟩ hv
  have h2 := K _ (by rw [hvs, hlen]; exact hl)
  rw [lg_entry_eq]
  exact h2
end
section
/-! worlds: a Ledger with its arrays; the reference with its arrays; what the tables say; calls of methods that only read -/
section WA
variable {dC : Nat → ClassId} {dI : Nat → Nat → Nat} {cI cL cJ : ClassId}
abbrev tyL (cI cL cJ : ClassId) : List (ClassId × FieldType) := [(cI, .int), (cL, .object RX1), (cJ, .long)]
/-- what the tables say of the classes and of the arrays -/
abbrev EV (dC : Nat → ClassId) (dI : Nat → Nat → Nat) (cI cL cJ : ClassId) (U : State) : Prop := va_K (dC, dI) vwCl (tyL cI cL cJ) U
/-- a Ledger at a, its arrays at t 0 .. t 9: the year y, the rows d 0 .. d 9 (parish, paid, burialsSoFar, kind, vaultOf, reservedFor, reservedUpTo, buried, buriedIn, feePaid), reached r -/
abbrev LW (cI : ClassId) (a : Nat) (t : Nat → Nat) (y : Int32) (d : Nat → Nat → Int32) (r : Int64) : va_W :=
  [(a, .inr (1, [.int y, .ref (t 0), .ref (t 1), .ref (t 2), .ref (t 3), .ref (t 4), .ref (t 5), .ref (t 6), .ref (t 7), .ref (t 8), .ref (t 9), .long r])),
   (t 0, .inl (cI, 10, .inl (d 0))), (t 1, .inl (cI, 10, .inl (d 1))), (t 2, .inl (cI, 10, .inl (d 2))), (t 3, .inl (cI, 40, .inl (d 3))), (t 4, .inl (cI, 40, .inl (d 4))),
   (t 5, .inl (cI, 40, .inl (d 5))), (t 6, .inl (cI, 40, .inl (d 6))), (t 7, .inl (cI, 120, .inl (d 7))), (t 8, .inl (cI, 120, .inl (d 8))), (t 9, .inl (cI, 120, .inl (d 9)))]
/-- the reference at o, its arrays at t 0 .. t 8 (z, rows, text, way, queue, sort, who, where, much), its numbers i 0 .. i 5 (saved, length, thrown, now, many, isWhole), h -/
abbrev MW (cI : ClassId) (o : Nat) (t : Nat → Nat) (A : Nat → Nat → Int32) (i : Nat → Int32) (h : Int64) : va_W :=
  [(o, .inr (3, [.ref (t 0), .ref (t 1), .int (i 0), .ref (t 2), .int (i 1), .int (i 2), .int (i 3), .ref (t 3), .ref (t 4), .int (i 4), .ref (t 5), .ref (t 6), .ref (t 7), .ref (t 8), .int (i 5), .long h])),
   (t 0, .inl (cI, 551, .inl (A 0))), (t 1, .inl (cI, 3306, .inl (A 1))), (t 2, .inl (cI, 60, .inl (A 2))), (t 3, .inl (cI, 40, .inl (A 3))), (t 4, .inl (cI, 40, .inl (A 4))),
   (t 5, .inl (cI, 12, .inl (A 5))), (t 6, .inl (cI, 12, .inl (A 6))), (t 7, .inl (cI, 12, .inl (A 7))), (t 8, .inl (cI, 12, .inl (A 8)))]
/-- the two static rows of Ledger: GREATEST_DEPTH, YEARS_OF_REST -/
def tbG (j : Nat) : Int32 := match j with
  | 0 => 3
  | 1 => 2
  | 2 => 1
  | _ => 0
def tbY (j : Nat) : Int32 := match j with
  | 0 => 30
  | 1 => 15
  | 2 => 60
  | _ => 0
abbrev SG : String := "GREATEST_DEPTH"
abbrev SY : String := "YEARS_OF_REST"
def ST (g1 g2 : Nat) (A : Nat → Prop) (U : State) (H : Heap) : Prop :=
  va_Z RX1 SG "[I" (.ref g1) A U H ∧ va_T .int g1 4 (fun j => .int (tbG j)) A U H ∧ va_Z RX1 SY "[I" (.ref g2) A U H ∧ va_T .int g2 4 (fun j => .int (tbY j)) A U H
variable {g1 g2 : Nat}
theorem ST.moved {A : Nat → Prop} {u U : State} {H : Heap} (hvm : u.vm.Alike U.vm) (h : ST g1 g2 A u H) : ST g1 g2 A U H := ⟨h.1.moved hvm, h.2.1.moved hvm, h.2.2.1.moved hvm, h.2.2.2.moved hvm⟩
theorem ST.kept {A : Nat → Prop} {U : State} {H H1 : Heap} (h : ST g1 g2 A U H) (hq : ∀ a : Nat, a < H.size → ¬ A a → H1[a]? = H[a]?) : ST g1 g2 A U H1 := ⟨h.1.kept hq, h.2.1.kept hq, h.2.2.1.kept hq, h.2.2.2.kept hq⟩
theorem ST.narrow {A B : Nat → Prop} {U : State} {H : Heap} (h : ST g1 g2 A U H) (hAB : ∀ q, B q → A q) : ST g1 g2 B U H := ⟨h.1.narrow hAB, h.2.1.narrow hAB, h.2.2.1.narrow hAB, h.2.2.2.narrow hAB⟩
/-- what a reading method of a Ledger wants -/
def LDP (dC : Nat → ClassId) (dI : Nat → Nat → Nat) (cI cL cJ : ClassId) (g1 g2 : Nat) (a : Nat) (t : Nat → Nat) (y : Int32) (d : Nat → Nat → Int32) (r : Int64) (U : State) : Prop :=
  va_P (dC, dI) vwCl (LW cI a t y d r) U.heap ∧ EV dC dI cI cL cJ U ∧ ST g1 g2 (fun _ => False) U U.heap
/-- what a reading method of the reference wants -/
def MDP (dC : Nat → ClassId) (dI : Nat → Nat → Nat) (cI cL cJ : ClassId) (o : Nat) (t : Nat → Nat) (A : Nat → Nat → Int32) (i : Nat → Int32) (h : Int64) (U : State) : Prop :=
  va_P (dC, dI) vwCl (MW cI o t A i h) U.heap ∧ EV dC dI cI cL cJ U
def Bl (Pre : State → Prop) : Prop := ∀ (U : State) (g : JFrame) (mk : MethodId) (a : Array Value), Pre U → Pre (U.calling g mk a)
theorem LDP_bl {a : Nat} {t : Nat → Nat} {y : Int32} {d : Nat → Nat → Int32} {r : Int64} : Bl (LDP dC dI cI cL cJ g1 g2 a t y d r) := fun U g mk v h =>
  ⟨h.1, va_K.moved (u := U) (U := U.calling g mk v) (Vm.Alike.refl U.vm) h.2.1, h.2.2.moved (u := U) (U := U.calling g mk v) (Vm.Alike.refl U.vm)⟩
theorem MDP_bl {o : Nat} {t : Nat → Nat} {A : Nat → Nat → Int32} {i : Nat → Int32} {h : Int64} : Bl (MDP dC dI cI cL cJ o t A i h) := fun U g mk v h =>
  ⟨h.1, va_K.moved (u := U) (U := U.calling g mk v) (Vm.Alike.refl U.vm) h.2⟩
theorem TR_bl : Bl (fun _ => True) := fun _ _ _ _ h => h
end WA
section WB
variable {p : Program} {l : Launch} {e : Env} {R : Room} {s : State} {m : MethodId} {args : Array Value} {below : List Frame} {meth : Method} {c : Code} {H : Heap} {locs : List Loc} {cells slots : Nat} {Q : State → Prop}
variable {cc : ByteArray} {own : String} {nL pc : Nat} {ret : Option FieldType} {vs : List (Option Value)} {st st0 : List Value}
variable {D : va_G} {cl : List vw_C} {A : Nat → Prop} {tys : List (ClassId × FieldType)} {ws : va_W} {H0 : Heap}
/-- a place of a static row, under any writes outside A -/
theorem g_ti (C : CX p s m args meth c cc own nL ret) {t N : Nat} {f : Nat → Int32} (hT : va_T .int t N (fun j => .int (f j)) A s s.heap) (hS : va_S A s.heap H locs) {i : Nat} (hi : i < N) (hN : N < 2147483648) (hd : decode cc pc = .ok (.iaload, 1)) (kk : G p l e R s m args below meth c H locs cells slots Q vs (pc + 1) (.int (f i) :: st)) : G p l e R s m args below meth c H locs cells slots Q vs pc (.int (nI i) :: .ref t :: st) := fun ls h =>
  va_ti C.1 C.2.1 hT hS (vp_in_nI hi hN) (by rw [nI_clamp (Nat.lt_trans hi hN)]) hd (kk ls h)
/-- a call's answer, the heap as it was -/
theorem bq_cs {v : Value} {a : Array Value} {ls : Array Slot} {g : JFrame} (hr : CallRun p l e R s m args below meth c H locs cells slots 0 0 g st (bq_S v a) (fun _ => False))
    (kk : W p l e R s m args below meth c H locs cells slots Q { g with pc := g.pc + 3, stack := v :: st }) : W p l e R s m args below meth c H locs cells slots Q g := by
  intro T hT X
  obtain ⟨v', st₀, t, T', L, h0, X', hL, e1, ⟨hv, hh⟩, st⟩ := hr T hT X
  cases hv
  obtain ⟨t2, a1, b1⟩ := kk T' (by rw [e1, hh, h0]) (Stand.forget X' (fun q h => (hL q h).elim))
  exact ⟨t2, st t2 a1, b1⟩
theorem WG_in (y : Cond) : ∀ w ∈ WG, w ∈ y :: WG := fun _ h => List.mem_cons_of_mem _ h
theorem WG_gi {ws : List Cond} (h : ∀ w ∈ ws, w ∈ WG) : GoodIn WG ws := fun w hw => ⟨h w hw, good_of_word (WG_good w (h w hw))⟩
theorem WG_cons {y : Cond} {ws : List Cond} (h : y ∈ WG) (h2 : ∀ w ∈ ws, w ∈ WG) : ∀ w ∈ y :: ws, w ∈ WG := fun w hw => by
  rcases List.mem_cons.mp hw with rfl | hw
  · exact h
  · exact h2 w hw
theorem WG_self : ∀ w ∈ WG, w ∈ WG := fun _ h => h
/-- a virtual call of a method that only reads -/
theorem g_pcV (C : CX p s m args meth c cc own nL ret) {bytes : ByteArray} {maxL2 index : Nat} {ret2 : Option FieldType} {rm : Room} {y : MethodName} {b : Nat} {As : List Value} {v : Value} {Cn : String} {Pre : State → Prop}
    (hM : Met l y (.code y bytes maxL2 ret2 :: WG) rm (va_Pc (.ref b :: As) Pre) (bq_S v) 0 0 (fun _ => False))
    (hl : Cond.methodLink own index y ∈ WG) (hi : Cond.instanceMethod y ∈ WG) (hv : Cond.selects Cn y y ∈ WG) (hn : Cond.initialized Cn ∈ WG) (hc : Cond.code y bytes maxL2 ret2 ∈ WG)
    (hy : y.cls = Cn ∧ y.cls ≠ "java/lang/invoke/MethodHandle" ∧ y.cls ≠ "java/lang/invoke/VarHandle" ∧ (parseMethodDescriptor y.desc).map (fun d => d.parameters.length) = some As.length)
    (hrm : rm.cells = 0 ∧ rm.slots = 0 ∧ rm.frames + 1 ≤ R.frames ∧ 8 + (maxL2 + 11) + rm.locals ≤ R.locals) (hbl : Bl Pre)
    (hrv : ∃ cell : Cell, H[b]? = some cell ∧ cell.vm.isStatics = false ∧ s.vm.findClass Cn = some cell.cls) (hpre : ∀ U : State, U.heap = H → s.WarmedH U.vm → Pre U)
    (hvl : vs.length = nL) (hst : st0 = As.reverse ++ .ref b :: st) (hcat : (st.map fun v => v.category).sum ≤ 8) (hcs : cells ≤ R.cells ∧ slots ≤ R.slots) (hd : decode cc pc = .ok (.invokevirtual index, 3))
    (kk : G p l e R s m args below meth c H locs cells slots Q vs (pc + 3) (v :: st)) : G p l e R s m args below meth c H locs cells slots Q vs pc st0 := by
  subst hst
  intro ls h
  refine bq_cs (W.runV (As := As) (rest := st) (Ts := WG) ⟨C.1, C.2.1, C.2.2.1, C.2.2.2.1, C.2.2.2.2.1⟩ hM (cwV As.length C.2.2.2.2.1 (WG_gi (WG_cons hl (WG_cons hi (WG_cons hv (WG_cons hn (WG_cons hc WG_self)))))) rfl hrm.1 hrm.2.1 hy ⟨hrm.2.2.1, hrm.2.2.2⟩) ⟨fun a U g mk q => ⟨q.1, hbl U g mk a q.2⟩, hrv, fun U hU hW => ⟨rfl, hpre U hU hW⟩⟩ rfl rfl (h.1.trans hvl) rfl (lv_room hcat) hd hcs) (kk ls h)
end WB
end
