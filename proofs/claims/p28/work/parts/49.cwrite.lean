theorem lay_iff {p : Int32} : (nI 1 ≤ p ∧ p ≤ nI 39) ↔ (q_isP p ∧ p ≠ nI 0) := by
  unfold q_isP
  rw [Int32.le_iff_toInt_le, Int32.le_iff_toInt_le, Int32.le_iff_toInt_le, nI_toInt (by decide), nI_toInt (by decide), nI_toInt (by decide)]
  constructor
  · rintro ⟨h1, h2⟩
    refine ⟨⟨by omega, h2⟩, fun z => ?_⟩
    rw [z, nI_toInt (by decide)] at h1
    omega
  · rintro ⟨⟨h1, h2⟩, h3⟩
    refine ⟨?_, h2⟩
    apply Int.not_lt.mp
    intro h4
    exact h3 (Int32.toInt_inj.mp (by rw [nI_toInt (by decide)]; omega))
theorem lay_ne0 {m : Nat} (hm : m < 40) (h : m ≠ 0) : nI m ≠ nI 0 := fun z => h (by have h9 := congrArg Int32.toInt z; rw [nI_toInt (by omega), nI_toInt (by decide)] at h9; omega)
def k_un (n : Nat) : Nat := if n = 0 then 1 else 0

set_option maxHeartbeats 4000000 in
set_option maxRecDepth 100000 in
theorem c_X2_lay {l : Launch} {dC : Nat → ClassId} {dI : Nat → Nat → Nat} {cI cL cJ : ClassId} {g1 g2 : Nat} {A : Nat → Prop} {o sa ba a e : Nat} {t : Nat → Nat} {n len : Nat} {tx : Nat → Int32} {y : Int32} {d : RW} {x : PS} {sv : Nat → LO} (hls : l.stackTraces = false) (hn : n ≤ 6) {p kv : Int32} : vx_Met l yX2_lay (.code yX2_lay cX2_lay 3 (some .int) :: WG) (rmC 7 4 24) (va_Pc [.ref o, .int p, .int kv] (BDM dC dI cI cL cJ g1 g2 A o sa ba a e t n len tx y d (q_rw d 0) x sv)) (bx_Q (k_lay d p kv) (some (.int (d 3 (q_n p)))) (BP dC dI cI cL A o sa ba a e t (min (n + 1) 6) len tx y (q_up d 3 (q_n p) kv) (q_rw (q_up d 3 (q_n p) kv) 0) x (sv_save sv n y d (q_rw d 0))) A) (bx_C cl3 (k_lay d p kv) (BP dC dI cI cL A o sa ba a e t n len tx y d (q_rw d 0) x sv) A) 4 24 (A) := by
  refine bx_of [some (.ref o), some (.int p), some (.int kv)] rfl rfl (Nat.le_of_ble_eq_true rfl) (by decide) ?_
  intro P_ E_ s M_ B_ T_ K_ C hT hv
  obtain ⟨hP, hD, hK, hZ, hX⟩ := hv
  have hS : va_S A s.heap s.heap [] := va_S.rf
  have hS0 : va_S (fun _ => False) s.heap s.heap [] := va_S.rf
  have hX0 : XE (fun _ => False) s s.heap := hX.narrow (fun _ h => h.elim)
  refine g_iload1 C dX2_lay_0 ?_
  refine g_xcS (As := [.int p]) C hT (c_X2_needPlot hls) 1 rfl wl_X2_38 wt_X2_needPlot wn_X2 wc_X2_needPlot (by decide +kernel) ⟨rfl, rfl, by decide, by decide⟩ XE.bl (fun U hU hW => hX0.at hS0 hU hW) rfl rfl (by simp [Value.category]) ⟨by decide, by decide⟩ ⟨by decide, by decide⟩ dX2_lay_1 (fun z => by have hb : ¬ q_isP p := k01.mp z; have hk : k_lay d p kv = 1 := (by exact if_pos (fun z => hb (lay_iff.mp z).1)); rw [hk]; exact ⟨by decide, rfl⟩) (fun t _ hkk => ⟨P_kept hP hkk, hD⟩) (fun hz => ?_)
  have hR1 : q_isP p := k00.mp hz
  obtain ⟨m1, b1l, b1h, rfl⟩ := q_rng (by decide) (by decide) hR1
  have hq1 : q_n (nI m1) = m1 := q_n_nI (by omega)
  try rw [hq1]
  refine g_iload1 C dX2_lay_4 ?_
  refine g_if_neN C (by omega) 18 dX2_lay_5 (by decide) (fun h5 => ?_) (fun h5 => ?_)
  · refine g_iload2 C dX2_lay_18 ?_
    refine g_if_lt C 27 dX2_lay_19 (by decide) (fun h19 => ?_) (fun h19 => ?_)
    · have hk : k_lay d (nI m1) kv = 2 := by unfold k_lay; rw [if_neg (fun z => z (lay_iff.mpr ⟨hR1, lay_ne0 (by omega) h5⟩)), if_pos (fun z => (isQ_iff.mp z).1 h19)]
      exact g_thrIA C hT hls hX0 hS0 (List.mem_of_getElem? (i := 1) rfl) rfl dX2_lay_27 dX2_lay_30 dX2_lay_31 dX2_lay_33 dX2_lay_36 ⟨by decide, by decide, by decide, by decide⟩ ⟨by decide, by decide⟩ (by rw [hk]; decide) (by first | (rw [hk]; rfl) | rfl) (fun t _ hkk => ⟨P_kept hP hkk, hD⟩) (fun _ h => h.elim) (fun z hz => absurd hz List.not_mem_nil)
    · refine g_iload2 C dX2_lay_22 ?_
      refine g_iconst C (nI 3) (by decide) dX2_lay_23 ?_
      refine g_icmp_le C 37 dX2_lay_24 (by decide) (fun h24 => ?_) (fun h24 => ?_)
      · refine g_aload0 C dX2_lay_37 ?_
        refine g_get (ci := 2) (T := TX2) (N := 6) C inX2 hK hP 0 rfl rfl 0 (by decide) wf_X2_10 ⟨rfl, rfl, rfl⟩ rfl dX2_lay_38 ?_
        refine g_iload1 C dX2_lay_41 ?_
        refine g_lcV1 C hK (P_n hP) hZ hS (c_X1_mayChangeKind (by omega)) wl_X2_54 wi_X1_mayChangeKind wv_X1_mayChangeKind wc_X1_mayChangeKind (by decide +kernel) ⟨rfl, rfl, by decide, by decide⟩ rfl (by simp [Value.category]) ⟨by decide, by decide⟩ dX2_lay_42 ?_
        refine g_if_neB C 58 dX2_lay_45 (by decide) (fun h45 => ?_) (fun h45 => ?_)
        · refine g_aload0 C dX2_lay_58 ?_
          refine g_mV (As := []) C 0 rfl ((c_X2_save hn)) wl_X2_63 wi_X2_save wv_X2_save wn_X2 wc_X2_save (by decide +kernel) ⟨rfl, rfl, by decide, by decide⟩ BDM_bl (va_recv (ci := 2) (q0 := 0) hK hP rfl rfl) (BDM_at hK hP hD hZ hX hS (fun _ h => h)) rfl rfl (by simp [Value.category]) ⟨by decide, by decide⟩ hS (fun _ h => h) dX2_lay_59 (fun H locs hP1 _ _ hS => ?_)
          obtain ⟨hP, hD⟩ := hP1
          refine g_aload0 C dX2_lay_62 ?_
          refine g_get (ci := 2) (T := TX2) (N := 6) C inX2 hK hP 0 rfl rfl 0 (by decide) wf_X2_10 ⟨rfl, rfl, rfl⟩ rfl dX2_lay_63 ?_
          refine g_iload1 C dX2_lay_66 ?_
          refine g_iload2 C dX2_lay_67 ?_
          refine g_mV (As := [.int (nI m1), .int kv]) C 2 rfl (c_X1_changeKind (by omega)) wl_X2_66 wi_X1_changeKind wv_X1_changeKind wn_X1 wc_X1_changeKind (by decide +kernel) ⟨rfl, rfl, by decide, by decide⟩ LDM_bl (va_recv (ci := 1) (q0 := 0) hK (P_n hP) rfl rfl) (LDM_at hK (P_n hP) (D_n hD) hZ hS (A_n hD)) rfl rfl (by simp [Value.category]) ⟨by decide, by decide⟩ hS (A_n hD) dX2_lay_68 (fun H locs hP1 _ hk1 hS => ?_)
          obtain ⟨hP, hD⟩ := PD_n hP hD hP1 hk1
          have e9 : q_rw (q_up d 3 m1 kv) 0 = q_rw d 0 := rw_kind h45.1
          have hP : va_P (dC, dI) vwCl (BW cI cL o sa ba a e t (min (n + 1) 6) len (svg (sv_save sv n y d (q_rw d 0))) tx y (q_up d 3 m1 kv) (q_rw (q_up d 3 m1 kv) 0) x (sv_save sv n y d (q_rw d 0))) H := by rw [e9]; exact hP
          have hD : va_D A (BW cI cL o sa ba a e t (min (n + 1) 6) len (svg (sv_save sv n y d (q_rw d 0))) tx y (q_up d 3 m1 kv) (q_rw (q_up d 3 m1 kv) 0) x (sv_save sv n y d (q_rw d 0))) := by rw [e9]; exact hD
          have hk : k_lay d (nI m1) kv = 0 := by unfold k_lay; rw [hq1, if_neg (fun z => z (lay_iff.mpr ⟨hR1, lay_ne0 (by omega) h5⟩)), if_neg (fun z => z (isQ_iff.mpr ⟨h19, Int32.not_lt.mpr h24⟩)), if_neg (fun z => z h45)]
          refine g_wd (k := 4) (n := 24) (by decide) (by decide) ?_
          exact g_xiret C hk (⟨hP, hD⟩) hS (rfl) dX2_lay_71
        · have hk : k_lay d (nI m1) kv = 3 := by unfold k_lay; rw [hq1, if_neg (fun z => z (lay_iff.mpr ⟨hR1, lay_ne0 (by omega) h5⟩)), if_neg (fun z => z (isQ_iff.mpr ⟨h19, Int32.not_lt.mpr h24⟩)), if_pos h45]
          exact g_thrIS C hT hls hX0 hS0 (List.mem_of_getElem? (i := 2) rfl) rfl dX2_lay_48 dX2_lay_51 dX2_lay_52 dX2_lay_54 dX2_lay_57 ⟨by decide, by decide, by decide, by decide⟩ ⟨by decide, by decide⟩ (by rw [hk]; decide) (by first | (rw [hk]; rfl) | rfl) (fun t _ hkk => ⟨P_kept hP hkk, hD⟩) (fun _ h => h.elim) (fun z hz => absurd hz List.not_mem_nil)
      · have hk : k_lay d (nI m1) kv = 2 := by unfold k_lay; rw [if_neg (fun z => z (lay_iff.mpr ⟨hR1, lay_ne0 (by omega) h5⟩)), if_pos (fun z => h24 z.2)]
        exact g_thrIA C hT hls hX0 hS0 (List.mem_of_getElem? (i := 1) rfl) rfl dX2_lay_27 dX2_lay_30 dX2_lay_31 dX2_lay_33 dX2_lay_36 ⟨by decide, by decide, by decide, by decide⟩ ⟨by decide, by decide⟩ (by rw [hk]; decide) (by first | (rw [hk]; rfl) | rfl) (fun t _ hkk => ⟨P_kept hP hkk, hD⟩) (fun _ h => h.elim) (fun z hz => absurd hz List.not_mem_nil)
  · have hk : k_lay d (nI m1) kv = 1 := if_pos (fun z => (lay_iff.mp z).2 (by rw [h5]))
    exact g_thrIO C hT hls hX0 hS0 (List.mem_of_getElem? (i := 0) rfl) rfl dX2_lay_8 dX2_lay_11 dX2_lay_12 dX2_lay_14 dX2_lay_17 ⟨by decide, by decide, by decide, by decide⟩ ⟨by decide, by decide⟩ (by rw [hk]; decide) (by first | (rw [hk]; rfl) | rfl) (fun t _ hkk => ⟨P_kept hP hkk, hD⟩) (fun _ h => h.elim) (fun z hz => absurd hz List.not_mem_nil)

set_option maxHeartbeats 4000000 in
set_option maxRecDepth 100000 in
theorem c_X2_pass {l : Launch} {dC : Nat → ClassId} {dI : Nat → Nat → Nat} {cI cL cJ : ClassId} {g1 g2 : Nat} {A : Nat → Prop} {o sa ba a e : Nat} {t : Nat → Nat} {n len : Nat} {tx : Nat → Int32} {y : Int32} {d : RW} {x : PS} {sv : Nat → LO} (hls : l.stackTraces = false) (hn : n ≤ 6) {v : Int32} : vx_Met l yX2_pass (.code yX2_pass cX2_pass 3 (some .int) :: WG) (rmC 7 4 24) (va_Pc [.ref o, .int v] (BDM dC dI cI cL cJ g1 g2 A o sa ba a e t n len tx y d (q_rw d 0) x sv)) (bx_Q (k_pass y v) (some (.int (nI (q_last d y) - nI (q_last d (y + v))))) (BP dC dI cI cL A o sa ba a e t (min (n + 1) 6) len tx (y + v) d (q_rw d 0) x (sv_save sv n y d (q_rw d 0))) A) (bx_C clA (k_pass y v) (BP dC dI cI cL A o sa ba a e t n len tx y d (q_rw d 0) x sv) A) 4 24 (A) := by
  refine bx_of [some (.ref o), some (.int v), none] rfl rfl (Nat.le_of_ble_eq_true rfl) (by decide) ?_
  intro P_ E_ s M_ B_ T_ K_ C hT hv
  obtain ⟨hP, hD, hK, hZ, hX⟩ := hv
  have hS : va_S A s.heap s.heap [] := va_S.rf
  have hS0 : va_S (fun _ => False) s.heap s.heap [] := va_S.rf
  have hX0 : XE (fun _ => False) s s.heap := hX.narrow (fun _ h => h.elim)
  refine g_iload1 C dX2_pass_0 ?_
  refine g_iconst C (nI 1) (by decide) dX2_pass_1 ?_
  refine g_icmp_lt C 11 dX2_pass_2 (by decide) (fun h2 => ?_) (fun h2 => ?_)
  · have hk : k_pass y v = 1 := if_pos (fun z => absurd h2 (Int32.not_lt.mpr z.1))
    exact g_thrIA C hT hls hX0 hS0 (List.mem_of_getElem? (i := 3) rfl) rfl dX2_pass_11 dX2_pass_14 dX2_pass_15 dX2_pass_17 dX2_pass_20 ⟨by decide, by decide, by decide, by decide⟩ ⟨by decide, by decide⟩ (by rw [hk]; decide) (by first | (rw [hk]; rfl) | rfl) (fun t _ hkk => ⟨P_kept hP hkk, hD⟩) (fun _ h => h.elim) (fun z hz => absurd hz List.not_mem_nil)
  · refine g_iload1 C dX2_pass_5 ?_
    refine g_bipush C (nI 100) (by decide) dX2_pass_6 ?_
    refine g_icmp_le C 21 dX2_pass_8 (by decide) (fun h8 => ?_) (fun h8 => ?_)
    · refine g_aload0 C dX2_pass_21 ?_
      refine g_get (ci := 2) (T := TX2) (N := 6) C inX2 hK hP 0 rfl rfl 0 (by decide) wf_X2_10 ⟨rfl, rfl, rfl⟩ rfl dX2_pass_22 ?_
      refine g_get (ci := 1) (T := TX1) (N := 12) C inX1 hK hP 3 rfl rfl 0 (by decide) wf_X2_72 ⟨rfl, rfl, rfl⟩ rfl dX2_pass_25 ?_
      refine g_iload1 C dX2_pass_28 ?_
      refine g_iadd C dX2_pass_29 ?_
      refine g_sipush C (nI 2000) (by decide) dX2_pass_30 ?_
      refine g_icmp_le C 46 dX2_pass_33 (by decide) (fun h33 => ?_) (fun h33 => ?_)
      · refine g_aload0 C dX2_pass_46 ?_
        refine g_mV (As := []) C 0 rfl ((c_X2_save hn)) wl_X2_63 wi_X2_save wv_X2_save wn_X2 wc_X2_save (by decide +kernel) ⟨rfl, rfl, by decide, by decide⟩ BDM_bl (va_recv (ci := 2) (q0 := 0) hK hP rfl rfl) (BDM_at hK hP hD hZ hX hS (fun _ h => h)) rfl rfl (by simp [Value.category]) ⟨by decide, by decide⟩ hS (fun _ h => h) dX2_pass_47 (fun H locs hP1 _ _ hS => ?_)
        obtain ⟨hP, hD⟩ := hP1
        refine g_aload0 C dX2_pass_50 ?_
        refine g_get (ci := 2) (T := TX2) (N := 6) C inX2 hK hP 0 rfl rfl 0 (by decide) wf_X2_10 ⟨rfl, rfl, rfl⟩ rfl dX2_pass_51 ?_
        refine g_lcV0 C hK (P_n hP) hZ hS (c_X1_lastingReservations) wl_X2_77 wi_X1_lastingReservations wv_X1_lastingReservations wc_X1_lastingReservations (by decide +kernel) ⟨rfl, rfl, by decide, by decide⟩ rfl (by simp [Value.category]) ⟨by decide, by decide⟩ dX2_pass_54 ?_
        refine g_istore2 C rfl dX2_pass_57 ?_
        refine g_aload0 C dX2_pass_58 ?_
        refine g_get (ci := 2) (T := TX2) (N := 6) C inX2 hK hP 0 rfl rfl 0 (by decide) wf_X2_10 ⟨rfl, rfl, rfl⟩ rfl dX2_pass_59 ?_
        refine g_dup C rfl dX2_pass_62 ?_
        refine g_get (ci := 1) (T := TX1) (N := 12) C inX1 hK hP 3 rfl rfl 0 (by decide) wf_X2_72 ⟨rfl, rfl, rfl⟩ rfl dX2_pass_63 ?_
        refine g_iload1 C dX2_pass_66 ?_
        refine g_iadd C dX2_pass_67 ?_
        refine g_put (ci := 1) (T := TX1) (N := 12) C inX1 tyX1 tyX1_ok nmX1 hK hP hD hS 3 rfl rfl 0 (by decide) wf_X2_72 ⟨rfl, rfl, rfl⟩ rfl rfl rfl (Nat.le_of_ble_eq_true rfl) dX2_pass_68 (fun H locs hP hD hS => ?_)
        have hP : va_P (dC, dI) vwCl (BW cI cL o sa ba a e t (min (n + 1) 6) len (svg (sv_save sv n y d (q_rw d 0))) tx (y + v) d (q_rw d 0) x (sv_save sv n y d (q_rw d 0))) H := hP
        have hD : va_D A (BW cI cL o sa ba a e t (min (n + 1) 6) len (svg (sv_save sv n y d (q_rw d 0))) tx (y + v) d (q_rw d 0) x (sv_save sv n y d (q_rw d 0))) := hD
        refine g_iload2 C dX2_pass_71 ?_
        refine g_aload0 C dX2_pass_72 ?_
        refine g_get (ci := 2) (T := TX2) (N := 6) C inX2 hK hP 0 rfl rfl 0 (by decide) wf_X2_10 ⟨rfl, rfl, rfl⟩ rfl dX2_pass_73 ?_
        refine g_lcV0 C hK (P_n hP) hZ hS (c_X1_lastingReservations) wl_X2_77 wi_X1_lastingReservations wv_X1_lastingReservations wc_X1_lastingReservations (by decide +kernel) ⟨rfl, rfl, by decide, by decide⟩ rfl (by simp [Value.category]) ⟨by decide, by decide⟩ dX2_pass_76 ?_
        refine g_isub C dX2_pass_79 ?_
        have hk : k_pass y v = 0 := by unfold k_pass; rw [if_neg (fun z => z ⟨Int32.not_lt.mp h2, h8⟩), if_neg (Int32.not_lt.mpr h33)]
        refine g_wd (k := 4) (n := 24) (by decide) (by decide) ?_
        exact g_xiret C hk (⟨hP, hD⟩) hS (rfl) dX2_pass_80
      · have hk : k_pass y v = 2 := by unfold k_pass; rw [if_neg (fun z => z ⟨Int32.not_lt.mp h2, h8⟩), if_pos (Int32.not_le.mp h33)]
        exact g_thrIS C hT hls hX0 hS0 (List.mem_of_getElem? (i := 4) rfl) rfl dX2_pass_36 dX2_pass_39 dX2_pass_40 dX2_pass_42 dX2_pass_45 ⟨by decide, by decide, by decide, by decide⟩ ⟨by decide, by decide⟩ (by rw [hk]; decide) (by first | (rw [hk]; rfl) | rfl) (fun t _ hkk => ⟨P_kept hP hkk, hD⟩) (fun _ h => h.elim) (fun z hz => absurd hz List.not_mem_nil)
    · have hk : k_pass y v = 1 := if_pos (fun z => h8 z.2)
      exact g_thrIA C hT hls hX0 hS0 (List.mem_of_getElem? (i := 3) rfl) rfl dX2_pass_11 dX2_pass_14 dX2_pass_15 dX2_pass_17 dX2_pass_20 ⟨by decide, by decide, by decide, by decide⟩ ⟨by decide, by decide⟩ (by rw [hk]; decide) (by first | (rw [hk]; rfl) | rfl) (fun t _ hkk => ⟨P_kept hP hkk, hD⟩) (fun _ h => h.elim) (fun z hz => absurd hz List.not_mem_nil)

set_option maxHeartbeats 4000000 in
set_option maxRecDepth 100000 in
theorem c_X2_setParish {l : Launch} {dC : Nat → ClassId} {dI : Nat → Nat → Nat} {cI cL cJ : ClassId} {g1 g2 : Nat} {A : Nat → Prop} {o sa ba a e : Nat} {t : Nat → Nat} {n len : Nat} {tx : Nat → Int32} {y : Int32} {d : RW} {x : PS} {sv : Nat → LO} (hls : l.stackTraces = false) (hn : n ≤ 6) {f : Int32} {P9 : Prop} [Decidable P9] : vx_Met l yX2_setParish (.code yX2_setParish cX2_setParish 4 (some .int) :: WG) (rmC 7 4 24) (va_Pc [.ref o, .int f, .int (bI P9)] (BDM dC dI cI cL cJ g1 g2 A o sa ba a e t n len tx y d (q_rw d 0) x sv)) (bx_Q (k_par f) (some (.int (d 0 (q_n f)))) (BP dC dI cI cL A o sa ba a e t (min (n + 1) 6) len tx y (q_up d 0 (q_n f) (nI (if P9 then 1 else 0))) (q_rw (q_up d 0 (q_n f) (nI (if P9 then 1 else 0))) 0) x (sv_save sv n y d (q_rw d 0))) A) (bx_C (fun _ => XIO) (k_par f) (BP dC dI cI cL A o sa ba a e t n len tx y d (q_rw d 0) x sv) A) 4 24 (A) := by
  refine bx_of [some (.ref o), some (.int f), some (.int (bI P9)), none] rfl rfl (Nat.le_of_ble_eq_true rfl) (by decide) ?_
  intro P_ E_ s M_ B_ T_ K_ C hT hv
  obtain ⟨hP, hD, hK, hZ, hX⟩ := hv
  have hS : va_S A s.heap s.heap [] := va_S.rf
  have hS0 : va_S (fun _ => False) s.heap s.heap [] := va_S.rf
  have hX0 : XE (fun _ => False) s s.heap := hX.narrow (fun _ h => h.elim)
  refine g_iload1 C dX2_setParish_0 ?_
  refine g_xcS (As := [.int f]) C hT (c_X2_needFamily hls) 1 rfl wl_X2_81 wt_X2_needFamily wn_X2 wc_X2_needFamily (by decide +kernel) ⟨rfl, rfl, by decide, by decide⟩ XE.bl (fun U hU hW => hX0.at hS0 hU hW) rfl rfl (by simp [Value.category]) ⟨by decide, by decide⟩ ⟨by decide, by decide⟩ dX2_setParish_1 (fun z => by have hb : ¬ q_isF f := k01.mp z; have hk : k_par f = 1 := (by exact if_pos hb); rw [hk]; exact ⟨by decide, rfl⟩) (fun t _ hkk => ⟨P_kept hP hkk, hD⟩) (fun hz => ?_)
  have hF1 : q_isF f := k00.mp hz
  obtain ⟨m1, b1l, b1h, rfl⟩ := q_rng (by decide) (by decide) hF1
  have hq1 : q_n (nI m1) = m1 := q_n_nI (by omega)
  try rw [hq1]
  refine g_aload0 C dX2_setParish_4 ?_
  refine g_mV (As := []) C 0 rfl ((c_X2_save hn)) wl_X2_63 wi_X2_save wv_X2_save wn_X2 wc_X2_save (by decide +kernel) ⟨rfl, rfl, by decide, by decide⟩ BDM_bl (va_recv (ci := 2) (q0 := 0) hK hP rfl rfl) (BDM_at hK hP hD hZ hX hS (fun _ h => h)) rfl rfl (by simp [Value.category]) ⟨by decide, by decide⟩ hS (fun _ h => h) dX2_setParish_5 (fun H locs hP1 _ _ hS => ?_)
  obtain ⟨hP, hD⟩ := hP1
  refine g_aload0 C dX2_setParish_8 ?_
  refine g_get (ci := 2) (T := TX2) (N := 6) C inX2 hK hP 0 rfl rfl 0 (by decide) wf_X2_10 ⟨rfl, rfl, rfl⟩ rfl dX2_setParish_9 ?_
  refine g_get (ci := 1) (T := TX1) (N := 12) C inX1 hK hP 3 rfl rfl 1 (by decide) wf_X2_84 ⟨rfl, rfl, rfl⟩ rfl dX2_setParish_12 ?_
  refine g_iload1 C dX2_setParish_15 ?_
  refine g_iald C hK hP 4 0 rfl rfl (by omega) (by decide) dX2_setParish_16 ?_
  refine g_istore3 C rfl dX2_setParish_17 ?_
  refine g_aload0 C dX2_setParish_18 ?_
  refine g_get (ci := 2) (T := TX2) (N := 6) C inX2 hK hP 0 rfl rfl 0 (by decide) wf_X2_10 ⟨rfl, rfl, rfl⟩ rfl dX2_setParish_19 ?_
  refine g_get (ci := 1) (T := TX1) (N := 12) C inX1 hK hP 3 rfl rfl 1 (by decide) wf_X2_84 ⟨rfl, rfl, rfl⟩ rfl dX2_setParish_22 ?_
  refine g_iload1 C dX2_setParish_25 ?_
  refine g_iload2 C dX2_setParish_26 ?_
  refine g_d1 (v := nI (if P9 then 1 else 0)) 35 (fun K27 => ?_) ?_
  · skip
    refine g_if_eqB C 34 dX2_setParish_27 (by decide) (fun h27 => ?_) (fun h27 => ?_)
    · refine g_iconst C (nI 0) (by decide) dX2_setParish_34 ?_
      exact K27 _ (by rw [if_neg h27])
    · refine g_iconst C (nI 1) (by decide) dX2_setParish_30 ?_
      refine g_goto C 35 dX2_setParish_31 (by decide) ?_
      exact K27 _ (by rw [if_pos h27])
  refine g_iast C hK hP hD hS 4 0 rfl rfl (by omega) (by decide) dX2_setParish_35 (fun H locs hP hD hS => ?_)
  have hP : va_P (dC, dI) vwCl (BW cI cL o sa ba a e t (min (n + 1) 6) len (svg (sv_save sv n y d (q_rw d 0))) tx y (q_up d 0 m1 (nI (if P9 then 1 else 0))) (q_rw d 0) x (sv_save sv n y d (q_rw d 0))) H := hP
  have hD : va_D A (BW cI cL o sa ba a e t (min (n + 1) 6) len (svg (sv_save sv n y d (q_rw d 0))) tx y (q_up d 0 m1 (nI (if P9 then 1 else 0))) (q_rw d 0) x (sv_save sv n y d (q_rw d 0))) := hD
  have e9 : q_rw (q_up d 0 m1 (nI (if P9 then 1 else 0))) 0 = q_rw d 0 := rw_par
  have hP : va_P (dC, dI) vwCl (BW cI cL o sa ba a e t (min (n + 1) 6) len (svg (sv_save sv n y d (q_rw d 0))) tx y (q_up d 0 m1 (nI (if P9 then 1 else 0))) (q_rw (q_up d 0 m1 (nI (if P9 then 1 else 0))) 0) x (sv_save sv n y d (q_rw d 0))) H := by rw [e9]; exact hP
  have hD : va_D A (BW cI cL o sa ba a e t (min (n + 1) 6) len (svg (sv_save sv n y d (q_rw d 0))) tx y (q_up d 0 m1 (nI (if P9 then 1 else 0))) (q_rw (q_up d 0 m1 (nI (if P9 then 1 else 0))) 0) x (sv_save sv n y d (q_rw d 0))) := by rw [e9]; exact hD
  refine g_iload3 C dX2_setParish_36 ?_
  have hk : k_par (nI m1) = 0 := by exact if_neg (fun z => z hF1)
  refine g_wd (k := 4) (n := 24) (by decide) (by decide) ?_
  exact g_xiret C hk (⟨hP, hD⟩) hS (rfl) dX2_setParish_37

set_option maxHeartbeats 4000000 in
set_option maxRecDepth 100000 in
theorem c_X2_bury {l : Launch} {dC : Nat → ClassId} {dI : Nat → Nat → Nat} {cI cL cJ : ClassId} {g1 g2 : Nat} {A : Nat → Prop} {o sa ba a e : Nat} {t : Nat → Nat} {n len : Nat} {tx : Nat → Int32} {y : Int32} {d : RW} {x : PS} {sv : Nat → LO} (hls : l.stackTraces = false) (hn : n ≤ 6) (hki : INV d) {f p dep : Int32} : vx_Met l yX2_bury (.code yX2_bury cX2_bury 4 (some .int) :: WG) (rmC 7 4 24) (va_Pc [.ref o, .int f, .int p, .int dep] (BDM dC dI cI cL cJ g1 g2 A o sa ba a e t n len tx y d (q_rw d 0) x sv)) (bx_Q (k_bury d y f p dep) (some (.int (q_fee d y (q_n f) (q_n p) (q_n dep)))) (BP dC dI cI cL A o sa ba a e t (min (n + 1) 6) len tx y (q_addB d y (q_n f) (q_n p) (q_n dep)) (q_rw (q_addB d y (q_n f) (q_n p) (q_n dep)) 0) x (sv_save sv n y d (q_rw d 0))) A) (bx_C cl3 (k_bury d y f p dep) (BP dC dI cI cL A o sa ba a e t n len tx y d (q_rw d 0) x sv) A) 4 24 (A) := by
  refine bx_of [some (.ref o), some (.int f), some (.int p), some (.int dep)] rfl rfl (Nat.le_of_ble_eq_true rfl) (by decide) ?_
  intro P_ E_ s M_ B_ T_ K_ C hT hv
  obtain ⟨hP, hD, hK, hZ, hX⟩ := hv
  have hS : va_S A s.heap s.heap [] := va_S.rf
  have hS0 : va_S (fun _ => False) s.heap s.heap [] := va_S.rf
  have hX0 : XE (fun _ => False) s s.heap := hX.narrow (fun _ h => h.elim)
  refine g_iload1 C dX2_bury_0 ?_
  refine g_xcS (As := [.int f]) C hT (c_X2_needFamily hls) 1 rfl wl_X2_81 wt_X2_needFamily wn_X2 wc_X2_needFamily (by decide +kernel) ⟨rfl, rfl, by decide, by decide⟩ XE.bl (fun U hU hW => hX0.at hS0 hU hW) rfl rfl (by simp [Value.category]) ⟨by decide, by decide⟩ ⟨by decide, by decide⟩ dX2_bury_1 (fun z => by have hb : ¬ q_isF f := k01.mp z; have hk : k_bury d y f p dep = 1 := (by exact if_pos (fun z => hb z.1)); rw [hk]; exact ⟨by decide, rfl⟩) (fun t _ hkk => ⟨P_kept hP hkk, hD⟩) (fun hz => ?_)
  have hF1 : q_isF f := k00.mp hz
  obtain ⟨m1, b1l, b1h, rfl⟩ := q_rng (by decide) (by decide) hF1
  have hq1 : q_n (nI m1) = m1 := q_n_nI (by omega)
  try rw [hq1]
  refine g_iload2 C dX2_bury_4 ?_
  refine g_xcS (As := [.int p]) C hT (c_X2_needPlot hls) 1 rfl wl_X2_38 wt_X2_needPlot wn_X2 wc_X2_needPlot (by decide +kernel) ⟨rfl, rfl, by decide, by decide⟩ XE.bl (fun U hU hW => hX0.at hS0 hU hW) rfl rfl (by simp [Value.category]) ⟨by decide, by decide⟩ ⟨by decide, by decide⟩ dX2_bury_5 (fun z => by have hb : ¬ q_isP p := k01.mp z; have hk : k_bury d y (nI m1) p dep = 1 := (by exact if_pos (fun z => hb z.2)); rw [hk]; exact ⟨by decide, rfl⟩) (fun t _ hkk => ⟨P_kept hP hkk, hD⟩) (fun hz => ?_)
  have hP2 : q_isP p := k00.mp hz
  obtain ⟨m2, b2l, b2h, rfl⟩ := q_rng (by decide) (by decide) hP2
  have hq2 : q_n (nI m2) = m2 := q_n_nI (by omega)
  try rw [hq2]
  refine g_iload3 C dX2_bury_8 ?_
  refine g_xcS (As := [.int dep]) C hT (c_X2_needDepth hls) 1 rfl wl_X2_87 wt_X2_needDepth wn_X2 wc_X2_needDepth (by decide +kernel) ⟨rfl, rfl, by decide, by decide⟩ XE.bl (fun U hU hW => hX0.at hS0 hU hW) rfl rfl (by simp [Value.category]) ⟨by decide, by decide⟩ ⟨by decide, by decide⟩ dX2_bury_9 (fun z => by have hb : ¬ (nI 1 ≤ dep ∧ dep ≤ nI 3) := k01.mp z; have hk : k_bury d y (nI m1) (nI m2) dep = 2 := (by unfold k_bury; rw [if_neg (fun z => z ⟨hF1, hP2⟩), if_pos hb]); rw [hk]; exact ⟨by decide, rfl⟩) (fun t _ hkk => ⟨P_kept hP hkk, hD⟩) (fun hz => ?_)
  have hD3 : (nI 1 ≤ dep ∧ dep ≤ nI 3) := k00.mp hz
  obtain ⟨m3, b3l, b3h, rfl⟩ := q_rng (by decide) (by decide) hD3
  have hq3 : q_n (nI m3) = m3 := q_n_nI (by omega)
  try rw [hq3]
  refine g_aload0 C dX2_bury_12 ?_
  refine g_get (ci := 2) (T := TX2) (N := 6) C inX2 hK hP 0 rfl rfl 0 (by decide) wf_X2_10 ⟨rfl, rfl, rfl⟩ rfl dX2_bury_13 ?_
  refine g_iload1 C dX2_bury_16 ?_
  refine g_iload2 C dX2_bury_17 ?_
  refine g_iload3 C dX2_bury_18 ?_
  refine g_aload0 C dX2_bury_19 ?_
  refine g_get (ci := 2) (T := TX2) (N := 6) C inX2 hK hP 0 rfl rfl 0 (by decide) wf_X2_10 ⟨rfl, rfl, rfl⟩ rfl dX2_bury_20 ?_
  refine g_get (ci := 1) (T := TX1) (N := 12) C inX1 hK hP 3 rfl rfl 0 (by decide) wf_X2_72 ⟨rfl, rfl, rfl⟩ rfl dX2_bury_23 ?_
  refine g_lcV4 C hK (P_n hP) hZ hS (c_X1_refusal (by omega) (by omega) hki) wl_X2_90 wi_X1_refusal wv_X1_refusal wc_X1_refusal (by decide +kernel) ⟨rfl, rfl, by decide, by decide⟩ rfl (by simp [Value.category]) ⟨by decide, by decide⟩ dX2_bury_26 ?_
  refine g_top (q_ref_rc (q_rb_rc d (by omega))) ?_
  refine g_if_eq C 42 dX2_bury_29 (by decide) (fun h29 => ?_) (fun h29 => ?_)
  · refine g_aload0 C dX2_bury_42 ?_
    refine g_mV (As := []) C 0 rfl ((c_X2_save hn)) wl_X2_63 wi_X2_save wv_X2_save wn_X2 wc_X2_save (by decide +kernel) ⟨rfl, rfl, by decide, by decide⟩ BDM_bl (va_recv (ci := 2) (q0 := 0) hK hP rfl rfl) (BDM_at hK hP hD hZ hX hS (fun _ h => h)) rfl rfl (by simp [Value.category]) ⟨by decide, by decide⟩ hS (fun _ h => h) dX2_bury_43 (fun H locs hP1 _ _ hS => ?_)
    obtain ⟨hP, hD⟩ := hP1
    refine g_aload0 C dX2_bury_46 ?_
    refine g_get (ci := 2) (T := TX2) (N := 6) C inX2 hK hP 0 rfl rfl 0 (by decide) wf_X2_10 ⟨rfl, rfl, rfl⟩ rfl dX2_bury_47 ?_
    refine g_iload1 C dX2_bury_50 ?_
    refine g_iload2 C dX2_bury_51 ?_
    refine g_iload3 C dX2_bury_52 ?_
    refine g_mV (As := [.int (nI m1), .int (nI m2), .int (nI m3)]) C 3 rfl (c_X1_addBurial (by omega) (by omega) (by omega) (by omega)) wl_X2_96 wi_X1_addBurial wv_X1_addBurial wn_X1 wc_X1_addBurial (by decide +kernel) ⟨rfl, rfl, by decide, by decide⟩ LDM_bl (va_recv (ci := 1) (q0 := 0) hK (P_n hP) rfl rfl) (LDM_at hK (P_n hP) (D_n hD) hZ hS (A_n hD)) rfl rfl (by simp [Value.category]) ⟨by decide, by decide⟩ hS (A_n hD) dX2_bury_53 (fun H locs hP1 _ hk1 hS => ?_)
    obtain ⟨hP, hD⟩ := PD_n hP hD hP1 hk1
    have hk : k_bury d y (nI m1) (nI m2) (nI m3) = 0 := by unfold k_bury; rw [hq2, hq3, if_neg (fun z => z ⟨hF1, hP2⟩), if_neg (fun z => z hD3), if_neg (fun z => z h29)]
    refine g_wd (k := 4) (n := 24) (by decide) (by decide) ?_
    exact g_xiret C hk (⟨hP, hD⟩) hS (rfl) dX2_bury_56
  · have hk : k_bury d y (nI m1) (nI m2) (nI m3) = 3 := by unfold k_bury; rw [hq2, hq3, if_neg (fun z => z ⟨hF1, hP2⟩), if_neg (fun z => z hD3), if_pos (by first | exact h29 | (rw [nI_0]; exact h29))]
    exact g_thrIS C hT hls hX0 hS0 (List.mem_of_getElem? (i := 5) rfl) rfl dX2_bury_32 dX2_bury_35 dX2_bury_36 dX2_bury_38 dX2_bury_41 ⟨by decide, by decide, by decide, by decide⟩ ⟨by decide, by decide⟩ (by rw [hk]; decide) (by first | (rw [hk]; rfl) | rfl) (fun t _ hkk => ⟨P_kept hP hkk, hD⟩) (fun _ h => h.elim) (fun z hz => absurd hz List.not_mem_nil)

set_option maxHeartbeats 4000000 in
set_option maxRecDepth 100000 in
theorem c_X2_reserve {l : Launch} {dC : Nat → ClassId} {dI : Nat → Nat → Nat} {cI cL cJ : ClassId} {g1 g2 : Nat} {A : Nat → Prop} {o sa ba a e : Nat} {t : Nat → Nat} {n len : Nat} {tx : Nat → Int32} {y : Int32} {d : RW} {x : PS} {sv : Nat → LO} (hls : l.stackTraces = false) (hn : n ≤ 6) (hki : INV d) {f p v : Int32} : vx_Met l yX2_reserve (.code yX2_reserve cX2_reserve 4 (some .int) :: WG) (rmC 7 4 24) (va_Pc [.ref o, .int f, .int p, .int v] (BDM dC dI cI cL cJ g1 g2 A o sa ba a e t n len tx y d (q_rw d 0) x sv)) (bx_Q (k_res d y f p v) (some (.int (q_pr d (q_n f) (nI (2 * q_n v))))) (BP dC dI cI cL A o sa ba a e t (min (n + 1) 6) len tx y (q_addR d y (q_n f) (q_n p) (q_n v)) (q_rw (q_addR d y (q_n f) (q_n p) (q_n v)) 0) x (sv_save sv n y d (q_rw d 0))) A) (bx_C cl3 (k_res d y f p v) (BP dC dI cI cL A o sa ba a e t n len tx y d (q_rw d 0) x sv) A) 4 24 (A) := by
  refine bx_of [some (.ref o), some (.int f), some (.int p), some (.int v)] rfl rfl (Nat.le_of_ble_eq_true rfl) (by decide) ?_
  intro P_ E_ s M_ B_ T_ K_ C hT hv
  obtain ⟨hP, hD, hK, hZ, hX⟩ := hv
  have hS : va_S A s.heap s.heap [] := va_S.rf
  have hS0 : va_S (fun _ => False) s.heap s.heap [] := va_S.rf
  have hX0 : XE (fun _ => False) s s.heap := hX.narrow (fun _ h => h.elim)
  refine g_iload1 C dX2_reserve_0 ?_
  refine g_xcS (As := [.int f]) C hT (c_X2_needFamily hls) 1 rfl wl_X2_81 wt_X2_needFamily wn_X2 wc_X2_needFamily (by decide +kernel) ⟨rfl, rfl, by decide, by decide⟩ XE.bl (fun U hU hW => hX0.at hS0 hU hW) rfl rfl (by simp [Value.category]) ⟨by decide, by decide⟩ ⟨by decide, by decide⟩ dX2_reserve_1 (fun z => by have hb : ¬ q_isF f := k01.mp z; have hk : k_res d y f p v = 1 := (by exact if_pos (fun z => hb z.1)); rw [hk]; exact ⟨by decide, rfl⟩) (fun t _ hkk => ⟨P_kept hP hkk, hD⟩) (fun hz => ?_)
  have hF1 : q_isF f := k00.mp hz
  obtain ⟨m1, b1l, b1h, rfl⟩ := q_rng (by decide) (by decide) hF1
  have hq1 : q_n (nI m1) = m1 := q_n_nI (by omega)
  try rw [hq1]
  refine g_iload2 C dX2_reserve_4 ?_
  refine g_xcS (As := [.int p]) C hT (c_X2_needPlot hls) 1 rfl wl_X2_38 wt_X2_needPlot wn_X2 wc_X2_needPlot (by decide +kernel) ⟨rfl, rfl, by decide, by decide⟩ XE.bl (fun U hU hW => hX0.at hS0 hU hW) rfl rfl (by simp [Value.category]) ⟨by decide, by decide⟩ ⟨by decide, by decide⟩ dX2_reserve_5 (fun z => by have hb : ¬ q_isP p := k01.mp z; have hk : k_res d y (nI m1) p v = 1 := (by exact if_pos (fun z => hb z.2)); rw [hk]; exact ⟨by decide, rfl⟩) (fun t _ hkk => ⟨P_kept hP hkk, hD⟩) (fun hz => ?_)
  have hP2 : q_isP p := k00.mp hz
  obtain ⟨m2, b2l, b2h, rfl⟩ := q_rng (by decide) (by decide) hP2
  have hq2 : q_n (nI m2) = m2 := q_n_nI (by omega)
  try rw [hq2]
  refine g_iload3 C dX2_reserve_8 ?_
  refine g_iconst C (nI 1) (by decide) dX2_reserve_9 ?_
  refine g_icmp_lt C 19 dX2_reserve_10 (by decide) (fun h10 => ?_) (fun h10 => ?_)
  · have hk : k_res d y (nI m1) (nI m2) v = 2 := by unfold k_res; rw [if_neg (fun z => z ⟨hF1, hP2⟩), if_pos (fun z => absurd h10 (Int32.not_lt.mpr z.1))]
    exact g_thrIA C hT hls hX0 hS0 (List.mem_of_getElem? (i := 3) rfl) rfl dX2_reserve_19 dX2_reserve_22 dX2_reserve_23 dX2_reserve_25 dX2_reserve_28 ⟨by decide, by decide, by decide, by decide⟩ ⟨by decide, by decide⟩ (by rw [hk]; decide) (by first | (rw [hk]; rfl) | rfl) (fun t _ hkk => ⟨P_kept hP hkk, hD⟩) (fun _ h => h.elim) (fun z hz => absurd hz List.not_mem_nil)
  · refine g_iload3 C dX2_reserve_13 ?_
    refine g_bipush C (nI 50) (by decide) dX2_reserve_14 ?_
    refine g_icmp_le C 29 dX2_reserve_16 (by decide) (fun h16 => ?_) (fun h16 => ?_)
    · have hV3 : nI 1 ≤ v ∧ v ≤ nI 50 := ⟨Int32.not_lt.mp h10, h16⟩
      obtain ⟨m3, b3l, b3h, rfl⟩ := q_rng (by decide) (by decide) hV3
      have hq3 : q_n (nI m3) = m3 := q_n_nI (by omega)
      try rw [hq3]
      refine g_aload0 C dX2_reserve_29 ?_
      refine g_get (ci := 2) (T := TX2) (N := 6) C inX2 hK hP 0 rfl rfl 0 (by decide) wf_X2_10 ⟨rfl, rfl, rfl⟩ rfl dX2_reserve_30 ?_
      refine g_iload1 C dX2_reserve_33 ?_
      refine g_iload2 C dX2_reserve_34 ?_
      refine g_lcV2 C hK (P_n hP) hZ hS (c_X1_mayReserve (by omega) (by omega) hki) wl_X2_100 wi_X1_mayReserve wv_X1_mayReserve wc_X1_mayReserve (by decide +kernel) ⟨rfl, rfl, by decide, by decide⟩ rfl (by simp [Value.category]) ⟨by decide, by decide⟩ dX2_reserve_35 ?_
      refine g_if_neB C 51 dX2_reserve_38 (by decide) (fun h38 => ?_) (fun h38 => ?_)
      · refine g_aload0 C dX2_reserve_51 ?_
        refine g_mV (As := []) C 0 rfl ((c_X2_save hn)) wl_X2_63 wi_X2_save wv_X2_save wn_X2 wc_X2_save (by decide +kernel) ⟨rfl, rfl, by decide, by decide⟩ BDM_bl (va_recv (ci := 2) (q0 := 0) hK hP rfl rfl) (BDM_at hK hP hD hZ hX hS (fun _ h => h)) rfl rfl (by simp [Value.category]) ⟨by decide, by decide⟩ hS (fun _ h => h) dX2_reserve_52 (fun H locs hP1 _ _ hS => ?_)
        obtain ⟨hP, hD⟩ := hP1
        refine g_aload0 C dX2_reserve_55 ?_
        refine g_get (ci := 2) (T := TX2) (N := 6) C inX2 hK hP 0 rfl rfl 0 (by decide) wf_X2_10 ⟨rfl, rfl, rfl⟩ rfl dX2_reserve_56 ?_
        refine g_iload1 C dX2_reserve_59 ?_
        refine g_iload2 C dX2_reserve_60 ?_
        refine g_iload3 C dX2_reserve_61 ?_
        refine g_mV (As := [.int (nI m1), .int (nI m2), .int (nI m3)]) C 3 rfl (c_X1_addReservation (by omega) (by omega)) wl_X2_106 wi_X1_addReservation wv_X1_addReservation wn_X1 wc_X1_addReservation (by decide +kernel) ⟨rfl, rfl, by decide, by decide⟩ LDM_bl (va_recv (ci := 1) (q0 := 0) hK (P_n hP) rfl rfl) (LDM_at hK (P_n hP) (D_n hD) hZ hS (A_n hD)) rfl rfl (by simp [Value.category]) ⟨by decide, by decide⟩ hS (A_n hD) dX2_reserve_62 (fun H locs hP1 _ hk1 hS => ?_)
        obtain ⟨hP, hD⟩ := PD_n hP hD hP1 hk1
        have e9 : q_rw (q_addR d y m1 m2 m3) 0 = q_rw d 0 := rw_addR
        have hP : va_P (dC, dI) vwCl (BW cI cL o sa ba a e t (min (n + 1) 6) len (svg (sv_save sv n y d (q_rw d 0))) tx y (q_addR d y m1 m2 m3) (q_rw (q_addR d y m1 m2 m3) 0) x (sv_save sv n y d (q_rw d 0))) H := by rw [e9]; exact hP
        have hD : va_D A (BW cI cL o sa ba a e t (min (n + 1) 6) len (svg (sv_save sv n y d (q_rw d 0))) tx y (q_addR d y m1 m2 m3) (q_rw (q_addR d y m1 m2 m3) 0) x (sv_save sv n y d (q_rw d 0))) := by rw [e9]; exact hD
        have hk : k_res d y (nI m1) (nI m2) (nI m3) = 0 := by unfold k_res; rw [hq2, if_neg (fun z => z ⟨hF1, hP2⟩), if_neg (fun z => z hV3), if_neg (fun z => z h38)]
        refine g_wd (k := 4) (n := 24) (by decide) (by decide) ?_
        exact g_xiret C hk (⟨hP, hD⟩) hS (rfl) dX2_reserve_65
      · have hk : k_res d y (nI m1) (nI m2) (nI m3) = 3 := by unfold k_res; rw [hq2, if_neg (fun z => z ⟨hF1, hP2⟩), if_neg (fun z => z hV3), if_pos h38]
        exact g_thrIS C hT hls hX0 hS0 (List.mem_of_getElem? (i := 6) rfl) rfl dX2_reserve_41 dX2_reserve_44 dX2_reserve_45 dX2_reserve_47 dX2_reserve_50 ⟨by decide, by decide, by decide, by decide⟩ ⟨by decide, by decide⟩ (by rw [hk]; decide) (by first | (rw [hk]; rfl) | rfl) (fun t _ hkk => ⟨P_kept hP hkk, hD⟩) (fun _ h => h.elim) (fun z hz => absurd hz List.not_mem_nil)
    · have hk : k_res d y (nI m1) (nI m2) v = 2 := by unfold k_res; rw [if_neg (fun z => z ⟨hF1, hP2⟩), if_pos (fun z => h16 z.2)]
      exact g_thrIA C hT hls hX0 hS0 (List.mem_of_getElem? (i := 3) rfl) rfl dX2_reserve_19 dX2_reserve_22 dX2_reserve_23 dX2_reserve_25 dX2_reserve_28 ⟨by decide, by decide, by decide, by decide⟩ ⟨by decide, by decide⟩ (by rw [hk]; decide) (by first | (rw [hk]; rfl) | rfl) (fun t _ hkk => ⟨P_kept hP hkk, hD⟩) (fun _ h => h.elim) (fun z hz => absurd hz List.not_mem_nil)

set_option maxHeartbeats 4000000 in
set_option maxRecDepth 100000 in
theorem c_X2_buildVault {l : Launch} {dC : Nat → ClassId} {dI : Nat → Nat → Nat} {cI cL cJ : ClassId} {g1 g2 : Nat} {A : Nat → Prop} {o sa ba a e : Nat} {t : Nat → Nat} {n len : Nat} {tx : Nat → Int32} {y : Int32} {d : RW} {x : PS} {sv : Nat → LO} (hls : l.stackTraces = false) (hn : n ≤ 6) (hki : INV d) {f p : Int32} : vx_Met l yX2_buildVault (.code yX2_buildVault cX2_buildVault 3 (some .int) :: WG) (rmC 7 4 24) (va_Pc [.ref o, .int f, .int p] (BDM dC dI cI cL cJ g1 g2 A o sa ba a e t n len tx y d (q_rw d 0) x sv)) (bx_Q (k_vau d y f p) (some (.int (q_pr d (q_n f) (nI 100)))) (BP dC dI cI cL A o sa ba a e t (min (n + 1) 6) len tx y (q_addV d (q_n f) (q_n p)) (q_rw (q_addV d (q_n f) (q_n p)) 0) x (sv_save sv n y d (q_rw d 0))) A) (bx_C clS (k_vau d y f p) (BP dC dI cI cL A o sa ba a e t n len tx y d (q_rw d 0) x sv) A) 4 24 (A) := by
  refine bx_of [some (.ref o), some (.int f), some (.int p)] rfl rfl (Nat.le_of_ble_eq_true rfl) (by decide) ?_
  intro P_ E_ s M_ B_ T_ K_ C hT hv
  obtain ⟨hP, hD, hK, hZ, hX⟩ := hv
  have hS : va_S A s.heap s.heap [] := va_S.rf
  have hS0 : va_S (fun _ => False) s.heap s.heap [] := va_S.rf
  have hX0 : XE (fun _ => False) s s.heap := hX.narrow (fun _ h => h.elim)
  refine g_iload1 C dX2_buildVault_0 ?_
  refine g_xcS (As := [.int f]) C hT (c_X2_needFamily hls) 1 rfl wl_X2_81 wt_X2_needFamily wn_X2 wc_X2_needFamily (by decide +kernel) ⟨rfl, rfl, by decide, by decide⟩ XE.bl (fun U hU hW => hX0.at hS0 hU hW) rfl rfl (by simp [Value.category]) ⟨by decide, by decide⟩ ⟨by decide, by decide⟩ dX2_buildVault_1 (fun z => by have hb : ¬ q_isF f := k01.mp z; have hk : k_vau d y f p = 1 := (by exact if_pos (fun z => hb z.1)); rw [hk]; exact ⟨by decide, rfl⟩) (fun t _ hkk => ⟨P_kept hP hkk, hD⟩) (fun hz => ?_)
  have hF1 : q_isF f := k00.mp hz
  obtain ⟨m1, b1l, b1h, rfl⟩ := q_rng (by decide) (by decide) hF1
  have hq1 : q_n (nI m1) = m1 := q_n_nI (by omega)
  try rw [hq1]
  refine g_iload2 C dX2_buildVault_4 ?_
  refine g_xcS (As := [.int p]) C hT (c_X2_needPlot hls) 1 rfl wl_X2_38 wt_X2_needPlot wn_X2 wc_X2_needPlot (by decide +kernel) ⟨rfl, rfl, by decide, by decide⟩ XE.bl (fun U hU hW => hX0.at hS0 hU hW) rfl rfl (by simp [Value.category]) ⟨by decide, by decide⟩ ⟨by decide, by decide⟩ dX2_buildVault_5 (fun z => by have hb : ¬ q_isP p := k01.mp z; have hk : k_vau d y (nI m1) p = 1 := (by exact if_pos (fun z => hb z.2)); rw [hk]; exact ⟨by decide, rfl⟩) (fun t _ hkk => ⟨P_kept hP hkk, hD⟩) (fun hz => ?_)
  have hP2 : q_isP p := k00.mp hz
  obtain ⟨m2, b2l, b2h, rfl⟩ := q_rng (by decide) (by decide) hP2
  have hq2 : q_n (nI m2) = m2 := q_n_nI (by omega)
  try rw [hq2]
  refine g_aload0 C dX2_buildVault_8 ?_
  refine g_get (ci := 2) (T := TX2) (N := 6) C inX2 hK hP 0 rfl rfl 0 (by decide) wf_X2_10 ⟨rfl, rfl, rfl⟩ rfl dX2_buildVault_9 ?_
  refine g_iload1 C dX2_buildVault_12 ?_
  refine g_iload2 C dX2_buildVault_13 ?_
  refine g_lcV2 C hK (P_n hP) hZ hS (c_X1_mayBuildVault (by omega) (by omega) hki) wl_X2_109 wi_X1_mayBuildVault wv_X1_mayBuildVault wc_X1_mayBuildVault (by decide +kernel) ⟨rfl, rfl, by decide, by decide⟩ rfl (by simp [Value.category]) ⟨by decide, by decide⟩ dX2_buildVault_14 ?_
  refine g_if_neB C 30 dX2_buildVault_17 (by decide) (fun h17 => ?_) (fun h17 => ?_)
  · refine g_aload0 C dX2_buildVault_30 ?_
    refine g_mV (As := []) C 0 rfl ((c_X2_save hn)) wl_X2_63 wi_X2_save wv_X2_save wn_X2 wc_X2_save (by decide +kernel) ⟨rfl, rfl, by decide, by decide⟩ BDM_bl (va_recv (ci := 2) (q0 := 0) hK hP rfl rfl) (BDM_at hK hP hD hZ hX hS (fun _ h => h)) rfl rfl (by simp [Value.category]) ⟨by decide, by decide⟩ hS (fun _ h => h) dX2_buildVault_31 (fun H locs hP1 _ _ hS => ?_)
    obtain ⟨hP, hD⟩ := hP1
    refine g_aload0 C dX2_buildVault_34 ?_
    refine g_get (ci := 2) (T := TX2) (N := 6) C inX2 hK hP 0 rfl rfl 0 (by decide) wf_X2_10 ⟨rfl, rfl, rfl⟩ rfl dX2_buildVault_35 ?_
    refine g_iload1 C dX2_buildVault_38 ?_
    refine g_iload2 C dX2_buildVault_39 ?_
    refine g_mV (As := [.int (nI m1), .int (nI m2)]) C 2 rfl (c_X1_addVault (by omega) (by omega)) wl_X2_114 wi_X1_addVault wv_X1_addVault wn_X1 wc_X1_addVault (by decide +kernel) ⟨rfl, rfl, by decide, by decide⟩ LDM_bl (va_recv (ci := 1) (q0 := 0) hK (P_n hP) rfl rfl) (LDM_at hK (P_n hP) (D_n hD) hZ hS (A_n hD)) rfl rfl (by simp [Value.category]) ⟨by decide, by decide⟩ hS (A_n hD) dX2_buildVault_40 (fun H locs hP1 _ hk1 hS => ?_)
    obtain ⟨hP, hD⟩ := PD_n hP hD hP1 hk1
    have e9 : q_rw (q_addV d m1 m2) 0 = q_rw d 0 := rw_addV
    have hP : va_P (dC, dI) vwCl (BW cI cL o sa ba a e t (min (n + 1) 6) len (svg (sv_save sv n y d (q_rw d 0))) tx y (q_addV d m1 m2) (q_rw (q_addV d m1 m2) 0) x (sv_save sv n y d (q_rw d 0))) H := by rw [e9]; exact hP
    have hD : va_D A (BW cI cL o sa ba a e t (min (n + 1) 6) len (svg (sv_save sv n y d (q_rw d 0))) tx y (q_addV d m1 m2) (q_rw (q_addV d m1 m2) 0) x (sv_save sv n y d (q_rw d 0))) := by rw [e9]; exact hD
    have hk : k_vau d y (nI m1) (nI m2) = 0 := by unfold k_vau; rw [hq2, if_neg (fun z => z ⟨hF1, hP2⟩), if_neg (fun z => z ⟨h17.1, h17.2.1, h17.2.2.1, h17.2.2.2.1, h17.2.2.2.2.1, by rw [← q_rb_rc d (by omega)]; exact h17.2.2.2.2.2⟩)]
    refine g_wd (k := 4) (n := 24) (by decide) (by decide) ?_
    exact g_xiret C hk (⟨hP, hD⟩) hS (rfl) dX2_buildVault_43
  · have hk : k_vau d y (nI m1) (nI m2) = 2 := by unfold k_vau; rw [hq2, if_neg (fun z => z ⟨hF1, hP2⟩), if_pos (fun z => h17 ⟨z.1, z.2.1, z.2.2.1, z.2.2.2.1, z.2.2.2.2.1, by rw [q_rb_rc d (by omega)]; exact z.2.2.2.2.2⟩)]
    exact g_thrIS C hT hls hX0 hS0 (List.mem_of_getElem? (i := 7) rfl) rfl dX2_buildVault_20 dX2_buildVault_23 dX2_buildVault_24 dX2_buildVault_26 dX2_buildVault_29 ⟨by decide, by decide, by decide, by decide⟩ ⟨by decide, by decide⟩ (by rw [hk]; decide) (by first | (rw [hk]; rfl) | rfl) (fun t _ hkk => ⟨P_kept hP hkk, hD⟩) (fun _ h => h.elim) (fun z hz => absurd hz List.not_mem_nil)

set_option maxHeartbeats 4000000 in
set_option maxRecDepth 100000 in
theorem c_X2_clear {l : Launch} {dC : Nat → ClassId} {dI : Nat → Nat → Nat} {cI cL cJ : ClassId} {g1 g2 : Nat} {A : Nat → Prop} {o sa ba a e : Nat} {t : Nat → Nat} {n len : Nat} {tx : Nat → Int32} {y : Int32} {d : RW} {x : PS} {sv : Nat → LO} (hls : l.stackTraces = false) (hn : n ≤ 6) (hki : INV d) {p : Int32} : vx_Met l yX2_clear (.code yX2_clear cX2_clear 2 (some .int) :: WG) (rmC 7 4 24) (va_Pc [.ref o, .int p] (BDM dC dI cI cL cJ g1 g2 A o sa ba a e t n len tx y d (q_rw d 0) x sv)) (bx_Q (k_clr d y p) (some (.int (nI (q_bur d (q_n p))))) (BP dC dI cI cL A o sa ba a e t (min (n + 1) 6) len tx y (q_rm d (q_n p) 3) (q_rw (q_rm d (q_n p) 3) 0) x (sv_save sv n y d (q_rw d 0))) A) (bx_C clS (k_clr d y p) (BP dC dI cI cL A o sa ba a e t n len tx y d (q_rw d 0) x sv) A) 4 24 (A) := by
  refine bx_of [some (.ref o), some (.int p)] rfl rfl (Nat.le_of_ble_eq_true rfl) (by decide) ?_
  intro P_ E_ s M_ B_ T_ K_ C hT hv
  obtain ⟨hP, hD, hK, hZ, hX⟩ := hv
  have hS : va_S A s.heap s.heap [] := va_S.rf
  have hS0 : va_S (fun _ => False) s.heap s.heap [] := va_S.rf
  have hX0 : XE (fun _ => False) s s.heap := hX.narrow (fun _ h => h.elim)
  refine g_iload1 C dX2_clear_0 ?_
  refine g_xcS (As := [.int p]) C hT (c_X2_needPlot hls) 1 rfl wl_X2_38 wt_X2_needPlot wn_X2 wc_X2_needPlot (by decide +kernel) ⟨rfl, rfl, by decide, by decide⟩ XE.bl (fun U hU hW => hX0.at hS0 hU hW) rfl rfl (by simp [Value.category]) ⟨by decide, by decide⟩ ⟨by decide, by decide⟩ dX2_clear_1 (fun z => by have hb : ¬ q_isP p := k01.mp z; have hk : k_clr d y p = 1 := (by exact if_pos hb); rw [hk]; exact ⟨by decide, rfl⟩) (fun t _ hkk => ⟨P_kept hP hkk, hD⟩) (fun hz => ?_)
  have hR1 : q_isP p := k00.mp hz
  obtain ⟨m1, b1l, b1h, rfl⟩ := q_rng (by decide) (by decide) hR1
  have hq1 : q_n (nI m1) = m1 := q_n_nI (by omega)
  try rw [hq1]
  refine g_aload0 C dX2_clear_4 ?_
  refine g_get (ci := 2) (T := TX2) (N := 6) C inX2 hK hP 0 rfl rfl 0 (by decide) wf_X2_10 ⟨rfl, rfl, rfl⟩ rfl dX2_clear_5 ?_
  refine g_iload1 C dX2_clear_8 ?_
  refine g_lcV1 C hK (P_n hP) hZ hS (c_X1_restingBurials (by omega) hki) wl_X2_117 wi_X1_restingBurials wv_X1_restingBurials wc_X1_restingBurials (by decide +kernel) ⟨rfl, rfl, by decide, by decide⟩ rfl (by simp [Value.category]) ⟨by decide, by decide⟩ dX2_clear_9 ?_
  have hrn : q_rsn d y m1 ≤ 3 := q_cn_le _ 3
  refine g_if_leN C (by omega) 25 dX2_clear_12 (by decide) (fun h12 => ?_) (fun h12 => ?_)
  · refine g_aload0 C dX2_clear_25 ?_
    refine g_mV (As := []) C 0 rfl ((c_X2_save hn)) wl_X2_63 wi_X2_save wv_X2_save wn_X2 wc_X2_save (by decide +kernel) ⟨rfl, rfl, by decide, by decide⟩ BDM_bl (va_recv (ci := 2) (q0 := 0) hK hP rfl rfl) (BDM_at hK hP hD hZ hX hS (fun _ h => h)) rfl rfl (by simp [Value.category]) ⟨by decide, by decide⟩ hS (fun _ h => h) dX2_clear_26 (fun H locs hP1 _ _ hS => ?_)
    obtain ⟨hP, hD⟩ := hP1
    refine g_aload0 C dX2_clear_29 ?_
    refine g_get (ci := 2) (T := TX2) (N := 6) C inX2 hK hP 0 rfl rfl 0 (by decide) wf_X2_10 ⟨rfl, rfl, rfl⟩ rfl dX2_clear_30 ?_
    refine g_iload1 C dX2_clear_33 ?_
    refine g_mV (As := [.int (nI m1)]) C 1 rfl (c_X1_removeBurials (by omega)) wl_X2_123 wi_X1_removeBurials wv_X1_removeBurials wn_X1 wc_X1_removeBurials (by decide +kernel) ⟨rfl, rfl, by decide, by decide⟩ LDM_bl (va_recv (ci := 1) (q0 := 0) hK (P_n hP) rfl rfl) (LDM_at hK (P_n hP) (D_n hD) hZ hS (A_n hD)) rfl rfl (by simp [Value.category]) ⟨by decide, by decide⟩ hS (A_n hD) dX2_clear_34 (fun H locs hP1 _ hk1 hS => ?_)
    obtain ⟨hP, hD⟩ := PD_n hP hD hP1 hk1
    have hk : k_clr d y (nI m1) = 0 := by unfold k_clr; rw [hq1, if_neg (fun z => z hR1), if_neg (by omega)]
    refine g_wd (k := 4) (n := 24) (by decide) (by decide) ?_
    exact g_xiret C hk (⟨hP, hD⟩) hS (rfl) dX2_clear_37
  · have hk : k_clr d y (nI m1) = 2 := by unfold k_clr; rw [hq1, if_neg (fun z => z hR1), if_pos h12]
    exact g_thrIS C hT hls hX0 hS0 (List.mem_of_getElem? (i := 8) rfl) rfl dX2_clear_15 dX2_clear_18 dX2_clear_19 dX2_clear_21 dX2_clear_24 ⟨by decide, by decide, by decide, by decide⟩ ⟨by decide, by decide⟩ (by rw [hk]; decide) (by first | (rw [hk]; rfl) | rfl) (fun t _ hkk => ⟨P_kept hP hkk, hD⟩) (fun _ h => h.elim) (fun z hz => absurd hz List.not_mem_nil)
