section TP
variable {D : va_G} {cl : List vw_C} {A : Nat → Prop} {dC : Nat → ClassId} {dI : Nat → Nat → Nat} {cI cL cJ : ClassId} {t tt : Nat → Nat} {x1 x3 x4 v : Nat → Int32} {x2 : Nat → Int64} {w o sa ba a e n' len ub yn yn' : Nat} {tx : Nat → Int32} {d' : RW} {ps : PS} {sv' : Nat → LO} {H H1 : Heap} {bw bw1 : va_W}
theorem tw_d (hD : va_D A (PW cI cJ t x1 x2 x3 x4 ++ (WY cI w v :: bw))) : va_D (fun q => q ∈ bw.map Prod.fst) bw ∧ ∀ q, q ∈ bw.map Prod.fst → A q := D_r (u := PW cI cJ t x1 x2 x3 x4 ++ [WY cI w v]) (v := bw) hD
theorem tw_put (hP : va_P D cl (PW cI cJ t x1 x2 x3 x4 ++ (WY cI w v :: bw)) H) (hD : va_D A (PW cI cJ t x1 x2 x3 x4 ++ (WY cI w v :: bw))) (hB : va_P D cl bw1 H1 ∧ va_D (fun q => q ∈ bw.map Prod.fst) bw1) (hk : ∀ q : Nat, q < H.size → ¬ q ∈ bw.map Prod.fst → H1[q]? = H[q]?) : va_P D cl (PW cI cJ t x1 x2 x3 x4 ++ (WY cI w v :: bw1)) H1 ∧ va_D A (PW cI cJ t x1 x2 x3 x4 ++ (WY cI w v :: bw1)) :=
  PD_put (u := PW cI cJ t x1 x2 x3 x4 ++ [WY cI w v]) (W := bw) (W1 := bw1) hP hD hB.1 hB.2 hk
/-- what an action of the law leaves -/
def ACP (dC : Nat → ClassId) (dI : Nat → Nat → Nat) (cI cL cJ : ClassId) (A : Nat → Prop) (o sa ba a e : Nat) (tt t : Nat → Nat) (len : Nat) (tx : Nat → Int32) (ps : PS) (ub yn : Nat) (H : Heap) : Prop :=
  ∃ (n' : Nat) (sv' : Nat → LO) (d' : RW) (yn' : Nat) (x1 : Nat → Int32) (x2 : Nat → Int64) (x3 x4 : Nat → Int32) (w9 : va_W),
    va_P (dC, dI) vwCl ((PW cI cJ t x1 x2 x3 x4 ++ BW cI cL o sa ba a e tt n' len (svg sv') tx (nI yn') d' (q_rw d' 0) ps sv') ++ w9) H ∧ va_D A ((PW cI cJ t x1 x2 x3 x4 ++ BW cI cL o sa ba a e tt n' len (svg sv') tx (nI yn') d' (q_rw d' 0) ps sv') ++ w9) ∧ PKI d' yn' x1 x2 x3 x4 ∧ yn' ≤ yn + 40 ∧ n' ≤ 6 ∧ 1 ≤ n' ∧ PKU d' (ub + 50)
theorem acp_mk (hP : va_P (dC, dI) vwCl (PW cI cJ t x1 x2 x3 x4 ++ (WY cI w v :: BW cI cL o sa ba a e tt n' len (svg sv') tx (nI yn') d' (q_rw d' 0) ps sv')) H) (hD : va_D A (PW cI cJ t x1 x2 x3 x4 ++ (WY cI w v :: BW cI cL o sa ba a e tt n' len (svg sv') tx (nI yn') d' (q_rw d' 0) ps sv'))) (hk : PKI d' yn' x1 x2 x3 x4) (hy : yn' ≤ yn + 40) (hn : n' ≤ 6) (hn1 : 1 ≤ n') (hu : PKU d' (ub + 50)) : ACP dC dI cI cL cJ A o sa ba a e tt t len tx ps ub yn H :=
  ⟨n', sv', d', yn', x1, x2, x3, x4, [WY cI w v], P_perm tn_perm.symm hP, D_perm tn_perm.symm hD, hk, hy, hn, hn1, hu⟩
end TP

set_option maxHeartbeats 4000000 in
set_option maxRecDepth 100000 in
theorem c_L_act_lay {l : Launch} {dC : Nat → ClassId} {dI : Nat → Nat → Nat} {cI cL cJ : ClassId} {g1 g2 : Nat} {A : Nat → Prop} {t : Nat → Nat} {x1 x3 x4 : Nat → Int32} {x2 : Nat → Int64} {d : RW} {yn : Nat} (hk : PKI d yn x1 x2 x3 x4) (hyn : yn ≤ 1900) {o sa ba a e : Nat} {tt : Nat → Nat} {n len : Nat} {tx : Nat → Int32} {ps : PS} {sv : Nat → LO} (hls : l.stackTraces = false) {ax ay : Int32} {ac ub : Nat} (hn1 : 1 ≤ n) (hn6 : n ≤ 6) (hub : PKU d ub) (hyu : yn ≤ ub) (hub4 : ub ≤ 10000) (hac : ac < 3) : Met l yL_act (.code yL_act method_24_code 16 (some .boolean) :: WG) (rmC 9 5 64) (va_Pc [.ref o, .int (nI ac), .int ax, .int ay, .ref (t 0), .ref (t 1), .ref (t 2), .ref (t 3)] (TLN dC dI cI cL cJ g1 g2 A (PW cI cJ t x1 x2 x3 x4 ++ BW cI cL o sa ba a e tt n len (svg sv) tx (nI yn) d (q_rw d 0) ps sv))) (bq_M (some (.int (bI True))) (ACP dC dI cI cL cJ A o sa ba a e tt t len tx ps ub yn) A) 5 64 (A) := by
  refine bq_of [some (.ref o), some (.int (nI ac)), some (.int ax), some (.int ay), some (.ref (t 0)), some (.ref (t 1)), some (.ref (t 2)), some (.ref (t 3)), none, none, none, none, none, none, none, none] rfl rfl (Nat.le_of_ble_eq_true rfl) (by decide) ?_
  intro P_ E_ s M_ B_ T_ K_ C hv
  obtain ⟨⟨hP, hD, hK, hZ, hX⟩, hAA⟩ := hv
  have hS : va_S A s.heap s.heap [] := va_S.rf
  have hki := hk.1
  have hkg := hk.2.1
  have hkb := hk.2.2.1
  have hke := hk.2.2.2.1
  have hkf := hk.2.2.2.2
  refine g_iload2 C dL_act_0 ?_
  refine g_iconst C (nI 4) (by decide) dL_act_1 ?_
  refine g_pkS C 2 rfl (c_L_at (by first | decide | (split <;> omega)) (by first | decide | (split <;> omega))) wl_L_74 wt_L_at wn_L wc_L_at (by decide +kernel) ⟨rfl, rfl, by decide, by decide⟩ TR_bl (fun _ _ _ => trivial) rfl rfl (by simp [Value.category]) ⟨by show _ ≤ 5; omega, by show _ ≤ 64; omega⟩ dL_act_2 ?_
  obtain ⟨f0, hf0, ef0⟩ : ∃ f0, f0 < 4 ∧ ux ax % 4 = f0 := ⟨_, Nat.mod_lt _ (by decide), rfl⟩
  rw [ef0]
  refine g_iload3 C dL_act_5 ?_
  refine g_bipush C (nI 9) (by decide) dL_act_6 ?_
  refine g_ishr C dL_act_8 ?_
  refine g_iconst C (nI 3) (by decide) dL_act_9 ?_
  refine g_pkS C 2 rfl (c_L_at (by first | decide | (split <;> omega)) (by first | decide | (split <;> omega))) wl_L_74 wt_L_at wn_L wc_L_at (by decide +kernel) ⟨rfl, rfl, by decide, by decide⟩ TR_bl (fun _ _ _ => trivial) rfl rfl (by simp [Value.category]) ⟨by show _ ≤ 5; omega, by show _ ≤ 64; omega⟩ dL_act_10 ?_
  obtain ⟨z1, hz1, ez1⟩ : ∃ z1, z1 < 3 ∧ ux (ay >>> (nI 9 &&& 31)) % 3 = z1 := ⟨_, Nat.mod_lt _ (by decide), rfl⟩
  rw [ez1]
  refine g_d1 (v := nI (if z1 = 0 then 6 else 0)) 22 (fun K13 => ?_) ?_
  · skip
    refine g_if_neN C (by omega) 21 dL_act_13 (by decide) (fun h13 => ?_) (fun h13 => ?_)
    · refine g_iconst C (nI 0) (by decide) dL_act_21 ?_
      exact K13 _ (by rw [if_neg h13])
    · refine g_bipush C (nI 6) (by decide) dL_act_16 ?_
      refine g_goto C 22 dL_act_18 (by decide) ?_
      exact K13 _ (by rw [if_pos h13])
  refine g_iaddN C dL_act_22 ?_
  obtain ⟨f, hf, ef⟩ : ∃ f, f < 10 ∧ f0 + (if z1 = 0 then 6 else 0) = f := ⟨_, by split <;> omega, rfl⟩
  rw [ef]
  refine g_istore8 C rfl dL_act_23 ?_
  refine g_iload3 C dL_act_25 ?_
  refine g_iload2 C dL_act_26 ?_
  refine g_iconst C (nI 3) (by decide) dL_act_27 ?_
  refine g_ishr C dL_act_28 ?_
  refine g_iconst C (nI 4) (by decide) dL_act_29 ?_
  refine g_pkS C 2 rfl (c_L_at (by first | decide | (split <;> omega)) (by first | decide | (split <;> omega))) wl_L_74 wt_L_at wn_L wc_L_at (by decide +kernel) ⟨rfl, rfl, by decide, by decide⟩ TR_bl (fun _ _ _ => trivial) rfl rfl (by simp [Value.category]) ⟨by show _ ≤ 5; omega, by show _ ≤ 64; omega⟩ dL_act_30 ?_
  obtain ⟨z2, hz2, ez2⟩ : ∃ z2, z2 < 4 ∧ ux (ax >>> (nI 3 &&& 31)) % 4 = z2 := ⟨_, Nat.mod_lt _ (by decide), rfl⟩
  rw [ez2]
  refine g_d1 (v := nI (if z2 = 0 then 40 else 12)) 43 (fun K33 => ?_) ?_
  · skip
    refine g_if_neN C (by omega) 41 dL_act_33 (by decide) (fun h33 => ?_) (fun h33 => ?_)
    · refine g_bipush C (nI 12) (by decide) dL_act_41 ?_
      exact K33 _ (by rw [if_neg h33])
    · refine g_bipush C (nI 40) (by decide) dL_act_36 ?_
      refine g_goto C 43 dL_act_38 (by decide) ?_
      exact K33 _ (by rw [if_pos h33])
  refine g_pkS C 2 rfl (c_L_at (by first | decide | (split <;> omega)) (by first | decide | (split <;> omega))) wl_L_74 wt_L_at wn_L wc_L_at (by decide +kernel) ⟨rfl, rfl, by decide, by decide⟩ TR_bl (fun _ _ _ => trivial) rfl rfl (by simp [Value.category]) ⟨by show _ ≤ 5; omega, by show _ ≤ 64; omega⟩ dL_act_43 ?_
  obtain ⟨p, hp, ep⟩ : ∃ p, p < 40 ∧ ux ay % (if z2 = 0 then 40 else 12) = p := ⟨_, by split <;> omega, rfl⟩
  rw [ep]
  refine g_istore9 C rfl dL_act_46 ?_
  refine g_iload9 C dL_act_48 ?_
  refine g_aload7 C dL_act_50 ?_
  refine g_bipush C (nI 30) (by decide) dL_act_52 ?_
  refine g_iald C hK hP 3 0 rfl rfl (by omega) (by decide) dL_act_54 ?_
  refine g_top hkf.1 ?_
  refine g_aload4 C dL_act_55 ?_
  refine g_aload5 C dL_act_57 ?_
  refine g_pkS C 4 rfl (c_L_holder hk (by omega) (by omega)) wl_L_46 wt_L_holder wn_L wc_L_holder (by decide +kernel) ⟨rfl, rfl, by decide, by decide⟩ PKR_bl (PKR_at hK (P_l hP)) rfl rfl (by simp [Value.category]) ⟨by show _ ≤ 5; omega, by show _ ≤ 64; omega⟩ dL_act_59 ?_
  refine g_istore10 C rfl dL_act_62 ?_
  refine g_iload10 C dL_act_64 ?_
  refine g_d1 (v := bI (q_oth (q_hold d (nI yn) p) (nI f))) 81 (fun K66 => ?_) ?_
  · skip
    refine g_if_lt C 80 dL_act_66 (by decide) (fun h66 => ?_) (fun h66 => ?_)
    · refine g_iconst C (nI 0) (by decide) dL_act_80 ?_
      exact K66 _ (bI_f (fun z => z.1 ((sgn2 (hold_sg hk hp _)).mp h66)))
    · refine g_iload10 C dL_act_69 ?_
      refine g_iload8 C dL_act_71 ?_
      refine g_icmp_eq C 80 dL_act_73 (by decide) (fun h73 => ?_) (fun h73 => ?_)
      · refine g_iconst C (nI 0) (by decide) dL_act_80 ?_
        exact K66 _ (bI_f (fun z => z.2 h73))
      · refine g_iconst C (nI 1) (by decide) dL_act_76 ?_
        refine g_goto C 81 dL_act_77 (by decide) ?_
        exact K66 _ (bI_t ⟨fun z => h66 ((sgn2 (hold_sg hk hp _)).mpr z), h73⟩)
  refine g_istore11 C rfl dL_act_81 ?_
  refine g_bipush C (nI 40) (by decide) dL_act_83 ?_
  refine g_newa C hK hP hD hS hAA (by decide) (by decide) (by show _ ≤ 5; omega) (by show _ ≤ 64; omega) dL_act_85 (fun w H hP hD hS => ?_)
  have hP := P_perm tn_perm hP
  have hD := D_perm tn_perm hD
  refine g_astore12 C rfl dL_act_87 ?_
  refine g_iconst C (-1) (by decide) dL_act_89 ?_
  refine g_aload4 C dL_act_90 ?_
  refine g_aload5 C dL_act_92 ?_
  refine g_aload12 C dL_act_94 ?_
  refine g_mS C 4 rfl (c_L_spread hk (b := -1)) wl_L_70 wt_L_spread wn_L wc_L_spread (by decide +kernel) ⟨rfl, rfl, by decide, by decide⟩ SPM_bl (SPM_at hK (tw_w hP) (tw_dw hD).1) rfl rfl (by simp [Value.category]) ⟨by show _ ≤ 5; omega, by show _ ≤ 64; omega⟩ hS (fun q _ hq => (tw_dw hD).2 q hq) (fun q hq => (tw_dw hD).2 q hq) dL_act_96 (fun H locs hV _ hk9 hS => ?_)
  obtain ⟨v, hV, hvr⟩ := hV
  obtain ⟨hP, hD⟩ := tw_jn hP hD hV hk9
  have hwr : ∀ q, q < 40 → q_wr v q = q_rc d q := fun q hq => q_wr_rc hvr hq
  refine g_iload1 C dL_act_99 ?_
  refine g_iconst C (nI 3) (by decide) dL_act_100 ?_
  refine g_icmp_geN C (by omega) (by omega) 183 dL_act_101 (by decide) (fun h101 => ?_) (fun h101 => ?_)
  · exfalso; omega
  · refine g_iload9 C dL_act_104 ?_
    refine g_if_eqN C (by omega) 139 dL_act_106 (by decide) (fun h106 => ?_) (fun h106 => ?_)
    · refine g_iconst C (nI 1) (by decide) dL_act_139 ?_
      refine g_wd (k := 5) (n := 64) (by omega) (by omega) ?_
      exact g_zretM C (acp_mk hP hD (hk) (by omega) (by omega) (by omega) (hub.mono (by omega))) hS (bI_t trivial) dL_act_140
    · refine g_aload5 C dL_act_109 ?_
      refine g_iload9 C dL_act_111 ?_
      refine g_pkS C 2 rfl (c_L_buried hk (by omega)) wl_L_38 wt_L_buried wn_L wc_L_buried (by decide +kernel) ⟨rfl, rfl, by decide, by decide⟩ PKR_bl (PKR_at hK (P_l hP)) rfl rfl (by simp [Value.category]) ⟨by show _ ≤ 5; omega, by show _ ≤ 64; omega⟩ dL_act_113 ?_
      have hbu : q_bur d p ≤ 3 := q_cn_le _ 3
      refine g_if_gtN C (by omega) 139 dL_act_116 (by decide) (fun h116 => ?_) (fun h116 => ?_)
      · refine g_iconst C (nI 1) (by decide) dL_act_139 ?_
        refine g_wd (k := 5) (n := 64) (by omega) (by omega) ?_
        exact g_zretM C (acp_mk hP hD (hk) (by omega) (by omega) (by omega) (hub.mono (by omega))) hS (bI_t trivial) dL_act_140
      · refine g_aload4 C dL_act_119 ?_
        refine g_iload9 C dL_act_121 ?_
        refine g_pkS C 2 rfl (c_L_vault hk (by omega)) wl_L_35 wt_L_vault wn_L wc_L_vault (by decide +kernel) ⟨rfl, rfl, by decide, by decide⟩ PKR_bl (PKR_at hK (P_l hP)) rfl rfl (by simp [Value.category]) ⟨by show _ ≤ 5; omega, by show _ ≤ 64; omega⟩ dL_act_123 ?_
        refine g_if_ge C 139 dL_act_126 (by decide) (fun h126 => ?_) (fun h126 => ?_)
        · refine g_iconst C (nI 1) (by decide) dL_act_139 ?_
          refine g_wd (k := 5) (n := 64) (by omega) (by omega) ?_
          exact g_zretM C (acp_mk hP hD (hk) (by omega) (by omega) (by omega) (hub.mono (by omega))) hS (bI_t trivial) dL_act_140
        · have h4 : d 4 p = -1 := Classical.byContradiction fun z => h126 ((sgn (rd_4 hkg hp)).mpr z)
          refine g_aload4 C dL_act_129 ?_
          refine g_iload9 C dL_act_131 ?_
          refine g_pkS C 2 rfl (c_L_keeps hk (by omega)) wl_L_8 wt_L_keeps wn_L wc_L_keeps (by decide +kernel) ⟨rfl, rfl, by decide, by decide⟩ PKR_bl (PKR_at hK (P_l hP)) rfl rfl (by simp [Value.category]) ⟨by show _ ≤ 5; omega, by show _ ≤ 64; omega⟩ dL_act_133 ?_
          refine g_if_lt C 141 dL_act_136 (by decide) (fun h136 => ?_) (fun h136 => ?_)
          · have h5 : d 5 p = -1 := (sgn2 (rd_5s hkg hp)).mp h136
            refine g_aload4 C dL_act_141 ?_
            refine g_iload9 C dL_act_143 ?_
            refine g_iald C hK hP 0 0 rfl rfl (by omega) (by decide) dL_act_145 ?_
            refine g_istore13 C rfl dL_act_146 ?_
            refine g_aload4 C dL_act_148 ?_
            refine g_iload9 C dL_act_150 ?_
            refine g_iload2 C dL_act_152 ?_
            refine g_bipush C (nI 6) (by decide) dL_act_153 ?_
            refine g_ishr C dL_act_155 ?_
            refine g_iconst C (nI 4) (by decide) dL_act_156 ?_
            refine g_pkS C 2 rfl (c_L_at (by first | decide | (split <;> omega)) (by first | decide | (split <;> omega))) wl_L_74 wt_L_at wn_L wc_L_at (by decide +kernel) ⟨rfl, rfl, by decide, by decide⟩ TR_bl (fun _ _ _ => trivial) rfl rfl (by simp [Value.category]) ⟨by show _ ≤ 5; omega, by show _ ≤ 64; omega⟩ dL_act_157 ?_
            obtain ⟨kv, hkv, ekv⟩ : ∃ kv, kv < 4 ∧ ux (ax >>> (nI 6 &&& 31)) % 4 = kv := ⟨_, Nat.mod_lt _ (by decide), rfl⟩
            rw [ekv]
            refine g_iast C hK hP hD hS 0 0 rfl rfl (by omega) (by decide) dL_act_160 (fun H locs hP hD hS => ?_)
            have hP : va_P (dC, dI) vwCl (PW cI cJ t (upd x1 p (nI kv)) (x2) (x3) (x4) ++ (WY cI w v :: BW cI cL o sa ba a e tt n len (svg sv) tx (nI yn) d (q_rw d 0) ps sv)) H := hP
            have hD : va_D A (PW cI cJ t (upd x1 p (nI kv)) (x2) (x3) (x4) ++ (WY cI w v :: BW cI cL o sa ba a e tt n len (svg sv) tx (nI yn) d (q_rw d 0) ps sv)) := hD
            refine g_aload0 C dL_act_161 ?_
            refine g_iload9 C dL_act_162 ?_
            refine g_aload4 C dL_act_164 ?_
            refine g_iload9 C dL_act_166 ?_
            refine g_iald C hK hP 0 0 rfl rfl (by omega) (by decide) dL_act_168 ?_
            refine g_top pk_us ?_
            refine g_xM (A1 := fun q => q ∈ (BW cI cL o sa ba a e tt n len (svg sv) tx (nI yn) d (q_rw d 0) ps sv).map Prod.fst) C 2 rfl (n_lay hls hn6 (by omega) hp (by omega) (by omega) h4 h5) wl_L_119 wi_X2_lay wv_X2_lay wc_X2_lay (by decide +kernel) ⟨by decide, by decide⟩ BDM_bl (va_recv (ci := 2) (q0 := 0) hK (tw_b hP) rfl rfl) (BDM_at hK (tw_b hP) (tw_d hD).1 hZ hX hS (tw_d hD).2) rfl rfl (by simp [Value.category]) ⟨by show _ ≤ 5; omega, by show _ ≤ 64; omega⟩ hS (tw_d hD).2 dL_act_169 (fun H locs hB hk9 hS => ?_)
            obtain ⟨hP, hD⟩ := tw_put hP hD hB hk9
            refine g_iload13 C dL_act_172 ?_
            refine g_icmp_ne C 181 dL_act_174 (by decide) (fun h174 => ?_) (fun h174 => ?_)
            · exact (h174 (rd_all hkg hp h4 h5)).elim
            · refine g_iconst C (nI 1) (by decide) dL_act_177 ?_
              refine g_goto C 182 dL_act_178 (by decide) ?_
              refine g_wd (k := 5) (n := 64) (by omega) (by omega) ?_
              exact g_zretM C (acp_mk hP hD (up_lay hk (by omega) hp (by omega) (by omega) h4 h5) (by omega) (by omega) (by omega) ((hub.cong (q_up_ne _ (by decide) _ _) (q_up_ne _ (by decide) _ _)).mono (by omega))) hS (bI_t trivial) dL_act_182
          · refine g_iconst C (nI 1) (by decide) dL_act_139 ?_
            refine g_wd (k := 5) (n := 64) (by omega) (by omega) ?_
            exact g_zretM C (acp_mk hP hD (hk) (by omega) (by omega) (by omega) (hub.mono (by omega))) hS (bI_t trivial) dL_act_140

set_option maxHeartbeats 4000000 in
set_option maxRecDepth 100000 in
theorem c_L_act_pass {l : Launch} {dC : Nat → ClassId} {dI : Nat → Nat → Nat} {cI cL cJ : ClassId} {g1 g2 : Nat} {A : Nat → Prop} {t : Nat → Nat} {x1 x3 x4 : Nat → Int32} {x2 : Nat → Int64} {d : RW} {yn : Nat} (hk : PKI d yn x1 x2 x3 x4) (hyn : yn ≤ 1900) {o sa ba a e : Nat} {tt : Nat → Nat} {n len : Nat} {tx : Nat → Int32} {ps : PS} {sv : Nat → LO} (hls : l.stackTraces = false) {ax ay : Int32} {ac ub : Nat} (hn1 : 1 ≤ n) (hn6 : n ≤ 6) (hub : PKU d ub) (hyu : yn ≤ ub) (hub4 : ub ≤ 10000) (hac : 3 ≤ ac ∧ ac < 5) : Met l yL_act (.code yL_act method_24_code 16 (some .boolean) :: WG) (rmC 9 5 64) (va_Pc [.ref o, .int (nI ac), .int ax, .int ay, .ref (t 0), .ref (t 1), .ref (t 2), .ref (t 3)] (TLN dC dI cI cL cJ g1 g2 A (PW cI cJ t x1 x2 x3 x4 ++ BW cI cL o sa ba a e tt n len (svg sv) tx (nI yn) d (q_rw d 0) ps sv))) (bq_M (some (.int (bI True))) (ACP dC dI cI cL cJ A o sa ba a e tt t len tx ps ub yn) A) 5 64 (A) := by
  refine bq_of [some (.ref o), some (.int (nI ac)), some (.int ax), some (.int ay), some (.ref (t 0)), some (.ref (t 1)), some (.ref (t 2)), some (.ref (t 3)), none, none, none, none, none, none, none, none] rfl rfl (Nat.le_of_ble_eq_true rfl) (by decide) ?_
  intro P_ E_ s M_ B_ T_ K_ C hv
  obtain ⟨⟨hP, hD, hK, hZ, hX⟩, hAA⟩ := hv
  have hS : va_S A s.heap s.heap [] := va_S.rf
  have hki := hk.1
  have hkg := hk.2.1
  have hkb := hk.2.2.1
  have hke := hk.2.2.2.1
  have hkf := hk.2.2.2.2
  refine g_iload2 C dL_act_0 ?_
  refine g_iconst C (nI 4) (by decide) dL_act_1 ?_
  refine g_pkS C 2 rfl (c_L_at (by first | decide | (split <;> omega)) (by first | decide | (split <;> omega))) wl_L_74 wt_L_at wn_L wc_L_at (by decide +kernel) ⟨rfl, rfl, by decide, by decide⟩ TR_bl (fun _ _ _ => trivial) rfl rfl (by simp [Value.category]) ⟨by show _ ≤ 5; omega, by show _ ≤ 64; omega⟩ dL_act_2 ?_
  obtain ⟨f0, hf0, ef0⟩ : ∃ f0, f0 < 4 ∧ ux ax % 4 = f0 := ⟨_, Nat.mod_lt _ (by decide), rfl⟩
  rw [ef0]
  refine g_iload3 C dL_act_5 ?_
  refine g_bipush C (nI 9) (by decide) dL_act_6 ?_
  refine g_ishr C dL_act_8 ?_
  refine g_iconst C (nI 3) (by decide) dL_act_9 ?_
  refine g_pkS C 2 rfl (c_L_at (by first | decide | (split <;> omega)) (by first | decide | (split <;> omega))) wl_L_74 wt_L_at wn_L wc_L_at (by decide +kernel) ⟨rfl, rfl, by decide, by decide⟩ TR_bl (fun _ _ _ => trivial) rfl rfl (by simp [Value.category]) ⟨by show _ ≤ 5; omega, by show _ ≤ 64; omega⟩ dL_act_10 ?_
  obtain ⟨z1, hz1, ez1⟩ : ∃ z1, z1 < 3 ∧ ux (ay >>> (nI 9 &&& 31)) % 3 = z1 := ⟨_, Nat.mod_lt _ (by decide), rfl⟩
  rw [ez1]
  refine g_d1 (v := nI (if z1 = 0 then 6 else 0)) 22 (fun K13 => ?_) ?_
  · skip
    refine g_if_neN C (by omega) 21 dL_act_13 (by decide) (fun h13 => ?_) (fun h13 => ?_)
    · refine g_iconst C (nI 0) (by decide) dL_act_21 ?_
      exact K13 _ (by rw [if_neg h13])
    · refine g_bipush C (nI 6) (by decide) dL_act_16 ?_
      refine g_goto C 22 dL_act_18 (by decide) ?_
      exact K13 _ (by rw [if_pos h13])
  refine g_iaddN C dL_act_22 ?_
  obtain ⟨f, hf, ef⟩ : ∃ f, f < 10 ∧ f0 + (if z1 = 0 then 6 else 0) = f := ⟨_, by split <;> omega, rfl⟩
  rw [ef]
  refine g_istore8 C rfl dL_act_23 ?_
  refine g_iload3 C dL_act_25 ?_
  refine g_iload2 C dL_act_26 ?_
  refine g_iconst C (nI 3) (by decide) dL_act_27 ?_
  refine g_ishr C dL_act_28 ?_
  refine g_iconst C (nI 4) (by decide) dL_act_29 ?_
  refine g_pkS C 2 rfl (c_L_at (by first | decide | (split <;> omega)) (by first | decide | (split <;> omega))) wl_L_74 wt_L_at wn_L wc_L_at (by decide +kernel) ⟨rfl, rfl, by decide, by decide⟩ TR_bl (fun _ _ _ => trivial) rfl rfl (by simp [Value.category]) ⟨by show _ ≤ 5; omega, by show _ ≤ 64; omega⟩ dL_act_30 ?_
  obtain ⟨z2, hz2, ez2⟩ : ∃ z2, z2 < 4 ∧ ux (ax >>> (nI 3 &&& 31)) % 4 = z2 := ⟨_, Nat.mod_lt _ (by decide), rfl⟩
  rw [ez2]
  refine g_d1 (v := nI (if z2 = 0 then 40 else 12)) 43 (fun K33 => ?_) ?_
  · skip
    refine g_if_neN C (by omega) 41 dL_act_33 (by decide) (fun h33 => ?_) (fun h33 => ?_)
    · refine g_bipush C (nI 12) (by decide) dL_act_41 ?_
      exact K33 _ (by rw [if_neg h33])
    · refine g_bipush C (nI 40) (by decide) dL_act_36 ?_
      refine g_goto C 43 dL_act_38 (by decide) ?_
      exact K33 _ (by rw [if_pos h33])
  refine g_pkS C 2 rfl (c_L_at (by first | decide | (split <;> omega)) (by first | decide | (split <;> omega))) wl_L_74 wt_L_at wn_L wc_L_at (by decide +kernel) ⟨rfl, rfl, by decide, by decide⟩ TR_bl (fun _ _ _ => trivial) rfl rfl (by simp [Value.category]) ⟨by show _ ≤ 5; omega, by show _ ≤ 64; omega⟩ dL_act_43 ?_
  obtain ⟨p, hp, ep⟩ : ∃ p, p < 40 ∧ ux ay % (if z2 = 0 then 40 else 12) = p := ⟨_, by split <;> omega, rfl⟩
  rw [ep]
  refine g_istore9 C rfl dL_act_46 ?_
  refine g_iload9 C dL_act_48 ?_
  refine g_aload7 C dL_act_50 ?_
  refine g_bipush C (nI 30) (by decide) dL_act_52 ?_
  refine g_iald C hK hP 3 0 rfl rfl (by omega) (by decide) dL_act_54 ?_
  refine g_top hkf.1 ?_
  refine g_aload4 C dL_act_55 ?_
  refine g_aload5 C dL_act_57 ?_
  refine g_pkS C 4 rfl (c_L_holder hk (by omega) (by omega)) wl_L_46 wt_L_holder wn_L wc_L_holder (by decide +kernel) ⟨rfl, rfl, by decide, by decide⟩ PKR_bl (PKR_at hK (P_l hP)) rfl rfl (by simp [Value.category]) ⟨by show _ ≤ 5; omega, by show _ ≤ 64; omega⟩ dL_act_59 ?_
  refine g_istore10 C rfl dL_act_62 ?_
  refine g_iload10 C dL_act_64 ?_
  refine g_d1 (v := bI (q_oth (q_hold d (nI yn) p) (nI f))) 81 (fun K66 => ?_) ?_
  · skip
    refine g_if_lt C 80 dL_act_66 (by decide) (fun h66 => ?_) (fun h66 => ?_)
    · refine g_iconst C (nI 0) (by decide) dL_act_80 ?_
      exact K66 _ (bI_f (fun z => z.1 ((sgn2 (hold_sg hk hp _)).mp h66)))
    · refine g_iload10 C dL_act_69 ?_
      refine g_iload8 C dL_act_71 ?_
      refine g_icmp_eq C 80 dL_act_73 (by decide) (fun h73 => ?_) (fun h73 => ?_)
      · refine g_iconst C (nI 0) (by decide) dL_act_80 ?_
        exact K66 _ (bI_f (fun z => z.2 h73))
      · refine g_iconst C (nI 1) (by decide) dL_act_76 ?_
        refine g_goto C 81 dL_act_77 (by decide) ?_
        exact K66 _ (bI_t ⟨fun z => h66 ((sgn2 (hold_sg hk hp _)).mpr z), h73⟩)
  refine g_istore11 C rfl dL_act_81 ?_
  refine g_bipush C (nI 40) (by decide) dL_act_83 ?_
  refine g_newa C hK hP hD hS hAA (by decide) (by decide) (by show _ ≤ 5; omega) (by show _ ≤ 64; omega) dL_act_85 (fun w H hP hD hS => ?_)
  have hP := P_perm tn_perm hP
  have hD := D_perm tn_perm hD
  refine g_astore12 C rfl dL_act_87 ?_
  refine g_iconst C (-1) (by decide) dL_act_89 ?_
  refine g_aload4 C dL_act_90 ?_
  refine g_aload5 C dL_act_92 ?_
  refine g_aload12 C dL_act_94 ?_
  refine g_mS C 4 rfl (c_L_spread hk (b := -1)) wl_L_70 wt_L_spread wn_L wc_L_spread (by decide +kernel) ⟨rfl, rfl, by decide, by decide⟩ SPM_bl (SPM_at hK (tw_w hP) (tw_dw hD).1) rfl rfl (by simp [Value.category]) ⟨by show _ ≤ 5; omega, by show _ ≤ 64; omega⟩ hS (fun q _ hq => (tw_dw hD).2 q hq) (fun q hq => (tw_dw hD).2 q hq) dL_act_96 (fun H locs hV _ hk9 hS => ?_)
  obtain ⟨v, hV, hvr⟩ := hV
  obtain ⟨hP, hD⟩ := tw_jn hP hD hV hk9
  have hwr : ∀ q, q < 40 → q_wr v q = q_rc d q := fun q hq => q_wr_rc hvr hq
  refine g_iload1 C dL_act_99 ?_
  refine g_iconst C (nI 3) (by decide) dL_act_100 ?_
  refine g_icmp_geN C (by omega) (by omega) 183 dL_act_101 (by decide) (fun h101 => ?_) (fun h101 => ?_)
  · refine g_iload1 C dL_act_183 ?_
    refine g_iconst C (nI 5) (by decide) dL_act_184 ?_
    refine g_icmp_geN C (by omega) (by omega) 257 dL_act_185 (by decide) (fun h185 => ?_) (fun h185 => ?_)
    · exfalso; omega
    · refine g_iconst C (nI 1) (by decide) dL_act_188 ?_
      refine g_iload3 C dL_act_189 ?_
      refine g_iload1 C dL_act_190 ?_
      refine g_iconst C (nI 3) (by decide) dL_act_191 ?_
      refine g_d2 (v := nI (if ac = 3 then 4 else 40)) 201 (fun K192 => ?_) ?_
      · skip
        refine g_icmp_neN C (by omega) (by omega) 199 dL_act_192 (by decide) (fun h192 => ?_) (fun h192 => ?_)
        · refine g_bipush C (nI 40) (by decide) dL_act_199 ?_
          exact K192 _ (by rw [if_neg h192])
        · refine g_iconst C (nI 4) (by decide) dL_act_195 ?_
          refine g_goto C 201 dL_act_196 (by decide) ?_
          exact K192 _ (by rw [if_pos h192])
      refine g_pkS C 2 rfl (c_L_at (by first | decide | (split <;> omega)) (by first | decide | (split <;> omega))) wl_L_74 wt_L_at wn_L wc_L_at (by decide +kernel) ⟨rfl, rfl, by decide, by decide⟩ TR_bl (fun _ _ _ => trivial) rfl rfl (by simp [Value.category]) ⟨by show _ ≤ 5; omega, by show _ ≤ 64; omega⟩ dL_act_201 ?_
      obtain ⟨z, hz, ez⟩ : ∃ z, z < 40 ∧ ux ay % (if ac = 3 then 4 else 40) = z := ⟨_, by split <;> omega, rfl⟩
      rw [ez]
      refine g_iaddN C dL_act_204 ?_
      refine g_istore13 C rfl dL_act_205 ?_
      refine g_aload7 C dL_act_207 ?_
      refine g_bipush C (nI 30) (by decide) dL_act_209 ?_
      refine g_iald C hK hP 3 0 rfl rfl (by omega) (by decide) dL_act_211 ?_
      refine g_top hkf.1 ?_
      refine g_aload4 C dL_act_212 ?_
      refine g_pkS C 2 rfl (c_L_lapsed hk) wl_L_122 wt_L_lapsed wn_L wc_L_lapsed (by decide +kernel) ⟨rfl, rfl, by decide, by decide⟩ PKR_bl (PKR_at hK (P_l hP)) rfl rfl (by simp [Value.category]) ⟨by show _ ≤ 5; omega, by show _ ≤ 64; omega⟩ dL_act_214 ?_
      refine g_istore14 C rfl dL_act_217 ?_
      refine g_aload7 C dL_act_219 ?_
      refine g_bipush C (nI 30) (by decide) dL_act_221 ?_
      refine g_dup2 C rfl rfl dL_act_223 ?_
      refine g_iald C hK hP 3 0 rfl rfl (by omega) (by decide) dL_act_224 ?_
      refine g_top hkf.1 ?_
      refine g_iload13 C dL_act_225 ?_
      refine g_iaddN C dL_act_227 ?_
      refine g_iast C hK hP hD hS 3 0 rfl rfl (by omega) (by decide) dL_act_228 (fun H locs hP hD hS => ?_)
      have hP : va_P (dC, dI) vwCl (PW cI cJ t (x1) (x2) (x3) (upd x4 30 (nI (yn + (1 + z)))) ++ (WY cI w v :: BW cI cL o sa ba a e tt n len (svg sv) tx (nI yn) d (q_rw d 0) ps sv)) H := hP
      have hD : va_D A (PW cI cJ t (x1) (x2) (x3) (upd x4 30 (nI (yn + (1 + z)))) ++ (WY cI w v :: BW cI cL o sa ba a e tt n len (svg sv) tx (nI yn) d (q_rw d 0) ps sv)) := hD
      refine g_aload0 C dL_act_229 ?_
      refine g_iload13 C dL_act_230 ?_
      refine g_xM (A1 := fun q => q ∈ (BW cI cL o sa ba a e tt n len (svg sv) tx (nI yn) d (q_rw d 0) ps sv).map Prod.fst) C 1 rfl (n_pass hls hn6 (v := 1 + z) (by omega) (by omega) (by omega)) wl_L_126 wi_X2_pass wv_X2_pass wc_X2_pass (by decide +kernel) ⟨by decide, by decide⟩ BDM_bl (va_recv (ci := 2) (q0 := 0) hK (tw_b hP) rfl rfl) (BDM_at hK (tw_b hP) (tw_d hD).1 hZ hX hS (tw_d hD).2) rfl rfl (by simp [Value.category]) ⟨by show _ ≤ 5; omega, by show _ ≤ 64; omega⟩ hS (tw_d hD).2 dL_act_232 (fun H locs hB hk9 hS => ?_)
      obtain ⟨hP, hD⟩ := tw_put hP hD hB hk9
      have hk2 := up_pass (v := 1 + z) hk
      refine g_aload7 C dL_act_235 ?_
      refine g_bipush C (nI 30) (by decide) dL_act_237 ?_
      refine g_iald C hK hP 3 0 rfl rfl (by omega) (by decide) dL_act_239 ?_
      refine g_top pk_us ?_
      refine g_aload4 C dL_act_240 ?_
      refine g_pkS C 2 rfl (c_L_lapsed hk2 (u := yn + (1 + z))) wl_L_122 wt_L_lapsed wn_L wc_L_lapsed (by decide +kernel) ⟨rfl, rfl, by decide, by decide⟩ PKR_bl (PKR_at hK (P_l hP)) rfl rfl (by simp [Value.category]) ⟨by show _ ≤ 5; omega, by show _ ≤ 64; omega⟩ dL_act_242 ?_
      refine g_iload14 C dL_act_245 ?_
      refine g_isub C dL_act_247 ?_
      refine g_icmp_ne C 255 dL_act_248 (by decide) (fun h248 => ?_) (fun h248 => ?_)
      · exact (h248 pass_eq).elim
      · refine g_iconst C (nI 1) (by decide) dL_act_251 ?_
        refine g_goto C 256 dL_act_252 (by decide) ?_
        refine g_wd (k := 5) (n := 64) (by omega) (by omega) ?_
        exact g_zretM C (acp_mk hP hD (hk2) (by omega) (by omega) (by omega) (hub.mono (by omega))) hS (bI_t trivial) dL_act_256
  · exfalso; omega

set_option maxHeartbeats 4000000 in
set_option maxRecDepth 100000 in
theorem c_L_act_par {l : Launch} {dC : Nat → ClassId} {dI : Nat → Nat → Nat} {cI cL cJ : ClassId} {g1 g2 : Nat} {A : Nat → Prop} {t : Nat → Nat} {x1 x3 x4 : Nat → Int32} {x2 : Nat → Int64} {d : RW} {yn : Nat} (hk : PKI d yn x1 x2 x3 x4) (hyn : yn ≤ 1900) {o sa ba a e : Nat} {tt : Nat → Nat} {n len : Nat} {tx : Nat → Int32} {ps : PS} {sv : Nat → LO} (hls : l.stackTraces = false) {ax ay : Int32} {ac ub : Nat} (hn1 : 1 ≤ n) (hn6 : n ≤ 6) (hub : PKU d ub) (hyu : yn ≤ ub) (hub4 : ub ≤ 10000) (hac : ac = 5) : Met l yL_act (.code yL_act method_24_code 16 (some .boolean) :: WG) (rmC 9 5 64) (va_Pc [.ref o, .int (nI ac), .int ax, .int ay, .ref (t 0), .ref (t 1), .ref (t 2), .ref (t 3)] (TLN dC dI cI cL cJ g1 g2 A (PW cI cJ t x1 x2 x3 x4 ++ BW cI cL o sa ba a e tt n len (svg sv) tx (nI yn) d (q_rw d 0) ps sv))) (bq_M (some (.int (bI True))) (ACP dC dI cI cL cJ A o sa ba a e tt t len tx ps ub yn) A) 5 64 (A) := by
  refine bq_of [some (.ref o), some (.int (nI ac)), some (.int ax), some (.int ay), some (.ref (t 0)), some (.ref (t 1)), some (.ref (t 2)), some (.ref (t 3)), none, none, none, none, none, none, none, none] rfl rfl (Nat.le_of_ble_eq_true rfl) (by decide) ?_
  intro P_ E_ s M_ B_ T_ K_ C hv
  obtain ⟨⟨hP, hD, hK, hZ, hX⟩, hAA⟩ := hv
  have hS : va_S A s.heap s.heap [] := va_S.rf
  have hki := hk.1
  have hkg := hk.2.1
  have hkb := hk.2.2.1
  have hke := hk.2.2.2.1
  have hkf := hk.2.2.2.2
  refine g_iload2 C dL_act_0 ?_
  refine g_iconst C (nI 4) (by decide) dL_act_1 ?_
  refine g_pkS C 2 rfl (c_L_at (by first | decide | (split <;> omega)) (by first | decide | (split <;> omega))) wl_L_74 wt_L_at wn_L wc_L_at (by decide +kernel) ⟨rfl, rfl, by decide, by decide⟩ TR_bl (fun _ _ _ => trivial) rfl rfl (by simp [Value.category]) ⟨by show _ ≤ 5; omega, by show _ ≤ 64; omega⟩ dL_act_2 ?_
  obtain ⟨f0, hf0, ef0⟩ : ∃ f0, f0 < 4 ∧ ux ax % 4 = f0 := ⟨_, Nat.mod_lt _ (by decide), rfl⟩
  rw [ef0]
  refine g_iload3 C dL_act_5 ?_
  refine g_bipush C (nI 9) (by decide) dL_act_6 ?_
  refine g_ishr C dL_act_8 ?_
  refine g_iconst C (nI 3) (by decide) dL_act_9 ?_
  refine g_pkS C 2 rfl (c_L_at (by first | decide | (split <;> omega)) (by first | decide | (split <;> omega))) wl_L_74 wt_L_at wn_L wc_L_at (by decide +kernel) ⟨rfl, rfl, by decide, by decide⟩ TR_bl (fun _ _ _ => trivial) rfl rfl (by simp [Value.category]) ⟨by show _ ≤ 5; omega, by show _ ≤ 64; omega⟩ dL_act_10 ?_
  obtain ⟨z1, hz1, ez1⟩ : ∃ z1, z1 < 3 ∧ ux (ay >>> (nI 9 &&& 31)) % 3 = z1 := ⟨_, Nat.mod_lt _ (by decide), rfl⟩
  rw [ez1]
  refine g_d1 (v := nI (if z1 = 0 then 6 else 0)) 22 (fun K13 => ?_) ?_
  · skip
    refine g_if_neN C (by omega) 21 dL_act_13 (by decide) (fun h13 => ?_) (fun h13 => ?_)
    · refine g_iconst C (nI 0) (by decide) dL_act_21 ?_
      exact K13 _ (by rw [if_neg h13])
    · refine g_bipush C (nI 6) (by decide) dL_act_16 ?_
      refine g_goto C 22 dL_act_18 (by decide) ?_
      exact K13 _ (by rw [if_pos h13])
  refine g_iaddN C dL_act_22 ?_
  obtain ⟨f, hf, ef⟩ : ∃ f, f < 10 ∧ f0 + (if z1 = 0 then 6 else 0) = f := ⟨_, by split <;> omega, rfl⟩
  rw [ef]
  refine g_istore8 C rfl dL_act_23 ?_
  refine g_iload3 C dL_act_25 ?_
  refine g_iload2 C dL_act_26 ?_
  refine g_iconst C (nI 3) (by decide) dL_act_27 ?_
  refine g_ishr C dL_act_28 ?_
  refine g_iconst C (nI 4) (by decide) dL_act_29 ?_
  refine g_pkS C 2 rfl (c_L_at (by first | decide | (split <;> omega)) (by first | decide | (split <;> omega))) wl_L_74 wt_L_at wn_L wc_L_at (by decide +kernel) ⟨rfl, rfl, by decide, by decide⟩ TR_bl (fun _ _ _ => trivial) rfl rfl (by simp [Value.category]) ⟨by show _ ≤ 5; omega, by show _ ≤ 64; omega⟩ dL_act_30 ?_
  obtain ⟨z2, hz2, ez2⟩ : ∃ z2, z2 < 4 ∧ ux (ax >>> (nI 3 &&& 31)) % 4 = z2 := ⟨_, Nat.mod_lt _ (by decide), rfl⟩
  rw [ez2]
  refine g_d1 (v := nI (if z2 = 0 then 40 else 12)) 43 (fun K33 => ?_) ?_
  · skip
    refine g_if_neN C (by omega) 41 dL_act_33 (by decide) (fun h33 => ?_) (fun h33 => ?_)
    · refine g_bipush C (nI 12) (by decide) dL_act_41 ?_
      exact K33 _ (by rw [if_neg h33])
    · refine g_bipush C (nI 40) (by decide) dL_act_36 ?_
      refine g_goto C 43 dL_act_38 (by decide) ?_
      exact K33 _ (by rw [if_pos h33])
  refine g_pkS C 2 rfl (c_L_at (by first | decide | (split <;> omega)) (by first | decide | (split <;> omega))) wl_L_74 wt_L_at wn_L wc_L_at (by decide +kernel) ⟨rfl, rfl, by decide, by decide⟩ TR_bl (fun _ _ _ => trivial) rfl rfl (by simp [Value.category]) ⟨by show _ ≤ 5; omega, by show _ ≤ 64; omega⟩ dL_act_43 ?_
  obtain ⟨p, hp, ep⟩ : ∃ p, p < 40 ∧ ux ay % (if z2 = 0 then 40 else 12) = p := ⟨_, by split <;> omega, rfl⟩
  rw [ep]
  refine g_istore9 C rfl dL_act_46 ?_
  refine g_iload9 C dL_act_48 ?_
  refine g_aload7 C dL_act_50 ?_
  refine g_bipush C (nI 30) (by decide) dL_act_52 ?_
  refine g_iald C hK hP 3 0 rfl rfl (by omega) (by decide) dL_act_54 ?_
  refine g_top hkf.1 ?_
  refine g_aload4 C dL_act_55 ?_
  refine g_aload5 C dL_act_57 ?_
  refine g_pkS C 4 rfl (c_L_holder hk (by omega) (by omega)) wl_L_46 wt_L_holder wn_L wc_L_holder (by decide +kernel) ⟨rfl, rfl, by decide, by decide⟩ PKR_bl (PKR_at hK (P_l hP)) rfl rfl (by simp [Value.category]) ⟨by show _ ≤ 5; omega, by show _ ≤ 64; omega⟩ dL_act_59 ?_
  refine g_istore10 C rfl dL_act_62 ?_
  refine g_iload10 C dL_act_64 ?_
  refine g_d1 (v := bI (q_oth (q_hold d (nI yn) p) (nI f))) 81 (fun K66 => ?_) ?_
  · skip
    refine g_if_lt C 80 dL_act_66 (by decide) (fun h66 => ?_) (fun h66 => ?_)
    · refine g_iconst C (nI 0) (by decide) dL_act_80 ?_
      exact K66 _ (bI_f (fun z => z.1 ((sgn2 (hold_sg hk hp _)).mp h66)))
    · refine g_iload10 C dL_act_69 ?_
      refine g_iload8 C dL_act_71 ?_
      refine g_icmp_eq C 80 dL_act_73 (by decide) (fun h73 => ?_) (fun h73 => ?_)
      · refine g_iconst C (nI 0) (by decide) dL_act_80 ?_
        exact K66 _ (bI_f (fun z => z.2 h73))
      · refine g_iconst C (nI 1) (by decide) dL_act_76 ?_
        refine g_goto C 81 dL_act_77 (by decide) ?_
        exact K66 _ (bI_t ⟨fun z => h66 ((sgn2 (hold_sg hk hp _)).mpr z), h73⟩)
  refine g_istore11 C rfl dL_act_81 ?_
  refine g_bipush C (nI 40) (by decide) dL_act_83 ?_
  refine g_newa C hK hP hD hS hAA (by decide) (by decide) (by show _ ≤ 5; omega) (by show _ ≤ 64; omega) dL_act_85 (fun w H hP hD hS => ?_)
  have hP := P_perm tn_perm hP
  have hD := D_perm tn_perm hD
  refine g_astore12 C rfl dL_act_87 ?_
  refine g_iconst C (-1) (by decide) dL_act_89 ?_
  refine g_aload4 C dL_act_90 ?_
  refine g_aload5 C dL_act_92 ?_
  refine g_aload12 C dL_act_94 ?_
  refine g_mS C 4 rfl (c_L_spread hk (b := -1)) wl_L_70 wt_L_spread wn_L wc_L_spread (by decide +kernel) ⟨rfl, rfl, by decide, by decide⟩ SPM_bl (SPM_at hK (tw_w hP) (tw_dw hD).1) rfl rfl (by simp [Value.category]) ⟨by show _ ≤ 5; omega, by show _ ≤ 64; omega⟩ hS (fun q _ hq => (tw_dw hD).2 q hq) (fun q hq => (tw_dw hD).2 q hq) dL_act_96 (fun H locs hV _ hk9 hS => ?_)
  obtain ⟨v, hV, hvr⟩ := hV
  obtain ⟨hP, hD⟩ := tw_jn hP hD hV hk9
  have hwr : ∀ q, q < 40 → q_wr v q = q_rc d q := fun q hq => q_wr_rc hvr hq
  refine g_iload1 C dL_act_99 ?_
  refine g_iconst C (nI 3) (by decide) dL_act_100 ?_
  refine g_icmp_geN C (by omega) (by omega) 183 dL_act_101 (by decide) (fun h101 => ?_) (fun h101 => ?_)
  · refine g_iload1 C dL_act_183 ?_
    refine g_iconst C (nI 5) (by decide) dL_act_184 ?_
    refine g_icmp_geN C (by omega) (by omega) 257 dL_act_185 (by decide) (fun h185 => ?_) (fun h185 => ?_)
    · refine g_iload1 C dL_act_257 ?_
      refine g_iconst C (nI 5) (by decide) dL_act_258 ?_
      refine g_icmp_neN C (by omega) (by omega) 312 dL_act_259 (by decide) (fun h259 => ?_) (fun h259 => ?_)
      · exfalso; omega
      · refine g_aload7 C dL_act_262 ?_
        refine g_iload8 C dL_act_264 ?_
        refine g_iald C hK hP 3 0 rfl rfl (by omega) (by decide) dL_act_266 ?_
        refine g_istore13 C rfl dL_act_267 ?_
        refine g_aload7 C dL_act_269 ?_
        refine g_iload8 C dL_act_271 ?_
        refine g_iload3 C dL_act_273 ?_
        refine g_iconst C (nI 4) (by decide) dL_act_274 ?_
        refine g_ishr C dL_act_275 ?_
        refine g_iconst C (nI 2) (by decide) dL_act_276 ?_
        refine g_pkS C 2 rfl (c_L_at (by first | decide | (split <;> omega)) (by first | decide | (split <;> omega))) wl_L_74 wt_L_at wn_L wc_L_at (by decide +kernel) ⟨rfl, rfl, by decide, by decide⟩ TR_bl (fun _ _ _ => trivial) rfl rfl (by simp [Value.category]) ⟨by show _ ≤ 5; omega, by show _ ≤ 64; omega⟩ dL_act_277 ?_
        obtain ⟨z, hz, ez⟩ : ∃ z, z < 2 ∧ ux (ay >>> (nI 4 &&& 31)) % 2 = z := ⟨_, Nat.mod_lt _ (by decide), rfl⟩
        rw [ez]
        refine g_iast C hK hP hD hS 3 0 rfl rfl (by omega) (by decide) dL_act_280 (fun H locs hP hD hS => ?_)
        have hP : va_P (dC, dI) vwCl (PW cI cJ t (x1) (x2) (x3) (upd x4 f (nI z)) ++ (WY cI w v :: BW cI cL o sa ba a e tt n len (svg sv) tx (nI yn) d (q_rw d 0) ps sv)) H := hP
        have hD : va_D A (PW cI cJ t (x1) (x2) (x3) (upd x4 f (nI z)) ++ (WY cI w v :: BW cI cL o sa ba a e tt n len (svg sv) tx (nI yn) d (q_rw d 0) ps sv)) := hD
        refine g_aload0 C dL_act_281 ?_
        refine g_iload8 C dL_act_282 ?_
        refine g_aload7 C dL_act_284 ?_
        refine g_iload8 C dL_act_286 ?_
        refine g_iald C hK hP 3 0 rfl rfl (by omega) (by decide) dL_act_288 ?_
        refine g_top pk_us ?_
        refine g_iconst C (nI 1) (by decide) dL_act_289 ?_
        refine g_d2 (v := bI (z = 1)) 298 (fun K290 => ?_) ?_
        · skip
          refine g_icmp_neN C (by omega) (by omega) 297 dL_act_290 (by decide) (fun h290 => ?_) (fun h290 => ?_)
          · refine g_iconst C (nI 0) (by decide) dL_act_297 ?_
            exact K290 _ (bI_f h290)
          · refine g_iconst C (nI 1) (by decide) dL_act_293 ?_
            refine g_goto C 298 dL_act_294 (by decide) ?_
            exact K290 _ (bI_t h290)
        refine g_xM (A1 := fun q => q ∈ (BW cI cL o sa ba a e tt n len (svg sv) tx (nI yn) d (q_rw d 0) ps sv).map Prod.fst) C 2 rfl (n_setParish hls hn6 hf) wl_L_129 wi_X2_setParish wv_X2_setParish wc_X2_setParish (by decide +kernel) ⟨by decide, by decide⟩ BDM_bl (va_recv (ci := 2) (q0 := 0) hK (tw_b hP) rfl rfl) (BDM_at hK (tw_b hP) (tw_d hD).1 hZ hX hS (tw_d hD).2) rfl rfl (by simp [Value.category]) ⟨by show _ ≤ 5; omega, by show _ ≤ 64; omega⟩ hS (tw_d hD).2 dL_act_298 (fun H locs hB hk9 hS => ?_)
        obtain ⟨hP, hD⟩ := tw_put hP hD hB hk9
        refine g_iload13 C dL_act_301 ?_
        refine g_icmp_ne C 310 dL_act_303 (by decide) (fun h303 => ?_) (fun h303 => ?_)
        · exact (h303 (hkf.2 f hf).1.symm).elim
        · refine g_iconst C (nI 1) (by decide) dL_act_306 ?_
          refine g_goto C 311 dL_act_307 (by decide) ?_
          refine g_wd (k := 5) (n := 64) (by omega) (by omega) ?_
          exact g_zretM C (acp_mk hP hD (up_par hk hf hz) (by omega) (by omega) (by omega) ((hub.cong (q_up_ne _ (by decide) _ _) (q_up_ne _ (by decide) _ _)).mono (by omega))) hS (bI_t trivial) dL_act_311
    · exfalso; omega
  · exfalso; omega

set_option maxHeartbeats 4000000 in
set_option maxRecDepth 100000 in
theorem c_L_act_res {l : Launch} {dC : Nat → ClassId} {dI : Nat → Nat → Nat} {cI cL cJ : ClassId} {g1 g2 : Nat} {A : Nat → Prop} {t : Nat → Nat} {x1 x3 x4 : Nat → Int32} {x2 : Nat → Int64} {d : RW} {yn : Nat} (hk : PKI d yn x1 x2 x3 x4) (hyn : yn ≤ 1900) {o sa ba a e : Nat} {tt : Nat → Nat} {n len : Nat} {tx : Nat → Int32} {ps : PS} {sv : Nat → LO} (hls : l.stackTraces = false) {ax ay : Int32} {ac ub : Nat} (hn1 : 1 ≤ n) (hn6 : n ≤ 6) (hub : PKU d ub) (hyu : yn ≤ ub) (hub4 : ub ≤ 10000) (hac : 5 < ac ∧ ac < 8) : Met l yL_act (.code yL_act method_24_code 16 (some .boolean) :: WG) (rmC 9 5 64) (va_Pc [.ref o, .int (nI ac), .int ax, .int ay, .ref (t 0), .ref (t 1), .ref (t 2), .ref (t 3)] (TLN dC dI cI cL cJ g1 g2 A (PW cI cJ t x1 x2 x3 x4 ++ BW cI cL o sa ba a e tt n len (svg sv) tx (nI yn) d (q_rw d 0) ps sv))) (bq_M (some (.int (bI True))) (ACP dC dI cI cL cJ A o sa ba a e tt t len tx ps ub yn) A) 5 64 (A) := by
  refine bq_of [some (.ref o), some (.int (nI ac)), some (.int ax), some (.int ay), some (.ref (t 0)), some (.ref (t 1)), some (.ref (t 2)), some (.ref (t 3)), none, none, none, none, none, none, none, none] rfl rfl (Nat.le_of_ble_eq_true rfl) (by decide) ?_
  intro P_ E_ s M_ B_ T_ K_ C hv
  obtain ⟨⟨hP, hD, hK, hZ, hX⟩, hAA⟩ := hv
  have hS : va_S A s.heap s.heap [] := va_S.rf
  have hki := hk.1
  have hkg := hk.2.1
  have hkb := hk.2.2.1
  have hke := hk.2.2.2.1
  have hkf := hk.2.2.2.2
  refine g_iload2 C dL_act_0 ?_
  refine g_iconst C (nI 4) (by decide) dL_act_1 ?_
  refine g_pkS C 2 rfl (c_L_at (by first | decide | (split <;> omega)) (by first | decide | (split <;> omega))) wl_L_74 wt_L_at wn_L wc_L_at (by decide +kernel) ⟨rfl, rfl, by decide, by decide⟩ TR_bl (fun _ _ _ => trivial) rfl rfl (by simp [Value.category]) ⟨by show _ ≤ 5; omega, by show _ ≤ 64; omega⟩ dL_act_2 ?_
  obtain ⟨f0, hf0, ef0⟩ : ∃ f0, f0 < 4 ∧ ux ax % 4 = f0 := ⟨_, Nat.mod_lt _ (by decide), rfl⟩
  rw [ef0]
  refine g_iload3 C dL_act_5 ?_
  refine g_bipush C (nI 9) (by decide) dL_act_6 ?_
  refine g_ishr C dL_act_8 ?_
  refine g_iconst C (nI 3) (by decide) dL_act_9 ?_
  refine g_pkS C 2 rfl (c_L_at (by first | decide | (split <;> omega)) (by first | decide | (split <;> omega))) wl_L_74 wt_L_at wn_L wc_L_at (by decide +kernel) ⟨rfl, rfl, by decide, by decide⟩ TR_bl (fun _ _ _ => trivial) rfl rfl (by simp [Value.category]) ⟨by show _ ≤ 5; omega, by show _ ≤ 64; omega⟩ dL_act_10 ?_
  obtain ⟨z1, hz1, ez1⟩ : ∃ z1, z1 < 3 ∧ ux (ay >>> (nI 9 &&& 31)) % 3 = z1 := ⟨_, Nat.mod_lt _ (by decide), rfl⟩
  rw [ez1]
  refine g_d1 (v := nI (if z1 = 0 then 6 else 0)) 22 (fun K13 => ?_) ?_
  · skip
    refine g_if_neN C (by omega) 21 dL_act_13 (by decide) (fun h13 => ?_) (fun h13 => ?_)
    · refine g_iconst C (nI 0) (by decide) dL_act_21 ?_
      exact K13 _ (by rw [if_neg h13])
    · refine g_bipush C (nI 6) (by decide) dL_act_16 ?_
      refine g_goto C 22 dL_act_18 (by decide) ?_
      exact K13 _ (by rw [if_pos h13])
  refine g_iaddN C dL_act_22 ?_
  obtain ⟨f, hf, ef⟩ : ∃ f, f < 10 ∧ f0 + (if z1 = 0 then 6 else 0) = f := ⟨_, by split <;> omega, rfl⟩
  rw [ef]
  refine g_istore8 C rfl dL_act_23 ?_
  refine g_iload3 C dL_act_25 ?_
  refine g_iload2 C dL_act_26 ?_
  refine g_iconst C (nI 3) (by decide) dL_act_27 ?_
  refine g_ishr C dL_act_28 ?_
  refine g_iconst C (nI 4) (by decide) dL_act_29 ?_
  refine g_pkS C 2 rfl (c_L_at (by first | decide | (split <;> omega)) (by first | decide | (split <;> omega))) wl_L_74 wt_L_at wn_L wc_L_at (by decide +kernel) ⟨rfl, rfl, by decide, by decide⟩ TR_bl (fun _ _ _ => trivial) rfl rfl (by simp [Value.category]) ⟨by show _ ≤ 5; omega, by show _ ≤ 64; omega⟩ dL_act_30 ?_
  obtain ⟨z2, hz2, ez2⟩ : ∃ z2, z2 < 4 ∧ ux (ax >>> (nI 3 &&& 31)) % 4 = z2 := ⟨_, Nat.mod_lt _ (by decide), rfl⟩
  rw [ez2]
  refine g_d1 (v := nI (if z2 = 0 then 40 else 12)) 43 (fun K33 => ?_) ?_
  · skip
    refine g_if_neN C (by omega) 41 dL_act_33 (by decide) (fun h33 => ?_) (fun h33 => ?_)
    · refine g_bipush C (nI 12) (by decide) dL_act_41 ?_
      exact K33 _ (by rw [if_neg h33])
    · refine g_bipush C (nI 40) (by decide) dL_act_36 ?_
      refine g_goto C 43 dL_act_38 (by decide) ?_
      exact K33 _ (by rw [if_pos h33])
  refine g_pkS C 2 rfl (c_L_at (by first | decide | (split <;> omega)) (by first | decide | (split <;> omega))) wl_L_74 wt_L_at wn_L wc_L_at (by decide +kernel) ⟨rfl, rfl, by decide, by decide⟩ TR_bl (fun _ _ _ => trivial) rfl rfl (by simp [Value.category]) ⟨by show _ ≤ 5; omega, by show _ ≤ 64; omega⟩ dL_act_43 ?_
  obtain ⟨p, hp, ep⟩ : ∃ p, p < 40 ∧ ux ay % (if z2 = 0 then 40 else 12) = p := ⟨_, by split <;> omega, rfl⟩
  rw [ep]
  refine g_istore9 C rfl dL_act_46 ?_
  refine g_iload9 C dL_act_48 ?_
  refine g_aload7 C dL_act_50 ?_
  refine g_bipush C (nI 30) (by decide) dL_act_52 ?_
  refine g_iald C hK hP 3 0 rfl rfl (by omega) (by decide) dL_act_54 ?_
  refine g_top hkf.1 ?_
  refine g_aload4 C dL_act_55 ?_
  refine g_aload5 C dL_act_57 ?_
  refine g_pkS C 4 rfl (c_L_holder hk (by omega) (by omega)) wl_L_46 wt_L_holder wn_L wc_L_holder (by decide +kernel) ⟨rfl, rfl, by decide, by decide⟩ PKR_bl (PKR_at hK (P_l hP)) rfl rfl (by simp [Value.category]) ⟨by show _ ≤ 5; omega, by show _ ≤ 64; omega⟩ dL_act_59 ?_
  refine g_istore10 C rfl dL_act_62 ?_
  refine g_iload10 C dL_act_64 ?_
  refine g_d1 (v := bI (q_oth (q_hold d (nI yn) p) (nI f))) 81 (fun K66 => ?_) ?_
  · skip
    refine g_if_lt C 80 dL_act_66 (by decide) (fun h66 => ?_) (fun h66 => ?_)
    · refine g_iconst C (nI 0) (by decide) dL_act_80 ?_
      exact K66 _ (bI_f (fun z => z.1 ((sgn2 (hold_sg hk hp _)).mp h66)))
    · refine g_iload10 C dL_act_69 ?_
      refine g_iload8 C dL_act_71 ?_
      refine g_icmp_eq C 80 dL_act_73 (by decide) (fun h73 => ?_) (fun h73 => ?_)
      · refine g_iconst C (nI 0) (by decide) dL_act_80 ?_
        exact K66 _ (bI_f (fun z => z.2 h73))
      · refine g_iconst C (nI 1) (by decide) dL_act_76 ?_
        refine g_goto C 81 dL_act_77 (by decide) ?_
        exact K66 _ (bI_t ⟨fun z => h66 ((sgn2 (hold_sg hk hp _)).mpr z), h73⟩)
  refine g_istore11 C rfl dL_act_81 ?_
  refine g_bipush C (nI 40) (by decide) dL_act_83 ?_
  refine g_newa C hK hP hD hS hAA (by decide) (by decide) (by show _ ≤ 5; omega) (by show _ ≤ 64; omega) dL_act_85 (fun w H hP hD hS => ?_)
  have hP := P_perm tn_perm hP
  have hD := D_perm tn_perm hD
  refine g_astore12 C rfl dL_act_87 ?_
  refine g_iconst C (-1) (by decide) dL_act_89 ?_
  refine g_aload4 C dL_act_90 ?_
  refine g_aload5 C dL_act_92 ?_
  refine g_aload12 C dL_act_94 ?_
  refine g_mS C 4 rfl (c_L_spread hk (b := -1)) wl_L_70 wt_L_spread wn_L wc_L_spread (by decide +kernel) ⟨rfl, rfl, by decide, by decide⟩ SPM_bl (SPM_at hK (tw_w hP) (tw_dw hD).1) rfl rfl (by simp [Value.category]) ⟨by show _ ≤ 5; omega, by show _ ≤ 64; omega⟩ hS (fun q _ hq => (tw_dw hD).2 q hq) (fun q hq => (tw_dw hD).2 q hq) dL_act_96 (fun H locs hV _ hk9 hS => ?_)
  obtain ⟨v, hV, hvr⟩ := hV
  obtain ⟨hP, hD⟩ := tw_jn hP hD hV hk9
  have hwr : ∀ q, q < 40 → q_wr v q = q_rc d q := fun q hq => q_wr_rc hvr hq
  refine g_iload1 C dL_act_99 ?_
  refine g_iconst C (nI 3) (by decide) dL_act_100 ?_
  refine g_icmp_geN C (by omega) (by omega) 183 dL_act_101 (by decide) (fun h101 => ?_) (fun h101 => ?_)
  · refine g_iload1 C dL_act_183 ?_
    refine g_iconst C (nI 5) (by decide) dL_act_184 ?_
    refine g_icmp_geN C (by omega) (by omega) 257 dL_act_185 (by decide) (fun h185 => ?_) (fun h185 => ?_)
    · refine g_iload1 C dL_act_257 ?_
      refine g_iconst C (nI 5) (by decide) dL_act_258 ?_
      refine g_icmp_neN C (by omega) (by omega) 312 dL_act_259 (by decide) (fun h259 => ?_) (fun h259 => ?_)
      · refine g_iload1 C dL_act_312 ?_
        refine g_bipush C (nI 8) (by decide) dL_act_313 ?_
        refine g_icmp_geN C (by omega) (by omega) 477 dL_act_315 (by decide) (fun h315 => ?_) (fun h315 => ?_)
        · exfalso; omega
        · refine g_aload4 C dL_act_318 ?_
          refine g_iload9 C dL_act_320 ?_
          refine g_iald C hK hP 0 0 rfl rfl (by omega) (by decide) dL_act_322 ?_
          refine g_iconst C (nI 3) (by decide) dL_act_323 ?_
          refine g_iand C dL_act_324 ?_
          refine g_top (rd_k hkg hp) ?_
          refine g_iconst C (nI 3) (by decide) dL_act_325 ?_
          refine g_icmp_eq C 344 dL_act_326 (by decide) (fun h326 => ?_) (fun h326 => ?_)
          · refine g_iconst C (nI 1) (by decide) dL_act_344 ?_
            refine g_wd (k := 5) (n := 64) (by omega) (by omega) ?_
            exact g_zretM C (acp_mk hP hD (hk) (by omega) (by omega) (by omega) (hub.mono (by omega))) hS (bI_t trivial) dL_act_345
          · refine g_aload4 C dL_act_329 ?_
            refine g_iload9 C dL_act_331 ?_
            refine g_pkS C 2 rfl (c_L_vault hk (by omega)) wl_L_35 wt_L_vault wn_L wc_L_vault (by decide +kernel) ⟨rfl, rfl, by decide, by decide⟩ PKR_bl (PKR_at hK (P_l hP)) rfl rfl (by simp [Value.category]) ⟨by show _ ≤ 5; omega, by show _ ≤ 64; omega⟩ dL_act_333 ?_
            refine g_if_ge C 344 dL_act_336 (by decide) (fun h336 => ?_) (fun h336 => ?_)
            · refine g_iconst C (nI 1) (by decide) dL_act_344 ?_
              refine g_wd (k := 5) (n := 64) (by omega) (by omega) ?_
              exact g_zretM C (acp_mk hP hD (hk) (by omega) (by omega) (by omega) (hub.mono (by omega))) hS (bI_t trivial) dL_act_345
            · have h4 : d 4 p = -1 := Classical.byContradiction fun z => h336 ((sgn (rd_4 hkg hp)).mpr z)
              refine g_iload11 C dL_act_339 ?_
              refine g_if_eqB C 346 dL_act_341 (by decide) (fun h341 => ?_) (fun h341 => ?_)
              · refine g_iconst C (nI 1) (by decide) dL_act_346 ?_
                refine g_iload2 C dL_act_347 ?_
                refine g_iconst C (nI 5) (by decide) dL_act_348 ?_
                refine g_ishr C dL_act_349 ?_
                refine g_bipush C (nI 50) (by decide) dL_act_350 ?_
                refine g_pkS C 2 rfl (c_L_at (by first | decide | (split <;> omega)) (by first | decide | (split <;> omega))) wl_L_74 wt_L_at wn_L wc_L_at (by decide +kernel) ⟨rfl, rfl, by decide, by decide⟩ TR_bl (fun _ _ _ => trivial) rfl rfl (by simp [Value.category]) ⟨by show _ ≤ 5; omega, by show _ ≤ 64; omega⟩ dL_act_352 ?_
                obtain ⟨z, hz, ez⟩ : ∃ z, z < 50 ∧ ux (ax >>> (nI 5 &&& 31)) % 50 = z := ⟨_, Nat.mod_lt _ (by decide), rfl⟩
                rw [ez]
                refine g_iaddN C dL_act_355 ?_
                refine g_istore13 C rfl dL_act_356 ?_
                obtain ⟨fr, hfr, efr⟩ := from_n hk hub hyu hp
                refine g_aload4 C dL_act_358 ?_
                refine g_iload9 C dL_act_360 ?_
                refine g_pkS C 2 rfl (c_L_keeps hk (by omega)) wl_L_8 wt_L_keeps wn_L wc_L_keeps (by decide +kernel) ⟨rfl, rfl, by decide, by decide⟩ PKR_bl (PKR_at hK (P_l hP)) rfl rfl (by simp [Value.category]) ⟨by show _ ≤ 5; omega, by show _ ≤ 64; omega⟩ dL_act_362 ?_
                refine g_d1 (v := nI fr) 398 (fun K365 => ?_) ?_
                · skip
                  refine g_if_lt C 393 dL_act_365 (by decide) (fun h365 => ?_) (fun h365 => ?_)
                  · refine g_aload7 C dL_act_393 ?_
                    refine g_bipush C (nI 30) (by decide) dL_act_395 ?_
                    refine g_iald C hK hP 3 0 rfl rfl (by omega) (by decide) dL_act_397 ?_
                    refine g_top hkf.1 ?_
                    exact K365 _ (by rw [← efr, if_neg (fun z => z.1 ((sgn2 (rd_5s hkg hp)).mp h365))])
                  · refine g_aload4 C dL_act_368 ?_
                    refine g_iload9 C dL_act_370 ?_
                    refine g_pkS C 2 rfl (c_L_upto hk (by omega)) wl_L_32 wt_L_upto wn_L wc_L_upto (by decide +kernel) ⟨rfl, rfl, by decide, by decide⟩ PKR_bl (PKR_at hK (P_l hP)) rfl rfl (by simp [Value.category]) ⟨by show _ ≤ 5; omega, by show _ ≤ 64; omega⟩ dL_act_372 ?_
                    refine g_aload7 C dL_act_375 ?_
                    refine g_bipush C (nI 30) (by decide) dL_act_377 ?_
                    refine g_iald C hK hP 3 0 rfl rfl (by omega) (by decide) dL_act_379 ?_
                    refine g_top hkf.1 ?_
                    refine g_icmp_lt C 393 dL_act_380 (by decide) (fun h380 => ?_) (fun h380 => ?_)
                    · refine g_aload7 C dL_act_393 ?_
                      refine g_bipush C (nI 30) (by decide) dL_act_395 ?_
                      refine g_iald C hK hP 3 0 rfl rfl (by omega) (by decide) dL_act_397 ?_
                      refine g_top hkf.1 ?_
                      exact K365 _ (by rw [← efr, if_neg (fun z => absurd z.2 (Int32.not_le.mpr h380))])
                    · refine g_aload4 C dL_act_383 ?_
                      refine g_iload9 C dL_act_385 ?_
                      refine g_pkS C 2 rfl (c_L_upto hk (by omega)) wl_L_32 wt_L_upto wn_L wc_L_upto (by decide +kernel) ⟨rfl, rfl, by decide, by decide⟩ PKR_bl (PKR_at hK (P_l hP)) rfl rfl (by simp [Value.category]) ⟨by show _ ≤ 5; omega, by show _ ≤ 64; omega⟩ dL_act_387 ?_
                      refine g_goto C 398 dL_act_390 (by decide) ?_
                      exact K365 _ (by rw [← efr, if_pos ⟨fun z => h365 ((sgn2 (rd_5s hkg hp)).mpr z), Int32.not_lt.mp h380⟩])
                refine g_istore14 C rfl dL_act_398 ?_
                refine g_aload4 C dL_act_400 ?_
                refine g_iload9 C dL_act_402 ?_
                refine g_aload4 C dL_act_404 ?_
                refine g_iload9 C dL_act_406 ?_
                refine g_iald C hK hP 0 0 rfl rfl (by omega) (by decide) dL_act_408 ?_
                refine g_iconst C (nI 3) (by decide) dL_act_409 ?_
                refine g_iand C dL_act_410 ?_
                refine g_top (rd_k hkg hp) ?_
                refine g_iload8 C dL_act_411 ?_
                refine g_iconst C (nI 1) (by decide) dL_act_413 ?_
                refine g_iaddN C dL_act_414 ?_
                refine g_bipush C (nI 6) (by decide) dL_act_415 ?_
                refine g_ishl C dL_act_417 ?_
                refine g_ior C dL_act_418 ?_
                refine g_iload14 C dL_act_419 ?_
                refine g_iload13 C dL_act_421 ?_
                refine g_iaddN C dL_act_423 ?_
                refine g_bipush C (nI 10) (by decide) dL_act_424 ?_
                refine g_ishl C dL_act_426 ?_
                refine g_ior C dL_act_427 ?_
                refine g_iast C hK hP hD hS 0 0 rfl rfl (by omega) (by decide) dL_act_428 (fun H locs hP hD hS => ?_)
                have hP : va_P (dC, dI) vwCl (PW cI cJ t (upd x1 p ((d 3 p ||| (nI (f + 1) <<< (nI 6 &&& 31))) ||| (nI (fr + (1 + z)) <<< (nI 10 &&& 31)))) (x2) (x3) (x4) ++ (WY cI w v :: BW cI cL o sa ba a e tt n len (svg sv) tx (nI yn) d (q_rw d 0) ps sv)) H := hP
                have hD : va_D A (PW cI cJ t (upd x1 p ((d 3 p ||| (nI (f + 1) <<< (nI 6 &&& 31))) ||| (nI (fr + (1 + z)) <<< (nI 10 &&& 31)))) (x2) (x3) (x4) ++ (WY cI w v :: BW cI cL o sa ba a e tt n len (svg sv) tx (nI yn) d (q_rw d 0) ps sv)) := hD
                refine g_iconst C (nI 2) (by decide) dL_act_429 ?_
                refine g_iload13 C dL_act_430 ?_
                refine g_imulN C dL_act_432 ?_
                refine g_iconst C (nI 2) (by decide) dL_act_433 ?_
                refine g_aload7 C dL_act_434 ?_
                refine g_iload8 C dL_act_436 ?_
                refine g_iald C hK hP 3 0 rfl rfl (by omega) (by decide) dL_act_438 ?_
                refine g_top (hkf.2 f hf).1 ?_
                refine g_isub C dL_act_439 ?_
                refine g_imul C dL_act_440 ?_
                refine g_istore15 C rfl dL_act_441 ?_
                refine g_aload7 C dL_act_443 ?_
                refine g_bipush C (nI 10) (by decide) dL_act_445 ?_
                refine g_iload8 C dL_act_447 ?_
                refine g_iaddN C dL_act_449 ?_
                refine g_dup2 C rfl rfl dL_act_450 ?_
                refine g_iald C hK hP 3 0 rfl rfl (by omega) (by decide) dL_act_451 ?_
                refine g_iload15 C dL_act_452 ?_
                refine g_iadd C dL_act_454 ?_
                refine g_iast C hK hP hD hS 3 0 rfl rfl (by omega) (by decide) dL_act_455 (fun H locs hP hD hS => ?_)
                have hP : va_P (dC, dI) vwCl (PW cI cJ t (upd x1 p ((d 3 p ||| (nI (f + 1) <<< (nI 6 &&& 31))) ||| (nI (fr + (1 + z)) <<< (nI 10 &&& 31)))) (x2) (x3) (upd x4 (10 + f) (x4 (10 + f) + nI (2 * (1 + z)) * (nI 2 - d 0 f))) ++ (WY cI w v :: BW cI cL o sa ba a e tt n len (svg sv) tx (nI yn) d (q_rw d 0) ps sv)) H := hP
                have hD : va_D A (PW cI cJ t (upd x1 p ((d 3 p ||| (nI (f + 1) <<< (nI 6 &&& 31))) ||| (nI (fr + (1 + z)) <<< (nI 10 &&& 31)))) (x2) (x3) (upd x4 (10 + f) (x4 (10 + f) + nI (2 * (1 + z)) * (nI 2 - d 0 f))) ++ (WY cI w v :: BW cI cL o sa ba a e tt n len (svg sv) tx (nI yn) d (q_rw d 0) ps sv)) := hD
                refine g_aload0 C dL_act_456 ?_
                refine g_iload8 C dL_act_457 ?_
                refine g_iload9 C dL_act_459 ?_
                refine g_iload13 C dL_act_461 ?_
                refine g_xM (A1 := fun q => q ∈ (BW cI cL o sa ba a e tt n len (svg sv) tx (nI yn) d (q_rw d 0) ps sv).map Prod.fst) C 3 rfl (n_reserve hls hn6 hki (v := 1 + z) hf hp (by omega) (by omega) h326 h4 h341) wl_L_133 wi_X2_reserve wv_X2_reserve wc_X2_reserve (by decide +kernel) ⟨by decide, by decide⟩ BDM_bl (va_recv (ci := 2) (q0 := 0) hK (tw_b hP) rfl rfl) (BDM_at hK (tw_b hP) (tw_d hD).1 hZ hX hS (tw_d hD).2) rfl rfl (by simp [Value.category]) ⟨by show _ ≤ 5; omega, by show _ ≤ 64; omega⟩ hS (tw_d hD).2 dL_act_463 (fun H locs hB hk9 hS => ?_)
                obtain ⟨hP, hD⟩ := tw_put hP hD hB hk9
                refine g_iload15 C dL_act_466 ?_
                refine g_icmp_ne C 475 dL_act_468 (by decide) (fun h468 => ?_) (fun h468 => ?_)
                · exact (h468 (pr_mul hkf hf)).elim
                · refine g_iconst C (nI 1) (by decide) dL_act_471 ?_
                  refine g_goto C 476 dL_act_472 (by decide) ?_
                  refine g_wd (k := 5) (n := 64) (by omega) (by omega) ?_
                  exact g_zretM C (acp_mk hP hD ((up_res (v := 1 + z) hk hub hub4 hf hp (by omega) (by omega) h4 h341 hfr efr).1) (by omega) (by omega) (by omega) ((up_res (v := 1 + z) hk hub hub4 hf hp (by omega) (by omega) h4 h341 hfr efr).2)) hS (bI_t trivial) dL_act_476
              · refine g_iconst C (nI 1) (by decide) dL_act_344 ?_
                refine g_wd (k := 5) (n := 64) (by omega) (by omega) ?_
                exact g_zretM C (acp_mk hP hD (hk) (by omega) (by omega) (by omega) (hub.mono (by omega))) hS (bI_t trivial) dL_act_345
      · exfalso; omega
    · exfalso; omega
  · exfalso; omega

set_option maxHeartbeats 4000000 in
set_option maxRecDepth 100000 in
theorem c_L_act_vau {l : Launch} {dC : Nat → ClassId} {dI : Nat → Nat → Nat} {cI cL cJ : ClassId} {g1 g2 : Nat} {A : Nat → Prop} {t : Nat → Nat} {x1 x3 x4 : Nat → Int32} {x2 : Nat → Int64} {d : RW} {yn : Nat} (hk : PKI d yn x1 x2 x3 x4) (hyn : yn ≤ 1900) {o sa ba a e : Nat} {tt : Nat → Nat} {n len : Nat} {tx : Nat → Int32} {ps : PS} {sv : Nat → LO} (hls : l.stackTraces = false) {ax ay : Int32} {ac ub : Nat} (hn1 : 1 ≤ n) (hn6 : n ≤ 6) (hub : PKU d ub) (hyu : yn ≤ ub) (hub4 : ub ≤ 10000) (hac : ac = 8) : Met l yL_act (.code yL_act method_24_code 16 (some .boolean) :: WG) (rmC 9 5 64) (va_Pc [.ref o, .int (nI ac), .int ax, .int ay, .ref (t 0), .ref (t 1), .ref (t 2), .ref (t 3)] (TLN dC dI cI cL cJ g1 g2 A (PW cI cJ t x1 x2 x3 x4 ++ BW cI cL o sa ba a e tt n len (svg sv) tx (nI yn) d (q_rw d 0) ps sv))) (bq_M (some (.int (bI True))) (ACP dC dI cI cL cJ A o sa ba a e tt t len tx ps ub yn) A) 5 64 (A) := by
  refine bq_of [some (.ref o), some (.int (nI ac)), some (.int ax), some (.int ay), some (.ref (t 0)), some (.ref (t 1)), some (.ref (t 2)), some (.ref (t 3)), none, none, none, none, none, none, none, none] rfl rfl (Nat.le_of_ble_eq_true rfl) (by decide) ?_
  intro P_ E_ s M_ B_ T_ K_ C hv
  obtain ⟨⟨hP, hD, hK, hZ, hX⟩, hAA⟩ := hv
  have hS : va_S A s.heap s.heap [] := va_S.rf
  have hki := hk.1
  have hkg := hk.2.1
  have hkb := hk.2.2.1
  have hke := hk.2.2.2.1
  have hkf := hk.2.2.2.2
  refine g_iload2 C dL_act_0 ?_
  refine g_iconst C (nI 4) (by decide) dL_act_1 ?_
  refine g_pkS C 2 rfl (c_L_at (by first | decide | (split <;> omega)) (by first | decide | (split <;> omega))) wl_L_74 wt_L_at wn_L wc_L_at (by decide +kernel) ⟨rfl, rfl, by decide, by decide⟩ TR_bl (fun _ _ _ => trivial) rfl rfl (by simp [Value.category]) ⟨by show _ ≤ 5; omega, by show _ ≤ 64; omega⟩ dL_act_2 ?_
  obtain ⟨f0, hf0, ef0⟩ : ∃ f0, f0 < 4 ∧ ux ax % 4 = f0 := ⟨_, Nat.mod_lt _ (by decide), rfl⟩
  rw [ef0]
  refine g_iload3 C dL_act_5 ?_
  refine g_bipush C (nI 9) (by decide) dL_act_6 ?_
  refine g_ishr C dL_act_8 ?_
  refine g_iconst C (nI 3) (by decide) dL_act_9 ?_
  refine g_pkS C 2 rfl (c_L_at (by first | decide | (split <;> omega)) (by first | decide | (split <;> omega))) wl_L_74 wt_L_at wn_L wc_L_at (by decide +kernel) ⟨rfl, rfl, by decide, by decide⟩ TR_bl (fun _ _ _ => trivial) rfl rfl (by simp [Value.category]) ⟨by show _ ≤ 5; omega, by show _ ≤ 64; omega⟩ dL_act_10 ?_
  obtain ⟨z1, hz1, ez1⟩ : ∃ z1, z1 < 3 ∧ ux (ay >>> (nI 9 &&& 31)) % 3 = z1 := ⟨_, Nat.mod_lt _ (by decide), rfl⟩
  rw [ez1]
  refine g_d1 (v := nI (if z1 = 0 then 6 else 0)) 22 (fun K13 => ?_) ?_
  · skip
    refine g_if_neN C (by omega) 21 dL_act_13 (by decide) (fun h13 => ?_) (fun h13 => ?_)
    · refine g_iconst C (nI 0) (by decide) dL_act_21 ?_
      exact K13 _ (by rw [if_neg h13])
    · refine g_bipush C (nI 6) (by decide) dL_act_16 ?_
      refine g_goto C 22 dL_act_18 (by decide) ?_
      exact K13 _ (by rw [if_pos h13])
  refine g_iaddN C dL_act_22 ?_
  obtain ⟨f, hf, ef⟩ : ∃ f, f < 10 ∧ f0 + (if z1 = 0 then 6 else 0) = f := ⟨_, by split <;> omega, rfl⟩
  rw [ef]
  refine g_istore8 C rfl dL_act_23 ?_
  refine g_iload3 C dL_act_25 ?_
  refine g_iload2 C dL_act_26 ?_
  refine g_iconst C (nI 3) (by decide) dL_act_27 ?_
  refine g_ishr C dL_act_28 ?_
  refine g_iconst C (nI 4) (by decide) dL_act_29 ?_
  refine g_pkS C 2 rfl (c_L_at (by first | decide | (split <;> omega)) (by first | decide | (split <;> omega))) wl_L_74 wt_L_at wn_L wc_L_at (by decide +kernel) ⟨rfl, rfl, by decide, by decide⟩ TR_bl (fun _ _ _ => trivial) rfl rfl (by simp [Value.category]) ⟨by show _ ≤ 5; omega, by show _ ≤ 64; omega⟩ dL_act_30 ?_
  obtain ⟨z2, hz2, ez2⟩ : ∃ z2, z2 < 4 ∧ ux (ax >>> (nI 3 &&& 31)) % 4 = z2 := ⟨_, Nat.mod_lt _ (by decide), rfl⟩
  rw [ez2]
  refine g_d1 (v := nI (if z2 = 0 then 40 else 12)) 43 (fun K33 => ?_) ?_
  · skip
    refine g_if_neN C (by omega) 41 dL_act_33 (by decide) (fun h33 => ?_) (fun h33 => ?_)
    · refine g_bipush C (nI 12) (by decide) dL_act_41 ?_
      exact K33 _ (by rw [if_neg h33])
    · refine g_bipush C (nI 40) (by decide) dL_act_36 ?_
      refine g_goto C 43 dL_act_38 (by decide) ?_
      exact K33 _ (by rw [if_pos h33])
  refine g_pkS C 2 rfl (c_L_at (by first | decide | (split <;> omega)) (by first | decide | (split <;> omega))) wl_L_74 wt_L_at wn_L wc_L_at (by decide +kernel) ⟨rfl, rfl, by decide, by decide⟩ TR_bl (fun _ _ _ => trivial) rfl rfl (by simp [Value.category]) ⟨by show _ ≤ 5; omega, by show _ ≤ 64; omega⟩ dL_act_43 ?_
  obtain ⟨p, hp, ep⟩ : ∃ p, p < 40 ∧ ux ay % (if z2 = 0 then 40 else 12) = p := ⟨_, by split <;> omega, rfl⟩
  rw [ep]
  refine g_istore9 C rfl dL_act_46 ?_
  refine g_iload9 C dL_act_48 ?_
  refine g_aload7 C dL_act_50 ?_
  refine g_bipush C (nI 30) (by decide) dL_act_52 ?_
  refine g_iald C hK hP 3 0 rfl rfl (by omega) (by decide) dL_act_54 ?_
  refine g_top hkf.1 ?_
  refine g_aload4 C dL_act_55 ?_
  refine g_aload5 C dL_act_57 ?_
  refine g_pkS C 4 rfl (c_L_holder hk (by omega) (by omega)) wl_L_46 wt_L_holder wn_L wc_L_holder (by decide +kernel) ⟨rfl, rfl, by decide, by decide⟩ PKR_bl (PKR_at hK (P_l hP)) rfl rfl (by simp [Value.category]) ⟨by show _ ≤ 5; omega, by show _ ≤ 64; omega⟩ dL_act_59 ?_
  refine g_istore10 C rfl dL_act_62 ?_
  refine g_iload10 C dL_act_64 ?_
  refine g_d1 (v := bI (q_oth (q_hold d (nI yn) p) (nI f))) 81 (fun K66 => ?_) ?_
  · skip
    refine g_if_lt C 80 dL_act_66 (by decide) (fun h66 => ?_) (fun h66 => ?_)
    · refine g_iconst C (nI 0) (by decide) dL_act_80 ?_
      exact K66 _ (bI_f (fun z => z.1 ((sgn2 (hold_sg hk hp _)).mp h66)))
    · refine g_iload10 C dL_act_69 ?_
      refine g_iload8 C dL_act_71 ?_
      refine g_icmp_eq C 80 dL_act_73 (by decide) (fun h73 => ?_) (fun h73 => ?_)
      · refine g_iconst C (nI 0) (by decide) dL_act_80 ?_
        exact K66 _ (bI_f (fun z => z.2 h73))
      · refine g_iconst C (nI 1) (by decide) dL_act_76 ?_
        refine g_goto C 81 dL_act_77 (by decide) ?_
        exact K66 _ (bI_t ⟨fun z => h66 ((sgn2 (hold_sg hk hp _)).mpr z), h73⟩)
  refine g_istore11 C rfl dL_act_81 ?_
  refine g_bipush C (nI 40) (by decide) dL_act_83 ?_
  refine g_newa C hK hP hD hS hAA (by decide) (by decide) (by show _ ≤ 5; omega) (by show _ ≤ 64; omega) dL_act_85 (fun w H hP hD hS => ?_)
  have hP := P_perm tn_perm hP
  have hD := D_perm tn_perm hD
  refine g_astore12 C rfl dL_act_87 ?_
  refine g_iconst C (-1) (by decide) dL_act_89 ?_
  refine g_aload4 C dL_act_90 ?_
  refine g_aload5 C dL_act_92 ?_
  refine g_aload12 C dL_act_94 ?_
  refine g_mS C 4 rfl (c_L_spread hk (b := -1)) wl_L_70 wt_L_spread wn_L wc_L_spread (by decide +kernel) ⟨rfl, rfl, by decide, by decide⟩ SPM_bl (SPM_at hK (tw_w hP) (tw_dw hD).1) rfl rfl (by simp [Value.category]) ⟨by show _ ≤ 5; omega, by show _ ≤ 64; omega⟩ hS (fun q _ hq => (tw_dw hD).2 q hq) (fun q hq => (tw_dw hD).2 q hq) dL_act_96 (fun H locs hV _ hk9 hS => ?_)
  obtain ⟨v, hV, hvr⟩ := hV
  obtain ⟨hP, hD⟩ := tw_jn hP hD hV hk9
  have hwr : ∀ q, q < 40 → q_wr v q = q_rc d q := fun q hq => q_wr_rc hvr hq
  refine g_iload1 C dL_act_99 ?_
  refine g_iconst C (nI 3) (by decide) dL_act_100 ?_
  refine g_icmp_geN C (by omega) (by omega) 183 dL_act_101 (by decide) (fun h101 => ?_) (fun h101 => ?_)
  · refine g_iload1 C dL_act_183 ?_
    refine g_iconst C (nI 5) (by decide) dL_act_184 ?_
    refine g_icmp_geN C (by omega) (by omega) 257 dL_act_185 (by decide) (fun h185 => ?_) (fun h185 => ?_)
    · refine g_iload1 C dL_act_257 ?_
      refine g_iconst C (nI 5) (by decide) dL_act_258 ?_
      refine g_icmp_neN C (by omega) (by omega) 312 dL_act_259 (by decide) (fun h259 => ?_) (fun h259 => ?_)
      · refine g_iload1 C dL_act_312 ?_
        refine g_bipush C (nI 8) (by decide) dL_act_313 ?_
        refine g_icmp_geN C (by omega) (by omega) 477 dL_act_315 (by decide) (fun h315 => ?_) (fun h315 => ?_)
        · refine g_iload1 C dL_act_477 ?_
          refine g_bipush C (nI 8) (by decide) dL_act_478 ?_
          refine g_icmp_neN C (by omega) (by omega) 607 dL_act_480 (by decide) (fun h480 => ?_) (fun h480 => ?_)
          · exfalso; omega
          · refine g_aload4 C dL_act_483 ?_
            refine g_iload9 C dL_act_485 ?_
            refine g_iald C hK hP 0 0 rfl rfl (by omega) (by decide) dL_act_487 ?_
            refine g_iconst C (nI 3) (by decide) dL_act_488 ?_
            refine g_iand C dL_act_489 ?_
            refine g_top (rd_k hkg hp) ?_
            refine g_iconst C (nI 1) (by decide) dL_act_490 ?_
            refine g_icmp_gt C 534 dL_act_491 (by decide) (fun h491 => ?_) (fun h491 => ?_)
            · refine g_iconst C (nI 1) (by decide) dL_act_534 ?_
              refine g_wd (k := 5) (n := 64) (by omega) (by omega) ?_
              exact g_zretM C (acp_mk hP hD (hk) (by omega) (by omega) (by omega) (hub.mono (by omega))) hS (bI_t trivial) dL_act_535
            · refine g_aload4 C dL_act_494 ?_
              refine g_iload9 C dL_act_496 ?_
              refine g_pkS C 2 rfl (c_L_vault hk (by omega)) wl_L_35 wt_L_vault wn_L wc_L_vault (by decide +kernel) ⟨rfl, rfl, by decide, by decide⟩ PKR_bl (PKR_at hK (P_l hP)) rfl rfl (by simp [Value.category]) ⟨by show _ ≤ 5; omega, by show _ ≤ 64; omega⟩ dL_act_498 ?_
              refine g_if_ge C 534 dL_act_501 (by decide) (fun h501 => ?_) (fun h501 => ?_)
              · refine g_iconst C (nI 1) (by decide) dL_act_534 ?_
                refine g_wd (k := 5) (n := 64) (by omega) (by omega) ?_
                exact g_zretM C (acp_mk hP hD (hk) (by omega) (by omega) (by omega) (hub.mono (by omega))) hS (bI_t trivial) dL_act_535
              · have h4 : d 4 p = -1 := Classical.byContradiction fun z => h501 ((sgn (rd_4 hkg hp)).mpr z)
                refine g_aload5 C dL_act_504 ?_
                refine g_iload9 C dL_act_506 ?_
                refine g_pkS C 2 rfl (c_L_buried hk (by omega)) wl_L_38 wt_L_buried wn_L wc_L_buried (by decide +kernel) ⟨rfl, rfl, by decide, by decide⟩ PKR_bl (PKR_at hK (P_l hP)) rfl rfl (by simp [Value.category]) ⟨by show _ ≤ 5; omega, by show _ ≤ 64; omega⟩ dL_act_508 ?_
                have hbu : q_bur d p ≤ 3 := q_cn_le _ 3
                refine g_if_gtN C (by omega) 534 dL_act_511 (by decide) (fun h511 => ?_) (fun h511 => ?_)
                · refine g_iconst C (nI 1) (by decide) dL_act_534 ?_
                  refine g_wd (k := 5) (n := 64) (by omega) (by omega) ?_
                  exact g_zretM C (acp_mk hP hD (hk) (by omega) (by omega) (by omega) (hub.mono (by omega))) hS (bI_t trivial) dL_act_535
                · refine g_iload11 C dL_act_514 ?_
                  refine g_if_neB C 534 dL_act_516 (by decide) (fun h516 => ?_) (fun h516 => ?_)
                  · refine g_iconst C (nI 1) (by decide) dL_act_534 ?_
                    refine g_wd (k := 5) (n := 64) (by omega) (by omega) ?_
                    exact g_zretM C (acp_mk hP hD (hk) (by omega) (by omega) (by omega) (hub.mono (by omega))) hS (bI_t trivial) dL_act_535
                  · refine g_iload9 C dL_act_519 ?_
                    refine g_fj (F := q_wr v p = true) (st1 := []) 536 (fun K521 => ?_) (fun hF5 => ?_)
                    · skip
                      refine g_if_leN C (by omega) 536 dL_act_521 (by decide) (fun h521 => ?_) (fun h521 => ?_)
                      · exact K521 ((wr_by v p).mpr (Or.inl h521))
                      · refine g_iload9 C dL_act_524 ?_
                        refine g_aload12 C dL_act_526 ?_
                        refine g_pkS C 2 rfl (c_L_beside (by omega)) wl_L_42 wt_L_beside wn_L wc_L_beside (by decide +kernel) ⟨rfl, rfl, by decide, by decide⟩ PKV_bl (PKV_at hK (tw_v hP)) rfl rfl (by simp [Value.category]) ⟨by show _ ≤ 5; omega, by show _ ≤ 64; omega⟩ dL_act_528 ?_
                        refine g_if_neB C 536 dL_act_531 (by decide) (fun h531 => ?_) (fun h531 => ?_)
                        · exact K521 ((wr_by v p).mpr (Or.inr h531))
                        · refine g_iconst C (nI 1) (by decide) dL_act_534 ?_
                          refine g_wd (k := 5) (n := 64) (by omega) (by omega) ?_
                          exact g_zretM C (acp_mk hP hD (hk) (by omega) (by omega) (by omega) (hub.mono (by omega))) hS (bI_t trivial) dL_act_535
                    have h3 : d 3 p ≠ nI 3 := fun z => h491 (by rw [z]; decide)
                    have h32 : d 3 p ≠ nI 2 := fun z => h491 (by rw [z]; decide)
                    refine g_aload4 C dL_act_536 ?_
                    refine g_iload9 C dL_act_538 ?_
                    refine g_aload4 C dL_act_540 ?_
                    refine g_iload9 C dL_act_542 ?_
                    refine g_iald C hK hP 0 0 rfl rfl (by omega) (by decide) dL_act_544 ?_
                    refine g_iconst C (nI 3) (by decide) dL_act_545 ?_
                    refine g_iand C dL_act_546 ?_
                    refine g_top (rd_k hkg hp) ?_
                    refine g_iload8 C dL_act_547 ?_
                    refine g_iconst C (nI 1) (by decide) dL_act_549 ?_
                    refine g_iaddN C dL_act_550 ?_
                    refine g_iconst C (nI 2) (by decide) dL_act_551 ?_
                    refine g_ishl C dL_act_552 ?_
                    refine g_ior C dL_act_553 ?_
                    refine g_iast C hK hP hD hS 0 0 rfl rfl (by omega) (by decide) dL_act_554 (fun H locs hP hD hS => ?_)
                    have hP : va_P (dC, dI) vwCl (PW cI cJ t (upd x1 p (d 3 p ||| (nI (f + 1) <<< (nI 2 &&& 31)))) (x2) (x3) (x4) ++ (WY cI w v :: BW cI cL o sa ba a e tt n len (svg sv) tx (nI yn) d (q_rw d 0) ps sv)) H := hP
                    have hD : va_D A (PW cI cJ t (upd x1 p (d 3 p ||| (nI (f + 1) <<< (nI 2 &&& 31)))) (x2) (x3) (x4) ++ (WY cI w v :: BW cI cL o sa ba a e tt n len (svg sv) tx (nI yn) d (q_rw d 0) ps sv)) := hD
                    refine g_aload7 C dL_act_555 ?_
                    refine g_bipush C (nI 10) (by decide) dL_act_557 ?_
                    refine g_iload8 C dL_act_559 ?_
                    refine g_iaddN C dL_act_561 ?_
                    refine g_dup2 C rfl rfl dL_act_562 ?_
                    refine g_iald C hK hP 3 0 rfl rfl (by omega) (by decide) dL_act_563 ?_
                    refine g_sipush C (nI 200) (by decide) dL_act_564 ?_
                    refine g_bipush C (nI 100) (by decide) dL_act_567 ?_
                    refine g_aload7 C dL_act_569 ?_
                    refine g_iload8 C dL_act_571 ?_
                    refine g_iald C hK hP 3 0 rfl rfl (by omega) (by decide) dL_act_573 ?_
                    refine g_top (hkf.2 f hf).1 ?_
                    refine g_imul C dL_act_574 ?_
                    refine g_isub C dL_act_575 ?_
                    refine g_iadd C dL_act_576 ?_
                    refine g_iast C hK hP hD hS 3 0 rfl rfl (by omega) (by decide) dL_act_577 (fun H locs hP hD hS => ?_)
                    have hP : va_P (dC, dI) vwCl (PW cI cJ t (upd x1 p (d 3 p ||| (nI (f + 1) <<< (nI 2 &&& 31)))) (x2) (x3) (upd x4 (10 + f) (x4 (10 + f) + (nI 200 - nI 100 * d 0 f))) ++ (WY cI w v :: BW cI cL o sa ba a e tt n len (svg sv) tx (nI yn) d (q_rw d 0) ps sv)) H := hP
                    have hD : va_D A (PW cI cJ t (upd x1 p (d 3 p ||| (nI (f + 1) <<< (nI 2 &&& 31)))) (x2) (x3) (upd x4 (10 + f) (x4 (10 + f) + (nI 200 - nI 100 * d 0 f))) ++ (WY cI w v :: BW cI cL o sa ba a e tt n len (svg sv) tx (nI yn) d (q_rw d 0) ps sv)) := hD
                    refine g_aload0 C dL_act_578 ?_
                    refine g_iload8 C dL_act_579 ?_
                    refine g_iload9 C dL_act_581 ?_
                    refine g_xM (A1 := fun q => q ∈ (BW cI cL o sa ba a e tt n len (svg sv) tx (nI yn) d (q_rw d 0) ps sv).map Prod.fst) C 2 rfl (n_buildVault hls hn6 hki hf hp h3 h32 h4 (by omega) h516 ((hwr p hp).symm.trans hF5)) wl_L_136 wi_X2_buildVault wv_X2_buildVault wc_X2_buildVault (by decide +kernel) ⟨by decide, by decide⟩ BDM_bl (va_recv (ci := 2) (q0 := 0) hK (tw_b hP) rfl rfl) (BDM_at hK (tw_b hP) (tw_d hD).1 hZ hX hS (tw_d hD).2) rfl rfl (by simp [Value.category]) ⟨by show _ ≤ 5; omega, by show _ ≤ 64; omega⟩ hS (tw_d hD).2 dL_act_583 (fun H locs hB hk9 hS => ?_)
                    obtain ⟨hP, hD⟩ := tw_put hP hD hB hk9
                    refine g_sipush C (nI 200) (by decide) dL_act_586 ?_
                    refine g_bipush C (nI 100) (by decide) dL_act_589 ?_
                    refine g_aload7 C dL_act_591 ?_
                    refine g_iload8 C dL_act_593 ?_
                    refine g_iald C hK hP 3 0 rfl rfl (by omega) (by decide) dL_act_595 ?_
                    refine g_top ((upd_ne (by omega)).trans (hkf.2 f hf).1) ?_
                    refine g_imul C dL_act_596 ?_
                    refine g_isub C dL_act_597 ?_
                    refine g_icmp_ne C 605 dL_act_598 (by decide) (fun h598 => ?_) (fun h598 => ?_)
                    · exact (h598 (pr_100 hkf hf)).elim
                    · refine g_iconst C (nI 1) (by decide) dL_act_601 ?_
                      refine g_goto C 606 dL_act_602 (by decide) ?_
                      refine g_wd (k := 5) (n := 64) (by omega) (by omega) ?_
                      exact g_zretM C (acp_mk hP hD ((up_vau hk hub hf hp h3 h4).1) (by omega) (by omega) (by omega) ((up_vau hk hub hf hp h3 h4).2)) hS (bI_t trivial) dL_act_606
        · exfalso; omega
      · exfalso; omega
    · exfalso; omega
  · exfalso; omega

set_option maxHeartbeats 4000000 in
set_option maxRecDepth 100000 in
theorem c_L_act_clr {l : Launch} {dC : Nat → ClassId} {dI : Nat → Nat → Nat} {cI cL cJ : ClassId} {g1 g2 : Nat} {A : Nat → Prop} {t : Nat → Nat} {x1 x3 x4 : Nat → Int32} {x2 : Nat → Int64} {d : RW} {yn : Nat} (hk : PKI d yn x1 x2 x3 x4) (hyn : yn ≤ 1900) {o sa ba a e : Nat} {tt : Nat → Nat} {n len : Nat} {tx : Nat → Int32} {ps : PS} {sv : Nat → LO} (hls : l.stackTraces = false) {ax ay : Int32} {ac ub : Nat} (hn1 : 1 ≤ n) (hn6 : n ≤ 6) (hub : PKU d ub) (hyu : yn ≤ ub) (hub4 : ub ≤ 10000) (hac : ac = 9) : Met l yL_act (.code yL_act method_24_code 16 (some .boolean) :: WG) (rmC 9 5 64) (va_Pc [.ref o, .int (nI ac), .int ax, .int ay, .ref (t 0), .ref (t 1), .ref (t 2), .ref (t 3)] (TLN dC dI cI cL cJ g1 g2 A (PW cI cJ t x1 x2 x3 x4 ++ BW cI cL o sa ba a e tt n len (svg sv) tx (nI yn) d (q_rw d 0) ps sv))) (bq_M (some (.int (bI True))) (ACP dC dI cI cL cJ A o sa ba a e tt t len tx ps ub yn) A) 5 64 (A) := by
  refine bq_of [some (.ref o), some (.int (nI ac)), some (.int ax), some (.int ay), some (.ref (t 0)), some (.ref (t 1)), some (.ref (t 2)), some (.ref (t 3)), none, none, none, none, none, none, none, none] rfl rfl (Nat.le_of_ble_eq_true rfl) (by decide) ?_
  intro P_ E_ s M_ B_ T_ K_ C hv
  obtain ⟨⟨hP, hD, hK, hZ, hX⟩, hAA⟩ := hv
  have hS : va_S A s.heap s.heap [] := va_S.rf
  have hki := hk.1
  have hkg := hk.2.1
  have hkb := hk.2.2.1
  have hke := hk.2.2.2.1
  have hkf := hk.2.2.2.2
  refine g_iload2 C dL_act_0 ?_
  refine g_iconst C (nI 4) (by decide) dL_act_1 ?_
  refine g_pkS C 2 rfl (c_L_at (by first | decide | (split <;> omega)) (by first | decide | (split <;> omega))) wl_L_74 wt_L_at wn_L wc_L_at (by decide +kernel) ⟨rfl, rfl, by decide, by decide⟩ TR_bl (fun _ _ _ => trivial) rfl rfl (by simp [Value.category]) ⟨by show _ ≤ 5; omega, by show _ ≤ 64; omega⟩ dL_act_2 ?_
  obtain ⟨f0, hf0, ef0⟩ : ∃ f0, f0 < 4 ∧ ux ax % 4 = f0 := ⟨_, Nat.mod_lt _ (by decide), rfl⟩
  rw [ef0]
  refine g_iload3 C dL_act_5 ?_
  refine g_bipush C (nI 9) (by decide) dL_act_6 ?_
  refine g_ishr C dL_act_8 ?_
  refine g_iconst C (nI 3) (by decide) dL_act_9 ?_
  refine g_pkS C 2 rfl (c_L_at (by first | decide | (split <;> omega)) (by first | decide | (split <;> omega))) wl_L_74 wt_L_at wn_L wc_L_at (by decide +kernel) ⟨rfl, rfl, by decide, by decide⟩ TR_bl (fun _ _ _ => trivial) rfl rfl (by simp [Value.category]) ⟨by show _ ≤ 5; omega, by show _ ≤ 64; omega⟩ dL_act_10 ?_
  obtain ⟨z1, hz1, ez1⟩ : ∃ z1, z1 < 3 ∧ ux (ay >>> (nI 9 &&& 31)) % 3 = z1 := ⟨_, Nat.mod_lt _ (by decide), rfl⟩
  rw [ez1]
  refine g_d1 (v := nI (if z1 = 0 then 6 else 0)) 22 (fun K13 => ?_) ?_
  · skip
    refine g_if_neN C (by omega) 21 dL_act_13 (by decide) (fun h13 => ?_) (fun h13 => ?_)
    · refine g_iconst C (nI 0) (by decide) dL_act_21 ?_
      exact K13 _ (by rw [if_neg h13])
    · refine g_bipush C (nI 6) (by decide) dL_act_16 ?_
      refine g_goto C 22 dL_act_18 (by decide) ?_
      exact K13 _ (by rw [if_pos h13])
  refine g_iaddN C dL_act_22 ?_
  obtain ⟨f, hf, ef⟩ : ∃ f, f < 10 ∧ f0 + (if z1 = 0 then 6 else 0) = f := ⟨_, by split <;> omega, rfl⟩
  rw [ef]
  refine g_istore8 C rfl dL_act_23 ?_
  refine g_iload3 C dL_act_25 ?_
  refine g_iload2 C dL_act_26 ?_
  refine g_iconst C (nI 3) (by decide) dL_act_27 ?_
  refine g_ishr C dL_act_28 ?_
  refine g_iconst C (nI 4) (by decide) dL_act_29 ?_
  refine g_pkS C 2 rfl (c_L_at (by first | decide | (split <;> omega)) (by first | decide | (split <;> omega))) wl_L_74 wt_L_at wn_L wc_L_at (by decide +kernel) ⟨rfl, rfl, by decide, by decide⟩ TR_bl (fun _ _ _ => trivial) rfl rfl (by simp [Value.category]) ⟨by show _ ≤ 5; omega, by show _ ≤ 64; omega⟩ dL_act_30 ?_
  obtain ⟨z2, hz2, ez2⟩ : ∃ z2, z2 < 4 ∧ ux (ax >>> (nI 3 &&& 31)) % 4 = z2 := ⟨_, Nat.mod_lt _ (by decide), rfl⟩
  rw [ez2]
  refine g_d1 (v := nI (if z2 = 0 then 40 else 12)) 43 (fun K33 => ?_) ?_
  · skip
    refine g_if_neN C (by omega) 41 dL_act_33 (by decide) (fun h33 => ?_) (fun h33 => ?_)
    · refine g_bipush C (nI 12) (by decide) dL_act_41 ?_
      exact K33 _ (by rw [if_neg h33])
    · refine g_bipush C (nI 40) (by decide) dL_act_36 ?_
      refine g_goto C 43 dL_act_38 (by decide) ?_
      exact K33 _ (by rw [if_pos h33])
  refine g_pkS C 2 rfl (c_L_at (by first | decide | (split <;> omega)) (by first | decide | (split <;> omega))) wl_L_74 wt_L_at wn_L wc_L_at (by decide +kernel) ⟨rfl, rfl, by decide, by decide⟩ TR_bl (fun _ _ _ => trivial) rfl rfl (by simp [Value.category]) ⟨by show _ ≤ 5; omega, by show _ ≤ 64; omega⟩ dL_act_43 ?_
  obtain ⟨p, hp, ep⟩ : ∃ p, p < 40 ∧ ux ay % (if z2 = 0 then 40 else 12) = p := ⟨_, by split <;> omega, rfl⟩
  rw [ep]
  refine g_istore9 C rfl dL_act_46 ?_
  refine g_iload9 C dL_act_48 ?_
  refine g_aload7 C dL_act_50 ?_
  refine g_bipush C (nI 30) (by decide) dL_act_52 ?_
  refine g_iald C hK hP 3 0 rfl rfl (by omega) (by decide) dL_act_54 ?_
  refine g_top hkf.1 ?_
  refine g_aload4 C dL_act_55 ?_
  refine g_aload5 C dL_act_57 ?_
  refine g_pkS C 4 rfl (c_L_holder hk (by omega) (by omega)) wl_L_46 wt_L_holder wn_L wc_L_holder (by decide +kernel) ⟨rfl, rfl, by decide, by decide⟩ PKR_bl (PKR_at hK (P_l hP)) rfl rfl (by simp [Value.category]) ⟨by show _ ≤ 5; omega, by show _ ≤ 64; omega⟩ dL_act_59 ?_
  refine g_istore10 C rfl dL_act_62 ?_
  refine g_iload10 C dL_act_64 ?_
  refine g_d1 (v := bI (q_oth (q_hold d (nI yn) p) (nI f))) 81 (fun K66 => ?_) ?_
  · skip
    refine g_if_lt C 80 dL_act_66 (by decide) (fun h66 => ?_) (fun h66 => ?_)
    · refine g_iconst C (nI 0) (by decide) dL_act_80 ?_
      exact K66 _ (bI_f (fun z => z.1 ((sgn2 (hold_sg hk hp _)).mp h66)))
    · refine g_iload10 C dL_act_69 ?_
      refine g_iload8 C dL_act_71 ?_
      refine g_icmp_eq C 80 dL_act_73 (by decide) (fun h73 => ?_) (fun h73 => ?_)
      · refine g_iconst C (nI 0) (by decide) dL_act_80 ?_
        exact K66 _ (bI_f (fun z => z.2 h73))
      · refine g_iconst C (nI 1) (by decide) dL_act_76 ?_
        refine g_goto C 81 dL_act_77 (by decide) ?_
        exact K66 _ (bI_t ⟨fun z => h66 ((sgn2 (hold_sg hk hp _)).mpr z), h73⟩)
  refine g_istore11 C rfl dL_act_81 ?_
  refine g_bipush C (nI 40) (by decide) dL_act_83 ?_
  refine g_newa C hK hP hD hS hAA (by decide) (by decide) (by show _ ≤ 5; omega) (by show _ ≤ 64; omega) dL_act_85 (fun w H hP hD hS => ?_)
  have hP := P_perm tn_perm hP
  have hD := D_perm tn_perm hD
  refine g_astore12 C rfl dL_act_87 ?_
  refine g_iconst C (-1) (by decide) dL_act_89 ?_
  refine g_aload4 C dL_act_90 ?_
  refine g_aload5 C dL_act_92 ?_
  refine g_aload12 C dL_act_94 ?_
  refine g_mS C 4 rfl (c_L_spread hk (b := -1)) wl_L_70 wt_L_spread wn_L wc_L_spread (by decide +kernel) ⟨rfl, rfl, by decide, by decide⟩ SPM_bl (SPM_at hK (tw_w hP) (tw_dw hD).1) rfl rfl (by simp [Value.category]) ⟨by show _ ≤ 5; omega, by show _ ≤ 64; omega⟩ hS (fun q _ hq => (tw_dw hD).2 q hq) (fun q hq => (tw_dw hD).2 q hq) dL_act_96 (fun H locs hV _ hk9 hS => ?_)
  obtain ⟨v, hV, hvr⟩ := hV
  obtain ⟨hP, hD⟩ := tw_jn hP hD hV hk9
  have hwr : ∀ q, q < 40 → q_wr v q = q_rc d q := fun q hq => q_wr_rc hvr hq
  refine g_iload1 C dL_act_99 ?_
  refine g_iconst C (nI 3) (by decide) dL_act_100 ?_
  refine g_icmp_geN C (by omega) (by omega) 183 dL_act_101 (by decide) (fun h101 => ?_) (fun h101 => ?_)
  · refine g_iload1 C dL_act_183 ?_
    refine g_iconst C (nI 5) (by decide) dL_act_184 ?_
    refine g_icmp_geN C (by omega) (by omega) 257 dL_act_185 (by decide) (fun h185 => ?_) (fun h185 => ?_)
    · refine g_iload1 C dL_act_257 ?_
      refine g_iconst C (nI 5) (by decide) dL_act_258 ?_
      refine g_icmp_neN C (by omega) (by omega) 312 dL_act_259 (by decide) (fun h259 => ?_) (fun h259 => ?_)
      · refine g_iload1 C dL_act_312 ?_
        refine g_bipush C (nI 8) (by decide) dL_act_313 ?_
        refine g_icmp_geN C (by omega) (by omega) 477 dL_act_315 (by decide) (fun h315 => ?_) (fun h315 => ?_)
        · refine g_iload1 C dL_act_477 ?_
          refine g_bipush C (nI 8) (by decide) dL_act_478 ?_
          refine g_icmp_neN C (by omega) (by omega) 607 dL_act_480 (by decide) (fun h480 => ?_) (fun h480 => ?_)
          · refine g_iload1 C dL_act_607 ?_
            refine g_bipush C (nI 9) (by decide) dL_act_608 ?_
            refine g_icmp_neN C (by omega) (by omega) 670 dL_act_610 (by decide) (fun h610 => ?_) (fun h610 => ?_)
            · exfalso; omega
            · refine g_iload9 C dL_act_613 ?_
              refine g_aload7 C dL_act_615 ?_
              refine g_bipush C (nI 30) (by decide) dL_act_617 ?_
              refine g_iald C hK hP 3 0 rfl rfl (by omega) (by decide) dL_act_619 ?_
              refine g_top hkf.1 ?_
              refine g_aload4 C dL_act_620 ?_
              refine g_aload5 C dL_act_622 ?_
              refine g_pkS C 4 rfl (c_L_fresh hk (by omega) (by omega)) wl_L_53 wt_L_fresh wn_L wc_L_fresh (by decide +kernel) ⟨rfl, rfl, by decide, by decide⟩ PKR_bl (PKR_at hK (P_l hP)) rfl rfl (by simp [Value.category]) ⟨by show _ ≤ 5; omega, by show _ ≤ 64; omega⟩ dL_act_624 ?_
              have hrs : q_rsn d (nI yn) p ≤ 3 := q_cn_le _ 3
              refine g_if_leN C (by omega) 632 dL_act_627 (by decide) (fun h627 => ?_) (fun h627 => ?_)
              · refine g_aload5 C dL_act_632 ?_
                refine g_iload9 C dL_act_634 ?_
                refine g_pkS C 2 rfl (c_L_buried hk (by omega)) wl_L_38 wt_L_buried wn_L wc_L_buried (by decide +kernel) ⟨rfl, rfl, by decide, by decide⟩ PKR_bl (PKR_at hK (P_l hP)) rfl rfl (by simp [Value.category]) ⟨by show _ ≤ 5; omega, by show _ ≤ 64; omega⟩ dL_act_636 ?_
                refine g_istore13 C rfl dL_act_639 ?_
                refine g_aload5 C dL_act_641 ?_
                refine g_iload9 C dL_act_643 ?_
                refine g_lconst C 0 (by decide) dL_act_645 ?_
                refine g_lastq C hK hP hD hS 1 2 rfl rfl (by omega) (by decide) dL_act_646 (fun H locs hP hD hS => ?_)
                have hP : va_P (dC, dI) vwCl (PW cI cJ t (x1) (vp_updL x2 p 0) (x3) (x4) ++ (WY cI w v :: BW cI cL o sa ba a e tt n len (svg sv) tx (nI yn) d (q_rw d 0) ps sv)) H := hP
                have hD : va_D A (PW cI cJ t (x1) (vp_updL x2 p 0) (x3) (x4) ++ (WY cI w v :: BW cI cL o sa ba a e tt n len (svg sv) tx (nI yn) d (q_rw d 0) ps sv)) := hD
                refine g_aload6 C dL_act_647 ?_
                refine g_iload9 C dL_act_649 ?_
                refine g_iconst C (nI 0) (by decide) dL_act_651 ?_
                refine g_iast C hK hP hD hS 2 0 rfl rfl (by omega) (by decide) dL_act_652 (fun H locs hP hD hS => ?_)
                have hP : va_P (dC, dI) vwCl (PW cI cJ t (x1) (vp_updL x2 p 0) (upd x3 p (nI 0)) (x4) ++ (WY cI w v :: BW cI cL o sa ba a e tt n len (svg sv) tx (nI yn) d (q_rw d 0) ps sv)) H := hP
                have hD : va_D A (PW cI cJ t (x1) (vp_updL x2 p 0) (upd x3 p (nI 0)) (x4) ++ (WY cI w v :: BW cI cL o sa ba a e tt n len (svg sv) tx (nI yn) d (q_rw d 0) ps sv)) := hD
                refine g_aload0 C dL_act_653 ?_
                refine g_iload9 C dL_act_654 ?_
                refine g_xM (A1 := fun q => q ∈ (BW cI cL o sa ba a e tt n len (svg sv) tx (nI yn) d (q_rw d 0) ps sv).map Prod.fst) C 1 rfl (n_clear hls hn6 hki hp h627) wl_L_139 wi_X2_clear wv_X2_clear wc_X2_clear (by decide +kernel) ⟨by decide, by decide⟩ BDM_bl (va_recv (ci := 2) (q0 := 0) hK (tw_b hP) rfl rfl) (BDM_at hK (tw_b hP) (tw_d hD).1 hZ hX hS (tw_d hD).2) rfl rfl (by simp [Value.category]) ⟨by show _ ≤ 5; omega, by show _ ≤ 64; omega⟩ hS (tw_d hD).2 dL_act_656 (fun H locs hB hk9 hS => ?_)
                obtain ⟨hP, hD⟩ := tw_put hP hD hB hk9
                refine g_iload13 C dL_act_659 ?_
                refine g_icmp_ne C 668 dL_act_661 (by decide) (fun h661 => ?_) (fun h661 => ?_)
                · exact absurd rfl h661
                · refine g_iconst C (nI 1) (by decide) dL_act_664 ?_
                  refine g_goto C 669 dL_act_665 (by decide) ?_
                  refine g_wd (k := 5) (n := 64) (by omega) (by omega) ?_
                  exact g_zretM C (acp_mk hP hD (up_clr hk hp) (by omega) (by omega) (by omega) ((hub.cong rfl rfl).mono (by omega))) hS (bI_t trivial) dL_act_669
              · refine g_iconst C (nI 1) (by decide) dL_act_630 ?_
                refine g_wd (k := 5) (n := 64) (by omega) (by omega) ?_
                exact g_zretM C (acp_mk hP hD (hk) (by omega) (by omega) (by omega) (hub.mono (by omega))) hS (bI_t trivial) dL_act_631
          · exfalso; omega
        · exfalso; omega
      · exfalso; omega
    · exfalso; omega
  · exfalso; omega

set_option maxHeartbeats 4000000 in
set_option maxRecDepth 100000 in
theorem c_L_act_bur {l : Launch} {dC : Nat → ClassId} {dI : Nat → Nat → Nat} {cI cL cJ : ClassId} {g1 g2 : Nat} {A : Nat → Prop} {t : Nat → Nat} {x1 x3 x4 : Nat → Int32} {x2 : Nat → Int64} {d : RW} {yn : Nat} (hk : PKI d yn x1 x2 x3 x4) (hyn : yn ≤ 1900) {o sa ba a e : Nat} {tt : Nat → Nat} {n len : Nat} {tx : Nat → Int32} {ps : PS} {sv : Nat → LO} (hls : l.stackTraces = false) {ax ay : Int32} {ac ub : Nat} (hn1 : 1 ≤ n) (hn6 : n ≤ 6) (hub : PKU d ub) (hyu : yn ≤ ub) (hub4 : ub ≤ 10000) (hac : 9 < ac ∧ ac < 18) : Met l yL_act (.code yL_act method_24_code 16 (some .boolean) :: WG) (rmC 9 5 64) (va_Pc [.ref o, .int (nI ac), .int ax, .int ay, .ref (t 0), .ref (t 1), .ref (t 2), .ref (t 3)] (TLN dC dI cI cL cJ g1 g2 A (PW cI cJ t x1 x2 x3 x4 ++ BW cI cL o sa ba a e tt n len (svg sv) tx (nI yn) d (q_rw d 0) ps sv))) (bq_M (some (.int (bI True))) (ACP dC dI cI cL cJ A o sa ba a e tt t len tx ps ub yn) A) 5 64 (A) := by
  refine bq_of [some (.ref o), some (.int (nI ac)), some (.int ax), some (.int ay), some (.ref (t 0)), some (.ref (t 1)), some (.ref (t 2)), some (.ref (t 3)), none, none, none, none, none, none, none, none] rfl rfl (Nat.le_of_ble_eq_true rfl) (by decide) ?_
  intro P_ E_ s M_ B_ T_ K_ C hv
  obtain ⟨⟨hP, hD, hK, hZ, hX⟩, hAA⟩ := hv
  have hS : va_S A s.heap s.heap [] := va_S.rf
  have hki := hk.1
  have hkg := hk.2.1
  have hkb := hk.2.2.1
  have hke := hk.2.2.2.1
  have hkf := hk.2.2.2.2
  refine g_iload2 C dL_act_0 ?_
  refine g_iconst C (nI 4) (by decide) dL_act_1 ?_
  refine g_pkS C 2 rfl (c_L_at (by first | decide | (split <;> omega)) (by first | decide | (split <;> omega))) wl_L_74 wt_L_at wn_L wc_L_at (by decide +kernel) ⟨rfl, rfl, by decide, by decide⟩ TR_bl (fun _ _ _ => trivial) rfl rfl (by simp [Value.category]) ⟨by show _ ≤ 5; omega, by show _ ≤ 64; omega⟩ dL_act_2 ?_
  obtain ⟨f0, hf0, ef0⟩ : ∃ f0, f0 < 4 ∧ ux ax % 4 = f0 := ⟨_, Nat.mod_lt _ (by decide), rfl⟩
  rw [ef0]
  refine g_iload3 C dL_act_5 ?_
  refine g_bipush C (nI 9) (by decide) dL_act_6 ?_
  refine g_ishr C dL_act_8 ?_
  refine g_iconst C (nI 3) (by decide) dL_act_9 ?_
  refine g_pkS C 2 rfl (c_L_at (by first | decide | (split <;> omega)) (by first | decide | (split <;> omega))) wl_L_74 wt_L_at wn_L wc_L_at (by decide +kernel) ⟨rfl, rfl, by decide, by decide⟩ TR_bl (fun _ _ _ => trivial) rfl rfl (by simp [Value.category]) ⟨by show _ ≤ 5; omega, by show _ ≤ 64; omega⟩ dL_act_10 ?_
  obtain ⟨z1, hz1, ez1⟩ : ∃ z1, z1 < 3 ∧ ux (ay >>> (nI 9 &&& 31)) % 3 = z1 := ⟨_, Nat.mod_lt _ (by decide), rfl⟩
  rw [ez1]
  refine g_d1 (v := nI (if z1 = 0 then 6 else 0)) 22 (fun K13 => ?_) ?_
  · skip
    refine g_if_neN C (by omega) 21 dL_act_13 (by decide) (fun h13 => ?_) (fun h13 => ?_)
    · refine g_iconst C (nI 0) (by decide) dL_act_21 ?_
      exact K13 _ (by rw [if_neg h13])
    · refine g_bipush C (nI 6) (by decide) dL_act_16 ?_
      refine g_goto C 22 dL_act_18 (by decide) ?_
      exact K13 _ (by rw [if_pos h13])
  refine g_iaddN C dL_act_22 ?_
  obtain ⟨f, hf, ef⟩ : ∃ f, f < 10 ∧ f0 + (if z1 = 0 then 6 else 0) = f := ⟨_, by split <;> omega, rfl⟩
  rw [ef]
  refine g_istore8 C rfl dL_act_23 ?_
  refine g_iload3 C dL_act_25 ?_
  refine g_iload2 C dL_act_26 ?_
  refine g_iconst C (nI 3) (by decide) dL_act_27 ?_
  refine g_ishr C dL_act_28 ?_
  refine g_iconst C (nI 4) (by decide) dL_act_29 ?_
  refine g_pkS C 2 rfl (c_L_at (by first | decide | (split <;> omega)) (by first | decide | (split <;> omega))) wl_L_74 wt_L_at wn_L wc_L_at (by decide +kernel) ⟨rfl, rfl, by decide, by decide⟩ TR_bl (fun _ _ _ => trivial) rfl rfl (by simp [Value.category]) ⟨by show _ ≤ 5; omega, by show _ ≤ 64; omega⟩ dL_act_30 ?_
  obtain ⟨z2, hz2, ez2⟩ : ∃ z2, z2 < 4 ∧ ux (ax >>> (nI 3 &&& 31)) % 4 = z2 := ⟨_, Nat.mod_lt _ (by decide), rfl⟩
  rw [ez2]
  refine g_d1 (v := nI (if z2 = 0 then 40 else 12)) 43 (fun K33 => ?_) ?_
  · skip
    refine g_if_neN C (by omega) 41 dL_act_33 (by decide) (fun h33 => ?_) (fun h33 => ?_)
    · refine g_bipush C (nI 12) (by decide) dL_act_41 ?_
      exact K33 _ (by rw [if_neg h33])
    · refine g_bipush C (nI 40) (by decide) dL_act_36 ?_
      refine g_goto C 43 dL_act_38 (by decide) ?_
      exact K33 _ (by rw [if_pos h33])
  refine g_pkS C 2 rfl (c_L_at (by first | decide | (split <;> omega)) (by first | decide | (split <;> omega))) wl_L_74 wt_L_at wn_L wc_L_at (by decide +kernel) ⟨rfl, rfl, by decide, by decide⟩ TR_bl (fun _ _ _ => trivial) rfl rfl (by simp [Value.category]) ⟨by show _ ≤ 5; omega, by show _ ≤ 64; omega⟩ dL_act_43 ?_
  obtain ⟨p, hp, ep⟩ : ∃ p, p < 40 ∧ ux ay % (if z2 = 0 then 40 else 12) = p := ⟨_, by split <;> omega, rfl⟩
  rw [ep]
  refine g_istore9 C rfl dL_act_46 ?_
  refine g_iload9 C dL_act_48 ?_
  refine g_aload7 C dL_act_50 ?_
  refine g_bipush C (nI 30) (by decide) dL_act_52 ?_
  refine g_iald C hK hP 3 0 rfl rfl (by omega) (by decide) dL_act_54 ?_
  refine g_top hkf.1 ?_
  refine g_aload4 C dL_act_55 ?_
  refine g_aload5 C dL_act_57 ?_
  refine g_pkS C 4 rfl (c_L_holder hk (by omega) (by omega)) wl_L_46 wt_L_holder wn_L wc_L_holder (by decide +kernel) ⟨rfl, rfl, by decide, by decide⟩ PKR_bl (PKR_at hK (P_l hP)) rfl rfl (by simp [Value.category]) ⟨by show _ ≤ 5; omega, by show _ ≤ 64; omega⟩ dL_act_59 ?_
  refine g_istore10 C rfl dL_act_62 ?_
  refine g_iload10 C dL_act_64 ?_
  refine g_d1 (v := bI (q_oth (q_hold d (nI yn) p) (nI f))) 81 (fun K66 => ?_) ?_
  · skip
    refine g_if_lt C 80 dL_act_66 (by decide) (fun h66 => ?_) (fun h66 => ?_)
    · refine g_iconst C (nI 0) (by decide) dL_act_80 ?_
      exact K66 _ (bI_f (fun z => z.1 ((sgn2 (hold_sg hk hp _)).mp h66)))
    · refine g_iload10 C dL_act_69 ?_
      refine g_iload8 C dL_act_71 ?_
      refine g_icmp_eq C 80 dL_act_73 (by decide) (fun h73 => ?_) (fun h73 => ?_)
      · refine g_iconst C (nI 0) (by decide) dL_act_80 ?_
        exact K66 _ (bI_f (fun z => z.2 h73))
      · refine g_iconst C (nI 1) (by decide) dL_act_76 ?_
        refine g_goto C 81 dL_act_77 (by decide) ?_
        exact K66 _ (bI_t ⟨fun z => h66 ((sgn2 (hold_sg hk hp _)).mpr z), h73⟩)
  refine g_istore11 C rfl dL_act_81 ?_
  refine g_bipush C (nI 40) (by decide) dL_act_83 ?_
  refine g_newa C hK hP hD hS hAA (by decide) (by decide) (by show _ ≤ 5; omega) (by show _ ≤ 64; omega) dL_act_85 (fun w H hP hD hS => ?_)
  have hP := P_perm tn_perm hP
  have hD := D_perm tn_perm hD
  refine g_astore12 C rfl dL_act_87 ?_
  refine g_iconst C (-1) (by decide) dL_act_89 ?_
  refine g_aload4 C dL_act_90 ?_
  refine g_aload5 C dL_act_92 ?_
  refine g_aload12 C dL_act_94 ?_
  refine g_mS C 4 rfl (c_L_spread hk (b := -1)) wl_L_70 wt_L_spread wn_L wc_L_spread (by decide +kernel) ⟨rfl, rfl, by decide, by decide⟩ SPM_bl (SPM_at hK (tw_w hP) (tw_dw hD).1) rfl rfl (by simp [Value.category]) ⟨by show _ ≤ 5; omega, by show _ ≤ 64; omega⟩ hS (fun q _ hq => (tw_dw hD).2 q hq) (fun q hq => (tw_dw hD).2 q hq) dL_act_96 (fun H locs hV _ hk9 hS => ?_)
  obtain ⟨v, hV, hvr⟩ := hV
  obtain ⟨hP, hD⟩ := tw_jn hP hD hV hk9
  have hwr : ∀ q, q < 40 → q_wr v q = q_rc d q := fun q hq => q_wr_rc hvr hq
  refine g_iload1 C dL_act_99 ?_
  refine g_iconst C (nI 3) (by decide) dL_act_100 ?_
  refine g_icmp_geN C (by omega) (by omega) 183 dL_act_101 (by decide) (fun h101 => ?_) (fun h101 => ?_)
  · refine g_iload1 C dL_act_183 ?_
    refine g_iconst C (nI 5) (by decide) dL_act_184 ?_
    refine g_icmp_geN C (by omega) (by omega) 257 dL_act_185 (by decide) (fun h185 => ?_) (fun h185 => ?_)
    · refine g_iload1 C dL_act_257 ?_
      refine g_iconst C (nI 5) (by decide) dL_act_258 ?_
      refine g_icmp_neN C (by omega) (by omega) 312 dL_act_259 (by decide) (fun h259 => ?_) (fun h259 => ?_)
      · refine g_iload1 C dL_act_312 ?_
        refine g_bipush C (nI 8) (by decide) dL_act_313 ?_
        refine g_icmp_geN C (by omega) (by omega) 477 dL_act_315 (by decide) (fun h315 => ?_) (fun h315 => ?_)
        · refine g_iload1 C dL_act_477 ?_
          refine g_bipush C (nI 8) (by decide) dL_act_478 ?_
          refine g_icmp_neN C (by omega) (by omega) 607 dL_act_480 (by decide) (fun h480 => ?_) (fun h480 => ?_)
          · refine g_iload1 C dL_act_607 ?_
            refine g_bipush C (nI 9) (by decide) dL_act_608 ?_
            refine g_icmp_neN C (by omega) (by omega) 670 dL_act_610 (by decide) (fun h610 => ?_) (fun h610 => ?_)
            · refine g_iconst C (nI 3) (by decide) dL_act_670 ?_
              refine g_istore13 C rfl dL_act_671 ?_
              refine g_lp1 (fun (j : Nat) => 1 ≤ j ∧ j ≤ 3) (fun j => j) (fun j => [some (.ref o), some (.int (nI ac)), some (.int ax), some (.int ay), some (.ref (t 0)), some (.ref (t 1)), some (.ref (t 2)), some (.ref (t 3)), some (.int (nI f)), some (.int (nI p)), some (.int (q_hold d (nI yn) p)), some (.int (bI (q_oth (q_hold d (nI yn) p) (nI f)))), some (.ref w), some (.int (nI j)), none, none]) 3 ⟨by decide, by decide⟩ rfl ?_
              rintro j ⟨hj1, hj3⟩ ih
              try dsimp only at ih ⊢
              refine g_iload13 C dL_act_673 ?_
              refine g_iconst C (nI 1) (by decide) dL_act_675 ?_
              refine g_fj (F := True) (st1 := []) 708 (fun K676 => ?_) (fun _h708 => ?_)
              · skip
                refine g_icmp_leN C (by omega) (by omega) 708 dL_act_676 (by decide) (fun h676 => ?_) (fun h676 => ?_)
                · exact K676 (trivial)
                · refine g_iload8 C dL_act_679 ?_
                  refine g_iload9 C dL_act_681 ?_
                  refine g_iload13 C dL_act_683 ?_
                  refine g_aload7 C dL_act_685 ?_
                  refine g_bipush C (nI 30) (by decide) dL_act_687 ?_
                  refine g_iald C hK hP 3 0 rfl rfl (by omega) (by decide) dL_act_689 ?_
                  refine g_top hkf.1 ?_
                  refine g_aload4 C dL_act_690 ?_
                  refine g_aload5 C dL_act_692 ?_
                  refine g_aload12 C dL_act_694 ?_
                  refine g_pkS C 7 rfl (c_L_why hk (by omega) (by omega) (by omega) (by omega) (by omega)) wl_L_95 wt_L_why wn_L wc_L_why (by decide +kernel) ⟨rfl, rfl, by decide, by decide⟩ PKW_bl (PKW_at hK (tw_w hP)) rfl rfl (by simp [Value.category]) ⟨by show _ ≤ 5; omega, by show _ ≤ 64; omega⟩ dL_act_696 ?_
                  refine g_top (q_ref_rc (hwr _ hp)) ?_
                  refine g_if_eq C 708 dL_act_699 (by decide) (fun h699 => ?_) (fun h699 => ?_)
                  · exact K676 (trivial)
                  · refine g_iinc13 C (nI (j - 1)) rfl dL_act_702 (nI_dec1 (by omega)) ?_
                    refine g_goto C 673 dL_act_705 (by decide) ?_
                    exact ih (j - 1) ⟨by omega, by omega⟩ (by omega)
              refine g_iload8 C dL_act_708 ?_
              refine g_iload9 C dL_act_710 ?_
              refine g_iload13 C dL_act_712 ?_
              refine g_aload7 C dL_act_714 ?_
              refine g_bipush C (nI 30) (by decide) dL_act_716 ?_
              refine g_iald C hK hP 3 0 rfl rfl (by omega) (by decide) dL_act_718 ?_
              refine g_top hkf.1 ?_
              refine g_aload4 C dL_act_719 ?_
              refine g_aload5 C dL_act_721 ?_
              refine g_aload12 C dL_act_723 ?_
              refine g_pkS C 7 rfl (c_L_why hk (by omega) (by omega) (by omega) (by omega) (by omega)) wl_L_95 wt_L_why wn_L wc_L_why (by decide +kernel) ⟨rfl, rfl, by decide, by decide⟩ PKW_bl (PKW_at hK (tw_w hP)) rfl rfl (by simp [Value.category]) ⟨by show _ ≤ 5; omega, by show _ ≤ 64; omega⟩ dL_act_725 ?_
              refine g_top (q_ref_rc (hwr _ hp)) ?_
              refine g_if_eq C 750 dL_act_728 (by decide) (fun h728 => ?_) (fun h728 => ?_)
              · refine g_iload8 C dL_act_750 ?_
                refine g_iload9 C dL_act_752 ?_
                refine g_iload13 C dL_act_754 ?_
                refine g_aload4 C dL_act_756 ?_
                refine g_aload7 C dL_act_758 ?_
                refine g_pkS C 5 rfl (c_L_fee hk (by omega) (by omega) (by omega) (by omega)) wl_L_104 wt_L_fee wn_L wc_L_fee (by decide +kernel) ⟨rfl, rfl, by decide, by decide⟩ PKR_bl (PKR_at hK (P_l hP)) rfl rfl (by simp [Value.category]) ⟨by show _ ≤ 5; omega, by show _ ≤ 64; omega⟩ dL_act_760 ?_
                obtain ⟨z, hz1, hz2, ez⟩ := q_fee_rng (d := d) (y := nI yn) (f := f) (p := p) (dep := j) (by omega) (by omega)
                rw [ez]
                refine g_istore14 C rfl dL_act_763 ?_
                refine g_aload5 C dL_act_765 ?_
                refine g_iload9 C dL_act_767 ?_
                refine g_dup2 C rfl rfl dL_act_769 ?_
                refine g_laldq C hK hP 1 2 rfl rfl (by omega) (by decide) dL_act_770 ?_
                refine g_ldc2 C wq_L_142 dL_act_771 ?_
                refine g_bipush C (nI 16) (by decide) dL_act_774 ?_
                refine g_aload7 C dL_act_776 ?_
                refine g_bipush C (nI 30) (by decide) dL_act_778 ?_
                refine g_iald C hK hP 3 0 rfl rfl (by omega) (by decide) dL_act_780 ?_
                refine g_top hkf.1 ?_
                refine g_imulN C dL_act_781 ?_
                refine g_i2l C _ rfl dL_act_782 ?_
                refine g_ladd C dL_act_783 ?_
                refine g_iload8 C dL_act_784 ?_
                refine g_i2l C _ rfl dL_act_786 ?_
                refine g_ladd C dL_act_787 ?_
                refine g_bipush C (nI 16) (by decide) dL_act_788 ?_
                refine g_iload13 C dL_act_790 ?_
                refine g_imulN C dL_act_792 ?_
                refine g_bipush C (nI 16) (by decide) dL_act_793 ?_
                refine g_isubN C (by omega) dL_act_795 ?_
                refine g_lshl2 C dL_act_796 ?_
                refine g_lor C dL_act_797 ?_
                refine g_lastq C hK hP hD hS 1 2 rfl rfl (by omega) (by decide) dL_act_798 (fun H locs hP hD hS => ?_)
                have hP : va_P (dC, dI) vwCl (PW cI cJ t (x1) (vp_updL x2 p (x2 p ||| (((32768 + (nI (16 * yn)).toInt64) + (nI f).toInt64) <<< ((nI (16 * j - 16)).toInt64 &&& 63)))) (x3) (x4) ++ (WY cI w v :: BW cI cL o sa ba a e tt n len (svg sv) tx (nI yn) d (q_rw d 0) ps sv)) H := hP
                have hD : va_D A (PW cI cJ t (x1) (vp_updL x2 p (x2 p ||| (((32768 + (nI (16 * yn)).toInt64) + (nI f).toInt64) <<< ((nI (16 * j - 16)).toInt64 &&& 63)))) (x3) (x4) ++ (WY cI w v :: BW cI cL o sa ba a e tt n len (svg sv) tx (nI yn) d (q_rw d 0) ps sv)) := hD
                refine g_aload6 C dL_act_799 ?_
                refine g_iload9 C dL_act_801 ?_
                refine g_dup2 C rfl rfl dL_act_803 ?_
                refine g_iald C hK hP 2 0 rfl rfl (by omega) (by decide) dL_act_804 ?_
                refine g_iload14 C dL_act_805 ?_
                refine g_bipush C (nI 9) (by decide) dL_act_807 ?_
                refine g_iload13 C dL_act_809 ?_
                refine g_imulN C dL_act_811 ?_
                refine g_bipush C (nI 9) (by decide) dL_act_812 ?_
                refine g_isubN C (by omega) dL_act_814 ?_
                refine g_ishl C dL_act_815 ?_
                refine g_ior C dL_act_816 ?_
                refine g_iast C hK hP hD hS 2 0 rfl rfl (by omega) (by decide) dL_act_817 (fun H locs hP hD hS => ?_)
                have hP : va_P (dC, dI) vwCl (PW cI cJ t (x1) (vp_updL x2 p (x2 p ||| (((32768 + (nI (16 * yn)).toInt64) + (nI f).toInt64) <<< ((nI (16 * j - 16)).toInt64 &&& 63)))) (upd x3 p (x3 p ||| (nI z <<< (nI (9 * j - 9) &&& 31)))) (x4) ++ (WY cI w v :: BW cI cL o sa ba a e tt n len (svg sv) tx (nI yn) d (q_rw d 0) ps sv)) H := hP
                have hD : va_D A (PW cI cJ t (x1) (vp_updL x2 p (x2 p ||| (((32768 + (nI (16 * yn)).toInt64) + (nI f).toInt64) <<< ((nI (16 * j - 16)).toInt64 &&& 63)))) (upd x3 p (x3 p ||| (nI z <<< (nI (9 * j - 9) &&& 31)))) (x4) ++ (WY cI w v :: BW cI cL o sa ba a e tt n len (svg sv) tx (nI yn) d (q_rw d 0) ps sv)) := hD
                refine g_aload7 C dL_act_818 ?_
                refine g_bipush C (nI 10) (by decide) dL_act_820 ?_
                refine g_iload8 C dL_act_822 ?_
                refine g_iaddN C dL_act_824 ?_
                refine g_dup2 C rfl rfl dL_act_825 ?_
                refine g_iald C hK hP 3 0 rfl rfl (by omega) (by decide) dL_act_826 ?_
                refine g_iload14 C dL_act_827 ?_
                refine g_iadd C dL_act_829 ?_
                refine g_iast C hK hP hD hS 3 0 rfl rfl (by omega) (by decide) dL_act_830 (fun H locs hP hD hS => ?_)
                have hP : va_P (dC, dI) vwCl (PW cI cJ t (x1) (vp_updL x2 p (x2 p ||| (((32768 + (nI (16 * yn)).toInt64) + (nI f).toInt64) <<< ((nI (16 * j - 16)).toInt64 &&& 63)))) (upd x3 p (x3 p ||| (nI z <<< (nI (9 * j - 9) &&& 31)))) (upd x4 (10 + f) (x4 (10 + f) + nI z)) ++ (WY cI w v :: BW cI cL o sa ba a e tt n len (svg sv) tx (nI yn) d (q_rw d 0) ps sv)) H := hP
                have hD : va_D A (PW cI cJ t (x1) (vp_updL x2 p (x2 p ||| (((32768 + (nI (16 * yn)).toInt64) + (nI f).toInt64) <<< ((nI (16 * j - 16)).toInt64 &&& 63)))) (upd x3 p (x3 p ||| (nI z <<< (nI (9 * j - 9) &&& 31)))) (upd x4 (10 + f) (x4 (10 + f) + nI z)) ++ (WY cI w v :: BW cI cL o sa ba a e tt n len (svg sv) tx (nI yn) d (q_rw d 0) ps sv)) := hD
                refine g_aload7 C dL_act_831 ?_
                refine g_bipush C (nI 20) (by decide) dL_act_833 ?_
                refine g_iload8 C dL_act_835 ?_
                refine g_iaddN C dL_act_837 ?_
                refine g_dup2 C rfl rfl dL_act_838 ?_
                refine g_iald C hK hP 3 0 rfl rfl (by omega) (by decide) dL_act_839 ?_
                refine g_iconst C (nI 1) (by decide) dL_act_840 ?_
                refine g_iadd C dL_act_841 ?_
                refine g_iast C hK hP hD hS 3 0 rfl rfl (by omega) (by decide) dL_act_842 (fun H locs hP hD hS => ?_)
                have hP : va_P (dC, dI) vwCl (PW cI cJ t (x1) (vp_updL x2 p (x2 p ||| (((32768 + (nI (16 * yn)).toInt64) + (nI f).toInt64) <<< ((nI (16 * j - 16)).toInt64 &&& 63)))) (upd x3 p (x3 p ||| (nI z <<< (nI (9 * j - 9) &&& 31)))) (upd (upd x4 (10 + f) (x4 (10 + f) + nI z)) (20 + f) (upd x4 (10 + f) (x4 (10 + f) + nI z) (20 + f) + nI 1)) ++ (WY cI w v :: BW cI cL o sa ba a e tt n len (svg sv) tx (nI yn) d (q_rw d 0) ps sv)) H := hP
                have hD : va_D A (PW cI cJ t (x1) (vp_updL x2 p (x2 p ||| (((32768 + (nI (16 * yn)).toInt64) + (nI f).toInt64) <<< ((nI (16 * j - 16)).toInt64 &&& 63)))) (upd x3 p (x3 p ||| (nI z <<< (nI (9 * j - 9) &&& 31)))) (upd (upd x4 (10 + f) (x4 (10 + f) + nI z)) (20 + f) (upd x4 (10 + f) (x4 (10 + f) + nI z) (20 + f) + nI 1)) ++ (WY cI w v :: BW cI cL o sa ba a e tt n len (svg sv) tx (nI yn) d (q_rw d 0) ps sv)) := hD
                refine g_aload0 C dL_act_843 ?_
                refine g_iload8 C dL_act_844 ?_
                refine g_iload9 C dL_act_846 ?_
                refine g_iload13 C dL_act_848 ?_
                refine g_xM (A1 := fun q => q ∈ (BW cI cL o sa ba a e tt n len (svg sv) tx (nI yn) d (q_rw d 0) ps sv).map Prod.fst) C 3 rfl (n_bury hls hn6 hki hf hp hj1 hj3 (h728.trans nI_0.symm)) wl_L_144 wi_X2_bury wv_X2_bury wc_X2_bury (by decide +kernel) ⟨by decide, by decide⟩ BDM_bl (va_recv (ci := 2) (q0 := 0) hK (tw_b hP) rfl rfl) (BDM_at hK (tw_b hP) (tw_d hD).1 hZ hX hS (tw_d hD).2) rfl rfl (by simp [Value.category]) ⟨by show _ ≤ 5; omega, by show _ ≤ 64; omega⟩ hS (tw_d hD).2 dL_act_850 (fun H locs hB hk9 hS => ?_)
                obtain ⟨hP, hD⟩ := tw_put hP hD hB hk9
                refine g_iload14 C dL_act_853 ?_
                refine g_icmp_ne C 862 dL_act_855 (by decide) (fun h855 => ?_) (fun h855 => ?_)
                · exact (h855 ez).elim
                · refine g_iconst C (nI 1) (by decide) dL_act_858 ?_
                  refine g_goto C 863 dL_act_859 (by decide) ?_
                  refine g_wd (k := 5) (n := 64) (by omega) (by omega) ?_
                  exact g_zretM C (acp_mk hP hD (up_bury hk (by omega) hf hp hj1 hj3 hz2 ez (q_ref_kind (h728.trans nI_0.symm)) (ref_free hj1 hj3 h728)) (by omega) (by omega) (by omega) ((hub.cong rfl rfl).mono (by omega))) hS (bI_t trivial) dL_act_863
              · refine g_aload0 C dL_act_731 ?_
                refine g_iload8 C dL_act_732 ?_
                refine g_iload9 C dL_act_734 ?_
                refine g_iload13 C dL_act_736 ?_
                refine g_xR C 3 rfl (n_why hls hki (by omega) (by omega) (by omega) (by omega)) wl_L_99 wi_X2_why wv_X2_why wc_X2_why (by decide +kernel) ⟨by decide, by decide⟩ BDM_bl (va_recv (ci := 2) (q0 := 0) hK (tw_b hP) rfl rfl) (BDM_at hK (tw_b hP) (tw_db hD) hZ hX hS (fun _ h => h)) rfl rfl (by simp [Value.category]) ⟨by show _ ≤ 5; omega, by show _ ≤ 64; omega⟩ hS dL_act_738 (fun H locs hk9 hS => ?_)
                have hP := P_kept hP hk9
                refine g_if_eq C 748 dL_act_741 (by decide) (fun h741 => ?_) (fun h741 => ?_)
                · exact absurd h741 h728
                · refine g_iconst C (nI 1) (by decide) dL_act_744 ?_
                  refine g_goto C 749 dL_act_745 (by decide) ?_
                  refine g_wd (k := 5) (n := 64) (by omega) (by omega) ?_
                  exact g_zretM C (acp_mk hP hD (hk) (by omega) (by omega) (by omega) (hub.mono (by omega))) hS (bI_t trivial) dL_act_749
            · exfalso; omega
          · exfalso; omega
        · exfalso; omega
      · exfalso; omega
    · exfalso; omega
  · exfalso; omega

theorem c_L_act {l : Launch} {dC : Nat → ClassId} {dI : Nat → Nat → Nat} {cI cL cJ : ClassId} {g1 g2 : Nat} {A : Nat → Prop} {t : Nat → Nat} {x1 x3 x4 : Nat → Int32} {x2 : Nat → Int64} {d : RW} {yn : Nat} (hk : PKI d yn x1 x2 x3 x4) (hyn : yn ≤ 1900) {o sa ba a e : Nat} {tt : Nat → Nat} {n len : Nat} {tx : Nat → Int32} {ps : PS} {sv : Nat → LO} (hls : l.stackTraces = false) {ax ay : Int32} {ac ub : Nat} (hn1 : 1 ≤ n) (hn6 : n ≤ 6) (hub : PKU d ub) (hyu : yn ≤ ub) (hub4 : ub ≤ 10000) (hac : ac < 18) : Met l yL_act (.code yL_act method_24_code 16 (some .boolean) :: WG) (rmC 9 5 64) (va_Pc [.ref o, .int (nI ac), .int ax, .int ay, .ref (t 0), .ref (t 1), .ref (t 2), .ref (t 3)] (TLN dC dI cI cL cJ g1 g2 A (PW cI cJ t x1 x2 x3 x4 ++ BW cI cL o sa ba a e tt n len (svg sv) tx (nI yn) d (q_rw d 0) ps sv))) (bq_M (some (.int (bI True))) (ACP dC dI cI cL cJ A o sa ba a e tt t len tx ps ub yn) A) 5 64 (A) := by
  by_cases h1 : ac < 3
  · exact c_L_act_lay hk hyn hls hn1 hn6 hub hyu hub4 h1
  · by_cases h2 : ac < 5
    · exact c_L_act_pass hk hyn hls hn1 hn6 hub hyu hub4 ⟨by omega, h2⟩
    · by_cases h3 : ac = 5
      · exact c_L_act_par hk hyn hls hn1 hn6 hub hyu hub4 h3
      · by_cases h4 : ac < 8
        · exact c_L_act_res hk hyn hls hn1 hn6 hub hyu hub4 ⟨by omega, h4⟩
        · by_cases h5 : ac = 8
          · exact c_L_act_vau hk hyn hls hn1 hn6 hub hyu hub4 h5
          · by_cases h6 : ac = 9
            · exact c_L_act_clr hk hyn hls hn1 hn6 hub hyu hub4 h6
            · exact c_L_act_bur hk hyn hls hn1 hn6 hub hyu hub4 ⟨by omega, hac⟩
